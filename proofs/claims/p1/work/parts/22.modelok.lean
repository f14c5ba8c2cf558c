theorem d_Md_begin_0 : decode b_Md_begin 0 = .ok (.aload_n 0, 1) := by decide +kernel
theorem d_Md_begin_1 : decode b_Md_begin 1 = .ok (.iconst 0, 1) := by decide +kernel
theorem d_Md_begin_2 : decode b_Md_begin 2 = .ok (.putfield 297, 3) := by decide +kernel
theorem d_Md_begin_5 : decode b_Md_begin 5 = .ok (.aload_n 0, 1) := by decide +kernel
theorem d_Md_begin_6 : decode b_Md_begin 6 = .ok (.iload_n 1, 1) := by decide +kernel
theorem d_Md_begin_7 : decode b_Md_begin 7 = .ok (.invokevirtual 300, 3) := by decide +kernel
theorem d_Md_begin_10 : decode b_Md_begin 10 = .ok (.aload_n 0, 1) := by decide +kernel
theorem d_Md_begin_11 : decode b_Md_begin 11 = .ok (.iload_n 2, 1) := by decide +kernel
theorem d_Md_begin_12 : decode b_Md_begin 12 = .ok (.invokevirtual 300, 3) := by decide +kernel
theorem d_Md_begin_15 : decode b_Md_begin 15 = .ok (.aload_n 0, 1) := by decide +kernel
theorem d_Md_begin_16 : decode b_Md_begin 16 = .ok (.iconst 0, 1) := by decide +kernel
theorem d_Md_begin_17 : decode b_Md_begin 17 = .ok (.invokevirtual 300, 3) := by decide +kernel
theorem d_Md_begin_20 : decode b_Md_begin 20 = .ok (.aload_n 0, 1) := by decide +kernel
theorem d_Md_begin_21 : decode b_Md_begin 21 = .ok (.bipush 20, 2) := by decide +kernel
theorem d_Md_begin_23 : decode b_Md_begin 23 = .ok (.invokevirtual 300, 3) := by decide +kernel
theorem d_Md_begin_26 : decode b_Md_begin 26 = .ok (.iconst 0, 1) := by decide +kernel
theorem d_Md_begin_27 : decode b_Md_begin 27 = .ok (.istore 5, 2) := by decide +kernel
theorem d_Md_begin_29 : decode b_Md_begin 29 = .ok (.iload 5, 2) := by decide +kernel
theorem d_Md_begin_31 : decode b_Md_begin 31 = .ok (.bipush 16, 2) := by decide +kernel
theorem d_Md_begin_33 : decode b_Md_begin 33 = .ok (.if_icmp .ge 42, 3) := by decide +kernel
theorem d_Md_begin_36 : decode b_Md_begin 36 = .ok (.aload_n 0, 1) := by decide +kernel
theorem d_Md_begin_37 : decode b_Md_begin 37 = .ok (.lload_n 3, 1) := by decide +kernel
theorem d_Md_begin_38 : decode b_Md_begin 38 = .ok (.bipush 8, 2) := by decide +kernel
theorem d_Md_begin_40 : decode b_Md_begin 40 = .ok (.iload 5, 2) := by decide +kernel
theorem d_Md_begin_42 : decode b_Md_begin 42 = .ok (.bipush 8, 2) := by decide +kernel
theorem d_Md_begin_44 : decode b_Md_begin 44 = .ok (.irem, 1) := by decide +kernel
theorem d_Md_begin_45 : decode b_Md_begin 45 = .ok (.imul, 1) := by decide +kernel
theorem d_Md_begin_46 : decode b_Md_begin 46 = .ok (.lshr, 1) := by decide +kernel
theorem d_Md_begin_47 : decode b_Md_begin 47 = .ok (.ldc2_w 280, 3) := by decide +kernel
theorem d_Md_begin_50 : decode b_Md_begin 50 = .ok (.land, 1) := by decide +kernel
theorem d_Md_begin_51 : decode b_Md_begin 51 = .ok (.l2i, 1) := by decide +kernel
theorem d_Md_begin_52 : decode b_Md_begin 52 = .ok (.iload 5, 2) := by decide +kernel
theorem d_Md_begin_54 : decode b_Md_begin 54 = .ok (.bipush 8, 2) := by decide +kernel
theorem d_Md_begin_65 : decode b_Md_begin 65 = .ok (.ixor, 1) := by decide +kernel
theorem d_Md_begin_66 : decode b_Md_begin 66 = .ok (.invokevirtual 300, 3) := by decide +kernel
theorem d_Md_begin_69 : decode b_Md_begin 69 = .ok (.iinc 5 1, 3) := by decide +kernel
theorem d_Md_begin_72 : decode b_Md_begin 72 = .ok (.goto (-43), 3) := by decide +kernel
theorem d_Md_begin_56 : decode b_Md_begin 56 = .ok (.if_icmp .ge 7, 3) := by decide +kernel
theorem d_Md_begin_63 : decode b_Md_begin 63 = .ok (.bipush 90, 2) := by decide +kernel
theorem d_Md_begin_59 : decode b_Md_begin 59 = .ok (.iconst 0, 1) := by decide +kernel
theorem d_Md_begin_60 : decode b_Md_begin 60 = .ok (.goto 5, 3) := by decide +kernel
theorem d_Md_begin_75 : decode b_Md_begin 75 = .ok (.return_, 1) := by decide +kernel
theorem d_Md_draft_15 : decode b_Md_draft 15 = .ok (.iconst 1, 1) := by decide +kernel
theorem d_Md_draft_16 : decode b_Md_draft 16 = .ok (.goto 4, 3) := by decide +kernel
theorem d_Md_draft_26 : decode b_Md_draft 26 = .ok (.aload_n 0, 1) := by decide +kernel
theorem d_Md_draft_27 : decode b_Md_draft 27 = .ok (.iload_n 1, 1) := by decide +kernel
theorem d_Md_draft_28 : decode b_Md_draft 28 = .ok (.iload_n 2, 1) := by decide +kernel
theorem d_Md_draft_29 : decode b_Md_draft 29 = .ok (.lload_n 3, 1) := by decide +kernel
theorem d_Md_draft_30 : decode b_Md_draft 30 = .ok (.invokevirtual 239, 3) := by decide +kernel
theorem d_Md_put_25 : decode b_Md_put 25 = .ok (.iconst 1, 1) := by decide +kernel
theorem d_Md_put_26 : decode b_Md_put 26 = .ok (.goto 4, 3) := by decide +kernel
theorem d_Md_put_36 : decode b_Md_put 36 = .ok (.aload_n 0, 1) := by decide +kernel
theorem d_Md_put_37 : decode b_Md_put 37 = .ok (.iload_n 1, 1) := by decide +kernel
theorem d_Md_put_38 : decode b_Md_put 38 = .ok (.iload_n 2, 1) := by decide +kernel
theorem d_Md_put_39 : decode b_Md_put 39 = .ok (.invokevirtual 310, 3) := by decide +kernel
theorem d_Md_put_42 : decode b_Md_put 42 = .ok (.ifCond .ne 5, 3) := by decide +kernel
theorem d_Md_put_47 : decode b_Md_put 47 = .ok (.iconst 0, 1) := by decide +kernel
theorem d_Md_put_48 : decode b_Md_put 48 = .ok (.istore 4, 2) := by decide +kernel
theorem d_Md_put_50 : decode b_Md_put 50 = .ok (.iload 4, 2) := by decide +kernel
theorem d_Md_put_52 : decode b_Md_put 52 = .ok (.iload_n 2, 1) := by decide +kernel
theorem d_Md_put_53 : decode b_Md_put 53 = .ok (.if_icmp .ge 17, 3) := by decide +kernel
theorem d_Md_put_56 : decode b_Md_put 56 = .ok (.aload_n 0, 1) := by decide +kernel
theorem d_Md_put_57 : decode b_Md_put 57 = .ok (.iload_n 3, 1) := by decide +kernel
theorem d_Md_put_58 : decode b_Md_put 58 = .ok (.iload 4, 2) := by decide +kernel
theorem d_Md_put_60 : decode b_Md_put 60 = .ok (.iadd, 1) := by decide +kernel
theorem d_Md_put_61 : decode b_Md_put 61 = .ok (.invokevirtual 300, 3) := by decide +kernel
theorem d_Md_put_64 : decode b_Md_put 64 = .ok (.iinc 4 1, 3) := by decide +kernel
theorem d_Md_put_67 : decode b_Md_put 67 = .ok (.goto (-17), 3) := by decide +kernel
theorem d_Md_put_70 : decode b_Md_put 70 = .ok (.aload_n 0, 1) := by decide +kernel
theorem d_Md_put_71 : decode b_Md_put 71 = .ok (.invokevirtual 314, 3) := by decide +kernel
theorem d_Md_put_74 : decode b_Md_put 74 = .ok (.ireturn, 1) := by decide +kernel
theorem d_Md_number_11 : decode b_Md_number 11 = .ok (.aload_n 0, 1) := by decide +kernel
theorem d_Md_number_12 : decode b_Md_number 12 = .ok (.iload_n 1, 1) := by decide +kernel
theorem d_Md_number_13 : decode b_Md_number 13 = .ok (.iconst 4, 1) := by decide +kernel
theorem d_Md_number_14 : decode b_Md_number 14 = .ok (.invokevirtual 310, 3) := by decide +kernel
theorem d_Md_number_17 : decode b_Md_number 17 = .ok (.ifCond .ne 5, 3) := by decide +kernel
theorem d_Md_number_22 : decode b_Md_number 22 = .ok (.bipush 24, 2) := by decide +kernel
theorem d_Md_number_24 : decode b_Md_number 24 = .ok (.istore_n 3, 1) := by decide +kernel
theorem d_Md_number_25 : decode b_Md_number 25 = .ok (.iload_n 3, 1) := by decide +kernel
theorem d_Md_number_26 : decode b_Md_number 26 = .ok (.ifCond .lt 16, 3) := by decide +kernel
theorem d_Md_number_29 : decode b_Md_number 29 = .ok (.aload_n 0, 1) := by decide +kernel
theorem d_Md_number_30 : decode b_Md_number 30 = .ok (.iload_n 2, 1) := by decide +kernel
theorem d_Md_number_31 : decode b_Md_number 31 = .ok (.iload_n 3, 1) := by decide +kernel
theorem d_Md_number_32 : decode b_Md_number 32 = .ok (.ishr, 1) := by decide +kernel
theorem d_Md_number_33 : decode b_Md_number 33 = .ok (.invokevirtual 300, 3) := by decide +kernel
theorem d_Md_number_36 : decode b_Md_number 36 = .ok (.iinc 3 (-8), 3) := by decide +kernel
theorem d_Md_number_39 : decode b_Md_number 39 = .ok (.goto (-14), 3) := by decide +kernel
theorem d_Md_number_42 : decode b_Md_number 42 = .ok (.aload_n 0, 1) := by decide +kernel
theorem d_Md_number_43 : decode b_Md_number 43 = .ok (.invokevirtual 314, 3) := by decide +kernel
theorem d_Md_number_46 : decode b_Md_number 46 = .ok (.ireturn, 1) := by decide +kernel
theorem d_Md_name_11 : decode b_Md_name 11 = .ok (.iconst 1, 1) := by decide +kernel
theorem d_Md_name_12 : decode b_Md_name 12 = .ok (.goto 4, 3) := by decide +kernel
theorem d_Md_name_22 : decode b_Md_name 22 = .ok (.aload_n 0, 1) := by decide +kernel
theorem d_Md_name_23 : decode b_Md_name 23 = .ok (.iconst 1, 1) := by decide +kernel
theorem d_Md_name_24 : decode b_Md_name 24 = .ok (.iconst 3, 1) := by decide +kernel
theorem d_Md_name_25 : decode b_Md_name 25 = .ok (.invokevirtual 310, 3) := by decide +kernel
theorem d_Md_name_28 : decode b_Md_name 28 = .ok (.ifCond .ne 5, 3) := by decide +kernel
theorem d_Md_name_33 : decode b_Md_name 33 = .ok (.aload_n 0, 1) := by decide +kernel
theorem d_Md_name_34 : decode b_Md_name 34 = .ok (.bipush 117, 2) := by decide +kernel
theorem d_Md_name_36 : decode b_Md_name 36 = .ok (.invokevirtual 300, 3) := by decide +kernel
theorem d_Md_name_39 : decode b_Md_name 39 = .ok (.aload_n 0, 1) := by decide +kernel
theorem d_Md_name_40 : decode b_Md_name 40 = .ok (.bipush 48, 2) := by decide +kernel
theorem d_Md_name_42 : decode b_Md_name 42 = .ok (.iload_n 1, 1) := by decide +kernel
theorem d_Md_name_43 : decode b_Md_name 43 = .ok (.bipush 10, 2) := by decide +kernel
theorem d_Md_name_45 : decode b_Md_name 45 = .ok (.idiv, 1) := by decide +kernel
theorem d_Md_name_46 : decode b_Md_name 46 = .ok (.iadd, 1) := by decide +kernel
theorem d_Md_name_47 : decode b_Md_name 47 = .ok (.invokevirtual 300, 3) := by decide +kernel
theorem d_Md_name_50 : decode b_Md_name 50 = .ok (.aload_n 0, 1) := by decide +kernel
theorem d_Md_name_51 : decode b_Md_name 51 = .ok (.bipush 48, 2) := by decide +kernel
theorem d_Md_name_53 : decode b_Md_name 53 = .ok (.iload_n 1, 1) := by decide +kernel
theorem d_Md_name_54 : decode b_Md_name 54 = .ok (.bipush 10, 2) := by decide +kernel
theorem d_Md_name_56 : decode b_Md_name 56 = .ok (.irem, 1) := by decide +kernel
theorem d_Md_name_57 : decode b_Md_name 57 = .ok (.iadd, 1) := by decide +kernel
theorem d_Md_name_58 : decode b_Md_name 58 = .ok (.invokevirtual 300, 3) := by decide +kernel
theorem d_Md_name_61 : decode b_Md_name 61 = .ok (.aload_n 0, 1) := by decide +kernel
theorem d_Md_name_62 : decode b_Md_name 62 = .ok (.invokevirtual 314, 3) := by decide +kernel
theorem d_Md_name_65 : decode b_Md_name 65 = .ok (.ireturn, 1) := by decide +kernel
theorem d_Md_hello_11 : decode b_Md_hello 11 = .ok (.aload_n 0, 1) := by decide +kernel
theorem d_Md_hello_12 : decode b_Md_hello 12 = .ok (.bipush 79, 2) := by decide +kernel
theorem d_Md_hello_14 : decode b_Md_hello 14 = .ok (.iconst 5, 1) := by decide +kernel
theorem d_Md_hello_15 : decode b_Md_hello 15 = .ok (.invokevirtual 310, 3) := by decide +kernel
theorem d_Md_hello_18 : decode b_Md_hello 18 = .ok (.ifCond .ne 5, 3) := by decide +kernel
theorem d_Md_hello_23 : decode b_Md_hello 23 = .ok (.aload_n 0, 1) := by decide +kernel
theorem d_Md_hello_24 : decode b_Md_hello 24 = .ok (.iconst 2, 1) := by decide +kernel
theorem d_Md_hello_25 : decode b_Md_hello 25 = .ok (.invokevirtual 300, 3) := by decide +kernel
theorem d_Md_hello_28 : decode b_Md_hello 28 = .ok (.aload_n 0, 1) := by decide +kernel
theorem d_Md_hello_29 : decode b_Md_hello 29 = .ok (.iload_n 1, 1) := by decide +kernel
theorem d_Md_hello_30 : decode b_Md_hello 30 = .ok (.invokevirtual 300, 3) := by decide +kernel
theorem d_Md_hello_33 : decode b_Md_hello 33 = .ok (.aload_n 0, 1) := by decide +kernel
theorem d_Md_hello_34 : decode b_Md_hello 34 = .ok (.iconst 0, 1) := by decide +kernel
theorem d_Md_hello_35 : decode b_Md_hello 35 = .ok (.invokevirtual 300, 3) := by decide +kernel
theorem d_Md_hello_38 : decode b_Md_hello 38 = .ok (.aload_n 0, 1) := by decide +kernel
theorem d_Md_hello_39 : decode b_Md_hello 39 = .ok (.iconst 5, 1) := by decide +kernel
theorem d_Md_hello_40 : decode b_Md_hello 40 = .ok (.invokevirtual 300, 3) := by decide +kernel
theorem d_Md_hello_43 : decode b_Md_hello 43 = .ok (.aload_n 0, 1) := by decide +kernel
theorem d_Md_hello_44 : decode b_Md_hello 44 = .ok (.iconst 1, 1) := by decide +kernel
theorem d_Md_hello_45 : decode b_Md_hello 45 = .ok (.invokevirtual 300, 3) := by decide +kernel
theorem d_Md_hello_48 : decode b_Md_hello 48 = .ok (.aload_n 0, 1) := by decide +kernel
theorem d_Md_hello_49 : decode b_Md_hello 49 = .ok (.invokevirtual 314, 3) := by decide +kernel
theorem d_Md_hello_52 : decode b_Md_hello 52 = .ok (.ireturn, 1) := by decide +kernel
theorem d_Md_reply_12 : decode b_Md_reply 12 = .ok (.iconst 1, 1) := by decide +kernel
theorem d_Md_reply_13 : decode b_Md_reply 13 = .ok (.goto 4, 3) := by decide +kernel
theorem d_Md_reply_23 : decode b_Md_reply 23 = .ok (.aload_n 0, 1) := by decide +kernel
theorem d_Md_reply_24 : decode b_Md_reply 24 = .ok (.getfield 325, 3) := by decide +kernel
theorem d_Md_reply_27 : decode b_Md_reply 27 = .ok (.ifCond .eq 14, 3) := by decide +kernel
theorem d_Md_reply_52 : decode b_Md_reply 52 = .ok (.iconst (-1), 1) := by decide +kernel
theorem d_Md_size_0 : decode b_Md_size 0 = .ok (.aload_n 0, 1) := by decide +kernel
theorem d_Md_size_1 : decode b_Md_size 1 = .ok (.iconst 0, 1) := by decide +kernel
theorem d_Md_size_2 : decode b_Md_size 2 = .ok (.putfield 243, 3) := by decide +kernel
theorem d_Md_size_5 : decode b_Md_size 5 = .ok (.aload_n 0, 1) := by decide +kernel
theorem d_Md_size_6 : decode b_Md_size 6 = .ok (.getfield 325, 3) := by decide +kernel
theorem d_Md_size_9 : decode b_Md_size 9 = .ok (.ireturn, 1) := by decide +kernel
theorem d_Md_ticks_13 : decode b_Md_ticks 13 = .ok (.aload_n 0, 1) := by decide +kernel
theorem d_Md_ticks_14 : decode b_Md_ticks 14 = .ok (.getfield 380, 3) := by decide +kernel
theorem d_Md_ticks_17 : decode b_Md_ticks 17 = .ok (.iload_n 1, 1) := by decide +kernel
theorem d_Md_ticks_18 : decode b_Md_ticks 18 = .ok (.iadd, 1) := by decide +kernel
theorem d_Md_ticks_19 : decode b_Md_ticks 19 = .ok (.ldc_w 454, 3) := by decide +kernel
theorem d_Md_ticks_22 : decode b_Md_ticks 22 = .ok (.if_icmp .gt 7, 3) := by decide +kernel
theorem d_Md_ticks_25 : decode b_Md_ticks 25 = .ok (.iconst 1, 1) := by decide +kernel
theorem d_Md_ticks_26 : decode b_Md_ticks 26 = .ok (.goto 4, 3) := by decide +kernel
theorem d_Md_ticks_38 : decode b_Md_ticks 38 = .ok (.aload_n 0, 1) := by decide +kernel
theorem d_Md_ticks_39 : decode b_Md_ticks 39 = .ok (.dup, 1) := by decide +kernel
theorem d_Md_ticks_40 : decode b_Md_ticks 40 = .ok (.getfield 380, 3) := by decide +kernel
theorem d_Md_ticks_43 : decode b_Md_ticks 43 = .ok (.iload_n 1, 1) := by decide +kernel
theorem d_Md_ticks_44 : decode b_Md_ticks 44 = .ok (.iadd, 1) := by decide +kernel
theorem d_Md_ticks_45 : decode b_Md_ticks 45 = .ok (.putfield 380, 3) := by decide +kernel
theorem d_Md_ticks_48 : decode b_Md_ticks 48 = .ok (.aload_n 0, 1) := by decide +kernel
theorem d_Md_ticks_49 : decode b_Md_ticks 49 = .ok (.getfield 380, 3) := by decide +kernel
theorem d_Md_ticks_52 : decode b_Md_ticks 52 = .ok (.ireturn, 1) := by decide +kernel
theorem d_Md_count_10 : decode b_Md_count 10 = .ok (.iconst 1, 1) := by decide +kernel
theorem d_Md_count_11 : decode b_Md_count 11 = .ok (.goto 4, 3) := by decide +kernel
theorem d_Md_count_23 : decode b_Md_count 23 = .ok (.iload_n 1, 1) := by decide +kernel
theorem d_Md_count_24 : decode b_Md_count 24 = .ok (.ifCond .ne 10, 3) := by decide +kernel
theorem d_Md_count_27 : decode b_Md_count 27 = .ok (.aload_n 0, 1) := by decide +kernel
theorem d_Md_count_28 : decode b_Md_count 28 = .ok (.getfield 377, 3) := by decide +kernel
theorem d_Md_count_31 : decode b_Md_count 31 = .ok (.goto 55, 3) := by decide +kernel
theorem d_Md_count_86 : decode b_Md_count 86 = .ok (.ireturn, 1) := by decide +kernel
theorem d_Md_count_34 : decode b_Md_count 34 = .ok (.iload_n 1, 1) := by decide +kernel
theorem d_Md_count_35 : decode b_Md_count 35 = .ok (.iconst 1, 1) := by decide +kernel
theorem d_Md_count_36 : decode b_Md_count 36 = .ok (.if_icmp .ne 10, 3) := by decide +kernel
theorem d_Md_count_39 : decode b_Md_count 39 = .ok (.aload_n 0, 1) := by decide +kernel
theorem d_Md_count_40 : decode b_Md_count 40 = .ok (.getfield 427, 3) := by decide +kernel
theorem d_Md_count_43 : decode b_Md_count 43 = .ok (.goto 43, 3) := by decide +kernel
theorem d_Md_count_46 : decode b_Md_count 46 = .ok (.iload_n 1, 1) := by decide +kernel
theorem d_Md_count_47 : decode b_Md_count 47 = .ok (.iconst 2, 1) := by decide +kernel
theorem d_Md_count_48 : decode b_Md_count 48 = .ok (.if_icmp .ne 10, 3) := by decide +kernel
theorem d_Md_count_51 : decode b_Md_count 51 = .ok (.aload_n 0, 1) := by decide +kernel
theorem d_Md_count_52 : decode b_Md_count 52 = .ok (.getfield 440, 3) := by decide +kernel
theorem d_Md_count_55 : decode b_Md_count 55 = .ok (.goto 31, 3) := by decide +kernel
theorem d_Md_count_58 : decode b_Md_count 58 = .ok (.iload_n 1, 1) := by decide +kernel
theorem d_Md_count_59 : decode b_Md_count 59 = .ok (.iconst 3, 1) := by decide +kernel
theorem d_Md_count_60 : decode b_Md_count 60 = .ok (.if_icmp .ne 10, 3) := by decide +kernel
theorem d_Md_count_63 : decode b_Md_count 63 = .ok (.aload_n 0, 1) := by decide +kernel
theorem d_Md_count_64 : decode b_Md_count 64 = .ok (.getfield 398, 3) := by decide +kernel
theorem d_Md_count_67 : decode b_Md_count 67 = .ok (.goto 19, 3) := by decide +kernel
theorem d_Md_count_70 : decode b_Md_count 70 = .ok (.iload_n 1, 1) := by decide +kernel
theorem d_Md_count_71 : decode b_Md_count 71 = .ok (.iconst 4, 1) := by decide +kernel
theorem d_Md_count_72 : decode b_Md_count 72 = .ok (.if_icmp .ne 10, 3) := by decide +kernel
theorem d_Md_count_75 : decode b_Md_count 75 = .ok (.aload_n 0, 1) := by decide +kernel
theorem d_Md_count_76 : decode b_Md_count 76 = .ok (.getfield 368, 3) := by decide +kernel
theorem d_Md_count_79 : decode b_Md_count 79 = .ok (.goto 7, 3) := by decide +kernel
theorem d_Md_count_82 : decode b_Md_count 82 = .ok (.aload_n 0, 1) := by decide +kernel
theorem d_Md_count_83 : decode b_Md_count 83 = .ok (.getfield 297, 3) := by decide +kernel
theorem d_Md_spoil_20 : decode b_Md_spoil 20 = .ok (.iconst 1, 1) := by decide +kernel
theorem d_Md_spoil_21 : decode b_Md_spoil 21 = .ok (.goto 4, 3) := by decide +kernel
theorem d_Md_spoil_33 : decode b_Md_spoil 33 = .ok (.aload_n 0, 1) := by decide +kernel
theorem d_Md_spoil_34 : decode b_Md_spoil 34 = .ok (.getfield 154, 3) := by decide +kernel
theorem d_Md_spoil_37 : decode b_Md_spoil 37 = .ok (.iload_n 1, 1) := by decide +kernel
theorem d_Md_spoil_38 : decode b_Md_spoil 38 = .ok (.dup2, 1) := by decide +kernel
theorem d_Md_spoil_39 : decode b_Md_spoil 39 = .ok (.iaload, 1) := by decide +kernel
theorem d_Md_spoil_40 : decode b_Md_spoil 40 = .ok (.iload_n 2, 1) := by decide +kernel
theorem d_Md_spoil_41 : decode b_Md_spoil 41 = .ok (.ixor, 1) := by decide +kernel
theorem d_Md_spoil_42 : decode b_Md_spoil 42 = .ok (.iastore, 1) := by decide +kernel
theorem d_Md_spoil_43 : decode b_Md_spoil 43 = .ok (.aload_n 0, 1) := by decide +kernel
theorem d_Md_spoil_44 : decode b_Md_spoil 44 = .ok (.getfield 154, 3) := by decide +kernel
theorem d_Md_spoil_47 : decode b_Md_spoil 47 = .ok (.iload_n 1, 1) := by decide +kernel
theorem d_Md_spoil_48 : decode b_Md_spoil 48 = .ok (.iaload, 1) := by decide +kernel
theorem d_Md_spoil_49 : decode b_Md_spoil 49 = .ok (.ireturn, 1) := by decide +kernel
/-- byte 4 + k of the head -/
def mb_at (v : Int64) (k : Nat) : Int32 := (((v >>> (((8 : Int32) * nI (k % 8)).toInt64 &&& 63)) &&& 255).toInt32 ^^^ (if k < 8 then 0 else 90)) &&& 255
set_option maxHeartbeats 4000000 in
set_option maxRecDepth 100000 in
/-- begin -/
theorem m_begin (l : Launch) (dC : Nat → ClassId) (dI : Nat → Nat → Nat) (cT : Nat → ClassId) (sz : Nat) (mo : Nat) (r : Nat → Nat) (z : Nat → Int32) (q : Nat → Int64) (cd : Int32) (tm : Int32) (sn : Nat) (tx : Nat) (f : Nat → Int32) (x : Int32) (y : Int32) (v : Int64)  : Met l y_Md_begin (Cond.code y_Md_begin b_Md_begin 6 (Option.none : Option Jvm.ClassFile.FieldType) :: BIG) ({ frames := 1, cells := 0, slots := 0, locals := 21 }) (va_Pc [.ref mo, .int x, .int y, .long v] (fun U => U.heap.size = sz ∧ va_P (dC, dI) vcl [(mo, .inr (12, mdF r z q cd tm (nI sn) (nI tx))), (r 7, .inl ((cT 0), 1000, .inl f))] U.heap ∧ va_K (dC, dI) vcl (tyL cT) U ∧ va_D (fun _ => True) [(mo, .inr (12, mdF r z q cd tm (nI sn) (nI tx))), (r 7, .inl ((cT 0), 1000, .inl f))])) (va_Qv (S := (Nat → Int32)) (fun u => match u with | g => g 0 = x &&& 255 ∧ g 1 = y &&& 255 ∧ g 2 = 0 ∧ g 3 = 20 ∧ ∀ k, k < 16 → g (4 + k) = mb_at v k) (fun u t => match u with | g => va_P (dC, dI) vcl [(mo, .inr (12, mdF r z q cd tm (nI 20) (nI tx))), (r 7, .inl ((cT 0), 1000, .inl g))] t.heap ∧ va_K (dC, dI) vcl (tyL cT) t ∧ va_D (va_A [(mo, .inr (12, mdF r z q cd tm (nI sn) (nI tx))), (r 7, .inl ((cT 0), 1000, .inl f))] sz) [(mo, .inr (12, mdF r z q cd tm (nI 20) (nI tx))), (r 7, .inl ((cT 0), 1000, .inl g))]) (va_A [(mo, .inr (12, mdF r z q cd tm (nI sn) (nI tx))), (r 7, .inl ((cT 0), 1000, .inl f))] sz)) 0 0 (va_A [(mo, .inr (12, mdF r z q cd tm (nI sn) (nI tx))), (r 7, .inl ((cT 0), 1000, .inl f))] sz) := by
  refine Met.ofW (cc := b_Md_begin) (maxL := 6) (ret := (Option.none : Option Jvm.ClassFile.FieldType)) (by decide) rfl ?_
  intro p e s m args below meth c s₁ B hml hv
  obtain ⟨hargs, hsz, hP, hK, hD0⟩ := hv
  have hx := B.exec
  have hb := B.bytes
  have hr := B.returns
  have hts := atoms_spec (ws := (Cond.code y_Md_begin b_Md_begin 6 (Option.none : Option Jvm.ClassFile.FieldType) :: BIG)) B.pre
  have hg : ∀ w ∈ BIG, w.before _ s = true := fun w h => hts w (List.mem_cons_of_mem _ h)
  have hown : s.vm.findClass "DoorServerModel" = some m.cls := findClass_of_methodNamed B.named
  have hlocks := B.notSynchronized
  subst hsz
  have hD := hD0.self (sz := s.heap.size)
  generalize hAe : va_A [(mo, .inr (12, mdF r z q cd tm (nI sn) (nI tx))), (r 7, .inl ((cT 0), 1000, .inl f))] s.heap.size = A at hD ⊢
  have hA : ∀ q : Nat, s.heap.size ≤ q → A q := fun q h => by rw [← hAe]; exact Or.inr h
  have hS : va_S A s.heap s.heap [] := va_S.rf
  have hl := lv_entry ([.ref mo, .int x, .int y, .long v]) (n := 6) (Nat.le_of_ble_eq_true rfl)
  refine W.eq (g2 := entryFrame m (List.toArray [.ref mo, .int x, .int y, .long v]) 6) (by rw [hargs]) ?_
  rw [lg_entry_eq]
  generalize (lg_sl ([.ref mo, .int x, .int y, .long v]) ++ List.replicate (6 - (lg_sl ([.ref mo, .int x, .int y, .long v])).length) Slot.unset).toArray = ls at hl ⊢
  have hl : lv_has ls 6 [(0, .ref mo), (1, .int x), (2, .int y), (3, .long v)] := hl
  change W p l e ({ frames := 1, cells := 0, slots := 0, locals := 21 } : Room) s m args below meth c s.heap [] 0 0 _ _
  have hP : va_P (dC, dI) vcl [(mo, .inr (12, mdF r z q cd tm (nI sn) (nI tx))), (r 7, .inl ((cT 0), 1000, .inl f))] s.heap := hP
  refine lv_aload_n hx hb d_Md_begin_0 rfl (lv_at hl 0 rfl) ?_
  refine lv_iconst (v := 0) hx hb d_Md_begin_1 (by decide) ?_
  refine lv_topi (fun x2 e1 => ?_)
  obtain rfl : x2 = nI 0 := by rw [e1]; rfl
  refine va_put (D := (dC, dI)) (ci := 12) (v := (.int (nI 0))) (ty := .int) (C := R_Md) (T := F_Md) (N := 45) hx hb hg in_Md t_Md tok_Md nm_Md hown hK hP hD hS 0 rfl rfl 8 (by decide) (hg _ k_1028) (fun _ h9 => h9) rfl (by decide +kernel) rfl rfl (Nat.le_of_ble_eq_true rfl) d_Md_begin_2 (fun H locs hP hD hS => ?_)
  have hP : va_P (dC, dI) vcl [(mo, .inr (12, mdF r z q cd tm (nI 0) (nI tx))), (r 7, .inl ((cT 0), 1000, .inl f))] H := hP
  have hD : va_D A [(mo, .inr (12, mdF r z q cd tm (nI 0) (nI tx))), (r 7, .inl ((cT 0), 1000, .inl f))] := hD
  refine lv_aload_n hx hb d_Md_begin_5 rfl (lv_at hl 0 rfl) ?_
  refine lv_iload_n hx hb d_Md_begin_6 rfl (lv_at hl 1 rfl) ?_
  have hPc := hP.sub (ws' := [(mo, .inr (12, mdF r z q cd tm (nI 0) (nI tx))), (r 7, .inl ((cT 0), 1000, .inl f))]) [0, 1] rfl
  have hDc := hD.sub (ws' := [(mo, .inr (12, mdF r z q cd tm (nI 0) (nI tx))), (r 7, .inl ((cT 0), 1000, .inl f))]) [0, 1] (by decide) rfl
  have hFc := va_free (wc := [(mo, .inr (12, mdF r z q cd tm (nI 0) (nI tx))), (r 7, .inl ((cT 0), 1000, .inl f))]) hD hS hA [0, 1] rfl
  refine va_callv (va_runV (C := "DoorServerModel") (As := [.int x]) (rest := []) ⟨hx, hb, hml, hown, hg⟩ (m_add l dC dI cT H.size mo r z q cd tm 0 tx f x (by decide)) (cwV 1 hg (gI (List.forall_mem_append.mpr ⟨List.forall_mem_cons.mpr ⟨k_1015, List.forall_mem_cons.mpr ⟨k_1017, List.forall_mem_cons.mpr ⟨(big_sel (q := y_Md_add) (n := 45) (by decide +kernel)), List.forall_mem_cons.mpr ⟨k_13, fun _ h => absurd h List.not_mem_nil⟩⟩⟩⟩, List.forall_mem_cons.mpr ⟨k_1018, fun _ h => h⟩⟩)) rfl rfl rfl (by decide +kernel) ⟨Nat.le_of_ble_eq_true rfl, Nat.le_of_ble_eq_true rfl⟩) ⟨fun a U g mk q => by obtain ⟨q0, q1, qP, qK, qD⟩ := q; exact ⟨q0, q1, qP, va_K.moved (u := U) (U := U.calling g mk a) (Vm.Alike.refl U.vm) qK, qD⟩, va_recv (q0 := 0) (ci := 12) hK hP rfl rfl, fun U hU hW => ⟨rfl, by rw [hU], by rw [hU]; exact hPc, va_K.moved hW.alike hK, hDc.weaken (fun _ _ _ _ => trivial)⟩⟩ rfl rfl hl.1 rfl (lv_room (Nat.le_of_ble_eq_true rfl)) d_Md_begin_7 ⟨Nat.le_of_ble_eq_true rfl, Nat.le_of_ble_eq_true rfl⟩) hS (fun q _ h => hFc q h) hFc (fun u t H1 locs ht hvm hw hB hz1 hk1 hS => ?_)
  try dsimp only at hw hB
  obtain ⟨hP1, hK1, hD1⟩ := hB
  rw [ht] at hP1
  obtain ⟨hP, hD⟩ := va_join (wr := []) (w1 := [(mo, .inr (12, mdF r z q cd tm (nI (0 + 1)) (nI tx))), (r 7, .inl ((cT 0), 1000, .inl (upd f 0 (x &&& 255))))]) hP hD [0, 1] [] rfl rfl (by decide) (by decide) hk1 hFc hP1 hD1
  have hw3 := hw
  clear hPc hDc hFc hz1 hk1 hP1 hK1 hD1
  generalize H1 = H at hP hS ⊢
  have hP : va_P (dC, dI) vcl [(mo, .inr (12, mdF r z q cd tm (nI (0 + 1)) (nI tx))), (r 7, .inl ((cT 0), 1000, .inl (upd f 0 (x &&& 255))))] H := hP
  have hD : va_D A [(mo, .inr (12, mdF r z q cd tm (nI (0 + 1)) (nI tx))), (r 7, .inl ((cT 0), 1000, .inl (upd f 0 (x &&& 255))))] := hD
  refine lv_aload_n hx hb d_Md_begin_10 rfl (lv_at hl 0 rfl) ?_
  refine lv_iload_n hx hb d_Md_begin_11 rfl (lv_at hl 2 rfl) ?_
  have hPc := hP.sub (ws' := [(mo, .inr (12, mdF r z q cd tm (nI (0 + 1)) (nI tx))), (r 7, .inl ((cT 0), 1000, .inl (upd f 0 (x &&& 255))))]) [0, 1] rfl
  have hDc := hD.sub (ws' := [(mo, .inr (12, mdF r z q cd tm (nI (0 + 1)) (nI tx))), (r 7, .inl ((cT 0), 1000, .inl (upd f 0 (x &&& 255))))]) [0, 1] (by decide) rfl
  have hFc := va_free (wc := [(mo, .inr (12, mdF r z q cd tm (nI (0 + 1)) (nI tx))), (r 7, .inl ((cT 0), 1000, .inl (upd f 0 (x &&& 255))))]) hD hS hA [0, 1] rfl
  refine va_callv (va_runV (C := "DoorServerModel") (As := [.int y]) (rest := []) ⟨hx, hb, hml, hown, hg⟩ (m_add l dC dI cT H.size mo r z q cd tm (0 + 1) tx (upd f 0 (x &&& 255)) y (by decide)) (cwV 1 hg (gI (List.forall_mem_append.mpr ⟨List.forall_mem_cons.mpr ⟨k_1015, List.forall_mem_cons.mpr ⟨k_1017, List.forall_mem_cons.mpr ⟨(big_sel (q := y_Md_add) (n := 45) (by decide +kernel)), List.forall_mem_cons.mpr ⟨k_13, fun _ h => absurd h List.not_mem_nil⟩⟩⟩⟩, List.forall_mem_cons.mpr ⟨k_1018, fun _ h => h⟩⟩)) rfl rfl rfl (by decide +kernel) ⟨Nat.le_of_ble_eq_true rfl, Nat.le_of_ble_eq_true rfl⟩) ⟨fun a U g mk q => by obtain ⟨q0, q1, qP, qK, qD⟩ := q; exact ⟨q0, q1, qP, va_K.moved (u := U) (U := U.calling g mk a) (Vm.Alike.refl U.vm) qK, qD⟩, va_recv (q0 := 0) (ci := 12) hK hP rfl rfl, fun U hU hW => ⟨rfl, by rw [hU], by rw [hU]; exact hPc, va_K.moved hW.alike hK, hDc.weaken (fun _ _ _ _ => trivial)⟩⟩ rfl rfl hl.1 rfl (lv_room (Nat.le_of_ble_eq_true rfl)) d_Md_begin_12 ⟨Nat.le_of_ble_eq_true rfl, Nat.le_of_ble_eq_true rfl⟩) hS (fun q _ h => hFc q h) hFc (fun u t H1 locs ht hvm hw hB hz1 hk1 hS => ?_)
  try dsimp only at hw hB
  obtain ⟨hP1, hK1, hD1⟩ := hB
  rw [ht] at hP1
  obtain ⟨hP, hD⟩ := va_join (wr := []) (w1 := [(mo, .inr (12, mdF r z q cd tm (nI ((0 + 1) + 1)) (nI tx))), (r 7, .inl ((cT 0), 1000, .inl (upd (upd f 0 (x &&& 255)) (0 + 1) (y &&& 255))))]) hP hD [0, 1] [] rfl rfl (by decide) (by decide) hk1 hFc hP1 hD1
  have hw4 := hw
  clear hPc hDc hFc hz1 hk1 hP1 hK1 hD1
  generalize H1 = H at hP hS ⊢
  have hP : va_P (dC, dI) vcl [(mo, .inr (12, mdF r z q cd tm (nI ((0 + 1) + 1)) (nI tx))), (r 7, .inl ((cT 0), 1000, .inl (upd (upd f 0 (x &&& 255)) (0 + 1) (y &&& 255))))] H := hP
  have hD : va_D A [(mo, .inr (12, mdF r z q cd tm (nI ((0 + 1) + 1)) (nI tx))), (r 7, .inl ((cT 0), 1000, .inl (upd (upd f 0 (x &&& 255)) (0 + 1) (y &&& 255))))] := hD
  refine lv_aload_n hx hb d_Md_begin_15 rfl (lv_at hl 0 rfl) ?_
  refine lv_iconst (v := 0) hx hb d_Md_begin_16 (by decide) ?_
  have hPc := hP.sub (ws' := [(mo, .inr (12, mdF r z q cd tm (nI ((0 + 1) + 1)) (nI tx))), (r 7, .inl ((cT 0), 1000, .inl (upd (upd f 0 (x &&& 255)) (0 + 1) (y &&& 255))))]) [0, 1] rfl
  have hDc := hD.sub (ws' := [(mo, .inr (12, mdF r z q cd tm (nI ((0 + 1) + 1)) (nI tx))), (r 7, .inl ((cT 0), 1000, .inl (upd (upd f 0 (x &&& 255)) (0 + 1) (y &&& 255))))]) [0, 1] (by decide) rfl
  have hFc := va_free (wc := [(mo, .inr (12, mdF r z q cd tm (nI ((0 + 1) + 1)) (nI tx))), (r 7, .inl ((cT 0), 1000, .inl (upd (upd f 0 (x &&& 255)) (0 + 1) (y &&& 255))))]) hD hS hA [0, 1] rfl
  refine va_callv (va_runV (C := "DoorServerModel") (As := [.int 0]) (rest := []) ⟨hx, hb, hml, hown, hg⟩ (m_add l dC dI cT H.size mo r z q cd tm ((0 + 1) + 1) tx (upd (upd f 0 (x &&& 255)) (0 + 1) (y &&& 255)) 0 (by decide)) (cwV 1 hg (gI (List.forall_mem_append.mpr ⟨List.forall_mem_cons.mpr ⟨k_1015, List.forall_mem_cons.mpr ⟨k_1017, List.forall_mem_cons.mpr ⟨(big_sel (q := y_Md_add) (n := 45) (by decide +kernel)), List.forall_mem_cons.mpr ⟨k_13, fun _ h => absurd h List.not_mem_nil⟩⟩⟩⟩, List.forall_mem_cons.mpr ⟨k_1018, fun _ h => h⟩⟩)) rfl rfl rfl (by decide +kernel) ⟨Nat.le_of_ble_eq_true rfl, Nat.le_of_ble_eq_true rfl⟩) ⟨fun a U g mk q => by obtain ⟨q0, q1, qP, qK, qD⟩ := q; exact ⟨q0, q1, qP, va_K.moved (u := U) (U := U.calling g mk a) (Vm.Alike.refl U.vm) qK, qD⟩, va_recv (q0 := 0) (ci := 12) hK hP rfl rfl, fun U hU hW => ⟨rfl, by rw [hU], by rw [hU]; exact hPc, va_K.moved hW.alike hK, hDc.weaken (fun _ _ _ _ => trivial)⟩⟩ rfl rfl hl.1 rfl (lv_room (Nat.le_of_ble_eq_true rfl)) d_Md_begin_17 ⟨Nat.le_of_ble_eq_true rfl, Nat.le_of_ble_eq_true rfl⟩) hS (fun q _ h => hFc q h) hFc (fun u t H1 locs ht hvm hw hB hz1 hk1 hS => ?_)
  try dsimp only at hw hB
  obtain ⟨hP1, hK1, hD1⟩ := hB
  rw [ht] at hP1
  obtain ⟨hP, hD⟩ := va_join (wr := []) (w1 := [(mo, .inr (12, mdF r z q cd tm (nI (((0 + 1) + 1) + 1)) (nI tx))), (r 7, .inl ((cT 0), 1000, .inl (upd (upd (upd f 0 (x &&& 255)) (0 + 1) (y &&& 255)) ((0 + 1) + 1) (0 &&& 255))))]) hP hD [0, 1] [] rfl rfl (by decide) (by decide) hk1 hFc hP1 hD1
  have hw5 := hw
  clear hPc hDc hFc hz1 hk1 hP1 hK1 hD1
  generalize H1 = H at hP hS ⊢
  have hP : va_P (dC, dI) vcl [(mo, .inr (12, mdF r z q cd tm (nI (((0 + 1) + 1) + 1)) (nI tx))), (r 7, .inl ((cT 0), 1000, .inl (upd (upd (upd f 0 (x &&& 255)) (0 + 1) (y &&& 255)) ((0 + 1) + 1) (0 &&& 255))))] H := hP
  have hD : va_D A [(mo, .inr (12, mdF r z q cd tm (nI (((0 + 1) + 1) + 1)) (nI tx))), (r 7, .inl ((cT 0), 1000, .inl (upd (upd (upd f 0 (x &&& 255)) (0 + 1) (y &&& 255)) ((0 + 1) + 1) (0 &&& 255))))] := hD
  refine lv_aload_n hx hb d_Md_begin_20 rfl (lv_at hl 0 rfl) ?_
  refine lv_bipush (v := 20) hx hb d_Md_begin_21 (by decide) ?_
  have hPc := hP.sub (ws' := [(mo, .inr (12, mdF r z q cd tm (nI (((0 + 1) + 1) + 1)) (nI tx))), (r 7, .inl ((cT 0), 1000, .inl (upd (upd (upd f 0 (x &&& 255)) (0 + 1) (y &&& 255)) ((0 + 1) + 1) (0 &&& 255))))]) [0, 1] rfl
  have hDc := hD.sub (ws' := [(mo, .inr (12, mdF r z q cd tm (nI (((0 + 1) + 1) + 1)) (nI tx))), (r 7, .inl ((cT 0), 1000, .inl (upd (upd (upd f 0 (x &&& 255)) (0 + 1) (y &&& 255)) ((0 + 1) + 1) (0 &&& 255))))]) [0, 1] (by decide) rfl
  have hFc := va_free (wc := [(mo, .inr (12, mdF r z q cd tm (nI (((0 + 1) + 1) + 1)) (nI tx))), (r 7, .inl ((cT 0), 1000, .inl (upd (upd (upd f 0 (x &&& 255)) (0 + 1) (y &&& 255)) ((0 + 1) + 1) (0 &&& 255))))]) hD hS hA [0, 1] rfl
  refine va_callv (va_runV (C := "DoorServerModel") (As := [.int 20]) (rest := []) ⟨hx, hb, hml, hown, hg⟩ (m_add l dC dI cT H.size mo r z q cd tm (((0 + 1) + 1) + 1) tx (upd (upd (upd f 0 (x &&& 255)) (0 + 1) (y &&& 255)) ((0 + 1) + 1) (0 &&& 255)) 20 (by decide)) (cwV 1 hg (gI (List.forall_mem_append.mpr ⟨List.forall_mem_cons.mpr ⟨k_1015, List.forall_mem_cons.mpr ⟨k_1017, List.forall_mem_cons.mpr ⟨(big_sel (q := y_Md_add) (n := 45) (by decide +kernel)), List.forall_mem_cons.mpr ⟨k_13, fun _ h => absurd h List.not_mem_nil⟩⟩⟩⟩, List.forall_mem_cons.mpr ⟨k_1018, fun _ h => h⟩⟩)) rfl rfl rfl (by decide +kernel) ⟨Nat.le_of_ble_eq_true rfl, Nat.le_of_ble_eq_true rfl⟩) ⟨fun a U g mk q => by obtain ⟨q0, q1, qP, qK, qD⟩ := q; exact ⟨q0, q1, qP, va_K.moved (u := U) (U := U.calling g mk a) (Vm.Alike.refl U.vm) qK, qD⟩, va_recv (q0 := 0) (ci := 12) hK hP rfl rfl, fun U hU hW => ⟨rfl, by rw [hU], by rw [hU]; exact hPc, va_K.moved hW.alike hK, hDc.weaken (fun _ _ _ _ => trivial)⟩⟩ rfl rfl hl.1 rfl (lv_room (Nat.le_of_ble_eq_true rfl)) d_Md_begin_23 ⟨Nat.le_of_ble_eq_true rfl, Nat.le_of_ble_eq_true rfl⟩) hS (fun q _ h => hFc q h) hFc (fun u t H1 locs ht hvm hw hB hz1 hk1 hS => ?_)
  try dsimp only at hw hB
  obtain ⟨hP1, hK1, hD1⟩ := hB
  rw [ht] at hP1
  obtain ⟨hP, hD⟩ := va_join (wr := []) (w1 := [(mo, .inr (12, mdF r z q cd tm (nI ((((0 + 1) + 1) + 1) + 1)) (nI tx))), (r 7, .inl ((cT 0), 1000, .inl (upd (upd (upd (upd f 0 (x &&& 255)) (0 + 1) (y &&& 255)) ((0 + 1) + 1) (0 &&& 255)) (((0 + 1) + 1) + 1) (20 &&& 255))))]) hP hD [0, 1] [] rfl rfl (by decide) (by decide) hk1 hFc hP1 hD1
  have hw6 := hw
  clear hPc hDc hFc hz1 hk1 hP1 hK1 hD1
  generalize H1 = H at hP hS ⊢
  have hP : va_P (dC, dI) vcl [(mo, .inr (12, mdF r z q cd tm (nI ((((0 + 1) + 1) + 1) + 1)) (nI tx))), (r 7, .inl ((cT 0), 1000, .inl (upd (upd (upd (upd f 0 (x &&& 255)) (0 + 1) (y &&& 255)) ((0 + 1) + 1) (0 &&& 255)) (((0 + 1) + 1) + 1) (20 &&& 255))))] H := hP
  have hD : va_D A [(mo, .inr (12, mdF r z q cd tm (nI ((((0 + 1) + 1) + 1) + 1)) (nI tx))), (r 7, .inl ((cT 0), 1000, .inl (upd (upd (upd (upd f 0 (x &&& 255)) (0 + 1) (y &&& 255)) ((0 + 1) + 1) (0 &&& 255)) (((0 + 1) + 1) + 1) (20 &&& 255))))] := hD
  have hP : va_P (dC, dI) vcl [(mo, .inr (12, mdF r z q cd tm (nI (4 + 0)) (nI tx))), (r 7, .inl ((cT 0), 1000, .inl (upd (upd (upd (upd f 0 (x &&& 255)) (0 + 1) (y &&& 255)) ((0 + 1) + 1) (0 &&& 255)) (((0 + 1) + 1) + 1) (20 &&& 255))))] H := hP
  have hD : va_D A [(mo, .inr (12, mdF r z q cd tm (nI (4 + 0)) (nI tx))), (r 7, .inl ((cT 0), 1000, .inl (upd (upd (upd (upd f 0 (x &&& 255)) (0 + 1) (y &&& 255)) ((0 + 1) + 1) (0 &&& 255)) (((0 + 1) + 1) + 1) (20 &&& 255))))] := hD
  refine lv_iconst (v := 0) hx hb d_Md_begin_26 (by decide) ?_
  refine lv_istore (lv' := [(5, .int 0), (0, .ref mo), (1, .int x), (2, .int y), (3, .long v)]) hx hb d_Md_begin_27 hl (by decide) rfl (fun ls hl => ?_)
  have hl := lv_sub hl [0, 1, 2, 3, 4] (show _ = [(5, .int 0), (0, .ref mo), (1, .int x), (2, .int y), (3, .long v)] from rfl)
  obtain ⟨f4, hf4⟩ : ∃ f4, f4 = upd (upd (upd (upd f 0 (x &&& 255)) (0 + 1) (y &&& 255)) ((0 + 1) + 1) (0 &&& 255)) (((0 + 1) + 1) + 1) (20 &&& 255) := ⟨_, rfl⟩
  rw [← hf4] at hP hD
  have hP : va_P (dC, dI) vcl [(mo, .inr (12, mdF r z q cd tm (nI (4 + 0)) (nI tx))), (r 7, .inl ((cT 0), 1000, .inl f4))] H := hP
  have hD : va_D A [(mo, .inr (12, mdF r z q cd tm (nI (4 + 0)) (nI tx))), (r 7, .inl ((cT 0), 1000, .inl f4))] := hD
  have L7 : ∀ (Q : State → Prop) (exit : ∀ (g : Nat → Int32) (H : Heap) (locs : List Loc) (ls : Array Slot), (∀ q9, q9 < 4 → g q9 = f4 q9) → (∀ q9, q9 < 16 → g (4 + q9) = mb_at v q9) → va_P (dC, dI) vcl [(mo, .inr (12, mdF r z q cd tm (nI (4 + 16)) (nI tx))), (r 7, .inl ((cT 0), 1000, .inl g))] H → va_D A [(mo, .inr (12, mdF r z q cd tm (nI (4 + 16)) (nI tx))), (r 7, .inl ((cT 0), 1000, .inl g))] → va_S A s.heap H locs → lv_has ls 6 [(5, .int (nI 16)), (0, .ref mo), (1, .int x), (2, .int y), (3, .long v)] → W p l e ({ frames := 1, cells := 0, slots := 0, locals := 21 } : Room) s m args below meth c H locs 0 0 Q (F0 m 75 ls [])) (j8 i : Nat) (g : Nat → Int32) (H : Heap) (locs : List Loc) (ls : Array Slot), i + j8 = 16 → (∀ q9, q9 < 4 → g q9 = f4 q9) → (∀ q9, q9 < i → g (4 + q9) = mb_at v q9) → va_P (dC, dI) vcl [(mo, .inr (12, mdF r z q cd tm (nI (4 + i)) (nI tx))), (r 7, .inl ((cT 0), 1000, .inl g))] H → va_D A [(mo, .inr (12, mdF r z q cd tm (nI (4 + i)) (nI tx))), (r 7, .inl ((cT 0), 1000, .inl g))] → va_S A s.heap H locs → lv_has ls 6 [(5, .int (nI i)), (0, .ref mo), (1, .int x), (2, .int y), (3, .long v)] → W p l e ({ frames := 1, cells := 0, slots := 0, locals := 21 } : Room) s m args below meth c H locs 0 0 Q (F0 m 29 ls []) := by
    intro Q exit j8
    induction j8 with
    | zero => 
      intro i g H locs ls hij hi hj hP hD hS hl
      have hij : 16 = i := by omega
      refine lv_iload hx hb d_Md_begin_29 (lv_at hl 0 rfl) ?_
      refine lv_bipush (v := 16) hx hb d_Md_begin_31 (by decide) ?_
      refine lv_topi (fun x9 e8 => ?_)
      obtain rfl : x9 = nI 16 := by rw [e8]; rfl
      refine lv_icmp_ge (tgt := 75) hx hb d_Md_begin_33 (by decide) (fun hc10 => ?_) (fun hn9 => absurd (nI_le (by omega) (by omega)) hn9)
      subst hij
      exact exit g _ _ _ hi hj hP hD hS hl
    | succ j8 ih => 
      intro i g H locs ls hij hi hj hP hD hS hl
      have hlt : i < 16 := by omega
      refine lv_iload hx hb d_Md_begin_29 (lv_at hl 0 rfl) ?_
      refine lv_bipush (v := 16) hx hb d_Md_begin_31 (by decide) ?_
      refine lv_topi (fun x12 e11 => ?_)
      obtain rfl : x12 = nI 16 := by rw [e11]; rfl
      refine lv_icmp_ge (tgt := 75) hx hb d_Md_begin_33 (by decide) (fun hn9 => absurd hn9 (nI_ge hlt (by omega))) (fun hc13 => ?_)
      refine lv_aload_n hx hb d_Md_begin_36 rfl (lv_at hl 1 rfl) ?_
      refine lv_lload_n hx hb d_Md_begin_37 rfl (lv_at hl 4 rfl) ?_
      refine lv_bipush (v := 8) hx hb d_Md_begin_38 (by decide) ?_
      refine lv_iload hx hb d_Md_begin_40 (lv_at hl 0 rfl) ?_
      refine lv_bipush (v := 8) hx hb d_Md_begin_42 (by decide) ?_
      refine lv_irem hx hb d_Md_begin_44 (by decide) ?_
      refine lv_topi (fun x15 e14 => ?_)
      obtain rfl : x15 = nI (i % 8) := by rw [e14]; exact pk_rem (d := 8) (by omega) (by decide) (by decide)
      refine lv_imul hx hb d_Md_begin_45 ?_
      refine lv_lshr (v := v >>> ((8 * (nI (i % 8))).toInt64 &&& 63)) hx hb d_Md_begin_46 rfl ?_
      refine lv_ldc2 (v := 255) hx hb hown (hg _ k_1019) d_Md_begin_47 ?_
      refine lv_land hx hb d_Md_begin_50 ?_
      refine lv_l2i (v := ((v >>> ((8 * (nI (i % 8))).toInt64 &&& 63)) &&& 255).toInt32) hx hb d_Md_begin_51 rfl ?_
      refine lv_iload hx hb d_Md_begin_52 (lv_at hl 0 rfl) ?_
      refine lv_bipush (v := 8) hx hb d_Md_begin_54 (by decide) ?_
      refine lv_topi (fun x17 e16 => ?_)
      obtain rfl : x17 = nI 8 := by rw [e16]; rfl
      have K18 : ∀ (c9 : Int32), c9 = (if i < 8 then 0 else 90) → W p l e ({ frames := 1, cells := 0, slots := 0, locals := 21 } : Room) s m args below meth c H locs 0 0 Q (F0 m 65 ls [.int c9, .int (((v >>> ((8 * (nI (i % 8))).toInt64 &&& 63)) &&& 255).toInt32), .ref mo]) := by
        intro c9 hc9
        refine lv_ixor hx hb d_Md_begin_65 ?_
        have hPc := hP.sub (ws' := [(mo, .inr (12, mdF r z q cd tm (nI (4 + i)) (nI tx))), (r 7, .inl ((cT 0), 1000, .inl g))]) [0, 1] rfl
        have hDc := hD.sub (ws' := [(mo, .inr (12, mdF r z q cd tm (nI (4 + i)) (nI tx))), (r 7, .inl ((cT 0), 1000, .inl g))]) [0, 1] (by decide) rfl
        have hFc := va_free (wc := [(mo, .inr (12, mdF r z q cd tm (nI (4 + i)) (nI tx))), (r 7, .inl ((cT 0), 1000, .inl g))]) hD hS hA [0, 1] rfl
        refine va_callv (va_runV (C := "DoorServerModel") (As := [.int ((((v >>> ((8 * (nI (i % 8))).toInt64 &&& 63)) &&& 255).toInt32) ^^^ c9)]) (rest := []) ⟨hx, hb, hml, hown, hg⟩ (m_add l dC dI cT H.size mo r z q cd tm (4 + i) tx g ((((v >>> ((8 * (nI (i % 8))).toInt64 &&& 63)) &&& 255).toInt32) ^^^ c9) (by omega)) (cwV 1 hg (gI (List.forall_mem_append.mpr ⟨List.forall_mem_cons.mpr ⟨k_1015, List.forall_mem_cons.mpr ⟨k_1017, List.forall_mem_cons.mpr ⟨(big_sel (q := y_Md_add) (n := 45) (by decide +kernel)), List.forall_mem_cons.mpr ⟨k_13, fun _ h => absurd h List.not_mem_nil⟩⟩⟩⟩, List.forall_mem_cons.mpr ⟨k_1018, fun _ h => h⟩⟩)) rfl rfl rfl (by decide +kernel) ⟨Nat.le_of_ble_eq_true rfl, Nat.le_of_ble_eq_true rfl⟩) ⟨fun a U g mk q => by obtain ⟨q0, q1, qP, qK, qD⟩ := q; exact ⟨q0, q1, qP, va_K.moved (u := U) (U := U.calling g mk a) (Vm.Alike.refl U.vm) qK, qD⟩, va_recv (q0 := 0) (ci := 12) hK hP rfl rfl, fun U hU hW => ⟨rfl, by rw [hU], by rw [hU]; exact hPc, va_K.moved hW.alike hK, hDc.weaken (fun _ _ _ _ => trivial)⟩⟩ rfl rfl hl.1 rfl (lv_room (Nat.le_of_ble_eq_true rfl)) d_Md_begin_66 ⟨Nat.le_of_ble_eq_true rfl, Nat.le_of_ble_eq_true rfl⟩) hS (fun q _ h => hFc q h) hFc (fun u t H1 locs ht hvm hw hB hz1 hk1 hS => ?_)
        try dsimp only at hw hB
        obtain ⟨hP1, hK1, hD1⟩ := hB
        rw [ht] at hP1
        obtain ⟨hP, hD⟩ := va_join (wr := []) (w1 := [(mo, .inr (12, mdF r z q cd tm (nI ((4 + i) + 1)) (nI tx))), (r 7, .inl ((cT 0), 1000, .inl (upd g (4 + i) (((((v >>> ((8 * (nI (i % 8))).toInt64 &&& 63)) &&& 255).toInt32) ^^^ c9) &&& 255))))]) hP hD [0, 1] [] rfl rfl (by decide) (by decide) hk1 hFc hP1 hD1
        have hw19 := hw
        clear hPc hDc hFc hz1 hk1 hP1 hK1 hD1
        generalize H1 = H at hP hS ⊢
        have hP : va_P (dC, dI) vcl [(mo, .inr (12, mdF r z q cd tm (nI ((4 + i) + 1)) (nI tx))), (r 7, .inl ((cT 0), 1000, .inl (upd g (4 + i) (((((v >>> ((8 * (nI (i % 8))).toInt64 &&& 63)) &&& 255).toInt32) ^^^ c9) &&& 255))))] H := hP
        have hD : va_D A [(mo, .inr (12, mdF r z q cd tm (nI ((4 + i) + 1)) (nI tx))), (r 7, .inl ((cT 0), 1000, .inl (upd g (4 + i) (((((v >>> ((8 * (nI (i % 8))).toInt64 &&& 63)) &&& 255).toInt32) ^^^ c9) &&& 255))))] := hD
        refine lv_iinc (k := 0) (v := nI (i + 1)) (lv' := [(5, .int (nI (i + 1))), (0, .ref mo), (1, .int x), (2, .int y), (3, .long v)]) hx hb d_Md_begin_69 hl rfl (nI_1 i) (by decide) rfl (fun ls hl => ?_)
        refine lv_goto (tgt := 29) hx hb d_Md_begin_72 (by decide) ?_
        exact ih (i + 1) _ _ _ _ (by omega) (fun q9 hq => by rw [pk_un (by omega)]; exact hi q9 hq) (lt_s (fun q9 hq => by rw [pk_un (by omega)]; exact hj q9 hq) (by rw [pk_us, hc9]; rfl)) hP hD hS hl
      refine lv_icmp_ge (tgt := 63) hx hb d_Md_begin_56 (by decide) (fun hc20 => ?_) (fun hc20 => ?_)
      · refine lv_bipush (v := 90) hx hb d_Md_begin_63 (by decide) ?_
        exact K18 _ (by rw [if_neg (fun h9 => nI_ge h9 (by decide) hc20)])
      · refine lv_iconst (v := 0) hx hb d_Md_begin_59 (by decide) ?_
        refine lv_goto (tgt := 65) hx hb d_Md_begin_60 (by decide) ?_
        exact K18 _ (by rw [if_pos (Nat.lt_of_not_le fun h9 => hc20 (nI_le h9 (by omega)))])
  refine L7 _ (fun g H locs ls hi hj hP hD hS hl => ?_) (16 - 0) 0 f4 H _ ls (by omega) (fun _ _ => rfl) (fun q9 hq => absurd hq (Nat.not_lt_zero q9)) hP hD hS hl
  have hP9 := hP.sub (ws' := [(mo, .inr (12, mdF r z q cd tm (nI (4 + 16)) (nI tx))), (r 7, .inl ((cT 0), 1000, .inl g))]) [0, 1] rfl
  have hD9 := hD.sub (ws' := [(mo, .inr (12, mdF r z q cd tm (nI (4 + 16)) (nI tx))), (r 7, .inl ((cT 0), 1000, .inl g))]) [0, 1] (by decide) rfl
  exact W.vret hx hb hr (fun t ht hW => ⟨⟨g, rfl, ⟨by rw [hi 0 (by decide), hf4]; rfl, by rw [hi 1 (by decide), hf4]; rfl, by rw [hi 2 (by decide), hf4]; rfl, by rw [hi 3 (by decide), hf4]; rfl, hj⟩, by rw [ht]; exact hP9, va_K.moved hW.alike hK, hD9⟩, hS.F ht⟩) hS.2.2 d_Md_begin_75
set_option maxHeartbeats 4000000 in
set_option maxRecDepth 100000 in
/-- draft -/
theorem o_draft (l : Launch) (dC : Nat → ClassId) (dI : Nat → Nat → Nat) (cT : Nat → ClassId) (sz : Nat) (mo : Nat) (r : Nat → Nat) (z : Nat → Int32) (q : Nat → Int64) (cd : Int32) (tm : Int32) (sn : Nat) (tx : Nat) (f : Nat → Int32) (x : Int32) (y : Int32) (v : Int64) (hx1 : ¬ x < 0) (hx2 : ¬ 255 < x) (hy1 : ¬ y < 0) (hy2 : ¬ 255 < y) : Met l y_Md_draft (Cond.code y_Md_draft b_Md_draft 5 (Option.none : Option Jvm.ClassFile.FieldType) :: BIG) ({ frames := 2, cells := 0, slots := 0, locals := 46 }) (va_Pc [.ref mo, .int x, .int y, .long v] (fun U => U.heap.size = sz ∧ va_P (dC, dI) vcl [(mo, .inr (12, mdF r z q cd tm (nI 20) (nI tx))), (r 7, .inl ((cT 0), 1000, .inl f))] U.heap ∧ va_K (dC, dI) vcl (tyL cT) U ∧ va_D (fun _ => True) [(mo, .inr (12, mdF r z q cd tm (nI 20) (nI tx))), (r 7, .inl ((cT 0), 1000, .inl f))])) (va_Qv (S := Unit) (fun u => True) (fun u t => va_P (dC, dI) vcl [(mo, .inr (12, mdF r z q 0 tm (nI 20) (nI tx)))] t.heap ∧ va_K (dC, dI) vcl (tyL cT) t ∧ va_D (va_A [(mo, .inr (12, mdF r z q cd tm (nI 20) (nI tx))), (r 7, .inl ((cT 0), 1000, .inl f))] sz) [(mo, .inr (12, mdF r z q 0 tm (nI 20) (nI tx)))]) (va_A [(mo, .inr (12, mdF r z q cd tm (nI 20) (nI tx))), (r 7, .inl ((cT 0), 1000, .inl f))] sz)) 0 0 (va_A [(mo, .inr (12, mdF r z q cd tm (nI 20) (nI tx))), (r 7, .inl ((cT 0), 1000, .inl f))] sz) := by
  refine Met.ofW (cc := b_Md_draft) (maxL := 5) (ret := (Option.none : Option Jvm.ClassFile.FieldType)) (by decide) rfl ?_
  intro p e s m args below meth c s₁ B hml hv
  obtain ⟨hargs, hsz, hP, hK, hD0⟩ := hv
  have hx := B.exec
  have hb := B.bytes
  have hr := B.returns
  have hts := atoms_spec (ws := (Cond.code y_Md_draft b_Md_draft 5 (Option.none : Option Jvm.ClassFile.FieldType) :: BIG)) B.pre
  have hg : ∀ w ∈ BIG, w.before _ s = true := fun w h => hts w (List.mem_cons_of_mem _ h)
  have hown : s.vm.findClass "DoorServerModel" = some m.cls := findClass_of_methodNamed B.named
  have hlocks := B.notSynchronized
  subst hsz
  have hD := hD0.self (sz := s.heap.size)
  generalize hAe : va_A [(mo, .inr (12, mdF r z q cd tm (nI 20) (nI tx))), (r 7, .inl ((cT 0), 1000, .inl f))] s.heap.size = A at hD ⊢
  have hA : ∀ q : Nat, s.heap.size ≤ q → A q := fun q h => by rw [← hAe]; exact Or.inr h
  have hS : va_S A s.heap s.heap [] := va_S.rf
  have hl := lv_entry ([.ref mo, .int x, .int y, .long v]) (n := 5) (Nat.le_of_ble_eq_true rfl)
  refine W.eq (g2 := entryFrame m (List.toArray [.ref mo, .int x, .int y, .long v]) 5) (by rw [hargs]) ?_
  rw [lg_entry_eq]
  generalize (lg_sl ([.ref mo, .int x, .int y, .long v]) ++ List.replicate (5 - (lg_sl ([.ref mo, .int x, .int y, .long v])).length) Slot.unset).toArray = ls at hl ⊢
  have hl : lv_has ls 5 [(0, .ref mo), (1, .int x), (2, .int y), (3, .long v)] := hl
  change W p l e ({ frames := 2, cells := 0, slots := 0, locals := 46 } : Room) s m args below meth c s.heap [] 0 0 _ _
  have hP : va_P (dC, dI) vcl [(mo, .inr (12, mdF r z q cd tm (nI 20) (nI tx))), (r 7, .inl ((cT 0), 1000, .inl f))] s.heap := hP
  refine lv_aload_n hx hb d_Md_draft_0 rfl (lv_at hl 0 rfl) ?_
  refine lv_iload_n hx hb d_Md_draft_1 rfl (lv_at hl 1 rfl) ?_
  have hPc := hP.sub (ws' := []) [] rfl
  have hDc := hD.sub (ws' := []) [] (by decide) rfl
  have hFc := va_free (wc := []) hD hS hA [] rfl
  refine va_calli (va_runS (As := [.int x]) (rest := [.ref mo]) ⟨hx, hb, hml, hown, hg⟩ (m_byte1 l dC dI cT s.heap.size x (hx1) (hx2)) (va_cwS 1 hg (gI (List.forall_mem_append.mpr ⟨List.forall_mem_cons.mpr ⟨k_1181, List.forall_mem_cons.mpr ⟨k_1182, List.forall_mem_cons.mpr ⟨k_13, fun _ h => absurd h List.not_mem_nil⟩⟩⟩, List.forall_mem_cons.mpr ⟨k_1183, fun _ h => h⟩⟩)) rfl rfl rfl (by decide +kernel) ⟨Nat.le_of_ble_eq_true rfl, Nat.le_of_ble_eq_true rfl⟩) ⟨fun a U g mk q => by obtain ⟨q0, q1, qP, qK, qD⟩ := q; exact ⟨q0, q1, qP, va_K.moved (u := U) (U := U.calling g mk a) (Vm.Alike.refl U.vm) qK, qD⟩, fun U hU hW => ⟨rfl, by rw [hU], by rw [hU]; exact hPc, va_K.moved hW.alike hK, hDc.weaken (fun _ _ _ _ => trivial)⟩⟩ rfl rfl hl.1 rfl (lv_room (Nat.le_of_ble_eq_true rfl)) d_Md_draft_2 ⟨Nat.le_of_ble_eq_true rfl, Nat.le_of_ble_eq_true rfl⟩) hS (fun q _ h => hFc q h) hFc (fun rv9 u t H1 locs ht hvm hw hB hz1 hk1 hS => ?_)
  try dsimp only at hw hB
  obtain ⟨hP1, hK1, hD1⟩ := hB
  rw [ht] at hP1
  obtain ⟨rfl, hw⟩ := hw
  obtain ⟨hP, hD⟩ := va_join (wr := [(mo, .inr (12, mdF r z q cd tm (nI 20) (nI tx))), (r 7, .inl ((cT 0), 1000, .inl f))]) (w1 := []) hP hD [] [0, 1] rfl rfl (by decide) (by decide) hk1 hFc hP1 hD1
  have hw21 := hw
  clear hPc hDc hFc hz1 hk1 hP1 hK1 hD1
  generalize H1 = H at hP hS ⊢
  have hP : va_P (dC, dI) vcl [(mo, .inr (12, mdF r z q cd tm (nI 20) (nI tx))), (r 7, .inl ((cT 0), 1000, .inl f))] H := hP
  have hD : va_D A [(mo, .inr (12, mdF r z q cd tm (nI 20) (nI tx))), (r 7, .inl ((cT 0), 1000, .inl f))] := hD
  refine lv_if_eq (tgt := 19) hx hb d_Md_draft_5 (by decide) (fun hn9 => absurd hn9 (by decide)) (fun hc22 => ?_)
  refine lv_iload_n hx hb d_Md_draft_8 rfl (lv_at hl 2 rfl) ?_
  have hPc := hP.sub (ws' := []) [] rfl
  have hDc := hD.sub (ws' := []) [] (by decide) rfl
  have hFc := va_free (wc := []) hD hS hA [] rfl
  refine va_calli (va_runS (As := [.int y]) (rest := [.ref mo]) ⟨hx, hb, hml, hown, hg⟩ (m_byte1 l dC dI cT H.size y (hy1) (hy2)) (va_cwS 1 hg (gI (List.forall_mem_append.mpr ⟨List.forall_mem_cons.mpr ⟨k_1181, List.forall_mem_cons.mpr ⟨k_1182, List.forall_mem_cons.mpr ⟨k_13, fun _ h => absurd h List.not_mem_nil⟩⟩⟩, List.forall_mem_cons.mpr ⟨k_1183, fun _ h => h⟩⟩)) rfl rfl rfl (by decide +kernel) ⟨Nat.le_of_ble_eq_true rfl, Nat.le_of_ble_eq_true rfl⟩) ⟨fun a U g mk q => by obtain ⟨q0, q1, qP, qK, qD⟩ := q; exact ⟨q0, q1, qP, va_K.moved (u := U) (U := U.calling g mk a) (Vm.Alike.refl U.vm) qK, qD⟩, fun U hU hW => ⟨rfl, by rw [hU], by rw [hU]; exact hPc, va_K.moved hW.alike hK, hDc.weaken (fun _ _ _ _ => trivial)⟩⟩ rfl rfl hl.1 rfl (lv_room (Nat.le_of_ble_eq_true rfl)) d_Md_draft_9 ⟨Nat.le_of_ble_eq_true rfl, Nat.le_of_ble_eq_true rfl⟩) hS (fun q _ h => hFc q h) hFc (fun rv9 u t H1 locs ht hvm hw hB hz1 hk1 hS => ?_)
  try dsimp only at hw hB
  obtain ⟨hP1, hK1, hD1⟩ := hB
  rw [ht] at hP1
  obtain ⟨rfl, hw⟩ := hw
  obtain ⟨hP, hD⟩ := va_join (wr := [(mo, .inr (12, mdF r z q cd tm (nI 20) (nI tx))), (r 7, .inl ((cT 0), 1000, .inl f))]) (w1 := []) hP hD [] [0, 1] rfl rfl (by decide) (by decide) hk1 hFc hP1 hD1
  have hw23 := hw
  clear hPc hDc hFc hz1 hk1 hP1 hK1 hD1
  generalize H1 = H at hP hS ⊢
  have hP : va_P (dC, dI) vcl [(mo, .inr (12, mdF r z q cd tm (nI 20) (nI tx))), (r 7, .inl ((cT 0), 1000, .inl f))] H := hP
  have hD : va_D A [(mo, .inr (12, mdF r z q cd tm (nI 20) (nI tx))), (r 7, .inl ((cT 0), 1000, .inl f))] := hD
  refine lv_if_eq (tgt := 19) hx hb d_Md_draft_12 (by decide) (fun hn9 => absurd hn9 (by decide)) (fun hc24 => ?_)
  refine lv_iconst (v := 1) hx hb d_Md_draft_15 (by decide) ?_
  refine lv_goto (tgt := 20) hx hb d_Md_draft_16 (by decide) ?_
  have hPc := hP.sub (ws' := [(mo, .inr (12, mdF r z q cd tm (nI 20) (nI tx)))]) [0] rfl
  have hDc := hD.sub (ws' := [(mo, .inr (12, mdF r z q cd tm (nI 20) (nI tx)))]) [0] (by decide) rfl
  have hFc := va_free (wc := [(mo, .inr (12, mdF r z q cd tm (nI 20) (nI tx)))]) hD hS hA [0] rfl
  refine va_calli (va_runV (C := "DoorServerModel") (As := [.int 1]) (rest := []) ⟨hx, hb, hml, hown, hg⟩ (m_goes1 l dC dI cT H.size mo r z q cd tm 20 tx ) (cwV 1 hg (gI (List.forall_mem_append.mpr ⟨List.forall_mem_cons.mpr ⟨k_1165, List.forall_mem_cons.mpr ⟨k_1167, List.forall_mem_cons.mpr ⟨(big_sel (q := y_Md_goes) (n := 45) (by decide +kernel)), List.forall_mem_cons.mpr ⟨k_13, fun _ h => absurd h List.not_mem_nil⟩⟩⟩⟩, List.forall_mem_cons.mpr ⟨k_1168, fun _ h => h⟩⟩)) rfl rfl rfl (by decide +kernel) ⟨Nat.le_of_ble_eq_true rfl, Nat.le_of_ble_eq_true rfl⟩) ⟨fun a U g mk q => by obtain ⟨q0, q1, qP, qK, qD⟩ := q; exact ⟨q0, q1, qP, va_K.moved (u := U) (U := U.calling g mk a) (Vm.Alike.refl U.vm) qK, qD⟩, va_recv (q0 := 0) (ci := 12) hK hP rfl rfl, fun U hU hW => ⟨rfl, by rw [hU], by rw [hU]; exact hPc, va_K.moved hW.alike hK, hDc.weaken (fun _ _ _ _ => trivial)⟩⟩ rfl rfl hl.1 rfl (lv_room (Nat.le_of_ble_eq_true rfl)) d_Md_draft_20 ⟨Nat.le_of_ble_eq_true rfl, Nat.le_of_ble_eq_true rfl⟩) hS (fun q _ h => hFc q h) hFc (fun rv9 u t H1 locs ht hvm hw hB hz1 hk1 hS => ?_)
  try dsimp only at hw hB
  obtain ⟨hP1, hK1, hD1⟩ := hB
  rw [ht] at hP1
  obtain ⟨rfl, hw⟩ := hw
  obtain ⟨hP, hD⟩ := va_join (wr := [(r 7, .inl ((cT 0), 1000, .inl f))]) (w1 := [(mo, .inr (12, mdF r z q 0 tm (nI 20) (nI tx)))]) hP hD [0] [1] rfl rfl (by decide) (by decide) hk1 hFc hP1 hD1
  have hw25 := hw
  clear hPc hDc hFc hz1 hk1 hP1 hK1 hD1
  generalize H1 = H at hP hS ⊢
  have hP : va_P (dC, dI) vcl [(r 7, .inl ((cT 0), 1000, .inl f)), (mo, .inr (12, mdF r z q 0 tm (nI 20) (nI tx)))] H := hP
  have hD : va_D A [(r 7, .inl ((cT 0), 1000, .inl f)), (mo, .inr (12, mdF r z q 0 tm (nI 20) (nI tx)))] := hD
  refine lv_if_eq (tgt := 33) hx hb d_Md_draft_23 (by decide) (fun hn9 => absurd hn9 (by decide)) (fun hc26 => ?_)
  refine lv_aload_n hx hb d_Md_draft_26 rfl (lv_at hl 0 rfl) ?_
  refine lv_iload_n hx hb d_Md_draft_27 rfl (lv_at hl 1 rfl) ?_
  refine lv_iload_n hx hb d_Md_draft_28 rfl (lv_at hl 2 rfl) ?_
  refine lv_lload_n hx hb d_Md_draft_29 rfl (lv_at hl 3 rfl) ?_
  have hPc := hP.sub (ws' := [(mo, .inr (12, mdF r z q 0 tm (nI 20) (nI tx))), (r 7, .inl ((cT 0), 1000, .inl f))]) [1, 0] rfl
  have hDc := hD.sub (ws' := [(mo, .inr (12, mdF r z q 0 tm (nI 20) (nI tx))), (r 7, .inl ((cT 0), 1000, .inl f))]) [1, 0] (by decide) rfl
  have hFc := va_free (wc := [(mo, .inr (12, mdF r z q 0 tm (nI 20) (nI tx))), (r 7, .inl ((cT 0), 1000, .inl f))]) hD hS hA [1, 0] rfl
  refine va_callv (va_runV (C := "DoorServerModel") (As := [.int x, .int y, .long v]) (rest := []) ⟨hx, hb, hml, hown, hg⟩ (m_begin l dC dI cT H.size mo r z q 0 tm 20 tx f x y v ) (cwV 3 hg (gI (List.forall_mem_append.mpr ⟨List.forall_mem_cons.mpr ⟨k_1011, List.forall_mem_cons.mpr ⟨k_1013, List.forall_mem_cons.mpr ⟨(big_sel (q := y_Md_begin) (n := 45) (by decide +kernel)), List.forall_mem_cons.mpr ⟨k_13, fun _ h => absurd h List.not_mem_nil⟩⟩⟩⟩, List.forall_mem_cons.mpr ⟨k_1014, fun _ h => h⟩⟩)) rfl rfl rfl (by decide +kernel) ⟨Nat.le_of_ble_eq_true rfl, Nat.le_of_ble_eq_true rfl⟩) ⟨fun a U g mk q => by obtain ⟨q0, q1, qP, qK, qD⟩ := q; exact ⟨q0, q1, qP, va_K.moved (u := U) (U := U.calling g mk a) (Vm.Alike.refl U.vm) qK, qD⟩, va_recv (q0 := 1) (ci := 12) hK hP rfl rfl, fun U hU hW => ⟨rfl, by rw [hU], by rw [hU]; exact hPc, va_K.moved hW.alike hK, hDc.weaken (fun _ _ _ _ => trivial)⟩⟩ rfl rfl hl.1 rfl (lv_room (Nat.le_of_ble_eq_true rfl)) d_Md_draft_30 ⟨Nat.le_of_ble_eq_true rfl, Nat.le_of_ble_eq_true rfl⟩) hS (fun q _ h => hFc q h) hFc (fun u t H1 locs ht hvm hw hB hz1 hk1 hS => ?_)
  obtain ⟨g_27, rfl⟩ : ∃ z, z = u := ⟨_, rfl⟩
  try dsimp only at hw hB
  obtain ⟨hP1, hK1, hD1⟩ := hB
  rw [ht] at hP1
  obtain ⟨hP, hD⟩ := va_join (wr := []) (w1 := [(mo, .inr (12, mdF r z q 0 tm (nI 20) (nI tx))), (r 7, .inl ((cT 0), 1000, .inl g_27))]) hP hD [1, 0] [] rfl rfl (by decide) (by decide) hk1 hFc hP1 hD1
  have hw28 := hw
  clear hPc hDc hFc hz1 hk1 hP1 hK1 hD1
  generalize H1 = H at hP hS ⊢
  have hP : va_P (dC, dI) vcl [(mo, .inr (12, mdF r z q 0 tm (nI 20) (nI tx))), (r 7, .inl ((cT 0), 1000, .inl g_27))] H := hP
  have hD : va_D A [(mo, .inr (12, mdF r z q 0 tm (nI 20) (nI tx))), (r 7, .inl ((cT 0), 1000, .inl g_27))] := hD
  have hP9 := hP.sub (ws' := [(mo, .inr (12, mdF r z q 0 tm (nI 20) (nI tx)))]) [0] rfl
  have hD9 := hD.sub (ws' := [(mo, .inr (12, mdF r z q 0 tm (nI 20) (nI tx)))]) [0] (by decide) rfl
  exact W.vret hx hb hr (fun t ht hW => ⟨⟨(), rfl, trivial, by rw [ht]; exact hP9, va_K.moved hW.alike hK, hD9⟩, hS.F ht⟩) hS.2.2 d_Md_draft_33
set_option maxHeartbeats 4000000 in
set_option maxRecDepth 100000 in
/-- put -/
theorem o_put (l : Launch) (dC : Nat → ClassId) (dI : Nat → Nat → Nat) (cT : Nat → ClassId) (sz : Nat) (mo : Nat) (r : Nat → Nat) (z : Nat → Int32) (q : Nat → Int64) (cd : Int32) (tm : Int32) (sn : Nat) (tx : Nat) (f : Nat → Int32) (x : Int32) (k : Nat) (y : Int32) (hx1 : ¬ x < 0) (hx2 : ¬ 255 < x) (hy1 : ¬ y < 0) (hy2 : ¬ 255 < y) (hk : k ≤ 100) : Met l y_Md_put (Cond.code y_Md_put b_Md_put 5 (Option.some Jvm.ClassFile.FieldType.int) :: BIG) ({ frames := 2, cells := 0, slots := 0, locals := 45 }) (va_Pc [.ref mo, .int x, .int (nI k), .int y] (fun U => U.heap.size = sz ∧ va_P (dC, dI) vcl [(mo, .inr (12, mdF r z q cd tm (nI 20) (nI tx))), (r 7, .inl ((cT 0), 1000, .inl f))] U.heap ∧ va_K (dC, dI) vcl (tyL cT) U ∧ va_D (fun _ => True) [(mo, .inr (12, mdF r z q cd tm (nI 20) (nI tx))), (r 7, .inl ((cT 0), 1000, .inl f))])) (va_Qi (S := Unit) (fun rv9 u => rv9 = nI (22 + k) ∧ (True)) (fun u t => va_P (dC, dI) vcl [(mo, .inr (12, mdF r z q 0 tm (nI (22 + k)) (nI tx)))] t.heap ∧ va_K (dC, dI) vcl (tyL cT) t ∧ va_D (va_A [(mo, .inr (12, mdF r z q cd tm (nI 20) (nI tx))), (r 7, .inl ((cT 0), 1000, .inl f))] sz) [(mo, .inr (12, mdF r z q 0 tm (nI (22 + k)) (nI tx)))]) (va_A [(mo, .inr (12, mdF r z q cd tm (nI 20) (nI tx))), (r 7, .inl ((cT 0), 1000, .inl f))] sz)) 0 0 (va_A [(mo, .inr (12, mdF r z q cd tm (nI 20) (nI tx))), (r 7, .inl ((cT 0), 1000, .inl f))] sz) := by
  refine Met.ofW (cc := b_Md_put) (maxL := 5) (ret := (Option.some Jvm.ClassFile.FieldType.int)) (by decide) rfl ?_
  intro p e s m args below meth c s₁ B hml hv
  obtain ⟨hargs, hsz, hP, hK, hD0⟩ := hv
  have hx := B.exec
  have hb := B.bytes
  have hr := B.returns
  have hts := atoms_spec (ws := (Cond.code y_Md_put b_Md_put 5 (Option.some Jvm.ClassFile.FieldType.int) :: BIG)) B.pre
  have hg : ∀ w ∈ BIG, w.before _ s = true := fun w h => hts w (List.mem_cons_of_mem _ h)
  have hown : s.vm.findClass "DoorServerModel" = some m.cls := findClass_of_methodNamed B.named
  have hlocks := B.notSynchronized
  subst hsz
  have hD := hD0.self (sz := s.heap.size)
  generalize hAe : va_A [(mo, .inr (12, mdF r z q cd tm (nI 20) (nI tx))), (r 7, .inl ((cT 0), 1000, .inl f))] s.heap.size = A at hD ⊢
  have hA : ∀ q : Nat, s.heap.size ≤ q → A q := fun q h => by rw [← hAe]; exact Or.inr h
  have hS : va_S A s.heap s.heap [] := va_S.rf
  have hl := lv_entry ([.ref mo, .int x, .int (nI k), .int y]) (n := 5) (Nat.le_of_ble_eq_true rfl)
  refine W.eq (g2 := entryFrame m (List.toArray [.ref mo, .int x, .int (nI k), .int y]) 5) (by rw [hargs]) ?_
  rw [lg_entry_eq]
  generalize (lg_sl ([.ref mo, .int x, .int (nI k), .int y]) ++ List.replicate (5 - (lg_sl ([.ref mo, .int x, .int (nI k), .int y])).length) Slot.unset).toArray = ls at hl ⊢
  have hl : lv_has ls 5 [(0, .ref mo), (1, .int x), (2, .int (nI k)), (3, .int y)] := hl
  change W p l e ({ frames := 2, cells := 0, slots := 0, locals := 45 } : Room) s m args below meth c s.heap [] 0 0 _ _
  have hP : va_P (dC, dI) vcl [(mo, .inr (12, mdF r z q cd tm (nI 20) (nI tx))), (r 7, .inl ((cT 0), 1000, .inl f))] s.heap := hP
  refine lv_aload_n hx hb d_Md_put_0 rfl (lv_at hl 0 rfl) ?_
  refine lv_iload_n hx hb d_Md_put_1 rfl (lv_at hl 1 rfl) ?_
  have hPc := hP.sub (ws' := []) [] rfl
  have hDc := hD.sub (ws' := []) [] (by decide) rfl
  have hFc := va_free (wc := []) hD hS hA [] rfl
  refine va_calli (va_runS (As := [.int x]) (rest := [.ref mo]) ⟨hx, hb, hml, hown, hg⟩ (m_byte1 l dC dI cT s.heap.size x (hx1) (hx2)) (va_cwS 1 hg (gI (List.forall_mem_append.mpr ⟨List.forall_mem_cons.mpr ⟨k_1181, List.forall_mem_cons.mpr ⟨k_1182, List.forall_mem_cons.mpr ⟨k_13, fun _ h => absurd h List.not_mem_nil⟩⟩⟩, List.forall_mem_cons.mpr ⟨k_1183, fun _ h => h⟩⟩)) rfl rfl rfl (by decide +kernel) ⟨Nat.le_of_ble_eq_true rfl, Nat.le_of_ble_eq_true rfl⟩) ⟨fun a U g mk q => by obtain ⟨q0, q1, qP, qK, qD⟩ := q; exact ⟨q0, q1, qP, va_K.moved (u := U) (U := U.calling g mk a) (Vm.Alike.refl U.vm) qK, qD⟩, fun U hU hW => ⟨rfl, by rw [hU], by rw [hU]; exact hPc, va_K.moved hW.alike hK, hDc.weaken (fun _ _ _ _ => trivial)⟩⟩ rfl rfl hl.1 rfl (lv_room (Nat.le_of_ble_eq_true rfl)) d_Md_put_2 ⟨Nat.le_of_ble_eq_true rfl, Nat.le_of_ble_eq_true rfl⟩) hS (fun q _ h => hFc q h) hFc (fun rv9 u t H1 locs ht hvm hw hB hz1 hk1 hS => ?_)
  try dsimp only at hw hB
  obtain ⟨hP1, hK1, hD1⟩ := hB
  rw [ht] at hP1
  obtain ⟨rfl, hw⟩ := hw
  obtain ⟨hP, hD⟩ := va_join (wr := [(mo, .inr (12, mdF r z q cd tm (nI 20) (nI tx))), (r 7, .inl ((cT 0), 1000, .inl f))]) (w1 := []) hP hD [] [0, 1] rfl rfl (by decide) (by decide) hk1 hFc hP1 hD1
  have hw29 := hw
  clear hPc hDc hFc hz1 hk1 hP1 hK1 hD1
  generalize H1 = H at hP hS ⊢
  have hP : va_P (dC, dI) vcl [(mo, .inr (12, mdF r z q cd tm (nI 20) (nI tx))), (r 7, .inl ((cT 0), 1000, .inl f))] H := hP
  have hD : va_D A [(mo, .inr (12, mdF r z q cd tm (nI 20) (nI tx))), (r 7, .inl ((cT 0), 1000, .inl f))] := hD
  refine lv_if_eq (tgt := 29) hx hb d_Md_put_5 (by decide) (fun hn9 => absurd hn9 (by decide)) (fun hc30 => ?_)
  refine lv_iload_n hx hb d_Md_put_8 rfl (lv_at hl 3 rfl) ?_
  have hPc := hP.sub (ws' := []) [] rfl
  have hDc := hD.sub (ws' := []) [] (by decide) rfl
  have hFc := va_free (wc := []) hD hS hA [] rfl
  refine va_calli (va_runS (As := [.int y]) (rest := [.ref mo]) ⟨hx, hb, hml, hown, hg⟩ (m_byte1 l dC dI cT H.size y (hy1) (hy2)) (va_cwS 1 hg (gI (List.forall_mem_append.mpr ⟨List.forall_mem_cons.mpr ⟨k_1181, List.forall_mem_cons.mpr ⟨k_1182, List.forall_mem_cons.mpr ⟨k_13, fun _ h => absurd h List.not_mem_nil⟩⟩⟩, List.forall_mem_cons.mpr ⟨k_1183, fun _ h => h⟩⟩)) rfl rfl rfl (by decide +kernel) ⟨Nat.le_of_ble_eq_true rfl, Nat.le_of_ble_eq_true rfl⟩) ⟨fun a U g mk q => by obtain ⟨q0, q1, qP, qK, qD⟩ := q; exact ⟨q0, q1, qP, va_K.moved (u := U) (U := U.calling g mk a) (Vm.Alike.refl U.vm) qK, qD⟩, fun U hU hW => ⟨rfl, by rw [hU], by rw [hU]; exact hPc, va_K.moved hW.alike hK, hDc.weaken (fun _ _ _ _ => trivial)⟩⟩ rfl rfl hl.1 rfl (lv_room (Nat.le_of_ble_eq_true rfl)) d_Md_put_9 ⟨Nat.le_of_ble_eq_true rfl, Nat.le_of_ble_eq_true rfl⟩) hS (fun q _ h => hFc q h) hFc (fun rv9 u t H1 locs ht hvm hw hB hz1 hk1 hS => ?_)
  try dsimp only at hw hB
  obtain ⟨hP1, hK1, hD1⟩ := hB
  rw [ht] at hP1
  obtain ⟨rfl, hw⟩ := hw
  obtain ⟨hP, hD⟩ := va_join (wr := [(mo, .inr (12, mdF r z q cd tm (nI 20) (nI tx))), (r 7, .inl ((cT 0), 1000, .inl f))]) (w1 := []) hP hD [] [0, 1] rfl rfl (by decide) (by decide) hk1 hFc hP1 hD1
  have hw31 := hw
  clear hPc hDc hFc hz1 hk1 hP1 hK1 hD1
  generalize H1 = H at hP hS ⊢
  have hP : va_P (dC, dI) vcl [(mo, .inr (12, mdF r z q cd tm (nI 20) (nI tx))), (r 7, .inl ((cT 0), 1000, .inl f))] H := hP
  have hD : va_D A [(mo, .inr (12, mdF r z q cd tm (nI 20) (nI tx))), (r 7, .inl ((cT 0), 1000, .inl f))] := hD
  refine lv_if_eq (tgt := 29) hx hb d_Md_put_12 (by decide) (fun hn9 => absurd hn9 (by decide)) (fun hc32 => ?_)
  refine lv_iload_n hx hb d_Md_put_15 rfl (lv_at hl 2 rfl) ?_
  refine lv_if_lt (tgt := 29) hx hb d_Md_put_16 (by decide) (fun hn9 => absurd hn9 (nI_pos (by omega))) (fun hc33 => ?_)
  refine lv_iload_n hx hb d_Md_put_19 rfl (lv_at hl 2 rfl) ?_
  refine lv_bipush (v := 100) hx hb d_Md_put_20 (by decide) ?_
  refine lv_icmp_gt (tgt := 29) hx hb d_Md_put_22 (by decide) (fun hn9 => absurd hn9 (nI_nlt (a := 100) hk (by decide))) (fun hc34 => ?_)
  refine lv_iconst (v := 1) hx hb d_Md_put_25 (by decide) ?_
  refine lv_goto (tgt := 30) hx hb d_Md_put_26 (by decide) ?_
  have hPc := hP.sub (ws' := [(mo, .inr (12, mdF r z q cd tm (nI 20) (nI tx)))]) [0] rfl
  have hDc := hD.sub (ws' := [(mo, .inr (12, mdF r z q cd tm (nI 20) (nI tx)))]) [0] (by decide) rfl
  have hFc := va_free (wc := [(mo, .inr (12, mdF r z q cd tm (nI 20) (nI tx)))]) hD hS hA [0] rfl
  refine va_calli (va_runV (C := "DoorServerModel") (As := [.int 1]) (rest := []) ⟨hx, hb, hml, hown, hg⟩ (m_goes1 l dC dI cT H.size mo r z q cd tm 20 tx ) (cwV 1 hg (gI (List.forall_mem_append.mpr ⟨List.forall_mem_cons.mpr ⟨k_1165, List.forall_mem_cons.mpr ⟨k_1167, List.forall_mem_cons.mpr ⟨(big_sel (q := y_Md_goes) (n := 45) (by decide +kernel)), List.forall_mem_cons.mpr ⟨k_13, fun _ h => absurd h List.not_mem_nil⟩⟩⟩⟩, List.forall_mem_cons.mpr ⟨k_1168, fun _ h => h⟩⟩)) rfl rfl rfl (by decide +kernel) ⟨Nat.le_of_ble_eq_true rfl, Nat.le_of_ble_eq_true rfl⟩) ⟨fun a U g mk q => by obtain ⟨q0, q1, qP, qK, qD⟩ := q; exact ⟨q0, q1, qP, va_K.moved (u := U) (U := U.calling g mk a) (Vm.Alike.refl U.vm) qK, qD⟩, va_recv (q0 := 0) (ci := 12) hK hP rfl rfl, fun U hU hW => ⟨rfl, by rw [hU], by rw [hU]; exact hPc, va_K.moved hW.alike hK, hDc.weaken (fun _ _ _ _ => trivial)⟩⟩ rfl rfl hl.1 rfl (lv_room (Nat.le_of_ble_eq_true rfl)) d_Md_put_30 ⟨Nat.le_of_ble_eq_true rfl, Nat.le_of_ble_eq_true rfl⟩) hS (fun q _ h => hFc q h) hFc (fun rv9 u t H1 locs ht hvm hw hB hz1 hk1 hS => ?_)
  try dsimp only at hw hB
  obtain ⟨hP1, hK1, hD1⟩ := hB
  rw [ht] at hP1
  obtain ⟨rfl, hw⟩ := hw
  obtain ⟨hP, hD⟩ := va_join (wr := [(r 7, .inl ((cT 0), 1000, .inl f))]) (w1 := [(mo, .inr (12, mdF r z q 0 tm (nI 20) (nI tx)))]) hP hD [0] [1] rfl rfl (by decide) (by decide) hk1 hFc hP1 hD1
  have hw35 := hw
  clear hPc hDc hFc hz1 hk1 hP1 hK1 hD1
  generalize H1 = H at hP hS ⊢
  have hP : va_P (dC, dI) vcl [(r 7, .inl ((cT 0), 1000, .inl f)), (mo, .inr (12, mdF r z q 0 tm (nI 20) (nI tx)))] H := hP
  have hD : va_D A [(r 7, .inl ((cT 0), 1000, .inl f)), (mo, .inr (12, mdF r z q 0 tm (nI 20) (nI tx)))] := hD
  refine lv_if_eq (tgt := 45) hx hb d_Md_put_33 (by decide) (fun hn9 => absurd hn9 (by decide)) (fun hc36 => ?_)
  refine lv_aload_n hx hb d_Md_put_36 rfl (lv_at hl 0 rfl) ?_
  refine lv_iload_n hx hb d_Md_put_37 rfl (lv_at hl 1 rfl) ?_
  refine lv_iload_n hx hb d_Md_put_38 rfl (lv_at hl 2 rfl) ?_
  have hPc := hP.sub (ws' := [(mo, .inr (12, mdF r z q 0 tm (nI 20) (nI tx))), (r 7, .inl ((cT 0), 1000, .inl f))]) [1, 0] rfl
  have hDc := hD.sub (ws' := [(mo, .inr (12, mdF r z q 0 tm (nI 20) (nI tx))), (r 7, .inl ((cT 0), 1000, .inl f))]) [1, 0] (by decide) rfl
  have hFc := va_free (wc := [(mo, .inr (12, mdF r z q 0 tm (nI 20) (nI tx))), (r 7, .inl ((cT 0), 1000, .inl f))]) hD hS hA [1, 0] rfl
  refine va_calli (va_runV (C := "DoorServerModel") (As := [.int x, .int (nI k)]) (rest := []) ⟨hx, hb, hml, hown, hg⟩ (m_opens l dC dI cT H.size mo r z q 0 tm 20 tx f x k (by omega)) (cwV 2 hg (gI (List.forall_mem_append.mpr ⟨List.forall_mem_cons.mpr ⟨k_1188, List.forall_mem_cons.mpr ⟨k_1190, List.forall_mem_cons.mpr ⟨(big_sel (q := y_Md_opens) (n := 45) (by decide +kernel)), List.forall_mem_cons.mpr ⟨k_13, fun _ h => absurd h List.not_mem_nil⟩⟩⟩⟩, List.forall_mem_cons.mpr ⟨k_1191, fun _ h => h⟩⟩)) rfl rfl rfl (by decide +kernel) ⟨Nat.le_of_ble_eq_true rfl, Nat.le_of_ble_eq_true rfl⟩) ⟨fun a U g mk q => by obtain ⟨q0, q1, qP, qK, qD⟩ := q; exact ⟨q0, q1, qP, va_K.moved (u := U) (U := U.calling g mk a) (Vm.Alike.refl U.vm) qK, qD⟩, va_recv (q0 := 1) (ci := 12) hK hP rfl rfl, fun U hU hW => ⟨rfl, by rw [hU], by rw [hU]; exact hPc, va_K.moved hW.alike hK, hDc.weaken (fun _ _ _ _ => trivial)⟩⟩ rfl rfl hl.1 rfl (lv_room (Nat.le_of_ble_eq_true rfl)) d_Md_put_39 ⟨Nat.le_of_ble_eq_true rfl, Nat.le_of_ble_eq_true rfl⟩) hS (fun q _ h => hFc q h) hFc (fun rv9 u t H1 locs ht hvm hw hB hz1 hk1 hS => ?_)
  try dsimp only at hw hB
  obtain ⟨hP1, hK1, hD1⟩ := hB
  rw [ht] at hP1
  obtain ⟨rfl, hw⟩ := hw
  obtain ⟨hP, hD⟩ := va_join (wr := []) (w1 := [(mo, .inr (12, mdF r z q 0 tm (nI ((20 + 1) + 1)) (nI tx))), (r 7, .inl ((cT 0), 1000, .inl (upd (upd f 20 (x &&& 255)) (20 + 1) ((nI k + 2) &&& 255))))]) hP hD [1, 0] [] rfl rfl (by decide) (by decide) hk1 hFc hP1 hD1
  have hw37 := hw
  clear hPc hDc hFc hz1 hk1 hP1 hK1 hD1
  generalize H1 = H at hP hS ⊢
  have hP : va_P (dC, dI) vcl [(mo, .inr (12, mdF r z q 0 tm (nI ((20 + 1) + 1)) (nI tx))), (r 7, .inl ((cT 0), 1000, .inl (upd (upd f 20 (x &&& 255)) (20 + 1) ((nI k + 2) &&& 255))))] H := hP
  have hD : va_D A [(mo, .inr (12, mdF r z q 0 tm (nI ((20 + 1) + 1)) (nI tx))), (r 7, .inl ((cT 0), 1000, .inl (upd (upd f 20 (x &&& 255)) (20 + 1) ((nI k + 2) &&& 255))))] := hD
  refine lv_if_ne (tgt := 47) hx hb d_Md_put_42 (by decide) (fun hc38 => ?_) (fun hn9 => absurd hn9 (by decide))
  refine lv_iconst (v := 0) hx hb d_Md_put_47 (by decide) ?_
  refine lv_istore (lv' := [(4, .int 0), (0, .ref mo), (1, .int x), (2, .int (nI k)), (3, .int y)]) hx hb d_Md_put_48 hl (by decide) rfl (fun ls hl => ?_)
  have hl := lv_sub hl [0, 1, 2, 3, 4] (show _ = [(4, .int 0), (0, .ref mo), (1, .int x), (2, .int (nI k)), (3, .int y)] from rfl)
  have hP : va_P (dC, dI) vcl [(mo, .inr (12, mdF r z q 0 tm (nI (22 + 0)) (nI tx))), (r 7, .inl ((cT 0), 1000, .inl (upd (upd f 20 (x &&& 255)) (20 + 1) ((nI k + 2) &&& 255))))] H := hP
  have hD : va_D A [(mo, .inr (12, mdF r z q 0 tm (nI (22 + 0)) (nI tx))), (r 7, .inl ((cT 0), 1000, .inl (upd (upd f 20 (x &&& 255)) (20 + 1) ((nI k + 2) &&& 255))))] := hD
  have L39 : ∀ (Q : State → Prop) (exit : ∀ (g : Nat → Int32) (H : Heap) (locs : List Loc) (ls : Array Slot), va_P (dC, dI) vcl [(mo, .inr (12, mdF r z q 0 tm (nI (22 + k)) (nI tx))), (r 7, .inl ((cT 0), 1000, .inl g))] H → va_D A [(mo, .inr (12, mdF r z q 0 tm (nI (22 + k)) (nI tx))), (r 7, .inl ((cT 0), 1000, .inl g))] → va_S A s.heap H locs → lv_has ls 5 [(4, .int (nI k)), (0, .ref mo), (1, .int x), (2, .int (nI k)), (3, .int y)] → W p l e ({ frames := 2, cells := 0, slots := 0, locals := 45 } : Room) s m args below meth c H locs 0 0 Q (F0 m 70 ls [])) (j8 i : Nat) (g : Nat → Int32) (H : Heap) (locs : List Loc) (ls : Array Slot), i + j8 = k → va_P (dC, dI) vcl [(mo, .inr (12, mdF r z q 0 tm (nI (22 + i)) (nI tx))), (r 7, .inl ((cT 0), 1000, .inl g))] H → va_D A [(mo, .inr (12, mdF r z q 0 tm (nI (22 + i)) (nI tx))), (r 7, .inl ((cT 0), 1000, .inl g))] → va_S A s.heap H locs → lv_has ls 5 [(4, .int (nI i)), (0, .ref mo), (1, .int x), (2, .int (nI k)), (3, .int y)] → W p l e ({ frames := 2, cells := 0, slots := 0, locals := 45 } : Room) s m args below meth c H locs 0 0 Q (F0 m 50 ls []) := by
    intro Q exit j8
    induction j8 with
    | zero => 
      intro i g H locs ls hij  hP hD hS hl
      have hij : k = i := by omega
      refine lv_iload hx hb d_Md_put_50 (lv_at hl 0 rfl) ?_
      refine lv_iload_n hx hb d_Md_put_52 rfl (lv_at hl 3 rfl) ?_
      refine lv_icmp_ge (tgt := 70) hx hb d_Md_put_53 (by decide) (fun hc40 => ?_) (fun hn9 => absurd (nI_le (by omega) (by omega)) hn9)
      subst hij
      exact exit g _ _ _  hP hD hS hl
    | succ j8 ih => 
      intro i g H locs ls hij  hP hD hS hl
      have hlt : i < k := by omega
      refine lv_iload hx hb d_Md_put_50 (lv_at hl 0 rfl) ?_
      refine lv_iload_n hx hb d_Md_put_52 rfl (lv_at hl 3 rfl) ?_
      refine lv_icmp_ge (tgt := 70) hx hb d_Md_put_53 (by decide) (fun hn9 => absurd hn9 (nI_ge hlt (by omega))) (fun hc41 => ?_)
      refine lv_aload_n hx hb d_Md_put_56 rfl (lv_at hl 1 rfl) ?_
      refine lv_iload_n hx hb d_Md_put_57 rfl (lv_at hl 4 rfl) ?_
      refine lv_iload hx hb d_Md_put_58 (lv_at hl 0 rfl) ?_
      refine lv_iadd hx hb d_Md_put_60 ?_
      have hPc := hP.sub (ws' := [(mo, .inr (12, mdF r z q 0 tm (nI (22 + i)) (nI tx))), (r 7, .inl ((cT 0), 1000, .inl g))]) [0, 1] rfl
      have hDc := hD.sub (ws' := [(mo, .inr (12, mdF r z q 0 tm (nI (22 + i)) (nI tx))), (r 7, .inl ((cT 0), 1000, .inl g))]) [0, 1] (by decide) rfl
      have hFc := va_free (wc := [(mo, .inr (12, mdF r z q 0 tm (nI (22 + i)) (nI tx))), (r 7, .inl ((cT 0), 1000, .inl g))]) hD hS hA [0, 1] rfl
      refine va_callv (va_runV (C := "DoorServerModel") (As := [.int (y + (nI i))]) (rest := []) ⟨hx, hb, hml, hown, hg⟩ (m_add l dC dI cT H.size mo r z q 0 tm (22 + i) tx g (y + (nI i)) (by omega)) (cwV 1 hg (gI (List.forall_mem_append.mpr ⟨List.forall_mem_cons.mpr ⟨k_1015, List.forall_mem_cons.mpr ⟨k_1017, List.forall_mem_cons.mpr ⟨(big_sel (q := y_Md_add) (n := 45) (by decide +kernel)), List.forall_mem_cons.mpr ⟨k_13, fun _ h => absurd h List.not_mem_nil⟩⟩⟩⟩, List.forall_mem_cons.mpr ⟨k_1018, fun _ h => h⟩⟩)) rfl rfl rfl (by decide +kernel) ⟨Nat.le_of_ble_eq_true rfl, Nat.le_of_ble_eq_true rfl⟩) ⟨fun a U g mk q => by obtain ⟨q0, q1, qP, qK, qD⟩ := q; exact ⟨q0, q1, qP, va_K.moved (u := U) (U := U.calling g mk a) (Vm.Alike.refl U.vm) qK, qD⟩, va_recv (q0 := 0) (ci := 12) hK hP rfl rfl, fun U hU hW => ⟨rfl, by rw [hU], by rw [hU]; exact hPc, va_K.moved hW.alike hK, hDc.weaken (fun _ _ _ _ => trivial)⟩⟩ rfl rfl hl.1 rfl (lv_room (Nat.le_of_ble_eq_true rfl)) d_Md_put_61 ⟨Nat.le_of_ble_eq_true rfl, Nat.le_of_ble_eq_true rfl⟩) hS (fun q _ h => hFc q h) hFc (fun u t H1 locs ht hvm hw hB hz1 hk1 hS => ?_)
      try dsimp only at hw hB
      obtain ⟨hP1, hK1, hD1⟩ := hB
      rw [ht] at hP1
      obtain ⟨hP, hD⟩ := va_join (wr := []) (w1 := [(mo, .inr (12, mdF r z q 0 tm (nI ((22 + i) + 1)) (nI tx))), (r 7, .inl ((cT 0), 1000, .inl (upd g (22 + i) ((y + (nI i)) &&& 255))))]) hP hD [0, 1] [] rfl rfl (by decide) (by decide) hk1 hFc hP1 hD1
      have hw42 := hw
      clear hPc hDc hFc hz1 hk1 hP1 hK1 hD1
      generalize H1 = H at hP hS ⊢
      have hP : va_P (dC, dI) vcl [(mo, .inr (12, mdF r z q 0 tm (nI ((22 + i) + 1)) (nI tx))), (r 7, .inl ((cT 0), 1000, .inl (upd g (22 + i) ((y + (nI i)) &&& 255))))] H := hP
      have hD : va_D A [(mo, .inr (12, mdF r z q 0 tm (nI ((22 + i) + 1)) (nI tx))), (r 7, .inl ((cT 0), 1000, .inl (upd g (22 + i) ((y + (nI i)) &&& 255))))] := hD
      refine lv_iinc (k := 0) (v := nI (i + 1)) (lv' := [(4, .int (nI (i + 1))), (0, .ref mo), (1, .int x), (2, .int (nI k)), (3, .int y)]) hx hb d_Md_put_64 hl rfl (nI_1 i) (by decide) rfl (fun ls hl => ?_)
      refine lv_goto (tgt := 50) hx hb d_Md_put_67 (by decide) ?_
      exact ih (i + 1) _ _ _ _ (by omega)  hP hD hS hl
  refine L39 _ (fun g H locs ls  hP hD hS hl => ?_) (k - 0) 0 (upd (upd f 20 (x &&& 255)) (20 + 1) ((nI k + 2) &&& 255)) H _ ls (by omega)  hP hD hS hl
  refine lv_aload_n hx hb d_Md_put_70 rfl (lv_at hl 1 rfl) ?_
  have hPc := hP.sub (ws' := [(mo, .inr (12, mdF r z q 0 tm (nI (22 + k)) (nI tx))), (r 7, .inl ((cT 0), 1000, .inl g))]) [0, 1] rfl
  have hDc := hD.sub (ws' := [(mo, .inr (12, mdF r z q 0 tm (nI (22 + k)) (nI tx))), (r 7, .inl ((cT 0), 1000, .inl g))]) [0, 1] (by decide) rfl
  have hFc := va_free (wc := [(mo, .inr (12, mdF r z q 0 tm (nI (22 + k)) (nI tx))), (r 7, .inl ((cT 0), 1000, .inl g))]) hD hS hA [0, 1] rfl
  refine va_calli (va_runV (C := "DoorServerModel") (As := []) (rest := []) ⟨hx, hb, hml, hown, hg⟩ (m_closes l dC dI cT H.size mo r z q 0 tm (22 + k) tx g ) (cwV 0 hg (gI (List.forall_mem_append.mpr ⟨List.forall_mem_cons.mpr ⟨k_1192, List.forall_mem_cons.mpr ⟨k_1194, List.forall_mem_cons.mpr ⟨(big_sel (q := y_Md_closes) (n := 45) (by decide +kernel)), List.forall_mem_cons.mpr ⟨k_13, fun _ h => absurd h List.not_mem_nil⟩⟩⟩⟩, List.forall_mem_cons.mpr ⟨k_1195, fun _ h => h⟩⟩)) rfl rfl rfl (by decide +kernel) ⟨Nat.le_of_ble_eq_true rfl, Nat.le_of_ble_eq_true rfl⟩) ⟨fun a U g mk q => by obtain ⟨q0, q1, qP, qK, qD⟩ := q; exact ⟨q0, q1, qP, va_K.moved (u := U) (U := U.calling g mk a) (Vm.Alike.refl U.vm) qK, qD⟩, va_recv (q0 := 0) (ci := 12) hK hP rfl rfl, fun U hU hW => ⟨rfl, by rw [hU], by rw [hU]; exact hPc, va_K.moved hW.alike hK, hDc.weaken (fun _ _ _ _ => trivial)⟩⟩ rfl rfl hl.1 rfl (lv_room (Nat.le_of_ble_eq_true rfl)) d_Md_put_71 ⟨Nat.le_of_ble_eq_true rfl, Nat.le_of_ble_eq_true rfl⟩) hS (fun q _ h => hFc q h) hFc (fun rv9 u t H1 locs ht hvm hw hB hz1 hk1 hS => ?_)
  obtain ⟨g_43, rfl⟩ : ∃ z, z = u := ⟨_, rfl⟩
  try dsimp only at hw hB
  obtain ⟨hP1, hK1, hD1⟩ := hB
  rw [ht] at hP1
  obtain ⟨rfl, hw⟩ := hw
  obtain ⟨hP, hD⟩ := va_join (wr := []) (w1 := [(mo, .inr (12, mdF r z q 0 tm (nI (22 + k)) (nI tx))), (r 7, .inl ((cT 0), 1000, .inl g_43))]) hP hD [0, 1] [] rfl rfl (by decide) (by decide) hk1 hFc hP1 hD1
  have hw44 := hw
  clear hPc hDc hFc hz1 hk1 hP1 hK1 hD1
  generalize H1 = H at hP hS ⊢
  have hP : va_P (dC, dI) vcl [(mo, .inr (12, mdF r z q 0 tm (nI (22 + k)) (nI tx))), (r 7, .inl ((cT 0), 1000, .inl g_43))] H := hP
  have hD : va_D A [(mo, .inr (12, mdF r z q 0 tm (nI (22 + k)) (nI tx))), (r 7, .inl ((cT 0), 1000, .inl g_43))] := hD
  have hP9 := hP.sub (ws' := [(mo, .inr (12, mdF r z q 0 tm (nI (22 + k)) (nI tx)))]) [0] rfl
  have hD9 := hD.sub (ws' := [(mo, .inr (12, mdF r z q 0 tm (nI (22 + k)) (nI tx)))]) [0] (by decide) rfl
  exact W.iret (v := nI (22 + k)) hx hb hr (fun t ht hW => ⟨⟨_, (), rfl, ⟨rfl, trivial⟩, by rw [ht]; exact hP9, va_K.moved hW.alike hK, hD9⟩, hS.F ht⟩) hS.2.2 d_Md_put_74
set_option maxHeartbeats 4000000 in
set_option maxRecDepth 100000 in
/-- number -/
theorem o_number (l : Launch) (dC : Nat → ClassId) (dI : Nat → Nat → Nat) (cT : Nat → ClassId) (sz : Nat) (mo : Nat) (r : Nat → Nat) (z : Nat → Int32) (q : Nat → Int64) (cd : Int32) (tm : Int32) (sn : Nat) (tx : Nat) (f : Nat → Int32) (x : Int32) (y : Int32) (hx1 : ¬ x < 0) (hx2 : ¬ 255 < x) : Met l y_Md_number (Cond.code y_Md_number b_Md_number 4 (Option.some Jvm.ClassFile.FieldType.int) :: BIG) ({ frames := 2, cells := 0, slots := 0, locals := 45 }) (va_Pc [.ref mo, .int x, .int y] (fun U => U.heap.size = sz ∧ va_P (dC, dI) vcl [(mo, .inr (12, mdF r z q cd tm (nI 20) (nI tx))), (r 7, .inl ((cT 0), 1000, .inl f))] U.heap ∧ va_K (dC, dI) vcl (tyL cT) U ∧ va_D (fun _ => True) [(mo, .inr (12, mdF r z q cd tm (nI 20) (nI tx))), (r 7, .inl ((cT 0), 1000, .inl f))])) (va_Qi (S := Unit) (fun rv9 u => rv9 = 26 ∧ (True)) (fun u t => va_P (dC, dI) vcl [(mo, .inr (12, mdF r z q 0 tm (nI 26) (nI tx)))] t.heap ∧ va_K (dC, dI) vcl (tyL cT) t ∧ va_D (va_A [(mo, .inr (12, mdF r z q cd tm (nI 20) (nI tx))), (r 7, .inl ((cT 0), 1000, .inl f))] sz) [(mo, .inr (12, mdF r z q 0 tm (nI 26) (nI tx)))]) (va_A [(mo, .inr (12, mdF r z q cd tm (nI 20) (nI tx))), (r 7, .inl ((cT 0), 1000, .inl f))] sz)) 0 0 (va_A [(mo, .inr (12, mdF r z q cd tm (nI 20) (nI tx))), (r 7, .inl ((cT 0), 1000, .inl f))] sz) := by
  refine Met.ofW (cc := b_Md_number) (maxL := 4) (ret := (Option.some Jvm.ClassFile.FieldType.int)) (by decide) rfl ?_
  intro p e s m args below meth c s₁ B hml hv
  obtain ⟨hargs, hsz, hP, hK, hD0⟩ := hv
  have hx := B.exec
  have hb := B.bytes
  have hr := B.returns
  have hts := atoms_spec (ws := (Cond.code y_Md_number b_Md_number 4 (Option.some Jvm.ClassFile.FieldType.int) :: BIG)) B.pre
  have hg : ∀ w ∈ BIG, w.before _ s = true := fun w h => hts w (List.mem_cons_of_mem _ h)
  have hown : s.vm.findClass "DoorServerModel" = some m.cls := findClass_of_methodNamed B.named
  have hlocks := B.notSynchronized
  subst hsz
  have hD := hD0.self (sz := s.heap.size)
  generalize hAe : va_A [(mo, .inr (12, mdF r z q cd tm (nI 20) (nI tx))), (r 7, .inl ((cT 0), 1000, .inl f))] s.heap.size = A at hD ⊢
  have hA : ∀ q : Nat, s.heap.size ≤ q → A q := fun q h => by rw [← hAe]; exact Or.inr h
  have hS : va_S A s.heap s.heap [] := va_S.rf
  have hl := lv_entry ([.ref mo, .int x, .int y]) (n := 4) (Nat.le_of_ble_eq_true rfl)
  refine W.eq (g2 := entryFrame m (List.toArray [.ref mo, .int x, .int y]) 4) (by rw [hargs]) ?_
  rw [lg_entry_eq]
  generalize (lg_sl ([.ref mo, .int x, .int y]) ++ List.replicate (4 - (lg_sl ([.ref mo, .int x, .int y])).length) Slot.unset).toArray = ls at hl ⊢
  have hl : lv_has ls 4 [(0, .ref mo), (1, .int x), (2, .int y)] := hl
  change W p l e ({ frames := 2, cells := 0, slots := 0, locals := 45 } : Room) s m args below meth c s.heap [] 0 0 _ _
  have hP : va_P (dC, dI) vcl [(mo, .inr (12, mdF r z q cd tm (nI 20) (nI tx))), (r 7, .inl ((cT 0), 1000, .inl f))] s.heap := hP
  refine lv_aload_n hx hb d_Md_number_0 rfl (lv_at hl 0 rfl) ?_
  refine lv_iload_n hx hb d_Md_number_1 rfl (lv_at hl 1 rfl) ?_
  have hPc := hP.sub (ws' := []) [] rfl
  have hDc := hD.sub (ws' := []) [] (by decide) rfl
  have hFc := va_free (wc := []) hD hS hA [] rfl
  refine va_calli (va_runS (As := [.int x]) (rest := [.ref mo]) ⟨hx, hb, hml, hown, hg⟩ (m_byte1 l dC dI cT s.heap.size x (hx1) (hx2)) (va_cwS 1 hg (gI (List.forall_mem_append.mpr ⟨List.forall_mem_cons.mpr ⟨k_1181, List.forall_mem_cons.mpr ⟨k_1182, List.forall_mem_cons.mpr ⟨k_13, fun _ h => absurd h List.not_mem_nil⟩⟩⟩, List.forall_mem_cons.mpr ⟨k_1183, fun _ h => h⟩⟩)) rfl rfl rfl (by decide +kernel) ⟨Nat.le_of_ble_eq_true rfl, Nat.le_of_ble_eq_true rfl⟩) ⟨fun a U g mk q => by obtain ⟨q0, q1, qP, qK, qD⟩ := q; exact ⟨q0, q1, qP, va_K.moved (u := U) (U := U.calling g mk a) (Vm.Alike.refl U.vm) qK, qD⟩, fun U hU hW => ⟨rfl, by rw [hU], by rw [hU]; exact hPc, va_K.moved hW.alike hK, hDc.weaken (fun _ _ _ _ => trivial)⟩⟩ rfl rfl hl.1 rfl (lv_room (Nat.le_of_ble_eq_true rfl)) d_Md_number_2 ⟨Nat.le_of_ble_eq_true rfl, Nat.le_of_ble_eq_true rfl⟩) hS (fun q _ h => hFc q h) hFc (fun rv9 u t H1 locs ht hvm hw hB hz1 hk1 hS => ?_)
  try dsimp only at hw hB
  obtain ⟨hP1, hK1, hD1⟩ := hB
  rw [ht] at hP1
  obtain ⟨rfl, hw⟩ := hw
  obtain ⟨hP, hD⟩ := va_join (wr := [(mo, .inr (12, mdF r z q cd tm (nI 20) (nI tx))), (r 7, .inl ((cT 0), 1000, .inl f))]) (w1 := []) hP hD [] [0, 1] rfl rfl (by decide) (by decide) hk1 hFc hP1 hD1
  have hw45 := hw
  clear hPc hDc hFc hz1 hk1 hP1 hK1 hD1
  generalize H1 = H at hP hS ⊢
  have hP : va_P (dC, dI) vcl [(mo, .inr (12, mdF r z q cd tm (nI 20) (nI tx))), (r 7, .inl ((cT 0), 1000, .inl f))] H := hP
  have hD : va_D A [(mo, .inr (12, mdF r z q cd tm (nI 20) (nI tx))), (r 7, .inl ((cT 0), 1000, .inl f))] := hD
  have hPc := hP.sub (ws' := [(mo, .inr (12, mdF r z q cd tm (nI 20) (nI tx)))]) [0] rfl
  have hDc := hD.sub (ws' := [(mo, .inr (12, mdF r z q cd tm (nI 20) (nI tx)))]) [0] (by decide) rfl
  have hFc := va_free (wc := [(mo, .inr (12, mdF r z q cd tm (nI 20) (nI tx)))]) hD hS hA [0] rfl
  refine va_calli (va_runV (C := "DoorServerModel") (As := [.int 1]) (rest := []) ⟨hx, hb, hml, hown, hg⟩ (m_goes1 l dC dI cT H.size mo r z q cd tm 20 tx ) (cwV 1 hg (gI (List.forall_mem_append.mpr ⟨List.forall_mem_cons.mpr ⟨k_1165, List.forall_mem_cons.mpr ⟨k_1167, List.forall_mem_cons.mpr ⟨(big_sel (q := y_Md_goes) (n := 45) (by decide +kernel)), List.forall_mem_cons.mpr ⟨k_13, fun _ h => absurd h List.not_mem_nil⟩⟩⟩⟩, List.forall_mem_cons.mpr ⟨k_1168, fun _ h => h⟩⟩)) rfl rfl rfl (by decide +kernel) ⟨Nat.le_of_ble_eq_true rfl, Nat.le_of_ble_eq_true rfl⟩) ⟨fun a U g mk q => by obtain ⟨q0, q1, qP, qK, qD⟩ := q; exact ⟨q0, q1, qP, va_K.moved (u := U) (U := U.calling g mk a) (Vm.Alike.refl U.vm) qK, qD⟩, va_recv (q0 := 0) (ci := 12) hK hP rfl rfl, fun U hU hW => ⟨rfl, by rw [hU], by rw [hU]; exact hPc, va_K.moved hW.alike hK, hDc.weaken (fun _ _ _ _ => trivial)⟩⟩ rfl rfl hl.1 rfl (lv_room (Nat.le_of_ble_eq_true rfl)) d_Md_number_5 ⟨Nat.le_of_ble_eq_true rfl, Nat.le_of_ble_eq_true rfl⟩) hS (fun q _ h => hFc q h) hFc (fun rv9 u t H1 locs ht hvm hw hB hz1 hk1 hS => ?_)
  try dsimp only at hw hB
  obtain ⟨hP1, hK1, hD1⟩ := hB
  rw [ht] at hP1
  obtain ⟨rfl, hw⟩ := hw
  obtain ⟨hP, hD⟩ := va_join (wr := [(r 7, .inl ((cT 0), 1000, .inl f))]) (w1 := [(mo, .inr (12, mdF r z q 0 tm (nI 20) (nI tx)))]) hP hD [0] [1] rfl rfl (by decide) (by decide) hk1 hFc hP1 hD1
  have hw46 := hw
  clear hPc hDc hFc hz1 hk1 hP1 hK1 hD1
  generalize H1 = H at hP hS ⊢
  have hP : va_P (dC, dI) vcl [(r 7, .inl ((cT 0), 1000, .inl f)), (mo, .inr (12, mdF r z q 0 tm (nI 20) (nI tx)))] H := hP
  have hD : va_D A [(r 7, .inl ((cT 0), 1000, .inl f)), (mo, .inr (12, mdF r z q 0 tm (nI 20) (nI tx)))] := hD
  refine lv_if_eq (tgt := 20) hx hb d_Md_number_8 (by decide) (fun hn9 => absurd hn9 (by decide)) (fun hc47 => ?_)
  refine lv_aload_n hx hb d_Md_number_11 rfl (lv_at hl 0 rfl) ?_
  refine lv_iload_n hx hb d_Md_number_12 rfl (lv_at hl 1 rfl) ?_
  refine lv_iconst (v := 4) hx hb d_Md_number_13 (by decide) ?_
  refine lv_topi (fun x49 e48 => ?_)
  obtain rfl : x49 = nI 4 := by rw [e48]; rfl
  have hPc := hP.sub (ws' := [(mo, .inr (12, mdF r z q 0 tm (nI 20) (nI tx))), (r 7, .inl ((cT 0), 1000, .inl f))]) [1, 0] rfl
  have hDc := hD.sub (ws' := [(mo, .inr (12, mdF r z q 0 tm (nI 20) (nI tx))), (r 7, .inl ((cT 0), 1000, .inl f))]) [1, 0] (by decide) rfl
  have hFc := va_free (wc := [(mo, .inr (12, mdF r z q 0 tm (nI 20) (nI tx))), (r 7, .inl ((cT 0), 1000, .inl f))]) hD hS hA [1, 0] rfl
  refine va_calli (va_runV (C := "DoorServerModel") (As := [.int x, .int (nI 4)]) (rest := []) ⟨hx, hb, hml, hown, hg⟩ (m_opens l dC dI cT H.size mo r z q 0 tm 20 tx f x 4 (by decide)) (cwV 2 hg (gI (List.forall_mem_append.mpr ⟨List.forall_mem_cons.mpr ⟨k_1188, List.forall_mem_cons.mpr ⟨k_1190, List.forall_mem_cons.mpr ⟨(big_sel (q := y_Md_opens) (n := 45) (by decide +kernel)), List.forall_mem_cons.mpr ⟨k_13, fun _ h => absurd h List.not_mem_nil⟩⟩⟩⟩, List.forall_mem_cons.mpr ⟨k_1191, fun _ h => h⟩⟩)) rfl rfl rfl (by decide +kernel) ⟨Nat.le_of_ble_eq_true rfl, Nat.le_of_ble_eq_true rfl⟩) ⟨fun a U g mk q => by obtain ⟨q0, q1, qP, qK, qD⟩ := q; exact ⟨q0, q1, qP, va_K.moved (u := U) (U := U.calling g mk a) (Vm.Alike.refl U.vm) qK, qD⟩, va_recv (q0 := 1) (ci := 12) hK hP rfl rfl, fun U hU hW => ⟨rfl, by rw [hU], by rw [hU]; exact hPc, va_K.moved hW.alike hK, hDc.weaken (fun _ _ _ _ => trivial)⟩⟩ rfl rfl hl.1 rfl (lv_room (Nat.le_of_ble_eq_true rfl)) d_Md_number_14 ⟨Nat.le_of_ble_eq_true rfl, Nat.le_of_ble_eq_true rfl⟩) hS (fun q _ h => hFc q h) hFc (fun rv9 u t H1 locs ht hvm hw hB hz1 hk1 hS => ?_)
  try dsimp only at hw hB
  obtain ⟨hP1, hK1, hD1⟩ := hB
  rw [ht] at hP1
  obtain ⟨rfl, hw⟩ := hw
  obtain ⟨hP, hD⟩ := va_join (wr := []) (w1 := [(mo, .inr (12, mdF r z q 0 tm (nI ((20 + 1) + 1)) (nI tx))), (r 7, .inl ((cT 0), 1000, .inl (upd (upd f 20 (x &&& 255)) (20 + 1) ((nI 4 + 2) &&& 255))))]) hP hD [1, 0] [] rfl rfl (by decide) (by decide) hk1 hFc hP1 hD1
  have hw50 := hw
  clear hPc hDc hFc hz1 hk1 hP1 hK1 hD1
  generalize H1 = H at hP hS ⊢
  have hP : va_P (dC, dI) vcl [(mo, .inr (12, mdF r z q 0 tm (nI ((20 + 1) + 1)) (nI tx))), (r 7, .inl ((cT 0), 1000, .inl (upd (upd f 20 (x &&& 255)) (20 + 1) ((nI 4 + 2) &&& 255))))] H := hP
  have hD : va_D A [(mo, .inr (12, mdF r z q 0 tm (nI ((20 + 1) + 1)) (nI tx))), (r 7, .inl ((cT 0), 1000, .inl (upd (upd f 20 (x &&& 255)) (20 + 1) ((nI 4 + 2) &&& 255))))] := hD
  refine lv_if_ne (tgt := 22) hx hb d_Md_number_17 (by decide) (fun hc51 => ?_) (fun hn9 => absurd hn9 (by decide))
  refine lv_bipush (v := 24) hx hb d_Md_number_22 (by decide) ?_
  refine lv_istore_n (lv' := [(3, .int 24), (0, .ref mo), (1, .int x), (2, .int y)]) hx hb d_Md_number_24 rfl hl (by decide) rfl (fun ls hl => ?_)
  refine lv_iload_n hx hb d_Md_number_25 rfl (lv_at hl 0 rfl) ?_
  refine lv_if_lt (tgt := 42) hx hb d_Md_number_26 (by decide) (fun hn9 => absurd hn9 (by decide)) (fun hc52 => ?_)
  refine lv_aload_n hx hb d_Md_number_29 rfl (lv_at hl 1 rfl) ?_
  refine lv_iload_n hx hb d_Md_number_30 rfl (lv_at hl 3 rfl) ?_
  refine lv_iload_n hx hb d_Md_number_31 rfl (lv_at hl 0 rfl) ?_
  refine lv_ishr hx hb d_Md_number_32 ?_
  have hPc := hP.sub (ws' := [(mo, .inr (12, mdF r z q 0 tm (nI ((20 + 1) + 1)) (nI tx))), (r 7, .inl ((cT 0), 1000, .inl (upd (upd f 20 (x &&& 255)) (20 + 1) ((nI 4 + 2) &&& 255))))]) [0, 1] rfl
  have hDc := hD.sub (ws' := [(mo, .inr (12, mdF r z q 0 tm (nI ((20 + 1) + 1)) (nI tx))), (r 7, .inl ((cT 0), 1000, .inl (upd (upd f 20 (x &&& 255)) (20 + 1) ((nI 4 + 2) &&& 255))))]) [0, 1] (by decide) rfl
  have hFc := va_free (wc := [(mo, .inr (12, mdF r z q 0 tm (nI ((20 + 1) + 1)) (nI tx))), (r 7, .inl ((cT 0), 1000, .inl (upd (upd f 20 (x &&& 255)) (20 + 1) ((nI 4 + 2) &&& 255))))]) hD hS hA [0, 1] rfl
  refine va_callv (va_runV (C := "DoorServerModel") (As := [.int (y >>> (24 &&& 31))]) (rest := []) ⟨hx, hb, hml, hown, hg⟩ (m_add l dC dI cT H.size mo r z q 0 tm ((20 + 1) + 1) tx (upd (upd f 20 (x &&& 255)) (20 + 1) ((nI 4 + 2) &&& 255)) (y >>> (24 &&& 31)) (by decide)) (cwV 1 hg (gI (List.forall_mem_append.mpr ⟨List.forall_mem_cons.mpr ⟨k_1015, List.forall_mem_cons.mpr ⟨k_1017, List.forall_mem_cons.mpr ⟨(big_sel (q := y_Md_add) (n := 45) (by decide +kernel)), List.forall_mem_cons.mpr ⟨k_13, fun _ h => absurd h List.not_mem_nil⟩⟩⟩⟩, List.forall_mem_cons.mpr ⟨k_1018, fun _ h => h⟩⟩)) rfl rfl rfl (by decide +kernel) ⟨Nat.le_of_ble_eq_true rfl, Nat.le_of_ble_eq_true rfl⟩) ⟨fun a U g mk q => by obtain ⟨q0, q1, qP, qK, qD⟩ := q; exact ⟨q0, q1, qP, va_K.moved (u := U) (U := U.calling g mk a) (Vm.Alike.refl U.vm) qK, qD⟩, va_recv (q0 := 0) (ci := 12) hK hP rfl rfl, fun U hU hW => ⟨rfl, by rw [hU], by rw [hU]; exact hPc, va_K.moved hW.alike hK, hDc.weaken (fun _ _ _ _ => trivial)⟩⟩ rfl rfl hl.1 rfl (lv_room (Nat.le_of_ble_eq_true rfl)) d_Md_number_33 ⟨Nat.le_of_ble_eq_true rfl, Nat.le_of_ble_eq_true rfl⟩) hS (fun q _ h => hFc q h) hFc (fun u t H1 locs ht hvm hw hB hz1 hk1 hS => ?_)
  try dsimp only at hw hB
  obtain ⟨hP1, hK1, hD1⟩ := hB
  rw [ht] at hP1
  obtain ⟨hP, hD⟩ := va_join (wr := []) (w1 := [(mo, .inr (12, mdF r z q 0 tm (nI (((20 + 1) + 1) + 1)) (nI tx))), (r 7, .inl ((cT 0), 1000, .inl (upd (upd (upd f 20 (x &&& 255)) (20 + 1) ((nI 4 + 2) &&& 255)) ((20 + 1) + 1) ((y >>> (24 &&& 31)) &&& 255))))]) hP hD [0, 1] [] rfl rfl (by decide) (by decide) hk1 hFc hP1 hD1
  have hw53 := hw
  clear hPc hDc hFc hz1 hk1 hP1 hK1 hD1
  generalize H1 = H at hP hS ⊢
  have hP : va_P (dC, dI) vcl [(mo, .inr (12, mdF r z q 0 tm (nI (((20 + 1) + 1) + 1)) (nI tx))), (r 7, .inl ((cT 0), 1000, .inl (upd (upd (upd f 20 (x &&& 255)) (20 + 1) ((nI 4 + 2) &&& 255)) ((20 + 1) + 1) ((y >>> (24 &&& 31)) &&& 255))))] H := hP
  have hD : va_D A [(mo, .inr (12, mdF r z q 0 tm (nI (((20 + 1) + 1) + 1)) (nI tx))), (r 7, .inl ((cT 0), 1000, .inl (upd (upd (upd f 20 (x &&& 255)) (20 + 1) ((nI 4 + 2) &&& 255)) ((20 + 1) + 1) ((y >>> (24 &&& 31)) &&& 255))))] := hD
  refine lv_iinc (k := 0) (v := 16) (lv' := [(3, .int 16), (0, .ref mo), (1, .int x), (2, .int y)]) hx hb d_Md_number_36 hl rfl (by decide) (by decide) rfl (fun ls hl => ?_)
  refine lv_goto (tgt := 25) hx hb d_Md_number_39 (by decide) ?_
  refine lv_iload_n hx hb d_Md_number_25 rfl (lv_at hl 0 rfl) ?_
  refine lv_if_lt (tgt := 42) hx hb d_Md_number_26 (by decide) (fun hn9 => absurd hn9 (by decide)) (fun hc54 => ?_)
  refine lv_aload_n hx hb d_Md_number_29 rfl (lv_at hl 1 rfl) ?_
  refine lv_iload_n hx hb d_Md_number_30 rfl (lv_at hl 3 rfl) ?_
  refine lv_iload_n hx hb d_Md_number_31 rfl (lv_at hl 0 rfl) ?_
  refine lv_ishr hx hb d_Md_number_32 ?_
  have hPc := hP.sub (ws' := [(mo, .inr (12, mdF r z q 0 tm (nI (((20 + 1) + 1) + 1)) (nI tx))), (r 7, .inl ((cT 0), 1000, .inl (upd (upd (upd f 20 (x &&& 255)) (20 + 1) ((nI 4 + 2) &&& 255)) ((20 + 1) + 1) ((y >>> (24 &&& 31)) &&& 255))))]) [0, 1] rfl
  have hDc := hD.sub (ws' := [(mo, .inr (12, mdF r z q 0 tm (nI (((20 + 1) + 1) + 1)) (nI tx))), (r 7, .inl ((cT 0), 1000, .inl (upd (upd (upd f 20 (x &&& 255)) (20 + 1) ((nI 4 + 2) &&& 255)) ((20 + 1) + 1) ((y >>> (24 &&& 31)) &&& 255))))]) [0, 1] (by decide) rfl
  have hFc := va_free (wc := [(mo, .inr (12, mdF r z q 0 tm (nI (((20 + 1) + 1) + 1)) (nI tx))), (r 7, .inl ((cT 0), 1000, .inl (upd (upd (upd f 20 (x &&& 255)) (20 + 1) ((nI 4 + 2) &&& 255)) ((20 + 1) + 1) ((y >>> (24 &&& 31)) &&& 255))))]) hD hS hA [0, 1] rfl
  refine va_callv (va_runV (C := "DoorServerModel") (As := [.int (y >>> (16 &&& 31))]) (rest := []) ⟨hx, hb, hml, hown, hg⟩ (m_add l dC dI cT H.size mo r z q 0 tm (((20 + 1) + 1) + 1) tx (upd (upd (upd f 20 (x &&& 255)) (20 + 1) ((nI 4 + 2) &&& 255)) ((20 + 1) + 1) ((y >>> (24 &&& 31)) &&& 255)) (y >>> (16 &&& 31)) (by decide)) (cwV 1 hg (gI (List.forall_mem_append.mpr ⟨List.forall_mem_cons.mpr ⟨k_1015, List.forall_mem_cons.mpr ⟨k_1017, List.forall_mem_cons.mpr ⟨(big_sel (q := y_Md_add) (n := 45) (by decide +kernel)), List.forall_mem_cons.mpr ⟨k_13, fun _ h => absurd h List.not_mem_nil⟩⟩⟩⟩, List.forall_mem_cons.mpr ⟨k_1018, fun _ h => h⟩⟩)) rfl rfl rfl (by decide +kernel) ⟨Nat.le_of_ble_eq_true rfl, Nat.le_of_ble_eq_true rfl⟩) ⟨fun a U g mk q => by obtain ⟨q0, q1, qP, qK, qD⟩ := q; exact ⟨q0, q1, qP, va_K.moved (u := U) (U := U.calling g mk a) (Vm.Alike.refl U.vm) qK, qD⟩, va_recv (q0 := 0) (ci := 12) hK hP rfl rfl, fun U hU hW => ⟨rfl, by rw [hU], by rw [hU]; exact hPc, va_K.moved hW.alike hK, hDc.weaken (fun _ _ _ _ => trivial)⟩⟩ rfl rfl hl.1 rfl (lv_room (Nat.le_of_ble_eq_true rfl)) d_Md_number_33 ⟨Nat.le_of_ble_eq_true rfl, Nat.le_of_ble_eq_true rfl⟩) hS (fun q _ h => hFc q h) hFc (fun u t H1 locs ht hvm hw hB hz1 hk1 hS => ?_)
  try dsimp only at hw hB
  obtain ⟨hP1, hK1, hD1⟩ := hB
  rw [ht] at hP1
  obtain ⟨hP, hD⟩ := va_join (wr := []) (w1 := [(mo, .inr (12, mdF r z q 0 tm (nI ((((20 + 1) + 1) + 1) + 1)) (nI tx))), (r 7, .inl ((cT 0), 1000, .inl (upd (upd (upd (upd f 20 (x &&& 255)) (20 + 1) ((nI 4 + 2) &&& 255)) ((20 + 1) + 1) ((y >>> (24 &&& 31)) &&& 255)) (((20 + 1) + 1) + 1) ((y >>> (16 &&& 31)) &&& 255))))]) hP hD [0, 1] [] rfl rfl (by decide) (by decide) hk1 hFc hP1 hD1
  have hw55 := hw
  clear hPc hDc hFc hz1 hk1 hP1 hK1 hD1
  generalize H1 = H at hP hS ⊢
  have hP : va_P (dC, dI) vcl [(mo, .inr (12, mdF r z q 0 tm (nI ((((20 + 1) + 1) + 1) + 1)) (nI tx))), (r 7, .inl ((cT 0), 1000, .inl (upd (upd (upd (upd f 20 (x &&& 255)) (20 + 1) ((nI 4 + 2) &&& 255)) ((20 + 1) + 1) ((y >>> (24 &&& 31)) &&& 255)) (((20 + 1) + 1) + 1) ((y >>> (16 &&& 31)) &&& 255))))] H := hP
  have hD : va_D A [(mo, .inr (12, mdF r z q 0 tm (nI ((((20 + 1) + 1) + 1) + 1)) (nI tx))), (r 7, .inl ((cT 0), 1000, .inl (upd (upd (upd (upd f 20 (x &&& 255)) (20 + 1) ((nI 4 + 2) &&& 255)) ((20 + 1) + 1) ((y >>> (24 &&& 31)) &&& 255)) (((20 + 1) + 1) + 1) ((y >>> (16 &&& 31)) &&& 255))))] := hD
  refine lv_iinc (k := 0) (v := 8) (lv' := [(3, .int 8), (0, .ref mo), (1, .int x), (2, .int y)]) hx hb d_Md_number_36 hl rfl (by decide) (by decide) rfl (fun ls hl => ?_)
  refine lv_goto (tgt := 25) hx hb d_Md_number_39 (by decide) ?_
  refine lv_iload_n hx hb d_Md_number_25 rfl (lv_at hl 0 rfl) ?_
  refine lv_if_lt (tgt := 42) hx hb d_Md_number_26 (by decide) (fun hn9 => absurd hn9 (by decide)) (fun hc56 => ?_)
  refine lv_aload_n hx hb d_Md_number_29 rfl (lv_at hl 1 rfl) ?_
  refine lv_iload_n hx hb d_Md_number_30 rfl (lv_at hl 3 rfl) ?_
  refine lv_iload_n hx hb d_Md_number_31 rfl (lv_at hl 0 rfl) ?_
  refine lv_ishr hx hb d_Md_number_32 ?_
  have hPc := hP.sub (ws' := [(mo, .inr (12, mdF r z q 0 tm (nI ((((20 + 1) + 1) + 1) + 1)) (nI tx))), (r 7, .inl ((cT 0), 1000, .inl (upd (upd (upd (upd f 20 (x &&& 255)) (20 + 1) ((nI 4 + 2) &&& 255)) ((20 + 1) + 1) ((y >>> (24 &&& 31)) &&& 255)) (((20 + 1) + 1) + 1) ((y >>> (16 &&& 31)) &&& 255))))]) [0, 1] rfl
  have hDc := hD.sub (ws' := [(mo, .inr (12, mdF r z q 0 tm (nI ((((20 + 1) + 1) + 1) + 1)) (nI tx))), (r 7, .inl ((cT 0), 1000, .inl (upd (upd (upd (upd f 20 (x &&& 255)) (20 + 1) ((nI 4 + 2) &&& 255)) ((20 + 1) + 1) ((y >>> (24 &&& 31)) &&& 255)) (((20 + 1) + 1) + 1) ((y >>> (16 &&& 31)) &&& 255))))]) [0, 1] (by decide) rfl
  have hFc := va_free (wc := [(mo, .inr (12, mdF r z q 0 tm (nI ((((20 + 1) + 1) + 1) + 1)) (nI tx))), (r 7, .inl ((cT 0), 1000, .inl (upd (upd (upd (upd f 20 (x &&& 255)) (20 + 1) ((nI 4 + 2) &&& 255)) ((20 + 1) + 1) ((y >>> (24 &&& 31)) &&& 255)) (((20 + 1) + 1) + 1) ((y >>> (16 &&& 31)) &&& 255))))]) hD hS hA [0, 1] rfl
  refine va_callv (va_runV (C := "DoorServerModel") (As := [.int (y >>> (8 &&& 31))]) (rest := []) ⟨hx, hb, hml, hown, hg⟩ (m_add l dC dI cT H.size mo r z q 0 tm ((((20 + 1) + 1) + 1) + 1) tx (upd (upd (upd (upd f 20 (x &&& 255)) (20 + 1) ((nI 4 + 2) &&& 255)) ((20 + 1) + 1) ((y >>> (24 &&& 31)) &&& 255)) (((20 + 1) + 1) + 1) ((y >>> (16 &&& 31)) &&& 255)) (y >>> (8 &&& 31)) (by decide)) (cwV 1 hg (gI (List.forall_mem_append.mpr ⟨List.forall_mem_cons.mpr ⟨k_1015, List.forall_mem_cons.mpr ⟨k_1017, List.forall_mem_cons.mpr ⟨(big_sel (q := y_Md_add) (n := 45) (by decide +kernel)), List.forall_mem_cons.mpr ⟨k_13, fun _ h => absurd h List.not_mem_nil⟩⟩⟩⟩, List.forall_mem_cons.mpr ⟨k_1018, fun _ h => h⟩⟩)) rfl rfl rfl (by decide +kernel) ⟨Nat.le_of_ble_eq_true rfl, Nat.le_of_ble_eq_true rfl⟩) ⟨fun a U g mk q => by obtain ⟨q0, q1, qP, qK, qD⟩ := q; exact ⟨q0, q1, qP, va_K.moved (u := U) (U := U.calling g mk a) (Vm.Alike.refl U.vm) qK, qD⟩, va_recv (q0 := 0) (ci := 12) hK hP rfl rfl, fun U hU hW => ⟨rfl, by rw [hU], by rw [hU]; exact hPc, va_K.moved hW.alike hK, hDc.weaken (fun _ _ _ _ => trivial)⟩⟩ rfl rfl hl.1 rfl (lv_room (Nat.le_of_ble_eq_true rfl)) d_Md_number_33 ⟨Nat.le_of_ble_eq_true rfl, Nat.le_of_ble_eq_true rfl⟩) hS (fun q _ h => hFc q h) hFc (fun u t H1 locs ht hvm hw hB hz1 hk1 hS => ?_)
  try dsimp only at hw hB
  obtain ⟨hP1, hK1, hD1⟩ := hB
  rw [ht] at hP1
  obtain ⟨hP, hD⟩ := va_join (wr := []) (w1 := [(mo, .inr (12, mdF r z q 0 tm (nI (((((20 + 1) + 1) + 1) + 1) + 1)) (nI tx))), (r 7, .inl ((cT 0), 1000, .inl (upd (upd (upd (upd (upd f 20 (x &&& 255)) (20 + 1) ((nI 4 + 2) &&& 255)) ((20 + 1) + 1) ((y >>> (24 &&& 31)) &&& 255)) (((20 + 1) + 1) + 1) ((y >>> (16 &&& 31)) &&& 255)) ((((20 + 1) + 1) + 1) + 1) ((y >>> (8 &&& 31)) &&& 255))))]) hP hD [0, 1] [] rfl rfl (by decide) (by decide) hk1 hFc hP1 hD1
  have hw57 := hw
  clear hPc hDc hFc hz1 hk1 hP1 hK1 hD1
  generalize H1 = H at hP hS ⊢
  have hP : va_P (dC, dI) vcl [(mo, .inr (12, mdF r z q 0 tm (nI (((((20 + 1) + 1) + 1) + 1) + 1)) (nI tx))), (r 7, .inl ((cT 0), 1000, .inl (upd (upd (upd (upd (upd f 20 (x &&& 255)) (20 + 1) ((nI 4 + 2) &&& 255)) ((20 + 1) + 1) ((y >>> (24 &&& 31)) &&& 255)) (((20 + 1) + 1) + 1) ((y >>> (16 &&& 31)) &&& 255)) ((((20 + 1) + 1) + 1) + 1) ((y >>> (8 &&& 31)) &&& 255))))] H := hP
  have hD : va_D A [(mo, .inr (12, mdF r z q 0 tm (nI (((((20 + 1) + 1) + 1) + 1) + 1)) (nI tx))), (r 7, .inl ((cT 0), 1000, .inl (upd (upd (upd (upd (upd f 20 (x &&& 255)) (20 + 1) ((nI 4 + 2) &&& 255)) ((20 + 1) + 1) ((y >>> (24 &&& 31)) &&& 255)) (((20 + 1) + 1) + 1) ((y >>> (16 &&& 31)) &&& 255)) ((((20 + 1) + 1) + 1) + 1) ((y >>> (8 &&& 31)) &&& 255))))] := hD
  refine lv_iinc (k := 0) (v := 0) (lv' := [(3, .int 0), (0, .ref mo), (1, .int x), (2, .int y)]) hx hb d_Md_number_36 hl rfl (by decide) (by decide) rfl (fun ls hl => ?_)
  refine lv_goto (tgt := 25) hx hb d_Md_number_39 (by decide) ?_
  refine lv_iload_n hx hb d_Md_number_25 rfl (lv_at hl 0 rfl) ?_
  refine lv_if_lt (tgt := 42) hx hb d_Md_number_26 (by decide) (fun hn9 => absurd hn9 (by decide)) (fun hc58 => ?_)
  refine lv_aload_n hx hb d_Md_number_29 rfl (lv_at hl 1 rfl) ?_
  refine lv_iload_n hx hb d_Md_number_30 rfl (lv_at hl 3 rfl) ?_
  refine lv_iload_n hx hb d_Md_number_31 rfl (lv_at hl 0 rfl) ?_
  refine lv_ishr hx hb d_Md_number_32 ?_
  have hPc := hP.sub (ws' := [(mo, .inr (12, mdF r z q 0 tm (nI (((((20 + 1) + 1) + 1) + 1) + 1)) (nI tx))), (r 7, .inl ((cT 0), 1000, .inl (upd (upd (upd (upd (upd f 20 (x &&& 255)) (20 + 1) ((nI 4 + 2) &&& 255)) ((20 + 1) + 1) ((y >>> (24 &&& 31)) &&& 255)) (((20 + 1) + 1) + 1) ((y >>> (16 &&& 31)) &&& 255)) ((((20 + 1) + 1) + 1) + 1) ((y >>> (8 &&& 31)) &&& 255))))]) [0, 1] rfl
  have hDc := hD.sub (ws' := [(mo, .inr (12, mdF r z q 0 tm (nI (((((20 + 1) + 1) + 1) + 1) + 1)) (nI tx))), (r 7, .inl ((cT 0), 1000, .inl (upd (upd (upd (upd (upd f 20 (x &&& 255)) (20 + 1) ((nI 4 + 2) &&& 255)) ((20 + 1) + 1) ((y >>> (24 &&& 31)) &&& 255)) (((20 + 1) + 1) + 1) ((y >>> (16 &&& 31)) &&& 255)) ((((20 + 1) + 1) + 1) + 1) ((y >>> (8 &&& 31)) &&& 255))))]) [0, 1] (by decide) rfl
  have hFc := va_free (wc := [(mo, .inr (12, mdF r z q 0 tm (nI (((((20 + 1) + 1) + 1) + 1) + 1)) (nI tx))), (r 7, .inl ((cT 0), 1000, .inl (upd (upd (upd (upd (upd f 20 (x &&& 255)) (20 + 1) ((nI 4 + 2) &&& 255)) ((20 + 1) + 1) ((y >>> (24 &&& 31)) &&& 255)) (((20 + 1) + 1) + 1) ((y >>> (16 &&& 31)) &&& 255)) ((((20 + 1) + 1) + 1) + 1) ((y >>> (8 &&& 31)) &&& 255))))]) hD hS hA [0, 1] rfl
  refine va_callv (va_runV (C := "DoorServerModel") (As := [.int (y >>> (0 &&& 31))]) (rest := []) ⟨hx, hb, hml, hown, hg⟩ (m_add l dC dI cT H.size mo r z q 0 tm (((((20 + 1) + 1) + 1) + 1) + 1) tx (upd (upd (upd (upd (upd f 20 (x &&& 255)) (20 + 1) ((nI 4 + 2) &&& 255)) ((20 + 1) + 1) ((y >>> (24 &&& 31)) &&& 255)) (((20 + 1) + 1) + 1) ((y >>> (16 &&& 31)) &&& 255)) ((((20 + 1) + 1) + 1) + 1) ((y >>> (8 &&& 31)) &&& 255)) (y >>> (0 &&& 31)) (by decide)) (cwV 1 hg (gI (List.forall_mem_append.mpr ⟨List.forall_mem_cons.mpr ⟨k_1015, List.forall_mem_cons.mpr ⟨k_1017, List.forall_mem_cons.mpr ⟨(big_sel (q := y_Md_add) (n := 45) (by decide +kernel)), List.forall_mem_cons.mpr ⟨k_13, fun _ h => absurd h List.not_mem_nil⟩⟩⟩⟩, List.forall_mem_cons.mpr ⟨k_1018, fun _ h => h⟩⟩)) rfl rfl rfl (by decide +kernel) ⟨Nat.le_of_ble_eq_true rfl, Nat.le_of_ble_eq_true rfl⟩) ⟨fun a U g mk q => by obtain ⟨q0, q1, qP, qK, qD⟩ := q; exact ⟨q0, q1, qP, va_K.moved (u := U) (U := U.calling g mk a) (Vm.Alike.refl U.vm) qK, qD⟩, va_recv (q0 := 0) (ci := 12) hK hP rfl rfl, fun U hU hW => ⟨rfl, by rw [hU], by rw [hU]; exact hPc, va_K.moved hW.alike hK, hDc.weaken (fun _ _ _ _ => trivial)⟩⟩ rfl rfl hl.1 rfl (lv_room (Nat.le_of_ble_eq_true rfl)) d_Md_number_33 ⟨Nat.le_of_ble_eq_true rfl, Nat.le_of_ble_eq_true rfl⟩) hS (fun q _ h => hFc q h) hFc (fun u t H1 locs ht hvm hw hB hz1 hk1 hS => ?_)
  try dsimp only at hw hB
  obtain ⟨hP1, hK1, hD1⟩ := hB
  rw [ht] at hP1
  obtain ⟨hP, hD⟩ := va_join (wr := []) (w1 := [(mo, .inr (12, mdF r z q 0 tm (nI ((((((20 + 1) + 1) + 1) + 1) + 1) + 1)) (nI tx))), (r 7, .inl ((cT 0), 1000, .inl (upd (upd (upd (upd (upd (upd f 20 (x &&& 255)) (20 + 1) ((nI 4 + 2) &&& 255)) ((20 + 1) + 1) ((y >>> (24 &&& 31)) &&& 255)) (((20 + 1) + 1) + 1) ((y >>> (16 &&& 31)) &&& 255)) ((((20 + 1) + 1) + 1) + 1) ((y >>> (8 &&& 31)) &&& 255)) (((((20 + 1) + 1) + 1) + 1) + 1) ((y >>> (0 &&& 31)) &&& 255))))]) hP hD [0, 1] [] rfl rfl (by decide) (by decide) hk1 hFc hP1 hD1
  have hw59 := hw
  clear hPc hDc hFc hz1 hk1 hP1 hK1 hD1
  generalize H1 = H at hP hS ⊢
  have hP : va_P (dC, dI) vcl [(mo, .inr (12, mdF r z q 0 tm (nI ((((((20 + 1) + 1) + 1) + 1) + 1) + 1)) (nI tx))), (r 7, .inl ((cT 0), 1000, .inl (upd (upd (upd (upd (upd (upd f 20 (x &&& 255)) (20 + 1) ((nI 4 + 2) &&& 255)) ((20 + 1) + 1) ((y >>> (24 &&& 31)) &&& 255)) (((20 + 1) + 1) + 1) ((y >>> (16 &&& 31)) &&& 255)) ((((20 + 1) + 1) + 1) + 1) ((y >>> (8 &&& 31)) &&& 255)) (((((20 + 1) + 1) + 1) + 1) + 1) ((y >>> (0 &&& 31)) &&& 255))))] H := hP
  have hD : va_D A [(mo, .inr (12, mdF r z q 0 tm (nI ((((((20 + 1) + 1) + 1) + 1) + 1) + 1)) (nI tx))), (r 7, .inl ((cT 0), 1000, .inl (upd (upd (upd (upd (upd (upd f 20 (x &&& 255)) (20 + 1) ((nI 4 + 2) &&& 255)) ((20 + 1) + 1) ((y >>> (24 &&& 31)) &&& 255)) (((20 + 1) + 1) + 1) ((y >>> (16 &&& 31)) &&& 255)) ((((20 + 1) + 1) + 1) + 1) ((y >>> (8 &&& 31)) &&& 255)) (((((20 + 1) + 1) + 1) + 1) + 1) ((y >>> (0 &&& 31)) &&& 255))))] := hD
  refine lv_iinc (k := 0) (v := (-8)) (lv' := [(3, .int (-8)), (0, .ref mo), (1, .int x), (2, .int y)]) hx hb d_Md_number_36 hl rfl (by decide) (by decide) rfl (fun ls hl => ?_)
  refine lv_goto (tgt := 25) hx hb d_Md_number_39 (by decide) ?_
  refine lv_iload_n hx hb d_Md_number_25 rfl (lv_at hl 0 rfl) ?_
  refine lv_if_lt (tgt := 42) hx hb d_Md_number_26 (by decide) (fun hc60 => ?_) (fun hn9 => absurd (by decide) hn9)
  refine lv_aload_n hx hb d_Md_number_42 rfl (lv_at hl 1 rfl) ?_
  have hPc := hP.sub (ws' := [(mo, .inr (12, mdF r z q 0 tm (nI ((((((20 + 1) + 1) + 1) + 1) + 1) + 1)) (nI tx))), (r 7, .inl ((cT 0), 1000, .inl (upd (upd (upd (upd (upd (upd f 20 (x &&& 255)) (20 + 1) ((nI 4 + 2) &&& 255)) ((20 + 1) + 1) ((y >>> (24 &&& 31)) &&& 255)) (((20 + 1) + 1) + 1) ((y >>> (16 &&& 31)) &&& 255)) ((((20 + 1) + 1) + 1) + 1) ((y >>> (8 &&& 31)) &&& 255)) (((((20 + 1) + 1) + 1) + 1) + 1) ((y >>> (0 &&& 31)) &&& 255))))]) [0, 1] rfl
  have hDc := hD.sub (ws' := [(mo, .inr (12, mdF r z q 0 tm (nI ((((((20 + 1) + 1) + 1) + 1) + 1) + 1)) (nI tx))), (r 7, .inl ((cT 0), 1000, .inl (upd (upd (upd (upd (upd (upd f 20 (x &&& 255)) (20 + 1) ((nI 4 + 2) &&& 255)) ((20 + 1) + 1) ((y >>> (24 &&& 31)) &&& 255)) (((20 + 1) + 1) + 1) ((y >>> (16 &&& 31)) &&& 255)) ((((20 + 1) + 1) + 1) + 1) ((y >>> (8 &&& 31)) &&& 255)) (((((20 + 1) + 1) + 1) + 1) + 1) ((y >>> (0 &&& 31)) &&& 255))))]) [0, 1] (by decide) rfl
  have hFc := va_free (wc := [(mo, .inr (12, mdF r z q 0 tm (nI ((((((20 + 1) + 1) + 1) + 1) + 1) + 1)) (nI tx))), (r 7, .inl ((cT 0), 1000, .inl (upd (upd (upd (upd (upd (upd f 20 (x &&& 255)) (20 + 1) ((nI 4 + 2) &&& 255)) ((20 + 1) + 1) ((y >>> (24 &&& 31)) &&& 255)) (((20 + 1) + 1) + 1) ((y >>> (16 &&& 31)) &&& 255)) ((((20 + 1) + 1) + 1) + 1) ((y >>> (8 &&& 31)) &&& 255)) (((((20 + 1) + 1) + 1) + 1) + 1) ((y >>> (0 &&& 31)) &&& 255))))]) hD hS hA [0, 1] rfl
  refine va_calli (va_runV (C := "DoorServerModel") (As := []) (rest := []) ⟨hx, hb, hml, hown, hg⟩ (m_closes l dC dI cT H.size mo r z q 0 tm ((((((20 + 1) + 1) + 1) + 1) + 1) + 1) tx (upd (upd (upd (upd (upd (upd f 20 (x &&& 255)) (20 + 1) ((nI 4 + 2) &&& 255)) ((20 + 1) + 1) ((y >>> (24 &&& 31)) &&& 255)) (((20 + 1) + 1) + 1) ((y >>> (16 &&& 31)) &&& 255)) ((((20 + 1) + 1) + 1) + 1) ((y >>> (8 &&& 31)) &&& 255)) (((((20 + 1) + 1) + 1) + 1) + 1) ((y >>> (0 &&& 31)) &&& 255)) ) (cwV 0 hg (gI (List.forall_mem_append.mpr ⟨List.forall_mem_cons.mpr ⟨k_1192, List.forall_mem_cons.mpr ⟨k_1194, List.forall_mem_cons.mpr ⟨(big_sel (q := y_Md_closes) (n := 45) (by decide +kernel)), List.forall_mem_cons.mpr ⟨k_13, fun _ h => absurd h List.not_mem_nil⟩⟩⟩⟩, List.forall_mem_cons.mpr ⟨k_1195, fun _ h => h⟩⟩)) rfl rfl rfl (by decide +kernel) ⟨Nat.le_of_ble_eq_true rfl, Nat.le_of_ble_eq_true rfl⟩) ⟨fun a U g mk q => by obtain ⟨q0, q1, qP, qK, qD⟩ := q; exact ⟨q0, q1, qP, va_K.moved (u := U) (U := U.calling g mk a) (Vm.Alike.refl U.vm) qK, qD⟩, va_recv (q0 := 0) (ci := 12) hK hP rfl rfl, fun U hU hW => ⟨rfl, by rw [hU], by rw [hU]; exact hPc, va_K.moved hW.alike hK, hDc.weaken (fun _ _ _ _ => trivial)⟩⟩ rfl rfl hl.1 rfl (lv_room (Nat.le_of_ble_eq_true rfl)) d_Md_number_43 ⟨Nat.le_of_ble_eq_true rfl, Nat.le_of_ble_eq_true rfl⟩) hS (fun q _ h => hFc q h) hFc (fun rv9 u t H1 locs ht hvm hw hB hz1 hk1 hS => ?_)
  obtain ⟨g_61, rfl⟩ : ∃ z, z = u := ⟨_, rfl⟩
  try dsimp only at hw hB
  obtain ⟨hP1, hK1, hD1⟩ := hB
  rw [ht] at hP1
  obtain ⟨rfl, hw⟩ := hw
  obtain ⟨hP, hD⟩ := va_join (wr := []) (w1 := [(mo, .inr (12, mdF r z q 0 tm (nI ((((((20 + 1) + 1) + 1) + 1) + 1) + 1)) (nI tx))), (r 7, .inl ((cT 0), 1000, .inl g_61))]) hP hD [0, 1] [] rfl rfl (by decide) (by decide) hk1 hFc hP1 hD1
  have hw62 := hw
  clear hPc hDc hFc hz1 hk1 hP1 hK1 hD1
  generalize H1 = H at hP hS ⊢
  have hP : va_P (dC, dI) vcl [(mo, .inr (12, mdF r z q 0 tm (nI ((((((20 + 1) + 1) + 1) + 1) + 1) + 1)) (nI tx))), (r 7, .inl ((cT 0), 1000, .inl g_61))] H := hP
  have hD : va_D A [(mo, .inr (12, mdF r z q 0 tm (nI ((((((20 + 1) + 1) + 1) + 1) + 1) + 1)) (nI tx))), (r 7, .inl ((cT 0), 1000, .inl g_61))] := hD
  refine lv_topi (fun x64 e63 => ?_)
  obtain rfl : x64 = 26 := by rw [e63]; rfl
  -- world: (mo, .inr (12, mdF r z q 0 tm (nI ((((((20 + 1) + 1) + 1) + 1) + 1) + 1)) (nI tx))) for (mo, .inr (12, mdF r z q 0 tm (nI 26) (nI tx)))
  have hP9 := hP.sub (ws' := [(mo, .inr (12, mdF r z q 0 tm (nI ((((((20 + 1) + 1) + 1) + 1) + 1) + 1)) (nI tx)))]) [0] rfl
  have hD9 := hD.sub (ws' := [(mo, .inr (12, mdF r z q 0 tm (nI ((((((20 + 1) + 1) + 1) + 1) + 1) + 1)) (nI tx)))]) [0] (by decide) rfl
  exact W.iret (v := 26) hx hb hr (fun t ht hW => ⟨⟨_, (), rfl, ⟨rfl, trivial⟩, by rw [ht]; exact hP9, va_K.moved hW.alike hK, hD9⟩, hS.F ht⟩) hS.2.2 d_Md_number_46
set_option maxHeartbeats 4000000 in
set_option maxRecDepth 100000 in
/-- name -/
theorem o_name (l : Launch) (dC : Nat → ClassId) (dI : Nat → Nat → Nat) (cT : Nat → ClassId) (sz : Nat) (mo : Nat) (r : Nat → Nat) (z : Nat → Int32) (q : Nat → Int64) (cd : Int32) (tm : Int32) (sn : Nat) (tx : Nat) (f : Nat → Int32) (x : Int32) (hx1 : ¬ x < 0) (hx2 : ¬ 31 < x) : Met l y_Md_name (Cond.code y_Md_name b_Md_name 2 (Option.some Jvm.ClassFile.FieldType.int) :: BIG) ({ frames := 2, cells := 0, slots := 0, locals := 45 }) (va_Pc [.ref mo, .int x] (fun U => U.heap.size = sz ∧ va_P (dC, dI) vcl [(mo, .inr (12, mdF r z q cd tm (nI 20) (nI tx))), (r 7, .inl ((cT 0), 1000, .inl f))] U.heap ∧ va_K (dC, dI) vcl (tyL cT) U ∧ va_D (fun _ => True) [(mo, .inr (12, mdF r z q cd tm (nI 20) (nI tx))), (r 7, .inl ((cT 0), 1000, .inl f))])) (va_Qi (S := Unit) (fun rv9 u => rv9 = 25 ∧ (True)) (fun u t => va_P (dC, dI) vcl [(mo, .inr (12, mdF r z q 0 tm (nI 25) (nI tx)))] t.heap ∧ va_K (dC, dI) vcl (tyL cT) t ∧ va_D (va_A [(mo, .inr (12, mdF r z q cd tm (nI 20) (nI tx))), (r 7, .inl ((cT 0), 1000, .inl f))] sz) [(mo, .inr (12, mdF r z q 0 tm (nI 25) (nI tx)))]) (va_A [(mo, .inr (12, mdF r z q cd tm (nI 20) (nI tx))), (r 7, .inl ((cT 0), 1000, .inl f))] sz)) 0 0 (va_A [(mo, .inr (12, mdF r z q cd tm (nI 20) (nI tx))), (r 7, .inl ((cT 0), 1000, .inl f))] sz) := by
  refine Met.ofW (cc := b_Md_name) (maxL := 2) (ret := (Option.some Jvm.ClassFile.FieldType.int)) (by decide) rfl ?_
  intro p e s m args below meth c s₁ B hml hv
  obtain ⟨hargs, hsz, hP, hK, hD0⟩ := hv
  have hx := B.exec
  have hb := B.bytes
  have hr := B.returns
  have hts := atoms_spec (ws := (Cond.code y_Md_name b_Md_name 2 (Option.some Jvm.ClassFile.FieldType.int) :: BIG)) B.pre
  have hg : ∀ w ∈ BIG, w.before _ s = true := fun w h => hts w (List.mem_cons_of_mem _ h)
  have hown : s.vm.findClass "DoorServerModel" = some m.cls := findClass_of_methodNamed B.named
  have hlocks := B.notSynchronized
  subst hsz
  have hD := hD0.self (sz := s.heap.size)
  generalize hAe : va_A [(mo, .inr (12, mdF r z q cd tm (nI 20) (nI tx))), (r 7, .inl ((cT 0), 1000, .inl f))] s.heap.size = A at hD ⊢
  have hA : ∀ q : Nat, s.heap.size ≤ q → A q := fun q h => by rw [← hAe]; exact Or.inr h
  have hS : va_S A s.heap s.heap [] := va_S.rf
  have hl := lv_entry ([.ref mo, .int x]) (n := 2) (Nat.le_of_ble_eq_true rfl)
  refine W.eq (g2 := entryFrame m (List.toArray [.ref mo, .int x]) 2) (by rw [hargs]) ?_
  rw [lg_entry_eq]
  generalize (lg_sl ([.ref mo, .int x]) ++ List.replicate (2 - (lg_sl ([.ref mo, .int x])).length) Slot.unset).toArray = ls at hl ⊢
  have hl : lv_has ls 2 [(0, .ref mo), (1, .int x)] := hl
  change W p l e ({ frames := 2, cells := 0, slots := 0, locals := 45 } : Room) s m args below meth c s.heap [] 0 0 _ _
  have hP : va_P (dC, dI) vcl [(mo, .inr (12, mdF r z q cd tm (nI 20) (nI tx))), (r 7, .inl ((cT 0), 1000, .inl f))] s.heap := hP
  refine lv_aload_n hx hb d_Md_name_0 rfl (lv_at hl 0 rfl) ?_
  refine lv_iload_n hx hb d_Md_name_1 rfl (lv_at hl 1 rfl) ?_
  refine lv_if_lt (tgt := 15) hx hb d_Md_name_2 (by decide) (fun hn9 => absurd hn9 (hx1)) (fun hc65 => ?_)
  refine lv_iload_n hx hb d_Md_name_5 rfl (lv_at hl 1 rfl) ?_
  refine lv_bipush (v := 32) hx hb d_Md_name_6 (by decide) ?_
  refine lv_icmp_ge (tgt := 15) hx hb d_Md_name_8 (by decide) (fun hn9 => absurd hn9 (fun h9 => hx2 ((lt_le1 (by decide)).mpr h9))) (fun hc66 => ?_)
  refine lv_iconst (v := 1) hx hb d_Md_name_11 (by decide) ?_
  refine lv_goto (tgt := 16) hx hb d_Md_name_12 (by decide) ?_
  have hPc := hP.sub (ws' := [(mo, .inr (12, mdF r z q cd tm (nI 20) (nI tx)))]) [0] rfl
  have hDc := hD.sub (ws' := [(mo, .inr (12, mdF r z q cd tm (nI 20) (nI tx)))]) [0] (by decide) rfl
  have hFc := va_free (wc := [(mo, .inr (12, mdF r z q cd tm (nI 20) (nI tx)))]) hD hS hA [0] rfl
  refine va_calli (va_runV (C := "DoorServerModel") (As := [.int 1]) (rest := []) ⟨hx, hb, hml, hown, hg⟩ (m_goes1 l dC dI cT s.heap.size mo r z q cd tm 20 tx ) (cwV 1 hg (gI (List.forall_mem_append.mpr ⟨List.forall_mem_cons.mpr ⟨k_1165, List.forall_mem_cons.mpr ⟨k_1167, List.forall_mem_cons.mpr ⟨(big_sel (q := y_Md_goes) (n := 45) (by decide +kernel)), List.forall_mem_cons.mpr ⟨k_13, fun _ h => absurd h List.not_mem_nil⟩⟩⟩⟩, List.forall_mem_cons.mpr ⟨k_1168, fun _ h => h⟩⟩)) rfl rfl rfl (by decide +kernel) ⟨Nat.le_of_ble_eq_true rfl, Nat.le_of_ble_eq_true rfl⟩) ⟨fun a U g mk q => by obtain ⟨q0, q1, qP, qK, qD⟩ := q; exact ⟨q0, q1, qP, va_K.moved (u := U) (U := U.calling g mk a) (Vm.Alike.refl U.vm) qK, qD⟩, va_recv (q0 := 0) (ci := 12) hK hP rfl rfl, fun U hU hW => ⟨rfl, by rw [hU], by rw [hU]; exact hPc, va_K.moved hW.alike hK, hDc.weaken (fun _ _ _ _ => trivial)⟩⟩ rfl rfl hl.1 rfl (lv_room (Nat.le_of_ble_eq_true rfl)) d_Md_name_16 ⟨Nat.le_of_ble_eq_true rfl, Nat.le_of_ble_eq_true rfl⟩) hS (fun q _ h => hFc q h) hFc (fun rv9 u t H1 locs ht hvm hw hB hz1 hk1 hS => ?_)
  try dsimp only at hw hB
  obtain ⟨hP1, hK1, hD1⟩ := hB
  rw [ht] at hP1
  obtain ⟨rfl, hw⟩ := hw
  obtain ⟨hP, hD⟩ := va_join (wr := [(r 7, .inl ((cT 0), 1000, .inl f))]) (w1 := [(mo, .inr (12, mdF r z q 0 tm (nI 20) (nI tx)))]) hP hD [0] [1] rfl rfl (by decide) (by decide) hk1 hFc hP1 hD1
  have hw67 := hw
  clear hPc hDc hFc hz1 hk1 hP1 hK1 hD1
  generalize H1 = H at hP hS ⊢
  have hP : va_P (dC, dI) vcl [(r 7, .inl ((cT 0), 1000, .inl f)), (mo, .inr (12, mdF r z q 0 tm (nI 20) (nI tx)))] H := hP
  have hD : va_D A [(r 7, .inl ((cT 0), 1000, .inl f)), (mo, .inr (12, mdF r z q 0 tm (nI 20) (nI tx)))] := hD
  refine lv_if_eq (tgt := 31) hx hb d_Md_name_19 (by decide) (fun hn9 => absurd hn9 (by decide)) (fun hc68 => ?_)
  refine lv_aload_n hx hb d_Md_name_22 rfl (lv_at hl 0 rfl) ?_
  refine lv_iconst (v := 1) hx hb d_Md_name_23 (by decide) ?_
  refine lv_iconst (v := 3) hx hb d_Md_name_24 (by decide) ?_
  refine lv_topi (fun x70 e69 => ?_)
  obtain rfl : x70 = nI 3 := by rw [e69]; rfl
  have hPc := hP.sub (ws' := [(mo, .inr (12, mdF r z q 0 tm (nI 20) (nI tx))), (r 7, .inl ((cT 0), 1000, .inl f))]) [1, 0] rfl
  have hDc := hD.sub (ws' := [(mo, .inr (12, mdF r z q 0 tm (nI 20) (nI tx))), (r 7, .inl ((cT 0), 1000, .inl f))]) [1, 0] (by decide) rfl
  have hFc := va_free (wc := [(mo, .inr (12, mdF r z q 0 tm (nI 20) (nI tx))), (r 7, .inl ((cT 0), 1000, .inl f))]) hD hS hA [1, 0] rfl
  refine va_calli (va_runV (C := "DoorServerModel") (As := [.int 1, .int (nI 3)]) (rest := []) ⟨hx, hb, hml, hown, hg⟩ (m_opens l dC dI cT H.size mo r z q 0 tm 20 tx f 1 3 (by decide)) (cwV 2 hg (gI (List.forall_mem_append.mpr ⟨List.forall_mem_cons.mpr ⟨k_1188, List.forall_mem_cons.mpr ⟨k_1190, List.forall_mem_cons.mpr ⟨(big_sel (q := y_Md_opens) (n := 45) (by decide +kernel)), List.forall_mem_cons.mpr ⟨k_13, fun _ h => absurd h List.not_mem_nil⟩⟩⟩⟩, List.forall_mem_cons.mpr ⟨k_1191, fun _ h => h⟩⟩)) rfl rfl rfl (by decide +kernel) ⟨Nat.le_of_ble_eq_true rfl, Nat.le_of_ble_eq_true rfl⟩) ⟨fun a U g mk q => by obtain ⟨q0, q1, qP, qK, qD⟩ := q; exact ⟨q0, q1, qP, va_K.moved (u := U) (U := U.calling g mk a) (Vm.Alike.refl U.vm) qK, qD⟩, va_recv (q0 := 1) (ci := 12) hK hP rfl rfl, fun U hU hW => ⟨rfl, by rw [hU], by rw [hU]; exact hPc, va_K.moved hW.alike hK, hDc.weaken (fun _ _ _ _ => trivial)⟩⟩ rfl rfl hl.1 rfl (lv_room (Nat.le_of_ble_eq_true rfl)) d_Md_name_25 ⟨Nat.le_of_ble_eq_true rfl, Nat.le_of_ble_eq_true rfl⟩) hS (fun q _ h => hFc q h) hFc (fun rv9 u t H1 locs ht hvm hw hB hz1 hk1 hS => ?_)
  try dsimp only at hw hB
  obtain ⟨hP1, hK1, hD1⟩ := hB
  rw [ht] at hP1
  obtain ⟨rfl, hw⟩ := hw
  obtain ⟨hP, hD⟩ := va_join (wr := []) (w1 := [(mo, .inr (12, mdF r z q 0 tm (nI ((20 + 1) + 1)) (nI tx))), (r 7, .inl ((cT 0), 1000, .inl (upd (upd f 20 (1 &&& 255)) (20 + 1) ((nI 3 + 2) &&& 255))))]) hP hD [1, 0] [] rfl rfl (by decide) (by decide) hk1 hFc hP1 hD1
  have hw71 := hw
  clear hPc hDc hFc hz1 hk1 hP1 hK1 hD1
  generalize H1 = H at hP hS ⊢
  have hP : va_P (dC, dI) vcl [(mo, .inr (12, mdF r z q 0 tm (nI ((20 + 1) + 1)) (nI tx))), (r 7, .inl ((cT 0), 1000, .inl (upd (upd f 20 (1 &&& 255)) (20 + 1) ((nI 3 + 2) &&& 255))))] H := hP
  have hD : va_D A [(mo, .inr (12, mdF r z q 0 tm (nI ((20 + 1) + 1)) (nI tx))), (r 7, .inl ((cT 0), 1000, .inl (upd (upd f 20 (1 &&& 255)) (20 + 1) ((nI 3 + 2) &&& 255))))] := hD
  refine lv_if_ne (tgt := 33) hx hb d_Md_name_28 (by decide) (fun hc72 => ?_) (fun hn9 => absurd hn9 (by decide))
  refine lv_aload_n hx hb d_Md_name_33 rfl (lv_at hl 0 rfl) ?_
  refine lv_bipush (v := 117) hx hb d_Md_name_34 (by decide) ?_
  have hPc := hP.sub (ws' := [(mo, .inr (12, mdF r z q 0 tm (nI ((20 + 1) + 1)) (nI tx))), (r 7, .inl ((cT 0), 1000, .inl (upd (upd f 20 (1 &&& 255)) (20 + 1) ((nI 3 + 2) &&& 255))))]) [0, 1] rfl
  have hDc := hD.sub (ws' := [(mo, .inr (12, mdF r z q 0 tm (nI ((20 + 1) + 1)) (nI tx))), (r 7, .inl ((cT 0), 1000, .inl (upd (upd f 20 (1 &&& 255)) (20 + 1) ((nI 3 + 2) &&& 255))))]) [0, 1] (by decide) rfl
  have hFc := va_free (wc := [(mo, .inr (12, mdF r z q 0 tm (nI ((20 + 1) + 1)) (nI tx))), (r 7, .inl ((cT 0), 1000, .inl (upd (upd f 20 (1 &&& 255)) (20 + 1) ((nI 3 + 2) &&& 255))))]) hD hS hA [0, 1] rfl
  refine va_callv (va_runV (C := "DoorServerModel") (As := [.int 117]) (rest := []) ⟨hx, hb, hml, hown, hg⟩ (m_add l dC dI cT H.size mo r z q 0 tm ((20 + 1) + 1) tx (upd (upd f 20 (1 &&& 255)) (20 + 1) ((nI 3 + 2) &&& 255)) 117 (by decide)) (cwV 1 hg (gI (List.forall_mem_append.mpr ⟨List.forall_mem_cons.mpr ⟨k_1015, List.forall_mem_cons.mpr ⟨k_1017, List.forall_mem_cons.mpr ⟨(big_sel (q := y_Md_add) (n := 45) (by decide +kernel)), List.forall_mem_cons.mpr ⟨k_13, fun _ h => absurd h List.not_mem_nil⟩⟩⟩⟩, List.forall_mem_cons.mpr ⟨k_1018, fun _ h => h⟩⟩)) rfl rfl rfl (by decide +kernel) ⟨Nat.le_of_ble_eq_true rfl, Nat.le_of_ble_eq_true rfl⟩) ⟨fun a U g mk q => by obtain ⟨q0, q1, qP, qK, qD⟩ := q; exact ⟨q0, q1, qP, va_K.moved (u := U) (U := U.calling g mk a) (Vm.Alike.refl U.vm) qK, qD⟩, va_recv (q0 := 0) (ci := 12) hK hP rfl rfl, fun U hU hW => ⟨rfl, by rw [hU], by rw [hU]; exact hPc, va_K.moved hW.alike hK, hDc.weaken (fun _ _ _ _ => trivial)⟩⟩ rfl rfl hl.1 rfl (lv_room (Nat.le_of_ble_eq_true rfl)) d_Md_name_36 ⟨Nat.le_of_ble_eq_true rfl, Nat.le_of_ble_eq_true rfl⟩) hS (fun q _ h => hFc q h) hFc (fun u t H1 locs ht hvm hw hB hz1 hk1 hS => ?_)
  try dsimp only at hw hB
  obtain ⟨hP1, hK1, hD1⟩ := hB
  rw [ht] at hP1
  obtain ⟨hP, hD⟩ := va_join (wr := []) (w1 := [(mo, .inr (12, mdF r z q 0 tm (nI (((20 + 1) + 1) + 1)) (nI tx))), (r 7, .inl ((cT 0), 1000, .inl (upd (upd (upd f 20 (1 &&& 255)) (20 + 1) ((nI 3 + 2) &&& 255)) ((20 + 1) + 1) (117 &&& 255))))]) hP hD [0, 1] [] rfl rfl (by decide) (by decide) hk1 hFc hP1 hD1
  have hw73 := hw
  clear hPc hDc hFc hz1 hk1 hP1 hK1 hD1
  generalize H1 = H at hP hS ⊢
  have hP : va_P (dC, dI) vcl [(mo, .inr (12, mdF r z q 0 tm (nI (((20 + 1) + 1) + 1)) (nI tx))), (r 7, .inl ((cT 0), 1000, .inl (upd (upd (upd f 20 (1 &&& 255)) (20 + 1) ((nI 3 + 2) &&& 255)) ((20 + 1) + 1) (117 &&& 255))))] H := hP
  have hD : va_D A [(mo, .inr (12, mdF r z q 0 tm (nI (((20 + 1) + 1) + 1)) (nI tx))), (r 7, .inl ((cT 0), 1000, .inl (upd (upd (upd f 20 (1 &&& 255)) (20 + 1) ((nI 3 + 2) &&& 255)) ((20 + 1) + 1) (117 &&& 255))))] := hD
  refine lv_aload_n hx hb d_Md_name_39 rfl (lv_at hl 0 rfl) ?_
  refine lv_bipush (v := 48) hx hb d_Md_name_40 (by decide) ?_
  refine lv_iload_n hx hb d_Md_name_42 rfl (lv_at hl 1 rfl) ?_
  refine lv_bipush (v := 10) hx hb d_Md_name_43 (by decide) ?_
  refine lv_idiv hx hb d_Md_name_45 (by decide) ?_
  refine lv_iadd hx hb d_Md_name_46 ?_
  have hPc := hP.sub (ws' := [(mo, .inr (12, mdF r z q 0 tm (nI (((20 + 1) + 1) + 1)) (nI tx))), (r 7, .inl ((cT 0), 1000, .inl (upd (upd (upd f 20 (1 &&& 255)) (20 + 1) ((nI 3 + 2) &&& 255)) ((20 + 1) + 1) (117 &&& 255))))]) [0, 1] rfl
  have hDc := hD.sub (ws' := [(mo, .inr (12, mdF r z q 0 tm (nI (((20 + 1) + 1) + 1)) (nI tx))), (r 7, .inl ((cT 0), 1000, .inl (upd (upd (upd f 20 (1 &&& 255)) (20 + 1) ((nI 3 + 2) &&& 255)) ((20 + 1) + 1) (117 &&& 255))))]) [0, 1] (by decide) rfl
  have hFc := va_free (wc := [(mo, .inr (12, mdF r z q 0 tm (nI (((20 + 1) + 1) + 1)) (nI tx))), (r 7, .inl ((cT 0), 1000, .inl (upd (upd (upd f 20 (1 &&& 255)) (20 + 1) ((nI 3 + 2) &&& 255)) ((20 + 1) + 1) (117 &&& 255))))]) hD hS hA [0, 1] rfl
  refine va_callv (va_runV (C := "DoorServerModel") (As := [.int (48 + (x / 10))]) (rest := []) ⟨hx, hb, hml, hown, hg⟩ (m_add l dC dI cT H.size mo r z q 0 tm (((20 + 1) + 1) + 1) tx (upd (upd (upd f 20 (1 &&& 255)) (20 + 1) ((nI 3 + 2) &&& 255)) ((20 + 1) + 1) (117 &&& 255)) (48 + (x / 10)) (by decide)) (cwV 1 hg (gI (List.forall_mem_append.mpr ⟨List.forall_mem_cons.mpr ⟨k_1015, List.forall_mem_cons.mpr ⟨k_1017, List.forall_mem_cons.mpr ⟨(big_sel (q := y_Md_add) (n := 45) (by decide +kernel)), List.forall_mem_cons.mpr ⟨k_13, fun _ h => absurd h List.not_mem_nil⟩⟩⟩⟩, List.forall_mem_cons.mpr ⟨k_1018, fun _ h => h⟩⟩)) rfl rfl rfl (by decide +kernel) ⟨Nat.le_of_ble_eq_true rfl, Nat.le_of_ble_eq_true rfl⟩) ⟨fun a U g mk q => by obtain ⟨q0, q1, qP, qK, qD⟩ := q; exact ⟨q0, q1, qP, va_K.moved (u := U) (U := U.calling g mk a) (Vm.Alike.refl U.vm) qK, qD⟩, va_recv (q0 := 0) (ci := 12) hK hP rfl rfl, fun U hU hW => ⟨rfl, by rw [hU], by rw [hU]; exact hPc, va_K.moved hW.alike hK, hDc.weaken (fun _ _ _ _ => trivial)⟩⟩ rfl rfl hl.1 rfl (lv_room (Nat.le_of_ble_eq_true rfl)) d_Md_name_47 ⟨Nat.le_of_ble_eq_true rfl, Nat.le_of_ble_eq_true rfl⟩) hS (fun q _ h => hFc q h) hFc (fun u t H1 locs ht hvm hw hB hz1 hk1 hS => ?_)
  try dsimp only at hw hB
  obtain ⟨hP1, hK1, hD1⟩ := hB
  rw [ht] at hP1
  obtain ⟨hP, hD⟩ := va_join (wr := []) (w1 := [(mo, .inr (12, mdF r z q 0 tm (nI ((((20 + 1) + 1) + 1) + 1)) (nI tx))), (r 7, .inl ((cT 0), 1000, .inl (upd (upd (upd (upd f 20 (1 &&& 255)) (20 + 1) ((nI 3 + 2) &&& 255)) ((20 + 1) + 1) (117 &&& 255)) (((20 + 1) + 1) + 1) ((48 + (x / 10)) &&& 255))))]) hP hD [0, 1] [] rfl rfl (by decide) (by decide) hk1 hFc hP1 hD1
  have hw74 := hw
  clear hPc hDc hFc hz1 hk1 hP1 hK1 hD1
  generalize H1 = H at hP hS ⊢
  have hP : va_P (dC, dI) vcl [(mo, .inr (12, mdF r z q 0 tm (nI ((((20 + 1) + 1) + 1) + 1)) (nI tx))), (r 7, .inl ((cT 0), 1000, .inl (upd (upd (upd (upd f 20 (1 &&& 255)) (20 + 1) ((nI 3 + 2) &&& 255)) ((20 + 1) + 1) (117 &&& 255)) (((20 + 1) + 1) + 1) ((48 + (x / 10)) &&& 255))))] H := hP
  have hD : va_D A [(mo, .inr (12, mdF r z q 0 tm (nI ((((20 + 1) + 1) + 1) + 1)) (nI tx))), (r 7, .inl ((cT 0), 1000, .inl (upd (upd (upd (upd f 20 (1 &&& 255)) (20 + 1) ((nI 3 + 2) &&& 255)) ((20 + 1) + 1) (117 &&& 255)) (((20 + 1) + 1) + 1) ((48 + (x / 10)) &&& 255))))] := hD
  refine lv_aload_n hx hb d_Md_name_50 rfl (lv_at hl 0 rfl) ?_
  refine lv_bipush (v := 48) hx hb d_Md_name_51 (by decide) ?_
  refine lv_iload_n hx hb d_Md_name_53 rfl (lv_at hl 1 rfl) ?_
  refine lv_bipush (v := 10) hx hb d_Md_name_54 (by decide) ?_
  refine lv_irem hx hb d_Md_name_56 (by decide) ?_
  refine lv_iadd hx hb d_Md_name_57 ?_
  have hPc := hP.sub (ws' := [(mo, .inr (12, mdF r z q 0 tm (nI ((((20 + 1) + 1) + 1) + 1)) (nI tx))), (r 7, .inl ((cT 0), 1000, .inl (upd (upd (upd (upd f 20 (1 &&& 255)) (20 + 1) ((nI 3 + 2) &&& 255)) ((20 + 1) + 1) (117 &&& 255)) (((20 + 1) + 1) + 1) ((48 + (x / 10)) &&& 255))))]) [0, 1] rfl
  have hDc := hD.sub (ws' := [(mo, .inr (12, mdF r z q 0 tm (nI ((((20 + 1) + 1) + 1) + 1)) (nI tx))), (r 7, .inl ((cT 0), 1000, .inl (upd (upd (upd (upd f 20 (1 &&& 255)) (20 + 1) ((nI 3 + 2) &&& 255)) ((20 + 1) + 1) (117 &&& 255)) (((20 + 1) + 1) + 1) ((48 + (x / 10)) &&& 255))))]) [0, 1] (by decide) rfl
  have hFc := va_free (wc := [(mo, .inr (12, mdF r z q 0 tm (nI ((((20 + 1) + 1) + 1) + 1)) (nI tx))), (r 7, .inl ((cT 0), 1000, .inl (upd (upd (upd (upd f 20 (1 &&& 255)) (20 + 1) ((nI 3 + 2) &&& 255)) ((20 + 1) + 1) (117 &&& 255)) (((20 + 1) + 1) + 1) ((48 + (x / 10)) &&& 255))))]) hD hS hA [0, 1] rfl
  refine va_callv (va_runV (C := "DoorServerModel") (As := [.int (48 + (x - x / 10 * 10))]) (rest := []) ⟨hx, hb, hml, hown, hg⟩ (m_add l dC dI cT H.size mo r z q 0 tm ((((20 + 1) + 1) + 1) + 1) tx (upd (upd (upd (upd f 20 (1 &&& 255)) (20 + 1) ((nI 3 + 2) &&& 255)) ((20 + 1) + 1) (117 &&& 255)) (((20 + 1) + 1) + 1) ((48 + (x / 10)) &&& 255)) (48 + (x - x / 10 * 10)) (by decide)) (cwV 1 hg (gI (List.forall_mem_append.mpr ⟨List.forall_mem_cons.mpr ⟨k_1015, List.forall_mem_cons.mpr ⟨k_1017, List.forall_mem_cons.mpr ⟨(big_sel (q := y_Md_add) (n := 45) (by decide +kernel)), List.forall_mem_cons.mpr ⟨k_13, fun _ h => absurd h List.not_mem_nil⟩⟩⟩⟩, List.forall_mem_cons.mpr ⟨k_1018, fun _ h => h⟩⟩)) rfl rfl rfl (by decide +kernel) ⟨Nat.le_of_ble_eq_true rfl, Nat.le_of_ble_eq_true rfl⟩) ⟨fun a U g mk q => by obtain ⟨q0, q1, qP, qK, qD⟩ := q; exact ⟨q0, q1, qP, va_K.moved (u := U) (U := U.calling g mk a) (Vm.Alike.refl U.vm) qK, qD⟩, va_recv (q0 := 0) (ci := 12) hK hP rfl rfl, fun U hU hW => ⟨rfl, by rw [hU], by rw [hU]; exact hPc, va_K.moved hW.alike hK, hDc.weaken (fun _ _ _ _ => trivial)⟩⟩ rfl rfl hl.1 rfl (lv_room (Nat.le_of_ble_eq_true rfl)) d_Md_name_58 ⟨Nat.le_of_ble_eq_true rfl, Nat.le_of_ble_eq_true rfl⟩) hS (fun q _ h => hFc q h) hFc (fun u t H1 locs ht hvm hw hB hz1 hk1 hS => ?_)
  try dsimp only at hw hB
  obtain ⟨hP1, hK1, hD1⟩ := hB
  rw [ht] at hP1
  obtain ⟨hP, hD⟩ := va_join (wr := []) (w1 := [(mo, .inr (12, mdF r z q 0 tm (nI (((((20 + 1) + 1) + 1) + 1) + 1)) (nI tx))), (r 7, .inl ((cT 0), 1000, .inl (upd (upd (upd (upd (upd f 20 (1 &&& 255)) (20 + 1) ((nI 3 + 2) &&& 255)) ((20 + 1) + 1) (117 &&& 255)) (((20 + 1) + 1) + 1) ((48 + (x / 10)) &&& 255)) ((((20 + 1) + 1) + 1) + 1) ((48 + (x - x / 10 * 10)) &&& 255))))]) hP hD [0, 1] [] rfl rfl (by decide) (by decide) hk1 hFc hP1 hD1
  have hw75 := hw
  clear hPc hDc hFc hz1 hk1 hP1 hK1 hD1
  generalize H1 = H at hP hS ⊢
  have hP : va_P (dC, dI) vcl [(mo, .inr (12, mdF r z q 0 tm (nI (((((20 + 1) + 1) + 1) + 1) + 1)) (nI tx))), (r 7, .inl ((cT 0), 1000, .inl (upd (upd (upd (upd (upd f 20 (1 &&& 255)) (20 + 1) ((nI 3 + 2) &&& 255)) ((20 + 1) + 1) (117 &&& 255)) (((20 + 1) + 1) + 1) ((48 + (x / 10)) &&& 255)) ((((20 + 1) + 1) + 1) + 1) ((48 + (x - x / 10 * 10)) &&& 255))))] H := hP
  have hD : va_D A [(mo, .inr (12, mdF r z q 0 tm (nI (((((20 + 1) + 1) + 1) + 1) + 1)) (nI tx))), (r 7, .inl ((cT 0), 1000, .inl (upd (upd (upd (upd (upd f 20 (1 &&& 255)) (20 + 1) ((nI 3 + 2) &&& 255)) ((20 + 1) + 1) (117 &&& 255)) (((20 + 1) + 1) + 1) ((48 + (x / 10)) &&& 255)) ((((20 + 1) + 1) + 1) + 1) ((48 + (x - x / 10 * 10)) &&& 255))))] := hD
  refine lv_aload_n hx hb d_Md_name_61 rfl (lv_at hl 0 rfl) ?_
  have hPc := hP.sub (ws' := [(mo, .inr (12, mdF r z q 0 tm (nI (((((20 + 1) + 1) + 1) + 1) + 1)) (nI tx))), (r 7, .inl ((cT 0), 1000, .inl (upd (upd (upd (upd (upd f 20 (1 &&& 255)) (20 + 1) ((nI 3 + 2) &&& 255)) ((20 + 1) + 1) (117 &&& 255)) (((20 + 1) + 1) + 1) ((48 + (x / 10)) &&& 255)) ((((20 + 1) + 1) + 1) + 1) ((48 + (x - x / 10 * 10)) &&& 255))))]) [0, 1] rfl
  have hDc := hD.sub (ws' := [(mo, .inr (12, mdF r z q 0 tm (nI (((((20 + 1) + 1) + 1) + 1) + 1)) (nI tx))), (r 7, .inl ((cT 0), 1000, .inl (upd (upd (upd (upd (upd f 20 (1 &&& 255)) (20 + 1) ((nI 3 + 2) &&& 255)) ((20 + 1) + 1) (117 &&& 255)) (((20 + 1) + 1) + 1) ((48 + (x / 10)) &&& 255)) ((((20 + 1) + 1) + 1) + 1) ((48 + (x - x / 10 * 10)) &&& 255))))]) [0, 1] (by decide) rfl
  have hFc := va_free (wc := [(mo, .inr (12, mdF r z q 0 tm (nI (((((20 + 1) + 1) + 1) + 1) + 1)) (nI tx))), (r 7, .inl ((cT 0), 1000, .inl (upd (upd (upd (upd (upd f 20 (1 &&& 255)) (20 + 1) ((nI 3 + 2) &&& 255)) ((20 + 1) + 1) (117 &&& 255)) (((20 + 1) + 1) + 1) ((48 + (x / 10)) &&& 255)) ((((20 + 1) + 1) + 1) + 1) ((48 + (x - x / 10 * 10)) &&& 255))))]) hD hS hA [0, 1] rfl
  refine va_calli (va_runV (C := "DoorServerModel") (As := []) (rest := []) ⟨hx, hb, hml, hown, hg⟩ (m_closes l dC dI cT H.size mo r z q 0 tm (((((20 + 1) + 1) + 1) + 1) + 1) tx (upd (upd (upd (upd (upd f 20 (1 &&& 255)) (20 + 1) ((nI 3 + 2) &&& 255)) ((20 + 1) + 1) (117 &&& 255)) (((20 + 1) + 1) + 1) ((48 + (x / 10)) &&& 255)) ((((20 + 1) + 1) + 1) + 1) ((48 + (x - x / 10 * 10)) &&& 255)) ) (cwV 0 hg (gI (List.forall_mem_append.mpr ⟨List.forall_mem_cons.mpr ⟨k_1192, List.forall_mem_cons.mpr ⟨k_1194, List.forall_mem_cons.mpr ⟨(big_sel (q := y_Md_closes) (n := 45) (by decide +kernel)), List.forall_mem_cons.mpr ⟨k_13, fun _ h => absurd h List.not_mem_nil⟩⟩⟩⟩, List.forall_mem_cons.mpr ⟨k_1195, fun _ h => h⟩⟩)) rfl rfl rfl (by decide +kernel) ⟨Nat.le_of_ble_eq_true rfl, Nat.le_of_ble_eq_true rfl⟩) ⟨fun a U g mk q => by obtain ⟨q0, q1, qP, qK, qD⟩ := q; exact ⟨q0, q1, qP, va_K.moved (u := U) (U := U.calling g mk a) (Vm.Alike.refl U.vm) qK, qD⟩, va_recv (q0 := 0) (ci := 12) hK hP rfl rfl, fun U hU hW => ⟨rfl, by rw [hU], by rw [hU]; exact hPc, va_K.moved hW.alike hK, hDc.weaken (fun _ _ _ _ => trivial)⟩⟩ rfl rfl hl.1 rfl (lv_room (Nat.le_of_ble_eq_true rfl)) d_Md_name_62 ⟨Nat.le_of_ble_eq_true rfl, Nat.le_of_ble_eq_true rfl⟩) hS (fun q _ h => hFc q h) hFc (fun rv9 u t H1 locs ht hvm hw hB hz1 hk1 hS => ?_)
  obtain ⟨g_76, rfl⟩ : ∃ z, z = u := ⟨_, rfl⟩
  try dsimp only at hw hB
  obtain ⟨hP1, hK1, hD1⟩ := hB
  rw [ht] at hP1
  obtain ⟨rfl, hw⟩ := hw
  obtain ⟨hP, hD⟩ := va_join (wr := []) (w1 := [(mo, .inr (12, mdF r z q 0 tm (nI (((((20 + 1) + 1) + 1) + 1) + 1)) (nI tx))), (r 7, .inl ((cT 0), 1000, .inl g_76))]) hP hD [0, 1] [] rfl rfl (by decide) (by decide) hk1 hFc hP1 hD1
  have hw77 := hw
  clear hPc hDc hFc hz1 hk1 hP1 hK1 hD1
  generalize H1 = H at hP hS ⊢
  have hP : va_P (dC, dI) vcl [(mo, .inr (12, mdF r z q 0 tm (nI (((((20 + 1) + 1) + 1) + 1) + 1)) (nI tx))), (r 7, .inl ((cT 0), 1000, .inl g_76))] H := hP
  have hD : va_D A [(mo, .inr (12, mdF r z q 0 tm (nI (((((20 + 1) + 1) + 1) + 1) + 1)) (nI tx))), (r 7, .inl ((cT 0), 1000, .inl g_76))] := hD
  refine lv_topi (fun x79 e78 => ?_)
  obtain rfl : x79 = 25 := by rw [e78]; rfl
  -- world: (mo, .inr (12, mdF r z q 0 tm (nI (((((20 + 1) + 1) + 1) + 1) + 1)) (nI tx))) for (mo, .inr (12, mdF r z q 0 tm (nI 25) (nI tx)))
  have hP9 := hP.sub (ws' := [(mo, .inr (12, mdF r z q 0 tm (nI (((((20 + 1) + 1) + 1) + 1) + 1)) (nI tx)))]) [0] rfl
  have hD9 := hD.sub (ws' := [(mo, .inr (12, mdF r z q 0 tm (nI (((((20 + 1) + 1) + 1) + 1) + 1)) (nI tx)))]) [0] (by decide) rfl
  exact W.iret (v := 25) hx hb hr (fun t ht hW => ⟨⟨_, (), rfl, ⟨rfl, trivial⟩, by rw [ht]; exact hP9, va_K.moved hW.alike hK, hD9⟩, hS.F ht⟩) hS.2.2 d_Md_name_65
set_option maxHeartbeats 4000000 in
set_option maxRecDepth 100000 in
/-- hello -/
theorem o_hello (l : Launch) (dC : Nat → ClassId) (dI : Nat → Nat → Nat) (cT : Nat → ClassId) (sz : Nat) (mo : Nat) (r : Nat → Nat) (z : Nat → Int32) (q : Nat → Int64) (cd : Int32) (tm : Int32) (sn : Nat) (tx : Nat) (f : Nat → Int32) (x : Int32) (hx1 : ¬ x < 0) (hx2 : ¬ 255 < x) : Met l y_Md_hello (Cond.code y_Md_hello b_Md_hello 2 (Option.some Jvm.ClassFile.FieldType.int) :: BIG) ({ frames := 2, cells := 0, slots := 0, locals := 45 }) (va_Pc [.ref mo, .int x] (fun U => U.heap.size = sz ∧ va_P (dC, dI) vcl [(mo, .inr (12, mdF r z q cd tm (nI 20) (nI tx))), (r 7, .inl ((cT 0), 1000, .inl f))] U.heap ∧ va_K (dC, dI) vcl (tyL cT) U ∧ va_D (fun _ => True) [(mo, .inr (12, mdF r z q cd tm (nI 20) (nI tx))), (r 7, .inl ((cT 0), 1000, .inl f))])) (va_Qi (S := Unit) (fun rv9 u => rv9 = 27 ∧ (True)) (fun u t => va_P (dC, dI) vcl [(mo, .inr (12, mdF r z q 0 tm (nI 27) (nI tx)))] t.heap ∧ va_K (dC, dI) vcl (tyL cT) t ∧ va_D (va_A [(mo, .inr (12, mdF r z q cd tm (nI 20) (nI tx))), (r 7, .inl ((cT 0), 1000, .inl f))] sz) [(mo, .inr (12, mdF r z q 0 tm (nI 27) (nI tx)))]) (va_A [(mo, .inr (12, mdF r z q cd tm (nI 20) (nI tx))), (r 7, .inl ((cT 0), 1000, .inl f))] sz)) 0 0 (va_A [(mo, .inr (12, mdF r z q cd tm (nI 20) (nI tx))), (r 7, .inl ((cT 0), 1000, .inl f))] sz) := by
  refine Met.ofW (cc := b_Md_hello) (maxL := 2) (ret := (Option.some Jvm.ClassFile.FieldType.int)) (by decide) rfl ?_
  intro p e s m args below meth c s₁ B hml hv
  obtain ⟨hargs, hsz, hP, hK, hD0⟩ := hv
  have hx := B.exec
  have hb := B.bytes
  have hr := B.returns
  have hts := atoms_spec (ws := (Cond.code y_Md_hello b_Md_hello 2 (Option.some Jvm.ClassFile.FieldType.int) :: BIG)) B.pre
  have hg : ∀ w ∈ BIG, w.before _ s = true := fun w h => hts w (List.mem_cons_of_mem _ h)
  have hown : s.vm.findClass "DoorServerModel" = some m.cls := findClass_of_methodNamed B.named
  have hlocks := B.notSynchronized
  subst hsz
  have hD := hD0.self (sz := s.heap.size)
  generalize hAe : va_A [(mo, .inr (12, mdF r z q cd tm (nI 20) (nI tx))), (r 7, .inl ((cT 0), 1000, .inl f))] s.heap.size = A at hD ⊢
  have hA : ∀ q : Nat, s.heap.size ≤ q → A q := fun q h => by rw [← hAe]; exact Or.inr h
  have hS : va_S A s.heap s.heap [] := va_S.rf
  have hl := lv_entry ([.ref mo, .int x]) (n := 2) (Nat.le_of_ble_eq_true rfl)
  refine W.eq (g2 := entryFrame m (List.toArray [.ref mo, .int x]) 2) (by rw [hargs]) ?_
  rw [lg_entry_eq]
  generalize (lg_sl ([.ref mo, .int x]) ++ List.replicate (2 - (lg_sl ([.ref mo, .int x])).length) Slot.unset).toArray = ls at hl ⊢
  have hl : lv_has ls 2 [(0, .ref mo), (1, .int x)] := hl
  change W p l e ({ frames := 2, cells := 0, slots := 0, locals := 45 } : Room) s m args below meth c s.heap [] 0 0 _ _
  have hP : va_P (dC, dI) vcl [(mo, .inr (12, mdF r z q cd tm (nI 20) (nI tx))), (r 7, .inl ((cT 0), 1000, .inl f))] s.heap := hP
  refine lv_aload_n hx hb d_Md_hello_0 rfl (lv_at hl 0 rfl) ?_
  refine lv_iload_n hx hb d_Md_hello_1 rfl (lv_at hl 1 rfl) ?_
  have hPc := hP.sub (ws' := []) [] rfl
  have hDc := hD.sub (ws' := []) [] (by decide) rfl
  have hFc := va_free (wc := []) hD hS hA [] rfl
  refine va_calli (va_runS (As := [.int x]) (rest := [.ref mo]) ⟨hx, hb, hml, hown, hg⟩ (m_byte1 l dC dI cT s.heap.size x (hx1) (hx2)) (va_cwS 1 hg (gI (List.forall_mem_append.mpr ⟨List.forall_mem_cons.mpr ⟨k_1181, List.forall_mem_cons.mpr ⟨k_1182, List.forall_mem_cons.mpr ⟨k_13, fun _ h => absurd h List.not_mem_nil⟩⟩⟩, List.forall_mem_cons.mpr ⟨k_1183, fun _ h => h⟩⟩)) rfl rfl rfl (by decide +kernel) ⟨Nat.le_of_ble_eq_true rfl, Nat.le_of_ble_eq_true rfl⟩) ⟨fun a U g mk q => by obtain ⟨q0, q1, qP, qK, qD⟩ := q; exact ⟨q0, q1, qP, va_K.moved (u := U) (U := U.calling g mk a) (Vm.Alike.refl U.vm) qK, qD⟩, fun U hU hW => ⟨rfl, by rw [hU], by rw [hU]; exact hPc, va_K.moved hW.alike hK, hDc.weaken (fun _ _ _ _ => trivial)⟩⟩ rfl rfl hl.1 rfl (lv_room (Nat.le_of_ble_eq_true rfl)) d_Md_hello_2 ⟨Nat.le_of_ble_eq_true rfl, Nat.le_of_ble_eq_true rfl⟩) hS (fun q _ h => hFc q h) hFc (fun rv9 u t H1 locs ht hvm hw hB hz1 hk1 hS => ?_)
  try dsimp only at hw hB
  obtain ⟨hP1, hK1, hD1⟩ := hB
  rw [ht] at hP1
  obtain ⟨rfl, hw⟩ := hw
  obtain ⟨hP, hD⟩ := va_join (wr := [(mo, .inr (12, mdF r z q cd tm (nI 20) (nI tx))), (r 7, .inl ((cT 0), 1000, .inl f))]) (w1 := []) hP hD [] [0, 1] rfl rfl (by decide) (by decide) hk1 hFc hP1 hD1
  have hw80 := hw
  clear hPc hDc hFc hz1 hk1 hP1 hK1 hD1
  generalize H1 = H at hP hS ⊢
  have hP : va_P (dC, dI) vcl [(mo, .inr (12, mdF r z q cd tm (nI 20) (nI tx))), (r 7, .inl ((cT 0), 1000, .inl f))] H := hP
  have hD : va_D A [(mo, .inr (12, mdF r z q cd tm (nI 20) (nI tx))), (r 7, .inl ((cT 0), 1000, .inl f))] := hD
  have hPc := hP.sub (ws' := [(mo, .inr (12, mdF r z q cd tm (nI 20) (nI tx)))]) [0] rfl
  have hDc := hD.sub (ws' := [(mo, .inr (12, mdF r z q cd tm (nI 20) (nI tx)))]) [0] (by decide) rfl
  have hFc := va_free (wc := [(mo, .inr (12, mdF r z q cd tm (nI 20) (nI tx)))]) hD hS hA [0] rfl
  refine va_calli (va_runV (C := "DoorServerModel") (As := [.int 1]) (rest := []) ⟨hx, hb, hml, hown, hg⟩ (m_goes1 l dC dI cT H.size mo r z q cd tm 20 tx ) (cwV 1 hg (gI (List.forall_mem_append.mpr ⟨List.forall_mem_cons.mpr ⟨k_1165, List.forall_mem_cons.mpr ⟨k_1167, List.forall_mem_cons.mpr ⟨(big_sel (q := y_Md_goes) (n := 45) (by decide +kernel)), List.forall_mem_cons.mpr ⟨k_13, fun _ h => absurd h List.not_mem_nil⟩⟩⟩⟩, List.forall_mem_cons.mpr ⟨k_1168, fun _ h => h⟩⟩)) rfl rfl rfl (by decide +kernel) ⟨Nat.le_of_ble_eq_true rfl, Nat.le_of_ble_eq_true rfl⟩) ⟨fun a U g mk q => by obtain ⟨q0, q1, qP, qK, qD⟩ := q; exact ⟨q0, q1, qP, va_K.moved (u := U) (U := U.calling g mk a) (Vm.Alike.refl U.vm) qK, qD⟩, va_recv (q0 := 0) (ci := 12) hK hP rfl rfl, fun U hU hW => ⟨rfl, by rw [hU], by rw [hU]; exact hPc, va_K.moved hW.alike hK, hDc.weaken (fun _ _ _ _ => trivial)⟩⟩ rfl rfl hl.1 rfl (lv_room (Nat.le_of_ble_eq_true rfl)) d_Md_hello_5 ⟨Nat.le_of_ble_eq_true rfl, Nat.le_of_ble_eq_true rfl⟩) hS (fun q _ h => hFc q h) hFc (fun rv9 u t H1 locs ht hvm hw hB hz1 hk1 hS => ?_)
  try dsimp only at hw hB
  obtain ⟨hP1, hK1, hD1⟩ := hB
  rw [ht] at hP1
  obtain ⟨rfl, hw⟩ := hw
  obtain ⟨hP, hD⟩ := va_join (wr := [(r 7, .inl ((cT 0), 1000, .inl f))]) (w1 := [(mo, .inr (12, mdF r z q 0 tm (nI 20) (nI tx)))]) hP hD [0] [1] rfl rfl (by decide) (by decide) hk1 hFc hP1 hD1
  have hw81 := hw
  clear hPc hDc hFc hz1 hk1 hP1 hK1 hD1
  generalize H1 = H at hP hS ⊢
  have hP : va_P (dC, dI) vcl [(r 7, .inl ((cT 0), 1000, .inl f)), (mo, .inr (12, mdF r z q 0 tm (nI 20) (nI tx)))] H := hP
  have hD : va_D A [(r 7, .inl ((cT 0), 1000, .inl f)), (mo, .inr (12, mdF r z q 0 tm (nI 20) (nI tx)))] := hD
  refine lv_if_eq (tgt := 21) hx hb d_Md_hello_8 (by decide) (fun hn9 => absurd hn9 (by decide)) (fun hc82 => ?_)
  refine lv_aload_n hx hb d_Md_hello_11 rfl (lv_at hl 0 rfl) ?_
  refine lv_bipush (v := 79) hx hb d_Md_hello_12 (by decide) ?_
  refine lv_iconst (v := 5) hx hb d_Md_hello_14 (by decide) ?_
  refine lv_topi (fun x84 e83 => ?_)
  obtain rfl : x84 = nI 5 := by rw [e83]; rfl
  have hPc := hP.sub (ws' := [(mo, .inr (12, mdF r z q 0 tm (nI 20) (nI tx))), (r 7, .inl ((cT 0), 1000, .inl f))]) [1, 0] rfl
  have hDc := hD.sub (ws' := [(mo, .inr (12, mdF r z q 0 tm (nI 20) (nI tx))), (r 7, .inl ((cT 0), 1000, .inl f))]) [1, 0] (by decide) rfl
  have hFc := va_free (wc := [(mo, .inr (12, mdF r z q 0 tm (nI 20) (nI tx))), (r 7, .inl ((cT 0), 1000, .inl f))]) hD hS hA [1, 0] rfl
  refine va_calli (va_runV (C := "DoorServerModel") (As := [.int 79, .int (nI 5)]) (rest := []) ⟨hx, hb, hml, hown, hg⟩ (m_opens l dC dI cT H.size mo r z q 0 tm 20 tx f 79 5 (by decide)) (cwV 2 hg (gI (List.forall_mem_append.mpr ⟨List.forall_mem_cons.mpr ⟨k_1188, List.forall_mem_cons.mpr ⟨k_1190, List.forall_mem_cons.mpr ⟨(big_sel (q := y_Md_opens) (n := 45) (by decide +kernel)), List.forall_mem_cons.mpr ⟨k_13, fun _ h => absurd h List.not_mem_nil⟩⟩⟩⟩, List.forall_mem_cons.mpr ⟨k_1191, fun _ h => h⟩⟩)) rfl rfl rfl (by decide +kernel) ⟨Nat.le_of_ble_eq_true rfl, Nat.le_of_ble_eq_true rfl⟩) ⟨fun a U g mk q => by obtain ⟨q0, q1, qP, qK, qD⟩ := q; exact ⟨q0, q1, qP, va_K.moved (u := U) (U := U.calling g mk a) (Vm.Alike.refl U.vm) qK, qD⟩, va_recv (q0 := 1) (ci := 12) hK hP rfl rfl, fun U hU hW => ⟨rfl, by rw [hU], by rw [hU]; exact hPc, va_K.moved hW.alike hK, hDc.weaken (fun _ _ _ _ => trivial)⟩⟩ rfl rfl hl.1 rfl (lv_room (Nat.le_of_ble_eq_true rfl)) d_Md_hello_15 ⟨Nat.le_of_ble_eq_true rfl, Nat.le_of_ble_eq_true rfl⟩) hS (fun q _ h => hFc q h) hFc (fun rv9 u t H1 locs ht hvm hw hB hz1 hk1 hS => ?_)
  try dsimp only at hw hB
  obtain ⟨hP1, hK1, hD1⟩ := hB
  rw [ht] at hP1
  obtain ⟨rfl, hw⟩ := hw
  obtain ⟨hP, hD⟩ := va_join (wr := []) (w1 := [(mo, .inr (12, mdF r z q 0 tm (nI ((20 + 1) + 1)) (nI tx))), (r 7, .inl ((cT 0), 1000, .inl (upd (upd f 20 (79 &&& 255)) (20 + 1) ((nI 5 + 2) &&& 255))))]) hP hD [1, 0] [] rfl rfl (by decide) (by decide) hk1 hFc hP1 hD1
  have hw85 := hw
  clear hPc hDc hFc hz1 hk1 hP1 hK1 hD1
  generalize H1 = H at hP hS ⊢
  have hP : va_P (dC, dI) vcl [(mo, .inr (12, mdF r z q 0 tm (nI ((20 + 1) + 1)) (nI tx))), (r 7, .inl ((cT 0), 1000, .inl (upd (upd f 20 (79 &&& 255)) (20 + 1) ((nI 5 + 2) &&& 255))))] H := hP
  have hD : va_D A [(mo, .inr (12, mdF r z q 0 tm (nI ((20 + 1) + 1)) (nI tx))), (r 7, .inl ((cT 0), 1000, .inl (upd (upd f 20 (79 &&& 255)) (20 + 1) ((nI 5 + 2) &&& 255))))] := hD
  refine lv_if_ne (tgt := 23) hx hb d_Md_hello_18 (by decide) (fun hc86 => ?_) (fun hn9 => absurd hn9 (by decide))
  refine lv_aload_n hx hb d_Md_hello_23 rfl (lv_at hl 0 rfl) ?_
  refine lv_iconst (v := 2) hx hb d_Md_hello_24 (by decide) ?_
  have hPc := hP.sub (ws' := [(mo, .inr (12, mdF r z q 0 tm (nI ((20 + 1) + 1)) (nI tx))), (r 7, .inl ((cT 0), 1000, .inl (upd (upd f 20 (79 &&& 255)) (20 + 1) ((nI 5 + 2) &&& 255))))]) [0, 1] rfl
  have hDc := hD.sub (ws' := [(mo, .inr (12, mdF r z q 0 tm (nI ((20 + 1) + 1)) (nI tx))), (r 7, .inl ((cT 0), 1000, .inl (upd (upd f 20 (79 &&& 255)) (20 + 1) ((nI 5 + 2) &&& 255))))]) [0, 1] (by decide) rfl
  have hFc := va_free (wc := [(mo, .inr (12, mdF r z q 0 tm (nI ((20 + 1) + 1)) (nI tx))), (r 7, .inl ((cT 0), 1000, .inl (upd (upd f 20 (79 &&& 255)) (20 + 1) ((nI 5 + 2) &&& 255))))]) hD hS hA [0, 1] rfl
  refine va_callv (va_runV (C := "DoorServerModel") (As := [.int 2]) (rest := []) ⟨hx, hb, hml, hown, hg⟩ (m_add l dC dI cT H.size mo r z q 0 tm ((20 + 1) + 1) tx (upd (upd f 20 (79 &&& 255)) (20 + 1) ((nI 5 + 2) &&& 255)) 2 (by decide)) (cwV 1 hg (gI (List.forall_mem_append.mpr ⟨List.forall_mem_cons.mpr ⟨k_1015, List.forall_mem_cons.mpr ⟨k_1017, List.forall_mem_cons.mpr ⟨(big_sel (q := y_Md_add) (n := 45) (by decide +kernel)), List.forall_mem_cons.mpr ⟨k_13, fun _ h => absurd h List.not_mem_nil⟩⟩⟩⟩, List.forall_mem_cons.mpr ⟨k_1018, fun _ h => h⟩⟩)) rfl rfl rfl (by decide +kernel) ⟨Nat.le_of_ble_eq_true rfl, Nat.le_of_ble_eq_true rfl⟩) ⟨fun a U g mk q => by obtain ⟨q0, q1, qP, qK, qD⟩ := q; exact ⟨q0, q1, qP, va_K.moved (u := U) (U := U.calling g mk a) (Vm.Alike.refl U.vm) qK, qD⟩, va_recv (q0 := 0) (ci := 12) hK hP rfl rfl, fun U hU hW => ⟨rfl, by rw [hU], by rw [hU]; exact hPc, va_K.moved hW.alike hK, hDc.weaken (fun _ _ _ _ => trivial)⟩⟩ rfl rfl hl.1 rfl (lv_room (Nat.le_of_ble_eq_true rfl)) d_Md_hello_25 ⟨Nat.le_of_ble_eq_true rfl, Nat.le_of_ble_eq_true rfl⟩) hS (fun q _ h => hFc q h) hFc (fun u t H1 locs ht hvm hw hB hz1 hk1 hS => ?_)
  try dsimp only at hw hB
  obtain ⟨hP1, hK1, hD1⟩ := hB
  rw [ht] at hP1
  obtain ⟨hP, hD⟩ := va_join (wr := []) (w1 := [(mo, .inr (12, mdF r z q 0 tm (nI (((20 + 1) + 1) + 1)) (nI tx))), (r 7, .inl ((cT 0), 1000, .inl (upd (upd (upd f 20 (79 &&& 255)) (20 + 1) ((nI 5 + 2) &&& 255)) ((20 + 1) + 1) (2 &&& 255))))]) hP hD [0, 1] [] rfl rfl (by decide) (by decide) hk1 hFc hP1 hD1
  have hw87 := hw
  clear hPc hDc hFc hz1 hk1 hP1 hK1 hD1
  generalize H1 = H at hP hS ⊢
  have hP : va_P (dC, dI) vcl [(mo, .inr (12, mdF r z q 0 tm (nI (((20 + 1) + 1) + 1)) (nI tx))), (r 7, .inl ((cT 0), 1000, .inl (upd (upd (upd f 20 (79 &&& 255)) (20 + 1) ((nI 5 + 2) &&& 255)) ((20 + 1) + 1) (2 &&& 255))))] H := hP
  have hD : va_D A [(mo, .inr (12, mdF r z q 0 tm (nI (((20 + 1) + 1) + 1)) (nI tx))), (r 7, .inl ((cT 0), 1000, .inl (upd (upd (upd f 20 (79 &&& 255)) (20 + 1) ((nI 5 + 2) &&& 255)) ((20 + 1) + 1) (2 &&& 255))))] := hD
  refine lv_aload_n hx hb d_Md_hello_28 rfl (lv_at hl 0 rfl) ?_
  refine lv_iload_n hx hb d_Md_hello_29 rfl (lv_at hl 1 rfl) ?_
  have hPc := hP.sub (ws' := [(mo, .inr (12, mdF r z q 0 tm (nI (((20 + 1) + 1) + 1)) (nI tx))), (r 7, .inl ((cT 0), 1000, .inl (upd (upd (upd f 20 (79 &&& 255)) (20 + 1) ((nI 5 + 2) &&& 255)) ((20 + 1) + 1) (2 &&& 255))))]) [0, 1] rfl
  have hDc := hD.sub (ws' := [(mo, .inr (12, mdF r z q 0 tm (nI (((20 + 1) + 1) + 1)) (nI tx))), (r 7, .inl ((cT 0), 1000, .inl (upd (upd (upd f 20 (79 &&& 255)) (20 + 1) ((nI 5 + 2) &&& 255)) ((20 + 1) + 1) (2 &&& 255))))]) [0, 1] (by decide) rfl
  have hFc := va_free (wc := [(mo, .inr (12, mdF r z q 0 tm (nI (((20 + 1) + 1) + 1)) (nI tx))), (r 7, .inl ((cT 0), 1000, .inl (upd (upd (upd f 20 (79 &&& 255)) (20 + 1) ((nI 5 + 2) &&& 255)) ((20 + 1) + 1) (2 &&& 255))))]) hD hS hA [0, 1] rfl
  refine va_callv (va_runV (C := "DoorServerModel") (As := [.int x]) (rest := []) ⟨hx, hb, hml, hown, hg⟩ (m_add l dC dI cT H.size mo r z q 0 tm (((20 + 1) + 1) + 1) tx (upd (upd (upd f 20 (79 &&& 255)) (20 + 1) ((nI 5 + 2) &&& 255)) ((20 + 1) + 1) (2 &&& 255)) x (by decide)) (cwV 1 hg (gI (List.forall_mem_append.mpr ⟨List.forall_mem_cons.mpr ⟨k_1015, List.forall_mem_cons.mpr ⟨k_1017, List.forall_mem_cons.mpr ⟨(big_sel (q := y_Md_add) (n := 45) (by decide +kernel)), List.forall_mem_cons.mpr ⟨k_13, fun _ h => absurd h List.not_mem_nil⟩⟩⟩⟩, List.forall_mem_cons.mpr ⟨k_1018, fun _ h => h⟩⟩)) rfl rfl rfl (by decide +kernel) ⟨Nat.le_of_ble_eq_true rfl, Nat.le_of_ble_eq_true rfl⟩) ⟨fun a U g mk q => by obtain ⟨q0, q1, qP, qK, qD⟩ := q; exact ⟨q0, q1, qP, va_K.moved (u := U) (U := U.calling g mk a) (Vm.Alike.refl U.vm) qK, qD⟩, va_recv (q0 := 0) (ci := 12) hK hP rfl rfl, fun U hU hW => ⟨rfl, by rw [hU], by rw [hU]; exact hPc, va_K.moved hW.alike hK, hDc.weaken (fun _ _ _ _ => trivial)⟩⟩ rfl rfl hl.1 rfl (lv_room (Nat.le_of_ble_eq_true rfl)) d_Md_hello_30 ⟨Nat.le_of_ble_eq_true rfl, Nat.le_of_ble_eq_true rfl⟩) hS (fun q _ h => hFc q h) hFc (fun u t H1 locs ht hvm hw hB hz1 hk1 hS => ?_)
  try dsimp only at hw hB
  obtain ⟨hP1, hK1, hD1⟩ := hB
  rw [ht] at hP1
  obtain ⟨hP, hD⟩ := va_join (wr := []) (w1 := [(mo, .inr (12, mdF r z q 0 tm (nI ((((20 + 1) + 1) + 1) + 1)) (nI tx))), (r 7, .inl ((cT 0), 1000, .inl (upd (upd (upd (upd f 20 (79 &&& 255)) (20 + 1) ((nI 5 + 2) &&& 255)) ((20 + 1) + 1) (2 &&& 255)) (((20 + 1) + 1) + 1) (x &&& 255))))]) hP hD [0, 1] [] rfl rfl (by decide) (by decide) hk1 hFc hP1 hD1
  have hw88 := hw
  clear hPc hDc hFc hz1 hk1 hP1 hK1 hD1
  generalize H1 = H at hP hS ⊢
  have hP : va_P (dC, dI) vcl [(mo, .inr (12, mdF r z q 0 tm (nI ((((20 + 1) + 1) + 1) + 1)) (nI tx))), (r 7, .inl ((cT 0), 1000, .inl (upd (upd (upd (upd f 20 (79 &&& 255)) (20 + 1) ((nI 5 + 2) &&& 255)) ((20 + 1) + 1) (2 &&& 255)) (((20 + 1) + 1) + 1) (x &&& 255))))] H := hP
  have hD : va_D A [(mo, .inr (12, mdF r z q 0 tm (nI ((((20 + 1) + 1) + 1) + 1)) (nI tx))), (r 7, .inl ((cT 0), 1000, .inl (upd (upd (upd (upd f 20 (79 &&& 255)) (20 + 1) ((nI 5 + 2) &&& 255)) ((20 + 1) + 1) (2 &&& 255)) (((20 + 1) + 1) + 1) (x &&& 255))))] := hD
  refine lv_aload_n hx hb d_Md_hello_33 rfl (lv_at hl 0 rfl) ?_
  refine lv_iconst (v := 0) hx hb d_Md_hello_34 (by decide) ?_
  have hPc := hP.sub (ws' := [(mo, .inr (12, mdF r z q 0 tm (nI ((((20 + 1) + 1) + 1) + 1)) (nI tx))), (r 7, .inl ((cT 0), 1000, .inl (upd (upd (upd (upd f 20 (79 &&& 255)) (20 + 1) ((nI 5 + 2) &&& 255)) ((20 + 1) + 1) (2 &&& 255)) (((20 + 1) + 1) + 1) (x &&& 255))))]) [0, 1] rfl
  have hDc := hD.sub (ws' := [(mo, .inr (12, mdF r z q 0 tm (nI ((((20 + 1) + 1) + 1) + 1)) (nI tx))), (r 7, .inl ((cT 0), 1000, .inl (upd (upd (upd (upd f 20 (79 &&& 255)) (20 + 1) ((nI 5 + 2) &&& 255)) ((20 + 1) + 1) (2 &&& 255)) (((20 + 1) + 1) + 1) (x &&& 255))))]) [0, 1] (by decide) rfl
  have hFc := va_free (wc := [(mo, .inr (12, mdF r z q 0 tm (nI ((((20 + 1) + 1) + 1) + 1)) (nI tx))), (r 7, .inl ((cT 0), 1000, .inl (upd (upd (upd (upd f 20 (79 &&& 255)) (20 + 1) ((nI 5 + 2) &&& 255)) ((20 + 1) + 1) (2 &&& 255)) (((20 + 1) + 1) + 1) (x &&& 255))))]) hD hS hA [0, 1] rfl
  refine va_callv (va_runV (C := "DoorServerModel") (As := [.int 0]) (rest := []) ⟨hx, hb, hml, hown, hg⟩ (m_add l dC dI cT H.size mo r z q 0 tm ((((20 + 1) + 1) + 1) + 1) tx (upd (upd (upd (upd f 20 (79 &&& 255)) (20 + 1) ((nI 5 + 2) &&& 255)) ((20 + 1) + 1) (2 &&& 255)) (((20 + 1) + 1) + 1) (x &&& 255)) 0 (by decide)) (cwV 1 hg (gI (List.forall_mem_append.mpr ⟨List.forall_mem_cons.mpr ⟨k_1015, List.forall_mem_cons.mpr ⟨k_1017, List.forall_mem_cons.mpr ⟨(big_sel (q := y_Md_add) (n := 45) (by decide +kernel)), List.forall_mem_cons.mpr ⟨k_13, fun _ h => absurd h List.not_mem_nil⟩⟩⟩⟩, List.forall_mem_cons.mpr ⟨k_1018, fun _ h => h⟩⟩)) rfl rfl rfl (by decide +kernel) ⟨Nat.le_of_ble_eq_true rfl, Nat.le_of_ble_eq_true rfl⟩) ⟨fun a U g mk q => by obtain ⟨q0, q1, qP, qK, qD⟩ := q; exact ⟨q0, q1, qP, va_K.moved (u := U) (U := U.calling g mk a) (Vm.Alike.refl U.vm) qK, qD⟩, va_recv (q0 := 0) (ci := 12) hK hP rfl rfl, fun U hU hW => ⟨rfl, by rw [hU], by rw [hU]; exact hPc, va_K.moved hW.alike hK, hDc.weaken (fun _ _ _ _ => trivial)⟩⟩ rfl rfl hl.1 rfl (lv_room (Nat.le_of_ble_eq_true rfl)) d_Md_hello_35 ⟨Nat.le_of_ble_eq_true rfl, Nat.le_of_ble_eq_true rfl⟩) hS (fun q _ h => hFc q h) hFc (fun u t H1 locs ht hvm hw hB hz1 hk1 hS => ?_)
  try dsimp only at hw hB
  obtain ⟨hP1, hK1, hD1⟩ := hB
  rw [ht] at hP1
  obtain ⟨hP, hD⟩ := va_join (wr := []) (w1 := [(mo, .inr (12, mdF r z q 0 tm (nI (((((20 + 1) + 1) + 1) + 1) + 1)) (nI tx))), (r 7, .inl ((cT 0), 1000, .inl (upd (upd (upd (upd (upd f 20 (79 &&& 255)) (20 + 1) ((nI 5 + 2) &&& 255)) ((20 + 1) + 1) (2 &&& 255)) (((20 + 1) + 1) + 1) (x &&& 255)) ((((20 + 1) + 1) + 1) + 1) (0 &&& 255))))]) hP hD [0, 1] [] rfl rfl (by decide) (by decide) hk1 hFc hP1 hD1
  have hw89 := hw
  clear hPc hDc hFc hz1 hk1 hP1 hK1 hD1
  generalize H1 = H at hP hS ⊢
  have hP : va_P (dC, dI) vcl [(mo, .inr (12, mdF r z q 0 tm (nI (((((20 + 1) + 1) + 1) + 1) + 1)) (nI tx))), (r 7, .inl ((cT 0), 1000, .inl (upd (upd (upd (upd (upd f 20 (79 &&& 255)) (20 + 1) ((nI 5 + 2) &&& 255)) ((20 + 1) + 1) (2 &&& 255)) (((20 + 1) + 1) + 1) (x &&& 255)) ((((20 + 1) + 1) + 1) + 1) (0 &&& 255))))] H := hP
  have hD : va_D A [(mo, .inr (12, mdF r z q 0 tm (nI (((((20 + 1) + 1) + 1) + 1) + 1)) (nI tx))), (r 7, .inl ((cT 0), 1000, .inl (upd (upd (upd (upd (upd f 20 (79 &&& 255)) (20 + 1) ((nI 5 + 2) &&& 255)) ((20 + 1) + 1) (2 &&& 255)) (((20 + 1) + 1) + 1) (x &&& 255)) ((((20 + 1) + 1) + 1) + 1) (0 &&& 255))))] := hD
  refine lv_aload_n hx hb d_Md_hello_38 rfl (lv_at hl 0 rfl) ?_
  refine lv_iconst (v := 5) hx hb d_Md_hello_39 (by decide) ?_
  have hPc := hP.sub (ws' := [(mo, .inr (12, mdF r z q 0 tm (nI (((((20 + 1) + 1) + 1) + 1) + 1)) (nI tx))), (r 7, .inl ((cT 0), 1000, .inl (upd (upd (upd (upd (upd f 20 (79 &&& 255)) (20 + 1) ((nI 5 + 2) &&& 255)) ((20 + 1) + 1) (2 &&& 255)) (((20 + 1) + 1) + 1) (x &&& 255)) ((((20 + 1) + 1) + 1) + 1) (0 &&& 255))))]) [0, 1] rfl
  have hDc := hD.sub (ws' := [(mo, .inr (12, mdF r z q 0 tm (nI (((((20 + 1) + 1) + 1) + 1) + 1)) (nI tx))), (r 7, .inl ((cT 0), 1000, .inl (upd (upd (upd (upd (upd f 20 (79 &&& 255)) (20 + 1) ((nI 5 + 2) &&& 255)) ((20 + 1) + 1) (2 &&& 255)) (((20 + 1) + 1) + 1) (x &&& 255)) ((((20 + 1) + 1) + 1) + 1) (0 &&& 255))))]) [0, 1] (by decide) rfl
  have hFc := va_free (wc := [(mo, .inr (12, mdF r z q 0 tm (nI (((((20 + 1) + 1) + 1) + 1) + 1)) (nI tx))), (r 7, .inl ((cT 0), 1000, .inl (upd (upd (upd (upd (upd f 20 (79 &&& 255)) (20 + 1) ((nI 5 + 2) &&& 255)) ((20 + 1) + 1) (2 &&& 255)) (((20 + 1) + 1) + 1) (x &&& 255)) ((((20 + 1) + 1) + 1) + 1) (0 &&& 255))))]) hD hS hA [0, 1] rfl
  refine va_callv (va_runV (C := "DoorServerModel") (As := [.int 5]) (rest := []) ⟨hx, hb, hml, hown, hg⟩ (m_add l dC dI cT H.size mo r z q 0 tm (((((20 + 1) + 1) + 1) + 1) + 1) tx (upd (upd (upd (upd (upd f 20 (79 &&& 255)) (20 + 1) ((nI 5 + 2) &&& 255)) ((20 + 1) + 1) (2 &&& 255)) (((20 + 1) + 1) + 1) (x &&& 255)) ((((20 + 1) + 1) + 1) + 1) (0 &&& 255)) 5 (by decide)) (cwV 1 hg (gI (List.forall_mem_append.mpr ⟨List.forall_mem_cons.mpr ⟨k_1015, List.forall_mem_cons.mpr ⟨k_1017, List.forall_mem_cons.mpr ⟨(big_sel (q := y_Md_add) (n := 45) (by decide +kernel)), List.forall_mem_cons.mpr ⟨k_13, fun _ h => absurd h List.not_mem_nil⟩⟩⟩⟩, List.forall_mem_cons.mpr ⟨k_1018, fun _ h => h⟩⟩)) rfl rfl rfl (by decide +kernel) ⟨Nat.le_of_ble_eq_true rfl, Nat.le_of_ble_eq_true rfl⟩) ⟨fun a U g mk q => by obtain ⟨q0, q1, qP, qK, qD⟩ := q; exact ⟨q0, q1, qP, va_K.moved (u := U) (U := U.calling g mk a) (Vm.Alike.refl U.vm) qK, qD⟩, va_recv (q0 := 0) (ci := 12) hK hP rfl rfl, fun U hU hW => ⟨rfl, by rw [hU], by rw [hU]; exact hPc, va_K.moved hW.alike hK, hDc.weaken (fun _ _ _ _ => trivial)⟩⟩ rfl rfl hl.1 rfl (lv_room (Nat.le_of_ble_eq_true rfl)) d_Md_hello_40 ⟨Nat.le_of_ble_eq_true rfl, Nat.le_of_ble_eq_true rfl⟩) hS (fun q _ h => hFc q h) hFc (fun u t H1 locs ht hvm hw hB hz1 hk1 hS => ?_)
  try dsimp only at hw hB
  obtain ⟨hP1, hK1, hD1⟩ := hB
  rw [ht] at hP1
  obtain ⟨hP, hD⟩ := va_join (wr := []) (w1 := [(mo, .inr (12, mdF r z q 0 tm (nI ((((((20 + 1) + 1) + 1) + 1) + 1) + 1)) (nI tx))), (r 7, .inl ((cT 0), 1000, .inl (upd (upd (upd (upd (upd (upd f 20 (79 &&& 255)) (20 + 1) ((nI 5 + 2) &&& 255)) ((20 + 1) + 1) (2 &&& 255)) (((20 + 1) + 1) + 1) (x &&& 255)) ((((20 + 1) + 1) + 1) + 1) (0 &&& 255)) (((((20 + 1) + 1) + 1) + 1) + 1) (5 &&& 255))))]) hP hD [0, 1] [] rfl rfl (by decide) (by decide) hk1 hFc hP1 hD1
  have hw90 := hw
  clear hPc hDc hFc hz1 hk1 hP1 hK1 hD1
  generalize H1 = H at hP hS ⊢
  have hP : va_P (dC, dI) vcl [(mo, .inr (12, mdF r z q 0 tm (nI ((((((20 + 1) + 1) + 1) + 1) + 1) + 1)) (nI tx))), (r 7, .inl ((cT 0), 1000, .inl (upd (upd (upd (upd (upd (upd f 20 (79 &&& 255)) (20 + 1) ((nI 5 + 2) &&& 255)) ((20 + 1) + 1) (2 &&& 255)) (((20 + 1) + 1) + 1) (x &&& 255)) ((((20 + 1) + 1) + 1) + 1) (0 &&& 255)) (((((20 + 1) + 1) + 1) + 1) + 1) (5 &&& 255))))] H := hP
  have hD : va_D A [(mo, .inr (12, mdF r z q 0 tm (nI ((((((20 + 1) + 1) + 1) + 1) + 1) + 1)) (nI tx))), (r 7, .inl ((cT 0), 1000, .inl (upd (upd (upd (upd (upd (upd f 20 (79 &&& 255)) (20 + 1) ((nI 5 + 2) &&& 255)) ((20 + 1) + 1) (2 &&& 255)) (((20 + 1) + 1) + 1) (x &&& 255)) ((((20 + 1) + 1) + 1) + 1) (0 &&& 255)) (((((20 + 1) + 1) + 1) + 1) + 1) (5 &&& 255))))] := hD
  refine lv_aload_n hx hb d_Md_hello_43 rfl (lv_at hl 0 rfl) ?_
  refine lv_iconst (v := 1) hx hb d_Md_hello_44 (by decide) ?_
  have hPc := hP.sub (ws' := [(mo, .inr (12, mdF r z q 0 tm (nI ((((((20 + 1) + 1) + 1) + 1) + 1) + 1)) (nI tx))), (r 7, .inl ((cT 0), 1000, .inl (upd (upd (upd (upd (upd (upd f 20 (79 &&& 255)) (20 + 1) ((nI 5 + 2) &&& 255)) ((20 + 1) + 1) (2 &&& 255)) (((20 + 1) + 1) + 1) (x &&& 255)) ((((20 + 1) + 1) + 1) + 1) (0 &&& 255)) (((((20 + 1) + 1) + 1) + 1) + 1) (5 &&& 255))))]) [0, 1] rfl
  have hDc := hD.sub (ws' := [(mo, .inr (12, mdF r z q 0 tm (nI ((((((20 + 1) + 1) + 1) + 1) + 1) + 1)) (nI tx))), (r 7, .inl ((cT 0), 1000, .inl (upd (upd (upd (upd (upd (upd f 20 (79 &&& 255)) (20 + 1) ((nI 5 + 2) &&& 255)) ((20 + 1) + 1) (2 &&& 255)) (((20 + 1) + 1) + 1) (x &&& 255)) ((((20 + 1) + 1) + 1) + 1) (0 &&& 255)) (((((20 + 1) + 1) + 1) + 1) + 1) (5 &&& 255))))]) [0, 1] (by decide) rfl
  have hFc := va_free (wc := [(mo, .inr (12, mdF r z q 0 tm (nI ((((((20 + 1) + 1) + 1) + 1) + 1) + 1)) (nI tx))), (r 7, .inl ((cT 0), 1000, .inl (upd (upd (upd (upd (upd (upd f 20 (79 &&& 255)) (20 + 1) ((nI 5 + 2) &&& 255)) ((20 + 1) + 1) (2 &&& 255)) (((20 + 1) + 1) + 1) (x &&& 255)) ((((20 + 1) + 1) + 1) + 1) (0 &&& 255)) (((((20 + 1) + 1) + 1) + 1) + 1) (5 &&& 255))))]) hD hS hA [0, 1] rfl
  refine va_callv (va_runV (C := "DoorServerModel") (As := [.int 1]) (rest := []) ⟨hx, hb, hml, hown, hg⟩ (m_add l dC dI cT H.size mo r z q 0 tm ((((((20 + 1) + 1) + 1) + 1) + 1) + 1) tx (upd (upd (upd (upd (upd (upd f 20 (79 &&& 255)) (20 + 1) ((nI 5 + 2) &&& 255)) ((20 + 1) + 1) (2 &&& 255)) (((20 + 1) + 1) + 1) (x &&& 255)) ((((20 + 1) + 1) + 1) + 1) (0 &&& 255)) (((((20 + 1) + 1) + 1) + 1) + 1) (5 &&& 255)) 1 (by decide)) (cwV 1 hg (gI (List.forall_mem_append.mpr ⟨List.forall_mem_cons.mpr ⟨k_1015, List.forall_mem_cons.mpr ⟨k_1017, List.forall_mem_cons.mpr ⟨(big_sel (q := y_Md_add) (n := 45) (by decide +kernel)), List.forall_mem_cons.mpr ⟨k_13, fun _ h => absurd h List.not_mem_nil⟩⟩⟩⟩, List.forall_mem_cons.mpr ⟨k_1018, fun _ h => h⟩⟩)) rfl rfl rfl (by decide +kernel) ⟨Nat.le_of_ble_eq_true rfl, Nat.le_of_ble_eq_true rfl⟩) ⟨fun a U g mk q => by obtain ⟨q0, q1, qP, qK, qD⟩ := q; exact ⟨q0, q1, qP, va_K.moved (u := U) (U := U.calling g mk a) (Vm.Alike.refl U.vm) qK, qD⟩, va_recv (q0 := 0) (ci := 12) hK hP rfl rfl, fun U hU hW => ⟨rfl, by rw [hU], by rw [hU]; exact hPc, va_K.moved hW.alike hK, hDc.weaken (fun _ _ _ _ => trivial)⟩⟩ rfl rfl hl.1 rfl (lv_room (Nat.le_of_ble_eq_true rfl)) d_Md_hello_45 ⟨Nat.le_of_ble_eq_true rfl, Nat.le_of_ble_eq_true rfl⟩) hS (fun q _ h => hFc q h) hFc (fun u t H1 locs ht hvm hw hB hz1 hk1 hS => ?_)
  try dsimp only at hw hB
  obtain ⟨hP1, hK1, hD1⟩ := hB
  rw [ht] at hP1
  obtain ⟨hP, hD⟩ := va_join (wr := []) (w1 := [(mo, .inr (12, mdF r z q 0 tm (nI (((((((20 + 1) + 1) + 1) + 1) + 1) + 1) + 1)) (nI tx))), (r 7, .inl ((cT 0), 1000, .inl (upd (upd (upd (upd (upd (upd (upd f 20 (79 &&& 255)) (20 + 1) ((nI 5 + 2) &&& 255)) ((20 + 1) + 1) (2 &&& 255)) (((20 + 1) + 1) + 1) (x &&& 255)) ((((20 + 1) + 1) + 1) + 1) (0 &&& 255)) (((((20 + 1) + 1) + 1) + 1) + 1) (5 &&& 255)) ((((((20 + 1) + 1) + 1) + 1) + 1) + 1) (1 &&& 255))))]) hP hD [0, 1] [] rfl rfl (by decide) (by decide) hk1 hFc hP1 hD1
  have hw91 := hw
  clear hPc hDc hFc hz1 hk1 hP1 hK1 hD1
  generalize H1 = H at hP hS ⊢
  have hP : va_P (dC, dI) vcl [(mo, .inr (12, mdF r z q 0 tm (nI (((((((20 + 1) + 1) + 1) + 1) + 1) + 1) + 1)) (nI tx))), (r 7, .inl ((cT 0), 1000, .inl (upd (upd (upd (upd (upd (upd (upd f 20 (79 &&& 255)) (20 + 1) ((nI 5 + 2) &&& 255)) ((20 + 1) + 1) (2 &&& 255)) (((20 + 1) + 1) + 1) (x &&& 255)) ((((20 + 1) + 1) + 1) + 1) (0 &&& 255)) (((((20 + 1) + 1) + 1) + 1) + 1) (5 &&& 255)) ((((((20 + 1) + 1) + 1) + 1) + 1) + 1) (1 &&& 255))))] H := hP
  have hD : va_D A [(mo, .inr (12, mdF r z q 0 tm (nI (((((((20 + 1) + 1) + 1) + 1) + 1) + 1) + 1)) (nI tx))), (r 7, .inl ((cT 0), 1000, .inl (upd (upd (upd (upd (upd (upd (upd f 20 (79 &&& 255)) (20 + 1) ((nI 5 + 2) &&& 255)) ((20 + 1) + 1) (2 &&& 255)) (((20 + 1) + 1) + 1) (x &&& 255)) ((((20 + 1) + 1) + 1) + 1) (0 &&& 255)) (((((20 + 1) + 1) + 1) + 1) + 1) (5 &&& 255)) ((((((20 + 1) + 1) + 1) + 1) + 1) + 1) (1 &&& 255))))] := hD
  refine lv_aload_n hx hb d_Md_hello_48 rfl (lv_at hl 0 rfl) ?_
  have hPc := hP.sub (ws' := [(mo, .inr (12, mdF r z q 0 tm (nI (((((((20 + 1) + 1) + 1) + 1) + 1) + 1) + 1)) (nI tx))), (r 7, .inl ((cT 0), 1000, .inl (upd (upd (upd (upd (upd (upd (upd f 20 (79 &&& 255)) (20 + 1) ((nI 5 + 2) &&& 255)) ((20 + 1) + 1) (2 &&& 255)) (((20 + 1) + 1) + 1) (x &&& 255)) ((((20 + 1) + 1) + 1) + 1) (0 &&& 255)) (((((20 + 1) + 1) + 1) + 1) + 1) (5 &&& 255)) ((((((20 + 1) + 1) + 1) + 1) + 1) + 1) (1 &&& 255))))]) [0, 1] rfl
  have hDc := hD.sub (ws' := [(mo, .inr (12, mdF r z q 0 tm (nI (((((((20 + 1) + 1) + 1) + 1) + 1) + 1) + 1)) (nI tx))), (r 7, .inl ((cT 0), 1000, .inl (upd (upd (upd (upd (upd (upd (upd f 20 (79 &&& 255)) (20 + 1) ((nI 5 + 2) &&& 255)) ((20 + 1) + 1) (2 &&& 255)) (((20 + 1) + 1) + 1) (x &&& 255)) ((((20 + 1) + 1) + 1) + 1) (0 &&& 255)) (((((20 + 1) + 1) + 1) + 1) + 1) (5 &&& 255)) ((((((20 + 1) + 1) + 1) + 1) + 1) + 1) (1 &&& 255))))]) [0, 1] (by decide) rfl
  have hFc := va_free (wc := [(mo, .inr (12, mdF r z q 0 tm (nI (((((((20 + 1) + 1) + 1) + 1) + 1) + 1) + 1)) (nI tx))), (r 7, .inl ((cT 0), 1000, .inl (upd (upd (upd (upd (upd (upd (upd f 20 (79 &&& 255)) (20 + 1) ((nI 5 + 2) &&& 255)) ((20 + 1) + 1) (2 &&& 255)) (((20 + 1) + 1) + 1) (x &&& 255)) ((((20 + 1) + 1) + 1) + 1) (0 &&& 255)) (((((20 + 1) + 1) + 1) + 1) + 1) (5 &&& 255)) ((((((20 + 1) + 1) + 1) + 1) + 1) + 1) (1 &&& 255))))]) hD hS hA [0, 1] rfl
  refine va_calli (va_runV (C := "DoorServerModel") (As := []) (rest := []) ⟨hx, hb, hml, hown, hg⟩ (m_closes l dC dI cT H.size mo r z q 0 tm (((((((20 + 1) + 1) + 1) + 1) + 1) + 1) + 1) tx (upd (upd (upd (upd (upd (upd (upd f 20 (79 &&& 255)) (20 + 1) ((nI 5 + 2) &&& 255)) ((20 + 1) + 1) (2 &&& 255)) (((20 + 1) + 1) + 1) (x &&& 255)) ((((20 + 1) + 1) + 1) + 1) (0 &&& 255)) (((((20 + 1) + 1) + 1) + 1) + 1) (5 &&& 255)) ((((((20 + 1) + 1) + 1) + 1) + 1) + 1) (1 &&& 255)) ) (cwV 0 hg (gI (List.forall_mem_append.mpr ⟨List.forall_mem_cons.mpr ⟨k_1192, List.forall_mem_cons.mpr ⟨k_1194, List.forall_mem_cons.mpr ⟨(big_sel (q := y_Md_closes) (n := 45) (by decide +kernel)), List.forall_mem_cons.mpr ⟨k_13, fun _ h => absurd h List.not_mem_nil⟩⟩⟩⟩, List.forall_mem_cons.mpr ⟨k_1195, fun _ h => h⟩⟩)) rfl rfl rfl (by decide +kernel) ⟨Nat.le_of_ble_eq_true rfl, Nat.le_of_ble_eq_true rfl⟩) ⟨fun a U g mk q => by obtain ⟨q0, q1, qP, qK, qD⟩ := q; exact ⟨q0, q1, qP, va_K.moved (u := U) (U := U.calling g mk a) (Vm.Alike.refl U.vm) qK, qD⟩, va_recv (q0 := 0) (ci := 12) hK hP rfl rfl, fun U hU hW => ⟨rfl, by rw [hU], by rw [hU]; exact hPc, va_K.moved hW.alike hK, hDc.weaken (fun _ _ _ _ => trivial)⟩⟩ rfl rfl hl.1 rfl (lv_room (Nat.le_of_ble_eq_true rfl)) d_Md_hello_49 ⟨Nat.le_of_ble_eq_true rfl, Nat.le_of_ble_eq_true rfl⟩) hS (fun q _ h => hFc q h) hFc (fun rv9 u t H1 locs ht hvm hw hB hz1 hk1 hS => ?_)
  obtain ⟨g_92, rfl⟩ : ∃ z, z = u := ⟨_, rfl⟩
  try dsimp only at hw hB
  obtain ⟨hP1, hK1, hD1⟩ := hB
  rw [ht] at hP1
  obtain ⟨rfl, hw⟩ := hw
  obtain ⟨hP, hD⟩ := va_join (wr := []) (w1 := [(mo, .inr (12, mdF r z q 0 tm (nI (((((((20 + 1) + 1) + 1) + 1) + 1) + 1) + 1)) (nI tx))), (r 7, .inl ((cT 0), 1000, .inl g_92))]) hP hD [0, 1] [] rfl rfl (by decide) (by decide) hk1 hFc hP1 hD1
  have hw93 := hw
  clear hPc hDc hFc hz1 hk1 hP1 hK1 hD1
  generalize H1 = H at hP hS ⊢
  have hP : va_P (dC, dI) vcl [(mo, .inr (12, mdF r z q 0 tm (nI (((((((20 + 1) + 1) + 1) + 1) + 1) + 1) + 1)) (nI tx))), (r 7, .inl ((cT 0), 1000, .inl g_92))] H := hP
  have hD : va_D A [(mo, .inr (12, mdF r z q 0 tm (nI (((((((20 + 1) + 1) + 1) + 1) + 1) + 1) + 1)) (nI tx))), (r 7, .inl ((cT 0), 1000, .inl g_92))] := hD
  refine lv_topi (fun x95 e94 => ?_)
  obtain rfl : x95 = 27 := by rw [e94]; rfl
  -- world: (mo, .inr (12, mdF r z q 0 tm (nI (((((((20 + 1) + 1) + 1) + 1) + 1) + 1) + 1)) (nI tx))) for (mo, .inr (12, mdF r z q 0 tm (nI 27) (nI tx)))
  have hP9 := hP.sub (ws' := [(mo, .inr (12, mdF r z q 0 tm (nI (((((((20 + 1) + 1) + 1) + 1) + 1) + 1) + 1)) (nI tx)))]) [0] rfl
  have hD9 := hD.sub (ws' := [(mo, .inr (12, mdF r z q 0 tm (nI (((((((20 + 1) + 1) + 1) + 1) + 1) + 1) + 1)) (nI tx)))]) [0] (by decide) rfl
  exact W.iret (v := 27) hx hb hr (fun t ht hW => ⟨⟨_, (), rfl, ⟨rfl, trivial⟩, by rw [ht]; exact hP9, va_K.moved hW.alike hK, hD9⟩, hS.F ht⟩) hS.2.2 d_Md_hello_52
set_option maxHeartbeats 4000000 in
set_option maxRecDepth 100000 in
/-- reply -/
theorem o_reply (l : Launch) (dC : Nat → ClassId) (dI : Nat → Nat → Nat) (cT : Nat → ClassId) (sz : Nat) (mo : Nat) (r : Nat → Nat) (z : Nat → Int32) (q : Nat → Int64) (cd : Int32) (tm : Int32) (sn : Nat) (tx : Nat) (v : Int64) (k : Nat) (hz : z 14 = 0) (hk1 : 1 ≤ k) (hk2 : k ≤ 60) : Met l y_Md_reply (Cond.code y_Md_reply b_Md_reply 6 (Option.some Jvm.ClassFile.FieldType.int) :: BIG) ({ frames := 1, cells := 0, slots := 0, locals := 21 }) (va_Pc [.ref mo, .long v, .int (nI k)] (fun U => U.heap.size = sz ∧ va_P (dC, dI) vcl [(mo, .inr (12, mdF r z q cd tm (nI 20) (nI tx)))] U.heap ∧ va_K (dC, dI) vcl (tyL cT) U ∧ va_D (fun _ => True) [(mo, .inr (12, mdF r z q cd tm (nI 20) (nI tx)))])) (va_Qi (S := Unit) (fun rv9 u => rv9 = (-1) ∧ (True)) (fun u t => va_P (dC, dI) vcl [(mo, .inr (12, mdF r z q 0 tm (nI 20) (nI tx)))] t.heap ∧ va_K (dC, dI) vcl (tyL cT) t ∧ va_D (va_A [(mo, .inr (12, mdF r z q cd tm (nI 20) (nI tx)))] sz) [(mo, .inr (12, mdF r z q 0 tm (nI 20) (nI tx)))]) (va_A [(mo, .inr (12, mdF r z q cd tm (nI 20) (nI tx)))] sz)) 0 0 (va_A [(mo, .inr (12, mdF r z q cd tm (nI 20) (nI tx)))] sz) := by
  refine Met.ofW (cc := b_Md_reply) (maxL := 6) (ret := (Option.some Jvm.ClassFile.FieldType.int)) (by decide) rfl ?_
  intro p e s m args below meth c s₁ B hml hv
  obtain ⟨hargs, hsz, hP, hK, hD0⟩ := hv
  have hx := B.exec
  have hb := B.bytes
  have hr := B.returns
  have hts := atoms_spec (ws := (Cond.code y_Md_reply b_Md_reply 6 (Option.some Jvm.ClassFile.FieldType.int) :: BIG)) B.pre
  have hg : ∀ w ∈ BIG, w.before _ s = true := fun w h => hts w (List.mem_cons_of_mem _ h)
  have hown : s.vm.findClass "DoorServerModel" = some m.cls := findClass_of_methodNamed B.named
  have hlocks := B.notSynchronized
  subst hsz
  have hD := hD0.self (sz := s.heap.size)
  generalize hAe : va_A [(mo, .inr (12, mdF r z q cd tm (nI 20) (nI tx)))] s.heap.size = A at hD ⊢
  have hA : ∀ q : Nat, s.heap.size ≤ q → A q := fun q h => by rw [← hAe]; exact Or.inr h
  have hS : va_S A s.heap s.heap [] := va_S.rf
  have hl := lv_entry ([.ref mo, .long v, .int (nI k)]) (n := 6) (Nat.le_of_ble_eq_true rfl)
  refine W.eq (g2 := entryFrame m (List.toArray [.ref mo, .long v, .int (nI k)]) 6) (by rw [hargs]) ?_
  rw [lg_entry_eq]
  generalize (lg_sl ([.ref mo, .long v, .int (nI k)]) ++ List.replicate (6 - (lg_sl ([.ref mo, .long v, .int (nI k)])).length) Slot.unset).toArray = ls at hl ⊢
  have hl : lv_has ls 6 [(0, .ref mo), (1, .long v), (3, .int (nI k))] := hl
  change W p l e ({ frames := 1, cells := 0, slots := 0, locals := 21 } : Room) s m args below meth c s.heap [] 0 0 _ _
  have hP : va_P (dC, dI) vcl [(mo, .inr (12, mdF r z q cd tm (nI 20) (nI tx)))] s.heap := hP
  refine lv_aload_n hx hb d_Md_reply_0 rfl (lv_at hl 0 rfl) ?_
  refine lv_iload_n hx hb d_Md_reply_1 rfl (lv_at hl 2 rfl) ?_
  refine lv_iconst (v := 1) hx hb d_Md_reply_2 (by decide) ?_
  refine lv_icmp_lt (tgt := 16) hx hb d_Md_reply_3 (by decide) (fun hn9 => absurd hn9 (nI_nlt (b := 1) hk1 (by omega))) (fun hc96 => ?_)
  refine lv_iload_n hx hb d_Md_reply_6 rfl (lv_at hl 2 rfl) ?_
  refine lv_bipush (v := 60) hx hb d_Md_reply_7 (by decide) ?_
  refine lv_icmp_gt (tgt := 16) hx hb d_Md_reply_9 (by decide) (fun hn9 => absurd hn9 (nI_nlt (a := 60) hk2 (by decide))) (fun hc97 => ?_)
  refine lv_iconst (v := 1) hx hb d_Md_reply_12 (by decide) ?_
  refine lv_goto (tgt := 17) hx hb d_Md_reply_13 (by decide) ?_
  have hPc := hP.sub (ws' := [(mo, .inr (12, mdF r z q cd tm (nI 20) (nI tx)))]) [0] rfl
  have hDc := hD.sub (ws' := [(mo, .inr (12, mdF r z q cd tm (nI 20) (nI tx)))]) [0] (by decide) rfl
  have hFc := va_free (wc := [(mo, .inr (12, mdF r z q cd tm (nI 20) (nI tx)))]) hD hS hA [0] rfl
  refine va_calli (va_runV (C := "DoorServerModel") (As := [.int 1]) (rest := []) ⟨hx, hb, hml, hown, hg⟩ (m_goes1 l dC dI cT s.heap.size mo r z q cd tm 20 tx ) (cwV 1 hg (gI (List.forall_mem_append.mpr ⟨List.forall_mem_cons.mpr ⟨k_1165, List.forall_mem_cons.mpr ⟨k_1167, List.forall_mem_cons.mpr ⟨(big_sel (q := y_Md_goes) (n := 45) (by decide +kernel)), List.forall_mem_cons.mpr ⟨k_13, fun _ h => absurd h List.not_mem_nil⟩⟩⟩⟩, List.forall_mem_cons.mpr ⟨k_1168, fun _ h => h⟩⟩)) rfl rfl rfl (by decide +kernel) ⟨Nat.le_of_ble_eq_true rfl, Nat.le_of_ble_eq_true rfl⟩) ⟨fun a U g mk q => by obtain ⟨q0, q1, qP, qK, qD⟩ := q; exact ⟨q0, q1, qP, va_K.moved (u := U) (U := U.calling g mk a) (Vm.Alike.refl U.vm) qK, qD⟩, va_recv (q0 := 0) (ci := 12) hK hP rfl rfl, fun U hU hW => ⟨rfl, by rw [hU], by rw [hU]; exact hPc, va_K.moved hW.alike hK, hDc.weaken (fun _ _ _ _ => trivial)⟩⟩ rfl rfl hl.1 rfl (lv_room (Nat.le_of_ble_eq_true rfl)) d_Md_reply_17 ⟨Nat.le_of_ble_eq_true rfl, Nat.le_of_ble_eq_true rfl⟩) hS (fun q _ h => hFc q h) hFc (fun rv9 u t H1 locs ht hvm hw hB hz1 hk1 hS => ?_)
  try dsimp only at hw hB
  obtain ⟨hP1, hK1, hD1⟩ := hB
  rw [ht] at hP1
  obtain ⟨rfl, hw⟩ := hw
  obtain ⟨hP, hD⟩ := va_join (wr := []) (w1 := [(mo, .inr (12, mdF r z q 0 tm (nI 20) (nI tx)))]) hP hD [0] [] rfl rfl (by decide) (by decide) hk1 hFc hP1 hD1
  have hw98 := hw
  clear hPc hDc hFc hz1 hk1 hP1 hK1 hD1
  generalize H1 = H at hP hS ⊢
  have hP : va_P (dC, dI) vcl [(mo, .inr (12, mdF r z q 0 tm (nI 20) (nI tx)))] H := hP
  have hD : va_D A [(mo, .inr (12, mdF r z q 0 tm (nI 20) (nI tx)))] := hD
  refine lv_if_eq (tgt := 41) hx hb d_Md_reply_20 (by decide) (fun hn9 => absurd hn9 (by decide)) (fun hc99 => ?_)
  refine lv_aload_n hx hb d_Md_reply_23 rfl (lv_at hl 0 rfl) ?_
  refine va_get (D := (dC, dI)) (ci := 12) (v := (.int (z 14))) (C := R_Md) (T := F_Md) (N := 45) hx hb hg in_Md hown hK hP 0 rfl rfl 14 (by decide) (hg _ k_1034) (fun _ h9 => h9) rfl d_Md_reply_24 ?_
  refine lv_if_eq (tgt := 41) hx hb d_Md_reply_27 (by decide) (fun hc100 => ?_) (fun hn9 => absurd (hz) hn9)
  refine lv_aload_n hx hb d_Md_reply_41 rfl (lv_at hl 0 rfl) ?_
  refine va_get (D := (dC, dI)) (ci := 12) (v := (.int 0)) (C := R_Md) (T := F_Md) (N := 45) hx hb hg in_Md hown hK hP 0 rfl rfl 1 (by decide) (hg _ k_1021) (fun _ h9 => h9) rfl d_Md_reply_42 ?_
  refine lv_if_le (tgt := 52) hx hb d_Md_reply_45 (by decide) (fun hc101 => ?_) (fun hn9 => absurd (by decide) hn9)
  refine lv_iconst (v := (-1)) hx hb d_Md_reply_52 (by decide) ?_
  have hP9 := hP.sub (ws' := [(mo, .inr (12, mdF r z q 0 tm (nI 20) (nI tx)))]) [0] rfl
  have hD9 := hD.sub (ws' := [(mo, .inr (12, mdF r z q 0 tm (nI 20) (nI tx)))]) [0] (by decide) rfl
  exact W.iret (v := (-1)) hx hb hr (fun t ht hW => ⟨⟨_, (), rfl, ⟨rfl, trivial⟩, by rw [ht]; exact hP9, va_K.moved hW.alike hK, hD9⟩, hS.F ht⟩) hS.2.2 d_Md_reply_53
set_option maxHeartbeats 4000000 in
set_option maxRecDepth 100000 in
/-- size -/
theorem o_size (l : Launch) (dC : Nat → ClassId) (dI : Nat → Nat → Nat) (cT : Nat → ClassId) (sz : Nat) (mo : Nat) (r : Nat → Nat) (z : Nat → Int32) (q : Nat → Int64) (cd : Int32) (tm : Int32) (sn : Nat) (tx : Nat)  : Met l y_Md_size (Cond.code y_Md_size b_Md_size 1 (Option.some Jvm.ClassFile.FieldType.int) :: BIG) ({ frames := 0, cells := 0, slots := 0, locals := 0 }) (va_Pc [.ref mo] (fun U => U.heap.size = sz ∧ va_P (dC, dI) vcl [(mo, .inr (12, mdF r z q cd tm (nI 20) (nI tx)))] U.heap ∧ va_K (dC, dI) vcl (tyL cT) U ∧ va_D (fun _ => True) [(mo, .inr (12, mdF r z q cd tm (nI 20) (nI tx)))])) (va_Qi (S := Unit) (fun rv9 u => rv9 = z 14 ∧ (True)) (fun u t => va_P (dC, dI) vcl [(mo, .inr (12, mdF r z q 0 tm (nI 20) (nI tx)))] t.heap ∧ va_K (dC, dI) vcl (tyL cT) t ∧ va_D (va_A [(mo, .inr (12, mdF r z q cd tm (nI 20) (nI tx)))] sz) [(mo, .inr (12, mdF r z q 0 tm (nI 20) (nI tx)))]) (va_A [(mo, .inr (12, mdF r z q cd tm (nI 20) (nI tx)))] sz)) 0 0 (va_A [(mo, .inr (12, mdF r z q cd tm (nI 20) (nI tx)))] sz) := by
  refine Met.ofW (cc := b_Md_size) (maxL := 1) (ret := (Option.some Jvm.ClassFile.FieldType.int)) (by decide) rfl ?_
  intro p e s m args below meth c s₁ B hml hv
  obtain ⟨hargs, hsz, hP, hK, hD0⟩ := hv
  have hx := B.exec
  have hb := B.bytes
  have hr := B.returns
  have hts := atoms_spec (ws := (Cond.code y_Md_size b_Md_size 1 (Option.some Jvm.ClassFile.FieldType.int) :: BIG)) B.pre
  have hg : ∀ w ∈ BIG, w.before _ s = true := fun w h => hts w (List.mem_cons_of_mem _ h)
  have hown : s.vm.findClass "DoorServerModel" = some m.cls := findClass_of_methodNamed B.named
  have hlocks := B.notSynchronized
  subst hsz
  have hD := hD0.self (sz := s.heap.size)
  generalize hAe : va_A [(mo, .inr (12, mdF r z q cd tm (nI 20) (nI tx)))] s.heap.size = A at hD ⊢
  have hA : ∀ q : Nat, s.heap.size ≤ q → A q := fun q h => by rw [← hAe]; exact Or.inr h
  have hS : va_S A s.heap s.heap [] := va_S.rf
  have hl := lv_entry ([.ref mo]) (n := 1) (Nat.le_of_ble_eq_true rfl)
  refine W.eq (g2 := entryFrame m (List.toArray [.ref mo]) 1) (by rw [hargs]) ?_
  rw [lg_entry_eq]
  generalize (lg_sl ([.ref mo]) ++ List.replicate (1 - (lg_sl ([.ref mo])).length) Slot.unset).toArray = ls at hl ⊢
  have hl : lv_has ls 1 [(0, .ref mo)] := hl
  change W p l e ({ frames := 0, cells := 0, slots := 0, locals := 0 } : Room) s m args below meth c s.heap [] 0 0 _ _
  have hP : va_P (dC, dI) vcl [(mo, .inr (12, mdF r z q cd tm (nI 20) (nI tx)))] s.heap := hP
  refine lv_aload_n hx hb d_Md_size_0 rfl (lv_at hl 0 rfl) ?_
  refine lv_iconst (v := 0) hx hb d_Md_size_1 (by decide) ?_
  refine va_put (D := (dC, dI)) (ci := 12) (v := (.int 0)) (ty := .int) (C := R_Md) (T := F_Md) (N := 45) hx hb hg in_Md t_Md tok_Md nm_Md hown hK hP hD hS 0 rfl rfl 1 (by decide) (hg _ k_1021) (fun _ h9 => h9) rfl (by decide +kernel) rfl rfl (Nat.le_of_ble_eq_true rfl) d_Md_size_2 (fun H locs hP hD hS => ?_)
  have hP : va_P (dC, dI) vcl [(mo, .inr (12, mdF r z q 0 tm (nI 20) (nI tx)))] H := hP
  have hD : va_D A [(mo, .inr (12, mdF r z q 0 tm (nI 20) (nI tx)))] := hD
  refine lv_aload_n hx hb d_Md_size_5 rfl (lv_at hl 0 rfl) ?_
  refine va_get (D := (dC, dI)) (ci := 12) (v := (.int (z 14))) (C := R_Md) (T := F_Md) (N := 45) hx hb hg in_Md hown hK hP 0 rfl rfl 14 (by decide) (hg _ k_1034) (fun _ h9 => h9) rfl d_Md_size_6 ?_
  have hP9 := hP.sub (ws' := [(mo, .inr (12, mdF r z q 0 tm (nI 20) (nI tx)))]) [0] rfl
  have hD9 := hD.sub (ws' := [(mo, .inr (12, mdF r z q 0 tm (nI 20) (nI tx)))]) [0] (by decide) rfl
  exact W.iret (v := z 14) hx hb hr (fun t ht hW => ⟨⟨_, (), rfl, ⟨rfl, trivial⟩, by rw [ht]; exact hP9, va_K.moved hW.alike hK, hD9⟩, hS.F ht⟩) hS.2.2 d_Md_size_9
set_option maxHeartbeats 4000000 in
set_option maxRecDepth 100000 in
/-- ticks -/
theorem o_ticks (l : Launch) (dC : Nat → ClassId) (dI : Nat → Nat → Nat) (cT : Nat → ClassId) (sz : Nat) (mo : Nat) (r : Nat → Nat) (z : Nat → Int32) (q : Nat → Int64) (cd : Int32) (tm : Int32) (sn : Nat) (tx : Nat) (k : Nat) (hk1 : 1 ≤ k) (hk2 : k ≤ 1000) : Met l y_Md_ticks (Cond.code y_Md_ticks b_Md_ticks 2 (Option.some Jvm.ClassFile.FieldType.int) :: BIG) ({ frames := 1, cells := 0, slots := 0, locals := 21 }) (va_Pc [.ref mo, .int (nI k)] (fun U => U.heap.size = sz ∧ va_P (dC, dI) vcl [(mo, .inr (12, mdF r z q cd 0 (nI 20) (nI tx)))] U.heap ∧ va_K (dC, dI) vcl (tyL cT) U ∧ va_D (fun _ => True) [(mo, .inr (12, mdF r z q cd 0 (nI 20) (nI tx)))])) (va_Qi (S := Unit) (fun rv9 u => rv9 = nI k ∧ (True)) (fun u t => va_P (dC, dI) vcl [(mo, .inr (12, mdF r z q 0 (nI k) (nI 20) (nI tx)))] t.heap ∧ va_K (dC, dI) vcl (tyL cT) t ∧ va_D (va_A [(mo, .inr (12, mdF r z q cd 0 (nI 20) (nI tx)))] sz) [(mo, .inr (12, mdF r z q 0 (nI k) (nI 20) (nI tx)))]) (va_A [(mo, .inr (12, mdF r z q cd 0 (nI 20) (nI tx)))] sz)) 0 0 (va_A [(mo, .inr (12, mdF r z q cd 0 (nI 20) (nI tx)))] sz) := by
  refine Met.ofW (cc := b_Md_ticks) (maxL := 2) (ret := (Option.some Jvm.ClassFile.FieldType.int)) (by decide) rfl ?_
  intro p e s m args below meth c s₁ B hml hv
  obtain ⟨hargs, hsz, hP, hK, hD0⟩ := hv
  have hx := B.exec
  have hb := B.bytes
  have hr := B.returns
  have hts := atoms_spec (ws := (Cond.code y_Md_ticks b_Md_ticks 2 (Option.some Jvm.ClassFile.FieldType.int) :: BIG)) B.pre
  have hg : ∀ w ∈ BIG, w.before _ s = true := fun w h => hts w (List.mem_cons_of_mem _ h)
  have hown : s.vm.findClass "DoorServerModel" = some m.cls := findClass_of_methodNamed B.named
  have hlocks := B.notSynchronized
  subst hsz
  have hD := hD0.self (sz := s.heap.size)
  generalize hAe : va_A [(mo, .inr (12, mdF r z q cd 0 (nI 20) (nI tx)))] s.heap.size = A at hD ⊢
  have hA : ∀ q : Nat, s.heap.size ≤ q → A q := fun q h => by rw [← hAe]; exact Or.inr h
  have hS : va_S A s.heap s.heap [] := va_S.rf
  have hl := lv_entry ([.ref mo, .int (nI k)]) (n := 2) (Nat.le_of_ble_eq_true rfl)
  refine W.eq (g2 := entryFrame m (List.toArray [.ref mo, .int (nI k)]) 2) (by rw [hargs]) ?_
  rw [lg_entry_eq]
  generalize (lg_sl ([.ref mo, .int (nI k)]) ++ List.replicate (2 - (lg_sl ([.ref mo, .int (nI k)])).length) Slot.unset).toArray = ls at hl ⊢
  have hl : lv_has ls 2 [(0, .ref mo), (1, .int (nI k))] := hl
  change W p l e ({ frames := 1, cells := 0, slots := 0, locals := 21 } : Room) s m args below meth c s.heap [] 0 0 _ _
  have hP : va_P (dC, dI) vcl [(mo, .inr (12, mdF r z q cd 0 (nI 20) (nI tx)))] s.heap := hP
  refine lv_aload_n hx hb d_Md_ticks_0 rfl (lv_at hl 0 rfl) ?_
  refine lv_iload_n hx hb d_Md_ticks_1 rfl (lv_at hl 1 rfl) ?_
  refine lv_iconst (v := 1) hx hb d_Md_ticks_2 (by decide) ?_
  refine lv_icmp_lt (tgt := 29) hx hb d_Md_ticks_3 (by decide) (fun hn9 => absurd hn9 (nI_nlt (b := 1) hk1 (by omega))) (fun hc102 => ?_)
  refine lv_iload_n hx hb d_Md_ticks_6 rfl (lv_at hl 1 rfl) ?_
  refine lv_sipush (v := 1000) hx hb d_Md_ticks_7 (by decide) ?_
  refine lv_icmp_gt (tgt := 29) hx hb d_Md_ticks_10 (by decide) (fun hn9 => absurd hn9 (nI_nlt (a := 1000) hk2 (by decide))) (fun hc103 => ?_)
  refine lv_aload_n hx hb d_Md_ticks_13 rfl (lv_at hl 0 rfl) ?_
  refine va_get (D := (dC, dI)) (ci := 12) (v := (.int 0)) (C := R_Md) (T := F_Md) (N := 45) hx hb hg in_Md hown hK hP 0 rfl rfl 2 (by decide) (hg _ k_1022) (fun _ h9 => h9) rfl d_Md_ticks_14 ?_
  refine lv_iload_n hx hb d_Md_ticks_17 rfl (lv_at hl 1 rfl) ?_
  refine lv_iadd hx hb d_Md_ticks_18 ?_
  refine lv_topi (fun x105 e104 => ?_)
  obtain rfl : x105 = nI k := by rw [e104]; exact (nI_add 0 k).trans (by rw [Nat.zero_add])
  refine lv_ldcw (v := 1000000) hx hb hown (hg _ k_1405) d_Md_ticks_19 ?_
  refine lv_icmp_gt (tgt := 29) hx hb d_Md_ticks_22 (by decide) (fun hn9 => absurd hn9 (nI_nlt (a := 1000000) (by omega) (by decide))) (fun hc106 => ?_)
  refine lv_iconst (v := 1) hx hb d_Md_ticks_25 (by decide) ?_
  refine lv_goto (tgt := 30) hx hb d_Md_ticks_26 (by decide) ?_
  have hPc := hP.sub (ws' := [(mo, .inr (12, mdF r z q cd 0 (nI 20) (nI tx)))]) [0] rfl
  have hDc := hD.sub (ws' := [(mo, .inr (12, mdF r z q cd 0 (nI 20) (nI tx)))]) [0] (by decide) rfl
  have hFc := va_free (wc := [(mo, .inr (12, mdF r z q cd 0 (nI 20) (nI tx)))]) hD hS hA [0] rfl
  refine va_calli (va_runV (C := "DoorServerModel") (As := [.int 1]) (rest := []) ⟨hx, hb, hml, hown, hg⟩ (m_goes1 l dC dI cT s.heap.size mo r z q cd 0 20 tx ) (cwV 1 hg (gI (List.forall_mem_append.mpr ⟨List.forall_mem_cons.mpr ⟨k_1165, List.forall_mem_cons.mpr ⟨k_1167, List.forall_mem_cons.mpr ⟨(big_sel (q := y_Md_goes) (n := 45) (by decide +kernel)), List.forall_mem_cons.mpr ⟨k_13, fun _ h => absurd h List.not_mem_nil⟩⟩⟩⟩, List.forall_mem_cons.mpr ⟨k_1168, fun _ h => h⟩⟩)) rfl rfl rfl (by decide +kernel) ⟨Nat.le_of_ble_eq_true rfl, Nat.le_of_ble_eq_true rfl⟩) ⟨fun a U g mk q => by obtain ⟨q0, q1, qP, qK, qD⟩ := q; exact ⟨q0, q1, qP, va_K.moved (u := U) (U := U.calling g mk a) (Vm.Alike.refl U.vm) qK, qD⟩, va_recv (q0 := 0) (ci := 12) hK hP rfl rfl, fun U hU hW => ⟨rfl, by rw [hU], by rw [hU]; exact hPc, va_K.moved hW.alike hK, hDc.weaken (fun _ _ _ _ => trivial)⟩⟩ rfl rfl hl.1 rfl (lv_room (Nat.le_of_ble_eq_true rfl)) d_Md_ticks_30 ⟨Nat.le_of_ble_eq_true rfl, Nat.le_of_ble_eq_true rfl⟩) hS (fun q _ h => hFc q h) hFc (fun rv9 u t H1 locs ht hvm hw hB hz1 hk1 hS => ?_)
  try dsimp only at hw hB
  obtain ⟨hP1, hK1, hD1⟩ := hB
  rw [ht] at hP1
  obtain ⟨rfl, hw⟩ := hw
  obtain ⟨hP, hD⟩ := va_join (wr := []) (w1 := [(mo, .inr (12, mdF r z q 0 0 (nI 20) (nI tx)))]) hP hD [0] [] rfl rfl (by decide) (by decide) hk1 hFc hP1 hD1
  have hw107 := hw
  clear hPc hDc hFc hz1 hk1 hP1 hK1 hD1
  generalize H1 = H at hP hS ⊢
  have hP : va_P (dC, dI) vcl [(mo, .inr (12, mdF r z q 0 0 (nI 20) (nI tx)))] H := hP
  have hD : va_D A [(mo, .inr (12, mdF r z q 0 0 (nI 20) (nI tx)))] := hD
  refine lv_if_ne (tgt := 38) hx hb d_Md_ticks_33 (by decide) (fun hc108 => ?_) (fun hn9 => absurd hn9 (by decide))
  refine lv_aload_n hx hb d_Md_ticks_38 rfl (lv_at hl 0 rfl) ?_
  refine lv_dup hx hb d_Md_ticks_39 rfl ?_
  refine va_get (D := (dC, dI)) (ci := 12) (v := (.int 0)) (C := R_Md) (T := F_Md) (N := 45) hx hb hg in_Md hown hK hP 0 rfl rfl 2 (by decide) (hg _ k_1022) (fun _ h9 => h9) rfl d_Md_ticks_40 ?_
  refine lv_iload_n hx hb d_Md_ticks_43 rfl (lv_at hl 1 rfl) ?_
  refine lv_iadd hx hb d_Md_ticks_44 ?_
  refine lv_topi (fun x110 e109 => ?_)
  obtain rfl : x110 = nI k := by rw [e109]; exact (nI_add 0 k).trans (by rw [Nat.zero_add])
  refine va_put (D := (dC, dI)) (ci := 12) (v := (.int (nI k))) (ty := .int) (C := R_Md) (T := F_Md) (N := 45) hx hb hg in_Md t_Md tok_Md nm_Md hown hK hP hD hS 0 rfl rfl 2 (by decide) (hg _ k_1022) (fun _ h9 => h9) rfl (by decide +kernel) rfl rfl (Nat.le_of_ble_eq_true rfl) d_Md_ticks_45 (fun H locs hP hD hS => ?_)
  have hP : va_P (dC, dI) vcl [(mo, .inr (12, mdF r z q 0 (nI k) (nI 20) (nI tx)))] H := hP
  have hD : va_D A [(mo, .inr (12, mdF r z q 0 (nI k) (nI 20) (nI tx)))] := hD
  refine lv_aload_n hx hb d_Md_ticks_48 rfl (lv_at hl 0 rfl) ?_
  refine va_get (D := (dC, dI)) (ci := 12) (v := (.int (nI k))) (C := R_Md) (T := F_Md) (N := 45) hx hb hg in_Md hown hK hP 0 rfl rfl 2 (by decide) (hg _ k_1022) (fun _ h9 => h9) rfl d_Md_ticks_49 ?_
  have hP9 := hP.sub (ws' := [(mo, .inr (12, mdF r z q 0 (nI k) (nI 20) (nI tx)))]) [0] rfl
  have hD9 := hD.sub (ws' := [(mo, .inr (12, mdF r z q 0 (nI k) (nI 20) (nI tx)))]) [0] (by decide) rfl
  exact W.iret (v := nI k) hx hb hr (fun t ht hW => ⟨⟨_, (), rfl, ⟨rfl, trivial⟩, by rw [ht]; exact hP9, va_K.moved hW.alike hK, hD9⟩, hS.F ht⟩) hS.2.2 d_Md_ticks_52
set_option maxHeartbeats 4000000 in
set_option maxRecDepth 100000 in
/-- count(0) -/
theorem o_count0 (l : Launch) (dC : Nat → ClassId) (dI : Nat → Nat → Nat) (cT : Nat → ClassId) (sz : Nat) (mo : Nat) (r : Nat → Nat) (z : Nat → Int32) (q : Nat → Int64) (cd : Int32) (tm : Int32) (sn : Nat) (tx : Nat)  : Met l y_Md_count (Cond.code y_Md_count b_Md_count 2 (Option.some Jvm.ClassFile.FieldType.int) :: BIG) ({ frames := 1, cells := 0, slots := 0, locals := 21 }) (va_Pc [.ref mo, .int 0] (fun U => U.heap.size = sz ∧ va_P (dC, dI) vcl [(mo, .inr (12, mdF r z q cd tm (nI 20) (nI tx)))] U.heap ∧ va_K (dC, dI) vcl (tyL cT) U ∧ va_D (fun _ => True) [(mo, .inr (12, mdF r z q cd tm (nI 20) (nI tx)))])) (va_Qi (S := Unit) (fun rv9 u => rv9 = z 17 ∧ (True)) (fun u t => va_P (dC, dI) vcl [(mo, .inr (12, mdF r z q 0 tm (nI 20) (nI tx)))] t.heap ∧ va_K (dC, dI) vcl (tyL cT) t ∧ va_D (va_A [(mo, .inr (12, mdF r z q cd tm (nI 20) (nI tx)))] sz) [(mo, .inr (12, mdF r z q 0 tm (nI 20) (nI tx)))]) (va_A [(mo, .inr (12, mdF r z q cd tm (nI 20) (nI tx)))] sz)) 0 0 (va_A [(mo, .inr (12, mdF r z q cd tm (nI 20) (nI tx)))] sz) := by
  refine Met.ofW (cc := b_Md_count) (maxL := 2) (ret := (Option.some Jvm.ClassFile.FieldType.int)) (by decide) rfl ?_
  intro p e s m args below meth c s₁ B hml hv
  obtain ⟨hargs, hsz, hP, hK, hD0⟩ := hv
  have hx := B.exec
  have hb := B.bytes
  have hr := B.returns
  have hts := atoms_spec (ws := (Cond.code y_Md_count b_Md_count 2 (Option.some Jvm.ClassFile.FieldType.int) :: BIG)) B.pre
  have hg : ∀ w ∈ BIG, w.before _ s = true := fun w h => hts w (List.mem_cons_of_mem _ h)
  have hown : s.vm.findClass "DoorServerModel" = some m.cls := findClass_of_methodNamed B.named
  have hlocks := B.notSynchronized
  subst hsz
  have hD := hD0.self (sz := s.heap.size)
  generalize hAe : va_A [(mo, .inr (12, mdF r z q cd tm (nI 20) (nI tx)))] s.heap.size = A at hD ⊢
  have hA : ∀ q : Nat, s.heap.size ≤ q → A q := fun q h => by rw [← hAe]; exact Or.inr h
  have hS : va_S A s.heap s.heap [] := va_S.rf
  have hl := lv_entry ([.ref mo, .int 0]) (n := 2) (Nat.le_of_ble_eq_true rfl)
  refine W.eq (g2 := entryFrame m (List.toArray [.ref mo, .int 0]) 2) (by rw [hargs]) ?_
  rw [lg_entry_eq]
  generalize (lg_sl ([.ref mo, .int 0]) ++ List.replicate (2 - (lg_sl ([.ref mo, .int 0])).length) Slot.unset).toArray = ls at hl ⊢
  have hl : lv_has ls 2 [(0, .ref mo), (1, .int 0)] := hl
  change W p l e ({ frames := 1, cells := 0, slots := 0, locals := 21 } : Room) s m args below meth c s.heap [] 0 0 _ _
  have hP : va_P (dC, dI) vcl [(mo, .inr (12, mdF r z q cd tm (nI 20) (nI tx)))] s.heap := hP
  refine lv_aload_n hx hb d_Md_count_0 rfl (lv_at hl 0 rfl) ?_
  refine lv_iload_n hx hb d_Md_count_1 rfl (lv_at hl 1 rfl) ?_
  refine lv_if_lt (tgt := 14) hx hb d_Md_count_2 (by decide) (fun hn9 => absurd hn9 (by decide)) (fun hc111 => ?_)
  refine lv_iload_n hx hb d_Md_count_5 rfl (lv_at hl 1 rfl) ?_
  refine lv_iconst (v := 5) hx hb d_Md_count_6 (by decide) ?_
  refine lv_icmp_gt (tgt := 14) hx hb d_Md_count_7 (by decide) (fun hn9 => absurd hn9 (by decide)) (fun hc112 => ?_)
  refine lv_iconst (v := 1) hx hb d_Md_count_10 (by decide) ?_
  refine lv_goto (tgt := 15) hx hb d_Md_count_11 (by decide) ?_
  have hPc := hP.sub (ws' := [(mo, .inr (12, mdF r z q cd tm (nI 20) (nI tx)))]) [0] rfl
  have hDc := hD.sub (ws' := [(mo, .inr (12, mdF r z q cd tm (nI 20) (nI tx)))]) [0] (by decide) rfl
  have hFc := va_free (wc := [(mo, .inr (12, mdF r z q cd tm (nI 20) (nI tx)))]) hD hS hA [0] rfl
  refine va_calli (va_runV (C := "DoorServerModel") (As := [.int 1]) (rest := []) ⟨hx, hb, hml, hown, hg⟩ (m_goes1 l dC dI cT s.heap.size mo r z q cd tm 20 tx ) (cwV 1 hg (gI (List.forall_mem_append.mpr ⟨List.forall_mem_cons.mpr ⟨k_1165, List.forall_mem_cons.mpr ⟨k_1167, List.forall_mem_cons.mpr ⟨(big_sel (q := y_Md_goes) (n := 45) (by decide +kernel)), List.forall_mem_cons.mpr ⟨k_13, fun _ h => absurd h List.not_mem_nil⟩⟩⟩⟩, List.forall_mem_cons.mpr ⟨k_1168, fun _ h => h⟩⟩)) rfl rfl rfl (by decide +kernel) ⟨Nat.le_of_ble_eq_true rfl, Nat.le_of_ble_eq_true rfl⟩) ⟨fun a U g mk q => by obtain ⟨q0, q1, qP, qK, qD⟩ := q; exact ⟨q0, q1, qP, va_K.moved (u := U) (U := U.calling g mk a) (Vm.Alike.refl U.vm) qK, qD⟩, va_recv (q0 := 0) (ci := 12) hK hP rfl rfl, fun U hU hW => ⟨rfl, by rw [hU], by rw [hU]; exact hPc, va_K.moved hW.alike hK, hDc.weaken (fun _ _ _ _ => trivial)⟩⟩ rfl rfl hl.1 rfl (lv_room (Nat.le_of_ble_eq_true rfl)) d_Md_count_15 ⟨Nat.le_of_ble_eq_true rfl, Nat.le_of_ble_eq_true rfl⟩) hS (fun q _ h => hFc q h) hFc (fun rv9 u t H1 locs ht hvm hw hB hz1 hk1 hS => ?_)
  try dsimp only at hw hB
  obtain ⟨hP1, hK1, hD1⟩ := hB
  rw [ht] at hP1
  obtain ⟨rfl, hw⟩ := hw
  obtain ⟨hP, hD⟩ := va_join (wr := []) (w1 := [(mo, .inr (12, mdF r z q 0 tm (nI 20) (nI tx)))]) hP hD [0] [] rfl rfl (by decide) (by decide) hk1 hFc hP1 hD1
  have hw113 := hw
  clear hPc hDc hFc hz1 hk1 hP1 hK1 hD1
  generalize H1 = H at hP hS ⊢
  have hP : va_P (dC, dI) vcl [(mo, .inr (12, mdF r z q 0 tm (nI 20) (nI tx)))] H := hP
  have hD : va_D A [(mo, .inr (12, mdF r z q 0 tm (nI 20) (nI tx)))] := hD
  refine lv_if_ne (tgt := 23) hx hb d_Md_count_18 (by decide) (fun hc114 => ?_) (fun hn9 => absurd hn9 (by decide))
  refine lv_iload_n hx hb d_Md_count_23 rfl (lv_at hl 1 rfl) ?_
  refine lv_if_ne (tgt := 34) hx hb d_Md_count_24 (by decide) (fun hn9 => absurd hn9 (by decide)) (fun hc115 => ?_)
  refine lv_aload_n hx hb d_Md_count_27 rfl (lv_at hl 0 rfl) ?_
  refine va_get (D := (dC, dI)) (ci := 12) (v := (.int (z 17))) (C := R_Md) (T := F_Md) (N := 45) hx hb hg in_Md hown hK hP 0 rfl rfl 17 (by decide) (hg _ k_1037) (fun _ h9 => h9) rfl d_Md_count_28 ?_
  refine lv_goto (tgt := 86) hx hb d_Md_count_31 (by decide) ?_
  have hP9 := hP.sub (ws' := [(mo, .inr (12, mdF r z q 0 tm (nI 20) (nI tx)))]) [0] rfl
  have hD9 := hD.sub (ws' := [(mo, .inr (12, mdF r z q 0 tm (nI 20) (nI tx)))]) [0] (by decide) rfl
  exact W.iret (v := z 17) hx hb hr (fun t ht hW => ⟨⟨_, (), rfl, ⟨rfl, trivial⟩, by rw [ht]; exact hP9, va_K.moved hW.alike hK, hD9⟩, hS.F ht⟩) hS.2.2 d_Md_count_86
set_option maxHeartbeats 4000000 in
set_option maxRecDepth 100000 in
/-- count(1) -/
theorem o_count1 (l : Launch) (dC : Nat → ClassId) (dI : Nat → Nat → Nat) (cT : Nat → ClassId) (sz : Nat) (mo : Nat) (r : Nat → Nat) (z : Nat → Int32) (q : Nat → Int64) (cd : Int32) (tm : Int32) (sn : Nat) (tx : Nat)  : Met l y_Md_count (Cond.code y_Md_count b_Md_count 2 (Option.some Jvm.ClassFile.FieldType.int) :: BIG) ({ frames := 1, cells := 0, slots := 0, locals := 21 }) (va_Pc [.ref mo, .int 1] (fun U => U.heap.size = sz ∧ va_P (dC, dI) vcl [(mo, .inr (12, mdF r z q cd tm (nI 20) (nI tx)))] U.heap ∧ va_K (dC, dI) vcl (tyL cT) U ∧ va_D (fun _ => True) [(mo, .inr (12, mdF r z q cd tm (nI 20) (nI tx)))])) (va_Qi (S := Unit) (fun rv9 u => rv9 = z 24 ∧ (True)) (fun u t => va_P (dC, dI) vcl [(mo, .inr (12, mdF r z q 0 tm (nI 20) (nI tx)))] t.heap ∧ va_K (dC, dI) vcl (tyL cT) t ∧ va_D (va_A [(mo, .inr (12, mdF r z q cd tm (nI 20) (nI tx)))] sz) [(mo, .inr (12, mdF r z q 0 tm (nI 20) (nI tx)))]) (va_A [(mo, .inr (12, mdF r z q cd tm (nI 20) (nI tx)))] sz)) 0 0 (va_A [(mo, .inr (12, mdF r z q cd tm (nI 20) (nI tx)))] sz) := by
  refine Met.ofW (cc := b_Md_count) (maxL := 2) (ret := (Option.some Jvm.ClassFile.FieldType.int)) (by decide) rfl ?_
  intro p e s m args below meth c s₁ B hml hv
  obtain ⟨hargs, hsz, hP, hK, hD0⟩ := hv
  have hx := B.exec
  have hb := B.bytes
  have hr := B.returns
  have hts := atoms_spec (ws := (Cond.code y_Md_count b_Md_count 2 (Option.some Jvm.ClassFile.FieldType.int) :: BIG)) B.pre
  have hg : ∀ w ∈ BIG, w.before _ s = true := fun w h => hts w (List.mem_cons_of_mem _ h)
  have hown : s.vm.findClass "DoorServerModel" = some m.cls := findClass_of_methodNamed B.named
  have hlocks := B.notSynchronized
  subst hsz
  have hD := hD0.self (sz := s.heap.size)
  generalize hAe : va_A [(mo, .inr (12, mdF r z q cd tm (nI 20) (nI tx)))] s.heap.size = A at hD ⊢
  have hA : ∀ q : Nat, s.heap.size ≤ q → A q := fun q h => by rw [← hAe]; exact Or.inr h
  have hS : va_S A s.heap s.heap [] := va_S.rf
  have hl := lv_entry ([.ref mo, .int 1]) (n := 2) (Nat.le_of_ble_eq_true rfl)
  refine W.eq (g2 := entryFrame m (List.toArray [.ref mo, .int 1]) 2) (by rw [hargs]) ?_
  rw [lg_entry_eq]
  generalize (lg_sl ([.ref mo, .int 1]) ++ List.replicate (2 - (lg_sl ([.ref mo, .int 1])).length) Slot.unset).toArray = ls at hl ⊢
  have hl : lv_has ls 2 [(0, .ref mo), (1, .int 1)] := hl
  change W p l e ({ frames := 1, cells := 0, slots := 0, locals := 21 } : Room) s m args below meth c s.heap [] 0 0 _ _
  have hP : va_P (dC, dI) vcl [(mo, .inr (12, mdF r z q cd tm (nI 20) (nI tx)))] s.heap := hP
  refine lv_aload_n hx hb d_Md_count_0 rfl (lv_at hl 0 rfl) ?_
  refine lv_iload_n hx hb d_Md_count_1 rfl (lv_at hl 1 rfl) ?_
  refine lv_if_lt (tgt := 14) hx hb d_Md_count_2 (by decide) (fun hn9 => absurd hn9 (by decide)) (fun hc116 => ?_)
  refine lv_iload_n hx hb d_Md_count_5 rfl (lv_at hl 1 rfl) ?_
  refine lv_iconst (v := 5) hx hb d_Md_count_6 (by decide) ?_
  refine lv_icmp_gt (tgt := 14) hx hb d_Md_count_7 (by decide) (fun hn9 => absurd hn9 (by decide)) (fun hc117 => ?_)
  refine lv_iconst (v := 1) hx hb d_Md_count_10 (by decide) ?_
  refine lv_goto (tgt := 15) hx hb d_Md_count_11 (by decide) ?_
  have hPc := hP.sub (ws' := [(mo, .inr (12, mdF r z q cd tm (nI 20) (nI tx)))]) [0] rfl
  have hDc := hD.sub (ws' := [(mo, .inr (12, mdF r z q cd tm (nI 20) (nI tx)))]) [0] (by decide) rfl
  have hFc := va_free (wc := [(mo, .inr (12, mdF r z q cd tm (nI 20) (nI tx)))]) hD hS hA [0] rfl
  refine va_calli (va_runV (C := "DoorServerModel") (As := [.int 1]) (rest := []) ⟨hx, hb, hml, hown, hg⟩ (m_goes1 l dC dI cT s.heap.size mo r z q cd tm 20 tx ) (cwV 1 hg (gI (List.forall_mem_append.mpr ⟨List.forall_mem_cons.mpr ⟨k_1165, List.forall_mem_cons.mpr ⟨k_1167, List.forall_mem_cons.mpr ⟨(big_sel (q := y_Md_goes) (n := 45) (by decide +kernel)), List.forall_mem_cons.mpr ⟨k_13, fun _ h => absurd h List.not_mem_nil⟩⟩⟩⟩, List.forall_mem_cons.mpr ⟨k_1168, fun _ h => h⟩⟩)) rfl rfl rfl (by decide +kernel) ⟨Nat.le_of_ble_eq_true rfl, Nat.le_of_ble_eq_true rfl⟩) ⟨fun a U g mk q => by obtain ⟨q0, q1, qP, qK, qD⟩ := q; exact ⟨q0, q1, qP, va_K.moved (u := U) (U := U.calling g mk a) (Vm.Alike.refl U.vm) qK, qD⟩, va_recv (q0 := 0) (ci := 12) hK hP rfl rfl, fun U hU hW => ⟨rfl, by rw [hU], by rw [hU]; exact hPc, va_K.moved hW.alike hK, hDc.weaken (fun _ _ _ _ => trivial)⟩⟩ rfl rfl hl.1 rfl (lv_room (Nat.le_of_ble_eq_true rfl)) d_Md_count_15 ⟨Nat.le_of_ble_eq_true rfl, Nat.le_of_ble_eq_true rfl⟩) hS (fun q _ h => hFc q h) hFc (fun rv9 u t H1 locs ht hvm hw hB hz1 hk1 hS => ?_)
  try dsimp only at hw hB
  obtain ⟨hP1, hK1, hD1⟩ := hB
  rw [ht] at hP1
  obtain ⟨rfl, hw⟩ := hw
  obtain ⟨hP, hD⟩ := va_join (wr := []) (w1 := [(mo, .inr (12, mdF r z q 0 tm (nI 20) (nI tx)))]) hP hD [0] [] rfl rfl (by decide) (by decide) hk1 hFc hP1 hD1
  have hw118 := hw
  clear hPc hDc hFc hz1 hk1 hP1 hK1 hD1
  generalize H1 = H at hP hS ⊢
  have hP : va_P (dC, dI) vcl [(mo, .inr (12, mdF r z q 0 tm (nI 20) (nI tx)))] H := hP
  have hD : va_D A [(mo, .inr (12, mdF r z q 0 tm (nI 20) (nI tx)))] := hD
  refine lv_if_ne (tgt := 23) hx hb d_Md_count_18 (by decide) (fun hc119 => ?_) (fun hn9 => absurd hn9 (by decide))
  refine lv_iload_n hx hb d_Md_count_23 rfl (lv_at hl 1 rfl) ?_
  refine lv_if_ne (tgt := 34) hx hb d_Md_count_24 (by decide) (fun hc120 => ?_) (fun hn9 => absurd hn9 (by decide))
  refine lv_iload_n hx hb d_Md_count_34 rfl (lv_at hl 1 rfl) ?_
  refine lv_iconst (v := 1) hx hb d_Md_count_35 (by decide) ?_
  refine lv_icmp_ne (tgt := 46) hx hb d_Md_count_36 (by decide) (fun hn9 => absurd hn9 (by decide)) (fun hc121 => ?_)
  refine lv_aload_n hx hb d_Md_count_39 rfl (lv_at hl 0 rfl) ?_
  refine va_get (D := (dC, dI)) (ci := 12) (v := (.int (z 24))) (C := R_Md) (T := F_Md) (N := 45) hx hb hg in_Md hown hK hP 0 rfl rfl 24 (by decide) (hg _ k_1044) (fun _ h9 => h9) rfl d_Md_count_40 ?_
  refine lv_goto (tgt := 86) hx hb d_Md_count_43 (by decide) ?_
  have hP9 := hP.sub (ws' := [(mo, .inr (12, mdF r z q 0 tm (nI 20) (nI tx)))]) [0] rfl
  have hD9 := hD.sub (ws' := [(mo, .inr (12, mdF r z q 0 tm (nI 20) (nI tx)))]) [0] (by decide) rfl
  exact W.iret (v := z 24) hx hb hr (fun t ht hW => ⟨⟨_, (), rfl, ⟨rfl, trivial⟩, by rw [ht]; exact hP9, va_K.moved hW.alike hK, hD9⟩, hS.F ht⟩) hS.2.2 d_Md_count_86
set_option maxHeartbeats 4000000 in
set_option maxRecDepth 100000 in
/-- count(2) -/
theorem o_count2 (l : Launch) (dC : Nat → ClassId) (dI : Nat → Nat → Nat) (cT : Nat → ClassId) (sz : Nat) (mo : Nat) (r : Nat → Nat) (z : Nat → Int32) (q : Nat → Int64) (cd : Int32) (tm : Int32) (sn : Nat) (tx : Nat)  : Met l y_Md_count (Cond.code y_Md_count b_Md_count 2 (Option.some Jvm.ClassFile.FieldType.int) :: BIG) ({ frames := 1, cells := 0, slots := 0, locals := 21 }) (va_Pc [.ref mo, .int 2] (fun U => U.heap.size = sz ∧ va_P (dC, dI) vcl [(mo, .inr (12, mdF r z q cd tm (nI 20) (nI tx)))] U.heap ∧ va_K (dC, dI) vcl (tyL cT) U ∧ va_D (fun _ => True) [(mo, .inr (12, mdF r z q cd tm (nI 20) (nI tx)))])) (va_Qi (S := Unit) (fun rv9 u => rv9 = z 33 ∧ (True)) (fun u t => va_P (dC, dI) vcl [(mo, .inr (12, mdF r z q 0 tm (nI 20) (nI tx)))] t.heap ∧ va_K (dC, dI) vcl (tyL cT) t ∧ va_D (va_A [(mo, .inr (12, mdF r z q cd tm (nI 20) (nI tx)))] sz) [(mo, .inr (12, mdF r z q 0 tm (nI 20) (nI tx)))]) (va_A [(mo, .inr (12, mdF r z q cd tm (nI 20) (nI tx)))] sz)) 0 0 (va_A [(mo, .inr (12, mdF r z q cd tm (nI 20) (nI tx)))] sz) := by
  refine Met.ofW (cc := b_Md_count) (maxL := 2) (ret := (Option.some Jvm.ClassFile.FieldType.int)) (by decide) rfl ?_
  intro p e s m args below meth c s₁ B hml hv
  obtain ⟨hargs, hsz, hP, hK, hD0⟩ := hv
  have hx := B.exec
  have hb := B.bytes
  have hr := B.returns
  have hts := atoms_spec (ws := (Cond.code y_Md_count b_Md_count 2 (Option.some Jvm.ClassFile.FieldType.int) :: BIG)) B.pre
  have hg : ∀ w ∈ BIG, w.before _ s = true := fun w h => hts w (List.mem_cons_of_mem _ h)
  have hown : s.vm.findClass "DoorServerModel" = some m.cls := findClass_of_methodNamed B.named
  have hlocks := B.notSynchronized
  subst hsz
  have hD := hD0.self (sz := s.heap.size)
  generalize hAe : va_A [(mo, .inr (12, mdF r z q cd tm (nI 20) (nI tx)))] s.heap.size = A at hD ⊢
  have hA : ∀ q : Nat, s.heap.size ≤ q → A q := fun q h => by rw [← hAe]; exact Or.inr h
  have hS : va_S A s.heap s.heap [] := va_S.rf
  have hl := lv_entry ([.ref mo, .int 2]) (n := 2) (Nat.le_of_ble_eq_true rfl)
  refine W.eq (g2 := entryFrame m (List.toArray [.ref mo, .int 2]) 2) (by rw [hargs]) ?_
  rw [lg_entry_eq]
  generalize (lg_sl ([.ref mo, .int 2]) ++ List.replicate (2 - (lg_sl ([.ref mo, .int 2])).length) Slot.unset).toArray = ls at hl ⊢
  have hl : lv_has ls 2 [(0, .ref mo), (1, .int 2)] := hl
  change W p l e ({ frames := 1, cells := 0, slots := 0, locals := 21 } : Room) s m args below meth c s.heap [] 0 0 _ _
  have hP : va_P (dC, dI) vcl [(mo, .inr (12, mdF r z q cd tm (nI 20) (nI tx)))] s.heap := hP
  refine lv_aload_n hx hb d_Md_count_0 rfl (lv_at hl 0 rfl) ?_
  refine lv_iload_n hx hb d_Md_count_1 rfl (lv_at hl 1 rfl) ?_
  refine lv_if_lt (tgt := 14) hx hb d_Md_count_2 (by decide) (fun hn9 => absurd hn9 (by decide)) (fun hc122 => ?_)
  refine lv_iload_n hx hb d_Md_count_5 rfl (lv_at hl 1 rfl) ?_
  refine lv_iconst (v := 5) hx hb d_Md_count_6 (by decide) ?_
  refine lv_icmp_gt (tgt := 14) hx hb d_Md_count_7 (by decide) (fun hn9 => absurd hn9 (by decide)) (fun hc123 => ?_)
  refine lv_iconst (v := 1) hx hb d_Md_count_10 (by decide) ?_
  refine lv_goto (tgt := 15) hx hb d_Md_count_11 (by decide) ?_
  have hPc := hP.sub (ws' := [(mo, .inr (12, mdF r z q cd tm (nI 20) (nI tx)))]) [0] rfl
  have hDc := hD.sub (ws' := [(mo, .inr (12, mdF r z q cd tm (nI 20) (nI tx)))]) [0] (by decide) rfl
  have hFc := va_free (wc := [(mo, .inr (12, mdF r z q cd tm (nI 20) (nI tx)))]) hD hS hA [0] rfl
  refine va_calli (va_runV (C := "DoorServerModel") (As := [.int 1]) (rest := []) ⟨hx, hb, hml, hown, hg⟩ (m_goes1 l dC dI cT s.heap.size mo r z q cd tm 20 tx ) (cwV 1 hg (gI (List.forall_mem_append.mpr ⟨List.forall_mem_cons.mpr ⟨k_1165, List.forall_mem_cons.mpr ⟨k_1167, List.forall_mem_cons.mpr ⟨(big_sel (q := y_Md_goes) (n := 45) (by decide +kernel)), List.forall_mem_cons.mpr ⟨k_13, fun _ h => absurd h List.not_mem_nil⟩⟩⟩⟩, List.forall_mem_cons.mpr ⟨k_1168, fun _ h => h⟩⟩)) rfl rfl rfl (by decide +kernel) ⟨Nat.le_of_ble_eq_true rfl, Nat.le_of_ble_eq_true rfl⟩) ⟨fun a U g mk q => by obtain ⟨q0, q1, qP, qK, qD⟩ := q; exact ⟨q0, q1, qP, va_K.moved (u := U) (U := U.calling g mk a) (Vm.Alike.refl U.vm) qK, qD⟩, va_recv (q0 := 0) (ci := 12) hK hP rfl rfl, fun U hU hW => ⟨rfl, by rw [hU], by rw [hU]; exact hPc, va_K.moved hW.alike hK, hDc.weaken (fun _ _ _ _ => trivial)⟩⟩ rfl rfl hl.1 rfl (lv_room (Nat.le_of_ble_eq_true rfl)) d_Md_count_15 ⟨Nat.le_of_ble_eq_true rfl, Nat.le_of_ble_eq_true rfl⟩) hS (fun q _ h => hFc q h) hFc (fun rv9 u t H1 locs ht hvm hw hB hz1 hk1 hS => ?_)
  try dsimp only at hw hB
  obtain ⟨hP1, hK1, hD1⟩ := hB
  rw [ht] at hP1
  obtain ⟨rfl, hw⟩ := hw
  obtain ⟨hP, hD⟩ := va_join (wr := []) (w1 := [(mo, .inr (12, mdF r z q 0 tm (nI 20) (nI tx)))]) hP hD [0] [] rfl rfl (by decide) (by decide) hk1 hFc hP1 hD1
  have hw124 := hw
  clear hPc hDc hFc hz1 hk1 hP1 hK1 hD1
  generalize H1 = H at hP hS ⊢
  have hP : va_P (dC, dI) vcl [(mo, .inr (12, mdF r z q 0 tm (nI 20) (nI tx)))] H := hP
  have hD : va_D A [(mo, .inr (12, mdF r z q 0 tm (nI 20) (nI tx)))] := hD
  refine lv_if_ne (tgt := 23) hx hb d_Md_count_18 (by decide) (fun hc125 => ?_) (fun hn9 => absurd hn9 (by decide))
  refine lv_iload_n hx hb d_Md_count_23 rfl (lv_at hl 1 rfl) ?_
  refine lv_if_ne (tgt := 34) hx hb d_Md_count_24 (by decide) (fun hc126 => ?_) (fun hn9 => absurd hn9 (by decide))
  refine lv_iload_n hx hb d_Md_count_34 rfl (lv_at hl 1 rfl) ?_
  refine lv_iconst (v := 1) hx hb d_Md_count_35 (by decide) ?_
  refine lv_icmp_ne (tgt := 46) hx hb d_Md_count_36 (by decide) (fun hc127 => ?_) (fun hn9 => absurd hn9 (by decide))
  refine lv_iload_n hx hb d_Md_count_46 rfl (lv_at hl 1 rfl) ?_
  refine lv_iconst (v := 2) hx hb d_Md_count_47 (by decide) ?_
  refine lv_icmp_ne (tgt := 58) hx hb d_Md_count_48 (by decide) (fun hn9 => absurd hn9 (by decide)) (fun hc128 => ?_)
  refine lv_aload_n hx hb d_Md_count_51 rfl (lv_at hl 0 rfl) ?_
  refine va_get (D := (dC, dI)) (ci := 12) (v := (.int (z 33))) (C := R_Md) (T := F_Md) (N := 45) hx hb hg in_Md hown hK hP 0 rfl rfl 33 (by decide) (hg _ k_1053) (fun _ h9 => h9) rfl d_Md_count_52 ?_
  refine lv_goto (tgt := 86) hx hb d_Md_count_55 (by decide) ?_
  have hP9 := hP.sub (ws' := [(mo, .inr (12, mdF r z q 0 tm (nI 20) (nI tx)))]) [0] rfl
  have hD9 := hD.sub (ws' := [(mo, .inr (12, mdF r z q 0 tm (nI 20) (nI tx)))]) [0] (by decide) rfl
  exact W.iret (v := z 33) hx hb hr (fun t ht hW => ⟨⟨_, (), rfl, ⟨rfl, trivial⟩, by rw [ht]; exact hP9, va_K.moved hW.alike hK, hD9⟩, hS.F ht⟩) hS.2.2 d_Md_count_86
set_option maxHeartbeats 4000000 in
set_option maxRecDepth 100000 in
/-- count(3) -/
theorem o_count3 (l : Launch) (dC : Nat → ClassId) (dI : Nat → Nat → Nat) (cT : Nat → ClassId) (sz : Nat) (mo : Nat) (r : Nat → Nat) (z : Nat → Int32) (q : Nat → Int64) (cd : Int32) (tm : Int32) (sn : Nat) (tx : Nat)  : Met l y_Md_count (Cond.code y_Md_count b_Md_count 2 (Option.some Jvm.ClassFile.FieldType.int) :: BIG) ({ frames := 1, cells := 0, slots := 0, locals := 21 }) (va_Pc [.ref mo, .int 3] (fun U => U.heap.size = sz ∧ va_P (dC, dI) vcl [(mo, .inr (12, mdF r z q cd tm (nI 20) (nI tx)))] U.heap ∧ va_K (dC, dI) vcl (tyL cT) U ∧ va_D (fun _ => True) [(mo, .inr (12, mdF r z q cd tm (nI 20) (nI tx)))])) (va_Qi (S := Unit) (fun rv9 u => rv9 = z 43 ∧ (True)) (fun u t => va_P (dC, dI) vcl [(mo, .inr (12, mdF r z q 0 tm (nI 20) (nI tx)))] t.heap ∧ va_K (dC, dI) vcl (tyL cT) t ∧ va_D (va_A [(mo, .inr (12, mdF r z q cd tm (nI 20) (nI tx)))] sz) [(mo, .inr (12, mdF r z q 0 tm (nI 20) (nI tx)))]) (va_A [(mo, .inr (12, mdF r z q cd tm (nI 20) (nI tx)))] sz)) 0 0 (va_A [(mo, .inr (12, mdF r z q cd tm (nI 20) (nI tx)))] sz) := by
  refine Met.ofW (cc := b_Md_count) (maxL := 2) (ret := (Option.some Jvm.ClassFile.FieldType.int)) (by decide) rfl ?_
  intro p e s m args below meth c s₁ B hml hv
  obtain ⟨hargs, hsz, hP, hK, hD0⟩ := hv
  have hx := B.exec
  have hb := B.bytes
  have hr := B.returns
  have hts := atoms_spec (ws := (Cond.code y_Md_count b_Md_count 2 (Option.some Jvm.ClassFile.FieldType.int) :: BIG)) B.pre
  have hg : ∀ w ∈ BIG, w.before _ s = true := fun w h => hts w (List.mem_cons_of_mem _ h)
  have hown : s.vm.findClass "DoorServerModel" = some m.cls := findClass_of_methodNamed B.named
  have hlocks := B.notSynchronized
  subst hsz
  have hD := hD0.self (sz := s.heap.size)
  generalize hAe : va_A [(mo, .inr (12, mdF r z q cd tm (nI 20) (nI tx)))] s.heap.size = A at hD ⊢
  have hA : ∀ q : Nat, s.heap.size ≤ q → A q := fun q h => by rw [← hAe]; exact Or.inr h
  have hS : va_S A s.heap s.heap [] := va_S.rf
  have hl := lv_entry ([.ref mo, .int 3]) (n := 2) (Nat.le_of_ble_eq_true rfl)
  refine W.eq (g2 := entryFrame m (List.toArray [.ref mo, .int 3]) 2) (by rw [hargs]) ?_
  rw [lg_entry_eq]
  generalize (lg_sl ([.ref mo, .int 3]) ++ List.replicate (2 - (lg_sl ([.ref mo, .int 3])).length) Slot.unset).toArray = ls at hl ⊢
  have hl : lv_has ls 2 [(0, .ref mo), (1, .int 3)] := hl
  change W p l e ({ frames := 1, cells := 0, slots := 0, locals := 21 } : Room) s m args below meth c s.heap [] 0 0 _ _
  have hP : va_P (dC, dI) vcl [(mo, .inr (12, mdF r z q cd tm (nI 20) (nI tx)))] s.heap := hP
  refine lv_aload_n hx hb d_Md_count_0 rfl (lv_at hl 0 rfl) ?_
  refine lv_iload_n hx hb d_Md_count_1 rfl (lv_at hl 1 rfl) ?_
  refine lv_if_lt (tgt := 14) hx hb d_Md_count_2 (by decide) (fun hn9 => absurd hn9 (by decide)) (fun hc129 => ?_)
  refine lv_iload_n hx hb d_Md_count_5 rfl (lv_at hl 1 rfl) ?_
  refine lv_iconst (v := 5) hx hb d_Md_count_6 (by decide) ?_
  refine lv_icmp_gt (tgt := 14) hx hb d_Md_count_7 (by decide) (fun hn9 => absurd hn9 (by decide)) (fun hc130 => ?_)
  refine lv_iconst (v := 1) hx hb d_Md_count_10 (by decide) ?_
  refine lv_goto (tgt := 15) hx hb d_Md_count_11 (by decide) ?_
  have hPc := hP.sub (ws' := [(mo, .inr (12, mdF r z q cd tm (nI 20) (nI tx)))]) [0] rfl
  have hDc := hD.sub (ws' := [(mo, .inr (12, mdF r z q cd tm (nI 20) (nI tx)))]) [0] (by decide) rfl
  have hFc := va_free (wc := [(mo, .inr (12, mdF r z q cd tm (nI 20) (nI tx)))]) hD hS hA [0] rfl
  refine va_calli (va_runV (C := "DoorServerModel") (As := [.int 1]) (rest := []) ⟨hx, hb, hml, hown, hg⟩ (m_goes1 l dC dI cT s.heap.size mo r z q cd tm 20 tx ) (cwV 1 hg (gI (List.forall_mem_append.mpr ⟨List.forall_mem_cons.mpr ⟨k_1165, List.forall_mem_cons.mpr ⟨k_1167, List.forall_mem_cons.mpr ⟨(big_sel (q := y_Md_goes) (n := 45) (by decide +kernel)), List.forall_mem_cons.mpr ⟨k_13, fun _ h => absurd h List.not_mem_nil⟩⟩⟩⟩, List.forall_mem_cons.mpr ⟨k_1168, fun _ h => h⟩⟩)) rfl rfl rfl (by decide +kernel) ⟨Nat.le_of_ble_eq_true rfl, Nat.le_of_ble_eq_true rfl⟩) ⟨fun a U g mk q => by obtain ⟨q0, q1, qP, qK, qD⟩ := q; exact ⟨q0, q1, qP, va_K.moved (u := U) (U := U.calling g mk a) (Vm.Alike.refl U.vm) qK, qD⟩, va_recv (q0 := 0) (ci := 12) hK hP rfl rfl, fun U hU hW => ⟨rfl, by rw [hU], by rw [hU]; exact hPc, va_K.moved hW.alike hK, hDc.weaken (fun _ _ _ _ => trivial)⟩⟩ rfl rfl hl.1 rfl (lv_room (Nat.le_of_ble_eq_true rfl)) d_Md_count_15 ⟨Nat.le_of_ble_eq_true rfl, Nat.le_of_ble_eq_true rfl⟩) hS (fun q _ h => hFc q h) hFc (fun rv9 u t H1 locs ht hvm hw hB hz1 hk1 hS => ?_)
  try dsimp only at hw hB
  obtain ⟨hP1, hK1, hD1⟩ := hB
  rw [ht] at hP1
  obtain ⟨rfl, hw⟩ := hw
  obtain ⟨hP, hD⟩ := va_join (wr := []) (w1 := [(mo, .inr (12, mdF r z q 0 tm (nI 20) (nI tx)))]) hP hD [0] [] rfl rfl (by decide) (by decide) hk1 hFc hP1 hD1
  have hw131 := hw
  clear hPc hDc hFc hz1 hk1 hP1 hK1 hD1
  generalize H1 = H at hP hS ⊢
  have hP : va_P (dC, dI) vcl [(mo, .inr (12, mdF r z q 0 tm (nI 20) (nI tx)))] H := hP
  have hD : va_D A [(mo, .inr (12, mdF r z q 0 tm (nI 20) (nI tx)))] := hD
  refine lv_if_ne (tgt := 23) hx hb d_Md_count_18 (by decide) (fun hc132 => ?_) (fun hn9 => absurd hn9 (by decide))
  refine lv_iload_n hx hb d_Md_count_23 rfl (lv_at hl 1 rfl) ?_
  refine lv_if_ne (tgt := 34) hx hb d_Md_count_24 (by decide) (fun hc133 => ?_) (fun hn9 => absurd hn9 (by decide))
  refine lv_iload_n hx hb d_Md_count_34 rfl (lv_at hl 1 rfl) ?_
  refine lv_iconst (v := 1) hx hb d_Md_count_35 (by decide) ?_
  refine lv_icmp_ne (tgt := 46) hx hb d_Md_count_36 (by decide) (fun hc134 => ?_) (fun hn9 => absurd hn9 (by decide))
  refine lv_iload_n hx hb d_Md_count_46 rfl (lv_at hl 1 rfl) ?_
  refine lv_iconst (v := 2) hx hb d_Md_count_47 (by decide) ?_
  refine lv_icmp_ne (tgt := 58) hx hb d_Md_count_48 (by decide) (fun hc135 => ?_) (fun hn9 => absurd hn9 (by decide))
  refine lv_iload_n hx hb d_Md_count_58 rfl (lv_at hl 1 rfl) ?_
  refine lv_iconst (v := 3) hx hb d_Md_count_59 (by decide) ?_
  refine lv_icmp_ne (tgt := 70) hx hb d_Md_count_60 (by decide) (fun hn9 => absurd hn9 (by decide)) (fun hc136 => ?_)
  refine lv_aload_n hx hb d_Md_count_63 rfl (lv_at hl 0 rfl) ?_
  refine va_get (D := (dC, dI)) (ci := 12) (v := (.int (z 43))) (C := R_Md) (T := F_Md) (N := 45) hx hb hg in_Md hown hK hP 0 rfl rfl 43 (by decide) (hg _ k_1063) (fun _ h9 => h9) rfl d_Md_count_64 ?_
  refine lv_goto (tgt := 86) hx hb d_Md_count_67 (by decide) ?_
  have hP9 := hP.sub (ws' := [(mo, .inr (12, mdF r z q 0 tm (nI 20) (nI tx)))]) [0] rfl
  have hD9 := hD.sub (ws' := [(mo, .inr (12, mdF r z q 0 tm (nI 20) (nI tx)))]) [0] (by decide) rfl
  exact W.iret (v := z 43) hx hb hr (fun t ht hW => ⟨⟨_, (), rfl, ⟨rfl, trivial⟩, by rw [ht]; exact hP9, va_K.moved hW.alike hK, hD9⟩, hS.F ht⟩) hS.2.2 d_Md_count_86
set_option maxHeartbeats 4000000 in
set_option maxRecDepth 100000 in
/-- count(4) -/
theorem o_count4 (l : Launch) (dC : Nat → ClassId) (dI : Nat → Nat → Nat) (cT : Nat → ClassId) (sz : Nat) (mo : Nat) (r : Nat → Nat) (z : Nat → Int32) (q : Nat → Int64) (cd : Int32) (tm : Int32) (sn : Nat) (tx : Nat)  : Met l y_Md_count (Cond.code y_Md_count b_Md_count 2 (Option.some Jvm.ClassFile.FieldType.int) :: BIG) ({ frames := 1, cells := 0, slots := 0, locals := 21 }) (va_Pc [.ref mo, .int 4] (fun U => U.heap.size = sz ∧ va_P (dC, dI) vcl [(mo, .inr (12, mdF r z q cd tm (nI 20) (nI tx)))] U.heap ∧ va_K (dC, dI) vcl (tyL cT) U ∧ va_D (fun _ => True) [(mo, .inr (12, mdF r z q cd tm (nI 20) (nI tx)))])) (va_Qi (S := Unit) (fun rv9 u => rv9 = z 44 ∧ (True)) (fun u t => va_P (dC, dI) vcl [(mo, .inr (12, mdF r z q 0 tm (nI 20) (nI tx)))] t.heap ∧ va_K (dC, dI) vcl (tyL cT) t ∧ va_D (va_A [(mo, .inr (12, mdF r z q cd tm (nI 20) (nI tx)))] sz) [(mo, .inr (12, mdF r z q 0 tm (nI 20) (nI tx)))]) (va_A [(mo, .inr (12, mdF r z q cd tm (nI 20) (nI tx)))] sz)) 0 0 (va_A [(mo, .inr (12, mdF r z q cd tm (nI 20) (nI tx)))] sz) := by
  refine Met.ofW (cc := b_Md_count) (maxL := 2) (ret := (Option.some Jvm.ClassFile.FieldType.int)) (by decide) rfl ?_
  intro p e s m args below meth c s₁ B hml hv
  obtain ⟨hargs, hsz, hP, hK, hD0⟩ := hv
  have hx := B.exec
  have hb := B.bytes
  have hr := B.returns
  have hts := atoms_spec (ws := (Cond.code y_Md_count b_Md_count 2 (Option.some Jvm.ClassFile.FieldType.int) :: BIG)) B.pre
  have hg : ∀ w ∈ BIG, w.before _ s = true := fun w h => hts w (List.mem_cons_of_mem _ h)
  have hown : s.vm.findClass "DoorServerModel" = some m.cls := findClass_of_methodNamed B.named
  have hlocks := B.notSynchronized
  subst hsz
  have hD := hD0.self (sz := s.heap.size)
  generalize hAe : va_A [(mo, .inr (12, mdF r z q cd tm (nI 20) (nI tx)))] s.heap.size = A at hD ⊢
  have hA : ∀ q : Nat, s.heap.size ≤ q → A q := fun q h => by rw [← hAe]; exact Or.inr h
  have hS : va_S A s.heap s.heap [] := va_S.rf
  have hl := lv_entry ([.ref mo, .int 4]) (n := 2) (Nat.le_of_ble_eq_true rfl)
  refine W.eq (g2 := entryFrame m (List.toArray [.ref mo, .int 4]) 2) (by rw [hargs]) ?_
  rw [lg_entry_eq]
  generalize (lg_sl ([.ref mo, .int 4]) ++ List.replicate (2 - (lg_sl ([.ref mo, .int 4])).length) Slot.unset).toArray = ls at hl ⊢
  have hl : lv_has ls 2 [(0, .ref mo), (1, .int 4)] := hl
  change W p l e ({ frames := 1, cells := 0, slots := 0, locals := 21 } : Room) s m args below meth c s.heap [] 0 0 _ _
  have hP : va_P (dC, dI) vcl [(mo, .inr (12, mdF r z q cd tm (nI 20) (nI tx)))] s.heap := hP
  refine lv_aload_n hx hb d_Md_count_0 rfl (lv_at hl 0 rfl) ?_
  refine lv_iload_n hx hb d_Md_count_1 rfl (lv_at hl 1 rfl) ?_
  refine lv_if_lt (tgt := 14) hx hb d_Md_count_2 (by decide) (fun hn9 => absurd hn9 (by decide)) (fun hc137 => ?_)
  refine lv_iload_n hx hb d_Md_count_5 rfl (lv_at hl 1 rfl) ?_
  refine lv_iconst (v := 5) hx hb d_Md_count_6 (by decide) ?_
  refine lv_icmp_gt (tgt := 14) hx hb d_Md_count_7 (by decide) (fun hn9 => absurd hn9 (by decide)) (fun hc138 => ?_)
  refine lv_iconst (v := 1) hx hb d_Md_count_10 (by decide) ?_
  refine lv_goto (tgt := 15) hx hb d_Md_count_11 (by decide) ?_
  have hPc := hP.sub (ws' := [(mo, .inr (12, mdF r z q cd tm (nI 20) (nI tx)))]) [0] rfl
  have hDc := hD.sub (ws' := [(mo, .inr (12, mdF r z q cd tm (nI 20) (nI tx)))]) [0] (by decide) rfl
  have hFc := va_free (wc := [(mo, .inr (12, mdF r z q cd tm (nI 20) (nI tx)))]) hD hS hA [0] rfl
  refine va_calli (va_runV (C := "DoorServerModel") (As := [.int 1]) (rest := []) ⟨hx, hb, hml, hown, hg⟩ (m_goes1 l dC dI cT s.heap.size mo r z q cd tm 20 tx ) (cwV 1 hg (gI (List.forall_mem_append.mpr ⟨List.forall_mem_cons.mpr ⟨k_1165, List.forall_mem_cons.mpr ⟨k_1167, List.forall_mem_cons.mpr ⟨(big_sel (q := y_Md_goes) (n := 45) (by decide +kernel)), List.forall_mem_cons.mpr ⟨k_13, fun _ h => absurd h List.not_mem_nil⟩⟩⟩⟩, List.forall_mem_cons.mpr ⟨k_1168, fun _ h => h⟩⟩)) rfl rfl rfl (by decide +kernel) ⟨Nat.le_of_ble_eq_true rfl, Nat.le_of_ble_eq_true rfl⟩) ⟨fun a U g mk q => by obtain ⟨q0, q1, qP, qK, qD⟩ := q; exact ⟨q0, q1, qP, va_K.moved (u := U) (U := U.calling g mk a) (Vm.Alike.refl U.vm) qK, qD⟩, va_recv (q0 := 0) (ci := 12) hK hP rfl rfl, fun U hU hW => ⟨rfl, by rw [hU], by rw [hU]; exact hPc, va_K.moved hW.alike hK, hDc.weaken (fun _ _ _ _ => trivial)⟩⟩ rfl rfl hl.1 rfl (lv_room (Nat.le_of_ble_eq_true rfl)) d_Md_count_15 ⟨Nat.le_of_ble_eq_true rfl, Nat.le_of_ble_eq_true rfl⟩) hS (fun q _ h => hFc q h) hFc (fun rv9 u t H1 locs ht hvm hw hB hz1 hk1 hS => ?_)
  try dsimp only at hw hB
  obtain ⟨hP1, hK1, hD1⟩ := hB
  rw [ht] at hP1
  obtain ⟨rfl, hw⟩ := hw
  obtain ⟨hP, hD⟩ := va_join (wr := []) (w1 := [(mo, .inr (12, mdF r z q 0 tm (nI 20) (nI tx)))]) hP hD [0] [] rfl rfl (by decide) (by decide) hk1 hFc hP1 hD1
  have hw139 := hw
  clear hPc hDc hFc hz1 hk1 hP1 hK1 hD1
  generalize H1 = H at hP hS ⊢
  have hP : va_P (dC, dI) vcl [(mo, .inr (12, mdF r z q 0 tm (nI 20) (nI tx)))] H := hP
  have hD : va_D A [(mo, .inr (12, mdF r z q 0 tm (nI 20) (nI tx)))] := hD
  refine lv_if_ne (tgt := 23) hx hb d_Md_count_18 (by decide) (fun hc140 => ?_) (fun hn9 => absurd hn9 (by decide))
  refine lv_iload_n hx hb d_Md_count_23 rfl (lv_at hl 1 rfl) ?_
  refine lv_if_ne (tgt := 34) hx hb d_Md_count_24 (by decide) (fun hc141 => ?_) (fun hn9 => absurd hn9 (by decide))
  refine lv_iload_n hx hb d_Md_count_34 rfl (lv_at hl 1 rfl) ?_
  refine lv_iconst (v := 1) hx hb d_Md_count_35 (by decide) ?_
  refine lv_icmp_ne (tgt := 46) hx hb d_Md_count_36 (by decide) (fun hc142 => ?_) (fun hn9 => absurd hn9 (by decide))
  refine lv_iload_n hx hb d_Md_count_46 rfl (lv_at hl 1 rfl) ?_
  refine lv_iconst (v := 2) hx hb d_Md_count_47 (by decide) ?_
  refine lv_icmp_ne (tgt := 58) hx hb d_Md_count_48 (by decide) (fun hc143 => ?_) (fun hn9 => absurd hn9 (by decide))
  refine lv_iload_n hx hb d_Md_count_58 rfl (lv_at hl 1 rfl) ?_
  refine lv_iconst (v := 3) hx hb d_Md_count_59 (by decide) ?_
  refine lv_icmp_ne (tgt := 70) hx hb d_Md_count_60 (by decide) (fun hc144 => ?_) (fun hn9 => absurd hn9 (by decide))
  refine lv_iload_n hx hb d_Md_count_70 rfl (lv_at hl 1 rfl) ?_
  refine lv_iconst (v := 4) hx hb d_Md_count_71 (by decide) ?_
  refine lv_icmp_ne (tgt := 82) hx hb d_Md_count_72 (by decide) (fun hn9 => absurd hn9 (by decide)) (fun hc145 => ?_)
  refine lv_aload_n hx hb d_Md_count_75 rfl (lv_at hl 0 rfl) ?_
  refine va_get (D := (dC, dI)) (ci := 12) (v := (.int (z 44))) (C := R_Md) (T := F_Md) (N := 45) hx hb hg in_Md hown hK hP 0 rfl rfl 44 (by decide) (hg _ k_1064) (fun _ h9 => h9) rfl d_Md_count_76 ?_
  refine lv_goto (tgt := 86) hx hb d_Md_count_79 (by decide) ?_
  have hP9 := hP.sub (ws' := [(mo, .inr (12, mdF r z q 0 tm (nI 20) (nI tx)))]) [0] rfl
  have hD9 := hD.sub (ws' := [(mo, .inr (12, mdF r z q 0 tm (nI 20) (nI tx)))]) [0] (by decide) rfl
  exact W.iret (v := z 44) hx hb hr (fun t ht hW => ⟨⟨_, (), rfl, ⟨rfl, trivial⟩, by rw [ht]; exact hP9, va_K.moved hW.alike hK, hD9⟩, hS.F ht⟩) hS.2.2 d_Md_count_86
set_option maxHeartbeats 4000000 in
set_option maxRecDepth 100000 in
/-- count(5) -/
theorem o_count5 (l : Launch) (dC : Nat → ClassId) (dI : Nat → Nat → Nat) (cT : Nat → ClassId) (sz : Nat) (mo : Nat) (r : Nat → Nat) (z : Nat → Int32) (q : Nat → Int64) (cd : Int32) (tm : Int32) (sn : Nat) (tx : Nat)  : Met l y_Md_count (Cond.code y_Md_count b_Md_count 2 (Option.some Jvm.ClassFile.FieldType.int) :: BIG) ({ frames := 1, cells := 0, slots := 0, locals := 21 }) (va_Pc [.ref mo, .int 5] (fun U => U.heap.size = sz ∧ va_P (dC, dI) vcl [(mo, .inr (12, mdF r z q cd tm (nI 20) (nI tx)))] U.heap ∧ va_K (dC, dI) vcl (tyL cT) U ∧ va_D (fun _ => True) [(mo, .inr (12, mdF r z q cd tm (nI 20) (nI tx)))])) (va_Qi (S := Unit) (fun rv9 u => rv9 = nI 20 ∧ (True)) (fun u t => va_P (dC, dI) vcl [(mo, .inr (12, mdF r z q 0 tm (nI 20) (nI tx)))] t.heap ∧ va_K (dC, dI) vcl (tyL cT) t ∧ va_D (va_A [(mo, .inr (12, mdF r z q cd tm (nI 20) (nI tx)))] sz) [(mo, .inr (12, mdF r z q 0 tm (nI 20) (nI tx)))]) (va_A [(mo, .inr (12, mdF r z q cd tm (nI 20) (nI tx)))] sz)) 0 0 (va_A [(mo, .inr (12, mdF r z q cd tm (nI 20) (nI tx)))] sz) := by
  refine Met.ofW (cc := b_Md_count) (maxL := 2) (ret := (Option.some Jvm.ClassFile.FieldType.int)) (by decide) rfl ?_
  intro p e s m args below meth c s₁ B hml hv
  obtain ⟨hargs, hsz, hP, hK, hD0⟩ := hv
  have hx := B.exec
  have hb := B.bytes
  have hr := B.returns
  have hts := atoms_spec (ws := (Cond.code y_Md_count b_Md_count 2 (Option.some Jvm.ClassFile.FieldType.int) :: BIG)) B.pre
  have hg : ∀ w ∈ BIG, w.before _ s = true := fun w h => hts w (List.mem_cons_of_mem _ h)
  have hown : s.vm.findClass "DoorServerModel" = some m.cls := findClass_of_methodNamed B.named
  have hlocks := B.notSynchronized
  subst hsz
  have hD := hD0.self (sz := s.heap.size)
  generalize hAe : va_A [(mo, .inr (12, mdF r z q cd tm (nI 20) (nI tx)))] s.heap.size = A at hD ⊢
  have hA : ∀ q : Nat, s.heap.size ≤ q → A q := fun q h => by rw [← hAe]; exact Or.inr h
  have hS : va_S A s.heap s.heap [] := va_S.rf
  have hl := lv_entry ([.ref mo, .int 5]) (n := 2) (Nat.le_of_ble_eq_true rfl)
  refine W.eq (g2 := entryFrame m (List.toArray [.ref mo, .int 5]) 2) (by rw [hargs]) ?_
  rw [lg_entry_eq]
  generalize (lg_sl ([.ref mo, .int 5]) ++ List.replicate (2 - (lg_sl ([.ref mo, .int 5])).length) Slot.unset).toArray = ls at hl ⊢
  have hl : lv_has ls 2 [(0, .ref mo), (1, .int 5)] := hl
  change W p l e ({ frames := 1, cells := 0, slots := 0, locals := 21 } : Room) s m args below meth c s.heap [] 0 0 _ _
  have hP : va_P (dC, dI) vcl [(mo, .inr (12, mdF r z q cd tm (nI 20) (nI tx)))] s.heap := hP
  refine lv_aload_n hx hb d_Md_count_0 rfl (lv_at hl 0 rfl) ?_
  refine lv_iload_n hx hb d_Md_count_1 rfl (lv_at hl 1 rfl) ?_
  refine lv_if_lt (tgt := 14) hx hb d_Md_count_2 (by decide) (fun hn9 => absurd hn9 (by decide)) (fun hc146 => ?_)
  refine lv_iload_n hx hb d_Md_count_5 rfl (lv_at hl 1 rfl) ?_
  refine lv_iconst (v := 5) hx hb d_Md_count_6 (by decide) ?_
  refine lv_icmp_gt (tgt := 14) hx hb d_Md_count_7 (by decide) (fun hn9 => absurd hn9 (by decide)) (fun hc147 => ?_)
  refine lv_iconst (v := 1) hx hb d_Md_count_10 (by decide) ?_
  refine lv_goto (tgt := 15) hx hb d_Md_count_11 (by decide) ?_
  have hPc := hP.sub (ws' := [(mo, .inr (12, mdF r z q cd tm (nI 20) (nI tx)))]) [0] rfl
  have hDc := hD.sub (ws' := [(mo, .inr (12, mdF r z q cd tm (nI 20) (nI tx)))]) [0] (by decide) rfl
  have hFc := va_free (wc := [(mo, .inr (12, mdF r z q cd tm (nI 20) (nI tx)))]) hD hS hA [0] rfl
  refine va_calli (va_runV (C := "DoorServerModel") (As := [.int 1]) (rest := []) ⟨hx, hb, hml, hown, hg⟩ (m_goes1 l dC dI cT s.heap.size mo r z q cd tm 20 tx ) (cwV 1 hg (gI (List.forall_mem_append.mpr ⟨List.forall_mem_cons.mpr ⟨k_1165, List.forall_mem_cons.mpr ⟨k_1167, List.forall_mem_cons.mpr ⟨(big_sel (q := y_Md_goes) (n := 45) (by decide +kernel)), List.forall_mem_cons.mpr ⟨k_13, fun _ h => absurd h List.not_mem_nil⟩⟩⟩⟩, List.forall_mem_cons.mpr ⟨k_1168, fun _ h => h⟩⟩)) rfl rfl rfl (by decide +kernel) ⟨Nat.le_of_ble_eq_true rfl, Nat.le_of_ble_eq_true rfl⟩) ⟨fun a U g mk q => by obtain ⟨q0, q1, qP, qK, qD⟩ := q; exact ⟨q0, q1, qP, va_K.moved (u := U) (U := U.calling g mk a) (Vm.Alike.refl U.vm) qK, qD⟩, va_recv (q0 := 0) (ci := 12) hK hP rfl rfl, fun U hU hW => ⟨rfl, by rw [hU], by rw [hU]; exact hPc, va_K.moved hW.alike hK, hDc.weaken (fun _ _ _ _ => trivial)⟩⟩ rfl rfl hl.1 rfl (lv_room (Nat.le_of_ble_eq_true rfl)) d_Md_count_15 ⟨Nat.le_of_ble_eq_true rfl, Nat.le_of_ble_eq_true rfl⟩) hS (fun q _ h => hFc q h) hFc (fun rv9 u t H1 locs ht hvm hw hB hz1 hk1 hS => ?_)
  try dsimp only at hw hB
  obtain ⟨hP1, hK1, hD1⟩ := hB
  rw [ht] at hP1
  obtain ⟨rfl, hw⟩ := hw
  obtain ⟨hP, hD⟩ := va_join (wr := []) (w1 := [(mo, .inr (12, mdF r z q 0 tm (nI 20) (nI tx)))]) hP hD [0] [] rfl rfl (by decide) (by decide) hk1 hFc hP1 hD1
  have hw148 := hw
  clear hPc hDc hFc hz1 hk1 hP1 hK1 hD1
  generalize H1 = H at hP hS ⊢
  have hP : va_P (dC, dI) vcl [(mo, .inr (12, mdF r z q 0 tm (nI 20) (nI tx)))] H := hP
  have hD : va_D A [(mo, .inr (12, mdF r z q 0 tm (nI 20) (nI tx)))] := hD
  refine lv_if_ne (tgt := 23) hx hb d_Md_count_18 (by decide) (fun hc149 => ?_) (fun hn9 => absurd hn9 (by decide))
  refine lv_iload_n hx hb d_Md_count_23 rfl (lv_at hl 1 rfl) ?_
  refine lv_if_ne (tgt := 34) hx hb d_Md_count_24 (by decide) (fun hc150 => ?_) (fun hn9 => absurd hn9 (by decide))
  refine lv_iload_n hx hb d_Md_count_34 rfl (lv_at hl 1 rfl) ?_
  refine lv_iconst (v := 1) hx hb d_Md_count_35 (by decide) ?_
  refine lv_icmp_ne (tgt := 46) hx hb d_Md_count_36 (by decide) (fun hc151 => ?_) (fun hn9 => absurd hn9 (by decide))
  refine lv_iload_n hx hb d_Md_count_46 rfl (lv_at hl 1 rfl) ?_
  refine lv_iconst (v := 2) hx hb d_Md_count_47 (by decide) ?_
  refine lv_icmp_ne (tgt := 58) hx hb d_Md_count_48 (by decide) (fun hc152 => ?_) (fun hn9 => absurd hn9 (by decide))
  refine lv_iload_n hx hb d_Md_count_58 rfl (lv_at hl 1 rfl) ?_
  refine lv_iconst (v := 3) hx hb d_Md_count_59 (by decide) ?_
  refine lv_icmp_ne (tgt := 70) hx hb d_Md_count_60 (by decide) (fun hc153 => ?_) (fun hn9 => absurd hn9 (by decide))
  refine lv_iload_n hx hb d_Md_count_70 rfl (lv_at hl 1 rfl) ?_
  refine lv_iconst (v := 4) hx hb d_Md_count_71 (by decide) ?_
  refine lv_icmp_ne (tgt := 82) hx hb d_Md_count_72 (by decide) (fun hc154 => ?_) (fun hn9 => absurd hn9 (by decide))
  refine lv_aload_n hx hb d_Md_count_82 rfl (lv_at hl 0 rfl) ?_
  refine va_get (D := (dC, dI)) (ci := 12) (v := (.int (nI 20))) (C := R_Md) (T := F_Md) (N := 45) hx hb hg in_Md hown hK hP 0 rfl rfl 8 (by decide) (hg _ k_1028) (fun _ h9 => h9) rfl d_Md_count_83 ?_
  have hP9 := hP.sub (ws' := [(mo, .inr (12, mdF r z q 0 tm (nI 20) (nI tx)))]) [0] rfl
  have hD9 := hD.sub (ws' := [(mo, .inr (12, mdF r z q 0 tm (nI 20) (nI tx)))]) [0] (by decide) rfl
  exact W.iret (v := nI 20) hx hb hr (fun t ht hW => ⟨⟨_, (), rfl, ⟨rfl, trivial⟩, by rw [ht]; exact hP9, va_K.moved hW.alike hK, hD9⟩, hS.F ht⟩) hS.2.2 d_Md_count_86
set_option maxHeartbeats 4000000 in
set_option maxRecDepth 100000 in
/-- spoil -/
theorem o_spoil (l : Launch) (dC : Nat → ClassId) (dI : Nat → Nat → Nat) (cT : Nat → ClassId) (sz : Nat) (mo : Nat) (r : Nat → Nat) (z : Nat → Int32) (q : Nat → Int64) (cd : Int32) (tm : Int32) (sn : Nat) (tx : Nat) (f : Nat → Int32) (j : Nat) (x : Int32) (hj : j < 20) (hx1 : ¬ x < 0) (hx2 : ¬ 255 < x) : Met l y_Md_spoil (Cond.code y_Md_spoil b_Md_spoil 3 (Option.some Jvm.ClassFile.FieldType.int) :: BIG) ({ frames := 1, cells := 0, slots := 0, locals := 21 }) (va_Pc [.ref mo, .int (nI j), .int x] (fun U => U.heap.size = sz ∧ va_P (dC, dI) vcl [(mo, .inr (12, mdF r z q cd tm (nI 20) (nI tx))), (r 7, .inl ((cT 0), 1000, .inl f))] U.heap ∧ va_K (dC, dI) vcl (tyL cT) U ∧ va_D (fun _ => True) [(mo, .inr (12, mdF r z q cd tm (nI 20) (nI tx))), (r 7, .inl ((cT 0), 1000, .inl f))])) (va_Qi (S := Unit) (fun rv9 u => rv9 = f j ^^^ x ∧ (True)) (fun u t => va_P (dC, dI) vcl [(mo, .inr (12, mdF r z q 0 tm (nI 20) (nI tx)))] t.heap ∧ va_K (dC, dI) vcl (tyL cT) t ∧ va_D (va_A [(mo, .inr (12, mdF r z q cd tm (nI 20) (nI tx))), (r 7, .inl ((cT 0), 1000, .inl f))] sz) [(mo, .inr (12, mdF r z q 0 tm (nI 20) (nI tx)))]) (va_A [(mo, .inr (12, mdF r z q cd tm (nI 20) (nI tx))), (r 7, .inl ((cT 0), 1000, .inl f))] sz)) 0 0 (va_A [(mo, .inr (12, mdF r z q cd tm (nI 20) (nI tx))), (r 7, .inl ((cT 0), 1000, .inl f))] sz) := by
  refine Met.ofW (cc := b_Md_spoil) (maxL := 3) (ret := (Option.some Jvm.ClassFile.FieldType.int)) (by decide) rfl ?_
  intro p e s m args below meth c s₁ B hml hv
  obtain ⟨hargs, hsz, hP, hK, hD0⟩ := hv
  have hx := B.exec
  have hb := B.bytes
  have hr := B.returns
  have hts := atoms_spec (ws := (Cond.code y_Md_spoil b_Md_spoil 3 (Option.some Jvm.ClassFile.FieldType.int) :: BIG)) B.pre
  have hg : ∀ w ∈ BIG, w.before _ s = true := fun w h => hts w (List.mem_cons_of_mem _ h)
  have hown : s.vm.findClass "DoorServerModel" = some m.cls := findClass_of_methodNamed B.named
  have hlocks := B.notSynchronized
  subst hsz
  have hD := hD0.self (sz := s.heap.size)
  generalize hAe : va_A [(mo, .inr (12, mdF r z q cd tm (nI 20) (nI tx))), (r 7, .inl ((cT 0), 1000, .inl f))] s.heap.size = A at hD ⊢
  have hA : ∀ q : Nat, s.heap.size ≤ q → A q := fun q h => by rw [← hAe]; exact Or.inr h
  have hS : va_S A s.heap s.heap [] := va_S.rf
  have hl := lv_entry ([.ref mo, .int (nI j), .int x]) (n := 3) (Nat.le_of_ble_eq_true rfl)
  refine W.eq (g2 := entryFrame m (List.toArray [.ref mo, .int (nI j), .int x]) 3) (by rw [hargs]) ?_
  rw [lg_entry_eq]
  generalize (lg_sl ([.ref mo, .int (nI j), .int x]) ++ List.replicate (3 - (lg_sl ([.ref mo, .int (nI j), .int x])).length) Slot.unset).toArray = ls at hl ⊢
  have hl : lv_has ls 3 [(0, .ref mo), (1, .int (nI j)), (2, .int x)] := hl
  change W p l e ({ frames := 1, cells := 0, slots := 0, locals := 21 } : Room) s m args below meth c s.heap [] 0 0 _ _
  have hP : va_P (dC, dI) vcl [(mo, .inr (12, mdF r z q cd tm (nI 20) (nI tx))), (r 7, .inl ((cT 0), 1000, .inl f))] s.heap := hP
  refine lv_aload_n hx hb d_Md_spoil_0 rfl (lv_at hl 0 rfl) ?_
  refine lv_iload_n hx hb d_Md_spoil_1 rfl (lv_at hl 1 rfl) ?_
  refine lv_if_lt (tgt := 24) hx hb d_Md_spoil_2 (by decide) (fun hn9 => absurd hn9 (nI_pos (by omega))) (fun hc155 => ?_)
  refine lv_iload_n hx hb d_Md_spoil_5 rfl (lv_at hl 1 rfl) ?_
  refine lv_aload_n hx hb d_Md_spoil_6 rfl (lv_at hl 0 rfl) ?_
  refine va_get (D := (dC, dI)) (ci := 12) (v := (.int (nI 20))) (C := R_Md) (T := F_Md) (N := 45) hx hb hg in_Md hown hK hP 0 rfl rfl 8 (by decide) (hg _ k_1028) (fun _ h9 => h9) rfl d_Md_spoil_7 ?_
  refine lv_icmp_ge (tgt := 24) hx hb d_Md_spoil_10 (by decide) (fun hn9 => absurd hn9 (nI_ge hj (by decide))) (fun hc156 => ?_)
  refine lv_iload_n hx hb d_Md_spoil_13 rfl (lv_at hl 2 rfl) ?_
  have hPc := hP.sub (ws' := []) [] rfl
  have hDc := hD.sub (ws' := []) [] (by decide) rfl
  have hFc := va_free (wc := []) hD hS hA [] rfl
  refine va_calli (va_runS (As := [.int x]) (rest := [.ref mo]) ⟨hx, hb, hml, hown, hg⟩ (m_byte1 l dC dI cT s.heap.size x (hx1) (hx2)) (va_cwS 1 hg (gI (List.forall_mem_append.mpr ⟨List.forall_mem_cons.mpr ⟨k_1181, List.forall_mem_cons.mpr ⟨k_1182, List.forall_mem_cons.mpr ⟨k_13, fun _ h => absurd h List.not_mem_nil⟩⟩⟩, List.forall_mem_cons.mpr ⟨k_1183, fun _ h => h⟩⟩)) rfl rfl rfl (by decide +kernel) ⟨Nat.le_of_ble_eq_true rfl, Nat.le_of_ble_eq_true rfl⟩) ⟨fun a U g mk q => by obtain ⟨q0, q1, qP, qK, qD⟩ := q; exact ⟨q0, q1, qP, va_K.moved (u := U) (U := U.calling g mk a) (Vm.Alike.refl U.vm) qK, qD⟩, fun U hU hW => ⟨rfl, by rw [hU], by rw [hU]; exact hPc, va_K.moved hW.alike hK, hDc.weaken (fun _ _ _ _ => trivial)⟩⟩ rfl rfl hl.1 rfl (lv_room (Nat.le_of_ble_eq_true rfl)) d_Md_spoil_14 ⟨Nat.le_of_ble_eq_true rfl, Nat.le_of_ble_eq_true rfl⟩) hS (fun q _ h => hFc q h) hFc (fun rv9 u t H1 locs ht hvm hw hB hz1 hk1 hS => ?_)
  try dsimp only at hw hB
  obtain ⟨hP1, hK1, hD1⟩ := hB
  rw [ht] at hP1
  obtain ⟨rfl, hw⟩ := hw
  obtain ⟨hP, hD⟩ := va_join (wr := [(mo, .inr (12, mdF r z q cd tm (nI 20) (nI tx))), (r 7, .inl ((cT 0), 1000, .inl f))]) (w1 := []) hP hD [] [0, 1] rfl rfl (by decide) (by decide) hk1 hFc hP1 hD1
  have hw157 := hw
  clear hPc hDc hFc hz1 hk1 hP1 hK1 hD1
  generalize H1 = H at hP hS ⊢
  have hP : va_P (dC, dI) vcl [(mo, .inr (12, mdF r z q cd tm (nI 20) (nI tx))), (r 7, .inl ((cT 0), 1000, .inl f))] H := hP
  have hD : va_D A [(mo, .inr (12, mdF r z q cd tm (nI 20) (nI tx))), (r 7, .inl ((cT 0), 1000, .inl f))] := hD
  refine lv_if_eq (tgt := 24) hx hb d_Md_spoil_17 (by decide) (fun hn9 => absurd hn9 (by decide)) (fun hc158 => ?_)
  refine lv_iconst (v := 1) hx hb d_Md_spoil_20 (by decide) ?_
  refine lv_goto (tgt := 25) hx hb d_Md_spoil_21 (by decide) ?_
  have hPc := hP.sub (ws' := [(mo, .inr (12, mdF r z q cd tm (nI 20) (nI tx)))]) [0] rfl
  have hDc := hD.sub (ws' := [(mo, .inr (12, mdF r z q cd tm (nI 20) (nI tx)))]) [0] (by decide) rfl
  have hFc := va_free (wc := [(mo, .inr (12, mdF r z q cd tm (nI 20) (nI tx)))]) hD hS hA [0] rfl
  refine va_calli (va_runV (C := "DoorServerModel") (As := [.int 1]) (rest := []) ⟨hx, hb, hml, hown, hg⟩ (m_goes1 l dC dI cT H.size mo r z q cd tm 20 tx ) (cwV 1 hg (gI (List.forall_mem_append.mpr ⟨List.forall_mem_cons.mpr ⟨k_1165, List.forall_mem_cons.mpr ⟨k_1167, List.forall_mem_cons.mpr ⟨(big_sel (q := y_Md_goes) (n := 45) (by decide +kernel)), List.forall_mem_cons.mpr ⟨k_13, fun _ h => absurd h List.not_mem_nil⟩⟩⟩⟩, List.forall_mem_cons.mpr ⟨k_1168, fun _ h => h⟩⟩)) rfl rfl rfl (by decide +kernel) ⟨Nat.le_of_ble_eq_true rfl, Nat.le_of_ble_eq_true rfl⟩) ⟨fun a U g mk q => by obtain ⟨q0, q1, qP, qK, qD⟩ := q; exact ⟨q0, q1, qP, va_K.moved (u := U) (U := U.calling g mk a) (Vm.Alike.refl U.vm) qK, qD⟩, va_recv (q0 := 0) (ci := 12) hK hP rfl rfl, fun U hU hW => ⟨rfl, by rw [hU], by rw [hU]; exact hPc, va_K.moved hW.alike hK, hDc.weaken (fun _ _ _ _ => trivial)⟩⟩ rfl rfl hl.1 rfl (lv_room (Nat.le_of_ble_eq_true rfl)) d_Md_spoil_25 ⟨Nat.le_of_ble_eq_true rfl, Nat.le_of_ble_eq_true rfl⟩) hS (fun q _ h => hFc q h) hFc (fun rv9 u t H1 locs ht hvm hw hB hz1 hk1 hS => ?_)
  try dsimp only at hw hB
  obtain ⟨hP1, hK1, hD1⟩ := hB
  rw [ht] at hP1
  obtain ⟨rfl, hw⟩ := hw
  obtain ⟨hP, hD⟩ := va_join (wr := [(r 7, .inl ((cT 0), 1000, .inl f))]) (w1 := [(mo, .inr (12, mdF r z q 0 tm (nI 20) (nI tx)))]) hP hD [0] [1] rfl rfl (by decide) (by decide) hk1 hFc hP1 hD1
  have hw159 := hw
  clear hPc hDc hFc hz1 hk1 hP1 hK1 hD1
  generalize H1 = H at hP hS ⊢
  have hP : va_P (dC, dI) vcl [(r 7, .inl ((cT 0), 1000, .inl f)), (mo, .inr (12, mdF r z q 0 tm (nI 20) (nI tx)))] H := hP
  have hD : va_D A [(r 7, .inl ((cT 0), 1000, .inl f)), (mo, .inr (12, mdF r z q 0 tm (nI 20) (nI tx)))] := hD
  refine lv_if_ne (tgt := 33) hx hb d_Md_spoil_28 (by decide) (fun hc160 => ?_) (fun hn9 => absurd hn9 (by decide))
  refine lv_aload_n hx hb d_Md_spoil_33 rfl (lv_at hl 0 rfl) ?_
  refine va_get (D := (dC, dI)) (ci := 12) (v := (.ref (r 7))) (C := R_Md) (T := F_Md) (N := 45) hx hb hg in_Md hown hK hP 1 rfl rfl 7 (by decide) (hg _ k_1027) (fun _ h9 => h9) rfl d_Md_spoil_34 ?_
  refine lv_iload_n hx hb d_Md_spoil_37 rfl (lv_at hl 1 rfl) ?_
  refine lv_dup2_11 hx hb d_Md_spoil_38 rfl rfl ?_
  refine va_iald hx hb hK hP 0 0 rfl rfl (i := (nI j)) (vp_in_nI (show j < 1000 by omega) (by decide)) d_Md_spoil_39 ?_
  refine lv_topi (fun x162 e161 => ?_)
  obtain rfl : x162 = f j := by rw [e161]; rw [nI_clamp (by omega)]
  refine lv_iload_n hx hb d_Md_spoil_40 rfl (lv_at hl 2 rfl) ?_
  refine lv_ixor hx hb d_Md_spoil_41 ?_
  refine va_iast hx hb hK hP hD hS 0 0 rfl rfl (i := (nI j)) (vp_in_nI (show j < 1000 by omega) (by decide)) d_Md_spoil_42 (fun H locs hP hD hS => ?_)
  have ef163 : upd f (nI j).toNatClampNeg ((f j) ^^^ x) = upd f j (f j ^^^ x) := by rw [nI_clamp (by omega)]
  rw [ef163] at hP hD
  have hP : va_P (dC, dI) vcl [(r 7, .inl ((cT 0), 1000, .inl (upd f j (f j ^^^ x)))), (mo, .inr (12, mdF r z q 0 tm (nI 20) (nI tx)))] H := hP
  have hD : va_D A [(r 7, .inl ((cT 0), 1000, .inl (upd f j (f j ^^^ x)))), (mo, .inr (12, mdF r z q 0 tm (nI 20) (nI tx)))] := hD
  refine lv_aload_n hx hb d_Md_spoil_43 rfl (lv_at hl 0 rfl) ?_
  refine va_get (D := (dC, dI)) (ci := 12) (v := (.ref (r 7))) (C := R_Md) (T := F_Md) (N := 45) hx hb hg in_Md hown hK hP 1 rfl rfl 7 (by decide) (hg _ k_1027) (fun _ h9 => h9) rfl d_Md_spoil_44 ?_
  refine lv_iload_n hx hb d_Md_spoil_47 rfl (lv_at hl 1 rfl) ?_
  refine va_iald hx hb hK hP 0 0 rfl rfl (i := (nI j)) (vp_in_nI (show j < 1000 by omega) (by decide)) d_Md_spoil_48 ?_
  refine lv_topi (fun x165 e164 => ?_)
  obtain rfl : x165 = f j ^^^ x := by rw [e164]; rw [nI_clamp (by omega), pk_us]
  have hP9 := hP.sub (ws' := [(mo, .inr (12, mdF r z q 0 tm (nI 20) (nI tx)))]) [1] rfl
  have hD9 := hD.sub (ws' := [(mo, .inr (12, mdF r z q 0 tm (nI 20) (nI tx)))]) [1] (by decide) rfl
  exact W.iret (v := f j ^^^ x) hx hb hr (fun t ht hW => ⟨⟨_, (), rfl, ⟨rfl, trivial⟩, by rw [ht]; exact hP9, va_K.moved hW.alike hK, hD9⟩, hS.F ht⟩) hS.2.2 d_Md_spoil_49
