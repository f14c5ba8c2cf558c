theorem d_Md_secret_0 : decode b_Md_secret 0 = .ok (.aload_n 0, 1) := by decide +kernel
theorem d_Md_secret_1 : decode b_Md_secret 1 = .ok (.iload_n 1, 1) := by decide +kernel
theorem d_Md_secret_27 : decode b_Md_secret 27 = .ok (.iconst 0, 1) := by decide +kernel
theorem d_Md_secret_28 : decode b_Md_secret 28 = .ok (.invokevirtual 289, 3) := by decide +kernel
theorem d_Md_secret_31 : decode b_Md_secret 31 = .ok (.ifCond .eq 45, 3) := by decide +kernel
theorem d_Md_secret_76 : decode b_Md_secret 76 = .ok (.return_, 1) := by decide +kernel
theorem d_Md_secret_2 : decode b_Md_secret 2 = .ok (.ifCond .lt 25, 3) := by decide +kernel
theorem d_Md_secret_5 : decode b_Md_secret 5 = .ok (.iload_n 1, 1) := by decide +kernel
theorem d_Md_secret_6 : decode b_Md_secret 6 = .ok (.iconst 4, 1) := by decide +kernel
theorem d_Md_secret_7 : decode b_Md_secret 7 = .ok (.if_icmp .ge 20, 3) := by decide +kernel
theorem d_Md_secret_10 : decode b_Md_secret 10 = .ok (.iload 4, 2) := by decide +kernel
theorem d_Md_secret_12 : decode b_Md_secret 12 = .ok (.iconst 1, 1) := by decide +kernel
theorem d_Md_secret_13 : decode b_Md_secret 13 = .ok (.if_icmp .lt 14, 3) := by decide +kernel
theorem d_Md_secret_16 : decode b_Md_secret 16 = .ok (.iload 4, 2) := by decide +kernel
theorem d_Md_secret_18 : decode b_Md_secret 18 = .ok (.bipush 40, 2) := by decide +kernel
theorem d_Md_secret_20 : decode b_Md_secret 20 = .ok (.if_icmp .gt 7, 3) := by decide +kernel
theorem d_Md_user_0 : decode b_Md_user 0 = .ok (.aload_n 0, 1) := by decide +kernel
theorem d_Md_user_1 : decode b_Md_user 1 = .ok (.iload_n 1, 1) := by decide +kernel
theorem d_Md_user_28 : decode b_Md_user 28 = .ok (.iconst 0, 1) := by decide +kernel
theorem d_Md_user_29 : decode b_Md_user 29 = .ok (.invokevirtual 289, 3) := by decide +kernel
theorem d_Md_user_32 : decode b_Md_user 32 = .ok (.ifCond .ne 5, 3) := by decide +kernel
theorem d_Md_user_35 : decode b_Md_user 35 = .ok (.iconst 0, 1) := by decide +kernel
theorem d_Md_user_36 : decode b_Md_user 36 = .ok (.ireturn, 1) := by decide +kernel
theorem d_Md_user_2 : decode b_Md_user 2 = .ok (.ifCond .lt 26, 3) := by decide +kernel
theorem d_Md_user_5 : decode b_Md_user 5 = .ok (.iload_n 1, 1) := by decide +kernel
theorem d_Md_user_6 : decode b_Md_user 6 = .ok (.bipush 32, 2) := by decide +kernel
theorem d_Md_user_8 : decode b_Md_user 8 = .ok (.if_icmp .ge 20, 3) := by decide +kernel
theorem d_Md_user_11 : decode b_Md_user 11 = .ok (.iload 4, 2) := by decide +kernel
theorem d_Md_user_13 : decode b_Md_user 13 = .ok (.iconst 1, 1) := by decide +kernel
theorem d_Md_user_14 : decode b_Md_user 14 = .ok (.if_icmp .lt 14, 3) := by decide +kernel
theorem d_Md_user_17 : decode b_Md_user 17 = .ok (.iload 4, 2) := by decide +kernel
theorem d_Md_user_19 : decode b_Md_user 19 = .ok (.bipush 60, 2) := by decide +kernel
theorem d_Md_user_21 : decode b_Md_user 21 = .ok (.if_icmp .gt 7, 3) := by decide +kernel
theorem d_Md_password_0 : decode b_Md_password 0 = .ok (.aload_n 0, 1) := by decide +kernel
theorem d_Md_password_1 : decode b_Md_password 1 = .ok (.iload_n 1, 1) := by decide +kernel
theorem d_Md_password_27 : decode b_Md_password 27 = .ok (.iconst 0, 1) := by decide +kernel
theorem d_Md_password_28 : decode b_Md_password 28 = .ok (.invokevirtual 289, 3) := by decide +kernel
theorem d_Md_password_31 : decode b_Md_password 31 = .ok (.ifCond .ne 5, 3) := by decide +kernel
theorem d_Md_password_34 : decode b_Md_password 34 = .ok (.iconst 0, 1) := by decide +kernel
theorem d_Md_password_35 : decode b_Md_password 35 = .ok (.ireturn, 1) := by decide +kernel
theorem d_Md_password_2 : decode b_Md_password 2 = .ok (.ifCond .lt 25, 3) := by decide +kernel
theorem d_Md_password_5 : decode b_Md_password 5 = .ok (.iload_n 1, 1) := by decide +kernel
theorem d_Md_password_6 : decode b_Md_password 6 = .ok (.iconst 4, 1) := by decide +kernel
theorem d_Md_password_7 : decode b_Md_password 7 = .ok (.if_icmp .ge 20, 3) := by decide +kernel
theorem d_Md_password_10 : decode b_Md_password 10 = .ok (.iload 4, 2) := by decide +kernel
theorem d_Md_password_12 : decode b_Md_password 12 = .ok (.iconst 1, 1) := by decide +kernel
theorem d_Md_password_13 : decode b_Md_password 13 = .ok (.if_icmp .lt 14, 3) := by decide +kernel
theorem d_Md_password_16 : decode b_Md_password 16 = .ok (.iload 4, 2) := by decide +kernel
theorem d_Md_password_18 : decode b_Md_password 18 = .ok (.bipush 60, 2) := by decide +kernel
theorem d_Md_password_20 : decode b_Md_password 20 = .ok (.if_icmp .gt 7, 3) := by decide +kernel
theorem d_Md_name_0 : decode b_Md_name 0 = .ok (.aload_n 0, 1) := by decide +kernel
theorem d_Md_name_1 : decode b_Md_name 1 = .ok (.iload_n 1, 1) := by decide +kernel
theorem d_Md_name_15 : decode b_Md_name 15 = .ok (.iconst 0, 1) := by decide +kernel
theorem d_Md_name_16 : decode b_Md_name 16 = .ok (.invokevirtual 289, 3) := by decide +kernel
theorem d_Md_name_19 : decode b_Md_name 19 = .ok (.ifCond .eq 12, 3) := by decide +kernel
theorem d_Md_name_31 : decode b_Md_name 31 = .ok (.iconst 0, 1) := by decide +kernel
theorem d_Md_name_32 : decode b_Md_name 32 = .ok (.ireturn, 1) := by decide +kernel
theorem d_Md_name_2 : decode b_Md_name 2 = .ok (.ifCond .lt 13, 3) := by decide +kernel
theorem d_Md_name_5 : decode b_Md_name 5 = .ok (.iload_n 1, 1) := by decide +kernel
theorem d_Md_name_6 : decode b_Md_name 6 = .ok (.bipush 32, 2) := by decide +kernel
theorem d_Md_name_8 : decode b_Md_name 8 = .ok (.if_icmp .ge 7, 3) := by decide +kernel
theorem d_Md_prove_0 : decode b_Md_prove 0 = .ok (.aload_n 0, 1) := by decide +kernel
theorem d_Md_prove_1 : decode b_Md_prove 1 = .ok (.iload_n 1, 1) := by decide +kernel
theorem d_Md_prove_14 : decode b_Md_prove 14 = .ok (.iconst 0, 1) := by decide +kernel
theorem d_Md_prove_15 : decode b_Md_prove 15 = .ok (.invokevirtual 289, 3) := by decide +kernel
theorem d_Md_prove_18 : decode b_Md_prove 18 = .ok (.ifCond .ne 5, 3) := by decide +kernel
theorem d_Md_prove_21 : decode b_Md_prove 21 = .ok (.iconst 0, 1) := by decide +kernel
theorem d_Md_prove_22 : decode b_Md_prove 22 = .ok (.ireturn, 1) := by decide +kernel
theorem d_Md_prove_2 : decode b_Md_prove 2 = .ok (.ifCond .lt 12, 3) := by decide +kernel
theorem d_Md_prove_5 : decode b_Md_prove 5 = .ok (.iload_n 1, 1) := by decide +kernel
theorem d_Md_prove_6 : decode b_Md_prove 6 = .ok (.iconst 4, 1) := by decide +kernel
theorem d_Md_prove_7 : decode b_Md_prove 7 = .ok (.if_icmp .ge 7, 3) := by decide +kernel
theorem d_Md_seal_0 : decode b_Md_seal 0 = .ok (.aload_n 0, 1) := by decide +kernel
theorem d_Md_seal_1 : decode b_Md_seal 1 = .ok (.iload_n 1, 1) := by decide +kernel
theorem d_Md_seal_14 : decode b_Md_seal 14 = .ok (.iconst 0, 1) := by decide +kernel
theorem d_Md_seal_15 : decode b_Md_seal 15 = .ok (.invokevirtual 289, 3) := by decide +kernel
theorem d_Md_seal_18 : decode b_Md_seal 18 = .ok (.ifCond .eq 40, 3) := by decide +kernel
theorem d_Md_seal_58 : decode b_Md_seal 58 = .ok (.return_, 1) := by decide +kernel
theorem d_Md_seal_2 : decode b_Md_seal 2 = .ok (.ifCond .lt 12, 3) := by decide +kernel
theorem d_Md_seal_5 : decode b_Md_seal 5 = .ok (.iload_n 1, 1) := by decide +kernel
theorem d_Md_seal_6 : decode b_Md_seal 6 = .ok (.iconst 4, 1) := by decide +kernel
theorem d_Md_seal_7 : decode b_Md_seal 7 = .ok (.if_icmp .ge 7, 3) := by decide +kernel
theorem d_Md_send_0 : decode b_Md_send 0 = .ok (.aload_n 0, 1) := by decide +kernel
theorem d_Md_send_1 : decode b_Md_send 1 = .ok (.iload_n 1, 1) := by decide +kernel
theorem d_Md_send_14 : decode b_Md_send 14 = .ok (.iconst 0, 1) := by decide +kernel
theorem d_Md_send_15 : decode b_Md_send 15 = .ok (.invokevirtual 289, 3) := by decide +kernel
theorem d_Md_send_18 : decode b_Md_send 18 = .ok (.ifCond .ne 5, 3) := by decide +kernel
theorem d_Md_send_21 : decode b_Md_send 21 = .ok (.iconst 0, 1) := by decide +kernel
theorem d_Md_send_22 : decode b_Md_send 22 = .ok (.ireturn, 1) := by decide +kernel
theorem d_Md_send_2 : decode b_Md_send 2 = .ok (.ifCond .lt 12, 3) := by decide +kernel
theorem d_Md_send_5 : decode b_Md_send 5 = .ok (.iload_n 1, 1) := by decide +kernel
theorem d_Md_send_6 : decode b_Md_send 6 = .ok (.iconst 4, 1) := by decide +kernel
theorem d_Md_send_7 : decode b_Md_send 7 = .ok (.if_icmp .ge 7, 3) := by decide +kernel
theorem d_Md_draft_0 : decode b_Md_draft 0 = .ok (.aload_n 0, 1) := by decide +kernel
theorem d_Md_draft_1 : decode b_Md_draft 1 = .ok (.iload_n 1, 1) := by decide +kernel
theorem d_Md_draft_2 : decode b_Md_draft 2 = .ok (.invokestatic 303, 3) := by decide +kernel
theorem d_Md_draft_5 : decode b_Md_draft 5 = .ok (.ifCond .eq 14, 3) := by decide +kernel
theorem d_Md_draft_19 : decode b_Md_draft 19 = .ok (.iconst 0, 1) := by decide +kernel
theorem d_Md_draft_20 : decode b_Md_draft 20 = .ok (.invokevirtual 289, 3) := by decide +kernel
theorem d_Md_draft_23 : decode b_Md_draft 23 = .ok (.ifCond .eq 10, 3) := by decide +kernel
theorem d_Md_draft_33 : decode b_Md_draft 33 = .ok (.return_, 1) := by decide +kernel
theorem d_Md_draft_8 : decode b_Md_draft 8 = .ok (.iload_n 2, 1) := by decide +kernel
theorem d_Md_draft_9 : decode b_Md_draft 9 = .ok (.invokestatic 303, 3) := by decide +kernel
theorem d_Md_draft_12 : decode b_Md_draft 12 = .ok (.ifCond .eq 7, 3) := by decide +kernel
theorem d_Md_put_0 : decode b_Md_put 0 = .ok (.aload_n 0, 1) := by decide +kernel
theorem d_Md_put_1 : decode b_Md_put 1 = .ok (.iload_n 1, 1) := by decide +kernel
theorem d_Md_put_2 : decode b_Md_put 2 = .ok (.invokestatic 303, 3) := by decide +kernel
theorem d_Md_put_5 : decode b_Md_put 5 = .ok (.ifCond .eq 24, 3) := by decide +kernel
theorem d_Md_put_29 : decode b_Md_put 29 = .ok (.iconst 0, 1) := by decide +kernel
theorem d_Md_put_30 : decode b_Md_put 30 = .ok (.invokevirtual 289, 3) := by decide +kernel
theorem d_Md_put_33 : decode b_Md_put 33 = .ok (.ifCond .eq 12, 3) := by decide +kernel
theorem d_Md_put_45 : decode b_Md_put 45 = .ok (.iconst 0, 1) := by decide +kernel
theorem d_Md_put_46 : decode b_Md_put 46 = .ok (.ireturn, 1) := by decide +kernel
theorem d_Md_put_8 : decode b_Md_put 8 = .ok (.iload_n 3, 1) := by decide +kernel
theorem d_Md_put_9 : decode b_Md_put 9 = .ok (.invokestatic 303, 3) := by decide +kernel
theorem d_Md_put_12 : decode b_Md_put 12 = .ok (.ifCond .eq 17, 3) := by decide +kernel
theorem d_Md_put_15 : decode b_Md_put 15 = .ok (.iload_n 2, 1) := by decide +kernel
theorem d_Md_put_16 : decode b_Md_put 16 = .ok (.ifCond .lt 13, 3) := by decide +kernel
theorem d_Md_put_19 : decode b_Md_put 19 = .ok (.iload_n 2, 1) := by decide +kernel
theorem d_Md_put_20 : decode b_Md_put 20 = .ok (.bipush 100, 2) := by decide +kernel
theorem d_Md_put_22 : decode b_Md_put 22 = .ok (.if_icmp .gt 7, 3) := by decide +kernel
theorem d_Md_number_0 : decode b_Md_number 0 = .ok (.aload_n 0, 1) := by decide +kernel
theorem d_Md_number_1 : decode b_Md_number 1 = .ok (.iload_n 1, 1) := by decide +kernel
theorem d_Md_number_2 : decode b_Md_number 2 = .ok (.invokestatic 303, 3) := by decide +kernel
theorem d_Md_number_5 : decode b_Md_number 5 = .ok (.invokevirtual 289, 3) := by decide +kernel
theorem d_Md_number_8 : decode b_Md_number 8 = .ok (.ifCond .eq 12, 3) := by decide +kernel
theorem d_Md_number_20 : decode b_Md_number 20 = .ok (.iconst 0, 1) := by decide +kernel
theorem d_Md_number_21 : decode b_Md_number 21 = .ok (.ireturn, 1) := by decide +kernel
theorem d_Md_hello_0 : decode b_Md_hello 0 = .ok (.aload_n 0, 1) := by decide +kernel
theorem d_Md_hello_1 : decode b_Md_hello 1 = .ok (.iload_n 1, 1) := by decide +kernel
theorem d_Md_hello_2 : decode b_Md_hello 2 = .ok (.invokestatic 303, 3) := by decide +kernel
theorem d_Md_hello_5 : decode b_Md_hello 5 = .ok (.invokevirtual 289, 3) := by decide +kernel
theorem d_Md_hello_8 : decode b_Md_hello 8 = .ok (.ifCond .eq 13, 3) := by decide +kernel
theorem d_Md_hello_21 : decode b_Md_hello 21 = .ok (.iconst 0, 1) := by decide +kernel
theorem d_Md_hello_22 : decode b_Md_hello 22 = .ok (.ireturn, 1) := by decide +kernel
theorem d_Md_reply_0 : decode b_Md_reply 0 = .ok (.aload_n 0, 1) := by decide +kernel
theorem d_Md_reply_1 : decode b_Md_reply 1 = .ok (.iload_n 3, 1) := by decide +kernel
theorem d_Md_reply_2 : decode b_Md_reply 2 = .ok (.iconst 1, 1) := by decide +kernel
theorem d_Md_reply_16 : decode b_Md_reply 16 = .ok (.iconst 0, 1) := by decide +kernel
theorem d_Md_reply_17 : decode b_Md_reply 17 = .ok (.invokevirtual 289, 3) := by decide +kernel
theorem d_Md_reply_20 : decode b_Md_reply 20 = .ok (.ifCond .eq 21, 3) := by decide +kernel
theorem d_Md_reply_41 : decode b_Md_reply 41 = .ok (.aload_n 0, 1) := by decide +kernel
theorem d_Md_reply_42 : decode b_Md_reply 42 = .ok (.getfield 243, 3) := by decide +kernel
theorem d_Md_reply_45 : decode b_Md_reply 45 = .ok (.ifCond .le 7, 3) := by decide +kernel
theorem d_Md_reply_48 : decode b_Md_reply 48 = .ok (.iconst 0, 1) := by decide +kernel
theorem d_Md_reply_49 : decode b_Md_reply 49 = .ok (.goto 4, 3) := by decide +kernel
theorem d_Md_reply_53 : decode b_Md_reply 53 = .ok (.ireturn, 1) := by decide +kernel
theorem d_Md_reply_3 : decode b_Md_reply 3 = .ok (.if_icmp .lt 13, 3) := by decide +kernel
theorem d_Md_reply_6 : decode b_Md_reply 6 = .ok (.iload_n 3, 1) := by decide +kernel
theorem d_Md_reply_7 : decode b_Md_reply 7 = .ok (.bipush 60, 2) := by decide +kernel
theorem d_Md_reply_9 : decode b_Md_reply 9 = .ok (.if_icmp .gt 7, 3) := by decide +kernel
theorem d_Md_ticks_0 : decode b_Md_ticks 0 = .ok (.aload_n 0, 1) := by decide +kernel
theorem d_Md_ticks_1 : decode b_Md_ticks 1 = .ok (.iload_n 1, 1) := by decide +kernel
theorem d_Md_ticks_2 : decode b_Md_ticks 2 = .ok (.iconst 1, 1) := by decide +kernel
theorem d_Md_ticks_29 : decode b_Md_ticks 29 = .ok (.iconst 0, 1) := by decide +kernel
theorem d_Md_ticks_30 : decode b_Md_ticks 30 = .ok (.invokevirtual 289, 3) := by decide +kernel
theorem d_Md_ticks_33 : decode b_Md_ticks 33 = .ok (.ifCond .ne 5, 3) := by decide +kernel
theorem d_Md_ticks_36 : decode b_Md_ticks 36 = .ok (.iconst 0, 1) := by decide +kernel
theorem d_Md_ticks_37 : decode b_Md_ticks 37 = .ok (.ireturn, 1) := by decide +kernel
theorem d_Md_ticks_3 : decode b_Md_ticks 3 = .ok (.if_icmp .lt 26, 3) := by decide +kernel
theorem d_Md_ticks_6 : decode b_Md_ticks 6 = .ok (.iload_n 1, 1) := by decide +kernel
theorem d_Md_ticks_7 : decode b_Md_ticks 7 = .ok (.sipush 1000, 3) := by decide +kernel
theorem d_Md_ticks_10 : decode b_Md_ticks 10 = .ok (.if_icmp .gt 19, 3) := by decide +kernel
theorem d_Md_count_0 : decode b_Md_count 0 = .ok (.aload_n 0, 1) := by decide +kernel
theorem d_Md_count_1 : decode b_Md_count 1 = .ok (.iload_n 1, 1) := by decide +kernel
theorem d_Md_count_14 : decode b_Md_count 14 = .ok (.iconst 0, 1) := by decide +kernel
theorem d_Md_count_15 : decode b_Md_count 15 = .ok (.invokevirtual 289, 3) := by decide +kernel
theorem d_Md_count_18 : decode b_Md_count 18 = .ok (.ifCond .ne 5, 3) := by decide +kernel
theorem d_Md_count_21 : decode b_Md_count 21 = .ok (.iconst 0, 1) := by decide +kernel
theorem d_Md_count_22 : decode b_Md_count 22 = .ok (.ireturn, 1) := by decide +kernel
theorem d_Md_count_2 : decode b_Md_count 2 = .ok (.ifCond .lt 12, 3) := by decide +kernel
theorem d_Md_count_5 : decode b_Md_count 5 = .ok (.iload_n 1, 1) := by decide +kernel
theorem d_Md_count_6 : decode b_Md_count 6 = .ok (.iconst 5, 1) := by decide +kernel
theorem d_Md_count_7 : decode b_Md_count 7 = .ok (.if_icmp .gt 7, 3) := by decide +kernel
theorem d_Md_byteAt_0 : decode b_Md_byteAt 0 = .ok (.aload_n 0, 1) := by decide +kernel
theorem d_Md_byteAt_1 : decode b_Md_byteAt 1 = .ok (.iload_n 1, 1) := by decide +kernel
theorem d_Md_byteAt_17 : decode b_Md_byteAt 17 = .ok (.iconst 0, 1) := by decide +kernel
theorem d_Md_byteAt_18 : decode b_Md_byteAt 18 = .ok (.invokevirtual 289, 3) := by decide +kernel
theorem d_Md_byteAt_21 : decode b_Md_byteAt 21 = .ok (.ifCond .eq 12, 3) := by decide +kernel
theorem d_Md_byteAt_33 : decode b_Md_byteAt 33 = .ok (.iconst 0, 1) := by decide +kernel
theorem d_Md_byteAt_34 : decode b_Md_byteAt 34 = .ok (.ireturn, 1) := by decide +kernel
theorem d_Md_byteAt_2 : decode b_Md_byteAt 2 = .ok (.ifCond .lt 15, 3) := by decide +kernel
theorem d_Md_byteAt_5 : decode b_Md_byteAt 5 = .ok (.iload_n 1, 1) := by decide +kernel
theorem d_Md_byteAt_6 : decode b_Md_byteAt 6 = .ok (.aload_n 0, 1) := by decide +kernel
theorem d_Md_byteAt_7 : decode b_Md_byteAt 7 = .ok (.getfield 325, 3) := by decide +kernel
theorem d_Md_byteAt_10 : decode b_Md_byteAt 10 = .ok (.if_icmp .ge 7, 3) := by decide +kernel
theorem d_Md_record_0 : decode b_Md_record 0 = .ok (.iconst (-1), 1) := by decide +kernel
theorem d_Md_record_1 : decode b_Md_record 1 = .ok (.istore_n 3, 1) := by decide +kernel
theorem d_Md_record_2 : decode b_Md_record 2 = .ok (.iconst 0, 1) := by decide +kernel
theorem d_Md_record_3 : decode b_Md_record 3 = .ok (.istore 4, 2) := by decide +kernel
theorem d_Md_record_5 : decode b_Md_record 5 = .ok (.iload 4, 2) := by decide +kernel
theorem d_Md_record_7 : decode b_Md_record 7 = .ok (.aload_n 0, 1) := by decide +kernel
theorem d_Md_record_8 : decode b_Md_record 8 = .ok (.getfield 440, 3) := by decide +kernel
theorem d_Md_record_11 : decode b_Md_record 11 = .ok (.if_icmp .ge 64, 3) := by decide +kernel
theorem d_Md_record_75 : decode b_Md_record 75 = .ok (.aload_n 0, 1) := by decide +kernel
theorem d_Md_record_76 : decode b_Md_record 76 = .ok (.iload_n 3, 1) := by decide +kernel
theorem d_Md_record_77 : decode b_Md_record 77 = .ok (.ifCond .lt 17, 3) := by decide +kernel
theorem d_Md_record_94 : decode b_Md_record 94 = .ok (.iconst 0, 1) := by decide +kernel
theorem d_Md_record_95 : decode b_Md_record 95 = .ok (.invokevirtual 289, 3) := by decide +kernel
theorem d_Md_record_98 : decode b_Md_record 98 = .ok (.ifCond .ne 5, 3) := by decide +kernel
theorem d_Md_record_101 : decode b_Md_record 101 = .ok (.lconst 0, 1) := by decide +kernel
theorem d_Md_record_102 : decode b_Md_record 102 = .ok (.lreturn, 1) := by decide +kernel
theorem d_Md_spoil_0 : decode b_Md_spoil 0 = .ok (.aload_n 0, 1) := by decide +kernel
theorem d_Md_spoil_1 : decode b_Md_spoil 1 = .ok (.iload_n 1, 1) := by decide +kernel
theorem d_Md_spoil_24 : decode b_Md_spoil 24 = .ok (.iconst 0, 1) := by decide +kernel
theorem d_Md_spoil_25 : decode b_Md_spoil 25 = .ok (.invokevirtual 289, 3) := by decide +kernel
theorem d_Md_spoil_28 : decode b_Md_spoil 28 = .ok (.ifCond .ne 5, 3) := by decide +kernel
theorem d_Md_spoil_31 : decode b_Md_spoil 31 = .ok (.iconst 0, 1) := by decide +kernel
theorem d_Md_spoil_32 : decode b_Md_spoil 32 = .ok (.ireturn, 1) := by decide +kernel
theorem d_Md_spoil_2 : decode b_Md_spoil 2 = .ok (.ifCond .lt 22, 3) := by decide +kernel
theorem d_Md_spoil_5 : decode b_Md_spoil 5 = .ok (.iload_n 1, 1) := by decide +kernel
theorem d_Md_spoil_6 : decode b_Md_spoil 6 = .ok (.aload_n 0, 1) := by decide +kernel
theorem d_Md_spoil_7 : decode b_Md_spoil 7 = .ok (.getfield 297, 3) := by decide +kernel
theorem d_Md_spoil_10 : decode b_Md_spoil 10 = .ok (.if_icmp .ge 14, 3) := by decide +kernel
theorem d_Md_spoil_13 : decode b_Md_spoil 13 = .ok (.iload_n 2, 1) := by decide +kernel
theorem d_Md_spoil_14 : decode b_Md_spoil 14 = .ok (.invokestatic 303, 3) := by decide +kernel
theorem d_Md_spoil_17 : decode b_Md_spoil 17 = .ok (.ifCond .eq 7, 3) := by decide +kernel
set_option maxHeartbeats 4000000 in
set_option maxRecDepth 100000 in
/-- secret: illegal argument -/
theorem b_secret1 (l : Launch) (dC : Nat → ClassId) (dI : Nat → Nat → Nat) (cT : Nat → ClassId) (sz : Nat) (mo : Nat) (r : Nat → Nat) (z : Nat → Int32) (q : Nat → Int64) (cd : Int32) (tm : Int32) (sn : Nat) (tx : Nat) (x : Int32) (v : Int64) (y : Int32) (hbad : x < 0 ∨ 3 < x) : Met l y_Md_secret (Cond.code y_Md_secret b_Md_secret 6 (Option.none : Option Jvm.ClassFile.FieldType) :: BIG) ({ frames := 1, cells := 0, slots := 0, locals := 21 }) (va_Pc [.ref mo, .int x, .long v, .int y] (fun U => U.heap.size = sz ∧ va_P (dC, dI) vcl [(mo, .inr (12, mdF r z q cd tm (nI sn) (nI tx)))] U.heap ∧ va_K (dC, dI) vcl (tyL cT) U ∧ va_D (fun _ => True) [(mo, .inr (12, mdF r z q cd tm (nI sn) (nI tx)))])) (va_Qv (S := Unit) (fun u => True) (fun u t => va_P (dC, dI) vcl [(mo, .inr (12, mdF r z q 1 tm (nI sn) (nI tx)))] t.heap ∧ va_K (dC, dI) vcl (tyL cT) t ∧ va_D (va_A [(mo, .inr (12, mdF r z q cd tm (nI sn) (nI tx)))] sz) [(mo, .inr (12, mdF r z q 1 tm (nI sn) (nI tx)))]) (va_A [(mo, .inr (12, mdF r z q cd tm (nI sn) (nI tx)))] sz)) 0 0 (va_A [(mo, .inr (12, mdF r z q cd tm (nI sn) (nI tx)))] sz) := by
  refine Met.ofW (cc := b_Md_secret) (maxL := 6) (ret := (Option.none : Option Jvm.ClassFile.FieldType)) (by decide) rfl ?_
  intro p e s m args below meth c s₁ B hml hv
  obtain ⟨hargs, hsz, hP, hK, hD0⟩ := hv
  have hx := B.exec
  have hb := B.bytes
  have hr := B.returns
  have hts := atoms_spec (ws := (Cond.code y_Md_secret b_Md_secret 6 (Option.none : Option Jvm.ClassFile.FieldType) :: BIG)) B.pre
  have hg : ∀ w ∈ BIG, w.before _ s = true := fun w h => hts w (List.mem_cons_of_mem _ h)
  have hown : s.vm.findClass "DoorServerModel" = some m.cls := findClass_of_methodNamed B.named
  have hlocks := B.notSynchronized
  subst hsz
  have hD := hD0.self (sz := s.heap.size)
  generalize hAe : va_A [(mo, .inr (12, mdF r z q cd tm (nI sn) (nI tx)))] s.heap.size = A at hD ⊢
  have hA : ∀ q : Nat, s.heap.size ≤ q → A q := fun q h => by rw [← hAe]; exact Or.inr h
  have hS : va_S A s.heap s.heap [] := va_S.rf
  have hl := lv_entry ([.ref mo, .int x, .long v, .int y]) (n := 6) (Nat.le_of_ble_eq_true rfl)
  refine W.eq (g2 := entryFrame m (List.toArray [.ref mo, .int x, .long v, .int y]) 6) (by rw [hargs]) ?_
  rw [lg_entry_eq]
  generalize (lg_sl ([.ref mo, .int x, .long v, .int y]) ++ List.replicate (6 - (lg_sl ([.ref mo, .int x, .long v, .int y])).length) Slot.unset).toArray = ls at hl ⊢
  have hl : lv_has ls 6 [(0, .ref mo), (1, .int x), (2, .long v), (4, .int y)] := hl
  change W p l e ({ frames := 1, cells := 0, slots := 0, locals := 21 } : Room) s m args below meth c s.heap [] 0 0 _ _
  have hP : va_P (dC, dI) vcl [(mo, .inr (12, mdF r z q cd tm (nI sn) (nI tx)))] s.heap := hP
  refine lv_aload_n hx hb d_Md_secret_0 rfl (lv_at hl 0 rfl) ?_
  refine lv_iload_n hx hb d_Md_secret_1 rfl (lv_at hl 1 rfl) ?_
  have K1 : W p l e ({ frames := 1, cells := 0, slots := 0, locals := 21 } : Room) s m args below meth c s.heap [] 0 0 (MQ below (va_Qv (S := Unit) (fun u => True) (fun u t => va_P (dC, dI) vcl [(mo, .inr (12, mdF r z q 1 tm (nI sn) (nI tx)))] t.heap ∧ va_K (dC, dI) vcl (tyL cT) t ∧ va_D A [(mo, .inr (12, mdF r z q 1 tm (nI sn) (nI tx)))]) A) args s 0 0 A) (F0 m 27 ls [.ref mo]) := by
    refine lv_iconst (v := 0) hx hb d_Md_secret_27 (by decide) ?_
    have hPc := hP.sub (ws' := [(mo, .inr (12, mdF r z q cd tm (nI sn) (nI tx)))]) [0] rfl
    have hDc := hD.sub (ws' := [(mo, .inr (12, mdF r z q cd tm (nI sn) (nI tx)))]) [0] (by decide) rfl
    have hFc := va_free (wc := [(mo, .inr (12, mdF r z q cd tm (nI sn) (nI tx)))]) hD hS hA [0] rfl
    refine va_calli (va_runV (C := "DoorServerModel") (As := [.int 0]) (rest := []) ⟨hx, hb, hml, hown, hg⟩ (m_goes0 l dC dI cT s.heap.size mo r z q cd tm sn tx ) (cwV 1 hg (gI (List.forall_mem_append.mpr ⟨List.forall_mem_cons.mpr ⟨k_1165, List.forall_mem_cons.mpr ⟨k_1167, List.forall_mem_cons.mpr ⟨(big_sel (q := y_Md_goes) (n := 45) (by decide +kernel)), List.forall_mem_cons.mpr ⟨k_13, fun _ h => absurd h List.not_mem_nil⟩⟩⟩⟩, List.forall_mem_cons.mpr ⟨k_1168, fun _ h => h⟩⟩)) rfl rfl rfl (by decide +kernel) ⟨Nat.le_of_ble_eq_true rfl, Nat.le_of_ble_eq_true rfl⟩) ⟨fun a U g mk q => by obtain ⟨q0, q1, qP, qK, qD⟩ := q; exact ⟨q0, q1, qP, va_K.moved (u := U) (U := U.calling g mk a) (Vm.Alike.refl U.vm) qK, qD⟩, va_recv (q0 := 0) (ci := 12) hK hP rfl rfl, fun U hU hW => ⟨rfl, by rw [hU], by rw [hU]; exact hPc, va_K.moved hW.alike hK, hDc.weaken (fun _ _ _ _ => trivial)⟩⟩ rfl rfl hl.1 rfl (lv_room (Nat.le_of_ble_eq_true rfl)) d_Md_secret_28 ⟨Nat.le_of_ble_eq_true rfl, Nat.le_of_ble_eq_true rfl⟩) hS (fun q _ h => hFc q h) hFc (fun rv9 u t H1 locs ht hvm hw hB hz1 hk1 hS => ?_)
    try dsimp only at hw hB
    obtain ⟨hP1, hK1, hD1⟩ := hB
    rw [ht] at hP1
    obtain ⟨rfl, hw⟩ := hw
    obtain ⟨hP, hD⟩ := va_join (wr := []) (w1 := [(mo, .inr (12, mdF r z q 1 tm (nI sn) (nI tx)))]) hP hD [0] [] rfl rfl (by decide) (by decide) hk1 hFc hP1 hD1
    have hw2 := hw
    clear hPc hDc hFc hz1 hk1 hP1 hK1 hD1
    generalize H1 = H at hP hS ⊢
    have hP : va_P (dC, dI) vcl [(mo, .inr (12, mdF r z q 1 tm (nI sn) (nI tx)))] H := hP
    have hD : va_D A [(mo, .inr (12, mdF r z q 1 tm (nI sn) (nI tx)))] := hD
    refine lv_if_eq (tgt := 76) hx hb d_Md_secret_31 (by decide) (fun hc3 => ?_) (fun hn9 => absurd (by decide) hn9)
    have hP9 := hP.sub (ws' := [(mo, .inr (12, mdF r z q 1 tm (nI sn) (nI tx)))]) [0] rfl
    have hD9 := hD.sub (ws' := [(mo, .inr (12, mdF r z q 1 tm (nI sn) (nI tx)))]) [0] (by decide) rfl
    exact W.vret hx hb hr (fun t ht hW => ⟨⟨(), rfl, trivial, by rw [ht]; exact hP9, va_K.moved hW.alike hK, hD9⟩, hS.F ht⟩) hS.2.2 d_Md_secret_76
  refine lv_if_lt (tgt := 27) hx hb d_Md_secret_2 (by decide) (fun hc4 => ?_) (fun hc4 => ?_)
  · exact K1
  · refine lv_iload_n hx hb d_Md_secret_5 rfl (lv_at hl 1 rfl) ?_
    refine lv_iconst (v := 4) hx hb d_Md_secret_6 (by decide) ?_
    refine lv_icmp_ge (tgt := 27) hx hb d_Md_secret_7 (by decide) (fun hc5 => ?_) (fun hn9 => absurd ((lt_le1 (by decide)).mp (hbad.resolve_left hc4)) hn9)
    exact K1
set_option maxHeartbeats 4000000 in
set_option maxRecDepth 100000 in
/-- secret: illegal argument -/
theorem b_secret2 (l : Launch) (dC : Nat → ClassId) (dI : Nat → Nat → Nat) (cT : Nat → ClassId) (sz : Nat) (mo : Nat) (r : Nat → Nat) (z : Nat → Int32) (q : Nat → Int64) (cd : Int32) (tm : Int32) (sn : Nat) (tx : Nat) (x : Int32) (v : Int64) (y : Int32) (hx1 : ¬ x < 0) (hx2 : ¬ 3 < x) (hbad : y < 1 ∨ 40 < y) : Met l y_Md_secret (Cond.code y_Md_secret b_Md_secret 6 (Option.none : Option Jvm.ClassFile.FieldType) :: BIG) ({ frames := 1, cells := 0, slots := 0, locals := 21 }) (va_Pc [.ref mo, .int x, .long v, .int y] (fun U => U.heap.size = sz ∧ va_P (dC, dI) vcl [(mo, .inr (12, mdF r z q cd tm (nI sn) (nI tx)))] U.heap ∧ va_K (dC, dI) vcl (tyL cT) U ∧ va_D (fun _ => True) [(mo, .inr (12, mdF r z q cd tm (nI sn) (nI tx)))])) (va_Qv (S := Unit) (fun u => True) (fun u t => va_P (dC, dI) vcl [(mo, .inr (12, mdF r z q 1 tm (nI sn) (nI tx)))] t.heap ∧ va_K (dC, dI) vcl (tyL cT) t ∧ va_D (va_A [(mo, .inr (12, mdF r z q cd tm (nI sn) (nI tx)))] sz) [(mo, .inr (12, mdF r z q 1 tm (nI sn) (nI tx)))]) (va_A [(mo, .inr (12, mdF r z q cd tm (nI sn) (nI tx)))] sz)) 0 0 (va_A [(mo, .inr (12, mdF r z q cd tm (nI sn) (nI tx)))] sz) := by
  refine Met.ofW (cc := b_Md_secret) (maxL := 6) (ret := (Option.none : Option Jvm.ClassFile.FieldType)) (by decide) rfl ?_
  intro p e s m args below meth c s₁ B hml hv
  obtain ⟨hargs, hsz, hP, hK, hD0⟩ := hv
  have hx := B.exec
  have hb := B.bytes
  have hr := B.returns
  have hts := atoms_spec (ws := (Cond.code y_Md_secret b_Md_secret 6 (Option.none : Option Jvm.ClassFile.FieldType) :: BIG)) B.pre
  have hg : ∀ w ∈ BIG, w.before _ s = true := fun w h => hts w (List.mem_cons_of_mem _ h)
  have hown : s.vm.findClass "DoorServerModel" = some m.cls := findClass_of_methodNamed B.named
  have hlocks := B.notSynchronized
  subst hsz
  have hD := hD0.self (sz := s.heap.size)
  generalize hAe : va_A [(mo, .inr (12, mdF r z q cd tm (nI sn) (nI tx)))] s.heap.size = A at hD ⊢
  have hA : ∀ q : Nat, s.heap.size ≤ q → A q := fun q h => by rw [← hAe]; exact Or.inr h
  have hS : va_S A s.heap s.heap [] := va_S.rf
  have hl := lv_entry ([.ref mo, .int x, .long v, .int y]) (n := 6) (Nat.le_of_ble_eq_true rfl)
  refine W.eq (g2 := entryFrame m (List.toArray [.ref mo, .int x, .long v, .int y]) 6) (by rw [hargs]) ?_
  rw [lg_entry_eq]
  generalize (lg_sl ([.ref mo, .int x, .long v, .int y]) ++ List.replicate (6 - (lg_sl ([.ref mo, .int x, .long v, .int y])).length) Slot.unset).toArray = ls at hl ⊢
  have hl : lv_has ls 6 [(0, .ref mo), (1, .int x), (2, .long v), (4, .int y)] := hl
  change W p l e ({ frames := 1, cells := 0, slots := 0, locals := 21 } : Room) s m args below meth c s.heap [] 0 0 _ _
  have hP : va_P (dC, dI) vcl [(mo, .inr (12, mdF r z q cd tm (nI sn) (nI tx)))] s.heap := hP
  refine lv_aload_n hx hb d_Md_secret_0 rfl (lv_at hl 0 rfl) ?_
  refine lv_iload_n hx hb d_Md_secret_1 rfl (lv_at hl 1 rfl) ?_
  refine lv_if_lt (tgt := 27) hx hb d_Md_secret_2 (by decide) (fun hn9 => absurd hn9 (hx1)) (fun hc6 => ?_)
  refine lv_iload_n hx hb d_Md_secret_5 rfl (lv_at hl 1 rfl) ?_
  refine lv_iconst (v := 4) hx hb d_Md_secret_6 (by decide) ?_
  refine lv_icmp_ge (tgt := 27) hx hb d_Md_secret_7 (by decide) (fun hn9 => absurd hn9 (fun h9 => hx2 ((lt_le1 (by decide)).mpr h9))) (fun hc7 => ?_)
  refine lv_iload hx hb d_Md_secret_10 (lv_at hl 3 rfl) ?_
  refine lv_iconst (v := 1) hx hb d_Md_secret_12 (by decide) ?_
  have K8 : W p l e ({ frames := 1, cells := 0, slots := 0, locals := 21 } : Room) s m args below meth c s.heap [] 0 0 (MQ below (va_Qv (S := Unit) (fun u => True) (fun u t => va_P (dC, dI) vcl [(mo, .inr (12, mdF r z q 1 tm (nI sn) (nI tx)))] t.heap ∧ va_K (dC, dI) vcl (tyL cT) t ∧ va_D A [(mo, .inr (12, mdF r z q 1 tm (nI sn) (nI tx)))]) A) args s 0 0 A) (F0 m 27 ls [.ref mo]) := by
    refine lv_iconst (v := 0) hx hb d_Md_secret_27 (by decide) ?_
    have hPc := hP.sub (ws' := [(mo, .inr (12, mdF r z q cd tm (nI sn) (nI tx)))]) [0] rfl
    have hDc := hD.sub (ws' := [(mo, .inr (12, mdF r z q cd tm (nI sn) (nI tx)))]) [0] (by decide) rfl
    have hFc := va_free (wc := [(mo, .inr (12, mdF r z q cd tm (nI sn) (nI tx)))]) hD hS hA [0] rfl
    refine va_calli (va_runV (C := "DoorServerModel") (As := [.int 0]) (rest := []) ⟨hx, hb, hml, hown, hg⟩ (m_goes0 l dC dI cT s.heap.size mo r z q cd tm sn tx ) (cwV 1 hg (gI (List.forall_mem_append.mpr ⟨List.forall_mem_cons.mpr ⟨k_1165, List.forall_mem_cons.mpr ⟨k_1167, List.forall_mem_cons.mpr ⟨(big_sel (q := y_Md_goes) (n := 45) (by decide +kernel)), List.forall_mem_cons.mpr ⟨k_13, fun _ h => absurd h List.not_mem_nil⟩⟩⟩⟩, List.forall_mem_cons.mpr ⟨k_1168, fun _ h => h⟩⟩)) rfl rfl rfl (by decide +kernel) ⟨Nat.le_of_ble_eq_true rfl, Nat.le_of_ble_eq_true rfl⟩) ⟨fun a U g mk q => by obtain ⟨q0, q1, qP, qK, qD⟩ := q; exact ⟨q0, q1, qP, va_K.moved (u := U) (U := U.calling g mk a) (Vm.Alike.refl U.vm) qK, qD⟩, va_recv (q0 := 0) (ci := 12) hK hP rfl rfl, fun U hU hW => ⟨rfl, by rw [hU], by rw [hU]; exact hPc, va_K.moved hW.alike hK, hDc.weaken (fun _ _ _ _ => trivial)⟩⟩ rfl rfl hl.1 rfl (lv_room (Nat.le_of_ble_eq_true rfl)) d_Md_secret_28 ⟨Nat.le_of_ble_eq_true rfl, Nat.le_of_ble_eq_true rfl⟩) hS (fun q _ h => hFc q h) hFc (fun rv9 u t H1 locs ht hvm hw hB hz1 hk1 hS => ?_)
    try dsimp only at hw hB
    obtain ⟨hP1, hK1, hD1⟩ := hB
    rw [ht] at hP1
    obtain ⟨rfl, hw⟩ := hw
    obtain ⟨hP, hD⟩ := va_join (wr := []) (w1 := [(mo, .inr (12, mdF r z q 1 tm (nI sn) (nI tx)))]) hP hD [0] [] rfl rfl (by decide) (by decide) hk1 hFc hP1 hD1
    have hw9 := hw
    clear hPc hDc hFc hz1 hk1 hP1 hK1 hD1
    generalize H1 = H at hP hS ⊢
    have hP : va_P (dC, dI) vcl [(mo, .inr (12, mdF r z q 1 tm (nI sn) (nI tx)))] H := hP
    have hD : va_D A [(mo, .inr (12, mdF r z q 1 tm (nI sn) (nI tx)))] := hD
    refine lv_if_eq (tgt := 76) hx hb d_Md_secret_31 (by decide) (fun hc10 => ?_) (fun hn9 => absurd (by decide) hn9)
    have hP9 := hP.sub (ws' := [(mo, .inr (12, mdF r z q 1 tm (nI sn) (nI tx)))]) [0] rfl
    have hD9 := hD.sub (ws' := [(mo, .inr (12, mdF r z q 1 tm (nI sn) (nI tx)))]) [0] (by decide) rfl
    exact W.vret hx hb hr (fun t ht hW => ⟨⟨(), rfl, trivial, by rw [ht]; exact hP9, va_K.moved hW.alike hK, hD9⟩, hS.F ht⟩) hS.2.2 d_Md_secret_76
  refine lv_icmp_lt (tgt := 27) hx hb d_Md_secret_13 (by decide) (fun hc11 => ?_) (fun hc11 => ?_)
  · exact K8
  · refine lv_iload hx hb d_Md_secret_16 (lv_at hl 3 rfl) ?_
    refine lv_bipush (v := 40) hx hb d_Md_secret_18 (by decide) ?_
    refine lv_icmp_gt (tgt := 27) hx hb d_Md_secret_20 (by decide) (fun hc12 => ?_) (fun hn9 => absurd (hbad.resolve_left hc11) hn9)
    exact K8
set_option maxHeartbeats 4000000 in
set_option maxRecDepth 100000 in
/-- user: illegal argument -/
theorem b_user1 (l : Launch) (dC : Nat → ClassId) (dI : Nat → Nat → Nat) (cT : Nat → ClassId) (sz : Nat) (mo : Nat) (r : Nat → Nat) (z : Nat → Int32) (q : Nat → Int64) (cd : Int32) (tm : Int32) (sn : Nat) (tx : Nat) (x : Int32) (v : Int64) (y : Int32) (hbad : x < 0 ∨ 31 < x) : Met l y_Md_user (Cond.code y_Md_user b_Md_user 7 (Option.some Jvm.ClassFile.FieldType.boolean) :: BIG) ({ frames := 1, cells := 0, slots := 0, locals := 21 }) (va_Pc [.ref mo, .int x, .long v, .int y] (fun U => U.heap.size = sz ∧ va_P (dC, dI) vcl [(mo, .inr (12, mdF r z q cd tm (nI sn) (nI tx)))] U.heap ∧ va_K (dC, dI) vcl (tyL cT) U ∧ va_D (fun _ => True) [(mo, .inr (12, mdF r z q cd tm (nI sn) (nI tx)))])) (va_Qi (S := Unit) (fun rv9 u => True) (fun u t => va_P (dC, dI) vcl [(mo, .inr (12, mdF r z q 1 tm (nI sn) (nI tx)))] t.heap ∧ va_K (dC, dI) vcl (tyL cT) t ∧ va_D (va_A [(mo, .inr (12, mdF r z q cd tm (nI sn) (nI tx)))] sz) [(mo, .inr (12, mdF r z q 1 tm (nI sn) (nI tx)))]) (va_A [(mo, .inr (12, mdF r z q cd tm (nI sn) (nI tx)))] sz)) 0 0 (va_A [(mo, .inr (12, mdF r z q cd tm (nI sn) (nI tx)))] sz) := by
  refine Met.ofW (cc := b_Md_user) (maxL := 7) (ret := (Option.some Jvm.ClassFile.FieldType.boolean)) (by decide) rfl ?_
  intro p e s m args below meth c s₁ B hml hv
  obtain ⟨hargs, hsz, hP, hK, hD0⟩ := hv
  have hx := B.exec
  have hb := B.bytes
  have hr := B.returns
  have hts := atoms_spec (ws := (Cond.code y_Md_user b_Md_user 7 (Option.some Jvm.ClassFile.FieldType.boolean) :: BIG)) B.pre
  have hg : ∀ w ∈ BIG, w.before _ s = true := fun w h => hts w (List.mem_cons_of_mem _ h)
  have hown : s.vm.findClass "DoorServerModel" = some m.cls := findClass_of_methodNamed B.named
  have hlocks := B.notSynchronized
  subst hsz
  have hD := hD0.self (sz := s.heap.size)
  generalize hAe : va_A [(mo, .inr (12, mdF r z q cd tm (nI sn) (nI tx)))] s.heap.size = A at hD ⊢
  have hA : ∀ q : Nat, s.heap.size ≤ q → A q := fun q h => by rw [← hAe]; exact Or.inr h
  have hS : va_S A s.heap s.heap [] := va_S.rf
  have hl := lv_entry ([.ref mo, .int x, .long v, .int y]) (n := 7) (Nat.le_of_ble_eq_true rfl)
  refine W.eq (g2 := entryFrame m (List.toArray [.ref mo, .int x, .long v, .int y]) 7) (by rw [hargs]) ?_
  rw [lg_entry_eq]
  generalize (lg_sl ([.ref mo, .int x, .long v, .int y]) ++ List.replicate (7 - (lg_sl ([.ref mo, .int x, .long v, .int y])).length) Slot.unset).toArray = ls at hl ⊢
  have hl : lv_has ls 7 [(0, .ref mo), (1, .int x), (2, .long v), (4, .int y)] := hl
  change W p l e ({ frames := 1, cells := 0, slots := 0, locals := 21 } : Room) s m args below meth c s.heap [] 0 0 _ _
  have hP : va_P (dC, dI) vcl [(mo, .inr (12, mdF r z q cd tm (nI sn) (nI tx)))] s.heap := hP
  refine lv_aload_n hx hb d_Md_user_0 rfl (lv_at hl 0 rfl) ?_
  refine lv_iload_n hx hb d_Md_user_1 rfl (lv_at hl 1 rfl) ?_
  have K13 : W p l e ({ frames := 1, cells := 0, slots := 0, locals := 21 } : Room) s m args below meth c s.heap [] 0 0 (MQ below (va_Qi (S := Unit) (fun rv9 u => True) (fun u t => va_P (dC, dI) vcl [(mo, .inr (12, mdF r z q 1 tm (nI sn) (nI tx)))] t.heap ∧ va_K (dC, dI) vcl (tyL cT) t ∧ va_D A [(mo, .inr (12, mdF r z q 1 tm (nI sn) (nI tx)))]) A) args s 0 0 A) (F0 m 28 ls [.ref mo]) := by
    refine lv_iconst (v := 0) hx hb d_Md_user_28 (by decide) ?_
    have hPc := hP.sub (ws' := [(mo, .inr (12, mdF r z q cd tm (nI sn) (nI tx)))]) [0] rfl
    have hDc := hD.sub (ws' := [(mo, .inr (12, mdF r z q cd tm (nI sn) (nI tx)))]) [0] (by decide) rfl
    have hFc := va_free (wc := [(mo, .inr (12, mdF r z q cd tm (nI sn) (nI tx)))]) hD hS hA [0] rfl
    refine va_calli (va_runV (C := "DoorServerModel") (As := [.int 0]) (rest := []) ⟨hx, hb, hml, hown, hg⟩ (m_goes0 l dC dI cT s.heap.size mo r z q cd tm sn tx ) (cwV 1 hg (gI (List.forall_mem_append.mpr ⟨List.forall_mem_cons.mpr ⟨k_1165, List.forall_mem_cons.mpr ⟨k_1167, List.forall_mem_cons.mpr ⟨(big_sel (q := y_Md_goes) (n := 45) (by decide +kernel)), List.forall_mem_cons.mpr ⟨k_13, fun _ h => absurd h List.not_mem_nil⟩⟩⟩⟩, List.forall_mem_cons.mpr ⟨k_1168, fun _ h => h⟩⟩)) rfl rfl rfl (by decide +kernel) ⟨Nat.le_of_ble_eq_true rfl, Nat.le_of_ble_eq_true rfl⟩) ⟨fun a U g mk q => by obtain ⟨q0, q1, qP, qK, qD⟩ := q; exact ⟨q0, q1, qP, va_K.moved (u := U) (U := U.calling g mk a) (Vm.Alike.refl U.vm) qK, qD⟩, va_recv (q0 := 0) (ci := 12) hK hP rfl rfl, fun U hU hW => ⟨rfl, by rw [hU], by rw [hU]; exact hPc, va_K.moved hW.alike hK, hDc.weaken (fun _ _ _ _ => trivial)⟩⟩ rfl rfl hl.1 rfl (lv_room (Nat.le_of_ble_eq_true rfl)) d_Md_user_29 ⟨Nat.le_of_ble_eq_true rfl, Nat.le_of_ble_eq_true rfl⟩) hS (fun q _ h => hFc q h) hFc (fun rv9 u t H1 locs ht hvm hw hB hz1 hk1 hS => ?_)
    try dsimp only at hw hB
    obtain ⟨hP1, hK1, hD1⟩ := hB
    rw [ht] at hP1
    obtain ⟨rfl, hw⟩ := hw
    obtain ⟨hP, hD⟩ := va_join (wr := []) (w1 := [(mo, .inr (12, mdF r z q 1 tm (nI sn) (nI tx)))]) hP hD [0] [] rfl rfl (by decide) (by decide) hk1 hFc hP1 hD1
    have hw14 := hw
    clear hPc hDc hFc hz1 hk1 hP1 hK1 hD1
    generalize H1 = H at hP hS ⊢
    have hP : va_P (dC, dI) vcl [(mo, .inr (12, mdF r z q 1 tm (nI sn) (nI tx)))] H := hP
    have hD : va_D A [(mo, .inr (12, mdF r z q 1 tm (nI sn) (nI tx)))] := hD
    refine lv_if_ne (tgt := 37) hx hb d_Md_user_32 (by decide) (fun hn9 => absurd hn9 (by decide)) (fun hc15 => ?_)
    refine lv_iconst (v := 0) hx hb d_Md_user_35 (by decide) ?_
    have hP9 := hP.sub (ws' := [(mo, .inr (12, mdF r z q 1 tm (nI sn) (nI tx)))]) [0] rfl
    have hD9 := hD.sub (ws' := [(mo, .inr (12, mdF r z q 1 tm (nI sn) (nI tx)))]) [0] (by decide) rfl
    exact W.zret (v := 0) hx hb hr (by first | rfl | decide) (fun t ht hW => ⟨⟨_, (), rfl, trivial, by rw [ht]; exact hP9, va_K.moved hW.alike hK, hD9⟩, hS.F ht⟩) hS.2.2 d_Md_user_36
  refine lv_if_lt (tgt := 28) hx hb d_Md_user_2 (by decide) (fun hc16 => ?_) (fun hc16 => ?_)
  · exact K13
  · refine lv_iload_n hx hb d_Md_user_5 rfl (lv_at hl 1 rfl) ?_
    refine lv_bipush (v := 32) hx hb d_Md_user_6 (by decide) ?_
    refine lv_icmp_ge (tgt := 28) hx hb d_Md_user_8 (by decide) (fun hc17 => ?_) (fun hn9 => absurd ((lt_le1 (by decide)).mp (hbad.resolve_left hc16)) hn9)
    exact K13
set_option maxHeartbeats 4000000 in
set_option maxRecDepth 100000 in
/-- user: illegal argument -/
theorem b_user2 (l : Launch) (dC : Nat → ClassId) (dI : Nat → Nat → Nat) (cT : Nat → ClassId) (sz : Nat) (mo : Nat) (r : Nat → Nat) (z : Nat → Int32) (q : Nat → Int64) (cd : Int32) (tm : Int32) (sn : Nat) (tx : Nat) (x : Int32) (v : Int64) (y : Int32) (hx1 : ¬ x < 0) (hx2 : ¬ 31 < x) (hbad : y < 1 ∨ 60 < y) : Met l y_Md_user (Cond.code y_Md_user b_Md_user 7 (Option.some Jvm.ClassFile.FieldType.boolean) :: BIG) ({ frames := 1, cells := 0, slots := 0, locals := 21 }) (va_Pc [.ref mo, .int x, .long v, .int y] (fun U => U.heap.size = sz ∧ va_P (dC, dI) vcl [(mo, .inr (12, mdF r z q cd tm (nI sn) (nI tx)))] U.heap ∧ va_K (dC, dI) vcl (tyL cT) U ∧ va_D (fun _ => True) [(mo, .inr (12, mdF r z q cd tm (nI sn) (nI tx)))])) (va_Qi (S := Unit) (fun rv9 u => True) (fun u t => va_P (dC, dI) vcl [(mo, .inr (12, mdF r z q 1 tm (nI sn) (nI tx)))] t.heap ∧ va_K (dC, dI) vcl (tyL cT) t ∧ va_D (va_A [(mo, .inr (12, mdF r z q cd tm (nI sn) (nI tx)))] sz) [(mo, .inr (12, mdF r z q 1 tm (nI sn) (nI tx)))]) (va_A [(mo, .inr (12, mdF r z q cd tm (nI sn) (nI tx)))] sz)) 0 0 (va_A [(mo, .inr (12, mdF r z q cd tm (nI sn) (nI tx)))] sz) := by
  refine Met.ofW (cc := b_Md_user) (maxL := 7) (ret := (Option.some Jvm.ClassFile.FieldType.boolean)) (by decide) rfl ?_
  intro p e s m args below meth c s₁ B hml hv
  obtain ⟨hargs, hsz, hP, hK, hD0⟩ := hv
  have hx := B.exec
  have hb := B.bytes
  have hr := B.returns
  have hts := atoms_spec (ws := (Cond.code y_Md_user b_Md_user 7 (Option.some Jvm.ClassFile.FieldType.boolean) :: BIG)) B.pre
  have hg : ∀ w ∈ BIG, w.before _ s = true := fun w h => hts w (List.mem_cons_of_mem _ h)
  have hown : s.vm.findClass "DoorServerModel" = some m.cls := findClass_of_methodNamed B.named
  have hlocks := B.notSynchronized
  subst hsz
  have hD := hD0.self (sz := s.heap.size)
  generalize hAe : va_A [(mo, .inr (12, mdF r z q cd tm (nI sn) (nI tx)))] s.heap.size = A at hD ⊢
  have hA : ∀ q : Nat, s.heap.size ≤ q → A q := fun q h => by rw [← hAe]; exact Or.inr h
  have hS : va_S A s.heap s.heap [] := va_S.rf
  have hl := lv_entry ([.ref mo, .int x, .long v, .int y]) (n := 7) (Nat.le_of_ble_eq_true rfl)
  refine W.eq (g2 := entryFrame m (List.toArray [.ref mo, .int x, .long v, .int y]) 7) (by rw [hargs]) ?_
  rw [lg_entry_eq]
  generalize (lg_sl ([.ref mo, .int x, .long v, .int y]) ++ List.replicate (7 - (lg_sl ([.ref mo, .int x, .long v, .int y])).length) Slot.unset).toArray = ls at hl ⊢
  have hl : lv_has ls 7 [(0, .ref mo), (1, .int x), (2, .long v), (4, .int y)] := hl
  change W p l e ({ frames := 1, cells := 0, slots := 0, locals := 21 } : Room) s m args below meth c s.heap [] 0 0 _ _
  have hP : va_P (dC, dI) vcl [(mo, .inr (12, mdF r z q cd tm (nI sn) (nI tx)))] s.heap := hP
  refine lv_aload_n hx hb d_Md_user_0 rfl (lv_at hl 0 rfl) ?_
  refine lv_iload_n hx hb d_Md_user_1 rfl (lv_at hl 1 rfl) ?_
  refine lv_if_lt (tgt := 28) hx hb d_Md_user_2 (by decide) (fun hn9 => absurd hn9 (hx1)) (fun hc18 => ?_)
  refine lv_iload_n hx hb d_Md_user_5 rfl (lv_at hl 1 rfl) ?_
  refine lv_bipush (v := 32) hx hb d_Md_user_6 (by decide) ?_
  refine lv_icmp_ge (tgt := 28) hx hb d_Md_user_8 (by decide) (fun hn9 => absurd hn9 (fun h9 => hx2 ((lt_le1 (by decide)).mpr h9))) (fun hc19 => ?_)
  refine lv_iload hx hb d_Md_user_11 (lv_at hl 3 rfl) ?_
  refine lv_iconst (v := 1) hx hb d_Md_user_13 (by decide) ?_
  have K20 : W p l e ({ frames := 1, cells := 0, slots := 0, locals := 21 } : Room) s m args below meth c s.heap [] 0 0 (MQ below (va_Qi (S := Unit) (fun rv9 u => True) (fun u t => va_P (dC, dI) vcl [(mo, .inr (12, mdF r z q 1 tm (nI sn) (nI tx)))] t.heap ∧ va_K (dC, dI) vcl (tyL cT) t ∧ va_D A [(mo, .inr (12, mdF r z q 1 tm (nI sn) (nI tx)))]) A) args s 0 0 A) (F0 m 28 ls [.ref mo]) := by
    refine lv_iconst (v := 0) hx hb d_Md_user_28 (by decide) ?_
    have hPc := hP.sub (ws' := [(mo, .inr (12, mdF r z q cd tm (nI sn) (nI tx)))]) [0] rfl
    have hDc := hD.sub (ws' := [(mo, .inr (12, mdF r z q cd tm (nI sn) (nI tx)))]) [0] (by decide) rfl
    have hFc := va_free (wc := [(mo, .inr (12, mdF r z q cd tm (nI sn) (nI tx)))]) hD hS hA [0] rfl
    refine va_calli (va_runV (C := "DoorServerModel") (As := [.int 0]) (rest := []) ⟨hx, hb, hml, hown, hg⟩ (m_goes0 l dC dI cT s.heap.size mo r z q cd tm sn tx ) (cwV 1 hg (gI (List.forall_mem_append.mpr ⟨List.forall_mem_cons.mpr ⟨k_1165, List.forall_mem_cons.mpr ⟨k_1167, List.forall_mem_cons.mpr ⟨(big_sel (q := y_Md_goes) (n := 45) (by decide +kernel)), List.forall_mem_cons.mpr ⟨k_13, fun _ h => absurd h List.not_mem_nil⟩⟩⟩⟩, List.forall_mem_cons.mpr ⟨k_1168, fun _ h => h⟩⟩)) rfl rfl rfl (by decide +kernel) ⟨Nat.le_of_ble_eq_true rfl, Nat.le_of_ble_eq_true rfl⟩) ⟨fun a U g mk q => by obtain ⟨q0, q1, qP, qK, qD⟩ := q; exact ⟨q0, q1, qP, va_K.moved (u := U) (U := U.calling g mk a) (Vm.Alike.refl U.vm) qK, qD⟩, va_recv (q0 := 0) (ci := 12) hK hP rfl rfl, fun U hU hW => ⟨rfl, by rw [hU], by rw [hU]; exact hPc, va_K.moved hW.alike hK, hDc.weaken (fun _ _ _ _ => trivial)⟩⟩ rfl rfl hl.1 rfl (lv_room (Nat.le_of_ble_eq_true rfl)) d_Md_user_29 ⟨Nat.le_of_ble_eq_true rfl, Nat.le_of_ble_eq_true rfl⟩) hS (fun q _ h => hFc q h) hFc (fun rv9 u t H1 locs ht hvm hw hB hz1 hk1 hS => ?_)
    try dsimp only at hw hB
    obtain ⟨hP1, hK1, hD1⟩ := hB
    rw [ht] at hP1
    obtain ⟨rfl, hw⟩ := hw
    obtain ⟨hP, hD⟩ := va_join (wr := []) (w1 := [(mo, .inr (12, mdF r z q 1 tm (nI sn) (nI tx)))]) hP hD [0] [] rfl rfl (by decide) (by decide) hk1 hFc hP1 hD1
    have hw21 := hw
    clear hPc hDc hFc hz1 hk1 hP1 hK1 hD1
    generalize H1 = H at hP hS ⊢
    have hP : va_P (dC, dI) vcl [(mo, .inr (12, mdF r z q 1 tm (nI sn) (nI tx)))] H := hP
    have hD : va_D A [(mo, .inr (12, mdF r z q 1 tm (nI sn) (nI tx)))] := hD
    refine lv_if_ne (tgt := 37) hx hb d_Md_user_32 (by decide) (fun hn9 => absurd hn9 (by decide)) (fun hc22 => ?_)
    refine lv_iconst (v := 0) hx hb d_Md_user_35 (by decide) ?_
    have hP9 := hP.sub (ws' := [(mo, .inr (12, mdF r z q 1 tm (nI sn) (nI tx)))]) [0] rfl
    have hD9 := hD.sub (ws' := [(mo, .inr (12, mdF r z q 1 tm (nI sn) (nI tx)))]) [0] (by decide) rfl
    exact W.zret (v := 0) hx hb hr (by first | rfl | decide) (fun t ht hW => ⟨⟨_, (), rfl, trivial, by rw [ht]; exact hP9, va_K.moved hW.alike hK, hD9⟩, hS.F ht⟩) hS.2.2 d_Md_user_36
  refine lv_icmp_lt (tgt := 28) hx hb d_Md_user_14 (by decide) (fun hc23 => ?_) (fun hc23 => ?_)
  · exact K20
  · refine lv_iload hx hb d_Md_user_17 (lv_at hl 3 rfl) ?_
    refine lv_bipush (v := 60) hx hb d_Md_user_19 (by decide) ?_
    refine lv_icmp_gt (tgt := 28) hx hb d_Md_user_21 (by decide) (fun hc24 => ?_) (fun hn9 => absurd (hbad.resolve_left hc23) hn9)
    exact K20
set_option maxHeartbeats 4000000 in
set_option maxRecDepth 100000 in
/-- password: illegal argument -/
theorem b_password1 (l : Launch) (dC : Nat → ClassId) (dI : Nat → Nat → Nat) (cT : Nat → ClassId) (sz : Nat) (mo : Nat) (r : Nat → Nat) (z : Nat → Int32) (q : Nat → Int64) (cd : Int32) (tm : Int32) (sn : Nat) (tx : Nat) (x : Int32) (v : Int64) (y : Int32) (hbad : x < 0 ∨ 3 < x) : Met l y_Md_password (Cond.code y_Md_password b_Md_password 8 (Option.some Jvm.ClassFile.FieldType.int) :: BIG) ({ frames := 1, cells := 0, slots := 0, locals := 21 }) (va_Pc [.ref mo, .int x, .long v, .int y] (fun U => U.heap.size = sz ∧ va_P (dC, dI) vcl [(mo, .inr (12, mdF r z q cd tm (nI sn) (nI tx)))] U.heap ∧ va_K (dC, dI) vcl (tyL cT) U ∧ va_D (fun _ => True) [(mo, .inr (12, mdF r z q cd tm (nI sn) (nI tx)))])) (va_Qi (S := Unit) (fun rv9 u => True) (fun u t => va_P (dC, dI) vcl [(mo, .inr (12, mdF r z q 1 tm (nI sn) (nI tx)))] t.heap ∧ va_K (dC, dI) vcl (tyL cT) t ∧ va_D (va_A [(mo, .inr (12, mdF r z q cd tm (nI sn) (nI tx)))] sz) [(mo, .inr (12, mdF r z q 1 tm (nI sn) (nI tx)))]) (va_A [(mo, .inr (12, mdF r z q cd tm (nI sn) (nI tx)))] sz)) 0 0 (va_A [(mo, .inr (12, mdF r z q cd tm (nI sn) (nI tx)))] sz) := by
  refine Met.ofW (cc := b_Md_password) (maxL := 8) (ret := (Option.some Jvm.ClassFile.FieldType.int)) (by decide) rfl ?_
  intro p e s m args below meth c s₁ B hml hv
  obtain ⟨hargs, hsz, hP, hK, hD0⟩ := hv
  have hx := B.exec
  have hb := B.bytes
  have hr := B.returns
  have hts := atoms_spec (ws := (Cond.code y_Md_password b_Md_password 8 (Option.some Jvm.ClassFile.FieldType.int) :: BIG)) B.pre
  have hg : ∀ w ∈ BIG, w.before _ s = true := fun w h => hts w (List.mem_cons_of_mem _ h)
  have hown : s.vm.findClass "DoorServerModel" = some m.cls := findClass_of_methodNamed B.named
  have hlocks := B.notSynchronized
  subst hsz
  have hD := hD0.self (sz := s.heap.size)
  generalize hAe : va_A [(mo, .inr (12, mdF r z q cd tm (nI sn) (nI tx)))] s.heap.size = A at hD ⊢
  have hA : ∀ q : Nat, s.heap.size ≤ q → A q := fun q h => by rw [← hAe]; exact Or.inr h
  have hS : va_S A s.heap s.heap [] := va_S.rf
  have hl := lv_entry ([.ref mo, .int x, .long v, .int y]) (n := 8) (Nat.le_of_ble_eq_true rfl)
  refine W.eq (g2 := entryFrame m (List.toArray [.ref mo, .int x, .long v, .int y]) 8) (by rw [hargs]) ?_
  rw [lg_entry_eq]
  generalize (lg_sl ([.ref mo, .int x, .long v, .int y]) ++ List.replicate (8 - (lg_sl ([.ref mo, .int x, .long v, .int y])).length) Slot.unset).toArray = ls at hl ⊢
  have hl : lv_has ls 8 [(0, .ref mo), (1, .int x), (2, .long v), (4, .int y)] := hl
  change W p l e ({ frames := 1, cells := 0, slots := 0, locals := 21 } : Room) s m args below meth c s.heap [] 0 0 _ _
  have hP : va_P (dC, dI) vcl [(mo, .inr (12, mdF r z q cd tm (nI sn) (nI tx)))] s.heap := hP
  refine lv_aload_n hx hb d_Md_password_0 rfl (lv_at hl 0 rfl) ?_
  refine lv_iload_n hx hb d_Md_password_1 rfl (lv_at hl 1 rfl) ?_
  have K25 : W p l e ({ frames := 1, cells := 0, slots := 0, locals := 21 } : Room) s m args below meth c s.heap [] 0 0 (MQ below (va_Qi (S := Unit) (fun rv9 u => True) (fun u t => va_P (dC, dI) vcl [(mo, .inr (12, mdF r z q 1 tm (nI sn) (nI tx)))] t.heap ∧ va_K (dC, dI) vcl (tyL cT) t ∧ va_D A [(mo, .inr (12, mdF r z q 1 tm (nI sn) (nI tx)))]) A) args s 0 0 A) (F0 m 27 ls [.ref mo]) := by
    refine lv_iconst (v := 0) hx hb d_Md_password_27 (by decide) ?_
    have hPc := hP.sub (ws' := [(mo, .inr (12, mdF r z q cd tm (nI sn) (nI tx)))]) [0] rfl
    have hDc := hD.sub (ws' := [(mo, .inr (12, mdF r z q cd tm (nI sn) (nI tx)))]) [0] (by decide) rfl
    have hFc := va_free (wc := [(mo, .inr (12, mdF r z q cd tm (nI sn) (nI tx)))]) hD hS hA [0] rfl
    refine va_calli (va_runV (C := "DoorServerModel") (As := [.int 0]) (rest := []) ⟨hx, hb, hml, hown, hg⟩ (m_goes0 l dC dI cT s.heap.size mo r z q cd tm sn tx ) (cwV 1 hg (gI (List.forall_mem_append.mpr ⟨List.forall_mem_cons.mpr ⟨k_1165, List.forall_mem_cons.mpr ⟨k_1167, List.forall_mem_cons.mpr ⟨(big_sel (q := y_Md_goes) (n := 45) (by decide +kernel)), List.forall_mem_cons.mpr ⟨k_13, fun _ h => absurd h List.not_mem_nil⟩⟩⟩⟩, List.forall_mem_cons.mpr ⟨k_1168, fun _ h => h⟩⟩)) rfl rfl rfl (by decide +kernel) ⟨Nat.le_of_ble_eq_true rfl, Nat.le_of_ble_eq_true rfl⟩) ⟨fun a U g mk q => by obtain ⟨q0, q1, qP, qK, qD⟩ := q; exact ⟨q0, q1, qP, va_K.moved (u := U) (U := U.calling g mk a) (Vm.Alike.refl U.vm) qK, qD⟩, va_recv (q0 := 0) (ci := 12) hK hP rfl rfl, fun U hU hW => ⟨rfl, by rw [hU], by rw [hU]; exact hPc, va_K.moved hW.alike hK, hDc.weaken (fun _ _ _ _ => trivial)⟩⟩ rfl rfl hl.1 rfl (lv_room (Nat.le_of_ble_eq_true rfl)) d_Md_password_28 ⟨Nat.le_of_ble_eq_true rfl, Nat.le_of_ble_eq_true rfl⟩) hS (fun q _ h => hFc q h) hFc (fun rv9 u t H1 locs ht hvm hw hB hz1 hk1 hS => ?_)
    try dsimp only at hw hB
    obtain ⟨hP1, hK1, hD1⟩ := hB
    rw [ht] at hP1
    obtain ⟨rfl, hw⟩ := hw
    obtain ⟨hP, hD⟩ := va_join (wr := []) (w1 := [(mo, .inr (12, mdF r z q 1 tm (nI sn) (nI tx)))]) hP hD [0] [] rfl rfl (by decide) (by decide) hk1 hFc hP1 hD1
    have hw26 := hw
    clear hPc hDc hFc hz1 hk1 hP1 hK1 hD1
    generalize H1 = H at hP hS ⊢
    have hP : va_P (dC, dI) vcl [(mo, .inr (12, mdF r z q 1 tm (nI sn) (nI tx)))] H := hP
    have hD : va_D A [(mo, .inr (12, mdF r z q 1 tm (nI sn) (nI tx)))] := hD
    refine lv_if_ne (tgt := 36) hx hb d_Md_password_31 (by decide) (fun hn9 => absurd hn9 (by decide)) (fun hc27 => ?_)
    refine lv_iconst (v := 0) hx hb d_Md_password_34 (by decide) ?_
    have hP9 := hP.sub (ws' := [(mo, .inr (12, mdF r z q 1 tm (nI sn) (nI tx)))]) [0] rfl
    have hD9 := hD.sub (ws' := [(mo, .inr (12, mdF r z q 1 tm (nI sn) (nI tx)))]) [0] (by decide) rfl
    exact W.iret (v := 0) hx hb hr (fun t ht hW => ⟨⟨_, (), rfl, trivial, by rw [ht]; exact hP9, va_K.moved hW.alike hK, hD9⟩, hS.F ht⟩) hS.2.2 d_Md_password_35
  refine lv_if_lt (tgt := 27) hx hb d_Md_password_2 (by decide) (fun hc28 => ?_) (fun hc28 => ?_)
  · exact K25
  · refine lv_iload_n hx hb d_Md_password_5 rfl (lv_at hl 1 rfl) ?_
    refine lv_iconst (v := 4) hx hb d_Md_password_6 (by decide) ?_
    refine lv_icmp_ge (tgt := 27) hx hb d_Md_password_7 (by decide) (fun hc29 => ?_) (fun hn9 => absurd ((lt_le1 (by decide)).mp (hbad.resolve_left hc28)) hn9)
    exact K25
set_option maxHeartbeats 4000000 in
set_option maxRecDepth 100000 in
/-- password: illegal argument -/
theorem b_password2 (l : Launch) (dC : Nat → ClassId) (dI : Nat → Nat → Nat) (cT : Nat → ClassId) (sz : Nat) (mo : Nat) (r : Nat → Nat) (z : Nat → Int32) (q : Nat → Int64) (cd : Int32) (tm : Int32) (sn : Nat) (tx : Nat) (x : Int32) (v : Int64) (y : Int32) (hx1 : ¬ x < 0) (hx2 : ¬ 3 < x) (hbad : y < 1 ∨ 60 < y) : Met l y_Md_password (Cond.code y_Md_password b_Md_password 8 (Option.some Jvm.ClassFile.FieldType.int) :: BIG) ({ frames := 1, cells := 0, slots := 0, locals := 21 }) (va_Pc [.ref mo, .int x, .long v, .int y] (fun U => U.heap.size = sz ∧ va_P (dC, dI) vcl [(mo, .inr (12, mdF r z q cd tm (nI sn) (nI tx)))] U.heap ∧ va_K (dC, dI) vcl (tyL cT) U ∧ va_D (fun _ => True) [(mo, .inr (12, mdF r z q cd tm (nI sn) (nI tx)))])) (va_Qi (S := Unit) (fun rv9 u => True) (fun u t => va_P (dC, dI) vcl [(mo, .inr (12, mdF r z q 1 tm (nI sn) (nI tx)))] t.heap ∧ va_K (dC, dI) vcl (tyL cT) t ∧ va_D (va_A [(mo, .inr (12, mdF r z q cd tm (nI sn) (nI tx)))] sz) [(mo, .inr (12, mdF r z q 1 tm (nI sn) (nI tx)))]) (va_A [(mo, .inr (12, mdF r z q cd tm (nI sn) (nI tx)))] sz)) 0 0 (va_A [(mo, .inr (12, mdF r z q cd tm (nI sn) (nI tx)))] sz) := by
  refine Met.ofW (cc := b_Md_password) (maxL := 8) (ret := (Option.some Jvm.ClassFile.FieldType.int)) (by decide) rfl ?_
  intro p e s m args below meth c s₁ B hml hv
  obtain ⟨hargs, hsz, hP, hK, hD0⟩ := hv
  have hx := B.exec
  have hb := B.bytes
  have hr := B.returns
  have hts := atoms_spec (ws := (Cond.code y_Md_password b_Md_password 8 (Option.some Jvm.ClassFile.FieldType.int) :: BIG)) B.pre
  have hg : ∀ w ∈ BIG, w.before _ s = true := fun w h => hts w (List.mem_cons_of_mem _ h)
  have hown : s.vm.findClass "DoorServerModel" = some m.cls := findClass_of_methodNamed B.named
  have hlocks := B.notSynchronized
  subst hsz
  have hD := hD0.self (sz := s.heap.size)
  generalize hAe : va_A [(mo, .inr (12, mdF r z q cd tm (nI sn) (nI tx)))] s.heap.size = A at hD ⊢
  have hA : ∀ q : Nat, s.heap.size ≤ q → A q := fun q h => by rw [← hAe]; exact Or.inr h
  have hS : va_S A s.heap s.heap [] := va_S.rf
  have hl := lv_entry ([.ref mo, .int x, .long v, .int y]) (n := 8) (Nat.le_of_ble_eq_true rfl)
  refine W.eq (g2 := entryFrame m (List.toArray [.ref mo, .int x, .long v, .int y]) 8) (by rw [hargs]) ?_
  rw [lg_entry_eq]
  generalize (lg_sl ([.ref mo, .int x, .long v, .int y]) ++ List.replicate (8 - (lg_sl ([.ref mo, .int x, .long v, .int y])).length) Slot.unset).toArray = ls at hl ⊢
  have hl : lv_has ls 8 [(0, .ref mo), (1, .int x), (2, .long v), (4, .int y)] := hl
  change W p l e ({ frames := 1, cells := 0, slots := 0, locals := 21 } : Room) s m args below meth c s.heap [] 0 0 _ _
  have hP : va_P (dC, dI) vcl [(mo, .inr (12, mdF r z q cd tm (nI sn) (nI tx)))] s.heap := hP
  refine lv_aload_n hx hb d_Md_password_0 rfl (lv_at hl 0 rfl) ?_
  refine lv_iload_n hx hb d_Md_password_1 rfl (lv_at hl 1 rfl) ?_
  refine lv_if_lt (tgt := 27) hx hb d_Md_password_2 (by decide) (fun hn9 => absurd hn9 (hx1)) (fun hc30 => ?_)
  refine lv_iload_n hx hb d_Md_password_5 rfl (lv_at hl 1 rfl) ?_
  refine lv_iconst (v := 4) hx hb d_Md_password_6 (by decide) ?_
  refine lv_icmp_ge (tgt := 27) hx hb d_Md_password_7 (by decide) (fun hn9 => absurd hn9 (fun h9 => hx2 ((lt_le1 (by decide)).mpr h9))) (fun hc31 => ?_)
  refine lv_iload hx hb d_Md_password_10 (lv_at hl 3 rfl) ?_
  refine lv_iconst (v := 1) hx hb d_Md_password_12 (by decide) ?_
  have K32 : W p l e ({ frames := 1, cells := 0, slots := 0, locals := 21 } : Room) s m args below meth c s.heap [] 0 0 (MQ below (va_Qi (S := Unit) (fun rv9 u => True) (fun u t => va_P (dC, dI) vcl [(mo, .inr (12, mdF r z q 1 tm (nI sn) (nI tx)))] t.heap ∧ va_K (dC, dI) vcl (tyL cT) t ∧ va_D A [(mo, .inr (12, mdF r z q 1 tm (nI sn) (nI tx)))]) A) args s 0 0 A) (F0 m 27 ls [.ref mo]) := by
    refine lv_iconst (v := 0) hx hb d_Md_password_27 (by decide) ?_
    have hPc := hP.sub (ws' := [(mo, .inr (12, mdF r z q cd tm (nI sn) (nI tx)))]) [0] rfl
    have hDc := hD.sub (ws' := [(mo, .inr (12, mdF r z q cd tm (nI sn) (nI tx)))]) [0] (by decide) rfl
    have hFc := va_free (wc := [(mo, .inr (12, mdF r z q cd tm (nI sn) (nI tx)))]) hD hS hA [0] rfl
    refine va_calli (va_runV (C := "DoorServerModel") (As := [.int 0]) (rest := []) ⟨hx, hb, hml, hown, hg⟩ (m_goes0 l dC dI cT s.heap.size mo r z q cd tm sn tx ) (cwV 1 hg (gI (List.forall_mem_append.mpr ⟨List.forall_mem_cons.mpr ⟨k_1165, List.forall_mem_cons.mpr ⟨k_1167, List.forall_mem_cons.mpr ⟨(big_sel (q := y_Md_goes) (n := 45) (by decide +kernel)), List.forall_mem_cons.mpr ⟨k_13, fun _ h => absurd h List.not_mem_nil⟩⟩⟩⟩, List.forall_mem_cons.mpr ⟨k_1168, fun _ h => h⟩⟩)) rfl rfl rfl (by decide +kernel) ⟨Nat.le_of_ble_eq_true rfl, Nat.le_of_ble_eq_true rfl⟩) ⟨fun a U g mk q => by obtain ⟨q0, q1, qP, qK, qD⟩ := q; exact ⟨q0, q1, qP, va_K.moved (u := U) (U := U.calling g mk a) (Vm.Alike.refl U.vm) qK, qD⟩, va_recv (q0 := 0) (ci := 12) hK hP rfl rfl, fun U hU hW => ⟨rfl, by rw [hU], by rw [hU]; exact hPc, va_K.moved hW.alike hK, hDc.weaken (fun _ _ _ _ => trivial)⟩⟩ rfl rfl hl.1 rfl (lv_room (Nat.le_of_ble_eq_true rfl)) d_Md_password_28 ⟨Nat.le_of_ble_eq_true rfl, Nat.le_of_ble_eq_true rfl⟩) hS (fun q _ h => hFc q h) hFc (fun rv9 u t H1 locs ht hvm hw hB hz1 hk1 hS => ?_)
    try dsimp only at hw hB
    obtain ⟨hP1, hK1, hD1⟩ := hB
    rw [ht] at hP1
    obtain ⟨rfl, hw⟩ := hw
    obtain ⟨hP, hD⟩ := va_join (wr := []) (w1 := [(mo, .inr (12, mdF r z q 1 tm (nI sn) (nI tx)))]) hP hD [0] [] rfl rfl (by decide) (by decide) hk1 hFc hP1 hD1
    have hw33 := hw
    clear hPc hDc hFc hz1 hk1 hP1 hK1 hD1
    generalize H1 = H at hP hS ⊢
    have hP : va_P (dC, dI) vcl [(mo, .inr (12, mdF r z q 1 tm (nI sn) (nI tx)))] H := hP
    have hD : va_D A [(mo, .inr (12, mdF r z q 1 tm (nI sn) (nI tx)))] := hD
    refine lv_if_ne (tgt := 36) hx hb d_Md_password_31 (by decide) (fun hn9 => absurd hn9 (by decide)) (fun hc34 => ?_)
    refine lv_iconst (v := 0) hx hb d_Md_password_34 (by decide) ?_
    have hP9 := hP.sub (ws' := [(mo, .inr (12, mdF r z q 1 tm (nI sn) (nI tx)))]) [0] rfl
    have hD9 := hD.sub (ws' := [(mo, .inr (12, mdF r z q 1 tm (nI sn) (nI tx)))]) [0] (by decide) rfl
    exact W.iret (v := 0) hx hb hr (fun t ht hW => ⟨⟨_, (), rfl, trivial, by rw [ht]; exact hP9, va_K.moved hW.alike hK, hD9⟩, hS.F ht⟩) hS.2.2 d_Md_password_35
  refine lv_icmp_lt (tgt := 27) hx hb d_Md_password_13 (by decide) (fun hc35 => ?_) (fun hc35 => ?_)
  · exact K32
  · refine lv_iload hx hb d_Md_password_16 (lv_at hl 3 rfl) ?_
    refine lv_bipush (v := 60) hx hb d_Md_password_18 (by decide) ?_
    refine lv_icmp_gt (tgt := 27) hx hb d_Md_password_20 (by decide) (fun hc36 => ?_) (fun hn9 => absurd (hbad.resolve_left hc35) hn9)
    exact K32
set_option maxHeartbeats 4000000 in
set_option maxRecDepth 100000 in
/-- name: illegal argument -/
theorem b_name (l : Launch) (dC : Nat → ClassId) (dI : Nat → Nat → Nat) (cT : Nat → ClassId) (sz : Nat) (mo : Nat) (r : Nat → Nat) (z : Nat → Int32) (q : Nat → Int64) (cd : Int32) (tm : Int32) (sn : Nat) (tx : Nat) (x : Int32) (hbad : x < 0 ∨ 31 < x) : Met l y_Md_name (Cond.code y_Md_name b_Md_name 2 (Option.some Jvm.ClassFile.FieldType.int) :: BIG) ({ frames := 1, cells := 0, slots := 0, locals := 21 }) (va_Pc [.ref mo, .int x] (fun U => U.heap.size = sz ∧ va_P (dC, dI) vcl [(mo, .inr (12, mdF r z q cd tm (nI sn) (nI tx)))] U.heap ∧ va_K (dC, dI) vcl (tyL cT) U ∧ va_D (fun _ => True) [(mo, .inr (12, mdF r z q cd tm (nI sn) (nI tx)))])) (va_Qi (S := Unit) (fun rv9 u => True) (fun u t => va_P (dC, dI) vcl [(mo, .inr (12, mdF r z q 1 tm (nI sn) (nI tx)))] t.heap ∧ va_K (dC, dI) vcl (tyL cT) t ∧ va_D (va_A [(mo, .inr (12, mdF r z q cd tm (nI sn) (nI tx)))] sz) [(mo, .inr (12, mdF r z q 1 tm (nI sn) (nI tx)))]) (va_A [(mo, .inr (12, mdF r z q cd tm (nI sn) (nI tx)))] sz)) 0 0 (va_A [(mo, .inr (12, mdF r z q cd tm (nI sn) (nI tx)))] sz) := by
  refine Met.ofW (cc := b_Md_name) (maxL := 2) (ret := (Option.some Jvm.ClassFile.FieldType.int)) (by decide) rfl ?_
  intro p e s m args below meth c s₁ B hml hv
  obtain ⟨hargs, hsz, hP, hK, hD0⟩ := hv
  have hx := B.exec
  have hb := B.bytes
  have hr := B.returns
  have hts := atoms_spec (ws := (Cond.code y_Md_name b_Md_name 2 (Option.some Jvm.ClassFile.FieldType.int) :: BIG)) B.pre
  have hg : ∀ w ∈ BIG, w.before _ s = true := fun w h => hts w (List.mem_cons_of_mem _ h)
  have hown : s.vm.findClass "DoorServerModel" = some m.cls := findClass_of_methodNamed B.named
  have hlocks := B.notSynchronized
  subst hsz
  have hD := hD0.self (sz := s.heap.size)
  generalize hAe : va_A [(mo, .inr (12, mdF r z q cd tm (nI sn) (nI tx)))] s.heap.size = A at hD ⊢
  have hA : ∀ q : Nat, s.heap.size ≤ q → A q := fun q h => by rw [← hAe]; exact Or.inr h
  have hS : va_S A s.heap s.heap [] := va_S.rf
  have hl := lv_entry ([.ref mo, .int x]) (n := 2) (Nat.le_of_ble_eq_true rfl)
  refine W.eq (g2 := entryFrame m (List.toArray [.ref mo, .int x]) 2) (by rw [hargs]) ?_
  rw [lg_entry_eq]
  generalize (lg_sl ([.ref mo, .int x]) ++ List.replicate (2 - (lg_sl ([.ref mo, .int x])).length) Slot.unset).toArray = ls at hl ⊢
  have hl : lv_has ls 2 [(0, .ref mo), (1, .int x)] := hl
  change W p l e ({ frames := 1, cells := 0, slots := 0, locals := 21 } : Room) s m args below meth c s.heap [] 0 0 _ _
  have hP : va_P (dC, dI) vcl [(mo, .inr (12, mdF r z q cd tm (nI sn) (nI tx)))] s.heap := hP
  refine lv_aload_n hx hb d_Md_name_0 rfl (lv_at hl 0 rfl) ?_
  refine lv_iload_n hx hb d_Md_name_1 rfl (lv_at hl 1 rfl) ?_
  have K37 : W p l e ({ frames := 1, cells := 0, slots := 0, locals := 21 } : Room) s m args below meth c s.heap [] 0 0 (MQ below (va_Qi (S := Unit) (fun rv9 u => True) (fun u t => va_P (dC, dI) vcl [(mo, .inr (12, mdF r z q 1 tm (nI sn) (nI tx)))] t.heap ∧ va_K (dC, dI) vcl (tyL cT) t ∧ va_D A [(mo, .inr (12, mdF r z q 1 tm (nI sn) (nI tx)))]) A) args s 0 0 A) (F0 m 15 ls [.ref mo]) := by
    refine lv_iconst (v := 0) hx hb d_Md_name_15 (by decide) ?_
    have hPc := hP.sub (ws' := [(mo, .inr (12, mdF r z q cd tm (nI sn) (nI tx)))]) [0] rfl
    have hDc := hD.sub (ws' := [(mo, .inr (12, mdF r z q cd tm (nI sn) (nI tx)))]) [0] (by decide) rfl
    have hFc := va_free (wc := [(mo, .inr (12, mdF r z q cd tm (nI sn) (nI tx)))]) hD hS hA [0] rfl
    refine va_calli (va_runV (C := "DoorServerModel") (As := [.int 0]) (rest := []) ⟨hx, hb, hml, hown, hg⟩ (m_goes0 l dC dI cT s.heap.size mo r z q cd tm sn tx ) (cwV 1 hg (gI (List.forall_mem_append.mpr ⟨List.forall_mem_cons.mpr ⟨k_1165, List.forall_mem_cons.mpr ⟨k_1167, List.forall_mem_cons.mpr ⟨(big_sel (q := y_Md_goes) (n := 45) (by decide +kernel)), List.forall_mem_cons.mpr ⟨k_13, fun _ h => absurd h List.not_mem_nil⟩⟩⟩⟩, List.forall_mem_cons.mpr ⟨k_1168, fun _ h => h⟩⟩)) rfl rfl rfl (by decide +kernel) ⟨Nat.le_of_ble_eq_true rfl, Nat.le_of_ble_eq_true rfl⟩) ⟨fun a U g mk q => by obtain ⟨q0, q1, qP, qK, qD⟩ := q; exact ⟨q0, q1, qP, va_K.moved (u := U) (U := U.calling g mk a) (Vm.Alike.refl U.vm) qK, qD⟩, va_recv (q0 := 0) (ci := 12) hK hP rfl rfl, fun U hU hW => ⟨rfl, by rw [hU], by rw [hU]; exact hPc, va_K.moved hW.alike hK, hDc.weaken (fun _ _ _ _ => trivial)⟩⟩ rfl rfl hl.1 rfl (lv_room (Nat.le_of_ble_eq_true rfl)) d_Md_name_16 ⟨Nat.le_of_ble_eq_true rfl, Nat.le_of_ble_eq_true rfl⟩) hS (fun q _ h => hFc q h) hFc (fun rv9 u t H1 locs ht hvm hw hB hz1 hk1 hS => ?_)
    try dsimp only at hw hB
    obtain ⟨hP1, hK1, hD1⟩ := hB
    rw [ht] at hP1
    obtain ⟨rfl, hw⟩ := hw
    obtain ⟨hP, hD⟩ := va_join (wr := []) (w1 := [(mo, .inr (12, mdF r z q 1 tm (nI sn) (nI tx)))]) hP hD [0] [] rfl rfl (by decide) (by decide) hk1 hFc hP1 hD1
    have hw38 := hw
    clear hPc hDc hFc hz1 hk1 hP1 hK1 hD1
    generalize H1 = H at hP hS ⊢
    have hP : va_P (dC, dI) vcl [(mo, .inr (12, mdF r z q 1 tm (nI sn) (nI tx)))] H := hP
    have hD : va_D A [(mo, .inr (12, mdF r z q 1 tm (nI sn) (nI tx)))] := hD
    refine lv_if_eq (tgt := 31) hx hb d_Md_name_19 (by decide) (fun hc39 => ?_) (fun hn9 => absurd (by decide) hn9)
    refine lv_iconst (v := 0) hx hb d_Md_name_31 (by decide) ?_
    have hP9 := hP.sub (ws' := [(mo, .inr (12, mdF r z q 1 tm (nI sn) (nI tx)))]) [0] rfl
    have hD9 := hD.sub (ws' := [(mo, .inr (12, mdF r z q 1 tm (nI sn) (nI tx)))]) [0] (by decide) rfl
    exact W.iret (v := 0) hx hb hr (fun t ht hW => ⟨⟨_, (), rfl, trivial, by rw [ht]; exact hP9, va_K.moved hW.alike hK, hD9⟩, hS.F ht⟩) hS.2.2 d_Md_name_32
  refine lv_if_lt (tgt := 15) hx hb d_Md_name_2 (by decide) (fun hc40 => ?_) (fun hc40 => ?_)
  · exact K37
  · refine lv_iload_n hx hb d_Md_name_5 rfl (lv_at hl 1 rfl) ?_
    refine lv_bipush (v := 32) hx hb d_Md_name_6 (by decide) ?_
    refine lv_icmp_ge (tgt := 15) hx hb d_Md_name_8 (by decide) (fun hc41 => ?_) (fun hn9 => absurd ((lt_le1 (by decide)).mp (hbad.resolve_left hc40)) hn9)
    exact K37
set_option maxHeartbeats 4000000 in
set_option maxRecDepth 100000 in
/-- prove: illegal argument -/
theorem b_prove (l : Launch) (dC : Nat → ClassId) (dI : Nat → Nat → Nat) (cT : Nat → ClassId) (sz : Nat) (mo : Nat) (r : Nat → Nat) (z : Nat → Int32) (q : Nat → Int64) (cd : Int32) (tm : Int32) (sn : Nat) (tx : Nat) (x : Int32) (hbad : x < 0 ∨ 3 < x) : Met l y_Md_prove (Cond.code y_Md_prove b_Md_prove 4 (Option.some Jvm.ClassFile.FieldType.int) :: BIG) ({ frames := 1, cells := 0, slots := 0, locals := 21 }) (va_Pc [.ref mo, .int x] (fun U => U.heap.size = sz ∧ va_P (dC, dI) vcl [(mo, .inr (12, mdF r z q cd tm (nI sn) (nI tx)))] U.heap ∧ va_K (dC, dI) vcl (tyL cT) U ∧ va_D (fun _ => True) [(mo, .inr (12, mdF r z q cd tm (nI sn) (nI tx)))])) (va_Qi (S := Unit) (fun rv9 u => True) (fun u t => va_P (dC, dI) vcl [(mo, .inr (12, mdF r z q 1 tm (nI sn) (nI tx)))] t.heap ∧ va_K (dC, dI) vcl (tyL cT) t ∧ va_D (va_A [(mo, .inr (12, mdF r z q cd tm (nI sn) (nI tx)))] sz) [(mo, .inr (12, mdF r z q 1 tm (nI sn) (nI tx)))]) (va_A [(mo, .inr (12, mdF r z q cd tm (nI sn) (nI tx)))] sz)) 0 0 (va_A [(mo, .inr (12, mdF r z q cd tm (nI sn) (nI tx)))] sz) := by
  refine Met.ofW (cc := b_Md_prove) (maxL := 4) (ret := (Option.some Jvm.ClassFile.FieldType.int)) (by decide) rfl ?_
  intro p e s m args below meth c s₁ B hml hv
  obtain ⟨hargs, hsz, hP, hK, hD0⟩ := hv
  have hx := B.exec
  have hb := B.bytes
  have hr := B.returns
  have hts := atoms_spec (ws := (Cond.code y_Md_prove b_Md_prove 4 (Option.some Jvm.ClassFile.FieldType.int) :: BIG)) B.pre
  have hg : ∀ w ∈ BIG, w.before _ s = true := fun w h => hts w (List.mem_cons_of_mem _ h)
  have hown : s.vm.findClass "DoorServerModel" = some m.cls := findClass_of_methodNamed B.named
  have hlocks := B.notSynchronized
  subst hsz
  have hD := hD0.self (sz := s.heap.size)
  generalize hAe : va_A [(mo, .inr (12, mdF r z q cd tm (nI sn) (nI tx)))] s.heap.size = A at hD ⊢
  have hA : ∀ q : Nat, s.heap.size ≤ q → A q := fun q h => by rw [← hAe]; exact Or.inr h
  have hS : va_S A s.heap s.heap [] := va_S.rf
  have hl := lv_entry ([.ref mo, .int x]) (n := 4) (Nat.le_of_ble_eq_true rfl)
  refine W.eq (g2 := entryFrame m (List.toArray [.ref mo, .int x]) 4) (by rw [hargs]) ?_
  rw [lg_entry_eq]
  generalize (lg_sl ([.ref mo, .int x]) ++ List.replicate (4 - (lg_sl ([.ref mo, .int x])).length) Slot.unset).toArray = ls at hl ⊢
  have hl : lv_has ls 4 [(0, .ref mo), (1, .int x)] := hl
  change W p l e ({ frames := 1, cells := 0, slots := 0, locals := 21 } : Room) s m args below meth c s.heap [] 0 0 _ _
  have hP : va_P (dC, dI) vcl [(mo, .inr (12, mdF r z q cd tm (nI sn) (nI tx)))] s.heap := hP
  refine lv_aload_n hx hb d_Md_prove_0 rfl (lv_at hl 0 rfl) ?_
  refine lv_iload_n hx hb d_Md_prove_1 rfl (lv_at hl 1 rfl) ?_
  have K42 : W p l e ({ frames := 1, cells := 0, slots := 0, locals := 21 } : Room) s m args below meth c s.heap [] 0 0 (MQ below (va_Qi (S := Unit) (fun rv9 u => True) (fun u t => va_P (dC, dI) vcl [(mo, .inr (12, mdF r z q 1 tm (nI sn) (nI tx)))] t.heap ∧ va_K (dC, dI) vcl (tyL cT) t ∧ va_D A [(mo, .inr (12, mdF r z q 1 tm (nI sn) (nI tx)))]) A) args s 0 0 A) (F0 m 14 ls [.ref mo]) := by
    refine lv_iconst (v := 0) hx hb d_Md_prove_14 (by decide) ?_
    have hPc := hP.sub (ws' := [(mo, .inr (12, mdF r z q cd tm (nI sn) (nI tx)))]) [0] rfl
    have hDc := hD.sub (ws' := [(mo, .inr (12, mdF r z q cd tm (nI sn) (nI tx)))]) [0] (by decide) rfl
    have hFc := va_free (wc := [(mo, .inr (12, mdF r z q cd tm (nI sn) (nI tx)))]) hD hS hA [0] rfl
    refine va_calli (va_runV (C := "DoorServerModel") (As := [.int 0]) (rest := []) ⟨hx, hb, hml, hown, hg⟩ (m_goes0 l dC dI cT s.heap.size mo r z q cd tm sn tx ) (cwV 1 hg (gI (List.forall_mem_append.mpr ⟨List.forall_mem_cons.mpr ⟨k_1165, List.forall_mem_cons.mpr ⟨k_1167, List.forall_mem_cons.mpr ⟨(big_sel (q := y_Md_goes) (n := 45) (by decide +kernel)), List.forall_mem_cons.mpr ⟨k_13, fun _ h => absurd h List.not_mem_nil⟩⟩⟩⟩, List.forall_mem_cons.mpr ⟨k_1168, fun _ h => h⟩⟩)) rfl rfl rfl (by decide +kernel) ⟨Nat.le_of_ble_eq_true rfl, Nat.le_of_ble_eq_true rfl⟩) ⟨fun a U g mk q => by obtain ⟨q0, q1, qP, qK, qD⟩ := q; exact ⟨q0, q1, qP, va_K.moved (u := U) (U := U.calling g mk a) (Vm.Alike.refl U.vm) qK, qD⟩, va_recv (q0 := 0) (ci := 12) hK hP rfl rfl, fun U hU hW => ⟨rfl, by rw [hU], by rw [hU]; exact hPc, va_K.moved hW.alike hK, hDc.weaken (fun _ _ _ _ => trivial)⟩⟩ rfl rfl hl.1 rfl (lv_room (Nat.le_of_ble_eq_true rfl)) d_Md_prove_15 ⟨Nat.le_of_ble_eq_true rfl, Nat.le_of_ble_eq_true rfl⟩) hS (fun q _ h => hFc q h) hFc (fun rv9 u t H1 locs ht hvm hw hB hz1 hk1 hS => ?_)
    try dsimp only at hw hB
    obtain ⟨hP1, hK1, hD1⟩ := hB
    rw [ht] at hP1
    obtain ⟨rfl, hw⟩ := hw
    obtain ⟨hP, hD⟩ := va_join (wr := []) (w1 := [(mo, .inr (12, mdF r z q 1 tm (nI sn) (nI tx)))]) hP hD [0] [] rfl rfl (by decide) (by decide) hk1 hFc hP1 hD1
    have hw43 := hw
    clear hPc hDc hFc hz1 hk1 hP1 hK1 hD1
    generalize H1 = H at hP hS ⊢
    have hP : va_P (dC, dI) vcl [(mo, .inr (12, mdF r z q 1 tm (nI sn) (nI tx)))] H := hP
    have hD : va_D A [(mo, .inr (12, mdF r z q 1 tm (nI sn) (nI tx)))] := hD
    refine lv_if_ne (tgt := 23) hx hb d_Md_prove_18 (by decide) (fun hn9 => absurd hn9 (by decide)) (fun hc44 => ?_)
    refine lv_iconst (v := 0) hx hb d_Md_prove_21 (by decide) ?_
    have hP9 := hP.sub (ws' := [(mo, .inr (12, mdF r z q 1 tm (nI sn) (nI tx)))]) [0] rfl
    have hD9 := hD.sub (ws' := [(mo, .inr (12, mdF r z q 1 tm (nI sn) (nI tx)))]) [0] (by decide) rfl
    exact W.iret (v := 0) hx hb hr (fun t ht hW => ⟨⟨_, (), rfl, trivial, by rw [ht]; exact hP9, va_K.moved hW.alike hK, hD9⟩, hS.F ht⟩) hS.2.2 d_Md_prove_22
  refine lv_if_lt (tgt := 14) hx hb d_Md_prove_2 (by decide) (fun hc45 => ?_) (fun hc45 => ?_)
  · exact K42
  · refine lv_iload_n hx hb d_Md_prove_5 rfl (lv_at hl 1 rfl) ?_
    refine lv_iconst (v := 4) hx hb d_Md_prove_6 (by decide) ?_
    refine lv_icmp_ge (tgt := 14) hx hb d_Md_prove_7 (by decide) (fun hc46 => ?_) (fun hn9 => absurd ((lt_le1 (by decide)).mp (hbad.resolve_left hc45)) hn9)
    exact K42
set_option maxHeartbeats 4000000 in
set_option maxRecDepth 100000 in
/-- seal: illegal argument -/
theorem b_seal (l : Launch) (dC : Nat → ClassId) (dI : Nat → Nat → Nat) (cT : Nat → ClassId) (sz : Nat) (mo : Nat) (r : Nat → Nat) (z : Nat → Int32) (q : Nat → Int64) (cd : Int32) (tm : Int32) (sn : Nat) (tx : Nat) (x : Int32) (hbad : x < 0 ∨ 3 < x) : Met l y_Md_seal (Cond.code y_Md_seal b_Md_seal 3 (Option.none : Option Jvm.ClassFile.FieldType) :: BIG) ({ frames := 1, cells := 0, slots := 0, locals := 21 }) (va_Pc [.ref mo, .int x] (fun U => U.heap.size = sz ∧ va_P (dC, dI) vcl [(mo, .inr (12, mdF r z q cd tm (nI sn) (nI tx)))] U.heap ∧ va_K (dC, dI) vcl (tyL cT) U ∧ va_D (fun _ => True) [(mo, .inr (12, mdF r z q cd tm (nI sn) (nI tx)))])) (va_Qv (S := Unit) (fun u => True) (fun u t => va_P (dC, dI) vcl [(mo, .inr (12, mdF r z q 1 tm (nI sn) (nI tx)))] t.heap ∧ va_K (dC, dI) vcl (tyL cT) t ∧ va_D (va_A [(mo, .inr (12, mdF r z q cd tm (nI sn) (nI tx)))] sz) [(mo, .inr (12, mdF r z q 1 tm (nI sn) (nI tx)))]) (va_A [(mo, .inr (12, mdF r z q cd tm (nI sn) (nI tx)))] sz)) 0 0 (va_A [(mo, .inr (12, mdF r z q cd tm (nI sn) (nI tx)))] sz) := by
  refine Met.ofW (cc := b_Md_seal) (maxL := 3) (ret := (Option.none : Option Jvm.ClassFile.FieldType)) (by decide) rfl ?_
  intro p e s m args below meth c s₁ B hml hv
  obtain ⟨hargs, hsz, hP, hK, hD0⟩ := hv
  have hx := B.exec
  have hb := B.bytes
  have hr := B.returns
  have hts := atoms_spec (ws := (Cond.code y_Md_seal b_Md_seal 3 (Option.none : Option Jvm.ClassFile.FieldType) :: BIG)) B.pre
  have hg : ∀ w ∈ BIG, w.before _ s = true := fun w h => hts w (List.mem_cons_of_mem _ h)
  have hown : s.vm.findClass "DoorServerModel" = some m.cls := findClass_of_methodNamed B.named
  have hlocks := B.notSynchronized
  subst hsz
  have hD := hD0.self (sz := s.heap.size)
  generalize hAe : va_A [(mo, .inr (12, mdF r z q cd tm (nI sn) (nI tx)))] s.heap.size = A at hD ⊢
  have hA : ∀ q : Nat, s.heap.size ≤ q → A q := fun q h => by rw [← hAe]; exact Or.inr h
  have hS : va_S A s.heap s.heap [] := va_S.rf
  have hl := lv_entry ([.ref mo, .int x]) (n := 3) (Nat.le_of_ble_eq_true rfl)
  refine W.eq (g2 := entryFrame m (List.toArray [.ref mo, .int x]) 3) (by rw [hargs]) ?_
  rw [lg_entry_eq]
  generalize (lg_sl ([.ref mo, .int x]) ++ List.replicate (3 - (lg_sl ([.ref mo, .int x])).length) Slot.unset).toArray = ls at hl ⊢
  have hl : lv_has ls 3 [(0, .ref mo), (1, .int x)] := hl
  change W p l e ({ frames := 1, cells := 0, slots := 0, locals := 21 } : Room) s m args below meth c s.heap [] 0 0 _ _
  have hP : va_P (dC, dI) vcl [(mo, .inr (12, mdF r z q cd tm (nI sn) (nI tx)))] s.heap := hP
  refine lv_aload_n hx hb d_Md_seal_0 rfl (lv_at hl 0 rfl) ?_
  refine lv_iload_n hx hb d_Md_seal_1 rfl (lv_at hl 1 rfl) ?_
  have K47 : W p l e ({ frames := 1, cells := 0, slots := 0, locals := 21 } : Room) s m args below meth c s.heap [] 0 0 (MQ below (va_Qv (S := Unit) (fun u => True) (fun u t => va_P (dC, dI) vcl [(mo, .inr (12, mdF r z q 1 tm (nI sn) (nI tx)))] t.heap ∧ va_K (dC, dI) vcl (tyL cT) t ∧ va_D A [(mo, .inr (12, mdF r z q 1 tm (nI sn) (nI tx)))]) A) args s 0 0 A) (F0 m 14 ls [.ref mo]) := by
    refine lv_iconst (v := 0) hx hb d_Md_seal_14 (by decide) ?_
    have hPc := hP.sub (ws' := [(mo, .inr (12, mdF r z q cd tm (nI sn) (nI tx)))]) [0] rfl
    have hDc := hD.sub (ws' := [(mo, .inr (12, mdF r z q cd tm (nI sn) (nI tx)))]) [0] (by decide) rfl
    have hFc := va_free (wc := [(mo, .inr (12, mdF r z q cd tm (nI sn) (nI tx)))]) hD hS hA [0] rfl
    refine va_calli (va_runV (C := "DoorServerModel") (As := [.int 0]) (rest := []) ⟨hx, hb, hml, hown, hg⟩ (m_goes0 l dC dI cT s.heap.size mo r z q cd tm sn tx ) (cwV 1 hg (gI (List.forall_mem_append.mpr ⟨List.forall_mem_cons.mpr ⟨k_1165, List.forall_mem_cons.mpr ⟨k_1167, List.forall_mem_cons.mpr ⟨(big_sel (q := y_Md_goes) (n := 45) (by decide +kernel)), List.forall_mem_cons.mpr ⟨k_13, fun _ h => absurd h List.not_mem_nil⟩⟩⟩⟩, List.forall_mem_cons.mpr ⟨k_1168, fun _ h => h⟩⟩)) rfl rfl rfl (by decide +kernel) ⟨Nat.le_of_ble_eq_true rfl, Nat.le_of_ble_eq_true rfl⟩) ⟨fun a U g mk q => by obtain ⟨q0, q1, qP, qK, qD⟩ := q; exact ⟨q0, q1, qP, va_K.moved (u := U) (U := U.calling g mk a) (Vm.Alike.refl U.vm) qK, qD⟩, va_recv (q0 := 0) (ci := 12) hK hP rfl rfl, fun U hU hW => ⟨rfl, by rw [hU], by rw [hU]; exact hPc, va_K.moved hW.alike hK, hDc.weaken (fun _ _ _ _ => trivial)⟩⟩ rfl rfl hl.1 rfl (lv_room (Nat.le_of_ble_eq_true rfl)) d_Md_seal_15 ⟨Nat.le_of_ble_eq_true rfl, Nat.le_of_ble_eq_true rfl⟩) hS (fun q _ h => hFc q h) hFc (fun rv9 u t H1 locs ht hvm hw hB hz1 hk1 hS => ?_)
    try dsimp only at hw hB
    obtain ⟨hP1, hK1, hD1⟩ := hB
    rw [ht] at hP1
    obtain ⟨rfl, hw⟩ := hw
    obtain ⟨hP, hD⟩ := va_join (wr := []) (w1 := [(mo, .inr (12, mdF r z q 1 tm (nI sn) (nI tx)))]) hP hD [0] [] rfl rfl (by decide) (by decide) hk1 hFc hP1 hD1
    have hw48 := hw
    clear hPc hDc hFc hz1 hk1 hP1 hK1 hD1
    generalize H1 = H at hP hS ⊢
    have hP : va_P (dC, dI) vcl [(mo, .inr (12, mdF r z q 1 tm (nI sn) (nI tx)))] H := hP
    have hD : va_D A [(mo, .inr (12, mdF r z q 1 tm (nI sn) (nI tx)))] := hD
    refine lv_if_eq (tgt := 58) hx hb d_Md_seal_18 (by decide) (fun hc49 => ?_) (fun hn9 => absurd (by decide) hn9)
    have hP9 := hP.sub (ws' := [(mo, .inr (12, mdF r z q 1 tm (nI sn) (nI tx)))]) [0] rfl
    have hD9 := hD.sub (ws' := [(mo, .inr (12, mdF r z q 1 tm (nI sn) (nI tx)))]) [0] (by decide) rfl
    exact W.vret hx hb hr (fun t ht hW => ⟨⟨(), rfl, trivial, by rw [ht]; exact hP9, va_K.moved hW.alike hK, hD9⟩, hS.F ht⟩) hS.2.2 d_Md_seal_58
  refine lv_if_lt (tgt := 14) hx hb d_Md_seal_2 (by decide) (fun hc50 => ?_) (fun hc50 => ?_)
  · exact K47
  · refine lv_iload_n hx hb d_Md_seal_5 rfl (lv_at hl 1 rfl) ?_
    refine lv_iconst (v := 4) hx hb d_Md_seal_6 (by decide) ?_
    refine lv_icmp_ge (tgt := 14) hx hb d_Md_seal_7 (by decide) (fun hc51 => ?_) (fun hn9 => absurd ((lt_le1 (by decide)).mp (hbad.resolve_left hc50)) hn9)
    exact K47
set_option maxHeartbeats 4000000 in
set_option maxRecDepth 100000 in
/-- send: illegal argument -/
theorem b_send (l : Launch) (dC : Nat → ClassId) (dI : Nat → Nat → Nat) (cT : Nat → ClassId) (sz : Nat) (mo : Nat) (r : Nat → Nat) (z : Nat → Int32) (q : Nat → Int64) (cd : Int32) (tm : Int32) (sn : Nat) (tx : Nat) (x : Int32) (hbad : x < 0 ∨ 3 < x) : Met l y_Md_send (Cond.code y_Md_send b_Md_send 5 (Option.some Jvm.ClassFile.FieldType.int) :: BIG) ({ frames := 1, cells := 0, slots := 0, locals := 21 }) (va_Pc [.ref mo, .int x] (fun U => U.heap.size = sz ∧ va_P (dC, dI) vcl [(mo, .inr (12, mdF r z q cd tm (nI sn) (nI tx)))] U.heap ∧ va_K (dC, dI) vcl (tyL cT) U ∧ va_D (fun _ => True) [(mo, .inr (12, mdF r z q cd tm (nI sn) (nI tx)))])) (va_Qi (S := Unit) (fun rv9 u => True) (fun u t => va_P (dC, dI) vcl [(mo, .inr (12, mdF r z q 1 tm (nI sn) (nI tx)))] t.heap ∧ va_K (dC, dI) vcl (tyL cT) t ∧ va_D (va_A [(mo, .inr (12, mdF r z q cd tm (nI sn) (nI tx)))] sz) [(mo, .inr (12, mdF r z q 1 tm (nI sn) (nI tx)))]) (va_A [(mo, .inr (12, mdF r z q cd tm (nI sn) (nI tx)))] sz)) 0 0 (va_A [(mo, .inr (12, mdF r z q cd tm (nI sn) (nI tx)))] sz) := by
  refine Met.ofW (cc := b_Md_send) (maxL := 5) (ret := (Option.some Jvm.ClassFile.FieldType.int)) (by decide) rfl ?_
  intro p e s m args below meth c s₁ B hml hv
  obtain ⟨hargs, hsz, hP, hK, hD0⟩ := hv
  have hx := B.exec
  have hb := B.bytes
  have hr := B.returns
  have hts := atoms_spec (ws := (Cond.code y_Md_send b_Md_send 5 (Option.some Jvm.ClassFile.FieldType.int) :: BIG)) B.pre
  have hg : ∀ w ∈ BIG, w.before _ s = true := fun w h => hts w (List.mem_cons_of_mem _ h)
  have hown : s.vm.findClass "DoorServerModel" = some m.cls := findClass_of_methodNamed B.named
  have hlocks := B.notSynchronized
  subst hsz
  have hD := hD0.self (sz := s.heap.size)
  generalize hAe : va_A [(mo, .inr (12, mdF r z q cd tm (nI sn) (nI tx)))] s.heap.size = A at hD ⊢
  have hA : ∀ q : Nat, s.heap.size ≤ q → A q := fun q h => by rw [← hAe]; exact Or.inr h
  have hS : va_S A s.heap s.heap [] := va_S.rf
  have hl := lv_entry ([.ref mo, .int x]) (n := 5) (Nat.le_of_ble_eq_true rfl)
  refine W.eq (g2 := entryFrame m (List.toArray [.ref mo, .int x]) 5) (by rw [hargs]) ?_
  rw [lg_entry_eq]
  generalize (lg_sl ([.ref mo, .int x]) ++ List.replicate (5 - (lg_sl ([.ref mo, .int x])).length) Slot.unset).toArray = ls at hl ⊢
  have hl : lv_has ls 5 [(0, .ref mo), (1, .int x)] := hl
  change W p l e ({ frames := 1, cells := 0, slots := 0, locals := 21 } : Room) s m args below meth c s.heap [] 0 0 _ _
  have hP : va_P (dC, dI) vcl [(mo, .inr (12, mdF r z q cd tm (nI sn) (nI tx)))] s.heap := hP
  refine lv_aload_n hx hb d_Md_send_0 rfl (lv_at hl 0 rfl) ?_
  refine lv_iload_n hx hb d_Md_send_1 rfl (lv_at hl 1 rfl) ?_
  have K52 : W p l e ({ frames := 1, cells := 0, slots := 0, locals := 21 } : Room) s m args below meth c s.heap [] 0 0 (MQ below (va_Qi (S := Unit) (fun rv9 u => True) (fun u t => va_P (dC, dI) vcl [(mo, .inr (12, mdF r z q 1 tm (nI sn) (nI tx)))] t.heap ∧ va_K (dC, dI) vcl (tyL cT) t ∧ va_D A [(mo, .inr (12, mdF r z q 1 tm (nI sn) (nI tx)))]) A) args s 0 0 A) (F0 m 14 ls [.ref mo]) := by
    refine lv_iconst (v := 0) hx hb d_Md_send_14 (by decide) ?_
    have hPc := hP.sub (ws' := [(mo, .inr (12, mdF r z q cd tm (nI sn) (nI tx)))]) [0] rfl
    have hDc := hD.sub (ws' := [(mo, .inr (12, mdF r z q cd tm (nI sn) (nI tx)))]) [0] (by decide) rfl
    have hFc := va_free (wc := [(mo, .inr (12, mdF r z q cd tm (nI sn) (nI tx)))]) hD hS hA [0] rfl
    refine va_calli (va_runV (C := "DoorServerModel") (As := [.int 0]) (rest := []) ⟨hx, hb, hml, hown, hg⟩ (m_goes0 l dC dI cT s.heap.size mo r z q cd tm sn tx ) (cwV 1 hg (gI (List.forall_mem_append.mpr ⟨List.forall_mem_cons.mpr ⟨k_1165, List.forall_mem_cons.mpr ⟨k_1167, List.forall_mem_cons.mpr ⟨(big_sel (q := y_Md_goes) (n := 45) (by decide +kernel)), List.forall_mem_cons.mpr ⟨k_13, fun _ h => absurd h List.not_mem_nil⟩⟩⟩⟩, List.forall_mem_cons.mpr ⟨k_1168, fun _ h => h⟩⟩)) rfl rfl rfl (by decide +kernel) ⟨Nat.le_of_ble_eq_true rfl, Nat.le_of_ble_eq_true rfl⟩) ⟨fun a U g mk q => by obtain ⟨q0, q1, qP, qK, qD⟩ := q; exact ⟨q0, q1, qP, va_K.moved (u := U) (U := U.calling g mk a) (Vm.Alike.refl U.vm) qK, qD⟩, va_recv (q0 := 0) (ci := 12) hK hP rfl rfl, fun U hU hW => ⟨rfl, by rw [hU], by rw [hU]; exact hPc, va_K.moved hW.alike hK, hDc.weaken (fun _ _ _ _ => trivial)⟩⟩ rfl rfl hl.1 rfl (lv_room (Nat.le_of_ble_eq_true rfl)) d_Md_send_15 ⟨Nat.le_of_ble_eq_true rfl, Nat.le_of_ble_eq_true rfl⟩) hS (fun q _ h => hFc q h) hFc (fun rv9 u t H1 locs ht hvm hw hB hz1 hk1 hS => ?_)
    try dsimp only at hw hB
    obtain ⟨hP1, hK1, hD1⟩ := hB
    rw [ht] at hP1
    obtain ⟨rfl, hw⟩ := hw
    obtain ⟨hP, hD⟩ := va_join (wr := []) (w1 := [(mo, .inr (12, mdF r z q 1 tm (nI sn) (nI tx)))]) hP hD [0] [] rfl rfl (by decide) (by decide) hk1 hFc hP1 hD1
    have hw53 := hw
    clear hPc hDc hFc hz1 hk1 hP1 hK1 hD1
    generalize H1 = H at hP hS ⊢
    have hP : va_P (dC, dI) vcl [(mo, .inr (12, mdF r z q 1 tm (nI sn) (nI tx)))] H := hP
    have hD : va_D A [(mo, .inr (12, mdF r z q 1 tm (nI sn) (nI tx)))] := hD
    refine lv_if_ne (tgt := 23) hx hb d_Md_send_18 (by decide) (fun hn9 => absurd hn9 (by decide)) (fun hc54 => ?_)
    refine lv_iconst (v := 0) hx hb d_Md_send_21 (by decide) ?_
    have hP9 := hP.sub (ws' := [(mo, .inr (12, mdF r z q 1 tm (nI sn) (nI tx)))]) [0] rfl
    have hD9 := hD.sub (ws' := [(mo, .inr (12, mdF r z q 1 tm (nI sn) (nI tx)))]) [0] (by decide) rfl
    exact W.iret (v := 0) hx hb hr (fun t ht hW => ⟨⟨_, (), rfl, trivial, by rw [ht]; exact hP9, va_K.moved hW.alike hK, hD9⟩, hS.F ht⟩) hS.2.2 d_Md_send_22
  refine lv_if_lt (tgt := 14) hx hb d_Md_send_2 (by decide) (fun hc55 => ?_) (fun hc55 => ?_)
  · exact K52
  · refine lv_iload_n hx hb d_Md_send_5 rfl (lv_at hl 1 rfl) ?_
    refine lv_iconst (v := 4) hx hb d_Md_send_6 (by decide) ?_
    refine lv_icmp_ge (tgt := 14) hx hb d_Md_send_7 (by decide) (fun hc56 => ?_) (fun hn9 => absurd ((lt_le1 (by decide)).mp (hbad.resolve_left hc55)) hn9)
    exact K52
set_option maxHeartbeats 4000000 in
set_option maxRecDepth 100000 in
/-- draft: illegal argument -/
theorem b_draft1 (l : Launch) (dC : Nat → ClassId) (dI : Nat → Nat → Nat) (cT : Nat → ClassId) (sz : Nat) (mo : Nat) (r : Nat → Nat) (z : Nat → Int32) (q : Nat → Int64) (cd : Int32) (tm : Int32) (sn : Nat) (tx : Nat) (x : Int32) (y : Int32) (v : Int64) (hbad : x < 0 ∨ 255 < x) : Met l y_Md_draft (Cond.code y_Md_draft b_Md_draft 5 (Option.none : Option Jvm.ClassFile.FieldType) :: BIG) ({ frames := 1, cells := 0, slots := 0, locals := 21 }) (va_Pc [.ref mo, .int x, .int y, .long v] (fun U => U.heap.size = sz ∧ va_P (dC, dI) vcl [(mo, .inr (12, mdF r z q cd tm (nI sn) (nI tx)))] U.heap ∧ va_K (dC, dI) vcl (tyL cT) U ∧ va_D (fun _ => True) [(mo, .inr (12, mdF r z q cd tm (nI sn) (nI tx)))])) (va_Qv (S := Unit) (fun u => True) (fun u t => va_P (dC, dI) vcl [(mo, .inr (12, mdF r z q 1 tm (nI sn) (nI tx)))] t.heap ∧ va_K (dC, dI) vcl (tyL cT) t ∧ va_D (va_A [(mo, .inr (12, mdF r z q cd tm (nI sn) (nI tx)))] sz) [(mo, .inr (12, mdF r z q 1 tm (nI sn) (nI tx)))]) (va_A [(mo, .inr (12, mdF r z q cd tm (nI sn) (nI tx)))] sz)) 0 0 (va_A [(mo, .inr (12, mdF r z q cd tm (nI sn) (nI tx)))] sz) := by
  refine Met.ofW (cc := b_Md_draft) (maxL := 5) (ret := (Option.none : Option Jvm.ClassFile.FieldType)) (by decide) rfl ?_
  intro p e s m args below meth c s₁ B hml hv
  obtain ⟨hargs, hsz, hP, hK, hD0⟩ := hv
  have hx := B.exec
  have hb := B.bytes
  have hr := B.returns
  have hts := atoms_spec (ws := (Cond.code y_Md_draft b_Md_draft 5 (Option.none : Option Jvm.ClassFile.FieldType) :: BIG)) B.pre
  have hg : ∀ w ∈ BIG, w.before _ s = true := fun w h => hts w (List.mem_cons_of_mem _ h)
  have hown : s.vm.findClass "DoorServerModel" = some m.cls := findClass_of_methodNamed B.named
  have hlocks := B.notSynchronized
  subst hsz
  have hD := hD0.self (sz := s.heap.size)
  generalize hAe : va_A [(mo, .inr (12, mdF r z q cd tm (nI sn) (nI tx)))] s.heap.size = A at hD ⊢
  have hA : ∀ q : Nat, s.heap.size ≤ q → A q := fun q h => by rw [← hAe]; exact Or.inr h
  have hS : va_S A s.heap s.heap [] := va_S.rf
  have hl := lv_entry ([.ref mo, .int x, .int y, .long v]) (n := 5) (Nat.le_of_ble_eq_true rfl)
  refine W.eq (g2 := entryFrame m (List.toArray [.ref mo, .int x, .int y, .long v]) 5) (by rw [hargs]) ?_
  rw [lg_entry_eq]
  generalize (lg_sl ([.ref mo, .int x, .int y, .long v]) ++ List.replicate (5 - (lg_sl ([.ref mo, .int x, .int y, .long v])).length) Slot.unset).toArray = ls at hl ⊢
  have hl : lv_has ls 5 [(0, .ref mo), (1, .int x), (2, .int y), (3, .long v)] := hl
  change W p l e ({ frames := 1, cells := 0, slots := 0, locals := 21 } : Room) s m args below meth c s.heap [] 0 0 _ _
  have hP : va_P (dC, dI) vcl [(mo, .inr (12, mdF r z q cd tm (nI sn) (nI tx)))] s.heap := hP
  refine lv_aload_n hx hb d_Md_draft_0 rfl (lv_at hl 0 rfl) ?_
  refine lv_iload_n hx hb d_Md_draft_1 rfl (lv_at hl 1 rfl) ?_
  have hPc := hP.sub (ws' := []) [] rfl
  have hDc := hD.sub (ws' := []) [] (by decide) rfl
  have hFc := va_free (wc := []) hD hS hA [] rfl
  refine va_calli (va_runS (As := [.int x]) (rest := [.ref mo]) ⟨hx, hb, hml, hown, hg⟩ (m_byte0 l dC dI cT s.heap.size x (hbad)) (va_cwS 1 hg (gI (List.forall_mem_append.mpr ⟨List.forall_mem_cons.mpr ⟨k_1181, List.forall_mem_cons.mpr ⟨k_1182, List.forall_mem_cons.mpr ⟨k_13, fun _ h => absurd h List.not_mem_nil⟩⟩⟩, List.forall_mem_cons.mpr ⟨k_1183, fun _ h => h⟩⟩)) rfl rfl rfl (by decide +kernel) ⟨Nat.le_of_ble_eq_true rfl, Nat.le_of_ble_eq_true rfl⟩) ⟨fun a U g mk q => by obtain ⟨q0, q1, qP, qK, qD⟩ := q; exact ⟨q0, q1, qP, va_K.moved (u := U) (U := U.calling g mk a) (Vm.Alike.refl U.vm) qK, qD⟩, fun U hU hW => ⟨rfl, by rw [hU], by rw [hU]; exact hPc, va_K.moved hW.alike hK, hDc.weaken (fun _ _ _ _ => trivial)⟩⟩ rfl rfl hl.1 rfl (lv_room (Nat.le_of_ble_eq_true rfl)) d_Md_draft_2 ⟨Nat.le_of_ble_eq_true rfl, Nat.le_of_ble_eq_true rfl⟩) hS (fun q _ h => hFc q h) hFc (fun rv9 u t H1 locs ht hvm hw hB hz1 hk1 hS => ?_)
  try dsimp only at hw hB
  obtain ⟨hP1, hK1, hD1⟩ := hB
  rw [ht] at hP1
  obtain ⟨rfl, hw⟩ := hw
  obtain ⟨hP, hD⟩ := va_join (wr := [(mo, .inr (12, mdF r z q cd tm (nI sn) (nI tx)))]) (w1 := []) hP hD [] [0] rfl rfl (by decide) (by decide) hk1 hFc hP1 hD1
  have hw57 := hw
  clear hPc hDc hFc hz1 hk1 hP1 hK1 hD1
  generalize H1 = H at hP hS ⊢
  have hP : va_P (dC, dI) vcl [(mo, .inr (12, mdF r z q cd tm (nI sn) (nI tx)))] H := hP
  have hD : va_D A [(mo, .inr (12, mdF r z q cd tm (nI sn) (nI tx)))] := hD
  refine lv_if_eq (tgt := 19) hx hb d_Md_draft_5 (by decide) (fun hc58 => ?_) (fun hn9 => absurd (by decide) hn9)
  refine lv_iconst (v := 0) hx hb d_Md_draft_19 (by decide) ?_
  have hPc := hP.sub (ws' := [(mo, .inr (12, mdF r z q cd tm (nI sn) (nI tx)))]) [0] rfl
  have hDc := hD.sub (ws' := [(mo, .inr (12, mdF r z q cd tm (nI sn) (nI tx)))]) [0] (by decide) rfl
  have hFc := va_free (wc := [(mo, .inr (12, mdF r z q cd tm (nI sn) (nI tx)))]) hD hS hA [0] rfl
  refine va_calli (va_runV (C := "DoorServerModel") (As := [.int 0]) (rest := []) ⟨hx, hb, hml, hown, hg⟩ (m_goes0 l dC dI cT H.size mo r z q cd tm sn tx ) (cwV 1 hg (gI (List.forall_mem_append.mpr ⟨List.forall_mem_cons.mpr ⟨k_1165, List.forall_mem_cons.mpr ⟨k_1167, List.forall_mem_cons.mpr ⟨(big_sel (q := y_Md_goes) (n := 45) (by decide +kernel)), List.forall_mem_cons.mpr ⟨k_13, fun _ h => absurd h List.not_mem_nil⟩⟩⟩⟩, List.forall_mem_cons.mpr ⟨k_1168, fun _ h => h⟩⟩)) rfl rfl rfl (by decide +kernel) ⟨Nat.le_of_ble_eq_true rfl, Nat.le_of_ble_eq_true rfl⟩) ⟨fun a U g mk q => by obtain ⟨q0, q1, qP, qK, qD⟩ := q; exact ⟨q0, q1, qP, va_K.moved (u := U) (U := U.calling g mk a) (Vm.Alike.refl U.vm) qK, qD⟩, va_recv (q0 := 0) (ci := 12) hK hP rfl rfl, fun U hU hW => ⟨rfl, by rw [hU], by rw [hU]; exact hPc, va_K.moved hW.alike hK, hDc.weaken (fun _ _ _ _ => trivial)⟩⟩ rfl rfl hl.1 rfl (lv_room (Nat.le_of_ble_eq_true rfl)) d_Md_draft_20 ⟨Nat.le_of_ble_eq_true rfl, Nat.le_of_ble_eq_true rfl⟩) hS (fun q _ h => hFc q h) hFc (fun rv9 u t H1 locs ht hvm hw hB hz1 hk1 hS => ?_)
  try dsimp only at hw hB
  obtain ⟨hP1, hK1, hD1⟩ := hB
  rw [ht] at hP1
  obtain ⟨rfl, hw⟩ := hw
  obtain ⟨hP, hD⟩ := va_join (wr := []) (w1 := [(mo, .inr (12, mdF r z q 1 tm (nI sn) (nI tx)))]) hP hD [0] [] rfl rfl (by decide) (by decide) hk1 hFc hP1 hD1
  have hw59 := hw
  clear hPc hDc hFc hz1 hk1 hP1 hK1 hD1
  generalize H1 = H at hP hS ⊢
  have hP : va_P (dC, dI) vcl [(mo, .inr (12, mdF r z q 1 tm (nI sn) (nI tx)))] H := hP
  have hD : va_D A [(mo, .inr (12, mdF r z q 1 tm (nI sn) (nI tx)))] := hD
  refine lv_if_eq (tgt := 33) hx hb d_Md_draft_23 (by decide) (fun hc60 => ?_) (fun hn9 => absurd (by decide) hn9)
  have hP9 := hP.sub (ws' := [(mo, .inr (12, mdF r z q 1 tm (nI sn) (nI tx)))]) [0] rfl
  have hD9 := hD.sub (ws' := [(mo, .inr (12, mdF r z q 1 tm (nI sn) (nI tx)))]) [0] (by decide) rfl
  exact W.vret hx hb hr (fun t ht hW => ⟨⟨(), rfl, trivial, by rw [ht]; exact hP9, va_K.moved hW.alike hK, hD9⟩, hS.F ht⟩) hS.2.2 d_Md_draft_33
set_option maxHeartbeats 4000000 in
set_option maxRecDepth 100000 in
/-- draft: illegal argument -/
theorem b_draft2 (l : Launch) (dC : Nat → ClassId) (dI : Nat → Nat → Nat) (cT : Nat → ClassId) (sz : Nat) (mo : Nat) (r : Nat → Nat) (z : Nat → Int32) (q : Nat → Int64) (cd : Int32) (tm : Int32) (sn : Nat) (tx : Nat) (x : Int32) (y : Int32) (v : Int64) (hx1 : ¬ x < 0) (hx2 : ¬ 255 < x) (hbad : y < 0 ∨ 255 < y) : Met l y_Md_draft (Cond.code y_Md_draft b_Md_draft 5 (Option.none : Option Jvm.ClassFile.FieldType) :: BIG) ({ frames := 1, cells := 0, slots := 0, locals := 21 }) (va_Pc [.ref mo, .int x, .int y, .long v] (fun U => U.heap.size = sz ∧ va_P (dC, dI) vcl [(mo, .inr (12, mdF r z q cd tm (nI sn) (nI tx)))] U.heap ∧ va_K (dC, dI) vcl (tyL cT) U ∧ va_D (fun _ => True) [(mo, .inr (12, mdF r z q cd tm (nI sn) (nI tx)))])) (va_Qv (S := Unit) (fun u => True) (fun u t => va_P (dC, dI) vcl [(mo, .inr (12, mdF r z q 1 tm (nI sn) (nI tx)))] t.heap ∧ va_K (dC, dI) vcl (tyL cT) t ∧ va_D (va_A [(mo, .inr (12, mdF r z q cd tm (nI sn) (nI tx)))] sz) [(mo, .inr (12, mdF r z q 1 tm (nI sn) (nI tx)))]) (va_A [(mo, .inr (12, mdF r z q cd tm (nI sn) (nI tx)))] sz)) 0 0 (va_A [(mo, .inr (12, mdF r z q cd tm (nI sn) (nI tx)))] sz) := by
  refine Met.ofW (cc := b_Md_draft) (maxL := 5) (ret := (Option.none : Option Jvm.ClassFile.FieldType)) (by decide) rfl ?_
  intro p e s m args below meth c s₁ B hml hv
  obtain ⟨hargs, hsz, hP, hK, hD0⟩ := hv
  have hx := B.exec
  have hb := B.bytes
  have hr := B.returns
  have hts := atoms_spec (ws := (Cond.code y_Md_draft b_Md_draft 5 (Option.none : Option Jvm.ClassFile.FieldType) :: BIG)) B.pre
  have hg : ∀ w ∈ BIG, w.before _ s = true := fun w h => hts w (List.mem_cons_of_mem _ h)
  have hown : s.vm.findClass "DoorServerModel" = some m.cls := findClass_of_methodNamed B.named
  have hlocks := B.notSynchronized
  subst hsz
  have hD := hD0.self (sz := s.heap.size)
  generalize hAe : va_A [(mo, .inr (12, mdF r z q cd tm (nI sn) (nI tx)))] s.heap.size = A at hD ⊢
  have hA : ∀ q : Nat, s.heap.size ≤ q → A q := fun q h => by rw [← hAe]; exact Or.inr h
  have hS : va_S A s.heap s.heap [] := va_S.rf
  have hl := lv_entry ([.ref mo, .int x, .int y, .long v]) (n := 5) (Nat.le_of_ble_eq_true rfl)
  refine W.eq (g2 := entryFrame m (List.toArray [.ref mo, .int x, .int y, .long v]) 5) (by rw [hargs]) ?_
  rw [lg_entry_eq]
  generalize (lg_sl ([.ref mo, .int x, .int y, .long v]) ++ List.replicate (5 - (lg_sl ([.ref mo, .int x, .int y, .long v])).length) Slot.unset).toArray = ls at hl ⊢
  have hl : lv_has ls 5 [(0, .ref mo), (1, .int x), (2, .int y), (3, .long v)] := hl
  change W p l e ({ frames := 1, cells := 0, slots := 0, locals := 21 } : Room) s m args below meth c s.heap [] 0 0 _ _
  have hP : va_P (dC, dI) vcl [(mo, .inr (12, mdF r z q cd tm (nI sn) (nI tx)))] s.heap := hP
  refine lv_aload_n hx hb d_Md_draft_0 rfl (lv_at hl 0 rfl) ?_
  refine lv_iload_n hx hb d_Md_draft_1 rfl (lv_at hl 1 rfl) ?_
  have hPc := hP.sub (ws' := []) [] rfl
  have hDc := hD.sub (ws' := []) [] (by decide) rfl
  have hFc := va_free (wc := []) hD hS hA [] rfl
  refine va_calli (va_runS (As := [.int x]) (rest := [.ref mo]) ⟨hx, hb, hml, hown, hg⟩ (m_byte1 l dC dI cT s.heap.size x (hx1) (hx2)) (va_cwS 1 hg (gI (List.forall_mem_append.mpr ⟨List.forall_mem_cons.mpr ⟨k_1181, List.forall_mem_cons.mpr ⟨k_1182, List.forall_mem_cons.mpr ⟨k_13, fun _ h => absurd h List.not_mem_nil⟩⟩⟩, List.forall_mem_cons.mpr ⟨k_1183, fun _ h => h⟩⟩)) rfl rfl rfl (by decide +kernel) ⟨Nat.le_of_ble_eq_true rfl, Nat.le_of_ble_eq_true rfl⟩) ⟨fun a U g mk q => by obtain ⟨q0, q1, qP, qK, qD⟩ := q; exact ⟨q0, q1, qP, va_K.moved (u := U) (U := U.calling g mk a) (Vm.Alike.refl U.vm) qK, qD⟩, fun U hU hW => ⟨rfl, by rw [hU], by rw [hU]; exact hPc, va_K.moved hW.alike hK, hDc.weaken (fun _ _ _ _ => trivial)⟩⟩ rfl rfl hl.1 rfl (lv_room (Nat.le_of_ble_eq_true rfl)) d_Md_draft_2 ⟨Nat.le_of_ble_eq_true rfl, Nat.le_of_ble_eq_true rfl⟩) hS (fun q _ h => hFc q h) hFc (fun rv9 u t H1 locs ht hvm hw hB hz1 hk1 hS => ?_)
  try dsimp only at hw hB
  obtain ⟨hP1, hK1, hD1⟩ := hB
  rw [ht] at hP1
  obtain ⟨rfl, hw⟩ := hw
  obtain ⟨hP, hD⟩ := va_join (wr := [(mo, .inr (12, mdF r z q cd tm (nI sn) (nI tx)))]) (w1 := []) hP hD [] [0] rfl rfl (by decide) (by decide) hk1 hFc hP1 hD1
  have hw61 := hw
  clear hPc hDc hFc hz1 hk1 hP1 hK1 hD1
  generalize H1 = H at hP hS ⊢
  have hP : va_P (dC, dI) vcl [(mo, .inr (12, mdF r z q cd tm (nI sn) (nI tx)))] H := hP
  have hD : va_D A [(mo, .inr (12, mdF r z q cd tm (nI sn) (nI tx)))] := hD
  refine lv_if_eq (tgt := 19) hx hb d_Md_draft_5 (by decide) (fun hn9 => absurd hn9 (by decide)) (fun hc62 => ?_)
  refine lv_iload_n hx hb d_Md_draft_8 rfl (lv_at hl 2 rfl) ?_
  have hPc := hP.sub (ws' := []) [] rfl
  have hDc := hD.sub (ws' := []) [] (by decide) rfl
  have hFc := va_free (wc := []) hD hS hA [] rfl
  refine va_calli (va_runS (As := [.int y]) (rest := [.ref mo]) ⟨hx, hb, hml, hown, hg⟩ (m_byte0 l dC dI cT H.size y (hbad)) (va_cwS 1 hg (gI (List.forall_mem_append.mpr ⟨List.forall_mem_cons.mpr ⟨k_1181, List.forall_mem_cons.mpr ⟨k_1182, List.forall_mem_cons.mpr ⟨k_13, fun _ h => absurd h List.not_mem_nil⟩⟩⟩, List.forall_mem_cons.mpr ⟨k_1183, fun _ h => h⟩⟩)) rfl rfl rfl (by decide +kernel) ⟨Nat.le_of_ble_eq_true rfl, Nat.le_of_ble_eq_true rfl⟩) ⟨fun a U g mk q => by obtain ⟨q0, q1, qP, qK, qD⟩ := q; exact ⟨q0, q1, qP, va_K.moved (u := U) (U := U.calling g mk a) (Vm.Alike.refl U.vm) qK, qD⟩, fun U hU hW => ⟨rfl, by rw [hU], by rw [hU]; exact hPc, va_K.moved hW.alike hK, hDc.weaken (fun _ _ _ _ => trivial)⟩⟩ rfl rfl hl.1 rfl (lv_room (Nat.le_of_ble_eq_true rfl)) d_Md_draft_9 ⟨Nat.le_of_ble_eq_true rfl, Nat.le_of_ble_eq_true rfl⟩) hS (fun q _ h => hFc q h) hFc (fun rv9 u t H1 locs ht hvm hw hB hz1 hk1 hS => ?_)
  try dsimp only at hw hB
  obtain ⟨hP1, hK1, hD1⟩ := hB
  rw [ht] at hP1
  obtain ⟨rfl, hw⟩ := hw
  obtain ⟨hP, hD⟩ := va_join (wr := [(mo, .inr (12, mdF r z q cd tm (nI sn) (nI tx)))]) (w1 := []) hP hD [] [0] rfl rfl (by decide) (by decide) hk1 hFc hP1 hD1
  have hw63 := hw
  clear hPc hDc hFc hz1 hk1 hP1 hK1 hD1
  generalize H1 = H at hP hS ⊢
  have hP : va_P (dC, dI) vcl [(mo, .inr (12, mdF r z q cd tm (nI sn) (nI tx)))] H := hP
  have hD : va_D A [(mo, .inr (12, mdF r z q cd tm (nI sn) (nI tx)))] := hD
  refine lv_if_eq (tgt := 19) hx hb d_Md_draft_12 (by decide) (fun hc64 => ?_) (fun hn9 => absurd (by decide) hn9)
  refine lv_iconst (v := 0) hx hb d_Md_draft_19 (by decide) ?_
  have hPc := hP.sub (ws' := [(mo, .inr (12, mdF r z q cd tm (nI sn) (nI tx)))]) [0] rfl
  have hDc := hD.sub (ws' := [(mo, .inr (12, mdF r z q cd tm (nI sn) (nI tx)))]) [0] (by decide) rfl
  have hFc := va_free (wc := [(mo, .inr (12, mdF r z q cd tm (nI sn) (nI tx)))]) hD hS hA [0] rfl
  refine va_calli (va_runV (C := "DoorServerModel") (As := [.int 0]) (rest := []) ⟨hx, hb, hml, hown, hg⟩ (m_goes0 l dC dI cT H.size mo r z q cd tm sn tx ) (cwV 1 hg (gI (List.forall_mem_append.mpr ⟨List.forall_mem_cons.mpr ⟨k_1165, List.forall_mem_cons.mpr ⟨k_1167, List.forall_mem_cons.mpr ⟨(big_sel (q := y_Md_goes) (n := 45) (by decide +kernel)), List.forall_mem_cons.mpr ⟨k_13, fun _ h => absurd h List.not_mem_nil⟩⟩⟩⟩, List.forall_mem_cons.mpr ⟨k_1168, fun _ h => h⟩⟩)) rfl rfl rfl (by decide +kernel) ⟨Nat.le_of_ble_eq_true rfl, Nat.le_of_ble_eq_true rfl⟩) ⟨fun a U g mk q => by obtain ⟨q0, q1, qP, qK, qD⟩ := q; exact ⟨q0, q1, qP, va_K.moved (u := U) (U := U.calling g mk a) (Vm.Alike.refl U.vm) qK, qD⟩, va_recv (q0 := 0) (ci := 12) hK hP rfl rfl, fun U hU hW => ⟨rfl, by rw [hU], by rw [hU]; exact hPc, va_K.moved hW.alike hK, hDc.weaken (fun _ _ _ _ => trivial)⟩⟩ rfl rfl hl.1 rfl (lv_room (Nat.le_of_ble_eq_true rfl)) d_Md_draft_20 ⟨Nat.le_of_ble_eq_true rfl, Nat.le_of_ble_eq_true rfl⟩) hS (fun q _ h => hFc q h) hFc (fun rv9 u t H1 locs ht hvm hw hB hz1 hk1 hS => ?_)
  try dsimp only at hw hB
  obtain ⟨hP1, hK1, hD1⟩ := hB
  rw [ht] at hP1
  obtain ⟨rfl, hw⟩ := hw
  obtain ⟨hP, hD⟩ := va_join (wr := []) (w1 := [(mo, .inr (12, mdF r z q 1 tm (nI sn) (nI tx)))]) hP hD [0] [] rfl rfl (by decide) (by decide) hk1 hFc hP1 hD1
  have hw65 := hw
  clear hPc hDc hFc hz1 hk1 hP1 hK1 hD1
  generalize H1 = H at hP hS ⊢
  have hP : va_P (dC, dI) vcl [(mo, .inr (12, mdF r z q 1 tm (nI sn) (nI tx)))] H := hP
  have hD : va_D A [(mo, .inr (12, mdF r z q 1 tm (nI sn) (nI tx)))] := hD
  refine lv_if_eq (tgt := 33) hx hb d_Md_draft_23 (by decide) (fun hc66 => ?_) (fun hn9 => absurd (by decide) hn9)
  have hP9 := hP.sub (ws' := [(mo, .inr (12, mdF r z q 1 tm (nI sn) (nI tx)))]) [0] rfl
  have hD9 := hD.sub (ws' := [(mo, .inr (12, mdF r z q 1 tm (nI sn) (nI tx)))]) [0] (by decide) rfl
  exact W.vret hx hb hr (fun t ht hW => ⟨⟨(), rfl, trivial, by rw [ht]; exact hP9, va_K.moved hW.alike hK, hD9⟩, hS.F ht⟩) hS.2.2 d_Md_draft_33
set_option maxHeartbeats 4000000 in
set_option maxRecDepth 100000 in
/-- put: illegal argument -/
theorem b_put1 (l : Launch) (dC : Nat → ClassId) (dI : Nat → Nat → Nat) (cT : Nat → ClassId) (sz : Nat) (mo : Nat) (r : Nat → Nat) (z : Nat → Int32) (q : Nat → Int64) (cd : Int32) (tm : Int32) (sn : Nat) (tx : Nat) (x : Int32) (y : Int32) (z9 : Int32) (hbad : x < 0 ∨ 255 < x) : Met l y_Md_put (Cond.code y_Md_put b_Md_put 5 (Option.some Jvm.ClassFile.FieldType.int) :: BIG) ({ frames := 1, cells := 0, slots := 0, locals := 21 }) (va_Pc [.ref mo, .int x, .int y, .int z9] (fun U => U.heap.size = sz ∧ va_P (dC, dI) vcl [(mo, .inr (12, mdF r z q cd tm (nI sn) (nI tx)))] U.heap ∧ va_K (dC, dI) vcl (tyL cT) U ∧ va_D (fun _ => True) [(mo, .inr (12, mdF r z q cd tm (nI sn) (nI tx)))])) (va_Qi (S := Unit) (fun rv9 u => True) (fun u t => va_P (dC, dI) vcl [(mo, .inr (12, mdF r z q 1 tm (nI sn) (nI tx)))] t.heap ∧ va_K (dC, dI) vcl (tyL cT) t ∧ va_D (va_A [(mo, .inr (12, mdF r z q cd tm (nI sn) (nI tx)))] sz) [(mo, .inr (12, mdF r z q 1 tm (nI sn) (nI tx)))]) (va_A [(mo, .inr (12, mdF r z q cd tm (nI sn) (nI tx)))] sz)) 0 0 (va_A [(mo, .inr (12, mdF r z q cd tm (nI sn) (nI tx)))] sz) := by
  refine Met.ofW (cc := b_Md_put) (maxL := 5) (ret := (Option.some Jvm.ClassFile.FieldType.int)) (by decide) rfl ?_
  intro p e s m args below meth c s₁ B hml hv
  obtain ⟨hargs, hsz, hP, hK, hD0⟩ := hv
  have hx := B.exec
  have hb := B.bytes
  have hr := B.returns
  have hts := atoms_spec (ws := (Cond.code y_Md_put b_Md_put 5 (Option.some Jvm.ClassFile.FieldType.int) :: BIG)) B.pre
  have hg : ∀ w ∈ BIG, w.before _ s = true := fun w h => hts w (List.mem_cons_of_mem _ h)
  have hown : s.vm.findClass "DoorServerModel" = some m.cls := findClass_of_methodNamed B.named
  have hlocks := B.notSynchronized
  subst hsz
  have hD := hD0.self (sz := s.heap.size)
  generalize hAe : va_A [(mo, .inr (12, mdF r z q cd tm (nI sn) (nI tx)))] s.heap.size = A at hD ⊢
  have hA : ∀ q : Nat, s.heap.size ≤ q → A q := fun q h => by rw [← hAe]; exact Or.inr h
  have hS : va_S A s.heap s.heap [] := va_S.rf
  have hl := lv_entry ([.ref mo, .int x, .int y, .int z9]) (n := 5) (Nat.le_of_ble_eq_true rfl)
  refine W.eq (g2 := entryFrame m (List.toArray [.ref mo, .int x, .int y, .int z9]) 5) (by rw [hargs]) ?_
  rw [lg_entry_eq]
  generalize (lg_sl ([.ref mo, .int x, .int y, .int z9]) ++ List.replicate (5 - (lg_sl ([.ref mo, .int x, .int y, .int z9])).length) Slot.unset).toArray = ls at hl ⊢
  have hl : lv_has ls 5 [(0, .ref mo), (1, .int x), (2, .int y), (3, .int z9)] := hl
  change W p l e ({ frames := 1, cells := 0, slots := 0, locals := 21 } : Room) s m args below meth c s.heap [] 0 0 _ _
  have hP : va_P (dC, dI) vcl [(mo, .inr (12, mdF r z q cd tm (nI sn) (nI tx)))] s.heap := hP
  refine lv_aload_n hx hb d_Md_put_0 rfl (lv_at hl 0 rfl) ?_
  refine lv_iload_n hx hb d_Md_put_1 rfl (lv_at hl 1 rfl) ?_
  have hPc := hP.sub (ws' := []) [] rfl
  have hDc := hD.sub (ws' := []) [] (by decide) rfl
  have hFc := va_free (wc := []) hD hS hA [] rfl
  refine va_calli (va_runS (As := [.int x]) (rest := [.ref mo]) ⟨hx, hb, hml, hown, hg⟩ (m_byte0 l dC dI cT s.heap.size x (hbad)) (va_cwS 1 hg (gI (List.forall_mem_append.mpr ⟨List.forall_mem_cons.mpr ⟨k_1181, List.forall_mem_cons.mpr ⟨k_1182, List.forall_mem_cons.mpr ⟨k_13, fun _ h => absurd h List.not_mem_nil⟩⟩⟩, List.forall_mem_cons.mpr ⟨k_1183, fun _ h => h⟩⟩)) rfl rfl rfl (by decide +kernel) ⟨Nat.le_of_ble_eq_true rfl, Nat.le_of_ble_eq_true rfl⟩) ⟨fun a U g mk q => by obtain ⟨q0, q1, qP, qK, qD⟩ := q; exact ⟨q0, q1, qP, va_K.moved (u := U) (U := U.calling g mk a) (Vm.Alike.refl U.vm) qK, qD⟩, fun U hU hW => ⟨rfl, by rw [hU], by rw [hU]; exact hPc, va_K.moved hW.alike hK, hDc.weaken (fun _ _ _ _ => trivial)⟩⟩ rfl rfl hl.1 rfl (lv_room (Nat.le_of_ble_eq_true rfl)) d_Md_put_2 ⟨Nat.le_of_ble_eq_true rfl, Nat.le_of_ble_eq_true rfl⟩) hS (fun q _ h => hFc q h) hFc (fun rv9 u t H1 locs ht hvm hw hB hz1 hk1 hS => ?_)
  try dsimp only at hw hB
  obtain ⟨hP1, hK1, hD1⟩ := hB
  rw [ht] at hP1
  obtain ⟨rfl, hw⟩ := hw
  obtain ⟨hP, hD⟩ := va_join (wr := [(mo, .inr (12, mdF r z q cd tm (nI sn) (nI tx)))]) (w1 := []) hP hD [] [0] rfl rfl (by decide) (by decide) hk1 hFc hP1 hD1
  have hw67 := hw
  clear hPc hDc hFc hz1 hk1 hP1 hK1 hD1
  generalize H1 = H at hP hS ⊢
  have hP : va_P (dC, dI) vcl [(mo, .inr (12, mdF r z q cd tm (nI sn) (nI tx)))] H := hP
  have hD : va_D A [(mo, .inr (12, mdF r z q cd tm (nI sn) (nI tx)))] := hD
  refine lv_if_eq (tgt := 29) hx hb d_Md_put_5 (by decide) (fun hc68 => ?_) (fun hn9 => absurd (by decide) hn9)
  refine lv_iconst (v := 0) hx hb d_Md_put_29 (by decide) ?_
  have hPc := hP.sub (ws' := [(mo, .inr (12, mdF r z q cd tm (nI sn) (nI tx)))]) [0] rfl
  have hDc := hD.sub (ws' := [(mo, .inr (12, mdF r z q cd tm (nI sn) (nI tx)))]) [0] (by decide) rfl
  have hFc := va_free (wc := [(mo, .inr (12, mdF r z q cd tm (nI sn) (nI tx)))]) hD hS hA [0] rfl
  refine va_calli (va_runV (C := "DoorServerModel") (As := [.int 0]) (rest := []) ⟨hx, hb, hml, hown, hg⟩ (m_goes0 l dC dI cT H.size mo r z q cd tm sn tx ) (cwV 1 hg (gI (List.forall_mem_append.mpr ⟨List.forall_mem_cons.mpr ⟨k_1165, List.forall_mem_cons.mpr ⟨k_1167, List.forall_mem_cons.mpr ⟨(big_sel (q := y_Md_goes) (n := 45) (by decide +kernel)), List.forall_mem_cons.mpr ⟨k_13, fun _ h => absurd h List.not_mem_nil⟩⟩⟩⟩, List.forall_mem_cons.mpr ⟨k_1168, fun _ h => h⟩⟩)) rfl rfl rfl (by decide +kernel) ⟨Nat.le_of_ble_eq_true rfl, Nat.le_of_ble_eq_true rfl⟩) ⟨fun a U g mk q => by obtain ⟨q0, q1, qP, qK, qD⟩ := q; exact ⟨q0, q1, qP, va_K.moved (u := U) (U := U.calling g mk a) (Vm.Alike.refl U.vm) qK, qD⟩, va_recv (q0 := 0) (ci := 12) hK hP rfl rfl, fun U hU hW => ⟨rfl, by rw [hU], by rw [hU]; exact hPc, va_K.moved hW.alike hK, hDc.weaken (fun _ _ _ _ => trivial)⟩⟩ rfl rfl hl.1 rfl (lv_room (Nat.le_of_ble_eq_true rfl)) d_Md_put_30 ⟨Nat.le_of_ble_eq_true rfl, Nat.le_of_ble_eq_true rfl⟩) hS (fun q _ h => hFc q h) hFc (fun rv9 u t H1 locs ht hvm hw hB hz1 hk1 hS => ?_)
  try dsimp only at hw hB
  obtain ⟨hP1, hK1, hD1⟩ := hB
  rw [ht] at hP1
  obtain ⟨rfl, hw⟩ := hw
  obtain ⟨hP, hD⟩ := va_join (wr := []) (w1 := [(mo, .inr (12, mdF r z q 1 tm (nI sn) (nI tx)))]) hP hD [0] [] rfl rfl (by decide) (by decide) hk1 hFc hP1 hD1
  have hw69 := hw
  clear hPc hDc hFc hz1 hk1 hP1 hK1 hD1
  generalize H1 = H at hP hS ⊢
  have hP : va_P (dC, dI) vcl [(mo, .inr (12, mdF r z q 1 tm (nI sn) (nI tx)))] H := hP
  have hD : va_D A [(mo, .inr (12, mdF r z q 1 tm (nI sn) (nI tx)))] := hD
  refine lv_if_eq (tgt := 45) hx hb d_Md_put_33 (by decide) (fun hc70 => ?_) (fun hn9 => absurd (by decide) hn9)
  refine lv_iconst (v := 0) hx hb d_Md_put_45 (by decide) ?_
  have hP9 := hP.sub (ws' := [(mo, .inr (12, mdF r z q 1 tm (nI sn) (nI tx)))]) [0] rfl
  have hD9 := hD.sub (ws' := [(mo, .inr (12, mdF r z q 1 tm (nI sn) (nI tx)))]) [0] (by decide) rfl
  exact W.iret (v := 0) hx hb hr (fun t ht hW => ⟨⟨_, (), rfl, trivial, by rw [ht]; exact hP9, va_K.moved hW.alike hK, hD9⟩, hS.F ht⟩) hS.2.2 d_Md_put_46
set_option maxHeartbeats 4000000 in
set_option maxRecDepth 100000 in
/-- put: illegal argument -/
theorem b_put2 (l : Launch) (dC : Nat → ClassId) (dI : Nat → Nat → Nat) (cT : Nat → ClassId) (sz : Nat) (mo : Nat) (r : Nat → Nat) (z : Nat → Int32) (q : Nat → Int64) (cd : Int32) (tm : Int32) (sn : Nat) (tx : Nat) (x : Int32) (y : Int32) (z9 : Int32) (hx1 : ¬ x < 0) (hx2 : ¬ 255 < x) (hbad : z9 < 0 ∨ 255 < z9) : Met l y_Md_put (Cond.code y_Md_put b_Md_put 5 (Option.some Jvm.ClassFile.FieldType.int) :: BIG) ({ frames := 1, cells := 0, slots := 0, locals := 21 }) (va_Pc [.ref mo, .int x, .int y, .int z9] (fun U => U.heap.size = sz ∧ va_P (dC, dI) vcl [(mo, .inr (12, mdF r z q cd tm (nI sn) (nI tx)))] U.heap ∧ va_K (dC, dI) vcl (tyL cT) U ∧ va_D (fun _ => True) [(mo, .inr (12, mdF r z q cd tm (nI sn) (nI tx)))])) (va_Qi (S := Unit) (fun rv9 u => True) (fun u t => va_P (dC, dI) vcl [(mo, .inr (12, mdF r z q 1 tm (nI sn) (nI tx)))] t.heap ∧ va_K (dC, dI) vcl (tyL cT) t ∧ va_D (va_A [(mo, .inr (12, mdF r z q cd tm (nI sn) (nI tx)))] sz) [(mo, .inr (12, mdF r z q 1 tm (nI sn) (nI tx)))]) (va_A [(mo, .inr (12, mdF r z q cd tm (nI sn) (nI tx)))] sz)) 0 0 (va_A [(mo, .inr (12, mdF r z q cd tm (nI sn) (nI tx)))] sz) := by
  refine Met.ofW (cc := b_Md_put) (maxL := 5) (ret := (Option.some Jvm.ClassFile.FieldType.int)) (by decide) rfl ?_
  intro p e s m args below meth c s₁ B hml hv
  obtain ⟨hargs, hsz, hP, hK, hD0⟩ := hv
  have hx := B.exec
  have hb := B.bytes
  have hr := B.returns
  have hts := atoms_spec (ws := (Cond.code y_Md_put b_Md_put 5 (Option.some Jvm.ClassFile.FieldType.int) :: BIG)) B.pre
  have hg : ∀ w ∈ BIG, w.before _ s = true := fun w h => hts w (List.mem_cons_of_mem _ h)
  have hown : s.vm.findClass "DoorServerModel" = some m.cls := findClass_of_methodNamed B.named
  have hlocks := B.notSynchronized
  subst hsz
  have hD := hD0.self (sz := s.heap.size)
  generalize hAe : va_A [(mo, .inr (12, mdF r z q cd tm (nI sn) (nI tx)))] s.heap.size = A at hD ⊢
  have hA : ∀ q : Nat, s.heap.size ≤ q → A q := fun q h => by rw [← hAe]; exact Or.inr h
  have hS : va_S A s.heap s.heap [] := va_S.rf
  have hl := lv_entry ([.ref mo, .int x, .int y, .int z9]) (n := 5) (Nat.le_of_ble_eq_true rfl)
  refine W.eq (g2 := entryFrame m (List.toArray [.ref mo, .int x, .int y, .int z9]) 5) (by rw [hargs]) ?_
  rw [lg_entry_eq]
  generalize (lg_sl ([.ref mo, .int x, .int y, .int z9]) ++ List.replicate (5 - (lg_sl ([.ref mo, .int x, .int y, .int z9])).length) Slot.unset).toArray = ls at hl ⊢
  have hl : lv_has ls 5 [(0, .ref mo), (1, .int x), (2, .int y), (3, .int z9)] := hl
  change W p l e ({ frames := 1, cells := 0, slots := 0, locals := 21 } : Room) s m args below meth c s.heap [] 0 0 _ _
  have hP : va_P (dC, dI) vcl [(mo, .inr (12, mdF r z q cd tm (nI sn) (nI tx)))] s.heap := hP
  refine lv_aload_n hx hb d_Md_put_0 rfl (lv_at hl 0 rfl) ?_
  refine lv_iload_n hx hb d_Md_put_1 rfl (lv_at hl 1 rfl) ?_
  have hPc := hP.sub (ws' := []) [] rfl
  have hDc := hD.sub (ws' := []) [] (by decide) rfl
  have hFc := va_free (wc := []) hD hS hA [] rfl
  refine va_calli (va_runS (As := [.int x]) (rest := [.ref mo]) ⟨hx, hb, hml, hown, hg⟩ (m_byte1 l dC dI cT s.heap.size x (hx1) (hx2)) (va_cwS 1 hg (gI (List.forall_mem_append.mpr ⟨List.forall_mem_cons.mpr ⟨k_1181, List.forall_mem_cons.mpr ⟨k_1182, List.forall_mem_cons.mpr ⟨k_13, fun _ h => absurd h List.not_mem_nil⟩⟩⟩, List.forall_mem_cons.mpr ⟨k_1183, fun _ h => h⟩⟩)) rfl rfl rfl (by decide +kernel) ⟨Nat.le_of_ble_eq_true rfl, Nat.le_of_ble_eq_true rfl⟩) ⟨fun a U g mk q => by obtain ⟨q0, q1, qP, qK, qD⟩ := q; exact ⟨q0, q1, qP, va_K.moved (u := U) (U := U.calling g mk a) (Vm.Alike.refl U.vm) qK, qD⟩, fun U hU hW => ⟨rfl, by rw [hU], by rw [hU]; exact hPc, va_K.moved hW.alike hK, hDc.weaken (fun _ _ _ _ => trivial)⟩⟩ rfl rfl hl.1 rfl (lv_room (Nat.le_of_ble_eq_true rfl)) d_Md_put_2 ⟨Nat.le_of_ble_eq_true rfl, Nat.le_of_ble_eq_true rfl⟩) hS (fun q _ h => hFc q h) hFc (fun rv9 u t H1 locs ht hvm hw hB hz1 hk1 hS => ?_)
  try dsimp only at hw hB
  obtain ⟨hP1, hK1, hD1⟩ := hB
  rw [ht] at hP1
  obtain ⟨rfl, hw⟩ := hw
  obtain ⟨hP, hD⟩ := va_join (wr := [(mo, .inr (12, mdF r z q cd tm (nI sn) (nI tx)))]) (w1 := []) hP hD [] [0] rfl rfl (by decide) (by decide) hk1 hFc hP1 hD1
  have hw71 := hw
  clear hPc hDc hFc hz1 hk1 hP1 hK1 hD1
  generalize H1 = H at hP hS ⊢
  have hP : va_P (dC, dI) vcl [(mo, .inr (12, mdF r z q cd tm (nI sn) (nI tx)))] H := hP
  have hD : va_D A [(mo, .inr (12, mdF r z q cd tm (nI sn) (nI tx)))] := hD
  refine lv_if_eq (tgt := 29) hx hb d_Md_put_5 (by decide) (fun hn9 => absurd hn9 (by decide)) (fun hc72 => ?_)
  refine lv_iload_n hx hb d_Md_put_8 rfl (lv_at hl 3 rfl) ?_
  have hPc := hP.sub (ws' := []) [] rfl
  have hDc := hD.sub (ws' := []) [] (by decide) rfl
  have hFc := va_free (wc := []) hD hS hA [] rfl
  refine va_calli (va_runS (As := [.int z9]) (rest := [.ref mo]) ⟨hx, hb, hml, hown, hg⟩ (m_byte0 l dC dI cT H.size z9 (hbad)) (va_cwS 1 hg (gI (List.forall_mem_append.mpr ⟨List.forall_mem_cons.mpr ⟨k_1181, List.forall_mem_cons.mpr ⟨k_1182, List.forall_mem_cons.mpr ⟨k_13, fun _ h => absurd h List.not_mem_nil⟩⟩⟩, List.forall_mem_cons.mpr ⟨k_1183, fun _ h => h⟩⟩)) rfl rfl rfl (by decide +kernel) ⟨Nat.le_of_ble_eq_true rfl, Nat.le_of_ble_eq_true rfl⟩) ⟨fun a U g mk q => by obtain ⟨q0, q1, qP, qK, qD⟩ := q; exact ⟨q0, q1, qP, va_K.moved (u := U) (U := U.calling g mk a) (Vm.Alike.refl U.vm) qK, qD⟩, fun U hU hW => ⟨rfl, by rw [hU], by rw [hU]; exact hPc, va_K.moved hW.alike hK, hDc.weaken (fun _ _ _ _ => trivial)⟩⟩ rfl rfl hl.1 rfl (lv_room (Nat.le_of_ble_eq_true rfl)) d_Md_put_9 ⟨Nat.le_of_ble_eq_true rfl, Nat.le_of_ble_eq_true rfl⟩) hS (fun q _ h => hFc q h) hFc (fun rv9 u t H1 locs ht hvm hw hB hz1 hk1 hS => ?_)
  try dsimp only at hw hB
  obtain ⟨hP1, hK1, hD1⟩ := hB
  rw [ht] at hP1
  obtain ⟨rfl, hw⟩ := hw
  obtain ⟨hP, hD⟩ := va_join (wr := [(mo, .inr (12, mdF r z q cd tm (nI sn) (nI tx)))]) (w1 := []) hP hD [] [0] rfl rfl (by decide) (by decide) hk1 hFc hP1 hD1
  have hw73 := hw
  clear hPc hDc hFc hz1 hk1 hP1 hK1 hD1
  generalize H1 = H at hP hS ⊢
  have hP : va_P (dC, dI) vcl [(mo, .inr (12, mdF r z q cd tm (nI sn) (nI tx)))] H := hP
  have hD : va_D A [(mo, .inr (12, mdF r z q cd tm (nI sn) (nI tx)))] := hD
  refine lv_if_eq (tgt := 29) hx hb d_Md_put_12 (by decide) (fun hc74 => ?_) (fun hn9 => absurd (by decide) hn9)
  refine lv_iconst (v := 0) hx hb d_Md_put_29 (by decide) ?_
  have hPc := hP.sub (ws' := [(mo, .inr (12, mdF r z q cd tm (nI sn) (nI tx)))]) [0] rfl
  have hDc := hD.sub (ws' := [(mo, .inr (12, mdF r z q cd tm (nI sn) (nI tx)))]) [0] (by decide) rfl
  have hFc := va_free (wc := [(mo, .inr (12, mdF r z q cd tm (nI sn) (nI tx)))]) hD hS hA [0] rfl
  refine va_calli (va_runV (C := "DoorServerModel") (As := [.int 0]) (rest := []) ⟨hx, hb, hml, hown, hg⟩ (m_goes0 l dC dI cT H.size mo r z q cd tm sn tx ) (cwV 1 hg (gI (List.forall_mem_append.mpr ⟨List.forall_mem_cons.mpr ⟨k_1165, List.forall_mem_cons.mpr ⟨k_1167, List.forall_mem_cons.mpr ⟨(big_sel (q := y_Md_goes) (n := 45) (by decide +kernel)), List.forall_mem_cons.mpr ⟨k_13, fun _ h => absurd h List.not_mem_nil⟩⟩⟩⟩, List.forall_mem_cons.mpr ⟨k_1168, fun _ h => h⟩⟩)) rfl rfl rfl (by decide +kernel) ⟨Nat.le_of_ble_eq_true rfl, Nat.le_of_ble_eq_true rfl⟩) ⟨fun a U g mk q => by obtain ⟨q0, q1, qP, qK, qD⟩ := q; exact ⟨q0, q1, qP, va_K.moved (u := U) (U := U.calling g mk a) (Vm.Alike.refl U.vm) qK, qD⟩, va_recv (q0 := 0) (ci := 12) hK hP rfl rfl, fun U hU hW => ⟨rfl, by rw [hU], by rw [hU]; exact hPc, va_K.moved hW.alike hK, hDc.weaken (fun _ _ _ _ => trivial)⟩⟩ rfl rfl hl.1 rfl (lv_room (Nat.le_of_ble_eq_true rfl)) d_Md_put_30 ⟨Nat.le_of_ble_eq_true rfl, Nat.le_of_ble_eq_true rfl⟩) hS (fun q _ h => hFc q h) hFc (fun rv9 u t H1 locs ht hvm hw hB hz1 hk1 hS => ?_)
  try dsimp only at hw hB
  obtain ⟨hP1, hK1, hD1⟩ := hB
  rw [ht] at hP1
  obtain ⟨rfl, hw⟩ := hw
  obtain ⟨hP, hD⟩ := va_join (wr := []) (w1 := [(mo, .inr (12, mdF r z q 1 tm (nI sn) (nI tx)))]) hP hD [0] [] rfl rfl (by decide) (by decide) hk1 hFc hP1 hD1
  have hw75 := hw
  clear hPc hDc hFc hz1 hk1 hP1 hK1 hD1
  generalize H1 = H at hP hS ⊢
  have hP : va_P (dC, dI) vcl [(mo, .inr (12, mdF r z q 1 tm (nI sn) (nI tx)))] H := hP
  have hD : va_D A [(mo, .inr (12, mdF r z q 1 tm (nI sn) (nI tx)))] := hD
  refine lv_if_eq (tgt := 45) hx hb d_Md_put_33 (by decide) (fun hc76 => ?_) (fun hn9 => absurd (by decide) hn9)
  refine lv_iconst (v := 0) hx hb d_Md_put_45 (by decide) ?_
  have hP9 := hP.sub (ws' := [(mo, .inr (12, mdF r z q 1 tm (nI sn) (nI tx)))]) [0] rfl
  have hD9 := hD.sub (ws' := [(mo, .inr (12, mdF r z q 1 tm (nI sn) (nI tx)))]) [0] (by decide) rfl
  exact W.iret (v := 0) hx hb hr (fun t ht hW => ⟨⟨_, (), rfl, trivial, by rw [ht]; exact hP9, va_K.moved hW.alike hK, hD9⟩, hS.F ht⟩) hS.2.2 d_Md_put_46
set_option maxHeartbeats 4000000 in
set_option maxRecDepth 100000 in
/-- put: illegal argument -/
theorem b_put3 (l : Launch) (dC : Nat → ClassId) (dI : Nat → Nat → Nat) (cT : Nat → ClassId) (sz : Nat) (mo : Nat) (r : Nat → Nat) (z : Nat → Int32) (q : Nat → Int64) (cd : Int32) (tm : Int32) (sn : Nat) (tx : Nat) (x : Int32) (y : Int32) (z9 : Int32) (hx1 : ¬ x < 0) (hx2 : ¬ 255 < x) (hz1 : ¬ z9 < 0) (hz2 : ¬ 255 < z9) (hbad : y < 0 ∨ 100 < y) : Met l y_Md_put (Cond.code y_Md_put b_Md_put 5 (Option.some Jvm.ClassFile.FieldType.int) :: BIG) ({ frames := 1, cells := 0, slots := 0, locals := 21 }) (va_Pc [.ref mo, .int x, .int y, .int z9] (fun U => U.heap.size = sz ∧ va_P (dC, dI) vcl [(mo, .inr (12, mdF r z q cd tm (nI sn) (nI tx)))] U.heap ∧ va_K (dC, dI) vcl (tyL cT) U ∧ va_D (fun _ => True) [(mo, .inr (12, mdF r z q cd tm (nI sn) (nI tx)))])) (va_Qi (S := Unit) (fun rv9 u => True) (fun u t => va_P (dC, dI) vcl [(mo, .inr (12, mdF r z q 1 tm (nI sn) (nI tx)))] t.heap ∧ va_K (dC, dI) vcl (tyL cT) t ∧ va_D (va_A [(mo, .inr (12, mdF r z q cd tm (nI sn) (nI tx)))] sz) [(mo, .inr (12, mdF r z q 1 tm (nI sn) (nI tx)))]) (va_A [(mo, .inr (12, mdF r z q cd tm (nI sn) (nI tx)))] sz)) 0 0 (va_A [(mo, .inr (12, mdF r z q cd tm (nI sn) (nI tx)))] sz) := by
  refine Met.ofW (cc := b_Md_put) (maxL := 5) (ret := (Option.some Jvm.ClassFile.FieldType.int)) (by decide) rfl ?_
  intro p e s m args below meth c s₁ B hml hv
  obtain ⟨hargs, hsz, hP, hK, hD0⟩ := hv
  have hx := B.exec
  have hb := B.bytes
  have hr := B.returns
  have hts := atoms_spec (ws := (Cond.code y_Md_put b_Md_put 5 (Option.some Jvm.ClassFile.FieldType.int) :: BIG)) B.pre
  have hg : ∀ w ∈ BIG, w.before _ s = true := fun w h => hts w (List.mem_cons_of_mem _ h)
  have hown : s.vm.findClass "DoorServerModel" = some m.cls := findClass_of_methodNamed B.named
  have hlocks := B.notSynchronized
  subst hsz
  have hD := hD0.self (sz := s.heap.size)
  generalize hAe : va_A [(mo, .inr (12, mdF r z q cd tm (nI sn) (nI tx)))] s.heap.size = A at hD ⊢
  have hA : ∀ q : Nat, s.heap.size ≤ q → A q := fun q h => by rw [← hAe]; exact Or.inr h
  have hS : va_S A s.heap s.heap [] := va_S.rf
  have hl := lv_entry ([.ref mo, .int x, .int y, .int z9]) (n := 5) (Nat.le_of_ble_eq_true rfl)
  refine W.eq (g2 := entryFrame m (List.toArray [.ref mo, .int x, .int y, .int z9]) 5) (by rw [hargs]) ?_
  rw [lg_entry_eq]
  generalize (lg_sl ([.ref mo, .int x, .int y, .int z9]) ++ List.replicate (5 - (lg_sl ([.ref mo, .int x, .int y, .int z9])).length) Slot.unset).toArray = ls at hl ⊢
  have hl : lv_has ls 5 [(0, .ref mo), (1, .int x), (2, .int y), (3, .int z9)] := hl
  change W p l e ({ frames := 1, cells := 0, slots := 0, locals := 21 } : Room) s m args below meth c s.heap [] 0 0 _ _
  have hP : va_P (dC, dI) vcl [(mo, .inr (12, mdF r z q cd tm (nI sn) (nI tx)))] s.heap := hP
  refine lv_aload_n hx hb d_Md_put_0 rfl (lv_at hl 0 rfl) ?_
  refine lv_iload_n hx hb d_Md_put_1 rfl (lv_at hl 1 rfl) ?_
  have hPc := hP.sub (ws' := []) [] rfl
  have hDc := hD.sub (ws' := []) [] (by decide) rfl
  have hFc := va_free (wc := []) hD hS hA [] rfl
  refine va_calli (va_runS (As := [.int x]) (rest := [.ref mo]) ⟨hx, hb, hml, hown, hg⟩ (m_byte1 l dC dI cT s.heap.size x (hx1) (hx2)) (va_cwS 1 hg (gI (List.forall_mem_append.mpr ⟨List.forall_mem_cons.mpr ⟨k_1181, List.forall_mem_cons.mpr ⟨k_1182, List.forall_mem_cons.mpr ⟨k_13, fun _ h => absurd h List.not_mem_nil⟩⟩⟩, List.forall_mem_cons.mpr ⟨k_1183, fun _ h => h⟩⟩)) rfl rfl rfl (by decide +kernel) ⟨Nat.le_of_ble_eq_true rfl, Nat.le_of_ble_eq_true rfl⟩) ⟨fun a U g mk q => by obtain ⟨q0, q1, qP, qK, qD⟩ := q; exact ⟨q0, q1, qP, va_K.moved (u := U) (U := U.calling g mk a) (Vm.Alike.refl U.vm) qK, qD⟩, fun U hU hW => ⟨rfl, by rw [hU], by rw [hU]; exact hPc, va_K.moved hW.alike hK, hDc.weaken (fun _ _ _ _ => trivial)⟩⟩ rfl rfl hl.1 rfl (lv_room (Nat.le_of_ble_eq_true rfl)) d_Md_put_2 ⟨Nat.le_of_ble_eq_true rfl, Nat.le_of_ble_eq_true rfl⟩) hS (fun q _ h => hFc q h) hFc (fun rv9 u t H1 locs ht hvm hw hB hz1 hk1 hS => ?_)
  try dsimp only at hw hB
  obtain ⟨hP1, hK1, hD1⟩ := hB
  rw [ht] at hP1
  obtain ⟨rfl, hw⟩ := hw
  obtain ⟨hP, hD⟩ := va_join (wr := [(mo, .inr (12, mdF r z q cd tm (nI sn) (nI tx)))]) (w1 := []) hP hD [] [0] rfl rfl (by decide) (by decide) hk1 hFc hP1 hD1
  have hw77 := hw
  clear hPc hDc hFc hz1 hk1 hP1 hK1 hD1
  generalize H1 = H at hP hS ⊢
  have hP : va_P (dC, dI) vcl [(mo, .inr (12, mdF r z q cd tm (nI sn) (nI tx)))] H := hP
  have hD : va_D A [(mo, .inr (12, mdF r z q cd tm (nI sn) (nI tx)))] := hD
  refine lv_if_eq (tgt := 29) hx hb d_Md_put_5 (by decide) (fun hn9 => absurd hn9 (by decide)) (fun hc78 => ?_)
  refine lv_iload_n hx hb d_Md_put_8 rfl (lv_at hl 3 rfl) ?_
  have hPc := hP.sub (ws' := []) [] rfl
  have hDc := hD.sub (ws' := []) [] (by decide) rfl
  have hFc := va_free (wc := []) hD hS hA [] rfl
  refine va_calli (va_runS (As := [.int z9]) (rest := [.ref mo]) ⟨hx, hb, hml, hown, hg⟩ (m_byte1 l dC dI cT H.size z9 (hz1) (hz2)) (va_cwS 1 hg (gI (List.forall_mem_append.mpr ⟨List.forall_mem_cons.mpr ⟨k_1181, List.forall_mem_cons.mpr ⟨k_1182, List.forall_mem_cons.mpr ⟨k_13, fun _ h => absurd h List.not_mem_nil⟩⟩⟩, List.forall_mem_cons.mpr ⟨k_1183, fun _ h => h⟩⟩)) rfl rfl rfl (by decide +kernel) ⟨Nat.le_of_ble_eq_true rfl, Nat.le_of_ble_eq_true rfl⟩) ⟨fun a U g mk q => by obtain ⟨q0, q1, qP, qK, qD⟩ := q; exact ⟨q0, q1, qP, va_K.moved (u := U) (U := U.calling g mk a) (Vm.Alike.refl U.vm) qK, qD⟩, fun U hU hW => ⟨rfl, by rw [hU], by rw [hU]; exact hPc, va_K.moved hW.alike hK, hDc.weaken (fun _ _ _ _ => trivial)⟩⟩ rfl rfl hl.1 rfl (lv_room (Nat.le_of_ble_eq_true rfl)) d_Md_put_9 ⟨Nat.le_of_ble_eq_true rfl, Nat.le_of_ble_eq_true rfl⟩) hS (fun q _ h => hFc q h) hFc (fun rv9 u t H1 locs ht hvm hw hB hz1 hk1 hS => ?_)
  try dsimp only at hw hB
  obtain ⟨hP1, hK1, hD1⟩ := hB
  rw [ht] at hP1
  obtain ⟨rfl, hw⟩ := hw
  obtain ⟨hP, hD⟩ := va_join (wr := [(mo, .inr (12, mdF r z q cd tm (nI sn) (nI tx)))]) (w1 := []) hP hD [] [0] rfl rfl (by decide) (by decide) hk1 hFc hP1 hD1
  have hw79 := hw
  clear hPc hDc hFc hz1 hk1 hP1 hK1 hD1
  generalize H1 = H at hP hS ⊢
  have hP : va_P (dC, dI) vcl [(mo, .inr (12, mdF r z q cd tm (nI sn) (nI tx)))] H := hP
  have hD : va_D A [(mo, .inr (12, mdF r z q cd tm (nI sn) (nI tx)))] := hD
  refine lv_if_eq (tgt := 29) hx hb d_Md_put_12 (by decide) (fun hn9 => absurd hn9 (by decide)) (fun hc80 => ?_)
  refine lv_iload_n hx hb d_Md_put_15 rfl (lv_at hl 2 rfl) ?_
  have K81 : W p l e ({ frames := 1, cells := 0, slots := 0, locals := 21 } : Room) s m args below meth c H locs 0 0 (MQ below (va_Qi (S := Unit) (fun rv9 u => True) (fun u t => va_P (dC, dI) vcl [(mo, .inr (12, mdF r z q 1 tm (nI sn) (nI tx)))] t.heap ∧ va_K (dC, dI) vcl (tyL cT) t ∧ va_D A [(mo, .inr (12, mdF r z q 1 tm (nI sn) (nI tx)))]) A) args s 0 0 A) (F0 m 29 ls [.ref mo]) := by
    refine lv_iconst (v := 0) hx hb d_Md_put_29 (by decide) ?_
    have hPc := hP.sub (ws' := [(mo, .inr (12, mdF r z q cd tm (nI sn) (nI tx)))]) [0] rfl
    have hDc := hD.sub (ws' := [(mo, .inr (12, mdF r z q cd tm (nI sn) (nI tx)))]) [0] (by decide) rfl
    have hFc := va_free (wc := [(mo, .inr (12, mdF r z q cd tm (nI sn) (nI tx)))]) hD hS hA [0] rfl
    refine va_calli (va_runV (C := "DoorServerModel") (As := [.int 0]) (rest := []) ⟨hx, hb, hml, hown, hg⟩ (m_goes0 l dC dI cT H.size mo r z q cd tm sn tx ) (cwV 1 hg (gI (List.forall_mem_append.mpr ⟨List.forall_mem_cons.mpr ⟨k_1165, List.forall_mem_cons.mpr ⟨k_1167, List.forall_mem_cons.mpr ⟨(big_sel (q := y_Md_goes) (n := 45) (by decide +kernel)), List.forall_mem_cons.mpr ⟨k_13, fun _ h => absurd h List.not_mem_nil⟩⟩⟩⟩, List.forall_mem_cons.mpr ⟨k_1168, fun _ h => h⟩⟩)) rfl rfl rfl (by decide +kernel) ⟨Nat.le_of_ble_eq_true rfl, Nat.le_of_ble_eq_true rfl⟩) ⟨fun a U g mk q => by obtain ⟨q0, q1, qP, qK, qD⟩ := q; exact ⟨q0, q1, qP, va_K.moved (u := U) (U := U.calling g mk a) (Vm.Alike.refl U.vm) qK, qD⟩, va_recv (q0 := 0) (ci := 12) hK hP rfl rfl, fun U hU hW => ⟨rfl, by rw [hU], by rw [hU]; exact hPc, va_K.moved hW.alike hK, hDc.weaken (fun _ _ _ _ => trivial)⟩⟩ rfl rfl hl.1 rfl (lv_room (Nat.le_of_ble_eq_true rfl)) d_Md_put_30 ⟨Nat.le_of_ble_eq_true rfl, Nat.le_of_ble_eq_true rfl⟩) hS (fun q _ h => hFc q h) hFc (fun rv9 u t H1 locs ht hvm hw hB hz1 hk1 hS => ?_)
    try dsimp only at hw hB
    obtain ⟨hP1, hK1, hD1⟩ := hB
    rw [ht] at hP1
    obtain ⟨rfl, hw⟩ := hw
    obtain ⟨hP, hD⟩ := va_join (wr := []) (w1 := [(mo, .inr (12, mdF r z q 1 tm (nI sn) (nI tx)))]) hP hD [0] [] rfl rfl (by decide) (by decide) hk1 hFc hP1 hD1
    have hw82 := hw
    clear hPc hDc hFc hz1 hk1 hP1 hK1 hD1
    generalize H1 = H at hP hS ⊢
    have hP : va_P (dC, dI) vcl [(mo, .inr (12, mdF r z q 1 tm (nI sn) (nI tx)))] H := hP
    have hD : va_D A [(mo, .inr (12, mdF r z q 1 tm (nI sn) (nI tx)))] := hD
    refine lv_if_eq (tgt := 45) hx hb d_Md_put_33 (by decide) (fun hc83 => ?_) (fun hn9 => absurd (by decide) hn9)
    refine lv_iconst (v := 0) hx hb d_Md_put_45 (by decide) ?_
    have hP9 := hP.sub (ws' := [(mo, .inr (12, mdF r z q 1 tm (nI sn) (nI tx)))]) [0] rfl
    have hD9 := hD.sub (ws' := [(mo, .inr (12, mdF r z q 1 tm (nI sn) (nI tx)))]) [0] (by decide) rfl
    exact W.iret (v := 0) hx hb hr (fun t ht hW => ⟨⟨_, (), rfl, trivial, by rw [ht]; exact hP9, va_K.moved hW.alike hK, hD9⟩, hS.F ht⟩) hS.2.2 d_Md_put_46
  refine lv_if_lt (tgt := 29) hx hb d_Md_put_16 (by decide) (fun hc84 => ?_) (fun hc84 => ?_)
  · exact K81
  · refine lv_iload_n hx hb d_Md_put_19 rfl (lv_at hl 2 rfl) ?_
    refine lv_bipush (v := 100) hx hb d_Md_put_20 (by decide) ?_
    refine lv_icmp_gt (tgt := 29) hx hb d_Md_put_22 (by decide) (fun hc85 => ?_) (fun hn9 => absurd (hbad.resolve_left hc84) hn9)
    exact K81
set_option maxHeartbeats 4000000 in
set_option maxRecDepth 100000 in
/-- number: illegal argument -/
theorem b_number (l : Launch) (dC : Nat → ClassId) (dI : Nat → Nat → Nat) (cT : Nat → ClassId) (sz : Nat) (mo : Nat) (r : Nat → Nat) (z : Nat → Int32) (q : Nat → Int64) (cd : Int32) (tm : Int32) (sn : Nat) (tx : Nat) (x : Int32) (y : Int32) (hbad : x < 0 ∨ 255 < x) : Met l y_Md_number (Cond.code y_Md_number b_Md_number 4 (Option.some Jvm.ClassFile.FieldType.int) :: BIG) ({ frames := 1, cells := 0, slots := 0, locals := 21 }) (va_Pc [.ref mo, .int x, .int y] (fun U => U.heap.size = sz ∧ va_P (dC, dI) vcl [(mo, .inr (12, mdF r z q cd tm (nI sn) (nI tx)))] U.heap ∧ va_K (dC, dI) vcl (tyL cT) U ∧ va_D (fun _ => True) [(mo, .inr (12, mdF r z q cd tm (nI sn) (nI tx)))])) (va_Qi (S := Unit) (fun rv9 u => True) (fun u t => va_P (dC, dI) vcl [(mo, .inr (12, mdF r z q 1 tm (nI sn) (nI tx)))] t.heap ∧ va_K (dC, dI) vcl (tyL cT) t ∧ va_D (va_A [(mo, .inr (12, mdF r z q cd tm (nI sn) (nI tx)))] sz) [(mo, .inr (12, mdF r z q 1 tm (nI sn) (nI tx)))]) (va_A [(mo, .inr (12, mdF r z q cd tm (nI sn) (nI tx)))] sz)) 0 0 (va_A [(mo, .inr (12, mdF r z q cd tm (nI sn) (nI tx)))] sz) := by
  refine Met.ofW (cc := b_Md_number) (maxL := 4) (ret := (Option.some Jvm.ClassFile.FieldType.int)) (by decide) rfl ?_
  intro p e s m args below meth c s₁ B hml hv
  obtain ⟨hargs, hsz, hP, hK, hD0⟩ := hv
  have hx := B.exec
  have hb := B.bytes
  have hr := B.returns
  have hts := atoms_spec (ws := (Cond.code y_Md_number b_Md_number 4 (Option.some Jvm.ClassFile.FieldType.int) :: BIG)) B.pre
  have hg : ∀ w ∈ BIG, w.before _ s = true := fun w h => hts w (List.mem_cons_of_mem _ h)
  have hown : s.vm.findClass "DoorServerModel" = some m.cls := findClass_of_methodNamed B.named
  have hlocks := B.notSynchronized
  subst hsz
  have hD := hD0.self (sz := s.heap.size)
  generalize hAe : va_A [(mo, .inr (12, mdF r z q cd tm (nI sn) (nI tx)))] s.heap.size = A at hD ⊢
  have hA : ∀ q : Nat, s.heap.size ≤ q → A q := fun q h => by rw [← hAe]; exact Or.inr h
  have hS : va_S A s.heap s.heap [] := va_S.rf
  have hl := lv_entry ([.ref mo, .int x, .int y]) (n := 4) (Nat.le_of_ble_eq_true rfl)
  refine W.eq (g2 := entryFrame m (List.toArray [.ref mo, .int x, .int y]) 4) (by rw [hargs]) ?_
  rw [lg_entry_eq]
  generalize (lg_sl ([.ref mo, .int x, .int y]) ++ List.replicate (4 - (lg_sl ([.ref mo, .int x, .int y])).length) Slot.unset).toArray = ls at hl ⊢
  have hl : lv_has ls 4 [(0, .ref mo), (1, .int x), (2, .int y)] := hl
  change W p l e ({ frames := 1, cells := 0, slots := 0, locals := 21 } : Room) s m args below meth c s.heap [] 0 0 _ _
  have hP : va_P (dC, dI) vcl [(mo, .inr (12, mdF r z q cd tm (nI sn) (nI tx)))] s.heap := hP
  refine lv_aload_n hx hb d_Md_number_0 rfl (lv_at hl 0 rfl) ?_
  refine lv_iload_n hx hb d_Md_number_1 rfl (lv_at hl 1 rfl) ?_
  have hPc := hP.sub (ws' := []) [] rfl
  have hDc := hD.sub (ws' := []) [] (by decide) rfl
  have hFc := va_free (wc := []) hD hS hA [] rfl
  refine va_calli (va_runS (As := [.int x]) (rest := [.ref mo]) ⟨hx, hb, hml, hown, hg⟩ (m_byte0 l dC dI cT s.heap.size x (hbad)) (va_cwS 1 hg (gI (List.forall_mem_append.mpr ⟨List.forall_mem_cons.mpr ⟨k_1181, List.forall_mem_cons.mpr ⟨k_1182, List.forall_mem_cons.mpr ⟨k_13, fun _ h => absurd h List.not_mem_nil⟩⟩⟩, List.forall_mem_cons.mpr ⟨k_1183, fun _ h => h⟩⟩)) rfl rfl rfl (by decide +kernel) ⟨Nat.le_of_ble_eq_true rfl, Nat.le_of_ble_eq_true rfl⟩) ⟨fun a U g mk q => by obtain ⟨q0, q1, qP, qK, qD⟩ := q; exact ⟨q0, q1, qP, va_K.moved (u := U) (U := U.calling g mk a) (Vm.Alike.refl U.vm) qK, qD⟩, fun U hU hW => ⟨rfl, by rw [hU], by rw [hU]; exact hPc, va_K.moved hW.alike hK, hDc.weaken (fun _ _ _ _ => trivial)⟩⟩ rfl rfl hl.1 rfl (lv_room (Nat.le_of_ble_eq_true rfl)) d_Md_number_2 ⟨Nat.le_of_ble_eq_true rfl, Nat.le_of_ble_eq_true rfl⟩) hS (fun q _ h => hFc q h) hFc (fun rv9 u t H1 locs ht hvm hw hB hz1 hk1 hS => ?_)
  try dsimp only at hw hB
  obtain ⟨hP1, hK1, hD1⟩ := hB
  rw [ht] at hP1
  obtain ⟨rfl, hw⟩ := hw
  obtain ⟨hP, hD⟩ := va_join (wr := [(mo, .inr (12, mdF r z q cd tm (nI sn) (nI tx)))]) (w1 := []) hP hD [] [0] rfl rfl (by decide) (by decide) hk1 hFc hP1 hD1
  have hw86 := hw
  clear hPc hDc hFc hz1 hk1 hP1 hK1 hD1
  generalize H1 = H at hP hS ⊢
  have hP : va_P (dC, dI) vcl [(mo, .inr (12, mdF r z q cd tm (nI sn) (nI tx)))] H := hP
  have hD : va_D A [(mo, .inr (12, mdF r z q cd tm (nI sn) (nI tx)))] := hD
  have hPc := hP.sub (ws' := [(mo, .inr (12, mdF r z q cd tm (nI sn) (nI tx)))]) [0] rfl
  have hDc := hD.sub (ws' := [(mo, .inr (12, mdF r z q cd tm (nI sn) (nI tx)))]) [0] (by decide) rfl
  have hFc := va_free (wc := [(mo, .inr (12, mdF r z q cd tm (nI sn) (nI tx)))]) hD hS hA [0] rfl
  refine va_calli (va_runV (C := "DoorServerModel") (As := [.int 0]) (rest := []) ⟨hx, hb, hml, hown, hg⟩ (m_goes0 l dC dI cT H.size mo r z q cd tm sn tx ) (cwV 1 hg (gI (List.forall_mem_append.mpr ⟨List.forall_mem_cons.mpr ⟨k_1165, List.forall_mem_cons.mpr ⟨k_1167, List.forall_mem_cons.mpr ⟨(big_sel (q := y_Md_goes) (n := 45) (by decide +kernel)), List.forall_mem_cons.mpr ⟨k_13, fun _ h => absurd h List.not_mem_nil⟩⟩⟩⟩, List.forall_mem_cons.mpr ⟨k_1168, fun _ h => h⟩⟩)) rfl rfl rfl (by decide +kernel) ⟨Nat.le_of_ble_eq_true rfl, Nat.le_of_ble_eq_true rfl⟩) ⟨fun a U g mk q => by obtain ⟨q0, q1, qP, qK, qD⟩ := q; exact ⟨q0, q1, qP, va_K.moved (u := U) (U := U.calling g mk a) (Vm.Alike.refl U.vm) qK, qD⟩, va_recv (q0 := 0) (ci := 12) hK hP rfl rfl, fun U hU hW => ⟨rfl, by rw [hU], by rw [hU]; exact hPc, va_K.moved hW.alike hK, hDc.weaken (fun _ _ _ _ => trivial)⟩⟩ rfl rfl hl.1 rfl (lv_room (Nat.le_of_ble_eq_true rfl)) d_Md_number_5 ⟨Nat.le_of_ble_eq_true rfl, Nat.le_of_ble_eq_true rfl⟩) hS (fun q _ h => hFc q h) hFc (fun rv9 u t H1 locs ht hvm hw hB hz1 hk1 hS => ?_)
  try dsimp only at hw hB
  obtain ⟨hP1, hK1, hD1⟩ := hB
  rw [ht] at hP1
  obtain ⟨rfl, hw⟩ := hw
  obtain ⟨hP, hD⟩ := va_join (wr := []) (w1 := [(mo, .inr (12, mdF r z q 1 tm (nI sn) (nI tx)))]) hP hD [0] [] rfl rfl (by decide) (by decide) hk1 hFc hP1 hD1
  have hw87 := hw
  clear hPc hDc hFc hz1 hk1 hP1 hK1 hD1
  generalize H1 = H at hP hS ⊢
  have hP : va_P (dC, dI) vcl [(mo, .inr (12, mdF r z q 1 tm (nI sn) (nI tx)))] H := hP
  have hD : va_D A [(mo, .inr (12, mdF r z q 1 tm (nI sn) (nI tx)))] := hD
  refine lv_if_eq (tgt := 20) hx hb d_Md_number_8 (by decide) (fun hc88 => ?_) (fun hn9 => absurd (by decide) hn9)
  refine lv_iconst (v := 0) hx hb d_Md_number_20 (by decide) ?_
  have hP9 := hP.sub (ws' := [(mo, .inr (12, mdF r z q 1 tm (nI sn) (nI tx)))]) [0] rfl
  have hD9 := hD.sub (ws' := [(mo, .inr (12, mdF r z q 1 tm (nI sn) (nI tx)))]) [0] (by decide) rfl
  exact W.iret (v := 0) hx hb hr (fun t ht hW => ⟨⟨_, (), rfl, trivial, by rw [ht]; exact hP9, va_K.moved hW.alike hK, hD9⟩, hS.F ht⟩) hS.2.2 d_Md_number_21
set_option maxHeartbeats 4000000 in
set_option maxRecDepth 100000 in
/-- hello: illegal argument -/
theorem b_hello (l : Launch) (dC : Nat → ClassId) (dI : Nat → Nat → Nat) (cT : Nat → ClassId) (sz : Nat) (mo : Nat) (r : Nat → Nat) (z : Nat → Int32) (q : Nat → Int64) (cd : Int32) (tm : Int32) (sn : Nat) (tx : Nat) (x : Int32) (hbad : x < 0 ∨ 255 < x) : Met l y_Md_hello (Cond.code y_Md_hello b_Md_hello 2 (Option.some Jvm.ClassFile.FieldType.int) :: BIG) ({ frames := 1, cells := 0, slots := 0, locals := 21 }) (va_Pc [.ref mo, .int x] (fun U => U.heap.size = sz ∧ va_P (dC, dI) vcl [(mo, .inr (12, mdF r z q cd tm (nI sn) (nI tx)))] U.heap ∧ va_K (dC, dI) vcl (tyL cT) U ∧ va_D (fun _ => True) [(mo, .inr (12, mdF r z q cd tm (nI sn) (nI tx)))])) (va_Qi (S := Unit) (fun rv9 u => True) (fun u t => va_P (dC, dI) vcl [(mo, .inr (12, mdF r z q 1 tm (nI sn) (nI tx)))] t.heap ∧ va_K (dC, dI) vcl (tyL cT) t ∧ va_D (va_A [(mo, .inr (12, mdF r z q cd tm (nI sn) (nI tx)))] sz) [(mo, .inr (12, mdF r z q 1 tm (nI sn) (nI tx)))]) (va_A [(mo, .inr (12, mdF r z q cd tm (nI sn) (nI tx)))] sz)) 0 0 (va_A [(mo, .inr (12, mdF r z q cd tm (nI sn) (nI tx)))] sz) := by
  refine Met.ofW (cc := b_Md_hello) (maxL := 2) (ret := (Option.some Jvm.ClassFile.FieldType.int)) (by decide) rfl ?_
  intro p e s m args below meth c s₁ B hml hv
  obtain ⟨hargs, hsz, hP, hK, hD0⟩ := hv
  have hx := B.exec
  have hb := B.bytes
  have hr := B.returns
  have hts := atoms_spec (ws := (Cond.code y_Md_hello b_Md_hello 2 (Option.some Jvm.ClassFile.FieldType.int) :: BIG)) B.pre
  have hg : ∀ w ∈ BIG, w.before _ s = true := fun w h => hts w (List.mem_cons_of_mem _ h)
  have hown : s.vm.findClass "DoorServerModel" = some m.cls := findClass_of_methodNamed B.named
  have hlocks := B.notSynchronized
  subst hsz
  have hD := hD0.self (sz := s.heap.size)
  generalize hAe : va_A [(mo, .inr (12, mdF r z q cd tm (nI sn) (nI tx)))] s.heap.size = A at hD ⊢
  have hA : ∀ q : Nat, s.heap.size ≤ q → A q := fun q h => by rw [← hAe]; exact Or.inr h
  have hS : va_S A s.heap s.heap [] := va_S.rf
  have hl := lv_entry ([.ref mo, .int x]) (n := 2) (Nat.le_of_ble_eq_true rfl)
  refine W.eq (g2 := entryFrame m (List.toArray [.ref mo, .int x]) 2) (by rw [hargs]) ?_
  rw [lg_entry_eq]
  generalize (lg_sl ([.ref mo, .int x]) ++ List.replicate (2 - (lg_sl ([.ref mo, .int x])).length) Slot.unset).toArray = ls at hl ⊢
  have hl : lv_has ls 2 [(0, .ref mo), (1, .int x)] := hl
  change W p l e ({ frames := 1, cells := 0, slots := 0, locals := 21 } : Room) s m args below meth c s.heap [] 0 0 _ _
  have hP : va_P (dC, dI) vcl [(mo, .inr (12, mdF r z q cd tm (nI sn) (nI tx)))] s.heap := hP
  refine lv_aload_n hx hb d_Md_hello_0 rfl (lv_at hl 0 rfl) ?_
  refine lv_iload_n hx hb d_Md_hello_1 rfl (lv_at hl 1 rfl) ?_
  have hPc := hP.sub (ws' := []) [] rfl
  have hDc := hD.sub (ws' := []) [] (by decide) rfl
  have hFc := va_free (wc := []) hD hS hA [] rfl
  refine va_calli (va_runS (As := [.int x]) (rest := [.ref mo]) ⟨hx, hb, hml, hown, hg⟩ (m_byte0 l dC dI cT s.heap.size x (hbad)) (va_cwS 1 hg (gI (List.forall_mem_append.mpr ⟨List.forall_mem_cons.mpr ⟨k_1181, List.forall_mem_cons.mpr ⟨k_1182, List.forall_mem_cons.mpr ⟨k_13, fun _ h => absurd h List.not_mem_nil⟩⟩⟩, List.forall_mem_cons.mpr ⟨k_1183, fun _ h => h⟩⟩)) rfl rfl rfl (by decide +kernel) ⟨Nat.le_of_ble_eq_true rfl, Nat.le_of_ble_eq_true rfl⟩) ⟨fun a U g mk q => by obtain ⟨q0, q1, qP, qK, qD⟩ := q; exact ⟨q0, q1, qP, va_K.moved (u := U) (U := U.calling g mk a) (Vm.Alike.refl U.vm) qK, qD⟩, fun U hU hW => ⟨rfl, by rw [hU], by rw [hU]; exact hPc, va_K.moved hW.alike hK, hDc.weaken (fun _ _ _ _ => trivial)⟩⟩ rfl rfl hl.1 rfl (lv_room (Nat.le_of_ble_eq_true rfl)) d_Md_hello_2 ⟨Nat.le_of_ble_eq_true rfl, Nat.le_of_ble_eq_true rfl⟩) hS (fun q _ h => hFc q h) hFc (fun rv9 u t H1 locs ht hvm hw hB hz1 hk1 hS => ?_)
  try dsimp only at hw hB
  obtain ⟨hP1, hK1, hD1⟩ := hB
  rw [ht] at hP1
  obtain ⟨rfl, hw⟩ := hw
  obtain ⟨hP, hD⟩ := va_join (wr := [(mo, .inr (12, mdF r z q cd tm (nI sn) (nI tx)))]) (w1 := []) hP hD [] [0] rfl rfl (by decide) (by decide) hk1 hFc hP1 hD1
  have hw89 := hw
  clear hPc hDc hFc hz1 hk1 hP1 hK1 hD1
  generalize H1 = H at hP hS ⊢
  have hP : va_P (dC, dI) vcl [(mo, .inr (12, mdF r z q cd tm (nI sn) (nI tx)))] H := hP
  have hD : va_D A [(mo, .inr (12, mdF r z q cd tm (nI sn) (nI tx)))] := hD
  have hPc := hP.sub (ws' := [(mo, .inr (12, mdF r z q cd tm (nI sn) (nI tx)))]) [0] rfl
  have hDc := hD.sub (ws' := [(mo, .inr (12, mdF r z q cd tm (nI sn) (nI tx)))]) [0] (by decide) rfl
  have hFc := va_free (wc := [(mo, .inr (12, mdF r z q cd tm (nI sn) (nI tx)))]) hD hS hA [0] rfl
  refine va_calli (va_runV (C := "DoorServerModel") (As := [.int 0]) (rest := []) ⟨hx, hb, hml, hown, hg⟩ (m_goes0 l dC dI cT H.size mo r z q cd tm sn tx ) (cwV 1 hg (gI (List.forall_mem_append.mpr ⟨List.forall_mem_cons.mpr ⟨k_1165, List.forall_mem_cons.mpr ⟨k_1167, List.forall_mem_cons.mpr ⟨(big_sel (q := y_Md_goes) (n := 45) (by decide +kernel)), List.forall_mem_cons.mpr ⟨k_13, fun _ h => absurd h List.not_mem_nil⟩⟩⟩⟩, List.forall_mem_cons.mpr ⟨k_1168, fun _ h => h⟩⟩)) rfl rfl rfl (by decide +kernel) ⟨Nat.le_of_ble_eq_true rfl, Nat.le_of_ble_eq_true rfl⟩) ⟨fun a U g mk q => by obtain ⟨q0, q1, qP, qK, qD⟩ := q; exact ⟨q0, q1, qP, va_K.moved (u := U) (U := U.calling g mk a) (Vm.Alike.refl U.vm) qK, qD⟩, va_recv (q0 := 0) (ci := 12) hK hP rfl rfl, fun U hU hW => ⟨rfl, by rw [hU], by rw [hU]; exact hPc, va_K.moved hW.alike hK, hDc.weaken (fun _ _ _ _ => trivial)⟩⟩ rfl rfl hl.1 rfl (lv_room (Nat.le_of_ble_eq_true rfl)) d_Md_hello_5 ⟨Nat.le_of_ble_eq_true rfl, Nat.le_of_ble_eq_true rfl⟩) hS (fun q _ h => hFc q h) hFc (fun rv9 u t H1 locs ht hvm hw hB hz1 hk1 hS => ?_)
  try dsimp only at hw hB
  obtain ⟨hP1, hK1, hD1⟩ := hB
  rw [ht] at hP1
  obtain ⟨rfl, hw⟩ := hw
  obtain ⟨hP, hD⟩ := va_join (wr := []) (w1 := [(mo, .inr (12, mdF r z q 1 tm (nI sn) (nI tx)))]) hP hD [0] [] rfl rfl (by decide) (by decide) hk1 hFc hP1 hD1
  have hw90 := hw
  clear hPc hDc hFc hz1 hk1 hP1 hK1 hD1
  generalize H1 = H at hP hS ⊢
  have hP : va_P (dC, dI) vcl [(mo, .inr (12, mdF r z q 1 tm (nI sn) (nI tx)))] H := hP
  have hD : va_D A [(mo, .inr (12, mdF r z q 1 tm (nI sn) (nI tx)))] := hD
  refine lv_if_eq (tgt := 21) hx hb d_Md_hello_8 (by decide) (fun hc91 => ?_) (fun hn9 => absurd (by decide) hn9)
  refine lv_iconst (v := 0) hx hb d_Md_hello_21 (by decide) ?_
  have hP9 := hP.sub (ws' := [(mo, .inr (12, mdF r z q 1 tm (nI sn) (nI tx)))]) [0] rfl
  have hD9 := hD.sub (ws' := [(mo, .inr (12, mdF r z q 1 tm (nI sn) (nI tx)))]) [0] (by decide) rfl
  exact W.iret (v := 0) hx hb hr (fun t ht hW => ⟨⟨_, (), rfl, trivial, by rw [ht]; exact hP9, va_K.moved hW.alike hK, hD9⟩, hS.F ht⟩) hS.2.2 d_Md_hello_22
set_option maxHeartbeats 4000000 in
set_option maxRecDepth 100000 in
/-- reply: illegal argument -/
theorem b_reply (l : Launch) (dC : Nat → ClassId) (dI : Nat → Nat → Nat) (cT : Nat → ClassId) (sz : Nat) (mo : Nat) (r : Nat → Nat) (z : Nat → Int32) (q : Nat → Int64) (cd : Int32) (tm : Int32) (sn : Nat) (tx : Nat) (v : Int64) (y : Int32) (hbad : y < 1 ∨ 60 < y) : Met l y_Md_reply (Cond.code y_Md_reply b_Md_reply 6 (Option.some Jvm.ClassFile.FieldType.int) :: BIG) ({ frames := 1, cells := 0, slots := 0, locals := 21 }) (va_Pc [.ref mo, .long v, .int y] (fun U => U.heap.size = sz ∧ va_P (dC, dI) vcl [(mo, .inr (12, mdF r z q cd tm (nI sn) (nI tx)))] U.heap ∧ va_K (dC, dI) vcl (tyL cT) U ∧ va_D (fun _ => True) [(mo, .inr (12, mdF r z q cd tm (nI sn) (nI tx)))])) (va_Qi (S := Unit) (fun rv9 u => True) (fun u t => va_P (dC, dI) vcl [(mo, .inr (12, mdF r z q 1 tm (nI sn) (nI tx)))] t.heap ∧ va_K (dC, dI) vcl (tyL cT) t ∧ va_D (va_A [(mo, .inr (12, mdF r z q cd tm (nI sn) (nI tx)))] sz) [(mo, .inr (12, mdF r z q 1 tm (nI sn) (nI tx)))]) (va_A [(mo, .inr (12, mdF r z q cd tm (nI sn) (nI tx)))] sz)) 0 0 (va_A [(mo, .inr (12, mdF r z q cd tm (nI sn) (nI tx)))] sz) := by
  refine Met.ofW (cc := b_Md_reply) (maxL := 6) (ret := (Option.some Jvm.ClassFile.FieldType.int)) (by decide) rfl ?_
  intro p e s m args below meth c s₁ B hml hv
  obtain ⟨hargs, hsz, hP, hK, hD0⟩ := hv
  have hx := B.exec
  have hb := B.bytes
  have hr := B.returns
  have hts := atoms_spec (ws := (Cond.code y_Md_reply b_Md_reply 6 (Option.some Jvm.ClassFile.FieldType.int) :: BIG)) B.pre
  have hg : ∀ w ∈ BIG, w.before _ s = true := fun w h => hts w (List.mem_cons_of_mem _ h)
  have hown : s.vm.findClass "DoorServerModel" = some m.cls := findClass_of_methodNamed B.named
  have hlocks := B.notSynchronized
  subst hsz
  have hD := hD0.self (sz := s.heap.size)
  generalize hAe : va_A [(mo, .inr (12, mdF r z q cd tm (nI sn) (nI tx)))] s.heap.size = A at hD ⊢
  have hA : ∀ q : Nat, s.heap.size ≤ q → A q := fun q h => by rw [← hAe]; exact Or.inr h
  have hS : va_S A s.heap s.heap [] := va_S.rf
  have hl := lv_entry ([.ref mo, .long v, .int y]) (n := 6) (Nat.le_of_ble_eq_true rfl)
  refine W.eq (g2 := entryFrame m (List.toArray [.ref mo, .long v, .int y]) 6) (by rw [hargs]) ?_
  rw [lg_entry_eq]
  generalize (lg_sl ([.ref mo, .long v, .int y]) ++ List.replicate (6 - (lg_sl ([.ref mo, .long v, .int y])).length) Slot.unset).toArray = ls at hl ⊢
  have hl : lv_has ls 6 [(0, .ref mo), (1, .long v), (3, .int y)] := hl
  change W p l e ({ frames := 1, cells := 0, slots := 0, locals := 21 } : Room) s m args below meth c s.heap [] 0 0 _ _
  have hP : va_P (dC, dI) vcl [(mo, .inr (12, mdF r z q cd tm (nI sn) (nI tx)))] s.heap := hP
  refine lv_aload_n hx hb d_Md_reply_0 rfl (lv_at hl 0 rfl) ?_
  refine lv_iload_n hx hb d_Md_reply_1 rfl (lv_at hl 2 rfl) ?_
  refine lv_iconst (v := 1) hx hb d_Md_reply_2 (by decide) ?_
  have K92 : W p l e ({ frames := 1, cells := 0, slots := 0, locals := 21 } : Room) s m args below meth c s.heap [] 0 0 (MQ below (va_Qi (S := Unit) (fun rv9 u => True) (fun u t => va_P (dC, dI) vcl [(mo, .inr (12, mdF r z q 1 tm (nI sn) (nI tx)))] t.heap ∧ va_K (dC, dI) vcl (tyL cT) t ∧ va_D A [(mo, .inr (12, mdF r z q 1 tm (nI sn) (nI tx)))]) A) args s 0 0 A) (F0 m 16 ls [.ref mo]) := by
    refine lv_iconst (v := 0) hx hb d_Md_reply_16 (by decide) ?_
    have hPc := hP.sub (ws' := [(mo, .inr (12, mdF r z q cd tm (nI sn) (nI tx)))]) [0] rfl
    have hDc := hD.sub (ws' := [(mo, .inr (12, mdF r z q cd tm (nI sn) (nI tx)))]) [0] (by decide) rfl
    have hFc := va_free (wc := [(mo, .inr (12, mdF r z q cd tm (nI sn) (nI tx)))]) hD hS hA [0] rfl
    refine va_calli (va_runV (C := "DoorServerModel") (As := [.int 0]) (rest := []) ⟨hx, hb, hml, hown, hg⟩ (m_goes0 l dC dI cT s.heap.size mo r z q cd tm sn tx ) (cwV 1 hg (gI (List.forall_mem_append.mpr ⟨List.forall_mem_cons.mpr ⟨k_1165, List.forall_mem_cons.mpr ⟨k_1167, List.forall_mem_cons.mpr ⟨(big_sel (q := y_Md_goes) (n := 45) (by decide +kernel)), List.forall_mem_cons.mpr ⟨k_13, fun _ h => absurd h List.not_mem_nil⟩⟩⟩⟩, List.forall_mem_cons.mpr ⟨k_1168, fun _ h => h⟩⟩)) rfl rfl rfl (by decide +kernel) ⟨Nat.le_of_ble_eq_true rfl, Nat.le_of_ble_eq_true rfl⟩) ⟨fun a U g mk q => by obtain ⟨q0, q1, qP, qK, qD⟩ := q; exact ⟨q0, q1, qP, va_K.moved (u := U) (U := U.calling g mk a) (Vm.Alike.refl U.vm) qK, qD⟩, va_recv (q0 := 0) (ci := 12) hK hP rfl rfl, fun U hU hW => ⟨rfl, by rw [hU], by rw [hU]; exact hPc, va_K.moved hW.alike hK, hDc.weaken (fun _ _ _ _ => trivial)⟩⟩ rfl rfl hl.1 rfl (lv_room (Nat.le_of_ble_eq_true rfl)) d_Md_reply_17 ⟨Nat.le_of_ble_eq_true rfl, Nat.le_of_ble_eq_true rfl⟩) hS (fun q _ h => hFc q h) hFc (fun rv9 u t H1 locs ht hvm hw hB hz1 hk1 hS => ?_)
    try dsimp only at hw hB
    obtain ⟨hP1, hK1, hD1⟩ := hB
    rw [ht] at hP1
    obtain ⟨rfl, hw⟩ := hw
    obtain ⟨hP, hD⟩ := va_join (wr := []) (w1 := [(mo, .inr (12, mdF r z q 1 tm (nI sn) (nI tx)))]) hP hD [0] [] rfl rfl (by decide) (by decide) hk1 hFc hP1 hD1
    have hw93 := hw
    clear hPc hDc hFc hz1 hk1 hP1 hK1 hD1
    generalize H1 = H at hP hS ⊢
    have hP : va_P (dC, dI) vcl [(mo, .inr (12, mdF r z q 1 tm (nI sn) (nI tx)))] H := hP
    have hD : va_D A [(mo, .inr (12, mdF r z q 1 tm (nI sn) (nI tx)))] := hD
    refine lv_if_eq (tgt := 41) hx hb d_Md_reply_20 (by decide) (fun hc94 => ?_) (fun hn9 => absurd (by decide) hn9)
    refine lv_aload_n hx hb d_Md_reply_41 rfl (lv_at hl 0 rfl) ?_
    refine va_get (D := (dC, dI)) (ci := 12) (v := (.int 1)) (C := R_Md) (T := F_Md) (N := 45) hx hb hg in_Md hown hK hP 0 rfl rfl 1 (by decide) (hg _ k_1021) (fun _ h9 => h9) rfl d_Md_reply_42 ?_
    refine lv_if_le (tgt := 52) hx hb d_Md_reply_45 (by decide) (fun hn9 => absurd hn9 (by decide)) (fun hc95 => ?_)
    refine lv_iconst (v := 0) hx hb d_Md_reply_48 (by decide) ?_
    refine lv_goto (tgt := 53) hx hb d_Md_reply_49 (by decide) ?_
    have hP9 := hP.sub (ws' := [(mo, .inr (12, mdF r z q 1 tm (nI sn) (nI tx)))]) [0] rfl
    have hD9 := hD.sub (ws' := [(mo, .inr (12, mdF r z q 1 tm (nI sn) (nI tx)))]) [0] (by decide) rfl
    exact W.iret (v := 0) hx hb hr (fun t ht hW => ⟨⟨_, (), rfl, trivial, by rw [ht]; exact hP9, va_K.moved hW.alike hK, hD9⟩, hS.F ht⟩) hS.2.2 d_Md_reply_53
  refine lv_icmp_lt (tgt := 16) hx hb d_Md_reply_3 (by decide) (fun hc96 => ?_) (fun hc96 => ?_)
  · exact K92
  · refine lv_iload_n hx hb d_Md_reply_6 rfl (lv_at hl 2 rfl) ?_
    refine lv_bipush (v := 60) hx hb d_Md_reply_7 (by decide) ?_
    refine lv_icmp_gt (tgt := 16) hx hb d_Md_reply_9 (by decide) (fun hc97 => ?_) (fun hn9 => absurd (hbad.resolve_left hc96) hn9)
    exact K92
set_option maxHeartbeats 4000000 in
set_option maxRecDepth 100000 in
/-- ticks: illegal argument -/
theorem b_ticks (l : Launch) (dC : Nat → ClassId) (dI : Nat → Nat → Nat) (cT : Nat → ClassId) (sz : Nat) (mo : Nat) (r : Nat → Nat) (z : Nat → Int32) (q : Nat → Int64) (cd : Int32) (tm : Int32) (sn : Nat) (tx : Nat) (y : Int32) (hbad : y < 1 ∨ 1000 < y) : Met l y_Md_ticks (Cond.code y_Md_ticks b_Md_ticks 2 (Option.some Jvm.ClassFile.FieldType.int) :: BIG) ({ frames := 1, cells := 0, slots := 0, locals := 21 }) (va_Pc [.ref mo, .int y] (fun U => U.heap.size = sz ∧ va_P (dC, dI) vcl [(mo, .inr (12, mdF r z q cd tm (nI sn) (nI tx)))] U.heap ∧ va_K (dC, dI) vcl (tyL cT) U ∧ va_D (fun _ => True) [(mo, .inr (12, mdF r z q cd tm (nI sn) (nI tx)))])) (va_Qi (S := Unit) (fun rv9 u => True) (fun u t => va_P (dC, dI) vcl [(mo, .inr (12, mdF r z q 1 tm (nI sn) (nI tx)))] t.heap ∧ va_K (dC, dI) vcl (tyL cT) t ∧ va_D (va_A [(mo, .inr (12, mdF r z q cd tm (nI sn) (nI tx)))] sz) [(mo, .inr (12, mdF r z q 1 tm (nI sn) (nI tx)))]) (va_A [(mo, .inr (12, mdF r z q cd tm (nI sn) (nI tx)))] sz)) 0 0 (va_A [(mo, .inr (12, mdF r z q cd tm (nI sn) (nI tx)))] sz) := by
  refine Met.ofW (cc := b_Md_ticks) (maxL := 2) (ret := (Option.some Jvm.ClassFile.FieldType.int)) (by decide) rfl ?_
  intro p e s m args below meth c s₁ B hml hv
  obtain ⟨hargs, hsz, hP, hK, hD0⟩ := hv
  have hx := B.exec
  have hb := B.bytes
  have hr := B.returns
  have hts := atoms_spec (ws := (Cond.code y_Md_ticks b_Md_ticks 2 (Option.some Jvm.ClassFile.FieldType.int) :: BIG)) B.pre
  have hg : ∀ w ∈ BIG, w.before _ s = true := fun w h => hts w (List.mem_cons_of_mem _ h)
  have hown : s.vm.findClass "DoorServerModel" = some m.cls := findClass_of_methodNamed B.named
  have hlocks := B.notSynchronized
  subst hsz
  have hD := hD0.self (sz := s.heap.size)
  generalize hAe : va_A [(mo, .inr (12, mdF r z q cd tm (nI sn) (nI tx)))] s.heap.size = A at hD ⊢
  have hA : ∀ q : Nat, s.heap.size ≤ q → A q := fun q h => by rw [← hAe]; exact Or.inr h
  have hS : va_S A s.heap s.heap [] := va_S.rf
  have hl := lv_entry ([.ref mo, .int y]) (n := 2) (Nat.le_of_ble_eq_true rfl)
  refine W.eq (g2 := entryFrame m (List.toArray [.ref mo, .int y]) 2) (by rw [hargs]) ?_
  rw [lg_entry_eq]
  generalize (lg_sl ([.ref mo, .int y]) ++ List.replicate (2 - (lg_sl ([.ref mo, .int y])).length) Slot.unset).toArray = ls at hl ⊢
  have hl : lv_has ls 2 [(0, .ref mo), (1, .int y)] := hl
  change W p l e ({ frames := 1, cells := 0, slots := 0, locals := 21 } : Room) s m args below meth c s.heap [] 0 0 _ _
  have hP : va_P (dC, dI) vcl [(mo, .inr (12, mdF r z q cd tm (nI sn) (nI tx)))] s.heap := hP
  refine lv_aload_n hx hb d_Md_ticks_0 rfl (lv_at hl 0 rfl) ?_
  refine lv_iload_n hx hb d_Md_ticks_1 rfl (lv_at hl 1 rfl) ?_
  refine lv_iconst (v := 1) hx hb d_Md_ticks_2 (by decide) ?_
  have K98 : W p l e ({ frames := 1, cells := 0, slots := 0, locals := 21 } : Room) s m args below meth c s.heap [] 0 0 (MQ below (va_Qi (S := Unit) (fun rv9 u => True) (fun u t => va_P (dC, dI) vcl [(mo, .inr (12, mdF r z q 1 tm (nI sn) (nI tx)))] t.heap ∧ va_K (dC, dI) vcl (tyL cT) t ∧ va_D A [(mo, .inr (12, mdF r z q 1 tm (nI sn) (nI tx)))]) A) args s 0 0 A) (F0 m 29 ls [.ref mo]) := by
    refine lv_iconst (v := 0) hx hb d_Md_ticks_29 (by decide) ?_
    have hPc := hP.sub (ws' := [(mo, .inr (12, mdF r z q cd tm (nI sn) (nI tx)))]) [0] rfl
    have hDc := hD.sub (ws' := [(mo, .inr (12, mdF r z q cd tm (nI sn) (nI tx)))]) [0] (by decide) rfl
    have hFc := va_free (wc := [(mo, .inr (12, mdF r z q cd tm (nI sn) (nI tx)))]) hD hS hA [0] rfl
    refine va_calli (va_runV (C := "DoorServerModel") (As := [.int 0]) (rest := []) ⟨hx, hb, hml, hown, hg⟩ (m_goes0 l dC dI cT s.heap.size mo r z q cd tm sn tx ) (cwV 1 hg (gI (List.forall_mem_append.mpr ⟨List.forall_mem_cons.mpr ⟨k_1165, List.forall_mem_cons.mpr ⟨k_1167, List.forall_mem_cons.mpr ⟨(big_sel (q := y_Md_goes) (n := 45) (by decide +kernel)), List.forall_mem_cons.mpr ⟨k_13, fun _ h => absurd h List.not_mem_nil⟩⟩⟩⟩, List.forall_mem_cons.mpr ⟨k_1168, fun _ h => h⟩⟩)) rfl rfl rfl (by decide +kernel) ⟨Nat.le_of_ble_eq_true rfl, Nat.le_of_ble_eq_true rfl⟩) ⟨fun a U g mk q => by obtain ⟨q0, q1, qP, qK, qD⟩ := q; exact ⟨q0, q1, qP, va_K.moved (u := U) (U := U.calling g mk a) (Vm.Alike.refl U.vm) qK, qD⟩, va_recv (q0 := 0) (ci := 12) hK hP rfl rfl, fun U hU hW => ⟨rfl, by rw [hU], by rw [hU]; exact hPc, va_K.moved hW.alike hK, hDc.weaken (fun _ _ _ _ => trivial)⟩⟩ rfl rfl hl.1 rfl (lv_room (Nat.le_of_ble_eq_true rfl)) d_Md_ticks_30 ⟨Nat.le_of_ble_eq_true rfl, Nat.le_of_ble_eq_true rfl⟩) hS (fun q _ h => hFc q h) hFc (fun rv9 u t H1 locs ht hvm hw hB hz1 hk1 hS => ?_)
    try dsimp only at hw hB
    obtain ⟨hP1, hK1, hD1⟩ := hB
    rw [ht] at hP1
    obtain ⟨rfl, hw⟩ := hw
    obtain ⟨hP, hD⟩ := va_join (wr := []) (w1 := [(mo, .inr (12, mdF r z q 1 tm (nI sn) (nI tx)))]) hP hD [0] [] rfl rfl (by decide) (by decide) hk1 hFc hP1 hD1
    have hw99 := hw
    clear hPc hDc hFc hz1 hk1 hP1 hK1 hD1
    generalize H1 = H at hP hS ⊢
    have hP : va_P (dC, dI) vcl [(mo, .inr (12, mdF r z q 1 tm (nI sn) (nI tx)))] H := hP
    have hD : va_D A [(mo, .inr (12, mdF r z q 1 tm (nI sn) (nI tx)))] := hD
    refine lv_if_ne (tgt := 38) hx hb d_Md_ticks_33 (by decide) (fun hn9 => absurd hn9 (by decide)) (fun hc100 => ?_)
    refine lv_iconst (v := 0) hx hb d_Md_ticks_36 (by decide) ?_
    have hP9 := hP.sub (ws' := [(mo, .inr (12, mdF r z q 1 tm (nI sn) (nI tx)))]) [0] rfl
    have hD9 := hD.sub (ws' := [(mo, .inr (12, mdF r z q 1 tm (nI sn) (nI tx)))]) [0] (by decide) rfl
    exact W.iret (v := 0) hx hb hr (fun t ht hW => ⟨⟨_, (), rfl, trivial, by rw [ht]; exact hP9, va_K.moved hW.alike hK, hD9⟩, hS.F ht⟩) hS.2.2 d_Md_ticks_37
  refine lv_icmp_lt (tgt := 29) hx hb d_Md_ticks_3 (by decide) (fun hc101 => ?_) (fun hc101 => ?_)
  · exact K98
  · refine lv_iload_n hx hb d_Md_ticks_6 rfl (lv_at hl 1 rfl) ?_
    refine lv_sipush (v := 1000) hx hb d_Md_ticks_7 (by decide) ?_
    refine lv_icmp_gt (tgt := 29) hx hb d_Md_ticks_10 (by decide) (fun hc102 => ?_) (fun hn9 => absurd (hbad.resolve_left hc101) hn9)
    exact K98
set_option maxHeartbeats 4000000 in
set_option maxRecDepth 100000 in
/-- count: illegal argument -/
theorem b_count (l : Launch) (dC : Nat → ClassId) (dI : Nat → Nat → Nat) (cT : Nat → ClassId) (sz : Nat) (mo : Nat) (r : Nat → Nat) (z : Nat → Int32) (q : Nat → Int64) (cd : Int32) (tm : Int32) (sn : Nat) (tx : Nat) (x : Int32) (hbad : x < 0 ∨ 5 < x) : Met l y_Md_count (Cond.code y_Md_count b_Md_count 2 (Option.some Jvm.ClassFile.FieldType.int) :: BIG) ({ frames := 1, cells := 0, slots := 0, locals := 21 }) (va_Pc [.ref mo, .int x] (fun U => U.heap.size = sz ∧ va_P (dC, dI) vcl [(mo, .inr (12, mdF r z q cd tm (nI sn) (nI tx)))] U.heap ∧ va_K (dC, dI) vcl (tyL cT) U ∧ va_D (fun _ => True) [(mo, .inr (12, mdF r z q cd tm (nI sn) (nI tx)))])) (va_Qi (S := Unit) (fun rv9 u => True) (fun u t => va_P (dC, dI) vcl [(mo, .inr (12, mdF r z q 1 tm (nI sn) (nI tx)))] t.heap ∧ va_K (dC, dI) vcl (tyL cT) t ∧ va_D (va_A [(mo, .inr (12, mdF r z q cd tm (nI sn) (nI tx)))] sz) [(mo, .inr (12, mdF r z q 1 tm (nI sn) (nI tx)))]) (va_A [(mo, .inr (12, mdF r z q cd tm (nI sn) (nI tx)))] sz)) 0 0 (va_A [(mo, .inr (12, mdF r z q cd tm (nI sn) (nI tx)))] sz) := by
  refine Met.ofW (cc := b_Md_count) (maxL := 2) (ret := (Option.some Jvm.ClassFile.FieldType.int)) (by decide) rfl ?_
  intro p e s m args below meth c s₁ B hml hv
  obtain ⟨hargs, hsz, hP, hK, hD0⟩ := hv
  have hx := B.exec
  have hb := B.bytes
  have hr := B.returns
  have hts := atoms_spec (ws := (Cond.code y_Md_count b_Md_count 2 (Option.some Jvm.ClassFile.FieldType.int) :: BIG)) B.pre
  have hg : ∀ w ∈ BIG, w.before _ s = true := fun w h => hts w (List.mem_cons_of_mem _ h)
  have hown : s.vm.findClass "DoorServerModel" = some m.cls := findClass_of_methodNamed B.named
  have hlocks := B.notSynchronized
  subst hsz
  have hD := hD0.self (sz := s.heap.size)
  generalize hAe : va_A [(mo, .inr (12, mdF r z q cd tm (nI sn) (nI tx)))] s.heap.size = A at hD ⊢
  have hA : ∀ q : Nat, s.heap.size ≤ q → A q := fun q h => by rw [← hAe]; exact Or.inr h
  have hS : va_S A s.heap s.heap [] := va_S.rf
  have hl := lv_entry ([.ref mo, .int x]) (n := 2) (Nat.le_of_ble_eq_true rfl)
  refine W.eq (g2 := entryFrame m (List.toArray [.ref mo, .int x]) 2) (by rw [hargs]) ?_
  rw [lg_entry_eq]
  generalize (lg_sl ([.ref mo, .int x]) ++ List.replicate (2 - (lg_sl ([.ref mo, .int x])).length) Slot.unset).toArray = ls at hl ⊢
  have hl : lv_has ls 2 [(0, .ref mo), (1, .int x)] := hl
  change W p l e ({ frames := 1, cells := 0, slots := 0, locals := 21 } : Room) s m args below meth c s.heap [] 0 0 _ _
  have hP : va_P (dC, dI) vcl [(mo, .inr (12, mdF r z q cd tm (nI sn) (nI tx)))] s.heap := hP
  refine lv_aload_n hx hb d_Md_count_0 rfl (lv_at hl 0 rfl) ?_
  refine lv_iload_n hx hb d_Md_count_1 rfl (lv_at hl 1 rfl) ?_
  have K103 : W p l e ({ frames := 1, cells := 0, slots := 0, locals := 21 } : Room) s m args below meth c s.heap [] 0 0 (MQ below (va_Qi (S := Unit) (fun rv9 u => True) (fun u t => va_P (dC, dI) vcl [(mo, .inr (12, mdF r z q 1 tm (nI sn) (nI tx)))] t.heap ∧ va_K (dC, dI) vcl (tyL cT) t ∧ va_D A [(mo, .inr (12, mdF r z q 1 tm (nI sn) (nI tx)))]) A) args s 0 0 A) (F0 m 14 ls [.ref mo]) := by
    refine lv_iconst (v := 0) hx hb d_Md_count_14 (by decide) ?_
    have hPc := hP.sub (ws' := [(mo, .inr (12, mdF r z q cd tm (nI sn) (nI tx)))]) [0] rfl
    have hDc := hD.sub (ws' := [(mo, .inr (12, mdF r z q cd tm (nI sn) (nI tx)))]) [0] (by decide) rfl
    have hFc := va_free (wc := [(mo, .inr (12, mdF r z q cd tm (nI sn) (nI tx)))]) hD hS hA [0] rfl
    refine va_calli (va_runV (C := "DoorServerModel") (As := [.int 0]) (rest := []) ⟨hx, hb, hml, hown, hg⟩ (m_goes0 l dC dI cT s.heap.size mo r z q cd tm sn tx ) (cwV 1 hg (gI (List.forall_mem_append.mpr ⟨List.forall_mem_cons.mpr ⟨k_1165, List.forall_mem_cons.mpr ⟨k_1167, List.forall_mem_cons.mpr ⟨(big_sel (q := y_Md_goes) (n := 45) (by decide +kernel)), List.forall_mem_cons.mpr ⟨k_13, fun _ h => absurd h List.not_mem_nil⟩⟩⟩⟩, List.forall_mem_cons.mpr ⟨k_1168, fun _ h => h⟩⟩)) rfl rfl rfl (by decide +kernel) ⟨Nat.le_of_ble_eq_true rfl, Nat.le_of_ble_eq_true rfl⟩) ⟨fun a U g mk q => by obtain ⟨q0, q1, qP, qK, qD⟩ := q; exact ⟨q0, q1, qP, va_K.moved (u := U) (U := U.calling g mk a) (Vm.Alike.refl U.vm) qK, qD⟩, va_recv (q0 := 0) (ci := 12) hK hP rfl rfl, fun U hU hW => ⟨rfl, by rw [hU], by rw [hU]; exact hPc, va_K.moved hW.alike hK, hDc.weaken (fun _ _ _ _ => trivial)⟩⟩ rfl rfl hl.1 rfl (lv_room (Nat.le_of_ble_eq_true rfl)) d_Md_count_15 ⟨Nat.le_of_ble_eq_true rfl, Nat.le_of_ble_eq_true rfl⟩) hS (fun q _ h => hFc q h) hFc (fun rv9 u t H1 locs ht hvm hw hB hz1 hk1 hS => ?_)
    try dsimp only at hw hB
    obtain ⟨hP1, hK1, hD1⟩ := hB
    rw [ht] at hP1
    obtain ⟨rfl, hw⟩ := hw
    obtain ⟨hP, hD⟩ := va_join (wr := []) (w1 := [(mo, .inr (12, mdF r z q 1 tm (nI sn) (nI tx)))]) hP hD [0] [] rfl rfl (by decide) (by decide) hk1 hFc hP1 hD1
    have hw104 := hw
    clear hPc hDc hFc hz1 hk1 hP1 hK1 hD1
    generalize H1 = H at hP hS ⊢
    have hP : va_P (dC, dI) vcl [(mo, .inr (12, mdF r z q 1 tm (nI sn) (nI tx)))] H := hP
    have hD : va_D A [(mo, .inr (12, mdF r z q 1 tm (nI sn) (nI tx)))] := hD
    refine lv_if_ne (tgt := 23) hx hb d_Md_count_18 (by decide) (fun hn9 => absurd hn9 (by decide)) (fun hc105 => ?_)
    refine lv_iconst (v := 0) hx hb d_Md_count_21 (by decide) ?_
    have hP9 := hP.sub (ws' := [(mo, .inr (12, mdF r z q 1 tm (nI sn) (nI tx)))]) [0] rfl
    have hD9 := hD.sub (ws' := [(mo, .inr (12, mdF r z q 1 tm (nI sn) (nI tx)))]) [0] (by decide) rfl
    exact W.iret (v := 0) hx hb hr (fun t ht hW => ⟨⟨_, (), rfl, trivial, by rw [ht]; exact hP9, va_K.moved hW.alike hK, hD9⟩, hS.F ht⟩) hS.2.2 d_Md_count_22
  refine lv_if_lt (tgt := 14) hx hb d_Md_count_2 (by decide) (fun hc106 => ?_) (fun hc106 => ?_)
  · exact K103
  · refine lv_iload_n hx hb d_Md_count_5 rfl (lv_at hl 1 rfl) ?_
    refine lv_iconst (v := 5) hx hb d_Md_count_6 (by decide) ?_
    refine lv_icmp_gt (tgt := 14) hx hb d_Md_count_7 (by decide) (fun hc107 => ?_) (fun hn9 => absurd (hbad.resolve_left hc106) hn9)
    exact K103
set_option maxHeartbeats 4000000 in
set_option maxRecDepth 100000 in
/-- byteAt: there is none -/
theorem b_byteAt (l : Launch) (dC : Nat → ClassId) (dI : Nat → Nat → Nat) (cT : Nat → ClassId) (sz : Nat) (mo : Nat) (r : Nat → Nat) (z : Nat → Int32) (q : Nat → Int64) (cd : Int32) (tm : Int32) (sn : Nat) (tx : Nat) (x : Int32) (hz : z 14 = 0) : Met l y_Md_byteAt (Cond.code y_Md_byteAt b_Md_byteAt 2 (Option.some Jvm.ClassFile.FieldType.int) :: BIG) ({ frames := 1, cells := 0, slots := 0, locals := 21 }) (va_Pc [.ref mo, .int x] (fun U => U.heap.size = sz ∧ va_P (dC, dI) vcl [(mo, .inr (12, mdF r z q cd tm (nI sn) (nI tx)))] U.heap ∧ va_K (dC, dI) vcl (tyL cT) U ∧ va_D (fun _ => True) [(mo, .inr (12, mdF r z q cd tm (nI sn) (nI tx)))])) (va_Qi (S := Unit) (fun rv9 u => True) (fun u t => va_P (dC, dI) vcl [(mo, .inr (12, mdF r z q 1 tm (nI sn) (nI tx)))] t.heap ∧ va_K (dC, dI) vcl (tyL cT) t ∧ va_D (va_A [(mo, .inr (12, mdF r z q cd tm (nI sn) (nI tx)))] sz) [(mo, .inr (12, mdF r z q 1 tm (nI sn) (nI tx)))]) (va_A [(mo, .inr (12, mdF r z q cd tm (nI sn) (nI tx)))] sz)) 0 0 (va_A [(mo, .inr (12, mdF r z q cd tm (nI sn) (nI tx)))] sz) := by
  refine Met.ofW (cc := b_Md_byteAt) (maxL := 2) (ret := (Option.some Jvm.ClassFile.FieldType.int)) (by decide) rfl ?_
  intro p e s m args below meth c s₁ B hml hv
  obtain ⟨hargs, hsz, hP, hK, hD0⟩ := hv
  have hx := B.exec
  have hb := B.bytes
  have hr := B.returns
  have hts := atoms_spec (ws := (Cond.code y_Md_byteAt b_Md_byteAt 2 (Option.some Jvm.ClassFile.FieldType.int) :: BIG)) B.pre
  have hg : ∀ w ∈ BIG, w.before _ s = true := fun w h => hts w (List.mem_cons_of_mem _ h)
  have hown : s.vm.findClass "DoorServerModel" = some m.cls := findClass_of_methodNamed B.named
  have hlocks := B.notSynchronized
  subst hsz
  have hD := hD0.self (sz := s.heap.size)
  generalize hAe : va_A [(mo, .inr (12, mdF r z q cd tm (nI sn) (nI tx)))] s.heap.size = A at hD ⊢
  have hA : ∀ q : Nat, s.heap.size ≤ q → A q := fun q h => by rw [← hAe]; exact Or.inr h
  have hS : va_S A s.heap s.heap [] := va_S.rf
  have hl := lv_entry ([.ref mo, .int x]) (n := 2) (Nat.le_of_ble_eq_true rfl)
  refine W.eq (g2 := entryFrame m (List.toArray [.ref mo, .int x]) 2) (by rw [hargs]) ?_
  rw [lg_entry_eq]
  generalize (lg_sl ([.ref mo, .int x]) ++ List.replicate (2 - (lg_sl ([.ref mo, .int x])).length) Slot.unset).toArray = ls at hl ⊢
  have hl : lv_has ls 2 [(0, .ref mo), (1, .int x)] := hl
  change W p l e ({ frames := 1, cells := 0, slots := 0, locals := 21 } : Room) s m args below meth c s.heap [] 0 0 _ _
  have hP : va_P (dC, dI) vcl [(mo, .inr (12, mdF r z q cd tm (nI sn) (nI tx)))] s.heap := hP
  refine lv_aload_n hx hb d_Md_byteAt_0 rfl (lv_at hl 0 rfl) ?_
  refine lv_iload_n hx hb d_Md_byteAt_1 rfl (lv_at hl 1 rfl) ?_
  have K108 : W p l e ({ frames := 1, cells := 0, slots := 0, locals := 21 } : Room) s m args below meth c s.heap [] 0 0 (MQ below (va_Qi (S := Unit) (fun rv9 u => True) (fun u t => va_P (dC, dI) vcl [(mo, .inr (12, mdF r z q 1 tm (nI sn) (nI tx)))] t.heap ∧ va_K (dC, dI) vcl (tyL cT) t ∧ va_D A [(mo, .inr (12, mdF r z q 1 tm (nI sn) (nI tx)))]) A) args s 0 0 A) (F0 m 17 ls [.ref mo]) := by
    refine lv_iconst (v := 0) hx hb d_Md_byteAt_17 (by decide) ?_
    have hPc := hP.sub (ws' := [(mo, .inr (12, mdF r z q cd tm (nI sn) (nI tx)))]) [0] rfl
    have hDc := hD.sub (ws' := [(mo, .inr (12, mdF r z q cd tm (nI sn) (nI tx)))]) [0] (by decide) rfl
    have hFc := va_free (wc := [(mo, .inr (12, mdF r z q cd tm (nI sn) (nI tx)))]) hD hS hA [0] rfl
    refine va_calli (va_runV (C := "DoorServerModel") (As := [.int 0]) (rest := []) ⟨hx, hb, hml, hown, hg⟩ (m_goes0 l dC dI cT s.heap.size mo r z q cd tm sn tx ) (cwV 1 hg (gI (List.forall_mem_append.mpr ⟨List.forall_mem_cons.mpr ⟨k_1165, List.forall_mem_cons.mpr ⟨k_1167, List.forall_mem_cons.mpr ⟨(big_sel (q := y_Md_goes) (n := 45) (by decide +kernel)), List.forall_mem_cons.mpr ⟨k_13, fun _ h => absurd h List.not_mem_nil⟩⟩⟩⟩, List.forall_mem_cons.mpr ⟨k_1168, fun _ h => h⟩⟩)) rfl rfl rfl (by decide +kernel) ⟨Nat.le_of_ble_eq_true rfl, Nat.le_of_ble_eq_true rfl⟩) ⟨fun a U g mk q => by obtain ⟨q0, q1, qP, qK, qD⟩ := q; exact ⟨q0, q1, qP, va_K.moved (u := U) (U := U.calling g mk a) (Vm.Alike.refl U.vm) qK, qD⟩, va_recv (q0 := 0) (ci := 12) hK hP rfl rfl, fun U hU hW => ⟨rfl, by rw [hU], by rw [hU]; exact hPc, va_K.moved hW.alike hK, hDc.weaken (fun _ _ _ _ => trivial)⟩⟩ rfl rfl hl.1 rfl (lv_room (Nat.le_of_ble_eq_true rfl)) d_Md_byteAt_18 ⟨Nat.le_of_ble_eq_true rfl, Nat.le_of_ble_eq_true rfl⟩) hS (fun q _ h => hFc q h) hFc (fun rv9 u t H1 locs ht hvm hw hB hz1 hk1 hS => ?_)
    try dsimp only at hw hB
    obtain ⟨hP1, hK1, hD1⟩ := hB
    rw [ht] at hP1
    obtain ⟨rfl, hw⟩ := hw
    obtain ⟨hP, hD⟩ := va_join (wr := []) (w1 := [(mo, .inr (12, mdF r z q 1 tm (nI sn) (nI tx)))]) hP hD [0] [] rfl rfl (by decide) (by decide) hk1 hFc hP1 hD1
    have hw109 := hw
    clear hPc hDc hFc hz1 hk1 hP1 hK1 hD1
    generalize H1 = H at hP hS ⊢
    have hP : va_P (dC, dI) vcl [(mo, .inr (12, mdF r z q 1 tm (nI sn) (nI tx)))] H := hP
    have hD : va_D A [(mo, .inr (12, mdF r z q 1 tm (nI sn) (nI tx)))] := hD
    refine lv_if_eq (tgt := 33) hx hb d_Md_byteAt_21 (by decide) (fun hc110 => ?_) (fun hn9 => absurd (by decide) hn9)
    refine lv_iconst (v := 0) hx hb d_Md_byteAt_33 (by decide) ?_
    have hP9 := hP.sub (ws' := [(mo, .inr (12, mdF r z q 1 tm (nI sn) (nI tx)))]) [0] rfl
    have hD9 := hD.sub (ws' := [(mo, .inr (12, mdF r z q 1 tm (nI sn) (nI tx)))]) [0] (by decide) rfl
    exact W.iret (v := 0) hx hb hr (fun t ht hW => ⟨⟨_, (), rfl, trivial, by rw [ht]; exact hP9, va_K.moved hW.alike hK, hD9⟩, hS.F ht⟩) hS.2.2 d_Md_byteAt_34
  refine lv_if_lt (tgt := 17) hx hb d_Md_byteAt_2 (by decide) (fun hc111 => ?_) (fun hc111 => ?_)
  · exact K108
  · refine lv_iload_n hx hb d_Md_byteAt_5 rfl (lv_at hl 1 rfl) ?_
    refine lv_aload_n hx hb d_Md_byteAt_6 rfl (lv_at hl 0 rfl) ?_
    refine va_get (D := (dC, dI)) (ci := 12) (v := (.int (z 14))) (C := R_Md) (T := F_Md) (N := 45) hx hb hg in_Md hown hK hP 0 rfl rfl 14 (by decide) (hg _ k_1034) (fun _ h9 => h9) rfl d_Md_byteAt_7 ?_
    refine lv_icmp_ge (tgt := 17) hx hb d_Md_byteAt_10 (by decide) (fun hc112 => ?_) (fun hn9 => absurd (by rw [hz]; exact Int32.not_lt.mp hc111) hn9)
    exact K108
set_option maxHeartbeats 4000000 in
set_option maxRecDepth 100000 in
/-- record: there is none -/
theorem b_record (l : Launch) (dC : Nat → ClassId) (dI : Nat → Nat → Nat) (cT : Nat → ClassId) (sz : Nat) (mo : Nat) (r : Nat → Nat) (z : Nat → Int32) (q : Nat → Int64) (cd : Int32) (tm : Int32) (sn : Nat) (tx : Nat) (x : Int32) (y : Int32) (hz : z 33 = 0) : Met l y_Md_record (Cond.code y_Md_record b_Md_record 7 (Option.some Jvm.ClassFile.FieldType.long) :: BIG) ({ frames := 1, cells := 0, slots := 0, locals := 21 }) (va_Pc [.ref mo, .int x, .int y] (fun U => U.heap.size = sz ∧ va_P (dC, dI) vcl [(mo, .inr (12, mdF r z q cd tm (nI sn) (nI tx)))] U.heap ∧ va_K (dC, dI) vcl (tyL cT) U ∧ va_D (fun _ => True) [(mo, .inr (12, mdF r z q cd tm (nI sn) (nI tx)))])) (va_Ql (S := Unit) (fun rv9 u => True) (fun u t => va_P (dC, dI) vcl [(mo, .inr (12, mdF r z q 1 tm (nI sn) (nI tx)))] t.heap ∧ va_K (dC, dI) vcl (tyL cT) t ∧ va_D (va_A [(mo, .inr (12, mdF r z q cd tm (nI sn) (nI tx)))] sz) [(mo, .inr (12, mdF r z q 1 tm (nI sn) (nI tx)))]) (va_A [(mo, .inr (12, mdF r z q cd tm (nI sn) (nI tx)))] sz)) 0 0 (va_A [(mo, .inr (12, mdF r z q cd tm (nI sn) (nI tx)))] sz) := by
  refine Met.ofW (cc := b_Md_record) (maxL := 7) (ret := (Option.some Jvm.ClassFile.FieldType.long)) (by decide) rfl ?_
  intro p e s m args below meth c s₁ B hml hv
  obtain ⟨hargs, hsz, hP, hK, hD0⟩ := hv
  have hx := B.exec
  have hb := B.bytes
  have hr := B.returns
  have hts := atoms_spec (ws := (Cond.code y_Md_record b_Md_record 7 (Option.some Jvm.ClassFile.FieldType.long) :: BIG)) B.pre
  have hg : ∀ w ∈ BIG, w.before _ s = true := fun w h => hts w (List.mem_cons_of_mem _ h)
  have hown : s.vm.findClass "DoorServerModel" = some m.cls := findClass_of_methodNamed B.named
  have hlocks := B.notSynchronized
  subst hsz
  have hD := hD0.self (sz := s.heap.size)
  generalize hAe : va_A [(mo, .inr (12, mdF r z q cd tm (nI sn) (nI tx)))] s.heap.size = A at hD ⊢
  have hA : ∀ q : Nat, s.heap.size ≤ q → A q := fun q h => by rw [← hAe]; exact Or.inr h
  have hS : va_S A s.heap s.heap [] := va_S.rf
  have hl := lv_entry ([.ref mo, .int x, .int y]) (n := 7) (Nat.le_of_ble_eq_true rfl)
  refine W.eq (g2 := entryFrame m (List.toArray [.ref mo, .int x, .int y]) 7) (by rw [hargs]) ?_
  rw [lg_entry_eq]
  generalize (lg_sl ([.ref mo, .int x, .int y]) ++ List.replicate (7 - (lg_sl ([.ref mo, .int x, .int y])).length) Slot.unset).toArray = ls at hl ⊢
  have hl : lv_has ls 7 [(0, .ref mo), (1, .int x), (2, .int y)] := hl
  change W p l e ({ frames := 1, cells := 0, slots := 0, locals := 21 } : Room) s m args below meth c s.heap [] 0 0 _ _
  have hP : va_P (dC, dI) vcl [(mo, .inr (12, mdF r z q cd tm (nI sn) (nI tx)))] s.heap := hP
  refine lv_iconst (v := (-1)) hx hb d_Md_record_0 (by decide) ?_
  refine lv_istore_n (lv' := [(3, .int (-1)), (0, .ref mo), (1, .int x), (2, .int y)]) hx hb d_Md_record_1 rfl hl (by decide) rfl (fun ls hl => ?_)
  refine lv_iconst (v := 0) hx hb d_Md_record_2 (by decide) ?_
  refine lv_istore (lv' := [(4, .int 0), (3, .int (-1)), (0, .ref mo), (1, .int x), (2, .int y)]) hx hb d_Md_record_3 hl (by decide) rfl (fun ls hl => ?_)
  refine lv_iload hx hb d_Md_record_5 (lv_at hl 0 rfl) ?_
  refine lv_aload_n hx hb d_Md_record_7 rfl (lv_at hl 2 rfl) ?_
  refine va_get (D := (dC, dI)) (ci := 12) (v := (.int (z 33))) (C := R_Md) (T := F_Md) (N := 45) hx hb hg in_Md hown hK hP 0 rfl rfl 33 (by decide) (hg _ k_1053) (fun _ h9 => h9) rfl d_Md_record_8 ?_
  refine lv_icmp_ge (tgt := 75) hx hb d_Md_record_11 (by decide) (fun hc113 => ?_) (fun hn9 => absurd (by rw [hz]; decide) hn9)
  refine lv_aload_n hx hb d_Md_record_75 rfl (lv_at hl 2 rfl) ?_
  refine lv_iload_n hx hb d_Md_record_76 rfl (lv_at hl 1 rfl) ?_
  refine lv_if_lt (tgt := 94) hx hb d_Md_record_77 (by decide) (fun hc114 => ?_) (fun hn9 => absurd (by decide) hn9)
  refine lv_iconst (v := 0) hx hb d_Md_record_94 (by decide) ?_
  have hPc := hP.sub (ws' := [(mo, .inr (12, mdF r z q cd tm (nI sn) (nI tx)))]) [0] rfl
  have hDc := hD.sub (ws' := [(mo, .inr (12, mdF r z q cd tm (nI sn) (nI tx)))]) [0] (by decide) rfl
  have hFc := va_free (wc := [(mo, .inr (12, mdF r z q cd tm (nI sn) (nI tx)))]) hD hS hA [0] rfl
  refine va_calli (va_runV (C := "DoorServerModel") (As := [.int 0]) (rest := []) ⟨hx, hb, hml, hown, hg⟩ (m_goes0 l dC dI cT s.heap.size mo r z q cd tm sn tx ) (cwV 1 hg (gI (List.forall_mem_append.mpr ⟨List.forall_mem_cons.mpr ⟨k_1165, List.forall_mem_cons.mpr ⟨k_1167, List.forall_mem_cons.mpr ⟨(big_sel (q := y_Md_goes) (n := 45) (by decide +kernel)), List.forall_mem_cons.mpr ⟨k_13, fun _ h => absurd h List.not_mem_nil⟩⟩⟩⟩, List.forall_mem_cons.mpr ⟨k_1168, fun _ h => h⟩⟩)) rfl rfl rfl (by decide +kernel) ⟨Nat.le_of_ble_eq_true rfl, Nat.le_of_ble_eq_true rfl⟩) ⟨fun a U g mk q => by obtain ⟨q0, q1, qP, qK, qD⟩ := q; exact ⟨q0, q1, qP, va_K.moved (u := U) (U := U.calling g mk a) (Vm.Alike.refl U.vm) qK, qD⟩, va_recv (q0 := 0) (ci := 12) hK hP rfl rfl, fun U hU hW => ⟨rfl, by rw [hU], by rw [hU]; exact hPc, va_K.moved hW.alike hK, hDc.weaken (fun _ _ _ _ => trivial)⟩⟩ rfl rfl hl.1 rfl (lv_room (Nat.le_of_ble_eq_true rfl)) d_Md_record_95 ⟨Nat.le_of_ble_eq_true rfl, Nat.le_of_ble_eq_true rfl⟩) hS (fun q _ h => hFc q h) hFc (fun rv9 u t H1 locs ht hvm hw hB hz1 hk1 hS => ?_)
  try dsimp only at hw hB
  obtain ⟨hP1, hK1, hD1⟩ := hB
  rw [ht] at hP1
  obtain ⟨rfl, hw⟩ := hw
  obtain ⟨hP, hD⟩ := va_join (wr := []) (w1 := [(mo, .inr (12, mdF r z q 1 tm (nI sn) (nI tx)))]) hP hD [0] [] rfl rfl (by decide) (by decide) hk1 hFc hP1 hD1
  have hw115 := hw
  clear hPc hDc hFc hz1 hk1 hP1 hK1 hD1
  generalize H1 = H at hP hS ⊢
  have hP : va_P (dC, dI) vcl [(mo, .inr (12, mdF r z q 1 tm (nI sn) (nI tx)))] H := hP
  have hD : va_D A [(mo, .inr (12, mdF r z q 1 tm (nI sn) (nI tx)))] := hD
  refine lv_if_ne (tgt := 103) hx hb d_Md_record_98 (by decide) (fun hn9 => absurd hn9 (by decide)) (fun hc116 => ?_)
  refine lv_lconst (v := 0) hx hb d_Md_record_101 (by decide) ?_
  have hP9 := hP.sub (ws' := [(mo, .inr (12, mdF r z q 1 tm (nI sn) (nI tx)))]) [0] rfl
  have hD9 := hD.sub (ws' := [(mo, .inr (12, mdF r z q 1 tm (nI sn) (nI tx)))]) [0] (by decide) rfl
  exact W.lret (v := 0) hx hb hr (fun t ht hW => ⟨⟨_, (), rfl, trivial, by rw [ht]; exact hP9, va_K.moved hW.alike hK, hD9⟩, hS.F ht⟩) hS.2.2 d_Md_record_102
set_option maxHeartbeats 4000000 in
set_option maxRecDepth 100000 in
/-- spoil: illegal argument -/
theorem b_spoil1 (l : Launch) (dC : Nat → ClassId) (dI : Nat → Nat → Nat) (cT : Nat → ClassId) (sz : Nat) (mo : Nat) (r : Nat → Nat) (z : Nat → Int32) (q : Nat → Int64) (cd : Int32) (tm : Int32) (sn : Nat) (tx : Nat) (x : Int32) (y : Int32) (hbad : x < 0 ∨ 19 < x) : Met l y_Md_spoil (Cond.code y_Md_spoil b_Md_spoil 3 (Option.some Jvm.ClassFile.FieldType.int) :: BIG) ({ frames := 1, cells := 0, slots := 0, locals := 21 }) (va_Pc [.ref mo, .int x, .int y] (fun U => U.heap.size = sz ∧ va_P (dC, dI) vcl [(mo, .inr (12, mdF r z q cd tm (nI 20) (nI tx)))] U.heap ∧ va_K (dC, dI) vcl (tyL cT) U ∧ va_D (fun _ => True) [(mo, .inr (12, mdF r z q cd tm (nI 20) (nI tx)))])) (va_Qi (S := Unit) (fun rv9 u => True) (fun u t => va_P (dC, dI) vcl [(mo, .inr (12, mdF r z q 1 tm (nI 20) (nI tx)))] t.heap ∧ va_K (dC, dI) vcl (tyL cT) t ∧ va_D (va_A [(mo, .inr (12, mdF r z q cd tm (nI 20) (nI tx)))] sz) [(mo, .inr (12, mdF r z q 1 tm (nI 20) (nI tx)))]) (va_A [(mo, .inr (12, mdF r z q cd tm (nI 20) (nI tx)))] sz)) 0 0 (va_A [(mo, .inr (12, mdF r z q cd tm (nI 20) (nI tx)))] sz) := by
  refine Met.ofW (cc := b_Md_spoil) (maxL := 3) (ret := (Option.some Jvm.ClassFile.FieldType.int)) (by decide) rfl ?_
  intro p e s m args below meth c s₁ B hml hv
  obtain ⟨hargs, hsz, hP, hK, hD0⟩ := hv
  have hx := B.exec
  have hb := B.bytes
  have hr := B.returns
  have hts := atoms_spec (ws := (Cond.code y_Md_spoil b_Md_spoil 3 (Option.some Jvm.ClassFile.FieldType.int) :: BIG)) B.pre
  have hg : ∀ w ∈ BIG, w.before _ s = true := fun w h => hts w (List.mem_cons_of_mem _ h)
  have hown : s.vm.findClass "DoorServerModel" = some m.cls := findClass_of_methodNamed B.named
  have hlocks := B.notSynchronized
  subst hsz
  have hD := hD0.self (sz := s.heap.size)
  generalize hAe : va_A [(mo, .inr (12, mdF r z q cd tm (nI 20) (nI tx)))] s.heap.size = A at hD ⊢
  have hA : ∀ q : Nat, s.heap.size ≤ q → A q := fun q h => by rw [← hAe]; exact Or.inr h
  have hS : va_S A s.heap s.heap [] := va_S.rf
  have hl := lv_entry ([.ref mo, .int x, .int y]) (n := 3) (Nat.le_of_ble_eq_true rfl)
  refine W.eq (g2 := entryFrame m (List.toArray [.ref mo, .int x, .int y]) 3) (by rw [hargs]) ?_
  rw [lg_entry_eq]
  generalize (lg_sl ([.ref mo, .int x, .int y]) ++ List.replicate (3 - (lg_sl ([.ref mo, .int x, .int y])).length) Slot.unset).toArray = ls at hl ⊢
  have hl : lv_has ls 3 [(0, .ref mo), (1, .int x), (2, .int y)] := hl
  change W p l e ({ frames := 1, cells := 0, slots := 0, locals := 21 } : Room) s m args below meth c s.heap [] 0 0 _ _
  have hP : va_P (dC, dI) vcl [(mo, .inr (12, mdF r z q cd tm (nI 20) (nI tx)))] s.heap := hP
  refine lv_aload_n hx hb d_Md_spoil_0 rfl (lv_at hl 0 rfl) ?_
  refine lv_iload_n hx hb d_Md_spoil_1 rfl (lv_at hl 1 rfl) ?_
  have K117 : W p l e ({ frames := 1, cells := 0, slots := 0, locals := 21 } : Room) s m args below meth c s.heap [] 0 0 (MQ below (va_Qi (S := Unit) (fun rv9 u => True) (fun u t => va_P (dC, dI) vcl [(mo, .inr (12, mdF r z q 1 tm (nI 20) (nI tx)))] t.heap ∧ va_K (dC, dI) vcl (tyL cT) t ∧ va_D A [(mo, .inr (12, mdF r z q 1 tm (nI 20) (nI tx)))]) A) args s 0 0 A) (F0 m 24 ls [.ref mo]) := by
    refine lv_iconst (v := 0) hx hb d_Md_spoil_24 (by decide) ?_
    have hPc := hP.sub (ws' := [(mo, .inr (12, mdF r z q cd tm (nI 20) (nI tx)))]) [0] rfl
    have hDc := hD.sub (ws' := [(mo, .inr (12, mdF r z q cd tm (nI 20) (nI tx)))]) [0] (by decide) rfl
    have hFc := va_free (wc := [(mo, .inr (12, mdF r z q cd tm (nI 20) (nI tx)))]) hD hS hA [0] rfl
    refine va_calli (va_runV (C := "DoorServerModel") (As := [.int 0]) (rest := []) ⟨hx, hb, hml, hown, hg⟩ (m_goes0 l dC dI cT s.heap.size mo r z q cd tm 20 tx ) (cwV 1 hg (gI (List.forall_mem_append.mpr ⟨List.forall_mem_cons.mpr ⟨k_1165, List.forall_mem_cons.mpr ⟨k_1167, List.forall_mem_cons.mpr ⟨(big_sel (q := y_Md_goes) (n := 45) (by decide +kernel)), List.forall_mem_cons.mpr ⟨k_13, fun _ h => absurd h List.not_mem_nil⟩⟩⟩⟩, List.forall_mem_cons.mpr ⟨k_1168, fun _ h => h⟩⟩)) rfl rfl rfl (by decide +kernel) ⟨Nat.le_of_ble_eq_true rfl, Nat.le_of_ble_eq_true rfl⟩) ⟨fun a U g mk q => by obtain ⟨q0, q1, qP, qK, qD⟩ := q; exact ⟨q0, q1, qP, va_K.moved (u := U) (U := U.calling g mk a) (Vm.Alike.refl U.vm) qK, qD⟩, va_recv (q0 := 0) (ci := 12) hK hP rfl rfl, fun U hU hW => ⟨rfl, by rw [hU], by rw [hU]; exact hPc, va_K.moved hW.alike hK, hDc.weaken (fun _ _ _ _ => trivial)⟩⟩ rfl rfl hl.1 rfl (lv_room (Nat.le_of_ble_eq_true rfl)) d_Md_spoil_25 ⟨Nat.le_of_ble_eq_true rfl, Nat.le_of_ble_eq_true rfl⟩) hS (fun q _ h => hFc q h) hFc (fun rv9 u t H1 locs ht hvm hw hB hz1 hk1 hS => ?_)
    try dsimp only at hw hB
    obtain ⟨hP1, hK1, hD1⟩ := hB
    rw [ht] at hP1
    obtain ⟨rfl, hw⟩ := hw
    obtain ⟨hP, hD⟩ := va_join (wr := []) (w1 := [(mo, .inr (12, mdF r z q 1 tm (nI 20) (nI tx)))]) hP hD [0] [] rfl rfl (by decide) (by decide) hk1 hFc hP1 hD1
    have hw118 := hw
    clear hPc hDc hFc hz1 hk1 hP1 hK1 hD1
    generalize H1 = H at hP hS ⊢
    have hP : va_P (dC, dI) vcl [(mo, .inr (12, mdF r z q 1 tm (nI 20) (nI tx)))] H := hP
    have hD : va_D A [(mo, .inr (12, mdF r z q 1 tm (nI 20) (nI tx)))] := hD
    refine lv_if_ne (tgt := 33) hx hb d_Md_spoil_28 (by decide) (fun hn9 => absurd hn9 (by decide)) (fun hc119 => ?_)
    refine lv_iconst (v := 0) hx hb d_Md_spoil_31 (by decide) ?_
    have hP9 := hP.sub (ws' := [(mo, .inr (12, mdF r z q 1 tm (nI 20) (nI tx)))]) [0] rfl
    have hD9 := hD.sub (ws' := [(mo, .inr (12, mdF r z q 1 tm (nI 20) (nI tx)))]) [0] (by decide) rfl
    exact W.iret (v := 0) hx hb hr (fun t ht hW => ⟨⟨_, (), rfl, trivial, by rw [ht]; exact hP9, va_K.moved hW.alike hK, hD9⟩, hS.F ht⟩) hS.2.2 d_Md_spoil_32
  refine lv_if_lt (tgt := 24) hx hb d_Md_spoil_2 (by decide) (fun hc120 => ?_) (fun hc120 => ?_)
  · exact K117
  · refine lv_iload_n hx hb d_Md_spoil_5 rfl (lv_at hl 1 rfl) ?_
    refine lv_aload_n hx hb d_Md_spoil_6 rfl (lv_at hl 0 rfl) ?_
    refine va_get (D := (dC, dI)) (ci := 12) (v := (.int (nI 20))) (C := R_Md) (T := F_Md) (N := 45) hx hb hg in_Md hown hK hP 0 rfl rfl 8 (by decide) (hg _ k_1028) (fun _ h9 => h9) rfl d_Md_spoil_7 ?_
    refine lv_icmp_ge (tgt := 24) hx hb d_Md_spoil_10 (by decide) (fun hc121 => ?_) (fun hn9 => absurd ((lt_le1 (a := 19) (b := nI 20) (by decide)).mp (hbad.resolve_left hc120)) hn9)
    exact K117
set_option maxHeartbeats 4000000 in
set_option maxRecDepth 100000 in
/-- spoil: illegal argument -/
theorem b_spoil2 (l : Launch) (dC : Nat → ClassId) (dI : Nat → Nat → Nat) (cT : Nat → ClassId) (sz : Nat) (mo : Nat) (r : Nat → Nat) (z : Nat → Int32) (q : Nat → Int64) (cd : Int32) (tm : Int32) (sn : Nat) (tx : Nat) (x : Int32) (y : Int32) (hx1 : ¬ x < 0) (hx2 : ¬ 19 < x) (hbad : y < 0 ∨ 255 < y) : Met l y_Md_spoil (Cond.code y_Md_spoil b_Md_spoil 3 (Option.some Jvm.ClassFile.FieldType.int) :: BIG) ({ frames := 1, cells := 0, slots := 0, locals := 21 }) (va_Pc [.ref mo, .int x, .int y] (fun U => U.heap.size = sz ∧ va_P (dC, dI) vcl [(mo, .inr (12, mdF r z q cd tm (nI 20) (nI tx)))] U.heap ∧ va_K (dC, dI) vcl (tyL cT) U ∧ va_D (fun _ => True) [(mo, .inr (12, mdF r z q cd tm (nI 20) (nI tx)))])) (va_Qi (S := Unit) (fun rv9 u => True) (fun u t => va_P (dC, dI) vcl [(mo, .inr (12, mdF r z q 1 tm (nI 20) (nI tx)))] t.heap ∧ va_K (dC, dI) vcl (tyL cT) t ∧ va_D (va_A [(mo, .inr (12, mdF r z q cd tm (nI 20) (nI tx)))] sz) [(mo, .inr (12, mdF r z q 1 tm (nI 20) (nI tx)))]) (va_A [(mo, .inr (12, mdF r z q cd tm (nI 20) (nI tx)))] sz)) 0 0 (va_A [(mo, .inr (12, mdF r z q cd tm (nI 20) (nI tx)))] sz) := by
  refine Met.ofW (cc := b_Md_spoil) (maxL := 3) (ret := (Option.some Jvm.ClassFile.FieldType.int)) (by decide) rfl ?_
  intro p e s m args below meth c s₁ B hml hv
  obtain ⟨hargs, hsz, hP, hK, hD0⟩ := hv
  have hx := B.exec
  have hb := B.bytes
  have hr := B.returns
  have hts := atoms_spec (ws := (Cond.code y_Md_spoil b_Md_spoil 3 (Option.some Jvm.ClassFile.FieldType.int) :: BIG)) B.pre
  have hg : ∀ w ∈ BIG, w.before _ s = true := fun w h => hts w (List.mem_cons_of_mem _ h)
  have hown : s.vm.findClass "DoorServerModel" = some m.cls := findClass_of_methodNamed B.named
  have hlocks := B.notSynchronized
  subst hsz
  have hD := hD0.self (sz := s.heap.size)
  generalize hAe : va_A [(mo, .inr (12, mdF r z q cd tm (nI 20) (nI tx)))] s.heap.size = A at hD ⊢
  have hA : ∀ q : Nat, s.heap.size ≤ q → A q := fun q h => by rw [← hAe]; exact Or.inr h
  have hS : va_S A s.heap s.heap [] := va_S.rf
  have hl := lv_entry ([.ref mo, .int x, .int y]) (n := 3) (Nat.le_of_ble_eq_true rfl)
  refine W.eq (g2 := entryFrame m (List.toArray [.ref mo, .int x, .int y]) 3) (by rw [hargs]) ?_
  rw [lg_entry_eq]
  generalize (lg_sl ([.ref mo, .int x, .int y]) ++ List.replicate (3 - (lg_sl ([.ref mo, .int x, .int y])).length) Slot.unset).toArray = ls at hl ⊢
  have hl : lv_has ls 3 [(0, .ref mo), (1, .int x), (2, .int y)] := hl
  change W p l e ({ frames := 1, cells := 0, slots := 0, locals := 21 } : Room) s m args below meth c s.heap [] 0 0 _ _
  have hP : va_P (dC, dI) vcl [(mo, .inr (12, mdF r z q cd tm (nI 20) (nI tx)))] s.heap := hP
  refine lv_aload_n hx hb d_Md_spoil_0 rfl (lv_at hl 0 rfl) ?_
  refine lv_iload_n hx hb d_Md_spoil_1 rfl (lv_at hl 1 rfl) ?_
  refine lv_if_lt (tgt := 24) hx hb d_Md_spoil_2 (by decide) (fun hn9 => absurd hn9 (hx1)) (fun hc122 => ?_)
  refine lv_iload_n hx hb d_Md_spoil_5 rfl (lv_at hl 1 rfl) ?_
  refine lv_aload_n hx hb d_Md_spoil_6 rfl (lv_at hl 0 rfl) ?_
  refine va_get (D := (dC, dI)) (ci := 12) (v := (.int (nI 20))) (C := R_Md) (T := F_Md) (N := 45) hx hb hg in_Md hown hK hP 0 rfl rfl 8 (by decide) (hg _ k_1028) (fun _ h9 => h9) rfl d_Md_spoil_7 ?_
  refine lv_icmp_ge (tgt := 24) hx hb d_Md_spoil_10 (by decide) (fun hn9 => absurd hn9 (fun h9 => hx2 ((lt_le1 (a := 19) (b := nI 20) (by decide)).mpr h9))) (fun hc123 => ?_)
  refine lv_iload_n hx hb d_Md_spoil_13 rfl (lv_at hl 2 rfl) ?_
  have hPc := hP.sub (ws' := []) [] rfl
  have hDc := hD.sub (ws' := []) [] (by decide) rfl
  have hFc := va_free (wc := []) hD hS hA [] rfl
  refine va_calli (va_runS (As := [.int y]) (rest := [.ref mo]) ⟨hx, hb, hml, hown, hg⟩ (m_byte0 l dC dI cT s.heap.size y (hbad)) (va_cwS 1 hg (gI (List.forall_mem_append.mpr ⟨List.forall_mem_cons.mpr ⟨k_1181, List.forall_mem_cons.mpr ⟨k_1182, List.forall_mem_cons.mpr ⟨k_13, fun _ h => absurd h List.not_mem_nil⟩⟩⟩, List.forall_mem_cons.mpr ⟨k_1183, fun _ h => h⟩⟩)) rfl rfl rfl (by decide +kernel) ⟨Nat.le_of_ble_eq_true rfl, Nat.le_of_ble_eq_true rfl⟩) ⟨fun a U g mk q => by obtain ⟨q0, q1, qP, qK, qD⟩ := q; exact ⟨q0, q1, qP, va_K.moved (u := U) (U := U.calling g mk a) (Vm.Alike.refl U.vm) qK, qD⟩, fun U hU hW => ⟨rfl, by rw [hU], by rw [hU]; exact hPc, va_K.moved hW.alike hK, hDc.weaken (fun _ _ _ _ => trivial)⟩⟩ rfl rfl hl.1 rfl (lv_room (Nat.le_of_ble_eq_true rfl)) d_Md_spoil_14 ⟨Nat.le_of_ble_eq_true rfl, Nat.le_of_ble_eq_true rfl⟩) hS (fun q _ h => hFc q h) hFc (fun rv9 u t H1 locs ht hvm hw hB hz1 hk1 hS => ?_)
  try dsimp only at hw hB
  obtain ⟨hP1, hK1, hD1⟩ := hB
  rw [ht] at hP1
  obtain ⟨rfl, hw⟩ := hw
  obtain ⟨hP, hD⟩ := va_join (wr := [(mo, .inr (12, mdF r z q cd tm (nI 20) (nI tx)))]) (w1 := []) hP hD [] [0] rfl rfl (by decide) (by decide) hk1 hFc hP1 hD1
  have hw124 := hw
  clear hPc hDc hFc hz1 hk1 hP1 hK1 hD1
  generalize H1 = H at hP hS ⊢
  have hP : va_P (dC, dI) vcl [(mo, .inr (12, mdF r z q cd tm (nI 20) (nI tx)))] H := hP
  have hD : va_D A [(mo, .inr (12, mdF r z q cd tm (nI 20) (nI tx)))] := hD
  refine lv_if_eq (tgt := 24) hx hb d_Md_spoil_17 (by decide) (fun hc125 => ?_) (fun hn9 => absurd (by decide) hn9)
  refine lv_iconst (v := 0) hx hb d_Md_spoil_24 (by decide) ?_
  have hPc := hP.sub (ws' := [(mo, .inr (12, mdF r z q cd tm (nI 20) (nI tx)))]) [0] rfl
  have hDc := hD.sub (ws' := [(mo, .inr (12, mdF r z q cd tm (nI 20) (nI tx)))]) [0] (by decide) rfl
  have hFc := va_free (wc := [(mo, .inr (12, mdF r z q cd tm (nI 20) (nI tx)))]) hD hS hA [0] rfl
  refine va_calli (va_runV (C := "DoorServerModel") (As := [.int 0]) (rest := []) ⟨hx, hb, hml, hown, hg⟩ (m_goes0 l dC dI cT H.size mo r z q cd tm 20 tx ) (cwV 1 hg (gI (List.forall_mem_append.mpr ⟨List.forall_mem_cons.mpr ⟨k_1165, List.forall_mem_cons.mpr ⟨k_1167, List.forall_mem_cons.mpr ⟨(big_sel (q := y_Md_goes) (n := 45) (by decide +kernel)), List.forall_mem_cons.mpr ⟨k_13, fun _ h => absurd h List.not_mem_nil⟩⟩⟩⟩, List.forall_mem_cons.mpr ⟨k_1168, fun _ h => h⟩⟩)) rfl rfl rfl (by decide +kernel) ⟨Nat.le_of_ble_eq_true rfl, Nat.le_of_ble_eq_true rfl⟩) ⟨fun a U g mk q => by obtain ⟨q0, q1, qP, qK, qD⟩ := q; exact ⟨q0, q1, qP, va_K.moved (u := U) (U := U.calling g mk a) (Vm.Alike.refl U.vm) qK, qD⟩, va_recv (q0 := 0) (ci := 12) hK hP rfl rfl, fun U hU hW => ⟨rfl, by rw [hU], by rw [hU]; exact hPc, va_K.moved hW.alike hK, hDc.weaken (fun _ _ _ _ => trivial)⟩⟩ rfl rfl hl.1 rfl (lv_room (Nat.le_of_ble_eq_true rfl)) d_Md_spoil_25 ⟨Nat.le_of_ble_eq_true rfl, Nat.le_of_ble_eq_true rfl⟩) hS (fun q _ h => hFc q h) hFc (fun rv9 u t H1 locs ht hvm hw hB hz1 hk1 hS => ?_)
  try dsimp only at hw hB
  obtain ⟨hP1, hK1, hD1⟩ := hB
  rw [ht] at hP1
  obtain ⟨rfl, hw⟩ := hw
  obtain ⟨hP, hD⟩ := va_join (wr := []) (w1 := [(mo, .inr (12, mdF r z q 1 tm (nI 20) (nI tx)))]) hP hD [0] [] rfl rfl (by decide) (by decide) hk1 hFc hP1 hD1
  have hw126 := hw
  clear hPc hDc hFc hz1 hk1 hP1 hK1 hD1
  generalize H1 = H at hP hS ⊢
  have hP : va_P (dC, dI) vcl [(mo, .inr (12, mdF r z q 1 tm (nI 20) (nI tx)))] H := hP
  have hD : va_D A [(mo, .inr (12, mdF r z q 1 tm (nI 20) (nI tx)))] := hD
  refine lv_if_ne (tgt := 33) hx hb d_Md_spoil_28 (by decide) (fun hn9 => absurd hn9 (by decide)) (fun hc127 => ?_)
  refine lv_iconst (v := 0) hx hb d_Md_spoil_31 (by decide) ?_
  have hP9 := hP.sub (ws' := [(mo, .inr (12, mdF r z q 1 tm (nI 20) (nI tx)))]) [0] rfl
  have hD9 := hD.sub (ws' := [(mo, .inr (12, mdF r z q 1 tm (nI 20) (nI tx)))]) [0] (by decide) rfl
  exact W.iret (v := 0) hx hb hr (fun t ht hW => ⟨⟨_, (), rfl, trivial, by rw [ht]; exact hP9, va_K.moved hW.alike hK, hD9⟩, hS.F ht⟩) hS.2.2 d_Md_spoil_32
