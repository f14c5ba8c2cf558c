theorem d_By_standsAt_0 : decode b_By_standsAt 0 = .ok (.iconst 0, 1) := by decide +kernel
theorem d_By_standsAt_1 : decode b_By_standsAt 1 = .ok (.istore 4, 2) := by decide +kernel
theorem d_By_standsAt_3 : decode b_By_standsAt 3 = .ok (.iload 4, 2) := by decide +kernel
theorem d_By_standsAt_5 : decode b_By_standsAt 5 = .ok (.iload_n 3, 1) := by decide +kernel
theorem d_By_standsAt_6 : decode b_By_standsAt 6 = .ok (.if_icmp .ge 27, 3) := by decide +kernel
theorem d_By_standsAt_9 : decode b_By_standsAt 9 = .ok (.aload_n 0, 1) := by decide +kernel
theorem d_By_standsAt_10 : decode b_By_standsAt 10 = .ok (.iload 4, 2) := by decide +kernel
theorem d_By_standsAt_12 : decode b_By_standsAt 12 = .ok (.iaload, 1) := by decide +kernel
theorem d_By_standsAt_13 : decode b_By_standsAt 13 = .ok (.aload_n 1, 1) := by decide +kernel
theorem d_By_standsAt_14 : decode b_By_standsAt 14 = .ok (.getfield 9, 3) := by decide +kernel
theorem d_By_standsAt_17 : decode b_By_standsAt 17 = .ok (.iload_n 2, 1) := by decide +kernel
theorem d_By_standsAt_18 : decode b_By_standsAt 18 = .ok (.iload 4, 2) := by decide +kernel
theorem d_By_standsAt_20 : decode b_By_standsAt 20 = .ok (.iadd, 1) := by decide +kernel
theorem d_By_standsAt_21 : decode b_By_standsAt 21 = .ok (.iaload, 1) := by decide +kernel
theorem d_By_standsAt_22 : decode b_By_standsAt 22 = .ok (.if_icmp .eq 5, 3) := by decide +kernel
theorem d_By_standsAt_27 : decode b_By_standsAt 27 = .ok (.iinc 4 1, 3) := by decide +kernel
theorem d_By_standsAt_30 : decode b_By_standsAt 30 = .ok (.goto (-27), 3) := by decide +kernel
theorem d_By_standsAt_33 : decode b_By_standsAt 33 = .ok (.iconst 1, 1) := by decide +kernel
theorem d_By_standsAt_34 : decode b_By_standsAt 34 = .ok (.ireturn, 1) := by decide +kernel
theorem d_By_standsAt_25 : decode b_By_standsAt 25 = .ok (.iconst 0, 1) := by decide +kernel
theorem d_By_standsAt_26 : decode b_By_standsAt 26 = .ok (.ireturn, 1) := by decide +kernel
theorem d_By_appendMasked_0 : decode b_By_appendMasked 0 = .ok (.iconst 0, 1) := by decide +kernel
theorem d_By_appendMasked_1 : decode b_By_appendMasked 1 = .ok (.istore 4, 2) := by decide +kernel
theorem d_By_appendMasked_3 : decode b_By_appendMasked 3 = .ok (.iload 4, 2) := by decide +kernel
theorem d_By_appendMasked_5 : decode b_By_appendMasked 5 = .ok (.bipush 16, 2) := by decide +kernel
theorem d_By_appendMasked_7 : decode b_By_appendMasked 7 = .ok (.if_icmp .ge 24, 3) := by decide +kernel
theorem d_By_appendMasked_10 : decode b_By_appendMasked 10 = .ok (.aload_n 0, 1) := by decide +kernel
theorem d_By_appendMasked_11 : decode b_By_appendMasked 11 = .ok (.aload_n 1, 1) := by decide +kernel
theorem d_By_appendMasked_12 : decode b_By_appendMasked 12 = .ok (.iload_n 2, 1) := by decide +kernel
theorem d_By_appendMasked_13 : decode b_By_appendMasked 13 = .ok (.iload 4, 2) := by decide +kernel
theorem d_By_appendMasked_15 : decode b_By_appendMasked 15 = .ok (.iadd, 1) := by decide +kernel
theorem d_By_appendMasked_16 : decode b_By_appendMasked 16 = .ok (.iaload, 1) := by decide +kernel
theorem d_By_appendMasked_17 : decode b_By_appendMasked 17 = .ok (.aload_n 3, 1) := by decide +kernel
theorem d_By_appendMasked_18 : decode b_By_appendMasked 18 = .ok (.iload 4, 2) := by decide +kernel
theorem d_By_appendMasked_20 : decode b_By_appendMasked 20 = .ok (.iaload, 1) := by decide +kernel
theorem d_By_appendMasked_21 : decode b_By_appendMasked 21 = .ok (.ixor, 1) := by decide +kernel
theorem d_By_appendMasked_22 : decode b_By_appendMasked 22 = .ok (.invokevirtual 19, 3) := by decide +kernel
theorem d_By_appendMasked_25 : decode b_By_appendMasked 25 = .ok (.iinc 4 1, 3) := by decide +kernel
theorem d_By_appendMasked_28 : decode b_By_appendMasked 28 = .ok (.goto (-25), 3) := by decide +kernel
theorem d_By_appendMasked_31 : decode b_By_appendMasked 31 = .ok (.return_, 1) := by decide +kernel
theorem d_By_dropZerosBehind_0 : decode b_By_dropZerosBehind 0 = .ok (.aload_n 0, 1) := by decide +kernel
theorem d_By_dropZerosBehind_1 : decode b_By_dropZerosBehind 1 = .ok (.getfield 15, 3) := by decide +kernel
theorem d_By_dropZerosBehind_4 : decode b_By_dropZerosBehind 4 = .ok (.ifCond .le 30, 3) := by decide +kernel
theorem d_By_dropZerosBehind_7 : decode b_By_dropZerosBehind 7 = .ok (.aload_n 0, 1) := by decide +kernel
theorem d_By_dropZerosBehind_8 : decode b_By_dropZerosBehind 8 = .ok (.getfield 9, 3) := by decide +kernel
theorem d_By_dropZerosBehind_11 : decode b_By_dropZerosBehind 11 = .ok (.aload_n 0, 1) := by decide +kernel
theorem d_By_dropZerosBehind_12 : decode b_By_dropZerosBehind 12 = .ok (.getfield 15, 3) := by decide +kernel
theorem d_By_dropZerosBehind_15 : decode b_By_dropZerosBehind 15 = .ok (.iconst 1, 1) := by decide +kernel
theorem d_By_dropZerosBehind_16 : decode b_By_dropZerosBehind 16 = .ok (.isub, 1) := by decide +kernel
theorem d_By_dropZerosBehind_17 : decode b_By_dropZerosBehind 17 = .ok (.iaload, 1) := by decide +kernel
theorem d_By_dropZerosBehind_18 : decode b_By_dropZerosBehind 18 = .ok (.ifCond .ne 16, 3) := by decide +kernel
theorem d_By_dropZerosBehind_21 : decode b_By_dropZerosBehind 21 = .ok (.aload_n 0, 1) := by decide +kernel
theorem d_By_dropZerosBehind_22 : decode b_By_dropZerosBehind 22 = .ok (.dup, 1) := by decide +kernel
theorem d_By_dropZerosBehind_23 : decode b_By_dropZerosBehind 23 = .ok (.getfield 15, 3) := by decide +kernel
theorem d_By_dropZerosBehind_26 : decode b_By_dropZerosBehind 26 = .ok (.iconst 1, 1) := by decide +kernel
theorem d_By_dropZerosBehind_27 : decode b_By_dropZerosBehind 27 = .ok (.isub, 1) := by decide +kernel
theorem d_By_dropZerosBehind_28 : decode b_By_dropZerosBehind 28 = .ok (.putfield 15, 3) := by decide +kernel
theorem d_By_dropZerosBehind_31 : decode b_By_dropZerosBehind 31 = .ok (.goto (-31), 3) := by decide +kernel
theorem d_By_dropZerosBehind_34 : decode b_By_dropZerosBehind 34 = .ok (.return_, 1) := by decide +kernel
theorem d_By_isAlike_0 : decode b_By_isAlike 0 = .ok (.aload_n 0, 1) := by decide +kernel
theorem d_By_isAlike_1 : decode b_By_isAlike 1 = .ok (.getfield 15, 3) := by decide +kernel
theorem d_By_isAlike_4 : decode b_By_isAlike 4 = .ok (.aload_n 1, 1) := by decide +kernel
theorem d_By_isAlike_5 : decode b_By_isAlike 5 = .ok (.getfield 15, 3) := by decide +kernel
theorem d_By_isAlike_8 : decode b_By_isAlike 8 = .ok (.if_icmp .ne 23, 3) := by decide +kernel
theorem d_By_isAlike_31 : decode b_By_isAlike 31 = .ok (.iconst 0, 1) := by decide +kernel
theorem d_By_isAlike_32 : decode b_By_isAlike 32 = .ok (.ireturn, 1) := by decide +kernel
theorem d_By_isAlike_11 : decode b_By_isAlike 11 = .ok (.aload_n 0, 1) := by decide +kernel
theorem d_By_isAlike_12 : decode b_By_isAlike 12 = .ok (.getfield 9, 3) := by decide +kernel
theorem d_By_isAlike_15 : decode b_By_isAlike 15 = .ok (.aload_n 1, 1) := by decide +kernel
theorem d_By_isAlike_16 : decode b_By_isAlike 16 = .ok (.iconst 0, 1) := by decide +kernel
theorem d_By_isAlike_17 : decode b_By_isAlike 17 = .ok (.aload_n 0, 1) := by decide +kernel
theorem d_By_isAlike_18 : decode b_By_isAlike 18 = .ok (.getfield 15, 3) := by decide +kernel
theorem d_By_isAlike_21 : decode b_By_isAlike 21 = .ok (.invokestatic 39, 3) := by decide +kernel
theorem d_By_isAlike_24 : decode b_By_isAlike 24 = .ok (.ifCond .eq 7, 3) := by decide +kernel
theorem d_By_isAlike_27 : decode b_By_isAlike 27 = .ok (.iconst 1, 1) := by decide +kernel
theorem d_By_isAlike_28 : decode b_By_isAlike 28 = .ok (.goto 4, 3) := by decide +kernel
theorem d_Rq_talkNumber_0 : decode b_Rq_talkNumber 0 = .ok (.aload_n 0, 1) := by decide +kernel
theorem d_Rq_talkNumber_1 : decode b_Rq_talkNumber 1 = .ok (.bipush 79, 2) := by decide +kernel
theorem d_Rq_talkNumber_3 : decode b_Rq_talkNumber 3 = .ok (.iconst 1, 1) := by decide +kernel
theorem d_Rq_talkNumber_4 : decode b_Rq_talkNumber 4 = .ok (.invokevirtual 53, 3) := by decide +kernel
theorem d_Rq_talkNumber_7 : decode b_Rq_talkNumber 7 = .ok (.ireturn, 1) := by decide +kernel
theorem d_Rq_talkKind_0 : decode b_Rq_talkKind 0 = .ok (.aload_n 0, 1) := by decide +kernel
theorem d_Rq_talkKind_1 : decode b_Rq_talkKind 1 = .ok (.bipush 79, 2) := by decide +kernel
theorem d_Rq_talkKind_3 : decode b_Rq_talkKind 3 = .ok (.invokevirtual 49, 3) := by decide +kernel
theorem d_Rq_talkKind_6 : decode b_Rq_talkKind 6 = .ok (.istore_n 1, 1) := by decide +kernel
theorem d_Rq_talkKind_7 : decode b_Rq_talkKind 7 = .ok (.aload_n 0, 1) := by decide +kernel
theorem d_Rq_talkKind_8 : decode b_Rq_talkKind 8 = .ok (.bipush 79, 2) := by decide +kernel
theorem d_Rq_talkKind_10 : decode b_Rq_talkKind 10 = .ok (.iconst 2, 1) := by decide +kernel
theorem d_Rq_talkKind_11 : decode b_Rq_talkKind 11 = .ok (.invokevirtual 53, 3) := by decide +kernel
theorem d_Rq_talkKind_14 : decode b_Rq_talkKind 14 = .ok (.sipush 256, 3) := by decide +kernel
theorem d_Rq_talkKind_17 : decode b_Rq_talkKind 17 = .ok (.imul, 1) := by decide +kernel
theorem d_Rq_talkKind_18 : decode b_Rq_talkKind 18 = .ok (.aload_n 0, 1) := by decide +kernel
theorem d_Rq_talkKind_19 : decode b_Rq_talkKind 19 = .ok (.bipush 79, 2) := by decide +kernel
theorem d_Rq_talkKind_21 : decode b_Rq_talkKind 21 = .ok (.iconst 3, 1) := by decide +kernel
theorem d_Rq_talkKind_22 : decode b_Rq_talkKind 22 = .ok (.invokevirtual 53, 3) := by decide +kernel
theorem d_Rq_talkKind_25 : decode b_Rq_talkKind 25 = .ok (.iadd, 1) := by decide +kernel
theorem d_Rq_talkKind_26 : decode b_Rq_talkKind 26 = .ok (.iload_n 1, 1) := by decide +kernel
theorem d_Rq_talkKind_27 : decode b_Rq_talkKind 27 = .ok (.if_icmp .ne 7, 3) := by decide +kernel
theorem d_Rq_talkKind_34 : decode b_Rq_talkKind 34 = .ok (.iconst 0, 1) := by decide +kernel
theorem d_Rq_talkKind_35 : decode b_Rq_talkKind 35 = .ok (.istore_n 2, 1) := by decide +kernel
theorem d_Rq_talkKind_36 : decode b_Rq_talkKind 36 = .ok (.iload_n 1, 1) := by decide +kernel
theorem d_Rq_talkKind_37 : decode b_Rq_talkKind 37 = .ok (.iconst 5, 1) := by decide +kernel
theorem d_Rq_talkKind_38 : decode b_Rq_talkKind 38 = .ok (.if_icmp .lt 28, 3) := by decide +kernel
theorem d_Rq_talkKind_66 : decode b_Rq_talkKind 66 = .ok (.iconst (-1), 1) := by decide +kernel
theorem d_Rq_talkKind_67 : decode b_Rq_talkKind 67 = .ok (.ireturn, 1) := by decide +kernel
theorem d_Rq_talkKind_41 : decode b_Rq_talkKind 41 = .ok (.iload_n 2, 1) := by decide +kernel
theorem d_Rq_talkKind_42 : decode b_Rq_talkKind 42 = .ok (.ifCond .eq 24, 3) := by decide +kernel
theorem d_Rq_talkKind_30 : decode b_Rq_talkKind 30 = .ok (.iconst 1, 1) := by decide +kernel
theorem d_Rq_talkKind_31 : decode b_Rq_talkKind 31 = .ok (.goto 4, 3) := by decide +kernel
theorem d_Rq_talkKind_45 : decode b_Rq_talkKind 45 = .ok (.aload_n 0, 1) := by decide +kernel
theorem d_Rq_talkKind_46 : decode b_Rq_talkKind 46 = .ok (.bipush 79, 2) := by decide +kernel
theorem d_Rq_talkKind_48 : decode b_Rq_talkKind 48 = .ok (.iconst 0, 1) := by decide +kernel
theorem d_Rq_talkKind_49 : decode b_Rq_talkKind 49 = .ok (.invokevirtual 53, 3) := by decide +kernel
theorem d_Rq_talkKind_52 : decode b_Rq_talkKind 52 = .ok (.iconst 2, 1) := by decide +kernel
theorem d_Rq_talkKind_53 : decode b_Rq_talkKind 53 = .ok (.if_icmp .ne 13, 3) := by decide +kernel
theorem d_Rq_talkKind_56 : decode b_Rq_talkKind 56 = .ok (.aload_n 0, 1) := by decide +kernel
theorem d_Rq_talkKind_57 : decode b_Rq_talkKind 57 = .ok (.bipush 79, 2) := by decide +kernel
theorem d_Rq_talkKind_59 : decode b_Rq_talkKind 59 = .ok (.iconst 4, 1) := by decide +kernel
theorem d_Rq_talkKind_60 : decode b_Rq_talkKind 60 = .ok (.invokevirtual 53, 3) := by decide +kernel
theorem d_Rq_talkKind_63 : decode b_Rq_talkKind 63 = .ok (.goto 4, 3) := by decide +kernel
theorem d_Rq_namedUser_0 : decode b_Rq_namedUser 0 = .ok (.aload_n 0, 1) := by decide +kernel
theorem d_Rq_namedUser_1 : decode b_Rq_namedUser 1 = .ok (.iconst 1, 1) := by decide +kernel
theorem d_Rq_namedUser_2 : decode b_Rq_namedUser 2 = .ok (.invokevirtual 46, 3) := by decide +kernel
theorem d_Rq_namedUser_5 : decode b_Rq_namedUser 5 = .ok (.ifCond .eq 23, 3) := by decide +kernel
theorem d_Rq_namedUser_28 : decode b_Rq_namedUser 28 = .ok (.iconst (-1), 1) := by decide +kernel
theorem d_Rq_namedUser_29 : decode b_Rq_namedUser 29 = .ok (.ireturn, 1) := by decide +kernel
theorem d_Rq_namedUser_8 : decode b_Rq_namedUser 8 = .ok (.aload_n 0, 1) := by decide +kernel
theorem d_Rq_namedUser_9 : decode b_Rq_namedUser 9 = .ok (.iconst 1, 1) := by decide +kernel
theorem d_Rq_namedUser_10 : decode b_Rq_namedUser 10 = .ok (.invokevirtual 49, 3) := by decide +kernel
theorem d_Rq_namedUser_13 : decode b_Rq_namedUser 13 = .ok (.iconst 3, 1) := by decide +kernel
theorem d_Rq_namedUser_14 : decode b_Rq_namedUser 14 = .ok (.if_icmp .ne 14, 3) := by decide +kernel
theorem d_Rq_namedUser_17 : decode b_Rq_namedUser 17 = .ok (.aload_n 0, 1) := by decide +kernel
theorem d_Rq_namedUser_18 : decode b_Rq_namedUser 18 = .ok (.iconst 1, 1) := by decide +kernel
theorem d_Rq_namedUser_19 : decode b_Rq_namedUser 19 = .ok (.iconst 0, 1) := by decide +kernel
theorem d_Rq_namedUser_20 : decode b_Rq_namedUser 20 = .ok (.invokevirtual 53, 3) := by decide +kernel
theorem d_Rq_namedUser_23 : decode b_Rq_namedUser 23 = .ok (.bipush 117, 2) := by decide +kernel
theorem d_Rq_namedUser_25 : decode b_Rq_namedUser 25 = .ok (.if_icmp .eq 5, 3) := by decide +kernel
theorem d_Rq_namedUser_30 : decode b_Rq_namedUser 30 = .ok (.aload_n 0, 1) := by decide +kernel
theorem d_Rq_namedUser_31 : decode b_Rq_namedUser 31 = .ok (.iconst 1, 1) := by decide +kernel
theorem d_Rq_namedUser_32 : decode b_Rq_namedUser 32 = .ok (.iconst 1, 1) := by decide +kernel
theorem d_Rq_namedUser_33 : decode b_Rq_namedUser 33 = .ok (.invokevirtual 53, 3) := by decide +kernel
theorem d_Rq_namedUser_36 : decode b_Rq_namedUser 36 = .ok (.bipush 48, 2) := by decide +kernel
theorem d_Rq_namedUser_38 : decode b_Rq_namedUser 38 = .ok (.isub, 1) := by decide +kernel
theorem d_Rq_namedUser_39 : decode b_Rq_namedUser 39 = .ok (.istore_n 1, 1) := by decide +kernel
theorem d_Rq_namedUser_40 : decode b_Rq_namedUser 40 = .ok (.aload_n 0, 1) := by decide +kernel
theorem d_Rq_namedUser_41 : decode b_Rq_namedUser 41 = .ok (.iconst 1, 1) := by decide +kernel
theorem d_Rq_namedUser_42 : decode b_Rq_namedUser 42 = .ok (.iconst 2, 1) := by decide +kernel
theorem d_Rq_namedUser_43 : decode b_Rq_namedUser 43 = .ok (.invokevirtual 53, 3) := by decide +kernel
theorem d_Rq_namedUser_46 : decode b_Rq_namedUser 46 = .ok (.bipush 48, 2) := by decide +kernel
theorem d_Rq_namedUser_48 : decode b_Rq_namedUser 48 = .ok (.isub, 1) := by decide +kernel
theorem d_Rq_namedUser_49 : decode b_Rq_namedUser 49 = .ok (.istore_n 2, 1) := by decide +kernel
theorem d_Rq_namedUser_50 : decode b_Rq_namedUser 50 = .ok (.iload_n 1, 1) := by decide +kernel
theorem d_Rq_namedUser_51 : decode b_Rq_namedUser 51 = .ok (.ifCond .lt 30, 3) := by decide +kernel
theorem d_Rq_namedUser_81 : decode b_Rq_namedUser 81 = .ok (.iconst (-1), 1) := by decide +kernel
theorem d_Rq_namedUser_82 : decode b_Rq_namedUser 82 = .ok (.ireturn, 1) := by decide +kernel
theorem d_Rq_namedUser_54 : decode b_Rq_namedUser 54 = .ok (.iload_n 1, 1) := by decide +kernel
theorem d_Rq_namedUser_55 : decode b_Rq_namedUser 55 = .ok (.bipush 9, 2) := by decide +kernel
theorem d_Rq_namedUser_57 : decode b_Rq_namedUser 57 = .ok (.if_icmp .gt 24, 3) := by decide +kernel
theorem d_Rq_namedUser_60 : decode b_Rq_namedUser 60 = .ok (.iload_n 2, 1) := by decide +kernel
theorem d_Rq_namedUser_61 : decode b_Rq_namedUser 61 = .ok (.ifCond .lt 20, 3) := by decide +kernel
theorem d_Rq_namedUser_64 : decode b_Rq_namedUser 64 = .ok (.iload_n 2, 1) := by decide +kernel
theorem d_Rq_namedUser_65 : decode b_Rq_namedUser 65 = .ok (.bipush 9, 2) := by decide +kernel
theorem d_Rq_namedUser_67 : decode b_Rq_namedUser 67 = .ok (.if_icmp .gt 14, 3) := by decide +kernel
theorem d_Rq_namedUser_70 : decode b_Rq_namedUser 70 = .ok (.bipush 10, 2) := by decide +kernel
theorem d_Rq_namedUser_72 : decode b_Rq_namedUser 72 = .ok (.iload_n 1, 1) := by decide +kernel
theorem d_Rq_namedUser_73 : decode b_Rq_namedUser 73 = .ok (.imul, 1) := by decide +kernel
theorem d_Rq_namedUser_74 : decode b_Rq_namedUser 74 = .ok (.iload_n 2, 1) := by decide +kernel
theorem d_Rq_namedUser_75 : decode b_Rq_namedUser 75 = .ok (.iadd, 1) := by decide +kernel
theorem d_Rq_namedUser_76 : decode b_Rq_namedUser 76 = .ok (.bipush 32, 2) := by decide +kernel
theorem d_Rq_namedUser_78 : decode b_Rq_namedUser 78 = .ok (.if_icmp .lt 5, 3) := by decide +kernel
theorem d_Rq_namedUser_83 : decode b_Rq_namedUser 83 = .ok (.bipush 10, 2) := by decide +kernel
theorem d_Rq_namedUser_85 : decode b_Rq_namedUser 85 = .ok (.iload_n 1, 1) := by decide +kernel
theorem d_Rq_namedUser_86 : decode b_Rq_namedUser 86 = .ok (.imul, 1) := by decide +kernel
theorem d_Rq_namedUser_87 : decode b_Rq_namedUser 87 = .ok (.iload_n 2, 1) := by decide +kernel
theorem d_Rq_namedUser_88 : decode b_Rq_namedUser 88 = .ok (.iadd, 1) := by decide +kernel
theorem d_Rq_namedUser_89 : decode b_Rq_namedUser 89 = .ok (.ireturn, 1) := by decide +kernel
set_option maxHeartbeats 4000000 in
set_option maxRecDepth 100000 in
/-- standsAt -/
theorem c_stands_By (l : Launch) (dC : Nat → ClassId) (dI : Nat → Nat → Nat) (cT : Nat → ClassId) (sz : Nat) (q : Nat) (nq : Nat) (fq : Nat → Int32) (h : Nat) (r : Nat) (n : Nat) (len : Nat) (f : Nat → Int32) (at_ : Nat) (k : Nat) (hq : k ≤ nq) (hnq : nq < 2 ^ 31) (hr : at_ + k ≤ n) (hn : n < 2 ^ 31) : Met l y_By_standsAt (Cond.code y_By_standsAt b_By_standsAt 5 (Option.some Jvm.ClassFile.FieldType.boolean) :: BIG) ({ frames := 0, cells := 0, slots := 0, locals := 0 }) (va_Pc [.ref q, .ref h, .int (nI at_), .int (nI k)] (fun U => U.heap.size = sz ∧ va_P (dC, dI) vcl [(q, .inl ((cT 0), nq, .inl fq)), (h, .inr (1, [.ref r, .int (nI len)])), (r, .inl ((cT 0), n, .inl f))] U.heap ∧ va_K (dC, dI) vcl (tyL cT) U ∧ va_D (fun _ => True) [(q, .inl ((cT 0), nq, .inl fq)), (h, .inr (1, [.ref r, .int (nI len)])), (r, .inl ((cT 0), n, .inl f))])) (va_Qi (S := Unit) (fun rv9 u => (rv9 = 0 ∨ rv9 = 1)) (fun u t => va_P (dC, dI) vcl [(q, .inl ((cT 0), nq, .inl fq)), (h, .inr (1, [.ref r, .int (nI len)])), (r, .inl ((cT 0), n, .inl f))] t.heap ∧ va_K (dC, dI) vcl (tyL cT) t ∧ va_D (va_A [(q, .inl ((cT 0), nq, .inl fq)), (h, .inr (1, [.ref r, .int (nI len)])), (r, .inl ((cT 0), n, .inl f))] sz) [(q, .inl ((cT 0), nq, .inl fq)), (h, .inr (1, [.ref r, .int (nI len)])), (r, .inl ((cT 0), n, .inl f))]) (va_A [(q, .inl ((cT 0), nq, .inl fq)), (h, .inr (1, [.ref r, .int (nI len)])), (r, .inl ((cT 0), n, .inl f))] sz)) 0 0 (va_A [(q, .inl ((cT 0), nq, .inl fq)), (h, .inr (1, [.ref r, .int (nI len)])), (r, .inl ((cT 0), n, .inl f))] sz) := by
  refine Met.ofW (cc := b_By_standsAt) (maxL := 5) (ret := (Option.some Jvm.ClassFile.FieldType.boolean)) (by decide) rfl ?_
  intro p e s m args below meth c s₁ B hml hv
  obtain ⟨hargs, hsz, hP, hK, hD0⟩ := hv
  have hx := B.exec
  have hb := B.bytes
  have hr := B.returns
  have hts := atoms_spec (ws := (Cond.code y_By_standsAt b_By_standsAt 5 (Option.some Jvm.ClassFile.FieldType.boolean) :: BIG)) B.pre
  have hg : ∀ w ∈ BIG, w.before _ s = true := fun w h => hts w (List.mem_cons_of_mem _ h)
  have hown : s.vm.findClass "DoorServer$Bytes" = some m.cls := findClass_of_methodNamed B.named
  have hlocks := B.notSynchronized
  subst hsz
  have hD := hD0.self (sz := s.heap.size)
  generalize hAe : va_A [(q, .inl ((cT 0), nq, .inl fq)), (h, .inr (1, [.ref r, .int (nI len)])), (r, .inl ((cT 0), n, .inl f))] s.heap.size = A at hD ⊢
  have hA : ∀ q : Nat, s.heap.size ≤ q → A q := fun q h => by rw [← hAe]; exact Or.inr h
  have hS : va_S A s.heap s.heap [] := va_S.rf
  have hl := lv_entry ([.ref q, .ref h, .int (nI at_), .int (nI k)]) (n := 5) (Nat.le_of_ble_eq_true rfl)
  refine W.eq (g2 := entryFrame m (List.toArray [.ref q, .ref h, .int (nI at_), .int (nI k)]) 5) (by rw [hargs]) ?_
  rw [lg_entry_eq]
  generalize (lg_sl ([.ref q, .ref h, .int (nI at_), .int (nI k)]) ++ List.replicate (5 - (lg_sl ([.ref q, .ref h, .int (nI at_), .int (nI k)])).length) Slot.unset).toArray = ls at hl ⊢
  have hl : lv_has ls 5 [(0, .ref q), (1, .ref h), (2, .int (nI at_)), (3, .int (nI k))] := hl
  change W p l e ({ frames := 0, cells := 0, slots := 0, locals := 0 } : Room) s m args below meth c s.heap [] 0 0 _ _
  have hP : va_P (dC, dI) vcl [(q, .inl ((cT 0), nq, .inl fq)), (h, .inr (1, [.ref r, .int (nI len)])), (r, .inl ((cT 0), n, .inl f))] s.heap := hP
  refine lv_iconst (v := 0) hx hb d_By_standsAt_0 (by decide) ?_
  refine lv_istore (lv' := [(4, .int 0), (0, .ref q), (1, .ref h), (2, .int (nI at_)), (3, .int (nI k))]) hx hb d_By_standsAt_1 hl (by decide) rfl (fun ls hl => ?_)
  have hl := lv_sub hl [0, 1, 2, 3, 4] (show _ = [(4, .int 0), (0, .ref q), (1, .ref h), (2, .int (nI at_)), (3, .int (nI k))] from rfl)
  have L1 : ∀ (Q : State → Prop) (ex0 : ∀  (H : Heap) (locs : List Loc) (ls : Array Slot), va_P (dC, dI) vcl [(q, .inl ((cT 0), nq, .inl fq)), (h, .inr (1, [.ref r, .int (nI len)])), (r, .inl ((cT 0), n, .inl f))] H → va_D A [(q, .inl ((cT 0), nq, .inl fq)), (h, .inr (1, [.ref r, .int (nI len)])), (r, .inl ((cT 0), n, .inl f))] → va_S A s.heap H locs → lv_has ls 5 [(0, .ref q)] → W p l e ({ frames := 0, cells := 0, slots := 0, locals := 0 } : Room) s m args below meth c H locs 0 0 Q (F0 m 33 ls [])) (ex1 : ∀  (H : Heap) (locs : List Loc) (ls : Array Slot), va_P (dC, dI) vcl [(q, .inl ((cT 0), nq, .inl fq)), (h, .inr (1, [.ref r, .int (nI len)])), (r, .inl ((cT 0), n, .inl f))] H → va_D A [(q, .inl ((cT 0), nq, .inl fq)), (h, .inr (1, [.ref r, .int (nI len)])), (r, .inl ((cT 0), n, .inl f))] → va_S A s.heap H locs → lv_has ls 5 [(0, .ref q)] → W p l e ({ frames := 0, cells := 0, slots := 0, locals := 0 } : Room) s m args below meth c H locs 0 0 Q (F0 m 25 ls [])) (jj2 : Nat) (i : Nat) (H : Heap) (locs : List Loc) (ls : Array Slot), k - i ≤ jj2 → (i ≤ k) → va_P (dC, dI) vcl [(q, .inl ((cT 0), nq, .inl fq)), (h, .inr (1, [.ref r, .int (nI len)])), (r, .inl ((cT 0), n, .inl f))] H → va_D A [(q, .inl ((cT 0), nq, .inl fq)), (h, .inr (1, [.ref r, .int (nI len)])), (r, .inl ((cT 0), n, .inl f))] → va_S A s.heap H locs → lv_has ls 5 [(4, .int (nI i)), (0, .ref q), (1, .ref h), (2, .int (nI at_)), (3, .int (nI k))] → W p l e ({ frames := 0, cells := 0, slots := 0, locals := 0 } : Room) s m args below meth c H locs 0 0 Q (F0 m 3 ls []) := by
    intro Q ex0 ex1 jj2
    induction jj2 with
    | zero => 
      intro i H locs ls hm9 hi hP hD hS hl
      refine lv_iload hx hb d_By_standsAt_3 (lv_at hl 0 rfl) ?_
      refine lv_iload_n hx hb d_By_standsAt_5 rfl (lv_at hl 4 rfl) ?_
      refine lv_icmp_ge (tgt := 33) hx hb d_By_standsAt_6 (by decide) (fun hc3 => ?_) (fun hc3 => ?_)
      · skip
        have hl := lv_sub hl [1] (show _ = [(0, .ref q)] from rfl)
        exact ex0  _ _ _  hP hD hS hl
      · skip
        have h1 : i < k := Nat.not_le.mp (fun h7 => hc3 (nI_le h7 (by omega)))
        refine lv_aload_n hx hb d_By_standsAt_9 rfl (lv_at hl 1 rfl) ?_
        refine lv_iload hx hb d_By_standsAt_10 (lv_at hl 0 rfl) ?_
        refine va_iald hx hb hK hP 0 0 rfl rfl (i := (nI i)) (vp_in_nI (by omega) hnq) d_By_standsAt_12 ?_
        refine lv_aload_n hx hb d_By_standsAt_13 rfl (lv_at hl 2 rfl) ?_
        refine va_get (D := (dC, dI)) (ci := 1) (v := (.ref r)) (C := R_By) (T := F_By) (N := 2) hx hb hg in_By hown hK hP 1 rfl rfl 0 (by decide) (hg _ k_39) (fun _ h9 => h9) rfl d_By_standsAt_14 ?_
        refine lv_iload_n hx hb d_By_standsAt_17 rfl (lv_at hl 3 rfl) ?_
        refine lv_iload hx hb d_By_standsAt_18 (lv_at hl 0 rfl) ?_
        refine lv_iadd hx hb d_By_standsAt_20 ?_
        refine lv_topi (fun x5 e4 => ?_)
        obtain rfl : x5 = nI (at_ + i) := by rw [e4]; exact nI_add at_ i
        refine va_iald hx hb hK hP 2 0 rfl rfl (i := (nI (at_ + i))) (vp_in_nI (by omega) hn) d_By_standsAt_21 ?_
        refine lv_icmp_eq (tgt := 27) hx hb d_By_standsAt_22 (by decide) (fun hc6 => ?_) (fun hc6 => ?_)
        · skip
          refine lv_iinc (k := 0) (v := nI (i + 1)) (lv' := [(4, .int (nI (i + 1))), (0, .ref q), (1, .ref h), (2, .int (nI at_)), (3, .int (nI k))]) hx hb d_By_standsAt_27 hl rfl (nI_1 i) (by decide) rfl (fun ls hl => ?_)
          refine lv_goto (tgt := 3) hx hb d_By_standsAt_30 (by decide) ?_
          exfalso; omega
        · skip
          have hl := lv_sub hl [1] (show _ = [(0, .ref q)] from rfl)
          exact ex1  _ _ _  hP hD hS hl
    | succ jj2 ih => 
      intro i H locs ls hm9 hi hP hD hS hl
      refine lv_iload hx hb d_By_standsAt_3 (lv_at hl 0 rfl) ?_
      refine lv_iload_n hx hb d_By_standsAt_5 rfl (lv_at hl 4 rfl) ?_
      refine lv_icmp_ge (tgt := 33) hx hb d_By_standsAt_6 (by decide) (fun hc7 => ?_) (fun hc7 => ?_)
      · skip
        have hl := lv_sub hl [1] (show _ = [(0, .ref q)] from rfl)
        exact ex0  _ _ _  hP hD hS hl
      · skip
        have h1 : i < k := Nat.not_le.mp (fun h7 => hc7 (nI_le h7 (by omega)))
        refine lv_aload_n hx hb d_By_standsAt_9 rfl (lv_at hl 1 rfl) ?_
        refine lv_iload hx hb d_By_standsAt_10 (lv_at hl 0 rfl) ?_
        refine va_iald hx hb hK hP 0 0 rfl rfl (i := (nI i)) (vp_in_nI (by omega) hnq) d_By_standsAt_12 ?_
        refine lv_aload_n hx hb d_By_standsAt_13 rfl (lv_at hl 2 rfl) ?_
        refine va_get (D := (dC, dI)) (ci := 1) (v := (.ref r)) (C := R_By) (T := F_By) (N := 2) hx hb hg in_By hown hK hP 1 rfl rfl 0 (by decide) (hg _ k_39) (fun _ h9 => h9) rfl d_By_standsAt_14 ?_
        refine lv_iload_n hx hb d_By_standsAt_17 rfl (lv_at hl 3 rfl) ?_
        refine lv_iload hx hb d_By_standsAt_18 (lv_at hl 0 rfl) ?_
        refine lv_iadd hx hb d_By_standsAt_20 ?_
        refine lv_topi (fun x9 e8 => ?_)
        obtain rfl : x9 = nI (at_ + i) := by rw [e8]; exact nI_add at_ i
        refine va_iald hx hb hK hP 2 0 rfl rfl (i := (nI (at_ + i))) (vp_in_nI (by omega) hn) d_By_standsAt_21 ?_
        refine lv_icmp_eq (tgt := 27) hx hb d_By_standsAt_22 (by decide) (fun hc10 => ?_) (fun hc10 => ?_)
        · skip
          refine lv_iinc (k := 0) (v := nI (i + 1)) (lv' := [(4, .int (nI (i + 1))), (0, .ref q), (1, .ref h), (2, .int (nI at_)), (3, .int (nI k))]) hx hb d_By_standsAt_27 hl rfl (nI_1 i) (by decide) rfl (fun ls hl => ?_)
          refine lv_goto (tgt := 3) hx hb d_By_standsAt_30 (by decide) ?_
          exact ih (i + 1) _ _ _ (by omega) (by omega) hP hD hS hl
        · skip
          have hl := lv_sub hl [1] (show _ = [(0, .ref q)] from rfl)
          exact ex1  _ _ _  hP hD hS hl
  refine L1 _ (fun  H locs ls  hP hD hS hl => ?_) (fun  H locs ls  hP hD hS hl => ?_) (k - 0) 0 s.heap _ ls (Nat.le_refl _) (Nat.zero_le _) hP hD hS hl
  · skip
    refine lv_iconst (v := 1) hx hb d_By_standsAt_33 (by decide) ?_
    have hP9 := hP.sub (ws' := [(q, .inl ((cT 0), nq, .inl fq)), (h, .inr (1, [.ref r, .int (nI len)])), (r, .inl ((cT 0), n, .inl f))]) [0, 1, 2] rfl
    have hD9 := hD.sub (ws' := [(q, .inl ((cT 0), nq, .inl fq)), (h, .inr (1, [.ref r, .int (nI len)])), (r, .inl ((cT 0), n, .inl f))]) [0, 1, 2] (by decide) rfl
    exact W.zret (v := 1) hx hb hr (by first | rfl | decide) (fun t ht hW => ⟨⟨_, (), rfl, Or.inr rfl, by rw [ht]; exact hP9, va_K.moved hW.alike hK, hD9⟩, hS.F ht⟩) hS.2.2 d_By_standsAt_34
  · skip
    refine lv_iconst (v := 0) hx hb d_By_standsAt_25 (by decide) ?_
    have hP9 := hP.sub (ws' := [(q, .inl ((cT 0), nq, .inl fq)), (h, .inr (1, [.ref r, .int (nI len)])), (r, .inl ((cT 0), n, .inl f))]) [0, 1, 2] rfl
    have hD9 := hD.sub (ws' := [(q, .inl ((cT 0), nq, .inl fq)), (h, .inr (1, [.ref r, .int (nI len)])), (r, .inl ((cT 0), n, .inl f))]) [0, 1, 2] (by decide) rfl
    exact W.zret (v := 0) hx hb hr (by first | rfl | decide) (fun t ht hW => ⟨⟨_, (), rfl, Or.inl rfl, by rw [ht]; exact hP9, va_K.moved hW.alike hK, hD9⟩, hS.F ht⟩) hS.2.2 d_By_standsAt_26
set_option maxHeartbeats 4000000 in
set_option maxRecDepth 100000 in
/-- standsAt -/
theorem c_stands_Pk (l : Launch) (dC : Nat → ClassId) (dI : Nat → Nat → Nat) (cT : Nat → ClassId) (sz : Nat) (q : Nat) (nq : Nat) (fq : Nat → Int32) (h : Nat) (r : Nat) (n : Nat) (len : Nat) (f : Nat → Int32) (at_ : Nat) (k : Nat) (hq : k ≤ nq) (hnq : nq < 2 ^ 31) (hr : at_ + k ≤ n) (hn : n < 2 ^ 31) : Met l y_By_standsAt (Cond.code y_By_standsAt b_By_standsAt 5 (Option.some Jvm.ClassFile.FieldType.boolean) :: BIG) ({ frames := 0, cells := 0, slots := 0, locals := 0 }) (va_Pc [.ref q, .ref h, .int (nI at_), .int (nI k)] (fun U => U.heap.size = sz ∧ va_P (dC, dI) vcl [(q, .inl ((cT 0), nq, .inl fq)), (h, .inr (2, [.ref r, .int (nI len)])), (r, .inl ((cT 0), n, .inl f))] U.heap ∧ va_K (dC, dI) vcl (tyL cT) U ∧ va_D (fun _ => True) [(q, .inl ((cT 0), nq, .inl fq)), (h, .inr (2, [.ref r, .int (nI len)])), (r, .inl ((cT 0), n, .inl f))])) (va_Qi (S := Unit) (fun rv9 u => (rv9 = 0 ∨ rv9 = 1)) (fun u t => va_P (dC, dI) vcl [(q, .inl ((cT 0), nq, .inl fq)), (h, .inr (2, [.ref r, .int (nI len)])), (r, .inl ((cT 0), n, .inl f))] t.heap ∧ va_K (dC, dI) vcl (tyL cT) t ∧ va_D (va_A [(q, .inl ((cT 0), nq, .inl fq)), (h, .inr (2, [.ref r, .int (nI len)])), (r, .inl ((cT 0), n, .inl f))] sz) [(q, .inl ((cT 0), nq, .inl fq)), (h, .inr (2, [.ref r, .int (nI len)])), (r, .inl ((cT 0), n, .inl f))]) (va_A [(q, .inl ((cT 0), nq, .inl fq)), (h, .inr (2, [.ref r, .int (nI len)])), (r, .inl ((cT 0), n, .inl f))] sz)) 0 0 (va_A [(q, .inl ((cT 0), nq, .inl fq)), (h, .inr (2, [.ref r, .int (nI len)])), (r, .inl ((cT 0), n, .inl f))] sz) := by
  refine Met.ofW (cc := b_By_standsAt) (maxL := 5) (ret := (Option.some Jvm.ClassFile.FieldType.boolean)) (by decide) rfl ?_
  intro p e s m args below meth c s₁ B hml hv
  obtain ⟨hargs, hsz, hP, hK, hD0⟩ := hv
  have hx := B.exec
  have hb := B.bytes
  have hr := B.returns
  have hts := atoms_spec (ws := (Cond.code y_By_standsAt b_By_standsAt 5 (Option.some Jvm.ClassFile.FieldType.boolean) :: BIG)) B.pre
  have hg : ∀ w ∈ BIG, w.before _ s = true := fun w h => hts w (List.mem_cons_of_mem _ h)
  have hown : s.vm.findClass "DoorServer$Bytes" = some m.cls := findClass_of_methodNamed B.named
  have hlocks := B.notSynchronized
  subst hsz
  have hD := hD0.self (sz := s.heap.size)
  generalize hAe : va_A [(q, .inl ((cT 0), nq, .inl fq)), (h, .inr (2, [.ref r, .int (nI len)])), (r, .inl ((cT 0), n, .inl f))] s.heap.size = A at hD ⊢
  have hA : ∀ q : Nat, s.heap.size ≤ q → A q := fun q h => by rw [← hAe]; exact Or.inr h
  have hS : va_S A s.heap s.heap [] := va_S.rf
  have hl := lv_entry ([.ref q, .ref h, .int (nI at_), .int (nI k)]) (n := 5) (Nat.le_of_ble_eq_true rfl)
  refine W.eq (g2 := entryFrame m (List.toArray [.ref q, .ref h, .int (nI at_), .int (nI k)]) 5) (by rw [hargs]) ?_
  rw [lg_entry_eq]
  generalize (lg_sl ([.ref q, .ref h, .int (nI at_), .int (nI k)]) ++ List.replicate (5 - (lg_sl ([.ref q, .ref h, .int (nI at_), .int (nI k)])).length) Slot.unset).toArray = ls at hl ⊢
  have hl : lv_has ls 5 [(0, .ref q), (1, .ref h), (2, .int (nI at_)), (3, .int (nI k))] := hl
  change W p l e ({ frames := 0, cells := 0, slots := 0, locals := 0 } : Room) s m args below meth c s.heap [] 0 0 _ _
  have hP : va_P (dC, dI) vcl [(q, .inl ((cT 0), nq, .inl fq)), (h, .inr (2, [.ref r, .int (nI len)])), (r, .inl ((cT 0), n, .inl f))] s.heap := hP
  refine lv_iconst (v := 0) hx hb d_By_standsAt_0 (by decide) ?_
  refine lv_istore (lv' := [(4, .int 0), (0, .ref q), (1, .ref h), (2, .int (nI at_)), (3, .int (nI k))]) hx hb d_By_standsAt_1 hl (by decide) rfl (fun ls hl => ?_)
  have hl := lv_sub hl [0, 1, 2, 3, 4] (show _ = [(4, .int 0), (0, .ref q), (1, .ref h), (2, .int (nI at_)), (3, .int (nI k))] from rfl)
  have L11 : ∀ (Q : State → Prop) (ex0 : ∀  (H : Heap) (locs : List Loc) (ls : Array Slot), va_P (dC, dI) vcl [(q, .inl ((cT 0), nq, .inl fq)), (h, .inr (2, [.ref r, .int (nI len)])), (r, .inl ((cT 0), n, .inl f))] H → va_D A [(q, .inl ((cT 0), nq, .inl fq)), (h, .inr (2, [.ref r, .int (nI len)])), (r, .inl ((cT 0), n, .inl f))] → va_S A s.heap H locs → lv_has ls 5 [(0, .ref q)] → W p l e ({ frames := 0, cells := 0, slots := 0, locals := 0 } : Room) s m args below meth c H locs 0 0 Q (F0 m 33 ls [])) (ex1 : ∀  (H : Heap) (locs : List Loc) (ls : Array Slot), va_P (dC, dI) vcl [(q, .inl ((cT 0), nq, .inl fq)), (h, .inr (2, [.ref r, .int (nI len)])), (r, .inl ((cT 0), n, .inl f))] H → va_D A [(q, .inl ((cT 0), nq, .inl fq)), (h, .inr (2, [.ref r, .int (nI len)])), (r, .inl ((cT 0), n, .inl f))] → va_S A s.heap H locs → lv_has ls 5 [(0, .ref q)] → W p l e ({ frames := 0, cells := 0, slots := 0, locals := 0 } : Room) s m args below meth c H locs 0 0 Q (F0 m 25 ls [])) (jj12 : Nat) (i : Nat) (H : Heap) (locs : List Loc) (ls : Array Slot), k - i ≤ jj12 → (i ≤ k) → va_P (dC, dI) vcl [(q, .inl ((cT 0), nq, .inl fq)), (h, .inr (2, [.ref r, .int (nI len)])), (r, .inl ((cT 0), n, .inl f))] H → va_D A [(q, .inl ((cT 0), nq, .inl fq)), (h, .inr (2, [.ref r, .int (nI len)])), (r, .inl ((cT 0), n, .inl f))] → va_S A s.heap H locs → lv_has ls 5 [(4, .int (nI i)), (0, .ref q), (1, .ref h), (2, .int (nI at_)), (3, .int (nI k))] → W p l e ({ frames := 0, cells := 0, slots := 0, locals := 0 } : Room) s m args below meth c H locs 0 0 Q (F0 m 3 ls []) := by
    intro Q ex0 ex1 jj12
    induction jj12 with
    | zero => 
      intro i H locs ls hm9 hi hP hD hS hl
      refine lv_iload hx hb d_By_standsAt_3 (lv_at hl 0 rfl) ?_
      refine lv_iload_n hx hb d_By_standsAt_5 rfl (lv_at hl 4 rfl) ?_
      refine lv_icmp_ge (tgt := 33) hx hb d_By_standsAt_6 (by decide) (fun hc13 => ?_) (fun hc13 => ?_)
      · skip
        have hl := lv_sub hl [1] (show _ = [(0, .ref q)] from rfl)
        exact ex0  _ _ _  hP hD hS hl
      · skip
        have h1 : i < k := Nat.not_le.mp (fun h7 => hc13 (nI_le h7 (by omega)))
        refine lv_aload_n hx hb d_By_standsAt_9 rfl (lv_at hl 1 rfl) ?_
        refine lv_iload hx hb d_By_standsAt_10 (lv_at hl 0 rfl) ?_
        refine va_iald hx hb hK hP 0 0 rfl rfl (i := (nI i)) (vp_in_nI (by omega) hnq) d_By_standsAt_12 ?_
        refine lv_aload_n hx hb d_By_standsAt_13 rfl (lv_at hl 2 rfl) ?_
        refine va_get (D := (dC, dI)) (ci := 2) (v := (.ref r)) (C := R_Pk) (T := F_Pk) (N := 2) hx hb hg in_Pk hown hK hP 1 rfl rfl 0 (by decide) (hg _ k_39) (fun _ h9 => h9) rfl d_By_standsAt_14 ?_
        refine lv_iload_n hx hb d_By_standsAt_17 rfl (lv_at hl 3 rfl) ?_
        refine lv_iload hx hb d_By_standsAt_18 (lv_at hl 0 rfl) ?_
        refine lv_iadd hx hb d_By_standsAt_20 ?_
        refine lv_topi (fun x15 e14 => ?_)
        obtain rfl : x15 = nI (at_ + i) := by rw [e14]; exact nI_add at_ i
        refine va_iald hx hb hK hP 2 0 rfl rfl (i := (nI (at_ + i))) (vp_in_nI (by omega) hn) d_By_standsAt_21 ?_
        refine lv_icmp_eq (tgt := 27) hx hb d_By_standsAt_22 (by decide) (fun hc16 => ?_) (fun hc16 => ?_)
        · skip
          refine lv_iinc (k := 0) (v := nI (i + 1)) (lv' := [(4, .int (nI (i + 1))), (0, .ref q), (1, .ref h), (2, .int (nI at_)), (3, .int (nI k))]) hx hb d_By_standsAt_27 hl rfl (nI_1 i) (by decide) rfl (fun ls hl => ?_)
          refine lv_goto (tgt := 3) hx hb d_By_standsAt_30 (by decide) ?_
          exfalso; omega
        · skip
          have hl := lv_sub hl [1] (show _ = [(0, .ref q)] from rfl)
          exact ex1  _ _ _  hP hD hS hl
    | succ jj12 ih => 
      intro i H locs ls hm9 hi hP hD hS hl
      refine lv_iload hx hb d_By_standsAt_3 (lv_at hl 0 rfl) ?_
      refine lv_iload_n hx hb d_By_standsAt_5 rfl (lv_at hl 4 rfl) ?_
      refine lv_icmp_ge (tgt := 33) hx hb d_By_standsAt_6 (by decide) (fun hc17 => ?_) (fun hc17 => ?_)
      · skip
        have hl := lv_sub hl [1] (show _ = [(0, .ref q)] from rfl)
        exact ex0  _ _ _  hP hD hS hl
      · skip
        have h1 : i < k := Nat.not_le.mp (fun h7 => hc17 (nI_le h7 (by omega)))
        refine lv_aload_n hx hb d_By_standsAt_9 rfl (lv_at hl 1 rfl) ?_
        refine lv_iload hx hb d_By_standsAt_10 (lv_at hl 0 rfl) ?_
        refine va_iald hx hb hK hP 0 0 rfl rfl (i := (nI i)) (vp_in_nI (by omega) hnq) d_By_standsAt_12 ?_
        refine lv_aload_n hx hb d_By_standsAt_13 rfl (lv_at hl 2 rfl) ?_
        refine va_get (D := (dC, dI)) (ci := 2) (v := (.ref r)) (C := R_Pk) (T := F_Pk) (N := 2) hx hb hg in_Pk hown hK hP 1 rfl rfl 0 (by decide) (hg _ k_39) (fun _ h9 => h9) rfl d_By_standsAt_14 ?_
        refine lv_iload_n hx hb d_By_standsAt_17 rfl (lv_at hl 3 rfl) ?_
        refine lv_iload hx hb d_By_standsAt_18 (lv_at hl 0 rfl) ?_
        refine lv_iadd hx hb d_By_standsAt_20 ?_
        refine lv_topi (fun x19 e18 => ?_)
        obtain rfl : x19 = nI (at_ + i) := by rw [e18]; exact nI_add at_ i
        refine va_iald hx hb hK hP 2 0 rfl rfl (i := (nI (at_ + i))) (vp_in_nI (by omega) hn) d_By_standsAt_21 ?_
        refine lv_icmp_eq (tgt := 27) hx hb d_By_standsAt_22 (by decide) (fun hc20 => ?_) (fun hc20 => ?_)
        · skip
          refine lv_iinc (k := 0) (v := nI (i + 1)) (lv' := [(4, .int (nI (i + 1))), (0, .ref q), (1, .ref h), (2, .int (nI at_)), (3, .int (nI k))]) hx hb d_By_standsAt_27 hl rfl (nI_1 i) (by decide) rfl (fun ls hl => ?_)
          refine lv_goto (tgt := 3) hx hb d_By_standsAt_30 (by decide) ?_
          exact ih (i + 1) _ _ _ (by omega) (by omega) hP hD hS hl
        · skip
          have hl := lv_sub hl [1] (show _ = [(0, .ref q)] from rfl)
          exact ex1  _ _ _  hP hD hS hl
  refine L11 _ (fun  H locs ls  hP hD hS hl => ?_) (fun  H locs ls  hP hD hS hl => ?_) (k - 0) 0 s.heap _ ls (Nat.le_refl _) (Nat.zero_le _) hP hD hS hl
  · skip
    refine lv_iconst (v := 1) hx hb d_By_standsAt_33 (by decide) ?_
    have hP9 := hP.sub (ws' := [(q, .inl ((cT 0), nq, .inl fq)), (h, .inr (2, [.ref r, .int (nI len)])), (r, .inl ((cT 0), n, .inl f))]) [0, 1, 2] rfl
    have hD9 := hD.sub (ws' := [(q, .inl ((cT 0), nq, .inl fq)), (h, .inr (2, [.ref r, .int (nI len)])), (r, .inl ((cT 0), n, .inl f))]) [0, 1, 2] (by decide) rfl
    exact W.zret (v := 1) hx hb hr (by first | rfl | decide) (fun t ht hW => ⟨⟨_, (), rfl, Or.inr rfl, by rw [ht]; exact hP9, va_K.moved hW.alike hK, hD9⟩, hS.F ht⟩) hS.2.2 d_By_standsAt_34
  · skip
    refine lv_iconst (v := 0) hx hb d_By_standsAt_25 (by decide) ?_
    have hP9 := hP.sub (ws' := [(q, .inl ((cT 0), nq, .inl fq)), (h, .inr (2, [.ref r, .int (nI len)])), (r, .inl ((cT 0), n, .inl f))]) [0, 1, 2] rfl
    have hD9 := hD.sub (ws' := [(q, .inl ((cT 0), nq, .inl fq)), (h, .inr (2, [.ref r, .int (nI len)])), (r, .inl ((cT 0), n, .inl f))]) [0, 1, 2] (by decide) rfl
    exact W.zret (v := 0) hx hb hr (by first | rfl | decide) (fun t ht hW => ⟨⟨_, (), rfl, Or.inl rfl, by rw [ht]; exact hP9, va_K.moved hW.alike hK, hD9⟩, hS.F ht⟩) hS.2.2 d_By_standsAt_26
set_option maxHeartbeats 4000000 in
set_option maxRecDepth 100000 in
/-- appendMasked -/
theorem c_masked (l : Launch) (dC : Nat → ClassId) (dI : Nat → Nat → Nat) (cT : Nat → ClassId) (sz : Nat) (h : Nat) (r : Nat) (n : Nat) (len : Nat) (f : Nat → Int32) (q : Nat) (nq : Nat) (fq : Nat → Int32) (at_ : Nat) (mq : Nat) (fm : Nat → Int32) (hlen : len + 16 ≤ n) (hn : n < 2 ^ 31) (hq : at_ + 16 ≤ nq) (hnq : nq < 2 ^ 31) : Met l y_By_appendMasked (Cond.code y_By_appendMasked b_By_appendMasked 5 (Option.none : Option Jvm.ClassFile.FieldType) :: BIG) ({ frames := 1, cells := 0, slots := 0, locals := 21 }) (va_Pc [.ref h, .ref q, .int (nI at_), .ref mq] (fun U => U.heap.size = sz ∧ va_P (dC, dI) vcl [(h, .inr (1, [.ref r, .int (nI len)])), (r, .inl ((cT 0), n, .inl f)), (q, .inl ((cT 0), nq, .inl fq)), (mq, .inl ((cT 0), 16, .inl fm))] U.heap ∧ va_K (dC, dI) vcl (tyL cT) U ∧ va_D (fun _ => True) [(h, .inr (1, [.ref r, .int (nI len)])), (r, .inl ((cT 0), n, .inl f)), (q, .inl ((cT 0), nq, .inl fq)), (mq, .inl ((cT 0), 16, .inl fm))])) (va_Qv (S := (Nat → Int32)) (fun u => match u with | g => AB f → AB g) (fun u t => match u with | g => va_P (dC, dI) vcl [(h, .inr (1, [.ref r, .int (nI (len + 16))])), (r, .inl ((cT 0), n, .inl g)), (q, .inl ((cT 0), nq, .inl fq)), (mq, .inl ((cT 0), 16, .inl fm))] t.heap ∧ va_K (dC, dI) vcl (tyL cT) t ∧ va_D (va_A [(h, .inr (1, [.ref r, .int (nI len)])), (r, .inl ((cT 0), n, .inl f)), (q, .inl ((cT 0), nq, .inl fq)), (mq, .inl ((cT 0), 16, .inl fm))] sz) [(h, .inr (1, [.ref r, .int (nI (len + 16))])), (r, .inl ((cT 0), n, .inl g)), (q, .inl ((cT 0), nq, .inl fq)), (mq, .inl ((cT 0), 16, .inl fm))]) (va_A [(h, .inr (1, [.ref r, .int (nI len)])), (r, .inl ((cT 0), n, .inl f)), (q, .inl ((cT 0), nq, .inl fq)), (mq, .inl ((cT 0), 16, .inl fm))] sz)) 0 0 (va_A [(h, .inr (1, [.ref r, .int (nI len)])), (r, .inl ((cT 0), n, .inl f)), (q, .inl ((cT 0), nq, .inl fq)), (mq, .inl ((cT 0), 16, .inl fm))] sz) := by
  refine Met.ofW (cc := b_By_appendMasked) (maxL := 5) (ret := (Option.none : Option Jvm.ClassFile.FieldType)) (by decide) rfl ?_
  intro p e s m args below meth c s₁ B hml hv
  obtain ⟨hargs, hsz, hP, hK, hD0⟩ := hv
  have hx := B.exec
  have hb := B.bytes
  have hr := B.returns
  have hts := atoms_spec (ws := (Cond.code y_By_appendMasked b_By_appendMasked 5 (Option.none : Option Jvm.ClassFile.FieldType) :: BIG)) B.pre
  have hg : ∀ w ∈ BIG, w.before _ s = true := fun w h => hts w (List.mem_cons_of_mem _ h)
  have hown : s.vm.findClass "DoorServer$Bytes" = some m.cls := findClass_of_methodNamed B.named
  have hlocks := B.notSynchronized
  subst hsz
  have hD := hD0.self (sz := s.heap.size)
  generalize hAe : va_A [(h, .inr (1, [.ref r, .int (nI len)])), (r, .inl ((cT 0), n, .inl f)), (q, .inl ((cT 0), nq, .inl fq)), (mq, .inl ((cT 0), 16, .inl fm))] s.heap.size = A at hD ⊢
  have hA : ∀ q : Nat, s.heap.size ≤ q → A q := fun q h => by rw [← hAe]; exact Or.inr h
  have hS : va_S A s.heap s.heap [] := va_S.rf
  have hl := lv_entry ([.ref h, .ref q, .int (nI at_), .ref mq]) (n := 5) (Nat.le_of_ble_eq_true rfl)
  refine W.eq (g2 := entryFrame m (List.toArray [.ref h, .ref q, .int (nI at_), .ref mq]) 5) (by rw [hargs]) ?_
  rw [lg_entry_eq]
  generalize (lg_sl ([.ref h, .ref q, .int (nI at_), .ref mq]) ++ List.replicate (5 - (lg_sl ([.ref h, .ref q, .int (nI at_), .ref mq])).length) Slot.unset).toArray = ls at hl ⊢
  have hl : lv_has ls 5 [(0, .ref h), (1, .ref q), (2, .int (nI at_)), (3, .ref mq)] := hl
  change W p l e ({ frames := 1, cells := 0, slots := 0, locals := 21 } : Room) s m args below meth c s.heap [] 0 0 _ _
  have hP : va_P (dC, dI) vcl [(h, .inr (1, [.ref r, .int (nI len)])), (r, .inl ((cT 0), n, .inl f)), (q, .inl ((cT 0), nq, .inl fq)), (mq, .inl ((cT 0), 16, .inl fm))] s.heap := hP
  refine lv_iconst (v := 0) hx hb d_By_appendMasked_0 (by decide) ?_
  refine lv_istore (lv' := [(4, .int 0), (0, .ref h), (1, .ref q), (2, .int (nI at_)), (3, .ref mq)]) hx hb d_By_appendMasked_1 hl (by decide) rfl (fun ls hl => ?_)
  have hl := lv_sub hl [0, 1, 2, 3, 4] (show _ = [(4, .int 0), (0, .ref h), (1, .ref q), (2, .int (nI at_)), (3, .ref mq)] from rfl)
  have L21 : ∀ (Q : State → Prop) (exit : ∀ (g : Nat → Int32) (H : Heap) (locs : List Loc) (ls : Array Slot), (AB f → AB g) → va_P (dC, dI) vcl [(h, .inr (1, [.ref r, .int (nI (len + 16))])), (r, .inl ((cT 0), n, .inl g)), (q, .inl ((cT 0), nq, .inl fq)), (mq, .inl ((cT 0), 16, .inl fm))] H → va_D A [(h, .inr (1, [.ref r, .int (nI (len + 16))])), (r, .inl ((cT 0), n, .inl g)), (q, .inl ((cT 0), nq, .inl fq)), (mq, .inl ((cT 0), 16, .inl fm))] → va_S A s.heap H locs → lv_has ls 5 [(4, .int (nI 16)), (0, .ref h), (1, .ref q), (2, .int (nI at_)), (3, .ref mq)] → W p l e ({ frames := 1, cells := 0, slots := 0, locals := 21 } : Room) s m args below meth c H locs 0 0 Q (F0 m 31 ls [])) (j8 i : Nat) (g : Nat → Int32) (H : Heap) (locs : List Loc) (ls : Array Slot), i + j8 = 16 → (AB f → AB g) → va_P (dC, dI) vcl [(h, .inr (1, [.ref r, .int (nI (len + i))])), (r, .inl ((cT 0), n, .inl g)), (q, .inl ((cT 0), nq, .inl fq)), (mq, .inl ((cT 0), 16, .inl fm))] H → va_D A [(h, .inr (1, [.ref r, .int (nI (len + i))])), (r, .inl ((cT 0), n, .inl g)), (q, .inl ((cT 0), nq, .inl fq)), (mq, .inl ((cT 0), 16, .inl fm))] → va_S A s.heap H locs → lv_has ls 5 [(4, .int (nI i)), (0, .ref h), (1, .ref q), (2, .int (nI at_)), (3, .ref mq)] → W p l e ({ frames := 1, cells := 0, slots := 0, locals := 21 } : Room) s m args below meth c H locs 0 0 Q (F0 m 3 ls []) := by
    intro Q exit j8
    induction j8 with
    | zero => 
      intro i g H locs ls hij hab hP hD hS hl
      have hij : 16 = i := by omega
      refine lv_iload hx hb d_By_appendMasked_3 (lv_at hl 0 rfl) ?_
      refine lv_bipush (v := 16) hx hb d_By_appendMasked_5 (by decide) ?_
      refine lv_topi (fun x23 e22 => ?_)
      obtain rfl : x23 = nI 16 := by rw [e22]; rfl
      refine lv_icmp_ge (tgt := 31) hx hb d_By_appendMasked_7 (by decide) (fun hc24 => ?_) (fun hn9 => absurd (nI_le (by omega) (by omega)) hn9)
      subst hij
      exact exit g _ _ _ hab hP hD hS hl
    | succ j8 ih => 
      intro i g H locs ls hij hab hP hD hS hl
      have hlt : i < 16 := by omega
      refine lv_iload hx hb d_By_appendMasked_3 (lv_at hl 0 rfl) ?_
      refine lv_bipush (v := 16) hx hb d_By_appendMasked_5 (by decide) ?_
      refine lv_topi (fun x26 e25 => ?_)
      obtain rfl : x26 = nI 16 := by rw [e25]; rfl
      refine lv_icmp_ge (tgt := 31) hx hb d_By_appendMasked_7 (by decide) (fun hn9 => absurd hn9 (nI_ge hlt (by omega))) (fun hc27 => ?_)
      refine lv_aload_n hx hb d_By_appendMasked_10 rfl (lv_at hl 1 rfl) ?_
      refine lv_aload_n hx hb d_By_appendMasked_11 rfl (lv_at hl 2 rfl) ?_
      refine lv_iload_n hx hb d_By_appendMasked_12 rfl (lv_at hl 3 rfl) ?_
      refine lv_iload hx hb d_By_appendMasked_13 (lv_at hl 0 rfl) ?_
      refine lv_iadd hx hb d_By_appendMasked_15 ?_
      refine lv_topi (fun x29 e28 => ?_)
      obtain rfl : x29 = nI (at_ + i) := by rw [e28]; exact nI_add at_ i
      refine va_iald hx hb hK hP 2 0 rfl rfl (i := (nI (at_ + i))) (vp_in_nI (by omega) hnq) d_By_appendMasked_16 ?_
      refine lv_aload_n hx hb d_By_appendMasked_17 rfl (lv_at hl 4 rfl) ?_
      refine lv_iload hx hb d_By_appendMasked_18 (lv_at hl 0 rfl) ?_
      refine va_iald hx hb hK hP 3 0 rfl rfl (i := (nI i)) (vp_in_nI (by omega) (by decide)) d_By_appendMasked_20 ?_
      refine lv_ixor hx hb d_By_appendMasked_21 ?_
      have hPc := hP.sub (ws' := [(h, .inr (1, [.ref r, .int (nI (len + i))])), (r, .inl ((cT 0), n, .inl g))]) [0, 1] rfl
      have hDc := hD.sub (ws' := [(h, .inr (1, [.ref r, .int (nI (len + i))])), (r, .inl ((cT 0), n, .inl g))]) [0, 1] (by decide) rfl
      have hFc := va_free (wc := [(h, .inr (1, [.ref r, .int (nI (len + i))])), (r, .inl ((cT 0), n, .inl g))]) hD hS hA [0, 1] rfl
      refine va_callv (va_runV (C := "DoorServer$Bytes") (As := [.int ((fq (nI (at_ + i)).toNatClampNeg) ^^^ (fm (nI i).toNatClampNeg))]) (rest := []) ⟨hx, hb, hml, hown, hg⟩ (c_By_append l dC dI cT H.size h r n (len + i) g ((fq (nI (at_ + i)).toNatClampNeg) ^^^ (fm (nI i).toNatClampNeg)) (by omega) (hn)) (cwV 1 hg (gI (List.forall_mem_append.mpr ⟨List.forall_mem_cons.mpr ⟨k_85, List.forall_mem_cons.mpr ⟨k_76, List.forall_mem_cons.mpr ⟨k_1420, List.forall_mem_cons.mpr ⟨k_2, fun _ h => absurd h List.not_mem_nil⟩⟩⟩⟩, List.forall_mem_cons.mpr ⟨k_77, fun _ h => h⟩⟩)) rfl rfl rfl (by decide +kernel) ⟨Nat.le_of_ble_eq_true rfl, Nat.le_of_ble_eq_true rfl⟩) ⟨fun a U g mk q => by obtain ⟨q0, q1, qP, qK, qD⟩ := q; exact ⟨q0, q1, qP, va_K.moved (u := U) (U := U.calling g mk a) (Vm.Alike.refl U.vm) qK, qD⟩, va_recv (q0 := 0) (ci := 1) hK hP rfl rfl, fun U hU hW => ⟨rfl, by rw [hU], by rw [hU]; exact hPc, va_K.moved hW.alike hK, hDc.weaken (fun _ _ _ _ => trivial)⟩⟩ rfl rfl hl.1 rfl (lv_room (Nat.le_of_ble_eq_true rfl)) d_By_appendMasked_22 ⟨Nat.le_of_ble_eq_true rfl, Nat.le_of_ble_eq_true rfl⟩) hS (fun q _ h => hFc q h) hFc (fun u t H1 locs ht hvm hw hB hz1 hk1 hS => ?_)
      try dsimp only at hw hB
      obtain ⟨hP1, hK1, hD1⟩ := hB
      rw [ht] at hP1
      obtain ⟨hP, hD⟩ := va_join (wr := [(q, .inl ((cT 0), nq, .inl fq)), (mq, .inl ((cT 0), 16, .inl fm))]) (w1 := [(h, .inr (1, [.ref r, .int (nI ((len + i) + 1))])), (r, .inl ((cT 0), n, .inl (upd g (len + i) (((fq (nI (at_ + i)).toNatClampNeg) ^^^ (fm (nI i).toNatClampNeg)) &&& 255))))]) hP hD [0, 1] [2, 3] rfl rfl (by decide) (by decide) hk1 hFc hP1 hD1
      have hw30 := hw
      clear hPc hDc hFc hz1 hk1 hP1 hK1 hD1
      generalize H1 = H at hP hS ⊢
      have hP : va_P (dC, dI) vcl [(q, .inl ((cT 0), nq, .inl fq)), (mq, .inl ((cT 0), 16, .inl fm)), (h, .inr (1, [.ref r, .int (nI ((len + i) + 1))])), (r, .inl ((cT 0), n, .inl (upd g (len + i) (((fq (nI (at_ + i)).toNatClampNeg) ^^^ (fm (nI i).toNatClampNeg)) &&& 255))))] H := hP
      have hD : va_D A [(q, .inl ((cT 0), nq, .inl fq)), (mq, .inl ((cT 0), 16, .inl fm)), (h, .inr (1, [.ref r, .int (nI ((len + i) + 1))])), (r, .inl ((cT 0), n, .inl (upd g (len + i) (((fq (nI (at_ + i)).toNatClampNeg) ^^^ (fm (nI i).toNatClampNeg)) &&& 255))))] := hD
      have hP := hP.sub (ws' := [(h, .inr (1, [.ref r, .int (nI ((len + i) + 1))])), (r, .inl ((cT 0), n, .inl (upd g (len + i) (((fq (nI (at_ + i)).toNatClampNeg) ^^^ (fm (nI i).toNatClampNeg)) &&& 255)))), (q, .inl ((cT 0), nq, .inl fq)), (mq, .inl ((cT 0), 16, .inl fm))]) [2, 3, 0, 1] rfl
      have hD := hD.sub (ws' := [(h, .inr (1, [.ref r, .int (nI ((len + i) + 1))])), (r, .inl ((cT 0), n, .inl (upd g (len + i) (((fq (nI (at_ + i)).toNatClampNeg) ^^^ (fm (nI i).toNatClampNeg)) &&& 255)))), (q, .inl ((cT 0), nq, .inl fq)), (mq, .inl ((cT 0), 16, .inl fm))]) [2, 3, 0, 1] (by decide) rfl
      refine lv_iinc (k := 0) (v := nI (i + 1)) (lv' := [(4, .int (nI (i + 1))), (0, .ref h), (1, .ref q), (2, .int (nI at_)), (3, .ref mq)]) hx hb d_By_appendMasked_25 hl rfl (nI_1 i) (by decide) rfl (fun ls hl => ?_)
      refine lv_goto (tgt := 3) hx hb d_By_appendMasked_28 (by decide) ?_
      exact ih (i + 1) _ _ _ _ (by omega) (fun h9 => AB_upd (hab h9) (BY_and _)) hP hD hS hl
  refine L21 _ (fun g H locs ls hab hP hD hS hl => ?_) (16 - 0) 0 f s.heap _ ls (by omega) (fun h9 => h9) hP hD hS hl
  have hP9 := hP.sub (ws' := [(h, .inr (1, [.ref r, .int (nI (len + 16))])), (r, .inl ((cT 0), n, .inl g)), (q, .inl ((cT 0), nq, .inl fq)), (mq, .inl ((cT 0), 16, .inl fm))]) [0, 1, 2, 3] rfl
  have hD9 := hD.sub (ws' := [(h, .inr (1, [.ref r, .int (nI (len + 16))])), (r, .inl ((cT 0), n, .inl g)), (q, .inl ((cT 0), nq, .inl fq)), (mq, .inl ((cT 0), 16, .inl fm))]) [0, 1, 2, 3] (by decide) rfl
  exact W.vret hx hb hr (fun t ht hW => ⟨⟨g, rfl, hab, by rw [ht]; exact hP9, va_K.moved hW.alike hK, hD9⟩, hS.F ht⟩) hS.2.2 d_By_appendMasked_31
set_option maxHeartbeats 4000000 in
set_option maxRecDepth 100000 in
/-- dropZerosBehind -/
theorem c_drop (l : Launch) (dC : Nat → ClassId) (dI : Nat → Nat → Nat) (cT : Nat → ClassId) (sz : Nat) (h : Nat) (r : Nat) (n : Nat) (len : Nat) (f : Nat → Int32) (hlen : len ≤ n) (hn : n < 2 ^ 31) : Met l y_By_dropZerosBehind (Cond.code y_By_dropZerosBehind b_By_dropZerosBehind 1 (Option.none : Option Jvm.ClassFile.FieldType) :: BIG) ({ frames := 0, cells := 0, slots := 0, locals := 0 }) (va_Pc [.ref h] (fun U => U.heap.size = sz ∧ va_P (dC, dI) vcl [(h, .inr (1, [.ref r, .int (nI len)])), (r, .inl ((cT 0), n, .inl f))] U.heap ∧ va_K (dC, dI) vcl (tyL cT) U ∧ va_D (fun _ => True) [(h, .inr (1, [.ref r, .int (nI len)])), (r, .inl ((cT 0), n, .inl f))])) (va_Qv (S := Nat) (fun u => match u with | len2 => len2 ≤ len) (fun u t => match u with | len2 => va_P (dC, dI) vcl [(h, .inr (1, [.ref r, .int (nI len2)])), (r, .inl ((cT 0), n, .inl f))] t.heap ∧ va_K (dC, dI) vcl (tyL cT) t ∧ va_D (va_A [(h, .inr (1, [.ref r, .int (nI len)])), (r, .inl ((cT 0), n, .inl f))] sz) [(h, .inr (1, [.ref r, .int (nI len2)])), (r, .inl ((cT 0), n, .inl f))]) (va_A [(h, .inr (1, [.ref r, .int (nI len)])), (r, .inl ((cT 0), n, .inl f))] sz)) 0 0 (va_A [(h, .inr (1, [.ref r, .int (nI len)])), (r, .inl ((cT 0), n, .inl f))] sz) := by
  refine Met.ofW (cc := b_By_dropZerosBehind) (maxL := 1) (ret := (Option.none : Option Jvm.ClassFile.FieldType)) (by decide) rfl ?_
  intro p e s m args below meth c s₁ B hml hv
  obtain ⟨hargs, hsz, hP, hK, hD0⟩ := hv
  have hx := B.exec
  have hb := B.bytes
  have hr := B.returns
  have hts := atoms_spec (ws := (Cond.code y_By_dropZerosBehind b_By_dropZerosBehind 1 (Option.none : Option Jvm.ClassFile.FieldType) :: BIG)) B.pre
  have hg : ∀ w ∈ BIG, w.before _ s = true := fun w h => hts w (List.mem_cons_of_mem _ h)
  have hown : s.vm.findClass "DoorServer$Bytes" = some m.cls := findClass_of_methodNamed B.named
  have hlocks := B.notSynchronized
  subst hsz
  have hD := hD0.self (sz := s.heap.size)
  generalize hAe : va_A [(h, .inr (1, [.ref r, .int (nI len)])), (r, .inl ((cT 0), n, .inl f))] s.heap.size = A at hD ⊢
  have hA : ∀ q : Nat, s.heap.size ≤ q → A q := fun q h => by rw [← hAe]; exact Or.inr h
  have hS : va_S A s.heap s.heap [] := va_S.rf
  have hl := lv_entry ([.ref h]) (n := 1) (Nat.le_of_ble_eq_true rfl)
  refine W.eq (g2 := entryFrame m (List.toArray [.ref h]) 1) (by rw [hargs]) ?_
  rw [lg_entry_eq]
  generalize (lg_sl ([.ref h]) ++ List.replicate (1 - (lg_sl ([.ref h])).length) Slot.unset).toArray = ls at hl ⊢
  have hl : lv_has ls 1 [(0, .ref h)] := hl
  change W p l e ({ frames := 0, cells := 0, slots := 0, locals := 0 } : Room) s m args below meth c s.heap [] 0 0 _ _
  have hP : va_P (dC, dI) vcl [(h, .inr (1, [.ref r, .int (nI len)])), (r, .inl ((cT 0), n, .inl f))] s.heap := hP
  have L31 : ∀ (Q : State → Prop) (ex0 : ∀ (i : Nat) (H : Heap) (locs : List Loc) (ls : Array Slot), (i ≤ len) → va_P (dC, dI) vcl [(h, .inr (1, [.ref r, .int (nI i)])), (r, .inl ((cT 0), n, .inl f))] H → va_D A [(h, .inr (1, [.ref r, .int (nI i)])), (r, .inl ((cT 0), n, .inl f))] → va_S A s.heap H locs → lv_has ls 1 [(0, .ref h)] → W p l e ({ frames := 0, cells := 0, slots := 0, locals := 0 } : Room) s m args below meth c H locs 0 0 Q (F0 m 34 ls [])) (jj32 : Nat) (i : Nat) (H : Heap) (locs : List Loc) (ls : Array Slot), i ≤ jj32 → (i ≤ len) → va_P (dC, dI) vcl [(h, .inr (1, [.ref r, .int (nI i)])), (r, .inl ((cT 0), n, .inl f))] H → va_D A [(h, .inr (1, [.ref r, .int (nI i)])), (r, .inl ((cT 0), n, .inl f))] → va_S A s.heap H locs → lv_has ls 1 [(0, .ref h)] → W p l e ({ frames := 0, cells := 0, slots := 0, locals := 0 } : Room) s m args below meth c H locs 0 0 Q (F0 m 0 ls []) := by
    intro Q ex0 jj32
    induction jj32 with
    | zero => 
      intro i H locs ls hm9 hi hP hD hS hl
      refine lv_aload_n hx hb d_By_dropZerosBehind_0 rfl (lv_at hl 0 rfl) ?_
      refine va_get (D := (dC, dI)) (ci := 1) (v := (.int (nI i))) (C := R_By) (T := F_By) (N := 2) hx hb hg in_By hown hK hP 0 rfl rfl 1 (by decide) (hg _ k_51) (fun _ h9 => h9) rfl d_By_dropZerosBehind_1 ?_
      refine lv_if_le (tgt := 34) hx hb d_By_dropZerosBehind_4 (by decide) (fun hc33 => ?_) (fun hc33 => ?_)
      · skip
        exact ex0 i _ _ _ (hi) hP hD hS hl
      · skip
        have h1 : 0 < i := Nat.not_le.mp (fun h7 => hc33 (nI_le (b := 0) h7 (by decide)))
        refine lv_aload_n hx hb d_By_dropZerosBehind_7 rfl (lv_at hl 0 rfl) ?_
        refine va_get (D := (dC, dI)) (ci := 1) (v := (.ref r)) (C := R_By) (T := F_By) (N := 2) hx hb hg in_By hown hK hP 0 rfl rfl 0 (by decide) (hg _ k_39) (fun _ h9 => h9) rfl d_By_dropZerosBehind_8 ?_
        refine lv_aload_n hx hb d_By_dropZerosBehind_11 rfl (lv_at hl 0 rfl) ?_
        refine va_get (D := (dC, dI)) (ci := 1) (v := (.int (nI i))) (C := R_By) (T := F_By) (N := 2) hx hb hg in_By hown hK hP 0 rfl rfl 1 (by decide) (hg _ k_51) (fun _ h9 => h9) rfl d_By_dropZerosBehind_12 ?_
        refine lv_iconst (v := 1) hx hb d_By_dropZerosBehind_15 (by decide) ?_
        refine lv_isub hx hb d_By_dropZerosBehind_16 ?_
        refine lv_topi (fun x35 e34 => ?_)
        obtain rfl : x35 = nI (i - 1) := by rw [e34]; exact pk_sub (b := 1) (by omega)
        refine va_iald hx hb hK hP 1 0 rfl rfl (i := (nI (i - 1))) (vp_in_nI (by omega) hn) d_By_dropZerosBehind_17 ?_
        refine lv_if_ne (tgt := 34) hx hb d_By_dropZerosBehind_18 (by decide) (fun hc36 => ?_) (fun hc36 => ?_)
        · skip
          exact ex0 i _ _ _ (hi) hP hD hS hl
        · skip
          refine lv_aload_n hx hb d_By_dropZerosBehind_21 rfl (lv_at hl 0 rfl) ?_
          refine lv_dup hx hb d_By_dropZerosBehind_22 rfl ?_
          refine va_get (D := (dC, dI)) (ci := 1) (v := (.int (nI i))) (C := R_By) (T := F_By) (N := 2) hx hb hg in_By hown hK hP 0 rfl rfl 1 (by decide) (hg _ k_51) (fun _ h9 => h9) rfl d_By_dropZerosBehind_23 ?_
          refine lv_iconst (v := 1) hx hb d_By_dropZerosBehind_26 (by decide) ?_
          refine lv_isub hx hb d_By_dropZerosBehind_27 ?_
          refine lv_topi (fun x38 e37 => ?_)
          obtain rfl : x38 = nI (i - 1) := by rw [e37]; exact pk_sub (b := 1) (by omega)
          refine va_put (D := (dC, dI)) (ci := 1) (v := (.int (nI (i - 1)))) (ty := .int) (C := R_By) (T := F_By) (N := 2) hx hb hg in_By t_By tok_By nm_By hown hK hP hD hS 0 rfl rfl 1 (by decide) (hg _ k_51) (fun _ h9 => h9) rfl (by decide +kernel) rfl rfl (Nat.le_of_ble_eq_true rfl) d_By_dropZerosBehind_28 (fun H locs hP hD hS => ?_)
          have hP : va_P (dC, dI) vcl [(h, .inr (1, [.ref r, .int (nI (i - 1))])), (r, .inl ((cT 0), n, .inl f))] H := hP
          have hD : va_D A [(h, .inr (1, [.ref r, .int (nI (i - 1))])), (r, .inl ((cT 0), n, .inl f))] := hD
          refine lv_goto (tgt := 0) hx hb d_By_dropZerosBehind_31 (by decide) ?_
          exfalso; omega
    | succ jj32 ih => 
      intro i H locs ls hm9 hi hP hD hS hl
      refine lv_aload_n hx hb d_By_dropZerosBehind_0 rfl (lv_at hl 0 rfl) ?_
      refine va_get (D := (dC, dI)) (ci := 1) (v := (.int (nI i))) (C := R_By) (T := F_By) (N := 2) hx hb hg in_By hown hK hP 0 rfl rfl 1 (by decide) (hg _ k_51) (fun _ h9 => h9) rfl d_By_dropZerosBehind_1 ?_
      refine lv_if_le (tgt := 34) hx hb d_By_dropZerosBehind_4 (by decide) (fun hc39 => ?_) (fun hc39 => ?_)
      · skip
        exact ex0 i _ _ _ (hi) hP hD hS hl
      · skip
        have h1 : 0 < i := Nat.not_le.mp (fun h7 => hc39 (nI_le (b := 0) h7 (by decide)))
        refine lv_aload_n hx hb d_By_dropZerosBehind_7 rfl (lv_at hl 0 rfl) ?_
        refine va_get (D := (dC, dI)) (ci := 1) (v := (.ref r)) (C := R_By) (T := F_By) (N := 2) hx hb hg in_By hown hK hP 0 rfl rfl 0 (by decide) (hg _ k_39) (fun _ h9 => h9) rfl d_By_dropZerosBehind_8 ?_
        refine lv_aload_n hx hb d_By_dropZerosBehind_11 rfl (lv_at hl 0 rfl) ?_
        refine va_get (D := (dC, dI)) (ci := 1) (v := (.int (nI i))) (C := R_By) (T := F_By) (N := 2) hx hb hg in_By hown hK hP 0 rfl rfl 1 (by decide) (hg _ k_51) (fun _ h9 => h9) rfl d_By_dropZerosBehind_12 ?_
        refine lv_iconst (v := 1) hx hb d_By_dropZerosBehind_15 (by decide) ?_
        refine lv_isub hx hb d_By_dropZerosBehind_16 ?_
        refine lv_topi (fun x41 e40 => ?_)
        obtain rfl : x41 = nI (i - 1) := by rw [e40]; exact pk_sub (b := 1) (by omega)
        refine va_iald hx hb hK hP 1 0 rfl rfl (i := (nI (i - 1))) (vp_in_nI (by omega) hn) d_By_dropZerosBehind_17 ?_
        refine lv_if_ne (tgt := 34) hx hb d_By_dropZerosBehind_18 (by decide) (fun hc42 => ?_) (fun hc42 => ?_)
        · skip
          exact ex0 i _ _ _ (hi) hP hD hS hl
        · skip
          refine lv_aload_n hx hb d_By_dropZerosBehind_21 rfl (lv_at hl 0 rfl) ?_
          refine lv_dup hx hb d_By_dropZerosBehind_22 rfl ?_
          refine va_get (D := (dC, dI)) (ci := 1) (v := (.int (nI i))) (C := R_By) (T := F_By) (N := 2) hx hb hg in_By hown hK hP 0 rfl rfl 1 (by decide) (hg _ k_51) (fun _ h9 => h9) rfl d_By_dropZerosBehind_23 ?_
          refine lv_iconst (v := 1) hx hb d_By_dropZerosBehind_26 (by decide) ?_
          refine lv_isub hx hb d_By_dropZerosBehind_27 ?_
          refine lv_topi (fun x44 e43 => ?_)
          obtain rfl : x44 = nI (i - 1) := by rw [e43]; exact pk_sub (b := 1) (by omega)
          refine va_put (D := (dC, dI)) (ci := 1) (v := (.int (nI (i - 1)))) (ty := .int) (C := R_By) (T := F_By) (N := 2) hx hb hg in_By t_By tok_By nm_By hown hK hP hD hS 0 rfl rfl 1 (by decide) (hg _ k_51) (fun _ h9 => h9) rfl (by decide +kernel) rfl rfl (Nat.le_of_ble_eq_true rfl) d_By_dropZerosBehind_28 (fun H locs hP hD hS => ?_)
          have hP : va_P (dC, dI) vcl [(h, .inr (1, [.ref r, .int (nI (i - 1))])), (r, .inl ((cT 0), n, .inl f))] H := hP
          have hD : va_D A [(h, .inr (1, [.ref r, .int (nI (i - 1))])), (r, .inl ((cT 0), n, .inl f))] := hD
          refine lv_goto (tgt := 0) hx hb d_By_dropZerosBehind_31 (by decide) ?_
          exact ih (i - 1) _ _ _ (by omega) (by omega) hP hD hS hl
  refine L31 _ (fun i H locs ls hi hP hD hS hl => ?_) (len) len s.heap _ ls (Nat.le_refl _) (Nat.le_refl _) hP hD hS hl
  · skip
    have hP9 := hP.sub (ws' := [(h, .inr (1, [.ref r, .int (nI i)])), (r, .inl ((cT 0), n, .inl f))]) [0, 1] rfl
    have hD9 := hD.sub (ws' := [(h, .inr (1, [.ref r, .int (nI i)])), (r, .inl ((cT 0), n, .inl f))]) [0, 1] (by decide) rfl
    exact W.vret hx hb hr (fun t ht hW => ⟨⟨i, rfl, hi, by rw [ht]; exact hP9, va_K.moved hW.alike hK, hD9⟩, hS.F ht⟩) hS.2.2 d_By_dropZerosBehind_34
set_option maxHeartbeats 4000000 in
set_option maxRecDepth 100000 in
/-- isAlike -/
theorem c_alike (l : Launch) (dC : Nat → ClassId) (dI : Nat → Nat → Nat) (cT : Nat → ClassId) (sz : Nat) (h : Nat) (r : Nat) (n : Nat) (len : Nat) (f : Nat → Int32) (h2 : Nat) (r2 : Nat) (n2 : Nat) (len2 : Nat) (f2 : Nat → Int32) (hle1 : len ≤ n) (hn : n < 2 ^ 31) (hl2 : len2 ≤ n2) (hn2 : n2 < 2 ^ 31) : Met l y_By_isAlike (Cond.code y_By_isAlike b_By_isAlike 2 (Option.some Jvm.ClassFile.FieldType.boolean) :: BIG) ({ frames := 1, cells := 0, slots := 0, locals := 24 }) (va_Pc [.ref h, .ref h2] (fun U => U.heap.size = sz ∧ va_P (dC, dI) vcl [(h, .inr (1, [.ref r, .int (nI len)])), (r, .inl ((cT 0), n, .inl f)), (h2, .inr (1, [.ref r2, .int (nI len2)])), (r2, .inl ((cT 0), n2, .inl f2))] U.heap ∧ va_K (dC, dI) vcl (tyL cT) U ∧ va_D (fun _ => True) [(h, .inr (1, [.ref r, .int (nI len)])), (r, .inl ((cT 0), n, .inl f)), (h2, .inr (1, [.ref r2, .int (nI len2)])), (r2, .inl ((cT 0), n2, .inl f2))])) (va_Qi (S := Unit) (fun rv9 u => (rv9 = 0 ∨ rv9 = 1)) (fun u t => va_P (dC, dI) vcl [(h, .inr (1, [.ref r, .int (nI len)])), (r, .inl ((cT 0), n, .inl f)), (h2, .inr (1, [.ref r2, .int (nI len2)])), (r2, .inl ((cT 0), n2, .inl f2))] t.heap ∧ va_K (dC, dI) vcl (tyL cT) t ∧ va_D (va_A [(h, .inr (1, [.ref r, .int (nI len)])), (r, .inl ((cT 0), n, .inl f)), (h2, .inr (1, [.ref r2, .int (nI len2)])), (r2, .inl ((cT 0), n2, .inl f2))] sz) [(h, .inr (1, [.ref r, .int (nI len)])), (r, .inl ((cT 0), n, .inl f)), (h2, .inr (1, [.ref r2, .int (nI len2)])), (r2, .inl ((cT 0), n2, .inl f2))]) (va_A [(h, .inr (1, [.ref r, .int (nI len)])), (r, .inl ((cT 0), n, .inl f)), (h2, .inr (1, [.ref r2, .int (nI len2)])), (r2, .inl ((cT 0), n2, .inl f2))] sz)) 0 0 (va_A [(h, .inr (1, [.ref r, .int (nI len)])), (r, .inl ((cT 0), n, .inl f)), (h2, .inr (1, [.ref r2, .int (nI len2)])), (r2, .inl ((cT 0), n2, .inl f2))] sz) := by
  refine Met.ofW (cc := b_By_isAlike) (maxL := 2) (ret := (Option.some Jvm.ClassFile.FieldType.boolean)) (by decide) rfl ?_
  intro p e s m args below meth c s₁ B hml hv
  obtain ⟨hargs, hsz, hP, hK, hD0⟩ := hv
  have hx := B.exec
  have hb := B.bytes
  have hr := B.returns
  have hts := atoms_spec (ws := (Cond.code y_By_isAlike b_By_isAlike 2 (Option.some Jvm.ClassFile.FieldType.boolean) :: BIG)) B.pre
  have hg : ∀ w ∈ BIG, w.before _ s = true := fun w h => hts w (List.mem_cons_of_mem _ h)
  have hown : s.vm.findClass "DoorServer$Bytes" = some m.cls := findClass_of_methodNamed B.named
  have hlocks := B.notSynchronized
  subst hsz
  have hD := hD0.self (sz := s.heap.size)
  generalize hAe : va_A [(h, .inr (1, [.ref r, .int (nI len)])), (r, .inl ((cT 0), n, .inl f)), (h2, .inr (1, [.ref r2, .int (nI len2)])), (r2, .inl ((cT 0), n2, .inl f2))] s.heap.size = A at hD ⊢
  have hA : ∀ q : Nat, s.heap.size ≤ q → A q := fun q h => by rw [← hAe]; exact Or.inr h
  have hS : va_S A s.heap s.heap [] := va_S.rf
  have hl := lv_entry ([.ref h, .ref h2]) (n := 2) (Nat.le_of_ble_eq_true rfl)
  refine W.eq (g2 := entryFrame m (List.toArray [.ref h, .ref h2]) 2) (by rw [hargs]) ?_
  rw [lg_entry_eq]
  generalize (lg_sl ([.ref h, .ref h2]) ++ List.replicate (2 - (lg_sl ([.ref h, .ref h2])).length) Slot.unset).toArray = ls at hl ⊢
  have hl : lv_has ls 2 [(0, .ref h), (1, .ref h2)] := hl
  change W p l e ({ frames := 1, cells := 0, slots := 0, locals := 24 } : Room) s m args below meth c s.heap [] 0 0 _ _
  have hP : va_P (dC, dI) vcl [(h, .inr (1, [.ref r, .int (nI len)])), (r, .inl ((cT 0), n, .inl f)), (h2, .inr (1, [.ref r2, .int (nI len2)])), (r2, .inl ((cT 0), n2, .inl f2))] s.heap := hP
  refine lv_aload_n hx hb d_By_isAlike_0 rfl (lv_at hl 0 rfl) ?_
  refine va_get (D := (dC, dI)) (ci := 1) (v := (.int (nI len))) (C := R_By) (T := F_By) (N := 2) hx hb hg in_By hown hK hP 0 rfl rfl 1 (by decide) (hg _ k_51) (fun _ h9 => h9) rfl d_By_isAlike_1 ?_
  refine lv_aload_n hx hb d_By_isAlike_4 rfl (lv_at hl 1 rfl) ?_
  refine va_get (D := (dC, dI)) (ci := 1) (v := (.int (nI len2))) (C := R_By) (T := F_By) (N := 2) hx hb hg in_By hown hK hP 2 rfl rfl 1 (by decide) (hg _ k_51) (fun _ h9 => h9) rfl d_By_isAlike_5 ?_
  refine lv_icmp_ne (tgt := 31) hx hb d_By_isAlike_8 (by decide) (fun hc45 => ?_) (fun hc45 => ?_)
  · skip
    refine lv_iconst (v := 0) hx hb d_By_isAlike_31 (by decide) ?_
    have hP9 := hP.sub (ws' := [(h, .inr (1, [.ref r, .int (nI len)])), (r, .inl ((cT 0), n, .inl f)), (h2, .inr (1, [.ref r2, .int (nI len2)])), (r2, .inl ((cT 0), n2, .inl f2))]) [0, 1, 2, 3] rfl
    have hD9 := hD.sub (ws' := [(h, .inr (1, [.ref r, .int (nI len)])), (r, .inl ((cT 0), n, .inl f)), (h2, .inr (1, [.ref r2, .int (nI len2)])), (r2, .inl ((cT 0), n2, .inl f2))]) [0, 1, 2, 3] (by decide) rfl
    exact W.zret (v := 0) hx hb hr (by first | rfl | decide) (fun t ht hW => ⟨⟨_, (), rfl, Or.inl rfl, by rw [ht]; exact hP9, va_K.moved hW.alike hK, hD9⟩, hS.F ht⟩) hS.2.2 d_By_isAlike_32
  · skip
    have h1 : len = len2 := (nI_eq (by omega) (by omega)).mp hc45
    refine lv_aload_n hx hb d_By_isAlike_11 rfl (lv_at hl 0 rfl) ?_
    refine va_get (D := (dC, dI)) (ci := 1) (v := (.ref r)) (C := R_By) (T := F_By) (N := 2) hx hb hg in_By hown hK hP 0 rfl rfl 0 (by decide) (hg _ k_39) (fun _ h9 => h9) rfl d_By_isAlike_12 ?_
    refine lv_aload_n hx hb d_By_isAlike_15 rfl (lv_at hl 1 rfl) ?_
    refine lv_iconst (v := 0) hx hb d_By_isAlike_16 (by decide) ?_
    refine lv_topi (fun x47 e46 => ?_)
    obtain rfl : x47 = nI 0 := by rw [e46]; rfl
    refine lv_aload_n hx hb d_By_isAlike_17 rfl (lv_at hl 0 rfl) ?_
    refine va_get (D := (dC, dI)) (ci := 1) (v := (.int (nI len))) (C := R_By) (T := F_By) (N := 2) hx hb hg in_By hown hK hP 0 rfl rfl 1 (by decide) (hg _ k_51) (fun _ h9 => h9) rfl d_By_isAlike_18 ?_
    have hPc := hP.sub (ws' := [(r, .inl ((cT 0), n, .inl f)), (h2, .inr (1, [.ref r2, .int (nI len2)])), (r2, .inl ((cT 0), n2, .inl f2))]) [1, 2, 3] rfl
    have hDc := hD.sub (ws' := [(r, .inl ((cT 0), n, .inl f)), (h2, .inr (1, [.ref r2, .int (nI len2)])), (r2, .inl ((cT 0), n2, .inl f2))]) [1, 2, 3] (by decide) rfl
    have hFc := va_free (wc := [(r, .inl ((cT 0), n, .inl f)), (h2, .inr (1, [.ref r2, .int (nI len2)])), (r2, .inl ((cT 0), n2, .inl f2))]) hD hS hA [1, 2, 3] rfl
    refine va_calli (va_runS (As := [.ref r, .ref h2, .int (nI 0), .int (nI len)]) (rest := []) ⟨hx, hb, hml, hown, hg⟩ (c_stands_By l dC dI cT s.heap.size r n f h2 r2 n2 len2 f2 0 len (hle1) (hn) (by omega) (hn2)) (va_cwS 4 hg (gI (List.forall_mem_append.mpr ⟨List.forall_mem_cons.mpr ⟨k_874, List.forall_mem_cons.mpr ⟨k_729, List.forall_mem_cons.mpr ⟨k_2, fun _ h => absurd h List.not_mem_nil⟩⟩⟩, List.forall_mem_cons.mpr ⟨k_730, fun _ h => h⟩⟩)) rfl rfl rfl (by decide +kernel) ⟨Nat.le_of_ble_eq_true rfl, Nat.le_of_ble_eq_true rfl⟩) ⟨fun a U g mk q => by obtain ⟨q0, q1, qP, qK, qD⟩ := q; exact ⟨q0, q1, qP, va_K.moved (u := U) (U := U.calling g mk a) (Vm.Alike.refl U.vm) qK, qD⟩, fun U hU hW => ⟨rfl, by rw [hU], by rw [hU]; exact hPc, va_K.moved hW.alike hK, hDc.weaken (fun _ _ _ _ => trivial)⟩⟩ rfl rfl hl.1 rfl (lv_room (Nat.le_of_ble_eq_true rfl)) d_By_isAlike_21 ⟨Nat.le_of_ble_eq_true rfl, Nat.le_of_ble_eq_true rfl⟩) hS (fun q _ h => hFc q h) hFc (fun rv9 u t H1 locs ht hvm hw hB hz1 hk1 hS => ?_)
    try dsimp only at hw hB
    obtain ⟨hP1, hK1, hD1⟩ := hB
    rw [ht] at hP1
    generalize rv9 = r48 at hw ⊢
    obtain ⟨hP, hD⟩ := va_join (wr := [(h, .inr (1, [.ref r, .int (nI len)]))]) (w1 := [(r, .inl ((cT 0), n, .inl f)), (h2, .inr (1, [.ref r2, .int (nI len2)])), (r2, .inl ((cT 0), n2, .inl f2))]) hP hD [1, 2, 3] [0] rfl rfl (by decide) (by decide) hk1 hFc hP1 hD1
    have hw49 := hw
    clear hPc hDc hFc hz1 hk1 hP1 hK1 hD1
    generalize H1 = H at hP hS ⊢
    have hP : va_P (dC, dI) vcl [(h, .inr (1, [.ref r, .int (nI len)])), (r, .inl ((cT 0), n, .inl f)), (h2, .inr (1, [.ref r2, .int (nI len2)])), (r2, .inl ((cT 0), n2, .inl f2))] H := hP
    have hD : va_D A [(h, .inr (1, [.ref r, .int (nI len)])), (r, .inl ((cT 0), n, .inl f)), (h2, .inr (1, [.ref r2, .int (nI len2)])), (r2, .inl ((cT 0), n2, .inl f2))] := hD
    refine lv_if_eq (tgt := 31) hx hb d_By_isAlike_24 (by decide) (fun hc50 => ?_) (fun hc50 => ?_)
    · skip
      refine lv_iconst (v := 0) hx hb d_By_isAlike_31 (by decide) ?_
      have hP9 := hP.sub (ws' := [(h, .inr (1, [.ref r, .int (nI len)])), (r, .inl ((cT 0), n, .inl f)), (h2, .inr (1, [.ref r2, .int (nI len2)])), (r2, .inl ((cT 0), n2, .inl f2))]) [0, 1, 2, 3] rfl
      have hD9 := hD.sub (ws' := [(h, .inr (1, [.ref r, .int (nI len)])), (r, .inl ((cT 0), n, .inl f)), (h2, .inr (1, [.ref r2, .int (nI len2)])), (r2, .inl ((cT 0), n2, .inl f2))]) [0, 1, 2, 3] (by decide) rfl
      exact W.zret (v := 0) hx hb hr (by first | rfl | decide) (fun t ht hW => ⟨⟨_, (), rfl, Or.inl rfl, by rw [ht]; exact hP9, va_K.moved hW.alike hK, hD9⟩, hS.F ht⟩) hS.2.2 d_By_isAlike_32
    · skip
      refine lv_iconst (v := 1) hx hb d_By_isAlike_27 (by decide) ?_
      refine lv_goto (tgt := 32) hx hb d_By_isAlike_28 (by decide) ?_
      have hP9 := hP.sub (ws' := [(h, .inr (1, [.ref r, .int (nI len)])), (r, .inl ((cT 0), n, .inl f)), (h2, .inr (1, [.ref r2, .int (nI len2)])), (r2, .inl ((cT 0), n2, .inl f2))]) [0, 1, 2, 3] rfl
      have hD9 := hD.sub (ws' := [(h, .inr (1, [.ref r, .int (nI len)])), (r, .inl ((cT 0), n, .inl f)), (h2, .inr (1, [.ref r2, .int (nI len2)])), (r2, .inl ((cT 0), n2, .inl f2))]) [0, 1, 2, 3] (by decide) rfl
      exact W.zret (v := 1) hx hb hr (by first | rfl | decide) (fun t ht hW => ⟨⟨_, (), rfl, Or.inr rfl, by rw [ht]; exact hP9, va_K.moved hW.alike hK, hD9⟩, hS.F ht⟩) hS.2.2 d_By_isAlike_32
set_option maxHeartbeats 4000000 in
set_option maxRecDepth 100000 in
/-- talkNumber -/
theorem c_talkNumber (l : Launch) (dC : Nat → ClassId) (dI : Nat → Nat → Nat) (cT : Nat → ClassId) (sz : Nat) (rq : Nat) (dr : Nat) (rr : Nat) (sa : Nat) (len : Nat) (f : Nat → Int32) (ga : Nat → Int32) (a : Nat) (hga : ga 79 = nI a) (haj : a + 1 < 1000) : Met l y_Rq_talkNumber (Cond.code y_Rq_talkNumber b_Rq_talkNumber 1 (Option.some Jvm.ClassFile.FieldType.int) :: BIG) ({ frames := 1, cells := 0, slots := 0, locals := 22 }) (va_Pc [.ref rq] (fun U => U.heap.size = sz ∧ va_P (dC, dI) vcl [(rq, .inr (4, [.ref dr, .ref sa])), (sa, .inl ((cT 0), 256, .inl ga)), (dr, .inr (2, [.ref rr, .int (nI len)])), (rr, .inl ((cT 0), 1000, .inl f))] U.heap ∧ va_K (dC, dI) vcl (tyL cT) U ∧ va_D (fun _ => True) [(rq, .inr (4, [.ref dr, .ref sa])), (sa, .inl ((cT 0), 256, .inl ga)), (dr, .inr (2, [.ref rr, .int (nI len)])), (rr, .inl ((cT 0), 1000, .inl f))])) (va_Qi (S := Unit) (fun rv9 u => rv9 = f (a + 1) ∧ (True)) (fun u t => va_P (dC, dI) vcl [(rq, .inr (4, [.ref dr, .ref sa])), (sa, .inl ((cT 0), 256, .inl ga)), (dr, .inr (2, [.ref rr, .int (nI len)])), (rr, .inl ((cT 0), 1000, .inl f))] t.heap ∧ va_K (dC, dI) vcl (tyL cT) t ∧ va_D (va_A [(rq, .inr (4, [.ref dr, .ref sa])), (sa, .inl ((cT 0), 256, .inl ga)), (dr, .inr (2, [.ref rr, .int (nI len)])), (rr, .inl ((cT 0), 1000, .inl f))] sz) [(rq, .inr (4, [.ref dr, .ref sa])), (sa, .inl ((cT 0), 256, .inl ga)), (dr, .inr (2, [.ref rr, .int (nI len)])), (rr, .inl ((cT 0), 1000, .inl f))]) (va_A [(rq, .inr (4, [.ref dr, .ref sa])), (sa, .inl ((cT 0), 256, .inl ga)), (dr, .inr (2, [.ref rr, .int (nI len)])), (rr, .inl ((cT 0), 1000, .inl f))] sz)) 0 0 (va_A [(rq, .inr (4, [.ref dr, .ref sa])), (sa, .inl ((cT 0), 256, .inl ga)), (dr, .inr (2, [.ref rr, .int (nI len)])), (rr, .inl ((cT 0), 1000, .inl f))] sz) := by
  refine Met.ofW (cc := b_Rq_talkNumber) (maxL := 1) (ret := (Option.some Jvm.ClassFile.FieldType.int)) (by decide) rfl ?_
  intro p e s m args below meth c s₁ B hml hv
  obtain ⟨hargs, hsz, hP, hK, hD0⟩ := hv
  have hx := B.exec
  have hb := B.bytes
  have hr := B.returns
  have hts := atoms_spec (ws := (Cond.code y_Rq_talkNumber b_Rq_talkNumber 1 (Option.some Jvm.ClassFile.FieldType.int) :: BIG)) B.pre
  have hg : ∀ w ∈ BIG, w.before _ s = true := fun w h => hts w (List.mem_cons_of_mem _ h)
  have hown : s.vm.findClass "DoorServer$Request" = some m.cls := findClass_of_methodNamed B.named
  have hlocks := B.notSynchronized
  subst hsz
  have hD := hD0.self (sz := s.heap.size)
  generalize hAe : va_A [(rq, .inr (4, [.ref dr, .ref sa])), (sa, .inl ((cT 0), 256, .inl ga)), (dr, .inr (2, [.ref rr, .int (nI len)])), (rr, .inl ((cT 0), 1000, .inl f))] s.heap.size = A at hD ⊢
  have hA : ∀ q : Nat, s.heap.size ≤ q → A q := fun q h => by rw [← hAe]; exact Or.inr h
  have hS : va_S A s.heap s.heap [] := va_S.rf
  have hl := lv_entry ([.ref rq]) (n := 1) (Nat.le_of_ble_eq_true rfl)
  refine W.eq (g2 := entryFrame m (List.toArray [.ref rq]) 1) (by rw [hargs]) ?_
  rw [lg_entry_eq]
  generalize (lg_sl ([.ref rq]) ++ List.replicate (1 - (lg_sl ([.ref rq])).length) Slot.unset).toArray = ls at hl ⊢
  have hl : lv_has ls 1 [(0, .ref rq)] := hl
  change W p l e ({ frames := 1, cells := 0, slots := 0, locals := 22 } : Room) s m args below meth c s.heap [] 0 0 _ _
  have hP : va_P (dC, dI) vcl [(rq, .inr (4, [.ref dr, .ref sa])), (sa, .inl ((cT 0), 256, .inl ga)), (dr, .inr (2, [.ref rr, .int (nI len)])), (rr, .inl ((cT 0), 1000, .inl f))] s.heap := hP
  refine lv_aload_n hx hb d_Rq_talkNumber_0 rfl (lv_at hl 0 rfl) ?_
  refine lv_bipush (v := 79) hx hb d_Rq_talkNumber_1 (by decide) ?_
  refine lv_topi (fun x52 e51 => ?_)
  obtain rfl : x52 = nI 79 := by rw [e51]; rfl
  refine lv_iconst (v := 1) hx hb d_Rq_talkNumber_3 (by decide) ?_
  refine lv_topi (fun x54 e53 => ?_)
  obtain rfl : x54 = nI 1 := by rw [e53]; rfl
  have hPc := hP.sub (ws' := [(rq, .inr (4, [.ref dr, .ref sa])), (sa, .inl ((cT 0), 256, .inl ga)), (dr, .inr (2, [.ref rr, .int (nI len)])), (rr, .inl ((cT 0), 1000, .inl f))]) [0, 1, 2, 3] rfl
  have hDc := hD.sub (ws' := [(rq, .inr (4, [.ref dr, .ref sa])), (sa, .inl ((cT 0), 256, .inl ga)), (dr, .inr (2, [.ref rr, .int (nI len)])), (rr, .inl ((cT 0), 1000, .inl f))]) [0, 1, 2, 3] (by decide) rfl
  have hFc := va_free (wc := [(rq, .inr (4, [.ref dr, .ref sa])), (sa, .inl ((cT 0), 256, .inl ga)), (dr, .inr (2, [.ref rr, .int (nI len)])), (rr, .inl ((cT 0), 1000, .inl f))]) hD hS hA [0, 1, 2, 3] rfl
  refine va_calli (va_runV (C := "DoorServer$Request") (As := [.int (nI 79), .int (nI 1)]) (rest := []) ⟨hx, hb, hml, hown, hg⟩ (c_byteOf l dC dI cT s.heap.size rq dr rr sa len f ga 79 a 1 (by decide) (hga) (haj)) (cwV 2 hg (gI (List.forall_mem_append.mpr ⟨List.forall_mem_cons.mpr ⟨k_765, List.forall_mem_cons.mpr ⟨k_766, List.forall_mem_cons.mpr ⟨k_767, List.forall_mem_cons.mpr ⟨k_12, fun _ h => absurd h List.not_mem_nil⟩⟩⟩⟩, List.forall_mem_cons.mpr ⟨k_768, fun _ h => h⟩⟩)) rfl rfl rfl (by decide +kernel) ⟨Nat.le_of_ble_eq_true rfl, Nat.le_of_ble_eq_true rfl⟩) ⟨fun a U g mk q => by obtain ⟨q0, q1, qP, qK, qD⟩ := q; exact ⟨q0, q1, qP, va_K.moved (u := U) (U := U.calling g mk a) (Vm.Alike.refl U.vm) qK, qD⟩, va_recv (q0 := 0) (ci := 4) hK hP rfl rfl, fun U hU hW => ⟨rfl, by rw [hU], by rw [hU]; exact hPc, va_K.moved hW.alike hK, hDc.weaken (fun _ _ _ _ => trivial)⟩⟩ rfl rfl hl.1 rfl (lv_room (Nat.le_of_ble_eq_true rfl)) d_Rq_talkNumber_4 ⟨Nat.le_of_ble_eq_true rfl, Nat.le_of_ble_eq_true rfl⟩) hS (fun q _ h => hFc q h) hFc (fun rv9 u t H1 locs ht hvm hw hB hz1 hk1 hS => ?_)
  try dsimp only at hw hB
  obtain ⟨hP1, hK1, hD1⟩ := hB
  rw [ht] at hP1
  obtain ⟨rfl, hw⟩ := hw
  obtain ⟨hP, hD⟩ := va_join (wr := []) (w1 := [(rq, .inr (4, [.ref dr, .ref sa])), (sa, .inl ((cT 0), 256, .inl ga)), (dr, .inr (2, [.ref rr, .int (nI len)])), (rr, .inl ((cT 0), 1000, .inl f))]) hP hD [0, 1, 2, 3] [] rfl rfl (by decide) (by decide) hk1 hFc hP1 hD1
  have hw55 := hw
  clear hPc hDc hFc hz1 hk1 hP1 hK1 hD1
  generalize H1 = H at hP hS ⊢
  have hP : va_P (dC, dI) vcl [(rq, .inr (4, [.ref dr, .ref sa])), (sa, .inl ((cT 0), 256, .inl ga)), (dr, .inr (2, [.ref rr, .int (nI len)])), (rr, .inl ((cT 0), 1000, .inl f))] H := hP
  have hD : va_D A [(rq, .inr (4, [.ref dr, .ref sa])), (sa, .inl ((cT 0), 256, .inl ga)), (dr, .inr (2, [.ref rr, .int (nI len)])), (rr, .inl ((cT 0), 1000, .inl f))] := hD
  have hP9 := hP.sub (ws' := [(rq, .inr (4, [.ref dr, .ref sa])), (sa, .inl ((cT 0), 256, .inl ga)), (dr, .inr (2, [.ref rr, .int (nI len)])), (rr, .inl ((cT 0), 1000, .inl f))]) [0, 1, 2, 3] rfl
  have hD9 := hD.sub (ws' := [(rq, .inr (4, [.ref dr, .ref sa])), (sa, .inl ((cT 0), 256, .inl ga)), (dr, .inr (2, [.ref rr, .int (nI len)])), (rr, .inl ((cT 0), 1000, .inl f))]) [0, 1, 2, 3] (by decide) rfl
  exact W.iret (v := f (a + 1)) hx hb hr (fun t ht hW => ⟨⟨_, (), rfl, ⟨rfl, trivial⟩, by rw [ht]; exact hP9, va_K.moved hW.alike hK, hD9⟩, hS.F ht⟩) hS.2.2 d_Rq_talkNumber_7
set_option maxHeartbeats 4000000 in
set_option maxRecDepth 100000 in
/-- talkKind -/
theorem c_talkKind (l : Launch) (dC : Nat → ClassId) (dI : Nat → Nat → Nat) (cT : Nat → ClassId) (sz : Nat) (rq : Nat) (dr : Nat) (rr : Nat) (sa : Nat) (len : Nat) (f : Nat → Int32) (ga : Nat → Int32) (a : Nat) (n : Nat) (hga : ga 79 = nI a) (ha : 22 ≤ a) (hfa : f (a - 1) = nI (n + 2)) (hal : a + n ≤ len) (hn4 : 4 ≤ n) (hlen : len ≤ 1000) : Met l y_Rq_talkKind (Cond.code y_Rq_talkKind b_Rq_talkKind 3 (Option.some Jvm.ClassFile.FieldType.int) :: BIG) ({ frames := 1, cells := 0, slots := 0, locals := 22 }) (va_Pc [.ref rq] (fun U => U.heap.size = sz ∧ va_P (dC, dI) vcl [(rq, .inr (4, [.ref dr, .ref sa])), (sa, .inl ((cT 0), 256, .inl ga)), (dr, .inr (2, [.ref rr, .int (nI len)])), (rr, .inl ((cT 0), 1000, .inl f))] U.heap ∧ va_K (dC, dI) vcl (tyL cT) U ∧ va_D (fun _ => True) [(rq, .inr (4, [.ref dr, .ref sa])), (sa, .inl ((cT 0), 256, .inl ga)), (dr, .inr (2, [.ref rr, .int (nI len)])), (rr, .inl ((cT 0), 1000, .inl f))])) (va_Qi (S := Unit) (fun rv9 u => True) (fun u t => va_P (dC, dI) vcl [(rq, .inr (4, [.ref dr, .ref sa])), (sa, .inl ((cT 0), 256, .inl ga)), (dr, .inr (2, [.ref rr, .int (nI len)])), (rr, .inl ((cT 0), 1000, .inl f))] t.heap ∧ va_K (dC, dI) vcl (tyL cT) t ∧ va_D (va_A [(rq, .inr (4, [.ref dr, .ref sa])), (sa, .inl ((cT 0), 256, .inl ga)), (dr, .inr (2, [.ref rr, .int (nI len)])), (rr, .inl ((cT 0), 1000, .inl f))] sz) [(rq, .inr (4, [.ref dr, .ref sa])), (sa, .inl ((cT 0), 256, .inl ga)), (dr, .inr (2, [.ref rr, .int (nI len)])), (rr, .inl ((cT 0), 1000, .inl f))]) (va_A [(rq, .inr (4, [.ref dr, .ref sa])), (sa, .inl ((cT 0), 256, .inl ga)), (dr, .inr (2, [.ref rr, .int (nI len)])), (rr, .inl ((cT 0), 1000, .inl f))] sz)) 0 0 (va_A [(rq, .inr (4, [.ref dr, .ref sa])), (sa, .inl ((cT 0), 256, .inl ga)), (dr, .inr (2, [.ref rr, .int (nI len)])), (rr, .inl ((cT 0), 1000, .inl f))] sz) := by
  refine Met.ofW (cc := b_Rq_talkKind) (maxL := 3) (ret := (Option.some Jvm.ClassFile.FieldType.int)) (by decide) rfl ?_
  intro p e s m args below meth c s₁ B hml hv
  obtain ⟨hargs, hsz, hP, hK, hD0⟩ := hv
  have hx := B.exec
  have hb := B.bytes
  have hr := B.returns
  have hts := atoms_spec (ws := (Cond.code y_Rq_talkKind b_Rq_talkKind 3 (Option.some Jvm.ClassFile.FieldType.int) :: BIG)) B.pre
  have hg : ∀ w ∈ BIG, w.before _ s = true := fun w h => hts w (List.mem_cons_of_mem _ h)
  have hown : s.vm.findClass "DoorServer$Request" = some m.cls := findClass_of_methodNamed B.named
  have hlocks := B.notSynchronized
  subst hsz
  have hD := hD0.self (sz := s.heap.size)
  generalize hAe : va_A [(rq, .inr (4, [.ref dr, .ref sa])), (sa, .inl ((cT 0), 256, .inl ga)), (dr, .inr (2, [.ref rr, .int (nI len)])), (rr, .inl ((cT 0), 1000, .inl f))] s.heap.size = A at hD ⊢
  have hA : ∀ q : Nat, s.heap.size ≤ q → A q := fun q h => by rw [← hAe]; exact Or.inr h
  have hS : va_S A s.heap s.heap [] := va_S.rf
  have hl := lv_entry ([.ref rq]) (n := 3) (Nat.le_of_ble_eq_true rfl)
  refine W.eq (g2 := entryFrame m (List.toArray [.ref rq]) 3) (by rw [hargs]) ?_
  rw [lg_entry_eq]
  generalize (lg_sl ([.ref rq]) ++ List.replicate (3 - (lg_sl ([.ref rq])).length) Slot.unset).toArray = ls at hl ⊢
  have hl : lv_has ls 3 [(0, .ref rq)] := hl
  change W p l e ({ frames := 1, cells := 0, slots := 0, locals := 22 } : Room) s m args below meth c s.heap [] 0 0 _ _
  have hP : va_P (dC, dI) vcl [(rq, .inr (4, [.ref dr, .ref sa])), (sa, .inl ((cT 0), 256, .inl ga)), (dr, .inr (2, [.ref rr, .int (nI len)])), (rr, .inl ((cT 0), 1000, .inl f))] s.heap := hP
  refine lv_aload_n hx hb d_Rq_talkKind_0 rfl (lv_at hl 0 rfl) ?_
  refine lv_bipush (v := 79) hx hb d_Rq_talkKind_1 (by decide) ?_
  refine lv_topi (fun x57 e56 => ?_)
  obtain rfl : x57 = nI 79 := by rw [e56]; rfl
  have hPc := hP.sub (ws' := [(rq, .inr (4, [.ref dr, .ref sa])), (sa, .inl ((cT 0), 256, .inl ga)), (dr, .inr (2, [.ref rr, .int (nI len)])), (rr, .inl ((cT 0), 1000, .inl f))]) [0, 1, 2, 3] rfl
  have hDc := hD.sub (ws' := [(rq, .inr (4, [.ref dr, .ref sa])), (sa, .inl ((cT 0), 256, .inl ga)), (dr, .inr (2, [.ref rr, .int (nI len)])), (rr, .inl ((cT 0), 1000, .inl f))]) [0, 1, 2, 3] (by decide) rfl
  have hFc := va_free (wc := [(rq, .inr (4, [.ref dr, .ref sa])), (sa, .inl ((cT 0), 256, .inl ga)), (dr, .inr (2, [.ref rr, .int (nI len)])), (rr, .inl ((cT 0), 1000, .inl f))]) hD hS hA [0, 1, 2, 3] rfl
  refine va_calli (va_runV (C := "DoorServer$Request") (As := [.int (nI 79)]) (rest := []) ⟨hx, hb, hml, hown, hg⟩ (c_lengthOf l dC dI cT s.heap.size rq dr rr sa len f ga 79 a n (by decide) (hga) (ha) (hfa) (hal) (hlen)) (cwV 1 hg (gI (List.forall_mem_append.mpr ⟨List.forall_mem_cons.mpr ⟨k_761, List.forall_mem_cons.mpr ⟨k_762, List.forall_mem_cons.mpr ⟨k_763, List.forall_mem_cons.mpr ⟨k_12, fun _ h => absurd h List.not_mem_nil⟩⟩⟩⟩, List.forall_mem_cons.mpr ⟨k_764, fun _ h => h⟩⟩)) rfl rfl rfl (by decide +kernel) ⟨Nat.le_of_ble_eq_true rfl, Nat.le_of_ble_eq_true rfl⟩) ⟨fun a U g mk q => by obtain ⟨q0, q1, qP, qK, qD⟩ := q; exact ⟨q0, q1, qP, va_K.moved (u := U) (U := U.calling g mk a) (Vm.Alike.refl U.vm) qK, qD⟩, va_recv (q0 := 0) (ci := 4) hK hP rfl rfl, fun U hU hW => ⟨rfl, by rw [hU], by rw [hU]; exact hPc, va_K.moved hW.alike hK, hDc.weaken (fun _ _ _ _ => trivial)⟩⟩ rfl rfl hl.1 rfl (lv_room (Nat.le_of_ble_eq_true rfl)) d_Rq_talkKind_3 ⟨Nat.le_of_ble_eq_true rfl, Nat.le_of_ble_eq_true rfl⟩) hS (fun q _ h => hFc q h) hFc (fun rv9 u t H1 locs ht hvm hw hB hz1 hk1 hS => ?_)
  try dsimp only at hw hB
  obtain ⟨hP1, hK1, hD1⟩ := hB
  rw [ht] at hP1
  obtain ⟨rfl, hw⟩ := hw
  obtain ⟨hP, hD⟩ := va_join (wr := []) (w1 := [(rq, .inr (4, [.ref dr, .ref sa])), (sa, .inl ((cT 0), 256, .inl ga)), (dr, .inr (2, [.ref rr, .int (nI len)])), (rr, .inl ((cT 0), 1000, .inl f))]) hP hD [0, 1, 2, 3] [] rfl rfl (by decide) (by decide) hk1 hFc hP1 hD1
  have hw58 := hw
  clear hPc hDc hFc hz1 hk1 hP1 hK1 hD1
  generalize H1 = H at hP hS ⊢
  have hP : va_P (dC, dI) vcl [(rq, .inr (4, [.ref dr, .ref sa])), (sa, .inl ((cT 0), 256, .inl ga)), (dr, .inr (2, [.ref rr, .int (nI len)])), (rr, .inl ((cT 0), 1000, .inl f))] H := hP
  have hD : va_D A [(rq, .inr (4, [.ref dr, .ref sa])), (sa, .inl ((cT 0), 256, .inl ga)), (dr, .inr (2, [.ref rr, .int (nI len)])), (rr, .inl ((cT 0), 1000, .inl f))] := hD
  refine lv_istore_n (lv' := [(1, .int (nI n)), (0, .ref rq)]) hx hb d_Rq_talkKind_6 rfl hl (by decide) rfl (fun ls hl => ?_)
  refine lv_aload_n hx hb d_Rq_talkKind_7 rfl (lv_at hl 1 rfl) ?_
  refine lv_bipush (v := 79) hx hb d_Rq_talkKind_8 (by decide) ?_
  refine lv_topi (fun x60 e59 => ?_)
  obtain rfl : x60 = nI 79 := by rw [e59]; rfl
  refine lv_iconst (v := 2) hx hb d_Rq_talkKind_10 (by decide) ?_
  refine lv_topi (fun x62 e61 => ?_)
  obtain rfl : x62 = nI 2 := by rw [e61]; rfl
  have hPc := hP.sub (ws' := [(rq, .inr (4, [.ref dr, .ref sa])), (sa, .inl ((cT 0), 256, .inl ga)), (dr, .inr (2, [.ref rr, .int (nI len)])), (rr, .inl ((cT 0), 1000, .inl f))]) [0, 1, 2, 3] rfl
  have hDc := hD.sub (ws' := [(rq, .inr (4, [.ref dr, .ref sa])), (sa, .inl ((cT 0), 256, .inl ga)), (dr, .inr (2, [.ref rr, .int (nI len)])), (rr, .inl ((cT 0), 1000, .inl f))]) [0, 1, 2, 3] (by decide) rfl
  have hFc := va_free (wc := [(rq, .inr (4, [.ref dr, .ref sa])), (sa, .inl ((cT 0), 256, .inl ga)), (dr, .inr (2, [.ref rr, .int (nI len)])), (rr, .inl ((cT 0), 1000, .inl f))]) hD hS hA [0, 1, 2, 3] rfl
  refine va_calli (va_runV (C := "DoorServer$Request") (As := [.int (nI 79), .int (nI 2)]) (rest := []) ⟨hx, hb, hml, hown, hg⟩ (c_byteOf l dC dI cT H.size rq dr rr sa len f ga 79 a 2 (by decide) (hga) (by omega)) (cwV 2 hg (gI (List.forall_mem_append.mpr ⟨List.forall_mem_cons.mpr ⟨k_765, List.forall_mem_cons.mpr ⟨k_766, List.forall_mem_cons.mpr ⟨k_767, List.forall_mem_cons.mpr ⟨k_12, fun _ h => absurd h List.not_mem_nil⟩⟩⟩⟩, List.forall_mem_cons.mpr ⟨k_768, fun _ h => h⟩⟩)) rfl rfl rfl (by decide +kernel) ⟨Nat.le_of_ble_eq_true rfl, Nat.le_of_ble_eq_true rfl⟩) ⟨fun a U g mk q => by obtain ⟨q0, q1, qP, qK, qD⟩ := q; exact ⟨q0, q1, qP, va_K.moved (u := U) (U := U.calling g mk a) (Vm.Alike.refl U.vm) qK, qD⟩, va_recv (q0 := 0) (ci := 4) hK hP rfl rfl, fun U hU hW => ⟨rfl, by rw [hU], by rw [hU]; exact hPc, va_K.moved hW.alike hK, hDc.weaken (fun _ _ _ _ => trivial)⟩⟩ rfl rfl hl.1 rfl (lv_room (Nat.le_of_ble_eq_true rfl)) d_Rq_talkKind_11 ⟨Nat.le_of_ble_eq_true rfl, Nat.le_of_ble_eq_true rfl⟩) hS (fun q _ h => hFc q h) hFc (fun rv9 u t H1 locs ht hvm hw hB hz1 hk1 hS => ?_)
  try dsimp only at hw hB
  obtain ⟨hP1, hK1, hD1⟩ := hB
  rw [ht] at hP1
  obtain ⟨rfl, hw⟩ := hw
  obtain ⟨hP, hD⟩ := va_join (wr := []) (w1 := [(rq, .inr (4, [.ref dr, .ref sa])), (sa, .inl ((cT 0), 256, .inl ga)), (dr, .inr (2, [.ref rr, .int (nI len)])), (rr, .inl ((cT 0), 1000, .inl f))]) hP hD [0, 1, 2, 3] [] rfl rfl (by decide) (by decide) hk1 hFc hP1 hD1
  have hw63 := hw
  clear hPc hDc hFc hz1 hk1 hP1 hK1 hD1
  generalize H1 = H at hP hS ⊢
  have hP : va_P (dC, dI) vcl [(rq, .inr (4, [.ref dr, .ref sa])), (sa, .inl ((cT 0), 256, .inl ga)), (dr, .inr (2, [.ref rr, .int (nI len)])), (rr, .inl ((cT 0), 1000, .inl f))] H := hP
  have hD : va_D A [(rq, .inr (4, [.ref dr, .ref sa])), (sa, .inl ((cT 0), 256, .inl ga)), (dr, .inr (2, [.ref rr, .int (nI len)])), (rr, .inl ((cT 0), 1000, .inl f))] := hD
  refine lv_sipush (v := 256) hx hb d_Rq_talkKind_14 (by decide) ?_
  refine lv_imul hx hb d_Rq_talkKind_17 ?_
  refine lv_aload_n hx hb d_Rq_talkKind_18 rfl (lv_at hl 1 rfl) ?_
  refine lv_bipush (v := 79) hx hb d_Rq_talkKind_19 (by decide) ?_
  refine lv_topi (fun x65 e64 => ?_)
  obtain rfl : x65 = nI 79 := by rw [e64]; rfl
  refine lv_iconst (v := 3) hx hb d_Rq_talkKind_21 (by decide) ?_
  refine lv_topi (fun x67 e66 => ?_)
  obtain rfl : x67 = nI 3 := by rw [e66]; rfl
  have hPc := hP.sub (ws' := [(rq, .inr (4, [.ref dr, .ref sa])), (sa, .inl ((cT 0), 256, .inl ga)), (dr, .inr (2, [.ref rr, .int (nI len)])), (rr, .inl ((cT 0), 1000, .inl f))]) [0, 1, 2, 3] rfl
  have hDc := hD.sub (ws' := [(rq, .inr (4, [.ref dr, .ref sa])), (sa, .inl ((cT 0), 256, .inl ga)), (dr, .inr (2, [.ref rr, .int (nI len)])), (rr, .inl ((cT 0), 1000, .inl f))]) [0, 1, 2, 3] (by decide) rfl
  have hFc := va_free (wc := [(rq, .inr (4, [.ref dr, .ref sa])), (sa, .inl ((cT 0), 256, .inl ga)), (dr, .inr (2, [.ref rr, .int (nI len)])), (rr, .inl ((cT 0), 1000, .inl f))]) hD hS hA [0, 1, 2, 3] rfl
  refine va_calli (va_runV (C := "DoorServer$Request") (As := [.int (nI 79), .int (nI 3)]) (rest := [.int ((f (a + 2)) * 256)]) ⟨hx, hb, hml, hown, hg⟩ (c_byteOf l dC dI cT H.size rq dr rr sa len f ga 79 a 3 (by decide) (hga) (by omega)) (cwV 2 hg (gI (List.forall_mem_append.mpr ⟨List.forall_mem_cons.mpr ⟨k_765, List.forall_mem_cons.mpr ⟨k_766, List.forall_mem_cons.mpr ⟨k_767, List.forall_mem_cons.mpr ⟨k_12, fun _ h => absurd h List.not_mem_nil⟩⟩⟩⟩, List.forall_mem_cons.mpr ⟨k_768, fun _ h => h⟩⟩)) rfl rfl rfl (by decide +kernel) ⟨Nat.le_of_ble_eq_true rfl, Nat.le_of_ble_eq_true rfl⟩) ⟨fun a U g mk q => by obtain ⟨q0, q1, qP, qK, qD⟩ := q; exact ⟨q0, q1, qP, va_K.moved (u := U) (U := U.calling g mk a) (Vm.Alike.refl U.vm) qK, qD⟩, va_recv (q0 := 0) (ci := 4) hK hP rfl rfl, fun U hU hW => ⟨rfl, by rw [hU], by rw [hU]; exact hPc, va_K.moved hW.alike hK, hDc.weaken (fun _ _ _ _ => trivial)⟩⟩ rfl rfl hl.1 rfl (lv_room (Nat.le_of_ble_eq_true rfl)) d_Rq_talkKind_22 ⟨Nat.le_of_ble_eq_true rfl, Nat.le_of_ble_eq_true rfl⟩) hS (fun q _ h => hFc q h) hFc (fun rv9 u t H1 locs ht hvm hw hB hz1 hk1 hS => ?_)
  try dsimp only at hw hB
  obtain ⟨hP1, hK1, hD1⟩ := hB
  rw [ht] at hP1
  obtain ⟨rfl, hw⟩ := hw
  obtain ⟨hP, hD⟩ := va_join (wr := []) (w1 := [(rq, .inr (4, [.ref dr, .ref sa])), (sa, .inl ((cT 0), 256, .inl ga)), (dr, .inr (2, [.ref rr, .int (nI len)])), (rr, .inl ((cT 0), 1000, .inl f))]) hP hD [0, 1, 2, 3] [] rfl rfl (by decide) (by decide) hk1 hFc hP1 hD1
  have hw68 := hw
  clear hPc hDc hFc hz1 hk1 hP1 hK1 hD1
  generalize H1 = H at hP hS ⊢
  have hP : va_P (dC, dI) vcl [(rq, .inr (4, [.ref dr, .ref sa])), (sa, .inl ((cT 0), 256, .inl ga)), (dr, .inr (2, [.ref rr, .int (nI len)])), (rr, .inl ((cT 0), 1000, .inl f))] H := hP
  have hD : va_D A [(rq, .inr (4, [.ref dr, .ref sa])), (sa, .inl ((cT 0), 256, .inl ga)), (dr, .inr (2, [.ref rr, .int (nI len)])), (rr, .inl ((cT 0), 1000, .inl f))] := hD
  refine lv_iadd hx hb d_Rq_talkKind_25 ?_
  refine lv_iload_n hx hb d_Rq_talkKind_26 rfl (lv_at hl 0 rfl) ?_
  refine lv_icmp_ne (tgt := 34) hx hb d_Rq_talkKind_27 (by decide) (fun hc69 => ?_) (fun hc69 => ?_)
  · skip
    refine lv_iconst (v := 0) hx hb d_Rq_talkKind_34 (by decide) ?_
    refine lv_istore_n (lv' := [(2, .int 0), (1, .int (nI n)), (0, .ref rq)]) hx hb d_Rq_talkKind_35 rfl hl (by decide) rfl (fun ls hl => ?_)
    refine lv_iload_n hx hb d_Rq_talkKind_36 rfl (lv_at hl 1 rfl) ?_
    refine lv_iconst (v := 5) hx hb d_Rq_talkKind_37 (by decide) ?_
    refine lv_icmp_lt (tgt := 66) hx hb d_Rq_talkKind_38 (by decide) (fun hc70 => ?_) (fun hc70 => ?_)
    · skip
      refine lv_iconst (v := (-1)) hx hb d_Rq_talkKind_66 (by decide) ?_
      have hP9 := hP.sub (ws' := [(rq, .inr (4, [.ref dr, .ref sa])), (sa, .inl ((cT 0), 256, .inl ga)), (dr, .inr (2, [.ref rr, .int (nI len)])), (rr, .inl ((cT 0), 1000, .inl f))]) [0, 1, 2, 3] rfl
      have hD9 := hD.sub (ws' := [(rq, .inr (4, [.ref dr, .ref sa])), (sa, .inl ((cT 0), 256, .inl ga)), (dr, .inr (2, [.ref rr, .int (nI len)])), (rr, .inl ((cT 0), 1000, .inl f))]) [0, 1, 2, 3] (by decide) rfl
      exact W.iret (v := (-1)) hx hb hr (fun t ht hW => ⟨⟨_, (), rfl, trivial, by rw [ht]; exact hP9, va_K.moved hW.alike hK, hD9⟩, hS.F ht⟩) hS.2.2 d_Rq_talkKind_67
    · skip
      have h5 : 5 ≤ n := Nat.not_lt.mp (fun h7 => hc70 (nI_lt (b := 5) h7 (by decide)))
      refine lv_iload_n hx hb d_Rq_talkKind_41 rfl (lv_at hl 0 rfl) ?_
      refine lv_if_eq (tgt := 66) hx hb d_Rq_talkKind_42 (by decide) (fun hc71 => ?_) (fun hn9 => absurd (by decide) hn9)
      refine lv_iconst (v := (-1)) hx hb d_Rq_talkKind_66 (by decide) ?_
      have hP9 := hP.sub (ws' := [(rq, .inr (4, [.ref dr, .ref sa])), (sa, .inl ((cT 0), 256, .inl ga)), (dr, .inr (2, [.ref rr, .int (nI len)])), (rr, .inl ((cT 0), 1000, .inl f))]) [0, 1, 2, 3] rfl
      have hD9 := hD.sub (ws' := [(rq, .inr (4, [.ref dr, .ref sa])), (sa, .inl ((cT 0), 256, .inl ga)), (dr, .inr (2, [.ref rr, .int (nI len)])), (rr, .inl ((cT 0), 1000, .inl f))]) [0, 1, 2, 3] (by decide) rfl
      exact W.iret (v := (-1)) hx hb hr (fun t ht hW => ⟨⟨_, (), rfl, trivial, by rw [ht]; exact hP9, va_K.moved hW.alike hK, hD9⟩, hS.F ht⟩) hS.2.2 d_Rq_talkKind_67
  · skip
    refine lv_iconst (v := 1) hx hb d_Rq_talkKind_30 (by decide) ?_
    refine lv_goto (tgt := 35) hx hb d_Rq_talkKind_31 (by decide) ?_
    refine lv_istore_n (lv' := [(2, .int 1), (1, .int (nI n)), (0, .ref rq)]) hx hb d_Rq_talkKind_35 rfl hl (by decide) rfl (fun ls hl => ?_)
    refine lv_iload_n hx hb d_Rq_talkKind_36 rfl (lv_at hl 1 rfl) ?_
    refine lv_iconst (v := 5) hx hb d_Rq_talkKind_37 (by decide) ?_
    refine lv_icmp_lt (tgt := 66) hx hb d_Rq_talkKind_38 (by decide) (fun hc72 => ?_) (fun hc72 => ?_)
    · skip
      refine lv_iconst (v := (-1)) hx hb d_Rq_talkKind_66 (by decide) ?_
      have hP9 := hP.sub (ws' := [(rq, .inr (4, [.ref dr, .ref sa])), (sa, .inl ((cT 0), 256, .inl ga)), (dr, .inr (2, [.ref rr, .int (nI len)])), (rr, .inl ((cT 0), 1000, .inl f))]) [0, 1, 2, 3] rfl
      have hD9 := hD.sub (ws' := [(rq, .inr (4, [.ref dr, .ref sa])), (sa, .inl ((cT 0), 256, .inl ga)), (dr, .inr (2, [.ref rr, .int (nI len)])), (rr, .inl ((cT 0), 1000, .inl f))]) [0, 1, 2, 3] (by decide) rfl
      exact W.iret (v := (-1)) hx hb hr (fun t ht hW => ⟨⟨_, (), rfl, trivial, by rw [ht]; exact hP9, va_K.moved hW.alike hK, hD9⟩, hS.F ht⟩) hS.2.2 d_Rq_talkKind_67
    · skip
      have h5 : 5 ≤ n := Nat.not_lt.mp (fun h7 => hc72 (nI_lt (b := 5) h7 (by decide)))
      refine lv_iload_n hx hb d_Rq_talkKind_41 rfl (lv_at hl 0 rfl) ?_
      refine lv_if_eq (tgt := 66) hx hb d_Rq_talkKind_42 (by decide) (fun hn9 => absurd hn9 (by decide)) (fun hc73 => ?_)
      refine lv_aload_n hx hb d_Rq_talkKind_45 rfl (lv_at hl 2 rfl) ?_
      refine lv_bipush (v := 79) hx hb d_Rq_talkKind_46 (by decide) ?_
      refine lv_topi (fun x75 e74 => ?_)
      obtain rfl : x75 = nI 79 := by rw [e74]; rfl
      refine lv_iconst (v := 0) hx hb d_Rq_talkKind_48 (by decide) ?_
      refine lv_topi (fun x77 e76 => ?_)
      obtain rfl : x77 = nI 0 := by rw [e76]; rfl
      have hPc := hP.sub (ws' := [(rq, .inr (4, [.ref dr, .ref sa])), (sa, .inl ((cT 0), 256, .inl ga)), (dr, .inr (2, [.ref rr, .int (nI len)])), (rr, .inl ((cT 0), 1000, .inl f))]) [0, 1, 2, 3] rfl
      have hDc := hD.sub (ws' := [(rq, .inr (4, [.ref dr, .ref sa])), (sa, .inl ((cT 0), 256, .inl ga)), (dr, .inr (2, [.ref rr, .int (nI len)])), (rr, .inl ((cT 0), 1000, .inl f))]) [0, 1, 2, 3] (by decide) rfl
      have hFc := va_free (wc := [(rq, .inr (4, [.ref dr, .ref sa])), (sa, .inl ((cT 0), 256, .inl ga)), (dr, .inr (2, [.ref rr, .int (nI len)])), (rr, .inl ((cT 0), 1000, .inl f))]) hD hS hA [0, 1, 2, 3] rfl
      refine va_calli (va_runV (C := "DoorServer$Request") (As := [.int (nI 79), .int (nI 0)]) (rest := []) ⟨hx, hb, hml, hown, hg⟩ (c_byteOf l dC dI cT H.size rq dr rr sa len f ga 79 a 0 (by decide) (hga) (by omega)) (cwV 2 hg (gI (List.forall_mem_append.mpr ⟨List.forall_mem_cons.mpr ⟨k_765, List.forall_mem_cons.mpr ⟨k_766, List.forall_mem_cons.mpr ⟨k_767, List.forall_mem_cons.mpr ⟨k_12, fun _ h => absurd h List.not_mem_nil⟩⟩⟩⟩, List.forall_mem_cons.mpr ⟨k_768, fun _ h => h⟩⟩)) rfl rfl rfl (by decide +kernel) ⟨Nat.le_of_ble_eq_true rfl, Nat.le_of_ble_eq_true rfl⟩) ⟨fun a U g mk q => by obtain ⟨q0, q1, qP, qK, qD⟩ := q; exact ⟨q0, q1, qP, va_K.moved (u := U) (U := U.calling g mk a) (Vm.Alike.refl U.vm) qK, qD⟩, va_recv (q0 := 0) (ci := 4) hK hP rfl rfl, fun U hU hW => ⟨rfl, by rw [hU], by rw [hU]; exact hPc, va_K.moved hW.alike hK, hDc.weaken (fun _ _ _ _ => trivial)⟩⟩ rfl rfl hl.1 rfl (lv_room (Nat.le_of_ble_eq_true rfl)) d_Rq_talkKind_49 ⟨Nat.le_of_ble_eq_true rfl, Nat.le_of_ble_eq_true rfl⟩) hS (fun q _ h => hFc q h) hFc (fun rv9 u t H1 locs ht hvm hw hB hz1 hk1 hS => ?_)
      try dsimp only at hw hB
      obtain ⟨hP1, hK1, hD1⟩ := hB
      rw [ht] at hP1
      obtain ⟨rfl, hw⟩ := hw
      obtain ⟨hP, hD⟩ := va_join (wr := []) (w1 := [(rq, .inr (4, [.ref dr, .ref sa])), (sa, .inl ((cT 0), 256, .inl ga)), (dr, .inr (2, [.ref rr, .int (nI len)])), (rr, .inl ((cT 0), 1000, .inl f))]) hP hD [0, 1, 2, 3] [] rfl rfl (by decide) (by decide) hk1 hFc hP1 hD1
      have hw78 := hw
      clear hPc hDc hFc hz1 hk1 hP1 hK1 hD1
      generalize H1 = H at hP hS ⊢
      have hP : va_P (dC, dI) vcl [(rq, .inr (4, [.ref dr, .ref sa])), (sa, .inl ((cT 0), 256, .inl ga)), (dr, .inr (2, [.ref rr, .int (nI len)])), (rr, .inl ((cT 0), 1000, .inl f))] H := hP
      have hD : va_D A [(rq, .inr (4, [.ref dr, .ref sa])), (sa, .inl ((cT 0), 256, .inl ga)), (dr, .inr (2, [.ref rr, .int (nI len)])), (rr, .inl ((cT 0), 1000, .inl f))] := hD
      refine lv_iconst (v := 2) hx hb d_Rq_talkKind_52 (by decide) ?_
      refine lv_icmp_ne (tgt := 66) hx hb d_Rq_talkKind_53 (by decide) (fun hc79 => ?_) (fun hc79 => ?_)
      · skip
        refine lv_iconst (v := (-1)) hx hb d_Rq_talkKind_66 (by decide) ?_
        have hP9 := hP.sub (ws' := [(rq, .inr (4, [.ref dr, .ref sa])), (sa, .inl ((cT 0), 256, .inl ga)), (dr, .inr (2, [.ref rr, .int (nI len)])), (rr, .inl ((cT 0), 1000, .inl f))]) [0, 1, 2, 3] rfl
        have hD9 := hD.sub (ws' := [(rq, .inr (4, [.ref dr, .ref sa])), (sa, .inl ((cT 0), 256, .inl ga)), (dr, .inr (2, [.ref rr, .int (nI len)])), (rr, .inl ((cT 0), 1000, .inl f))]) [0, 1, 2, 3] (by decide) rfl
        exact W.iret (v := (-1)) hx hb hr (fun t ht hW => ⟨⟨_, (), rfl, trivial, by rw [ht]; exact hP9, va_K.moved hW.alike hK, hD9⟩, hS.F ht⟩) hS.2.2 d_Rq_talkKind_67
      · skip
        refine lv_aload_n hx hb d_Rq_talkKind_56 rfl (lv_at hl 2 rfl) ?_
        refine lv_bipush (v := 79) hx hb d_Rq_talkKind_57 (by decide) ?_
        refine lv_topi (fun x81 e80 => ?_)
        obtain rfl : x81 = nI 79 := by rw [e80]; rfl
        refine lv_iconst (v := 4) hx hb d_Rq_talkKind_59 (by decide) ?_
        refine lv_topi (fun x83 e82 => ?_)
        obtain rfl : x83 = nI 4 := by rw [e82]; rfl
        have hPc := hP.sub (ws' := [(rq, .inr (4, [.ref dr, .ref sa])), (sa, .inl ((cT 0), 256, .inl ga)), (dr, .inr (2, [.ref rr, .int (nI len)])), (rr, .inl ((cT 0), 1000, .inl f))]) [0, 1, 2, 3] rfl
        have hDc := hD.sub (ws' := [(rq, .inr (4, [.ref dr, .ref sa])), (sa, .inl ((cT 0), 256, .inl ga)), (dr, .inr (2, [.ref rr, .int (nI len)])), (rr, .inl ((cT 0), 1000, .inl f))]) [0, 1, 2, 3] (by decide) rfl
        have hFc := va_free (wc := [(rq, .inr (4, [.ref dr, .ref sa])), (sa, .inl ((cT 0), 256, .inl ga)), (dr, .inr (2, [.ref rr, .int (nI len)])), (rr, .inl ((cT 0), 1000, .inl f))]) hD hS hA [0, 1, 2, 3] rfl
        refine va_calli (va_runV (C := "DoorServer$Request") (As := [.int (nI 79), .int (nI 4)]) (rest := []) ⟨hx, hb, hml, hown, hg⟩ (c_byteOf l dC dI cT H.size rq dr rr sa len f ga 79 a 4 (by decide) (hga) (by omega)) (cwV 2 hg (gI (List.forall_mem_append.mpr ⟨List.forall_mem_cons.mpr ⟨k_765, List.forall_mem_cons.mpr ⟨k_766, List.forall_mem_cons.mpr ⟨k_767, List.forall_mem_cons.mpr ⟨k_12, fun _ h => absurd h List.not_mem_nil⟩⟩⟩⟩, List.forall_mem_cons.mpr ⟨k_768, fun _ h => h⟩⟩)) rfl rfl rfl (by decide +kernel) ⟨Nat.le_of_ble_eq_true rfl, Nat.le_of_ble_eq_true rfl⟩) ⟨fun a U g mk q => by obtain ⟨q0, q1, qP, qK, qD⟩ := q; exact ⟨q0, q1, qP, va_K.moved (u := U) (U := U.calling g mk a) (Vm.Alike.refl U.vm) qK, qD⟩, va_recv (q0 := 0) (ci := 4) hK hP rfl rfl, fun U hU hW => ⟨rfl, by rw [hU], by rw [hU]; exact hPc, va_K.moved hW.alike hK, hDc.weaken (fun _ _ _ _ => trivial)⟩⟩ rfl rfl hl.1 rfl (lv_room (Nat.le_of_ble_eq_true rfl)) d_Rq_talkKind_60 ⟨Nat.le_of_ble_eq_true rfl, Nat.le_of_ble_eq_true rfl⟩) hS (fun q _ h => hFc q h) hFc (fun rv9 u t H1 locs ht hvm hw hB hz1 hk1 hS => ?_)
        try dsimp only at hw hB
        obtain ⟨hP1, hK1, hD1⟩ := hB
        rw [ht] at hP1
        obtain ⟨rfl, hw⟩ := hw
        obtain ⟨hP, hD⟩ := va_join (wr := []) (w1 := [(rq, .inr (4, [.ref dr, .ref sa])), (sa, .inl ((cT 0), 256, .inl ga)), (dr, .inr (2, [.ref rr, .int (nI len)])), (rr, .inl ((cT 0), 1000, .inl f))]) hP hD [0, 1, 2, 3] [] rfl rfl (by decide) (by decide) hk1 hFc hP1 hD1
        have hw84 := hw
        clear hPc hDc hFc hz1 hk1 hP1 hK1 hD1
        generalize H1 = H at hP hS ⊢
        have hP : va_P (dC, dI) vcl [(rq, .inr (4, [.ref dr, .ref sa])), (sa, .inl ((cT 0), 256, .inl ga)), (dr, .inr (2, [.ref rr, .int (nI len)])), (rr, .inl ((cT 0), 1000, .inl f))] H := hP
        have hD : va_D A [(rq, .inr (4, [.ref dr, .ref sa])), (sa, .inl ((cT 0), 256, .inl ga)), (dr, .inr (2, [.ref rr, .int (nI len)])), (rr, .inl ((cT 0), 1000, .inl f))] := hD
        refine lv_goto (tgt := 67) hx hb d_Rq_talkKind_63 (by decide) ?_
        have hP9 := hP.sub (ws' := [(rq, .inr (4, [.ref dr, .ref sa])), (sa, .inl ((cT 0), 256, .inl ga)), (dr, .inr (2, [.ref rr, .int (nI len)])), (rr, .inl ((cT 0), 1000, .inl f))]) [0, 1, 2, 3] rfl
        have hD9 := hD.sub (ws' := [(rq, .inr (4, [.ref dr, .ref sa])), (sa, .inl ((cT 0), 256, .inl ga)), (dr, .inr (2, [.ref rr, .int (nI len)])), (rr, .inl ((cT 0), 1000, .inl f))]) [0, 1, 2, 3] (by decide) rfl
        exact W.iret (v := f (a + 4)) hx hb hr (fun t ht hW => ⟨⟨_, (), rfl, trivial, by rw [ht]; exact hP9, va_K.moved hW.alike hK, hD9⟩, hS.F ht⟩) hS.2.2 d_Rq_talkKind_67
set_option maxHeartbeats 4000000 in
set_option maxRecDepth 100000 in
/-- namedUser -/
theorem c_named (l : Launch) (dC : Nat → ClassId) (dI : Nat → Nat → Nat) (cT : Nat → ClassId) (sz : Nat) (rq : Nat) (dr : Nat) (rr : Nat) (sa : Nat) (len : Nat) (f : Nat → Int32) (ga : Nat → Int32) (hq : RQW ga f len) (hab : AB f) (hlen : len ≤ 1000) : Met l y_Rq_namedUser (Cond.code y_Rq_namedUser b_Rq_namedUser 3 (Option.some Jvm.ClassFile.FieldType.int) :: BIG) ({ frames := 1, cells := 0, slots := 0, locals := 22 }) (va_Pc [.ref rq] (fun U => U.heap.size = sz ∧ va_P (dC, dI) vcl [(rq, .inr (4, [.ref dr, .ref sa])), (sa, .inl ((cT 0), 256, .inl ga)), (dr, .inr (2, [.ref rr, .int (nI len)])), (rr, .inl ((cT 0), 1000, .inl f))] U.heap ∧ va_K (dC, dI) vcl (tyL cT) U ∧ va_D (fun _ => True) [(rq, .inr (4, [.ref dr, .ref sa])), (sa, .inl ((cT 0), 256, .inl ga)), (dr, .inr (2, [.ref rr, .int (nI len)])), (rr, .inl ((cT 0), 1000, .inl f))])) (va_Qi (S := Unit) (fun rv9 u => rv9 = -1 ∨ ∃ u : Nat, u < 32 ∧ rv9 = nI u) (fun u t => va_P (dC, dI) vcl [(rq, .inr (4, [.ref dr, .ref sa])), (sa, .inl ((cT 0), 256, .inl ga)), (dr, .inr (2, [.ref rr, .int (nI len)])), (rr, .inl ((cT 0), 1000, .inl f))] t.heap ∧ va_K (dC, dI) vcl (tyL cT) t ∧ va_D (va_A [(rq, .inr (4, [.ref dr, .ref sa])), (sa, .inl ((cT 0), 256, .inl ga)), (dr, .inr (2, [.ref rr, .int (nI len)])), (rr, .inl ((cT 0), 1000, .inl f))] sz) [(rq, .inr (4, [.ref dr, .ref sa])), (sa, .inl ((cT 0), 256, .inl ga)), (dr, .inr (2, [.ref rr, .int (nI len)])), (rr, .inl ((cT 0), 1000, .inl f))]) (va_A [(rq, .inr (4, [.ref dr, .ref sa])), (sa, .inl ((cT 0), 256, .inl ga)), (dr, .inr (2, [.ref rr, .int (nI len)])), (rr, .inl ((cT 0), 1000, .inl f))] sz)) 0 0 (va_A [(rq, .inr (4, [.ref dr, .ref sa])), (sa, .inl ((cT 0), 256, .inl ga)), (dr, .inr (2, [.ref rr, .int (nI len)])), (rr, .inl ((cT 0), 1000, .inl f))] sz) := by
  refine Met.ofW (cc := b_Rq_namedUser) (maxL := 3) (ret := (Option.some Jvm.ClassFile.FieldType.int)) (by decide) rfl ?_
  intro p e s m args below meth c s₁ B hml hv
  obtain ⟨hargs, hsz, hP, hK, hD0⟩ := hv
  have hx := B.exec
  have hb := B.bytes
  have hr := B.returns
  have hts := atoms_spec (ws := (Cond.code y_Rq_namedUser b_Rq_namedUser 3 (Option.some Jvm.ClassFile.FieldType.int) :: BIG)) B.pre
  have hg : ∀ w ∈ BIG, w.before _ s = true := fun w h => hts w (List.mem_cons_of_mem _ h)
  have hown : s.vm.findClass "DoorServer$Request" = some m.cls := findClass_of_methodNamed B.named
  have hlocks := B.notSynchronized
  subst hsz
  have hD := hD0.self (sz := s.heap.size)
  generalize hAe : va_A [(rq, .inr (4, [.ref dr, .ref sa])), (sa, .inl ((cT 0), 256, .inl ga)), (dr, .inr (2, [.ref rr, .int (nI len)])), (rr, .inl ((cT 0), 1000, .inl f))] s.heap.size = A at hD ⊢
  have hA : ∀ q : Nat, s.heap.size ≤ q → A q := fun q h => by rw [← hAe]; exact Or.inr h
  have hS : va_S A s.heap s.heap [] := va_S.rf
  have hl := lv_entry ([.ref rq]) (n := 3) (Nat.le_of_ble_eq_true rfl)
  refine W.eq (g2 := entryFrame m (List.toArray [.ref rq]) 3) (by rw [hargs]) ?_
  rw [lg_entry_eq]
  generalize (lg_sl ([.ref rq]) ++ List.replicate (3 - (lg_sl ([.ref rq])).length) Slot.unset).toArray = ls at hl ⊢
  have hl : lv_has ls 3 [(0, .ref rq)] := hl
  change W p l e ({ frames := 1, cells := 0, slots := 0, locals := 22 } : Room) s m args below meth c s.heap [] 0 0 _ _
  have hP : va_P (dC, dI) vcl [(rq, .inr (4, [.ref dr, .ref sa])), (sa, .inl ((cT 0), 256, .inl ga)), (dr, .inr (2, [.ref rr, .int (nI len)])), (rr, .inl ((cT 0), 1000, .inl f))] s.heap := hP
  have hk : KT 1 := Or.inl rfl
  refine lv_aload_n hx hb d_Rq_namedUser_0 rfl (lv_at hl 0 rfl) ?_
  refine lv_iconst (v := 1) hx hb d_Rq_namedUser_1 (by decide) ?_
  refine lv_topi (fun x86 e85 => ?_)
  obtain rfl : x86 = nI 1 := by rw [e85]; rfl
  have hPc := hP.sub (ws' := [(rq, .inr (4, [.ref dr, .ref sa])), (sa, .inl ((cT 0), 256, .inl ga)), (dr, .inr (2, [.ref rr, .int (nI len)])), (rr, .inl ((cT 0), 1000, .inl f))]) [0, 1, 2, 3] rfl
  have hDc := hD.sub (ws' := [(rq, .inr (4, [.ref dr, .ref sa])), (sa, .inl ((cT 0), 256, .inl ga)), (dr, .inr (2, [.ref rr, .int (nI len)])), (rr, .inl ((cT 0), 1000, .inl f))]) [0, 1, 2, 3] (by decide) rfl
  have hFc := va_free (wc := [(rq, .inr (4, [.ref dr, .ref sa])), (sa, .inl ((cT 0), 256, .inl ga)), (dr, .inr (2, [.ref rr, .int (nI len)])), (rr, .inl ((cT 0), 1000, .inl f))]) hD hS hA [0, 1, 2, 3] rfl
  refine va_calli (va_runV (C := "DoorServer$Request") (As := [.int (nI 1)]) (rest := []) ⟨hx, hb, hml, hown, hg⟩ (c_has l dC dI cT s.heap.size rq dr rr sa len f ga 1 (hk) (hq) (hlen)) (cwV 1 hg (gI (List.forall_mem_append.mpr ⟨List.forall_mem_cons.mpr ⟨k_760, List.forall_mem_cons.mpr ⟨k_720, List.forall_mem_cons.mpr ⟨k_721, List.forall_mem_cons.mpr ⟨k_12, fun _ h => absurd h List.not_mem_nil⟩⟩⟩⟩, List.forall_mem_cons.mpr ⟨k_722, fun _ h => h⟩⟩)) rfl rfl rfl (by decide +kernel) ⟨Nat.le_of_ble_eq_true rfl, Nat.le_of_ble_eq_true rfl⟩) ⟨fun a U g mk q => by obtain ⟨q0, q1, qP, qK, qD⟩ := q; exact ⟨q0, q1, qP, va_K.moved (u := U) (U := U.calling g mk a) (Vm.Alike.refl U.vm) qK, qD⟩, va_recv (q0 := 0) (ci := 4) hK hP rfl rfl, fun U hU hW => ⟨rfl, by rw [hU], by rw [hU]; exact hPc, va_K.moved hW.alike hK, hDc.weaken (fun _ _ _ _ => trivial)⟩⟩ rfl rfl hl.1 rfl (lv_room (Nat.le_of_ble_eq_true rfl)) d_Rq_namedUser_2 ⟨Nat.le_of_ble_eq_true rfl, Nat.le_of_ble_eq_true rfl⟩) hS (fun q _ h => hFc q h) hFc (fun rv9 u t H1 locs ht hvm hw hB hz1 hk1 hS => ?_)
  try dsimp only at hw hB
  obtain ⟨hP1, hK1, hD1⟩ := hB
  rw [ht] at hP1
  generalize rv9 = r87 at hw ⊢
  obtain ⟨hP, hD⟩ := va_join (wr := []) (w1 := [(rq, .inr (4, [.ref dr, .ref sa])), (sa, .inl ((cT 0), 256, .inl ga)), (dr, .inr (2, [.ref rr, .int (nI len)])), (rr, .inl ((cT 0), 1000, .inl f))]) hP hD [0, 1, 2, 3] [] rfl rfl (by decide) (by decide) hk1 hFc hP1 hD1
  have hw88 := hw
  clear hPc hDc hFc hz1 hk1 hP1 hK1 hD1
  generalize H1 = H at hP hS ⊢
  have hP : va_P (dC, dI) vcl [(rq, .inr (4, [.ref dr, .ref sa])), (sa, .inl ((cT 0), 256, .inl ga)), (dr, .inr (2, [.ref rr, .int (nI len)])), (rr, .inl ((cT 0), 1000, .inl f))] H := hP
  have hD : va_D A [(rq, .inr (4, [.ref dr, .ref sa])), (sa, .inl ((cT 0), 256, .inl ga)), (dr, .inr (2, [.ref rr, .int (nI len)])), (rr, .inl ((cT 0), 1000, .inl f))] := hD
  refine lv_if_eq (tgt := 28) hx hb d_Rq_namedUser_5 (by decide) (fun hc89 => ?_) (fun hc89 => ?_)
  · skip
    refine lv_iconst (v := (-1)) hx hb d_Rq_namedUser_28 (by decide) ?_
    have hP9 := hP.sub (ws' := [(rq, .inr (4, [.ref dr, .ref sa])), (sa, .inl ((cT 0), 256, .inl ga)), (dr, .inr (2, [.ref rr, .int (nI len)])), (rr, .inl ((cT 0), 1000, .inl f))]) [0, 1, 2, 3] rfl
    have hD9 := hD.sub (ws' := [(rq, .inr (4, [.ref dr, .ref sa])), (sa, .inl ((cT 0), 256, .inl ga)), (dr, .inr (2, [.ref rr, .int (nI len)])), (rr, .inl ((cT 0), 1000, .inl f))]) [0, 1, 2, 3] (by decide) rfl
    exact W.iret (v := (-1)) hx hb hr (fun t ht hW => ⟨⟨_, (), rfl, Or.inl rfl, by rw [ht]; exact hP9, va_K.moved hW.alike hK, hD9⟩, hS.F ht⟩) hS.2.2 d_Rq_namedUser_29
  · skip
    obtain ⟨a, n, h8, h9, h10, h11, h12⟩ := (hq 1 hk).resolve_left (hw88.2.1 (hw88.1.resolve_left hc89))
    refine lv_aload_n hx hb d_Rq_namedUser_8 rfl (lv_at hl 0 rfl) ?_
    refine lv_iconst (v := 1) hx hb d_Rq_namedUser_9 (by decide) ?_
    refine lv_topi (fun x91 e90 => ?_)
    obtain rfl : x91 = nI 1 := by rw [e90]; rfl
    have hPc := hP.sub (ws' := [(rq, .inr (4, [.ref dr, .ref sa])), (sa, .inl ((cT 0), 256, .inl ga)), (dr, .inr (2, [.ref rr, .int (nI len)])), (rr, .inl ((cT 0), 1000, .inl f))]) [0, 1, 2, 3] rfl
    have hDc := hD.sub (ws' := [(rq, .inr (4, [.ref dr, .ref sa])), (sa, .inl ((cT 0), 256, .inl ga)), (dr, .inr (2, [.ref rr, .int (nI len)])), (rr, .inl ((cT 0), 1000, .inl f))]) [0, 1, 2, 3] (by decide) rfl
    have hFc := va_free (wc := [(rq, .inr (4, [.ref dr, .ref sa])), (sa, .inl ((cT 0), 256, .inl ga)), (dr, .inr (2, [.ref rr, .int (nI len)])), (rr, .inl ((cT 0), 1000, .inl f))]) hD hS hA [0, 1, 2, 3] rfl
    refine va_calli (va_runV (C := "DoorServer$Request") (As := [.int (nI 1)]) (rest := []) ⟨hx, hb, hml, hown, hg⟩ (c_lengthOf l dC dI cT H.size rq dr rr sa len f ga 1 a n (by decide) (h8) (h9) (h10) (h11) (hlen)) (cwV 1 hg (gI (List.forall_mem_append.mpr ⟨List.forall_mem_cons.mpr ⟨k_761, List.forall_mem_cons.mpr ⟨k_762, List.forall_mem_cons.mpr ⟨k_763, List.forall_mem_cons.mpr ⟨k_12, fun _ h => absurd h List.not_mem_nil⟩⟩⟩⟩, List.forall_mem_cons.mpr ⟨k_764, fun _ h => h⟩⟩)) rfl rfl rfl (by decide +kernel) ⟨Nat.le_of_ble_eq_true rfl, Nat.le_of_ble_eq_true rfl⟩) ⟨fun a U g mk q => by obtain ⟨q0, q1, qP, qK, qD⟩ := q; exact ⟨q0, q1, qP, va_K.moved (u := U) (U := U.calling g mk a) (Vm.Alike.refl U.vm) qK, qD⟩, va_recv (q0 := 0) (ci := 4) hK hP rfl rfl, fun U hU hW => ⟨rfl, by rw [hU], by rw [hU]; exact hPc, va_K.moved hW.alike hK, hDc.weaken (fun _ _ _ _ => trivial)⟩⟩ rfl rfl hl.1 rfl (lv_room (Nat.le_of_ble_eq_true rfl)) d_Rq_namedUser_10 ⟨Nat.le_of_ble_eq_true rfl, Nat.le_of_ble_eq_true rfl⟩) hS (fun q _ h => hFc q h) hFc (fun rv9 u t H1 locs ht hvm hw hB hz1 hk1 hS => ?_)
    try dsimp only at hw hB
    obtain ⟨hP1, hK1, hD1⟩ := hB
    rw [ht] at hP1
    obtain ⟨rfl, hw⟩ := hw
    obtain ⟨hP, hD⟩ := va_join (wr := []) (w1 := [(rq, .inr (4, [.ref dr, .ref sa])), (sa, .inl ((cT 0), 256, .inl ga)), (dr, .inr (2, [.ref rr, .int (nI len)])), (rr, .inl ((cT 0), 1000, .inl f))]) hP hD [0, 1, 2, 3] [] rfl rfl (by decide) (by decide) hk1 hFc hP1 hD1
    have hw92 := hw
    clear hPc hDc hFc hz1 hk1 hP1 hK1 hD1
    generalize H1 = H at hP hS ⊢
    have hP : va_P (dC, dI) vcl [(rq, .inr (4, [.ref dr, .ref sa])), (sa, .inl ((cT 0), 256, .inl ga)), (dr, .inr (2, [.ref rr, .int (nI len)])), (rr, .inl ((cT 0), 1000, .inl f))] H := hP
    have hD : va_D A [(rq, .inr (4, [.ref dr, .ref sa])), (sa, .inl ((cT 0), 256, .inl ga)), (dr, .inr (2, [.ref rr, .int (nI len)])), (rr, .inl ((cT 0), 1000, .inl f))] := hD
    refine lv_iconst (v := 3) hx hb d_Rq_namedUser_13 (by decide) ?_
    refine lv_icmp_ne (tgt := 28) hx hb d_Rq_namedUser_14 (by decide) (fun hc93 => ?_) (fun hc93 => ?_)
    · skip
      refine lv_iconst (v := (-1)) hx hb d_Rq_namedUser_28 (by decide) ?_
      have hP9 := hP.sub (ws' := [(rq, .inr (4, [.ref dr, .ref sa])), (sa, .inl ((cT 0), 256, .inl ga)), (dr, .inr (2, [.ref rr, .int (nI len)])), (rr, .inl ((cT 0), 1000, .inl f))]) [0, 1, 2, 3] rfl
      have hD9 := hD.sub (ws' := [(rq, .inr (4, [.ref dr, .ref sa])), (sa, .inl ((cT 0), 256, .inl ga)), (dr, .inr (2, [.ref rr, .int (nI len)])), (rr, .inl ((cT 0), 1000, .inl f))]) [0, 1, 2, 3] (by decide) rfl
      exact W.iret (v := (-1)) hx hb hr (fun t ht hW => ⟨⟨_, (), rfl, Or.inl rfl, by rw [ht]; exact hP9, va_K.moved hW.alike hK, hD9⟩, hS.F ht⟩) hS.2.2 d_Rq_namedUser_29
    · skip
      have h3 : n = 3 := (nI_eq (b := 3) (by omega) (by decide)).mp hc93
      refine lv_aload_n hx hb d_Rq_namedUser_17 rfl (lv_at hl 0 rfl) ?_
      refine lv_iconst (v := 1) hx hb d_Rq_namedUser_18 (by decide) ?_
      refine lv_topi (fun x95 e94 => ?_)
      obtain rfl : x95 = nI 1 := by rw [e94]; rfl
      refine lv_iconst (v := 0) hx hb d_Rq_namedUser_19 (by decide) ?_
      refine lv_topi (fun x97 e96 => ?_)
      obtain rfl : x97 = nI 0 := by rw [e96]; rfl
      have hPc := hP.sub (ws' := [(rq, .inr (4, [.ref dr, .ref sa])), (sa, .inl ((cT 0), 256, .inl ga)), (dr, .inr (2, [.ref rr, .int (nI len)])), (rr, .inl ((cT 0), 1000, .inl f))]) [0, 1, 2, 3] rfl
      have hDc := hD.sub (ws' := [(rq, .inr (4, [.ref dr, .ref sa])), (sa, .inl ((cT 0), 256, .inl ga)), (dr, .inr (2, [.ref rr, .int (nI len)])), (rr, .inl ((cT 0), 1000, .inl f))]) [0, 1, 2, 3] (by decide) rfl
      have hFc := va_free (wc := [(rq, .inr (4, [.ref dr, .ref sa])), (sa, .inl ((cT 0), 256, .inl ga)), (dr, .inr (2, [.ref rr, .int (nI len)])), (rr, .inl ((cT 0), 1000, .inl f))]) hD hS hA [0, 1, 2, 3] rfl
      refine va_calli (va_runV (C := "DoorServer$Request") (As := [.int (nI 1), .int (nI 0)]) (rest := []) ⟨hx, hb, hml, hown, hg⟩ (c_byteOf l dC dI cT H.size rq dr rr sa len f ga 1 a 0 (by decide) (h8) (by omega)) (cwV 2 hg (gI (List.forall_mem_append.mpr ⟨List.forall_mem_cons.mpr ⟨k_765, List.forall_mem_cons.mpr ⟨k_766, List.forall_mem_cons.mpr ⟨k_767, List.forall_mem_cons.mpr ⟨k_12, fun _ h => absurd h List.not_mem_nil⟩⟩⟩⟩, List.forall_mem_cons.mpr ⟨k_768, fun _ h => h⟩⟩)) rfl rfl rfl (by decide +kernel) ⟨Nat.le_of_ble_eq_true rfl, Nat.le_of_ble_eq_true rfl⟩) ⟨fun a U g mk q => by obtain ⟨q0, q1, qP, qK, qD⟩ := q; exact ⟨q0, q1, qP, va_K.moved (u := U) (U := U.calling g mk a) (Vm.Alike.refl U.vm) qK, qD⟩, va_recv (q0 := 0) (ci := 4) hK hP rfl rfl, fun U hU hW => ⟨rfl, by rw [hU], by rw [hU]; exact hPc, va_K.moved hW.alike hK, hDc.weaken (fun _ _ _ _ => trivial)⟩⟩ rfl rfl hl.1 rfl (lv_room (Nat.le_of_ble_eq_true rfl)) d_Rq_namedUser_20 ⟨Nat.le_of_ble_eq_true rfl, Nat.le_of_ble_eq_true rfl⟩) hS (fun q _ h => hFc q h) hFc (fun rv9 u t H1 locs ht hvm hw hB hz1 hk1 hS => ?_)
      try dsimp only at hw hB
      obtain ⟨hP1, hK1, hD1⟩ := hB
      rw [ht] at hP1
      obtain ⟨rfl, hw⟩ := hw
      obtain ⟨hP, hD⟩ := va_join (wr := []) (w1 := [(rq, .inr (4, [.ref dr, .ref sa])), (sa, .inl ((cT 0), 256, .inl ga)), (dr, .inr (2, [.ref rr, .int (nI len)])), (rr, .inl ((cT 0), 1000, .inl f))]) hP hD [0, 1, 2, 3] [] rfl rfl (by decide) (by decide) hk1 hFc hP1 hD1
      have hw98 := hw
      clear hPc hDc hFc hz1 hk1 hP1 hK1 hD1
      generalize H1 = H at hP hS ⊢
      have hP : va_P (dC, dI) vcl [(rq, .inr (4, [.ref dr, .ref sa])), (sa, .inl ((cT 0), 256, .inl ga)), (dr, .inr (2, [.ref rr, .int (nI len)])), (rr, .inl ((cT 0), 1000, .inl f))] H := hP
      have hD : va_D A [(rq, .inr (4, [.ref dr, .ref sa])), (sa, .inl ((cT 0), 256, .inl ga)), (dr, .inr (2, [.ref rr, .int (nI len)])), (rr, .inl ((cT 0), 1000, .inl f))] := hD
      refine lv_bipush (v := 117) hx hb d_Rq_namedUser_23 (by decide) ?_
      refine lv_icmp_eq (tgt := 30) hx hb d_Rq_namedUser_25 (by decide) (fun hc99 => ?_) (fun hc99 => ?_)
      · skip
        refine lv_aload_n hx hb d_Rq_namedUser_30 rfl (lv_at hl 0 rfl) ?_
        refine lv_iconst (v := 1) hx hb d_Rq_namedUser_31 (by decide) ?_
        refine lv_topi (fun x101 e100 => ?_)
        obtain rfl : x101 = nI 1 := by rw [e100]; rfl
        refine lv_iconst (v := 1) hx hb d_Rq_namedUser_32 (by decide) ?_
        refine lv_topi (fun x103 e102 => ?_)
        obtain rfl : x103 = nI 1 := by rw [e102]; rfl
        have hPc := hP.sub (ws' := [(rq, .inr (4, [.ref dr, .ref sa])), (sa, .inl ((cT 0), 256, .inl ga)), (dr, .inr (2, [.ref rr, .int (nI len)])), (rr, .inl ((cT 0), 1000, .inl f))]) [0, 1, 2, 3] rfl
        have hDc := hD.sub (ws' := [(rq, .inr (4, [.ref dr, .ref sa])), (sa, .inl ((cT 0), 256, .inl ga)), (dr, .inr (2, [.ref rr, .int (nI len)])), (rr, .inl ((cT 0), 1000, .inl f))]) [0, 1, 2, 3] (by decide) rfl
        have hFc := va_free (wc := [(rq, .inr (4, [.ref dr, .ref sa])), (sa, .inl ((cT 0), 256, .inl ga)), (dr, .inr (2, [.ref rr, .int (nI len)])), (rr, .inl ((cT 0), 1000, .inl f))]) hD hS hA [0, 1, 2, 3] rfl
        refine va_calli (va_runV (C := "DoorServer$Request") (As := [.int (nI 1), .int (nI 1)]) (rest := []) ⟨hx, hb, hml, hown, hg⟩ (c_byteOf l dC dI cT H.size rq dr rr sa len f ga 1 a 1 (by decide) (h8) (by omega)) (cwV 2 hg (gI (List.forall_mem_append.mpr ⟨List.forall_mem_cons.mpr ⟨k_765, List.forall_mem_cons.mpr ⟨k_766, List.forall_mem_cons.mpr ⟨k_767, List.forall_mem_cons.mpr ⟨k_12, fun _ h => absurd h List.not_mem_nil⟩⟩⟩⟩, List.forall_mem_cons.mpr ⟨k_768, fun _ h => h⟩⟩)) rfl rfl rfl (by decide +kernel) ⟨Nat.le_of_ble_eq_true rfl, Nat.le_of_ble_eq_true rfl⟩) ⟨fun a U g mk q => by obtain ⟨q0, q1, qP, qK, qD⟩ := q; exact ⟨q0, q1, qP, va_K.moved (u := U) (U := U.calling g mk a) (Vm.Alike.refl U.vm) qK, qD⟩, va_recv (q0 := 0) (ci := 4) hK hP rfl rfl, fun U hU hW => ⟨rfl, by rw [hU], by rw [hU]; exact hPc, va_K.moved hW.alike hK, hDc.weaken (fun _ _ _ _ => trivial)⟩⟩ rfl rfl hl.1 rfl (lv_room (Nat.le_of_ble_eq_true rfl)) d_Rq_namedUser_33 ⟨Nat.le_of_ble_eq_true rfl, Nat.le_of_ble_eq_true rfl⟩) hS (fun q _ h => hFc q h) hFc (fun rv9 u t H1 locs ht hvm hw hB hz1 hk1 hS => ?_)
        try dsimp only at hw hB
        obtain ⟨hP1, hK1, hD1⟩ := hB
        rw [ht] at hP1
        obtain ⟨rfl, hw⟩ := hw
        obtain ⟨hP, hD⟩ := va_join (wr := []) (w1 := [(rq, .inr (4, [.ref dr, .ref sa])), (sa, .inl ((cT 0), 256, .inl ga)), (dr, .inr (2, [.ref rr, .int (nI len)])), (rr, .inl ((cT 0), 1000, .inl f))]) hP hD [0, 1, 2, 3] [] rfl rfl (by decide) (by decide) hk1 hFc hP1 hD1
        have hw104 := hw
        clear hPc hDc hFc hz1 hk1 hP1 hK1 hD1
        generalize H1 = H at hP hS ⊢
        have hP : va_P (dC, dI) vcl [(rq, .inr (4, [.ref dr, .ref sa])), (sa, .inl ((cT 0), 256, .inl ga)), (dr, .inr (2, [.ref rr, .int (nI len)])), (rr, .inl ((cT 0), 1000, .inl f))] H := hP
        have hD : va_D A [(rq, .inr (4, [.ref dr, .ref sa])), (sa, .inl ((cT 0), 256, .inl ga)), (dr, .inr (2, [.ref rr, .int (nI len)])), (rr, .inl ((cT 0), 1000, .inl f))] := hD
        refine lv_bipush (v := 48) hx hb d_Rq_namedUser_36 (by decide) ?_
        refine lv_isub hx hb d_Rq_namedUser_38 ?_
        refine lv_topi (fun x1 e1 => ?_)
        refine lv_istore_n (lv' := [(1, .int x1), (0, .ref rq)]) hx hb d_Rq_namedUser_39 rfl hl (by decide) rfl (fun ls hl => ?_)
        refine lv_aload_n hx hb d_Rq_namedUser_40 rfl (lv_at hl 1 rfl) ?_
        refine lv_iconst (v := 1) hx hb d_Rq_namedUser_41 (by decide) ?_
        refine lv_topi (fun x106 e105 => ?_)
        obtain rfl : x106 = nI 1 := by rw [e105]; rfl
        refine lv_iconst (v := 2) hx hb d_Rq_namedUser_42 (by decide) ?_
        refine lv_topi (fun x108 e107 => ?_)
        obtain rfl : x108 = nI 2 := by rw [e107]; rfl
        have hPc := hP.sub (ws' := [(rq, .inr (4, [.ref dr, .ref sa])), (sa, .inl ((cT 0), 256, .inl ga)), (dr, .inr (2, [.ref rr, .int (nI len)])), (rr, .inl ((cT 0), 1000, .inl f))]) [0, 1, 2, 3] rfl
        have hDc := hD.sub (ws' := [(rq, .inr (4, [.ref dr, .ref sa])), (sa, .inl ((cT 0), 256, .inl ga)), (dr, .inr (2, [.ref rr, .int (nI len)])), (rr, .inl ((cT 0), 1000, .inl f))]) [0, 1, 2, 3] (by decide) rfl
        have hFc := va_free (wc := [(rq, .inr (4, [.ref dr, .ref sa])), (sa, .inl ((cT 0), 256, .inl ga)), (dr, .inr (2, [.ref rr, .int (nI len)])), (rr, .inl ((cT 0), 1000, .inl f))]) hD hS hA [0, 1, 2, 3] rfl
        refine va_calli (va_runV (C := "DoorServer$Request") (As := [.int (nI 1), .int (nI 2)]) (rest := []) ⟨hx, hb, hml, hown, hg⟩ (c_byteOf l dC dI cT H.size rq dr rr sa len f ga 1 a 2 (by decide) (h8) (by omega)) (cwV 2 hg (gI (List.forall_mem_append.mpr ⟨List.forall_mem_cons.mpr ⟨k_765, List.forall_mem_cons.mpr ⟨k_766, List.forall_mem_cons.mpr ⟨k_767, List.forall_mem_cons.mpr ⟨k_12, fun _ h => absurd h List.not_mem_nil⟩⟩⟩⟩, List.forall_mem_cons.mpr ⟨k_768, fun _ h => h⟩⟩)) rfl rfl rfl (by decide +kernel) ⟨Nat.le_of_ble_eq_true rfl, Nat.le_of_ble_eq_true rfl⟩) ⟨fun a U g mk q => by obtain ⟨q0, q1, qP, qK, qD⟩ := q; exact ⟨q0, q1, qP, va_K.moved (u := U) (U := U.calling g mk a) (Vm.Alike.refl U.vm) qK, qD⟩, va_recv (q0 := 0) (ci := 4) hK hP rfl rfl, fun U hU hW => ⟨rfl, by rw [hU], by rw [hU]; exact hPc, va_K.moved hW.alike hK, hDc.weaken (fun _ _ _ _ => trivial)⟩⟩ rfl rfl hl.1 rfl (lv_room (Nat.le_of_ble_eq_true rfl)) d_Rq_namedUser_43 ⟨Nat.le_of_ble_eq_true rfl, Nat.le_of_ble_eq_true rfl⟩) hS (fun q _ h => hFc q h) hFc (fun rv9 u t H1 locs ht hvm hw hB hz1 hk1 hS => ?_)
        try dsimp only at hw hB
        obtain ⟨hP1, hK1, hD1⟩ := hB
        rw [ht] at hP1
        obtain ⟨rfl, hw⟩ := hw
        obtain ⟨hP, hD⟩ := va_join (wr := []) (w1 := [(rq, .inr (4, [.ref dr, .ref sa])), (sa, .inl ((cT 0), 256, .inl ga)), (dr, .inr (2, [.ref rr, .int (nI len)])), (rr, .inl ((cT 0), 1000, .inl f))]) hP hD [0, 1, 2, 3] [] rfl rfl (by decide) (by decide) hk1 hFc hP1 hD1
        have hw109 := hw
        clear hPc hDc hFc hz1 hk1 hP1 hK1 hD1
        generalize H1 = H at hP hS ⊢
        have hP : va_P (dC, dI) vcl [(rq, .inr (4, [.ref dr, .ref sa])), (sa, .inl ((cT 0), 256, .inl ga)), (dr, .inr (2, [.ref rr, .int (nI len)])), (rr, .inl ((cT 0), 1000, .inl f))] H := hP
        have hD : va_D A [(rq, .inr (4, [.ref dr, .ref sa])), (sa, .inl ((cT 0), 256, .inl ga)), (dr, .inr (2, [.ref rr, .int (nI len)])), (rr, .inl ((cT 0), 1000, .inl f))] := hD
        refine lv_bipush (v := 48) hx hb d_Rq_namedUser_46 (by decide) ?_
        refine lv_isub hx hb d_Rq_namedUser_48 ?_
        refine lv_topi (fun x2 e2 => ?_)
        refine lv_istore_n (lv' := [(2, .int x2), (1, .int x1), (0, .ref rq)]) hx hb d_Rq_namedUser_49 rfl hl (by decide) rfl (fun ls hl => ?_)
        refine lv_iload_n hx hb d_Rq_namedUser_50 rfl (lv_at hl 1 rfl) ?_
        refine lv_if_lt (tgt := 81) hx hb d_Rq_namedUser_51 (by decide) (fun hc110 => ?_) (fun hc110 => ?_)
        · skip
          refine lv_iconst (v := (-1)) hx hb d_Rq_namedUser_81 (by decide) ?_
          have hP9 := hP.sub (ws' := [(rq, .inr (4, [.ref dr, .ref sa])), (sa, .inl ((cT 0), 256, .inl ga)), (dr, .inr (2, [.ref rr, .int (nI len)])), (rr, .inl ((cT 0), 1000, .inl f))]) [0, 1, 2, 3] rfl
          have hD9 := hD.sub (ws' := [(rq, .inr (4, [.ref dr, .ref sa])), (sa, .inl ((cT 0), 256, .inl ga)), (dr, .inr (2, [.ref rr, .int (nI len)])), (rr, .inl ((cT 0), 1000, .inl f))]) [0, 1, 2, 3] (by decide) rfl
          exact W.iret (v := (-1)) hx hb hr (fun t ht hW => ⟨⟨_, (), rfl, Or.inl rfl, by rw [ht]; exact hP9, va_K.moved hW.alike hK, hD9⟩, hS.F ht⟩) hS.2.2 d_Rq_namedUser_82
        · skip
          have g1 := hc110
          refine lv_iload_n hx hb d_Rq_namedUser_54 rfl (lv_at hl 1 rfl) ?_
          refine lv_bipush (v := 9) hx hb d_Rq_namedUser_55 (by decide) ?_
          refine lv_icmp_gt (tgt := 81) hx hb d_Rq_namedUser_57 (by decide) (fun hc111 => ?_) (fun hc111 => ?_)
          · skip
            refine lv_iconst (v := (-1)) hx hb d_Rq_namedUser_81 (by decide) ?_
            have hP9 := hP.sub (ws' := [(rq, .inr (4, [.ref dr, .ref sa])), (sa, .inl ((cT 0), 256, .inl ga)), (dr, .inr (2, [.ref rr, .int (nI len)])), (rr, .inl ((cT 0), 1000, .inl f))]) [0, 1, 2, 3] rfl
            have hD9 := hD.sub (ws' := [(rq, .inr (4, [.ref dr, .ref sa])), (sa, .inl ((cT 0), 256, .inl ga)), (dr, .inr (2, [.ref rr, .int (nI len)])), (rr, .inl ((cT 0), 1000, .inl f))]) [0, 1, 2, 3] (by decide) rfl
            exact W.iret (v := (-1)) hx hb hr (fun t ht hW => ⟨⟨_, (), rfl, Or.inl rfl, by rw [ht]; exact hP9, va_K.moved hW.alike hK, hD9⟩, hS.F ht⟩) hS.2.2 d_Rq_namedUser_82
          · skip
            obtain ⟨u1, hu1, hx1⟩ := rng_9 g1 hc111
            refine lv_iload_n hx hb d_Rq_namedUser_60 rfl (lv_at hl 0 rfl) ?_
            refine lv_if_lt (tgt := 81) hx hb d_Rq_namedUser_61 (by decide) (fun hc112 => ?_) (fun hc112 => ?_)
            · skip
              refine lv_iconst (v := (-1)) hx hb d_Rq_namedUser_81 (by decide) ?_
              have hP9 := hP.sub (ws' := [(rq, .inr (4, [.ref dr, .ref sa])), (sa, .inl ((cT 0), 256, .inl ga)), (dr, .inr (2, [.ref rr, .int (nI len)])), (rr, .inl ((cT 0), 1000, .inl f))]) [0, 1, 2, 3] rfl
              have hD9 := hD.sub (ws' := [(rq, .inr (4, [.ref dr, .ref sa])), (sa, .inl ((cT 0), 256, .inl ga)), (dr, .inr (2, [.ref rr, .int (nI len)])), (rr, .inl ((cT 0), 1000, .inl f))]) [0, 1, 2, 3] (by decide) rfl
              exact W.iret (v := (-1)) hx hb hr (fun t ht hW => ⟨⟨_, (), rfl, Or.inl rfl, by rw [ht]; exact hP9, va_K.moved hW.alike hK, hD9⟩, hS.F ht⟩) hS.2.2 d_Rq_namedUser_82
            · skip
              have g2 := hc112
              refine lv_iload_n hx hb d_Rq_namedUser_64 rfl (lv_at hl 0 rfl) ?_
              refine lv_bipush (v := 9) hx hb d_Rq_namedUser_65 (by decide) ?_
              refine lv_icmp_gt (tgt := 81) hx hb d_Rq_namedUser_67 (by decide) (fun hc113 => ?_) (fun hc113 => ?_)
              · skip
                refine lv_iconst (v := (-1)) hx hb d_Rq_namedUser_81 (by decide) ?_
                have hP9 := hP.sub (ws' := [(rq, .inr (4, [.ref dr, .ref sa])), (sa, .inl ((cT 0), 256, .inl ga)), (dr, .inr (2, [.ref rr, .int (nI len)])), (rr, .inl ((cT 0), 1000, .inl f))]) [0, 1, 2, 3] rfl
                have hD9 := hD.sub (ws' := [(rq, .inr (4, [.ref dr, .ref sa])), (sa, .inl ((cT 0), 256, .inl ga)), (dr, .inr (2, [.ref rr, .int (nI len)])), (rr, .inl ((cT 0), 1000, .inl f))]) [0, 1, 2, 3] (by decide) rfl
                exact W.iret (v := (-1)) hx hb hr (fun t ht hW => ⟨⟨_, (), rfl, Or.inl rfl, by rw [ht]; exact hP9, va_K.moved hW.alike hK, hD9⟩, hS.F ht⟩) hS.2.2 d_Rq_namedUser_82
              · skip
                obtain ⟨u2, hu2, hx2⟩ := rng_9 g2 hc113
                refine lv_bipush (v := 10) hx hb d_Rq_namedUser_70 (by decide) ?_
                refine lv_iload_n hx hb d_Rq_namedUser_72 rfl (lv_at hl 1 rfl) ?_
                refine lv_topi (fun x115 e114 => ?_)
                obtain rfl : x115 = nI u1 := by rw [e114]; exact hx1
                refine lv_imul hx hb d_Rq_namedUser_73 ?_
                refine lv_topi (fun x117 e116 => ?_)
                obtain rfl : x117 = nI (10 * u1) := by rw [e116]; exact pk_mul 10 u1
                refine lv_iload_n hx hb d_Rq_namedUser_74 rfl (lv_at hl 0 rfl) ?_
                refine lv_topi (fun x119 e118 => ?_)
                obtain rfl : x119 = nI u2 := by rw [e118]; exact hx2
                refine lv_iadd hx hb d_Rq_namedUser_75 ?_
                refine lv_topi (fun x121 e120 => ?_)
                obtain rfl : x121 = nI (10 * u1 + u2) := by rw [e120]; exact nI_add _ u2
                refine lv_bipush (v := 32) hx hb d_Rq_namedUser_76 (by decide) ?_
                refine lv_icmp_lt (tgt := 83) hx hb d_Rq_namedUser_78 (by decide) (fun hc122 => ?_) (fun hc122 => ?_)
                · skip
                  have h32 : 10 * u1 + u2 < 32 := (nI_ltI (b := 32) (by omega) (by decide)).mp hc122
                  refine lv_bipush (v := 10) hx hb d_Rq_namedUser_83 (by decide) ?_
                  refine lv_iload_n hx hb d_Rq_namedUser_85 rfl (lv_at hl 1 rfl) ?_
                  refine lv_topi (fun x124 e123 => ?_)
                  obtain rfl : x124 = nI u1 := by rw [e123]; exact hx1
                  refine lv_imul hx hb d_Rq_namedUser_86 ?_
                  refine lv_topi (fun x126 e125 => ?_)
                  obtain rfl : x126 = nI (10 * u1) := by rw [e125]; exact pk_mul 10 u1
                  refine lv_iload_n hx hb d_Rq_namedUser_87 rfl (lv_at hl 0 rfl) ?_
                  refine lv_topi (fun x128 e127 => ?_)
                  obtain rfl : x128 = nI u2 := by rw [e127]; exact hx2
                  refine lv_iadd hx hb d_Rq_namedUser_88 ?_
                  refine lv_topi (fun x130 e129 => ?_)
                  obtain rfl : x130 = nI (10 * u1 + u2) := by rw [e129]; exact nI_add _ u2
                  have hP9 := hP.sub (ws' := [(rq, .inr (4, [.ref dr, .ref sa])), (sa, .inl ((cT 0), 256, .inl ga)), (dr, .inr (2, [.ref rr, .int (nI len)])), (rr, .inl ((cT 0), 1000, .inl f))]) [0, 1, 2, 3] rfl
                  have hD9 := hD.sub (ws' := [(rq, .inr (4, [.ref dr, .ref sa])), (sa, .inl ((cT 0), 256, .inl ga)), (dr, .inr (2, [.ref rr, .int (nI len)])), (rr, .inl ((cT 0), 1000, .inl f))]) [0, 1, 2, 3] (by decide) rfl
                  exact W.iret (v := nI (10 * u1 + u2)) hx hb hr (fun t ht hW => ⟨⟨_, (), rfl, Or.inr ⟨_, h32, rfl⟩, by rw [ht]; exact hP9, va_K.moved hW.alike hK, hD9⟩, hS.F ht⟩) hS.2.2 d_Rq_namedUser_89
                · skip
                  refine lv_iconst (v := (-1)) hx hb d_Rq_namedUser_81 (by decide) ?_
                  have hP9 := hP.sub (ws' := [(rq, .inr (4, [.ref dr, .ref sa])), (sa, .inl ((cT 0), 256, .inl ga)), (dr, .inr (2, [.ref rr, .int (nI len)])), (rr, .inl ((cT 0), 1000, .inl f))]) [0, 1, 2, 3] rfl
                  have hD9 := hD.sub (ws' := [(rq, .inr (4, [.ref dr, .ref sa])), (sa, .inl ((cT 0), 256, .inl ga)), (dr, .inr (2, [.ref rr, .int (nI len)])), (rr, .inl ((cT 0), 1000, .inl f))]) [0, 1, 2, 3] (by decide) rfl
                  exact W.iret (v := (-1)) hx hb hr (fun t ht hW => ⟨⟨_, (), rfl, Or.inl rfl, by rw [ht]; exact hP9, va_K.moved hW.alike hK, hD9⟩, hS.F ht⟩) hS.2.2 d_Rq_namedUser_82
      · skip
        refine lv_iconst (v := (-1)) hx hb d_Rq_namedUser_28 (by decide) ?_
        have hP9 := hP.sub (ws' := [(rq, .inr (4, [.ref dr, .ref sa])), (sa, .inl ((cT 0), 256, .inl ga)), (dr, .inr (2, [.ref rr, .int (nI len)])), (rr, .inl ((cT 0), 1000, .inl f))]) [0, 1, 2, 3] rfl
        have hD9 := hD.sub (ws' := [(rq, .inr (4, [.ref dr, .ref sa])), (sa, .inl ((cT 0), 256, .inl ga)), (dr, .inr (2, [.ref rr, .int (nI len)])), (rr, .inl ((cT 0), 1000, .inl f))]) [0, 1, 2, 3] (by decide) rfl
        exact W.iret (v := (-1)) hx hb hr (fun t ht hW => ⟨⟨_, (), rfl, Or.inl rfl, by rw [ht]; exact hP9, va_K.moved hW.alike hK, hD9⟩, hS.F ht⟩) hS.2.2 d_Rq_namedUser_29
