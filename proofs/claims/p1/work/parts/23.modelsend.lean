theorem d_Md_secret_23 : decode b_Md_secret 23 = .ok (.iconst 1, 1) := by decide +kernel
theorem d_Md_secret_24 : decode b_Md_secret 24 = .ok (.goto 4, 3) := by decide +kernel
theorem d_Md_secret_34 : decode b_Md_secret 34 = .ok (.iconst 0, 1) := by decide +kernel
theorem d_Md_secret_35 : decode b_Md_secret 35 = .ok (.istore 5, 2) := by decide +kernel
theorem d_Md_secret_37 : decode b_Md_secret 37 = .ok (.iload 5, 2) := by decide +kernel
theorem d_Md_secret_39 : decode b_Md_secret 39 = .ok (.iload 4, 2) := by decide +kernel
theorem d_Md_secret_41 : decode b_Md_secret 41 = .ok (.if_icmp .ge 27, 3) := by decide +kernel
theorem d_Md_secret_44 : decode b_Md_secret 44 = .ok (.aload_n 0, 1) := by decide +kernel
theorem d_Md_secret_45 : decode b_Md_secret 45 = .ok (.getfield 141, 3) := by decide +kernel
theorem d_Md_secret_48 : decode b_Md_secret 48 = .ok (.bipush 40, 2) := by decide +kernel
theorem d_Md_secret_50 : decode b_Md_secret 50 = .ok (.iload_n 1, 1) := by decide +kernel
theorem d_Md_secret_51 : decode b_Md_secret 51 = .ok (.imul, 1) := by decide +kernel
theorem d_Md_secret_52 : decode b_Md_secret 52 = .ok (.iload 5, 2) := by decide +kernel
theorem d_Md_secret_54 : decode b_Md_secret 54 = .ok (.iadd, 1) := by decide +kernel
theorem d_Md_secret_55 : decode b_Md_secret 55 = .ok (.lload_n 2, 1) := by decide +kernel
theorem d_Md_secret_56 : decode b_Md_secret 56 = .ok (.iload 5, 2) := by decide +kernel
theorem d_Md_secret_58 : decode b_Md_secret 58 = .ok (.invokestatic 293, 3) := by decide +kernel
theorem d_Md_secret_61 : decode b_Md_secret 61 = .ok (.iastore, 1) := by decide +kernel
theorem d_Md_secret_62 : decode b_Md_secret 62 = .ok (.iinc 5 1, 3) := by decide +kernel
theorem d_Md_secret_65 : decode b_Md_secret 65 = .ok (.goto (-28), 3) := by decide +kernel
theorem d_Md_secret_68 : decode b_Md_secret 68 = .ok (.aload_n 0, 1) := by decide +kernel
theorem d_Md_secret_69 : decode b_Md_secret 69 = .ok (.getfield 145, 3) := by decide +kernel
theorem d_Md_secret_72 : decode b_Md_secret 72 = .ok (.iload_n 1, 1) := by decide +kernel
theorem d_Md_secret_73 : decode b_Md_secret 73 = .ok (.iload 4, 2) := by decide +kernel
theorem d_Md_secret_75 : decode b_Md_secret 75 = .ok (.iastore, 1) := by decide +kernel
theorem d_Md_user_24 : decode b_Md_user 24 = .ok (.iconst 1, 1) := by decide +kernel
theorem d_Md_user_25 : decode b_Md_user 25 = .ok (.goto 4, 3) := by decide +kernel
theorem d_Md_user_37 : decode b_Md_user 37 = .ok (.aload_n 0, 1) := by decide +kernel
theorem d_Md_user_38 : decode b_Md_user 38 = .ok (.getfield 151, 3) := by decide +kernel
theorem d_Md_user_41 : decode b_Md_user 41 = .ok (.iload_n 1, 1) := by decide +kernel
theorem d_Md_user_42 : decode b_Md_user 42 = .ok (.iaload, 1) := by decide +kernel
theorem d_Md_user_43 : decode b_Md_user 43 = .ok (.ifCond .ne 7, 3) := by decide +kernel
theorem d_Md_user_46 : decode b_Md_user 46 = .ok (.iconst 1, 1) := by decide +kernel
theorem d_Md_user_47 : decode b_Md_user 47 = .ok (.goto 4, 3) := by decide +kernel
theorem d_Md_user_51 : decode b_Md_user 51 = .ok (.istore 5, 2) := by decide +kernel
theorem d_Md_user_53 : decode b_Md_user 53 = .ok (.iconst 0, 1) := by decide +kernel
theorem d_Md_user_54 : decode b_Md_user 54 = .ok (.istore 6, 2) := by decide +kernel
theorem d_Md_user_56 : decode b_Md_user 56 = .ok (.iload 6, 2) := by decide +kernel
theorem d_Md_user_58 : decode b_Md_user 58 = .ok (.iload 4, 2) := by decide +kernel
theorem d_Md_user_60 : decode b_Md_user 60 = .ok (.if_icmp .ge 27, 3) := by decide +kernel
theorem d_Md_user_63 : decode b_Md_user 63 = .ok (.aload_n 0, 1) := by decide +kernel
theorem d_Md_user_64 : decode b_Md_user 64 = .ok (.getfield 148, 3) := by decide +kernel
theorem d_Md_user_67 : decode b_Md_user 67 = .ok (.bipush 60, 2) := by decide +kernel
theorem d_Md_user_69 : decode b_Md_user 69 = .ok (.iload_n 1, 1) := by decide +kernel
theorem d_Md_user_70 : decode b_Md_user 70 = .ok (.imul, 1) := by decide +kernel
theorem d_Md_user_71 : decode b_Md_user 71 = .ok (.iload 6, 2) := by decide +kernel
theorem d_Md_user_73 : decode b_Md_user 73 = .ok (.iadd, 1) := by decide +kernel
theorem d_Md_user_74 : decode b_Md_user 74 = .ok (.lload_n 2, 1) := by decide +kernel
theorem d_Md_user_75 : decode b_Md_user 75 = .ok (.iload 6, 2) := by decide +kernel
theorem d_Md_user_77 : decode b_Md_user 77 = .ok (.invokestatic 293, 3) := by decide +kernel
theorem d_Md_user_80 : decode b_Md_user 80 = .ok (.iastore, 1) := by decide +kernel
theorem d_Md_user_81 : decode b_Md_user 81 = .ok (.iinc 6 1, 3) := by decide +kernel
theorem d_Md_user_84 : decode b_Md_user 84 = .ok (.goto (-28), 3) := by decide +kernel
theorem d_Md_user_87 : decode b_Md_user 87 = .ok (.aload_n 0, 1) := by decide +kernel
theorem d_Md_user_88 : decode b_Md_user 88 = .ok (.getfield 151, 3) := by decide +kernel
theorem d_Md_user_91 : decode b_Md_user 91 = .ok (.iload_n 1, 1) := by decide +kernel
theorem d_Md_user_92 : decode b_Md_user 92 = .ok (.iload 4, 2) := by decide +kernel
theorem d_Md_user_94 : decode b_Md_user 94 = .ok (.iastore, 1) := by decide +kernel
theorem d_Md_user_95 : decode b_Md_user 95 = .ok (.iload 5, 2) := by decide +kernel
theorem d_Md_user_97 : decode b_Md_user 97 = .ok (.ireturn, 1) := by decide +kernel
theorem d_Md_isKnown_0 : decode b_Md_isKnown 0 = .ok (.iload_n 0, 1) := by decide +kernel
theorem d_Md_isKnown_1 : decode b_Md_isKnown 1 = .ok (.iconst 1, 1) := by decide +kernel
theorem d_Md_isKnown_2 : decode b_Md_isKnown 2 = .ok (.if_icmp .eq 44, 3) := by decide +kernel
theorem d_Md_isKnown_46 : decode b_Md_isKnown 46 = .ok (.iconst 1, 1) := by decide +kernel
theorem d_Md_isKnown_47 : decode b_Md_isKnown 47 = .ok (.goto 4, 3) := by decide +kernel
theorem d_Md_isKnown_51 : decode b_Md_isKnown 51 = .ok (.ireturn, 1) := by decide +kernel
theorem d_Md_isKnown_5 : decode b_Md_isKnown 5 = .ok (.iload_n 0, 1) := by decide +kernel
theorem d_Md_isKnown_6 : decode b_Md_isKnown 6 = .ok (.iconst 2, 1) := by decide +kernel
theorem d_Md_isKnown_7 : decode b_Md_isKnown 7 = .ok (.if_icmp .eq 39, 3) := by decide +kernel
theorem d_Md_isKnown_10 : decode b_Md_isKnown 10 = .ok (.iload_n 0, 1) := by decide +kernel
theorem d_Md_isKnown_11 : decode b_Md_isKnown 11 = .ok (.bipush 24, 2) := by decide +kernel
theorem d_Md_isKnown_13 : decode b_Md_isKnown 13 = .ok (.if_icmp .eq 33, 3) := by decide +kernel
theorem d_Md_isKnown_16 : decode b_Md_isKnown 16 = .ok (.iload_n 0, 1) := by decide +kernel
theorem d_Md_isKnown_17 : decode b_Md_isKnown 17 = .ok (.bipush 40, 2) := by decide +kernel
theorem d_Md_isKnown_19 : decode b_Md_isKnown 19 = .ok (.if_icmp .eq 27, 3) := by decide +kernel
theorem d_Md_isKnown_22 : decode b_Md_isKnown 22 = .ok (.iload_n 0, 1) := by decide +kernel
theorem d_Md_isKnown_23 : decode b_Md_isKnown 23 = .ok (.bipush 41, 2) := by decide +kernel
theorem d_Md_isKnown_25 : decode b_Md_isKnown 25 = .ok (.if_icmp .le 9, 3) := by decide +kernel
theorem d_Md_isKnown_34 : decode b_Md_isKnown 34 = .ok (.iload_n 0, 1) := by decide +kernel
theorem d_Md_isKnown_35 : decode b_Md_isKnown 35 = .ok (.bipush 79, 2) := by decide +kernel
theorem d_Md_isKnown_37 : decode b_Md_isKnown 37 = .ok (.if_icmp .eq 9, 3) := by decide +kernel
theorem d_Md_isKnown_40 : decode b_Md_isKnown 40 = .ok (.iload_n 0, 1) := by decide +kernel
theorem d_Md_isKnown_41 : decode b_Md_isKnown 41 = .ok (.bipush 80, 2) := by decide +kernel
theorem d_Md_isKnown_43 : decode b_Md_isKnown 43 = .ok (.if_icmp .ne 7, 3) := by decide +kernel
theorem d_Md_isKnown_50 : decode b_Md_isKnown 50 = .ok (.iconst 0, 1) := by decide +kernel
theorem d_Md_isKnown_28 : decode b_Md_isKnown 28 = .ok (.iload_n 0, 1) := by decide +kernel
theorem d_Md_isKnown_29 : decode b_Md_isKnown 29 = .ok (.bipush 45, 2) := by decide +kernel
theorem d_Md_isKnown_31 : decode b_Md_isKnown 31 = .ok (.if_icmp .lt 15, 3) := by decide +kernel
theorem d_Md_find_0 : decode b_Md_find 0 = .ok (.iconst (-1), 1) := by decide +kernel
theorem d_Md_find_1 : decode b_Md_find 1 = .ok (.istore_n 2, 1) := by decide +kernel
theorem d_Md_find_2 : decode b_Md_find 2 = .ok (.bipush 20, 2) := by decide +kernel
theorem d_Md_find_4 : decode b_Md_find 4 = .ok (.istore_n 3, 1) := by decide +kernel
theorem d_Md_find_5 : decode b_Md_find 5 = .ok (.iload_n 3, 1) := by decide +kernel
theorem d_Md_find_6 : decode b_Md_find 6 = .ok (.aload_n 0, 1) := by decide +kernel
theorem d_Md_find_7 : decode b_Md_find 7 = .ok (.getfield 297, 3) := by decide +kernel
theorem d_Md_find_10 : decode b_Md_find 10 = .ok (.if_icmp .ge 95, 3) := by decide +kernel
theorem d_Md_find_105 : decode b_Md_find 105 = .ok (.iload_n 2, 1) := by decide +kernel
theorem d_Md_find_106 : decode b_Md_find 106 = .ok (.ireturn, 1) := by decide +kernel
theorem d_Md_has_0 : decode b_Md_has 0 = .ok (.aload_n 0, 1) := by decide +kernel
theorem d_Md_has_1 : decode b_Md_has 1 = .ok (.iload_n 1, 1) := by decide +kernel
theorem d_Md_has_2 : decode b_Md_has 2 = .ok (.invokevirtual 346, 3) := by decide +kernel
theorem d_Md_has_5 : decode b_Md_has 5 = .ok (.ifCond .lt 7, 3) := by decide +kernel
theorem d_Md_has_12 : decode b_Md_has 12 = .ok (.iconst 0, 1) := by decide +kernel
theorem d_Md_has_13 : decode b_Md_has 13 = .ok (.ireturn, 1) := by decide +kernel
theorem d_Md_findEnd_0 : decode b_Md_findEnd 0 = .ok (.bipush 20, 2) := by decide +kernel
theorem d_Md_findEnd_2 : decode b_Md_findEnd 2 = .ok (.istore_n 1, 1) := by decide +kernel
theorem d_Md_findEnd_3 : decode b_Md_findEnd 3 = .ok (.iconst 1, 1) := by decide +kernel
theorem d_Md_findEnd_4 : decode b_Md_findEnd 4 = .ok (.istore_n 2, 1) := by decide +kernel
theorem d_Md_findEnd_5 : decode b_Md_findEnd 5 = .ok (.iload_n 1, 1) := by decide +kernel
theorem d_Md_findEnd_6 : decode b_Md_findEnd 6 = .ok (.aload_n 0, 1) := by decide +kernel
theorem d_Md_findEnd_7 : decode b_Md_findEnd 7 = .ok (.getfield 297, 3) := by decide +kernel
theorem d_Md_findEnd_10 : decode b_Md_findEnd 10 = .ok (.if_icmp .ge 74, 3) := by decide +kernel
theorem d_Md_findEnd_84 : decode b_Md_findEnd 84 = .ok (.iload_n 2, 1) := by decide +kernel
theorem d_Md_findEnd_85 : decode b_Md_findEnd 85 = .ok (.ireturn, 1) := by decide +kernel
theorem d_Md_isWhole_0 : decode b_Md_isWhole 0 = .ok (.aload_n 0, 1) := by decide +kernel
theorem d_Md_isWhole_1 : decode b_Md_isWhole 1 = .ok (.getfield 297, 3) := by decide +kernel
theorem d_Md_isWhole_4 : decode b_Md_isWhole 4 = .ok (.bipush 20, 2) := by decide +kernel
theorem d_Md_isWhole_6 : decode b_Md_isWhole 6 = .ok (.if_icmp .lt 41, 3) := by decide +kernel
theorem d_Md_isWhole_9 : decode b_Md_isWhole 9 = .ok (.aload_n 0, 1) := by decide +kernel
theorem d_Md_isWhole_10 : decode b_Md_isWhole 10 = .ok (.getfield 297, 3) := by decide +kernel
theorem d_Md_isWhole_13 : decode b_Md_isWhole 13 = .ok (.sipush 1000, 3) := by decide +kernel
theorem d_Md_isWhole_16 : decode b_Md_isWhole 16 = .ok (.if_icmp .gt 31, 3) := by decide +kernel
theorem d_Md_isWhole_19 : decode b_Md_isWhole 19 = .ok (.sipush 256, 3) := by decide +kernel
theorem d_Md_isWhole_22 : decode b_Md_isWhole 22 = .ok (.aload_n 0, 1) := by decide +kernel
theorem d_Md_isWhole_23 : decode b_Md_isWhole 23 = .ok (.getfield 154, 3) := by decide +kernel
theorem d_Md_isWhole_26 : decode b_Md_isWhole 26 = .ok (.iconst 2, 1) := by decide +kernel
theorem d_Md_isWhole_27 : decode b_Md_isWhole 27 = .ok (.iaload, 1) := by decide +kernel
theorem d_Md_isWhole_28 : decode b_Md_isWhole 28 = .ok (.imul, 1) := by decide +kernel
theorem d_Md_isWhole_29 : decode b_Md_isWhole 29 = .ok (.aload_n 0, 1) := by decide +kernel
theorem d_Md_isWhole_30 : decode b_Md_isWhole 30 = .ok (.getfield 154, 3) := by decide +kernel
theorem d_Md_isWhole_33 : decode b_Md_isWhole 33 = .ok (.iconst 3, 1) := by decide +kernel
theorem d_Md_isWhole_34 : decode b_Md_isWhole 34 = .ok (.iaload, 1) := by decide +kernel
theorem d_Md_isWhole_35 : decode b_Md_isWhole 35 = .ok (.iadd, 1) := by decide +kernel
theorem d_Md_isWhole_36 : decode b_Md_isWhole 36 = .ok (.aload_n 0, 1) := by decide +kernel
theorem d_Md_isWhole_37 : decode b_Md_isWhole 37 = .ok (.getfield 297, 3) := by decide +kernel
theorem d_Md_isWhole_40 : decode b_Md_isWhole 40 = .ok (.if_icmp .ne 7, 3) := by decide +kernel
theorem d_Md_isWhole_43 : decode b_Md_isWhole 43 = .ok (.iconst 1, 1) := by decide +kernel
theorem d_Md_isWhole_44 : decode b_Md_isWhole 44 = .ok (.goto 4, 3) := by decide +kernel
theorem d_Md_isWhole_48 : decode b_Md_isWhole 48 = .ok (.istore_n 1, 1) := by decide +kernel
theorem d_Md_isWhole_49 : decode b_Md_isWhole 49 = .ok (.iconst 0, 1) := by decide +kernel
theorem d_Md_isWhole_50 : decode b_Md_isWhole 50 = .ok (.istore_n 2, 1) := by decide +kernel
theorem d_Md_isWhole_51 : decode b_Md_isWhole 51 = .ok (.iload_n 2, 1) := by decide +kernel
theorem d_Md_isWhole_52 : decode b_Md_isWhole 52 = .ok (.sipush 256, 3) := by decide +kernel
theorem d_Md_isWhole_55 : decode b_Md_isWhole 55 = .ok (.if_icmp .ge 36, 3) := by decide +kernel
theorem d_Md_isWhole_58 : decode b_Md_isWhole 58 = .ok (.iload_n 1, 1) := by decide +kernel
theorem d_Md_isWhole_59 : decode b_Md_isWhole 59 = .ok (.ifCond .eq 32, 3) := by decide +kernel
theorem d_Md_isWhole_62 : decode b_Md_isWhole 62 = .ok (.iload_n 2, 1) := by decide +kernel
theorem d_Md_isWhole_63 : decode b_Md_isWhole 63 = .ok (.invokestatic 343, 3) := by decide +kernel
theorem d_Md_isWhole_79 : decode b_Md_isWhole 79 = .ok (.iconst 1, 1) := by decide +kernel
theorem d_Md_isWhole_80 : decode b_Md_isWhole 80 = .ok (.goto 4, 3) := by decide +kernel
theorem d_Md_isWhole_84 : decode b_Md_isWhole 84 = .ok (.istore_n 1, 1) := by decide +kernel
theorem d_Md_isWhole_85 : decode b_Md_isWhole 85 = .ok (.iinc 2 1, 3) := by decide +kernel
theorem d_Md_isWhole_88 : decode b_Md_isWhole 88 = .ok (.goto (-37), 3) := by decide +kernel
theorem d_Md_isWhole_69 : decode b_Md_isWhole 69 = .ok (.aload_n 0, 1) := by decide +kernel
theorem d_Md_isWhole_70 : decode b_Md_isWhole 70 = .ok (.iload_n 2, 1) := by decide +kernel
theorem d_Md_isWhole_71 : decode b_Md_isWhole 71 = .ok (.invokevirtual 346, 3) := by decide +kernel
theorem d_Md_isWhole_74 : decode b_Md_isWhole 74 = .ok (.bipush (-2), 2) := by decide +kernel
theorem d_Md_isWhole_76 : decode b_Md_isWhole 76 = .ok (.if_icmp .eq 7, 3) := by decide +kernel
theorem d_Md_isWhole_66 : decode b_Md_isWhole 66 = .ok (.ifCond .eq 13, 3) := by decide +kernel
theorem d_Md_isWhole_91 : decode b_Md_isWhole 91 = .ok (.iload_n 1, 1) := by decide +kernel
theorem d_Md_isWhole_92 : decode b_Md_isWhole 92 = .ok (.ifCond .eq 14, 3) := by decide +kernel
theorem d_Md_isWhole_95 : decode b_Md_isWhole 95 = .ok (.aload_n 0, 1) := by decide +kernel
theorem d_Md_isWhole_96 : decode b_Md_isWhole 96 = .ok (.invokevirtual 349, 3) := by decide +kernel
theorem d_Md_isWhole_99 : decode b_Md_isWhole 99 = .ok (.ifCond .eq 7, 3) := by decide +kernel
theorem d_Md_isWhole_102 : decode b_Md_isWhole 102 = .ok (.iconst 1, 1) := by decide +kernel
theorem d_Md_isWhole_103 : decode b_Md_isWhole 103 = .ok (.goto 4, 3) := by decide +kernel
theorem d_Md_isWhole_107 : decode b_Md_isWhole 107 = .ok (.ireturn, 1) := by decide +kernel
theorem d_Md_send_10 : decode b_Md_send 10 = .ok (.iconst 1, 1) := by decide +kernel
theorem d_Md_send_11 : decode b_Md_send 11 = .ok (.goto 4, 3) := by decide +kernel
theorem d_Md_send_23 : decode b_Md_send 23 = .ok (.aload_n 0, 1) := by decide +kernel
theorem d_Md_send_24 : decode b_Md_send 24 = .ok (.invokevirtual 359, 3) := by decide +kernel
theorem d_Md_send_27 : decode b_Md_send 27 = .ok (.ifCond .ne 6, 3) := by decide +kernel
theorem d_Md_send_33 : decode b_Md_send 33 = .ok (.aload_n 0, 1) := by decide +kernel
theorem d_Md_send_34 : decode b_Md_send 34 = .ok (.getfield 154, 3) := by decide +kernel
theorem d_Md_send_37 : decode b_Md_send 37 = .ok (.iconst 0, 1) := by decide +kernel
theorem d_Md_send_38 : decode b_Md_send 38 = .ok (.iaload, 1) := by decide +kernel
theorem d_Md_send_39 : decode b_Md_send 39 = .ok (.istore_n 2, 1) := by decide +kernel
theorem d_Md_send_40 : decode b_Md_send 40 = .ok (.iload_n 2, 1) := by decide +kernel
theorem d_Md_send_41 : decode b_Md_send 41 = .ok (.iconst 1, 1) := by decide +kernel
theorem d_Md_send_42 : decode b_Md_send 42 = .ok (.if_icmp .eq 11, 3) := by decide +kernel
theorem d_Md_send_53 : decode b_Md_send 53 = .ok (.iload_n 2, 1) := by decide +kernel
theorem d_Md_send_54 : decode b_Md_send 54 = .ok (.iconst 1, 1) := by decide +kernel
theorem d_Md_send_55 : decode b_Md_send 55 = .ok (.if_icmp .ne 15, 3) := by decide +kernel
theorem d_Md_send_58 : decode b_Md_send 58 = .ok (.aload_n 0, 1) := by decide +kernel
theorem d_Md_send_59 : decode b_Md_send 59 = .ok (.bipush 80, 2) := by decide +kernel
theorem d_Md_send_61 : decode b_Md_send 61 = .ok (.invokevirtual 353, 3) := by decide +kernel
theorem d_Md_send_64 : decode b_Md_send 64 = .ok (.ifCond .ne 6, 3) := by decide +kernel
theorem d_Md_send_67 : decode b_Md_send 67 = .ok (.bipush (-4), 2) := by decide +kernel
theorem d_Md_send_69 : decode b_Md_send 69 = .ok (.ireturn, 1) := by decide +kernel
set_option maxHeartbeats 4000000 in
set_option maxRecDepth 100000 in
/-- secret -/
theorem o_secret (l : Launch) (dC : Nat → ClassId) (dI : Nat → Nat → Nat) (cT : Nat → ClassId) (sz : Nat) (mo : Nat) (r : Nat → Nat) (z : Nat → Int32) (q : Nat → Int64) (cd : Int32) (tm : Int32) (sn : Nat) (tx : Nat) (fc : Nat → Int32) (fz : Nat → Int32) (st : Nat) (v : Int64) (k : Nat) (hst : st < 4) (hk1 : 1 ≤ k) (hk2 : k ≤ 40) : Met l y_Md_secret (Cond.code y_Md_secret b_Md_secret 6 (Option.none : Option Jvm.ClassFile.FieldType) :: BIG) ({ frames := 1, cells := 0, slots := 0, locals := 22 }) (va_Pc [.ref mo, .int (nI st), .long v, .int (nI k)] (fun U => U.heap.size = sz ∧ va_P (dC, dI) vcl [(mo, .inr (12, mdF r z q cd tm (nI 20) (nI tx))), (r 3, .inl ((cT 0), 160, .inl fc)), (r 4, .inl ((cT 0), 4, .inl fz))] U.heap ∧ va_K (dC, dI) vcl (tyL cT) U ∧ va_D (fun _ => True) [(mo, .inr (12, mdF r z q cd tm (nI 20) (nI tx))), (r 3, .inl ((cT 0), 160, .inl fc)), (r 4, .inl ((cT 0), 4, .inl fz))])) (va_Qv (S := Unit) (fun u => True) (fun u t => va_P (dC, dI) vcl [(mo, .inr (12, mdF r z q 0 tm (nI 20) (nI tx)))] t.heap ∧ va_K (dC, dI) vcl (tyL cT) t ∧ va_D (va_A [(mo, .inr (12, mdF r z q cd tm (nI 20) (nI tx))), (r 3, .inl ((cT 0), 160, .inl fc)), (r 4, .inl ((cT 0), 4, .inl fz))] sz) [(mo, .inr (12, mdF r z q 0 tm (nI 20) (nI tx)))]) (va_A [(mo, .inr (12, mdF r z q cd tm (nI 20) (nI tx))), (r 3, .inl ((cT 0), 160, .inl fc)), (r 4, .inl ((cT 0), 4, .inl fz))] sz)) 0 0 (va_A [(mo, .inr (12, mdF r z q cd tm (nI 20) (nI tx))), (r 3, .inl ((cT 0), 160, .inl fc)), (r 4, .inl ((cT 0), 4, .inl fz))] sz) := by
  refine Met.ofW (cc := b_Md_secret) (maxL := 6) (ret := (Option.none : Option Jvm.ClassFile.FieldType)) (by decide) rfl ?_
  intro p e s m args below meth c s₁ B hml hv
  obtain ⟨hargs, hsz, hP, hK, hD0⟩ := hv
  have hx := B.exec
  have hb := B.bytes
  have hr := B.returns
  have hts := atoms_spec (ws := (Cond.code y_Md_secret b_Md_secret 6 (Option.none : Option Jvm.ClassFile.FieldType) :: BIG)) B.pre
  have hg : ∀ w ∈ BIG, w.before _ s = true := fun w h => hts w (List.mem_cons_of_mem _ h)
  have hown : s.vm.findClass "DoorServerModel" = some m.cls := findClass_of_methodNamed B.named
  have hlocks := B.notSynchronized
  subst hsz
  have hD := hD0.self (sz := s.heap.size)
  generalize hAe : va_A [(mo, .inr (12, mdF r z q cd tm (nI 20) (nI tx))), (r 3, .inl ((cT 0), 160, .inl fc)), (r 4, .inl ((cT 0), 4, .inl fz))] s.heap.size = A at hD ⊢
  have hA : ∀ q : Nat, s.heap.size ≤ q → A q := fun q h => by rw [← hAe]; exact Or.inr h
  have hS : va_S A s.heap s.heap [] := va_S.rf
  have hl := lv_entry ([.ref mo, .int (nI st), .long v, .int (nI k)]) (n := 6) (Nat.le_of_ble_eq_true rfl)
  refine W.eq (g2 := entryFrame m (List.toArray [.ref mo, .int (nI st), .long v, .int (nI k)]) 6) (by rw [hargs]) ?_
  rw [lg_entry_eq]
  generalize (lg_sl ([.ref mo, .int (nI st), .long v, .int (nI k)]) ++ List.replicate (6 - (lg_sl ([.ref mo, .int (nI st), .long v, .int (nI k)])).length) Slot.unset).toArray = ls at hl ⊢
  have hl : lv_has ls 6 [(0, .ref mo), (1, .int (nI st)), (2, .long v), (4, .int (nI k))] := hl
  change W p l e ({ frames := 1, cells := 0, slots := 0, locals := 22 } : Room) s m args below meth c s.heap [] 0 0 _ _
  have hP : va_P (dC, dI) vcl [(mo, .inr (12, mdF r z q cd tm (nI 20) (nI tx))), (r 3, .inl ((cT 0), 160, .inl fc)), (r 4, .inl ((cT 0), 4, .inl fz))] s.heap := hP
  refine lv_aload_n hx hb d_Md_secret_0 rfl (lv_at hl 0 rfl) ?_
  refine lv_iload_n hx hb d_Md_secret_1 rfl (lv_at hl 1 rfl) ?_
  refine lv_if_lt (tgt := 27) hx hb d_Md_secret_2 (by decide) (fun hn9 => absurd hn9 (nI_pos (by omega))) (fun hc1 => ?_)
  refine lv_iload_n hx hb d_Md_secret_5 rfl (lv_at hl 1 rfl) ?_
  refine lv_iconst (v := 4) hx hb d_Md_secret_6 (by decide) ?_
  refine lv_icmp_ge (tgt := 27) hx hb d_Md_secret_7 (by decide) (fun hn9 => absurd hn9 (nI_ge (b := 4) hst (by decide))) (fun hc2 => ?_)
  refine lv_iload hx hb d_Md_secret_10 (lv_at hl 3 rfl) ?_
  refine lv_iconst (v := 1) hx hb d_Md_secret_12 (by decide) ?_
  refine lv_icmp_lt (tgt := 27) hx hb d_Md_secret_13 (by decide) (fun hn9 => absurd hn9 (nI_nlt (b := 1) hk1 (by omega))) (fun hc3 => ?_)
  refine lv_iload hx hb d_Md_secret_16 (lv_at hl 3 rfl) ?_
  refine lv_bipush (v := 40) hx hb d_Md_secret_18 (by decide) ?_
  refine lv_icmp_gt (tgt := 27) hx hb d_Md_secret_20 (by decide) (fun hn9 => absurd hn9 (nI_nlt (a := 40) hk2 (by decide))) (fun hc4 => ?_)
  refine lv_iconst (v := 1) hx hb d_Md_secret_23 (by decide) ?_
  refine lv_goto (tgt := 28) hx hb d_Md_secret_24 (by decide) ?_
  have hPc := hP.sub (ws' := [(mo, .inr (12, mdF r z q cd tm (nI 20) (nI tx)))]) [0] rfl
  have hDc := hD.sub (ws' := [(mo, .inr (12, mdF r z q cd tm (nI 20) (nI tx)))]) [0] (by decide) rfl
  have hFc := va_free (wc := [(mo, .inr (12, mdF r z q cd tm (nI 20) (nI tx)))]) hD hS hA [0] rfl
  refine va_calli (va_runV (C := "DoorServerModel") (As := [.int 1]) (rest := []) ⟨hx, hb, hml, hown, hg⟩ (m_goes1 l dC dI cT s.heap.size mo r z q cd tm 20 tx ) (cwV 1 hg (gI (List.forall_mem_append.mpr ⟨List.forall_mem_cons.mpr ⟨k_1165, List.forall_mem_cons.mpr ⟨k_1167, List.forall_mem_cons.mpr ⟨(big_sel (q := y_Md_goes) (n := 45) (by decide +kernel)), List.forall_mem_cons.mpr ⟨k_13, fun _ h => absurd h List.not_mem_nil⟩⟩⟩⟩, List.forall_mem_cons.mpr ⟨k_1168, fun _ h => h⟩⟩)) rfl rfl rfl (by decide +kernel) ⟨Nat.le_of_ble_eq_true rfl, Nat.le_of_ble_eq_true rfl⟩) ⟨fun a U g mk q => by obtain ⟨q0, q1, qP, qK, qD⟩ := q; exact ⟨q0, q1, qP, va_K.moved (u := U) (U := U.calling g mk a) (Vm.Alike.refl U.vm) qK, qD⟩, va_recv (q0 := 0) (ci := 12) hK hP rfl rfl, fun U hU hW => ⟨rfl, by rw [hU], by rw [hU]; exact hPc, va_K.moved hW.alike hK, hDc.weaken (fun _ _ _ _ => trivial)⟩⟩ rfl rfl hl.1 rfl (lv_room (Nat.le_of_ble_eq_true rfl)) d_Md_secret_28 ⟨Nat.le_of_ble_eq_true rfl, Nat.le_of_ble_eq_true rfl⟩) hS (fun q _ h => hFc q h) hFc (fun rv9 u t H1 locs ht hvm hw hB hz1 hk1 hS => ?_)
  try dsimp only at hw hB
  obtain ⟨hP1, hK1, hD1⟩ := hB
  rw [ht] at hP1
  obtain ⟨rfl, hw⟩ := hw
  obtain ⟨hP, hD⟩ := va_join (wr := [(r 3, .inl ((cT 0), 160, .inl fc)), (r 4, .inl ((cT 0), 4, .inl fz))]) (w1 := [(mo, .inr (12, mdF r z q 0 tm (nI 20) (nI tx)))]) hP hD [0] [1, 2] rfl rfl (by decide) (by decide) hk1 hFc hP1 hD1
  have hw5 := hw
  clear hPc hDc hFc hz1 hk1 hP1 hK1 hD1
  generalize H1 = H at hP hS ⊢
  have hP : va_P (dC, dI) vcl [(r 3, .inl ((cT 0), 160, .inl fc)), (r 4, .inl ((cT 0), 4, .inl fz)), (mo, .inr (12, mdF r z q 0 tm (nI 20) (nI tx)))] H := hP
  have hD : va_D A [(r 3, .inl ((cT 0), 160, .inl fc)), (r 4, .inl ((cT 0), 4, .inl fz)), (mo, .inr (12, mdF r z q 0 tm (nI 20) (nI tx)))] := hD
  refine lv_if_eq (tgt := 76) hx hb d_Md_secret_31 (by decide) (fun hn9 => absurd hn9 (by decide)) (fun hc6 => ?_)
  refine lv_iconst (v := 0) hx hb d_Md_secret_34 (by decide) ?_
  refine lv_istore (lv' := [(5, .int 0), (0, .ref mo), (1, .int (nI st)), (2, .long v), (4, .int (nI k))]) hx hb d_Md_secret_35 hl (by decide) rfl (fun ls hl => ?_)
  have hl := lv_sub hl [0, 1, 2, 3, 4] (show _ = [(5, .int 0), (0, .ref mo), (1, .int (nI st)), (2, .long v), (4, .int (nI k))] from rfl)
  have hP := hP.sub (ws' := [(mo, .inr (12, mdF r z q 0 tm (nI 20) (nI tx))), (r 3, .inl ((cT 0), 160, .inl fc)), (r 4, .inl ((cT 0), 4, .inl fz))]) [2, 0, 1] rfl
  have hD := hD.sub (ws' := [(mo, .inr (12, mdF r z q 0 tm (nI 20) (nI tx))), (r 3, .inl ((cT 0), 160, .inl fc)), (r 4, .inl ((cT 0), 4, .inl fz))]) [2, 0, 1] (by decide) rfl
  have L7 : ∀ (Q : State → Prop) (exit : ∀ (fc : Nat → Int32) (H : Heap) (locs : List Loc) (ls : Array Slot), va_P (dC, dI) vcl [(mo, .inr (12, mdF r z q 0 tm (nI 20) (nI tx))), (r 3, .inl ((cT 0), 160, .inl fc)), (r 4, .inl ((cT 0), 4, .inl fz))] H → va_D A [(mo, .inr (12, mdF r z q 0 tm (nI 20) (nI tx))), (r 3, .inl ((cT 0), 160, .inl fc)), (r 4, .inl ((cT 0), 4, .inl fz))] → va_S A s.heap H locs → lv_has ls 6 [(5, .int (nI k)), (0, .ref mo), (1, .int (nI st)), (2, .long v), (4, .int (nI k))] → W p l e ({ frames := 1, cells := 0, slots := 0, locals := 22 } : Room) s m args below meth c H locs 0 0 Q (F0 m 68 ls [])) (j8 i : Nat) (fc : Nat → Int32) (H : Heap) (locs : List Loc) (ls : Array Slot), i + j8 = k → va_P (dC, dI) vcl [(mo, .inr (12, mdF r z q 0 tm (nI 20) (nI tx))), (r 3, .inl ((cT 0), 160, .inl fc)), (r 4, .inl ((cT 0), 4, .inl fz))] H → va_D A [(mo, .inr (12, mdF r z q 0 tm (nI 20) (nI tx))), (r 3, .inl ((cT 0), 160, .inl fc)), (r 4, .inl ((cT 0), 4, .inl fz))] → va_S A s.heap H locs → lv_has ls 6 [(5, .int (nI i)), (0, .ref mo), (1, .int (nI st)), (2, .long v), (4, .int (nI k))] → W p l e ({ frames := 1, cells := 0, slots := 0, locals := 22 } : Room) s m args below meth c H locs 0 0 Q (F0 m 37 ls []) := by
    intro Q exit j8
    induction j8 with
    | zero => 
      intro i fc H locs ls hij  hP hD hS hl
      have hij : k = i := by omega
      refine lv_iload hx hb d_Md_secret_37 (lv_at hl 0 rfl) ?_
      refine lv_iload hx hb d_Md_secret_39 (lv_at hl 4 rfl) ?_
      refine lv_icmp_ge (tgt := 68) hx hb d_Md_secret_41 (by decide) (fun hc8 => ?_) (fun hn9 => absurd (nI_le (by omega) (by omega)) hn9)
      subst hij
      exact exit fc _ _ _  hP hD hS hl
    | succ j8 ih => 
      intro i fc H locs ls hij  hP hD hS hl
      have hlt : i < k := by omega
      refine lv_iload hx hb d_Md_secret_37 (lv_at hl 0 rfl) ?_
      refine lv_iload hx hb d_Md_secret_39 (lv_at hl 4 rfl) ?_
      refine lv_icmp_ge (tgt := 68) hx hb d_Md_secret_41 (by decide) (fun hn9 => absurd hn9 (nI_ge hlt (by omega))) (fun hc9 => ?_)
      refine lv_aload_n hx hb d_Md_secret_44 rfl (lv_at hl 1 rfl) ?_
      refine va_get (D := (dC, dI)) (ci := 12) (v := (.ref (r 3))) (C := R_Md) (T := F_Md) (N := 45) hx hb hg in_Md hown hK hP 0 rfl rfl 3 (by decide) (hg _ k_1023) (fun _ h9 => h9) rfl d_Md_secret_45 ?_
      refine lv_bipush (v := 40) hx hb d_Md_secret_48 (by decide) ?_
      refine lv_iload_n hx hb d_Md_secret_50 rfl (lv_at hl 2 rfl) ?_
      refine lv_imul hx hb d_Md_secret_51 ?_
      refine lv_topi (fun x11 e10 => ?_)
      obtain rfl : x11 = nI (40 * st) := by rw [e10]; exact pk_mul 40 st
      refine lv_iload hx hb d_Md_secret_52 (lv_at hl 0 rfl) ?_
      refine lv_iadd hx hb d_Md_secret_54 ?_
      refine lv_topi (fun x13 e12 => ?_)
      obtain rfl : x13 = nI (40 * st + i) := by rw [e12]; exact nI_add _ _
      refine lv_lload_n hx hb d_Md_secret_55 rfl (lv_at hl 3 rfl) ?_
      refine lv_iload hx hb d_Md_secret_56 (lv_at hl 0 rfl) ?_
      have hPc := hP.sub (ws' := []) [] rfl
      have hDc := hD.sub (ws' := []) [] (by decide) rfl
      have hFc := va_free (wc := []) hD hS hA [] rfl
      refine va_calli (va_runS (As := [.long v, .int (nI i)]) (rest := [.int (nI (40 * st + i)), .ref (r 3)]) ⟨hx, hb, hml, hown, hg⟩ (m_letter l dC dI cT H.size v (nI i) ) (va_cwS 2 hg (gI (List.forall_mem_append.mpr ⟨List.forall_mem_cons.mpr ⟨k_1169, List.forall_mem_cons.mpr ⟨k_1170, List.forall_mem_cons.mpr ⟨k_13, fun _ h => absurd h List.not_mem_nil⟩⟩⟩, List.forall_mem_cons.mpr ⟨k_1171, fun _ h => h⟩⟩)) rfl rfl rfl (by decide +kernel) ⟨Nat.le_of_ble_eq_true rfl, Nat.le_of_ble_eq_true rfl⟩) ⟨fun a U g mk q => by obtain ⟨q0, q1, qP, qK, qD⟩ := q; exact ⟨q0, q1, qP, va_K.moved (u := U) (U := U.calling g mk a) (Vm.Alike.refl U.vm) qK, qD⟩, fun U hU hW => ⟨rfl, by rw [hU], by rw [hU]; exact hPc, va_K.moved hW.alike hK, hDc.weaken (fun _ _ _ _ => trivial)⟩⟩ rfl rfl hl.1 rfl (lv_room (Nat.le_of_ble_eq_true rfl)) d_Md_secret_58 ⟨Nat.le_of_ble_eq_true rfl, Nat.le_of_ble_eq_true rfl⟩) hS (fun q _ h => hFc q h) hFc (fun rv9 u t H1 locs ht hvm hw hB hz1 hk1 hS => ?_)
      try dsimp only at hw hB
      obtain ⟨hP1, hK1, hD1⟩ := hB
      rw [ht] at hP1
      generalize rv9 = r14 at hw ⊢
      obtain ⟨hP, hD⟩ := va_join (wr := [(mo, .inr (12, mdF r z q 0 tm (nI 20) (nI tx))), (r 3, .inl ((cT 0), 160, .inl fc)), (r 4, .inl ((cT 0), 4, .inl fz))]) (w1 := []) hP hD [] [0, 1, 2] rfl rfl (by decide) (by decide) hk1 hFc hP1 hD1
      have hw15 := hw
      clear hPc hDc hFc hz1 hk1 hP1 hK1 hD1
      generalize H1 = H at hP hS ⊢
      have hP : va_P (dC, dI) vcl [(mo, .inr (12, mdF r z q 0 tm (nI 20) (nI tx))), (r 3, .inl ((cT 0), 160, .inl fc)), (r 4, .inl ((cT 0), 4, .inl fz))] H := hP
      have hD : va_D A [(mo, .inr (12, mdF r z q 0 tm (nI 20) (nI tx))), (r 3, .inl ((cT 0), 160, .inl fc)), (r 4, .inl ((cT 0), 4, .inl fz))] := hD
      refine va_iast hx hb hK hP hD hS 1 0 rfl rfl (i := (nI (40 * st + i))) (vp_in_nI (by omega) (by decide)) d_Md_secret_61 (fun H locs hP hD hS => ?_)
      have hP : va_P (dC, dI) vcl [(mo, .inr (12, mdF r z q 0 tm (nI 20) (nI tx))), (r 3, .inl ((cT 0), 160, .inl (upd fc (nI (40 * st + i)).toNatClampNeg r14))), (r 4, .inl ((cT 0), 4, .inl fz))] H := hP
      have hD : va_D A [(mo, .inr (12, mdF r z q 0 tm (nI 20) (nI tx))), (r 3, .inl ((cT 0), 160, .inl (upd fc (nI (40 * st + i)).toNatClampNeg r14))), (r 4, .inl ((cT 0), 4, .inl fz))] := hD
      refine lv_iinc (k := 0) (v := nI (i + 1)) (lv' := [(5, .int (nI (i + 1))), (0, .ref mo), (1, .int (nI st)), (2, .long v), (4, .int (nI k))]) hx hb d_Md_secret_62 hl rfl (nI_1 i) (by decide) rfl (fun ls hl => ?_)
      refine lv_goto (tgt := 37) hx hb d_Md_secret_65 (by decide) ?_
      exact ih (i + 1) _ _ _ _ (by omega)  hP hD hS hl
  refine L7 _ (fun fc H locs ls  hP hD hS hl => ?_) (k - 0) 0 fc H _ ls (by omega)  hP hD hS hl
  refine lv_aload_n hx hb d_Md_secret_68 rfl (lv_at hl 1 rfl) ?_
  refine va_get (D := (dC, dI)) (ci := 12) (v := (.ref (r 4))) (C := R_Md) (T := F_Md) (N := 45) hx hb hg in_Md hown hK hP 0 rfl rfl 4 (by decide) (hg _ k_1024) (fun _ h9 => h9) rfl d_Md_secret_69 ?_
  refine lv_iload_n hx hb d_Md_secret_72 rfl (lv_at hl 2 rfl) ?_
  refine lv_iload hx hb d_Md_secret_73 (lv_at hl 4 rfl) ?_
  refine va_iast hx hb hK hP hD hS 2 0 rfl rfl (i := (nI st)) (vp_in_nI (N := 4) hst (by decide)) d_Md_secret_75 (fun H locs hP hD hS => ?_)
  have hP : va_P (dC, dI) vcl [(mo, .inr (12, mdF r z q 0 tm (nI 20) (nI tx))), (r 3, .inl ((cT 0), 160, .inl fc)), (r 4, .inl ((cT 0), 4, .inl (upd fz (nI st).toNatClampNeg (nI k))))] H := hP
  have hD : va_D A [(mo, .inr (12, mdF r z q 0 tm (nI 20) (nI tx))), (r 3, .inl ((cT 0), 160, .inl fc)), (r 4, .inl ((cT 0), 4, .inl (upd fz (nI st).toNatClampNeg (nI k))))] := hD
  have hP9 := hP.sub (ws' := [(mo, .inr (12, mdF r z q 0 tm (nI 20) (nI tx)))]) [0] rfl
  have hD9 := hD.sub (ws' := [(mo, .inr (12, mdF r z q 0 tm (nI 20) (nI tx)))]) [0] (by decide) rfl
  exact W.vret hx hb hr (fun t ht hW => ⟨⟨(), rfl, trivial, by rw [ht]; exact hP9, va_K.moved hW.alike hK, hD9⟩, hS.F ht⟩) hS.2.2 d_Md_secret_76
set_option maxHeartbeats 4000000 in
set_option maxRecDepth 100000 in
/-- user -/
theorem o_user (l : Launch) (dC : Nat → ClassId) (dI : Nat → Nat → Nat) (cT : Nat → ClassId) (sz : Nat) (mo : Nat) (r : Nat → Nat) (z : Nat → Int32) (q : Nat → Int64) (cd : Int32) (tm : Int32) (sn : Nat) (tx : Nat) (fc : Nat → Int32) (fz : Nat → Int32) (st : Nat) (v : Int64) (k : Nat) (hst : st < 32) (hk1 : 1 ≤ k) (hk2 : k ≤ 60) (hfz : fz st = 0) : Met l y_Md_user (Cond.code y_Md_user b_Md_user 7 (Option.some Jvm.ClassFile.FieldType.boolean) :: BIG) ({ frames := 1, cells := 0, slots := 0, locals := 22 }) (va_Pc [.ref mo, .int (nI st), .long v, .int (nI k)] (fun U => U.heap.size = sz ∧ va_P (dC, dI) vcl [(mo, .inr (12, mdF r z q cd tm (nI 20) (nI tx))), (r 5, .inl ((cT 0), 1920, .inl fc)), (r 6, .inl ((cT 0), 32, .inl fz))] U.heap ∧ va_K (dC, dI) vcl (tyL cT) U ∧ va_D (fun _ => True) [(mo, .inr (12, mdF r z q cd tm (nI 20) (nI tx))), (r 5, .inl ((cT 0), 1920, .inl fc)), (r 6, .inl ((cT 0), 32, .inl fz))])) (va_Qi (S := Unit) (fun rv9 u => rv9 = 1 ∧ (True)) (fun u t => va_P (dC, dI) vcl [(mo, .inr (12, mdF r z q 0 tm (nI 20) (nI tx)))] t.heap ∧ va_K (dC, dI) vcl (tyL cT) t ∧ va_D (va_A [(mo, .inr (12, mdF r z q cd tm (nI 20) (nI tx))), (r 5, .inl ((cT 0), 1920, .inl fc)), (r 6, .inl ((cT 0), 32, .inl fz))] sz) [(mo, .inr (12, mdF r z q 0 tm (nI 20) (nI tx)))]) (va_A [(mo, .inr (12, mdF r z q cd tm (nI 20) (nI tx))), (r 5, .inl ((cT 0), 1920, .inl fc)), (r 6, .inl ((cT 0), 32, .inl fz))] sz)) 0 0 (va_A [(mo, .inr (12, mdF r z q cd tm (nI 20) (nI tx))), (r 5, .inl ((cT 0), 1920, .inl fc)), (r 6, .inl ((cT 0), 32, .inl fz))] sz) := by
  refine Met.ofW (cc := b_Md_user) (maxL := 7) (ret := (Option.some Jvm.ClassFile.FieldType.boolean)) (by decide) rfl ?_
  intro p e s m args below meth c s₁ B hml hv
  obtain ⟨hargs, hsz, hP, hK, hD0⟩ := hv
  have hx := B.exec
  have hb := B.bytes
  have hr := B.returns
  have hts := atoms_spec (ws := (Cond.code y_Md_user b_Md_user 7 (Option.some Jvm.ClassFile.FieldType.boolean) :: BIG)) B.pre
  have hg : ∀ w ∈ BIG, w.before _ s = true := fun w h => hts w (List.mem_cons_of_mem _ h)
  have hown : s.vm.findClass "DoorServerModel" = some m.cls := findClass_of_methodNamed B.named
  have hlocks := B.notSynchronized
  subst hsz
  have hD := hD0.self (sz := s.heap.size)
  generalize hAe : va_A [(mo, .inr (12, mdF r z q cd tm (nI 20) (nI tx))), (r 5, .inl ((cT 0), 1920, .inl fc)), (r 6, .inl ((cT 0), 32, .inl fz))] s.heap.size = A at hD ⊢
  have hA : ∀ q : Nat, s.heap.size ≤ q → A q := fun q h => by rw [← hAe]; exact Or.inr h
  have hS : va_S A s.heap s.heap [] := va_S.rf
  have hl := lv_entry ([.ref mo, .int (nI st), .long v, .int (nI k)]) (n := 7) (Nat.le_of_ble_eq_true rfl)
  refine W.eq (g2 := entryFrame m (List.toArray [.ref mo, .int (nI st), .long v, .int (nI k)]) 7) (by rw [hargs]) ?_
  rw [lg_entry_eq]
  generalize (lg_sl ([.ref mo, .int (nI st), .long v, .int (nI k)]) ++ List.replicate (7 - (lg_sl ([.ref mo, .int (nI st), .long v, .int (nI k)])).length) Slot.unset).toArray = ls at hl ⊢
  have hl : lv_has ls 7 [(0, .ref mo), (1, .int (nI st)), (2, .long v), (4, .int (nI k))] := hl
  change W p l e ({ frames := 1, cells := 0, slots := 0, locals := 22 } : Room) s m args below meth c s.heap [] 0 0 _ _
  have hP : va_P (dC, dI) vcl [(mo, .inr (12, mdF r z q cd tm (nI 20) (nI tx))), (r 5, .inl ((cT 0), 1920, .inl fc)), (r 6, .inl ((cT 0), 32, .inl fz))] s.heap := hP
  refine lv_aload_n hx hb d_Md_user_0 rfl (lv_at hl 0 rfl) ?_
  refine lv_iload_n hx hb d_Md_user_1 rfl (lv_at hl 1 rfl) ?_
  refine lv_if_lt (tgt := 28) hx hb d_Md_user_2 (by decide) (fun hn9 => absurd hn9 (nI_pos (by omega))) (fun hc16 => ?_)
  refine lv_iload_n hx hb d_Md_user_5 rfl (lv_at hl 1 rfl) ?_
  refine lv_bipush (v := 32) hx hb d_Md_user_6 (by decide) ?_
  refine lv_icmp_ge (tgt := 28) hx hb d_Md_user_8 (by decide) (fun hn9 => absurd hn9 (nI_ge (b := 32) hst (by decide))) (fun hc17 => ?_)
  refine lv_iload hx hb d_Md_user_11 (lv_at hl 3 rfl) ?_
  refine lv_iconst (v := 1) hx hb d_Md_user_13 (by decide) ?_
  refine lv_icmp_lt (tgt := 28) hx hb d_Md_user_14 (by decide) (fun hn9 => absurd hn9 (nI_nlt (b := 1) hk1 (by omega))) (fun hc18 => ?_)
  refine lv_iload hx hb d_Md_user_17 (lv_at hl 3 rfl) ?_
  refine lv_bipush (v := 60) hx hb d_Md_user_19 (by decide) ?_
  refine lv_icmp_gt (tgt := 28) hx hb d_Md_user_21 (by decide) (fun hn9 => absurd hn9 (nI_nlt (a := 60) hk2 (by decide))) (fun hc19 => ?_)
  refine lv_iconst (v := 1) hx hb d_Md_user_24 (by decide) ?_
  refine lv_goto (tgt := 29) hx hb d_Md_user_25 (by decide) ?_
  have hPc := hP.sub (ws' := [(mo, .inr (12, mdF r z q cd tm (nI 20) (nI tx)))]) [0] rfl
  have hDc := hD.sub (ws' := [(mo, .inr (12, mdF r z q cd tm (nI 20) (nI tx)))]) [0] (by decide) rfl
  have hFc := va_free (wc := [(mo, .inr (12, mdF r z q cd tm (nI 20) (nI tx)))]) hD hS hA [0] rfl
  refine va_calli (va_runV (C := "DoorServerModel") (As := [.int 1]) (rest := []) ⟨hx, hb, hml, hown, hg⟩ (m_goes1 l dC dI cT s.heap.size mo r z q cd tm 20 tx ) (cwV 1 hg (gI (List.forall_mem_append.mpr ⟨List.forall_mem_cons.mpr ⟨k_1165, List.forall_mem_cons.mpr ⟨k_1167, List.forall_mem_cons.mpr ⟨(big_sel (q := y_Md_goes) (n := 45) (by decide +kernel)), List.forall_mem_cons.mpr ⟨k_13, fun _ h => absurd h List.not_mem_nil⟩⟩⟩⟩, List.forall_mem_cons.mpr ⟨k_1168, fun _ h => h⟩⟩)) rfl rfl rfl (by decide +kernel) ⟨Nat.le_of_ble_eq_true rfl, Nat.le_of_ble_eq_true rfl⟩) ⟨fun a U g mk q => by obtain ⟨q0, q1, qP, qK, qD⟩ := q; exact ⟨q0, q1, qP, va_K.moved (u := U) (U := U.calling g mk a) (Vm.Alike.refl U.vm) qK, qD⟩, va_recv (q0 := 0) (ci := 12) hK hP rfl rfl, fun U hU hW => ⟨rfl, by rw [hU], by rw [hU]; exact hPc, va_K.moved hW.alike hK, hDc.weaken (fun _ _ _ _ => trivial)⟩⟩ rfl rfl hl.1 rfl (lv_room (Nat.le_of_ble_eq_true rfl)) d_Md_user_29 ⟨Nat.le_of_ble_eq_true rfl, Nat.le_of_ble_eq_true rfl⟩) hS (fun q _ h => hFc q h) hFc (fun rv9 u t H1 locs ht hvm hw hB hz1 hk1 hS => ?_)
  try dsimp only at hw hB
  obtain ⟨hP1, hK1, hD1⟩ := hB
  rw [ht] at hP1
  obtain ⟨rfl, hw⟩ := hw
  obtain ⟨hP, hD⟩ := va_join (wr := [(r 5, .inl ((cT 0), 1920, .inl fc)), (r 6, .inl ((cT 0), 32, .inl fz))]) (w1 := [(mo, .inr (12, mdF r z q 0 tm (nI 20) (nI tx)))]) hP hD [0] [1, 2] rfl rfl (by decide) (by decide) hk1 hFc hP1 hD1
  have hw20 := hw
  clear hPc hDc hFc hz1 hk1 hP1 hK1 hD1
  generalize H1 = H at hP hS ⊢
  have hP : va_P (dC, dI) vcl [(r 5, .inl ((cT 0), 1920, .inl fc)), (r 6, .inl ((cT 0), 32, .inl fz)), (mo, .inr (12, mdF r z q 0 tm (nI 20) (nI tx)))] H := hP
  have hD : va_D A [(r 5, .inl ((cT 0), 1920, .inl fc)), (r 6, .inl ((cT 0), 32, .inl fz)), (mo, .inr (12, mdF r z q 0 tm (nI 20) (nI tx)))] := hD
  refine lv_if_ne (tgt := 37) hx hb d_Md_user_32 (by decide) (fun hc21 => ?_) (fun hn9 => absurd hn9 (by decide))
  refine lv_aload_n hx hb d_Md_user_37 rfl (lv_at hl 0 rfl) ?_
  refine va_get (D := (dC, dI)) (ci := 12) (v := (.ref (r 6))) (C := R_Md) (T := F_Md) (N := 45) hx hb hg in_Md hown hK hP 2 rfl rfl 6 (by decide) (hg _ k_1026) (fun _ h9 => h9) rfl d_Md_user_38 ?_
  refine lv_iload_n hx hb d_Md_user_41 rfl (lv_at hl 1 rfl) ?_
  refine va_iald hx hb hK hP 1 0 rfl rfl (i := (nI st)) (vp_in_nI (N := 32) hst (by decide)) d_Md_user_42 ?_
  refine lv_topi (fun x23 e22 => ?_)
  obtain rfl : x23 = 0 := by rw [e22]; rw [nI_clamp (by omega)]; exact hfz
  refine lv_if_ne (tgt := 50) hx hb d_Md_user_43 (by decide) (fun hn9 => absurd hn9 (by decide)) (fun hc24 => ?_)
  refine lv_iconst (v := 1) hx hb d_Md_user_46 (by decide) ?_
  refine lv_goto (tgt := 51) hx hb d_Md_user_47 (by decide) ?_
  refine lv_istore (lv' := [(5, .int 1), (0, .ref mo), (1, .int (nI st)), (2, .long v), (4, .int (nI k))]) hx hb d_Md_user_51 hl (by decide) rfl (fun ls hl => ?_)
  refine lv_iconst (v := 0) hx hb d_Md_user_53 (by decide) ?_
  refine lv_istore (lv' := [(6, .int 0), (5, .int 1), (0, .ref mo), (1, .int (nI st)), (2, .long v), (4, .int (nI k))]) hx hb d_Md_user_54 hl (by decide) rfl (fun ls hl => ?_)
  have hl := lv_sub hl [0, 1, 2, 3, 4, 5] (show _ = [(6, .int 0), (5, .int 1), (0, .ref mo), (1, .int (nI st)), (2, .long v), (4, .int (nI k))] from rfl)
  have hP := hP.sub (ws' := [(mo, .inr (12, mdF r z q 0 tm (nI 20) (nI tx))), (r 5, .inl ((cT 0), 1920, .inl fc)), (r 6, .inl ((cT 0), 32, .inl fz))]) [2, 0, 1] rfl
  have hD := hD.sub (ws' := [(mo, .inr (12, mdF r z q 0 tm (nI 20) (nI tx))), (r 5, .inl ((cT 0), 1920, .inl fc)), (r 6, .inl ((cT 0), 32, .inl fz))]) [2, 0, 1] (by decide) rfl
  have L25 : ∀ (Q : State → Prop) (exit : ∀ (fc : Nat → Int32) (H : Heap) (locs : List Loc) (ls : Array Slot), va_P (dC, dI) vcl [(mo, .inr (12, mdF r z q 0 tm (nI 20) (nI tx))), (r 5, .inl ((cT 0), 1920, .inl fc)), (r 6, .inl ((cT 0), 32, .inl fz))] H → va_D A [(mo, .inr (12, mdF r z q 0 tm (nI 20) (nI tx))), (r 5, .inl ((cT 0), 1920, .inl fc)), (r 6, .inl ((cT 0), 32, .inl fz))] → va_S A s.heap H locs → lv_has ls 7 [(6, .int (nI k)), (5, .int 1), (0, .ref mo), (1, .int (nI st)), (2, .long v), (4, .int (nI k))] → W p l e ({ frames := 1, cells := 0, slots := 0, locals := 22 } : Room) s m args below meth c H locs 0 0 Q (F0 m 87 ls [])) (j8 i : Nat) (fc : Nat → Int32) (H : Heap) (locs : List Loc) (ls : Array Slot), i + j8 = k → va_P (dC, dI) vcl [(mo, .inr (12, mdF r z q 0 tm (nI 20) (nI tx))), (r 5, .inl ((cT 0), 1920, .inl fc)), (r 6, .inl ((cT 0), 32, .inl fz))] H → va_D A [(mo, .inr (12, mdF r z q 0 tm (nI 20) (nI tx))), (r 5, .inl ((cT 0), 1920, .inl fc)), (r 6, .inl ((cT 0), 32, .inl fz))] → va_S A s.heap H locs → lv_has ls 7 [(6, .int (nI i)), (5, .int 1), (0, .ref mo), (1, .int (nI st)), (2, .long v), (4, .int (nI k))] → W p l e ({ frames := 1, cells := 0, slots := 0, locals := 22 } : Room) s m args below meth c H locs 0 0 Q (F0 m 56 ls []) := by
    intro Q exit j8
    induction j8 with
    | zero => 
      intro i fc H locs ls hij  hP hD hS hl
      have hij : k = i := by omega
      refine lv_iload hx hb d_Md_user_56 (lv_at hl 0 rfl) ?_
      refine lv_iload hx hb d_Md_user_58 (lv_at hl 5 rfl) ?_
      refine lv_icmp_ge (tgt := 87) hx hb d_Md_user_60 (by decide) (fun hc26 => ?_) (fun hn9 => absurd (nI_le (by omega) (by omega)) hn9)
      subst hij
      exact exit fc _ _ _  hP hD hS hl
    | succ j8 ih => 
      intro i fc H locs ls hij  hP hD hS hl
      have hlt : i < k := by omega
      refine lv_iload hx hb d_Md_user_56 (lv_at hl 0 rfl) ?_
      refine lv_iload hx hb d_Md_user_58 (lv_at hl 5 rfl) ?_
      refine lv_icmp_ge (tgt := 87) hx hb d_Md_user_60 (by decide) (fun hn9 => absurd hn9 (nI_ge hlt (by omega))) (fun hc27 => ?_)
      refine lv_aload_n hx hb d_Md_user_63 rfl (lv_at hl 2 rfl) ?_
      refine va_get (D := (dC, dI)) (ci := 12) (v := (.ref (r 5))) (C := R_Md) (T := F_Md) (N := 45) hx hb hg in_Md hown hK hP 0 rfl rfl 5 (by decide) (hg _ k_1025) (fun _ h9 => h9) rfl d_Md_user_64 ?_
      refine lv_bipush (v := 60) hx hb d_Md_user_67 (by decide) ?_
      refine lv_iload_n hx hb d_Md_user_69 rfl (lv_at hl 3 rfl) ?_
      refine lv_imul hx hb d_Md_user_70 ?_
      refine lv_topi (fun x29 e28 => ?_)
      obtain rfl : x29 = nI (60 * st) := by rw [e28]; exact pk_mul 60 st
      refine lv_iload hx hb d_Md_user_71 (lv_at hl 0 rfl) ?_
      refine lv_iadd hx hb d_Md_user_73 ?_
      refine lv_topi (fun x31 e30 => ?_)
      obtain rfl : x31 = nI (60 * st + i) := by rw [e30]; exact nI_add _ _
      refine lv_lload_n hx hb d_Md_user_74 rfl (lv_at hl 4 rfl) ?_
      refine lv_iload hx hb d_Md_user_75 (lv_at hl 0 rfl) ?_
      have hPc := hP.sub (ws' := []) [] rfl
      have hDc := hD.sub (ws' := []) [] (by decide) rfl
      have hFc := va_free (wc := []) hD hS hA [] rfl
      refine va_calli (va_runS (As := [.long v, .int (nI i)]) (rest := [.int (nI (60 * st + i)), .ref (r 5)]) ⟨hx, hb, hml, hown, hg⟩ (m_letter l dC dI cT H.size v (nI i) ) (va_cwS 2 hg (gI (List.forall_mem_append.mpr ⟨List.forall_mem_cons.mpr ⟨k_1169, List.forall_mem_cons.mpr ⟨k_1170, List.forall_mem_cons.mpr ⟨k_13, fun _ h => absurd h List.not_mem_nil⟩⟩⟩, List.forall_mem_cons.mpr ⟨k_1171, fun _ h => h⟩⟩)) rfl rfl rfl (by decide +kernel) ⟨Nat.le_of_ble_eq_true rfl, Nat.le_of_ble_eq_true rfl⟩) ⟨fun a U g mk q => by obtain ⟨q0, q1, qP, qK, qD⟩ := q; exact ⟨q0, q1, qP, va_K.moved (u := U) (U := U.calling g mk a) (Vm.Alike.refl U.vm) qK, qD⟩, fun U hU hW => ⟨rfl, by rw [hU], by rw [hU]; exact hPc, va_K.moved hW.alike hK, hDc.weaken (fun _ _ _ _ => trivial)⟩⟩ rfl rfl hl.1 rfl (lv_room (Nat.le_of_ble_eq_true rfl)) d_Md_user_77 ⟨Nat.le_of_ble_eq_true rfl, Nat.le_of_ble_eq_true rfl⟩) hS (fun q _ h => hFc q h) hFc (fun rv9 u t H1 locs ht hvm hw hB hz1 hk1 hS => ?_)
      try dsimp only at hw hB
      obtain ⟨hP1, hK1, hD1⟩ := hB
      rw [ht] at hP1
      generalize rv9 = r32 at hw ⊢
      obtain ⟨hP, hD⟩ := va_join (wr := [(mo, .inr (12, mdF r z q 0 tm (nI 20) (nI tx))), (r 5, .inl ((cT 0), 1920, .inl fc)), (r 6, .inl ((cT 0), 32, .inl fz))]) (w1 := []) hP hD [] [0, 1, 2] rfl rfl (by decide) (by decide) hk1 hFc hP1 hD1
      have hw33 := hw
      clear hPc hDc hFc hz1 hk1 hP1 hK1 hD1
      generalize H1 = H at hP hS ⊢
      have hP : va_P (dC, dI) vcl [(mo, .inr (12, mdF r z q 0 tm (nI 20) (nI tx))), (r 5, .inl ((cT 0), 1920, .inl fc)), (r 6, .inl ((cT 0), 32, .inl fz))] H := hP
      have hD : va_D A [(mo, .inr (12, mdF r z q 0 tm (nI 20) (nI tx))), (r 5, .inl ((cT 0), 1920, .inl fc)), (r 6, .inl ((cT 0), 32, .inl fz))] := hD
      refine va_iast hx hb hK hP hD hS 1 0 rfl rfl (i := (nI (60 * st + i))) (vp_in_nI (by omega) (by decide)) d_Md_user_80 (fun H locs hP hD hS => ?_)
      have hP : va_P (dC, dI) vcl [(mo, .inr (12, mdF r z q 0 tm (nI 20) (nI tx))), (r 5, .inl ((cT 0), 1920, .inl (upd fc (nI (60 * st + i)).toNatClampNeg r32))), (r 6, .inl ((cT 0), 32, .inl fz))] H := hP
      have hD : va_D A [(mo, .inr (12, mdF r z q 0 tm (nI 20) (nI tx))), (r 5, .inl ((cT 0), 1920, .inl (upd fc (nI (60 * st + i)).toNatClampNeg r32))), (r 6, .inl ((cT 0), 32, .inl fz))] := hD
      refine lv_iinc (k := 0) (v := nI (i + 1)) (lv' := [(6, .int (nI (i + 1))), (5, .int 1), (0, .ref mo), (1, .int (nI st)), (2, .long v), (4, .int (nI k))]) hx hb d_Md_user_81 hl rfl (nI_1 i) (by decide) rfl (fun ls hl => ?_)
      refine lv_goto (tgt := 56) hx hb d_Md_user_84 (by decide) ?_
      exact ih (i + 1) _ _ _ _ (by omega)  hP hD hS hl
  refine L25 _ (fun fc H locs ls  hP hD hS hl => ?_) (k - 0) 0 fc H _ ls (by omega)  hP hD hS hl
  refine lv_aload_n hx hb d_Md_user_87 rfl (lv_at hl 2 rfl) ?_
  refine va_get (D := (dC, dI)) (ci := 12) (v := (.ref (r 6))) (C := R_Md) (T := F_Md) (N := 45) hx hb hg in_Md hown hK hP 0 rfl rfl 6 (by decide) (hg _ k_1026) (fun _ h9 => h9) rfl d_Md_user_88 ?_
  refine lv_iload_n hx hb d_Md_user_91 rfl (lv_at hl 3 rfl) ?_
  refine lv_iload hx hb d_Md_user_92 (lv_at hl 5 rfl) ?_
  refine va_iast hx hb hK hP hD hS 2 0 rfl rfl (i := (nI st)) (vp_in_nI (N := 32) hst (by decide)) d_Md_user_94 (fun H locs hP hD hS => ?_)
  have hP : va_P (dC, dI) vcl [(mo, .inr (12, mdF r z q 0 tm (nI 20) (nI tx))), (r 5, .inl ((cT 0), 1920, .inl fc)), (r 6, .inl ((cT 0), 32, .inl (upd fz (nI st).toNatClampNeg (nI k))))] H := hP
  have hD : va_D A [(mo, .inr (12, mdF r z q 0 tm (nI 20) (nI tx))), (r 5, .inl ((cT 0), 1920, .inl fc)), (r 6, .inl ((cT 0), 32, .inl (upd fz (nI st).toNatClampNeg (nI k))))] := hD
  refine lv_iload hx hb d_Md_user_95 (lv_at hl 1 rfl) ?_
  have hP9 := hP.sub (ws' := [(mo, .inr (12, mdF r z q 0 tm (nI 20) (nI tx)))]) [0] rfl
  have hD9 := hD.sub (ws' := [(mo, .inr (12, mdF r z q 0 tm (nI 20) (nI tx)))]) [0] (by decide) rfl
  exact W.zret (v := 1) hx hb hr (by first | rfl | decide) (fun t ht hW => ⟨⟨_, (), rfl, ⟨rfl, trivial⟩, by rw [ht]; exact hP9, va_K.moved hW.alike hK, hD9⟩, hS.F ht⟩) hS.2.2 d_Md_user_97
set_option maxHeartbeats 4000000 in
set_option maxRecDepth 100000 in
/-- isKnown -/
theorem m_known (l : Launch) (dC : Nat → ClassId) (dI : Nat → Nat → Nat) (cT : Nat → ClassId) (sz : Nat) (x : Int32)  : Met l y_Md_isKnown (Cond.code y_Md_isKnown b_Md_isKnown 1 (Option.some Jvm.ClassFile.FieldType.boolean) :: BIG) ({ frames := 0, cells := 0, slots := 0, locals := 0 }) (va_Pc [.int x] (fun U => U.heap.size = sz ∧ va_P (dC, dI) vcl [] U.heap ∧ va_K (dC, dI) vcl (tyL cT) U ∧ va_D (fun _ => True) [])) (va_Qi (S := Unit) (fun rv9 u => True) (fun u t => va_P (dC, dI) vcl [] t.heap ∧ va_K (dC, dI) vcl (tyL cT) t ∧ va_D (va_A [] sz) []) (va_A [] sz)) 0 0 (va_A [] sz) := by
  refine Met.ofW (cc := b_Md_isKnown) (maxL := 1) (ret := (Option.some Jvm.ClassFile.FieldType.boolean)) (by decide) rfl ?_
  intro p e s m args below meth c s₁ B hml hv
  obtain ⟨hargs, hsz, hP, hK, hD0⟩ := hv
  have hx := B.exec
  have hb := B.bytes
  have hr := B.returns
  have hts := atoms_spec (ws := (Cond.code y_Md_isKnown b_Md_isKnown 1 (Option.some Jvm.ClassFile.FieldType.boolean) :: BIG)) B.pre
  have hg : ∀ w ∈ BIG, w.before _ s = true := fun w h => hts w (List.mem_cons_of_mem _ h)
  have hown : s.vm.findClass "DoorServerModel" = some m.cls := findClass_of_methodNamed B.named
  have hlocks := B.notSynchronized
  subst hsz
  have hD := hD0.self (sz := s.heap.size)
  generalize hAe : va_A [] s.heap.size = A at hD ⊢
  have hA : ∀ q : Nat, s.heap.size ≤ q → A q := fun q h => by rw [← hAe]; exact Or.inr h
  have hS : va_S A s.heap s.heap [] := va_S.rf
  have hl := lv_entry ([.int x]) (n := 1) (Nat.le_of_ble_eq_true rfl)
  refine W.eq (g2 := entryFrame m (List.toArray [.int x]) 1) (by rw [hargs]) ?_
  rw [lg_entry_eq]
  generalize (lg_sl ([.int x]) ++ List.replicate (1 - (lg_sl ([.int x])).length) Slot.unset).toArray = ls at hl ⊢
  have hl : lv_has ls 1 [(0, .int x)] := hl
  change W p l e ({ frames := 0, cells := 0, slots := 0, locals := 0 } : Room) s m args below meth c s.heap [] 0 0 _ _
  have hP : va_P (dC, dI) vcl [] s.heap := hP
  refine lv_iload_n hx hb d_Md_isKnown_0 rfl (lv_at hl 0 rfl) ?_
  refine lv_iconst (v := 1) hx hb d_Md_isKnown_1 (by decide) ?_
  refine lv_icmp_eq (tgt := 46) hx hb d_Md_isKnown_2 (by decide) (fun hc34 => ?_) (fun hc34 => ?_)
  · refine lv_iconst (v := 1) hx hb d_Md_isKnown_46 (by decide) ?_
    refine lv_goto (tgt := 51) hx hb d_Md_isKnown_47 (by decide) ?_
    have hP9 := hP.sub (ws' := []) [] rfl
    have hD9 := hD.sub (ws' := []) [] (by decide) rfl
    exact W.zret (v := 1) hx hb hr (by first | rfl | decide) (fun t ht hW => ⟨⟨_, (), rfl, trivial, by rw [ht]; exact hP9, va_K.moved hW.alike hK, hD9⟩, hS.F ht⟩) hS.2.2 d_Md_isKnown_51
  · refine lv_iload_n hx hb d_Md_isKnown_5 rfl (lv_at hl 0 rfl) ?_
    refine lv_iconst (v := 2) hx hb d_Md_isKnown_6 (by decide) ?_
    refine lv_icmp_eq (tgt := 46) hx hb d_Md_isKnown_7 (by decide) (fun hc35 => ?_) (fun hc35 => ?_)
    · refine lv_iconst (v := 1) hx hb d_Md_isKnown_46 (by decide) ?_
      refine lv_goto (tgt := 51) hx hb d_Md_isKnown_47 (by decide) ?_
      have hP9 := hP.sub (ws' := []) [] rfl
      have hD9 := hD.sub (ws' := []) [] (by decide) rfl
      exact W.zret (v := 1) hx hb hr (by first | rfl | decide) (fun t ht hW => ⟨⟨_, (), rfl, trivial, by rw [ht]; exact hP9, va_K.moved hW.alike hK, hD9⟩, hS.F ht⟩) hS.2.2 d_Md_isKnown_51
    · refine lv_iload_n hx hb d_Md_isKnown_10 rfl (lv_at hl 0 rfl) ?_
      refine lv_bipush (v := 24) hx hb d_Md_isKnown_11 (by decide) ?_
      refine lv_icmp_eq (tgt := 46) hx hb d_Md_isKnown_13 (by decide) (fun hc36 => ?_) (fun hc36 => ?_)
      · refine lv_iconst (v := 1) hx hb d_Md_isKnown_46 (by decide) ?_
        refine lv_goto (tgt := 51) hx hb d_Md_isKnown_47 (by decide) ?_
        have hP9 := hP.sub (ws' := []) [] rfl
        have hD9 := hD.sub (ws' := []) [] (by decide) rfl
        exact W.zret (v := 1) hx hb hr (by first | rfl | decide) (fun t ht hW => ⟨⟨_, (), rfl, trivial, by rw [ht]; exact hP9, va_K.moved hW.alike hK, hD9⟩, hS.F ht⟩) hS.2.2 d_Md_isKnown_51
      · refine lv_iload_n hx hb d_Md_isKnown_16 rfl (lv_at hl 0 rfl) ?_
        refine lv_bipush (v := 40) hx hb d_Md_isKnown_17 (by decide) ?_
        refine lv_icmp_eq (tgt := 46) hx hb d_Md_isKnown_19 (by decide) (fun hc37 => ?_) (fun hc37 => ?_)
        · refine lv_iconst (v := 1) hx hb d_Md_isKnown_46 (by decide) ?_
          refine lv_goto (tgt := 51) hx hb d_Md_isKnown_47 (by decide) ?_
          have hP9 := hP.sub (ws' := []) [] rfl
          have hD9 := hD.sub (ws' := []) [] (by decide) rfl
          exact W.zret (v := 1) hx hb hr (by first | rfl | decide) (fun t ht hW => ⟨⟨_, (), rfl, trivial, by rw [ht]; exact hP9, va_K.moved hW.alike hK, hD9⟩, hS.F ht⟩) hS.2.2 d_Md_isKnown_51
        · refine lv_iload_n hx hb d_Md_isKnown_22 rfl (lv_at hl 0 rfl) ?_
          refine lv_bipush (v := 41) hx hb d_Md_isKnown_23 (by decide) ?_
          refine lv_icmp_le (tgt := 34) hx hb d_Md_isKnown_25 (by decide) (fun hc38 => ?_) (fun hc38 => ?_)
          · refine lv_iload_n hx hb d_Md_isKnown_34 rfl (lv_at hl 0 rfl) ?_
            refine lv_bipush (v := 79) hx hb d_Md_isKnown_35 (by decide) ?_
            refine lv_icmp_eq (tgt := 46) hx hb d_Md_isKnown_37 (by decide) (fun hc39 => ?_) (fun hc39 => ?_)
            · refine lv_iconst (v := 1) hx hb d_Md_isKnown_46 (by decide) ?_
              refine lv_goto (tgt := 51) hx hb d_Md_isKnown_47 (by decide) ?_
              have hP9 := hP.sub (ws' := []) [] rfl
              have hD9 := hD.sub (ws' := []) [] (by decide) rfl
              exact W.zret (v := 1) hx hb hr (by first | rfl | decide) (fun t ht hW => ⟨⟨_, (), rfl, trivial, by rw [ht]; exact hP9, va_K.moved hW.alike hK, hD9⟩, hS.F ht⟩) hS.2.2 d_Md_isKnown_51
            · refine lv_iload_n hx hb d_Md_isKnown_40 rfl (lv_at hl 0 rfl) ?_
              refine lv_bipush (v := 80) hx hb d_Md_isKnown_41 (by decide) ?_
              refine lv_icmp_ne (tgt := 50) hx hb d_Md_isKnown_43 (by decide) (fun hc40 => ?_) (fun hc40 => ?_)
              · refine lv_iconst (v := 0) hx hb d_Md_isKnown_50 (by decide) ?_
                have hP9 := hP.sub (ws' := []) [] rfl
                have hD9 := hD.sub (ws' := []) [] (by decide) rfl
                exact W.zret (v := 0) hx hb hr (by first | rfl | decide) (fun t ht hW => ⟨⟨_, (), rfl, trivial, by rw [ht]; exact hP9, va_K.moved hW.alike hK, hD9⟩, hS.F ht⟩) hS.2.2 d_Md_isKnown_51
              · refine lv_iconst (v := 1) hx hb d_Md_isKnown_46 (by decide) ?_
                refine lv_goto (tgt := 51) hx hb d_Md_isKnown_47 (by decide) ?_
                have hP9 := hP.sub (ws' := []) [] rfl
                have hD9 := hD.sub (ws' := []) [] (by decide) rfl
                exact W.zret (v := 1) hx hb hr (by first | rfl | decide) (fun t ht hW => ⟨⟨_, (), rfl, trivial, by rw [ht]; exact hP9, va_K.moved hW.alike hK, hD9⟩, hS.F ht⟩) hS.2.2 d_Md_isKnown_51
          · refine lv_iload_n hx hb d_Md_isKnown_28 rfl (lv_at hl 0 rfl) ?_
            refine lv_bipush (v := 45) hx hb d_Md_isKnown_29 (by decide) ?_
            refine lv_icmp_lt (tgt := 46) hx hb d_Md_isKnown_31 (by decide) (fun hc41 => ?_) (fun hc41 => ?_)
            · refine lv_iconst (v := 1) hx hb d_Md_isKnown_46 (by decide) ?_
              refine lv_goto (tgt := 51) hx hb d_Md_isKnown_47 (by decide) ?_
              have hP9 := hP.sub (ws' := []) [] rfl
              have hD9 := hD.sub (ws' := []) [] (by decide) rfl
              exact W.zret (v := 1) hx hb hr (by first | rfl | decide) (fun t ht hW => ⟨⟨_, (), rfl, trivial, by rw [ht]; exact hP9, va_K.moved hW.alike hK, hD9⟩, hS.F ht⟩) hS.2.2 d_Md_isKnown_51
            · refine lv_iload_n hx hb d_Md_isKnown_34 rfl (lv_at hl 0 rfl) ?_
              refine lv_bipush (v := 79) hx hb d_Md_isKnown_35 (by decide) ?_
              refine lv_icmp_eq (tgt := 46) hx hb d_Md_isKnown_37 (by decide) (fun hc42 => ?_) (fun hc42 => ?_)
              · refine lv_iconst (v := 1) hx hb d_Md_isKnown_46 (by decide) ?_
                refine lv_goto (tgt := 51) hx hb d_Md_isKnown_47 (by decide) ?_
                have hP9 := hP.sub (ws' := []) [] rfl
                have hD9 := hD.sub (ws' := []) [] (by decide) rfl
                exact W.zret (v := 1) hx hb hr (by first | rfl | decide) (fun t ht hW => ⟨⟨_, (), rfl, trivial, by rw [ht]; exact hP9, va_K.moved hW.alike hK, hD9⟩, hS.F ht⟩) hS.2.2 d_Md_isKnown_51
              · refine lv_iload_n hx hb d_Md_isKnown_40 rfl (lv_at hl 0 rfl) ?_
                refine lv_bipush (v := 80) hx hb d_Md_isKnown_41 (by decide) ?_
                refine lv_icmp_ne (tgt := 50) hx hb d_Md_isKnown_43 (by decide) (fun hc43 => ?_) (fun hc43 => ?_)
                · refine lv_iconst (v := 0) hx hb d_Md_isKnown_50 (by decide) ?_
                  have hP9 := hP.sub (ws' := []) [] rfl
                  have hD9 := hD.sub (ws' := []) [] (by decide) rfl
                  exact W.zret (v := 0) hx hb hr (by first | rfl | decide) (fun t ht hW => ⟨⟨_, (), rfl, trivial, by rw [ht]; exact hP9, va_K.moved hW.alike hK, hD9⟩, hS.F ht⟩) hS.2.2 d_Md_isKnown_51
                · refine lv_iconst (v := 1) hx hb d_Md_isKnown_46 (by decide) ?_
                  refine lv_goto (tgt := 51) hx hb d_Md_isKnown_47 (by decide) ?_
                  have hP9 := hP.sub (ws' := []) [] rfl
                  have hD9 := hD.sub (ws' := []) [] (by decide) rfl
                  exact W.zret (v := 1) hx hb hr (by first | rfl | decide) (fun t ht hW => ⟨⟨_, (), rfl, trivial, by rw [ht]; exact hP9, va_K.moved hW.alike hK, hD9⟩, hS.F ht⟩) hS.2.2 d_Md_isKnown_51
set_option maxHeartbeats 4000000 in
set_option maxRecDepth 100000 in
/-- find: no attributes -/
theorem m_find (l : Launch) (dC : Nat → ClassId) (dI : Nat → Nat → Nat) (cT : Nat → ClassId) (sz : Nat) (mo : Nat) (r : Nat → Nat) (z : Nat → Int32) (q : Nat → Int64) (cd : Int32) (tm : Int32) (sn : Nat) (tx : Nat) (x : Int32)  : Met l y_Md_find (Cond.code y_Md_find b_Md_find 4 (Option.some Jvm.ClassFile.FieldType.int) :: BIG) ({ frames := 0, cells := 0, slots := 0, locals := 0 }) (va_Pc [.ref mo, .int x] (fun U => U.heap.size = sz ∧ va_P (dC, dI) vcl [(mo, .inr (12, mdF r z q cd tm (nI 20) (nI tx)))] U.heap ∧ va_K (dC, dI) vcl (tyL cT) U ∧ va_D (fun _ => True) [(mo, .inr (12, mdF r z q cd tm (nI 20) (nI tx)))])) (va_Qi (S := Unit) (fun rv9 u => rv9 = (-1) ∧ (True)) (fun u t => va_P (dC, dI) vcl [(mo, .inr (12, mdF r z q cd tm (nI 20) (nI tx)))] t.heap ∧ va_K (dC, dI) vcl (tyL cT) t ∧ va_D (va_A [(mo, .inr (12, mdF r z q cd tm (nI 20) (nI tx)))] sz) [(mo, .inr (12, mdF r z q cd tm (nI 20) (nI tx)))]) (va_A [(mo, .inr (12, mdF r z q cd tm (nI 20) (nI tx)))] sz)) 0 0 (va_A [(mo, .inr (12, mdF r z q cd tm (nI 20) (nI tx)))] sz) := by
  refine Met.ofW (cc := b_Md_find) (maxL := 4) (ret := (Option.some Jvm.ClassFile.FieldType.int)) (by decide) rfl ?_
  intro p e s m args below meth c s₁ B hml hv
  obtain ⟨hargs, hsz, hP, hK, hD0⟩ := hv
  have hx := B.exec
  have hb := B.bytes
  have hr := B.returns
  have hts := atoms_spec (ws := (Cond.code y_Md_find b_Md_find 4 (Option.some Jvm.ClassFile.FieldType.int) :: BIG)) B.pre
  have hg : ∀ w ∈ BIG, w.before _ s = true := fun w h => hts w (List.mem_cons_of_mem _ h)
  have hown : s.vm.findClass "DoorServerModel" = some m.cls := findClass_of_methodNamed B.named
  have hlocks := B.notSynchronized
  subst hsz
  have hD := hD0.self (sz := s.heap.size)
  generalize hAe : va_A [(mo, .inr (12, mdF r z q cd tm (nI 20) (nI tx)))] s.heap.size = A at hD ⊢
  have hA : ∀ q : Nat, s.heap.size ≤ q → A q := fun q h => by rw [← hAe]; exact Or.inr h
  have hS : va_S A s.heap s.heap [] := va_S.rf
  have hl := lv_entry ([.ref mo, .int x]) (n := 4) (Nat.le_of_ble_eq_true rfl)
  refine W.eq (g2 := entryFrame m (List.toArray [.ref mo, .int x]) 4) (by rw [hargs]) ?_
  rw [lg_entry_eq]
  generalize (lg_sl ([.ref mo, .int x]) ++ List.replicate (4 - (lg_sl ([.ref mo, .int x])).length) Slot.unset).toArray = ls at hl ⊢
  have hl : lv_has ls 4 [(0, .ref mo), (1, .int x)] := hl
  change W p l e ({ frames := 0, cells := 0, slots := 0, locals := 0 } : Room) s m args below meth c s.heap [] 0 0 _ _
  have hP : va_P (dC, dI) vcl [(mo, .inr (12, mdF r z q cd tm (nI 20) (nI tx)))] s.heap := hP
  refine lv_iconst (v := (-1)) hx hb d_Md_find_0 (by decide) ?_
  refine lv_istore_n (lv' := [(2, .int (-1)), (0, .ref mo), (1, .int x)]) hx hb d_Md_find_1 rfl hl (by decide) rfl (fun ls hl => ?_)
  refine lv_bipush (v := 20) hx hb d_Md_find_2 (by decide) ?_
  refine lv_istore_n (lv' := [(3, .int 20), (2, .int (-1)), (0, .ref mo), (1, .int x)]) hx hb d_Md_find_4 rfl hl (by decide) rfl (fun ls hl => ?_)
  refine lv_iload_n hx hb d_Md_find_5 rfl (lv_at hl 0 rfl) ?_
  refine lv_aload_n hx hb d_Md_find_6 rfl (lv_at hl 2 rfl) ?_
  refine va_get (D := (dC, dI)) (ci := 12) (v := (.int (nI 20))) (C := R_Md) (T := F_Md) (N := 45) hx hb hg in_Md hown hK hP 0 rfl rfl 8 (by decide) (hg _ k_1028) (fun _ h9 => h9) rfl d_Md_find_7 ?_
  refine lv_icmp_ge (tgt := 105) hx hb d_Md_find_10 (by decide) (fun hc44 => ?_) (fun hn9 => absurd (by decide) hn9)
  refine lv_iload_n hx hb d_Md_find_105 rfl (lv_at hl 1 rfl) ?_
  have hP9 := hP.sub (ws' := [(mo, .inr (12, mdF r z q cd tm (nI 20) (nI tx)))]) [0] rfl
  have hD9 := hD.sub (ws' := [(mo, .inr (12, mdF r z q cd tm (nI 20) (nI tx)))]) [0] (by decide) rfl
  exact W.iret (v := (-1)) hx hb hr (fun t ht hW => ⟨⟨_, (), rfl, ⟨rfl, trivial⟩, by rw [ht]; exact hP9, va_K.moved hW.alike hK, hD9⟩, hS.F ht⟩) hS.2.2 d_Md_find_106
set_option maxHeartbeats 4000000 in
set_option maxRecDepth 100000 in
/-- has: no attributes -/
theorem m_has (l : Launch) (dC : Nat → ClassId) (dI : Nat → Nat → Nat) (cT : Nat → ClassId) (sz : Nat) (mo : Nat) (r : Nat → Nat) (z : Nat → Int32) (q : Nat → Int64) (cd : Int32) (tm : Int32) (sn : Nat) (tx : Nat) (x : Int32)  : Met l y_Md_has (Cond.code y_Md_has b_Md_has 2 (Option.some Jvm.ClassFile.FieldType.boolean) :: BIG) ({ frames := 1, cells := 0, slots := 0, locals := 24 }) (va_Pc [.ref mo, .int x] (fun U => U.heap.size = sz ∧ va_P (dC, dI) vcl [(mo, .inr (12, mdF r z q cd tm (nI 20) (nI tx)))] U.heap ∧ va_K (dC, dI) vcl (tyL cT) U ∧ va_D (fun _ => True) [(mo, .inr (12, mdF r z q cd tm (nI 20) (nI tx)))])) (va_Qi (S := Unit) (fun rv9 u => rv9 = 0 ∧ (True)) (fun u t => va_P (dC, dI) vcl [(mo, .inr (12, mdF r z q cd tm (nI 20) (nI tx)))] t.heap ∧ va_K (dC, dI) vcl (tyL cT) t ∧ va_D (va_A [(mo, .inr (12, mdF r z q cd tm (nI 20) (nI tx)))] sz) [(mo, .inr (12, mdF r z q cd tm (nI 20) (nI tx)))]) (va_A [(mo, .inr (12, mdF r z q cd tm (nI 20) (nI tx)))] sz)) 0 0 (va_A [(mo, .inr (12, mdF r z q cd tm (nI 20) (nI tx)))] sz) := by
  refine Met.ofW (cc := b_Md_has) (maxL := 2) (ret := (Option.some Jvm.ClassFile.FieldType.boolean)) (by decide) rfl ?_
  intro p e s m args below meth c s₁ B hml hv
  obtain ⟨hargs, hsz, hP, hK, hD0⟩ := hv
  have hx := B.exec
  have hb := B.bytes
  have hr := B.returns
  have hts := atoms_spec (ws := (Cond.code y_Md_has b_Md_has 2 (Option.some Jvm.ClassFile.FieldType.boolean) :: BIG)) B.pre
  have hg : ∀ w ∈ BIG, w.before _ s = true := fun w h => hts w (List.mem_cons_of_mem _ h)
  have hown : s.vm.findClass "DoorServerModel" = some m.cls := findClass_of_methodNamed B.named
  have hlocks := B.notSynchronized
  subst hsz
  have hD := hD0.self (sz := s.heap.size)
  generalize hAe : va_A [(mo, .inr (12, mdF r z q cd tm (nI 20) (nI tx)))] s.heap.size = A at hD ⊢
  have hA : ∀ q : Nat, s.heap.size ≤ q → A q := fun q h => by rw [← hAe]; exact Or.inr h
  have hS : va_S A s.heap s.heap [] := va_S.rf
  have hl := lv_entry ([.ref mo, .int x]) (n := 2) (Nat.le_of_ble_eq_true rfl)
  refine W.eq (g2 := entryFrame m (List.toArray [.ref mo, .int x]) 2) (by rw [hargs]) ?_
  rw [lg_entry_eq]
  generalize (lg_sl ([.ref mo, .int x]) ++ List.replicate (2 - (lg_sl ([.ref mo, .int x])).length) Slot.unset).toArray = ls at hl ⊢
  have hl : lv_has ls 2 [(0, .ref mo), (1, .int x)] := hl
  change W p l e ({ frames := 1, cells := 0, slots := 0, locals := 24 } : Room) s m args below meth c s.heap [] 0 0 _ _
  have hP : va_P (dC, dI) vcl [(mo, .inr (12, mdF r z q cd tm (nI 20) (nI tx)))] s.heap := hP
  refine lv_aload_n hx hb d_Md_has_0 rfl (lv_at hl 0 rfl) ?_
  refine lv_iload_n hx hb d_Md_has_1 rfl (lv_at hl 1 rfl) ?_
  have hPc := hP.sub (ws' := [(mo, .inr (12, mdF r z q cd tm (nI 20) (nI tx)))]) [0] rfl
  have hDc := hD.sub (ws' := [(mo, .inr (12, mdF r z q cd tm (nI 20) (nI tx)))]) [0] (by decide) rfl
  have hFc := va_free (wc := [(mo, .inr (12, mdF r z q cd tm (nI 20) (nI tx)))]) hD hS hA [0] rfl
  refine va_calli (va_runV (C := "DoorServerModel") (As := [.int x]) (rest := []) ⟨hx, hb, hml, hown, hg⟩ (m_find l dC dI cT s.heap.size mo r z q cd tm 20 tx x ) (cwV 1 hg (gI (List.forall_mem_append.mpr ⟨List.forall_mem_cons.mpr ⟨k_1294, List.forall_mem_cons.mpr ⟨k_1296, List.forall_mem_cons.mpr ⟨(big_sel (q := y_Md_find) (n := 45) (by decide +kernel)), List.forall_mem_cons.mpr ⟨k_13, fun _ h => absurd h List.not_mem_nil⟩⟩⟩⟩, List.forall_mem_cons.mpr ⟨k_1297, fun _ h => h⟩⟩)) rfl rfl rfl (by decide +kernel) ⟨Nat.le_of_ble_eq_true rfl, Nat.le_of_ble_eq_true rfl⟩) ⟨fun a U g mk q => by obtain ⟨q0, q1, qP, qK, qD⟩ := q; exact ⟨q0, q1, qP, va_K.moved (u := U) (U := U.calling g mk a) (Vm.Alike.refl U.vm) qK, qD⟩, va_recv (q0 := 0) (ci := 12) hK hP rfl rfl, fun U hU hW => ⟨rfl, by rw [hU], by rw [hU]; exact hPc, va_K.moved hW.alike hK, hDc.weaken (fun _ _ _ _ => trivial)⟩⟩ rfl rfl hl.1 rfl (lv_room (Nat.le_of_ble_eq_true rfl)) d_Md_has_2 ⟨Nat.le_of_ble_eq_true rfl, Nat.le_of_ble_eq_true rfl⟩) hS (fun q _ h => hFc q h) hFc (fun rv9 u t H1 locs ht hvm hw hB hz1 hk1 hS => ?_)
  try dsimp only at hw hB
  obtain ⟨hP1, hK1, hD1⟩ := hB
  rw [ht] at hP1
  obtain ⟨rfl, hw⟩ := hw
  obtain ⟨hP, hD⟩ := va_join (wr := []) (w1 := [(mo, .inr (12, mdF r z q cd tm (nI 20) (nI tx)))]) hP hD [0] [] rfl rfl (by decide) (by decide) hk1 hFc hP1 hD1
  have hw45 := hw
  clear hPc hDc hFc hz1 hk1 hP1 hK1 hD1
  generalize H1 = H at hP hS ⊢
  have hP : va_P (dC, dI) vcl [(mo, .inr (12, mdF r z q cd tm (nI 20) (nI tx)))] H := hP
  have hD : va_D A [(mo, .inr (12, mdF r z q cd tm (nI 20) (nI tx)))] := hD
  refine lv_if_lt (tgt := 12) hx hb d_Md_has_5 (by decide) (fun hc46 => ?_) (fun hn9 => absurd (by decide) hn9)
  refine lv_iconst (v := 0) hx hb d_Md_has_12 (by decide) ?_
  have hP9 := hP.sub (ws' := [(mo, .inr (12, mdF r z q cd tm (nI 20) (nI tx)))]) [0] rfl
  have hD9 := hD.sub (ws' := [(mo, .inr (12, mdF r z q cd tm (nI 20) (nI tx)))]) [0] (by decide) rfl
  exact W.zret (v := 0) hx hb hr (by first | rfl | decide) (fun t ht hW => ⟨⟨_, (), rfl, ⟨rfl, trivial⟩, by rw [ht]; exact hP9, va_K.moved hW.alike hK, hD9⟩, hS.F ht⟩) hS.2.2 d_Md_has_13
set_option maxHeartbeats 4000000 in
set_option maxRecDepth 100000 in
/-- findEnd: no attributes -/
theorem m_findEnd (l : Launch) (dC : Nat → ClassId) (dI : Nat → Nat → Nat) (cT : Nat → ClassId) (sz : Nat) (mo : Nat) (r : Nat → Nat) (z : Nat → Int32) (q : Nat → Int64) (cd : Int32) (tm : Int32) (sn : Nat) (tx : Nat)  : Met l y_Md_findEnd (Cond.code y_Md_findEnd b_Md_findEnd 3 (Option.some Jvm.ClassFile.FieldType.boolean) :: BIG) ({ frames := 0, cells := 0, slots := 0, locals := 0 }) (va_Pc [.ref mo] (fun U => U.heap.size = sz ∧ va_P (dC, dI) vcl [(mo, .inr (12, mdF r z q cd tm (nI 20) (nI tx)))] U.heap ∧ va_K (dC, dI) vcl (tyL cT) U ∧ va_D (fun _ => True) [(mo, .inr (12, mdF r z q cd tm (nI 20) (nI tx)))])) (va_Qi (S := Unit) (fun rv9 u => rv9 = 1 ∧ (True)) (fun u t => va_P (dC, dI) vcl [(mo, .inr (12, mdF r z q cd tm (nI 20) (nI tx)))] t.heap ∧ va_K (dC, dI) vcl (tyL cT) t ∧ va_D (va_A [(mo, .inr (12, mdF r z q cd tm (nI 20) (nI tx)))] sz) [(mo, .inr (12, mdF r z q cd tm (nI 20) (nI tx)))]) (va_A [(mo, .inr (12, mdF r z q cd tm (nI 20) (nI tx)))] sz)) 0 0 (va_A [(mo, .inr (12, mdF r z q cd tm (nI 20) (nI tx)))] sz) := by
  refine Met.ofW (cc := b_Md_findEnd) (maxL := 3) (ret := (Option.some Jvm.ClassFile.FieldType.boolean)) (by decide) rfl ?_
  intro p e s m args below meth c s₁ B hml hv
  obtain ⟨hargs, hsz, hP, hK, hD0⟩ := hv
  have hx := B.exec
  have hb := B.bytes
  have hr := B.returns
  have hts := atoms_spec (ws := (Cond.code y_Md_findEnd b_Md_findEnd 3 (Option.some Jvm.ClassFile.FieldType.boolean) :: BIG)) B.pre
  have hg : ∀ w ∈ BIG, w.before _ s = true := fun w h => hts w (List.mem_cons_of_mem _ h)
  have hown : s.vm.findClass "DoorServerModel" = some m.cls := findClass_of_methodNamed B.named
  have hlocks := B.notSynchronized
  subst hsz
  have hD := hD0.self (sz := s.heap.size)
  generalize hAe : va_A [(mo, .inr (12, mdF r z q cd tm (nI 20) (nI tx)))] s.heap.size = A at hD ⊢
  have hA : ∀ q : Nat, s.heap.size ≤ q → A q := fun q h => by rw [← hAe]; exact Or.inr h
  have hS : va_S A s.heap s.heap [] := va_S.rf
  have hl := lv_entry ([.ref mo]) (n := 3) (Nat.le_of_ble_eq_true rfl)
  refine W.eq (g2 := entryFrame m (List.toArray [.ref mo]) 3) (by rw [hargs]) ?_
  rw [lg_entry_eq]
  generalize (lg_sl ([.ref mo]) ++ List.replicate (3 - (lg_sl ([.ref mo])).length) Slot.unset).toArray = ls at hl ⊢
  have hl : lv_has ls 3 [(0, .ref mo)] := hl
  change W p l e ({ frames := 0, cells := 0, slots := 0, locals := 0 } : Room) s m args below meth c s.heap [] 0 0 _ _
  have hP : va_P (dC, dI) vcl [(mo, .inr (12, mdF r z q cd tm (nI 20) (nI tx)))] s.heap := hP
  refine lv_bipush (v := 20) hx hb d_Md_findEnd_0 (by decide) ?_
  refine lv_istore_n (lv' := [(1, .int 20), (0, .ref mo)]) hx hb d_Md_findEnd_2 rfl hl (by decide) rfl (fun ls hl => ?_)
  refine lv_iconst (v := 1) hx hb d_Md_findEnd_3 (by decide) ?_
  refine lv_istore_n (lv' := [(2, .int 1), (1, .int 20), (0, .ref mo)]) hx hb d_Md_findEnd_4 rfl hl (by decide) rfl (fun ls hl => ?_)
  refine lv_iload_n hx hb d_Md_findEnd_5 rfl (lv_at hl 1 rfl) ?_
  refine lv_aload_n hx hb d_Md_findEnd_6 rfl (lv_at hl 2 rfl) ?_
  refine va_get (D := (dC, dI)) (ci := 12) (v := (.int (nI 20))) (C := R_Md) (T := F_Md) (N := 45) hx hb hg in_Md hown hK hP 0 rfl rfl 8 (by decide) (hg _ k_1028) (fun _ h9 => h9) rfl d_Md_findEnd_7 ?_
  refine lv_icmp_ge (tgt := 84) hx hb d_Md_findEnd_10 (by decide) (fun hc47 => ?_) (fun hn9 => absurd (by decide) hn9)
  refine lv_iload_n hx hb d_Md_findEnd_84 rfl (lv_at hl 0 rfl) ?_
  have hP9 := hP.sub (ws' := [(mo, .inr (12, mdF r z q cd tm (nI 20) (nI tx)))]) [0] rfl
  have hD9 := hD.sub (ws' := [(mo, .inr (12, mdF r z q cd tm (nI 20) (nI tx)))]) [0] (by decide) rfl
  exact W.zret (v := 1) hx hb hr (by first | rfl | decide) (fun t ht hW => ⟨⟨_, (), rfl, ⟨rfl, trivial⟩, by rw [ht]; exact hP9, va_K.moved hW.alike hK, hD9⟩, hS.F ht⟩) hS.2.2 d_Md_findEnd_85
set_option maxHeartbeats 4000000 in
set_option maxRecDepth 100000 in
/-- isWhole: a head alone -/
theorem m_isWhole (l : Launch) (dC : Nat → ClassId) (dI : Nat → Nat → Nat) (cT : Nat → ClassId) (sz : Nat) (mo : Nat) (r : Nat → Nat) (z : Nat → Int32) (q : Nat → Int64) (cd : Int32) (tm : Int32) (sn : Nat) (tx : Nat) (f : Nat → Int32) (h0 : f 0 = 1) (h2 : f 2 = 0) (h3 : f 3 = 20) : Met l y_Md_isWhole (Cond.code y_Md_isWhole b_Md_isWhole 3 (Option.some Jvm.ClassFile.FieldType.boolean) :: BIG) ({ frames := 1, cells := 0, slots := 0, locals := 24 }) (va_Pc [.ref mo] (fun U => U.heap.size = sz ∧ va_P (dC, dI) vcl [(mo, .inr (12, mdF r z q cd tm (nI 20) (nI tx))), (r 7, .inl ((cT 0), 1000, .inl f))] U.heap ∧ va_K (dC, dI) vcl (tyL cT) U ∧ va_D (fun _ => True) [(mo, .inr (12, mdF r z q cd tm (nI 20) (nI tx))), (r 7, .inl ((cT 0), 1000, .inl f))])) (va_Qi (S := Unit) (fun rv9 u => rv9 = 1 ∧ (True)) (fun u t => va_P (dC, dI) vcl [(mo, .inr (12, mdF r z q cd tm (nI 20) (nI tx))), (r 7, .inl ((cT 0), 1000, .inl f))] t.heap ∧ va_K (dC, dI) vcl (tyL cT) t ∧ va_D (va_A [(mo, .inr (12, mdF r z q cd tm (nI 20) (nI tx))), (r 7, .inl ((cT 0), 1000, .inl f))] sz) [(mo, .inr (12, mdF r z q cd tm (nI 20) (nI tx))), (r 7, .inl ((cT 0), 1000, .inl f))]) (va_A [(mo, .inr (12, mdF r z q cd tm (nI 20) (nI tx))), (r 7, .inl ((cT 0), 1000, .inl f))] sz)) 0 0 (va_A [(mo, .inr (12, mdF r z q cd tm (nI 20) (nI tx))), (r 7, .inl ((cT 0), 1000, .inl f))] sz) := by
  refine Met.ofW (cc := b_Md_isWhole) (maxL := 3) (ret := (Option.some Jvm.ClassFile.FieldType.boolean)) (by decide) rfl ?_
  intro p e s m args below meth c s₁ B hml hv
  obtain ⟨hargs, hsz, hP, hK, hD0⟩ := hv
  have hx := B.exec
  have hb := B.bytes
  have hr := B.returns
  have hts := atoms_spec (ws := (Cond.code y_Md_isWhole b_Md_isWhole 3 (Option.some Jvm.ClassFile.FieldType.boolean) :: BIG)) B.pre
  have hg : ∀ w ∈ BIG, w.before _ s = true := fun w h => hts w (List.mem_cons_of_mem _ h)
  have hown : s.vm.findClass "DoorServerModel" = some m.cls := findClass_of_methodNamed B.named
  have hlocks := B.notSynchronized
  subst hsz
  have hD := hD0.self (sz := s.heap.size)
  generalize hAe : va_A [(mo, .inr (12, mdF r z q cd tm (nI 20) (nI tx))), (r 7, .inl ((cT 0), 1000, .inl f))] s.heap.size = A at hD ⊢
  have hA : ∀ q : Nat, s.heap.size ≤ q → A q := fun q h => by rw [← hAe]; exact Or.inr h
  have hS : va_S A s.heap s.heap [] := va_S.rf
  have hl := lv_entry ([.ref mo]) (n := 3) (Nat.le_of_ble_eq_true rfl)
  refine W.eq (g2 := entryFrame m (List.toArray [.ref mo]) 3) (by rw [hargs]) ?_
  rw [lg_entry_eq]
  generalize (lg_sl ([.ref mo]) ++ List.replicate (3 - (lg_sl ([.ref mo])).length) Slot.unset).toArray = ls at hl ⊢
  have hl : lv_has ls 3 [(0, .ref mo)] := hl
  change W p l e ({ frames := 1, cells := 0, slots := 0, locals := 24 } : Room) s m args below meth c s.heap [] 0 0 _ _
  have hP : va_P (dC, dI) vcl [(mo, .inr (12, mdF r z q cd tm (nI 20) (nI tx))), (r 7, .inl ((cT 0), 1000, .inl f))] s.heap := hP
  refine lv_aload_n hx hb d_Md_isWhole_0 rfl (lv_at hl 0 rfl) ?_
  refine va_get (D := (dC, dI)) (ci := 12) (v := (.int (nI 20))) (C := R_Md) (T := F_Md) (N := 45) hx hb hg in_Md hown hK hP 0 rfl rfl 8 (by decide) (hg _ k_1028) (fun _ h9 => h9) rfl d_Md_isWhole_1 ?_
  refine lv_bipush (v := 20) hx hb d_Md_isWhole_4 (by decide) ?_
  refine lv_icmp_lt (tgt := 47) hx hb d_Md_isWhole_6 (by decide) (fun hn9 => absurd hn9 (by decide)) (fun hc48 => ?_)
  refine lv_aload_n hx hb d_Md_isWhole_9 rfl (lv_at hl 0 rfl) ?_
  refine va_get (D := (dC, dI)) (ci := 12) (v := (.int (nI 20))) (C := R_Md) (T := F_Md) (N := 45) hx hb hg in_Md hown hK hP 0 rfl rfl 8 (by decide) (hg _ k_1028) (fun _ h9 => h9) rfl d_Md_isWhole_10 ?_
  refine lv_sipush (v := 1000) hx hb d_Md_isWhole_13 (by decide) ?_
  refine lv_icmp_gt (tgt := 47) hx hb d_Md_isWhole_16 (by decide) (fun hn9 => absurd hn9 (by decide)) (fun hc49 => ?_)
  refine lv_sipush (v := 256) hx hb d_Md_isWhole_19 (by decide) ?_
  refine lv_aload_n hx hb d_Md_isWhole_22 rfl (lv_at hl 0 rfl) ?_
  refine va_get (D := (dC, dI)) (ci := 12) (v := (.ref (r 7))) (C := R_Md) (T := F_Md) (N := 45) hx hb hg in_Md hown hK hP 0 rfl rfl 7 (by decide) (hg _ k_1027) (fun _ h9 => h9) rfl d_Md_isWhole_23 ?_
  refine lv_iconst (v := 2) hx hb d_Md_isWhole_26 (by decide) ?_
  refine va_iald hx hb hK hP 1 0 rfl rfl (i := 2) (vp_in_nI (n := 2) (N := 1000) (by decide) (by decide)) d_Md_isWhole_27 ?_
  refine lv_topi (fun x51 e50 => ?_)
  obtain rfl : x51 = 0 := by rw [e50]; exact h2
  refine lv_imul hx hb d_Md_isWhole_28 ?_
  refine lv_aload_n hx hb d_Md_isWhole_29 rfl (lv_at hl 0 rfl) ?_
  refine va_get (D := (dC, dI)) (ci := 12) (v := (.ref (r 7))) (C := R_Md) (T := F_Md) (N := 45) hx hb hg in_Md hown hK hP 0 rfl rfl 7 (by decide) (hg _ k_1027) (fun _ h9 => h9) rfl d_Md_isWhole_30 ?_
  refine lv_iconst (v := 3) hx hb d_Md_isWhole_33 (by decide) ?_
  refine va_iald hx hb hK hP 1 0 rfl rfl (i := 3) (vp_in_nI (n := 3) (N := 1000) (by decide) (by decide)) d_Md_isWhole_34 ?_
  refine lv_topi (fun x53 e52 => ?_)
  obtain rfl : x53 = 20 := by rw [e52]; exact h3
  refine lv_iadd hx hb d_Md_isWhole_35 ?_
  refine lv_aload_n hx hb d_Md_isWhole_36 rfl (lv_at hl 0 rfl) ?_
  refine va_get (D := (dC, dI)) (ci := 12) (v := (.int (nI 20))) (C := R_Md) (T := F_Md) (N := 45) hx hb hg in_Md hown hK hP 0 rfl rfl 8 (by decide) (hg _ k_1028) (fun _ h9 => h9) rfl d_Md_isWhole_37 ?_
  refine lv_icmp_ne (tgt := 47) hx hb d_Md_isWhole_40 (by decide) (fun hn9 => absurd hn9 (by decide)) (fun hc54 => ?_)
  refine lv_iconst (v := 1) hx hb d_Md_isWhole_43 (by decide) ?_
  refine lv_goto (tgt := 48) hx hb d_Md_isWhole_44 (by decide) ?_
  refine lv_istore_n (lv' := [(1, .int 1), (0, .ref mo)]) hx hb d_Md_isWhole_48 rfl hl (by decide) rfl (fun ls hl => ?_)
  refine lv_iconst (v := 0) hx hb d_Md_isWhole_49 (by decide) ?_
  refine lv_istore_n (lv' := [(2, .int 0), (1, .int 1), (0, .ref mo)]) hx hb d_Md_isWhole_50 rfl hl (by decide) rfl (fun ls hl => ?_)
  have hl := lv_sub hl [0, 1, 2] (show _ = [(2, .int 0), (1, .int 1), (0, .ref mo)] from rfl)
  have L55 : ∀ (Q : State → Prop) (exit : ∀  (H : Heap) (locs : List Loc) (ls : Array Slot), va_P (dC, dI) vcl [(mo, .inr (12, mdF r z q cd tm (nI 20) (nI tx))), (r 7, .inl ((cT 0), 1000, .inl f))] H → va_D A [(mo, .inr (12, mdF r z q cd tm (nI 20) (nI tx))), (r 7, .inl ((cT 0), 1000, .inl f))] → va_S A s.heap H locs → lv_has ls 3 [(2, .int (nI 256)), (1, .int 1), (0, .ref mo)] → W p l e ({ frames := 1, cells := 0, slots := 0, locals := 24 } : Room) s m args below meth c H locs 0 0 Q (F0 m 91 ls [])) (j8 i : Nat)  (H : Heap) (locs : List Loc) (ls : Array Slot), i + j8 = 256 → va_P (dC, dI) vcl [(mo, .inr (12, mdF r z q cd tm (nI 20) (nI tx))), (r 7, .inl ((cT 0), 1000, .inl f))] H → va_D A [(mo, .inr (12, mdF r z q cd tm (nI 20) (nI tx))), (r 7, .inl ((cT 0), 1000, .inl f))] → va_S A s.heap H locs → lv_has ls 3 [(2, .int (nI i)), (1, .int 1), (0, .ref mo)] → W p l e ({ frames := 1, cells := 0, slots := 0, locals := 24 } : Room) s m args below meth c H locs 0 0 Q (F0 m 51 ls []) := by
    intro Q exit j8
    induction j8 with
    | zero => 
      intro i  H locs ls hij  hP hD hS hl
      have hij : 256 = i := by omega
      refine lv_iload_n hx hb d_Md_isWhole_51 rfl (lv_at hl 0 rfl) ?_
      refine lv_sipush (v := 256) hx hb d_Md_isWhole_52 (by decide) ?_
      refine lv_topi (fun x57 e56 => ?_)
      obtain rfl : x57 = nI 256 := by rw [e56]; rfl
      refine lv_icmp_ge (tgt := 91) hx hb d_Md_isWhole_55 (by decide) (fun hc58 => ?_) (fun hn9 => absurd (nI_le (by omega) (by omega)) hn9)
      subst hij
      exact exit  _ _ _  hP hD hS hl
    | succ j8 ih => 
      intro i  H locs ls hij  hP hD hS hl
      have hlt : i < 256 := by omega
      refine lv_iload_n hx hb d_Md_isWhole_51 rfl (lv_at hl 0 rfl) ?_
      refine lv_sipush (v := 256) hx hb d_Md_isWhole_52 (by decide) ?_
      refine lv_topi (fun x60 e59 => ?_)
      obtain rfl : x60 = nI 256 := by rw [e59]; rfl
      refine lv_icmp_ge (tgt := 91) hx hb d_Md_isWhole_55 (by decide) (fun hn9 => absurd hn9 (nI_ge hlt (by omega))) (fun hc61 => ?_)
      refine lv_iload_n hx hb d_Md_isWhole_58 rfl (lv_at hl 1 rfl) ?_
      refine lv_if_eq (tgt := 91) hx hb d_Md_isWhole_59 (by decide) (fun hn9 => absurd hn9 (by decide)) (fun hc62 => ?_)
      refine lv_iload_n hx hb d_Md_isWhole_62 rfl (lv_at hl 0 rfl) ?_
      have hPc := hP.sub (ws' := []) [] rfl
      have hDc := hD.sub (ws' := []) [] (by decide) rfl
      have hFc := va_free (wc := []) hD hS hA [] rfl
      refine va_calli (va_runS (As := [.int (nI i)]) (rest := []) ⟨hx, hb, hml, hown, hg⟩ (m_known l dC dI cT H.size (nI i) ) (va_cwS 1 hg (gI (List.forall_mem_append.mpr ⟨List.forall_mem_cons.mpr ⟨k_1291, List.forall_mem_cons.mpr ⟨k_1292, List.forall_mem_cons.mpr ⟨k_13, fun _ h => absurd h List.not_mem_nil⟩⟩⟩, List.forall_mem_cons.mpr ⟨k_1293, fun _ h => h⟩⟩)) rfl rfl rfl (by decide +kernel) ⟨Nat.le_of_ble_eq_true rfl, Nat.le_of_ble_eq_true rfl⟩) ⟨fun a U g mk q => by obtain ⟨q0, q1, qP, qK, qD⟩ := q; exact ⟨q0, q1, qP, va_K.moved (u := U) (U := U.calling g mk a) (Vm.Alike.refl U.vm) qK, qD⟩, fun U hU hW => ⟨rfl, by rw [hU], by rw [hU]; exact hPc, va_K.moved hW.alike hK, hDc.weaken (fun _ _ _ _ => trivial)⟩⟩ rfl rfl hl.1 rfl (lv_room (Nat.le_of_ble_eq_true rfl)) d_Md_isWhole_63 ⟨Nat.le_of_ble_eq_true rfl, Nat.le_of_ble_eq_true rfl⟩) hS (fun q _ h => hFc q h) hFc (fun rv9 u t H1 locs ht hvm hw hB hz1 hk1 hS => ?_)
      try dsimp only at hw hB
      obtain ⟨hP1, hK1, hD1⟩ := hB
      rw [ht] at hP1
      generalize rv9 = r63 at hw ⊢
      obtain ⟨hP, hD⟩ := va_join (wr := [(mo, .inr (12, mdF r z q cd tm (nI 20) (nI tx))), (r 7, .inl ((cT 0), 1000, .inl f))]) (w1 := []) hP hD [] [0, 1] rfl rfl (by decide) (by decide) hk1 hFc hP1 hD1
      have hw64 := hw
      clear hPc hDc hFc hz1 hk1 hP1 hK1 hD1
      generalize H1 = H at hP hS ⊢
      have hP : va_P (dC, dI) vcl [(mo, .inr (12, mdF r z q cd tm (nI 20) (nI tx))), (r 7, .inl ((cT 0), 1000, .inl f))] H := hP
      have hD : va_D A [(mo, .inr (12, mdF r z q cd tm (nI 20) (nI tx))), (r 7, .inl ((cT 0), 1000, .inl f))] := hD
      have K65 : W p l e ({ frames := 1, cells := 0, slots := 0, locals := 24 } : Room) s m args below meth c H locs 0 0 Q (F0 m 79 ls []) := by
        refine lv_iconst (v := 1) hx hb d_Md_isWhole_79 (by decide) ?_
        refine lv_goto (tgt := 84) hx hb d_Md_isWhole_80 (by decide) ?_
        refine lv_istore_n (lv' := [(1, .int 1), (2, .int (nI i)), (0, .ref mo)]) hx hb d_Md_isWhole_84 rfl hl (by decide) rfl (fun ls hl => ?_)
        refine lv_iinc (k := 1) (v := nI (i + 1)) (lv' := [(2, .int (nI (i + 1))), (1, .int 1), (0, .ref mo)]) hx hb d_Md_isWhole_85 hl rfl (nI_1 i) (by decide) rfl (fun ls hl => ?_)
        refine lv_goto (tgt := 51) hx hb d_Md_isWhole_88 (by decide) ?_
        have hl := lv_sub hl [0, 1, 2] (show _ = [(2, .int (nI (i + 1))), (1, .int 1), (0, .ref mo)] from rfl)
        exact ih (i + 1) _ _ _ (by omega) hP hD hS hl
      have K66 : W p l e ({ frames := 1, cells := 0, slots := 0, locals := 24 } : Room) s m args below meth c H locs 0 0 Q (F0 m 69 ls []) := by
        refine lv_aload_n hx hb d_Md_isWhole_69 rfl (lv_at hl 2 rfl) ?_
        refine lv_iload_n hx hb d_Md_isWhole_70 rfl (lv_at hl 0 rfl) ?_
        have hPc := hP.sub (ws' := [(mo, .inr (12, mdF r z q cd tm (nI 20) (nI tx)))]) [0] rfl
        have hDc := hD.sub (ws' := [(mo, .inr (12, mdF r z q cd tm (nI 20) (nI tx)))]) [0] (by decide) rfl
        have hFc := va_free (wc := [(mo, .inr (12, mdF r z q cd tm (nI 20) (nI tx)))]) hD hS hA [0] rfl
        refine va_calli (va_runV (C := "DoorServerModel") (As := [.int (nI i)]) (rest := []) ⟨hx, hb, hml, hown, hg⟩ (m_find l dC dI cT H.size mo r z q cd tm 20 tx (nI i) ) (cwV 1 hg (gI (List.forall_mem_append.mpr ⟨List.forall_mem_cons.mpr ⟨k_1294, List.forall_mem_cons.mpr ⟨k_1296, List.forall_mem_cons.mpr ⟨(big_sel (q := y_Md_find) (n := 45) (by decide +kernel)), List.forall_mem_cons.mpr ⟨k_13, fun _ h => absurd h List.not_mem_nil⟩⟩⟩⟩, List.forall_mem_cons.mpr ⟨k_1297, fun _ h => h⟩⟩)) rfl rfl rfl (by decide +kernel) ⟨Nat.le_of_ble_eq_true rfl, Nat.le_of_ble_eq_true rfl⟩) ⟨fun a U g mk q => by obtain ⟨q0, q1, qP, qK, qD⟩ := q; exact ⟨q0, q1, qP, va_K.moved (u := U) (U := U.calling g mk a) (Vm.Alike.refl U.vm) qK, qD⟩, va_recv (q0 := 0) (ci := 12) hK hP rfl rfl, fun U hU hW => ⟨rfl, by rw [hU], by rw [hU]; exact hPc, va_K.moved hW.alike hK, hDc.weaken (fun _ _ _ _ => trivial)⟩⟩ rfl rfl hl.1 rfl (lv_room (Nat.le_of_ble_eq_true rfl)) d_Md_isWhole_71 ⟨Nat.le_of_ble_eq_true rfl, Nat.le_of_ble_eq_true rfl⟩) hS (fun q _ h => hFc q h) hFc (fun rv9 u t H1 locs ht hvm hw hB hz1 hk1 hS => ?_)
        try dsimp only at hw hB
        obtain ⟨hP1, hK1, hD1⟩ := hB
        rw [ht] at hP1
        obtain ⟨rfl, hw⟩ := hw
        obtain ⟨hP, hD⟩ := va_join (wr := [(r 7, .inl ((cT 0), 1000, .inl f))]) (w1 := [(mo, .inr (12, mdF r z q cd tm (nI 20) (nI tx)))]) hP hD [0] [1] rfl rfl (by decide) (by decide) hk1 hFc hP1 hD1
        have hw67 := hw
        clear hPc hDc hFc hz1 hk1 hP1 hK1 hD1
        generalize H1 = H at hP hS ⊢
        have hP : va_P (dC, dI) vcl [(r 7, .inl ((cT 0), 1000, .inl f)), (mo, .inr (12, mdF r z q cd tm (nI 20) (nI tx)))] H := hP
        have hD : va_D A [(r 7, .inl ((cT 0), 1000, .inl f)), (mo, .inr (12, mdF r z q cd tm (nI 20) (nI tx)))] := hD
        refine lv_bipush (v := (-2)) hx hb d_Md_isWhole_74 (by decide) ?_
        refine lv_icmp_eq (tgt := 83) hx hb d_Md_isWhole_76 (by decide) (fun hn9 => absurd hn9 (by decide)) (fun hc68 => ?_)
        refine lv_iconst (v := 1) hx hb d_Md_isWhole_79 (by decide) ?_
        refine lv_goto (tgt := 84) hx hb d_Md_isWhole_80 (by decide) ?_
        refine lv_istore_n (lv' := [(1, .int 1), (2, .int (nI i)), (0, .ref mo)]) hx hb d_Md_isWhole_84 rfl hl (by decide) rfl (fun ls hl => ?_)
        refine lv_iinc (k := 1) (v := nI (i + 1)) (lv' := [(2, .int (nI (i + 1))), (1, .int 1), (0, .ref mo)]) hx hb d_Md_isWhole_85 hl rfl (nI_1 i) (by decide) rfl (fun ls hl => ?_)
        refine lv_goto (tgt := 51) hx hb d_Md_isWhole_88 (by decide) ?_
        have hl := lv_sub hl [0, 1, 2] (show _ = [(2, .int (nI (i + 1))), (1, .int 1), (0, .ref mo)] from rfl)
        have hP := hP.sub (ws' := [(mo, .inr (12, mdF r z q cd tm (nI 20) (nI tx))), (r 7, .inl ((cT 0), 1000, .inl f))]) [1, 0] rfl
        have hD := hD.sub (ws' := [(mo, .inr (12, mdF r z q cd tm (nI 20) (nI tx))), (r 7, .inl ((cT 0), 1000, .inl f))]) [1, 0] (by decide) rfl
        exact ih (i + 1) _ _ _ (by omega) hP hD hS hl
      refine lv_if_eq (tgt := 79) hx hb d_Md_isWhole_66 (by decide) (fun hc69 => ?_) (fun hc69 => ?_)
      · exact K65
      · exact K66
  refine L55 _ (fun  H locs ls  hP hD hS hl => ?_) (256 - 0) 0  s.heap _ ls (by omega)  hP hD hS hl
  refine lv_iload_n hx hb d_Md_isWhole_91 rfl (lv_at hl 1 rfl) ?_
  refine lv_if_eq (tgt := 106) hx hb d_Md_isWhole_92 (by decide) (fun hn9 => absurd hn9 (by decide)) (fun hc70 => ?_)
  refine lv_aload_n hx hb d_Md_isWhole_95 rfl (lv_at hl 2 rfl) ?_
  have hPc := hP.sub (ws' := [(mo, .inr (12, mdF r z q cd tm (nI 20) (nI tx)))]) [0] rfl
  have hDc := hD.sub (ws' := [(mo, .inr (12, mdF r z q cd tm (nI 20) (nI tx)))]) [0] (by decide) rfl
  have hFc := va_free (wc := [(mo, .inr (12, mdF r z q cd tm (nI 20) (nI tx)))]) hD hS hA [0] rfl
  refine va_calli (va_runV (C := "DoorServerModel") (As := []) (rest := []) ⟨hx, hb, hml, hown, hg⟩ (m_findEnd l dC dI cT H.size mo r z q cd tm 20 tx ) (cwV 0 hg (gI (List.forall_mem_append.mpr ⟨List.forall_mem_cons.mpr ⟨k_1301, List.forall_mem_cons.mpr ⟨k_1303, List.forall_mem_cons.mpr ⟨(big_sel (q := y_Md_findEnd) (n := 45) (by decide +kernel)), List.forall_mem_cons.mpr ⟨k_13, fun _ h => absurd h List.not_mem_nil⟩⟩⟩⟩, List.forall_mem_cons.mpr ⟨k_1304, fun _ h => h⟩⟩)) rfl rfl rfl (by decide +kernel) ⟨Nat.le_of_ble_eq_true rfl, Nat.le_of_ble_eq_true rfl⟩) ⟨fun a U g mk q => by obtain ⟨q0, q1, qP, qK, qD⟩ := q; exact ⟨q0, q1, qP, va_K.moved (u := U) (U := U.calling g mk a) (Vm.Alike.refl U.vm) qK, qD⟩, va_recv (q0 := 0) (ci := 12) hK hP rfl rfl, fun U hU hW => ⟨rfl, by rw [hU], by rw [hU]; exact hPc, va_K.moved hW.alike hK, hDc.weaken (fun _ _ _ _ => trivial)⟩⟩ rfl rfl hl.1 rfl (lv_room (Nat.le_of_ble_eq_true rfl)) d_Md_isWhole_96 ⟨Nat.le_of_ble_eq_true rfl, Nat.le_of_ble_eq_true rfl⟩) hS (fun q _ h => hFc q h) hFc (fun rv9 u t H1 locs ht hvm hw hB hz1 hk1 hS => ?_)
  try dsimp only at hw hB
  obtain ⟨hP1, hK1, hD1⟩ := hB
  rw [ht] at hP1
  obtain ⟨rfl, hw⟩ := hw
  obtain ⟨hP, hD⟩ := va_join (wr := [(r 7, .inl ((cT 0), 1000, .inl f))]) (w1 := [(mo, .inr (12, mdF r z q cd tm (nI 20) (nI tx)))]) hP hD [0] [1] rfl rfl (by decide) (by decide) hk1 hFc hP1 hD1
  have hw71 := hw
  clear hPc hDc hFc hz1 hk1 hP1 hK1 hD1
  generalize H1 = H at hP hS ⊢
  have hP : va_P (dC, dI) vcl [(r 7, .inl ((cT 0), 1000, .inl f)), (mo, .inr (12, mdF r z q cd tm (nI 20) (nI tx)))] H := hP
  have hD : va_D A [(r 7, .inl ((cT 0), 1000, .inl f)), (mo, .inr (12, mdF r z q cd tm (nI 20) (nI tx)))] := hD
  refine lv_if_eq (tgt := 106) hx hb d_Md_isWhole_99 (by decide) (fun hn9 => absurd hn9 (by decide)) (fun hc72 => ?_)
  refine lv_iconst (v := 1) hx hb d_Md_isWhole_102 (by decide) ?_
  refine lv_goto (tgt := 107) hx hb d_Md_isWhole_103 (by decide) ?_
  have hP9 := hP.sub (ws' := [(mo, .inr (12, mdF r z q cd tm (nI 20) (nI tx))), (r 7, .inl ((cT 0), 1000, .inl f))]) [1, 0] rfl
  have hD9 := hD.sub (ws' := [(mo, .inr (12, mdF r z q cd tm (nI 20) (nI tx))), (r 7, .inl ((cT 0), 1000, .inl f))]) [1, 0] (by decide) rfl
  exact W.zret (v := 1) hx hb hr (by first | rfl | decide) (fun t ht hW => ⟨⟨_, (), rfl, ⟨rfl, trivial⟩, by rw [ht]; exact hP9, va_K.moved hW.alike hK, hD9⟩, hS.F ht⟩) hS.2.2 d_Md_isWhole_107
set_option maxHeartbeats 4000000 in
set_option maxRecDepth 100000 in
/-- send: FORGED -/
theorem o_send (l : Launch) (dC : Nat → ClassId) (dI : Nat → Nat → Nat) (cT : Nat → ClassId) (sz : Nat) (mo : Nat) (r : Nat → Nat) (z : Nat → Int32) (q : Nat → Int64) (cd : Int32) (tm : Int32) (sn : Nat) (tx : Nat) (f : Nat → Int32) (st : Nat) (h0 : f 0 = 1) (h2 : f 2 = 0) (h3 : f 3 = 20) (hst : st < 4) : Met l y_Md_send (Cond.code y_Md_send b_Md_send 5 (Option.some Jvm.ClassFile.FieldType.int) :: BIG) ({ frames := 2, cells := 0, slots := 0, locals := 50 }) (va_Pc [.ref mo, .int (nI st)] (fun U => U.heap.size = sz ∧ va_P (dC, dI) vcl [(mo, .inr (12, mdF r z q cd tm (nI 20) (nI tx))), (r 7, .inl ((cT 0), 1000, .inl f))] U.heap ∧ va_K (dC, dI) vcl (tyL cT) U ∧ va_D (fun _ => True) [(mo, .inr (12, mdF r z q cd tm (nI 20) (nI tx))), (r 7, .inl ((cT 0), 1000, .inl f))])) (va_Qi (S := Unit) (fun rv9 u => rv9 = (-4) ∧ (True)) (fun u t => va_P (dC, dI) vcl [(mo, .inr (12, mdF r z q 0 tm (nI 20) (nI tx)))] t.heap ∧ va_K (dC, dI) vcl (tyL cT) t ∧ va_D (va_A [(mo, .inr (12, mdF r z q cd tm (nI 20) (nI tx))), (r 7, .inl ((cT 0), 1000, .inl f))] sz) [(mo, .inr (12, mdF r z q 0 tm (nI 20) (nI tx)))]) (va_A [(mo, .inr (12, mdF r z q cd tm (nI 20) (nI tx))), (r 7, .inl ((cT 0), 1000, .inl f))] sz)) 0 0 (va_A [(mo, .inr (12, mdF r z q cd tm (nI 20) (nI tx))), (r 7, .inl ((cT 0), 1000, .inl f))] sz) := by
  refine Met.ofW (cc := b_Md_send) (maxL := 5) (ret := (Option.some Jvm.ClassFile.FieldType.int)) (by decide) rfl ?_
  intro p e s m args below meth c s₁ B hml hv
  obtain ⟨hargs, hsz, hP, hK, hD0⟩ := hv
  have hx := B.exec
  have hb := B.bytes
  have hr := B.returns
  have hts := atoms_spec (ws := (Cond.code y_Md_send b_Md_send 5 (Option.some Jvm.ClassFile.FieldType.int) :: BIG)) B.pre
  have hg : ∀ w ∈ BIG, w.before _ s = true := fun w h => hts w (List.mem_cons_of_mem _ h)
  have hown : s.vm.findClass "DoorServerModel" = some m.cls := findClass_of_methodNamed B.named
  have hlocks := B.notSynchronized
  subst hsz
  have hD := hD0.self (sz := s.heap.size)
  generalize hAe : va_A [(mo, .inr (12, mdF r z q cd tm (nI 20) (nI tx))), (r 7, .inl ((cT 0), 1000, .inl f))] s.heap.size = A at hD ⊢
  have hA : ∀ q : Nat, s.heap.size ≤ q → A q := fun q h => by rw [← hAe]; exact Or.inr h
  have hS : va_S A s.heap s.heap [] := va_S.rf
  have hl := lv_entry ([.ref mo, .int (nI st)]) (n := 5) (Nat.le_of_ble_eq_true rfl)
  refine W.eq (g2 := entryFrame m (List.toArray [.ref mo, .int (nI st)]) 5) (by rw [hargs]) ?_
  rw [lg_entry_eq]
  generalize (lg_sl ([.ref mo, .int (nI st)]) ++ List.replicate (5 - (lg_sl ([.ref mo, .int (nI st)])).length) Slot.unset).toArray = ls at hl ⊢
  have hl : lv_has ls 5 [(0, .ref mo), (1, .int (nI st))] := hl
  change W p l e ({ frames := 2, cells := 0, slots := 0, locals := 50 } : Room) s m args below meth c s.heap [] 0 0 _ _
  have hP : va_P (dC, dI) vcl [(mo, .inr (12, mdF r z q cd tm (nI 20) (nI tx))), (r 7, .inl ((cT 0), 1000, .inl f))] s.heap := hP
  refine lv_aload_n hx hb d_Md_send_0 rfl (lv_at hl 0 rfl) ?_
  refine lv_iload_n hx hb d_Md_send_1 rfl (lv_at hl 1 rfl) ?_
  refine lv_if_lt (tgt := 14) hx hb d_Md_send_2 (by decide) (fun hn9 => absurd hn9 (nI_pos (by omega))) (fun hc73 => ?_)
  refine lv_iload_n hx hb d_Md_send_5 rfl (lv_at hl 1 rfl) ?_
  refine lv_iconst (v := 4) hx hb d_Md_send_6 (by decide) ?_
  refine lv_icmp_ge (tgt := 14) hx hb d_Md_send_7 (by decide) (fun hn9 => absurd hn9 (nI_ge (b := 4) hst (by decide))) (fun hc74 => ?_)
  refine lv_iconst (v := 1) hx hb d_Md_send_10 (by decide) ?_
  refine lv_goto (tgt := 15) hx hb d_Md_send_11 (by decide) ?_
  have hPc := hP.sub (ws' := [(mo, .inr (12, mdF r z q cd tm (nI 20) (nI tx)))]) [0] rfl
  have hDc := hD.sub (ws' := [(mo, .inr (12, mdF r z q cd tm (nI 20) (nI tx)))]) [0] (by decide) rfl
  have hFc := va_free (wc := [(mo, .inr (12, mdF r z q cd tm (nI 20) (nI tx)))]) hD hS hA [0] rfl
  refine va_calli (va_runV (C := "DoorServerModel") (As := [.int 1]) (rest := []) ⟨hx, hb, hml, hown, hg⟩ (m_goes1 l dC dI cT s.heap.size mo r z q cd tm 20 tx ) (cwV 1 hg (gI (List.forall_mem_append.mpr ⟨List.forall_mem_cons.mpr ⟨k_1165, List.forall_mem_cons.mpr ⟨k_1167, List.forall_mem_cons.mpr ⟨(big_sel (q := y_Md_goes) (n := 45) (by decide +kernel)), List.forall_mem_cons.mpr ⟨k_13, fun _ h => absurd h List.not_mem_nil⟩⟩⟩⟩, List.forall_mem_cons.mpr ⟨k_1168, fun _ h => h⟩⟩)) rfl rfl rfl (by decide +kernel) ⟨Nat.le_of_ble_eq_true rfl, Nat.le_of_ble_eq_true rfl⟩) ⟨fun a U g mk q => by obtain ⟨q0, q1, qP, qK, qD⟩ := q; exact ⟨q0, q1, qP, va_K.moved (u := U) (U := U.calling g mk a) (Vm.Alike.refl U.vm) qK, qD⟩, va_recv (q0 := 0) (ci := 12) hK hP rfl rfl, fun U hU hW => ⟨rfl, by rw [hU], by rw [hU]; exact hPc, va_K.moved hW.alike hK, hDc.weaken (fun _ _ _ _ => trivial)⟩⟩ rfl rfl hl.1 rfl (lv_room (Nat.le_of_ble_eq_true rfl)) d_Md_send_15 ⟨Nat.le_of_ble_eq_true rfl, Nat.le_of_ble_eq_true rfl⟩) hS (fun q _ h => hFc q h) hFc (fun rv9 u t H1 locs ht hvm hw hB hz1 hk1 hS => ?_)
  try dsimp only at hw hB
  obtain ⟨hP1, hK1, hD1⟩ := hB
  rw [ht] at hP1
  obtain ⟨rfl, hw⟩ := hw
  obtain ⟨hP, hD⟩ := va_join (wr := [(r 7, .inl ((cT 0), 1000, .inl f))]) (w1 := [(mo, .inr (12, mdF r z q 0 tm (nI 20) (nI tx)))]) hP hD [0] [1] rfl rfl (by decide) (by decide) hk1 hFc hP1 hD1
  have hw75 := hw
  clear hPc hDc hFc hz1 hk1 hP1 hK1 hD1
  generalize H1 = H at hP hS ⊢
  have hP : va_P (dC, dI) vcl [(r 7, .inl ((cT 0), 1000, .inl f)), (mo, .inr (12, mdF r z q 0 tm (nI 20) (nI tx)))] H := hP
  have hD : va_D A [(r 7, .inl ((cT 0), 1000, .inl f)), (mo, .inr (12, mdF r z q 0 tm (nI 20) (nI tx)))] := hD
  refine lv_if_ne (tgt := 23) hx hb d_Md_send_18 (by decide) (fun hc76 => ?_) (fun hn9 => absurd hn9 (by decide))
  refine lv_aload_n hx hb d_Md_send_23 rfl (lv_at hl 0 rfl) ?_
  have hPc := hP.sub (ws' := [(mo, .inr (12, mdF r z q 0 tm (nI 20) (nI tx))), (r 7, .inl ((cT 0), 1000, .inl f))]) [1, 0] rfl
  have hDc := hD.sub (ws' := [(mo, .inr (12, mdF r z q 0 tm (nI 20) (nI tx))), (r 7, .inl ((cT 0), 1000, .inl f))]) [1, 0] (by decide) rfl
  have hFc := va_free (wc := [(mo, .inr (12, mdF r z q 0 tm (nI 20) (nI tx))), (r 7, .inl ((cT 0), 1000, .inl f))]) hD hS hA [1, 0] rfl
  refine va_calli (va_runV (C := "DoorServerModel") (As := []) (rest := []) ⟨hx, hb, hml, hown, hg⟩ (m_isWhole l dC dI cT H.size mo r z q 0 tm 20 tx f (h0) (h2) (h3)) (cwV 0 hg (gI (List.forall_mem_append.mpr ⟨List.forall_mem_cons.mpr ⟨k_1287, List.forall_mem_cons.mpr ⟨k_1289, List.forall_mem_cons.mpr ⟨(big_sel (q := y_Md_isWhole) (n := 45) (by decide +kernel)), List.forall_mem_cons.mpr ⟨k_13, fun _ h => absurd h List.not_mem_nil⟩⟩⟩⟩, List.forall_mem_cons.mpr ⟨k_1290, fun _ h => h⟩⟩)) rfl rfl rfl (by decide +kernel) ⟨Nat.le_of_ble_eq_true rfl, Nat.le_of_ble_eq_true rfl⟩) ⟨fun a U g mk q => by obtain ⟨q0, q1, qP, qK, qD⟩ := q; exact ⟨q0, q1, qP, va_K.moved (u := U) (U := U.calling g mk a) (Vm.Alike.refl U.vm) qK, qD⟩, va_recv (q0 := 1) (ci := 12) hK hP rfl rfl, fun U hU hW => ⟨rfl, by rw [hU], by rw [hU]; exact hPc, va_K.moved hW.alike hK, hDc.weaken (fun _ _ _ _ => trivial)⟩⟩ rfl rfl hl.1 rfl (lv_room (Nat.le_of_ble_eq_true rfl)) d_Md_send_24 ⟨Nat.le_of_ble_eq_true rfl, Nat.le_of_ble_eq_true rfl⟩) hS (fun q _ h => hFc q h) hFc (fun rv9 u t H1 locs ht hvm hw hB hz1 hk1 hS => ?_)
  try dsimp only at hw hB
  obtain ⟨hP1, hK1, hD1⟩ := hB
  rw [ht] at hP1
  obtain ⟨rfl, hw⟩ := hw
  obtain ⟨hP, hD⟩ := va_join (wr := []) (w1 := [(mo, .inr (12, mdF r z q 0 tm (nI 20) (nI tx))), (r 7, .inl ((cT 0), 1000, .inl f))]) hP hD [1, 0] [] rfl rfl (by decide) (by decide) hk1 hFc hP1 hD1
  have hw77 := hw
  clear hPc hDc hFc hz1 hk1 hP1 hK1 hD1
  generalize H1 = H at hP hS ⊢
  have hP : va_P (dC, dI) vcl [(mo, .inr (12, mdF r z q 0 tm (nI 20) (nI tx))), (r 7, .inl ((cT 0), 1000, .inl f))] H := hP
  have hD : va_D A [(mo, .inr (12, mdF r z q 0 tm (nI 20) (nI tx))), (r 7, .inl ((cT 0), 1000, .inl f))] := hD
  refine lv_if_ne (tgt := 33) hx hb d_Md_send_27 (by decide) (fun hc78 => ?_) (fun hn9 => absurd hn9 (by decide))
  refine lv_aload_n hx hb d_Md_send_33 rfl (lv_at hl 0 rfl) ?_
  refine va_get (D := (dC, dI)) (ci := 12) (v := (.ref (r 7))) (C := R_Md) (T := F_Md) (N := 45) hx hb hg in_Md hown hK hP 0 rfl rfl 7 (by decide) (hg _ k_1027) (fun _ h9 => h9) rfl d_Md_send_34 ?_
  refine lv_iconst (v := 0) hx hb d_Md_send_37 (by decide) ?_
  refine va_iald hx hb hK hP 1 0 rfl rfl (i := 0) (vp_in_nI (n := 0) (N := 1000) (by decide) (by decide)) d_Md_send_38 ?_
  refine lv_topi (fun x80 e79 => ?_)
  obtain rfl : x80 = 1 := by rw [e79]; exact h0
  refine lv_istore_n (lv' := [(2, .int 1), (0, .ref mo), (1, .int (nI st))]) hx hb d_Md_send_39 rfl hl (by decide) rfl (fun ls hl => ?_)
  refine lv_iload_n hx hb d_Md_send_40 rfl (lv_at hl 0 rfl) ?_
  refine lv_iconst (v := 1) hx hb d_Md_send_41 (by decide) ?_
  refine lv_icmp_eq (tgt := 53) hx hb d_Md_send_42 (by decide) (fun hc81 => ?_) (fun hn9 => absurd (by decide) hn9)
  refine lv_iload_n hx hb d_Md_send_53 rfl (lv_at hl 0 rfl) ?_
  refine lv_iconst (v := 1) hx hb d_Md_send_54 (by decide) ?_
  refine lv_icmp_ne (tgt := 70) hx hb d_Md_send_55 (by decide) (fun hn9 => absurd hn9 (by decide)) (fun hc82 => ?_)
  refine lv_aload_n hx hb d_Md_send_58 rfl (lv_at hl 1 rfl) ?_
  refine lv_bipush (v := 80) hx hb d_Md_send_59 (by decide) ?_
  have hPc := hP.sub (ws' := [(mo, .inr (12, mdF r z q 0 tm (nI 20) (nI tx)))]) [0] rfl
  have hDc := hD.sub (ws' := [(mo, .inr (12, mdF r z q 0 tm (nI 20) (nI tx)))]) [0] (by decide) rfl
  have hFc := va_free (wc := [(mo, .inr (12, mdF r z q 0 tm (nI 20) (nI tx)))]) hD hS hA [0] rfl
  refine va_calli (va_runV (C := "DoorServerModel") (As := [.int 80]) (rest := []) ⟨hx, hb, hml, hown, hg⟩ (m_has l dC dI cT H.size mo r z q 0 tm 20 tx 80 ) (cwV 1 hg (gI (List.forall_mem_append.mpr ⟨List.forall_mem_cons.mpr ⟨k_1305, List.forall_mem_cons.mpr ⟨k_1307, List.forall_mem_cons.mpr ⟨(big_sel (q := y_Md_has) (n := 45) (by decide +kernel)), List.forall_mem_cons.mpr ⟨k_13, fun _ h => absurd h List.not_mem_nil⟩⟩⟩⟩, List.forall_mem_cons.mpr ⟨k_1308, fun _ h => h⟩⟩)) rfl rfl rfl (by decide +kernel) ⟨Nat.le_of_ble_eq_true rfl, Nat.le_of_ble_eq_true rfl⟩) ⟨fun a U g mk q => by obtain ⟨q0, q1, qP, qK, qD⟩ := q; exact ⟨q0, q1, qP, va_K.moved (u := U) (U := U.calling g mk a) (Vm.Alike.refl U.vm) qK, qD⟩, va_recv (q0 := 0) (ci := 12) hK hP rfl rfl, fun U hU hW => ⟨rfl, by rw [hU], by rw [hU]; exact hPc, va_K.moved hW.alike hK, hDc.weaken (fun _ _ _ _ => trivial)⟩⟩ rfl rfl hl.1 rfl (lv_room (Nat.le_of_ble_eq_true rfl)) d_Md_send_61 ⟨Nat.le_of_ble_eq_true rfl, Nat.le_of_ble_eq_true rfl⟩) hS (fun q _ h => hFc q h) hFc (fun rv9 u t H1 locs ht hvm hw hB hz1 hk1 hS => ?_)
  try dsimp only at hw hB
  obtain ⟨hP1, hK1, hD1⟩ := hB
  rw [ht] at hP1
  obtain ⟨rfl, hw⟩ := hw
  obtain ⟨hP, hD⟩ := va_join (wr := [(r 7, .inl ((cT 0), 1000, .inl f))]) (w1 := [(mo, .inr (12, mdF r z q 0 tm (nI 20) (nI tx)))]) hP hD [0] [1] rfl rfl (by decide) (by decide) hk1 hFc hP1 hD1
  have hw83 := hw
  clear hPc hDc hFc hz1 hk1 hP1 hK1 hD1
  generalize H1 = H at hP hS ⊢
  have hP : va_P (dC, dI) vcl [(r 7, .inl ((cT 0), 1000, .inl f)), (mo, .inr (12, mdF r z q 0 tm (nI 20) (nI tx)))] H := hP
  have hD : va_D A [(r 7, .inl ((cT 0), 1000, .inl f)), (mo, .inr (12, mdF r z q 0 tm (nI 20) (nI tx)))] := hD
  refine lv_if_ne (tgt := 70) hx hb d_Md_send_64 (by decide) (fun hn9 => absurd hn9 (by decide)) (fun hc84 => ?_)
  refine lv_bipush (v := (-4)) hx hb d_Md_send_67 (by decide) ?_
  have hP9 := hP.sub (ws' := [(mo, .inr (12, mdF r z q 0 tm (nI 20) (nI tx)))]) [1] rfl
  have hD9 := hD.sub (ws' := [(mo, .inr (12, mdF r z q 0 tm (nI 20) (nI tx)))]) [1] (by decide) rfl
  exact W.iret (v := (-4)) hx hb hr (fun t ht hW => ⟨⟨_, (), rfl, ⟨rfl, trivial⟩, by rw [ht]; exact hP9, va_K.moved hW.alike hK, hD9⟩, hS.F ht⟩) hS.2.2 d_Md_send_69
