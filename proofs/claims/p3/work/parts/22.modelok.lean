theorem d_Md_secret_0 : decode b_Md_secret 0 = .ok (.aload_n 0, 1) := by decide +kernel
theorem d_Md_secret_1 : decode b_Md_secret 1 = .ok (.iload_n 1, 1) := by decide +kernel
theorem d_Md_secret_2 : decode b_Md_secret 2 = .ok (.ifCond .lt 25, 3) := by decide +kernel
theorem d_Md_secret_27 : decode b_Md_secret 27 = .ok (.iconst 0, 1) := by decide +kernel
theorem d_Md_secret_28 : decode b_Md_secret 28 = .ok (.invokevirtual 289, 3) := by decide +kernel
theorem d_Md_secret_31 : decode b_Md_secret 31 = .ok (.ifCond .eq 45, 3) := by decide +kernel
theorem d_Md_secret_76 : decode b_Md_secret 76 = .ok (.return_, 1) := by decide +kernel
theorem d_Md_secret_5 : decode b_Md_secret 5 = .ok (.iload_n 1, 1) := by decide +kernel
theorem d_Md_secret_6 : decode b_Md_secret 6 = .ok (.iconst 4, 1) := by decide +kernel
theorem d_Md_secret_7 : decode b_Md_secret 7 = .ok (.if_icmp .ge 20, 3) := by decide +kernel
theorem d_Md_secret_10 : decode b_Md_secret 10 = .ok (.iload 4, 2) := by decide +kernel
theorem d_Md_secret_12 : decode b_Md_secret 12 = .ok (.iconst 1, 1) := by decide +kernel
theorem d_Md_secret_13 : decode b_Md_secret 13 = .ok (.if_icmp .lt 14, 3) := by decide +kernel
theorem d_Md_secret_16 : decode b_Md_secret 16 = .ok (.iload 4, 2) := by decide +kernel
theorem d_Md_secret_18 : decode b_Md_secret 18 = .ok (.bipush 40, 2) := by decide +kernel
theorem d_Md_secret_20 : decode b_Md_secret 20 = .ok (.if_icmp .gt 7, 3) := by decide +kernel
theorem d_Md_user_0 : decode b_Md_user 0 = .ok (.aload_n 0, 1) := by decide +kernel
theorem d_Md_user_1 : decode b_Md_user 1 = .ok (.iload_n 1, 1) := by decide +kernel
theorem d_Md_user_2 : decode b_Md_user 2 = .ok (.ifCond .lt 26, 3) := by decide +kernel
theorem d_Md_user_28 : decode b_Md_user 28 = .ok (.iconst 0, 1) := by decide +kernel
theorem d_Md_user_29 : decode b_Md_user 29 = .ok (.invokevirtual 289, 3) := by decide +kernel
theorem d_Md_user_32 : decode b_Md_user 32 = .ok (.ifCond .ne 5, 3) := by decide +kernel
theorem d_Md_user_35 : decode b_Md_user 35 = .ok (.iconst 0, 1) := by decide +kernel
theorem d_Md_user_36 : decode b_Md_user 36 = .ok (.ireturn, 1) := by decide +kernel
theorem d_Md_user_5 : decode b_Md_user 5 = .ok (.iload_n 1, 1) := by decide +kernel
theorem d_Md_user_6 : decode b_Md_user 6 = .ok (.bipush 32, 2) := by decide +kernel
theorem d_Md_user_8 : decode b_Md_user 8 = .ok (.if_icmp .ge 20, 3) := by decide +kernel
theorem d_Md_user_11 : decode b_Md_user 11 = .ok (.iload 4, 2) := by decide +kernel
theorem d_Md_user_13 : decode b_Md_user 13 = .ok (.iconst 1, 1) := by decide +kernel
theorem d_Md_user_14 : decode b_Md_user 14 = .ok (.if_icmp .lt 14, 3) := by decide +kernel
theorem d_Md_user_17 : decode b_Md_user 17 = .ok (.iload 4, 2) := by decide +kernel
theorem d_Md_user_19 : decode b_Md_user 19 = .ok (.bipush 60, 2) := by decide +kernel
theorem d_Md_user_21 : decode b_Md_user 21 = .ok (.if_icmp .gt 7, 3) := by decide +kernel
theorem d_Md_seal_0 : decode b_Md_seal 0 = .ok (.aload_n 0, 1) := by decide +kernel
theorem d_Md_seal_1 : decode b_Md_seal 1 = .ok (.iload_n 1, 1) := by decide +kernel
theorem d_Md_seal_2 : decode b_Md_seal 2 = .ok (.ifCond .lt 12, 3) := by decide +kernel
theorem d_Md_seal_14 : decode b_Md_seal 14 = .ok (.iconst 0, 1) := by decide +kernel
theorem d_Md_seal_15 : decode b_Md_seal 15 = .ok (.invokevirtual 289, 3) := by decide +kernel
theorem d_Md_seal_18 : decode b_Md_seal 18 = .ok (.ifCond .eq 40, 3) := by decide +kernel
theorem d_Md_seal_58 : decode b_Md_seal 58 = .ok (.return_, 1) := by decide +kernel
theorem d_Md_seal_5 : decode b_Md_seal 5 = .ok (.iload_n 1, 1) := by decide +kernel
theorem d_Md_seal_6 : decode b_Md_seal 6 = .ok (.iconst 4, 1) := by decide +kernel
theorem d_Md_seal_7 : decode b_Md_seal 7 = .ok (.if_icmp .ge 7, 3) := by decide +kernel
theorem d_Md_draft_0 : decode b_Md_draft 0 = .ok (.aload_n 0, 1) := by decide +kernel
theorem d_Md_draft_1 : decode b_Md_draft 1 = .ok (.iload_n 1, 1) := by decide +kernel
theorem d_Md_draft_2 : decode b_Md_draft 2 = .ok (.invokestatic 303, 3) := by decide +kernel
theorem d_Md_draft_5 : decode b_Md_draft 5 = .ok (.ifCond .eq 14, 3) := by decide +kernel
theorem d_Md_draft_19 : decode b_Md_draft 19 = .ok (.iconst 0, 1) := by decide +kernel
theorem d_Md_draft_20 : decode b_Md_draft 20 = .ok (.invokevirtual 289, 3) := by decide +kernel
theorem d_Md_draft_23 : decode b_Md_draft 23 = .ok (.ifCond .eq 10, 3) := by decide +kernel
theorem d_Md_draft_33 : decode b_Md_draft 33 = .ok (.return_, 1) := by decide +kernel
theorem d_Md_draft_8 : decode b_Md_draft 8 = .ok (.iload_n 2, 1) := by decide +kernel
theorem d_Md_draft_9 : decode b_Md_draft 9 = .ok (.invokestatic 303, 3) := by decide +kernel
theorem d_Md_draft_12 : decode b_Md_draft 12 = .ok (.ifCond .eq 7, 3) := by decide +kernel
theorem d_Md_begin_0 : decode b_Md_begin 0 = .ok (.aload_n 0, 1) := by decide +kernel
theorem d_Md_begin_1 : decode b_Md_begin 1 = .ok (.iconst 0, 1) := by decide +kernel
theorem d_Md_begin_2 : decode b_Md_begin 2 = .ok (.putfield 297, 3) := by decide +kernel
theorem d_Md_begin_5 : decode b_Md_begin 5 = .ok (.aload_n 0, 1) := by decide +kernel
theorem d_Md_begin_6 : decode b_Md_begin 6 = .ok (.iload_n 1, 1) := by decide +kernel
theorem d_Md_begin_7 : decode b_Md_begin 7 = .ok (.invokevirtual 300, 3) := by decide +kernel
theorem d_Md_begin_10 : decode b_Md_begin 10 = .ok (.aload_n 0, 1) := by decide +kernel
theorem d_Md_begin_11 : decode b_Md_begin 11 = .ok (.iload_n 2, 1) := by decide +kernel
theorem d_Md_begin_12 : decode b_Md_begin 12 = .ok (.invokevirtual 300, 3) := by decide +kernel
theorem d_Md_begin_15 : decode b_Md_begin 15 = .ok (.aload_n 0, 1) := by decide +kernel
theorem d_Md_begin_16 : decode b_Md_begin 16 = .ok (.iconst 0, 1) := by decide +kernel
theorem d_Md_begin_17 : decode b_Md_begin 17 = .ok (.invokevirtual 300, 3) := by decide +kernel
theorem d_Md_begin_20 : decode b_Md_begin 20 = .ok (.aload_n 0, 1) := by decide +kernel
theorem d_Md_begin_21 : decode b_Md_begin 21 = .ok (.bipush 20, 2) := by decide +kernel
theorem d_Md_begin_23 : decode b_Md_begin 23 = .ok (.invokevirtual 300, 3) := by decide +kernel
theorem d_Md_begin_26 : decode b_Md_begin 26 = .ok (.iconst 0, 1) := by decide +kernel
theorem d_Md_begin_27 : decode b_Md_begin 27 = .ok (.istore 5, 2) := by decide +kernel
theorem d_Md_begin_29 : decode b_Md_begin 29 = .ok (.iload 5, 2) := by decide +kernel
theorem d_Md_begin_31 : decode b_Md_begin 31 = .ok (.bipush 16, 2) := by decide +kernel
theorem d_Md_begin_33 : decode b_Md_begin 33 = .ok (.if_icmp .ge 42, 3) := by decide +kernel
theorem d_Md_begin_36 : decode b_Md_begin 36 = .ok (.aload_n 0, 1) := by decide +kernel
theorem d_Md_begin_37 : decode b_Md_begin 37 = .ok (.lload_n 3, 1) := by decide +kernel
theorem d_Md_begin_38 : decode b_Md_begin 38 = .ok (.bipush 8, 2) := by decide +kernel
theorem d_Md_begin_40 : decode b_Md_begin 40 = .ok (.iload 5, 2) := by decide +kernel
theorem d_Md_begin_42 : decode b_Md_begin 42 = .ok (.bipush 8, 2) := by decide +kernel
theorem d_Md_begin_44 : decode b_Md_begin 44 = .ok (.irem, 1) := by decide +kernel
theorem d_Md_begin_45 : decode b_Md_begin 45 = .ok (.imul, 1) := by decide +kernel
theorem d_Md_begin_46 : decode b_Md_begin 46 = .ok (.lshr, 1) := by decide +kernel
theorem d_Md_begin_47 : decode b_Md_begin 47 = .ok (.ldc2_w 280, 3) := by decide +kernel
theorem d_Md_begin_50 : decode b_Md_begin 50 = .ok (.land, 1) := by decide +kernel
theorem d_Md_begin_51 : decode b_Md_begin 51 = .ok (.l2i, 1) := by decide +kernel
theorem d_Md_begin_52 : decode b_Md_begin 52 = .ok (.iload 5, 2) := by decide +kernel
theorem d_Md_begin_54 : decode b_Md_begin 54 = .ok (.bipush 8, 2) := by decide +kernel
theorem d_Md_begin_56 : decode b_Md_begin 56 = .ok (.if_icmp .ge 7, 3) := by decide +kernel
theorem d_Md_begin_63 : decode b_Md_begin 63 = .ok (.bipush 90, 2) := by decide +kernel
theorem d_Md_begin_65 : decode b_Md_begin 65 = .ok (.ixor, 1) := by decide +kernel
theorem d_Md_begin_66 : decode b_Md_begin 66 = .ok (.invokevirtual 300, 3) := by decide +kernel
theorem d_Md_begin_69 : decode b_Md_begin 69 = .ok (.iinc 5 1, 3) := by decide +kernel
theorem d_Md_begin_72 : decode b_Md_begin 72 = .ok (.goto (-43), 3) := by decide +kernel
theorem d_Md_begin_59 : decode b_Md_begin 59 = .ok (.iconst 0, 1) := by decide +kernel
theorem d_Md_begin_60 : decode b_Md_begin 60 = .ok (.goto 5, 3) := by decide +kernel
theorem d_Md_begin_75 : decode b_Md_begin 75 = .ok (.return_, 1) := by decide +kernel
theorem d_Md_draft_15 : decode b_Md_draft 15 = .ok (.iconst 1, 1) := by decide +kernel
theorem d_Md_draft_16 : decode b_Md_draft 16 = .ok (.goto 4, 3) := by decide +kernel
theorem d_Md_draft_26 : decode b_Md_draft 26 = .ok (.aload_n 0, 1) := by decide +kernel
theorem d_Md_draft_27 : decode b_Md_draft 27 = .ok (.iload_n 1, 1) := by decide +kernel
theorem d_Md_draft_28 : decode b_Md_draft 28 = .ok (.iload_n 2, 1) := by decide +kernel
theorem d_Md_draft_29 : decode b_Md_draft 29 = .ok (.lload_n 3, 1) := by decide +kernel
theorem d_Md_draft_30 : decode b_Md_draft 30 = .ok (.invokevirtual 239, 3) := by decide +kernel
theorem d_Md_secret_23 : decode b_Md_secret 23 = .ok (.iconst 1, 1) := by decide +kernel
theorem d_Md_secret_24 : decode b_Md_secret 24 = .ok (.goto 4, 3) := by decide +kernel
theorem d_Md_secret_34 : decode b_Md_secret 34 = .ok (.iconst 0, 1) := by decide +kernel
theorem d_Md_secret_35 : decode b_Md_secret 35 = .ok (.istore 5, 2) := by decide +kernel
theorem d_Md_secret_37 : decode b_Md_secret 37 = .ok (.iload 5, 2) := by decide +kernel
theorem d_Md_secret_39 : decode b_Md_secret 39 = .ok (.iload 4, 2) := by decide +kernel
theorem d_Md_secret_41 : decode b_Md_secret 41 = .ok (.if_icmp .ge 27, 3) := by decide +kernel
theorem d_Md_secret_44 : decode b_Md_secret 44 = .ok (.aload_n 0, 1) := by decide +kernel
theorem d_Md_secret_45 : decode b_Md_secret 45 = .ok (.getfield 141, 3) := by decide +kernel
theorem d_Md_secret_48 : decode b_Md_secret 48 = .ok (.bipush 40, 2) := by decide +kernel
theorem d_Md_secret_50 : decode b_Md_secret 50 = .ok (.iload_n 1, 1) := by decide +kernel
theorem d_Md_secret_51 : decode b_Md_secret 51 = .ok (.imul, 1) := by decide +kernel
theorem d_Md_secret_52 : decode b_Md_secret 52 = .ok (.iload 5, 2) := by decide +kernel
theorem d_Md_secret_54 : decode b_Md_secret 54 = .ok (.iadd, 1) := by decide +kernel
theorem d_Md_secret_55 : decode b_Md_secret 55 = .ok (.lload_n 2, 1) := by decide +kernel
theorem d_Md_secret_56 : decode b_Md_secret 56 = .ok (.iload 5, 2) := by decide +kernel
theorem d_Md_secret_58 : decode b_Md_secret 58 = .ok (.invokestatic 293, 3) := by decide +kernel
theorem d_Md_secret_61 : decode b_Md_secret 61 = .ok (.iastore, 1) := by decide +kernel
theorem d_Md_secret_62 : decode b_Md_secret 62 = .ok (.iinc 5 1, 3) := by decide +kernel
theorem d_Md_secret_65 : decode b_Md_secret 65 = .ok (.goto (-28), 3) := by decide +kernel
theorem d_Md_secret_68 : decode b_Md_secret 68 = .ok (.aload_n 0, 1) := by decide +kernel
theorem d_Md_secret_69 : decode b_Md_secret 69 = .ok (.getfield 145, 3) := by decide +kernel
theorem d_Md_secret_72 : decode b_Md_secret 72 = .ok (.iload_n 1, 1) := by decide +kernel
theorem d_Md_secret_73 : decode b_Md_secret 73 = .ok (.iload 4, 2) := by decide +kernel
theorem d_Md_secret_75 : decode b_Md_secret 75 = .ok (.iastore, 1) := by decide +kernel
theorem d_Md_user_24 : decode b_Md_user 24 = .ok (.iconst 1, 1) := by decide +kernel
theorem d_Md_user_25 : decode b_Md_user 25 = .ok (.goto 4, 3) := by decide +kernel
theorem d_Md_user_37 : decode b_Md_user 37 = .ok (.aload_n 0, 1) := by decide +kernel
theorem d_Md_user_38 : decode b_Md_user 38 = .ok (.getfield 151, 3) := by decide +kernel
theorem d_Md_user_41 : decode b_Md_user 41 = .ok (.iload_n 1, 1) := by decide +kernel
theorem d_Md_user_42 : decode b_Md_user 42 = .ok (.iaload, 1) := by decide +kernel
theorem d_Md_user_43 : decode b_Md_user 43 = .ok (.ifCond .ne 7, 3) := by decide +kernel
theorem d_Md_user_50 : decode b_Md_user 50 = .ok (.iconst 0, 1) := by decide +kernel
theorem d_Md_user_51 : decode b_Md_user 51 = .ok (.istore 5, 2) := by decide +kernel
theorem d_Md_user_53 : decode b_Md_user 53 = .ok (.iconst 0, 1) := by decide +kernel
theorem d_Md_user_54 : decode b_Md_user 54 = .ok (.istore 6, 2) := by decide +kernel
theorem d_Md_user_56 : decode b_Md_user 56 = .ok (.iload 6, 2) := by decide +kernel
theorem d_Md_user_58 : decode b_Md_user 58 = .ok (.iload 4, 2) := by decide +kernel
theorem d_Md_user_60 : decode b_Md_user 60 = .ok (.if_icmp .ge 27, 3) := by decide +kernel
theorem d_Md_user_63 : decode b_Md_user 63 = .ok (.aload_n 0, 1) := by decide +kernel
theorem d_Md_user_64 : decode b_Md_user 64 = .ok (.getfield 148, 3) := by decide +kernel
theorem d_Md_user_67 : decode b_Md_user 67 = .ok (.bipush 60, 2) := by decide +kernel
theorem d_Md_user_69 : decode b_Md_user 69 = .ok (.iload_n 1, 1) := by decide +kernel
theorem d_Md_user_70 : decode b_Md_user 70 = .ok (.imul, 1) := by decide +kernel
theorem d_Md_user_71 : decode b_Md_user 71 = .ok (.iload 6, 2) := by decide +kernel
theorem d_Md_user_73 : decode b_Md_user 73 = .ok (.iadd, 1) := by decide +kernel
theorem d_Md_user_74 : decode b_Md_user 74 = .ok (.lload_n 2, 1) := by decide +kernel
theorem d_Md_user_75 : decode b_Md_user 75 = .ok (.iload 6, 2) := by decide +kernel
theorem d_Md_user_77 : decode b_Md_user 77 = .ok (.invokestatic 293, 3) := by decide +kernel
theorem d_Md_user_80 : decode b_Md_user 80 = .ok (.iastore, 1) := by decide +kernel
theorem d_Md_user_81 : decode b_Md_user 81 = .ok (.iinc 6 1, 3) := by decide +kernel
theorem d_Md_user_84 : decode b_Md_user 84 = .ok (.goto (-28), 3) := by decide +kernel
theorem d_Md_user_87 : decode b_Md_user 87 = .ok (.aload_n 0, 1) := by decide +kernel
theorem d_Md_user_88 : decode b_Md_user 88 = .ok (.getfield 151, 3) := by decide +kernel
theorem d_Md_user_91 : decode b_Md_user 91 = .ok (.iload_n 1, 1) := by decide +kernel
theorem d_Md_user_92 : decode b_Md_user 92 = .ok (.iload 4, 2) := by decide +kernel
theorem d_Md_user_94 : decode b_Md_user 94 = .ok (.iastore, 1) := by decide +kernel
theorem d_Md_user_95 : decode b_Md_user 95 = .ok (.iload 5, 2) := by decide +kernel
theorem d_Md_user_97 : decode b_Md_user 97 = .ok (.ireturn, 1) := by decide +kernel
theorem d_Md_user_46 : decode b_Md_user 46 = .ok (.iconst 1, 1) := by decide +kernel
theorem d_Md_user_47 : decode b_Md_user 47 = .ok (.goto 4, 3) := by decide +kernel
theorem d_Md_seal_10 : decode b_Md_seal 10 = .ok (.iconst 1, 1) := by decide +kernel
theorem d_Md_seal_11 : decode b_Md_seal 11 = .ok (.goto 4, 3) := by decide +kernel
theorem d_Md_seal_21 : decode b_Md_seal 21 = .ok (.aload_n 0, 1) := by decide +kernel
theorem d_Md_seal_22 : decode b_Md_seal 22 = .ok (.invokevirtual 307, 3) := by decide +kernel
theorem d_Md_seal_25 : decode b_Md_seal 25 = .ok (.aload_n 0, 1) := by decide +kernel
theorem d_Md_seal_26 : decode b_Md_seal 26 = .ok (.iload_n 1, 1) := by decide +kernel
theorem d_Md_seal_27 : decode b_Md_seal 27 = .ok (.invokevirtual 337, 3) := by decide +kernel
theorem d_Md_seal_30 : decode b_Md_seal 30 = .ok (.iconst 0, 1) := by decide +kernel
theorem d_Md_seal_31 : decode b_Md_seal 31 = .ok (.istore_n 2, 1) := by decide +kernel
theorem d_Md_seal_32 : decode b_Md_seal 32 = .ok (.iload_n 2, 1) := by decide +kernel
theorem d_Md_seal_33 : decode b_Md_seal 33 = .ok (.bipush 16, 2) := by decide +kernel
theorem d_Md_seal_35 : decode b_Md_seal 35 = .ok (.if_icmp .ge 23, 3) := by decide +kernel
theorem d_Md_seal_38 : decode b_Md_seal 38 = .ok (.aload_n 0, 1) := by decide +kernel
theorem d_Md_seal_39 : decode b_Md_seal 39 = .ok (.getfield 154, 3) := by decide +kernel
theorem d_Md_seal_42 : decode b_Md_seal 42 = .ok (.iconst 4, 1) := by decide +kernel
theorem d_Md_seal_43 : decode b_Md_seal 43 = .ok (.iload_n 2, 1) := by decide +kernel
theorem d_Md_seal_44 : decode b_Md_seal 44 = .ok (.iadd, 1) := by decide +kernel
theorem d_Md_seal_45 : decode b_Md_seal 45 = .ok (.aload_n 0, 1) := by decide +kernel
theorem d_Md_seal_46 : decode b_Md_seal 46 = .ok (.getfield 160, 3) := by decide +kernel
theorem d_Md_seal_49 : decode b_Md_seal 49 = .ok (.iload_n 2, 1) := by decide +kernel
theorem d_Md_seal_50 : decode b_Md_seal 50 = .ok (.iaload, 1) := by decide +kernel
theorem d_Md_seal_51 : decode b_Md_seal 51 = .ok (.iastore, 1) := by decide +kernel
theorem d_Md_seal_52 : decode b_Md_seal 52 = .ok (.iinc 2 1, 3) := by decide +kernel
theorem d_Md_seal_55 : decode b_Md_seal 55 = .ok (.goto (-23), 3) := by decide +kernel
set_option maxHeartbeats 4000000 in
set_option maxRecDepth 100000 in
/-- secret: illegal argument -/
theorem b_secret1 (l : Launch) (dC : Nat → ClassId) (dI : Nat → Nat → Nat) (cT : Nat → ClassId) (sz : Nat) (mo : Nat) (r : Nat → Nat) (cd : Int32) (tm : Int32) (sn : Nat) (tx : Nat) (lz : Nat) (az : Nat) (na : Nat) (nt : Nat) (nr : Nat) (mw : Int32) (ml : Int32) (mk : Int64) (dq : Int64) (x : Int32) (v : Int64) (y : Int32) (hbad : x < 0 ∨ 3 < x) : Met l y_Md_secret (Cond.code y_Md_secret b_Md_secret 6 (Option.none : Option Jvm.ClassFile.FieldType) :: BIG) ({ frames := 1, cells := 0, slots := 0, locals := 21 }) (va_Pc [.ref mo, .int x, .long v, .int y] (fun U => U.heap.size = sz ∧ va_P (dC, dI) vcl [(mo, .inr (12, mdG r cd tm (nI sn) (nI tx) (nI lz) (nI az) (nI na) (nI nt) (nI nr) mw ml mk dq))] U.heap ∧ va_K (dC, dI) vcl (tyL cT) U ∧ va_D (fun _ => True) [(mo, .inr (12, mdG r cd tm (nI sn) (nI tx) (nI lz) (nI az) (nI na) (nI nt) (nI nr) mw ml mk dq))])) (va_Qv (S := Unit) (fun u => True) (fun u t => va_P (dC, dI) vcl [(mo, .inr (12, mdG r 1 tm (nI sn) (nI tx) (nI lz) (nI az) (nI na) (nI nt) (nI nr) mw ml mk dq))] t.heap ∧ va_K (dC, dI) vcl (tyL cT) t ∧ va_D (va_A [(mo, .inr (12, mdG r cd tm (nI sn) (nI tx) (nI lz) (nI az) (nI na) (nI nt) (nI nr) mw ml mk dq))] sz) [(mo, .inr (12, mdG r 1 tm (nI sn) (nI tx) (nI lz) (nI az) (nI na) (nI nt) (nI nr) mw ml mk dq))]) (va_A [(mo, .inr (12, mdG r cd tm (nI sn) (nI tx) (nI lz) (nI az) (nI na) (nI nt) (nI nr) mw ml mk dq))] sz)) 0 0 (va_A [(mo, .inr (12, mdG r cd tm (nI sn) (nI tx) (nI lz) (nI az) (nI na) (nI nt) (nI nr) mw ml mk dq))] sz) := by
  refine Met.ofW (cc := b_Md_secret) (maxL := 6) (ret := (Option.none : Option Jvm.ClassFile.FieldType)) (by decide) rfl ?_
  intro p e s m args below meth c s₁ B hml hv
  obtain ⟨hargs, hsz, hP, hK, hD0⟩ := hv
  have hx := B.exec
  have hb := B.bytes
  have hr := B.returns
  have hts := atoms_spec (ws := (Cond.code y_Md_secret b_Md_secret 6 (Option.none : Option Jvm.ClassFile.FieldType) :: BIG)) B.pre
  have hg : ∀ w ∈ BIG, w.before _ s = true := fun w h => hts w (List.mem_cons_of_mem _ h)
  have hown : s.vm.findClass "DoorServerModel" = some m.cls := findClass_of_methodNamed B.named
  have hlocks := B.notSynchronized
  subst hsz
  have hD := hD0.self (sz := s.heap.size)
  generalize hAe : va_A [(mo, .inr (12, mdG r cd tm (nI sn) (nI tx) (nI lz) (nI az) (nI na) (nI nt) (nI nr) mw ml mk dq))] s.heap.size = A at hD ⊢
  have hA : ∀ q : Nat, s.heap.size ≤ q → A q := fun q h => by rw [← hAe]; exact Or.inr h
  have hS : va_S A s.heap s.heap [] := va_S.rf
  have hl := lv_entry ([.ref mo, .int x, .long v, .int y]) (n := 6) (Nat.le_of_ble_eq_true rfl)
  refine W.eq (g2 := entryFrame m (List.toArray [.ref mo, .int x, .long v, .int y]) 6) (by rw [hargs]) ?_
  rw [lg_entry_eq]
  generalize (lg_sl ([.ref mo, .int x, .long v, .int y]) ++ List.replicate (6 - (lg_sl ([.ref mo, .int x, .long v, .int y])).length) Slot.unset).toArray = ls at hl ⊢
  have hl : lv_has ls 6 [(0, .ref mo), (1, .int x), (2, .long v), (4, .int y)] := hl
  change W p l e ({ frames := 1, cells := 0, slots := 0, locals := 21 } : Room) s m args below meth c s.heap [] 0 0 _ _
  have hP : va_P (dC, dI) vcl [(mo, .inr (12, mdG r cd tm (nI sn) (nI tx) (nI lz) (nI az) (nI na) (nI nt) (nI nr) mw ml mk dq))] s.heap := hP
  refine lv_aload_n hx hb d_Md_secret_0 rfl (lv_at hl 0 rfl) ?_
  refine lv_iload_n hx hb d_Md_secret_1 rfl (lv_at hl 1 rfl) ?_
  refine lv_if_lt (tgt := 27) hx hb d_Md_secret_2 (by decide) (fun hc1 => ?_) (fun hc1 => ?_)
  · skip
    refine lv_iconst (v := 0) hx hb d_Md_secret_27 (by decide) ?_
    have hPc := hP.sub (ws' := [(mo, .inr (12, mdG r cd tm (nI sn) (nI tx) (nI lz) (nI az) (nI na) (nI nt) (nI nr) mw ml mk dq))]) [0] rfl
    have hDc := hD.sub (ws' := [(mo, .inr (12, mdG r cd tm (nI sn) (nI tx) (nI lz) (nI az) (nI na) (nI nt) (nI nr) mw ml mk dq))]) [0] (by decide) rfl
    have hFc := va_free (wc := [(mo, .inr (12, mdG r cd tm (nI sn) (nI tx) (nI lz) (nI az) (nI na) (nI nt) (nI nr) mw ml mk dq))]) hD hS hA [0] rfl
    refine va_calli (va_runV (C := "DoorServerModel") (As := [.int 0]) (rest := []) ⟨hx, hb, hml, hown, hg⟩ (m_goes0 l dC dI cT s.heap.size mo r cd tm sn tx lz az na nt nr mw ml mk dq ) (cwV 1 hg (gI (List.forall_mem_append.mpr ⟨List.forall_mem_cons.mpr ⟨k_1165, List.forall_mem_cons.mpr ⟨k_1167, List.forall_mem_cons.mpr ⟨(big_sel (q := y_Md_goes) (n := 45) (by decide +kernel)), List.forall_mem_cons.mpr ⟨k_13, fun _ h => absurd h List.not_mem_nil⟩⟩⟩⟩, List.forall_mem_cons.mpr ⟨k_1168, fun _ h => h⟩⟩)) rfl rfl rfl (by decide +kernel) ⟨Nat.le_of_ble_eq_true rfl, Nat.le_of_ble_eq_true rfl⟩) ⟨fun a U g mk q => by obtain ⟨q0, q1, qP, qK, qD⟩ := q; exact ⟨q0, q1, qP, va_K.moved (u := U) (U := U.calling g mk a) (Vm.Alike.refl U.vm) qK, qD⟩, va_recv (q0 := 0) (ci := 12) hK hP rfl rfl, fun U hU hW => ⟨rfl, by rw [hU], by rw [hU]; exact hPc, va_K.moved hW.alike hK, hDc.weaken (fun _ _ _ _ => trivial)⟩⟩ rfl rfl hl.1 rfl (lv_room (Nat.le_of_ble_eq_true rfl)) d_Md_secret_28 ⟨Nat.le_of_ble_eq_true rfl, Nat.le_of_ble_eq_true rfl⟩) hS (fun q _ h => hFc q h) hFc (fun rv9 u t H1 locs ht hvm hw hB hz1 hk1 hS => ?_)
    try dsimp only at hw hB
    obtain ⟨hP1, hK1, hD1⟩ := hB
    rw [ht] at hP1
    obtain ⟨rfl, hw⟩ := hw
    obtain ⟨hP, hD⟩ := va_join (wr := []) (w1 := [(mo, .inr (12, mdG r 1 tm (nI sn) (nI tx) (nI lz) (nI az) (nI na) (nI nt) (nI nr) mw ml mk dq))]) hP hD [0] [] rfl rfl (by decide) (by decide) hk1 hFc hP1 hD1
    have hw2 := hw
    clear hPc hDc hFc hz1 hk1 hP1 hK1 hD1
    generalize H1 = H at hP hS ⊢
    have hP : va_P (dC, dI) vcl [(mo, .inr (12, mdG r 1 tm (nI sn) (nI tx) (nI lz) (nI az) (nI na) (nI nt) (nI nr) mw ml mk dq))] H := hP
    have hD : va_D A [(mo, .inr (12, mdG r 1 tm (nI sn) (nI tx) (nI lz) (nI az) (nI na) (nI nt) (nI nr) mw ml mk dq))] := hD
    refine lv_if_eq (tgt := 76) hx hb d_Md_secret_31 (by decide) (fun hc3 => ?_) (fun hn9 => absurd (by decide) hn9)
    have hP9 := hP.sub (ws' := [(mo, .inr (12, mdG r 1 tm (nI sn) (nI tx) (nI lz) (nI az) (nI na) (nI nt) (nI nr) mw ml mk dq))]) [0] rfl
    have hD9 := hD.sub (ws' := [(mo, .inr (12, mdG r 1 tm (nI sn) (nI tx) (nI lz) (nI az) (nI na) (nI nt) (nI nr) mw ml mk dq))]) [0] (by decide) rfl
    exact W.vret hx hb hr (fun t ht hW => ⟨⟨(), rfl, trivial, by rw [ht]; exact hP9, va_K.moved hW.alike hK, hD9⟩, hS.F ht⟩) hS.2.2 d_Md_secret_76
  · skip
    refine lv_iload_n hx hb d_Md_secret_5 rfl (lv_at hl 1 rfl) ?_
    refine lv_iconst (v := 4) hx hb d_Md_secret_6 (by decide) ?_
    refine lv_icmp_ge (tgt := 27) hx hb d_Md_secret_7 (by decide) (fun hc4 => ?_) (fun hn9 => absurd ((lt_le1 (by decide)).mp (hbad.resolve_left hc1)) hn9)
    refine lv_iconst (v := 0) hx hb d_Md_secret_27 (by decide) ?_
    have hPc := hP.sub (ws' := [(mo, .inr (12, mdG r cd tm (nI sn) (nI tx) (nI lz) (nI az) (nI na) (nI nt) (nI nr) mw ml mk dq))]) [0] rfl
    have hDc := hD.sub (ws' := [(mo, .inr (12, mdG r cd tm (nI sn) (nI tx) (nI lz) (nI az) (nI na) (nI nt) (nI nr) mw ml mk dq))]) [0] (by decide) rfl
    have hFc := va_free (wc := [(mo, .inr (12, mdG r cd tm (nI sn) (nI tx) (nI lz) (nI az) (nI na) (nI nt) (nI nr) mw ml mk dq))]) hD hS hA [0] rfl
    refine va_calli (va_runV (C := "DoorServerModel") (As := [.int 0]) (rest := []) ⟨hx, hb, hml, hown, hg⟩ (m_goes0 l dC dI cT s.heap.size mo r cd tm sn tx lz az na nt nr mw ml mk dq ) (cwV 1 hg (gI (List.forall_mem_append.mpr ⟨List.forall_mem_cons.mpr ⟨k_1165, List.forall_mem_cons.mpr ⟨k_1167, List.forall_mem_cons.mpr ⟨(big_sel (q := y_Md_goes) (n := 45) (by decide +kernel)), List.forall_mem_cons.mpr ⟨k_13, fun _ h => absurd h List.not_mem_nil⟩⟩⟩⟩, List.forall_mem_cons.mpr ⟨k_1168, fun _ h => h⟩⟩)) rfl rfl rfl (by decide +kernel) ⟨Nat.le_of_ble_eq_true rfl, Nat.le_of_ble_eq_true rfl⟩) ⟨fun a U g mk q => by obtain ⟨q0, q1, qP, qK, qD⟩ := q; exact ⟨q0, q1, qP, va_K.moved (u := U) (U := U.calling g mk a) (Vm.Alike.refl U.vm) qK, qD⟩, va_recv (q0 := 0) (ci := 12) hK hP rfl rfl, fun U hU hW => ⟨rfl, by rw [hU], by rw [hU]; exact hPc, va_K.moved hW.alike hK, hDc.weaken (fun _ _ _ _ => trivial)⟩⟩ rfl rfl hl.1 rfl (lv_room (Nat.le_of_ble_eq_true rfl)) d_Md_secret_28 ⟨Nat.le_of_ble_eq_true rfl, Nat.le_of_ble_eq_true rfl⟩) hS (fun q _ h => hFc q h) hFc (fun rv9 u t H1 locs ht hvm hw hB hz1 hk1 hS => ?_)
    try dsimp only at hw hB
    obtain ⟨hP1, hK1, hD1⟩ := hB
    rw [ht] at hP1
    obtain ⟨rfl, hw⟩ := hw
    obtain ⟨hP, hD⟩ := va_join (wr := []) (w1 := [(mo, .inr (12, mdG r 1 tm (nI sn) (nI tx) (nI lz) (nI az) (nI na) (nI nt) (nI nr) mw ml mk dq))]) hP hD [0] [] rfl rfl (by decide) (by decide) hk1 hFc hP1 hD1
    have hw5 := hw
    clear hPc hDc hFc hz1 hk1 hP1 hK1 hD1
    generalize H1 = H at hP hS ⊢
    have hP : va_P (dC, dI) vcl [(mo, .inr (12, mdG r 1 tm (nI sn) (nI tx) (nI lz) (nI az) (nI na) (nI nt) (nI nr) mw ml mk dq))] H := hP
    have hD : va_D A [(mo, .inr (12, mdG r 1 tm (nI sn) (nI tx) (nI lz) (nI az) (nI na) (nI nt) (nI nr) mw ml mk dq))] := hD
    refine lv_if_eq (tgt := 76) hx hb d_Md_secret_31 (by decide) (fun hc6 => ?_) (fun hn9 => absurd (by decide) hn9)
    have hP9 := hP.sub (ws' := [(mo, .inr (12, mdG r 1 tm (nI sn) (nI tx) (nI lz) (nI az) (nI na) (nI nt) (nI nr) mw ml mk dq))]) [0] rfl
    have hD9 := hD.sub (ws' := [(mo, .inr (12, mdG r 1 tm (nI sn) (nI tx) (nI lz) (nI az) (nI na) (nI nt) (nI nr) mw ml mk dq))]) [0] (by decide) rfl
    exact W.vret hx hb hr (fun t ht hW => ⟨⟨(), rfl, trivial, by rw [ht]; exact hP9, va_K.moved hW.alike hK, hD9⟩, hS.F ht⟩) hS.2.2 d_Md_secret_76
set_option maxHeartbeats 4000000 in
set_option maxRecDepth 100000 in
/-- secret: illegal argument -/
theorem b_secret2 (l : Launch) (dC : Nat → ClassId) (dI : Nat → Nat → Nat) (cT : Nat → ClassId) (sz : Nat) (mo : Nat) (r : Nat → Nat) (cd : Int32) (tm : Int32) (sn : Nat) (tx : Nat) (lz : Nat) (az : Nat) (na : Nat) (nt : Nat) (nr : Nat) (mw : Int32) (ml : Int32) (mk : Int64) (dq : Int64) (x : Int32) (v : Int64) (y : Int32) (hx1 : ¬ x < 0) (hx2 : ¬ 3 < x) (hbad : y < 1 ∨ 40 < y) : Met l y_Md_secret (Cond.code y_Md_secret b_Md_secret 6 (Option.none : Option Jvm.ClassFile.FieldType) :: BIG) ({ frames := 1, cells := 0, slots := 0, locals := 21 }) (va_Pc [.ref mo, .int x, .long v, .int y] (fun U => U.heap.size = sz ∧ va_P (dC, dI) vcl [(mo, .inr (12, mdG r cd tm (nI sn) (nI tx) (nI lz) (nI az) (nI na) (nI nt) (nI nr) mw ml mk dq))] U.heap ∧ va_K (dC, dI) vcl (tyL cT) U ∧ va_D (fun _ => True) [(mo, .inr (12, mdG r cd tm (nI sn) (nI tx) (nI lz) (nI az) (nI na) (nI nt) (nI nr) mw ml mk dq))])) (va_Qv (S := Unit) (fun u => True) (fun u t => va_P (dC, dI) vcl [(mo, .inr (12, mdG r 1 tm (nI sn) (nI tx) (nI lz) (nI az) (nI na) (nI nt) (nI nr) mw ml mk dq))] t.heap ∧ va_K (dC, dI) vcl (tyL cT) t ∧ va_D (va_A [(mo, .inr (12, mdG r cd tm (nI sn) (nI tx) (nI lz) (nI az) (nI na) (nI nt) (nI nr) mw ml mk dq))] sz) [(mo, .inr (12, mdG r 1 tm (nI sn) (nI tx) (nI lz) (nI az) (nI na) (nI nt) (nI nr) mw ml mk dq))]) (va_A [(mo, .inr (12, mdG r cd tm (nI sn) (nI tx) (nI lz) (nI az) (nI na) (nI nt) (nI nr) mw ml mk dq))] sz)) 0 0 (va_A [(mo, .inr (12, mdG r cd tm (nI sn) (nI tx) (nI lz) (nI az) (nI na) (nI nt) (nI nr) mw ml mk dq))] sz) := by
  refine Met.ofW (cc := b_Md_secret) (maxL := 6) (ret := (Option.none : Option Jvm.ClassFile.FieldType)) (by decide) rfl ?_
  intro p e s m args below meth c s₁ B hml hv
  obtain ⟨hargs, hsz, hP, hK, hD0⟩ := hv
  have hx := B.exec
  have hb := B.bytes
  have hr := B.returns
  have hts := atoms_spec (ws := (Cond.code y_Md_secret b_Md_secret 6 (Option.none : Option Jvm.ClassFile.FieldType) :: BIG)) B.pre
  have hg : ∀ w ∈ BIG, w.before _ s = true := fun w h => hts w (List.mem_cons_of_mem _ h)
  have hown : s.vm.findClass "DoorServerModel" = some m.cls := findClass_of_methodNamed B.named
  have hlocks := B.notSynchronized
  subst hsz
  have hD := hD0.self (sz := s.heap.size)
  generalize hAe : va_A [(mo, .inr (12, mdG r cd tm (nI sn) (nI tx) (nI lz) (nI az) (nI na) (nI nt) (nI nr) mw ml mk dq))] s.heap.size = A at hD ⊢
  have hA : ∀ q : Nat, s.heap.size ≤ q → A q := fun q h => by rw [← hAe]; exact Or.inr h
  have hS : va_S A s.heap s.heap [] := va_S.rf
  have hl := lv_entry ([.ref mo, .int x, .long v, .int y]) (n := 6) (Nat.le_of_ble_eq_true rfl)
  refine W.eq (g2 := entryFrame m (List.toArray [.ref mo, .int x, .long v, .int y]) 6) (by rw [hargs]) ?_
  rw [lg_entry_eq]
  generalize (lg_sl ([.ref mo, .int x, .long v, .int y]) ++ List.replicate (6 - (lg_sl ([.ref mo, .int x, .long v, .int y])).length) Slot.unset).toArray = ls at hl ⊢
  have hl : lv_has ls 6 [(0, .ref mo), (1, .int x), (2, .long v), (4, .int y)] := hl
  change W p l e ({ frames := 1, cells := 0, slots := 0, locals := 21 } : Room) s m args below meth c s.heap [] 0 0 _ _
  have hP : va_P (dC, dI) vcl [(mo, .inr (12, mdG r cd tm (nI sn) (nI tx) (nI lz) (nI az) (nI na) (nI nt) (nI nr) mw ml mk dq))] s.heap := hP
  refine lv_aload_n hx hb d_Md_secret_0 rfl (lv_at hl 0 rfl) ?_
  refine lv_iload_n hx hb d_Md_secret_1 rfl (lv_at hl 1 rfl) ?_
  refine lv_if_lt (tgt := 27) hx hb d_Md_secret_2 (by decide) (fun hn9 => absurd hn9 (hx1)) (fun hc7 => ?_)
  refine lv_iload_n hx hb d_Md_secret_5 rfl (lv_at hl 1 rfl) ?_
  refine lv_iconst (v := 4) hx hb d_Md_secret_6 (by decide) ?_
  refine lv_icmp_ge (tgt := 27) hx hb d_Md_secret_7 (by decide) (fun hn9 => absurd hn9 (fun h9 => hx2 ((lt_le1 (by decide)).mpr h9))) (fun hc8 => ?_)
  refine lv_iload hx hb d_Md_secret_10 (lv_at hl 3 rfl) ?_
  refine lv_iconst (v := 1) hx hb d_Md_secret_12 (by decide) ?_
  refine lv_icmp_lt (tgt := 27) hx hb d_Md_secret_13 (by decide) (fun hc9 => ?_) (fun hc9 => ?_)
  · skip
    refine lv_iconst (v := 0) hx hb d_Md_secret_27 (by decide) ?_
    have hPc := hP.sub (ws' := [(mo, .inr (12, mdG r cd tm (nI sn) (nI tx) (nI lz) (nI az) (nI na) (nI nt) (nI nr) mw ml mk dq))]) [0] rfl
    have hDc := hD.sub (ws' := [(mo, .inr (12, mdG r cd tm (nI sn) (nI tx) (nI lz) (nI az) (nI na) (nI nt) (nI nr) mw ml mk dq))]) [0] (by decide) rfl
    have hFc := va_free (wc := [(mo, .inr (12, mdG r cd tm (nI sn) (nI tx) (nI lz) (nI az) (nI na) (nI nt) (nI nr) mw ml mk dq))]) hD hS hA [0] rfl
    refine va_calli (va_runV (C := "DoorServerModel") (As := [.int 0]) (rest := []) ⟨hx, hb, hml, hown, hg⟩ (m_goes0 l dC dI cT s.heap.size mo r cd tm sn tx lz az na nt nr mw ml mk dq ) (cwV 1 hg (gI (List.forall_mem_append.mpr ⟨List.forall_mem_cons.mpr ⟨k_1165, List.forall_mem_cons.mpr ⟨k_1167, List.forall_mem_cons.mpr ⟨(big_sel (q := y_Md_goes) (n := 45) (by decide +kernel)), List.forall_mem_cons.mpr ⟨k_13, fun _ h => absurd h List.not_mem_nil⟩⟩⟩⟩, List.forall_mem_cons.mpr ⟨k_1168, fun _ h => h⟩⟩)) rfl rfl rfl (by decide +kernel) ⟨Nat.le_of_ble_eq_true rfl, Nat.le_of_ble_eq_true rfl⟩) ⟨fun a U g mk q => by obtain ⟨q0, q1, qP, qK, qD⟩ := q; exact ⟨q0, q1, qP, va_K.moved (u := U) (U := U.calling g mk a) (Vm.Alike.refl U.vm) qK, qD⟩, va_recv (q0 := 0) (ci := 12) hK hP rfl rfl, fun U hU hW => ⟨rfl, by rw [hU], by rw [hU]; exact hPc, va_K.moved hW.alike hK, hDc.weaken (fun _ _ _ _ => trivial)⟩⟩ rfl rfl hl.1 rfl (lv_room (Nat.le_of_ble_eq_true rfl)) d_Md_secret_28 ⟨Nat.le_of_ble_eq_true rfl, Nat.le_of_ble_eq_true rfl⟩) hS (fun q _ h => hFc q h) hFc (fun rv9 u t H1 locs ht hvm hw hB hz1 hk1 hS => ?_)
    try dsimp only at hw hB
    obtain ⟨hP1, hK1, hD1⟩ := hB
    rw [ht] at hP1
    obtain ⟨rfl, hw⟩ := hw
    obtain ⟨hP, hD⟩ := va_join (wr := []) (w1 := [(mo, .inr (12, mdG r 1 tm (nI sn) (nI tx) (nI lz) (nI az) (nI na) (nI nt) (nI nr) mw ml mk dq))]) hP hD [0] [] rfl rfl (by decide) (by decide) hk1 hFc hP1 hD1
    have hw10 := hw
    clear hPc hDc hFc hz1 hk1 hP1 hK1 hD1
    generalize H1 = H at hP hS ⊢
    have hP : va_P (dC, dI) vcl [(mo, .inr (12, mdG r 1 tm (nI sn) (nI tx) (nI lz) (nI az) (nI na) (nI nt) (nI nr) mw ml mk dq))] H := hP
    have hD : va_D A [(mo, .inr (12, mdG r 1 tm (nI sn) (nI tx) (nI lz) (nI az) (nI na) (nI nt) (nI nr) mw ml mk dq))] := hD
    refine lv_if_eq (tgt := 76) hx hb d_Md_secret_31 (by decide) (fun hc11 => ?_) (fun hn9 => absurd (by decide) hn9)
    have hP9 := hP.sub (ws' := [(mo, .inr (12, mdG r 1 tm (nI sn) (nI tx) (nI lz) (nI az) (nI na) (nI nt) (nI nr) mw ml mk dq))]) [0] rfl
    have hD9 := hD.sub (ws' := [(mo, .inr (12, mdG r 1 tm (nI sn) (nI tx) (nI lz) (nI az) (nI na) (nI nt) (nI nr) mw ml mk dq))]) [0] (by decide) rfl
    exact W.vret hx hb hr (fun t ht hW => ⟨⟨(), rfl, trivial, by rw [ht]; exact hP9, va_K.moved hW.alike hK, hD9⟩, hS.F ht⟩) hS.2.2 d_Md_secret_76
  · skip
    refine lv_iload hx hb d_Md_secret_16 (lv_at hl 3 rfl) ?_
    refine lv_bipush (v := 40) hx hb d_Md_secret_18 (by decide) ?_
    refine lv_icmp_gt (tgt := 27) hx hb d_Md_secret_20 (by decide) (fun hc12 => ?_) (fun hn9 => absurd (hbad.resolve_left hc9) hn9)
    refine lv_iconst (v := 0) hx hb d_Md_secret_27 (by decide) ?_
    have hPc := hP.sub (ws' := [(mo, .inr (12, mdG r cd tm (nI sn) (nI tx) (nI lz) (nI az) (nI na) (nI nt) (nI nr) mw ml mk dq))]) [0] rfl
    have hDc := hD.sub (ws' := [(mo, .inr (12, mdG r cd tm (nI sn) (nI tx) (nI lz) (nI az) (nI na) (nI nt) (nI nr) mw ml mk dq))]) [0] (by decide) rfl
    have hFc := va_free (wc := [(mo, .inr (12, mdG r cd tm (nI sn) (nI tx) (nI lz) (nI az) (nI na) (nI nt) (nI nr) mw ml mk dq))]) hD hS hA [0] rfl
    refine va_calli (va_runV (C := "DoorServerModel") (As := [.int 0]) (rest := []) ⟨hx, hb, hml, hown, hg⟩ (m_goes0 l dC dI cT s.heap.size mo r cd tm sn tx lz az na nt nr mw ml mk dq ) (cwV 1 hg (gI (List.forall_mem_append.mpr ⟨List.forall_mem_cons.mpr ⟨k_1165, List.forall_mem_cons.mpr ⟨k_1167, List.forall_mem_cons.mpr ⟨(big_sel (q := y_Md_goes) (n := 45) (by decide +kernel)), List.forall_mem_cons.mpr ⟨k_13, fun _ h => absurd h List.not_mem_nil⟩⟩⟩⟩, List.forall_mem_cons.mpr ⟨k_1168, fun _ h => h⟩⟩)) rfl rfl rfl (by decide +kernel) ⟨Nat.le_of_ble_eq_true rfl, Nat.le_of_ble_eq_true rfl⟩) ⟨fun a U g mk q => by obtain ⟨q0, q1, qP, qK, qD⟩ := q; exact ⟨q0, q1, qP, va_K.moved (u := U) (U := U.calling g mk a) (Vm.Alike.refl U.vm) qK, qD⟩, va_recv (q0 := 0) (ci := 12) hK hP rfl rfl, fun U hU hW => ⟨rfl, by rw [hU], by rw [hU]; exact hPc, va_K.moved hW.alike hK, hDc.weaken (fun _ _ _ _ => trivial)⟩⟩ rfl rfl hl.1 rfl (lv_room (Nat.le_of_ble_eq_true rfl)) d_Md_secret_28 ⟨Nat.le_of_ble_eq_true rfl, Nat.le_of_ble_eq_true rfl⟩) hS (fun q _ h => hFc q h) hFc (fun rv9 u t H1 locs ht hvm hw hB hz1 hk1 hS => ?_)
    try dsimp only at hw hB
    obtain ⟨hP1, hK1, hD1⟩ := hB
    rw [ht] at hP1
    obtain ⟨rfl, hw⟩ := hw
    obtain ⟨hP, hD⟩ := va_join (wr := []) (w1 := [(mo, .inr (12, mdG r 1 tm (nI sn) (nI tx) (nI lz) (nI az) (nI na) (nI nt) (nI nr) mw ml mk dq))]) hP hD [0] [] rfl rfl (by decide) (by decide) hk1 hFc hP1 hD1
    have hw13 := hw
    clear hPc hDc hFc hz1 hk1 hP1 hK1 hD1
    generalize H1 = H at hP hS ⊢
    have hP : va_P (dC, dI) vcl [(mo, .inr (12, mdG r 1 tm (nI sn) (nI tx) (nI lz) (nI az) (nI na) (nI nt) (nI nr) mw ml mk dq))] H := hP
    have hD : va_D A [(mo, .inr (12, mdG r 1 tm (nI sn) (nI tx) (nI lz) (nI az) (nI na) (nI nt) (nI nr) mw ml mk dq))] := hD
    refine lv_if_eq (tgt := 76) hx hb d_Md_secret_31 (by decide) (fun hc14 => ?_) (fun hn9 => absurd (by decide) hn9)
    have hP9 := hP.sub (ws' := [(mo, .inr (12, mdG r 1 tm (nI sn) (nI tx) (nI lz) (nI az) (nI na) (nI nt) (nI nr) mw ml mk dq))]) [0] rfl
    have hD9 := hD.sub (ws' := [(mo, .inr (12, mdG r 1 tm (nI sn) (nI tx) (nI lz) (nI az) (nI na) (nI nt) (nI nr) mw ml mk dq))]) [0] (by decide) rfl
    exact W.vret hx hb hr (fun t ht hW => ⟨⟨(), rfl, trivial, by rw [ht]; exact hP9, va_K.moved hW.alike hK, hD9⟩, hS.F ht⟩) hS.2.2 d_Md_secret_76
set_option maxHeartbeats 4000000 in
set_option maxRecDepth 100000 in
/-- user: illegal argument -/
theorem b_user1 (l : Launch) (dC : Nat → ClassId) (dI : Nat → Nat → Nat) (cT : Nat → ClassId) (sz : Nat) (mo : Nat) (r : Nat → Nat) (cd : Int32) (tm : Int32) (sn : Nat) (tx : Nat) (lz : Nat) (az : Nat) (na : Nat) (nt : Nat) (nr : Nat) (mw : Int32) (ml : Int32) (mk : Int64) (dq : Int64) (x : Int32) (v : Int64) (y : Int32) (hbad : x < 0 ∨ 31 < x) : Met l y_Md_user (Cond.code y_Md_user b_Md_user 7 (Option.some Jvm.ClassFile.FieldType.boolean) :: BIG) ({ frames := 1, cells := 0, slots := 0, locals := 21 }) (va_Pc [.ref mo, .int x, .long v, .int y] (fun U => U.heap.size = sz ∧ va_P (dC, dI) vcl [(mo, .inr (12, mdG r cd tm (nI sn) (nI tx) (nI lz) (nI az) (nI na) (nI nt) (nI nr) mw ml mk dq))] U.heap ∧ va_K (dC, dI) vcl (tyL cT) U ∧ va_D (fun _ => True) [(mo, .inr (12, mdG r cd tm (nI sn) (nI tx) (nI lz) (nI az) (nI na) (nI nt) (nI nr) mw ml mk dq))])) (va_Qi (S := Unit) (fun rv9 u => True) (fun u t => va_P (dC, dI) vcl [(mo, .inr (12, mdG r 1 tm (nI sn) (nI tx) (nI lz) (nI az) (nI na) (nI nt) (nI nr) mw ml mk dq))] t.heap ∧ va_K (dC, dI) vcl (tyL cT) t ∧ va_D (va_A [(mo, .inr (12, mdG r cd tm (nI sn) (nI tx) (nI lz) (nI az) (nI na) (nI nt) (nI nr) mw ml mk dq))] sz) [(mo, .inr (12, mdG r 1 tm (nI sn) (nI tx) (nI lz) (nI az) (nI na) (nI nt) (nI nr) mw ml mk dq))]) (va_A [(mo, .inr (12, mdG r cd tm (nI sn) (nI tx) (nI lz) (nI az) (nI na) (nI nt) (nI nr) mw ml mk dq))] sz)) 0 0 (va_A [(mo, .inr (12, mdG r cd tm (nI sn) (nI tx) (nI lz) (nI az) (nI na) (nI nt) (nI nr) mw ml mk dq))] sz) := by
  refine Met.ofW (cc := b_Md_user) (maxL := 7) (ret := (Option.some Jvm.ClassFile.FieldType.boolean)) (by decide) rfl ?_
  intro p e s m args below meth c s₁ B hml hv
  obtain ⟨hargs, hsz, hP, hK, hD0⟩ := hv
  have hx := B.exec
  have hb := B.bytes
  have hr := B.returns
  have hts := atoms_spec (ws := (Cond.code y_Md_user b_Md_user 7 (Option.some Jvm.ClassFile.FieldType.boolean) :: BIG)) B.pre
  have hg : ∀ w ∈ BIG, w.before _ s = true := fun w h => hts w (List.mem_cons_of_mem _ h)
  have hown : s.vm.findClass "DoorServerModel" = some m.cls := findClass_of_methodNamed B.named
  have hlocks := B.notSynchronized
  subst hsz
  have hD := hD0.self (sz := s.heap.size)
  generalize hAe : va_A [(mo, .inr (12, mdG r cd tm (nI sn) (nI tx) (nI lz) (nI az) (nI na) (nI nt) (nI nr) mw ml mk dq))] s.heap.size = A at hD ⊢
  have hA : ∀ q : Nat, s.heap.size ≤ q → A q := fun q h => by rw [← hAe]; exact Or.inr h
  have hS : va_S A s.heap s.heap [] := va_S.rf
  have hl := lv_entry ([.ref mo, .int x, .long v, .int y]) (n := 7) (Nat.le_of_ble_eq_true rfl)
  refine W.eq (g2 := entryFrame m (List.toArray [.ref mo, .int x, .long v, .int y]) 7) (by rw [hargs]) ?_
  rw [lg_entry_eq]
  generalize (lg_sl ([.ref mo, .int x, .long v, .int y]) ++ List.replicate (7 - (lg_sl ([.ref mo, .int x, .long v, .int y])).length) Slot.unset).toArray = ls at hl ⊢
  have hl : lv_has ls 7 [(0, .ref mo), (1, .int x), (2, .long v), (4, .int y)] := hl
  change W p l e ({ frames := 1, cells := 0, slots := 0, locals := 21 } : Room) s m args below meth c s.heap [] 0 0 _ _
  have hP : va_P (dC, dI) vcl [(mo, .inr (12, mdG r cd tm (nI sn) (nI tx) (nI lz) (nI az) (nI na) (nI nt) (nI nr) mw ml mk dq))] s.heap := hP
  refine lv_aload_n hx hb d_Md_user_0 rfl (lv_at hl 0 rfl) ?_
  refine lv_iload_n hx hb d_Md_user_1 rfl (lv_at hl 1 rfl) ?_
  refine lv_if_lt (tgt := 28) hx hb d_Md_user_2 (by decide) (fun hc15 => ?_) (fun hc15 => ?_)
  · skip
    refine lv_iconst (v := 0) hx hb d_Md_user_28 (by decide) ?_
    have hPc := hP.sub (ws' := [(mo, .inr (12, mdG r cd tm (nI sn) (nI tx) (nI lz) (nI az) (nI na) (nI nt) (nI nr) mw ml mk dq))]) [0] rfl
    have hDc := hD.sub (ws' := [(mo, .inr (12, mdG r cd tm (nI sn) (nI tx) (nI lz) (nI az) (nI na) (nI nt) (nI nr) mw ml mk dq))]) [0] (by decide) rfl
    have hFc := va_free (wc := [(mo, .inr (12, mdG r cd tm (nI sn) (nI tx) (nI lz) (nI az) (nI na) (nI nt) (nI nr) mw ml mk dq))]) hD hS hA [0] rfl
    refine va_calli (va_runV (C := "DoorServerModel") (As := [.int 0]) (rest := []) ⟨hx, hb, hml, hown, hg⟩ (m_goes0 l dC dI cT s.heap.size mo r cd tm sn tx lz az na nt nr mw ml mk dq ) (cwV 1 hg (gI (List.forall_mem_append.mpr ⟨List.forall_mem_cons.mpr ⟨k_1165, List.forall_mem_cons.mpr ⟨k_1167, List.forall_mem_cons.mpr ⟨(big_sel (q := y_Md_goes) (n := 45) (by decide +kernel)), List.forall_mem_cons.mpr ⟨k_13, fun _ h => absurd h List.not_mem_nil⟩⟩⟩⟩, List.forall_mem_cons.mpr ⟨k_1168, fun _ h => h⟩⟩)) rfl rfl rfl (by decide +kernel) ⟨Nat.le_of_ble_eq_true rfl, Nat.le_of_ble_eq_true rfl⟩) ⟨fun a U g mk q => by obtain ⟨q0, q1, qP, qK, qD⟩ := q; exact ⟨q0, q1, qP, va_K.moved (u := U) (U := U.calling g mk a) (Vm.Alike.refl U.vm) qK, qD⟩, va_recv (q0 := 0) (ci := 12) hK hP rfl rfl, fun U hU hW => ⟨rfl, by rw [hU], by rw [hU]; exact hPc, va_K.moved hW.alike hK, hDc.weaken (fun _ _ _ _ => trivial)⟩⟩ rfl rfl hl.1 rfl (lv_room (Nat.le_of_ble_eq_true rfl)) d_Md_user_29 ⟨Nat.le_of_ble_eq_true rfl, Nat.le_of_ble_eq_true rfl⟩) hS (fun q _ h => hFc q h) hFc (fun rv9 u t H1 locs ht hvm hw hB hz1 hk1 hS => ?_)
    try dsimp only at hw hB
    obtain ⟨hP1, hK1, hD1⟩ := hB
    rw [ht] at hP1
    obtain ⟨rfl, hw⟩ := hw
    obtain ⟨hP, hD⟩ := va_join (wr := []) (w1 := [(mo, .inr (12, mdG r 1 tm (nI sn) (nI tx) (nI lz) (nI az) (nI na) (nI nt) (nI nr) mw ml mk dq))]) hP hD [0] [] rfl rfl (by decide) (by decide) hk1 hFc hP1 hD1
    have hw16 := hw
    clear hPc hDc hFc hz1 hk1 hP1 hK1 hD1
    generalize H1 = H at hP hS ⊢
    have hP : va_P (dC, dI) vcl [(mo, .inr (12, mdG r 1 tm (nI sn) (nI tx) (nI lz) (nI az) (nI na) (nI nt) (nI nr) mw ml mk dq))] H := hP
    have hD : va_D A [(mo, .inr (12, mdG r 1 tm (nI sn) (nI tx) (nI lz) (nI az) (nI na) (nI nt) (nI nr) mw ml mk dq))] := hD
    refine lv_if_ne (tgt := 37) hx hb d_Md_user_32 (by decide) (fun hn9 => absurd hn9 (by decide)) (fun hc17 => ?_)
    refine lv_iconst (v := 0) hx hb d_Md_user_35 (by decide) ?_
    have hP9 := hP.sub (ws' := [(mo, .inr (12, mdG r 1 tm (nI sn) (nI tx) (nI lz) (nI az) (nI na) (nI nt) (nI nr) mw ml mk dq))]) [0] rfl
    have hD9 := hD.sub (ws' := [(mo, .inr (12, mdG r 1 tm (nI sn) (nI tx) (nI lz) (nI az) (nI na) (nI nt) (nI nr) mw ml mk dq))]) [0] (by decide) rfl
    exact W.zret (v := 0) hx hb hr (by first | rfl | decide) (fun t ht hW => ⟨⟨_, (), rfl, trivial, by rw [ht]; exact hP9, va_K.moved hW.alike hK, hD9⟩, hS.F ht⟩) hS.2.2 d_Md_user_36
  · skip
    refine lv_iload_n hx hb d_Md_user_5 rfl (lv_at hl 1 rfl) ?_
    refine lv_bipush (v := 32) hx hb d_Md_user_6 (by decide) ?_
    refine lv_icmp_ge (tgt := 28) hx hb d_Md_user_8 (by decide) (fun hc18 => ?_) (fun hn9 => absurd ((lt_le1 (by decide)).mp (hbad.resolve_left hc15)) hn9)
    refine lv_iconst (v := 0) hx hb d_Md_user_28 (by decide) ?_
    have hPc := hP.sub (ws' := [(mo, .inr (12, mdG r cd tm (nI sn) (nI tx) (nI lz) (nI az) (nI na) (nI nt) (nI nr) mw ml mk dq))]) [0] rfl
    have hDc := hD.sub (ws' := [(mo, .inr (12, mdG r cd tm (nI sn) (nI tx) (nI lz) (nI az) (nI na) (nI nt) (nI nr) mw ml mk dq))]) [0] (by decide) rfl
    have hFc := va_free (wc := [(mo, .inr (12, mdG r cd tm (nI sn) (nI tx) (nI lz) (nI az) (nI na) (nI nt) (nI nr) mw ml mk dq))]) hD hS hA [0] rfl
    refine va_calli (va_runV (C := "DoorServerModel") (As := [.int 0]) (rest := []) ⟨hx, hb, hml, hown, hg⟩ (m_goes0 l dC dI cT s.heap.size mo r cd tm sn tx lz az na nt nr mw ml mk dq ) (cwV 1 hg (gI (List.forall_mem_append.mpr ⟨List.forall_mem_cons.mpr ⟨k_1165, List.forall_mem_cons.mpr ⟨k_1167, List.forall_mem_cons.mpr ⟨(big_sel (q := y_Md_goes) (n := 45) (by decide +kernel)), List.forall_mem_cons.mpr ⟨k_13, fun _ h => absurd h List.not_mem_nil⟩⟩⟩⟩, List.forall_mem_cons.mpr ⟨k_1168, fun _ h => h⟩⟩)) rfl rfl rfl (by decide +kernel) ⟨Nat.le_of_ble_eq_true rfl, Nat.le_of_ble_eq_true rfl⟩) ⟨fun a U g mk q => by obtain ⟨q0, q1, qP, qK, qD⟩ := q; exact ⟨q0, q1, qP, va_K.moved (u := U) (U := U.calling g mk a) (Vm.Alike.refl U.vm) qK, qD⟩, va_recv (q0 := 0) (ci := 12) hK hP rfl rfl, fun U hU hW => ⟨rfl, by rw [hU], by rw [hU]; exact hPc, va_K.moved hW.alike hK, hDc.weaken (fun _ _ _ _ => trivial)⟩⟩ rfl rfl hl.1 rfl (lv_room (Nat.le_of_ble_eq_true rfl)) d_Md_user_29 ⟨Nat.le_of_ble_eq_true rfl, Nat.le_of_ble_eq_true rfl⟩) hS (fun q _ h => hFc q h) hFc (fun rv9 u t H1 locs ht hvm hw hB hz1 hk1 hS => ?_)
    try dsimp only at hw hB
    obtain ⟨hP1, hK1, hD1⟩ := hB
    rw [ht] at hP1
    obtain ⟨rfl, hw⟩ := hw
    obtain ⟨hP, hD⟩ := va_join (wr := []) (w1 := [(mo, .inr (12, mdG r 1 tm (nI sn) (nI tx) (nI lz) (nI az) (nI na) (nI nt) (nI nr) mw ml mk dq))]) hP hD [0] [] rfl rfl (by decide) (by decide) hk1 hFc hP1 hD1
    have hw19 := hw
    clear hPc hDc hFc hz1 hk1 hP1 hK1 hD1
    generalize H1 = H at hP hS ⊢
    have hP : va_P (dC, dI) vcl [(mo, .inr (12, mdG r 1 tm (nI sn) (nI tx) (nI lz) (nI az) (nI na) (nI nt) (nI nr) mw ml mk dq))] H := hP
    have hD : va_D A [(mo, .inr (12, mdG r 1 tm (nI sn) (nI tx) (nI lz) (nI az) (nI na) (nI nt) (nI nr) mw ml mk dq))] := hD
    refine lv_if_ne (tgt := 37) hx hb d_Md_user_32 (by decide) (fun hn9 => absurd hn9 (by decide)) (fun hc20 => ?_)
    refine lv_iconst (v := 0) hx hb d_Md_user_35 (by decide) ?_
    have hP9 := hP.sub (ws' := [(mo, .inr (12, mdG r 1 tm (nI sn) (nI tx) (nI lz) (nI az) (nI na) (nI nt) (nI nr) mw ml mk dq))]) [0] rfl
    have hD9 := hD.sub (ws' := [(mo, .inr (12, mdG r 1 tm (nI sn) (nI tx) (nI lz) (nI az) (nI na) (nI nt) (nI nr) mw ml mk dq))]) [0] (by decide) rfl
    exact W.zret (v := 0) hx hb hr (by first | rfl | decide) (fun t ht hW => ⟨⟨_, (), rfl, trivial, by rw [ht]; exact hP9, va_K.moved hW.alike hK, hD9⟩, hS.F ht⟩) hS.2.2 d_Md_user_36
set_option maxHeartbeats 4000000 in
set_option maxRecDepth 100000 in
/-- user: illegal argument -/
theorem b_user2 (l : Launch) (dC : Nat → ClassId) (dI : Nat → Nat → Nat) (cT : Nat → ClassId) (sz : Nat) (mo : Nat) (r : Nat → Nat) (cd : Int32) (tm : Int32) (sn : Nat) (tx : Nat) (lz : Nat) (az : Nat) (na : Nat) (nt : Nat) (nr : Nat) (mw : Int32) (ml : Int32) (mk : Int64) (dq : Int64) (x : Int32) (v : Int64) (y : Int32) (hx1 : ¬ x < 0) (hx2 : ¬ 31 < x) (hbad : y < 1 ∨ 60 < y) : Met l y_Md_user (Cond.code y_Md_user b_Md_user 7 (Option.some Jvm.ClassFile.FieldType.boolean) :: BIG) ({ frames := 1, cells := 0, slots := 0, locals := 21 }) (va_Pc [.ref mo, .int x, .long v, .int y] (fun U => U.heap.size = sz ∧ va_P (dC, dI) vcl [(mo, .inr (12, mdG r cd tm (nI sn) (nI tx) (nI lz) (nI az) (nI na) (nI nt) (nI nr) mw ml mk dq))] U.heap ∧ va_K (dC, dI) vcl (tyL cT) U ∧ va_D (fun _ => True) [(mo, .inr (12, mdG r cd tm (nI sn) (nI tx) (nI lz) (nI az) (nI na) (nI nt) (nI nr) mw ml mk dq))])) (va_Qi (S := Unit) (fun rv9 u => True) (fun u t => va_P (dC, dI) vcl [(mo, .inr (12, mdG r 1 tm (nI sn) (nI tx) (nI lz) (nI az) (nI na) (nI nt) (nI nr) mw ml mk dq))] t.heap ∧ va_K (dC, dI) vcl (tyL cT) t ∧ va_D (va_A [(mo, .inr (12, mdG r cd tm (nI sn) (nI tx) (nI lz) (nI az) (nI na) (nI nt) (nI nr) mw ml mk dq))] sz) [(mo, .inr (12, mdG r 1 tm (nI sn) (nI tx) (nI lz) (nI az) (nI na) (nI nt) (nI nr) mw ml mk dq))]) (va_A [(mo, .inr (12, mdG r cd tm (nI sn) (nI tx) (nI lz) (nI az) (nI na) (nI nt) (nI nr) mw ml mk dq))] sz)) 0 0 (va_A [(mo, .inr (12, mdG r cd tm (nI sn) (nI tx) (nI lz) (nI az) (nI na) (nI nt) (nI nr) mw ml mk dq))] sz) := by
  refine Met.ofW (cc := b_Md_user) (maxL := 7) (ret := (Option.some Jvm.ClassFile.FieldType.boolean)) (by decide) rfl ?_
  intro p e s m args below meth c s₁ B hml hv
  obtain ⟨hargs, hsz, hP, hK, hD0⟩ := hv
  have hx := B.exec
  have hb := B.bytes
  have hr := B.returns
  have hts := atoms_spec (ws := (Cond.code y_Md_user b_Md_user 7 (Option.some Jvm.ClassFile.FieldType.boolean) :: BIG)) B.pre
  have hg : ∀ w ∈ BIG, w.before _ s = true := fun w h => hts w (List.mem_cons_of_mem _ h)
  have hown : s.vm.findClass "DoorServerModel" = some m.cls := findClass_of_methodNamed B.named
  have hlocks := B.notSynchronized
  subst hsz
  have hD := hD0.self (sz := s.heap.size)
  generalize hAe : va_A [(mo, .inr (12, mdG r cd tm (nI sn) (nI tx) (nI lz) (nI az) (nI na) (nI nt) (nI nr) mw ml mk dq))] s.heap.size = A at hD ⊢
  have hA : ∀ q : Nat, s.heap.size ≤ q → A q := fun q h => by rw [← hAe]; exact Or.inr h
  have hS : va_S A s.heap s.heap [] := va_S.rf
  have hl := lv_entry ([.ref mo, .int x, .long v, .int y]) (n := 7) (Nat.le_of_ble_eq_true rfl)
  refine W.eq (g2 := entryFrame m (List.toArray [.ref mo, .int x, .long v, .int y]) 7) (by rw [hargs]) ?_
  rw [lg_entry_eq]
  generalize (lg_sl ([.ref mo, .int x, .long v, .int y]) ++ List.replicate (7 - (lg_sl ([.ref mo, .int x, .long v, .int y])).length) Slot.unset).toArray = ls at hl ⊢
  have hl : lv_has ls 7 [(0, .ref mo), (1, .int x), (2, .long v), (4, .int y)] := hl
  change W p l e ({ frames := 1, cells := 0, slots := 0, locals := 21 } : Room) s m args below meth c s.heap [] 0 0 _ _
  have hP : va_P (dC, dI) vcl [(mo, .inr (12, mdG r cd tm (nI sn) (nI tx) (nI lz) (nI az) (nI na) (nI nt) (nI nr) mw ml mk dq))] s.heap := hP
  refine lv_aload_n hx hb d_Md_user_0 rfl (lv_at hl 0 rfl) ?_
  refine lv_iload_n hx hb d_Md_user_1 rfl (lv_at hl 1 rfl) ?_
  refine lv_if_lt (tgt := 28) hx hb d_Md_user_2 (by decide) (fun hn9 => absurd hn9 (hx1)) (fun hc21 => ?_)
  refine lv_iload_n hx hb d_Md_user_5 rfl (lv_at hl 1 rfl) ?_
  refine lv_bipush (v := 32) hx hb d_Md_user_6 (by decide) ?_
  refine lv_icmp_ge (tgt := 28) hx hb d_Md_user_8 (by decide) (fun hn9 => absurd hn9 (fun h9 => hx2 ((lt_le1 (by decide)).mpr h9))) (fun hc22 => ?_)
  refine lv_iload hx hb d_Md_user_11 (lv_at hl 3 rfl) ?_
  refine lv_iconst (v := 1) hx hb d_Md_user_13 (by decide) ?_
  refine lv_icmp_lt (tgt := 28) hx hb d_Md_user_14 (by decide) (fun hc23 => ?_) (fun hc23 => ?_)
  · skip
    refine lv_iconst (v := 0) hx hb d_Md_user_28 (by decide) ?_
    have hPc := hP.sub (ws' := [(mo, .inr (12, mdG r cd tm (nI sn) (nI tx) (nI lz) (nI az) (nI na) (nI nt) (nI nr) mw ml mk dq))]) [0] rfl
    have hDc := hD.sub (ws' := [(mo, .inr (12, mdG r cd tm (nI sn) (nI tx) (nI lz) (nI az) (nI na) (nI nt) (nI nr) mw ml mk dq))]) [0] (by decide) rfl
    have hFc := va_free (wc := [(mo, .inr (12, mdG r cd tm (nI sn) (nI tx) (nI lz) (nI az) (nI na) (nI nt) (nI nr) mw ml mk dq))]) hD hS hA [0] rfl
    refine va_calli (va_runV (C := "DoorServerModel") (As := [.int 0]) (rest := []) ⟨hx, hb, hml, hown, hg⟩ (m_goes0 l dC dI cT s.heap.size mo r cd tm sn tx lz az na nt nr mw ml mk dq ) (cwV 1 hg (gI (List.forall_mem_append.mpr ⟨List.forall_mem_cons.mpr ⟨k_1165, List.forall_mem_cons.mpr ⟨k_1167, List.forall_mem_cons.mpr ⟨(big_sel (q := y_Md_goes) (n := 45) (by decide +kernel)), List.forall_mem_cons.mpr ⟨k_13, fun _ h => absurd h List.not_mem_nil⟩⟩⟩⟩, List.forall_mem_cons.mpr ⟨k_1168, fun _ h => h⟩⟩)) rfl rfl rfl (by decide +kernel) ⟨Nat.le_of_ble_eq_true rfl, Nat.le_of_ble_eq_true rfl⟩) ⟨fun a U g mk q => by obtain ⟨q0, q1, qP, qK, qD⟩ := q; exact ⟨q0, q1, qP, va_K.moved (u := U) (U := U.calling g mk a) (Vm.Alike.refl U.vm) qK, qD⟩, va_recv (q0 := 0) (ci := 12) hK hP rfl rfl, fun U hU hW => ⟨rfl, by rw [hU], by rw [hU]; exact hPc, va_K.moved hW.alike hK, hDc.weaken (fun _ _ _ _ => trivial)⟩⟩ rfl rfl hl.1 rfl (lv_room (Nat.le_of_ble_eq_true rfl)) d_Md_user_29 ⟨Nat.le_of_ble_eq_true rfl, Nat.le_of_ble_eq_true rfl⟩) hS (fun q _ h => hFc q h) hFc (fun rv9 u t H1 locs ht hvm hw hB hz1 hk1 hS => ?_)
    try dsimp only at hw hB
    obtain ⟨hP1, hK1, hD1⟩ := hB
    rw [ht] at hP1
    obtain ⟨rfl, hw⟩ := hw
    obtain ⟨hP, hD⟩ := va_join (wr := []) (w1 := [(mo, .inr (12, mdG r 1 tm (nI sn) (nI tx) (nI lz) (nI az) (nI na) (nI nt) (nI nr) mw ml mk dq))]) hP hD [0] [] rfl rfl (by decide) (by decide) hk1 hFc hP1 hD1
    have hw24 := hw
    clear hPc hDc hFc hz1 hk1 hP1 hK1 hD1
    generalize H1 = H at hP hS ⊢
    have hP : va_P (dC, dI) vcl [(mo, .inr (12, mdG r 1 tm (nI sn) (nI tx) (nI lz) (nI az) (nI na) (nI nt) (nI nr) mw ml mk dq))] H := hP
    have hD : va_D A [(mo, .inr (12, mdG r 1 tm (nI sn) (nI tx) (nI lz) (nI az) (nI na) (nI nt) (nI nr) mw ml mk dq))] := hD
    refine lv_if_ne (tgt := 37) hx hb d_Md_user_32 (by decide) (fun hn9 => absurd hn9 (by decide)) (fun hc25 => ?_)
    refine lv_iconst (v := 0) hx hb d_Md_user_35 (by decide) ?_
    have hP9 := hP.sub (ws' := [(mo, .inr (12, mdG r 1 tm (nI sn) (nI tx) (nI lz) (nI az) (nI na) (nI nt) (nI nr) mw ml mk dq))]) [0] rfl
    have hD9 := hD.sub (ws' := [(mo, .inr (12, mdG r 1 tm (nI sn) (nI tx) (nI lz) (nI az) (nI na) (nI nt) (nI nr) mw ml mk dq))]) [0] (by decide) rfl
    exact W.zret (v := 0) hx hb hr (by first | rfl | decide) (fun t ht hW => ⟨⟨_, (), rfl, trivial, by rw [ht]; exact hP9, va_K.moved hW.alike hK, hD9⟩, hS.F ht⟩) hS.2.2 d_Md_user_36
  · skip
    refine lv_iload hx hb d_Md_user_17 (lv_at hl 3 rfl) ?_
    refine lv_bipush (v := 60) hx hb d_Md_user_19 (by decide) ?_
    refine lv_icmp_gt (tgt := 28) hx hb d_Md_user_21 (by decide) (fun hc26 => ?_) (fun hn9 => absurd (hbad.resolve_left hc23) hn9)
    refine lv_iconst (v := 0) hx hb d_Md_user_28 (by decide) ?_
    have hPc := hP.sub (ws' := [(mo, .inr (12, mdG r cd tm (nI sn) (nI tx) (nI lz) (nI az) (nI na) (nI nt) (nI nr) mw ml mk dq))]) [0] rfl
    have hDc := hD.sub (ws' := [(mo, .inr (12, mdG r cd tm (nI sn) (nI tx) (nI lz) (nI az) (nI na) (nI nt) (nI nr) mw ml mk dq))]) [0] (by decide) rfl
    have hFc := va_free (wc := [(mo, .inr (12, mdG r cd tm (nI sn) (nI tx) (nI lz) (nI az) (nI na) (nI nt) (nI nr) mw ml mk dq))]) hD hS hA [0] rfl
    refine va_calli (va_runV (C := "DoorServerModel") (As := [.int 0]) (rest := []) ⟨hx, hb, hml, hown, hg⟩ (m_goes0 l dC dI cT s.heap.size mo r cd tm sn tx lz az na nt nr mw ml mk dq ) (cwV 1 hg (gI (List.forall_mem_append.mpr ⟨List.forall_mem_cons.mpr ⟨k_1165, List.forall_mem_cons.mpr ⟨k_1167, List.forall_mem_cons.mpr ⟨(big_sel (q := y_Md_goes) (n := 45) (by decide +kernel)), List.forall_mem_cons.mpr ⟨k_13, fun _ h => absurd h List.not_mem_nil⟩⟩⟩⟩, List.forall_mem_cons.mpr ⟨k_1168, fun _ h => h⟩⟩)) rfl rfl rfl (by decide +kernel) ⟨Nat.le_of_ble_eq_true rfl, Nat.le_of_ble_eq_true rfl⟩) ⟨fun a U g mk q => by obtain ⟨q0, q1, qP, qK, qD⟩ := q; exact ⟨q0, q1, qP, va_K.moved (u := U) (U := U.calling g mk a) (Vm.Alike.refl U.vm) qK, qD⟩, va_recv (q0 := 0) (ci := 12) hK hP rfl rfl, fun U hU hW => ⟨rfl, by rw [hU], by rw [hU]; exact hPc, va_K.moved hW.alike hK, hDc.weaken (fun _ _ _ _ => trivial)⟩⟩ rfl rfl hl.1 rfl (lv_room (Nat.le_of_ble_eq_true rfl)) d_Md_user_29 ⟨Nat.le_of_ble_eq_true rfl, Nat.le_of_ble_eq_true rfl⟩) hS (fun q _ h => hFc q h) hFc (fun rv9 u t H1 locs ht hvm hw hB hz1 hk1 hS => ?_)
    try dsimp only at hw hB
    obtain ⟨hP1, hK1, hD1⟩ := hB
    rw [ht] at hP1
    obtain ⟨rfl, hw⟩ := hw
    obtain ⟨hP, hD⟩ := va_join (wr := []) (w1 := [(mo, .inr (12, mdG r 1 tm (nI sn) (nI tx) (nI lz) (nI az) (nI na) (nI nt) (nI nr) mw ml mk dq))]) hP hD [0] [] rfl rfl (by decide) (by decide) hk1 hFc hP1 hD1
    have hw27 := hw
    clear hPc hDc hFc hz1 hk1 hP1 hK1 hD1
    generalize H1 = H at hP hS ⊢
    have hP : va_P (dC, dI) vcl [(mo, .inr (12, mdG r 1 tm (nI sn) (nI tx) (nI lz) (nI az) (nI na) (nI nt) (nI nr) mw ml mk dq))] H := hP
    have hD : va_D A [(mo, .inr (12, mdG r 1 tm (nI sn) (nI tx) (nI lz) (nI az) (nI na) (nI nt) (nI nr) mw ml mk dq))] := hD
    refine lv_if_ne (tgt := 37) hx hb d_Md_user_32 (by decide) (fun hn9 => absurd hn9 (by decide)) (fun hc28 => ?_)
    refine lv_iconst (v := 0) hx hb d_Md_user_35 (by decide) ?_
    have hP9 := hP.sub (ws' := [(mo, .inr (12, mdG r 1 tm (nI sn) (nI tx) (nI lz) (nI az) (nI na) (nI nt) (nI nr) mw ml mk dq))]) [0] rfl
    have hD9 := hD.sub (ws' := [(mo, .inr (12, mdG r 1 tm (nI sn) (nI tx) (nI lz) (nI az) (nI na) (nI nt) (nI nr) mw ml mk dq))]) [0] (by decide) rfl
    exact W.zret (v := 0) hx hb hr (by first | rfl | decide) (fun t ht hW => ⟨⟨_, (), rfl, trivial, by rw [ht]; exact hP9, va_K.moved hW.alike hK, hD9⟩, hS.F ht⟩) hS.2.2 d_Md_user_36
set_option maxHeartbeats 4000000 in
set_option maxRecDepth 100000 in
/-- seal: illegal argument -/
theorem b_seal (l : Launch) (dC : Nat → ClassId) (dI : Nat → Nat → Nat) (cT : Nat → ClassId) (sz : Nat) (mo : Nat) (r : Nat → Nat) (cd : Int32) (tm : Int32) (sn : Nat) (tx : Nat) (lz : Nat) (az : Nat) (na : Nat) (nt : Nat) (nr : Nat) (mw : Int32) (ml : Int32) (mk : Int64) (dq : Int64) (x : Int32) (hbad : x < 0 ∨ 3 < x) : Met l y_Md_seal (Cond.code y_Md_seal b_Md_seal 3 (Option.none : Option Jvm.ClassFile.FieldType) :: BIG) ({ frames := 1, cells := 0, slots := 0, locals := 21 }) (va_Pc [.ref mo, .int x] (fun U => U.heap.size = sz ∧ va_P (dC, dI) vcl [(mo, .inr (12, mdG r cd tm (nI sn) (nI tx) (nI lz) (nI az) (nI na) (nI nt) (nI nr) mw ml mk dq))] U.heap ∧ va_K (dC, dI) vcl (tyL cT) U ∧ va_D (fun _ => True) [(mo, .inr (12, mdG r cd tm (nI sn) (nI tx) (nI lz) (nI az) (nI na) (nI nt) (nI nr) mw ml mk dq))])) (va_Qv (S := Unit) (fun u => True) (fun u t => va_P (dC, dI) vcl [(mo, .inr (12, mdG r 1 tm (nI sn) (nI tx) (nI lz) (nI az) (nI na) (nI nt) (nI nr) mw ml mk dq))] t.heap ∧ va_K (dC, dI) vcl (tyL cT) t ∧ va_D (va_A [(mo, .inr (12, mdG r cd tm (nI sn) (nI tx) (nI lz) (nI az) (nI na) (nI nt) (nI nr) mw ml mk dq))] sz) [(mo, .inr (12, mdG r 1 tm (nI sn) (nI tx) (nI lz) (nI az) (nI na) (nI nt) (nI nr) mw ml mk dq))]) (va_A [(mo, .inr (12, mdG r cd tm (nI sn) (nI tx) (nI lz) (nI az) (nI na) (nI nt) (nI nr) mw ml mk dq))] sz)) 0 0 (va_A [(mo, .inr (12, mdG r cd tm (nI sn) (nI tx) (nI lz) (nI az) (nI na) (nI nt) (nI nr) mw ml mk dq))] sz) := by
  refine Met.ofW (cc := b_Md_seal) (maxL := 3) (ret := (Option.none : Option Jvm.ClassFile.FieldType)) (by decide) rfl ?_
  intro p e s m args below meth c s₁ B hml hv
  obtain ⟨hargs, hsz, hP, hK, hD0⟩ := hv
  have hx := B.exec
  have hb := B.bytes
  have hr := B.returns
  have hts := atoms_spec (ws := (Cond.code y_Md_seal b_Md_seal 3 (Option.none : Option Jvm.ClassFile.FieldType) :: BIG)) B.pre
  have hg : ∀ w ∈ BIG, w.before _ s = true := fun w h => hts w (List.mem_cons_of_mem _ h)
  have hown : s.vm.findClass "DoorServerModel" = some m.cls := findClass_of_methodNamed B.named
  have hlocks := B.notSynchronized
  subst hsz
  have hD := hD0.self (sz := s.heap.size)
  generalize hAe : va_A [(mo, .inr (12, mdG r cd tm (nI sn) (nI tx) (nI lz) (nI az) (nI na) (nI nt) (nI nr) mw ml mk dq))] s.heap.size = A at hD ⊢
  have hA : ∀ q : Nat, s.heap.size ≤ q → A q := fun q h => by rw [← hAe]; exact Or.inr h
  have hS : va_S A s.heap s.heap [] := va_S.rf
  have hl := lv_entry ([.ref mo, .int x]) (n := 3) (Nat.le_of_ble_eq_true rfl)
  refine W.eq (g2 := entryFrame m (List.toArray [.ref mo, .int x]) 3) (by rw [hargs]) ?_
  rw [lg_entry_eq]
  generalize (lg_sl ([.ref mo, .int x]) ++ List.replicate (3 - (lg_sl ([.ref mo, .int x])).length) Slot.unset).toArray = ls at hl ⊢
  have hl : lv_has ls 3 [(0, .ref mo), (1, .int x)] := hl
  change W p l e ({ frames := 1, cells := 0, slots := 0, locals := 21 } : Room) s m args below meth c s.heap [] 0 0 _ _
  have hP : va_P (dC, dI) vcl [(mo, .inr (12, mdG r cd tm (nI sn) (nI tx) (nI lz) (nI az) (nI na) (nI nt) (nI nr) mw ml mk dq))] s.heap := hP
  refine lv_aload_n hx hb d_Md_seal_0 rfl (lv_at hl 0 rfl) ?_
  refine lv_iload_n hx hb d_Md_seal_1 rfl (lv_at hl 1 rfl) ?_
  refine lv_if_lt (tgt := 14) hx hb d_Md_seal_2 (by decide) (fun hc29 => ?_) (fun hc29 => ?_)
  · skip
    refine lv_iconst (v := 0) hx hb d_Md_seal_14 (by decide) ?_
    have hPc := hP.sub (ws' := [(mo, .inr (12, mdG r cd tm (nI sn) (nI tx) (nI lz) (nI az) (nI na) (nI nt) (nI nr) mw ml mk dq))]) [0] rfl
    have hDc := hD.sub (ws' := [(mo, .inr (12, mdG r cd tm (nI sn) (nI tx) (nI lz) (nI az) (nI na) (nI nt) (nI nr) mw ml mk dq))]) [0] (by decide) rfl
    have hFc := va_free (wc := [(mo, .inr (12, mdG r cd tm (nI sn) (nI tx) (nI lz) (nI az) (nI na) (nI nt) (nI nr) mw ml mk dq))]) hD hS hA [0] rfl
    refine va_calli (va_runV (C := "DoorServerModel") (As := [.int 0]) (rest := []) ⟨hx, hb, hml, hown, hg⟩ (m_goes0 l dC dI cT s.heap.size mo r cd tm sn tx lz az na nt nr mw ml mk dq ) (cwV 1 hg (gI (List.forall_mem_append.mpr ⟨List.forall_mem_cons.mpr ⟨k_1165, List.forall_mem_cons.mpr ⟨k_1167, List.forall_mem_cons.mpr ⟨(big_sel (q := y_Md_goes) (n := 45) (by decide +kernel)), List.forall_mem_cons.mpr ⟨k_13, fun _ h => absurd h List.not_mem_nil⟩⟩⟩⟩, List.forall_mem_cons.mpr ⟨k_1168, fun _ h => h⟩⟩)) rfl rfl rfl (by decide +kernel) ⟨Nat.le_of_ble_eq_true rfl, Nat.le_of_ble_eq_true rfl⟩) ⟨fun a U g mk q => by obtain ⟨q0, q1, qP, qK, qD⟩ := q; exact ⟨q0, q1, qP, va_K.moved (u := U) (U := U.calling g mk a) (Vm.Alike.refl U.vm) qK, qD⟩, va_recv (q0 := 0) (ci := 12) hK hP rfl rfl, fun U hU hW => ⟨rfl, by rw [hU], by rw [hU]; exact hPc, va_K.moved hW.alike hK, hDc.weaken (fun _ _ _ _ => trivial)⟩⟩ rfl rfl hl.1 rfl (lv_room (Nat.le_of_ble_eq_true rfl)) d_Md_seal_15 ⟨Nat.le_of_ble_eq_true rfl, Nat.le_of_ble_eq_true rfl⟩) hS (fun q _ h => hFc q h) hFc (fun rv9 u t H1 locs ht hvm hw hB hz1 hk1 hS => ?_)
    try dsimp only at hw hB
    obtain ⟨hP1, hK1, hD1⟩ := hB
    rw [ht] at hP1
    obtain ⟨rfl, hw⟩ := hw
    obtain ⟨hP, hD⟩ := va_join (wr := []) (w1 := [(mo, .inr (12, mdG r 1 tm (nI sn) (nI tx) (nI lz) (nI az) (nI na) (nI nt) (nI nr) mw ml mk dq))]) hP hD [0] [] rfl rfl (by decide) (by decide) hk1 hFc hP1 hD1
    have hw30 := hw
    clear hPc hDc hFc hz1 hk1 hP1 hK1 hD1
    generalize H1 = H at hP hS ⊢
    have hP : va_P (dC, dI) vcl [(mo, .inr (12, mdG r 1 tm (nI sn) (nI tx) (nI lz) (nI az) (nI na) (nI nt) (nI nr) mw ml mk dq))] H := hP
    have hD : va_D A [(mo, .inr (12, mdG r 1 tm (nI sn) (nI tx) (nI lz) (nI az) (nI na) (nI nt) (nI nr) mw ml mk dq))] := hD
    refine lv_if_eq (tgt := 58) hx hb d_Md_seal_18 (by decide) (fun hc31 => ?_) (fun hn9 => absurd (by decide) hn9)
    have hP9 := hP.sub (ws' := [(mo, .inr (12, mdG r 1 tm (nI sn) (nI tx) (nI lz) (nI az) (nI na) (nI nt) (nI nr) mw ml mk dq))]) [0] rfl
    have hD9 := hD.sub (ws' := [(mo, .inr (12, mdG r 1 tm (nI sn) (nI tx) (nI lz) (nI az) (nI na) (nI nt) (nI nr) mw ml mk dq))]) [0] (by decide) rfl
    exact W.vret hx hb hr (fun t ht hW => ⟨⟨(), rfl, trivial, by rw [ht]; exact hP9, va_K.moved hW.alike hK, hD9⟩, hS.F ht⟩) hS.2.2 d_Md_seal_58
  · skip
    refine lv_iload_n hx hb d_Md_seal_5 rfl (lv_at hl 1 rfl) ?_
    refine lv_iconst (v := 4) hx hb d_Md_seal_6 (by decide) ?_
    refine lv_icmp_ge (tgt := 14) hx hb d_Md_seal_7 (by decide) (fun hc32 => ?_) (fun hn9 => absurd ((lt_le1 (by decide)).mp (hbad.resolve_left hc29)) hn9)
    refine lv_iconst (v := 0) hx hb d_Md_seal_14 (by decide) ?_
    have hPc := hP.sub (ws' := [(mo, .inr (12, mdG r cd tm (nI sn) (nI tx) (nI lz) (nI az) (nI na) (nI nt) (nI nr) mw ml mk dq))]) [0] rfl
    have hDc := hD.sub (ws' := [(mo, .inr (12, mdG r cd tm (nI sn) (nI tx) (nI lz) (nI az) (nI na) (nI nt) (nI nr) mw ml mk dq))]) [0] (by decide) rfl
    have hFc := va_free (wc := [(mo, .inr (12, mdG r cd tm (nI sn) (nI tx) (nI lz) (nI az) (nI na) (nI nt) (nI nr) mw ml mk dq))]) hD hS hA [0] rfl
    refine va_calli (va_runV (C := "DoorServerModel") (As := [.int 0]) (rest := []) ⟨hx, hb, hml, hown, hg⟩ (m_goes0 l dC dI cT s.heap.size mo r cd tm sn tx lz az na nt nr mw ml mk dq ) (cwV 1 hg (gI (List.forall_mem_append.mpr ⟨List.forall_mem_cons.mpr ⟨k_1165, List.forall_mem_cons.mpr ⟨k_1167, List.forall_mem_cons.mpr ⟨(big_sel (q := y_Md_goes) (n := 45) (by decide +kernel)), List.forall_mem_cons.mpr ⟨k_13, fun _ h => absurd h List.not_mem_nil⟩⟩⟩⟩, List.forall_mem_cons.mpr ⟨k_1168, fun _ h => h⟩⟩)) rfl rfl rfl (by decide +kernel) ⟨Nat.le_of_ble_eq_true rfl, Nat.le_of_ble_eq_true rfl⟩) ⟨fun a U g mk q => by obtain ⟨q0, q1, qP, qK, qD⟩ := q; exact ⟨q0, q1, qP, va_K.moved (u := U) (U := U.calling g mk a) (Vm.Alike.refl U.vm) qK, qD⟩, va_recv (q0 := 0) (ci := 12) hK hP rfl rfl, fun U hU hW => ⟨rfl, by rw [hU], by rw [hU]; exact hPc, va_K.moved hW.alike hK, hDc.weaken (fun _ _ _ _ => trivial)⟩⟩ rfl rfl hl.1 rfl (lv_room (Nat.le_of_ble_eq_true rfl)) d_Md_seal_15 ⟨Nat.le_of_ble_eq_true rfl, Nat.le_of_ble_eq_true rfl⟩) hS (fun q _ h => hFc q h) hFc (fun rv9 u t H1 locs ht hvm hw hB hz1 hk1 hS => ?_)
    try dsimp only at hw hB
    obtain ⟨hP1, hK1, hD1⟩ := hB
    rw [ht] at hP1
    obtain ⟨rfl, hw⟩ := hw
    obtain ⟨hP, hD⟩ := va_join (wr := []) (w1 := [(mo, .inr (12, mdG r 1 tm (nI sn) (nI tx) (nI lz) (nI az) (nI na) (nI nt) (nI nr) mw ml mk dq))]) hP hD [0] [] rfl rfl (by decide) (by decide) hk1 hFc hP1 hD1
    have hw33 := hw
    clear hPc hDc hFc hz1 hk1 hP1 hK1 hD1
    generalize H1 = H at hP hS ⊢
    have hP : va_P (dC, dI) vcl [(mo, .inr (12, mdG r 1 tm (nI sn) (nI tx) (nI lz) (nI az) (nI na) (nI nt) (nI nr) mw ml mk dq))] H := hP
    have hD : va_D A [(mo, .inr (12, mdG r 1 tm (nI sn) (nI tx) (nI lz) (nI az) (nI na) (nI nt) (nI nr) mw ml mk dq))] := hD
    refine lv_if_eq (tgt := 58) hx hb d_Md_seal_18 (by decide) (fun hc34 => ?_) (fun hn9 => absurd (by decide) hn9)
    have hP9 := hP.sub (ws' := [(mo, .inr (12, mdG r 1 tm (nI sn) (nI tx) (nI lz) (nI az) (nI na) (nI nt) (nI nr) mw ml mk dq))]) [0] rfl
    have hD9 := hD.sub (ws' := [(mo, .inr (12, mdG r 1 tm (nI sn) (nI tx) (nI lz) (nI az) (nI na) (nI nt) (nI nr) mw ml mk dq))]) [0] (by decide) rfl
    exact W.vret hx hb hr (fun t ht hW => ⟨⟨(), rfl, trivial, by rw [ht]; exact hP9, va_K.moved hW.alike hK, hD9⟩, hS.F ht⟩) hS.2.2 d_Md_seal_58
set_option maxHeartbeats 4000000 in
set_option maxRecDepth 100000 in
/-- draft: illegal argument -/
theorem b_draft1 (l : Launch) (dC : Nat → ClassId) (dI : Nat → Nat → Nat) (cT : Nat → ClassId) (sz : Nat) (mo : Nat) (r : Nat → Nat) (cd : Int32) (tm : Int32) (sn : Nat) (tx : Nat) (lz : Nat) (az : Nat) (na : Nat) (nt : Nat) (nr : Nat) (mw : Int32) (ml : Int32) (mk : Int64) (dq : Int64) (x : Int32) (y : Int32) (v : Int64) (hbad : x < 0 ∨ 255 < x) : Met l y_Md_draft (Cond.code y_Md_draft b_Md_draft 5 (Option.none : Option Jvm.ClassFile.FieldType) :: BIG) ({ frames := 1, cells := 0, slots := 0, locals := 21 }) (va_Pc [.ref mo, .int x, .int y, .long v] (fun U => U.heap.size = sz ∧ va_P (dC, dI) vcl [(mo, .inr (12, mdG r cd tm (nI sn) (nI tx) (nI lz) (nI az) (nI na) (nI nt) (nI nr) mw ml mk dq))] U.heap ∧ va_K (dC, dI) vcl (tyL cT) U ∧ va_D (fun _ => True) [(mo, .inr (12, mdG r cd tm (nI sn) (nI tx) (nI lz) (nI az) (nI na) (nI nt) (nI nr) mw ml mk dq))])) (va_Qv (S := Unit) (fun u => True) (fun u t => va_P (dC, dI) vcl [(mo, .inr (12, mdG r 1 tm (nI sn) (nI tx) (nI lz) (nI az) (nI na) (nI nt) (nI nr) mw ml mk dq))] t.heap ∧ va_K (dC, dI) vcl (tyL cT) t ∧ va_D (va_A [(mo, .inr (12, mdG r cd tm (nI sn) (nI tx) (nI lz) (nI az) (nI na) (nI nt) (nI nr) mw ml mk dq))] sz) [(mo, .inr (12, mdG r 1 tm (nI sn) (nI tx) (nI lz) (nI az) (nI na) (nI nt) (nI nr) mw ml mk dq))]) (va_A [(mo, .inr (12, mdG r cd tm (nI sn) (nI tx) (nI lz) (nI az) (nI na) (nI nt) (nI nr) mw ml mk dq))] sz)) 0 0 (va_A [(mo, .inr (12, mdG r cd tm (nI sn) (nI tx) (nI lz) (nI az) (nI na) (nI nt) (nI nr) mw ml mk dq))] sz) := by
  refine Met.ofW (cc := b_Md_draft) (maxL := 5) (ret := (Option.none : Option Jvm.ClassFile.FieldType)) (by decide) rfl ?_
  intro p e s m args below meth c s₁ B hml hv
  obtain ⟨hargs, hsz, hP, hK, hD0⟩ := hv
  have hx := B.exec
  have hb := B.bytes
  have hr := B.returns
  have hts := atoms_spec (ws := (Cond.code y_Md_draft b_Md_draft 5 (Option.none : Option Jvm.ClassFile.FieldType) :: BIG)) B.pre
  have hg : ∀ w ∈ BIG, w.before _ s = true := fun w h => hts w (List.mem_cons_of_mem _ h)
  have hown : s.vm.findClass "DoorServerModel" = some m.cls := findClass_of_methodNamed B.named
  have hlocks := B.notSynchronized
  subst hsz
  have hD := hD0.self (sz := s.heap.size)
  generalize hAe : va_A [(mo, .inr (12, mdG r cd tm (nI sn) (nI tx) (nI lz) (nI az) (nI na) (nI nt) (nI nr) mw ml mk dq))] s.heap.size = A at hD ⊢
  have hA : ∀ q : Nat, s.heap.size ≤ q → A q := fun q h => by rw [← hAe]; exact Or.inr h
  have hS : va_S A s.heap s.heap [] := va_S.rf
  have hl := lv_entry ([.ref mo, .int x, .int y, .long v]) (n := 5) (Nat.le_of_ble_eq_true rfl)
  refine W.eq (g2 := entryFrame m (List.toArray [.ref mo, .int x, .int y, .long v]) 5) (by rw [hargs]) ?_
  rw [lg_entry_eq]
  generalize (lg_sl ([.ref mo, .int x, .int y, .long v]) ++ List.replicate (5 - (lg_sl ([.ref mo, .int x, .int y, .long v])).length) Slot.unset).toArray = ls at hl ⊢
  have hl : lv_has ls 5 [(0, .ref mo), (1, .int x), (2, .int y), (3, .long v)] := hl
  change W p l e ({ frames := 1, cells := 0, slots := 0, locals := 21 } : Room) s m args below meth c s.heap [] 0 0 _ _
  have hP : va_P (dC, dI) vcl [(mo, .inr (12, mdG r cd tm (nI sn) (nI tx) (nI lz) (nI az) (nI na) (nI nt) (nI nr) mw ml mk dq))] s.heap := hP
  refine lv_aload_n hx hb d_Md_draft_0 rfl (lv_at hl 0 rfl) ?_
  refine lv_iload_n hx hb d_Md_draft_1 rfl (lv_at hl 1 rfl) ?_
  have hPc := hP.sub (ws' := []) [] rfl
  have hDc := hD.sub (ws' := []) [] (by decide) rfl
  have hFc := va_free (wc := []) hD hS hA [] rfl
  refine va_calli (va_runS (As := [.int x]) (rest := [.ref mo]) ⟨hx, hb, hml, hown, hg⟩ (m_byte0 l dC dI cT s.heap.size x (hbad)) (va_cwS 1 hg (gI (List.forall_mem_append.mpr ⟨List.forall_mem_cons.mpr ⟨k_1181, List.forall_mem_cons.mpr ⟨k_1182, List.forall_mem_cons.mpr ⟨k_13, fun _ h => absurd h List.not_mem_nil⟩⟩⟩, List.forall_mem_cons.mpr ⟨k_1183, fun _ h => h⟩⟩)) rfl rfl rfl (by decide +kernel) ⟨Nat.le_of_ble_eq_true rfl, Nat.le_of_ble_eq_true rfl⟩) ⟨fun a U g mk q => by obtain ⟨q0, q1, qP, qK, qD⟩ := q; exact ⟨q0, q1, qP, va_K.moved (u := U) (U := U.calling g mk a) (Vm.Alike.refl U.vm) qK, qD⟩, fun U hU hW => ⟨rfl, by rw [hU], by rw [hU]; exact hPc, va_K.moved hW.alike hK, hDc.weaken (fun _ _ _ _ => trivial)⟩⟩ rfl rfl hl.1 rfl (lv_room (Nat.le_of_ble_eq_true rfl)) d_Md_draft_2 ⟨Nat.le_of_ble_eq_true rfl, Nat.le_of_ble_eq_true rfl⟩) hS (fun q _ h => hFc q h) hFc (fun rv9 u t H1 locs ht hvm hw hB hz1 hk1 hS => ?_)
  try dsimp only at hw hB
  obtain ⟨hP1, hK1, hD1⟩ := hB
  rw [ht] at hP1
  obtain ⟨rfl, hw⟩ := hw
  obtain ⟨hP, hD⟩ := va_join (wr := [(mo, .inr (12, mdG r cd tm (nI sn) (nI tx) (nI lz) (nI az) (nI na) (nI nt) (nI nr) mw ml mk dq))]) (w1 := []) hP hD [] [0] rfl rfl (by decide) (by decide) hk1 hFc hP1 hD1
  have hw35 := hw
  clear hPc hDc hFc hz1 hk1 hP1 hK1 hD1
  generalize H1 = H at hP hS ⊢
  have hP : va_P (dC, dI) vcl [(mo, .inr (12, mdG r cd tm (nI sn) (nI tx) (nI lz) (nI az) (nI na) (nI nt) (nI nr) mw ml mk dq))] H := hP
  have hD : va_D A [(mo, .inr (12, mdG r cd tm (nI sn) (nI tx) (nI lz) (nI az) (nI na) (nI nt) (nI nr) mw ml mk dq))] := hD
  refine lv_if_eq (tgt := 19) hx hb d_Md_draft_5 (by decide) (fun hc36 => ?_) (fun hn9 => absurd (by decide) hn9)
  refine lv_iconst (v := 0) hx hb d_Md_draft_19 (by decide) ?_
  have hPc := hP.sub (ws' := [(mo, .inr (12, mdG r cd tm (nI sn) (nI tx) (nI lz) (nI az) (nI na) (nI nt) (nI nr) mw ml mk dq))]) [0] rfl
  have hDc := hD.sub (ws' := [(mo, .inr (12, mdG r cd tm (nI sn) (nI tx) (nI lz) (nI az) (nI na) (nI nt) (nI nr) mw ml mk dq))]) [0] (by decide) rfl
  have hFc := va_free (wc := [(mo, .inr (12, mdG r cd tm (nI sn) (nI tx) (nI lz) (nI az) (nI na) (nI nt) (nI nr) mw ml mk dq))]) hD hS hA [0] rfl
  refine va_calli (va_runV (C := "DoorServerModel") (As := [.int 0]) (rest := []) ⟨hx, hb, hml, hown, hg⟩ (m_goes0 l dC dI cT H.size mo r cd tm sn tx lz az na nt nr mw ml mk dq ) (cwV 1 hg (gI (List.forall_mem_append.mpr ⟨List.forall_mem_cons.mpr ⟨k_1165, List.forall_mem_cons.mpr ⟨k_1167, List.forall_mem_cons.mpr ⟨(big_sel (q := y_Md_goes) (n := 45) (by decide +kernel)), List.forall_mem_cons.mpr ⟨k_13, fun _ h => absurd h List.not_mem_nil⟩⟩⟩⟩, List.forall_mem_cons.mpr ⟨k_1168, fun _ h => h⟩⟩)) rfl rfl rfl (by decide +kernel) ⟨Nat.le_of_ble_eq_true rfl, Nat.le_of_ble_eq_true rfl⟩) ⟨fun a U g mk q => by obtain ⟨q0, q1, qP, qK, qD⟩ := q; exact ⟨q0, q1, qP, va_K.moved (u := U) (U := U.calling g mk a) (Vm.Alike.refl U.vm) qK, qD⟩, va_recv (q0 := 0) (ci := 12) hK hP rfl rfl, fun U hU hW => ⟨rfl, by rw [hU], by rw [hU]; exact hPc, va_K.moved hW.alike hK, hDc.weaken (fun _ _ _ _ => trivial)⟩⟩ rfl rfl hl.1 rfl (lv_room (Nat.le_of_ble_eq_true rfl)) d_Md_draft_20 ⟨Nat.le_of_ble_eq_true rfl, Nat.le_of_ble_eq_true rfl⟩) hS (fun q _ h => hFc q h) hFc (fun rv9 u t H1 locs ht hvm hw hB hz1 hk1 hS => ?_)
  try dsimp only at hw hB
  obtain ⟨hP1, hK1, hD1⟩ := hB
  rw [ht] at hP1
  obtain ⟨rfl, hw⟩ := hw
  obtain ⟨hP, hD⟩ := va_join (wr := []) (w1 := [(mo, .inr (12, mdG r 1 tm (nI sn) (nI tx) (nI lz) (nI az) (nI na) (nI nt) (nI nr) mw ml mk dq))]) hP hD [0] [] rfl rfl (by decide) (by decide) hk1 hFc hP1 hD1
  have hw37 := hw
  clear hPc hDc hFc hz1 hk1 hP1 hK1 hD1
  generalize H1 = H at hP hS ⊢
  have hP : va_P (dC, dI) vcl [(mo, .inr (12, mdG r 1 tm (nI sn) (nI tx) (nI lz) (nI az) (nI na) (nI nt) (nI nr) mw ml mk dq))] H := hP
  have hD : va_D A [(mo, .inr (12, mdG r 1 tm (nI sn) (nI tx) (nI lz) (nI az) (nI na) (nI nt) (nI nr) mw ml mk dq))] := hD
  refine lv_if_eq (tgt := 33) hx hb d_Md_draft_23 (by decide) (fun hc38 => ?_) (fun hn9 => absurd (by decide) hn9)
  have hP9 := hP.sub (ws' := [(mo, .inr (12, mdG r 1 tm (nI sn) (nI tx) (nI lz) (nI az) (nI na) (nI nt) (nI nr) mw ml mk dq))]) [0] rfl
  have hD9 := hD.sub (ws' := [(mo, .inr (12, mdG r 1 tm (nI sn) (nI tx) (nI lz) (nI az) (nI na) (nI nt) (nI nr) mw ml mk dq))]) [0] (by decide) rfl
  exact W.vret hx hb hr (fun t ht hW => ⟨⟨(), rfl, trivial, by rw [ht]; exact hP9, va_K.moved hW.alike hK, hD9⟩, hS.F ht⟩) hS.2.2 d_Md_draft_33
set_option maxHeartbeats 4000000 in
set_option maxRecDepth 100000 in
/-- draft: illegal argument -/
theorem b_draft2 (l : Launch) (dC : Nat → ClassId) (dI : Nat → Nat → Nat) (cT : Nat → ClassId) (sz : Nat) (mo : Nat) (r : Nat → Nat) (cd : Int32) (tm : Int32) (sn : Nat) (tx : Nat) (lz : Nat) (az : Nat) (na : Nat) (nt : Nat) (nr : Nat) (mw : Int32) (ml : Int32) (mk : Int64) (dq : Int64) (x : Int32) (y : Int32) (v : Int64) (hx1 : ¬ x < 0) (hx2 : ¬ 255 < x) (hbad : y < 0 ∨ 255 < y) : Met l y_Md_draft (Cond.code y_Md_draft b_Md_draft 5 (Option.none : Option Jvm.ClassFile.FieldType) :: BIG) ({ frames := 1, cells := 0, slots := 0, locals := 21 }) (va_Pc [.ref mo, .int x, .int y, .long v] (fun U => U.heap.size = sz ∧ va_P (dC, dI) vcl [(mo, .inr (12, mdG r cd tm (nI sn) (nI tx) (nI lz) (nI az) (nI na) (nI nt) (nI nr) mw ml mk dq))] U.heap ∧ va_K (dC, dI) vcl (tyL cT) U ∧ va_D (fun _ => True) [(mo, .inr (12, mdG r cd tm (nI sn) (nI tx) (nI lz) (nI az) (nI na) (nI nt) (nI nr) mw ml mk dq))])) (va_Qv (S := Unit) (fun u => True) (fun u t => va_P (dC, dI) vcl [(mo, .inr (12, mdG r 1 tm (nI sn) (nI tx) (nI lz) (nI az) (nI na) (nI nt) (nI nr) mw ml mk dq))] t.heap ∧ va_K (dC, dI) vcl (tyL cT) t ∧ va_D (va_A [(mo, .inr (12, mdG r cd tm (nI sn) (nI tx) (nI lz) (nI az) (nI na) (nI nt) (nI nr) mw ml mk dq))] sz) [(mo, .inr (12, mdG r 1 tm (nI sn) (nI tx) (nI lz) (nI az) (nI na) (nI nt) (nI nr) mw ml mk dq))]) (va_A [(mo, .inr (12, mdG r cd tm (nI sn) (nI tx) (nI lz) (nI az) (nI na) (nI nt) (nI nr) mw ml mk dq))] sz)) 0 0 (va_A [(mo, .inr (12, mdG r cd tm (nI sn) (nI tx) (nI lz) (nI az) (nI na) (nI nt) (nI nr) mw ml mk dq))] sz) := by
  refine Met.ofW (cc := b_Md_draft) (maxL := 5) (ret := (Option.none : Option Jvm.ClassFile.FieldType)) (by decide) rfl ?_
  intro p e s m args below meth c s₁ B hml hv
  obtain ⟨hargs, hsz, hP, hK, hD0⟩ := hv
  have hx := B.exec
  have hb := B.bytes
  have hr := B.returns
  have hts := atoms_spec (ws := (Cond.code y_Md_draft b_Md_draft 5 (Option.none : Option Jvm.ClassFile.FieldType) :: BIG)) B.pre
  have hg : ∀ w ∈ BIG, w.before _ s = true := fun w h => hts w (List.mem_cons_of_mem _ h)
  have hown : s.vm.findClass "DoorServerModel" = some m.cls := findClass_of_methodNamed B.named
  have hlocks := B.notSynchronized
  subst hsz
  have hD := hD0.self (sz := s.heap.size)
  generalize hAe : va_A [(mo, .inr (12, mdG r cd tm (nI sn) (nI tx) (nI lz) (nI az) (nI na) (nI nt) (nI nr) mw ml mk dq))] s.heap.size = A at hD ⊢
  have hA : ∀ q : Nat, s.heap.size ≤ q → A q := fun q h => by rw [← hAe]; exact Or.inr h
  have hS : va_S A s.heap s.heap [] := va_S.rf
  have hl := lv_entry ([.ref mo, .int x, .int y, .long v]) (n := 5) (Nat.le_of_ble_eq_true rfl)
  refine W.eq (g2 := entryFrame m (List.toArray [.ref mo, .int x, .int y, .long v]) 5) (by rw [hargs]) ?_
  rw [lg_entry_eq]
  generalize (lg_sl ([.ref mo, .int x, .int y, .long v]) ++ List.replicate (5 - (lg_sl ([.ref mo, .int x, .int y, .long v])).length) Slot.unset).toArray = ls at hl ⊢
  have hl : lv_has ls 5 [(0, .ref mo), (1, .int x), (2, .int y), (3, .long v)] := hl
  change W p l e ({ frames := 1, cells := 0, slots := 0, locals := 21 } : Room) s m args below meth c s.heap [] 0 0 _ _
  have hP : va_P (dC, dI) vcl [(mo, .inr (12, mdG r cd tm (nI sn) (nI tx) (nI lz) (nI az) (nI na) (nI nt) (nI nr) mw ml mk dq))] s.heap := hP
  refine lv_aload_n hx hb d_Md_draft_0 rfl (lv_at hl 0 rfl) ?_
  refine lv_iload_n hx hb d_Md_draft_1 rfl (lv_at hl 1 rfl) ?_
  have hPc := hP.sub (ws' := []) [] rfl
  have hDc := hD.sub (ws' := []) [] (by decide) rfl
  have hFc := va_free (wc := []) hD hS hA [] rfl
  refine va_calli (va_runS (As := [.int x]) (rest := [.ref mo]) ⟨hx, hb, hml, hown, hg⟩ (m_byte1 l dC dI cT s.heap.size x (hx1) (hx2)) (va_cwS 1 hg (gI (List.forall_mem_append.mpr ⟨List.forall_mem_cons.mpr ⟨k_1181, List.forall_mem_cons.mpr ⟨k_1182, List.forall_mem_cons.mpr ⟨k_13, fun _ h => absurd h List.not_mem_nil⟩⟩⟩, List.forall_mem_cons.mpr ⟨k_1183, fun _ h => h⟩⟩)) rfl rfl rfl (by decide +kernel) ⟨Nat.le_of_ble_eq_true rfl, Nat.le_of_ble_eq_true rfl⟩) ⟨fun a U g mk q => by obtain ⟨q0, q1, qP, qK, qD⟩ := q; exact ⟨q0, q1, qP, va_K.moved (u := U) (U := U.calling g mk a) (Vm.Alike.refl U.vm) qK, qD⟩, fun U hU hW => ⟨rfl, by rw [hU], by rw [hU]; exact hPc, va_K.moved hW.alike hK, hDc.weaken (fun _ _ _ _ => trivial)⟩⟩ rfl rfl hl.1 rfl (lv_room (Nat.le_of_ble_eq_true rfl)) d_Md_draft_2 ⟨Nat.le_of_ble_eq_true rfl, Nat.le_of_ble_eq_true rfl⟩) hS (fun q _ h => hFc q h) hFc (fun rv9 u t H1 locs ht hvm hw hB hz1 hk1 hS => ?_)
  try dsimp only at hw hB
  obtain ⟨hP1, hK1, hD1⟩ := hB
  rw [ht] at hP1
  obtain ⟨rfl, hw⟩ := hw
  obtain ⟨hP, hD⟩ := va_join (wr := [(mo, .inr (12, mdG r cd tm (nI sn) (nI tx) (nI lz) (nI az) (nI na) (nI nt) (nI nr) mw ml mk dq))]) (w1 := []) hP hD [] [0] rfl rfl (by decide) (by decide) hk1 hFc hP1 hD1
  have hw39 := hw
  clear hPc hDc hFc hz1 hk1 hP1 hK1 hD1
  generalize H1 = H at hP hS ⊢
  have hP : va_P (dC, dI) vcl [(mo, .inr (12, mdG r cd tm (nI sn) (nI tx) (nI lz) (nI az) (nI na) (nI nt) (nI nr) mw ml mk dq))] H := hP
  have hD : va_D A [(mo, .inr (12, mdG r cd tm (nI sn) (nI tx) (nI lz) (nI az) (nI na) (nI nt) (nI nr) mw ml mk dq))] := hD
  refine lv_if_eq (tgt := 19) hx hb d_Md_draft_5 (by decide) (fun hn9 => absurd hn9 (by decide)) (fun hc40 => ?_)
  refine lv_iload_n hx hb d_Md_draft_8 rfl (lv_at hl 2 rfl) ?_
  have hPc := hP.sub (ws' := []) [] rfl
  have hDc := hD.sub (ws' := []) [] (by decide) rfl
  have hFc := va_free (wc := []) hD hS hA [] rfl
  refine va_calli (va_runS (As := [.int y]) (rest := [.ref mo]) ⟨hx, hb, hml, hown, hg⟩ (m_byte0 l dC dI cT H.size y (hbad)) (va_cwS 1 hg (gI (List.forall_mem_append.mpr ⟨List.forall_mem_cons.mpr ⟨k_1181, List.forall_mem_cons.mpr ⟨k_1182, List.forall_mem_cons.mpr ⟨k_13, fun _ h => absurd h List.not_mem_nil⟩⟩⟩, List.forall_mem_cons.mpr ⟨k_1183, fun _ h => h⟩⟩)) rfl rfl rfl (by decide +kernel) ⟨Nat.le_of_ble_eq_true rfl, Nat.le_of_ble_eq_true rfl⟩) ⟨fun a U g mk q => by obtain ⟨q0, q1, qP, qK, qD⟩ := q; exact ⟨q0, q1, qP, va_K.moved (u := U) (U := U.calling g mk a) (Vm.Alike.refl U.vm) qK, qD⟩, fun U hU hW => ⟨rfl, by rw [hU], by rw [hU]; exact hPc, va_K.moved hW.alike hK, hDc.weaken (fun _ _ _ _ => trivial)⟩⟩ rfl rfl hl.1 rfl (lv_room (Nat.le_of_ble_eq_true rfl)) d_Md_draft_9 ⟨Nat.le_of_ble_eq_true rfl, Nat.le_of_ble_eq_true rfl⟩) hS (fun q _ h => hFc q h) hFc (fun rv9 u t H1 locs ht hvm hw hB hz1 hk1 hS => ?_)
  try dsimp only at hw hB
  obtain ⟨hP1, hK1, hD1⟩ := hB
  rw [ht] at hP1
  obtain ⟨rfl, hw⟩ := hw
  obtain ⟨hP, hD⟩ := va_join (wr := [(mo, .inr (12, mdG r cd tm (nI sn) (nI tx) (nI lz) (nI az) (nI na) (nI nt) (nI nr) mw ml mk dq))]) (w1 := []) hP hD [] [0] rfl rfl (by decide) (by decide) hk1 hFc hP1 hD1
  have hw41 := hw
  clear hPc hDc hFc hz1 hk1 hP1 hK1 hD1
  generalize H1 = H at hP hS ⊢
  have hP : va_P (dC, dI) vcl [(mo, .inr (12, mdG r cd tm (nI sn) (nI tx) (nI lz) (nI az) (nI na) (nI nt) (nI nr) mw ml mk dq))] H := hP
  have hD : va_D A [(mo, .inr (12, mdG r cd tm (nI sn) (nI tx) (nI lz) (nI az) (nI na) (nI nt) (nI nr) mw ml mk dq))] := hD
  refine lv_if_eq (tgt := 19) hx hb d_Md_draft_12 (by decide) (fun hc42 => ?_) (fun hn9 => absurd (by decide) hn9)
  refine lv_iconst (v := 0) hx hb d_Md_draft_19 (by decide) ?_
  have hPc := hP.sub (ws' := [(mo, .inr (12, mdG r cd tm (nI sn) (nI tx) (nI lz) (nI az) (nI na) (nI nt) (nI nr) mw ml mk dq))]) [0] rfl
  have hDc := hD.sub (ws' := [(mo, .inr (12, mdG r cd tm (nI sn) (nI tx) (nI lz) (nI az) (nI na) (nI nt) (nI nr) mw ml mk dq))]) [0] (by decide) rfl
  have hFc := va_free (wc := [(mo, .inr (12, mdG r cd tm (nI sn) (nI tx) (nI lz) (nI az) (nI na) (nI nt) (nI nr) mw ml mk dq))]) hD hS hA [0] rfl
  refine va_calli (va_runV (C := "DoorServerModel") (As := [.int 0]) (rest := []) ⟨hx, hb, hml, hown, hg⟩ (m_goes0 l dC dI cT H.size mo r cd tm sn tx lz az na nt nr mw ml mk dq ) (cwV 1 hg (gI (List.forall_mem_append.mpr ⟨List.forall_mem_cons.mpr ⟨k_1165, List.forall_mem_cons.mpr ⟨k_1167, List.forall_mem_cons.mpr ⟨(big_sel (q := y_Md_goes) (n := 45) (by decide +kernel)), List.forall_mem_cons.mpr ⟨k_13, fun _ h => absurd h List.not_mem_nil⟩⟩⟩⟩, List.forall_mem_cons.mpr ⟨k_1168, fun _ h => h⟩⟩)) rfl rfl rfl (by decide +kernel) ⟨Nat.le_of_ble_eq_true rfl, Nat.le_of_ble_eq_true rfl⟩) ⟨fun a U g mk q => by obtain ⟨q0, q1, qP, qK, qD⟩ := q; exact ⟨q0, q1, qP, va_K.moved (u := U) (U := U.calling g mk a) (Vm.Alike.refl U.vm) qK, qD⟩, va_recv (q0 := 0) (ci := 12) hK hP rfl rfl, fun U hU hW => ⟨rfl, by rw [hU], by rw [hU]; exact hPc, va_K.moved hW.alike hK, hDc.weaken (fun _ _ _ _ => trivial)⟩⟩ rfl rfl hl.1 rfl (lv_room (Nat.le_of_ble_eq_true rfl)) d_Md_draft_20 ⟨Nat.le_of_ble_eq_true rfl, Nat.le_of_ble_eq_true rfl⟩) hS (fun q _ h => hFc q h) hFc (fun rv9 u t H1 locs ht hvm hw hB hz1 hk1 hS => ?_)
  try dsimp only at hw hB
  obtain ⟨hP1, hK1, hD1⟩ := hB
  rw [ht] at hP1
  obtain ⟨rfl, hw⟩ := hw
  obtain ⟨hP, hD⟩ := va_join (wr := []) (w1 := [(mo, .inr (12, mdG r 1 tm (nI sn) (nI tx) (nI lz) (nI az) (nI na) (nI nt) (nI nr) mw ml mk dq))]) hP hD [0] [] rfl rfl (by decide) (by decide) hk1 hFc hP1 hD1
  have hw43 := hw
  clear hPc hDc hFc hz1 hk1 hP1 hK1 hD1
  generalize H1 = H at hP hS ⊢
  have hP : va_P (dC, dI) vcl [(mo, .inr (12, mdG r 1 tm (nI sn) (nI tx) (nI lz) (nI az) (nI na) (nI nt) (nI nr) mw ml mk dq))] H := hP
  have hD : va_D A [(mo, .inr (12, mdG r 1 tm (nI sn) (nI tx) (nI lz) (nI az) (nI na) (nI nt) (nI nr) mw ml mk dq))] := hD
  refine lv_if_eq (tgt := 33) hx hb d_Md_draft_23 (by decide) (fun hc44 => ?_) (fun hn9 => absurd (by decide) hn9)
  have hP9 := hP.sub (ws' := [(mo, .inr (12, mdG r 1 tm (nI sn) (nI tx) (nI lz) (nI az) (nI na) (nI nt) (nI nr) mw ml mk dq))]) [0] rfl
  have hD9 := hD.sub (ws' := [(mo, .inr (12, mdG r 1 tm (nI sn) (nI tx) (nI lz) (nI az) (nI na) (nI nt) (nI nr) mw ml mk dq))]) [0] (by decide) rfl
  exact W.vret hx hb hr (fun t ht hW => ⟨⟨(), rfl, trivial, by rw [ht]; exact hP9, va_K.moved hW.alike hK, hD9⟩, hS.F ht⟩) hS.2.2 d_Md_draft_33
set_option maxHeartbeats 4000000 in
set_option maxRecDepth 100000 in
/-- begin -/
theorem m_begin (l : Launch) (dC : Nat → ClassId) (dI : Nat → Nat → Nat) (cT : Nat → ClassId) (sz : Nat) (mo : Nat) (r : Nat → Nat) (cd : Int32) (tm : Int32) (sn : Nat) (tx : Nat) (lz : Nat) (az : Nat) (na : Nat) (nt : Nat) (nr : Nat) (mw : Int32) (ml : Int32) (mk : Int64) (dq : Int64) (f7 : Nat → Int32) (x : Int32) (y : Int32) (v : Int64) (h7 : AB f7) : Met l y_Md_begin (Cond.code y_Md_begin b_Md_begin 6 (Option.none : Option Jvm.ClassFile.FieldType) :: BIG) ({ frames := 1, cells := 0, slots := 0, locals := 21 }) (va_Pc [.ref mo, .int x, .int y, .long v] (fun U => U.heap.size = sz ∧ va_P (dC, dI) vcl [(mo, .inr (12, mdG r cd tm (nI sn) (nI tx) (nI lz) (nI az) (nI na) (nI nt) (nI nr) mw ml mk dq)), (r 7, .inl ((cT 0), 1000, .inl f7))] U.heap ∧ va_K (dC, dI) vcl (tyL cT) U ∧ va_D (fun _ => True) [(mo, .inr (12, mdG r cd tm (nI sn) (nI tx) (nI lz) (nI az) (nI na) (nI nt) (nI nr) mw ml mk dq)), (r 7, .inl ((cT 0), 1000, .inl f7))])) (va_Qv (S := (Nat → Int32)) (fun u => match u with | g7 => AB g7) (fun u t => match u with | g7 => va_P (dC, dI) vcl [(mo, .inr (12, mdG r cd tm (nI 20) (nI tx) (nI lz) (nI az) (nI na) (nI nt) (nI nr) mw ml mk dq)), (r 7, .inl ((cT 0), 1000, .inl g7))] t.heap ∧ va_K (dC, dI) vcl (tyL cT) t ∧ va_D (va_A [(mo, .inr (12, mdG r cd tm (nI sn) (nI tx) (nI lz) (nI az) (nI na) (nI nt) (nI nr) mw ml mk dq)), (r 7, .inl ((cT 0), 1000, .inl f7))] sz) [(mo, .inr (12, mdG r cd tm (nI 20) (nI tx) (nI lz) (nI az) (nI na) (nI nt) (nI nr) mw ml mk dq)), (r 7, .inl ((cT 0), 1000, .inl g7))]) (va_A [(mo, .inr (12, mdG r cd tm (nI sn) (nI tx) (nI lz) (nI az) (nI na) (nI nt) (nI nr) mw ml mk dq)), (r 7, .inl ((cT 0), 1000, .inl f7))] sz)) 0 0 (va_A [(mo, .inr (12, mdG r cd tm (nI sn) (nI tx) (nI lz) (nI az) (nI na) (nI nt) (nI nr) mw ml mk dq)), (r 7, .inl ((cT 0), 1000, .inl f7))] sz) := by
  refine Met.ofW (cc := b_Md_begin) (maxL := 6) (ret := (Option.none : Option Jvm.ClassFile.FieldType)) (by decide) rfl ?_
  intro p e s m args below meth c s₁ B hml hv
  obtain ⟨hargs, hsz, hP, hK, hD0⟩ := hv
  have hx := B.exec
  have hb := B.bytes
  have hr := B.returns
  have hts := atoms_spec (ws := (Cond.code y_Md_begin b_Md_begin 6 (Option.none : Option Jvm.ClassFile.FieldType) :: BIG)) B.pre
  have hg : ∀ w ∈ BIG, w.before _ s = true := fun w h => hts w (List.mem_cons_of_mem _ h)
  have hown : s.vm.findClass "DoorServerModel" = some m.cls := findClass_of_methodNamed B.named
  have hlocks := B.notSynchronized
  subst hsz
  have hD := hD0.self (sz := s.heap.size)
  generalize hAe : va_A [(mo, .inr (12, mdG r cd tm (nI sn) (nI tx) (nI lz) (nI az) (nI na) (nI nt) (nI nr) mw ml mk dq)), (r 7, .inl ((cT 0), 1000, .inl f7))] s.heap.size = A at hD ⊢
  have hA : ∀ q : Nat, s.heap.size ≤ q → A q := fun q h => by rw [← hAe]; exact Or.inr h
  have hS : va_S A s.heap s.heap [] := va_S.rf
  have hl := lv_entry ([.ref mo, .int x, .int y, .long v]) (n := 6) (Nat.le_of_ble_eq_true rfl)
  refine W.eq (g2 := entryFrame m (List.toArray [.ref mo, .int x, .int y, .long v]) 6) (by rw [hargs]) ?_
  rw [lg_entry_eq]
  generalize (lg_sl ([.ref mo, .int x, .int y, .long v]) ++ List.replicate (6 - (lg_sl ([.ref mo, .int x, .int y, .long v])).length) Slot.unset).toArray = ls at hl ⊢
  have hl : lv_has ls 6 [(0, .ref mo), (1, .int x), (2, .int y), (3, .long v)] := hl
  change W p l e ({ frames := 1, cells := 0, slots := 0, locals := 21 } : Room) s m args below meth c s.heap [] 0 0 _ _
  have hP : va_P (dC, dI) vcl [(mo, .inr (12, mdG r cd tm (nI sn) (nI tx) (nI lz) (nI az) (nI na) (nI nt) (nI nr) mw ml mk dq)), (r 7, .inl ((cT 0), 1000, .inl f7))] s.heap := hP
  refine lv_aload_n hx hb d_Md_begin_0 rfl (lv_at hl 0 rfl) ?_
  refine lv_iconst (v := 0) hx hb d_Md_begin_1 (by decide) ?_
  refine lv_topi (fun x46 e45 => ?_)
  obtain rfl : x46 = nI 0 := by rw [e45]; rfl
  refine va_put (D := (dC, dI)) (ci := 12) (v := (.int (nI 0))) (ty := .int) (C := R_Md) (T := F_Md) (N := 45) hx hb hg in_Md t_Md tok_Md nm_Md hown hK hP hD hS 0 rfl rfl 8 (by decide) (hg _ k_1028) (fun _ h9 => h9) rfl (by decide +kernel) rfl rfl (Nat.le_of_ble_eq_true rfl) d_Md_begin_2 (fun H locs hP hD hS => ?_)
  have hP : va_P (dC, dI) vcl [(mo, .inr (12, mdG r cd tm (nI 0) (nI tx) (nI lz) (nI az) (nI na) (nI nt) (nI nr) mw ml mk dq)), (r 7, .inl ((cT 0), 1000, .inl f7))] H := hP
  have hD : va_D A [(mo, .inr (12, mdG r cd tm (nI 0) (nI tx) (nI lz) (nI az) (nI na) (nI nt) (nI nr) mw ml mk dq)), (r 7, .inl ((cT 0), 1000, .inl f7))] := hD
  refine lv_aload_n hx hb d_Md_begin_5 rfl (lv_at hl 0 rfl) ?_
  refine lv_iload_n hx hb d_Md_begin_6 rfl (lv_at hl 1 rfl) ?_
  have hPc := hP.sub (ws' := [(mo, .inr (12, mdG r cd tm (nI 0) (nI tx) (nI lz) (nI az) (nI na) (nI nt) (nI nr) mw ml mk dq)), (r 7, .inl ((cT 0), 1000, .inl f7))]) [0, 1] rfl
  have hDc := hD.sub (ws' := [(mo, .inr (12, mdG r cd tm (nI 0) (nI tx) (nI lz) (nI az) (nI na) (nI nt) (nI nr) mw ml mk dq)), (r 7, .inl ((cT 0), 1000, .inl f7))]) [0, 1] (by decide) rfl
  have hFc := va_free (wc := [(mo, .inr (12, mdG r cd tm (nI 0) (nI tx) (nI lz) (nI az) (nI na) (nI nt) (nI nr) mw ml mk dq)), (r 7, .inl ((cT 0), 1000, .inl f7))]) hD hS hA [0, 1] rfl
  refine va_callv (va_runV (C := "DoorServerModel") (As := [.int x]) (rest := []) ⟨hx, hb, hml, hown, hg⟩ (m_add l dC dI cT H.size mo r cd tm 0 tx lz az na nt nr mw ml mk dq f7 x (by first | assumption | omega) (by first | assumption | omega)) (cwV 1 hg (gI (List.forall_mem_append.mpr ⟨List.forall_mem_cons.mpr ⟨k_1015, List.forall_mem_cons.mpr ⟨k_1017, List.forall_mem_cons.mpr ⟨(big_sel (q := y_Md_add) (n := 45) (by decide +kernel)), List.forall_mem_cons.mpr ⟨k_13, fun _ h => absurd h List.not_mem_nil⟩⟩⟩⟩, List.forall_mem_cons.mpr ⟨k_1018, fun _ h => h⟩⟩)) rfl rfl rfl (by decide +kernel) ⟨Nat.le_of_ble_eq_true rfl, Nat.le_of_ble_eq_true rfl⟩) ⟨fun a U g mk q => by obtain ⟨q0, q1, qP, qK, qD⟩ := q; exact ⟨q0, q1, qP, va_K.moved (u := U) (U := U.calling g mk a) (Vm.Alike.refl U.vm) qK, qD⟩, va_recv (q0 := 0) (ci := 12) hK hP rfl rfl, fun U hU hW => ⟨rfl, by rw [hU], by rw [hU]; exact hPc, va_K.moved hW.alike hK, hDc.weaken (fun _ _ _ _ => trivial)⟩⟩ rfl rfl hl.1 rfl (lv_room (Nat.le_of_ble_eq_true rfl)) d_Md_begin_7 ⟨Nat.le_of_ble_eq_true rfl, Nat.le_of_ble_eq_true rfl⟩) hS (fun q _ h => hFc q h) hFc (fun u t H1 locs ht hvm hw hB hz1 hk1 hS => ?_)
  obtain ⟨g7_47, rfl⟩ : ∃ z, z = u := ⟨_, rfl⟩
  try dsimp only at hw hB
  obtain ⟨hP1, hK1, hD1⟩ := hB
  rw [ht] at hP1
  obtain ⟨hP, hD⟩ := va_join (wr := []) (w1 := [(mo, .inr (12, mdG r cd tm (nI (0 + 1)) (nI tx) (nI lz) (nI az) (nI na) (nI nt) (nI nr) mw ml mk dq)), (r 7, .inl ((cT 0), 1000, .inl g7_47))]) hP hD [0, 1] [] rfl rfl (by decide) (by decide) hk1 hFc hP1 hD1
  have hw48 := hw
  clear hPc hDc hFc hz1 hk1 hP1 hK1 hD1
  generalize H1 = H at hP hS ⊢
  have hP : va_P (dC, dI) vcl [(mo, .inr (12, mdG r cd tm (nI (0 + 1)) (nI tx) (nI lz) (nI az) (nI na) (nI nt) (nI nr) mw ml mk dq)), (r 7, .inl ((cT 0), 1000, .inl g7_47))] H := hP
  have hD : va_D A [(mo, .inr (12, mdG r cd tm (nI (0 + 1)) (nI tx) (nI lz) (nI az) (nI na) (nI nt) (nI nr) mw ml mk dq)), (r 7, .inl ((cT 0), 1000, .inl g7_47))] := hD
  have k49 := hw48
  refine lv_aload_n hx hb d_Md_begin_10 rfl (lv_at hl 0 rfl) ?_
  refine lv_iload_n hx hb d_Md_begin_11 rfl (lv_at hl 2 rfl) ?_
  have hPc := hP.sub (ws' := [(mo, .inr (12, mdG r cd tm (nI (0 + 1)) (nI tx) (nI lz) (nI az) (nI na) (nI nt) (nI nr) mw ml mk dq)), (r 7, .inl ((cT 0), 1000, .inl g7_47))]) [0, 1] rfl
  have hDc := hD.sub (ws' := [(mo, .inr (12, mdG r cd tm (nI (0 + 1)) (nI tx) (nI lz) (nI az) (nI na) (nI nt) (nI nr) mw ml mk dq)), (r 7, .inl ((cT 0), 1000, .inl g7_47))]) [0, 1] (by decide) rfl
  have hFc := va_free (wc := [(mo, .inr (12, mdG r cd tm (nI (0 + 1)) (nI tx) (nI lz) (nI az) (nI na) (nI nt) (nI nr) mw ml mk dq)), (r 7, .inl ((cT 0), 1000, .inl g7_47))]) hD hS hA [0, 1] rfl
  refine va_callv (va_runV (C := "DoorServerModel") (As := [.int y]) (rest := []) ⟨hx, hb, hml, hown, hg⟩ (m_add l dC dI cT H.size mo r cd tm (0 + 1) tx lz az na nt nr mw ml mk dq g7_47 y (by first | assumption | omega) (by first | assumption | omega)) (cwV 1 hg (gI (List.forall_mem_append.mpr ⟨List.forall_mem_cons.mpr ⟨k_1015, List.forall_mem_cons.mpr ⟨k_1017, List.forall_mem_cons.mpr ⟨(big_sel (q := y_Md_add) (n := 45) (by decide +kernel)), List.forall_mem_cons.mpr ⟨k_13, fun _ h => absurd h List.not_mem_nil⟩⟩⟩⟩, List.forall_mem_cons.mpr ⟨k_1018, fun _ h => h⟩⟩)) rfl rfl rfl (by decide +kernel) ⟨Nat.le_of_ble_eq_true rfl, Nat.le_of_ble_eq_true rfl⟩) ⟨fun a U g mk q => by obtain ⟨q0, q1, qP, qK, qD⟩ := q; exact ⟨q0, q1, qP, va_K.moved (u := U) (U := U.calling g mk a) (Vm.Alike.refl U.vm) qK, qD⟩, va_recv (q0 := 0) (ci := 12) hK hP rfl rfl, fun U hU hW => ⟨rfl, by rw [hU], by rw [hU]; exact hPc, va_K.moved hW.alike hK, hDc.weaken (fun _ _ _ _ => trivial)⟩⟩ rfl rfl hl.1 rfl (lv_room (Nat.le_of_ble_eq_true rfl)) d_Md_begin_12 ⟨Nat.le_of_ble_eq_true rfl, Nat.le_of_ble_eq_true rfl⟩) hS (fun q _ h => hFc q h) hFc (fun u t H1 locs ht hvm hw hB hz1 hk1 hS => ?_)
  obtain ⟨g7_50, rfl⟩ : ∃ z, z = u := ⟨_, rfl⟩
  try dsimp only at hw hB
  obtain ⟨hP1, hK1, hD1⟩ := hB
  rw [ht] at hP1
  obtain ⟨hP, hD⟩ := va_join (wr := []) (w1 := [(mo, .inr (12, mdG r cd tm (nI ((0 + 1) + 1)) (nI tx) (nI lz) (nI az) (nI na) (nI nt) (nI nr) mw ml mk dq)), (r 7, .inl ((cT 0), 1000, .inl g7_50))]) hP hD [0, 1] [] rfl rfl (by decide) (by decide) hk1 hFc hP1 hD1
  have hw51 := hw
  clear hPc hDc hFc hz1 hk1 hP1 hK1 hD1
  generalize H1 = H at hP hS ⊢
  have hP : va_P (dC, dI) vcl [(mo, .inr (12, mdG r cd tm (nI ((0 + 1) + 1)) (nI tx) (nI lz) (nI az) (nI na) (nI nt) (nI nr) mw ml mk dq)), (r 7, .inl ((cT 0), 1000, .inl g7_50))] H := hP
  have hD : va_D A [(mo, .inr (12, mdG r cd tm (nI ((0 + 1) + 1)) (nI tx) (nI lz) (nI az) (nI na) (nI nt) (nI nr) mw ml mk dq)), (r 7, .inl ((cT 0), 1000, .inl g7_50))] := hD
  have k52 := hw51
  refine lv_aload_n hx hb d_Md_begin_15 rfl (lv_at hl 0 rfl) ?_
  refine lv_iconst (v := 0) hx hb d_Md_begin_16 (by decide) ?_
  have hPc := hP.sub (ws' := [(mo, .inr (12, mdG r cd tm (nI ((0 + 1) + 1)) (nI tx) (nI lz) (nI az) (nI na) (nI nt) (nI nr) mw ml mk dq)), (r 7, .inl ((cT 0), 1000, .inl g7_50))]) [0, 1] rfl
  have hDc := hD.sub (ws' := [(mo, .inr (12, mdG r cd tm (nI ((0 + 1) + 1)) (nI tx) (nI lz) (nI az) (nI na) (nI nt) (nI nr) mw ml mk dq)), (r 7, .inl ((cT 0), 1000, .inl g7_50))]) [0, 1] (by decide) rfl
  have hFc := va_free (wc := [(mo, .inr (12, mdG r cd tm (nI ((0 + 1) + 1)) (nI tx) (nI lz) (nI az) (nI na) (nI nt) (nI nr) mw ml mk dq)), (r 7, .inl ((cT 0), 1000, .inl g7_50))]) hD hS hA [0, 1] rfl
  refine va_callv (va_runV (C := "DoorServerModel") (As := [.int 0]) (rest := []) ⟨hx, hb, hml, hown, hg⟩ (m_add l dC dI cT H.size mo r cd tm ((0 + 1) + 1) tx lz az na nt nr mw ml mk dq g7_50 0 (by first | assumption | omega) (by first | assumption | omega)) (cwV 1 hg (gI (List.forall_mem_append.mpr ⟨List.forall_mem_cons.mpr ⟨k_1015, List.forall_mem_cons.mpr ⟨k_1017, List.forall_mem_cons.mpr ⟨(big_sel (q := y_Md_add) (n := 45) (by decide +kernel)), List.forall_mem_cons.mpr ⟨k_13, fun _ h => absurd h List.not_mem_nil⟩⟩⟩⟩, List.forall_mem_cons.mpr ⟨k_1018, fun _ h => h⟩⟩)) rfl rfl rfl (by decide +kernel) ⟨Nat.le_of_ble_eq_true rfl, Nat.le_of_ble_eq_true rfl⟩) ⟨fun a U g mk q => by obtain ⟨q0, q1, qP, qK, qD⟩ := q; exact ⟨q0, q1, qP, va_K.moved (u := U) (U := U.calling g mk a) (Vm.Alike.refl U.vm) qK, qD⟩, va_recv (q0 := 0) (ci := 12) hK hP rfl rfl, fun U hU hW => ⟨rfl, by rw [hU], by rw [hU]; exact hPc, va_K.moved hW.alike hK, hDc.weaken (fun _ _ _ _ => trivial)⟩⟩ rfl rfl hl.1 rfl (lv_room (Nat.le_of_ble_eq_true rfl)) d_Md_begin_17 ⟨Nat.le_of_ble_eq_true rfl, Nat.le_of_ble_eq_true rfl⟩) hS (fun q _ h => hFc q h) hFc (fun u t H1 locs ht hvm hw hB hz1 hk1 hS => ?_)
  obtain ⟨g7_53, rfl⟩ : ∃ z, z = u := ⟨_, rfl⟩
  try dsimp only at hw hB
  obtain ⟨hP1, hK1, hD1⟩ := hB
  rw [ht] at hP1
  obtain ⟨hP, hD⟩ := va_join (wr := []) (w1 := [(mo, .inr (12, mdG r cd tm (nI (((0 + 1) + 1) + 1)) (nI tx) (nI lz) (nI az) (nI na) (nI nt) (nI nr) mw ml mk dq)), (r 7, .inl ((cT 0), 1000, .inl g7_53))]) hP hD [0, 1] [] rfl rfl (by decide) (by decide) hk1 hFc hP1 hD1
  have hw54 := hw
  clear hPc hDc hFc hz1 hk1 hP1 hK1 hD1
  generalize H1 = H at hP hS ⊢
  have hP : va_P (dC, dI) vcl [(mo, .inr (12, mdG r cd tm (nI (((0 + 1) + 1) + 1)) (nI tx) (nI lz) (nI az) (nI na) (nI nt) (nI nr) mw ml mk dq)), (r 7, .inl ((cT 0), 1000, .inl g7_53))] H := hP
  have hD : va_D A [(mo, .inr (12, mdG r cd tm (nI (((0 + 1) + 1) + 1)) (nI tx) (nI lz) (nI az) (nI na) (nI nt) (nI nr) mw ml mk dq)), (r 7, .inl ((cT 0), 1000, .inl g7_53))] := hD
  have k55 := hw54
  refine lv_aload_n hx hb d_Md_begin_20 rfl (lv_at hl 0 rfl) ?_
  refine lv_bipush (v := 20) hx hb d_Md_begin_21 (by decide) ?_
  have hPc := hP.sub (ws' := [(mo, .inr (12, mdG r cd tm (nI (((0 + 1) + 1) + 1)) (nI tx) (nI lz) (nI az) (nI na) (nI nt) (nI nr) mw ml mk dq)), (r 7, .inl ((cT 0), 1000, .inl g7_53))]) [0, 1] rfl
  have hDc := hD.sub (ws' := [(mo, .inr (12, mdG r cd tm (nI (((0 + 1) + 1) + 1)) (nI tx) (nI lz) (nI az) (nI na) (nI nt) (nI nr) mw ml mk dq)), (r 7, .inl ((cT 0), 1000, .inl g7_53))]) [0, 1] (by decide) rfl
  have hFc := va_free (wc := [(mo, .inr (12, mdG r cd tm (nI (((0 + 1) + 1) + 1)) (nI tx) (nI lz) (nI az) (nI na) (nI nt) (nI nr) mw ml mk dq)), (r 7, .inl ((cT 0), 1000, .inl g7_53))]) hD hS hA [0, 1] rfl
  refine va_callv (va_runV (C := "DoorServerModel") (As := [.int 20]) (rest := []) ⟨hx, hb, hml, hown, hg⟩ (m_add l dC dI cT H.size mo r cd tm (((0 + 1) + 1) + 1) tx lz az na nt nr mw ml mk dq g7_53 20 (by first | assumption | omega) (by first | assumption | omega)) (cwV 1 hg (gI (List.forall_mem_append.mpr ⟨List.forall_mem_cons.mpr ⟨k_1015, List.forall_mem_cons.mpr ⟨k_1017, List.forall_mem_cons.mpr ⟨(big_sel (q := y_Md_add) (n := 45) (by decide +kernel)), List.forall_mem_cons.mpr ⟨k_13, fun _ h => absurd h List.not_mem_nil⟩⟩⟩⟩, List.forall_mem_cons.mpr ⟨k_1018, fun _ h => h⟩⟩)) rfl rfl rfl (by decide +kernel) ⟨Nat.le_of_ble_eq_true rfl, Nat.le_of_ble_eq_true rfl⟩) ⟨fun a U g mk q => by obtain ⟨q0, q1, qP, qK, qD⟩ := q; exact ⟨q0, q1, qP, va_K.moved (u := U) (U := U.calling g mk a) (Vm.Alike.refl U.vm) qK, qD⟩, va_recv (q0 := 0) (ci := 12) hK hP rfl rfl, fun U hU hW => ⟨rfl, by rw [hU], by rw [hU]; exact hPc, va_K.moved hW.alike hK, hDc.weaken (fun _ _ _ _ => trivial)⟩⟩ rfl rfl hl.1 rfl (lv_room (Nat.le_of_ble_eq_true rfl)) d_Md_begin_23 ⟨Nat.le_of_ble_eq_true rfl, Nat.le_of_ble_eq_true rfl⟩) hS (fun q _ h => hFc q h) hFc (fun u t H1 locs ht hvm hw hB hz1 hk1 hS => ?_)
  obtain ⟨g7_56, rfl⟩ : ∃ z, z = u := ⟨_, rfl⟩
  try dsimp only at hw hB
  obtain ⟨hP1, hK1, hD1⟩ := hB
  rw [ht] at hP1
  obtain ⟨hP, hD⟩ := va_join (wr := []) (w1 := [(mo, .inr (12, mdG r cd tm (nI ((((0 + 1) + 1) + 1) + 1)) (nI tx) (nI lz) (nI az) (nI na) (nI nt) (nI nr) mw ml mk dq)), (r 7, .inl ((cT 0), 1000, .inl g7_56))]) hP hD [0, 1] [] rfl rfl (by decide) (by decide) hk1 hFc hP1 hD1
  have hw57 := hw
  clear hPc hDc hFc hz1 hk1 hP1 hK1 hD1
  generalize H1 = H at hP hS ⊢
  have hP : va_P (dC, dI) vcl [(mo, .inr (12, mdG r cd tm (nI ((((0 + 1) + 1) + 1) + 1)) (nI tx) (nI lz) (nI az) (nI na) (nI nt) (nI nr) mw ml mk dq)), (r 7, .inl ((cT 0), 1000, .inl g7_56))] H := hP
  have hD : va_D A [(mo, .inr (12, mdG r cd tm (nI ((((0 + 1) + 1) + 1) + 1)) (nI tx) (nI lz) (nI az) (nI na) (nI nt) (nI nr) mw ml mk dq)), (r 7, .inl ((cT 0), 1000, .inl g7_56))] := hD
  have k58 := hw57
  refine lv_iconst (v := 0) hx hb d_Md_begin_26 (by decide) ?_
  refine lv_istore (lv' := [(5, .int 0), (0, .ref mo), (1, .int x), (2, .int y), (3, .long v)]) hx hb d_Md_begin_27 hl (by decide) rfl (fun ls hl => ?_)
  have hl := lv_sub hl [0, 1, 2, 3, 4] (show _ = [(5, .int 0), (0, .ref mo), (1, .int x), (2, .int y), (3, .long v)] from rfl)
  have L60 : ∀ (Q : State → Prop) (exit : ∀ (g7_59 : Nat → Int32) (H : Heap) (locs : List Loc) (ls : Array Slot), (AB g7_59) → va_P (dC, dI) vcl [(mo, .inr (12, mdG r cd tm (nI (4 + 16)) (nI tx) (nI lz) (nI az) (nI na) (nI nt) (nI nr) mw ml mk dq)), (r 7, .inl ((cT 0), 1000, .inl g7_59))] H → va_D A [(mo, .inr (12, mdG r cd tm (nI (4 + 16)) (nI tx) (nI lz) (nI az) (nI na) (nI nt) (nI nr) mw ml mk dq)), (r 7, .inl ((cT 0), 1000, .inl g7_59))] → va_S A s.heap H locs → lv_has ls 6 [(5, .int (nI 16)), (0, .ref mo), (1, .int x), (2, .int y), (3, .long v)] → W p l e ({ frames := 1, cells := 0, slots := 0, locals := 21 } : Room) s m args below meth c H locs 0 0 Q (F0 m 75 ls [])) (j8 i : Nat) (g7_59 : Nat → Int32) (H : Heap) (locs : List Loc) (ls : Array Slot), i + j8 = 16 → (AB g7_59) → va_P (dC, dI) vcl [(mo, .inr (12, mdG r cd tm (nI (4 + i)) (nI tx) (nI lz) (nI az) (nI na) (nI nt) (nI nr) mw ml mk dq)), (r 7, .inl ((cT 0), 1000, .inl g7_59))] H → va_D A [(mo, .inr (12, mdG r cd tm (nI (4 + i)) (nI tx) (nI lz) (nI az) (nI na) (nI nt) (nI nr) mw ml mk dq)), (r 7, .inl ((cT 0), 1000, .inl g7_59))] → va_S A s.heap H locs → lv_has ls 6 [(5, .int (nI i)), (0, .ref mo), (1, .int x), (2, .int y), (3, .long v)] → W p l e ({ frames := 1, cells := 0, slots := 0, locals := 21 } : Room) s m args below meth c H locs 0 0 Q (F0 m 29 ls []) := by
    intro Q exit j8
    induction j8 with
    | zero => 
      intro i g7_59 H locs ls hij hab hP hD hS hl
      have hij : 16 = i := by omega
      refine lv_iload hx hb d_Md_begin_29 (lv_at hl 0 rfl) ?_
      refine lv_bipush (v := 16) hx hb d_Md_begin_31 (by decide) ?_
      refine lv_topi (fun x62 e61 => ?_)
      obtain rfl : x62 = nI 16 := by rw [e61]; rfl
      refine lv_icmp_ge (tgt := 75) hx hb d_Md_begin_33 (by decide) (fun hc63 => ?_) (fun hn9 => absurd (nI_le (by omega) (by omega)) hn9)
      subst hij
      exact exit g7_59 _ _ _ hab hP hD hS hl
    | succ j8 ih => 
      intro i g7_59 H locs ls hij hab hP hD hS hl
      have hlt : i < 16 := by omega
      have hlti := hlt
      refine lv_iload hx hb d_Md_begin_29 (lv_at hl 0 rfl) ?_
      refine lv_bipush (v := 16) hx hb d_Md_begin_31 (by decide) ?_
      refine lv_topi (fun x65 e64 => ?_)
      obtain rfl : x65 = nI 16 := by rw [e64]; rfl
      refine lv_icmp_ge (tgt := 75) hx hb d_Md_begin_33 (by decide) (fun hn9 => absurd hn9 (nI_ge (by omega) (by omega))) (fun hc66 => ?_)
      refine lv_aload_n hx hb d_Md_begin_36 rfl (lv_at hl 1 rfl) ?_
      refine lv_lload_n hx hb d_Md_begin_37 rfl (lv_at hl 4 rfl) ?_
      refine lv_bipush (v := 8) hx hb d_Md_begin_38 (by decide) ?_
      refine lv_iload hx hb d_Md_begin_40 (lv_at hl 0 rfl) ?_
      refine lv_bipush (v := 8) hx hb d_Md_begin_42 (by decide) ?_
      refine lv_irem hx hb d_Md_begin_44 (by decide) ?_
      refine lv_topi (fun x68 e67 => ?_)
      obtain rfl : x68 = nI (i % 8) := by rw [e67]; exact pk_rem (d := 8) (by omega) (by decide) (by decide)
      refine lv_imul hx hb d_Md_begin_45 ?_
      refine lv_topi (fun x70 e69 => ?_)
      obtain rfl : x70 = nI (8 * (i % 8)) := by rw [e69]; exact pk_mul 8 (i % 8)
      refine lv_lshr (v := v >>> ((nI (8 * (i % 8))).toInt64 &&& 63)) hx hb d_Md_begin_46 rfl ?_
      refine lv_ldc2 (v := 255) hx hb hown (hg _ k_1019) d_Md_begin_47 ?_
      refine lv_land hx hb d_Md_begin_50 ?_
      refine lv_l2i (v := ((v >>> ((nI (8 * (i % 8))).toInt64 &&& 63)) &&& 255).toInt32) hx hb d_Md_begin_51 rfl ?_
      refine lv_iload hx hb d_Md_begin_52 (lv_at hl 0 rfl) ?_
      refine lv_bipush (v := 8) hx hb d_Md_begin_54 (by decide) ?_
      refine lv_icmp_ge (tgt := 63) hx hb d_Md_begin_56 (by decide) (fun hc71 => ?_) (fun hc71 => ?_)
      · skip
        have n72 : 8 ≤ i := (nI_leI (a := 8) (b := i) (by omega) (by omega)).mp hc71
        refine lv_bipush (v := 90) hx hb d_Md_begin_63 (by decide) ?_
        refine lv_ixor hx hb d_Md_begin_65 ?_
        have hPc := hP.sub (ws' := [(mo, .inr (12, mdG r cd tm (nI (4 + i)) (nI tx) (nI lz) (nI az) (nI na) (nI nt) (nI nr) mw ml mk dq)), (r 7, .inl ((cT 0), 1000, .inl g7_59))]) [0, 1] rfl
        have hDc := hD.sub (ws' := [(mo, .inr (12, mdG r cd tm (nI (4 + i)) (nI tx) (nI lz) (nI az) (nI na) (nI nt) (nI nr) mw ml mk dq)), (r 7, .inl ((cT 0), 1000, .inl g7_59))]) [0, 1] (by decide) rfl
        have hFc := va_free (wc := [(mo, .inr (12, mdG r cd tm (nI (4 + i)) (nI tx) (nI lz) (nI az) (nI na) (nI nt) (nI nr) mw ml mk dq)), (r 7, .inl ((cT 0), 1000, .inl g7_59))]) hD hS hA [0, 1] rfl
        refine va_callv (va_runV (C := "DoorServerModel") (As := [.int ((((v >>> ((nI (8 * (i % 8))).toInt64 &&& 63)) &&& 255).toInt32) ^^^ 90)]) (rest := []) ⟨hx, hb, hml, hown, hg⟩ (m_add l dC dI cT H.size mo r cd tm (4 + i) tx lz az na nt nr mw ml mk dq g7_59 ((((v >>> ((nI (8 * (i % 8))).toInt64 &&& 63)) &&& 255).toInt32) ^^^ 90) (by first | assumption | omega) (by first | assumption | omega)) (cwV 1 hg (gI (List.forall_mem_append.mpr ⟨List.forall_mem_cons.mpr ⟨k_1015, List.forall_mem_cons.mpr ⟨k_1017, List.forall_mem_cons.mpr ⟨(big_sel (q := y_Md_add) (n := 45) (by decide +kernel)), List.forall_mem_cons.mpr ⟨k_13, fun _ h => absurd h List.not_mem_nil⟩⟩⟩⟩, List.forall_mem_cons.mpr ⟨k_1018, fun _ h => h⟩⟩)) rfl rfl rfl (by decide +kernel) ⟨Nat.le_of_ble_eq_true rfl, Nat.le_of_ble_eq_true rfl⟩) ⟨fun a U g mk q => by obtain ⟨q0, q1, qP, qK, qD⟩ := q; exact ⟨q0, q1, qP, va_K.moved (u := U) (U := U.calling g mk a) (Vm.Alike.refl U.vm) qK, qD⟩, va_recv (q0 := 0) (ci := 12) hK hP rfl rfl, fun U hU hW => ⟨rfl, by rw [hU], by rw [hU]; exact hPc, va_K.moved hW.alike hK, hDc.weaken (fun _ _ _ _ => trivial)⟩⟩ rfl rfl hl.1 rfl (lv_room (Nat.le_of_ble_eq_true rfl)) d_Md_begin_66 ⟨Nat.le_of_ble_eq_true rfl, Nat.le_of_ble_eq_true rfl⟩) hS (fun q _ h => hFc q h) hFc (fun u t H1 locs ht hvm hw hB hz1 hk1 hS => ?_)
        obtain ⟨g7_74, rfl⟩ : ∃ z, z = u := ⟨_, rfl⟩
        try dsimp only at hw hB
        obtain ⟨hP1, hK1, hD1⟩ := hB
        rw [ht] at hP1
        obtain ⟨hP, hD⟩ := va_join (wr := []) (w1 := [(mo, .inr (12, mdG r cd tm (nI ((4 + i) + 1)) (nI tx) (nI lz) (nI az) (nI na) (nI nt) (nI nr) mw ml mk dq)), (r 7, .inl ((cT 0), 1000, .inl g7_74))]) hP hD [0, 1] [] rfl rfl (by decide) (by decide) hk1 hFc hP1 hD1
        have hw75 := hw
        clear hPc hDc hFc hz1 hk1 hP1 hK1 hD1
        generalize H1 = H at hP hS ⊢
        have hP : va_P (dC, dI) vcl [(mo, .inr (12, mdG r cd tm (nI ((4 + i) + 1)) (nI tx) (nI lz) (nI az) (nI na) (nI nt) (nI nr) mw ml mk dq)), (r 7, .inl ((cT 0), 1000, .inl g7_74))] H := hP
        have hD : va_D A [(mo, .inr (12, mdG r cd tm (nI ((4 + i) + 1)) (nI tx) (nI lz) (nI az) (nI na) (nI nt) (nI nr) mw ml mk dq)), (r 7, .inl ((cT 0), 1000, .inl g7_74))] := hD
        have k76 := hw75
        refine lv_iinc (k := 0) (v := nI (i + 1)) (lv' := [(5, .int (nI (i + 1))), (0, .ref mo), (1, .int x), (2, .int y), (3, .long v)]) hx hb d_Md_begin_69 hl rfl (nI_1 i) (by decide) rfl (fun ls hl => ?_)
        refine lv_goto (tgt := 29) hx hb d_Md_begin_72 (by decide) ?_
        have hl := lv_sub hl [0, 1, 2, 3, 4] (show _ = [(5, .int (nI (i + 1))), (0, .ref mo), (1, .int x), (2, .int y), (3, .long v)] from rfl)
        exact ih (i + 1) _ _ _ _ (by omega) (by first | assumption | omega) hP hD hS hl
      · skip
        have n73 : i < 8 := Nat.not_le.mp (fun h7 => hc71 ((nI_leI (a := 8) (b := i) (by omega) (by omega)).mpr h7))
        refine lv_iconst (v := 0) hx hb d_Md_begin_59 (by decide) ?_
        refine lv_goto (tgt := 65) hx hb d_Md_begin_60 (by decide) ?_
        refine lv_ixor hx hb d_Md_begin_65 ?_
        have hPc := hP.sub (ws' := [(mo, .inr (12, mdG r cd tm (nI (4 + i)) (nI tx) (nI lz) (nI az) (nI na) (nI nt) (nI nr) mw ml mk dq)), (r 7, .inl ((cT 0), 1000, .inl g7_59))]) [0, 1] rfl
        have hDc := hD.sub (ws' := [(mo, .inr (12, mdG r cd tm (nI (4 + i)) (nI tx) (nI lz) (nI az) (nI na) (nI nt) (nI nr) mw ml mk dq)), (r 7, .inl ((cT 0), 1000, .inl g7_59))]) [0, 1] (by decide) rfl
        have hFc := va_free (wc := [(mo, .inr (12, mdG r cd tm (nI (4 + i)) (nI tx) (nI lz) (nI az) (nI na) (nI nt) (nI nr) mw ml mk dq)), (r 7, .inl ((cT 0), 1000, .inl g7_59))]) hD hS hA [0, 1] rfl
        refine va_callv (va_runV (C := "DoorServerModel") (As := [.int ((((v >>> ((nI (8 * (i % 8))).toInt64 &&& 63)) &&& 255).toInt32) ^^^ 0)]) (rest := []) ⟨hx, hb, hml, hown, hg⟩ (m_add l dC dI cT H.size mo r cd tm (4 + i) tx lz az na nt nr mw ml mk dq g7_59 ((((v >>> ((nI (8 * (i % 8))).toInt64 &&& 63)) &&& 255).toInt32) ^^^ 0) (by first | assumption | omega) (by first | assumption | omega)) (cwV 1 hg (gI (List.forall_mem_append.mpr ⟨List.forall_mem_cons.mpr ⟨k_1015, List.forall_mem_cons.mpr ⟨k_1017, List.forall_mem_cons.mpr ⟨(big_sel (q := y_Md_add) (n := 45) (by decide +kernel)), List.forall_mem_cons.mpr ⟨k_13, fun _ h => absurd h List.not_mem_nil⟩⟩⟩⟩, List.forall_mem_cons.mpr ⟨k_1018, fun _ h => h⟩⟩)) rfl rfl rfl (by decide +kernel) ⟨Nat.le_of_ble_eq_true rfl, Nat.le_of_ble_eq_true rfl⟩) ⟨fun a U g mk q => by obtain ⟨q0, q1, qP, qK, qD⟩ := q; exact ⟨q0, q1, qP, va_K.moved (u := U) (U := U.calling g mk a) (Vm.Alike.refl U.vm) qK, qD⟩, va_recv (q0 := 0) (ci := 12) hK hP rfl rfl, fun U hU hW => ⟨rfl, by rw [hU], by rw [hU]; exact hPc, va_K.moved hW.alike hK, hDc.weaken (fun _ _ _ _ => trivial)⟩⟩ rfl rfl hl.1 rfl (lv_room (Nat.le_of_ble_eq_true rfl)) d_Md_begin_66 ⟨Nat.le_of_ble_eq_true rfl, Nat.le_of_ble_eq_true rfl⟩) hS (fun q _ h => hFc q h) hFc (fun u t H1 locs ht hvm hw hB hz1 hk1 hS => ?_)
        obtain ⟨g7_77, rfl⟩ : ∃ z, z = u := ⟨_, rfl⟩
        try dsimp only at hw hB
        obtain ⟨hP1, hK1, hD1⟩ := hB
        rw [ht] at hP1
        obtain ⟨hP, hD⟩ := va_join (wr := []) (w1 := [(mo, .inr (12, mdG r cd tm (nI ((4 + i) + 1)) (nI tx) (nI lz) (nI az) (nI na) (nI nt) (nI nr) mw ml mk dq)), (r 7, .inl ((cT 0), 1000, .inl g7_77))]) hP hD [0, 1] [] rfl rfl (by decide) (by decide) hk1 hFc hP1 hD1
        have hw78 := hw
        clear hPc hDc hFc hz1 hk1 hP1 hK1 hD1
        generalize H1 = H at hP hS ⊢
        have hP : va_P (dC, dI) vcl [(mo, .inr (12, mdG r cd tm (nI ((4 + i) + 1)) (nI tx) (nI lz) (nI az) (nI na) (nI nt) (nI nr) mw ml mk dq)), (r 7, .inl ((cT 0), 1000, .inl g7_77))] H := hP
        have hD : va_D A [(mo, .inr (12, mdG r cd tm (nI ((4 + i) + 1)) (nI tx) (nI lz) (nI az) (nI na) (nI nt) (nI nr) mw ml mk dq)), (r 7, .inl ((cT 0), 1000, .inl g7_77))] := hD
        have k79 := hw78
        refine lv_iinc (k := 0) (v := nI (i + 1)) (lv' := [(5, .int (nI (i + 1))), (0, .ref mo), (1, .int x), (2, .int y), (3, .long v)]) hx hb d_Md_begin_69 hl rfl (nI_1 i) (by decide) rfl (fun ls hl => ?_)
        refine lv_goto (tgt := 29) hx hb d_Md_begin_72 (by decide) ?_
        have hl := lv_sub hl [0, 1, 2, 3, 4] (show _ = [(5, .int (nI (i + 1))), (0, .ref mo), (1, .int x), (2, .int y), (3, .long v)] from rfl)
        exact ih (i + 1) _ _ _ _ (by omega) (by first | assumption | omega) hP hD hS hl
  refine L60 _ (fun g7_59 H locs ls hab hP hD hS hl => ?_) (16 - 0) 0 g7_56 H _ ls (by omega) (by first | assumption | omega) hP hD hS hl
  have hP9 := hP.sub (ws' := [(mo, .inr (12, mdG r cd tm (nI (4 + 16)) (nI tx) (nI lz) (nI az) (nI na) (nI nt) (nI nr) mw ml mk dq)), (r 7, .inl ((cT 0), 1000, .inl g7_59))]) [0, 1] rfl
  have hD9 := hD.sub (ws' := [(mo, .inr (12, mdG r cd tm (nI (4 + 16)) (nI tx) (nI lz) (nI az) (nI na) (nI nt) (nI nr) mw ml mk dq)), (r 7, .inl ((cT 0), 1000, .inl g7_59))]) [0, 1] (by decide) rfl
  exact W.vret hx hb hr (fun t ht hW => ⟨⟨g7_59, rfl, by first | assumption | omega, by rw [ht]; exact hP9, va_K.moved hW.alike hK, hD9⟩, hS.F ht⟩) hS.2.2 d_Md_begin_75
set_option maxHeartbeats 4000000 in
set_option maxRecDepth 100000 in
/-- draft -/
theorem o_draft (l : Launch) (dC : Nat → ClassId) (dI : Nat → Nat → Nat) (cT : Nat → ClassId) (sz : Nat) (mo : Nat) (r : Nat → Nat) (cd : Int32) (tm : Int32) (sn : Nat) (tx : Nat) (lz : Nat) (az : Nat) (na : Nat) (nt : Nat) (nr : Nat) (mw : Int32) (ml : Int32) (mk : Int64) (dq : Int64) (f7 : Nat → Int32) (x : Int32) (y : Int32) (v : Int64) (h7 : AB f7) (hx1 : ¬ x < 0) (hx2 : ¬ 255 < x) (hy1 : ¬ y < 0) (hy2 : ¬ 255 < y) : Met l y_Md_draft (Cond.code y_Md_draft b_Md_draft 5 (Option.none : Option Jvm.ClassFile.FieldType) :: BIG) ({ frames := 2, cells := 0, slots := 0, locals := 46 }) (va_Pc [.ref mo, .int x, .int y, .long v] (fun U => U.heap.size = sz ∧ va_P (dC, dI) vcl [(mo, .inr (12, mdG r cd tm (nI sn) (nI tx) (nI lz) (nI az) (nI na) (nI nt) (nI nr) mw ml mk dq)), (r 7, .inl ((cT 0), 1000, .inl f7))] U.heap ∧ va_K (dC, dI) vcl (tyL cT) U ∧ va_D (fun _ => True) [(mo, .inr (12, mdG r cd tm (nI sn) (nI tx) (nI lz) (nI az) (nI na) (nI nt) (nI nr) mw ml mk dq)), (r 7, .inl ((cT 0), 1000, .inl f7))])) (va_Qv (S := (Nat → Int32)) (fun u => match u with | g7 => AB g7) (fun u t => match u with | g7 => va_P (dC, dI) vcl [(mo, .inr (12, mdG r 0 tm (nI 20) (nI tx) (nI lz) (nI az) (nI na) (nI nt) (nI nr) mw ml mk dq)), (r 7, .inl ((cT 0), 1000, .inl g7))] t.heap ∧ va_K (dC, dI) vcl (tyL cT) t ∧ va_D (va_A [(mo, .inr (12, mdG r cd tm (nI sn) (nI tx) (nI lz) (nI az) (nI na) (nI nt) (nI nr) mw ml mk dq)), (r 7, .inl ((cT 0), 1000, .inl f7))] sz) [(mo, .inr (12, mdG r 0 tm (nI 20) (nI tx) (nI lz) (nI az) (nI na) (nI nt) (nI nr) mw ml mk dq)), (r 7, .inl ((cT 0), 1000, .inl g7))]) (va_A [(mo, .inr (12, mdG r cd tm (nI sn) (nI tx) (nI lz) (nI az) (nI na) (nI nt) (nI nr) mw ml mk dq)), (r 7, .inl ((cT 0), 1000, .inl f7))] sz)) 0 0 (va_A [(mo, .inr (12, mdG r cd tm (nI sn) (nI tx) (nI lz) (nI az) (nI na) (nI nt) (nI nr) mw ml mk dq)), (r 7, .inl ((cT 0), 1000, .inl f7))] sz) := by
  refine Met.ofW (cc := b_Md_draft) (maxL := 5) (ret := (Option.none : Option Jvm.ClassFile.FieldType)) (by decide) rfl ?_
  intro p e s m args below meth c s₁ B hml hv
  obtain ⟨hargs, hsz, hP, hK, hD0⟩ := hv
  have hx := B.exec
  have hb := B.bytes
  have hr := B.returns
  have hts := atoms_spec (ws := (Cond.code y_Md_draft b_Md_draft 5 (Option.none : Option Jvm.ClassFile.FieldType) :: BIG)) B.pre
  have hg : ∀ w ∈ BIG, w.before _ s = true := fun w h => hts w (List.mem_cons_of_mem _ h)
  have hown : s.vm.findClass "DoorServerModel" = some m.cls := findClass_of_methodNamed B.named
  have hlocks := B.notSynchronized
  subst hsz
  have hD := hD0.self (sz := s.heap.size)
  generalize hAe : va_A [(mo, .inr (12, mdG r cd tm (nI sn) (nI tx) (nI lz) (nI az) (nI na) (nI nt) (nI nr) mw ml mk dq)), (r 7, .inl ((cT 0), 1000, .inl f7))] s.heap.size = A at hD ⊢
  have hA : ∀ q : Nat, s.heap.size ≤ q → A q := fun q h => by rw [← hAe]; exact Or.inr h
  have hS : va_S A s.heap s.heap [] := va_S.rf
  have hl := lv_entry ([.ref mo, .int x, .int y, .long v]) (n := 5) (Nat.le_of_ble_eq_true rfl)
  refine W.eq (g2 := entryFrame m (List.toArray [.ref mo, .int x, .int y, .long v]) 5) (by rw [hargs]) ?_
  rw [lg_entry_eq]
  generalize (lg_sl ([.ref mo, .int x, .int y, .long v]) ++ List.replicate (5 - (lg_sl ([.ref mo, .int x, .int y, .long v])).length) Slot.unset).toArray = ls at hl ⊢
  have hl : lv_has ls 5 [(0, .ref mo), (1, .int x), (2, .int y), (3, .long v)] := hl
  change W p l e ({ frames := 2, cells := 0, slots := 0, locals := 46 } : Room) s m args below meth c s.heap [] 0 0 _ _
  have hP : va_P (dC, dI) vcl [(mo, .inr (12, mdG r cd tm (nI sn) (nI tx) (nI lz) (nI az) (nI na) (nI nt) (nI nr) mw ml mk dq)), (r 7, .inl ((cT 0), 1000, .inl f7))] s.heap := hP
  refine lv_aload_n hx hb d_Md_draft_0 rfl (lv_at hl 0 rfl) ?_
  refine lv_iload_n hx hb d_Md_draft_1 rfl (lv_at hl 1 rfl) ?_
  have hPc := hP.sub (ws' := []) [] rfl
  have hDc := hD.sub (ws' := []) [] (by decide) rfl
  have hFc := va_free (wc := []) hD hS hA [] rfl
  refine va_calli (va_runS (As := [.int x]) (rest := [.ref mo]) ⟨hx, hb, hml, hown, hg⟩ (m_byte1 l dC dI cT s.heap.size x (hx1) (hx2)) (va_cwS 1 hg (gI (List.forall_mem_append.mpr ⟨List.forall_mem_cons.mpr ⟨k_1181, List.forall_mem_cons.mpr ⟨k_1182, List.forall_mem_cons.mpr ⟨k_13, fun _ h => absurd h List.not_mem_nil⟩⟩⟩, List.forall_mem_cons.mpr ⟨k_1183, fun _ h => h⟩⟩)) rfl rfl rfl (by decide +kernel) ⟨Nat.le_of_ble_eq_true rfl, Nat.le_of_ble_eq_true rfl⟩) ⟨fun a U g mk q => by obtain ⟨q0, q1, qP, qK, qD⟩ := q; exact ⟨q0, q1, qP, va_K.moved (u := U) (U := U.calling g mk a) (Vm.Alike.refl U.vm) qK, qD⟩, fun U hU hW => ⟨rfl, by rw [hU], by rw [hU]; exact hPc, va_K.moved hW.alike hK, hDc.weaken (fun _ _ _ _ => trivial)⟩⟩ rfl rfl hl.1 rfl (lv_room (Nat.le_of_ble_eq_true rfl)) d_Md_draft_2 ⟨Nat.le_of_ble_eq_true rfl, Nat.le_of_ble_eq_true rfl⟩) hS (fun q _ h => hFc q h) hFc (fun rv9 u t H1 locs ht hvm hw hB hz1 hk1 hS => ?_)
  try dsimp only at hw hB
  obtain ⟨hP1, hK1, hD1⟩ := hB
  rw [ht] at hP1
  obtain ⟨rfl, hw⟩ := hw
  obtain ⟨hP, hD⟩ := va_join (wr := [(mo, .inr (12, mdG r cd tm (nI sn) (nI tx) (nI lz) (nI az) (nI na) (nI nt) (nI nr) mw ml mk dq)), (r 7, .inl ((cT 0), 1000, .inl f7))]) (w1 := []) hP hD [] [0, 1] rfl rfl (by decide) (by decide) hk1 hFc hP1 hD1
  have hw80 := hw
  clear hPc hDc hFc hz1 hk1 hP1 hK1 hD1
  generalize H1 = H at hP hS ⊢
  have hP : va_P (dC, dI) vcl [(mo, .inr (12, mdG r cd tm (nI sn) (nI tx) (nI lz) (nI az) (nI na) (nI nt) (nI nr) mw ml mk dq)), (r 7, .inl ((cT 0), 1000, .inl f7))] H := hP
  have hD : va_D A [(mo, .inr (12, mdG r cd tm (nI sn) (nI tx) (nI lz) (nI az) (nI na) (nI nt) (nI nr) mw ml mk dq)), (r 7, .inl ((cT 0), 1000, .inl f7))] := hD
  refine lv_if_eq (tgt := 19) hx hb d_Md_draft_5 (by decide) (fun hn9 => absurd hn9 (by decide)) (fun hc81 => ?_)
  refine lv_iload_n hx hb d_Md_draft_8 rfl (lv_at hl 2 rfl) ?_
  have hPc := hP.sub (ws' := []) [] rfl
  have hDc := hD.sub (ws' := []) [] (by decide) rfl
  have hFc := va_free (wc := []) hD hS hA [] rfl
  refine va_calli (va_runS (As := [.int y]) (rest := [.ref mo]) ⟨hx, hb, hml, hown, hg⟩ (m_byte1 l dC dI cT H.size y (hy1) (hy2)) (va_cwS 1 hg (gI (List.forall_mem_append.mpr ⟨List.forall_mem_cons.mpr ⟨k_1181, List.forall_mem_cons.mpr ⟨k_1182, List.forall_mem_cons.mpr ⟨k_13, fun _ h => absurd h List.not_mem_nil⟩⟩⟩, List.forall_mem_cons.mpr ⟨k_1183, fun _ h => h⟩⟩)) rfl rfl rfl (by decide +kernel) ⟨Nat.le_of_ble_eq_true rfl, Nat.le_of_ble_eq_true rfl⟩) ⟨fun a U g mk q => by obtain ⟨q0, q1, qP, qK, qD⟩ := q; exact ⟨q0, q1, qP, va_K.moved (u := U) (U := U.calling g mk a) (Vm.Alike.refl U.vm) qK, qD⟩, fun U hU hW => ⟨rfl, by rw [hU], by rw [hU]; exact hPc, va_K.moved hW.alike hK, hDc.weaken (fun _ _ _ _ => trivial)⟩⟩ rfl rfl hl.1 rfl (lv_room (Nat.le_of_ble_eq_true rfl)) d_Md_draft_9 ⟨Nat.le_of_ble_eq_true rfl, Nat.le_of_ble_eq_true rfl⟩) hS (fun q _ h => hFc q h) hFc (fun rv9 u t H1 locs ht hvm hw hB hz1 hk1 hS => ?_)
  try dsimp only at hw hB
  obtain ⟨hP1, hK1, hD1⟩ := hB
  rw [ht] at hP1
  obtain ⟨rfl, hw⟩ := hw
  obtain ⟨hP, hD⟩ := va_join (wr := [(mo, .inr (12, mdG r cd tm (nI sn) (nI tx) (nI lz) (nI az) (nI na) (nI nt) (nI nr) mw ml mk dq)), (r 7, .inl ((cT 0), 1000, .inl f7))]) (w1 := []) hP hD [] [0, 1] rfl rfl (by decide) (by decide) hk1 hFc hP1 hD1
  have hw82 := hw
  clear hPc hDc hFc hz1 hk1 hP1 hK1 hD1
  generalize H1 = H at hP hS ⊢
  have hP : va_P (dC, dI) vcl [(mo, .inr (12, mdG r cd tm (nI sn) (nI tx) (nI lz) (nI az) (nI na) (nI nt) (nI nr) mw ml mk dq)), (r 7, .inl ((cT 0), 1000, .inl f7))] H := hP
  have hD : va_D A [(mo, .inr (12, mdG r cd tm (nI sn) (nI tx) (nI lz) (nI az) (nI na) (nI nt) (nI nr) mw ml mk dq)), (r 7, .inl ((cT 0), 1000, .inl f7))] := hD
  refine lv_if_eq (tgt := 19) hx hb d_Md_draft_12 (by decide) (fun hn9 => absurd hn9 (by decide)) (fun hc83 => ?_)
  refine lv_iconst (v := 1) hx hb d_Md_draft_15 (by decide) ?_
  refine lv_goto (tgt := 20) hx hb d_Md_draft_16 (by decide) ?_
  have hPc := hP.sub (ws' := [(mo, .inr (12, mdG r cd tm (nI sn) (nI tx) (nI lz) (nI az) (nI na) (nI nt) (nI nr) mw ml mk dq))]) [0] rfl
  have hDc := hD.sub (ws' := [(mo, .inr (12, mdG r cd tm (nI sn) (nI tx) (nI lz) (nI az) (nI na) (nI nt) (nI nr) mw ml mk dq))]) [0] (by decide) rfl
  have hFc := va_free (wc := [(mo, .inr (12, mdG r cd tm (nI sn) (nI tx) (nI lz) (nI az) (nI na) (nI nt) (nI nr) mw ml mk dq))]) hD hS hA [0] rfl
  refine va_calli (va_runV (C := "DoorServerModel") (As := [.int 1]) (rest := []) ⟨hx, hb, hml, hown, hg⟩ (m_goes1 l dC dI cT H.size mo r cd tm sn tx lz az na nt nr mw ml mk dq ) (cwV 1 hg (gI (List.forall_mem_append.mpr ⟨List.forall_mem_cons.mpr ⟨k_1165, List.forall_mem_cons.mpr ⟨k_1167, List.forall_mem_cons.mpr ⟨(big_sel (q := y_Md_goes) (n := 45) (by decide +kernel)), List.forall_mem_cons.mpr ⟨k_13, fun _ h => absurd h List.not_mem_nil⟩⟩⟩⟩, List.forall_mem_cons.mpr ⟨k_1168, fun _ h => h⟩⟩)) rfl rfl rfl (by decide +kernel) ⟨Nat.le_of_ble_eq_true rfl, Nat.le_of_ble_eq_true rfl⟩) ⟨fun a U g mk q => by obtain ⟨q0, q1, qP, qK, qD⟩ := q; exact ⟨q0, q1, qP, va_K.moved (u := U) (U := U.calling g mk a) (Vm.Alike.refl U.vm) qK, qD⟩, va_recv (q0 := 0) (ci := 12) hK hP rfl rfl, fun U hU hW => ⟨rfl, by rw [hU], by rw [hU]; exact hPc, va_K.moved hW.alike hK, hDc.weaken (fun _ _ _ _ => trivial)⟩⟩ rfl rfl hl.1 rfl (lv_room (Nat.le_of_ble_eq_true rfl)) d_Md_draft_20 ⟨Nat.le_of_ble_eq_true rfl, Nat.le_of_ble_eq_true rfl⟩) hS (fun q _ h => hFc q h) hFc (fun rv9 u t H1 locs ht hvm hw hB hz1 hk1 hS => ?_)
  try dsimp only at hw hB
  obtain ⟨hP1, hK1, hD1⟩ := hB
  rw [ht] at hP1
  obtain ⟨rfl, hw⟩ := hw
  obtain ⟨hP, hD⟩ := va_join (wr := [(r 7, .inl ((cT 0), 1000, .inl f7))]) (w1 := [(mo, .inr (12, mdG r 0 tm (nI sn) (nI tx) (nI lz) (nI az) (nI na) (nI nt) (nI nr) mw ml mk dq))]) hP hD [0] [1] rfl rfl (by decide) (by decide) hk1 hFc hP1 hD1
  have hw84 := hw
  clear hPc hDc hFc hz1 hk1 hP1 hK1 hD1
  generalize H1 = H at hP hS ⊢
  have hP : va_P (dC, dI) vcl [(r 7, .inl ((cT 0), 1000, .inl f7)), (mo, .inr (12, mdG r 0 tm (nI sn) (nI tx) (nI lz) (nI az) (nI na) (nI nt) (nI nr) mw ml mk dq))] H := hP
  have hD : va_D A [(r 7, .inl ((cT 0), 1000, .inl f7)), (mo, .inr (12, mdG r 0 tm (nI sn) (nI tx) (nI lz) (nI az) (nI na) (nI nt) (nI nr) mw ml mk dq))] := hD
  refine lv_if_eq (tgt := 33) hx hb d_Md_draft_23 (by decide) (fun hn9 => absurd hn9 (by decide)) (fun hc85 => ?_)
  refine lv_aload_n hx hb d_Md_draft_26 rfl (lv_at hl 0 rfl) ?_
  refine lv_iload_n hx hb d_Md_draft_27 rfl (lv_at hl 1 rfl) ?_
  refine lv_iload_n hx hb d_Md_draft_28 rfl (lv_at hl 2 rfl) ?_
  refine lv_lload_n hx hb d_Md_draft_29 rfl (lv_at hl 3 rfl) ?_
  have hPc := hP.sub (ws' := [(mo, .inr (12, mdG r 0 tm (nI sn) (nI tx) (nI lz) (nI az) (nI na) (nI nt) (nI nr) mw ml mk dq)), (r 7, .inl ((cT 0), 1000, .inl f7))]) [1, 0] rfl
  have hDc := hD.sub (ws' := [(mo, .inr (12, mdG r 0 tm (nI sn) (nI tx) (nI lz) (nI az) (nI na) (nI nt) (nI nr) mw ml mk dq)), (r 7, .inl ((cT 0), 1000, .inl f7))]) [1, 0] (by decide) rfl
  have hFc := va_free (wc := [(mo, .inr (12, mdG r 0 tm (nI sn) (nI tx) (nI lz) (nI az) (nI na) (nI nt) (nI nr) mw ml mk dq)), (r 7, .inl ((cT 0), 1000, .inl f7))]) hD hS hA [1, 0] rfl
  refine va_callv (va_runV (C := "DoorServerModel") (As := [.int x, .int y, .long v]) (rest := []) ⟨hx, hb, hml, hown, hg⟩ (m_begin l dC dI cT H.size mo r 0 tm sn tx lz az na nt nr mw ml mk dq f7 x y v (by first | assumption | omega)) (cwV 3 hg (gI (List.forall_mem_append.mpr ⟨List.forall_mem_cons.mpr ⟨k_1011, List.forall_mem_cons.mpr ⟨k_1013, List.forall_mem_cons.mpr ⟨(big_sel (q := y_Md_begin) (n := 45) (by decide +kernel)), List.forall_mem_cons.mpr ⟨k_13, fun _ h => absurd h List.not_mem_nil⟩⟩⟩⟩, List.forall_mem_cons.mpr ⟨k_1014, fun _ h => h⟩⟩)) rfl rfl rfl (by decide +kernel) ⟨Nat.le_of_ble_eq_true rfl, Nat.le_of_ble_eq_true rfl⟩) ⟨fun a U g mk q => by obtain ⟨q0, q1, qP, qK, qD⟩ := q; exact ⟨q0, q1, qP, va_K.moved (u := U) (U := U.calling g mk a) (Vm.Alike.refl U.vm) qK, qD⟩, va_recv (q0 := 1) (ci := 12) hK hP rfl rfl, fun U hU hW => ⟨rfl, by rw [hU], by rw [hU]; exact hPc, va_K.moved hW.alike hK, hDc.weaken (fun _ _ _ _ => trivial)⟩⟩ rfl rfl hl.1 rfl (lv_room (Nat.le_of_ble_eq_true rfl)) d_Md_draft_30 ⟨Nat.le_of_ble_eq_true rfl, Nat.le_of_ble_eq_true rfl⟩) hS (fun q _ h => hFc q h) hFc (fun u t H1 locs ht hvm hw hB hz1 hk1 hS => ?_)
  obtain ⟨g7_86, rfl⟩ : ∃ z, z = u := ⟨_, rfl⟩
  try dsimp only at hw hB
  obtain ⟨hP1, hK1, hD1⟩ := hB
  rw [ht] at hP1
  obtain ⟨hP, hD⟩ := va_join (wr := []) (w1 := [(mo, .inr (12, mdG r 0 tm (nI 20) (nI tx) (nI lz) (nI az) (nI na) (nI nt) (nI nr) mw ml mk dq)), (r 7, .inl ((cT 0), 1000, .inl g7_86))]) hP hD [1, 0] [] rfl rfl (by decide) (by decide) hk1 hFc hP1 hD1
  have hw87 := hw
  clear hPc hDc hFc hz1 hk1 hP1 hK1 hD1
  generalize H1 = H at hP hS ⊢
  have hP : va_P (dC, dI) vcl [(mo, .inr (12, mdG r 0 tm (nI 20) (nI tx) (nI lz) (nI az) (nI na) (nI nt) (nI nr) mw ml mk dq)), (r 7, .inl ((cT 0), 1000, .inl g7_86))] H := hP
  have hD : va_D A [(mo, .inr (12, mdG r 0 tm (nI 20) (nI tx) (nI lz) (nI az) (nI na) (nI nt) (nI nr) mw ml mk dq)), (r 7, .inl ((cT 0), 1000, .inl g7_86))] := hD
  have k88 := hw87
  have hP9 := hP.sub (ws' := [(mo, .inr (12, mdG r 0 tm (nI 20) (nI tx) (nI lz) (nI az) (nI na) (nI nt) (nI nr) mw ml mk dq)), (r 7, .inl ((cT 0), 1000, .inl g7_86))]) [0, 1] rfl
  have hD9 := hD.sub (ws' := [(mo, .inr (12, mdG r 0 tm (nI 20) (nI tx) (nI lz) (nI az) (nI na) (nI nt) (nI nr) mw ml mk dq)), (r 7, .inl ((cT 0), 1000, .inl g7_86))]) [0, 1] (by decide) rfl
  exact W.vret hx hb hr (fun t ht hW => ⟨⟨g7_86, rfl, by first | assumption | omega, by rw [ht]; exact hP9, va_K.moved hW.alike hK, hD9⟩, hS.F ht⟩) hS.2.2 d_Md_draft_33
set_option maxHeartbeats 4000000 in
set_option maxRecDepth 100000 in
/-- secret -/
theorem o_secret (l : Launch) (dC : Nat → ClassId) (dI : Nat → Nat → Nat) (cT : Nat → ClassId) (sz : Nat) (mo : Nat) (r : Nat → Nat) (cd : Int32) (tm : Int32) (sn : Nat) (tx : Nat) (lz : Nat) (az : Nat) (na : Nat) (nt : Nat) (nr : Nat) (mw : Int32) (ml : Int32) (mk : Int64) (dq : Int64) (f3 : Nat → Int32) (f4 : Nat → Int32) (st : Nat) (v : Int64) (k : Nat) (hst : st < 4) (hk1 : 1 ≤ k) (hk2 : k ≤ 40) : Met l y_Md_secret (Cond.code y_Md_secret b_Md_secret 6 (Option.none : Option Jvm.ClassFile.FieldType) :: BIG) ({ frames := 1, cells := 0, slots := 0, locals := 22 }) (va_Pc [.ref mo, .int (nI st), .long v, .int (nI k)] (fun U => U.heap.size = sz ∧ va_P (dC, dI) vcl [(mo, .inr (12, mdG r cd tm (nI sn) (nI tx) (nI lz) (nI az) (nI na) (nI nt) (nI nr) mw ml mk dq)), (r 3, .inl ((cT 0), 160, .inl f3)), (r 4, .inl ((cT 0), 4, .inl f4))] U.heap ∧ va_K (dC, dI) vcl (tyL cT) U ∧ va_D (fun _ => True) [(mo, .inr (12, mdG r cd tm (nI sn) (nI tx) (nI lz) (nI az) (nI na) (nI nt) (nI nr) mw ml mk dq)), (r 3, .inl ((cT 0), 160, .inl f3)), (r 4, .inl ((cT 0), 4, .inl f4))])) (va_Qv (S := (Nat → Int32) × (Nat → Int32)) (fun u => match u with | (g3, g4) => g4 = upd f4 st (nI k)) (fun u t => match u with | (g3, g4) => va_P (dC, dI) vcl [(mo, .inr (12, mdG r 0 tm (nI sn) (nI tx) (nI lz) (nI az) (nI na) (nI nt) (nI nr) mw ml mk dq)), (r 3, .inl ((cT 0), 160, .inl g3)), (r 4, .inl ((cT 0), 4, .inl g4))] t.heap ∧ va_K (dC, dI) vcl (tyL cT) t ∧ va_D (va_A [(mo, .inr (12, mdG r cd tm (nI sn) (nI tx) (nI lz) (nI az) (nI na) (nI nt) (nI nr) mw ml mk dq)), (r 3, .inl ((cT 0), 160, .inl f3)), (r 4, .inl ((cT 0), 4, .inl f4))] sz) [(mo, .inr (12, mdG r 0 tm (nI sn) (nI tx) (nI lz) (nI az) (nI na) (nI nt) (nI nr) mw ml mk dq)), (r 3, .inl ((cT 0), 160, .inl g3)), (r 4, .inl ((cT 0), 4, .inl g4))]) (va_A [(mo, .inr (12, mdG r cd tm (nI sn) (nI tx) (nI lz) (nI az) (nI na) (nI nt) (nI nr) mw ml mk dq)), (r 3, .inl ((cT 0), 160, .inl f3)), (r 4, .inl ((cT 0), 4, .inl f4))] sz)) 0 0 (va_A [(mo, .inr (12, mdG r cd tm (nI sn) (nI tx) (nI lz) (nI az) (nI na) (nI nt) (nI nr) mw ml mk dq)), (r 3, .inl ((cT 0), 160, .inl f3)), (r 4, .inl ((cT 0), 4, .inl f4))] sz) := by
  refine Met.ofW (cc := b_Md_secret) (maxL := 6) (ret := (Option.none : Option Jvm.ClassFile.FieldType)) (by decide) rfl ?_
  intro p e s m args below meth c s₁ B hml hv
  obtain ⟨hargs, hsz, hP, hK, hD0⟩ := hv
  have hx := B.exec
  have hb := B.bytes
  have hr := B.returns
  have hts := atoms_spec (ws := (Cond.code y_Md_secret b_Md_secret 6 (Option.none : Option Jvm.ClassFile.FieldType) :: BIG)) B.pre
  have hg : ∀ w ∈ BIG, w.before _ s = true := fun w h => hts w (List.mem_cons_of_mem _ h)
  have hown : s.vm.findClass "DoorServerModel" = some m.cls := findClass_of_methodNamed B.named
  have hlocks := B.notSynchronized
  subst hsz
  have hD := hD0.self (sz := s.heap.size)
  generalize hAe : va_A [(mo, .inr (12, mdG r cd tm (nI sn) (nI tx) (nI lz) (nI az) (nI na) (nI nt) (nI nr) mw ml mk dq)), (r 3, .inl ((cT 0), 160, .inl f3)), (r 4, .inl ((cT 0), 4, .inl f4))] s.heap.size = A at hD ⊢
  have hA : ∀ q : Nat, s.heap.size ≤ q → A q := fun q h => by rw [← hAe]; exact Or.inr h
  have hS : va_S A s.heap s.heap [] := va_S.rf
  have hl := lv_entry ([.ref mo, .int (nI st), .long v, .int (nI k)]) (n := 6) (Nat.le_of_ble_eq_true rfl)
  refine W.eq (g2 := entryFrame m (List.toArray [.ref mo, .int (nI st), .long v, .int (nI k)]) 6) (by rw [hargs]) ?_
  rw [lg_entry_eq]
  generalize (lg_sl ([.ref mo, .int (nI st), .long v, .int (nI k)]) ++ List.replicate (6 - (lg_sl ([.ref mo, .int (nI st), .long v, .int (nI k)])).length) Slot.unset).toArray = ls at hl ⊢
  have hl : lv_has ls 6 [(0, .ref mo), (1, .int (nI st)), (2, .long v), (4, .int (nI k))] := hl
  change W p l e ({ frames := 1, cells := 0, slots := 0, locals := 22 } : Room) s m args below meth c s.heap [] 0 0 _ _
  have hP : va_P (dC, dI) vcl [(mo, .inr (12, mdG r cd tm (nI sn) (nI tx) (nI lz) (nI az) (nI na) (nI nt) (nI nr) mw ml mk dq)), (r 3, .inl ((cT 0), 160, .inl f3)), (r 4, .inl ((cT 0), 4, .inl f4))] s.heap := hP
  refine lv_aload_n hx hb d_Md_secret_0 rfl (lv_at hl 0 rfl) ?_
  refine lv_iload_n hx hb d_Md_secret_1 rfl (lv_at hl 1 rfl) ?_
  refine lv_if_lt (tgt := 27) hx hb d_Md_secret_2 (by decide) (fun hn9 => absurd hn9 (nI_pos (by omega))) (fun hc89 => ?_)
  refine lv_iload_n hx hb d_Md_secret_5 rfl (lv_at hl 1 rfl) ?_
  refine lv_iconst (v := 4) hx hb d_Md_secret_6 (by decide) ?_
  refine lv_icmp_ge (tgt := 27) hx hb d_Md_secret_7 (by decide) (fun hn9 => absurd hn9 (nI_ge (b := 4) hst (by decide))) (fun hc90 => ?_)
  refine lv_iload hx hb d_Md_secret_10 (lv_at hl 3 rfl) ?_
  refine lv_iconst (v := 1) hx hb d_Md_secret_12 (by decide) ?_
  refine lv_icmp_lt (tgt := 27) hx hb d_Md_secret_13 (by decide) (fun hn9 => absurd hn9 (nI_nlt (b := 1) hk1 (by omega))) (fun hc91 => ?_)
  refine lv_iload hx hb d_Md_secret_16 (lv_at hl 3 rfl) ?_
  refine lv_bipush (v := 40) hx hb d_Md_secret_18 (by decide) ?_
  refine lv_icmp_gt (tgt := 27) hx hb d_Md_secret_20 (by decide) (fun hn9 => absurd hn9 (nI_nlt (a := 40) hk2 (by decide))) (fun hc92 => ?_)
  refine lv_iconst (v := 1) hx hb d_Md_secret_23 (by decide) ?_
  refine lv_goto (tgt := 28) hx hb d_Md_secret_24 (by decide) ?_
  have hPc := hP.sub (ws' := [(mo, .inr (12, mdG r cd tm (nI sn) (nI tx) (nI lz) (nI az) (nI na) (nI nt) (nI nr) mw ml mk dq))]) [0] rfl
  have hDc := hD.sub (ws' := [(mo, .inr (12, mdG r cd tm (nI sn) (nI tx) (nI lz) (nI az) (nI na) (nI nt) (nI nr) mw ml mk dq))]) [0] (by decide) rfl
  have hFc := va_free (wc := [(mo, .inr (12, mdG r cd tm (nI sn) (nI tx) (nI lz) (nI az) (nI na) (nI nt) (nI nr) mw ml mk dq))]) hD hS hA [0] rfl
  refine va_calli (va_runV (C := "DoorServerModel") (As := [.int 1]) (rest := []) ⟨hx, hb, hml, hown, hg⟩ (m_goes1 l dC dI cT s.heap.size mo r cd tm sn tx lz az na nt nr mw ml mk dq ) (cwV 1 hg (gI (List.forall_mem_append.mpr ⟨List.forall_mem_cons.mpr ⟨k_1165, List.forall_mem_cons.mpr ⟨k_1167, List.forall_mem_cons.mpr ⟨(big_sel (q := y_Md_goes) (n := 45) (by decide +kernel)), List.forall_mem_cons.mpr ⟨k_13, fun _ h => absurd h List.not_mem_nil⟩⟩⟩⟩, List.forall_mem_cons.mpr ⟨k_1168, fun _ h => h⟩⟩)) rfl rfl rfl (by decide +kernel) ⟨Nat.le_of_ble_eq_true rfl, Nat.le_of_ble_eq_true rfl⟩) ⟨fun a U g mk q => by obtain ⟨q0, q1, qP, qK, qD⟩ := q; exact ⟨q0, q1, qP, va_K.moved (u := U) (U := U.calling g mk a) (Vm.Alike.refl U.vm) qK, qD⟩, va_recv (q0 := 0) (ci := 12) hK hP rfl rfl, fun U hU hW => ⟨rfl, by rw [hU], by rw [hU]; exact hPc, va_K.moved hW.alike hK, hDc.weaken (fun _ _ _ _ => trivial)⟩⟩ rfl rfl hl.1 rfl (lv_room (Nat.le_of_ble_eq_true rfl)) d_Md_secret_28 ⟨Nat.le_of_ble_eq_true rfl, Nat.le_of_ble_eq_true rfl⟩) hS (fun q _ h => hFc q h) hFc (fun rv9 u t H1 locs ht hvm hw hB hz1 hk1 hS => ?_)
  try dsimp only at hw hB
  obtain ⟨hP1, hK1, hD1⟩ := hB
  rw [ht] at hP1
  obtain ⟨rfl, hw⟩ := hw
  obtain ⟨hP, hD⟩ := va_join (wr := [(r 3, .inl ((cT 0), 160, .inl f3)), (r 4, .inl ((cT 0), 4, .inl f4))]) (w1 := [(mo, .inr (12, mdG r 0 tm (nI sn) (nI tx) (nI lz) (nI az) (nI na) (nI nt) (nI nr) mw ml mk dq))]) hP hD [0] [1, 2] rfl rfl (by decide) (by decide) hk1 hFc hP1 hD1
  have hw93 := hw
  clear hPc hDc hFc hz1 hk1 hP1 hK1 hD1
  generalize H1 = H at hP hS ⊢
  have hP : va_P (dC, dI) vcl [(r 3, .inl ((cT 0), 160, .inl f3)), (r 4, .inl ((cT 0), 4, .inl f4)), (mo, .inr (12, mdG r 0 tm (nI sn) (nI tx) (nI lz) (nI az) (nI na) (nI nt) (nI nr) mw ml mk dq))] H := hP
  have hD : va_D A [(r 3, .inl ((cT 0), 160, .inl f3)), (r 4, .inl ((cT 0), 4, .inl f4)), (mo, .inr (12, mdG r 0 tm (nI sn) (nI tx) (nI lz) (nI az) (nI na) (nI nt) (nI nr) mw ml mk dq))] := hD
  refine lv_if_eq (tgt := 76) hx hb d_Md_secret_31 (by decide) (fun hn9 => absurd hn9 (by decide)) (fun hc94 => ?_)
  refine lv_iconst (v := 0) hx hb d_Md_secret_34 (by decide) ?_
  refine lv_istore (lv' := [(5, .int 0), (0, .ref mo), (1, .int (nI st)), (2, .long v), (4, .int (nI k))]) hx hb d_Md_secret_35 hl (by decide) rfl (fun ls hl => ?_)
  have hl := lv_sub hl [0, 1, 2, 3, 4] (show _ = [(5, .int 0), (0, .ref mo), (1, .int (nI st)), (2, .long v), (4, .int (nI k))] from rfl)
  have L96 : ∀ (Q : State → Prop) (exit : ∀ (g3_95 : Nat → Int32) (H : Heap) (locs : List Loc) (ls : Array Slot), va_P (dC, dI) vcl [(r 3, .inl ((cT 0), 160, .inl g3_95)), (r 4, .inl ((cT 0), 4, .inl f4)), (mo, .inr (12, mdG r 0 tm (nI sn) (nI tx) (nI lz) (nI az) (nI na) (nI nt) (nI nr) mw ml mk dq))] H → va_D A [(r 3, .inl ((cT 0), 160, .inl g3_95)), (r 4, .inl ((cT 0), 4, .inl f4)), (mo, .inr (12, mdG r 0 tm (nI sn) (nI tx) (nI lz) (nI az) (nI na) (nI nt) (nI nr) mw ml mk dq))] → va_S A s.heap H locs → lv_has ls 6 [(5, .int (nI k)), (0, .ref mo), (1, .int (nI st)), (2, .long v), (4, .int (nI k))] → W p l e ({ frames := 1, cells := 0, slots := 0, locals := 22 } : Room) s m args below meth c H locs 0 0 Q (F0 m 68 ls [])) (j8 i : Nat) (g3_95 : Nat → Int32) (H : Heap) (locs : List Loc) (ls : Array Slot), i + j8 = k → va_P (dC, dI) vcl [(r 3, .inl ((cT 0), 160, .inl g3_95)), (r 4, .inl ((cT 0), 4, .inl f4)), (mo, .inr (12, mdG r 0 tm (nI sn) (nI tx) (nI lz) (nI az) (nI na) (nI nt) (nI nr) mw ml mk dq))] H → va_D A [(r 3, .inl ((cT 0), 160, .inl g3_95)), (r 4, .inl ((cT 0), 4, .inl f4)), (mo, .inr (12, mdG r 0 tm (nI sn) (nI tx) (nI lz) (nI az) (nI na) (nI nt) (nI nr) mw ml mk dq))] → va_S A s.heap H locs → lv_has ls 6 [(5, .int (nI i)), (0, .ref mo), (1, .int (nI st)), (2, .long v), (4, .int (nI k))] → W p l e ({ frames := 1, cells := 0, slots := 0, locals := 22 } : Room) s m args below meth c H locs 0 0 Q (F0 m 37 ls []) := by
    intro Q exit j8
    induction j8 with
    | zero => 
      intro i g3_95 H locs ls hij  hP hD hS hl
      have hij : k = i := by omega
      refine lv_iload hx hb d_Md_secret_37 (lv_at hl 0 rfl) ?_
      refine lv_iload hx hb d_Md_secret_39 (lv_at hl 4 rfl) ?_
      refine lv_icmp_ge (tgt := 68) hx hb d_Md_secret_41 (by decide) (fun hc97 => ?_) (fun hn9 => absurd (nI_le (by omega) (by omega)) hn9)
      subst hij
      exact exit g3_95 _ _ _  hP hD hS hl
    | succ j8 ih => 
      intro i g3_95 H locs ls hij  hP hD hS hl
      have hlt : i < k := by omega
      have hlti := hlt
      refine lv_iload hx hb d_Md_secret_37 (lv_at hl 0 rfl) ?_
      refine lv_iload hx hb d_Md_secret_39 (lv_at hl 4 rfl) ?_
      refine lv_icmp_ge (tgt := 68) hx hb d_Md_secret_41 (by decide) (fun hn9 => absurd hn9 (nI_ge (by omega) (by omega))) (fun hc98 => ?_)
      refine lv_aload_n hx hb d_Md_secret_44 rfl (lv_at hl 1 rfl) ?_
      refine va_get (D := (dC, dI)) (ci := 12) (v := (.ref (r 3))) (C := R_Md) (T := F_Md) (N := 45) hx hb hg in_Md hown hK hP 2 rfl rfl 3 (by decide) (hg _ k_1023) (fun _ h9 => h9) rfl d_Md_secret_45 ?_
      refine lv_bipush (v := 40) hx hb d_Md_secret_48 (by decide) ?_
      refine lv_iload_n hx hb d_Md_secret_50 rfl (lv_at hl 2 rfl) ?_
      refine lv_imul hx hb d_Md_secret_51 ?_
      refine lv_topi (fun x100 e99 => ?_)
      obtain rfl : x100 = nI (40 * st) := by rw [e99]; exact pk_mul 40 st
      refine lv_iload hx hb d_Md_secret_52 (lv_at hl 0 rfl) ?_
      refine lv_iadd hx hb d_Md_secret_54 ?_
      refine lv_topi (fun x102 e101 => ?_)
      obtain rfl : x102 = nI ((40 * st) + i) := by rw [e101]; exact nI_add (40 * st) i
      refine lv_lload_n hx hb d_Md_secret_55 rfl (lv_at hl 3 rfl) ?_
      refine lv_iload hx hb d_Md_secret_56 (lv_at hl 0 rfl) ?_
      have hPc := hP.sub (ws' := []) [] rfl
      have hDc := hD.sub (ws' := []) [] (by decide) rfl
      have hFc := va_free (wc := []) hD hS hA [] rfl
      refine va_calli (va_runS (As := [.long v, .int (nI i)]) (rest := [.int (nI ((40 * st) + i)), .ref (r 3)]) ⟨hx, hb, hml, hown, hg⟩ (m_letter l dC dI cT H.size v (nI i) ) (va_cwS 2 hg (gI (List.forall_mem_append.mpr ⟨List.forall_mem_cons.mpr ⟨k_1169, List.forall_mem_cons.mpr ⟨k_1170, List.forall_mem_cons.mpr ⟨k_13, fun _ h => absurd h List.not_mem_nil⟩⟩⟩, List.forall_mem_cons.mpr ⟨k_1171, fun _ h => h⟩⟩)) rfl rfl rfl (by decide +kernel) ⟨Nat.le_of_ble_eq_true rfl, Nat.le_of_ble_eq_true rfl⟩) ⟨fun a U g mk q => by obtain ⟨q0, q1, qP, qK, qD⟩ := q; exact ⟨q0, q1, qP, va_K.moved (u := U) (U := U.calling g mk a) (Vm.Alike.refl U.vm) qK, qD⟩, fun U hU hW => ⟨rfl, by rw [hU], by rw [hU]; exact hPc, va_K.moved hW.alike hK, hDc.weaken (fun _ _ _ _ => trivial)⟩⟩ rfl rfl hl.1 rfl (lv_room (Nat.le_of_ble_eq_true rfl)) d_Md_secret_58 ⟨Nat.le_of_ble_eq_true rfl, Nat.le_of_ble_eq_true rfl⟩) hS (fun q _ h => hFc q h) hFc (fun rv9 u t H1 locs ht hvm hw hB hz1 hk1 hS => ?_)
      try dsimp only at hw hB
      obtain ⟨hP1, hK1, hD1⟩ := hB
      rw [ht] at hP1
      generalize rv9 = r103 at hw ⊢
      obtain ⟨hP, hD⟩ := va_join (wr := [(r 3, .inl ((cT 0), 160, .inl g3_95)), (r 4, .inl ((cT 0), 4, .inl f4)), (mo, .inr (12, mdG r 0 tm (nI sn) (nI tx) (nI lz) (nI az) (nI na) (nI nt) (nI nr) mw ml mk dq))]) (w1 := []) hP hD [] [0, 1, 2] rfl rfl (by decide) (by decide) hk1 hFc hP1 hD1
      have hw104 := hw
      clear hPc hDc hFc hz1 hk1 hP1 hK1 hD1
      generalize H1 = H at hP hS ⊢
      have hP : va_P (dC, dI) vcl [(r 3, .inl ((cT 0), 160, .inl g3_95)), (r 4, .inl ((cT 0), 4, .inl f4)), (mo, .inr (12, mdG r 0 tm (nI sn) (nI tx) (nI lz) (nI az) (nI na) (nI nt) (nI nr) mw ml mk dq))] H := hP
      have hD : va_D A [(r 3, .inl ((cT 0), 160, .inl g3_95)), (r 4, .inl ((cT 0), 4, .inl f4)), (mo, .inr (12, mdG r 0 tm (nI sn) (nI tx) (nI lz) (nI az) (nI na) (nI nt) (nI nr) mw ml mk dq))] := hD
      refine va_iast hx hb hK hP hD hS 0 0 rfl rfl (i := (nI ((40 * st) + i))) (vp_in_nI (n := (40 * st) + i) (N := 160) (by omega) (by decide)) d_Md_secret_61 (fun H locs hP hD hS => ?_)
      have ef105 : upd g3_95 (nI ((40 * st) + i)).toNatClampNeg r103 = upd g3_95 ((40 * st) + i) r103 := by rw [show (nI ((40 * st) + i)).toNatClampNeg = (40 * st) + i from nI_clamp (by omega)]
      rw [ef105] at hP hD
      have hP : va_P (dC, dI) vcl [(r 3, .inl ((cT 0), 160, .inl (upd g3_95 ((40 * st) + i) r103))), (r 4, .inl ((cT 0), 4, .inl f4)), (mo, .inr (12, mdG r 0 tm (nI sn) (nI tx) (nI lz) (nI az) (nI na) (nI nt) (nI nr) mw ml mk dq))] H := hP
      have hD : va_D A [(r 3, .inl ((cT 0), 160, .inl (upd g3_95 ((40 * st) + i) r103))), (r 4, .inl ((cT 0), 4, .inl f4)), (mo, .inr (12, mdG r 0 tm (nI sn) (nI tx) (nI lz) (nI az) (nI na) (nI nt) (nI nr) mw ml mk dq))] := hD
      refine lv_iinc (k := 0) (v := nI (i + 1)) (lv' := [(5, .int (nI (i + 1))), (0, .ref mo), (1, .int (nI st)), (2, .long v), (4, .int (nI k))]) hx hb d_Md_secret_62 hl rfl (nI_1 i) (by decide) rfl (fun ls hl => ?_)
      refine lv_goto (tgt := 37) hx hb d_Md_secret_65 (by decide) ?_
      have hl := lv_sub hl [0, 1, 2, 3, 4] (show _ = [(5, .int (nI (i + 1))), (0, .ref mo), (1, .int (nI st)), (2, .long v), (4, .int (nI k))] from rfl)
      exact ih (i + 1) _ _ _ _ (by omega)  hP hD hS hl
  refine L96 _ (fun g3_95 H locs ls  hP hD hS hl => ?_) (k - 0) 0 f3 H _ ls (by omega)  hP hD hS hl
  refine lv_aload_n hx hb d_Md_secret_68 rfl (lv_at hl 1 rfl) ?_
  refine va_get (D := (dC, dI)) (ci := 12) (v := (.ref (r 4))) (C := R_Md) (T := F_Md) (N := 45) hx hb hg in_Md hown hK hP 2 rfl rfl 4 (by decide) (hg _ k_1024) (fun _ h9 => h9) rfl d_Md_secret_69 ?_
  refine lv_iload_n hx hb d_Md_secret_72 rfl (lv_at hl 2 rfl) ?_
  refine lv_iload hx hb d_Md_secret_73 (lv_at hl 4 rfl) ?_
  refine va_iast hx hb hK hP hD hS 1 0 rfl rfl (i := (nI st)) (vp_in_nI (n := st) (N := 4) (by omega) (by decide)) d_Md_secret_75 (fun H locs hP hD hS => ?_)
  have ef106 : upd f4 (nI st).toNatClampNeg (nI k) = upd f4 st (nI k) := by rw [show (nI st).toNatClampNeg = st from nI_clamp (by omega)]
  rw [ef106] at hP hD
  have hP : va_P (dC, dI) vcl [(r 3, .inl ((cT 0), 160, .inl g3_95)), (r 4, .inl ((cT 0), 4, .inl (upd f4 st (nI k)))), (mo, .inr (12, mdG r 0 tm (nI sn) (nI tx) (nI lz) (nI az) (nI na) (nI nt) (nI nr) mw ml mk dq))] H := hP
  have hD : va_D A [(r 3, .inl ((cT 0), 160, .inl g3_95)), (r 4, .inl ((cT 0), 4, .inl (upd f4 st (nI k)))), (mo, .inr (12, mdG r 0 tm (nI sn) (nI tx) (nI lz) (nI az) (nI na) (nI nt) (nI nr) mw ml mk dq))] := hD
  have hP9 := hP.sub (ws' := [(mo, .inr (12, mdG r 0 tm (nI sn) (nI tx) (nI lz) (nI az) (nI na) (nI nt) (nI nr) mw ml mk dq)), (r 3, .inl ((cT 0), 160, .inl g3_95)), (r 4, .inl ((cT 0), 4, .inl (upd f4 st (nI k))))]) [2, 0, 1] rfl
  have hD9 := hD.sub (ws' := [(mo, .inr (12, mdG r 0 tm (nI sn) (nI tx) (nI lz) (nI az) (nI na) (nI nt) (nI nr) mw ml mk dq)), (r 3, .inl ((cT 0), 160, .inl g3_95)), (r 4, .inl ((cT 0), 4, .inl (upd f4 st (nI k))))]) [2, 0, 1] (by decide) rfl
  exact W.vret hx hb hr (fun t ht hW => ⟨⟨⟨g3_95, upd f4 st (nI k)⟩, rfl, rfl, by rw [ht]; exact hP9, va_K.moved hW.alike hK, hD9⟩, hS.F ht⟩) hS.2.2 d_Md_secret_76
set_option maxHeartbeats 4000000 in
set_option maxRecDepth 100000 in
/-- user -/
theorem o_user (l : Launch) (dC : Nat → ClassId) (dI : Nat → Nat → Nat) (cT : Nat → ClassId) (sz : Nat) (mo : Nat) (r : Nat → Nat) (cd : Int32) (tm : Int32) (sn : Nat) (tx : Nat) (lz : Nat) (az : Nat) (na : Nat) (nt : Nat) (nr : Nat) (mw : Int32) (ml : Int32) (mk : Int64) (dq : Int64) (f5 : Nat → Int32) (f6 : Nat → Int32) (st : Nat) (v : Int64) (k : Nat) (ul : Nat) (hst : st < 32) (hk1 : 1 ≤ k) (hk2 : k ≤ 60) (hul : f6 st = nI ul) (hul2 : ul ≤ 60) : Met l y_Md_user (Cond.code y_Md_user b_Md_user 7 (Option.some Jvm.ClassFile.FieldType.boolean) :: BIG) ({ frames := 1, cells := 0, slots := 0, locals := 22 }) (va_Pc [.ref mo, .int (nI st), .long v, .int (nI k)] (fun U => U.heap.size = sz ∧ va_P (dC, dI) vcl [(mo, .inr (12, mdG r cd tm (nI sn) (nI tx) (nI lz) (nI az) (nI na) (nI nt) (nI nr) mw ml mk dq)), (r 5, .inl ((cT 0), 1920, .inl f5)), (r 6, .inl ((cT 0), 32, .inl f6))] U.heap ∧ va_K (dC, dI) vcl (tyL cT) U ∧ va_D (fun _ => True) [(mo, .inr (12, mdG r cd tm (nI sn) (nI tx) (nI lz) (nI az) (nI na) (nI nt) (nI nr) mw ml mk dq)), (r 5, .inl ((cT 0), 1920, .inl f5)), (r 6, .inl ((cT 0), 32, .inl f6))])) (va_Qi (S := (Nat → Int32) × (Nat → Int32)) (fun rv9 u => match u with | (g5, g6) => (ul = 0 → rv9 = 1) ∧ (0 < ul → rv9 = 0) ∧ (g6 = upd f6 st (nI k))) (fun u t => match u with | (g5, g6) => va_P (dC, dI) vcl [(mo, .inr (12, mdG r 0 tm (nI sn) (nI tx) (nI lz) (nI az) (nI na) (nI nt) (nI nr) mw ml mk dq)), (r 5, .inl ((cT 0), 1920, .inl g5)), (r 6, .inl ((cT 0), 32, .inl g6))] t.heap ∧ va_K (dC, dI) vcl (tyL cT) t ∧ va_D (va_A [(mo, .inr (12, mdG r cd tm (nI sn) (nI tx) (nI lz) (nI az) (nI na) (nI nt) (nI nr) mw ml mk dq)), (r 5, .inl ((cT 0), 1920, .inl f5)), (r 6, .inl ((cT 0), 32, .inl f6))] sz) [(mo, .inr (12, mdG r 0 tm (nI sn) (nI tx) (nI lz) (nI az) (nI na) (nI nt) (nI nr) mw ml mk dq)), (r 5, .inl ((cT 0), 1920, .inl g5)), (r 6, .inl ((cT 0), 32, .inl g6))]) (va_A [(mo, .inr (12, mdG r cd tm (nI sn) (nI tx) (nI lz) (nI az) (nI na) (nI nt) (nI nr) mw ml mk dq)), (r 5, .inl ((cT 0), 1920, .inl f5)), (r 6, .inl ((cT 0), 32, .inl f6))] sz)) 0 0 (va_A [(mo, .inr (12, mdG r cd tm (nI sn) (nI tx) (nI lz) (nI az) (nI na) (nI nt) (nI nr) mw ml mk dq)), (r 5, .inl ((cT 0), 1920, .inl f5)), (r 6, .inl ((cT 0), 32, .inl f6))] sz) := by
  refine Met.ofW (cc := b_Md_user) (maxL := 7) (ret := (Option.some Jvm.ClassFile.FieldType.boolean)) (by decide) rfl ?_
  intro p e s m args below meth c s₁ B hml hv
  obtain ⟨hargs, hsz, hP, hK, hD0⟩ := hv
  have hx := B.exec
  have hb := B.bytes
  have hr := B.returns
  have hts := atoms_spec (ws := (Cond.code y_Md_user b_Md_user 7 (Option.some Jvm.ClassFile.FieldType.boolean) :: BIG)) B.pre
  have hg : ∀ w ∈ BIG, w.before _ s = true := fun w h => hts w (List.mem_cons_of_mem _ h)
  have hown : s.vm.findClass "DoorServerModel" = some m.cls := findClass_of_methodNamed B.named
  have hlocks := B.notSynchronized
  subst hsz
  have hD := hD0.self (sz := s.heap.size)
  generalize hAe : va_A [(mo, .inr (12, mdG r cd tm (nI sn) (nI tx) (nI lz) (nI az) (nI na) (nI nt) (nI nr) mw ml mk dq)), (r 5, .inl ((cT 0), 1920, .inl f5)), (r 6, .inl ((cT 0), 32, .inl f6))] s.heap.size = A at hD ⊢
  have hA : ∀ q : Nat, s.heap.size ≤ q → A q := fun q h => by rw [← hAe]; exact Or.inr h
  have hS : va_S A s.heap s.heap [] := va_S.rf
  have hl := lv_entry ([.ref mo, .int (nI st), .long v, .int (nI k)]) (n := 7) (Nat.le_of_ble_eq_true rfl)
  refine W.eq (g2 := entryFrame m (List.toArray [.ref mo, .int (nI st), .long v, .int (nI k)]) 7) (by rw [hargs]) ?_
  rw [lg_entry_eq]
  generalize (lg_sl ([.ref mo, .int (nI st), .long v, .int (nI k)]) ++ List.replicate (7 - (lg_sl ([.ref mo, .int (nI st), .long v, .int (nI k)])).length) Slot.unset).toArray = ls at hl ⊢
  have hl : lv_has ls 7 [(0, .ref mo), (1, .int (nI st)), (2, .long v), (4, .int (nI k))] := hl
  change W p l e ({ frames := 1, cells := 0, slots := 0, locals := 22 } : Room) s m args below meth c s.heap [] 0 0 _ _
  have hP : va_P (dC, dI) vcl [(mo, .inr (12, mdG r cd tm (nI sn) (nI tx) (nI lz) (nI az) (nI na) (nI nt) (nI nr) mw ml mk dq)), (r 5, .inl ((cT 0), 1920, .inl f5)), (r 6, .inl ((cT 0), 32, .inl f6))] s.heap := hP
  refine lv_aload_n hx hb d_Md_user_0 rfl (lv_at hl 0 rfl) ?_
  refine lv_iload_n hx hb d_Md_user_1 rfl (lv_at hl 1 rfl) ?_
  refine lv_if_lt (tgt := 28) hx hb d_Md_user_2 (by decide) (fun hn9 => absurd hn9 (nI_pos (by omega))) (fun hc107 => ?_)
  refine lv_iload_n hx hb d_Md_user_5 rfl (lv_at hl 1 rfl) ?_
  refine lv_bipush (v := 32) hx hb d_Md_user_6 (by decide) ?_
  refine lv_icmp_ge (tgt := 28) hx hb d_Md_user_8 (by decide) (fun hn9 => absurd hn9 (nI_ge (b := 32) hst (by decide))) (fun hc108 => ?_)
  refine lv_iload hx hb d_Md_user_11 (lv_at hl 3 rfl) ?_
  refine lv_iconst (v := 1) hx hb d_Md_user_13 (by decide) ?_
  refine lv_icmp_lt (tgt := 28) hx hb d_Md_user_14 (by decide) (fun hn9 => absurd hn9 (nI_nlt (b := 1) hk1 (by omega))) (fun hc109 => ?_)
  refine lv_iload hx hb d_Md_user_17 (lv_at hl 3 rfl) ?_
  refine lv_bipush (v := 60) hx hb d_Md_user_19 (by decide) ?_
  refine lv_icmp_gt (tgt := 28) hx hb d_Md_user_21 (by decide) (fun hn9 => absurd hn9 (nI_nlt (a := 60) hk2 (by decide))) (fun hc110 => ?_)
  refine lv_iconst (v := 1) hx hb d_Md_user_24 (by decide) ?_
  refine lv_goto (tgt := 29) hx hb d_Md_user_25 (by decide) ?_
  have hPc := hP.sub (ws' := [(mo, .inr (12, mdG r cd tm (nI sn) (nI tx) (nI lz) (nI az) (nI na) (nI nt) (nI nr) mw ml mk dq))]) [0] rfl
  have hDc := hD.sub (ws' := [(mo, .inr (12, mdG r cd tm (nI sn) (nI tx) (nI lz) (nI az) (nI na) (nI nt) (nI nr) mw ml mk dq))]) [0] (by decide) rfl
  have hFc := va_free (wc := [(mo, .inr (12, mdG r cd tm (nI sn) (nI tx) (nI lz) (nI az) (nI na) (nI nt) (nI nr) mw ml mk dq))]) hD hS hA [0] rfl
  refine va_calli (va_runV (C := "DoorServerModel") (As := [.int 1]) (rest := []) ⟨hx, hb, hml, hown, hg⟩ (m_goes1 l dC dI cT s.heap.size mo r cd tm sn tx lz az na nt nr mw ml mk dq ) (cwV 1 hg (gI (List.forall_mem_append.mpr ⟨List.forall_mem_cons.mpr ⟨k_1165, List.forall_mem_cons.mpr ⟨k_1167, List.forall_mem_cons.mpr ⟨(big_sel (q := y_Md_goes) (n := 45) (by decide +kernel)), List.forall_mem_cons.mpr ⟨k_13, fun _ h => absurd h List.not_mem_nil⟩⟩⟩⟩, List.forall_mem_cons.mpr ⟨k_1168, fun _ h => h⟩⟩)) rfl rfl rfl (by decide +kernel) ⟨Nat.le_of_ble_eq_true rfl, Nat.le_of_ble_eq_true rfl⟩) ⟨fun a U g mk q => by obtain ⟨q0, q1, qP, qK, qD⟩ := q; exact ⟨q0, q1, qP, va_K.moved (u := U) (U := U.calling g mk a) (Vm.Alike.refl U.vm) qK, qD⟩, va_recv (q0 := 0) (ci := 12) hK hP rfl rfl, fun U hU hW => ⟨rfl, by rw [hU], by rw [hU]; exact hPc, va_K.moved hW.alike hK, hDc.weaken (fun _ _ _ _ => trivial)⟩⟩ rfl rfl hl.1 rfl (lv_room (Nat.le_of_ble_eq_true rfl)) d_Md_user_29 ⟨Nat.le_of_ble_eq_true rfl, Nat.le_of_ble_eq_true rfl⟩) hS (fun q _ h => hFc q h) hFc (fun rv9 u t H1 locs ht hvm hw hB hz1 hk1 hS => ?_)
  try dsimp only at hw hB
  obtain ⟨hP1, hK1, hD1⟩ := hB
  rw [ht] at hP1
  obtain ⟨rfl, hw⟩ := hw
  obtain ⟨hP, hD⟩ := va_join (wr := [(r 5, .inl ((cT 0), 1920, .inl f5)), (r 6, .inl ((cT 0), 32, .inl f6))]) (w1 := [(mo, .inr (12, mdG r 0 tm (nI sn) (nI tx) (nI lz) (nI az) (nI na) (nI nt) (nI nr) mw ml mk dq))]) hP hD [0] [1, 2] rfl rfl (by decide) (by decide) hk1 hFc hP1 hD1
  have hw111 := hw
  clear hPc hDc hFc hz1 hk1 hP1 hK1 hD1
  generalize H1 = H at hP hS ⊢
  have hP : va_P (dC, dI) vcl [(r 5, .inl ((cT 0), 1920, .inl f5)), (r 6, .inl ((cT 0), 32, .inl f6)), (mo, .inr (12, mdG r 0 tm (nI sn) (nI tx) (nI lz) (nI az) (nI na) (nI nt) (nI nr) mw ml mk dq))] H := hP
  have hD : va_D A [(r 5, .inl ((cT 0), 1920, .inl f5)), (r 6, .inl ((cT 0), 32, .inl f6)), (mo, .inr (12, mdG r 0 tm (nI sn) (nI tx) (nI lz) (nI az) (nI na) (nI nt) (nI nr) mw ml mk dq))] := hD
  refine lv_if_ne (tgt := 37) hx hb d_Md_user_32 (by decide) (fun hc112 => ?_) (fun hn9 => absurd hn9 (by decide))
  refine lv_aload_n hx hb d_Md_user_37 rfl (lv_at hl 0 rfl) ?_
  refine va_get (D := (dC, dI)) (ci := 12) (v := (.ref (r 6))) (C := R_Md) (T := F_Md) (N := 45) hx hb hg in_Md hown hK hP 2 rfl rfl 6 (by decide) (hg _ k_1026) (fun _ h9 => h9) rfl d_Md_user_38 ?_
  refine lv_iload_n hx hb d_Md_user_41 rfl (lv_at hl 1 rfl) ?_
  refine va_iald hx hb hK hP 1 0 rfl rfl (i := (nI st)) (vp_in_nI (N := 32) hst (by decide)) d_Md_user_42 ?_
  refine lv_topi (fun x114 e113 => ?_)
  obtain rfl : x114 = nI ul := by rw [e113]; rw [nI_clamp (by omega)]; exact hul
  refine lv_if_ne (tgt := 50) hx hb d_Md_user_43 (by decide) (fun hc115 => ?_) (fun hc115 => ?_)
  · skip
    have n116 : ¬ ul = 0 := fun h7 => hc115 ((nI_eq (a := ul) (b := 0) (by omega) (by omega)).mpr h7)
    refine lv_iconst (v := 0) hx hb d_Md_user_50 (by decide) ?_
    refine lv_istore (lv' := [(5, .int 0), (0, .ref mo), (1, .int (nI st)), (2, .long v), (4, .int (nI k))]) hx hb d_Md_user_51 hl (by decide) rfl (fun ls hl => ?_)
    refine lv_iconst (v := 0) hx hb d_Md_user_53 (by decide) ?_
    refine lv_istore (lv' := [(6, .int 0), (5, .int 0), (0, .ref mo), (1, .int (nI st)), (2, .long v), (4, .int (nI k))]) hx hb d_Md_user_54 hl (by decide) rfl (fun ls hl => ?_)
    have hl := lv_sub hl [0, 1, 2, 3, 4, 5] (show _ = [(6, .int 0), (5, .int 0), (0, .ref mo), (1, .int (nI st)), (2, .long v), (4, .int (nI k))] from rfl)
    have L119 : ∀ (Q : State → Prop) (exit : ∀ (g5_118 : Nat → Int32) (H : Heap) (locs : List Loc) (ls : Array Slot), va_P (dC, dI) vcl [(r 5, .inl ((cT 0), 1920, .inl g5_118)), (r 6, .inl ((cT 0), 32, .inl f6)), (mo, .inr (12, mdG r 0 tm (nI sn) (nI tx) (nI lz) (nI az) (nI na) (nI nt) (nI nr) mw ml mk dq))] H → va_D A [(r 5, .inl ((cT 0), 1920, .inl g5_118)), (r 6, .inl ((cT 0), 32, .inl f6)), (mo, .inr (12, mdG r 0 tm (nI sn) (nI tx) (nI lz) (nI az) (nI na) (nI nt) (nI nr) mw ml mk dq))] → va_S A s.heap H locs → lv_has ls 7 [(6, .int (nI k)), (5, .int 0), (0, .ref mo), (1, .int (nI st)), (2, .long v), (4, .int (nI k))] → W p l e ({ frames := 1, cells := 0, slots := 0, locals := 22 } : Room) s m args below meth c H locs 0 0 Q (F0 m 87 ls [])) (j8 i : Nat) (g5_118 : Nat → Int32) (H : Heap) (locs : List Loc) (ls : Array Slot), i + j8 = k → va_P (dC, dI) vcl [(r 5, .inl ((cT 0), 1920, .inl g5_118)), (r 6, .inl ((cT 0), 32, .inl f6)), (mo, .inr (12, mdG r 0 tm (nI sn) (nI tx) (nI lz) (nI az) (nI na) (nI nt) (nI nr) mw ml mk dq))] H → va_D A [(r 5, .inl ((cT 0), 1920, .inl g5_118)), (r 6, .inl ((cT 0), 32, .inl f6)), (mo, .inr (12, mdG r 0 tm (nI sn) (nI tx) (nI lz) (nI az) (nI na) (nI nt) (nI nr) mw ml mk dq))] → va_S A s.heap H locs → lv_has ls 7 [(6, .int (nI i)), (5, .int 0), (0, .ref mo), (1, .int (nI st)), (2, .long v), (4, .int (nI k))] → W p l e ({ frames := 1, cells := 0, slots := 0, locals := 22 } : Room) s m args below meth c H locs 0 0 Q (F0 m 56 ls []) := by
      intro Q exit j8
      induction j8 with
      | zero => 
        intro i g5_118 H locs ls hij  hP hD hS hl
        have hij : k = i := by omega
        refine lv_iload hx hb d_Md_user_56 (lv_at hl 0 rfl) ?_
        refine lv_iload hx hb d_Md_user_58 (lv_at hl 5 rfl) ?_
        refine lv_icmp_ge (tgt := 87) hx hb d_Md_user_60 (by decide) (fun hc120 => ?_) (fun hn9 => absurd (nI_le (by omega) (by omega)) hn9)
        subst hij
        exact exit g5_118 _ _ _  hP hD hS hl
      | succ j8 ih => 
        intro i g5_118 H locs ls hij  hP hD hS hl
        have hlt : i < k := by omega
        have hlti := hlt
        refine lv_iload hx hb d_Md_user_56 (lv_at hl 0 rfl) ?_
        refine lv_iload hx hb d_Md_user_58 (lv_at hl 5 rfl) ?_
        refine lv_icmp_ge (tgt := 87) hx hb d_Md_user_60 (by decide) (fun hn9 => absurd hn9 (nI_ge (by omega) (by omega))) (fun hc121 => ?_)
        refine lv_aload_n hx hb d_Md_user_63 rfl (lv_at hl 2 rfl) ?_
        refine va_get (D := (dC, dI)) (ci := 12) (v := (.ref (r 5))) (C := R_Md) (T := F_Md) (N := 45) hx hb hg in_Md hown hK hP 2 rfl rfl 5 (by decide) (hg _ k_1025) (fun _ h9 => h9) rfl d_Md_user_64 ?_
        refine lv_bipush (v := 60) hx hb d_Md_user_67 (by decide) ?_
        refine lv_iload_n hx hb d_Md_user_69 rfl (lv_at hl 3 rfl) ?_
        refine lv_imul hx hb d_Md_user_70 ?_
        refine lv_topi (fun x123 e122 => ?_)
        obtain rfl : x123 = nI (60 * st) := by rw [e122]; exact pk_mul 60 st
        refine lv_iload hx hb d_Md_user_71 (lv_at hl 0 rfl) ?_
        refine lv_iadd hx hb d_Md_user_73 ?_
        refine lv_topi (fun x125 e124 => ?_)
        obtain rfl : x125 = nI ((60 * st) + i) := by rw [e124]; exact nI_add (60 * st) i
        refine lv_lload_n hx hb d_Md_user_74 rfl (lv_at hl 4 rfl) ?_
        refine lv_iload hx hb d_Md_user_75 (lv_at hl 0 rfl) ?_
        have hPc := hP.sub (ws' := []) [] rfl
        have hDc := hD.sub (ws' := []) [] (by decide) rfl
        have hFc := va_free (wc := []) hD hS hA [] rfl
        refine va_calli (va_runS (As := [.long v, .int (nI i)]) (rest := [.int (nI ((60 * st) + i)), .ref (r 5)]) ⟨hx, hb, hml, hown, hg⟩ (m_letter l dC dI cT H.size v (nI i) ) (va_cwS 2 hg (gI (List.forall_mem_append.mpr ⟨List.forall_mem_cons.mpr ⟨k_1169, List.forall_mem_cons.mpr ⟨k_1170, List.forall_mem_cons.mpr ⟨k_13, fun _ h => absurd h List.not_mem_nil⟩⟩⟩, List.forall_mem_cons.mpr ⟨k_1171, fun _ h => h⟩⟩)) rfl rfl rfl (by decide +kernel) ⟨Nat.le_of_ble_eq_true rfl, Nat.le_of_ble_eq_true rfl⟩) ⟨fun a U g mk q => by obtain ⟨q0, q1, qP, qK, qD⟩ := q; exact ⟨q0, q1, qP, va_K.moved (u := U) (U := U.calling g mk a) (Vm.Alike.refl U.vm) qK, qD⟩, fun U hU hW => ⟨rfl, by rw [hU], by rw [hU]; exact hPc, va_K.moved hW.alike hK, hDc.weaken (fun _ _ _ _ => trivial)⟩⟩ rfl rfl hl.1 rfl (lv_room (Nat.le_of_ble_eq_true rfl)) d_Md_user_77 ⟨Nat.le_of_ble_eq_true rfl, Nat.le_of_ble_eq_true rfl⟩) hS (fun q _ h => hFc q h) hFc (fun rv9 u t H1 locs ht hvm hw hB hz1 hk1 hS => ?_)
        try dsimp only at hw hB
        obtain ⟨hP1, hK1, hD1⟩ := hB
        rw [ht] at hP1
        generalize rv9 = r126 at hw ⊢
        obtain ⟨hP, hD⟩ := va_join (wr := [(r 5, .inl ((cT 0), 1920, .inl g5_118)), (r 6, .inl ((cT 0), 32, .inl f6)), (mo, .inr (12, mdG r 0 tm (nI sn) (nI tx) (nI lz) (nI az) (nI na) (nI nt) (nI nr) mw ml mk dq))]) (w1 := []) hP hD [] [0, 1, 2] rfl rfl (by decide) (by decide) hk1 hFc hP1 hD1
        have hw127 := hw
        clear hPc hDc hFc hz1 hk1 hP1 hK1 hD1
        generalize H1 = H at hP hS ⊢
        have hP : va_P (dC, dI) vcl [(r 5, .inl ((cT 0), 1920, .inl g5_118)), (r 6, .inl ((cT 0), 32, .inl f6)), (mo, .inr (12, mdG r 0 tm (nI sn) (nI tx) (nI lz) (nI az) (nI na) (nI nt) (nI nr) mw ml mk dq))] H := hP
        have hD : va_D A [(r 5, .inl ((cT 0), 1920, .inl g5_118)), (r 6, .inl ((cT 0), 32, .inl f6)), (mo, .inr (12, mdG r 0 tm (nI sn) (nI tx) (nI lz) (nI az) (nI na) (nI nt) (nI nr) mw ml mk dq))] := hD
        refine va_iast hx hb hK hP hD hS 0 0 rfl rfl (i := (nI ((60 * st) + i))) (vp_in_nI (n := (60 * st) + i) (N := 1920) (by omega) (by decide)) d_Md_user_80 (fun H locs hP hD hS => ?_)
        have ef128 : upd g5_118 (nI ((60 * st) + i)).toNatClampNeg r126 = upd g5_118 ((60 * st) + i) r126 := by rw [show (nI ((60 * st) + i)).toNatClampNeg = (60 * st) + i from nI_clamp (by omega)]
        rw [ef128] at hP hD
        have hP : va_P (dC, dI) vcl [(r 5, .inl ((cT 0), 1920, .inl (upd g5_118 ((60 * st) + i) r126))), (r 6, .inl ((cT 0), 32, .inl f6)), (mo, .inr (12, mdG r 0 tm (nI sn) (nI tx) (nI lz) (nI az) (nI na) (nI nt) (nI nr) mw ml mk dq))] H := hP
        have hD : va_D A [(r 5, .inl ((cT 0), 1920, .inl (upd g5_118 ((60 * st) + i) r126))), (r 6, .inl ((cT 0), 32, .inl f6)), (mo, .inr (12, mdG r 0 tm (nI sn) (nI tx) (nI lz) (nI az) (nI na) (nI nt) (nI nr) mw ml mk dq))] := hD
        refine lv_iinc (k := 0) (v := nI (i + 1)) (lv' := [(6, .int (nI (i + 1))), (5, .int 0), (0, .ref mo), (1, .int (nI st)), (2, .long v), (4, .int (nI k))]) hx hb d_Md_user_81 hl rfl (nI_1 i) (by decide) rfl (fun ls hl => ?_)
        refine lv_goto (tgt := 56) hx hb d_Md_user_84 (by decide) ?_
        have hl := lv_sub hl [0, 1, 2, 3, 4, 5] (show _ = [(6, .int (nI (i + 1))), (5, .int 0), (0, .ref mo), (1, .int (nI st)), (2, .long v), (4, .int (nI k))] from rfl)
        exact ih (i + 1) _ _ _ _ (by omega)  hP hD hS hl
    refine L119 _ (fun g5_118 H locs ls  hP hD hS hl => ?_) (k - 0) 0 f5 H _ ls (by omega)  hP hD hS hl
    refine lv_aload_n hx hb d_Md_user_87 rfl (lv_at hl 2 rfl) ?_
    refine va_get (D := (dC, dI)) (ci := 12) (v := (.ref (r 6))) (C := R_Md) (T := F_Md) (N := 45) hx hb hg in_Md hown hK hP 2 rfl rfl 6 (by decide) (hg _ k_1026) (fun _ h9 => h9) rfl d_Md_user_88 ?_
    refine lv_iload_n hx hb d_Md_user_91 rfl (lv_at hl 3 rfl) ?_
    refine lv_iload hx hb d_Md_user_92 (lv_at hl 5 rfl) ?_
    refine va_iast hx hb hK hP hD hS 1 0 rfl rfl (i := (nI st)) (vp_in_nI (n := st) (N := 32) (by omega) (by decide)) d_Md_user_94 (fun H locs hP hD hS => ?_)
    have ef129 : upd f6 (nI st).toNatClampNeg (nI k) = upd f6 st (nI k) := by rw [show (nI st).toNatClampNeg = st from nI_clamp (by omega)]
    rw [ef129] at hP hD
    have hP : va_P (dC, dI) vcl [(r 5, .inl ((cT 0), 1920, .inl g5_118)), (r 6, .inl ((cT 0), 32, .inl (upd f6 st (nI k)))), (mo, .inr (12, mdG r 0 tm (nI sn) (nI tx) (nI lz) (nI az) (nI na) (nI nt) (nI nr) mw ml mk dq))] H := hP
    have hD : va_D A [(r 5, .inl ((cT 0), 1920, .inl g5_118)), (r 6, .inl ((cT 0), 32, .inl (upd f6 st (nI k)))), (mo, .inr (12, mdG r 0 tm (nI sn) (nI tx) (nI lz) (nI az) (nI na) (nI nt) (nI nr) mw ml mk dq))] := hD
    refine lv_iload hx hb d_Md_user_95 (lv_at hl 1 rfl) ?_
    have hP9 := hP.sub (ws' := [(mo, .inr (12, mdG r 0 tm (nI sn) (nI tx) (nI lz) (nI az) (nI na) (nI nt) (nI nr) mw ml mk dq)), (r 5, .inl ((cT 0), 1920, .inl g5_118)), (r 6, .inl ((cT 0), 32, .inl (upd f6 st (nI k))))]) [2, 0, 1] rfl
    have hD9 := hD.sub (ws' := [(mo, .inr (12, mdG r 0 tm (nI sn) (nI tx) (nI lz) (nI az) (nI na) (nI nt) (nI nr) mw ml mk dq)), (r 5, .inl ((cT 0), 1920, .inl g5_118)), (r 6, .inl ((cT 0), 32, .inl (upd f6 st (nI k))))]) [2, 0, 1] (by decide) rfl
    exact W.zret (v := 0) hx hb hr (by first | rfl | decide) (fun t ht hW => ⟨⟨_, ⟨g5_118, upd f6 st (nI k)⟩, rfl, ⟨fun h9 => by first | rfl | (exfalso; omega), fun h9 => by first | rfl | (exfalso; omega), rfl⟩, by rw [ht]; exact hP9, va_K.moved hW.alike hK, hD9⟩, hS.F ht⟩) hS.2.2 d_Md_user_97
  · skip
    have n117 : ul = 0 := (nI_eq (a := ul) (b := 0) (by omega) (by omega)).mp hc115
    refine lv_iconst (v := 1) hx hb d_Md_user_46 (by decide) ?_
    refine lv_goto (tgt := 51) hx hb d_Md_user_47 (by decide) ?_
    refine lv_istore (lv' := [(5, .int 1), (0, .ref mo), (1, .int (nI st)), (2, .long v), (4, .int (nI k))]) hx hb d_Md_user_51 hl (by decide) rfl (fun ls hl => ?_)
    refine lv_iconst (v := 0) hx hb d_Md_user_53 (by decide) ?_
    refine lv_istore (lv' := [(6, .int 0), (5, .int 1), (0, .ref mo), (1, .int (nI st)), (2, .long v), (4, .int (nI k))]) hx hb d_Md_user_54 hl (by decide) rfl (fun ls hl => ?_)
    have hl := lv_sub hl [0, 1, 2, 3, 4, 5] (show _ = [(6, .int 0), (5, .int 1), (0, .ref mo), (1, .int (nI st)), (2, .long v), (4, .int (nI k))] from rfl)
    have L131 : ∀ (Q : State → Prop) (exit : ∀ (g5_130 : Nat → Int32) (H : Heap) (locs : List Loc) (ls : Array Slot), va_P (dC, dI) vcl [(r 5, .inl ((cT 0), 1920, .inl g5_130)), (r 6, .inl ((cT 0), 32, .inl f6)), (mo, .inr (12, mdG r 0 tm (nI sn) (nI tx) (nI lz) (nI az) (nI na) (nI nt) (nI nr) mw ml mk dq))] H → va_D A [(r 5, .inl ((cT 0), 1920, .inl g5_130)), (r 6, .inl ((cT 0), 32, .inl f6)), (mo, .inr (12, mdG r 0 tm (nI sn) (nI tx) (nI lz) (nI az) (nI na) (nI nt) (nI nr) mw ml mk dq))] → va_S A s.heap H locs → lv_has ls 7 [(6, .int (nI k)), (5, .int 1), (0, .ref mo), (1, .int (nI st)), (2, .long v), (4, .int (nI k))] → W p l e ({ frames := 1, cells := 0, slots := 0, locals := 22 } : Room) s m args below meth c H locs 0 0 Q (F0 m 87 ls [])) (j8 i : Nat) (g5_130 : Nat → Int32) (H : Heap) (locs : List Loc) (ls : Array Slot), i + j8 = k → va_P (dC, dI) vcl [(r 5, .inl ((cT 0), 1920, .inl g5_130)), (r 6, .inl ((cT 0), 32, .inl f6)), (mo, .inr (12, mdG r 0 tm (nI sn) (nI tx) (nI lz) (nI az) (nI na) (nI nt) (nI nr) mw ml mk dq))] H → va_D A [(r 5, .inl ((cT 0), 1920, .inl g5_130)), (r 6, .inl ((cT 0), 32, .inl f6)), (mo, .inr (12, mdG r 0 tm (nI sn) (nI tx) (nI lz) (nI az) (nI na) (nI nt) (nI nr) mw ml mk dq))] → va_S A s.heap H locs → lv_has ls 7 [(6, .int (nI i)), (5, .int 1), (0, .ref mo), (1, .int (nI st)), (2, .long v), (4, .int (nI k))] → W p l e ({ frames := 1, cells := 0, slots := 0, locals := 22 } : Room) s m args below meth c H locs 0 0 Q (F0 m 56 ls []) := by
      intro Q exit j8
      induction j8 with
      | zero => 
        intro i g5_130 H locs ls hij  hP hD hS hl
        have hij : k = i := by omega
        refine lv_iload hx hb d_Md_user_56 (lv_at hl 0 rfl) ?_
        refine lv_iload hx hb d_Md_user_58 (lv_at hl 5 rfl) ?_
        refine lv_icmp_ge (tgt := 87) hx hb d_Md_user_60 (by decide) (fun hc132 => ?_) (fun hn9 => absurd (nI_le (by omega) (by omega)) hn9)
        subst hij
        exact exit g5_130 _ _ _  hP hD hS hl
      | succ j8 ih => 
        intro i g5_130 H locs ls hij  hP hD hS hl
        have hlt : i < k := by omega
        have hlti := hlt
        refine lv_iload hx hb d_Md_user_56 (lv_at hl 0 rfl) ?_
        refine lv_iload hx hb d_Md_user_58 (lv_at hl 5 rfl) ?_
        refine lv_icmp_ge (tgt := 87) hx hb d_Md_user_60 (by decide) (fun hn9 => absurd hn9 (nI_ge (by omega) (by omega))) (fun hc133 => ?_)
        refine lv_aload_n hx hb d_Md_user_63 rfl (lv_at hl 2 rfl) ?_
        refine va_get (D := (dC, dI)) (ci := 12) (v := (.ref (r 5))) (C := R_Md) (T := F_Md) (N := 45) hx hb hg in_Md hown hK hP 2 rfl rfl 5 (by decide) (hg _ k_1025) (fun _ h9 => h9) rfl d_Md_user_64 ?_
        refine lv_bipush (v := 60) hx hb d_Md_user_67 (by decide) ?_
        refine lv_iload_n hx hb d_Md_user_69 rfl (lv_at hl 3 rfl) ?_
        refine lv_imul hx hb d_Md_user_70 ?_
        refine lv_topi (fun x135 e134 => ?_)
        obtain rfl : x135 = nI (60 * st) := by rw [e134]; exact pk_mul 60 st
        refine lv_iload hx hb d_Md_user_71 (lv_at hl 0 rfl) ?_
        refine lv_iadd hx hb d_Md_user_73 ?_
        refine lv_topi (fun x137 e136 => ?_)
        obtain rfl : x137 = nI ((60 * st) + i) := by rw [e136]; exact nI_add (60 * st) i
        refine lv_lload_n hx hb d_Md_user_74 rfl (lv_at hl 4 rfl) ?_
        refine lv_iload hx hb d_Md_user_75 (lv_at hl 0 rfl) ?_
        have hPc := hP.sub (ws' := []) [] rfl
        have hDc := hD.sub (ws' := []) [] (by decide) rfl
        have hFc := va_free (wc := []) hD hS hA [] rfl
        refine va_calli (va_runS (As := [.long v, .int (nI i)]) (rest := [.int (nI ((60 * st) + i)), .ref (r 5)]) ⟨hx, hb, hml, hown, hg⟩ (m_letter l dC dI cT H.size v (nI i) ) (va_cwS 2 hg (gI (List.forall_mem_append.mpr ⟨List.forall_mem_cons.mpr ⟨k_1169, List.forall_mem_cons.mpr ⟨k_1170, List.forall_mem_cons.mpr ⟨k_13, fun _ h => absurd h List.not_mem_nil⟩⟩⟩, List.forall_mem_cons.mpr ⟨k_1171, fun _ h => h⟩⟩)) rfl rfl rfl (by decide +kernel) ⟨Nat.le_of_ble_eq_true rfl, Nat.le_of_ble_eq_true rfl⟩) ⟨fun a U g mk q => by obtain ⟨q0, q1, qP, qK, qD⟩ := q; exact ⟨q0, q1, qP, va_K.moved (u := U) (U := U.calling g mk a) (Vm.Alike.refl U.vm) qK, qD⟩, fun U hU hW => ⟨rfl, by rw [hU], by rw [hU]; exact hPc, va_K.moved hW.alike hK, hDc.weaken (fun _ _ _ _ => trivial)⟩⟩ rfl rfl hl.1 rfl (lv_room (Nat.le_of_ble_eq_true rfl)) d_Md_user_77 ⟨Nat.le_of_ble_eq_true rfl, Nat.le_of_ble_eq_true rfl⟩) hS (fun q _ h => hFc q h) hFc (fun rv9 u t H1 locs ht hvm hw hB hz1 hk1 hS => ?_)
        try dsimp only at hw hB
        obtain ⟨hP1, hK1, hD1⟩ := hB
        rw [ht] at hP1
        generalize rv9 = r138 at hw ⊢
        obtain ⟨hP, hD⟩ := va_join (wr := [(r 5, .inl ((cT 0), 1920, .inl g5_130)), (r 6, .inl ((cT 0), 32, .inl f6)), (mo, .inr (12, mdG r 0 tm (nI sn) (nI tx) (nI lz) (nI az) (nI na) (nI nt) (nI nr) mw ml mk dq))]) (w1 := []) hP hD [] [0, 1, 2] rfl rfl (by decide) (by decide) hk1 hFc hP1 hD1
        have hw139 := hw
        clear hPc hDc hFc hz1 hk1 hP1 hK1 hD1
        generalize H1 = H at hP hS ⊢
        have hP : va_P (dC, dI) vcl [(r 5, .inl ((cT 0), 1920, .inl g5_130)), (r 6, .inl ((cT 0), 32, .inl f6)), (mo, .inr (12, mdG r 0 tm (nI sn) (nI tx) (nI lz) (nI az) (nI na) (nI nt) (nI nr) mw ml mk dq))] H := hP
        have hD : va_D A [(r 5, .inl ((cT 0), 1920, .inl g5_130)), (r 6, .inl ((cT 0), 32, .inl f6)), (mo, .inr (12, mdG r 0 tm (nI sn) (nI tx) (nI lz) (nI az) (nI na) (nI nt) (nI nr) mw ml mk dq))] := hD
        refine va_iast hx hb hK hP hD hS 0 0 rfl rfl (i := (nI ((60 * st) + i))) (vp_in_nI (n := (60 * st) + i) (N := 1920) (by omega) (by decide)) d_Md_user_80 (fun H locs hP hD hS => ?_)
        have ef140 : upd g5_130 (nI ((60 * st) + i)).toNatClampNeg r138 = upd g5_130 ((60 * st) + i) r138 := by rw [show (nI ((60 * st) + i)).toNatClampNeg = (60 * st) + i from nI_clamp (by omega)]
        rw [ef140] at hP hD
        have hP : va_P (dC, dI) vcl [(r 5, .inl ((cT 0), 1920, .inl (upd g5_130 ((60 * st) + i) r138))), (r 6, .inl ((cT 0), 32, .inl f6)), (mo, .inr (12, mdG r 0 tm (nI sn) (nI tx) (nI lz) (nI az) (nI na) (nI nt) (nI nr) mw ml mk dq))] H := hP
        have hD : va_D A [(r 5, .inl ((cT 0), 1920, .inl (upd g5_130 ((60 * st) + i) r138))), (r 6, .inl ((cT 0), 32, .inl f6)), (mo, .inr (12, mdG r 0 tm (nI sn) (nI tx) (nI lz) (nI az) (nI na) (nI nt) (nI nr) mw ml mk dq))] := hD
        refine lv_iinc (k := 0) (v := nI (i + 1)) (lv' := [(6, .int (nI (i + 1))), (5, .int 1), (0, .ref mo), (1, .int (nI st)), (2, .long v), (4, .int (nI k))]) hx hb d_Md_user_81 hl rfl (nI_1 i) (by decide) rfl (fun ls hl => ?_)
        refine lv_goto (tgt := 56) hx hb d_Md_user_84 (by decide) ?_
        have hl := lv_sub hl [0, 1, 2, 3, 4, 5] (show _ = [(6, .int (nI (i + 1))), (5, .int 1), (0, .ref mo), (1, .int (nI st)), (2, .long v), (4, .int (nI k))] from rfl)
        exact ih (i + 1) _ _ _ _ (by omega)  hP hD hS hl
    refine L131 _ (fun g5_130 H locs ls  hP hD hS hl => ?_) (k - 0) 0 f5 H _ ls (by omega)  hP hD hS hl
    refine lv_aload_n hx hb d_Md_user_87 rfl (lv_at hl 2 rfl) ?_
    refine va_get (D := (dC, dI)) (ci := 12) (v := (.ref (r 6))) (C := R_Md) (T := F_Md) (N := 45) hx hb hg in_Md hown hK hP 2 rfl rfl 6 (by decide) (hg _ k_1026) (fun _ h9 => h9) rfl d_Md_user_88 ?_
    refine lv_iload_n hx hb d_Md_user_91 rfl (lv_at hl 3 rfl) ?_
    refine lv_iload hx hb d_Md_user_92 (lv_at hl 5 rfl) ?_
    refine va_iast hx hb hK hP hD hS 1 0 rfl rfl (i := (nI st)) (vp_in_nI (n := st) (N := 32) (by omega) (by decide)) d_Md_user_94 (fun H locs hP hD hS => ?_)
    have ef141 : upd f6 (nI st).toNatClampNeg (nI k) = upd f6 st (nI k) := by rw [show (nI st).toNatClampNeg = st from nI_clamp (by omega)]
    rw [ef141] at hP hD
    have hP : va_P (dC, dI) vcl [(r 5, .inl ((cT 0), 1920, .inl g5_130)), (r 6, .inl ((cT 0), 32, .inl (upd f6 st (nI k)))), (mo, .inr (12, mdG r 0 tm (nI sn) (nI tx) (nI lz) (nI az) (nI na) (nI nt) (nI nr) mw ml mk dq))] H := hP
    have hD : va_D A [(r 5, .inl ((cT 0), 1920, .inl g5_130)), (r 6, .inl ((cT 0), 32, .inl (upd f6 st (nI k)))), (mo, .inr (12, mdG r 0 tm (nI sn) (nI tx) (nI lz) (nI az) (nI na) (nI nt) (nI nr) mw ml mk dq))] := hD
    refine lv_iload hx hb d_Md_user_95 (lv_at hl 1 rfl) ?_
    have hP9 := hP.sub (ws' := [(mo, .inr (12, mdG r 0 tm (nI sn) (nI tx) (nI lz) (nI az) (nI na) (nI nt) (nI nr) mw ml mk dq)), (r 5, .inl ((cT 0), 1920, .inl g5_130)), (r 6, .inl ((cT 0), 32, .inl (upd f6 st (nI k))))]) [2, 0, 1] rfl
    have hD9 := hD.sub (ws' := [(mo, .inr (12, mdG r 0 tm (nI sn) (nI tx) (nI lz) (nI az) (nI na) (nI nt) (nI nr) mw ml mk dq)), (r 5, .inl ((cT 0), 1920, .inl g5_130)), (r 6, .inl ((cT 0), 32, .inl (upd f6 st (nI k))))]) [2, 0, 1] (by decide) rfl
    exact W.zret (v := 1) hx hb hr (by first | rfl | decide) (fun t ht hW => ⟨⟨_, ⟨g5_130, upd f6 st (nI k)⟩, rfl, ⟨fun h9 => by first | rfl | (exfalso; omega), fun h9 => by first | rfl | (exfalso; omega), rfl⟩, by rw [ht]; exact hP9, va_K.moved hW.alike hK, hD9⟩, hS.F ht⟩) hS.2.2 d_Md_user_97
set_option maxHeartbeats 4000000 in
set_option maxRecDepth 100000 in
/-- seal -/
theorem o_seal (l : Launch) (dC : Nat → ClassId) (dI : Nat → Nat → Nat) (cT : Nat → ClassId) (sz : Nat) (mo : Nat) (r : Nat → Nat) (cd : Int32) (tm : Int32) (sn : Nat) (tx : Nat) (lz : Nat) (az : Nat) (na : Nat) (nt : Nat) (nr : Nat) (mw : Int32) (ml : Int32) (mk : Int64) (dq : Int64) (f7 : Nat → Int32) (f9 : Nat → Int32) (f3 : Nat → Int32) (f4 : Nat → Int32) (f0 : Nat → Int64) (f11 : Nat → Int32) (st : Nat) (sl : Nat) (hst : st < 4) (hfz : f4 st = nI sl) (hsl : sl ≤ 40) (h20 : 20 ≤ sn) (hsn : sn ≤ 1000) (h7 : AB f7) (h11 : AB f11) : Met l y_Md_seal (Cond.code y_Md_seal b_Md_seal 3 (Option.none : Option Jvm.ClassFile.FieldType) :: BIG) ({ frames := 3, cells := 0, slots := 0, locals := 92 }) (va_Pc [.ref mo, .int (nI st)] (fun U => U.heap.size = sz ∧ va_P (dC, dI) vcl [(mo, .inr (12, mdG r cd tm (nI sn) (nI 0) (nI lz) (nI az) (nI na) (nI nt) (nI nr) mw ml mk dq)), (r 7, .inl ((cT 0), 1000, .inl f7)), (r 9, .inl ((cT 0), 1400, .inl f9)), (r 3, .inl ((cT 0), 160, .inl f3)), (r 4, .inl ((cT 0), 4, .inl f4)), (r 0, .inl ((cT 1), 64, .inr (.inl f0))), (r 11, .inl ((cT 0), 16, .inl f11))] U.heap ∧ va_K (dC, dI) vcl (tyL cT) U ∧ va_D (fun _ => True) [(mo, .inr (12, mdG r cd tm (nI sn) (nI 0) (nI lz) (nI az) (nI na) (nI nt) (nI nr) mw ml mk dq)), (r 7, .inl ((cT 0), 1000, .inl f7)), (r 9, .inl ((cT 0), 1400, .inl f9)), (r 3, .inl ((cT 0), 160, .inl f3)), (r 4, .inl ((cT 0), 4, .inl f4)), (r 0, .inl ((cT 1), 64, .inr (.inl f0))), (r 11, .inl ((cT 0), 16, .inl f11))])) (va_Qv (S := (Nat → Int32) × (Nat → Int32) × (Nat → Int32)) (fun u => match u with | (g7, g9, g11) => (AB g7) ∧ (AB g11)) (fun u t => match u with | (g7, g9, g11) => va_P (dC, dI) vcl [(mo, .inr (12, mdG r 0 tm (nI sn) (nI 0) (nI lz) (nI az) (nI na) (nI nt) (nI nr) mw ml mk dq)), (r 7, .inl ((cT 0), 1000, .inl g7)), (r 9, .inl ((cT 0), 1400, .inl g9)), (r 3, .inl ((cT 0), 160, .inl f3)), (r 4, .inl ((cT 0), 4, .inl f4)), (r 0, .inl ((cT 1), 64, .inr (.inl f0))), (r 11, .inl ((cT 0), 16, .inl g11))] t.heap ∧ va_K (dC, dI) vcl (tyL cT) t ∧ va_D (va_A [(mo, .inr (12, mdG r cd tm (nI sn) (nI 0) (nI lz) (nI az) (nI na) (nI nt) (nI nr) mw ml mk dq)), (r 7, .inl ((cT 0), 1000, .inl f7)), (r 9, .inl ((cT 0), 1400, .inl f9)), (r 3, .inl ((cT 0), 160, .inl f3)), (r 4, .inl ((cT 0), 4, .inl f4)), (r 0, .inl ((cT 1), 64, .inr (.inl f0))), (r 11, .inl ((cT 0), 16, .inl f11))] sz) [(mo, .inr (12, mdG r 0 tm (nI sn) (nI 0) (nI lz) (nI az) (nI na) (nI nt) (nI nr) mw ml mk dq)), (r 7, .inl ((cT 0), 1000, .inl g7)), (r 9, .inl ((cT 0), 1400, .inl g9)), (r 3, .inl ((cT 0), 160, .inl f3)), (r 4, .inl ((cT 0), 4, .inl f4)), (r 0, .inl ((cT 1), 64, .inr (.inl f0))), (r 11, .inl ((cT 0), 16, .inl g11))]) (va_A [(mo, .inr (12, mdG r cd tm (nI sn) (nI 0) (nI lz) (nI az) (nI na) (nI nt) (nI nr) mw ml mk dq)), (r 7, .inl ((cT 0), 1000, .inl f7)), (r 9, .inl ((cT 0), 1400, .inl f9)), (r 3, .inl ((cT 0), 160, .inl f3)), (r 4, .inl ((cT 0), 4, .inl f4)), (r 0, .inl ((cT 1), 64, .inr (.inl f0))), (r 11, .inl ((cT 0), 16, .inl f11))] sz)) 0 0 (va_A [(mo, .inr (12, mdG r cd tm (nI sn) (nI 0) (nI lz) (nI az) (nI na) (nI nt) (nI nr) mw ml mk dq)), (r 7, .inl ((cT 0), 1000, .inl f7)), (r 9, .inl ((cT 0), 1400, .inl f9)), (r 3, .inl ((cT 0), 160, .inl f3)), (r 4, .inl ((cT 0), 4, .inl f4)), (r 0, .inl ((cT 1), 64, .inr (.inl f0))), (r 11, .inl ((cT 0), 16, .inl f11))] sz) := by
  refine Met.ofW (cc := b_Md_seal) (maxL := 3) (ret := (Option.none : Option Jvm.ClassFile.FieldType)) (by decide) rfl ?_
  intro p e s m args below meth c s₁ B hml hv
  obtain ⟨hargs, hsz, hP, hK, hD0⟩ := hv
  have hx := B.exec
  have hb := B.bytes
  have hr := B.returns
  have hts := atoms_spec (ws := (Cond.code y_Md_seal b_Md_seal 3 (Option.none : Option Jvm.ClassFile.FieldType) :: BIG)) B.pre
  have hg : ∀ w ∈ BIG, w.before _ s = true := fun w h => hts w (List.mem_cons_of_mem _ h)
  have hown : s.vm.findClass "DoorServerModel" = some m.cls := findClass_of_methodNamed B.named
  have hlocks := B.notSynchronized
  subst hsz
  have hD := hD0.self (sz := s.heap.size)
  generalize hAe : va_A [(mo, .inr (12, mdG r cd tm (nI sn) (nI 0) (nI lz) (nI az) (nI na) (nI nt) (nI nr) mw ml mk dq)), (r 7, .inl ((cT 0), 1000, .inl f7)), (r 9, .inl ((cT 0), 1400, .inl f9)), (r 3, .inl ((cT 0), 160, .inl f3)), (r 4, .inl ((cT 0), 4, .inl f4)), (r 0, .inl ((cT 1), 64, .inr (.inl f0))), (r 11, .inl ((cT 0), 16, .inl f11))] s.heap.size = A at hD ⊢
  have hA : ∀ q : Nat, s.heap.size ≤ q → A q := fun q h => by rw [← hAe]; exact Or.inr h
  have hS : va_S A s.heap s.heap [] := va_S.rf
  have hl := lv_entry ([.ref mo, .int (nI st)]) (n := 3) (Nat.le_of_ble_eq_true rfl)
  refine W.eq (g2 := entryFrame m (List.toArray [.ref mo, .int (nI st)]) 3) (by rw [hargs]) ?_
  rw [lg_entry_eq]
  generalize (lg_sl ([.ref mo, .int (nI st)]) ++ List.replicate (3 - (lg_sl ([.ref mo, .int (nI st)])).length) Slot.unset).toArray = ls at hl ⊢
  have hl : lv_has ls 3 [(0, .ref mo), (1, .int (nI st))] := hl
  change W p l e ({ frames := 3, cells := 0, slots := 0, locals := 92 } : Room) s m args below meth c s.heap [] 0 0 _ _
  have hP : va_P (dC, dI) vcl [(mo, .inr (12, mdG r cd tm (nI sn) (nI 0) (nI lz) (nI az) (nI na) (nI nt) (nI nr) mw ml mk dq)), (r 7, .inl ((cT 0), 1000, .inl f7)), (r 9, .inl ((cT 0), 1400, .inl f9)), (r 3, .inl ((cT 0), 160, .inl f3)), (r 4, .inl ((cT 0), 4, .inl f4)), (r 0, .inl ((cT 1), 64, .inr (.inl f0))), (r 11, .inl ((cT 0), 16, .inl f11))] s.heap := hP
  refine lv_aload_n hx hb d_Md_seal_0 rfl (lv_at hl 0 rfl) ?_
  refine lv_iload_n hx hb d_Md_seal_1 rfl (lv_at hl 1 rfl) ?_
  refine lv_if_lt (tgt := 14) hx hb d_Md_seal_2 (by decide) (fun hn9 => absurd hn9 (nI_pos (by omega))) (fun hc142 => ?_)
  refine lv_iload_n hx hb d_Md_seal_5 rfl (lv_at hl 1 rfl) ?_
  refine lv_iconst (v := 4) hx hb d_Md_seal_6 (by decide) ?_
  refine lv_icmp_ge (tgt := 14) hx hb d_Md_seal_7 (by decide) (fun hn9 => absurd hn9 (nI_ge (b := 4) hst (by decide))) (fun hc143 => ?_)
  refine lv_iconst (v := 1) hx hb d_Md_seal_10 (by decide) ?_
  refine lv_goto (tgt := 15) hx hb d_Md_seal_11 (by decide) ?_
  have hPc := hP.sub (ws' := [(mo, .inr (12, mdG r cd tm (nI sn) (nI 0) (nI lz) (nI az) (nI na) (nI nt) (nI nr) mw ml mk dq))]) [0] rfl
  have hDc := hD.sub (ws' := [(mo, .inr (12, mdG r cd tm (nI sn) (nI 0) (nI lz) (nI az) (nI na) (nI nt) (nI nr) mw ml mk dq))]) [0] (by decide) rfl
  have hFc := va_free (wc := [(mo, .inr (12, mdG r cd tm (nI sn) (nI 0) (nI lz) (nI az) (nI na) (nI nt) (nI nr) mw ml mk dq))]) hD hS hA [0] rfl
  refine va_calli (va_runV (C := "DoorServerModel") (As := [.int 1]) (rest := []) ⟨hx, hb, hml, hown, hg⟩ (m_goes1 l dC dI cT s.heap.size mo r cd tm sn 0 lz az na nt nr mw ml mk dq ) (cwV 1 hg (gI (List.forall_mem_append.mpr ⟨List.forall_mem_cons.mpr ⟨k_1165, List.forall_mem_cons.mpr ⟨k_1167, List.forall_mem_cons.mpr ⟨(big_sel (q := y_Md_goes) (n := 45) (by decide +kernel)), List.forall_mem_cons.mpr ⟨k_13, fun _ h => absurd h List.not_mem_nil⟩⟩⟩⟩, List.forall_mem_cons.mpr ⟨k_1168, fun _ h => h⟩⟩)) rfl rfl rfl (by decide +kernel) ⟨Nat.le_of_ble_eq_true rfl, Nat.le_of_ble_eq_true rfl⟩) ⟨fun a U g mk q => by obtain ⟨q0, q1, qP, qK, qD⟩ := q; exact ⟨q0, q1, qP, va_K.moved (u := U) (U := U.calling g mk a) (Vm.Alike.refl U.vm) qK, qD⟩, va_recv (q0 := 0) (ci := 12) hK hP rfl rfl, fun U hU hW => ⟨rfl, by rw [hU], by rw [hU]; exact hPc, va_K.moved hW.alike hK, hDc.weaken (fun _ _ _ _ => trivial)⟩⟩ rfl rfl hl.1 rfl (lv_room (Nat.le_of_ble_eq_true rfl)) d_Md_seal_15 ⟨Nat.le_of_ble_eq_true rfl, Nat.le_of_ble_eq_true rfl⟩) hS (fun q _ h => hFc q h) hFc (fun rv9 u t H1 locs ht hvm hw hB hz1 hk1 hS => ?_)
  try dsimp only at hw hB
  obtain ⟨hP1, hK1, hD1⟩ := hB
  rw [ht] at hP1
  obtain ⟨rfl, hw⟩ := hw
  obtain ⟨hP, hD⟩ := va_join (wr := [(r 7, .inl ((cT 0), 1000, .inl f7)), (r 9, .inl ((cT 0), 1400, .inl f9)), (r 3, .inl ((cT 0), 160, .inl f3)), (r 4, .inl ((cT 0), 4, .inl f4)), (r 0, .inl ((cT 1), 64, .inr (.inl f0))), (r 11, .inl ((cT 0), 16, .inl f11))]) (w1 := [(mo, .inr (12, mdG r 0 tm (nI sn) (nI 0) (nI lz) (nI az) (nI na) (nI nt) (nI nr) mw ml mk dq))]) hP hD [0] [1, 2, 3, 4, 5, 6] rfl rfl (by decide) (by decide) hk1 hFc hP1 hD1
  have hw144 := hw
  clear hPc hDc hFc hz1 hk1 hP1 hK1 hD1
  generalize H1 = H at hP hS ⊢
  have hP : va_P (dC, dI) vcl [(r 7, .inl ((cT 0), 1000, .inl f7)), (r 9, .inl ((cT 0), 1400, .inl f9)), (r 3, .inl ((cT 0), 160, .inl f3)), (r 4, .inl ((cT 0), 4, .inl f4)), (r 0, .inl ((cT 1), 64, .inr (.inl f0))), (r 11, .inl ((cT 0), 16, .inl f11)), (mo, .inr (12, mdG r 0 tm (nI sn) (nI 0) (nI lz) (nI az) (nI na) (nI nt) (nI nr) mw ml mk dq))] H := hP
  have hD : va_D A [(r 7, .inl ((cT 0), 1000, .inl f7)), (r 9, .inl ((cT 0), 1400, .inl f9)), (r 3, .inl ((cT 0), 160, .inl f3)), (r 4, .inl ((cT 0), 4, .inl f4)), (r 0, .inl ((cT 1), 64, .inr (.inl f0))), (r 11, .inl ((cT 0), 16, .inl f11)), (mo, .inr (12, mdG r 0 tm (nI sn) (nI 0) (nI lz) (nI az) (nI na) (nI nt) (nI nr) mw ml mk dq))] := hD
  refine lv_if_eq (tgt := 58) hx hb d_Md_seal_18 (by decide) (fun hn9 => absurd hn9 (by decide)) (fun hc145 => ?_)
  refine lv_aload_n hx hb d_Md_seal_21 rfl (lv_at hl 0 rfl) ?_
  have hPc := hP.sub (ws' := [(mo, .inr (12, mdG r 0 tm (nI sn) (nI 0) (nI lz) (nI az) (nI na) (nI nt) (nI nr) mw ml mk dq)), (r 7, .inl ((cT 0), 1000, .inl f7))]) [6, 0] rfl
  have hDc := hD.sub (ws' := [(mo, .inr (12, mdG r 0 tm (nI sn) (nI 0) (nI lz) (nI az) (nI na) (nI nt) (nI nr) mw ml mk dq)), (r 7, .inl ((cT 0), 1000, .inl f7))]) [6, 0] (by decide) rfl
  have hFc := va_free (wc := [(mo, .inr (12, mdG r 0 tm (nI sn) (nI 0) (nI lz) (nI az) (nI na) (nI nt) (nI nr) mw ml mk dq)), (r 7, .inl ((cT 0), 1000, .inl f7))]) hD hS hA [6, 0] rfl
  refine va_callv (va_runV (C := "DoorServerModel") (As := []) (rest := []) ⟨hx, hb, hml, hown, hg⟩ (m_length l dC dI cT H.size mo r 0 tm sn 0 lz az na nt nr mw ml mk dq f7 (by first | assumption | omega) (by first | assumption | omega)) (cwV 0 hg (gI (List.forall_mem_append.mpr ⟨List.forall_mem_cons.mpr ⟨k_1196, List.forall_mem_cons.mpr ⟨k_1198, List.forall_mem_cons.mpr ⟨(big_sel (q := y_Md_length) (n := 45) (by decide +kernel)), List.forall_mem_cons.mpr ⟨k_13, fun _ h => absurd h List.not_mem_nil⟩⟩⟩⟩, List.forall_mem_cons.mpr ⟨k_1199, fun _ h => h⟩⟩)) rfl rfl rfl (by decide +kernel) ⟨Nat.le_of_ble_eq_true rfl, Nat.le_of_ble_eq_true rfl⟩) ⟨fun a U g mk q => by obtain ⟨q0, q1, qP, qK, qD⟩ := q; exact ⟨q0, q1, qP, va_K.moved (u := U) (U := U.calling g mk a) (Vm.Alike.refl U.vm) qK, qD⟩, va_recv (q0 := 6) (ci := 12) hK hP rfl rfl, fun U hU hW => ⟨rfl, by rw [hU], by rw [hU]; exact hPc, va_K.moved hW.alike hK, hDc.weaken (fun _ _ _ _ => trivial)⟩⟩ rfl rfl hl.1 rfl (lv_room (Nat.le_of_ble_eq_true rfl)) d_Md_seal_22 ⟨Nat.le_of_ble_eq_true rfl, Nat.le_of_ble_eq_true rfl⟩) hS (fun q _ h => hFc q h) hFc (fun u t H1 locs ht hvm hw hB hz1 hk1 hS => ?_)
  obtain ⟨g7_146, rfl⟩ : ∃ z, z = u := ⟨_, rfl⟩
  try dsimp only at hw hB
  obtain ⟨hP1, hK1, hD1⟩ := hB
  rw [ht] at hP1
  obtain ⟨hP, hD⟩ := va_join (wr := [(r 9, .inl ((cT 0), 1400, .inl f9)), (r 3, .inl ((cT 0), 160, .inl f3)), (r 4, .inl ((cT 0), 4, .inl f4)), (r 0, .inl ((cT 1), 64, .inr (.inl f0))), (r 11, .inl ((cT 0), 16, .inl f11))]) (w1 := [(mo, .inr (12, mdG r 0 tm (nI sn) (nI 0) (nI lz) (nI az) (nI na) (nI nt) (nI nr) mw ml mk dq)), (r 7, .inl ((cT 0), 1000, .inl g7_146))]) hP hD [6, 0] [1, 2, 3, 4, 5] rfl rfl (by decide) (by decide) hk1 hFc hP1 hD1
  have hw147 := hw
  clear hPc hDc hFc hz1 hk1 hP1 hK1 hD1
  generalize H1 = H at hP hS ⊢
  have hP : va_P (dC, dI) vcl [(r 9, .inl ((cT 0), 1400, .inl f9)), (r 3, .inl ((cT 0), 160, .inl f3)), (r 4, .inl ((cT 0), 4, .inl f4)), (r 0, .inl ((cT 1), 64, .inr (.inl f0))), (r 11, .inl ((cT 0), 16, .inl f11)), (mo, .inr (12, mdG r 0 tm (nI sn) (nI 0) (nI lz) (nI az) (nI na) (nI nt) (nI nr) mw ml mk dq)), (r 7, .inl ((cT 0), 1000, .inl g7_146))] H := hP
  have hD : va_D A [(r 9, .inl ((cT 0), 1400, .inl f9)), (r 3, .inl ((cT 0), 160, .inl f3)), (r 4, .inl ((cT 0), 4, .inl f4)), (r 0, .inl ((cT 1), 64, .inr (.inl f0))), (r 11, .inl ((cT 0), 16, .inl f11)), (mo, .inr (12, mdG r 0 tm (nI sn) (nI 0) (nI lz) (nI az) (nI na) (nI nt) (nI nr) mw ml mk dq)), (r 7, .inl ((cT 0), 1000, .inl g7_146))] := hD
  have k148 := hw147
  refine lv_aload_n hx hb d_Md_seal_25 rfl (lv_at hl 0 rfl) ?_
  refine lv_iload_n hx hb d_Md_seal_26 rfl (lv_at hl 1 rfl) ?_
  have hPc := hP.sub (ws' := [(mo, .inr (12, mdG r 0 tm (nI sn) (nI 0) (nI lz) (nI az) (nI na) (nI nt) (nI nr) mw ml mk dq)), (r 9, .inl ((cT 0), 1400, .inl f9)), (r 3, .inl ((cT 0), 160, .inl f3)), (r 4, .inl ((cT 0), 4, .inl f4)), (r 0, .inl ((cT 1), 64, .inr (.inl f0))), (r 11, .inl ((cT 0), 16, .inl f11)), (r 7, .inl ((cT 0), 1000, .inl g7_146))]) [5, 0, 1, 2, 3, 4, 6] rfl
  have hDc := hD.sub (ws' := [(mo, .inr (12, mdG r 0 tm (nI sn) (nI 0) (nI lz) (nI az) (nI na) (nI nt) (nI nr) mw ml mk dq)), (r 9, .inl ((cT 0), 1400, .inl f9)), (r 3, .inl ((cT 0), 160, .inl f3)), (r 4, .inl ((cT 0), 4, .inl f4)), (r 0, .inl ((cT 1), 64, .inr (.inl f0))), (r 11, .inl ((cT 0), 16, .inl f11)), (r 7, .inl ((cT 0), 1000, .inl g7_146))]) [5, 0, 1, 2, 3, 4, 6] (by decide) rfl
  have hFc := va_free (wc := [(mo, .inr (12, mdG r 0 tm (nI sn) (nI 0) (nI lz) (nI az) (nI na) (nI nt) (nI nr) mw ml mk dq)), (r 9, .inl ((cT 0), 1400, .inl f9)), (r 3, .inl ((cT 0), 160, .inl f3)), (r 4, .inl ((cT 0), 4, .inl f4)), (r 0, .inl ((cT 1), 64, .inr (.inl f0))), (r 11, .inl ((cT 0), 16, .inl f11)), (r 7, .inl ((cT 0), 1000, .inl g7_146))]) hD hS hA [5, 0, 1, 2, 3, 4, 6] rfl
  refine va_callv (va_runV (C := "DoorServerModel") (As := [.int (nI st)]) (rest := []) ⟨hx, hb, hml, hown, hg⟩ (m_auth l dC dI cT H.size mo r 0 tm sn 0 lz az na nt nr mw ml mk dq f9 f3 f4 f0 f11 g7_146 st sl (by first | assumption | omega) (by first | assumption | omega) (by first | assumption | omega) (by first | assumption | omega) (by first | assumption | omega)) (cwV 1 hg (gI (List.forall_mem_append.mpr ⟨List.forall_mem_cons.mpr ⟨k_1275, List.forall_mem_cons.mpr ⟨k_1277, List.forall_mem_cons.mpr ⟨(big_sel (q := y_Md_authenticator) (n := 45) (by decide +kernel)), List.forall_mem_cons.mpr ⟨k_13, fun _ h => absurd h List.not_mem_nil⟩⟩⟩⟩, List.forall_mem_cons.mpr ⟨k_1278, fun _ h => h⟩⟩)) rfl rfl rfl (by decide +kernel) ⟨Nat.le_of_ble_eq_true rfl, Nat.le_of_ble_eq_true rfl⟩) ⟨fun a U g mk q => by obtain ⟨q0, q1, qP, qK, qD⟩ := q; exact ⟨q0, q1, qP, va_K.moved (u := U) (U := U.calling g mk a) (Vm.Alike.refl U.vm) qK, qD⟩, va_recv (q0 := 5) (ci := 12) hK hP rfl rfl, fun U hU hW => ⟨rfl, by rw [hU], by rw [hU]; exact hPc, va_K.moved hW.alike hK, hDc.weaken (fun _ _ _ _ => trivial)⟩⟩ rfl rfl hl.1 rfl (lv_room (Nat.le_of_ble_eq_true rfl)) d_Md_seal_27 ⟨Nat.le_of_ble_eq_true rfl, Nat.le_of_ble_eq_true rfl⟩) hS (fun q _ h => hFc q h) hFc (fun u t H1 locs ht hvm hw hB hz1 hk1 hS => ?_)
  obtain ⟨g9_149, g11_150⟩ := u
  try dsimp only at hw hB
  obtain ⟨hP1, hK1, hD1⟩ := hB
  rw [ht] at hP1
  obtain ⟨hP, hD⟩ := va_join (wr := []) (w1 := [(mo, .inr (12, mdG r 0 tm (nI sn) (nI 0) (nI lz) (nI az) (nI na) (nI nt) (nI nr) mw ml mk dq)), (r 9, .inl ((cT 0), 1400, .inl g9_149)), (r 3, .inl ((cT 0), 160, .inl f3)), (r 4, .inl ((cT 0), 4, .inl f4)), (r 0, .inl ((cT 1), 64, .inr (.inl f0))), (r 11, .inl ((cT 0), 16, .inl g11_150)), (r 7, .inl ((cT 0), 1000, .inl g7_146))]) hP hD [5, 0, 1, 2, 3, 4, 6] [] rfl rfl (by decide) (by decide) hk1 hFc hP1 hD1
  have hw151 := hw
  clear hPc hDc hFc hz1 hk1 hP1 hK1 hD1
  generalize H1 = H at hP hS ⊢
  have hP : va_P (dC, dI) vcl [(mo, .inr (12, mdG r 0 tm (nI sn) (nI 0) (nI lz) (nI az) (nI na) (nI nt) (nI nr) mw ml mk dq)), (r 9, .inl ((cT 0), 1400, .inl g9_149)), (r 3, .inl ((cT 0), 160, .inl f3)), (r 4, .inl ((cT 0), 4, .inl f4)), (r 0, .inl ((cT 1), 64, .inr (.inl f0))), (r 11, .inl ((cT 0), 16, .inl g11_150)), (r 7, .inl ((cT 0), 1000, .inl g7_146))] H := hP
  have hD : va_D A [(mo, .inr (12, mdG r 0 tm (nI sn) (nI 0) (nI lz) (nI az) (nI na) (nI nt) (nI nr) mw ml mk dq)), (r 9, .inl ((cT 0), 1400, .inl g9_149)), (r 3, .inl ((cT 0), 160, .inl f3)), (r 4, .inl ((cT 0), 4, .inl f4)), (r 0, .inl ((cT 1), 64, .inr (.inl f0))), (r 11, .inl ((cT 0), 16, .inl g11_150)), (r 7, .inl ((cT 0), 1000, .inl g7_146))] := hD
  have k152 := hw151
  refine lv_iconst (v := 0) hx hb d_Md_seal_30 (by decide) ?_
  refine lv_istore_n (lv' := [(2, .int 0), (0, .ref mo), (1, .int (nI st))]) hx hb d_Md_seal_31 rfl hl (by decide) rfl (fun ls hl => ?_)
  have hl := lv_sub hl [0, 1, 2] (show _ = [(2, .int 0), (0, .ref mo), (1, .int (nI st))] from rfl)
  have L154 : ∀ (Q : State → Prop) (exit : ∀ (g7_153 : Nat → Int32) (H : Heap) (locs : List Loc) (ls : Array Slot), (AB g7_153) → va_P (dC, dI) vcl [(mo, .inr (12, mdG r 0 tm (nI sn) (nI 0) (nI lz) (nI az) (nI na) (nI nt) (nI nr) mw ml mk dq)), (r 9, .inl ((cT 0), 1400, .inl g9_149)), (r 3, .inl ((cT 0), 160, .inl f3)), (r 4, .inl ((cT 0), 4, .inl f4)), (r 0, .inl ((cT 1), 64, .inr (.inl f0))), (r 11, .inl ((cT 0), 16, .inl g11_150)), (r 7, .inl ((cT 0), 1000, .inl g7_153))] H → va_D A [(mo, .inr (12, mdG r 0 tm (nI sn) (nI 0) (nI lz) (nI az) (nI na) (nI nt) (nI nr) mw ml mk dq)), (r 9, .inl ((cT 0), 1400, .inl g9_149)), (r 3, .inl ((cT 0), 160, .inl f3)), (r 4, .inl ((cT 0), 4, .inl f4)), (r 0, .inl ((cT 1), 64, .inr (.inl f0))), (r 11, .inl ((cT 0), 16, .inl g11_150)), (r 7, .inl ((cT 0), 1000, .inl g7_153))] → va_S A s.heap H locs → lv_has ls 3 [(2, .int (nI 16)), (0, .ref mo), (1, .int (nI st))] → W p l e ({ frames := 3, cells := 0, slots := 0, locals := 92 } : Room) s m args below meth c H locs 0 0 Q (F0 m 58 ls [])) (j8 i : Nat) (g7_153 : Nat → Int32) (H : Heap) (locs : List Loc) (ls : Array Slot), i + j8 = 16 → (AB g7_153) → va_P (dC, dI) vcl [(mo, .inr (12, mdG r 0 tm (nI sn) (nI 0) (nI lz) (nI az) (nI na) (nI nt) (nI nr) mw ml mk dq)), (r 9, .inl ((cT 0), 1400, .inl g9_149)), (r 3, .inl ((cT 0), 160, .inl f3)), (r 4, .inl ((cT 0), 4, .inl f4)), (r 0, .inl ((cT 1), 64, .inr (.inl f0))), (r 11, .inl ((cT 0), 16, .inl g11_150)), (r 7, .inl ((cT 0), 1000, .inl g7_153))] H → va_D A [(mo, .inr (12, mdG r 0 tm (nI sn) (nI 0) (nI lz) (nI az) (nI na) (nI nt) (nI nr) mw ml mk dq)), (r 9, .inl ((cT 0), 1400, .inl g9_149)), (r 3, .inl ((cT 0), 160, .inl f3)), (r 4, .inl ((cT 0), 4, .inl f4)), (r 0, .inl ((cT 1), 64, .inr (.inl f0))), (r 11, .inl ((cT 0), 16, .inl g11_150)), (r 7, .inl ((cT 0), 1000, .inl g7_153))] → va_S A s.heap H locs → lv_has ls 3 [(2, .int (nI i)), (0, .ref mo), (1, .int (nI st))] → W p l e ({ frames := 3, cells := 0, slots := 0, locals := 92 } : Room) s m args below meth c H locs 0 0 Q (F0 m 32 ls []) := by
    intro Q exit j8
    induction j8 with
    | zero => 
      intro i g7_153 H locs ls hij hab hP hD hS hl
      have hij : 16 = i := by omega
      refine lv_iload_n hx hb d_Md_seal_32 rfl (lv_at hl 0 rfl) ?_
      refine lv_bipush (v := 16) hx hb d_Md_seal_33 (by decide) ?_
      refine lv_topi (fun x156 e155 => ?_)
      obtain rfl : x156 = nI 16 := by rw [e155]; rfl
      refine lv_icmp_ge (tgt := 58) hx hb d_Md_seal_35 (by decide) (fun hc157 => ?_) (fun hn9 => absurd (nI_le (by omega) (by omega)) hn9)
      subst hij
      exact exit g7_153 _ _ _ hab hP hD hS hl
    | succ j8 ih => 
      intro i g7_153 H locs ls hij hab hP hD hS hl
      have hlt : i < 16 := by omega
      have hlti := hlt
      refine lv_iload_n hx hb d_Md_seal_32 rfl (lv_at hl 0 rfl) ?_
      refine lv_bipush (v := 16) hx hb d_Md_seal_33 (by decide) ?_
      refine lv_topi (fun x159 e158 => ?_)
      obtain rfl : x159 = nI 16 := by rw [e158]; rfl
      refine lv_icmp_ge (tgt := 58) hx hb d_Md_seal_35 (by decide) (fun hn9 => absurd hn9 (nI_ge (by omega) (by omega))) (fun hc160 => ?_)
      refine lv_aload_n hx hb d_Md_seal_38 rfl (lv_at hl 1 rfl) ?_
      refine va_get (D := (dC, dI)) (ci := 12) (v := (.ref (r 7))) (C := R_Md) (T := F_Md) (N := 45) hx hb hg in_Md hown hK hP 0 rfl rfl 7 (by decide) (hg _ k_1027) (fun _ h9 => h9) rfl d_Md_seal_39 ?_
      refine lv_iconst (v := 4) hx hb d_Md_seal_42 (by decide) ?_
      refine lv_iload_n hx hb d_Md_seal_43 rfl (lv_at hl 0 rfl) ?_
      refine lv_iadd hx hb d_Md_seal_44 ?_
      refine lv_topi (fun x162 e161 => ?_)
      obtain rfl : x162 = nI (4 + i) := by rw [e161]; exact nI_add 4 i
      refine lv_aload_n hx hb d_Md_seal_45 rfl (lv_at hl 1 rfl) ?_
      refine va_get (D := (dC, dI)) (ci := 12) (v := (.ref (r 11))) (C := R_Md) (T := F_Md) (N := 45) hx hb hg in_Md hown hK hP 0 rfl rfl 11 (by decide) (hg _ k_1031) (fun _ h9 => h9) rfl d_Md_seal_46 ?_
      refine lv_iload_n hx hb d_Md_seal_49 rfl (lv_at hl 0 rfl) ?_
      obtain ⟨t163, ht163, xt163⟩ := k152 i
      refine va_iald hx hb hK hP 5 0 rfl rfl (i := (nI i)) (vp_in_nI (N := 16) (by omega) (by decide)) d_Md_seal_50 ?_
      refine lv_topi (fun x165 e164 => ?_)
      obtain rfl : x165 = nI t163 := by rw [e164]; rw [nI_clamp (by omega)]; exact xt163
      refine va_iast hx hb hK hP hD hS 6 0 rfl rfl (i := (nI (4 + i))) (vp_in_nI (n := 4 + i) (N := 1000) (by omega) (by decide)) d_Md_seal_51 (fun H locs hP hD hS => ?_)
      have ef166 : upd g7_153 (nI (4 + i)).toNatClampNeg (nI t163) = upd g7_153 (4 + i) (nI t163) := by rw [show (nI (4 + i)).toNatClampNeg = 4 + i from nI_clamp (by omega)]
      rw [ef166] at hP hD
      have hP : va_P (dC, dI) vcl [(mo, .inr (12, mdG r 0 tm (nI sn) (nI 0) (nI lz) (nI az) (nI na) (nI nt) (nI nr) mw ml mk dq)), (r 9, .inl ((cT 0), 1400, .inl g9_149)), (r 3, .inl ((cT 0), 160, .inl f3)), (r 4, .inl ((cT 0), 4, .inl f4)), (r 0, .inl ((cT 1), 64, .inr (.inl f0))), (r 11, .inl ((cT 0), 16, .inl g11_150)), (r 7, .inl ((cT 0), 1000, .inl (upd g7_153 (4 + i) (nI t163))))] H := hP
      have hD : va_D A [(mo, .inr (12, mdG r 0 tm (nI sn) (nI 0) (nI lz) (nI az) (nI na) (nI nt) (nI nr) mw ml mk dq)), (r 9, .inl ((cT 0), 1400, .inl g9_149)), (r 3, .inl ((cT 0), 160, .inl f3)), (r 4, .inl ((cT 0), 4, .inl f4)), (r 0, .inl ((cT 1), 64, .inr (.inl f0))), (r 11, .inl ((cT 0), 16, .inl g11_150)), (r 7, .inl ((cT 0), 1000, .inl (upd g7_153 (4 + i) (nI t163))))] := hD
      refine lv_iinc (k := 0) (v := nI (i + 1)) (lv' := [(2, .int (nI (i + 1))), (0, .ref mo), (1, .int (nI st))]) hx hb d_Md_seal_52 hl rfl (nI_1 i) (by decide) rfl (fun ls hl => ?_)
      refine lv_goto (tgt := 32) hx hb d_Md_seal_55 (by decide) ?_
      have hl := lv_sub hl [0, 1, 2] (show _ = [(2, .int (nI (i + 1))), (0, .ref mo), (1, .int (nI st))] from rfl)
      exact ih (i + 1) _ _ _ _ (by omega) (AB_upd hab (BY_n (by omega))) hP hD hS hl
  refine L154 _ (fun g7_153 H locs ls hab hP hD hS hl => ?_) (16 - 0) 0 g7_146 H _ ls (by omega) (by first | assumption | omega) hP hD hS hl
  have hP9 := hP.sub (ws' := [(mo, .inr (12, mdG r 0 tm (nI sn) (nI 0) (nI lz) (nI az) (nI na) (nI nt) (nI nr) mw ml mk dq)), (r 7, .inl ((cT 0), 1000, .inl g7_153)), (r 9, .inl ((cT 0), 1400, .inl g9_149)), (r 3, .inl ((cT 0), 160, .inl f3)), (r 4, .inl ((cT 0), 4, .inl f4)), (r 0, .inl ((cT 1), 64, .inr (.inl f0))), (r 11, .inl ((cT 0), 16, .inl g11_150))]) [0, 6, 1, 2, 3, 4, 5] rfl
  have hD9 := hD.sub (ws' := [(mo, .inr (12, mdG r 0 tm (nI sn) (nI 0) (nI lz) (nI az) (nI na) (nI nt) (nI nr) mw ml mk dq)), (r 7, .inl ((cT 0), 1000, .inl g7_153)), (r 9, .inl ((cT 0), 1400, .inl g9_149)), (r 3, .inl ((cT 0), 160, .inl f3)), (r 4, .inl ((cT 0), 4, .inl f4)), (r 0, .inl ((cT 1), 64, .inr (.inl f0))), (r 11, .inl ((cT 0), 16, .inl g11_150))]) [0, 6, 1, 2, 3, 4, 5] (by decide) rfl
  exact W.vret hx hb hr (fun t ht hW => ⟨⟨⟨g7_153, g9_149, g11_150⟩, rfl, ⟨by first | assumption | omega, by first | assumption | omega⟩, by rw [ht]; exact hP9, va_K.moved hW.alike hK, hD9⟩, hS.F ht⟩) hS.2.2 d_Md_seal_58
