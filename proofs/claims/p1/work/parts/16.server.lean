theorem d_DS_secret_0 : decode b_DS_secret 0 = .ok (.iload_n 1, 1) := by decide +kernel
theorem d_DS_secret_1 : decode b_DS_secret 1 = .ok (.invokestatic 35, 3) := by decide +kernel
theorem d_DS_secret_4 : decode b_DS_secret 4 = .ok (.iload 4, 2) := by decide +kernel
theorem d_DS_secret_6 : decode b_DS_secret 6 = .ok (.iconst 1, 1) := by decide +kernel
theorem d_DS_secret_7 : decode b_DS_secret 7 = .ok (.bipush 40, 2) := by decide +kernel
theorem d_DS_secret_9 : decode b_DS_secret 9 = .ok (.invokestatic 38, 3) := by decide +kernel
theorem d_DS_secret_12 : decode b_DS_secret 12 = .ok (.aload_n 0, 1) := by decide +kernel
theorem d_DS_secret_13 : decode b_DS_secret 13 = .ok (.getfield 31, 3) := by decide +kernel
theorem d_DS_secret_16 : decode b_DS_secret 16 = .ok (.getfield 42, 3) := by decide +kernel
theorem d_DS_secret_19 : decode b_DS_secret 19 = .ok (.iload_n 1, 1) := by decide +kernel
theorem d_DS_secret_20 : decode b_DS_secret 20 = .ok (.aaload, 1) := by decide +kernel
theorem d_DS_secret_21 : decode b_DS_secret 21 = .ok (.lload_n 2, 1) := by decide +kernel
theorem d_DS_secret_22 : decode b_DS_secret 22 = .ok (.iload 4, 2) := by decide +kernel
theorem d_DS_secret_24 : decode b_DS_secret 24 = .ok (.invokevirtual 46, 3) := by decide +kernel
theorem d_DS_secret_27 : decode b_DS_secret 27 = .ok (.return_, 1) := by decide +kernel
theorem d_Sv_isTold_0 : decode b_Sv_isTold 0 = .ok (.aload_n 0, 1) := by decide +kernel
theorem d_Sv_isTold_1 : decode b_Sv_isTold 1 = .ok (.getfield 17, 3) := by decide +kernel
theorem d_Sv_isTold_4 : decode b_Sv_isTold 4 = .ok (.iload_n 1, 1) := by decide +kernel
theorem d_Sv_isTold_5 : decode b_Sv_isTold 5 = .ok (.aaload, 1) := by decide +kernel
theorem d_Sv_isTold_6 : decode b_Sv_isTold 6 = .ok (.getfield 74, 3) := by decide +kernel
theorem d_Sv_isTold_9 : decode b_Sv_isTold 9 = .ok (.ifCond .le 7, 3) := by decide +kernel
theorem d_Sv_isTold_16 : decode b_Sv_isTold 16 = .ok (.iconst 0, 1) := by decide +kernel
theorem d_Sv_isTold_17 : decode b_Sv_isTold 17 = .ok (.ireturn, 1) := by decide +kernel
theorem d_DS_user_0 : decode b_DS_user 0 = .ok (.iload_n 1, 1) := by decide +kernel
theorem d_DS_user_1 : decode b_DS_user 1 = .ok (.invokestatic 52, 3) := by decide +kernel
theorem d_DS_user_4 : decode b_DS_user 4 = .ok (.iload 4, 2) := by decide +kernel
theorem d_DS_user_6 : decode b_DS_user 6 = .ok (.iconst 1, 1) := by decide +kernel
theorem d_DS_user_7 : decode b_DS_user 7 = .ok (.bipush 60, 2) := by decide +kernel
theorem d_DS_user_9 : decode b_DS_user 9 = .ok (.invokestatic 38, 3) := by decide +kernel
theorem d_DS_user_12 : decode b_DS_user 12 = .ok (.aload_n 0, 1) := by decide +kernel
theorem d_DS_user_13 : decode b_DS_user 13 = .ok (.getfield 31, 3) := by decide +kernel
theorem d_DS_user_16 : decode b_DS_user 16 = .ok (.iload_n 1, 1) := by decide +kernel
theorem d_DS_user_17 : decode b_DS_user 17 = .ok (.invokevirtual 55, 3) := by decide +kernel
theorem d_DS_user_20 : decode b_DS_user 20 = .ok (.ifCond .ne 7, 3) := by decide +kernel
theorem d_DS_user_23 : decode b_DS_user 23 = .ok (.iconst 1, 1) := by decide +kernel
theorem d_DS_user_24 : decode b_DS_user 24 = .ok (.goto 4, 3) := by decide +kernel
theorem d_DS_user_28 : decode b_DS_user 28 = .ok (.istore 5, 2) := by decide +kernel
theorem d_DS_user_30 : decode b_DS_user 30 = .ok (.aload_n 0, 1) := by decide +kernel
theorem d_DS_user_31 : decode b_DS_user 31 = .ok (.getfield 31, 3) := by decide +kernel
theorem d_DS_user_34 : decode b_DS_user 34 = .ok (.getfield 59, 3) := by decide +kernel
theorem d_DS_user_37 : decode b_DS_user 37 = .ok (.iload_n 1, 1) := by decide +kernel
theorem d_DS_user_38 : decode b_DS_user 38 = .ok (.aaload, 1) := by decide +kernel
theorem d_DS_user_39 : decode b_DS_user 39 = .ok (.lload_n 2, 1) := by decide +kernel
theorem d_DS_user_40 : decode b_DS_user 40 = .ok (.iload 4, 2) := by decide +kernel
theorem d_DS_user_42 : decode b_DS_user 42 = .ok (.invokevirtual 46, 3) := by decide +kernel
theorem d_DS_user_45 : decode b_DS_user 45 = .ok (.iload 5, 2) := by decide +kernel
theorem d_DS_user_47 : decode b_DS_user 47 = .ok (.ireturn, 1) := by decide +kernel
theorem d_DS_seal_0 : decode b_DS_seal 0 = .ok (.iload_n 1, 1) := by decide +kernel
theorem d_DS_seal_1 : decode b_DS_seal 1 = .ok (.invokestatic 35, 3) := by decide +kernel
theorem d_DS_seal_4 : decode b_DS_seal 4 = .ok (.aload_n 0, 1) := by decide +kernel
theorem d_DS_seal_5 : decode b_DS_seal 5 = .ok (.getfield 14, 3) := by decide +kernel
theorem d_DS_seal_8 : decode b_DS_seal 8 = .ok (.invokevirtual 127, 3) := by decide +kernel
theorem d_DS_seal_11 : decode b_DS_seal 11 = .ok (.aload_n 0, 1) := by decide +kernel
theorem d_DS_seal_12 : decode b_DS_seal 12 = .ok (.getfield 14, 3) := by decide +kernel
theorem d_DS_seal_15 : decode b_DS_seal 15 = .ok (.iconst 4, 1) := by decide +kernel
theorem d_DS_seal_16 : decode b_DS_seal 16 = .ok (.aload_n 0, 1) := by decide +kernel
theorem d_DS_seal_17 : decode b_DS_seal 17 = .ok (.getfield 31, 3) := by decide +kernel
theorem d_DS_seal_20 : decode b_DS_seal 20 = .ok (.getfield 91, 3) := by decide +kernel
theorem d_DS_seal_23 : decode b_DS_seal 23 = .ok (.aload_n 0, 1) := by decide +kernel
theorem d_DS_seal_24 : decode b_DS_seal 24 = .ok (.getfield 31, 3) := by decide +kernel
theorem d_DS_seal_27 : decode b_DS_seal 27 = .ok (.getfield 42, 3) := by decide +kernel
theorem d_DS_seal_30 : decode b_DS_seal 30 = .ok (.iload_n 1, 1) := by decide +kernel
theorem d_DS_seal_31 : decode b_DS_seal 31 = .ok (.aaload, 1) := by decide +kernel
theorem d_DS_seal_32 : decode b_DS_seal 32 = .ok (.aload_n 0, 1) := by decide +kernel
theorem d_DS_seal_33 : decode b_DS_seal 33 = .ok (.getfield 14, 3) := by decide +kernel
theorem d_DS_seal_36 : decode b_DS_seal 36 = .ok (.invokevirtual 141, 3) := by decide +kernel
theorem d_DS_seal_39 : decode b_DS_seal 39 = .ok (.invokevirtual 137, 3) := by decide +kernel
theorem d_DS_seal_42 : decode b_DS_seal 42 = .ok (.return_, 1) := by decide +kernel
theorem d_DS_firstProof_0 : decode b_DS_firstProof 0 = .ok (.aload_n 0, 1) := by decide +kernel
theorem d_DS_firstProof_1 : decode b_DS_firstProof 1 = .ok (.getfield 14, 3) := by decide +kernel
theorem d_DS_firstProof_4 : decode b_DS_firstProof 4 = .ok (.bipush 80, 2) := by decide +kernel
theorem d_DS_firstProof_6 : decode b_DS_firstProof 6 = .ok (.bipush 16, 2) := by decide +kernel
theorem d_DS_firstProof_8 : decode b_DS_firstProof 8 = .ok (.invokevirtual 123, 3) := by decide +kernel
theorem d_DS_firstProof_11 : decode b_DS_firstProof 11 = .ok (.istore_n 1, 1) := by decide +kernel
theorem d_DS_firstProof_12 : decode b_DS_firstProof 12 = .ok (.iload_n 1, 1) := by decide +kernel
theorem d_DS_firstProof_13 : decode b_DS_firstProof 13 = .ok (.iconst (-1), 1) := by decide +kernel
theorem d_DS_firstProof_14 : decode b_DS_firstProof 14 = .ok (.if_icmp .ne 16, 3) := by decide +kernel
theorem d_DS_firstProof_30 : decode b_DS_firstProof 30 = .ok (.iload_n 1, 1) := by decide +kernel
theorem d_DS_firstProof_31 : decode b_DS_firstProof 31 = .ok (.ireturn, 1) := by decide +kernel
theorem d_DS_prove_0 : decode b_DS_prove 0 = .ok (.iload_n 1, 1) := by decide +kernel
theorem d_DS_prove_1 : decode b_DS_prove 1 = .ok (.invokestatic 35, 3) := by decide +kernel
theorem d_DS_prove_4 : decode b_DS_prove 4 = .ok (.aload_n 0, 1) := by decide +kernel
theorem d_DS_prove_5 : decode b_DS_prove 5 = .ok (.getfield 14, 3) := by decide +kernel
theorem d_DS_prove_8 : decode b_DS_prove 8 = .ok (.bipush 80, 2) := by decide +kernel
theorem d_DS_prove_10 : decode b_DS_prove 10 = .ok (.bipush 16, 2) := by decide +kernel
theorem d_DS_prove_12 : decode b_DS_prove 12 = .ok (.invokevirtual 123, 3) := by decide +kernel
theorem d_DS_prove_15 : decode b_DS_prove 15 = .ok (.iconst (-1), 1) := by decide +kernel
theorem d_DS_prove_16 : decode b_DS_prove 16 = .ok (.if_icmp .ne 29, 3) := by decide +kernel
theorem d_DS_prove_19 : decode b_DS_prove 19 = .ok (.aload_n 0, 1) := by decide +kernel
theorem d_DS_prove_20 : decode b_DS_prove 20 = .ok (.bipush 16, 2) := by decide +kernel
theorem d_DS_prove_22 : decode b_DS_prove 22 = .ok (.invokevirtual 65, 3) := by decide +kernel
theorem d_DS_prove_25 : decode b_DS_prove 25 = .ok (.aload_n 0, 1) := by decide +kernel
theorem d_DS_prove_26 : decode b_DS_prove 26 = .ok (.getfield 14, 3) := by decide +kernel
theorem d_DS_prove_29 : decode b_DS_prove 29 = .ok (.bipush 80, 2) := by decide +kernel
theorem d_DS_prove_31 : decode b_DS_prove 31 = .ok (.bipush 16, 2) := by decide +kernel
theorem d_DS_prove_33 : decode b_DS_prove 33 = .ok (.invokevirtual 68, 3) := by decide +kernel
theorem d_DS_prove_36 : decode b_DS_prove 36 = .ok (.aload_n 0, 1) := by decide +kernel
theorem d_DS_prove_37 : decode b_DS_prove 37 = .ok (.getfield 14, 3) := by decide +kernel
theorem d_DS_prove_40 : decode b_DS_prove 40 = .ok (.bipush 16, 2) := by decide +kernel
theorem d_DS_prove_42 : decode b_DS_prove 42 = .ok (.invokevirtual 88, 3) := by decide +kernel
theorem d_DS_prove_45 : decode b_DS_prove 45 = .ok (.aload_n 0, 1) := by decide +kernel
theorem d_DS_prove_46 : decode b_DS_prove 46 = .ok (.getfield 14, 3) := by decide +kernel
theorem d_DS_prove_49 : decode b_DS_prove 49 = .ok (.invokevirtual 127, 3) := by decide +kernel
theorem d_DS_prove_52 : decode b_DS_prove 52 = .ok (.aload_n 0, 1) := by decide +kernel
theorem d_DS_prove_53 : decode b_DS_prove 53 = .ok (.invokevirtual 130, 3) := by decide +kernel
theorem d_DS_prove_56 : decode b_DS_prove 56 = .ok (.istore_n 2, 1) := by decide +kernel
theorem d_DS_prove_57 : decode b_DS_prove 57 = .ok (.aload_n 0, 1) := by decide +kernel
theorem d_DS_prove_58 : decode b_DS_prove 58 = .ok (.getfield 14, 3) := by decide +kernel
theorem d_DS_prove_61 : decode b_DS_prove 61 = .ok (.iload_n 2, 1) := by decide +kernel
theorem d_DS_prove_62 : decode b_DS_prove 62 = .ok (.aload_n 0, 1) := by decide +kernel
theorem d_DS_prove_63 : decode b_DS_prove 63 = .ok (.getfield 31, 3) := by decide +kernel
theorem d_DS_prove_66 : decode b_DS_prove 66 = .ok (.getfield 91, 3) := by decide +kernel
theorem d_DS_prove_69 : decode b_DS_prove 69 = .ok (.aload_n 0, 1) := by decide +kernel
theorem d_DS_prove_70 : decode b_DS_prove 70 = .ok (.getfield 31, 3) := by decide +kernel
theorem d_DS_prove_73 : decode b_DS_prove 73 = .ok (.getfield 42, 3) := by decide +kernel
theorem d_DS_prove_76 : decode b_DS_prove 76 = .ok (.iload_n 1, 1) := by decide +kernel
theorem d_DS_prove_77 : decode b_DS_prove 77 = .ok (.aaload, 1) := by decide +kernel
theorem d_DS_prove_78 : decode b_DS_prove 78 = .ok (.aload_n 0, 1) := by decide +kernel
theorem d_DS_prove_79 : decode b_DS_prove 79 = .ok (.getfield 14, 3) := by decide +kernel
theorem d_DS_prove_82 : decode b_DS_prove 82 = .ok (.iload_n 2, 1) := by decide +kernel
theorem d_DS_prove_83 : decode b_DS_prove 83 = .ok (.invokevirtual 133, 3) := by decide +kernel
theorem d_DS_prove_86 : decode b_DS_prove 86 = .ok (.invokevirtual 137, 3) := by decide +kernel
theorem d_DS_prove_89 : decode b_DS_prove 89 = .ok (.aload_n 0, 1) := by decide +kernel
theorem d_DS_prove_90 : decode b_DS_prove 90 = .ok (.getfield 14, 3) := by decide +kernel
theorem d_DS_prove_93 : decode b_DS_prove 93 = .ok (.getfield 81, 3) := by decide +kernel
theorem d_DS_prove_96 : decode b_DS_prove 96 = .ok (.ireturn, 1) := by decide +kernel
theorem d_DS_password_0 : decode b_DS_password 0 = .ok (.iload_n 1, 1) := by decide +kernel
theorem d_DS_password_1 : decode b_DS_password 1 = .ok (.invokestatic 35, 3) := by decide +kernel
theorem d_DS_password_4 : decode b_DS_password 4 = .ok (.iload 4, 2) := by decide +kernel
theorem d_DS_password_6 : decode b_DS_password 6 = .ok (.iconst 1, 1) := by decide +kernel
theorem d_DS_password_7 : decode b_DS_password 7 = .ok (.bipush 60, 2) := by decide +kernel
theorem d_DS_password_9 : decode b_DS_password 9 = .ok (.invokestatic 38, 3) := by decide +kernel
theorem d_DS_password_12 : decode b_DS_password 12 = .ok (.iload 4, 2) := by decide +kernel
theorem d_DS_password_14 : decode b_DS_password 14 = .ok (.bipush 15, 2) := by decide +kernel
theorem d_DS_password_16 : decode b_DS_password 16 = .ok (.iadd, 1) := by decide +kernel
theorem d_DS_password_17 : decode b_DS_password 17 = .ok (.bipush 16, 2) := by decide +kernel
theorem d_DS_password_19 : decode b_DS_password 19 = .ok (.idiv, 1) := by decide +kernel
theorem d_DS_password_20 : decode b_DS_password 20 = .ok (.bipush 16, 2) := by decide +kernel
theorem d_DS_password_22 : decode b_DS_password 22 = .ok (.imul, 1) := by decide +kernel
theorem d_DS_password_23 : decode b_DS_password 23 = .ok (.istore 5, 2) := by decide +kernel
theorem d_DS_password_25 : decode b_DS_password 25 = .ok (.aload_n 0, 1) := by decide +kernel
theorem d_DS_password_26 : decode b_DS_password 26 = .ok (.iload 5, 2) := by decide +kernel
theorem d_DS_password_28 : decode b_DS_password 28 = .ok (.invokevirtual 65, 3) := by decide +kernel
theorem d_DS_password_31 : decode b_DS_password 31 = .ok (.aload_n 0, 1) := by decide +kernel
theorem d_DS_password_32 : decode b_DS_password 32 = .ok (.getfield 14, 3) := by decide +kernel
theorem d_DS_password_35 : decode b_DS_password 35 = .ok (.iconst 2, 1) := by decide +kernel
theorem d_DS_password_36 : decode b_DS_password 36 = .ok (.iload 5, 2) := by decide +kernel
theorem d_DS_password_38 : decode b_DS_password 38 = .ok (.invokevirtual 68, 3) := by decide +kernel
theorem d_DS_password_41 : decode b_DS_password 41 = .ok (.aload_n 0, 1) := by decide +kernel
theorem d_DS_password_42 : decode b_DS_password 42 = .ok (.getfield 14, 3) := by decide +kernel
theorem d_DS_password_45 : decode b_DS_password 45 = .ok (.getfield 81, 3) := by decide +kernel
theorem d_DS_password_48 : decode b_DS_password 48 = .ok (.istore 6, 2) := by decide +kernel
theorem d_DS_password_50 : decode b_DS_password 50 = .ok (.aload_n 0, 1) := by decide +kernel
theorem d_DS_password_51 : decode b_DS_password 51 = .ok (.getfield 14, 3) := by decide +kernel
theorem d_DS_password_54 : decode b_DS_password 54 = .ok (.lload_n 2, 1) := by decide +kernel
theorem d_DS_password_55 : decode b_DS_password 55 = .ok (.iload 4, 2) := by decide +kernel
theorem d_DS_password_57 : decode b_DS_password 57 = .ok (.invokevirtual 85, 3) := by decide +kernel
theorem d_DS_password_60 : decode b_DS_password 60 = .ok (.aload_n 0, 1) := by decide +kernel
theorem d_DS_password_61 : decode b_DS_password 61 = .ok (.getfield 14, 3) := by decide +kernel
theorem d_DS_password_64 : decode b_DS_password 64 = .ok (.iload 5, 2) := by decide +kernel
theorem d_DS_password_66 : decode b_DS_password 66 = .ok (.iload 4, 2) := by decide +kernel
theorem d_DS_password_68 : decode b_DS_password 68 = .ok (.isub, 1) := by decide +kernel
theorem d_DS_password_69 : decode b_DS_password 69 = .ok (.invokevirtual 88, 3) := by decide +kernel
theorem d_DS_password_72 : decode b_DS_password 72 = .ok (.aload_n 0, 1) := by decide +kernel
theorem d_DS_password_73 : decode b_DS_password 73 = .ok (.getfield 31, 3) := by decide +kernel
theorem d_DS_password_76 : decode b_DS_password 76 = .ok (.getfield 91, 3) := by decide +kernel
theorem d_DS_password_79 : decode b_DS_password 79 = .ok (.aload_n 0, 1) := by decide +kernel
theorem d_DS_password_80 : decode b_DS_password 80 = .ok (.getfield 31, 3) := by decide +kernel
theorem d_DS_password_83 : decode b_DS_password 83 = .ok (.getfield 42, 3) := by decide +kernel
theorem d_DS_password_86 : decode b_DS_password 86 = .ok (.iload_n 1, 1) := by decide +kernel
theorem d_DS_password_87 : decode b_DS_password 87 = .ok (.aaload, 1) := by decide +kernel
theorem d_DS_password_88 : decode b_DS_password 88 = .ok (.aload_n 0, 1) := by decide +kernel
theorem d_DS_password_89 : decode b_DS_password 89 = .ok (.getfield 14, 3) := by decide +kernel
theorem d_DS_password_92 : decode b_DS_password 92 = .ok (.iload 6, 2) := by decide +kernel
theorem d_DS_password_94 : decode b_DS_password 94 = .ok (.iload 5, 2) := by decide +kernel
theorem d_DS_password_96 : decode b_DS_password 96 = .ok (.invokevirtual 95, 3) := by decide +kernel
theorem d_DS_password_99 : decode b_DS_password 99 = .ok (.aload_n 0, 1) := by decide +kernel
theorem d_DS_password_100 : decode b_DS_password 100 = .ok (.invokevirtual 74, 3) := by decide +kernel
theorem d_DS_password_103 : decode b_DS_password 103 = .ok (.ireturn, 1) := by decide +kernel
set_option maxHeartbeats 4000000 in
set_option maxRecDepth 100000 in
/-- secret -/
theorem c_secret (l : Launch) (dC : Nat → ClassId) (dI : Nat → Nat → Nat) (cT : Nat → ClassId) (sz : Nat) (ds : Nat) (dr : Nat) (sv : Nat) (rr : Nat) (g0 : Nat) (se : Nat) (pw : Nat) (ty : Nat) (an : Nat) (aw : Nat) (ts : Nat) (ss : Nat) (rq : Nat) (tm : Int32) (n3 : Int32) (n4 : Int32) (sh : Nat) (sr : Nat) (ns : Nat) (sl : Nat) (fs : Nat → Int32) (gs : Nat → Option Nat) (st : Nat) (v : Int64) (k : Nat) (hst : st < 4) (hgs : gs st = some sh) (hk1 : 1 ≤ k) (hk2 : k ≤ 40) (hns40 : ns = 40) : Met l y_DS_secret (Cond.code y_DS_secret b_DS_secret 5 (Option.none : Option Jvm.ClassFile.FieldType) :: BIG) ({ frames := 3, cells := 0, slots := 0, locals := 70 }) (va_Pc [.ref ds, .int (nI st), .long v, .int (nI k)] (fun U => U.heap.size = sz ∧ va_P (dC, dI) vcl [(ds, .inr (0, [.ref dr, .ref sv])), (sv, .inr (5, [.ref se, .ref pw, .ref g0, .ref ty, .ref an, .ref aw, .ref ts, .ref ss, .ref rq, .int tm, .int n3, .int n4])), (se, .inl ((cT 2), 4, .inr (.inr (.inr (.inr gs))))), (sh, .inr (1, [.ref sr, .int (nI sl)])), (sr, .inl ((cT 0), ns, .inl fs))] U.heap ∧ va_K (dC, dI) vcl (tyL cT) U ∧ va_D (fun _ => True) [(ds, .inr (0, [.ref dr, .ref sv])), (sv, .inr (5, [.ref se, .ref pw, .ref g0, .ref ty, .ref an, .ref aw, .ref ts, .ref ss, .ref rq, .int tm, .int n3, .int n4])), (se, .inl ((cT 2), 4, .inr (.inr (.inr (.inr gs))))), (sh, .inr (1, [.ref sr, .int (nI sl)])), (sr, .inl ((cT 0), ns, .inl fs))])) (va_Qv (S := Unit) (fun u => True) (fun u t => va_P (dC, dI) vcl [] t.heap ∧ va_K (dC, dI) vcl (tyL cT) t ∧ va_D (va_A [(ds, .inr (0, [.ref dr, .ref sv])), (sv, .inr (5, [.ref se, .ref pw, .ref g0, .ref ty, .ref an, .ref aw, .ref ts, .ref ss, .ref rq, .int tm, .int n3, .int n4])), (se, .inl ((cT 2), 4, .inr (.inr (.inr (.inr gs))))), (sh, .inr (1, [.ref sr, .int (nI sl)])), (sr, .inl ((cT 0), ns, .inl fs))] sz) []) (va_A [(ds, .inr (0, [.ref dr, .ref sv])), (sv, .inr (5, [.ref se, .ref pw, .ref g0, .ref ty, .ref an, .ref aw, .ref ts, .ref ss, .ref rq, .int tm, .int n3, .int n4])), (se, .inl ((cT 2), 4, .inr (.inr (.inr (.inr gs))))), (sh, .inr (1, [.ref sr, .int (nI sl)])), (sr, .inl ((cT 0), ns, .inl fs))] sz)) 0 0 (va_A [(ds, .inr (0, [.ref dr, .ref sv])), (sv, .inr (5, [.ref se, .ref pw, .ref g0, .ref ty, .ref an, .ref aw, .ref ts, .ref ss, .ref rq, .int tm, .int n3, .int n4])), (se, .inl ((cT 2), 4, .inr (.inr (.inr (.inr gs))))), (sh, .inr (1, [.ref sr, .int (nI sl)])), (sr, .inl ((cT 0), ns, .inl fs))] sz) := by
  refine Met.ofW (cc := b_DS_secret) (maxL := 5) (ret := (Option.none : Option Jvm.ClassFile.FieldType)) (by decide) rfl ?_
  intro p e s m args below meth c s₁ B hml hv
  obtain ⟨hargs, hsz, hP, hK, hD0⟩ := hv
  have hx := B.exec
  have hb := B.bytes
  have hr := B.returns
  have hts := atoms_spec (ws := (Cond.code y_DS_secret b_DS_secret 5 (Option.none : Option Jvm.ClassFile.FieldType) :: BIG)) B.pre
  have hg : ∀ w ∈ BIG, w.before _ s = true := fun w h => hts w (List.mem_cons_of_mem _ h)
  have hown : s.vm.findClass "DoorServer" = some m.cls := findClass_of_methodNamed B.named
  have hlocks := B.notSynchronized
  subst hsz
  have hD := hD0.self (sz := s.heap.size)
  generalize hAe : va_A [(ds, .inr (0, [.ref dr, .ref sv])), (sv, .inr (5, [.ref se, .ref pw, .ref g0, .ref ty, .ref an, .ref aw, .ref ts, .ref ss, .ref rq, .int tm, .int n3, .int n4])), (se, .inl ((cT 2), 4, .inr (.inr (.inr (.inr gs))))), (sh, .inr (1, [.ref sr, .int (nI sl)])), (sr, .inl ((cT 0), ns, .inl fs))] s.heap.size = A at hD ⊢
  have hA : ∀ q : Nat, s.heap.size ≤ q → A q := fun q h => by rw [← hAe]; exact Or.inr h
  have hS : va_S A s.heap s.heap [] := va_S.rf
  have hl := lv_entry ([.ref ds, .int (nI st), .long v, .int (nI k)]) (n := 5) (Nat.le_of_ble_eq_true rfl)
  refine W.eq (g2 := entryFrame m (List.toArray [.ref ds, .int (nI st), .long v, .int (nI k)]) 5) (by rw [hargs]) ?_
  rw [lg_entry_eq]
  generalize (lg_sl ([.ref ds, .int (nI st), .long v, .int (nI k)]) ++ List.replicate (5 - (lg_sl ([.ref ds, .int (nI st), .long v, .int (nI k)])).length) Slot.unset).toArray = ls at hl ⊢
  have hl : lv_has ls 5 [(0, .ref ds), (1, .int (nI st)), (2, .long v), (4, .int (nI k))] := hl
  change W p l e ({ frames := 3, cells := 0, slots := 0, locals := 70 } : Room) s m args below meth c s.heap [] 0 0 _ _
  have hP : va_P (dC, dI) vcl [(ds, .inr (0, [.ref dr, .ref sv])), (sv, .inr (5, [.ref se, .ref pw, .ref g0, .ref ty, .ref an, .ref aw, .ref ts, .ref ss, .ref rq, .int tm, .int n3, .int n4])), (se, .inl ((cT 2), 4, .inr (.inr (.inr (.inr gs))))), (sh, .inr (1, [.ref sr, .int (nI sl)])), (sr, .inl ((cT 0), ns, .inl fs))] s.heap := hP
  refine lv_iload_n hx hb d_DS_secret_0 rfl (lv_at hl 1 rfl) ?_
  have hPc := hP.sub (ws' := []) [] rfl
  have hDc := hD.sub (ws' := []) [] (by decide) rfl
  have hFc := va_free (wc := []) hD hS hA [] rfl
  refine va_callv (va_runS (As := [.int (nI st)]) (rest := []) ⟨hx, hb, hml, hown, hg⟩ (c_requireStation l dC dI cT s.heap.size (nI st) (nI_pos (by omega)) (nI_nlt (a := 3) (by omega) (by decide))) (va_cwS 1 hg (gI (List.forall_mem_append.mpr ⟨List.forall_mem_cons.mpr ⟨k_387, List.forall_mem_cons.mpr ⟨k_388, List.forall_mem_cons.mpr ⟨k_1, fun _ h => absurd h List.not_mem_nil⟩⟩⟩, List.forall_mem_cons.mpr ⟨k_389, fun _ h => h⟩⟩)) rfl rfl rfl (by decide +kernel) ⟨Nat.le_of_ble_eq_true rfl, Nat.le_of_ble_eq_true rfl⟩) ⟨fun a U g mk q => by obtain ⟨q0, q1, qP, qK, qD⟩ := q; exact ⟨q0, q1, qP, va_K.moved (u := U) (U := U.calling g mk a) (Vm.Alike.refl U.vm) qK, qD⟩, fun U hU hW => ⟨rfl, by rw [hU], by rw [hU]; exact hPc, va_K.moved hW.alike hK, hDc.weaken (fun _ _ _ _ => trivial)⟩⟩ rfl rfl hl.1 rfl (lv_room (Nat.le_of_ble_eq_true rfl)) d_DS_secret_1 ⟨Nat.le_of_ble_eq_true rfl, Nat.le_of_ble_eq_true rfl⟩) hS (fun q _ h => hFc q h) hFc (fun u t H1 locs ht hvm hw hB hz1 hk1 hS => ?_)
  try dsimp only at hw hB
  obtain ⟨hP1, hK1, hD1⟩ := hB
  rw [ht] at hP1
  obtain ⟨hP, hD⟩ := va_join (wr := [(ds, .inr (0, [.ref dr, .ref sv])), (sv, .inr (5, [.ref se, .ref pw, .ref g0, .ref ty, .ref an, .ref aw, .ref ts, .ref ss, .ref rq, .int tm, .int n3, .int n4])), (se, .inl ((cT 2), 4, .inr (.inr (.inr (.inr gs))))), (sh, .inr (1, [.ref sr, .int (nI sl)])), (sr, .inl ((cT 0), ns, .inl fs))]) (w1 := []) hP hD [] [0, 1, 2, 3, 4] rfl rfl (by decide) (by decide) hk1 hFc hP1 hD1
  have hw1 := hw
  clear hPc hDc hFc hz1 hk1 hP1 hK1 hD1
  generalize H1 = H at hP hS ⊢
  have hP : va_P (dC, dI) vcl [(ds, .inr (0, [.ref dr, .ref sv])), (sv, .inr (5, [.ref se, .ref pw, .ref g0, .ref ty, .ref an, .ref aw, .ref ts, .ref ss, .ref rq, .int tm, .int n3, .int n4])), (se, .inl ((cT 2), 4, .inr (.inr (.inr (.inr gs))))), (sh, .inr (1, [.ref sr, .int (nI sl)])), (sr, .inl ((cT 0), ns, .inl fs))] H := hP
  have hD : va_D A [(ds, .inr (0, [.ref dr, .ref sv])), (sv, .inr (5, [.ref se, .ref pw, .ref g0, .ref ty, .ref an, .ref aw, .ref ts, .ref ss, .ref rq, .int tm, .int n3, .int n4])), (se, .inl ((cT 2), 4, .inr (.inr (.inr (.inr gs))))), (sh, .inr (1, [.ref sr, .int (nI sl)])), (sr, .inl ((cT 0), ns, .inl fs))] := hD
  refine lv_iload hx hb d_DS_secret_4 (lv_at hl 3 rfl) ?_
  refine lv_iconst (v := 1) hx hb d_DS_secret_6 (by decide) ?_
  refine lv_bipush (v := 40) hx hb d_DS_secret_7 (by decide) ?_
  have hPc := hP.sub (ws' := []) [] rfl
  have hDc := hD.sub (ws' := []) [] (by decide) rfl
  have hFc := va_free (wc := []) hD hS hA [] rfl
  refine va_callv (va_runS (As := [.int (nI k), .int 1, .int 40]) (rest := []) ⟨hx, hb, hml, hown, hg⟩ (c_requireWithin l dC dI cT H.size (nI k) 1 40 (nI_nlt (b := 1) hk1 (by omega)) (nI_nlt (a := 40) hk2 (by decide))) (va_cwS 3 hg (gI (List.forall_mem_append.mpr ⟨List.forall_mem_cons.mpr ⟨k_390, List.forall_mem_cons.mpr ⟨k_391, List.forall_mem_cons.mpr ⟨k_1, fun _ h => absurd h List.not_mem_nil⟩⟩⟩, List.forall_mem_cons.mpr ⟨k_392, fun _ h => h⟩⟩)) rfl rfl rfl (by decide +kernel) ⟨Nat.le_of_ble_eq_true rfl, Nat.le_of_ble_eq_true rfl⟩) ⟨fun a U g mk q => by obtain ⟨q0, q1, qP, qK, qD⟩ := q; exact ⟨q0, q1, qP, va_K.moved (u := U) (U := U.calling g mk a) (Vm.Alike.refl U.vm) qK, qD⟩, fun U hU hW => ⟨rfl, by rw [hU], by rw [hU]; exact hPc, va_K.moved hW.alike hK, hDc.weaken (fun _ _ _ _ => trivial)⟩⟩ rfl rfl hl.1 rfl (lv_room (Nat.le_of_ble_eq_true rfl)) d_DS_secret_9 ⟨Nat.le_of_ble_eq_true rfl, Nat.le_of_ble_eq_true rfl⟩) hS (fun q _ h => hFc q h) hFc (fun u t H1 locs ht hvm hw hB hz1 hk1 hS => ?_)
  try dsimp only at hw hB
  obtain ⟨hP1, hK1, hD1⟩ := hB
  rw [ht] at hP1
  obtain ⟨hP, hD⟩ := va_join (wr := [(ds, .inr (0, [.ref dr, .ref sv])), (sv, .inr (5, [.ref se, .ref pw, .ref g0, .ref ty, .ref an, .ref aw, .ref ts, .ref ss, .ref rq, .int tm, .int n3, .int n4])), (se, .inl ((cT 2), 4, .inr (.inr (.inr (.inr gs))))), (sh, .inr (1, [.ref sr, .int (nI sl)])), (sr, .inl ((cT 0), ns, .inl fs))]) (w1 := []) hP hD [] [0, 1, 2, 3, 4] rfl rfl (by decide) (by decide) hk1 hFc hP1 hD1
  have hw2 := hw
  clear hPc hDc hFc hz1 hk1 hP1 hK1 hD1
  generalize H1 = H at hP hS ⊢
  have hP : va_P (dC, dI) vcl [(ds, .inr (0, [.ref dr, .ref sv])), (sv, .inr (5, [.ref se, .ref pw, .ref g0, .ref ty, .ref an, .ref aw, .ref ts, .ref ss, .ref rq, .int tm, .int n3, .int n4])), (se, .inl ((cT 2), 4, .inr (.inr (.inr (.inr gs))))), (sh, .inr (1, [.ref sr, .int (nI sl)])), (sr, .inl ((cT 0), ns, .inl fs))] H := hP
  have hD : va_D A [(ds, .inr (0, [.ref dr, .ref sv])), (sv, .inr (5, [.ref se, .ref pw, .ref g0, .ref ty, .ref an, .ref aw, .ref ts, .ref ss, .ref rq, .int tm, .int n3, .int n4])), (se, .inl ((cT 2), 4, .inr (.inr (.inr (.inr gs))))), (sh, .inr (1, [.ref sr, .int (nI sl)])), (sr, .inl ((cT 0), ns, .inl fs))] := hD
  refine lv_aload_n hx hb d_DS_secret_12 rfl (lv_at hl 0 rfl) ?_
  refine va_get (D := (dC, dI)) (ci := 0) (v := (.ref sv)) (C := R_DS) (T := F_DS) (N := 2) hx hb hg in_DS hown hK hP 0 rfl rfl 1 (by decide) (hg _ k_369) (fun _ h9 => h9) rfl d_DS_secret_13 ?_
  refine va_get (D := (dC, dI)) (ci := 5) (v := (.ref se)) (C := R_Sv) (T := F_Sv) (N := 12) hx hb hg in_Sv hown hK hP 1 rfl rfl 0 (by decide) (hg _ k_321) (fun _ h9 => h9) rfl d_DS_secret_16 ?_
  refine lv_iload_n hx hb d_DS_secret_19 rfl (lv_at hl 1 rfl) ?_
  refine va_aldq hx hb hK hP 2 2 rfl rfl (i := (nI st)) (vp_in_nI (N := 4) hst (by decide)) d_DS_secret_20 ?_
  rw [show va_rf (gs (nI st).toNatClampNeg) = .ref sh from by rw [nI_clamp (by omega), hgs]; rfl]
  refine lv_lload_n hx hb d_DS_secret_21 rfl (lv_at hl 2 rfl) ?_
  refine lv_iload hx hb d_DS_secret_22 (lv_at hl 3 rfl) ?_
  have hPc := hP.sub (ws' := [(sh, .inr (1, [.ref sr, .int (nI sl)])), (sr, .inl ((cT 0), ns, .inl fs))]) [3, 4] rfl
  have hDc := hD.sub (ws' := [(sh, .inr (1, [.ref sr, .int (nI sl)])), (sr, .inl ((cT 0), ns, .inl fs))]) [3, 4] (by decide) rfl
  have hFc := va_free (wc := [(sh, .inr (1, [.ref sr, .int (nI sl)])), (sr, .inl ((cT 0), ns, .inl fs))]) hD hS hA [3, 4] rfl
  refine va_callv (va_runV (C := "DoorServer$Bytes") (As := [.long v, .int (nI k)]) (rest := []) ⟨hx, hb, hml, hown, hg⟩ (c_By_become l dC dI cT H.size sh sr ns sl fs v k (by omega) (by omega)) (cwV 2 hg (gI (List.forall_mem_append.mpr ⟨List.forall_mem_cons.mpr ⟨k_455, List.forall_mem_cons.mpr ⟨k_456, List.forall_mem_cons.mpr ⟨k_457, List.forall_mem_cons.mpr ⟨k_2, fun _ h => absurd h List.not_mem_nil⟩⟩⟩⟩, List.forall_mem_cons.mpr ⟨k_460, fun _ h => h⟩⟩)) rfl rfl rfl (by decide +kernel) ⟨Nat.le_of_ble_eq_true rfl, Nat.le_of_ble_eq_true rfl⟩) ⟨fun a U g mk q => by obtain ⟨q0, q1, qP, qK, qD⟩ := q; exact ⟨q0, q1, qP, va_K.moved (u := U) (U := U.calling g mk a) (Vm.Alike.refl U.vm) qK, qD⟩, va_recv (q0 := 3) (ci := 1) hK hP rfl rfl, fun U hU hW => ⟨rfl, by rw [hU], by rw [hU]; exact hPc, va_K.moved hW.alike hK, hDc.weaken (fun _ _ _ _ => trivial)⟩⟩ rfl rfl hl.1 rfl (lv_room (Nat.le_of_ble_eq_true rfl)) d_DS_secret_24 ⟨Nat.le_of_ble_eq_true rfl, Nat.le_of_ble_eq_true rfl⟩) hS (fun q _ h => hFc q h) hFc (fun u t H1 locs ht hvm hw hB hz1 hk1 hS => ?_)
  obtain ⟨g_3, rfl⟩ : ∃ z, z = u := ⟨_, rfl⟩
  try dsimp only at hw hB
  obtain ⟨hP1, hK1, hD1⟩ := hB
  rw [ht] at hP1
  obtain ⟨hP, hD⟩ := va_join (wr := [(ds, .inr (0, [.ref dr, .ref sv])), (sv, .inr (5, [.ref se, .ref pw, .ref g0, .ref ty, .ref an, .ref aw, .ref ts, .ref ss, .ref rq, .int tm, .int n3, .int n4])), (se, .inl ((cT 2), 4, .inr (.inr (.inr (.inr gs)))))]) (w1 := [(sh, .inr (1, [.ref sr, .int (nI k)])), (sr, .inl ((cT 0), ns, .inl g_3))]) hP hD [3, 4] [0, 1, 2] rfl rfl (by decide) (by decide) hk1 hFc hP1 hD1
  have hw4 := hw
  clear hPc hDc hFc hz1 hk1 hP1 hK1 hD1
  generalize H1 = H at hP hS ⊢
  have hP : va_P (dC, dI) vcl [(ds, .inr (0, [.ref dr, .ref sv])), (sv, .inr (5, [.ref se, .ref pw, .ref g0, .ref ty, .ref an, .ref aw, .ref ts, .ref ss, .ref rq, .int tm, .int n3, .int n4])), (se, .inl ((cT 2), 4, .inr (.inr (.inr (.inr gs))))), (sh, .inr (1, [.ref sr, .int (nI k)])), (sr, .inl ((cT 0), ns, .inl g_3))] H := hP
  have hD : va_D A [(ds, .inr (0, [.ref dr, .ref sv])), (sv, .inr (5, [.ref se, .ref pw, .ref g0, .ref ty, .ref an, .ref aw, .ref ts, .ref ss, .ref rq, .int tm, .int n3, .int n4])), (se, .inl ((cT 2), 4, .inr (.inr (.inr (.inr gs))))), (sh, .inr (1, [.ref sr, .int (nI k)])), (sr, .inl ((cT 0), ns, .inl g_3))] := hD
  have hP9 := hP.sub (ws' := []) [] rfl
  have hD9 := hD.sub (ws' := []) [] (by decide) rfl
  exact W.vret hx hb hr (fun t ht hW => ⟨⟨(), rfl, trivial, by rw [ht]; exact hP9, va_K.moved hW.alike hK, hD9⟩, hS.F ht⟩) hS.2.2 d_DS_secret_27
set_option maxHeartbeats 4000000 in
set_option maxRecDepth 100000 in
/-- isTold: not told -/
theorem c_isTold (l : Launch) (dC : Nat → ClassId) (dI : Nat → Nat → Nat) (cT : Nat → ClassId) (sz : Nat) (sv : Nat) (g0 : Nat) (se : Nat) (pw : Nat) (ty : Nat) (an : Nat) (aw : Nat) (ts : Nat) (ss : Nat) (rq : Nat) (tm : Int32) (n3 : Int32) (n4 : Int32) (sh : Nat) (sr : Nat) (fs : Nat → Int32) (gp : Nat → Option Nat) (us : Nat) (hus : us < 32) (hgp : gp us = some sh) : Met l y_Sv_isTold (Cond.code y_Sv_isTold b_Sv_isTold 2 (Option.some Jvm.ClassFile.FieldType.boolean) :: BIG) ({ frames := 0, cells := 0, slots := 0, locals := 0 }) (va_Pc [.ref sv, .int (nI us)] (fun U => U.heap.size = sz ∧ va_P (dC, dI) vcl [(sv, .inr (5, [.ref se, .ref pw, .ref g0, .ref ty, .ref an, .ref aw, .ref ts, .ref ss, .ref rq, .int tm, .int n3, .int n4])), (pw, .inl ((cT 2), 32, .inr (.inr (.inr (.inr gp))))), (sh, .inr (1, [.ref sr, .int 0])), (sr, .inl ((cT 0), 60, .inl fs))] U.heap ∧ va_K (dC, dI) vcl (tyL cT) U ∧ va_D (fun _ => True) [(sv, .inr (5, [.ref se, .ref pw, .ref g0, .ref ty, .ref an, .ref aw, .ref ts, .ref ss, .ref rq, .int tm, .int n3, .int n4])), (pw, .inl ((cT 2), 32, .inr (.inr (.inr (.inr gp))))), (sh, .inr (1, [.ref sr, .int 0])), (sr, .inl ((cT 0), 60, .inl fs))])) (va_Qi (S := Unit) (fun r u => r = 0 ∧ (True)) (fun u t => va_P (dC, dI) vcl [(sv, .inr (5, [.ref se, .ref pw, .ref g0, .ref ty, .ref an, .ref aw, .ref ts, .ref ss, .ref rq, .int tm, .int n3, .int n4])), (pw, .inl ((cT 2), 32, .inr (.inr (.inr (.inr gp))))), (sh, .inr (1, [.ref sr, .int 0])), (sr, .inl ((cT 0), 60, .inl fs))] t.heap ∧ va_K (dC, dI) vcl (tyL cT) t ∧ va_D (va_A [(sv, .inr (5, [.ref se, .ref pw, .ref g0, .ref ty, .ref an, .ref aw, .ref ts, .ref ss, .ref rq, .int tm, .int n3, .int n4])), (pw, .inl ((cT 2), 32, .inr (.inr (.inr (.inr gp))))), (sh, .inr (1, [.ref sr, .int 0])), (sr, .inl ((cT 0), 60, .inl fs))] sz) [(sv, .inr (5, [.ref se, .ref pw, .ref g0, .ref ty, .ref an, .ref aw, .ref ts, .ref ss, .ref rq, .int tm, .int n3, .int n4])), (pw, .inl ((cT 2), 32, .inr (.inr (.inr (.inr gp))))), (sh, .inr (1, [.ref sr, .int 0])), (sr, .inl ((cT 0), 60, .inl fs))]) (va_A [(sv, .inr (5, [.ref se, .ref pw, .ref g0, .ref ty, .ref an, .ref aw, .ref ts, .ref ss, .ref rq, .int tm, .int n3, .int n4])), (pw, .inl ((cT 2), 32, .inr (.inr (.inr (.inr gp))))), (sh, .inr (1, [.ref sr, .int 0])), (sr, .inl ((cT 0), 60, .inl fs))] sz)) 0 0 (va_A [(sv, .inr (5, [.ref se, .ref pw, .ref g0, .ref ty, .ref an, .ref aw, .ref ts, .ref ss, .ref rq, .int tm, .int n3, .int n4])), (pw, .inl ((cT 2), 32, .inr (.inr (.inr (.inr gp))))), (sh, .inr (1, [.ref sr, .int 0])), (sr, .inl ((cT 0), 60, .inl fs))] sz) := by
  refine Met.ofW (cc := b_Sv_isTold) (maxL := 2) (ret := (Option.some Jvm.ClassFile.FieldType.boolean)) (by decide) rfl ?_
  intro p e s m args below meth c s₁ B hml hv
  obtain ⟨hargs, hsz, hP, hK, hD0⟩ := hv
  have hx := B.exec
  have hb := B.bytes
  have hr := B.returns
  have hts := atoms_spec (ws := (Cond.code y_Sv_isTold b_Sv_isTold 2 (Option.some Jvm.ClassFile.FieldType.boolean) :: BIG)) B.pre
  have hg : ∀ w ∈ BIG, w.before _ s = true := fun w h => hts w (List.mem_cons_of_mem _ h)
  have hown : s.vm.findClass "DoorServer$Server" = some m.cls := findClass_of_methodNamed B.named
  have hlocks := B.notSynchronized
  subst hsz
  have hD := hD0.self (sz := s.heap.size)
  generalize hAe : va_A [(sv, .inr (5, [.ref se, .ref pw, .ref g0, .ref ty, .ref an, .ref aw, .ref ts, .ref ss, .ref rq, .int tm, .int n3, .int n4])), (pw, .inl ((cT 2), 32, .inr (.inr (.inr (.inr gp))))), (sh, .inr (1, [.ref sr, .int 0])), (sr, .inl ((cT 0), 60, .inl fs))] s.heap.size = A at hD ⊢
  have hA : ∀ q : Nat, s.heap.size ≤ q → A q := fun q h => by rw [← hAe]; exact Or.inr h
  have hS : va_S A s.heap s.heap [] := va_S.rf
  have hl := lv_entry ([.ref sv, .int (nI us)]) (n := 2) (Nat.le_of_ble_eq_true rfl)
  refine W.eq (g2 := entryFrame m (List.toArray [.ref sv, .int (nI us)]) 2) (by rw [hargs]) ?_
  rw [lg_entry_eq]
  generalize (lg_sl ([.ref sv, .int (nI us)]) ++ List.replicate (2 - (lg_sl ([.ref sv, .int (nI us)])).length) Slot.unset).toArray = ls at hl ⊢
  have hl : lv_has ls 2 [(0, .ref sv), (1, .int (nI us))] := hl
  change W p l e ({ frames := 0, cells := 0, slots := 0, locals := 0 } : Room) s m args below meth c s.heap [] 0 0 _ _
  have hP : va_P (dC, dI) vcl [(sv, .inr (5, [.ref se, .ref pw, .ref g0, .ref ty, .ref an, .ref aw, .ref ts, .ref ss, .ref rq, .int tm, .int n3, .int n4])), (pw, .inl ((cT 2), 32, .inr (.inr (.inr (.inr gp))))), (sh, .inr (1, [.ref sr, .int 0])), (sr, .inl ((cT 0), 60, .inl fs))] s.heap := hP
  refine lv_aload_n hx hb d_Sv_isTold_0 rfl (lv_at hl 0 rfl) ?_
  refine va_get (D := (dC, dI)) (ci := 5) (v := (.ref pw)) (C := R_Sv) (T := F_Sv) (N := 12) hx hb hg in_Sv hown hK hP 0 rfl rfl 1 (by decide) (hg _ k_322) (fun _ h9 => h9) rfl d_Sv_isTold_1 ?_
  refine lv_iload_n hx hb d_Sv_isTold_4 rfl (lv_at hl 1 rfl) ?_
  refine va_aldq hx hb hK hP 1 2 rfl rfl (i := (nI us)) (vp_in_nI (N := 32) hus (by decide)) d_Sv_isTold_5 ?_
  rw [show va_rf (gp (nI us).toNatClampNeg) = .ref sh from by rw [nI_clamp (by omega), hgp]; rfl]
  refine va_get (D := (dC, dI)) (ci := 1) (v := (.int 0)) (C := R_By) (T := F_By) (N := 2) hx hb hg in_By hown hK hP 2 rfl rfl 1 (by decide) (hg _ k_54) (fun _ h9 => h9) rfl d_Sv_isTold_6 ?_
  refine lv_if_le (tgt := 16) hx hb d_Sv_isTold_9 (by decide) (fun hc5 => ?_) (fun hn9 => absurd (by decide) hn9)
  refine lv_iconst (v := 0) hx hb d_Sv_isTold_16 (by decide) ?_
  have hP9 := hP.sub (ws' := [(sv, .inr (5, [.ref se, .ref pw, .ref g0, .ref ty, .ref an, .ref aw, .ref ts, .ref ss, .ref rq, .int tm, .int n3, .int n4])), (pw, .inl ((cT 2), 32, .inr (.inr (.inr (.inr gp))))), (sh, .inr (1, [.ref sr, .int 0])), (sr, .inl ((cT 0), 60, .inl fs))]) [0, 1, 2, 3] rfl
  have hD9 := hD.sub (ws' := [(sv, .inr (5, [.ref se, .ref pw, .ref g0, .ref ty, .ref an, .ref aw, .ref ts, .ref ss, .ref rq, .int tm, .int n3, .int n4])), (pw, .inl ((cT 2), 32, .inr (.inr (.inr (.inr gp))))), (sh, .inr (1, [.ref sr, .int 0])), (sr, .inl ((cT 0), 60, .inl fs))]) [0, 1, 2, 3] (by decide) rfl
  exact W.zret (v := 0) hx hb hr (by first | rfl | decide) (fun t ht hW => ⟨⟨_, (), rfl, ⟨rfl, trivial⟩, by rw [ht]; exact hP9, va_K.moved hW.alike hK, hD9⟩, hS.F ht⟩) hS.2.2 d_Sv_isTold_17
set_option maxHeartbeats 4000000 in
set_option maxRecDepth 100000 in
/-- user: a new one -/
theorem c_user (l : Launch) (dC : Nat → ClassId) (dI : Nat → Nat → Nat) (cT : Nat → ClassId) (sz : Nat) (ds : Nat) (dr : Nat) (sv : Nat) (rr : Nat) (g0 : Nat) (se : Nat) (pw : Nat) (ty : Nat) (an : Nat) (aw : Nat) (ts : Nat) (ss : Nat) (rq : Nat) (tm : Int32) (n3 : Int32) (n4 : Int32) (sh : Nat) (sr : Nat) (fs : Nat → Int32) (gp : Nat → Option Nat) (us : Nat) (v : Int64) (k : Nat) (hus : us < 32) (hgp : gp us = some sh) (hk1 : 1 ≤ k) (hk2 : k ≤ 60) : Met l y_DS_user (Cond.code y_DS_user b_DS_user 6 (Option.some Jvm.ClassFile.FieldType.boolean) :: BIG) ({ frames := 3, cells := 0, slots := 0, locals := 70 }) (va_Pc [.ref ds, .int (nI us), .long v, .int (nI k)] (fun U => U.heap.size = sz ∧ va_P (dC, dI) vcl [(ds, .inr (0, [.ref dr, .ref sv])), (sv, .inr (5, [.ref se, .ref pw, .ref g0, .ref ty, .ref an, .ref aw, .ref ts, .ref ss, .ref rq, .int tm, .int n3, .int n4])), (pw, .inl ((cT 2), 32, .inr (.inr (.inr (.inr gp))))), (sh, .inr (1, [.ref sr, .int 0])), (sr, .inl ((cT 0), 60, .inl fs))] U.heap ∧ va_K (dC, dI) vcl (tyL cT) U ∧ va_D (fun _ => True) [(ds, .inr (0, [.ref dr, .ref sv])), (sv, .inr (5, [.ref se, .ref pw, .ref g0, .ref ty, .ref an, .ref aw, .ref ts, .ref ss, .ref rq, .int tm, .int n3, .int n4])), (pw, .inl ((cT 2), 32, .inr (.inr (.inr (.inr gp))))), (sh, .inr (1, [.ref sr, .int 0])), (sr, .inl ((cT 0), 60, .inl fs))])) (va_Qi (S := Unit) (fun r u => r = 1 ∧ (True)) (fun u t => va_P (dC, dI) vcl [] t.heap ∧ va_K (dC, dI) vcl (tyL cT) t ∧ va_D (va_A [(ds, .inr (0, [.ref dr, .ref sv])), (sv, .inr (5, [.ref se, .ref pw, .ref g0, .ref ty, .ref an, .ref aw, .ref ts, .ref ss, .ref rq, .int tm, .int n3, .int n4])), (pw, .inl ((cT 2), 32, .inr (.inr (.inr (.inr gp))))), (sh, .inr (1, [.ref sr, .int 0])), (sr, .inl ((cT 0), 60, .inl fs))] sz) []) (va_A [(ds, .inr (0, [.ref dr, .ref sv])), (sv, .inr (5, [.ref se, .ref pw, .ref g0, .ref ty, .ref an, .ref aw, .ref ts, .ref ss, .ref rq, .int tm, .int n3, .int n4])), (pw, .inl ((cT 2), 32, .inr (.inr (.inr (.inr gp))))), (sh, .inr (1, [.ref sr, .int 0])), (sr, .inl ((cT 0), 60, .inl fs))] sz)) 0 0 (va_A [(ds, .inr (0, [.ref dr, .ref sv])), (sv, .inr (5, [.ref se, .ref pw, .ref g0, .ref ty, .ref an, .ref aw, .ref ts, .ref ss, .ref rq, .int tm, .int n3, .int n4])), (pw, .inl ((cT 2), 32, .inr (.inr (.inr (.inr gp))))), (sh, .inr (1, [.ref sr, .int 0])), (sr, .inl ((cT 0), 60, .inl fs))] sz) := by
  refine Met.ofW (cc := b_DS_user) (maxL := 6) (ret := (Option.some Jvm.ClassFile.FieldType.boolean)) (by decide) rfl ?_
  intro p e s m args below meth c s₁ B hml hv
  obtain ⟨hargs, hsz, hP, hK, hD0⟩ := hv
  have hx := B.exec
  have hb := B.bytes
  have hr := B.returns
  have hts := atoms_spec (ws := (Cond.code y_DS_user b_DS_user 6 (Option.some Jvm.ClassFile.FieldType.boolean) :: BIG)) B.pre
  have hg : ∀ w ∈ BIG, w.before _ s = true := fun w h => hts w (List.mem_cons_of_mem _ h)
  have hown : s.vm.findClass "DoorServer" = some m.cls := findClass_of_methodNamed B.named
  have hlocks := B.notSynchronized
  subst hsz
  have hD := hD0.self (sz := s.heap.size)
  generalize hAe : va_A [(ds, .inr (0, [.ref dr, .ref sv])), (sv, .inr (5, [.ref se, .ref pw, .ref g0, .ref ty, .ref an, .ref aw, .ref ts, .ref ss, .ref rq, .int tm, .int n3, .int n4])), (pw, .inl ((cT 2), 32, .inr (.inr (.inr (.inr gp))))), (sh, .inr (1, [.ref sr, .int 0])), (sr, .inl ((cT 0), 60, .inl fs))] s.heap.size = A at hD ⊢
  have hA : ∀ q : Nat, s.heap.size ≤ q → A q := fun q h => by rw [← hAe]; exact Or.inr h
  have hS : va_S A s.heap s.heap [] := va_S.rf
  have hl := lv_entry ([.ref ds, .int (nI us), .long v, .int (nI k)]) (n := 6) (Nat.le_of_ble_eq_true rfl)
  refine W.eq (g2 := entryFrame m (List.toArray [.ref ds, .int (nI us), .long v, .int (nI k)]) 6) (by rw [hargs]) ?_
  rw [lg_entry_eq]
  generalize (lg_sl ([.ref ds, .int (nI us), .long v, .int (nI k)]) ++ List.replicate (6 - (lg_sl ([.ref ds, .int (nI us), .long v, .int (nI k)])).length) Slot.unset).toArray = ls at hl ⊢
  have hl : lv_has ls 6 [(0, .ref ds), (1, .int (nI us)), (2, .long v), (4, .int (nI k))] := hl
  change W p l e ({ frames := 3, cells := 0, slots := 0, locals := 70 } : Room) s m args below meth c s.heap [] 0 0 _ _
  have hP : va_P (dC, dI) vcl [(ds, .inr (0, [.ref dr, .ref sv])), (sv, .inr (5, [.ref se, .ref pw, .ref g0, .ref ty, .ref an, .ref aw, .ref ts, .ref ss, .ref rq, .int tm, .int n3, .int n4])), (pw, .inl ((cT 2), 32, .inr (.inr (.inr (.inr gp))))), (sh, .inr (1, [.ref sr, .int 0])), (sr, .inl ((cT 0), 60, .inl fs))] s.heap := hP
  refine lv_iload_n hx hb d_DS_user_0 rfl (lv_at hl 1 rfl) ?_
  have hPc := hP.sub (ws' := []) [] rfl
  have hDc := hD.sub (ws' := []) [] (by decide) rfl
  have hFc := va_free (wc := []) hD hS hA [] rfl
  refine va_callv (va_runS (As := [.int (nI us)]) (rest := []) ⟨hx, hb, hml, hown, hg⟩ (c_requireUser l dC dI cT s.heap.size (nI us) (nI_pos (by omega)) (nI_nlt (a := 31) (by omega) (by decide))) (va_cwS 1 hg (gI (List.forall_mem_append.mpr ⟨List.forall_mem_cons.mpr ⟨k_475, List.forall_mem_cons.mpr ⟨k_476, List.forall_mem_cons.mpr ⟨k_1, fun _ h => absurd h List.not_mem_nil⟩⟩⟩, List.forall_mem_cons.mpr ⟨k_477, fun _ h => h⟩⟩)) rfl rfl rfl (by decide +kernel) ⟨Nat.le_of_ble_eq_true rfl, Nat.le_of_ble_eq_true rfl⟩) ⟨fun a U g mk q => by obtain ⟨q0, q1, qP, qK, qD⟩ := q; exact ⟨q0, q1, qP, va_K.moved (u := U) (U := U.calling g mk a) (Vm.Alike.refl U.vm) qK, qD⟩, fun U hU hW => ⟨rfl, by rw [hU], by rw [hU]; exact hPc, va_K.moved hW.alike hK, hDc.weaken (fun _ _ _ _ => trivial)⟩⟩ rfl rfl hl.1 rfl (lv_room (Nat.le_of_ble_eq_true rfl)) d_DS_user_1 ⟨Nat.le_of_ble_eq_true rfl, Nat.le_of_ble_eq_true rfl⟩) hS (fun q _ h => hFc q h) hFc (fun u t H1 locs ht hvm hw hB hz1 hk1 hS => ?_)
  try dsimp only at hw hB
  obtain ⟨hP1, hK1, hD1⟩ := hB
  rw [ht] at hP1
  obtain ⟨hP, hD⟩ := va_join (wr := [(ds, .inr (0, [.ref dr, .ref sv])), (sv, .inr (5, [.ref se, .ref pw, .ref g0, .ref ty, .ref an, .ref aw, .ref ts, .ref ss, .ref rq, .int tm, .int n3, .int n4])), (pw, .inl ((cT 2), 32, .inr (.inr (.inr (.inr gp))))), (sh, .inr (1, [.ref sr, .int 0])), (sr, .inl ((cT 0), 60, .inl fs))]) (w1 := []) hP hD [] [0, 1, 2, 3, 4] rfl rfl (by decide) (by decide) hk1 hFc hP1 hD1
  have hw6 := hw
  clear hPc hDc hFc hz1 hk1 hP1 hK1 hD1
  generalize H1 = H at hP hS ⊢
  have hP : va_P (dC, dI) vcl [(ds, .inr (0, [.ref dr, .ref sv])), (sv, .inr (5, [.ref se, .ref pw, .ref g0, .ref ty, .ref an, .ref aw, .ref ts, .ref ss, .ref rq, .int tm, .int n3, .int n4])), (pw, .inl ((cT 2), 32, .inr (.inr (.inr (.inr gp))))), (sh, .inr (1, [.ref sr, .int 0])), (sr, .inl ((cT 0), 60, .inl fs))] H := hP
  have hD : va_D A [(ds, .inr (0, [.ref dr, .ref sv])), (sv, .inr (5, [.ref se, .ref pw, .ref g0, .ref ty, .ref an, .ref aw, .ref ts, .ref ss, .ref rq, .int tm, .int n3, .int n4])), (pw, .inl ((cT 2), 32, .inr (.inr (.inr (.inr gp))))), (sh, .inr (1, [.ref sr, .int 0])), (sr, .inl ((cT 0), 60, .inl fs))] := hD
  refine lv_iload hx hb d_DS_user_4 (lv_at hl 3 rfl) ?_
  refine lv_iconst (v := 1) hx hb d_DS_user_6 (by decide) ?_
  refine lv_bipush (v := 60) hx hb d_DS_user_7 (by decide) ?_
  have hPc := hP.sub (ws' := []) [] rfl
  have hDc := hD.sub (ws' := []) [] (by decide) rfl
  have hFc := va_free (wc := []) hD hS hA [] rfl
  refine va_callv (va_runS (As := [.int (nI k), .int 1, .int 60]) (rest := []) ⟨hx, hb, hml, hown, hg⟩ (c_requireWithin l dC dI cT H.size (nI k) 1 60 (nI_nlt (b := 1) hk1 (by omega)) (nI_nlt (a := 60) hk2 (by decide))) (va_cwS 3 hg (gI (List.forall_mem_append.mpr ⟨List.forall_mem_cons.mpr ⟨k_390, List.forall_mem_cons.mpr ⟨k_391, List.forall_mem_cons.mpr ⟨k_1, fun _ h => absurd h List.not_mem_nil⟩⟩⟩, List.forall_mem_cons.mpr ⟨k_392, fun _ h => h⟩⟩)) rfl rfl rfl (by decide +kernel) ⟨Nat.le_of_ble_eq_true rfl, Nat.le_of_ble_eq_true rfl⟩) ⟨fun a U g mk q => by obtain ⟨q0, q1, qP, qK, qD⟩ := q; exact ⟨q0, q1, qP, va_K.moved (u := U) (U := U.calling g mk a) (Vm.Alike.refl U.vm) qK, qD⟩, fun U hU hW => ⟨rfl, by rw [hU], by rw [hU]; exact hPc, va_K.moved hW.alike hK, hDc.weaken (fun _ _ _ _ => trivial)⟩⟩ rfl rfl hl.1 rfl (lv_room (Nat.le_of_ble_eq_true rfl)) d_DS_user_9 ⟨Nat.le_of_ble_eq_true rfl, Nat.le_of_ble_eq_true rfl⟩) hS (fun q _ h => hFc q h) hFc (fun u t H1 locs ht hvm hw hB hz1 hk1 hS => ?_)
  try dsimp only at hw hB
  obtain ⟨hP1, hK1, hD1⟩ := hB
  rw [ht] at hP1
  obtain ⟨hP, hD⟩ := va_join (wr := [(ds, .inr (0, [.ref dr, .ref sv])), (sv, .inr (5, [.ref se, .ref pw, .ref g0, .ref ty, .ref an, .ref aw, .ref ts, .ref ss, .ref rq, .int tm, .int n3, .int n4])), (pw, .inl ((cT 2), 32, .inr (.inr (.inr (.inr gp))))), (sh, .inr (1, [.ref sr, .int 0])), (sr, .inl ((cT 0), 60, .inl fs))]) (w1 := []) hP hD [] [0, 1, 2, 3, 4] rfl rfl (by decide) (by decide) hk1 hFc hP1 hD1
  have hw7 := hw
  clear hPc hDc hFc hz1 hk1 hP1 hK1 hD1
  generalize H1 = H at hP hS ⊢
  have hP : va_P (dC, dI) vcl [(ds, .inr (0, [.ref dr, .ref sv])), (sv, .inr (5, [.ref se, .ref pw, .ref g0, .ref ty, .ref an, .ref aw, .ref ts, .ref ss, .ref rq, .int tm, .int n3, .int n4])), (pw, .inl ((cT 2), 32, .inr (.inr (.inr (.inr gp))))), (sh, .inr (1, [.ref sr, .int 0])), (sr, .inl ((cT 0), 60, .inl fs))] H := hP
  have hD : va_D A [(ds, .inr (0, [.ref dr, .ref sv])), (sv, .inr (5, [.ref se, .ref pw, .ref g0, .ref ty, .ref an, .ref aw, .ref ts, .ref ss, .ref rq, .int tm, .int n3, .int n4])), (pw, .inl ((cT 2), 32, .inr (.inr (.inr (.inr gp))))), (sh, .inr (1, [.ref sr, .int 0])), (sr, .inl ((cT 0), 60, .inl fs))] := hD
  refine lv_aload_n hx hb d_DS_user_12 rfl (lv_at hl 0 rfl) ?_
  refine va_get (D := (dC, dI)) (ci := 0) (v := (.ref sv)) (C := R_DS) (T := F_DS) (N := 2) hx hb hg in_DS hown hK hP 0 rfl rfl 1 (by decide) (hg _ k_369) (fun _ h9 => h9) rfl d_DS_user_13 ?_
  refine lv_iload_n hx hb d_DS_user_16 rfl (lv_at hl 1 rfl) ?_
  have hPc := hP.sub (ws' := [(sv, .inr (5, [.ref se, .ref pw, .ref g0, .ref ty, .ref an, .ref aw, .ref ts, .ref ss, .ref rq, .int tm, .int n3, .int n4])), (pw, .inl ((cT 2), 32, .inr (.inr (.inr (.inr gp))))), (sh, .inr (1, [.ref sr, .int 0])), (sr, .inl ((cT 0), 60, .inl fs))]) [1, 2, 3, 4] rfl
  have hDc := hD.sub (ws' := [(sv, .inr (5, [.ref se, .ref pw, .ref g0, .ref ty, .ref an, .ref aw, .ref ts, .ref ss, .ref rq, .int tm, .int n3, .int n4])), (pw, .inl ((cT 2), 32, .inr (.inr (.inr (.inr gp))))), (sh, .inr (1, [.ref sr, .int 0])), (sr, .inl ((cT 0), 60, .inl fs))]) [1, 2, 3, 4] (by decide) rfl
  have hFc := va_free (wc := [(sv, .inr (5, [.ref se, .ref pw, .ref g0, .ref ty, .ref an, .ref aw, .ref ts, .ref ss, .ref rq, .int tm, .int n3, .int n4])), (pw, .inl ((cT 2), 32, .inr (.inr (.inr (.inr gp))))), (sh, .inr (1, [.ref sr, .int 0])), (sr, .inl ((cT 0), 60, .inl fs))]) hD hS hA [1, 2, 3, 4] rfl
  refine va_calli (va_runV (C := "DoorServer$Server") (As := [.int (nI us)]) (rest := []) ⟨hx, hb, hml, hown, hg⟩ (c_isTold l dC dI cT H.size sv g0 se pw ty an aw ts ss rq tm n3 n4 sh sr fs gp us (hus) (hgp)) (cwV 1 hg (gI (List.forall_mem_append.mpr ⟨List.forall_mem_cons.mpr ⟨k_478, List.forall_mem_cons.mpr ⟨k_479, List.forall_mem_cons.mpr ⟨k_480, List.forall_mem_cons.mpr ⟨k_4, fun _ h => absurd h List.not_mem_nil⟩⟩⟩⟩, List.forall_mem_cons.mpr ⟨k_481, fun _ h => h⟩⟩)) rfl rfl rfl (by decide +kernel) ⟨Nat.le_of_ble_eq_true rfl, Nat.le_of_ble_eq_true rfl⟩) ⟨fun a U g mk q => by obtain ⟨q0, q1, qP, qK, qD⟩ := q; exact ⟨q0, q1, qP, va_K.moved (u := U) (U := U.calling g mk a) (Vm.Alike.refl U.vm) qK, qD⟩, va_recv (q0 := 1) (ci := 5) hK hP rfl rfl, fun U hU hW => ⟨rfl, by rw [hU], by rw [hU]; exact hPc, va_K.moved hW.alike hK, hDc.weaken (fun _ _ _ _ => trivial)⟩⟩ rfl rfl hl.1 rfl (lv_room (Nat.le_of_ble_eq_true rfl)) d_DS_user_17 ⟨Nat.le_of_ble_eq_true rfl, Nat.le_of_ble_eq_true rfl⟩) hS (fun q _ h => hFc q h) hFc (fun r u t H1 locs ht hvm hw hB hz1 hk1 hS => ?_)
  try dsimp only at hw hB
  obtain ⟨hP1, hK1, hD1⟩ := hB
  rw [ht] at hP1
  obtain ⟨rfl, hw⟩ := hw
  obtain ⟨hP, hD⟩ := va_join (wr := [(ds, .inr (0, [.ref dr, .ref sv]))]) (w1 := [(sv, .inr (5, [.ref se, .ref pw, .ref g0, .ref ty, .ref an, .ref aw, .ref ts, .ref ss, .ref rq, .int tm, .int n3, .int n4])), (pw, .inl ((cT 2), 32, .inr (.inr (.inr (.inr gp))))), (sh, .inr (1, [.ref sr, .int 0])), (sr, .inl ((cT 0), 60, .inl fs))]) hP hD [1, 2, 3, 4] [0] rfl rfl (by decide) (by decide) hk1 hFc hP1 hD1
  have hw8 := hw
  clear hPc hDc hFc hz1 hk1 hP1 hK1 hD1
  generalize H1 = H at hP hS ⊢
  have hP : va_P (dC, dI) vcl [(ds, .inr (0, [.ref dr, .ref sv])), (sv, .inr (5, [.ref se, .ref pw, .ref g0, .ref ty, .ref an, .ref aw, .ref ts, .ref ss, .ref rq, .int tm, .int n3, .int n4])), (pw, .inl ((cT 2), 32, .inr (.inr (.inr (.inr gp))))), (sh, .inr (1, [.ref sr, .int 0])), (sr, .inl ((cT 0), 60, .inl fs))] H := hP
  have hD : va_D A [(ds, .inr (0, [.ref dr, .ref sv])), (sv, .inr (5, [.ref se, .ref pw, .ref g0, .ref ty, .ref an, .ref aw, .ref ts, .ref ss, .ref rq, .int tm, .int n3, .int n4])), (pw, .inl ((cT 2), 32, .inr (.inr (.inr (.inr gp))))), (sh, .inr (1, [.ref sr, .int 0])), (sr, .inl ((cT 0), 60, .inl fs))] := hD
  refine lv_if_ne (tgt := 27) hx hb d_DS_user_20 (by decide) (fun hn9 => absurd hn9 (by decide)) (fun hc9 => ?_)
  refine lv_iconst (v := 1) hx hb d_DS_user_23 (by decide) ?_
  refine lv_goto (tgt := 28) hx hb d_DS_user_24 (by decide) ?_
  refine lv_istore (lv' := [(5, .int 1), (0, .ref ds), (1, .int (nI us)), (2, .long v), (4, .int (nI k))]) hx hb d_DS_user_28 hl (by decide) rfl (fun ls hl => ?_)
  refine lv_aload_n hx hb d_DS_user_30 rfl (lv_at hl 1 rfl) ?_
  refine va_get (D := (dC, dI)) (ci := 0) (v := (.ref sv)) (C := R_DS) (T := F_DS) (N := 2) hx hb hg in_DS hown hK hP 0 rfl rfl 1 (by decide) (hg _ k_369) (fun _ h9 => h9) rfl d_DS_user_31 ?_
  refine va_get (D := (dC, dI)) (ci := 5) (v := (.ref pw)) (C := R_Sv) (T := F_Sv) (N := 12) hx hb hg in_Sv hown hK hP 1 rfl rfl 1 (by decide) (hg _ k_323) (fun _ h9 => h9) rfl d_DS_user_34 ?_
  refine lv_iload_n hx hb d_DS_user_37 rfl (lv_at hl 2 rfl) ?_
  refine va_aldq hx hb hK hP 2 2 rfl rfl (i := (nI us)) (vp_in_nI (N := 32) hus (by decide)) d_DS_user_38 ?_
  rw [show va_rf (gp (nI us).toNatClampNeg) = .ref sh from by rw [nI_clamp (by omega), hgp]; rfl]
  refine lv_lload_n hx hb d_DS_user_39 rfl (lv_at hl 3 rfl) ?_
  refine lv_iload hx hb d_DS_user_40 (lv_at hl 4 rfl) ?_
  have hP : va_P (dC, dI) vcl [(ds, .inr (0, [.ref dr, .ref sv])), (sv, .inr (5, [.ref se, .ref pw, .ref g0, .ref ty, .ref an, .ref aw, .ref ts, .ref ss, .ref rq, .int tm, .int n3, .int n4])), (pw, .inl ((cT 2), 32, .inr (.inr (.inr (.inr gp))))), (sh, .inr (1, [.ref sr, .int (nI 0)])), (sr, .inl ((cT 0), 60, .inl fs))] H := hP
  have hP : va_P (dC, dI) vcl [(ds, .inr (0, [.ref dr, .ref sv])), (sv, .inr (5, [.ref se, .ref pw, .ref g0, .ref ty, .ref an, .ref aw, .ref ts, .ref ss, .ref rq, .int tm, .int n3, .int n4])), (pw, .inl ((cT 2), 32, .inr (.inr (.inr (.inr gp))))), (sh, .inr (1, [.ref sr, .int (nI 0)])), (sr, .inl ((cT 0), 60, .inl fs))] H := hP
  have hD : va_D A [(ds, .inr (0, [.ref dr, .ref sv])), (sv, .inr (5, [.ref se, .ref pw, .ref g0, .ref ty, .ref an, .ref aw, .ref ts, .ref ss, .ref rq, .int tm, .int n3, .int n4])), (pw, .inl ((cT 2), 32, .inr (.inr (.inr (.inr gp))))), (sh, .inr (1, [.ref sr, .int (nI 0)])), (sr, .inl ((cT 0), 60, .inl fs))] := hD
  have hPc := hP.sub (ws' := [(sh, .inr (1, [.ref sr, .int (nI 0)])), (sr, .inl ((cT 0), 60, .inl fs))]) [3, 4] rfl
  have hDc := hD.sub (ws' := [(sh, .inr (1, [.ref sr, .int (nI 0)])), (sr, .inl ((cT 0), 60, .inl fs))]) [3, 4] (by decide) rfl
  have hFc := va_free (wc := [(sh, .inr (1, [.ref sr, .int (nI 0)])), (sr, .inl ((cT 0), 60, .inl fs))]) hD hS hA [3, 4] rfl
  refine va_callv (va_runV (C := "DoorServer$Bytes") (As := [.long v, .int (nI k)]) (rest := []) ⟨hx, hb, hml, hown, hg⟩ (c_By_become l dC dI cT H.size sh sr 60 0 fs v k (by omega) (by decide)) (cwV 2 hg (gI (List.forall_mem_append.mpr ⟨List.forall_mem_cons.mpr ⟨k_455, List.forall_mem_cons.mpr ⟨k_456, List.forall_mem_cons.mpr ⟨k_457, List.forall_mem_cons.mpr ⟨k_2, fun _ h => absurd h List.not_mem_nil⟩⟩⟩⟩, List.forall_mem_cons.mpr ⟨k_460, fun _ h => h⟩⟩)) rfl rfl rfl (by decide +kernel) ⟨Nat.le_of_ble_eq_true rfl, Nat.le_of_ble_eq_true rfl⟩) ⟨fun a U g mk q => by obtain ⟨q0, q1, qP, qK, qD⟩ := q; exact ⟨q0, q1, qP, va_K.moved (u := U) (U := U.calling g mk a) (Vm.Alike.refl U.vm) qK, qD⟩, va_recv (q0 := 3) (ci := 1) hK hP rfl rfl, fun U hU hW => ⟨rfl, by rw [hU], by rw [hU]; exact hPc, va_K.moved hW.alike hK, hDc.weaken (fun _ _ _ _ => trivial)⟩⟩ rfl rfl hl.1 rfl (lv_room (Nat.le_of_ble_eq_true rfl)) d_DS_user_42 ⟨Nat.le_of_ble_eq_true rfl, Nat.le_of_ble_eq_true rfl⟩) hS (fun q _ h => hFc q h) hFc (fun u t H1 locs ht hvm hw hB hz1 hk1 hS => ?_)
  obtain ⟨g_10, rfl⟩ : ∃ z, z = u := ⟨_, rfl⟩
  try dsimp only at hw hB
  obtain ⟨hP1, hK1, hD1⟩ := hB
  rw [ht] at hP1
  obtain ⟨hP, hD⟩ := va_join (wr := [(ds, .inr (0, [.ref dr, .ref sv])), (sv, .inr (5, [.ref se, .ref pw, .ref g0, .ref ty, .ref an, .ref aw, .ref ts, .ref ss, .ref rq, .int tm, .int n3, .int n4])), (pw, .inl ((cT 2), 32, .inr (.inr (.inr (.inr gp)))))]) (w1 := [(sh, .inr (1, [.ref sr, .int (nI k)])), (sr, .inl ((cT 0), 60, .inl g_10))]) hP hD [3, 4] [0, 1, 2] rfl rfl (by decide) (by decide) hk1 hFc hP1 hD1
  have hw11 := hw
  clear hPc hDc hFc hz1 hk1 hP1 hK1 hD1
  generalize H1 = H at hP hS ⊢
  have hP : va_P (dC, dI) vcl [(ds, .inr (0, [.ref dr, .ref sv])), (sv, .inr (5, [.ref se, .ref pw, .ref g0, .ref ty, .ref an, .ref aw, .ref ts, .ref ss, .ref rq, .int tm, .int n3, .int n4])), (pw, .inl ((cT 2), 32, .inr (.inr (.inr (.inr gp))))), (sh, .inr (1, [.ref sr, .int (nI k)])), (sr, .inl ((cT 0), 60, .inl g_10))] H := hP
  have hD : va_D A [(ds, .inr (0, [.ref dr, .ref sv])), (sv, .inr (5, [.ref se, .ref pw, .ref g0, .ref ty, .ref an, .ref aw, .ref ts, .ref ss, .ref rq, .int tm, .int n3, .int n4])), (pw, .inl ((cT 2), 32, .inr (.inr (.inr (.inr gp))))), (sh, .inr (1, [.ref sr, .int (nI k)])), (sr, .inl ((cT 0), 60, .inl g_10))] := hD
  refine lv_iload hx hb d_DS_user_45 (lv_at hl 0 rfl) ?_
  have hP9 := hP.sub (ws' := []) [] rfl
  have hD9 := hD.sub (ws' := []) [] (by decide) rfl
  exact W.zret (v := 1) hx hb hr (by first | rfl | decide) (fun t ht hW => ⟨⟨_, (), rfl, ⟨rfl, trivial⟩, by rw [ht]; exact hP9, va_K.moved hW.alike hK, hD9⟩, hS.F ht⟩) hS.2.2 d_DS_user_47
set_option maxHeartbeats 4000000 in
set_option maxRecDepth 100000 in
/-- seal -/
theorem c_seal (l : Launch) (dC : Nat → ClassId) (dI : Nat → Nat → Nat) (cT : Nat → ClassId) (sz : Nat) (ds : Nat) (dr : Nat) (sv : Nat) (rr : Nat) (se : Nat) (pw : Nat) (ty : Nat) (an : Nat) (aw : Nat) (ts : Nat) (ss : Nat) (rq : Nat) (tm : Int32) (n3 : Int32) (n4 : Int32) (sh : Nat) (sr : Nat) (ns : Nat) (sl : Nat) (fs : Nat → Int32) (gs : Nat → Option Nat) (st : Nat) (g0 : Nat) (tx : Nat) (tr : Nat) (wo : Nat) (di : Nat) (va : Int32) (vb : Int32) (vc : Int32) (vd : Int32) (len : Nat) (f : Nat → Int32) (fw : Nat → Int32) (fd : Nat → Int32) (fp : Nat → Int32) (hst : st < 4) (hgs : gs st = some sh) (hsl : sl ≤ ns) (hns : ns < 2 ^ 31) (hs40 : sl ≤ 64) : Met l y_DS_seal (Cond.code y_DS_seal b_DS_seal 2 (Option.none : Option Jvm.ClassFile.FieldType) :: BIG) ({ frames := 4, cells := 0, slots := 0, locals := 130 }) (va_Pc [.ref ds, .int (nI st)] (fun U => U.heap.size = sz ∧ va_P (dC, dI) vcl [(ds, .inr (0, [.ref dr, .ref sv])), (dr, .inr (2, [.ref rr, .int (nI 20)])), (rr, .inl ((cT 0), 1000, .inl fp)), (sv, .inr (5, [.ref se, .ref pw, .ref g0, .ref ty, .ref an, .ref aw, .ref ts, .ref ss, .ref rq, .int tm, .int n3, .int n4])), (se, .inl ((cT 2), 4, .inr (.inr (.inr (.inr gs))))), (sh, .inr (1, [.ref sr, .int (nI sl)])), (sr, .inl ((cT 0), ns, .inl fs)), (g0, .inr (3, [.ref tx, .ref wo, .ref di, .int va, .int vb, .int vc, .int vd])), (tx, .inr (1, [.ref tr, .int (nI len)])), (tr, .inl ((cT 0), 1192, .inl f)), (wo, .inl ((cT 0), 16, .inl fw)), (di, .inl ((cT 0), 16, .inl fd))] U.heap ∧ va_K (dC, dI) vcl (tyL cT) U ∧ va_D (fun _ => True) [(ds, .inr (0, [.ref dr, .ref sv])), (dr, .inr (2, [.ref rr, .int (nI 20)])), (rr, .inl ((cT 0), 1000, .inl fp)), (sv, .inr (5, [.ref se, .ref pw, .ref g0, .ref ty, .ref an, .ref aw, .ref ts, .ref ss, .ref rq, .int tm, .int n3, .int n4])), (se, .inl ((cT 2), 4, .inr (.inr (.inr (.inr gs))))), (sh, .inr (1, [.ref sr, .int (nI sl)])), (sr, .inl ((cT 0), ns, .inl fs)), (g0, .inr (3, [.ref tx, .ref wo, .ref di, .int va, .int vb, .int vc, .int vd])), (tx, .inr (1, [.ref tr, .int (nI len)])), (tr, .inl ((cT 0), 1192, .inl f)), (wo, .inl ((cT 0), 16, .inl fw)), (di, .inl ((cT 0), 16, .inl fd))] ∧ xm (va_A [(ds, .inr (0, [.ref dr, .ref sv])), (dr, .inr (2, [.ref rr, .int (nI 20)])), (rr, .inl ((cT 0), 1000, .inl fp)), (sv, .inr (5, [.ref se, .ref pw, .ref g0, .ref ty, .ref an, .ref aw, .ref ts, .ref ss, .ref rq, .int tm, .int n3, .int n4])), (se, .inl ((cT 2), 4, .inr (.inr (.inr (.inr gs))))), (sh, .inr (1, [.ref sr, .int (nI sl)])), (sr, .inl ((cT 0), ns, .inl fs)), (g0, .inr (3, [.ref tx, .ref wo, .ref di, .int va, .int vb, .int vc, .int vd])), (tx, .inr (1, [.ref tr, .int (nI len)])), (tr, .inl ((cT 0), 1192, .inl f)), (wo, .inl ((cT 0), 16, .inl fw)), (di, .inl ((cT 0), 16, .inl fd))] sz) U U.heap)) (va_Qv (S := Unit) (fun u => True) (fun u t => va_P (dC, dI) vcl [] t.heap ∧ va_K (dC, dI) vcl (tyL cT) t ∧ va_D (va_A [(ds, .inr (0, [.ref dr, .ref sv])), (dr, .inr (2, [.ref rr, .int (nI 20)])), (rr, .inl ((cT 0), 1000, .inl fp)), (sv, .inr (5, [.ref se, .ref pw, .ref g0, .ref ty, .ref an, .ref aw, .ref ts, .ref ss, .ref rq, .int tm, .int n3, .int n4])), (se, .inl ((cT 2), 4, .inr (.inr (.inr (.inr gs))))), (sh, .inr (1, [.ref sr, .int (nI sl)])), (sr, .inl ((cT 0), ns, .inl fs)), (g0, .inr (3, [.ref tx, .ref wo, .ref di, .int va, .int vb, .int vc, .int vd])), (tx, .inr (1, [.ref tr, .int (nI len)])), (tr, .inl ((cT 0), 1192, .inl f)), (wo, .inl ((cT 0), 16, .inl fw)), (di, .inl ((cT 0), 16, .inl fd))] sz) []) (va_A [(ds, .inr (0, [.ref dr, .ref sv])), (dr, .inr (2, [.ref rr, .int (nI 20)])), (rr, .inl ((cT 0), 1000, .inl fp)), (sv, .inr (5, [.ref se, .ref pw, .ref g0, .ref ty, .ref an, .ref aw, .ref ts, .ref ss, .ref rq, .int tm, .int n3, .int n4])), (se, .inl ((cT 2), 4, .inr (.inr (.inr (.inr gs))))), (sh, .inr (1, [.ref sr, .int (nI sl)])), (sr, .inl ((cT 0), ns, .inl fs)), (g0, .inr (3, [.ref tx, .ref wo, .ref di, .int va, .int vb, .int vc, .int vd])), (tx, .inr (1, [.ref tr, .int (nI len)])), (tr, .inl ((cT 0), 1192, .inl f)), (wo, .inl ((cT 0), 16, .inl fw)), (di, .inl ((cT 0), 16, .inl fd))] sz)) 0 0 (va_A [(ds, .inr (0, [.ref dr, .ref sv])), (dr, .inr (2, [.ref rr, .int (nI 20)])), (rr, .inl ((cT 0), 1000, .inl fp)), (sv, .inr (5, [.ref se, .ref pw, .ref g0, .ref ty, .ref an, .ref aw, .ref ts, .ref ss, .ref rq, .int tm, .int n3, .int n4])), (se, .inl ((cT 2), 4, .inr (.inr (.inr (.inr gs))))), (sh, .inr (1, [.ref sr, .int (nI sl)])), (sr, .inl ((cT 0), ns, .inl fs)), (g0, .inr (3, [.ref tx, .ref wo, .ref di, .int va, .int vb, .int vc, .int vd])), (tx, .inr (1, [.ref tr, .int (nI len)])), (tr, .inl ((cT 0), 1192, .inl f)), (wo, .inl ((cT 0), 16, .inl fw)), (di, .inl ((cT 0), 16, .inl fd))] sz) := by
  refine Met.ofW (cc := b_DS_seal) (maxL := 2) (ret := (Option.none : Option Jvm.ClassFile.FieldType)) (by decide) rfl ?_
  intro p e s m args below meth c s₁ B hml hv
  obtain ⟨hargs, hsz, hP, hK, hD0, hE⟩ := hv
  have hx := B.exec
  have hb := B.bytes
  have hr := B.returns
  have hts := atoms_spec (ws := (Cond.code y_DS_seal b_DS_seal 2 (Option.none : Option Jvm.ClassFile.FieldType) :: BIG)) B.pre
  have hg : ∀ w ∈ BIG, w.before _ s = true := fun w h => hts w (List.mem_cons_of_mem _ h)
  have hown : s.vm.findClass "DoorServer" = some m.cls := findClass_of_methodNamed B.named
  have hlocks := B.notSynchronized
  subst hsz
  have hD := hD0.self (sz := s.heap.size)
  generalize hAe : va_A [(ds, .inr (0, [.ref dr, .ref sv])), (dr, .inr (2, [.ref rr, .int (nI 20)])), (rr, .inl ((cT 0), 1000, .inl fp)), (sv, .inr (5, [.ref se, .ref pw, .ref g0, .ref ty, .ref an, .ref aw, .ref ts, .ref ss, .ref rq, .int tm, .int n3, .int n4])), (se, .inl ((cT 2), 4, .inr (.inr (.inr (.inr gs))))), (sh, .inr (1, [.ref sr, .int (nI sl)])), (sr, .inl ((cT 0), ns, .inl fs)), (g0, .inr (3, [.ref tx, .ref wo, .ref di, .int va, .int vb, .int vc, .int vd])), (tx, .inr (1, [.ref tr, .int (nI len)])), (tr, .inl ((cT 0), 1192, .inl f)), (wo, .inl ((cT 0), 16, .inl fw)), (di, .inl ((cT 0), 16, .inl fd))] s.heap.size = A at hD hE ⊢
  have hA : ∀ q : Nat, s.heap.size ≤ q → A q := fun q h => by rw [← hAe]; exact Or.inr h
  have hS : va_S A s.heap s.heap [] := va_S.rf
  have hl := lv_entry ([.ref ds, .int (nI st)]) (n := 2) (Nat.le_of_ble_eq_true rfl)
  refine W.eq (g2 := entryFrame m (List.toArray [.ref ds, .int (nI st)]) 2) (by rw [hargs]) ?_
  rw [lg_entry_eq]
  generalize (lg_sl ([.ref ds, .int (nI st)]) ++ List.replicate (2 - (lg_sl ([.ref ds, .int (nI st)])).length) Slot.unset).toArray = ls at hl ⊢
  have hl : lv_has ls 2 [(0, .ref ds), (1, .int (nI st))] := hl
  change W p l e ({ frames := 4, cells := 0, slots := 0, locals := 130 } : Room) s m args below meth c s.heap [] 0 0 _ _
  have hP : va_P (dC, dI) vcl [(ds, .inr (0, [.ref dr, .ref sv])), (dr, .inr (2, [.ref rr, .int (nI 20)])), (rr, .inl ((cT 0), 1000, .inl fp)), (sv, .inr (5, [.ref se, .ref pw, .ref g0, .ref ty, .ref an, .ref aw, .ref ts, .ref ss, .ref rq, .int tm, .int n3, .int n4])), (se, .inl ((cT 2), 4, .inr (.inr (.inr (.inr gs))))), (sh, .inr (1, [.ref sr, .int (nI sl)])), (sr, .inl ((cT 0), ns, .inl fs)), (g0, .inr (3, [.ref tx, .ref wo, .ref di, .int va, .int vb, .int vc, .int vd])), (tx, .inr (1, [.ref tr, .int (nI len)])), (tr, .inl ((cT 0), 1192, .inl f)), (wo, .inl ((cT 0), 16, .inl fw)), (di, .inl ((cT 0), 16, .inl fd))] s.heap := hP
  refine lv_iload_n hx hb d_DS_seal_0 rfl (lv_at hl 1 rfl) ?_
  have hPc := hP.sub (ws' := []) [] rfl
  have hDc := hD.sub (ws' := []) [] (by decide) rfl
  have hFc := va_free (wc := []) hD hS hA [] rfl
  refine va_callv (va_runS (As := [.int (nI st)]) (rest := []) ⟨hx, hb, hml, hown, hg⟩ (c_requireStation l dC dI cT s.heap.size (nI st) (nI_pos (by omega)) (nI_nlt (a := 3) (by omega) (by decide))) (va_cwS 1 hg (gI (List.forall_mem_append.mpr ⟨List.forall_mem_cons.mpr ⟨k_387, List.forall_mem_cons.mpr ⟨k_388, List.forall_mem_cons.mpr ⟨k_1, fun _ h => absurd h List.not_mem_nil⟩⟩⟩, List.forall_mem_cons.mpr ⟨k_389, fun _ h => h⟩⟩)) rfl rfl rfl (by decide +kernel) ⟨Nat.le_of_ble_eq_true rfl, Nat.le_of_ble_eq_true rfl⟩) ⟨fun a U g mk q => by obtain ⟨q0, q1, qP, qK, qD⟩ := q; exact ⟨q0, q1, qP, va_K.moved (u := U) (U := U.calling g mk a) (Vm.Alike.refl U.vm) qK, qD⟩, fun U hU hW => ⟨rfl, by rw [hU], by rw [hU]; exact hPc, va_K.moved hW.alike hK, hDc.weaken (fun _ _ _ _ => trivial)⟩⟩ rfl rfl hl.1 rfl (lv_room (Nat.le_of_ble_eq_true rfl)) d_DS_seal_1 ⟨Nat.le_of_ble_eq_true rfl, Nat.le_of_ble_eq_true rfl⟩) hS (fun q _ h => hFc q h) hFc (fun u t H1 locs ht hvm hw hB hz1 hk1 hS => ?_)
  try dsimp only at hw hB
  obtain ⟨hP1, hK1, hD1⟩ := hB
  rw [ht] at hP1
  obtain ⟨hP, hD⟩ := va_join (wr := [(ds, .inr (0, [.ref dr, .ref sv])), (dr, .inr (2, [.ref rr, .int (nI 20)])), (rr, .inl ((cT 0), 1000, .inl fp)), (sv, .inr (5, [.ref se, .ref pw, .ref g0, .ref ty, .ref an, .ref aw, .ref ts, .ref ss, .ref rq, .int tm, .int n3, .int n4])), (se, .inl ((cT 2), 4, .inr (.inr (.inr (.inr gs))))), (sh, .inr (1, [.ref sr, .int (nI sl)])), (sr, .inl ((cT 0), ns, .inl fs)), (g0, .inr (3, [.ref tx, .ref wo, .ref di, .int va, .int vb, .int vc, .int vd])), (tx, .inr (1, [.ref tr, .int (nI len)])), (tr, .inl ((cT 0), 1192, .inl f)), (wo, .inl ((cT 0), 16, .inl fw)), (di, .inl ((cT 0), 16, .inl fd))]) (w1 := []) hP hD [] [0, 1, 2, 3, 4, 5, 6, 7, 8, 9, 10, 11] rfl rfl (by decide) (by decide) hk1 hFc hP1 hD1
  have hw12 := hw
  clear hPc hDc hFc hz1 hk1 hP1 hK1 hD1
  generalize H1 = H at hP hS ⊢
  have hP : va_P (dC, dI) vcl [(ds, .inr (0, [.ref dr, .ref sv])), (dr, .inr (2, [.ref rr, .int (nI 20)])), (rr, .inl ((cT 0), 1000, .inl fp)), (sv, .inr (5, [.ref se, .ref pw, .ref g0, .ref ty, .ref an, .ref aw, .ref ts, .ref ss, .ref rq, .int tm, .int n3, .int n4])), (se, .inl ((cT 2), 4, .inr (.inr (.inr (.inr gs))))), (sh, .inr (1, [.ref sr, .int (nI sl)])), (sr, .inl ((cT 0), ns, .inl fs)), (g0, .inr (3, [.ref tx, .ref wo, .ref di, .int va, .int vb, .int vc, .int vd])), (tx, .inr (1, [.ref tr, .int (nI len)])), (tr, .inl ((cT 0), 1192, .inl f)), (wo, .inl ((cT 0), 16, .inl fw)), (di, .inl ((cT 0), 16, .inl fd))] H := hP
  have hD : va_D A [(ds, .inr (0, [.ref dr, .ref sv])), (dr, .inr (2, [.ref rr, .int (nI 20)])), (rr, .inl ((cT 0), 1000, .inl fp)), (sv, .inr (5, [.ref se, .ref pw, .ref g0, .ref ty, .ref an, .ref aw, .ref ts, .ref ss, .ref rq, .int tm, .int n3, .int n4])), (se, .inl ((cT 2), 4, .inr (.inr (.inr (.inr gs))))), (sh, .inr (1, [.ref sr, .int (nI sl)])), (sr, .inl ((cT 0), ns, .inl fs)), (g0, .inr (3, [.ref tx, .ref wo, .ref di, .int va, .int vb, .int vc, .int vd])), (tx, .inr (1, [.ref tr, .int (nI len)])), (tr, .inl ((cT 0), 1192, .inl f)), (wo, .inl ((cT 0), 16, .inl fw)), (di, .inl ((cT 0), 16, .inl fd))] := hD
  refine lv_aload_n hx hb d_DS_seal_4 rfl (lv_at hl 0 rfl) ?_
  refine va_get (D := (dC, dI)) (ci := 0) (v := (.ref dr)) (C := R_DS) (T := F_DS) (N := 2) hx hb hg in_DS hown hK hP 0 rfl rfl 0 (by decide) (hg _ k_368) (fun _ h9 => h9) rfl d_DS_seal_5 ?_
  have hPc := hP.sub (ws' := [(dr, .inr (2, [.ref rr, .int (nI 20)])), (rr, .inl ((cT 0), 1000, .inl fp))]) [1, 2] rfl
  have hDc := hD.sub (ws' := [(dr, .inr (2, [.ref rr, .int (nI 20)])), (rr, .inl ((cT 0), 1000, .inl fp))]) [1, 2] (by decide) rfl
  have hFc := va_free (wc := [(dr, .inr (2, [.ref rr, .int (nI 20)])), (rr, .inl ((cT 0), 1000, .inl fp))]) hD hS hA [1, 2] rfl
  refine va_callv (va_runV (C := "DoorServer$Packet") (As := []) (rest := []) ⟨hx, hb, hml, hown, hg⟩ (c_Pk_tell l dC dI cT H.size dr rr 1000 20 fp (by decide) (by decide)) (cwV 0 hg (gI (List.forall_mem_append.mpr ⟨List.forall_mem_cons.mpr ⟨k_528, List.forall_mem_cons.mpr ⟨k_529, List.forall_mem_cons.mpr ⟨k_530, List.forall_mem_cons.mpr ⟨k_3, fun _ h => absurd h List.not_mem_nil⟩⟩⟩⟩, List.forall_mem_cons.mpr ⟨k_531, fun _ h => h⟩⟩)) rfl rfl rfl (by decide +kernel) ⟨Nat.le_of_ble_eq_true rfl, Nat.le_of_ble_eq_true rfl⟩) ⟨fun a U g mk q => by obtain ⟨q0, q1, qP, qK, qD⟩ := q; exact ⟨q0, q1, qP, va_K.moved (u := U) (U := U.calling g mk a) (Vm.Alike.refl U.vm) qK, qD⟩, va_recv (q0 := 1) (ci := 2) hK hP rfl rfl, fun U hU hW => ⟨rfl, by rw [hU], by rw [hU]; exact hPc, va_K.moved hW.alike hK, hDc.weaken (fun _ _ _ _ => trivial)⟩⟩ rfl rfl hl.1 rfl (lv_room (Nat.le_of_ble_eq_true rfl)) d_DS_seal_8 ⟨Nat.le_of_ble_eq_true rfl, Nat.le_of_ble_eq_true rfl⟩) hS (fun q _ h => hFc q h) hFc (fun u t H1 locs ht hvm hw hB hz1 hk1 hS => ?_)
  try dsimp only at hw hB
  obtain ⟨hP1, hK1, hD1⟩ := hB
  rw [ht] at hP1
  obtain ⟨hP, hD⟩ := va_join (wr := [(ds, .inr (0, [.ref dr, .ref sv])), (sv, .inr (5, [.ref se, .ref pw, .ref g0, .ref ty, .ref an, .ref aw, .ref ts, .ref ss, .ref rq, .int tm, .int n3, .int n4])), (se, .inl ((cT 2), 4, .inr (.inr (.inr (.inr gs))))), (sh, .inr (1, [.ref sr, .int (nI sl)])), (sr, .inl ((cT 0), ns, .inl fs)), (g0, .inr (3, [.ref tx, .ref wo, .ref di, .int va, .int vb, .int vc, .int vd])), (tx, .inr (1, [.ref tr, .int (nI len)])), (tr, .inl ((cT 0), 1192, .inl f)), (wo, .inl ((cT 0), 16, .inl fw)), (di, .inl ((cT 0), 16, .inl fd))]) (w1 := [(dr, .inr (2, [.ref rr, .int (nI 20)])), (rr, .inl ((cT 0), 1000, .inl (upd (upd fp 2 (nI 20 >>> (8 &&& 31))) 3 (nI 20 &&& 255))))]) hP hD [1, 2] [0, 3, 4, 5, 6, 7, 8, 9, 10, 11] rfl rfl (by decide) (by decide) hk1 hFc hP1 hD1
  have hw13 := hw
  clear hPc hDc hFc hz1 hk1 hP1 hK1 hD1
  generalize H1 = H at hP hS ⊢
  have hP : va_P (dC, dI) vcl [(ds, .inr (0, [.ref dr, .ref sv])), (sv, .inr (5, [.ref se, .ref pw, .ref g0, .ref ty, .ref an, .ref aw, .ref ts, .ref ss, .ref rq, .int tm, .int n3, .int n4])), (se, .inl ((cT 2), 4, .inr (.inr (.inr (.inr gs))))), (sh, .inr (1, [.ref sr, .int (nI sl)])), (sr, .inl ((cT 0), ns, .inl fs)), (g0, .inr (3, [.ref tx, .ref wo, .ref di, .int va, .int vb, .int vc, .int vd])), (tx, .inr (1, [.ref tr, .int (nI len)])), (tr, .inl ((cT 0), 1192, .inl f)), (wo, .inl ((cT 0), 16, .inl fw)), (di, .inl ((cT 0), 16, .inl fd)), (dr, .inr (2, [.ref rr, .int (nI 20)])), (rr, .inl ((cT 0), 1000, .inl (upd (upd fp 2 (nI 20 >>> (8 &&& 31))) 3 (nI 20 &&& 255))))] H := hP
  have hD : va_D A [(ds, .inr (0, [.ref dr, .ref sv])), (sv, .inr (5, [.ref se, .ref pw, .ref g0, .ref ty, .ref an, .ref aw, .ref ts, .ref ss, .ref rq, .int tm, .int n3, .int n4])), (se, .inl ((cT 2), 4, .inr (.inr (.inr (.inr gs))))), (sh, .inr (1, [.ref sr, .int (nI sl)])), (sr, .inl ((cT 0), ns, .inl fs)), (g0, .inr (3, [.ref tx, .ref wo, .ref di, .int va, .int vb, .int vc, .int vd])), (tx, .inr (1, [.ref tr, .int (nI len)])), (tr, .inl ((cT 0), 1192, .inl f)), (wo, .inl ((cT 0), 16, .inl fw)), (di, .inl ((cT 0), 16, .inl fd)), (dr, .inr (2, [.ref rr, .int (nI 20)])), (rr, .inl ((cT 0), 1000, .inl (upd (upd fp 2 (nI 20 >>> (8 &&& 31))) 3 (nI 20 &&& 255))))] := hD
  refine lv_aload_n hx hb d_DS_seal_11 rfl (lv_at hl 0 rfl) ?_
  refine va_get (D := (dC, dI)) (ci := 0) (v := (.ref dr)) (C := R_DS) (T := F_DS) (N := 2) hx hb hg in_DS hown hK hP 0 rfl rfl 0 (by decide) (hg _ k_368) (fun _ h9 => h9) rfl d_DS_seal_12 ?_
  refine lv_iconst (v := 4) hx hb d_DS_seal_15 (by decide) ?_
  refine lv_topi (fun x15 e14 => ?_)
  obtain rfl : x15 = nI 4 := by rw [e14]; rfl
  refine lv_aload_n hx hb d_DS_seal_16 rfl (lv_at hl 0 rfl) ?_
  refine va_get (D := (dC, dI)) (ci := 0) (v := (.ref sv)) (C := R_DS) (T := F_DS) (N := 2) hx hb hg in_DS hown hK hP 0 rfl rfl 1 (by decide) (hg _ k_369) (fun _ h9 => h9) rfl d_DS_seal_17 ?_
  refine va_get (D := (dC, dI)) (ci := 5) (v := (.ref g0)) (C := R_Sv) (T := F_Sv) (N := 12) hx hb hg in_Sv hown hK hP 1 rfl rfl 2 (by decide) (hg _ k_325) (fun _ h9 => h9) rfl d_DS_seal_20 ?_
  refine lv_aload_n hx hb d_DS_seal_23 rfl (lv_at hl 0 rfl) ?_
  refine va_get (D := (dC, dI)) (ci := 0) (v := (.ref sv)) (C := R_DS) (T := F_DS) (N := 2) hx hb hg in_DS hown hK hP 0 rfl rfl 1 (by decide) (hg _ k_369) (fun _ h9 => h9) rfl d_DS_seal_24 ?_
  refine va_get (D := (dC, dI)) (ci := 5) (v := (.ref se)) (C := R_Sv) (T := F_Sv) (N := 12) hx hb hg in_Sv hown hK hP 1 rfl rfl 0 (by decide) (hg _ k_321) (fun _ h9 => h9) rfl d_DS_seal_27 ?_
  refine lv_iload_n hx hb d_DS_seal_30 rfl (lv_at hl 1 rfl) ?_
  refine va_aldq hx hb hK hP 2 2 rfl rfl (i := (nI st)) (vp_in_nI (N := 4) hst (by decide)) d_DS_seal_31 ?_
  rw [show va_rf (gs (nI st).toNatClampNeg) = .ref sh from by rw [nI_clamp (by omega), hgs]; rfl]
  refine lv_aload_n hx hb d_DS_seal_32 rfl (lv_at hl 0 rfl) ?_
  refine va_get (D := (dC, dI)) (ci := 0) (v := (.ref dr)) (C := R_DS) (T := F_DS) (N := 2) hx hb hg in_DS hown hK hP 0 rfl rfl 0 (by decide) (hg _ k_368) (fun _ h9 => h9) rfl d_DS_seal_33 ?_
  have hPc := hP.sub (ws' := [(g0, .inr (3, [.ref tx, .ref wo, .ref di, .int va, .int vb, .int vc, .int vd])), (tx, .inr (1, [.ref tr, .int (nI len)])), (tr, .inl ((cT 0), 1192, .inl f)), (wo, .inl ((cT 0), 16, .inl fw)), (di, .inl ((cT 0), 16, .inl fd)), (sh, .inr (1, [.ref sr, .int (nI sl)])), (sr, .inl ((cT 0), ns, .inl fs)), (dr, .inr (2, [.ref rr, .int (nI 20)])), (rr, .inl ((cT 0), 1000, .inl (upd (upd fp 2 (nI 20 >>> (8 &&& 31))) 3 (nI 20 &&& 255))))]) [5, 6, 7, 8, 9, 3, 4, 10, 11] rfl
  have hDc := hD.sub (ws' := [(g0, .inr (3, [.ref tx, .ref wo, .ref di, .int va, .int vb, .int vc, .int vd])), (tx, .inr (1, [.ref tr, .int (nI len)])), (tr, .inl ((cT 0), 1192, .inl f)), (wo, .inl ((cT 0), 16, .inl fw)), (di, .inl ((cT 0), 16, .inl fd)), (sh, .inr (1, [.ref sr, .int (nI sl)])), (sr, .inl ((cT 0), ns, .inl fs)), (dr, .inr (2, [.ref rr, .int (nI 20)])), (rr, .inl ((cT 0), 1000, .inl (upd (upd fp 2 (nI 20 >>> (8 &&& 31))) 3 (nI 20 &&& 255))))]) [5, 6, 7, 8, 9, 3, 4, 10, 11] (by decide) rfl
  have hFc := va_free (wc := [(g0, .inr (3, [.ref tx, .ref wo, .ref di, .int va, .int vb, .int vc, .int vd])), (tx, .inr (1, [.ref tr, .int (nI len)])), (tr, .inl ((cT 0), 1192, .inl f)), (wo, .inl ((cT 0), 16, .inl fw)), (di, .inl ((cT 0), 16, .inl fd)), (sh, .inr (1, [.ref sr, .int (nI sl)])), (sr, .inl ((cT 0), ns, .inl fs)), (dr, .inr (2, [.ref rr, .int (nI 20)])), (rr, .inl ((cT 0), 1000, .inl (upd (upd fp 2 (nI 20 >>> (8 &&& 31))) 3 (nI 20 &&& 255))))]) hD hS hA [5, 6, 7, 8, 9, 3, 4, 10, 11] rfl
  refine va_callr (va_runV (C := "DoorServer$Digests") (As := [.ref sh, .ref dr]) (rest := [.int (nI 4), .ref dr]) ⟨hx, hb, hml, hown, hg⟩ (c_Dg_seal l dC dI cT H.size g0 tx tr wo di va vb vc vd len f fw fd sh sr ns sl fs dr rr 1000 20 (upd (upd fp 2 (nI 20 >>> (8 &&& 31))) 3 (nI 20 &&& 255)) (hsl) (hns) (by decide) (by decide) (by decide) (by decide) (hs40)) (cwV 2 hg (gI (List.forall_mem_append.mpr ⟨List.forall_mem_cons.mpr ⟨k_672, List.forall_mem_cons.mpr ⟨k_673, List.forall_mem_cons.mpr ⟨k_674, List.forall_mem_cons.mpr ⟨k_5, fun _ h => absurd h List.not_mem_nil⟩⟩⟩⟩, List.forall_mem_cons.mpr ⟨k_675, fun _ h => h⟩⟩)) rfl rfl rfl (by decide +kernel) ⟨Nat.le_of_ble_eq_true rfl, Nat.le_of_ble_eq_true rfl⟩) ⟨fun a U g mk q => by obtain ⟨q0, q1, qP, qK, qD, qE⟩ := q; exact ⟨q0, q1, qP, va_K.moved (u := U) (U := U.calling g mk a) (Vm.Alike.refl U.vm) qK, qD, qE.at (State.WarmedH.refl _) (fun _ _ _ => rfl) (fun _ h => h)⟩, va_recv (q0 := 5) (ci := 3) hK hP rfl rfl, fun U hU hW => ⟨rfl, by rw [hU], by rw [hU]; exact hPc, va_K.moved hW.alike hK, hDc.weaken (fun _ _ _ _ => trivial), by rw [hU]; exact hE.at hW hS.2.1 hFc⟩⟩ rfl rfl hl.1 rfl (lv_room (Nat.le_of_ble_eq_true rfl)) d_DS_seal_36 ⟨Nat.le_of_ble_eq_true rfl, Nat.le_of_ble_eq_true rfl⟩) hS (fun q _ h => hFc q h) hFc (fun u a9 t H1 locs ht hvm hw hB hz1 hk1 hS => ?_)
  obtain ⟨fw2_16, fd2_17, a2_18, b2_19, c2_20, d2_21, f2_22⟩ := u
  try dsimp only at hw hB
  obtain ⟨rfl, hP1, hK1, hD1⟩ := hB
  rw [ht] at hP1
  obtain ⟨hP, hD⟩ := va_join (wr := [(ds, .inr (0, [.ref dr, .ref sv])), (sv, .inr (5, [.ref se, .ref pw, .ref g0, .ref ty, .ref an, .ref aw, .ref ts, .ref ss, .ref rq, .int tm, .int n3, .int n4])), (se, .inl ((cT 2), 4, .inr (.inr (.inr (.inr gs)))))]) (w1 := [(g0, .inr (3, [.ref tx, .ref wo, .ref di, .int a2_18, .int b2_19, .int c2_20, .int d2_21])), (tx, .inr (1, [.ref tr, .int (nI (0 + 20 + sl))])), (tr, .inl ((cT 0), 1192, .inl f2_22)), (wo, .inl ((cT 0), 16, .inl fw2_16)), (di, .inl ((cT 0), 16, .inl fd2_17)), (sh, .inr (1, [.ref sr, .int (nI sl)])), (sr, .inl ((cT 0), ns, .inl fs)), (dr, .inr (2, [.ref rr, .int (nI 20)])), (rr, .inl ((cT 0), 1000, .inl (upd (upd fp 2 (nI 20 >>> (8 &&& 31))) 3 (nI 20 &&& 255))))]) hP hD [5, 6, 7, 8, 9, 3, 4, 10, 11] [0, 1, 2] rfl rfl (by decide) (by decide) hk1 hFc hP1 hD1
  have hw23 := hw
  clear hPc hDc hFc hz1 hk1 hP1 hK1 hD1
  generalize H1 = H at hP hS ⊢
  have hP : va_P (dC, dI) vcl [(ds, .inr (0, [.ref dr, .ref sv])), (sv, .inr (5, [.ref se, .ref pw, .ref g0, .ref ty, .ref an, .ref aw, .ref ts, .ref ss, .ref rq, .int tm, .int n3, .int n4])), (se, .inl ((cT 2), 4, .inr (.inr (.inr (.inr gs))))), (g0, .inr (3, [.ref tx, .ref wo, .ref di, .int a2_18, .int b2_19, .int c2_20, .int d2_21])), (tx, .inr (1, [.ref tr, .int (nI (0 + 20 + sl))])), (tr, .inl ((cT 0), 1192, .inl f2_22)), (wo, .inl ((cT 0), 16, .inl fw2_16)), (di, .inl ((cT 0), 16, .inl fd2_17)), (sh, .inr (1, [.ref sr, .int (nI sl)])), (sr, .inl ((cT 0), ns, .inl fs)), (dr, .inr (2, [.ref rr, .int (nI 20)])), (rr, .inl ((cT 0), 1000, .inl (upd (upd fp 2 (nI 20 >>> (8 &&& 31))) 3 (nI 20 &&& 255))))] H := hP
  have hD : va_D A [(ds, .inr (0, [.ref dr, .ref sv])), (sv, .inr (5, [.ref se, .ref pw, .ref g0, .ref ty, .ref an, .ref aw, .ref ts, .ref ss, .ref rq, .int tm, .int n3, .int n4])), (se, .inl ((cT 2), 4, .inr (.inr (.inr (.inr gs))))), (g0, .inr (3, [.ref tx, .ref wo, .ref di, .int a2_18, .int b2_19, .int c2_20, .int d2_21])), (tx, .inr (1, [.ref tr, .int (nI (0 + 20 + sl))])), (tr, .inl ((cT 0), 1192, .inl f2_22)), (wo, .inl ((cT 0), 16, .inl fw2_16)), (di, .inl ((cT 0), 16, .inl fd2_17)), (sh, .inr (1, [.ref sr, .int (nI sl)])), (sr, .inl ((cT 0), ns, .inl fs)), (dr, .inr (2, [.ref rr, .int (nI 20)])), (rr, .inl ((cT 0), 1000, .inl (upd (upd fp 2 (nI 20 >>> (8 &&& 31))) 3 (nI 20 &&& 255))))] := hD
  have hPc := hP.sub (ws' := [(dr, .inr (2, [.ref rr, .int (nI 20)])), (rr, .inl ((cT 0), 1000, .inl (upd (upd fp 2 (nI 20 >>> (8 &&& 31))) 3 (nI 20 &&& 255)))), (di, .inl ((cT 0), 16, .inl fd2_17))]) [10, 11, 7] rfl
  have hDc := hD.sub (ws' := [(dr, .inr (2, [.ref rr, .int (nI 20)])), (rr, .inl ((cT 0), 1000, .inl (upd (upd fp 2 (nI 20 >>> (8 &&& 31))) 3 (nI 20 &&& 255)))), (di, .inl ((cT 0), 16, .inl fd2_17))]) [10, 11, 7] (by decide) rfl
  have hFc := va_free (wc := [(dr, .inr (2, [.ref rr, .int (nI 20)])), (rr, .inl ((cT 0), 1000, .inl (upd (upd fp 2 (nI 20 >>> (8 &&& 31))) 3 (nI 20 &&& 255)))), (di, .inl ((cT 0), 16, .inl fd2_17))]) hD hS hA [10, 11, 7] rfl
  refine va_callv (va_runV (C := "DoorServer$Packet") (As := [.int (nI 4), .ref di]) (rest := []) ⟨hx, hb, hml, hown, hg⟩ (c_Pk_write l dC dI cT H.size dr rr 1000 20 (upd (upd fp 2 (nI 20 >>> (8 &&& 31))) 3 (nI 20 &&& 255)) di fd2_17 4 (by decide) (by decide)) (cwV 2 hg (gI (List.forall_mem_append.mpr ⟨List.forall_mem_cons.mpr ⟨k_660, List.forall_mem_cons.mpr ⟨k_661, List.forall_mem_cons.mpr ⟨k_662, List.forall_mem_cons.mpr ⟨k_3, fun _ h => absurd h List.not_mem_nil⟩⟩⟩⟩, List.forall_mem_cons.mpr ⟨k_663, fun _ h => h⟩⟩)) rfl rfl rfl (by decide +kernel) ⟨Nat.le_of_ble_eq_true rfl, Nat.le_of_ble_eq_true rfl⟩) ⟨fun a U g mk q => by obtain ⟨q0, q1, qP, qK, qD⟩ := q; exact ⟨q0, q1, qP, va_K.moved (u := U) (U := U.calling g mk a) (Vm.Alike.refl U.vm) qK, qD⟩, va_recv (q0 := 10) (ci := 2) hK hP rfl rfl, fun U hU hW => ⟨rfl, by rw [hU], by rw [hU]; exact hPc, va_K.moved hW.alike hK, hDc.weaken (fun _ _ _ _ => trivial)⟩⟩ rfl rfl hl.1 rfl (lv_room (Nat.le_of_ble_eq_true rfl)) d_DS_seal_39 ⟨Nat.le_of_ble_eq_true rfl, Nat.le_of_ble_eq_true rfl⟩) hS (fun q _ h => hFc q h) hFc (fun u t H1 locs ht hvm hw hB hz1 hk1 hS => ?_)
  obtain ⟨g_24, rfl⟩ : ∃ z, z = u := ⟨_, rfl⟩
  try dsimp only at hw hB
  obtain ⟨hP1, hK1, hD1⟩ := hB
  rw [ht] at hP1
  obtain ⟨hP, hD⟩ := va_join (wr := [(ds, .inr (0, [.ref dr, .ref sv])), (sv, .inr (5, [.ref se, .ref pw, .ref g0, .ref ty, .ref an, .ref aw, .ref ts, .ref ss, .ref rq, .int tm, .int n3, .int n4])), (se, .inl ((cT 2), 4, .inr (.inr (.inr (.inr gs))))), (g0, .inr (3, [.ref tx, .ref wo, .ref di, .int a2_18, .int b2_19, .int c2_20, .int d2_21])), (tx, .inr (1, [.ref tr, .int (nI (0 + 20 + sl))])), (tr, .inl ((cT 0), 1192, .inl f2_22)), (wo, .inl ((cT 0), 16, .inl fw2_16)), (sh, .inr (1, [.ref sr, .int (nI sl)])), (sr, .inl ((cT 0), ns, .inl fs))]) (w1 := [(dr, .inr (2, [.ref rr, .int (nI 20)])), (rr, .inl ((cT 0), 1000, .inl g_24)), (di, .inl ((cT 0), 16, .inl fd2_17))]) hP hD [10, 11, 7] [0, 1, 2, 3, 4, 5, 6, 8, 9] rfl rfl (by decide) (by decide) hk1 hFc hP1 hD1
  have hw25 := hw
  clear hPc hDc hFc hz1 hk1 hP1 hK1 hD1
  generalize H1 = H at hP hS ⊢
  have hP : va_P (dC, dI) vcl [(ds, .inr (0, [.ref dr, .ref sv])), (sv, .inr (5, [.ref se, .ref pw, .ref g0, .ref ty, .ref an, .ref aw, .ref ts, .ref ss, .ref rq, .int tm, .int n3, .int n4])), (se, .inl ((cT 2), 4, .inr (.inr (.inr (.inr gs))))), (g0, .inr (3, [.ref tx, .ref wo, .ref di, .int a2_18, .int b2_19, .int c2_20, .int d2_21])), (tx, .inr (1, [.ref tr, .int (nI (0 + 20 + sl))])), (tr, .inl ((cT 0), 1192, .inl f2_22)), (wo, .inl ((cT 0), 16, .inl fw2_16)), (sh, .inr (1, [.ref sr, .int (nI sl)])), (sr, .inl ((cT 0), ns, .inl fs)), (dr, .inr (2, [.ref rr, .int (nI 20)])), (rr, .inl ((cT 0), 1000, .inl g_24)), (di, .inl ((cT 0), 16, .inl fd2_17))] H := hP
  have hD : va_D A [(ds, .inr (0, [.ref dr, .ref sv])), (sv, .inr (5, [.ref se, .ref pw, .ref g0, .ref ty, .ref an, .ref aw, .ref ts, .ref ss, .ref rq, .int tm, .int n3, .int n4])), (se, .inl ((cT 2), 4, .inr (.inr (.inr (.inr gs))))), (g0, .inr (3, [.ref tx, .ref wo, .ref di, .int a2_18, .int b2_19, .int c2_20, .int d2_21])), (tx, .inr (1, [.ref tr, .int (nI (0 + 20 + sl))])), (tr, .inl ((cT 0), 1192, .inl f2_22)), (wo, .inl ((cT 0), 16, .inl fw2_16)), (sh, .inr (1, [.ref sr, .int (nI sl)])), (sr, .inl ((cT 0), ns, .inl fs)), (dr, .inr (2, [.ref rr, .int (nI 20)])), (rr, .inl ((cT 0), 1000, .inl g_24)), (di, .inl ((cT 0), 16, .inl fd2_17))] := hD
  have hP9 := hP.sub (ws' := []) [] rfl
  have hD9 := hD.sub (ws' := []) [] (by decide) rfl
  exact W.vret hx hb hr (fun t ht hW => ⟨⟨(), rfl, trivial, by rw [ht]; exact hP9, va_K.moved hW.alike hK, hD9⟩, hS.F ht⟩) hS.2.2 d_DS_seal_42
set_option maxHeartbeats 4000000 in
set_option maxRecDepth 100000 in
/-- firstProof -/
theorem c_first (l : Launch) (dC : Nat → ClassId) (dI : Nat → Nat → Nat) (cT : Nat → ClassId) (sz : Nat) (ds : Nat) (dr : Nat) (sv : Nat) (rr : Nat) (f : Nat → Int32) (h20 : f 20 = 80) (h21 : f 21 = 18) : Met l y_DS_firstProof (Cond.code y_DS_firstProof b_DS_firstProof 2 (Option.some Jvm.ClassFile.FieldType.int) :: BIG) ({ frames := 1, cells := 0, slots := 0, locals := 24 }) (va_Pc [.ref ds] (fun U => U.heap.size = sz ∧ va_P (dC, dI) vcl [(ds, .inr (0, [.ref dr, .ref sv])), (dr, .inr (2, [.ref rr, .int (nI 38)])), (rr, .inl ((cT 0), 1000, .inl f))] U.heap ∧ va_K (dC, dI) vcl (tyL cT) U ∧ va_D (fun _ => True) [(ds, .inr (0, [.ref dr, .ref sv])), (dr, .inr (2, [.ref rr, .int (nI 38)])), (rr, .inl ((cT 0), 1000, .inl f))])) (va_Qi (S := Unit) (fun r u => r = 22 ∧ (True)) (fun u t => va_P (dC, dI) vcl [(ds, .inr (0, [.ref dr, .ref sv])), (dr, .inr (2, [.ref rr, .int (nI 38)])), (rr, .inl ((cT 0), 1000, .inl f))] t.heap ∧ va_K (dC, dI) vcl (tyL cT) t ∧ va_D (va_A [(ds, .inr (0, [.ref dr, .ref sv])), (dr, .inr (2, [.ref rr, .int (nI 38)])), (rr, .inl ((cT 0), 1000, .inl f))] sz) [(ds, .inr (0, [.ref dr, .ref sv])), (dr, .inr (2, [.ref rr, .int (nI 38)])), (rr, .inl ((cT 0), 1000, .inl f))]) (va_A [(ds, .inr (0, [.ref dr, .ref sv])), (dr, .inr (2, [.ref rr, .int (nI 38)])), (rr, .inl ((cT 0), 1000, .inl f))] sz)) 0 0 (va_A [(ds, .inr (0, [.ref dr, .ref sv])), (dr, .inr (2, [.ref rr, .int (nI 38)])), (rr, .inl ((cT 0), 1000, .inl f))] sz) := by
  refine Met.ofW (cc := b_DS_firstProof) (maxL := 2) (ret := (Option.some Jvm.ClassFile.FieldType.int)) (by decide) rfl ?_
  intro p e s m args below meth c s₁ B hml hv
  obtain ⟨hargs, hsz, hP, hK, hD0⟩ := hv
  have hx := B.exec
  have hb := B.bytes
  have hr := B.returns
  have hts := atoms_spec (ws := (Cond.code y_DS_firstProof b_DS_firstProof 2 (Option.some Jvm.ClassFile.FieldType.int) :: BIG)) B.pre
  have hg : ∀ w ∈ BIG, w.before _ s = true := fun w h => hts w (List.mem_cons_of_mem _ h)
  have hown : s.vm.findClass "DoorServer" = some m.cls := findClass_of_methodNamed B.named
  have hlocks := B.notSynchronized
  subst hsz
  have hD := hD0.self (sz := s.heap.size)
  generalize hAe : va_A [(ds, .inr (0, [.ref dr, .ref sv])), (dr, .inr (2, [.ref rr, .int (nI 38)])), (rr, .inl ((cT 0), 1000, .inl f))] s.heap.size = A at hD ⊢
  have hA : ∀ q : Nat, s.heap.size ≤ q → A q := fun q h => by rw [← hAe]; exact Or.inr h
  have hS : va_S A s.heap s.heap [] := va_S.rf
  have hl := lv_entry ([.ref ds]) (n := 2) (Nat.le_of_ble_eq_true rfl)
  refine W.eq (g2 := entryFrame m (List.toArray [.ref ds]) 2) (by rw [hargs]) ?_
  rw [lg_entry_eq]
  generalize (lg_sl ([.ref ds]) ++ List.replicate (2 - (lg_sl ([.ref ds])).length) Slot.unset).toArray = ls at hl ⊢
  have hl : lv_has ls 2 [(0, .ref ds)] := hl
  change W p l e ({ frames := 1, cells := 0, slots := 0, locals := 24 } : Room) s m args below meth c s.heap [] 0 0 _ _
  have hP : va_P (dC, dI) vcl [(ds, .inr (0, [.ref dr, .ref sv])), (dr, .inr (2, [.ref rr, .int (nI 38)])), (rr, .inl ((cT 0), 1000, .inl f))] s.heap := hP
  refine lv_aload_n hx hb d_DS_firstProof_0 rfl (lv_at hl 0 rfl) ?_
  refine va_get (D := (dC, dI)) (ci := 0) (v := (.ref dr)) (C := R_DS) (T := F_DS) (N := 2) hx hb hg in_DS hown hK hP 0 rfl rfl 0 (by decide) (hg _ k_368) (fun _ h9 => h9) rfl d_DS_firstProof_1 ?_
  refine lv_bipush (v := 80) hx hb d_DS_firstProof_4 (by decide) ?_
  refine lv_bipush (v := 16) hx hb d_DS_firstProof_6 (by decide) ?_
  have hPc := hP.sub (ws' := [(dr, .inr (2, [.ref rr, .int (nI 38)])), (rr, .inl ((cT 0), 1000, .inl f))]) [1, 2] rfl
  have hDc := hD.sub (ws' := [(dr, .inr (2, [.ref rr, .int (nI 38)])), (rr, .inl ((cT 0), 1000, .inl f))]) [1, 2] (by decide) rfl
  have hFc := va_free (wc := [(dr, .inr (2, [.ref rr, .int (nI 38)])), (rr, .inl ((cT 0), 1000, .inl f))]) hD hS hA [1, 2] rfl
  refine va_calli (va_runV (C := "DoorServer$Packet") (As := [.int 80, .int 16]) (rest := []) ⟨hx, hb, hml, hown, hg⟩ (c_Pk_find38 l dC dI cT s.heap.size dr rr 1000 f (by decide) (by decide) (h20) (h21)) (cwV 2 hg (gI (List.forall_mem_append.mpr ⟨List.forall_mem_cons.mpr ⟨k_640, List.forall_mem_cons.mpr ⟨k_641, List.forall_mem_cons.mpr ⟨k_642, List.forall_mem_cons.mpr ⟨k_3, fun _ h => absurd h List.not_mem_nil⟩⟩⟩⟩, List.forall_mem_cons.mpr ⟨k_643, fun _ h => h⟩⟩)) rfl rfl rfl (by decide +kernel) ⟨Nat.le_of_ble_eq_true rfl, Nat.le_of_ble_eq_true rfl⟩) ⟨fun a U g mk q => by obtain ⟨q0, q1, qP, qK, qD⟩ := q; exact ⟨q0, q1, qP, va_K.moved (u := U) (U := U.calling g mk a) (Vm.Alike.refl U.vm) qK, qD⟩, va_recv (q0 := 1) (ci := 2) hK hP rfl rfl, fun U hU hW => ⟨rfl, by rw [hU], by rw [hU]; exact hPc, va_K.moved hW.alike hK, hDc.weaken (fun _ _ _ _ => trivial)⟩⟩ rfl rfl hl.1 rfl (lv_room (Nat.le_of_ble_eq_true rfl)) d_DS_firstProof_8 ⟨Nat.le_of_ble_eq_true rfl, Nat.le_of_ble_eq_true rfl⟩) hS (fun q _ h => hFc q h) hFc (fun r u t H1 locs ht hvm hw hB hz1 hk1 hS => ?_)
  try dsimp only at hw hB
  obtain ⟨hP1, hK1, hD1⟩ := hB
  rw [ht] at hP1
  obtain ⟨rfl, hw⟩ := hw
  obtain ⟨hP, hD⟩ := va_join (wr := [(ds, .inr (0, [.ref dr, .ref sv]))]) (w1 := [(dr, .inr (2, [.ref rr, .int (nI 38)])), (rr, .inl ((cT 0), 1000, .inl f))]) hP hD [1, 2] [0] rfl rfl (by decide) (by decide) hk1 hFc hP1 hD1
  have hw26 := hw
  clear hPc hDc hFc hz1 hk1 hP1 hK1 hD1
  generalize H1 = H at hP hS ⊢
  have hP : va_P (dC, dI) vcl [(ds, .inr (0, [.ref dr, .ref sv])), (dr, .inr (2, [.ref rr, .int (nI 38)])), (rr, .inl ((cT 0), 1000, .inl f))] H := hP
  have hD : va_D A [(ds, .inr (0, [.ref dr, .ref sv])), (dr, .inr (2, [.ref rr, .int (nI 38)])), (rr, .inl ((cT 0), 1000, .inl f))] := hD
  refine lv_istore_n (lv' := [(1, .int 22), (0, .ref ds)]) hx hb d_DS_firstProof_11 rfl hl (by decide) rfl (fun ls hl => ?_)
  refine lv_iload_n hx hb d_DS_firstProof_12 rfl (lv_at hl 0 rfl) ?_
  refine lv_iconst (v := (-1)) hx hb d_DS_firstProof_13 (by decide) ?_
  refine lv_icmp_ne (tgt := 30) hx hb d_DS_firstProof_14 (by decide) (fun hc27 => ?_) (fun hn9 => absurd hn9 (by decide))
  refine lv_iload_n hx hb d_DS_firstProof_30 rfl (lv_at hl 0 rfl) ?_
  have hP9 := hP.sub (ws' := [(ds, .inr (0, [.ref dr, .ref sv])), (dr, .inr (2, [.ref rr, .int (nI 38)])), (rr, .inl ((cT 0), 1000, .inl f))]) [0, 1, 2] rfl
  have hD9 := hD.sub (ws' := [(ds, .inr (0, [.ref dr, .ref sv])), (dr, .inr (2, [.ref rr, .int (nI 38)])), (rr, .inl ((cT 0), 1000, .inl f))]) [0, 1, 2] (by decide) rfl
  exact W.iret (v := 22) hx hb hr (fun t ht hW => ⟨⟨_, (), rfl, ⟨rfl, trivial⟩, by rw [ht]; exact hP9, va_K.moved hW.alike hK, hD9⟩, hS.F ht⟩) hS.2.2 d_DS_firstProof_31
set_option maxHeartbeats 4000000 in
set_option maxRecDepth 100000 in
/-- prove -/
theorem c_prove (l : Launch) (dC : Nat → ClassId) (dI : Nat → Nat → Nat) (cT : Nat → ClassId) (sz : Nat) (ds : Nat) (dr : Nat) (sv : Nat) (rr : Nat) (se : Nat) (pw : Nat) (ty : Nat) (an : Nat) (aw : Nat) (ts : Nat) (ss : Nat) (rq : Nat) (tm : Int32) (n3 : Int32) (n4 : Int32) (sh : Nat) (sr : Nat) (ns : Nat) (sl : Nat) (fs : Nat → Int32) (gs : Nat → Option Nat) (st : Nat) (g0 : Nat) (tx : Nat) (tr : Nat) (wo : Nat) (di : Nat) (va : Int32) (vb : Int32) (vc : Int32) (vd : Int32) (len : Nat) (f : Nat → Int32) (fw : Nat → Int32) (fd : Nat → Int32) (fp : Nat → Int32) (hst : st < 4) (hgs : gs st = some sh) (hsl : sl ≤ ns) (hns : ns < 2 ^ 31) (hs40 : sl ≤ 64) : Met l y_DS_prove (Cond.code y_DS_prove b_DS_prove 3 (Option.some Jvm.ClassFile.FieldType.int) :: BIG) ({ frames := 4, cells := 0, slots := 0, locals := 130 }) (va_Pc [.ref ds, .int (nI st)] (fun U => U.heap.size = sz ∧ va_P (dC, dI) vcl [(ds, .inr (0, [.ref dr, .ref sv])), (dr, .inr (2, [.ref rr, .int (nI 20)])), (rr, .inl ((cT 0), 1000, .inl fp)), (sv, .inr (5, [.ref se, .ref pw, .ref g0, .ref ty, .ref an, .ref aw, .ref ts, .ref ss, .ref rq, .int tm, .int n3, .int n4])), (se, .inl ((cT 2), 4, .inr (.inr (.inr (.inr gs))))), (sh, .inr (1, [.ref sr, .int (nI sl)])), (sr, .inl ((cT 0), ns, .inl fs)), (g0, .inr (3, [.ref tx, .ref wo, .ref di, .int va, .int vb, .int vc, .int vd])), (tx, .inr (1, [.ref tr, .int (nI len)])), (tr, .inl ((cT 0), 1192, .inl f)), (wo, .inl ((cT 0), 16, .inl fw)), (di, .inl ((cT 0), 16, .inl fd))] U.heap ∧ va_K (dC, dI) vcl (tyL cT) U ∧ va_D (fun _ => True) [(ds, .inr (0, [.ref dr, .ref sv])), (dr, .inr (2, [.ref rr, .int (nI 20)])), (rr, .inl ((cT 0), 1000, .inl fp)), (sv, .inr (5, [.ref se, .ref pw, .ref g0, .ref ty, .ref an, .ref aw, .ref ts, .ref ss, .ref rq, .int tm, .int n3, .int n4])), (se, .inl ((cT 2), 4, .inr (.inr (.inr (.inr gs))))), (sh, .inr (1, [.ref sr, .int (nI sl)])), (sr, .inl ((cT 0), ns, .inl fs)), (g0, .inr (3, [.ref tx, .ref wo, .ref di, .int va, .int vb, .int vc, .int vd])), (tx, .inr (1, [.ref tr, .int (nI len)])), (tr, .inl ((cT 0), 1192, .inl f)), (wo, .inl ((cT 0), 16, .inl fw)), (di, .inl ((cT 0), 16, .inl fd))] ∧ xm (va_A [(ds, .inr (0, [.ref dr, .ref sv])), (dr, .inr (2, [.ref rr, .int (nI 20)])), (rr, .inl ((cT 0), 1000, .inl fp)), (sv, .inr (5, [.ref se, .ref pw, .ref g0, .ref ty, .ref an, .ref aw, .ref ts, .ref ss, .ref rq, .int tm, .int n3, .int n4])), (se, .inl ((cT 2), 4, .inr (.inr (.inr (.inr gs))))), (sh, .inr (1, [.ref sr, .int (nI sl)])), (sr, .inl ((cT 0), ns, .inl fs)), (g0, .inr (3, [.ref tx, .ref wo, .ref di, .int va, .int vb, .int vc, .int vd])), (tx, .inr (1, [.ref tr, .int (nI len)])), (tr, .inl ((cT 0), 1192, .inl f)), (wo, .inl ((cT 0), 16, .inl fw)), (di, .inl ((cT 0), 16, .inl fd))] sz) U U.heap)) (va_Qi (S := Unit) (fun r u => r = 38 ∧ (True)) (fun u t => va_P (dC, dI) vcl [] t.heap ∧ va_K (dC, dI) vcl (tyL cT) t ∧ va_D (va_A [(ds, .inr (0, [.ref dr, .ref sv])), (dr, .inr (2, [.ref rr, .int (nI 20)])), (rr, .inl ((cT 0), 1000, .inl fp)), (sv, .inr (5, [.ref se, .ref pw, .ref g0, .ref ty, .ref an, .ref aw, .ref ts, .ref ss, .ref rq, .int tm, .int n3, .int n4])), (se, .inl ((cT 2), 4, .inr (.inr (.inr (.inr gs))))), (sh, .inr (1, [.ref sr, .int (nI sl)])), (sr, .inl ((cT 0), ns, .inl fs)), (g0, .inr (3, [.ref tx, .ref wo, .ref di, .int va, .int vb, .int vc, .int vd])), (tx, .inr (1, [.ref tr, .int (nI len)])), (tr, .inl ((cT 0), 1192, .inl f)), (wo, .inl ((cT 0), 16, .inl fw)), (di, .inl ((cT 0), 16, .inl fd))] sz) []) (va_A [(ds, .inr (0, [.ref dr, .ref sv])), (dr, .inr (2, [.ref rr, .int (nI 20)])), (rr, .inl ((cT 0), 1000, .inl fp)), (sv, .inr (5, [.ref se, .ref pw, .ref g0, .ref ty, .ref an, .ref aw, .ref ts, .ref ss, .ref rq, .int tm, .int n3, .int n4])), (se, .inl ((cT 2), 4, .inr (.inr (.inr (.inr gs))))), (sh, .inr (1, [.ref sr, .int (nI sl)])), (sr, .inl ((cT 0), ns, .inl fs)), (g0, .inr (3, [.ref tx, .ref wo, .ref di, .int va, .int vb, .int vc, .int vd])), (tx, .inr (1, [.ref tr, .int (nI len)])), (tr, .inl ((cT 0), 1192, .inl f)), (wo, .inl ((cT 0), 16, .inl fw)), (di, .inl ((cT 0), 16, .inl fd))] sz)) 0 0 (va_A [(ds, .inr (0, [.ref dr, .ref sv])), (dr, .inr (2, [.ref rr, .int (nI 20)])), (rr, .inl ((cT 0), 1000, .inl fp)), (sv, .inr (5, [.ref se, .ref pw, .ref g0, .ref ty, .ref an, .ref aw, .ref ts, .ref ss, .ref rq, .int tm, .int n3, .int n4])), (se, .inl ((cT 2), 4, .inr (.inr (.inr (.inr gs))))), (sh, .inr (1, [.ref sr, .int (nI sl)])), (sr, .inl ((cT 0), ns, .inl fs)), (g0, .inr (3, [.ref tx, .ref wo, .ref di, .int va, .int vb, .int vc, .int vd])), (tx, .inr (1, [.ref tr, .int (nI len)])), (tr, .inl ((cT 0), 1192, .inl f)), (wo, .inl ((cT 0), 16, .inl fw)), (di, .inl ((cT 0), 16, .inl fd))] sz) := by
  refine Met.ofW (cc := b_DS_prove) (maxL := 3) (ret := (Option.some Jvm.ClassFile.FieldType.int)) (by decide) rfl ?_
  intro p e s m args below meth c s₁ B hml hv
  obtain ⟨hargs, hsz, hP, hK, hD0, hE⟩ := hv
  have hx := B.exec
  have hb := B.bytes
  have hr := B.returns
  have hts := atoms_spec (ws := (Cond.code y_DS_prove b_DS_prove 3 (Option.some Jvm.ClassFile.FieldType.int) :: BIG)) B.pre
  have hg : ∀ w ∈ BIG, w.before _ s = true := fun w h => hts w (List.mem_cons_of_mem _ h)
  have hown : s.vm.findClass "DoorServer" = some m.cls := findClass_of_methodNamed B.named
  have hlocks := B.notSynchronized
  subst hsz
  have hD := hD0.self (sz := s.heap.size)
  generalize hAe : va_A [(ds, .inr (0, [.ref dr, .ref sv])), (dr, .inr (2, [.ref rr, .int (nI 20)])), (rr, .inl ((cT 0), 1000, .inl fp)), (sv, .inr (5, [.ref se, .ref pw, .ref g0, .ref ty, .ref an, .ref aw, .ref ts, .ref ss, .ref rq, .int tm, .int n3, .int n4])), (se, .inl ((cT 2), 4, .inr (.inr (.inr (.inr gs))))), (sh, .inr (1, [.ref sr, .int (nI sl)])), (sr, .inl ((cT 0), ns, .inl fs)), (g0, .inr (3, [.ref tx, .ref wo, .ref di, .int va, .int vb, .int vc, .int vd])), (tx, .inr (1, [.ref tr, .int (nI len)])), (tr, .inl ((cT 0), 1192, .inl f)), (wo, .inl ((cT 0), 16, .inl fw)), (di, .inl ((cT 0), 16, .inl fd))] s.heap.size = A at hD hE ⊢
  have hA : ∀ q : Nat, s.heap.size ≤ q → A q := fun q h => by rw [← hAe]; exact Or.inr h
  have hS : va_S A s.heap s.heap [] := va_S.rf
  have hl := lv_entry ([.ref ds, .int (nI st)]) (n := 3) (Nat.le_of_ble_eq_true rfl)
  refine W.eq (g2 := entryFrame m (List.toArray [.ref ds, .int (nI st)]) 3) (by rw [hargs]) ?_
  rw [lg_entry_eq]
  generalize (lg_sl ([.ref ds, .int (nI st)]) ++ List.replicate (3 - (lg_sl ([.ref ds, .int (nI st)])).length) Slot.unset).toArray = ls at hl ⊢
  have hl : lv_has ls 3 [(0, .ref ds), (1, .int (nI st))] := hl
  change W p l e ({ frames := 4, cells := 0, slots := 0, locals := 130 } : Room) s m args below meth c s.heap [] 0 0 _ _
  have hP : va_P (dC, dI) vcl [(ds, .inr (0, [.ref dr, .ref sv])), (dr, .inr (2, [.ref rr, .int (nI 20)])), (rr, .inl ((cT 0), 1000, .inl fp)), (sv, .inr (5, [.ref se, .ref pw, .ref g0, .ref ty, .ref an, .ref aw, .ref ts, .ref ss, .ref rq, .int tm, .int n3, .int n4])), (se, .inl ((cT 2), 4, .inr (.inr (.inr (.inr gs))))), (sh, .inr (1, [.ref sr, .int (nI sl)])), (sr, .inl ((cT 0), ns, .inl fs)), (g0, .inr (3, [.ref tx, .ref wo, .ref di, .int va, .int vb, .int vc, .int vd])), (tx, .inr (1, [.ref tr, .int (nI len)])), (tr, .inl ((cT 0), 1192, .inl f)), (wo, .inl ((cT 0), 16, .inl fw)), (di, .inl ((cT 0), 16, .inl fd))] s.heap := hP
  refine lv_iload_n hx hb d_DS_prove_0 rfl (lv_at hl 1 rfl) ?_
  have hPc := hP.sub (ws' := []) [] rfl
  have hDc := hD.sub (ws' := []) [] (by decide) rfl
  have hFc := va_free (wc := []) hD hS hA [] rfl
  refine va_callv (va_runS (As := [.int (nI st)]) (rest := []) ⟨hx, hb, hml, hown, hg⟩ (c_requireStation l dC dI cT s.heap.size (nI st) (nI_pos (by omega)) (nI_nlt (a := 3) (by omega) (by decide))) (va_cwS 1 hg (gI (List.forall_mem_append.mpr ⟨List.forall_mem_cons.mpr ⟨k_387, List.forall_mem_cons.mpr ⟨k_388, List.forall_mem_cons.mpr ⟨k_1, fun _ h => absurd h List.not_mem_nil⟩⟩⟩, List.forall_mem_cons.mpr ⟨k_389, fun _ h => h⟩⟩)) rfl rfl rfl (by decide +kernel) ⟨Nat.le_of_ble_eq_true rfl, Nat.le_of_ble_eq_true rfl⟩) ⟨fun a U g mk q => by obtain ⟨q0, q1, qP, qK, qD⟩ := q; exact ⟨q0, q1, qP, va_K.moved (u := U) (U := U.calling g mk a) (Vm.Alike.refl U.vm) qK, qD⟩, fun U hU hW => ⟨rfl, by rw [hU], by rw [hU]; exact hPc, va_K.moved hW.alike hK, hDc.weaken (fun _ _ _ _ => trivial)⟩⟩ rfl rfl hl.1 rfl (lv_room (Nat.le_of_ble_eq_true rfl)) d_DS_prove_1 ⟨Nat.le_of_ble_eq_true rfl, Nat.le_of_ble_eq_true rfl⟩) hS (fun q _ h => hFc q h) hFc (fun u t H1 locs ht hvm hw hB hz1 hk1 hS => ?_)
  try dsimp only at hw hB
  obtain ⟨hP1, hK1, hD1⟩ := hB
  rw [ht] at hP1
  obtain ⟨hP, hD⟩ := va_join (wr := [(ds, .inr (0, [.ref dr, .ref sv])), (dr, .inr (2, [.ref rr, .int (nI 20)])), (rr, .inl ((cT 0), 1000, .inl fp)), (sv, .inr (5, [.ref se, .ref pw, .ref g0, .ref ty, .ref an, .ref aw, .ref ts, .ref ss, .ref rq, .int tm, .int n3, .int n4])), (se, .inl ((cT 2), 4, .inr (.inr (.inr (.inr gs))))), (sh, .inr (1, [.ref sr, .int (nI sl)])), (sr, .inl ((cT 0), ns, .inl fs)), (g0, .inr (3, [.ref tx, .ref wo, .ref di, .int va, .int vb, .int vc, .int vd])), (tx, .inr (1, [.ref tr, .int (nI len)])), (tr, .inl ((cT 0), 1192, .inl f)), (wo, .inl ((cT 0), 16, .inl fw)), (di, .inl ((cT 0), 16, .inl fd))]) (w1 := []) hP hD [] [0, 1, 2, 3, 4, 5, 6, 7, 8, 9, 10, 11] rfl rfl (by decide) (by decide) hk1 hFc hP1 hD1
  have hw28 := hw
  clear hPc hDc hFc hz1 hk1 hP1 hK1 hD1
  generalize H1 = H at hP hS ⊢
  have hP : va_P (dC, dI) vcl [(ds, .inr (0, [.ref dr, .ref sv])), (dr, .inr (2, [.ref rr, .int (nI 20)])), (rr, .inl ((cT 0), 1000, .inl fp)), (sv, .inr (5, [.ref se, .ref pw, .ref g0, .ref ty, .ref an, .ref aw, .ref ts, .ref ss, .ref rq, .int tm, .int n3, .int n4])), (se, .inl ((cT 2), 4, .inr (.inr (.inr (.inr gs))))), (sh, .inr (1, [.ref sr, .int (nI sl)])), (sr, .inl ((cT 0), ns, .inl fs)), (g0, .inr (3, [.ref tx, .ref wo, .ref di, .int va, .int vb, .int vc, .int vd])), (tx, .inr (1, [.ref tr, .int (nI len)])), (tr, .inl ((cT 0), 1192, .inl f)), (wo, .inl ((cT 0), 16, .inl fw)), (di, .inl ((cT 0), 16, .inl fd))] H := hP
  have hD : va_D A [(ds, .inr (0, [.ref dr, .ref sv])), (dr, .inr (2, [.ref rr, .int (nI 20)])), (rr, .inl ((cT 0), 1000, .inl fp)), (sv, .inr (5, [.ref se, .ref pw, .ref g0, .ref ty, .ref an, .ref aw, .ref ts, .ref ss, .ref rq, .int tm, .int n3, .int n4])), (se, .inl ((cT 2), 4, .inr (.inr (.inr (.inr gs))))), (sh, .inr (1, [.ref sr, .int (nI sl)])), (sr, .inl ((cT 0), ns, .inl fs)), (g0, .inr (3, [.ref tx, .ref wo, .ref di, .int va, .int vb, .int vc, .int vd])), (tx, .inr (1, [.ref tr, .int (nI len)])), (tr, .inl ((cT 0), 1192, .inl f)), (wo, .inl ((cT 0), 16, .inl fw)), (di, .inl ((cT 0), 16, .inl fd))] := hD
  refine lv_aload_n hx hb d_DS_prove_4 rfl (lv_at hl 0 rfl) ?_
  refine va_get (D := (dC, dI)) (ci := 0) (v := (.ref dr)) (C := R_DS) (T := F_DS) (N := 2) hx hb hg in_DS hown hK hP 0 rfl rfl 0 (by decide) (hg _ k_368) (fun _ h9 => h9) rfl d_DS_prove_5 ?_
  refine lv_bipush (v := 80) hx hb d_DS_prove_8 (by decide) ?_
  refine lv_bipush (v := 16) hx hb d_DS_prove_10 (by decide) ?_
  have hPc := hP.sub (ws' := [(dr, .inr (2, [.ref rr, .int (nI 20)])), (rr, .inl ((cT 0), 1000, .inl fp))]) [1, 2] rfl
  have hDc := hD.sub (ws' := [(dr, .inr (2, [.ref rr, .int (nI 20)])), (rr, .inl ((cT 0), 1000, .inl fp))]) [1, 2] (by decide) rfl
  have hFc := va_free (wc := [(dr, .inr (2, [.ref rr, .int (nI 20)])), (rr, .inl ((cT 0), 1000, .inl fp))]) hD hS hA [1, 2] rfl
  refine va_calli (va_runV (C := "DoorServer$Packet") (As := [.int 80, .int 16]) (rest := []) ⟨hx, hb, hml, hown, hg⟩ (c_Pk_find20 l dC dI cT H.size dr rr 1000 fp 80 16 ) (cwV 2 hg (gI (List.forall_mem_append.mpr ⟨List.forall_mem_cons.mpr ⟨k_640, List.forall_mem_cons.mpr ⟨k_641, List.forall_mem_cons.mpr ⟨k_642, List.forall_mem_cons.mpr ⟨k_3, fun _ h => absurd h List.not_mem_nil⟩⟩⟩⟩, List.forall_mem_cons.mpr ⟨k_643, fun _ h => h⟩⟩)) rfl rfl rfl (by decide +kernel) ⟨Nat.le_of_ble_eq_true rfl, Nat.le_of_ble_eq_true rfl⟩) ⟨fun a U g mk q => by obtain ⟨q0, q1, qP, qK, qD⟩ := q; exact ⟨q0, q1, qP, va_K.moved (u := U) (U := U.calling g mk a) (Vm.Alike.refl U.vm) qK, qD⟩, va_recv (q0 := 1) (ci := 2) hK hP rfl rfl, fun U hU hW => ⟨rfl, by rw [hU], by rw [hU]; exact hPc, va_K.moved hW.alike hK, hDc.weaken (fun _ _ _ _ => trivial)⟩⟩ rfl rfl hl.1 rfl (lv_room (Nat.le_of_ble_eq_true rfl)) d_DS_prove_12 ⟨Nat.le_of_ble_eq_true rfl, Nat.le_of_ble_eq_true rfl⟩) hS (fun q _ h => hFc q h) hFc (fun r u t H1 locs ht hvm hw hB hz1 hk1 hS => ?_)
  try dsimp only at hw hB
  obtain ⟨hP1, hK1, hD1⟩ := hB
  rw [ht] at hP1
  obtain ⟨rfl, hw⟩ := hw
  obtain ⟨hP, hD⟩ := va_join (wr := [(ds, .inr (0, [.ref dr, .ref sv])), (sv, .inr (5, [.ref se, .ref pw, .ref g0, .ref ty, .ref an, .ref aw, .ref ts, .ref ss, .ref rq, .int tm, .int n3, .int n4])), (se, .inl ((cT 2), 4, .inr (.inr (.inr (.inr gs))))), (sh, .inr (1, [.ref sr, .int (nI sl)])), (sr, .inl ((cT 0), ns, .inl fs)), (g0, .inr (3, [.ref tx, .ref wo, .ref di, .int va, .int vb, .int vc, .int vd])), (tx, .inr (1, [.ref tr, .int (nI len)])), (tr, .inl ((cT 0), 1192, .inl f)), (wo, .inl ((cT 0), 16, .inl fw)), (di, .inl ((cT 0), 16, .inl fd))]) (w1 := [(dr, .inr (2, [.ref rr, .int (nI 20)])), (rr, .inl ((cT 0), 1000, .inl fp))]) hP hD [1, 2] [0, 3, 4, 5, 6, 7, 8, 9, 10, 11] rfl rfl (by decide) (by decide) hk1 hFc hP1 hD1
  have hw29 := hw
  clear hPc hDc hFc hz1 hk1 hP1 hK1 hD1
  generalize H1 = H at hP hS ⊢
  have hP : va_P (dC, dI) vcl [(ds, .inr (0, [.ref dr, .ref sv])), (sv, .inr (5, [.ref se, .ref pw, .ref g0, .ref ty, .ref an, .ref aw, .ref ts, .ref ss, .ref rq, .int tm, .int n3, .int n4])), (se, .inl ((cT 2), 4, .inr (.inr (.inr (.inr gs))))), (sh, .inr (1, [.ref sr, .int (nI sl)])), (sr, .inl ((cT 0), ns, .inl fs)), (g0, .inr (3, [.ref tx, .ref wo, .ref di, .int va, .int vb, .int vc, .int vd])), (tx, .inr (1, [.ref tr, .int (nI len)])), (tr, .inl ((cT 0), 1192, .inl f)), (wo, .inl ((cT 0), 16, .inl fw)), (di, .inl ((cT 0), 16, .inl fd)), (dr, .inr (2, [.ref rr, .int (nI 20)])), (rr, .inl ((cT 0), 1000, .inl fp))] H := hP
  have hD : va_D A [(ds, .inr (0, [.ref dr, .ref sv])), (sv, .inr (5, [.ref se, .ref pw, .ref g0, .ref ty, .ref an, .ref aw, .ref ts, .ref ss, .ref rq, .int tm, .int n3, .int n4])), (se, .inl ((cT 2), 4, .inr (.inr (.inr (.inr gs))))), (sh, .inr (1, [.ref sr, .int (nI sl)])), (sr, .inl ((cT 0), ns, .inl fs)), (g0, .inr (3, [.ref tx, .ref wo, .ref di, .int va, .int vb, .int vc, .int vd])), (tx, .inr (1, [.ref tr, .int (nI len)])), (tr, .inl ((cT 0), 1192, .inl f)), (wo, .inl ((cT 0), 16, .inl fw)), (di, .inl ((cT 0), 16, .inl fd)), (dr, .inr (2, [.ref rr, .int (nI 20)])), (rr, .inl ((cT 0), 1000, .inl fp))] := hD
  refine lv_iconst (v := (-1)) hx hb d_DS_prove_15 (by decide) ?_
  refine lv_icmp_ne (tgt := 45) hx hb d_DS_prove_16 (by decide) (fun hn9 => absurd hn9 (by decide)) (fun hc30 => ?_)
  refine lv_aload_n hx hb d_DS_prove_19 rfl (lv_at hl 0 rfl) ?_
  refine lv_bipush (v := 16) hx hb d_DS_prove_20 (by decide) ?_
  refine lv_topi (fun x32 e31 => ?_)
  obtain rfl : x32 = nI 16 := by rw [e31]; rfl
  have hPc := hP.sub (ws' := [(ds, .inr (0, [.ref dr, .ref sv])), (dr, .inr (2, [.ref rr, .int (nI 20)])), (rr, .inl ((cT 0), 1000, .inl fp))]) [0, 10, 11] rfl
  have hDc := hD.sub (ws' := [(ds, .inr (0, [.ref dr, .ref sv])), (dr, .inr (2, [.ref rr, .int (nI 20)])), (rr, .inl ((cT 0), 1000, .inl fp))]) [0, 10, 11] (by decide) rfl
  have hFc := va_free (wc := [(ds, .inr (0, [.ref dr, .ref sv])), (dr, .inr (2, [.ref rr, .int (nI 20)])), (rr, .inl ((cT 0), 1000, .inl fp))]) hD hS hA [0, 10, 11] rfl
  refine va_callv (va_runV (C := "DoorServer") (As := [.int (nI 16)]) (rest := []) ⟨hx, hb, hml, hown, hg⟩ (c_room l dC dI cT H.size ds dr sv rr 20 fp 16 (by decide)) (cwV 1 hg (gI (List.forall_mem_append.mpr ⟨List.forall_mem_cons.mpr ⟨k_500, List.forall_mem_cons.mpr ⟨k_502, List.forall_mem_cons.mpr ⟨(big_sel (q := y_DS_requireRoom) (n := 2) (by decide +kernel)), List.forall_mem_cons.mpr ⟨k_1, fun _ h => absurd h List.not_mem_nil⟩⟩⟩⟩, List.forall_mem_cons.mpr ⟨k_503, fun _ h => h⟩⟩)) rfl rfl rfl (by decide +kernel) ⟨Nat.le_of_ble_eq_true rfl, Nat.le_of_ble_eq_true rfl⟩) ⟨fun a U g mk q => by obtain ⟨q0, q1, qP, qK, qD⟩ := q; exact ⟨q0, q1, qP, va_K.moved (u := U) (U := U.calling g mk a) (Vm.Alike.refl U.vm) qK, qD⟩, va_recv (q0 := 0) (ci := 0) hK hP rfl rfl, fun U hU hW => ⟨rfl, by rw [hU], by rw [hU]; exact hPc, va_K.moved hW.alike hK, hDc.weaken (fun _ _ _ _ => trivial)⟩⟩ rfl rfl hl.1 rfl (lv_room (Nat.le_of_ble_eq_true rfl)) d_DS_prove_22 ⟨Nat.le_of_ble_eq_true rfl, Nat.le_of_ble_eq_true rfl⟩) hS (fun q _ h => hFc q h) hFc (fun u t H1 locs ht hvm hw hB hz1 hk1 hS => ?_)
  try dsimp only at hw hB
  obtain ⟨hP1, hK1, hD1⟩ := hB
  rw [ht] at hP1
  obtain ⟨hP, hD⟩ := va_join (wr := [(sv, .inr (5, [.ref se, .ref pw, .ref g0, .ref ty, .ref an, .ref aw, .ref ts, .ref ss, .ref rq, .int tm, .int n3, .int n4])), (se, .inl ((cT 2), 4, .inr (.inr (.inr (.inr gs))))), (sh, .inr (1, [.ref sr, .int (nI sl)])), (sr, .inl ((cT 0), ns, .inl fs)), (g0, .inr (3, [.ref tx, .ref wo, .ref di, .int va, .int vb, .int vc, .int vd])), (tx, .inr (1, [.ref tr, .int (nI len)])), (tr, .inl ((cT 0), 1192, .inl f)), (wo, .inl ((cT 0), 16, .inl fw)), (di, .inl ((cT 0), 16, .inl fd))]) (w1 := [(ds, .inr (0, [.ref dr, .ref sv])), (dr, .inr (2, [.ref rr, .int (nI 20)])), (rr, .inl ((cT 0), 1000, .inl fp))]) hP hD [0, 10, 11] [1, 2, 3, 4, 5, 6, 7, 8, 9] rfl rfl (by decide) (by decide) hk1 hFc hP1 hD1
  have hw33 := hw
  clear hPc hDc hFc hz1 hk1 hP1 hK1 hD1
  generalize H1 = H at hP hS ⊢
  have hP : va_P (dC, dI) vcl [(sv, .inr (5, [.ref se, .ref pw, .ref g0, .ref ty, .ref an, .ref aw, .ref ts, .ref ss, .ref rq, .int tm, .int n3, .int n4])), (se, .inl ((cT 2), 4, .inr (.inr (.inr (.inr gs))))), (sh, .inr (1, [.ref sr, .int (nI sl)])), (sr, .inl ((cT 0), ns, .inl fs)), (g0, .inr (3, [.ref tx, .ref wo, .ref di, .int va, .int vb, .int vc, .int vd])), (tx, .inr (1, [.ref tr, .int (nI len)])), (tr, .inl ((cT 0), 1192, .inl f)), (wo, .inl ((cT 0), 16, .inl fw)), (di, .inl ((cT 0), 16, .inl fd)), (ds, .inr (0, [.ref dr, .ref sv])), (dr, .inr (2, [.ref rr, .int (nI 20)])), (rr, .inl ((cT 0), 1000, .inl fp))] H := hP
  have hD : va_D A [(sv, .inr (5, [.ref se, .ref pw, .ref g0, .ref ty, .ref an, .ref aw, .ref ts, .ref ss, .ref rq, .int tm, .int n3, .int n4])), (se, .inl ((cT 2), 4, .inr (.inr (.inr (.inr gs))))), (sh, .inr (1, [.ref sr, .int (nI sl)])), (sr, .inl ((cT 0), ns, .inl fs)), (g0, .inr (3, [.ref tx, .ref wo, .ref di, .int va, .int vb, .int vc, .int vd])), (tx, .inr (1, [.ref tr, .int (nI len)])), (tr, .inl ((cT 0), 1192, .inl f)), (wo, .inl ((cT 0), 16, .inl fw)), (di, .inl ((cT 0), 16, .inl fd)), (ds, .inr (0, [.ref dr, .ref sv])), (dr, .inr (2, [.ref rr, .int (nI 20)])), (rr, .inl ((cT 0), 1000, .inl fp))] := hD
  refine lv_aload_n hx hb d_DS_prove_25 rfl (lv_at hl 0 rfl) ?_
  refine va_get (D := (dC, dI)) (ci := 0) (v := (.ref dr)) (C := R_DS) (T := F_DS) (N := 2) hx hb hg in_DS hown hK hP 9 rfl rfl 0 (by decide) (hg _ k_368) (fun _ h9 => h9) rfl d_DS_prove_26 ?_
  refine lv_bipush (v := 80) hx hb d_DS_prove_29 (by decide) ?_
  refine lv_bipush (v := 16) hx hb d_DS_prove_31 (by decide) ?_
  have hPc := hP.sub (ws' := [(dr, .inr (2, [.ref rr, .int (nI 20)])), (rr, .inl ((cT 0), 1000, .inl fp))]) [10, 11] rfl
  have hDc := hD.sub (ws' := [(dr, .inr (2, [.ref rr, .int (nI 20)])), (rr, .inl ((cT 0), 1000, .inl fp))]) [10, 11] (by decide) rfl
  have hFc := va_free (wc := [(dr, .inr (2, [.ref rr, .int (nI 20)])), (rr, .inl ((cT 0), 1000, .inl fp))]) hD hS hA [10, 11] rfl
  refine va_callv (va_runV (C := "DoorServer$Packet") (As := [.int 80, .int 16]) (rest := []) ⟨hx, hb, hml, hown, hg⟩ (c_Pk_open l dC dI cT H.size dr rr 1000 20 fp 80 16 (by decide) (by decide)) (cwV 2 hg (gI (List.forall_mem_append.mpr ⟨List.forall_mem_cons.mpr ⟨k_519, List.forall_mem_cons.mpr ⟨k_520, List.forall_mem_cons.mpr ⟨k_521, List.forall_mem_cons.mpr ⟨k_3, fun _ h => absurd h List.not_mem_nil⟩⟩⟩⟩, List.forall_mem_cons.mpr ⟨k_522, fun _ h => h⟩⟩)) rfl rfl rfl (by decide +kernel) ⟨Nat.le_of_ble_eq_true rfl, Nat.le_of_ble_eq_true rfl⟩) ⟨fun a U g mk q => by obtain ⟨q0, q1, qP, qK, qD⟩ := q; exact ⟨q0, q1, qP, va_K.moved (u := U) (U := U.calling g mk a) (Vm.Alike.refl U.vm) qK, qD⟩, va_recv (q0 := 10) (ci := 2) hK hP rfl rfl, fun U hU hW => ⟨rfl, by rw [hU], by rw [hU]; exact hPc, va_K.moved hW.alike hK, hDc.weaken (fun _ _ _ _ => trivial)⟩⟩ rfl rfl hl.1 rfl (lv_room (Nat.le_of_ble_eq_true rfl)) d_DS_prove_33 ⟨Nat.le_of_ble_eq_true rfl, Nat.le_of_ble_eq_true rfl⟩) hS (fun q _ h => hFc q h) hFc (fun u t H1 locs ht hvm hw hB hz1 hk1 hS => ?_)
  try dsimp only at hw hB
  obtain ⟨hP1, hK1, hD1⟩ := hB
  rw [ht] at hP1
  obtain ⟨hP, hD⟩ := va_join (wr := [(sv, .inr (5, [.ref se, .ref pw, .ref g0, .ref ty, .ref an, .ref aw, .ref ts, .ref ss, .ref rq, .int tm, .int n3, .int n4])), (se, .inl ((cT 2), 4, .inr (.inr (.inr (.inr gs))))), (sh, .inr (1, [.ref sr, .int (nI sl)])), (sr, .inl ((cT 0), ns, .inl fs)), (g0, .inr (3, [.ref tx, .ref wo, .ref di, .int va, .int vb, .int vc, .int vd])), (tx, .inr (1, [.ref tr, .int (nI len)])), (tr, .inl ((cT 0), 1192, .inl f)), (wo, .inl ((cT 0), 16, .inl fw)), (di, .inl ((cT 0), 16, .inl fd)), (ds, .inr (0, [.ref dr, .ref sv]))]) (w1 := [(dr, .inr (2, [.ref rr, .int (nI ((20 + 1) + 1))])), (rr, .inl ((cT 0), 1000, .inl (upd (upd fp 20 (80 &&& 255)) (20 + 1) ((16 + 2) &&& 255))))]) hP hD [10, 11] [0, 1, 2, 3, 4, 5, 6, 7, 8, 9] rfl rfl (by decide) (by decide) hk1 hFc hP1 hD1
  have hw34 := hw
  clear hPc hDc hFc hz1 hk1 hP1 hK1 hD1
  generalize H1 = H at hP hS ⊢
  have hP : va_P (dC, dI) vcl [(sv, .inr (5, [.ref se, .ref pw, .ref g0, .ref ty, .ref an, .ref aw, .ref ts, .ref ss, .ref rq, .int tm, .int n3, .int n4])), (se, .inl ((cT 2), 4, .inr (.inr (.inr (.inr gs))))), (sh, .inr (1, [.ref sr, .int (nI sl)])), (sr, .inl ((cT 0), ns, .inl fs)), (g0, .inr (3, [.ref tx, .ref wo, .ref di, .int va, .int vb, .int vc, .int vd])), (tx, .inr (1, [.ref tr, .int (nI len)])), (tr, .inl ((cT 0), 1192, .inl f)), (wo, .inl ((cT 0), 16, .inl fw)), (di, .inl ((cT 0), 16, .inl fd)), (ds, .inr (0, [.ref dr, .ref sv])), (dr, .inr (2, [.ref rr, .int (nI ((20 + 1) + 1))])), (rr, .inl ((cT 0), 1000, .inl (upd (upd fp 20 (80 &&& 255)) (20 + 1) ((16 + 2) &&& 255))))] H := hP
  have hD : va_D A [(sv, .inr (5, [.ref se, .ref pw, .ref g0, .ref ty, .ref an, .ref aw, .ref ts, .ref ss, .ref rq, .int tm, .int n3, .int n4])), (se, .inl ((cT 2), 4, .inr (.inr (.inr (.inr gs))))), (sh, .inr (1, [.ref sr, .int (nI sl)])), (sr, .inl ((cT 0), ns, .inl fs)), (g0, .inr (3, [.ref tx, .ref wo, .ref di, .int va, .int vb, .int vc, .int vd])), (tx, .inr (1, [.ref tr, .int (nI len)])), (tr, .inl ((cT 0), 1192, .inl f)), (wo, .inl ((cT 0), 16, .inl fw)), (di, .inl ((cT 0), 16, .inl fd)), (ds, .inr (0, [.ref dr, .ref sv])), (dr, .inr (2, [.ref rr, .int (nI ((20 + 1) + 1))])), (rr, .inl ((cT 0), 1000, .inl (upd (upd fp 20 (80 &&& 255)) (20 + 1) ((16 + 2) &&& 255))))] := hD
  refine lv_aload_n hx hb d_DS_prove_36 rfl (lv_at hl 0 rfl) ?_
  refine va_get (D := (dC, dI)) (ci := 0) (v := (.ref dr)) (C := R_DS) (T := F_DS) (N := 2) hx hb hg in_DS hown hK hP 9 rfl rfl 0 (by decide) (hg _ k_368) (fun _ h9 => h9) rfl d_DS_prove_37 ?_
  refine lv_bipush (v := 16) hx hb d_DS_prove_40 (by decide) ?_
  refine lv_topi (fun x36 e35 => ?_)
  obtain rfl : x36 = nI 16 := by rw [e35]; rfl
  have hPc := hP.sub (ws' := [(dr, .inr (2, [.ref rr, .int (nI ((20 + 1) + 1))])), (rr, .inl ((cT 0), 1000, .inl (upd (upd fp 20 (80 &&& 255)) (20 + 1) ((16 + 2) &&& 255))))]) [10, 11] rfl
  have hDc := hD.sub (ws' := [(dr, .inr (2, [.ref rr, .int (nI ((20 + 1) + 1))])), (rr, .inl ((cT 0), 1000, .inl (upd (upd fp 20 (80 &&& 255)) (20 + 1) ((16 + 2) &&& 255))))]) [10, 11] (by decide) rfl
  have hFc := va_free (wc := [(dr, .inr (2, [.ref rr, .int (nI ((20 + 1) + 1))])), (rr, .inl ((cT 0), 1000, .inl (upd (upd fp 20 (80 &&& 255)) (20 + 1) ((16 + 2) &&& 255))))]) hD hS hA [10, 11] rfl
  refine va_callv (va_runU (C := "DoorServer$Packet") (owner := "DoorServer$Bytes") (x := y_Pk_appendZeros) (As := [.int (nI 16)]) (rest := []) ⟨hx, hb, hml, hown, hg⟩ (c_Pk_zeros l dC dI cT H.size dr rr 1000 ((20 + 1) + 1) (upd (upd fp 20 (80 &&& 255)) (20 + 1) ((16 + 2) &&& 255)) 16 (by decide) (by decide)) (va_cwU 1 hg (gI (List.forall_mem_append.mpr ⟨List.forall_mem_cons.mpr ⟨k_558, List.forall_mem_cons.mpr ⟨k_87, List.forall_mem_cons.mpr ⟨k_89, List.forall_mem_cons.mpr ⟨k_90, List.forall_mem_cons.mpr ⟨k_2, fun _ h => absurd h List.not_mem_nil⟩⟩⟩⟩⟩, List.forall_mem_cons.mpr ⟨k_91, fun _ h => h⟩⟩)) rfl rfl rfl rfl (by decide +kernel) ⟨Nat.le_of_ble_eq_true rfl, Nat.le_of_ble_eq_true rfl⟩) ⟨fun a U g mk q => by obtain ⟨q0, q1, qP, qK, qD⟩ := q; exact ⟨q0, q1, qP, va_K.moved (u := U) (U := U.calling g mk a) (Vm.Alike.refl U.vm) qK, qD⟩, va_recv (q0 := 10) (ci := 2) hK hP rfl rfl, fun U hU hW => ⟨rfl, by rw [hU], by rw [hU]; exact hPc, va_K.moved hW.alike hK, hDc.weaken (fun _ _ _ _ => trivial)⟩⟩ rfl rfl hl.1 rfl (lv_room (Nat.le_of_ble_eq_true rfl)) d_DS_prove_42 ⟨Nat.le_of_ble_eq_true rfl, Nat.le_of_ble_eq_true rfl⟩) hS (fun q _ h => hFc q h) hFc (fun u t H1 locs ht hvm hw hB hz1 hk1 hS => ?_)
  obtain ⟨g_37, rfl⟩ : ∃ z, z = u := ⟨_, rfl⟩
  try dsimp only at hw hB
  obtain ⟨hP1, hK1, hD1⟩ := hB
  rw [ht] at hP1
  obtain ⟨hP, hD⟩ := va_join (wr := [(sv, .inr (5, [.ref se, .ref pw, .ref g0, .ref ty, .ref an, .ref aw, .ref ts, .ref ss, .ref rq, .int tm, .int n3, .int n4])), (se, .inl ((cT 2), 4, .inr (.inr (.inr (.inr gs))))), (sh, .inr (1, [.ref sr, .int (nI sl)])), (sr, .inl ((cT 0), ns, .inl fs)), (g0, .inr (3, [.ref tx, .ref wo, .ref di, .int va, .int vb, .int vc, .int vd])), (tx, .inr (1, [.ref tr, .int (nI len)])), (tr, .inl ((cT 0), 1192, .inl f)), (wo, .inl ((cT 0), 16, .inl fw)), (di, .inl ((cT 0), 16, .inl fd)), (ds, .inr (0, [.ref dr, .ref sv]))]) (w1 := [(dr, .inr (2, [.ref rr, .int (nI (((20 + 1) + 1) + 16))])), (rr, .inl ((cT 0), 1000, .inl g_37))]) hP hD [10, 11] [0, 1, 2, 3, 4, 5, 6, 7, 8, 9] rfl rfl (by decide) (by decide) hk1 hFc hP1 hD1
  have hw38 := hw
  clear hPc hDc hFc hz1 hk1 hP1 hK1 hD1
  generalize H1 = H at hP hS ⊢
  have hP : va_P (dC, dI) vcl [(sv, .inr (5, [.ref se, .ref pw, .ref g0, .ref ty, .ref an, .ref aw, .ref ts, .ref ss, .ref rq, .int tm, .int n3, .int n4])), (se, .inl ((cT 2), 4, .inr (.inr (.inr (.inr gs))))), (sh, .inr (1, [.ref sr, .int (nI sl)])), (sr, .inl ((cT 0), ns, .inl fs)), (g0, .inr (3, [.ref tx, .ref wo, .ref di, .int va, .int vb, .int vc, .int vd])), (tx, .inr (1, [.ref tr, .int (nI len)])), (tr, .inl ((cT 0), 1192, .inl f)), (wo, .inl ((cT 0), 16, .inl fw)), (di, .inl ((cT 0), 16, .inl fd)), (ds, .inr (0, [.ref dr, .ref sv])), (dr, .inr (2, [.ref rr, .int (nI (((20 + 1) + 1) + 16))])), (rr, .inl ((cT 0), 1000, .inl g_37))] H := hP
  have hD : va_D A [(sv, .inr (5, [.ref se, .ref pw, .ref g0, .ref ty, .ref an, .ref aw, .ref ts, .ref ss, .ref rq, .int tm, .int n3, .int n4])), (se, .inl ((cT 2), 4, .inr (.inr (.inr (.inr gs))))), (sh, .inr (1, [.ref sr, .int (nI sl)])), (sr, .inl ((cT 0), ns, .inl fs)), (g0, .inr (3, [.ref tx, .ref wo, .ref di, .int va, .int vb, .int vc, .int vd])), (tx, .inr (1, [.ref tr, .int (nI len)])), (tr, .inl ((cT 0), 1192, .inl f)), (wo, .inl ((cT 0), 16, .inl fw)), (di, .inl ((cT 0), 16, .inl fd)), (ds, .inr (0, [.ref dr, .ref sv])), (dr, .inr (2, [.ref rr, .int (nI (((20 + 1) + 1) + 16))])), (rr, .inl ((cT 0), 1000, .inl g_37))] := hD
  have hP : va_P (dC, dI) vcl [(sv, .inr (5, [.ref se, .ref pw, .ref g0, .ref ty, .ref an, .ref aw, .ref ts, .ref ss, .ref rq, .int tm, .int n3, .int n4])), (se, .inl ((cT 2), 4, .inr (.inr (.inr (.inr gs))))), (sh, .inr (1, [.ref sr, .int (nI sl)])), (sr, .inl ((cT 0), ns, .inl fs)), (g0, .inr (3, [.ref tx, .ref wo, .ref di, .int va, .int vb, .int vc, .int vd])), (tx, .inr (1, [.ref tr, .int (nI len)])), (tr, .inl ((cT 0), 1192, .inl f)), (wo, .inl ((cT 0), 16, .inl fw)), (di, .inl ((cT 0), 16, .inl fd)), (ds, .inr (0, [.ref dr, .ref sv])), (dr, .inr (2, [.ref rr, .int (nI 38)])), (rr, .inl ((cT 0), 1000, .inl g_37))] H := hP
  have hD : va_D A [(sv, .inr (5, [.ref se, .ref pw, .ref g0, .ref ty, .ref an, .ref aw, .ref ts, .ref ss, .ref rq, .int tm, .int n3, .int n4])), (se, .inl ((cT 2), 4, .inr (.inr (.inr (.inr gs))))), (sh, .inr (1, [.ref sr, .int (nI sl)])), (sr, .inl ((cT 0), ns, .inl fs)), (g0, .inr (3, [.ref tx, .ref wo, .ref di, .int va, .int vb, .int vc, .int vd])), (tx, .inr (1, [.ref tr, .int (nI len)])), (tr, .inl ((cT 0), 1192, .inl f)), (wo, .inl ((cT 0), 16, .inl fw)), (di, .inl ((cT 0), 16, .inl fd)), (ds, .inr (0, [.ref dr, .ref sv])), (dr, .inr (2, [.ref rr, .int (nI 38)])), (rr, .inl ((cT 0), 1000, .inl g_37))] := hD
  refine lv_aload_n hx hb d_DS_prove_45 rfl (lv_at hl 0 rfl) ?_
  refine va_get (D := (dC, dI)) (ci := 0) (v := (.ref dr)) (C := R_DS) (T := F_DS) (N := 2) hx hb hg in_DS hown hK hP 9 rfl rfl 0 (by decide) (hg _ k_368) (fun _ h9 => h9) rfl d_DS_prove_46 ?_
  have hPc := hP.sub (ws' := [(dr, .inr (2, [.ref rr, .int (nI 38)])), (rr, .inl ((cT 0), 1000, .inl g_37))]) [10, 11] rfl
  have hDc := hD.sub (ws' := [(dr, .inr (2, [.ref rr, .int (nI 38)])), (rr, .inl ((cT 0), 1000, .inl g_37))]) [10, 11] (by decide) rfl
  have hFc := va_free (wc := [(dr, .inr (2, [.ref rr, .int (nI 38)])), (rr, .inl ((cT 0), 1000, .inl g_37))]) hD hS hA [10, 11] rfl
  refine va_callv (va_runV (C := "DoorServer$Packet") (As := []) (rest := []) ⟨hx, hb, hml, hown, hg⟩ (c_Pk_tell l dC dI cT H.size dr rr 1000 38 g_37 (by decide) (by decide)) (cwV 0 hg (gI (List.forall_mem_append.mpr ⟨List.forall_mem_cons.mpr ⟨k_528, List.forall_mem_cons.mpr ⟨k_529, List.forall_mem_cons.mpr ⟨k_530, List.forall_mem_cons.mpr ⟨k_3, fun _ h => absurd h List.not_mem_nil⟩⟩⟩⟩, List.forall_mem_cons.mpr ⟨k_531, fun _ h => h⟩⟩)) rfl rfl rfl (by decide +kernel) ⟨Nat.le_of_ble_eq_true rfl, Nat.le_of_ble_eq_true rfl⟩) ⟨fun a U g mk q => by obtain ⟨q0, q1, qP, qK, qD⟩ := q; exact ⟨q0, q1, qP, va_K.moved (u := U) (U := U.calling g mk a) (Vm.Alike.refl U.vm) qK, qD⟩, va_recv (q0 := 10) (ci := 2) hK hP rfl rfl, fun U hU hW => ⟨rfl, by rw [hU], by rw [hU]; exact hPc, va_K.moved hW.alike hK, hDc.weaken (fun _ _ _ _ => trivial)⟩⟩ rfl rfl hl.1 rfl (lv_room (Nat.le_of_ble_eq_true rfl)) d_DS_prove_49 ⟨Nat.le_of_ble_eq_true rfl, Nat.le_of_ble_eq_true rfl⟩) hS (fun q _ h => hFc q h) hFc (fun u t H1 locs ht hvm hw hB hz1 hk1 hS => ?_)
  try dsimp only at hw hB
  obtain ⟨hP1, hK1, hD1⟩ := hB
  rw [ht] at hP1
  obtain ⟨hP, hD⟩ := va_join (wr := [(sv, .inr (5, [.ref se, .ref pw, .ref g0, .ref ty, .ref an, .ref aw, .ref ts, .ref ss, .ref rq, .int tm, .int n3, .int n4])), (se, .inl ((cT 2), 4, .inr (.inr (.inr (.inr gs))))), (sh, .inr (1, [.ref sr, .int (nI sl)])), (sr, .inl ((cT 0), ns, .inl fs)), (g0, .inr (3, [.ref tx, .ref wo, .ref di, .int va, .int vb, .int vc, .int vd])), (tx, .inr (1, [.ref tr, .int (nI len)])), (tr, .inl ((cT 0), 1192, .inl f)), (wo, .inl ((cT 0), 16, .inl fw)), (di, .inl ((cT 0), 16, .inl fd)), (ds, .inr (0, [.ref dr, .ref sv]))]) (w1 := [(dr, .inr (2, [.ref rr, .int (nI 38)])), (rr, .inl ((cT 0), 1000, .inl (upd (upd g_37 2 (nI 38 >>> (8 &&& 31))) 3 (nI 38 &&& 255))))]) hP hD [10, 11] [0, 1, 2, 3, 4, 5, 6, 7, 8, 9] rfl rfl (by decide) (by decide) hk1 hFc hP1 hD1
  have hw39 := hw
  clear hPc hDc hFc hz1 hk1 hP1 hK1 hD1
  generalize H1 = H at hP hS ⊢
  have hP : va_P (dC, dI) vcl [(sv, .inr (5, [.ref se, .ref pw, .ref g0, .ref ty, .ref an, .ref aw, .ref ts, .ref ss, .ref rq, .int tm, .int n3, .int n4])), (se, .inl ((cT 2), 4, .inr (.inr (.inr (.inr gs))))), (sh, .inr (1, [.ref sr, .int (nI sl)])), (sr, .inl ((cT 0), ns, .inl fs)), (g0, .inr (3, [.ref tx, .ref wo, .ref di, .int va, .int vb, .int vc, .int vd])), (tx, .inr (1, [.ref tr, .int (nI len)])), (tr, .inl ((cT 0), 1192, .inl f)), (wo, .inl ((cT 0), 16, .inl fw)), (di, .inl ((cT 0), 16, .inl fd)), (ds, .inr (0, [.ref dr, .ref sv])), (dr, .inr (2, [.ref rr, .int (nI 38)])), (rr, .inl ((cT 0), 1000, .inl (upd (upd g_37 2 (nI 38 >>> (8 &&& 31))) 3 (nI 38 &&& 255))))] H := hP
  have hD : va_D A [(sv, .inr (5, [.ref se, .ref pw, .ref g0, .ref ty, .ref an, .ref aw, .ref ts, .ref ss, .ref rq, .int tm, .int n3, .int n4])), (se, .inl ((cT 2), 4, .inr (.inr (.inr (.inr gs))))), (sh, .inr (1, [.ref sr, .int (nI sl)])), (sr, .inl ((cT 0), ns, .inl fs)), (g0, .inr (3, [.ref tx, .ref wo, .ref di, .int va, .int vb, .int vc, .int vd])), (tx, .inr (1, [.ref tr, .int (nI len)])), (tr, .inl ((cT 0), 1192, .inl f)), (wo, .inl ((cT 0), 16, .inl fw)), (di, .inl ((cT 0), 16, .inl fd)), (ds, .inr (0, [.ref dr, .ref sv])), (dr, .inr (2, [.ref rr, .int (nI 38)])), (rr, .inl ((cT 0), 1000, .inl (upd (upd g_37 2 (nI 38 >>> (8 &&& 31))) 3 (nI 38 &&& 255))))] := hD
  refine lv_aload_n hx hb d_DS_prove_52 rfl (lv_at hl 0 rfl) ?_
  have hPc := hP.sub (ws' := [(ds, .inr (0, [.ref dr, .ref sv])), (dr, .inr (2, [.ref rr, .int (nI 38)])), (rr, .inl ((cT 0), 1000, .inl (upd (upd g_37 2 (nI 38 >>> (8 &&& 31))) 3 (nI 38 &&& 255))))]) [9, 10, 11] rfl
  have hDc := hD.sub (ws' := [(ds, .inr (0, [.ref dr, .ref sv])), (dr, .inr (2, [.ref rr, .int (nI 38)])), (rr, .inl ((cT 0), 1000, .inl (upd (upd g_37 2 (nI 38 >>> (8 &&& 31))) 3 (nI 38 &&& 255))))]) [9, 10, 11] (by decide) rfl
  have hFc := va_free (wc := [(ds, .inr (0, [.ref dr, .ref sv])), (dr, .inr (2, [.ref rr, .int (nI 38)])), (rr, .inl ((cT 0), 1000, .inl (upd (upd g_37 2 (nI 38 >>> (8 &&& 31))) 3 (nI 38 &&& 255))))]) hD hS hA [9, 10, 11] rfl
  refine va_calli (va_runV (C := "DoorServer") (As := []) (rest := []) ⟨hx, hb, hml, hown, hg⟩ (c_first l dC dI cT H.size ds dr sv rr (upd (upd g_37 2 (nI 38 >>> (8 &&& 31))) 3 (nI 38 &&& 255)) (by rw [pk_un (by decide), pk_un (by decide), hw38 20 (by decide)]; rfl) (by rw [pk_un (by decide), pk_un (by decide), hw38 21 (by decide)]; rfl)) (cwV 0 hg (gI (List.forall_mem_append.mpr ⟨List.forall_mem_cons.mpr ⟨k_644, List.forall_mem_cons.mpr ⟨k_646, List.forall_mem_cons.mpr ⟨(big_sel (q := y_DS_firstProof) (n := 2) (by decide +kernel)), List.forall_mem_cons.mpr ⟨k_1, fun _ h => absurd h List.not_mem_nil⟩⟩⟩⟩, List.forall_mem_cons.mpr ⟨k_647, fun _ h => h⟩⟩)) rfl rfl rfl (by decide +kernel) ⟨Nat.le_of_ble_eq_true rfl, Nat.le_of_ble_eq_true rfl⟩) ⟨fun a U g mk q => by obtain ⟨q0, q1, qP, qK, qD⟩ := q; exact ⟨q0, q1, qP, va_K.moved (u := U) (U := U.calling g mk a) (Vm.Alike.refl U.vm) qK, qD⟩, va_recv (q0 := 9) (ci := 0) hK hP rfl rfl, fun U hU hW => ⟨rfl, by rw [hU], by rw [hU]; exact hPc, va_K.moved hW.alike hK, hDc.weaken (fun _ _ _ _ => trivial)⟩⟩ rfl rfl hl.1 rfl (lv_room (Nat.le_of_ble_eq_true rfl)) d_DS_prove_53 ⟨Nat.le_of_ble_eq_true rfl, Nat.le_of_ble_eq_true rfl⟩) hS (fun q _ h => hFc q h) hFc (fun r u t H1 locs ht hvm hw hB hz1 hk1 hS => ?_)
  try dsimp only at hw hB
  obtain ⟨hP1, hK1, hD1⟩ := hB
  rw [ht] at hP1
  obtain ⟨rfl, hw⟩ := hw
  obtain ⟨hP, hD⟩ := va_join (wr := [(sv, .inr (5, [.ref se, .ref pw, .ref g0, .ref ty, .ref an, .ref aw, .ref ts, .ref ss, .ref rq, .int tm, .int n3, .int n4])), (se, .inl ((cT 2), 4, .inr (.inr (.inr (.inr gs))))), (sh, .inr (1, [.ref sr, .int (nI sl)])), (sr, .inl ((cT 0), ns, .inl fs)), (g0, .inr (3, [.ref tx, .ref wo, .ref di, .int va, .int vb, .int vc, .int vd])), (tx, .inr (1, [.ref tr, .int (nI len)])), (tr, .inl ((cT 0), 1192, .inl f)), (wo, .inl ((cT 0), 16, .inl fw)), (di, .inl ((cT 0), 16, .inl fd))]) (w1 := [(ds, .inr (0, [.ref dr, .ref sv])), (dr, .inr (2, [.ref rr, .int (nI 38)])), (rr, .inl ((cT 0), 1000, .inl (upd (upd g_37 2 (nI 38 >>> (8 &&& 31))) 3 (nI 38 &&& 255))))]) hP hD [9, 10, 11] [0, 1, 2, 3, 4, 5, 6, 7, 8] rfl rfl (by decide) (by decide) hk1 hFc hP1 hD1
  have hw40 := hw
  clear hPc hDc hFc hz1 hk1 hP1 hK1 hD1
  generalize H1 = H at hP hS ⊢
  have hP : va_P (dC, dI) vcl [(sv, .inr (5, [.ref se, .ref pw, .ref g0, .ref ty, .ref an, .ref aw, .ref ts, .ref ss, .ref rq, .int tm, .int n3, .int n4])), (se, .inl ((cT 2), 4, .inr (.inr (.inr (.inr gs))))), (sh, .inr (1, [.ref sr, .int (nI sl)])), (sr, .inl ((cT 0), ns, .inl fs)), (g0, .inr (3, [.ref tx, .ref wo, .ref di, .int va, .int vb, .int vc, .int vd])), (tx, .inr (1, [.ref tr, .int (nI len)])), (tr, .inl ((cT 0), 1192, .inl f)), (wo, .inl ((cT 0), 16, .inl fw)), (di, .inl ((cT 0), 16, .inl fd)), (ds, .inr (0, [.ref dr, .ref sv])), (dr, .inr (2, [.ref rr, .int (nI 38)])), (rr, .inl ((cT 0), 1000, .inl (upd (upd g_37 2 (nI 38 >>> (8 &&& 31))) 3 (nI 38 &&& 255))))] H := hP
  have hD : va_D A [(sv, .inr (5, [.ref se, .ref pw, .ref g0, .ref ty, .ref an, .ref aw, .ref ts, .ref ss, .ref rq, .int tm, .int n3, .int n4])), (se, .inl ((cT 2), 4, .inr (.inr (.inr (.inr gs))))), (sh, .inr (1, [.ref sr, .int (nI sl)])), (sr, .inl ((cT 0), ns, .inl fs)), (g0, .inr (3, [.ref tx, .ref wo, .ref di, .int va, .int vb, .int vc, .int vd])), (tx, .inr (1, [.ref tr, .int (nI len)])), (tr, .inl ((cT 0), 1192, .inl f)), (wo, .inl ((cT 0), 16, .inl fw)), (di, .inl ((cT 0), 16, .inl fd)), (ds, .inr (0, [.ref dr, .ref sv])), (dr, .inr (2, [.ref rr, .int (nI 38)])), (rr, .inl ((cT 0), 1000, .inl (upd (upd g_37 2 (nI 38 >>> (8 &&& 31))) 3 (nI 38 &&& 255))))] := hD
  refine lv_topi (fun x42 e41 => ?_)
  obtain rfl : x42 = nI 22 := by rw [e41]; rfl
  refine lv_istore_n (lv' := [(2, .int (nI 22)), (0, .ref ds), (1, .int (nI st))]) hx hb d_DS_prove_56 rfl hl (by decide) rfl (fun ls hl => ?_)
  refine lv_aload_n hx hb d_DS_prove_57 rfl (lv_at hl 1 rfl) ?_
  refine va_get (D := (dC, dI)) (ci := 0) (v := (.ref dr)) (C := R_DS) (T := F_DS) (N := 2) hx hb hg in_DS hown hK hP 9 rfl rfl 0 (by decide) (hg _ k_368) (fun _ h9 => h9) rfl d_DS_prove_58 ?_
  refine lv_iload_n hx hb d_DS_prove_61 rfl (lv_at hl 0 rfl) ?_
  refine lv_aload_n hx hb d_DS_prove_62 rfl (lv_at hl 1 rfl) ?_
  refine va_get (D := (dC, dI)) (ci := 0) (v := (.ref sv)) (C := R_DS) (T := F_DS) (N := 2) hx hb hg in_DS hown hK hP 9 rfl rfl 1 (by decide) (hg _ k_369) (fun _ h9 => h9) rfl d_DS_prove_63 ?_
  refine va_get (D := (dC, dI)) (ci := 5) (v := (.ref g0)) (C := R_Sv) (T := F_Sv) (N := 12) hx hb hg in_Sv hown hK hP 0 rfl rfl 2 (by decide) (hg _ k_325) (fun _ h9 => h9) rfl d_DS_prove_66 ?_
  refine lv_aload_n hx hb d_DS_prove_69 rfl (lv_at hl 1 rfl) ?_
  refine va_get (D := (dC, dI)) (ci := 0) (v := (.ref sv)) (C := R_DS) (T := F_DS) (N := 2) hx hb hg in_DS hown hK hP 9 rfl rfl 1 (by decide) (hg _ k_369) (fun _ h9 => h9) rfl d_DS_prove_70 ?_
  refine va_get (D := (dC, dI)) (ci := 5) (v := (.ref se)) (C := R_Sv) (T := F_Sv) (N := 12) hx hb hg in_Sv hown hK hP 0 rfl rfl 0 (by decide) (hg _ k_321) (fun _ h9 => h9) rfl d_DS_prove_73 ?_
  refine lv_iload_n hx hb d_DS_prove_76 rfl (lv_at hl 2 rfl) ?_
  refine va_aldq hx hb hK hP 1 2 rfl rfl (i := (nI st)) (vp_in_nI (N := 4) hst (by decide)) d_DS_prove_77 ?_
  rw [show va_rf (gs (nI st).toNatClampNeg) = .ref sh from by rw [nI_clamp (by omega), hgs]; rfl]
  refine lv_aload_n hx hb d_DS_prove_78 rfl (lv_at hl 1 rfl) ?_
  refine va_get (D := (dC, dI)) (ci := 0) (v := (.ref dr)) (C := R_DS) (T := F_DS) (N := 2) hx hb hg in_DS hown hK hP 9 rfl rfl 0 (by decide) (hg _ k_368) (fun _ h9 => h9) rfl d_DS_prove_79 ?_
  refine lv_iload_n hx hb d_DS_prove_82 rfl (lv_at hl 0 rfl) ?_
  have hPc := hP.sub (ws' := [(g0, .inr (3, [.ref tx, .ref wo, .ref di, .int va, .int vb, .int vc, .int vd])), (tx, .inr (1, [.ref tr, .int (nI len)])), (tr, .inl ((cT 0), 1192, .inl f)), (wo, .inl ((cT 0), 16, .inl fw)), (di, .inl ((cT 0), 16, .inl fd)), (sh, .inr (1, [.ref sr, .int (nI sl)])), (sr, .inl ((cT 0), ns, .inl fs)), (dr, .inr (2, [.ref rr, .int (nI 38)])), (rr, .inl ((cT 0), 1000, .inl (upd (upd g_37 2 (nI 38 >>> (8 &&& 31))) 3 (nI 38 &&& 255))))]) [4, 5, 6, 7, 8, 2, 3, 10, 11] rfl
  have hDc := hD.sub (ws' := [(g0, .inr (3, [.ref tx, .ref wo, .ref di, .int va, .int vb, .int vc, .int vd])), (tx, .inr (1, [.ref tr, .int (nI len)])), (tr, .inl ((cT 0), 1192, .inl f)), (wo, .inl ((cT 0), 16, .inl fw)), (di, .inl ((cT 0), 16, .inl fd)), (sh, .inr (1, [.ref sr, .int (nI sl)])), (sr, .inl ((cT 0), ns, .inl fs)), (dr, .inr (2, [.ref rr, .int (nI 38)])), (rr, .inl ((cT 0), 1000, .inl (upd (upd g_37 2 (nI 38 >>> (8 &&& 31))) 3 (nI 38 &&& 255))))]) [4, 5, 6, 7, 8, 2, 3, 10, 11] (by decide) rfl
  have hFc := va_free (wc := [(g0, .inr (3, [.ref tx, .ref wo, .ref di, .int va, .int vb, .int vc, .int vd])), (tx, .inr (1, [.ref tr, .int (nI len)])), (tr, .inl ((cT 0), 1192, .inl f)), (wo, .inl ((cT 0), 16, .inl fw)), (di, .inl ((cT 0), 16, .inl fd)), (sh, .inr (1, [.ref sr, .int (nI sl)])), (sr, .inl ((cT 0), ns, .inl fs)), (dr, .inr (2, [.ref rr, .int (nI 38)])), (rr, .inl ((cT 0), 1000, .inl (upd (upd g_37 2 (nI 38 >>> (8 &&& 31))) 3 (nI 38 &&& 255))))]) hD hS hA [4, 5, 6, 7, 8, 2, 3, 10, 11] rfl
  refine va_callr (va_runV (C := "DoorServer$Digests") (As := [.ref sh, .ref dr, .int (nI 22)]) (rest := [.int (nI 22), .ref dr]) ⟨hx, hb, hml, hown, hg⟩ (c_Dg_proof l dC dI cT H.size g0 tx tr wo di va vb vc vd len f fw fd sh sr ns sl fs dr rr 1000 38 (upd (upd g_37 2 (nI 38 >>> (8 &&& 31))) 3 (nI 38 &&& 255)) 22 (hsl) (hns) (by decide) (by decide) (by decide) (by decide)) (cwV 3 hg (gI (List.forall_mem_append.mpr ⟨List.forall_mem_cons.mpr ⟨k_648, List.forall_mem_cons.mpr ⟨k_649, List.forall_mem_cons.mpr ⟨k_650, List.forall_mem_cons.mpr ⟨k_5, fun _ h => absurd h List.not_mem_nil⟩⟩⟩⟩, List.forall_mem_cons.mpr ⟨k_651, fun _ h => h⟩⟩)) rfl rfl rfl (by decide +kernel) ⟨Nat.le_of_ble_eq_true rfl, Nat.le_of_ble_eq_true rfl⟩) ⟨fun a U g mk q => by obtain ⟨q0, q1, qP, qK, qD, qE⟩ := q; exact ⟨q0, q1, qP, va_K.moved (u := U) (U := U.calling g mk a) (Vm.Alike.refl U.vm) qK, qD, qE.at (State.WarmedH.refl _) (fun _ _ _ => rfl) (fun _ h => h)⟩, va_recv (q0 := 4) (ci := 3) hK hP rfl rfl, fun U hU hW => ⟨rfl, by rw [hU], by rw [hU]; exact hPc, va_K.moved hW.alike hK, hDc.weaken (fun _ _ _ _ => trivial), by rw [hU]; exact hE.at hW hS.2.1 hFc⟩⟩ rfl rfl hl.1 rfl (lv_room (Nat.le_of_ble_eq_true rfl)) d_DS_prove_83 ⟨Nat.le_of_ble_eq_true rfl, Nat.le_of_ble_eq_true rfl⟩) hS (fun q _ h => hFc q h) hFc (fun u a9 t H1 locs ht hvm hw hB hz1 hk1 hS => ?_)
  obtain ⟨fw2_43, fd2_44, a2_45, b2_46, c2_47, d2_48, f2_49⟩ := u
  try dsimp only at hw hB
  obtain ⟨rfl, hP1, hK1, hD1⟩ := hB
  rw [ht] at hP1
  obtain ⟨hP, hD⟩ := va_join (wr := [(sv, .inr (5, [.ref se, .ref pw, .ref g0, .ref ty, .ref an, .ref aw, .ref ts, .ref ss, .ref rq, .int tm, .int n3, .int n4])), (se, .inl ((cT 2), 4, .inr (.inr (.inr (.inr gs))))), (ds, .inr (0, [.ref dr, .ref sv]))]) (w1 := [(g0, .inr (3, [.ref tx, .ref wo, .ref di, .int a2_45, .int b2_46, .int c2_47, .int d2_48])), (tx, .inr (1, [.ref tr, .int (nI 80)])), (tr, .inl ((cT 0), 1192, .inl f2_49)), (wo, .inl ((cT 0), 16, .inl fw2_43)), (di, .inl ((cT 0), 16, .inl fd2_44)), (sh, .inr (1, [.ref sr, .int (nI sl)])), (sr, .inl ((cT 0), ns, .inl fs)), (dr, .inr (2, [.ref rr, .int (nI 38)])), (rr, .inl ((cT 0), 1000, .inl (upd (upd g_37 2 (nI 38 >>> (8 &&& 31))) 3 (nI 38 &&& 255))))]) hP hD [4, 5, 6, 7, 8, 2, 3, 10, 11] [0, 1, 9] rfl rfl (by decide) (by decide) hk1 hFc hP1 hD1
  have hw50 := hw
  clear hPc hDc hFc hz1 hk1 hP1 hK1 hD1
  generalize H1 = H at hP hS ⊢
  have hP : va_P (dC, dI) vcl [(sv, .inr (5, [.ref se, .ref pw, .ref g0, .ref ty, .ref an, .ref aw, .ref ts, .ref ss, .ref rq, .int tm, .int n3, .int n4])), (se, .inl ((cT 2), 4, .inr (.inr (.inr (.inr gs))))), (ds, .inr (0, [.ref dr, .ref sv])), (g0, .inr (3, [.ref tx, .ref wo, .ref di, .int a2_45, .int b2_46, .int c2_47, .int d2_48])), (tx, .inr (1, [.ref tr, .int (nI 80)])), (tr, .inl ((cT 0), 1192, .inl f2_49)), (wo, .inl ((cT 0), 16, .inl fw2_43)), (di, .inl ((cT 0), 16, .inl fd2_44)), (sh, .inr (1, [.ref sr, .int (nI sl)])), (sr, .inl ((cT 0), ns, .inl fs)), (dr, .inr (2, [.ref rr, .int (nI 38)])), (rr, .inl ((cT 0), 1000, .inl (upd (upd g_37 2 (nI 38 >>> (8 &&& 31))) 3 (nI 38 &&& 255))))] H := hP
  have hD : va_D A [(sv, .inr (5, [.ref se, .ref pw, .ref g0, .ref ty, .ref an, .ref aw, .ref ts, .ref ss, .ref rq, .int tm, .int n3, .int n4])), (se, .inl ((cT 2), 4, .inr (.inr (.inr (.inr gs))))), (ds, .inr (0, [.ref dr, .ref sv])), (g0, .inr (3, [.ref tx, .ref wo, .ref di, .int a2_45, .int b2_46, .int c2_47, .int d2_48])), (tx, .inr (1, [.ref tr, .int (nI 80)])), (tr, .inl ((cT 0), 1192, .inl f2_49)), (wo, .inl ((cT 0), 16, .inl fw2_43)), (di, .inl ((cT 0), 16, .inl fd2_44)), (sh, .inr (1, [.ref sr, .int (nI sl)])), (sr, .inl ((cT 0), ns, .inl fs)), (dr, .inr (2, [.ref rr, .int (nI 38)])), (rr, .inl ((cT 0), 1000, .inl (upd (upd g_37 2 (nI 38 >>> (8 &&& 31))) 3 (nI 38 &&& 255))))] := hD
  have hPc := hP.sub (ws' := [(dr, .inr (2, [.ref rr, .int (nI 38)])), (rr, .inl ((cT 0), 1000, .inl (upd (upd g_37 2 (nI 38 >>> (8 &&& 31))) 3 (nI 38 &&& 255)))), (di, .inl ((cT 0), 16, .inl fd2_44))]) [10, 11, 7] rfl
  have hDc := hD.sub (ws' := [(dr, .inr (2, [.ref rr, .int (nI 38)])), (rr, .inl ((cT 0), 1000, .inl (upd (upd g_37 2 (nI 38 >>> (8 &&& 31))) 3 (nI 38 &&& 255)))), (di, .inl ((cT 0), 16, .inl fd2_44))]) [10, 11, 7] (by decide) rfl
  have hFc := va_free (wc := [(dr, .inr (2, [.ref rr, .int (nI 38)])), (rr, .inl ((cT 0), 1000, .inl (upd (upd g_37 2 (nI 38 >>> (8 &&& 31))) 3 (nI 38 &&& 255)))), (di, .inl ((cT 0), 16, .inl fd2_44))]) hD hS hA [10, 11, 7] rfl
  refine va_callv (va_runV (C := "DoorServer$Packet") (As := [.int (nI 22), .ref di]) (rest := []) ⟨hx, hb, hml, hown, hg⟩ (c_Pk_write l dC dI cT H.size dr rr 1000 38 (upd (upd g_37 2 (nI 38 >>> (8 &&& 31))) 3 (nI 38 &&& 255)) di fd2_44 22 (by decide) (by decide)) (cwV 2 hg (gI (List.forall_mem_append.mpr ⟨List.forall_mem_cons.mpr ⟨k_660, List.forall_mem_cons.mpr ⟨k_661, List.forall_mem_cons.mpr ⟨k_662, List.forall_mem_cons.mpr ⟨k_3, fun _ h => absurd h List.not_mem_nil⟩⟩⟩⟩, List.forall_mem_cons.mpr ⟨k_663, fun _ h => h⟩⟩)) rfl rfl rfl (by decide +kernel) ⟨Nat.le_of_ble_eq_true rfl, Nat.le_of_ble_eq_true rfl⟩) ⟨fun a U g mk q => by obtain ⟨q0, q1, qP, qK, qD⟩ := q; exact ⟨q0, q1, qP, va_K.moved (u := U) (U := U.calling g mk a) (Vm.Alike.refl U.vm) qK, qD⟩, va_recv (q0 := 10) (ci := 2) hK hP rfl rfl, fun U hU hW => ⟨rfl, by rw [hU], by rw [hU]; exact hPc, va_K.moved hW.alike hK, hDc.weaken (fun _ _ _ _ => trivial)⟩⟩ rfl rfl hl.1 rfl (lv_room (Nat.le_of_ble_eq_true rfl)) d_DS_prove_86 ⟨Nat.le_of_ble_eq_true rfl, Nat.le_of_ble_eq_true rfl⟩) hS (fun q _ h => hFc q h) hFc (fun u t H1 locs ht hvm hw hB hz1 hk1 hS => ?_)
  obtain ⟨g_51, rfl⟩ : ∃ z, z = u := ⟨_, rfl⟩
  try dsimp only at hw hB
  obtain ⟨hP1, hK1, hD1⟩ := hB
  rw [ht] at hP1
  obtain ⟨hP, hD⟩ := va_join (wr := [(sv, .inr (5, [.ref se, .ref pw, .ref g0, .ref ty, .ref an, .ref aw, .ref ts, .ref ss, .ref rq, .int tm, .int n3, .int n4])), (se, .inl ((cT 2), 4, .inr (.inr (.inr (.inr gs))))), (ds, .inr (0, [.ref dr, .ref sv])), (g0, .inr (3, [.ref tx, .ref wo, .ref di, .int a2_45, .int b2_46, .int c2_47, .int d2_48])), (tx, .inr (1, [.ref tr, .int (nI 80)])), (tr, .inl ((cT 0), 1192, .inl f2_49)), (wo, .inl ((cT 0), 16, .inl fw2_43)), (sh, .inr (1, [.ref sr, .int (nI sl)])), (sr, .inl ((cT 0), ns, .inl fs))]) (w1 := [(dr, .inr (2, [.ref rr, .int (nI 38)])), (rr, .inl ((cT 0), 1000, .inl g_51)), (di, .inl ((cT 0), 16, .inl fd2_44))]) hP hD [10, 11, 7] [0, 1, 2, 3, 4, 5, 6, 8, 9] rfl rfl (by decide) (by decide) hk1 hFc hP1 hD1
  have hw52 := hw
  clear hPc hDc hFc hz1 hk1 hP1 hK1 hD1
  generalize H1 = H at hP hS ⊢
  have hP : va_P (dC, dI) vcl [(sv, .inr (5, [.ref se, .ref pw, .ref g0, .ref ty, .ref an, .ref aw, .ref ts, .ref ss, .ref rq, .int tm, .int n3, .int n4])), (se, .inl ((cT 2), 4, .inr (.inr (.inr (.inr gs))))), (ds, .inr (0, [.ref dr, .ref sv])), (g0, .inr (3, [.ref tx, .ref wo, .ref di, .int a2_45, .int b2_46, .int c2_47, .int d2_48])), (tx, .inr (1, [.ref tr, .int (nI 80)])), (tr, .inl ((cT 0), 1192, .inl f2_49)), (wo, .inl ((cT 0), 16, .inl fw2_43)), (sh, .inr (1, [.ref sr, .int (nI sl)])), (sr, .inl ((cT 0), ns, .inl fs)), (dr, .inr (2, [.ref rr, .int (nI 38)])), (rr, .inl ((cT 0), 1000, .inl g_51)), (di, .inl ((cT 0), 16, .inl fd2_44))] H := hP
  have hD : va_D A [(sv, .inr (5, [.ref se, .ref pw, .ref g0, .ref ty, .ref an, .ref aw, .ref ts, .ref ss, .ref rq, .int tm, .int n3, .int n4])), (se, .inl ((cT 2), 4, .inr (.inr (.inr (.inr gs))))), (ds, .inr (0, [.ref dr, .ref sv])), (g0, .inr (3, [.ref tx, .ref wo, .ref di, .int a2_45, .int b2_46, .int c2_47, .int d2_48])), (tx, .inr (1, [.ref tr, .int (nI 80)])), (tr, .inl ((cT 0), 1192, .inl f2_49)), (wo, .inl ((cT 0), 16, .inl fw2_43)), (sh, .inr (1, [.ref sr, .int (nI sl)])), (sr, .inl ((cT 0), ns, .inl fs)), (dr, .inr (2, [.ref rr, .int (nI 38)])), (rr, .inl ((cT 0), 1000, .inl g_51)), (di, .inl ((cT 0), 16, .inl fd2_44))] := hD
  refine lv_aload_n hx hb d_DS_prove_89 rfl (lv_at hl 1 rfl) ?_
  refine va_get (D := (dC, dI)) (ci := 0) (v := (.ref dr)) (C := R_DS) (T := F_DS) (N := 2) hx hb hg in_DS hown hK hP 2 rfl rfl 0 (by decide) (hg _ k_368) (fun _ h9 => h9) rfl d_DS_prove_90 ?_
  refine va_get (D := (dC, dI)) (ci := 2) (v := (.int (nI 38))) (C := R_Pk) (T := F_Pk) (N := 2) hx hb hg in_Pk hown hK hP 9 rfl rfl 1 (by decide) (hg _ k_59) (fun x9 h9 => u_same (hg _ k_53) x9 h9) rfl d_DS_prove_93 ?_
  refine lv_topi (fun x54 e53 => ?_)
  obtain rfl : x54 = 38 := by rw [e53]; rfl
  have hP9 := hP.sub (ws' := []) [] rfl
  have hD9 := hD.sub (ws' := []) [] (by decide) rfl
  exact W.iret (v := 38) hx hb hr (fun t ht hW => ⟨⟨_, (), rfl, ⟨rfl, trivial⟩, by rw [ht]; exact hP9, va_K.moved hW.alike hK, hD9⟩, hS.F ht⟩) hS.2.2 d_DS_prove_96
set_option maxHeartbeats 4000000 in
set_option maxRecDepth 100000 in
/-- password -/
theorem c_password (l : Launch) (dC : Nat → ClassId) (dI : Nat → Nat → Nat) (cT : Nat → ClassId) (sz : Nat) (ds : Nat) (dr : Nat) (sv : Nat) (rr : Nat) (se : Nat) (pw : Nat) (ty : Nat) (an : Nat) (aw : Nat) (ts : Nat) (ss : Nat) (rq : Nat) (tm : Int32) (n3 : Int32) (n4 : Int32) (sh : Nat) (sr : Nat) (ns : Nat) (sl : Nat) (fs : Nat → Int32) (gs : Nat → Option Nat) (st : Nat) (g0 : Nat) (tx : Nat) (tr : Nat) (wo : Nat) (di : Nat) (va : Int32) (vb : Int32) (vc : Int32) (vd : Int32) (len : Nat) (f : Nat → Int32) (fw : Nat → Int32) (fd : Nat → Int32) (fp : Nat → Int32) (v : Int64) (k : Nat) (hst : st < 4) (hgs : gs st = some sh) (hsl : sl ≤ ns) (hns : ns < 2 ^ 31) (hs40 : sl ≤ 64) (hk1 : 1 ≤ k) (hk2 : k ≤ 60) : Met l y_DS_password (Cond.code y_DS_password b_DS_password 7 (Option.some Jvm.ClassFile.FieldType.int) :: BIG) ({ frames := 5, cells := 0, slots := 0, locals := 164 }) (va_Pc [.ref ds, .int (nI st), .long v, .int (nI k)] (fun U => U.heap.size = sz ∧ va_P (dC, dI) vcl [(ds, .inr (0, [.ref dr, .ref sv])), (dr, .inr (2, [.ref rr, .int (nI 20)])), (rr, .inl ((cT 0), 1000, .inl fp)), (sv, .inr (5, [.ref se, .ref pw, .ref g0, .ref ty, .ref an, .ref aw, .ref ts, .ref ss, .ref rq, .int tm, .int n3, .int n4])), (se, .inl ((cT 2), 4, .inr (.inr (.inr (.inr gs))))), (sh, .inr (1, [.ref sr, .int (nI sl)])), (sr, .inl ((cT 0), ns, .inl fs)), (g0, .inr (3, [.ref tx, .ref wo, .ref di, .int va, .int vb, .int vc, .int vd])), (tx, .inr (1, [.ref tr, .int (nI len)])), (tr, .inl ((cT 0), 1192, .inl f)), (wo, .inl ((cT 0), 16, .inl fw)), (di, .inl ((cT 0), 16, .inl fd))] U.heap ∧ va_K (dC, dI) vcl (tyL cT) U ∧ va_D (fun _ => True) [(ds, .inr (0, [.ref dr, .ref sv])), (dr, .inr (2, [.ref rr, .int (nI 20)])), (rr, .inl ((cT 0), 1000, .inl fp)), (sv, .inr (5, [.ref se, .ref pw, .ref g0, .ref ty, .ref an, .ref aw, .ref ts, .ref ss, .ref rq, .int tm, .int n3, .int n4])), (se, .inl ((cT 2), 4, .inr (.inr (.inr (.inr gs))))), (sh, .inr (1, [.ref sr, .int (nI sl)])), (sr, .inl ((cT 0), ns, .inl fs)), (g0, .inr (3, [.ref tx, .ref wo, .ref di, .int va, .int vb, .int vc, .int vd])), (tx, .inr (1, [.ref tr, .int (nI len)])), (tr, .inl ((cT 0), 1192, .inl f)), (wo, .inl ((cT 0), 16, .inl fw)), (di, .inl ((cT 0), 16, .inl fd))] ∧ xm (va_A [(ds, .inr (0, [.ref dr, .ref sv])), (dr, .inr (2, [.ref rr, .int (nI 20)])), (rr, .inl ((cT 0), 1000, .inl fp)), (sv, .inr (5, [.ref se, .ref pw, .ref g0, .ref ty, .ref an, .ref aw, .ref ts, .ref ss, .ref rq, .int tm, .int n3, .int n4])), (se, .inl ((cT 2), 4, .inr (.inr (.inr (.inr gs))))), (sh, .inr (1, [.ref sr, .int (nI sl)])), (sr, .inl ((cT 0), ns, .inl fs)), (g0, .inr (3, [.ref tx, .ref wo, .ref di, .int va, .int vb, .int vc, .int vd])), (tx, .inr (1, [.ref tr, .int (nI len)])), (tr, .inl ((cT 0), 1192, .inl f)), (wo, .inl ((cT 0), 16, .inl fw)), (di, .inl ((cT 0), 16, .inl fd))] sz) U U.heap)) (va_Qi (S := Unit) (fun r u => r = nI (22 + (k + 15) / 16 * 16) ∧ (True)) (fun u t => va_P (dC, dI) vcl [] t.heap ∧ va_K (dC, dI) vcl (tyL cT) t ∧ va_D (va_A [(ds, .inr (0, [.ref dr, .ref sv])), (dr, .inr (2, [.ref rr, .int (nI 20)])), (rr, .inl ((cT 0), 1000, .inl fp)), (sv, .inr (5, [.ref se, .ref pw, .ref g0, .ref ty, .ref an, .ref aw, .ref ts, .ref ss, .ref rq, .int tm, .int n3, .int n4])), (se, .inl ((cT 2), 4, .inr (.inr (.inr (.inr gs))))), (sh, .inr (1, [.ref sr, .int (nI sl)])), (sr, .inl ((cT 0), ns, .inl fs)), (g0, .inr (3, [.ref tx, .ref wo, .ref di, .int va, .int vb, .int vc, .int vd])), (tx, .inr (1, [.ref tr, .int (nI len)])), (tr, .inl ((cT 0), 1192, .inl f)), (wo, .inl ((cT 0), 16, .inl fw)), (di, .inl ((cT 0), 16, .inl fd))] sz) []) (va_A [(ds, .inr (0, [.ref dr, .ref sv])), (dr, .inr (2, [.ref rr, .int (nI 20)])), (rr, .inl ((cT 0), 1000, .inl fp)), (sv, .inr (5, [.ref se, .ref pw, .ref g0, .ref ty, .ref an, .ref aw, .ref ts, .ref ss, .ref rq, .int tm, .int n3, .int n4])), (se, .inl ((cT 2), 4, .inr (.inr (.inr (.inr gs))))), (sh, .inr (1, [.ref sr, .int (nI sl)])), (sr, .inl ((cT 0), ns, .inl fs)), (g0, .inr (3, [.ref tx, .ref wo, .ref di, .int va, .int vb, .int vc, .int vd])), (tx, .inr (1, [.ref tr, .int (nI len)])), (tr, .inl ((cT 0), 1192, .inl f)), (wo, .inl ((cT 0), 16, .inl fw)), (di, .inl ((cT 0), 16, .inl fd))] sz)) 0 0 (va_A [(ds, .inr (0, [.ref dr, .ref sv])), (dr, .inr (2, [.ref rr, .int (nI 20)])), (rr, .inl ((cT 0), 1000, .inl fp)), (sv, .inr (5, [.ref se, .ref pw, .ref g0, .ref ty, .ref an, .ref aw, .ref ts, .ref ss, .ref rq, .int tm, .int n3, .int n4])), (se, .inl ((cT 2), 4, .inr (.inr (.inr (.inr gs))))), (sh, .inr (1, [.ref sr, .int (nI sl)])), (sr, .inl ((cT 0), ns, .inl fs)), (g0, .inr (3, [.ref tx, .ref wo, .ref di, .int va, .int vb, .int vc, .int vd])), (tx, .inr (1, [.ref tr, .int (nI len)])), (tr, .inl ((cT 0), 1192, .inl f)), (wo, .inl ((cT 0), 16, .inl fw)), (di, .inl ((cT 0), 16, .inl fd))] sz) := by
  refine Met.ofW (cc := b_DS_password) (maxL := 7) (ret := (Option.some Jvm.ClassFile.FieldType.int)) (by decide) rfl ?_
  intro p e s m args below meth c s₁ B hml hv
  obtain ⟨hargs, hsz, hP, hK, hD0, hE⟩ := hv
  have hx := B.exec
  have hb := B.bytes
  have hr := B.returns
  have hts := atoms_spec (ws := (Cond.code y_DS_password b_DS_password 7 (Option.some Jvm.ClassFile.FieldType.int) :: BIG)) B.pre
  have hg : ∀ w ∈ BIG, w.before _ s = true := fun w h => hts w (List.mem_cons_of_mem _ h)
  have hown : s.vm.findClass "DoorServer" = some m.cls := findClass_of_methodNamed B.named
  have hlocks := B.notSynchronized
  subst hsz
  have hD := hD0.self (sz := s.heap.size)
  generalize hAe : va_A [(ds, .inr (0, [.ref dr, .ref sv])), (dr, .inr (2, [.ref rr, .int (nI 20)])), (rr, .inl ((cT 0), 1000, .inl fp)), (sv, .inr (5, [.ref se, .ref pw, .ref g0, .ref ty, .ref an, .ref aw, .ref ts, .ref ss, .ref rq, .int tm, .int n3, .int n4])), (se, .inl ((cT 2), 4, .inr (.inr (.inr (.inr gs))))), (sh, .inr (1, [.ref sr, .int (nI sl)])), (sr, .inl ((cT 0), ns, .inl fs)), (g0, .inr (3, [.ref tx, .ref wo, .ref di, .int va, .int vb, .int vc, .int vd])), (tx, .inr (1, [.ref tr, .int (nI len)])), (tr, .inl ((cT 0), 1192, .inl f)), (wo, .inl ((cT 0), 16, .inl fw)), (di, .inl ((cT 0), 16, .inl fd))] s.heap.size = A at hD hE ⊢
  have hA : ∀ q : Nat, s.heap.size ≤ q → A q := fun q h => by rw [← hAe]; exact Or.inr h
  have hS : va_S A s.heap s.heap [] := va_S.rf
  have hl := lv_entry ([.ref ds, .int (nI st), .long v, .int (nI k)]) (n := 7) (Nat.le_of_ble_eq_true rfl)
  refine W.eq (g2 := entryFrame m (List.toArray [.ref ds, .int (nI st), .long v, .int (nI k)]) 7) (by rw [hargs]) ?_
  rw [lg_entry_eq]
  generalize (lg_sl ([.ref ds, .int (nI st), .long v, .int (nI k)]) ++ List.replicate (7 - (lg_sl ([.ref ds, .int (nI st), .long v, .int (nI k)])).length) Slot.unset).toArray = ls at hl ⊢
  have hl : lv_has ls 7 [(0, .ref ds), (1, .int (nI st)), (2, .long v), (4, .int (nI k))] := hl
  change W p l e ({ frames := 5, cells := 0, slots := 0, locals := 164 } : Room) s m args below meth c s.heap [] 0 0 _ _
  have hP : va_P (dC, dI) vcl [(ds, .inr (0, [.ref dr, .ref sv])), (dr, .inr (2, [.ref rr, .int (nI 20)])), (rr, .inl ((cT 0), 1000, .inl fp)), (sv, .inr (5, [.ref se, .ref pw, .ref g0, .ref ty, .ref an, .ref aw, .ref ts, .ref ss, .ref rq, .int tm, .int n3, .int n4])), (se, .inl ((cT 2), 4, .inr (.inr (.inr (.inr gs))))), (sh, .inr (1, [.ref sr, .int (nI sl)])), (sr, .inl ((cT 0), ns, .inl fs)), (g0, .inr (3, [.ref tx, .ref wo, .ref di, .int va, .int vb, .int vc, .int vd])), (tx, .inr (1, [.ref tr, .int (nI len)])), (tr, .inl ((cT 0), 1192, .inl f)), (wo, .inl ((cT 0), 16, .inl fw)), (di, .inl ((cT 0), 16, .inl fd))] s.heap := hP
  refine lv_iload_n hx hb d_DS_password_0 rfl (lv_at hl 1 rfl) ?_
  have hPc := hP.sub (ws' := []) [] rfl
  have hDc := hD.sub (ws' := []) [] (by decide) rfl
  have hFc := va_free (wc := []) hD hS hA [] rfl
  refine va_callv (va_runS (As := [.int (nI st)]) (rest := []) ⟨hx, hb, hml, hown, hg⟩ (c_requireStation l dC dI cT s.heap.size (nI st) (nI_pos (by omega)) (nI_nlt (a := 3) (by omega) (by decide))) (va_cwS 1 hg (gI (List.forall_mem_append.mpr ⟨List.forall_mem_cons.mpr ⟨k_387, List.forall_mem_cons.mpr ⟨k_388, List.forall_mem_cons.mpr ⟨k_1, fun _ h => absurd h List.not_mem_nil⟩⟩⟩, List.forall_mem_cons.mpr ⟨k_389, fun _ h => h⟩⟩)) rfl rfl rfl (by decide +kernel) ⟨Nat.le_of_ble_eq_true rfl, Nat.le_of_ble_eq_true rfl⟩) ⟨fun a U g mk q => by obtain ⟨q0, q1, qP, qK, qD⟩ := q; exact ⟨q0, q1, qP, va_K.moved (u := U) (U := U.calling g mk a) (Vm.Alike.refl U.vm) qK, qD⟩, fun U hU hW => ⟨rfl, by rw [hU], by rw [hU]; exact hPc, va_K.moved hW.alike hK, hDc.weaken (fun _ _ _ _ => trivial)⟩⟩ rfl rfl hl.1 rfl (lv_room (Nat.le_of_ble_eq_true rfl)) d_DS_password_1 ⟨Nat.le_of_ble_eq_true rfl, Nat.le_of_ble_eq_true rfl⟩) hS (fun q _ h => hFc q h) hFc (fun u t H1 locs ht hvm hw hB hz1 hk1 hS => ?_)
  try dsimp only at hw hB
  obtain ⟨hP1, hK1, hD1⟩ := hB
  rw [ht] at hP1
  obtain ⟨hP, hD⟩ := va_join (wr := [(ds, .inr (0, [.ref dr, .ref sv])), (dr, .inr (2, [.ref rr, .int (nI 20)])), (rr, .inl ((cT 0), 1000, .inl fp)), (sv, .inr (5, [.ref se, .ref pw, .ref g0, .ref ty, .ref an, .ref aw, .ref ts, .ref ss, .ref rq, .int tm, .int n3, .int n4])), (se, .inl ((cT 2), 4, .inr (.inr (.inr (.inr gs))))), (sh, .inr (1, [.ref sr, .int (nI sl)])), (sr, .inl ((cT 0), ns, .inl fs)), (g0, .inr (3, [.ref tx, .ref wo, .ref di, .int va, .int vb, .int vc, .int vd])), (tx, .inr (1, [.ref tr, .int (nI len)])), (tr, .inl ((cT 0), 1192, .inl f)), (wo, .inl ((cT 0), 16, .inl fw)), (di, .inl ((cT 0), 16, .inl fd))]) (w1 := []) hP hD [] [0, 1, 2, 3, 4, 5, 6, 7, 8, 9, 10, 11] rfl rfl (by decide) (by decide) hk1 hFc hP1 hD1
  have hw55 := hw
  clear hPc hDc hFc hz1 hk1 hP1 hK1 hD1
  generalize H1 = H at hP hS ⊢
  have hP : va_P (dC, dI) vcl [(ds, .inr (0, [.ref dr, .ref sv])), (dr, .inr (2, [.ref rr, .int (nI 20)])), (rr, .inl ((cT 0), 1000, .inl fp)), (sv, .inr (5, [.ref se, .ref pw, .ref g0, .ref ty, .ref an, .ref aw, .ref ts, .ref ss, .ref rq, .int tm, .int n3, .int n4])), (se, .inl ((cT 2), 4, .inr (.inr (.inr (.inr gs))))), (sh, .inr (1, [.ref sr, .int (nI sl)])), (sr, .inl ((cT 0), ns, .inl fs)), (g0, .inr (3, [.ref tx, .ref wo, .ref di, .int va, .int vb, .int vc, .int vd])), (tx, .inr (1, [.ref tr, .int (nI len)])), (tr, .inl ((cT 0), 1192, .inl f)), (wo, .inl ((cT 0), 16, .inl fw)), (di, .inl ((cT 0), 16, .inl fd))] H := hP
  have hD : va_D A [(ds, .inr (0, [.ref dr, .ref sv])), (dr, .inr (2, [.ref rr, .int (nI 20)])), (rr, .inl ((cT 0), 1000, .inl fp)), (sv, .inr (5, [.ref se, .ref pw, .ref g0, .ref ty, .ref an, .ref aw, .ref ts, .ref ss, .ref rq, .int tm, .int n3, .int n4])), (se, .inl ((cT 2), 4, .inr (.inr (.inr (.inr gs))))), (sh, .inr (1, [.ref sr, .int (nI sl)])), (sr, .inl ((cT 0), ns, .inl fs)), (g0, .inr (3, [.ref tx, .ref wo, .ref di, .int va, .int vb, .int vc, .int vd])), (tx, .inr (1, [.ref tr, .int (nI len)])), (tr, .inl ((cT 0), 1192, .inl f)), (wo, .inl ((cT 0), 16, .inl fw)), (di, .inl ((cT 0), 16, .inl fd))] := hD
  refine lv_iload hx hb d_DS_password_4 (lv_at hl 3 rfl) ?_
  refine lv_iconst (v := 1) hx hb d_DS_password_6 (by decide) ?_
  refine lv_bipush (v := 60) hx hb d_DS_password_7 (by decide) ?_
  have hPc := hP.sub (ws' := []) [] rfl
  have hDc := hD.sub (ws' := []) [] (by decide) rfl
  have hFc := va_free (wc := []) hD hS hA [] rfl
  refine va_callv (va_runS (As := [.int (nI k), .int 1, .int 60]) (rest := []) ⟨hx, hb, hml, hown, hg⟩ (c_requireWithin l dC dI cT H.size (nI k) 1 60 (nI_nlt (b := 1) hk1 (by omega)) (nI_nlt (a := 60) hk2 (by decide))) (va_cwS 3 hg (gI (List.forall_mem_append.mpr ⟨List.forall_mem_cons.mpr ⟨k_390, List.forall_mem_cons.mpr ⟨k_391, List.forall_mem_cons.mpr ⟨k_1, fun _ h => absurd h List.not_mem_nil⟩⟩⟩, List.forall_mem_cons.mpr ⟨k_392, fun _ h => h⟩⟩)) rfl rfl rfl (by decide +kernel) ⟨Nat.le_of_ble_eq_true rfl, Nat.le_of_ble_eq_true rfl⟩) ⟨fun a U g mk q => by obtain ⟨q0, q1, qP, qK, qD⟩ := q; exact ⟨q0, q1, qP, va_K.moved (u := U) (U := U.calling g mk a) (Vm.Alike.refl U.vm) qK, qD⟩, fun U hU hW => ⟨rfl, by rw [hU], by rw [hU]; exact hPc, va_K.moved hW.alike hK, hDc.weaken (fun _ _ _ _ => trivial)⟩⟩ rfl rfl hl.1 rfl (lv_room (Nat.le_of_ble_eq_true rfl)) d_DS_password_9 ⟨Nat.le_of_ble_eq_true rfl, Nat.le_of_ble_eq_true rfl⟩) hS (fun q _ h => hFc q h) hFc (fun u t H1 locs ht hvm hw hB hz1 hk1 hS => ?_)
  try dsimp only at hw hB
  obtain ⟨hP1, hK1, hD1⟩ := hB
  rw [ht] at hP1
  obtain ⟨hP, hD⟩ := va_join (wr := [(ds, .inr (0, [.ref dr, .ref sv])), (dr, .inr (2, [.ref rr, .int (nI 20)])), (rr, .inl ((cT 0), 1000, .inl fp)), (sv, .inr (5, [.ref se, .ref pw, .ref g0, .ref ty, .ref an, .ref aw, .ref ts, .ref ss, .ref rq, .int tm, .int n3, .int n4])), (se, .inl ((cT 2), 4, .inr (.inr (.inr (.inr gs))))), (sh, .inr (1, [.ref sr, .int (nI sl)])), (sr, .inl ((cT 0), ns, .inl fs)), (g0, .inr (3, [.ref tx, .ref wo, .ref di, .int va, .int vb, .int vc, .int vd])), (tx, .inr (1, [.ref tr, .int (nI len)])), (tr, .inl ((cT 0), 1192, .inl f)), (wo, .inl ((cT 0), 16, .inl fw)), (di, .inl ((cT 0), 16, .inl fd))]) (w1 := []) hP hD [] [0, 1, 2, 3, 4, 5, 6, 7, 8, 9, 10, 11] rfl rfl (by decide) (by decide) hk1 hFc hP1 hD1
  have hw56 := hw
  clear hPc hDc hFc hz1 hk1 hP1 hK1 hD1
  generalize H1 = H at hP hS ⊢
  have hP : va_P (dC, dI) vcl [(ds, .inr (0, [.ref dr, .ref sv])), (dr, .inr (2, [.ref rr, .int (nI 20)])), (rr, .inl ((cT 0), 1000, .inl fp)), (sv, .inr (5, [.ref se, .ref pw, .ref g0, .ref ty, .ref an, .ref aw, .ref ts, .ref ss, .ref rq, .int tm, .int n3, .int n4])), (se, .inl ((cT 2), 4, .inr (.inr (.inr (.inr gs))))), (sh, .inr (1, [.ref sr, .int (nI sl)])), (sr, .inl ((cT 0), ns, .inl fs)), (g0, .inr (3, [.ref tx, .ref wo, .ref di, .int va, .int vb, .int vc, .int vd])), (tx, .inr (1, [.ref tr, .int (nI len)])), (tr, .inl ((cT 0), 1192, .inl f)), (wo, .inl ((cT 0), 16, .inl fw)), (di, .inl ((cT 0), 16, .inl fd))] H := hP
  have hD : va_D A [(ds, .inr (0, [.ref dr, .ref sv])), (dr, .inr (2, [.ref rr, .int (nI 20)])), (rr, .inl ((cT 0), 1000, .inl fp)), (sv, .inr (5, [.ref se, .ref pw, .ref g0, .ref ty, .ref an, .ref aw, .ref ts, .ref ss, .ref rq, .int tm, .int n3, .int n4])), (se, .inl ((cT 2), 4, .inr (.inr (.inr (.inr gs))))), (sh, .inr (1, [.ref sr, .int (nI sl)])), (sr, .inl ((cT 0), ns, .inl fs)), (g0, .inr (3, [.ref tx, .ref wo, .ref di, .int va, .int vb, .int vc, .int vd])), (tx, .inr (1, [.ref tr, .int (nI len)])), (tr, .inl ((cT 0), 1192, .inl f)), (wo, .inl ((cT 0), 16, .inl fw)), (di, .inl ((cT 0), 16, .inl fd))] := hD
  refine lv_iload hx hb d_DS_password_12 (lv_at hl 3 rfl) ?_
  refine lv_bipush (v := 15) hx hb d_DS_password_14 (by decide) ?_
  refine lv_iadd hx hb d_DS_password_16 ?_
  refine lv_topi (fun x58 e57 => ?_)
  obtain rfl : x58 = nI (k + 15) := by rw [e57]; exact nI_add k 15
  refine lv_bipush (v := 16) hx hb d_DS_password_17 (by decide) ?_
  refine lv_idiv hx hb d_DS_password_19 (by decide) ?_
  refine lv_topi (fun x60 e59 => ?_)
  obtain rfl : x60 = nI ((k + 15) / 16) := by rw [e59]; exact pk_div (d := 16) (by omega) (by decide) (by decide)
  refine lv_bipush (v := 16) hx hb d_DS_password_20 (by decide) ?_
  refine lv_imul hx hb d_DS_password_22 ?_
  refine lv_topi (fun x62 e61 => ?_)
  obtain rfl : x62 = nI ((k + 15) / 16 * 16) := by rw [e61]; exact pk_mul _ 16
  obtain ⟨nb, hnb⟩ : ∃ nb, nb = (k + 15) / 16 := ⟨_, rfl⟩
  rw [← hnb]
  have hnb2 : k ≤ nb * 16 ∧ nb * 16 ≤ 64 := by omega
  refine lv_istore (lv' := [(5, .int (nI (nb * 16))), (0, .ref ds), (1, .int (nI st)), (2, .long v), (4, .int (nI k))]) hx hb d_DS_password_23 hl (by decide) rfl (fun ls hl => ?_)
  refine lv_aload_n hx hb d_DS_password_25 rfl (lv_at hl 1 rfl) ?_
  refine lv_iload hx hb d_DS_password_26 (lv_at hl 0 rfl) ?_
  have hPc := hP.sub (ws' := [(ds, .inr (0, [.ref dr, .ref sv])), (dr, .inr (2, [.ref rr, .int (nI 20)])), (rr, .inl ((cT 0), 1000, .inl fp))]) [0, 1, 2] rfl
  have hDc := hD.sub (ws' := [(ds, .inr (0, [.ref dr, .ref sv])), (dr, .inr (2, [.ref rr, .int (nI 20)])), (rr, .inl ((cT 0), 1000, .inl fp))]) [0, 1, 2] (by decide) rfl
  have hFc := va_free (wc := [(ds, .inr (0, [.ref dr, .ref sv])), (dr, .inr (2, [.ref rr, .int (nI 20)])), (rr, .inl ((cT 0), 1000, .inl fp))]) hD hS hA [0, 1, 2] rfl
  refine va_callv (va_runV (C := "DoorServer") (As := [.int (nI (nb * 16))]) (rest := []) ⟨hx, hb, hml, hown, hg⟩ (c_room l dC dI cT H.size ds dr sv rr 20 fp (nb * 16) (by omega)) (cwV 1 hg (gI (List.forall_mem_append.mpr ⟨List.forall_mem_cons.mpr ⟨k_500, List.forall_mem_cons.mpr ⟨k_502, List.forall_mem_cons.mpr ⟨(big_sel (q := y_DS_requireRoom) (n := 2) (by decide +kernel)), List.forall_mem_cons.mpr ⟨k_1, fun _ h => absurd h List.not_mem_nil⟩⟩⟩⟩, List.forall_mem_cons.mpr ⟨k_503, fun _ h => h⟩⟩)) rfl rfl rfl (by decide +kernel) ⟨Nat.le_of_ble_eq_true rfl, Nat.le_of_ble_eq_true rfl⟩) ⟨fun a U g mk q => by obtain ⟨q0, q1, qP, qK, qD⟩ := q; exact ⟨q0, q1, qP, va_K.moved (u := U) (U := U.calling g mk a) (Vm.Alike.refl U.vm) qK, qD⟩, va_recv (q0 := 0) (ci := 0) hK hP rfl rfl, fun U hU hW => ⟨rfl, by rw [hU], by rw [hU]; exact hPc, va_K.moved hW.alike hK, hDc.weaken (fun _ _ _ _ => trivial)⟩⟩ rfl rfl hl.1 rfl (lv_room (Nat.le_of_ble_eq_true rfl)) d_DS_password_28 ⟨Nat.le_of_ble_eq_true rfl, Nat.le_of_ble_eq_true rfl⟩) hS (fun q _ h => hFc q h) hFc (fun u t H1 locs ht hvm hw hB hz1 hk1 hS => ?_)
  try dsimp only at hw hB
  obtain ⟨hP1, hK1, hD1⟩ := hB
  rw [ht] at hP1
  obtain ⟨hP, hD⟩ := va_join (wr := [(sv, .inr (5, [.ref se, .ref pw, .ref g0, .ref ty, .ref an, .ref aw, .ref ts, .ref ss, .ref rq, .int tm, .int n3, .int n4])), (se, .inl ((cT 2), 4, .inr (.inr (.inr (.inr gs))))), (sh, .inr (1, [.ref sr, .int (nI sl)])), (sr, .inl ((cT 0), ns, .inl fs)), (g0, .inr (3, [.ref tx, .ref wo, .ref di, .int va, .int vb, .int vc, .int vd])), (tx, .inr (1, [.ref tr, .int (nI len)])), (tr, .inl ((cT 0), 1192, .inl f)), (wo, .inl ((cT 0), 16, .inl fw)), (di, .inl ((cT 0), 16, .inl fd))]) (w1 := [(ds, .inr (0, [.ref dr, .ref sv])), (dr, .inr (2, [.ref rr, .int (nI 20)])), (rr, .inl ((cT 0), 1000, .inl fp))]) hP hD [0, 1, 2] [3, 4, 5, 6, 7, 8, 9, 10, 11] rfl rfl (by decide) (by decide) hk1 hFc hP1 hD1
  have hw63 := hw
  clear hPc hDc hFc hz1 hk1 hP1 hK1 hD1
  generalize H1 = H at hP hS ⊢
  have hP : va_P (dC, dI) vcl [(sv, .inr (5, [.ref se, .ref pw, .ref g0, .ref ty, .ref an, .ref aw, .ref ts, .ref ss, .ref rq, .int tm, .int n3, .int n4])), (se, .inl ((cT 2), 4, .inr (.inr (.inr (.inr gs))))), (sh, .inr (1, [.ref sr, .int (nI sl)])), (sr, .inl ((cT 0), ns, .inl fs)), (g0, .inr (3, [.ref tx, .ref wo, .ref di, .int va, .int vb, .int vc, .int vd])), (tx, .inr (1, [.ref tr, .int (nI len)])), (tr, .inl ((cT 0), 1192, .inl f)), (wo, .inl ((cT 0), 16, .inl fw)), (di, .inl ((cT 0), 16, .inl fd)), (ds, .inr (0, [.ref dr, .ref sv])), (dr, .inr (2, [.ref rr, .int (nI 20)])), (rr, .inl ((cT 0), 1000, .inl fp))] H := hP
  have hD : va_D A [(sv, .inr (5, [.ref se, .ref pw, .ref g0, .ref ty, .ref an, .ref aw, .ref ts, .ref ss, .ref rq, .int tm, .int n3, .int n4])), (se, .inl ((cT 2), 4, .inr (.inr (.inr (.inr gs))))), (sh, .inr (1, [.ref sr, .int (nI sl)])), (sr, .inl ((cT 0), ns, .inl fs)), (g0, .inr (3, [.ref tx, .ref wo, .ref di, .int va, .int vb, .int vc, .int vd])), (tx, .inr (1, [.ref tr, .int (nI len)])), (tr, .inl ((cT 0), 1192, .inl f)), (wo, .inl ((cT 0), 16, .inl fw)), (di, .inl ((cT 0), 16, .inl fd)), (ds, .inr (0, [.ref dr, .ref sv])), (dr, .inr (2, [.ref rr, .int (nI 20)])), (rr, .inl ((cT 0), 1000, .inl fp))] := hD
  refine lv_aload_n hx hb d_DS_password_31 rfl (lv_at hl 1 rfl) ?_
  refine va_get (D := (dC, dI)) (ci := 0) (v := (.ref dr)) (C := R_DS) (T := F_DS) (N := 2) hx hb hg in_DS hown hK hP 9 rfl rfl 0 (by decide) (hg _ k_368) (fun _ h9 => h9) rfl d_DS_password_32 ?_
  refine lv_iconst (v := 2) hx hb d_DS_password_35 (by decide) ?_
  refine lv_iload hx hb d_DS_password_36 (lv_at hl 0 rfl) ?_
  have hPc := hP.sub (ws' := [(dr, .inr (2, [.ref rr, .int (nI 20)])), (rr, .inl ((cT 0), 1000, .inl fp))]) [10, 11] rfl
  have hDc := hD.sub (ws' := [(dr, .inr (2, [.ref rr, .int (nI 20)])), (rr, .inl ((cT 0), 1000, .inl fp))]) [10, 11] (by decide) rfl
  have hFc := va_free (wc := [(dr, .inr (2, [.ref rr, .int (nI 20)])), (rr, .inl ((cT 0), 1000, .inl fp))]) hD hS hA [10, 11] rfl
  refine va_callv (va_runV (C := "DoorServer$Packet") (As := [.int 2, .int (nI (nb * 16))]) (rest := []) ⟨hx, hb, hml, hown, hg⟩ (c_Pk_open l dC dI cT H.size dr rr 1000 20 fp 2 (nI (nb * 16)) (by decide) (by decide)) (cwV 2 hg (gI (List.forall_mem_append.mpr ⟨List.forall_mem_cons.mpr ⟨k_519, List.forall_mem_cons.mpr ⟨k_520, List.forall_mem_cons.mpr ⟨k_521, List.forall_mem_cons.mpr ⟨k_3, fun _ h => absurd h List.not_mem_nil⟩⟩⟩⟩, List.forall_mem_cons.mpr ⟨k_522, fun _ h => h⟩⟩)) rfl rfl rfl (by decide +kernel) ⟨Nat.le_of_ble_eq_true rfl, Nat.le_of_ble_eq_true rfl⟩) ⟨fun a U g mk q => by obtain ⟨q0, q1, qP, qK, qD⟩ := q; exact ⟨q0, q1, qP, va_K.moved (u := U) (U := U.calling g mk a) (Vm.Alike.refl U.vm) qK, qD⟩, va_recv (q0 := 10) (ci := 2) hK hP rfl rfl, fun U hU hW => ⟨rfl, by rw [hU], by rw [hU]; exact hPc, va_K.moved hW.alike hK, hDc.weaken (fun _ _ _ _ => trivial)⟩⟩ rfl rfl hl.1 rfl (lv_room (Nat.le_of_ble_eq_true rfl)) d_DS_password_38 ⟨Nat.le_of_ble_eq_true rfl, Nat.le_of_ble_eq_true rfl⟩) hS (fun q _ h => hFc q h) hFc (fun u t H1 locs ht hvm hw hB hz1 hk1 hS => ?_)
  try dsimp only at hw hB
  obtain ⟨hP1, hK1, hD1⟩ := hB
  rw [ht] at hP1
  obtain ⟨hP, hD⟩ := va_join (wr := [(sv, .inr (5, [.ref se, .ref pw, .ref g0, .ref ty, .ref an, .ref aw, .ref ts, .ref ss, .ref rq, .int tm, .int n3, .int n4])), (se, .inl ((cT 2), 4, .inr (.inr (.inr (.inr gs))))), (sh, .inr (1, [.ref sr, .int (nI sl)])), (sr, .inl ((cT 0), ns, .inl fs)), (g0, .inr (3, [.ref tx, .ref wo, .ref di, .int va, .int vb, .int vc, .int vd])), (tx, .inr (1, [.ref tr, .int (nI len)])), (tr, .inl ((cT 0), 1192, .inl f)), (wo, .inl ((cT 0), 16, .inl fw)), (di, .inl ((cT 0), 16, .inl fd)), (ds, .inr (0, [.ref dr, .ref sv]))]) (w1 := [(dr, .inr (2, [.ref rr, .int (nI ((20 + 1) + 1))])), (rr, .inl ((cT 0), 1000, .inl (upd (upd fp 20 (2 &&& 255)) (20 + 1) (((nI (nb * 16)) + 2) &&& 255))))]) hP hD [10, 11] [0, 1, 2, 3, 4, 5, 6, 7, 8, 9] rfl rfl (by decide) (by decide) hk1 hFc hP1 hD1
  have hw64 := hw
  clear hPc hDc hFc hz1 hk1 hP1 hK1 hD1
  generalize H1 = H at hP hS ⊢
  have hP : va_P (dC, dI) vcl [(sv, .inr (5, [.ref se, .ref pw, .ref g0, .ref ty, .ref an, .ref aw, .ref ts, .ref ss, .ref rq, .int tm, .int n3, .int n4])), (se, .inl ((cT 2), 4, .inr (.inr (.inr (.inr gs))))), (sh, .inr (1, [.ref sr, .int (nI sl)])), (sr, .inl ((cT 0), ns, .inl fs)), (g0, .inr (3, [.ref tx, .ref wo, .ref di, .int va, .int vb, .int vc, .int vd])), (tx, .inr (1, [.ref tr, .int (nI len)])), (tr, .inl ((cT 0), 1192, .inl f)), (wo, .inl ((cT 0), 16, .inl fw)), (di, .inl ((cT 0), 16, .inl fd)), (ds, .inr (0, [.ref dr, .ref sv])), (dr, .inr (2, [.ref rr, .int (nI ((20 + 1) + 1))])), (rr, .inl ((cT 0), 1000, .inl (upd (upd fp 20 (2 &&& 255)) (20 + 1) (((nI (nb * 16)) + 2) &&& 255))))] H := hP
  have hD : va_D A [(sv, .inr (5, [.ref se, .ref pw, .ref g0, .ref ty, .ref an, .ref aw, .ref ts, .ref ss, .ref rq, .int tm, .int n3, .int n4])), (se, .inl ((cT 2), 4, .inr (.inr (.inr (.inr gs))))), (sh, .inr (1, [.ref sr, .int (nI sl)])), (sr, .inl ((cT 0), ns, .inl fs)), (g0, .inr (3, [.ref tx, .ref wo, .ref di, .int va, .int vb, .int vc, .int vd])), (tx, .inr (1, [.ref tr, .int (nI len)])), (tr, .inl ((cT 0), 1192, .inl f)), (wo, .inl ((cT 0), 16, .inl fw)), (di, .inl ((cT 0), 16, .inl fd)), (ds, .inr (0, [.ref dr, .ref sv])), (dr, .inr (2, [.ref rr, .int (nI ((20 + 1) + 1))])), (rr, .inl ((cT 0), 1000, .inl (upd (upd fp 20 (2 &&& 255)) (20 + 1) (((nI (nb * 16)) + 2) &&& 255))))] := hD
  have hP : va_P (dC, dI) vcl [(sv, .inr (5, [.ref se, .ref pw, .ref g0, .ref ty, .ref an, .ref aw, .ref ts, .ref ss, .ref rq, .int tm, .int n3, .int n4])), (se, .inl ((cT 2), 4, .inr (.inr (.inr (.inr gs))))), (sh, .inr (1, [.ref sr, .int (nI sl)])), (sr, .inl ((cT 0), ns, .inl fs)), (g0, .inr (3, [.ref tx, .ref wo, .ref di, .int va, .int vb, .int vc, .int vd])), (tx, .inr (1, [.ref tr, .int (nI len)])), (tr, .inl ((cT 0), 1192, .inl f)), (wo, .inl ((cT 0), 16, .inl fw)), (di, .inl ((cT 0), 16, .inl fd)), (ds, .inr (0, [.ref dr, .ref sv])), (dr, .inr (2, [.ref rr, .int (nI 22)])), (rr, .inl ((cT 0), 1000, .inl (upd (upd fp 20 (2 &&& 255)) (20 + 1) (((nI (nb * 16)) + 2) &&& 255))))] H := hP
  have hD : va_D A [(sv, .inr (5, [.ref se, .ref pw, .ref g0, .ref ty, .ref an, .ref aw, .ref ts, .ref ss, .ref rq, .int tm, .int n3, .int n4])), (se, .inl ((cT 2), 4, .inr (.inr (.inr (.inr gs))))), (sh, .inr (1, [.ref sr, .int (nI sl)])), (sr, .inl ((cT 0), ns, .inl fs)), (g0, .inr (3, [.ref tx, .ref wo, .ref di, .int va, .int vb, .int vc, .int vd])), (tx, .inr (1, [.ref tr, .int (nI len)])), (tr, .inl ((cT 0), 1192, .inl f)), (wo, .inl ((cT 0), 16, .inl fw)), (di, .inl ((cT 0), 16, .inl fd)), (ds, .inr (0, [.ref dr, .ref sv])), (dr, .inr (2, [.ref rr, .int (nI 22)])), (rr, .inl ((cT 0), 1000, .inl (upd (upd fp 20 (2 &&& 255)) (20 + 1) (((nI (nb * 16)) + 2) &&& 255))))] := hD
  refine lv_aload_n hx hb d_DS_password_41 rfl (lv_at hl 1 rfl) ?_
  refine va_get (D := (dC, dI)) (ci := 0) (v := (.ref dr)) (C := R_DS) (T := F_DS) (N := 2) hx hb hg in_DS hown hK hP 9 rfl rfl 0 (by decide) (hg _ k_368) (fun _ h9 => h9) rfl d_DS_password_42 ?_
  refine va_get (D := (dC, dI)) (ci := 2) (v := (.int (nI 22))) (C := R_Pk) (T := F_Pk) (N := 2) hx hb hg in_Pk hown hK hP 10 rfl rfl 1 (by decide) (hg _ k_59) (fun x9 h9 => u_same (hg _ k_53) x9 h9) rfl d_DS_password_45 ?_
  refine lv_istore (lv' := [(6, .int (nI 22)), (5, .int (nI (nb * 16))), (0, .ref ds), (1, .int (nI st)), (2, .long v), (4, .int (nI k))]) hx hb d_DS_password_48 hl (by decide) rfl (fun ls hl => ?_)
  refine lv_aload_n hx hb d_DS_password_50 rfl (lv_at hl 2 rfl) ?_
  refine va_get (D := (dC, dI)) (ci := 0) (v := (.ref dr)) (C := R_DS) (T := F_DS) (N := 2) hx hb hg in_DS hown hK hP 9 rfl rfl 0 (by decide) (hg _ k_368) (fun _ h9 => h9) rfl d_DS_password_51 ?_
  refine lv_lload_n hx hb d_DS_password_54 rfl (lv_at hl 4 rfl) ?_
  refine lv_iload hx hb d_DS_password_55 (lv_at hl 5 rfl) ?_
  have hPc := hP.sub (ws' := [(dr, .inr (2, [.ref rr, .int (nI 22)])), (rr, .inl ((cT 0), 1000, .inl (upd (upd fp 20 (2 &&& 255)) (20 + 1) (((nI (nb * 16)) + 2) &&& 255))))]) [10, 11] rfl
  have hDc := hD.sub (ws' := [(dr, .inr (2, [.ref rr, .int (nI 22)])), (rr, .inl ((cT 0), 1000, .inl (upd (upd fp 20 (2 &&& 255)) (20 + 1) (((nI (nb * 16)) + 2) &&& 255))))]) [10, 11] (by decide) rfl
  have hFc := va_free (wc := [(dr, .inr (2, [.ref rr, .int (nI 22)])), (rr, .inl ((cT 0), 1000, .inl (upd (upd fp 20 (2 &&& 255)) (20 + 1) (((nI (nb * 16)) + 2) &&& 255))))]) hD hS hA [10, 11] rfl
  refine va_callv (va_runU (C := "DoorServer$Packet") (owner := "DoorServer$Bytes") (x := y_Pk_appendPattern) (As := [.long v, .int (nI k)]) (rest := []) ⟨hx, hb, hml, hown, hg⟩ (c_Pk_pattern l dC dI cT H.size dr rr 1000 22 (upd (upd fp 20 (2 &&& 255)) (20 + 1) (((nI (nb * 16)) + 2) &&& 255)) v k (by omega) (by decide)) (va_cwU 2 hg (gI (List.forall_mem_append.mpr ⟨List.forall_mem_cons.mpr ⟨k_554, List.forall_mem_cons.mpr ⟨k_555, List.forall_mem_cons.mpr ⟨k_557, List.forall_mem_cons.mpr ⟨k_462, List.forall_mem_cons.mpr ⟨k_2, fun _ h => absurd h List.not_mem_nil⟩⟩⟩⟩⟩, List.forall_mem_cons.mpr ⟨k_466, fun _ h => h⟩⟩)) rfl rfl rfl rfl (by decide +kernel) ⟨Nat.le_of_ble_eq_true rfl, Nat.le_of_ble_eq_true rfl⟩) ⟨fun a U g mk q => by obtain ⟨q0, q1, qP, qK, qD⟩ := q; exact ⟨q0, q1, qP, va_K.moved (u := U) (U := U.calling g mk a) (Vm.Alike.refl U.vm) qK, qD⟩, va_recv (q0 := 10) (ci := 2) hK hP rfl rfl, fun U hU hW => ⟨rfl, by rw [hU], by rw [hU]; exact hPc, va_K.moved hW.alike hK, hDc.weaken (fun _ _ _ _ => trivial)⟩⟩ rfl rfl hl.1 rfl (lv_room (Nat.le_of_ble_eq_true rfl)) d_DS_password_57 ⟨Nat.le_of_ble_eq_true rfl, Nat.le_of_ble_eq_true rfl⟩) hS (fun q _ h => hFc q h) hFc (fun u t H1 locs ht hvm hw hB hz1 hk1 hS => ?_)
  obtain ⟨g_65, rfl⟩ : ∃ z, z = u := ⟨_, rfl⟩
  try dsimp only at hw hB
  obtain ⟨hP1, hK1, hD1⟩ := hB
  rw [ht] at hP1
  obtain ⟨hP, hD⟩ := va_join (wr := [(sv, .inr (5, [.ref se, .ref pw, .ref g0, .ref ty, .ref an, .ref aw, .ref ts, .ref ss, .ref rq, .int tm, .int n3, .int n4])), (se, .inl ((cT 2), 4, .inr (.inr (.inr (.inr gs))))), (sh, .inr (1, [.ref sr, .int (nI sl)])), (sr, .inl ((cT 0), ns, .inl fs)), (g0, .inr (3, [.ref tx, .ref wo, .ref di, .int va, .int vb, .int vc, .int vd])), (tx, .inr (1, [.ref tr, .int (nI len)])), (tr, .inl ((cT 0), 1192, .inl f)), (wo, .inl ((cT 0), 16, .inl fw)), (di, .inl ((cT 0), 16, .inl fd)), (ds, .inr (0, [.ref dr, .ref sv]))]) (w1 := [(dr, .inr (2, [.ref rr, .int (nI (22 + k))])), (rr, .inl ((cT 0), 1000, .inl g_65))]) hP hD [10, 11] [0, 1, 2, 3, 4, 5, 6, 7, 8, 9] rfl rfl (by decide) (by decide) hk1 hFc hP1 hD1
  have hw66 := hw
  clear hPc hDc hFc hz1 hk1 hP1 hK1 hD1
  generalize H1 = H at hP hS ⊢
  have hP : va_P (dC, dI) vcl [(sv, .inr (5, [.ref se, .ref pw, .ref g0, .ref ty, .ref an, .ref aw, .ref ts, .ref ss, .ref rq, .int tm, .int n3, .int n4])), (se, .inl ((cT 2), 4, .inr (.inr (.inr (.inr gs))))), (sh, .inr (1, [.ref sr, .int (nI sl)])), (sr, .inl ((cT 0), ns, .inl fs)), (g0, .inr (3, [.ref tx, .ref wo, .ref di, .int va, .int vb, .int vc, .int vd])), (tx, .inr (1, [.ref tr, .int (nI len)])), (tr, .inl ((cT 0), 1192, .inl f)), (wo, .inl ((cT 0), 16, .inl fw)), (di, .inl ((cT 0), 16, .inl fd)), (ds, .inr (0, [.ref dr, .ref sv])), (dr, .inr (2, [.ref rr, .int (nI (22 + k))])), (rr, .inl ((cT 0), 1000, .inl g_65))] H := hP
  have hD : va_D A [(sv, .inr (5, [.ref se, .ref pw, .ref g0, .ref ty, .ref an, .ref aw, .ref ts, .ref ss, .ref rq, .int tm, .int n3, .int n4])), (se, .inl ((cT 2), 4, .inr (.inr (.inr (.inr gs))))), (sh, .inr (1, [.ref sr, .int (nI sl)])), (sr, .inl ((cT 0), ns, .inl fs)), (g0, .inr (3, [.ref tx, .ref wo, .ref di, .int va, .int vb, .int vc, .int vd])), (tx, .inr (1, [.ref tr, .int (nI len)])), (tr, .inl ((cT 0), 1192, .inl f)), (wo, .inl ((cT 0), 16, .inl fw)), (di, .inl ((cT 0), 16, .inl fd)), (ds, .inr (0, [.ref dr, .ref sv])), (dr, .inr (2, [.ref rr, .int (nI (22 + k))])), (rr, .inl ((cT 0), 1000, .inl g_65))] := hD
  refine lv_aload_n hx hb d_DS_password_60 rfl (lv_at hl 2 rfl) ?_
  refine va_get (D := (dC, dI)) (ci := 0) (v := (.ref dr)) (C := R_DS) (T := F_DS) (N := 2) hx hb hg in_DS hown hK hP 9 rfl rfl 0 (by decide) (hg _ k_368) (fun _ h9 => h9) rfl d_DS_password_61 ?_
  refine lv_iload hx hb d_DS_password_64 (lv_at hl 1 rfl) ?_
  refine lv_iload hx hb d_DS_password_66 (lv_at hl 5 rfl) ?_
  refine lv_isub hx hb d_DS_password_68 ?_
  refine lv_topi (fun x68 e67 => ?_)
  obtain rfl : x68 = nI (nb * 16 - k) := by rw [e67]; exact pk_sub (by omega)
  have hPc := hP.sub (ws' := [(dr, .inr (2, [.ref rr, .int (nI (22 + k))])), (rr, .inl ((cT 0), 1000, .inl g_65))]) [10, 11] rfl
  have hDc := hD.sub (ws' := [(dr, .inr (2, [.ref rr, .int (nI (22 + k))])), (rr, .inl ((cT 0), 1000, .inl g_65))]) [10, 11] (by decide) rfl
  have hFc := va_free (wc := [(dr, .inr (2, [.ref rr, .int (nI (22 + k))])), (rr, .inl ((cT 0), 1000, .inl g_65))]) hD hS hA [10, 11] rfl
  refine va_callv (va_runU (C := "DoorServer$Packet") (owner := "DoorServer$Bytes") (x := y_Pk_appendZeros) (As := [.int (nI (nb * 16 - k))]) (rest := []) ⟨hx, hb, hml, hown, hg⟩ (c_Pk_zeros l dC dI cT H.size dr rr 1000 (22 + k) g_65 (nb * 16 - k) (by omega) (by decide)) (va_cwU 1 hg (gI (List.forall_mem_append.mpr ⟨List.forall_mem_cons.mpr ⟨k_558, List.forall_mem_cons.mpr ⟨k_87, List.forall_mem_cons.mpr ⟨k_89, List.forall_mem_cons.mpr ⟨k_90, List.forall_mem_cons.mpr ⟨k_2, fun _ h => absurd h List.not_mem_nil⟩⟩⟩⟩⟩, List.forall_mem_cons.mpr ⟨k_91, fun _ h => h⟩⟩)) rfl rfl rfl rfl (by decide +kernel) ⟨Nat.le_of_ble_eq_true rfl, Nat.le_of_ble_eq_true rfl⟩) ⟨fun a U g mk q => by obtain ⟨q0, q1, qP, qK, qD⟩ := q; exact ⟨q0, q1, qP, va_K.moved (u := U) (U := U.calling g mk a) (Vm.Alike.refl U.vm) qK, qD⟩, va_recv (q0 := 10) (ci := 2) hK hP rfl rfl, fun U hU hW => ⟨rfl, by rw [hU], by rw [hU]; exact hPc, va_K.moved hW.alike hK, hDc.weaken (fun _ _ _ _ => trivial)⟩⟩ rfl rfl hl.1 rfl (lv_room (Nat.le_of_ble_eq_true rfl)) d_DS_password_69 ⟨Nat.le_of_ble_eq_true rfl, Nat.le_of_ble_eq_true rfl⟩) hS (fun q _ h => hFc q h) hFc (fun u t H1 locs ht hvm hw hB hz1 hk1 hS => ?_)
  obtain ⟨g_69, rfl⟩ : ∃ z, z = u := ⟨_, rfl⟩
  try dsimp only at hw hB
  obtain ⟨hP1, hK1, hD1⟩ := hB
  rw [ht] at hP1
  obtain ⟨hP, hD⟩ := va_join (wr := [(sv, .inr (5, [.ref se, .ref pw, .ref g0, .ref ty, .ref an, .ref aw, .ref ts, .ref ss, .ref rq, .int tm, .int n3, .int n4])), (se, .inl ((cT 2), 4, .inr (.inr (.inr (.inr gs))))), (sh, .inr (1, [.ref sr, .int (nI sl)])), (sr, .inl ((cT 0), ns, .inl fs)), (g0, .inr (3, [.ref tx, .ref wo, .ref di, .int va, .int vb, .int vc, .int vd])), (tx, .inr (1, [.ref tr, .int (nI len)])), (tr, .inl ((cT 0), 1192, .inl f)), (wo, .inl ((cT 0), 16, .inl fw)), (di, .inl ((cT 0), 16, .inl fd)), (ds, .inr (0, [.ref dr, .ref sv]))]) (w1 := [(dr, .inr (2, [.ref rr, .int (nI ((22 + k) + (nb * 16 - k)))])), (rr, .inl ((cT 0), 1000, .inl g_69))]) hP hD [10, 11] [0, 1, 2, 3, 4, 5, 6, 7, 8, 9] rfl rfl (by decide) (by decide) hk1 hFc hP1 hD1
  have hw70 := hw
  clear hPc hDc hFc hz1 hk1 hP1 hK1 hD1
  generalize H1 = H at hP hS ⊢
  have hP : va_P (dC, dI) vcl [(sv, .inr (5, [.ref se, .ref pw, .ref g0, .ref ty, .ref an, .ref aw, .ref ts, .ref ss, .ref rq, .int tm, .int n3, .int n4])), (se, .inl ((cT 2), 4, .inr (.inr (.inr (.inr gs))))), (sh, .inr (1, [.ref sr, .int (nI sl)])), (sr, .inl ((cT 0), ns, .inl fs)), (g0, .inr (3, [.ref tx, .ref wo, .ref di, .int va, .int vb, .int vc, .int vd])), (tx, .inr (1, [.ref tr, .int (nI len)])), (tr, .inl ((cT 0), 1192, .inl f)), (wo, .inl ((cT 0), 16, .inl fw)), (di, .inl ((cT 0), 16, .inl fd)), (ds, .inr (0, [.ref dr, .ref sv])), (dr, .inr (2, [.ref rr, .int (nI ((22 + k) + (nb * 16 - k)))])), (rr, .inl ((cT 0), 1000, .inl g_69))] H := hP
  have hD : va_D A [(sv, .inr (5, [.ref se, .ref pw, .ref g0, .ref ty, .ref an, .ref aw, .ref ts, .ref ss, .ref rq, .int tm, .int n3, .int n4])), (se, .inl ((cT 2), 4, .inr (.inr (.inr (.inr gs))))), (sh, .inr (1, [.ref sr, .int (nI sl)])), (sr, .inl ((cT 0), ns, .inl fs)), (g0, .inr (3, [.ref tx, .ref wo, .ref di, .int va, .int vb, .int vc, .int vd])), (tx, .inr (1, [.ref tr, .int (nI len)])), (tr, .inl ((cT 0), 1192, .inl f)), (wo, .inl ((cT 0), 16, .inl fw)), (di, .inl ((cT 0), 16, .inl fd)), (ds, .inr (0, [.ref dr, .ref sv])), (dr, .inr (2, [.ref rr, .int (nI ((22 + k) + (nb * 16 - k)))])), (rr, .inl ((cT 0), 1000, .inl g_69))] := hD
  rw [show 22 + k + (nb * 16 - k) = 22 + nb * 16 by omega] at hP hD
  have hP : va_P (dC, dI) vcl [(sv, .inr (5, [.ref se, .ref pw, .ref g0, .ref ty, .ref an, .ref aw, .ref ts, .ref ss, .ref rq, .int tm, .int n3, .int n4])), (se, .inl ((cT 2), 4, .inr (.inr (.inr (.inr gs))))), (sh, .inr (1, [.ref sr, .int (nI sl)])), (sr, .inl ((cT 0), ns, .inl fs)), (g0, .inr (3, [.ref tx, .ref wo, .ref di, .int va, .int vb, .int vc, .int vd])), (tx, .inr (1, [.ref tr, .int (nI len)])), (tr, .inl ((cT 0), 1192, .inl f)), (wo, .inl ((cT 0), 16, .inl fw)), (di, .inl ((cT 0), 16, .inl fd)), (ds, .inr (0, [.ref dr, .ref sv])), (dr, .inr (2, [.ref rr, .int (nI (22 + nb * 16))])), (rr, .inl ((cT 0), 1000, .inl g_69))] H := hP
  have hD : va_D A [(sv, .inr (5, [.ref se, .ref pw, .ref g0, .ref ty, .ref an, .ref aw, .ref ts, .ref ss, .ref rq, .int tm, .int n3, .int n4])), (se, .inl ((cT 2), 4, .inr (.inr (.inr (.inr gs))))), (sh, .inr (1, [.ref sr, .int (nI sl)])), (sr, .inl ((cT 0), ns, .inl fs)), (g0, .inr (3, [.ref tx, .ref wo, .ref di, .int va, .int vb, .int vc, .int vd])), (tx, .inr (1, [.ref tr, .int (nI len)])), (tr, .inl ((cT 0), 1192, .inl f)), (wo, .inl ((cT 0), 16, .inl fw)), (di, .inl ((cT 0), 16, .inl fd)), (ds, .inr (0, [.ref dr, .ref sv])), (dr, .inr (2, [.ref rr, .int (nI (22 + nb * 16))])), (rr, .inl ((cT 0), 1000, .inl g_69))] := hD
  refine lv_aload_n hx hb d_DS_password_72 rfl (lv_at hl 2 rfl) ?_
  refine va_get (D := (dC, dI)) (ci := 0) (v := (.ref sv)) (C := R_DS) (T := F_DS) (N := 2) hx hb hg in_DS hown hK hP 9 rfl rfl 1 (by decide) (hg _ k_369) (fun _ h9 => h9) rfl d_DS_password_73 ?_
  refine va_get (D := (dC, dI)) (ci := 5) (v := (.ref g0)) (C := R_Sv) (T := F_Sv) (N := 12) hx hb hg in_Sv hown hK hP 0 rfl rfl 2 (by decide) (hg _ k_325) (fun _ h9 => h9) rfl d_DS_password_76 ?_
  refine lv_aload_n hx hb d_DS_password_79 rfl (lv_at hl 2 rfl) ?_
  refine va_get (D := (dC, dI)) (ci := 0) (v := (.ref sv)) (C := R_DS) (T := F_DS) (N := 2) hx hb hg in_DS hown hK hP 9 rfl rfl 1 (by decide) (hg _ k_369) (fun _ h9 => h9) rfl d_DS_password_80 ?_
  refine va_get (D := (dC, dI)) (ci := 5) (v := (.ref se)) (C := R_Sv) (T := F_Sv) (N := 12) hx hb hg in_Sv hown hK hP 0 rfl rfl 0 (by decide) (hg _ k_321) (fun _ h9 => h9) rfl d_DS_password_83 ?_
  refine lv_iload_n hx hb d_DS_password_86 rfl (lv_at hl 3 rfl) ?_
  refine va_aldq hx hb hK hP 1 2 rfl rfl (i := (nI st)) (vp_in_nI (N := 4) hst (by decide)) d_DS_password_87 ?_
  rw [show va_rf (gs (nI st).toNatClampNeg) = .ref sh from by rw [nI_clamp (by omega), hgs]; rfl]
  refine lv_aload_n hx hb d_DS_password_88 rfl (lv_at hl 2 rfl) ?_
  refine va_get (D := (dC, dI)) (ci := 0) (v := (.ref dr)) (C := R_DS) (T := F_DS) (N := 2) hx hb hg in_DS hown hK hP 9 rfl rfl 0 (by decide) (hg _ k_368) (fun _ h9 => h9) rfl d_DS_password_89 ?_
  refine lv_iload hx hb d_DS_password_92 (lv_at hl 0 rfl) ?_
  refine lv_iload hx hb d_DS_password_94 (lv_at hl 1 rfl) ?_
  have hPc := hP.sub (ws' := [(g0, .inr (3, [.ref tx, .ref wo, .ref di, .int va, .int vb, .int vc, .int vd])), (tx, .inr (1, [.ref tr, .int (nI len)])), (tr, .inl ((cT 0), 1192, .inl f)), (wo, .inl ((cT 0), 16, .inl fw)), (di, .inl ((cT 0), 16, .inl fd)), (sh, .inr (1, [.ref sr, .int (nI sl)])), (sr, .inl ((cT 0), ns, .inl fs)), (dr, .inr (2, [.ref rr, .int (nI (22 + nb * 16))])), (rr, .inl ((cT 0), 1000, .inl g_69))]) [4, 5, 6, 7, 8, 2, 3, 10, 11] rfl
  have hDc := hD.sub (ws' := [(g0, .inr (3, [.ref tx, .ref wo, .ref di, .int va, .int vb, .int vc, .int vd])), (tx, .inr (1, [.ref tr, .int (nI len)])), (tr, .inl ((cT 0), 1192, .inl f)), (wo, .inl ((cT 0), 16, .inl fw)), (di, .inl ((cT 0), 16, .inl fd)), (sh, .inr (1, [.ref sr, .int (nI sl)])), (sr, .inl ((cT 0), ns, .inl fs)), (dr, .inr (2, [.ref rr, .int (nI (22 + nb * 16))])), (rr, .inl ((cT 0), 1000, .inl g_69))]) [4, 5, 6, 7, 8, 2, 3, 10, 11] (by decide) rfl
  have hFc := va_free (wc := [(g0, .inr (3, [.ref tx, .ref wo, .ref di, .int va, .int vb, .int vc, .int vd])), (tx, .inr (1, [.ref tr, .int (nI len)])), (tr, .inl ((cT 0), 1192, .inl f)), (wo, .inl ((cT 0), 16, .inl fw)), (di, .inl ((cT 0), 16, .inl fd)), (sh, .inr (1, [.ref sr, .int (nI sl)])), (sr, .inl ((cT 0), ns, .inl fs)), (dr, .inr (2, [.ref rr, .int (nI (22 + nb * 16))])), (rr, .inl ((cT 0), 1000, .inl g_69))]) hD hS hA [4, 5, 6, 7, 8, 2, 3, 10, 11] rfl
  refine va_callv (va_runV (C := "DoorServer$Digests") (As := [.ref sh, .ref dr, .int (nI 22), .int (nI (nb * 16))]) (rest := []) ⟨hx, hb, hml, hown, hg⟩ (c_Dg_cover l dC dI cT H.size g0 tx tr wo di va vb vc vd len f fw fd sh sr ns sl fs dr rr 1000 (22 + nb * 16) g_69 22 nb (hsl) (hns) (by omega) (by decide) (by omega) (by decide) (hs40)) (cwV 4 hg (gI (List.forall_mem_append.mpr ⟨List.forall_mem_cons.mpr ⟨k_559, List.forall_mem_cons.mpr ⟨k_560, List.forall_mem_cons.mpr ⟨k_561, List.forall_mem_cons.mpr ⟨k_5, fun _ h => absurd h List.not_mem_nil⟩⟩⟩⟩, List.forall_mem_cons.mpr ⟨k_562, fun _ h => h⟩⟩)) rfl rfl rfl (by decide +kernel) ⟨Nat.le_of_ble_eq_true rfl, Nat.le_of_ble_eq_true rfl⟩) ⟨fun a U g mk q => by obtain ⟨q0, q1, qP, qK, qD, qE⟩ := q; exact ⟨q0, q1, qP, va_K.moved (u := U) (U := U.calling g mk a) (Vm.Alike.refl U.vm) qK, qD, qE.at (State.WarmedH.refl _) (fun _ _ _ => rfl) (fun _ h => h)⟩, va_recv (q0 := 4) (ci := 3) hK hP rfl rfl, fun U hU hW => ⟨rfl, by rw [hU], by rw [hU]; exact hPc, va_K.moved hW.alike hK, hDc.weaken (fun _ _ _ _ => trivial), by rw [hU]; exact hE.at hW hS.2.1 hFc⟩⟩ rfl rfl hl.1 rfl (lv_room (Nat.le_of_ble_eq_true rfl)) d_DS_password_96 ⟨Nat.le_of_ble_eq_true rfl, Nat.le_of_ble_eq_true rfl⟩) hS (fun q _ h => hFc q h) hFc (fun u t H1 locs ht hvm hw hB hz1 hk1 hS => ?_)
  obtain ⟨len2_71, fw2_72, fd2_73, a2_74, b2_75, c2_76, d2_77, f2_78, fp2_79⟩ := u
  try dsimp only at hw hB
  obtain ⟨hP1, hK1, hD1⟩ := hB
  rw [ht] at hP1
  obtain ⟨hP, hD⟩ := va_join (wr := [(sv, .inr (5, [.ref se, .ref pw, .ref g0, .ref ty, .ref an, .ref aw, .ref ts, .ref ss, .ref rq, .int tm, .int n3, .int n4])), (se, .inl ((cT 2), 4, .inr (.inr (.inr (.inr gs))))), (ds, .inr (0, [.ref dr, .ref sv]))]) (w1 := [(g0, .inr (3, [.ref tx, .ref wo, .ref di, .int a2_74, .int b2_75, .int c2_76, .int d2_77])), (tx, .inr (1, [.ref tr, .int (nI len2_71)])), (tr, .inl ((cT 0), 1192, .inl f2_78)), (wo, .inl ((cT 0), 16, .inl fw2_72)), (di, .inl ((cT 0), 16, .inl fd2_73)), (sh, .inr (1, [.ref sr, .int (nI sl)])), (sr, .inl ((cT 0), ns, .inl fs)), (dr, .inr (2, [.ref rr, .int (nI (22 + nb * 16))])), (rr, .inl ((cT 0), 1000, .inl fp2_79))]) hP hD [4, 5, 6, 7, 8, 2, 3, 10, 11] [0, 1, 9] rfl rfl (by decide) (by decide) hk1 hFc hP1 hD1
  have hw80 := hw
  clear hPc hDc hFc hz1 hk1 hP1 hK1 hD1
  generalize H1 = H at hP hS ⊢
  have hP : va_P (dC, dI) vcl [(sv, .inr (5, [.ref se, .ref pw, .ref g0, .ref ty, .ref an, .ref aw, .ref ts, .ref ss, .ref rq, .int tm, .int n3, .int n4])), (se, .inl ((cT 2), 4, .inr (.inr (.inr (.inr gs))))), (ds, .inr (0, [.ref dr, .ref sv])), (g0, .inr (3, [.ref tx, .ref wo, .ref di, .int a2_74, .int b2_75, .int c2_76, .int d2_77])), (tx, .inr (1, [.ref tr, .int (nI len2_71)])), (tr, .inl ((cT 0), 1192, .inl f2_78)), (wo, .inl ((cT 0), 16, .inl fw2_72)), (di, .inl ((cT 0), 16, .inl fd2_73)), (sh, .inr (1, [.ref sr, .int (nI sl)])), (sr, .inl ((cT 0), ns, .inl fs)), (dr, .inr (2, [.ref rr, .int (nI (22 + nb * 16))])), (rr, .inl ((cT 0), 1000, .inl fp2_79))] H := hP
  have hD : va_D A [(sv, .inr (5, [.ref se, .ref pw, .ref g0, .ref ty, .ref an, .ref aw, .ref ts, .ref ss, .ref rq, .int tm, .int n3, .int n4])), (se, .inl ((cT 2), 4, .inr (.inr (.inr (.inr gs))))), (ds, .inr (0, [.ref dr, .ref sv])), (g0, .inr (3, [.ref tx, .ref wo, .ref di, .int a2_74, .int b2_75, .int c2_76, .int d2_77])), (tx, .inr (1, [.ref tr, .int (nI len2_71)])), (tr, .inl ((cT 0), 1192, .inl f2_78)), (wo, .inl ((cT 0), 16, .inl fw2_72)), (di, .inl ((cT 0), 16, .inl fd2_73)), (sh, .inr (1, [.ref sr, .int (nI sl)])), (sr, .inl ((cT 0), ns, .inl fs)), (dr, .inr (2, [.ref rr, .int (nI (22 + nb * 16))])), (rr, .inl ((cT 0), 1000, .inl fp2_79))] := hD
  refine lv_aload_n hx hb d_DS_password_99 rfl (lv_at hl 2 rfl) ?_
  have hPc := hP.sub (ws' := [(ds, .inr (0, [.ref dr, .ref sv])), (dr, .inr (2, [.ref rr, .int (nI (22 + nb * 16))])), (rr, .inl ((cT 0), 1000, .inl fp2_79))]) [2, 10, 11] rfl
  have hDc := hD.sub (ws' := [(ds, .inr (0, [.ref dr, .ref sv])), (dr, .inr (2, [.ref rr, .int (nI (22 + nb * 16))])), (rr, .inl ((cT 0), 1000, .inl fp2_79))]) [2, 10, 11] (by decide) rfl
  have hFc := va_free (wc := [(ds, .inr (0, [.ref dr, .ref sv])), (dr, .inr (2, [.ref rr, .int (nI (22 + nb * 16))])), (rr, .inl ((cT 0), 1000, .inl fp2_79))]) hD hS hA [2, 10, 11] rfl
  refine va_calli (va_runV (C := "DoorServer") (As := []) (rest := []) ⟨hx, hb, hml, hown, hg⟩ (c_closed l dC dI cT H.size ds dr sv rr (22 + nb * 16) fp2_79 (by omega)) (cwV 0 hg (gI (List.forall_mem_append.mpr ⟨List.forall_mem_cons.mpr ⟨k_524, List.forall_mem_cons.mpr ⟨k_526, List.forall_mem_cons.mpr ⟨(big_sel (q := y_DS_closedDraft) (n := 2) (by decide +kernel)), List.forall_mem_cons.mpr ⟨k_1, fun _ h => absurd h List.not_mem_nil⟩⟩⟩⟩, List.forall_mem_cons.mpr ⟨k_527, fun _ h => h⟩⟩)) rfl rfl rfl (by decide +kernel) ⟨Nat.le_of_ble_eq_true rfl, Nat.le_of_ble_eq_true rfl⟩) ⟨fun a U g mk q => by obtain ⟨q0, q1, qP, qK, qD⟩ := q; exact ⟨q0, q1, qP, va_K.moved (u := U) (U := U.calling g mk a) (Vm.Alike.refl U.vm) qK, qD⟩, va_recv (q0 := 2) (ci := 0) hK hP rfl rfl, fun U hU hW => ⟨rfl, by rw [hU], by rw [hU]; exact hPc, va_K.moved hW.alike hK, hDc.weaken (fun _ _ _ _ => trivial)⟩⟩ rfl rfl hl.1 rfl (lv_room (Nat.le_of_ble_eq_true rfl)) d_DS_password_100 ⟨Nat.le_of_ble_eq_true rfl, Nat.le_of_ble_eq_true rfl⟩) hS (fun q _ h => hFc q h) hFc (fun r u t H1 locs ht hvm hw hB hz1 hk1 hS => ?_)
  try dsimp only at hw hB
  obtain ⟨hP1, hK1, hD1⟩ := hB
  rw [ht] at hP1
  obtain ⟨rfl, hw⟩ := hw
  obtain ⟨hP, hD⟩ := va_join (wr := [(sv, .inr (5, [.ref se, .ref pw, .ref g0, .ref ty, .ref an, .ref aw, .ref ts, .ref ss, .ref rq, .int tm, .int n3, .int n4])), (se, .inl ((cT 2), 4, .inr (.inr (.inr (.inr gs))))), (g0, .inr (3, [.ref tx, .ref wo, .ref di, .int a2_74, .int b2_75, .int c2_76, .int d2_77])), (tx, .inr (1, [.ref tr, .int (nI len2_71)])), (tr, .inl ((cT 0), 1192, .inl f2_78)), (wo, .inl ((cT 0), 16, .inl fw2_72)), (di, .inl ((cT 0), 16, .inl fd2_73)), (sh, .inr (1, [.ref sr, .int (nI sl)])), (sr, .inl ((cT 0), ns, .inl fs))]) (w1 := [(ds, .inr (0, [.ref dr, .ref sv])), (dr, .inr (2, [.ref rr, .int (nI (22 + nb * 16))])), (rr, .inl ((cT 0), 1000, .inl (upd (upd fp2_79 2 (nI (22 + nb * 16) >>> (8 &&& 31))) 3 (nI (22 + nb * 16) &&& 255))))]) hP hD [2, 10, 11] [0, 1, 3, 4, 5, 6, 7, 8, 9] rfl rfl (by decide) (by decide) hk1 hFc hP1 hD1
  have hw81 := hw
  clear hPc hDc hFc hz1 hk1 hP1 hK1 hD1
  generalize H1 = H at hP hS ⊢
  have hP : va_P (dC, dI) vcl [(sv, .inr (5, [.ref se, .ref pw, .ref g0, .ref ty, .ref an, .ref aw, .ref ts, .ref ss, .ref rq, .int tm, .int n3, .int n4])), (se, .inl ((cT 2), 4, .inr (.inr (.inr (.inr gs))))), (g0, .inr (3, [.ref tx, .ref wo, .ref di, .int a2_74, .int b2_75, .int c2_76, .int d2_77])), (tx, .inr (1, [.ref tr, .int (nI len2_71)])), (tr, .inl ((cT 0), 1192, .inl f2_78)), (wo, .inl ((cT 0), 16, .inl fw2_72)), (di, .inl ((cT 0), 16, .inl fd2_73)), (sh, .inr (1, [.ref sr, .int (nI sl)])), (sr, .inl ((cT 0), ns, .inl fs)), (ds, .inr (0, [.ref dr, .ref sv])), (dr, .inr (2, [.ref rr, .int (nI (22 + nb * 16))])), (rr, .inl ((cT 0), 1000, .inl (upd (upd fp2_79 2 (nI (22 + nb * 16) >>> (8 &&& 31))) 3 (nI (22 + nb * 16) &&& 255))))] H := hP
  have hD : va_D A [(sv, .inr (5, [.ref se, .ref pw, .ref g0, .ref ty, .ref an, .ref aw, .ref ts, .ref ss, .ref rq, .int tm, .int n3, .int n4])), (se, .inl ((cT 2), 4, .inr (.inr (.inr (.inr gs))))), (g0, .inr (3, [.ref tx, .ref wo, .ref di, .int a2_74, .int b2_75, .int c2_76, .int d2_77])), (tx, .inr (1, [.ref tr, .int (nI len2_71)])), (tr, .inl ((cT 0), 1192, .inl f2_78)), (wo, .inl ((cT 0), 16, .inl fw2_72)), (di, .inl ((cT 0), 16, .inl fd2_73)), (sh, .inr (1, [.ref sr, .int (nI sl)])), (sr, .inl ((cT 0), ns, .inl fs)), (ds, .inr (0, [.ref dr, .ref sv])), (dr, .inr (2, [.ref rr, .int (nI (22 + nb * 16))])), (rr, .inl ((cT 0), 1000, .inl (upd (upd fp2_79 2 (nI (22 + nb * 16) >>> (8 &&& 31))) 3 (nI (22 + nb * 16) &&& 255))))] := hD
  have hP9 := hP.sub (ws' := []) [] rfl
  have hD9 := hD.sub (ws' := []) [] (by decide) rfl
  exact W.iret (v := nI (22 + nb * 16)) hx hb hr (fun t ht hW => ⟨⟨_, (), rfl, ⟨rfl, trivial⟩, by rw [ht]; exact hP9, va_K.moved hW.alike hK, hD9⟩, hS.F ht⟩) hS.2.2 d_DS_password_103
