theorem d_DS_spoil_0 : decode b_DS_spoil 0 = .ok (.iload_n 1, 1) := by decide +kernel
theorem d_DS_spoil_1 : decode b_DS_spoil 1 = .ok (.iconst 0, 1) := by decide +kernel
theorem d_DS_spoil_2 : decode b_DS_spoil 2 = .ok (.aload_n 0, 1) := by decide +kernel
theorem d_DS_spoil_3 : decode b_DS_spoil 3 = .ok (.getfield 14, 3) := by decide +kernel
theorem d_DS_spoil_6 : decode b_DS_spoil 6 = .ok (.getfield 81, 3) := by decide +kernel
theorem d_DS_spoil_9 : decode b_DS_spoil 9 = .ok (.iconst 1, 1) := by decide +kernel
theorem d_DS_spoil_10 : decode b_DS_spoil 10 = .ok (.isub, 1) := by decide +kernel
theorem d_DS_spoil_11 : decode b_DS_spoil 11 = .ok (.invokestatic 38, 3) := by decide +kernel
theorem d_DS_spoil_14 : decode b_DS_spoil 14 = .ok (.iload_n 2, 1) := by decide +kernel
theorem d_DS_spoil_15 : decode b_DS_spoil 15 = .ok (.invokestatic 62, 3) := by decide +kernel
theorem d_DS_spoil_18 : decode b_DS_spoil 18 = .ok (.aload_n 0, 1) := by decide +kernel
theorem d_DS_spoil_19 : decode b_DS_spoil 19 = .ok (.getfield 14, 3) := by decide +kernel
theorem d_DS_spoil_22 : decode b_DS_spoil 22 = .ok (.getfield 107, 3) := by decide +kernel
theorem d_DS_spoil_25 : decode b_DS_spoil 25 = .ok (.iload_n 1, 1) := by decide +kernel
theorem d_DS_spoil_26 : decode b_DS_spoil 26 = .ok (.dup2, 1) := by decide +kernel
theorem d_DS_spoil_27 : decode b_DS_spoil 27 = .ok (.iaload, 1) := by decide +kernel
theorem d_DS_spoil_28 : decode b_DS_spoil 28 = .ok (.iload_n 2, 1) := by decide +kernel
theorem d_DS_spoil_29 : decode b_DS_spoil 29 = .ok (.ixor, 1) := by decide +kernel
theorem d_DS_spoil_30 : decode b_DS_spoil 30 = .ok (.iastore, 1) := by decide +kernel
theorem d_DS_spoil_31 : decode b_DS_spoil 31 = .ok (.aload_n 0, 1) := by decide +kernel
theorem d_DS_spoil_32 : decode b_DS_spoil 32 = .ok (.getfield 14, 3) := by decide +kernel
theorem d_DS_spoil_35 : decode b_DS_spoil 35 = .ok (.getfield 107, 3) := by decide +kernel
theorem d_DS_spoil_38 : decode b_DS_spoil 38 = .ok (.iload_n 1, 1) := by decide +kernel
theorem d_DS_spoil_39 : decode b_DS_spoil 39 = .ok (.iaload, 1) := by decide +kernel
theorem d_DS_spoil_40 : decode b_DS_spoil 40 = .ok (.ireturn, 1) := by decide +kernel
theorem d_DS_size_0 : decode b_DS_size 0 = .ok (.aload_n 0, 1) := by decide +kernel
theorem d_DS_size_1 : decode b_DS_size 1 = .ok (.getfield 31, 3) := by decide +kernel
theorem d_DS_size_4 : decode b_DS_size 4 = .ok (.getfield 104, 3) := by decide +kernel
theorem d_DS_size_7 : decode b_DS_size 7 = .ok (.getfield 81, 3) := by decide +kernel
theorem d_DS_size_10 : decode b_DS_size 10 = .ok (.ireturn, 1) := by decide +kernel
theorem d_DS_reply_0 : decode b_DS_reply 0 = .ok (.iload_n 3, 1) := by decide +kernel
theorem d_DS_reply_1 : decode b_DS_reply 1 = .ok (.iconst 1, 1) := by decide +kernel
theorem d_DS_reply_2 : decode b_DS_reply 2 = .ok (.bipush 60, 2) := by decide +kernel
theorem d_DS_reply_4 : decode b_DS_reply 4 = .ok (.invokestatic 38, 3) := by decide +kernel
theorem d_DS_reply_7 : decode b_DS_reply 7 = .ok (.aload_n 0, 1) := by decide +kernel
theorem d_DS_reply_8 : decode b_DS_reply 8 = .ok (.getfield 31, 3) := by decide +kernel
theorem d_DS_reply_11 : decode b_DS_reply 11 = .ok (.getfield 104, 3) := by decide +kernel
theorem d_DS_reply_14 : decode b_DS_reply 14 = .ok (.astore 4, 2) := by decide +kernel
theorem d_DS_reply_16 : decode b_DS_reply 16 = .ok (.aload 4, 2) := by decide +kernel
theorem d_DS_reply_18 : decode b_DS_reply 18 = .ok (.getfield 107, 3) := by decide +kernel
theorem d_DS_reply_21 : decode b_DS_reply 21 = .ok (.iconst 0, 1) := by decide +kernel
theorem d_DS_reply_22 : decode b_DS_reply 22 = .ok (.iaload, 1) := by decide +kernel
theorem d_DS_reply_23 : decode b_DS_reply 23 = .ok (.bipush 11, 2) := by decide +kernel
theorem d_DS_reply_25 : decode b_DS_reply 25 = .ok (.if_icmp .eq 5, 3) := by decide +kernel
theorem d_DS_reply_28 : decode b_DS_reply 28 = .ok (.iconst (-1), 1) := by decide +kernel
theorem d_DS_reply_29 : decode b_DS_reply 29 = .ok (.ireturn, 1) := by decide +kernel
theorem d_DS_ticks_0 : decode b_DS_ticks 0 = .ok (.iload_n 1, 1) := by decide +kernel
theorem d_DS_ticks_1 : decode b_DS_ticks 1 = .ok (.iconst 1, 1) := by decide +kernel
theorem d_DS_ticks_2 : decode b_DS_ticks 2 = .ok (.sipush 1000, 3) := by decide +kernel
theorem d_DS_ticks_5 : decode b_DS_ticks 5 = .ok (.invokestatic 38, 3) := by decide +kernel
theorem d_DS_ticks_8 : decode b_DS_ticks 8 = .ok (.aload_n 0, 1) := by decide +kernel
theorem d_DS_ticks_9 : decode b_DS_ticks 9 = .ok (.getfield 31, 3) := by decide +kernel
theorem d_DS_ticks_12 : decode b_DS_ticks 12 = .ok (.getfield 149, 3) := by decide +kernel
theorem d_DS_ticks_15 : decode b_DS_ticks 15 = .ok (.iload_n 1, 1) := by decide +kernel
theorem d_DS_ticks_16 : decode b_DS_ticks 16 = .ok (.iadd, 1) := by decide +kernel
theorem d_DS_ticks_17 : decode b_DS_ticks 17 = .ok (.iconst 0, 1) := by decide +kernel
theorem d_DS_ticks_18 : decode b_DS_ticks 18 = .ok (.ldc 152, 2) := by decide +kernel
theorem d_DS_ticks_20 : decode b_DS_ticks 20 = .ok (.invokestatic 38, 3) := by decide +kernel
theorem d_DS_ticks_23 : decode b_DS_ticks 23 = .ok (.aload_n 0, 1) := by decide +kernel
theorem d_DS_ticks_24 : decode b_DS_ticks 24 = .ok (.getfield 31, 3) := by decide +kernel
theorem d_DS_ticks_27 : decode b_DS_ticks 27 = .ok (.dup, 1) := by decide +kernel
theorem d_DS_ticks_28 : decode b_DS_ticks 28 = .ok (.getfield 149, 3) := by decide +kernel
theorem d_DS_ticks_31 : decode b_DS_ticks 31 = .ok (.iload_n 1, 1) := by decide +kernel
theorem d_DS_ticks_32 : decode b_DS_ticks 32 = .ok (.iadd, 1) := by decide +kernel
theorem d_DS_ticks_33 : decode b_DS_ticks 33 = .ok (.putfield 149, 3) := by decide +kernel
theorem d_DS_ticks_36 : decode b_DS_ticks 36 = .ok (.aload_n 0, 1) := by decide +kernel
theorem d_DS_ticks_37 : decode b_DS_ticks 37 = .ok (.getfield 31, 3) := by decide +kernel
theorem d_DS_ticks_40 : decode b_DS_ticks 40 = .ok (.getfield 149, 3) := by decide +kernel
theorem d_DS_ticks_43 : decode b_DS_ticks 43 = .ok (.ireturn, 1) := by decide +kernel
theorem d_DS_count_0 : decode b_DS_count 0 = .ok (.iload_n 1, 1) := by decide +kernel
theorem d_DS_count_1 : decode b_DS_count 1 = .ok (.tableswitch 96 0 5 #[39, 50, 61, 72, 80, 88], 39) := by decide +kernel
theorem d_DS_count_40 : decode b_DS_count 40 = .ok (.aload_n 0, 1) := by decide +kernel
theorem d_DS_count_41 : decode b_DS_count 41 = .ok (.getfield 31, 3) := by decide +kernel
theorem d_DS_count_44 : decode b_DS_count 44 = .ok (.getfield 153, 3) := by decide +kernel
theorem d_DS_count_47 : decode b_DS_count 47 = .ok (.getfield 157, 3) := by decide +kernel
theorem d_DS_count_50 : decode b_DS_count 50 = .ok (.ireturn, 1) := by decide +kernel
theorem d_DS_count_51 : decode b_DS_count 51 = .ok (.aload_n 0, 1) := by decide +kernel
theorem d_DS_count_52 : decode b_DS_count 52 = .ok (.getfield 31, 3) := by decide +kernel
theorem d_DS_count_55 : decode b_DS_count 55 = .ok (.getfield 162, 3) := by decide +kernel
theorem d_DS_count_58 : decode b_DS_count 58 = .ok (.getfield 166, 3) := by decide +kernel
theorem d_DS_count_61 : decode b_DS_count 61 = .ok (.ireturn, 1) := by decide +kernel
theorem d_DS_count_62 : decode b_DS_count 62 = .ok (.aload_n 0, 1) := by decide +kernel
theorem d_DS_count_63 : decode b_DS_count 63 = .ok (.getfield 31, 3) := by decide +kernel
theorem d_DS_count_66 : decode b_DS_count 66 = .ok (.getfield 169, 3) := by decide +kernel
theorem d_DS_count_69 : decode b_DS_count 69 = .ok (.getfield 173, 3) := by decide +kernel
theorem d_DS_count_72 : decode b_DS_count 72 = .ok (.ireturn, 1) := by decide +kernel
theorem d_DS_count_73 : decode b_DS_count 73 = .ok (.aload_n 0, 1) := by decide +kernel
theorem d_DS_count_74 : decode b_DS_count 74 = .ok (.getfield 31, 3) := by decide +kernel
theorem d_DS_count_77 : decode b_DS_count 77 = .ok (.getfield 176, 3) := by decide +kernel
theorem d_DS_count_80 : decode b_DS_count 80 = .ok (.ireturn, 1) := by decide +kernel
theorem d_DS_count_81 : decode b_DS_count 81 = .ok (.aload_n 0, 1) := by decide +kernel
theorem d_DS_count_82 : decode b_DS_count 82 = .ok (.getfield 31, 3) := by decide +kernel
theorem d_DS_count_85 : decode b_DS_count 85 = .ok (.getfield 179, 3) := by decide +kernel
theorem d_DS_count_88 : decode b_DS_count 88 = .ok (.ireturn, 1) := by decide +kernel
theorem d_DS_count_89 : decode b_DS_count 89 = .ok (.aload_n 0, 1) := by decide +kernel
theorem d_DS_count_90 : decode b_DS_count 90 = .ok (.getfield 14, 3) := by decide +kernel
theorem d_DS_count_93 : decode b_DS_count 93 = .ok (.getfield 81, 3) := by decide +kernel
theorem d_DS_count_96 : decode b_DS_count 96 = .ok (.ireturn, 1) := by decide +kernel
theorem d_Rq_isWhole_0 : decode b_Rq_isWhole 0 = .ok (.aload_n 0, 1) := by decide +kernel
theorem d_Rq_isWhole_1 : decode b_Rq_isWhole 1 = .ok (.getfield 9, 3) := by decide +kernel
theorem d_Rq_isWhole_4 : decode b_Rq_isWhole 4 = .ok (.iconst 0, 1) := by decide +kernel
theorem d_Rq_isWhole_5 : decode b_Rq_isWhole 5 = .ok (.invokestatic 19, 3) := by decide +kernel
theorem d_Rq_isWhole_8 : decode b_Rq_isWhole 8 = .ok (.aload_n 0, 1) := by decide +kernel
theorem d_Rq_isWhole_9 : decode b_Rq_isWhole 9 = .ok (.getfield 15, 3) := by decide +kernel
theorem d_Rq_isWhole_12 : decode b_Rq_isWhole 12 = .ok (.getfield 25, 3) := by decide +kernel
theorem d_Rq_isWhole_15 : decode b_Rq_isWhole 15 = .ok (.istore_n 1, 1) := by decide +kernel
theorem d_Rq_isWhole_16 : decode b_Rq_isWhole 16 = .ok (.iload_n 1, 1) := by decide +kernel
theorem d_Rq_isWhole_17 : decode b_Rq_isWhole 17 = .ok (.bipush 20, 2) := by decide +kernel
theorem d_Rq_isWhole_19 : decode b_Rq_isWhole 19 = .ok (.if_icmp .lt 37, 3) := by decide +kernel
theorem d_Rq_isWhole_22 : decode b_Rq_isWhole 22 = .ok (.iload_n 1, 1) := by decide +kernel
theorem d_Rq_isWhole_23 : decode b_Rq_isWhole 23 = .ok (.sipush 1000, 3) := by decide +kernel
theorem d_Rq_isWhole_26 : decode b_Rq_isWhole 26 = .ok (.if_icmp .gt 30, 3) := by decide +kernel
theorem d_Rq_isWhole_29 : decode b_Rq_isWhole 29 = .ok (.aload_n 0, 1) := by decide +kernel
theorem d_Rq_isWhole_30 : decode b_Rq_isWhole 30 = .ok (.getfield 15, 3) := by decide +kernel
theorem d_Rq_isWhole_33 : decode b_Rq_isWhole 33 = .ok (.getfield 31, 3) := by decide +kernel
theorem d_Rq_isWhole_36 : decode b_Rq_isWhole 36 = .ok (.iconst 2, 1) := by decide +kernel
theorem d_Rq_isWhole_37 : decode b_Rq_isWhole 37 = .ok (.iaload, 1) := by decide +kernel
theorem d_Rq_isWhole_38 : decode b_Rq_isWhole 38 = .ok (.sipush 256, 3) := by decide +kernel
theorem d_Rq_isWhole_41 : decode b_Rq_isWhole 41 = .ok (.imul, 1) := by decide +kernel
theorem d_Rq_isWhole_42 : decode b_Rq_isWhole 42 = .ok (.aload_n 0, 1) := by decide +kernel
theorem d_Rq_isWhole_43 : decode b_Rq_isWhole 43 = .ok (.getfield 15, 3) := by decide +kernel
theorem d_Rq_isWhole_46 : decode b_Rq_isWhole 46 = .ok (.getfield 31, 3) := by decide +kernel
theorem d_Rq_isWhole_49 : decode b_Rq_isWhole 49 = .ok (.iconst 3, 1) := by decide +kernel
theorem d_Rq_isWhole_50 : decode b_Rq_isWhole 50 = .ok (.iaload, 1) := by decide +kernel
theorem d_Rq_isWhole_51 : decode b_Rq_isWhole 51 = .ok (.iadd, 1) := by decide +kernel
theorem d_Rq_isWhole_52 : decode b_Rq_isWhole 52 = .ok (.iload_n 1, 1) := by decide +kernel
theorem d_Rq_isWhole_53 : decode b_Rq_isWhole 53 = .ok (.if_icmp .eq 5, 3) := by decide +kernel
theorem d_Rq_isWhole_58 : decode b_Rq_isWhole 58 = .ok (.bipush 20, 2) := by decide +kernel
theorem d_Rq_isWhole_60 : decode b_Rq_isWhole 60 = .ok (.istore_n 2, 1) := by decide +kernel
theorem d_Rq_isWhole_61 : decode b_Rq_isWhole 61 = .ok (.iload_n 2, 1) := by decide +kernel
theorem d_Rq_isWhole_62 : decode b_Rq_isWhole 62 = .ok (.iload_n 1, 1) := by decide +kernel
theorem d_Rq_isWhole_63 : decode b_Rq_isWhole 63 = .ok (.if_icmp .ge 69, 3) := by decide +kernel
theorem d_Rq_isWhole_132 : decode b_Rq_isWhole 132 = .ok (.iconst 1, 1) := by decide +kernel
theorem d_Rq_isWhole_133 : decode b_Rq_isWhole 133 = .ok (.ireturn, 1) := by decide +kernel
theorem d_Rq_code_0 : decode b_Rq_code 0 = .ok (.aload_n 0, 1) := by decide +kernel
theorem d_Rq_code_1 : decode b_Rq_code 1 = .ok (.getfield 15, 3) := by decide +kernel
theorem d_Rq_code_4 : decode b_Rq_code 4 = .ok (.getfield 31, 3) := by decide +kernel
theorem d_Rq_code_7 : decode b_Rq_code 7 = .ok (.iconst 0, 1) := by decide +kernel
theorem d_Rq_code_8 : decode b_Rq_code 8 = .ok (.iaload, 1) := by decide +kernel
theorem d_Rq_code_9 : decode b_Rq_code 9 = .ok (.ireturn, 1) := by decide +kernel
theorem d_Rq_has_0 : decode b_Rq_has 0 = .ok (.aload_n 0, 1) := by decide +kernel
theorem d_Rq_has_1 : decode b_Rq_has 1 = .ok (.getfield 9, 3) := by decide +kernel
theorem d_Rq_has_4 : decode b_Rq_has 4 = .ok (.iload_n 1, 1) := by decide +kernel
theorem d_Rq_has_5 : decode b_Rq_has 5 = .ok (.iaload, 1) := by decide +kernel
theorem d_Rq_has_6 : decode b_Rq_has 6 = .ok (.ifCond .le 7, 3) := by decide +kernel
theorem d_Rq_has_13 : decode b_Rq_has 13 = .ok (.iconst 0, 1) := by decide +kernel
theorem d_Rq_has_14 : decode b_Rq_has 14 = .ok (.ireturn, 1) := by decide +kernel
theorem d_Sv_isProved_0 : decode b_Sv_isProved 0 = .ok (.aload_n 0, 1) := by decide +kernel
theorem d_Sv_isProved_1 : decode b_Sv_isProved 1 = .ok (.getfield 67, 3) := by decide +kernel
theorem d_Sv_isProved_4 : decode b_Sv_isProved 4 = .ok (.bipush 80, 2) := by decide +kernel
theorem d_Sv_isProved_6 : decode b_Sv_isProved 6 = .ok (.invokevirtual 122, 3) := by decide +kernel
theorem d_Sv_isProved_9 : decode b_Sv_isProved 9 = .ok (.ifCond .ne 5, 3) := by decide +kernel
theorem d_Sv_isProved_12 : decode b_Sv_isProved 12 = .ok (.iconst 0, 1) := by decide +kernel
theorem d_Sv_isProved_13 : decode b_Sv_isProved 13 = .ok (.ireturn, 1) := by decide +kernel
theorem d_Sv_take_0 : decode b_Sv_take 0 = .ok (.aload_n 0, 1) := by decide +kernel
theorem d_Sv_take_1 : decode b_Sv_take 1 = .ok (.getfield 67, 3) := by decide +kernel
theorem d_Sv_take_4 : decode b_Sv_take 4 = .ok (.invokevirtual 78, 3) := by decide +kernel
theorem d_Sv_take_7 : decode b_Sv_take 7 = .ok (.ifCond .ne 6, 3) := by decide +kernel
theorem d_Sv_take_13 : decode b_Sv_take 13 = .ok (.aload_n 0, 1) := by decide +kernel
theorem d_Sv_take_14 : decode b_Sv_take 14 = .ok (.getfield 67, 3) := by decide +kernel
theorem d_Sv_take_17 : decode b_Sv_take 17 = .ok (.invokevirtual 82, 3) := by decide +kernel
theorem d_Sv_take_20 : decode b_Sv_take 20 = .ok (.istore_n 2, 1) := by decide +kernel
theorem d_Sv_take_21 : decode b_Sv_take 21 = .ok (.iload_n 2, 1) := by decide +kernel
theorem d_Sv_take_22 : decode b_Sv_take 22 = .ok (.iconst 1, 1) := by decide +kernel
theorem d_Sv_take_23 : decode b_Sv_take 23 = .ok (.if_icmp .eq 11, 3) := by decide +kernel
theorem d_Sv_take_34 : decode b_Sv_take 34 = .ok (.iload_n 2, 1) := by decide +kernel
theorem d_Sv_take_35 : decode b_Sv_take 35 = .ok (.iconst 1, 1) := by decide +kernel
theorem d_Sv_take_36 : decode b_Sv_take 36 = .ok (.if_icmp .ne 14, 3) := by decide +kernel
theorem d_Sv_take_39 : decode b_Sv_take 39 = .ok (.aload_n 0, 1) := by decide +kernel
theorem d_Sv_take_40 : decode b_Sv_take 40 = .ok (.iload_n 1, 1) := by decide +kernel
theorem d_Sv_take_41 : decode b_Sv_take 41 = .ok (.invokevirtual 86, 3) := by decide +kernel
theorem d_Sv_take_44 : decode b_Sv_take 44 = .ok (.ifCond .ne 17, 3) := by decide +kernel
theorem d_Sv_take_47 : decode b_Sv_take 47 = .ok (.goto 11, 3) := by decide +kernel
theorem d_Sv_take_58 : decode b_Sv_take 58 = .ok (.bipush (-4), 2) := by decide +kernel
theorem d_Sv_take_60 : decode b_Sv_take 60 = .ok (.ireturn, 1) := by decide +kernel
theorem d_DS_send_0 : decode b_DS_send 0 = .ok (.iload_n 1, 1) := by decide +kernel
theorem d_DS_send_1 : decode b_DS_send 1 = .ok (.invokestatic 35, 3) := by decide +kernel
theorem d_DS_send_4 : decode b_DS_send 4 = .ok (.aload_n 0, 1) := by decide +kernel
theorem d_DS_send_5 : decode b_DS_send 5 = .ok (.getfield 31, 3) := by decide +kernel
theorem d_DS_send_8 : decode b_DS_send 8 = .ok (.iload_n 1, 1) := by decide +kernel
theorem d_DS_send_9 : decode b_DS_send 9 = .ok (.invokevirtual 145, 3) := by decide +kernel
theorem d_DS_send_12 : decode b_DS_send 12 = .ok (.ireturn, 1) := by decide +kernel
set_option maxHeartbeats 4000000 in
set_option maxRecDepth 100000 in
/-- spoil -/
theorem c_spoil (l : Launch) (dC : Nat → ClassId) (dI : Nat → Nat → Nat) (cT : Nat → ClassId) (sz : Nat) (ds : Nat) (dr : Nat) (sv : Nat) (rr : Nat) (f : Nat → Int32) (j : Nat) (x : Int32) (hj : j < 20) (hx1 : ¬ x < 0) (hx2 : ¬ 255 < x) : Met l y_DS_spoil (Cond.code y_DS_spoil b_DS_spoil 3 (Option.some Jvm.ClassFile.FieldType.int) :: BIG) ({ frames := 2, cells := 0, slots := 0, locals := 45 }) (va_Pc [.ref ds, .int (nI j), .int x] (fun U => U.heap.size = sz ∧ va_P (dC, dI) vcl [(ds, .inr (0, [.ref dr, .ref sv])), (dr, .inr (2, [.ref rr, .int (nI 20)])), (rr, .inl ((cT 0), 1000, .inl f))] U.heap ∧ va_K (dC, dI) vcl (tyL cT) U ∧ va_D (fun _ => True) [(ds, .inr (0, [.ref dr, .ref sv])), (dr, .inr (2, [.ref rr, .int (nI 20)])), (rr, .inl ((cT 0), 1000, .inl f))])) (va_Qi (S := Unit) (fun r u => r = f j ^^^ x ∧ (True)) (fun u t => va_P (dC, dI) vcl [] t.heap ∧ va_K (dC, dI) vcl (tyL cT) t ∧ va_D (va_A [(ds, .inr (0, [.ref dr, .ref sv])), (dr, .inr (2, [.ref rr, .int (nI 20)])), (rr, .inl ((cT 0), 1000, .inl f))] sz) []) (va_A [(ds, .inr (0, [.ref dr, .ref sv])), (dr, .inr (2, [.ref rr, .int (nI 20)])), (rr, .inl ((cT 0), 1000, .inl f))] sz)) 0 0 (va_A [(ds, .inr (0, [.ref dr, .ref sv])), (dr, .inr (2, [.ref rr, .int (nI 20)])), (rr, .inl ((cT 0), 1000, .inl f))] sz) := by
  refine Met.ofW (cc := b_DS_spoil) (maxL := 3) (ret := (Option.some Jvm.ClassFile.FieldType.int)) (by decide) rfl ?_
  intro p e s m args below meth c s₁ B hml hv
  obtain ⟨hargs, hsz, hP, hK, hD0⟩ := hv
  have hx := B.exec
  have hb := B.bytes
  have hr := B.returns
  have hts := atoms_spec (ws := (Cond.code y_DS_spoil b_DS_spoil 3 (Option.some Jvm.ClassFile.FieldType.int) :: BIG)) B.pre
  have hg : ∀ w ∈ BIG, w.before _ s = true := fun w h => hts w (List.mem_cons_of_mem _ h)
  have hown : s.vm.findClass "DoorServer" = some m.cls := findClass_of_methodNamed B.named
  have hlocks := B.notSynchronized
  subst hsz
  have hD := hD0.self (sz := s.heap.size)
  generalize hAe : va_A [(ds, .inr (0, [.ref dr, .ref sv])), (dr, .inr (2, [.ref rr, .int (nI 20)])), (rr, .inl ((cT 0), 1000, .inl f))] s.heap.size = A at hD ⊢
  have hA : ∀ q : Nat, s.heap.size ≤ q → A q := fun q h => by rw [← hAe]; exact Or.inr h
  have hS : va_S A s.heap s.heap [] := va_S.rf
  have hl := lv_entry ([.ref ds, .int (nI j), .int x]) (n := 3) (Nat.le_of_ble_eq_true rfl)
  refine W.eq (g2 := entryFrame m (List.toArray [.ref ds, .int (nI j), .int x]) 3) (by rw [hargs]) ?_
  rw [lg_entry_eq]
  generalize (lg_sl ([.ref ds, .int (nI j), .int x]) ++ List.replicate (3 - (lg_sl ([.ref ds, .int (nI j), .int x])).length) Slot.unset).toArray = ls at hl ⊢
  have hl : lv_has ls 3 [(0, .ref ds), (1, .int (nI j)), (2, .int x)] := hl
  change W p l e ({ frames := 2, cells := 0, slots := 0, locals := 45 } : Room) s m args below meth c s.heap [] 0 0 _ _
  have hP : va_P (dC, dI) vcl [(ds, .inr (0, [.ref dr, .ref sv])), (dr, .inr (2, [.ref rr, .int (nI 20)])), (rr, .inl ((cT 0), 1000, .inl f))] s.heap := hP
  refine lv_iload_n hx hb d_DS_spoil_0 rfl (lv_at hl 1 rfl) ?_
  refine lv_iconst (v := 0) hx hb d_DS_spoil_1 (by decide) ?_
  refine lv_aload_n hx hb d_DS_spoil_2 rfl (lv_at hl 0 rfl) ?_
  refine va_get (D := (dC, dI)) (ci := 0) (v := (.ref dr)) (C := R_DS) (T := F_DS) (N := 2) hx hb hg in_DS hown hK hP 0 rfl rfl 0 (by decide) (hg _ k_368) (fun _ h9 => h9) rfl d_DS_spoil_3 ?_
  refine va_get (D := (dC, dI)) (ci := 2) (v := (.int (nI 20))) (C := R_Pk) (T := F_Pk) (N := 2) hx hb hg in_Pk hown hK hP 1 rfl rfl 1 (by decide) (hg _ k_59) (fun x9 h9 => u_same (hg _ k_53) x9 h9) rfl d_DS_spoil_6 ?_
  refine lv_iconst (v := 1) hx hb d_DS_spoil_9 (by decide) ?_
  refine lv_isub hx hb d_DS_spoil_10 ?_
  refine lv_topi (fun x2 e1 => ?_)
  obtain rfl : x2 = nI 19 := by rw [e1]; rfl
  have hPc := hP.sub (ws' := []) [] rfl
  have hDc := hD.sub (ws' := []) [] (by decide) rfl
  have hFc := va_free (wc := []) hD hS hA [] rfl
  refine va_callv (va_runS (As := [.int (nI j), .int 0, .int (nI 19)]) (rest := []) ⟨hx, hb, hml, hown, hg⟩ (c_requireWithin l dC dI cT s.heap.size (nI j) 0 (nI 19) (nI_pos (by omega)) (nI_nlt (by omega) (by decide))) (va_cwS 3 hg (gI (List.forall_mem_append.mpr ⟨List.forall_mem_cons.mpr ⟨k_390, List.forall_mem_cons.mpr ⟨k_391, List.forall_mem_cons.mpr ⟨k_1, fun _ h => absurd h List.not_mem_nil⟩⟩⟩, List.forall_mem_cons.mpr ⟨k_392, fun _ h => h⟩⟩)) rfl rfl rfl (by decide +kernel) ⟨Nat.le_of_ble_eq_true rfl, Nat.le_of_ble_eq_true rfl⟩) ⟨fun a U g mk q => by obtain ⟨q0, q1, qP, qK, qD⟩ := q; exact ⟨q0, q1, qP, va_K.moved (u := U) (U := U.calling g mk a) (Vm.Alike.refl U.vm) qK, qD⟩, fun U hU hW => ⟨rfl, by rw [hU], by rw [hU]; exact hPc, va_K.moved hW.alike hK, hDc.weaken (fun _ _ _ _ => trivial)⟩⟩ rfl rfl hl.1 rfl (lv_room (Nat.le_of_ble_eq_true rfl)) d_DS_spoil_11 ⟨Nat.le_of_ble_eq_true rfl, Nat.le_of_ble_eq_true rfl⟩) hS (fun q _ h => hFc q h) hFc (fun u t H1 locs ht hvm hw hB hz1 hk1 hS => ?_)
  try dsimp only at hw hB
  obtain ⟨hP1, hK1, hD1⟩ := hB
  rw [ht] at hP1
  obtain ⟨hP, hD⟩ := va_join (wr := [(ds, .inr (0, [.ref dr, .ref sv])), (dr, .inr (2, [.ref rr, .int (nI 20)])), (rr, .inl ((cT 0), 1000, .inl f))]) (w1 := []) hP hD [] [0, 1, 2] rfl rfl (by decide) (by decide) hk1 hFc hP1 hD1
  have hw3 := hw
  clear hPc hDc hFc hz1 hk1 hP1 hK1 hD1
  generalize H1 = H at hP hS ⊢
  have hP : va_P (dC, dI) vcl [(ds, .inr (0, [.ref dr, .ref sv])), (dr, .inr (2, [.ref rr, .int (nI 20)])), (rr, .inl ((cT 0), 1000, .inl f))] H := hP
  have hD : va_D A [(ds, .inr (0, [.ref dr, .ref sv])), (dr, .inr (2, [.ref rr, .int (nI 20)])), (rr, .inl ((cT 0), 1000, .inl f))] := hD
  refine lv_iload_n hx hb d_DS_spoil_14 rfl (lv_at hl 2 rfl) ?_
  have hPc := hP.sub (ws' := []) [] rfl
  have hDc := hD.sub (ws' := []) [] (by decide) rfl
  have hFc := va_free (wc := []) hD hS hA [] rfl
  refine va_callv (va_runS (As := [.int x]) (rest := []) ⟨hx, hb, hml, hown, hg⟩ (c_requireByte l dC dI cT H.size x (hx1) (hx2)) (va_cwS 1 hg (gI (List.forall_mem_append.mpr ⟨List.forall_mem_cons.mpr ⟨k_489, List.forall_mem_cons.mpr ⟨k_490, List.forall_mem_cons.mpr ⟨k_1, fun _ h => absurd h List.not_mem_nil⟩⟩⟩, List.forall_mem_cons.mpr ⟨k_491, fun _ h => h⟩⟩)) rfl rfl rfl (by decide +kernel) ⟨Nat.le_of_ble_eq_true rfl, Nat.le_of_ble_eq_true rfl⟩) ⟨fun a U g mk q => by obtain ⟨q0, q1, qP, qK, qD⟩ := q; exact ⟨q0, q1, qP, va_K.moved (u := U) (U := U.calling g mk a) (Vm.Alike.refl U.vm) qK, qD⟩, fun U hU hW => ⟨rfl, by rw [hU], by rw [hU]; exact hPc, va_K.moved hW.alike hK, hDc.weaken (fun _ _ _ _ => trivial)⟩⟩ rfl rfl hl.1 rfl (lv_room (Nat.le_of_ble_eq_true rfl)) d_DS_spoil_15 ⟨Nat.le_of_ble_eq_true rfl, Nat.le_of_ble_eq_true rfl⟩) hS (fun q _ h => hFc q h) hFc (fun u t H1 locs ht hvm hw hB hz1 hk1 hS => ?_)
  try dsimp only at hw hB
  obtain ⟨hP1, hK1, hD1⟩ := hB
  rw [ht] at hP1
  obtain ⟨hP, hD⟩ := va_join (wr := [(ds, .inr (0, [.ref dr, .ref sv])), (dr, .inr (2, [.ref rr, .int (nI 20)])), (rr, .inl ((cT 0), 1000, .inl f))]) (w1 := []) hP hD [] [0, 1, 2] rfl rfl (by decide) (by decide) hk1 hFc hP1 hD1
  have hw4 := hw
  clear hPc hDc hFc hz1 hk1 hP1 hK1 hD1
  generalize H1 = H at hP hS ⊢
  have hP : va_P (dC, dI) vcl [(ds, .inr (0, [.ref dr, .ref sv])), (dr, .inr (2, [.ref rr, .int (nI 20)])), (rr, .inl ((cT 0), 1000, .inl f))] H := hP
  have hD : va_D A [(ds, .inr (0, [.ref dr, .ref sv])), (dr, .inr (2, [.ref rr, .int (nI 20)])), (rr, .inl ((cT 0), 1000, .inl f))] := hD
  refine lv_aload_n hx hb d_DS_spoil_18 rfl (lv_at hl 0 rfl) ?_
  refine va_get (D := (dC, dI)) (ci := 0) (v := (.ref dr)) (C := R_DS) (T := F_DS) (N := 2) hx hb hg in_DS hown hK hP 0 rfl rfl 0 (by decide) (hg _ k_368) (fun _ h9 => h9) rfl d_DS_spoil_19 ?_
  refine va_get (D := (dC, dI)) (ci := 2) (v := (.ref rr)) (C := R_Pk) (T := F_Pk) (N := 2) hx hb hg in_Pk hown hK hP 1 rfl rfl 0 (by decide) (hg _ k_49) (fun x9 h9 => u_same (hg _ k_41) x9 h9) rfl d_DS_spoil_22 ?_
  refine lv_iload_n hx hb d_DS_spoil_25 rfl (lv_at hl 1 rfl) ?_
  refine lv_dup2_11 hx hb d_DS_spoil_26 rfl rfl ?_
  refine va_iald hx hb hK hP 2 0 rfl rfl (i := (nI j)) (vp_in_nI (show j < 1000 by omega) (by decide)) d_DS_spoil_27 ?_
  refine lv_topi (fun x6 e5 => ?_)
  obtain rfl : x6 = f j := by rw [e5]; rw [nI_clamp (by omega)]
  refine lv_iload_n hx hb d_DS_spoil_28 rfl (lv_at hl 2 rfl) ?_
  refine lv_ixor hx hb d_DS_spoil_29 ?_
  refine va_iast hx hb hK hP hD hS 2 0 rfl rfl (i := (nI j)) (vp_in_nI (show j < 1000 by omega) (by decide)) d_DS_spoil_30 (fun H locs hP hD hS => ?_)
  have ef7 : upd f (nI j).toNatClampNeg ((f j) ^^^ x) = upd f j (f j ^^^ x) := by rw [nI_clamp (by omega)]
  rw [ef7] at hP hD
  have hP : va_P (dC, dI) vcl [(ds, .inr (0, [.ref dr, .ref sv])), (dr, .inr (2, [.ref rr, .int (nI 20)])), (rr, .inl ((cT 0), 1000, .inl (upd f j (f j ^^^ x))))] H := hP
  have hD : va_D A [(ds, .inr (0, [.ref dr, .ref sv])), (dr, .inr (2, [.ref rr, .int (nI 20)])), (rr, .inl ((cT 0), 1000, .inl (upd f j (f j ^^^ x))))] := hD
  refine lv_aload_n hx hb d_DS_spoil_31 rfl (lv_at hl 0 rfl) ?_
  refine va_get (D := (dC, dI)) (ci := 0) (v := (.ref dr)) (C := R_DS) (T := F_DS) (N := 2) hx hb hg in_DS hown hK hP 0 rfl rfl 0 (by decide) (hg _ k_368) (fun _ h9 => h9) rfl d_DS_spoil_32 ?_
  refine va_get (D := (dC, dI)) (ci := 2) (v := (.ref rr)) (C := R_Pk) (T := F_Pk) (N := 2) hx hb hg in_Pk hown hK hP 1 rfl rfl 0 (by decide) (hg _ k_49) (fun x9 h9 => u_same (hg _ k_41) x9 h9) rfl d_DS_spoil_35 ?_
  refine lv_iload_n hx hb d_DS_spoil_38 rfl (lv_at hl 1 rfl) ?_
  refine va_iald hx hb hK hP 2 0 rfl rfl (i := (nI j)) (vp_in_nI (show j < 1000 by omega) (by decide)) d_DS_spoil_39 ?_
  refine lv_topi (fun x9 e8 => ?_)
  obtain rfl : x9 = f j ^^^ x := by rw [e8]; rw [nI_clamp (by omega), pk_us]
  have hP9 := hP.sub (ws' := []) [] rfl
  have hD9 := hD.sub (ws' := []) [] (by decide) rfl
  exact W.iret (v := f j ^^^ x) hx hb hr (fun t ht hW => ⟨⟨_, (), rfl, ⟨rfl, trivial⟩, by rw [ht]; exact hP9, va_K.moved hW.alike hK, hD9⟩, hS.F ht⟩) hS.2.2 d_DS_spoil_40
set_option maxHeartbeats 4000000 in
set_option maxRecDepth 100000 in
/-- size, without an answer -/
theorem c_size (l : Launch) (dC : Nat → ClassId) (dI : Nat → Nat → Nat) (cT : Nat → ClassId) (sz : Nat) (ds : Nat) (dr : Nat) (sv : Nat) (rr : Nat) (g0 : Nat) (se : Nat) (pw : Nat) (ty : Nat) (an : Nat) (aw : Nat) (ts : Nat) (ss : Nat) (rq : Nat) (tm : Int32) (n3 : Int32) (n4 : Int32) (ar : Nat) (fa : Nat → Int32)  : Met l y_DS_size (Cond.code y_DS_size b_DS_size 1 (Option.some Jvm.ClassFile.FieldType.int) :: BIG) ({ frames := 0, cells := 0, slots := 0, locals := 0 }) (va_Pc [.ref ds] (fun U => U.heap.size = sz ∧ va_P (dC, dI) vcl [(ds, .inr (0, [.ref dr, .ref sv])), (sv, .inr (5, [.ref se, .ref pw, .ref g0, .ref ty, .ref an, .ref aw, .ref ts, .ref ss, .ref rq, .int tm, .int n3, .int n4])), (an, .inr (2, [.ref ar, .int 0])), (ar, .inl ((cT 0), 72, .inl fa))] U.heap ∧ va_K (dC, dI) vcl (tyL cT) U ∧ va_D (fun _ => True) [(ds, .inr (0, [.ref dr, .ref sv])), (sv, .inr (5, [.ref se, .ref pw, .ref g0, .ref ty, .ref an, .ref aw, .ref ts, .ref ss, .ref rq, .int tm, .int n3, .int n4])), (an, .inr (2, [.ref ar, .int 0])), (ar, .inl ((cT 0), 72, .inl fa))])) (va_Qi (S := Unit) (fun r u => r = 0 ∧ (True)) (fun u t => va_P (dC, dI) vcl [] t.heap ∧ va_K (dC, dI) vcl (tyL cT) t ∧ va_D (va_A [(ds, .inr (0, [.ref dr, .ref sv])), (sv, .inr (5, [.ref se, .ref pw, .ref g0, .ref ty, .ref an, .ref aw, .ref ts, .ref ss, .ref rq, .int tm, .int n3, .int n4])), (an, .inr (2, [.ref ar, .int 0])), (ar, .inl ((cT 0), 72, .inl fa))] sz) []) (va_A [(ds, .inr (0, [.ref dr, .ref sv])), (sv, .inr (5, [.ref se, .ref pw, .ref g0, .ref ty, .ref an, .ref aw, .ref ts, .ref ss, .ref rq, .int tm, .int n3, .int n4])), (an, .inr (2, [.ref ar, .int 0])), (ar, .inl ((cT 0), 72, .inl fa))] sz)) 0 0 (va_A [(ds, .inr (0, [.ref dr, .ref sv])), (sv, .inr (5, [.ref se, .ref pw, .ref g0, .ref ty, .ref an, .ref aw, .ref ts, .ref ss, .ref rq, .int tm, .int n3, .int n4])), (an, .inr (2, [.ref ar, .int 0])), (ar, .inl ((cT 0), 72, .inl fa))] sz) := by
  refine Met.ofW (cc := b_DS_size) (maxL := 1) (ret := (Option.some Jvm.ClassFile.FieldType.int)) (by decide) rfl ?_
  intro p e s m args below meth c s₁ B hml hv
  obtain ⟨hargs, hsz, hP, hK, hD0⟩ := hv
  have hx := B.exec
  have hb := B.bytes
  have hr := B.returns
  have hts := atoms_spec (ws := (Cond.code y_DS_size b_DS_size 1 (Option.some Jvm.ClassFile.FieldType.int) :: BIG)) B.pre
  have hg : ∀ w ∈ BIG, w.before _ s = true := fun w h => hts w (List.mem_cons_of_mem _ h)
  have hown : s.vm.findClass "DoorServer" = some m.cls := findClass_of_methodNamed B.named
  have hlocks := B.notSynchronized
  subst hsz
  have hD := hD0.self (sz := s.heap.size)
  generalize hAe : va_A [(ds, .inr (0, [.ref dr, .ref sv])), (sv, .inr (5, [.ref se, .ref pw, .ref g0, .ref ty, .ref an, .ref aw, .ref ts, .ref ss, .ref rq, .int tm, .int n3, .int n4])), (an, .inr (2, [.ref ar, .int 0])), (ar, .inl ((cT 0), 72, .inl fa))] s.heap.size = A at hD ⊢
  have hA : ∀ q : Nat, s.heap.size ≤ q → A q := fun q h => by rw [← hAe]; exact Or.inr h
  have hS : va_S A s.heap s.heap [] := va_S.rf
  have hl := lv_entry ([.ref ds]) (n := 1) (Nat.le_of_ble_eq_true rfl)
  refine W.eq (g2 := entryFrame m (List.toArray [.ref ds]) 1) (by rw [hargs]) ?_
  rw [lg_entry_eq]
  generalize (lg_sl ([.ref ds]) ++ List.replicate (1 - (lg_sl ([.ref ds])).length) Slot.unset).toArray = ls at hl ⊢
  have hl : lv_has ls 1 [(0, .ref ds)] := hl
  change W p l e ({ frames := 0, cells := 0, slots := 0, locals := 0 } : Room) s m args below meth c s.heap [] 0 0 _ _
  have hP : va_P (dC, dI) vcl [(ds, .inr (0, [.ref dr, .ref sv])), (sv, .inr (5, [.ref se, .ref pw, .ref g0, .ref ty, .ref an, .ref aw, .ref ts, .ref ss, .ref rq, .int tm, .int n3, .int n4])), (an, .inr (2, [.ref ar, .int 0])), (ar, .inl ((cT 0), 72, .inl fa))] s.heap := hP
  refine lv_aload_n hx hb d_DS_size_0 rfl (lv_at hl 0 rfl) ?_
  refine va_get (D := (dC, dI)) (ci := 0) (v := (.ref sv)) (C := R_DS) (T := F_DS) (N := 2) hx hb hg in_DS hown hK hP 0 rfl rfl 1 (by decide) (hg _ k_369) (fun _ h9 => h9) rfl d_DS_size_1 ?_
  refine va_get (D := (dC, dI)) (ci := 5) (v := (.ref an)) (C := R_Sv) (T := F_Sv) (N := 12) hx hb hg in_Sv hown hK hP 1 rfl rfl 4 (by decide) (hg _ k_329) (fun _ h9 => h9) rfl d_DS_size_4 ?_
  refine va_get (D := (dC, dI)) (ci := 2) (v := (.int 0)) (C := R_Pk) (T := F_Pk) (N := 2) hx hb hg in_Pk hown hK hP 2 rfl rfl 1 (by decide) (hg _ k_59) (fun x9 h9 => u_same (hg _ k_53) x9 h9) rfl d_DS_size_7 ?_
  have hP9 := hP.sub (ws' := []) [] rfl
  have hD9 := hD.sub (ws' := []) [] (by decide) rfl
  exact W.iret (v := 0) hx hb hr (fun t ht hW => ⟨⟨_, (), rfl, ⟨rfl, trivial⟩, by rw [ht]; exact hP9, va_K.moved hW.alike hK, hD9⟩, hS.F ht⟩) hS.2.2 d_DS_size_10
set_option maxHeartbeats 4000000 in
set_option maxRecDepth 100000 in
/-- reply, without an answer -/
theorem c_reply (l : Launch) (dC : Nat → ClassId) (dI : Nat → Nat → Nat) (cT : Nat → ClassId) (sz : Nat) (ds : Nat) (dr : Nat) (sv : Nat) (rr : Nat) (g0 : Nat) (se : Nat) (pw : Nat) (ty : Nat) (an : Nat) (aw : Nat) (ts : Nat) (ss : Nat) (rq : Nat) (tm : Int32) (n3 : Int32) (n4 : Int32) (ar : Nat) (fa : Nat → Int32) (v : Int64) (k : Nat) (hk1 : 1 ≤ k) (hk2 : k ≤ 60) (hfa : fa 0 = 0) : Met l y_DS_reply (Cond.code y_DS_reply b_DS_reply 8 (Option.some Jvm.ClassFile.FieldType.int) :: BIG) ({ frames := 1, cells := 0, slots := 0, locals := 22 }) (va_Pc [.ref ds, .long v, .int (nI k)] (fun U => U.heap.size = sz ∧ va_P (dC, dI) vcl [(ds, .inr (0, [.ref dr, .ref sv])), (sv, .inr (5, [.ref se, .ref pw, .ref g0, .ref ty, .ref an, .ref aw, .ref ts, .ref ss, .ref rq, .int tm, .int n3, .int n4])), (an, .inr (2, [.ref ar, .int 0])), (ar, .inl ((cT 0), 72, .inl fa))] U.heap ∧ va_K (dC, dI) vcl (tyL cT) U ∧ va_D (fun _ => True) [(ds, .inr (0, [.ref dr, .ref sv])), (sv, .inr (5, [.ref se, .ref pw, .ref g0, .ref ty, .ref an, .ref aw, .ref ts, .ref ss, .ref rq, .int tm, .int n3, .int n4])), (an, .inr (2, [.ref ar, .int 0])), (ar, .inl ((cT 0), 72, .inl fa))])) (va_Qi (S := Unit) (fun r u => r = (-1) ∧ (True)) (fun u t => va_P (dC, dI) vcl [] t.heap ∧ va_K (dC, dI) vcl (tyL cT) t ∧ va_D (va_A [(ds, .inr (0, [.ref dr, .ref sv])), (sv, .inr (5, [.ref se, .ref pw, .ref g0, .ref ty, .ref an, .ref aw, .ref ts, .ref ss, .ref rq, .int tm, .int n3, .int n4])), (an, .inr (2, [.ref ar, .int 0])), (ar, .inl ((cT 0), 72, .inl fa))] sz) []) (va_A [(ds, .inr (0, [.ref dr, .ref sv])), (sv, .inr (5, [.ref se, .ref pw, .ref g0, .ref ty, .ref an, .ref aw, .ref ts, .ref ss, .ref rq, .int tm, .int n3, .int n4])), (an, .inr (2, [.ref ar, .int 0])), (ar, .inl ((cT 0), 72, .inl fa))] sz)) 0 0 (va_A [(ds, .inr (0, [.ref dr, .ref sv])), (sv, .inr (5, [.ref se, .ref pw, .ref g0, .ref ty, .ref an, .ref aw, .ref ts, .ref ss, .ref rq, .int tm, .int n3, .int n4])), (an, .inr (2, [.ref ar, .int 0])), (ar, .inl ((cT 0), 72, .inl fa))] sz) := by
  refine Met.ofW (cc := b_DS_reply) (maxL := 8) (ret := (Option.some Jvm.ClassFile.FieldType.int)) (by decide) rfl ?_
  intro p e s m args below meth c s₁ B hml hv
  obtain ⟨hargs, hsz, hP, hK, hD0⟩ := hv
  have hx := B.exec
  have hb := B.bytes
  have hr := B.returns
  have hts := atoms_spec (ws := (Cond.code y_DS_reply b_DS_reply 8 (Option.some Jvm.ClassFile.FieldType.int) :: BIG)) B.pre
  have hg : ∀ w ∈ BIG, w.before _ s = true := fun w h => hts w (List.mem_cons_of_mem _ h)
  have hown : s.vm.findClass "DoorServer" = some m.cls := findClass_of_methodNamed B.named
  have hlocks := B.notSynchronized
  subst hsz
  have hD := hD0.self (sz := s.heap.size)
  generalize hAe : va_A [(ds, .inr (0, [.ref dr, .ref sv])), (sv, .inr (5, [.ref se, .ref pw, .ref g0, .ref ty, .ref an, .ref aw, .ref ts, .ref ss, .ref rq, .int tm, .int n3, .int n4])), (an, .inr (2, [.ref ar, .int 0])), (ar, .inl ((cT 0), 72, .inl fa))] s.heap.size = A at hD ⊢
  have hA : ∀ q : Nat, s.heap.size ≤ q → A q := fun q h => by rw [← hAe]; exact Or.inr h
  have hS : va_S A s.heap s.heap [] := va_S.rf
  have hl := lv_entry ([.ref ds, .long v, .int (nI k)]) (n := 8) (Nat.le_of_ble_eq_true rfl)
  refine W.eq (g2 := entryFrame m (List.toArray [.ref ds, .long v, .int (nI k)]) 8) (by rw [hargs]) ?_
  rw [lg_entry_eq]
  generalize (lg_sl ([.ref ds, .long v, .int (nI k)]) ++ List.replicate (8 - (lg_sl ([.ref ds, .long v, .int (nI k)])).length) Slot.unset).toArray = ls at hl ⊢
  have hl : lv_has ls 8 [(0, .ref ds), (1, .long v), (3, .int (nI k))] := hl
  change W p l e ({ frames := 1, cells := 0, slots := 0, locals := 22 } : Room) s m args below meth c s.heap [] 0 0 _ _
  have hP : va_P (dC, dI) vcl [(ds, .inr (0, [.ref dr, .ref sv])), (sv, .inr (5, [.ref se, .ref pw, .ref g0, .ref ty, .ref an, .ref aw, .ref ts, .ref ss, .ref rq, .int tm, .int n3, .int n4])), (an, .inr (2, [.ref ar, .int 0])), (ar, .inl ((cT 0), 72, .inl fa))] s.heap := hP
  refine lv_iload_n hx hb d_DS_reply_0 rfl (lv_at hl 2 rfl) ?_
  refine lv_iconst (v := 1) hx hb d_DS_reply_1 (by decide) ?_
  refine lv_bipush (v := 60) hx hb d_DS_reply_2 (by decide) ?_
  have hPc := hP.sub (ws' := []) [] rfl
  have hDc := hD.sub (ws' := []) [] (by decide) rfl
  have hFc := va_free (wc := []) hD hS hA [] rfl
  refine va_callv (va_runS (As := [.int (nI k), .int 1, .int 60]) (rest := []) ⟨hx, hb, hml, hown, hg⟩ (c_requireWithin l dC dI cT s.heap.size (nI k) 1 60 (nI_nlt (b := 1) hk1 (by omega)) (nI_nlt (a := 60) hk2 (by decide))) (va_cwS 3 hg (gI (List.forall_mem_append.mpr ⟨List.forall_mem_cons.mpr ⟨k_390, List.forall_mem_cons.mpr ⟨k_391, List.forall_mem_cons.mpr ⟨k_1, fun _ h => absurd h List.not_mem_nil⟩⟩⟩, List.forall_mem_cons.mpr ⟨k_392, fun _ h => h⟩⟩)) rfl rfl rfl (by decide +kernel) ⟨Nat.le_of_ble_eq_true rfl, Nat.le_of_ble_eq_true rfl⟩) ⟨fun a U g mk q => by obtain ⟨q0, q1, qP, qK, qD⟩ := q; exact ⟨q0, q1, qP, va_K.moved (u := U) (U := U.calling g mk a) (Vm.Alike.refl U.vm) qK, qD⟩, fun U hU hW => ⟨rfl, by rw [hU], by rw [hU]; exact hPc, va_K.moved hW.alike hK, hDc.weaken (fun _ _ _ _ => trivial)⟩⟩ rfl rfl hl.1 rfl (lv_room (Nat.le_of_ble_eq_true rfl)) d_DS_reply_4 ⟨Nat.le_of_ble_eq_true rfl, Nat.le_of_ble_eq_true rfl⟩) hS (fun q _ h => hFc q h) hFc (fun u t H1 locs ht hvm hw hB hz1 hk1 hS => ?_)
  try dsimp only at hw hB
  obtain ⟨hP1, hK1, hD1⟩ := hB
  rw [ht] at hP1
  obtain ⟨hP, hD⟩ := va_join (wr := [(ds, .inr (0, [.ref dr, .ref sv])), (sv, .inr (5, [.ref se, .ref pw, .ref g0, .ref ty, .ref an, .ref aw, .ref ts, .ref ss, .ref rq, .int tm, .int n3, .int n4])), (an, .inr (2, [.ref ar, .int 0])), (ar, .inl ((cT 0), 72, .inl fa))]) (w1 := []) hP hD [] [0, 1, 2, 3] rfl rfl (by decide) (by decide) hk1 hFc hP1 hD1
  have hw10 := hw
  clear hPc hDc hFc hz1 hk1 hP1 hK1 hD1
  generalize H1 = H at hP hS ⊢
  have hP : va_P (dC, dI) vcl [(ds, .inr (0, [.ref dr, .ref sv])), (sv, .inr (5, [.ref se, .ref pw, .ref g0, .ref ty, .ref an, .ref aw, .ref ts, .ref ss, .ref rq, .int tm, .int n3, .int n4])), (an, .inr (2, [.ref ar, .int 0])), (ar, .inl ((cT 0), 72, .inl fa))] H := hP
  have hD : va_D A [(ds, .inr (0, [.ref dr, .ref sv])), (sv, .inr (5, [.ref se, .ref pw, .ref g0, .ref ty, .ref an, .ref aw, .ref ts, .ref ss, .ref rq, .int tm, .int n3, .int n4])), (an, .inr (2, [.ref ar, .int 0])), (ar, .inl ((cT 0), 72, .inl fa))] := hD
  refine lv_aload_n hx hb d_DS_reply_7 rfl (lv_at hl 0 rfl) ?_
  refine va_get (D := (dC, dI)) (ci := 0) (v := (.ref sv)) (C := R_DS) (T := F_DS) (N := 2) hx hb hg in_DS hown hK hP 0 rfl rfl 1 (by decide) (hg _ k_369) (fun _ h9 => h9) rfl d_DS_reply_8 ?_
  refine va_get (D := (dC, dI)) (ci := 5) (v := (.ref an)) (C := R_Sv) (T := F_Sv) (N := 12) hx hb hg in_Sv hown hK hP 1 rfl rfl 4 (by decide) (hg _ k_329) (fun _ h9 => h9) rfl d_DS_reply_11 ?_
  refine lv_astore (lv' := [(4, .ref an), (0, .ref ds), (1, .long v), (3, .int (nI k))]) hx hb d_DS_reply_14 hl (by decide) rfl (fun ls hl => ?_)
  refine lv_aload hx hb d_DS_reply_16 (lv_at hl 0 rfl) ?_
  refine va_get (D := (dC, dI)) (ci := 2) (v := (.ref ar)) (C := R_Pk) (T := F_Pk) (N := 2) hx hb hg in_Pk hown hK hP 2 rfl rfl 0 (by decide) (hg _ k_49) (fun x9 h9 => u_same (hg _ k_41) x9 h9) rfl d_DS_reply_18 ?_
  refine lv_iconst (v := 0) hx hb d_DS_reply_21 (by decide) ?_
  refine va_iald hx hb hK hP 3 0 rfl rfl (i := 0) (vp_in_nI (n := 0) (N := 72) (by decide) (by decide)) d_DS_reply_22 ?_
  refine lv_topi (fun x12 e11 => ?_)
  obtain rfl : x12 = 0 := by rw [e11]; exact hfa
  refine lv_bipush (v := 11) hx hb d_DS_reply_23 (by decide) ?_
  refine lv_icmp_eq (tgt := 30) hx hb d_DS_reply_25 (by decide) (fun hn9 => absurd hn9 (by decide)) (fun hc13 => ?_)
  refine lv_iconst (v := (-1)) hx hb d_DS_reply_28 (by decide) ?_
  have hP9 := hP.sub (ws' := []) [] rfl
  have hD9 := hD.sub (ws' := []) [] (by decide) rfl
  exact W.iret (v := (-1)) hx hb hr (fun t ht hW => ⟨⟨_, (), rfl, ⟨rfl, trivial⟩, by rw [ht]; exact hP9, va_K.moved hW.alike hK, hD9⟩, hS.F ht⟩) hS.2.2 d_DS_reply_29
set_option maxHeartbeats 4000000 in
set_option maxRecDepth 100000 in
/-- ticks, at time 0 -/
theorem c_ticks (l : Launch) (dC : Nat → ClassId) (dI : Nat → Nat → Nat) (cT : Nat → ClassId) (sz : Nat) (ds : Nat) (dr : Nat) (sv : Nat) (rr : Nat) (g0 : Nat) (se : Nat) (pw : Nat) (ty : Nat) (an : Nat) (aw : Nat) (ts : Nat) (ss : Nat) (rq : Nat) (n3 : Int32) (n4 : Int32) (k : Nat) (hk1 : 1 ≤ k) (hk2 : k ≤ 1000) : Met l y_DS_ticks (Cond.code y_DS_ticks b_DS_ticks 2 (Option.some Jvm.ClassFile.FieldType.int) :: BIG) ({ frames := 1, cells := 0, slots := 0, locals := 22 }) (va_Pc [.ref ds, .int (nI k)] (fun U => U.heap.size = sz ∧ va_P (dC, dI) vcl [(ds, .inr (0, [.ref dr, .ref sv])), (sv, .inr (5, [.ref se, .ref pw, .ref g0, .ref ty, .ref an, .ref aw, .ref ts, .ref ss, .ref rq, .int 0, .int n3, .int n4]))] U.heap ∧ va_K (dC, dI) vcl (tyL cT) U ∧ va_D (fun _ => True) [(ds, .inr (0, [.ref dr, .ref sv])), (sv, .inr (5, [.ref se, .ref pw, .ref g0, .ref ty, .ref an, .ref aw, .ref ts, .ref ss, .ref rq, .int 0, .int n3, .int n4]))])) (va_Qi (S := Unit) (fun r u => r = nI k ∧ (True)) (fun u t => va_P (dC, dI) vcl [] t.heap ∧ va_K (dC, dI) vcl (tyL cT) t ∧ va_D (va_A [(ds, .inr (0, [.ref dr, .ref sv])), (sv, .inr (5, [.ref se, .ref pw, .ref g0, .ref ty, .ref an, .ref aw, .ref ts, .ref ss, .ref rq, .int 0, .int n3, .int n4]))] sz) []) (va_A [(ds, .inr (0, [.ref dr, .ref sv])), (sv, .inr (5, [.ref se, .ref pw, .ref g0, .ref ty, .ref an, .ref aw, .ref ts, .ref ss, .ref rq, .int 0, .int n3, .int n4]))] sz)) 0 0 (va_A [(ds, .inr (0, [.ref dr, .ref sv])), (sv, .inr (5, [.ref se, .ref pw, .ref g0, .ref ty, .ref an, .ref aw, .ref ts, .ref ss, .ref rq, .int 0, .int n3, .int n4]))] sz) := by
  refine Met.ofW (cc := b_DS_ticks) (maxL := 2) (ret := (Option.some Jvm.ClassFile.FieldType.int)) (by decide) rfl ?_
  intro p e s m args below meth c s₁ B hml hv
  obtain ⟨hargs, hsz, hP, hK, hD0⟩ := hv
  have hx := B.exec
  have hb := B.bytes
  have hr := B.returns
  have hts := atoms_spec (ws := (Cond.code y_DS_ticks b_DS_ticks 2 (Option.some Jvm.ClassFile.FieldType.int) :: BIG)) B.pre
  have hg : ∀ w ∈ BIG, w.before _ s = true := fun w h => hts w (List.mem_cons_of_mem _ h)
  have hown : s.vm.findClass "DoorServer" = some m.cls := findClass_of_methodNamed B.named
  have hlocks := B.notSynchronized
  subst hsz
  have hD := hD0.self (sz := s.heap.size)
  generalize hAe : va_A [(ds, .inr (0, [.ref dr, .ref sv])), (sv, .inr (5, [.ref se, .ref pw, .ref g0, .ref ty, .ref an, .ref aw, .ref ts, .ref ss, .ref rq, .int 0, .int n3, .int n4]))] s.heap.size = A at hD ⊢
  have hA : ∀ q : Nat, s.heap.size ≤ q → A q := fun q h => by rw [← hAe]; exact Or.inr h
  have hS : va_S A s.heap s.heap [] := va_S.rf
  have hl := lv_entry ([.ref ds, .int (nI k)]) (n := 2) (Nat.le_of_ble_eq_true rfl)
  refine W.eq (g2 := entryFrame m (List.toArray [.ref ds, .int (nI k)]) 2) (by rw [hargs]) ?_
  rw [lg_entry_eq]
  generalize (lg_sl ([.ref ds, .int (nI k)]) ++ List.replicate (2 - (lg_sl ([.ref ds, .int (nI k)])).length) Slot.unset).toArray = ls at hl ⊢
  have hl : lv_has ls 2 [(0, .ref ds), (1, .int (nI k))] := hl
  change W p l e ({ frames := 1, cells := 0, slots := 0, locals := 22 } : Room) s m args below meth c s.heap [] 0 0 _ _
  have hP : va_P (dC, dI) vcl [(ds, .inr (0, [.ref dr, .ref sv])), (sv, .inr (5, [.ref se, .ref pw, .ref g0, .ref ty, .ref an, .ref aw, .ref ts, .ref ss, .ref rq, .int 0, .int n3, .int n4]))] s.heap := hP
  refine lv_iload_n hx hb d_DS_ticks_0 rfl (lv_at hl 1 rfl) ?_
  refine lv_iconst (v := 1) hx hb d_DS_ticks_1 (by decide) ?_
  refine lv_sipush (v := 1000) hx hb d_DS_ticks_2 (by decide) ?_
  have hPc := hP.sub (ws' := []) [] rfl
  have hDc := hD.sub (ws' := []) [] (by decide) rfl
  have hFc := va_free (wc := []) hD hS hA [] rfl
  refine va_callv (va_runS (As := [.int (nI k), .int 1, .int 1000]) (rest := []) ⟨hx, hb, hml, hown, hg⟩ (c_requireWithin l dC dI cT s.heap.size (nI k) 1 1000 (nI_nlt (b := 1) hk1 (by omega)) (nI_nlt (a := 1000) hk2 (by decide))) (va_cwS 3 hg (gI (List.forall_mem_append.mpr ⟨List.forall_mem_cons.mpr ⟨k_390, List.forall_mem_cons.mpr ⟨k_391, List.forall_mem_cons.mpr ⟨k_1, fun _ h => absurd h List.not_mem_nil⟩⟩⟩, List.forall_mem_cons.mpr ⟨k_392, fun _ h => h⟩⟩)) rfl rfl rfl (by decide +kernel) ⟨Nat.le_of_ble_eq_true rfl, Nat.le_of_ble_eq_true rfl⟩) ⟨fun a U g mk q => by obtain ⟨q0, q1, qP, qK, qD⟩ := q; exact ⟨q0, q1, qP, va_K.moved (u := U) (U := U.calling g mk a) (Vm.Alike.refl U.vm) qK, qD⟩, fun U hU hW => ⟨rfl, by rw [hU], by rw [hU]; exact hPc, va_K.moved hW.alike hK, hDc.weaken (fun _ _ _ _ => trivial)⟩⟩ rfl rfl hl.1 rfl (lv_room (Nat.le_of_ble_eq_true rfl)) d_DS_ticks_5 ⟨Nat.le_of_ble_eq_true rfl, Nat.le_of_ble_eq_true rfl⟩) hS (fun q _ h => hFc q h) hFc (fun u t H1 locs ht hvm hw hB hz1 hk1 hS => ?_)
  try dsimp only at hw hB
  obtain ⟨hP1, hK1, hD1⟩ := hB
  rw [ht] at hP1
  obtain ⟨hP, hD⟩ := va_join (wr := [(ds, .inr (0, [.ref dr, .ref sv])), (sv, .inr (5, [.ref se, .ref pw, .ref g0, .ref ty, .ref an, .ref aw, .ref ts, .ref ss, .ref rq, .int 0, .int n3, .int n4]))]) (w1 := []) hP hD [] [0, 1] rfl rfl (by decide) (by decide) hk1 hFc hP1 hD1
  have hw14 := hw
  clear hPc hDc hFc hz1 hk1 hP1 hK1 hD1
  generalize H1 = H at hP hS ⊢
  have hP : va_P (dC, dI) vcl [(ds, .inr (0, [.ref dr, .ref sv])), (sv, .inr (5, [.ref se, .ref pw, .ref g0, .ref ty, .ref an, .ref aw, .ref ts, .ref ss, .ref rq, .int 0, .int n3, .int n4]))] H := hP
  have hD : va_D A [(ds, .inr (0, [.ref dr, .ref sv])), (sv, .inr (5, [.ref se, .ref pw, .ref g0, .ref ty, .ref an, .ref aw, .ref ts, .ref ss, .ref rq, .int 0, .int n3, .int n4]))] := hD
  refine lv_aload_n hx hb d_DS_ticks_8 rfl (lv_at hl 0 rfl) ?_
  refine va_get (D := (dC, dI)) (ci := 0) (v := (.ref sv)) (C := R_DS) (T := F_DS) (N := 2) hx hb hg in_DS hown hK hP 0 rfl rfl 1 (by decide) (hg _ k_369) (fun _ h9 => h9) rfl d_DS_ticks_9 ?_
  refine va_get (D := (dC, dI)) (ci := 5) (v := (.int 0)) (C := R_Sv) (T := F_Sv) (N := 12) hx hb hg in_Sv hown hK hP 1 rfl rfl 9 (by decide) (hg _ k_338) (fun _ h9 => h9) rfl d_DS_ticks_12 ?_
  refine lv_iload_n hx hb d_DS_ticks_15 rfl (lv_at hl 1 rfl) ?_
  refine lv_iadd hx hb d_DS_ticks_16 ?_
  refine lv_topi (fun x16 e15 => ?_)
  obtain rfl : x16 = nI k := by rw [e15]; exact (nI_add 0 k).trans (by rw [Nat.zero_add])
  refine lv_iconst (v := 0) hx hb d_DS_ticks_17 (by decide) ?_
  refine lv_ldc (v := 1000000) hx hb hown (hg _ k_926) d_DS_ticks_18 ?_
  have hPc := hP.sub (ws' := []) [] rfl
  have hDc := hD.sub (ws' := []) [] (by decide) rfl
  have hFc := va_free (wc := []) hD hS hA [] rfl
  refine va_callv (va_runS (As := [.int (nI k), .int 0, .int 1000000]) (rest := []) ⟨hx, hb, hml, hown, hg⟩ (c_requireWithin l dC dI cT H.size (nI k) 0 1000000 (nI_pos (by omega)) (nI_nlt (a := 1000000) (by omega) (by decide))) (va_cwS 3 hg (gI (List.forall_mem_append.mpr ⟨List.forall_mem_cons.mpr ⟨k_390, List.forall_mem_cons.mpr ⟨k_391, List.forall_mem_cons.mpr ⟨k_1, fun _ h => absurd h List.not_mem_nil⟩⟩⟩, List.forall_mem_cons.mpr ⟨k_392, fun _ h => h⟩⟩)) rfl rfl rfl (by decide +kernel) ⟨Nat.le_of_ble_eq_true rfl, Nat.le_of_ble_eq_true rfl⟩) ⟨fun a U g mk q => by obtain ⟨q0, q1, qP, qK, qD⟩ := q; exact ⟨q0, q1, qP, va_K.moved (u := U) (U := U.calling g mk a) (Vm.Alike.refl U.vm) qK, qD⟩, fun U hU hW => ⟨rfl, by rw [hU], by rw [hU]; exact hPc, va_K.moved hW.alike hK, hDc.weaken (fun _ _ _ _ => trivial)⟩⟩ rfl rfl hl.1 rfl (lv_room (Nat.le_of_ble_eq_true rfl)) d_DS_ticks_20 ⟨Nat.le_of_ble_eq_true rfl, Nat.le_of_ble_eq_true rfl⟩) hS (fun q _ h => hFc q h) hFc (fun u t H1 locs ht hvm hw hB hz1 hk1 hS => ?_)
  try dsimp only at hw hB
  obtain ⟨hP1, hK1, hD1⟩ := hB
  rw [ht] at hP1
  obtain ⟨hP, hD⟩ := va_join (wr := [(ds, .inr (0, [.ref dr, .ref sv])), (sv, .inr (5, [.ref se, .ref pw, .ref g0, .ref ty, .ref an, .ref aw, .ref ts, .ref ss, .ref rq, .int 0, .int n3, .int n4]))]) (w1 := []) hP hD [] [0, 1] rfl rfl (by decide) (by decide) hk1 hFc hP1 hD1
  have hw17 := hw
  clear hPc hDc hFc hz1 hk1 hP1 hK1 hD1
  generalize H1 = H at hP hS ⊢
  have hP : va_P (dC, dI) vcl [(ds, .inr (0, [.ref dr, .ref sv])), (sv, .inr (5, [.ref se, .ref pw, .ref g0, .ref ty, .ref an, .ref aw, .ref ts, .ref ss, .ref rq, .int 0, .int n3, .int n4]))] H := hP
  have hD : va_D A [(ds, .inr (0, [.ref dr, .ref sv])), (sv, .inr (5, [.ref se, .ref pw, .ref g0, .ref ty, .ref an, .ref aw, .ref ts, .ref ss, .ref rq, .int 0, .int n3, .int n4]))] := hD
  refine lv_aload_n hx hb d_DS_ticks_23 rfl (lv_at hl 0 rfl) ?_
  refine va_get (D := (dC, dI)) (ci := 0) (v := (.ref sv)) (C := R_DS) (T := F_DS) (N := 2) hx hb hg in_DS hown hK hP 0 rfl rfl 1 (by decide) (hg _ k_369) (fun _ h9 => h9) rfl d_DS_ticks_24 ?_
  refine lv_dup hx hb d_DS_ticks_27 rfl ?_
  refine va_get (D := (dC, dI)) (ci := 5) (v := (.int 0)) (C := R_Sv) (T := F_Sv) (N := 12) hx hb hg in_Sv hown hK hP 1 rfl rfl 9 (by decide) (hg _ k_338) (fun _ h9 => h9) rfl d_DS_ticks_28 ?_
  refine lv_iload_n hx hb d_DS_ticks_31 rfl (lv_at hl 1 rfl) ?_
  refine lv_iadd hx hb d_DS_ticks_32 ?_
  refine lv_topi (fun x19 e18 => ?_)
  obtain rfl : x19 = nI k := by rw [e18]; exact (nI_add 0 k).trans (by rw [Nat.zero_add])
  refine va_put (D := (dC, dI)) (ci := 5) (v := (.int (nI k))) (ty := .int) (C := R_Sv) (T := F_Sv) (N := 12) hx hb hg in_Sv t_Sv tok_Sv nm_Sv hown hK hP hD hS 1 rfl rfl 9 (by decide) (hg _ k_338) (fun _ h9 => h9) rfl (by decide +kernel) rfl rfl (Nat.le_of_ble_eq_true rfl) d_DS_ticks_33 (fun H locs hP hD hS => ?_)
  have hP : va_P (dC, dI) vcl [(ds, .inr (0, [.ref dr, .ref sv])), (sv, .inr (5, [.ref se, .ref pw, .ref g0, .ref ty, .ref an, .ref aw, .ref ts, .ref ss, .ref rq, .int (nI k), .int n3, .int n4]))] H := hP
  have hD : va_D A [(ds, .inr (0, [.ref dr, .ref sv])), (sv, .inr (5, [.ref se, .ref pw, .ref g0, .ref ty, .ref an, .ref aw, .ref ts, .ref ss, .ref rq, .int (nI k), .int n3, .int n4]))] := hD
  refine lv_aload_n hx hb d_DS_ticks_36 rfl (lv_at hl 0 rfl) ?_
  refine va_get (D := (dC, dI)) (ci := 0) (v := (.ref sv)) (C := R_DS) (T := F_DS) (N := 2) hx hb hg in_DS hown hK hP 0 rfl rfl 1 (by decide) (hg _ k_369) (fun _ h9 => h9) rfl d_DS_ticks_37 ?_
  refine va_get (D := (dC, dI)) (ci := 5) (v := (.int (nI k))) (C := R_Sv) (T := F_Sv) (N := 12) hx hb hg in_Sv hown hK hP 1 rfl rfl 9 (by decide) (hg _ k_338) (fun _ h9 => h9) rfl d_DS_ticks_40 ?_
  have hP9 := hP.sub (ws' := []) [] rfl
  have hD9 := hD.sub (ws' := []) [] (by decide) rfl
  exact W.iret (v := nI k) hx hb hr (fun t ht hW => ⟨⟨_, (), rfl, ⟨rfl, trivial⟩, by rw [ht]; exact hP9, va_K.moved hW.alike hK, hD9⟩, hS.F ht⟩) hS.2.2 d_DS_ticks_43
set_option maxHeartbeats 4000000 in
set_option maxRecDepth 100000 in
/-- count(0) -/
theorem c_count0 (l : Launch) (dC : Nat → ClassId) (dI : Nat → Nat → Nat) (cT : Nat → ClassId) (sz : Nat) (ds : Nat) (dr : Nat) (sv : Nat) (rr : Nat) (g0 : Nat) (se : Nat) (pw : Nat) (ty : Nat) (an : Nat) (aw : Nat) (ts : Nat) (ss : Nat) (rq : Nat) (tm : Int32) (f : Nat → Int32) (a1 : Nat) (a2 : Int32) (t1 : Nat) (t2 : Int64) (t3 : Int64) (s1 : Nat)  : Met l y_DS_count (Cond.code y_DS_count b_DS_count 2 (Option.some Jvm.ClassFile.FieldType.int) :: BIG) ({ frames := 0, cells := 0, slots := 0, locals := 0 }) (va_Pc [.ref ds, .int 0] (fun U => U.heap.size = sz ∧ va_P (dC, dI) vcl [(ds, .inr (0, [.ref dr, .ref sv])), (dr, .inr (2, [.ref rr, .int (nI 20)])), (rr, .inl ((cT 0), 1000, .inl f)), (sv, .inr (5, [.ref se, .ref pw, .ref g0, .ref ty, .ref an, .ref aw, .ref ts, .ref ss, .ref rq, .int tm, .int 0, .int 0])), (aw, .inr (6, [.ref a1, .int a2, .int 0])), (ts, .inr (9, [.ref t1, .long t2, .long t3, .int 0])), (ss, .inr (11, [.ref s1, .int 0]))] U.heap ∧ va_K (dC, dI) vcl (tyL cT) U ∧ va_D (fun _ => True) [(ds, .inr (0, [.ref dr, .ref sv])), (dr, .inr (2, [.ref rr, .int (nI 20)])), (rr, .inl ((cT 0), 1000, .inl f)), (sv, .inr (5, [.ref se, .ref pw, .ref g0, .ref ty, .ref an, .ref aw, .ref ts, .ref ss, .ref rq, .int tm, .int 0, .int 0])), (aw, .inr (6, [.ref a1, .int a2, .int 0])), (ts, .inr (9, [.ref t1, .long t2, .long t3, .int 0])), (ss, .inr (11, [.ref s1, .int 0]))])) (va_Qi (S := Unit) (fun r u => r = 0 ∧ (True)) (fun u t => va_P (dC, dI) vcl [] t.heap ∧ va_K (dC, dI) vcl (tyL cT) t ∧ va_D (va_A [(ds, .inr (0, [.ref dr, .ref sv])), (dr, .inr (2, [.ref rr, .int (nI 20)])), (rr, .inl ((cT 0), 1000, .inl f)), (sv, .inr (5, [.ref se, .ref pw, .ref g0, .ref ty, .ref an, .ref aw, .ref ts, .ref ss, .ref rq, .int tm, .int 0, .int 0])), (aw, .inr (6, [.ref a1, .int a2, .int 0])), (ts, .inr (9, [.ref t1, .long t2, .long t3, .int 0])), (ss, .inr (11, [.ref s1, .int 0]))] sz) []) (va_A [(ds, .inr (0, [.ref dr, .ref sv])), (dr, .inr (2, [.ref rr, .int (nI 20)])), (rr, .inl ((cT 0), 1000, .inl f)), (sv, .inr (5, [.ref se, .ref pw, .ref g0, .ref ty, .ref an, .ref aw, .ref ts, .ref ss, .ref rq, .int tm, .int 0, .int 0])), (aw, .inr (6, [.ref a1, .int a2, .int 0])), (ts, .inr (9, [.ref t1, .long t2, .long t3, .int 0])), (ss, .inr (11, [.ref s1, .int 0]))] sz)) 0 0 (va_A [(ds, .inr (0, [.ref dr, .ref sv])), (dr, .inr (2, [.ref rr, .int (nI 20)])), (rr, .inl ((cT 0), 1000, .inl f)), (sv, .inr (5, [.ref se, .ref pw, .ref g0, .ref ty, .ref an, .ref aw, .ref ts, .ref ss, .ref rq, .int tm, .int 0, .int 0])), (aw, .inr (6, [.ref a1, .int a2, .int 0])), (ts, .inr (9, [.ref t1, .long t2, .long t3, .int 0])), (ss, .inr (11, [.ref s1, .int 0]))] sz) := by
  refine Met.ofW (cc := b_DS_count) (maxL := 2) (ret := (Option.some Jvm.ClassFile.FieldType.int)) (by decide) rfl ?_
  intro p e s m args below meth c s₁ B hml hv
  obtain ⟨hargs, hsz, hP, hK, hD0⟩ := hv
  have hx := B.exec
  have hb := B.bytes
  have hr := B.returns
  have hts := atoms_spec (ws := (Cond.code y_DS_count b_DS_count 2 (Option.some Jvm.ClassFile.FieldType.int) :: BIG)) B.pre
  have hg : ∀ w ∈ BIG, w.before _ s = true := fun w h => hts w (List.mem_cons_of_mem _ h)
  have hown : s.vm.findClass "DoorServer" = some m.cls := findClass_of_methodNamed B.named
  have hlocks := B.notSynchronized
  subst hsz
  have hD := hD0.self (sz := s.heap.size)
  generalize hAe : va_A [(ds, .inr (0, [.ref dr, .ref sv])), (dr, .inr (2, [.ref rr, .int (nI 20)])), (rr, .inl ((cT 0), 1000, .inl f)), (sv, .inr (5, [.ref se, .ref pw, .ref g0, .ref ty, .ref an, .ref aw, .ref ts, .ref ss, .ref rq, .int tm, .int 0, .int 0])), (aw, .inr (6, [.ref a1, .int a2, .int 0])), (ts, .inr (9, [.ref t1, .long t2, .long t3, .int 0])), (ss, .inr (11, [.ref s1, .int 0]))] s.heap.size = A at hD ⊢
  have hA : ∀ q : Nat, s.heap.size ≤ q → A q := fun q h => by rw [← hAe]; exact Or.inr h
  have hS : va_S A s.heap s.heap [] := va_S.rf
  have hl := lv_entry ([.ref ds, .int 0]) (n := 2) (Nat.le_of_ble_eq_true rfl)
  refine W.eq (g2 := entryFrame m (List.toArray [.ref ds, .int 0]) 2) (by rw [hargs]) ?_
  rw [lg_entry_eq]
  generalize (lg_sl ([.ref ds, .int 0]) ++ List.replicate (2 - (lg_sl ([.ref ds, .int 0])).length) Slot.unset).toArray = ls at hl ⊢
  have hl : lv_has ls 2 [(0, .ref ds), (1, .int 0)] := hl
  change W p l e ({ frames := 0, cells := 0, slots := 0, locals := 0 } : Room) s m args below meth c s.heap [] 0 0 _ _
  have hP : va_P (dC, dI) vcl [(ds, .inr (0, [.ref dr, .ref sv])), (dr, .inr (2, [.ref rr, .int (nI 20)])), (rr, .inl ((cT 0), 1000, .inl f)), (sv, .inr (5, [.ref se, .ref pw, .ref g0, .ref ty, .ref an, .ref aw, .ref ts, .ref ss, .ref rq, .int tm, .int 0, .int 0])), (aw, .inr (6, [.ref a1, .int a2, .int 0])), (ts, .inr (9, [.ref t1, .long t2, .long t3, .int 0])), (ss, .inr (11, [.ref s1, .int 0]))] s.heap := hP
  refine lv_iload_n hx hb d_DS_count_0 rfl (lv_at hl 1 rfl) ?_
  refine lv_tableIn (tgt := 40) (off := 39) hx hb d_DS_count_1 (by decide) (by decide) (by decide) (by decide) ?_
  refine lv_aload_n hx hb d_DS_count_40 rfl (lv_at hl 0 rfl) ?_
  refine va_get (D := (dC, dI)) (ci := 0) (v := (.ref sv)) (C := R_DS) (T := F_DS) (N := 2) hx hb hg in_DS hown hK hP 0 rfl rfl 1 (by decide) (hg _ k_369) (fun _ h9 => h9) rfl d_DS_count_41 ?_
  refine va_get (D := (dC, dI)) (ci := 5) (v := (.ref aw)) (C := R_Sv) (T := F_Sv) (N := 12) hx hb hg in_Sv hown hK hP 3 rfl rfl 5 (by decide) (hg _ k_331) (fun _ h9 => h9) rfl d_DS_count_44 ?_
  refine va_get (D := (dC, dI)) (ci := 6) (v := (.int 0)) (C := R_An) (T := F_An) (N := 3) hx hb hg in_An hown hK hP 4 rfl rfl 2 (by decide) (hg _ k_183) (fun _ h9 => h9) rfl d_DS_count_47 ?_
  have hP9 := hP.sub (ws' := []) [] rfl
  have hD9 := hD.sub (ws' := []) [] (by decide) rfl
  exact W.iret (v := 0) hx hb hr (fun t ht hW => ⟨⟨_, (), rfl, ⟨rfl, trivial⟩, by rw [ht]; exact hP9, va_K.moved hW.alike hK, hD9⟩, hS.F ht⟩) hS.2.2 d_DS_count_50
set_option maxHeartbeats 4000000 in
set_option maxRecDepth 100000 in
/-- count(1) -/
theorem c_count1 (l : Launch) (dC : Nat → ClassId) (dI : Nat → Nat → Nat) (cT : Nat → ClassId) (sz : Nat) (ds : Nat) (dr : Nat) (sv : Nat) (rr : Nat) (g0 : Nat) (se : Nat) (pw : Nat) (ty : Nat) (an : Nat) (aw : Nat) (ts : Nat) (ss : Nat) (rq : Nat) (tm : Int32) (f : Nat → Int32) (a1 : Nat) (a2 : Int32) (t1 : Nat) (t2 : Int64) (t3 : Int64) (s1 : Nat)  : Met l y_DS_count (Cond.code y_DS_count b_DS_count 2 (Option.some Jvm.ClassFile.FieldType.int) :: BIG) ({ frames := 0, cells := 0, slots := 0, locals := 0 }) (va_Pc [.ref ds, .int 1] (fun U => U.heap.size = sz ∧ va_P (dC, dI) vcl [(ds, .inr (0, [.ref dr, .ref sv])), (dr, .inr (2, [.ref rr, .int (nI 20)])), (rr, .inl ((cT 0), 1000, .inl f)), (sv, .inr (5, [.ref se, .ref pw, .ref g0, .ref ty, .ref an, .ref aw, .ref ts, .ref ss, .ref rq, .int tm, .int 0, .int 0])), (aw, .inr (6, [.ref a1, .int a2, .int 0])), (ts, .inr (9, [.ref t1, .long t2, .long t3, .int 0])), (ss, .inr (11, [.ref s1, .int 0]))] U.heap ∧ va_K (dC, dI) vcl (tyL cT) U ∧ va_D (fun _ => True) [(ds, .inr (0, [.ref dr, .ref sv])), (dr, .inr (2, [.ref rr, .int (nI 20)])), (rr, .inl ((cT 0), 1000, .inl f)), (sv, .inr (5, [.ref se, .ref pw, .ref g0, .ref ty, .ref an, .ref aw, .ref ts, .ref ss, .ref rq, .int tm, .int 0, .int 0])), (aw, .inr (6, [.ref a1, .int a2, .int 0])), (ts, .inr (9, [.ref t1, .long t2, .long t3, .int 0])), (ss, .inr (11, [.ref s1, .int 0]))])) (va_Qi (S := Unit) (fun r u => r = 0 ∧ (True)) (fun u t => va_P (dC, dI) vcl [] t.heap ∧ va_K (dC, dI) vcl (tyL cT) t ∧ va_D (va_A [(ds, .inr (0, [.ref dr, .ref sv])), (dr, .inr (2, [.ref rr, .int (nI 20)])), (rr, .inl ((cT 0), 1000, .inl f)), (sv, .inr (5, [.ref se, .ref pw, .ref g0, .ref ty, .ref an, .ref aw, .ref ts, .ref ss, .ref rq, .int tm, .int 0, .int 0])), (aw, .inr (6, [.ref a1, .int a2, .int 0])), (ts, .inr (9, [.ref t1, .long t2, .long t3, .int 0])), (ss, .inr (11, [.ref s1, .int 0]))] sz) []) (va_A [(ds, .inr (0, [.ref dr, .ref sv])), (dr, .inr (2, [.ref rr, .int (nI 20)])), (rr, .inl ((cT 0), 1000, .inl f)), (sv, .inr (5, [.ref se, .ref pw, .ref g0, .ref ty, .ref an, .ref aw, .ref ts, .ref ss, .ref rq, .int tm, .int 0, .int 0])), (aw, .inr (6, [.ref a1, .int a2, .int 0])), (ts, .inr (9, [.ref t1, .long t2, .long t3, .int 0])), (ss, .inr (11, [.ref s1, .int 0]))] sz)) 0 0 (va_A [(ds, .inr (0, [.ref dr, .ref sv])), (dr, .inr (2, [.ref rr, .int (nI 20)])), (rr, .inl ((cT 0), 1000, .inl f)), (sv, .inr (5, [.ref se, .ref pw, .ref g0, .ref ty, .ref an, .ref aw, .ref ts, .ref ss, .ref rq, .int tm, .int 0, .int 0])), (aw, .inr (6, [.ref a1, .int a2, .int 0])), (ts, .inr (9, [.ref t1, .long t2, .long t3, .int 0])), (ss, .inr (11, [.ref s1, .int 0]))] sz) := by
  refine Met.ofW (cc := b_DS_count) (maxL := 2) (ret := (Option.some Jvm.ClassFile.FieldType.int)) (by decide) rfl ?_
  intro p e s m args below meth c s₁ B hml hv
  obtain ⟨hargs, hsz, hP, hK, hD0⟩ := hv
  have hx := B.exec
  have hb := B.bytes
  have hr := B.returns
  have hts := atoms_spec (ws := (Cond.code y_DS_count b_DS_count 2 (Option.some Jvm.ClassFile.FieldType.int) :: BIG)) B.pre
  have hg : ∀ w ∈ BIG, w.before _ s = true := fun w h => hts w (List.mem_cons_of_mem _ h)
  have hown : s.vm.findClass "DoorServer" = some m.cls := findClass_of_methodNamed B.named
  have hlocks := B.notSynchronized
  subst hsz
  have hD := hD0.self (sz := s.heap.size)
  generalize hAe : va_A [(ds, .inr (0, [.ref dr, .ref sv])), (dr, .inr (2, [.ref rr, .int (nI 20)])), (rr, .inl ((cT 0), 1000, .inl f)), (sv, .inr (5, [.ref se, .ref pw, .ref g0, .ref ty, .ref an, .ref aw, .ref ts, .ref ss, .ref rq, .int tm, .int 0, .int 0])), (aw, .inr (6, [.ref a1, .int a2, .int 0])), (ts, .inr (9, [.ref t1, .long t2, .long t3, .int 0])), (ss, .inr (11, [.ref s1, .int 0]))] s.heap.size = A at hD ⊢
  have hA : ∀ q : Nat, s.heap.size ≤ q → A q := fun q h => by rw [← hAe]; exact Or.inr h
  have hS : va_S A s.heap s.heap [] := va_S.rf
  have hl := lv_entry ([.ref ds, .int 1]) (n := 2) (Nat.le_of_ble_eq_true rfl)
  refine W.eq (g2 := entryFrame m (List.toArray [.ref ds, .int 1]) 2) (by rw [hargs]) ?_
  rw [lg_entry_eq]
  generalize (lg_sl ([.ref ds, .int 1]) ++ List.replicate (2 - (lg_sl ([.ref ds, .int 1])).length) Slot.unset).toArray = ls at hl ⊢
  have hl : lv_has ls 2 [(0, .ref ds), (1, .int 1)] := hl
  change W p l e ({ frames := 0, cells := 0, slots := 0, locals := 0 } : Room) s m args below meth c s.heap [] 0 0 _ _
  have hP : va_P (dC, dI) vcl [(ds, .inr (0, [.ref dr, .ref sv])), (dr, .inr (2, [.ref rr, .int (nI 20)])), (rr, .inl ((cT 0), 1000, .inl f)), (sv, .inr (5, [.ref se, .ref pw, .ref g0, .ref ty, .ref an, .ref aw, .ref ts, .ref ss, .ref rq, .int tm, .int 0, .int 0])), (aw, .inr (6, [.ref a1, .int a2, .int 0])), (ts, .inr (9, [.ref t1, .long t2, .long t3, .int 0])), (ss, .inr (11, [.ref s1, .int 0]))] s.heap := hP
  refine lv_iload_n hx hb d_DS_count_0 rfl (lv_at hl 1 rfl) ?_
  refine lv_tableIn (tgt := 51) (off := 50) hx hb d_DS_count_1 (by decide) (by decide) (by decide) (by decide) ?_
  refine lv_aload_n hx hb d_DS_count_51 rfl (lv_at hl 0 rfl) ?_
  refine va_get (D := (dC, dI)) (ci := 0) (v := (.ref sv)) (C := R_DS) (T := F_DS) (N := 2) hx hb hg in_DS hown hK hP 0 rfl rfl 1 (by decide) (hg _ k_369) (fun _ h9 => h9) rfl d_DS_count_52 ?_
  refine va_get (D := (dC, dI)) (ci := 5) (v := (.ref ts)) (C := R_Sv) (T := F_Sv) (N := 12) hx hb hg in_Sv hown hK hP 3 rfl rfl 6 (by decide) (hg _ k_333) (fun _ h9 => h9) rfl d_DS_count_55 ?_
  refine va_get (D := (dC, dI)) (ci := 9) (v := (.int 0)) (C := R_Ts) (T := F_Ts) (N := 4) hx hb hg in_Ts hown hK hP 5 rfl rfl 3 (by decide) (hg _ k_235) (fun _ h9 => h9) rfl d_DS_count_58 ?_
  have hP9 := hP.sub (ws' := []) [] rfl
  have hD9 := hD.sub (ws' := []) [] (by decide) rfl
  exact W.iret (v := 0) hx hb hr (fun t ht hW => ⟨⟨_, (), rfl, ⟨rfl, trivial⟩, by rw [ht]; exact hP9, va_K.moved hW.alike hK, hD9⟩, hS.F ht⟩) hS.2.2 d_DS_count_61
set_option maxHeartbeats 4000000 in
set_option maxRecDepth 100000 in
/-- count(2) -/
theorem c_count2 (l : Launch) (dC : Nat → ClassId) (dI : Nat → Nat → Nat) (cT : Nat → ClassId) (sz : Nat) (ds : Nat) (dr : Nat) (sv : Nat) (rr : Nat) (g0 : Nat) (se : Nat) (pw : Nat) (ty : Nat) (an : Nat) (aw : Nat) (ts : Nat) (ss : Nat) (rq : Nat) (tm : Int32) (f : Nat → Int32) (a1 : Nat) (a2 : Int32) (t1 : Nat) (t2 : Int64) (t3 : Int64) (s1 : Nat)  : Met l y_DS_count (Cond.code y_DS_count b_DS_count 2 (Option.some Jvm.ClassFile.FieldType.int) :: BIG) ({ frames := 0, cells := 0, slots := 0, locals := 0 }) (va_Pc [.ref ds, .int 2] (fun U => U.heap.size = sz ∧ va_P (dC, dI) vcl [(ds, .inr (0, [.ref dr, .ref sv])), (dr, .inr (2, [.ref rr, .int (nI 20)])), (rr, .inl ((cT 0), 1000, .inl f)), (sv, .inr (5, [.ref se, .ref pw, .ref g0, .ref ty, .ref an, .ref aw, .ref ts, .ref ss, .ref rq, .int tm, .int 0, .int 0])), (aw, .inr (6, [.ref a1, .int a2, .int 0])), (ts, .inr (9, [.ref t1, .long t2, .long t3, .int 0])), (ss, .inr (11, [.ref s1, .int 0]))] U.heap ∧ va_K (dC, dI) vcl (tyL cT) U ∧ va_D (fun _ => True) [(ds, .inr (0, [.ref dr, .ref sv])), (dr, .inr (2, [.ref rr, .int (nI 20)])), (rr, .inl ((cT 0), 1000, .inl f)), (sv, .inr (5, [.ref se, .ref pw, .ref g0, .ref ty, .ref an, .ref aw, .ref ts, .ref ss, .ref rq, .int tm, .int 0, .int 0])), (aw, .inr (6, [.ref a1, .int a2, .int 0])), (ts, .inr (9, [.ref t1, .long t2, .long t3, .int 0])), (ss, .inr (11, [.ref s1, .int 0]))])) (va_Qi (S := Unit) (fun r u => r = 0 ∧ (True)) (fun u t => va_P (dC, dI) vcl [] t.heap ∧ va_K (dC, dI) vcl (tyL cT) t ∧ va_D (va_A [(ds, .inr (0, [.ref dr, .ref sv])), (dr, .inr (2, [.ref rr, .int (nI 20)])), (rr, .inl ((cT 0), 1000, .inl f)), (sv, .inr (5, [.ref se, .ref pw, .ref g0, .ref ty, .ref an, .ref aw, .ref ts, .ref ss, .ref rq, .int tm, .int 0, .int 0])), (aw, .inr (6, [.ref a1, .int a2, .int 0])), (ts, .inr (9, [.ref t1, .long t2, .long t3, .int 0])), (ss, .inr (11, [.ref s1, .int 0]))] sz) []) (va_A [(ds, .inr (0, [.ref dr, .ref sv])), (dr, .inr (2, [.ref rr, .int (nI 20)])), (rr, .inl ((cT 0), 1000, .inl f)), (sv, .inr (5, [.ref se, .ref pw, .ref g0, .ref ty, .ref an, .ref aw, .ref ts, .ref ss, .ref rq, .int tm, .int 0, .int 0])), (aw, .inr (6, [.ref a1, .int a2, .int 0])), (ts, .inr (9, [.ref t1, .long t2, .long t3, .int 0])), (ss, .inr (11, [.ref s1, .int 0]))] sz)) 0 0 (va_A [(ds, .inr (0, [.ref dr, .ref sv])), (dr, .inr (2, [.ref rr, .int (nI 20)])), (rr, .inl ((cT 0), 1000, .inl f)), (sv, .inr (5, [.ref se, .ref pw, .ref g0, .ref ty, .ref an, .ref aw, .ref ts, .ref ss, .ref rq, .int tm, .int 0, .int 0])), (aw, .inr (6, [.ref a1, .int a2, .int 0])), (ts, .inr (9, [.ref t1, .long t2, .long t3, .int 0])), (ss, .inr (11, [.ref s1, .int 0]))] sz) := by
  refine Met.ofW (cc := b_DS_count) (maxL := 2) (ret := (Option.some Jvm.ClassFile.FieldType.int)) (by decide) rfl ?_
  intro p e s m args below meth c s₁ B hml hv
  obtain ⟨hargs, hsz, hP, hK, hD0⟩ := hv
  have hx := B.exec
  have hb := B.bytes
  have hr := B.returns
  have hts := atoms_spec (ws := (Cond.code y_DS_count b_DS_count 2 (Option.some Jvm.ClassFile.FieldType.int) :: BIG)) B.pre
  have hg : ∀ w ∈ BIG, w.before _ s = true := fun w h => hts w (List.mem_cons_of_mem _ h)
  have hown : s.vm.findClass "DoorServer" = some m.cls := findClass_of_methodNamed B.named
  have hlocks := B.notSynchronized
  subst hsz
  have hD := hD0.self (sz := s.heap.size)
  generalize hAe : va_A [(ds, .inr (0, [.ref dr, .ref sv])), (dr, .inr (2, [.ref rr, .int (nI 20)])), (rr, .inl ((cT 0), 1000, .inl f)), (sv, .inr (5, [.ref se, .ref pw, .ref g0, .ref ty, .ref an, .ref aw, .ref ts, .ref ss, .ref rq, .int tm, .int 0, .int 0])), (aw, .inr (6, [.ref a1, .int a2, .int 0])), (ts, .inr (9, [.ref t1, .long t2, .long t3, .int 0])), (ss, .inr (11, [.ref s1, .int 0]))] s.heap.size = A at hD ⊢
  have hA : ∀ q : Nat, s.heap.size ≤ q → A q := fun q h => by rw [← hAe]; exact Or.inr h
  have hS : va_S A s.heap s.heap [] := va_S.rf
  have hl := lv_entry ([.ref ds, .int 2]) (n := 2) (Nat.le_of_ble_eq_true rfl)
  refine W.eq (g2 := entryFrame m (List.toArray [.ref ds, .int 2]) 2) (by rw [hargs]) ?_
  rw [lg_entry_eq]
  generalize (lg_sl ([.ref ds, .int 2]) ++ List.replicate (2 - (lg_sl ([.ref ds, .int 2])).length) Slot.unset).toArray = ls at hl ⊢
  have hl : lv_has ls 2 [(0, .ref ds), (1, .int 2)] := hl
  change W p l e ({ frames := 0, cells := 0, slots := 0, locals := 0 } : Room) s m args below meth c s.heap [] 0 0 _ _
  have hP : va_P (dC, dI) vcl [(ds, .inr (0, [.ref dr, .ref sv])), (dr, .inr (2, [.ref rr, .int (nI 20)])), (rr, .inl ((cT 0), 1000, .inl f)), (sv, .inr (5, [.ref se, .ref pw, .ref g0, .ref ty, .ref an, .ref aw, .ref ts, .ref ss, .ref rq, .int tm, .int 0, .int 0])), (aw, .inr (6, [.ref a1, .int a2, .int 0])), (ts, .inr (9, [.ref t1, .long t2, .long t3, .int 0])), (ss, .inr (11, [.ref s1, .int 0]))] s.heap := hP
  refine lv_iload_n hx hb d_DS_count_0 rfl (lv_at hl 1 rfl) ?_
  refine lv_tableIn (tgt := 62) (off := 61) hx hb d_DS_count_1 (by decide) (by decide) (by decide) (by decide) ?_
  refine lv_aload_n hx hb d_DS_count_62 rfl (lv_at hl 0 rfl) ?_
  refine va_get (D := (dC, dI)) (ci := 0) (v := (.ref sv)) (C := R_DS) (T := F_DS) (N := 2) hx hb hg in_DS hown hK hP 0 rfl rfl 1 (by decide) (hg _ k_369) (fun _ h9 => h9) rfl d_DS_count_63 ?_
  refine va_get (D := (dC, dI)) (ci := 5) (v := (.ref ss)) (C := R_Sv) (T := F_Sv) (N := 12) hx hb hg in_Sv hown hK hP 3 rfl rfl 7 (by decide) (hg _ k_335) (fun _ h9 => h9) rfl d_DS_count_66 ?_
  refine va_get (D := (dC, dI)) (ci := 11) (v := (.int 0)) (C := R_Ss) (T := F_Ss) (N := 2) hx hb hg in_Ss hown hK hP 6 rfl rfl 1 (by decide) (hg _ k_297) (fun _ h9 => h9) rfl d_DS_count_69 ?_
  have hP9 := hP.sub (ws' := []) [] rfl
  have hD9 := hD.sub (ws' := []) [] (by decide) rfl
  exact W.iret (v := 0) hx hb hr (fun t ht hW => ⟨⟨_, (), rfl, ⟨rfl, trivial⟩, by rw [ht]; exact hP9, va_K.moved hW.alike hK, hD9⟩, hS.F ht⟩) hS.2.2 d_DS_count_72
set_option maxHeartbeats 4000000 in
set_option maxRecDepth 100000 in
/-- count(3) -/
theorem c_count3 (l : Launch) (dC : Nat → ClassId) (dI : Nat → Nat → Nat) (cT : Nat → ClassId) (sz : Nat) (ds : Nat) (dr : Nat) (sv : Nat) (rr : Nat) (g0 : Nat) (se : Nat) (pw : Nat) (ty : Nat) (an : Nat) (aw : Nat) (ts : Nat) (ss : Nat) (rq : Nat) (tm : Int32) (f : Nat → Int32) (a1 : Nat) (a2 : Int32) (t1 : Nat) (t2 : Int64) (t3 : Int64) (s1 : Nat)  : Met l y_DS_count (Cond.code y_DS_count b_DS_count 2 (Option.some Jvm.ClassFile.FieldType.int) :: BIG) ({ frames := 0, cells := 0, slots := 0, locals := 0 }) (va_Pc [.ref ds, .int 3] (fun U => U.heap.size = sz ∧ va_P (dC, dI) vcl [(ds, .inr (0, [.ref dr, .ref sv])), (dr, .inr (2, [.ref rr, .int (nI 20)])), (rr, .inl ((cT 0), 1000, .inl f)), (sv, .inr (5, [.ref se, .ref pw, .ref g0, .ref ty, .ref an, .ref aw, .ref ts, .ref ss, .ref rq, .int tm, .int 0, .int 0])), (aw, .inr (6, [.ref a1, .int a2, .int 0])), (ts, .inr (9, [.ref t1, .long t2, .long t3, .int 0])), (ss, .inr (11, [.ref s1, .int 0]))] U.heap ∧ va_K (dC, dI) vcl (tyL cT) U ∧ va_D (fun _ => True) [(ds, .inr (0, [.ref dr, .ref sv])), (dr, .inr (2, [.ref rr, .int (nI 20)])), (rr, .inl ((cT 0), 1000, .inl f)), (sv, .inr (5, [.ref se, .ref pw, .ref g0, .ref ty, .ref an, .ref aw, .ref ts, .ref ss, .ref rq, .int tm, .int 0, .int 0])), (aw, .inr (6, [.ref a1, .int a2, .int 0])), (ts, .inr (9, [.ref t1, .long t2, .long t3, .int 0])), (ss, .inr (11, [.ref s1, .int 0]))])) (va_Qi (S := Unit) (fun r u => r = 0 ∧ (True)) (fun u t => va_P (dC, dI) vcl [] t.heap ∧ va_K (dC, dI) vcl (tyL cT) t ∧ va_D (va_A [(ds, .inr (0, [.ref dr, .ref sv])), (dr, .inr (2, [.ref rr, .int (nI 20)])), (rr, .inl ((cT 0), 1000, .inl f)), (sv, .inr (5, [.ref se, .ref pw, .ref g0, .ref ty, .ref an, .ref aw, .ref ts, .ref ss, .ref rq, .int tm, .int 0, .int 0])), (aw, .inr (6, [.ref a1, .int a2, .int 0])), (ts, .inr (9, [.ref t1, .long t2, .long t3, .int 0])), (ss, .inr (11, [.ref s1, .int 0]))] sz) []) (va_A [(ds, .inr (0, [.ref dr, .ref sv])), (dr, .inr (2, [.ref rr, .int (nI 20)])), (rr, .inl ((cT 0), 1000, .inl f)), (sv, .inr (5, [.ref se, .ref pw, .ref g0, .ref ty, .ref an, .ref aw, .ref ts, .ref ss, .ref rq, .int tm, .int 0, .int 0])), (aw, .inr (6, [.ref a1, .int a2, .int 0])), (ts, .inr (9, [.ref t1, .long t2, .long t3, .int 0])), (ss, .inr (11, [.ref s1, .int 0]))] sz)) 0 0 (va_A [(ds, .inr (0, [.ref dr, .ref sv])), (dr, .inr (2, [.ref rr, .int (nI 20)])), (rr, .inl ((cT 0), 1000, .inl f)), (sv, .inr (5, [.ref se, .ref pw, .ref g0, .ref ty, .ref an, .ref aw, .ref ts, .ref ss, .ref rq, .int tm, .int 0, .int 0])), (aw, .inr (6, [.ref a1, .int a2, .int 0])), (ts, .inr (9, [.ref t1, .long t2, .long t3, .int 0])), (ss, .inr (11, [.ref s1, .int 0]))] sz) := by
  refine Met.ofW (cc := b_DS_count) (maxL := 2) (ret := (Option.some Jvm.ClassFile.FieldType.int)) (by decide) rfl ?_
  intro p e s m args below meth c s₁ B hml hv
  obtain ⟨hargs, hsz, hP, hK, hD0⟩ := hv
  have hx := B.exec
  have hb := B.bytes
  have hr := B.returns
  have hts := atoms_spec (ws := (Cond.code y_DS_count b_DS_count 2 (Option.some Jvm.ClassFile.FieldType.int) :: BIG)) B.pre
  have hg : ∀ w ∈ BIG, w.before _ s = true := fun w h => hts w (List.mem_cons_of_mem _ h)
  have hown : s.vm.findClass "DoorServer" = some m.cls := findClass_of_methodNamed B.named
  have hlocks := B.notSynchronized
  subst hsz
  have hD := hD0.self (sz := s.heap.size)
  generalize hAe : va_A [(ds, .inr (0, [.ref dr, .ref sv])), (dr, .inr (2, [.ref rr, .int (nI 20)])), (rr, .inl ((cT 0), 1000, .inl f)), (sv, .inr (5, [.ref se, .ref pw, .ref g0, .ref ty, .ref an, .ref aw, .ref ts, .ref ss, .ref rq, .int tm, .int 0, .int 0])), (aw, .inr (6, [.ref a1, .int a2, .int 0])), (ts, .inr (9, [.ref t1, .long t2, .long t3, .int 0])), (ss, .inr (11, [.ref s1, .int 0]))] s.heap.size = A at hD ⊢
  have hA : ∀ q : Nat, s.heap.size ≤ q → A q := fun q h => by rw [← hAe]; exact Or.inr h
  have hS : va_S A s.heap s.heap [] := va_S.rf
  have hl := lv_entry ([.ref ds, .int 3]) (n := 2) (Nat.le_of_ble_eq_true rfl)
  refine W.eq (g2 := entryFrame m (List.toArray [.ref ds, .int 3]) 2) (by rw [hargs]) ?_
  rw [lg_entry_eq]
  generalize (lg_sl ([.ref ds, .int 3]) ++ List.replicate (2 - (lg_sl ([.ref ds, .int 3])).length) Slot.unset).toArray = ls at hl ⊢
  have hl : lv_has ls 2 [(0, .ref ds), (1, .int 3)] := hl
  change W p l e ({ frames := 0, cells := 0, slots := 0, locals := 0 } : Room) s m args below meth c s.heap [] 0 0 _ _
  have hP : va_P (dC, dI) vcl [(ds, .inr (0, [.ref dr, .ref sv])), (dr, .inr (2, [.ref rr, .int (nI 20)])), (rr, .inl ((cT 0), 1000, .inl f)), (sv, .inr (5, [.ref se, .ref pw, .ref g0, .ref ty, .ref an, .ref aw, .ref ts, .ref ss, .ref rq, .int tm, .int 0, .int 0])), (aw, .inr (6, [.ref a1, .int a2, .int 0])), (ts, .inr (9, [.ref t1, .long t2, .long t3, .int 0])), (ss, .inr (11, [.ref s1, .int 0]))] s.heap := hP
  refine lv_iload_n hx hb d_DS_count_0 rfl (lv_at hl 1 rfl) ?_
  refine lv_tableIn (tgt := 73) (off := 72) hx hb d_DS_count_1 (by decide) (by decide) (by decide) (by decide) ?_
  refine lv_aload_n hx hb d_DS_count_73 rfl (lv_at hl 0 rfl) ?_
  refine va_get (D := (dC, dI)) (ci := 0) (v := (.ref sv)) (C := R_DS) (T := F_DS) (N := 2) hx hb hg in_DS hown hK hP 0 rfl rfl 1 (by decide) (hg _ k_369) (fun _ h9 => h9) rfl d_DS_count_74 ?_
  refine va_get (D := (dC, dI)) (ci := 5) (v := (.int 0)) (C := R_Sv) (T := F_Sv) (N := 12) hx hb hg in_Sv hown hK hP 3 rfl rfl 10 (by decide) (hg _ k_340) (fun _ h9 => h9) rfl d_DS_count_77 ?_
  have hP9 := hP.sub (ws' := []) [] rfl
  have hD9 := hD.sub (ws' := []) [] (by decide) rfl
  exact W.iret (v := 0) hx hb hr (fun t ht hW => ⟨⟨_, (), rfl, ⟨rfl, trivial⟩, by rw [ht]; exact hP9, va_K.moved hW.alike hK, hD9⟩, hS.F ht⟩) hS.2.2 d_DS_count_80
set_option maxHeartbeats 4000000 in
set_option maxRecDepth 100000 in
/-- count(4) -/
theorem c_count4 (l : Launch) (dC : Nat → ClassId) (dI : Nat → Nat → Nat) (cT : Nat → ClassId) (sz : Nat) (ds : Nat) (dr : Nat) (sv : Nat) (rr : Nat) (g0 : Nat) (se : Nat) (pw : Nat) (ty : Nat) (an : Nat) (aw : Nat) (ts : Nat) (ss : Nat) (rq : Nat) (tm : Int32) (f : Nat → Int32) (a1 : Nat) (a2 : Int32) (t1 : Nat) (t2 : Int64) (t3 : Int64) (s1 : Nat)  : Met l y_DS_count (Cond.code y_DS_count b_DS_count 2 (Option.some Jvm.ClassFile.FieldType.int) :: BIG) ({ frames := 0, cells := 0, slots := 0, locals := 0 }) (va_Pc [.ref ds, .int 4] (fun U => U.heap.size = sz ∧ va_P (dC, dI) vcl [(ds, .inr (0, [.ref dr, .ref sv])), (dr, .inr (2, [.ref rr, .int (nI 20)])), (rr, .inl ((cT 0), 1000, .inl f)), (sv, .inr (5, [.ref se, .ref pw, .ref g0, .ref ty, .ref an, .ref aw, .ref ts, .ref ss, .ref rq, .int tm, .int 0, .int 0])), (aw, .inr (6, [.ref a1, .int a2, .int 0])), (ts, .inr (9, [.ref t1, .long t2, .long t3, .int 0])), (ss, .inr (11, [.ref s1, .int 0]))] U.heap ∧ va_K (dC, dI) vcl (tyL cT) U ∧ va_D (fun _ => True) [(ds, .inr (0, [.ref dr, .ref sv])), (dr, .inr (2, [.ref rr, .int (nI 20)])), (rr, .inl ((cT 0), 1000, .inl f)), (sv, .inr (5, [.ref se, .ref pw, .ref g0, .ref ty, .ref an, .ref aw, .ref ts, .ref ss, .ref rq, .int tm, .int 0, .int 0])), (aw, .inr (6, [.ref a1, .int a2, .int 0])), (ts, .inr (9, [.ref t1, .long t2, .long t3, .int 0])), (ss, .inr (11, [.ref s1, .int 0]))])) (va_Qi (S := Unit) (fun r u => r = 0 ∧ (True)) (fun u t => va_P (dC, dI) vcl [] t.heap ∧ va_K (dC, dI) vcl (tyL cT) t ∧ va_D (va_A [(ds, .inr (0, [.ref dr, .ref sv])), (dr, .inr (2, [.ref rr, .int (nI 20)])), (rr, .inl ((cT 0), 1000, .inl f)), (sv, .inr (5, [.ref se, .ref pw, .ref g0, .ref ty, .ref an, .ref aw, .ref ts, .ref ss, .ref rq, .int tm, .int 0, .int 0])), (aw, .inr (6, [.ref a1, .int a2, .int 0])), (ts, .inr (9, [.ref t1, .long t2, .long t3, .int 0])), (ss, .inr (11, [.ref s1, .int 0]))] sz) []) (va_A [(ds, .inr (0, [.ref dr, .ref sv])), (dr, .inr (2, [.ref rr, .int (nI 20)])), (rr, .inl ((cT 0), 1000, .inl f)), (sv, .inr (5, [.ref se, .ref pw, .ref g0, .ref ty, .ref an, .ref aw, .ref ts, .ref ss, .ref rq, .int tm, .int 0, .int 0])), (aw, .inr (6, [.ref a1, .int a2, .int 0])), (ts, .inr (9, [.ref t1, .long t2, .long t3, .int 0])), (ss, .inr (11, [.ref s1, .int 0]))] sz)) 0 0 (va_A [(ds, .inr (0, [.ref dr, .ref sv])), (dr, .inr (2, [.ref rr, .int (nI 20)])), (rr, .inl ((cT 0), 1000, .inl f)), (sv, .inr (5, [.ref se, .ref pw, .ref g0, .ref ty, .ref an, .ref aw, .ref ts, .ref ss, .ref rq, .int tm, .int 0, .int 0])), (aw, .inr (6, [.ref a1, .int a2, .int 0])), (ts, .inr (9, [.ref t1, .long t2, .long t3, .int 0])), (ss, .inr (11, [.ref s1, .int 0]))] sz) := by
  refine Met.ofW (cc := b_DS_count) (maxL := 2) (ret := (Option.some Jvm.ClassFile.FieldType.int)) (by decide) rfl ?_
  intro p e s m args below meth c s₁ B hml hv
  obtain ⟨hargs, hsz, hP, hK, hD0⟩ := hv
  have hx := B.exec
  have hb := B.bytes
  have hr := B.returns
  have hts := atoms_spec (ws := (Cond.code y_DS_count b_DS_count 2 (Option.some Jvm.ClassFile.FieldType.int) :: BIG)) B.pre
  have hg : ∀ w ∈ BIG, w.before _ s = true := fun w h => hts w (List.mem_cons_of_mem _ h)
  have hown : s.vm.findClass "DoorServer" = some m.cls := findClass_of_methodNamed B.named
  have hlocks := B.notSynchronized
  subst hsz
  have hD := hD0.self (sz := s.heap.size)
  generalize hAe : va_A [(ds, .inr (0, [.ref dr, .ref sv])), (dr, .inr (2, [.ref rr, .int (nI 20)])), (rr, .inl ((cT 0), 1000, .inl f)), (sv, .inr (5, [.ref se, .ref pw, .ref g0, .ref ty, .ref an, .ref aw, .ref ts, .ref ss, .ref rq, .int tm, .int 0, .int 0])), (aw, .inr (6, [.ref a1, .int a2, .int 0])), (ts, .inr (9, [.ref t1, .long t2, .long t3, .int 0])), (ss, .inr (11, [.ref s1, .int 0]))] s.heap.size = A at hD ⊢
  have hA : ∀ q : Nat, s.heap.size ≤ q → A q := fun q h => by rw [← hAe]; exact Or.inr h
  have hS : va_S A s.heap s.heap [] := va_S.rf
  have hl := lv_entry ([.ref ds, .int 4]) (n := 2) (Nat.le_of_ble_eq_true rfl)
  refine W.eq (g2 := entryFrame m (List.toArray [.ref ds, .int 4]) 2) (by rw [hargs]) ?_
  rw [lg_entry_eq]
  generalize (lg_sl ([.ref ds, .int 4]) ++ List.replicate (2 - (lg_sl ([.ref ds, .int 4])).length) Slot.unset).toArray = ls at hl ⊢
  have hl : lv_has ls 2 [(0, .ref ds), (1, .int 4)] := hl
  change W p l e ({ frames := 0, cells := 0, slots := 0, locals := 0 } : Room) s m args below meth c s.heap [] 0 0 _ _
  have hP : va_P (dC, dI) vcl [(ds, .inr (0, [.ref dr, .ref sv])), (dr, .inr (2, [.ref rr, .int (nI 20)])), (rr, .inl ((cT 0), 1000, .inl f)), (sv, .inr (5, [.ref se, .ref pw, .ref g0, .ref ty, .ref an, .ref aw, .ref ts, .ref ss, .ref rq, .int tm, .int 0, .int 0])), (aw, .inr (6, [.ref a1, .int a2, .int 0])), (ts, .inr (9, [.ref t1, .long t2, .long t3, .int 0])), (ss, .inr (11, [.ref s1, .int 0]))] s.heap := hP
  refine lv_iload_n hx hb d_DS_count_0 rfl (lv_at hl 1 rfl) ?_
  refine lv_tableIn (tgt := 81) (off := 80) hx hb d_DS_count_1 (by decide) (by decide) (by decide) (by decide) ?_
  refine lv_aload_n hx hb d_DS_count_81 rfl (lv_at hl 0 rfl) ?_
  refine va_get (D := (dC, dI)) (ci := 0) (v := (.ref sv)) (C := R_DS) (T := F_DS) (N := 2) hx hb hg in_DS hown hK hP 0 rfl rfl 1 (by decide) (hg _ k_369) (fun _ h9 => h9) rfl d_DS_count_82 ?_
  refine va_get (D := (dC, dI)) (ci := 5) (v := (.int 0)) (C := R_Sv) (T := F_Sv) (N := 12) hx hb hg in_Sv hown hK hP 3 rfl rfl 11 (by decide) (hg _ k_342) (fun _ h9 => h9) rfl d_DS_count_85 ?_
  have hP9 := hP.sub (ws' := []) [] rfl
  have hD9 := hD.sub (ws' := []) [] (by decide) rfl
  exact W.iret (v := 0) hx hb hr (fun t ht hW => ⟨⟨_, (), rfl, ⟨rfl, trivial⟩, by rw [ht]; exact hP9, va_K.moved hW.alike hK, hD9⟩, hS.F ht⟩) hS.2.2 d_DS_count_88
set_option maxHeartbeats 4000000 in
set_option maxRecDepth 100000 in
/-- count(5) -/
theorem c_count5 (l : Launch) (dC : Nat → ClassId) (dI : Nat → Nat → Nat) (cT : Nat → ClassId) (sz : Nat) (ds : Nat) (dr : Nat) (sv : Nat) (rr : Nat) (g0 : Nat) (se : Nat) (pw : Nat) (ty : Nat) (an : Nat) (aw : Nat) (ts : Nat) (ss : Nat) (rq : Nat) (tm : Int32) (f : Nat → Int32) (a1 : Nat) (a2 : Int32) (t1 : Nat) (t2 : Int64) (t3 : Int64) (s1 : Nat)  : Met l y_DS_count (Cond.code y_DS_count b_DS_count 2 (Option.some Jvm.ClassFile.FieldType.int) :: BIG) ({ frames := 0, cells := 0, slots := 0, locals := 0 }) (va_Pc [.ref ds, .int 5] (fun U => U.heap.size = sz ∧ va_P (dC, dI) vcl [(ds, .inr (0, [.ref dr, .ref sv])), (dr, .inr (2, [.ref rr, .int (nI 20)])), (rr, .inl ((cT 0), 1000, .inl f)), (sv, .inr (5, [.ref se, .ref pw, .ref g0, .ref ty, .ref an, .ref aw, .ref ts, .ref ss, .ref rq, .int tm, .int 0, .int 0])), (aw, .inr (6, [.ref a1, .int a2, .int 0])), (ts, .inr (9, [.ref t1, .long t2, .long t3, .int 0])), (ss, .inr (11, [.ref s1, .int 0]))] U.heap ∧ va_K (dC, dI) vcl (tyL cT) U ∧ va_D (fun _ => True) [(ds, .inr (0, [.ref dr, .ref sv])), (dr, .inr (2, [.ref rr, .int (nI 20)])), (rr, .inl ((cT 0), 1000, .inl f)), (sv, .inr (5, [.ref se, .ref pw, .ref g0, .ref ty, .ref an, .ref aw, .ref ts, .ref ss, .ref rq, .int tm, .int 0, .int 0])), (aw, .inr (6, [.ref a1, .int a2, .int 0])), (ts, .inr (9, [.ref t1, .long t2, .long t3, .int 0])), (ss, .inr (11, [.ref s1, .int 0]))])) (va_Qi (S := Unit) (fun r u => r = 20 ∧ (True)) (fun u t => va_P (dC, dI) vcl [] t.heap ∧ va_K (dC, dI) vcl (tyL cT) t ∧ va_D (va_A [(ds, .inr (0, [.ref dr, .ref sv])), (dr, .inr (2, [.ref rr, .int (nI 20)])), (rr, .inl ((cT 0), 1000, .inl f)), (sv, .inr (5, [.ref se, .ref pw, .ref g0, .ref ty, .ref an, .ref aw, .ref ts, .ref ss, .ref rq, .int tm, .int 0, .int 0])), (aw, .inr (6, [.ref a1, .int a2, .int 0])), (ts, .inr (9, [.ref t1, .long t2, .long t3, .int 0])), (ss, .inr (11, [.ref s1, .int 0]))] sz) []) (va_A [(ds, .inr (0, [.ref dr, .ref sv])), (dr, .inr (2, [.ref rr, .int (nI 20)])), (rr, .inl ((cT 0), 1000, .inl f)), (sv, .inr (5, [.ref se, .ref pw, .ref g0, .ref ty, .ref an, .ref aw, .ref ts, .ref ss, .ref rq, .int tm, .int 0, .int 0])), (aw, .inr (6, [.ref a1, .int a2, .int 0])), (ts, .inr (9, [.ref t1, .long t2, .long t3, .int 0])), (ss, .inr (11, [.ref s1, .int 0]))] sz)) 0 0 (va_A [(ds, .inr (0, [.ref dr, .ref sv])), (dr, .inr (2, [.ref rr, .int (nI 20)])), (rr, .inl ((cT 0), 1000, .inl f)), (sv, .inr (5, [.ref se, .ref pw, .ref g0, .ref ty, .ref an, .ref aw, .ref ts, .ref ss, .ref rq, .int tm, .int 0, .int 0])), (aw, .inr (6, [.ref a1, .int a2, .int 0])), (ts, .inr (9, [.ref t1, .long t2, .long t3, .int 0])), (ss, .inr (11, [.ref s1, .int 0]))] sz) := by
  refine Met.ofW (cc := b_DS_count) (maxL := 2) (ret := (Option.some Jvm.ClassFile.FieldType.int)) (by decide) rfl ?_
  intro p e s m args below meth c s₁ B hml hv
  obtain ⟨hargs, hsz, hP, hK, hD0⟩ := hv
  have hx := B.exec
  have hb := B.bytes
  have hr := B.returns
  have hts := atoms_spec (ws := (Cond.code y_DS_count b_DS_count 2 (Option.some Jvm.ClassFile.FieldType.int) :: BIG)) B.pre
  have hg : ∀ w ∈ BIG, w.before _ s = true := fun w h => hts w (List.mem_cons_of_mem _ h)
  have hown : s.vm.findClass "DoorServer" = some m.cls := findClass_of_methodNamed B.named
  have hlocks := B.notSynchronized
  subst hsz
  have hD := hD0.self (sz := s.heap.size)
  generalize hAe : va_A [(ds, .inr (0, [.ref dr, .ref sv])), (dr, .inr (2, [.ref rr, .int (nI 20)])), (rr, .inl ((cT 0), 1000, .inl f)), (sv, .inr (5, [.ref se, .ref pw, .ref g0, .ref ty, .ref an, .ref aw, .ref ts, .ref ss, .ref rq, .int tm, .int 0, .int 0])), (aw, .inr (6, [.ref a1, .int a2, .int 0])), (ts, .inr (9, [.ref t1, .long t2, .long t3, .int 0])), (ss, .inr (11, [.ref s1, .int 0]))] s.heap.size = A at hD ⊢
  have hA : ∀ q : Nat, s.heap.size ≤ q → A q := fun q h => by rw [← hAe]; exact Or.inr h
  have hS : va_S A s.heap s.heap [] := va_S.rf
  have hl := lv_entry ([.ref ds, .int 5]) (n := 2) (Nat.le_of_ble_eq_true rfl)
  refine W.eq (g2 := entryFrame m (List.toArray [.ref ds, .int 5]) 2) (by rw [hargs]) ?_
  rw [lg_entry_eq]
  generalize (lg_sl ([.ref ds, .int 5]) ++ List.replicate (2 - (lg_sl ([.ref ds, .int 5])).length) Slot.unset).toArray = ls at hl ⊢
  have hl : lv_has ls 2 [(0, .ref ds), (1, .int 5)] := hl
  change W p l e ({ frames := 0, cells := 0, slots := 0, locals := 0 } : Room) s m args below meth c s.heap [] 0 0 _ _
  have hP : va_P (dC, dI) vcl [(ds, .inr (0, [.ref dr, .ref sv])), (dr, .inr (2, [.ref rr, .int (nI 20)])), (rr, .inl ((cT 0), 1000, .inl f)), (sv, .inr (5, [.ref se, .ref pw, .ref g0, .ref ty, .ref an, .ref aw, .ref ts, .ref ss, .ref rq, .int tm, .int 0, .int 0])), (aw, .inr (6, [.ref a1, .int a2, .int 0])), (ts, .inr (9, [.ref t1, .long t2, .long t3, .int 0])), (ss, .inr (11, [.ref s1, .int 0]))] s.heap := hP
  refine lv_iload_n hx hb d_DS_count_0 rfl (lv_at hl 1 rfl) ?_
  refine lv_tableIn (tgt := 89) (off := 88) hx hb d_DS_count_1 (by decide) (by decide) (by decide) (by decide) ?_
  refine lv_aload_n hx hb d_DS_count_89 rfl (lv_at hl 0 rfl) ?_
  refine va_get (D := (dC, dI)) (ci := 0) (v := (.ref dr)) (C := R_DS) (T := F_DS) (N := 2) hx hb hg in_DS hown hK hP 0 rfl rfl 0 (by decide) (hg _ k_368) (fun _ h9 => h9) rfl d_DS_count_90 ?_
  refine va_get (D := (dC, dI)) (ci := 2) (v := (.int (nI 20))) (C := R_Pk) (T := F_Pk) (N := 2) hx hb hg in_Pk hown hK hP 1 rfl rfl 1 (by decide) (hg _ k_59) (fun x9 h9 => u_same (hg _ k_53) x9 h9) rfl d_DS_count_93 ?_
  refine lv_topi (fun x21 e20 => ?_)
  obtain rfl : x21 = 20 := by rw [e20]; rfl
  have hP9 := hP.sub (ws' := []) [] rfl
  have hD9 := hD.sub (ws' := []) [] (by decide) rfl
  exact W.iret (v := 20) hx hb hr (fun t ht hW => ⟨⟨_, (), rfl, ⟨rfl, trivial⟩, by rw [ht]; exact hP9, va_K.moved hW.alike hK, hD9⟩, hS.F ht⟩) hS.2.2 d_DS_count_96
set_option maxHeartbeats 4000000 in
set_option maxRecDepth 100000 in
/-- isWhole: a head alone -/
theorem c_whole (l : Launch) (dC : Nat → ClassId) (dI : Nat → Nat → Nat) (cT : Nat → ClassId) (sz : Nat) (rq : Nat) (dr : Nat) (rr : Nat) (sa : Nat) (f : Nat → Int32) (ga : Nat → Int32) (h0 : f 0 = 1) (h2 : f 2 = 0) (h3 : f 3 = 20) : Met l y_Rq_isWhole (Cond.code y_Rq_isWhole b_Rq_isWhole 4 (Option.some Jvm.ClassFile.FieldType.boolean) :: BIG) ({ frames := 1, cells := 0, slots := 0, locals := 23 }) (va_Pc [.ref rq] (fun U => U.heap.size = sz ∧ va_P (dC, dI) vcl [(rq, .inr (4, [.ref dr, .ref sa])), (sa, .inl ((cT 0), 256, .inl ga)), (dr, .inr (2, [.ref rr, .int (nI 20)])), (rr, .inl ((cT 0), 1000, .inl f))] U.heap ∧ va_K (dC, dI) vcl (tyL cT) U ∧ va_D (fun _ => True) [(rq, .inr (4, [.ref dr, .ref sa])), (sa, .inl ((cT 0), 256, .inl ga)), (dr, .inr (2, [.ref rr, .int (nI 20)])), (rr, .inl ((cT 0), 1000, .inl f))])) (va_Qi (S := (Nat → Int32)) (fun r u => match u with | g => r = 1 ∧ (∀ j, j < 256 → g j = 0)) (fun u t => match u with | g => va_P (dC, dI) vcl [(rq, .inr (4, [.ref dr, .ref sa])), (sa, .inl ((cT 0), 256, .inl g)), (dr, .inr (2, [.ref rr, .int (nI 20)])), (rr, .inl ((cT 0), 1000, .inl f))] t.heap ∧ va_K (dC, dI) vcl (tyL cT) t ∧ va_D (va_A [(rq, .inr (4, [.ref dr, .ref sa])), (sa, .inl ((cT 0), 256, .inl ga)), (dr, .inr (2, [.ref rr, .int (nI 20)])), (rr, .inl ((cT 0), 1000, .inl f))] sz) [(rq, .inr (4, [.ref dr, .ref sa])), (sa, .inl ((cT 0), 256, .inl g)), (dr, .inr (2, [.ref rr, .int (nI 20)])), (rr, .inl ((cT 0), 1000, .inl f))]) (va_A [(rq, .inr (4, [.ref dr, .ref sa])), (sa, .inl ((cT 0), 256, .inl ga)), (dr, .inr (2, [.ref rr, .int (nI 20)])), (rr, .inl ((cT 0), 1000, .inl f))] sz)) 0 0 (va_A [(rq, .inr (4, [.ref dr, .ref sa])), (sa, .inl ((cT 0), 256, .inl ga)), (dr, .inr (2, [.ref rr, .int (nI 20)])), (rr, .inl ((cT 0), 1000, .inl f))] sz) := by
  refine Met.ofW (cc := b_Rq_isWhole) (maxL := 4) (ret := (Option.some Jvm.ClassFile.FieldType.boolean)) (by decide) rfl ?_
  intro p e s m args below meth c s₁ B hml hv
  obtain ⟨hargs, hsz, hP, hK, hD0⟩ := hv
  have hx := B.exec
  have hb := B.bytes
  have hr := B.returns
  have hts := atoms_spec (ws := (Cond.code y_Rq_isWhole b_Rq_isWhole 4 (Option.some Jvm.ClassFile.FieldType.boolean) :: BIG)) B.pre
  have hg : ∀ w ∈ BIG, w.before _ s = true := fun w h => hts w (List.mem_cons_of_mem _ h)
  have hown : s.vm.findClass "DoorServer$Request" = some m.cls := findClass_of_methodNamed B.named
  have hlocks := B.notSynchronized
  subst hsz
  have hD := hD0.self (sz := s.heap.size)
  generalize hAe : va_A [(rq, .inr (4, [.ref dr, .ref sa])), (sa, .inl ((cT 0), 256, .inl ga)), (dr, .inr (2, [.ref rr, .int (nI 20)])), (rr, .inl ((cT 0), 1000, .inl f))] s.heap.size = A at hD ⊢
  have hA : ∀ q : Nat, s.heap.size ≤ q → A q := fun q h => by rw [← hAe]; exact Or.inr h
  have hS : va_S A s.heap s.heap [] := va_S.rf
  have hl := lv_entry ([.ref rq]) (n := 4) (Nat.le_of_ble_eq_true rfl)
  refine W.eq (g2 := entryFrame m (List.toArray [.ref rq]) 4) (by rw [hargs]) ?_
  rw [lg_entry_eq]
  generalize (lg_sl ([.ref rq]) ++ List.replicate (4 - (lg_sl ([.ref rq])).length) Slot.unset).toArray = ls at hl ⊢
  have hl : lv_has ls 4 [(0, .ref rq)] := hl
  change W p l e ({ frames := 1, cells := 0, slots := 0, locals := 23 } : Room) s m args below meth c s.heap [] 0 0 _ _
  have hP : va_P (dC, dI) vcl [(rq, .inr (4, [.ref dr, .ref sa])), (sa, .inl ((cT 0), 256, .inl ga)), (dr, .inr (2, [.ref rr, .int (nI 20)])), (rr, .inl ((cT 0), 1000, .inl f))] s.heap := hP
  refine lv_aload_n hx hb d_Rq_isWhole_0 rfl (lv_at hl 0 rfl) ?_
  refine va_get (D := (dC, dI)) (ci := 4) (v := (.ref sa)) (C := R_Rq) (T := F_Rq) (N := 2) hx hb hg in_Rq hown hK hP 0 rfl rfl 1 (by decide) (hg _ k_313) (fun _ h9 => h9) rfl d_Rq_isWhole_1 ?_
  refine lv_iconst (v := 0) hx hb d_Rq_isWhole_4 (by decide) ?_
  have hPc := hP.sub (ws' := [(sa, .inl ((cT 0), 256, .inl ga))]) [1] rfl
  have hDc := hD.sub (ws' := [(sa, .inl ((cT 0), 256, .inl ga))]) [1] (by decide) rfl
  have hFc := va_free (wc := [(sa, .inl ((cT 0), 256, .inl ga))]) hD hS hA [1] rfl
  refine va_callv (va_runS (As := [.ref sa, .int 0]) (rest := []) ⟨hx, hb, hml, hown, hg⟩ (c_Ar_fill2 l dC dI cT s.heap.size sa 256 ga 0 (by decide)) (va_cwS 2 hg (gI (List.forall_mem_append.mpr ⟨List.forall_mem_cons.mpr ⟨k_698, List.forall_mem_cons.mpr ⟨k_699, List.forall_mem_cons.mpr ⟨k_20, fun _ h => absurd h List.not_mem_nil⟩⟩⟩, List.forall_mem_cons.mpr ⟨k_700, fun _ h => h⟩⟩)) rfl rfl rfl (by decide +kernel) ⟨Nat.le_of_ble_eq_true rfl, Nat.le_of_ble_eq_true rfl⟩) ⟨fun a U g mk q => by obtain ⟨q0, q1, qP, qK, qD⟩ := q; exact ⟨q0, q1, qP, va_K.moved (u := U) (U := U.calling g mk a) (Vm.Alike.refl U.vm) qK, qD⟩, fun U hU hW => ⟨rfl, by rw [hU], by rw [hU]; exact hPc, va_K.moved hW.alike hK, hDc.weaken (fun _ _ _ _ => trivial)⟩⟩ rfl rfl hl.1 rfl (lv_room (Nat.le_of_ble_eq_true rfl)) d_Rq_isWhole_5 ⟨Nat.le_of_ble_eq_true rfl, Nat.le_of_ble_eq_true rfl⟩) hS (fun q _ h => hFc q h) hFc (fun u t H1 locs ht hvm hw hB hz1 hk1 hS => ?_)
  obtain ⟨g_22, rfl⟩ : ∃ z, z = u := ⟨_, rfl⟩
  try dsimp only at hw hB
  obtain ⟨hP1, hK1, hD1⟩ := hB
  rw [ht] at hP1
  obtain ⟨hP, hD⟩ := va_join (wr := [(rq, .inr (4, [.ref dr, .ref sa])), (dr, .inr (2, [.ref rr, .int (nI 20)])), (rr, .inl ((cT 0), 1000, .inl f))]) (w1 := [(sa, .inl ((cT 0), 256, .inl g_22))]) hP hD [1] [0, 2, 3] rfl rfl (by decide) (by decide) hk1 hFc hP1 hD1
  have hw23 := hw
  clear hPc hDc hFc hz1 hk1 hP1 hK1 hD1
  generalize H1 = H at hP hS ⊢
  have hP : va_P (dC, dI) vcl [(rq, .inr (4, [.ref dr, .ref sa])), (dr, .inr (2, [.ref rr, .int (nI 20)])), (rr, .inl ((cT 0), 1000, .inl f)), (sa, .inl ((cT 0), 256, .inl g_22))] H := hP
  have hD : va_D A [(rq, .inr (4, [.ref dr, .ref sa])), (dr, .inr (2, [.ref rr, .int (nI 20)])), (rr, .inl ((cT 0), 1000, .inl f)), (sa, .inl ((cT 0), 256, .inl g_22))] := hD
  refine lv_aload_n hx hb d_Rq_isWhole_8 rfl (lv_at hl 0 rfl) ?_
  refine va_get (D := (dC, dI)) (ci := 4) (v := (.ref dr)) (C := R_Rq) (T := F_Rq) (N := 2) hx hb hg in_Rq hown hK hP 0 rfl rfl 0 (by decide) (hg _ k_309) (fun _ h9 => h9) rfl d_Rq_isWhole_9 ?_
  refine va_get (D := (dC, dI)) (ci := 2) (v := (.int (nI 20))) (C := R_Pk) (T := F_Pk) (N := 2) hx hb hg in_Pk hown hK hP 1 rfl rfl 1 (by decide) (hg _ k_55) (fun x9 h9 => u_same (hg _ k_53) x9 h9) rfl d_Rq_isWhole_12 ?_
  refine lv_istore_n (lv' := [(1, .int (nI 20)), (0, .ref rq)]) hx hb d_Rq_isWhole_15 rfl hl (by decide) rfl (fun ls hl => ?_)
  refine lv_iload_n hx hb d_Rq_isWhole_16 rfl (lv_at hl 0 rfl) ?_
  refine lv_bipush (v := 20) hx hb d_Rq_isWhole_17 (by decide) ?_
  refine lv_icmp_lt (tgt := 56) hx hb d_Rq_isWhole_19 (by decide) (fun hn9 => absurd hn9 (by decide)) (fun hc24 => ?_)
  refine lv_iload_n hx hb d_Rq_isWhole_22 rfl (lv_at hl 0 rfl) ?_
  refine lv_sipush (v := 1000) hx hb d_Rq_isWhole_23 (by decide) ?_
  refine lv_icmp_gt (tgt := 56) hx hb d_Rq_isWhole_26 (by decide) (fun hn9 => absurd hn9 (by decide)) (fun hc25 => ?_)
  refine lv_aload_n hx hb d_Rq_isWhole_29 rfl (lv_at hl 1 rfl) ?_
  refine va_get (D := (dC, dI)) (ci := 4) (v := (.ref dr)) (C := R_Rq) (T := F_Rq) (N := 2) hx hb hg in_Rq hown hK hP 0 rfl rfl 0 (by decide) (hg _ k_309) (fun _ h9 => h9) rfl d_Rq_isWhole_30 ?_
  refine va_get (D := (dC, dI)) (ci := 2) (v := (.ref rr)) (C := R_Pk) (T := F_Pk) (N := 2) hx hb hg in_Pk hown hK hP 1 rfl rfl 0 (by decide) (hg _ k_40) (fun x9 h9 => u_same (hg _ k_41) x9 h9) rfl d_Rq_isWhole_33 ?_
  refine lv_iconst (v := 2) hx hb d_Rq_isWhole_36 (by decide) ?_
  refine va_iald hx hb hK hP 2 0 rfl rfl (i := 2) (vp_in_nI (n := 2) (N := 1000) (by decide) (by decide)) d_Rq_isWhole_37 ?_
  refine lv_topi (fun x27 e26 => ?_)
  obtain rfl : x27 = 0 := by rw [e26]; exact h2
  refine lv_sipush (v := 256) hx hb d_Rq_isWhole_38 (by decide) ?_
  refine lv_imul hx hb d_Rq_isWhole_41 ?_
  refine lv_aload_n hx hb d_Rq_isWhole_42 rfl (lv_at hl 1 rfl) ?_
  refine va_get (D := (dC, dI)) (ci := 4) (v := (.ref dr)) (C := R_Rq) (T := F_Rq) (N := 2) hx hb hg in_Rq hown hK hP 0 rfl rfl 0 (by decide) (hg _ k_309) (fun _ h9 => h9) rfl d_Rq_isWhole_43 ?_
  refine va_get (D := (dC, dI)) (ci := 2) (v := (.ref rr)) (C := R_Pk) (T := F_Pk) (N := 2) hx hb hg in_Pk hown hK hP 1 rfl rfl 0 (by decide) (hg _ k_40) (fun x9 h9 => u_same (hg _ k_41) x9 h9) rfl d_Rq_isWhole_46 ?_
  refine lv_iconst (v := 3) hx hb d_Rq_isWhole_49 (by decide) ?_
  refine va_iald hx hb hK hP 2 0 rfl rfl (i := 3) (vp_in_nI (n := 3) (N := 1000) (by decide) (by decide)) d_Rq_isWhole_50 ?_
  refine lv_topi (fun x29 e28 => ?_)
  obtain rfl : x29 = 20 := by rw [e28]; exact h3
  refine lv_iadd hx hb d_Rq_isWhole_51 ?_
  refine lv_iload_n hx hb d_Rq_isWhole_52 rfl (lv_at hl 0 rfl) ?_
  refine lv_icmp_eq (tgt := 58) hx hb d_Rq_isWhole_53 (by decide) (fun hc30 => ?_) (fun hn9 => absurd (by decide) hn9)
  refine lv_bipush (v := 20) hx hb d_Rq_isWhole_58 (by decide) ?_
  refine lv_istore_n (lv' := [(2, .int 20), (1, .int (nI 20)), (0, .ref rq)]) hx hb d_Rq_isWhole_60 rfl hl (by decide) rfl (fun ls hl => ?_)
  refine lv_iload_n hx hb d_Rq_isWhole_61 rfl (lv_at hl 0 rfl) ?_
  refine lv_iload_n hx hb d_Rq_isWhole_62 rfl (lv_at hl 1 rfl) ?_
  refine lv_icmp_ge (tgt := 132) hx hb d_Rq_isWhole_63 (by decide) (fun hc31 => ?_) (fun hn9 => absurd (by decide) hn9)
  refine lv_iconst (v := 1) hx hb d_Rq_isWhole_132 (by decide) ?_
  have hP9 := hP.sub (ws' := [(rq, .inr (4, [.ref dr, .ref sa])), (sa, .inl ((cT 0), 256, .inl g_22)), (dr, .inr (2, [.ref rr, .int (nI 20)])), (rr, .inl ((cT 0), 1000, .inl f))]) [0, 3, 1, 2] rfl
  have hD9 := hD.sub (ws' := [(rq, .inr (4, [.ref dr, .ref sa])), (sa, .inl ((cT 0), 256, .inl g_22)), (dr, .inr (2, [.ref rr, .int (nI 20)])), (rr, .inl ((cT 0), 1000, .inl f))]) [0, 3, 1, 2] (by decide) rfl
  exact W.zret (v := 1) hx hb hr (by first | rfl | decide) (fun t ht hW => ⟨⟨_, g_22, rfl, ⟨rfl, hw23⟩, by rw [ht]; exact hP9, va_K.moved hW.alike hK, hD9⟩, hS.F ht⟩) hS.2.2 d_Rq_isWhole_133
set_option maxHeartbeats 4000000 in
set_option maxRecDepth 100000 in
/-- code -/
theorem c_code (l : Launch) (dC : Nat → ClassId) (dI : Nat → Nat → Nat) (cT : Nat → ClassId) (sz : Nat) (rq : Nat) (dr : Nat) (rr : Nat) (sa : Nat) (f : Nat → Int32) (ga : Nat → Int32) (h0 : f 0 = 1) (h2 : f 2 = 0) (h3 : f 3 = 20) : Met l y_Rq_code (Cond.code y_Rq_code b_Rq_code 1 (Option.some Jvm.ClassFile.FieldType.int) :: BIG) ({ frames := 0, cells := 0, slots := 0, locals := 0 }) (va_Pc [.ref rq] (fun U => U.heap.size = sz ∧ va_P (dC, dI) vcl [(rq, .inr (4, [.ref dr, .ref sa])), (sa, .inl ((cT 0), 256, .inl ga)), (dr, .inr (2, [.ref rr, .int (nI 20)])), (rr, .inl ((cT 0), 1000, .inl f))] U.heap ∧ va_K (dC, dI) vcl (tyL cT) U ∧ va_D (fun _ => True) [(rq, .inr (4, [.ref dr, .ref sa])), (sa, .inl ((cT 0), 256, .inl ga)), (dr, .inr (2, [.ref rr, .int (nI 20)])), (rr, .inl ((cT 0), 1000, .inl f))])) (va_Qi (S := Unit) (fun r u => r = 1 ∧ (True)) (fun u t => va_P (dC, dI) vcl [(rq, .inr (4, [.ref dr, .ref sa])), (sa, .inl ((cT 0), 256, .inl ga)), (dr, .inr (2, [.ref rr, .int (nI 20)])), (rr, .inl ((cT 0), 1000, .inl f))] t.heap ∧ va_K (dC, dI) vcl (tyL cT) t ∧ va_D (va_A [(rq, .inr (4, [.ref dr, .ref sa])), (sa, .inl ((cT 0), 256, .inl ga)), (dr, .inr (2, [.ref rr, .int (nI 20)])), (rr, .inl ((cT 0), 1000, .inl f))] sz) [(rq, .inr (4, [.ref dr, .ref sa])), (sa, .inl ((cT 0), 256, .inl ga)), (dr, .inr (2, [.ref rr, .int (nI 20)])), (rr, .inl ((cT 0), 1000, .inl f))]) (va_A [(rq, .inr (4, [.ref dr, .ref sa])), (sa, .inl ((cT 0), 256, .inl ga)), (dr, .inr (2, [.ref rr, .int (nI 20)])), (rr, .inl ((cT 0), 1000, .inl f))] sz)) 0 0 (va_A [(rq, .inr (4, [.ref dr, .ref sa])), (sa, .inl ((cT 0), 256, .inl ga)), (dr, .inr (2, [.ref rr, .int (nI 20)])), (rr, .inl ((cT 0), 1000, .inl f))] sz) := by
  refine Met.ofW (cc := b_Rq_code) (maxL := 1) (ret := (Option.some Jvm.ClassFile.FieldType.int)) (by decide) rfl ?_
  intro p e s m args below meth c s₁ B hml hv
  obtain ⟨hargs, hsz, hP, hK, hD0⟩ := hv
  have hx := B.exec
  have hb := B.bytes
  have hr := B.returns
  have hts := atoms_spec (ws := (Cond.code y_Rq_code b_Rq_code 1 (Option.some Jvm.ClassFile.FieldType.int) :: BIG)) B.pre
  have hg : ∀ w ∈ BIG, w.before _ s = true := fun w h => hts w (List.mem_cons_of_mem _ h)
  have hown : s.vm.findClass "DoorServer$Request" = some m.cls := findClass_of_methodNamed B.named
  have hlocks := B.notSynchronized
  subst hsz
  have hD := hD0.self (sz := s.heap.size)
  generalize hAe : va_A [(rq, .inr (4, [.ref dr, .ref sa])), (sa, .inl ((cT 0), 256, .inl ga)), (dr, .inr (2, [.ref rr, .int (nI 20)])), (rr, .inl ((cT 0), 1000, .inl f))] s.heap.size = A at hD ⊢
  have hA : ∀ q : Nat, s.heap.size ≤ q → A q := fun q h => by rw [← hAe]; exact Or.inr h
  have hS : va_S A s.heap s.heap [] := va_S.rf
  have hl := lv_entry ([.ref rq]) (n := 1) (Nat.le_of_ble_eq_true rfl)
  refine W.eq (g2 := entryFrame m (List.toArray [.ref rq]) 1) (by rw [hargs]) ?_
  rw [lg_entry_eq]
  generalize (lg_sl ([.ref rq]) ++ List.replicate (1 - (lg_sl ([.ref rq])).length) Slot.unset).toArray = ls at hl ⊢
  have hl : lv_has ls 1 [(0, .ref rq)] := hl
  change W p l e ({ frames := 0, cells := 0, slots := 0, locals := 0 } : Room) s m args below meth c s.heap [] 0 0 _ _
  have hP : va_P (dC, dI) vcl [(rq, .inr (4, [.ref dr, .ref sa])), (sa, .inl ((cT 0), 256, .inl ga)), (dr, .inr (2, [.ref rr, .int (nI 20)])), (rr, .inl ((cT 0), 1000, .inl f))] s.heap := hP
  refine lv_aload_n hx hb d_Rq_code_0 rfl (lv_at hl 0 rfl) ?_
  refine va_get (D := (dC, dI)) (ci := 4) (v := (.ref dr)) (C := R_Rq) (T := F_Rq) (N := 2) hx hb hg in_Rq hown hK hP 0 rfl rfl 0 (by decide) (hg _ k_309) (fun _ h9 => h9) rfl d_Rq_code_1 ?_
  refine va_get (D := (dC, dI)) (ci := 2) (v := (.ref rr)) (C := R_Pk) (T := F_Pk) (N := 2) hx hb hg in_Pk hown hK hP 2 rfl rfl 0 (by decide) (hg _ k_40) (fun x9 h9 => u_same (hg _ k_41) x9 h9) rfl d_Rq_code_4 ?_
  refine lv_iconst (v := 0) hx hb d_Rq_code_7 (by decide) ?_
  refine va_iald hx hb hK hP 3 0 rfl rfl (i := 0) (vp_in_nI (n := 0) (N := 1000) (by decide) (by decide)) d_Rq_code_8 ?_
  refine lv_topi (fun x33 e32 => ?_)
  obtain rfl : x33 = 1 := by rw [e32]; exact h0
  have hP9 := hP.sub (ws' := [(rq, .inr (4, [.ref dr, .ref sa])), (sa, .inl ((cT 0), 256, .inl ga)), (dr, .inr (2, [.ref rr, .int (nI 20)])), (rr, .inl ((cT 0), 1000, .inl f))]) [0, 1, 2, 3] rfl
  have hD9 := hD.sub (ws' := [(rq, .inr (4, [.ref dr, .ref sa])), (sa, .inl ((cT 0), 256, .inl ga)), (dr, .inr (2, [.ref rr, .int (nI 20)])), (rr, .inl ((cT 0), 1000, .inl f))]) [0, 1, 2, 3] (by decide) rfl
  exact W.iret (v := 1) hx hb hr (fun t ht hW => ⟨⟨_, (), rfl, ⟨rfl, trivial⟩, by rw [ht]; exact hP9, va_K.moved hW.alike hK, hD9⟩, hS.F ht⟩) hS.2.2 d_Rq_code_9
set_option maxHeartbeats 4000000 in
set_option maxRecDepth 100000 in
/-- has: no PROOF -/
theorem c_has (l : Launch) (dC : Nat → ClassId) (dI : Nat → Nat → Nat) (cT : Nat → ClassId) (sz : Nat) (rq : Nat) (dr : Nat) (sa : Nat) (ga : Nat → Int32) (hz : ga 80 = 0) : Met l y_Rq_has (Cond.code y_Rq_has b_Rq_has 2 (Option.some Jvm.ClassFile.FieldType.boolean) :: BIG) ({ frames := 0, cells := 0, slots := 0, locals := 0 }) (va_Pc [.ref rq, .int 80] (fun U => U.heap.size = sz ∧ va_P (dC, dI) vcl [(rq, .inr (4, [.ref dr, .ref sa])), (sa, .inl ((cT 0), 256, .inl ga))] U.heap ∧ va_K (dC, dI) vcl (tyL cT) U ∧ va_D (fun _ => True) [(rq, .inr (4, [.ref dr, .ref sa])), (sa, .inl ((cT 0), 256, .inl ga))])) (va_Qi (S := Unit) (fun r u => r = 0 ∧ (True)) (fun u t => va_P (dC, dI) vcl [(rq, .inr (4, [.ref dr, .ref sa])), (sa, .inl ((cT 0), 256, .inl ga))] t.heap ∧ va_K (dC, dI) vcl (tyL cT) t ∧ va_D (va_A [(rq, .inr (4, [.ref dr, .ref sa])), (sa, .inl ((cT 0), 256, .inl ga))] sz) [(rq, .inr (4, [.ref dr, .ref sa])), (sa, .inl ((cT 0), 256, .inl ga))]) (va_A [(rq, .inr (4, [.ref dr, .ref sa])), (sa, .inl ((cT 0), 256, .inl ga))] sz)) 0 0 (va_A [(rq, .inr (4, [.ref dr, .ref sa])), (sa, .inl ((cT 0), 256, .inl ga))] sz) := by
  refine Met.ofW (cc := b_Rq_has) (maxL := 2) (ret := (Option.some Jvm.ClassFile.FieldType.boolean)) (by decide) rfl ?_
  intro p e s m args below meth c s₁ B hml hv
  obtain ⟨hargs, hsz, hP, hK, hD0⟩ := hv
  have hx := B.exec
  have hb := B.bytes
  have hr := B.returns
  have hts := atoms_spec (ws := (Cond.code y_Rq_has b_Rq_has 2 (Option.some Jvm.ClassFile.FieldType.boolean) :: BIG)) B.pre
  have hg : ∀ w ∈ BIG, w.before _ s = true := fun w h => hts w (List.mem_cons_of_mem _ h)
  have hown : s.vm.findClass "DoorServer$Request" = some m.cls := findClass_of_methodNamed B.named
  have hlocks := B.notSynchronized
  subst hsz
  have hD := hD0.self (sz := s.heap.size)
  generalize hAe : va_A [(rq, .inr (4, [.ref dr, .ref sa])), (sa, .inl ((cT 0), 256, .inl ga))] s.heap.size = A at hD ⊢
  have hA : ∀ q : Nat, s.heap.size ≤ q → A q := fun q h => by rw [← hAe]; exact Or.inr h
  have hS : va_S A s.heap s.heap [] := va_S.rf
  have hl := lv_entry ([.ref rq, .int 80]) (n := 2) (Nat.le_of_ble_eq_true rfl)
  refine W.eq (g2 := entryFrame m (List.toArray [.ref rq, .int 80]) 2) (by rw [hargs]) ?_
  rw [lg_entry_eq]
  generalize (lg_sl ([.ref rq, .int 80]) ++ List.replicate (2 - (lg_sl ([.ref rq, .int 80])).length) Slot.unset).toArray = ls at hl ⊢
  have hl : lv_has ls 2 [(0, .ref rq), (1, .int 80)] := hl
  change W p l e ({ frames := 0, cells := 0, slots := 0, locals := 0 } : Room) s m args below meth c s.heap [] 0 0 _ _
  have hP : va_P (dC, dI) vcl [(rq, .inr (4, [.ref dr, .ref sa])), (sa, .inl ((cT 0), 256, .inl ga))] s.heap := hP
  refine lv_aload_n hx hb d_Rq_has_0 rfl (lv_at hl 0 rfl) ?_
  refine va_get (D := (dC, dI)) (ci := 4) (v := (.ref sa)) (C := R_Rq) (T := F_Rq) (N := 2) hx hb hg in_Rq hown hK hP 0 rfl rfl 1 (by decide) (hg _ k_313) (fun _ h9 => h9) rfl d_Rq_has_1 ?_
  refine lv_iload_n hx hb d_Rq_has_4 rfl (lv_at hl 1 rfl) ?_
  refine va_iald hx hb hK hP 1 0 rfl rfl (i := 80) (vp_in_nI (n := 80) (N := 256) (by decide) (by decide)) d_Rq_has_5 ?_
  refine lv_topi (fun x35 e34 => ?_)
  obtain rfl : x35 = 0 := by rw [e34]; exact hz
  refine lv_if_le (tgt := 13) hx hb d_Rq_has_6 (by decide) (fun hc36 => ?_) (fun hn9 => absurd (by decide) hn9)
  refine lv_iconst (v := 0) hx hb d_Rq_has_13 (by decide) ?_
  have hP9 := hP.sub (ws' := [(rq, .inr (4, [.ref dr, .ref sa])), (sa, .inl ((cT 0), 256, .inl ga))]) [0, 1] rfl
  have hD9 := hD.sub (ws' := [(rq, .inr (4, [.ref dr, .ref sa])), (sa, .inl ((cT 0), 256, .inl ga))]) [0, 1] (by decide) rfl
  exact W.zret (v := 0) hx hb hr (by first | rfl | decide) (fun t ht hW => ⟨⟨_, (), rfl, ⟨rfl, trivial⟩, by rw [ht]; exact hP9, va_K.moved hW.alike hK, hD9⟩, hS.F ht⟩) hS.2.2 d_Rq_has_14
set_option maxHeartbeats 4000000 in
set_option maxRecDepth 100000 in
/-- isProved: no PROOF -/
theorem c_proved (l : Launch) (dC : Nat → ClassId) (dI : Nat → Nat → Nat) (cT : Nat → ClassId) (sz : Nat) (sv : Nat) (g0 : Nat) (se : Nat) (pw : Nat) (ty : Nat) (an : Nat) (aw : Nat) (ts : Nat) (ss : Nat) (rq : Nat) (tm : Int32) (n3 : Int32) (n4 : Int32) (dr : Nat) (sa : Nat) (ga : Nat → Int32) (y : Int32) (hz : ga 80 = 0) : Met l y_Sv_isProved (Cond.code y_Sv_isProved b_Sv_isProved 4 (Option.some Jvm.ClassFile.FieldType.boolean) :: BIG) ({ frames := 1, cells := 0, slots := 0, locals := 21 }) (va_Pc [.ref sv, .int y] (fun U => U.heap.size = sz ∧ va_P (dC, dI) vcl [(sv, .inr (5, [.ref se, .ref pw, .ref g0, .ref ty, .ref an, .ref aw, .ref ts, .ref ss, .ref rq, .int tm, .int n3, .int n4])), (rq, .inr (4, [.ref dr, .ref sa])), (sa, .inl ((cT 0), 256, .inl ga))] U.heap ∧ va_K (dC, dI) vcl (tyL cT) U ∧ va_D (fun _ => True) [(sv, .inr (5, [.ref se, .ref pw, .ref g0, .ref ty, .ref an, .ref aw, .ref ts, .ref ss, .ref rq, .int tm, .int n3, .int n4])), (rq, .inr (4, [.ref dr, .ref sa])), (sa, .inl ((cT 0), 256, .inl ga))])) (va_Qi (S := Unit) (fun r u => r = 0 ∧ (True)) (fun u t => va_P (dC, dI) vcl [(sv, .inr (5, [.ref se, .ref pw, .ref g0, .ref ty, .ref an, .ref aw, .ref ts, .ref ss, .ref rq, .int tm, .int n3, .int n4])), (rq, .inr (4, [.ref dr, .ref sa])), (sa, .inl ((cT 0), 256, .inl ga))] t.heap ∧ va_K (dC, dI) vcl (tyL cT) t ∧ va_D (va_A [(sv, .inr (5, [.ref se, .ref pw, .ref g0, .ref ty, .ref an, .ref aw, .ref ts, .ref ss, .ref rq, .int tm, .int n3, .int n4])), (rq, .inr (4, [.ref dr, .ref sa])), (sa, .inl ((cT 0), 256, .inl ga))] sz) [(sv, .inr (5, [.ref se, .ref pw, .ref g0, .ref ty, .ref an, .ref aw, .ref ts, .ref ss, .ref rq, .int tm, .int n3, .int n4])), (rq, .inr (4, [.ref dr, .ref sa])), (sa, .inl ((cT 0), 256, .inl ga))]) (va_A [(sv, .inr (5, [.ref se, .ref pw, .ref g0, .ref ty, .ref an, .ref aw, .ref ts, .ref ss, .ref rq, .int tm, .int n3, .int n4])), (rq, .inr (4, [.ref dr, .ref sa])), (sa, .inl ((cT 0), 256, .inl ga))] sz)) 0 0 (va_A [(sv, .inr (5, [.ref se, .ref pw, .ref g0, .ref ty, .ref an, .ref aw, .ref ts, .ref ss, .ref rq, .int tm, .int n3, .int n4])), (rq, .inr (4, [.ref dr, .ref sa])), (sa, .inl ((cT 0), 256, .inl ga))] sz) := by
  refine Met.ofW (cc := b_Sv_isProved) (maxL := 4) (ret := (Option.some Jvm.ClassFile.FieldType.boolean)) (by decide) rfl ?_
  intro p e s m args below meth c s₁ B hml hv
  obtain ⟨hargs, hsz, hP, hK, hD0⟩ := hv
  have hx := B.exec
  have hb := B.bytes
  have hr := B.returns
  have hts := atoms_spec (ws := (Cond.code y_Sv_isProved b_Sv_isProved 4 (Option.some Jvm.ClassFile.FieldType.boolean) :: BIG)) B.pre
  have hg : ∀ w ∈ BIG, w.before _ s = true := fun w h => hts w (List.mem_cons_of_mem _ h)
  have hown : s.vm.findClass "DoorServer$Server" = some m.cls := findClass_of_methodNamed B.named
  have hlocks := B.notSynchronized
  subst hsz
  have hD := hD0.self (sz := s.heap.size)
  generalize hAe : va_A [(sv, .inr (5, [.ref se, .ref pw, .ref g0, .ref ty, .ref an, .ref aw, .ref ts, .ref ss, .ref rq, .int tm, .int n3, .int n4])), (rq, .inr (4, [.ref dr, .ref sa])), (sa, .inl ((cT 0), 256, .inl ga))] s.heap.size = A at hD ⊢
  have hA : ∀ q : Nat, s.heap.size ≤ q → A q := fun q h => by rw [← hAe]; exact Or.inr h
  have hS : va_S A s.heap s.heap [] := va_S.rf
  have hl := lv_entry ([.ref sv, .int y]) (n := 4) (Nat.le_of_ble_eq_true rfl)
  refine W.eq (g2 := entryFrame m (List.toArray [.ref sv, .int y]) 4) (by rw [hargs]) ?_
  rw [lg_entry_eq]
  generalize (lg_sl ([.ref sv, .int y]) ++ List.replicate (4 - (lg_sl ([.ref sv, .int y])).length) Slot.unset).toArray = ls at hl ⊢
  have hl : lv_has ls 4 [(0, .ref sv), (1, .int y)] := hl
  change W p l e ({ frames := 1, cells := 0, slots := 0, locals := 21 } : Room) s m args below meth c s.heap [] 0 0 _ _
  have hP : va_P (dC, dI) vcl [(sv, .inr (5, [.ref se, .ref pw, .ref g0, .ref ty, .ref an, .ref aw, .ref ts, .ref ss, .ref rq, .int tm, .int n3, .int n4])), (rq, .inr (4, [.ref dr, .ref sa])), (sa, .inl ((cT 0), 256, .inl ga))] s.heap := hP
  refine lv_aload_n hx hb d_Sv_isProved_0 rfl (lv_at hl 0 rfl) ?_
  refine va_get (D := (dC, dI)) (ci := 5) (v := (.ref rq)) (C := R_Sv) (T := F_Sv) (N := 12) hx hb hg in_Sv hown hK hP 0 rfl rfl 8 (by decide) (hg _ k_336) (fun _ h9 => h9) rfl d_Sv_isProved_1 ?_
  refine lv_bipush (v := 80) hx hb d_Sv_isProved_4 (by decide) ?_
  have hPc := hP.sub (ws' := [(rq, .inr (4, [.ref dr, .ref sa])), (sa, .inl ((cT 0), 256, .inl ga))]) [1, 2] rfl
  have hDc := hD.sub (ws' := [(rq, .inr (4, [.ref dr, .ref sa])), (sa, .inl ((cT 0), 256, .inl ga))]) [1, 2] (by decide) rfl
  have hFc := va_free (wc := [(rq, .inr (4, [.ref dr, .ref sa])), (sa, .inl ((cT 0), 256, .inl ga))]) hD hS hA [1, 2] rfl
  refine va_calli (va_runV (C := "DoorServer$Request") (As := [.int 80]) (rest := []) ⟨hx, hb, hml, hown, hg⟩ (c_has l dC dI cT s.heap.size rq dr sa ga (hz)) (cwV 1 hg (gI (List.forall_mem_append.mpr ⟨List.forall_mem_cons.mpr ⟨k_719, List.forall_mem_cons.mpr ⟨k_720, List.forall_mem_cons.mpr ⟨k_721, List.forall_mem_cons.mpr ⟨k_12, fun _ h => absurd h List.not_mem_nil⟩⟩⟩⟩, List.forall_mem_cons.mpr ⟨k_722, fun _ h => h⟩⟩)) rfl rfl rfl (by decide +kernel) ⟨Nat.le_of_ble_eq_true rfl, Nat.le_of_ble_eq_true rfl⟩) ⟨fun a U g mk q => by obtain ⟨q0, q1, qP, qK, qD⟩ := q; exact ⟨q0, q1, qP, va_K.moved (u := U) (U := U.calling g mk a) (Vm.Alike.refl U.vm) qK, qD⟩, va_recv (q0 := 1) (ci := 4) hK hP rfl rfl, fun U hU hW => ⟨rfl, by rw [hU], by rw [hU]; exact hPc, va_K.moved hW.alike hK, hDc.weaken (fun _ _ _ _ => trivial)⟩⟩ rfl rfl hl.1 rfl (lv_room (Nat.le_of_ble_eq_true rfl)) d_Sv_isProved_6 ⟨Nat.le_of_ble_eq_true rfl, Nat.le_of_ble_eq_true rfl⟩) hS (fun q _ h => hFc q h) hFc (fun r u t H1 locs ht hvm hw hB hz1 hk1 hS => ?_)
  try dsimp only at hw hB
  obtain ⟨hP1, hK1, hD1⟩ := hB
  rw [ht] at hP1
  obtain ⟨rfl, hw⟩ := hw
  obtain ⟨hP, hD⟩ := va_join (wr := [(sv, .inr (5, [.ref se, .ref pw, .ref g0, .ref ty, .ref an, .ref aw, .ref ts, .ref ss, .ref rq, .int tm, .int n3, .int n4]))]) (w1 := [(rq, .inr (4, [.ref dr, .ref sa])), (sa, .inl ((cT 0), 256, .inl ga))]) hP hD [1, 2] [0] rfl rfl (by decide) (by decide) hk1 hFc hP1 hD1
  have hw37 := hw
  clear hPc hDc hFc hz1 hk1 hP1 hK1 hD1
  generalize H1 = H at hP hS ⊢
  have hP : va_P (dC, dI) vcl [(sv, .inr (5, [.ref se, .ref pw, .ref g0, .ref ty, .ref an, .ref aw, .ref ts, .ref ss, .ref rq, .int tm, .int n3, .int n4])), (rq, .inr (4, [.ref dr, .ref sa])), (sa, .inl ((cT 0), 256, .inl ga))] H := hP
  have hD : va_D A [(sv, .inr (5, [.ref se, .ref pw, .ref g0, .ref ty, .ref an, .ref aw, .ref ts, .ref ss, .ref rq, .int tm, .int n3, .int n4])), (rq, .inr (4, [.ref dr, .ref sa])), (sa, .inl ((cT 0), 256, .inl ga))] := hD
  refine lv_if_ne (tgt := 14) hx hb d_Sv_isProved_9 (by decide) (fun hn9 => absurd hn9 (by decide)) (fun hc38 => ?_)
  refine lv_iconst (v := 0) hx hb d_Sv_isProved_12 (by decide) ?_
  have hP9 := hP.sub (ws' := [(sv, .inr (5, [.ref se, .ref pw, .ref g0, .ref ty, .ref an, .ref aw, .ref ts, .ref ss, .ref rq, .int tm, .int n3, .int n4])), (rq, .inr (4, [.ref dr, .ref sa])), (sa, .inl ((cT 0), 256, .inl ga))]) [0, 1, 2] rfl
  have hD9 := hD.sub (ws' := [(sv, .inr (5, [.ref se, .ref pw, .ref g0, .ref ty, .ref an, .ref aw, .ref ts, .ref ss, .ref rq, .int tm, .int n3, .int n4])), (rq, .inr (4, [.ref dr, .ref sa])), (sa, .inl ((cT 0), 256, .inl ga))]) [0, 1, 2] (by decide) rfl
  exact W.zret (v := 0) hx hb hr (by first | rfl | decide) (fun t ht hW => ⟨⟨_, (), rfl, ⟨rfl, trivial⟩, by rw [ht]; exact hP9, va_K.moved hW.alike hK, hD9⟩, hS.F ht⟩) hS.2.2 d_Sv_isProved_13
set_option maxHeartbeats 4000000 in
set_option maxRecDepth 100000 in
/-- take: FORGED -/
theorem c_take (l : Launch) (dC : Nat → ClassId) (dI : Nat → Nat → Nat) (cT : Nat → ClassId) (sz : Nat) (sv : Nat) (g0 : Nat) (se : Nat) (pw : Nat) (ty : Nat) (an : Nat) (aw : Nat) (ts : Nat) (ss : Nat) (rq : Nat) (tm : Int32) (n3 : Int32) (n4 : Int32) (dr : Nat) (rr : Nat) (sa : Nat) (f : Nat → Int32) (ga : Nat → Int32) (y : Int32) (h0 : f 0 = 1) (h2 : f 2 = 0) (h3 : f 3 = 20) : Met l y_Sv_take (Cond.code y_Sv_take b_Sv_take 3 (Option.some Jvm.ClassFile.FieldType.int) :: BIG) ({ frames := 2, cells := 0, slots := 0, locals := 46 }) (va_Pc [.ref sv, .int y] (fun U => U.heap.size = sz ∧ va_P (dC, dI) vcl [(sv, .inr (5, [.ref se, .ref pw, .ref g0, .ref ty, .ref an, .ref aw, .ref ts, .ref ss, .ref rq, .int tm, .int n3, .int n4])), (rq, .inr (4, [.ref dr, .ref sa])), (sa, .inl ((cT 0), 256, .inl ga)), (dr, .inr (2, [.ref rr, .int (nI 20)])), (rr, .inl ((cT 0), 1000, .inl f))] U.heap ∧ va_K (dC, dI) vcl (tyL cT) U ∧ va_D (fun _ => True) [(sv, .inr (5, [.ref se, .ref pw, .ref g0, .ref ty, .ref an, .ref aw, .ref ts, .ref ss, .ref rq, .int tm, .int n3, .int n4])), (rq, .inr (4, [.ref dr, .ref sa])), (sa, .inl ((cT 0), 256, .inl ga)), (dr, .inr (2, [.ref rr, .int (nI 20)])), (rr, .inl ((cT 0), 1000, .inl f))])) (va_Qi (S := Unit) (fun r u => r = (-4) ∧ (True)) (fun u t => va_P (dC, dI) vcl [] t.heap ∧ va_K (dC, dI) vcl (tyL cT) t ∧ va_D (va_A [(sv, .inr (5, [.ref se, .ref pw, .ref g0, .ref ty, .ref an, .ref aw, .ref ts, .ref ss, .ref rq, .int tm, .int n3, .int n4])), (rq, .inr (4, [.ref dr, .ref sa])), (sa, .inl ((cT 0), 256, .inl ga)), (dr, .inr (2, [.ref rr, .int (nI 20)])), (rr, .inl ((cT 0), 1000, .inl f))] sz) []) (va_A [(sv, .inr (5, [.ref se, .ref pw, .ref g0, .ref ty, .ref an, .ref aw, .ref ts, .ref ss, .ref rq, .int tm, .int n3, .int n4])), (rq, .inr (4, [.ref dr, .ref sa])), (sa, .inl ((cT 0), 256, .inl ga)), (dr, .inr (2, [.ref rr, .int (nI 20)])), (rr, .inl ((cT 0), 1000, .inl f))] sz)) 0 0 (va_A [(sv, .inr (5, [.ref se, .ref pw, .ref g0, .ref ty, .ref an, .ref aw, .ref ts, .ref ss, .ref rq, .int tm, .int n3, .int n4])), (rq, .inr (4, [.ref dr, .ref sa])), (sa, .inl ((cT 0), 256, .inl ga)), (dr, .inr (2, [.ref rr, .int (nI 20)])), (rr, .inl ((cT 0), 1000, .inl f))] sz) := by
  refine Met.ofW (cc := b_Sv_take) (maxL := 3) (ret := (Option.some Jvm.ClassFile.FieldType.int)) (by decide) rfl ?_
  intro p e s m args below meth c s₁ B hml hv
  obtain ⟨hargs, hsz, hP, hK, hD0⟩ := hv
  have hx := B.exec
  have hb := B.bytes
  have hr := B.returns
  have hts := atoms_spec (ws := (Cond.code y_Sv_take b_Sv_take 3 (Option.some Jvm.ClassFile.FieldType.int) :: BIG)) B.pre
  have hg : ∀ w ∈ BIG, w.before _ s = true := fun w h => hts w (List.mem_cons_of_mem _ h)
  have hown : s.vm.findClass "DoorServer$Server" = some m.cls := findClass_of_methodNamed B.named
  have hlocks := B.notSynchronized
  subst hsz
  have hD := hD0.self (sz := s.heap.size)
  generalize hAe : va_A [(sv, .inr (5, [.ref se, .ref pw, .ref g0, .ref ty, .ref an, .ref aw, .ref ts, .ref ss, .ref rq, .int tm, .int n3, .int n4])), (rq, .inr (4, [.ref dr, .ref sa])), (sa, .inl ((cT 0), 256, .inl ga)), (dr, .inr (2, [.ref rr, .int (nI 20)])), (rr, .inl ((cT 0), 1000, .inl f))] s.heap.size = A at hD ⊢
  have hA : ∀ q : Nat, s.heap.size ≤ q → A q := fun q h => by rw [← hAe]; exact Or.inr h
  have hS : va_S A s.heap s.heap [] := va_S.rf
  have hl := lv_entry ([.ref sv, .int y]) (n := 3) (Nat.le_of_ble_eq_true rfl)
  refine W.eq (g2 := entryFrame m (List.toArray [.ref sv, .int y]) 3) (by rw [hargs]) ?_
  rw [lg_entry_eq]
  generalize (lg_sl ([.ref sv, .int y]) ++ List.replicate (3 - (lg_sl ([.ref sv, .int y])).length) Slot.unset).toArray = ls at hl ⊢
  have hl : lv_has ls 3 [(0, .ref sv), (1, .int y)] := hl
  change W p l e ({ frames := 2, cells := 0, slots := 0, locals := 46 } : Room) s m args below meth c s.heap [] 0 0 _ _
  have hP : va_P (dC, dI) vcl [(sv, .inr (5, [.ref se, .ref pw, .ref g0, .ref ty, .ref an, .ref aw, .ref ts, .ref ss, .ref rq, .int tm, .int n3, .int n4])), (rq, .inr (4, [.ref dr, .ref sa])), (sa, .inl ((cT 0), 256, .inl ga)), (dr, .inr (2, [.ref rr, .int (nI 20)])), (rr, .inl ((cT 0), 1000, .inl f))] s.heap := hP
  refine lv_aload_n hx hb d_Sv_take_0 rfl (lv_at hl 0 rfl) ?_
  refine va_get (D := (dC, dI)) (ci := 5) (v := (.ref rq)) (C := R_Sv) (T := F_Sv) (N := 12) hx hb hg in_Sv hown hK hP 0 rfl rfl 8 (by decide) (hg _ k_336) (fun _ h9 => h9) rfl d_Sv_take_1 ?_
  have hPc := hP.sub (ws' := [(rq, .inr (4, [.ref dr, .ref sa])), (sa, .inl ((cT 0), 256, .inl ga)), (dr, .inr (2, [.ref rr, .int (nI 20)])), (rr, .inl ((cT 0), 1000, .inl f))]) [1, 2, 3, 4] rfl
  have hDc := hD.sub (ws' := [(rq, .inr (4, [.ref dr, .ref sa])), (sa, .inl ((cT 0), 256, .inl ga)), (dr, .inr (2, [.ref rr, .int (nI 20)])), (rr, .inl ((cT 0), 1000, .inl f))]) [1, 2, 3, 4] (by decide) rfl
  have hFc := va_free (wc := [(rq, .inr (4, [.ref dr, .ref sa])), (sa, .inl ((cT 0), 256, .inl ga)), (dr, .inr (2, [.ref rr, .int (nI 20)])), (rr, .inl ((cT 0), 1000, .inl f))]) hD hS hA [1, 2, 3, 4] rfl
  refine va_calli (va_runV (C := "DoorServer$Request") (As := []) (rest := []) ⟨hx, hb, hml, hown, hg⟩ (c_whole l dC dI cT s.heap.size rq dr rr sa f ga (h0) (h2) (h3)) (cwV 0 hg (gI (List.forall_mem_append.mpr ⟨List.forall_mem_cons.mpr ⟨k_694, List.forall_mem_cons.mpr ⟨k_695, List.forall_mem_cons.mpr ⟨k_696, List.forall_mem_cons.mpr ⟨k_12, fun _ h => absurd h List.not_mem_nil⟩⟩⟩⟩, List.forall_mem_cons.mpr ⟨k_697, fun _ h => h⟩⟩)) rfl rfl rfl (by decide +kernel) ⟨Nat.le_of_ble_eq_true rfl, Nat.le_of_ble_eq_true rfl⟩) ⟨fun a U g mk q => by obtain ⟨q0, q1, qP, qK, qD⟩ := q; exact ⟨q0, q1, qP, va_K.moved (u := U) (U := U.calling g mk a) (Vm.Alike.refl U.vm) qK, qD⟩, va_recv (q0 := 1) (ci := 4) hK hP rfl rfl, fun U hU hW => ⟨rfl, by rw [hU], by rw [hU]; exact hPc, va_K.moved hW.alike hK, hDc.weaken (fun _ _ _ _ => trivial)⟩⟩ rfl rfl hl.1 rfl (lv_room (Nat.le_of_ble_eq_true rfl)) d_Sv_take_4 ⟨Nat.le_of_ble_eq_true rfl, Nat.le_of_ble_eq_true rfl⟩) hS (fun q _ h => hFc q h) hFc (fun r u t H1 locs ht hvm hw hB hz1 hk1 hS => ?_)
  obtain ⟨g_39, rfl⟩ : ∃ z, z = u := ⟨_, rfl⟩
  try dsimp only at hw hB
  obtain ⟨hP1, hK1, hD1⟩ := hB
  rw [ht] at hP1
  obtain ⟨rfl, hw⟩ := hw
  obtain ⟨hP, hD⟩ := va_join (wr := [(sv, .inr (5, [.ref se, .ref pw, .ref g0, .ref ty, .ref an, .ref aw, .ref ts, .ref ss, .ref rq, .int tm, .int n3, .int n4]))]) (w1 := [(rq, .inr (4, [.ref dr, .ref sa])), (sa, .inl ((cT 0), 256, .inl g_39)), (dr, .inr (2, [.ref rr, .int (nI 20)])), (rr, .inl ((cT 0), 1000, .inl f))]) hP hD [1, 2, 3, 4] [0] rfl rfl (by decide) (by decide) hk1 hFc hP1 hD1
  have hw40 := hw
  clear hPc hDc hFc hz1 hk1 hP1 hK1 hD1
  generalize H1 = H at hP hS ⊢
  have hP : va_P (dC, dI) vcl [(sv, .inr (5, [.ref se, .ref pw, .ref g0, .ref ty, .ref an, .ref aw, .ref ts, .ref ss, .ref rq, .int tm, .int n3, .int n4])), (rq, .inr (4, [.ref dr, .ref sa])), (sa, .inl ((cT 0), 256, .inl g_39)), (dr, .inr (2, [.ref rr, .int (nI 20)])), (rr, .inl ((cT 0), 1000, .inl f))] H := hP
  have hD : va_D A [(sv, .inr (5, [.ref se, .ref pw, .ref g0, .ref ty, .ref an, .ref aw, .ref ts, .ref ss, .ref rq, .int tm, .int n3, .int n4])), (rq, .inr (4, [.ref dr, .ref sa])), (sa, .inl ((cT 0), 256, .inl g_39)), (dr, .inr (2, [.ref rr, .int (nI 20)])), (rr, .inl ((cT 0), 1000, .inl f))] := hD
  refine lv_if_ne (tgt := 13) hx hb d_Sv_take_7 (by decide) (fun hc41 => ?_) (fun hn9 => absurd hn9 (by decide))
  refine lv_aload_n hx hb d_Sv_take_13 rfl (lv_at hl 0 rfl) ?_
  refine va_get (D := (dC, dI)) (ci := 5) (v := (.ref rq)) (C := R_Sv) (T := F_Sv) (N := 12) hx hb hg in_Sv hown hK hP 0 rfl rfl 8 (by decide) (hg _ k_336) (fun _ h9 => h9) rfl d_Sv_take_14 ?_
  have hPc := hP.sub (ws' := [(rq, .inr (4, [.ref dr, .ref sa])), (sa, .inl ((cT 0), 256, .inl g_39)), (dr, .inr (2, [.ref rr, .int (nI 20)])), (rr, .inl ((cT 0), 1000, .inl f))]) [1, 2, 3, 4] rfl
  have hDc := hD.sub (ws' := [(rq, .inr (4, [.ref dr, .ref sa])), (sa, .inl ((cT 0), 256, .inl g_39)), (dr, .inr (2, [.ref rr, .int (nI 20)])), (rr, .inl ((cT 0), 1000, .inl f))]) [1, 2, 3, 4] (by decide) rfl
  have hFc := va_free (wc := [(rq, .inr (4, [.ref dr, .ref sa])), (sa, .inl ((cT 0), 256, .inl g_39)), (dr, .inr (2, [.ref rr, .int (nI 20)])), (rr, .inl ((cT 0), 1000, .inl f))]) hD hS hA [1, 2, 3, 4] rfl
  refine va_calli (va_runV (C := "DoorServer$Request") (As := []) (rest := []) ⟨hx, hb, hml, hown, hg⟩ (c_code l dC dI cT H.size rq dr rr sa f g_39 (h0) (h2) (h3)) (cwV 0 hg (gI (List.forall_mem_append.mpr ⟨List.forall_mem_cons.mpr ⟨k_711, List.forall_mem_cons.mpr ⟨k_712, List.forall_mem_cons.mpr ⟨k_713, List.forall_mem_cons.mpr ⟨k_12, fun _ h => absurd h List.not_mem_nil⟩⟩⟩⟩, List.forall_mem_cons.mpr ⟨k_714, fun _ h => h⟩⟩)) rfl rfl rfl (by decide +kernel) ⟨Nat.le_of_ble_eq_true rfl, Nat.le_of_ble_eq_true rfl⟩) ⟨fun a U g mk q => by obtain ⟨q0, q1, qP, qK, qD⟩ := q; exact ⟨q0, q1, qP, va_K.moved (u := U) (U := U.calling g mk a) (Vm.Alike.refl U.vm) qK, qD⟩, va_recv (q0 := 1) (ci := 4) hK hP rfl rfl, fun U hU hW => ⟨rfl, by rw [hU], by rw [hU]; exact hPc, va_K.moved hW.alike hK, hDc.weaken (fun _ _ _ _ => trivial)⟩⟩ rfl rfl hl.1 rfl (lv_room (Nat.le_of_ble_eq_true rfl)) d_Sv_take_17 ⟨Nat.le_of_ble_eq_true rfl, Nat.le_of_ble_eq_true rfl⟩) hS (fun q _ h => hFc q h) hFc (fun r u t H1 locs ht hvm hw hB hz1 hk1 hS => ?_)
  try dsimp only at hw hB
  obtain ⟨hP1, hK1, hD1⟩ := hB
  rw [ht] at hP1
  obtain ⟨rfl, hw⟩ := hw
  obtain ⟨hP, hD⟩ := va_join (wr := [(sv, .inr (5, [.ref se, .ref pw, .ref g0, .ref ty, .ref an, .ref aw, .ref ts, .ref ss, .ref rq, .int tm, .int n3, .int n4]))]) (w1 := [(rq, .inr (4, [.ref dr, .ref sa])), (sa, .inl ((cT 0), 256, .inl g_39)), (dr, .inr (2, [.ref rr, .int (nI 20)])), (rr, .inl ((cT 0), 1000, .inl f))]) hP hD [1, 2, 3, 4] [0] rfl rfl (by decide) (by decide) hk1 hFc hP1 hD1
  have hw42 := hw
  clear hPc hDc hFc hz1 hk1 hP1 hK1 hD1
  generalize H1 = H at hP hS ⊢
  have hP : va_P (dC, dI) vcl [(sv, .inr (5, [.ref se, .ref pw, .ref g0, .ref ty, .ref an, .ref aw, .ref ts, .ref ss, .ref rq, .int tm, .int n3, .int n4])), (rq, .inr (4, [.ref dr, .ref sa])), (sa, .inl ((cT 0), 256, .inl g_39)), (dr, .inr (2, [.ref rr, .int (nI 20)])), (rr, .inl ((cT 0), 1000, .inl f))] H := hP
  have hD : va_D A [(sv, .inr (5, [.ref se, .ref pw, .ref g0, .ref ty, .ref an, .ref aw, .ref ts, .ref ss, .ref rq, .int tm, .int n3, .int n4])), (rq, .inr (4, [.ref dr, .ref sa])), (sa, .inl ((cT 0), 256, .inl g_39)), (dr, .inr (2, [.ref rr, .int (nI 20)])), (rr, .inl ((cT 0), 1000, .inl f))] := hD
  refine lv_istore_n (lv' := [(2, .int 1), (0, .ref sv), (1, .int y)]) hx hb d_Sv_take_20 rfl hl (by decide) rfl (fun ls hl => ?_)
  refine lv_iload_n hx hb d_Sv_take_21 rfl (lv_at hl 0 rfl) ?_
  refine lv_iconst (v := 1) hx hb d_Sv_take_22 (by decide) ?_
  refine lv_icmp_eq (tgt := 34) hx hb d_Sv_take_23 (by decide) (fun hc43 => ?_) (fun hn9 => absurd (by decide) hn9)
  refine lv_iload_n hx hb d_Sv_take_34 rfl (lv_at hl 0 rfl) ?_
  refine lv_iconst (v := 1) hx hb d_Sv_take_35 (by decide) ?_
  refine lv_icmp_ne (tgt := 50) hx hb d_Sv_take_36 (by decide) (fun hn9 => absurd hn9 (by decide)) (fun hc44 => ?_)
  refine lv_aload_n hx hb d_Sv_take_39 rfl (lv_at hl 1 rfl) ?_
  refine lv_iload_n hx hb d_Sv_take_40 rfl (lv_at hl 2 rfl) ?_
  have hPc := hP.sub (ws' := [(sv, .inr (5, [.ref se, .ref pw, .ref g0, .ref ty, .ref an, .ref aw, .ref ts, .ref ss, .ref rq, .int tm, .int n3, .int n4])), (rq, .inr (4, [.ref dr, .ref sa])), (sa, .inl ((cT 0), 256, .inl g_39))]) [0, 1, 2] rfl
  have hDc := hD.sub (ws' := [(sv, .inr (5, [.ref se, .ref pw, .ref g0, .ref ty, .ref an, .ref aw, .ref ts, .ref ss, .ref rq, .int tm, .int n3, .int n4])), (rq, .inr (4, [.ref dr, .ref sa])), (sa, .inl ((cT 0), 256, .inl g_39))]) [0, 1, 2] (by decide) rfl
  have hFc := va_free (wc := [(sv, .inr (5, [.ref se, .ref pw, .ref g0, .ref ty, .ref an, .ref aw, .ref ts, .ref ss, .ref rq, .int tm, .int n3, .int n4])), (rq, .inr (4, [.ref dr, .ref sa])), (sa, .inl ((cT 0), 256, .inl g_39))]) hD hS hA [0, 1, 2] rfl
  refine va_calli (va_runV (C := "DoorServer$Server") (As := [.int y]) (rest := []) ⟨hx, hb, hml, hown, hg⟩ (c_proved l dC dI cT H.size sv g0 se pw ty an aw ts ss rq tm n3 n4 dr sa g_39 y (hw40 80 (by decide))) (cwV 1 hg (gI (List.forall_mem_append.mpr ⟨List.forall_mem_cons.mpr ⟨k_715, List.forall_mem_cons.mpr ⟨k_717, List.forall_mem_cons.mpr ⟨(big_sel (q := y_Sv_isProved) (n := 12) (by decide +kernel)), List.forall_mem_cons.mpr ⟨k_4, fun _ h => absurd h List.not_mem_nil⟩⟩⟩⟩, List.forall_mem_cons.mpr ⟨k_718, fun _ h => h⟩⟩)) rfl rfl rfl (by decide +kernel) ⟨Nat.le_of_ble_eq_true rfl, Nat.le_of_ble_eq_true rfl⟩) ⟨fun a U g mk q => by obtain ⟨q0, q1, qP, qK, qD⟩ := q; exact ⟨q0, q1, qP, va_K.moved (u := U) (U := U.calling g mk a) (Vm.Alike.refl U.vm) qK, qD⟩, va_recv (q0 := 0) (ci := 5) hK hP rfl rfl, fun U hU hW => ⟨rfl, by rw [hU], by rw [hU]; exact hPc, va_K.moved hW.alike hK, hDc.weaken (fun _ _ _ _ => trivial)⟩⟩ rfl rfl hl.1 rfl (lv_room (Nat.le_of_ble_eq_true rfl)) d_Sv_take_41 ⟨Nat.le_of_ble_eq_true rfl, Nat.le_of_ble_eq_true rfl⟩) hS (fun q _ h => hFc q h) hFc (fun r u t H1 locs ht hvm hw hB hz1 hk1 hS => ?_)
  try dsimp only at hw hB
  obtain ⟨hP1, hK1, hD1⟩ := hB
  rw [ht] at hP1
  obtain ⟨rfl, hw⟩ := hw
  obtain ⟨hP, hD⟩ := va_join (wr := [(dr, .inr (2, [.ref rr, .int (nI 20)])), (rr, .inl ((cT 0), 1000, .inl f))]) (w1 := [(sv, .inr (5, [.ref se, .ref pw, .ref g0, .ref ty, .ref an, .ref aw, .ref ts, .ref ss, .ref rq, .int tm, .int n3, .int n4])), (rq, .inr (4, [.ref dr, .ref sa])), (sa, .inl ((cT 0), 256, .inl g_39))]) hP hD [0, 1, 2] [3, 4] rfl rfl (by decide) (by decide) hk1 hFc hP1 hD1
  have hw45 := hw
  clear hPc hDc hFc hz1 hk1 hP1 hK1 hD1
  generalize H1 = H at hP hS ⊢
  have hP : va_P (dC, dI) vcl [(dr, .inr (2, [.ref rr, .int (nI 20)])), (rr, .inl ((cT 0), 1000, .inl f)), (sv, .inr (5, [.ref se, .ref pw, .ref g0, .ref ty, .ref an, .ref aw, .ref ts, .ref ss, .ref rq, .int tm, .int n3, .int n4])), (rq, .inr (4, [.ref dr, .ref sa])), (sa, .inl ((cT 0), 256, .inl g_39))] H := hP
  have hD : va_D A [(dr, .inr (2, [.ref rr, .int (nI 20)])), (rr, .inl ((cT 0), 1000, .inl f)), (sv, .inr (5, [.ref se, .ref pw, .ref g0, .ref ty, .ref an, .ref aw, .ref ts, .ref ss, .ref rq, .int tm, .int n3, .int n4])), (rq, .inr (4, [.ref dr, .ref sa])), (sa, .inl ((cT 0), 256, .inl g_39))] := hD
  refine lv_if_ne (tgt := 61) hx hb d_Sv_take_44 (by decide) (fun hn9 => absurd hn9 (by decide)) (fun hc46 => ?_)
  refine lv_goto (tgt := 58) hx hb d_Sv_take_47 (by decide) ?_
  refine lv_bipush (v := (-4)) hx hb d_Sv_take_58 (by decide) ?_
  have hP9 := hP.sub (ws' := []) [] rfl
  have hD9 := hD.sub (ws' := []) [] (by decide) rfl
  exact W.iret (v := (-4)) hx hb hr (fun t ht hW => ⟨⟨_, (), rfl, ⟨rfl, trivial⟩, by rw [ht]; exact hP9, va_K.moved hW.alike hK, hD9⟩, hS.F ht⟩) hS.2.2 d_Sv_take_60
set_option maxHeartbeats 4000000 in
set_option maxRecDepth 100000 in
/-- send: FORGED -/
theorem c_send (l : Launch) (dC : Nat → ClassId) (dI : Nat → Nat → Nat) (cT : Nat → ClassId) (sz : Nat) (ds : Nat) (sv : Nat) (g0 : Nat) (se : Nat) (pw : Nat) (ty : Nat) (an : Nat) (aw : Nat) (ts : Nat) (ss : Nat) (rq : Nat) (tm : Int32) (n3 : Int32) (n4 : Int32) (dr : Nat) (rr : Nat) (sa : Nat) (f : Nat → Int32) (ga : Nat → Int32) (st : Nat) (h0 : f 0 = 1) (h2 : f 2 = 0) (h3 : f 3 = 20) (hst : st < 4) : Met l y_DS_send (Cond.code y_DS_send b_DS_send 2 (Option.some Jvm.ClassFile.FieldType.int) :: BIG) ({ frames := 3, cells := 0, slots := 0, locals := 70 }) (va_Pc [.ref ds, .int (nI st)] (fun U => U.heap.size = sz ∧ va_P (dC, dI) vcl [(ds, .inr (0, [.ref dr, .ref sv])), (sv, .inr (5, [.ref se, .ref pw, .ref g0, .ref ty, .ref an, .ref aw, .ref ts, .ref ss, .ref rq, .int tm, .int n3, .int n4])), (rq, .inr (4, [.ref dr, .ref sa])), (sa, .inl ((cT 0), 256, .inl ga)), (dr, .inr (2, [.ref rr, .int (nI 20)])), (rr, .inl ((cT 0), 1000, .inl f))] U.heap ∧ va_K (dC, dI) vcl (tyL cT) U ∧ va_D (fun _ => True) [(ds, .inr (0, [.ref dr, .ref sv])), (sv, .inr (5, [.ref se, .ref pw, .ref g0, .ref ty, .ref an, .ref aw, .ref ts, .ref ss, .ref rq, .int tm, .int n3, .int n4])), (rq, .inr (4, [.ref dr, .ref sa])), (sa, .inl ((cT 0), 256, .inl ga)), (dr, .inr (2, [.ref rr, .int (nI 20)])), (rr, .inl ((cT 0), 1000, .inl f))])) (va_Qi (S := Unit) (fun r u => r = (-4) ∧ (True)) (fun u t => va_P (dC, dI) vcl [] t.heap ∧ va_K (dC, dI) vcl (tyL cT) t ∧ va_D (va_A [(ds, .inr (0, [.ref dr, .ref sv])), (sv, .inr (5, [.ref se, .ref pw, .ref g0, .ref ty, .ref an, .ref aw, .ref ts, .ref ss, .ref rq, .int tm, .int n3, .int n4])), (rq, .inr (4, [.ref dr, .ref sa])), (sa, .inl ((cT 0), 256, .inl ga)), (dr, .inr (2, [.ref rr, .int (nI 20)])), (rr, .inl ((cT 0), 1000, .inl f))] sz) []) (va_A [(ds, .inr (0, [.ref dr, .ref sv])), (sv, .inr (5, [.ref se, .ref pw, .ref g0, .ref ty, .ref an, .ref aw, .ref ts, .ref ss, .ref rq, .int tm, .int n3, .int n4])), (rq, .inr (4, [.ref dr, .ref sa])), (sa, .inl ((cT 0), 256, .inl ga)), (dr, .inr (2, [.ref rr, .int (nI 20)])), (rr, .inl ((cT 0), 1000, .inl f))] sz)) 0 0 (va_A [(ds, .inr (0, [.ref dr, .ref sv])), (sv, .inr (5, [.ref se, .ref pw, .ref g0, .ref ty, .ref an, .ref aw, .ref ts, .ref ss, .ref rq, .int tm, .int n3, .int n4])), (rq, .inr (4, [.ref dr, .ref sa])), (sa, .inl ((cT 0), 256, .inl ga)), (dr, .inr (2, [.ref rr, .int (nI 20)])), (rr, .inl ((cT 0), 1000, .inl f))] sz) := by
  refine Met.ofW (cc := b_DS_send) (maxL := 2) (ret := (Option.some Jvm.ClassFile.FieldType.int)) (by decide) rfl ?_
  intro p e s m args below meth c s₁ B hml hv
  obtain ⟨hargs, hsz, hP, hK, hD0⟩ := hv
  have hx := B.exec
  have hb := B.bytes
  have hr := B.returns
  have hts := atoms_spec (ws := (Cond.code y_DS_send b_DS_send 2 (Option.some Jvm.ClassFile.FieldType.int) :: BIG)) B.pre
  have hg : ∀ w ∈ BIG, w.before _ s = true := fun w h => hts w (List.mem_cons_of_mem _ h)
  have hown : s.vm.findClass "DoorServer" = some m.cls := findClass_of_methodNamed B.named
  have hlocks := B.notSynchronized
  subst hsz
  have hD := hD0.self (sz := s.heap.size)
  generalize hAe : va_A [(ds, .inr (0, [.ref dr, .ref sv])), (sv, .inr (5, [.ref se, .ref pw, .ref g0, .ref ty, .ref an, .ref aw, .ref ts, .ref ss, .ref rq, .int tm, .int n3, .int n4])), (rq, .inr (4, [.ref dr, .ref sa])), (sa, .inl ((cT 0), 256, .inl ga)), (dr, .inr (2, [.ref rr, .int (nI 20)])), (rr, .inl ((cT 0), 1000, .inl f))] s.heap.size = A at hD ⊢
  have hA : ∀ q : Nat, s.heap.size ≤ q → A q := fun q h => by rw [← hAe]; exact Or.inr h
  have hS : va_S A s.heap s.heap [] := va_S.rf
  have hl := lv_entry ([.ref ds, .int (nI st)]) (n := 2) (Nat.le_of_ble_eq_true rfl)
  refine W.eq (g2 := entryFrame m (List.toArray [.ref ds, .int (nI st)]) 2) (by rw [hargs]) ?_
  rw [lg_entry_eq]
  generalize (lg_sl ([.ref ds, .int (nI st)]) ++ List.replicate (2 - (lg_sl ([.ref ds, .int (nI st)])).length) Slot.unset).toArray = ls at hl ⊢
  have hl : lv_has ls 2 [(0, .ref ds), (1, .int (nI st))] := hl
  change W p l e ({ frames := 3, cells := 0, slots := 0, locals := 70 } : Room) s m args below meth c s.heap [] 0 0 _ _
  have hP : va_P (dC, dI) vcl [(ds, .inr (0, [.ref dr, .ref sv])), (sv, .inr (5, [.ref se, .ref pw, .ref g0, .ref ty, .ref an, .ref aw, .ref ts, .ref ss, .ref rq, .int tm, .int n3, .int n4])), (rq, .inr (4, [.ref dr, .ref sa])), (sa, .inl ((cT 0), 256, .inl ga)), (dr, .inr (2, [.ref rr, .int (nI 20)])), (rr, .inl ((cT 0), 1000, .inl f))] s.heap := hP
  refine lv_iload_n hx hb d_DS_send_0 rfl (lv_at hl 1 rfl) ?_
  have hPc := hP.sub (ws' := []) [] rfl
  have hDc := hD.sub (ws' := []) [] (by decide) rfl
  have hFc := va_free (wc := []) hD hS hA [] rfl
  refine va_callv (va_runS (As := [.int (nI st)]) (rest := []) ⟨hx, hb, hml, hown, hg⟩ (c_requireStation l dC dI cT s.heap.size (nI st) (nI_pos (by omega)) (nI_nlt (a := 3) (by omega) (by decide))) (va_cwS 1 hg (gI (List.forall_mem_append.mpr ⟨List.forall_mem_cons.mpr ⟨k_387, List.forall_mem_cons.mpr ⟨k_388, List.forall_mem_cons.mpr ⟨k_1, fun _ h => absurd h List.not_mem_nil⟩⟩⟩, List.forall_mem_cons.mpr ⟨k_389, fun _ h => h⟩⟩)) rfl rfl rfl (by decide +kernel) ⟨Nat.le_of_ble_eq_true rfl, Nat.le_of_ble_eq_true rfl⟩) ⟨fun a U g mk q => by obtain ⟨q0, q1, qP, qK, qD⟩ := q; exact ⟨q0, q1, qP, va_K.moved (u := U) (U := U.calling g mk a) (Vm.Alike.refl U.vm) qK, qD⟩, fun U hU hW => ⟨rfl, by rw [hU], by rw [hU]; exact hPc, va_K.moved hW.alike hK, hDc.weaken (fun _ _ _ _ => trivial)⟩⟩ rfl rfl hl.1 rfl (lv_room (Nat.le_of_ble_eq_true rfl)) d_DS_send_1 ⟨Nat.le_of_ble_eq_true rfl, Nat.le_of_ble_eq_true rfl⟩) hS (fun q _ h => hFc q h) hFc (fun u t H1 locs ht hvm hw hB hz1 hk1 hS => ?_)
  try dsimp only at hw hB
  obtain ⟨hP1, hK1, hD1⟩ := hB
  rw [ht] at hP1
  obtain ⟨hP, hD⟩ := va_join (wr := [(ds, .inr (0, [.ref dr, .ref sv])), (sv, .inr (5, [.ref se, .ref pw, .ref g0, .ref ty, .ref an, .ref aw, .ref ts, .ref ss, .ref rq, .int tm, .int n3, .int n4])), (rq, .inr (4, [.ref dr, .ref sa])), (sa, .inl ((cT 0), 256, .inl ga)), (dr, .inr (2, [.ref rr, .int (nI 20)])), (rr, .inl ((cT 0), 1000, .inl f))]) (w1 := []) hP hD [] [0, 1, 2, 3, 4, 5] rfl rfl (by decide) (by decide) hk1 hFc hP1 hD1
  have hw47 := hw
  clear hPc hDc hFc hz1 hk1 hP1 hK1 hD1
  generalize H1 = H at hP hS ⊢
  have hP : va_P (dC, dI) vcl [(ds, .inr (0, [.ref dr, .ref sv])), (sv, .inr (5, [.ref se, .ref pw, .ref g0, .ref ty, .ref an, .ref aw, .ref ts, .ref ss, .ref rq, .int tm, .int n3, .int n4])), (rq, .inr (4, [.ref dr, .ref sa])), (sa, .inl ((cT 0), 256, .inl ga)), (dr, .inr (2, [.ref rr, .int (nI 20)])), (rr, .inl ((cT 0), 1000, .inl f))] H := hP
  have hD : va_D A [(ds, .inr (0, [.ref dr, .ref sv])), (sv, .inr (5, [.ref se, .ref pw, .ref g0, .ref ty, .ref an, .ref aw, .ref ts, .ref ss, .ref rq, .int tm, .int n3, .int n4])), (rq, .inr (4, [.ref dr, .ref sa])), (sa, .inl ((cT 0), 256, .inl ga)), (dr, .inr (2, [.ref rr, .int (nI 20)])), (rr, .inl ((cT 0), 1000, .inl f))] := hD
  refine lv_aload_n hx hb d_DS_send_4 rfl (lv_at hl 0 rfl) ?_
  refine va_get (D := (dC, dI)) (ci := 0) (v := (.ref sv)) (C := R_DS) (T := F_DS) (N := 2) hx hb hg in_DS hown hK hP 0 rfl rfl 1 (by decide) (hg _ k_369) (fun _ h9 => h9) rfl d_DS_send_5 ?_
  refine lv_iload_n hx hb d_DS_send_8 rfl (lv_at hl 1 rfl) ?_
  have hPc := hP.sub (ws' := [(sv, .inr (5, [.ref se, .ref pw, .ref g0, .ref ty, .ref an, .ref aw, .ref ts, .ref ss, .ref rq, .int tm, .int n3, .int n4])), (rq, .inr (4, [.ref dr, .ref sa])), (sa, .inl ((cT 0), 256, .inl ga)), (dr, .inr (2, [.ref rr, .int (nI 20)])), (rr, .inl ((cT 0), 1000, .inl f))]) [1, 2, 3, 4, 5] rfl
  have hDc := hD.sub (ws' := [(sv, .inr (5, [.ref se, .ref pw, .ref g0, .ref ty, .ref an, .ref aw, .ref ts, .ref ss, .ref rq, .int tm, .int n3, .int n4])), (rq, .inr (4, [.ref dr, .ref sa])), (sa, .inl ((cT 0), 256, .inl ga)), (dr, .inr (2, [.ref rr, .int (nI 20)])), (rr, .inl ((cT 0), 1000, .inl f))]) [1, 2, 3, 4, 5] (by decide) rfl
  have hFc := va_free (wc := [(sv, .inr (5, [.ref se, .ref pw, .ref g0, .ref ty, .ref an, .ref aw, .ref ts, .ref ss, .ref rq, .int tm, .int n3, .int n4])), (rq, .inr (4, [.ref dr, .ref sa])), (sa, .inl ((cT 0), 256, .inl ga)), (dr, .inr (2, [.ref rr, .int (nI 20)])), (rr, .inl ((cT 0), 1000, .inl f))]) hD hS hA [1, 2, 3, 4, 5] rfl
  refine va_calli (va_runV (C := "DoorServer$Server") (As := [.int (nI st)]) (rest := []) ⟨hx, hb, hml, hown, hg⟩ (c_take l dC dI cT H.size sv g0 se pw ty an aw ts ss rq tm n3 n4 dr rr sa f ga (nI st) (h0) (h2) (h3)) (cwV 1 hg (gI (List.forall_mem_append.mpr ⟨List.forall_mem_cons.mpr ⟨k_690, List.forall_mem_cons.mpr ⟨k_691, List.forall_mem_cons.mpr ⟨k_692, List.forall_mem_cons.mpr ⟨k_4, fun _ h => absurd h List.not_mem_nil⟩⟩⟩⟩, List.forall_mem_cons.mpr ⟨k_693, fun _ h => h⟩⟩)) rfl rfl rfl (by decide +kernel) ⟨Nat.le_of_ble_eq_true rfl, Nat.le_of_ble_eq_true rfl⟩) ⟨fun a U g mk q => by obtain ⟨q0, q1, qP, qK, qD⟩ := q; exact ⟨q0, q1, qP, va_K.moved (u := U) (U := U.calling g mk a) (Vm.Alike.refl U.vm) qK, qD⟩, va_recv (q0 := 1) (ci := 5) hK hP rfl rfl, fun U hU hW => ⟨rfl, by rw [hU], by rw [hU]; exact hPc, va_K.moved hW.alike hK, hDc.weaken (fun _ _ _ _ => trivial)⟩⟩ rfl rfl hl.1 rfl (lv_room (Nat.le_of_ble_eq_true rfl)) d_DS_send_9 ⟨Nat.le_of_ble_eq_true rfl, Nat.le_of_ble_eq_true rfl⟩) hS (fun q _ h => hFc q h) hFc (fun r u t H1 locs ht hvm hw hB hz1 hk1 hS => ?_)
  try dsimp only at hw hB
  obtain ⟨hP1, hK1, hD1⟩ := hB
  rw [ht] at hP1
  obtain ⟨rfl, hw⟩ := hw
  obtain ⟨hP, hD⟩ := va_join (wr := [(ds, .inr (0, [.ref dr, .ref sv]))]) (w1 := []) hP hD [1, 2, 3, 4, 5] [0] rfl rfl (by decide) (by decide) hk1 hFc hP1 hD1
  have hw48 := hw
  clear hPc hDc hFc hz1 hk1 hP1 hK1 hD1
  generalize H1 = H at hP hS ⊢
  have hP : va_P (dC, dI) vcl [(ds, .inr (0, [.ref dr, .ref sv]))] H := hP
  have hD : va_D A [(ds, .inr (0, [.ref dr, .ref sv]))] := hD
  have hP9 := hP.sub (ws' := []) [] rfl
  have hD9 := hD.sub (ws' := []) [] (by decide) rfl
  exact W.iret (v := (-4)) hx hb hr (fun t ht hW => ⟨⟨_, (), rfl, ⟨rfl, trivial⟩, by rw [ht]; exact hP9, va_K.moved hW.alike hK, hD9⟩, hS.F ht⟩) hS.2.2 d_DS_send_12
