theorem d_Dg_startWithKey_0 : decode b_Dg_startWithKey 0 = .ok (.aload_n 0, 1) := by decide +kernel
theorem d_Dg_startWithKey_1 : decode b_Dg_startWithKey 1 = .ok (.getfield 16, 3) := by decide +kernel
theorem d_Dg_startWithKey_4 : decode b_Dg_startWithKey 4 = .ok (.iconst 0, 1) := by decide +kernel
theorem d_Dg_startWithKey_5 : decode b_Dg_startWithKey 5 = .ok (.putfield 42, 3) := by decide +kernel
theorem d_Dg_startWithKey_8 : decode b_Dg_startWithKey 8 = .ok (.iconst 0, 1) := by decide +kernel
theorem d_Dg_startWithKey_9 : decode b_Dg_startWithKey 9 = .ok (.istore_n 3, 1) := by decide +kernel
theorem d_Dg_startWithKey_10 : decode b_Dg_startWithKey 10 = .ok (.iload_n 3, 1) := by decide +kernel
theorem d_Dg_startWithKey_11 : decode b_Dg_startWithKey 11 = .ok (.bipush 64, 2) := by decide +kernel
theorem d_Dg_startWithKey_13 : decode b_Dg_startWithKey 13 = .ok (.if_icmp .ge 36, 3) := by decide +kernel
theorem d_Dg_startWithKey_16 : decode b_Dg_startWithKey 16 = .ok (.aload_n 0, 1) := by decide +kernel
theorem d_Dg_startWithKey_17 : decode b_Dg_startWithKey 17 = .ok (.getfield 16, 3) := by decide +kernel
theorem d_Dg_startWithKey_20 : decode b_Dg_startWithKey 20 = .ok (.iload_n 3, 1) := by decide +kernel
theorem d_Dg_startWithKey_21 : decode b_Dg_startWithKey 21 = .ok (.aload_n 1, 1) := by decide +kernel
theorem d_Dg_startWithKey_22 : decode b_Dg_startWithKey 22 = .ok (.getfield 42, 3) := by decide +kernel
theorem d_Dg_startWithKey_38 : decode b_Dg_startWithKey 38 = .ok (.iload_n 2, 1) := by decide +kernel
theorem d_Dg_startWithKey_39 : decode b_Dg_startWithKey 39 = .ok (.ixor, 1) := by decide +kernel
theorem d_Dg_startWithKey_40 : decode b_Dg_startWithKey 40 = .ok (.invokevirtual 52, 3) := by decide +kernel
theorem d_Dg_startWithKey_43 : decode b_Dg_startWithKey 43 = .ok (.iinc 3 1, 3) := by decide +kernel
theorem d_Dg_startWithKey_46 : decode b_Dg_startWithKey 46 = .ok (.goto (-36), 3) := by decide +kernel
theorem d_Dg_startWithKey_25 : decode b_Dg_startWithKey 25 = .ok (.if_icmp .ge 12, 3) := by decide +kernel
theorem d_Dg_startWithKey_37 : decode b_Dg_startWithKey 37 = .ok (.iconst 0, 1) := by decide +kernel
theorem d_Dg_startWithKey_28 : decode b_Dg_startWithKey 28 = .ok (.aload_n 1, 1) := by decide +kernel
theorem d_Dg_startWithKey_29 : decode b_Dg_startWithKey 29 = .ok (.getfield 46, 3) := by decide +kernel
theorem d_Dg_startWithKey_32 : decode b_Dg_startWithKey 32 = .ok (.iload_n 3, 1) := by decide +kernel
theorem d_Dg_startWithKey_33 : decode b_Dg_startWithKey 33 = .ok (.iaload, 1) := by decide +kernel
theorem d_Dg_startWithKey_34 : decode b_Dg_startWithKey 34 = .ok (.goto 4, 3) := by decide +kernel
theorem d_Dg_startWithKey_49 : decode b_Dg_startWithKey 49 = .ok (.return_, 1) := by decide +kernel
theorem d_Dg_appendBlanked_0 : decode b_Dg_appendBlanked 0 = .ok (.aload_n 0, 1) := by decide +kernel
theorem d_Dg_appendBlanked_1 : decode b_Dg_appendBlanked 1 = .ok (.getfield 16, 3) := by decide +kernel
theorem d_Dg_appendBlanked_4 : decode b_Dg_appendBlanked 4 = .ok (.getfield 42, 3) := by decide +kernel
theorem d_Dg_appendBlanked_7 : decode b_Dg_appendBlanked 7 = .ok (.iload_n 2, 1) := by decide +kernel
theorem d_Dg_appendBlanked_8 : decode b_Dg_appendBlanked 8 = .ok (.iadd, 1) := by decide +kernel
theorem d_Dg_appendBlanked_9 : decode b_Dg_appendBlanked 9 = .ok (.istore_n 3, 1) := by decide +kernel
theorem d_Dg_appendBlanked_10 : decode b_Dg_appendBlanked 10 = .ok (.aload_n 0, 1) := by decide +kernel
theorem d_Dg_appendBlanked_11 : decode b_Dg_appendBlanked 11 = .ok (.getfield 16, 3) := by decide +kernel
theorem d_Dg_appendBlanked_14 : decode b_Dg_appendBlanked 14 = .ok (.aload_n 1, 1) := by decide +kernel
theorem d_Dg_appendBlanked_15 : decode b_Dg_appendBlanked 15 = .ok (.getfield 46, 3) := by decide +kernel
theorem d_Dg_appendBlanked_18 : decode b_Dg_appendBlanked 18 = .ok (.iconst 0, 1) := by decide +kernel
theorem d_Dg_appendBlanked_19 : decode b_Dg_appendBlanked 19 = .ok (.aload_n 1, 1) := by decide +kernel
theorem d_Dg_appendBlanked_20 : decode b_Dg_appendBlanked 20 = .ok (.getfield 42, 3) := by decide +kernel
theorem d_Dg_appendBlanked_23 : decode b_Dg_appendBlanked 23 = .ok (.invokevirtual 38, 3) := by decide +kernel
theorem d_Dg_appendBlanked_26 : decode b_Dg_appendBlanked 26 = .ok (.aload_n 0, 1) := by decide +kernel
theorem d_Dg_appendBlanked_27 : decode b_Dg_appendBlanked 27 = .ok (.getfield 16, 3) := by decide +kernel
theorem d_Dg_appendBlanked_30 : decode b_Dg_appendBlanked 30 = .ok (.getfield 46, 3) := by decide +kernel
theorem d_Dg_appendBlanked_33 : decode b_Dg_appendBlanked 33 = .ok (.iload_n 3, 1) := by decide +kernel
theorem d_Dg_appendBlanked_34 : decode b_Dg_appendBlanked 34 = .ok (.iload_n 3, 1) := by decide +kernel
theorem d_Dg_appendBlanked_35 : decode b_Dg_appendBlanked 35 = .ok (.bipush 16, 2) := by decide +kernel
theorem d_Dg_appendBlanked_37 : decode b_Dg_appendBlanked 37 = .ok (.iadd, 1) := by decide +kernel
theorem d_Dg_appendBlanked_38 : decode b_Dg_appendBlanked 38 = .ok (.iconst 0, 1) := by decide +kernel
theorem d_Dg_appendBlanked_39 : decode b_Dg_appendBlanked 39 = .ok (.invokestatic 59, 3) := by decide +kernel
theorem d_Dg_appendBlanked_42 : decode b_Dg_appendBlanked 42 = .ok (.return_, 1) := by decide +kernel
theorem d_Dg_ofProof_0 : decode b_Dg_ofProof 0 = .ok (.aload_n 0, 1) := by decide +kernel
theorem d_Dg_ofProof_1 : decode b_Dg_ofProof 1 = .ok (.aload_n 1, 1) := by decide +kernel
theorem d_Dg_ofProof_2 : decode b_Dg_ofProof 2 = .ok (.bipush 54, 2) := by decide +kernel
theorem d_Dg_ofProof_4 : decode b_Dg_ofProof 4 = .ok (.invokevirtual 27, 3) := by decide +kernel
theorem d_Dg_ofProof_7 : decode b_Dg_ofProof 7 = .ok (.aload_n 0, 1) := by decide +kernel
theorem d_Dg_ofProof_8 : decode b_Dg_ofProof 8 = .ok (.aload_n 2, 1) := by decide +kernel
theorem d_Dg_ofProof_9 : decode b_Dg_ofProof 9 = .ok (.iload_n 3, 1) := by decide +kernel
theorem d_Dg_ofProof_10 : decode b_Dg_ofProof 10 = .ok (.invokevirtual 31, 3) := by decide +kernel
theorem d_Dg_ofProof_13 : decode b_Dg_ofProof 13 = .ok (.aload_n 0, 1) := by decide +kernel
theorem d_Dg_ofProof_14 : decode b_Dg_ofProof 14 = .ok (.invokevirtual 34, 3) := by decide +kernel
theorem d_Dg_ofProof_17 : decode b_Dg_ofProof 17 = .ok (.pop, 1) := by decide +kernel
theorem d_Dg_ofProof_18 : decode b_Dg_ofProof 18 = .ok (.aload_n 0, 1) := by decide +kernel
theorem d_Dg_ofProof_19 : decode b_Dg_ofProof 19 = .ok (.aload_n 1, 1) := by decide +kernel
theorem d_Dg_ofProof_20 : decode b_Dg_ofProof 20 = .ok (.bipush 92, 2) := by decide +kernel
theorem d_Dg_ofProof_22 : decode b_Dg_ofProof 22 = .ok (.invokevirtual 27, 3) := by decide +kernel
theorem d_Dg_ofProof_25 : decode b_Dg_ofProof 25 = .ok (.aload_n 0, 1) := by decide +kernel
theorem d_Dg_ofProof_26 : decode b_Dg_ofProof 26 = .ok (.getfield 16, 3) := by decide +kernel
theorem d_Dg_ofProof_29 : decode b_Dg_ofProof 29 = .ok (.aload_n 0, 1) := by decide +kernel
theorem d_Dg_ofProof_30 : decode b_Dg_ofProof 30 = .ok (.getfield 24, 3) := by decide +kernel
theorem d_Dg_ofProof_33 : decode b_Dg_ofProof 33 = .ok (.iconst 0, 1) := by decide +kernel
theorem d_Dg_ofProof_34 : decode b_Dg_ofProof 34 = .ok (.bipush 16, 2) := by decide +kernel
theorem d_Dg_ofProof_36 : decode b_Dg_ofProof 36 = .ok (.invokevirtual 38, 3) := by decide +kernel
theorem d_Dg_ofProof_39 : decode b_Dg_ofProof 39 = .ok (.aload_n 0, 1) := by decide +kernel
theorem d_Dg_ofProof_40 : decode b_Dg_ofProof 40 = .ok (.invokevirtual 34, 3) := by decide +kernel
theorem d_Dg_ofProof_43 : decode b_Dg_ofProof 43 = .ok (.areturn, 1) := by decide +kernel
theorem d_Dg_ofSeal_0 : decode b_Dg_ofSeal 0 = .ok (.aload_n 0, 1) := by decide +kernel
theorem d_Dg_ofSeal_1 : decode b_Dg_ofSeal 1 = .ok (.getfield 16, 3) := by decide +kernel
theorem d_Dg_ofSeal_4 : decode b_Dg_ofSeal 4 = .ok (.iconst 0, 1) := by decide +kernel
theorem d_Dg_ofSeal_5 : decode b_Dg_ofSeal 5 = .ok (.putfield 42, 3) := by decide +kernel
theorem d_Dg_ofSeal_8 : decode b_Dg_ofSeal 8 = .ok (.aload_n 0, 1) := by decide +kernel
theorem d_Dg_ofSeal_9 : decode b_Dg_ofSeal 9 = .ok (.aload_n 2, 1) := by decide +kernel
theorem d_Dg_ofSeal_10 : decode b_Dg_ofSeal 10 = .ok (.iconst 4, 1) := by decide +kernel
theorem d_Dg_ofSeal_11 : decode b_Dg_ofSeal 11 = .ok (.invokevirtual 31, 3) := by decide +kernel
theorem d_Dg_ofSeal_14 : decode b_Dg_ofSeal 14 = .ok (.aload_n 0, 1) := by decide +kernel
theorem d_Dg_ofSeal_15 : decode b_Dg_ofSeal 15 = .ok (.getfield 16, 3) := by decide +kernel
theorem d_Dg_ofSeal_18 : decode b_Dg_ofSeal 18 = .ok (.aload_n 1, 1) := by decide +kernel
theorem d_Dg_ofSeal_19 : decode b_Dg_ofSeal 19 = .ok (.getfield 46, 3) := by decide +kernel
theorem d_Dg_ofSeal_22 : decode b_Dg_ofSeal 22 = .ok (.iconst 0, 1) := by decide +kernel
theorem d_Dg_ofSeal_23 : decode b_Dg_ofSeal 23 = .ok (.aload_n 1, 1) := by decide +kernel
theorem d_Dg_ofSeal_24 : decode b_Dg_ofSeal 24 = .ok (.getfield 42, 3) := by decide +kernel
theorem d_Dg_ofSeal_27 : decode b_Dg_ofSeal 27 = .ok (.invokevirtual 38, 3) := by decide +kernel
theorem d_Dg_ofSeal_30 : decode b_Dg_ofSeal 30 = .ok (.aload_n 0, 1) := by decide +kernel
theorem d_Dg_ofSeal_31 : decode b_Dg_ofSeal 31 = .ok (.invokevirtual 34, 3) := by decide +kernel
theorem d_Dg_ofSeal_34 : decode b_Dg_ofSeal 34 = .ok (.areturn, 1) := by decide +kernel
theorem d_Dg_ofMask_0 : decode b_Dg_ofMask 0 = .ok (.aload_n 0, 1) := by decide +kernel
theorem d_Dg_ofMask_1 : decode b_Dg_ofMask 1 = .ok (.getfield 16, 3) := by decide +kernel
theorem d_Dg_ofMask_4 : decode b_Dg_ofMask 4 = .ok (.aload_n 1, 1) := by decide +kernel
theorem d_Dg_ofMask_5 : decode b_Dg_ofMask 5 = .ok (.getfield 46, 3) := by decide +kernel
theorem d_Dg_ofMask_8 : decode b_Dg_ofMask 8 = .ok (.iconst 0, 1) := by decide +kernel
theorem d_Dg_ofMask_9 : decode b_Dg_ofMask 9 = .ok (.aload_n 1, 1) := by decide +kernel
theorem d_Dg_ofMask_10 : decode b_Dg_ofMask 10 = .ok (.getfield 42, 3) := by decide +kernel
theorem d_Dg_ofMask_13 : decode b_Dg_ofMask 13 = .ok (.invokevirtual 49, 3) := by decide +kernel
theorem d_Dg_ofMask_16 : decode b_Dg_ofMask 16 = .ok (.aload_n 0, 1) := by decide +kernel
theorem d_Dg_ofMask_17 : decode b_Dg_ofMask 17 = .ok (.getfield 16, 3) := by decide +kernel
theorem d_Dg_ofMask_20 : decode b_Dg_ofMask 20 = .ok (.aload_n 2, 1) := by decide +kernel
theorem d_Dg_ofMask_21 : decode b_Dg_ofMask 21 = .ok (.getfield 46, 3) := by decide +kernel
theorem d_Dg_ofMask_24 : decode b_Dg_ofMask 24 = .ok (.iload 4, 2) := by decide +kernel
theorem d_Dg_ofMask_40 : decode b_Dg_ofMask 40 = .ok (.bipush 16, 2) := by decide +kernel
theorem d_Dg_ofMask_42 : decode b_Dg_ofMask 42 = .ok (.invokevirtual 38, 3) := by decide +kernel
theorem d_Dg_ofMask_45 : decode b_Dg_ofMask 45 = .ok (.aload_n 0, 1) := by decide +kernel
theorem d_Dg_ofMask_46 : decode b_Dg_ofMask 46 = .ok (.invokevirtual 34, 3) := by decide +kernel
theorem d_Dg_ofMask_49 : decode b_Dg_ofMask 49 = .ok (.areturn, 1) := by decide +kernel
theorem d_Dg_ofMask_26 : decode b_Dg_ofMask 26 = .ok (.ifCond .ne 7, 3) := by decide +kernel
theorem d_Dg_ofMask_29 : decode b_Dg_ofMask 29 = .ok (.iconst 4, 1) := by decide +kernel
theorem d_Dg_ofMask_30 : decode b_Dg_ofMask 30 = .ok (.goto 10, 3) := by decide +kernel
theorem d_Dg_ofMask_33 : decode b_Dg_ofMask 33 = .ok (.iload_n 3, 1) := by decide +kernel
theorem d_Dg_ofMask_34 : decode b_Dg_ofMask 34 = .ok (.iload 4, 2) := by decide +kernel
theorem d_Dg_ofMask_36 : decode b_Dg_ofMask 36 = .ok (.iadd, 1) := by decide +kernel
theorem d_Dg_ofMask_37 : decode b_Dg_ofMask 37 = .ok (.bipush 16, 2) := by decide +kernel
theorem d_Dg_ofMask_39 : decode b_Dg_ofMask 39 = .ok (.isub, 1) := by decide +kernel
theorem d_Dg_ofAnswer_0 : decode b_Dg_ofAnswer 0 = .ok (.aload_n 0, 1) := by decide +kernel
theorem d_Dg_ofAnswer_1 : decode b_Dg_ofAnswer 1 = .ok (.getfield 16, 3) := by decide +kernel
theorem d_Dg_ofAnswer_4 : decode b_Dg_ofAnswer 4 = .ok (.aload_n 2, 1) := by decide +kernel
theorem d_Dg_ofAnswer_5 : decode b_Dg_ofAnswer 5 = .ok (.getfield 46, 3) := by decide +kernel
theorem d_Dg_ofAnswer_8 : decode b_Dg_ofAnswer 8 = .ok (.iconst 0, 1) := by decide +kernel
theorem d_Dg_ofAnswer_9 : decode b_Dg_ofAnswer 9 = .ok (.aload_n 2, 1) := by decide +kernel
theorem d_Dg_ofAnswer_10 : decode b_Dg_ofAnswer 10 = .ok (.getfield 42, 3) := by decide +kernel
theorem d_Dg_ofAnswer_13 : decode b_Dg_ofAnswer 13 = .ok (.invokevirtual 49, 3) := by decide +kernel
theorem d_Dg_ofAnswer_16 : decode b_Dg_ofAnswer 16 = .ok (.aload_n 0, 1) := by decide +kernel
theorem d_Dg_ofAnswer_17 : decode b_Dg_ofAnswer 17 = .ok (.getfield 16, 3) := by decide +kernel
theorem d_Dg_ofAnswer_20 : decode b_Dg_ofAnswer 20 = .ok (.aload_n 1, 1) := by decide +kernel
theorem d_Dg_ofAnswer_21 : decode b_Dg_ofAnswer 21 = .ok (.getfield 46, 3) := by decide +kernel
theorem d_Dg_ofAnswer_24 : decode b_Dg_ofAnswer 24 = .ok (.iconst 0, 1) := by decide +kernel
theorem d_Dg_ofAnswer_25 : decode b_Dg_ofAnswer 25 = .ok (.aload_n 1, 1) := by decide +kernel
theorem d_Dg_ofAnswer_26 : decode b_Dg_ofAnswer 26 = .ok (.getfield 42, 3) := by decide +kernel
theorem d_Dg_ofAnswer_29 : decode b_Dg_ofAnswer 29 = .ok (.invokevirtual 38, 3) := by decide +kernel
theorem d_Dg_ofAnswer_32 : decode b_Dg_ofAnswer 32 = .ok (.aload_n 0, 1) := by decide +kernel
theorem d_Dg_ofAnswer_33 : decode b_Dg_ofAnswer 33 = .ok (.invokevirtual 34, 3) := by decide +kernel
theorem d_Dg_ofAnswer_36 : decode b_Dg_ofAnswer 36 = .ok (.areturn, 1) := by decide +kernel
theorem d_Dg_ofReply_0 : decode b_Dg_ofReply 0 = .ok (.aload_n 0, 1) := by decide +kernel
theorem d_Dg_ofReply_1 : decode b_Dg_ofReply 1 = .ok (.getfield 16, 3) := by decide +kernel
theorem d_Dg_ofReply_4 : decode b_Dg_ofReply 4 = .ok (.iconst 0, 1) := by decide +kernel
theorem d_Dg_ofReply_5 : decode b_Dg_ofReply 5 = .ok (.putfield 42, 3) := by decide +kernel
theorem d_Dg_ofReply_8 : decode b_Dg_ofReply 8 = .ok (.aload_n 0, 1) := by decide +kernel
theorem d_Dg_ofReply_9 : decode b_Dg_ofReply 9 = .ok (.getfield 16, 3) := by decide +kernel
theorem d_Dg_ofReply_12 : decode b_Dg_ofReply 12 = .ok (.iload_n 1, 1) := by decide +kernel
theorem d_Dg_ofReply_13 : decode b_Dg_ofReply 13 = .ok (.invokevirtual 52, 3) := by decide +kernel
theorem d_Dg_ofReply_16 : decode b_Dg_ofReply 16 = .ok (.aload_n 0, 1) := by decide +kernel
theorem d_Dg_ofReply_17 : decode b_Dg_ofReply 17 = .ok (.getfield 16, 3) := by decide +kernel
theorem d_Dg_ofReply_20 : decode b_Dg_ofReply 20 = .ok (.aload_n 2, 1) := by decide +kernel
theorem d_Dg_ofReply_21 : decode b_Dg_ofReply 21 = .ok (.getfield 46, 3) := by decide +kernel
theorem d_Dg_ofReply_24 : decode b_Dg_ofReply 24 = .ok (.iconst 0, 1) := by decide +kernel
theorem d_Dg_ofReply_25 : decode b_Dg_ofReply 25 = .ok (.aload_n 2, 1) := by decide +kernel
theorem d_Dg_ofReply_26 : decode b_Dg_ofReply 26 = .ok (.getfield 42, 3) := by decide +kernel
theorem d_Dg_ofReply_29 : decode b_Dg_ofReply 29 = .ok (.invokevirtual 38, 3) := by decide +kernel
theorem d_Dg_ofReply_32 : decode b_Dg_ofReply 32 = .ok (.aload_n 0, 1) := by decide +kernel
theorem d_Dg_ofReply_33 : decode b_Dg_ofReply 33 = .ok (.getfield 16, 3) := by decide +kernel
theorem d_Dg_ofReply_36 : decode b_Dg_ofReply 36 = .ok (.aload_n 3, 1) := by decide +kernel
theorem d_Dg_ofReply_37 : decode b_Dg_ofReply 37 = .ok (.iload 4, 2) := by decide +kernel
theorem d_Dg_ofReply_39 : decode b_Dg_ofReply 39 = .ok (.bipush 16, 2) := by decide +kernel
theorem d_Dg_ofReply_41 : decode b_Dg_ofReply 41 = .ok (.invokevirtual 38, 3) := by decide +kernel
theorem d_Dg_ofReply_44 : decode b_Dg_ofReply 44 = .ok (.aload_n 0, 1) := by decide +kernel
theorem d_Dg_ofReply_45 : decode b_Dg_ofReply 45 = .ok (.invokevirtual 34, 3) := by decide +kernel
theorem d_Dg_ofReply_48 : decode b_Dg_ofReply 48 = .ok (.areturn, 1) := by decide +kernel
set_option maxHeartbeats 4000000 in
set_option maxRecDepth 100000 in
/-- startWithKey -/
theorem c_Dg_key (l : Launch) (dC : Nat → ClassId) (dI : Nat → Nat → Nat) (cT : Nat → ClassId) (sz : Nat) (g0 : Nat) (tx : Nat) (tr : Nat) (wo : Nat) (di : Nat) (va : Int32) (vb : Int32) (vc : Int32) (vd : Int32) (len : Nat) (f : Nat → Int32) (sh : Nat) (sr : Nat) (ns : Nat) (sl : Nat) (fs : Nat → Int32) (x : Int32) (hsl : sl ≤ ns) (hns : ns < 2 ^ 31) : Met l y_Dg_startWithKey (Cond.code y_Dg_startWithKey b_Dg_startWithKey 4 (Option.none : Option Jvm.ClassFile.FieldType) :: BIG) ({ frames := 1, cells := 0, slots := 0, locals := 21 }) (va_Pc [.ref g0, .ref sh, .int x] (fun U => U.heap.size = sz ∧ va_P (dC, dI) vcl [(g0, .inr (3, [.ref tx, .ref wo, .ref di, .int va, .int vb, .int vc, .int vd])), (tx, .inr (1, [.ref tr, .int (nI len)])), (tr, .inl ((cT 0), 1192, .inl f)), (sh, .inr (1, [.ref sr, .int (nI sl)])), (sr, .inl ((cT 0), ns, .inl fs))] U.heap ∧ va_K (dC, dI) vcl (tyL cT) U ∧ va_D (fun _ => True) [(g0, .inr (3, [.ref tx, .ref wo, .ref di, .int va, .int vb, .int vc, .int vd])), (tx, .inr (1, [.ref tr, .int (nI len)])), (tr, .inl ((cT 0), 1192, .inl f)), (sh, .inr (1, [.ref sr, .int (nI sl)])), (sr, .inl ((cT 0), ns, .inl fs))])) (va_Qv (S := (Nat → Int32)) (fun u => match u with | f2 => True) (fun u t => match u with | f2 => va_P (dC, dI) vcl [(g0, .inr (3, [.ref tx, .ref wo, .ref di, .int va, .int vb, .int vc, .int vd])), (tx, .inr (1, [.ref tr, .int (nI 64)])), (tr, .inl ((cT 0), 1192, .inl f2)), (sh, .inr (1, [.ref sr, .int (nI sl)])), (sr, .inl ((cT 0), ns, .inl fs))] t.heap ∧ va_K (dC, dI) vcl (tyL cT) t ∧ va_D (va_A [(g0, .inr (3, [.ref tx, .ref wo, .ref di, .int va, .int vb, .int vc, .int vd])), (tx, .inr (1, [.ref tr, .int (nI len)])), (tr, .inl ((cT 0), 1192, .inl f)), (sh, .inr (1, [.ref sr, .int (nI sl)])), (sr, .inl ((cT 0), ns, .inl fs))] sz) [(g0, .inr (3, [.ref tx, .ref wo, .ref di, .int va, .int vb, .int vc, .int vd])), (tx, .inr (1, [.ref tr, .int (nI 64)])), (tr, .inl ((cT 0), 1192, .inl f2)), (sh, .inr (1, [.ref sr, .int (nI sl)])), (sr, .inl ((cT 0), ns, .inl fs))]) (va_A [(g0, .inr (3, [.ref tx, .ref wo, .ref di, .int va, .int vb, .int vc, .int vd])), (tx, .inr (1, [.ref tr, .int (nI len)])), (tr, .inl ((cT 0), 1192, .inl f)), (sh, .inr (1, [.ref sr, .int (nI sl)])), (sr, .inl ((cT 0), ns, .inl fs))] sz)) 0 0 (va_A [(g0, .inr (3, [.ref tx, .ref wo, .ref di, .int va, .int vb, .int vc, .int vd])), (tx, .inr (1, [.ref tr, .int (nI len)])), (tr, .inl ((cT 0), 1192, .inl f)), (sh, .inr (1, [.ref sr, .int (nI sl)])), (sr, .inl ((cT 0), ns, .inl fs))] sz) := by
  refine Met.ofW (cc := b_Dg_startWithKey) (maxL := 4) (ret := (Option.none : Option Jvm.ClassFile.FieldType)) (by decide) rfl ?_
  intro p e s m args below meth c s₁ B hml hv
  obtain ⟨hargs, hsz, hP, hK, hD0⟩ := hv
  have hx := B.exec
  have hb := B.bytes
  have hr := B.returns
  have hts := atoms_spec (ws := (Cond.code y_Dg_startWithKey b_Dg_startWithKey 4 (Option.none : Option Jvm.ClassFile.FieldType) :: BIG)) B.pre
  have hg : ∀ w ∈ BIG, w.before _ s = true := fun w h => hts w (List.mem_cons_of_mem _ h)
  have hown : s.vm.findClass "DoorServer$Digests" = some m.cls := findClass_of_methodNamed B.named
  have hlocks := B.notSynchronized
  subst hsz
  have hD := hD0.self (sz := s.heap.size)
  generalize hAe : va_A [(g0, .inr (3, [.ref tx, .ref wo, .ref di, .int va, .int vb, .int vc, .int vd])), (tx, .inr (1, [.ref tr, .int (nI len)])), (tr, .inl ((cT 0), 1192, .inl f)), (sh, .inr (1, [.ref sr, .int (nI sl)])), (sr, .inl ((cT 0), ns, .inl fs))] s.heap.size = A at hD ⊢
  have hA : ∀ q : Nat, s.heap.size ≤ q → A q := fun q h => by rw [← hAe]; exact Or.inr h
  have hS : va_S A s.heap s.heap [] := va_S.rf
  have hl := lv_entry ([.ref g0, .ref sh, .int x]) (n := 4) (Nat.le_of_ble_eq_true rfl)
  refine W.eq (g2 := entryFrame m (List.toArray [.ref g0, .ref sh, .int x]) 4) (by rw [hargs]) ?_
  rw [lg_entry_eq]
  generalize (lg_sl ([.ref g0, .ref sh, .int x]) ++ List.replicate (4 - (lg_sl ([.ref g0, .ref sh, .int x])).length) Slot.unset).toArray = ls at hl ⊢
  have hl : lv_has ls 4 [(0, .ref g0), (1, .ref sh), (2, .int x)] := hl
  change W p l e ({ frames := 1, cells := 0, slots := 0, locals := 21 } : Room) s m args below meth c s.heap [] 0 0 _ _
  have hP : va_P (dC, dI) vcl [(g0, .inr (3, [.ref tx, .ref wo, .ref di, .int va, .int vb, .int vc, .int vd])), (tx, .inr (1, [.ref tr, .int (nI len)])), (tr, .inl ((cT 0), 1192, .inl f)), (sh, .inr (1, [.ref sr, .int (nI sl)])), (sr, .inl ((cT 0), ns, .inl fs))] s.heap := hP
  refine lv_aload_n hx hb d_Dg_startWithKey_0 rfl (lv_at hl 0 rfl) ?_
  refine va_get (D := (dC, dI)) (ci := 3) (v := (.ref tx)) (C := R_Dg) (T := F_Dg) (N := 7) hx hb hg in_Dg hown hK hP 0 rfl rfl 0 (by decide) (hg _ k_116) (fun _ h9 => h9) rfl d_Dg_startWithKey_1 ?_
  refine lv_iconst (v := 0) hx hb d_Dg_startWithKey_4 (by decide) ?_
  refine lv_topi (fun x2 e1 => ?_)
  obtain rfl : x2 = nI 0 := by rw [e1]; rfl
  refine va_put (D := (dC, dI)) (ci := 1) (v := (.int (nI 0))) (ty := .int) (C := R_By) (T := F_By) (N := 2) hx hb hg in_By t_By tok_By nm_By hown hK hP hD hS 1 rfl rfl 1 (by decide) (hg _ k_57) (fun _ h9 => h9) rfl (by decide +kernel) rfl rfl (Nat.le_of_ble_eq_true rfl) d_Dg_startWithKey_5 (fun H locs hP hD hS => ?_)
  have hP : va_P (dC, dI) vcl [(g0, .inr (3, [.ref tx, .ref wo, .ref di, .int va, .int vb, .int vc, .int vd])), (tx, .inr (1, [.ref tr, .int (nI 0)])), (tr, .inl ((cT 0), 1192, .inl f)), (sh, .inr (1, [.ref sr, .int (nI sl)])), (sr, .inl ((cT 0), ns, .inl fs))] H := hP
  have hD : va_D A [(g0, .inr (3, [.ref tx, .ref wo, .ref di, .int va, .int vb, .int vc, .int vd])), (tx, .inr (1, [.ref tr, .int (nI 0)])), (tr, .inl ((cT 0), 1192, .inl f)), (sh, .inr (1, [.ref sr, .int (nI sl)])), (sr, .inl ((cT 0), ns, .inl fs))] := hD
  refine lv_iconst (v := 0) hx hb d_Dg_startWithKey_8 (by decide) ?_
  refine lv_istore_n (lv' := [(3, .int 0), (0, .ref g0), (1, .ref sh), (2, .int x)]) hx hb d_Dg_startWithKey_9 rfl hl (by decide) rfl (fun ls hl => ?_)
  have hl := lv_sub hl [0, 1, 2, 3] (show _ = [(3, .int 0), (0, .ref g0), (1, .ref sh), (2, .int x)] from rfl)
  have L3 : ∀ (Q : State → Prop) (exit : ∀ (g : Nat → Int32) (H : Heap) (locs : List Loc) (ls : Array Slot), va_P (dC, dI) vcl [(g0, .inr (3, [.ref tx, .ref wo, .ref di, .int va, .int vb, .int vc, .int vd])), (tx, .inr (1, [.ref tr, .int (nI 64)])), (tr, .inl ((cT 0), 1192, .inl g)), (sh, .inr (1, [.ref sr, .int (nI sl)])), (sr, .inl ((cT 0), ns, .inl fs))] H → va_D A [(g0, .inr (3, [.ref tx, .ref wo, .ref di, .int va, .int vb, .int vc, .int vd])), (tx, .inr (1, [.ref tr, .int (nI 64)])), (tr, .inl ((cT 0), 1192, .inl g)), (sh, .inr (1, [.ref sr, .int (nI sl)])), (sr, .inl ((cT 0), ns, .inl fs))] → va_S A s.heap H locs → lv_has ls 4 [(3, .int (nI 64)), (0, .ref g0), (1, .ref sh), (2, .int x)] → W p l e ({ frames := 1, cells := 0, slots := 0, locals := 21 } : Room) s m args below meth c H locs 0 0 Q (F0 m 49 ls [])) (j8 i : Nat) (g : Nat → Int32) (H : Heap) (locs : List Loc) (ls : Array Slot), i + j8 = 64 → va_P (dC, dI) vcl [(g0, .inr (3, [.ref tx, .ref wo, .ref di, .int va, .int vb, .int vc, .int vd])), (tx, .inr (1, [.ref tr, .int (nI i)])), (tr, .inl ((cT 0), 1192, .inl g)), (sh, .inr (1, [.ref sr, .int (nI sl)])), (sr, .inl ((cT 0), ns, .inl fs))] H → va_D A [(g0, .inr (3, [.ref tx, .ref wo, .ref di, .int va, .int vb, .int vc, .int vd])), (tx, .inr (1, [.ref tr, .int (nI i)])), (tr, .inl ((cT 0), 1192, .inl g)), (sh, .inr (1, [.ref sr, .int (nI sl)])), (sr, .inl ((cT 0), ns, .inl fs))] → va_S A s.heap H locs → lv_has ls 4 [(3, .int (nI i)), (0, .ref g0), (1, .ref sh), (2, .int x)] → W p l e ({ frames := 1, cells := 0, slots := 0, locals := 21 } : Room) s m args below meth c H locs 0 0 Q (F0 m 10 ls []) := by
    intro Q exit j8
    induction j8 with
    | zero => 
      intro i g H locs ls hij  hP hD hS hl
      have hij : 64 = i := by omega
      refine lv_iload_n hx hb d_Dg_startWithKey_10 rfl (lv_at hl 0 rfl) ?_
      refine lv_bipush (v := 64) hx hb d_Dg_startWithKey_11 (by decide) ?_
      refine lv_topi (fun x5 e4 => ?_)
      obtain rfl : x5 = nI 64 := by rw [e4]; rfl
      refine lv_icmp_ge (tgt := 49) hx hb d_Dg_startWithKey_13 (by decide) (fun hc6 => ?_) (fun hn9 => absurd (nI_le (by omega) (by omega)) hn9)
      subst hij
      exact exit g _ _ _  hP hD hS hl
    | succ j8 ih => 
      intro i g H locs ls hij  hP hD hS hl
      have hlt : i < 64 := by omega
      refine lv_iload_n hx hb d_Dg_startWithKey_10 rfl (lv_at hl 0 rfl) ?_
      refine lv_bipush (v := 64) hx hb d_Dg_startWithKey_11 (by decide) ?_
      refine lv_topi (fun x8 e7 => ?_)
      obtain rfl : x8 = nI 64 := by rw [e7]; rfl
      refine lv_icmp_ge (tgt := 49) hx hb d_Dg_startWithKey_13 (by decide) (fun hn9 => absurd hn9 (nI_ge hlt (by omega))) (fun hc9 => ?_)
      refine lv_aload_n hx hb d_Dg_startWithKey_16 rfl (lv_at hl 1 rfl) ?_
      refine va_get (D := (dC, dI)) (ci := 3) (v := (.ref tx)) (C := R_Dg) (T := F_Dg) (N := 7) hx hb hg in_Dg hown hK hP 0 rfl rfl 0 (by decide) (hg _ k_116) (fun _ h9 => h9) rfl d_Dg_startWithKey_17 ?_
      refine lv_iload_n hx hb d_Dg_startWithKey_20 rfl (lv_at hl 0 rfl) ?_
      refine lv_aload_n hx hb d_Dg_startWithKey_21 rfl (lv_at hl 2 rfl) ?_
      refine va_get (D := (dC, dI)) (ci := 1) (v := (.int (nI sl))) (C := R_By) (T := F_By) (N := 2) hx hb hg in_By hown hK hP 3 rfl rfl 1 (by decide) (hg _ k_57) (fun _ h9 => h9) rfl d_Dg_startWithKey_22 ?_
      have K10 : ∀ (z : Int32), W p l e ({ frames := 1, cells := 0, slots := 0, locals := 21 } : Room) s m args below meth c H locs 0 0 Q (F0 m 38 ls [.int z, .ref tx]) := by
        intro z
        refine lv_iload_n hx hb d_Dg_startWithKey_38 rfl (lv_at hl 3 rfl) ?_
        refine lv_ixor hx hb d_Dg_startWithKey_39 ?_
        have hPc := hP.sub (ws' := [(tx, .inr (1, [.ref tr, .int (nI i)])), (tr, .inl ((cT 0), 1192, .inl g))]) [1, 2] rfl
        have hDc := hD.sub (ws' := [(tx, .inr (1, [.ref tr, .int (nI i)])), (tr, .inl ((cT 0), 1192, .inl g))]) [1, 2] (by decide) rfl
        have hFc := va_free (wc := [(tx, .inr (1, [.ref tr, .int (nI i)])), (tr, .inl ((cT 0), 1192, .inl g))]) hD hS hA [1, 2] rfl
        refine va_callv (va_runV (C := "DoorServer$Bytes") (As := [.int (z ^^^ x)]) (rest := []) ⟨hx, hb, hml, hown, hg⟩ (c_By_append l dC dI cT H.size tx tr 1192 i g (z ^^^ x) (by omega) (by decide)) (cwV 1 hg (gI (List.forall_mem_append.mpr ⟨List.forall_mem_cons.mpr ⟨k_632, List.forall_mem_cons.mpr ⟨k_76, List.forall_mem_cons.mpr ⟨k_1420, List.forall_mem_cons.mpr ⟨k_2, fun _ h => absurd h List.not_mem_nil⟩⟩⟩⟩, List.forall_mem_cons.mpr ⟨k_77, fun _ h => h⟩⟩)) rfl rfl rfl (by decide +kernel) ⟨Nat.le_of_ble_eq_true rfl, Nat.le_of_ble_eq_true rfl⟩) ⟨fun a U g mk q => by obtain ⟨q0, q1, qP, qK, qD⟩ := q; exact ⟨q0, q1, qP, va_K.moved (u := U) (U := U.calling g mk a) (Vm.Alike.refl U.vm) qK, qD⟩, va_recv (q0 := 1) (ci := 1) hK hP rfl rfl, fun U hU hW => ⟨rfl, by rw [hU], by rw [hU]; exact hPc, va_K.moved hW.alike hK, hDc.weaken (fun _ _ _ _ => trivial)⟩⟩ rfl rfl hl.1 rfl (lv_room (Nat.le_of_ble_eq_true rfl)) d_Dg_startWithKey_40 ⟨Nat.le_of_ble_eq_true rfl, Nat.le_of_ble_eq_true rfl⟩) hS (fun q _ h => hFc q h) hFc (fun u t H1 locs ht hvm hw hB hz1 hk1 hS => ?_)
        try dsimp only at hw hB
        obtain ⟨hP1, hK1, hD1⟩ := hB
        rw [ht] at hP1
        obtain ⟨hP, hD⟩ := va_join (wr := [(g0, .inr (3, [.ref tx, .ref wo, .ref di, .int va, .int vb, .int vc, .int vd])), (sh, .inr (1, [.ref sr, .int (nI sl)])), (sr, .inl ((cT 0), ns, .inl fs))]) (w1 := [(tx, .inr (1, [.ref tr, .int (nI (i + 1))])), (tr, .inl ((cT 0), 1192, .inl (upd g i ((z ^^^ x) &&& 255))))]) hP hD [1, 2] [0, 3, 4] rfl rfl (by decide) (by decide) hk1 hFc hP1 hD1
        have hw11 := hw
        clear hPc hDc hFc hz1 hk1 hP1 hK1 hD1
        generalize H1 = H at hP hS ⊢
        have hP : va_P (dC, dI) vcl [(g0, .inr (3, [.ref tx, .ref wo, .ref di, .int va, .int vb, .int vc, .int vd])), (sh, .inr (1, [.ref sr, .int (nI sl)])), (sr, .inl ((cT 0), ns, .inl fs)), (tx, .inr (1, [.ref tr, .int (nI (i + 1))])), (tr, .inl ((cT 0), 1192, .inl (upd g i ((z ^^^ x) &&& 255))))] H := hP
        have hD : va_D A [(g0, .inr (3, [.ref tx, .ref wo, .ref di, .int va, .int vb, .int vc, .int vd])), (sh, .inr (1, [.ref sr, .int (nI sl)])), (sr, .inl ((cT 0), ns, .inl fs)), (tx, .inr (1, [.ref tr, .int (nI (i + 1))])), (tr, .inl ((cT 0), 1192, .inl (upd g i ((z ^^^ x) &&& 255))))] := hD
        refine lv_iinc (k := 0) (v := nI (i + 1)) (lv' := [(3, .int (nI (i + 1))), (0, .ref g0), (1, .ref sh), (2, .int x)]) hx hb d_Dg_startWithKey_43 hl rfl (nI_1 i) (by decide) rfl (fun ls hl => ?_)
        refine lv_goto (tgt := 10) hx hb d_Dg_startWithKey_46 (by decide) ?_
        have hP := hP.sub (ws' := [(g0, .inr (3, [.ref tx, .ref wo, .ref di, .int va, .int vb, .int vc, .int vd])), (tx, .inr (1, [.ref tr, .int (nI (i + 1))])), (tr, .inl ((cT 0), 1192, .inl (upd g i ((z ^^^ x) &&& 255)))), (sh, .inr (1, [.ref sr, .int (nI sl)])), (sr, .inl ((cT 0), ns, .inl fs))]) [0, 3, 4, 1, 2] rfl
        have hD := hD.sub (ws' := [(g0, .inr (3, [.ref tx, .ref wo, .ref di, .int va, .int vb, .int vc, .int vd])), (tx, .inr (1, [.ref tr, .int (nI (i + 1))])), (tr, .inl ((cT 0), 1192, .inl (upd g i ((z ^^^ x) &&& 255)))), (sh, .inr (1, [.ref sr, .int (nI sl)])), (sr, .inl ((cT 0), ns, .inl fs))]) [0, 3, 4, 1, 2] (by decide) rfl
        exact ih (i + 1) _ _ _ _ (by omega) hP hD hS hl
      refine lv_icmp_ge (tgt := 37) hx hb d_Dg_startWithKey_25 (by decide) (fun hc12 => ?_) (fun hc12 => ?_)
      · refine lv_iconst (v := 0) hx hb d_Dg_startWithKey_37 (by decide) ?_
        exact K10 _
      · refine lv_aload_n hx hb d_Dg_startWithKey_28 rfl (lv_at hl 2 rfl) ?_
        refine va_get (D := (dC, dI)) (ci := 1) (v := (.ref sr)) (C := R_By) (T := F_By) (N := 2) hx hb hg in_By hown hK hP 3 rfl rfl 0 (by decide) (hg _ k_44) (fun _ h9 => h9) rfl d_Dg_startWithKey_29 ?_
        refine lv_iload_n hx hb d_Dg_startWithKey_32 rfl (lv_at hl 0 rfl) ?_
        refine va_iald hx hb hK hP 4 0 rfl rfl (i := (nI i)) (vp_in_nI (show i < ns from Nat.lt_of_lt_of_le (Nat.lt_of_not_le fun h9 => hc12 (nI_le h9 (by omega))) hsl) hns) d_Dg_startWithKey_33 ?_
        refine lv_goto (tgt := 38) hx hb d_Dg_startWithKey_34 (by decide) ?_
        exact K10 _
  refine L3 _ (fun g H locs ls  hP hD hS hl => ?_) (64 - 0) 0 f H _ ls (by omega)  hP hD hS hl
  have hP9 := hP.sub (ws' := [(g0, .inr (3, [.ref tx, .ref wo, .ref di, .int va, .int vb, .int vc, .int vd])), (tx, .inr (1, [.ref tr, .int (nI 64)])), (tr, .inl ((cT 0), 1192, .inl g)), (sh, .inr (1, [.ref sr, .int (nI sl)])), (sr, .inl ((cT 0), ns, .inl fs))]) [0, 1, 2, 3, 4] rfl
  have hD9 := hD.sub (ws' := [(g0, .inr (3, [.ref tx, .ref wo, .ref di, .int va, .int vb, .int vc, .int vd])), (tx, .inr (1, [.ref tr, .int (nI 64)])), (tr, .inl ((cT 0), 1192, .inl g)), (sh, .inr (1, [.ref sr, .int (nI sl)])), (sr, .inl ((cT 0), ns, .inl fs))]) [0, 1, 2, 3, 4] (by decide) rfl
  exact W.vret hx hb hr (fun t ht hW => ⟨⟨g, rfl, trivial, by rw [ht]; exact hP9, va_K.moved hW.alike hK, hD9⟩, hS.F ht⟩) hS.2.2 d_Dg_startWithKey_49
set_option maxHeartbeats 4000000 in
set_option maxRecDepth 100000 in
/-- appendBlanked -/
theorem c_Dg_blank (l : Launch) (dC : Nat → ClassId) (dI : Nat → Nat → Nat) (cT : Nat → ClassId) (sz : Nat) (g0 : Nat) (tx : Nat) (tr : Nat) (wo : Nat) (di : Nat) (va : Int32) (vb : Int32) (vc : Int32) (vd : Int32) (len : Nat) (f : Nat → Int32) (ph : Nat) (pr : Nat) (np : Nat) (pl : Nat) (fp : Nat → Int32) (at_ : Nat) (hpl : pl ≤ np) (hnp : np < 2 ^ 31) (hlen : len + pl ≤ 1192) (hat : at_ + 16 ≤ pl) : Met l y_Dg_appendBlanked (Cond.code y_Dg_appendBlanked b_Dg_appendBlanked 4 (Option.none : Option Jvm.ClassFile.FieldType) :: BIG) ({ frames := 2, cells := 0, slots := 0, locals := 83 }) (va_Pc [.ref g0, .ref ph, .int (nI at_)] (fun U => U.heap.size = sz ∧ va_P (dC, dI) vcl [(g0, .inr (3, [.ref tx, .ref wo, .ref di, .int va, .int vb, .int vc, .int vd])), (tx, .inr (1, [.ref tr, .int (nI len)])), (tr, .inl ((cT 0), 1192, .inl f)), (ph, .inr (2, [.ref pr, .int (nI pl)])), (pr, .inl ((cT 0), np, .inl fp))] U.heap ∧ va_K (dC, dI) vcl (tyL cT) U ∧ va_D (fun _ => True) [(g0, .inr (3, [.ref tx, .ref wo, .ref di, .int va, .int vb, .int vc, .int vd])), (tx, .inr (1, [.ref tr, .int (nI len)])), (tr, .inl ((cT 0), 1192, .inl f)), (ph, .inr (2, [.ref pr, .int (nI pl)])), (pr, .inl ((cT 0), np, .inl fp))])) (va_Qv (S := (Nat → Int32)) (fun u => match u with | f2 => True) (fun u t => match u with | f2 => va_P (dC, dI) vcl [(g0, .inr (3, [.ref tx, .ref wo, .ref di, .int va, .int vb, .int vc, .int vd])), (tx, .inr (1, [.ref tr, .int (nI (len + pl))])), (tr, .inl ((cT 0), 1192, .inl f2)), (ph, .inr (2, [.ref pr, .int (nI pl)])), (pr, .inl ((cT 0), np, .inl fp))] t.heap ∧ va_K (dC, dI) vcl (tyL cT) t ∧ va_D (va_A [(g0, .inr (3, [.ref tx, .ref wo, .ref di, .int va, .int vb, .int vc, .int vd])), (tx, .inr (1, [.ref tr, .int (nI len)])), (tr, .inl ((cT 0), 1192, .inl f)), (ph, .inr (2, [.ref pr, .int (nI pl)])), (pr, .inl ((cT 0), np, .inl fp))] sz) [(g0, .inr (3, [.ref tx, .ref wo, .ref di, .int va, .int vb, .int vc, .int vd])), (tx, .inr (1, [.ref tr, .int (nI (len + pl))])), (tr, .inl ((cT 0), 1192, .inl f2)), (ph, .inr (2, [.ref pr, .int (nI pl)])), (pr, .inl ((cT 0), np, .inl fp))]) (va_A [(g0, .inr (3, [.ref tx, .ref wo, .ref di, .int va, .int vb, .int vc, .int vd])), (tx, .inr (1, [.ref tr, .int (nI len)])), (tr, .inl ((cT 0), 1192, .inl f)), (ph, .inr (2, [.ref pr, .int (nI pl)])), (pr, .inl ((cT 0), np, .inl fp))] sz)) 0 0 (va_A [(g0, .inr (3, [.ref tx, .ref wo, .ref di, .int va, .int vb, .int vc, .int vd])), (tx, .inr (1, [.ref tr, .int (nI len)])), (tr, .inl ((cT 0), 1192, .inl f)), (ph, .inr (2, [.ref pr, .int (nI pl)])), (pr, .inl ((cT 0), np, .inl fp))] sz) := by
  refine Met.ofW (cc := b_Dg_appendBlanked) (maxL := 4) (ret := (Option.none : Option Jvm.ClassFile.FieldType)) (by decide) rfl ?_
  intro p e s m args below meth c s₁ B hml hv
  obtain ⟨hargs, hsz, hP, hK, hD0⟩ := hv
  have hx := B.exec
  have hb := B.bytes
  have hr := B.returns
  have hts := atoms_spec (ws := (Cond.code y_Dg_appendBlanked b_Dg_appendBlanked 4 (Option.none : Option Jvm.ClassFile.FieldType) :: BIG)) B.pre
  have hg : ∀ w ∈ BIG, w.before _ s = true := fun w h => hts w (List.mem_cons_of_mem _ h)
  have hown : s.vm.findClass "DoorServer$Digests" = some m.cls := findClass_of_methodNamed B.named
  have hlocks := B.notSynchronized
  subst hsz
  have hD := hD0.self (sz := s.heap.size)
  generalize hAe : va_A [(g0, .inr (3, [.ref tx, .ref wo, .ref di, .int va, .int vb, .int vc, .int vd])), (tx, .inr (1, [.ref tr, .int (nI len)])), (tr, .inl ((cT 0), 1192, .inl f)), (ph, .inr (2, [.ref pr, .int (nI pl)])), (pr, .inl ((cT 0), np, .inl fp))] s.heap.size = A at hD ⊢
  have hA : ∀ q : Nat, s.heap.size ≤ q → A q := fun q h => by rw [← hAe]; exact Or.inr h
  have hS : va_S A s.heap s.heap [] := va_S.rf
  have hl := lv_entry ([.ref g0, .ref ph, .int (nI at_)]) (n := 4) (Nat.le_of_ble_eq_true rfl)
  refine W.eq (g2 := entryFrame m (List.toArray [.ref g0, .ref ph, .int (nI at_)]) 4) (by rw [hargs]) ?_
  rw [lg_entry_eq]
  generalize (lg_sl ([.ref g0, .ref ph, .int (nI at_)]) ++ List.replicate (4 - (lg_sl ([.ref g0, .ref ph, .int (nI at_)])).length) Slot.unset).toArray = ls at hl ⊢
  have hl : lv_has ls 4 [(0, .ref g0), (1, .ref ph), (2, .int (nI at_))] := hl
  change W p l e ({ frames := 2, cells := 0, slots := 0, locals := 83 } : Room) s m args below meth c s.heap [] 0 0 _ _
  have hP : va_P (dC, dI) vcl [(g0, .inr (3, [.ref tx, .ref wo, .ref di, .int va, .int vb, .int vc, .int vd])), (tx, .inr (1, [.ref tr, .int (nI len)])), (tr, .inl ((cT 0), 1192, .inl f)), (ph, .inr (2, [.ref pr, .int (nI pl)])), (pr, .inl ((cT 0), np, .inl fp))] s.heap := hP
  refine lv_aload_n hx hb d_Dg_appendBlanked_0 rfl (lv_at hl 0 rfl) ?_
  refine va_get (D := (dC, dI)) (ci := 3) (v := (.ref tx)) (C := R_Dg) (T := F_Dg) (N := 7) hx hb hg in_Dg hown hK hP 0 rfl rfl 0 (by decide) (hg _ k_116) (fun _ h9 => h9) rfl d_Dg_appendBlanked_1 ?_
  refine va_get (D := (dC, dI)) (ci := 1) (v := (.int (nI len))) (C := R_By) (T := F_By) (N := 2) hx hb hg in_By hown hK hP 1 rfl rfl 1 (by decide) (hg _ k_57) (fun _ h9 => h9) rfl d_Dg_appendBlanked_4 ?_
  refine lv_iload_n hx hb d_Dg_appendBlanked_7 rfl (lv_at hl 2 rfl) ?_
  refine lv_iadd hx hb d_Dg_appendBlanked_8 ?_
  refine lv_topi (fun x14 e13 => ?_)
  obtain rfl : x14 = nI (len + at_) := by rw [e13]; exact nI_add _ _
  refine lv_istore_n (lv' := [(3, .int (nI (len + at_))), (0, .ref g0), (1, .ref ph), (2, .int (nI at_))]) hx hb d_Dg_appendBlanked_9 rfl hl (by decide) rfl (fun ls hl => ?_)
  refine lv_aload_n hx hb d_Dg_appendBlanked_10 rfl (lv_at hl 1 rfl) ?_
  refine va_get (D := (dC, dI)) (ci := 3) (v := (.ref tx)) (C := R_Dg) (T := F_Dg) (N := 7) hx hb hg in_Dg hown hK hP 0 rfl rfl 0 (by decide) (hg _ k_116) (fun _ h9 => h9) rfl d_Dg_appendBlanked_11 ?_
  refine lv_aload_n hx hb d_Dg_appendBlanked_14 rfl (lv_at hl 2 rfl) ?_
  refine va_get (D := (dC, dI)) (ci := 2) (v := (.ref pr)) (C := R_Pk) (T := F_Pk) (N := 2) hx hb hg in_Pk hown hK hP 3 rfl rfl 0 (by decide) (hg _ k_44) (fun _ h9 => h9) rfl d_Dg_appendBlanked_15 ?_
  refine lv_iconst (v := 0) hx hb d_Dg_appendBlanked_18 (by decide) ?_
  refine lv_topi (fun x16 e15 => ?_)
  obtain rfl : x16 = nI 0 := by rw [e15]; rfl
  refine lv_aload_n hx hb d_Dg_appendBlanked_19 rfl (lv_at hl 2 rfl) ?_
  refine va_get (D := (dC, dI)) (ci := 2) (v := (.int (nI pl))) (C := R_Pk) (T := F_Pk) (N := 2) hx hb hg in_Pk hown hK hP 3 rfl rfl 1 (by decide) (hg _ k_57) (fun _ h9 => h9) rfl d_Dg_appendBlanked_20 ?_
  have hPc := hP.sub (ws' := [(tx, .inr (1, [.ref tr, .int (nI len)])), (tr, .inl ((cT 0), 1192, .inl f)), (pr, .inl ((cT 0), np, .inl fp))]) [1, 2, 4] rfl
  have hDc := hD.sub (ws' := [(tx, .inr (1, [.ref tr, .int (nI len)])), (tr, .inl ((cT 0), 1192, .inl f)), (pr, .inl ((cT 0), np, .inl fp))]) [1, 2, 4] (by decide) rfl
  have hFc := va_free (wc := [(tx, .inr (1, [.ref tr, .int (nI len)])), (tr, .inl ((cT 0), 1192, .inl f)), (pr, .inl ((cT 0), np, .inl fp))]) hD hS hA [1, 2, 4] rfl
  refine va_callv (va_runV (C := "DoorServer$Bytes") (As := [.ref pr, .int (nI 0), .int (nI pl)]) (rest := []) ⟨hx, hb, hml, hown, hg⟩ (c_By_row l dC dI cT s.heap.size tx tr 1192 len f pr np fp 0 pl (by omega) (by decide) (by omega) (hnp)) (cwV 3 hg (gI (List.forall_mem_append.mpr ⟨List.forall_mem_cons.mpr ⟨k_582, List.forall_mem_cons.mpr ⟨k_574, List.forall_mem_cons.mpr ⟨k_575, List.forall_mem_cons.mpr ⟨k_2, fun _ h => absurd h List.not_mem_nil⟩⟩⟩⟩, List.forall_mem_cons.mpr ⟨k_578, fun _ h => h⟩⟩)) rfl rfl rfl (by decide +kernel) ⟨Nat.le_of_ble_eq_true rfl, Nat.le_of_ble_eq_true rfl⟩) ⟨fun a U g mk q => by obtain ⟨q0, q1, qP, qK, qD⟩ := q; exact ⟨q0, q1, qP, va_K.moved (u := U) (U := U.calling g mk a) (Vm.Alike.refl U.vm) qK, qD⟩, va_recv (q0 := 1) (ci := 1) hK hP rfl rfl, fun U hU hW => ⟨rfl, by rw [hU], by rw [hU]; exact hPc, va_K.moved hW.alike hK, hDc.weaken (fun _ _ _ _ => trivial)⟩⟩ rfl rfl hl.1 rfl (lv_room (Nat.le_of_ble_eq_true rfl)) d_Dg_appendBlanked_23 ⟨Nat.le_of_ble_eq_true rfl, Nat.le_of_ble_eq_true rfl⟩) hS (fun q _ h => hFc q h) hFc (fun u t H1 locs ht hvm hw hB hz1 hk1 hS => ?_)
  obtain ⟨g_17, rfl⟩ : ∃ z, z = u := ⟨_, rfl⟩
  try dsimp only at hw hB
  obtain ⟨hP1, hK1, hD1⟩ := hB
  rw [ht] at hP1
  obtain ⟨hP, hD⟩ := va_join (wr := [(g0, .inr (3, [.ref tx, .ref wo, .ref di, .int va, .int vb, .int vc, .int vd])), (ph, .inr (2, [.ref pr, .int (nI pl)]))]) (w1 := [(tx, .inr (1, [.ref tr, .int (nI (len + pl))])), (tr, .inl ((cT 0), 1192, .inl g_17)), (pr, .inl ((cT 0), np, .inl fp))]) hP hD [1, 2, 4] [0, 3] rfl rfl (by decide) (by decide) hk1 hFc hP1 hD1
  have hw18 := hw
  clear hPc hDc hFc hz1 hk1 hP1 hK1 hD1
  generalize H1 = H at hP hS ⊢
  have hP : va_P (dC, dI) vcl [(g0, .inr (3, [.ref tx, .ref wo, .ref di, .int va, .int vb, .int vc, .int vd])), (ph, .inr (2, [.ref pr, .int (nI pl)])), (tx, .inr (1, [.ref tr, .int (nI (len + pl))])), (tr, .inl ((cT 0), 1192, .inl g_17)), (pr, .inl ((cT 0), np, .inl fp))] H := hP
  have hD : va_D A [(g0, .inr (3, [.ref tx, .ref wo, .ref di, .int va, .int vb, .int vc, .int vd])), (ph, .inr (2, [.ref pr, .int (nI pl)])), (tx, .inr (1, [.ref tr, .int (nI (len + pl))])), (tr, .inl ((cT 0), 1192, .inl g_17)), (pr, .inl ((cT 0), np, .inl fp))] := hD
  refine lv_aload_n hx hb d_Dg_appendBlanked_26 rfl (lv_at hl 1 rfl) ?_
  refine va_get (D := (dC, dI)) (ci := 3) (v := (.ref tx)) (C := R_Dg) (T := F_Dg) (N := 7) hx hb hg in_Dg hown hK hP 0 rfl rfl 0 (by decide) (hg _ k_116) (fun _ h9 => h9) rfl d_Dg_appendBlanked_27 ?_
  refine va_get (D := (dC, dI)) (ci := 1) (v := (.ref tr)) (C := R_By) (T := F_By) (N := 2) hx hb hg in_By hown hK hP 2 rfl rfl 0 (by decide) (hg _ k_44) (fun _ h9 => h9) rfl d_Dg_appendBlanked_30 ?_
  refine lv_iload_n hx hb d_Dg_appendBlanked_33 rfl (lv_at hl 0 rfl) ?_
  refine lv_iload_n hx hb d_Dg_appendBlanked_34 rfl (lv_at hl 0 rfl) ?_
  refine lv_bipush (v := 16) hx hb d_Dg_appendBlanked_35 (by decide) ?_
  refine lv_iadd hx hb d_Dg_appendBlanked_37 ?_
  refine lv_topi (fun x20 e19 => ?_)
  obtain rfl : x20 = nI (len + at_ + 16) := by rw [e19]; exact nI_add _ 16
  refine lv_iconst (v := 0) hx hb d_Dg_appendBlanked_38 (by decide) ?_
  have hPc := hP.sub (ws' := [(tr, .inl ((cT 0), 1192, .inl g_17))]) [3] rfl
  have hDc := hD.sub (ws' := [(tr, .inl ((cT 0), 1192, .inl g_17))]) [3] (by decide) rfl
  have hFc := va_free (wc := [(tr, .inl ((cT 0), 1192, .inl g_17))]) hD hS hA [3] rfl
  refine va_callv (va_runS (As := [.ref tr, .int (nI (len + at_)), .int (nI (len + at_ + 16)), .int 0]) (rest := []) ⟨hx, hb, hml, hown, hg⟩ (c_Ar_fill l dC dI cT H.size tr 1192 g_17 (len + at_) (len + at_ + 16) 0 (by omega) (by omega) (by decide)) (va_cwS 4 hg (gI (List.forall_mem_append.mpr ⟨List.forall_mem_cons.mpr ⟨k_587, List.forall_mem_cons.mpr ⟨k_588, List.forall_mem_cons.mpr ⟨k_20, fun _ h => absurd h List.not_mem_nil⟩⟩⟩, List.forall_mem_cons.mpr ⟨k_589, fun _ h => h⟩⟩)) rfl rfl rfl (by decide +kernel) ⟨Nat.le_of_ble_eq_true rfl, Nat.le_of_ble_eq_true rfl⟩) ⟨fun a U g mk q => by obtain ⟨q0, q1, qP, qK, qD⟩ := q; exact ⟨q0, q1, qP, va_K.moved (u := U) (U := U.calling g mk a) (Vm.Alike.refl U.vm) qK, qD⟩, fun U hU hW => ⟨rfl, by rw [hU], by rw [hU]; exact hPc, va_K.moved hW.alike hK, hDc.weaken (fun _ _ _ _ => trivial)⟩⟩ rfl rfl hl.1 rfl (lv_room (Nat.le_of_ble_eq_true rfl)) d_Dg_appendBlanked_39 ⟨Nat.le_of_ble_eq_true rfl, Nat.le_of_ble_eq_true rfl⟩) hS (fun q _ h => hFc q h) hFc (fun u t H1 locs ht hvm hw hB hz1 hk1 hS => ?_)
  obtain ⟨g_21, rfl⟩ : ∃ z, z = u := ⟨_, rfl⟩
  try dsimp only at hw hB
  obtain ⟨hP1, hK1, hD1⟩ := hB
  rw [ht] at hP1
  obtain ⟨hP, hD⟩ := va_join (wr := [(g0, .inr (3, [.ref tx, .ref wo, .ref di, .int va, .int vb, .int vc, .int vd])), (ph, .inr (2, [.ref pr, .int (nI pl)])), (tx, .inr (1, [.ref tr, .int (nI (len + pl))])), (pr, .inl ((cT 0), np, .inl fp))]) (w1 := [(tr, .inl ((cT 0), 1192, .inl g_21))]) hP hD [3] [0, 1, 2, 4] rfl rfl (by decide) (by decide) hk1 hFc hP1 hD1
  have hw22 := hw
  clear hPc hDc hFc hz1 hk1 hP1 hK1 hD1
  generalize H1 = H at hP hS ⊢
  have hP : va_P (dC, dI) vcl [(g0, .inr (3, [.ref tx, .ref wo, .ref di, .int va, .int vb, .int vc, .int vd])), (ph, .inr (2, [.ref pr, .int (nI pl)])), (tx, .inr (1, [.ref tr, .int (nI (len + pl))])), (pr, .inl ((cT 0), np, .inl fp)), (tr, .inl ((cT 0), 1192, .inl g_21))] H := hP
  have hD : va_D A [(g0, .inr (3, [.ref tx, .ref wo, .ref di, .int va, .int vb, .int vc, .int vd])), (ph, .inr (2, [.ref pr, .int (nI pl)])), (tx, .inr (1, [.ref tr, .int (nI (len + pl))])), (pr, .inl ((cT 0), np, .inl fp)), (tr, .inl ((cT 0), 1192, .inl g_21))] := hD
  have hP9 := hP.sub (ws' := [(g0, .inr (3, [.ref tx, .ref wo, .ref di, .int va, .int vb, .int vc, .int vd])), (tx, .inr (1, [.ref tr, .int (nI (len + pl))])), (tr, .inl ((cT 0), 1192, .inl g_21)), (ph, .inr (2, [.ref pr, .int (nI pl)])), (pr, .inl ((cT 0), np, .inl fp))]) [0, 2, 4, 1, 3] rfl
  have hD9 := hD.sub (ws' := [(g0, .inr (3, [.ref tx, .ref wo, .ref di, .int va, .int vb, .int vc, .int vd])), (tx, .inr (1, [.ref tr, .int (nI (len + pl))])), (tr, .inl ((cT 0), 1192, .inl g_21)), (ph, .inr (2, [.ref pr, .int (nI pl)])), (pr, .inl ((cT 0), np, .inl fp))]) [0, 2, 4, 1, 3] (by decide) rfl
  exact W.vret hx hb hr (fun t ht hW => ⟨⟨g_21, rfl, trivial, by rw [ht]; exact hP9, va_K.moved hW.alike hK, hD9⟩, hS.F ht⟩) hS.2.2 d_Dg_appendBlanked_42
set_option maxHeartbeats 4000000 in
set_option maxRecDepth 100000 in
/-- ofProof -/
theorem c_Dg_proof (l : Launch) (dC : Nat → ClassId) (dI : Nat → Nat → Nat) (cT : Nat → ClassId) (sz : Nat) (g0 : Nat) (tx : Nat) (tr : Nat) (wo : Nat) (di : Nat) (va : Int32) (vb : Int32) (vc : Int32) (vd : Int32) (len : Nat) (f : Nat → Int32) (fw : Nat → Int32) (fd : Nat → Int32) (sh : Nat) (sr : Nat) (ns : Nat) (sl : Nat) (fs : Nat → Int32) (ph : Nat) (pr : Nat) (np : Nat) (pl : Nat) (fp : Nat → Int32) (at_ : Nat) (hsl : sl ≤ ns) (hns : ns < 2 ^ 31) (hpl : pl ≤ np) (hnp : np < 2 ^ 31) (hat : at_ + 16 ≤ pl) (hp : pl ≤ 1000) : Met l y_Dg_ofProof (Cond.code y_Dg_ofProof b_Dg_ofProof 4 (Option.some (Jvm.ClassFile.FieldType.array Jvm.ClassFile.FieldType.int)) :: BIG) ({ frames := 3, cells := 0, slots := 0, locals := 106 }) (va_Pc [.ref g0, .ref sh, .ref ph, .int (nI at_)] (fun U => U.heap.size = sz ∧ va_P (dC, dI) vcl [(g0, .inr (3, [.ref tx, .ref wo, .ref di, .int va, .int vb, .int vc, .int vd])), (tx, .inr (1, [.ref tr, .int (nI len)])), (tr, .inl ((cT 0), 1192, .inl f)), (wo, .inl ((cT 0), 16, .inl fw)), (di, .inl ((cT 0), 16, .inl fd)), (sh, .inr (1, [.ref sr, .int (nI sl)])), (sr, .inl ((cT 0), ns, .inl fs)), (ph, .inr (2, [.ref pr, .int (nI pl)])), (pr, .inl ((cT 0), np, .inl fp))] U.heap ∧ va_K (dC, dI) vcl (tyL cT) U ∧ va_D (fun _ => True) [(g0, .inr (3, [.ref tx, .ref wo, .ref di, .int va, .int vb, .int vc, .int vd])), (tx, .inr (1, [.ref tr, .int (nI len)])), (tr, .inl ((cT 0), 1192, .inl f)), (wo, .inl ((cT 0), 16, .inl fw)), (di, .inl ((cT 0), 16, .inl fd)), (sh, .inr (1, [.ref sr, .int (nI sl)])), (sr, .inl ((cT 0), ns, .inl fs)), (ph, .inr (2, [.ref pr, .int (nI pl)])), (pr, .inl ((cT 0), np, .inl fp))] ∧ xm (va_A [(g0, .inr (3, [.ref tx, .ref wo, .ref di, .int va, .int vb, .int vc, .int vd])), (tx, .inr (1, [.ref tr, .int (nI len)])), (tr, .inl ((cT 0), 1192, .inl f)), (wo, .inl ((cT 0), 16, .inl fw)), (di, .inl ((cT 0), 16, .inl fd)), (sh, .inr (1, [.ref sr, .int (nI sl)])), (sr, .inl ((cT 0), ns, .inl fs)), (ph, .inr (2, [.ref pr, .int (nI pl)])), (pr, .inl ((cT 0), np, .inl fp))] sz) U U.heap)) (va_Qr (S := (Nat → Int32) × (Nat → Int32) × Int32 × Int32 × Int32 × Int32 × (Nat → Int32)) (fun u => match u with | (fw2, fd2, a2, b2, c2, d2, f2) => AB fd → AB fd2) (fun u a t => match u with | (fw2, fd2, a2, b2, c2, d2, f2) => di = a ∧ va_P (dC, dI) vcl [(g0, .inr (3, [.ref tx, .ref wo, .ref di, .int a2, .int b2, .int c2, .int d2])), (tx, .inr (1, [.ref tr, .int (nI 80)])), (tr, .inl ((cT 0), 1192, .inl f2)), (wo, .inl ((cT 0), 16, .inl fw2)), (di, .inl ((cT 0), 16, .inl fd2)), (sh, .inr (1, [.ref sr, .int (nI sl)])), (sr, .inl ((cT 0), ns, .inl fs)), (ph, .inr (2, [.ref pr, .int (nI pl)])), (pr, .inl ((cT 0), np, .inl fp))] t.heap ∧ va_K (dC, dI) vcl (tyL cT) t ∧ va_D (va_A [(g0, .inr (3, [.ref tx, .ref wo, .ref di, .int va, .int vb, .int vc, .int vd])), (tx, .inr (1, [.ref tr, .int (nI len)])), (tr, .inl ((cT 0), 1192, .inl f)), (wo, .inl ((cT 0), 16, .inl fw)), (di, .inl ((cT 0), 16, .inl fd)), (sh, .inr (1, [.ref sr, .int (nI sl)])), (sr, .inl ((cT 0), ns, .inl fs)), (ph, .inr (2, [.ref pr, .int (nI pl)])), (pr, .inl ((cT 0), np, .inl fp))] sz) [(g0, .inr (3, [.ref tx, .ref wo, .ref di, .int a2, .int b2, .int c2, .int d2])), (tx, .inr (1, [.ref tr, .int (nI 80)])), (tr, .inl ((cT 0), 1192, .inl f2)), (wo, .inl ((cT 0), 16, .inl fw2)), (di, .inl ((cT 0), 16, .inl fd2)), (sh, .inr (1, [.ref sr, .int (nI sl)])), (sr, .inl ((cT 0), ns, .inl fs)), (ph, .inr (2, [.ref pr, .int (nI pl)])), (pr, .inl ((cT 0), np, .inl fp))]) (va_A [(g0, .inr (3, [.ref tx, .ref wo, .ref di, .int va, .int vb, .int vc, .int vd])), (tx, .inr (1, [.ref tr, .int (nI len)])), (tr, .inl ((cT 0), 1192, .inl f)), (wo, .inl ((cT 0), 16, .inl fw)), (di, .inl ((cT 0), 16, .inl fd)), (sh, .inr (1, [.ref sr, .int (nI sl)])), (sr, .inl ((cT 0), ns, .inl fs)), (ph, .inr (2, [.ref pr, .int (nI pl)])), (pr, .inl ((cT 0), np, .inl fp))] sz)) 0 0 (va_A [(g0, .inr (3, [.ref tx, .ref wo, .ref di, .int va, .int vb, .int vc, .int vd])), (tx, .inr (1, [.ref tr, .int (nI len)])), (tr, .inl ((cT 0), 1192, .inl f)), (wo, .inl ((cT 0), 16, .inl fw)), (di, .inl ((cT 0), 16, .inl fd)), (sh, .inr (1, [.ref sr, .int (nI sl)])), (sr, .inl ((cT 0), ns, .inl fs)), (ph, .inr (2, [.ref pr, .int (nI pl)])), (pr, .inl ((cT 0), np, .inl fp))] sz) := by
  refine Met.ofW (cc := b_Dg_ofProof) (maxL := 4) (ret := (Option.some (Jvm.ClassFile.FieldType.array Jvm.ClassFile.FieldType.int))) (by decide) rfl ?_
  intro p e s m args below meth c s₁ B hml hv
  obtain ⟨hargs, hsz, hP, hK, hD0, hE⟩ := hv
  have hx := B.exec
  have hb := B.bytes
  have hr := B.returns
  have hts := atoms_spec (ws := (Cond.code y_Dg_ofProof b_Dg_ofProof 4 (Option.some (Jvm.ClassFile.FieldType.array Jvm.ClassFile.FieldType.int)) :: BIG)) B.pre
  have hg : ∀ w ∈ BIG, w.before _ s = true := fun w h => hts w (List.mem_cons_of_mem _ h)
  have hown : s.vm.findClass "DoorServer$Digests" = some m.cls := findClass_of_methodNamed B.named
  have hlocks := B.notSynchronized
  subst hsz
  have hD := hD0.self (sz := s.heap.size)
  generalize hAe : va_A [(g0, .inr (3, [.ref tx, .ref wo, .ref di, .int va, .int vb, .int vc, .int vd])), (tx, .inr (1, [.ref tr, .int (nI len)])), (tr, .inl ((cT 0), 1192, .inl f)), (wo, .inl ((cT 0), 16, .inl fw)), (di, .inl ((cT 0), 16, .inl fd)), (sh, .inr (1, [.ref sr, .int (nI sl)])), (sr, .inl ((cT 0), ns, .inl fs)), (ph, .inr (2, [.ref pr, .int (nI pl)])), (pr, .inl ((cT 0), np, .inl fp))] s.heap.size = A at hD hE ⊢
  have hA : ∀ q : Nat, s.heap.size ≤ q → A q := fun q h => by rw [← hAe]; exact Or.inr h
  have hS : va_S A s.heap s.heap [] := va_S.rf
  have hl := lv_entry ([.ref g0, .ref sh, .ref ph, .int (nI at_)]) (n := 4) (Nat.le_of_ble_eq_true rfl)
  refine W.eq (g2 := entryFrame m (List.toArray [.ref g0, .ref sh, .ref ph, .int (nI at_)]) 4) (by rw [hargs]) ?_
  rw [lg_entry_eq]
  generalize (lg_sl ([.ref g0, .ref sh, .ref ph, .int (nI at_)]) ++ List.replicate (4 - (lg_sl ([.ref g0, .ref sh, .ref ph, .int (nI at_)])).length) Slot.unset).toArray = ls at hl ⊢
  have hl : lv_has ls 4 [(0, .ref g0), (1, .ref sh), (2, .ref ph), (3, .int (nI at_))] := hl
  change W p l e ({ frames := 3, cells := 0, slots := 0, locals := 106 } : Room) s m args below meth c s.heap [] 0 0 _ _
  have hP : va_P (dC, dI) vcl [(g0, .inr (3, [.ref tx, .ref wo, .ref di, .int va, .int vb, .int vc, .int vd])), (tx, .inr (1, [.ref tr, .int (nI len)])), (tr, .inl ((cT 0), 1192, .inl f)), (wo, .inl ((cT 0), 16, .inl fw)), (di, .inl ((cT 0), 16, .inl fd)), (sh, .inr (1, [.ref sr, .int (nI sl)])), (sr, .inl ((cT 0), ns, .inl fs)), (ph, .inr (2, [.ref pr, .int (nI pl)])), (pr, .inl ((cT 0), np, .inl fp))] s.heap := hP
  refine lv_aload_n hx hb d_Dg_ofProof_0 rfl (lv_at hl 0 rfl) ?_
  refine lv_aload_n hx hb d_Dg_ofProof_1 rfl (lv_at hl 1 rfl) ?_
  refine lv_bipush (v := 54) hx hb d_Dg_ofProof_2 (by decide) ?_
  have hPc := hP.sub (ws' := [(g0, .inr (3, [.ref tx, .ref wo, .ref di, .int va, .int vb, .int vc, .int vd])), (tx, .inr (1, [.ref tr, .int (nI len)])), (tr, .inl ((cT 0), 1192, .inl f)), (sh, .inr (1, [.ref sr, .int (nI sl)])), (sr, .inl ((cT 0), ns, .inl fs))]) [0, 1, 2, 5, 6] rfl
  have hDc := hD.sub (ws' := [(g0, .inr (3, [.ref tx, .ref wo, .ref di, .int va, .int vb, .int vc, .int vd])), (tx, .inr (1, [.ref tr, .int (nI len)])), (tr, .inl ((cT 0), 1192, .inl f)), (sh, .inr (1, [.ref sr, .int (nI sl)])), (sr, .inl ((cT 0), ns, .inl fs))]) [0, 1, 2, 5, 6] (by decide) rfl
  have hFc := va_free (wc := [(g0, .inr (3, [.ref tx, .ref wo, .ref di, .int va, .int vb, .int vc, .int vd])), (tx, .inr (1, [.ref tr, .int (nI len)])), (tr, .inl ((cT 0), 1192, .inl f)), (sh, .inr (1, [.ref sr, .int (nI sl)])), (sr, .inl ((cT 0), ns, .inl fs))]) hD hS hA [0, 1, 2, 5, 6] rfl
  refine va_callv (va_runV (C := "DoorServer$Digests") (As := [.ref sh, .int 54]) (rest := []) ⟨hx, hb, hml, hown, hg⟩ (c_Dg_key l dC dI cT s.heap.size g0 tx tr wo di va vb vc vd len f sh sr ns sl fs 54 (hsl) (hns)) (cwV 2 hg (gI (List.forall_mem_append.mpr ⟨List.forall_mem_cons.mpr ⟨k_652, List.forall_mem_cons.mpr ⟨k_654, List.forall_mem_cons.mpr ⟨(big_sel (q := y_Dg_startWithKey) (n := 7) (by decide +kernel)), List.forall_mem_cons.mpr ⟨k_5, fun _ h => absurd h List.not_mem_nil⟩⟩⟩⟩, List.forall_mem_cons.mpr ⟨k_655, fun _ h => h⟩⟩)) rfl rfl rfl (by decide +kernel) ⟨Nat.le_of_ble_eq_true rfl, Nat.le_of_ble_eq_true rfl⟩) ⟨fun a U g mk q => by obtain ⟨q0, q1, qP, qK, qD⟩ := q; exact ⟨q0, q1, qP, va_K.moved (u := U) (U := U.calling g mk a) (Vm.Alike.refl U.vm) qK, qD⟩, va_recv (q0 := 0) (ci := 3) hK hP rfl rfl, fun U hU hW => ⟨rfl, by rw [hU], by rw [hU]; exact hPc, va_K.moved hW.alike hK, hDc.weaken (fun _ _ _ _ => trivial)⟩⟩ rfl rfl hl.1 rfl (lv_room (Nat.le_of_ble_eq_true rfl)) d_Dg_ofProof_4 ⟨Nat.le_of_ble_eq_true rfl, Nat.le_of_ble_eq_true rfl⟩) hS (fun q _ h => hFc q h) hFc (fun u t H1 locs ht hvm hw hB hz1 hk1 hS => ?_)
  obtain ⟨f2_23, rfl⟩ : ∃ z, z = u := ⟨_, rfl⟩
  try dsimp only at hw hB
  obtain ⟨hP1, hK1, hD1⟩ := hB
  rw [ht] at hP1
  obtain ⟨hP, hD⟩ := va_join (wr := [(wo, .inl ((cT 0), 16, .inl fw)), (di, .inl ((cT 0), 16, .inl fd)), (ph, .inr (2, [.ref pr, .int (nI pl)])), (pr, .inl ((cT 0), np, .inl fp))]) (w1 := [(g0, .inr (3, [.ref tx, .ref wo, .ref di, .int va, .int vb, .int vc, .int vd])), (tx, .inr (1, [.ref tr, .int (nI 64)])), (tr, .inl ((cT 0), 1192, .inl f2_23)), (sh, .inr (1, [.ref sr, .int (nI sl)])), (sr, .inl ((cT 0), ns, .inl fs))]) hP hD [0, 1, 2, 5, 6] [3, 4, 7, 8] rfl rfl (by decide) (by decide) hk1 hFc hP1 hD1
  have hw24 := hw
  clear hPc hDc hFc hz1 hk1 hP1 hK1 hD1
  generalize H1 = H at hP hS ⊢
  have hP : va_P (dC, dI) vcl [(wo, .inl ((cT 0), 16, .inl fw)), (di, .inl ((cT 0), 16, .inl fd)), (ph, .inr (2, [.ref pr, .int (nI pl)])), (pr, .inl ((cT 0), np, .inl fp)), (g0, .inr (3, [.ref tx, .ref wo, .ref di, .int va, .int vb, .int vc, .int vd])), (tx, .inr (1, [.ref tr, .int (nI 64)])), (tr, .inl ((cT 0), 1192, .inl f2_23)), (sh, .inr (1, [.ref sr, .int (nI sl)])), (sr, .inl ((cT 0), ns, .inl fs))] H := hP
  have hD : va_D A [(wo, .inl ((cT 0), 16, .inl fw)), (di, .inl ((cT 0), 16, .inl fd)), (ph, .inr (2, [.ref pr, .int (nI pl)])), (pr, .inl ((cT 0), np, .inl fp)), (g0, .inr (3, [.ref tx, .ref wo, .ref di, .int va, .int vb, .int vc, .int vd])), (tx, .inr (1, [.ref tr, .int (nI 64)])), (tr, .inl ((cT 0), 1192, .inl f2_23)), (sh, .inr (1, [.ref sr, .int (nI sl)])), (sr, .inl ((cT 0), ns, .inl fs))] := hD
  refine lv_aload_n hx hb d_Dg_ofProof_7 rfl (lv_at hl 0 rfl) ?_
  refine lv_aload_n hx hb d_Dg_ofProof_8 rfl (lv_at hl 2 rfl) ?_
  refine lv_iload_n hx hb d_Dg_ofProof_9 rfl (lv_at hl 3 rfl) ?_
  have hPc := hP.sub (ws' := [(g0, .inr (3, [.ref tx, .ref wo, .ref di, .int va, .int vb, .int vc, .int vd])), (tx, .inr (1, [.ref tr, .int (nI 64)])), (tr, .inl ((cT 0), 1192, .inl f2_23)), (ph, .inr (2, [.ref pr, .int (nI pl)])), (pr, .inl ((cT 0), np, .inl fp))]) [4, 5, 6, 2, 3] rfl
  have hDc := hD.sub (ws' := [(g0, .inr (3, [.ref tx, .ref wo, .ref di, .int va, .int vb, .int vc, .int vd])), (tx, .inr (1, [.ref tr, .int (nI 64)])), (tr, .inl ((cT 0), 1192, .inl f2_23)), (ph, .inr (2, [.ref pr, .int (nI pl)])), (pr, .inl ((cT 0), np, .inl fp))]) [4, 5, 6, 2, 3] (by decide) rfl
  have hFc := va_free (wc := [(g0, .inr (3, [.ref tx, .ref wo, .ref di, .int va, .int vb, .int vc, .int vd])), (tx, .inr (1, [.ref tr, .int (nI 64)])), (tr, .inl ((cT 0), 1192, .inl f2_23)), (ph, .inr (2, [.ref pr, .int (nI pl)])), (pr, .inl ((cT 0), np, .inl fp))]) hD hS hA [4, 5, 6, 2, 3] rfl
  refine va_callv (va_runV (C := "DoorServer$Digests") (As := [.ref ph, .int (nI at_)]) (rest := []) ⟨hx, hb, hml, hown, hg⟩ (c_Dg_blank l dC dI cT H.size g0 tx tr wo di va vb vc vd 64 f2_23 ph pr np pl fp at_ (hpl) (hnp) (by omega) (hat)) (cwV 2 hg (gI (List.forall_mem_append.mpr ⟨List.forall_mem_cons.mpr ⟨k_656, List.forall_mem_cons.mpr ⟨k_658, List.forall_mem_cons.mpr ⟨(big_sel (q := y_Dg_appendBlanked) (n := 7) (by decide +kernel)), List.forall_mem_cons.mpr ⟨k_5, fun _ h => absurd h List.not_mem_nil⟩⟩⟩⟩, List.forall_mem_cons.mpr ⟨k_659, fun _ h => h⟩⟩)) rfl rfl rfl (by decide +kernel) ⟨Nat.le_of_ble_eq_true rfl, Nat.le_of_ble_eq_true rfl⟩) ⟨fun a U g mk q => by obtain ⟨q0, q1, qP, qK, qD⟩ := q; exact ⟨q0, q1, qP, va_K.moved (u := U) (U := U.calling g mk a) (Vm.Alike.refl U.vm) qK, qD⟩, va_recv (q0 := 4) (ci := 3) hK hP rfl rfl, fun U hU hW => ⟨rfl, by rw [hU], by rw [hU]; exact hPc, va_K.moved hW.alike hK, hDc.weaken (fun _ _ _ _ => trivial)⟩⟩ rfl rfl hl.1 rfl (lv_room (Nat.le_of_ble_eq_true rfl)) d_Dg_ofProof_10 ⟨Nat.le_of_ble_eq_true rfl, Nat.le_of_ble_eq_true rfl⟩) hS (fun q _ h => hFc q h) hFc (fun u t H1 locs ht hvm hw hB hz1 hk1 hS => ?_)
  obtain ⟨f2_25, rfl⟩ : ∃ z, z = u := ⟨_, rfl⟩
  try dsimp only at hw hB
  obtain ⟨hP1, hK1, hD1⟩ := hB
  rw [ht] at hP1
  obtain ⟨hP, hD⟩ := va_join (wr := [(wo, .inl ((cT 0), 16, .inl fw)), (di, .inl ((cT 0), 16, .inl fd)), (sh, .inr (1, [.ref sr, .int (nI sl)])), (sr, .inl ((cT 0), ns, .inl fs))]) (w1 := [(g0, .inr (3, [.ref tx, .ref wo, .ref di, .int va, .int vb, .int vc, .int vd])), (tx, .inr (1, [.ref tr, .int (nI (64 + pl))])), (tr, .inl ((cT 0), 1192, .inl f2_25)), (ph, .inr (2, [.ref pr, .int (nI pl)])), (pr, .inl ((cT 0), np, .inl fp))]) hP hD [4, 5, 6, 2, 3] [0, 1, 7, 8] rfl rfl (by decide) (by decide) hk1 hFc hP1 hD1
  have hw26 := hw
  clear hPc hDc hFc hz1 hk1 hP1 hK1 hD1
  generalize H1 = H at hP hS ⊢
  have hP : va_P (dC, dI) vcl [(wo, .inl ((cT 0), 16, .inl fw)), (di, .inl ((cT 0), 16, .inl fd)), (sh, .inr (1, [.ref sr, .int (nI sl)])), (sr, .inl ((cT 0), ns, .inl fs)), (g0, .inr (3, [.ref tx, .ref wo, .ref di, .int va, .int vb, .int vc, .int vd])), (tx, .inr (1, [.ref tr, .int (nI (64 + pl))])), (tr, .inl ((cT 0), 1192, .inl f2_25)), (ph, .inr (2, [.ref pr, .int (nI pl)])), (pr, .inl ((cT 0), np, .inl fp))] H := hP
  have hD : va_D A [(wo, .inl ((cT 0), 16, .inl fw)), (di, .inl ((cT 0), 16, .inl fd)), (sh, .inr (1, [.ref sr, .int (nI sl)])), (sr, .inl ((cT 0), ns, .inl fs)), (g0, .inr (3, [.ref tx, .ref wo, .ref di, .int va, .int vb, .int vc, .int vd])), (tx, .inr (1, [.ref tr, .int (nI (64 + pl))])), (tr, .inl ((cT 0), 1192, .inl f2_25)), (ph, .inr (2, [.ref pr, .int (nI pl)])), (pr, .inl ((cT 0), np, .inl fp))] := hD
  refine lv_aload_n hx hb d_Dg_ofProof_13 rfl (lv_at hl 0 rfl) ?_
  have hPc := hP.sub (ws' := [(g0, .inr (3, [.ref tx, .ref wo, .ref di, .int va, .int vb, .int vc, .int vd])), (tx, .inr (1, [.ref tr, .int (nI (64 + pl))])), (tr, .inl ((cT 0), 1192, .inl f2_25)), (wo, .inl ((cT 0), 16, .inl fw)), (di, .inl ((cT 0), 16, .inl fd))]) [4, 5, 6, 0, 1] rfl
  have hDc := hD.sub (ws' := [(g0, .inr (3, [.ref tx, .ref wo, .ref di, .int va, .int vb, .int vc, .int vd])), (tx, .inr (1, [.ref tr, .int (nI (64 + pl))])), (tr, .inl ((cT 0), 1192, .inl f2_25)), (wo, .inl ((cT 0), 16, .inl fw)), (di, .inl ((cT 0), 16, .inl fd))]) [4, 5, 6, 0, 1] (by decide) rfl
  have hFc := va_free (wc := [(g0, .inr (3, [.ref tx, .ref wo, .ref di, .int va, .int vb, .int vc, .int vd])), (tx, .inr (1, [.ref tr, .int (nI (64 + pl))])), (tr, .inl ((cT 0), 1192, .inl f2_25)), (wo, .inl ((cT 0), 16, .inl fw)), (di, .inl ((cT 0), 16, .inl fd))]) hD hS hA [4, 5, 6, 0, 1] rfl
  refine va_callr (va_runV (C := "DoorServer$Digests") (As := []) (rest := []) ⟨hx, hb, hml, hown, hg⟩ (c_Dg_text l dC dI cT H.size g0 tx tr wo di va vb vc vd (64 + pl) f2_25 fw fd (by omega)) (cwV 0 hg (gI (List.forall_mem_append.mpr ⟨List.forall_mem_cons.mpr ⟨k_583, List.forall_mem_cons.mpr ⟨k_585, List.forall_mem_cons.mpr ⟨(big_sel (q := y_Dg_digestText) (n := 7) (by decide +kernel)), List.forall_mem_cons.mpr ⟨k_5, fun _ h => absurd h List.not_mem_nil⟩⟩⟩⟩, List.forall_mem_cons.mpr ⟨k_586, fun _ h => h⟩⟩)) rfl rfl rfl (by decide +kernel) ⟨Nat.le_of_ble_eq_true rfl, Nat.le_of_ble_eq_true rfl⟩) ⟨fun a U g mk q => by obtain ⟨q0, q1, qP, qK, qD, qE⟩ := q; exact ⟨q0, q1, qP, va_K.moved (u := U) (U := U.calling g mk a) (Vm.Alike.refl U.vm) qK, qD, qE.at (State.WarmedH.refl _) (fun _ _ _ => rfl) (fun _ h => h)⟩, va_recv (q0 := 4) (ci := 3) hK hP rfl rfl, fun U hU hW => ⟨rfl, by rw [hU], by rw [hU]; exact hPc, va_K.moved hW.alike hK, hDc.weaken (fun _ _ _ _ => trivial), by rw [hU]; exact hE.at hW hS.2.1 hFc⟩⟩ rfl rfl hl.1 rfl (lv_room (Nat.le_of_ble_eq_true rfl)) d_Dg_ofProof_14 ⟨Nat.le_of_ble_eq_true rfl, Nat.le_of_ble_eq_true rfl⟩) hS (fun q _ h => hFc q h) hFc (fun u a9 t H1 locs ht hvm hw hB hz1 hk1 hS => ?_)
  obtain ⟨fw2_27, fd2_28, a2_29, b2_30, c2_31, d2_32, f2_33⟩ := u
  try dsimp only at hw hB
  obtain ⟨rfl, hP1, hK1, hD1⟩ := hB
  rw [ht] at hP1
  obtain ⟨hP, hD⟩ := va_join (wr := [(sh, .inr (1, [.ref sr, .int (nI sl)])), (sr, .inl ((cT 0), ns, .inl fs)), (ph, .inr (2, [.ref pr, .int (nI pl)])), (pr, .inl ((cT 0), np, .inl fp))]) (w1 := [(g0, .inr (3, [.ref tx, .ref wo, .ref di, .int a2_29, .int b2_30, .int c2_31, .int d2_32])), (tx, .inr (1, [.ref tr, .int (nI (64 + pl))])), (tr, .inl ((cT 0), 1192, .inl f2_33)), (wo, .inl ((cT 0), 16, .inl fw2_27)), (di, .inl ((cT 0), 16, .inl fd2_28))]) hP hD [4, 5, 6, 0, 1] [2, 3, 7, 8] rfl rfl (by decide) (by decide) hk1 hFc hP1 hD1
  have hw34 := hw
  clear hPc hDc hFc hz1 hk1 hP1 hK1 hD1
  generalize H1 = H at hP hS ⊢
  have hP : va_P (dC, dI) vcl [(sh, .inr (1, [.ref sr, .int (nI sl)])), (sr, .inl ((cT 0), ns, .inl fs)), (ph, .inr (2, [.ref pr, .int (nI pl)])), (pr, .inl ((cT 0), np, .inl fp)), (g0, .inr (3, [.ref tx, .ref wo, .ref di, .int a2_29, .int b2_30, .int c2_31, .int d2_32])), (tx, .inr (1, [.ref tr, .int (nI (64 + pl))])), (tr, .inl ((cT 0), 1192, .inl f2_33)), (wo, .inl ((cT 0), 16, .inl fw2_27)), (di, .inl ((cT 0), 16, .inl fd2_28))] H := hP
  have hD : va_D A [(sh, .inr (1, [.ref sr, .int (nI sl)])), (sr, .inl ((cT 0), ns, .inl fs)), (ph, .inr (2, [.ref pr, .int (nI pl)])), (pr, .inl ((cT 0), np, .inl fp)), (g0, .inr (3, [.ref tx, .ref wo, .ref di, .int a2_29, .int b2_30, .int c2_31, .int d2_32])), (tx, .inr (1, [.ref tr, .int (nI (64 + pl))])), (tr, .inl ((cT 0), 1192, .inl f2_33)), (wo, .inl ((cT 0), 16, .inl fw2_27)), (di, .inl ((cT 0), 16, .inl fd2_28))] := hD
  refine lv_pop hx hb d_Dg_ofProof_17 rfl ?_
  refine lv_aload_n hx hb d_Dg_ofProof_18 rfl (lv_at hl 0 rfl) ?_
  refine lv_aload_n hx hb d_Dg_ofProof_19 rfl (lv_at hl 1 rfl) ?_
  refine lv_bipush (v := 92) hx hb d_Dg_ofProof_20 (by decide) ?_
  have hPc := hP.sub (ws' := [(g0, .inr (3, [.ref tx, .ref wo, .ref di, .int a2_29, .int b2_30, .int c2_31, .int d2_32])), (tx, .inr (1, [.ref tr, .int (nI (64 + pl))])), (tr, .inl ((cT 0), 1192, .inl f2_33)), (sh, .inr (1, [.ref sr, .int (nI sl)])), (sr, .inl ((cT 0), ns, .inl fs))]) [4, 5, 6, 0, 1] rfl
  have hDc := hD.sub (ws' := [(g0, .inr (3, [.ref tx, .ref wo, .ref di, .int a2_29, .int b2_30, .int c2_31, .int d2_32])), (tx, .inr (1, [.ref tr, .int (nI (64 + pl))])), (tr, .inl ((cT 0), 1192, .inl f2_33)), (sh, .inr (1, [.ref sr, .int (nI sl)])), (sr, .inl ((cT 0), ns, .inl fs))]) [4, 5, 6, 0, 1] (by decide) rfl
  have hFc := va_free (wc := [(g0, .inr (3, [.ref tx, .ref wo, .ref di, .int a2_29, .int b2_30, .int c2_31, .int d2_32])), (tx, .inr (1, [.ref tr, .int (nI (64 + pl))])), (tr, .inl ((cT 0), 1192, .inl f2_33)), (sh, .inr (1, [.ref sr, .int (nI sl)])), (sr, .inl ((cT 0), ns, .inl fs))]) hD hS hA [4, 5, 6, 0, 1] rfl
  refine va_callv (va_runV (C := "DoorServer$Digests") (As := [.ref sh, .int 92]) (rest := []) ⟨hx, hb, hml, hown, hg⟩ (c_Dg_key l dC dI cT H.size g0 tx tr wo di a2_29 b2_30 c2_31 d2_32 (64 + pl) f2_33 sh sr ns sl fs 92 (hsl) (hns)) (cwV 2 hg (gI (List.forall_mem_append.mpr ⟨List.forall_mem_cons.mpr ⟨k_652, List.forall_mem_cons.mpr ⟨k_654, List.forall_mem_cons.mpr ⟨(big_sel (q := y_Dg_startWithKey) (n := 7) (by decide +kernel)), List.forall_mem_cons.mpr ⟨k_5, fun _ h => absurd h List.not_mem_nil⟩⟩⟩⟩, List.forall_mem_cons.mpr ⟨k_655, fun _ h => h⟩⟩)) rfl rfl rfl (by decide +kernel) ⟨Nat.le_of_ble_eq_true rfl, Nat.le_of_ble_eq_true rfl⟩) ⟨fun a U g mk q => by obtain ⟨q0, q1, qP, qK, qD⟩ := q; exact ⟨q0, q1, qP, va_K.moved (u := U) (U := U.calling g mk a) (Vm.Alike.refl U.vm) qK, qD⟩, va_recv (q0 := 4) (ci := 3) hK hP rfl rfl, fun U hU hW => ⟨rfl, by rw [hU], by rw [hU]; exact hPc, va_K.moved hW.alike hK, hDc.weaken (fun _ _ _ _ => trivial)⟩⟩ rfl rfl hl.1 rfl (lv_room (Nat.le_of_ble_eq_true rfl)) d_Dg_ofProof_22 ⟨Nat.le_of_ble_eq_true rfl, Nat.le_of_ble_eq_true rfl⟩) hS (fun q _ h => hFc q h) hFc (fun u t H1 locs ht hvm hw hB hz1 hk1 hS => ?_)
  obtain ⟨f2_35, rfl⟩ : ∃ z, z = u := ⟨_, rfl⟩
  try dsimp only at hw hB
  obtain ⟨hP1, hK1, hD1⟩ := hB
  rw [ht] at hP1
  obtain ⟨hP, hD⟩ := va_join (wr := [(ph, .inr (2, [.ref pr, .int (nI pl)])), (pr, .inl ((cT 0), np, .inl fp)), (wo, .inl ((cT 0), 16, .inl fw2_27)), (di, .inl ((cT 0), 16, .inl fd2_28))]) (w1 := [(g0, .inr (3, [.ref tx, .ref wo, .ref di, .int a2_29, .int b2_30, .int c2_31, .int d2_32])), (tx, .inr (1, [.ref tr, .int (nI 64)])), (tr, .inl ((cT 0), 1192, .inl f2_35)), (sh, .inr (1, [.ref sr, .int (nI sl)])), (sr, .inl ((cT 0), ns, .inl fs))]) hP hD [4, 5, 6, 0, 1] [2, 3, 7, 8] rfl rfl (by decide) (by decide) hk1 hFc hP1 hD1
  have hw36 := hw
  clear hPc hDc hFc hz1 hk1 hP1 hK1 hD1
  generalize H1 = H at hP hS ⊢
  have hP : va_P (dC, dI) vcl [(ph, .inr (2, [.ref pr, .int (nI pl)])), (pr, .inl ((cT 0), np, .inl fp)), (wo, .inl ((cT 0), 16, .inl fw2_27)), (di, .inl ((cT 0), 16, .inl fd2_28)), (g0, .inr (3, [.ref tx, .ref wo, .ref di, .int a2_29, .int b2_30, .int c2_31, .int d2_32])), (tx, .inr (1, [.ref tr, .int (nI 64)])), (tr, .inl ((cT 0), 1192, .inl f2_35)), (sh, .inr (1, [.ref sr, .int (nI sl)])), (sr, .inl ((cT 0), ns, .inl fs))] H := hP
  have hD : va_D A [(ph, .inr (2, [.ref pr, .int (nI pl)])), (pr, .inl ((cT 0), np, .inl fp)), (wo, .inl ((cT 0), 16, .inl fw2_27)), (di, .inl ((cT 0), 16, .inl fd2_28)), (g0, .inr (3, [.ref tx, .ref wo, .ref di, .int a2_29, .int b2_30, .int c2_31, .int d2_32])), (tx, .inr (1, [.ref tr, .int (nI 64)])), (tr, .inl ((cT 0), 1192, .inl f2_35)), (sh, .inr (1, [.ref sr, .int (nI sl)])), (sr, .inl ((cT 0), ns, .inl fs))] := hD
  refine lv_aload_n hx hb d_Dg_ofProof_25 rfl (lv_at hl 0 rfl) ?_
  refine va_get (D := (dC, dI)) (ci := 3) (v := (.ref tx)) (C := R_Dg) (T := F_Dg) (N := 7) hx hb hg in_Dg hown hK hP 4 rfl rfl 0 (by decide) (hg _ k_116) (fun _ h9 => h9) rfl d_Dg_ofProof_26 ?_
  refine lv_aload_n hx hb d_Dg_ofProof_29 rfl (lv_at hl 0 rfl) ?_
  refine va_get (D := (dC, dI)) (ci := 3) (v := (.ref di)) (C := R_Dg) (T := F_Dg) (N := 7) hx hb hg in_Dg hown hK hP 4 rfl rfl 2 (by decide) (hg _ k_118) (fun _ h9 => h9) rfl d_Dg_ofProof_30 ?_
  refine lv_iconst (v := 0) hx hb d_Dg_ofProof_33 (by decide) ?_
  refine lv_topi (fun x38 e37 => ?_)
  obtain rfl : x38 = nI 0 := by rw [e37]; rfl
  refine lv_bipush (v := 16) hx hb d_Dg_ofProof_34 (by decide) ?_
  refine lv_topi (fun x40 e39 => ?_)
  obtain rfl : x40 = nI 16 := by rw [e39]; rfl
  have hPc := hP.sub (ws' := [(tx, .inr (1, [.ref tr, .int (nI 64)])), (tr, .inl ((cT 0), 1192, .inl f2_35)), (di, .inl ((cT 0), 16, .inl fd2_28))]) [5, 6, 3] rfl
  have hDc := hD.sub (ws' := [(tx, .inr (1, [.ref tr, .int (nI 64)])), (tr, .inl ((cT 0), 1192, .inl f2_35)), (di, .inl ((cT 0), 16, .inl fd2_28))]) [5, 6, 3] (by decide) rfl
  have hFc := va_free (wc := [(tx, .inr (1, [.ref tr, .int (nI 64)])), (tr, .inl ((cT 0), 1192, .inl f2_35)), (di, .inl ((cT 0), 16, .inl fd2_28))]) hD hS hA [5, 6, 3] rfl
  refine va_callv (va_runV (C := "DoorServer$Bytes") (As := [.ref di, .int (nI 0), .int (nI 16)]) (rest := []) ⟨hx, hb, hml, hown, hg⟩ (c_By_row l dC dI cT H.size tx tr 1192 64 f2_35 di 16 fd2_28 0 16 (by decide) (by decide) (by decide) (by decide)) (cwV 3 hg (gI (List.forall_mem_append.mpr ⟨List.forall_mem_cons.mpr ⟨k_582, List.forall_mem_cons.mpr ⟨k_574, List.forall_mem_cons.mpr ⟨k_575, List.forall_mem_cons.mpr ⟨k_2, fun _ h => absurd h List.not_mem_nil⟩⟩⟩⟩, List.forall_mem_cons.mpr ⟨k_578, fun _ h => h⟩⟩)) rfl rfl rfl (by decide +kernel) ⟨Nat.le_of_ble_eq_true rfl, Nat.le_of_ble_eq_true rfl⟩) ⟨fun a U g mk q => by obtain ⟨q0, q1, qP, qK, qD⟩ := q; exact ⟨q0, q1, qP, va_K.moved (u := U) (U := U.calling g mk a) (Vm.Alike.refl U.vm) qK, qD⟩, va_recv (q0 := 5) (ci := 1) hK hP rfl rfl, fun U hU hW => ⟨rfl, by rw [hU], by rw [hU]; exact hPc, va_K.moved hW.alike hK, hDc.weaken (fun _ _ _ _ => trivial)⟩⟩ rfl rfl hl.1 rfl (lv_room (Nat.le_of_ble_eq_true rfl)) d_Dg_ofProof_36 ⟨Nat.le_of_ble_eq_true rfl, Nat.le_of_ble_eq_true rfl⟩) hS (fun q _ h => hFc q h) hFc (fun u t H1 locs ht hvm hw hB hz1 hk1 hS => ?_)
  obtain ⟨g_41, rfl⟩ : ∃ z, z = u := ⟨_, rfl⟩
  try dsimp only at hw hB
  obtain ⟨hP1, hK1, hD1⟩ := hB
  rw [ht] at hP1
  obtain ⟨hP, hD⟩ := va_join (wr := [(ph, .inr (2, [.ref pr, .int (nI pl)])), (pr, .inl ((cT 0), np, .inl fp)), (wo, .inl ((cT 0), 16, .inl fw2_27)), (g0, .inr (3, [.ref tx, .ref wo, .ref di, .int a2_29, .int b2_30, .int c2_31, .int d2_32])), (sh, .inr (1, [.ref sr, .int (nI sl)])), (sr, .inl ((cT 0), ns, .inl fs))]) (w1 := [(tx, .inr (1, [.ref tr, .int (nI (64 + 16))])), (tr, .inl ((cT 0), 1192, .inl g_41)), (di, .inl ((cT 0), 16, .inl fd2_28))]) hP hD [5, 6, 3] [0, 1, 2, 4, 7, 8] rfl rfl (by decide) (by decide) hk1 hFc hP1 hD1
  have hw42 := hw
  clear hPc hDc hFc hz1 hk1 hP1 hK1 hD1
  generalize H1 = H at hP hS ⊢
  have hP : va_P (dC, dI) vcl [(ph, .inr (2, [.ref pr, .int (nI pl)])), (pr, .inl ((cT 0), np, .inl fp)), (wo, .inl ((cT 0), 16, .inl fw2_27)), (g0, .inr (3, [.ref tx, .ref wo, .ref di, .int a2_29, .int b2_30, .int c2_31, .int d2_32])), (sh, .inr (1, [.ref sr, .int (nI sl)])), (sr, .inl ((cT 0), ns, .inl fs)), (tx, .inr (1, [.ref tr, .int (nI (64 + 16))])), (tr, .inl ((cT 0), 1192, .inl g_41)), (di, .inl ((cT 0), 16, .inl fd2_28))] H := hP
  have hD : va_D A [(ph, .inr (2, [.ref pr, .int (nI pl)])), (pr, .inl ((cT 0), np, .inl fp)), (wo, .inl ((cT 0), 16, .inl fw2_27)), (g0, .inr (3, [.ref tx, .ref wo, .ref di, .int a2_29, .int b2_30, .int c2_31, .int d2_32])), (sh, .inr (1, [.ref sr, .int (nI sl)])), (sr, .inl ((cT 0), ns, .inl fs)), (tx, .inr (1, [.ref tr, .int (nI (64 + 16))])), (tr, .inl ((cT 0), 1192, .inl g_41)), (di, .inl ((cT 0), 16, .inl fd2_28))] := hD
  refine lv_aload_n hx hb d_Dg_ofProof_39 rfl (lv_at hl 0 rfl) ?_
  have hPc := hP.sub (ws' := [(g0, .inr (3, [.ref tx, .ref wo, .ref di, .int a2_29, .int b2_30, .int c2_31, .int d2_32])), (tx, .inr (1, [.ref tr, .int (nI (64 + 16))])), (tr, .inl ((cT 0), 1192, .inl g_41)), (wo, .inl ((cT 0), 16, .inl fw2_27)), (di, .inl ((cT 0), 16, .inl fd2_28))]) [3, 6, 7, 2, 8] rfl
  have hDc := hD.sub (ws' := [(g0, .inr (3, [.ref tx, .ref wo, .ref di, .int a2_29, .int b2_30, .int c2_31, .int d2_32])), (tx, .inr (1, [.ref tr, .int (nI (64 + 16))])), (tr, .inl ((cT 0), 1192, .inl g_41)), (wo, .inl ((cT 0), 16, .inl fw2_27)), (di, .inl ((cT 0), 16, .inl fd2_28))]) [3, 6, 7, 2, 8] (by decide) rfl
  have hFc := va_free (wc := [(g0, .inr (3, [.ref tx, .ref wo, .ref di, .int a2_29, .int b2_30, .int c2_31, .int d2_32])), (tx, .inr (1, [.ref tr, .int (nI (64 + 16))])), (tr, .inl ((cT 0), 1192, .inl g_41)), (wo, .inl ((cT 0), 16, .inl fw2_27)), (di, .inl ((cT 0), 16, .inl fd2_28))]) hD hS hA [3, 6, 7, 2, 8] rfl
  refine va_callr (va_runV (C := "DoorServer$Digests") (As := []) (rest := []) ⟨hx, hb, hml, hown, hg⟩ (c_Dg_text l dC dI cT H.size g0 tx tr wo di a2_29 b2_30 c2_31 d2_32 (64 + 16) g_41 fw2_27 fd2_28 (by decide)) (cwV 0 hg (gI (List.forall_mem_append.mpr ⟨List.forall_mem_cons.mpr ⟨k_583, List.forall_mem_cons.mpr ⟨k_585, List.forall_mem_cons.mpr ⟨(big_sel (q := y_Dg_digestText) (n := 7) (by decide +kernel)), List.forall_mem_cons.mpr ⟨k_5, fun _ h => absurd h List.not_mem_nil⟩⟩⟩⟩, List.forall_mem_cons.mpr ⟨k_586, fun _ h => h⟩⟩)) rfl rfl rfl (by decide +kernel) ⟨Nat.le_of_ble_eq_true rfl, Nat.le_of_ble_eq_true rfl⟩) ⟨fun a U g mk q => by obtain ⟨q0, q1, qP, qK, qD, qE⟩ := q; exact ⟨q0, q1, qP, va_K.moved (u := U) (U := U.calling g mk a) (Vm.Alike.refl U.vm) qK, qD, qE.at (State.WarmedH.refl _) (fun _ _ _ => rfl) (fun _ h => h)⟩, va_recv (q0 := 3) (ci := 3) hK hP rfl rfl, fun U hU hW => ⟨rfl, by rw [hU], by rw [hU]; exact hPc, va_K.moved hW.alike hK, hDc.weaken (fun _ _ _ _ => trivial), by rw [hU]; exact hE.at hW hS.2.1 hFc⟩⟩ rfl rfl hl.1 rfl (lv_room (Nat.le_of_ble_eq_true rfl)) d_Dg_ofProof_40 ⟨Nat.le_of_ble_eq_true rfl, Nat.le_of_ble_eq_true rfl⟩) hS (fun q _ h => hFc q h) hFc (fun u a9 t H1 locs ht hvm hw hB hz1 hk1 hS => ?_)
  obtain ⟨fw2_43, fd2_44, a2_45, b2_46, c2_47, d2_48, f2_49⟩ := u
  try dsimp only at hw hB
  obtain ⟨rfl, hP1, hK1, hD1⟩ := hB
  rw [ht] at hP1
  obtain ⟨hP, hD⟩ := va_join (wr := [(ph, .inr (2, [.ref pr, .int (nI pl)])), (pr, .inl ((cT 0), np, .inl fp)), (sh, .inr (1, [.ref sr, .int (nI sl)])), (sr, .inl ((cT 0), ns, .inl fs))]) (w1 := [(g0, .inr (3, [.ref tx, .ref wo, .ref di, .int a2_45, .int b2_46, .int c2_47, .int d2_48])), (tx, .inr (1, [.ref tr, .int (nI (64 + 16))])), (tr, .inl ((cT 0), 1192, .inl f2_49)), (wo, .inl ((cT 0), 16, .inl fw2_43)), (di, .inl ((cT 0), 16, .inl fd2_44))]) hP hD [3, 6, 7, 2, 8] [0, 1, 4, 5] rfl rfl (by decide) (by decide) hk1 hFc hP1 hD1
  have hw50 := hw
  clear hPc hDc hFc hz1 hk1 hP1 hK1 hD1
  generalize H1 = H at hP hS ⊢
  have hP : va_P (dC, dI) vcl [(ph, .inr (2, [.ref pr, .int (nI pl)])), (pr, .inl ((cT 0), np, .inl fp)), (sh, .inr (1, [.ref sr, .int (nI sl)])), (sr, .inl ((cT 0), ns, .inl fs)), (g0, .inr (3, [.ref tx, .ref wo, .ref di, .int a2_45, .int b2_46, .int c2_47, .int d2_48])), (tx, .inr (1, [.ref tr, .int (nI (64 + 16))])), (tr, .inl ((cT 0), 1192, .inl f2_49)), (wo, .inl ((cT 0), 16, .inl fw2_43)), (di, .inl ((cT 0), 16, .inl fd2_44))] H := hP
  have hD : va_D A [(ph, .inr (2, [.ref pr, .int (nI pl)])), (pr, .inl ((cT 0), np, .inl fp)), (sh, .inr (1, [.ref sr, .int (nI sl)])), (sr, .inl ((cT 0), ns, .inl fs)), (g0, .inr (3, [.ref tx, .ref wo, .ref di, .int a2_45, .int b2_46, .int c2_47, .int d2_48])), (tx, .inr (1, [.ref tr, .int (nI (64 + 16))])), (tr, .inl ((cT 0), 1192, .inl f2_49)), (wo, .inl ((cT 0), 16, .inl fw2_43)), (di, .inl ((cT 0), 16, .inl fd2_44))] := hD
  have hP9 := hP.sub (ws' := [(g0, .inr (3, [.ref tx, .ref wo, .ref di, .int a2_45, .int b2_46, .int c2_47, .int d2_48])), (tx, .inr (1, [.ref tr, .int (nI (64 + 16))])), (tr, .inl ((cT 0), 1192, .inl f2_49)), (wo, .inl ((cT 0), 16, .inl fw2_43)), (di, .inl ((cT 0), 16, .inl fd2_44)), (sh, .inr (1, [.ref sr, .int (nI sl)])), (sr, .inl ((cT 0), ns, .inl fs)), (ph, .inr (2, [.ref pr, .int (nI pl)])), (pr, .inl ((cT 0), np, .inl fp))]) [4, 5, 6, 7, 8, 2, 3, 0, 1] rfl
  have hD9 := hD.sub (ws' := [(g0, .inr (3, [.ref tx, .ref wo, .ref di, .int a2_45, .int b2_46, .int c2_47, .int d2_48])), (tx, .inr (1, [.ref tr, .int (nI (64 + 16))])), (tr, .inl ((cT 0), 1192, .inl f2_49)), (wo, .inl ((cT 0), 16, .inl fw2_43)), (di, .inl ((cT 0), 16, .inl fd2_44)), (sh, .inr (1, [.ref sr, .int (nI sl)])), (sr, .inl ((cT 0), ns, .inl fs)), (ph, .inr (2, [.ref pr, .int (nI pl)])), (pr, .inl ((cT 0), np, .inl fp))]) [4, 5, 6, 7, 8, 2, 3, 0, 1] (by decide) rfl
  exact W.aret (v := .ref di) hx hb hr (by first | exact Or.inr ⟨_, rfl⟩ | exact Or.inl ⟨_, rfl⟩) (Or.inr ⟨_, rfl⟩) (fun t ht hW => ⟨⟨⟨fw2_43, fd2_44, a2_45, b2_46, c2_47, d2_48, f2_49⟩, _, rfl, fun h9 => hw50 (hw34 h9), rfl, by rw [ht]; exact hP9, va_K.moved hW.alike hK, hD9⟩, hS.F ht⟩) hS.2.2 d_Dg_ofProof_43
set_option maxHeartbeats 4000000 in
set_option maxRecDepth 100000 in
/-- ofSeal -/
theorem c_Dg_seal (l : Launch) (dC : Nat → ClassId) (dI : Nat → Nat → Nat) (cT : Nat → ClassId) (sz : Nat) (g0 : Nat) (tx : Nat) (tr : Nat) (wo : Nat) (di : Nat) (va : Int32) (vb : Int32) (vc : Int32) (vd : Int32) (len : Nat) (f : Nat → Int32) (fw : Nat → Int32) (fd : Nat → Int32) (sh : Nat) (sr : Nat) (ns : Nat) (sl : Nat) (fs : Nat → Int32) (ph : Nat) (pr : Nat) (np : Nat) (pl : Nat) (fp : Nat → Int32) (hsl : sl ≤ ns) (hns : ns < 2 ^ 31) (hpl : pl ≤ np) (hnp : np < 2 ^ 31) (hat : 20 ≤ pl) (hp : pl ≤ 1000) (hs40 : sl ≤ 64) : Met l y_Dg_ofSeal (Cond.code y_Dg_ofSeal b_Dg_ofSeal 3 (Option.some (Jvm.ClassFile.FieldType.array Jvm.ClassFile.FieldType.int)) :: BIG) ({ frames := 3, cells := 0, slots := 0, locals := 106 }) (va_Pc [.ref g0, .ref sh, .ref ph] (fun U => U.heap.size = sz ∧ va_P (dC, dI) vcl [(g0, .inr (3, [.ref tx, .ref wo, .ref di, .int va, .int vb, .int vc, .int vd])), (tx, .inr (1, [.ref tr, .int (nI len)])), (tr, .inl ((cT 0), 1192, .inl f)), (wo, .inl ((cT 0), 16, .inl fw)), (di, .inl ((cT 0), 16, .inl fd)), (sh, .inr (1, [.ref sr, .int (nI sl)])), (sr, .inl ((cT 0), ns, .inl fs)), (ph, .inr (2, [.ref pr, .int (nI pl)])), (pr, .inl ((cT 0), np, .inl fp))] U.heap ∧ va_K (dC, dI) vcl (tyL cT) U ∧ va_D (fun _ => True) [(g0, .inr (3, [.ref tx, .ref wo, .ref di, .int va, .int vb, .int vc, .int vd])), (tx, .inr (1, [.ref tr, .int (nI len)])), (tr, .inl ((cT 0), 1192, .inl f)), (wo, .inl ((cT 0), 16, .inl fw)), (di, .inl ((cT 0), 16, .inl fd)), (sh, .inr (1, [.ref sr, .int (nI sl)])), (sr, .inl ((cT 0), ns, .inl fs)), (ph, .inr (2, [.ref pr, .int (nI pl)])), (pr, .inl ((cT 0), np, .inl fp))] ∧ xm (va_A [(g0, .inr (3, [.ref tx, .ref wo, .ref di, .int va, .int vb, .int vc, .int vd])), (tx, .inr (1, [.ref tr, .int (nI len)])), (tr, .inl ((cT 0), 1192, .inl f)), (wo, .inl ((cT 0), 16, .inl fw)), (di, .inl ((cT 0), 16, .inl fd)), (sh, .inr (1, [.ref sr, .int (nI sl)])), (sr, .inl ((cT 0), ns, .inl fs)), (ph, .inr (2, [.ref pr, .int (nI pl)])), (pr, .inl ((cT 0), np, .inl fp))] sz) U U.heap)) (va_Qr (S := (Nat → Int32) × (Nat → Int32) × Int32 × Int32 × Int32 × Int32 × (Nat → Int32)) (fun u => match u with | (fw2, fd2, a2, b2, c2, d2, f2) => AB fd → AB fd2) (fun u a t => match u with | (fw2, fd2, a2, b2, c2, d2, f2) => di = a ∧ va_P (dC, dI) vcl [(g0, .inr (3, [.ref tx, .ref wo, .ref di, .int a2, .int b2, .int c2, .int d2])), (tx, .inr (1, [.ref tr, .int (nI (0 + pl + sl))])), (tr, .inl ((cT 0), 1192, .inl f2)), (wo, .inl ((cT 0), 16, .inl fw2)), (di, .inl ((cT 0), 16, .inl fd2)), (sh, .inr (1, [.ref sr, .int (nI sl)])), (sr, .inl ((cT 0), ns, .inl fs)), (ph, .inr (2, [.ref pr, .int (nI pl)])), (pr, .inl ((cT 0), np, .inl fp))] t.heap ∧ va_K (dC, dI) vcl (tyL cT) t ∧ va_D (va_A [(g0, .inr (3, [.ref tx, .ref wo, .ref di, .int va, .int vb, .int vc, .int vd])), (tx, .inr (1, [.ref tr, .int (nI len)])), (tr, .inl ((cT 0), 1192, .inl f)), (wo, .inl ((cT 0), 16, .inl fw)), (di, .inl ((cT 0), 16, .inl fd)), (sh, .inr (1, [.ref sr, .int (nI sl)])), (sr, .inl ((cT 0), ns, .inl fs)), (ph, .inr (2, [.ref pr, .int (nI pl)])), (pr, .inl ((cT 0), np, .inl fp))] sz) [(g0, .inr (3, [.ref tx, .ref wo, .ref di, .int a2, .int b2, .int c2, .int d2])), (tx, .inr (1, [.ref tr, .int (nI (0 + pl + sl))])), (tr, .inl ((cT 0), 1192, .inl f2)), (wo, .inl ((cT 0), 16, .inl fw2)), (di, .inl ((cT 0), 16, .inl fd2)), (sh, .inr (1, [.ref sr, .int (nI sl)])), (sr, .inl ((cT 0), ns, .inl fs)), (ph, .inr (2, [.ref pr, .int (nI pl)])), (pr, .inl ((cT 0), np, .inl fp))]) (va_A [(g0, .inr (3, [.ref tx, .ref wo, .ref di, .int va, .int vb, .int vc, .int vd])), (tx, .inr (1, [.ref tr, .int (nI len)])), (tr, .inl ((cT 0), 1192, .inl f)), (wo, .inl ((cT 0), 16, .inl fw)), (di, .inl ((cT 0), 16, .inl fd)), (sh, .inr (1, [.ref sr, .int (nI sl)])), (sr, .inl ((cT 0), ns, .inl fs)), (ph, .inr (2, [.ref pr, .int (nI pl)])), (pr, .inl ((cT 0), np, .inl fp))] sz)) 0 0 (va_A [(g0, .inr (3, [.ref tx, .ref wo, .ref di, .int va, .int vb, .int vc, .int vd])), (tx, .inr (1, [.ref tr, .int (nI len)])), (tr, .inl ((cT 0), 1192, .inl f)), (wo, .inl ((cT 0), 16, .inl fw)), (di, .inl ((cT 0), 16, .inl fd)), (sh, .inr (1, [.ref sr, .int (nI sl)])), (sr, .inl ((cT 0), ns, .inl fs)), (ph, .inr (2, [.ref pr, .int (nI pl)])), (pr, .inl ((cT 0), np, .inl fp))] sz) := by
  refine Met.ofW (cc := b_Dg_ofSeal) (maxL := 3) (ret := (Option.some (Jvm.ClassFile.FieldType.array Jvm.ClassFile.FieldType.int))) (by decide) rfl ?_
  intro p e s m args below meth c s₁ B hml hv
  obtain ⟨hargs, hsz, hP, hK, hD0, hE⟩ := hv
  have hx := B.exec
  have hb := B.bytes
  have hr := B.returns
  have hts := atoms_spec (ws := (Cond.code y_Dg_ofSeal b_Dg_ofSeal 3 (Option.some (Jvm.ClassFile.FieldType.array Jvm.ClassFile.FieldType.int)) :: BIG)) B.pre
  have hg : ∀ w ∈ BIG, w.before _ s = true := fun w h => hts w (List.mem_cons_of_mem _ h)
  have hown : s.vm.findClass "DoorServer$Digests" = some m.cls := findClass_of_methodNamed B.named
  have hlocks := B.notSynchronized
  subst hsz
  have hD := hD0.self (sz := s.heap.size)
  generalize hAe : va_A [(g0, .inr (3, [.ref tx, .ref wo, .ref di, .int va, .int vb, .int vc, .int vd])), (tx, .inr (1, [.ref tr, .int (nI len)])), (tr, .inl ((cT 0), 1192, .inl f)), (wo, .inl ((cT 0), 16, .inl fw)), (di, .inl ((cT 0), 16, .inl fd)), (sh, .inr (1, [.ref sr, .int (nI sl)])), (sr, .inl ((cT 0), ns, .inl fs)), (ph, .inr (2, [.ref pr, .int (nI pl)])), (pr, .inl ((cT 0), np, .inl fp))] s.heap.size = A at hD hE ⊢
  have hA : ∀ q : Nat, s.heap.size ≤ q → A q := fun q h => by rw [← hAe]; exact Or.inr h
  have hS : va_S A s.heap s.heap [] := va_S.rf
  have hl := lv_entry ([.ref g0, .ref sh, .ref ph]) (n := 3) (Nat.le_of_ble_eq_true rfl)
  refine W.eq (g2 := entryFrame m (List.toArray [.ref g0, .ref sh, .ref ph]) 3) (by rw [hargs]) ?_
  rw [lg_entry_eq]
  generalize (lg_sl ([.ref g0, .ref sh, .ref ph]) ++ List.replicate (3 - (lg_sl ([.ref g0, .ref sh, .ref ph])).length) Slot.unset).toArray = ls at hl ⊢
  have hl : lv_has ls 3 [(0, .ref g0), (1, .ref sh), (2, .ref ph)] := hl
  change W p l e ({ frames := 3, cells := 0, slots := 0, locals := 106 } : Room) s m args below meth c s.heap [] 0 0 _ _
  have hP : va_P (dC, dI) vcl [(g0, .inr (3, [.ref tx, .ref wo, .ref di, .int va, .int vb, .int vc, .int vd])), (tx, .inr (1, [.ref tr, .int (nI len)])), (tr, .inl ((cT 0), 1192, .inl f)), (wo, .inl ((cT 0), 16, .inl fw)), (di, .inl ((cT 0), 16, .inl fd)), (sh, .inr (1, [.ref sr, .int (nI sl)])), (sr, .inl ((cT 0), ns, .inl fs)), (ph, .inr (2, [.ref pr, .int (nI pl)])), (pr, .inl ((cT 0), np, .inl fp))] s.heap := hP
  refine lv_aload_n hx hb d_Dg_ofSeal_0 rfl (lv_at hl 0 rfl) ?_
  refine va_get (D := (dC, dI)) (ci := 3) (v := (.ref tx)) (C := R_Dg) (T := F_Dg) (N := 7) hx hb hg in_Dg hown hK hP 0 rfl rfl 0 (by decide) (hg _ k_116) (fun _ h9 => h9) rfl d_Dg_ofSeal_1 ?_
  refine lv_iconst (v := 0) hx hb d_Dg_ofSeal_4 (by decide) ?_
  refine lv_topi (fun x52 e51 => ?_)
  obtain rfl : x52 = nI 0 := by rw [e51]; rfl
  refine va_put (D := (dC, dI)) (ci := 1) (v := (.int (nI 0))) (ty := .int) (C := R_By) (T := F_By) (N := 2) hx hb hg in_By t_By tok_By nm_By hown hK hP hD hS 1 rfl rfl 1 (by decide) (hg _ k_57) (fun _ h9 => h9) rfl (by decide +kernel) rfl rfl (Nat.le_of_ble_eq_true rfl) d_Dg_ofSeal_5 (fun H locs hP hD hS => ?_)
  have hP : va_P (dC, dI) vcl [(g0, .inr (3, [.ref tx, .ref wo, .ref di, .int va, .int vb, .int vc, .int vd])), (tx, .inr (1, [.ref tr, .int (nI 0)])), (tr, .inl ((cT 0), 1192, .inl f)), (wo, .inl ((cT 0), 16, .inl fw)), (di, .inl ((cT 0), 16, .inl fd)), (sh, .inr (1, [.ref sr, .int (nI sl)])), (sr, .inl ((cT 0), ns, .inl fs)), (ph, .inr (2, [.ref pr, .int (nI pl)])), (pr, .inl ((cT 0), np, .inl fp))] H := hP
  have hD : va_D A [(g0, .inr (3, [.ref tx, .ref wo, .ref di, .int va, .int vb, .int vc, .int vd])), (tx, .inr (1, [.ref tr, .int (nI 0)])), (tr, .inl ((cT 0), 1192, .inl f)), (wo, .inl ((cT 0), 16, .inl fw)), (di, .inl ((cT 0), 16, .inl fd)), (sh, .inr (1, [.ref sr, .int (nI sl)])), (sr, .inl ((cT 0), ns, .inl fs)), (ph, .inr (2, [.ref pr, .int (nI pl)])), (pr, .inl ((cT 0), np, .inl fp))] := hD
  refine lv_aload_n hx hb d_Dg_ofSeal_8 rfl (lv_at hl 0 rfl) ?_
  refine lv_aload_n hx hb d_Dg_ofSeal_9 rfl (lv_at hl 2 rfl) ?_
  refine lv_iconst (v := 4) hx hb d_Dg_ofSeal_10 (by decide) ?_
  refine lv_topi (fun x54 e53 => ?_)
  obtain rfl : x54 = nI 4 := by rw [e53]; rfl
  have hPc := hP.sub (ws' := [(g0, .inr (3, [.ref tx, .ref wo, .ref di, .int va, .int vb, .int vc, .int vd])), (tx, .inr (1, [.ref tr, .int (nI 0)])), (tr, .inl ((cT 0), 1192, .inl f)), (ph, .inr (2, [.ref pr, .int (nI pl)])), (pr, .inl ((cT 0), np, .inl fp))]) [0, 1, 2, 7, 8] rfl
  have hDc := hD.sub (ws' := [(g0, .inr (3, [.ref tx, .ref wo, .ref di, .int va, .int vb, .int vc, .int vd])), (tx, .inr (1, [.ref tr, .int (nI 0)])), (tr, .inl ((cT 0), 1192, .inl f)), (ph, .inr (2, [.ref pr, .int (nI pl)])), (pr, .inl ((cT 0), np, .inl fp))]) [0, 1, 2, 7, 8] (by decide) rfl
  have hFc := va_free (wc := [(g0, .inr (3, [.ref tx, .ref wo, .ref di, .int va, .int vb, .int vc, .int vd])), (tx, .inr (1, [.ref tr, .int (nI 0)])), (tr, .inl ((cT 0), 1192, .inl f)), (ph, .inr (2, [.ref pr, .int (nI pl)])), (pr, .inl ((cT 0), np, .inl fp))]) hD hS hA [0, 1, 2, 7, 8] rfl
  refine va_callv (va_runV (C := "DoorServer$Digests") (As := [.ref ph, .int (nI 4)]) (rest := []) ⟨hx, hb, hml, hown, hg⟩ (c_Dg_blank l dC dI cT H.size g0 tx tr wo di va vb vc vd 0 f ph pr np pl fp 4 (hpl) (hnp) (by omega) (by omega)) (cwV 2 hg (gI (List.forall_mem_append.mpr ⟨List.forall_mem_cons.mpr ⟨k_656, List.forall_mem_cons.mpr ⟨k_658, List.forall_mem_cons.mpr ⟨(big_sel (q := y_Dg_appendBlanked) (n := 7) (by decide +kernel)), List.forall_mem_cons.mpr ⟨k_5, fun _ h => absurd h List.not_mem_nil⟩⟩⟩⟩, List.forall_mem_cons.mpr ⟨k_659, fun _ h => h⟩⟩)) rfl rfl rfl (by decide +kernel) ⟨Nat.le_of_ble_eq_true rfl, Nat.le_of_ble_eq_true rfl⟩) ⟨fun a U g mk q => by obtain ⟨q0, q1, qP, qK, qD⟩ := q; exact ⟨q0, q1, qP, va_K.moved (u := U) (U := U.calling g mk a) (Vm.Alike.refl U.vm) qK, qD⟩, va_recv (q0 := 0) (ci := 3) hK hP rfl rfl, fun U hU hW => ⟨rfl, by rw [hU], by rw [hU]; exact hPc, va_K.moved hW.alike hK, hDc.weaken (fun _ _ _ _ => trivial)⟩⟩ rfl rfl hl.1 rfl (lv_room (Nat.le_of_ble_eq_true rfl)) d_Dg_ofSeal_11 ⟨Nat.le_of_ble_eq_true rfl, Nat.le_of_ble_eq_true rfl⟩) hS (fun q _ h => hFc q h) hFc (fun u t H1 locs ht hvm hw hB hz1 hk1 hS => ?_)
  obtain ⟨f2_55, rfl⟩ : ∃ z, z = u := ⟨_, rfl⟩
  try dsimp only at hw hB
  obtain ⟨hP1, hK1, hD1⟩ := hB
  rw [ht] at hP1
  obtain ⟨hP, hD⟩ := va_join (wr := [(wo, .inl ((cT 0), 16, .inl fw)), (di, .inl ((cT 0), 16, .inl fd)), (sh, .inr (1, [.ref sr, .int (nI sl)])), (sr, .inl ((cT 0), ns, .inl fs))]) (w1 := [(g0, .inr (3, [.ref tx, .ref wo, .ref di, .int va, .int vb, .int vc, .int vd])), (tx, .inr (1, [.ref tr, .int (nI (0 + pl))])), (tr, .inl ((cT 0), 1192, .inl f2_55)), (ph, .inr (2, [.ref pr, .int (nI pl)])), (pr, .inl ((cT 0), np, .inl fp))]) hP hD [0, 1, 2, 7, 8] [3, 4, 5, 6] rfl rfl (by decide) (by decide) hk1 hFc hP1 hD1
  have hw56 := hw
  clear hPc hDc hFc hz1 hk1 hP1 hK1 hD1
  generalize H1 = H at hP hS ⊢
  have hP : va_P (dC, dI) vcl [(wo, .inl ((cT 0), 16, .inl fw)), (di, .inl ((cT 0), 16, .inl fd)), (sh, .inr (1, [.ref sr, .int (nI sl)])), (sr, .inl ((cT 0), ns, .inl fs)), (g0, .inr (3, [.ref tx, .ref wo, .ref di, .int va, .int vb, .int vc, .int vd])), (tx, .inr (1, [.ref tr, .int (nI (0 + pl))])), (tr, .inl ((cT 0), 1192, .inl f2_55)), (ph, .inr (2, [.ref pr, .int (nI pl)])), (pr, .inl ((cT 0), np, .inl fp))] H := hP
  have hD : va_D A [(wo, .inl ((cT 0), 16, .inl fw)), (di, .inl ((cT 0), 16, .inl fd)), (sh, .inr (1, [.ref sr, .int (nI sl)])), (sr, .inl ((cT 0), ns, .inl fs)), (g0, .inr (3, [.ref tx, .ref wo, .ref di, .int va, .int vb, .int vc, .int vd])), (tx, .inr (1, [.ref tr, .int (nI (0 + pl))])), (tr, .inl ((cT 0), 1192, .inl f2_55)), (ph, .inr (2, [.ref pr, .int (nI pl)])), (pr, .inl ((cT 0), np, .inl fp))] := hD
  refine lv_aload_n hx hb d_Dg_ofSeal_14 rfl (lv_at hl 0 rfl) ?_
  refine va_get (D := (dC, dI)) (ci := 3) (v := (.ref tx)) (C := R_Dg) (T := F_Dg) (N := 7) hx hb hg in_Dg hown hK hP 4 rfl rfl 0 (by decide) (hg _ k_116) (fun _ h9 => h9) rfl d_Dg_ofSeal_15 ?_
  refine lv_aload_n hx hb d_Dg_ofSeal_18 rfl (lv_at hl 1 rfl) ?_
  refine va_get (D := (dC, dI)) (ci := 1) (v := (.ref sr)) (C := R_By) (T := F_By) (N := 2) hx hb hg in_By hown hK hP 2 rfl rfl 0 (by decide) (hg _ k_44) (fun _ h9 => h9) rfl d_Dg_ofSeal_19 ?_
  refine lv_iconst (v := 0) hx hb d_Dg_ofSeal_22 (by decide) ?_
  refine lv_topi (fun x58 e57 => ?_)
  obtain rfl : x58 = nI 0 := by rw [e57]; rfl
  refine lv_aload_n hx hb d_Dg_ofSeal_23 rfl (lv_at hl 1 rfl) ?_
  refine va_get (D := (dC, dI)) (ci := 1) (v := (.int (nI sl))) (C := R_By) (T := F_By) (N := 2) hx hb hg in_By hown hK hP 2 rfl rfl 1 (by decide) (hg _ k_57) (fun _ h9 => h9) rfl d_Dg_ofSeal_24 ?_
  have hPc := hP.sub (ws' := [(tx, .inr (1, [.ref tr, .int (nI (0 + pl))])), (tr, .inl ((cT 0), 1192, .inl f2_55)), (sr, .inl ((cT 0), ns, .inl fs))]) [5, 6, 3] rfl
  have hDc := hD.sub (ws' := [(tx, .inr (1, [.ref tr, .int (nI (0 + pl))])), (tr, .inl ((cT 0), 1192, .inl f2_55)), (sr, .inl ((cT 0), ns, .inl fs))]) [5, 6, 3] (by decide) rfl
  have hFc := va_free (wc := [(tx, .inr (1, [.ref tr, .int (nI (0 + pl))])), (tr, .inl ((cT 0), 1192, .inl f2_55)), (sr, .inl ((cT 0), ns, .inl fs))]) hD hS hA [5, 6, 3] rfl
  refine va_callv (va_runV (C := "DoorServer$Bytes") (As := [.ref sr, .int (nI 0), .int (nI sl)]) (rest := []) ⟨hx, hb, hml, hown, hg⟩ (c_By_row l dC dI cT H.size tx tr 1192 (0 + pl) f2_55 sr ns fs 0 sl (by omega) (by decide) (by omega) (hns)) (cwV 3 hg (gI (List.forall_mem_append.mpr ⟨List.forall_mem_cons.mpr ⟨k_582, List.forall_mem_cons.mpr ⟨k_574, List.forall_mem_cons.mpr ⟨k_575, List.forall_mem_cons.mpr ⟨k_2, fun _ h => absurd h List.not_mem_nil⟩⟩⟩⟩, List.forall_mem_cons.mpr ⟨k_578, fun _ h => h⟩⟩)) rfl rfl rfl (by decide +kernel) ⟨Nat.le_of_ble_eq_true rfl, Nat.le_of_ble_eq_true rfl⟩) ⟨fun a U g mk q => by obtain ⟨q0, q1, qP, qK, qD⟩ := q; exact ⟨q0, q1, qP, va_K.moved (u := U) (U := U.calling g mk a) (Vm.Alike.refl U.vm) qK, qD⟩, va_recv (q0 := 5) (ci := 1) hK hP rfl rfl, fun U hU hW => ⟨rfl, by rw [hU], by rw [hU]; exact hPc, va_K.moved hW.alike hK, hDc.weaken (fun _ _ _ _ => trivial)⟩⟩ rfl rfl hl.1 rfl (lv_room (Nat.le_of_ble_eq_true rfl)) d_Dg_ofSeal_27 ⟨Nat.le_of_ble_eq_true rfl, Nat.le_of_ble_eq_true rfl⟩) hS (fun q _ h => hFc q h) hFc (fun u t H1 locs ht hvm hw hB hz1 hk1 hS => ?_)
  obtain ⟨g_59, rfl⟩ : ∃ z, z = u := ⟨_, rfl⟩
  try dsimp only at hw hB
  obtain ⟨hP1, hK1, hD1⟩ := hB
  rw [ht] at hP1
  obtain ⟨hP, hD⟩ := va_join (wr := [(wo, .inl ((cT 0), 16, .inl fw)), (di, .inl ((cT 0), 16, .inl fd)), (sh, .inr (1, [.ref sr, .int (nI sl)])), (g0, .inr (3, [.ref tx, .ref wo, .ref di, .int va, .int vb, .int vc, .int vd])), (ph, .inr (2, [.ref pr, .int (nI pl)])), (pr, .inl ((cT 0), np, .inl fp))]) (w1 := [(tx, .inr (1, [.ref tr, .int (nI ((0 + pl) + sl))])), (tr, .inl ((cT 0), 1192, .inl g_59)), (sr, .inl ((cT 0), ns, .inl fs))]) hP hD [5, 6, 3] [0, 1, 2, 4, 7, 8] rfl rfl (by decide) (by decide) hk1 hFc hP1 hD1
  have hw60 := hw
  clear hPc hDc hFc hz1 hk1 hP1 hK1 hD1
  generalize H1 = H at hP hS ⊢
  have hP : va_P (dC, dI) vcl [(wo, .inl ((cT 0), 16, .inl fw)), (di, .inl ((cT 0), 16, .inl fd)), (sh, .inr (1, [.ref sr, .int (nI sl)])), (g0, .inr (3, [.ref tx, .ref wo, .ref di, .int va, .int vb, .int vc, .int vd])), (ph, .inr (2, [.ref pr, .int (nI pl)])), (pr, .inl ((cT 0), np, .inl fp)), (tx, .inr (1, [.ref tr, .int (nI ((0 + pl) + sl))])), (tr, .inl ((cT 0), 1192, .inl g_59)), (sr, .inl ((cT 0), ns, .inl fs))] H := hP
  have hD : va_D A [(wo, .inl ((cT 0), 16, .inl fw)), (di, .inl ((cT 0), 16, .inl fd)), (sh, .inr (1, [.ref sr, .int (nI sl)])), (g0, .inr (3, [.ref tx, .ref wo, .ref di, .int va, .int vb, .int vc, .int vd])), (ph, .inr (2, [.ref pr, .int (nI pl)])), (pr, .inl ((cT 0), np, .inl fp)), (tx, .inr (1, [.ref tr, .int (nI ((0 + pl) + sl))])), (tr, .inl ((cT 0), 1192, .inl g_59)), (sr, .inl ((cT 0), ns, .inl fs))] := hD
  refine lv_aload_n hx hb d_Dg_ofSeal_30 rfl (lv_at hl 0 rfl) ?_
  have hPc := hP.sub (ws' := [(g0, .inr (3, [.ref tx, .ref wo, .ref di, .int va, .int vb, .int vc, .int vd])), (tx, .inr (1, [.ref tr, .int (nI (0 + pl + sl))])), (tr, .inl ((cT 0), 1192, .inl g_59)), (wo, .inl ((cT 0), 16, .inl fw)), (di, .inl ((cT 0), 16, .inl fd))]) [3, 6, 7, 0, 1] rfl
  have hDc := hD.sub (ws' := [(g0, .inr (3, [.ref tx, .ref wo, .ref di, .int va, .int vb, .int vc, .int vd])), (tx, .inr (1, [.ref tr, .int (nI (0 + pl + sl))])), (tr, .inl ((cT 0), 1192, .inl g_59)), (wo, .inl ((cT 0), 16, .inl fw)), (di, .inl ((cT 0), 16, .inl fd))]) [3, 6, 7, 0, 1] (by decide) rfl
  have hFc := va_free (wc := [(g0, .inr (3, [.ref tx, .ref wo, .ref di, .int va, .int vb, .int vc, .int vd])), (tx, .inr (1, [.ref tr, .int (nI (0 + pl + sl))])), (tr, .inl ((cT 0), 1192, .inl g_59)), (wo, .inl ((cT 0), 16, .inl fw)), (di, .inl ((cT 0), 16, .inl fd))]) hD hS hA [3, 6, 7, 0, 1] rfl
  refine va_callr (va_runV (C := "DoorServer$Digests") (As := []) (rest := []) ⟨hx, hb, hml, hown, hg⟩ (c_Dg_text l dC dI cT H.size g0 tx tr wo di va vb vc vd (0 + pl + sl) g_59 fw fd (by omega)) (cwV 0 hg (gI (List.forall_mem_append.mpr ⟨List.forall_mem_cons.mpr ⟨k_583, List.forall_mem_cons.mpr ⟨k_585, List.forall_mem_cons.mpr ⟨(big_sel (q := y_Dg_digestText) (n := 7) (by decide +kernel)), List.forall_mem_cons.mpr ⟨k_5, fun _ h => absurd h List.not_mem_nil⟩⟩⟩⟩, List.forall_mem_cons.mpr ⟨k_586, fun _ h => h⟩⟩)) rfl rfl rfl (by decide +kernel) ⟨Nat.le_of_ble_eq_true rfl, Nat.le_of_ble_eq_true rfl⟩) ⟨fun a U g mk q => by obtain ⟨q0, q1, qP, qK, qD, qE⟩ := q; exact ⟨q0, q1, qP, va_K.moved (u := U) (U := U.calling g mk a) (Vm.Alike.refl U.vm) qK, qD, qE.at (State.WarmedH.refl _) (fun _ _ _ => rfl) (fun _ h => h)⟩, va_recv (q0 := 3) (ci := 3) hK hP rfl rfl, fun U hU hW => ⟨rfl, by rw [hU], by rw [hU]; exact hPc, va_K.moved hW.alike hK, hDc.weaken (fun _ _ _ _ => trivial), by rw [hU]; exact hE.at hW hS.2.1 hFc⟩⟩ rfl rfl hl.1 rfl (lv_room (Nat.le_of_ble_eq_true rfl)) d_Dg_ofSeal_31 ⟨Nat.le_of_ble_eq_true rfl, Nat.le_of_ble_eq_true rfl⟩) hS (fun q _ h => hFc q h) hFc (fun u a9 t H1 locs ht hvm hw hB hz1 hk1 hS => ?_)
  obtain ⟨fw2_61, fd2_62, a2_63, b2_64, c2_65, d2_66, f2_67⟩ := u
  try dsimp only at hw hB
  obtain ⟨rfl, hP1, hK1, hD1⟩ := hB
  rw [ht] at hP1
  obtain ⟨hP, hD⟩ := va_join (wr := [(sh, .inr (1, [.ref sr, .int (nI sl)])), (ph, .inr (2, [.ref pr, .int (nI pl)])), (pr, .inl ((cT 0), np, .inl fp)), (sr, .inl ((cT 0), ns, .inl fs))]) (w1 := [(g0, .inr (3, [.ref tx, .ref wo, .ref di, .int a2_63, .int b2_64, .int c2_65, .int d2_66])), (tx, .inr (1, [.ref tr, .int (nI (0 + pl + sl))])), (tr, .inl ((cT 0), 1192, .inl f2_67)), (wo, .inl ((cT 0), 16, .inl fw2_61)), (di, .inl ((cT 0), 16, .inl fd2_62))]) hP hD [3, 6, 7, 0, 1] [2, 4, 5, 8] rfl rfl (by decide) (by decide) hk1 hFc hP1 hD1
  have hw68 := hw
  clear hPc hDc hFc hz1 hk1 hP1 hK1 hD1
  generalize H1 = H at hP hS ⊢
  have hP : va_P (dC, dI) vcl [(sh, .inr (1, [.ref sr, .int (nI sl)])), (ph, .inr (2, [.ref pr, .int (nI pl)])), (pr, .inl ((cT 0), np, .inl fp)), (sr, .inl ((cT 0), ns, .inl fs)), (g0, .inr (3, [.ref tx, .ref wo, .ref di, .int a2_63, .int b2_64, .int c2_65, .int d2_66])), (tx, .inr (1, [.ref tr, .int (nI (0 + pl + sl))])), (tr, .inl ((cT 0), 1192, .inl f2_67)), (wo, .inl ((cT 0), 16, .inl fw2_61)), (di, .inl ((cT 0), 16, .inl fd2_62))] H := hP
  have hD : va_D A [(sh, .inr (1, [.ref sr, .int (nI sl)])), (ph, .inr (2, [.ref pr, .int (nI pl)])), (pr, .inl ((cT 0), np, .inl fp)), (sr, .inl ((cT 0), ns, .inl fs)), (g0, .inr (3, [.ref tx, .ref wo, .ref di, .int a2_63, .int b2_64, .int c2_65, .int d2_66])), (tx, .inr (1, [.ref tr, .int (nI (0 + pl + sl))])), (tr, .inl ((cT 0), 1192, .inl f2_67)), (wo, .inl ((cT 0), 16, .inl fw2_61)), (di, .inl ((cT 0), 16, .inl fd2_62))] := hD
  have hP9 := hP.sub (ws' := [(g0, .inr (3, [.ref tx, .ref wo, .ref di, .int a2_63, .int b2_64, .int c2_65, .int d2_66])), (tx, .inr (1, [.ref tr, .int (nI (0 + pl + sl))])), (tr, .inl ((cT 0), 1192, .inl f2_67)), (wo, .inl ((cT 0), 16, .inl fw2_61)), (di, .inl ((cT 0), 16, .inl fd2_62)), (sh, .inr (1, [.ref sr, .int (nI sl)])), (sr, .inl ((cT 0), ns, .inl fs)), (ph, .inr (2, [.ref pr, .int (nI pl)])), (pr, .inl ((cT 0), np, .inl fp))]) [4, 5, 6, 7, 8, 0, 3, 1, 2] rfl
  have hD9 := hD.sub (ws' := [(g0, .inr (3, [.ref tx, .ref wo, .ref di, .int a2_63, .int b2_64, .int c2_65, .int d2_66])), (tx, .inr (1, [.ref tr, .int (nI (0 + pl + sl))])), (tr, .inl ((cT 0), 1192, .inl f2_67)), (wo, .inl ((cT 0), 16, .inl fw2_61)), (di, .inl ((cT 0), 16, .inl fd2_62)), (sh, .inr (1, [.ref sr, .int (nI sl)])), (sr, .inl ((cT 0), ns, .inl fs)), (ph, .inr (2, [.ref pr, .int (nI pl)])), (pr, .inl ((cT 0), np, .inl fp))]) [4, 5, 6, 7, 8, 0, 3, 1, 2] (by decide) rfl
  exact W.aret (v := .ref di) hx hb hr (by first | exact Or.inr ⟨_, rfl⟩ | exact Or.inl ⟨_, rfl⟩) (Or.inr ⟨_, rfl⟩) (fun t ht hW => ⟨⟨⟨fw2_61, fd2_62, a2_63, b2_64, c2_65, d2_66, f2_67⟩, _, rfl, hw68, rfl, by rw [ht]; exact hP9, va_K.moved hW.alike hK, hD9⟩, hS.F ht⟩) hS.2.2 d_Dg_ofSeal_34
set_option maxHeartbeats 4000000 in
set_option maxRecDepth 100000 in
/-- ofMask -/
theorem c_Dg_mask (l : Launch) (dC : Nat → ClassId) (dI : Nat → Nat → Nat) (cT : Nat → ClassId) (sz : Nat) (g0 : Nat) (tx : Nat) (tr : Nat) (wo : Nat) (di : Nat) (va : Int32) (vb : Int32) (vc : Int32) (vd : Int32) (len : Nat) (f : Nat → Int32) (fw : Nat → Int32) (fd : Nat → Int32) (sh : Nat) (sr : Nat) (ns : Nat) (sl : Nat) (fs : Nat → Int32) (ph : Nat) (pr : Nat) (np : Nat) (pl : Nat) (fp : Nat → Int32) (at_ : Nat) (k : Nat) (hsl : sl ≤ ns) (hns : ns < 2 ^ 31) (hpl : pl ≤ np) (hnp : np < 2 ^ 31) (hat : at_ + k ≤ np) (hk : k = 0 ∨ 16 ≤ k) (hp : 20 ≤ np) (hs40 : sl ≤ 64) : Met l y_Dg_ofMask (Cond.code y_Dg_ofMask b_Dg_ofMask 5 (Option.some (Jvm.ClassFile.FieldType.array Jvm.ClassFile.FieldType.int)) :: BIG) ({ frames := 3, cells := 0, slots := 0, locals := 113 }) (va_Pc [.ref g0, .ref sh, .ref ph, .int (nI at_), .int (nI k)] (fun U => U.heap.size = sz ∧ va_P (dC, dI) vcl [(g0, .inr (3, [.ref tx, .ref wo, .ref di, .int va, .int vb, .int vc, .int vd])), (tx, .inr (1, [.ref tr, .int (nI len)])), (tr, .inl ((cT 0), 1192, .inl f)), (wo, .inl ((cT 0), 16, .inl fw)), (di, .inl ((cT 0), 16, .inl fd)), (sh, .inr (1, [.ref sr, .int (nI sl)])), (sr, .inl ((cT 0), ns, .inl fs)), (ph, .inr (2, [.ref pr, .int (nI pl)])), (pr, .inl ((cT 0), np, .inl fp))] U.heap ∧ va_K (dC, dI) vcl (tyL cT) U ∧ va_D (fun _ => True) [(g0, .inr (3, [.ref tx, .ref wo, .ref di, .int va, .int vb, .int vc, .int vd])), (tx, .inr (1, [.ref tr, .int (nI len)])), (tr, .inl ((cT 0), 1192, .inl f)), (wo, .inl ((cT 0), 16, .inl fw)), (di, .inl ((cT 0), 16, .inl fd)), (sh, .inr (1, [.ref sr, .int (nI sl)])), (sr, .inl ((cT 0), ns, .inl fs)), (ph, .inr (2, [.ref pr, .int (nI pl)])), (pr, .inl ((cT 0), np, .inl fp))] ∧ xm (va_A [(g0, .inr (3, [.ref tx, .ref wo, .ref di, .int va, .int vb, .int vc, .int vd])), (tx, .inr (1, [.ref tr, .int (nI len)])), (tr, .inl ((cT 0), 1192, .inl f)), (wo, .inl ((cT 0), 16, .inl fw)), (di, .inl ((cT 0), 16, .inl fd)), (sh, .inr (1, [.ref sr, .int (nI sl)])), (sr, .inl ((cT 0), ns, .inl fs)), (ph, .inr (2, [.ref pr, .int (nI pl)])), (pr, .inl ((cT 0), np, .inl fp))] sz) U U.heap)) (va_Qr (S := (Nat → Int32) × (Nat → Int32) × Int32 × Int32 × Int32 × Int32 × (Nat → Int32)) (fun u => match u with | (fw2, fd2, a2, b2, c2, d2, f2) => AB fd → AB fd2) (fun u a t => match u with | (fw2, fd2, a2, b2, c2, d2, f2) => di = a ∧ va_P (dC, dI) vcl [(g0, .inr (3, [.ref tx, .ref wo, .ref di, .int a2, .int b2, .int c2, .int d2])), (tx, .inr (1, [.ref tr, .int (nI (sl + 16))])), (tr, .inl ((cT 0), 1192, .inl f2)), (wo, .inl ((cT 0), 16, .inl fw2)), (di, .inl ((cT 0), 16, .inl fd2)), (sh, .inr (1, [.ref sr, .int (nI sl)])), (sr, .inl ((cT 0), ns, .inl fs)), (ph, .inr (2, [.ref pr, .int (nI pl)])), (pr, .inl ((cT 0), np, .inl fp))] t.heap ∧ va_K (dC, dI) vcl (tyL cT) t ∧ va_D (va_A [(g0, .inr (3, [.ref tx, .ref wo, .ref di, .int va, .int vb, .int vc, .int vd])), (tx, .inr (1, [.ref tr, .int (nI len)])), (tr, .inl ((cT 0), 1192, .inl f)), (wo, .inl ((cT 0), 16, .inl fw)), (di, .inl ((cT 0), 16, .inl fd)), (sh, .inr (1, [.ref sr, .int (nI sl)])), (sr, .inl ((cT 0), ns, .inl fs)), (ph, .inr (2, [.ref pr, .int (nI pl)])), (pr, .inl ((cT 0), np, .inl fp))] sz) [(g0, .inr (3, [.ref tx, .ref wo, .ref di, .int a2, .int b2, .int c2, .int d2])), (tx, .inr (1, [.ref tr, .int (nI (sl + 16))])), (tr, .inl ((cT 0), 1192, .inl f2)), (wo, .inl ((cT 0), 16, .inl fw2)), (di, .inl ((cT 0), 16, .inl fd2)), (sh, .inr (1, [.ref sr, .int (nI sl)])), (sr, .inl ((cT 0), ns, .inl fs)), (ph, .inr (2, [.ref pr, .int (nI pl)])), (pr, .inl ((cT 0), np, .inl fp))]) (va_A [(g0, .inr (3, [.ref tx, .ref wo, .ref di, .int va, .int vb, .int vc, .int vd])), (tx, .inr (1, [.ref tr, .int (nI len)])), (tr, .inl ((cT 0), 1192, .inl f)), (wo, .inl ((cT 0), 16, .inl fw)), (di, .inl ((cT 0), 16, .inl fd)), (sh, .inr (1, [.ref sr, .int (nI sl)])), (sr, .inl ((cT 0), ns, .inl fs)), (ph, .inr (2, [.ref pr, .int (nI pl)])), (pr, .inl ((cT 0), np, .inl fp))] sz)) 0 0 (va_A [(g0, .inr (3, [.ref tx, .ref wo, .ref di, .int va, .int vb, .int vc, .int vd])), (tx, .inr (1, [.ref tr, .int (nI len)])), (tr, .inl ((cT 0), 1192, .inl f)), (wo, .inl ((cT 0), 16, .inl fw)), (di, .inl ((cT 0), 16, .inl fd)), (sh, .inr (1, [.ref sr, .int (nI sl)])), (sr, .inl ((cT 0), ns, .inl fs)), (ph, .inr (2, [.ref pr, .int (nI pl)])), (pr, .inl ((cT 0), np, .inl fp))] sz) := by
  refine Met.ofW (cc := b_Dg_ofMask) (maxL := 5) (ret := (Option.some (Jvm.ClassFile.FieldType.array Jvm.ClassFile.FieldType.int))) (by decide) rfl ?_
  intro p e s m args below meth c s₁ B hml hv
  obtain ⟨hargs, hsz, hP, hK, hD0, hE⟩ := hv
  have hx := B.exec
  have hb := B.bytes
  have hr := B.returns
  have hts := atoms_spec (ws := (Cond.code y_Dg_ofMask b_Dg_ofMask 5 (Option.some (Jvm.ClassFile.FieldType.array Jvm.ClassFile.FieldType.int)) :: BIG)) B.pre
  have hg : ∀ w ∈ BIG, w.before _ s = true := fun w h => hts w (List.mem_cons_of_mem _ h)
  have hown : s.vm.findClass "DoorServer$Digests" = some m.cls := findClass_of_methodNamed B.named
  have hlocks := B.notSynchronized
  subst hsz
  have hD := hD0.self (sz := s.heap.size)
  generalize hAe : va_A [(g0, .inr (3, [.ref tx, .ref wo, .ref di, .int va, .int vb, .int vc, .int vd])), (tx, .inr (1, [.ref tr, .int (nI len)])), (tr, .inl ((cT 0), 1192, .inl f)), (wo, .inl ((cT 0), 16, .inl fw)), (di, .inl ((cT 0), 16, .inl fd)), (sh, .inr (1, [.ref sr, .int (nI sl)])), (sr, .inl ((cT 0), ns, .inl fs)), (ph, .inr (2, [.ref pr, .int (nI pl)])), (pr, .inl ((cT 0), np, .inl fp))] s.heap.size = A at hD hE ⊢
  have hA : ∀ q : Nat, s.heap.size ≤ q → A q := fun q h => by rw [← hAe]; exact Or.inr h
  have hS : va_S A s.heap s.heap [] := va_S.rf
  have hl := lv_entry ([.ref g0, .ref sh, .ref ph, .int (nI at_), .int (nI k)]) (n := 5) (Nat.le_of_ble_eq_true rfl)
  refine W.eq (g2 := entryFrame m (List.toArray [.ref g0, .ref sh, .ref ph, .int (nI at_), .int (nI k)]) 5) (by rw [hargs]) ?_
  rw [lg_entry_eq]
  generalize (lg_sl ([.ref g0, .ref sh, .ref ph, .int (nI at_), .int (nI k)]) ++ List.replicate (5 - (lg_sl ([.ref g0, .ref sh, .ref ph, .int (nI at_), .int (nI k)])).length) Slot.unset).toArray = ls at hl ⊢
  have hl : lv_has ls 5 [(0, .ref g0), (1, .ref sh), (2, .ref ph), (3, .int (nI at_)), (4, .int (nI k))] := hl
  change W p l e ({ frames := 3, cells := 0, slots := 0, locals := 113 } : Room) s m args below meth c s.heap [] 0 0 _ _
  have hP : va_P (dC, dI) vcl [(g0, .inr (3, [.ref tx, .ref wo, .ref di, .int va, .int vb, .int vc, .int vd])), (tx, .inr (1, [.ref tr, .int (nI len)])), (tr, .inl ((cT 0), 1192, .inl f)), (wo, .inl ((cT 0), 16, .inl fw)), (di, .inl ((cT 0), 16, .inl fd)), (sh, .inr (1, [.ref sr, .int (nI sl)])), (sr, .inl ((cT 0), ns, .inl fs)), (ph, .inr (2, [.ref pr, .int (nI pl)])), (pr, .inl ((cT 0), np, .inl fp))] s.heap := hP
  refine lv_aload_n hx hb d_Dg_ofMask_0 rfl (lv_at hl 0 rfl) ?_
  refine va_get (D := (dC, dI)) (ci := 3) (v := (.ref tx)) (C := R_Dg) (T := F_Dg) (N := 7) hx hb hg in_Dg hown hK hP 0 rfl rfl 0 (by decide) (hg _ k_116) (fun _ h9 => h9) rfl d_Dg_ofMask_1 ?_
  refine lv_aload_n hx hb d_Dg_ofMask_4 rfl (lv_at hl 1 rfl) ?_
  refine va_get (D := (dC, dI)) (ci := 1) (v := (.ref sr)) (C := R_By) (T := F_By) (N := 2) hx hb hg in_By hown hK hP 5 rfl rfl 0 (by decide) (hg _ k_44) (fun _ h9 => h9) rfl d_Dg_ofMask_5 ?_
  refine lv_iconst (v := 0) hx hb d_Dg_ofMask_8 (by decide) ?_
  refine lv_topi (fun x70 e69 => ?_)
  obtain rfl : x70 = nI 0 := by rw [e69]; rfl
  refine lv_aload_n hx hb d_Dg_ofMask_9 rfl (lv_at hl 1 rfl) ?_
  refine va_get (D := (dC, dI)) (ci := 1) (v := (.int (nI sl))) (C := R_By) (T := F_By) (N := 2) hx hb hg in_By hown hK hP 5 rfl rfl 1 (by decide) (hg _ k_57) (fun _ h9 => h9) rfl d_Dg_ofMask_10 ?_
  have hPc := hP.sub (ws' := [(tx, .inr (1, [.ref tr, .int (nI len)])), (tr, .inl ((cT 0), 1192, .inl f)), (sr, .inl ((cT 0), ns, .inl fs))]) [1, 2, 6] rfl
  have hDc := hD.sub (ws' := [(tx, .inr (1, [.ref tr, .int (nI len)])), (tr, .inl ((cT 0), 1192, .inl f)), (sr, .inl ((cT 0), ns, .inl fs))]) [1, 2, 6] (by decide) rfl
  have hFc := va_free (wc := [(tx, .inr (1, [.ref tr, .int (nI len)])), (tr, .inl ((cT 0), 1192, .inl f)), (sr, .inl ((cT 0), ns, .inl fs))]) hD hS hA [1, 2, 6] rfl
  refine va_callv (va_runV (C := "DoorServer$Bytes") (As := [.ref sr, .int (nI 0), .int (nI sl)]) (rest := []) ⟨hx, hb, hml, hown, hg⟩ (c_By_becomeRow l dC dI cT s.heap.size tx tr 1192 len f sr ns fs 0 sl (by omega) (by decide) (by omega) (hns)) (cwV 3 hg (gI (List.forall_mem_append.mpr ⟨List.forall_mem_cons.mpr ⟨k_567, List.forall_mem_cons.mpr ⟨k_568, List.forall_mem_cons.mpr ⟨k_569, List.forall_mem_cons.mpr ⟨k_2, fun _ h => absurd h List.not_mem_nil⟩⟩⟩⟩, List.forall_mem_cons.mpr ⟨k_572, fun _ h => h⟩⟩)) rfl rfl rfl (by decide +kernel) ⟨Nat.le_of_ble_eq_true rfl, Nat.le_of_ble_eq_true rfl⟩) ⟨fun a U g mk q => by obtain ⟨q0, q1, qP, qK, qD⟩ := q; exact ⟨q0, q1, qP, va_K.moved (u := U) (U := U.calling g mk a) (Vm.Alike.refl U.vm) qK, qD⟩, va_recv (q0 := 1) (ci := 1) hK hP rfl rfl, fun U hU hW => ⟨rfl, by rw [hU], by rw [hU]; exact hPc, va_K.moved hW.alike hK, hDc.weaken (fun _ _ _ _ => trivial)⟩⟩ rfl rfl hl.1 rfl (lv_room (Nat.le_of_ble_eq_true rfl)) d_Dg_ofMask_13 ⟨Nat.le_of_ble_eq_true rfl, Nat.le_of_ble_eq_true rfl⟩) hS (fun q _ h => hFc q h) hFc (fun u t H1 locs ht hvm hw hB hz1 hk1 hS => ?_)
  obtain ⟨g_71, rfl⟩ : ∃ z, z = u := ⟨_, rfl⟩
  try dsimp only at hw hB
  obtain ⟨hP1, hK1, hD1⟩ := hB
  rw [ht] at hP1
  obtain ⟨hP, hD⟩ := va_join (wr := [(g0, .inr (3, [.ref tx, .ref wo, .ref di, .int va, .int vb, .int vc, .int vd])), (wo, .inl ((cT 0), 16, .inl fw)), (di, .inl ((cT 0), 16, .inl fd)), (sh, .inr (1, [.ref sr, .int (nI sl)])), (ph, .inr (2, [.ref pr, .int (nI pl)])), (pr, .inl ((cT 0), np, .inl fp))]) (w1 := [(tx, .inr (1, [.ref tr, .int (nI sl)])), (tr, .inl ((cT 0), 1192, .inl g_71)), (sr, .inl ((cT 0), ns, .inl fs))]) hP hD [1, 2, 6] [0, 3, 4, 5, 7, 8] rfl rfl (by decide) (by decide) hk1 hFc hP1 hD1
  have hw72 := hw
  clear hPc hDc hFc hz1 hk1 hP1 hK1 hD1
  generalize H1 = H at hP hS ⊢
  have hP : va_P (dC, dI) vcl [(g0, .inr (3, [.ref tx, .ref wo, .ref di, .int va, .int vb, .int vc, .int vd])), (wo, .inl ((cT 0), 16, .inl fw)), (di, .inl ((cT 0), 16, .inl fd)), (sh, .inr (1, [.ref sr, .int (nI sl)])), (ph, .inr (2, [.ref pr, .int (nI pl)])), (pr, .inl ((cT 0), np, .inl fp)), (tx, .inr (1, [.ref tr, .int (nI sl)])), (tr, .inl ((cT 0), 1192, .inl g_71)), (sr, .inl ((cT 0), ns, .inl fs))] H := hP
  have hD : va_D A [(g0, .inr (3, [.ref tx, .ref wo, .ref di, .int va, .int vb, .int vc, .int vd])), (wo, .inl ((cT 0), 16, .inl fw)), (di, .inl ((cT 0), 16, .inl fd)), (sh, .inr (1, [.ref sr, .int (nI sl)])), (ph, .inr (2, [.ref pr, .int (nI pl)])), (pr, .inl ((cT 0), np, .inl fp)), (tx, .inr (1, [.ref tr, .int (nI sl)])), (tr, .inl ((cT 0), 1192, .inl g_71)), (sr, .inl ((cT 0), ns, .inl fs))] := hD
  refine lv_aload_n hx hb d_Dg_ofMask_16 rfl (lv_at hl 0 rfl) ?_
  refine va_get (D := (dC, dI)) (ci := 3) (v := (.ref tx)) (C := R_Dg) (T := F_Dg) (N := 7) hx hb hg in_Dg hown hK hP 0 rfl rfl 0 (by decide) (hg _ k_116) (fun _ h9 => h9) rfl d_Dg_ofMask_17 ?_
  refine lv_aload_n hx hb d_Dg_ofMask_20 rfl (lv_at hl 2 rfl) ?_
  refine va_get (D := (dC, dI)) (ci := 2) (v := (.ref pr)) (C := R_Pk) (T := F_Pk) (N := 2) hx hb hg in_Pk hown hK hP 4 rfl rfl 0 (by decide) (hg _ k_44) (fun _ h9 => h9) rfl d_Dg_ofMask_21 ?_
  refine lv_iload hx hb d_Dg_ofMask_24 (lv_at hl 4 rfl) ?_
  have K73 : ∀ (sx : Nat), sx + 16 ≤ np → W p l e ({ frames := 3, cells := 0, slots := 0, locals := 113 } : Room) s m args below meth c H locs 0 0 (MQ below (va_Qr (S := (Nat → Int32) × (Nat → Int32) × Int32 × Int32 × Int32 × Int32 × (Nat → Int32)) (fun u => match u with | (fw2, fd2, a2, b2, c2, d2, f2) => AB fd → AB fd2) (fun u a t => match u with | (fw2, fd2, a2, b2, c2, d2, f2) => di = a ∧ va_P (dC, dI) vcl [(g0, .inr (3, [.ref tx, .ref wo, .ref di, .int a2, .int b2, .int c2, .int d2])), (tx, .inr (1, [.ref tr, .int (nI (sl + 16))])), (tr, .inl ((cT 0), 1192, .inl f2)), (wo, .inl ((cT 0), 16, .inl fw2)), (di, .inl ((cT 0), 16, .inl fd2)), (sh, .inr (1, [.ref sr, .int (nI sl)])), (sr, .inl ((cT 0), ns, .inl fs)), (ph, .inr (2, [.ref pr, .int (nI pl)])), (pr, .inl ((cT 0), np, .inl fp))] t.heap ∧ va_K (dC, dI) vcl (tyL cT) t ∧ va_D A [(g0, .inr (3, [.ref tx, .ref wo, .ref di, .int a2, .int b2, .int c2, .int d2])), (tx, .inr (1, [.ref tr, .int (nI (sl + 16))])), (tr, .inl ((cT 0), 1192, .inl f2)), (wo, .inl ((cT 0), 16, .inl fw2)), (di, .inl ((cT 0), 16, .inl fd2)), (sh, .inr (1, [.ref sr, .int (nI sl)])), (sr, .inl ((cT 0), ns, .inl fs)), (ph, .inr (2, [.ref pr, .int (nI pl)])), (pr, .inl ((cT 0), np, .inl fp))]) A) args s 0 0 A) (F0 m 40 ls [.int (nI sx), .ref pr, .ref tx]) := by
    intro sx hsx
    refine lv_bipush (v := 16) hx hb d_Dg_ofMask_40 (by decide) ?_
    refine lv_topi (fun x75 e74 => ?_)
    obtain rfl : x75 = nI 16 := by rw [e74]; rfl
    have hPc := hP.sub (ws' := [(tx, .inr (1, [.ref tr, .int (nI sl)])), (tr, .inl ((cT 0), 1192, .inl g_71)), (pr, .inl ((cT 0), np, .inl fp))]) [6, 7, 5] rfl
    have hDc := hD.sub (ws' := [(tx, .inr (1, [.ref tr, .int (nI sl)])), (tr, .inl ((cT 0), 1192, .inl g_71)), (pr, .inl ((cT 0), np, .inl fp))]) [6, 7, 5] (by decide) rfl
    have hFc := va_free (wc := [(tx, .inr (1, [.ref tr, .int (nI sl)])), (tr, .inl ((cT 0), 1192, .inl g_71)), (pr, .inl ((cT 0), np, .inl fp))]) hD hS hA [6, 7, 5] rfl
    refine va_callv (va_runV (C := "DoorServer$Bytes") (As := [.ref pr, .int (nI sx), .int (nI 16)]) (rest := []) ⟨hx, hb, hml, hown, hg⟩ (c_By_row l dC dI cT H.size tx tr 1192 sl g_71 pr np fp sx 16 (by omega) (by decide) (hsx) (hnp)) (cwV 3 hg (gI (List.forall_mem_append.mpr ⟨List.forall_mem_cons.mpr ⟨k_582, List.forall_mem_cons.mpr ⟨k_574, List.forall_mem_cons.mpr ⟨k_575, List.forall_mem_cons.mpr ⟨k_2, fun _ h => absurd h List.not_mem_nil⟩⟩⟩⟩, List.forall_mem_cons.mpr ⟨k_578, fun _ h => h⟩⟩)) rfl rfl rfl (by decide +kernel) ⟨Nat.le_of_ble_eq_true rfl, Nat.le_of_ble_eq_true rfl⟩) ⟨fun a U g mk q => by obtain ⟨q0, q1, qP, qK, qD⟩ := q; exact ⟨q0, q1, qP, va_K.moved (u := U) (U := U.calling g mk a) (Vm.Alike.refl U.vm) qK, qD⟩, va_recv (q0 := 6) (ci := 1) hK hP rfl rfl, fun U hU hW => ⟨rfl, by rw [hU], by rw [hU]; exact hPc, va_K.moved hW.alike hK, hDc.weaken (fun _ _ _ _ => trivial)⟩⟩ rfl rfl hl.1 rfl (lv_room (Nat.le_of_ble_eq_true rfl)) d_Dg_ofMask_42 ⟨Nat.le_of_ble_eq_true rfl, Nat.le_of_ble_eq_true rfl⟩) hS (fun q _ h => hFc q h) hFc (fun u t H1 locs ht hvm hw hB hz1 hk1 hS => ?_)
    obtain ⟨g_76, rfl⟩ : ∃ z, z = u := ⟨_, rfl⟩
    try dsimp only at hw hB
    obtain ⟨hP1, hK1, hD1⟩ := hB
    rw [ht] at hP1
    obtain ⟨hP, hD⟩ := va_join (wr := [(g0, .inr (3, [.ref tx, .ref wo, .ref di, .int va, .int vb, .int vc, .int vd])), (wo, .inl ((cT 0), 16, .inl fw)), (di, .inl ((cT 0), 16, .inl fd)), (sh, .inr (1, [.ref sr, .int (nI sl)])), (ph, .inr (2, [.ref pr, .int (nI pl)])), (sr, .inl ((cT 0), ns, .inl fs))]) (w1 := [(tx, .inr (1, [.ref tr, .int (nI (sl + 16))])), (tr, .inl ((cT 0), 1192, .inl g_76)), (pr, .inl ((cT 0), np, .inl fp))]) hP hD [6, 7, 5] [0, 1, 2, 3, 4, 8] rfl rfl (by decide) (by decide) hk1 hFc hP1 hD1
    have hw77 := hw
    clear hPc hDc hFc hz1 hk1 hP1 hK1 hD1
    generalize H1 = H at hP hS ⊢
    have hP : va_P (dC, dI) vcl [(g0, .inr (3, [.ref tx, .ref wo, .ref di, .int va, .int vb, .int vc, .int vd])), (wo, .inl ((cT 0), 16, .inl fw)), (di, .inl ((cT 0), 16, .inl fd)), (sh, .inr (1, [.ref sr, .int (nI sl)])), (ph, .inr (2, [.ref pr, .int (nI pl)])), (sr, .inl ((cT 0), ns, .inl fs)), (tx, .inr (1, [.ref tr, .int (nI (sl + 16))])), (tr, .inl ((cT 0), 1192, .inl g_76)), (pr, .inl ((cT 0), np, .inl fp))] H := hP
    have hD : va_D A [(g0, .inr (3, [.ref tx, .ref wo, .ref di, .int va, .int vb, .int vc, .int vd])), (wo, .inl ((cT 0), 16, .inl fw)), (di, .inl ((cT 0), 16, .inl fd)), (sh, .inr (1, [.ref sr, .int (nI sl)])), (ph, .inr (2, [.ref pr, .int (nI pl)])), (sr, .inl ((cT 0), ns, .inl fs)), (tx, .inr (1, [.ref tr, .int (nI (sl + 16))])), (tr, .inl ((cT 0), 1192, .inl g_76)), (pr, .inl ((cT 0), np, .inl fp))] := hD
    refine lv_aload_n hx hb d_Dg_ofMask_45 rfl (lv_at hl 0 rfl) ?_
    have hPc := hP.sub (ws' := [(g0, .inr (3, [.ref tx, .ref wo, .ref di, .int va, .int vb, .int vc, .int vd])), (tx, .inr (1, [.ref tr, .int (nI (sl + 16))])), (tr, .inl ((cT 0), 1192, .inl g_76)), (wo, .inl ((cT 0), 16, .inl fw)), (di, .inl ((cT 0), 16, .inl fd))]) [0, 6, 7, 1, 2] rfl
    have hDc := hD.sub (ws' := [(g0, .inr (3, [.ref tx, .ref wo, .ref di, .int va, .int vb, .int vc, .int vd])), (tx, .inr (1, [.ref tr, .int (nI (sl + 16))])), (tr, .inl ((cT 0), 1192, .inl g_76)), (wo, .inl ((cT 0), 16, .inl fw)), (di, .inl ((cT 0), 16, .inl fd))]) [0, 6, 7, 1, 2] (by decide) rfl
    have hFc := va_free (wc := [(g0, .inr (3, [.ref tx, .ref wo, .ref di, .int va, .int vb, .int vc, .int vd])), (tx, .inr (1, [.ref tr, .int (nI (sl + 16))])), (tr, .inl ((cT 0), 1192, .inl g_76)), (wo, .inl ((cT 0), 16, .inl fw)), (di, .inl ((cT 0), 16, .inl fd))]) hD hS hA [0, 6, 7, 1, 2] rfl
    refine va_callr (va_runV (C := "DoorServer$Digests") (As := []) (rest := []) ⟨hx, hb, hml, hown, hg⟩ (c_Dg_text l dC dI cT H.size g0 tx tr wo di va vb vc vd (sl + 16) g_76 fw fd (by omega)) (cwV 0 hg (gI (List.forall_mem_append.mpr ⟨List.forall_mem_cons.mpr ⟨k_583, List.forall_mem_cons.mpr ⟨k_585, List.forall_mem_cons.mpr ⟨(big_sel (q := y_Dg_digestText) (n := 7) (by decide +kernel)), List.forall_mem_cons.mpr ⟨k_5, fun _ h => absurd h List.not_mem_nil⟩⟩⟩⟩, List.forall_mem_cons.mpr ⟨k_586, fun _ h => h⟩⟩)) rfl rfl rfl (by decide +kernel) ⟨Nat.le_of_ble_eq_true rfl, Nat.le_of_ble_eq_true rfl⟩) ⟨fun a U g mk q => by obtain ⟨q0, q1, qP, qK, qD, qE⟩ := q; exact ⟨q0, q1, qP, va_K.moved (u := U) (U := U.calling g mk a) (Vm.Alike.refl U.vm) qK, qD, qE.at (State.WarmedH.refl _) (fun _ _ _ => rfl) (fun _ h => h)⟩, va_recv (q0 := 0) (ci := 3) hK hP rfl rfl, fun U hU hW => ⟨rfl, by rw [hU], by rw [hU]; exact hPc, va_K.moved hW.alike hK, hDc.weaken (fun _ _ _ _ => trivial), by rw [hU]; exact hE.at hW hS.2.1 hFc⟩⟩ rfl rfl hl.1 rfl (lv_room (Nat.le_of_ble_eq_true rfl)) d_Dg_ofMask_46 ⟨Nat.le_of_ble_eq_true rfl, Nat.le_of_ble_eq_true rfl⟩) hS (fun q _ h => hFc q h) hFc (fun u a9 t H1 locs ht hvm hw hB hz1 hk1 hS => ?_)
    obtain ⟨fw2_78, fd2_79, a2_80, b2_81, c2_82, d2_83, f2_84⟩ := u
    try dsimp only at hw hB
    obtain ⟨rfl, hP1, hK1, hD1⟩ := hB
    rw [ht] at hP1
    obtain ⟨hP, hD⟩ := va_join (wr := [(sh, .inr (1, [.ref sr, .int (nI sl)])), (ph, .inr (2, [.ref pr, .int (nI pl)])), (sr, .inl ((cT 0), ns, .inl fs)), (pr, .inl ((cT 0), np, .inl fp))]) (w1 := [(g0, .inr (3, [.ref tx, .ref wo, .ref di, .int a2_80, .int b2_81, .int c2_82, .int d2_83])), (tx, .inr (1, [.ref tr, .int (nI (sl + 16))])), (tr, .inl ((cT 0), 1192, .inl f2_84)), (wo, .inl ((cT 0), 16, .inl fw2_78)), (di, .inl ((cT 0), 16, .inl fd2_79))]) hP hD [0, 6, 7, 1, 2] [3, 4, 5, 8] rfl rfl (by decide) (by decide) hk1 hFc hP1 hD1
    have hw85 := hw
    clear hPc hDc hFc hz1 hk1 hP1 hK1 hD1
    generalize H1 = H at hP hS ⊢
    have hP : va_P (dC, dI) vcl [(sh, .inr (1, [.ref sr, .int (nI sl)])), (ph, .inr (2, [.ref pr, .int (nI pl)])), (sr, .inl ((cT 0), ns, .inl fs)), (pr, .inl ((cT 0), np, .inl fp)), (g0, .inr (3, [.ref tx, .ref wo, .ref di, .int a2_80, .int b2_81, .int c2_82, .int d2_83])), (tx, .inr (1, [.ref tr, .int (nI (sl + 16))])), (tr, .inl ((cT 0), 1192, .inl f2_84)), (wo, .inl ((cT 0), 16, .inl fw2_78)), (di, .inl ((cT 0), 16, .inl fd2_79))] H := hP
    have hD : va_D A [(sh, .inr (1, [.ref sr, .int (nI sl)])), (ph, .inr (2, [.ref pr, .int (nI pl)])), (sr, .inl ((cT 0), ns, .inl fs)), (pr, .inl ((cT 0), np, .inl fp)), (g0, .inr (3, [.ref tx, .ref wo, .ref di, .int a2_80, .int b2_81, .int c2_82, .int d2_83])), (tx, .inr (1, [.ref tr, .int (nI (sl + 16))])), (tr, .inl ((cT 0), 1192, .inl f2_84)), (wo, .inl ((cT 0), 16, .inl fw2_78)), (di, .inl ((cT 0), 16, .inl fd2_79))] := hD
    have hP9 := hP.sub (ws' := [(g0, .inr (3, [.ref tx, .ref wo, .ref di, .int a2_80, .int b2_81, .int c2_82, .int d2_83])), (tx, .inr (1, [.ref tr, .int (nI (sl + 16))])), (tr, .inl ((cT 0), 1192, .inl f2_84)), (wo, .inl ((cT 0), 16, .inl fw2_78)), (di, .inl ((cT 0), 16, .inl fd2_79)), (sh, .inr (1, [.ref sr, .int (nI sl)])), (sr, .inl ((cT 0), ns, .inl fs)), (ph, .inr (2, [.ref pr, .int (nI pl)])), (pr, .inl ((cT 0), np, .inl fp))]) [4, 5, 6, 7, 8, 0, 2, 1, 3] rfl
    have hD9 := hD.sub (ws' := [(g0, .inr (3, [.ref tx, .ref wo, .ref di, .int a2_80, .int b2_81, .int c2_82, .int d2_83])), (tx, .inr (1, [.ref tr, .int (nI (sl + 16))])), (tr, .inl ((cT 0), 1192, .inl f2_84)), (wo, .inl ((cT 0), 16, .inl fw2_78)), (di, .inl ((cT 0), 16, .inl fd2_79)), (sh, .inr (1, [.ref sr, .int (nI sl)])), (sr, .inl ((cT 0), ns, .inl fs)), (ph, .inr (2, [.ref pr, .int (nI pl)])), (pr, .inl ((cT 0), np, .inl fp))]) [4, 5, 6, 7, 8, 0, 2, 1, 3] (by decide) rfl
    exact W.aret (v := .ref di) hx hb hr (by first | exact Or.inr ⟨_, rfl⟩ | exact Or.inl ⟨_, rfl⟩) (Or.inr ⟨_, rfl⟩) (fun t ht hW => ⟨⟨⟨fw2_78, fd2_79, a2_80, b2_81, c2_82, d2_83, f2_84⟩, _, rfl, hw85, rfl, by rw [ht]; exact hP9, va_K.moved hW.alike hK, hD9⟩, hS.F ht⟩) hS.2.2 d_Dg_ofMask_49
  refine lv_if_ne (tgt := 33) hx hb d_Dg_ofMask_26 (by decide) (fun hc86 => ?_) (fun hc86 => ?_)
  · refine lv_iload_n hx hb d_Dg_ofMask_33 rfl (lv_at hl 3 rfl) ?_
    refine lv_iload hx hb d_Dg_ofMask_34 (lv_at hl 4 rfl) ?_
    refine lv_iadd hx hb d_Dg_ofMask_36 ?_
    refine lv_topi (fun x90 e89 => ?_)
    obtain rfl : x90 = nI (at_ + k) := by rw [e89]; exact nI_add _ _
    refine lv_bipush (v := 16) hx hb d_Dg_ofMask_37 (by decide) ?_
    refine lv_isub hx hb d_Dg_ofMask_39 ?_
    have hk2 : 16 ≤ k := by
      rcases hk with h9 | h9
      · exact absurd (by rw [h9]; rfl) hc86
      · exact h9
    refine lv_topi (fun x92 e91 => ?_)
    obtain rfl : x92 = nI (at_ + k - 16) := by rw [e91]; exact pk_sub (b := 16) (by omega)
    exact K73 _ (by omega)
  · refine lv_iconst (v := 4) hx hb d_Dg_ofMask_29 (by decide) ?_
    refine lv_topi (fun x88 e87 => ?_)
    obtain rfl : x88 = nI 4 := by rw [e87]; rfl
    refine lv_goto (tgt := 40) hx hb d_Dg_ofMask_30 (by decide) ?_
    exact K73 4 (by omega)
set_option maxHeartbeats 4000000 in
set_option maxRecDepth 100000 in
/-- ofAnswer -/
theorem c_Dg_answer (l : Launch) (dC : Nat → ClassId) (dI : Nat → Nat → Nat) (cT : Nat → ClassId) (sz : Nat) (g0 : Nat) (tx : Nat) (tr : Nat) (wo : Nat) (di : Nat) (va : Int32) (vb : Int32) (vc : Int32) (vd : Int32) (len : Nat) (f : Nat → Int32) (fw : Nat → Int32) (fd : Nat → Int32) (sh : Nat) (sr : Nat) (ns : Nat) (sl : Nat) (fs : Nat → Int32) (ph : Nat) (pr : Nat) (np : Nat) (pl : Nat) (fp : Nat → Int32) (hsl : sl ≤ ns) (hns : ns < 2 ^ 31) (hpl : pl ≤ np) (hnp : np < 2 ^ 31) (hp : pl ≤ 1000) (hs40 : sl ≤ 64) : Met l y_Dg_ofAnswer (Cond.code y_Dg_ofAnswer b_Dg_ofAnswer 3 (Option.some (Jvm.ClassFile.FieldType.array Jvm.ClassFile.FieldType.int)) :: BIG) ({ frames := 3, cells := 0, slots := 0, locals := 113 }) (va_Pc [.ref g0, .ref sh, .ref ph] (fun U => U.heap.size = sz ∧ va_P (dC, dI) vcl [(g0, .inr (3, [.ref tx, .ref wo, .ref di, .int va, .int vb, .int vc, .int vd])), (tx, .inr (1, [.ref tr, .int (nI len)])), (tr, .inl ((cT 0), 1192, .inl f)), (wo, .inl ((cT 0), 16, .inl fw)), (di, .inl ((cT 0), 16, .inl fd)), (sh, .inr (1, [.ref sr, .int (nI sl)])), (sr, .inl ((cT 0), ns, .inl fs)), (ph, .inr (2, [.ref pr, .int (nI pl)])), (pr, .inl ((cT 0), np, .inl fp))] U.heap ∧ va_K (dC, dI) vcl (tyL cT) U ∧ va_D (fun _ => True) [(g0, .inr (3, [.ref tx, .ref wo, .ref di, .int va, .int vb, .int vc, .int vd])), (tx, .inr (1, [.ref tr, .int (nI len)])), (tr, .inl ((cT 0), 1192, .inl f)), (wo, .inl ((cT 0), 16, .inl fw)), (di, .inl ((cT 0), 16, .inl fd)), (sh, .inr (1, [.ref sr, .int (nI sl)])), (sr, .inl ((cT 0), ns, .inl fs)), (ph, .inr (2, [.ref pr, .int (nI pl)])), (pr, .inl ((cT 0), np, .inl fp))] ∧ xm (va_A [(g0, .inr (3, [.ref tx, .ref wo, .ref di, .int va, .int vb, .int vc, .int vd])), (tx, .inr (1, [.ref tr, .int (nI len)])), (tr, .inl ((cT 0), 1192, .inl f)), (wo, .inl ((cT 0), 16, .inl fw)), (di, .inl ((cT 0), 16, .inl fd)), (sh, .inr (1, [.ref sr, .int (nI sl)])), (sr, .inl ((cT 0), ns, .inl fs)), (ph, .inr (2, [.ref pr, .int (nI pl)])), (pr, .inl ((cT 0), np, .inl fp))] sz) U U.heap)) (va_Qr (S := (Nat → Int32) × (Nat → Int32) × Int32 × Int32 × Int32 × Int32 × (Nat → Int32)) (fun u => match u with | (fw2, fd2, a2, b2, c2, d2, f2) => AB fd → AB fd2) (fun u a t => match u with | (fw2, fd2, a2, b2, c2, d2, f2) => di = a ∧ va_P (dC, dI) vcl [(g0, .inr (3, [.ref tx, .ref wo, .ref di, .int a2, .int b2, .int c2, .int d2])), (tx, .inr (1, [.ref tr, .int (nI (pl + sl))])), (tr, .inl ((cT 0), 1192, .inl f2)), (wo, .inl ((cT 0), 16, .inl fw2)), (di, .inl ((cT 0), 16, .inl fd2)), (sh, .inr (1, [.ref sr, .int (nI sl)])), (sr, .inl ((cT 0), ns, .inl fs)), (ph, .inr (2, [.ref pr, .int (nI pl)])), (pr, .inl ((cT 0), np, .inl fp))] t.heap ∧ va_K (dC, dI) vcl (tyL cT) t ∧ va_D (va_A [(g0, .inr (3, [.ref tx, .ref wo, .ref di, .int va, .int vb, .int vc, .int vd])), (tx, .inr (1, [.ref tr, .int (nI len)])), (tr, .inl ((cT 0), 1192, .inl f)), (wo, .inl ((cT 0), 16, .inl fw)), (di, .inl ((cT 0), 16, .inl fd)), (sh, .inr (1, [.ref sr, .int (nI sl)])), (sr, .inl ((cT 0), ns, .inl fs)), (ph, .inr (2, [.ref pr, .int (nI pl)])), (pr, .inl ((cT 0), np, .inl fp))] sz) [(g0, .inr (3, [.ref tx, .ref wo, .ref di, .int a2, .int b2, .int c2, .int d2])), (tx, .inr (1, [.ref tr, .int (nI (pl + sl))])), (tr, .inl ((cT 0), 1192, .inl f2)), (wo, .inl ((cT 0), 16, .inl fw2)), (di, .inl ((cT 0), 16, .inl fd2)), (sh, .inr (1, [.ref sr, .int (nI sl)])), (sr, .inl ((cT 0), ns, .inl fs)), (ph, .inr (2, [.ref pr, .int (nI pl)])), (pr, .inl ((cT 0), np, .inl fp))]) (va_A [(g0, .inr (3, [.ref tx, .ref wo, .ref di, .int va, .int vb, .int vc, .int vd])), (tx, .inr (1, [.ref tr, .int (nI len)])), (tr, .inl ((cT 0), 1192, .inl f)), (wo, .inl ((cT 0), 16, .inl fw)), (di, .inl ((cT 0), 16, .inl fd)), (sh, .inr (1, [.ref sr, .int (nI sl)])), (sr, .inl ((cT 0), ns, .inl fs)), (ph, .inr (2, [.ref pr, .int (nI pl)])), (pr, .inl ((cT 0), np, .inl fp))] sz)) 0 0 (va_A [(g0, .inr (3, [.ref tx, .ref wo, .ref di, .int va, .int vb, .int vc, .int vd])), (tx, .inr (1, [.ref tr, .int (nI len)])), (tr, .inl ((cT 0), 1192, .inl f)), (wo, .inl ((cT 0), 16, .inl fw)), (di, .inl ((cT 0), 16, .inl fd)), (sh, .inr (1, [.ref sr, .int (nI sl)])), (sr, .inl ((cT 0), ns, .inl fs)), (ph, .inr (2, [.ref pr, .int (nI pl)])), (pr, .inl ((cT 0), np, .inl fp))] sz) := by
  refine Met.ofW (cc := b_Dg_ofAnswer) (maxL := 3) (ret := (Option.some (Jvm.ClassFile.FieldType.array Jvm.ClassFile.FieldType.int))) (by decide) rfl ?_
  intro p e s m args below meth c s₁ B hml hv
  obtain ⟨hargs, hsz, hP, hK, hD0, hE⟩ := hv
  have hx := B.exec
  have hb := B.bytes
  have hr := B.returns
  have hts := atoms_spec (ws := (Cond.code y_Dg_ofAnswer b_Dg_ofAnswer 3 (Option.some (Jvm.ClassFile.FieldType.array Jvm.ClassFile.FieldType.int)) :: BIG)) B.pre
  have hg : ∀ w ∈ BIG, w.before _ s = true := fun w h => hts w (List.mem_cons_of_mem _ h)
  have hown : s.vm.findClass "DoorServer$Digests" = some m.cls := findClass_of_methodNamed B.named
  have hlocks := B.notSynchronized
  subst hsz
  have hD := hD0.self (sz := s.heap.size)
  generalize hAe : va_A [(g0, .inr (3, [.ref tx, .ref wo, .ref di, .int va, .int vb, .int vc, .int vd])), (tx, .inr (1, [.ref tr, .int (nI len)])), (tr, .inl ((cT 0), 1192, .inl f)), (wo, .inl ((cT 0), 16, .inl fw)), (di, .inl ((cT 0), 16, .inl fd)), (sh, .inr (1, [.ref sr, .int (nI sl)])), (sr, .inl ((cT 0), ns, .inl fs)), (ph, .inr (2, [.ref pr, .int (nI pl)])), (pr, .inl ((cT 0), np, .inl fp))] s.heap.size = A at hD hE ⊢
  have hA : ∀ q : Nat, s.heap.size ≤ q → A q := fun q h => by rw [← hAe]; exact Or.inr h
  have hS : va_S A s.heap s.heap [] := va_S.rf
  have hl := lv_entry ([.ref g0, .ref sh, .ref ph]) (n := 3) (Nat.le_of_ble_eq_true rfl)
  refine W.eq (g2 := entryFrame m (List.toArray [.ref g0, .ref sh, .ref ph]) 3) (by rw [hargs]) ?_
  rw [lg_entry_eq]
  generalize (lg_sl ([.ref g0, .ref sh, .ref ph]) ++ List.replicate (3 - (lg_sl ([.ref g0, .ref sh, .ref ph])).length) Slot.unset).toArray = ls at hl ⊢
  have hl : lv_has ls 3 [(0, .ref g0), (1, .ref sh), (2, .ref ph)] := hl
  change W p l e ({ frames := 3, cells := 0, slots := 0, locals := 113 } : Room) s m args below meth c s.heap [] 0 0 _ _
  have hP : va_P (dC, dI) vcl [(g0, .inr (3, [.ref tx, .ref wo, .ref di, .int va, .int vb, .int vc, .int vd])), (tx, .inr (1, [.ref tr, .int (nI len)])), (tr, .inl ((cT 0), 1192, .inl f)), (wo, .inl ((cT 0), 16, .inl fw)), (di, .inl ((cT 0), 16, .inl fd)), (sh, .inr (1, [.ref sr, .int (nI sl)])), (sr, .inl ((cT 0), ns, .inl fs)), (ph, .inr (2, [.ref pr, .int (nI pl)])), (pr, .inl ((cT 0), np, .inl fp))] s.heap := hP
  refine lv_aload_n hx hb d_Dg_ofAnswer_0 rfl (lv_at hl 0 rfl) ?_
  refine va_get (D := (dC, dI)) (ci := 3) (v := (.ref tx)) (C := R_Dg) (T := F_Dg) (N := 7) hx hb hg in_Dg hown hK hP 0 rfl rfl 0 (by decide) (hg _ k_116) (fun _ h9 => h9) rfl d_Dg_ofAnswer_1 ?_
  refine lv_aload_n hx hb d_Dg_ofAnswer_4 rfl (lv_at hl 2 rfl) ?_
  refine va_get (D := (dC, dI)) (ci := 2) (v := (.ref pr)) (C := R_Pk) (T := F_Pk) (N := 2) hx hb hg in_Pk hown hK hP 7 rfl rfl 0 (by decide) (hg _ k_44) (fun _ h9 => h9) rfl d_Dg_ofAnswer_5 ?_
  refine lv_iconst (v := 0) hx hb d_Dg_ofAnswer_8 (by decide) ?_
  refine lv_topi (fun x94 e93 => ?_)
  obtain rfl : x94 = nI 0 := by rw [e93]; rfl
  refine lv_aload_n hx hb d_Dg_ofAnswer_9 rfl (lv_at hl 2 rfl) ?_
  refine va_get (D := (dC, dI)) (ci := 2) (v := (.int (nI pl))) (C := R_Pk) (T := F_Pk) (N := 2) hx hb hg in_Pk hown hK hP 7 rfl rfl 1 (by decide) (hg _ k_57) (fun _ h9 => h9) rfl d_Dg_ofAnswer_10 ?_
  have hPc := hP.sub (ws' := [(tx, .inr (1, [.ref tr, .int (nI len)])), (tr, .inl ((cT 0), 1192, .inl f)), (pr, .inl ((cT 0), np, .inl fp))]) [1, 2, 8] rfl
  have hDc := hD.sub (ws' := [(tx, .inr (1, [.ref tr, .int (nI len)])), (tr, .inl ((cT 0), 1192, .inl f)), (pr, .inl ((cT 0), np, .inl fp))]) [1, 2, 8] (by decide) rfl
  have hFc := va_free (wc := [(tx, .inr (1, [.ref tr, .int (nI len)])), (tr, .inl ((cT 0), 1192, .inl f)), (pr, .inl ((cT 0), np, .inl fp))]) hD hS hA [1, 2, 8] rfl
  refine va_callv (va_runV (C := "DoorServer$Bytes") (As := [.ref pr, .int (nI 0), .int (nI pl)]) (rest := []) ⟨hx, hb, hml, hown, hg⟩ (c_By_becomeRow l dC dI cT s.heap.size tx tr 1192 len f pr np fp 0 pl (by omega) (by decide) (by omega) (hnp)) (cwV 3 hg (gI (List.forall_mem_append.mpr ⟨List.forall_mem_cons.mpr ⟨k_567, List.forall_mem_cons.mpr ⟨k_568, List.forall_mem_cons.mpr ⟨k_569, List.forall_mem_cons.mpr ⟨k_2, fun _ h => absurd h List.not_mem_nil⟩⟩⟩⟩, List.forall_mem_cons.mpr ⟨k_572, fun _ h => h⟩⟩)) rfl rfl rfl (by decide +kernel) ⟨Nat.le_of_ble_eq_true rfl, Nat.le_of_ble_eq_true rfl⟩) ⟨fun a U g mk q => by obtain ⟨q0, q1, qP, qK, qD⟩ := q; exact ⟨q0, q1, qP, va_K.moved (u := U) (U := U.calling g mk a) (Vm.Alike.refl U.vm) qK, qD⟩, va_recv (q0 := 1) (ci := 1) hK hP rfl rfl, fun U hU hW => ⟨rfl, by rw [hU], by rw [hU]; exact hPc, va_K.moved hW.alike hK, hDc.weaken (fun _ _ _ _ => trivial)⟩⟩ rfl rfl hl.1 rfl (lv_room (Nat.le_of_ble_eq_true rfl)) d_Dg_ofAnswer_13 ⟨Nat.le_of_ble_eq_true rfl, Nat.le_of_ble_eq_true rfl⟩) hS (fun q _ h => hFc q h) hFc (fun u t H1 locs ht hvm hw hB hz1 hk1 hS => ?_)
  obtain ⟨g_95, rfl⟩ : ∃ z, z = u := ⟨_, rfl⟩
  try dsimp only at hw hB
  obtain ⟨hP1, hK1, hD1⟩ := hB
  rw [ht] at hP1
  obtain ⟨hP, hD⟩ := va_join (wr := [(g0, .inr (3, [.ref tx, .ref wo, .ref di, .int va, .int vb, .int vc, .int vd])), (wo, .inl ((cT 0), 16, .inl fw)), (di, .inl ((cT 0), 16, .inl fd)), (sh, .inr (1, [.ref sr, .int (nI sl)])), (sr, .inl ((cT 0), ns, .inl fs)), (ph, .inr (2, [.ref pr, .int (nI pl)]))]) (w1 := [(tx, .inr (1, [.ref tr, .int (nI pl)])), (tr, .inl ((cT 0), 1192, .inl g_95)), (pr, .inl ((cT 0), np, .inl fp))]) hP hD [1, 2, 8] [0, 3, 4, 5, 6, 7] rfl rfl (by decide) (by decide) hk1 hFc hP1 hD1
  have hw96 := hw
  clear hPc hDc hFc hz1 hk1 hP1 hK1 hD1
  generalize H1 = H at hP hS ⊢
  have hP : va_P (dC, dI) vcl [(g0, .inr (3, [.ref tx, .ref wo, .ref di, .int va, .int vb, .int vc, .int vd])), (wo, .inl ((cT 0), 16, .inl fw)), (di, .inl ((cT 0), 16, .inl fd)), (sh, .inr (1, [.ref sr, .int (nI sl)])), (sr, .inl ((cT 0), ns, .inl fs)), (ph, .inr (2, [.ref pr, .int (nI pl)])), (tx, .inr (1, [.ref tr, .int (nI pl)])), (tr, .inl ((cT 0), 1192, .inl g_95)), (pr, .inl ((cT 0), np, .inl fp))] H := hP
  have hD : va_D A [(g0, .inr (3, [.ref tx, .ref wo, .ref di, .int va, .int vb, .int vc, .int vd])), (wo, .inl ((cT 0), 16, .inl fw)), (di, .inl ((cT 0), 16, .inl fd)), (sh, .inr (1, [.ref sr, .int (nI sl)])), (sr, .inl ((cT 0), ns, .inl fs)), (ph, .inr (2, [.ref pr, .int (nI pl)])), (tx, .inr (1, [.ref tr, .int (nI pl)])), (tr, .inl ((cT 0), 1192, .inl g_95)), (pr, .inl ((cT 0), np, .inl fp))] := hD
  refine lv_aload_n hx hb d_Dg_ofAnswer_16 rfl (lv_at hl 0 rfl) ?_
  refine va_get (D := (dC, dI)) (ci := 3) (v := (.ref tx)) (C := R_Dg) (T := F_Dg) (N := 7) hx hb hg in_Dg hown hK hP 0 rfl rfl 0 (by decide) (hg _ k_116) (fun _ h9 => h9) rfl d_Dg_ofAnswer_17 ?_
  refine lv_aload_n hx hb d_Dg_ofAnswer_20 rfl (lv_at hl 1 rfl) ?_
  refine va_get (D := (dC, dI)) (ci := 1) (v := (.ref sr)) (C := R_By) (T := F_By) (N := 2) hx hb hg in_By hown hK hP 3 rfl rfl 0 (by decide) (hg _ k_44) (fun _ h9 => h9) rfl d_Dg_ofAnswer_21 ?_
  refine lv_iconst (v := 0) hx hb d_Dg_ofAnswer_24 (by decide) ?_
  refine lv_topi (fun x98 e97 => ?_)
  obtain rfl : x98 = nI 0 := by rw [e97]; rfl
  refine lv_aload_n hx hb d_Dg_ofAnswer_25 rfl (lv_at hl 1 rfl) ?_
  refine va_get (D := (dC, dI)) (ci := 1) (v := (.int (nI sl))) (C := R_By) (T := F_By) (N := 2) hx hb hg in_By hown hK hP 3 rfl rfl 1 (by decide) (hg _ k_57) (fun _ h9 => h9) rfl d_Dg_ofAnswer_26 ?_
  have hPc := hP.sub (ws' := [(tx, .inr (1, [.ref tr, .int (nI pl)])), (tr, .inl ((cT 0), 1192, .inl g_95)), (sr, .inl ((cT 0), ns, .inl fs))]) [6, 7, 4] rfl
  have hDc := hD.sub (ws' := [(tx, .inr (1, [.ref tr, .int (nI pl)])), (tr, .inl ((cT 0), 1192, .inl g_95)), (sr, .inl ((cT 0), ns, .inl fs))]) [6, 7, 4] (by decide) rfl
  have hFc := va_free (wc := [(tx, .inr (1, [.ref tr, .int (nI pl)])), (tr, .inl ((cT 0), 1192, .inl g_95)), (sr, .inl ((cT 0), ns, .inl fs))]) hD hS hA [6, 7, 4] rfl
  refine va_callv (va_runV (C := "DoorServer$Bytes") (As := [.ref sr, .int (nI 0), .int (nI sl)]) (rest := []) ⟨hx, hb, hml, hown, hg⟩ (c_By_row l dC dI cT H.size tx tr 1192 pl g_95 sr ns fs 0 sl (by omega) (by decide) (by omega) (hns)) (cwV 3 hg (gI (List.forall_mem_append.mpr ⟨List.forall_mem_cons.mpr ⟨k_582, List.forall_mem_cons.mpr ⟨k_574, List.forall_mem_cons.mpr ⟨k_575, List.forall_mem_cons.mpr ⟨k_2, fun _ h => absurd h List.not_mem_nil⟩⟩⟩⟩, List.forall_mem_cons.mpr ⟨k_578, fun _ h => h⟩⟩)) rfl rfl rfl (by decide +kernel) ⟨Nat.le_of_ble_eq_true rfl, Nat.le_of_ble_eq_true rfl⟩) ⟨fun a U g mk q => by obtain ⟨q0, q1, qP, qK, qD⟩ := q; exact ⟨q0, q1, qP, va_K.moved (u := U) (U := U.calling g mk a) (Vm.Alike.refl U.vm) qK, qD⟩, va_recv (q0 := 6) (ci := 1) hK hP rfl rfl, fun U hU hW => ⟨rfl, by rw [hU], by rw [hU]; exact hPc, va_K.moved hW.alike hK, hDc.weaken (fun _ _ _ _ => trivial)⟩⟩ rfl rfl hl.1 rfl (lv_room (Nat.le_of_ble_eq_true rfl)) d_Dg_ofAnswer_29 ⟨Nat.le_of_ble_eq_true rfl, Nat.le_of_ble_eq_true rfl⟩) hS (fun q _ h => hFc q h) hFc (fun u t H1 locs ht hvm hw hB hz1 hk1 hS => ?_)
  obtain ⟨g_99, rfl⟩ : ∃ z, z = u := ⟨_, rfl⟩
  try dsimp only at hw hB
  obtain ⟨hP1, hK1, hD1⟩ := hB
  rw [ht] at hP1
  obtain ⟨hP, hD⟩ := va_join (wr := [(g0, .inr (3, [.ref tx, .ref wo, .ref di, .int va, .int vb, .int vc, .int vd])), (wo, .inl ((cT 0), 16, .inl fw)), (di, .inl ((cT 0), 16, .inl fd)), (sh, .inr (1, [.ref sr, .int (nI sl)])), (ph, .inr (2, [.ref pr, .int (nI pl)])), (pr, .inl ((cT 0), np, .inl fp))]) (w1 := [(tx, .inr (1, [.ref tr, .int (nI (pl + sl))])), (tr, .inl ((cT 0), 1192, .inl g_99)), (sr, .inl ((cT 0), ns, .inl fs))]) hP hD [6, 7, 4] [0, 1, 2, 3, 5, 8] rfl rfl (by decide) (by decide) hk1 hFc hP1 hD1
  have hw100 := hw
  clear hPc hDc hFc hz1 hk1 hP1 hK1 hD1
  generalize H1 = H at hP hS ⊢
  have hP : va_P (dC, dI) vcl [(g0, .inr (3, [.ref tx, .ref wo, .ref di, .int va, .int vb, .int vc, .int vd])), (wo, .inl ((cT 0), 16, .inl fw)), (di, .inl ((cT 0), 16, .inl fd)), (sh, .inr (1, [.ref sr, .int (nI sl)])), (ph, .inr (2, [.ref pr, .int (nI pl)])), (pr, .inl ((cT 0), np, .inl fp)), (tx, .inr (1, [.ref tr, .int (nI (pl + sl))])), (tr, .inl ((cT 0), 1192, .inl g_99)), (sr, .inl ((cT 0), ns, .inl fs))] H := hP
  have hD : va_D A [(g0, .inr (3, [.ref tx, .ref wo, .ref di, .int va, .int vb, .int vc, .int vd])), (wo, .inl ((cT 0), 16, .inl fw)), (di, .inl ((cT 0), 16, .inl fd)), (sh, .inr (1, [.ref sr, .int (nI sl)])), (ph, .inr (2, [.ref pr, .int (nI pl)])), (pr, .inl ((cT 0), np, .inl fp)), (tx, .inr (1, [.ref tr, .int (nI (pl + sl))])), (tr, .inl ((cT 0), 1192, .inl g_99)), (sr, .inl ((cT 0), ns, .inl fs))] := hD
  refine lv_aload_n hx hb d_Dg_ofAnswer_32 rfl (lv_at hl 0 rfl) ?_
  have hPc := hP.sub (ws' := [(g0, .inr (3, [.ref tx, .ref wo, .ref di, .int va, .int vb, .int vc, .int vd])), (tx, .inr (1, [.ref tr, .int (nI (pl + sl))])), (tr, .inl ((cT 0), 1192, .inl g_99)), (wo, .inl ((cT 0), 16, .inl fw)), (di, .inl ((cT 0), 16, .inl fd))]) [0, 6, 7, 1, 2] rfl
  have hDc := hD.sub (ws' := [(g0, .inr (3, [.ref tx, .ref wo, .ref di, .int va, .int vb, .int vc, .int vd])), (tx, .inr (1, [.ref tr, .int (nI (pl + sl))])), (tr, .inl ((cT 0), 1192, .inl g_99)), (wo, .inl ((cT 0), 16, .inl fw)), (di, .inl ((cT 0), 16, .inl fd))]) [0, 6, 7, 1, 2] (by decide) rfl
  have hFc := va_free (wc := [(g0, .inr (3, [.ref tx, .ref wo, .ref di, .int va, .int vb, .int vc, .int vd])), (tx, .inr (1, [.ref tr, .int (nI (pl + sl))])), (tr, .inl ((cT 0), 1192, .inl g_99)), (wo, .inl ((cT 0), 16, .inl fw)), (di, .inl ((cT 0), 16, .inl fd))]) hD hS hA [0, 6, 7, 1, 2] rfl
  refine va_callr (va_runV (C := "DoorServer$Digests") (As := []) (rest := []) ⟨hx, hb, hml, hown, hg⟩ (c_Dg_text l dC dI cT H.size g0 tx tr wo di va vb vc vd (pl + sl) g_99 fw fd (by omega)) (cwV 0 hg (gI (List.forall_mem_append.mpr ⟨List.forall_mem_cons.mpr ⟨k_583, List.forall_mem_cons.mpr ⟨k_585, List.forall_mem_cons.mpr ⟨(big_sel (q := y_Dg_digestText) (n := 7) (by decide +kernel)), List.forall_mem_cons.mpr ⟨k_5, fun _ h => absurd h List.not_mem_nil⟩⟩⟩⟩, List.forall_mem_cons.mpr ⟨k_586, fun _ h => h⟩⟩)) rfl rfl rfl (by decide +kernel) ⟨Nat.le_of_ble_eq_true rfl, Nat.le_of_ble_eq_true rfl⟩) ⟨fun a U g mk q => by obtain ⟨q0, q1, qP, qK, qD, qE⟩ := q; exact ⟨q0, q1, qP, va_K.moved (u := U) (U := U.calling g mk a) (Vm.Alike.refl U.vm) qK, qD, qE.at (State.WarmedH.refl _) (fun _ _ _ => rfl) (fun _ h => h)⟩, va_recv (q0 := 0) (ci := 3) hK hP rfl rfl, fun U hU hW => ⟨rfl, by rw [hU], by rw [hU]; exact hPc, va_K.moved hW.alike hK, hDc.weaken (fun _ _ _ _ => trivial), by rw [hU]; exact hE.at hW hS.2.1 hFc⟩⟩ rfl rfl hl.1 rfl (lv_room (Nat.le_of_ble_eq_true rfl)) d_Dg_ofAnswer_33 ⟨Nat.le_of_ble_eq_true rfl, Nat.le_of_ble_eq_true rfl⟩) hS (fun q _ h => hFc q h) hFc (fun u a9 t H1 locs ht hvm hw hB hz1 hk1 hS => ?_)
  obtain ⟨fw2_101, fd2_102, a2_103, b2_104, c2_105, d2_106, f2_107⟩ := u
  try dsimp only at hw hB
  obtain ⟨rfl, hP1, hK1, hD1⟩ := hB
  rw [ht] at hP1
  obtain ⟨hP, hD⟩ := va_join (wr := [(sh, .inr (1, [.ref sr, .int (nI sl)])), (ph, .inr (2, [.ref pr, .int (nI pl)])), (pr, .inl ((cT 0), np, .inl fp)), (sr, .inl ((cT 0), ns, .inl fs))]) (w1 := [(g0, .inr (3, [.ref tx, .ref wo, .ref di, .int a2_103, .int b2_104, .int c2_105, .int d2_106])), (tx, .inr (1, [.ref tr, .int (nI (pl + sl))])), (tr, .inl ((cT 0), 1192, .inl f2_107)), (wo, .inl ((cT 0), 16, .inl fw2_101)), (di, .inl ((cT 0), 16, .inl fd2_102))]) hP hD [0, 6, 7, 1, 2] [3, 4, 5, 8] rfl rfl (by decide) (by decide) hk1 hFc hP1 hD1
  have hw108 := hw
  clear hPc hDc hFc hz1 hk1 hP1 hK1 hD1
  generalize H1 = H at hP hS ⊢
  have hP : va_P (dC, dI) vcl [(sh, .inr (1, [.ref sr, .int (nI sl)])), (ph, .inr (2, [.ref pr, .int (nI pl)])), (pr, .inl ((cT 0), np, .inl fp)), (sr, .inl ((cT 0), ns, .inl fs)), (g0, .inr (3, [.ref tx, .ref wo, .ref di, .int a2_103, .int b2_104, .int c2_105, .int d2_106])), (tx, .inr (1, [.ref tr, .int (nI (pl + sl))])), (tr, .inl ((cT 0), 1192, .inl f2_107)), (wo, .inl ((cT 0), 16, .inl fw2_101)), (di, .inl ((cT 0), 16, .inl fd2_102))] H := hP
  have hD : va_D A [(sh, .inr (1, [.ref sr, .int (nI sl)])), (ph, .inr (2, [.ref pr, .int (nI pl)])), (pr, .inl ((cT 0), np, .inl fp)), (sr, .inl ((cT 0), ns, .inl fs)), (g0, .inr (3, [.ref tx, .ref wo, .ref di, .int a2_103, .int b2_104, .int c2_105, .int d2_106])), (tx, .inr (1, [.ref tr, .int (nI (pl + sl))])), (tr, .inl ((cT 0), 1192, .inl f2_107)), (wo, .inl ((cT 0), 16, .inl fw2_101)), (di, .inl ((cT 0), 16, .inl fd2_102))] := hD
  have hP9 := hP.sub (ws' := [(g0, .inr (3, [.ref tx, .ref wo, .ref di, .int a2_103, .int b2_104, .int c2_105, .int d2_106])), (tx, .inr (1, [.ref tr, .int (nI (pl + sl))])), (tr, .inl ((cT 0), 1192, .inl f2_107)), (wo, .inl ((cT 0), 16, .inl fw2_101)), (di, .inl ((cT 0), 16, .inl fd2_102)), (sh, .inr (1, [.ref sr, .int (nI sl)])), (sr, .inl ((cT 0), ns, .inl fs)), (ph, .inr (2, [.ref pr, .int (nI pl)])), (pr, .inl ((cT 0), np, .inl fp))]) [4, 5, 6, 7, 8, 0, 3, 1, 2] rfl
  have hD9 := hD.sub (ws' := [(g0, .inr (3, [.ref tx, .ref wo, .ref di, .int a2_103, .int b2_104, .int c2_105, .int d2_106])), (tx, .inr (1, [.ref tr, .int (nI (pl + sl))])), (tr, .inl ((cT 0), 1192, .inl f2_107)), (wo, .inl ((cT 0), 16, .inl fw2_101)), (di, .inl ((cT 0), 16, .inl fd2_102)), (sh, .inr (1, [.ref sr, .int (nI sl)])), (sr, .inl ((cT 0), ns, .inl fs)), (ph, .inr (2, [.ref pr, .int (nI pl)])), (pr, .inl ((cT 0), np, .inl fp))]) [4, 5, 6, 7, 8, 0, 3, 1, 2] (by decide) rfl
  exact W.aret (v := .ref di) hx hb hr (by first | exact Or.inr ⟨_, rfl⟩ | exact Or.inl ⟨_, rfl⟩) (Or.inr ⟨_, rfl⟩) (fun t ht hW => ⟨⟨⟨fw2_101, fd2_102, a2_103, b2_104, c2_105, d2_106, f2_107⟩, _, rfl, hw108, rfl, by rw [ht]; exact hP9, va_K.moved hW.alike hK, hD9⟩, hS.F ht⟩) hS.2.2 d_Dg_ofAnswer_36
set_option maxHeartbeats 4000000 in
set_option maxRecDepth 100000 in
/-- ofReply -/
theorem c_Dg_reply (l : Launch) (dC : Nat → ClassId) (dI : Nat → Nat → Nat) (cT : Nat → ClassId) (sz : Nat) (g0 : Nat) (tx : Nat) (tr : Nat) (wo : Nat) (di : Nat) (va : Int32) (vb : Int32) (vc : Int32) (vd : Int32) (len : Nat) (f : Nat → Int32) (fw : Nat → Int32) (fd : Nat → Int32) (sh : Nat) (sr : Nat) (ns : Nat) (sl : Nat) (fs : Nat → Int32) (pr : Nat) (np : Nat) (fp : Nat → Int32) (at_ : Nat) (x : Int32) (hsl : sl ≤ ns) (hns : ns < 2 ^ 31) (hnp : np < 2 ^ 31) (hat : at_ + 16 ≤ np) (hs40 : sl ≤ 64) : Met l y_Dg_ofReply (Cond.code y_Dg_ofReply b_Dg_ofReply 5 (Option.some (Jvm.ClassFile.FieldType.array Jvm.ClassFile.FieldType.int)) :: BIG) ({ frames := 3, cells := 0, slots := 0, locals := 113 }) (va_Pc [.ref g0, .int x, .ref sh, .ref pr, .int (nI at_)] (fun U => U.heap.size = sz ∧ va_P (dC, dI) vcl [(g0, .inr (3, [.ref tx, .ref wo, .ref di, .int va, .int vb, .int vc, .int vd])), (tx, .inr (1, [.ref tr, .int (nI len)])), (tr, .inl ((cT 0), 1192, .inl f)), (wo, .inl ((cT 0), 16, .inl fw)), (di, .inl ((cT 0), 16, .inl fd)), (sh, .inr (1, [.ref sr, .int (nI sl)])), (sr, .inl ((cT 0), ns, .inl fs)), (pr, .inl ((cT 0), np, .inl fp))] U.heap ∧ va_K (dC, dI) vcl (tyL cT) U ∧ va_D (fun _ => True) [(g0, .inr (3, [.ref tx, .ref wo, .ref di, .int va, .int vb, .int vc, .int vd])), (tx, .inr (1, [.ref tr, .int (nI len)])), (tr, .inl ((cT 0), 1192, .inl f)), (wo, .inl ((cT 0), 16, .inl fw)), (di, .inl ((cT 0), 16, .inl fd)), (sh, .inr (1, [.ref sr, .int (nI sl)])), (sr, .inl ((cT 0), ns, .inl fs)), (pr, .inl ((cT 0), np, .inl fp))] ∧ xm (va_A [(g0, .inr (3, [.ref tx, .ref wo, .ref di, .int va, .int vb, .int vc, .int vd])), (tx, .inr (1, [.ref tr, .int (nI len)])), (tr, .inl ((cT 0), 1192, .inl f)), (wo, .inl ((cT 0), 16, .inl fw)), (di, .inl ((cT 0), 16, .inl fd)), (sh, .inr (1, [.ref sr, .int (nI sl)])), (sr, .inl ((cT 0), ns, .inl fs)), (pr, .inl ((cT 0), np, .inl fp))] sz) U U.heap)) (va_Qr (S := (Nat → Int32) × (Nat → Int32) × Int32 × Int32 × Int32 × Int32 × (Nat → Int32)) (fun u => match u with | (fw2, fd2, a2, b2, c2, d2, f2) => AB fd → AB fd2) (fun u a t => match u with | (fw2, fd2, a2, b2, c2, d2, f2) => di = a ∧ va_P (dC, dI) vcl [(g0, .inr (3, [.ref tx, .ref wo, .ref di, .int a2, .int b2, .int c2, .int d2])), (tx, .inr (1, [.ref tr, .int (nI (0 + 1 + sl + 16))])), (tr, .inl ((cT 0), 1192, .inl f2)), (wo, .inl ((cT 0), 16, .inl fw2)), (di, .inl ((cT 0), 16, .inl fd2)), (sh, .inr (1, [.ref sr, .int (nI sl)])), (sr, .inl ((cT 0), ns, .inl fs)), (pr, .inl ((cT 0), np, .inl fp))] t.heap ∧ va_K (dC, dI) vcl (tyL cT) t ∧ va_D (va_A [(g0, .inr (3, [.ref tx, .ref wo, .ref di, .int va, .int vb, .int vc, .int vd])), (tx, .inr (1, [.ref tr, .int (nI len)])), (tr, .inl ((cT 0), 1192, .inl f)), (wo, .inl ((cT 0), 16, .inl fw)), (di, .inl ((cT 0), 16, .inl fd)), (sh, .inr (1, [.ref sr, .int (nI sl)])), (sr, .inl ((cT 0), ns, .inl fs)), (pr, .inl ((cT 0), np, .inl fp))] sz) [(g0, .inr (3, [.ref tx, .ref wo, .ref di, .int a2, .int b2, .int c2, .int d2])), (tx, .inr (1, [.ref tr, .int (nI (0 + 1 + sl + 16))])), (tr, .inl ((cT 0), 1192, .inl f2)), (wo, .inl ((cT 0), 16, .inl fw2)), (di, .inl ((cT 0), 16, .inl fd2)), (sh, .inr (1, [.ref sr, .int (nI sl)])), (sr, .inl ((cT 0), ns, .inl fs)), (pr, .inl ((cT 0), np, .inl fp))]) (va_A [(g0, .inr (3, [.ref tx, .ref wo, .ref di, .int va, .int vb, .int vc, .int vd])), (tx, .inr (1, [.ref tr, .int (nI len)])), (tr, .inl ((cT 0), 1192, .inl f)), (wo, .inl ((cT 0), 16, .inl fw)), (di, .inl ((cT 0), 16, .inl fd)), (sh, .inr (1, [.ref sr, .int (nI sl)])), (sr, .inl ((cT 0), ns, .inl fs)), (pr, .inl ((cT 0), np, .inl fp))] sz)) 0 0 (va_A [(g0, .inr (3, [.ref tx, .ref wo, .ref di, .int va, .int vb, .int vc, .int vd])), (tx, .inr (1, [.ref tr, .int (nI len)])), (tr, .inl ((cT 0), 1192, .inl f)), (wo, .inl ((cT 0), 16, .inl fw)), (di, .inl ((cT 0), 16, .inl fd)), (sh, .inr (1, [.ref sr, .int (nI sl)])), (sr, .inl ((cT 0), ns, .inl fs)), (pr, .inl ((cT 0), np, .inl fp))] sz) := by
  refine Met.ofW (cc := b_Dg_ofReply) (maxL := 5) (ret := (Option.some (Jvm.ClassFile.FieldType.array Jvm.ClassFile.FieldType.int))) (by decide) rfl ?_
  intro p e s m args below meth c s₁ B hml hv
  obtain ⟨hargs, hsz, hP, hK, hD0, hE⟩ := hv
  have hx := B.exec
  have hb := B.bytes
  have hr := B.returns
  have hts := atoms_spec (ws := (Cond.code y_Dg_ofReply b_Dg_ofReply 5 (Option.some (Jvm.ClassFile.FieldType.array Jvm.ClassFile.FieldType.int)) :: BIG)) B.pre
  have hg : ∀ w ∈ BIG, w.before _ s = true := fun w h => hts w (List.mem_cons_of_mem _ h)
  have hown : s.vm.findClass "DoorServer$Digests" = some m.cls := findClass_of_methodNamed B.named
  have hlocks := B.notSynchronized
  subst hsz
  have hD := hD0.self (sz := s.heap.size)
  generalize hAe : va_A [(g0, .inr (3, [.ref tx, .ref wo, .ref di, .int va, .int vb, .int vc, .int vd])), (tx, .inr (1, [.ref tr, .int (nI len)])), (tr, .inl ((cT 0), 1192, .inl f)), (wo, .inl ((cT 0), 16, .inl fw)), (di, .inl ((cT 0), 16, .inl fd)), (sh, .inr (1, [.ref sr, .int (nI sl)])), (sr, .inl ((cT 0), ns, .inl fs)), (pr, .inl ((cT 0), np, .inl fp))] s.heap.size = A at hD hE ⊢
  have hA : ∀ q : Nat, s.heap.size ≤ q → A q := fun q h => by rw [← hAe]; exact Or.inr h
  have hS : va_S A s.heap s.heap [] := va_S.rf
  have hl := lv_entry ([.ref g0, .int x, .ref sh, .ref pr, .int (nI at_)]) (n := 5) (Nat.le_of_ble_eq_true rfl)
  refine W.eq (g2 := entryFrame m (List.toArray [.ref g0, .int x, .ref sh, .ref pr, .int (nI at_)]) 5) (by rw [hargs]) ?_
  rw [lg_entry_eq]
  generalize (lg_sl ([.ref g0, .int x, .ref sh, .ref pr, .int (nI at_)]) ++ List.replicate (5 - (lg_sl ([.ref g0, .int x, .ref sh, .ref pr, .int (nI at_)])).length) Slot.unset).toArray = ls at hl ⊢
  have hl : lv_has ls 5 [(0, .ref g0), (1, .int x), (2, .ref sh), (3, .ref pr), (4, .int (nI at_))] := hl
  change W p l e ({ frames := 3, cells := 0, slots := 0, locals := 113 } : Room) s m args below meth c s.heap [] 0 0 _ _
  have hP : va_P (dC, dI) vcl [(g0, .inr (3, [.ref tx, .ref wo, .ref di, .int va, .int vb, .int vc, .int vd])), (tx, .inr (1, [.ref tr, .int (nI len)])), (tr, .inl ((cT 0), 1192, .inl f)), (wo, .inl ((cT 0), 16, .inl fw)), (di, .inl ((cT 0), 16, .inl fd)), (sh, .inr (1, [.ref sr, .int (nI sl)])), (sr, .inl ((cT 0), ns, .inl fs)), (pr, .inl ((cT 0), np, .inl fp))] s.heap := hP
  refine lv_aload_n hx hb d_Dg_ofReply_0 rfl (lv_at hl 0 rfl) ?_
  refine va_get (D := (dC, dI)) (ci := 3) (v := (.ref tx)) (C := R_Dg) (T := F_Dg) (N := 7) hx hb hg in_Dg hown hK hP 0 rfl rfl 0 (by decide) (hg _ k_116) (fun _ h9 => h9) rfl d_Dg_ofReply_1 ?_
  refine lv_iconst (v := 0) hx hb d_Dg_ofReply_4 (by decide) ?_
  refine lv_topi (fun x110 e109 => ?_)
  obtain rfl : x110 = nI 0 := by rw [e109]; rfl
  refine va_put (D := (dC, dI)) (ci := 1) (v := (.int (nI 0))) (ty := .int) (C := R_By) (T := F_By) (N := 2) hx hb hg in_By t_By tok_By nm_By hown hK hP hD hS 1 rfl rfl 1 (by decide) (hg _ k_57) (fun _ h9 => h9) rfl (by decide +kernel) rfl rfl (Nat.le_of_ble_eq_true rfl) d_Dg_ofReply_5 (fun H locs hP hD hS => ?_)
  have hP : va_P (dC, dI) vcl [(g0, .inr (3, [.ref tx, .ref wo, .ref di, .int va, .int vb, .int vc, .int vd])), (tx, .inr (1, [.ref tr, .int (nI 0)])), (tr, .inl ((cT 0), 1192, .inl f)), (wo, .inl ((cT 0), 16, .inl fw)), (di, .inl ((cT 0), 16, .inl fd)), (sh, .inr (1, [.ref sr, .int (nI sl)])), (sr, .inl ((cT 0), ns, .inl fs)), (pr, .inl ((cT 0), np, .inl fp))] H := hP
  have hD : va_D A [(g0, .inr (3, [.ref tx, .ref wo, .ref di, .int va, .int vb, .int vc, .int vd])), (tx, .inr (1, [.ref tr, .int (nI 0)])), (tr, .inl ((cT 0), 1192, .inl f)), (wo, .inl ((cT 0), 16, .inl fw)), (di, .inl ((cT 0), 16, .inl fd)), (sh, .inr (1, [.ref sr, .int (nI sl)])), (sr, .inl ((cT 0), ns, .inl fs)), (pr, .inl ((cT 0), np, .inl fp))] := hD
  refine lv_aload_n hx hb d_Dg_ofReply_8 rfl (lv_at hl 0 rfl) ?_
  refine va_get (D := (dC, dI)) (ci := 3) (v := (.ref tx)) (C := R_Dg) (T := F_Dg) (N := 7) hx hb hg in_Dg hown hK hP 0 rfl rfl 0 (by decide) (hg _ k_116) (fun _ h9 => h9) rfl d_Dg_ofReply_9 ?_
  refine lv_iload_n hx hb d_Dg_ofReply_12 rfl (lv_at hl 1 rfl) ?_
  have hPc := hP.sub (ws' := [(tx, .inr (1, [.ref tr, .int (nI 0)])), (tr, .inl ((cT 0), 1192, .inl f))]) [1, 2] rfl
  have hDc := hD.sub (ws' := [(tx, .inr (1, [.ref tr, .int (nI 0)])), (tr, .inl ((cT 0), 1192, .inl f))]) [1, 2] (by decide) rfl
  have hFc := va_free (wc := [(tx, .inr (1, [.ref tr, .int (nI 0)])), (tr, .inl ((cT 0), 1192, .inl f))]) hD hS hA [1, 2] rfl
  refine va_callv (va_runV (C := "DoorServer$Bytes") (As := [.int x]) (rest := []) ⟨hx, hb, hml, hown, hg⟩ (c_By_append l dC dI cT H.size tx tr 1192 0 f x (by decide) (by decide)) (cwV 1 hg (gI (List.forall_mem_append.mpr ⟨List.forall_mem_cons.mpr ⟨k_632, List.forall_mem_cons.mpr ⟨k_76, List.forall_mem_cons.mpr ⟨k_1420, List.forall_mem_cons.mpr ⟨k_2, fun _ h => absurd h List.not_mem_nil⟩⟩⟩⟩, List.forall_mem_cons.mpr ⟨k_77, fun _ h => h⟩⟩)) rfl rfl rfl (by decide +kernel) ⟨Nat.le_of_ble_eq_true rfl, Nat.le_of_ble_eq_true rfl⟩) ⟨fun a U g mk q => by obtain ⟨q0, q1, qP, qK, qD⟩ := q; exact ⟨q0, q1, qP, va_K.moved (u := U) (U := U.calling g mk a) (Vm.Alike.refl U.vm) qK, qD⟩, va_recv (q0 := 1) (ci := 1) hK hP rfl rfl, fun U hU hW => ⟨rfl, by rw [hU], by rw [hU]; exact hPc, va_K.moved hW.alike hK, hDc.weaken (fun _ _ _ _ => trivial)⟩⟩ rfl rfl hl.1 rfl (lv_room (Nat.le_of_ble_eq_true rfl)) d_Dg_ofReply_13 ⟨Nat.le_of_ble_eq_true rfl, Nat.le_of_ble_eq_true rfl⟩) hS (fun q _ h => hFc q h) hFc (fun u t H1 locs ht hvm hw hB hz1 hk1 hS => ?_)
  try dsimp only at hw hB
  obtain ⟨hP1, hK1, hD1⟩ := hB
  rw [ht] at hP1
  obtain ⟨hP, hD⟩ := va_join (wr := [(g0, .inr (3, [.ref tx, .ref wo, .ref di, .int va, .int vb, .int vc, .int vd])), (wo, .inl ((cT 0), 16, .inl fw)), (di, .inl ((cT 0), 16, .inl fd)), (sh, .inr (1, [.ref sr, .int (nI sl)])), (sr, .inl ((cT 0), ns, .inl fs)), (pr, .inl ((cT 0), np, .inl fp))]) (w1 := [(tx, .inr (1, [.ref tr, .int (nI (0 + 1))])), (tr, .inl ((cT 0), 1192, .inl (upd f 0 (x &&& 255))))]) hP hD [1, 2] [0, 3, 4, 5, 6, 7] rfl rfl (by decide) (by decide) hk1 hFc hP1 hD1
  have hw111 := hw
  clear hPc hDc hFc hz1 hk1 hP1 hK1 hD1
  generalize H1 = H at hP hS ⊢
  have hP : va_P (dC, dI) vcl [(g0, .inr (3, [.ref tx, .ref wo, .ref di, .int va, .int vb, .int vc, .int vd])), (wo, .inl ((cT 0), 16, .inl fw)), (di, .inl ((cT 0), 16, .inl fd)), (sh, .inr (1, [.ref sr, .int (nI sl)])), (sr, .inl ((cT 0), ns, .inl fs)), (pr, .inl ((cT 0), np, .inl fp)), (tx, .inr (1, [.ref tr, .int (nI (0 + 1))])), (tr, .inl ((cT 0), 1192, .inl (upd f 0 (x &&& 255))))] H := hP
  have hD : va_D A [(g0, .inr (3, [.ref tx, .ref wo, .ref di, .int va, .int vb, .int vc, .int vd])), (wo, .inl ((cT 0), 16, .inl fw)), (di, .inl ((cT 0), 16, .inl fd)), (sh, .inr (1, [.ref sr, .int (nI sl)])), (sr, .inl ((cT 0), ns, .inl fs)), (pr, .inl ((cT 0), np, .inl fp)), (tx, .inr (1, [.ref tr, .int (nI (0 + 1))])), (tr, .inl ((cT 0), 1192, .inl (upd f 0 (x &&& 255))))] := hD
  refine lv_aload_n hx hb d_Dg_ofReply_16 rfl (lv_at hl 0 rfl) ?_
  refine va_get (D := (dC, dI)) (ci := 3) (v := (.ref tx)) (C := R_Dg) (T := F_Dg) (N := 7) hx hb hg in_Dg hown hK hP 0 rfl rfl 0 (by decide) (hg _ k_116) (fun _ h9 => h9) rfl d_Dg_ofReply_17 ?_
  refine lv_aload_n hx hb d_Dg_ofReply_20 rfl (lv_at hl 2 rfl) ?_
  refine va_get (D := (dC, dI)) (ci := 1) (v := (.ref sr)) (C := R_By) (T := F_By) (N := 2) hx hb hg in_By hown hK hP 3 rfl rfl 0 (by decide) (hg _ k_44) (fun _ h9 => h9) rfl d_Dg_ofReply_21 ?_
  refine lv_iconst (v := 0) hx hb d_Dg_ofReply_24 (by decide) ?_
  refine lv_topi (fun x113 e112 => ?_)
  obtain rfl : x113 = nI 0 := by rw [e112]; rfl
  refine lv_aload_n hx hb d_Dg_ofReply_25 rfl (lv_at hl 2 rfl) ?_
  refine va_get (D := (dC, dI)) (ci := 1) (v := (.int (nI sl))) (C := R_By) (T := F_By) (N := 2) hx hb hg in_By hown hK hP 3 rfl rfl 1 (by decide) (hg _ k_57) (fun _ h9 => h9) rfl d_Dg_ofReply_26 ?_
  have hPc := hP.sub (ws' := [(tx, .inr (1, [.ref tr, .int (nI (0 + 1))])), (tr, .inl ((cT 0), 1192, .inl (upd f 0 (x &&& 255)))), (sr, .inl ((cT 0), ns, .inl fs))]) [6, 7, 4] rfl
  have hDc := hD.sub (ws' := [(tx, .inr (1, [.ref tr, .int (nI (0 + 1))])), (tr, .inl ((cT 0), 1192, .inl (upd f 0 (x &&& 255)))), (sr, .inl ((cT 0), ns, .inl fs))]) [6, 7, 4] (by decide) rfl
  have hFc := va_free (wc := [(tx, .inr (1, [.ref tr, .int (nI (0 + 1))])), (tr, .inl ((cT 0), 1192, .inl (upd f 0 (x &&& 255)))), (sr, .inl ((cT 0), ns, .inl fs))]) hD hS hA [6, 7, 4] rfl
  refine va_callv (va_runV (C := "DoorServer$Bytes") (As := [.ref sr, .int (nI 0), .int (nI sl)]) (rest := []) ⟨hx, hb, hml, hown, hg⟩ (c_By_row l dC dI cT H.size tx tr 1192 (0 + 1) (upd f 0 (x &&& 255)) sr ns fs 0 sl (by omega) (by decide) (by omega) (hns)) (cwV 3 hg (gI (List.forall_mem_append.mpr ⟨List.forall_mem_cons.mpr ⟨k_582, List.forall_mem_cons.mpr ⟨k_574, List.forall_mem_cons.mpr ⟨k_575, List.forall_mem_cons.mpr ⟨k_2, fun _ h => absurd h List.not_mem_nil⟩⟩⟩⟩, List.forall_mem_cons.mpr ⟨k_578, fun _ h => h⟩⟩)) rfl rfl rfl (by decide +kernel) ⟨Nat.le_of_ble_eq_true rfl, Nat.le_of_ble_eq_true rfl⟩) ⟨fun a U g mk q => by obtain ⟨q0, q1, qP, qK, qD⟩ := q; exact ⟨q0, q1, qP, va_K.moved (u := U) (U := U.calling g mk a) (Vm.Alike.refl U.vm) qK, qD⟩, va_recv (q0 := 6) (ci := 1) hK hP rfl rfl, fun U hU hW => ⟨rfl, by rw [hU], by rw [hU]; exact hPc, va_K.moved hW.alike hK, hDc.weaken (fun _ _ _ _ => trivial)⟩⟩ rfl rfl hl.1 rfl (lv_room (Nat.le_of_ble_eq_true rfl)) d_Dg_ofReply_29 ⟨Nat.le_of_ble_eq_true rfl, Nat.le_of_ble_eq_true rfl⟩) hS (fun q _ h => hFc q h) hFc (fun u t H1 locs ht hvm hw hB hz1 hk1 hS => ?_)
  obtain ⟨g_114, rfl⟩ : ∃ z, z = u := ⟨_, rfl⟩
  try dsimp only at hw hB
  obtain ⟨hP1, hK1, hD1⟩ := hB
  rw [ht] at hP1
  obtain ⟨hP, hD⟩ := va_join (wr := [(g0, .inr (3, [.ref tx, .ref wo, .ref di, .int va, .int vb, .int vc, .int vd])), (wo, .inl ((cT 0), 16, .inl fw)), (di, .inl ((cT 0), 16, .inl fd)), (sh, .inr (1, [.ref sr, .int (nI sl)])), (pr, .inl ((cT 0), np, .inl fp))]) (w1 := [(tx, .inr (1, [.ref tr, .int (nI ((0 + 1) + sl))])), (tr, .inl ((cT 0), 1192, .inl g_114)), (sr, .inl ((cT 0), ns, .inl fs))]) hP hD [6, 7, 4] [0, 1, 2, 3, 5] rfl rfl (by decide) (by decide) hk1 hFc hP1 hD1
  have hw115 := hw
  clear hPc hDc hFc hz1 hk1 hP1 hK1 hD1
  generalize H1 = H at hP hS ⊢
  have hP : va_P (dC, dI) vcl [(g0, .inr (3, [.ref tx, .ref wo, .ref di, .int va, .int vb, .int vc, .int vd])), (wo, .inl ((cT 0), 16, .inl fw)), (di, .inl ((cT 0), 16, .inl fd)), (sh, .inr (1, [.ref sr, .int (nI sl)])), (pr, .inl ((cT 0), np, .inl fp)), (tx, .inr (1, [.ref tr, .int (nI ((0 + 1) + sl))])), (tr, .inl ((cT 0), 1192, .inl g_114)), (sr, .inl ((cT 0), ns, .inl fs))] H := hP
  have hD : va_D A [(g0, .inr (3, [.ref tx, .ref wo, .ref di, .int va, .int vb, .int vc, .int vd])), (wo, .inl ((cT 0), 16, .inl fw)), (di, .inl ((cT 0), 16, .inl fd)), (sh, .inr (1, [.ref sr, .int (nI sl)])), (pr, .inl ((cT 0), np, .inl fp)), (tx, .inr (1, [.ref tr, .int (nI ((0 + 1) + sl))])), (tr, .inl ((cT 0), 1192, .inl g_114)), (sr, .inl ((cT 0), ns, .inl fs))] := hD
  refine lv_aload_n hx hb d_Dg_ofReply_32 rfl (lv_at hl 0 rfl) ?_
  refine va_get (D := (dC, dI)) (ci := 3) (v := (.ref tx)) (C := R_Dg) (T := F_Dg) (N := 7) hx hb hg in_Dg hown hK hP 0 rfl rfl 0 (by decide) (hg _ k_116) (fun _ h9 => h9) rfl d_Dg_ofReply_33 ?_
  refine lv_aload_n hx hb d_Dg_ofReply_36 rfl (lv_at hl 3 rfl) ?_
  refine lv_iload hx hb d_Dg_ofReply_37 (lv_at hl 4 rfl) ?_
  refine lv_bipush (v := 16) hx hb d_Dg_ofReply_39 (by decide) ?_
  refine lv_topi (fun x117 e116 => ?_)
  obtain rfl : x117 = nI 16 := by rw [e116]; rfl
  have hPc := hP.sub (ws' := [(tx, .inr (1, [.ref tr, .int (nI (0 + 1 + sl))])), (tr, .inl ((cT 0), 1192, .inl g_114)), (pr, .inl ((cT 0), np, .inl fp))]) [5, 6, 4] rfl
  have hDc := hD.sub (ws' := [(tx, .inr (1, [.ref tr, .int (nI (0 + 1 + sl))])), (tr, .inl ((cT 0), 1192, .inl g_114)), (pr, .inl ((cT 0), np, .inl fp))]) [5, 6, 4] (by decide) rfl
  have hFc := va_free (wc := [(tx, .inr (1, [.ref tr, .int (nI (0 + 1 + sl))])), (tr, .inl ((cT 0), 1192, .inl g_114)), (pr, .inl ((cT 0), np, .inl fp))]) hD hS hA [5, 6, 4] rfl
  refine va_callv (va_runV (C := "DoorServer$Bytes") (As := [.ref pr, .int (nI at_), .int (nI 16)]) (rest := []) ⟨hx, hb, hml, hown, hg⟩ (c_By_row l dC dI cT H.size tx tr 1192 (0 + 1 + sl) g_114 pr np fp at_ 16 (by omega) (by decide) (hat) (hnp)) (cwV 3 hg (gI (List.forall_mem_append.mpr ⟨List.forall_mem_cons.mpr ⟨k_582, List.forall_mem_cons.mpr ⟨k_574, List.forall_mem_cons.mpr ⟨k_575, List.forall_mem_cons.mpr ⟨k_2, fun _ h => absurd h List.not_mem_nil⟩⟩⟩⟩, List.forall_mem_cons.mpr ⟨k_578, fun _ h => h⟩⟩)) rfl rfl rfl (by decide +kernel) ⟨Nat.le_of_ble_eq_true rfl, Nat.le_of_ble_eq_true rfl⟩) ⟨fun a U g mk q => by obtain ⟨q0, q1, qP, qK, qD⟩ := q; exact ⟨q0, q1, qP, va_K.moved (u := U) (U := U.calling g mk a) (Vm.Alike.refl U.vm) qK, qD⟩, va_recv (q0 := 5) (ci := 1) hK hP rfl rfl, fun U hU hW => ⟨rfl, by rw [hU], by rw [hU]; exact hPc, va_K.moved hW.alike hK, hDc.weaken (fun _ _ _ _ => trivial)⟩⟩ rfl rfl hl.1 rfl (lv_room (Nat.le_of_ble_eq_true rfl)) d_Dg_ofReply_41 ⟨Nat.le_of_ble_eq_true rfl, Nat.le_of_ble_eq_true rfl⟩) hS (fun q _ h => hFc q h) hFc (fun u t H1 locs ht hvm hw hB hz1 hk1 hS => ?_)
  obtain ⟨g_118, rfl⟩ : ∃ z, z = u := ⟨_, rfl⟩
  try dsimp only at hw hB
  obtain ⟨hP1, hK1, hD1⟩ := hB
  rw [ht] at hP1
  obtain ⟨hP, hD⟩ := va_join (wr := [(g0, .inr (3, [.ref tx, .ref wo, .ref di, .int va, .int vb, .int vc, .int vd])), (wo, .inl ((cT 0), 16, .inl fw)), (di, .inl ((cT 0), 16, .inl fd)), (sh, .inr (1, [.ref sr, .int (nI sl)])), (sr, .inl ((cT 0), ns, .inl fs))]) (w1 := [(tx, .inr (1, [.ref tr, .int (nI ((0 + 1 + sl) + 16))])), (tr, .inl ((cT 0), 1192, .inl g_118)), (pr, .inl ((cT 0), np, .inl fp))]) hP hD [5, 6, 4] [0, 1, 2, 3, 7] rfl rfl (by decide) (by decide) hk1 hFc hP1 hD1
  have hw119 := hw
  clear hPc hDc hFc hz1 hk1 hP1 hK1 hD1
  generalize H1 = H at hP hS ⊢
  have hP : va_P (dC, dI) vcl [(g0, .inr (3, [.ref tx, .ref wo, .ref di, .int va, .int vb, .int vc, .int vd])), (wo, .inl ((cT 0), 16, .inl fw)), (di, .inl ((cT 0), 16, .inl fd)), (sh, .inr (1, [.ref sr, .int (nI sl)])), (sr, .inl ((cT 0), ns, .inl fs)), (tx, .inr (1, [.ref tr, .int (nI ((0 + 1 + sl) + 16))])), (tr, .inl ((cT 0), 1192, .inl g_118)), (pr, .inl ((cT 0), np, .inl fp))] H := hP
  have hD : va_D A [(g0, .inr (3, [.ref tx, .ref wo, .ref di, .int va, .int vb, .int vc, .int vd])), (wo, .inl ((cT 0), 16, .inl fw)), (di, .inl ((cT 0), 16, .inl fd)), (sh, .inr (1, [.ref sr, .int (nI sl)])), (sr, .inl ((cT 0), ns, .inl fs)), (tx, .inr (1, [.ref tr, .int (nI ((0 + 1 + sl) + 16))])), (tr, .inl ((cT 0), 1192, .inl g_118)), (pr, .inl ((cT 0), np, .inl fp))] := hD
  refine lv_aload_n hx hb d_Dg_ofReply_44 rfl (lv_at hl 0 rfl) ?_
  have hPc := hP.sub (ws' := [(g0, .inr (3, [.ref tx, .ref wo, .ref di, .int va, .int vb, .int vc, .int vd])), (tx, .inr (1, [.ref tr, .int (nI (0 + 1 + sl + 16))])), (tr, .inl ((cT 0), 1192, .inl g_118)), (wo, .inl ((cT 0), 16, .inl fw)), (di, .inl ((cT 0), 16, .inl fd))]) [0, 5, 6, 1, 2] rfl
  have hDc := hD.sub (ws' := [(g0, .inr (3, [.ref tx, .ref wo, .ref di, .int va, .int vb, .int vc, .int vd])), (tx, .inr (1, [.ref tr, .int (nI (0 + 1 + sl + 16))])), (tr, .inl ((cT 0), 1192, .inl g_118)), (wo, .inl ((cT 0), 16, .inl fw)), (di, .inl ((cT 0), 16, .inl fd))]) [0, 5, 6, 1, 2] (by decide) rfl
  have hFc := va_free (wc := [(g0, .inr (3, [.ref tx, .ref wo, .ref di, .int va, .int vb, .int vc, .int vd])), (tx, .inr (1, [.ref tr, .int (nI (0 + 1 + sl + 16))])), (tr, .inl ((cT 0), 1192, .inl g_118)), (wo, .inl ((cT 0), 16, .inl fw)), (di, .inl ((cT 0), 16, .inl fd))]) hD hS hA [0, 5, 6, 1, 2] rfl
  refine va_callr (va_runV (C := "DoorServer$Digests") (As := []) (rest := []) ⟨hx, hb, hml, hown, hg⟩ (c_Dg_text l dC dI cT H.size g0 tx tr wo di va vb vc vd (0 + 1 + sl + 16) g_118 fw fd (by omega)) (cwV 0 hg (gI (List.forall_mem_append.mpr ⟨List.forall_mem_cons.mpr ⟨k_583, List.forall_mem_cons.mpr ⟨k_585, List.forall_mem_cons.mpr ⟨(big_sel (q := y_Dg_digestText) (n := 7) (by decide +kernel)), List.forall_mem_cons.mpr ⟨k_5, fun _ h => absurd h List.not_mem_nil⟩⟩⟩⟩, List.forall_mem_cons.mpr ⟨k_586, fun _ h => h⟩⟩)) rfl rfl rfl (by decide +kernel) ⟨Nat.le_of_ble_eq_true rfl, Nat.le_of_ble_eq_true rfl⟩) ⟨fun a U g mk q => by obtain ⟨q0, q1, qP, qK, qD, qE⟩ := q; exact ⟨q0, q1, qP, va_K.moved (u := U) (U := U.calling g mk a) (Vm.Alike.refl U.vm) qK, qD, qE.at (State.WarmedH.refl _) (fun _ _ _ => rfl) (fun _ h => h)⟩, va_recv (q0 := 0) (ci := 3) hK hP rfl rfl, fun U hU hW => ⟨rfl, by rw [hU], by rw [hU]; exact hPc, va_K.moved hW.alike hK, hDc.weaken (fun _ _ _ _ => trivial), by rw [hU]; exact hE.at hW hS.2.1 hFc⟩⟩ rfl rfl hl.1 rfl (lv_room (Nat.le_of_ble_eq_true rfl)) d_Dg_ofReply_45 ⟨Nat.le_of_ble_eq_true rfl, Nat.le_of_ble_eq_true rfl⟩) hS (fun q _ h => hFc q h) hFc (fun u a9 t H1 locs ht hvm hw hB hz1 hk1 hS => ?_)
  obtain ⟨fw2_120, fd2_121, a2_122, b2_123, c2_124, d2_125, f2_126⟩ := u
  try dsimp only at hw hB
  obtain ⟨rfl, hP1, hK1, hD1⟩ := hB
  rw [ht] at hP1
  obtain ⟨hP, hD⟩ := va_join (wr := [(sh, .inr (1, [.ref sr, .int (nI sl)])), (sr, .inl ((cT 0), ns, .inl fs)), (pr, .inl ((cT 0), np, .inl fp))]) (w1 := [(g0, .inr (3, [.ref tx, .ref wo, .ref di, .int a2_122, .int b2_123, .int c2_124, .int d2_125])), (tx, .inr (1, [.ref tr, .int (nI (0 + 1 + sl + 16))])), (tr, .inl ((cT 0), 1192, .inl f2_126)), (wo, .inl ((cT 0), 16, .inl fw2_120)), (di, .inl ((cT 0), 16, .inl fd2_121))]) hP hD [0, 5, 6, 1, 2] [3, 4, 7] rfl rfl (by decide) (by decide) hk1 hFc hP1 hD1
  have hw127 := hw
  clear hPc hDc hFc hz1 hk1 hP1 hK1 hD1
  generalize H1 = H at hP hS ⊢
  have hP : va_P (dC, dI) vcl [(sh, .inr (1, [.ref sr, .int (nI sl)])), (sr, .inl ((cT 0), ns, .inl fs)), (pr, .inl ((cT 0), np, .inl fp)), (g0, .inr (3, [.ref tx, .ref wo, .ref di, .int a2_122, .int b2_123, .int c2_124, .int d2_125])), (tx, .inr (1, [.ref tr, .int (nI (0 + 1 + sl + 16))])), (tr, .inl ((cT 0), 1192, .inl f2_126)), (wo, .inl ((cT 0), 16, .inl fw2_120)), (di, .inl ((cT 0), 16, .inl fd2_121))] H := hP
  have hD : va_D A [(sh, .inr (1, [.ref sr, .int (nI sl)])), (sr, .inl ((cT 0), ns, .inl fs)), (pr, .inl ((cT 0), np, .inl fp)), (g0, .inr (3, [.ref tx, .ref wo, .ref di, .int a2_122, .int b2_123, .int c2_124, .int d2_125])), (tx, .inr (1, [.ref tr, .int (nI (0 + 1 + sl + 16))])), (tr, .inl ((cT 0), 1192, .inl f2_126)), (wo, .inl ((cT 0), 16, .inl fw2_120)), (di, .inl ((cT 0), 16, .inl fd2_121))] := hD
  have hP9 := hP.sub (ws' := [(g0, .inr (3, [.ref tx, .ref wo, .ref di, .int a2_122, .int b2_123, .int c2_124, .int d2_125])), (tx, .inr (1, [.ref tr, .int (nI (0 + 1 + sl + 16))])), (tr, .inl ((cT 0), 1192, .inl f2_126)), (wo, .inl ((cT 0), 16, .inl fw2_120)), (di, .inl ((cT 0), 16, .inl fd2_121)), (sh, .inr (1, [.ref sr, .int (nI sl)])), (sr, .inl ((cT 0), ns, .inl fs)), (pr, .inl ((cT 0), np, .inl fp))]) [3, 4, 5, 6, 7, 0, 1, 2] rfl
  have hD9 := hD.sub (ws' := [(g0, .inr (3, [.ref tx, .ref wo, .ref di, .int a2_122, .int b2_123, .int c2_124, .int d2_125])), (tx, .inr (1, [.ref tr, .int (nI (0 + 1 + sl + 16))])), (tr, .inl ((cT 0), 1192, .inl f2_126)), (wo, .inl ((cT 0), 16, .inl fw2_120)), (di, .inl ((cT 0), 16, .inl fd2_121)), (sh, .inr (1, [.ref sr, .int (nI sl)])), (sr, .inl ((cT 0), ns, .inl fs)), (pr, .inl ((cT 0), np, .inl fp))]) [3, 4, 5, 6, 7, 0, 1, 2] (by decide) rfl
  exact W.aret (v := .ref di) hx hb hr (by first | exact Or.inr ⟨_, rfl⟩ | exact Or.inl ⟨_, rfl⟩) (Or.inr ⟨_, rfl⟩) (fun t ht hW => ⟨⟨⟨fw2_120, fd2_121, a2_122, b2_123, c2_124, d2_125, f2_126⟩, _, rfl, hw127, rfl, by rw [ht]; exact hP9, va_K.moved hW.alike hK, hD9⟩, hS.F ht⟩) hS.2.2 d_Dg_ofReply_48
