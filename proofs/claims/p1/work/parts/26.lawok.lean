theorem d_Lw_secret_0 : decode b_Lw_secret 0 = .ok (.aload_n 0, 1) := by decide +kernel
theorem d_Lw_secret_1 : decode b_Lw_secret 1 = .ok (.iload_n 1, 1) := by decide +kernel
theorem d_Lw_secret_2 : decode b_Lw_secret 2 = .ok (.lload_n 2, 1) := by decide +kernel
theorem d_Lw_secret_3 : decode b_Lw_secret 3 = .ok (.iload 4, 2) := by decide +kernel
theorem d_Lw_secret_5 : decode b_Lw_secret 5 = .ok (.invokevirtual 7, 3) := by decide +kernel
theorem d_Lw_secret_8 : decode b_Lw_secret 8 = .ok (.goto 7, 3) := by decide +kernel
theorem d_Lw_secret_15 : decode b_Lw_secret 15 = .ok (.iconst 0, 1) := by decide +kernel
theorem d_Lw_secret_16 : decode b_Lw_secret 16 = .ok (.ireturn, 1) := by decide +kernel
theorem d_Lw_user_0 : decode b_Lw_user 0 = .ok (.aload 5, 2) := by decide +kernel
theorem d_Lw_user_2 : decode b_Lw_user 2 = .ok (.iconst 0, 1) := by decide +kernel
theorem d_Lw_user_3 : decode b_Lw_user 3 = .ok (.aload_n 0, 1) := by decide +kernel
theorem d_Lw_user_4 : decode b_Lw_user 4 = .ok (.iload_n 1, 1) := by decide +kernel
theorem d_Lw_user_5 : decode b_Lw_user 5 = .ok (.lload_n 2, 1) := by decide +kernel
theorem d_Lw_user_6 : decode b_Lw_user 6 = .ok (.iload 4, 2) := by decide +kernel
theorem d_Lw_user_8 : decode b_Lw_user 8 = .ok (.invokevirtual 15, 3) := by decide +kernel
theorem d_Lw_user_11 : decode b_Lw_user 11 = .ok (.ifCond .eq 7, 3) := by decide +kernel
theorem d_Lw_user_14 : decode b_Lw_user 14 = .ok (.lconst 1, 1) := by decide +kernel
theorem d_Lw_user_15 : decode b_Lw_user 15 = .ok (.goto 4, 3) := by decide +kernel
theorem d_Lw_user_19 : decode b_Lw_user 19 = .ok (.lastore, 1) := by decide +kernel
theorem d_Lw_user_20 : decode b_Lw_user 20 = .ok (.goto 7, 3) := by decide +kernel
theorem d_Lw_user_27 : decode b_Lw_user 27 = .ok (.iconst 0, 1) := by decide +kernel
theorem d_Lw_user_28 : decode b_Lw_user 28 = .ok (.ireturn, 1) := by decide +kernel
theorem d_Lw_draft_0 : decode b_Lw_draft 0 = .ok (.aload_n 0, 1) := by decide +kernel
theorem d_Lw_draft_1 : decode b_Lw_draft 1 = .ok (.iload_n 1, 1) := by decide +kernel
theorem d_Lw_draft_2 : decode b_Lw_draft 2 = .ok (.iload_n 2, 1) := by decide +kernel
theorem d_Lw_draft_3 : decode b_Lw_draft 3 = .ok (.lload_n 3, 1) := by decide +kernel
theorem d_Lw_draft_4 : decode b_Lw_draft 4 = .ok (.invokevirtual 19, 3) := by decide +kernel
theorem d_Lw_draft_7 : decode b_Lw_draft 7 = .ok (.goto 7, 3) := by decide +kernel
theorem d_Lw_draft_14 : decode b_Lw_draft 14 = .ok (.iconst 0, 1) := by decide +kernel
theorem d_Lw_draft_15 : decode b_Lw_draft 15 = .ok (.ireturn, 1) := by decide +kernel
theorem d_Lw_put_0 : decode b_Lw_put 0 = .ok (.aload 4, 2) := by decide +kernel
theorem d_Lw_put_2 : decode b_Lw_put 2 = .ok (.iconst 0, 1) := by decide +kernel
theorem d_Lw_put_3 : decode b_Lw_put 3 = .ok (.aload_n 0, 1) := by decide +kernel
theorem d_Lw_put_4 : decode b_Lw_put 4 = .ok (.iload_n 1, 1) := by decide +kernel
theorem d_Lw_put_5 : decode b_Lw_put 5 = .ok (.iload_n 2, 1) := by decide +kernel
theorem d_Lw_put_6 : decode b_Lw_put 6 = .ok (.iload_n 3, 1) := by decide +kernel
theorem d_Lw_put_7 : decode b_Lw_put 7 = .ok (.invokevirtual 23, 3) := by decide +kernel
theorem d_Lw_put_10 : decode b_Lw_put 10 = .ok (.i2l, 1) := by decide +kernel
theorem d_Lw_put_11 : decode b_Lw_put 11 = .ok (.lastore, 1) := by decide +kernel
theorem d_Lw_put_12 : decode b_Lw_put 12 = .ok (.goto 11, 3) := by decide +kernel
theorem d_Lw_put_23 : decode b_Lw_put 23 = .ok (.iconst 0, 1) := by decide +kernel
theorem d_Lw_put_24 : decode b_Lw_put 24 = .ok (.ireturn, 1) := by decide +kernel
theorem d_Lw_number_0 : decode b_Lw_number 0 = .ok (.aload_n 3, 1) := by decide +kernel
theorem d_Lw_number_1 : decode b_Lw_number 1 = .ok (.iconst 0, 1) := by decide +kernel
theorem d_Lw_number_2 : decode b_Lw_number 2 = .ok (.aload_n 0, 1) := by decide +kernel
theorem d_Lw_number_3 : decode b_Lw_number 3 = .ok (.iload_n 1, 1) := by decide +kernel
theorem d_Lw_number_4 : decode b_Lw_number 4 = .ok (.iload_n 2, 1) := by decide +kernel
theorem d_Lw_number_5 : decode b_Lw_number 5 = .ok (.invokevirtual 29, 3) := by decide +kernel
theorem d_Lw_number_8 : decode b_Lw_number 8 = .ok (.i2l, 1) := by decide +kernel
theorem d_Lw_number_9 : decode b_Lw_number 9 = .ok (.lastore, 1) := by decide +kernel
theorem d_Lw_number_10 : decode b_Lw_number 10 = .ok (.goto 11, 3) := by decide +kernel
theorem d_Lw_number_21 : decode b_Lw_number 21 = .ok (.iconst 0, 1) := by decide +kernel
theorem d_Lw_number_22 : decode b_Lw_number 22 = .ok (.ireturn, 1) := by decide +kernel
theorem d_Lw_name_0 : decode b_Lw_name 0 = .ok (.aload_n 2, 1) := by decide +kernel
theorem d_Lw_name_1 : decode b_Lw_name 1 = .ok (.iconst 0, 1) := by decide +kernel
theorem d_Lw_name_2 : decode b_Lw_name 2 = .ok (.aload_n 0, 1) := by decide +kernel
theorem d_Lw_name_3 : decode b_Lw_name 3 = .ok (.iload_n 1, 1) := by decide +kernel
theorem d_Lw_name_4 : decode b_Lw_name 4 = .ok (.invokevirtual 33, 3) := by decide +kernel
theorem d_Lw_name_7 : decode b_Lw_name 7 = .ok (.i2l, 1) := by decide +kernel
theorem d_Lw_name_8 : decode b_Lw_name 8 = .ok (.lastore, 1) := by decide +kernel
theorem d_Lw_name_9 : decode b_Lw_name 9 = .ok (.goto 9, 3) := by decide +kernel
theorem d_Lw_name_18 : decode b_Lw_name 18 = .ok (.iconst 0, 1) := by decide +kernel
theorem d_Lw_name_19 : decode b_Lw_name 19 = .ok (.ireturn, 1) := by decide +kernel
theorem d_Lw_password_0 : decode b_Lw_password 0 = .ok (.aload 5, 2) := by decide +kernel
theorem d_Lw_password_2 : decode b_Lw_password 2 = .ok (.iconst 0, 1) := by decide +kernel
theorem d_Lw_password_3 : decode b_Lw_password 3 = .ok (.aload_n 0, 1) := by decide +kernel
theorem d_Lw_password_4 : decode b_Lw_password 4 = .ok (.iload_n 1, 1) := by decide +kernel
theorem d_Lw_password_5 : decode b_Lw_password 5 = .ok (.lload_n 2, 1) := by decide +kernel
theorem d_Lw_password_6 : decode b_Lw_password 6 = .ok (.iload 4, 2) := by decide +kernel
theorem d_Lw_password_8 : decode b_Lw_password 8 = .ok (.invokevirtual 37, 3) := by decide +kernel
theorem d_Lw_password_11 : decode b_Lw_password 11 = .ok (.i2l, 1) := by decide +kernel
theorem d_Lw_password_12 : decode b_Lw_password 12 = .ok (.lastore, 1) := by decide +kernel
theorem d_Lw_password_13 : decode b_Lw_password 13 = .ok (.goto 11, 3) := by decide +kernel
theorem d_Lw_password_24 : decode b_Lw_password 24 = .ok (.iconst 0, 1) := by decide +kernel
theorem d_Lw_password_25 : decode b_Lw_password 25 = .ok (.ireturn, 1) := by decide +kernel
theorem d_Lw_hello_0 : decode b_Lw_hello 0 = .ok (.aload_n 2, 1) := by decide +kernel
theorem d_Lw_hello_1 : decode b_Lw_hello 1 = .ok (.iconst 0, 1) := by decide +kernel
theorem d_Lw_hello_2 : decode b_Lw_hello 2 = .ok (.aload_n 0, 1) := by decide +kernel
theorem d_Lw_hello_3 : decode b_Lw_hello 3 = .ok (.iload_n 1, 1) := by decide +kernel
theorem d_Lw_hello_4 : decode b_Lw_hello 4 = .ok (.invokevirtual 41, 3) := by decide +kernel
theorem d_Lw_hello_7 : decode b_Lw_hello 7 = .ok (.i2l, 1) := by decide +kernel
theorem d_Lw_hello_8 : decode b_Lw_hello 8 = .ok (.lastore, 1) := by decide +kernel
theorem d_Lw_hello_9 : decode b_Lw_hello 9 = .ok (.goto 9, 3) := by decide +kernel
theorem d_Lw_hello_18 : decode b_Lw_hello 18 = .ok (.iconst 0, 1) := by decide +kernel
theorem d_Lw_hello_19 : decode b_Lw_hello 19 = .ok (.ireturn, 1) := by decide +kernel
theorem d_Lw_reply_0 : decode b_Lw_reply 0 = .ok (.aload 4, 2) := by decide +kernel
theorem d_Lw_reply_2 : decode b_Lw_reply 2 = .ok (.iconst 0, 1) := by decide +kernel
theorem d_Lw_reply_3 : decode b_Lw_reply 3 = .ok (.aload_n 0, 1) := by decide +kernel
theorem d_Lw_reply_4 : decode b_Lw_reply 4 = .ok (.lload_n 1, 1) := by decide +kernel
theorem d_Lw_reply_5 : decode b_Lw_reply 5 = .ok (.iload_n 3, 1) := by decide +kernel
theorem d_Lw_reply_6 : decode b_Lw_reply 6 = .ok (.invokevirtual 44, 3) := by decide +kernel
theorem d_Lw_reply_9 : decode b_Lw_reply 9 = .ok (.i2l, 1) := by decide +kernel
theorem d_Lw_reply_10 : decode b_Lw_reply 10 = .ok (.lastore, 1) := by decide +kernel
theorem d_Lw_reply_11 : decode b_Lw_reply 11 = .ok (.goto 11, 3) := by decide +kernel
theorem d_Lw_reply_22 : decode b_Lw_reply 22 = .ok (.iconst 0, 1) := by decide +kernel
theorem d_Lw_reply_23 : decode b_Lw_reply 23 = .ok (.ireturn, 1) := by decide +kernel
theorem d_Lw_prove_0 : decode b_Lw_prove 0 = .ok (.aload_n 2, 1) := by decide +kernel
theorem d_Lw_prove_1 : decode b_Lw_prove 1 = .ok (.iconst 0, 1) := by decide +kernel
theorem d_Lw_prove_2 : decode b_Lw_prove 2 = .ok (.aload_n 0, 1) := by decide +kernel
theorem d_Lw_prove_3 : decode b_Lw_prove 3 = .ok (.iload_n 1, 1) := by decide +kernel
theorem d_Lw_prove_4 : decode b_Lw_prove 4 = .ok (.invokevirtual 48, 3) := by decide +kernel
theorem d_Lw_prove_7 : decode b_Lw_prove 7 = .ok (.i2l, 1) := by decide +kernel
theorem d_Lw_prove_8 : decode b_Lw_prove 8 = .ok (.lastore, 1) := by decide +kernel
theorem d_Lw_prove_9 : decode b_Lw_prove 9 = .ok (.goto 9, 3) := by decide +kernel
theorem d_Lw_prove_18 : decode b_Lw_prove 18 = .ok (.iconst 0, 1) := by decide +kernel
theorem d_Lw_prove_19 : decode b_Lw_prove 19 = .ok (.ireturn, 1) := by decide +kernel
theorem d_Lw_seal_0 : decode b_Lw_seal 0 = .ok (.aload_n 0, 1) := by decide +kernel
theorem d_Lw_seal_1 : decode b_Lw_seal 1 = .ok (.iload_n 1, 1) := by decide +kernel
theorem d_Lw_seal_2 : decode b_Lw_seal 2 = .ok (.invokevirtual 51, 3) := by decide +kernel
theorem d_Lw_seal_5 : decode b_Lw_seal 5 = .ok (.goto 6, 3) := by decide +kernel
theorem d_Lw_seal_11 : decode b_Lw_seal 11 = .ok (.iconst 0, 1) := by decide +kernel
theorem d_Lw_seal_12 : decode b_Lw_seal 12 = .ok (.ireturn, 1) := by decide +kernel
theorem d_Lw_spoil_0 : decode b_Lw_spoil 0 = .ok (.aload_n 3, 1) := by decide +kernel
theorem d_Lw_spoil_1 : decode b_Lw_spoil 1 = .ok (.iconst 0, 1) := by decide +kernel
theorem d_Lw_spoil_2 : decode b_Lw_spoil 2 = .ok (.aload_n 0, 1) := by decide +kernel
theorem d_Lw_spoil_3 : decode b_Lw_spoil 3 = .ok (.iload_n 1, 1) := by decide +kernel
theorem d_Lw_spoil_4 : decode b_Lw_spoil 4 = .ok (.iload_n 2, 1) := by decide +kernel
theorem d_Lw_spoil_5 : decode b_Lw_spoil 5 = .ok (.invokevirtual 55, 3) := by decide +kernel
theorem d_Lw_spoil_8 : decode b_Lw_spoil 8 = .ok (.i2l, 1) := by decide +kernel
theorem d_Lw_spoil_9 : decode b_Lw_spoil 9 = .ok (.lastore, 1) := by decide +kernel
theorem d_Lw_spoil_10 : decode b_Lw_spoil 10 = .ok (.goto 7, 3) := by decide +kernel
theorem d_Lw_spoil_17 : decode b_Lw_spoil 17 = .ok (.iconst 0, 1) := by decide +kernel
theorem d_Lw_spoil_18 : decode b_Lw_spoil 18 = .ok (.ireturn, 1) := by decide +kernel
theorem d_Lw_send_0 : decode b_Lw_send 0 = .ok (.aload_n 2, 1) := by decide +kernel
theorem d_Lw_send_1 : decode b_Lw_send 1 = .ok (.iconst 0, 1) := by decide +kernel
theorem d_Lw_send_2 : decode b_Lw_send 2 = .ok (.aload_n 0, 1) := by decide +kernel
theorem d_Lw_send_3 : decode b_Lw_send 3 = .ok (.iload_n 1, 1) := by decide +kernel
theorem d_Lw_send_4 : decode b_Lw_send 4 = .ok (.invokevirtual 58, 3) := by decide +kernel
theorem d_Lw_send_7 : decode b_Lw_send 7 = .ok (.i2l, 1) := by decide +kernel
theorem d_Lw_send_8 : decode b_Lw_send 8 = .ok (.lastore, 1) := by decide +kernel
theorem d_Lw_send_9 : decode b_Lw_send 9 = .ok (.goto 6, 3) := by decide +kernel
theorem d_Lw_send_15 : decode b_Lw_send 15 = .ok (.iconst 0, 1) := by decide +kernel
theorem d_Lw_send_16 : decode b_Lw_send 16 = .ok (.ireturn, 1) := by decide +kernel
theorem d_Lw_ticks_0 : decode b_Lw_ticks 0 = .ok (.aload_n 2, 1) := by decide +kernel
theorem d_Lw_ticks_1 : decode b_Lw_ticks 1 = .ok (.iconst 0, 1) := by decide +kernel
theorem d_Lw_ticks_2 : decode b_Lw_ticks 2 = .ok (.aload_n 0, 1) := by decide +kernel
theorem d_Lw_ticks_3 : decode b_Lw_ticks 3 = .ok (.iload_n 1, 1) := by decide +kernel
theorem d_Lw_ticks_4 : decode b_Lw_ticks 4 = .ok (.invokevirtual 64, 3) := by decide +kernel
theorem d_Lw_ticks_7 : decode b_Lw_ticks 7 = .ok (.i2l, 1) := by decide +kernel
theorem d_Lw_ticks_8 : decode b_Lw_ticks 8 = .ok (.lastore, 1) := by decide +kernel
theorem d_Lw_ticks_9 : decode b_Lw_ticks 9 = .ok (.goto 6, 3) := by decide +kernel
theorem d_Lw_ticks_15 : decode b_Lw_ticks 15 = .ok (.iconst 0, 1) := by decide +kernel
theorem d_Lw_ticks_16 : decode b_Lw_ticks 16 = .ok (.ireturn, 1) := by decide +kernel
theorem d_Lw_count_0 : decode b_Lw_count 0 = .ok (.aload_n 2, 1) := by decide +kernel
theorem d_Lw_count_1 : decode b_Lw_count 1 = .ok (.iconst 0, 1) := by decide +kernel
theorem d_Lw_count_2 : decode b_Lw_count 2 = .ok (.aload_n 0, 1) := by decide +kernel
theorem d_Lw_count_3 : decode b_Lw_count 3 = .ok (.iload_n 1, 1) := by decide +kernel
theorem d_Lw_count_4 : decode b_Lw_count 4 = .ok (.invokevirtual 67, 3) := by decide +kernel
theorem d_Lw_count_7 : decode b_Lw_count 7 = .ok (.i2l, 1) := by decide +kernel
theorem d_Lw_count_8 : decode b_Lw_count 8 = .ok (.lastore, 1) := by decide +kernel
theorem d_Lw_count_9 : decode b_Lw_count 9 = .ok (.goto 6, 3) := by decide +kernel
theorem d_Lw_count_15 : decode b_Lw_count 15 = .ok (.iconst 0, 1) := by decide +kernel
theorem d_Lw_count_16 : decode b_Lw_count 16 = .ok (.ireturn, 1) := by decide +kernel
theorem xw_Met {l : Launch} {y : MethodName} {ws ws' : List Cond} {rm : Room} {Pc : Array Value → State → Prop} {Qc : Array Value → State → Outcome → State → Prop} {mc ms : Nat} {free : Addr → Prop} {cc : ByteArray} {maxL : Nat} {ret : Option FieldType} {hh : List (Nat × Nat × Nat × Nat)}
    (hy : plainName y.cls = true) (hw : ws = Cond.codeWith y cc maxL ret hh :: ws')
    (body : ∀ p e s m args below meth c s₁, BodyLoose p l y (headSpec ws rm) cc maxL ret e s m args below meth c s₁ → c.maxLocals = maxL → Pc args s → c.exceptionTable.toList = tableOf hh →
      W p l e (headSpec ws rm).room s m args below meth c s.heap [] 0 0 (MQ below Qc args s mc ms free) (entryFrame m args maxL)) : Met l y ws rm Pc Qc mc ms free := by
  refine va_MetW hy hw ?_
  intro p e s m args below meth c s₁ B hml hP
  refine body p e s m args below meth c s₁ B hml hP ?_
  obtain ⟨m9, meth9, c9, hn9, hm9, hc9, -, -, htab, -⟩ := Cond.codeWith_spec (atoms_spec (ws := ws) B.pre _ (by rw [hw]; exact List.mem_cons_self))
  cases B.named.symm.trans hn9
  cases B.method.symm.trans hm9
  cases (Stand.of_body B).code.symm.trans hc9
  rw [← htab, table_eq]
set_option maxHeartbeats 4000000 in
set_option maxRecDepth 100000 in
/-- the law: secret goes -/
theorem l_secret (l : Launch) (dC : Nat → ClassId) (dI : Nat → Nat → Nat) (cT : Nat → ClassId) (sz : Nat) (ds : Nat) (dr : Nat) (sv : Nat) (rr : Nat) (g0 : Nat) (se : Nat) (pw : Nat) (ty : Nat) (an : Nat) (aw : Nat) (ts : Nat) (ss : Nat) (rq : Nat) (tm : Int32) (n3 : Int32) (n4 : Int32) (sh : Nat) (sr : Nat) (ns : Nat) (sl : Nat) (fs : Nat → Int32) (gs : Nat → Option Nat) (st : Nat) (v : Int64) (k : Nat) (hst : st < 4) (hgs : gs st = some sh) (hk1 : 1 ≤ k) (hk2 : k ≤ 40) (hns40 : ns = 40) : Met l y_Lw_secret (Cond.codeWith y_Lw_secret b_Lw_secret 6 (Option.some Jvm.ClassFile.FieldType.int) [((0 : Nat), (8 : Nat), (11 : Nat), (13 : Nat))] :: BIG) ({ frames := 4, cells := 0, slots := 0, locals := 100 }) (va_Pc [.ref ds, .int (nI st), .long v, .int (nI k)] (fun U => U.heap.size = sz ∧ va_P (dC, dI) vcl [(ds, .inr (0, [.ref dr, .ref sv])), (sv, .inr (5, [.ref se, .ref pw, .ref g0, .ref ty, .ref an, .ref aw, .ref ts, .ref ss, .ref rq, .int tm, .int n3, .int n4])), (se, .inl ((cT 2), 4, .inr (.inr (.inr (.inr gs))))), (sh, .inr (1, [.ref sr, .int (nI sl)])), (sr, .inl ((cT 0), ns, .inl fs))] U.heap ∧ va_K (dC, dI) vcl (tyL cT) U ∧ va_D (fun _ => True) [(ds, .inr (0, [.ref dr, .ref sv])), (sv, .inr (5, [.ref se, .ref pw, .ref g0, .ref ty, .ref an, .ref aw, .ref ts, .ref ss, .ref rq, .int tm, .int n3, .int n4])), (se, .inl ((cT 2), 4, .inr (.inr (.inr (.inr gs))))), (sh, .inr (1, [.ref sr, .int (nI sl)])), (sr, .inl ((cT 0), ns, .inl fs))])) (va_Qi (S := Unit) (fun rv9 u => rv9 = 0 ∧ (True)) (fun u t => va_P (dC, dI) vcl [] t.heap ∧ va_K (dC, dI) vcl (tyL cT) t ∧ va_D (va_A [(ds, .inr (0, [.ref dr, .ref sv])), (sv, .inr (5, [.ref se, .ref pw, .ref g0, .ref ty, .ref an, .ref aw, .ref ts, .ref ss, .ref rq, .int tm, .int n3, .int n4])), (se, .inl ((cT 2), 4, .inr (.inr (.inr (.inr gs))))), (sh, .inr (1, [.ref sr, .int (nI sl)])), (sr, .inl ((cT 0), ns, .inl fs))] sz) []) (va_A [(ds, .inr (0, [.ref dr, .ref sv])), (sv, .inr (5, [.ref se, .ref pw, .ref g0, .ref ty, .ref an, .ref aw, .ref ts, .ref ss, .ref rq, .int tm, .int n3, .int n4])), (se, .inl ((cT 2), 4, .inr (.inr (.inr (.inr gs))))), (sh, .inr (1, [.ref sr, .int (nI sl)])), (sr, .inl ((cT 0), ns, .inl fs))] sz)) 0 0 (va_A [(ds, .inr (0, [.ref dr, .ref sv])), (sv, .inr (5, [.ref se, .ref pw, .ref g0, .ref ty, .ref an, .ref aw, .ref ts, .ref ss, .ref rq, .int tm, .int n3, .int n4])), (se, .inl ((cT 2), 4, .inr (.inr (.inr (.inr gs))))), (sh, .inr (1, [.ref sr, .int (nI sl)])), (sr, .inl ((cT 0), ns, .inl fs))] sz) := by
  refine xw_Met (cc := b_Lw_secret) (maxL := 6) (ret := (Option.some Jvm.ClassFile.FieldType.int)) (hh := [((0 : Nat), (8 : Nat), (11 : Nat), (13 : Nat))]) (by decide) rfl ?_
  intro p e s m args below meth c s₁ B hml hv htab
  obtain ⟨hargs, hsz, hP, hK, hD0⟩ := hv
  have hx := B.exec
  have hb := B.bytes
  have hr := B.returns
  have hts := atoms_spec (ws := (Cond.codeWith y_Lw_secret b_Lw_secret 6 (Option.some Jvm.ClassFile.FieldType.int) [((0 : Nat), (8 : Nat), (11 : Nat), (13 : Nat))] :: BIG)) B.pre
  have hg : ∀ w ∈ BIG, w.before _ s = true := fun w h => hts w (List.mem_cons_of_mem _ h)
  have hown : s.vm.findClass "DoorServerLaw" = some m.cls := findClass_of_methodNamed B.named
  have hlocks := B.notSynchronized
  subst hsz
  have hD := hD0.self (sz := s.heap.size)
  generalize hAe : va_A [(ds, .inr (0, [.ref dr, .ref sv])), (sv, .inr (5, [.ref se, .ref pw, .ref g0, .ref ty, .ref an, .ref aw, .ref ts, .ref ss, .ref rq, .int tm, .int n3, .int n4])), (se, .inl ((cT 2), 4, .inr (.inr (.inr (.inr gs))))), (sh, .inr (1, [.ref sr, .int (nI sl)])), (sr, .inl ((cT 0), ns, .inl fs))] s.heap.size = A at hD ⊢
  have hA : ∀ q : Nat, s.heap.size ≤ q → A q := fun q h => by rw [← hAe]; exact Or.inr h
  have hS : va_S A s.heap s.heap [] := va_S.rf
  have hl := lv_entry ([.ref ds, .int (nI st), .long v, .int (nI k)]) (n := 6) (Nat.le_of_ble_eq_true rfl)
  refine W.eq (g2 := entryFrame m (List.toArray [.ref ds, .int (nI st), .long v, .int (nI k)]) 6) (by rw [hargs]) ?_
  rw [lg_entry_eq]
  generalize (lg_sl ([.ref ds, .int (nI st), .long v, .int (nI k)]) ++ List.replicate (6 - (lg_sl ([.ref ds, .int (nI st), .long v, .int (nI k)])).length) Slot.unset).toArray = ls at hl ⊢
  have hl : lv_has ls 6 [(0, .ref ds), (1, .int (nI st)), (2, .long v), (4, .int (nI k))] := hl
  change W p l e ({ frames := 4, cells := 0, slots := 0, locals := 100 } : Room) s m args below meth c s.heap [] 0 0 _ _
  have hP : va_P (dC, dI) vcl [(ds, .inr (0, [.ref dr, .ref sv])), (sv, .inr (5, [.ref se, .ref pw, .ref g0, .ref ty, .ref an, .ref aw, .ref ts, .ref ss, .ref rq, .int tm, .int n3, .int n4])), (se, .inl ((cT 2), 4, .inr (.inr (.inr (.inr gs))))), (sh, .inr (1, [.ref sr, .int (nI sl)])), (sr, .inl ((cT 0), ns, .inl fs))] s.heap := hP
  refine lv_aload_n hx hb d_Lw_secret_0 rfl (lv_at hl 0 rfl) ?_
  refine lv_iload_n hx hb d_Lw_secret_1 rfl (lv_at hl 1 rfl) ?_
  refine lv_lload_n hx hb d_Lw_secret_2 rfl (lv_at hl 2 rfl) ?_
  refine lv_iload hx hb d_Lw_secret_3 (lv_at hl 3 rfl) ?_
  have hPc := hP.sub (ws' := [(ds, .inr (0, [.ref dr, .ref sv])), (sv, .inr (5, [.ref se, .ref pw, .ref g0, .ref ty, .ref an, .ref aw, .ref ts, .ref ss, .ref rq, .int tm, .int n3, .int n4])), (se, .inl ((cT 2), 4, .inr (.inr (.inr (.inr gs))))), (sh, .inr (1, [.ref sr, .int (nI sl)])), (sr, .inl ((cT 0), ns, .inl fs))]) [0, 1, 2, 3, 4] rfl
  have hDc := hD.sub (ws' := [(ds, .inr (0, [.ref dr, .ref sv])), (sv, .inr (5, [.ref se, .ref pw, .ref g0, .ref ty, .ref an, .ref aw, .ref ts, .ref ss, .ref rq, .int tm, .int n3, .int n4])), (se, .inl ((cT 2), 4, .inr (.inr (.inr (.inr gs))))), (sh, .inr (1, [.ref sr, .int (nI sl)])), (sr, .inl ((cT 0), ns, .inl fs))]) [0, 1, 2, 3, 4] (by decide) rfl
  have hFc := va_free (wc := [(ds, .inr (0, [.ref dr, .ref sv])), (sv, .inr (5, [.ref se, .ref pw, .ref g0, .ref ty, .ref an, .ref aw, .ref ts, .ref ss, .ref rq, .int tm, .int n3, .int n4])), (se, .inl ((cT 2), 4, .inr (.inr (.inr (.inr gs))))), (sh, .inr (1, [.ref sr, .int (nI sl)])), (sr, .inl ((cT 0), ns, .inl fs))]) hD hS hA [0, 1, 2, 3, 4] rfl
  refine va_callv (va_runV (C := "DoorServer") (As := [.int (nI st), .long v, .int (nI k)]) (rest := []) ⟨hx, hb, hml, hown, hg⟩ (c_secret l dC dI cT s.heap.size ds dr sv rr g0 se pw ty an aw ts ss rq tm n3 n4 sh sr ns sl fs gs st v k (hst) (hgs) (hk1) (hk2) (hns40)) (cwV 3 hg (gI (List.forall_mem_append.mpr ⟨List.forall_mem_cons.mpr ⟨k_383, List.forall_mem_cons.mpr ⟨k_384, List.forall_mem_cons.mpr ⟨k_385, List.forall_mem_cons.mpr ⟨k_1, fun _ h => absurd h List.not_mem_nil⟩⟩⟩⟩, List.forall_mem_cons.mpr ⟨k_386, fun _ h => h⟩⟩)) rfl rfl rfl (by decide +kernel) ⟨Nat.le_of_ble_eq_true rfl, Nat.le_of_ble_eq_true rfl⟩) ⟨fun a U g mk q => by obtain ⟨q0, q1, qP, qK, qD⟩ := q; exact ⟨q0, q1, qP, va_K.moved (u := U) (U := U.calling g mk a) (Vm.Alike.refl U.vm) qK, qD⟩, va_recv (q0 := 0) (ci := 0) hK hP rfl rfl, fun U hU hW => ⟨rfl, by rw [hU], by rw [hU]; exact hPc, va_K.moved hW.alike hK, hDc.weaken (fun _ _ _ _ => trivial)⟩⟩ rfl rfl hl.1 rfl (lv_room (Nat.le_of_ble_eq_true rfl)) d_Lw_secret_5 ⟨Nat.le_of_ble_eq_true rfl, Nat.le_of_ble_eq_true rfl⟩) hS (fun q _ h => hFc q h) hFc (fun u t H1 locs ht hvm hw hB hz1 hk1 hS => ?_)
  try dsimp only at hw hB
  obtain ⟨hP1, hK1, hD1⟩ := hB
  rw [ht] at hP1
  obtain ⟨hP, hD⟩ := va_join (wr := []) (w1 := []) hP hD [0, 1, 2, 3, 4] [] rfl rfl (by decide) (by decide) hk1 hFc hP1 hD1
  have hw1 := hw
  clear hPc hDc hFc hz1 hk1 hP1 hK1 hD1
  generalize H1 = H at hP hS ⊢
  have hP : va_P (dC, dI) vcl [] H := hP
  have hD : va_D A [] := hD
  refine lv_goto (tgt := 15) hx hb d_Lw_secret_8 (by decide) ?_
  refine lv_iconst (v := 0) hx hb d_Lw_secret_15 (by decide) ?_
  have hP9 := hP.sub (ws' := []) [] rfl
  have hD9 := hD.sub (ws' := []) [] (by decide) rfl
  exact W.iret (v := 0) hx hb hr (fun t ht hW => ⟨⟨_, (), rfl, ⟨rfl, trivial⟩, by rw [ht]; exact hP9, va_K.moved hW.alike hK, hD9⟩, hS.F ht⟩) hS.2.2 d_Lw_secret_16
set_option maxHeartbeats 4000000 in
set_option maxRecDepth 100000 in
/-- the law: user goes -/
theorem l_user (l : Launch) (dC : Nat → ClassId) (dI : Nat → Nat → Nat) (cT : Nat → ClassId) (sz : Nat) (ds : Nat) (dr : Nat) (sv : Nat) (rr : Nat) (g0 : Nat) (se : Nat) (pw : Nat) (ty : Nat) (an : Nat) (aw : Nat) (ts : Nat) (ss : Nat) (rq : Nat) (tm : Int32) (n3 : Int32) (n4 : Int32) (sh : Nat) (sr : Nat) (fs : Nat → Int32) (gp : Nat → Option Nat) (us : Nat) (v : Int64) (k : Nat) (ou : Nat) (fo : Nat → Int64) (hus : us < 32) (hgp : gp us = some sh) (hk1 : 1 ≤ k) (hk2 : k ≤ 60) : Met l y_Lw_user (Cond.codeWith y_Lw_user b_Lw_user 7 (Option.some Jvm.ClassFile.FieldType.int) [((0 : Nat), (20 : Nat), (23 : Nat), (13 : Nat))] :: BIG) ({ frames := 4, cells := 0, slots := 0, locals := 100 }) (va_Pc [.ref ds, .int (nI us), .long v, .int (nI k), .ref ou] (fun U => U.heap.size = sz ∧ va_P (dC, dI) vcl [(ds, .inr (0, [.ref dr, .ref sv])), (sv, .inr (5, [.ref se, .ref pw, .ref g0, .ref ty, .ref an, .ref aw, .ref ts, .ref ss, .ref rq, .int tm, .int n3, .int n4])), (pw, .inl ((cT 2), 32, .inr (.inr (.inr (.inr gp))))), (sh, .inr (1, [.ref sr, .int 0])), (sr, .inl ((cT 0), 60, .inl fs)), (ou, .inl ((cT 1), 1, .inr (.inl fo)))] U.heap ∧ va_K (dC, dI) vcl (tyL cT) U ∧ va_D (fun _ => True) [(ds, .inr (0, [.ref dr, .ref sv])), (sv, .inr (5, [.ref se, .ref pw, .ref g0, .ref ty, .ref an, .ref aw, .ref ts, .ref ss, .ref rq, .int tm, .int n3, .int n4])), (pw, .inl ((cT 2), 32, .inr (.inr (.inr (.inr gp))))), (sh, .inr (1, [.ref sr, .int 0])), (sr, .inl ((cT 0), 60, .inl fs)), (ou, .inl ((cT 1), 1, .inr (.inl fo)))])) (va_Qi (S := Unit) (fun rv9 u => rv9 = 0 ∧ (True)) (fun u t => va_P (dC, dI) vcl [(ou, .inl ((cT 1), 1, .inr (.inl (vp_updL fo (0 : Int32).toNatClampNeg 1))))] t.heap ∧ va_K (dC, dI) vcl (tyL cT) t ∧ va_D (va_A [(ds, .inr (0, [.ref dr, .ref sv])), (sv, .inr (5, [.ref se, .ref pw, .ref g0, .ref ty, .ref an, .ref aw, .ref ts, .ref ss, .ref rq, .int tm, .int n3, .int n4])), (pw, .inl ((cT 2), 32, .inr (.inr (.inr (.inr gp))))), (sh, .inr (1, [.ref sr, .int 0])), (sr, .inl ((cT 0), 60, .inl fs)), (ou, .inl ((cT 1), 1, .inr (.inl fo)))] sz) [(ou, .inl ((cT 1), 1, .inr (.inl (vp_updL fo (0 : Int32).toNatClampNeg 1))))]) (va_A [(ds, .inr (0, [.ref dr, .ref sv])), (sv, .inr (5, [.ref se, .ref pw, .ref g0, .ref ty, .ref an, .ref aw, .ref ts, .ref ss, .ref rq, .int tm, .int n3, .int n4])), (pw, .inl ((cT 2), 32, .inr (.inr (.inr (.inr gp))))), (sh, .inr (1, [.ref sr, .int 0])), (sr, .inl ((cT 0), 60, .inl fs)), (ou, .inl ((cT 1), 1, .inr (.inl fo)))] sz)) 0 0 (va_A [(ds, .inr (0, [.ref dr, .ref sv])), (sv, .inr (5, [.ref se, .ref pw, .ref g0, .ref ty, .ref an, .ref aw, .ref ts, .ref ss, .ref rq, .int tm, .int n3, .int n4])), (pw, .inl ((cT 2), 32, .inr (.inr (.inr (.inr gp))))), (sh, .inr (1, [.ref sr, .int 0])), (sr, .inl ((cT 0), 60, .inl fs)), (ou, .inl ((cT 1), 1, .inr (.inl fo)))] sz) := by
  refine xw_Met (cc := b_Lw_user) (maxL := 7) (ret := (Option.some Jvm.ClassFile.FieldType.int)) (hh := [((0 : Nat), (20 : Nat), (23 : Nat), (13 : Nat))]) (by decide) rfl ?_
  intro p e s m args below meth c s₁ B hml hv htab
  obtain ⟨hargs, hsz, hP, hK, hD0⟩ := hv
  have hx := B.exec
  have hb := B.bytes
  have hr := B.returns
  have hts := atoms_spec (ws := (Cond.codeWith y_Lw_user b_Lw_user 7 (Option.some Jvm.ClassFile.FieldType.int) [((0 : Nat), (20 : Nat), (23 : Nat), (13 : Nat))] :: BIG)) B.pre
  have hg : ∀ w ∈ BIG, w.before _ s = true := fun w h => hts w (List.mem_cons_of_mem _ h)
  have hown : s.vm.findClass "DoorServerLaw" = some m.cls := findClass_of_methodNamed B.named
  have hlocks := B.notSynchronized
  subst hsz
  have hD := hD0.self (sz := s.heap.size)
  generalize hAe : va_A [(ds, .inr (0, [.ref dr, .ref sv])), (sv, .inr (5, [.ref se, .ref pw, .ref g0, .ref ty, .ref an, .ref aw, .ref ts, .ref ss, .ref rq, .int tm, .int n3, .int n4])), (pw, .inl ((cT 2), 32, .inr (.inr (.inr (.inr gp))))), (sh, .inr (1, [.ref sr, .int 0])), (sr, .inl ((cT 0), 60, .inl fs)), (ou, .inl ((cT 1), 1, .inr (.inl fo)))] s.heap.size = A at hD ⊢
  have hA : ∀ q : Nat, s.heap.size ≤ q → A q := fun q h => by rw [← hAe]; exact Or.inr h
  have hS : va_S A s.heap s.heap [] := va_S.rf
  have hl := lv_entry ([.ref ds, .int (nI us), .long v, .int (nI k), .ref ou]) (n := 7) (Nat.le_of_ble_eq_true rfl)
  refine W.eq (g2 := entryFrame m (List.toArray [.ref ds, .int (nI us), .long v, .int (nI k), .ref ou]) 7) (by rw [hargs]) ?_
  rw [lg_entry_eq]
  generalize (lg_sl ([.ref ds, .int (nI us), .long v, .int (nI k), .ref ou]) ++ List.replicate (7 - (lg_sl ([.ref ds, .int (nI us), .long v, .int (nI k), .ref ou])).length) Slot.unset).toArray = ls at hl ⊢
  have hl : lv_has ls 7 [(0, .ref ds), (1, .int (nI us)), (2, .long v), (4, .int (nI k)), (5, .ref ou)] := hl
  change W p l e ({ frames := 4, cells := 0, slots := 0, locals := 100 } : Room) s m args below meth c s.heap [] 0 0 _ _
  have hP : va_P (dC, dI) vcl [(ds, .inr (0, [.ref dr, .ref sv])), (sv, .inr (5, [.ref se, .ref pw, .ref g0, .ref ty, .ref an, .ref aw, .ref ts, .ref ss, .ref rq, .int tm, .int n3, .int n4])), (pw, .inl ((cT 2), 32, .inr (.inr (.inr (.inr gp))))), (sh, .inr (1, [.ref sr, .int 0])), (sr, .inl ((cT 0), 60, .inl fs)), (ou, .inl ((cT 1), 1, .inr (.inl fo)))] s.heap := hP
  refine lv_aload hx hb d_Lw_user_0 (lv_at hl 4 rfl) ?_
  refine lv_iconst (v := 0) hx hb d_Lw_user_2 (by decide) ?_
  refine lv_aload_n hx hb d_Lw_user_3 rfl (lv_at hl 0 rfl) ?_
  refine lv_iload_n hx hb d_Lw_user_4 rfl (lv_at hl 1 rfl) ?_
  refine lv_lload_n hx hb d_Lw_user_5 rfl (lv_at hl 2 rfl) ?_
  refine lv_iload hx hb d_Lw_user_6 (lv_at hl 3 rfl) ?_
  have hPc := hP.sub (ws' := [(ds, .inr (0, [.ref dr, .ref sv])), (sv, .inr (5, [.ref se, .ref pw, .ref g0, .ref ty, .ref an, .ref aw, .ref ts, .ref ss, .ref rq, .int tm, .int n3, .int n4])), (pw, .inl ((cT 2), 32, .inr (.inr (.inr (.inr gp))))), (sh, .inr (1, [.ref sr, .int 0])), (sr, .inl ((cT 0), 60, .inl fs))]) [0, 1, 2, 3, 4] rfl
  have hDc := hD.sub (ws' := [(ds, .inr (0, [.ref dr, .ref sv])), (sv, .inr (5, [.ref se, .ref pw, .ref g0, .ref ty, .ref an, .ref aw, .ref ts, .ref ss, .ref rq, .int tm, .int n3, .int n4])), (pw, .inl ((cT 2), 32, .inr (.inr (.inr (.inr gp))))), (sh, .inr (1, [.ref sr, .int 0])), (sr, .inl ((cT 0), 60, .inl fs))]) [0, 1, 2, 3, 4] (by decide) rfl
  have hFc := va_free (wc := [(ds, .inr (0, [.ref dr, .ref sv])), (sv, .inr (5, [.ref se, .ref pw, .ref g0, .ref ty, .ref an, .ref aw, .ref ts, .ref ss, .ref rq, .int tm, .int n3, .int n4])), (pw, .inl ((cT 2), 32, .inr (.inr (.inr (.inr gp))))), (sh, .inr (1, [.ref sr, .int 0])), (sr, .inl ((cT 0), 60, .inl fs))]) hD hS hA [0, 1, 2, 3, 4] rfl
  refine va_calli (va_runV (C := "DoorServer") (As := [.int (nI us), .long v, .int (nI k)]) (rest := [.int 0, .ref ou]) ⟨hx, hb, hml, hown, hg⟩ (c_user l dC dI cT s.heap.size ds dr sv rr g0 se pw ty an aw ts ss rq tm n3 n4 sh sr fs gp us v k (hus) (hgp) (hk1) (hk2)) (cwV 3 hg (gI (List.forall_mem_append.mpr ⟨List.forall_mem_cons.mpr ⟨k_471, List.forall_mem_cons.mpr ⟨k_472, List.forall_mem_cons.mpr ⟨k_473, List.forall_mem_cons.mpr ⟨k_1, fun _ h => absurd h List.not_mem_nil⟩⟩⟩⟩, List.forall_mem_cons.mpr ⟨k_474, fun _ h => h⟩⟩)) rfl rfl rfl (by decide +kernel) ⟨Nat.le_of_ble_eq_true rfl, Nat.le_of_ble_eq_true rfl⟩) ⟨fun a U g mk q => by obtain ⟨q0, q1, qP, qK, qD⟩ := q; exact ⟨q0, q1, qP, va_K.moved (u := U) (U := U.calling g mk a) (Vm.Alike.refl U.vm) qK, qD⟩, va_recv (q0 := 0) (ci := 0) hK hP rfl rfl, fun U hU hW => ⟨rfl, by rw [hU], by rw [hU]; exact hPc, va_K.moved hW.alike hK, hDc.weaken (fun _ _ _ _ => trivial)⟩⟩ rfl rfl hl.1 rfl (lv_room (Nat.le_of_ble_eq_true rfl)) d_Lw_user_8 ⟨Nat.le_of_ble_eq_true rfl, Nat.le_of_ble_eq_true rfl⟩) hS (fun q _ h => hFc q h) hFc (fun rv9 u t H1 locs ht hvm hw hB hz1 hk1 hS => ?_)
  try dsimp only at hw hB
  obtain ⟨hP1, hK1, hD1⟩ := hB
  rw [ht] at hP1
  obtain ⟨rfl, hw⟩ := hw
  obtain ⟨hP, hD⟩ := va_join (wr := [(ou, .inl ((cT 1), 1, .inr (.inl fo)))]) (w1 := []) hP hD [0, 1, 2, 3, 4] [5] rfl rfl (by decide) (by decide) hk1 hFc hP1 hD1
  have hw2 := hw
  clear hPc hDc hFc hz1 hk1 hP1 hK1 hD1
  generalize H1 = H at hP hS ⊢
  have hP : va_P (dC, dI) vcl [(ou, .inl ((cT 1), 1, .inr (.inl fo)))] H := hP
  have hD : va_D A [(ou, .inl ((cT 1), 1, .inr (.inl fo)))] := hD
  refine lv_if_eq (tgt := 18) hx hb d_Lw_user_11 (by decide) (fun hn9 => absurd hn9 (by decide)) (fun hc3 => ?_)
  refine lv_lconst (v := 1) hx hb d_Lw_user_14 (by decide) ?_
  refine lv_goto (tgt := 19) hx hb d_Lw_user_15 (by decide) ?_
  refine va_last hx hb hK hP hD hS 0 1 rfl rfl (i := 0) (vp_in_nI (n := 0) (N := 1) (by decide) (by decide)) d_Lw_user_19 (fun H locs hP hD hS => ?_)
  have hP : va_P (dC, dI) vcl [(ou, .inl ((cT 1), 1, .inr (.inl (vp_updL fo (0 : Int32).toNatClampNeg 1))))] H := hP
  have hD : va_D A [(ou, .inl ((cT 1), 1, .inr (.inl (vp_updL fo (0 : Int32).toNatClampNeg 1))))] := hD
  refine lv_goto (tgt := 27) hx hb d_Lw_user_20 (by decide) ?_
  refine lv_iconst (v := 0) hx hb d_Lw_user_27 (by decide) ?_
  have hP9 := hP.sub (ws' := [(ou, .inl ((cT 1), 1, .inr (.inl (vp_updL fo (0 : Int32).toNatClampNeg 1))))]) [0] rfl
  have hD9 := hD.sub (ws' := [(ou, .inl ((cT 1), 1, .inr (.inl (vp_updL fo (0 : Int32).toNatClampNeg 1))))]) [0] (by decide) rfl
  exact W.iret (v := 0) hx hb hr (fun t ht hW => ⟨⟨_, (), rfl, ⟨rfl, trivial⟩, by rw [ht]; exact hP9, va_K.moved hW.alike hK, hD9⟩, hS.F ht⟩) hS.2.2 d_Lw_user_28
set_option maxHeartbeats 4000000 in
set_option maxRecDepth 100000 in
/-- the law: draft goes -/
theorem l_draft (l : Launch) (dC : Nat → ClassId) (dI : Nat → Nat → Nat) (cT : Nat → ClassId) (sz : Nat) (ds : Nat) (dr : Nat) (sv : Nat) (rr : Nat) (f : Nat → Int32) (x : Int32) (y : Int32) (v : Int64) (hx1 : ¬ x < 0) (hx2 : ¬ 255 < x) (hy1 : ¬ y < 0) (hy2 : ¬ 255 < y) : Met l y_Lw_draft (Cond.codeWith y_Lw_draft b_Lw_draft 6 (Option.some Jvm.ClassFile.FieldType.int) [((0 : Nat), (7 : Nat), (10 : Nat), (13 : Nat))] :: BIG) ({ frames := 4, cells := 0, slots := 0, locals := 100 }) (va_Pc [.ref ds, .int x, .int y, .long v] (fun U => U.heap.size = sz ∧ va_P (dC, dI) vcl [(ds, .inr (0, [.ref dr, .ref sv])), (dr, .inr (2, [.ref rr, .int (nI 20)])), (rr, .inl ((cT 0), 1000, .inl f))] U.heap ∧ va_K (dC, dI) vcl (tyL cT) U ∧ va_D (fun _ => True) [(ds, .inr (0, [.ref dr, .ref sv])), (dr, .inr (2, [.ref rr, .int (nI 20)])), (rr, .inl ((cT 0), 1000, .inl f))])) (va_Qi (S := Unit) (fun rv9 u => rv9 = 0 ∧ (True)) (fun u t => va_P (dC, dI) vcl [] t.heap ∧ va_K (dC, dI) vcl (tyL cT) t ∧ va_D (va_A [(ds, .inr (0, [.ref dr, .ref sv])), (dr, .inr (2, [.ref rr, .int (nI 20)])), (rr, .inl ((cT 0), 1000, .inl f))] sz) []) (va_A [(ds, .inr (0, [.ref dr, .ref sv])), (dr, .inr (2, [.ref rr, .int (nI 20)])), (rr, .inl ((cT 0), 1000, .inl f))] sz)) 0 0 (va_A [(ds, .inr (0, [.ref dr, .ref sv])), (dr, .inr (2, [.ref rr, .int (nI 20)])), (rr, .inl ((cT 0), 1000, .inl f))] sz) := by
  refine xw_Met (cc := b_Lw_draft) (maxL := 6) (ret := (Option.some Jvm.ClassFile.FieldType.int)) (hh := [((0 : Nat), (7 : Nat), (10 : Nat), (13 : Nat))]) (by decide) rfl ?_
  intro p e s m args below meth c s₁ B hml hv htab
  obtain ⟨hargs, hsz, hP, hK, hD0⟩ := hv
  have hx := B.exec
  have hb := B.bytes
  have hr := B.returns
  have hts := atoms_spec (ws := (Cond.codeWith y_Lw_draft b_Lw_draft 6 (Option.some Jvm.ClassFile.FieldType.int) [((0 : Nat), (7 : Nat), (10 : Nat), (13 : Nat))] :: BIG)) B.pre
  have hg : ∀ w ∈ BIG, w.before _ s = true := fun w h => hts w (List.mem_cons_of_mem _ h)
  have hown : s.vm.findClass "DoorServerLaw" = some m.cls := findClass_of_methodNamed B.named
  have hlocks := B.notSynchronized
  subst hsz
  have hD := hD0.self (sz := s.heap.size)
  generalize hAe : va_A [(ds, .inr (0, [.ref dr, .ref sv])), (dr, .inr (2, [.ref rr, .int (nI 20)])), (rr, .inl ((cT 0), 1000, .inl f))] s.heap.size = A at hD ⊢
  have hA : ∀ q : Nat, s.heap.size ≤ q → A q := fun q h => by rw [← hAe]; exact Or.inr h
  have hS : va_S A s.heap s.heap [] := va_S.rf
  have hl := lv_entry ([.ref ds, .int x, .int y, .long v]) (n := 6) (Nat.le_of_ble_eq_true rfl)
  refine W.eq (g2 := entryFrame m (List.toArray [.ref ds, .int x, .int y, .long v]) 6) (by rw [hargs]) ?_
  rw [lg_entry_eq]
  generalize (lg_sl ([.ref ds, .int x, .int y, .long v]) ++ List.replicate (6 - (lg_sl ([.ref ds, .int x, .int y, .long v])).length) Slot.unset).toArray = ls at hl ⊢
  have hl : lv_has ls 6 [(0, .ref ds), (1, .int x), (2, .int y), (3, .long v)] := hl
  change W p l e ({ frames := 4, cells := 0, slots := 0, locals := 100 } : Room) s m args below meth c s.heap [] 0 0 _ _
  have hP : va_P (dC, dI) vcl [(ds, .inr (0, [.ref dr, .ref sv])), (dr, .inr (2, [.ref rr, .int (nI 20)])), (rr, .inl ((cT 0), 1000, .inl f))] s.heap := hP
  refine lv_aload_n hx hb d_Lw_draft_0 rfl (lv_at hl 0 rfl) ?_
  refine lv_iload_n hx hb d_Lw_draft_1 rfl (lv_at hl 1 rfl) ?_
  refine lv_iload_n hx hb d_Lw_draft_2 rfl (lv_at hl 2 rfl) ?_
  refine lv_lload_n hx hb d_Lw_draft_3 rfl (lv_at hl 3 rfl) ?_
  have hPc := hP.sub (ws' := [(ds, .inr (0, [.ref dr, .ref sv])), (dr, .inr (2, [.ref rr, .int (nI 20)])), (rr, .inl ((cT 0), 1000, .inl f))]) [0, 1, 2] rfl
  have hDc := hD.sub (ws' := [(ds, .inr (0, [.ref dr, .ref sv])), (dr, .inr (2, [.ref rr, .int (nI 20)])), (rr, .inl ((cT 0), 1000, .inl f))]) [0, 1, 2] (by decide) rfl
  have hFc := va_free (wc := [(ds, .inr (0, [.ref dr, .ref sv])), (dr, .inr (2, [.ref rr, .int (nI 20)])), (rr, .inl ((cT 0), 1000, .inl f))]) hD hS hA [0, 1, 2] rfl
  refine va_callv (va_runV (C := "DoorServer") (As := [.int x, .int y, .long v]) (rest := []) ⟨hx, hb, hml, hown, hg⟩ (c_draft l dC dI cT s.heap.size ds dr sv rr f x y v (hx1) (hx2) (hy1) (hy2)) (cwV 3 hg (gI (List.forall_mem_append.mpr ⟨List.forall_mem_cons.mpr ⟨k_485, List.forall_mem_cons.mpr ⟨k_486, List.forall_mem_cons.mpr ⟨k_487, List.forall_mem_cons.mpr ⟨k_1, fun _ h => absurd h List.not_mem_nil⟩⟩⟩⟩, List.forall_mem_cons.mpr ⟨k_488, fun _ h => h⟩⟩)) rfl rfl rfl (by decide +kernel) ⟨Nat.le_of_ble_eq_true rfl, Nat.le_of_ble_eq_true rfl⟩) ⟨fun a U g mk q => by obtain ⟨q0, q1, qP, qK, qD⟩ := q; exact ⟨q0, q1, qP, va_K.moved (u := U) (U := U.calling g mk a) (Vm.Alike.refl U.vm) qK, qD⟩, va_recv (q0 := 0) (ci := 0) hK hP rfl rfl, fun U hU hW => ⟨rfl, by rw [hU], by rw [hU]; exact hPc, va_K.moved hW.alike hK, hDc.weaken (fun _ _ _ _ => trivial)⟩⟩ rfl rfl hl.1 rfl (lv_room (Nat.le_of_ble_eq_true rfl)) d_Lw_draft_4 ⟨Nat.le_of_ble_eq_true rfl, Nat.le_of_ble_eq_true rfl⟩) hS (fun q _ h => hFc q h) hFc (fun u t H1 locs ht hvm hw hB hz1 hk1 hS => ?_)
  try dsimp only at hw hB
  obtain ⟨hP1, hK1, hD1⟩ := hB
  rw [ht] at hP1
  obtain ⟨hP, hD⟩ := va_join (wr := []) (w1 := []) hP hD [0, 1, 2] [] rfl rfl (by decide) (by decide) hk1 hFc hP1 hD1
  have hw4 := hw
  clear hPc hDc hFc hz1 hk1 hP1 hK1 hD1
  generalize H1 = H at hP hS ⊢
  have hP : va_P (dC, dI) vcl [] H := hP
  have hD : va_D A [] := hD
  refine lv_goto (tgt := 14) hx hb d_Lw_draft_7 (by decide) ?_
  refine lv_iconst (v := 0) hx hb d_Lw_draft_14 (by decide) ?_
  have hP9 := hP.sub (ws' := []) [] rfl
  have hD9 := hD.sub (ws' := []) [] (by decide) rfl
  exact W.iret (v := 0) hx hb hr (fun t ht hW => ⟨⟨_, (), rfl, ⟨rfl, trivial⟩, by rw [ht]; exact hP9, va_K.moved hW.alike hK, hD9⟩, hS.F ht⟩) hS.2.2 d_Lw_draft_15
set_option maxHeartbeats 4000000 in
set_option maxRecDepth 100000 in
/-- the law: put goes -/
theorem l_put (l : Launch) (dC : Nat → ClassId) (dI : Nat → Nat → Nat) (cT : Nat → ClassId) (sz : Nat) (ds : Nat) (dr : Nat) (sv : Nat) (rr : Nat) (f : Nat → Int32) (x : Int32) (k : Nat) (y : Int32) (ou : Nat) (fo : Nat → Int64) (hx1 : ¬ x < 0) (hx2 : ¬ 255 < x) (hk : k ≤ 100) (hy1 : ¬ y < 0) (hy2 : ¬ 255 < y) : Met l y_Lw_put (Cond.codeWith y_Lw_put b_Lw_put 6 (Option.some Jvm.ClassFile.FieldType.int) [((0 : Nat), (12 : Nat), (15 : Nat), (13 : Nat)), ((0 : Nat), (12 : Nat), (19 : Nat), (27 : Nat))] :: BIG) ({ frames := 3, cells := 0, slots := 0, locals := 75 }) (va_Pc [.ref ds, .int x, .int (nI k), .int y, .ref ou] (fun U => U.heap.size = sz ∧ va_P (dC, dI) vcl [(ds, .inr (0, [.ref dr, .ref sv])), (dr, .inr (2, [.ref rr, .int (nI 20)])), (rr, .inl ((cT 0), 1000, .inl f)), (ou, .inl ((cT 1), 1, .inr (.inl fo)))] U.heap ∧ va_K (dC, dI) vcl (tyL cT) U ∧ va_D (fun _ => True) [(ds, .inr (0, [.ref dr, .ref sv])), (dr, .inr (2, [.ref rr, .int (nI 20)])), (rr, .inl ((cT 0), 1000, .inl f)), (ou, .inl ((cT 1), 1, .inr (.inl fo)))])) (va_Qi (S := Unit) (fun rv9 u => rv9 = 0 ∧ (True)) (fun u t => va_P (dC, dI) vcl [(ou, .inl ((cT 1), 1, .inr (.inl (vp_updL fo (0 : Int32).toNatClampNeg ((nI (22 + k)).toInt64)))))] t.heap ∧ va_K (dC, dI) vcl (tyL cT) t ∧ va_D (va_A [(ds, .inr (0, [.ref dr, .ref sv])), (dr, .inr (2, [.ref rr, .int (nI 20)])), (rr, .inl ((cT 0), 1000, .inl f)), (ou, .inl ((cT 1), 1, .inr (.inl fo)))] sz) [(ou, .inl ((cT 1), 1, .inr (.inl (vp_updL fo (0 : Int32).toNatClampNeg ((nI (22 + k)).toInt64)))))]) (va_A [(ds, .inr (0, [.ref dr, .ref sv])), (dr, .inr (2, [.ref rr, .int (nI 20)])), (rr, .inl ((cT 0), 1000, .inl f)), (ou, .inl ((cT 1), 1, .inr (.inl fo)))] sz)) 0 0 (va_A [(ds, .inr (0, [.ref dr, .ref sv])), (dr, .inr (2, [.ref rr, .int (nI 20)])), (rr, .inl ((cT 0), 1000, .inl f)), (ou, .inl ((cT 1), 1, .inr (.inl fo)))] sz) := by
  refine xw_Met (cc := b_Lw_put) (maxL := 6) (ret := (Option.some Jvm.ClassFile.FieldType.int)) (hh := [((0 : Nat), (12 : Nat), (15 : Nat), (13 : Nat)), ((0 : Nat), (12 : Nat), (19 : Nat), (27 : Nat))]) (by decide) rfl ?_
  intro p e s m args below meth c s₁ B hml hv htab
  obtain ⟨hargs, hsz, hP, hK, hD0⟩ := hv
  have hx := B.exec
  have hb := B.bytes
  have hr := B.returns
  have hts := atoms_spec (ws := (Cond.codeWith y_Lw_put b_Lw_put 6 (Option.some Jvm.ClassFile.FieldType.int) [((0 : Nat), (12 : Nat), (15 : Nat), (13 : Nat)), ((0 : Nat), (12 : Nat), (19 : Nat), (27 : Nat))] :: BIG)) B.pre
  have hg : ∀ w ∈ BIG, w.before _ s = true := fun w h => hts w (List.mem_cons_of_mem _ h)
  have hown : s.vm.findClass "DoorServerLaw" = some m.cls := findClass_of_methodNamed B.named
  have hlocks := B.notSynchronized
  subst hsz
  have hD := hD0.self (sz := s.heap.size)
  generalize hAe : va_A [(ds, .inr (0, [.ref dr, .ref sv])), (dr, .inr (2, [.ref rr, .int (nI 20)])), (rr, .inl ((cT 0), 1000, .inl f)), (ou, .inl ((cT 1), 1, .inr (.inl fo)))] s.heap.size = A at hD ⊢
  have hA : ∀ q : Nat, s.heap.size ≤ q → A q := fun q h => by rw [← hAe]; exact Or.inr h
  have hS : va_S A s.heap s.heap [] := va_S.rf
  have hl := lv_entry ([.ref ds, .int x, .int (nI k), .int y, .ref ou]) (n := 6) (Nat.le_of_ble_eq_true rfl)
  refine W.eq (g2 := entryFrame m (List.toArray [.ref ds, .int x, .int (nI k), .int y, .ref ou]) 6) (by rw [hargs]) ?_
  rw [lg_entry_eq]
  generalize (lg_sl ([.ref ds, .int x, .int (nI k), .int y, .ref ou]) ++ List.replicate (6 - (lg_sl ([.ref ds, .int x, .int (nI k), .int y, .ref ou])).length) Slot.unset).toArray = ls at hl ⊢
  have hl : lv_has ls 6 [(0, .ref ds), (1, .int x), (2, .int (nI k)), (3, .int y), (4, .ref ou)] := hl
  change W p l e ({ frames := 3, cells := 0, slots := 0, locals := 75 } : Room) s m args below meth c s.heap [] 0 0 _ _
  have hP : va_P (dC, dI) vcl [(ds, .inr (0, [.ref dr, .ref sv])), (dr, .inr (2, [.ref rr, .int (nI 20)])), (rr, .inl ((cT 0), 1000, .inl f)), (ou, .inl ((cT 1), 1, .inr (.inl fo)))] s.heap := hP
  refine lv_aload hx hb d_Lw_put_0 (lv_at hl 4 rfl) ?_
  refine lv_iconst (v := 0) hx hb d_Lw_put_2 (by decide) ?_
  refine lv_aload_n hx hb d_Lw_put_3 rfl (lv_at hl 0 rfl) ?_
  refine lv_iload_n hx hb d_Lw_put_4 rfl (lv_at hl 1 rfl) ?_
  refine lv_iload_n hx hb d_Lw_put_5 rfl (lv_at hl 2 rfl) ?_
  refine lv_iload_n hx hb d_Lw_put_6 rfl (lv_at hl 3 rfl) ?_
  have hPc := hP.sub (ws' := [(ds, .inr (0, [.ref dr, .ref sv])), (dr, .inr (2, [.ref rr, .int (nI 20)])), (rr, .inl ((cT 0), 1000, .inl f))]) [0, 1, 2] rfl
  have hDc := hD.sub (ws' := [(ds, .inr (0, [.ref dr, .ref sv])), (dr, .inr (2, [.ref rr, .int (nI 20)])), (rr, .inl ((cT 0), 1000, .inl f))]) [0, 1, 2] (by decide) rfl
  have hFc := va_free (wc := [(ds, .inr (0, [.ref dr, .ref sv])), (dr, .inr (2, [.ref rr, .int (nI 20)])), (rr, .inl ((cT 0), 1000, .inl f))]) hD hS hA [0, 1, 2] rfl
  refine va_calli (va_runV (C := "DoorServer") (As := [.int x, .int (nI k), .int y]) (rest := [.int 0, .ref ou]) ⟨hx, hb, hml, hown, hg⟩ (c_put l dC dI cT s.heap.size ds dr sv rr f x k y (hx1) (hx2) (hk) (hy1) (hy2)) (cwV 3 hg (gI (List.forall_mem_append.mpr ⟨List.forall_mem_cons.mpr ⟨k_496, List.forall_mem_cons.mpr ⟨k_497, List.forall_mem_cons.mpr ⟨k_498, List.forall_mem_cons.mpr ⟨k_1, fun _ h => absurd h List.not_mem_nil⟩⟩⟩⟩, List.forall_mem_cons.mpr ⟨k_499, fun _ h => h⟩⟩)) rfl rfl rfl (by decide +kernel) ⟨Nat.le_of_ble_eq_true rfl, Nat.le_of_ble_eq_true rfl⟩) ⟨fun a U g mk q => by obtain ⟨q0, q1, qP, qK, qD⟩ := q; exact ⟨q0, q1, qP, va_K.moved (u := U) (U := U.calling g mk a) (Vm.Alike.refl U.vm) qK, qD⟩, va_recv (q0 := 0) (ci := 0) hK hP rfl rfl, fun U hU hW => ⟨rfl, by rw [hU], by rw [hU]; exact hPc, va_K.moved hW.alike hK, hDc.weaken (fun _ _ _ _ => trivial)⟩⟩ rfl rfl hl.1 rfl (lv_room (Nat.le_of_ble_eq_true rfl)) d_Lw_put_7 ⟨Nat.le_of_ble_eq_true rfl, Nat.le_of_ble_eq_true rfl⟩) hS (fun q _ h => hFc q h) hFc (fun rv9 u t H1 locs ht hvm hw hB hz1 hk1 hS => ?_)
  try dsimp only at hw hB
  obtain ⟨hP1, hK1, hD1⟩ := hB
  rw [ht] at hP1
  obtain ⟨rfl, hw⟩ := hw
  obtain ⟨hP, hD⟩ := va_join (wr := [(ou, .inl ((cT 1), 1, .inr (.inl fo)))]) (w1 := []) hP hD [0, 1, 2] [3] rfl rfl (by decide) (by decide) hk1 hFc hP1 hD1
  have hw5 := hw
  clear hPc hDc hFc hz1 hk1 hP1 hK1 hD1
  generalize H1 = H at hP hS ⊢
  have hP : va_P (dC, dI) vcl [(ou, .inl ((cT 1), 1, .inr (.inl fo)))] H := hP
  have hD : va_D A [(ou, .inl ((cT 1), 1, .inr (.inl fo)))] := hD
  refine lv_i2l (v := (nI (22 + k)).toInt64) hx hb d_Lw_put_10 rfl ?_
  refine va_last hx hb hK hP hD hS 0 1 rfl rfl (i := 0) (vp_in_nI (n := 0) (N := 1) (by decide) (by decide)) d_Lw_put_11 (fun H locs hP hD hS => ?_)
  have hP : va_P (dC, dI) vcl [(ou, .inl ((cT 1), 1, .inr (.inl (vp_updL fo (0 : Int32).toNatClampNeg ((nI (22 + k)).toInt64)))))] H := hP
  have hD : va_D A [(ou, .inl ((cT 1), 1, .inr (.inl (vp_updL fo (0 : Int32).toNatClampNeg ((nI (22 + k)).toInt64)))))] := hD
  refine lv_goto (tgt := 23) hx hb d_Lw_put_12 (by decide) ?_
  refine lv_iconst (v := 0) hx hb d_Lw_put_23 (by decide) ?_
  have hP9 := hP.sub (ws' := [(ou, .inl ((cT 1), 1, .inr (.inl (vp_updL fo (0 : Int32).toNatClampNeg ((nI (22 + k)).toInt64)))))]) [0] rfl
  have hD9 := hD.sub (ws' := [(ou, .inl ((cT 1), 1, .inr (.inl (vp_updL fo (0 : Int32).toNatClampNeg ((nI (22 + k)).toInt64)))))]) [0] (by decide) rfl
  exact W.iret (v := 0) hx hb hr (fun t ht hW => ⟨⟨_, (), rfl, ⟨rfl, trivial⟩, by rw [ht]; exact hP9, va_K.moved hW.alike hK, hD9⟩, hS.F ht⟩) hS.2.2 d_Lw_put_24
set_option maxHeartbeats 4000000 in
set_option maxRecDepth 100000 in
/-- the law: number goes -/
theorem l_number (l : Launch) (dC : Nat → ClassId) (dI : Nat → Nat → Nat) (cT : Nat → ClassId) (sz : Nat) (ds : Nat) (dr : Nat) (sv : Nat) (rr : Nat) (f : Nat → Int32) (x : Int32) (y : Int32) (ou : Nat) (fo : Nat → Int64) (hx1 : ¬ x < 0) (hx2 : ¬ 255 < x) : Met l y_Lw_number (Cond.codeWith y_Lw_number b_Lw_number 5 (Option.some Jvm.ClassFile.FieldType.int) [((0 : Nat), (10 : Nat), (13 : Nat), (13 : Nat)), ((0 : Nat), (10 : Nat), (17 : Nat), (27 : Nat))] :: BIG) ({ frames := 3, cells := 0, slots := 0, locals := 76 }) (va_Pc [.ref ds, .int x, .int y, .ref ou] (fun U => U.heap.size = sz ∧ va_P (dC, dI) vcl [(ds, .inr (0, [.ref dr, .ref sv])), (dr, .inr (2, [.ref rr, .int (nI 20)])), (rr, .inl ((cT 0), 1000, .inl f)), (ou, .inl ((cT 1), 1, .inr (.inl fo)))] U.heap ∧ va_K (dC, dI) vcl (tyL cT) U ∧ va_D (fun _ => True) [(ds, .inr (0, [.ref dr, .ref sv])), (dr, .inr (2, [.ref rr, .int (nI 20)])), (rr, .inl ((cT 0), 1000, .inl f)), (ou, .inl ((cT 1), 1, .inr (.inl fo)))])) (va_Qi (S := Unit) (fun rv9 u => rv9 = 0 ∧ (True)) (fun u t => va_P (dC, dI) vcl [(ou, .inl ((cT 1), 1, .inr (.inl (vp_updL fo (0 : Int32).toNatClampNeg ((26 : Int32).toInt64)))))] t.heap ∧ va_K (dC, dI) vcl (tyL cT) t ∧ va_D (va_A [(ds, .inr (0, [.ref dr, .ref sv])), (dr, .inr (2, [.ref rr, .int (nI 20)])), (rr, .inl ((cT 0), 1000, .inl f)), (ou, .inl ((cT 1), 1, .inr (.inl fo)))] sz) [(ou, .inl ((cT 1), 1, .inr (.inl (vp_updL fo (0 : Int32).toNatClampNeg ((26 : Int32).toInt64)))))]) (va_A [(ds, .inr (0, [.ref dr, .ref sv])), (dr, .inr (2, [.ref rr, .int (nI 20)])), (rr, .inl ((cT 0), 1000, .inl f)), (ou, .inl ((cT 1), 1, .inr (.inl fo)))] sz)) 0 0 (va_A [(ds, .inr (0, [.ref dr, .ref sv])), (dr, .inr (2, [.ref rr, .int (nI 20)])), (rr, .inl ((cT 0), 1000, .inl f)), (ou, .inl ((cT 1), 1, .inr (.inl fo)))] sz) := by
  refine xw_Met (cc := b_Lw_number) (maxL := 5) (ret := (Option.some Jvm.ClassFile.FieldType.int)) (hh := [((0 : Nat), (10 : Nat), (13 : Nat), (13 : Nat)), ((0 : Nat), (10 : Nat), (17 : Nat), (27 : Nat))]) (by decide) rfl ?_
  intro p e s m args below meth c s₁ B hml hv htab
  obtain ⟨hargs, hsz, hP, hK, hD0⟩ := hv
  have hx := B.exec
  have hb := B.bytes
  have hr := B.returns
  have hts := atoms_spec (ws := (Cond.codeWith y_Lw_number b_Lw_number 5 (Option.some Jvm.ClassFile.FieldType.int) [((0 : Nat), (10 : Nat), (13 : Nat), (13 : Nat)), ((0 : Nat), (10 : Nat), (17 : Nat), (27 : Nat))] :: BIG)) B.pre
  have hg : ∀ w ∈ BIG, w.before _ s = true := fun w h => hts w (List.mem_cons_of_mem _ h)
  have hown : s.vm.findClass "DoorServerLaw" = some m.cls := findClass_of_methodNamed B.named
  have hlocks := B.notSynchronized
  subst hsz
  have hD := hD0.self (sz := s.heap.size)
  generalize hAe : va_A [(ds, .inr (0, [.ref dr, .ref sv])), (dr, .inr (2, [.ref rr, .int (nI 20)])), (rr, .inl ((cT 0), 1000, .inl f)), (ou, .inl ((cT 1), 1, .inr (.inl fo)))] s.heap.size = A at hD ⊢
  have hA : ∀ q : Nat, s.heap.size ≤ q → A q := fun q h => by rw [← hAe]; exact Or.inr h
  have hS : va_S A s.heap s.heap [] := va_S.rf
  have hl := lv_entry ([.ref ds, .int x, .int y, .ref ou]) (n := 5) (Nat.le_of_ble_eq_true rfl)
  refine W.eq (g2 := entryFrame m (List.toArray [.ref ds, .int x, .int y, .ref ou]) 5) (by rw [hargs]) ?_
  rw [lg_entry_eq]
  generalize (lg_sl ([.ref ds, .int x, .int y, .ref ou]) ++ List.replicate (5 - (lg_sl ([.ref ds, .int x, .int y, .ref ou])).length) Slot.unset).toArray = ls at hl ⊢
  have hl : lv_has ls 5 [(0, .ref ds), (1, .int x), (2, .int y), (3, .ref ou)] := hl
  change W p l e ({ frames := 3, cells := 0, slots := 0, locals := 76 } : Room) s m args below meth c s.heap [] 0 0 _ _
  have hP : va_P (dC, dI) vcl [(ds, .inr (0, [.ref dr, .ref sv])), (dr, .inr (2, [.ref rr, .int (nI 20)])), (rr, .inl ((cT 0), 1000, .inl f)), (ou, .inl ((cT 1), 1, .inr (.inl fo)))] s.heap := hP
  refine lv_aload_n hx hb d_Lw_number_0 rfl (lv_at hl 3 rfl) ?_
  refine lv_iconst (v := 0) hx hb d_Lw_number_1 (by decide) ?_
  refine lv_aload_n hx hb d_Lw_number_2 rfl (lv_at hl 0 rfl) ?_
  refine lv_iload_n hx hb d_Lw_number_3 rfl (lv_at hl 1 rfl) ?_
  refine lv_iload_n hx hb d_Lw_number_4 rfl (lv_at hl 2 rfl) ?_
  have hPc := hP.sub (ws' := [(ds, .inr (0, [.ref dr, .ref sv])), (dr, .inr (2, [.ref rr, .int (nI 20)])), (rr, .inl ((cT 0), 1000, .inl f))]) [0, 1, 2] rfl
  have hDc := hD.sub (ws' := [(ds, .inr (0, [.ref dr, .ref sv])), (dr, .inr (2, [.ref rr, .int (nI 20)])), (rr, .inl ((cT 0), 1000, .inl f))]) [0, 1, 2] (by decide) rfl
  have hFc := va_free (wc := [(ds, .inr (0, [.ref dr, .ref sv])), (dr, .inr (2, [.ref rr, .int (nI 20)])), (rr, .inl ((cT 0), 1000, .inl f))]) hD hS hA [0, 1, 2] rfl
  refine va_calli (va_runV (C := "DoorServer") (As := [.int x, .int y]) (rest := [.int 0, .ref ou]) ⟨hx, hb, hml, hown, hg⟩ (c_number l dC dI cT s.heap.size ds dr sv rr f x y (hx1) (hx2)) (cwV 2 hg (gI (List.forall_mem_append.mpr ⟨List.forall_mem_cons.mpr ⟨k_535, List.forall_mem_cons.mpr ⟨k_536, List.forall_mem_cons.mpr ⟨k_537, List.forall_mem_cons.mpr ⟨k_1, fun _ h => absurd h List.not_mem_nil⟩⟩⟩⟩, List.forall_mem_cons.mpr ⟨k_538, fun _ h => h⟩⟩)) rfl rfl rfl (by decide +kernel) ⟨Nat.le_of_ble_eq_true rfl, Nat.le_of_ble_eq_true rfl⟩) ⟨fun a U g mk q => by obtain ⟨q0, q1, qP, qK, qD⟩ := q; exact ⟨q0, q1, qP, va_K.moved (u := U) (U := U.calling g mk a) (Vm.Alike.refl U.vm) qK, qD⟩, va_recv (q0 := 0) (ci := 0) hK hP rfl rfl, fun U hU hW => ⟨rfl, by rw [hU], by rw [hU]; exact hPc, va_K.moved hW.alike hK, hDc.weaken (fun _ _ _ _ => trivial)⟩⟩ rfl rfl hl.1 rfl (lv_room (Nat.le_of_ble_eq_true rfl)) d_Lw_number_5 ⟨Nat.le_of_ble_eq_true rfl, Nat.le_of_ble_eq_true rfl⟩) hS (fun q _ h => hFc q h) hFc (fun rv9 u t H1 locs ht hvm hw hB hz1 hk1 hS => ?_)
  try dsimp only at hw hB
  obtain ⟨hP1, hK1, hD1⟩ := hB
  rw [ht] at hP1
  obtain ⟨rfl, hw⟩ := hw
  obtain ⟨hP, hD⟩ := va_join (wr := [(ou, .inl ((cT 1), 1, .inr (.inl fo)))]) (w1 := []) hP hD [0, 1, 2] [3] rfl rfl (by decide) (by decide) hk1 hFc hP1 hD1
  have hw6 := hw
  clear hPc hDc hFc hz1 hk1 hP1 hK1 hD1
  generalize H1 = H at hP hS ⊢
  have hP : va_P (dC, dI) vcl [(ou, .inl ((cT 1), 1, .inr (.inl fo)))] H := hP
  have hD : va_D A [(ou, .inl ((cT 1), 1, .inr (.inl fo)))] := hD
  refine lv_i2l (v := (26 : Int32).toInt64) hx hb d_Lw_number_8 rfl ?_
  refine va_last hx hb hK hP hD hS 0 1 rfl rfl (i := 0) (vp_in_nI (n := 0) (N := 1) (by decide) (by decide)) d_Lw_number_9 (fun H locs hP hD hS => ?_)
  have hP : va_P (dC, dI) vcl [(ou, .inl ((cT 1), 1, .inr (.inl (vp_updL fo (0 : Int32).toNatClampNeg ((26 : Int32).toInt64)))))] H := hP
  have hD : va_D A [(ou, .inl ((cT 1), 1, .inr (.inl (vp_updL fo (0 : Int32).toNatClampNeg ((26 : Int32).toInt64)))))] := hD
  refine lv_goto (tgt := 21) hx hb d_Lw_number_10 (by decide) ?_
  refine lv_iconst (v := 0) hx hb d_Lw_number_21 (by decide) ?_
  have hP9 := hP.sub (ws' := [(ou, .inl ((cT 1), 1, .inr (.inl (vp_updL fo (0 : Int32).toNatClampNeg ((26 : Int32).toInt64)))))]) [0] rfl
  have hD9 := hD.sub (ws' := [(ou, .inl ((cT 1), 1, .inr (.inl (vp_updL fo (0 : Int32).toNatClampNeg ((26 : Int32).toInt64)))))]) [0] (by decide) rfl
  exact W.iret (v := 0) hx hb hr (fun t ht hW => ⟨⟨_, (), rfl, ⟨rfl, trivial⟩, by rw [ht]; exact hP9, va_K.moved hW.alike hK, hD9⟩, hS.F ht⟩) hS.2.2 d_Lw_number_22
set_option maxHeartbeats 4000000 in
set_option maxRecDepth 100000 in
/-- the law: name goes -/
theorem l_name (l : Launch) (dC : Nat → ClassId) (dI : Nat → Nat → Nat) (cT : Nat → ClassId) (sz : Nat) (ds : Nat) (dr : Nat) (sv : Nat) (rr : Nat) (f : Nat → Int32) (x : Int32) (ou : Nat) (fo : Nat → Int64) (hx1 : ¬ x < 0) (hx2 : ¬ 31 < x) : Met l y_Lw_name (Cond.codeWith y_Lw_name b_Lw_name 4 (Option.some Jvm.ClassFile.FieldType.int) [((0 : Nat), (9 : Nat), (12 : Nat), (13 : Nat)), ((0 : Nat), (9 : Nat), (15 : Nat), (27 : Nat))] :: BIG) ({ frames := 3, cells := 0, slots := 0, locals := 75 }) (va_Pc [.ref ds, .int x, .ref ou] (fun U => U.heap.size = sz ∧ va_P (dC, dI) vcl [(ds, .inr (0, [.ref dr, .ref sv])), (dr, .inr (2, [.ref rr, .int (nI 20)])), (rr, .inl ((cT 0), 1000, .inl f)), (ou, .inl ((cT 1), 1, .inr (.inl fo)))] U.heap ∧ va_K (dC, dI) vcl (tyL cT) U ∧ va_D (fun _ => True) [(ds, .inr (0, [.ref dr, .ref sv])), (dr, .inr (2, [.ref rr, .int (nI 20)])), (rr, .inl ((cT 0), 1000, .inl f)), (ou, .inl ((cT 1), 1, .inr (.inl fo)))])) (va_Qi (S := Unit) (fun rv9 u => rv9 = 0 ∧ (True)) (fun u t => va_P (dC, dI) vcl [(ou, .inl ((cT 1), 1, .inr (.inl (vp_updL fo (0 : Int32).toNatClampNeg ((25 : Int32).toInt64)))))] t.heap ∧ va_K (dC, dI) vcl (tyL cT) t ∧ va_D (va_A [(ds, .inr (0, [.ref dr, .ref sv])), (dr, .inr (2, [.ref rr, .int (nI 20)])), (rr, .inl ((cT 0), 1000, .inl f)), (ou, .inl ((cT 1), 1, .inr (.inl fo)))] sz) [(ou, .inl ((cT 1), 1, .inr (.inl (vp_updL fo (0 : Int32).toNatClampNeg ((25 : Int32).toInt64)))))]) (va_A [(ds, .inr (0, [.ref dr, .ref sv])), (dr, .inr (2, [.ref rr, .int (nI 20)])), (rr, .inl ((cT 0), 1000, .inl f)), (ou, .inl ((cT 1), 1, .inr (.inl fo)))] sz)) 0 0 (va_A [(ds, .inr (0, [.ref dr, .ref sv])), (dr, .inr (2, [.ref rr, .int (nI 20)])), (rr, .inl ((cT 0), 1000, .inl f)), (ou, .inl ((cT 1), 1, .inr (.inl fo)))] sz) := by
  refine xw_Met (cc := b_Lw_name) (maxL := 4) (ret := (Option.some Jvm.ClassFile.FieldType.int)) (hh := [((0 : Nat), (9 : Nat), (12 : Nat), (13 : Nat)), ((0 : Nat), (9 : Nat), (15 : Nat), (27 : Nat))]) (by decide) rfl ?_
  intro p e s m args below meth c s₁ B hml hv htab
  obtain ⟨hargs, hsz, hP, hK, hD0⟩ := hv
  have hx := B.exec
  have hb := B.bytes
  have hr := B.returns
  have hts := atoms_spec (ws := (Cond.codeWith y_Lw_name b_Lw_name 4 (Option.some Jvm.ClassFile.FieldType.int) [((0 : Nat), (9 : Nat), (12 : Nat), (13 : Nat)), ((0 : Nat), (9 : Nat), (15 : Nat), (27 : Nat))] :: BIG)) B.pre
  have hg : ∀ w ∈ BIG, w.before _ s = true := fun w h => hts w (List.mem_cons_of_mem _ h)
  have hown : s.vm.findClass "DoorServerLaw" = some m.cls := findClass_of_methodNamed B.named
  have hlocks := B.notSynchronized
  subst hsz
  have hD := hD0.self (sz := s.heap.size)
  generalize hAe : va_A [(ds, .inr (0, [.ref dr, .ref sv])), (dr, .inr (2, [.ref rr, .int (nI 20)])), (rr, .inl ((cT 0), 1000, .inl f)), (ou, .inl ((cT 1), 1, .inr (.inl fo)))] s.heap.size = A at hD ⊢
  have hA : ∀ q : Nat, s.heap.size ≤ q → A q := fun q h => by rw [← hAe]; exact Or.inr h
  have hS : va_S A s.heap s.heap [] := va_S.rf
  have hl := lv_entry ([.ref ds, .int x, .ref ou]) (n := 4) (Nat.le_of_ble_eq_true rfl)
  refine W.eq (g2 := entryFrame m (List.toArray [.ref ds, .int x, .ref ou]) 4) (by rw [hargs]) ?_
  rw [lg_entry_eq]
  generalize (lg_sl ([.ref ds, .int x, .ref ou]) ++ List.replicate (4 - (lg_sl ([.ref ds, .int x, .ref ou])).length) Slot.unset).toArray = ls at hl ⊢
  have hl : lv_has ls 4 [(0, .ref ds), (1, .int x), (2, .ref ou)] := hl
  change W p l e ({ frames := 3, cells := 0, slots := 0, locals := 75 } : Room) s m args below meth c s.heap [] 0 0 _ _
  have hP : va_P (dC, dI) vcl [(ds, .inr (0, [.ref dr, .ref sv])), (dr, .inr (2, [.ref rr, .int (nI 20)])), (rr, .inl ((cT 0), 1000, .inl f)), (ou, .inl ((cT 1), 1, .inr (.inl fo)))] s.heap := hP
  refine lv_aload_n hx hb d_Lw_name_0 rfl (lv_at hl 2 rfl) ?_
  refine lv_iconst (v := 0) hx hb d_Lw_name_1 (by decide) ?_
  refine lv_aload_n hx hb d_Lw_name_2 rfl (lv_at hl 0 rfl) ?_
  refine lv_iload_n hx hb d_Lw_name_3 rfl (lv_at hl 1 rfl) ?_
  have hPc := hP.sub (ws' := [(ds, .inr (0, [.ref dr, .ref sv])), (dr, .inr (2, [.ref rr, .int (nI 20)])), (rr, .inl ((cT 0), 1000, .inl f))]) [0, 1, 2] rfl
  have hDc := hD.sub (ws' := [(ds, .inr (0, [.ref dr, .ref sv])), (dr, .inr (2, [.ref rr, .int (nI 20)])), (rr, .inl ((cT 0), 1000, .inl f))]) [0, 1, 2] (by decide) rfl
  have hFc := va_free (wc := [(ds, .inr (0, [.ref dr, .ref sv])), (dr, .inr (2, [.ref rr, .int (nI 20)])), (rr, .inl ((cT 0), 1000, .inl f))]) hD hS hA [0, 1, 2] rfl
  refine va_calli (va_runV (C := "DoorServer") (As := [.int x]) (rest := [.int 0, .ref ou]) ⟨hx, hb, hml, hown, hg⟩ (c_name l dC dI cT s.heap.size ds dr sv rr f x (hx1) (hx2)) (cwV 1 hg (gI (List.forall_mem_append.mpr ⟨List.forall_mem_cons.mpr ⟨k_543, List.forall_mem_cons.mpr ⟨k_544, List.forall_mem_cons.mpr ⟨k_545, List.forall_mem_cons.mpr ⟨k_1, fun _ h => absurd h List.not_mem_nil⟩⟩⟩⟩, List.forall_mem_cons.mpr ⟨k_546, fun _ h => h⟩⟩)) rfl rfl rfl (by decide +kernel) ⟨Nat.le_of_ble_eq_true rfl, Nat.le_of_ble_eq_true rfl⟩) ⟨fun a U g mk q => by obtain ⟨q0, q1, qP, qK, qD⟩ := q; exact ⟨q0, q1, qP, va_K.moved (u := U) (U := U.calling g mk a) (Vm.Alike.refl U.vm) qK, qD⟩, va_recv (q0 := 0) (ci := 0) hK hP rfl rfl, fun U hU hW => ⟨rfl, by rw [hU], by rw [hU]; exact hPc, va_K.moved hW.alike hK, hDc.weaken (fun _ _ _ _ => trivial)⟩⟩ rfl rfl hl.1 rfl (lv_room (Nat.le_of_ble_eq_true rfl)) d_Lw_name_4 ⟨Nat.le_of_ble_eq_true rfl, Nat.le_of_ble_eq_true rfl⟩) hS (fun q _ h => hFc q h) hFc (fun rv9 u t H1 locs ht hvm hw hB hz1 hk1 hS => ?_)
  try dsimp only at hw hB
  obtain ⟨hP1, hK1, hD1⟩ := hB
  rw [ht] at hP1
  obtain ⟨rfl, hw⟩ := hw
  obtain ⟨hP, hD⟩ := va_join (wr := [(ou, .inl ((cT 1), 1, .inr (.inl fo)))]) (w1 := []) hP hD [0, 1, 2] [3] rfl rfl (by decide) (by decide) hk1 hFc hP1 hD1
  have hw7 := hw
  clear hPc hDc hFc hz1 hk1 hP1 hK1 hD1
  generalize H1 = H at hP hS ⊢
  have hP : va_P (dC, dI) vcl [(ou, .inl ((cT 1), 1, .inr (.inl fo)))] H := hP
  have hD : va_D A [(ou, .inl ((cT 1), 1, .inr (.inl fo)))] := hD
  refine lv_i2l (v := (25 : Int32).toInt64) hx hb d_Lw_name_7 rfl ?_
  refine va_last hx hb hK hP hD hS 0 1 rfl rfl (i := 0) (vp_in_nI (n := 0) (N := 1) (by decide) (by decide)) d_Lw_name_8 (fun H locs hP hD hS => ?_)
  have hP : va_P (dC, dI) vcl [(ou, .inl ((cT 1), 1, .inr (.inl (vp_updL fo (0 : Int32).toNatClampNeg ((25 : Int32).toInt64)))))] H := hP
  have hD : va_D A [(ou, .inl ((cT 1), 1, .inr (.inl (vp_updL fo (0 : Int32).toNatClampNeg ((25 : Int32).toInt64)))))] := hD
  refine lv_goto (tgt := 18) hx hb d_Lw_name_9 (by decide) ?_
  refine lv_iconst (v := 0) hx hb d_Lw_name_18 (by decide) ?_
  have hP9 := hP.sub (ws' := [(ou, .inl ((cT 1), 1, .inr (.inl (vp_updL fo (0 : Int32).toNatClampNeg ((25 : Int32).toInt64)))))]) [0] rfl
  have hD9 := hD.sub (ws' := [(ou, .inl ((cT 1), 1, .inr (.inl (vp_updL fo (0 : Int32).toNatClampNeg ((25 : Int32).toInt64)))))]) [0] (by decide) rfl
  exact W.iret (v := 0) hx hb hr (fun t ht hW => ⟨⟨_, (), rfl, ⟨rfl, trivial⟩, by rw [ht]; exact hP9, va_K.moved hW.alike hK, hD9⟩, hS.F ht⟩) hS.2.2 d_Lw_name_19
set_option maxHeartbeats 4000000 in
set_option maxRecDepth 100000 in
/-- the law: password goes -/
theorem l_password (l : Launch) (dC : Nat → ClassId) (dI : Nat → Nat → Nat) (cT : Nat → ClassId) (sz : Nat) (ds : Nat) (dr : Nat) (sv : Nat) (rr : Nat) (se : Nat) (pw : Nat) (ty : Nat) (an : Nat) (aw : Nat) (ts : Nat) (ss : Nat) (rq : Nat) (tm : Int32) (n3 : Int32) (n4 : Int32) (sh : Nat) (sr : Nat) (ns : Nat) (sl : Nat) (fs : Nat → Int32) (gs : Nat → Option Nat) (st : Nat) (g0 : Nat) (tx : Nat) (tr : Nat) (wo : Nat) (di : Nat) (va : Int32) (vb : Int32) (vc : Int32) (vd : Int32) (len : Nat) (f : Nat → Int32) (fw : Nat → Int32) (fd : Nat → Int32) (fp : Nat → Int32) (v : Int64) (k : Nat) (ou : Nat) (fo : Nat → Int64) (hst : st < 4) (hgs : gs st = some sh) (hsl : sl ≤ ns) (hns : ns < 2 ^ 31) (hs40 : sl ≤ 64) (hk1 : 1 ≤ k) (hk2 : k ≤ 60) : Met l y_Lw_password (Cond.codeWith y_Lw_password b_Lw_password 7 (Option.some Jvm.ClassFile.FieldType.int) [((0 : Nat), (13 : Nat), (16 : Nat), (13 : Nat)), ((0 : Nat), (13 : Nat), (20 : Nat), (27 : Nat))] :: BIG) ({ frames := 6, cells := 0, slots := 0, locals := 194 }) (va_Pc [.ref ds, .int (nI st), .long v, .int (nI k), .ref ou] (fun U => U.heap.size = sz ∧ va_P (dC, dI) vcl [(ds, .inr (0, [.ref dr, .ref sv])), (dr, .inr (2, [.ref rr, .int (nI 20)])), (rr, .inl ((cT 0), 1000, .inl fp)), (sv, .inr (5, [.ref se, .ref pw, .ref g0, .ref ty, .ref an, .ref aw, .ref ts, .ref ss, .ref rq, .int tm, .int n3, .int n4])), (se, .inl ((cT 2), 4, .inr (.inr (.inr (.inr gs))))), (sh, .inr (1, [.ref sr, .int (nI sl)])), (sr, .inl ((cT 0), ns, .inl fs)), (g0, .inr (3, [.ref tx, .ref wo, .ref di, .int va, .int vb, .int vc, .int vd])), (tx, .inr (1, [.ref tr, .int (nI len)])), (tr, .inl ((cT 0), 1192, .inl f)), (wo, .inl ((cT 0), 16, .inl fw)), (di, .inl ((cT 0), 16, .inl fd)), (ou, .inl ((cT 1), 1, .inr (.inl fo)))] U.heap ∧ va_K (dC, dI) vcl (tyL cT) U ∧ va_D (fun _ => True) [(ds, .inr (0, [.ref dr, .ref sv])), (dr, .inr (2, [.ref rr, .int (nI 20)])), (rr, .inl ((cT 0), 1000, .inl fp)), (sv, .inr (5, [.ref se, .ref pw, .ref g0, .ref ty, .ref an, .ref aw, .ref ts, .ref ss, .ref rq, .int tm, .int n3, .int n4])), (se, .inl ((cT 2), 4, .inr (.inr (.inr (.inr gs))))), (sh, .inr (1, [.ref sr, .int (nI sl)])), (sr, .inl ((cT 0), ns, .inl fs)), (g0, .inr (3, [.ref tx, .ref wo, .ref di, .int va, .int vb, .int vc, .int vd])), (tx, .inr (1, [.ref tr, .int (nI len)])), (tr, .inl ((cT 0), 1192, .inl f)), (wo, .inl ((cT 0), 16, .inl fw)), (di, .inl ((cT 0), 16, .inl fd)), (ou, .inl ((cT 1), 1, .inr (.inl fo)))] ∧ xm (va_A [(ds, .inr (0, [.ref dr, .ref sv])), (dr, .inr (2, [.ref rr, .int (nI 20)])), (rr, .inl ((cT 0), 1000, .inl fp)), (sv, .inr (5, [.ref se, .ref pw, .ref g0, .ref ty, .ref an, .ref aw, .ref ts, .ref ss, .ref rq, .int tm, .int n3, .int n4])), (se, .inl ((cT 2), 4, .inr (.inr (.inr (.inr gs))))), (sh, .inr (1, [.ref sr, .int (nI sl)])), (sr, .inl ((cT 0), ns, .inl fs)), (g0, .inr (3, [.ref tx, .ref wo, .ref di, .int va, .int vb, .int vc, .int vd])), (tx, .inr (1, [.ref tr, .int (nI len)])), (tr, .inl ((cT 0), 1192, .inl f)), (wo, .inl ((cT 0), 16, .inl fw)), (di, .inl ((cT 0), 16, .inl fd)), (ou, .inl ((cT 1), 1, .inr (.inl fo)))] sz) U U.heap)) (va_Qi (S := Unit) (fun rv9 u => rv9 = 0 ∧ (True)) (fun u t => va_P (dC, dI) vcl [(ou, .inl ((cT 1), 1, .inr (.inl (vp_updL fo (0 : Int32).toNatClampNeg ((nI (22 + (k + 15) / 16 * 16)).toInt64)))))] t.heap ∧ va_K (dC, dI) vcl (tyL cT) t ∧ va_D (va_A [(ds, .inr (0, [.ref dr, .ref sv])), (dr, .inr (2, [.ref rr, .int (nI 20)])), (rr, .inl ((cT 0), 1000, .inl fp)), (sv, .inr (5, [.ref se, .ref pw, .ref g0, .ref ty, .ref an, .ref aw, .ref ts, .ref ss, .ref rq, .int tm, .int n3, .int n4])), (se, .inl ((cT 2), 4, .inr (.inr (.inr (.inr gs))))), (sh, .inr (1, [.ref sr, .int (nI sl)])), (sr, .inl ((cT 0), ns, .inl fs)), (g0, .inr (3, [.ref tx, .ref wo, .ref di, .int va, .int vb, .int vc, .int vd])), (tx, .inr (1, [.ref tr, .int (nI len)])), (tr, .inl ((cT 0), 1192, .inl f)), (wo, .inl ((cT 0), 16, .inl fw)), (di, .inl ((cT 0), 16, .inl fd)), (ou, .inl ((cT 1), 1, .inr (.inl fo)))] sz) [(ou, .inl ((cT 1), 1, .inr (.inl (vp_updL fo (0 : Int32).toNatClampNeg ((nI (22 + (k + 15) / 16 * 16)).toInt64)))))]) (va_A [(ds, .inr (0, [.ref dr, .ref sv])), (dr, .inr (2, [.ref rr, .int (nI 20)])), (rr, .inl ((cT 0), 1000, .inl fp)), (sv, .inr (5, [.ref se, .ref pw, .ref g0, .ref ty, .ref an, .ref aw, .ref ts, .ref ss, .ref rq, .int tm, .int n3, .int n4])), (se, .inl ((cT 2), 4, .inr (.inr (.inr (.inr gs))))), (sh, .inr (1, [.ref sr, .int (nI sl)])), (sr, .inl ((cT 0), ns, .inl fs)), (g0, .inr (3, [.ref tx, .ref wo, .ref di, .int va, .int vb, .int vc, .int vd])), (tx, .inr (1, [.ref tr, .int (nI len)])), (tr, .inl ((cT 0), 1192, .inl f)), (wo, .inl ((cT 0), 16, .inl fw)), (di, .inl ((cT 0), 16, .inl fd)), (ou, .inl ((cT 1), 1, .inr (.inl fo)))] sz)) 0 0 (va_A [(ds, .inr (0, [.ref dr, .ref sv])), (dr, .inr (2, [.ref rr, .int (nI 20)])), (rr, .inl ((cT 0), 1000, .inl fp)), (sv, .inr (5, [.ref se, .ref pw, .ref g0, .ref ty, .ref an, .ref aw, .ref ts, .ref ss, .ref rq, .int tm, .int n3, .int n4])), (se, .inl ((cT 2), 4, .inr (.inr (.inr (.inr gs))))), (sh, .inr (1, [.ref sr, .int (nI sl)])), (sr, .inl ((cT 0), ns, .inl fs)), (g0, .inr (3, [.ref tx, .ref wo, .ref di, .int va, .int vb, .int vc, .int vd])), (tx, .inr (1, [.ref tr, .int (nI len)])), (tr, .inl ((cT 0), 1192, .inl f)), (wo, .inl ((cT 0), 16, .inl fw)), (di, .inl ((cT 0), 16, .inl fd)), (ou, .inl ((cT 1), 1, .inr (.inl fo)))] sz) := by
  refine xw_Met (cc := b_Lw_password) (maxL := 7) (ret := (Option.some Jvm.ClassFile.FieldType.int)) (hh := [((0 : Nat), (13 : Nat), (16 : Nat), (13 : Nat)), ((0 : Nat), (13 : Nat), (20 : Nat), (27 : Nat))]) (by decide) rfl ?_
  intro p e s m args below meth c s₁ B hml hv htab
  obtain ⟨hargs, hsz, hP, hK, hD0, hE⟩ := hv
  have hx := B.exec
  have hb := B.bytes
  have hr := B.returns
  have hts := atoms_spec (ws := (Cond.codeWith y_Lw_password b_Lw_password 7 (Option.some Jvm.ClassFile.FieldType.int) [((0 : Nat), (13 : Nat), (16 : Nat), (13 : Nat)), ((0 : Nat), (13 : Nat), (20 : Nat), (27 : Nat))] :: BIG)) B.pre
  have hg : ∀ w ∈ BIG, w.before _ s = true := fun w h => hts w (List.mem_cons_of_mem _ h)
  have hown : s.vm.findClass "DoorServerLaw" = some m.cls := findClass_of_methodNamed B.named
  have hlocks := B.notSynchronized
  subst hsz
  have hD := hD0.self (sz := s.heap.size)
  generalize hAe : va_A [(ds, .inr (0, [.ref dr, .ref sv])), (dr, .inr (2, [.ref rr, .int (nI 20)])), (rr, .inl ((cT 0), 1000, .inl fp)), (sv, .inr (5, [.ref se, .ref pw, .ref g0, .ref ty, .ref an, .ref aw, .ref ts, .ref ss, .ref rq, .int tm, .int n3, .int n4])), (se, .inl ((cT 2), 4, .inr (.inr (.inr (.inr gs))))), (sh, .inr (1, [.ref sr, .int (nI sl)])), (sr, .inl ((cT 0), ns, .inl fs)), (g0, .inr (3, [.ref tx, .ref wo, .ref di, .int va, .int vb, .int vc, .int vd])), (tx, .inr (1, [.ref tr, .int (nI len)])), (tr, .inl ((cT 0), 1192, .inl f)), (wo, .inl ((cT 0), 16, .inl fw)), (di, .inl ((cT 0), 16, .inl fd)), (ou, .inl ((cT 1), 1, .inr (.inl fo)))] s.heap.size = A at hD hE ⊢
  have hA : ∀ q : Nat, s.heap.size ≤ q → A q := fun q h => by rw [← hAe]; exact Or.inr h
  have hS : va_S A s.heap s.heap [] := va_S.rf
  have hl := lv_entry ([.ref ds, .int (nI st), .long v, .int (nI k), .ref ou]) (n := 7) (Nat.le_of_ble_eq_true rfl)
  refine W.eq (g2 := entryFrame m (List.toArray [.ref ds, .int (nI st), .long v, .int (nI k), .ref ou]) 7) (by rw [hargs]) ?_
  rw [lg_entry_eq]
  generalize (lg_sl ([.ref ds, .int (nI st), .long v, .int (nI k), .ref ou]) ++ List.replicate (7 - (lg_sl ([.ref ds, .int (nI st), .long v, .int (nI k), .ref ou])).length) Slot.unset).toArray = ls at hl ⊢
  have hl : lv_has ls 7 [(0, .ref ds), (1, .int (nI st)), (2, .long v), (4, .int (nI k)), (5, .ref ou)] := hl
  change W p l e ({ frames := 6, cells := 0, slots := 0, locals := 194 } : Room) s m args below meth c s.heap [] 0 0 _ _
  have hP : va_P (dC, dI) vcl [(ds, .inr (0, [.ref dr, .ref sv])), (dr, .inr (2, [.ref rr, .int (nI 20)])), (rr, .inl ((cT 0), 1000, .inl fp)), (sv, .inr (5, [.ref se, .ref pw, .ref g0, .ref ty, .ref an, .ref aw, .ref ts, .ref ss, .ref rq, .int tm, .int n3, .int n4])), (se, .inl ((cT 2), 4, .inr (.inr (.inr (.inr gs))))), (sh, .inr (1, [.ref sr, .int (nI sl)])), (sr, .inl ((cT 0), ns, .inl fs)), (g0, .inr (3, [.ref tx, .ref wo, .ref di, .int va, .int vb, .int vc, .int vd])), (tx, .inr (1, [.ref tr, .int (nI len)])), (tr, .inl ((cT 0), 1192, .inl f)), (wo, .inl ((cT 0), 16, .inl fw)), (di, .inl ((cT 0), 16, .inl fd)), (ou, .inl ((cT 1), 1, .inr (.inl fo)))] s.heap := hP
  refine lv_aload hx hb d_Lw_password_0 (lv_at hl 4 rfl) ?_
  refine lv_iconst (v := 0) hx hb d_Lw_password_2 (by decide) ?_
  refine lv_aload_n hx hb d_Lw_password_3 rfl (lv_at hl 0 rfl) ?_
  refine lv_iload_n hx hb d_Lw_password_4 rfl (lv_at hl 1 rfl) ?_
  refine lv_lload_n hx hb d_Lw_password_5 rfl (lv_at hl 2 rfl) ?_
  refine lv_iload hx hb d_Lw_password_6 (lv_at hl 3 rfl) ?_
  have hPc := hP.sub (ws' := [(ds, .inr (0, [.ref dr, .ref sv])), (dr, .inr (2, [.ref rr, .int (nI 20)])), (rr, .inl ((cT 0), 1000, .inl fp)), (sv, .inr (5, [.ref se, .ref pw, .ref g0, .ref ty, .ref an, .ref aw, .ref ts, .ref ss, .ref rq, .int tm, .int n3, .int n4])), (se, .inl ((cT 2), 4, .inr (.inr (.inr (.inr gs))))), (sh, .inr (1, [.ref sr, .int (nI sl)])), (sr, .inl ((cT 0), ns, .inl fs)), (g0, .inr (3, [.ref tx, .ref wo, .ref di, .int va, .int vb, .int vc, .int vd])), (tx, .inr (1, [.ref tr, .int (nI len)])), (tr, .inl ((cT 0), 1192, .inl f)), (wo, .inl ((cT 0), 16, .inl fw)), (di, .inl ((cT 0), 16, .inl fd))]) [0, 1, 2, 3, 4, 5, 6, 7, 8, 9, 10, 11] rfl
  have hDc := hD.sub (ws' := [(ds, .inr (0, [.ref dr, .ref sv])), (dr, .inr (2, [.ref rr, .int (nI 20)])), (rr, .inl ((cT 0), 1000, .inl fp)), (sv, .inr (5, [.ref se, .ref pw, .ref g0, .ref ty, .ref an, .ref aw, .ref ts, .ref ss, .ref rq, .int tm, .int n3, .int n4])), (se, .inl ((cT 2), 4, .inr (.inr (.inr (.inr gs))))), (sh, .inr (1, [.ref sr, .int (nI sl)])), (sr, .inl ((cT 0), ns, .inl fs)), (g0, .inr (3, [.ref tx, .ref wo, .ref di, .int va, .int vb, .int vc, .int vd])), (tx, .inr (1, [.ref tr, .int (nI len)])), (tr, .inl ((cT 0), 1192, .inl f)), (wo, .inl ((cT 0), 16, .inl fw)), (di, .inl ((cT 0), 16, .inl fd))]) [0, 1, 2, 3, 4, 5, 6, 7, 8, 9, 10, 11] (by decide) rfl
  have hFc := va_free (wc := [(ds, .inr (0, [.ref dr, .ref sv])), (dr, .inr (2, [.ref rr, .int (nI 20)])), (rr, .inl ((cT 0), 1000, .inl fp)), (sv, .inr (5, [.ref se, .ref pw, .ref g0, .ref ty, .ref an, .ref aw, .ref ts, .ref ss, .ref rq, .int tm, .int n3, .int n4])), (se, .inl ((cT 2), 4, .inr (.inr (.inr (.inr gs))))), (sh, .inr (1, [.ref sr, .int (nI sl)])), (sr, .inl ((cT 0), ns, .inl fs)), (g0, .inr (3, [.ref tx, .ref wo, .ref di, .int va, .int vb, .int vc, .int vd])), (tx, .inr (1, [.ref tr, .int (nI len)])), (tr, .inl ((cT 0), 1192, .inl f)), (wo, .inl ((cT 0), 16, .inl fw)), (di, .inl ((cT 0), 16, .inl fd))]) hD hS hA [0, 1, 2, 3, 4, 5, 6, 7, 8, 9, 10, 11] rfl
  refine va_calli (va_runV (C := "DoorServer") (As := [.int (nI st), .long v, .int (nI k)]) (rest := [.int 0, .ref ou]) ⟨hx, hb, hml, hown, hg⟩ (c_password l dC dI cT s.heap.size ds dr sv rr se pw ty an aw ts ss rq tm n3 n4 sh sr ns sl fs gs st g0 tx tr wo di va vb vc vd len f fw fd fp v k (hst) (hgs) (hsl) (hns) (hs40) (hk1) (hk2)) (cwV 3 hg (gI (List.forall_mem_append.mpr ⟨List.forall_mem_cons.mpr ⟨k_550, List.forall_mem_cons.mpr ⟨k_551, List.forall_mem_cons.mpr ⟨k_552, List.forall_mem_cons.mpr ⟨k_1, fun _ h => absurd h List.not_mem_nil⟩⟩⟩⟩, List.forall_mem_cons.mpr ⟨k_553, fun _ h => h⟩⟩)) rfl rfl rfl (by decide +kernel) ⟨Nat.le_of_ble_eq_true rfl, Nat.le_of_ble_eq_true rfl⟩) ⟨fun a U g mk q => by obtain ⟨q0, q1, qP, qK, qD, qE⟩ := q; exact ⟨q0, q1, qP, va_K.moved (u := U) (U := U.calling g mk a) (Vm.Alike.refl U.vm) qK, qD, qE.at (State.WarmedH.refl _) (fun _ _ _ => rfl) (fun _ h => h)⟩, va_recv (q0 := 0) (ci := 0) hK hP rfl rfl, fun U hU hW => ⟨rfl, by rw [hU], by rw [hU]; exact hPc, va_K.moved hW.alike hK, hDc.weaken (fun _ _ _ _ => trivial), by rw [hU]; exact hE.at hW hS.2.1 hFc⟩⟩ rfl rfl hl.1 rfl (lv_room (Nat.le_of_ble_eq_true rfl)) d_Lw_password_8 ⟨Nat.le_of_ble_eq_true rfl, Nat.le_of_ble_eq_true rfl⟩) hS (fun q _ h => hFc q h) hFc (fun rv9 u t H1 locs ht hvm hw hB hz1 hk1 hS => ?_)
  try dsimp only at hw hB
  obtain ⟨hP1, hK1, hD1⟩ := hB
  rw [ht] at hP1
  obtain ⟨rfl, hw⟩ := hw
  obtain ⟨hP, hD⟩ := va_join (wr := [(ou, .inl ((cT 1), 1, .inr (.inl fo)))]) (w1 := []) hP hD [0, 1, 2, 3, 4, 5, 6, 7, 8, 9, 10, 11] [12] rfl rfl (by decide) (by decide) hk1 hFc hP1 hD1
  have hw8 := hw
  clear hPc hDc hFc hz1 hk1 hP1 hK1 hD1
  generalize H1 = H at hP hS ⊢
  have hP : va_P (dC, dI) vcl [(ou, .inl ((cT 1), 1, .inr (.inl fo)))] H := hP
  have hD : va_D A [(ou, .inl ((cT 1), 1, .inr (.inl fo)))] := hD
  refine lv_i2l (v := (nI (22 + (k + 15) / 16 * 16)).toInt64) hx hb d_Lw_password_11 rfl ?_
  refine va_last hx hb hK hP hD hS 0 1 rfl rfl (i := 0) (vp_in_nI (n := 0) (N := 1) (by decide) (by decide)) d_Lw_password_12 (fun H locs hP hD hS => ?_)
  have hP : va_P (dC, dI) vcl [(ou, .inl ((cT 1), 1, .inr (.inl (vp_updL fo (0 : Int32).toNatClampNeg ((nI (22 + (k + 15) / 16 * 16)).toInt64)))))] H := hP
  have hD : va_D A [(ou, .inl ((cT 1), 1, .inr (.inl (vp_updL fo (0 : Int32).toNatClampNeg ((nI (22 + (k + 15) / 16 * 16)).toInt64)))))] := hD
  refine lv_goto (tgt := 24) hx hb d_Lw_password_13 (by decide) ?_
  refine lv_iconst (v := 0) hx hb d_Lw_password_24 (by decide) ?_
  have hP9 := hP.sub (ws' := [(ou, .inl ((cT 1), 1, .inr (.inl (vp_updL fo (0 : Int32).toNatClampNeg ((nI (22 + (k + 15) / 16 * 16)).toInt64)))))]) [0] rfl
  have hD9 := hD.sub (ws' := [(ou, .inl ((cT 1), 1, .inr (.inl (vp_updL fo (0 : Int32).toNatClampNeg ((nI (22 + (k + 15) / 16 * 16)).toInt64)))))]) [0] (by decide) rfl
  exact W.iret (v := 0) hx hb hr (fun t ht hW => ⟨⟨_, (), rfl, ⟨rfl, trivial⟩, by rw [ht]; exact hP9, va_K.moved hW.alike hK, hD9⟩, hS.F ht⟩) hS.2.2 d_Lw_password_25
set_option maxHeartbeats 4000000 in
set_option maxRecDepth 100000 in
/-- the law: hello goes -/
theorem l_hello (l : Launch) (dC : Nat → ClassId) (dI : Nat → Nat → Nat) (cT : Nat → ClassId) (sz : Nat) (ds : Nat) (dr : Nat) (sv : Nat) (rr : Nat) (f : Nat → Int32) (x : Int32) (ou : Nat) (fo : Nat → Int64) (hx1 : ¬ x < 0) (hx2 : ¬ 255 < x) : Met l y_Lw_hello (Cond.codeWith y_Lw_hello b_Lw_hello 4 (Option.some Jvm.ClassFile.FieldType.int) [((0 : Nat), (9 : Nat), (12 : Nat), (13 : Nat)), ((0 : Nat), (9 : Nat), (15 : Nat), (27 : Nat))] :: BIG) ({ frames := 4, cells := 0, slots := 0, locals := 100 }) (va_Pc [.ref ds, .int x, .ref ou] (fun U => U.heap.size = sz ∧ va_P (dC, dI) vcl [(ds, .inr (0, [.ref dr, .ref sv])), (dr, .inr (2, [.ref rr, .int (nI 20)])), (rr, .inl ((cT 0), 1000, .inl f)), (ou, .inl ((cT 1), 1, .inr (.inl fo)))] U.heap ∧ va_K (dC, dI) vcl (tyL cT) U ∧ va_D (fun _ => True) [(ds, .inr (0, [.ref dr, .ref sv])), (dr, .inr (2, [.ref rr, .int (nI 20)])), (rr, .inl ((cT 0), 1000, .inl f)), (ou, .inl ((cT 1), 1, .inr (.inl fo)))])) (va_Qi (S := Unit) (fun rv9 u => rv9 = 0 ∧ (True)) (fun u t => va_P (dC, dI) vcl [(ou, .inl ((cT 1), 1, .inr (.inl (vp_updL fo (0 : Int32).toNatClampNeg ((27 : Int32).toInt64)))))] t.heap ∧ va_K (dC, dI) vcl (tyL cT) t ∧ va_D (va_A [(ds, .inr (0, [.ref dr, .ref sv])), (dr, .inr (2, [.ref rr, .int (nI 20)])), (rr, .inl ((cT 0), 1000, .inl f)), (ou, .inl ((cT 1), 1, .inr (.inl fo)))] sz) [(ou, .inl ((cT 1), 1, .inr (.inl (vp_updL fo (0 : Int32).toNatClampNeg ((27 : Int32).toInt64)))))]) (va_A [(ds, .inr (0, [.ref dr, .ref sv])), (dr, .inr (2, [.ref rr, .int (nI 20)])), (rr, .inl ((cT 0), 1000, .inl f)), (ou, .inl ((cT 1), 1, .inr (.inl fo)))] sz)) 0 0 (va_A [(ds, .inr (0, [.ref dr, .ref sv])), (dr, .inr (2, [.ref rr, .int (nI 20)])), (rr, .inl ((cT 0), 1000, .inl f)), (ou, .inl ((cT 1), 1, .inr (.inl fo)))] sz) := by
  refine xw_Met (cc := b_Lw_hello) (maxL := 4) (ret := (Option.some Jvm.ClassFile.FieldType.int)) (hh := [((0 : Nat), (9 : Nat), (12 : Nat), (13 : Nat)), ((0 : Nat), (9 : Nat), (15 : Nat), (27 : Nat))]) (by decide) rfl ?_
  intro p e s m args below meth c s₁ B hml hv htab
  obtain ⟨hargs, hsz, hP, hK, hD0⟩ := hv
  have hx := B.exec
  have hb := B.bytes
  have hr := B.returns
  have hts := atoms_spec (ws := (Cond.codeWith y_Lw_hello b_Lw_hello 4 (Option.some Jvm.ClassFile.FieldType.int) [((0 : Nat), (9 : Nat), (12 : Nat), (13 : Nat)), ((0 : Nat), (9 : Nat), (15 : Nat), (27 : Nat))] :: BIG)) B.pre
  have hg : ∀ w ∈ BIG, w.before _ s = true := fun w h => hts w (List.mem_cons_of_mem _ h)
  have hown : s.vm.findClass "DoorServerLaw" = some m.cls := findClass_of_methodNamed B.named
  have hlocks := B.notSynchronized
  subst hsz
  have hD := hD0.self (sz := s.heap.size)
  generalize hAe : va_A [(ds, .inr (0, [.ref dr, .ref sv])), (dr, .inr (2, [.ref rr, .int (nI 20)])), (rr, .inl ((cT 0), 1000, .inl f)), (ou, .inl ((cT 1), 1, .inr (.inl fo)))] s.heap.size = A at hD ⊢
  have hA : ∀ q : Nat, s.heap.size ≤ q → A q := fun q h => by rw [← hAe]; exact Or.inr h
  have hS : va_S A s.heap s.heap [] := va_S.rf
  have hl := lv_entry ([.ref ds, .int x, .ref ou]) (n := 4) (Nat.le_of_ble_eq_true rfl)
  refine W.eq (g2 := entryFrame m (List.toArray [.ref ds, .int x, .ref ou]) 4) (by rw [hargs]) ?_
  rw [lg_entry_eq]
  generalize (lg_sl ([.ref ds, .int x, .ref ou]) ++ List.replicate (4 - (lg_sl ([.ref ds, .int x, .ref ou])).length) Slot.unset).toArray = ls at hl ⊢
  have hl : lv_has ls 4 [(0, .ref ds), (1, .int x), (2, .ref ou)] := hl
  change W p l e ({ frames := 4, cells := 0, slots := 0, locals := 100 } : Room) s m args below meth c s.heap [] 0 0 _ _
  have hP : va_P (dC, dI) vcl [(ds, .inr (0, [.ref dr, .ref sv])), (dr, .inr (2, [.ref rr, .int (nI 20)])), (rr, .inl ((cT 0), 1000, .inl f)), (ou, .inl ((cT 1), 1, .inr (.inl fo)))] s.heap := hP
  refine lv_aload_n hx hb d_Lw_hello_0 rfl (lv_at hl 2 rfl) ?_
  refine lv_iconst (v := 0) hx hb d_Lw_hello_1 (by decide) ?_
  refine lv_aload_n hx hb d_Lw_hello_2 rfl (lv_at hl 0 rfl) ?_
  refine lv_iload_n hx hb d_Lw_hello_3 rfl (lv_at hl 1 rfl) ?_
  have hPc := hP.sub (ws' := [(ds, .inr (0, [.ref dr, .ref sv])), (dr, .inr (2, [.ref rr, .int (nI 20)])), (rr, .inl ((cT 0), 1000, .inl f))]) [0, 1, 2] rfl
  have hDc := hD.sub (ws' := [(ds, .inr (0, [.ref dr, .ref sv])), (dr, .inr (2, [.ref rr, .int (nI 20)])), (rr, .inl ((cT 0), 1000, .inl f))]) [0, 1, 2] (by decide) rfl
  have hFc := va_free (wc := [(ds, .inr (0, [.ref dr, .ref sv])), (dr, .inr (2, [.ref rr, .int (nI 20)])), (rr, .inl ((cT 0), 1000, .inl f))]) hD hS hA [0, 1, 2] rfl
  refine va_calli (va_runV (C := "DoorServer") (As := [.int x]) (rest := [.int 0, .ref ou]) ⟨hx, hb, hml, hown, hg⟩ (c_hello l dC dI cT s.heap.size ds dr sv rr f x (hx1) (hx2)) (cwV 1 hg (gI (List.forall_mem_append.mpr ⟨List.forall_mem_cons.mpr ⟨k_608, List.forall_mem_cons.mpr ⟨k_609, List.forall_mem_cons.mpr ⟨k_610, List.forall_mem_cons.mpr ⟨k_1, fun _ h => absurd h List.not_mem_nil⟩⟩⟩⟩, List.forall_mem_cons.mpr ⟨k_611, fun _ h => h⟩⟩)) rfl rfl rfl (by decide +kernel) ⟨Nat.le_of_ble_eq_true rfl, Nat.le_of_ble_eq_true rfl⟩) ⟨fun a U g mk q => by obtain ⟨q0, q1, qP, qK, qD⟩ := q; exact ⟨q0, q1, qP, va_K.moved (u := U) (U := U.calling g mk a) (Vm.Alike.refl U.vm) qK, qD⟩, va_recv (q0 := 0) (ci := 0) hK hP rfl rfl, fun U hU hW => ⟨rfl, by rw [hU], by rw [hU]; exact hPc, va_K.moved hW.alike hK, hDc.weaken (fun _ _ _ _ => trivial)⟩⟩ rfl rfl hl.1 rfl (lv_room (Nat.le_of_ble_eq_true rfl)) d_Lw_hello_4 ⟨Nat.le_of_ble_eq_true rfl, Nat.le_of_ble_eq_true rfl⟩) hS (fun q _ h => hFc q h) hFc (fun rv9 u t H1 locs ht hvm hw hB hz1 hk1 hS => ?_)
  try dsimp only at hw hB
  obtain ⟨hP1, hK1, hD1⟩ := hB
  rw [ht] at hP1
  obtain ⟨rfl, hw⟩ := hw
  obtain ⟨hP, hD⟩ := va_join (wr := [(ou, .inl ((cT 1), 1, .inr (.inl fo)))]) (w1 := []) hP hD [0, 1, 2] [3] rfl rfl (by decide) (by decide) hk1 hFc hP1 hD1
  have hw9 := hw
  clear hPc hDc hFc hz1 hk1 hP1 hK1 hD1
  generalize H1 = H at hP hS ⊢
  have hP : va_P (dC, dI) vcl [(ou, .inl ((cT 1), 1, .inr (.inl fo)))] H := hP
  have hD : va_D A [(ou, .inl ((cT 1), 1, .inr (.inl fo)))] := hD
  refine lv_i2l (v := (27 : Int32).toInt64) hx hb d_Lw_hello_7 rfl ?_
  refine va_last hx hb hK hP hD hS 0 1 rfl rfl (i := 0) (vp_in_nI (n := 0) (N := 1) (by decide) (by decide)) d_Lw_hello_8 (fun H locs hP hD hS => ?_)
  have hP : va_P (dC, dI) vcl [(ou, .inl ((cT 1), 1, .inr (.inl (vp_updL fo (0 : Int32).toNatClampNeg ((27 : Int32).toInt64)))))] H := hP
  have hD : va_D A [(ou, .inl ((cT 1), 1, .inr (.inl (vp_updL fo (0 : Int32).toNatClampNeg ((27 : Int32).toInt64)))))] := hD
  refine lv_goto (tgt := 18) hx hb d_Lw_hello_9 (by decide) ?_
  refine lv_iconst (v := 0) hx hb d_Lw_hello_18 (by decide) ?_
  have hP9 := hP.sub (ws' := [(ou, .inl ((cT 1), 1, .inr (.inl (vp_updL fo (0 : Int32).toNatClampNeg ((27 : Int32).toInt64)))))]) [0] rfl
  have hD9 := hD.sub (ws' := [(ou, .inl ((cT 1), 1, .inr (.inl (vp_updL fo (0 : Int32).toNatClampNeg ((27 : Int32).toInt64)))))]) [0] (by decide) rfl
  exact W.iret (v := 0) hx hb hr (fun t ht hW => ⟨⟨_, (), rfl, ⟨rfl, trivial⟩, by rw [ht]; exact hP9, va_K.moved hW.alike hK, hD9⟩, hS.F ht⟩) hS.2.2 d_Lw_hello_19
set_option maxHeartbeats 4000000 in
set_option maxRecDepth 100000 in
/-- the law: reply goes -/
theorem l_reply (l : Launch) (dC : Nat → ClassId) (dI : Nat → Nat → Nat) (cT : Nat → ClassId) (sz : Nat) (ds : Nat) (dr : Nat) (sv : Nat) (rr : Nat) (g0 : Nat) (se : Nat) (pw : Nat) (ty : Nat) (an : Nat) (aw : Nat) (ts : Nat) (ss : Nat) (rq : Nat) (tm : Int32) (n3 : Int32) (n4 : Int32) (ar : Nat) (fa : Nat → Int32) (v : Int64) (k : Nat) (ou : Nat) (fo : Nat → Int64) (hk1 : 1 ≤ k) (hk2 : k ≤ 60) (hfa : fa 0 = 0) : Met l y_Lw_reply (Cond.codeWith y_Lw_reply b_Lw_reply 6 (Option.some Jvm.ClassFile.FieldType.int) [((0 : Nat), (11 : Nat), (14 : Nat), (13 : Nat)), ((0 : Nat), (11 : Nat), (18 : Nat), (27 : Nat))] :: BIG) ({ frames := 2, cells := 0, slots := 0, locals := 52 }) (va_Pc [.ref ds, .long v, .int (nI k), .ref ou] (fun U => U.heap.size = sz ∧ va_P (dC, dI) vcl [(ds, .inr (0, [.ref dr, .ref sv])), (sv, .inr (5, [.ref se, .ref pw, .ref g0, .ref ty, .ref an, .ref aw, .ref ts, .ref ss, .ref rq, .int tm, .int n3, .int n4])), (an, .inr (2, [.ref ar, .int 0])), (ar, .inl ((cT 0), 72, .inl fa)), (ou, .inl ((cT 1), 1, .inr (.inl fo)))] U.heap ∧ va_K (dC, dI) vcl (tyL cT) U ∧ va_D (fun _ => True) [(ds, .inr (0, [.ref dr, .ref sv])), (sv, .inr (5, [.ref se, .ref pw, .ref g0, .ref ty, .ref an, .ref aw, .ref ts, .ref ss, .ref rq, .int tm, .int n3, .int n4])), (an, .inr (2, [.ref ar, .int 0])), (ar, .inl ((cT 0), 72, .inl fa)), (ou, .inl ((cT 1), 1, .inr (.inl fo)))])) (va_Qi (S := Unit) (fun rv9 u => rv9 = 0 ∧ (True)) (fun u t => va_P (dC, dI) vcl [(ou, .inl ((cT 1), 1, .inr (.inl (vp_updL fo (0 : Int32).toNatClampNeg (((-1) : Int32).toInt64)))))] t.heap ∧ va_K (dC, dI) vcl (tyL cT) t ∧ va_D (va_A [(ds, .inr (0, [.ref dr, .ref sv])), (sv, .inr (5, [.ref se, .ref pw, .ref g0, .ref ty, .ref an, .ref aw, .ref ts, .ref ss, .ref rq, .int tm, .int n3, .int n4])), (an, .inr (2, [.ref ar, .int 0])), (ar, .inl ((cT 0), 72, .inl fa)), (ou, .inl ((cT 1), 1, .inr (.inl fo)))] sz) [(ou, .inl ((cT 1), 1, .inr (.inl (vp_updL fo (0 : Int32).toNatClampNeg (((-1) : Int32).toInt64)))))]) (va_A [(ds, .inr (0, [.ref dr, .ref sv])), (sv, .inr (5, [.ref se, .ref pw, .ref g0, .ref ty, .ref an, .ref aw, .ref ts, .ref ss, .ref rq, .int tm, .int n3, .int n4])), (an, .inr (2, [.ref ar, .int 0])), (ar, .inl ((cT 0), 72, .inl fa)), (ou, .inl ((cT 1), 1, .inr (.inl fo)))] sz)) 0 0 (va_A [(ds, .inr (0, [.ref dr, .ref sv])), (sv, .inr (5, [.ref se, .ref pw, .ref g0, .ref ty, .ref an, .ref aw, .ref ts, .ref ss, .ref rq, .int tm, .int n3, .int n4])), (an, .inr (2, [.ref ar, .int 0])), (ar, .inl ((cT 0), 72, .inl fa)), (ou, .inl ((cT 1), 1, .inr (.inl fo)))] sz) := by
  refine xw_Met (cc := b_Lw_reply) (maxL := 6) (ret := (Option.some Jvm.ClassFile.FieldType.int)) (hh := [((0 : Nat), (11 : Nat), (14 : Nat), (13 : Nat)), ((0 : Nat), (11 : Nat), (18 : Nat), (27 : Nat))]) (by decide) rfl ?_
  intro p e s m args below meth c s₁ B hml hv htab
  obtain ⟨hargs, hsz, hP, hK, hD0⟩ := hv
  have hx := B.exec
  have hb := B.bytes
  have hr := B.returns
  have hts := atoms_spec (ws := (Cond.codeWith y_Lw_reply b_Lw_reply 6 (Option.some Jvm.ClassFile.FieldType.int) [((0 : Nat), (11 : Nat), (14 : Nat), (13 : Nat)), ((0 : Nat), (11 : Nat), (18 : Nat), (27 : Nat))] :: BIG)) B.pre
  have hg : ∀ w ∈ BIG, w.before _ s = true := fun w h => hts w (List.mem_cons_of_mem _ h)
  have hown : s.vm.findClass "DoorServerLaw" = some m.cls := findClass_of_methodNamed B.named
  have hlocks := B.notSynchronized
  subst hsz
  have hD := hD0.self (sz := s.heap.size)
  generalize hAe : va_A [(ds, .inr (0, [.ref dr, .ref sv])), (sv, .inr (5, [.ref se, .ref pw, .ref g0, .ref ty, .ref an, .ref aw, .ref ts, .ref ss, .ref rq, .int tm, .int n3, .int n4])), (an, .inr (2, [.ref ar, .int 0])), (ar, .inl ((cT 0), 72, .inl fa)), (ou, .inl ((cT 1), 1, .inr (.inl fo)))] s.heap.size = A at hD ⊢
  have hA : ∀ q : Nat, s.heap.size ≤ q → A q := fun q h => by rw [← hAe]; exact Or.inr h
  have hS : va_S A s.heap s.heap [] := va_S.rf
  have hl := lv_entry ([.ref ds, .long v, .int (nI k), .ref ou]) (n := 6) (Nat.le_of_ble_eq_true rfl)
  refine W.eq (g2 := entryFrame m (List.toArray [.ref ds, .long v, .int (nI k), .ref ou]) 6) (by rw [hargs]) ?_
  rw [lg_entry_eq]
  generalize (lg_sl ([.ref ds, .long v, .int (nI k), .ref ou]) ++ List.replicate (6 - (lg_sl ([.ref ds, .long v, .int (nI k), .ref ou])).length) Slot.unset).toArray = ls at hl ⊢
  have hl : lv_has ls 6 [(0, .ref ds), (1, .long v), (3, .int (nI k)), (4, .ref ou)] := hl
  change W p l e ({ frames := 2, cells := 0, slots := 0, locals := 52 } : Room) s m args below meth c s.heap [] 0 0 _ _
  have hP : va_P (dC, dI) vcl [(ds, .inr (0, [.ref dr, .ref sv])), (sv, .inr (5, [.ref se, .ref pw, .ref g0, .ref ty, .ref an, .ref aw, .ref ts, .ref ss, .ref rq, .int tm, .int n3, .int n4])), (an, .inr (2, [.ref ar, .int 0])), (ar, .inl ((cT 0), 72, .inl fa)), (ou, .inl ((cT 1), 1, .inr (.inl fo)))] s.heap := hP
  refine lv_aload hx hb d_Lw_reply_0 (lv_at hl 3 rfl) ?_
  refine lv_iconst (v := 0) hx hb d_Lw_reply_2 (by decide) ?_
  refine lv_aload_n hx hb d_Lw_reply_3 rfl (lv_at hl 0 rfl) ?_
  refine lv_lload_n hx hb d_Lw_reply_4 rfl (lv_at hl 1 rfl) ?_
  refine lv_iload_n hx hb d_Lw_reply_5 rfl (lv_at hl 2 rfl) ?_
  have hPc := hP.sub (ws' := [(ds, .inr (0, [.ref dr, .ref sv])), (sv, .inr (5, [.ref se, .ref pw, .ref g0, .ref ty, .ref an, .ref aw, .ref ts, .ref ss, .ref rq, .int tm, .int n3, .int n4])), (an, .inr (2, [.ref ar, .int 0])), (ar, .inl ((cT 0), 72, .inl fa))]) [0, 1, 2, 3] rfl
  have hDc := hD.sub (ws' := [(ds, .inr (0, [.ref dr, .ref sv])), (sv, .inr (5, [.ref se, .ref pw, .ref g0, .ref ty, .ref an, .ref aw, .ref ts, .ref ss, .ref rq, .int tm, .int n3, .int n4])), (an, .inr (2, [.ref ar, .int 0])), (ar, .inl ((cT 0), 72, .inl fa))]) [0, 1, 2, 3] (by decide) rfl
  have hFc := va_free (wc := [(ds, .inr (0, [.ref dr, .ref sv])), (sv, .inr (5, [.ref se, .ref pw, .ref g0, .ref ty, .ref an, .ref aw, .ref ts, .ref ss, .ref rq, .int tm, .int n3, .int n4])), (an, .inr (2, [.ref ar, .int 0])), (ar, .inl ((cT 0), 72, .inl fa))]) hD hS hA [0, 1, 2, 3] rfl
  refine va_calli (va_runV (C := "DoorServer") (As := [.long v, .int (nI k)]) (rest := [.int 0, .ref ou]) ⟨hx, hb, hml, hown, hg⟩ (c_reply l dC dI cT s.heap.size ds dr sv rr g0 se pw ty an aw ts ss rq tm n3 n4 ar fa v k (hk1) (hk2) (hfa)) (cwV 2 hg (gI (List.forall_mem_append.mpr ⟨List.forall_mem_cons.mpr ⟨k_620, List.forall_mem_cons.mpr ⟨k_621, List.forall_mem_cons.mpr ⟨k_622, List.forall_mem_cons.mpr ⟨k_1, fun _ h => absurd h List.not_mem_nil⟩⟩⟩⟩, List.forall_mem_cons.mpr ⟨k_623, fun _ h => h⟩⟩)) rfl rfl rfl (by decide +kernel) ⟨Nat.le_of_ble_eq_true rfl, Nat.le_of_ble_eq_true rfl⟩) ⟨fun a U g mk q => by obtain ⟨q0, q1, qP, qK, qD⟩ := q; exact ⟨q0, q1, qP, va_K.moved (u := U) (U := U.calling g mk a) (Vm.Alike.refl U.vm) qK, qD⟩, va_recv (q0 := 0) (ci := 0) hK hP rfl rfl, fun U hU hW => ⟨rfl, by rw [hU], by rw [hU]; exact hPc, va_K.moved hW.alike hK, hDc.weaken (fun _ _ _ _ => trivial)⟩⟩ rfl rfl hl.1 rfl (lv_room (Nat.le_of_ble_eq_true rfl)) d_Lw_reply_6 ⟨Nat.le_of_ble_eq_true rfl, Nat.le_of_ble_eq_true rfl⟩) hS (fun q _ h => hFc q h) hFc (fun rv9 u t H1 locs ht hvm hw hB hz1 hk1 hS => ?_)
  try dsimp only at hw hB
  obtain ⟨hP1, hK1, hD1⟩ := hB
  rw [ht] at hP1
  obtain ⟨rfl, hw⟩ := hw
  obtain ⟨hP, hD⟩ := va_join (wr := [(ou, .inl ((cT 1), 1, .inr (.inl fo)))]) (w1 := []) hP hD [0, 1, 2, 3] [4] rfl rfl (by decide) (by decide) hk1 hFc hP1 hD1
  have hw10 := hw
  clear hPc hDc hFc hz1 hk1 hP1 hK1 hD1
  generalize H1 = H at hP hS ⊢
  have hP : va_P (dC, dI) vcl [(ou, .inl ((cT 1), 1, .inr (.inl fo)))] H := hP
  have hD : va_D A [(ou, .inl ((cT 1), 1, .inr (.inl fo)))] := hD
  refine lv_i2l (v := ((-1) : Int32).toInt64) hx hb d_Lw_reply_9 rfl ?_
  refine va_last hx hb hK hP hD hS 0 1 rfl rfl (i := 0) (vp_in_nI (n := 0) (N := 1) (by decide) (by decide)) d_Lw_reply_10 (fun H locs hP hD hS => ?_)
  have hP : va_P (dC, dI) vcl [(ou, .inl ((cT 1), 1, .inr (.inl (vp_updL fo (0 : Int32).toNatClampNeg (((-1) : Int32).toInt64)))))] H := hP
  have hD : va_D A [(ou, .inl ((cT 1), 1, .inr (.inl (vp_updL fo (0 : Int32).toNatClampNeg (((-1) : Int32).toInt64)))))] := hD
  refine lv_goto (tgt := 22) hx hb d_Lw_reply_11 (by decide) ?_
  refine lv_iconst (v := 0) hx hb d_Lw_reply_22 (by decide) ?_
  have hP9 := hP.sub (ws' := [(ou, .inl ((cT 1), 1, .inr (.inl (vp_updL fo (0 : Int32).toNatClampNeg (((-1) : Int32).toInt64)))))]) [0] rfl
  have hD9 := hD.sub (ws' := [(ou, .inl ((cT 1), 1, .inr (.inl (vp_updL fo (0 : Int32).toNatClampNeg (((-1) : Int32).toInt64)))))]) [0] (by decide) rfl
  exact W.iret (v := 0) hx hb hr (fun t ht hW => ⟨⟨_, (), rfl, ⟨rfl, trivial⟩, by rw [ht]; exact hP9, va_K.moved hW.alike hK, hD9⟩, hS.F ht⟩) hS.2.2 d_Lw_reply_23
set_option maxHeartbeats 4000000 in
set_option maxRecDepth 100000 in
/-- the law: prove goes -/
theorem l_prove (l : Launch) (dC : Nat → ClassId) (dI : Nat → Nat → Nat) (cT : Nat → ClassId) (sz : Nat) (ds : Nat) (dr : Nat) (sv : Nat) (rr : Nat) (se : Nat) (pw : Nat) (ty : Nat) (an : Nat) (aw : Nat) (ts : Nat) (ss : Nat) (rq : Nat) (tm : Int32) (n3 : Int32) (n4 : Int32) (sh : Nat) (sr : Nat) (ns : Nat) (sl : Nat) (fs : Nat → Int32) (gs : Nat → Option Nat) (st : Nat) (g0 : Nat) (tx : Nat) (tr : Nat) (wo : Nat) (di : Nat) (va : Int32) (vb : Int32) (vc : Int32) (vd : Int32) (len : Nat) (f : Nat → Int32) (fw : Nat → Int32) (fd : Nat → Int32) (fp : Nat → Int32) (ou : Nat) (fo : Nat → Int64) (hst : st < 4) (hgs : gs st = some sh) (hsl : sl ≤ ns) (hns : ns < 2 ^ 31) (hs40 : sl ≤ 64) : Met l y_Lw_prove (Cond.codeWith y_Lw_prove b_Lw_prove 4 (Option.some Jvm.ClassFile.FieldType.int) [((0 : Nat), (9 : Nat), (12 : Nat), (13 : Nat)), ((0 : Nat), (9 : Nat), (15 : Nat), (27 : Nat))] :: BIG) ({ frames := 5, cells := 0, slots := 0, locals := 160 }) (va_Pc [.ref ds, .int (nI st), .ref ou] (fun U => U.heap.size = sz ∧ va_P (dC, dI) vcl [(ds, .inr (0, [.ref dr, .ref sv])), (dr, .inr (2, [.ref rr, .int (nI 20)])), (rr, .inl ((cT 0), 1000, .inl fp)), (sv, .inr (5, [.ref se, .ref pw, .ref g0, .ref ty, .ref an, .ref aw, .ref ts, .ref ss, .ref rq, .int tm, .int n3, .int n4])), (se, .inl ((cT 2), 4, .inr (.inr (.inr (.inr gs))))), (sh, .inr (1, [.ref sr, .int (nI sl)])), (sr, .inl ((cT 0), ns, .inl fs)), (g0, .inr (3, [.ref tx, .ref wo, .ref di, .int va, .int vb, .int vc, .int vd])), (tx, .inr (1, [.ref tr, .int (nI len)])), (tr, .inl ((cT 0), 1192, .inl f)), (wo, .inl ((cT 0), 16, .inl fw)), (di, .inl ((cT 0), 16, .inl fd)), (ou, .inl ((cT 1), 1, .inr (.inl fo)))] U.heap ∧ va_K (dC, dI) vcl (tyL cT) U ∧ va_D (fun _ => True) [(ds, .inr (0, [.ref dr, .ref sv])), (dr, .inr (2, [.ref rr, .int (nI 20)])), (rr, .inl ((cT 0), 1000, .inl fp)), (sv, .inr (5, [.ref se, .ref pw, .ref g0, .ref ty, .ref an, .ref aw, .ref ts, .ref ss, .ref rq, .int tm, .int n3, .int n4])), (se, .inl ((cT 2), 4, .inr (.inr (.inr (.inr gs))))), (sh, .inr (1, [.ref sr, .int (nI sl)])), (sr, .inl ((cT 0), ns, .inl fs)), (g0, .inr (3, [.ref tx, .ref wo, .ref di, .int va, .int vb, .int vc, .int vd])), (tx, .inr (1, [.ref tr, .int (nI len)])), (tr, .inl ((cT 0), 1192, .inl f)), (wo, .inl ((cT 0), 16, .inl fw)), (di, .inl ((cT 0), 16, .inl fd)), (ou, .inl ((cT 1), 1, .inr (.inl fo)))] ∧ xm (va_A [(ds, .inr (0, [.ref dr, .ref sv])), (dr, .inr (2, [.ref rr, .int (nI 20)])), (rr, .inl ((cT 0), 1000, .inl fp)), (sv, .inr (5, [.ref se, .ref pw, .ref g0, .ref ty, .ref an, .ref aw, .ref ts, .ref ss, .ref rq, .int tm, .int n3, .int n4])), (se, .inl ((cT 2), 4, .inr (.inr (.inr (.inr gs))))), (sh, .inr (1, [.ref sr, .int (nI sl)])), (sr, .inl ((cT 0), ns, .inl fs)), (g0, .inr (3, [.ref tx, .ref wo, .ref di, .int va, .int vb, .int vc, .int vd])), (tx, .inr (1, [.ref tr, .int (nI len)])), (tr, .inl ((cT 0), 1192, .inl f)), (wo, .inl ((cT 0), 16, .inl fw)), (di, .inl ((cT 0), 16, .inl fd)), (ou, .inl ((cT 1), 1, .inr (.inl fo)))] sz) U U.heap)) (va_Qi (S := Unit) (fun rv9 u => rv9 = 0 ∧ (True)) (fun u t => va_P (dC, dI) vcl [(ou, .inl ((cT 1), 1, .inr (.inl (vp_updL fo (0 : Int32).toNatClampNeg ((38 : Int32).toInt64)))))] t.heap ∧ va_K (dC, dI) vcl (tyL cT) t ∧ va_D (va_A [(ds, .inr (0, [.ref dr, .ref sv])), (dr, .inr (2, [.ref rr, .int (nI 20)])), (rr, .inl ((cT 0), 1000, .inl fp)), (sv, .inr (5, [.ref se, .ref pw, .ref g0, .ref ty, .ref an, .ref aw, .ref ts, .ref ss, .ref rq, .int tm, .int n3, .int n4])), (se, .inl ((cT 2), 4, .inr (.inr (.inr (.inr gs))))), (sh, .inr (1, [.ref sr, .int (nI sl)])), (sr, .inl ((cT 0), ns, .inl fs)), (g0, .inr (3, [.ref tx, .ref wo, .ref di, .int va, .int vb, .int vc, .int vd])), (tx, .inr (1, [.ref tr, .int (nI len)])), (tr, .inl ((cT 0), 1192, .inl f)), (wo, .inl ((cT 0), 16, .inl fw)), (di, .inl ((cT 0), 16, .inl fd)), (ou, .inl ((cT 1), 1, .inr (.inl fo)))] sz) [(ou, .inl ((cT 1), 1, .inr (.inl (vp_updL fo (0 : Int32).toNatClampNeg ((38 : Int32).toInt64)))))]) (va_A [(ds, .inr (0, [.ref dr, .ref sv])), (dr, .inr (2, [.ref rr, .int (nI 20)])), (rr, .inl ((cT 0), 1000, .inl fp)), (sv, .inr (5, [.ref se, .ref pw, .ref g0, .ref ty, .ref an, .ref aw, .ref ts, .ref ss, .ref rq, .int tm, .int n3, .int n4])), (se, .inl ((cT 2), 4, .inr (.inr (.inr (.inr gs))))), (sh, .inr (1, [.ref sr, .int (nI sl)])), (sr, .inl ((cT 0), ns, .inl fs)), (g0, .inr (3, [.ref tx, .ref wo, .ref di, .int va, .int vb, .int vc, .int vd])), (tx, .inr (1, [.ref tr, .int (nI len)])), (tr, .inl ((cT 0), 1192, .inl f)), (wo, .inl ((cT 0), 16, .inl fw)), (di, .inl ((cT 0), 16, .inl fd)), (ou, .inl ((cT 1), 1, .inr (.inl fo)))] sz)) 0 0 (va_A [(ds, .inr (0, [.ref dr, .ref sv])), (dr, .inr (2, [.ref rr, .int (nI 20)])), (rr, .inl ((cT 0), 1000, .inl fp)), (sv, .inr (5, [.ref se, .ref pw, .ref g0, .ref ty, .ref an, .ref aw, .ref ts, .ref ss, .ref rq, .int tm, .int n3, .int n4])), (se, .inl ((cT 2), 4, .inr (.inr (.inr (.inr gs))))), (sh, .inr (1, [.ref sr, .int (nI sl)])), (sr, .inl ((cT 0), ns, .inl fs)), (g0, .inr (3, [.ref tx, .ref wo, .ref di, .int va, .int vb, .int vc, .int vd])), (tx, .inr (1, [.ref tr, .int (nI len)])), (tr, .inl ((cT 0), 1192, .inl f)), (wo, .inl ((cT 0), 16, .inl fw)), (di, .inl ((cT 0), 16, .inl fd)), (ou, .inl ((cT 1), 1, .inr (.inl fo)))] sz) := by
  refine xw_Met (cc := b_Lw_prove) (maxL := 4) (ret := (Option.some Jvm.ClassFile.FieldType.int)) (hh := [((0 : Nat), (9 : Nat), (12 : Nat), (13 : Nat)), ((0 : Nat), (9 : Nat), (15 : Nat), (27 : Nat))]) (by decide) rfl ?_
  intro p e s m args below meth c s₁ B hml hv htab
  obtain ⟨hargs, hsz, hP, hK, hD0, hE⟩ := hv
  have hx := B.exec
  have hb := B.bytes
  have hr := B.returns
  have hts := atoms_spec (ws := (Cond.codeWith y_Lw_prove b_Lw_prove 4 (Option.some Jvm.ClassFile.FieldType.int) [((0 : Nat), (9 : Nat), (12 : Nat), (13 : Nat)), ((0 : Nat), (9 : Nat), (15 : Nat), (27 : Nat))] :: BIG)) B.pre
  have hg : ∀ w ∈ BIG, w.before _ s = true := fun w h => hts w (List.mem_cons_of_mem _ h)
  have hown : s.vm.findClass "DoorServerLaw" = some m.cls := findClass_of_methodNamed B.named
  have hlocks := B.notSynchronized
  subst hsz
  have hD := hD0.self (sz := s.heap.size)
  generalize hAe : va_A [(ds, .inr (0, [.ref dr, .ref sv])), (dr, .inr (2, [.ref rr, .int (nI 20)])), (rr, .inl ((cT 0), 1000, .inl fp)), (sv, .inr (5, [.ref se, .ref pw, .ref g0, .ref ty, .ref an, .ref aw, .ref ts, .ref ss, .ref rq, .int tm, .int n3, .int n4])), (se, .inl ((cT 2), 4, .inr (.inr (.inr (.inr gs))))), (sh, .inr (1, [.ref sr, .int (nI sl)])), (sr, .inl ((cT 0), ns, .inl fs)), (g0, .inr (3, [.ref tx, .ref wo, .ref di, .int va, .int vb, .int vc, .int vd])), (tx, .inr (1, [.ref tr, .int (nI len)])), (tr, .inl ((cT 0), 1192, .inl f)), (wo, .inl ((cT 0), 16, .inl fw)), (di, .inl ((cT 0), 16, .inl fd)), (ou, .inl ((cT 1), 1, .inr (.inl fo)))] s.heap.size = A at hD hE ⊢
  have hA : ∀ q : Nat, s.heap.size ≤ q → A q := fun q h => by rw [← hAe]; exact Or.inr h
  have hS : va_S A s.heap s.heap [] := va_S.rf
  have hl := lv_entry ([.ref ds, .int (nI st), .ref ou]) (n := 4) (Nat.le_of_ble_eq_true rfl)
  refine W.eq (g2 := entryFrame m (List.toArray [.ref ds, .int (nI st), .ref ou]) 4) (by rw [hargs]) ?_
  rw [lg_entry_eq]
  generalize (lg_sl ([.ref ds, .int (nI st), .ref ou]) ++ List.replicate (4 - (lg_sl ([.ref ds, .int (nI st), .ref ou])).length) Slot.unset).toArray = ls at hl ⊢
  have hl : lv_has ls 4 [(0, .ref ds), (1, .int (nI st)), (2, .ref ou)] := hl
  change W p l e ({ frames := 5, cells := 0, slots := 0, locals := 160 } : Room) s m args below meth c s.heap [] 0 0 _ _
  have hP : va_P (dC, dI) vcl [(ds, .inr (0, [.ref dr, .ref sv])), (dr, .inr (2, [.ref rr, .int (nI 20)])), (rr, .inl ((cT 0), 1000, .inl fp)), (sv, .inr (5, [.ref se, .ref pw, .ref g0, .ref ty, .ref an, .ref aw, .ref ts, .ref ss, .ref rq, .int tm, .int n3, .int n4])), (se, .inl ((cT 2), 4, .inr (.inr (.inr (.inr gs))))), (sh, .inr (1, [.ref sr, .int (nI sl)])), (sr, .inl ((cT 0), ns, .inl fs)), (g0, .inr (3, [.ref tx, .ref wo, .ref di, .int va, .int vb, .int vc, .int vd])), (tx, .inr (1, [.ref tr, .int (nI len)])), (tr, .inl ((cT 0), 1192, .inl f)), (wo, .inl ((cT 0), 16, .inl fw)), (di, .inl ((cT 0), 16, .inl fd)), (ou, .inl ((cT 1), 1, .inr (.inl fo)))] s.heap := hP
  refine lv_aload_n hx hb d_Lw_prove_0 rfl (lv_at hl 2 rfl) ?_
  refine lv_iconst (v := 0) hx hb d_Lw_prove_1 (by decide) ?_
  refine lv_aload_n hx hb d_Lw_prove_2 rfl (lv_at hl 0 rfl) ?_
  refine lv_iload_n hx hb d_Lw_prove_3 rfl (lv_at hl 1 rfl) ?_
  have hPc := hP.sub (ws' := [(ds, .inr (0, [.ref dr, .ref sv])), (dr, .inr (2, [.ref rr, .int (nI 20)])), (rr, .inl ((cT 0), 1000, .inl fp)), (sv, .inr (5, [.ref se, .ref pw, .ref g0, .ref ty, .ref an, .ref aw, .ref ts, .ref ss, .ref rq, .int tm, .int n3, .int n4])), (se, .inl ((cT 2), 4, .inr (.inr (.inr (.inr gs))))), (sh, .inr (1, [.ref sr, .int (nI sl)])), (sr, .inl ((cT 0), ns, .inl fs)), (g0, .inr (3, [.ref tx, .ref wo, .ref di, .int va, .int vb, .int vc, .int vd])), (tx, .inr (1, [.ref tr, .int (nI len)])), (tr, .inl ((cT 0), 1192, .inl f)), (wo, .inl ((cT 0), 16, .inl fw)), (di, .inl ((cT 0), 16, .inl fd))]) [0, 1, 2, 3, 4, 5, 6, 7, 8, 9, 10, 11] rfl
  have hDc := hD.sub (ws' := [(ds, .inr (0, [.ref dr, .ref sv])), (dr, .inr (2, [.ref rr, .int (nI 20)])), (rr, .inl ((cT 0), 1000, .inl fp)), (sv, .inr (5, [.ref se, .ref pw, .ref g0, .ref ty, .ref an, .ref aw, .ref ts, .ref ss, .ref rq, .int tm, .int n3, .int n4])), (se, .inl ((cT 2), 4, .inr (.inr (.inr (.inr gs))))), (sh, .inr (1, [.ref sr, .int (nI sl)])), (sr, .inl ((cT 0), ns, .inl fs)), (g0, .inr (3, [.ref tx, .ref wo, .ref di, .int va, .int vb, .int vc, .int vd])), (tx, .inr (1, [.ref tr, .int (nI len)])), (tr, .inl ((cT 0), 1192, .inl f)), (wo, .inl ((cT 0), 16, .inl fw)), (di, .inl ((cT 0), 16, .inl fd))]) [0, 1, 2, 3, 4, 5, 6, 7, 8, 9, 10, 11] (by decide) rfl
  have hFc := va_free (wc := [(ds, .inr (0, [.ref dr, .ref sv])), (dr, .inr (2, [.ref rr, .int (nI 20)])), (rr, .inl ((cT 0), 1000, .inl fp)), (sv, .inr (5, [.ref se, .ref pw, .ref g0, .ref ty, .ref an, .ref aw, .ref ts, .ref ss, .ref rq, .int tm, .int n3, .int n4])), (se, .inl ((cT 2), 4, .inr (.inr (.inr (.inr gs))))), (sh, .inr (1, [.ref sr, .int (nI sl)])), (sr, .inl ((cT 0), ns, .inl fs)), (g0, .inr (3, [.ref tx, .ref wo, .ref di, .int va, .int vb, .int vc, .int vd])), (tx, .inr (1, [.ref tr, .int (nI len)])), (tr, .inl ((cT 0), 1192, .inl f)), (wo, .inl ((cT 0), 16, .inl fw)), (di, .inl ((cT 0), 16, .inl fd))]) hD hS hA [0, 1, 2, 3, 4, 5, 6, 7, 8, 9, 10, 11] rfl
  refine va_calli (va_runV (C := "DoorServer") (As := [.int (nI st)]) (rest := [.int 0, .ref ou]) ⟨hx, hb, hml, hown, hg⟩ (c_prove l dC dI cT s.heap.size ds dr sv rr se pw ty an aw ts ss rq tm n3 n4 sh sr ns sl fs gs st g0 tx tr wo di va vb vc vd len f fw fd fp (hst) (hgs) (hsl) (hns) (hs40)) (cwV 1 hg (gI (List.forall_mem_append.mpr ⟨List.forall_mem_cons.mpr ⟨k_636, List.forall_mem_cons.mpr ⟨k_637, List.forall_mem_cons.mpr ⟨k_638, List.forall_mem_cons.mpr ⟨k_1, fun _ h => absurd h List.not_mem_nil⟩⟩⟩⟩, List.forall_mem_cons.mpr ⟨k_639, fun _ h => h⟩⟩)) rfl rfl rfl (by decide +kernel) ⟨Nat.le_of_ble_eq_true rfl, Nat.le_of_ble_eq_true rfl⟩) ⟨fun a U g mk q => by obtain ⟨q0, q1, qP, qK, qD, qE⟩ := q; exact ⟨q0, q1, qP, va_K.moved (u := U) (U := U.calling g mk a) (Vm.Alike.refl U.vm) qK, qD, qE.at (State.WarmedH.refl _) (fun _ _ _ => rfl) (fun _ h => h)⟩, va_recv (q0 := 0) (ci := 0) hK hP rfl rfl, fun U hU hW => ⟨rfl, by rw [hU], by rw [hU]; exact hPc, va_K.moved hW.alike hK, hDc.weaken (fun _ _ _ _ => trivial), by rw [hU]; exact hE.at hW hS.2.1 hFc⟩⟩ rfl rfl hl.1 rfl (lv_room (Nat.le_of_ble_eq_true rfl)) d_Lw_prove_4 ⟨Nat.le_of_ble_eq_true rfl, Nat.le_of_ble_eq_true rfl⟩) hS (fun q _ h => hFc q h) hFc (fun rv9 u t H1 locs ht hvm hw hB hz1 hk1 hS => ?_)
  try dsimp only at hw hB
  obtain ⟨hP1, hK1, hD1⟩ := hB
  rw [ht] at hP1
  obtain ⟨rfl, hw⟩ := hw
  obtain ⟨hP, hD⟩ := va_join (wr := [(ou, .inl ((cT 1), 1, .inr (.inl fo)))]) (w1 := []) hP hD [0, 1, 2, 3, 4, 5, 6, 7, 8, 9, 10, 11] [12] rfl rfl (by decide) (by decide) hk1 hFc hP1 hD1
  have hw11 := hw
  clear hPc hDc hFc hz1 hk1 hP1 hK1 hD1
  generalize H1 = H at hP hS ⊢
  have hP : va_P (dC, dI) vcl [(ou, .inl ((cT 1), 1, .inr (.inl fo)))] H := hP
  have hD : va_D A [(ou, .inl ((cT 1), 1, .inr (.inl fo)))] := hD
  refine lv_i2l (v := (38 : Int32).toInt64) hx hb d_Lw_prove_7 rfl ?_
  refine va_last hx hb hK hP hD hS 0 1 rfl rfl (i := 0) (vp_in_nI (n := 0) (N := 1) (by decide) (by decide)) d_Lw_prove_8 (fun H locs hP hD hS => ?_)
  have hP : va_P (dC, dI) vcl [(ou, .inl ((cT 1), 1, .inr (.inl (vp_updL fo (0 : Int32).toNatClampNeg ((38 : Int32).toInt64)))))] H := hP
  have hD : va_D A [(ou, .inl ((cT 1), 1, .inr (.inl (vp_updL fo (0 : Int32).toNatClampNeg ((38 : Int32).toInt64)))))] := hD
  refine lv_goto (tgt := 18) hx hb d_Lw_prove_9 (by decide) ?_
  refine lv_iconst (v := 0) hx hb d_Lw_prove_18 (by decide) ?_
  have hP9 := hP.sub (ws' := [(ou, .inl ((cT 1), 1, .inr (.inl (vp_updL fo (0 : Int32).toNatClampNeg ((38 : Int32).toInt64)))))]) [0] rfl
  have hD9 := hD.sub (ws' := [(ou, .inl ((cT 1), 1, .inr (.inl (vp_updL fo (0 : Int32).toNatClampNeg ((38 : Int32).toInt64)))))]) [0] (by decide) rfl
  exact W.iret (v := 0) hx hb hr (fun t ht hW => ⟨⟨_, (), rfl, ⟨rfl, trivial⟩, by rw [ht]; exact hP9, va_K.moved hW.alike hK, hD9⟩, hS.F ht⟩) hS.2.2 d_Lw_prove_19
set_option maxHeartbeats 4000000 in
set_option maxRecDepth 100000 in
/-- the law: seal goes -/
theorem l_seal (l : Launch) (dC : Nat → ClassId) (dI : Nat → Nat → Nat) (cT : Nat → ClassId) (sz : Nat) (ds : Nat) (dr : Nat) (sv : Nat) (rr : Nat) (se : Nat) (pw : Nat) (ty : Nat) (an : Nat) (aw : Nat) (ts : Nat) (ss : Nat) (rq : Nat) (tm : Int32) (n3 : Int32) (n4 : Int32) (sh : Nat) (sr : Nat) (ns : Nat) (sl : Nat) (fs : Nat → Int32) (gs : Nat → Option Nat) (st : Nat) (g0 : Nat) (tx : Nat) (tr : Nat) (wo : Nat) (di : Nat) (va : Int32) (vb : Int32) (vc : Int32) (vd : Int32) (len : Nat) (f : Nat → Int32) (fw : Nat → Int32) (fd : Nat → Int32) (fp : Nat → Int32) (hst : st < 4) (hgs : gs st = some sh) (hsl : sl ≤ ns) (hns : ns < 2 ^ 31) (hs40 : sl ≤ 64) : Met l y_Lw_seal (Cond.codeWith y_Lw_seal b_Lw_seal 3 (Option.some Jvm.ClassFile.FieldType.int) [((0 : Nat), (5 : Nat), (8 : Nat), (13 : Nat))] :: BIG) ({ frames := 5, cells := 0, slots := 0, locals := 160 }) (va_Pc [.ref ds, .int (nI st)] (fun U => U.heap.size = sz ∧ va_P (dC, dI) vcl [(ds, .inr (0, [.ref dr, .ref sv])), (dr, .inr (2, [.ref rr, .int (nI 20)])), (rr, .inl ((cT 0), 1000, .inl fp)), (sv, .inr (5, [.ref se, .ref pw, .ref g0, .ref ty, .ref an, .ref aw, .ref ts, .ref ss, .ref rq, .int tm, .int n3, .int n4])), (se, .inl ((cT 2), 4, .inr (.inr (.inr (.inr gs))))), (sh, .inr (1, [.ref sr, .int (nI sl)])), (sr, .inl ((cT 0), ns, .inl fs)), (g0, .inr (3, [.ref tx, .ref wo, .ref di, .int va, .int vb, .int vc, .int vd])), (tx, .inr (1, [.ref tr, .int (nI len)])), (tr, .inl ((cT 0), 1192, .inl f)), (wo, .inl ((cT 0), 16, .inl fw)), (di, .inl ((cT 0), 16, .inl fd))] U.heap ∧ va_K (dC, dI) vcl (tyL cT) U ∧ va_D (fun _ => True) [(ds, .inr (0, [.ref dr, .ref sv])), (dr, .inr (2, [.ref rr, .int (nI 20)])), (rr, .inl ((cT 0), 1000, .inl fp)), (sv, .inr (5, [.ref se, .ref pw, .ref g0, .ref ty, .ref an, .ref aw, .ref ts, .ref ss, .ref rq, .int tm, .int n3, .int n4])), (se, .inl ((cT 2), 4, .inr (.inr (.inr (.inr gs))))), (sh, .inr (1, [.ref sr, .int (nI sl)])), (sr, .inl ((cT 0), ns, .inl fs)), (g0, .inr (3, [.ref tx, .ref wo, .ref di, .int va, .int vb, .int vc, .int vd])), (tx, .inr (1, [.ref tr, .int (nI len)])), (tr, .inl ((cT 0), 1192, .inl f)), (wo, .inl ((cT 0), 16, .inl fw)), (di, .inl ((cT 0), 16, .inl fd))] ∧ xm (va_A [(ds, .inr (0, [.ref dr, .ref sv])), (dr, .inr (2, [.ref rr, .int (nI 20)])), (rr, .inl ((cT 0), 1000, .inl fp)), (sv, .inr (5, [.ref se, .ref pw, .ref g0, .ref ty, .ref an, .ref aw, .ref ts, .ref ss, .ref rq, .int tm, .int n3, .int n4])), (se, .inl ((cT 2), 4, .inr (.inr (.inr (.inr gs))))), (sh, .inr (1, [.ref sr, .int (nI sl)])), (sr, .inl ((cT 0), ns, .inl fs)), (g0, .inr (3, [.ref tx, .ref wo, .ref di, .int va, .int vb, .int vc, .int vd])), (tx, .inr (1, [.ref tr, .int (nI len)])), (tr, .inl ((cT 0), 1192, .inl f)), (wo, .inl ((cT 0), 16, .inl fw)), (di, .inl ((cT 0), 16, .inl fd))] sz) U U.heap)) (va_Qi (S := Unit) (fun rv9 u => rv9 = 0 ∧ (True)) (fun u t => va_P (dC, dI) vcl [] t.heap ∧ va_K (dC, dI) vcl (tyL cT) t ∧ va_D (va_A [(ds, .inr (0, [.ref dr, .ref sv])), (dr, .inr (2, [.ref rr, .int (nI 20)])), (rr, .inl ((cT 0), 1000, .inl fp)), (sv, .inr (5, [.ref se, .ref pw, .ref g0, .ref ty, .ref an, .ref aw, .ref ts, .ref ss, .ref rq, .int tm, .int n3, .int n4])), (se, .inl ((cT 2), 4, .inr (.inr (.inr (.inr gs))))), (sh, .inr (1, [.ref sr, .int (nI sl)])), (sr, .inl ((cT 0), ns, .inl fs)), (g0, .inr (3, [.ref tx, .ref wo, .ref di, .int va, .int vb, .int vc, .int vd])), (tx, .inr (1, [.ref tr, .int (nI len)])), (tr, .inl ((cT 0), 1192, .inl f)), (wo, .inl ((cT 0), 16, .inl fw)), (di, .inl ((cT 0), 16, .inl fd))] sz) []) (va_A [(ds, .inr (0, [.ref dr, .ref sv])), (dr, .inr (2, [.ref rr, .int (nI 20)])), (rr, .inl ((cT 0), 1000, .inl fp)), (sv, .inr (5, [.ref se, .ref pw, .ref g0, .ref ty, .ref an, .ref aw, .ref ts, .ref ss, .ref rq, .int tm, .int n3, .int n4])), (se, .inl ((cT 2), 4, .inr (.inr (.inr (.inr gs))))), (sh, .inr (1, [.ref sr, .int (nI sl)])), (sr, .inl ((cT 0), ns, .inl fs)), (g0, .inr (3, [.ref tx, .ref wo, .ref di, .int va, .int vb, .int vc, .int vd])), (tx, .inr (1, [.ref tr, .int (nI len)])), (tr, .inl ((cT 0), 1192, .inl f)), (wo, .inl ((cT 0), 16, .inl fw)), (di, .inl ((cT 0), 16, .inl fd))] sz)) 0 0 (va_A [(ds, .inr (0, [.ref dr, .ref sv])), (dr, .inr (2, [.ref rr, .int (nI 20)])), (rr, .inl ((cT 0), 1000, .inl fp)), (sv, .inr (5, [.ref se, .ref pw, .ref g0, .ref ty, .ref an, .ref aw, .ref ts, .ref ss, .ref rq, .int tm, .int n3, .int n4])), (se, .inl ((cT 2), 4, .inr (.inr (.inr (.inr gs))))), (sh, .inr (1, [.ref sr, .int (nI sl)])), (sr, .inl ((cT 0), ns, .inl fs)), (g0, .inr (3, [.ref tx, .ref wo, .ref di, .int va, .int vb, .int vc, .int vd])), (tx, .inr (1, [.ref tr, .int (nI len)])), (tr, .inl ((cT 0), 1192, .inl f)), (wo, .inl ((cT 0), 16, .inl fw)), (di, .inl ((cT 0), 16, .inl fd))] sz) := by
  refine xw_Met (cc := b_Lw_seal) (maxL := 3) (ret := (Option.some Jvm.ClassFile.FieldType.int)) (hh := [((0 : Nat), (5 : Nat), (8 : Nat), (13 : Nat))]) (by decide) rfl ?_
  intro p e s m args below meth c s₁ B hml hv htab
  obtain ⟨hargs, hsz, hP, hK, hD0, hE⟩ := hv
  have hx := B.exec
  have hb := B.bytes
  have hr := B.returns
  have hts := atoms_spec (ws := (Cond.codeWith y_Lw_seal b_Lw_seal 3 (Option.some Jvm.ClassFile.FieldType.int) [((0 : Nat), (5 : Nat), (8 : Nat), (13 : Nat))] :: BIG)) B.pre
  have hg : ∀ w ∈ BIG, w.before _ s = true := fun w h => hts w (List.mem_cons_of_mem _ h)
  have hown : s.vm.findClass "DoorServerLaw" = some m.cls := findClass_of_methodNamed B.named
  have hlocks := B.notSynchronized
  subst hsz
  have hD := hD0.self (sz := s.heap.size)
  generalize hAe : va_A [(ds, .inr (0, [.ref dr, .ref sv])), (dr, .inr (2, [.ref rr, .int (nI 20)])), (rr, .inl ((cT 0), 1000, .inl fp)), (sv, .inr (5, [.ref se, .ref pw, .ref g0, .ref ty, .ref an, .ref aw, .ref ts, .ref ss, .ref rq, .int tm, .int n3, .int n4])), (se, .inl ((cT 2), 4, .inr (.inr (.inr (.inr gs))))), (sh, .inr (1, [.ref sr, .int (nI sl)])), (sr, .inl ((cT 0), ns, .inl fs)), (g0, .inr (3, [.ref tx, .ref wo, .ref di, .int va, .int vb, .int vc, .int vd])), (tx, .inr (1, [.ref tr, .int (nI len)])), (tr, .inl ((cT 0), 1192, .inl f)), (wo, .inl ((cT 0), 16, .inl fw)), (di, .inl ((cT 0), 16, .inl fd))] s.heap.size = A at hD hE ⊢
  have hA : ∀ q : Nat, s.heap.size ≤ q → A q := fun q h => by rw [← hAe]; exact Or.inr h
  have hS : va_S A s.heap s.heap [] := va_S.rf
  have hl := lv_entry ([.ref ds, .int (nI st)]) (n := 3) (Nat.le_of_ble_eq_true rfl)
  refine W.eq (g2 := entryFrame m (List.toArray [.ref ds, .int (nI st)]) 3) (by rw [hargs]) ?_
  rw [lg_entry_eq]
  generalize (lg_sl ([.ref ds, .int (nI st)]) ++ List.replicate (3 - (lg_sl ([.ref ds, .int (nI st)])).length) Slot.unset).toArray = ls at hl ⊢
  have hl : lv_has ls 3 [(0, .ref ds), (1, .int (nI st))] := hl
  change W p l e ({ frames := 5, cells := 0, slots := 0, locals := 160 } : Room) s m args below meth c s.heap [] 0 0 _ _
  have hP : va_P (dC, dI) vcl [(ds, .inr (0, [.ref dr, .ref sv])), (dr, .inr (2, [.ref rr, .int (nI 20)])), (rr, .inl ((cT 0), 1000, .inl fp)), (sv, .inr (5, [.ref se, .ref pw, .ref g0, .ref ty, .ref an, .ref aw, .ref ts, .ref ss, .ref rq, .int tm, .int n3, .int n4])), (se, .inl ((cT 2), 4, .inr (.inr (.inr (.inr gs))))), (sh, .inr (1, [.ref sr, .int (nI sl)])), (sr, .inl ((cT 0), ns, .inl fs)), (g0, .inr (3, [.ref tx, .ref wo, .ref di, .int va, .int vb, .int vc, .int vd])), (tx, .inr (1, [.ref tr, .int (nI len)])), (tr, .inl ((cT 0), 1192, .inl f)), (wo, .inl ((cT 0), 16, .inl fw)), (di, .inl ((cT 0), 16, .inl fd))] s.heap := hP
  refine lv_aload_n hx hb d_Lw_seal_0 rfl (lv_at hl 0 rfl) ?_
  refine lv_iload_n hx hb d_Lw_seal_1 rfl (lv_at hl 1 rfl) ?_
  have hPc := hP.sub (ws' := [(ds, .inr (0, [.ref dr, .ref sv])), (dr, .inr (2, [.ref rr, .int (nI 20)])), (rr, .inl ((cT 0), 1000, .inl fp)), (sv, .inr (5, [.ref se, .ref pw, .ref g0, .ref ty, .ref an, .ref aw, .ref ts, .ref ss, .ref rq, .int tm, .int n3, .int n4])), (se, .inl ((cT 2), 4, .inr (.inr (.inr (.inr gs))))), (sh, .inr (1, [.ref sr, .int (nI sl)])), (sr, .inl ((cT 0), ns, .inl fs)), (g0, .inr (3, [.ref tx, .ref wo, .ref di, .int va, .int vb, .int vc, .int vd])), (tx, .inr (1, [.ref tr, .int (nI len)])), (tr, .inl ((cT 0), 1192, .inl f)), (wo, .inl ((cT 0), 16, .inl fw)), (di, .inl ((cT 0), 16, .inl fd))]) [0, 1, 2, 3, 4, 5, 6, 7, 8, 9, 10, 11] rfl
  have hDc := hD.sub (ws' := [(ds, .inr (0, [.ref dr, .ref sv])), (dr, .inr (2, [.ref rr, .int (nI 20)])), (rr, .inl ((cT 0), 1000, .inl fp)), (sv, .inr (5, [.ref se, .ref pw, .ref g0, .ref ty, .ref an, .ref aw, .ref ts, .ref ss, .ref rq, .int tm, .int n3, .int n4])), (se, .inl ((cT 2), 4, .inr (.inr (.inr (.inr gs))))), (sh, .inr (1, [.ref sr, .int (nI sl)])), (sr, .inl ((cT 0), ns, .inl fs)), (g0, .inr (3, [.ref tx, .ref wo, .ref di, .int va, .int vb, .int vc, .int vd])), (tx, .inr (1, [.ref tr, .int (nI len)])), (tr, .inl ((cT 0), 1192, .inl f)), (wo, .inl ((cT 0), 16, .inl fw)), (di, .inl ((cT 0), 16, .inl fd))]) [0, 1, 2, 3, 4, 5, 6, 7, 8, 9, 10, 11] (by decide) rfl
  have hFc := va_free (wc := [(ds, .inr (0, [.ref dr, .ref sv])), (dr, .inr (2, [.ref rr, .int (nI 20)])), (rr, .inl ((cT 0), 1000, .inl fp)), (sv, .inr (5, [.ref se, .ref pw, .ref g0, .ref ty, .ref an, .ref aw, .ref ts, .ref ss, .ref rq, .int tm, .int n3, .int n4])), (se, .inl ((cT 2), 4, .inr (.inr (.inr (.inr gs))))), (sh, .inr (1, [.ref sr, .int (nI sl)])), (sr, .inl ((cT 0), ns, .inl fs)), (g0, .inr (3, [.ref tx, .ref wo, .ref di, .int va, .int vb, .int vc, .int vd])), (tx, .inr (1, [.ref tr, .int (nI len)])), (tr, .inl ((cT 0), 1192, .inl f)), (wo, .inl ((cT 0), 16, .inl fw)), (di, .inl ((cT 0), 16, .inl fd))]) hD hS hA [0, 1, 2, 3, 4, 5, 6, 7, 8, 9, 10, 11] rfl
  refine va_callv (va_runV (C := "DoorServer") (As := [.int (nI st)]) (rest := []) ⟨hx, hb, hml, hown, hg⟩ (c_seal l dC dI cT s.heap.size ds dr sv rr se pw ty an aw ts ss rq tm n3 n4 sh sr ns sl fs gs st g0 tx tr wo di va vb vc vd len f fw fd fp (hst) (hgs) (hsl) (hns) (hs40)) (cwV 1 hg (gI (List.forall_mem_append.mpr ⟨List.forall_mem_cons.mpr ⟨k_668, List.forall_mem_cons.mpr ⟨k_669, List.forall_mem_cons.mpr ⟨k_670, List.forall_mem_cons.mpr ⟨k_1, fun _ h => absurd h List.not_mem_nil⟩⟩⟩⟩, List.forall_mem_cons.mpr ⟨k_671, fun _ h => h⟩⟩)) rfl rfl rfl (by decide +kernel) ⟨Nat.le_of_ble_eq_true rfl, Nat.le_of_ble_eq_true rfl⟩) ⟨fun a U g mk q => by obtain ⟨q0, q1, qP, qK, qD, qE⟩ := q; exact ⟨q0, q1, qP, va_K.moved (u := U) (U := U.calling g mk a) (Vm.Alike.refl U.vm) qK, qD, qE.at (State.WarmedH.refl _) (fun _ _ _ => rfl) (fun _ h => h)⟩, va_recv (q0 := 0) (ci := 0) hK hP rfl rfl, fun U hU hW => ⟨rfl, by rw [hU], by rw [hU]; exact hPc, va_K.moved hW.alike hK, hDc.weaken (fun _ _ _ _ => trivial), by rw [hU]; exact hE.at hW hS.2.1 hFc⟩⟩ rfl rfl hl.1 rfl (lv_room (Nat.le_of_ble_eq_true rfl)) d_Lw_seal_2 ⟨Nat.le_of_ble_eq_true rfl, Nat.le_of_ble_eq_true rfl⟩) hS (fun q _ h => hFc q h) hFc (fun u t H1 locs ht hvm hw hB hz1 hk1 hS => ?_)
  try dsimp only at hw hB
  obtain ⟨hP1, hK1, hD1⟩ := hB
  rw [ht] at hP1
  obtain ⟨hP, hD⟩ := va_join (wr := []) (w1 := []) hP hD [0, 1, 2, 3, 4, 5, 6, 7, 8, 9, 10, 11] [] rfl rfl (by decide) (by decide) hk1 hFc hP1 hD1
  have hw12 := hw
  clear hPc hDc hFc hz1 hk1 hP1 hK1 hD1
  generalize H1 = H at hP hS ⊢
  have hP : va_P (dC, dI) vcl [] H := hP
  have hD : va_D A [] := hD
  refine lv_goto (tgt := 11) hx hb d_Lw_seal_5 (by decide) ?_
  refine lv_iconst (v := 0) hx hb d_Lw_seal_11 (by decide) ?_
  have hP9 := hP.sub (ws' := []) [] rfl
  have hD9 := hD.sub (ws' := []) [] (by decide) rfl
  exact W.iret (v := 0) hx hb hr (fun t ht hW => ⟨⟨_, (), rfl, ⟨rfl, trivial⟩, by rw [ht]; exact hP9, va_K.moved hW.alike hK, hD9⟩, hS.F ht⟩) hS.2.2 d_Lw_seal_12
set_option maxHeartbeats 4000000 in
set_option maxRecDepth 100000 in
/-- the law: spoil goes -/
theorem l_spoil (l : Launch) (dC : Nat → ClassId) (dI : Nat → Nat → Nat) (cT : Nat → ClassId) (sz : Nat) (ds : Nat) (dr : Nat) (sv : Nat) (rr : Nat) (f : Nat → Int32) (j : Nat) (x : Int32) (ou : Nat) (fo : Nat → Int64) (hj : j < 20) (hx1 : ¬ x < 0) (hx2 : ¬ 255 < x) : Met l y_Lw_spoil (Cond.codeWith y_Lw_spoil b_Lw_spoil 5 (Option.some Jvm.ClassFile.FieldType.int) [((0 : Nat), (10 : Nat), (13 : Nat), (13 : Nat))] :: BIG) ({ frames := 3, cells := 0, slots := 0, locals := 75 }) (va_Pc [.ref ds, .int (nI j), .int x, .ref ou] (fun U => U.heap.size = sz ∧ va_P (dC, dI) vcl [(ds, .inr (0, [.ref dr, .ref sv])), (dr, .inr (2, [.ref rr, .int (nI 20)])), (rr, .inl ((cT 0), 1000, .inl f)), (ou, .inl ((cT 1), 1, .inr (.inl fo)))] U.heap ∧ va_K (dC, dI) vcl (tyL cT) U ∧ va_D (fun _ => True) [(ds, .inr (0, [.ref dr, .ref sv])), (dr, .inr (2, [.ref rr, .int (nI 20)])), (rr, .inl ((cT 0), 1000, .inl f)), (ou, .inl ((cT 1), 1, .inr (.inl fo)))])) (va_Qi (S := Unit) (fun rv9 u => rv9 = 0 ∧ (True)) (fun u t => va_P (dC, dI) vcl [(ou, .inl ((cT 1), 1, .inr (.inl (vp_updL fo (0 : Int32).toNatClampNeg ((f j ^^^ x).toInt64)))))] t.heap ∧ va_K (dC, dI) vcl (tyL cT) t ∧ va_D (va_A [(ds, .inr (0, [.ref dr, .ref sv])), (dr, .inr (2, [.ref rr, .int (nI 20)])), (rr, .inl ((cT 0), 1000, .inl f)), (ou, .inl ((cT 1), 1, .inr (.inl fo)))] sz) [(ou, .inl ((cT 1), 1, .inr (.inl (vp_updL fo (0 : Int32).toNatClampNeg ((f j ^^^ x).toInt64)))))]) (va_A [(ds, .inr (0, [.ref dr, .ref sv])), (dr, .inr (2, [.ref rr, .int (nI 20)])), (rr, .inl ((cT 0), 1000, .inl f)), (ou, .inl ((cT 1), 1, .inr (.inl fo)))] sz)) 0 0 (va_A [(ds, .inr (0, [.ref dr, .ref sv])), (dr, .inr (2, [.ref rr, .int (nI 20)])), (rr, .inl ((cT 0), 1000, .inl f)), (ou, .inl ((cT 1), 1, .inr (.inl fo)))] sz) := by
  refine xw_Met (cc := b_Lw_spoil) (maxL := 5) (ret := (Option.some Jvm.ClassFile.FieldType.int)) (hh := [((0 : Nat), (10 : Nat), (13 : Nat), (13 : Nat))]) (by decide) rfl ?_
  intro p e s m args below meth c s₁ B hml hv htab
  obtain ⟨hargs, hsz, hP, hK, hD0⟩ := hv
  have hx := B.exec
  have hb := B.bytes
  have hr := B.returns
  have hts := atoms_spec (ws := (Cond.codeWith y_Lw_spoil b_Lw_spoil 5 (Option.some Jvm.ClassFile.FieldType.int) [((0 : Nat), (10 : Nat), (13 : Nat), (13 : Nat))] :: BIG)) B.pre
  have hg : ∀ w ∈ BIG, w.before _ s = true := fun w h => hts w (List.mem_cons_of_mem _ h)
  have hown : s.vm.findClass "DoorServerLaw" = some m.cls := findClass_of_methodNamed B.named
  have hlocks := B.notSynchronized
  subst hsz
  have hD := hD0.self (sz := s.heap.size)
  generalize hAe : va_A [(ds, .inr (0, [.ref dr, .ref sv])), (dr, .inr (2, [.ref rr, .int (nI 20)])), (rr, .inl ((cT 0), 1000, .inl f)), (ou, .inl ((cT 1), 1, .inr (.inl fo)))] s.heap.size = A at hD ⊢
  have hA : ∀ q : Nat, s.heap.size ≤ q → A q := fun q h => by rw [← hAe]; exact Or.inr h
  have hS : va_S A s.heap s.heap [] := va_S.rf
  have hl := lv_entry ([.ref ds, .int (nI j), .int x, .ref ou]) (n := 5) (Nat.le_of_ble_eq_true rfl)
  refine W.eq (g2 := entryFrame m (List.toArray [.ref ds, .int (nI j), .int x, .ref ou]) 5) (by rw [hargs]) ?_
  rw [lg_entry_eq]
  generalize (lg_sl ([.ref ds, .int (nI j), .int x, .ref ou]) ++ List.replicate (5 - (lg_sl ([.ref ds, .int (nI j), .int x, .ref ou])).length) Slot.unset).toArray = ls at hl ⊢
  have hl : lv_has ls 5 [(0, .ref ds), (1, .int (nI j)), (2, .int x), (3, .ref ou)] := hl
  change W p l e ({ frames := 3, cells := 0, slots := 0, locals := 75 } : Room) s m args below meth c s.heap [] 0 0 _ _
  have hP : va_P (dC, dI) vcl [(ds, .inr (0, [.ref dr, .ref sv])), (dr, .inr (2, [.ref rr, .int (nI 20)])), (rr, .inl ((cT 0), 1000, .inl f)), (ou, .inl ((cT 1), 1, .inr (.inl fo)))] s.heap := hP
  refine lv_aload_n hx hb d_Lw_spoil_0 rfl (lv_at hl 3 rfl) ?_
  refine lv_iconst (v := 0) hx hb d_Lw_spoil_1 (by decide) ?_
  refine lv_aload_n hx hb d_Lw_spoil_2 rfl (lv_at hl 0 rfl) ?_
  refine lv_iload_n hx hb d_Lw_spoil_3 rfl (lv_at hl 1 rfl) ?_
  refine lv_iload_n hx hb d_Lw_spoil_4 rfl (lv_at hl 2 rfl) ?_
  have hPc := hP.sub (ws' := [(ds, .inr (0, [.ref dr, .ref sv])), (dr, .inr (2, [.ref rr, .int (nI 20)])), (rr, .inl ((cT 0), 1000, .inl f))]) [0, 1, 2] rfl
  have hDc := hD.sub (ws' := [(ds, .inr (0, [.ref dr, .ref sv])), (dr, .inr (2, [.ref rr, .int (nI 20)])), (rr, .inl ((cT 0), 1000, .inl f))]) [0, 1, 2] (by decide) rfl
  have hFc := va_free (wc := [(ds, .inr (0, [.ref dr, .ref sv])), (dr, .inr (2, [.ref rr, .int (nI 20)])), (rr, .inl ((cT 0), 1000, .inl f))]) hD hS hA [0, 1, 2] rfl
  refine va_calli (va_runV (C := "DoorServer") (As := [.int (nI j), .int x]) (rest := [.int 0, .ref ou]) ⟨hx, hb, hml, hown, hg⟩ (c_spoil l dC dI cT s.heap.size ds dr sv rr f j x (hj) (hx1) (hx2)) (cwV 2 hg (gI (List.forall_mem_append.mpr ⟨List.forall_mem_cons.mpr ⟨k_679, List.forall_mem_cons.mpr ⟨k_680, List.forall_mem_cons.mpr ⟨k_681, List.forall_mem_cons.mpr ⟨k_1, fun _ h => absurd h List.not_mem_nil⟩⟩⟩⟩, List.forall_mem_cons.mpr ⟨k_682, fun _ h => h⟩⟩)) rfl rfl rfl (by decide +kernel) ⟨Nat.le_of_ble_eq_true rfl, Nat.le_of_ble_eq_true rfl⟩) ⟨fun a U g mk q => by obtain ⟨q0, q1, qP, qK, qD⟩ := q; exact ⟨q0, q1, qP, va_K.moved (u := U) (U := U.calling g mk a) (Vm.Alike.refl U.vm) qK, qD⟩, va_recv (q0 := 0) (ci := 0) hK hP rfl rfl, fun U hU hW => ⟨rfl, by rw [hU], by rw [hU]; exact hPc, va_K.moved hW.alike hK, hDc.weaken (fun _ _ _ _ => trivial)⟩⟩ rfl rfl hl.1 rfl (lv_room (Nat.le_of_ble_eq_true rfl)) d_Lw_spoil_5 ⟨Nat.le_of_ble_eq_true rfl, Nat.le_of_ble_eq_true rfl⟩) hS (fun q _ h => hFc q h) hFc (fun rv9 u t H1 locs ht hvm hw hB hz1 hk1 hS => ?_)
  try dsimp only at hw hB
  obtain ⟨hP1, hK1, hD1⟩ := hB
  rw [ht] at hP1
  obtain ⟨rfl, hw⟩ := hw
  obtain ⟨hP, hD⟩ := va_join (wr := [(ou, .inl ((cT 1), 1, .inr (.inl fo)))]) (w1 := []) hP hD [0, 1, 2] [3] rfl rfl (by decide) (by decide) hk1 hFc hP1 hD1
  have hw13 := hw
  clear hPc hDc hFc hz1 hk1 hP1 hK1 hD1
  generalize H1 = H at hP hS ⊢
  have hP : va_P (dC, dI) vcl [(ou, .inl ((cT 1), 1, .inr (.inl fo)))] H := hP
  have hD : va_D A [(ou, .inl ((cT 1), 1, .inr (.inl fo)))] := hD
  refine lv_i2l (v := (f j ^^^ x).toInt64) hx hb d_Lw_spoil_8 rfl ?_
  refine va_last hx hb hK hP hD hS 0 1 rfl rfl (i := 0) (vp_in_nI (n := 0) (N := 1) (by decide) (by decide)) d_Lw_spoil_9 (fun H locs hP hD hS => ?_)
  have hP : va_P (dC, dI) vcl [(ou, .inl ((cT 1), 1, .inr (.inl (vp_updL fo (0 : Int32).toNatClampNeg ((f j ^^^ x).toInt64)))))] H := hP
  have hD : va_D A [(ou, .inl ((cT 1), 1, .inr (.inl (vp_updL fo (0 : Int32).toNatClampNeg ((f j ^^^ x).toInt64)))))] := hD
  refine lv_goto (tgt := 17) hx hb d_Lw_spoil_10 (by decide) ?_
  refine lv_iconst (v := 0) hx hb d_Lw_spoil_17 (by decide) ?_
  have hP9 := hP.sub (ws' := [(ou, .inl ((cT 1), 1, .inr (.inl (vp_updL fo (0 : Int32).toNatClampNeg ((f j ^^^ x).toInt64)))))]) [0] rfl
  have hD9 := hD.sub (ws' := [(ou, .inl ((cT 1), 1, .inr (.inl (vp_updL fo (0 : Int32).toNatClampNeg ((f j ^^^ x).toInt64)))))]) [0] (by decide) rfl
  exact W.iret (v := 0) hx hb hr (fun t ht hW => ⟨⟨_, (), rfl, ⟨rfl, trivial⟩, by rw [ht]; exact hP9, va_K.moved hW.alike hK, hD9⟩, hS.F ht⟩) hS.2.2 d_Lw_spoil_18
set_option maxHeartbeats 4000000 in
set_option maxRecDepth 100000 in
/-- the law: send goes -/
theorem l_send (l : Launch) (dC : Nat → ClassId) (dI : Nat → Nat → Nat) (cT : Nat → ClassId) (sz : Nat) (ds : Nat) (sv : Nat) (g0 : Nat) (se : Nat) (pw : Nat) (ty : Nat) (an : Nat) (aw : Nat) (ts : Nat) (ss : Nat) (rq : Nat) (tm : Int32) (n3 : Int32) (n4 : Int32) (dr : Nat) (rr : Nat) (sa : Nat) (f : Nat → Int32) (ga : Nat → Int32) (st : Nat) (ou : Nat) (fo : Nat → Int64) (h0 : f 0 = 1) (h2 : f 2 = 0) (h3 : f 3 = 20) (hst : st < 4) : Met l y_Lw_send (Cond.codeWith y_Lw_send b_Lw_send 4 (Option.some Jvm.ClassFile.FieldType.int) [((0 : Nat), (9 : Nat), (12 : Nat), (13 : Nat))] :: BIG) ({ frames := 4, cells := 0, slots := 0, locals := 100 }) (va_Pc [.ref ds, .int (nI st), .ref ou] (fun U => U.heap.size = sz ∧ va_P (dC, dI) vcl [(ds, .inr (0, [.ref dr, .ref sv])), (sv, .inr (5, [.ref se, .ref pw, .ref g0, .ref ty, .ref an, .ref aw, .ref ts, .ref ss, .ref rq, .int tm, .int n3, .int n4])), (rq, .inr (4, [.ref dr, .ref sa])), (sa, .inl ((cT 0), 256, .inl ga)), (dr, .inr (2, [.ref rr, .int (nI 20)])), (rr, .inl ((cT 0), 1000, .inl f)), (ou, .inl ((cT 1), 1, .inr (.inl fo)))] U.heap ∧ va_K (dC, dI) vcl (tyL cT) U ∧ va_D (fun _ => True) [(ds, .inr (0, [.ref dr, .ref sv])), (sv, .inr (5, [.ref se, .ref pw, .ref g0, .ref ty, .ref an, .ref aw, .ref ts, .ref ss, .ref rq, .int tm, .int n3, .int n4])), (rq, .inr (4, [.ref dr, .ref sa])), (sa, .inl ((cT 0), 256, .inl ga)), (dr, .inr (2, [.ref rr, .int (nI 20)])), (rr, .inl ((cT 0), 1000, .inl f)), (ou, .inl ((cT 1), 1, .inr (.inl fo)))])) (va_Qi (S := Unit) (fun rv9 u => rv9 = 0 ∧ (True)) (fun u t => va_P (dC, dI) vcl [(ou, .inl ((cT 1), 1, .inr (.inl (vp_updL fo (0 : Int32).toNatClampNeg (((-4) : Int32).toInt64)))))] t.heap ∧ va_K (dC, dI) vcl (tyL cT) t ∧ va_D (va_A [(ds, .inr (0, [.ref dr, .ref sv])), (sv, .inr (5, [.ref se, .ref pw, .ref g0, .ref ty, .ref an, .ref aw, .ref ts, .ref ss, .ref rq, .int tm, .int n3, .int n4])), (rq, .inr (4, [.ref dr, .ref sa])), (sa, .inl ((cT 0), 256, .inl ga)), (dr, .inr (2, [.ref rr, .int (nI 20)])), (rr, .inl ((cT 0), 1000, .inl f)), (ou, .inl ((cT 1), 1, .inr (.inl fo)))] sz) [(ou, .inl ((cT 1), 1, .inr (.inl (vp_updL fo (0 : Int32).toNatClampNeg (((-4) : Int32).toInt64)))))]) (va_A [(ds, .inr (0, [.ref dr, .ref sv])), (sv, .inr (5, [.ref se, .ref pw, .ref g0, .ref ty, .ref an, .ref aw, .ref ts, .ref ss, .ref rq, .int tm, .int n3, .int n4])), (rq, .inr (4, [.ref dr, .ref sa])), (sa, .inl ((cT 0), 256, .inl ga)), (dr, .inr (2, [.ref rr, .int (nI 20)])), (rr, .inl ((cT 0), 1000, .inl f)), (ou, .inl ((cT 1), 1, .inr (.inl fo)))] sz)) 0 0 (va_A [(ds, .inr (0, [.ref dr, .ref sv])), (sv, .inr (5, [.ref se, .ref pw, .ref g0, .ref ty, .ref an, .ref aw, .ref ts, .ref ss, .ref rq, .int tm, .int n3, .int n4])), (rq, .inr (4, [.ref dr, .ref sa])), (sa, .inl ((cT 0), 256, .inl ga)), (dr, .inr (2, [.ref rr, .int (nI 20)])), (rr, .inl ((cT 0), 1000, .inl f)), (ou, .inl ((cT 1), 1, .inr (.inl fo)))] sz) := by
  refine xw_Met (cc := b_Lw_send) (maxL := 4) (ret := (Option.some Jvm.ClassFile.FieldType.int)) (hh := [((0 : Nat), (9 : Nat), (12 : Nat), (13 : Nat))]) (by decide) rfl ?_
  intro p e s m args below meth c s₁ B hml hv htab
  obtain ⟨hargs, hsz, hP, hK, hD0⟩ := hv
  have hx := B.exec
  have hb := B.bytes
  have hr := B.returns
  have hts := atoms_spec (ws := (Cond.codeWith y_Lw_send b_Lw_send 4 (Option.some Jvm.ClassFile.FieldType.int) [((0 : Nat), (9 : Nat), (12 : Nat), (13 : Nat))] :: BIG)) B.pre
  have hg : ∀ w ∈ BIG, w.before _ s = true := fun w h => hts w (List.mem_cons_of_mem _ h)
  have hown : s.vm.findClass "DoorServerLaw" = some m.cls := findClass_of_methodNamed B.named
  have hlocks := B.notSynchronized
  subst hsz
  have hD := hD0.self (sz := s.heap.size)
  generalize hAe : va_A [(ds, .inr (0, [.ref dr, .ref sv])), (sv, .inr (5, [.ref se, .ref pw, .ref g0, .ref ty, .ref an, .ref aw, .ref ts, .ref ss, .ref rq, .int tm, .int n3, .int n4])), (rq, .inr (4, [.ref dr, .ref sa])), (sa, .inl ((cT 0), 256, .inl ga)), (dr, .inr (2, [.ref rr, .int (nI 20)])), (rr, .inl ((cT 0), 1000, .inl f)), (ou, .inl ((cT 1), 1, .inr (.inl fo)))] s.heap.size = A at hD ⊢
  have hA : ∀ q : Nat, s.heap.size ≤ q → A q := fun q h => by rw [← hAe]; exact Or.inr h
  have hS : va_S A s.heap s.heap [] := va_S.rf
  have hl := lv_entry ([.ref ds, .int (nI st), .ref ou]) (n := 4) (Nat.le_of_ble_eq_true rfl)
  refine W.eq (g2 := entryFrame m (List.toArray [.ref ds, .int (nI st), .ref ou]) 4) (by rw [hargs]) ?_
  rw [lg_entry_eq]
  generalize (lg_sl ([.ref ds, .int (nI st), .ref ou]) ++ List.replicate (4 - (lg_sl ([.ref ds, .int (nI st), .ref ou])).length) Slot.unset).toArray = ls at hl ⊢
  have hl : lv_has ls 4 [(0, .ref ds), (1, .int (nI st)), (2, .ref ou)] := hl
  change W p l e ({ frames := 4, cells := 0, slots := 0, locals := 100 } : Room) s m args below meth c s.heap [] 0 0 _ _
  have hP : va_P (dC, dI) vcl [(ds, .inr (0, [.ref dr, .ref sv])), (sv, .inr (5, [.ref se, .ref pw, .ref g0, .ref ty, .ref an, .ref aw, .ref ts, .ref ss, .ref rq, .int tm, .int n3, .int n4])), (rq, .inr (4, [.ref dr, .ref sa])), (sa, .inl ((cT 0), 256, .inl ga)), (dr, .inr (2, [.ref rr, .int (nI 20)])), (rr, .inl ((cT 0), 1000, .inl f)), (ou, .inl ((cT 1), 1, .inr (.inl fo)))] s.heap := hP
  refine lv_aload_n hx hb d_Lw_send_0 rfl (lv_at hl 2 rfl) ?_
  refine lv_iconst (v := 0) hx hb d_Lw_send_1 (by decide) ?_
  refine lv_aload_n hx hb d_Lw_send_2 rfl (lv_at hl 0 rfl) ?_
  refine lv_iload_n hx hb d_Lw_send_3 rfl (lv_at hl 1 rfl) ?_
  have hPc := hP.sub (ws' := [(ds, .inr (0, [.ref dr, .ref sv])), (sv, .inr (5, [.ref se, .ref pw, .ref g0, .ref ty, .ref an, .ref aw, .ref ts, .ref ss, .ref rq, .int tm, .int n3, .int n4])), (rq, .inr (4, [.ref dr, .ref sa])), (sa, .inl ((cT 0), 256, .inl ga)), (dr, .inr (2, [.ref rr, .int (nI 20)])), (rr, .inl ((cT 0), 1000, .inl f))]) [0, 1, 2, 3, 4, 5] rfl
  have hDc := hD.sub (ws' := [(ds, .inr (0, [.ref dr, .ref sv])), (sv, .inr (5, [.ref se, .ref pw, .ref g0, .ref ty, .ref an, .ref aw, .ref ts, .ref ss, .ref rq, .int tm, .int n3, .int n4])), (rq, .inr (4, [.ref dr, .ref sa])), (sa, .inl ((cT 0), 256, .inl ga)), (dr, .inr (2, [.ref rr, .int (nI 20)])), (rr, .inl ((cT 0), 1000, .inl f))]) [0, 1, 2, 3, 4, 5] (by decide) rfl
  have hFc := va_free (wc := [(ds, .inr (0, [.ref dr, .ref sv])), (sv, .inr (5, [.ref se, .ref pw, .ref g0, .ref ty, .ref an, .ref aw, .ref ts, .ref ss, .ref rq, .int tm, .int n3, .int n4])), (rq, .inr (4, [.ref dr, .ref sa])), (sa, .inl ((cT 0), 256, .inl ga)), (dr, .inr (2, [.ref rr, .int (nI 20)])), (rr, .inl ((cT 0), 1000, .inl f))]) hD hS hA [0, 1, 2, 3, 4, 5] rfl
  refine va_calli (va_runV (C := "DoorServer") (As := [.int (nI st)]) (rest := [.int 0, .ref ou]) ⟨hx, hb, hml, hown, hg⟩ (c_send l dC dI cT s.heap.size ds sv g0 se pw ty an aw ts ss rq tm n3 n4 dr rr sa f ga st (h0) (h2) (h3) (hst)) (cwV 1 hg (gI (List.forall_mem_append.mpr ⟨List.forall_mem_cons.mpr ⟨k_686, List.forall_mem_cons.mpr ⟨k_687, List.forall_mem_cons.mpr ⟨k_688, List.forall_mem_cons.mpr ⟨k_1, fun _ h => absurd h List.not_mem_nil⟩⟩⟩⟩, List.forall_mem_cons.mpr ⟨k_689, fun _ h => h⟩⟩)) rfl rfl rfl (by decide +kernel) ⟨Nat.le_of_ble_eq_true rfl, Nat.le_of_ble_eq_true rfl⟩) ⟨fun a U g mk q => by obtain ⟨q0, q1, qP, qK, qD⟩ := q; exact ⟨q0, q1, qP, va_K.moved (u := U) (U := U.calling g mk a) (Vm.Alike.refl U.vm) qK, qD⟩, va_recv (q0 := 0) (ci := 0) hK hP rfl rfl, fun U hU hW => ⟨rfl, by rw [hU], by rw [hU]; exact hPc, va_K.moved hW.alike hK, hDc.weaken (fun _ _ _ _ => trivial)⟩⟩ rfl rfl hl.1 rfl (lv_room (Nat.le_of_ble_eq_true rfl)) d_Lw_send_4 ⟨Nat.le_of_ble_eq_true rfl, Nat.le_of_ble_eq_true rfl⟩) hS (fun q _ h => hFc q h) hFc (fun rv9 u t H1 locs ht hvm hw hB hz1 hk1 hS => ?_)
  try dsimp only at hw hB
  obtain ⟨hP1, hK1, hD1⟩ := hB
  rw [ht] at hP1
  obtain ⟨rfl, hw⟩ := hw
  obtain ⟨hP, hD⟩ := va_join (wr := [(ou, .inl ((cT 1), 1, .inr (.inl fo)))]) (w1 := []) hP hD [0, 1, 2, 3, 4, 5] [6] rfl rfl (by decide) (by decide) hk1 hFc hP1 hD1
  have hw14 := hw
  clear hPc hDc hFc hz1 hk1 hP1 hK1 hD1
  generalize H1 = H at hP hS ⊢
  have hP : va_P (dC, dI) vcl [(ou, .inl ((cT 1), 1, .inr (.inl fo)))] H := hP
  have hD : va_D A [(ou, .inl ((cT 1), 1, .inr (.inl fo)))] := hD
  refine lv_i2l (v := ((-4) : Int32).toInt64) hx hb d_Lw_send_7 rfl ?_
  refine va_last hx hb hK hP hD hS 0 1 rfl rfl (i := 0) (vp_in_nI (n := 0) (N := 1) (by decide) (by decide)) d_Lw_send_8 (fun H locs hP hD hS => ?_)
  have hP : va_P (dC, dI) vcl [(ou, .inl ((cT 1), 1, .inr (.inl (vp_updL fo (0 : Int32).toNatClampNeg (((-4) : Int32).toInt64)))))] H := hP
  have hD : va_D A [(ou, .inl ((cT 1), 1, .inr (.inl (vp_updL fo (0 : Int32).toNatClampNeg (((-4) : Int32).toInt64)))))] := hD
  refine lv_goto (tgt := 15) hx hb d_Lw_send_9 (by decide) ?_
  refine lv_iconst (v := 0) hx hb d_Lw_send_15 (by decide) ?_
  have hP9 := hP.sub (ws' := [(ou, .inl ((cT 1), 1, .inr (.inl (vp_updL fo (0 : Int32).toNatClampNeg (((-4) : Int32).toInt64)))))]) [0] rfl
  have hD9 := hD.sub (ws' := [(ou, .inl ((cT 1), 1, .inr (.inl (vp_updL fo (0 : Int32).toNatClampNeg (((-4) : Int32).toInt64)))))]) [0] (by decide) rfl
  exact W.iret (v := 0) hx hb hr (fun t ht hW => ⟨⟨_, (), rfl, ⟨rfl, trivial⟩, by rw [ht]; exact hP9, va_K.moved hW.alike hK, hD9⟩, hS.F ht⟩) hS.2.2 d_Lw_send_16
set_option maxHeartbeats 4000000 in
set_option maxRecDepth 100000 in
/-- the law: ticks goes -/
theorem l_ticks (l : Launch) (dC : Nat → ClassId) (dI : Nat → Nat → Nat) (cT : Nat → ClassId) (sz : Nat) (ds : Nat) (dr : Nat) (sv : Nat) (rr : Nat) (g0 : Nat) (se : Nat) (pw : Nat) (ty : Nat) (an : Nat) (aw : Nat) (ts : Nat) (ss : Nat) (rq : Nat) (n3 : Int32) (n4 : Int32) (k : Nat) (ou : Nat) (fo : Nat → Int64) (hk1 : 1 ≤ k) (hk2 : k ≤ 1000) : Met l y_Lw_ticks (Cond.codeWith y_Lw_ticks b_Lw_ticks 4 (Option.some Jvm.ClassFile.FieldType.int) [((0 : Nat), (9 : Nat), (12 : Nat), (13 : Nat))] :: BIG) ({ frames := 2, cells := 0, slots := 0, locals := 52 }) (va_Pc [.ref ds, .int (nI k), .ref ou] (fun U => U.heap.size = sz ∧ va_P (dC, dI) vcl [(ds, .inr (0, [.ref dr, .ref sv])), (sv, .inr (5, [.ref se, .ref pw, .ref g0, .ref ty, .ref an, .ref aw, .ref ts, .ref ss, .ref rq, .int 0, .int n3, .int n4])), (ou, .inl ((cT 1), 1, .inr (.inl fo)))] U.heap ∧ va_K (dC, dI) vcl (tyL cT) U ∧ va_D (fun _ => True) [(ds, .inr (0, [.ref dr, .ref sv])), (sv, .inr (5, [.ref se, .ref pw, .ref g0, .ref ty, .ref an, .ref aw, .ref ts, .ref ss, .ref rq, .int 0, .int n3, .int n4])), (ou, .inl ((cT 1), 1, .inr (.inl fo)))])) (va_Qi (S := Unit) (fun rv9 u => rv9 = 0 ∧ (True)) (fun u t => va_P (dC, dI) vcl [(ou, .inl ((cT 1), 1, .inr (.inl (vp_updL fo (0 : Int32).toNatClampNeg ((nI k).toInt64)))))] t.heap ∧ va_K (dC, dI) vcl (tyL cT) t ∧ va_D (va_A [(ds, .inr (0, [.ref dr, .ref sv])), (sv, .inr (5, [.ref se, .ref pw, .ref g0, .ref ty, .ref an, .ref aw, .ref ts, .ref ss, .ref rq, .int 0, .int n3, .int n4])), (ou, .inl ((cT 1), 1, .inr (.inl fo)))] sz) [(ou, .inl ((cT 1), 1, .inr (.inl (vp_updL fo (0 : Int32).toNatClampNeg ((nI k).toInt64)))))]) (va_A [(ds, .inr (0, [.ref dr, .ref sv])), (sv, .inr (5, [.ref se, .ref pw, .ref g0, .ref ty, .ref an, .ref aw, .ref ts, .ref ss, .ref rq, .int 0, .int n3, .int n4])), (ou, .inl ((cT 1), 1, .inr (.inl fo)))] sz)) 0 0 (va_A [(ds, .inr (0, [.ref dr, .ref sv])), (sv, .inr (5, [.ref se, .ref pw, .ref g0, .ref ty, .ref an, .ref aw, .ref ts, .ref ss, .ref rq, .int 0, .int n3, .int n4])), (ou, .inl ((cT 1), 1, .inr (.inl fo)))] sz) := by
  refine xw_Met (cc := b_Lw_ticks) (maxL := 4) (ret := (Option.some Jvm.ClassFile.FieldType.int)) (hh := [((0 : Nat), (9 : Nat), (12 : Nat), (13 : Nat))]) (by decide) rfl ?_
  intro p e s m args below meth c s₁ B hml hv htab
  obtain ⟨hargs, hsz, hP, hK, hD0⟩ := hv
  have hx := B.exec
  have hb := B.bytes
  have hr := B.returns
  have hts := atoms_spec (ws := (Cond.codeWith y_Lw_ticks b_Lw_ticks 4 (Option.some Jvm.ClassFile.FieldType.int) [((0 : Nat), (9 : Nat), (12 : Nat), (13 : Nat))] :: BIG)) B.pre
  have hg : ∀ w ∈ BIG, w.before _ s = true := fun w h => hts w (List.mem_cons_of_mem _ h)
  have hown : s.vm.findClass "DoorServerLaw" = some m.cls := findClass_of_methodNamed B.named
  have hlocks := B.notSynchronized
  subst hsz
  have hD := hD0.self (sz := s.heap.size)
  generalize hAe : va_A [(ds, .inr (0, [.ref dr, .ref sv])), (sv, .inr (5, [.ref se, .ref pw, .ref g0, .ref ty, .ref an, .ref aw, .ref ts, .ref ss, .ref rq, .int 0, .int n3, .int n4])), (ou, .inl ((cT 1), 1, .inr (.inl fo)))] s.heap.size = A at hD ⊢
  have hA : ∀ q : Nat, s.heap.size ≤ q → A q := fun q h => by rw [← hAe]; exact Or.inr h
  have hS : va_S A s.heap s.heap [] := va_S.rf
  have hl := lv_entry ([.ref ds, .int (nI k), .ref ou]) (n := 4) (Nat.le_of_ble_eq_true rfl)
  refine W.eq (g2 := entryFrame m (List.toArray [.ref ds, .int (nI k), .ref ou]) 4) (by rw [hargs]) ?_
  rw [lg_entry_eq]
  generalize (lg_sl ([.ref ds, .int (nI k), .ref ou]) ++ List.replicate (4 - (lg_sl ([.ref ds, .int (nI k), .ref ou])).length) Slot.unset).toArray = ls at hl ⊢
  have hl : lv_has ls 4 [(0, .ref ds), (1, .int (nI k)), (2, .ref ou)] := hl
  change W p l e ({ frames := 2, cells := 0, slots := 0, locals := 52 } : Room) s m args below meth c s.heap [] 0 0 _ _
  have hP : va_P (dC, dI) vcl [(ds, .inr (0, [.ref dr, .ref sv])), (sv, .inr (5, [.ref se, .ref pw, .ref g0, .ref ty, .ref an, .ref aw, .ref ts, .ref ss, .ref rq, .int 0, .int n3, .int n4])), (ou, .inl ((cT 1), 1, .inr (.inl fo)))] s.heap := hP
  refine lv_aload_n hx hb d_Lw_ticks_0 rfl (lv_at hl 2 rfl) ?_
  refine lv_iconst (v := 0) hx hb d_Lw_ticks_1 (by decide) ?_
  refine lv_aload_n hx hb d_Lw_ticks_2 rfl (lv_at hl 0 rfl) ?_
  refine lv_iload_n hx hb d_Lw_ticks_3 rfl (lv_at hl 1 rfl) ?_
  have hPc := hP.sub (ws' := [(ds, .inr (0, [.ref dr, .ref sv])), (sv, .inr (5, [.ref se, .ref pw, .ref g0, .ref ty, .ref an, .ref aw, .ref ts, .ref ss, .ref rq, .int 0, .int n3, .int n4]))]) [0, 1] rfl
  have hDc := hD.sub (ws' := [(ds, .inr (0, [.ref dr, .ref sv])), (sv, .inr (5, [.ref se, .ref pw, .ref g0, .ref ty, .ref an, .ref aw, .ref ts, .ref ss, .ref rq, .int 0, .int n3, .int n4]))]) [0, 1] (by decide) rfl
  have hFc := va_free (wc := [(ds, .inr (0, [.ref dr, .ref sv])), (sv, .inr (5, [.ref se, .ref pw, .ref g0, .ref ty, .ref an, .ref aw, .ref ts, .ref ss, .ref rq, .int 0, .int n3, .int n4]))]) hD hS hA [0, 1] rfl
  refine va_calli (va_runV (C := "DoorServer") (As := [.int (nI k)]) (rest := [.int 0, .ref ou]) ⟨hx, hb, hml, hown, hg⟩ (c_ticks l dC dI cT s.heap.size ds dr sv rr g0 se pw ty an aw ts ss rq n3 n4 k (hk1) (hk2)) (cwV 1 hg (gI (List.forall_mem_append.mpr ⟨List.forall_mem_cons.mpr ⟨k_922, List.forall_mem_cons.mpr ⟨k_923, List.forall_mem_cons.mpr ⟨k_924, List.forall_mem_cons.mpr ⟨k_1, fun _ h => absurd h List.not_mem_nil⟩⟩⟩⟩, List.forall_mem_cons.mpr ⟨k_925, fun _ h => h⟩⟩)) rfl rfl rfl (by decide +kernel) ⟨Nat.le_of_ble_eq_true rfl, Nat.le_of_ble_eq_true rfl⟩) ⟨fun a U g mk q => by obtain ⟨q0, q1, qP, qK, qD⟩ := q; exact ⟨q0, q1, qP, va_K.moved (u := U) (U := U.calling g mk a) (Vm.Alike.refl U.vm) qK, qD⟩, va_recv (q0 := 0) (ci := 0) hK hP rfl rfl, fun U hU hW => ⟨rfl, by rw [hU], by rw [hU]; exact hPc, va_K.moved hW.alike hK, hDc.weaken (fun _ _ _ _ => trivial)⟩⟩ rfl rfl hl.1 rfl (lv_room (Nat.le_of_ble_eq_true rfl)) d_Lw_ticks_4 ⟨Nat.le_of_ble_eq_true rfl, Nat.le_of_ble_eq_true rfl⟩) hS (fun q _ h => hFc q h) hFc (fun rv9 u t H1 locs ht hvm hw hB hz1 hk1 hS => ?_)
  try dsimp only at hw hB
  obtain ⟨hP1, hK1, hD1⟩ := hB
  rw [ht] at hP1
  obtain ⟨rfl, hw⟩ := hw
  obtain ⟨hP, hD⟩ := va_join (wr := [(ou, .inl ((cT 1), 1, .inr (.inl fo)))]) (w1 := []) hP hD [0, 1] [2] rfl rfl (by decide) (by decide) hk1 hFc hP1 hD1
  have hw15 := hw
  clear hPc hDc hFc hz1 hk1 hP1 hK1 hD1
  generalize H1 = H at hP hS ⊢
  have hP : va_P (dC, dI) vcl [(ou, .inl ((cT 1), 1, .inr (.inl fo)))] H := hP
  have hD : va_D A [(ou, .inl ((cT 1), 1, .inr (.inl fo)))] := hD
  refine lv_i2l (v := (nI k).toInt64) hx hb d_Lw_ticks_7 rfl ?_
  refine va_last hx hb hK hP hD hS 0 1 rfl rfl (i := 0) (vp_in_nI (n := 0) (N := 1) (by decide) (by decide)) d_Lw_ticks_8 (fun H locs hP hD hS => ?_)
  have hP : va_P (dC, dI) vcl [(ou, .inl ((cT 1), 1, .inr (.inl (vp_updL fo (0 : Int32).toNatClampNeg ((nI k).toInt64)))))] H := hP
  have hD : va_D A [(ou, .inl ((cT 1), 1, .inr (.inl (vp_updL fo (0 : Int32).toNatClampNeg ((nI k).toInt64)))))] := hD
  refine lv_goto (tgt := 15) hx hb d_Lw_ticks_9 (by decide) ?_
  refine lv_iconst (v := 0) hx hb d_Lw_ticks_15 (by decide) ?_
  have hP9 := hP.sub (ws' := [(ou, .inl ((cT 1), 1, .inr (.inl (vp_updL fo (0 : Int32).toNatClampNeg ((nI k).toInt64)))))]) [0] rfl
  have hD9 := hD.sub (ws' := [(ou, .inl ((cT 1), 1, .inr (.inl (vp_updL fo (0 : Int32).toNatClampNeg ((nI k).toInt64)))))]) [0] (by decide) rfl
  exact W.iret (v := 0) hx hb hr (fun t ht hW => ⟨⟨_, (), rfl, ⟨rfl, trivial⟩, by rw [ht]; exact hP9, va_K.moved hW.alike hK, hD9⟩, hS.F ht⟩) hS.2.2 d_Lw_ticks_16
set_option maxHeartbeats 4000000 in
set_option maxRecDepth 100000 in
/-- the law: count goes -/
theorem l_count0 (l : Launch) (dC : Nat → ClassId) (dI : Nat → Nat → Nat) (cT : Nat → ClassId) (sz : Nat) (ds : Nat) (dr : Nat) (sv : Nat) (rr : Nat) (g0 : Nat) (se : Nat) (pw : Nat) (ty : Nat) (an : Nat) (aw : Nat) (ts : Nat) (ss : Nat) (rq : Nat) (tm : Int32) (f : Nat → Int32) (a1 : Nat) (a2 : Int32) (t1 : Nat) (t2 : Int64) (t3 : Int64) (s1 : Nat) (ou : Nat) (fo : Nat → Int64)  : Met l y_Lw_count (Cond.codeWith y_Lw_count b_Lw_count 4 (Option.some Jvm.ClassFile.FieldType.int) [((0 : Nat), (9 : Nat), (12 : Nat), (13 : Nat))] :: BIG) ({ frames := 1, cells := 0, slots := 0, locals := 30 }) (va_Pc [.ref ds, .int 0, .ref ou] (fun U => U.heap.size = sz ∧ va_P (dC, dI) vcl [(ds, .inr (0, [.ref dr, .ref sv])), (dr, .inr (2, [.ref rr, .int (nI 20)])), (rr, .inl ((cT 0), 1000, .inl f)), (sv, .inr (5, [.ref se, .ref pw, .ref g0, .ref ty, .ref an, .ref aw, .ref ts, .ref ss, .ref rq, .int tm, .int 0, .int 0])), (aw, .inr (6, [.ref a1, .int a2, .int 0])), (ts, .inr (9, [.ref t1, .long t2, .long t3, .int 0])), (ss, .inr (11, [.ref s1, .int 0])), (ou, .inl ((cT 1), 1, .inr (.inl fo)))] U.heap ∧ va_K (dC, dI) vcl (tyL cT) U ∧ va_D (fun _ => True) [(ds, .inr (0, [.ref dr, .ref sv])), (dr, .inr (2, [.ref rr, .int (nI 20)])), (rr, .inl ((cT 0), 1000, .inl f)), (sv, .inr (5, [.ref se, .ref pw, .ref g0, .ref ty, .ref an, .ref aw, .ref ts, .ref ss, .ref rq, .int tm, .int 0, .int 0])), (aw, .inr (6, [.ref a1, .int a2, .int 0])), (ts, .inr (9, [.ref t1, .long t2, .long t3, .int 0])), (ss, .inr (11, [.ref s1, .int 0])), (ou, .inl ((cT 1), 1, .inr (.inl fo)))])) (va_Qi (S := Unit) (fun rv9 u => rv9 = 0 ∧ (True)) (fun u t => va_P (dC, dI) vcl [(ou, .inl ((cT 1), 1, .inr (.inl (vp_updL fo (0 : Int32).toNatClampNeg ((0 : Int32).toInt64)))))] t.heap ∧ va_K (dC, dI) vcl (tyL cT) t ∧ va_D (va_A [(ds, .inr (0, [.ref dr, .ref sv])), (dr, .inr (2, [.ref rr, .int (nI 20)])), (rr, .inl ((cT 0), 1000, .inl f)), (sv, .inr (5, [.ref se, .ref pw, .ref g0, .ref ty, .ref an, .ref aw, .ref ts, .ref ss, .ref rq, .int tm, .int 0, .int 0])), (aw, .inr (6, [.ref a1, .int a2, .int 0])), (ts, .inr (9, [.ref t1, .long t2, .long t3, .int 0])), (ss, .inr (11, [.ref s1, .int 0])), (ou, .inl ((cT 1), 1, .inr (.inl fo)))] sz) [(ou, .inl ((cT 1), 1, .inr (.inl (vp_updL fo (0 : Int32).toNatClampNeg ((0 : Int32).toInt64)))))]) (va_A [(ds, .inr (0, [.ref dr, .ref sv])), (dr, .inr (2, [.ref rr, .int (nI 20)])), (rr, .inl ((cT 0), 1000, .inl f)), (sv, .inr (5, [.ref se, .ref pw, .ref g0, .ref ty, .ref an, .ref aw, .ref ts, .ref ss, .ref rq, .int tm, .int 0, .int 0])), (aw, .inr (6, [.ref a1, .int a2, .int 0])), (ts, .inr (9, [.ref t1, .long t2, .long t3, .int 0])), (ss, .inr (11, [.ref s1, .int 0])), (ou, .inl ((cT 1), 1, .inr (.inl fo)))] sz)) 0 0 (va_A [(ds, .inr (0, [.ref dr, .ref sv])), (dr, .inr (2, [.ref rr, .int (nI 20)])), (rr, .inl ((cT 0), 1000, .inl f)), (sv, .inr (5, [.ref se, .ref pw, .ref g0, .ref ty, .ref an, .ref aw, .ref ts, .ref ss, .ref rq, .int tm, .int 0, .int 0])), (aw, .inr (6, [.ref a1, .int a2, .int 0])), (ts, .inr (9, [.ref t1, .long t2, .long t3, .int 0])), (ss, .inr (11, [.ref s1, .int 0])), (ou, .inl ((cT 1), 1, .inr (.inl fo)))] sz) := by
  refine xw_Met (cc := b_Lw_count) (maxL := 4) (ret := (Option.some Jvm.ClassFile.FieldType.int)) (hh := [((0 : Nat), (9 : Nat), (12 : Nat), (13 : Nat))]) (by decide) rfl ?_
  intro p e s m args below meth c s₁ B hml hv htab
  obtain ⟨hargs, hsz, hP, hK, hD0⟩ := hv
  have hx := B.exec
  have hb := B.bytes
  have hr := B.returns
  have hts := atoms_spec (ws := (Cond.codeWith y_Lw_count b_Lw_count 4 (Option.some Jvm.ClassFile.FieldType.int) [((0 : Nat), (9 : Nat), (12 : Nat), (13 : Nat))] :: BIG)) B.pre
  have hg : ∀ w ∈ BIG, w.before _ s = true := fun w h => hts w (List.mem_cons_of_mem _ h)
  have hown : s.vm.findClass "DoorServerLaw" = some m.cls := findClass_of_methodNamed B.named
  have hlocks := B.notSynchronized
  subst hsz
  have hD := hD0.self (sz := s.heap.size)
  generalize hAe : va_A [(ds, .inr (0, [.ref dr, .ref sv])), (dr, .inr (2, [.ref rr, .int (nI 20)])), (rr, .inl ((cT 0), 1000, .inl f)), (sv, .inr (5, [.ref se, .ref pw, .ref g0, .ref ty, .ref an, .ref aw, .ref ts, .ref ss, .ref rq, .int tm, .int 0, .int 0])), (aw, .inr (6, [.ref a1, .int a2, .int 0])), (ts, .inr (9, [.ref t1, .long t2, .long t3, .int 0])), (ss, .inr (11, [.ref s1, .int 0])), (ou, .inl ((cT 1), 1, .inr (.inl fo)))] s.heap.size = A at hD ⊢
  have hA : ∀ q : Nat, s.heap.size ≤ q → A q := fun q h => by rw [← hAe]; exact Or.inr h
  have hS : va_S A s.heap s.heap [] := va_S.rf
  have hl := lv_entry ([.ref ds, .int 0, .ref ou]) (n := 4) (Nat.le_of_ble_eq_true rfl)
  refine W.eq (g2 := entryFrame m (List.toArray [.ref ds, .int 0, .ref ou]) 4) (by rw [hargs]) ?_
  rw [lg_entry_eq]
  generalize (lg_sl ([.ref ds, .int 0, .ref ou]) ++ List.replicate (4 - (lg_sl ([.ref ds, .int 0, .ref ou])).length) Slot.unset).toArray = ls at hl ⊢
  have hl : lv_has ls 4 [(0, .ref ds), (1, .int 0), (2, .ref ou)] := hl
  change W p l e ({ frames := 1, cells := 0, slots := 0, locals := 30 } : Room) s m args below meth c s.heap [] 0 0 _ _
  have hP : va_P (dC, dI) vcl [(ds, .inr (0, [.ref dr, .ref sv])), (dr, .inr (2, [.ref rr, .int (nI 20)])), (rr, .inl ((cT 0), 1000, .inl f)), (sv, .inr (5, [.ref se, .ref pw, .ref g0, .ref ty, .ref an, .ref aw, .ref ts, .ref ss, .ref rq, .int tm, .int 0, .int 0])), (aw, .inr (6, [.ref a1, .int a2, .int 0])), (ts, .inr (9, [.ref t1, .long t2, .long t3, .int 0])), (ss, .inr (11, [.ref s1, .int 0])), (ou, .inl ((cT 1), 1, .inr (.inl fo)))] s.heap := hP
  refine lv_aload_n hx hb d_Lw_count_0 rfl (lv_at hl 2 rfl) ?_
  refine lv_iconst (v := 0) hx hb d_Lw_count_1 (by decide) ?_
  refine lv_aload_n hx hb d_Lw_count_2 rfl (lv_at hl 0 rfl) ?_
  refine lv_iload_n hx hb d_Lw_count_3 rfl (lv_at hl 1 rfl) ?_
  have hPc := hP.sub (ws' := [(ds, .inr (0, [.ref dr, .ref sv])), (dr, .inr (2, [.ref rr, .int (nI 20)])), (rr, .inl ((cT 0), 1000, .inl f)), (sv, .inr (5, [.ref se, .ref pw, .ref g0, .ref ty, .ref an, .ref aw, .ref ts, .ref ss, .ref rq, .int tm, .int 0, .int 0])), (aw, .inr (6, [.ref a1, .int a2, .int 0])), (ts, .inr (9, [.ref t1, .long t2, .long t3, .int 0])), (ss, .inr (11, [.ref s1, .int 0]))]) [0, 1, 2, 3, 4, 5, 6] rfl
  have hDc := hD.sub (ws' := [(ds, .inr (0, [.ref dr, .ref sv])), (dr, .inr (2, [.ref rr, .int (nI 20)])), (rr, .inl ((cT 0), 1000, .inl f)), (sv, .inr (5, [.ref se, .ref pw, .ref g0, .ref ty, .ref an, .ref aw, .ref ts, .ref ss, .ref rq, .int tm, .int 0, .int 0])), (aw, .inr (6, [.ref a1, .int a2, .int 0])), (ts, .inr (9, [.ref t1, .long t2, .long t3, .int 0])), (ss, .inr (11, [.ref s1, .int 0]))]) [0, 1, 2, 3, 4, 5, 6] (by decide) rfl
  have hFc := va_free (wc := [(ds, .inr (0, [.ref dr, .ref sv])), (dr, .inr (2, [.ref rr, .int (nI 20)])), (rr, .inl ((cT 0), 1000, .inl f)), (sv, .inr (5, [.ref se, .ref pw, .ref g0, .ref ty, .ref an, .ref aw, .ref ts, .ref ss, .ref rq, .int tm, .int 0, .int 0])), (aw, .inr (6, [.ref a1, .int a2, .int 0])), (ts, .inr (9, [.ref t1, .long t2, .long t3, .int 0])), (ss, .inr (11, [.ref s1, .int 0]))]) hD hS hA [0, 1, 2, 3, 4, 5, 6] rfl
  refine va_calli (va_runV (C := "DoorServer") (As := [.int 0]) (rest := [.int 0, .ref ou]) ⟨hx, hb, hml, hown, hg⟩ (c_count0 l dC dI cT s.heap.size ds dr sv rr g0 se pw ty an aw ts ss rq tm f a1 a2 t1 t2 t3 s1 ) (cwV 1 hg (gI (List.forall_mem_append.mpr ⟨List.forall_mem_cons.mpr ⟨k_930, List.forall_mem_cons.mpr ⟨k_931, List.forall_mem_cons.mpr ⟨k_932, List.forall_mem_cons.mpr ⟨k_1, fun _ h => absurd h List.not_mem_nil⟩⟩⟩⟩, List.forall_mem_cons.mpr ⟨k_933, fun _ h => h⟩⟩)) rfl rfl rfl (by decide +kernel) ⟨Nat.le_of_ble_eq_true rfl, Nat.le_of_ble_eq_true rfl⟩) ⟨fun a U g mk q => by obtain ⟨q0, q1, qP, qK, qD⟩ := q; exact ⟨q0, q1, qP, va_K.moved (u := U) (U := U.calling g mk a) (Vm.Alike.refl U.vm) qK, qD⟩, va_recv (q0 := 0) (ci := 0) hK hP rfl rfl, fun U hU hW => ⟨rfl, by rw [hU], by rw [hU]; exact hPc, va_K.moved hW.alike hK, hDc.weaken (fun _ _ _ _ => trivial)⟩⟩ rfl rfl hl.1 rfl (lv_room (Nat.le_of_ble_eq_true rfl)) d_Lw_count_4 ⟨Nat.le_of_ble_eq_true rfl, Nat.le_of_ble_eq_true rfl⟩) hS (fun q _ h => hFc q h) hFc (fun rv9 u t H1 locs ht hvm hw hB hz1 hk1 hS => ?_)
  try dsimp only at hw hB
  obtain ⟨hP1, hK1, hD1⟩ := hB
  rw [ht] at hP1
  obtain ⟨rfl, hw⟩ := hw
  obtain ⟨hP, hD⟩ := va_join (wr := [(ou, .inl ((cT 1), 1, .inr (.inl fo)))]) (w1 := []) hP hD [0, 1, 2, 3, 4, 5, 6] [7] rfl rfl (by decide) (by decide) hk1 hFc hP1 hD1
  have hw16 := hw
  clear hPc hDc hFc hz1 hk1 hP1 hK1 hD1
  generalize H1 = H at hP hS ⊢
  have hP : va_P (dC, dI) vcl [(ou, .inl ((cT 1), 1, .inr (.inl fo)))] H := hP
  have hD : va_D A [(ou, .inl ((cT 1), 1, .inr (.inl fo)))] := hD
  refine lv_i2l (v := (0 : Int32).toInt64) hx hb d_Lw_count_7 rfl ?_
  refine va_last hx hb hK hP hD hS 0 1 rfl rfl (i := 0) (vp_in_nI (n := 0) (N := 1) (by decide) (by decide)) d_Lw_count_8 (fun H locs hP hD hS => ?_)
  have hP : va_P (dC, dI) vcl [(ou, .inl ((cT 1), 1, .inr (.inl (vp_updL fo (0 : Int32).toNatClampNeg ((0 : Int32).toInt64)))))] H := hP
  have hD : va_D A [(ou, .inl ((cT 1), 1, .inr (.inl (vp_updL fo (0 : Int32).toNatClampNeg ((0 : Int32).toInt64)))))] := hD
  refine lv_goto (tgt := 15) hx hb d_Lw_count_9 (by decide) ?_
  refine lv_iconst (v := 0) hx hb d_Lw_count_15 (by decide) ?_
  have hP9 := hP.sub (ws' := [(ou, .inl ((cT 1), 1, .inr (.inl (vp_updL fo (0 : Int32).toNatClampNeg ((0 : Int32).toInt64)))))]) [0] rfl
  have hD9 := hD.sub (ws' := [(ou, .inl ((cT 1), 1, .inr (.inl (vp_updL fo (0 : Int32).toNatClampNeg ((0 : Int32).toInt64)))))]) [0] (by decide) rfl
  exact W.iret (v := 0) hx hb hr (fun t ht hW => ⟨⟨_, (), rfl, ⟨rfl, trivial⟩, by rw [ht]; exact hP9, va_K.moved hW.alike hK, hD9⟩, hS.F ht⟩) hS.2.2 d_Lw_count_16
set_option maxHeartbeats 4000000 in
set_option maxRecDepth 100000 in
/-- the law: count goes -/
theorem l_count1 (l : Launch) (dC : Nat → ClassId) (dI : Nat → Nat → Nat) (cT : Nat → ClassId) (sz : Nat) (ds : Nat) (dr : Nat) (sv : Nat) (rr : Nat) (g0 : Nat) (se : Nat) (pw : Nat) (ty : Nat) (an : Nat) (aw : Nat) (ts : Nat) (ss : Nat) (rq : Nat) (tm : Int32) (f : Nat → Int32) (a1 : Nat) (a2 : Int32) (t1 : Nat) (t2 : Int64) (t3 : Int64) (s1 : Nat) (ou : Nat) (fo : Nat → Int64)  : Met l y_Lw_count (Cond.codeWith y_Lw_count b_Lw_count 4 (Option.some Jvm.ClassFile.FieldType.int) [((0 : Nat), (9 : Nat), (12 : Nat), (13 : Nat))] :: BIG) ({ frames := 1, cells := 0, slots := 0, locals := 30 }) (va_Pc [.ref ds, .int 1, .ref ou] (fun U => U.heap.size = sz ∧ va_P (dC, dI) vcl [(ds, .inr (0, [.ref dr, .ref sv])), (dr, .inr (2, [.ref rr, .int (nI 20)])), (rr, .inl ((cT 0), 1000, .inl f)), (sv, .inr (5, [.ref se, .ref pw, .ref g0, .ref ty, .ref an, .ref aw, .ref ts, .ref ss, .ref rq, .int tm, .int 0, .int 0])), (aw, .inr (6, [.ref a1, .int a2, .int 0])), (ts, .inr (9, [.ref t1, .long t2, .long t3, .int 0])), (ss, .inr (11, [.ref s1, .int 0])), (ou, .inl ((cT 1), 1, .inr (.inl fo)))] U.heap ∧ va_K (dC, dI) vcl (tyL cT) U ∧ va_D (fun _ => True) [(ds, .inr (0, [.ref dr, .ref sv])), (dr, .inr (2, [.ref rr, .int (nI 20)])), (rr, .inl ((cT 0), 1000, .inl f)), (sv, .inr (5, [.ref se, .ref pw, .ref g0, .ref ty, .ref an, .ref aw, .ref ts, .ref ss, .ref rq, .int tm, .int 0, .int 0])), (aw, .inr (6, [.ref a1, .int a2, .int 0])), (ts, .inr (9, [.ref t1, .long t2, .long t3, .int 0])), (ss, .inr (11, [.ref s1, .int 0])), (ou, .inl ((cT 1), 1, .inr (.inl fo)))])) (va_Qi (S := Unit) (fun rv9 u => rv9 = 0 ∧ (True)) (fun u t => va_P (dC, dI) vcl [(ou, .inl ((cT 1), 1, .inr (.inl (vp_updL fo (0 : Int32).toNatClampNeg ((0 : Int32).toInt64)))))] t.heap ∧ va_K (dC, dI) vcl (tyL cT) t ∧ va_D (va_A [(ds, .inr (0, [.ref dr, .ref sv])), (dr, .inr (2, [.ref rr, .int (nI 20)])), (rr, .inl ((cT 0), 1000, .inl f)), (sv, .inr (5, [.ref se, .ref pw, .ref g0, .ref ty, .ref an, .ref aw, .ref ts, .ref ss, .ref rq, .int tm, .int 0, .int 0])), (aw, .inr (6, [.ref a1, .int a2, .int 0])), (ts, .inr (9, [.ref t1, .long t2, .long t3, .int 0])), (ss, .inr (11, [.ref s1, .int 0])), (ou, .inl ((cT 1), 1, .inr (.inl fo)))] sz) [(ou, .inl ((cT 1), 1, .inr (.inl (vp_updL fo (0 : Int32).toNatClampNeg ((0 : Int32).toInt64)))))]) (va_A [(ds, .inr (0, [.ref dr, .ref sv])), (dr, .inr (2, [.ref rr, .int (nI 20)])), (rr, .inl ((cT 0), 1000, .inl f)), (sv, .inr (5, [.ref se, .ref pw, .ref g0, .ref ty, .ref an, .ref aw, .ref ts, .ref ss, .ref rq, .int tm, .int 0, .int 0])), (aw, .inr (6, [.ref a1, .int a2, .int 0])), (ts, .inr (9, [.ref t1, .long t2, .long t3, .int 0])), (ss, .inr (11, [.ref s1, .int 0])), (ou, .inl ((cT 1), 1, .inr (.inl fo)))] sz)) 0 0 (va_A [(ds, .inr (0, [.ref dr, .ref sv])), (dr, .inr (2, [.ref rr, .int (nI 20)])), (rr, .inl ((cT 0), 1000, .inl f)), (sv, .inr (5, [.ref se, .ref pw, .ref g0, .ref ty, .ref an, .ref aw, .ref ts, .ref ss, .ref rq, .int tm, .int 0, .int 0])), (aw, .inr (6, [.ref a1, .int a2, .int 0])), (ts, .inr (9, [.ref t1, .long t2, .long t3, .int 0])), (ss, .inr (11, [.ref s1, .int 0])), (ou, .inl ((cT 1), 1, .inr (.inl fo)))] sz) := by
  refine xw_Met (cc := b_Lw_count) (maxL := 4) (ret := (Option.some Jvm.ClassFile.FieldType.int)) (hh := [((0 : Nat), (9 : Nat), (12 : Nat), (13 : Nat))]) (by decide) rfl ?_
  intro p e s m args below meth c s₁ B hml hv htab
  obtain ⟨hargs, hsz, hP, hK, hD0⟩ := hv
  have hx := B.exec
  have hb := B.bytes
  have hr := B.returns
  have hts := atoms_spec (ws := (Cond.codeWith y_Lw_count b_Lw_count 4 (Option.some Jvm.ClassFile.FieldType.int) [((0 : Nat), (9 : Nat), (12 : Nat), (13 : Nat))] :: BIG)) B.pre
  have hg : ∀ w ∈ BIG, w.before _ s = true := fun w h => hts w (List.mem_cons_of_mem _ h)
  have hown : s.vm.findClass "DoorServerLaw" = some m.cls := findClass_of_methodNamed B.named
  have hlocks := B.notSynchronized
  subst hsz
  have hD := hD0.self (sz := s.heap.size)
  generalize hAe : va_A [(ds, .inr (0, [.ref dr, .ref sv])), (dr, .inr (2, [.ref rr, .int (nI 20)])), (rr, .inl ((cT 0), 1000, .inl f)), (sv, .inr (5, [.ref se, .ref pw, .ref g0, .ref ty, .ref an, .ref aw, .ref ts, .ref ss, .ref rq, .int tm, .int 0, .int 0])), (aw, .inr (6, [.ref a1, .int a2, .int 0])), (ts, .inr (9, [.ref t1, .long t2, .long t3, .int 0])), (ss, .inr (11, [.ref s1, .int 0])), (ou, .inl ((cT 1), 1, .inr (.inl fo)))] s.heap.size = A at hD ⊢
  have hA : ∀ q : Nat, s.heap.size ≤ q → A q := fun q h => by rw [← hAe]; exact Or.inr h
  have hS : va_S A s.heap s.heap [] := va_S.rf
  have hl := lv_entry ([.ref ds, .int 1, .ref ou]) (n := 4) (Nat.le_of_ble_eq_true rfl)
  refine W.eq (g2 := entryFrame m (List.toArray [.ref ds, .int 1, .ref ou]) 4) (by rw [hargs]) ?_
  rw [lg_entry_eq]
  generalize (lg_sl ([.ref ds, .int 1, .ref ou]) ++ List.replicate (4 - (lg_sl ([.ref ds, .int 1, .ref ou])).length) Slot.unset).toArray = ls at hl ⊢
  have hl : lv_has ls 4 [(0, .ref ds), (1, .int 1), (2, .ref ou)] := hl
  change W p l e ({ frames := 1, cells := 0, slots := 0, locals := 30 } : Room) s m args below meth c s.heap [] 0 0 _ _
  have hP : va_P (dC, dI) vcl [(ds, .inr (0, [.ref dr, .ref sv])), (dr, .inr (2, [.ref rr, .int (nI 20)])), (rr, .inl ((cT 0), 1000, .inl f)), (sv, .inr (5, [.ref se, .ref pw, .ref g0, .ref ty, .ref an, .ref aw, .ref ts, .ref ss, .ref rq, .int tm, .int 0, .int 0])), (aw, .inr (6, [.ref a1, .int a2, .int 0])), (ts, .inr (9, [.ref t1, .long t2, .long t3, .int 0])), (ss, .inr (11, [.ref s1, .int 0])), (ou, .inl ((cT 1), 1, .inr (.inl fo)))] s.heap := hP
  refine lv_aload_n hx hb d_Lw_count_0 rfl (lv_at hl 2 rfl) ?_
  refine lv_iconst (v := 0) hx hb d_Lw_count_1 (by decide) ?_
  refine lv_aload_n hx hb d_Lw_count_2 rfl (lv_at hl 0 rfl) ?_
  refine lv_iload_n hx hb d_Lw_count_3 rfl (lv_at hl 1 rfl) ?_
  have hPc := hP.sub (ws' := [(ds, .inr (0, [.ref dr, .ref sv])), (dr, .inr (2, [.ref rr, .int (nI 20)])), (rr, .inl ((cT 0), 1000, .inl f)), (sv, .inr (5, [.ref se, .ref pw, .ref g0, .ref ty, .ref an, .ref aw, .ref ts, .ref ss, .ref rq, .int tm, .int 0, .int 0])), (aw, .inr (6, [.ref a1, .int a2, .int 0])), (ts, .inr (9, [.ref t1, .long t2, .long t3, .int 0])), (ss, .inr (11, [.ref s1, .int 0]))]) [0, 1, 2, 3, 4, 5, 6] rfl
  have hDc := hD.sub (ws' := [(ds, .inr (0, [.ref dr, .ref sv])), (dr, .inr (2, [.ref rr, .int (nI 20)])), (rr, .inl ((cT 0), 1000, .inl f)), (sv, .inr (5, [.ref se, .ref pw, .ref g0, .ref ty, .ref an, .ref aw, .ref ts, .ref ss, .ref rq, .int tm, .int 0, .int 0])), (aw, .inr (6, [.ref a1, .int a2, .int 0])), (ts, .inr (9, [.ref t1, .long t2, .long t3, .int 0])), (ss, .inr (11, [.ref s1, .int 0]))]) [0, 1, 2, 3, 4, 5, 6] (by decide) rfl
  have hFc := va_free (wc := [(ds, .inr (0, [.ref dr, .ref sv])), (dr, .inr (2, [.ref rr, .int (nI 20)])), (rr, .inl ((cT 0), 1000, .inl f)), (sv, .inr (5, [.ref se, .ref pw, .ref g0, .ref ty, .ref an, .ref aw, .ref ts, .ref ss, .ref rq, .int tm, .int 0, .int 0])), (aw, .inr (6, [.ref a1, .int a2, .int 0])), (ts, .inr (9, [.ref t1, .long t2, .long t3, .int 0])), (ss, .inr (11, [.ref s1, .int 0]))]) hD hS hA [0, 1, 2, 3, 4, 5, 6] rfl
  refine va_calli (va_runV (C := "DoorServer") (As := [.int 1]) (rest := [.int 0, .ref ou]) ⟨hx, hb, hml, hown, hg⟩ (c_count1 l dC dI cT s.heap.size ds dr sv rr g0 se pw ty an aw ts ss rq tm f a1 a2 t1 t2 t3 s1 ) (cwV 1 hg (gI (List.forall_mem_append.mpr ⟨List.forall_mem_cons.mpr ⟨k_930, List.forall_mem_cons.mpr ⟨k_931, List.forall_mem_cons.mpr ⟨k_932, List.forall_mem_cons.mpr ⟨k_1, fun _ h => absurd h List.not_mem_nil⟩⟩⟩⟩, List.forall_mem_cons.mpr ⟨k_933, fun _ h => h⟩⟩)) rfl rfl rfl (by decide +kernel) ⟨Nat.le_of_ble_eq_true rfl, Nat.le_of_ble_eq_true rfl⟩) ⟨fun a U g mk q => by obtain ⟨q0, q1, qP, qK, qD⟩ := q; exact ⟨q0, q1, qP, va_K.moved (u := U) (U := U.calling g mk a) (Vm.Alike.refl U.vm) qK, qD⟩, va_recv (q0 := 0) (ci := 0) hK hP rfl rfl, fun U hU hW => ⟨rfl, by rw [hU], by rw [hU]; exact hPc, va_K.moved hW.alike hK, hDc.weaken (fun _ _ _ _ => trivial)⟩⟩ rfl rfl hl.1 rfl (lv_room (Nat.le_of_ble_eq_true rfl)) d_Lw_count_4 ⟨Nat.le_of_ble_eq_true rfl, Nat.le_of_ble_eq_true rfl⟩) hS (fun q _ h => hFc q h) hFc (fun rv9 u t H1 locs ht hvm hw hB hz1 hk1 hS => ?_)
  try dsimp only at hw hB
  obtain ⟨hP1, hK1, hD1⟩ := hB
  rw [ht] at hP1
  obtain ⟨rfl, hw⟩ := hw
  obtain ⟨hP, hD⟩ := va_join (wr := [(ou, .inl ((cT 1), 1, .inr (.inl fo)))]) (w1 := []) hP hD [0, 1, 2, 3, 4, 5, 6] [7] rfl rfl (by decide) (by decide) hk1 hFc hP1 hD1
  have hw17 := hw
  clear hPc hDc hFc hz1 hk1 hP1 hK1 hD1
  generalize H1 = H at hP hS ⊢
  have hP : va_P (dC, dI) vcl [(ou, .inl ((cT 1), 1, .inr (.inl fo)))] H := hP
  have hD : va_D A [(ou, .inl ((cT 1), 1, .inr (.inl fo)))] := hD
  refine lv_i2l (v := (0 : Int32).toInt64) hx hb d_Lw_count_7 rfl ?_
  refine va_last hx hb hK hP hD hS 0 1 rfl rfl (i := 0) (vp_in_nI (n := 0) (N := 1) (by decide) (by decide)) d_Lw_count_8 (fun H locs hP hD hS => ?_)
  have hP : va_P (dC, dI) vcl [(ou, .inl ((cT 1), 1, .inr (.inl (vp_updL fo (0 : Int32).toNatClampNeg ((0 : Int32).toInt64)))))] H := hP
  have hD : va_D A [(ou, .inl ((cT 1), 1, .inr (.inl (vp_updL fo (0 : Int32).toNatClampNeg ((0 : Int32).toInt64)))))] := hD
  refine lv_goto (tgt := 15) hx hb d_Lw_count_9 (by decide) ?_
  refine lv_iconst (v := 0) hx hb d_Lw_count_15 (by decide) ?_
  have hP9 := hP.sub (ws' := [(ou, .inl ((cT 1), 1, .inr (.inl (vp_updL fo (0 : Int32).toNatClampNeg ((0 : Int32).toInt64)))))]) [0] rfl
  have hD9 := hD.sub (ws' := [(ou, .inl ((cT 1), 1, .inr (.inl (vp_updL fo (0 : Int32).toNatClampNeg ((0 : Int32).toInt64)))))]) [0] (by decide) rfl
  exact W.iret (v := 0) hx hb hr (fun t ht hW => ⟨⟨_, (), rfl, ⟨rfl, trivial⟩, by rw [ht]; exact hP9, va_K.moved hW.alike hK, hD9⟩, hS.F ht⟩) hS.2.2 d_Lw_count_16
set_option maxHeartbeats 4000000 in
set_option maxRecDepth 100000 in
/-- the law: count goes -/
theorem l_count2 (l : Launch) (dC : Nat → ClassId) (dI : Nat → Nat → Nat) (cT : Nat → ClassId) (sz : Nat) (ds : Nat) (dr : Nat) (sv : Nat) (rr : Nat) (g0 : Nat) (se : Nat) (pw : Nat) (ty : Nat) (an : Nat) (aw : Nat) (ts : Nat) (ss : Nat) (rq : Nat) (tm : Int32) (f : Nat → Int32) (a1 : Nat) (a2 : Int32) (t1 : Nat) (t2 : Int64) (t3 : Int64) (s1 : Nat) (ou : Nat) (fo : Nat → Int64)  : Met l y_Lw_count (Cond.codeWith y_Lw_count b_Lw_count 4 (Option.some Jvm.ClassFile.FieldType.int) [((0 : Nat), (9 : Nat), (12 : Nat), (13 : Nat))] :: BIG) ({ frames := 1, cells := 0, slots := 0, locals := 30 }) (va_Pc [.ref ds, .int 2, .ref ou] (fun U => U.heap.size = sz ∧ va_P (dC, dI) vcl [(ds, .inr (0, [.ref dr, .ref sv])), (dr, .inr (2, [.ref rr, .int (nI 20)])), (rr, .inl ((cT 0), 1000, .inl f)), (sv, .inr (5, [.ref se, .ref pw, .ref g0, .ref ty, .ref an, .ref aw, .ref ts, .ref ss, .ref rq, .int tm, .int 0, .int 0])), (aw, .inr (6, [.ref a1, .int a2, .int 0])), (ts, .inr (9, [.ref t1, .long t2, .long t3, .int 0])), (ss, .inr (11, [.ref s1, .int 0])), (ou, .inl ((cT 1), 1, .inr (.inl fo)))] U.heap ∧ va_K (dC, dI) vcl (tyL cT) U ∧ va_D (fun _ => True) [(ds, .inr (0, [.ref dr, .ref sv])), (dr, .inr (2, [.ref rr, .int (nI 20)])), (rr, .inl ((cT 0), 1000, .inl f)), (sv, .inr (5, [.ref se, .ref pw, .ref g0, .ref ty, .ref an, .ref aw, .ref ts, .ref ss, .ref rq, .int tm, .int 0, .int 0])), (aw, .inr (6, [.ref a1, .int a2, .int 0])), (ts, .inr (9, [.ref t1, .long t2, .long t3, .int 0])), (ss, .inr (11, [.ref s1, .int 0])), (ou, .inl ((cT 1), 1, .inr (.inl fo)))])) (va_Qi (S := Unit) (fun rv9 u => rv9 = 0 ∧ (True)) (fun u t => va_P (dC, dI) vcl [(ou, .inl ((cT 1), 1, .inr (.inl (vp_updL fo (0 : Int32).toNatClampNeg ((0 : Int32).toInt64)))))] t.heap ∧ va_K (dC, dI) vcl (tyL cT) t ∧ va_D (va_A [(ds, .inr (0, [.ref dr, .ref sv])), (dr, .inr (2, [.ref rr, .int (nI 20)])), (rr, .inl ((cT 0), 1000, .inl f)), (sv, .inr (5, [.ref se, .ref pw, .ref g0, .ref ty, .ref an, .ref aw, .ref ts, .ref ss, .ref rq, .int tm, .int 0, .int 0])), (aw, .inr (6, [.ref a1, .int a2, .int 0])), (ts, .inr (9, [.ref t1, .long t2, .long t3, .int 0])), (ss, .inr (11, [.ref s1, .int 0])), (ou, .inl ((cT 1), 1, .inr (.inl fo)))] sz) [(ou, .inl ((cT 1), 1, .inr (.inl (vp_updL fo (0 : Int32).toNatClampNeg ((0 : Int32).toInt64)))))]) (va_A [(ds, .inr (0, [.ref dr, .ref sv])), (dr, .inr (2, [.ref rr, .int (nI 20)])), (rr, .inl ((cT 0), 1000, .inl f)), (sv, .inr (5, [.ref se, .ref pw, .ref g0, .ref ty, .ref an, .ref aw, .ref ts, .ref ss, .ref rq, .int tm, .int 0, .int 0])), (aw, .inr (6, [.ref a1, .int a2, .int 0])), (ts, .inr (9, [.ref t1, .long t2, .long t3, .int 0])), (ss, .inr (11, [.ref s1, .int 0])), (ou, .inl ((cT 1), 1, .inr (.inl fo)))] sz)) 0 0 (va_A [(ds, .inr (0, [.ref dr, .ref sv])), (dr, .inr (2, [.ref rr, .int (nI 20)])), (rr, .inl ((cT 0), 1000, .inl f)), (sv, .inr (5, [.ref se, .ref pw, .ref g0, .ref ty, .ref an, .ref aw, .ref ts, .ref ss, .ref rq, .int tm, .int 0, .int 0])), (aw, .inr (6, [.ref a1, .int a2, .int 0])), (ts, .inr (9, [.ref t1, .long t2, .long t3, .int 0])), (ss, .inr (11, [.ref s1, .int 0])), (ou, .inl ((cT 1), 1, .inr (.inl fo)))] sz) := by
  refine xw_Met (cc := b_Lw_count) (maxL := 4) (ret := (Option.some Jvm.ClassFile.FieldType.int)) (hh := [((0 : Nat), (9 : Nat), (12 : Nat), (13 : Nat))]) (by decide) rfl ?_
  intro p e s m args below meth c s₁ B hml hv htab
  obtain ⟨hargs, hsz, hP, hK, hD0⟩ := hv
  have hx := B.exec
  have hb := B.bytes
  have hr := B.returns
  have hts := atoms_spec (ws := (Cond.codeWith y_Lw_count b_Lw_count 4 (Option.some Jvm.ClassFile.FieldType.int) [((0 : Nat), (9 : Nat), (12 : Nat), (13 : Nat))] :: BIG)) B.pre
  have hg : ∀ w ∈ BIG, w.before _ s = true := fun w h => hts w (List.mem_cons_of_mem _ h)
  have hown : s.vm.findClass "DoorServerLaw" = some m.cls := findClass_of_methodNamed B.named
  have hlocks := B.notSynchronized
  subst hsz
  have hD := hD0.self (sz := s.heap.size)
  generalize hAe : va_A [(ds, .inr (0, [.ref dr, .ref sv])), (dr, .inr (2, [.ref rr, .int (nI 20)])), (rr, .inl ((cT 0), 1000, .inl f)), (sv, .inr (5, [.ref se, .ref pw, .ref g0, .ref ty, .ref an, .ref aw, .ref ts, .ref ss, .ref rq, .int tm, .int 0, .int 0])), (aw, .inr (6, [.ref a1, .int a2, .int 0])), (ts, .inr (9, [.ref t1, .long t2, .long t3, .int 0])), (ss, .inr (11, [.ref s1, .int 0])), (ou, .inl ((cT 1), 1, .inr (.inl fo)))] s.heap.size = A at hD ⊢
  have hA : ∀ q : Nat, s.heap.size ≤ q → A q := fun q h => by rw [← hAe]; exact Or.inr h
  have hS : va_S A s.heap s.heap [] := va_S.rf
  have hl := lv_entry ([.ref ds, .int 2, .ref ou]) (n := 4) (Nat.le_of_ble_eq_true rfl)
  refine W.eq (g2 := entryFrame m (List.toArray [.ref ds, .int 2, .ref ou]) 4) (by rw [hargs]) ?_
  rw [lg_entry_eq]
  generalize (lg_sl ([.ref ds, .int 2, .ref ou]) ++ List.replicate (4 - (lg_sl ([.ref ds, .int 2, .ref ou])).length) Slot.unset).toArray = ls at hl ⊢
  have hl : lv_has ls 4 [(0, .ref ds), (1, .int 2), (2, .ref ou)] := hl
  change W p l e ({ frames := 1, cells := 0, slots := 0, locals := 30 } : Room) s m args below meth c s.heap [] 0 0 _ _
  have hP : va_P (dC, dI) vcl [(ds, .inr (0, [.ref dr, .ref sv])), (dr, .inr (2, [.ref rr, .int (nI 20)])), (rr, .inl ((cT 0), 1000, .inl f)), (sv, .inr (5, [.ref se, .ref pw, .ref g0, .ref ty, .ref an, .ref aw, .ref ts, .ref ss, .ref rq, .int tm, .int 0, .int 0])), (aw, .inr (6, [.ref a1, .int a2, .int 0])), (ts, .inr (9, [.ref t1, .long t2, .long t3, .int 0])), (ss, .inr (11, [.ref s1, .int 0])), (ou, .inl ((cT 1), 1, .inr (.inl fo)))] s.heap := hP
  refine lv_aload_n hx hb d_Lw_count_0 rfl (lv_at hl 2 rfl) ?_
  refine lv_iconst (v := 0) hx hb d_Lw_count_1 (by decide) ?_
  refine lv_aload_n hx hb d_Lw_count_2 rfl (lv_at hl 0 rfl) ?_
  refine lv_iload_n hx hb d_Lw_count_3 rfl (lv_at hl 1 rfl) ?_
  have hPc := hP.sub (ws' := [(ds, .inr (0, [.ref dr, .ref sv])), (dr, .inr (2, [.ref rr, .int (nI 20)])), (rr, .inl ((cT 0), 1000, .inl f)), (sv, .inr (5, [.ref se, .ref pw, .ref g0, .ref ty, .ref an, .ref aw, .ref ts, .ref ss, .ref rq, .int tm, .int 0, .int 0])), (aw, .inr (6, [.ref a1, .int a2, .int 0])), (ts, .inr (9, [.ref t1, .long t2, .long t3, .int 0])), (ss, .inr (11, [.ref s1, .int 0]))]) [0, 1, 2, 3, 4, 5, 6] rfl
  have hDc := hD.sub (ws' := [(ds, .inr (0, [.ref dr, .ref sv])), (dr, .inr (2, [.ref rr, .int (nI 20)])), (rr, .inl ((cT 0), 1000, .inl f)), (sv, .inr (5, [.ref se, .ref pw, .ref g0, .ref ty, .ref an, .ref aw, .ref ts, .ref ss, .ref rq, .int tm, .int 0, .int 0])), (aw, .inr (6, [.ref a1, .int a2, .int 0])), (ts, .inr (9, [.ref t1, .long t2, .long t3, .int 0])), (ss, .inr (11, [.ref s1, .int 0]))]) [0, 1, 2, 3, 4, 5, 6] (by decide) rfl
  have hFc := va_free (wc := [(ds, .inr (0, [.ref dr, .ref sv])), (dr, .inr (2, [.ref rr, .int (nI 20)])), (rr, .inl ((cT 0), 1000, .inl f)), (sv, .inr (5, [.ref se, .ref pw, .ref g0, .ref ty, .ref an, .ref aw, .ref ts, .ref ss, .ref rq, .int tm, .int 0, .int 0])), (aw, .inr (6, [.ref a1, .int a2, .int 0])), (ts, .inr (9, [.ref t1, .long t2, .long t3, .int 0])), (ss, .inr (11, [.ref s1, .int 0]))]) hD hS hA [0, 1, 2, 3, 4, 5, 6] rfl
  refine va_calli (va_runV (C := "DoorServer") (As := [.int 2]) (rest := [.int 0, .ref ou]) ⟨hx, hb, hml, hown, hg⟩ (c_count2 l dC dI cT s.heap.size ds dr sv rr g0 se pw ty an aw ts ss rq tm f a1 a2 t1 t2 t3 s1 ) (cwV 1 hg (gI (List.forall_mem_append.mpr ⟨List.forall_mem_cons.mpr ⟨k_930, List.forall_mem_cons.mpr ⟨k_931, List.forall_mem_cons.mpr ⟨k_932, List.forall_mem_cons.mpr ⟨k_1, fun _ h => absurd h List.not_mem_nil⟩⟩⟩⟩, List.forall_mem_cons.mpr ⟨k_933, fun _ h => h⟩⟩)) rfl rfl rfl (by decide +kernel) ⟨Nat.le_of_ble_eq_true rfl, Nat.le_of_ble_eq_true rfl⟩) ⟨fun a U g mk q => by obtain ⟨q0, q1, qP, qK, qD⟩ := q; exact ⟨q0, q1, qP, va_K.moved (u := U) (U := U.calling g mk a) (Vm.Alike.refl U.vm) qK, qD⟩, va_recv (q0 := 0) (ci := 0) hK hP rfl rfl, fun U hU hW => ⟨rfl, by rw [hU], by rw [hU]; exact hPc, va_K.moved hW.alike hK, hDc.weaken (fun _ _ _ _ => trivial)⟩⟩ rfl rfl hl.1 rfl (lv_room (Nat.le_of_ble_eq_true rfl)) d_Lw_count_4 ⟨Nat.le_of_ble_eq_true rfl, Nat.le_of_ble_eq_true rfl⟩) hS (fun q _ h => hFc q h) hFc (fun rv9 u t H1 locs ht hvm hw hB hz1 hk1 hS => ?_)
  try dsimp only at hw hB
  obtain ⟨hP1, hK1, hD1⟩ := hB
  rw [ht] at hP1
  obtain ⟨rfl, hw⟩ := hw
  obtain ⟨hP, hD⟩ := va_join (wr := [(ou, .inl ((cT 1), 1, .inr (.inl fo)))]) (w1 := []) hP hD [0, 1, 2, 3, 4, 5, 6] [7] rfl rfl (by decide) (by decide) hk1 hFc hP1 hD1
  have hw18 := hw
  clear hPc hDc hFc hz1 hk1 hP1 hK1 hD1
  generalize H1 = H at hP hS ⊢
  have hP : va_P (dC, dI) vcl [(ou, .inl ((cT 1), 1, .inr (.inl fo)))] H := hP
  have hD : va_D A [(ou, .inl ((cT 1), 1, .inr (.inl fo)))] := hD
  refine lv_i2l (v := (0 : Int32).toInt64) hx hb d_Lw_count_7 rfl ?_
  refine va_last hx hb hK hP hD hS 0 1 rfl rfl (i := 0) (vp_in_nI (n := 0) (N := 1) (by decide) (by decide)) d_Lw_count_8 (fun H locs hP hD hS => ?_)
  have hP : va_P (dC, dI) vcl [(ou, .inl ((cT 1), 1, .inr (.inl (vp_updL fo (0 : Int32).toNatClampNeg ((0 : Int32).toInt64)))))] H := hP
  have hD : va_D A [(ou, .inl ((cT 1), 1, .inr (.inl (vp_updL fo (0 : Int32).toNatClampNeg ((0 : Int32).toInt64)))))] := hD
  refine lv_goto (tgt := 15) hx hb d_Lw_count_9 (by decide) ?_
  refine lv_iconst (v := 0) hx hb d_Lw_count_15 (by decide) ?_
  have hP9 := hP.sub (ws' := [(ou, .inl ((cT 1), 1, .inr (.inl (vp_updL fo (0 : Int32).toNatClampNeg ((0 : Int32).toInt64)))))]) [0] rfl
  have hD9 := hD.sub (ws' := [(ou, .inl ((cT 1), 1, .inr (.inl (vp_updL fo (0 : Int32).toNatClampNeg ((0 : Int32).toInt64)))))]) [0] (by decide) rfl
  exact W.iret (v := 0) hx hb hr (fun t ht hW => ⟨⟨_, (), rfl, ⟨rfl, trivial⟩, by rw [ht]; exact hP9, va_K.moved hW.alike hK, hD9⟩, hS.F ht⟩) hS.2.2 d_Lw_count_16
set_option maxHeartbeats 4000000 in
set_option maxRecDepth 100000 in
/-- the law: count goes -/
theorem l_count3 (l : Launch) (dC : Nat → ClassId) (dI : Nat → Nat → Nat) (cT : Nat → ClassId) (sz : Nat) (ds : Nat) (dr : Nat) (sv : Nat) (rr : Nat) (g0 : Nat) (se : Nat) (pw : Nat) (ty : Nat) (an : Nat) (aw : Nat) (ts : Nat) (ss : Nat) (rq : Nat) (tm : Int32) (f : Nat → Int32) (a1 : Nat) (a2 : Int32) (t1 : Nat) (t2 : Int64) (t3 : Int64) (s1 : Nat) (ou : Nat) (fo : Nat → Int64)  : Met l y_Lw_count (Cond.codeWith y_Lw_count b_Lw_count 4 (Option.some Jvm.ClassFile.FieldType.int) [((0 : Nat), (9 : Nat), (12 : Nat), (13 : Nat))] :: BIG) ({ frames := 1, cells := 0, slots := 0, locals := 30 }) (va_Pc [.ref ds, .int 3, .ref ou] (fun U => U.heap.size = sz ∧ va_P (dC, dI) vcl [(ds, .inr (0, [.ref dr, .ref sv])), (dr, .inr (2, [.ref rr, .int (nI 20)])), (rr, .inl ((cT 0), 1000, .inl f)), (sv, .inr (5, [.ref se, .ref pw, .ref g0, .ref ty, .ref an, .ref aw, .ref ts, .ref ss, .ref rq, .int tm, .int 0, .int 0])), (aw, .inr (6, [.ref a1, .int a2, .int 0])), (ts, .inr (9, [.ref t1, .long t2, .long t3, .int 0])), (ss, .inr (11, [.ref s1, .int 0])), (ou, .inl ((cT 1), 1, .inr (.inl fo)))] U.heap ∧ va_K (dC, dI) vcl (tyL cT) U ∧ va_D (fun _ => True) [(ds, .inr (0, [.ref dr, .ref sv])), (dr, .inr (2, [.ref rr, .int (nI 20)])), (rr, .inl ((cT 0), 1000, .inl f)), (sv, .inr (5, [.ref se, .ref pw, .ref g0, .ref ty, .ref an, .ref aw, .ref ts, .ref ss, .ref rq, .int tm, .int 0, .int 0])), (aw, .inr (6, [.ref a1, .int a2, .int 0])), (ts, .inr (9, [.ref t1, .long t2, .long t3, .int 0])), (ss, .inr (11, [.ref s1, .int 0])), (ou, .inl ((cT 1), 1, .inr (.inl fo)))])) (va_Qi (S := Unit) (fun rv9 u => rv9 = 0 ∧ (True)) (fun u t => va_P (dC, dI) vcl [(ou, .inl ((cT 1), 1, .inr (.inl (vp_updL fo (0 : Int32).toNatClampNeg ((0 : Int32).toInt64)))))] t.heap ∧ va_K (dC, dI) vcl (tyL cT) t ∧ va_D (va_A [(ds, .inr (0, [.ref dr, .ref sv])), (dr, .inr (2, [.ref rr, .int (nI 20)])), (rr, .inl ((cT 0), 1000, .inl f)), (sv, .inr (5, [.ref se, .ref pw, .ref g0, .ref ty, .ref an, .ref aw, .ref ts, .ref ss, .ref rq, .int tm, .int 0, .int 0])), (aw, .inr (6, [.ref a1, .int a2, .int 0])), (ts, .inr (9, [.ref t1, .long t2, .long t3, .int 0])), (ss, .inr (11, [.ref s1, .int 0])), (ou, .inl ((cT 1), 1, .inr (.inl fo)))] sz) [(ou, .inl ((cT 1), 1, .inr (.inl (vp_updL fo (0 : Int32).toNatClampNeg ((0 : Int32).toInt64)))))]) (va_A [(ds, .inr (0, [.ref dr, .ref sv])), (dr, .inr (2, [.ref rr, .int (nI 20)])), (rr, .inl ((cT 0), 1000, .inl f)), (sv, .inr (5, [.ref se, .ref pw, .ref g0, .ref ty, .ref an, .ref aw, .ref ts, .ref ss, .ref rq, .int tm, .int 0, .int 0])), (aw, .inr (6, [.ref a1, .int a2, .int 0])), (ts, .inr (9, [.ref t1, .long t2, .long t3, .int 0])), (ss, .inr (11, [.ref s1, .int 0])), (ou, .inl ((cT 1), 1, .inr (.inl fo)))] sz)) 0 0 (va_A [(ds, .inr (0, [.ref dr, .ref sv])), (dr, .inr (2, [.ref rr, .int (nI 20)])), (rr, .inl ((cT 0), 1000, .inl f)), (sv, .inr (5, [.ref se, .ref pw, .ref g0, .ref ty, .ref an, .ref aw, .ref ts, .ref ss, .ref rq, .int tm, .int 0, .int 0])), (aw, .inr (6, [.ref a1, .int a2, .int 0])), (ts, .inr (9, [.ref t1, .long t2, .long t3, .int 0])), (ss, .inr (11, [.ref s1, .int 0])), (ou, .inl ((cT 1), 1, .inr (.inl fo)))] sz) := by
  refine xw_Met (cc := b_Lw_count) (maxL := 4) (ret := (Option.some Jvm.ClassFile.FieldType.int)) (hh := [((0 : Nat), (9 : Nat), (12 : Nat), (13 : Nat))]) (by decide) rfl ?_
  intro p e s m args below meth c s₁ B hml hv htab
  obtain ⟨hargs, hsz, hP, hK, hD0⟩ := hv
  have hx := B.exec
  have hb := B.bytes
  have hr := B.returns
  have hts := atoms_spec (ws := (Cond.codeWith y_Lw_count b_Lw_count 4 (Option.some Jvm.ClassFile.FieldType.int) [((0 : Nat), (9 : Nat), (12 : Nat), (13 : Nat))] :: BIG)) B.pre
  have hg : ∀ w ∈ BIG, w.before _ s = true := fun w h => hts w (List.mem_cons_of_mem _ h)
  have hown : s.vm.findClass "DoorServerLaw" = some m.cls := findClass_of_methodNamed B.named
  have hlocks := B.notSynchronized
  subst hsz
  have hD := hD0.self (sz := s.heap.size)
  generalize hAe : va_A [(ds, .inr (0, [.ref dr, .ref sv])), (dr, .inr (2, [.ref rr, .int (nI 20)])), (rr, .inl ((cT 0), 1000, .inl f)), (sv, .inr (5, [.ref se, .ref pw, .ref g0, .ref ty, .ref an, .ref aw, .ref ts, .ref ss, .ref rq, .int tm, .int 0, .int 0])), (aw, .inr (6, [.ref a1, .int a2, .int 0])), (ts, .inr (9, [.ref t1, .long t2, .long t3, .int 0])), (ss, .inr (11, [.ref s1, .int 0])), (ou, .inl ((cT 1), 1, .inr (.inl fo)))] s.heap.size = A at hD ⊢
  have hA : ∀ q : Nat, s.heap.size ≤ q → A q := fun q h => by rw [← hAe]; exact Or.inr h
  have hS : va_S A s.heap s.heap [] := va_S.rf
  have hl := lv_entry ([.ref ds, .int 3, .ref ou]) (n := 4) (Nat.le_of_ble_eq_true rfl)
  refine W.eq (g2 := entryFrame m (List.toArray [.ref ds, .int 3, .ref ou]) 4) (by rw [hargs]) ?_
  rw [lg_entry_eq]
  generalize (lg_sl ([.ref ds, .int 3, .ref ou]) ++ List.replicate (4 - (lg_sl ([.ref ds, .int 3, .ref ou])).length) Slot.unset).toArray = ls at hl ⊢
  have hl : lv_has ls 4 [(0, .ref ds), (1, .int 3), (2, .ref ou)] := hl
  change W p l e ({ frames := 1, cells := 0, slots := 0, locals := 30 } : Room) s m args below meth c s.heap [] 0 0 _ _
  have hP : va_P (dC, dI) vcl [(ds, .inr (0, [.ref dr, .ref sv])), (dr, .inr (2, [.ref rr, .int (nI 20)])), (rr, .inl ((cT 0), 1000, .inl f)), (sv, .inr (5, [.ref se, .ref pw, .ref g0, .ref ty, .ref an, .ref aw, .ref ts, .ref ss, .ref rq, .int tm, .int 0, .int 0])), (aw, .inr (6, [.ref a1, .int a2, .int 0])), (ts, .inr (9, [.ref t1, .long t2, .long t3, .int 0])), (ss, .inr (11, [.ref s1, .int 0])), (ou, .inl ((cT 1), 1, .inr (.inl fo)))] s.heap := hP
  refine lv_aload_n hx hb d_Lw_count_0 rfl (lv_at hl 2 rfl) ?_
  refine lv_iconst (v := 0) hx hb d_Lw_count_1 (by decide) ?_
  refine lv_aload_n hx hb d_Lw_count_2 rfl (lv_at hl 0 rfl) ?_
  refine lv_iload_n hx hb d_Lw_count_3 rfl (lv_at hl 1 rfl) ?_
  have hPc := hP.sub (ws' := [(ds, .inr (0, [.ref dr, .ref sv])), (dr, .inr (2, [.ref rr, .int (nI 20)])), (rr, .inl ((cT 0), 1000, .inl f)), (sv, .inr (5, [.ref se, .ref pw, .ref g0, .ref ty, .ref an, .ref aw, .ref ts, .ref ss, .ref rq, .int tm, .int 0, .int 0])), (aw, .inr (6, [.ref a1, .int a2, .int 0])), (ts, .inr (9, [.ref t1, .long t2, .long t3, .int 0])), (ss, .inr (11, [.ref s1, .int 0]))]) [0, 1, 2, 3, 4, 5, 6] rfl
  have hDc := hD.sub (ws' := [(ds, .inr (0, [.ref dr, .ref sv])), (dr, .inr (2, [.ref rr, .int (nI 20)])), (rr, .inl ((cT 0), 1000, .inl f)), (sv, .inr (5, [.ref se, .ref pw, .ref g0, .ref ty, .ref an, .ref aw, .ref ts, .ref ss, .ref rq, .int tm, .int 0, .int 0])), (aw, .inr (6, [.ref a1, .int a2, .int 0])), (ts, .inr (9, [.ref t1, .long t2, .long t3, .int 0])), (ss, .inr (11, [.ref s1, .int 0]))]) [0, 1, 2, 3, 4, 5, 6] (by decide) rfl
  have hFc := va_free (wc := [(ds, .inr (0, [.ref dr, .ref sv])), (dr, .inr (2, [.ref rr, .int (nI 20)])), (rr, .inl ((cT 0), 1000, .inl f)), (sv, .inr (5, [.ref se, .ref pw, .ref g0, .ref ty, .ref an, .ref aw, .ref ts, .ref ss, .ref rq, .int tm, .int 0, .int 0])), (aw, .inr (6, [.ref a1, .int a2, .int 0])), (ts, .inr (9, [.ref t1, .long t2, .long t3, .int 0])), (ss, .inr (11, [.ref s1, .int 0]))]) hD hS hA [0, 1, 2, 3, 4, 5, 6] rfl
  refine va_calli (va_runV (C := "DoorServer") (As := [.int 3]) (rest := [.int 0, .ref ou]) ⟨hx, hb, hml, hown, hg⟩ (c_count3 l dC dI cT s.heap.size ds dr sv rr g0 se pw ty an aw ts ss rq tm f a1 a2 t1 t2 t3 s1 ) (cwV 1 hg (gI (List.forall_mem_append.mpr ⟨List.forall_mem_cons.mpr ⟨k_930, List.forall_mem_cons.mpr ⟨k_931, List.forall_mem_cons.mpr ⟨k_932, List.forall_mem_cons.mpr ⟨k_1, fun _ h => absurd h List.not_mem_nil⟩⟩⟩⟩, List.forall_mem_cons.mpr ⟨k_933, fun _ h => h⟩⟩)) rfl rfl rfl (by decide +kernel) ⟨Nat.le_of_ble_eq_true rfl, Nat.le_of_ble_eq_true rfl⟩) ⟨fun a U g mk q => by obtain ⟨q0, q1, qP, qK, qD⟩ := q; exact ⟨q0, q1, qP, va_K.moved (u := U) (U := U.calling g mk a) (Vm.Alike.refl U.vm) qK, qD⟩, va_recv (q0 := 0) (ci := 0) hK hP rfl rfl, fun U hU hW => ⟨rfl, by rw [hU], by rw [hU]; exact hPc, va_K.moved hW.alike hK, hDc.weaken (fun _ _ _ _ => trivial)⟩⟩ rfl rfl hl.1 rfl (lv_room (Nat.le_of_ble_eq_true rfl)) d_Lw_count_4 ⟨Nat.le_of_ble_eq_true rfl, Nat.le_of_ble_eq_true rfl⟩) hS (fun q _ h => hFc q h) hFc (fun rv9 u t H1 locs ht hvm hw hB hz1 hk1 hS => ?_)
  try dsimp only at hw hB
  obtain ⟨hP1, hK1, hD1⟩ := hB
  rw [ht] at hP1
  obtain ⟨rfl, hw⟩ := hw
  obtain ⟨hP, hD⟩ := va_join (wr := [(ou, .inl ((cT 1), 1, .inr (.inl fo)))]) (w1 := []) hP hD [0, 1, 2, 3, 4, 5, 6] [7] rfl rfl (by decide) (by decide) hk1 hFc hP1 hD1
  have hw19 := hw
  clear hPc hDc hFc hz1 hk1 hP1 hK1 hD1
  generalize H1 = H at hP hS ⊢
  have hP : va_P (dC, dI) vcl [(ou, .inl ((cT 1), 1, .inr (.inl fo)))] H := hP
  have hD : va_D A [(ou, .inl ((cT 1), 1, .inr (.inl fo)))] := hD
  refine lv_i2l (v := (0 : Int32).toInt64) hx hb d_Lw_count_7 rfl ?_
  refine va_last hx hb hK hP hD hS 0 1 rfl rfl (i := 0) (vp_in_nI (n := 0) (N := 1) (by decide) (by decide)) d_Lw_count_8 (fun H locs hP hD hS => ?_)
  have hP : va_P (dC, dI) vcl [(ou, .inl ((cT 1), 1, .inr (.inl (vp_updL fo (0 : Int32).toNatClampNeg ((0 : Int32).toInt64)))))] H := hP
  have hD : va_D A [(ou, .inl ((cT 1), 1, .inr (.inl (vp_updL fo (0 : Int32).toNatClampNeg ((0 : Int32).toInt64)))))] := hD
  refine lv_goto (tgt := 15) hx hb d_Lw_count_9 (by decide) ?_
  refine lv_iconst (v := 0) hx hb d_Lw_count_15 (by decide) ?_
  have hP9 := hP.sub (ws' := [(ou, .inl ((cT 1), 1, .inr (.inl (vp_updL fo (0 : Int32).toNatClampNeg ((0 : Int32).toInt64)))))]) [0] rfl
  have hD9 := hD.sub (ws' := [(ou, .inl ((cT 1), 1, .inr (.inl (vp_updL fo (0 : Int32).toNatClampNeg ((0 : Int32).toInt64)))))]) [0] (by decide) rfl
  exact W.iret (v := 0) hx hb hr (fun t ht hW => ⟨⟨_, (), rfl, ⟨rfl, trivial⟩, by rw [ht]; exact hP9, va_K.moved hW.alike hK, hD9⟩, hS.F ht⟩) hS.2.2 d_Lw_count_16
set_option maxHeartbeats 4000000 in
set_option maxRecDepth 100000 in
/-- the law: count goes -/
theorem l_count4 (l : Launch) (dC : Nat → ClassId) (dI : Nat → Nat → Nat) (cT : Nat → ClassId) (sz : Nat) (ds : Nat) (dr : Nat) (sv : Nat) (rr : Nat) (g0 : Nat) (se : Nat) (pw : Nat) (ty : Nat) (an : Nat) (aw : Nat) (ts : Nat) (ss : Nat) (rq : Nat) (tm : Int32) (f : Nat → Int32) (a1 : Nat) (a2 : Int32) (t1 : Nat) (t2 : Int64) (t3 : Int64) (s1 : Nat) (ou : Nat) (fo : Nat → Int64)  : Met l y_Lw_count (Cond.codeWith y_Lw_count b_Lw_count 4 (Option.some Jvm.ClassFile.FieldType.int) [((0 : Nat), (9 : Nat), (12 : Nat), (13 : Nat))] :: BIG) ({ frames := 1, cells := 0, slots := 0, locals := 30 }) (va_Pc [.ref ds, .int 4, .ref ou] (fun U => U.heap.size = sz ∧ va_P (dC, dI) vcl [(ds, .inr (0, [.ref dr, .ref sv])), (dr, .inr (2, [.ref rr, .int (nI 20)])), (rr, .inl ((cT 0), 1000, .inl f)), (sv, .inr (5, [.ref se, .ref pw, .ref g0, .ref ty, .ref an, .ref aw, .ref ts, .ref ss, .ref rq, .int tm, .int 0, .int 0])), (aw, .inr (6, [.ref a1, .int a2, .int 0])), (ts, .inr (9, [.ref t1, .long t2, .long t3, .int 0])), (ss, .inr (11, [.ref s1, .int 0])), (ou, .inl ((cT 1), 1, .inr (.inl fo)))] U.heap ∧ va_K (dC, dI) vcl (tyL cT) U ∧ va_D (fun _ => True) [(ds, .inr (0, [.ref dr, .ref sv])), (dr, .inr (2, [.ref rr, .int (nI 20)])), (rr, .inl ((cT 0), 1000, .inl f)), (sv, .inr (5, [.ref se, .ref pw, .ref g0, .ref ty, .ref an, .ref aw, .ref ts, .ref ss, .ref rq, .int tm, .int 0, .int 0])), (aw, .inr (6, [.ref a1, .int a2, .int 0])), (ts, .inr (9, [.ref t1, .long t2, .long t3, .int 0])), (ss, .inr (11, [.ref s1, .int 0])), (ou, .inl ((cT 1), 1, .inr (.inl fo)))])) (va_Qi (S := Unit) (fun rv9 u => rv9 = 0 ∧ (True)) (fun u t => va_P (dC, dI) vcl [(ou, .inl ((cT 1), 1, .inr (.inl (vp_updL fo (0 : Int32).toNatClampNeg ((0 : Int32).toInt64)))))] t.heap ∧ va_K (dC, dI) vcl (tyL cT) t ∧ va_D (va_A [(ds, .inr (0, [.ref dr, .ref sv])), (dr, .inr (2, [.ref rr, .int (nI 20)])), (rr, .inl ((cT 0), 1000, .inl f)), (sv, .inr (5, [.ref se, .ref pw, .ref g0, .ref ty, .ref an, .ref aw, .ref ts, .ref ss, .ref rq, .int tm, .int 0, .int 0])), (aw, .inr (6, [.ref a1, .int a2, .int 0])), (ts, .inr (9, [.ref t1, .long t2, .long t3, .int 0])), (ss, .inr (11, [.ref s1, .int 0])), (ou, .inl ((cT 1), 1, .inr (.inl fo)))] sz) [(ou, .inl ((cT 1), 1, .inr (.inl (vp_updL fo (0 : Int32).toNatClampNeg ((0 : Int32).toInt64)))))]) (va_A [(ds, .inr (0, [.ref dr, .ref sv])), (dr, .inr (2, [.ref rr, .int (nI 20)])), (rr, .inl ((cT 0), 1000, .inl f)), (sv, .inr (5, [.ref se, .ref pw, .ref g0, .ref ty, .ref an, .ref aw, .ref ts, .ref ss, .ref rq, .int tm, .int 0, .int 0])), (aw, .inr (6, [.ref a1, .int a2, .int 0])), (ts, .inr (9, [.ref t1, .long t2, .long t3, .int 0])), (ss, .inr (11, [.ref s1, .int 0])), (ou, .inl ((cT 1), 1, .inr (.inl fo)))] sz)) 0 0 (va_A [(ds, .inr (0, [.ref dr, .ref sv])), (dr, .inr (2, [.ref rr, .int (nI 20)])), (rr, .inl ((cT 0), 1000, .inl f)), (sv, .inr (5, [.ref se, .ref pw, .ref g0, .ref ty, .ref an, .ref aw, .ref ts, .ref ss, .ref rq, .int tm, .int 0, .int 0])), (aw, .inr (6, [.ref a1, .int a2, .int 0])), (ts, .inr (9, [.ref t1, .long t2, .long t3, .int 0])), (ss, .inr (11, [.ref s1, .int 0])), (ou, .inl ((cT 1), 1, .inr (.inl fo)))] sz) := by
  refine xw_Met (cc := b_Lw_count) (maxL := 4) (ret := (Option.some Jvm.ClassFile.FieldType.int)) (hh := [((0 : Nat), (9 : Nat), (12 : Nat), (13 : Nat))]) (by decide) rfl ?_
  intro p e s m args below meth c s₁ B hml hv htab
  obtain ⟨hargs, hsz, hP, hK, hD0⟩ := hv
  have hx := B.exec
  have hb := B.bytes
  have hr := B.returns
  have hts := atoms_spec (ws := (Cond.codeWith y_Lw_count b_Lw_count 4 (Option.some Jvm.ClassFile.FieldType.int) [((0 : Nat), (9 : Nat), (12 : Nat), (13 : Nat))] :: BIG)) B.pre
  have hg : ∀ w ∈ BIG, w.before _ s = true := fun w h => hts w (List.mem_cons_of_mem _ h)
  have hown : s.vm.findClass "DoorServerLaw" = some m.cls := findClass_of_methodNamed B.named
  have hlocks := B.notSynchronized
  subst hsz
  have hD := hD0.self (sz := s.heap.size)
  generalize hAe : va_A [(ds, .inr (0, [.ref dr, .ref sv])), (dr, .inr (2, [.ref rr, .int (nI 20)])), (rr, .inl ((cT 0), 1000, .inl f)), (sv, .inr (5, [.ref se, .ref pw, .ref g0, .ref ty, .ref an, .ref aw, .ref ts, .ref ss, .ref rq, .int tm, .int 0, .int 0])), (aw, .inr (6, [.ref a1, .int a2, .int 0])), (ts, .inr (9, [.ref t1, .long t2, .long t3, .int 0])), (ss, .inr (11, [.ref s1, .int 0])), (ou, .inl ((cT 1), 1, .inr (.inl fo)))] s.heap.size = A at hD ⊢
  have hA : ∀ q : Nat, s.heap.size ≤ q → A q := fun q h => by rw [← hAe]; exact Or.inr h
  have hS : va_S A s.heap s.heap [] := va_S.rf
  have hl := lv_entry ([.ref ds, .int 4, .ref ou]) (n := 4) (Nat.le_of_ble_eq_true rfl)
  refine W.eq (g2 := entryFrame m (List.toArray [.ref ds, .int 4, .ref ou]) 4) (by rw [hargs]) ?_
  rw [lg_entry_eq]
  generalize (lg_sl ([.ref ds, .int 4, .ref ou]) ++ List.replicate (4 - (lg_sl ([.ref ds, .int 4, .ref ou])).length) Slot.unset).toArray = ls at hl ⊢
  have hl : lv_has ls 4 [(0, .ref ds), (1, .int 4), (2, .ref ou)] := hl
  change W p l e ({ frames := 1, cells := 0, slots := 0, locals := 30 } : Room) s m args below meth c s.heap [] 0 0 _ _
  have hP : va_P (dC, dI) vcl [(ds, .inr (0, [.ref dr, .ref sv])), (dr, .inr (2, [.ref rr, .int (nI 20)])), (rr, .inl ((cT 0), 1000, .inl f)), (sv, .inr (5, [.ref se, .ref pw, .ref g0, .ref ty, .ref an, .ref aw, .ref ts, .ref ss, .ref rq, .int tm, .int 0, .int 0])), (aw, .inr (6, [.ref a1, .int a2, .int 0])), (ts, .inr (9, [.ref t1, .long t2, .long t3, .int 0])), (ss, .inr (11, [.ref s1, .int 0])), (ou, .inl ((cT 1), 1, .inr (.inl fo)))] s.heap := hP
  refine lv_aload_n hx hb d_Lw_count_0 rfl (lv_at hl 2 rfl) ?_
  refine lv_iconst (v := 0) hx hb d_Lw_count_1 (by decide) ?_
  refine lv_aload_n hx hb d_Lw_count_2 rfl (lv_at hl 0 rfl) ?_
  refine lv_iload_n hx hb d_Lw_count_3 rfl (lv_at hl 1 rfl) ?_
  have hPc := hP.sub (ws' := [(ds, .inr (0, [.ref dr, .ref sv])), (dr, .inr (2, [.ref rr, .int (nI 20)])), (rr, .inl ((cT 0), 1000, .inl f)), (sv, .inr (5, [.ref se, .ref pw, .ref g0, .ref ty, .ref an, .ref aw, .ref ts, .ref ss, .ref rq, .int tm, .int 0, .int 0])), (aw, .inr (6, [.ref a1, .int a2, .int 0])), (ts, .inr (9, [.ref t1, .long t2, .long t3, .int 0])), (ss, .inr (11, [.ref s1, .int 0]))]) [0, 1, 2, 3, 4, 5, 6] rfl
  have hDc := hD.sub (ws' := [(ds, .inr (0, [.ref dr, .ref sv])), (dr, .inr (2, [.ref rr, .int (nI 20)])), (rr, .inl ((cT 0), 1000, .inl f)), (sv, .inr (5, [.ref se, .ref pw, .ref g0, .ref ty, .ref an, .ref aw, .ref ts, .ref ss, .ref rq, .int tm, .int 0, .int 0])), (aw, .inr (6, [.ref a1, .int a2, .int 0])), (ts, .inr (9, [.ref t1, .long t2, .long t3, .int 0])), (ss, .inr (11, [.ref s1, .int 0]))]) [0, 1, 2, 3, 4, 5, 6] (by decide) rfl
  have hFc := va_free (wc := [(ds, .inr (0, [.ref dr, .ref sv])), (dr, .inr (2, [.ref rr, .int (nI 20)])), (rr, .inl ((cT 0), 1000, .inl f)), (sv, .inr (5, [.ref se, .ref pw, .ref g0, .ref ty, .ref an, .ref aw, .ref ts, .ref ss, .ref rq, .int tm, .int 0, .int 0])), (aw, .inr (6, [.ref a1, .int a2, .int 0])), (ts, .inr (9, [.ref t1, .long t2, .long t3, .int 0])), (ss, .inr (11, [.ref s1, .int 0]))]) hD hS hA [0, 1, 2, 3, 4, 5, 6] rfl
  refine va_calli (va_runV (C := "DoorServer") (As := [.int 4]) (rest := [.int 0, .ref ou]) ⟨hx, hb, hml, hown, hg⟩ (c_count4 l dC dI cT s.heap.size ds dr sv rr g0 se pw ty an aw ts ss rq tm f a1 a2 t1 t2 t3 s1 ) (cwV 1 hg (gI (List.forall_mem_append.mpr ⟨List.forall_mem_cons.mpr ⟨k_930, List.forall_mem_cons.mpr ⟨k_931, List.forall_mem_cons.mpr ⟨k_932, List.forall_mem_cons.mpr ⟨k_1, fun _ h => absurd h List.not_mem_nil⟩⟩⟩⟩, List.forall_mem_cons.mpr ⟨k_933, fun _ h => h⟩⟩)) rfl rfl rfl (by decide +kernel) ⟨Nat.le_of_ble_eq_true rfl, Nat.le_of_ble_eq_true rfl⟩) ⟨fun a U g mk q => by obtain ⟨q0, q1, qP, qK, qD⟩ := q; exact ⟨q0, q1, qP, va_K.moved (u := U) (U := U.calling g mk a) (Vm.Alike.refl U.vm) qK, qD⟩, va_recv (q0 := 0) (ci := 0) hK hP rfl rfl, fun U hU hW => ⟨rfl, by rw [hU], by rw [hU]; exact hPc, va_K.moved hW.alike hK, hDc.weaken (fun _ _ _ _ => trivial)⟩⟩ rfl rfl hl.1 rfl (lv_room (Nat.le_of_ble_eq_true rfl)) d_Lw_count_4 ⟨Nat.le_of_ble_eq_true rfl, Nat.le_of_ble_eq_true rfl⟩) hS (fun q _ h => hFc q h) hFc (fun rv9 u t H1 locs ht hvm hw hB hz1 hk1 hS => ?_)
  try dsimp only at hw hB
  obtain ⟨hP1, hK1, hD1⟩ := hB
  rw [ht] at hP1
  obtain ⟨rfl, hw⟩ := hw
  obtain ⟨hP, hD⟩ := va_join (wr := [(ou, .inl ((cT 1), 1, .inr (.inl fo)))]) (w1 := []) hP hD [0, 1, 2, 3, 4, 5, 6] [7] rfl rfl (by decide) (by decide) hk1 hFc hP1 hD1
  have hw20 := hw
  clear hPc hDc hFc hz1 hk1 hP1 hK1 hD1
  generalize H1 = H at hP hS ⊢
  have hP : va_P (dC, dI) vcl [(ou, .inl ((cT 1), 1, .inr (.inl fo)))] H := hP
  have hD : va_D A [(ou, .inl ((cT 1), 1, .inr (.inl fo)))] := hD
  refine lv_i2l (v := (0 : Int32).toInt64) hx hb d_Lw_count_7 rfl ?_
  refine va_last hx hb hK hP hD hS 0 1 rfl rfl (i := 0) (vp_in_nI (n := 0) (N := 1) (by decide) (by decide)) d_Lw_count_8 (fun H locs hP hD hS => ?_)
  have hP : va_P (dC, dI) vcl [(ou, .inl ((cT 1), 1, .inr (.inl (vp_updL fo (0 : Int32).toNatClampNeg ((0 : Int32).toInt64)))))] H := hP
  have hD : va_D A [(ou, .inl ((cT 1), 1, .inr (.inl (vp_updL fo (0 : Int32).toNatClampNeg ((0 : Int32).toInt64)))))] := hD
  refine lv_goto (tgt := 15) hx hb d_Lw_count_9 (by decide) ?_
  refine lv_iconst (v := 0) hx hb d_Lw_count_15 (by decide) ?_
  have hP9 := hP.sub (ws' := [(ou, .inl ((cT 1), 1, .inr (.inl (vp_updL fo (0 : Int32).toNatClampNeg ((0 : Int32).toInt64)))))]) [0] rfl
  have hD9 := hD.sub (ws' := [(ou, .inl ((cT 1), 1, .inr (.inl (vp_updL fo (0 : Int32).toNatClampNeg ((0 : Int32).toInt64)))))]) [0] (by decide) rfl
  exact W.iret (v := 0) hx hb hr (fun t ht hW => ⟨⟨_, (), rfl, ⟨rfl, trivial⟩, by rw [ht]; exact hP9, va_K.moved hW.alike hK, hD9⟩, hS.F ht⟩) hS.2.2 d_Lw_count_16
set_option maxHeartbeats 4000000 in
set_option maxRecDepth 100000 in
/-- the law: count goes -/
theorem l_count5 (l : Launch) (dC : Nat → ClassId) (dI : Nat → Nat → Nat) (cT : Nat → ClassId) (sz : Nat) (ds : Nat) (dr : Nat) (sv : Nat) (rr : Nat) (g0 : Nat) (se : Nat) (pw : Nat) (ty : Nat) (an : Nat) (aw : Nat) (ts : Nat) (ss : Nat) (rq : Nat) (tm : Int32) (f : Nat → Int32) (a1 : Nat) (a2 : Int32) (t1 : Nat) (t2 : Int64) (t3 : Int64) (s1 : Nat) (ou : Nat) (fo : Nat → Int64)  : Met l y_Lw_count (Cond.codeWith y_Lw_count b_Lw_count 4 (Option.some Jvm.ClassFile.FieldType.int) [((0 : Nat), (9 : Nat), (12 : Nat), (13 : Nat))] :: BIG) ({ frames := 1, cells := 0, slots := 0, locals := 30 }) (va_Pc [.ref ds, .int 5, .ref ou] (fun U => U.heap.size = sz ∧ va_P (dC, dI) vcl [(ds, .inr (0, [.ref dr, .ref sv])), (dr, .inr (2, [.ref rr, .int (nI 20)])), (rr, .inl ((cT 0), 1000, .inl f)), (sv, .inr (5, [.ref se, .ref pw, .ref g0, .ref ty, .ref an, .ref aw, .ref ts, .ref ss, .ref rq, .int tm, .int 0, .int 0])), (aw, .inr (6, [.ref a1, .int a2, .int 0])), (ts, .inr (9, [.ref t1, .long t2, .long t3, .int 0])), (ss, .inr (11, [.ref s1, .int 0])), (ou, .inl ((cT 1), 1, .inr (.inl fo)))] U.heap ∧ va_K (dC, dI) vcl (tyL cT) U ∧ va_D (fun _ => True) [(ds, .inr (0, [.ref dr, .ref sv])), (dr, .inr (2, [.ref rr, .int (nI 20)])), (rr, .inl ((cT 0), 1000, .inl f)), (sv, .inr (5, [.ref se, .ref pw, .ref g0, .ref ty, .ref an, .ref aw, .ref ts, .ref ss, .ref rq, .int tm, .int 0, .int 0])), (aw, .inr (6, [.ref a1, .int a2, .int 0])), (ts, .inr (9, [.ref t1, .long t2, .long t3, .int 0])), (ss, .inr (11, [.ref s1, .int 0])), (ou, .inl ((cT 1), 1, .inr (.inl fo)))])) (va_Qi (S := Unit) (fun rv9 u => rv9 = 0 ∧ (True)) (fun u t => va_P (dC, dI) vcl [(ou, .inl ((cT 1), 1, .inr (.inl (vp_updL fo (0 : Int32).toNatClampNeg ((20 : Int32).toInt64)))))] t.heap ∧ va_K (dC, dI) vcl (tyL cT) t ∧ va_D (va_A [(ds, .inr (0, [.ref dr, .ref sv])), (dr, .inr (2, [.ref rr, .int (nI 20)])), (rr, .inl ((cT 0), 1000, .inl f)), (sv, .inr (5, [.ref se, .ref pw, .ref g0, .ref ty, .ref an, .ref aw, .ref ts, .ref ss, .ref rq, .int tm, .int 0, .int 0])), (aw, .inr (6, [.ref a1, .int a2, .int 0])), (ts, .inr (9, [.ref t1, .long t2, .long t3, .int 0])), (ss, .inr (11, [.ref s1, .int 0])), (ou, .inl ((cT 1), 1, .inr (.inl fo)))] sz) [(ou, .inl ((cT 1), 1, .inr (.inl (vp_updL fo (0 : Int32).toNatClampNeg ((20 : Int32).toInt64)))))]) (va_A [(ds, .inr (0, [.ref dr, .ref sv])), (dr, .inr (2, [.ref rr, .int (nI 20)])), (rr, .inl ((cT 0), 1000, .inl f)), (sv, .inr (5, [.ref se, .ref pw, .ref g0, .ref ty, .ref an, .ref aw, .ref ts, .ref ss, .ref rq, .int tm, .int 0, .int 0])), (aw, .inr (6, [.ref a1, .int a2, .int 0])), (ts, .inr (9, [.ref t1, .long t2, .long t3, .int 0])), (ss, .inr (11, [.ref s1, .int 0])), (ou, .inl ((cT 1), 1, .inr (.inl fo)))] sz)) 0 0 (va_A [(ds, .inr (0, [.ref dr, .ref sv])), (dr, .inr (2, [.ref rr, .int (nI 20)])), (rr, .inl ((cT 0), 1000, .inl f)), (sv, .inr (5, [.ref se, .ref pw, .ref g0, .ref ty, .ref an, .ref aw, .ref ts, .ref ss, .ref rq, .int tm, .int 0, .int 0])), (aw, .inr (6, [.ref a1, .int a2, .int 0])), (ts, .inr (9, [.ref t1, .long t2, .long t3, .int 0])), (ss, .inr (11, [.ref s1, .int 0])), (ou, .inl ((cT 1), 1, .inr (.inl fo)))] sz) := by
  refine xw_Met (cc := b_Lw_count) (maxL := 4) (ret := (Option.some Jvm.ClassFile.FieldType.int)) (hh := [((0 : Nat), (9 : Nat), (12 : Nat), (13 : Nat))]) (by decide) rfl ?_
  intro p e s m args below meth c s₁ B hml hv htab
  obtain ⟨hargs, hsz, hP, hK, hD0⟩ := hv
  have hx := B.exec
  have hb := B.bytes
  have hr := B.returns
  have hts := atoms_spec (ws := (Cond.codeWith y_Lw_count b_Lw_count 4 (Option.some Jvm.ClassFile.FieldType.int) [((0 : Nat), (9 : Nat), (12 : Nat), (13 : Nat))] :: BIG)) B.pre
  have hg : ∀ w ∈ BIG, w.before _ s = true := fun w h => hts w (List.mem_cons_of_mem _ h)
  have hown : s.vm.findClass "DoorServerLaw" = some m.cls := findClass_of_methodNamed B.named
  have hlocks := B.notSynchronized
  subst hsz
  have hD := hD0.self (sz := s.heap.size)
  generalize hAe : va_A [(ds, .inr (0, [.ref dr, .ref sv])), (dr, .inr (2, [.ref rr, .int (nI 20)])), (rr, .inl ((cT 0), 1000, .inl f)), (sv, .inr (5, [.ref se, .ref pw, .ref g0, .ref ty, .ref an, .ref aw, .ref ts, .ref ss, .ref rq, .int tm, .int 0, .int 0])), (aw, .inr (6, [.ref a1, .int a2, .int 0])), (ts, .inr (9, [.ref t1, .long t2, .long t3, .int 0])), (ss, .inr (11, [.ref s1, .int 0])), (ou, .inl ((cT 1), 1, .inr (.inl fo)))] s.heap.size = A at hD ⊢
  have hA : ∀ q : Nat, s.heap.size ≤ q → A q := fun q h => by rw [← hAe]; exact Or.inr h
  have hS : va_S A s.heap s.heap [] := va_S.rf
  have hl := lv_entry ([.ref ds, .int 5, .ref ou]) (n := 4) (Nat.le_of_ble_eq_true rfl)
  refine W.eq (g2 := entryFrame m (List.toArray [.ref ds, .int 5, .ref ou]) 4) (by rw [hargs]) ?_
  rw [lg_entry_eq]
  generalize (lg_sl ([.ref ds, .int 5, .ref ou]) ++ List.replicate (4 - (lg_sl ([.ref ds, .int 5, .ref ou])).length) Slot.unset).toArray = ls at hl ⊢
  have hl : lv_has ls 4 [(0, .ref ds), (1, .int 5), (2, .ref ou)] := hl
  change W p l e ({ frames := 1, cells := 0, slots := 0, locals := 30 } : Room) s m args below meth c s.heap [] 0 0 _ _
  have hP : va_P (dC, dI) vcl [(ds, .inr (0, [.ref dr, .ref sv])), (dr, .inr (2, [.ref rr, .int (nI 20)])), (rr, .inl ((cT 0), 1000, .inl f)), (sv, .inr (5, [.ref se, .ref pw, .ref g0, .ref ty, .ref an, .ref aw, .ref ts, .ref ss, .ref rq, .int tm, .int 0, .int 0])), (aw, .inr (6, [.ref a1, .int a2, .int 0])), (ts, .inr (9, [.ref t1, .long t2, .long t3, .int 0])), (ss, .inr (11, [.ref s1, .int 0])), (ou, .inl ((cT 1), 1, .inr (.inl fo)))] s.heap := hP
  refine lv_aload_n hx hb d_Lw_count_0 rfl (lv_at hl 2 rfl) ?_
  refine lv_iconst (v := 0) hx hb d_Lw_count_1 (by decide) ?_
  refine lv_aload_n hx hb d_Lw_count_2 rfl (lv_at hl 0 rfl) ?_
  refine lv_iload_n hx hb d_Lw_count_3 rfl (lv_at hl 1 rfl) ?_
  have hPc := hP.sub (ws' := [(ds, .inr (0, [.ref dr, .ref sv])), (dr, .inr (2, [.ref rr, .int (nI 20)])), (rr, .inl ((cT 0), 1000, .inl f)), (sv, .inr (5, [.ref se, .ref pw, .ref g0, .ref ty, .ref an, .ref aw, .ref ts, .ref ss, .ref rq, .int tm, .int 0, .int 0])), (aw, .inr (6, [.ref a1, .int a2, .int 0])), (ts, .inr (9, [.ref t1, .long t2, .long t3, .int 0])), (ss, .inr (11, [.ref s1, .int 0]))]) [0, 1, 2, 3, 4, 5, 6] rfl
  have hDc := hD.sub (ws' := [(ds, .inr (0, [.ref dr, .ref sv])), (dr, .inr (2, [.ref rr, .int (nI 20)])), (rr, .inl ((cT 0), 1000, .inl f)), (sv, .inr (5, [.ref se, .ref pw, .ref g0, .ref ty, .ref an, .ref aw, .ref ts, .ref ss, .ref rq, .int tm, .int 0, .int 0])), (aw, .inr (6, [.ref a1, .int a2, .int 0])), (ts, .inr (9, [.ref t1, .long t2, .long t3, .int 0])), (ss, .inr (11, [.ref s1, .int 0]))]) [0, 1, 2, 3, 4, 5, 6] (by decide) rfl
  have hFc := va_free (wc := [(ds, .inr (0, [.ref dr, .ref sv])), (dr, .inr (2, [.ref rr, .int (nI 20)])), (rr, .inl ((cT 0), 1000, .inl f)), (sv, .inr (5, [.ref se, .ref pw, .ref g0, .ref ty, .ref an, .ref aw, .ref ts, .ref ss, .ref rq, .int tm, .int 0, .int 0])), (aw, .inr (6, [.ref a1, .int a2, .int 0])), (ts, .inr (9, [.ref t1, .long t2, .long t3, .int 0])), (ss, .inr (11, [.ref s1, .int 0]))]) hD hS hA [0, 1, 2, 3, 4, 5, 6] rfl
  refine va_calli (va_runV (C := "DoorServer") (As := [.int 5]) (rest := [.int 0, .ref ou]) ⟨hx, hb, hml, hown, hg⟩ (c_count5 l dC dI cT s.heap.size ds dr sv rr g0 se pw ty an aw ts ss rq tm f a1 a2 t1 t2 t3 s1 ) (cwV 1 hg (gI (List.forall_mem_append.mpr ⟨List.forall_mem_cons.mpr ⟨k_930, List.forall_mem_cons.mpr ⟨k_931, List.forall_mem_cons.mpr ⟨k_932, List.forall_mem_cons.mpr ⟨k_1, fun _ h => absurd h List.not_mem_nil⟩⟩⟩⟩, List.forall_mem_cons.mpr ⟨k_933, fun _ h => h⟩⟩)) rfl rfl rfl (by decide +kernel) ⟨Nat.le_of_ble_eq_true rfl, Nat.le_of_ble_eq_true rfl⟩) ⟨fun a U g mk q => by obtain ⟨q0, q1, qP, qK, qD⟩ := q; exact ⟨q0, q1, qP, va_K.moved (u := U) (U := U.calling g mk a) (Vm.Alike.refl U.vm) qK, qD⟩, va_recv (q0 := 0) (ci := 0) hK hP rfl rfl, fun U hU hW => ⟨rfl, by rw [hU], by rw [hU]; exact hPc, va_K.moved hW.alike hK, hDc.weaken (fun _ _ _ _ => trivial)⟩⟩ rfl rfl hl.1 rfl (lv_room (Nat.le_of_ble_eq_true rfl)) d_Lw_count_4 ⟨Nat.le_of_ble_eq_true rfl, Nat.le_of_ble_eq_true rfl⟩) hS (fun q _ h => hFc q h) hFc (fun rv9 u t H1 locs ht hvm hw hB hz1 hk1 hS => ?_)
  try dsimp only at hw hB
  obtain ⟨hP1, hK1, hD1⟩ := hB
  rw [ht] at hP1
  obtain ⟨rfl, hw⟩ := hw
  obtain ⟨hP, hD⟩ := va_join (wr := [(ou, .inl ((cT 1), 1, .inr (.inl fo)))]) (w1 := []) hP hD [0, 1, 2, 3, 4, 5, 6] [7] rfl rfl (by decide) (by decide) hk1 hFc hP1 hD1
  have hw21 := hw
  clear hPc hDc hFc hz1 hk1 hP1 hK1 hD1
  generalize H1 = H at hP hS ⊢
  have hP : va_P (dC, dI) vcl [(ou, .inl ((cT 1), 1, .inr (.inl fo)))] H := hP
  have hD : va_D A [(ou, .inl ((cT 1), 1, .inr (.inl fo)))] := hD
  refine lv_i2l (v := (20 : Int32).toInt64) hx hb d_Lw_count_7 rfl ?_
  refine va_last hx hb hK hP hD hS 0 1 rfl rfl (i := 0) (vp_in_nI (n := 0) (N := 1) (by decide) (by decide)) d_Lw_count_8 (fun H locs hP hD hS => ?_)
  have hP : va_P (dC, dI) vcl [(ou, .inl ((cT 1), 1, .inr (.inl (vp_updL fo (0 : Int32).toNatClampNeg ((20 : Int32).toInt64)))))] H := hP
  have hD : va_D A [(ou, .inl ((cT 1), 1, .inr (.inl (vp_updL fo (0 : Int32).toNatClampNeg ((20 : Int32).toInt64)))))] := hD
  refine lv_goto (tgt := 15) hx hb d_Lw_count_9 (by decide) ?_
  refine lv_iconst (v := 0) hx hb d_Lw_count_15 (by decide) ?_
  have hP9 := hP.sub (ws' := [(ou, .inl ((cT 1), 1, .inr (.inl (vp_updL fo (0 : Int32).toNatClampNeg ((20 : Int32).toInt64)))))]) [0] rfl
  have hD9 := hD.sub (ws' := [(ou, .inl ((cT 1), 1, .inr (.inl (vp_updL fo (0 : Int32).toNatClampNeg ((20 : Int32).toInt64)))))]) [0] (by decide) rfl
  exact W.iret (v := 0) hx hb hr (fun t ht hW => ⟨⟨_, (), rfl, ⟨rfl, trivial⟩, by rw [ht]; exact hP9, va_K.moved hW.alike hK, hD9⟩, hS.F ht⟩) hS.2.2 d_Lw_count_16
