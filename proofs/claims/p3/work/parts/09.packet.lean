theorem d_Pk_begin_0 : decode b_Pk_begin 0 = .ok (.aload_n 0, 1) := by decide +kernel
theorem d_Pk_begin_1 : decode b_Pk_begin 1 = .ok (.iconst 0, 1) := by decide +kernel
theorem d_Pk_begin_2 : decode b_Pk_begin 2 = .ok (.putfield 9, 3) := by decide +kernel
theorem d_Pk_begin_5 : decode b_Pk_begin 5 = .ok (.aload_n 0, 1) := by decide +kernel
theorem d_Pk_begin_6 : decode b_Pk_begin 6 = .ok (.iload_n 1, 1) := by decide +kernel
theorem d_Pk_begin_7 : decode b_Pk_begin 7 = .ok (.invokevirtual 15, 3) := by decide +kernel
theorem d_Pk_begin_10 : decode b_Pk_begin 10 = .ok (.aload_n 0, 1) := by decide +kernel
theorem d_Pk_begin_11 : decode b_Pk_begin 11 = .ok (.iload_n 2, 1) := by decide +kernel
theorem d_Pk_begin_12 : decode b_Pk_begin 12 = .ok (.invokevirtual 15, 3) := by decide +kernel
theorem d_Pk_begin_15 : decode b_Pk_begin 15 = .ok (.aload_n 0, 1) := by decide +kernel
theorem d_Pk_begin_16 : decode b_Pk_begin 16 = .ok (.ldc2_w 18, 3) := by decide +kernel
theorem d_Pk_begin_19 : decode b_Pk_begin 19 = .ok (.iconst 2, 1) := by decide +kernel
theorem d_Pk_begin_20 : decode b_Pk_begin 20 = .ok (.invokevirtual 20, 3) := by decide +kernel
theorem d_Pk_begin_23 : decode b_Pk_begin 23 = .ok (.aload_n 0, 1) := by decide +kernel
theorem d_Pk_begin_24 : decode b_Pk_begin 24 = .ok (.bipush 16, 2) := by decide +kernel
theorem d_Pk_begin_26 : decode b_Pk_begin 26 = .ok (.invokevirtual 24, 3) := by decide +kernel
theorem d_Pk_begin_29 : decode b_Pk_begin 29 = .ok (.return_, 1) := by decide +kernel
theorem d_Pk_setAuthenticator_0 : decode b_Pk_setAuthenticator 0 = .ok (.iconst 0, 1) := by decide +kernel
theorem d_Pk_setAuthenticator_1 : decode b_Pk_setAuthenticator 1 = .ok (.istore_n 3, 1) := by decide +kernel
theorem d_Pk_setAuthenticator_2 : decode b_Pk_setAuthenticator 2 = .ok (.iload_n 3, 1) := by decide +kernel
theorem d_Pk_setAuthenticator_3 : decode b_Pk_setAuthenticator 3 = .ok (.bipush 8, 2) := by decide +kernel
theorem d_Pk_setAuthenticator_5 : decode b_Pk_setAuthenticator 5 = .ok (.if_icmp .ge 46, 3) := by decide +kernel
theorem d_Pk_setAuthenticator_8 : decode b_Pk_setAuthenticator 8 = .ok (.lload_n 1, 1) := by decide +kernel
theorem d_Pk_setAuthenticator_9 : decode b_Pk_setAuthenticator 9 = .ok (.bipush 8, 2) := by decide +kernel
theorem d_Pk_setAuthenticator_11 : decode b_Pk_setAuthenticator 11 = .ok (.iload_n 3, 1) := by decide +kernel
theorem d_Pk_setAuthenticator_12 : decode b_Pk_setAuthenticator 12 = .ok (.imul, 1) := by decide +kernel
theorem d_Pk_setAuthenticator_13 : decode b_Pk_setAuthenticator 13 = .ok (.lushr, 1) := by decide +kernel
theorem d_Pk_setAuthenticator_14 : decode b_Pk_setAuthenticator 14 = .ok (.l2i, 1) := by decide +kernel
theorem d_Pk_setAuthenticator_15 : decode b_Pk_setAuthenticator 15 = .ok (.sipush 255, 3) := by decide +kernel
theorem d_Pk_setAuthenticator_18 : decode b_Pk_setAuthenticator 18 = .ok (.iand, 1) := by decide +kernel
theorem d_Pk_setAuthenticator_19 : decode b_Pk_setAuthenticator 19 = .ok (.istore 4, 2) := by decide +kernel
theorem d_Pk_setAuthenticator_21 : decode b_Pk_setAuthenticator 21 = .ok (.aload_n 0, 1) := by decide +kernel
theorem d_Pk_setAuthenticator_22 : decode b_Pk_setAuthenticator 22 = .ok (.getfield 27, 3) := by decide +kernel
theorem d_Pk_setAuthenticator_25 : decode b_Pk_setAuthenticator 25 = .ok (.iconst 4, 1) := by decide +kernel
theorem d_Pk_setAuthenticator_26 : decode b_Pk_setAuthenticator 26 = .ok (.iload_n 3, 1) := by decide +kernel
theorem d_Pk_setAuthenticator_27 : decode b_Pk_setAuthenticator 27 = .ok (.iadd, 1) := by decide +kernel
theorem d_Pk_setAuthenticator_28 : decode b_Pk_setAuthenticator 28 = .ok (.iload 4, 2) := by decide +kernel
theorem d_Pk_setAuthenticator_30 : decode b_Pk_setAuthenticator 30 = .ok (.iastore, 1) := by decide +kernel
theorem d_Pk_setAuthenticator_31 : decode b_Pk_setAuthenticator 31 = .ok (.aload_n 0, 1) := by decide +kernel
theorem d_Pk_setAuthenticator_32 : decode b_Pk_setAuthenticator 32 = .ok (.getfield 27, 3) := by decide +kernel
theorem d_Pk_setAuthenticator_35 : decode b_Pk_setAuthenticator 35 = .ok (.bipush 12, 2) := by decide +kernel
theorem d_Pk_setAuthenticator_37 : decode b_Pk_setAuthenticator 37 = .ok (.iload_n 3, 1) := by decide +kernel
theorem d_Pk_setAuthenticator_38 : decode b_Pk_setAuthenticator 38 = .ok (.iadd, 1) := by decide +kernel
theorem d_Pk_setAuthenticator_39 : decode b_Pk_setAuthenticator 39 = .ok (.iload 4, 2) := by decide +kernel
theorem d_Pk_setAuthenticator_41 : decode b_Pk_setAuthenticator 41 = .ok (.bipush 90, 2) := by decide +kernel
theorem d_Pk_setAuthenticator_43 : decode b_Pk_setAuthenticator 43 = .ok (.ixor, 1) := by decide +kernel
theorem d_Pk_setAuthenticator_44 : decode b_Pk_setAuthenticator 44 = .ok (.iastore, 1) := by decide +kernel
theorem d_Pk_setAuthenticator_45 : decode b_Pk_setAuthenticator 45 = .ok (.iinc 3 1, 3) := by decide +kernel
theorem d_Pk_setAuthenticator_48 : decode b_Pk_setAuthenticator 48 = .ok (.goto (-46), 3) := by decide +kernel
theorem d_Pk_setAuthenticator_51 : decode b_Pk_setAuthenticator 51 = .ok (.return_, 1) := by decide +kernel
theorem d_Pk_tellLength_0 : decode b_Pk_tellLength 0 = .ok (.aload_n 0, 1) := by decide +kernel
theorem d_Pk_tellLength_1 : decode b_Pk_tellLength 1 = .ok (.getfield 27, 3) := by decide +kernel
theorem d_Pk_tellLength_4 : decode b_Pk_tellLength 4 = .ok (.iconst 2, 1) := by decide +kernel
theorem d_Pk_tellLength_5 : decode b_Pk_tellLength 5 = .ok (.aload_n 0, 1) := by decide +kernel
theorem d_Pk_tellLength_6 : decode b_Pk_tellLength 6 = .ok (.getfield 9, 3) := by decide +kernel
theorem d_Pk_tellLength_9 : decode b_Pk_tellLength 9 = .ok (.bipush 8, 2) := by decide +kernel
theorem d_Pk_tellLength_11 : decode b_Pk_tellLength 11 = .ok (.ishr, 1) := by decide +kernel
theorem d_Pk_tellLength_12 : decode b_Pk_tellLength 12 = .ok (.iastore, 1) := by decide +kernel
theorem d_Pk_tellLength_13 : decode b_Pk_tellLength 13 = .ok (.aload_n 0, 1) := by decide +kernel
theorem d_Pk_tellLength_14 : decode b_Pk_tellLength 14 = .ok (.getfield 27, 3) := by decide +kernel
theorem d_Pk_tellLength_17 : decode b_Pk_tellLength 17 = .ok (.iconst 3, 1) := by decide +kernel
theorem d_Pk_tellLength_18 : decode b_Pk_tellLength 18 = .ok (.aload_n 0, 1) := by decide +kernel
theorem d_Pk_tellLength_19 : decode b_Pk_tellLength 19 = .ok (.getfield 9, 3) := by decide +kernel
theorem d_Pk_tellLength_22 : decode b_Pk_tellLength 22 = .ok (.sipush 255, 3) := by decide +kernel
theorem d_Pk_tellLength_25 : decode b_Pk_tellLength 25 = .ok (.iand, 1) := by decide +kernel
theorem d_Pk_tellLength_26 : decode b_Pk_tellLength 26 = .ok (.iastore, 1) := by decide +kernel
theorem d_Pk_tellLength_27 : decode b_Pk_tellLength 27 = .ok (.return_, 1) := by decide +kernel
theorem d_Pk_open_0 : decode b_Pk_open 0 = .ok (.aload_n 0, 1) := by decide +kernel
theorem d_Pk_open_1 : decode b_Pk_open 1 = .ok (.iload_n 1, 1) := by decide +kernel
theorem d_Pk_open_2 : decode b_Pk_open 2 = .ok (.invokevirtual 15, 3) := by decide +kernel
theorem d_Pk_open_5 : decode b_Pk_open 5 = .ok (.aload_n 0, 1) := by decide +kernel
theorem d_Pk_open_6 : decode b_Pk_open 6 = .ok (.iload_n 2, 1) := by decide +kernel
theorem d_Pk_open_7 : decode b_Pk_open 7 = .ok (.iconst 2, 1) := by decide +kernel
theorem d_Pk_open_8 : decode b_Pk_open 8 = .ok (.iadd, 1) := by decide +kernel
theorem d_Pk_open_9 : decode b_Pk_open 9 = .ok (.invokevirtual 15, 3) := by decide +kernel
theorem d_Pk_open_12 : decode b_Pk_open 12 = .ok (.return_, 1) := by decide +kernel
theorem d_Pk_openTalk_0 : decode b_Pk_openTalk 0 = .ok (.aload_n 0, 1) := by decide +kernel
theorem d_Pk_openTalk_1 : decode b_Pk_openTalk 1 = .ok (.bipush 79, 2) := by decide +kernel
theorem d_Pk_openTalk_3 : decode b_Pk_openTalk 3 = .ok (.iload_n 3, 1) := by decide +kernel
theorem d_Pk_openTalk_4 : decode b_Pk_openTalk 4 = .ok (.invokevirtual 37, 3) := by decide +kernel
theorem d_Pk_openTalk_7 : decode b_Pk_openTalk 7 = .ok (.aload_n 0, 1) := by decide +kernel
theorem d_Pk_openTalk_8 : decode b_Pk_openTalk 8 = .ok (.iload_n 1, 1) := by decide +kernel
theorem d_Pk_openTalk_9 : decode b_Pk_openTalk 9 = .ok (.invokevirtual 15, 3) := by decide +kernel
theorem d_Pk_openTalk_12 : decode b_Pk_openTalk 12 = .ok (.aload_n 0, 1) := by decide +kernel
theorem d_Pk_openTalk_13 : decode b_Pk_openTalk 13 = .ok (.iload_n 2, 1) := by decide +kernel
theorem d_Pk_openTalk_14 : decode b_Pk_openTalk 14 = .ok (.invokevirtual 15, 3) := by decide +kernel
theorem d_Pk_openTalk_17 : decode b_Pk_openTalk 17 = .ok (.aload_n 0, 1) := by decide +kernel
theorem d_Pk_openTalk_18 : decode b_Pk_openTalk 18 = .ok (.iload_n 3, 1) := by decide +kernel
theorem d_Pk_openTalk_19 : decode b_Pk_openTalk 19 = .ok (.i2l, 1) := by decide +kernel
theorem d_Pk_openTalk_20 : decode b_Pk_openTalk 20 = .ok (.iconst 2, 1) := by decide +kernel
theorem d_Pk_openTalk_21 : decode b_Pk_openTalk 21 = .ok (.invokevirtual 20, 3) := by decide +kernel
theorem d_Pk_openTalk_24 : decode b_Pk_openTalk 24 = .ok (.return_, 1) := by decide +kernel
theorem d_Pk_write_0 : decode b_Pk_write 0 = .ok (.aload_n 2, 1) := by decide +kernel
theorem d_Pk_write_1 : decode b_Pk_write 1 = .ok (.iconst 0, 1) := by decide +kernel
theorem d_Pk_write_2 : decode b_Pk_write 2 = .ok (.aload_n 0, 1) := by decide +kernel
theorem d_Pk_write_3 : decode b_Pk_write 3 = .ok (.getfield 27, 3) := by decide +kernel
theorem d_Pk_write_6 : decode b_Pk_write 6 = .ok (.iload_n 1, 1) := by decide +kernel
theorem d_Pk_write_7 : decode b_Pk_write 7 = .ok (.bipush 16, 2) := by decide +kernel
theorem d_Pk_write_9 : decode b_Pk_write 9 = .ok (.invokestatic 31, 3) := by decide +kernel
theorem d_Pk_write_12 : decode b_Pk_write 12 = .ok (.return_, 1) := by decide +kernel
theorem d_Pk_findValue_0 : decode b_Pk_findValue 0 = .ok (.bipush 20, 2) := by decide +kernel
theorem d_Pk_findValue_2 : decode b_Pk_findValue 2 = .ok (.istore_n 3, 1) := by decide +kernel
theorem d_Pk_findValue_3 : decode b_Pk_findValue 3 = .ok (.iload_n 3, 1) := by decide +kernel
theorem d_Pk_findValue_4 : decode b_Pk_findValue 4 = .ok (.iconst 2, 1) := by decide +kernel
theorem d_Pk_findValue_5 : decode b_Pk_findValue 5 = .ok (.iadd, 1) := by decide +kernel
theorem d_Pk_findValue_6 : decode b_Pk_findValue 6 = .ok (.aload_n 0, 1) := by decide +kernel
theorem d_Pk_findValue_7 : decode b_Pk_findValue 7 = .ok (.getfield 9, 3) := by decide +kernel
theorem d_Pk_findValue_10 : decode b_Pk_findValue 10 = .ok (.if_icmp .gt 62, 3) := by decide +kernel
theorem d_Pk_findValue_13 : decode b_Pk_findValue 13 = .ok (.aload_n 0, 1) := by decide +kernel
theorem d_Pk_findValue_14 : decode b_Pk_findValue 14 = .ok (.getfield 27, 3) := by decide +kernel
theorem d_Pk_findValue_17 : decode b_Pk_findValue 17 = .ok (.iload_n 3, 1) := by decide +kernel
theorem d_Pk_findValue_18 : decode b_Pk_findValue 18 = .ok (.iconst 1, 1) := by decide +kernel
theorem d_Pk_findValue_19 : decode b_Pk_findValue 19 = .ok (.iadd, 1) := by decide +kernel
theorem d_Pk_findValue_20 : decode b_Pk_findValue 20 = .ok (.iaload, 1) := by decide +kernel
theorem d_Pk_findValue_21 : decode b_Pk_findValue 21 = .ok (.istore 4, 2) := by decide +kernel
theorem d_Pk_findValue_23 : decode b_Pk_findValue 23 = .ok (.iload 4, 2) := by decide +kernel
theorem d_Pk_findValue_25 : decode b_Pk_findValue 25 = .ok (.iconst 2, 1) := by decide +kernel
theorem d_Pk_findValue_26 : decode b_Pk_findValue 26 = .ok (.if_icmp .lt 14, 3) := by decide +kernel
theorem d_Pk_findValue_29 : decode b_Pk_findValue 29 = .ok (.iload_n 3, 1) := by decide +kernel
theorem d_Pk_findValue_30 : decode b_Pk_findValue 30 = .ok (.iload 4, 2) := by decide +kernel
theorem d_Pk_findValue_32 : decode b_Pk_findValue 32 = .ok (.iadd, 1) := by decide +kernel
theorem d_Pk_findValue_33 : decode b_Pk_findValue 33 = .ok (.aload_n 0, 1) := by decide +kernel
theorem d_Pk_findValue_34 : decode b_Pk_findValue 34 = .ok (.getfield 9, 3) := by decide +kernel
theorem d_Pk_findValue_37 : decode b_Pk_findValue 37 = .ok (.if_icmp .le 5, 3) := by decide +kernel
theorem d_Pk_findValue_42 : decode b_Pk_findValue 42 = .ok (.aload_n 0, 1) := by decide +kernel
theorem d_Pk_findValue_43 : decode b_Pk_findValue 43 = .ok (.getfield 27, 3) := by decide +kernel
theorem d_Pk_findValue_46 : decode b_Pk_findValue 46 = .ok (.iload_n 3, 1) := by decide +kernel
theorem d_Pk_findValue_47 : decode b_Pk_findValue 47 = .ok (.iaload, 1) := by decide +kernel
theorem d_Pk_findValue_48 : decode b_Pk_findValue 48 = .ok (.iload_n 1, 1) := by decide +kernel
theorem d_Pk_findValue_49 : decode b_Pk_findValue 49 = .ok (.if_icmp .ne 15, 3) := by decide +kernel
theorem d_Pk_findValue_64 : decode b_Pk_findValue 64 = .ok (.iload_n 3, 1) := by decide +kernel
theorem d_Pk_findValue_65 : decode b_Pk_findValue 65 = .ok (.iload 4, 2) := by decide +kernel
theorem d_Pk_findValue_67 : decode b_Pk_findValue 67 = .ok (.iadd, 1) := by decide +kernel
theorem d_Pk_findValue_68 : decode b_Pk_findValue 68 = .ok (.istore_n 3, 1) := by decide +kernel
theorem d_Pk_findValue_69 : decode b_Pk_findValue 69 = .ok (.goto (-66), 3) := by decide +kernel
theorem d_Pk_findValue_52 : decode b_Pk_findValue 52 = .ok (.iload 4, 2) := by decide +kernel
theorem d_Pk_findValue_54 : decode b_Pk_findValue 54 = .ok (.iload_n 2, 1) := by decide +kernel
theorem d_Pk_findValue_55 : decode b_Pk_findValue 55 = .ok (.iconst 2, 1) := by decide +kernel
theorem d_Pk_findValue_56 : decode b_Pk_findValue 56 = .ok (.iadd, 1) := by decide +kernel
theorem d_Pk_findValue_57 : decode b_Pk_findValue 57 = .ok (.if_icmp .ne 7, 3) := by decide +kernel
theorem d_Pk_findValue_60 : decode b_Pk_findValue 60 = .ok (.iload_n 3, 1) := by decide +kernel
theorem d_Pk_findValue_61 : decode b_Pk_findValue 61 = .ok (.iconst 2, 1) := by decide +kernel
theorem d_Pk_findValue_62 : decode b_Pk_findValue 62 = .ok (.iadd, 1) := by decide +kernel
theorem d_Pk_findValue_72 : decode b_Pk_findValue 72 = .ok (.iconst (-1), 1) := by decide +kernel
theorem d_Pk_findValue_73 : decode b_Pk_findValue 73 = .ok (.ireturn, 1) := by decide +kernel
theorem d_Pk_findValue_40 : decode b_Pk_findValue 40 = .ok (.iconst (-1), 1) := by decide +kernel
theorem d_Pk_findValue_41 : decode b_Pk_findValue 41 = .ok (.ireturn, 1) := by decide +kernel
theorem d_Pk_findValue_63 : decode b_Pk_findValue 63 = .ok (.ireturn, 1) := by decide +kernel
set_option maxHeartbeats 4000000 in
set_option maxRecDepth 100000 in
/-- begin: a head of 20 bytes -/
theorem c_Pk_begin (l : Launch) (dC : Nat → ClassId) (dI : Nat → Nat → Nat) (cT : Nat → ClassId) (sz : Nat) (h : Nat) (r : Nat) (n : Nat) (len : Nat) (f : Nat → Int32) (x : Int32) (y : Int32) (hlen : 20 ≤ n) (hn : n < 2 ^ 31) : Met l y_Pk_begin (Cond.code y_Pk_begin b_Pk_begin 3 (Option.none : Option Jvm.ClassFile.FieldType) :: BIG) ({ frames := 2, cells := 0, slots := 0, locals := 45 }) (va_Pc [.ref h, .int x, .int y] (fun U => U.heap.size = sz ∧ va_P (dC, dI) vcl [(h, .inr (2, [.ref r, .int (nI len)])), (r, .inl ((cT 0), n, .inl f))] U.heap ∧ va_K (dC, dI) vcl (tyL cT) U ∧ va_D (fun _ => True) [(h, .inr (2, [.ref r, .int (nI len)])), (r, .inl ((cT 0), n, .inl f))])) (va_Qv (S := (Nat → Int32)) (fun u => match u with | g => (g 0 = x &&& 255 ∧ g 1 = y &&& 255 ∧ g 2 = 0 ∧ g 3 = 20) ∧ (AB f → AB g)) (fun u t => match u with | g => va_P (dC, dI) vcl [(h, .inr (2, [.ref r, .int (nI 20)])), (r, .inl ((cT 0), n, .inl g))] t.heap ∧ va_K (dC, dI) vcl (tyL cT) t ∧ va_D (va_A [(h, .inr (2, [.ref r, .int (nI len)])), (r, .inl ((cT 0), n, .inl f))] sz) [(h, .inr (2, [.ref r, .int (nI 20)])), (r, .inl ((cT 0), n, .inl g))]) (va_A [(h, .inr (2, [.ref r, .int (nI len)])), (r, .inl ((cT 0), n, .inl f))] sz)) 0 0 (va_A [(h, .inr (2, [.ref r, .int (nI len)])), (r, .inl ((cT 0), n, .inl f))] sz) := by
  refine Met.ofW (cc := b_Pk_begin) (maxL := 3) (ret := (Option.none : Option Jvm.ClassFile.FieldType)) (by decide) rfl ?_
  intro p e s m args below meth c s₁ B hml hv
  obtain ⟨hargs, hsz, hP, hK, hD0⟩ := hv
  have hx := B.exec
  have hb := B.bytes
  have hr := B.returns
  have hts := atoms_spec (ws := (Cond.code y_Pk_begin b_Pk_begin 3 (Option.none : Option Jvm.ClassFile.FieldType) :: BIG)) B.pre
  have hg : ∀ w ∈ BIG, w.before _ s = true := fun w h => hts w (List.mem_cons_of_mem _ h)
  have hown : s.vm.findClass "DoorServer$Packet" = some m.cls := findClass_of_methodNamed B.named
  have hlocks := B.notSynchronized
  subst hsz
  have hD := hD0.self (sz := s.heap.size)
  generalize hAe : va_A [(h, .inr (2, [.ref r, .int (nI len)])), (r, .inl ((cT 0), n, .inl f))] s.heap.size = A at hD ⊢
  have hA : ∀ q : Nat, s.heap.size ≤ q → A q := fun q h => by rw [← hAe]; exact Or.inr h
  have hS : va_S A s.heap s.heap [] := va_S.rf
  have hl := lv_entry ([.ref h, .int x, .int y]) (n := 3) (Nat.le_of_ble_eq_true rfl)
  refine W.eq (g2 := entryFrame m (List.toArray [.ref h, .int x, .int y]) 3) (by rw [hargs]) ?_
  rw [lg_entry_eq]
  generalize (lg_sl ([.ref h, .int x, .int y]) ++ List.replicate (3 - (lg_sl ([.ref h, .int x, .int y])).length) Slot.unset).toArray = ls at hl ⊢
  have hl : lv_has ls 3 [(0, .ref h), (1, .int x), (2, .int y)] := hl
  change W p l e ({ frames := 2, cells := 0, slots := 0, locals := 45 } : Room) s m args below meth c s.heap [] 0 0 _ _
  have hP : va_P (dC, dI) vcl [(h, .inr (2, [.ref r, .int (nI len)])), (r, .inl ((cT 0), n, .inl f))] s.heap := hP
  refine lv_aload_n hx hb d_Pk_begin_0 rfl (lv_at hl 0 rfl) ?_
  refine lv_iconst (v := 0) hx hb d_Pk_begin_1 (by decide) ?_
  refine lv_topi (fun x2 e1 => ?_)
  obtain rfl : x2 = nI 0 := by rw [e1]; rfl
  refine va_put (D := (dC, dI)) (ci := 2) (v := (.int (nI 0))) (ty := .int) (C := R_Pk) (T := F_Pk) (N := 2) hx hb hg in_Pk t_Pk tok_Pk nm_Pk hown hK hP hD hS 0 rfl rfl 1 (by decide) (hg _ k_52) (fun x9 h9 => u_same (hg _ k_53) x9 h9) rfl (by decide +kernel) rfl rfl (Nat.le_of_ble_eq_true rfl) d_Pk_begin_2 (fun H locs hP hD hS => ?_)
  have hP : va_P (dC, dI) vcl [(h, .inr (2, [.ref r, .int (nI 0)])), (r, .inl ((cT 0), n, .inl f))] H := hP
  have hD : va_D A [(h, .inr (2, [.ref r, .int (nI 0)])), (r, .inl ((cT 0), n, .inl f))] := hD
  refine lv_aload_n hx hb d_Pk_begin_5 rfl (lv_at hl 0 rfl) ?_
  refine lv_iload_n hx hb d_Pk_begin_6 rfl (lv_at hl 1 rfl) ?_
  have hPc := hP.sub (ws' := [(h, .inr (2, [.ref r, .int (nI 0)])), (r, .inl ((cT 0), n, .inl f))]) [0, 1] rfl
  have hDc := hD.sub (ws' := [(h, .inr (2, [.ref r, .int (nI 0)])), (r, .inl ((cT 0), n, .inl f))]) [0, 1] (by decide) rfl
  have hFc := va_free (wc := [(h, .inr (2, [.ref r, .int (nI 0)])), (r, .inl ((cT 0), n, .inl f))]) hD hS hA [0, 1] rfl
  refine va_callv (va_runU (C := "DoorServer$Packet") (owner := "DoorServer$Bytes") (x := y_Pk_append) (As := [.int x]) (rest := []) ⟨hx, hb, hml, hown, hg⟩ (c_Pk_append l dC dI cT H.size h r n 0 f x (by omega) (hn)) (va_cwU 1 hg (gI (List.forall_mem_append.mpr ⟨List.forall_mem_cons.mpr ⟨k_72, List.forall_mem_cons.mpr ⟨k_73, List.forall_mem_cons.mpr ⟨k_75, List.forall_mem_cons.mpr ⟨k_76, List.forall_mem_cons.mpr ⟨k_2, fun _ h => absurd h List.not_mem_nil⟩⟩⟩⟩⟩, List.forall_mem_cons.mpr ⟨k_77, fun _ h => h⟩⟩)) rfl rfl rfl rfl (by decide +kernel) ⟨Nat.le_of_ble_eq_true rfl, Nat.le_of_ble_eq_true rfl⟩) ⟨fun a U g mk q => by obtain ⟨q0, q1, qP, qK, qD⟩ := q; exact ⟨q0, q1, qP, va_K.moved (u := U) (U := U.calling g mk a) (Vm.Alike.refl U.vm) qK, qD⟩, va_recv (q0 := 0) (ci := 2) hK hP rfl rfl, fun U hU hW => ⟨rfl, by rw [hU], by rw [hU]; exact hPc, va_K.moved hW.alike hK, hDc.weaken (fun _ _ _ _ => trivial)⟩⟩ rfl rfl hl.1 rfl (lv_room (Nat.le_of_ble_eq_true rfl)) d_Pk_begin_7 ⟨Nat.le_of_ble_eq_true rfl, Nat.le_of_ble_eq_true rfl⟩) hS (fun q _ h => hFc q h) hFc (fun u t H1 locs ht hvm hw hB hz1 hk1 hS => ?_)
  try dsimp only at hw hB
  obtain ⟨hP1, hK1, hD1⟩ := hB
  rw [ht] at hP1
  obtain ⟨hP, hD⟩ := va_join (wr := []) (w1 := [(h, .inr (2, [.ref r, .int (nI (0 + 1))])), (r, .inl ((cT 0), n, .inl (upd f 0 (x &&& 255))))]) hP hD [0, 1] [] rfl rfl (by decide) (by decide) hk1 hFc hP1 hD1
  have hw3 := hw
  clear hPc hDc hFc hz1 hk1 hP1 hK1 hD1
  generalize H1 = H at hP hS ⊢
  have hP : va_P (dC, dI) vcl [(h, .inr (2, [.ref r, .int (nI (0 + 1))])), (r, .inl ((cT 0), n, .inl (upd f 0 (x &&& 255))))] H := hP
  have hD : va_D A [(h, .inr (2, [.ref r, .int (nI (0 + 1))])), (r, .inl ((cT 0), n, .inl (upd f 0 (x &&& 255))))] := hD
  refine lv_aload_n hx hb d_Pk_begin_10 rfl (lv_at hl 0 rfl) ?_
  refine lv_iload_n hx hb d_Pk_begin_11 rfl (lv_at hl 2 rfl) ?_
  have hPc := hP.sub (ws' := [(h, .inr (2, [.ref r, .int (nI (0 + 1))])), (r, .inl ((cT 0), n, .inl (upd f 0 (x &&& 255))))]) [0, 1] rfl
  have hDc := hD.sub (ws' := [(h, .inr (2, [.ref r, .int (nI (0 + 1))])), (r, .inl ((cT 0), n, .inl (upd f 0 (x &&& 255))))]) [0, 1] (by decide) rfl
  have hFc := va_free (wc := [(h, .inr (2, [.ref r, .int (nI (0 + 1))])), (r, .inl ((cT 0), n, .inl (upd f 0 (x &&& 255))))]) hD hS hA [0, 1] rfl
  refine va_callv (va_runU (C := "DoorServer$Packet") (owner := "DoorServer$Bytes") (x := y_Pk_append) (As := [.int y]) (rest := []) ⟨hx, hb, hml, hown, hg⟩ (c_Pk_append l dC dI cT H.size h r n (0 + 1) (upd f 0 (x &&& 255)) y (by omega) (hn)) (va_cwU 1 hg (gI (List.forall_mem_append.mpr ⟨List.forall_mem_cons.mpr ⟨k_72, List.forall_mem_cons.mpr ⟨k_73, List.forall_mem_cons.mpr ⟨k_75, List.forall_mem_cons.mpr ⟨k_76, List.forall_mem_cons.mpr ⟨k_2, fun _ h => absurd h List.not_mem_nil⟩⟩⟩⟩⟩, List.forall_mem_cons.mpr ⟨k_77, fun _ h => h⟩⟩)) rfl rfl rfl rfl (by decide +kernel) ⟨Nat.le_of_ble_eq_true rfl, Nat.le_of_ble_eq_true rfl⟩) ⟨fun a U g mk q => by obtain ⟨q0, q1, qP, qK, qD⟩ := q; exact ⟨q0, q1, qP, va_K.moved (u := U) (U := U.calling g mk a) (Vm.Alike.refl U.vm) qK, qD⟩, va_recv (q0 := 0) (ci := 2) hK hP rfl rfl, fun U hU hW => ⟨rfl, by rw [hU], by rw [hU]; exact hPc, va_K.moved hW.alike hK, hDc.weaken (fun _ _ _ _ => trivial)⟩⟩ rfl rfl hl.1 rfl (lv_room (Nat.le_of_ble_eq_true rfl)) d_Pk_begin_12 ⟨Nat.le_of_ble_eq_true rfl, Nat.le_of_ble_eq_true rfl⟩) hS (fun q _ h => hFc q h) hFc (fun u t H1 locs ht hvm hw hB hz1 hk1 hS => ?_)
  try dsimp only at hw hB
  obtain ⟨hP1, hK1, hD1⟩ := hB
  rw [ht] at hP1
  obtain ⟨hP, hD⟩ := va_join (wr := []) (w1 := [(h, .inr (2, [.ref r, .int (nI ((0 + 1) + 1))])), (r, .inl ((cT 0), n, .inl (upd (upd f 0 (x &&& 255)) (0 + 1) (y &&& 255))))]) hP hD [0, 1] [] rfl rfl (by decide) (by decide) hk1 hFc hP1 hD1
  have hw4 := hw
  clear hPc hDc hFc hz1 hk1 hP1 hK1 hD1
  generalize H1 = H at hP hS ⊢
  have hP : va_P (dC, dI) vcl [(h, .inr (2, [.ref r, .int (nI ((0 + 1) + 1))])), (r, .inl ((cT 0), n, .inl (upd (upd f 0 (x &&& 255)) (0 + 1) (y &&& 255))))] H := hP
  have hD : va_D A [(h, .inr (2, [.ref r, .int (nI ((0 + 1) + 1))])), (r, .inl ((cT 0), n, .inl (upd (upd f 0 (x &&& 255)) (0 + 1) (y &&& 255))))] := hD
  refine lv_aload_n hx hb d_Pk_begin_15 rfl (lv_at hl 0 rfl) ?_
  refine lv_ldc2 (v := 20) hx hb hown (hg _ k_78) d_Pk_begin_16 ?_
  refine lv_iconst (v := 2) hx hb d_Pk_begin_19 (by decide) ?_
  refine lv_topi (fun x6 e5 => ?_)
  obtain rfl : x6 = nI 2 := by rw [e5]; rfl
  have hPc := hP.sub (ws' := [(h, .inr (2, [.ref r, .int (nI ((0 + 1) + 1))])), (r, .inl ((cT 0), n, .inl (upd (upd f 0 (x &&& 255)) (0 + 1) (y &&& 255))))]) [0, 1] rfl
  have hDc := hD.sub (ws' := [(h, .inr (2, [.ref r, .int (nI ((0 + 1) + 1))])), (r, .inl ((cT 0), n, .inl (upd (upd f 0 (x &&& 255)) (0 + 1) (y &&& 255))))]) [0, 1] (by decide) rfl
  have hFc := va_free (wc := [(h, .inr (2, [.ref r, .int (nI ((0 + 1) + 1))])), (r, .inl ((cT 0), n, .inl (upd (upd f 0 (x &&& 255)) (0 + 1) (y &&& 255))))]) hD hS hA [0, 1] rfl
  refine va_callv (va_runU (C := "DoorServer$Packet") (owner := "DoorServer$Bytes") (x := y_Pk_appendNumber) (As := [.long 20, .int (nI 2)]) (rest := []) ⟨hx, hb, hml, hown, hg⟩ (c_Pk_number l dC dI cT H.size h r n ((0 + 1) + 1) (upd (upd f 0 (x &&& 255)) (0 + 1) (y &&& 255)) 20 2 (by omega) (hn)) (va_cwU 2 hg (gI (List.forall_mem_append.mpr ⟨List.forall_mem_cons.mpr ⟨k_79, List.forall_mem_cons.mpr ⟨k_80, List.forall_mem_cons.mpr ⟨k_82, List.forall_mem_cons.mpr ⟨k_83, List.forall_mem_cons.mpr ⟨k_2, fun _ h => absurd h List.not_mem_nil⟩⟩⟩⟩⟩, List.forall_mem_cons.mpr ⟨k_84, fun _ h => h⟩⟩)) rfl rfl rfl rfl (by decide +kernel) ⟨Nat.le_of_ble_eq_true rfl, Nat.le_of_ble_eq_true rfl⟩) ⟨fun a U g mk q => by obtain ⟨q0, q1, qP, qK, qD⟩ := q; exact ⟨q0, q1, qP, va_K.moved (u := U) (U := U.calling g mk a) (Vm.Alike.refl U.vm) qK, qD⟩, va_recv (q0 := 0) (ci := 2) hK hP rfl rfl, fun U hU hW => ⟨rfl, by rw [hU], by rw [hU]; exact hPc, va_K.moved hW.alike hK, hDc.weaken (fun _ _ _ _ => trivial)⟩⟩ rfl rfl hl.1 rfl (lv_room (Nat.le_of_ble_eq_true rfl)) d_Pk_begin_20 ⟨Nat.le_of_ble_eq_true rfl, Nat.le_of_ble_eq_true rfl⟩) hS (fun q _ h => hFc q h) hFc (fun u t H1 locs ht hvm hw hB hz1 hk1 hS => ?_)
  obtain ⟨g_7, rfl⟩ : ∃ z, z = u := ⟨_, rfl⟩
  try dsimp only at hw hB
  obtain ⟨hP1, hK1, hD1⟩ := hB
  rw [ht] at hP1
  obtain ⟨hP, hD⟩ := va_join (wr := []) (w1 := [(h, .inr (2, [.ref r, .int (nI (((0 + 1) + 1) + 2))])), (r, .inl ((cT 0), n, .inl g_7))]) hP hD [0, 1] [] rfl rfl (by decide) (by decide) hk1 hFc hP1 hD1
  have hw8 := hw
  clear hPc hDc hFc hz1 hk1 hP1 hK1 hD1
  generalize H1 = H at hP hS ⊢
  have hP : va_P (dC, dI) vcl [(h, .inr (2, [.ref r, .int (nI (((0 + 1) + 1) + 2))])), (r, .inl ((cT 0), n, .inl g_7))] H := hP
  have hD : va_D A [(h, .inr (2, [.ref r, .int (nI (((0 + 1) + 1) + 2))])), (r, .inl ((cT 0), n, .inl g_7))] := hD
  refine lv_aload_n hx hb d_Pk_begin_23 rfl (lv_at hl 0 rfl) ?_
  refine lv_bipush (v := 16) hx hb d_Pk_begin_24 (by decide) ?_
  refine lv_topi (fun x10 e9 => ?_)
  obtain rfl : x10 = nI 16 := by rw [e9]; rfl
  have hPc := hP.sub (ws' := [(h, .inr (2, [.ref r, .int (nI (((0 + 1) + 1) + 2))])), (r, .inl ((cT 0), n, .inl g_7))]) [0, 1] rfl
  have hDc := hD.sub (ws' := [(h, .inr (2, [.ref r, .int (nI (((0 + 1) + 1) + 2))])), (r, .inl ((cT 0), n, .inl g_7))]) [0, 1] (by decide) rfl
  have hFc := va_free (wc := [(h, .inr (2, [.ref r, .int (nI (((0 + 1) + 1) + 2))])), (r, .inl ((cT 0), n, .inl g_7))]) hD hS hA [0, 1] rfl
  refine va_callv (va_runU (C := "DoorServer$Packet") (owner := "DoorServer$Bytes") (x := y_Pk_appendZeros) (As := [.int (nI 16)]) (rest := []) ⟨hx, hb, hml, hown, hg⟩ (c_Pk_zeros l dC dI cT H.size h r n (((0 + 1) + 1) + 2) g_7 16 (by omega) (hn)) (va_cwU 1 hg (gI (List.forall_mem_append.mpr ⟨List.forall_mem_cons.mpr ⟨k_86, List.forall_mem_cons.mpr ⟨k_87, List.forall_mem_cons.mpr ⟨k_89, List.forall_mem_cons.mpr ⟨k_90, List.forall_mem_cons.mpr ⟨k_2, fun _ h => absurd h List.not_mem_nil⟩⟩⟩⟩⟩, List.forall_mem_cons.mpr ⟨k_91, fun _ h => h⟩⟩)) rfl rfl rfl rfl (by decide +kernel) ⟨Nat.le_of_ble_eq_true rfl, Nat.le_of_ble_eq_true rfl⟩) ⟨fun a U g mk q => by obtain ⟨q0, q1, qP, qK, qD⟩ := q; exact ⟨q0, q1, qP, va_K.moved (u := U) (U := U.calling g mk a) (Vm.Alike.refl U.vm) qK, qD⟩, va_recv (q0 := 0) (ci := 2) hK hP rfl rfl, fun U hU hW => ⟨rfl, by rw [hU], by rw [hU]; exact hPc, va_K.moved hW.alike hK, hDc.weaken (fun _ _ _ _ => trivial)⟩⟩ rfl rfl hl.1 rfl (lv_room (Nat.le_of_ble_eq_true rfl)) d_Pk_begin_26 ⟨Nat.le_of_ble_eq_true rfl, Nat.le_of_ble_eq_true rfl⟩) hS (fun q _ h => hFc q h) hFc (fun u t H1 locs ht hvm hw hB hz1 hk1 hS => ?_)
  obtain ⟨g_11, rfl⟩ : ∃ z, z = u := ⟨_, rfl⟩
  try dsimp only at hw hB
  obtain ⟨hP1, hK1, hD1⟩ := hB
  rw [ht] at hP1
  obtain ⟨hP, hD⟩ := va_join (wr := []) (w1 := [(h, .inr (2, [.ref r, .int (nI ((((0 + 1) + 1) + 2) + 16))])), (r, .inl ((cT 0), n, .inl g_11))]) hP hD [0, 1] [] rfl rfl (by decide) (by decide) hk1 hFc hP1 hD1
  have hw12 := hw
  clear hPc hDc hFc hz1 hk1 hP1 hK1 hD1
  generalize H1 = H at hP hS ⊢
  have hP : va_P (dC, dI) vcl [(h, .inr (2, [.ref r, .int (nI ((((0 + 1) + 1) + 2) + 16))])), (r, .inl ((cT 0), n, .inl g_11))] H := hP
  have hD : va_D A [(h, .inr (2, [.ref r, .int (nI ((((0 + 1) + 1) + 2) + 16))])), (r, .inl ((cT 0), n, .inl g_11))] := hD
  have hP9 := hP.sub (ws' := [(h, .inr (2, [.ref r, .int (nI ((((0 + 1) + 1) + 2) + 16))])), (r, .inl ((cT 0), n, .inl g_11))]) [0, 1] rfl
  have hD9 := hD.sub (ws' := [(h, .inr (2, [.ref r, .int (nI ((((0 + 1) + 1) + 2) + 16))])), (r, .inl ((cT 0), n, .inl g_11))]) [0, 1] (by decide) rfl
  exact W.vret hx hb hr (fun t ht hW => ⟨⟨g_11, rfl, ⟨⟨by rw [hw12.1 0 (by decide), hw8.1 0 (by decide)]; rfl, by rw [hw12.1 1 (by decide), hw8.1 1 (by decide)]; rfl, by rw [hw12.1 2 (by decide)]; exact (hw8.2.1 0 (by decide)).trans (by decide), by rw [hw12.1 3 (by decide)]; exact (hw8.2.1 1 (by decide)).trans (by decide)⟩, fun h9 => hw12.2 (hw8.2.2 (AB_upd (AB_upd h9 (BY_and _)) (BY_and _)))⟩, by rw [ht]; exact hP9, va_K.moved hW.alike hK, hD9⟩, hS.F ht⟩) hS.2.2 d_Pk_begin_29
set_option maxHeartbeats 4000000 in
set_option maxRecDepth 100000 in
/-- setAuthenticator -/
theorem c_Pk_auth (l : Launch) (dC : Nat → ClassId) (dI : Nat → Nat → Nat) (cT : Nat → ClassId) (sz : Nat) (h : Nat) (r : Nat) (n : Nat) (len : Nat) (f : Nat → Int32) (v : Int64) (hlen : 20 ≤ n) (hn : n < 2 ^ 31) : Met l y_Pk_setAuthenticator (Cond.code y_Pk_setAuthenticator b_Pk_setAuthenticator 5 (Option.none : Option Jvm.ClassFile.FieldType) :: BIG) ({ frames := 0, cells := 0, slots := 0, locals := 0 }) (va_Pc [.ref h, .long v] (fun U => U.heap.size = sz ∧ va_P (dC, dI) vcl [(h, .inr (2, [.ref r, .int (nI len)])), (r, .inl ((cT 0), n, .inl f))] U.heap ∧ va_K (dC, dI) vcl (tyL cT) U ∧ va_D (fun _ => True) [(h, .inr (2, [.ref r, .int (nI len)])), (r, .inl ((cT 0), n, .inl f))])) (va_Qv (S := (Nat → Int32)) (fun u => match u with | g => (∀ j, j < 4 → g j = f j) ∧ (∀ q, q < 8 → g (4 + q) = bn_at v q ∧ g (12 + q) = bn_at v q ^^^ 90) ∧ (AB f → AB g)) (fun u t => match u with | g => va_P (dC, dI) vcl [(h, .inr (2, [.ref r, .int (nI len)])), (r, .inl ((cT 0), n, .inl g))] t.heap ∧ va_K (dC, dI) vcl (tyL cT) t ∧ va_D (va_A [(h, .inr (2, [.ref r, .int (nI len)])), (r, .inl ((cT 0), n, .inl f))] sz) [(h, .inr (2, [.ref r, .int (nI len)])), (r, .inl ((cT 0), n, .inl g))]) (va_A [(h, .inr (2, [.ref r, .int (nI len)])), (r, .inl ((cT 0), n, .inl f))] sz)) 0 0 (va_A [(h, .inr (2, [.ref r, .int (nI len)])), (r, .inl ((cT 0), n, .inl f))] sz) := by
  refine Met.ofW (cc := b_Pk_setAuthenticator) (maxL := 5) (ret := (Option.none : Option Jvm.ClassFile.FieldType)) (by decide) rfl ?_
  intro p e s m args below meth c s₁ B hml hv
  obtain ⟨hargs, hsz, hP, hK, hD0⟩ := hv
  have hx := B.exec
  have hb := B.bytes
  have hr := B.returns
  have hts := atoms_spec (ws := (Cond.code y_Pk_setAuthenticator b_Pk_setAuthenticator 5 (Option.none : Option Jvm.ClassFile.FieldType) :: BIG)) B.pre
  have hg : ∀ w ∈ BIG, w.before _ s = true := fun w h => hts w (List.mem_cons_of_mem _ h)
  have hown : s.vm.findClass "DoorServer$Packet" = some m.cls := findClass_of_methodNamed B.named
  have hlocks := B.notSynchronized
  subst hsz
  have hD := hD0.self (sz := s.heap.size)
  generalize hAe : va_A [(h, .inr (2, [.ref r, .int (nI len)])), (r, .inl ((cT 0), n, .inl f))] s.heap.size = A at hD ⊢
  have hA : ∀ q : Nat, s.heap.size ≤ q → A q := fun q h => by rw [← hAe]; exact Or.inr h
  have hS : va_S A s.heap s.heap [] := va_S.rf
  have hl := lv_entry ([.ref h, .long v]) (n := 5) (Nat.le_of_ble_eq_true rfl)
  refine W.eq (g2 := entryFrame m (List.toArray [.ref h, .long v]) 5) (by rw [hargs]) ?_
  rw [lg_entry_eq]
  generalize (lg_sl ([.ref h, .long v]) ++ List.replicate (5 - (lg_sl ([.ref h, .long v])).length) Slot.unset).toArray = ls at hl ⊢
  have hl : lv_has ls 5 [(0, .ref h), (1, .long v)] := hl
  change W p l e ({ frames := 0, cells := 0, slots := 0, locals := 0 } : Room) s m args below meth c s.heap [] 0 0 _ _
  have hP : va_P (dC, dI) vcl [(h, .inr (2, [.ref r, .int (nI len)])), (r, .inl ((cT 0), n, .inl f))] s.heap := hP
  refine lv_iconst (v := 0) hx hb d_Pk_setAuthenticator_0 (by decide) ?_
  refine lv_istore_n (lv' := [(3, .int 0), (0, .ref h), (1, .long v)]) hx hb d_Pk_setAuthenticator_1 rfl hl (by decide) rfl (fun ls hl => ?_)
  have hl := lv_sub hl [0, 1, 2] (show _ = [(3, .int 0), (0, .ref h), (1, .long v)] from rfl)
  have L13 : ∀ (Q : State → Prop) (exit : ∀ (g : Nat → Int32) (H : Heap) (locs : List Loc) (ls : Array Slot), (∀ q, q < 4 → g q = f q) → (∀ q, q < 8 → g (4 + q) = bn_at v q ∧ g (12 + q) = bn_at v q ^^^ 90) → (AB f → AB g) → va_P (dC, dI) vcl [(h, .inr (2, [.ref r, .int (nI len)])), (r, .inl ((cT 0), n, .inl g))] H → va_D A [(h, .inr (2, [.ref r, .int (nI len)])), (r, .inl ((cT 0), n, .inl g))] → va_S A s.heap H locs → lv_has ls 5 [(3, .int (nI 8)), (0, .ref h), (1, .long v)] → W p l e ({ frames := 0, cells := 0, slots := 0, locals := 0 } : Room) s m args below meth c H locs 0 0 Q (F0 m 51 ls [])) (j8 i : Nat) (g : Nat → Int32) (H : Heap) (locs : List Loc) (ls : Array Slot), i + j8 = 8 → (∀ q, q < 4 → g q = f q) → (∀ q, q < i → g (4 + q) = bn_at v q ∧ g (12 + q) = bn_at v q ^^^ 90) → (AB f → AB g) → va_P (dC, dI) vcl [(h, .inr (2, [.ref r, .int (nI len)])), (r, .inl ((cT 0), n, .inl g))] H → va_D A [(h, .inr (2, [.ref r, .int (nI len)])), (r, .inl ((cT 0), n, .inl g))] → va_S A s.heap H locs → lv_has ls 5 [(3, .int (nI i)), (0, .ref h), (1, .long v)] → W p l e ({ frames := 0, cells := 0, slots := 0, locals := 0 } : Room) s m args below meth c H locs 0 0 Q (F0 m 2 ls []) := by
    intro Q exit j8
    induction j8 with
    | zero => 
      intro i g H locs ls hij hi hj hab hP hD hS hl
      have hij : 8 = i := by omega
      refine lv_iload_n hx hb d_Pk_setAuthenticator_2 rfl (lv_at hl 0 rfl) ?_
      refine lv_bipush (v := 8) hx hb d_Pk_setAuthenticator_3 (by decide) ?_
      refine lv_topi (fun x15 e14 => ?_)
      obtain rfl : x15 = nI 8 := by rw [e14]; rfl
      refine lv_icmp_ge (tgt := 51) hx hb d_Pk_setAuthenticator_5 (by decide) (fun hc16 => ?_) (fun hn9 => absurd (nI_le (by omega) (by omega)) hn9)
      subst hij
      exact exit g _ _ _ hi hj hab hP hD hS hl
    | succ j8 ih => 
      intro i g H locs ls hij hi hj hab hP hD hS hl
      have hlt : i < 8 := by omega
      refine lv_iload_n hx hb d_Pk_setAuthenticator_2 rfl (lv_at hl 0 rfl) ?_
      refine lv_bipush (v := 8) hx hb d_Pk_setAuthenticator_3 (by decide) ?_
      refine lv_topi (fun x18 e17 => ?_)
      obtain rfl : x18 = nI 8 := by rw [e17]; rfl
      refine lv_icmp_ge (tgt := 51) hx hb d_Pk_setAuthenticator_5 (by decide) (fun hn9 => absurd hn9 (nI_ge hlt (by omega))) (fun hc19 => ?_)
      refine lv_lload_n hx hb d_Pk_setAuthenticator_8 rfl (lv_at hl 2 rfl) ?_
      refine lv_bipush (v := 8) hx hb d_Pk_setAuthenticator_9 (by decide) ?_
      refine lv_iload_n hx hb d_Pk_setAuthenticator_11 rfl (lv_at hl 0 rfl) ?_
      refine lv_imul hx hb d_Pk_setAuthenticator_12 ?_
      refine lv_lushr (v := (v.toUInt64 >>> ((8 * (nI i)).toInt64.toUInt64 &&& Int64.toUInt64 63)).toInt64) hx hb d_Pk_setAuthenticator_13 rfl ?_
      refine lv_l2i (v := ((v.toUInt64 >>> ((8 * (nI i)).toInt64.toUInt64 &&& Int64.toUInt64 63)).toInt64).toInt32) hx hb d_Pk_setAuthenticator_14 rfl ?_
      refine lv_sipush (v := 255) hx hb d_Pk_setAuthenticator_15 (by decide) ?_
      refine lv_iand hx hb d_Pk_setAuthenticator_18 ?_
      refine lv_istore (lv' := [(4, .int ((((v.toUInt64 >>> ((8 * (nI i)).toInt64.toUInt64 &&& Int64.toUInt64 63)).toInt64).toInt32) &&& 255)), (3, .int (nI i)), (0, .ref h), (1, .long v)]) hx hb d_Pk_setAuthenticator_19 hl (by decide) rfl (fun ls hl => ?_)
      refine lv_aload_n hx hb d_Pk_setAuthenticator_21 rfl (lv_at hl 2 rfl) ?_
      refine va_get (D := (dC, dI)) (ci := 2) (v := (.ref r)) (C := R_Pk) (T := F_Pk) (N := 2) hx hb hg in_Pk hown hK hP 0 rfl rfl 0 (by decide) (hg _ k_45) (fun x9 h9 => u_same (hg _ k_41) x9 h9) rfl d_Pk_setAuthenticator_22 ?_
      refine lv_iconst (v := 4) hx hb d_Pk_setAuthenticator_25 (by decide) ?_
      refine lv_iload_n hx hb d_Pk_setAuthenticator_26 rfl (lv_at hl 1 rfl) ?_
      refine lv_iadd hx hb d_Pk_setAuthenticator_27 ?_
      refine lv_topi (fun x21 e20 => ?_)
      obtain rfl : x21 = nI (4 + i) := by rw [e20]; exact nI_add 4 i
      refine lv_iload hx hb d_Pk_setAuthenticator_28 (lv_at hl 0 rfl) ?_
      refine va_iast hx hb hK hP hD hS 1 0 rfl rfl (i := (nI (4 + i))) (vp_in_nI (by omega) hn) d_Pk_setAuthenticator_30 (fun H locs hP hD hS => ?_)
      have ef22 : upd g (nI (4 + i)).toNatClampNeg ((((v.toUInt64 >>> ((8 * (nI i)).toInt64.toUInt64 &&& Int64.toUInt64 63)).toInt64).toInt32) &&& 255) = upd g (4 + i) ((((v.toUInt64 >>> ((8 * (nI i)).toInt64.toUInt64 &&& Int64.toUInt64 63)).toInt64).toInt32) &&& 255) := by rw [nI_clamp (by omega)]
      rw [ef22] at hP hD
      have hP : va_P (dC, dI) vcl [(h, .inr (2, [.ref r, .int (nI len)])), (r, .inl ((cT 0), n, .inl (upd g (4 + i) ((((v.toUInt64 >>> ((8 * (nI i)).toInt64.toUInt64 &&& Int64.toUInt64 63)).toInt64).toInt32) &&& 255))))] H := hP
      have hD : va_D A [(h, .inr (2, [.ref r, .int (nI len)])), (r, .inl ((cT 0), n, .inl (upd g (4 + i) ((((v.toUInt64 >>> ((8 * (nI i)).toInt64.toUInt64 &&& Int64.toUInt64 63)).toInt64).toInt32) &&& 255))))] := hD
      refine lv_aload_n hx hb d_Pk_setAuthenticator_31 rfl (lv_at hl 2 rfl) ?_
      refine va_get (D := (dC, dI)) (ci := 2) (v := (.ref r)) (C := R_Pk) (T := F_Pk) (N := 2) hx hb hg in_Pk hown hK hP 0 rfl rfl 0 (by decide) (hg _ k_45) (fun x9 h9 => u_same (hg _ k_41) x9 h9) rfl d_Pk_setAuthenticator_32 ?_
      refine lv_bipush (v := 12) hx hb d_Pk_setAuthenticator_35 (by decide) ?_
      refine lv_iload_n hx hb d_Pk_setAuthenticator_37 rfl (lv_at hl 1 rfl) ?_
      refine lv_iadd hx hb d_Pk_setAuthenticator_38 ?_
      refine lv_topi (fun x24 e23 => ?_)
      obtain rfl : x24 = nI (12 + i) := by rw [e23]; exact nI_add 12 i
      refine lv_iload hx hb d_Pk_setAuthenticator_39 (lv_at hl 0 rfl) ?_
      refine lv_bipush (v := 90) hx hb d_Pk_setAuthenticator_41 (by decide) ?_
      refine lv_ixor hx hb d_Pk_setAuthenticator_43 ?_
      refine va_iast hx hb hK hP hD hS 1 0 rfl rfl (i := (nI (12 + i))) (vp_in_nI (by omega) hn) d_Pk_setAuthenticator_44 (fun H locs hP hD hS => ?_)
      have ef25 : upd (upd g (4 + i) ((((v.toUInt64 >>> ((8 * (nI i)).toInt64.toUInt64 &&& Int64.toUInt64 63)).toInt64).toInt32) &&& 255)) (nI (12 + i)).toNatClampNeg (((((v.toUInt64 >>> ((8 * (nI i)).toInt64.toUInt64 &&& Int64.toUInt64 63)).toInt64).toInt32) &&& 255) ^^^ 90) = upd (upd g (4 + i) ((((v.toUInt64 >>> ((8 * (nI i)).toInt64.toUInt64 &&& Int64.toUInt64 63)).toInt64).toInt32) &&& 255)) (12 + i) (((((v.toUInt64 >>> ((8 * (nI i)).toInt64.toUInt64 &&& Int64.toUInt64 63)).toInt64).toInt32) &&& 255) ^^^ 90) := by rw [nI_clamp (by omega)]
      rw [ef25] at hP hD
      have hP : va_P (dC, dI) vcl [(h, .inr (2, [.ref r, .int (nI len)])), (r, .inl ((cT 0), n, .inl (upd (upd g (4 + i) ((((v.toUInt64 >>> ((8 * (nI i)).toInt64.toUInt64 &&& Int64.toUInt64 63)).toInt64).toInt32) &&& 255)) (12 + i) (((((v.toUInt64 >>> ((8 * (nI i)).toInt64.toUInt64 &&& Int64.toUInt64 63)).toInt64).toInt32) &&& 255) ^^^ 90))))] H := hP
      have hD : va_D A [(h, .inr (2, [.ref r, .int (nI len)])), (r, .inl ((cT 0), n, .inl (upd (upd g (4 + i) ((((v.toUInt64 >>> ((8 * (nI i)).toInt64.toUInt64 &&& Int64.toUInt64 63)).toInt64).toInt32) &&& 255)) (12 + i) (((((v.toUInt64 >>> ((8 * (nI i)).toInt64.toUInt64 &&& Int64.toUInt64 63)).toInt64).toInt32) &&& 255) ^^^ 90))))] := hD
      refine lv_iinc (k := 1) (v := nI (i + 1)) (lv' := [(3, .int (nI (i + 1))), (4, .int ((((v.toUInt64 >>> ((8 * (nI i)).toInt64.toUInt64 &&& Int64.toUInt64 63)).toInt64).toInt32) &&& 255)), (0, .ref h), (1, .long v)]) hx hb d_Pk_setAuthenticator_45 hl rfl (nI_1 i) (by decide) rfl (fun ls hl => ?_)
      refine lv_goto (tgt := 2) hx hb d_Pk_setAuthenticator_48 (by decide) ?_
      have hl := lv_sub hl [0, 2, 3] (show _ = [(3, .int (nI (i + 1))), (0, .ref h), (1, .long v)] from rfl)
      exact ih (i + 1) (upd (upd g (4 + i) ((((v.toUInt64 >>> ((8 * (nI i)).toInt64.toUInt64 &&& Int64.toUInt64 63)).toInt64).toInt32) &&& 255)) (12 + i) (((((v.toUInt64 >>> ((8 * (nI i)).toInt64.toUInt64 &&& Int64.toUInt64 63)).toInt64).toInt32) &&& 255) ^^^ 90)) _ _ _ (by omega) (fun q hq => by rw [pk_un (by omega), pk_un (by omega)]; exact hi q hq) (lt_s (fun q hq => by rw [pk_un (by omega), pk_un (by omega), pk_un (by omega), pk_un (by omega)]; exact hj q hq) ⟨by rw [pk_un (by omega), pk_us]; rfl, by rw [pk_us]; rfl⟩) (fun h9 => AB_upd (AB_upd (hab h9) (BY_and _)) (BY_xor (BY_and _) (BY_n (k := 90) (by decide)))) hP hD hS hl
  refine L13 _ (fun g H locs ls hi hj hab hP hD hS hl => ?_) (8 - 0) 0 f s.heap _ ls (by omega) (fun _ _ => rfl) (fun q hq => absurd hq (Nat.not_lt_zero q)) (fun h9 => h9) hP hD hS hl
  have hP9 := hP.sub (ws' := [(h, .inr (2, [.ref r, .int (nI len)])), (r, .inl ((cT 0), n, .inl g))]) [0, 1] rfl
  have hD9 := hD.sub (ws' := [(h, .inr (2, [.ref r, .int (nI len)])), (r, .inl ((cT 0), n, .inl g))]) [0, 1] (by decide) rfl
  exact W.vret hx hb hr (fun t ht hW => ⟨⟨g, rfl, ⟨hi, hj, hab⟩, by rw [ht]; exact hP9, va_K.moved hW.alike hK, hD9⟩, hS.F ht⟩) hS.2.2 d_Pk_setAuthenticator_51
theorem sh_8 : ∀ len, len < 1001 → (nI len >>> (8 &&& 31)).toBitVec.toNat < 256 := by decide +kernel
theorem AB_tell {f : Nat → Int32} {len : Nat} (hl : len ≤ 1000) (h : AB f) : AB (upd (upd f 2 (nI len >>> (8 &&& 31))) 3 (nI len &&& 255)) := AB_upd (AB_upd h (BY_of (sh_8 len (by omega)))) (BY_and _)
set_option maxHeartbeats 4000000 in
set_option maxRecDepth 100000 in
/-- tellLength -/
theorem c_Pk_tell (l : Launch) (dC : Nat → ClassId) (dI : Nat → Nat → Nat) (cT : Nat → ClassId) (sz : Nat) (h : Nat) (r : Nat) (n : Nat) (len : Nat) (f : Nat → Int32) (hlen : 20 ≤ n) (hn : n < 2 ^ 31) : Met l y_Pk_tellLength (Cond.code y_Pk_tellLength b_Pk_tellLength 1 (Option.none : Option Jvm.ClassFile.FieldType) :: BIG) ({ frames := 0, cells := 0, slots := 0, locals := 0 }) (va_Pc [.ref h] (fun U => U.heap.size = sz ∧ va_P (dC, dI) vcl [(h, .inr (2, [.ref r, .int (nI len)])), (r, .inl ((cT 0), n, .inl f))] U.heap ∧ va_K (dC, dI) vcl (tyL cT) U ∧ va_D (fun _ => True) [(h, .inr (2, [.ref r, .int (nI len)])), (r, .inl ((cT 0), n, .inl f))])) (va_Qv (S := Unit) (fun u => True) (fun u t => va_P (dC, dI) vcl [(h, .inr (2, [.ref r, .int (nI len)])), (r, .inl ((cT 0), n, .inl (upd (upd f 2 (nI len >>> (8 &&& 31))) 3 (nI len &&& 255))))] t.heap ∧ va_K (dC, dI) vcl (tyL cT) t ∧ va_D (va_A [(h, .inr (2, [.ref r, .int (nI len)])), (r, .inl ((cT 0), n, .inl f))] sz) [(h, .inr (2, [.ref r, .int (nI len)])), (r, .inl ((cT 0), n, .inl (upd (upd f 2 (nI len >>> (8 &&& 31))) 3 (nI len &&& 255))))]) (va_A [(h, .inr (2, [.ref r, .int (nI len)])), (r, .inl ((cT 0), n, .inl f))] sz)) 0 0 (va_A [(h, .inr (2, [.ref r, .int (nI len)])), (r, .inl ((cT 0), n, .inl f))] sz) := by
  refine Met.ofW (cc := b_Pk_tellLength) (maxL := 1) (ret := (Option.none : Option Jvm.ClassFile.FieldType)) (by decide) rfl ?_
  intro p e s m args below meth c s₁ B hml hv
  obtain ⟨hargs, hsz, hP, hK, hD0⟩ := hv
  have hx := B.exec
  have hb := B.bytes
  have hr := B.returns
  have hts := atoms_spec (ws := (Cond.code y_Pk_tellLength b_Pk_tellLength 1 (Option.none : Option Jvm.ClassFile.FieldType) :: BIG)) B.pre
  have hg : ∀ w ∈ BIG, w.before _ s = true := fun w h => hts w (List.mem_cons_of_mem _ h)
  have hown : s.vm.findClass "DoorServer$Packet" = some m.cls := findClass_of_methodNamed B.named
  have hlocks := B.notSynchronized
  subst hsz
  have hD := hD0.self (sz := s.heap.size)
  generalize hAe : va_A [(h, .inr (2, [.ref r, .int (nI len)])), (r, .inl ((cT 0), n, .inl f))] s.heap.size = A at hD ⊢
  have hA : ∀ q : Nat, s.heap.size ≤ q → A q := fun q h => by rw [← hAe]; exact Or.inr h
  have hS : va_S A s.heap s.heap [] := va_S.rf
  have hl := lv_entry ([.ref h]) (n := 1) (Nat.le_of_ble_eq_true rfl)
  refine W.eq (g2 := entryFrame m (List.toArray [.ref h]) 1) (by rw [hargs]) ?_
  rw [lg_entry_eq]
  generalize (lg_sl ([.ref h]) ++ List.replicate (1 - (lg_sl ([.ref h])).length) Slot.unset).toArray = ls at hl ⊢
  have hl : lv_has ls 1 [(0, .ref h)] := hl
  change W p l e ({ frames := 0, cells := 0, slots := 0, locals := 0 } : Room) s m args below meth c s.heap [] 0 0 _ _
  have hP : va_P (dC, dI) vcl [(h, .inr (2, [.ref r, .int (nI len)])), (r, .inl ((cT 0), n, .inl f))] s.heap := hP
  refine lv_aload_n hx hb d_Pk_tellLength_0 rfl (lv_at hl 0 rfl) ?_
  refine va_get (D := (dC, dI)) (ci := 2) (v := (.ref r)) (C := R_Pk) (T := F_Pk) (N := 2) hx hb hg in_Pk hown hK hP 0 rfl rfl 0 (by decide) (hg _ k_45) (fun x9 h9 => u_same (hg _ k_41) x9 h9) rfl d_Pk_tellLength_1 ?_
  refine lv_iconst (v := 2) hx hb d_Pk_tellLength_4 (by decide) ?_
  refine lv_aload_n hx hb d_Pk_tellLength_5 rfl (lv_at hl 0 rfl) ?_
  refine va_get (D := (dC, dI)) (ci := 2) (v := (.int (nI len))) (C := R_Pk) (T := F_Pk) (N := 2) hx hb hg in_Pk hown hK hP 0 rfl rfl 1 (by decide) (hg _ k_52) (fun x9 h9 => u_same (hg _ k_53) x9 h9) rfl d_Pk_tellLength_6 ?_
  refine lv_bipush (v := 8) hx hb d_Pk_tellLength_9 (by decide) ?_
  refine lv_ishr hx hb d_Pk_tellLength_11 ?_
  refine va_iast hx hb hK hP hD hS 1 0 rfl rfl (i := 2) (vp_in_nI (n := 2) (by omega) hn) d_Pk_tellLength_12 (fun H locs hP hD hS => ?_)
  have ef26 : upd f (2 : Int32).toNatClampNeg ((nI len) >>> (8 &&& 31)) = upd f 2 (nI len >>> (8 &&& 31)) := by rw [show (2 : Int32).toNatClampNeg = 2 from by decide]
  rw [ef26] at hP hD
  have hP : va_P (dC, dI) vcl [(h, .inr (2, [.ref r, .int (nI len)])), (r, .inl ((cT 0), n, .inl (upd f 2 (nI len >>> (8 &&& 31)))))] H := hP
  have hD : va_D A [(h, .inr (2, [.ref r, .int (nI len)])), (r, .inl ((cT 0), n, .inl (upd f 2 (nI len >>> (8 &&& 31)))))] := hD
  refine lv_aload_n hx hb d_Pk_tellLength_13 rfl (lv_at hl 0 rfl) ?_
  refine va_get (D := (dC, dI)) (ci := 2) (v := (.ref r)) (C := R_Pk) (T := F_Pk) (N := 2) hx hb hg in_Pk hown hK hP 0 rfl rfl 0 (by decide) (hg _ k_45) (fun x9 h9 => u_same (hg _ k_41) x9 h9) rfl d_Pk_tellLength_14 ?_
  refine lv_iconst (v := 3) hx hb d_Pk_tellLength_17 (by decide) ?_
  refine lv_aload_n hx hb d_Pk_tellLength_18 rfl (lv_at hl 0 rfl) ?_
  refine va_get (D := (dC, dI)) (ci := 2) (v := (.int (nI len))) (C := R_Pk) (T := F_Pk) (N := 2) hx hb hg in_Pk hown hK hP 0 rfl rfl 1 (by decide) (hg _ k_52) (fun x9 h9 => u_same (hg _ k_53) x9 h9) rfl d_Pk_tellLength_19 ?_
  refine lv_sipush (v := 255) hx hb d_Pk_tellLength_22 (by decide) ?_
  refine lv_iand hx hb d_Pk_tellLength_25 ?_
  refine va_iast hx hb hK hP hD hS 1 0 rfl rfl (i := 3) (vp_in_nI (n := 3) (by omega) hn) d_Pk_tellLength_26 (fun H locs hP hD hS => ?_)
  have ef27 : upd (upd f 2 (nI len >>> (8 &&& 31))) (3 : Int32).toNatClampNeg ((nI len) &&& 255) = upd (upd f 2 (nI len >>> (8 &&& 31))) 3 (nI len &&& 255) := by rw [show (3 : Int32).toNatClampNeg = 3 from by decide]
  rw [ef27] at hP hD
  have hP : va_P (dC, dI) vcl [(h, .inr (2, [.ref r, .int (nI len)])), (r, .inl ((cT 0), n, .inl (upd (upd f 2 (nI len >>> (8 &&& 31))) 3 (nI len &&& 255))))] H := hP
  have hD : va_D A [(h, .inr (2, [.ref r, .int (nI len)])), (r, .inl ((cT 0), n, .inl (upd (upd f 2 (nI len >>> (8 &&& 31))) 3 (nI len &&& 255))))] := hD
  have hP9 := hP.sub (ws' := [(h, .inr (2, [.ref r, .int (nI len)])), (r, .inl ((cT 0), n, .inl (upd (upd f 2 (nI len >>> (8 &&& 31))) 3 (nI len &&& 255))))]) [0, 1] rfl
  have hD9 := hD.sub (ws' := [(h, .inr (2, [.ref r, .int (nI len)])), (r, .inl ((cT 0), n, .inl (upd (upd f 2 (nI len >>> (8 &&& 31))) 3 (nI len &&& 255))))]) [0, 1] (by decide) rfl
  exact W.vret hx hb hr (fun t ht hW => ⟨⟨(), rfl, trivial, by rw [ht]; exact hP9, va_K.moved hW.alike hK, hD9⟩, hS.F ht⟩) hS.2.2 d_Pk_tellLength_27
set_option maxHeartbeats 4000000 in
set_option maxRecDepth 100000 in
/-- open -/
theorem c_Pk_open (l : Launch) (dC : Nat → ClassId) (dI : Nat → Nat → Nat) (cT : Nat → ClassId) (sz : Nat) (h : Nat) (r : Nat) (n : Nat) (len : Nat) (f : Nat → Int32) (x : Int32) (y : Int32) (hlen : len + 2 ≤ n) (hn : n < 2 ^ 31) : Met l y_Pk_open (Cond.code y_Pk_open b_Pk_open 3 (Option.none : Option Jvm.ClassFile.FieldType) :: BIG) ({ frames := 1, cells := 0, slots := 0, locals := 21 }) (va_Pc [.ref h, .int x, .int y] (fun U => U.heap.size = sz ∧ va_P (dC, dI) vcl [(h, .inr (2, [.ref r, .int (nI len)])), (r, .inl ((cT 0), n, .inl f))] U.heap ∧ va_K (dC, dI) vcl (tyL cT) U ∧ va_D (fun _ => True) [(h, .inr (2, [.ref r, .int (nI len)])), (r, .inl ((cT 0), n, .inl f))])) (va_Qv (S := Unit) (fun u => True) (fun u t => va_P (dC, dI) vcl [(h, .inr (2, [.ref r, .int (nI ((len + 1) + 1))])), (r, .inl ((cT 0), n, .inl (upd (upd f len (x &&& 255)) (len + 1) ((y + 2) &&& 255))))] t.heap ∧ va_K (dC, dI) vcl (tyL cT) t ∧ va_D (va_A [(h, .inr (2, [.ref r, .int (nI len)])), (r, .inl ((cT 0), n, .inl f))] sz) [(h, .inr (2, [.ref r, .int (nI ((len + 1) + 1))])), (r, .inl ((cT 0), n, .inl (upd (upd f len (x &&& 255)) (len + 1) ((y + 2) &&& 255))))]) (va_A [(h, .inr (2, [.ref r, .int (nI len)])), (r, .inl ((cT 0), n, .inl f))] sz)) 0 0 (va_A [(h, .inr (2, [.ref r, .int (nI len)])), (r, .inl ((cT 0), n, .inl f))] sz) := by
  refine Met.ofW (cc := b_Pk_open) (maxL := 3) (ret := (Option.none : Option Jvm.ClassFile.FieldType)) (by decide) rfl ?_
  intro p e s m args below meth c s₁ B hml hv
  obtain ⟨hargs, hsz, hP, hK, hD0⟩ := hv
  have hx := B.exec
  have hb := B.bytes
  have hr := B.returns
  have hts := atoms_spec (ws := (Cond.code y_Pk_open b_Pk_open 3 (Option.none : Option Jvm.ClassFile.FieldType) :: BIG)) B.pre
  have hg : ∀ w ∈ BIG, w.before _ s = true := fun w h => hts w (List.mem_cons_of_mem _ h)
  have hown : s.vm.findClass "DoorServer$Packet" = some m.cls := findClass_of_methodNamed B.named
  have hlocks := B.notSynchronized
  subst hsz
  have hD := hD0.self (sz := s.heap.size)
  generalize hAe : va_A [(h, .inr (2, [.ref r, .int (nI len)])), (r, .inl ((cT 0), n, .inl f))] s.heap.size = A at hD ⊢
  have hA : ∀ q : Nat, s.heap.size ≤ q → A q := fun q h => by rw [← hAe]; exact Or.inr h
  have hS : va_S A s.heap s.heap [] := va_S.rf
  have hl := lv_entry ([.ref h, .int x, .int y]) (n := 3) (Nat.le_of_ble_eq_true rfl)
  refine W.eq (g2 := entryFrame m (List.toArray [.ref h, .int x, .int y]) 3) (by rw [hargs]) ?_
  rw [lg_entry_eq]
  generalize (lg_sl ([.ref h, .int x, .int y]) ++ List.replicate (3 - (lg_sl ([.ref h, .int x, .int y])).length) Slot.unset).toArray = ls at hl ⊢
  have hl : lv_has ls 3 [(0, .ref h), (1, .int x), (2, .int y)] := hl
  change W p l e ({ frames := 1, cells := 0, slots := 0, locals := 21 } : Room) s m args below meth c s.heap [] 0 0 _ _
  have hP : va_P (dC, dI) vcl [(h, .inr (2, [.ref r, .int (nI len)])), (r, .inl ((cT 0), n, .inl f))] s.heap := hP
  refine lv_aload_n hx hb d_Pk_open_0 rfl (lv_at hl 0 rfl) ?_
  refine lv_iload_n hx hb d_Pk_open_1 rfl (lv_at hl 1 rfl) ?_
  have hPc := hP.sub (ws' := [(h, .inr (2, [.ref r, .int (nI len)])), (r, .inl ((cT 0), n, .inl f))]) [0, 1] rfl
  have hDc := hD.sub (ws' := [(h, .inr (2, [.ref r, .int (nI len)])), (r, .inl ((cT 0), n, .inl f))]) [0, 1] (by decide) rfl
  have hFc := va_free (wc := [(h, .inr (2, [.ref r, .int (nI len)])), (r, .inl ((cT 0), n, .inl f))]) hD hS hA [0, 1] rfl
  refine va_callv (va_runU (C := "DoorServer$Packet") (owner := "DoorServer$Bytes") (x := y_Pk_append) (As := [.int x]) (rest := []) ⟨hx, hb, hml, hown, hg⟩ (c_Pk_append l dC dI cT s.heap.size h r n len f x (by omega) (hn)) (va_cwU 1 hg (gI (List.forall_mem_append.mpr ⟨List.forall_mem_cons.mpr ⟨k_72, List.forall_mem_cons.mpr ⟨k_73, List.forall_mem_cons.mpr ⟨k_75, List.forall_mem_cons.mpr ⟨k_76, List.forall_mem_cons.mpr ⟨k_2, fun _ h => absurd h List.not_mem_nil⟩⟩⟩⟩⟩, List.forall_mem_cons.mpr ⟨k_77, fun _ h => h⟩⟩)) rfl rfl rfl rfl (by decide +kernel) ⟨Nat.le_of_ble_eq_true rfl, Nat.le_of_ble_eq_true rfl⟩) ⟨fun a U g mk q => by obtain ⟨q0, q1, qP, qK, qD⟩ := q; exact ⟨q0, q1, qP, va_K.moved (u := U) (U := U.calling g mk a) (Vm.Alike.refl U.vm) qK, qD⟩, va_recv (q0 := 0) (ci := 2) hK hP rfl rfl, fun U hU hW => ⟨rfl, by rw [hU], by rw [hU]; exact hPc, va_K.moved hW.alike hK, hDc.weaken (fun _ _ _ _ => trivial)⟩⟩ rfl rfl hl.1 rfl (lv_room (Nat.le_of_ble_eq_true rfl)) d_Pk_open_2 ⟨Nat.le_of_ble_eq_true rfl, Nat.le_of_ble_eq_true rfl⟩) hS (fun q _ h => hFc q h) hFc (fun u t H1 locs ht hvm hw hB hz1 hk1 hS => ?_)
  try dsimp only at hw hB
  obtain ⟨hP1, hK1, hD1⟩ := hB
  rw [ht] at hP1
  obtain ⟨hP, hD⟩ := va_join (wr := []) (w1 := [(h, .inr (2, [.ref r, .int (nI (len + 1))])), (r, .inl ((cT 0), n, .inl (upd f len (x &&& 255))))]) hP hD [0, 1] [] rfl rfl (by decide) (by decide) hk1 hFc hP1 hD1
  have hw28 := hw
  clear hPc hDc hFc hz1 hk1 hP1 hK1 hD1
  generalize H1 = H at hP hS ⊢
  have hP : va_P (dC, dI) vcl [(h, .inr (2, [.ref r, .int (nI (len + 1))])), (r, .inl ((cT 0), n, .inl (upd f len (x &&& 255))))] H := hP
  have hD : va_D A [(h, .inr (2, [.ref r, .int (nI (len + 1))])), (r, .inl ((cT 0), n, .inl (upd f len (x &&& 255))))] := hD
  refine lv_aload_n hx hb d_Pk_open_5 rfl (lv_at hl 0 rfl) ?_
  refine lv_iload_n hx hb d_Pk_open_6 rfl (lv_at hl 2 rfl) ?_
  refine lv_iconst (v := 2) hx hb d_Pk_open_7 (by decide) ?_
  refine lv_iadd hx hb d_Pk_open_8 ?_
  have hPc := hP.sub (ws' := [(h, .inr (2, [.ref r, .int (nI (len + 1))])), (r, .inl ((cT 0), n, .inl (upd f len (x &&& 255))))]) [0, 1] rfl
  have hDc := hD.sub (ws' := [(h, .inr (2, [.ref r, .int (nI (len + 1))])), (r, .inl ((cT 0), n, .inl (upd f len (x &&& 255))))]) [0, 1] (by decide) rfl
  have hFc := va_free (wc := [(h, .inr (2, [.ref r, .int (nI (len + 1))])), (r, .inl ((cT 0), n, .inl (upd f len (x &&& 255))))]) hD hS hA [0, 1] rfl
  refine va_callv (va_runU (C := "DoorServer$Packet") (owner := "DoorServer$Bytes") (x := y_Pk_append) (As := [.int (y + 2)]) (rest := []) ⟨hx, hb, hml, hown, hg⟩ (c_Pk_append l dC dI cT H.size h r n (len + 1) (upd f len (x &&& 255)) (y + 2) (by omega) (hn)) (va_cwU 1 hg (gI (List.forall_mem_append.mpr ⟨List.forall_mem_cons.mpr ⟨k_72, List.forall_mem_cons.mpr ⟨k_73, List.forall_mem_cons.mpr ⟨k_75, List.forall_mem_cons.mpr ⟨k_76, List.forall_mem_cons.mpr ⟨k_2, fun _ h => absurd h List.not_mem_nil⟩⟩⟩⟩⟩, List.forall_mem_cons.mpr ⟨k_77, fun _ h => h⟩⟩)) rfl rfl rfl rfl (by decide +kernel) ⟨Nat.le_of_ble_eq_true rfl, Nat.le_of_ble_eq_true rfl⟩) ⟨fun a U g mk q => by obtain ⟨q0, q1, qP, qK, qD⟩ := q; exact ⟨q0, q1, qP, va_K.moved (u := U) (U := U.calling g mk a) (Vm.Alike.refl U.vm) qK, qD⟩, va_recv (q0 := 0) (ci := 2) hK hP rfl rfl, fun U hU hW => ⟨rfl, by rw [hU], by rw [hU]; exact hPc, va_K.moved hW.alike hK, hDc.weaken (fun _ _ _ _ => trivial)⟩⟩ rfl rfl hl.1 rfl (lv_room (Nat.le_of_ble_eq_true rfl)) d_Pk_open_9 ⟨Nat.le_of_ble_eq_true rfl, Nat.le_of_ble_eq_true rfl⟩) hS (fun q _ h => hFc q h) hFc (fun u t H1 locs ht hvm hw hB hz1 hk1 hS => ?_)
  try dsimp only at hw hB
  obtain ⟨hP1, hK1, hD1⟩ := hB
  rw [ht] at hP1
  obtain ⟨hP, hD⟩ := va_join (wr := []) (w1 := [(h, .inr (2, [.ref r, .int (nI ((len + 1) + 1))])), (r, .inl ((cT 0), n, .inl (upd (upd f len (x &&& 255)) (len + 1) ((y + 2) &&& 255))))]) hP hD [0, 1] [] rfl rfl (by decide) (by decide) hk1 hFc hP1 hD1
  have hw29 := hw
  clear hPc hDc hFc hz1 hk1 hP1 hK1 hD1
  generalize H1 = H at hP hS ⊢
  have hP : va_P (dC, dI) vcl [(h, .inr (2, [.ref r, .int (nI ((len + 1) + 1))])), (r, .inl ((cT 0), n, .inl (upd (upd f len (x &&& 255)) (len + 1) ((y + 2) &&& 255))))] H := hP
  have hD : va_D A [(h, .inr (2, [.ref r, .int (nI ((len + 1) + 1))])), (r, .inl ((cT 0), n, .inl (upd (upd f len (x &&& 255)) (len + 1) ((y + 2) &&& 255))))] := hD
  have hP9 := hP.sub (ws' := [(h, .inr (2, [.ref r, .int (nI ((len + 1) + 1))])), (r, .inl ((cT 0), n, .inl (upd (upd f len (x &&& 255)) (len + 1) ((y + 2) &&& 255))))]) [0, 1] rfl
  have hD9 := hD.sub (ws' := [(h, .inr (2, [.ref r, .int (nI ((len + 1) + 1))])), (r, .inl ((cT 0), n, .inl (upd (upd f len (x &&& 255)) (len + 1) ((y + 2) &&& 255))))]) [0, 1] (by decide) rfl
  exact W.vret hx hb hr (fun t ht hW => ⟨⟨(), rfl, trivial, by rw [ht]; exact hP9, va_K.moved hW.alike hK, hD9⟩, hS.F ht⟩) hS.2.2 d_Pk_open_12
set_option maxHeartbeats 4000000 in
set_option maxRecDepth 100000 in
/-- openTalk -/
theorem c_Pk_talk (l : Launch) (dC : Nat → ClassId) (dI : Nat → Nat → Nat) (cT : Nat → ClassId) (sz : Nat) (h : Nat) (r : Nat) (n : Nat) (len : Nat) (f : Nat → Int32) (x : Int32) (y : Int32) (z : Int32) (hlen : len + 6 ≤ n) (hn : n < 2 ^ 31) : Met l y_Pk_openTalk (Cond.code y_Pk_openTalk b_Pk_openTalk 4 (Option.none : Option Jvm.ClassFile.FieldType) :: BIG) ({ frames := 2, cells := 0, slots := 0, locals := 45 }) (va_Pc [.ref h, .int x, .int y, .int z] (fun U => U.heap.size = sz ∧ va_P (dC, dI) vcl [(h, .inr (2, [.ref r, .int (nI len)])), (r, .inl ((cT 0), n, .inl f))] U.heap ∧ va_K (dC, dI) vcl (tyL cT) U ∧ va_D (fun _ => True) [(h, .inr (2, [.ref r, .int (nI len)])), (r, .inl ((cT 0), n, .inl f))])) (va_Qv (S := (Nat → Int32)) (fun u => match u with | g => AB f → AB g) (fun u t => match u with | g => va_P (dC, dI) vcl [(h, .inr (2, [.ref r, .int (nI (len + 6))])), (r, .inl ((cT 0), n, .inl g))] t.heap ∧ va_K (dC, dI) vcl (tyL cT) t ∧ va_D (va_A [(h, .inr (2, [.ref r, .int (nI len)])), (r, .inl ((cT 0), n, .inl f))] sz) [(h, .inr (2, [.ref r, .int (nI (len + 6))])), (r, .inl ((cT 0), n, .inl g))]) (va_A [(h, .inr (2, [.ref r, .int (nI len)])), (r, .inl ((cT 0), n, .inl f))] sz)) 0 0 (va_A [(h, .inr (2, [.ref r, .int (nI len)])), (r, .inl ((cT 0), n, .inl f))] sz) := by
  refine Met.ofW (cc := b_Pk_openTalk) (maxL := 4) (ret := (Option.none : Option Jvm.ClassFile.FieldType)) (by decide) rfl ?_
  intro p e s m args below meth c s₁ B hml hv
  obtain ⟨hargs, hsz, hP, hK, hD0⟩ := hv
  have hx := B.exec
  have hb := B.bytes
  have hr := B.returns
  have hts := atoms_spec (ws := (Cond.code y_Pk_openTalk b_Pk_openTalk 4 (Option.none : Option Jvm.ClassFile.FieldType) :: BIG)) B.pre
  have hg : ∀ w ∈ BIG, w.before _ s = true := fun w h => hts w (List.mem_cons_of_mem _ h)
  have hown : s.vm.findClass "DoorServer$Packet" = some m.cls := findClass_of_methodNamed B.named
  have hlocks := B.notSynchronized
  subst hsz
  have hD := hD0.self (sz := s.heap.size)
  generalize hAe : va_A [(h, .inr (2, [.ref r, .int (nI len)])), (r, .inl ((cT 0), n, .inl f))] s.heap.size = A at hD ⊢
  have hA : ∀ q : Nat, s.heap.size ≤ q → A q := fun q h => by rw [← hAe]; exact Or.inr h
  have hS : va_S A s.heap s.heap [] := va_S.rf
  have hl := lv_entry ([.ref h, .int x, .int y, .int z]) (n := 4) (Nat.le_of_ble_eq_true rfl)
  refine W.eq (g2 := entryFrame m (List.toArray [.ref h, .int x, .int y, .int z]) 4) (by rw [hargs]) ?_
  rw [lg_entry_eq]
  generalize (lg_sl ([.ref h, .int x, .int y, .int z]) ++ List.replicate (4 - (lg_sl ([.ref h, .int x, .int y, .int z])).length) Slot.unset).toArray = ls at hl ⊢
  have hl : lv_has ls 4 [(0, .ref h), (1, .int x), (2, .int y), (3, .int z)] := hl
  change W p l e ({ frames := 2, cells := 0, slots := 0, locals := 45 } : Room) s m args below meth c s.heap [] 0 0 _ _
  have hP : va_P (dC, dI) vcl [(h, .inr (2, [.ref r, .int (nI len)])), (r, .inl ((cT 0), n, .inl f))] s.heap := hP
  refine lv_aload_n hx hb d_Pk_openTalk_0 rfl (lv_at hl 0 rfl) ?_
  refine lv_bipush (v := 79) hx hb d_Pk_openTalk_1 (by decide) ?_
  refine lv_iload_n hx hb d_Pk_openTalk_3 rfl (lv_at hl 3 rfl) ?_
  have hPc := hP.sub (ws' := [(h, .inr (2, [.ref r, .int (nI len)])), (r, .inl ((cT 0), n, .inl f))]) [0, 1] rfl
  have hDc := hD.sub (ws' := [(h, .inr (2, [.ref r, .int (nI len)])), (r, .inl ((cT 0), n, .inl f))]) [0, 1] (by decide) rfl
  have hFc := va_free (wc := [(h, .inr (2, [.ref r, .int (nI len)])), (r, .inl ((cT 0), n, .inl f))]) hD hS hA [0, 1] rfl
  refine va_callv (va_runV (C := "DoorServer$Packet") (As := [.int 79, .int z]) (rest := []) ⟨hx, hb, hml, hown, hg⟩ (c_Pk_open l dC dI cT s.heap.size h r n len f 79 z (by omega) (hn)) (cwV 2 hg (gI (List.forall_mem_append.mpr ⟨List.forall_mem_cons.mpr ⟨k_616, List.forall_mem_cons.mpr ⟨k_520, List.forall_mem_cons.mpr ⟨k_521, List.forall_mem_cons.mpr ⟨k_3, fun _ h => absurd h List.not_mem_nil⟩⟩⟩⟩, List.forall_mem_cons.mpr ⟨k_522, fun _ h => h⟩⟩)) rfl rfl rfl (by decide +kernel) ⟨Nat.le_of_ble_eq_true rfl, Nat.le_of_ble_eq_true rfl⟩) ⟨fun a U g mk q => by obtain ⟨q0, q1, qP, qK, qD⟩ := q; exact ⟨q0, q1, qP, va_K.moved (u := U) (U := U.calling g mk a) (Vm.Alike.refl U.vm) qK, qD⟩, va_recv (q0 := 0) (ci := 2) hK hP rfl rfl, fun U hU hW => ⟨rfl, by rw [hU], by rw [hU]; exact hPc, va_K.moved hW.alike hK, hDc.weaken (fun _ _ _ _ => trivial)⟩⟩ rfl rfl hl.1 rfl (lv_room (Nat.le_of_ble_eq_true rfl)) d_Pk_openTalk_4 ⟨Nat.le_of_ble_eq_true rfl, Nat.le_of_ble_eq_true rfl⟩) hS (fun q _ h => hFc q h) hFc (fun u t H1 locs ht hvm hw hB hz1 hk1 hS => ?_)
  try dsimp only at hw hB
  obtain ⟨hP1, hK1, hD1⟩ := hB
  rw [ht] at hP1
  obtain ⟨hP, hD⟩ := va_join (wr := []) (w1 := [(h, .inr (2, [.ref r, .int (nI ((len + 1) + 1))])), (r, .inl ((cT 0), n, .inl (upd (upd f len (79 &&& 255)) (len + 1) ((z + 2) &&& 255))))]) hP hD [0, 1] [] rfl rfl (by decide) (by decide) hk1 hFc hP1 hD1
  have hw30 := hw
  clear hPc hDc hFc hz1 hk1 hP1 hK1 hD1
  generalize H1 = H at hP hS ⊢
  have hP : va_P (dC, dI) vcl [(h, .inr (2, [.ref r, .int (nI ((len + 1) + 1))])), (r, .inl ((cT 0), n, .inl (upd (upd f len (79 &&& 255)) (len + 1) ((z + 2) &&& 255))))] H := hP
  have hD : va_D A [(h, .inr (2, [.ref r, .int (nI ((len + 1) + 1))])), (r, .inl ((cT 0), n, .inl (upd (upd f len (79 &&& 255)) (len + 1) ((z + 2) &&& 255))))] := hD
  refine lv_aload_n hx hb d_Pk_openTalk_7 rfl (lv_at hl 0 rfl) ?_
  refine lv_iload_n hx hb d_Pk_openTalk_8 rfl (lv_at hl 1 rfl) ?_
  have hPc := hP.sub (ws' := [(h, .inr (2, [.ref r, .int (nI ((len + 1) + 1))])), (r, .inl ((cT 0), n, .inl (upd (upd f len (79 &&& 255)) (len + 1) ((z + 2) &&& 255))))]) [0, 1] rfl
  have hDc := hD.sub (ws' := [(h, .inr (2, [.ref r, .int (nI ((len + 1) + 1))])), (r, .inl ((cT 0), n, .inl (upd (upd f len (79 &&& 255)) (len + 1) ((z + 2) &&& 255))))]) [0, 1] (by decide) rfl
  have hFc := va_free (wc := [(h, .inr (2, [.ref r, .int (nI ((len + 1) + 1))])), (r, .inl ((cT 0), n, .inl (upd (upd f len (79 &&& 255)) (len + 1) ((z + 2) &&& 255))))]) hD hS hA [0, 1] rfl
  refine va_callv (va_runU (C := "DoorServer$Packet") (owner := "DoorServer$Bytes") (x := y_Pk_append) (As := [.int x]) (rest := []) ⟨hx, hb, hml, hown, hg⟩ (c_Pk_append l dC dI cT H.size h r n ((len + 1) + 1) (upd (upd f len (79 &&& 255)) (len + 1) ((z + 2) &&& 255)) x (by omega) (hn)) (va_cwU 1 hg (gI (List.forall_mem_append.mpr ⟨List.forall_mem_cons.mpr ⟨k_72, List.forall_mem_cons.mpr ⟨k_73, List.forall_mem_cons.mpr ⟨k_75, List.forall_mem_cons.mpr ⟨k_76, List.forall_mem_cons.mpr ⟨k_2, fun _ h => absurd h List.not_mem_nil⟩⟩⟩⟩⟩, List.forall_mem_cons.mpr ⟨k_77, fun _ h => h⟩⟩)) rfl rfl rfl rfl (by decide +kernel) ⟨Nat.le_of_ble_eq_true rfl, Nat.le_of_ble_eq_true rfl⟩) ⟨fun a U g mk q => by obtain ⟨q0, q1, qP, qK, qD⟩ := q; exact ⟨q0, q1, qP, va_K.moved (u := U) (U := U.calling g mk a) (Vm.Alike.refl U.vm) qK, qD⟩, va_recv (q0 := 0) (ci := 2) hK hP rfl rfl, fun U hU hW => ⟨rfl, by rw [hU], by rw [hU]; exact hPc, va_K.moved hW.alike hK, hDc.weaken (fun _ _ _ _ => trivial)⟩⟩ rfl rfl hl.1 rfl (lv_room (Nat.le_of_ble_eq_true rfl)) d_Pk_openTalk_9 ⟨Nat.le_of_ble_eq_true rfl, Nat.le_of_ble_eq_true rfl⟩) hS (fun q _ h => hFc q h) hFc (fun u t H1 locs ht hvm hw hB hz1 hk1 hS => ?_)
  try dsimp only at hw hB
  obtain ⟨hP1, hK1, hD1⟩ := hB
  rw [ht] at hP1
  obtain ⟨hP, hD⟩ := va_join (wr := []) (w1 := [(h, .inr (2, [.ref r, .int (nI (((len + 1) + 1) + 1))])), (r, .inl ((cT 0), n, .inl (upd (upd (upd f len (79 &&& 255)) (len + 1) ((z + 2) &&& 255)) ((len + 1) + 1) (x &&& 255))))]) hP hD [0, 1] [] rfl rfl (by decide) (by decide) hk1 hFc hP1 hD1
  have hw31 := hw
  clear hPc hDc hFc hz1 hk1 hP1 hK1 hD1
  generalize H1 = H at hP hS ⊢
  have hP : va_P (dC, dI) vcl [(h, .inr (2, [.ref r, .int (nI (((len + 1) + 1) + 1))])), (r, .inl ((cT 0), n, .inl (upd (upd (upd f len (79 &&& 255)) (len + 1) ((z + 2) &&& 255)) ((len + 1) + 1) (x &&& 255))))] H := hP
  have hD : va_D A [(h, .inr (2, [.ref r, .int (nI (((len + 1) + 1) + 1))])), (r, .inl ((cT 0), n, .inl (upd (upd (upd f len (79 &&& 255)) (len + 1) ((z + 2) &&& 255)) ((len + 1) + 1) (x &&& 255))))] := hD
  refine lv_aload_n hx hb d_Pk_openTalk_12 rfl (lv_at hl 0 rfl) ?_
  refine lv_iload_n hx hb d_Pk_openTalk_13 rfl (lv_at hl 2 rfl) ?_
  have hPc := hP.sub (ws' := [(h, .inr (2, [.ref r, .int (nI (((len + 1) + 1) + 1))])), (r, .inl ((cT 0), n, .inl (upd (upd (upd f len (79 &&& 255)) (len + 1) ((z + 2) &&& 255)) ((len + 1) + 1) (x &&& 255))))]) [0, 1] rfl
  have hDc := hD.sub (ws' := [(h, .inr (2, [.ref r, .int (nI (((len + 1) + 1) + 1))])), (r, .inl ((cT 0), n, .inl (upd (upd (upd f len (79 &&& 255)) (len + 1) ((z + 2) &&& 255)) ((len + 1) + 1) (x &&& 255))))]) [0, 1] (by decide) rfl
  have hFc := va_free (wc := [(h, .inr (2, [.ref r, .int (nI (((len + 1) + 1) + 1))])), (r, .inl ((cT 0), n, .inl (upd (upd (upd f len (79 &&& 255)) (len + 1) ((z + 2) &&& 255)) ((len + 1) + 1) (x &&& 255))))]) hD hS hA [0, 1] rfl
  refine va_callv (va_runU (C := "DoorServer$Packet") (owner := "DoorServer$Bytes") (x := y_Pk_append) (As := [.int y]) (rest := []) ⟨hx, hb, hml, hown, hg⟩ (c_Pk_append l dC dI cT H.size h r n (((len + 1) + 1) + 1) (upd (upd (upd f len (79 &&& 255)) (len + 1) ((z + 2) &&& 255)) ((len + 1) + 1) (x &&& 255)) y (by omega) (hn)) (va_cwU 1 hg (gI (List.forall_mem_append.mpr ⟨List.forall_mem_cons.mpr ⟨k_72, List.forall_mem_cons.mpr ⟨k_73, List.forall_mem_cons.mpr ⟨k_75, List.forall_mem_cons.mpr ⟨k_76, List.forall_mem_cons.mpr ⟨k_2, fun _ h => absurd h List.not_mem_nil⟩⟩⟩⟩⟩, List.forall_mem_cons.mpr ⟨k_77, fun _ h => h⟩⟩)) rfl rfl rfl rfl (by decide +kernel) ⟨Nat.le_of_ble_eq_true rfl, Nat.le_of_ble_eq_true rfl⟩) ⟨fun a U g mk q => by obtain ⟨q0, q1, qP, qK, qD⟩ := q; exact ⟨q0, q1, qP, va_K.moved (u := U) (U := U.calling g mk a) (Vm.Alike.refl U.vm) qK, qD⟩, va_recv (q0 := 0) (ci := 2) hK hP rfl rfl, fun U hU hW => ⟨rfl, by rw [hU], by rw [hU]; exact hPc, va_K.moved hW.alike hK, hDc.weaken (fun _ _ _ _ => trivial)⟩⟩ rfl rfl hl.1 rfl (lv_room (Nat.le_of_ble_eq_true rfl)) d_Pk_openTalk_14 ⟨Nat.le_of_ble_eq_true rfl, Nat.le_of_ble_eq_true rfl⟩) hS (fun q _ h => hFc q h) hFc (fun u t H1 locs ht hvm hw hB hz1 hk1 hS => ?_)
  try dsimp only at hw hB
  obtain ⟨hP1, hK1, hD1⟩ := hB
  rw [ht] at hP1
  obtain ⟨hP, hD⟩ := va_join (wr := []) (w1 := [(h, .inr (2, [.ref r, .int (nI ((((len + 1) + 1) + 1) + 1))])), (r, .inl ((cT 0), n, .inl (upd (upd (upd (upd f len (79 &&& 255)) (len + 1) ((z + 2) &&& 255)) ((len + 1) + 1) (x &&& 255)) (((len + 1) + 1) + 1) (y &&& 255))))]) hP hD [0, 1] [] rfl rfl (by decide) (by decide) hk1 hFc hP1 hD1
  have hw32 := hw
  clear hPc hDc hFc hz1 hk1 hP1 hK1 hD1
  generalize H1 = H at hP hS ⊢
  have hP : va_P (dC, dI) vcl [(h, .inr (2, [.ref r, .int (nI ((((len + 1) + 1) + 1) + 1))])), (r, .inl ((cT 0), n, .inl (upd (upd (upd (upd f len (79 &&& 255)) (len + 1) ((z + 2) &&& 255)) ((len + 1) + 1) (x &&& 255)) (((len + 1) + 1) + 1) (y &&& 255))))] H := hP
  have hD : va_D A [(h, .inr (2, [.ref r, .int (nI ((((len + 1) + 1) + 1) + 1))])), (r, .inl ((cT 0), n, .inl (upd (upd (upd (upd f len (79 &&& 255)) (len + 1) ((z + 2) &&& 255)) ((len + 1) + 1) (x &&& 255)) (((len + 1) + 1) + 1) (y &&& 255))))] := hD
  refine lv_aload_n hx hb d_Pk_openTalk_17 rfl (lv_at hl 0 rfl) ?_
  refine lv_iload_n hx hb d_Pk_openTalk_18 rfl (lv_at hl 3 rfl) ?_
  refine lv_i2l (v := z.toInt64) hx hb d_Pk_openTalk_19 rfl ?_
  refine lv_iconst (v := 2) hx hb d_Pk_openTalk_20 (by decide) ?_
  refine lv_topi (fun x34 e33 => ?_)
  obtain rfl : x34 = nI 2 := by rw [e33]; rfl
  have hPc := hP.sub (ws' := [(h, .inr (2, [.ref r, .int (nI ((((len + 1) + 1) + 1) + 1))])), (r, .inl ((cT 0), n, .inl (upd (upd (upd (upd f len (79 &&& 255)) (len + 1) ((z + 2) &&& 255)) ((len + 1) + 1) (x &&& 255)) (((len + 1) + 1) + 1) (y &&& 255))))]) [0, 1] rfl
  have hDc := hD.sub (ws' := [(h, .inr (2, [.ref r, .int (nI ((((len + 1) + 1) + 1) + 1))])), (r, .inl ((cT 0), n, .inl (upd (upd (upd (upd f len (79 &&& 255)) (len + 1) ((z + 2) &&& 255)) ((len + 1) + 1) (x &&& 255)) (((len + 1) + 1) + 1) (y &&& 255))))]) [0, 1] (by decide) rfl
  have hFc := va_free (wc := [(h, .inr (2, [.ref r, .int (nI ((((len + 1) + 1) + 1) + 1))])), (r, .inl ((cT 0), n, .inl (upd (upd (upd (upd f len (79 &&& 255)) (len + 1) ((z + 2) &&& 255)) ((len + 1) + 1) (x &&& 255)) (((len + 1) + 1) + 1) (y &&& 255))))]) hD hS hA [0, 1] rfl
  refine va_callv (va_runU (C := "DoorServer$Packet") (owner := "DoorServer$Bytes") (x := y_Pk_appendNumber) (As := [.long z.toInt64, .int (nI 2)]) (rest := []) ⟨hx, hb, hml, hown, hg⟩ (c_Pk_number l dC dI cT H.size h r n ((((len + 1) + 1) + 1) + 1) (upd (upd (upd (upd f len (79 &&& 255)) (len + 1) ((z + 2) &&& 255)) ((len + 1) + 1) (x &&& 255)) (((len + 1) + 1) + 1) (y &&& 255)) z.toInt64 2 (by omega) (hn)) (va_cwU 2 hg (gI (List.forall_mem_append.mpr ⟨List.forall_mem_cons.mpr ⟨k_79, List.forall_mem_cons.mpr ⟨k_80, List.forall_mem_cons.mpr ⟨k_82, List.forall_mem_cons.mpr ⟨k_83, List.forall_mem_cons.mpr ⟨k_2, fun _ h => absurd h List.not_mem_nil⟩⟩⟩⟩⟩, List.forall_mem_cons.mpr ⟨k_84, fun _ h => h⟩⟩)) rfl rfl rfl rfl (by decide +kernel) ⟨Nat.le_of_ble_eq_true rfl, Nat.le_of_ble_eq_true rfl⟩) ⟨fun a U g mk q => by obtain ⟨q0, q1, qP, qK, qD⟩ := q; exact ⟨q0, q1, qP, va_K.moved (u := U) (U := U.calling g mk a) (Vm.Alike.refl U.vm) qK, qD⟩, va_recv (q0 := 0) (ci := 2) hK hP rfl rfl, fun U hU hW => ⟨rfl, by rw [hU], by rw [hU]; exact hPc, va_K.moved hW.alike hK, hDc.weaken (fun _ _ _ _ => trivial)⟩⟩ rfl rfl hl.1 rfl (lv_room (Nat.le_of_ble_eq_true rfl)) d_Pk_openTalk_21 ⟨Nat.le_of_ble_eq_true rfl, Nat.le_of_ble_eq_true rfl⟩) hS (fun q _ h => hFc q h) hFc (fun u t H1 locs ht hvm hw hB hz1 hk1 hS => ?_)
  obtain ⟨g_35, rfl⟩ : ∃ z, z = u := ⟨_, rfl⟩
  try dsimp only at hw hB
  obtain ⟨hP1, hK1, hD1⟩ := hB
  rw [ht] at hP1
  obtain ⟨hP, hD⟩ := va_join (wr := []) (w1 := [(h, .inr (2, [.ref r, .int (nI (((((len + 1) + 1) + 1) + 1) + 2))])), (r, .inl ((cT 0), n, .inl g_35))]) hP hD [0, 1] [] rfl rfl (by decide) (by decide) hk1 hFc hP1 hD1
  have hw36 := hw
  clear hPc hDc hFc hz1 hk1 hP1 hK1 hD1
  generalize H1 = H at hP hS ⊢
  have hP : va_P (dC, dI) vcl [(h, .inr (2, [.ref r, .int (nI (((((len + 1) + 1) + 1) + 1) + 2))])), (r, .inl ((cT 0), n, .inl g_35))] H := hP
  have hD : va_D A [(h, .inr (2, [.ref r, .int (nI (((((len + 1) + 1) + 1) + 1) + 2))])), (r, .inl ((cT 0), n, .inl g_35))] := hD
  have hP9 := hP.sub (ws' := [(h, .inr (2, [.ref r, .int (nI (((((len + 1) + 1) + 1) + 1) + 2))])), (r, .inl ((cT 0), n, .inl g_35))]) [0, 1] rfl
  have hD9 := hD.sub (ws' := [(h, .inr (2, [.ref r, .int (nI (((((len + 1) + 1) + 1) + 1) + 2))])), (r, .inl ((cT 0), n, .inl g_35))]) [0, 1] (by decide) rfl
  exact W.vret hx hb hr (fun t ht hW => ⟨⟨g_35, rfl, fun h9 => hw36.2.2 (AB_upd (AB_upd (AB_upd (AB_upd h9 (BY_and _)) (BY_and _)) (BY_and _)) (BY_and _)), by rw [ht]; exact hP9, va_K.moved hW.alike hK, hD9⟩, hS.F ht⟩) hS.2.2 d_Pk_openTalk_24
set_option maxHeartbeats 4000000 in
set_option maxRecDepth 100000 in
/-- write -/
theorem c_Pk_write (l : Launch) (dC : Nat → ClassId) (dI : Nat → Nat → Nat) (cT : Nat → ClassId) (sz : Nat) (h : Nat) (r : Nat) (n : Nat) (len : Nat) (f : Nat → Int32) (q : Nat) (fq : Nat → Int32) (at_ : Nat) (hlen : at_ + 16 ≤ n) (hn : n < 2 ^ 31) : Met l y_Pk_write (Cond.code y_Pk_write b_Pk_write 3 (Option.none : Option Jvm.ClassFile.FieldType) :: BIG) ({ frames := 1, cells := 0, slots := 0, locals := 60 }) (va_Pc [.ref h, .int (nI at_), .ref q] (fun U => U.heap.size = sz ∧ va_P (dC, dI) vcl [(h, .inr (2, [.ref r, .int (nI len)])), (r, .inl ((cT 0), n, .inl f)), (q, .inl ((cT 0), 16, .inl fq))] U.heap ∧ va_K (dC, dI) vcl (tyL cT) U ∧ va_D (fun _ => True) [(h, .inr (2, [.ref r, .int (nI len)])), (r, .inl ((cT 0), n, .inl f)), (q, .inl ((cT 0), 16, .inl fq))])) (va_Qv (S := (Nat → Int32)) (fun u => match u with | g => AB f → AB fq → AB g) (fun u t => match u with | g => va_P (dC, dI) vcl [(h, .inr (2, [.ref r, .int (nI len)])), (r, .inl ((cT 0), n, .inl g)), (q, .inl ((cT 0), 16, .inl fq))] t.heap ∧ va_K (dC, dI) vcl (tyL cT) t ∧ va_D (va_A [(h, .inr (2, [.ref r, .int (nI len)])), (r, .inl ((cT 0), n, .inl f)), (q, .inl ((cT 0), 16, .inl fq))] sz) [(h, .inr (2, [.ref r, .int (nI len)])), (r, .inl ((cT 0), n, .inl g)), (q, .inl ((cT 0), 16, .inl fq))]) (va_A [(h, .inr (2, [.ref r, .int (nI len)])), (r, .inl ((cT 0), n, .inl f)), (q, .inl ((cT 0), 16, .inl fq))] sz)) 0 0 (va_A [(h, .inr (2, [.ref r, .int (nI len)])), (r, .inl ((cT 0), n, .inl f)), (q, .inl ((cT 0), 16, .inl fq))] sz) := by
  refine Met.ofW (cc := b_Pk_write) (maxL := 3) (ret := (Option.none : Option Jvm.ClassFile.FieldType)) (by decide) rfl ?_
  intro p e s m args below meth c s₁ B hml hv
  obtain ⟨hargs, hsz, hP, hK, hD0⟩ := hv
  have hx := B.exec
  have hb := B.bytes
  have hr := B.returns
  have hts := atoms_spec (ws := (Cond.code y_Pk_write b_Pk_write 3 (Option.none : Option Jvm.ClassFile.FieldType) :: BIG)) B.pre
  have hg : ∀ w ∈ BIG, w.before _ s = true := fun w h => hts w (List.mem_cons_of_mem _ h)
  have hown : s.vm.findClass "DoorServer$Packet" = some m.cls := findClass_of_methodNamed B.named
  have hlocks := B.notSynchronized
  subst hsz
  have hD := hD0.self (sz := s.heap.size)
  generalize hAe : va_A [(h, .inr (2, [.ref r, .int (nI len)])), (r, .inl ((cT 0), n, .inl f)), (q, .inl ((cT 0), 16, .inl fq))] s.heap.size = A at hD ⊢
  have hA : ∀ q : Nat, s.heap.size ≤ q → A q := fun q h => by rw [← hAe]; exact Or.inr h
  have hS : va_S A s.heap s.heap [] := va_S.rf
  have hl := lv_entry ([.ref h, .int (nI at_), .ref q]) (n := 3) (Nat.le_of_ble_eq_true rfl)
  refine W.eq (g2 := entryFrame m (List.toArray [.ref h, .int (nI at_), .ref q]) 3) (by rw [hargs]) ?_
  rw [lg_entry_eq]
  generalize (lg_sl ([.ref h, .int (nI at_), .ref q]) ++ List.replicate (3 - (lg_sl ([.ref h, .int (nI at_), .ref q])).length) Slot.unset).toArray = ls at hl ⊢
  have hl : lv_has ls 3 [(0, .ref h), (1, .int (nI at_)), (2, .ref q)] := hl
  change W p l e ({ frames := 1, cells := 0, slots := 0, locals := 60 } : Room) s m args below meth c s.heap [] 0 0 _ _
  have hP : va_P (dC, dI) vcl [(h, .inr (2, [.ref r, .int (nI len)])), (r, .inl ((cT 0), n, .inl f)), (q, .inl ((cT 0), 16, .inl fq))] s.heap := hP
  refine lv_aload_n hx hb d_Pk_write_0 rfl (lv_at hl 2 rfl) ?_
  refine lv_iconst (v := 0) hx hb d_Pk_write_1 (by decide) ?_
  refine lv_topi (fun x38 e37 => ?_)
  obtain rfl : x38 = nI 0 := by rw [e37]; rfl
  refine lv_aload_n hx hb d_Pk_write_2 rfl (lv_at hl 0 rfl) ?_
  refine va_get (D := (dC, dI)) (ci := 2) (v := (.ref r)) (C := R_Pk) (T := F_Pk) (N := 2) hx hb hg in_Pk hown hK hP 0 rfl rfl 0 (by decide) (hg _ k_45) (fun x9 h9 => u_same (hg _ k_41) x9 h9) rfl d_Pk_write_3 ?_
  refine lv_iload_n hx hb d_Pk_write_6 rfl (lv_at hl 1 rfl) ?_
  refine lv_bipush (v := 16) hx hb d_Pk_write_7 (by decide) ?_
  refine lv_topi (fun x40 e39 => ?_)
  obtain rfl : x40 = nI 16 := by rw [e39]; rfl
  refine va_copyi hx hb (hml.trans hl.1.symm) hown (hg _ k_664) (hg _ k_581) (hg _ k_580) (hg _ k_19) hK hP hD hS 2 1 0 0 rfl rfl rfl rfl rfl (nI_pos (by omega)) (nI_pos (by omega)) (nI_pos (by omega)) (by rw [nI_clamp (n := 0) (by omega), nI_clamp (n := 16) (by omega)]; omega) (by rw [nI_clamp (n := at_) (by omega), nI_clamp (n := 16) (by omega)]; omega) (fun _ _ => rfl) (Nat.le_of_ble_eq_true rfl) (by decide) d_Pk_write_9 (fun H locs hP hD hS => ?_)
  have hP : va_P (dC, dI) vcl [(h, .inr (2, [.ref r, .int (nI len)])), (r, .inl ((cT 0), n, .inl (va_cpy fq f (nI 0).toNatClampNeg (nI at_).toNatClampNeg (nI 16).toNatClampNeg))), (q, .inl ((cT 0), 16, .inl fq))] H := hP
  have hD : va_D A [(h, .inr (2, [.ref r, .int (nI len)])), (r, .inl ((cT 0), n, .inl (va_cpy fq f (nI 0).toNatClampNeg (nI at_).toNatClampNeg (nI 16).toNatClampNeg))), (q, .inl ((cT 0), 16, .inl fq))] := hD
  have hP9 := hP.sub (ws' := [(h, .inr (2, [.ref r, .int (nI len)])), (r, .inl ((cT 0), n, .inl (va_cpy fq f (nI 0).toNatClampNeg (nI at_).toNatClampNeg (nI 16).toNatClampNeg))), (q, .inl ((cT 0), 16, .inl fq))]) [0, 1, 2] rfl
  have hD9 := hD.sub (ws' := [(h, .inr (2, [.ref r, .int (nI len)])), (r, .inl ((cT 0), n, .inl (va_cpy fq f (nI 0).toNatClampNeg (nI at_).toNatClampNeg (nI 16).toNatClampNeg))), (q, .inl ((cT 0), 16, .inl fq))]) [0, 1, 2] (by decide) rfl
  exact W.vret hx hb hr (fun t ht hW => ⟨⟨va_cpy fq f (nI 0).toNatClampNeg (nI at_).toNatClampNeg (nI 16).toNatClampNeg, rfl, fun h8 h9 => AB_cpy h9 h8, by rw [ht]; exact hP9, va_K.moved hW.alike hK, hD9⟩, hS.F ht⟩) hS.2.2 d_Pk_write_12
/-- what findValue answers, from place i on; n: as many turns as there may be -/
def fv (f : Nat → Int32) (len : Nat) (x : Int32) (k : Nat) : Nat → Nat → Int32
  | 0, _ => -1
  | n + 1, i => if i + 2 ≤ len then (if (f (i + 1)).toNatClampNeg < 2 ∨ len < i + (f (i + 1)).toNatClampNeg then -1 else if f i = x ∧ (f (i + 1)).toNatClampNeg = k + 2 then nI (i + 2) else fv f len x k n (i + (f (i + 1)).toNatClampNeg)) else -1
theorem fv_no {f : Nat → Int32} {len : Nat} {x : Int32} {k n i : Nat} (h : ¬ i + 2 ≤ len) : fv f len x k n i = -1 := by
  cases n with
  | zero => rfl
  | succ n => rw [fv, if_neg h]
theorem fv_bad {f : Nat → Int32} {len : Nat} {x : Int32} {k n i t : Nat} (h : i + 2 ≤ len) (ht : (f (i + 1)).toNatClampNeg = t) (h2 : t < 2 ∨ len < i + t) : fv f len x k n i = -1 := by
  cases n with
  | zero => rfl
  | succ n => rw [fv, if_pos h, ht, if_pos h2]
theorem fv_hit {f : Nat → Int32} {len : Nat} {x : Int32} {k n i t : Nat} (h : i + 2 ≤ len) (ht : (f (i + 1)).toNatClampNeg = t) (h2 : ¬ (t < 2 ∨ len < i + t)) (h3 : f i = x ∧ t = k + 2) : fv f len x k (n + 1) i = nI (i + 2) := by
  rw [fv, if_pos h, ht, if_neg h2, if_pos h3]
theorem fv_on {f : Nat → Int32} {len : Nat} {x : Int32} {k n i t : Nat} (h : i + 2 ≤ len) (ht : (f (i + 1)).toNatClampNeg = t) (h2 : ¬ (t < 2 ∨ len < i + t)) (h3 : ¬ (f i = x ∧ t = k + 2)) : fv f len x k (n + 1) i = fv f len x k n (i + t) := by
  rw [fv, if_pos h, ht, if_neg h2, if_neg h3]
theorem fv_ind {f : Nat → Int32} {len : Nat} {x : Int32} {k : Nat} : ∀ n m i : Nat, len - i ≤ n → len - i ≤ m → fv f len x k n i = fv f len x k m i := by
  intro n
  induction n with
  | zero => intro m i h1 h2; rw [fv_no (by omega), fv_no (by omega)]
  | succ n ih =>
    intro m i h1 h2
    by_cases h : i + 2 ≤ len
    · cases m with
      | zero => exfalso; omega
      | succ m =>
        by_cases h3 : (f (i + 1)).toNatClampNeg < 2 ∨ len < i + (f (i + 1)).toNatClampNeg
        · rw [fv_bad h rfl h3, fv_bad h rfl h3]
        · by_cases h4 : f i = x ∧ (f (i + 1)).toNatClampNeg = k + 2
          · rw [fv_hit h rfl h3 h4, fv_hit h rfl h3 h4]
          · rw [fv_on h rfl h3 h4, fv_on h rfl h3 h4]
            exact ih m _ (by omega) (by omega)
    · rw [fv_no h, fv_no h]
set_option maxHeartbeats 4000000 in
set_option maxRecDepth 100000 in
/-- findValue -/
theorem c_Pk_find (l : Launch) (dC : Nat → ClassId) (dI : Nat → Nat → Nat) (cT : Nat → ClassId) (sz : Nat) (h : Nat) (r : Nat) (n : Nat) (len : Nat) (f : Nat → Int32) (x : Int32) (k : Nat) (hlen : len ≤ n) (hn : n ≤ 1000) (h20 : 20 ≤ len) (hk : k ≤ 100) (hab : AB f) : Met l y_Pk_findValue (Cond.code y_Pk_findValue b_Pk_findValue 5 (Option.some Jvm.ClassFile.FieldType.int) :: BIG) ({ frames := 0, cells := 0, slots := 0, locals := 0 }) (va_Pc [.ref h, .int x, .int (nI k)] (fun U => U.heap.size = sz ∧ va_P (dC, dI) vcl [(h, .inr (2, [.ref r, .int (nI len)])), (r, .inl ((cT 0), n, .inl f))] U.heap ∧ va_K (dC, dI) vcl (tyL cT) U ∧ va_D (fun _ => True) [(h, .inr (2, [.ref r, .int (nI len)])), (r, .inl ((cT 0), n, .inl f))])) (va_Qi (S := Unit) (fun rv9 u => rv9 = fv f len x k (len - 20) 20 ∧ (fv f len x k (len - 20) 20 = -1 ∨ ∃ a : Nat, fv f len x k (len - 20) 20 = nI a ∧ 22 ≤ a ∧ a + k ≤ len)) (fun u t => va_P (dC, dI) vcl [(h, .inr (2, [.ref r, .int (nI len)])), (r, .inl ((cT 0), n, .inl f))] t.heap ∧ va_K (dC, dI) vcl (tyL cT) t ∧ va_D (va_A [(h, .inr (2, [.ref r, .int (nI len)])), (r, .inl ((cT 0), n, .inl f))] sz) [(h, .inr (2, [.ref r, .int (nI len)])), (r, .inl ((cT 0), n, .inl f))]) (va_A [(h, .inr (2, [.ref r, .int (nI len)])), (r, .inl ((cT 0), n, .inl f))] sz)) 0 0 (va_A [(h, .inr (2, [.ref r, .int (nI len)])), (r, .inl ((cT 0), n, .inl f))] sz) := by
  refine Met.ofW (cc := b_Pk_findValue) (maxL := 5) (ret := (Option.some Jvm.ClassFile.FieldType.int)) (by decide) rfl ?_
  intro p e s m args below meth c s₁ B hml hv
  obtain ⟨hargs, hsz, hP, hK, hD0⟩ := hv
  have hx := B.exec
  have hb := B.bytes
  have hr := B.returns
  have hts := atoms_spec (ws := (Cond.code y_Pk_findValue b_Pk_findValue 5 (Option.some Jvm.ClassFile.FieldType.int) :: BIG)) B.pre
  have hg : ∀ w ∈ BIG, w.before _ s = true := fun w h => hts w (List.mem_cons_of_mem _ h)
  have hown : s.vm.findClass "DoorServer$Packet" = some m.cls := findClass_of_methodNamed B.named
  have hlocks := B.notSynchronized
  subst hsz
  have hD := hD0.self (sz := s.heap.size)
  generalize hAe : va_A [(h, .inr (2, [.ref r, .int (nI len)])), (r, .inl ((cT 0), n, .inl f))] s.heap.size = A at hD ⊢
  have hA : ∀ q : Nat, s.heap.size ≤ q → A q := fun q h => by rw [← hAe]; exact Or.inr h
  have hS : va_S A s.heap s.heap [] := va_S.rf
  have hl := lv_entry ([.ref h, .int x, .int (nI k)]) (n := 5) (Nat.le_of_ble_eq_true rfl)
  refine W.eq (g2 := entryFrame m (List.toArray [.ref h, .int x, .int (nI k)]) 5) (by rw [hargs]) ?_
  rw [lg_entry_eq]
  generalize (lg_sl ([.ref h, .int x, .int (nI k)]) ++ List.replicate (5 - (lg_sl ([.ref h, .int x, .int (nI k)])).length) Slot.unset).toArray = ls at hl ⊢
  have hl : lv_has ls 5 [(0, .ref h), (1, .int x), (2, .int (nI k))] := hl
  change W p l e ({ frames := 0, cells := 0, slots := 0, locals := 0 } : Room) s m args below meth c s.heap [] 0 0 _ _
  have hP : va_P (dC, dI) vcl [(h, .inr (2, [.ref r, .int (nI len)])), (r, .inl ((cT 0), n, .inl f))] s.heap := hP
  refine lv_bipush (v := 20) hx hb d_Pk_findValue_0 (by decide) ?_
  refine lv_istore_n (lv' := [(3, .int 20), (0, .ref h), (1, .int x), (2, .int (nI k))]) hx hb d_Pk_findValue_2 rfl hl (by decide) rfl (fun ls hl => ?_)
  have hl := lv_sub hl [0, 1, 2, 3] (show _ = [(3, .int 20), (0, .ref h), (1, .int x), (2, .int (nI k))] from rfl)
  have L41 : ∀ (Q : State → Prop) (ex0 : ∀  (H : Heap) (locs : List Loc) (ls : Array Slot), (fv f len x k (len - 20) 20 = -1) → va_P (dC, dI) vcl [(h, .inr (2, [.ref r, .int (nI len)])), (r, .inl ((cT 0), n, .inl f))] H → va_D A [(h, .inr (2, [.ref r, .int (nI len)])), (r, .inl ((cT 0), n, .inl f))] → va_S A s.heap H locs → lv_has ls 5 [(0, .ref h)] → W p l e ({ frames := 0, cells := 0, slots := 0, locals := 0 } : Room) s m args below meth c H locs 0 0 Q (F0 m 72 ls [])) (ex1 : ∀  (H : Heap) (locs : List Loc) (ls : Array Slot), (fv f len x k (len - 20) 20 = -1) → va_P (dC, dI) vcl [(h, .inr (2, [.ref r, .int (nI len)])), (r, .inl ((cT 0), n, .inl f))] H → va_D A [(h, .inr (2, [.ref r, .int (nI len)])), (r, .inl ((cT 0), n, .inl f))] → va_S A s.heap H locs → lv_has ls 5 [(0, .ref h)] → W p l e ({ frames := 0, cells := 0, slots := 0, locals := 0 } : Room) s m args below meth c H locs 0 0 Q (F0 m 40 ls [])) (ex2 : ∀ (i : Nat) (H : Heap) (locs : List Loc) (ls : Array Slot), (20 ≤ i ∧ i + 2 + k ≤ len ∧ fv f len x k (len - 20) 20 = nI (i + 2)) → va_P (dC, dI) vcl [(h, .inr (2, [.ref r, .int (nI len)])), (r, .inl ((cT 0), n, .inl f))] H → va_D A [(h, .inr (2, [.ref r, .int (nI len)])), (r, .inl ((cT 0), n, .inl f))] → va_S A s.heap H locs → lv_has ls 5 [(0, .ref h)] → W p l e ({ frames := 0, cells := 0, slots := 0, locals := 0 } : Room) s m args below meth c H locs 0 0 Q (F0 m 63 ls [.int (nI (i + 2))])) (jj42 : Nat) (i : Nat) (H : Heap) (locs : List Loc) (ls : Array Slot), len - i ≤ jj42 → (20 ≤ i ∧ i ≤ len) → (∀ n9, len - i ≤ n9 → fv f len x k n9 i = fv f len x k (len - 20) 20) → va_P (dC, dI) vcl [(h, .inr (2, [.ref r, .int (nI len)])), (r, .inl ((cT 0), n, .inl f))] H → va_D A [(h, .inr (2, [.ref r, .int (nI len)])), (r, .inl ((cT 0), n, .inl f))] → va_S A s.heap H locs → lv_has ls 5 [(3, .int (nI i)), (0, .ref h), (1, .int x), (2, .int (nI k))] → W p l e ({ frames := 0, cells := 0, slots := 0, locals := 0 } : Room) s m args below meth c H locs 0 0 Q (F0 m 3 ls []) := by
    intro Q ex0 ex1 ex2 jj42
    induction jj42 with
    | zero => 
      intro i H locs ls hm9 hi hv hP hD hS hl
      refine lv_iload_n hx hb d_Pk_findValue_3 rfl (lv_at hl 0 rfl) ?_
      refine lv_iconst (v := 2) hx hb d_Pk_findValue_4 (by decide) ?_
      refine lv_iadd hx hb d_Pk_findValue_5 ?_
      refine lv_topi (fun x44 e43 => ?_)
      obtain rfl : x44 = nI (i + 2) := by rw [e43]; exact nI_add i 2
      refine lv_aload_n hx hb d_Pk_findValue_6 rfl (lv_at hl 1 rfl) ?_
      refine va_get (D := (dC, dI)) (ci := 2) (v := (.int (nI len))) (C := R_Pk) (T := F_Pk) (N := 2) hx hb hg in_Pk hown hK hP 0 rfl rfl 1 (by decide) (hg _ k_52) (fun x9 h9 => u_same (hg _ k_53) x9 h9) rfl d_Pk_findValue_7 ?_
      refine lv_icmp_gt (tgt := 72) hx hb d_Pk_findValue_10 (by decide) (fun hc45 => ?_) (fun hc45 => ?_)
      · skip
        have hl := lv_sub hl [1] (show _ = [(0, .ref h)] from rfl)
        have h8 := (nI_ltI (by omega) (by omega)).mp hc45
        exact ex0  _ _ _ ((hv (len - i) (Nat.le_refl _)).symm.trans (fv_no (by omega))) hP hD hS hl
      · skip
        have hle : i + 2 ≤ len := by rw [nI_ltI (by omega) (by omega)] at hc45; omega
        obtain ⟨t, ht, he⟩ := hab (i + 1)
        have hx9 : (f (i + 1)).toNatClampNeg = t := by rw [he, nI_clamp (by omega)]
        refine lv_aload_n hx hb d_Pk_findValue_13 rfl (lv_at hl 1 rfl) ?_
        refine va_get (D := (dC, dI)) (ci := 2) (v := (.ref r)) (C := R_Pk) (T := F_Pk) (N := 2) hx hb hg in_Pk hown hK hP 0 rfl rfl 0 (by decide) (hg _ k_45) (fun x9 h9 => u_same (hg _ k_41) x9 h9) rfl d_Pk_findValue_14 ?_
        refine lv_iload_n hx hb d_Pk_findValue_17 rfl (lv_at hl 0 rfl) ?_
        refine lv_iconst (v := 1) hx hb d_Pk_findValue_18 (by decide) ?_
        refine lv_iadd hx hb d_Pk_findValue_19 ?_
        refine lv_topi (fun x47 e46 => ?_)
        obtain rfl : x47 = nI (i + 1) := by rw [e46]; exact nI_1 i
        refine va_iald hx hb hK hP 1 0 rfl rfl (i := (nI (i + 1))) (vp_in_nI (by omega) (by omega)) d_Pk_findValue_20 ?_
        refine lv_topi (fun x49 e48 => ?_)
        obtain rfl : x49 = nI t := by rw [e48]; rw [nI_clamp (by omega)]; exact he
        refine lv_istore (lv' := [(4, .int (nI t)), (3, .int (nI i)), (0, .ref h), (1, .int x), (2, .int (nI k))]) hx hb d_Pk_findValue_21 hl (by decide) rfl (fun ls hl => ?_)
        refine lv_iload hx hb d_Pk_findValue_23 (lv_at hl 0 rfl) ?_
        refine lv_iconst (v := 2) hx hb d_Pk_findValue_25 (by decide) ?_
        refine lv_icmp_lt (tgt := 40) hx hb d_Pk_findValue_26 (by decide) (fun hc50 => ?_) (fun hc50 => ?_)
        · skip
          have hl := lv_sub hl [2] (show _ = [(0, .ref h)] from rfl)
          have h8 : t < 2 := (nI_ltI (b := 2) (by omega) (by decide)).mp hc50
          exact ex1  _ _ _ ((hv (len - i) (Nat.le_refl _)).symm.trans (fv_bad hle hx9 (Or.inl h8))) hP hD hS hl
        · skip
          have h2 : 2 ≤ t := Nat.not_lt.mp (fun hq => hc50 (nI_lt (b := 2) hq (by decide)))
          refine lv_iload_n hx hb d_Pk_findValue_29 rfl (lv_at hl 1 rfl) ?_
          refine lv_iload hx hb d_Pk_findValue_30 (lv_at hl 0 rfl) ?_
          refine lv_iadd hx hb d_Pk_findValue_32 ?_
          refine lv_topi (fun x52 e51 => ?_)
          obtain rfl : x52 = nI (i + t) := by rw [e51]; exact nI_add i t
          refine lv_aload_n hx hb d_Pk_findValue_33 rfl (lv_at hl 2 rfl) ?_
          refine va_get (D := (dC, dI)) (ci := 2) (v := (.int (nI len))) (C := R_Pk) (T := F_Pk) (N := 2) hx hb hg in_Pk hown hK hP 0 rfl rfl 1 (by decide) (hg _ k_52) (fun x9 h9 => u_same (hg _ k_53) x9 h9) rfl d_Pk_findValue_34 ?_
          refine lv_icmp_le (tgt := 42) hx hb d_Pk_findValue_37 (by decide) (fun hc53 => ?_) (fun hc53 => ?_)
          · skip
            have h3 : i + t ≤ len := (nI_leI (by omega) (by omega)).mp hc53
            refine lv_aload_n hx hb d_Pk_findValue_42 rfl (lv_at hl 2 rfl) ?_
            refine va_get (D := (dC, dI)) (ci := 2) (v := (.ref r)) (C := R_Pk) (T := F_Pk) (N := 2) hx hb hg in_Pk hown hK hP 0 rfl rfl 0 (by decide) (hg _ k_45) (fun x9 h9 => u_same (hg _ k_41) x9 h9) rfl d_Pk_findValue_43 ?_
            refine lv_iload_n hx hb d_Pk_findValue_46 rfl (lv_at hl 1 rfl) ?_
            refine va_iald hx hb hK hP 1 0 rfl rfl (i := (nI i)) (vp_in_nI (by omega) (by omega)) d_Pk_findValue_47 ?_
            refine lv_topi (fun x55 e54 => ?_)
            obtain rfl : x55 = f i := by rw [e54]; rw [nI_clamp (by omega)]
            refine lv_iload_n hx hb d_Pk_findValue_48 rfl (lv_at hl 3 rfl) ?_
            refine lv_icmp_ne (tgt := 64) hx hb d_Pk_findValue_49 (by decide) (fun hc56 => ?_) (fun hc56 => ?_)
            · skip
              refine lv_iload_n hx hb d_Pk_findValue_64 rfl (lv_at hl 1 rfl) ?_
              refine lv_iload hx hb d_Pk_findValue_65 (lv_at hl 0 rfl) ?_
              refine lv_iadd hx hb d_Pk_findValue_67 ?_
              refine lv_topi (fun x58 e57 => ?_)
              obtain rfl : x58 = nI (i + t) := by rw [e57]; exact nI_add i t
              refine lv_istore_n (lv' := [(3, .int (nI (i + t))), (4, .int (nI t)), (0, .ref h), (1, .int x), (2, .int (nI k))]) hx hb d_Pk_findValue_68 rfl hl (by decide) rfl (fun ls hl => ?_)
              refine lv_goto (tgt := 3) hx hb d_Pk_findValue_69 (by decide) ?_
              have hl := lv_sub hl [0, 2, 3, 4] (show _ = [(3, .int (nI (i + t))), (0, .ref h), (1, .int x), (2, .int (nI k))] from rfl)
              exfalso; omega
            · skip
              have h5 := hc56
              refine lv_iload hx hb d_Pk_findValue_52 (lv_at hl 0 rfl) ?_
              refine lv_iload_n hx hb d_Pk_findValue_54 rfl (lv_at hl 4 rfl) ?_
              refine lv_iconst (v := 2) hx hb d_Pk_findValue_55 (by decide) ?_
              refine lv_iadd hx hb d_Pk_findValue_56 ?_
              refine lv_topi (fun x60 e59 => ?_)
              obtain rfl : x60 = nI (k + 2) := by rw [e59]; exact nI_add k 2
              refine lv_icmp_ne (tgt := 64) hx hb d_Pk_findValue_57 (by decide) (fun hc61 => ?_) (fun hc61 => ?_)
              · skip
                refine lv_iload_n hx hb d_Pk_findValue_64 rfl (lv_at hl 1 rfl) ?_
                refine lv_iload hx hb d_Pk_findValue_65 (lv_at hl 0 rfl) ?_
                refine lv_iadd hx hb d_Pk_findValue_67 ?_
                refine lv_topi (fun x63 e62 => ?_)
                obtain rfl : x63 = nI (i + t) := by rw [e62]; exact nI_add i t
                refine lv_istore_n (lv' := [(3, .int (nI (i + t))), (4, .int (nI t)), (0, .ref h), (1, .int x), (2, .int (nI k))]) hx hb d_Pk_findValue_68 rfl hl (by decide) rfl (fun ls hl => ?_)
                refine lv_goto (tgt := 3) hx hb d_Pk_findValue_69 (by decide) ?_
                have hl := lv_sub hl [0, 2, 3, 4] (show _ = [(3, .int (nI (i + t))), (0, .ref h), (1, .int x), (2, .int (nI k))] from rfl)
                exfalso; omega
              · skip
                have h4 : t = k + 2 := (nI_eq (by omega) (by omega)).mp hc61
                refine lv_iload_n hx hb d_Pk_findValue_60 rfl (lv_at hl 1 rfl) ?_
                refine lv_iconst (v := 2) hx hb d_Pk_findValue_61 (by decide) ?_
                refine lv_iadd hx hb d_Pk_findValue_62 ?_
                refine lv_topi (fun x65 e64 => ?_)
                obtain rfl : x65 = nI (i + 2) := by rw [e64]; exact nI_add i 2
                have hl := lv_sub hl [2] (show _ = [(0, .ref h)] from rfl)
                exact ex2 i _ _ _ (⟨by omega, by omega, (hv (len - i + 1) (by omega)).symm.trans (fv_hit hle hx9 (by omega) ⟨h5, h4⟩)⟩) hP hD hS hl
          · skip
            have hl := lv_sub hl [2] (show _ = [(0, .ref h)] from rfl)
            have h8 : len < i + t := by
              apply Nat.not_le.mp; intro h7; exact hc53 (nI_le h7 (by omega))
            exact ex1  _ _ _ ((hv (len - i) (Nat.le_refl _)).symm.trans (fv_bad hle hx9 (Or.inr h8))) hP hD hS hl
    | succ jj42 ih => 
      intro i H locs ls hm9 hi hv hP hD hS hl
      refine lv_iload_n hx hb d_Pk_findValue_3 rfl (lv_at hl 0 rfl) ?_
      refine lv_iconst (v := 2) hx hb d_Pk_findValue_4 (by decide) ?_
      refine lv_iadd hx hb d_Pk_findValue_5 ?_
      refine lv_topi (fun x67 e66 => ?_)
      obtain rfl : x67 = nI (i + 2) := by rw [e66]; exact nI_add i 2
      refine lv_aload_n hx hb d_Pk_findValue_6 rfl (lv_at hl 1 rfl) ?_
      refine va_get (D := (dC, dI)) (ci := 2) (v := (.int (nI len))) (C := R_Pk) (T := F_Pk) (N := 2) hx hb hg in_Pk hown hK hP 0 rfl rfl 1 (by decide) (hg _ k_52) (fun x9 h9 => u_same (hg _ k_53) x9 h9) rfl d_Pk_findValue_7 ?_
      refine lv_icmp_gt (tgt := 72) hx hb d_Pk_findValue_10 (by decide) (fun hc68 => ?_) (fun hc68 => ?_)
      · skip
        have hl := lv_sub hl [1] (show _ = [(0, .ref h)] from rfl)
        have h8 := (nI_ltI (by omega) (by omega)).mp hc68
        exact ex0  _ _ _ ((hv (len - i) (Nat.le_refl _)).symm.trans (fv_no (by omega))) hP hD hS hl
      · skip
        have hle : i + 2 ≤ len := by rw [nI_ltI (by omega) (by omega)] at hc68; omega
        obtain ⟨t, ht, he⟩ := hab (i + 1)
        have hx9 : (f (i + 1)).toNatClampNeg = t := by rw [he, nI_clamp (by omega)]
        refine lv_aload_n hx hb d_Pk_findValue_13 rfl (lv_at hl 1 rfl) ?_
        refine va_get (D := (dC, dI)) (ci := 2) (v := (.ref r)) (C := R_Pk) (T := F_Pk) (N := 2) hx hb hg in_Pk hown hK hP 0 rfl rfl 0 (by decide) (hg _ k_45) (fun x9 h9 => u_same (hg _ k_41) x9 h9) rfl d_Pk_findValue_14 ?_
        refine lv_iload_n hx hb d_Pk_findValue_17 rfl (lv_at hl 0 rfl) ?_
        refine lv_iconst (v := 1) hx hb d_Pk_findValue_18 (by decide) ?_
        refine lv_iadd hx hb d_Pk_findValue_19 ?_
        refine lv_topi (fun x70 e69 => ?_)
        obtain rfl : x70 = nI (i + 1) := by rw [e69]; exact nI_1 i
        refine va_iald hx hb hK hP 1 0 rfl rfl (i := (nI (i + 1))) (vp_in_nI (by omega) (by omega)) d_Pk_findValue_20 ?_
        refine lv_topi (fun x72 e71 => ?_)
        obtain rfl : x72 = nI t := by rw [e71]; rw [nI_clamp (by omega)]; exact he
        refine lv_istore (lv' := [(4, .int (nI t)), (3, .int (nI i)), (0, .ref h), (1, .int x), (2, .int (nI k))]) hx hb d_Pk_findValue_21 hl (by decide) rfl (fun ls hl => ?_)
        refine lv_iload hx hb d_Pk_findValue_23 (lv_at hl 0 rfl) ?_
        refine lv_iconst (v := 2) hx hb d_Pk_findValue_25 (by decide) ?_
        refine lv_icmp_lt (tgt := 40) hx hb d_Pk_findValue_26 (by decide) (fun hc73 => ?_) (fun hc73 => ?_)
        · skip
          have hl := lv_sub hl [2] (show _ = [(0, .ref h)] from rfl)
          have h8 : t < 2 := (nI_ltI (b := 2) (by omega) (by decide)).mp hc73
          exact ex1  _ _ _ ((hv (len - i) (Nat.le_refl _)).symm.trans (fv_bad hle hx9 (Or.inl h8))) hP hD hS hl
        · skip
          have h2 : 2 ≤ t := Nat.not_lt.mp (fun hq => hc73 (nI_lt (b := 2) hq (by decide)))
          refine lv_iload_n hx hb d_Pk_findValue_29 rfl (lv_at hl 1 rfl) ?_
          refine lv_iload hx hb d_Pk_findValue_30 (lv_at hl 0 rfl) ?_
          refine lv_iadd hx hb d_Pk_findValue_32 ?_
          refine lv_topi (fun x75 e74 => ?_)
          obtain rfl : x75 = nI (i + t) := by rw [e74]; exact nI_add i t
          refine lv_aload_n hx hb d_Pk_findValue_33 rfl (lv_at hl 2 rfl) ?_
          refine va_get (D := (dC, dI)) (ci := 2) (v := (.int (nI len))) (C := R_Pk) (T := F_Pk) (N := 2) hx hb hg in_Pk hown hK hP 0 rfl rfl 1 (by decide) (hg _ k_52) (fun x9 h9 => u_same (hg _ k_53) x9 h9) rfl d_Pk_findValue_34 ?_
          refine lv_icmp_le (tgt := 42) hx hb d_Pk_findValue_37 (by decide) (fun hc76 => ?_) (fun hc76 => ?_)
          · skip
            have h3 : i + t ≤ len := (nI_leI (by omega) (by omega)).mp hc76
            refine lv_aload_n hx hb d_Pk_findValue_42 rfl (lv_at hl 2 rfl) ?_
            refine va_get (D := (dC, dI)) (ci := 2) (v := (.ref r)) (C := R_Pk) (T := F_Pk) (N := 2) hx hb hg in_Pk hown hK hP 0 rfl rfl 0 (by decide) (hg _ k_45) (fun x9 h9 => u_same (hg _ k_41) x9 h9) rfl d_Pk_findValue_43 ?_
            refine lv_iload_n hx hb d_Pk_findValue_46 rfl (lv_at hl 1 rfl) ?_
            refine va_iald hx hb hK hP 1 0 rfl rfl (i := (nI i)) (vp_in_nI (by omega) (by omega)) d_Pk_findValue_47 ?_
            refine lv_topi (fun x78 e77 => ?_)
            obtain rfl : x78 = f i := by rw [e77]; rw [nI_clamp (by omega)]
            refine lv_iload_n hx hb d_Pk_findValue_48 rfl (lv_at hl 3 rfl) ?_
            refine lv_icmp_ne (tgt := 64) hx hb d_Pk_findValue_49 (by decide) (fun hc79 => ?_) (fun hc79 => ?_)
            · skip
              refine lv_iload_n hx hb d_Pk_findValue_64 rfl (lv_at hl 1 rfl) ?_
              refine lv_iload hx hb d_Pk_findValue_65 (lv_at hl 0 rfl) ?_
              refine lv_iadd hx hb d_Pk_findValue_67 ?_
              refine lv_topi (fun x81 e80 => ?_)
              obtain rfl : x81 = nI (i + t) := by rw [e80]; exact nI_add i t
              refine lv_istore_n (lv' := [(3, .int (nI (i + t))), (4, .int (nI t)), (0, .ref h), (1, .int x), (2, .int (nI k))]) hx hb d_Pk_findValue_68 rfl hl (by decide) rfl (fun ls hl => ?_)
              refine lv_goto (tgt := 3) hx hb d_Pk_findValue_69 (by decide) ?_
              have hl := lv_sub hl [0, 2, 3, 4] (show _ = [(3, .int (nI (i + t))), (0, .ref h), (1, .int x), (2, .int (nI k))] from rfl)
              exact ih (i + t) _ _ _ (by omega) (⟨by omega, by omega⟩) (fun n9 h9 => (fv_ind n9 (n9 + t) (i + t) h9 (by omega)).trans ((fv_on (n := n9 + t) hle hx9 (by omega) (fun h8 => hc79 h8.1)).symm.trans (hv (n9 + t + 1) (by omega)))) hP hD hS hl
            · skip
              have h5 := hc79
              refine lv_iload hx hb d_Pk_findValue_52 (lv_at hl 0 rfl) ?_
              refine lv_iload_n hx hb d_Pk_findValue_54 rfl (lv_at hl 4 rfl) ?_
              refine lv_iconst (v := 2) hx hb d_Pk_findValue_55 (by decide) ?_
              refine lv_iadd hx hb d_Pk_findValue_56 ?_
              refine lv_topi (fun x83 e82 => ?_)
              obtain rfl : x83 = nI (k + 2) := by rw [e82]; exact nI_add k 2
              refine lv_icmp_ne (tgt := 64) hx hb d_Pk_findValue_57 (by decide) (fun hc84 => ?_) (fun hc84 => ?_)
              · skip
                refine lv_iload_n hx hb d_Pk_findValue_64 rfl (lv_at hl 1 rfl) ?_
                refine lv_iload hx hb d_Pk_findValue_65 (lv_at hl 0 rfl) ?_
                refine lv_iadd hx hb d_Pk_findValue_67 ?_
                refine lv_topi (fun x86 e85 => ?_)
                obtain rfl : x86 = nI (i + t) := by rw [e85]; exact nI_add i t
                refine lv_istore_n (lv' := [(3, .int (nI (i + t))), (4, .int (nI t)), (0, .ref h), (1, .int x), (2, .int (nI k))]) hx hb d_Pk_findValue_68 rfl hl (by decide) rfl (fun ls hl => ?_)
                refine lv_goto (tgt := 3) hx hb d_Pk_findValue_69 (by decide) ?_
                have hl := lv_sub hl [0, 2, 3, 4] (show _ = [(3, .int (nI (i + t))), (0, .ref h), (1, .int x), (2, .int (nI k))] from rfl)
                exact ih (i + t) _ _ _ (by omega) (⟨by omega, by omega⟩) (fun n9 h9 => (fv_ind n9 (n9 + t) (i + t) h9 (by omega)).trans ((fv_on (n := n9 + t) hle hx9 (by omega) (fun h8 => hc84 (by rw [h8.2]))).symm.trans (hv (n9 + t + 1) (by omega)))) hP hD hS hl
              · skip
                have h4 : t = k + 2 := (nI_eq (by omega) (by omega)).mp hc84
                refine lv_iload_n hx hb d_Pk_findValue_60 rfl (lv_at hl 1 rfl) ?_
                refine lv_iconst (v := 2) hx hb d_Pk_findValue_61 (by decide) ?_
                refine lv_iadd hx hb d_Pk_findValue_62 ?_
                refine lv_topi (fun x88 e87 => ?_)
                obtain rfl : x88 = nI (i + 2) := by rw [e87]; exact nI_add i 2
                have hl := lv_sub hl [2] (show _ = [(0, .ref h)] from rfl)
                exact ex2 i _ _ _ (⟨by omega, by omega, (hv (len - i + 1) (by omega)).symm.trans (fv_hit hle hx9 (by omega) ⟨h5, h4⟩)⟩) hP hD hS hl
          · skip
            have hl := lv_sub hl [2] (show _ = [(0, .ref h)] from rfl)
            have h8 : len < i + t := by
              apply Nat.not_le.mp; intro h7; exact hc76 (nI_le h7 (by omega))
            exact ex1  _ _ _ ((hv (len - i) (Nat.le_refl _)).symm.trans (fv_bad hle hx9 (Or.inr h8))) hP hD hS hl
  refine L41 _ (fun  H locs ls hR hP hD hS hl => ?_) (fun  H locs ls hR hP hD hS hl => ?_) (fun i H locs ls hf hP hD hS hl => ?_) (len - 20) 20 s.heap _ ls (Nat.le_refl _) (⟨by omega, h20⟩) (fun n9 h9 => fv_ind n9 (len - 20) 20 h9 (Nat.le_refl _)) hP hD hS hl
  · skip
    refine lv_iconst (v := (-1)) hx hb d_Pk_findValue_72 (by decide) ?_
    refine lv_topi (fun x90 e89 => ?_)
    obtain rfl : x90 = fv f len x k (len - 20) 20 := by rw [e89]; exact hR.symm
    have hP9 := hP.sub (ws' := [(h, .inr (2, [.ref r, .int (nI len)])), (r, .inl ((cT 0), n, .inl f))]) [0, 1] rfl
    have hD9 := hD.sub (ws' := [(h, .inr (2, [.ref r, .int (nI len)])), (r, .inl ((cT 0), n, .inl f))]) [0, 1] (by decide) rfl
    exact W.iret (v := fv f len x k (len - 20) 20) hx hb hr (fun t ht hW => ⟨⟨_, (), rfl, ⟨rfl, Or.inl hR⟩, by rw [ht]; exact hP9, va_K.moved hW.alike hK, hD9⟩, hS.F ht⟩) hS.2.2 d_Pk_findValue_73
  · skip
    refine lv_iconst (v := (-1)) hx hb d_Pk_findValue_40 (by decide) ?_
    refine lv_topi (fun x92 e91 => ?_)
    obtain rfl : x92 = fv f len x k (len - 20) 20 := by rw [e91]; exact hR.symm
    have hP9 := hP.sub (ws' := [(h, .inr (2, [.ref r, .int (nI len)])), (r, .inl ((cT 0), n, .inl f))]) [0, 1] rfl
    have hD9 := hD.sub (ws' := [(h, .inr (2, [.ref r, .int (nI len)])), (r, .inl ((cT 0), n, .inl f))]) [0, 1] (by decide) rfl
    exact W.iret (v := fv f len x k (len - 20) 20) hx hb hr (fun t ht hW => ⟨⟨_, (), rfl, ⟨rfl, Or.inl hR⟩, by rw [ht]; exact hP9, va_K.moved hW.alike hK, hD9⟩, hS.F ht⟩) hS.2.2 d_Pk_findValue_41
  · skip
    refine lv_topi (fun x94 e93 => ?_)
    obtain rfl : x94 = fv f len x k (len - 20) 20 := by rw [e93]; exact hf.2.2.symm
    have hP9 := hP.sub (ws' := [(h, .inr (2, [.ref r, .int (nI len)])), (r, .inl ((cT 0), n, .inl f))]) [0, 1] rfl
    have hD9 := hD.sub (ws' := [(h, .inr (2, [.ref r, .int (nI len)])), (r, .inl ((cT 0), n, .inl f))]) [0, 1] (by decide) rfl
    exact W.iret (v := fv f len x k (len - 20) 20) hx hb hr (fun t ht hW => ⟨⟨_, (), rfl, ⟨rfl, Or.inr ⟨i + 2, hf.2.2, by omega, by omega⟩⟩, by rw [ht]; exact hP9, va_K.moved hW.alike hK, hD9⟩, hS.F ht⟩) hS.2.2 d_Pk_findValue_63
