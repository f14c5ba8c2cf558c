theorem d_Md_thrown_0 : decode b_Md_thrown 0 = .ok (.aload_n 0, 1) := by decide +kernel
theorem d_Md_thrown_1 : decode b_Md_thrown 1 = .ok (.getfield 243, 3) := by decide +kernel
theorem d_Md_thrown_4 : decode b_Md_thrown 4 = .ok (.ireturn, 1) := by decide +kernel
theorem d_Md_goes_0 : decode b_Md_goes 0 = .ok (.aload_n 0, 1) := by decide +kernel
theorem d_Md_goes_1 : decode b_Md_goes 1 = .ok (.iload_n 1, 1) := by decide +kernel
theorem d_Md_goes_2 : decode b_Md_goes 2 = .ok (.ifCond .eq 7, 3) := by decide +kernel
theorem d_Md_goes_9 : decode b_Md_goes 9 = .ok (.iconst 1, 1) := by decide +kernel
theorem d_Md_goes_10 : decode b_Md_goes 10 = .ok (.putfield 243, 3) := by decide +kernel
theorem d_Md_goes_13 : decode b_Md_goes 13 = .ok (.iload_n 1, 1) := by decide +kernel
theorem d_Md_goes_14 : decode b_Md_goes 14 = .ok (.ireturn, 1) := by decide +kernel
theorem d_Md_goes_5 : decode b_Md_goes 5 = .ok (.iconst 0, 1) := by decide +kernel
theorem d_Md_goes_6 : decode b_Md_goes 6 = .ok (.goto 4, 3) := by decide +kernel
theorem d_Md_isByte_0 : decode b_Md_isByte 0 = .ok (.iload_n 0, 1) := by decide +kernel
theorem d_Md_isByte_1 : decode b_Md_isByte 1 = .ok (.ifCond .lt 14, 3) := by decide +kernel
theorem d_Md_isByte_4 : decode b_Md_isByte 4 = .ok (.iload_n 0, 1) := by decide +kernel
theorem d_Md_isByte_5 : decode b_Md_isByte 5 = .ok (.sipush 256, 3) := by decide +kernel
theorem d_Md_isByte_8 : decode b_Md_isByte 8 = .ok (.if_icmp .ge 7, 3) := by decide +kernel
theorem d_Md_isByte_11 : decode b_Md_isByte 11 = .ok (.iconst 1, 1) := by decide +kernel
theorem d_Md_isByte_12 : decode b_Md_isByte 12 = .ok (.goto 4, 3) := by decide +kernel
theorem d_Md_isByte_16 : decode b_Md_isByte 16 = .ok (.ireturn, 1) := by decide +kernel
theorem d_Md_isByte_15 : decode b_Md_isByte 15 = .ok (.iconst 0, 1) := by decide +kernel
theorem d_Md_say_0 : decode b_Md_say 0 = .ok (.aload_n 0, 1) := by decide +kernel
theorem d_Md_say_1 : decode b_Md_say 1 = .ok (.getfield 157, 3) := by decide +kernel
theorem d_Md_say_4 : decode b_Md_say 4 = .ok (.aload_n 0, 1) := by decide +kernel
theorem d_Md_say_5 : decode b_Md_say 5 = .ok (.getfield 247, 3) := by decide +kernel
theorem d_Md_say_8 : decode b_Md_say 8 = .ok (.iload_n 1, 1) := by decide +kernel
theorem d_Md_say_9 : decode b_Md_say 9 = .ok (.iastore, 1) := by decide +kernel
theorem d_Md_say_10 : decode b_Md_say 10 = .ok (.aload_n 0, 1) := by decide +kernel
theorem d_Md_say_11 : decode b_Md_say 11 = .ok (.dup, 1) := by decide +kernel
theorem d_Md_say_12 : decode b_Md_say 12 = .ok (.getfield 247, 3) := by decide +kernel
theorem d_Md_say_15 : decode b_Md_say 15 = .ok (.iconst 1, 1) := by decide +kernel
theorem d_Md_say_16 : decode b_Md_say 16 = .ok (.iadd, 1) := by decide +kernel
theorem d_Md_say_17 : decode b_Md_say 17 = .ok (.putfield 247, 3) := by decide +kernel
theorem d_Md_say_20 : decode b_Md_say 20 = .ok (.return_, 1) := by decide +kernel
theorem d_Md_add_0 : decode b_Md_add 0 = .ok (.aload_n 0, 1) := by decide +kernel
theorem d_Md_add_1 : decode b_Md_add 1 = .ok (.getfield 154, 3) := by decide +kernel
theorem d_Md_add_4 : decode b_Md_add 4 = .ok (.aload_n 0, 1) := by decide +kernel
theorem d_Md_add_5 : decode b_Md_add 5 = .ok (.getfield 297, 3) := by decide +kernel
theorem d_Md_add_8 : decode b_Md_add 8 = .ok (.iload_n 1, 1) := by decide +kernel
theorem d_Md_add_9 : decode b_Md_add 9 = .ok (.sipush 255, 3) := by decide +kernel
theorem d_Md_add_12 : decode b_Md_add 12 = .ok (.iand, 1) := by decide +kernel
theorem d_Md_add_13 : decode b_Md_add 13 = .ok (.iastore, 1) := by decide +kernel
theorem d_Md_add_14 : decode b_Md_add 14 = .ok (.aload_n 0, 1) := by decide +kernel
theorem d_Md_add_15 : decode b_Md_add 15 = .ok (.dup, 1) := by decide +kernel
theorem d_Md_add_16 : decode b_Md_add 16 = .ok (.getfield 297, 3) := by decide +kernel
theorem d_Md_add_19 : decode b_Md_add 19 = .ok (.iconst 1, 1) := by decide +kernel
theorem d_Md_add_20 : decode b_Md_add 20 = .ok (.iadd, 1) := by decide +kernel
theorem d_Md_add_21 : decode b_Md_add 21 = .ok (.putfield 297, 3) := by decide +kernel
theorem d_Md_add_24 : decode b_Md_add 24 = .ok (.return_, 1) := by decide +kernel
theorem d_Md_tell_0 : decode b_Md_tell 0 = .ok (.aload_n 0, 1) := by decide +kernel
theorem d_Md_tell_1 : decode b_Md_tell 1 = .ok (.getfield 169, 3) := by decide +kernel
theorem d_Md_tell_4 : decode b_Md_tell 4 = .ok (.aload_n 0, 1) := by decide +kernel
theorem d_Md_tell_5 : decode b_Md_tell 5 = .ok (.getfield 383, 3) := by decide +kernel
theorem d_Md_tell_8 : decode b_Md_tell 8 = .ok (.iload_n 1, 1) := by decide +kernel
theorem d_Md_tell_9 : decode b_Md_tell 9 = .ok (.sipush 255, 3) := by decide +kernel
theorem d_Md_tell_12 : decode b_Md_tell 12 = .ok (.iand, 1) := by decide +kernel
theorem d_Md_tell_13 : decode b_Md_tell 13 = .ok (.iastore, 1) := by decide +kernel
theorem d_Md_tell_14 : decode b_Md_tell 14 = .ok (.aload_n 0, 1) := by decide +kernel
theorem d_Md_tell_15 : decode b_Md_tell 15 = .ok (.dup, 1) := by decide +kernel
theorem d_Md_tell_16 : decode b_Md_tell 16 = .ok (.getfield 383, 3) := by decide +kernel
theorem d_Md_tell_19 : decode b_Md_tell 19 = .ok (.iconst 1, 1) := by decide +kernel
theorem d_Md_tell_20 : decode b_Md_tell 20 = .ok (.iadd, 1) := by decide +kernel
theorem d_Md_tell_21 : decode b_Md_tell 21 = .ok (.putfield 383, 3) := by decide +kernel
theorem d_Md_tell_24 : decode b_Md_tell 24 = .ok (.return_, 1) := by decide +kernel
theorem d_Md_letter_0 : decode b_Md_letter 0 = .ok (.bipush 33, 2) := by decide +kernel
theorem d_Md_letter_2 : decode b_Md_letter 2 = .ok (.lload_n 0, 1) := by decide +kernel
theorem d_Md_letter_3 : decode b_Md_letter 3 = .ok (.bipush 8, 2) := by decide +kernel
theorem d_Md_letter_5 : decode b_Md_letter 5 = .ok (.iload_n 2, 1) := by decide +kernel
theorem d_Md_letter_6 : decode b_Md_letter 6 = .ok (.bipush 8, 2) := by decide +kernel
theorem d_Md_letter_8 : decode b_Md_letter 8 = .ok (.irem, 1) := by decide +kernel
theorem d_Md_letter_9 : decode b_Md_letter 9 = .ok (.imul, 1) := by decide +kernel
theorem d_Md_letter_10 : decode b_Md_letter 10 = .ok (.lshr, 1) := by decide +kernel
theorem d_Md_letter_11 : decode b_Md_letter 11 = .ok (.ldc2_w 287, 3) := by decide +kernel
theorem d_Md_letter_14 : decode b_Md_letter 14 = .ok (.land, 1) := by decide +kernel
theorem d_Md_letter_15 : decode b_Md_letter 15 = .ok (.l2i, 1) := by decide +kernel
theorem d_Md_letter_16 : decode b_Md_letter 16 = .ok (.iadd, 1) := by decide +kernel
theorem d_Md_letter_17 : decode b_Md_letter 17 = .ok (.ireturn, 1) := by decide +kernel
theorem d_Md_length_0 : decode b_Md_length 0 = .ok (.aload_n 0, 1) := by decide +kernel
theorem d_Md_length_1 : decode b_Md_length 1 = .ok (.getfield 154, 3) := by decide +kernel
theorem d_Md_length_4 : decode b_Md_length 4 = .ok (.iconst 2, 1) := by decide +kernel
theorem d_Md_length_5 : decode b_Md_length 5 = .ok (.aload_n 0, 1) := by decide +kernel
theorem d_Md_length_6 : decode b_Md_length 6 = .ok (.getfield 297, 3) := by decide +kernel
theorem d_Md_length_9 : decode b_Md_length 9 = .ok (.sipush 256, 3) := by decide +kernel
theorem d_Md_length_12 : decode b_Md_length 12 = .ok (.idiv, 1) := by decide +kernel
theorem d_Md_length_13 : decode b_Md_length 13 = .ok (.iastore, 1) := by decide +kernel
theorem d_Md_length_14 : decode b_Md_length 14 = .ok (.aload_n 0, 1) := by decide +kernel
theorem d_Md_length_15 : decode b_Md_length 15 = .ok (.getfield 154, 3) := by decide +kernel
theorem d_Md_length_18 : decode b_Md_length 18 = .ok (.iconst 3, 1) := by decide +kernel
theorem d_Md_length_19 : decode b_Md_length 19 = .ok (.aload_n 0, 1) := by decide +kernel
theorem d_Md_length_20 : decode b_Md_length 20 = .ok (.getfield 297, 3) := by decide +kernel
theorem d_Md_length_23 : decode b_Md_length 23 = .ok (.sipush 256, 3) := by decide +kernel
theorem d_Md_length_26 : decode b_Md_length 26 = .ok (.irem, 1) := by decide +kernel
theorem d_Md_length_27 : decode b_Md_length 27 = .ok (.iastore, 1) := by decide +kernel
theorem d_Md_length_28 : decode b_Md_length 28 = .ok (.return_, 1) := by decide +kernel
theorem d_Md_closes_0 : decode b_Md_closes 0 = .ok (.aload_n 0, 1) := by decide +kernel
theorem d_Md_closes_1 : decode b_Md_closes 1 = .ok (.invokevirtual 307, 3) := by decide +kernel
theorem d_Md_closes_4 : decode b_Md_closes 4 = .ok (.aload_n 0, 1) := by decide +kernel
theorem d_Md_closes_5 : decode b_Md_closes 5 = .ok (.getfield 297, 3) := by decide +kernel
theorem d_Md_closes_8 : decode b_Md_closes 8 = .ok (.ireturn, 1) := by decide +kernel
theorem d_Md_opens_0 : decode b_Md_opens 0 = .ok (.aload_n 0, 1) := by decide +kernel
theorem d_Md_opens_1 : decode b_Md_opens 1 = .ok (.aload_n 0, 1) := by decide +kernel
theorem d_Md_opens_2 : decode b_Md_opens 2 = .ok (.getfield 297, 3) := by decide +kernel
theorem d_Md_opens_5 : decode b_Md_opens 5 = .ok (.iload_n 2, 1) := by decide +kernel
theorem d_Md_opens_6 : decode b_Md_opens 6 = .ok (.iadd, 1) := by decide +kernel
theorem d_Md_opens_7 : decode b_Md_opens 7 = .ok (.iconst 2, 1) := by decide +kernel
theorem d_Md_opens_8 : decode b_Md_opens 8 = .ok (.iadd, 1) := by decide +kernel
theorem d_Md_opens_9 : decode b_Md_opens 9 = .ok (.sipush 1000, 3) := by decide +kernel
theorem d_Md_opens_12 : decode b_Md_opens 12 = .ok (.if_icmp .le 7, 3) := by decide +kernel
theorem d_Md_opens_19 : decode b_Md_opens 19 = .ok (.iconst 0, 1) := by decide +kernel
theorem d_Md_opens_20 : decode b_Md_opens 20 = .ok (.putfield 243, 3) := by decide +kernel
theorem d_Md_opens_23 : decode b_Md_opens 23 = .ok (.aload_n 0, 1) := by decide +kernel
theorem d_Md_opens_24 : decode b_Md_opens 24 = .ok (.getfield 243, 3) := by decide +kernel
theorem d_Md_opens_27 : decode b_Md_opens 27 = .ok (.ifCond .ne 15, 3) := by decide +kernel
theorem d_Md_opens_30 : decode b_Md_opens 30 = .ok (.aload_n 0, 1) := by decide +kernel
theorem d_Md_opens_31 : decode b_Md_opens 31 = .ok (.iload_n 1, 1) := by decide +kernel
theorem d_Md_opens_32 : decode b_Md_opens 32 = .ok (.invokevirtual 300, 3) := by decide +kernel
theorem d_Md_opens_35 : decode b_Md_opens 35 = .ok (.aload_n 0, 1) := by decide +kernel
theorem d_Md_opens_36 : decode b_Md_opens 36 = .ok (.iload_n 2, 1) := by decide +kernel
theorem d_Md_opens_37 : decode b_Md_opens 37 = .ok (.iconst 2, 1) := by decide +kernel
theorem d_Md_opens_38 : decode b_Md_opens 38 = .ok (.iadd, 1) := by decide +kernel
theorem d_Md_opens_39 : decode b_Md_opens 39 = .ok (.invokevirtual 300, 3) := by decide +kernel
theorem d_Md_opens_42 : decode b_Md_opens 42 = .ok (.aload_n 0, 1) := by decide +kernel
theorem d_Md_opens_43 : decode b_Md_opens 43 = .ok (.getfield 243, 3) := by decide +kernel
theorem d_Md_opens_46 : decode b_Md_opens 46 = .ok (.ifCond .ne 7, 3) := by decide +kernel
theorem d_Md_opens_49 : decode b_Md_opens 49 = .ok (.iconst 1, 1) := by decide +kernel
theorem d_Md_opens_50 : decode b_Md_opens 50 = .ok (.goto 4, 3) := by decide +kernel
theorem d_Md_opens_54 : decode b_Md_opens 54 = .ok (.ireturn, 1) := by decide +kernel
theorem d_Md_opens_15 : decode b_Md_opens 15 = .ok (.iconst 2, 1) := by decide +kernel
theorem d_Md_opens_16 : decode b_Md_opens 16 = .ok (.goto 4, 3) := by decide +kernel
theorem d_Md_opens_53 : decode b_Md_opens 53 = .ok (.iconst 0, 1) := by decide +kernel
theorem d_Md_saySecret_0 : decode b_Md_saySecret 0 = .ok (.iconst 0, 1) := by decide +kernel
theorem d_Md_saySecret_1 : decode b_Md_saySecret 1 = .ok (.istore_n 2, 1) := by decide +kernel
theorem d_Md_saySecret_2 : decode b_Md_saySecret 2 = .ok (.iload_n 2, 1) := by decide +kernel
theorem d_Md_saySecret_3 : decode b_Md_saySecret 3 = .ok (.aload_n 0, 1) := by decide +kernel
theorem d_Md_saySecret_4 : decode b_Md_saySecret 4 = .ok (.getfield 145, 3) := by decide +kernel
theorem d_Md_saySecret_7 : decode b_Md_saySecret 7 = .ok (.iload_n 1, 1) := by decide +kernel
theorem d_Md_saySecret_8 : decode b_Md_saySecret 8 = .ok (.iaload, 1) := by decide +kernel
theorem d_Md_saySecret_9 : decode b_Md_saySecret 9 = .ok (.if_icmp .ge 24, 3) := by decide +kernel
theorem d_Md_saySecret_12 : decode b_Md_saySecret 12 = .ok (.aload_n 0, 1) := by decide +kernel
theorem d_Md_saySecret_13 : decode b_Md_saySecret 13 = .ok (.aload_n 0, 1) := by decide +kernel
theorem d_Md_saySecret_14 : decode b_Md_saySecret 14 = .ok (.getfield 141, 3) := by decide +kernel
theorem d_Md_saySecret_17 : decode b_Md_saySecret 17 = .ok (.bipush 40, 2) := by decide +kernel
theorem d_Md_saySecret_19 : decode b_Md_saySecret 19 = .ok (.iload_n 1, 1) := by decide +kernel
theorem d_Md_saySecret_20 : decode b_Md_saySecret 20 = .ok (.imul, 1) := by decide +kernel
theorem d_Md_saySecret_21 : decode b_Md_saySecret 21 = .ok (.iload_n 2, 1) := by decide +kernel
theorem d_Md_saySecret_22 : decode b_Md_saySecret 22 = .ok (.iadd, 1) := by decide +kernel
theorem d_Md_saySecret_23 : decode b_Md_saySecret 23 = .ok (.iaload, 1) := by decide +kernel
theorem d_Md_saySecret_24 : decode b_Md_saySecret 24 = .ok (.invokevirtual 250, 3) := by decide +kernel
theorem d_Md_saySecret_27 : decode b_Md_saySecret 27 = .ok (.iinc 2 1, 3) := by decide +kernel
theorem d_Md_saySecret_30 : decode b_Md_saySecret 30 = .ok (.goto (-28), 3) := by decide +kernel
theorem d_Md_saySecret_33 : decode b_Md_saySecret 33 = .ok (.return_, 1) := by decide +kernel
/-- the fields of the model: the references by their places, what a call may change by name -/
abbrev mdG (r : Nat → Nat) (cd tm sn tx lz az na nt nr mw ml : Int32) (mk dq : Int64) : List Value := [.ref (r 0), .int cd, .int tm, .ref (r 3), .ref (r 4), .ref (r 5), .ref (r 6), .ref (r 7), .int sn, .ref (r 9), .int tx, .ref (r 11), .ref (r 12), .ref (r 13), .int lz, .ref (r 15), .int az, .int na, .ref (r 18), .ref (r 19), .ref (r 20), .ref (r 21), .ref (r 22), .ref (r 23), .int nt, .ref (r 25), .ref (r 26), .ref (r 27), .ref (r 28), .ref (r 29), .ref (r 30), .long mk, .long dq, .int nr, .ref (r 34), .ref (r 35), .ref (r 36), .ref (r 37), .ref (r 38), .ref (r 39), .ref (r 40), .ref (r 41), .ref (r 42), .int mw, .int ml]
theorem lt_le1 {a b v : Int32} (h : a.toInt + 1 = b.toInt) : a < v ↔ b ≤ v := by
  rw [Int32.lt_iff_toInt_lt, Int32.le_iff_toInt_le]; omega
set_option maxHeartbeats 4000000 in
set_option maxRecDepth 100000 in
/-- thrown -/
theorem m_thrown (l : Launch) (dC : Nat → ClassId) (dI : Nat → Nat → Nat) (cT : Nat → ClassId) (sz : Nat) (mo : Nat) (r : Nat → Nat) (cd : Int32) (tm : Int32) (sn : Nat) (tx : Nat) (lz : Nat) (az : Nat) (na : Nat) (nt : Nat) (nr : Nat) (mw : Int32) (ml : Int32) (mk : Int64) (dq : Int64)  : Met l y_Md_thrown (Cond.code y_Md_thrown b_Md_thrown 1 (Option.some Jvm.ClassFile.FieldType.int) :: BIG) ({ frames := 0, cells := 0, slots := 0, locals := 0 }) (va_Pc [.ref mo] (fun U => U.heap.size = sz ∧ va_P (dC, dI) vcl [(mo, .inr (12, mdG r cd tm (nI sn) (nI tx) (nI lz) (nI az) (nI na) (nI nt) (nI nr) mw ml mk dq))] U.heap ∧ va_K (dC, dI) vcl (tyL cT) U ∧ va_D (fun _ => True) [(mo, .inr (12, mdG r cd tm (nI sn) (nI tx) (nI lz) (nI az) (nI na) (nI nt) (nI nr) mw ml mk dq))])) (va_Qi (S := Unit) (fun rv9 u => rv9 = cd ∧ (True)) (fun u t => va_P (dC, dI) vcl [(mo, .inr (12, mdG r cd tm (nI sn) (nI tx) (nI lz) (nI az) (nI na) (nI nt) (nI nr) mw ml mk dq))] t.heap ∧ va_K (dC, dI) vcl (tyL cT) t ∧ va_D (va_A [(mo, .inr (12, mdG r cd tm (nI sn) (nI tx) (nI lz) (nI az) (nI na) (nI nt) (nI nr) mw ml mk dq))] sz) [(mo, .inr (12, mdG r cd tm (nI sn) (nI tx) (nI lz) (nI az) (nI na) (nI nt) (nI nr) mw ml mk dq))]) (va_A [(mo, .inr (12, mdG r cd tm (nI sn) (nI tx) (nI lz) (nI az) (nI na) (nI nt) (nI nr) mw ml mk dq))] sz)) 0 0 (va_A [(mo, .inr (12, mdG r cd tm (nI sn) (nI tx) (nI lz) (nI az) (nI na) (nI nt) (nI nr) mw ml mk dq))] sz) := by
  refine Met.ofW (cc := b_Md_thrown) (maxL := 1) (ret := (Option.some Jvm.ClassFile.FieldType.int)) (by decide) rfl ?_
  intro p e s m args below meth c s₁ B hml hv
  obtain ⟨hargs, hsz, hP, hK, hD0⟩ := hv
  have hx := B.exec
  have hb := B.bytes
  have hr := B.returns
  have hts := atoms_spec (ws := (Cond.code y_Md_thrown b_Md_thrown 1 (Option.some Jvm.ClassFile.FieldType.int) :: BIG)) B.pre
  have hg : ∀ w ∈ BIG, w.before _ s = true := fun w h => hts w (List.mem_cons_of_mem _ h)
  have hown : s.vm.findClass "DoorServerModel" = some m.cls := findClass_of_methodNamed B.named
  have hlocks := B.notSynchronized
  subst hsz
  have hD := hD0.self (sz := s.heap.size)
  generalize hAe : va_A [(mo, .inr (12, mdG r cd tm (nI sn) (nI tx) (nI lz) (nI az) (nI na) (nI nt) (nI nr) mw ml mk dq))] s.heap.size = A at hD ⊢
  have hA : ∀ q : Nat, s.heap.size ≤ q → A q := fun q h => by rw [← hAe]; exact Or.inr h
  have hS : va_S A s.heap s.heap [] := va_S.rf
  have hl := lv_entry ([.ref mo]) (n := 1) (Nat.le_of_ble_eq_true rfl)
  refine W.eq (g2 := entryFrame m (List.toArray [.ref mo]) 1) (by rw [hargs]) ?_
  rw [lg_entry_eq]
  generalize (lg_sl ([.ref mo]) ++ List.replicate (1 - (lg_sl ([.ref mo])).length) Slot.unset).toArray = ls at hl ⊢
  have hl : lv_has ls 1 [(0, .ref mo)] := hl
  change W p l e ({ frames := 0, cells := 0, slots := 0, locals := 0 } : Room) s m args below meth c s.heap [] 0 0 _ _
  have hP : va_P (dC, dI) vcl [(mo, .inr (12, mdG r cd tm (nI sn) (nI tx) (nI lz) (nI az) (nI na) (nI nt) (nI nr) mw ml mk dq))] s.heap := hP
  refine lv_aload_n hx hb d_Md_thrown_0 rfl (lv_at hl 0 rfl) ?_
  refine va_get (D := (dC, dI)) (ci := 12) (v := (.int cd)) (C := R_Md) (T := F_Md) (N := 45) hx hb hg in_Md hown hK hP 0 rfl rfl 1 (by decide) (hg _ k_1021) (fun _ h9 => h9) rfl d_Md_thrown_1 ?_
  have hP9 := hP.sub (ws' := [(mo, .inr (12, mdG r cd tm (nI sn) (nI tx) (nI lz) (nI az) (nI na) (nI nt) (nI nr) mw ml mk dq))]) [0] rfl
  have hD9 := hD.sub (ws' := [(mo, .inr (12, mdG r cd tm (nI sn) (nI tx) (nI lz) (nI az) (nI na) (nI nt) (nI nr) mw ml mk dq))]) [0] (by decide) rfl
  exact W.iret (v := cd) hx hb hr (fun t ht hW => ⟨⟨_, (), rfl, ⟨rfl, trivial⟩, by rw [ht]; exact hP9, va_K.moved hW.alike hK, hD9⟩, hS.F ht⟩) hS.2.2 d_Md_thrown_4
set_option maxHeartbeats 4000000 in
set_option maxRecDepth 100000 in
/-- goes -/
theorem m_goes0 (l : Launch) (dC : Nat → ClassId) (dI : Nat → Nat → Nat) (cT : Nat → ClassId) (sz : Nat) (mo : Nat) (r : Nat → Nat) (cd : Int32) (tm : Int32) (sn : Nat) (tx : Nat) (lz : Nat) (az : Nat) (na : Nat) (nt : Nat) (nr : Nat) (mw : Int32) (ml : Int32) (mk : Int64) (dq : Int64)  : Met l y_Md_goes (Cond.code y_Md_goes b_Md_goes 2 (Option.some Jvm.ClassFile.FieldType.boolean) :: BIG) ({ frames := 0, cells := 0, slots := 0, locals := 0 }) (va_Pc [.ref mo, .int 0] (fun U => U.heap.size = sz ∧ va_P (dC, dI) vcl [(mo, .inr (12, mdG r cd tm (nI sn) (nI tx) (nI lz) (nI az) (nI na) (nI nt) (nI nr) mw ml mk dq))] U.heap ∧ va_K (dC, dI) vcl (tyL cT) U ∧ va_D (fun _ => True) [(mo, .inr (12, mdG r cd tm (nI sn) (nI tx) (nI lz) (nI az) (nI na) (nI nt) (nI nr) mw ml mk dq))])) (va_Qi (S := Unit) (fun rv9 u => rv9 = 0 ∧ (True)) (fun u t => va_P (dC, dI) vcl [(mo, .inr (12, mdG r 1 tm (nI sn) (nI tx) (nI lz) (nI az) (nI na) (nI nt) (nI nr) mw ml mk dq))] t.heap ∧ va_K (dC, dI) vcl (tyL cT) t ∧ va_D (va_A [(mo, .inr (12, mdG r cd tm (nI sn) (nI tx) (nI lz) (nI az) (nI na) (nI nt) (nI nr) mw ml mk dq))] sz) [(mo, .inr (12, mdG r 1 tm (nI sn) (nI tx) (nI lz) (nI az) (nI na) (nI nt) (nI nr) mw ml mk dq))]) (va_A [(mo, .inr (12, mdG r cd tm (nI sn) (nI tx) (nI lz) (nI az) (nI na) (nI nt) (nI nr) mw ml mk dq))] sz)) 0 0 (va_A [(mo, .inr (12, mdG r cd tm (nI sn) (nI tx) (nI lz) (nI az) (nI na) (nI nt) (nI nr) mw ml mk dq))] sz) := by
  refine Met.ofW (cc := b_Md_goes) (maxL := 2) (ret := (Option.some Jvm.ClassFile.FieldType.boolean)) (by decide) rfl ?_
  intro p e s m args below meth c s₁ B hml hv
  obtain ⟨hargs, hsz, hP, hK, hD0⟩ := hv
  have hx := B.exec
  have hb := B.bytes
  have hr := B.returns
  have hts := atoms_spec (ws := (Cond.code y_Md_goes b_Md_goes 2 (Option.some Jvm.ClassFile.FieldType.boolean) :: BIG)) B.pre
  have hg : ∀ w ∈ BIG, w.before _ s = true := fun w h => hts w (List.mem_cons_of_mem _ h)
  have hown : s.vm.findClass "DoorServerModel" = some m.cls := findClass_of_methodNamed B.named
  have hlocks := B.notSynchronized
  subst hsz
  have hD := hD0.self (sz := s.heap.size)
  generalize hAe : va_A [(mo, .inr (12, mdG r cd tm (nI sn) (nI tx) (nI lz) (nI az) (nI na) (nI nt) (nI nr) mw ml mk dq))] s.heap.size = A at hD ⊢
  have hA : ∀ q : Nat, s.heap.size ≤ q → A q := fun q h => by rw [← hAe]; exact Or.inr h
  have hS : va_S A s.heap s.heap [] := va_S.rf
  have hl := lv_entry ([.ref mo, .int 0]) (n := 2) (Nat.le_of_ble_eq_true rfl)
  refine W.eq (g2 := entryFrame m (List.toArray [.ref mo, .int 0]) 2) (by rw [hargs]) ?_
  rw [lg_entry_eq]
  generalize (lg_sl ([.ref mo, .int 0]) ++ List.replicate (2 - (lg_sl ([.ref mo, .int 0])).length) Slot.unset).toArray = ls at hl ⊢
  have hl : lv_has ls 2 [(0, .ref mo), (1, .int 0)] := hl
  change W p l e ({ frames := 0, cells := 0, slots := 0, locals := 0 } : Room) s m args below meth c s.heap [] 0 0 _ _
  have hP : va_P (dC, dI) vcl [(mo, .inr (12, mdG r cd tm (nI sn) (nI tx) (nI lz) (nI az) (nI na) (nI nt) (nI nr) mw ml mk dq))] s.heap := hP
  refine lv_aload_n hx hb d_Md_goes_0 rfl (lv_at hl 0 rfl) ?_
  refine lv_iload_n hx hb d_Md_goes_1 rfl (lv_at hl 1 rfl) ?_
  refine lv_if_eq (tgt := 9) hx hb d_Md_goes_2 (by decide) (fun hc1 => ?_) (fun hn9 => absurd (by decide) hn9)
  refine lv_iconst (v := 1) hx hb d_Md_goes_9 (by decide) ?_
  refine va_put (D := (dC, dI)) (ci := 12) (v := (.int 1)) (ty := .int) (C := R_Md) (T := F_Md) (N := 45) hx hb hg in_Md t_Md tok_Md nm_Md hown hK hP hD hS 0 rfl rfl 1 (by decide) (hg _ k_1021) (fun _ h9 => h9) rfl (by decide +kernel) rfl rfl (Nat.le_of_ble_eq_true rfl) d_Md_goes_10 (fun H locs hP hD hS => ?_)
  have hP : va_P (dC, dI) vcl [(mo, .inr (12, mdG r 1 tm (nI sn) (nI tx) (nI lz) (nI az) (nI na) (nI nt) (nI nr) mw ml mk dq))] H := hP
  have hD : va_D A [(mo, .inr (12, mdG r 1 tm (nI sn) (nI tx) (nI lz) (nI az) (nI na) (nI nt) (nI nr) mw ml mk dq))] := hD
  refine lv_iload_n hx hb d_Md_goes_13 rfl (lv_at hl 1 rfl) ?_
  have hP9 := hP.sub (ws' := [(mo, .inr (12, mdG r 1 tm (nI sn) (nI tx) (nI lz) (nI az) (nI na) (nI nt) (nI nr) mw ml mk dq))]) [0] rfl
  have hD9 := hD.sub (ws' := [(mo, .inr (12, mdG r 1 tm (nI sn) (nI tx) (nI lz) (nI az) (nI na) (nI nt) (nI nr) mw ml mk dq))]) [0] (by decide) rfl
  exact W.zret (v := 0) hx hb hr (by first | rfl | decide) (fun t ht hW => ⟨⟨_, (), rfl, ⟨rfl, trivial⟩, by rw [ht]; exact hP9, va_K.moved hW.alike hK, hD9⟩, hS.F ht⟩) hS.2.2 d_Md_goes_14
set_option maxHeartbeats 4000000 in
set_option maxRecDepth 100000 in
/-- goes -/
theorem m_goes1 (l : Launch) (dC : Nat → ClassId) (dI : Nat → Nat → Nat) (cT : Nat → ClassId) (sz : Nat) (mo : Nat) (r : Nat → Nat) (cd : Int32) (tm : Int32) (sn : Nat) (tx : Nat) (lz : Nat) (az : Nat) (na : Nat) (nt : Nat) (nr : Nat) (mw : Int32) (ml : Int32) (mk : Int64) (dq : Int64)  : Met l y_Md_goes (Cond.code y_Md_goes b_Md_goes 2 (Option.some Jvm.ClassFile.FieldType.boolean) :: BIG) ({ frames := 0, cells := 0, slots := 0, locals := 0 }) (va_Pc [.ref mo, .int 1] (fun U => U.heap.size = sz ∧ va_P (dC, dI) vcl [(mo, .inr (12, mdG r cd tm (nI sn) (nI tx) (nI lz) (nI az) (nI na) (nI nt) (nI nr) mw ml mk dq))] U.heap ∧ va_K (dC, dI) vcl (tyL cT) U ∧ va_D (fun _ => True) [(mo, .inr (12, mdG r cd tm (nI sn) (nI tx) (nI lz) (nI az) (nI na) (nI nt) (nI nr) mw ml mk dq))])) (va_Qi (S := Unit) (fun rv9 u => rv9 = 1 ∧ (True)) (fun u t => va_P (dC, dI) vcl [(mo, .inr (12, mdG r 0 tm (nI sn) (nI tx) (nI lz) (nI az) (nI na) (nI nt) (nI nr) mw ml mk dq))] t.heap ∧ va_K (dC, dI) vcl (tyL cT) t ∧ va_D (va_A [(mo, .inr (12, mdG r cd tm (nI sn) (nI tx) (nI lz) (nI az) (nI na) (nI nt) (nI nr) mw ml mk dq))] sz) [(mo, .inr (12, mdG r 0 tm (nI sn) (nI tx) (nI lz) (nI az) (nI na) (nI nt) (nI nr) mw ml mk dq))]) (va_A [(mo, .inr (12, mdG r cd tm (nI sn) (nI tx) (nI lz) (nI az) (nI na) (nI nt) (nI nr) mw ml mk dq))] sz)) 0 0 (va_A [(mo, .inr (12, mdG r cd tm (nI sn) (nI tx) (nI lz) (nI az) (nI na) (nI nt) (nI nr) mw ml mk dq))] sz) := by
  refine Met.ofW (cc := b_Md_goes) (maxL := 2) (ret := (Option.some Jvm.ClassFile.FieldType.boolean)) (by decide) rfl ?_
  intro p e s m args below meth c s₁ B hml hv
  obtain ⟨hargs, hsz, hP, hK, hD0⟩ := hv
  have hx := B.exec
  have hb := B.bytes
  have hr := B.returns
  have hts := atoms_spec (ws := (Cond.code y_Md_goes b_Md_goes 2 (Option.some Jvm.ClassFile.FieldType.boolean) :: BIG)) B.pre
  have hg : ∀ w ∈ BIG, w.before _ s = true := fun w h => hts w (List.mem_cons_of_mem _ h)
  have hown : s.vm.findClass "DoorServerModel" = some m.cls := findClass_of_methodNamed B.named
  have hlocks := B.notSynchronized
  subst hsz
  have hD := hD0.self (sz := s.heap.size)
  generalize hAe : va_A [(mo, .inr (12, mdG r cd tm (nI sn) (nI tx) (nI lz) (nI az) (nI na) (nI nt) (nI nr) mw ml mk dq))] s.heap.size = A at hD ⊢
  have hA : ∀ q : Nat, s.heap.size ≤ q → A q := fun q h => by rw [← hAe]; exact Or.inr h
  have hS : va_S A s.heap s.heap [] := va_S.rf
  have hl := lv_entry ([.ref mo, .int 1]) (n := 2) (Nat.le_of_ble_eq_true rfl)
  refine W.eq (g2 := entryFrame m (List.toArray [.ref mo, .int 1]) 2) (by rw [hargs]) ?_
  rw [lg_entry_eq]
  generalize (lg_sl ([.ref mo, .int 1]) ++ List.replicate (2 - (lg_sl ([.ref mo, .int 1])).length) Slot.unset).toArray = ls at hl ⊢
  have hl : lv_has ls 2 [(0, .ref mo), (1, .int 1)] := hl
  change W p l e ({ frames := 0, cells := 0, slots := 0, locals := 0 } : Room) s m args below meth c s.heap [] 0 0 _ _
  have hP : va_P (dC, dI) vcl [(mo, .inr (12, mdG r cd tm (nI sn) (nI tx) (nI lz) (nI az) (nI na) (nI nt) (nI nr) mw ml mk dq))] s.heap := hP
  refine lv_aload_n hx hb d_Md_goes_0 rfl (lv_at hl 0 rfl) ?_
  refine lv_iload_n hx hb d_Md_goes_1 rfl (lv_at hl 1 rfl) ?_
  refine lv_if_eq (tgt := 9) hx hb d_Md_goes_2 (by decide) (fun hn9 => absurd hn9 (by decide)) (fun hc2 => ?_)
  refine lv_iconst (v := 0) hx hb d_Md_goes_5 (by decide) ?_
  refine lv_goto (tgt := 10) hx hb d_Md_goes_6 (by decide) ?_
  refine va_put (D := (dC, dI)) (ci := 12) (v := (.int 0)) (ty := .int) (C := R_Md) (T := F_Md) (N := 45) hx hb hg in_Md t_Md tok_Md nm_Md hown hK hP hD hS 0 rfl rfl 1 (by decide) (hg _ k_1021) (fun _ h9 => h9) rfl (by decide +kernel) rfl rfl (Nat.le_of_ble_eq_true rfl) d_Md_goes_10 (fun H locs hP hD hS => ?_)
  have hP : va_P (dC, dI) vcl [(mo, .inr (12, mdG r 0 tm (nI sn) (nI tx) (nI lz) (nI az) (nI na) (nI nt) (nI nr) mw ml mk dq))] H := hP
  have hD : va_D A [(mo, .inr (12, mdG r 0 tm (nI sn) (nI tx) (nI lz) (nI az) (nI na) (nI nt) (nI nr) mw ml mk dq))] := hD
  refine lv_iload_n hx hb d_Md_goes_13 rfl (lv_at hl 1 rfl) ?_
  have hP9 := hP.sub (ws' := [(mo, .inr (12, mdG r 0 tm (nI sn) (nI tx) (nI lz) (nI az) (nI na) (nI nt) (nI nr) mw ml mk dq))]) [0] rfl
  have hD9 := hD.sub (ws' := [(mo, .inr (12, mdG r 0 tm (nI sn) (nI tx) (nI lz) (nI az) (nI na) (nI nt) (nI nr) mw ml mk dq))]) [0] (by decide) rfl
  exact W.zret (v := 1) hx hb hr (by first | rfl | decide) (fun t ht hW => ⟨⟨_, (), rfl, ⟨rfl, trivial⟩, by rw [ht]; exact hP9, va_K.moved hW.alike hK, hD9⟩, hS.F ht⟩) hS.2.2 d_Md_goes_14
set_option maxHeartbeats 4000000 in
set_option maxRecDepth 100000 in
/-- isByte -/
theorem m_byte1 (l : Launch) (dC : Nat → ClassId) (dI : Nat → Nat → Nat) (cT : Nat → ClassId) (sz : Nat) (v : Int32) (h1 : ¬ v < 0) (h2 : ¬ 255 < v) : Met l y_Md_isByte (Cond.code y_Md_isByte b_Md_isByte 1 (Option.some Jvm.ClassFile.FieldType.boolean) :: BIG) ({ frames := 0, cells := 0, slots := 0, locals := 0 }) (va_Pc [.int v] (fun U => U.heap.size = sz ∧ va_P (dC, dI) vcl [] U.heap ∧ va_K (dC, dI) vcl (tyL cT) U ∧ va_D (fun _ => True) [])) (va_Qi (S := Unit) (fun rv9 u => rv9 = 1 ∧ (True)) (fun u t => va_P (dC, dI) vcl [] t.heap ∧ va_K (dC, dI) vcl (tyL cT) t ∧ va_D (va_A [] sz) []) (va_A [] sz)) 0 0 (va_A [] sz) := by
  refine Met.ofW (cc := b_Md_isByte) (maxL := 1) (ret := (Option.some Jvm.ClassFile.FieldType.boolean)) (by decide) rfl ?_
  intro p e s m args below meth c s₁ B hml hv
  obtain ⟨hargs, hsz, hP, hK, hD0⟩ := hv
  have hx := B.exec
  have hb := B.bytes
  have hr := B.returns
  have hts := atoms_spec (ws := (Cond.code y_Md_isByte b_Md_isByte 1 (Option.some Jvm.ClassFile.FieldType.boolean) :: BIG)) B.pre
  have hg : ∀ w ∈ BIG, w.before _ s = true := fun w h => hts w (List.mem_cons_of_mem _ h)
  have hown : s.vm.findClass "DoorServerModel" = some m.cls := findClass_of_methodNamed B.named
  have hlocks := B.notSynchronized
  subst hsz
  have hD := hD0.self (sz := s.heap.size)
  generalize hAe : va_A [] s.heap.size = A at hD ⊢
  have hA : ∀ q : Nat, s.heap.size ≤ q → A q := fun q h => by rw [← hAe]; exact Or.inr h
  have hS : va_S A s.heap s.heap [] := va_S.rf
  have hl := lv_entry ([.int v]) (n := 1) (Nat.le_of_ble_eq_true rfl)
  refine W.eq (g2 := entryFrame m (List.toArray [.int v]) 1) (by rw [hargs]) ?_
  rw [lg_entry_eq]
  generalize (lg_sl ([.int v]) ++ List.replicate (1 - (lg_sl ([.int v])).length) Slot.unset).toArray = ls at hl ⊢
  have hl : lv_has ls 1 [(0, .int v)] := hl
  change W p l e ({ frames := 0, cells := 0, slots := 0, locals := 0 } : Room) s m args below meth c s.heap [] 0 0 _ _
  have hP : va_P (dC, dI) vcl [] s.heap := hP
  refine lv_iload_n hx hb d_Md_isByte_0 rfl (lv_at hl 0 rfl) ?_
  refine lv_if_lt (tgt := 15) hx hb d_Md_isByte_1 (by decide) (fun hn9 => absurd hn9 (h1)) (fun hc3 => ?_)
  refine lv_iload_n hx hb d_Md_isByte_4 rfl (lv_at hl 0 rfl) ?_
  refine lv_sipush (v := 256) hx hb d_Md_isByte_5 (by decide) ?_
  refine lv_icmp_ge (tgt := 15) hx hb d_Md_isByte_8 (by decide) (fun hn9 => absurd hn9 (fun h9 => h2 ((lt_le1 (by decide)).mpr h9))) (fun hc4 => ?_)
  refine lv_iconst (v := 1) hx hb d_Md_isByte_11 (by decide) ?_
  refine lv_goto (tgt := 16) hx hb d_Md_isByte_12 (by decide) ?_
  have hP9 := hP.sub (ws' := []) [] rfl
  have hD9 := hD.sub (ws' := []) [] (by decide) rfl
  exact W.zret (v := 1) hx hb hr (by first | rfl | decide) (fun t ht hW => ⟨⟨_, (), rfl, ⟨rfl, trivial⟩, by rw [ht]; exact hP9, va_K.moved hW.alike hK, hD9⟩, hS.F ht⟩) hS.2.2 d_Md_isByte_16
set_option maxHeartbeats 4000000 in
set_option maxRecDepth 100000 in
/-- isByte: no -/
theorem m_byte0 (l : Launch) (dC : Nat → ClassId) (dI : Nat → Nat → Nat) (cT : Nat → ClassId) (sz : Nat) (v : Int32) (hbad : v < 0 ∨ 255 < v) : Met l y_Md_isByte (Cond.code y_Md_isByte b_Md_isByte 1 (Option.some Jvm.ClassFile.FieldType.boolean) :: BIG) ({ frames := 0, cells := 0, slots := 0, locals := 0 }) (va_Pc [.int v] (fun U => U.heap.size = sz ∧ va_P (dC, dI) vcl [] U.heap ∧ va_K (dC, dI) vcl (tyL cT) U ∧ va_D (fun _ => True) [])) (va_Qi (S := Unit) (fun rv9 u => rv9 = 0 ∧ (True)) (fun u t => va_P (dC, dI) vcl [] t.heap ∧ va_K (dC, dI) vcl (tyL cT) t ∧ va_D (va_A [] sz) []) (va_A [] sz)) 0 0 (va_A [] sz) := by
  refine Met.ofW (cc := b_Md_isByte) (maxL := 1) (ret := (Option.some Jvm.ClassFile.FieldType.boolean)) (by decide) rfl ?_
  intro p e s m args below meth c s₁ B hml hv
  obtain ⟨hargs, hsz, hP, hK, hD0⟩ := hv
  have hx := B.exec
  have hb := B.bytes
  have hr := B.returns
  have hts := atoms_spec (ws := (Cond.code y_Md_isByte b_Md_isByte 1 (Option.some Jvm.ClassFile.FieldType.boolean) :: BIG)) B.pre
  have hg : ∀ w ∈ BIG, w.before _ s = true := fun w h => hts w (List.mem_cons_of_mem _ h)
  have hown : s.vm.findClass "DoorServerModel" = some m.cls := findClass_of_methodNamed B.named
  have hlocks := B.notSynchronized
  subst hsz
  have hD := hD0.self (sz := s.heap.size)
  generalize hAe : va_A [] s.heap.size = A at hD ⊢
  have hA : ∀ q : Nat, s.heap.size ≤ q → A q := fun q h => by rw [← hAe]; exact Or.inr h
  have hS : va_S A s.heap s.heap [] := va_S.rf
  have hl := lv_entry ([.int v]) (n := 1) (Nat.le_of_ble_eq_true rfl)
  refine W.eq (g2 := entryFrame m (List.toArray [.int v]) 1) (by rw [hargs]) ?_
  rw [lg_entry_eq]
  generalize (lg_sl ([.int v]) ++ List.replicate (1 - (lg_sl ([.int v])).length) Slot.unset).toArray = ls at hl ⊢
  have hl : lv_has ls 1 [(0, .int v)] := hl
  change W p l e ({ frames := 0, cells := 0, slots := 0, locals := 0 } : Room) s m args below meth c s.heap [] 0 0 _ _
  have hP : va_P (dC, dI) vcl [] s.heap := hP
  refine lv_iload_n hx hb d_Md_isByte_0 rfl (lv_at hl 0 rfl) ?_
  refine lv_if_lt (tgt := 15) hx hb d_Md_isByte_1 (by decide) (fun hc5 => ?_) (fun hc5 => ?_)
  · refine lv_iconst (v := 0) hx hb d_Md_isByte_15 (by decide) ?_
    have hP9 := hP.sub (ws' := []) [] rfl
    have hD9 := hD.sub (ws' := []) [] (by decide) rfl
    exact W.zret (v := 0) hx hb hr (by first | rfl | decide) (fun t ht hW => ⟨⟨_, (), rfl, ⟨rfl, trivial⟩, by rw [ht]; exact hP9, va_K.moved hW.alike hK, hD9⟩, hS.F ht⟩) hS.2.2 d_Md_isByte_16
  · refine lv_iload_n hx hb d_Md_isByte_4 rfl (lv_at hl 0 rfl) ?_
    refine lv_sipush (v := 256) hx hb d_Md_isByte_5 (by decide) ?_
    refine lv_icmp_ge (tgt := 15) hx hb d_Md_isByte_8 (by decide) (fun hc6 => ?_) (fun hn9 => absurd ((lt_le1 (by decide)).mp (hbad.resolve_left hc5)) hn9)
    refine lv_iconst (v := 0) hx hb d_Md_isByte_15 (by decide) ?_
    have hP9 := hP.sub (ws' := []) [] rfl
    have hD9 := hD.sub (ws' := []) [] (by decide) rfl
    exact W.zret (v := 0) hx hb hr (by first | rfl | decide) (fun t ht hW => ⟨⟨_, (), rfl, ⟨rfl, trivial⟩, by rw [ht]; exact hP9, va_K.moved hW.alike hK, hD9⟩, hS.F ht⟩) hS.2.2 d_Md_isByte_16
set_option maxHeartbeats 4000000 in
set_option maxRecDepth 100000 in
/-- say -/
theorem m_say (l : Launch) (dC : Nat → ClassId) (dI : Nat → Nat → Nat) (cT : Nat → ClassId) (sz : Nat) (mo : Nat) (r : Nat → Nat) (cd : Int32) (tm : Int32) (sn : Nat) (tx : Nat) (lz : Nat) (az : Nat) (na : Nat) (nt : Nat) (nr : Nat) (mw : Int32) (ml : Int32) (mk : Int64) (dq : Int64) (f9 : Nat → Int32) (b : Int32) (htx : tx < 1400) : Met l y_Md_say (Cond.code y_Md_say b_Md_say 2 (Option.none : Option Jvm.ClassFile.FieldType) :: BIG) ({ frames := 0, cells := 0, slots := 0, locals := 0 }) (va_Pc [.ref mo, .int b] (fun U => U.heap.size = sz ∧ va_P (dC, dI) vcl [(mo, .inr (12, mdG r cd tm (nI sn) (nI tx) (nI lz) (nI az) (nI na) (nI nt) (nI nr) mw ml mk dq)), (r 9, .inl ((cT 0), 1400, .inl f9))] U.heap ∧ va_K (dC, dI) vcl (tyL cT) U ∧ va_D (fun _ => True) [(mo, .inr (12, mdG r cd tm (nI sn) (nI tx) (nI lz) (nI az) (nI na) (nI nt) (nI nr) mw ml mk dq)), (r 9, .inl ((cT 0), 1400, .inl f9))])) (va_Qv (S := (Nat → Int32)) (fun u => match u with | g9 => True) (fun u t => match u with | g9 => va_P (dC, dI) vcl [(mo, .inr (12, mdG r cd tm (nI sn) (nI (tx + 1)) (nI lz) (nI az) (nI na) (nI nt) (nI nr) mw ml mk dq)), (r 9, .inl ((cT 0), 1400, .inl g9))] t.heap ∧ va_K (dC, dI) vcl (tyL cT) t ∧ va_D (va_A [(mo, .inr (12, mdG r cd tm (nI sn) (nI tx) (nI lz) (nI az) (nI na) (nI nt) (nI nr) mw ml mk dq)), (r 9, .inl ((cT 0), 1400, .inl f9))] sz) [(mo, .inr (12, mdG r cd tm (nI sn) (nI (tx + 1)) (nI lz) (nI az) (nI na) (nI nt) (nI nr) mw ml mk dq)), (r 9, .inl ((cT 0), 1400, .inl g9))]) (va_A [(mo, .inr (12, mdG r cd tm (nI sn) (nI tx) (nI lz) (nI az) (nI na) (nI nt) (nI nr) mw ml mk dq)), (r 9, .inl ((cT 0), 1400, .inl f9))] sz)) 0 0 (va_A [(mo, .inr (12, mdG r cd tm (nI sn) (nI tx) (nI lz) (nI az) (nI na) (nI nt) (nI nr) mw ml mk dq)), (r 9, .inl ((cT 0), 1400, .inl f9))] sz) := by
  refine Met.ofW (cc := b_Md_say) (maxL := 2) (ret := (Option.none : Option Jvm.ClassFile.FieldType)) (by decide) rfl ?_
  intro p e s m args below meth c s₁ B hml hv
  obtain ⟨hargs, hsz, hP, hK, hD0⟩ := hv
  have hx := B.exec
  have hb := B.bytes
  have hr := B.returns
  have hts := atoms_spec (ws := (Cond.code y_Md_say b_Md_say 2 (Option.none : Option Jvm.ClassFile.FieldType) :: BIG)) B.pre
  have hg : ∀ w ∈ BIG, w.before _ s = true := fun w h => hts w (List.mem_cons_of_mem _ h)
  have hown : s.vm.findClass "DoorServerModel" = some m.cls := findClass_of_methodNamed B.named
  have hlocks := B.notSynchronized
  subst hsz
  have hD := hD0.self (sz := s.heap.size)
  generalize hAe : va_A [(mo, .inr (12, mdG r cd tm (nI sn) (nI tx) (nI lz) (nI az) (nI na) (nI nt) (nI nr) mw ml mk dq)), (r 9, .inl ((cT 0), 1400, .inl f9))] s.heap.size = A at hD ⊢
  have hA : ∀ q : Nat, s.heap.size ≤ q → A q := fun q h => by rw [← hAe]; exact Or.inr h
  have hS : va_S A s.heap s.heap [] := va_S.rf
  have hl := lv_entry ([.ref mo, .int b]) (n := 2) (Nat.le_of_ble_eq_true rfl)
  refine W.eq (g2 := entryFrame m (List.toArray [.ref mo, .int b]) 2) (by rw [hargs]) ?_
  rw [lg_entry_eq]
  generalize (lg_sl ([.ref mo, .int b]) ++ List.replicate (2 - (lg_sl ([.ref mo, .int b])).length) Slot.unset).toArray = ls at hl ⊢
  have hl : lv_has ls 2 [(0, .ref mo), (1, .int b)] := hl
  change W p l e ({ frames := 0, cells := 0, slots := 0, locals := 0 } : Room) s m args below meth c s.heap [] 0 0 _ _
  have hP : va_P (dC, dI) vcl [(mo, .inr (12, mdG r cd tm (nI sn) (nI tx) (nI lz) (nI az) (nI na) (nI nt) (nI nr) mw ml mk dq)), (r 9, .inl ((cT 0), 1400, .inl f9))] s.heap := hP
  refine lv_aload_n hx hb d_Md_say_0 rfl (lv_at hl 0 rfl) ?_
  refine va_get (D := (dC, dI)) (ci := 12) (v := (.ref (r 9))) (C := R_Md) (T := F_Md) (N := 45) hx hb hg in_Md hown hK hP 0 rfl rfl 9 (by decide) (hg _ k_1029) (fun _ h9 => h9) rfl d_Md_say_1 ?_
  refine lv_aload_n hx hb d_Md_say_4 rfl (lv_at hl 0 rfl) ?_
  refine va_get (D := (dC, dI)) (ci := 12) (v := (.int (nI tx))) (C := R_Md) (T := F_Md) (N := 45) hx hb hg in_Md hown hK hP 0 rfl rfl 10 (by decide) (hg _ k_1030) (fun _ h9 => h9) rfl d_Md_say_5 ?_
  refine lv_iload_n hx hb d_Md_say_8 rfl (lv_at hl 1 rfl) ?_
  refine va_iast hx hb hK hP hD hS 1 0 rfl rfl (i := (nI tx)) (vp_in_nI (n := tx) (N := 1400) (by omega) (by decide)) d_Md_say_9 (fun H locs hP hD hS => ?_)
  have ef7 : upd f9 (nI tx).toNatClampNeg b = upd f9 tx b := by rw [show (nI tx).toNatClampNeg = tx from nI_clamp (by omega)]
  rw [ef7] at hP hD
  have hP : va_P (dC, dI) vcl [(mo, .inr (12, mdG r cd tm (nI sn) (nI tx) (nI lz) (nI az) (nI na) (nI nt) (nI nr) mw ml mk dq)), (r 9, .inl ((cT 0), 1400, .inl (upd f9 tx b)))] H := hP
  have hD : va_D A [(mo, .inr (12, mdG r cd tm (nI sn) (nI tx) (nI lz) (nI az) (nI na) (nI nt) (nI nr) mw ml mk dq)), (r 9, .inl ((cT 0), 1400, .inl (upd f9 tx b)))] := hD
  refine lv_aload_n hx hb d_Md_say_10 rfl (lv_at hl 0 rfl) ?_
  refine lv_dup hx hb d_Md_say_11 rfl ?_
  refine va_get (D := (dC, dI)) (ci := 12) (v := (.int (nI tx))) (C := R_Md) (T := F_Md) (N := 45) hx hb hg in_Md hown hK hP 0 rfl rfl 10 (by decide) (hg _ k_1030) (fun _ h9 => h9) rfl d_Md_say_12 ?_
  refine lv_iconst (v := 1) hx hb d_Md_say_15 (by decide) ?_
  refine lv_iadd hx hb d_Md_say_16 ?_
  refine lv_topi (fun x9 e8 => ?_)
  obtain rfl : x9 = nI (tx + 1) := by rw [e8]; exact nI_add tx 1
  refine va_put (D := (dC, dI)) (ci := 12) (v := (.int (nI (tx + 1)))) (ty := .int) (C := R_Md) (T := F_Md) (N := 45) hx hb hg in_Md t_Md tok_Md nm_Md hown hK hP hD hS 0 rfl rfl 10 (by decide) (hg _ k_1030) (fun _ h9 => h9) rfl (by decide +kernel) rfl rfl (Nat.le_of_ble_eq_true rfl) d_Md_say_17 (fun H locs hP hD hS => ?_)
  have hP : va_P (dC, dI) vcl [(mo, .inr (12, mdG r cd tm (nI sn) (nI (tx + 1)) (nI lz) (nI az) (nI na) (nI nt) (nI nr) mw ml mk dq)), (r 9, .inl ((cT 0), 1400, .inl (upd f9 tx b)))] H := hP
  have hD : va_D A [(mo, .inr (12, mdG r cd tm (nI sn) (nI (tx + 1)) (nI lz) (nI az) (nI na) (nI nt) (nI nr) mw ml mk dq)), (r 9, .inl ((cT 0), 1400, .inl (upd f9 tx b)))] := hD
  have hP9 := hP.sub (ws' := [(mo, .inr (12, mdG r cd tm (nI sn) (nI (tx + 1)) (nI lz) (nI az) (nI na) (nI nt) (nI nr) mw ml mk dq)), (r 9, .inl ((cT 0), 1400, .inl (upd f9 tx b)))]) [0, 1] rfl
  have hD9 := hD.sub (ws' := [(mo, .inr (12, mdG r cd tm (nI sn) (nI (tx + 1)) (nI lz) (nI az) (nI na) (nI nt) (nI nr) mw ml mk dq)), (r 9, .inl ((cT 0), 1400, .inl (upd f9 tx b)))]) [0, 1] (by decide) rfl
  exact W.vret hx hb hr (fun t ht hW => ⟨⟨upd f9 tx b, rfl, trivial, by rw [ht]; exact hP9, va_K.moved hW.alike hK, hD9⟩, hS.F ht⟩) hS.2.2 d_Md_say_20
set_option maxHeartbeats 4000000 in
set_option maxRecDepth 100000 in
/-- add -/
theorem m_add (l : Launch) (dC : Nat → ClassId) (dI : Nat → Nat → Nat) (cT : Nat → ClassId) (sz : Nat) (mo : Nat) (r : Nat → Nat) (cd : Int32) (tm : Int32) (sn : Nat) (tx : Nat) (lz : Nat) (az : Nat) (na : Nat) (nt : Nat) (nr : Nat) (mw : Int32) (ml : Int32) (mk : Int64) (dq : Int64) (f7 : Nat → Int32) (b : Int32) (hsn : sn < 1000) (h7 : AB f7) : Met l y_Md_add (Cond.code y_Md_add b_Md_add 2 (Option.none : Option Jvm.ClassFile.FieldType) :: BIG) ({ frames := 0, cells := 0, slots := 0, locals := 0 }) (va_Pc [.ref mo, .int b] (fun U => U.heap.size = sz ∧ va_P (dC, dI) vcl [(mo, .inr (12, mdG r cd tm (nI sn) (nI tx) (nI lz) (nI az) (nI na) (nI nt) (nI nr) mw ml mk dq)), (r 7, .inl ((cT 0), 1000, .inl f7))] U.heap ∧ va_K (dC, dI) vcl (tyL cT) U ∧ va_D (fun _ => True) [(mo, .inr (12, mdG r cd tm (nI sn) (nI tx) (nI lz) (nI az) (nI na) (nI nt) (nI nr) mw ml mk dq)), (r 7, .inl ((cT 0), 1000, .inl f7))])) (va_Qv (S := (Nat → Int32)) (fun u => match u with | g7 => AB g7) (fun u t => match u with | g7 => va_P (dC, dI) vcl [(mo, .inr (12, mdG r cd tm (nI (sn + 1)) (nI tx) (nI lz) (nI az) (nI na) (nI nt) (nI nr) mw ml mk dq)), (r 7, .inl ((cT 0), 1000, .inl g7))] t.heap ∧ va_K (dC, dI) vcl (tyL cT) t ∧ va_D (va_A [(mo, .inr (12, mdG r cd tm (nI sn) (nI tx) (nI lz) (nI az) (nI na) (nI nt) (nI nr) mw ml mk dq)), (r 7, .inl ((cT 0), 1000, .inl f7))] sz) [(mo, .inr (12, mdG r cd tm (nI (sn + 1)) (nI tx) (nI lz) (nI az) (nI na) (nI nt) (nI nr) mw ml mk dq)), (r 7, .inl ((cT 0), 1000, .inl g7))]) (va_A [(mo, .inr (12, mdG r cd tm (nI sn) (nI tx) (nI lz) (nI az) (nI na) (nI nt) (nI nr) mw ml mk dq)), (r 7, .inl ((cT 0), 1000, .inl f7))] sz)) 0 0 (va_A [(mo, .inr (12, mdG r cd tm (nI sn) (nI tx) (nI lz) (nI az) (nI na) (nI nt) (nI nr) mw ml mk dq)), (r 7, .inl ((cT 0), 1000, .inl f7))] sz) := by
  refine Met.ofW (cc := b_Md_add) (maxL := 2) (ret := (Option.none : Option Jvm.ClassFile.FieldType)) (by decide) rfl ?_
  intro p e s m args below meth c s₁ B hml hv
  obtain ⟨hargs, hsz, hP, hK, hD0⟩ := hv
  have hx := B.exec
  have hb := B.bytes
  have hr := B.returns
  have hts := atoms_spec (ws := (Cond.code y_Md_add b_Md_add 2 (Option.none : Option Jvm.ClassFile.FieldType) :: BIG)) B.pre
  have hg : ∀ w ∈ BIG, w.before _ s = true := fun w h => hts w (List.mem_cons_of_mem _ h)
  have hown : s.vm.findClass "DoorServerModel" = some m.cls := findClass_of_methodNamed B.named
  have hlocks := B.notSynchronized
  subst hsz
  have hD := hD0.self (sz := s.heap.size)
  generalize hAe : va_A [(mo, .inr (12, mdG r cd tm (nI sn) (nI tx) (nI lz) (nI az) (nI na) (nI nt) (nI nr) mw ml mk dq)), (r 7, .inl ((cT 0), 1000, .inl f7))] s.heap.size = A at hD ⊢
  have hA : ∀ q : Nat, s.heap.size ≤ q → A q := fun q h => by rw [← hAe]; exact Or.inr h
  have hS : va_S A s.heap s.heap [] := va_S.rf
  have hl := lv_entry ([.ref mo, .int b]) (n := 2) (Nat.le_of_ble_eq_true rfl)
  refine W.eq (g2 := entryFrame m (List.toArray [.ref mo, .int b]) 2) (by rw [hargs]) ?_
  rw [lg_entry_eq]
  generalize (lg_sl ([.ref mo, .int b]) ++ List.replicate (2 - (lg_sl ([.ref mo, .int b])).length) Slot.unset).toArray = ls at hl ⊢
  have hl : lv_has ls 2 [(0, .ref mo), (1, .int b)] := hl
  change W p l e ({ frames := 0, cells := 0, slots := 0, locals := 0 } : Room) s m args below meth c s.heap [] 0 0 _ _
  have hP : va_P (dC, dI) vcl [(mo, .inr (12, mdG r cd tm (nI sn) (nI tx) (nI lz) (nI az) (nI na) (nI nt) (nI nr) mw ml mk dq)), (r 7, .inl ((cT 0), 1000, .inl f7))] s.heap := hP
  refine lv_aload_n hx hb d_Md_add_0 rfl (lv_at hl 0 rfl) ?_
  refine va_get (D := (dC, dI)) (ci := 12) (v := (.ref (r 7))) (C := R_Md) (T := F_Md) (N := 45) hx hb hg in_Md hown hK hP 0 rfl rfl 7 (by decide) (hg _ k_1027) (fun _ h9 => h9) rfl d_Md_add_1 ?_
  refine lv_aload_n hx hb d_Md_add_4 rfl (lv_at hl 0 rfl) ?_
  refine va_get (D := (dC, dI)) (ci := 12) (v := (.int (nI sn))) (C := R_Md) (T := F_Md) (N := 45) hx hb hg in_Md hown hK hP 0 rfl rfl 8 (by decide) (hg _ k_1028) (fun _ h9 => h9) rfl d_Md_add_5 ?_
  refine lv_iload_n hx hb d_Md_add_8 rfl (lv_at hl 1 rfl) ?_
  refine lv_sipush (v := 255) hx hb d_Md_add_9 (by decide) ?_
  refine lv_iand hx hb d_Md_add_12 ?_
  refine va_iast hx hb hK hP hD hS 1 0 rfl rfl (i := (nI sn)) (vp_in_nI (n := sn) (N := 1000) (by omega) (by decide)) d_Md_add_13 (fun H locs hP hD hS => ?_)
  have ef10 : upd f7 (nI sn).toNatClampNeg (b &&& 255) = upd f7 sn (b &&& 255) := by rw [show (nI sn).toNatClampNeg = sn from nI_clamp (by omega)]
  rw [ef10] at hP hD
  have hP : va_P (dC, dI) vcl [(mo, .inr (12, mdG r cd tm (nI sn) (nI tx) (nI lz) (nI az) (nI na) (nI nt) (nI nr) mw ml mk dq)), (r 7, .inl ((cT 0), 1000, .inl (upd f7 sn (b &&& 255))))] H := hP
  have hD : va_D A [(mo, .inr (12, mdG r cd tm (nI sn) (nI tx) (nI lz) (nI az) (nI na) (nI nt) (nI nr) mw ml mk dq)), (r 7, .inl ((cT 0), 1000, .inl (upd f7 sn (b &&& 255))))] := hD
  refine lv_aload_n hx hb d_Md_add_14 rfl (lv_at hl 0 rfl) ?_
  refine lv_dup hx hb d_Md_add_15 rfl ?_
  refine va_get (D := (dC, dI)) (ci := 12) (v := (.int (nI sn))) (C := R_Md) (T := F_Md) (N := 45) hx hb hg in_Md hown hK hP 0 rfl rfl 8 (by decide) (hg _ k_1028) (fun _ h9 => h9) rfl d_Md_add_16 ?_
  refine lv_iconst (v := 1) hx hb d_Md_add_19 (by decide) ?_
  refine lv_iadd hx hb d_Md_add_20 ?_
  refine lv_topi (fun x12 e11 => ?_)
  obtain rfl : x12 = nI (sn + 1) := by rw [e11]; exact nI_add sn 1
  refine va_put (D := (dC, dI)) (ci := 12) (v := (.int (nI (sn + 1)))) (ty := .int) (C := R_Md) (T := F_Md) (N := 45) hx hb hg in_Md t_Md tok_Md nm_Md hown hK hP hD hS 0 rfl rfl 8 (by decide) (hg _ k_1028) (fun _ h9 => h9) rfl (by decide +kernel) rfl rfl (Nat.le_of_ble_eq_true rfl) d_Md_add_21 (fun H locs hP hD hS => ?_)
  have hP : va_P (dC, dI) vcl [(mo, .inr (12, mdG r cd tm (nI (sn + 1)) (nI tx) (nI lz) (nI az) (nI na) (nI nt) (nI nr) mw ml mk dq)), (r 7, .inl ((cT 0), 1000, .inl (upd f7 sn (b &&& 255))))] H := hP
  have hD : va_D A [(mo, .inr (12, mdG r cd tm (nI (sn + 1)) (nI tx) (nI lz) (nI az) (nI na) (nI nt) (nI nr) mw ml mk dq)), (r 7, .inl ((cT 0), 1000, .inl (upd f7 sn (b &&& 255))))] := hD
  have hP9 := hP.sub (ws' := [(mo, .inr (12, mdG r cd tm (nI (sn + 1)) (nI tx) (nI lz) (nI az) (nI na) (nI nt) (nI nr) mw ml mk dq)), (r 7, .inl ((cT 0), 1000, .inl (upd f7 sn (b &&& 255))))]) [0, 1] rfl
  have hD9 := hD.sub (ws' := [(mo, .inr (12, mdG r cd tm (nI (sn + 1)) (nI tx) (nI lz) (nI az) (nI na) (nI nt) (nI nr) mw ml mk dq)), (r 7, .inl ((cT 0), 1000, .inl (upd f7 sn (b &&& 255))))]) [0, 1] (by decide) rfl
  exact W.vret hx hb hr (fun t ht hW => ⟨⟨upd f7 sn (b &&& 255), rfl, AB_upd h7 (BY_and _), by rw [ht]; exact hP9, va_K.moved hW.alike hK, hD9⟩, hS.F ht⟩) hS.2.2 d_Md_add_24
set_option maxHeartbeats 4000000 in
set_option maxRecDepth 100000 in
/-- tell -/
theorem m_tell (l : Launch) (dC : Nat → ClassId) (dI : Nat → Nat → Nat) (cT : Nat → ClassId) (sz : Nat) (mo : Nat) (r : Nat → Nat) (cd : Int32) (tm : Int32) (sn : Nat) (tx : Nat) (lz : Nat) (az : Nat) (na : Nat) (nt : Nat) (nr : Nat) (mw : Int32) (ml : Int32) (mk : Int64) (dq : Int64) (f15 : Nat → Int32) (b : Int32) (haz : az < 200) : Met l y_Md_tell (Cond.code y_Md_tell b_Md_tell 2 (Option.none : Option Jvm.ClassFile.FieldType) :: BIG) ({ frames := 0, cells := 0, slots := 0, locals := 0 }) (va_Pc [.ref mo, .int b] (fun U => U.heap.size = sz ∧ va_P (dC, dI) vcl [(mo, .inr (12, mdG r cd tm (nI sn) (nI tx) (nI lz) (nI az) (nI na) (nI nt) (nI nr) mw ml mk dq)), (r 15, .inl ((cT 0), 200, .inl f15))] U.heap ∧ va_K (dC, dI) vcl (tyL cT) U ∧ va_D (fun _ => True) [(mo, .inr (12, mdG r cd tm (nI sn) (nI tx) (nI lz) (nI az) (nI na) (nI nt) (nI nr) mw ml mk dq)), (r 15, .inl ((cT 0), 200, .inl f15))])) (va_Qv (S := (Nat → Int32)) (fun u => match u with | g15 => True) (fun u t => match u with | g15 => va_P (dC, dI) vcl [(mo, .inr (12, mdG r cd tm (nI sn) (nI tx) (nI lz) (nI (az + 1)) (nI na) (nI nt) (nI nr) mw ml mk dq)), (r 15, .inl ((cT 0), 200, .inl g15))] t.heap ∧ va_K (dC, dI) vcl (tyL cT) t ∧ va_D (va_A [(mo, .inr (12, mdG r cd tm (nI sn) (nI tx) (nI lz) (nI az) (nI na) (nI nt) (nI nr) mw ml mk dq)), (r 15, .inl ((cT 0), 200, .inl f15))] sz) [(mo, .inr (12, mdG r cd tm (nI sn) (nI tx) (nI lz) (nI (az + 1)) (nI na) (nI nt) (nI nr) mw ml mk dq)), (r 15, .inl ((cT 0), 200, .inl g15))]) (va_A [(mo, .inr (12, mdG r cd tm (nI sn) (nI tx) (nI lz) (nI az) (nI na) (nI nt) (nI nr) mw ml mk dq)), (r 15, .inl ((cT 0), 200, .inl f15))] sz)) 0 0 (va_A [(mo, .inr (12, mdG r cd tm (nI sn) (nI tx) (nI lz) (nI az) (nI na) (nI nt) (nI nr) mw ml mk dq)), (r 15, .inl ((cT 0), 200, .inl f15))] sz) := by
  refine Met.ofW (cc := b_Md_tell) (maxL := 2) (ret := (Option.none : Option Jvm.ClassFile.FieldType)) (by decide) rfl ?_
  intro p e s m args below meth c s₁ B hml hv
  obtain ⟨hargs, hsz, hP, hK, hD0⟩ := hv
  have hx := B.exec
  have hb := B.bytes
  have hr := B.returns
  have hts := atoms_spec (ws := (Cond.code y_Md_tell b_Md_tell 2 (Option.none : Option Jvm.ClassFile.FieldType) :: BIG)) B.pre
  have hg : ∀ w ∈ BIG, w.before _ s = true := fun w h => hts w (List.mem_cons_of_mem _ h)
  have hown : s.vm.findClass "DoorServerModel" = some m.cls := findClass_of_methodNamed B.named
  have hlocks := B.notSynchronized
  subst hsz
  have hD := hD0.self (sz := s.heap.size)
  generalize hAe : va_A [(mo, .inr (12, mdG r cd tm (nI sn) (nI tx) (nI lz) (nI az) (nI na) (nI nt) (nI nr) mw ml mk dq)), (r 15, .inl ((cT 0), 200, .inl f15))] s.heap.size = A at hD ⊢
  have hA : ∀ q : Nat, s.heap.size ≤ q → A q := fun q h => by rw [← hAe]; exact Or.inr h
  have hS : va_S A s.heap s.heap [] := va_S.rf
  have hl := lv_entry ([.ref mo, .int b]) (n := 2) (Nat.le_of_ble_eq_true rfl)
  refine W.eq (g2 := entryFrame m (List.toArray [.ref mo, .int b]) 2) (by rw [hargs]) ?_
  rw [lg_entry_eq]
  generalize (lg_sl ([.ref mo, .int b]) ++ List.replicate (2 - (lg_sl ([.ref mo, .int b])).length) Slot.unset).toArray = ls at hl ⊢
  have hl : lv_has ls 2 [(0, .ref mo), (1, .int b)] := hl
  change W p l e ({ frames := 0, cells := 0, slots := 0, locals := 0 } : Room) s m args below meth c s.heap [] 0 0 _ _
  have hP : va_P (dC, dI) vcl [(mo, .inr (12, mdG r cd tm (nI sn) (nI tx) (nI lz) (nI az) (nI na) (nI nt) (nI nr) mw ml mk dq)), (r 15, .inl ((cT 0), 200, .inl f15))] s.heap := hP
  refine lv_aload_n hx hb d_Md_tell_0 rfl (lv_at hl 0 rfl) ?_
  refine va_get (D := (dC, dI)) (ci := 12) (v := (.ref (r 15))) (C := R_Md) (T := F_Md) (N := 45) hx hb hg in_Md hown hK hP 0 rfl rfl 15 (by decide) (hg _ k_1035) (fun _ h9 => h9) rfl d_Md_tell_1 ?_
  refine lv_aload_n hx hb d_Md_tell_4 rfl (lv_at hl 0 rfl) ?_
  refine va_get (D := (dC, dI)) (ci := 12) (v := (.int (nI az))) (C := R_Md) (T := F_Md) (N := 45) hx hb hg in_Md hown hK hP 0 rfl rfl 16 (by decide) (hg _ k_1036) (fun _ h9 => h9) rfl d_Md_tell_5 ?_
  refine lv_iload_n hx hb d_Md_tell_8 rfl (lv_at hl 1 rfl) ?_
  refine lv_sipush (v := 255) hx hb d_Md_tell_9 (by decide) ?_
  refine lv_iand hx hb d_Md_tell_12 ?_
  refine va_iast hx hb hK hP hD hS 1 0 rfl rfl (i := (nI az)) (vp_in_nI (n := az) (N := 200) (by omega) (by decide)) d_Md_tell_13 (fun H locs hP hD hS => ?_)
  have ef13 : upd f15 (nI az).toNatClampNeg (b &&& 255) = upd f15 az (b &&& 255) := by rw [show (nI az).toNatClampNeg = az from nI_clamp (by omega)]
  rw [ef13] at hP hD
  have hP : va_P (dC, dI) vcl [(mo, .inr (12, mdG r cd tm (nI sn) (nI tx) (nI lz) (nI az) (nI na) (nI nt) (nI nr) mw ml mk dq)), (r 15, .inl ((cT 0), 200, .inl (upd f15 az (b &&& 255))))] H := hP
  have hD : va_D A [(mo, .inr (12, mdG r cd tm (nI sn) (nI tx) (nI lz) (nI az) (nI na) (nI nt) (nI nr) mw ml mk dq)), (r 15, .inl ((cT 0), 200, .inl (upd f15 az (b &&& 255))))] := hD
  refine lv_aload_n hx hb d_Md_tell_14 rfl (lv_at hl 0 rfl) ?_
  refine lv_dup hx hb d_Md_tell_15 rfl ?_
  refine va_get (D := (dC, dI)) (ci := 12) (v := (.int (nI az))) (C := R_Md) (T := F_Md) (N := 45) hx hb hg in_Md hown hK hP 0 rfl rfl 16 (by decide) (hg _ k_1036) (fun _ h9 => h9) rfl d_Md_tell_16 ?_
  refine lv_iconst (v := 1) hx hb d_Md_tell_19 (by decide) ?_
  refine lv_iadd hx hb d_Md_tell_20 ?_
  refine lv_topi (fun x15 e14 => ?_)
  obtain rfl : x15 = nI (az + 1) := by rw [e14]; exact nI_add az 1
  refine va_put (D := (dC, dI)) (ci := 12) (v := (.int (nI (az + 1)))) (ty := .int) (C := R_Md) (T := F_Md) (N := 45) hx hb hg in_Md t_Md tok_Md nm_Md hown hK hP hD hS 0 rfl rfl 16 (by decide) (hg _ k_1036) (fun _ h9 => h9) rfl (by decide +kernel) rfl rfl (Nat.le_of_ble_eq_true rfl) d_Md_tell_21 (fun H locs hP hD hS => ?_)
  have hP : va_P (dC, dI) vcl [(mo, .inr (12, mdG r cd tm (nI sn) (nI tx) (nI lz) (nI (az + 1)) (nI na) (nI nt) (nI nr) mw ml mk dq)), (r 15, .inl ((cT 0), 200, .inl (upd f15 az (b &&& 255))))] H := hP
  have hD : va_D A [(mo, .inr (12, mdG r cd tm (nI sn) (nI tx) (nI lz) (nI (az + 1)) (nI na) (nI nt) (nI nr) mw ml mk dq)), (r 15, .inl ((cT 0), 200, .inl (upd f15 az (b &&& 255))))] := hD
  have hP9 := hP.sub (ws' := [(mo, .inr (12, mdG r cd tm (nI sn) (nI tx) (nI lz) (nI (az + 1)) (nI na) (nI nt) (nI nr) mw ml mk dq)), (r 15, .inl ((cT 0), 200, .inl (upd f15 az (b &&& 255))))]) [0, 1] rfl
  have hD9 := hD.sub (ws' := [(mo, .inr (12, mdG r cd tm (nI sn) (nI tx) (nI lz) (nI (az + 1)) (nI na) (nI nt) (nI nr) mw ml mk dq)), (r 15, .inl ((cT 0), 200, .inl (upd f15 az (b &&& 255))))]) [0, 1] (by decide) rfl
  exact W.vret hx hb hr (fun t ht hW => ⟨⟨upd f15 az (b &&& 255), rfl, trivial, by rw [ht]; exact hP9, va_K.moved hW.alike hK, hD9⟩, hS.F ht⟩) hS.2.2 d_Md_tell_24
set_option maxHeartbeats 4000000 in
set_option maxRecDepth 100000 in
/-- letter -/
theorem m_letter (l : Launch) (dC : Nat → ClassId) (dI : Nat → Nat → Nat) (cT : Nat → ClassId) (sz : Nat) (v : Int64) (k : Int32)  : Met l y_Md_letter (Cond.code y_Md_letter b_Md_letter 3 (Option.some Jvm.ClassFile.FieldType.int) :: BIG) ({ frames := 0, cells := 0, slots := 0, locals := 0 }) (va_Pc [.long v, .int k] (fun U => U.heap.size = sz ∧ va_P (dC, dI) vcl [] U.heap ∧ va_K (dC, dI) vcl (tyL cT) U ∧ va_D (fun _ => True) [])) (va_Qi (S := Unit) (fun rv9 u => True) (fun u t => va_P (dC, dI) vcl [] t.heap ∧ va_K (dC, dI) vcl (tyL cT) t ∧ va_D (va_A [] sz) []) (va_A [] sz)) 0 0 (va_A [] sz) := by
  refine Met.ofW (cc := b_Md_letter) (maxL := 3) (ret := (Option.some Jvm.ClassFile.FieldType.int)) (by decide) rfl ?_
  intro p e s m args below meth c s₁ B hml hv
  obtain ⟨hargs, hsz, hP, hK, hD0⟩ := hv
  have hx := B.exec
  have hb := B.bytes
  have hr := B.returns
  have hts := atoms_spec (ws := (Cond.code y_Md_letter b_Md_letter 3 (Option.some Jvm.ClassFile.FieldType.int) :: BIG)) B.pre
  have hg : ∀ w ∈ BIG, w.before _ s = true := fun w h => hts w (List.mem_cons_of_mem _ h)
  have hown : s.vm.findClass "DoorServerModel" = some m.cls := findClass_of_methodNamed B.named
  have hlocks := B.notSynchronized
  subst hsz
  have hD := hD0.self (sz := s.heap.size)
  generalize hAe : va_A [] s.heap.size = A at hD ⊢
  have hA : ∀ q : Nat, s.heap.size ≤ q → A q := fun q h => by rw [← hAe]; exact Or.inr h
  have hS : va_S A s.heap s.heap [] := va_S.rf
  have hl := lv_entry ([.long v, .int k]) (n := 3) (Nat.le_of_ble_eq_true rfl)
  refine W.eq (g2 := entryFrame m (List.toArray [.long v, .int k]) 3) (by rw [hargs]) ?_
  rw [lg_entry_eq]
  generalize (lg_sl ([.long v, .int k]) ++ List.replicate (3 - (lg_sl ([.long v, .int k])).length) Slot.unset).toArray = ls at hl ⊢
  have hl : lv_has ls 3 [(0, .long v), (2, .int k)] := hl
  change W p l e ({ frames := 0, cells := 0, slots := 0, locals := 0 } : Room) s m args below meth c s.heap [] 0 0 _ _
  have hP : va_P (dC, dI) vcl [] s.heap := hP
  refine lv_bipush (v := 33) hx hb d_Md_letter_0 (by decide) ?_
  refine lv_lload_n hx hb d_Md_letter_2 rfl (lv_at hl 0 rfl) ?_
  refine lv_bipush (v := 8) hx hb d_Md_letter_3 (by decide) ?_
  refine lv_iload_n hx hb d_Md_letter_5 rfl (lv_at hl 1 rfl) ?_
  refine lv_bipush (v := 8) hx hb d_Md_letter_6 (by decide) ?_
  refine lv_irem hx hb d_Md_letter_8 (by decide) ?_
  refine lv_imul hx hb d_Md_letter_9 ?_
  refine lv_lshr (v := v >>> ((8 * (k - k / 8 * 8)).toInt64 &&& 63)) hx hb d_Md_letter_10 rfl ?_
  refine lv_ldc2 (v := 63) hx hb hown (hg _ k_1172) d_Md_letter_11 ?_
  refine lv_land hx hb d_Md_letter_14 ?_
  refine lv_l2i (v := ((v >>> ((8 * (k - k / 8 * 8)).toInt64 &&& 63)) &&& 63).toInt32) hx hb d_Md_letter_15 rfl ?_
  refine lv_iadd hx hb d_Md_letter_16 ?_
  have hP9 := hP.sub (ws' := []) [] rfl
  have hD9 := hD.sub (ws' := []) [] (by decide) rfl
  exact W.iret (v := 33 + (((v >>> ((8 * (k - k / 8 * 8)).toInt64 &&& 63)) &&& 63).toInt32)) hx hb hr (fun t ht hW => ⟨⟨_, (), rfl, trivial, by rw [ht]; exact hP9, va_K.moved hW.alike hK, hD9⟩, hS.F ht⟩) hS.2.2 d_Md_letter_17
theorem AB_len {f : Nat → Int32} {sn : Nat} (hs : sn ≤ 1000) (h : AB f) : AB (upd (upd f 2 (nI (sn / 256))) 3 (nI (sn % 256))) := AB_upd (AB_upd h (BY_n (by omega))) (BY_n (by omega))
set_option maxHeartbeats 4000000 in
set_option maxRecDepth 100000 in
/-- length -/
theorem m_length (l : Launch) (dC : Nat → ClassId) (dI : Nat → Nat → Nat) (cT : Nat → ClassId) (sz : Nat) (mo : Nat) (r : Nat → Nat) (cd : Int32) (tm : Int32) (sn : Nat) (tx : Nat) (lz : Nat) (az : Nat) (na : Nat) (nt : Nat) (nr : Nat) (mw : Int32) (ml : Int32) (mk : Int64) (dq : Int64) (f7 : Nat → Int32) (hsn : sn ≤ 1000) (h7 : AB f7) : Met l y_Md_length (Cond.code y_Md_length b_Md_length 1 (Option.none : Option Jvm.ClassFile.FieldType) :: BIG) ({ frames := 0, cells := 0, slots := 0, locals := 0 }) (va_Pc [.ref mo] (fun U => U.heap.size = sz ∧ va_P (dC, dI) vcl [(mo, .inr (12, mdG r cd tm (nI sn) (nI tx) (nI lz) (nI az) (nI na) (nI nt) (nI nr) mw ml mk dq)), (r 7, .inl ((cT 0), 1000, .inl f7))] U.heap ∧ va_K (dC, dI) vcl (tyL cT) U ∧ va_D (fun _ => True) [(mo, .inr (12, mdG r cd tm (nI sn) (nI tx) (nI lz) (nI az) (nI na) (nI nt) (nI nr) mw ml mk dq)), (r 7, .inl ((cT 0), 1000, .inl f7))])) (va_Qv (S := (Nat → Int32)) (fun u => match u with | g7 => AB g7) (fun u t => match u with | g7 => va_P (dC, dI) vcl [(mo, .inr (12, mdG r cd tm (nI sn) (nI tx) (nI lz) (nI az) (nI na) (nI nt) (nI nr) mw ml mk dq)), (r 7, .inl ((cT 0), 1000, .inl g7))] t.heap ∧ va_K (dC, dI) vcl (tyL cT) t ∧ va_D (va_A [(mo, .inr (12, mdG r cd tm (nI sn) (nI tx) (nI lz) (nI az) (nI na) (nI nt) (nI nr) mw ml mk dq)), (r 7, .inl ((cT 0), 1000, .inl f7))] sz) [(mo, .inr (12, mdG r cd tm (nI sn) (nI tx) (nI lz) (nI az) (nI na) (nI nt) (nI nr) mw ml mk dq)), (r 7, .inl ((cT 0), 1000, .inl g7))]) (va_A [(mo, .inr (12, mdG r cd tm (nI sn) (nI tx) (nI lz) (nI az) (nI na) (nI nt) (nI nr) mw ml mk dq)), (r 7, .inl ((cT 0), 1000, .inl f7))] sz)) 0 0 (va_A [(mo, .inr (12, mdG r cd tm (nI sn) (nI tx) (nI lz) (nI az) (nI na) (nI nt) (nI nr) mw ml mk dq)), (r 7, .inl ((cT 0), 1000, .inl f7))] sz) := by
  refine Met.ofW (cc := b_Md_length) (maxL := 1) (ret := (Option.none : Option Jvm.ClassFile.FieldType)) (by decide) rfl ?_
  intro p e s m args below meth c s₁ B hml hv
  obtain ⟨hargs, hsz, hP, hK, hD0⟩ := hv
  have hx := B.exec
  have hb := B.bytes
  have hr := B.returns
  have hts := atoms_spec (ws := (Cond.code y_Md_length b_Md_length 1 (Option.none : Option Jvm.ClassFile.FieldType) :: BIG)) B.pre
  have hg : ∀ w ∈ BIG, w.before _ s = true := fun w h => hts w (List.mem_cons_of_mem _ h)
  have hown : s.vm.findClass "DoorServerModel" = some m.cls := findClass_of_methodNamed B.named
  have hlocks := B.notSynchronized
  subst hsz
  have hD := hD0.self (sz := s.heap.size)
  generalize hAe : va_A [(mo, .inr (12, mdG r cd tm (nI sn) (nI tx) (nI lz) (nI az) (nI na) (nI nt) (nI nr) mw ml mk dq)), (r 7, .inl ((cT 0), 1000, .inl f7))] s.heap.size = A at hD ⊢
  have hA : ∀ q : Nat, s.heap.size ≤ q → A q := fun q h => by rw [← hAe]; exact Or.inr h
  have hS : va_S A s.heap s.heap [] := va_S.rf
  have hl := lv_entry ([.ref mo]) (n := 1) (Nat.le_of_ble_eq_true rfl)
  refine W.eq (g2 := entryFrame m (List.toArray [.ref mo]) 1) (by rw [hargs]) ?_
  rw [lg_entry_eq]
  generalize (lg_sl ([.ref mo]) ++ List.replicate (1 - (lg_sl ([.ref mo])).length) Slot.unset).toArray = ls at hl ⊢
  have hl : lv_has ls 1 [(0, .ref mo)] := hl
  change W p l e ({ frames := 0, cells := 0, slots := 0, locals := 0 } : Room) s m args below meth c s.heap [] 0 0 _ _
  have hP : va_P (dC, dI) vcl [(mo, .inr (12, mdG r cd tm (nI sn) (nI tx) (nI lz) (nI az) (nI na) (nI nt) (nI nr) mw ml mk dq)), (r 7, .inl ((cT 0), 1000, .inl f7))] s.heap := hP
  refine lv_aload_n hx hb d_Md_length_0 rfl (lv_at hl 0 rfl) ?_
  refine va_get (D := (dC, dI)) (ci := 12) (v := (.ref (r 7))) (C := R_Md) (T := F_Md) (N := 45) hx hb hg in_Md hown hK hP 0 rfl rfl 7 (by decide) (hg _ k_1027) (fun _ h9 => h9) rfl d_Md_length_1 ?_
  refine lv_iconst (v := 2) hx hb d_Md_length_4 (by decide) ?_
  refine lv_aload_n hx hb d_Md_length_5 rfl (lv_at hl 0 rfl) ?_
  refine va_get (D := (dC, dI)) (ci := 12) (v := (.int (nI sn))) (C := R_Md) (T := F_Md) (N := 45) hx hb hg in_Md hown hK hP 0 rfl rfl 8 (by decide) (hg _ k_1028) (fun _ h9 => h9) rfl d_Md_length_6 ?_
  refine lv_sipush (v := 256) hx hb d_Md_length_9 (by decide) ?_
  refine lv_idiv hx hb d_Md_length_12 (by decide) ?_
  refine lv_topi (fun x17 e16 => ?_)
  obtain rfl : x17 = nI (sn / 256) := by rw [e16]; exact pk_div (d := 256) (by omega) (by decide) (by decide)
  refine va_iast hx hb hK hP hD hS 1 0 rfl rfl (i := 2) (vp_in_nI (n := 2) (N := 1000) (by omega) (by decide)) d_Md_length_13 (fun H locs hP hD hS => ?_)
  have ef18 : upd f7 (2 : Int32).toNatClampNeg (nI (sn / 256)) = upd f7 2 (nI (sn / 256)) := rfl
  rw [ef18] at hP hD
  have hP : va_P (dC, dI) vcl [(mo, .inr (12, mdG r cd tm (nI sn) (nI tx) (nI lz) (nI az) (nI na) (nI nt) (nI nr) mw ml mk dq)), (r 7, .inl ((cT 0), 1000, .inl (upd f7 2 (nI (sn / 256)))))] H := hP
  have hD : va_D A [(mo, .inr (12, mdG r cd tm (nI sn) (nI tx) (nI lz) (nI az) (nI na) (nI nt) (nI nr) mw ml mk dq)), (r 7, .inl ((cT 0), 1000, .inl (upd f7 2 (nI (sn / 256)))))] := hD
  refine lv_aload_n hx hb d_Md_length_14 rfl (lv_at hl 0 rfl) ?_
  refine va_get (D := (dC, dI)) (ci := 12) (v := (.ref (r 7))) (C := R_Md) (T := F_Md) (N := 45) hx hb hg in_Md hown hK hP 0 rfl rfl 7 (by decide) (hg _ k_1027) (fun _ h9 => h9) rfl d_Md_length_15 ?_
  refine lv_iconst (v := 3) hx hb d_Md_length_18 (by decide) ?_
  refine lv_aload_n hx hb d_Md_length_19 rfl (lv_at hl 0 rfl) ?_
  refine va_get (D := (dC, dI)) (ci := 12) (v := (.int (nI sn))) (C := R_Md) (T := F_Md) (N := 45) hx hb hg in_Md hown hK hP 0 rfl rfl 8 (by decide) (hg _ k_1028) (fun _ h9 => h9) rfl d_Md_length_20 ?_
  refine lv_sipush (v := 256) hx hb d_Md_length_23 (by decide) ?_
  refine lv_irem hx hb d_Md_length_26 (by decide) ?_
  refine lv_topi (fun x20 e19 => ?_)
  obtain rfl : x20 = nI (sn % 256) := by rw [e19]; exact pk_rem (d := 256) (by omega) (by decide) (by decide)
  refine va_iast hx hb hK hP hD hS 1 0 rfl rfl (i := 3) (vp_in_nI (n := 3) (N := 1000) (by omega) (by decide)) d_Md_length_27 (fun H locs hP hD hS => ?_)
  have ef21 : upd (upd f7 2 (nI (sn / 256))) (3 : Int32).toNatClampNeg (nI (sn % 256)) = upd (upd f7 2 (nI (sn / 256))) 3 (nI (sn % 256)) := rfl
  rw [ef21] at hP hD
  have hP : va_P (dC, dI) vcl [(mo, .inr (12, mdG r cd tm (nI sn) (nI tx) (nI lz) (nI az) (nI na) (nI nt) (nI nr) mw ml mk dq)), (r 7, .inl ((cT 0), 1000, .inl (upd (upd f7 2 (nI (sn / 256))) 3 (nI (sn % 256)))))] H := hP
  have hD : va_D A [(mo, .inr (12, mdG r cd tm (nI sn) (nI tx) (nI lz) (nI az) (nI na) (nI nt) (nI nr) mw ml mk dq)), (r 7, .inl ((cT 0), 1000, .inl (upd (upd f7 2 (nI (sn / 256))) 3 (nI (sn % 256)))))] := hD
  have hP9 := hP.sub (ws' := [(mo, .inr (12, mdG r cd tm (nI sn) (nI tx) (nI lz) (nI az) (nI na) (nI nt) (nI nr) mw ml mk dq)), (r 7, .inl ((cT 0), 1000, .inl (upd (upd f7 2 (nI (sn / 256))) 3 (nI (sn % 256)))))]) [0, 1] rfl
  have hD9 := hD.sub (ws' := [(mo, .inr (12, mdG r cd tm (nI sn) (nI tx) (nI lz) (nI az) (nI na) (nI nt) (nI nr) mw ml mk dq)), (r 7, .inl ((cT 0), 1000, .inl (upd (upd f7 2 (nI (sn / 256))) 3 (nI (sn % 256)))))]) [0, 1] (by decide) rfl
  exact W.vret hx hb hr (fun t ht hW => ⟨⟨upd (upd f7 2 (nI (sn / 256))) 3 (nI (sn % 256)), rfl, AB_len hsn h7, by rw [ht]; exact hP9, va_K.moved hW.alike hK, hD9⟩, hS.F ht⟩) hS.2.2 d_Md_length_28
set_option maxHeartbeats 4000000 in
set_option maxRecDepth 100000 in
/-- closes -/
theorem m_closes (l : Launch) (dC : Nat → ClassId) (dI : Nat → Nat → Nat) (cT : Nat → ClassId) (sz : Nat) (mo : Nat) (r : Nat → Nat) (cd : Int32) (tm : Int32) (sn : Nat) (tx : Nat) (lz : Nat) (az : Nat) (na : Nat) (nt : Nat) (nr : Nat) (mw : Int32) (ml : Int32) (mk : Int64) (dq : Int64) (f7 : Nat → Int32) (hsn : sn ≤ 1000) (h7 : AB f7) : Met l y_Md_closes (Cond.code y_Md_closes b_Md_closes 1 (Option.some Jvm.ClassFile.FieldType.int) :: BIG) ({ frames := 1, cells := 0, slots := 0, locals := 20 }) (va_Pc [.ref mo] (fun U => U.heap.size = sz ∧ va_P (dC, dI) vcl [(mo, .inr (12, mdG r cd tm (nI sn) (nI tx) (nI lz) (nI az) (nI na) (nI nt) (nI nr) mw ml mk dq)), (r 7, .inl ((cT 0), 1000, .inl f7))] U.heap ∧ va_K (dC, dI) vcl (tyL cT) U ∧ va_D (fun _ => True) [(mo, .inr (12, mdG r cd tm (nI sn) (nI tx) (nI lz) (nI az) (nI na) (nI nt) (nI nr) mw ml mk dq)), (r 7, .inl ((cT 0), 1000, .inl f7))])) (va_Qi (S := (Nat → Int32)) (fun rv9 u => match u with | g7 => rv9 = nI sn ∧ (AB g7)) (fun u t => match u with | g7 => va_P (dC, dI) vcl [(mo, .inr (12, mdG r cd tm (nI sn) (nI tx) (nI lz) (nI az) (nI na) (nI nt) (nI nr) mw ml mk dq)), (r 7, .inl ((cT 0), 1000, .inl g7))] t.heap ∧ va_K (dC, dI) vcl (tyL cT) t ∧ va_D (va_A [(mo, .inr (12, mdG r cd tm (nI sn) (nI tx) (nI lz) (nI az) (nI na) (nI nt) (nI nr) mw ml mk dq)), (r 7, .inl ((cT 0), 1000, .inl f7))] sz) [(mo, .inr (12, mdG r cd tm (nI sn) (nI tx) (nI lz) (nI az) (nI na) (nI nt) (nI nr) mw ml mk dq)), (r 7, .inl ((cT 0), 1000, .inl g7))]) (va_A [(mo, .inr (12, mdG r cd tm (nI sn) (nI tx) (nI lz) (nI az) (nI na) (nI nt) (nI nr) mw ml mk dq)), (r 7, .inl ((cT 0), 1000, .inl f7))] sz)) 0 0 (va_A [(mo, .inr (12, mdG r cd tm (nI sn) (nI tx) (nI lz) (nI az) (nI na) (nI nt) (nI nr) mw ml mk dq)), (r 7, .inl ((cT 0), 1000, .inl f7))] sz) := by
  refine Met.ofW (cc := b_Md_closes) (maxL := 1) (ret := (Option.some Jvm.ClassFile.FieldType.int)) (by decide) rfl ?_
  intro p e s m args below meth c s₁ B hml hv
  obtain ⟨hargs, hsz, hP, hK, hD0⟩ := hv
  have hx := B.exec
  have hb := B.bytes
  have hr := B.returns
  have hts := atoms_spec (ws := (Cond.code y_Md_closes b_Md_closes 1 (Option.some Jvm.ClassFile.FieldType.int) :: BIG)) B.pre
  have hg : ∀ w ∈ BIG, w.before _ s = true := fun w h => hts w (List.mem_cons_of_mem _ h)
  have hown : s.vm.findClass "DoorServerModel" = some m.cls := findClass_of_methodNamed B.named
  have hlocks := B.notSynchronized
  subst hsz
  have hD := hD0.self (sz := s.heap.size)
  generalize hAe : va_A [(mo, .inr (12, mdG r cd tm (nI sn) (nI tx) (nI lz) (nI az) (nI na) (nI nt) (nI nr) mw ml mk dq)), (r 7, .inl ((cT 0), 1000, .inl f7))] s.heap.size = A at hD ⊢
  have hA : ∀ q : Nat, s.heap.size ≤ q → A q := fun q h => by rw [← hAe]; exact Or.inr h
  have hS : va_S A s.heap s.heap [] := va_S.rf
  have hl := lv_entry ([.ref mo]) (n := 1) (Nat.le_of_ble_eq_true rfl)
  refine W.eq (g2 := entryFrame m (List.toArray [.ref mo]) 1) (by rw [hargs]) ?_
  rw [lg_entry_eq]
  generalize (lg_sl ([.ref mo]) ++ List.replicate (1 - (lg_sl ([.ref mo])).length) Slot.unset).toArray = ls at hl ⊢
  have hl : lv_has ls 1 [(0, .ref mo)] := hl
  change W p l e ({ frames := 1, cells := 0, slots := 0, locals := 20 } : Room) s m args below meth c s.heap [] 0 0 _ _
  have hP : va_P (dC, dI) vcl [(mo, .inr (12, mdG r cd tm (nI sn) (nI tx) (nI lz) (nI az) (nI na) (nI nt) (nI nr) mw ml mk dq)), (r 7, .inl ((cT 0), 1000, .inl f7))] s.heap := hP
  refine lv_aload_n hx hb d_Md_closes_0 rfl (lv_at hl 0 rfl) ?_
  have hPc := hP.sub (ws' := [(mo, .inr (12, mdG r cd tm (nI sn) (nI tx) (nI lz) (nI az) (nI na) (nI nt) (nI nr) mw ml mk dq)), (r 7, .inl ((cT 0), 1000, .inl f7))]) [0, 1] rfl
  have hDc := hD.sub (ws' := [(mo, .inr (12, mdG r cd tm (nI sn) (nI tx) (nI lz) (nI az) (nI na) (nI nt) (nI nr) mw ml mk dq)), (r 7, .inl ((cT 0), 1000, .inl f7))]) [0, 1] (by decide) rfl
  have hFc := va_free (wc := [(mo, .inr (12, mdG r cd tm (nI sn) (nI tx) (nI lz) (nI az) (nI na) (nI nt) (nI nr) mw ml mk dq)), (r 7, .inl ((cT 0), 1000, .inl f7))]) hD hS hA [0, 1] rfl
  refine va_callv (va_runV (C := "DoorServerModel") (As := []) (rest := []) ⟨hx, hb, hml, hown, hg⟩ (m_length l dC dI cT s.heap.size mo r cd tm sn tx lz az na nt nr mw ml mk dq f7 (by first | assumption | omega) (by first | assumption | omega)) (cwV 0 hg (gI (List.forall_mem_append.mpr ⟨List.forall_mem_cons.mpr ⟨k_1196, List.forall_mem_cons.mpr ⟨k_1198, List.forall_mem_cons.mpr ⟨(big_sel (q := y_Md_length) (n := 45) (by decide +kernel)), List.forall_mem_cons.mpr ⟨k_13, fun _ h => absurd h List.not_mem_nil⟩⟩⟩⟩, List.forall_mem_cons.mpr ⟨k_1199, fun _ h => h⟩⟩)) rfl rfl rfl (by decide +kernel) ⟨Nat.le_of_ble_eq_true rfl, Nat.le_of_ble_eq_true rfl⟩) ⟨fun a U g mk q => by obtain ⟨q0, q1, qP, qK, qD⟩ := q; exact ⟨q0, q1, qP, va_K.moved (u := U) (U := U.calling g mk a) (Vm.Alike.refl U.vm) qK, qD⟩, va_recv (q0 := 0) (ci := 12) hK hP rfl rfl, fun U hU hW => ⟨rfl, by rw [hU], by rw [hU]; exact hPc, va_K.moved hW.alike hK, hDc.weaken (fun _ _ _ _ => trivial)⟩⟩ rfl rfl hl.1 rfl (lv_room (Nat.le_of_ble_eq_true rfl)) d_Md_closes_1 ⟨Nat.le_of_ble_eq_true rfl, Nat.le_of_ble_eq_true rfl⟩) hS (fun q _ h => hFc q h) hFc (fun u t H1 locs ht hvm hw hB hz1 hk1 hS => ?_)
  obtain ⟨g7_22, rfl⟩ : ∃ z, z = u := ⟨_, rfl⟩
  try dsimp only at hw hB
  obtain ⟨hP1, hK1, hD1⟩ := hB
  rw [ht] at hP1
  obtain ⟨hP, hD⟩ := va_join (wr := []) (w1 := [(mo, .inr (12, mdG r cd tm (nI sn) (nI tx) (nI lz) (nI az) (nI na) (nI nt) (nI nr) mw ml mk dq)), (r 7, .inl ((cT 0), 1000, .inl g7_22))]) hP hD [0, 1] [] rfl rfl (by decide) (by decide) hk1 hFc hP1 hD1
  have hw23 := hw
  clear hPc hDc hFc hz1 hk1 hP1 hK1 hD1
  generalize H1 = H at hP hS ⊢
  have hP : va_P (dC, dI) vcl [(mo, .inr (12, mdG r cd tm (nI sn) (nI tx) (nI lz) (nI az) (nI na) (nI nt) (nI nr) mw ml mk dq)), (r 7, .inl ((cT 0), 1000, .inl g7_22))] H := hP
  have hD : va_D A [(mo, .inr (12, mdG r cd tm (nI sn) (nI tx) (nI lz) (nI az) (nI na) (nI nt) (nI nr) mw ml mk dq)), (r 7, .inl ((cT 0), 1000, .inl g7_22))] := hD
  have k24 := hw23
  refine lv_aload_n hx hb d_Md_closes_4 rfl (lv_at hl 0 rfl) ?_
  refine va_get (D := (dC, dI)) (ci := 12) (v := (.int (nI sn))) (C := R_Md) (T := F_Md) (N := 45) hx hb hg in_Md hown hK hP 0 rfl rfl 8 (by decide) (hg _ k_1028) (fun _ h9 => h9) rfl d_Md_closes_5 ?_
  have hP9 := hP.sub (ws' := [(mo, .inr (12, mdG r cd tm (nI sn) (nI tx) (nI lz) (nI az) (nI na) (nI nt) (nI nr) mw ml mk dq)), (r 7, .inl ((cT 0), 1000, .inl g7_22))]) [0, 1] rfl
  have hD9 := hD.sub (ws' := [(mo, .inr (12, mdG r cd tm (nI sn) (nI tx) (nI lz) (nI az) (nI na) (nI nt) (nI nr) mw ml mk dq)), (r 7, .inl ((cT 0), 1000, .inl g7_22))]) [0, 1] (by decide) rfl
  exact W.iret (v := nI sn) hx hb hr (fun t ht hW => ⟨⟨_, g7_22, rfl, ⟨rfl, by first | assumption | omega⟩, by rw [ht]; exact hP9, va_K.moved hW.alike hK, hD9⟩, hS.F ht⟩) hS.2.2 d_Md_closes_8
set_option maxHeartbeats 4000000 in
set_option maxRecDepth 100000 in
/-- opens -/
theorem m_opens1 (l : Launch) (dC : Nat → ClassId) (dI : Nat → Nat → Nat) (cT : Nat → ClassId) (sz : Nat) (mo : Nat) (r : Nat → Nat) (cd : Int32) (tm : Int32) (sn : Nat) (tx : Nat) (lz : Nat) (az : Nat) (na : Nat) (nt : Nat) (nr : Nat) (mw : Int32) (ml : Int32) (mk : Int64) (dq : Int64) (f7 : Nat → Int32) (x : Int32) (k : Nat) (hr9 : sn + k + 2 ≤ 1000) (h7 : AB f7) : Met l y_Md_opens (Cond.code y_Md_opens b_Md_opens 3 (Option.some Jvm.ClassFile.FieldType.boolean) :: BIG) ({ frames := 1, cells := 0, slots := 0, locals := 21 }) (va_Pc [.ref mo, .int x, .int (nI k)] (fun U => U.heap.size = sz ∧ va_P (dC, dI) vcl [(mo, .inr (12, mdG r cd tm (nI sn) (nI tx) (nI lz) (nI az) (nI na) (nI nt) (nI nr) mw ml mk dq)), (r 7, .inl ((cT 0), 1000, .inl f7))] U.heap ∧ va_K (dC, dI) vcl (tyL cT) U ∧ va_D (fun _ => True) [(mo, .inr (12, mdG r cd tm (nI sn) (nI tx) (nI lz) (nI az) (nI na) (nI nt) (nI nr) mw ml mk dq)), (r 7, .inl ((cT 0), 1000, .inl f7))])) (va_Qi (S := (Nat → Int32)) (fun rv9 u => match u with | g7 => rv9 = 1 ∧ (AB g7)) (fun u t => match u with | g7 => va_P (dC, dI) vcl [(mo, .inr (12, mdG r 0 tm (nI (sn + 2)) (nI tx) (nI lz) (nI az) (nI na) (nI nt) (nI nr) mw ml mk dq)), (r 7, .inl ((cT 0), 1000, .inl g7))] t.heap ∧ va_K (dC, dI) vcl (tyL cT) t ∧ va_D (va_A [(mo, .inr (12, mdG r cd tm (nI sn) (nI tx) (nI lz) (nI az) (nI na) (nI nt) (nI nr) mw ml mk dq)), (r 7, .inl ((cT 0), 1000, .inl f7))] sz) [(mo, .inr (12, mdG r 0 tm (nI (sn + 2)) (nI tx) (nI lz) (nI az) (nI na) (nI nt) (nI nr) mw ml mk dq)), (r 7, .inl ((cT 0), 1000, .inl g7))]) (va_A [(mo, .inr (12, mdG r cd tm (nI sn) (nI tx) (nI lz) (nI az) (nI na) (nI nt) (nI nr) mw ml mk dq)), (r 7, .inl ((cT 0), 1000, .inl f7))] sz)) 0 0 (va_A [(mo, .inr (12, mdG r cd tm (nI sn) (nI tx) (nI lz) (nI az) (nI na) (nI nt) (nI nr) mw ml mk dq)), (r 7, .inl ((cT 0), 1000, .inl f7))] sz) := by
  refine Met.ofW (cc := b_Md_opens) (maxL := 3) (ret := (Option.some Jvm.ClassFile.FieldType.boolean)) (by decide) rfl ?_
  intro p e s m args below meth c s₁ B hml hv
  obtain ⟨hargs, hsz, hP, hK, hD0⟩ := hv
  have hx := B.exec
  have hb := B.bytes
  have hr := B.returns
  have hts := atoms_spec (ws := (Cond.code y_Md_opens b_Md_opens 3 (Option.some Jvm.ClassFile.FieldType.boolean) :: BIG)) B.pre
  have hg : ∀ w ∈ BIG, w.before _ s = true := fun w h => hts w (List.mem_cons_of_mem _ h)
  have hown : s.vm.findClass "DoorServerModel" = some m.cls := findClass_of_methodNamed B.named
  have hlocks := B.notSynchronized
  subst hsz
  have hD := hD0.self (sz := s.heap.size)
  generalize hAe : va_A [(mo, .inr (12, mdG r cd tm (nI sn) (nI tx) (nI lz) (nI az) (nI na) (nI nt) (nI nr) mw ml mk dq)), (r 7, .inl ((cT 0), 1000, .inl f7))] s.heap.size = A at hD ⊢
  have hA : ∀ q : Nat, s.heap.size ≤ q → A q := fun q h => by rw [← hAe]; exact Or.inr h
  have hS : va_S A s.heap s.heap [] := va_S.rf
  have hl := lv_entry ([.ref mo, .int x, .int (nI k)]) (n := 3) (Nat.le_of_ble_eq_true rfl)
  refine W.eq (g2 := entryFrame m (List.toArray [.ref mo, .int x, .int (nI k)]) 3) (by rw [hargs]) ?_
  rw [lg_entry_eq]
  generalize (lg_sl ([.ref mo, .int x, .int (nI k)]) ++ List.replicate (3 - (lg_sl ([.ref mo, .int x, .int (nI k)])).length) Slot.unset).toArray = ls at hl ⊢
  have hl : lv_has ls 3 [(0, .ref mo), (1, .int x), (2, .int (nI k))] := hl
  change W p l e ({ frames := 1, cells := 0, slots := 0, locals := 21 } : Room) s m args below meth c s.heap [] 0 0 _ _
  have hP : va_P (dC, dI) vcl [(mo, .inr (12, mdG r cd tm (nI sn) (nI tx) (nI lz) (nI az) (nI na) (nI nt) (nI nr) mw ml mk dq)), (r 7, .inl ((cT 0), 1000, .inl f7))] s.heap := hP
  refine lv_aload_n hx hb d_Md_opens_0 rfl (lv_at hl 0 rfl) ?_
  refine lv_aload_n hx hb d_Md_opens_1 rfl (lv_at hl 0 rfl) ?_
  refine va_get (D := (dC, dI)) (ci := 12) (v := (.int (nI sn))) (C := R_Md) (T := F_Md) (N := 45) hx hb hg in_Md hown hK hP 0 rfl rfl 8 (by decide) (hg _ k_1028) (fun _ h9 => h9) rfl d_Md_opens_2 ?_
  refine lv_iload_n hx hb d_Md_opens_5 rfl (lv_at hl 2 rfl) ?_
  refine lv_iadd hx hb d_Md_opens_6 ?_
  refine lv_topi (fun x26 e25 => ?_)
  obtain rfl : x26 = nI (sn + k) := by rw [e25]; exact nI_add sn k
  refine lv_iconst (v := 2) hx hb d_Md_opens_7 (by decide) ?_
  refine lv_iadd hx hb d_Md_opens_8 ?_
  refine lv_topi (fun x28 e27 => ?_)
  obtain rfl : x28 = nI (sn + k + 2) := by rw [e27]; exact nI_add (sn + k) 2
  refine lv_sipush (v := 1000) hx hb d_Md_opens_9 (by decide) ?_
  refine lv_icmp_le (tgt := 19) hx hb d_Md_opens_12 (by decide) (fun hc29 => ?_) (fun hn9 => absurd (nI_le (b := 1000) hr9 (by decide)) hn9)
  refine lv_iconst (v := 0) hx hb d_Md_opens_19 (by decide) ?_
  refine va_put (D := (dC, dI)) (ci := 12) (v := (.int 0)) (ty := .int) (C := R_Md) (T := F_Md) (N := 45) hx hb hg in_Md t_Md tok_Md nm_Md hown hK hP hD hS 0 rfl rfl 1 (by decide) (hg _ k_1021) (fun _ h9 => h9) rfl (by decide +kernel) rfl rfl (Nat.le_of_ble_eq_true rfl) d_Md_opens_20 (fun H locs hP hD hS => ?_)
  have hP : va_P (dC, dI) vcl [(mo, .inr (12, mdG r 0 tm (nI sn) (nI tx) (nI lz) (nI az) (nI na) (nI nt) (nI nr) mw ml mk dq)), (r 7, .inl ((cT 0), 1000, .inl f7))] H := hP
  have hD : va_D A [(mo, .inr (12, mdG r 0 tm (nI sn) (nI tx) (nI lz) (nI az) (nI na) (nI nt) (nI nr) mw ml mk dq)), (r 7, .inl ((cT 0), 1000, .inl f7))] := hD
  refine lv_aload_n hx hb d_Md_opens_23 rfl (lv_at hl 0 rfl) ?_
  refine va_get (D := (dC, dI)) (ci := 12) (v := (.int 0)) (C := R_Md) (T := F_Md) (N := 45) hx hb hg in_Md hown hK hP 0 rfl rfl 1 (by decide) (hg _ k_1021) (fun _ h9 => h9) rfl d_Md_opens_24 ?_
  refine lv_if_ne (tgt := 42) hx hb d_Md_opens_27 (by decide) (fun hn9 => absurd hn9 (by decide)) (fun hc30 => ?_)
  refine lv_aload_n hx hb d_Md_opens_30 rfl (lv_at hl 0 rfl) ?_
  refine lv_iload_n hx hb d_Md_opens_31 rfl (lv_at hl 1 rfl) ?_
  have hPc := hP.sub (ws' := [(mo, .inr (12, mdG r 0 tm (nI sn) (nI tx) (nI lz) (nI az) (nI na) (nI nt) (nI nr) mw ml mk dq)), (r 7, .inl ((cT 0), 1000, .inl f7))]) [0, 1] rfl
  have hDc := hD.sub (ws' := [(mo, .inr (12, mdG r 0 tm (nI sn) (nI tx) (nI lz) (nI az) (nI na) (nI nt) (nI nr) mw ml mk dq)), (r 7, .inl ((cT 0), 1000, .inl f7))]) [0, 1] (by decide) rfl
  have hFc := va_free (wc := [(mo, .inr (12, mdG r 0 tm (nI sn) (nI tx) (nI lz) (nI az) (nI na) (nI nt) (nI nr) mw ml mk dq)), (r 7, .inl ((cT 0), 1000, .inl f7))]) hD hS hA [0, 1] rfl
  refine va_callv (va_runV (C := "DoorServerModel") (As := [.int x]) (rest := []) ⟨hx, hb, hml, hown, hg⟩ (m_add l dC dI cT H.size mo r 0 tm sn tx lz az na nt nr mw ml mk dq f7 x (by first | assumption | omega) (by first | assumption | omega)) (cwV 1 hg (gI (List.forall_mem_append.mpr ⟨List.forall_mem_cons.mpr ⟨k_1015, List.forall_mem_cons.mpr ⟨k_1017, List.forall_mem_cons.mpr ⟨(big_sel (q := y_Md_add) (n := 45) (by decide +kernel)), List.forall_mem_cons.mpr ⟨k_13, fun _ h => absurd h List.not_mem_nil⟩⟩⟩⟩, List.forall_mem_cons.mpr ⟨k_1018, fun _ h => h⟩⟩)) rfl rfl rfl (by decide +kernel) ⟨Nat.le_of_ble_eq_true rfl, Nat.le_of_ble_eq_true rfl⟩) ⟨fun a U g mk q => by obtain ⟨q0, q1, qP, qK, qD⟩ := q; exact ⟨q0, q1, qP, va_K.moved (u := U) (U := U.calling g mk a) (Vm.Alike.refl U.vm) qK, qD⟩, va_recv (q0 := 0) (ci := 12) hK hP rfl rfl, fun U hU hW => ⟨rfl, by rw [hU], by rw [hU]; exact hPc, va_K.moved hW.alike hK, hDc.weaken (fun _ _ _ _ => trivial)⟩⟩ rfl rfl hl.1 rfl (lv_room (Nat.le_of_ble_eq_true rfl)) d_Md_opens_32 ⟨Nat.le_of_ble_eq_true rfl, Nat.le_of_ble_eq_true rfl⟩) hS (fun q _ h => hFc q h) hFc (fun u t H1 locs ht hvm hw hB hz1 hk1 hS => ?_)
  obtain ⟨g7_31, rfl⟩ : ∃ z, z = u := ⟨_, rfl⟩
  try dsimp only at hw hB
  obtain ⟨hP1, hK1, hD1⟩ := hB
  rw [ht] at hP1
  obtain ⟨hP, hD⟩ := va_join (wr := []) (w1 := [(mo, .inr (12, mdG r 0 tm (nI (sn + 1)) (nI tx) (nI lz) (nI az) (nI na) (nI nt) (nI nr) mw ml mk dq)), (r 7, .inl ((cT 0), 1000, .inl g7_31))]) hP hD [0, 1] [] rfl rfl (by decide) (by decide) hk1 hFc hP1 hD1
  have hw32 := hw
  clear hPc hDc hFc hz1 hk1 hP1 hK1 hD1
  generalize H1 = H at hP hS ⊢
  have hP : va_P (dC, dI) vcl [(mo, .inr (12, mdG r 0 tm (nI (sn + 1)) (nI tx) (nI lz) (nI az) (nI na) (nI nt) (nI nr) mw ml mk dq)), (r 7, .inl ((cT 0), 1000, .inl g7_31))] H := hP
  have hD : va_D A [(mo, .inr (12, mdG r 0 tm (nI (sn + 1)) (nI tx) (nI lz) (nI az) (nI na) (nI nt) (nI nr) mw ml mk dq)), (r 7, .inl ((cT 0), 1000, .inl g7_31))] := hD
  have k33 := hw32
  refine lv_aload_n hx hb d_Md_opens_35 rfl (lv_at hl 0 rfl) ?_
  refine lv_iload_n hx hb d_Md_opens_36 rfl (lv_at hl 2 rfl) ?_
  refine lv_iconst (v := 2) hx hb d_Md_opens_37 (by decide) ?_
  refine lv_iadd hx hb d_Md_opens_38 ?_
  refine lv_topi (fun x35 e34 => ?_)
  obtain rfl : x35 = nI (k + 2) := by rw [e34]; exact nI_add k 2
  have hPc := hP.sub (ws' := [(mo, .inr (12, mdG r 0 tm (nI (sn + 1)) (nI tx) (nI lz) (nI az) (nI na) (nI nt) (nI nr) mw ml mk dq)), (r 7, .inl ((cT 0), 1000, .inl g7_31))]) [0, 1] rfl
  have hDc := hD.sub (ws' := [(mo, .inr (12, mdG r 0 tm (nI (sn + 1)) (nI tx) (nI lz) (nI az) (nI na) (nI nt) (nI nr) mw ml mk dq)), (r 7, .inl ((cT 0), 1000, .inl g7_31))]) [0, 1] (by decide) rfl
  have hFc := va_free (wc := [(mo, .inr (12, mdG r 0 tm (nI (sn + 1)) (nI tx) (nI lz) (nI az) (nI na) (nI nt) (nI nr) mw ml mk dq)), (r 7, .inl ((cT 0), 1000, .inl g7_31))]) hD hS hA [0, 1] rfl
  refine va_callv (va_runV (C := "DoorServerModel") (As := [.int (nI (k + 2))]) (rest := []) ⟨hx, hb, hml, hown, hg⟩ (m_add l dC dI cT H.size mo r 0 tm (sn + 1) tx lz az na nt nr mw ml mk dq g7_31 (nI (k + 2)) (by first | assumption | omega) (by first | assumption | omega)) (cwV 1 hg (gI (List.forall_mem_append.mpr ⟨List.forall_mem_cons.mpr ⟨k_1015, List.forall_mem_cons.mpr ⟨k_1017, List.forall_mem_cons.mpr ⟨(big_sel (q := y_Md_add) (n := 45) (by decide +kernel)), List.forall_mem_cons.mpr ⟨k_13, fun _ h => absurd h List.not_mem_nil⟩⟩⟩⟩, List.forall_mem_cons.mpr ⟨k_1018, fun _ h => h⟩⟩)) rfl rfl rfl (by decide +kernel) ⟨Nat.le_of_ble_eq_true rfl, Nat.le_of_ble_eq_true rfl⟩) ⟨fun a U g mk q => by obtain ⟨q0, q1, qP, qK, qD⟩ := q; exact ⟨q0, q1, qP, va_K.moved (u := U) (U := U.calling g mk a) (Vm.Alike.refl U.vm) qK, qD⟩, va_recv (q0 := 0) (ci := 12) hK hP rfl rfl, fun U hU hW => ⟨rfl, by rw [hU], by rw [hU]; exact hPc, va_K.moved hW.alike hK, hDc.weaken (fun _ _ _ _ => trivial)⟩⟩ rfl rfl hl.1 rfl (lv_room (Nat.le_of_ble_eq_true rfl)) d_Md_opens_39 ⟨Nat.le_of_ble_eq_true rfl, Nat.le_of_ble_eq_true rfl⟩) hS (fun q _ h => hFc q h) hFc (fun u t H1 locs ht hvm hw hB hz1 hk1 hS => ?_)
  obtain ⟨g7_36, rfl⟩ : ∃ z, z = u := ⟨_, rfl⟩
  try dsimp only at hw hB
  obtain ⟨hP1, hK1, hD1⟩ := hB
  rw [ht] at hP1
  obtain ⟨hP, hD⟩ := va_join (wr := []) (w1 := [(mo, .inr (12, mdG r 0 tm (nI ((sn + 1) + 1)) (nI tx) (nI lz) (nI az) (nI na) (nI nt) (nI nr) mw ml mk dq)), (r 7, .inl ((cT 0), 1000, .inl g7_36))]) hP hD [0, 1] [] rfl rfl (by decide) (by decide) hk1 hFc hP1 hD1
  have hw37 := hw
  clear hPc hDc hFc hz1 hk1 hP1 hK1 hD1
  generalize H1 = H at hP hS ⊢
  have hP : va_P (dC, dI) vcl [(mo, .inr (12, mdG r 0 tm (nI ((sn + 1) + 1)) (nI tx) (nI lz) (nI az) (nI na) (nI nt) (nI nr) mw ml mk dq)), (r 7, .inl ((cT 0), 1000, .inl g7_36))] H := hP
  have hD : va_D A [(mo, .inr (12, mdG r 0 tm (nI ((sn + 1) + 1)) (nI tx) (nI lz) (nI az) (nI na) (nI nt) (nI nr) mw ml mk dq)), (r 7, .inl ((cT 0), 1000, .inl g7_36))] := hD
  have k38 := hw37
  refine lv_aload_n hx hb d_Md_opens_42 rfl (lv_at hl 0 rfl) ?_
  refine va_get (D := (dC, dI)) (ci := 12) (v := (.int 0)) (C := R_Md) (T := F_Md) (N := 45) hx hb hg in_Md hown hK hP 0 rfl rfl 1 (by decide) (hg _ k_1021) (fun _ h9 => h9) rfl d_Md_opens_43 ?_
  refine lv_if_ne (tgt := 53) hx hb d_Md_opens_46 (by decide) (fun hn9 => absurd hn9 (by decide)) (fun hc39 => ?_)
  refine lv_iconst (v := 1) hx hb d_Md_opens_49 (by decide) ?_
  refine lv_goto (tgt := 54) hx hb d_Md_opens_50 (by decide) ?_
  have hP9 := hP.sub (ws' := [(mo, .inr (12, mdG r 0 tm (nI ((sn + 1) + 1)) (nI tx) (nI lz) (nI az) (nI na) (nI nt) (nI nr) mw ml mk dq)), (r 7, .inl ((cT 0), 1000, .inl g7_36))]) [0, 1] rfl
  have hD9 := hD.sub (ws' := [(mo, .inr (12, mdG r 0 tm (nI ((sn + 1) + 1)) (nI tx) (nI lz) (nI az) (nI na) (nI nt) (nI nr) mw ml mk dq)), (r 7, .inl ((cT 0), 1000, .inl g7_36))]) [0, 1] (by decide) rfl
  exact W.zret (v := 1) hx hb hr (by first | rfl | decide) (fun t ht hW => ⟨⟨_, g7_36, rfl, ⟨rfl, by first | assumption | omega⟩, by rw [ht]; exact hP9, va_K.moved hW.alike hK, hD9⟩, hS.F ht⟩) hS.2.2 d_Md_opens_54
set_option maxHeartbeats 4000000 in
set_option maxRecDepth 100000 in
/-- opens -/
theorem m_opens0 (l : Launch) (dC : Nat → ClassId) (dI : Nat → Nat → Nat) (cT : Nat → ClassId) (sz : Nat) (mo : Nat) (r : Nat → Nat) (cd : Int32) (tm : Int32) (sn : Nat) (tx : Nat) (lz : Nat) (az : Nat) (na : Nat) (nt : Nat) (nr : Nat) (mw : Int32) (ml : Int32) (mk : Int64) (dq : Int64) (x : Int32) (k : Nat) (hr9 : 1000 < sn + k + 2) (hsn : sn ≤ 1000) (hk : k ≤ 1000) : Met l y_Md_opens (Cond.code y_Md_opens b_Md_opens 3 (Option.some Jvm.ClassFile.FieldType.boolean) :: BIG) ({ frames := 1, cells := 0, slots := 0, locals := 21 }) (va_Pc [.ref mo, .int x, .int (nI k)] (fun U => U.heap.size = sz ∧ va_P (dC, dI) vcl [(mo, .inr (12, mdG r cd tm (nI sn) (nI tx) (nI lz) (nI az) (nI na) (nI nt) (nI nr) mw ml mk dq))] U.heap ∧ va_K (dC, dI) vcl (tyL cT) U ∧ va_D (fun _ => True) [(mo, .inr (12, mdG r cd tm (nI sn) (nI tx) (nI lz) (nI az) (nI na) (nI nt) (nI nr) mw ml mk dq))])) (va_Qi (S := Unit) (fun rv9 u => rv9 = 0 ∧ (True)) (fun u t => va_P (dC, dI) vcl [(mo, .inr (12, mdG r 2 tm (nI sn) (nI tx) (nI lz) (nI az) (nI na) (nI nt) (nI nr) mw ml mk dq))] t.heap ∧ va_K (dC, dI) vcl (tyL cT) t ∧ va_D (va_A [(mo, .inr (12, mdG r cd tm (nI sn) (nI tx) (nI lz) (nI az) (nI na) (nI nt) (nI nr) mw ml mk dq))] sz) [(mo, .inr (12, mdG r 2 tm (nI sn) (nI tx) (nI lz) (nI az) (nI na) (nI nt) (nI nr) mw ml mk dq))]) (va_A [(mo, .inr (12, mdG r cd tm (nI sn) (nI tx) (nI lz) (nI az) (nI na) (nI nt) (nI nr) mw ml mk dq))] sz)) 0 0 (va_A [(mo, .inr (12, mdG r cd tm (nI sn) (nI tx) (nI lz) (nI az) (nI na) (nI nt) (nI nr) mw ml mk dq))] sz) := by
  refine Met.ofW (cc := b_Md_opens) (maxL := 3) (ret := (Option.some Jvm.ClassFile.FieldType.boolean)) (by decide) rfl ?_
  intro p e s m args below meth c s₁ B hml hv
  obtain ⟨hargs, hsz, hP, hK, hD0⟩ := hv
  have hx := B.exec
  have hb := B.bytes
  have hr := B.returns
  have hts := atoms_spec (ws := (Cond.code y_Md_opens b_Md_opens 3 (Option.some Jvm.ClassFile.FieldType.boolean) :: BIG)) B.pre
  have hg : ∀ w ∈ BIG, w.before _ s = true := fun w h => hts w (List.mem_cons_of_mem _ h)
  have hown : s.vm.findClass "DoorServerModel" = some m.cls := findClass_of_methodNamed B.named
  have hlocks := B.notSynchronized
  subst hsz
  have hD := hD0.self (sz := s.heap.size)
  generalize hAe : va_A [(mo, .inr (12, mdG r cd tm (nI sn) (nI tx) (nI lz) (nI az) (nI na) (nI nt) (nI nr) mw ml mk dq))] s.heap.size = A at hD ⊢
  have hA : ∀ q : Nat, s.heap.size ≤ q → A q := fun q h => by rw [← hAe]; exact Or.inr h
  have hS : va_S A s.heap s.heap [] := va_S.rf
  have hl := lv_entry ([.ref mo, .int x, .int (nI k)]) (n := 3) (Nat.le_of_ble_eq_true rfl)
  refine W.eq (g2 := entryFrame m (List.toArray [.ref mo, .int x, .int (nI k)]) 3) (by rw [hargs]) ?_
  rw [lg_entry_eq]
  generalize (lg_sl ([.ref mo, .int x, .int (nI k)]) ++ List.replicate (3 - (lg_sl ([.ref mo, .int x, .int (nI k)])).length) Slot.unset).toArray = ls at hl ⊢
  have hl : lv_has ls 3 [(0, .ref mo), (1, .int x), (2, .int (nI k))] := hl
  change W p l e ({ frames := 1, cells := 0, slots := 0, locals := 21 } : Room) s m args below meth c s.heap [] 0 0 _ _
  have hP : va_P (dC, dI) vcl [(mo, .inr (12, mdG r cd tm (nI sn) (nI tx) (nI lz) (nI az) (nI na) (nI nt) (nI nr) mw ml mk dq))] s.heap := hP
  refine lv_aload_n hx hb d_Md_opens_0 rfl (lv_at hl 0 rfl) ?_
  refine lv_aload_n hx hb d_Md_opens_1 rfl (lv_at hl 0 rfl) ?_
  refine va_get (D := (dC, dI)) (ci := 12) (v := (.int (nI sn))) (C := R_Md) (T := F_Md) (N := 45) hx hb hg in_Md hown hK hP 0 rfl rfl 8 (by decide) (hg _ k_1028) (fun _ h9 => h9) rfl d_Md_opens_2 ?_
  refine lv_iload_n hx hb d_Md_opens_5 rfl (lv_at hl 2 rfl) ?_
  refine lv_iadd hx hb d_Md_opens_6 ?_
  refine lv_topi (fun x41 e40 => ?_)
  obtain rfl : x41 = nI (sn + k) := by rw [e40]; exact nI_add sn k
  refine lv_iconst (v := 2) hx hb d_Md_opens_7 (by decide) ?_
  refine lv_iadd hx hb d_Md_opens_8 ?_
  refine lv_topi (fun x43 e42 => ?_)
  obtain rfl : x43 = nI (sn + k + 2) := by rw [e42]; exact nI_add (sn + k) 2
  refine lv_sipush (v := 1000) hx hb d_Md_opens_9 (by decide) ?_
  refine lv_icmp_le (tgt := 19) hx hb d_Md_opens_12 (by decide) (fun hn9 => absurd hn9 (nI_ge (a := 1000) hr9 (by omega))) (fun hc44 => ?_)
  refine lv_iconst (v := 2) hx hb d_Md_opens_15 (by decide) ?_
  refine lv_goto (tgt := 20) hx hb d_Md_opens_16 (by decide) ?_
  refine va_put (D := (dC, dI)) (ci := 12) (v := (.int 2)) (ty := .int) (C := R_Md) (T := F_Md) (N := 45) hx hb hg in_Md t_Md tok_Md nm_Md hown hK hP hD hS 0 rfl rfl 1 (by decide) (hg _ k_1021) (fun _ h9 => h9) rfl (by decide +kernel) rfl rfl (Nat.le_of_ble_eq_true rfl) d_Md_opens_20 (fun H locs hP hD hS => ?_)
  have hP : va_P (dC, dI) vcl [(mo, .inr (12, mdG r 2 tm (nI sn) (nI tx) (nI lz) (nI az) (nI na) (nI nt) (nI nr) mw ml mk dq))] H := hP
  have hD : va_D A [(mo, .inr (12, mdG r 2 tm (nI sn) (nI tx) (nI lz) (nI az) (nI na) (nI nt) (nI nr) mw ml mk dq))] := hD
  refine lv_aload_n hx hb d_Md_opens_23 rfl (lv_at hl 0 rfl) ?_
  refine va_get (D := (dC, dI)) (ci := 12) (v := (.int 2)) (C := R_Md) (T := F_Md) (N := 45) hx hb hg in_Md hown hK hP 0 rfl rfl 1 (by decide) (hg _ k_1021) (fun _ h9 => h9) rfl d_Md_opens_24 ?_
  refine lv_if_ne (tgt := 42) hx hb d_Md_opens_27 (by decide) (fun hc45 => ?_) (fun hn9 => absurd hn9 (by decide))
  refine lv_aload_n hx hb d_Md_opens_42 rfl (lv_at hl 0 rfl) ?_
  refine va_get (D := (dC, dI)) (ci := 12) (v := (.int 2)) (C := R_Md) (T := F_Md) (N := 45) hx hb hg in_Md hown hK hP 0 rfl rfl 1 (by decide) (hg _ k_1021) (fun _ h9 => h9) rfl d_Md_opens_43 ?_
  refine lv_if_ne (tgt := 53) hx hb d_Md_opens_46 (by decide) (fun hc46 => ?_) (fun hn9 => absurd hn9 (by decide))
  refine lv_iconst (v := 0) hx hb d_Md_opens_53 (by decide) ?_
  have hP9 := hP.sub (ws' := [(mo, .inr (12, mdG r 2 tm (nI sn) (nI tx) (nI lz) (nI az) (nI na) (nI nt) (nI nr) mw ml mk dq))]) [0] rfl
  have hD9 := hD.sub (ws' := [(mo, .inr (12, mdG r 2 tm (nI sn) (nI tx) (nI lz) (nI az) (nI na) (nI nt) (nI nr) mw ml mk dq))]) [0] (by decide) rfl
  exact W.zret (v := 0) hx hb hr (by first | rfl | decide) (fun t ht hW => ⟨⟨_, (), rfl, ⟨rfl, trivial⟩, by rw [ht]; exact hP9, va_K.moved hW.alike hK, hD9⟩, hS.F ht⟩) hS.2.2 d_Md_opens_54
theorem lt_01 {x : Int32} (h : x < 0) : x < 1 := by
  rw [Int32.lt_iff_toInt_lt] at h ⊢
  have e0 : (0 : Int32).toInt = 0 := by decide
  have e1 : (1 : Int32).toInt = 1 := by decide
  omega
def BD (b N : Nat) (f : Nat → Int32) : Prop := ∀ i9, i9 < N → ∃ n9, n9 ≤ b ∧ f i9 = nI n9
theorem BD_upd {b N j k : Nat} {f : Nat → Int32} (h : BD b N f) (hk : k ≤ b) : BD b N (upd f j (nI k)) := fun i hi => by
  by_cases hj : i = j
  · subst hj; exact ⟨k, hk, pk_us⟩
  · rw [pk_un hj]; exact h i hi
set_option maxHeartbeats 4000000 in
set_option maxRecDepth 100000 in
/-- saySecret -/
theorem m_saySecret (l : Launch) (dC : Nat → ClassId) (dI : Nat → Nat → Nat) (cT : Nat → ClassId) (sz : Nat) (mo : Nat) (r : Nat → Nat) (cd : Int32) (tm : Int32) (sn : Nat) (tx : Nat) (lz : Nat) (az : Nat) (na : Nat) (nt : Nat) (nr : Nat) (mw : Int32) (ml : Int32) (mk : Int64) (dq : Int64) (f3 : Nat → Int32) (f4 : Nat → Int32) (f9 : Nat → Int32) (st : Nat) (sl : Nat) (hst : st < 4) (hfz : f4 st = nI sl) (hsl : sl ≤ 40) (htx : tx + sl ≤ 1400) : Met l y_Md_saySecret (Cond.code y_Md_saySecret b_Md_saySecret 3 (Option.none : Option Jvm.ClassFile.FieldType) :: BIG) ({ frames := 1, cells := 0, slots := 0, locals := 21 }) (va_Pc [.ref mo, .int (nI st)] (fun U => U.heap.size = sz ∧ va_P (dC, dI) vcl [(mo, .inr (12, mdG r cd tm (nI sn) (nI tx) (nI lz) (nI az) (nI na) (nI nt) (nI nr) mw ml mk dq)), (r 3, .inl ((cT 0), 160, .inl f3)), (r 4, .inl ((cT 0), 4, .inl f4)), (r 9, .inl ((cT 0), 1400, .inl f9))] U.heap ∧ va_K (dC, dI) vcl (tyL cT) U ∧ va_D (fun _ => True) [(mo, .inr (12, mdG r cd tm (nI sn) (nI tx) (nI lz) (nI az) (nI na) (nI nt) (nI nr) mw ml mk dq)), (r 3, .inl ((cT 0), 160, .inl f3)), (r 4, .inl ((cT 0), 4, .inl f4)), (r 9, .inl ((cT 0), 1400, .inl f9))])) (va_Qv (S := (Nat → Int32)) (fun u => match u with | g9 => True) (fun u t => match u with | g9 => va_P (dC, dI) vcl [(mo, .inr (12, mdG r cd tm (nI sn) (nI (tx + sl)) (nI lz) (nI az) (nI na) (nI nt) (nI nr) mw ml mk dq)), (r 3, .inl ((cT 0), 160, .inl f3)), (r 4, .inl ((cT 0), 4, .inl f4)), (r 9, .inl ((cT 0), 1400, .inl g9))] t.heap ∧ va_K (dC, dI) vcl (tyL cT) t ∧ va_D (va_A [(mo, .inr (12, mdG r cd tm (nI sn) (nI tx) (nI lz) (nI az) (nI na) (nI nt) (nI nr) mw ml mk dq)), (r 3, .inl ((cT 0), 160, .inl f3)), (r 4, .inl ((cT 0), 4, .inl f4)), (r 9, .inl ((cT 0), 1400, .inl f9))] sz) [(mo, .inr (12, mdG r cd tm (nI sn) (nI (tx + sl)) (nI lz) (nI az) (nI na) (nI nt) (nI nr) mw ml mk dq)), (r 3, .inl ((cT 0), 160, .inl f3)), (r 4, .inl ((cT 0), 4, .inl f4)), (r 9, .inl ((cT 0), 1400, .inl g9))]) (va_A [(mo, .inr (12, mdG r cd tm (nI sn) (nI tx) (nI lz) (nI az) (nI na) (nI nt) (nI nr) mw ml mk dq)), (r 3, .inl ((cT 0), 160, .inl f3)), (r 4, .inl ((cT 0), 4, .inl f4)), (r 9, .inl ((cT 0), 1400, .inl f9))] sz)) 0 0 (va_A [(mo, .inr (12, mdG r cd tm (nI sn) (nI tx) (nI lz) (nI az) (nI na) (nI nt) (nI nr) mw ml mk dq)), (r 3, .inl ((cT 0), 160, .inl f3)), (r 4, .inl ((cT 0), 4, .inl f4)), (r 9, .inl ((cT 0), 1400, .inl f9))] sz) := by
  refine Met.ofW (cc := b_Md_saySecret) (maxL := 3) (ret := (Option.none : Option Jvm.ClassFile.FieldType)) (by decide) rfl ?_
  intro p e s m args below meth c s₁ B hml hv
  obtain ⟨hargs, hsz, hP, hK, hD0⟩ := hv
  have hx := B.exec
  have hb := B.bytes
  have hr := B.returns
  have hts := atoms_spec (ws := (Cond.code y_Md_saySecret b_Md_saySecret 3 (Option.none : Option Jvm.ClassFile.FieldType) :: BIG)) B.pre
  have hg : ∀ w ∈ BIG, w.before _ s = true := fun w h => hts w (List.mem_cons_of_mem _ h)
  have hown : s.vm.findClass "DoorServerModel" = some m.cls := findClass_of_methodNamed B.named
  have hlocks := B.notSynchronized
  subst hsz
  have hD := hD0.self (sz := s.heap.size)
  generalize hAe : va_A [(mo, .inr (12, mdG r cd tm (nI sn) (nI tx) (nI lz) (nI az) (nI na) (nI nt) (nI nr) mw ml mk dq)), (r 3, .inl ((cT 0), 160, .inl f3)), (r 4, .inl ((cT 0), 4, .inl f4)), (r 9, .inl ((cT 0), 1400, .inl f9))] s.heap.size = A at hD ⊢
  have hA : ∀ q : Nat, s.heap.size ≤ q → A q := fun q h => by rw [← hAe]; exact Or.inr h
  have hS : va_S A s.heap s.heap [] := va_S.rf
  have hl := lv_entry ([.ref mo, .int (nI st)]) (n := 3) (Nat.le_of_ble_eq_true rfl)
  refine W.eq (g2 := entryFrame m (List.toArray [.ref mo, .int (nI st)]) 3) (by rw [hargs]) ?_
  rw [lg_entry_eq]
  generalize (lg_sl ([.ref mo, .int (nI st)]) ++ List.replicate (3 - (lg_sl ([.ref mo, .int (nI st)])).length) Slot.unset).toArray = ls at hl ⊢
  have hl : lv_has ls 3 [(0, .ref mo), (1, .int (nI st))] := hl
  change W p l e ({ frames := 1, cells := 0, slots := 0, locals := 21 } : Room) s m args below meth c s.heap [] 0 0 _ _
  have hP : va_P (dC, dI) vcl [(mo, .inr (12, mdG r cd tm (nI sn) (nI tx) (nI lz) (nI az) (nI na) (nI nt) (nI nr) mw ml mk dq)), (r 3, .inl ((cT 0), 160, .inl f3)), (r 4, .inl ((cT 0), 4, .inl f4)), (r 9, .inl ((cT 0), 1400, .inl f9))] s.heap := hP
  refine lv_iconst (v := 0) hx hb d_Md_saySecret_0 (by decide) ?_
  refine lv_istore_n (lv' := [(2, .int 0), (0, .ref mo), (1, .int (nI st))]) hx hb d_Md_saySecret_1 rfl hl (by decide) rfl (fun ls hl => ?_)
  have hl := lv_sub hl [0, 1, 2] (show _ = [(2, .int 0), (0, .ref mo), (1, .int (nI st))] from rfl)
  have L48 : ∀ (Q : State → Prop) (exit : ∀ (g9_47 : Nat → Int32) (H : Heap) (locs : List Loc) (ls : Array Slot), va_P (dC, dI) vcl [(mo, .inr (12, mdG r cd tm (nI sn) (nI (tx + sl)) (nI lz) (nI az) (nI na) (nI nt) (nI nr) mw ml mk dq)), (r 3, .inl ((cT 0), 160, .inl f3)), (r 4, .inl ((cT 0), 4, .inl f4)), (r 9, .inl ((cT 0), 1400, .inl g9_47))] H → va_D A [(mo, .inr (12, mdG r cd tm (nI sn) (nI (tx + sl)) (nI lz) (nI az) (nI na) (nI nt) (nI nr) mw ml mk dq)), (r 3, .inl ((cT 0), 160, .inl f3)), (r 4, .inl ((cT 0), 4, .inl f4)), (r 9, .inl ((cT 0), 1400, .inl g9_47))] → va_S A s.heap H locs → lv_has ls 3 [(2, .int (nI sl)), (0, .ref mo), (1, .int (nI st))] → W p l e ({ frames := 1, cells := 0, slots := 0, locals := 21 } : Room) s m args below meth c H locs 0 0 Q (F0 m 33 ls [])) (j8 i : Nat) (g9_47 : Nat → Int32) (H : Heap) (locs : List Loc) (ls : Array Slot), i + j8 = sl → va_P (dC, dI) vcl [(mo, .inr (12, mdG r cd tm (nI sn) (nI (tx + i)) (nI lz) (nI az) (nI na) (nI nt) (nI nr) mw ml mk dq)), (r 3, .inl ((cT 0), 160, .inl f3)), (r 4, .inl ((cT 0), 4, .inl f4)), (r 9, .inl ((cT 0), 1400, .inl g9_47))] H → va_D A [(mo, .inr (12, mdG r cd tm (nI sn) (nI (tx + i)) (nI lz) (nI az) (nI na) (nI nt) (nI nr) mw ml mk dq)), (r 3, .inl ((cT 0), 160, .inl f3)), (r 4, .inl ((cT 0), 4, .inl f4)), (r 9, .inl ((cT 0), 1400, .inl g9_47))] → va_S A s.heap H locs → lv_has ls 3 [(2, .int (nI i)), (0, .ref mo), (1, .int (nI st))] → W p l e ({ frames := 1, cells := 0, slots := 0, locals := 21 } : Room) s m args below meth c H locs 0 0 Q (F0 m 2 ls []) := by
    intro Q exit j8
    induction j8 with
    | zero => 
      intro i g9_47 H locs ls hij  hP hD hS hl
      have hij : sl = i := by omega
      refine lv_iload_n hx hb d_Md_saySecret_2 rfl (lv_at hl 0 rfl) ?_
      refine lv_aload_n hx hb d_Md_saySecret_3 rfl (lv_at hl 1 rfl) ?_
      refine va_get (D := (dC, dI)) (ci := 12) (v := (.ref (r 4))) (C := R_Md) (T := F_Md) (N := 45) hx hb hg in_Md hown hK hP 0 rfl rfl 4 (by decide) (hg _ k_1024) (fun _ h9 => h9) rfl d_Md_saySecret_4 ?_
      refine lv_iload_n hx hb d_Md_saySecret_7 rfl (lv_at hl 2 rfl) ?_
      refine va_iald hx hb hK hP 2 0 rfl rfl (i := (nI st)) (vp_in_nI (N := 4) hst (by decide)) d_Md_saySecret_8 ?_
      refine lv_topi (fun x50 e49 => ?_)
      obtain rfl : x50 = nI sl := by rw [e49]; rw [nI_clamp (by omega)]; exact hfz
      refine lv_icmp_ge (tgt := 33) hx hb d_Md_saySecret_9 (by decide) (fun hc51 => ?_) (fun hn9 => absurd (nI_le (by omega) (by omega)) hn9)
      subst hij
      exact exit g9_47 _ _ _  hP hD hS hl
    | succ j8 ih => 
      intro i g9_47 H locs ls hij  hP hD hS hl
      have hlt : i < sl := by omega
      have hlti := hlt
      refine lv_iload_n hx hb d_Md_saySecret_2 rfl (lv_at hl 0 rfl) ?_
      refine lv_aload_n hx hb d_Md_saySecret_3 rfl (lv_at hl 1 rfl) ?_
      refine va_get (D := (dC, dI)) (ci := 12) (v := (.ref (r 4))) (C := R_Md) (T := F_Md) (N := 45) hx hb hg in_Md hown hK hP 0 rfl rfl 4 (by decide) (hg _ k_1024) (fun _ h9 => h9) rfl d_Md_saySecret_4 ?_
      refine lv_iload_n hx hb d_Md_saySecret_7 rfl (lv_at hl 2 rfl) ?_
      refine va_iald hx hb hK hP 2 0 rfl rfl (i := (nI st)) (vp_in_nI (N := 4) hst (by decide)) d_Md_saySecret_8 ?_
      refine lv_topi (fun x53 e52 => ?_)
      obtain rfl : x53 = nI sl := by rw [e52]; rw [nI_clamp (by omega)]; exact hfz
      refine lv_icmp_ge (tgt := 33) hx hb d_Md_saySecret_9 (by decide) (fun hn9 => absurd hn9 (nI_ge (by omega) (by omega))) (fun hc54 => ?_)
      refine lv_aload_n hx hb d_Md_saySecret_12 rfl (lv_at hl 1 rfl) ?_
      refine lv_aload_n hx hb d_Md_saySecret_13 rfl (lv_at hl 1 rfl) ?_
      refine va_get (D := (dC, dI)) (ci := 12) (v := (.ref (r 3))) (C := R_Md) (T := F_Md) (N := 45) hx hb hg in_Md hown hK hP 0 rfl rfl 3 (by decide) (hg _ k_1023) (fun _ h9 => h9) rfl d_Md_saySecret_14 ?_
      refine lv_bipush (v := 40) hx hb d_Md_saySecret_17 (by decide) ?_
      refine lv_iload_n hx hb d_Md_saySecret_19 rfl (lv_at hl 2 rfl) ?_
      refine lv_imul hx hb d_Md_saySecret_20 ?_
      refine lv_topi (fun x56 e55 => ?_)
      obtain rfl : x56 = nI (40 * st) := by rw [e55]; exact pk_mul 40 st
      refine lv_iload_n hx hb d_Md_saySecret_21 rfl (lv_at hl 0 rfl) ?_
      refine lv_iadd hx hb d_Md_saySecret_22 ?_
      refine lv_topi (fun x58 e57 => ?_)
      obtain rfl : x58 = nI ((40 * st) + i) := by rw [e57]; exact nI_add (40 * st) i
      refine va_iald hx hb hK hP 1 0 rfl rfl (i := (nI ((40 * st) + i))) (vp_in_nI (N := 160) (by omega) (by decide)) d_Md_saySecret_23 ?_
      refine lv_topi (fun x59 e_x59 => ?_)
      clear e_x59
      have hPc := hP.sub (ws' := [(mo, .inr (12, mdG r cd tm (nI sn) (nI (tx + i)) (nI lz) (nI az) (nI na) (nI nt) (nI nr) mw ml mk dq)), (r 9, .inl ((cT 0), 1400, .inl g9_47))]) [0, 3] rfl
      have hDc := hD.sub (ws' := [(mo, .inr (12, mdG r cd tm (nI sn) (nI (tx + i)) (nI lz) (nI az) (nI na) (nI nt) (nI nr) mw ml mk dq)), (r 9, .inl ((cT 0), 1400, .inl g9_47))]) [0, 3] (by decide) rfl
      have hFc := va_free (wc := [(mo, .inr (12, mdG r cd tm (nI sn) (nI (tx + i)) (nI lz) (nI az) (nI na) (nI nt) (nI nr) mw ml mk dq)), (r 9, .inl ((cT 0), 1400, .inl g9_47))]) hD hS hA [0, 3] rfl
      refine va_callv (va_runV (C := "DoorServerModel") (As := [.int x59]) (rest := []) ⟨hx, hb, hml, hown, hg⟩ (m_say l dC dI cT H.size mo r cd tm sn (tx + i) lz az na nt nr mw ml mk dq g9_47 x59 (by first | assumption | omega)) (cwV 1 hg (gI (List.forall_mem_append.mpr ⟨List.forall_mem_cons.mpr ⟨k_1220, List.forall_mem_cons.mpr ⟨k_1222, List.forall_mem_cons.mpr ⟨(big_sel (q := y_Md_say) (n := 45) (by decide +kernel)), List.forall_mem_cons.mpr ⟨k_13, fun _ h => absurd h List.not_mem_nil⟩⟩⟩⟩, List.forall_mem_cons.mpr ⟨k_1223, fun _ h => h⟩⟩)) rfl rfl rfl (by decide +kernel) ⟨Nat.le_of_ble_eq_true rfl, Nat.le_of_ble_eq_true rfl⟩) ⟨fun a U g mk q => by obtain ⟨q0, q1, qP, qK, qD⟩ := q; exact ⟨q0, q1, qP, va_K.moved (u := U) (U := U.calling g mk a) (Vm.Alike.refl U.vm) qK, qD⟩, va_recv (q0 := 0) (ci := 12) hK hP rfl rfl, fun U hU hW => ⟨rfl, by rw [hU], by rw [hU]; exact hPc, va_K.moved hW.alike hK, hDc.weaken (fun _ _ _ _ => trivial)⟩⟩ rfl rfl hl.1 rfl (lv_room (Nat.le_of_ble_eq_true rfl)) d_Md_saySecret_24 ⟨Nat.le_of_ble_eq_true rfl, Nat.le_of_ble_eq_true rfl⟩) hS (fun q _ h => hFc q h) hFc (fun u t H1 locs ht hvm hw hB hz1 hk1 hS => ?_)
      obtain ⟨g9_60, rfl⟩ : ∃ z, z = u := ⟨_, rfl⟩
      try dsimp only at hw hB
      obtain ⟨hP1, hK1, hD1⟩ := hB
      rw [ht] at hP1
      obtain ⟨hP, hD⟩ := va_join (wr := [(r 3, .inl ((cT 0), 160, .inl f3)), (r 4, .inl ((cT 0), 4, .inl f4))]) (w1 := [(mo, .inr (12, mdG r cd tm (nI sn) (nI ((tx + i) + 1)) (nI lz) (nI az) (nI na) (nI nt) (nI nr) mw ml mk dq)), (r 9, .inl ((cT 0), 1400, .inl g9_60))]) hP hD [0, 3] [1, 2] rfl rfl (by decide) (by decide) hk1 hFc hP1 hD1
      have hw61 := hw
      clear hPc hDc hFc hz1 hk1 hP1 hK1 hD1
      generalize H1 = H at hP hS ⊢
      have hP : va_P (dC, dI) vcl [(r 3, .inl ((cT 0), 160, .inl f3)), (r 4, .inl ((cT 0), 4, .inl f4)), (mo, .inr (12, mdG r cd tm (nI sn) (nI ((tx + i) + 1)) (nI lz) (nI az) (nI na) (nI nt) (nI nr) mw ml mk dq)), (r 9, .inl ((cT 0), 1400, .inl g9_60))] H := hP
      have hD : va_D A [(r 3, .inl ((cT 0), 160, .inl f3)), (r 4, .inl ((cT 0), 4, .inl f4)), (mo, .inr (12, mdG r cd tm (nI sn) (nI ((tx + i) + 1)) (nI lz) (nI az) (nI na) (nI nt) (nI nr) mw ml mk dq)), (r 9, .inl ((cT 0), 1400, .inl g9_60))] := hD
      refine lv_iinc (k := 0) (v := nI (i + 1)) (lv' := [(2, .int (nI (i + 1))), (0, .ref mo), (1, .int (nI st))]) hx hb d_Md_saySecret_27 hl rfl (nI_1 i) (by decide) rfl (fun ls hl => ?_)
      refine lv_goto (tgt := 2) hx hb d_Md_saySecret_30 (by decide) ?_
      have hl := lv_sub hl [0, 1, 2] (show _ = [(2, .int (nI (i + 1))), (0, .ref mo), (1, .int (nI st))] from rfl)
      have hP := hP.sub (ws' := [(mo, .inr (12, mdG r cd tm (nI sn) (nI ((tx + i) + 1)) (nI lz) (nI az) (nI na) (nI nt) (nI nr) mw ml mk dq)), (r 3, .inl ((cT 0), 160, .inl f3)), (r 4, .inl ((cT 0), 4, .inl f4)), (r 9, .inl ((cT 0), 1400, .inl g9_60))]) [2, 0, 1, 3] rfl
      have hD := hD.sub (ws' := [(mo, .inr (12, mdG r cd tm (nI sn) (nI ((tx + i) + 1)) (nI lz) (nI az) (nI na) (nI nt) (nI nr) mw ml mk dq)), (r 3, .inl ((cT 0), 160, .inl f3)), (r 4, .inl ((cT 0), 4, .inl f4)), (r 9, .inl ((cT 0), 1400, .inl g9_60))]) [2, 0, 1, 3] (by decide) rfl
      exact ih (i + 1) _ _ _ _ (by omega)  hP hD hS hl
  refine L48 _ (fun g9_47 H locs ls  hP hD hS hl => ?_) (sl - 0) 0 f9 s.heap _ ls (by omega)  hP hD hS hl
  have hP9 := hP.sub (ws' := [(mo, .inr (12, mdG r cd tm (nI sn) (nI (tx + sl)) (nI lz) (nI az) (nI na) (nI nt) (nI nr) mw ml mk dq)), (r 3, .inl ((cT 0), 160, .inl f3)), (r 4, .inl ((cT 0), 4, .inl f4)), (r 9, .inl ((cT 0), 1400, .inl g9_47))]) [0, 1, 2, 3] rfl
  have hD9 := hD.sub (ws' := [(mo, .inr (12, mdG r cd tm (nI sn) (nI (tx + sl)) (nI lz) (nI az) (nI na) (nI nt) (nI nr) mw ml mk dq)), (r 3, .inl ((cT 0), 160, .inl f3)), (r 4, .inl ((cT 0), 4, .inl f4)), (r 9, .inl ((cT 0), 1400, .inl g9_47))]) [0, 1, 2, 3] (by decide) rfl
  exact W.vret hx hb hr (fun t ht hW => ⟨⟨g9_47, rfl, trivial, by rw [ht]; exact hP9, va_K.moved hW.alike hK, hD9⟩, hS.F ht⟩) hS.2.2 d_Md_saySecret_33
