theorem d_DS_requireWithin_18 : decode b_DS_requireWithin 18 = .ok (.return_, 1) := by decide +kernel
theorem d_DS_requireByte_8 : decode b_DS_requireByte 8 = .ok (.return_, 1) := by decide +kernel
theorem d_DS_requireStation_6 : decode b_DS_requireStation 6 = .ok (.return_, 1) := by decide +kernel
theorem d_DS_requireUser_7 : decode b_DS_requireUser 7 = .ok (.return_, 1) := by decide +kernel
theorem d_DS_requireRoom_0 : decode b_DS_requireRoom 0 = .ok (.aload_n 0, 1) := by decide +kernel
theorem d_DS_requireRoom_1 : decode b_DS_requireRoom 1 = .ok (.getfield 14, 3) := by decide +kernel
theorem d_DS_requireRoom_4 : decode b_DS_requireRoom 4 = .ok (.getfield 81, 3) := by decide +kernel
theorem d_DS_requireRoom_7 : decode b_DS_requireRoom 7 = .ok (.iconst 2, 1) := by decide +kernel
theorem d_DS_requireRoom_8 : decode b_DS_requireRoom 8 = .ok (.iadd, 1) := by decide +kernel
theorem d_DS_requireRoom_9 : decode b_DS_requireRoom 9 = .ok (.iload_n 1, 1) := by decide +kernel
theorem d_DS_requireRoom_10 : decode b_DS_requireRoom 10 = .ok (.iadd, 1) := by decide +kernel
theorem d_DS_requireRoom_11 : decode b_DS_requireRoom 11 = .ok (.sipush 1000, 3) := by decide +kernel
theorem d_DS_requireRoom_14 : decode b_DS_requireRoom 14 = .ok (.if_icmp .le 11, 3) := by decide +kernel
theorem d_DS_requireRoom_25 : decode b_DS_requireRoom 25 = .ok (.return_, 1) := by decide +kernel
theorem d_DS_closedDraft_0 : decode b_DS_closedDraft 0 = .ok (.aload_n 0, 1) := by decide +kernel
theorem d_DS_closedDraft_1 : decode b_DS_closedDraft 1 = .ok (.getfield 14, 3) := by decide +kernel
theorem d_DS_closedDraft_4 : decode b_DS_closedDraft 4 = .ok (.invokevirtual 127, 3) := by decide +kernel
theorem d_DS_closedDraft_7 : decode b_DS_closedDraft 7 = .ok (.aload_n 0, 1) := by decide +kernel
theorem d_DS_closedDraft_8 : decode b_DS_closedDraft 8 = .ok (.getfield 14, 3) := by decide +kernel
theorem d_DS_closedDraft_11 : decode b_DS_closedDraft 11 = .ok (.getfield 81, 3) := by decide +kernel
theorem d_DS_closedDraft_14 : decode b_DS_closedDraft 14 = .ok (.ireturn, 1) := by decide +kernel
theorem d_DS_draft_0 : decode b_DS_draft 0 = .ok (.iload_n 1, 1) := by decide +kernel
theorem d_DS_draft_1 : decode b_DS_draft 1 = .ok (.invokestatic 62, 3) := by decide +kernel
theorem d_DS_draft_4 : decode b_DS_draft 4 = .ok (.iload_n 2, 1) := by decide +kernel
theorem d_DS_draft_5 : decode b_DS_draft 5 = .ok (.invokestatic 62, 3) := by decide +kernel
theorem d_DS_draft_8 : decode b_DS_draft 8 = .ok (.aload_n 0, 1) := by decide +kernel
theorem d_DS_draft_9 : decode b_DS_draft 9 = .ok (.getfield 14, 3) := by decide +kernel
theorem d_DS_draft_12 : decode b_DS_draft 12 = .ok (.iload_n 1, 1) := by decide +kernel
theorem d_DS_draft_13 : decode b_DS_draft 13 = .ok (.iload_n 2, 1) := by decide +kernel
theorem d_DS_draft_14 : decode b_DS_draft 14 = .ok (.invokevirtual 18, 3) := by decide +kernel
theorem d_DS_draft_17 : decode b_DS_draft 17 = .ok (.aload_n 0, 1) := by decide +kernel
theorem d_DS_draft_18 : decode b_DS_draft 18 = .ok (.getfield 14, 3) := by decide +kernel
theorem d_DS_draft_21 : decode b_DS_draft 21 = .ok (.lload_n 3, 1) := by decide +kernel
theorem d_DS_draft_22 : decode b_DS_draft 22 = .ok (.invokevirtual 22, 3) := by decide +kernel
theorem d_DS_draft_25 : decode b_DS_draft 25 = .ok (.return_, 1) := by decide +kernel
theorem d_DS_put_0 : decode b_DS_put 0 = .ok (.iload_n 1, 1) := by decide +kernel
theorem d_DS_put_1 : decode b_DS_put 1 = .ok (.invokestatic 62, 3) := by decide +kernel
theorem d_DS_put_4 : decode b_DS_put 4 = .ok (.iload_n 3, 1) := by decide +kernel
theorem d_DS_put_5 : decode b_DS_put 5 = .ok (.invokestatic 62, 3) := by decide +kernel
theorem d_DS_put_8 : decode b_DS_put 8 = .ok (.iload_n 2, 1) := by decide +kernel
theorem d_DS_put_9 : decode b_DS_put 9 = .ok (.iconst 0, 1) := by decide +kernel
theorem d_DS_put_10 : decode b_DS_put 10 = .ok (.bipush 100, 2) := by decide +kernel
theorem d_DS_put_12 : decode b_DS_put 12 = .ok (.invokestatic 38, 3) := by decide +kernel
theorem d_DS_put_15 : decode b_DS_put 15 = .ok (.aload_n 0, 1) := by decide +kernel
theorem d_DS_put_16 : decode b_DS_put 16 = .ok (.iload_n 2, 1) := by decide +kernel
theorem d_DS_put_17 : decode b_DS_put 17 = .ok (.invokevirtual 65, 3) := by decide +kernel
theorem d_DS_put_20 : decode b_DS_put 20 = .ok (.aload_n 0, 1) := by decide +kernel
theorem d_DS_put_21 : decode b_DS_put 21 = .ok (.getfield 14, 3) := by decide +kernel
theorem d_DS_put_24 : decode b_DS_put 24 = .ok (.iload_n 1, 1) := by decide +kernel
theorem d_DS_put_25 : decode b_DS_put 25 = .ok (.iload_n 2, 1) := by decide +kernel
theorem d_DS_put_26 : decode b_DS_put 26 = .ok (.invokevirtual 68, 3) := by decide +kernel
theorem d_DS_put_29 : decode b_DS_put 29 = .ok (.iconst 0, 1) := by decide +kernel
theorem d_DS_put_30 : decode b_DS_put 30 = .ok (.istore 4, 2) := by decide +kernel
theorem d_DS_put_32 : decode b_DS_put 32 = .ok (.iload 4, 2) := by decide +kernel
theorem d_DS_put_34 : decode b_DS_put 34 = .ok (.iload_n 2, 1) := by decide +kernel
theorem d_DS_put_35 : decode b_DS_put 35 = .ok (.if_icmp .ge 20, 3) := by decide +kernel
theorem d_DS_put_38 : decode b_DS_put 38 = .ok (.aload_n 0, 1) := by decide +kernel
theorem d_DS_put_39 : decode b_DS_put 39 = .ok (.getfield 14, 3) := by decide +kernel
theorem d_DS_put_42 : decode b_DS_put 42 = .ok (.iload_n 3, 1) := by decide +kernel
theorem d_DS_put_43 : decode b_DS_put 43 = .ok (.iload 4, 2) := by decide +kernel
theorem d_DS_put_45 : decode b_DS_put 45 = .ok (.iadd, 1) := by decide +kernel
theorem d_DS_put_46 : decode b_DS_put 46 = .ok (.invokevirtual 71, 3) := by decide +kernel
theorem d_DS_put_49 : decode b_DS_put 49 = .ok (.iinc 4 1, 3) := by decide +kernel
theorem d_DS_put_52 : decode b_DS_put 52 = .ok (.goto (-20), 3) := by decide +kernel
theorem d_DS_put_55 : decode b_DS_put 55 = .ok (.aload_n 0, 1) := by decide +kernel
theorem d_DS_put_56 : decode b_DS_put 56 = .ok (.invokevirtual 74, 3) := by decide +kernel
theorem d_DS_put_59 : decode b_DS_put 59 = .ok (.ireturn, 1) := by decide +kernel
theorem d_DS_number_0 : decode b_DS_number 0 = .ok (.iload_n 1, 1) := by decide +kernel
theorem d_DS_number_1 : decode b_DS_number 1 = .ok (.invokestatic 62, 3) := by decide +kernel
theorem d_DS_number_4 : decode b_DS_number 4 = .ok (.aload_n 0, 1) := by decide +kernel
theorem d_DS_number_5 : decode b_DS_number 5 = .ok (.iconst 4, 1) := by decide +kernel
theorem d_DS_number_6 : decode b_DS_number 6 = .ok (.invokevirtual 65, 3) := by decide +kernel
theorem d_DS_number_9 : decode b_DS_number 9 = .ok (.aload_n 0, 1) := by decide +kernel
theorem d_DS_number_10 : decode b_DS_number 10 = .ok (.getfield 14, 3) := by decide +kernel
theorem d_DS_number_13 : decode b_DS_number 13 = .ok (.iload_n 1, 1) := by decide +kernel
theorem d_DS_number_14 : decode b_DS_number 14 = .ok (.iconst 4, 1) := by decide +kernel
theorem d_DS_number_15 : decode b_DS_number 15 = .ok (.invokevirtual 68, 3) := by decide +kernel
theorem d_DS_number_18 : decode b_DS_number 18 = .ok (.aload_n 0, 1) := by decide +kernel
theorem d_DS_number_19 : decode b_DS_number 19 = .ok (.getfield 14, 3) := by decide +kernel
theorem d_DS_number_22 : decode b_DS_number 22 = .ok (.iload_n 2, 1) := by decide +kernel
theorem d_DS_number_23 : decode b_DS_number 23 = .ok (.i2l, 1) := by decide +kernel
theorem d_DS_number_24 : decode b_DS_number 24 = .ok (.iconst 4, 1) := by decide +kernel
theorem d_DS_number_25 : decode b_DS_number 25 = .ok (.invokevirtual 78, 3) := by decide +kernel
theorem d_DS_number_28 : decode b_DS_number 28 = .ok (.aload_n 0, 1) := by decide +kernel
theorem d_DS_number_29 : decode b_DS_number 29 = .ok (.invokevirtual 74, 3) := by decide +kernel
theorem d_DS_number_32 : decode b_DS_number 32 = .ok (.ireturn, 1) := by decide +kernel
theorem d_DS_name_0 : decode b_DS_name 0 = .ok (.iload_n 1, 1) := by decide +kernel
theorem d_DS_name_1 : decode b_DS_name 1 = .ok (.invokestatic 52, 3) := by decide +kernel
theorem d_DS_name_4 : decode b_DS_name 4 = .ok (.aload_n 0, 1) := by decide +kernel
theorem d_DS_name_5 : decode b_DS_name 5 = .ok (.iconst 3, 1) := by decide +kernel
theorem d_DS_name_6 : decode b_DS_name 6 = .ok (.invokevirtual 65, 3) := by decide +kernel
theorem d_DS_name_9 : decode b_DS_name 9 = .ok (.aload_n 0, 1) := by decide +kernel
theorem d_DS_name_10 : decode b_DS_name 10 = .ok (.getfield 14, 3) := by decide +kernel
theorem d_DS_name_13 : decode b_DS_name 13 = .ok (.iconst 1, 1) := by decide +kernel
theorem d_DS_name_14 : decode b_DS_name 14 = .ok (.iconst 3, 1) := by decide +kernel
theorem d_DS_name_15 : decode b_DS_name 15 = .ok (.invokevirtual 68, 3) := by decide +kernel
theorem d_DS_name_18 : decode b_DS_name 18 = .ok (.aload_n 0, 1) := by decide +kernel
theorem d_DS_name_19 : decode b_DS_name 19 = .ok (.getfield 14, 3) := by decide +kernel
theorem d_DS_name_22 : decode b_DS_name 22 = .ok (.bipush 117, 2) := by decide +kernel
theorem d_DS_name_24 : decode b_DS_name 24 = .ok (.invokevirtual 71, 3) := by decide +kernel
theorem d_DS_name_27 : decode b_DS_name 27 = .ok (.aload_n 0, 1) := by decide +kernel
theorem d_DS_name_28 : decode b_DS_name 28 = .ok (.getfield 14, 3) := by decide +kernel
theorem d_DS_name_31 : decode b_DS_name 31 = .ok (.bipush 48, 2) := by decide +kernel
theorem d_DS_name_33 : decode b_DS_name 33 = .ok (.iload_n 1, 1) := by decide +kernel
theorem d_DS_name_34 : decode b_DS_name 34 = .ok (.bipush 10, 2) := by decide +kernel
theorem d_DS_name_36 : decode b_DS_name 36 = .ok (.idiv, 1) := by decide +kernel
theorem d_DS_name_37 : decode b_DS_name 37 = .ok (.iadd, 1) := by decide +kernel
theorem d_DS_name_38 : decode b_DS_name 38 = .ok (.invokevirtual 71, 3) := by decide +kernel
theorem d_DS_name_41 : decode b_DS_name 41 = .ok (.aload_n 0, 1) := by decide +kernel
theorem d_DS_name_42 : decode b_DS_name 42 = .ok (.getfield 14, 3) := by decide +kernel
theorem d_DS_name_45 : decode b_DS_name 45 = .ok (.bipush 48, 2) := by decide +kernel
theorem d_DS_name_47 : decode b_DS_name 47 = .ok (.iload_n 1, 1) := by decide +kernel
theorem d_DS_name_48 : decode b_DS_name 48 = .ok (.bipush 10, 2) := by decide +kernel
theorem d_DS_name_50 : decode b_DS_name 50 = .ok (.irem, 1) := by decide +kernel
theorem d_DS_name_51 : decode b_DS_name 51 = .ok (.iadd, 1) := by decide +kernel
theorem d_DS_name_52 : decode b_DS_name 52 = .ok (.invokevirtual 71, 3) := by decide +kernel
theorem d_DS_name_55 : decode b_DS_name 55 = .ok (.aload_n 0, 1) := by decide +kernel
theorem d_DS_name_56 : decode b_DS_name 56 = .ok (.invokevirtual 74, 3) := by decide +kernel
theorem d_DS_name_59 : decode b_DS_name 59 = .ok (.ireturn, 1) := by decide +kernel
theorem d_DS_hello_0 : decode b_DS_hello 0 = .ok (.iload_n 1, 1) := by decide +kernel
theorem d_DS_hello_1 : decode b_DS_hello 1 = .ok (.invokestatic 62, 3) := by decide +kernel
theorem d_DS_hello_4 : decode b_DS_hello 4 = .ok (.aload_n 0, 1) := by decide +kernel
theorem d_DS_hello_5 : decode b_DS_hello 5 = .ok (.iconst 5, 1) := by decide +kernel
theorem d_DS_hello_6 : decode b_DS_hello 6 = .ok (.invokevirtual 65, 3) := by decide +kernel
theorem d_DS_hello_9 : decode b_DS_hello 9 = .ok (.aload_n 0, 1) := by decide +kernel
theorem d_DS_hello_10 : decode b_DS_hello 10 = .ok (.getfield 14, 3) := by decide +kernel
theorem d_DS_hello_13 : decode b_DS_hello 13 = .ok (.iconst 2, 1) := by decide +kernel
theorem d_DS_hello_14 : decode b_DS_hello 14 = .ok (.iload_n 1, 1) := by decide +kernel
theorem d_DS_hello_15 : decode b_DS_hello 15 = .ok (.iconst 5, 1) := by decide +kernel
theorem d_DS_hello_16 : decode b_DS_hello 16 = .ok (.invokevirtual 101, 3) := by decide +kernel
theorem d_DS_hello_19 : decode b_DS_hello 19 = .ok (.aload_n 0, 1) := by decide +kernel
theorem d_DS_hello_20 : decode b_DS_hello 20 = .ok (.getfield 14, 3) := by decide +kernel
theorem d_DS_hello_23 : decode b_DS_hello 23 = .ok (.iconst 1, 1) := by decide +kernel
theorem d_DS_hello_24 : decode b_DS_hello 24 = .ok (.invokevirtual 71, 3) := by decide +kernel
theorem d_DS_hello_27 : decode b_DS_hello 27 = .ok (.aload_n 0, 1) := by decide +kernel
theorem d_DS_hello_28 : decode b_DS_hello 28 = .ok (.invokevirtual 74, 3) := by decide +kernel
theorem d_DS_hello_31 : decode b_DS_hello 31 = .ok (.ireturn, 1) := by decide +kernel
set_option maxHeartbeats 4000000 in
set_option maxRecDepth 100000 in
/-- requireWithin, within -/
theorem c_requireWithin (l : Launch) (dC : Nat → ClassId) (dI : Nat → Nat → Nat) (cT : Nat → ClassId) (sz : Nat) (v : Int32) (a : Int32) (z : Int32) (h1 : ¬ v < a) (h2 : ¬ z < v) : Met l y_DS_requireWithin (Cond.code y_DS_requireWithin b_DS_requireWithin 3 (Option.none : Option Jvm.ClassFile.FieldType) :: BIG) ({ frames := 0, cells := 0, slots := 0, locals := 0 }) (va_Pc [.int v, .int a, .int z] (fun U => U.heap.size = sz ∧ va_P (dC, dI) vcl [] U.heap ∧ va_K (dC, dI) vcl (tyL cT) U ∧ va_D (fun _ => True) [])) (va_Qv (S := Unit) (fun u => True) (fun u t => va_P (dC, dI) vcl [] t.heap ∧ va_K (dC, dI) vcl (tyL cT) t ∧ va_D (va_A [] sz) []) (va_A [] sz)) 0 0 (va_A [] sz) := by
  refine Met.ofW (cc := b_DS_requireWithin) (maxL := 3) (ret := (Option.none : Option Jvm.ClassFile.FieldType)) (by decide) rfl ?_
  intro p e s m args below meth c s₁ B hml hv
  obtain ⟨hargs, hsz, hP, hK, hD0⟩ := hv
  have hx := B.exec
  have hb := B.bytes
  have hr := B.returns
  have hts := atoms_spec (ws := (Cond.code y_DS_requireWithin b_DS_requireWithin 3 (Option.none : Option Jvm.ClassFile.FieldType) :: BIG)) B.pre
  have hg : ∀ w ∈ BIG, w.before _ s = true := fun w h => hts w (List.mem_cons_of_mem _ h)
  have hown : s.vm.findClass "DoorServer" = some m.cls := findClass_of_methodNamed B.named
  have hlocks := B.notSynchronized
  subst hsz
  have hD := hD0.self (sz := s.heap.size)
  generalize hAe : va_A [] s.heap.size = A at hD ⊢
  have hA : ∀ q : Nat, s.heap.size ≤ q → A q := fun q h => by rw [← hAe]; exact Or.inr h
  have hS : va_S A s.heap s.heap [] := va_S.rf
  have hl := lv_entry ([.int v, .int a, .int z]) (n := 3) (Nat.le_of_ble_eq_true rfl)
  refine W.eq (g2 := entryFrame m (List.toArray [.int v, .int a, .int z]) 3) (by rw [hargs]) ?_
  rw [lg_entry_eq]
  generalize (lg_sl ([.int v, .int a, .int z]) ++ List.replicate (3 - (lg_sl ([.int v, .int a, .int z])).length) Slot.unset).toArray = ls at hl ⊢
  have hl : lv_has ls 3 [(0, .int v), (1, .int a), (2, .int z)] := hl
  change W p l e ({ frames := 0, cells := 0, slots := 0, locals := 0 } : Room) s m args below meth c s.heap [] 0 0 _ _
  have hP : va_P (dC, dI) vcl [] s.heap := hP
  refine lv_iload_n hx hb d_DS_requireWithin_0 rfl (lv_at hl 0 rfl) ?_
  refine lv_iload_n hx hb d_DS_requireWithin_1 rfl (lv_at hl 1 rfl) ?_
  refine lv_icmp_lt (tgt := 10) hx hb d_DS_requireWithin_2 (by decide) (fun hn9 => absurd hn9 (h1)) (fun hc1 => ?_)
  refine lv_iload_n hx hb d_DS_requireWithin_5 rfl (lv_at hl 0 rfl) ?_
  refine lv_iload_n hx hb d_DS_requireWithin_6 rfl (lv_at hl 2 rfl) ?_
  refine lv_icmp_le (tgt := 18) hx hb d_DS_requireWithin_7 (by decide) (fun hc2 => ?_) (fun hn9 => absurd (Int32.not_lt.mp h2) hn9)
  have hP9 := hP.sub (ws' := []) [] rfl
  have hD9 := hD.sub (ws' := []) [] (by decide) rfl
  exact W.vret hx hb hr (fun t ht hW => ⟨⟨(), rfl, trivial, by rw [ht]; exact hP9, va_K.moved hW.alike hK, hD9⟩, hS.F ht⟩) hS.2.2 d_DS_requireWithin_18
set_option maxHeartbeats 4000000 in
set_option maxRecDepth 100000 in
/-- requireByte -/
theorem c_requireByte (l : Launch) (dC : Nat → ClassId) (dI : Nat → Nat → Nat) (cT : Nat → ClassId) (sz : Nat) (v : Int32) (h1 : ¬ v < 0) (h2 : ¬ 255 < v) : Met l y_DS_requireByte (Cond.code y_DS_requireByte b_DS_requireByte 1 (Option.none : Option Jvm.ClassFile.FieldType) :: BIG) ({ frames := 1, cells := 0, slots := 0, locals := 22 }) (va_Pc [.int v] (fun U => U.heap.size = sz ∧ va_P (dC, dI) vcl [] U.heap ∧ va_K (dC, dI) vcl (tyL cT) U ∧ va_D (fun _ => True) [])) (va_Qv (S := Unit) (fun u => True) (fun u t => va_P (dC, dI) vcl [] t.heap ∧ va_K (dC, dI) vcl (tyL cT) t ∧ va_D (va_A [] sz) []) (va_A [] sz)) 0 0 (va_A [] sz) := by
  refine Met.ofW (cc := b_DS_requireByte) (maxL := 1) (ret := (Option.none : Option Jvm.ClassFile.FieldType)) (by decide) rfl ?_
  intro p e s m args below meth c s₁ B hml hv
  obtain ⟨hargs, hsz, hP, hK, hD0⟩ := hv
  have hx := B.exec
  have hb := B.bytes
  have hr := B.returns
  have hts := atoms_spec (ws := (Cond.code y_DS_requireByte b_DS_requireByte 1 (Option.none : Option Jvm.ClassFile.FieldType) :: BIG)) B.pre
  have hg : ∀ w ∈ BIG, w.before _ s = true := fun w h => hts w (List.mem_cons_of_mem _ h)
  have hown : s.vm.findClass "DoorServer" = some m.cls := findClass_of_methodNamed B.named
  have hlocks := B.notSynchronized
  subst hsz
  have hD := hD0.self (sz := s.heap.size)
  generalize hAe : va_A [] s.heap.size = A at hD ⊢
  have hA : ∀ q : Nat, s.heap.size ≤ q → A q := fun q h => by rw [← hAe]; exact Or.inr h
  have hS : va_S A s.heap s.heap [] := va_S.rf
  have hl := lv_entry ([.int v]) (n := 1) (Nat.le_of_ble_eq_true rfl)
  refine W.eq (g2 := entryFrame m (List.toArray [.int v]) 1) (by rw [hargs]) ?_
  rw [lg_entry_eq]
  generalize (lg_sl ([.int v]) ++ List.replicate (1 - (lg_sl ([.int v])).length) Slot.unset).toArray = ls at hl ⊢
  have hl : lv_has ls 1 [(0, .int v)] := hl
  change W p l e ({ frames := 1, cells := 0, slots := 0, locals := 22 } : Room) s m args below meth c s.heap [] 0 0 _ _
  have hP : va_P (dC, dI) vcl [] s.heap := hP
  refine lv_iload_n hx hb d_DS_requireByte_0 rfl (lv_at hl 0 rfl) ?_
  refine lv_iconst (v := 0) hx hb d_DS_requireByte_1 (by decide) ?_
  refine lv_sipush (v := 255) hx hb d_DS_requireByte_2 (by decide) ?_
  have hPc := hP.sub (ws' := []) [] rfl
  have hDc := hD.sub (ws' := []) [] (by decide) rfl
  have hFc := va_free (wc := []) hD hS hA [] rfl
  refine va_callv (va_runS (As := [.int v, .int 0, .int 255]) (rest := []) ⟨hx, hb, hml, hown, hg⟩ (c_requireWithin l dC dI cT s.heap.size v 0 255 (h1) (h2)) (va_cwS 3 hg (gI (List.forall_mem_append.mpr ⟨List.forall_mem_cons.mpr ⟨k_390, List.forall_mem_cons.mpr ⟨k_391, List.forall_mem_cons.mpr ⟨k_1, fun _ h => absurd h List.not_mem_nil⟩⟩⟩, List.forall_mem_cons.mpr ⟨k_392, fun _ h => h⟩⟩)) rfl rfl rfl (by decide +kernel) ⟨Nat.le_of_ble_eq_true rfl, Nat.le_of_ble_eq_true rfl⟩) ⟨fun a U g mk q => by obtain ⟨q0, q1, qP, qK, qD⟩ := q; exact ⟨q0, q1, qP, va_K.moved (u := U) (U := U.calling g mk a) (Vm.Alike.refl U.vm) qK, qD⟩, fun U hU hW => ⟨rfl, by rw [hU], by rw [hU]; exact hPc, va_K.moved hW.alike hK, hDc.weaken (fun _ _ _ _ => trivial)⟩⟩ rfl rfl hl.1 rfl (lv_room (Nat.le_of_ble_eq_true rfl)) d_DS_requireByte_5 ⟨Nat.le_of_ble_eq_true rfl, Nat.le_of_ble_eq_true rfl⟩) hS (fun q _ h => hFc q h) hFc (fun u t H1 locs ht hvm hw hB hz1 hk1 hS => ?_)
  try dsimp only at hw hB
  obtain ⟨hP1, hK1, hD1⟩ := hB
  rw [ht] at hP1
  obtain ⟨hP, hD⟩ := va_join (wr := []) (w1 := []) hP hD [] [] rfl rfl (by decide) (by decide) hk1 hFc hP1 hD1
  have hw3 := hw
  clear hPc hDc hFc hz1 hk1 hP1 hK1 hD1
  generalize H1 = H at hP hS ⊢
  have hP : va_P (dC, dI) vcl [] H := hP
  have hD : va_D A [] := hD
  have hP9 := hP.sub (ws' := []) [] rfl
  have hD9 := hD.sub (ws' := []) [] (by decide) rfl
  exact W.vret hx hb hr (fun t ht hW => ⟨⟨(), rfl, trivial, by rw [ht]; exact hP9, va_K.moved hW.alike hK, hD9⟩, hS.F ht⟩) hS.2.2 d_DS_requireByte_8
set_option maxHeartbeats 4000000 in
set_option maxRecDepth 100000 in
/-- requireStation -/
theorem c_requireStation (l : Launch) (dC : Nat → ClassId) (dI : Nat → Nat → Nat) (cT : Nat → ClassId) (sz : Nat) (v : Int32) (h1 : ¬ v < 0) (h2 : ¬ 3 < v) : Met l y_DS_requireStation (Cond.code y_DS_requireStation b_DS_requireStation 1 (Option.none : Option Jvm.ClassFile.FieldType) :: BIG) ({ frames := 1, cells := 0, slots := 0, locals := 22 }) (va_Pc [.int v] (fun U => U.heap.size = sz ∧ va_P (dC, dI) vcl [] U.heap ∧ va_K (dC, dI) vcl (tyL cT) U ∧ va_D (fun _ => True) [])) (va_Qv (S := Unit) (fun u => True) (fun u t => va_P (dC, dI) vcl [] t.heap ∧ va_K (dC, dI) vcl (tyL cT) t ∧ va_D (va_A [] sz) []) (va_A [] sz)) 0 0 (va_A [] sz) := by
  refine Met.ofW (cc := b_DS_requireStation) (maxL := 1) (ret := (Option.none : Option Jvm.ClassFile.FieldType)) (by decide) rfl ?_
  intro p e s m args below meth c s₁ B hml hv
  obtain ⟨hargs, hsz, hP, hK, hD0⟩ := hv
  have hx := B.exec
  have hb := B.bytes
  have hr := B.returns
  have hts := atoms_spec (ws := (Cond.code y_DS_requireStation b_DS_requireStation 1 (Option.none : Option Jvm.ClassFile.FieldType) :: BIG)) B.pre
  have hg : ∀ w ∈ BIG, w.before _ s = true := fun w h => hts w (List.mem_cons_of_mem _ h)
  have hown : s.vm.findClass "DoorServer" = some m.cls := findClass_of_methodNamed B.named
  have hlocks := B.notSynchronized
  subst hsz
  have hD := hD0.self (sz := s.heap.size)
  generalize hAe : va_A [] s.heap.size = A at hD ⊢
  have hA : ∀ q : Nat, s.heap.size ≤ q → A q := fun q h => by rw [← hAe]; exact Or.inr h
  have hS : va_S A s.heap s.heap [] := va_S.rf
  have hl := lv_entry ([.int v]) (n := 1) (Nat.le_of_ble_eq_true rfl)
  refine W.eq (g2 := entryFrame m (List.toArray [.int v]) 1) (by rw [hargs]) ?_
  rw [lg_entry_eq]
  generalize (lg_sl ([.int v]) ++ List.replicate (1 - (lg_sl ([.int v])).length) Slot.unset).toArray = ls at hl ⊢
  have hl : lv_has ls 1 [(0, .int v)] := hl
  change W p l e ({ frames := 1, cells := 0, slots := 0, locals := 22 } : Room) s m args below meth c s.heap [] 0 0 _ _
  have hP : va_P (dC, dI) vcl [] s.heap := hP
  refine lv_iload_n hx hb d_DS_requireStation_0 rfl (lv_at hl 0 rfl) ?_
  refine lv_iconst (v := 0) hx hb d_DS_requireStation_1 (by decide) ?_
  refine lv_iconst (v := 3) hx hb d_DS_requireStation_2 (by decide) ?_
  have hPc := hP.sub (ws' := []) [] rfl
  have hDc := hD.sub (ws' := []) [] (by decide) rfl
  have hFc := va_free (wc := []) hD hS hA [] rfl
  refine va_callv (va_runS (As := [.int v, .int 0, .int 3]) (rest := []) ⟨hx, hb, hml, hown, hg⟩ (c_requireWithin l dC dI cT s.heap.size v 0 3 (h1) (h2)) (va_cwS 3 hg (gI (List.forall_mem_append.mpr ⟨List.forall_mem_cons.mpr ⟨k_390, List.forall_mem_cons.mpr ⟨k_391, List.forall_mem_cons.mpr ⟨k_1, fun _ h => absurd h List.not_mem_nil⟩⟩⟩, List.forall_mem_cons.mpr ⟨k_392, fun _ h => h⟩⟩)) rfl rfl rfl (by decide +kernel) ⟨Nat.le_of_ble_eq_true rfl, Nat.le_of_ble_eq_true rfl⟩) ⟨fun a U g mk q => by obtain ⟨q0, q1, qP, qK, qD⟩ := q; exact ⟨q0, q1, qP, va_K.moved (u := U) (U := U.calling g mk a) (Vm.Alike.refl U.vm) qK, qD⟩, fun U hU hW => ⟨rfl, by rw [hU], by rw [hU]; exact hPc, va_K.moved hW.alike hK, hDc.weaken (fun _ _ _ _ => trivial)⟩⟩ rfl rfl hl.1 rfl (lv_room (Nat.le_of_ble_eq_true rfl)) d_DS_requireStation_3 ⟨Nat.le_of_ble_eq_true rfl, Nat.le_of_ble_eq_true rfl⟩) hS (fun q _ h => hFc q h) hFc (fun u t H1 locs ht hvm hw hB hz1 hk1 hS => ?_)
  try dsimp only at hw hB
  obtain ⟨hP1, hK1, hD1⟩ := hB
  rw [ht] at hP1
  obtain ⟨hP, hD⟩ := va_join (wr := []) (w1 := []) hP hD [] [] rfl rfl (by decide) (by decide) hk1 hFc hP1 hD1
  have hw4 := hw
  clear hPc hDc hFc hz1 hk1 hP1 hK1 hD1
  generalize H1 = H at hP hS ⊢
  have hP : va_P (dC, dI) vcl [] H := hP
  have hD : va_D A [] := hD
  have hP9 := hP.sub (ws' := []) [] rfl
  have hD9 := hD.sub (ws' := []) [] (by decide) rfl
  exact W.vret hx hb hr (fun t ht hW => ⟨⟨(), rfl, trivial, by rw [ht]; exact hP9, va_K.moved hW.alike hK, hD9⟩, hS.F ht⟩) hS.2.2 d_DS_requireStation_6
set_option maxHeartbeats 4000000 in
set_option maxRecDepth 100000 in
/-- requireUser -/
theorem c_requireUser (l : Launch) (dC : Nat → ClassId) (dI : Nat → Nat → Nat) (cT : Nat → ClassId) (sz : Nat) (v : Int32) (h1 : ¬ v < 0) (h2 : ¬ 31 < v) : Met l y_DS_requireUser (Cond.code y_DS_requireUser b_DS_requireUser 1 (Option.none : Option Jvm.ClassFile.FieldType) :: BIG) ({ frames := 1, cells := 0, slots := 0, locals := 22 }) (va_Pc [.int v] (fun U => U.heap.size = sz ∧ va_P (dC, dI) vcl [] U.heap ∧ va_K (dC, dI) vcl (tyL cT) U ∧ va_D (fun _ => True) [])) (va_Qv (S := Unit) (fun u => True) (fun u t => va_P (dC, dI) vcl [] t.heap ∧ va_K (dC, dI) vcl (tyL cT) t ∧ va_D (va_A [] sz) []) (va_A [] sz)) 0 0 (va_A [] sz) := by
  refine Met.ofW (cc := b_DS_requireUser) (maxL := 1) (ret := (Option.none : Option Jvm.ClassFile.FieldType)) (by decide) rfl ?_
  intro p e s m args below meth c s₁ B hml hv
  obtain ⟨hargs, hsz, hP, hK, hD0⟩ := hv
  have hx := B.exec
  have hb := B.bytes
  have hr := B.returns
  have hts := atoms_spec (ws := (Cond.code y_DS_requireUser b_DS_requireUser 1 (Option.none : Option Jvm.ClassFile.FieldType) :: BIG)) B.pre
  have hg : ∀ w ∈ BIG, w.before _ s = true := fun w h => hts w (List.mem_cons_of_mem _ h)
  have hown : s.vm.findClass "DoorServer" = some m.cls := findClass_of_methodNamed B.named
  have hlocks := B.notSynchronized
  subst hsz
  have hD := hD0.self (sz := s.heap.size)
  generalize hAe : va_A [] s.heap.size = A at hD ⊢
  have hA : ∀ q : Nat, s.heap.size ≤ q → A q := fun q h => by rw [← hAe]; exact Or.inr h
  have hS : va_S A s.heap s.heap [] := va_S.rf
  have hl := lv_entry ([.int v]) (n := 1) (Nat.le_of_ble_eq_true rfl)
  refine W.eq (g2 := entryFrame m (List.toArray [.int v]) 1) (by rw [hargs]) ?_
  rw [lg_entry_eq]
  generalize (lg_sl ([.int v]) ++ List.replicate (1 - (lg_sl ([.int v])).length) Slot.unset).toArray = ls at hl ⊢
  have hl : lv_has ls 1 [(0, .int v)] := hl
  change W p l e ({ frames := 1, cells := 0, slots := 0, locals := 22 } : Room) s m args below meth c s.heap [] 0 0 _ _
  have hP : va_P (dC, dI) vcl [] s.heap := hP
  refine lv_iload_n hx hb d_DS_requireUser_0 rfl (lv_at hl 0 rfl) ?_
  refine lv_iconst (v := 0) hx hb d_DS_requireUser_1 (by decide) ?_
  refine lv_bipush (v := 31) hx hb d_DS_requireUser_2 (by decide) ?_
  have hPc := hP.sub (ws' := []) [] rfl
  have hDc := hD.sub (ws' := []) [] (by decide) rfl
  have hFc := va_free (wc := []) hD hS hA [] rfl
  refine va_callv (va_runS (As := [.int v, .int 0, .int 31]) (rest := []) ⟨hx, hb, hml, hown, hg⟩ (c_requireWithin l dC dI cT s.heap.size v 0 31 (h1) (h2)) (va_cwS 3 hg (gI (List.forall_mem_append.mpr ⟨List.forall_mem_cons.mpr ⟨k_390, List.forall_mem_cons.mpr ⟨k_391, List.forall_mem_cons.mpr ⟨k_1, fun _ h => absurd h List.not_mem_nil⟩⟩⟩, List.forall_mem_cons.mpr ⟨k_392, fun _ h => h⟩⟩)) rfl rfl rfl (by decide +kernel) ⟨Nat.le_of_ble_eq_true rfl, Nat.le_of_ble_eq_true rfl⟩) ⟨fun a U g mk q => by obtain ⟨q0, q1, qP, qK, qD⟩ := q; exact ⟨q0, q1, qP, va_K.moved (u := U) (U := U.calling g mk a) (Vm.Alike.refl U.vm) qK, qD⟩, fun U hU hW => ⟨rfl, by rw [hU], by rw [hU]; exact hPc, va_K.moved hW.alike hK, hDc.weaken (fun _ _ _ _ => trivial)⟩⟩ rfl rfl hl.1 rfl (lv_room (Nat.le_of_ble_eq_true rfl)) d_DS_requireUser_4 ⟨Nat.le_of_ble_eq_true rfl, Nat.le_of_ble_eq_true rfl⟩) hS (fun q _ h => hFc q h) hFc (fun u t H1 locs ht hvm hw hB hz1 hk1 hS => ?_)
  try dsimp only at hw hB
  obtain ⟨hP1, hK1, hD1⟩ := hB
  rw [ht] at hP1
  obtain ⟨hP, hD⟩ := va_join (wr := []) (w1 := []) hP hD [] [] rfl rfl (by decide) (by decide) hk1 hFc hP1 hD1
  have hw5 := hw
  clear hPc hDc hFc hz1 hk1 hP1 hK1 hD1
  generalize H1 = H at hP hS ⊢
  have hP : va_P (dC, dI) vcl [] H := hP
  have hD : va_D A [] := hD
  have hP9 := hP.sub (ws' := []) [] rfl
  have hD9 := hD.sub (ws' := []) [] (by decide) rfl
  exact W.vret hx hb hr (fun t ht hW => ⟨⟨(), rfl, trivial, by rw [ht]; exact hP9, va_K.moved hW.alike hK, hD9⟩, hS.F ht⟩) hS.2.2 d_DS_requireUser_7
set_option maxHeartbeats 4000000 in
set_option maxRecDepth 100000 in
/-- requireRoom, with room -/
theorem c_room (l : Launch) (dC : Nat → ClassId) (dI : Nat → Nat → Nat) (cT : Nat → ClassId) (sz : Nat) (ds : Nat) (dr : Nat) (sv : Nat) (rr : Nat) (len : Nat) (f : Nat → Int32) (k : Nat) (hk : len + 2 + k ≤ 1000) : Met l y_DS_requireRoom (Cond.code y_DS_requireRoom b_DS_requireRoom 2 (Option.none : Option Jvm.ClassFile.FieldType) :: BIG) ({ frames := 0, cells := 0, slots := 0, locals := 0 }) (va_Pc [.ref ds, .int (nI k)] (fun U => U.heap.size = sz ∧ va_P (dC, dI) vcl [(ds, .inr (0, [.ref dr, .ref sv])), (dr, .inr (2, [.ref rr, .int (nI len)])), (rr, .inl ((cT 0), 1000, .inl f))] U.heap ∧ va_K (dC, dI) vcl (tyL cT) U ∧ va_D (fun _ => True) [(ds, .inr (0, [.ref dr, .ref sv])), (dr, .inr (2, [.ref rr, .int (nI len)])), (rr, .inl ((cT 0), 1000, .inl f))])) (va_Qv (S := Unit) (fun u => True) (fun u t => va_P (dC, dI) vcl [(ds, .inr (0, [.ref dr, .ref sv])), (dr, .inr (2, [.ref rr, .int (nI len)])), (rr, .inl ((cT 0), 1000, .inl f))] t.heap ∧ va_K (dC, dI) vcl (tyL cT) t ∧ va_D (va_A [(ds, .inr (0, [.ref dr, .ref sv])), (dr, .inr (2, [.ref rr, .int (nI len)])), (rr, .inl ((cT 0), 1000, .inl f))] sz) [(ds, .inr (0, [.ref dr, .ref sv])), (dr, .inr (2, [.ref rr, .int (nI len)])), (rr, .inl ((cT 0), 1000, .inl f))]) (va_A [(ds, .inr (0, [.ref dr, .ref sv])), (dr, .inr (2, [.ref rr, .int (nI len)])), (rr, .inl ((cT 0), 1000, .inl f))] sz)) 0 0 (va_A [(ds, .inr (0, [.ref dr, .ref sv])), (dr, .inr (2, [.ref rr, .int (nI len)])), (rr, .inl ((cT 0), 1000, .inl f))] sz) := by
  refine Met.ofW (cc := b_DS_requireRoom) (maxL := 2) (ret := (Option.none : Option Jvm.ClassFile.FieldType)) (by decide) rfl ?_
  intro p e s m args below meth c s₁ B hml hv
  obtain ⟨hargs, hsz, hP, hK, hD0⟩ := hv
  have hx := B.exec
  have hb := B.bytes
  have hr := B.returns
  have hts := atoms_spec (ws := (Cond.code y_DS_requireRoom b_DS_requireRoom 2 (Option.none : Option Jvm.ClassFile.FieldType) :: BIG)) B.pre
  have hg : ∀ w ∈ BIG, w.before _ s = true := fun w h => hts w (List.mem_cons_of_mem _ h)
  have hown : s.vm.findClass "DoorServer" = some m.cls := findClass_of_methodNamed B.named
  have hlocks := B.notSynchronized
  subst hsz
  have hD := hD0.self (sz := s.heap.size)
  generalize hAe : va_A [(ds, .inr (0, [.ref dr, .ref sv])), (dr, .inr (2, [.ref rr, .int (nI len)])), (rr, .inl ((cT 0), 1000, .inl f))] s.heap.size = A at hD ⊢
  have hA : ∀ q : Nat, s.heap.size ≤ q → A q := fun q h => by rw [← hAe]; exact Or.inr h
  have hS : va_S A s.heap s.heap [] := va_S.rf
  have hl := lv_entry ([.ref ds, .int (nI k)]) (n := 2) (Nat.le_of_ble_eq_true rfl)
  refine W.eq (g2 := entryFrame m (List.toArray [.ref ds, .int (nI k)]) 2) (by rw [hargs]) ?_
  rw [lg_entry_eq]
  generalize (lg_sl ([.ref ds, .int (nI k)]) ++ List.replicate (2 - (lg_sl ([.ref ds, .int (nI k)])).length) Slot.unset).toArray = ls at hl ⊢
  have hl : lv_has ls 2 [(0, .ref ds), (1, .int (nI k))] := hl
  change W p l e ({ frames := 0, cells := 0, slots := 0, locals := 0 } : Room) s m args below meth c s.heap [] 0 0 _ _
  have hP : va_P (dC, dI) vcl [(ds, .inr (0, [.ref dr, .ref sv])), (dr, .inr (2, [.ref rr, .int (nI len)])), (rr, .inl ((cT 0), 1000, .inl f))] s.heap := hP
  refine lv_aload_n hx hb d_DS_requireRoom_0 rfl (lv_at hl 0 rfl) ?_
  refine va_get (D := (dC, dI)) (ci := 0) (v := (.ref dr)) (C := R_DS) (T := F_DS) (N := 2) hx hb hg in_DS hown hK hP 0 rfl rfl 0 (by decide) (hg _ k_368) (fun _ h9 => h9) rfl d_DS_requireRoom_1 ?_
  refine va_get (D := (dC, dI)) (ci := 2) (v := (.int (nI len))) (C := R_Pk) (T := F_Pk) (N := 2) hx hb hg in_Pk hown hK hP 1 rfl rfl 1 (by decide) (hg _ k_59) (fun x9 h9 => u_same (hg _ k_53) x9 h9) rfl d_DS_requireRoom_4 ?_
  refine lv_iconst (v := 2) hx hb d_DS_requireRoom_7 (by decide) ?_
  refine lv_iadd hx hb d_DS_requireRoom_8 ?_
  refine lv_topi (fun x7 e6 => ?_)
  obtain rfl : x7 = nI (len + 2) := by rw [e6]; exact nI_add len 2
  refine lv_iload_n hx hb d_DS_requireRoom_9 rfl (lv_at hl 1 rfl) ?_
  refine lv_iadd hx hb d_DS_requireRoom_10 ?_
  refine lv_topi (fun x9 e8 => ?_)
  obtain rfl : x9 = nI (len + 2 + k) := by rw [e8]; exact nI_add _ k
  refine lv_sipush (v := 1000) hx hb d_DS_requireRoom_11 (by decide) ?_
  refine lv_icmp_le (tgt := 25) hx hb d_DS_requireRoom_14 (by decide) (fun hc10 => ?_) (fun hn9 => absurd (nI_le (b := 1000) hk (by decide)) hn9)
  have hP9 := hP.sub (ws' := [(ds, .inr (0, [.ref dr, .ref sv])), (dr, .inr (2, [.ref rr, .int (nI len)])), (rr, .inl ((cT 0), 1000, .inl f))]) [0, 1, 2] rfl
  have hD9 := hD.sub (ws' := [(ds, .inr (0, [.ref dr, .ref sv])), (dr, .inr (2, [.ref rr, .int (nI len)])), (rr, .inl ((cT 0), 1000, .inl f))]) [0, 1, 2] (by decide) rfl
  exact W.vret hx hb hr (fun t ht hW => ⟨⟨(), rfl, trivial, by rw [ht]; exact hP9, va_K.moved hW.alike hK, hD9⟩, hS.F ht⟩) hS.2.2 d_DS_requireRoom_25
set_option maxHeartbeats 4000000 in
set_option maxRecDepth 100000 in
/-- closedDraft -/
theorem c_closed (l : Launch) (dC : Nat → ClassId) (dI : Nat → Nat → Nat) (cT : Nat → ClassId) (sz : Nat) (ds : Nat) (dr : Nat) (sv : Nat) (rr : Nat) (len : Nat) (f : Nat → Int32) (hk : len ≤ 1000) : Met l y_DS_closedDraft (Cond.code y_DS_closedDraft b_DS_closedDraft 1 (Option.some Jvm.ClassFile.FieldType.int) :: BIG) ({ frames := 1, cells := 0, slots := 0, locals := 20 }) (va_Pc [.ref ds] (fun U => U.heap.size = sz ∧ va_P (dC, dI) vcl [(ds, .inr (0, [.ref dr, .ref sv])), (dr, .inr (2, [.ref rr, .int (nI len)])), (rr, .inl ((cT 0), 1000, .inl f))] U.heap ∧ va_K (dC, dI) vcl (tyL cT) U ∧ va_D (fun _ => True) [(ds, .inr (0, [.ref dr, .ref sv])), (dr, .inr (2, [.ref rr, .int (nI len)])), (rr, .inl ((cT 0), 1000, .inl f))])) (va_Qi (S := Unit) (fun rv9 u => rv9 = nI len ∧ (True)) (fun u t => va_P (dC, dI) vcl [(ds, .inr (0, [.ref dr, .ref sv])), (dr, .inr (2, [.ref rr, .int (nI len)])), (rr, .inl ((cT 0), 1000, .inl (upd (upd f 2 (nI len >>> (8 &&& 31))) 3 (nI len &&& 255))))] t.heap ∧ va_K (dC, dI) vcl (tyL cT) t ∧ va_D (va_A [(ds, .inr (0, [.ref dr, .ref sv])), (dr, .inr (2, [.ref rr, .int (nI len)])), (rr, .inl ((cT 0), 1000, .inl f))] sz) [(ds, .inr (0, [.ref dr, .ref sv])), (dr, .inr (2, [.ref rr, .int (nI len)])), (rr, .inl ((cT 0), 1000, .inl (upd (upd f 2 (nI len >>> (8 &&& 31))) 3 (nI len &&& 255))))]) (va_A [(ds, .inr (0, [.ref dr, .ref sv])), (dr, .inr (2, [.ref rr, .int (nI len)])), (rr, .inl ((cT 0), 1000, .inl f))] sz)) 0 0 (va_A [(ds, .inr (0, [.ref dr, .ref sv])), (dr, .inr (2, [.ref rr, .int (nI len)])), (rr, .inl ((cT 0), 1000, .inl f))] sz) := by
  refine Met.ofW (cc := b_DS_closedDraft) (maxL := 1) (ret := (Option.some Jvm.ClassFile.FieldType.int)) (by decide) rfl ?_
  intro p e s m args below meth c s₁ B hml hv
  obtain ⟨hargs, hsz, hP, hK, hD0⟩ := hv
  have hx := B.exec
  have hb := B.bytes
  have hr := B.returns
  have hts := atoms_spec (ws := (Cond.code y_DS_closedDraft b_DS_closedDraft 1 (Option.some Jvm.ClassFile.FieldType.int) :: BIG)) B.pre
  have hg : ∀ w ∈ BIG, w.before _ s = true := fun w h => hts w (List.mem_cons_of_mem _ h)
  have hown : s.vm.findClass "DoorServer" = some m.cls := findClass_of_methodNamed B.named
  have hlocks := B.notSynchronized
  subst hsz
  have hD := hD0.self (sz := s.heap.size)
  generalize hAe : va_A [(ds, .inr (0, [.ref dr, .ref sv])), (dr, .inr (2, [.ref rr, .int (nI len)])), (rr, .inl ((cT 0), 1000, .inl f))] s.heap.size = A at hD ⊢
  have hA : ∀ q : Nat, s.heap.size ≤ q → A q := fun q h => by rw [← hAe]; exact Or.inr h
  have hS : va_S A s.heap s.heap [] := va_S.rf
  have hl := lv_entry ([.ref ds]) (n := 1) (Nat.le_of_ble_eq_true rfl)
  refine W.eq (g2 := entryFrame m (List.toArray [.ref ds]) 1) (by rw [hargs]) ?_
  rw [lg_entry_eq]
  generalize (lg_sl ([.ref ds]) ++ List.replicate (1 - (lg_sl ([.ref ds])).length) Slot.unset).toArray = ls at hl ⊢
  have hl : lv_has ls 1 [(0, .ref ds)] := hl
  change W p l e ({ frames := 1, cells := 0, slots := 0, locals := 20 } : Room) s m args below meth c s.heap [] 0 0 _ _
  have hP : va_P (dC, dI) vcl [(ds, .inr (0, [.ref dr, .ref sv])), (dr, .inr (2, [.ref rr, .int (nI len)])), (rr, .inl ((cT 0), 1000, .inl f))] s.heap := hP
  refine lv_aload_n hx hb d_DS_closedDraft_0 rfl (lv_at hl 0 rfl) ?_
  refine va_get (D := (dC, dI)) (ci := 0) (v := (.ref dr)) (C := R_DS) (T := F_DS) (N := 2) hx hb hg in_DS hown hK hP 0 rfl rfl 0 (by decide) (hg _ k_368) (fun _ h9 => h9) rfl d_DS_closedDraft_1 ?_
  have hPc := hP.sub (ws' := [(dr, .inr (2, [.ref rr, .int (nI len)])), (rr, .inl ((cT 0), 1000, .inl f))]) [1, 2] rfl
  have hDc := hD.sub (ws' := [(dr, .inr (2, [.ref rr, .int (nI len)])), (rr, .inl ((cT 0), 1000, .inl f))]) [1, 2] (by decide) rfl
  have hFc := va_free (wc := [(dr, .inr (2, [.ref rr, .int (nI len)])), (rr, .inl ((cT 0), 1000, .inl f))]) hD hS hA [1, 2] rfl
  refine va_callv (va_runV (C := "DoorServer$Packet") (As := []) (rest := []) ⟨hx, hb, hml, hown, hg⟩ (c_Pk_tell l dC dI cT s.heap.size dr rr 1000 len f (by decide) (by decide)) (cwV 0 hg (gI (List.forall_mem_append.mpr ⟨List.forall_mem_cons.mpr ⟨k_528, List.forall_mem_cons.mpr ⟨k_529, List.forall_mem_cons.mpr ⟨k_530, List.forall_mem_cons.mpr ⟨k_3, fun _ h => absurd h List.not_mem_nil⟩⟩⟩⟩, List.forall_mem_cons.mpr ⟨k_531, fun _ h => h⟩⟩)) rfl rfl rfl (by decide +kernel) ⟨Nat.le_of_ble_eq_true rfl, Nat.le_of_ble_eq_true rfl⟩) ⟨fun a U g mk q => by obtain ⟨q0, q1, qP, qK, qD⟩ := q; exact ⟨q0, q1, qP, va_K.moved (u := U) (U := U.calling g mk a) (Vm.Alike.refl U.vm) qK, qD⟩, va_recv (q0 := 1) (ci := 2) hK hP rfl rfl, fun U hU hW => ⟨rfl, by rw [hU], by rw [hU]; exact hPc, va_K.moved hW.alike hK, hDc.weaken (fun _ _ _ _ => trivial)⟩⟩ rfl rfl hl.1 rfl (lv_room (Nat.le_of_ble_eq_true rfl)) d_DS_closedDraft_4 ⟨Nat.le_of_ble_eq_true rfl, Nat.le_of_ble_eq_true rfl⟩) hS (fun q _ h => hFc q h) hFc (fun u t H1 locs ht hvm hw hB hz1 hk1 hS => ?_)
  try dsimp only at hw hB
  obtain ⟨hP1, hK1, hD1⟩ := hB
  rw [ht] at hP1
  obtain ⟨hP, hD⟩ := va_join (wr := [(ds, .inr (0, [.ref dr, .ref sv]))]) (w1 := [(dr, .inr (2, [.ref rr, .int (nI len)])), (rr, .inl ((cT 0), 1000, .inl (upd (upd f 2 (nI len >>> (8 &&& 31))) 3 (nI len &&& 255))))]) hP hD [1, 2] [0] rfl rfl (by decide) (by decide) hk1 hFc hP1 hD1
  have hw11 := hw
  clear hPc hDc hFc hz1 hk1 hP1 hK1 hD1
  generalize H1 = H at hP hS ⊢
  have hP : va_P (dC, dI) vcl [(ds, .inr (0, [.ref dr, .ref sv])), (dr, .inr (2, [.ref rr, .int (nI len)])), (rr, .inl ((cT 0), 1000, .inl (upd (upd f 2 (nI len >>> (8 &&& 31))) 3 (nI len &&& 255))))] H := hP
  have hD : va_D A [(ds, .inr (0, [.ref dr, .ref sv])), (dr, .inr (2, [.ref rr, .int (nI len)])), (rr, .inl ((cT 0), 1000, .inl (upd (upd f 2 (nI len >>> (8 &&& 31))) 3 (nI len &&& 255))))] := hD
  refine lv_aload_n hx hb d_DS_closedDraft_7 rfl (lv_at hl 0 rfl) ?_
  refine va_get (D := (dC, dI)) (ci := 0) (v := (.ref dr)) (C := R_DS) (T := F_DS) (N := 2) hx hb hg in_DS hown hK hP 0 rfl rfl 0 (by decide) (hg _ k_368) (fun _ h9 => h9) rfl d_DS_closedDraft_8 ?_
  refine va_get (D := (dC, dI)) (ci := 2) (v := (.int (nI len))) (C := R_Pk) (T := F_Pk) (N := 2) hx hb hg in_Pk hown hK hP 1 rfl rfl 1 (by decide) (hg _ k_59) (fun x9 h9 => u_same (hg _ k_53) x9 h9) rfl d_DS_closedDraft_11 ?_
  have hP9 := hP.sub (ws' := [(ds, .inr (0, [.ref dr, .ref sv])), (dr, .inr (2, [.ref rr, .int (nI len)])), (rr, .inl ((cT 0), 1000, .inl (upd (upd f 2 (nI len >>> (8 &&& 31))) 3 (nI len &&& 255))))]) [0, 1, 2] rfl
  have hD9 := hD.sub (ws' := [(ds, .inr (0, [.ref dr, .ref sv])), (dr, .inr (2, [.ref rr, .int (nI len)])), (rr, .inl ((cT 0), 1000, .inl (upd (upd f 2 (nI len >>> (8 &&& 31))) 3 (nI len &&& 255))))]) [0, 1, 2] (by decide) rfl
  exact W.iret (v := nI len) hx hb hr (fun t ht hW => ⟨⟨_, (), rfl, ⟨rfl, trivial⟩, by rw [ht]; exact hP9, va_K.moved hW.alike hK, hD9⟩, hS.F ht⟩) hS.2.2 d_DS_closedDraft_14
set_option maxHeartbeats 4000000 in
set_option maxRecDepth 100000 in
/-- draft -/
theorem c_draft (l : Launch) (dC : Nat → ClassId) (dI : Nat → Nat → Nat) (cT : Nat → ClassId) (sz : Nat) (ds : Nat) (dr : Nat) (sv : Nat) (rr : Nat) (len : Nat) (f : Nat → Int32) (x : Int32) (y : Int32) (v : Int64) (hx1 : ¬ x < 0) (hx2 : ¬ 255 < x) (hy1 : ¬ y < 0) (hy2 : ¬ 255 < y) : Met l y_DS_draft (Cond.code y_DS_draft b_DS_draft 5 (Option.none : Option Jvm.ClassFile.FieldType) :: BIG) ({ frames := 3, cells := 0, slots := 0, locals := 70 }) (va_Pc [.ref ds, .int x, .int y, .long v] (fun U => U.heap.size = sz ∧ va_P (dC, dI) vcl [(ds, .inr (0, [.ref dr, .ref sv])), (dr, .inr (2, [.ref rr, .int (nI len)])), (rr, .inl ((cT 0), 1000, .inl f))] U.heap ∧ va_K (dC, dI) vcl (tyL cT) U ∧ va_D (fun _ => True) [(ds, .inr (0, [.ref dr, .ref sv])), (dr, .inr (2, [.ref rr, .int (nI len)])), (rr, .inl ((cT 0), 1000, .inl f))])) (va_Qv (S := (Nat → Int32)) (fun u => match u with | g => AB f → AB g) (fun u t => match u with | g => va_P (dC, dI) vcl [(ds, .inr (0, [.ref dr, .ref sv])), (dr, .inr (2, [.ref rr, .int (nI 20)])), (rr, .inl ((cT 0), 1000, .inl g))] t.heap ∧ va_K (dC, dI) vcl (tyL cT) t ∧ va_D (va_A [(ds, .inr (0, [.ref dr, .ref sv])), (dr, .inr (2, [.ref rr, .int (nI len)])), (rr, .inl ((cT 0), 1000, .inl f))] sz) [(ds, .inr (0, [.ref dr, .ref sv])), (dr, .inr (2, [.ref rr, .int (nI 20)])), (rr, .inl ((cT 0), 1000, .inl g))]) (va_A [(ds, .inr (0, [.ref dr, .ref sv])), (dr, .inr (2, [.ref rr, .int (nI len)])), (rr, .inl ((cT 0), 1000, .inl f))] sz)) 0 0 (va_A [(ds, .inr (0, [.ref dr, .ref sv])), (dr, .inr (2, [.ref rr, .int (nI len)])), (rr, .inl ((cT 0), 1000, .inl f))] sz) := by
  refine Met.ofW (cc := b_DS_draft) (maxL := 5) (ret := (Option.none : Option Jvm.ClassFile.FieldType)) (by decide) rfl ?_
  intro p e s m args below meth c s₁ B hml hv
  obtain ⟨hargs, hsz, hP, hK, hD0⟩ := hv
  have hx := B.exec
  have hb := B.bytes
  have hr := B.returns
  have hts := atoms_spec (ws := (Cond.code y_DS_draft b_DS_draft 5 (Option.none : Option Jvm.ClassFile.FieldType) :: BIG)) B.pre
  have hg : ∀ w ∈ BIG, w.before _ s = true := fun w h => hts w (List.mem_cons_of_mem _ h)
  have hown : s.vm.findClass "DoorServer" = some m.cls := findClass_of_methodNamed B.named
  have hlocks := B.notSynchronized
  subst hsz
  have hD := hD0.self (sz := s.heap.size)
  generalize hAe : va_A [(ds, .inr (0, [.ref dr, .ref sv])), (dr, .inr (2, [.ref rr, .int (nI len)])), (rr, .inl ((cT 0), 1000, .inl f))] s.heap.size = A at hD ⊢
  have hA : ∀ q : Nat, s.heap.size ≤ q → A q := fun q h => by rw [← hAe]; exact Or.inr h
  have hS : va_S A s.heap s.heap [] := va_S.rf
  have hl := lv_entry ([.ref ds, .int x, .int y, .long v]) (n := 5) (Nat.le_of_ble_eq_true rfl)
  refine W.eq (g2 := entryFrame m (List.toArray [.ref ds, .int x, .int y, .long v]) 5) (by rw [hargs]) ?_
  rw [lg_entry_eq]
  generalize (lg_sl ([.ref ds, .int x, .int y, .long v]) ++ List.replicate (5 - (lg_sl ([.ref ds, .int x, .int y, .long v])).length) Slot.unset).toArray = ls at hl ⊢
  have hl : lv_has ls 5 [(0, .ref ds), (1, .int x), (2, .int y), (3, .long v)] := hl
  change W p l e ({ frames := 3, cells := 0, slots := 0, locals := 70 } : Room) s m args below meth c s.heap [] 0 0 _ _
  have hP : va_P (dC, dI) vcl [(ds, .inr (0, [.ref dr, .ref sv])), (dr, .inr (2, [.ref rr, .int (nI len)])), (rr, .inl ((cT 0), 1000, .inl f))] s.heap := hP
  refine lv_iload_n hx hb d_DS_draft_0 rfl (lv_at hl 1 rfl) ?_
  have hPc := hP.sub (ws' := []) [] rfl
  have hDc := hD.sub (ws' := []) [] (by decide) rfl
  have hFc := va_free (wc := []) hD hS hA [] rfl
  refine va_callv (va_runS (As := [.int x]) (rest := []) ⟨hx, hb, hml, hown, hg⟩ (c_requireByte l dC dI cT s.heap.size x (hx1) (hx2)) (va_cwS 1 hg (gI (List.forall_mem_append.mpr ⟨List.forall_mem_cons.mpr ⟨k_489, List.forall_mem_cons.mpr ⟨k_490, List.forall_mem_cons.mpr ⟨k_1, fun _ h => absurd h List.not_mem_nil⟩⟩⟩, List.forall_mem_cons.mpr ⟨k_491, fun _ h => h⟩⟩)) rfl rfl rfl (by decide +kernel) ⟨Nat.le_of_ble_eq_true rfl, Nat.le_of_ble_eq_true rfl⟩) ⟨fun a U g mk q => by obtain ⟨q0, q1, qP, qK, qD⟩ := q; exact ⟨q0, q1, qP, va_K.moved (u := U) (U := U.calling g mk a) (Vm.Alike.refl U.vm) qK, qD⟩, fun U hU hW => ⟨rfl, by rw [hU], by rw [hU]; exact hPc, va_K.moved hW.alike hK, hDc.weaken (fun _ _ _ _ => trivial)⟩⟩ rfl rfl hl.1 rfl (lv_room (Nat.le_of_ble_eq_true rfl)) d_DS_draft_1 ⟨Nat.le_of_ble_eq_true rfl, Nat.le_of_ble_eq_true rfl⟩) hS (fun q _ h => hFc q h) hFc (fun u t H1 locs ht hvm hw hB hz1 hk1 hS => ?_)
  try dsimp only at hw hB
  obtain ⟨hP1, hK1, hD1⟩ := hB
  rw [ht] at hP1
  obtain ⟨hP, hD⟩ := va_join (wr := [(ds, .inr (0, [.ref dr, .ref sv])), (dr, .inr (2, [.ref rr, .int (nI len)])), (rr, .inl ((cT 0), 1000, .inl f))]) (w1 := []) hP hD [] [0, 1, 2] rfl rfl (by decide) (by decide) hk1 hFc hP1 hD1
  have hw12 := hw
  clear hPc hDc hFc hz1 hk1 hP1 hK1 hD1
  generalize H1 = H at hP hS ⊢
  have hP : va_P (dC, dI) vcl [(ds, .inr (0, [.ref dr, .ref sv])), (dr, .inr (2, [.ref rr, .int (nI len)])), (rr, .inl ((cT 0), 1000, .inl f))] H := hP
  have hD : va_D A [(ds, .inr (0, [.ref dr, .ref sv])), (dr, .inr (2, [.ref rr, .int (nI len)])), (rr, .inl ((cT 0), 1000, .inl f))] := hD
  refine lv_iload_n hx hb d_DS_draft_4 rfl (lv_at hl 2 rfl) ?_
  have hPc := hP.sub (ws' := []) [] rfl
  have hDc := hD.sub (ws' := []) [] (by decide) rfl
  have hFc := va_free (wc := []) hD hS hA [] rfl
  refine va_callv (va_runS (As := [.int y]) (rest := []) ⟨hx, hb, hml, hown, hg⟩ (c_requireByte l dC dI cT H.size y (hy1) (hy2)) (va_cwS 1 hg (gI (List.forall_mem_append.mpr ⟨List.forall_mem_cons.mpr ⟨k_489, List.forall_mem_cons.mpr ⟨k_490, List.forall_mem_cons.mpr ⟨k_1, fun _ h => absurd h List.not_mem_nil⟩⟩⟩, List.forall_mem_cons.mpr ⟨k_491, fun _ h => h⟩⟩)) rfl rfl rfl (by decide +kernel) ⟨Nat.le_of_ble_eq_true rfl, Nat.le_of_ble_eq_true rfl⟩) ⟨fun a U g mk q => by obtain ⟨q0, q1, qP, qK, qD⟩ := q; exact ⟨q0, q1, qP, va_K.moved (u := U) (U := U.calling g mk a) (Vm.Alike.refl U.vm) qK, qD⟩, fun U hU hW => ⟨rfl, by rw [hU], by rw [hU]; exact hPc, va_K.moved hW.alike hK, hDc.weaken (fun _ _ _ _ => trivial)⟩⟩ rfl rfl hl.1 rfl (lv_room (Nat.le_of_ble_eq_true rfl)) d_DS_draft_5 ⟨Nat.le_of_ble_eq_true rfl, Nat.le_of_ble_eq_true rfl⟩) hS (fun q _ h => hFc q h) hFc (fun u t H1 locs ht hvm hw hB hz1 hk1 hS => ?_)
  try dsimp only at hw hB
  obtain ⟨hP1, hK1, hD1⟩ := hB
  rw [ht] at hP1
  obtain ⟨hP, hD⟩ := va_join (wr := [(ds, .inr (0, [.ref dr, .ref sv])), (dr, .inr (2, [.ref rr, .int (nI len)])), (rr, .inl ((cT 0), 1000, .inl f))]) (w1 := []) hP hD [] [0, 1, 2] rfl rfl (by decide) (by decide) hk1 hFc hP1 hD1
  have hw13 := hw
  clear hPc hDc hFc hz1 hk1 hP1 hK1 hD1
  generalize H1 = H at hP hS ⊢
  have hP : va_P (dC, dI) vcl [(ds, .inr (0, [.ref dr, .ref sv])), (dr, .inr (2, [.ref rr, .int (nI len)])), (rr, .inl ((cT 0), 1000, .inl f))] H := hP
  have hD : va_D A [(ds, .inr (0, [.ref dr, .ref sv])), (dr, .inr (2, [.ref rr, .int (nI len)])), (rr, .inl ((cT 0), 1000, .inl f))] := hD
  refine lv_aload_n hx hb d_DS_draft_8 rfl (lv_at hl 0 rfl) ?_
  refine va_get (D := (dC, dI)) (ci := 0) (v := (.ref dr)) (C := R_DS) (T := F_DS) (N := 2) hx hb hg in_DS hown hK hP 0 rfl rfl 0 (by decide) (hg _ k_368) (fun _ h9 => h9) rfl d_DS_draft_9 ?_
  refine lv_iload_n hx hb d_DS_draft_12 rfl (lv_at hl 1 rfl) ?_
  refine lv_iload_n hx hb d_DS_draft_13 rfl (lv_at hl 2 rfl) ?_
  have hPc := hP.sub (ws' := [(dr, .inr (2, [.ref rr, .int (nI len)])), (rr, .inl ((cT 0), 1000, .inl f))]) [1, 2] rfl
  have hDc := hD.sub (ws' := [(dr, .inr (2, [.ref rr, .int (nI len)])), (rr, .inl ((cT 0), 1000, .inl f))]) [1, 2] (by decide) rfl
  have hFc := va_free (wc := [(dr, .inr (2, [.ref rr, .int (nI len)])), (rr, .inl ((cT 0), 1000, .inl f))]) hD hS hA [1, 2] rfl
  refine va_callv (va_runV (C := "DoorServer$Packet") (As := [.int x, .int y]) (rest := []) ⟨hx, hb, hml, hown, hg⟩ (c_Pk_begin l dC dI cT H.size dr rr 1000 len f x y (by decide) (by decide)) (cwV 2 hg (gI (List.forall_mem_append.mpr ⟨List.forall_mem_cons.mpr ⟨k_68, List.forall_mem_cons.mpr ⟨k_69, List.forall_mem_cons.mpr ⟨k_70, List.forall_mem_cons.mpr ⟨k_3, fun _ h => absurd h List.not_mem_nil⟩⟩⟩⟩, List.forall_mem_cons.mpr ⟨k_71, fun _ h => h⟩⟩)) rfl rfl rfl (by decide +kernel) ⟨Nat.le_of_ble_eq_true rfl, Nat.le_of_ble_eq_true rfl⟩) ⟨fun a U g mk q => by obtain ⟨q0, q1, qP, qK, qD⟩ := q; exact ⟨q0, q1, qP, va_K.moved (u := U) (U := U.calling g mk a) (Vm.Alike.refl U.vm) qK, qD⟩, va_recv (q0 := 1) (ci := 2) hK hP rfl rfl, fun U hU hW => ⟨rfl, by rw [hU], by rw [hU]; exact hPc, va_K.moved hW.alike hK, hDc.weaken (fun _ _ _ _ => trivial)⟩⟩ rfl rfl hl.1 rfl (lv_room (Nat.le_of_ble_eq_true rfl)) d_DS_draft_14 ⟨Nat.le_of_ble_eq_true rfl, Nat.le_of_ble_eq_true rfl⟩) hS (fun q _ h => hFc q h) hFc (fun u t H1 locs ht hvm hw hB hz1 hk1 hS => ?_)
  obtain ⟨g_14, rfl⟩ : ∃ z, z = u := ⟨_, rfl⟩
  try dsimp only at hw hB
  obtain ⟨hP1, hK1, hD1⟩ := hB
  rw [ht] at hP1
  obtain ⟨hP, hD⟩ := va_join (wr := [(ds, .inr (0, [.ref dr, .ref sv]))]) (w1 := [(dr, .inr (2, [.ref rr, .int (nI 20)])), (rr, .inl ((cT 0), 1000, .inl g_14))]) hP hD [1, 2] [0] rfl rfl (by decide) (by decide) hk1 hFc hP1 hD1
  have hw15 := hw
  clear hPc hDc hFc hz1 hk1 hP1 hK1 hD1
  generalize H1 = H at hP hS ⊢
  have hP : va_P (dC, dI) vcl [(ds, .inr (0, [.ref dr, .ref sv])), (dr, .inr (2, [.ref rr, .int (nI 20)])), (rr, .inl ((cT 0), 1000, .inl g_14))] H := hP
  have hD : va_D A [(ds, .inr (0, [.ref dr, .ref sv])), (dr, .inr (2, [.ref rr, .int (nI 20)])), (rr, .inl ((cT 0), 1000, .inl g_14))] := hD
  refine lv_aload_n hx hb d_DS_draft_17 rfl (lv_at hl 0 rfl) ?_
  refine va_get (D := (dC, dI)) (ci := 0) (v := (.ref dr)) (C := R_DS) (T := F_DS) (N := 2) hx hb hg in_DS hown hK hP 0 rfl rfl 0 (by decide) (hg _ k_368) (fun _ h9 => h9) rfl d_DS_draft_18 ?_
  refine lv_lload_n hx hb d_DS_draft_21 rfl (lv_at hl 3 rfl) ?_
  have hPc := hP.sub (ws' := [(dr, .inr (2, [.ref rr, .int (nI 20)])), (rr, .inl ((cT 0), 1000, .inl g_14))]) [1, 2] rfl
  have hDc := hD.sub (ws' := [(dr, .inr (2, [.ref rr, .int (nI 20)])), (rr, .inl ((cT 0), 1000, .inl g_14))]) [1, 2] (by decide) rfl
  have hFc := va_free (wc := [(dr, .inr (2, [.ref rr, .int (nI 20)])), (rr, .inl ((cT 0), 1000, .inl g_14))]) hD hS hA [1, 2] rfl
  refine va_callv (va_runV (C := "DoorServer$Packet") (As := [.long v]) (rest := []) ⟨hx, hb, hml, hown, hg⟩ (c_Pk_auth l dC dI cT H.size dr rr 1000 20 g_14 v (by decide) (by decide)) (cwV 1 hg (gI (List.forall_mem_append.mpr ⟨List.forall_mem_cons.mpr ⟨k_92, List.forall_mem_cons.mpr ⟨k_93, List.forall_mem_cons.mpr ⟨k_94, List.forall_mem_cons.mpr ⟨k_3, fun _ h => absurd h List.not_mem_nil⟩⟩⟩⟩, List.forall_mem_cons.mpr ⟨k_95, fun _ h => h⟩⟩)) rfl rfl rfl (by decide +kernel) ⟨Nat.le_of_ble_eq_true rfl, Nat.le_of_ble_eq_true rfl⟩) ⟨fun a U g mk q => by obtain ⟨q0, q1, qP, qK, qD⟩ := q; exact ⟨q0, q1, qP, va_K.moved (u := U) (U := U.calling g mk a) (Vm.Alike.refl U.vm) qK, qD⟩, va_recv (q0 := 1) (ci := 2) hK hP rfl rfl, fun U hU hW => ⟨rfl, by rw [hU], by rw [hU]; exact hPc, va_K.moved hW.alike hK, hDc.weaken (fun _ _ _ _ => trivial)⟩⟩ rfl rfl hl.1 rfl (lv_room (Nat.le_of_ble_eq_true rfl)) d_DS_draft_22 ⟨Nat.le_of_ble_eq_true rfl, Nat.le_of_ble_eq_true rfl⟩) hS (fun q _ h => hFc q h) hFc (fun u t H1 locs ht hvm hw hB hz1 hk1 hS => ?_)
  obtain ⟨g_16, rfl⟩ : ∃ z, z = u := ⟨_, rfl⟩
  try dsimp only at hw hB
  obtain ⟨hP1, hK1, hD1⟩ := hB
  rw [ht] at hP1
  obtain ⟨hP, hD⟩ := va_join (wr := [(ds, .inr (0, [.ref dr, .ref sv]))]) (w1 := [(dr, .inr (2, [.ref rr, .int (nI 20)])), (rr, .inl ((cT 0), 1000, .inl g_16))]) hP hD [1, 2] [0] rfl rfl (by decide) (by decide) hk1 hFc hP1 hD1
  have hw17 := hw
  clear hPc hDc hFc hz1 hk1 hP1 hK1 hD1
  generalize H1 = H at hP hS ⊢
  have hP : va_P (dC, dI) vcl [(ds, .inr (0, [.ref dr, .ref sv])), (dr, .inr (2, [.ref rr, .int (nI 20)])), (rr, .inl ((cT 0), 1000, .inl g_16))] H := hP
  have hD : va_D A [(ds, .inr (0, [.ref dr, .ref sv])), (dr, .inr (2, [.ref rr, .int (nI 20)])), (rr, .inl ((cT 0), 1000, .inl g_16))] := hD
  have hP9 := hP.sub (ws' := [(ds, .inr (0, [.ref dr, .ref sv])), (dr, .inr (2, [.ref rr, .int (nI 20)])), (rr, .inl ((cT 0), 1000, .inl g_16))]) [0, 1, 2] rfl
  have hD9 := hD.sub (ws' := [(ds, .inr (0, [.ref dr, .ref sv])), (dr, .inr (2, [.ref rr, .int (nI 20)])), (rr, .inl ((cT 0), 1000, .inl g_16))]) [0, 1, 2] (by decide) rfl
  exact W.vret hx hb hr (fun t ht hW => ⟨⟨g_16, rfl, fun h9 => hw17.2.2 (hw15.2 h9), by rw [ht]; exact hP9, va_K.moved hW.alike hK, hD9⟩, hS.F ht⟩) hS.2.2 d_DS_draft_25
set_option maxHeartbeats 4000000 in
set_option maxRecDepth 100000 in
/-- put -/
theorem c_put (l : Launch) (dC : Nat → ClassId) (dI : Nat → Nat → Nat) (cT : Nat → ClassId) (sz : Nat) (ds : Nat) (dr : Nat) (sv : Nat) (rr : Nat) (len : Nat) (f : Nat → Int32) (x : Int32) (k : Nat) (y : Int32) (hx1 : ¬ x < 0) (hx2 : ¬ 255 < x) (hk : k ≤ 100) (hy1 : ¬ y < 0) (hy2 : ¬ 255 < y) (hr9 : len + 2 + k ≤ 1000) : Met l y_DS_put (Cond.code y_DS_put b_DS_put 5 (Option.some Jvm.ClassFile.FieldType.int) :: BIG) ({ frames := 2, cells := 0, slots := 0, locals := 45 }) (va_Pc [.ref ds, .int x, .int (nI k), .int y] (fun U => U.heap.size = sz ∧ va_P (dC, dI) vcl [(ds, .inr (0, [.ref dr, .ref sv])), (dr, .inr (2, [.ref rr, .int (nI len)])), (rr, .inl ((cT 0), 1000, .inl f))] U.heap ∧ va_K (dC, dI) vcl (tyL cT) U ∧ va_D (fun _ => True) [(ds, .inr (0, [.ref dr, .ref sv])), (dr, .inr (2, [.ref rr, .int (nI len)])), (rr, .inl ((cT 0), 1000, .inl f))])) (va_Qi (S := (Nat → Int32)) (fun rv9 u => match u with | g => rv9 = nI (len + 2 + k) ∧ (AB f → AB g)) (fun u t => match u with | g => va_P (dC, dI) vcl [(ds, .inr (0, [.ref dr, .ref sv])), (dr, .inr (2, [.ref rr, .int (nI (len + 2 + k))])), (rr, .inl ((cT 0), 1000, .inl g))] t.heap ∧ va_K (dC, dI) vcl (tyL cT) t ∧ va_D (va_A [(ds, .inr (0, [.ref dr, .ref sv])), (dr, .inr (2, [.ref rr, .int (nI len)])), (rr, .inl ((cT 0), 1000, .inl f))] sz) [(ds, .inr (0, [.ref dr, .ref sv])), (dr, .inr (2, [.ref rr, .int (nI (len + 2 + k))])), (rr, .inl ((cT 0), 1000, .inl g))]) (va_A [(ds, .inr (0, [.ref dr, .ref sv])), (dr, .inr (2, [.ref rr, .int (nI len)])), (rr, .inl ((cT 0), 1000, .inl f))] sz)) 0 0 (va_A [(ds, .inr (0, [.ref dr, .ref sv])), (dr, .inr (2, [.ref rr, .int (nI len)])), (rr, .inl ((cT 0), 1000, .inl f))] sz) := by
  refine Met.ofW (cc := b_DS_put) (maxL := 5) (ret := (Option.some Jvm.ClassFile.FieldType.int)) (by decide) rfl ?_
  intro p e s m args below meth c s₁ B hml hv
  obtain ⟨hargs, hsz, hP, hK, hD0⟩ := hv
  have hx := B.exec
  have hb := B.bytes
  have hr := B.returns
  have hts := atoms_spec (ws := (Cond.code y_DS_put b_DS_put 5 (Option.some Jvm.ClassFile.FieldType.int) :: BIG)) B.pre
  have hg : ∀ w ∈ BIG, w.before _ s = true := fun w h => hts w (List.mem_cons_of_mem _ h)
  have hown : s.vm.findClass "DoorServer" = some m.cls := findClass_of_methodNamed B.named
  have hlocks := B.notSynchronized
  subst hsz
  have hD := hD0.self (sz := s.heap.size)
  generalize hAe : va_A [(ds, .inr (0, [.ref dr, .ref sv])), (dr, .inr (2, [.ref rr, .int (nI len)])), (rr, .inl ((cT 0), 1000, .inl f))] s.heap.size = A at hD ⊢
  have hA : ∀ q : Nat, s.heap.size ≤ q → A q := fun q h => by rw [← hAe]; exact Or.inr h
  have hS : va_S A s.heap s.heap [] := va_S.rf
  have hl := lv_entry ([.ref ds, .int x, .int (nI k), .int y]) (n := 5) (Nat.le_of_ble_eq_true rfl)
  refine W.eq (g2 := entryFrame m (List.toArray [.ref ds, .int x, .int (nI k), .int y]) 5) (by rw [hargs]) ?_
  rw [lg_entry_eq]
  generalize (lg_sl ([.ref ds, .int x, .int (nI k), .int y]) ++ List.replicate (5 - (lg_sl ([.ref ds, .int x, .int (nI k), .int y])).length) Slot.unset).toArray = ls at hl ⊢
  have hl : lv_has ls 5 [(0, .ref ds), (1, .int x), (2, .int (nI k)), (3, .int y)] := hl
  change W p l e ({ frames := 2, cells := 0, slots := 0, locals := 45 } : Room) s m args below meth c s.heap [] 0 0 _ _
  have hP : va_P (dC, dI) vcl [(ds, .inr (0, [.ref dr, .ref sv])), (dr, .inr (2, [.ref rr, .int (nI len)])), (rr, .inl ((cT 0), 1000, .inl f))] s.heap := hP
  refine lv_iload_n hx hb d_DS_put_0 rfl (lv_at hl 1 rfl) ?_
  have hPc := hP.sub (ws' := []) [] rfl
  have hDc := hD.sub (ws' := []) [] (by decide) rfl
  have hFc := va_free (wc := []) hD hS hA [] rfl
  refine va_callv (va_runS (As := [.int x]) (rest := []) ⟨hx, hb, hml, hown, hg⟩ (c_requireByte l dC dI cT s.heap.size x (hx1) (hx2)) (va_cwS 1 hg (gI (List.forall_mem_append.mpr ⟨List.forall_mem_cons.mpr ⟨k_489, List.forall_mem_cons.mpr ⟨k_490, List.forall_mem_cons.mpr ⟨k_1, fun _ h => absurd h List.not_mem_nil⟩⟩⟩, List.forall_mem_cons.mpr ⟨k_491, fun _ h => h⟩⟩)) rfl rfl rfl (by decide +kernel) ⟨Nat.le_of_ble_eq_true rfl, Nat.le_of_ble_eq_true rfl⟩) ⟨fun a U g mk q => by obtain ⟨q0, q1, qP, qK, qD⟩ := q; exact ⟨q0, q1, qP, va_K.moved (u := U) (U := U.calling g mk a) (Vm.Alike.refl U.vm) qK, qD⟩, fun U hU hW => ⟨rfl, by rw [hU], by rw [hU]; exact hPc, va_K.moved hW.alike hK, hDc.weaken (fun _ _ _ _ => trivial)⟩⟩ rfl rfl hl.1 rfl (lv_room (Nat.le_of_ble_eq_true rfl)) d_DS_put_1 ⟨Nat.le_of_ble_eq_true rfl, Nat.le_of_ble_eq_true rfl⟩) hS (fun q _ h => hFc q h) hFc (fun u t H1 locs ht hvm hw hB hz1 hk1 hS => ?_)
  try dsimp only at hw hB
  obtain ⟨hP1, hK1, hD1⟩ := hB
  rw [ht] at hP1
  obtain ⟨hP, hD⟩ := va_join (wr := [(ds, .inr (0, [.ref dr, .ref sv])), (dr, .inr (2, [.ref rr, .int (nI len)])), (rr, .inl ((cT 0), 1000, .inl f))]) (w1 := []) hP hD [] [0, 1, 2] rfl rfl (by decide) (by decide) hk1 hFc hP1 hD1
  have hw18 := hw
  clear hPc hDc hFc hz1 hk1 hP1 hK1 hD1
  generalize H1 = H at hP hS ⊢
  have hP : va_P (dC, dI) vcl [(ds, .inr (0, [.ref dr, .ref sv])), (dr, .inr (2, [.ref rr, .int (nI len)])), (rr, .inl ((cT 0), 1000, .inl f))] H := hP
  have hD : va_D A [(ds, .inr (0, [.ref dr, .ref sv])), (dr, .inr (2, [.ref rr, .int (nI len)])), (rr, .inl ((cT 0), 1000, .inl f))] := hD
  refine lv_iload_n hx hb d_DS_put_4 rfl (lv_at hl 3 rfl) ?_
  have hPc := hP.sub (ws' := []) [] rfl
  have hDc := hD.sub (ws' := []) [] (by decide) rfl
  have hFc := va_free (wc := []) hD hS hA [] rfl
  refine va_callv (va_runS (As := [.int y]) (rest := []) ⟨hx, hb, hml, hown, hg⟩ (c_requireByte l dC dI cT H.size y (hy1) (hy2)) (va_cwS 1 hg (gI (List.forall_mem_append.mpr ⟨List.forall_mem_cons.mpr ⟨k_489, List.forall_mem_cons.mpr ⟨k_490, List.forall_mem_cons.mpr ⟨k_1, fun _ h => absurd h List.not_mem_nil⟩⟩⟩, List.forall_mem_cons.mpr ⟨k_491, fun _ h => h⟩⟩)) rfl rfl rfl (by decide +kernel) ⟨Nat.le_of_ble_eq_true rfl, Nat.le_of_ble_eq_true rfl⟩) ⟨fun a U g mk q => by obtain ⟨q0, q1, qP, qK, qD⟩ := q; exact ⟨q0, q1, qP, va_K.moved (u := U) (U := U.calling g mk a) (Vm.Alike.refl U.vm) qK, qD⟩, fun U hU hW => ⟨rfl, by rw [hU], by rw [hU]; exact hPc, va_K.moved hW.alike hK, hDc.weaken (fun _ _ _ _ => trivial)⟩⟩ rfl rfl hl.1 rfl (lv_room (Nat.le_of_ble_eq_true rfl)) d_DS_put_5 ⟨Nat.le_of_ble_eq_true rfl, Nat.le_of_ble_eq_true rfl⟩) hS (fun q _ h => hFc q h) hFc (fun u t H1 locs ht hvm hw hB hz1 hk1 hS => ?_)
  try dsimp only at hw hB
  obtain ⟨hP1, hK1, hD1⟩ := hB
  rw [ht] at hP1
  obtain ⟨hP, hD⟩ := va_join (wr := [(ds, .inr (0, [.ref dr, .ref sv])), (dr, .inr (2, [.ref rr, .int (nI len)])), (rr, .inl ((cT 0), 1000, .inl f))]) (w1 := []) hP hD [] [0, 1, 2] rfl rfl (by decide) (by decide) hk1 hFc hP1 hD1
  have hw19 := hw
  clear hPc hDc hFc hz1 hk1 hP1 hK1 hD1
  generalize H1 = H at hP hS ⊢
  have hP : va_P (dC, dI) vcl [(ds, .inr (0, [.ref dr, .ref sv])), (dr, .inr (2, [.ref rr, .int (nI len)])), (rr, .inl ((cT 0), 1000, .inl f))] H := hP
  have hD : va_D A [(ds, .inr (0, [.ref dr, .ref sv])), (dr, .inr (2, [.ref rr, .int (nI len)])), (rr, .inl ((cT 0), 1000, .inl f))] := hD
  refine lv_iload_n hx hb d_DS_put_8 rfl (lv_at hl 2 rfl) ?_
  refine lv_iconst (v := 0) hx hb d_DS_put_9 (by decide) ?_
  refine lv_bipush (v := 100) hx hb d_DS_put_10 (by decide) ?_
  have hPc := hP.sub (ws' := []) [] rfl
  have hDc := hD.sub (ws' := []) [] (by decide) rfl
  have hFc := va_free (wc := []) hD hS hA [] rfl
  refine va_callv (va_runS (As := [.int (nI k), .int 0, .int 100]) (rest := []) ⟨hx, hb, hml, hown, hg⟩ (c_requireWithin l dC dI cT H.size (nI k) 0 100 (nI_pos (by omega)) (nI_nlt (a := 100) hk (by decide))) (va_cwS 3 hg (gI (List.forall_mem_append.mpr ⟨List.forall_mem_cons.mpr ⟨k_390, List.forall_mem_cons.mpr ⟨k_391, List.forall_mem_cons.mpr ⟨k_1, fun _ h => absurd h List.not_mem_nil⟩⟩⟩, List.forall_mem_cons.mpr ⟨k_392, fun _ h => h⟩⟩)) rfl rfl rfl (by decide +kernel) ⟨Nat.le_of_ble_eq_true rfl, Nat.le_of_ble_eq_true rfl⟩) ⟨fun a U g mk q => by obtain ⟨q0, q1, qP, qK, qD⟩ := q; exact ⟨q0, q1, qP, va_K.moved (u := U) (U := U.calling g mk a) (Vm.Alike.refl U.vm) qK, qD⟩, fun U hU hW => ⟨rfl, by rw [hU], by rw [hU]; exact hPc, va_K.moved hW.alike hK, hDc.weaken (fun _ _ _ _ => trivial)⟩⟩ rfl rfl hl.1 rfl (lv_room (Nat.le_of_ble_eq_true rfl)) d_DS_put_12 ⟨Nat.le_of_ble_eq_true rfl, Nat.le_of_ble_eq_true rfl⟩) hS (fun q _ h => hFc q h) hFc (fun u t H1 locs ht hvm hw hB hz1 hk1 hS => ?_)
  try dsimp only at hw hB
  obtain ⟨hP1, hK1, hD1⟩ := hB
  rw [ht] at hP1
  obtain ⟨hP, hD⟩ := va_join (wr := [(ds, .inr (0, [.ref dr, .ref sv])), (dr, .inr (2, [.ref rr, .int (nI len)])), (rr, .inl ((cT 0), 1000, .inl f))]) (w1 := []) hP hD [] [0, 1, 2] rfl rfl (by decide) (by decide) hk1 hFc hP1 hD1
  have hw20 := hw
  clear hPc hDc hFc hz1 hk1 hP1 hK1 hD1
  generalize H1 = H at hP hS ⊢
  have hP : va_P (dC, dI) vcl [(ds, .inr (0, [.ref dr, .ref sv])), (dr, .inr (2, [.ref rr, .int (nI len)])), (rr, .inl ((cT 0), 1000, .inl f))] H := hP
  have hD : va_D A [(ds, .inr (0, [.ref dr, .ref sv])), (dr, .inr (2, [.ref rr, .int (nI len)])), (rr, .inl ((cT 0), 1000, .inl f))] := hD
  refine lv_aload_n hx hb d_DS_put_15 rfl (lv_at hl 0 rfl) ?_
  refine lv_iload_n hx hb d_DS_put_16 rfl (lv_at hl 2 rfl) ?_
  have hPc := hP.sub (ws' := [(ds, .inr (0, [.ref dr, .ref sv])), (dr, .inr (2, [.ref rr, .int (nI len)])), (rr, .inl ((cT 0), 1000, .inl f))]) [0, 1, 2] rfl
  have hDc := hD.sub (ws' := [(ds, .inr (0, [.ref dr, .ref sv])), (dr, .inr (2, [.ref rr, .int (nI len)])), (rr, .inl ((cT 0), 1000, .inl f))]) [0, 1, 2] (by decide) rfl
  have hFc := va_free (wc := [(ds, .inr (0, [.ref dr, .ref sv])), (dr, .inr (2, [.ref rr, .int (nI len)])), (rr, .inl ((cT 0), 1000, .inl f))]) hD hS hA [0, 1, 2] rfl
  refine va_callv (va_runV (C := "DoorServer") (As := [.int (nI k)]) (rest := []) ⟨hx, hb, hml, hown, hg⟩ (c_room l dC dI cT H.size ds dr sv rr len f k (hr9)) (cwV 1 hg (gI (List.forall_mem_append.mpr ⟨List.forall_mem_cons.mpr ⟨k_500, List.forall_mem_cons.mpr ⟨k_502, List.forall_mem_cons.mpr ⟨(big_sel (q := y_DS_requireRoom) (n := 2) (by decide +kernel)), List.forall_mem_cons.mpr ⟨k_1, fun _ h => absurd h List.not_mem_nil⟩⟩⟩⟩, List.forall_mem_cons.mpr ⟨k_503, fun _ h => h⟩⟩)) rfl rfl rfl (by decide +kernel) ⟨Nat.le_of_ble_eq_true rfl, Nat.le_of_ble_eq_true rfl⟩) ⟨fun a U g mk q => by obtain ⟨q0, q1, qP, qK, qD⟩ := q; exact ⟨q0, q1, qP, va_K.moved (u := U) (U := U.calling g mk a) (Vm.Alike.refl U.vm) qK, qD⟩, va_recv (q0 := 0) (ci := 0) hK hP rfl rfl, fun U hU hW => ⟨rfl, by rw [hU], by rw [hU]; exact hPc, va_K.moved hW.alike hK, hDc.weaken (fun _ _ _ _ => trivial)⟩⟩ rfl rfl hl.1 rfl (lv_room (Nat.le_of_ble_eq_true rfl)) d_DS_put_17 ⟨Nat.le_of_ble_eq_true rfl, Nat.le_of_ble_eq_true rfl⟩) hS (fun q _ h => hFc q h) hFc (fun u t H1 locs ht hvm hw hB hz1 hk1 hS => ?_)
  try dsimp only at hw hB
  obtain ⟨hP1, hK1, hD1⟩ := hB
  rw [ht] at hP1
  obtain ⟨hP, hD⟩ := va_join (wr := []) (w1 := [(ds, .inr (0, [.ref dr, .ref sv])), (dr, .inr (2, [.ref rr, .int (nI len)])), (rr, .inl ((cT 0), 1000, .inl f))]) hP hD [0, 1, 2] [] rfl rfl (by decide) (by decide) hk1 hFc hP1 hD1
  have hw21 := hw
  clear hPc hDc hFc hz1 hk1 hP1 hK1 hD1
  generalize H1 = H at hP hS ⊢
  have hP : va_P (dC, dI) vcl [(ds, .inr (0, [.ref dr, .ref sv])), (dr, .inr (2, [.ref rr, .int (nI len)])), (rr, .inl ((cT 0), 1000, .inl f))] H := hP
  have hD : va_D A [(ds, .inr (0, [.ref dr, .ref sv])), (dr, .inr (2, [.ref rr, .int (nI len)])), (rr, .inl ((cT 0), 1000, .inl f))] := hD
  refine lv_aload_n hx hb d_DS_put_20 rfl (lv_at hl 0 rfl) ?_
  refine va_get (D := (dC, dI)) (ci := 0) (v := (.ref dr)) (C := R_DS) (T := F_DS) (N := 2) hx hb hg in_DS hown hK hP 0 rfl rfl 0 (by decide) (hg _ k_368) (fun _ h9 => h9) rfl d_DS_put_21 ?_
  refine lv_iload_n hx hb d_DS_put_24 rfl (lv_at hl 1 rfl) ?_
  refine lv_iload_n hx hb d_DS_put_25 rfl (lv_at hl 2 rfl) ?_
  have hPc := hP.sub (ws' := [(dr, .inr (2, [.ref rr, .int (nI len)])), (rr, .inl ((cT 0), 1000, .inl f))]) [1, 2] rfl
  have hDc := hD.sub (ws' := [(dr, .inr (2, [.ref rr, .int (nI len)])), (rr, .inl ((cT 0), 1000, .inl f))]) [1, 2] (by decide) rfl
  have hFc := va_free (wc := [(dr, .inr (2, [.ref rr, .int (nI len)])), (rr, .inl ((cT 0), 1000, .inl f))]) hD hS hA [1, 2] rfl
  refine va_callv (va_runV (C := "DoorServer$Packet") (As := [.int x, .int (nI k)]) (rest := []) ⟨hx, hb, hml, hown, hg⟩ (c_Pk_open l dC dI cT H.size dr rr 1000 len f x (nI k) (by omega) (by decide)) (cwV 2 hg (gI (List.forall_mem_append.mpr ⟨List.forall_mem_cons.mpr ⟨k_519, List.forall_mem_cons.mpr ⟨k_520, List.forall_mem_cons.mpr ⟨k_521, List.forall_mem_cons.mpr ⟨k_3, fun _ h => absurd h List.not_mem_nil⟩⟩⟩⟩, List.forall_mem_cons.mpr ⟨k_522, fun _ h => h⟩⟩)) rfl rfl rfl (by decide +kernel) ⟨Nat.le_of_ble_eq_true rfl, Nat.le_of_ble_eq_true rfl⟩) ⟨fun a U g mk q => by obtain ⟨q0, q1, qP, qK, qD⟩ := q; exact ⟨q0, q1, qP, va_K.moved (u := U) (U := U.calling g mk a) (Vm.Alike.refl U.vm) qK, qD⟩, va_recv (q0 := 1) (ci := 2) hK hP rfl rfl, fun U hU hW => ⟨rfl, by rw [hU], by rw [hU]; exact hPc, va_K.moved hW.alike hK, hDc.weaken (fun _ _ _ _ => trivial)⟩⟩ rfl rfl hl.1 rfl (lv_room (Nat.le_of_ble_eq_true rfl)) d_DS_put_26 ⟨Nat.le_of_ble_eq_true rfl, Nat.le_of_ble_eq_true rfl⟩) hS (fun q _ h => hFc q h) hFc (fun u t H1 locs ht hvm hw hB hz1 hk1 hS => ?_)
  try dsimp only at hw hB
  obtain ⟨hP1, hK1, hD1⟩ := hB
  rw [ht] at hP1
  obtain ⟨hP, hD⟩ := va_join (wr := [(ds, .inr (0, [.ref dr, .ref sv]))]) (w1 := [(dr, .inr (2, [.ref rr, .int (nI ((len + 1) + 1))])), (rr, .inl ((cT 0), 1000, .inl (upd (upd f len (x &&& 255)) (len + 1) (((nI k) + 2) &&& 255))))]) hP hD [1, 2] [0] rfl rfl (by decide) (by decide) hk1 hFc hP1 hD1
  have hw22 := hw
  clear hPc hDc hFc hz1 hk1 hP1 hK1 hD1
  generalize H1 = H at hP hS ⊢
  have hP : va_P (dC, dI) vcl [(ds, .inr (0, [.ref dr, .ref sv])), (dr, .inr (2, [.ref rr, .int (nI ((len + 1) + 1))])), (rr, .inl ((cT 0), 1000, .inl (upd (upd f len (x &&& 255)) (len + 1) (((nI k) + 2) &&& 255))))] H := hP
  have hD : va_D A [(ds, .inr (0, [.ref dr, .ref sv])), (dr, .inr (2, [.ref rr, .int (nI ((len + 1) + 1))])), (rr, .inl ((cT 0), 1000, .inl (upd (upd f len (x &&& 255)) (len + 1) (((nI k) + 2) &&& 255))))] := hD
  refine lv_iconst (v := 0) hx hb d_DS_put_29 (by decide) ?_
  refine lv_istore (lv' := [(4, .int 0), (0, .ref ds), (1, .int x), (2, .int (nI k)), (3, .int y)]) hx hb d_DS_put_30 hl (by decide) rfl (fun ls hl => ?_)
  have hl := lv_sub hl [0, 1, 2, 3, 4] (show _ = [(4, .int 0), (0, .ref ds), (1, .int x), (2, .int (nI k)), (3, .int y)] from rfl)
  have L23 : ∀ (Q : State → Prop) (exit : ∀ (g : Nat → Int32) (H : Heap) (locs : List Loc) (ls : Array Slot), (AB f → AB g) → va_P (dC, dI) vcl [(ds, .inr (0, [.ref dr, .ref sv])), (dr, .inr (2, [.ref rr, .int (nI (len + 2 + k))])), (rr, .inl ((cT 0), 1000, .inl g))] H → va_D A [(ds, .inr (0, [.ref dr, .ref sv])), (dr, .inr (2, [.ref rr, .int (nI (len + 2 + k))])), (rr, .inl ((cT 0), 1000, .inl g))] → va_S A s.heap H locs → lv_has ls 5 [(4, .int (nI k)), (0, .ref ds), (1, .int x), (2, .int (nI k)), (3, .int y)] → W p l e ({ frames := 2, cells := 0, slots := 0, locals := 45 } : Room) s m args below meth c H locs 0 0 Q (F0 m 55 ls [])) (j8 i : Nat) (g : Nat → Int32) (H : Heap) (locs : List Loc) (ls : Array Slot), i + j8 = k → (AB f → AB g) → va_P (dC, dI) vcl [(ds, .inr (0, [.ref dr, .ref sv])), (dr, .inr (2, [.ref rr, .int (nI (len + 2 + i))])), (rr, .inl ((cT 0), 1000, .inl g))] H → va_D A [(ds, .inr (0, [.ref dr, .ref sv])), (dr, .inr (2, [.ref rr, .int (nI (len + 2 + i))])), (rr, .inl ((cT 0), 1000, .inl g))] → va_S A s.heap H locs → lv_has ls 5 [(4, .int (nI i)), (0, .ref ds), (1, .int x), (2, .int (nI k)), (3, .int y)] → W p l e ({ frames := 2, cells := 0, slots := 0, locals := 45 } : Room) s m args below meth c H locs 0 0 Q (F0 m 32 ls []) := by
    intro Q exit j8
    induction j8 with
    | zero => 
      intro i g H locs ls hij hab hP hD hS hl
      have hij : k = i := by omega
      refine lv_iload hx hb d_DS_put_32 (lv_at hl 0 rfl) ?_
      refine lv_iload_n hx hb d_DS_put_34 rfl (lv_at hl 3 rfl) ?_
      refine lv_icmp_ge (tgt := 55) hx hb d_DS_put_35 (by decide) (fun hc24 => ?_) (fun hn9 => absurd (nI_le (by omega) (by omega)) hn9)
      subst hij
      exact exit g _ _ _ hab hP hD hS hl
    | succ j8 ih => 
      intro i g H locs ls hij hab hP hD hS hl
      have hlt : i < k := by omega
      refine lv_iload hx hb d_DS_put_32 (lv_at hl 0 rfl) ?_
      refine lv_iload_n hx hb d_DS_put_34 rfl (lv_at hl 3 rfl) ?_
      refine lv_icmp_ge (tgt := 55) hx hb d_DS_put_35 (by decide) (fun hn9 => absurd hn9 (nI_ge hlt (by omega))) (fun hc25 => ?_)
      refine lv_aload_n hx hb d_DS_put_38 rfl (lv_at hl 1 rfl) ?_
      refine va_get (D := (dC, dI)) (ci := 0) (v := (.ref dr)) (C := R_DS) (T := F_DS) (N := 2) hx hb hg in_DS hown hK hP 0 rfl rfl 0 (by decide) (hg _ k_368) (fun _ h9 => h9) rfl d_DS_put_39 ?_
      refine lv_iload_n hx hb d_DS_put_42 rfl (lv_at hl 4 rfl) ?_
      refine lv_iload hx hb d_DS_put_43 (lv_at hl 0 rfl) ?_
      refine lv_iadd hx hb d_DS_put_45 ?_
      have hPc := hP.sub (ws' := [(dr, .inr (2, [.ref rr, .int (nI (len + 2 + i))])), (rr, .inl ((cT 0), 1000, .inl g))]) [1, 2] rfl
      have hDc := hD.sub (ws' := [(dr, .inr (2, [.ref rr, .int (nI (len + 2 + i))])), (rr, .inl ((cT 0), 1000, .inl g))]) [1, 2] (by decide) rfl
      have hFc := va_free (wc := [(dr, .inr (2, [.ref rr, .int (nI (len + 2 + i))])), (rr, .inl ((cT 0), 1000, .inl g))]) hD hS hA [1, 2] rfl
      refine va_callv (va_runU (C := "DoorServer$Packet") (owner := "DoorServer$Bytes") (x := y_Pk_append) (As := [.int (y + (nI i))]) (rest := []) ⟨hx, hb, hml, hown, hg⟩ (c_Pk_append l dC dI cT H.size dr rr 1000 (len + 2 + i) g (y + (nI i)) (by omega) (by decide)) (va_cwU 1 hg (gI (List.forall_mem_append.mpr ⟨List.forall_mem_cons.mpr ⟨k_523, List.forall_mem_cons.mpr ⟨k_73, List.forall_mem_cons.mpr ⟨k_75, List.forall_mem_cons.mpr ⟨k_76, List.forall_mem_cons.mpr ⟨k_2, fun _ h => absurd h List.not_mem_nil⟩⟩⟩⟩⟩, List.forall_mem_cons.mpr ⟨k_77, fun _ h => h⟩⟩)) rfl rfl rfl rfl (by decide +kernel) ⟨Nat.le_of_ble_eq_true rfl, Nat.le_of_ble_eq_true rfl⟩) ⟨fun a U g mk q => by obtain ⟨q0, q1, qP, qK, qD⟩ := q; exact ⟨q0, q1, qP, va_K.moved (u := U) (U := U.calling g mk a) (Vm.Alike.refl U.vm) qK, qD⟩, va_recv (q0 := 1) (ci := 2) hK hP rfl rfl, fun U hU hW => ⟨rfl, by rw [hU], by rw [hU]; exact hPc, va_K.moved hW.alike hK, hDc.weaken (fun _ _ _ _ => trivial)⟩⟩ rfl rfl hl.1 rfl (lv_room (Nat.le_of_ble_eq_true rfl)) d_DS_put_46 ⟨Nat.le_of_ble_eq_true rfl, Nat.le_of_ble_eq_true rfl⟩) hS (fun q _ h => hFc q h) hFc (fun u t H1 locs ht hvm hw hB hz1 hk1 hS => ?_)
      try dsimp only at hw hB
      obtain ⟨hP1, hK1, hD1⟩ := hB
      rw [ht] at hP1
      obtain ⟨hP, hD⟩ := va_join (wr := [(ds, .inr (0, [.ref dr, .ref sv]))]) (w1 := [(dr, .inr (2, [.ref rr, .int (nI ((len + 2 + i) + 1))])), (rr, .inl ((cT 0), 1000, .inl (upd g (len + 2 + i) ((y + (nI i)) &&& 255))))]) hP hD [1, 2] [0] rfl rfl (by decide) (by decide) hk1 hFc hP1 hD1
      have hw26 := hw
      clear hPc hDc hFc hz1 hk1 hP1 hK1 hD1
      generalize H1 = H at hP hS ⊢
      have hP : va_P (dC, dI) vcl [(ds, .inr (0, [.ref dr, .ref sv])), (dr, .inr (2, [.ref rr, .int (nI ((len + 2 + i) + 1))])), (rr, .inl ((cT 0), 1000, .inl (upd g (len + 2 + i) ((y + (nI i)) &&& 255))))] H := hP
      have hD : va_D A [(ds, .inr (0, [.ref dr, .ref sv])), (dr, .inr (2, [.ref rr, .int (nI ((len + 2 + i) + 1))])), (rr, .inl ((cT 0), 1000, .inl (upd g (len + 2 + i) ((y + (nI i)) &&& 255))))] := hD
      refine lv_iinc (k := 0) (v := nI (i + 1)) (lv' := [(4, .int (nI (i + 1))), (0, .ref ds), (1, .int x), (2, .int (nI k)), (3, .int y)]) hx hb d_DS_put_49 hl rfl (nI_1 i) (by decide) rfl (fun ls hl => ?_)
      refine lv_goto (tgt := 32) hx hb d_DS_put_52 (by decide) ?_
      exact ih (i + 1) _ _ _ _ (by omega) (fun h9 => AB_upd (hab h9) (BY_and _)) hP hD hS hl
  refine L23 _ (fun g H locs ls hab hP hD hS hl => ?_) (k - 0) 0 (upd (upd f len (x &&& 255)) (len + 1) (((nI k) + 2) &&& 255)) H _ ls (by omega) (fun h9 => AB_upd (AB_upd h9 (BY_and _)) (BY_and _)) hP hD hS hl
  refine lv_aload_n hx hb d_DS_put_55 rfl (lv_at hl 1 rfl) ?_
  have hPc := hP.sub (ws' := [(ds, .inr (0, [.ref dr, .ref sv])), (dr, .inr (2, [.ref rr, .int (nI (len + 2 + k))])), (rr, .inl ((cT 0), 1000, .inl g))]) [0, 1, 2] rfl
  have hDc := hD.sub (ws' := [(ds, .inr (0, [.ref dr, .ref sv])), (dr, .inr (2, [.ref rr, .int (nI (len + 2 + k))])), (rr, .inl ((cT 0), 1000, .inl g))]) [0, 1, 2] (by decide) rfl
  have hFc := va_free (wc := [(ds, .inr (0, [.ref dr, .ref sv])), (dr, .inr (2, [.ref rr, .int (nI (len + 2 + k))])), (rr, .inl ((cT 0), 1000, .inl g))]) hD hS hA [0, 1, 2] rfl
  refine va_calli (va_runV (C := "DoorServer") (As := []) (rest := []) ⟨hx, hb, hml, hown, hg⟩ (c_closed l dC dI cT H.size ds dr sv rr (len + 2 + k) g (by omega)) (cwV 0 hg (gI (List.forall_mem_append.mpr ⟨List.forall_mem_cons.mpr ⟨k_524, List.forall_mem_cons.mpr ⟨k_526, List.forall_mem_cons.mpr ⟨(big_sel (q := y_DS_closedDraft) (n := 2) (by decide +kernel)), List.forall_mem_cons.mpr ⟨k_1, fun _ h => absurd h List.not_mem_nil⟩⟩⟩⟩, List.forall_mem_cons.mpr ⟨k_527, fun _ h => h⟩⟩)) rfl rfl rfl (by decide +kernel) ⟨Nat.le_of_ble_eq_true rfl, Nat.le_of_ble_eq_true rfl⟩) ⟨fun a U g mk q => by obtain ⟨q0, q1, qP, qK, qD⟩ := q; exact ⟨q0, q1, qP, va_K.moved (u := U) (U := U.calling g mk a) (Vm.Alike.refl U.vm) qK, qD⟩, va_recv (q0 := 0) (ci := 0) hK hP rfl rfl, fun U hU hW => ⟨rfl, by rw [hU], by rw [hU]; exact hPc, va_K.moved hW.alike hK, hDc.weaken (fun _ _ _ _ => trivial)⟩⟩ rfl rfl hl.1 rfl (lv_room (Nat.le_of_ble_eq_true rfl)) d_DS_put_56 ⟨Nat.le_of_ble_eq_true rfl, Nat.le_of_ble_eq_true rfl⟩) hS (fun q _ h => hFc q h) hFc (fun rv9 u t H1 locs ht hvm hw hB hz1 hk1 hS => ?_)
  try dsimp only at hw hB
  obtain ⟨hP1, hK1, hD1⟩ := hB
  rw [ht] at hP1
  obtain ⟨rfl, hw⟩ := hw
  obtain ⟨hP, hD⟩ := va_join (wr := []) (w1 := [(ds, .inr (0, [.ref dr, .ref sv])), (dr, .inr (2, [.ref rr, .int (nI (len + 2 + k))])), (rr, .inl ((cT 0), 1000, .inl (upd (upd g 2 (nI (len + 2 + k) >>> (8 &&& 31))) 3 (nI (len + 2 + k) &&& 255))))]) hP hD [0, 1, 2] [] rfl rfl (by decide) (by decide) hk1 hFc hP1 hD1
  have hw27 := hw
  clear hPc hDc hFc hz1 hk1 hP1 hK1 hD1
  generalize H1 = H at hP hS ⊢
  have hP : va_P (dC, dI) vcl [(ds, .inr (0, [.ref dr, .ref sv])), (dr, .inr (2, [.ref rr, .int (nI (len + 2 + k))])), (rr, .inl ((cT 0), 1000, .inl (upd (upd g 2 (nI (len + 2 + k) >>> (8 &&& 31))) 3 (nI (len + 2 + k) &&& 255))))] H := hP
  have hD : va_D A [(ds, .inr (0, [.ref dr, .ref sv])), (dr, .inr (2, [.ref rr, .int (nI (len + 2 + k))])), (rr, .inl ((cT 0), 1000, .inl (upd (upd g 2 (nI (len + 2 + k) >>> (8 &&& 31))) 3 (nI (len + 2 + k) &&& 255))))] := hD
  have hP9 := hP.sub (ws' := [(ds, .inr (0, [.ref dr, .ref sv])), (dr, .inr (2, [.ref rr, .int (nI (len + 2 + k))])), (rr, .inl ((cT 0), 1000, .inl (upd (upd g 2 (nI (len + 2 + k) >>> (8 &&& 31))) 3 (nI (len + 2 + k) &&& 255))))]) [0, 1, 2] rfl
  have hD9 := hD.sub (ws' := [(ds, .inr (0, [.ref dr, .ref sv])), (dr, .inr (2, [.ref rr, .int (nI (len + 2 + k))])), (rr, .inl ((cT 0), 1000, .inl (upd (upd g 2 (nI (len + 2 + k) >>> (8 &&& 31))) 3 (nI (len + 2 + k) &&& 255))))]) [0, 1, 2] (by decide) rfl
  exact W.iret (v := nI (len + 2 + k)) hx hb hr (fun t ht hW => ⟨⟨_, upd (upd g 2 (nI (len + 2 + k) >>> (8 &&& 31))) 3 (nI (len + 2 + k) &&& 255), rfl, ⟨rfl, fun h9 => AB_tell (by omega) (hab h9)⟩, by rw [ht]; exact hP9, va_K.moved hW.alike hK, hD9⟩, hS.F ht⟩) hS.2.2 d_DS_put_59
set_option maxHeartbeats 4000000 in
set_option maxRecDepth 100000 in
/-- number -/
theorem c_number (l : Launch) (dC : Nat → ClassId) (dI : Nat → Nat → Nat) (cT : Nat → ClassId) (sz : Nat) (ds : Nat) (dr : Nat) (sv : Nat) (rr : Nat) (len : Nat) (f : Nat → Int32) (x : Int32) (y : Int32) (hx1 : ¬ x < 0) (hx2 : ¬ 255 < x) (hr9 : len + 2 + 4 ≤ 1000) : Met l y_DS_number (Cond.code y_DS_number b_DS_number 3 (Option.some Jvm.ClassFile.FieldType.int) :: BIG) ({ frames := 2, cells := 0, slots := 0, locals := 46 }) (va_Pc [.ref ds, .int x, .int y] (fun U => U.heap.size = sz ∧ va_P (dC, dI) vcl [(ds, .inr (0, [.ref dr, .ref sv])), (dr, .inr (2, [.ref rr, .int (nI len)])), (rr, .inl ((cT 0), 1000, .inl f))] U.heap ∧ va_K (dC, dI) vcl (tyL cT) U ∧ va_D (fun _ => True) [(ds, .inr (0, [.ref dr, .ref sv])), (dr, .inr (2, [.ref rr, .int (nI len)])), (rr, .inl ((cT 0), 1000, .inl f))])) (va_Qi (S := (Nat → Int32)) (fun rv9 u => match u with | g => rv9 = nI (len + 6) ∧ (AB f → AB g)) (fun u t => match u with | g => va_P (dC, dI) vcl [(ds, .inr (0, [.ref dr, .ref sv])), (dr, .inr (2, [.ref rr, .int (nI (len + 6))])), (rr, .inl ((cT 0), 1000, .inl g))] t.heap ∧ va_K (dC, dI) vcl (tyL cT) t ∧ va_D (va_A [(ds, .inr (0, [.ref dr, .ref sv])), (dr, .inr (2, [.ref rr, .int (nI len)])), (rr, .inl ((cT 0), 1000, .inl f))] sz) [(ds, .inr (0, [.ref dr, .ref sv])), (dr, .inr (2, [.ref rr, .int (nI (len + 6))])), (rr, .inl ((cT 0), 1000, .inl g))]) (va_A [(ds, .inr (0, [.ref dr, .ref sv])), (dr, .inr (2, [.ref rr, .int (nI len)])), (rr, .inl ((cT 0), 1000, .inl f))] sz)) 0 0 (va_A [(ds, .inr (0, [.ref dr, .ref sv])), (dr, .inr (2, [.ref rr, .int (nI len)])), (rr, .inl ((cT 0), 1000, .inl f))] sz) := by
  refine Met.ofW (cc := b_DS_number) (maxL := 3) (ret := (Option.some Jvm.ClassFile.FieldType.int)) (by decide) rfl ?_
  intro p e s m args below meth c s₁ B hml hv
  obtain ⟨hargs, hsz, hP, hK, hD0⟩ := hv
  have hx := B.exec
  have hb := B.bytes
  have hr := B.returns
  have hts := atoms_spec (ws := (Cond.code y_DS_number b_DS_number 3 (Option.some Jvm.ClassFile.FieldType.int) :: BIG)) B.pre
  have hg : ∀ w ∈ BIG, w.before _ s = true := fun w h => hts w (List.mem_cons_of_mem _ h)
  have hown : s.vm.findClass "DoorServer" = some m.cls := findClass_of_methodNamed B.named
  have hlocks := B.notSynchronized
  subst hsz
  have hD := hD0.self (sz := s.heap.size)
  generalize hAe : va_A [(ds, .inr (0, [.ref dr, .ref sv])), (dr, .inr (2, [.ref rr, .int (nI len)])), (rr, .inl ((cT 0), 1000, .inl f))] s.heap.size = A at hD ⊢
  have hA : ∀ q : Nat, s.heap.size ≤ q → A q := fun q h => by rw [← hAe]; exact Or.inr h
  have hS : va_S A s.heap s.heap [] := va_S.rf
  have hl := lv_entry ([.ref ds, .int x, .int y]) (n := 3) (Nat.le_of_ble_eq_true rfl)
  refine W.eq (g2 := entryFrame m (List.toArray [.ref ds, .int x, .int y]) 3) (by rw [hargs]) ?_
  rw [lg_entry_eq]
  generalize (lg_sl ([.ref ds, .int x, .int y]) ++ List.replicate (3 - (lg_sl ([.ref ds, .int x, .int y])).length) Slot.unset).toArray = ls at hl ⊢
  have hl : lv_has ls 3 [(0, .ref ds), (1, .int x), (2, .int y)] := hl
  change W p l e ({ frames := 2, cells := 0, slots := 0, locals := 46 } : Room) s m args below meth c s.heap [] 0 0 _ _
  have hP : va_P (dC, dI) vcl [(ds, .inr (0, [.ref dr, .ref sv])), (dr, .inr (2, [.ref rr, .int (nI len)])), (rr, .inl ((cT 0), 1000, .inl f))] s.heap := hP
  refine lv_iload_n hx hb d_DS_number_0 rfl (lv_at hl 1 rfl) ?_
  have hPc := hP.sub (ws' := []) [] rfl
  have hDc := hD.sub (ws' := []) [] (by decide) rfl
  have hFc := va_free (wc := []) hD hS hA [] rfl
  refine va_callv (va_runS (As := [.int x]) (rest := []) ⟨hx, hb, hml, hown, hg⟩ (c_requireByte l dC dI cT s.heap.size x (hx1) (hx2)) (va_cwS 1 hg (gI (List.forall_mem_append.mpr ⟨List.forall_mem_cons.mpr ⟨k_489, List.forall_mem_cons.mpr ⟨k_490, List.forall_mem_cons.mpr ⟨k_1, fun _ h => absurd h List.not_mem_nil⟩⟩⟩, List.forall_mem_cons.mpr ⟨k_491, fun _ h => h⟩⟩)) rfl rfl rfl (by decide +kernel) ⟨Nat.le_of_ble_eq_true rfl, Nat.le_of_ble_eq_true rfl⟩) ⟨fun a U g mk q => by obtain ⟨q0, q1, qP, qK, qD⟩ := q; exact ⟨q0, q1, qP, va_K.moved (u := U) (U := U.calling g mk a) (Vm.Alike.refl U.vm) qK, qD⟩, fun U hU hW => ⟨rfl, by rw [hU], by rw [hU]; exact hPc, va_K.moved hW.alike hK, hDc.weaken (fun _ _ _ _ => trivial)⟩⟩ rfl rfl hl.1 rfl (lv_room (Nat.le_of_ble_eq_true rfl)) d_DS_number_1 ⟨Nat.le_of_ble_eq_true rfl, Nat.le_of_ble_eq_true rfl⟩) hS (fun q _ h => hFc q h) hFc (fun u t H1 locs ht hvm hw hB hz1 hk1 hS => ?_)
  try dsimp only at hw hB
  obtain ⟨hP1, hK1, hD1⟩ := hB
  rw [ht] at hP1
  obtain ⟨hP, hD⟩ := va_join (wr := [(ds, .inr (0, [.ref dr, .ref sv])), (dr, .inr (2, [.ref rr, .int (nI len)])), (rr, .inl ((cT 0), 1000, .inl f))]) (w1 := []) hP hD [] [0, 1, 2] rfl rfl (by decide) (by decide) hk1 hFc hP1 hD1
  have hw28 := hw
  clear hPc hDc hFc hz1 hk1 hP1 hK1 hD1
  generalize H1 = H at hP hS ⊢
  have hP : va_P (dC, dI) vcl [(ds, .inr (0, [.ref dr, .ref sv])), (dr, .inr (2, [.ref rr, .int (nI len)])), (rr, .inl ((cT 0), 1000, .inl f))] H := hP
  have hD : va_D A [(ds, .inr (0, [.ref dr, .ref sv])), (dr, .inr (2, [.ref rr, .int (nI len)])), (rr, .inl ((cT 0), 1000, .inl f))] := hD
  refine lv_aload_n hx hb d_DS_number_4 rfl (lv_at hl 0 rfl) ?_
  refine lv_iconst (v := 4) hx hb d_DS_number_5 (by decide) ?_
  refine lv_topi (fun x30 e29 => ?_)
  obtain rfl : x30 = nI 4 := by rw [e29]; rfl
  have hPc := hP.sub (ws' := [(ds, .inr (0, [.ref dr, .ref sv])), (dr, .inr (2, [.ref rr, .int (nI len)])), (rr, .inl ((cT 0), 1000, .inl f))]) [0, 1, 2] rfl
  have hDc := hD.sub (ws' := [(ds, .inr (0, [.ref dr, .ref sv])), (dr, .inr (2, [.ref rr, .int (nI len)])), (rr, .inl ((cT 0), 1000, .inl f))]) [0, 1, 2] (by decide) rfl
  have hFc := va_free (wc := [(ds, .inr (0, [.ref dr, .ref sv])), (dr, .inr (2, [.ref rr, .int (nI len)])), (rr, .inl ((cT 0), 1000, .inl f))]) hD hS hA [0, 1, 2] rfl
  refine va_callv (va_runV (C := "DoorServer") (As := [.int (nI 4)]) (rest := []) ⟨hx, hb, hml, hown, hg⟩ (c_room l dC dI cT H.size ds dr sv rr len f 4 (hr9)) (cwV 1 hg (gI (List.forall_mem_append.mpr ⟨List.forall_mem_cons.mpr ⟨k_500, List.forall_mem_cons.mpr ⟨k_502, List.forall_mem_cons.mpr ⟨(big_sel (q := y_DS_requireRoom) (n := 2) (by decide +kernel)), List.forall_mem_cons.mpr ⟨k_1, fun _ h => absurd h List.not_mem_nil⟩⟩⟩⟩, List.forall_mem_cons.mpr ⟨k_503, fun _ h => h⟩⟩)) rfl rfl rfl (by decide +kernel) ⟨Nat.le_of_ble_eq_true rfl, Nat.le_of_ble_eq_true rfl⟩) ⟨fun a U g mk q => by obtain ⟨q0, q1, qP, qK, qD⟩ := q; exact ⟨q0, q1, qP, va_K.moved (u := U) (U := U.calling g mk a) (Vm.Alike.refl U.vm) qK, qD⟩, va_recv (q0 := 0) (ci := 0) hK hP rfl rfl, fun U hU hW => ⟨rfl, by rw [hU], by rw [hU]; exact hPc, va_K.moved hW.alike hK, hDc.weaken (fun _ _ _ _ => trivial)⟩⟩ rfl rfl hl.1 rfl (lv_room (Nat.le_of_ble_eq_true rfl)) d_DS_number_6 ⟨Nat.le_of_ble_eq_true rfl, Nat.le_of_ble_eq_true rfl⟩) hS (fun q _ h => hFc q h) hFc (fun u t H1 locs ht hvm hw hB hz1 hk1 hS => ?_)
  try dsimp only at hw hB
  obtain ⟨hP1, hK1, hD1⟩ := hB
  rw [ht] at hP1
  obtain ⟨hP, hD⟩ := va_join (wr := []) (w1 := [(ds, .inr (0, [.ref dr, .ref sv])), (dr, .inr (2, [.ref rr, .int (nI len)])), (rr, .inl ((cT 0), 1000, .inl f))]) hP hD [0, 1, 2] [] rfl rfl (by decide) (by decide) hk1 hFc hP1 hD1
  have hw31 := hw
  clear hPc hDc hFc hz1 hk1 hP1 hK1 hD1
  generalize H1 = H at hP hS ⊢
  have hP : va_P (dC, dI) vcl [(ds, .inr (0, [.ref dr, .ref sv])), (dr, .inr (2, [.ref rr, .int (nI len)])), (rr, .inl ((cT 0), 1000, .inl f))] H := hP
  have hD : va_D A [(ds, .inr (0, [.ref dr, .ref sv])), (dr, .inr (2, [.ref rr, .int (nI len)])), (rr, .inl ((cT 0), 1000, .inl f))] := hD
  refine lv_aload_n hx hb d_DS_number_9 rfl (lv_at hl 0 rfl) ?_
  refine va_get (D := (dC, dI)) (ci := 0) (v := (.ref dr)) (C := R_DS) (T := F_DS) (N := 2) hx hb hg in_DS hown hK hP 0 rfl rfl 0 (by decide) (hg _ k_368) (fun _ h9 => h9) rfl d_DS_number_10 ?_
  refine lv_iload_n hx hb d_DS_number_13 rfl (lv_at hl 1 rfl) ?_
  refine lv_iconst (v := 4) hx hb d_DS_number_14 (by decide) ?_
  have hPc := hP.sub (ws' := [(dr, .inr (2, [.ref rr, .int (nI len)])), (rr, .inl ((cT 0), 1000, .inl f))]) [1, 2] rfl
  have hDc := hD.sub (ws' := [(dr, .inr (2, [.ref rr, .int (nI len)])), (rr, .inl ((cT 0), 1000, .inl f))]) [1, 2] (by decide) rfl
  have hFc := va_free (wc := [(dr, .inr (2, [.ref rr, .int (nI len)])), (rr, .inl ((cT 0), 1000, .inl f))]) hD hS hA [1, 2] rfl
  refine va_callv (va_runV (C := "DoorServer$Packet") (As := [.int x, .int 4]) (rest := []) ⟨hx, hb, hml, hown, hg⟩ (c_Pk_open l dC dI cT H.size dr rr 1000 len f x 4 (by omega) (by decide)) (cwV 2 hg (gI (List.forall_mem_append.mpr ⟨List.forall_mem_cons.mpr ⟨k_519, List.forall_mem_cons.mpr ⟨k_520, List.forall_mem_cons.mpr ⟨k_521, List.forall_mem_cons.mpr ⟨k_3, fun _ h => absurd h List.not_mem_nil⟩⟩⟩⟩, List.forall_mem_cons.mpr ⟨k_522, fun _ h => h⟩⟩)) rfl rfl rfl (by decide +kernel) ⟨Nat.le_of_ble_eq_true rfl, Nat.le_of_ble_eq_true rfl⟩) ⟨fun a U g mk q => by obtain ⟨q0, q1, qP, qK, qD⟩ := q; exact ⟨q0, q1, qP, va_K.moved (u := U) (U := U.calling g mk a) (Vm.Alike.refl U.vm) qK, qD⟩, va_recv (q0 := 1) (ci := 2) hK hP rfl rfl, fun U hU hW => ⟨rfl, by rw [hU], by rw [hU]; exact hPc, va_K.moved hW.alike hK, hDc.weaken (fun _ _ _ _ => trivial)⟩⟩ rfl rfl hl.1 rfl (lv_room (Nat.le_of_ble_eq_true rfl)) d_DS_number_15 ⟨Nat.le_of_ble_eq_true rfl, Nat.le_of_ble_eq_true rfl⟩) hS (fun q _ h => hFc q h) hFc (fun u t H1 locs ht hvm hw hB hz1 hk1 hS => ?_)
  try dsimp only at hw hB
  obtain ⟨hP1, hK1, hD1⟩ := hB
  rw [ht] at hP1
  obtain ⟨hP, hD⟩ := va_join (wr := [(ds, .inr (0, [.ref dr, .ref sv]))]) (w1 := [(dr, .inr (2, [.ref rr, .int (nI ((len + 1) + 1))])), (rr, .inl ((cT 0), 1000, .inl (upd (upd f len (x &&& 255)) (len + 1) ((4 + 2) &&& 255))))]) hP hD [1, 2] [0] rfl rfl (by decide) (by decide) hk1 hFc hP1 hD1
  have hw32 := hw
  clear hPc hDc hFc hz1 hk1 hP1 hK1 hD1
  generalize H1 = H at hP hS ⊢
  have hP : va_P (dC, dI) vcl [(ds, .inr (0, [.ref dr, .ref sv])), (dr, .inr (2, [.ref rr, .int (nI ((len + 1) + 1))])), (rr, .inl ((cT 0), 1000, .inl (upd (upd f len (x &&& 255)) (len + 1) ((4 + 2) &&& 255))))] H := hP
  have hD : va_D A [(ds, .inr (0, [.ref dr, .ref sv])), (dr, .inr (2, [.ref rr, .int (nI ((len + 1) + 1))])), (rr, .inl ((cT 0), 1000, .inl (upd (upd f len (x &&& 255)) (len + 1) ((4 + 2) &&& 255))))] := hD
  refine lv_aload_n hx hb d_DS_number_18 rfl (lv_at hl 0 rfl) ?_
  refine va_get (D := (dC, dI)) (ci := 0) (v := (.ref dr)) (C := R_DS) (T := F_DS) (N := 2) hx hb hg in_DS hown hK hP 0 rfl rfl 0 (by decide) (hg _ k_368) (fun _ h9 => h9) rfl d_DS_number_19 ?_
  refine lv_iload_n hx hb d_DS_number_22 rfl (lv_at hl 2 rfl) ?_
  refine lv_i2l (v := y.toInt64) hx hb d_DS_number_23 rfl ?_
  refine lv_iconst (v := 4) hx hb d_DS_number_24 (by decide) ?_
  refine lv_topi (fun x34 e33 => ?_)
  obtain rfl : x34 = nI 4 := by rw [e33]; rfl
  have hPc := hP.sub (ws' := [(dr, .inr (2, [.ref rr, .int (nI ((len + 1) + 1))])), (rr, .inl ((cT 0), 1000, .inl (upd (upd f len (x &&& 255)) (len + 1) ((4 + 2) &&& 255))))]) [1, 2] rfl
  have hDc := hD.sub (ws' := [(dr, .inr (2, [.ref rr, .int (nI ((len + 1) + 1))])), (rr, .inl ((cT 0), 1000, .inl (upd (upd f len (x &&& 255)) (len + 1) ((4 + 2) &&& 255))))]) [1, 2] (by decide) rfl
  have hFc := va_free (wc := [(dr, .inr (2, [.ref rr, .int (nI ((len + 1) + 1))])), (rr, .inl ((cT 0), 1000, .inl (upd (upd f len (x &&& 255)) (len + 1) ((4 + 2) &&& 255))))]) hD hS hA [1, 2] rfl
  refine va_callv (va_runU (C := "DoorServer$Packet") (owner := "DoorServer$Bytes") (x := y_Pk_appendNumber) (As := [.long y.toInt64, .int (nI 4)]) (rest := []) ⟨hx, hb, hml, hown, hg⟩ (c_Pk_number l dC dI cT H.size dr rr 1000 ((len + 1) + 1) (upd (upd f len (x &&& 255)) (len + 1) ((4 + 2) &&& 255)) y.toInt64 4 (by omega) (by decide)) (va_cwU 2 hg (gI (List.forall_mem_append.mpr ⟨List.forall_mem_cons.mpr ⟨k_539, List.forall_mem_cons.mpr ⟨k_80, List.forall_mem_cons.mpr ⟨k_82, List.forall_mem_cons.mpr ⟨k_83, List.forall_mem_cons.mpr ⟨k_2, fun _ h => absurd h List.not_mem_nil⟩⟩⟩⟩⟩, List.forall_mem_cons.mpr ⟨k_84, fun _ h => h⟩⟩)) rfl rfl rfl rfl (by decide +kernel) ⟨Nat.le_of_ble_eq_true rfl, Nat.le_of_ble_eq_true rfl⟩) ⟨fun a U g mk q => by obtain ⟨q0, q1, qP, qK, qD⟩ := q; exact ⟨q0, q1, qP, va_K.moved (u := U) (U := U.calling g mk a) (Vm.Alike.refl U.vm) qK, qD⟩, va_recv (q0 := 1) (ci := 2) hK hP rfl rfl, fun U hU hW => ⟨rfl, by rw [hU], by rw [hU]; exact hPc, va_K.moved hW.alike hK, hDc.weaken (fun _ _ _ _ => trivial)⟩⟩ rfl rfl hl.1 rfl (lv_room (Nat.le_of_ble_eq_true rfl)) d_DS_number_25 ⟨Nat.le_of_ble_eq_true rfl, Nat.le_of_ble_eq_true rfl⟩) hS (fun q _ h => hFc q h) hFc (fun u t H1 locs ht hvm hw hB hz1 hk1 hS => ?_)
  obtain ⟨g_35, rfl⟩ : ∃ z, z = u := ⟨_, rfl⟩
  try dsimp only at hw hB
  obtain ⟨hP1, hK1, hD1⟩ := hB
  rw [ht] at hP1
  obtain ⟨hP, hD⟩ := va_join (wr := [(ds, .inr (0, [.ref dr, .ref sv]))]) (w1 := [(dr, .inr (2, [.ref rr, .int (nI (((len + 1) + 1) + 4))])), (rr, .inl ((cT 0), 1000, .inl g_35))]) hP hD [1, 2] [0] rfl rfl (by decide) (by decide) hk1 hFc hP1 hD1
  have hw36 := hw
  clear hPc hDc hFc hz1 hk1 hP1 hK1 hD1
  generalize H1 = H at hP hS ⊢
  have hP : va_P (dC, dI) vcl [(ds, .inr (0, [.ref dr, .ref sv])), (dr, .inr (2, [.ref rr, .int (nI (((len + 1) + 1) + 4))])), (rr, .inl ((cT 0), 1000, .inl g_35))] H := hP
  have hD : va_D A [(ds, .inr (0, [.ref dr, .ref sv])), (dr, .inr (2, [.ref rr, .int (nI (((len + 1) + 1) + 4))])), (rr, .inl ((cT 0), 1000, .inl g_35))] := hD
  refine lv_aload_n hx hb d_DS_number_28 rfl (lv_at hl 0 rfl) ?_
  have hPc := hP.sub (ws' := [(ds, .inr (0, [.ref dr, .ref sv])), (dr, .inr (2, [.ref rr, .int (nI (((len + 1) + 1) + 4))])), (rr, .inl ((cT 0), 1000, .inl g_35))]) [0, 1, 2] rfl
  have hDc := hD.sub (ws' := [(ds, .inr (0, [.ref dr, .ref sv])), (dr, .inr (2, [.ref rr, .int (nI (((len + 1) + 1) + 4))])), (rr, .inl ((cT 0), 1000, .inl g_35))]) [0, 1, 2] (by decide) rfl
  have hFc := va_free (wc := [(ds, .inr (0, [.ref dr, .ref sv])), (dr, .inr (2, [.ref rr, .int (nI (((len + 1) + 1) + 4))])), (rr, .inl ((cT 0), 1000, .inl g_35))]) hD hS hA [0, 1, 2] rfl
  refine va_calli (va_runV (C := "DoorServer") (As := []) (rest := []) ⟨hx, hb, hml, hown, hg⟩ (c_closed l dC dI cT H.size ds dr sv rr (((len + 1) + 1) + 4) g_35 (by omega)) (cwV 0 hg (gI (List.forall_mem_append.mpr ⟨List.forall_mem_cons.mpr ⟨k_524, List.forall_mem_cons.mpr ⟨k_526, List.forall_mem_cons.mpr ⟨(big_sel (q := y_DS_closedDraft) (n := 2) (by decide +kernel)), List.forall_mem_cons.mpr ⟨k_1, fun _ h => absurd h List.not_mem_nil⟩⟩⟩⟩, List.forall_mem_cons.mpr ⟨k_527, fun _ h => h⟩⟩)) rfl rfl rfl (by decide +kernel) ⟨Nat.le_of_ble_eq_true rfl, Nat.le_of_ble_eq_true rfl⟩) ⟨fun a U g mk q => by obtain ⟨q0, q1, qP, qK, qD⟩ := q; exact ⟨q0, q1, qP, va_K.moved (u := U) (U := U.calling g mk a) (Vm.Alike.refl U.vm) qK, qD⟩, va_recv (q0 := 0) (ci := 0) hK hP rfl rfl, fun U hU hW => ⟨rfl, by rw [hU], by rw [hU]; exact hPc, va_K.moved hW.alike hK, hDc.weaken (fun _ _ _ _ => trivial)⟩⟩ rfl rfl hl.1 rfl (lv_room (Nat.le_of_ble_eq_true rfl)) d_DS_number_29 ⟨Nat.le_of_ble_eq_true rfl, Nat.le_of_ble_eq_true rfl⟩) hS (fun q _ h => hFc q h) hFc (fun rv9 u t H1 locs ht hvm hw hB hz1 hk1 hS => ?_)
  try dsimp only at hw hB
  obtain ⟨hP1, hK1, hD1⟩ := hB
  rw [ht] at hP1
  obtain ⟨rfl, hw⟩ := hw
  obtain ⟨hP, hD⟩ := va_join (wr := []) (w1 := [(ds, .inr (0, [.ref dr, .ref sv])), (dr, .inr (2, [.ref rr, .int (nI (((len + 1) + 1) + 4))])), (rr, .inl ((cT 0), 1000, .inl (upd (upd g_35 2 (nI (((len + 1) + 1) + 4) >>> (8 &&& 31))) 3 (nI (((len + 1) + 1) + 4) &&& 255))))]) hP hD [0, 1, 2] [] rfl rfl (by decide) (by decide) hk1 hFc hP1 hD1
  have hw37 := hw
  clear hPc hDc hFc hz1 hk1 hP1 hK1 hD1
  generalize H1 = H at hP hS ⊢
  have hP : va_P (dC, dI) vcl [(ds, .inr (0, [.ref dr, .ref sv])), (dr, .inr (2, [.ref rr, .int (nI (((len + 1) + 1) + 4))])), (rr, .inl ((cT 0), 1000, .inl (upd (upd g_35 2 (nI (((len + 1) + 1) + 4) >>> (8 &&& 31))) 3 (nI (((len + 1) + 1) + 4) &&& 255))))] H := hP
  have hD : va_D A [(ds, .inr (0, [.ref dr, .ref sv])), (dr, .inr (2, [.ref rr, .int (nI (((len + 1) + 1) + 4))])), (rr, .inl ((cT 0), 1000, .inl (upd (upd g_35 2 (nI (((len + 1) + 1) + 4) >>> (8 &&& 31))) 3 (nI (((len + 1) + 1) + 4) &&& 255))))] := hD
  refine lv_topi (fun x39 e38 => ?_)
  obtain rfl : x39 = nI (len + 6) := by rw [e38]; first | done | rfl
  have hP9 := hP.sub (ws' := [(ds, .inr (0, [.ref dr, .ref sv])), (dr, .inr (2, [.ref rr, .int (nI (((len + 1) + 1) + 4))])), (rr, .inl ((cT 0), 1000, .inl (upd (upd g_35 2 (nI (((len + 1) + 1) + 4) >>> (8 &&& 31))) 3 (nI (((len + 1) + 1) + 4) &&& 255))))]) [0, 1, 2] rfl
  have hD9 := hD.sub (ws' := [(ds, .inr (0, [.ref dr, .ref sv])), (dr, .inr (2, [.ref rr, .int (nI (((len + 1) + 1) + 4))])), (rr, .inl ((cT 0), 1000, .inl (upd (upd g_35 2 (nI (((len + 1) + 1) + 4) >>> (8 &&& 31))) 3 (nI (((len + 1) + 1) + 4) &&& 255))))]) [0, 1, 2] (by decide) rfl
  exact W.iret (v := nI (len + 6)) hx hb hr (fun t ht hW => ⟨⟨_, upd (upd g_35 2 (nI (((len + 1) + 1) + 4) >>> (8 &&& 31))) 3 (nI (((len + 1) + 1) + 4) &&& 255), rfl, ⟨rfl, fun h9 => AB_tell (by omega) (hw36.2.2 (AB_upd (AB_upd h9 (BY_and _)) (BY_and _)))⟩, by rw [ht]; exact hP9, va_K.moved hW.alike hK, hD9⟩, hS.F ht⟩) hS.2.2 d_DS_number_32
set_option maxHeartbeats 4000000 in
set_option maxRecDepth 100000 in
/-- name -/
theorem c_name (l : Launch) (dC : Nat → ClassId) (dI : Nat → Nat → Nat) (cT : Nat → ClassId) (sz : Nat) (ds : Nat) (dr : Nat) (sv : Nat) (rr : Nat) (len : Nat) (f : Nat → Int32) (x : Int32) (hx1 : ¬ x < 0) (hx2 : ¬ 31 < x) (hr9 : len + 2 + 3 ≤ 1000) : Met l y_DS_name (Cond.code y_DS_name b_DS_name 2 (Option.some Jvm.ClassFile.FieldType.int) :: BIG) ({ frames := 2, cells := 0, slots := 0, locals := 45 }) (va_Pc [.ref ds, .int x] (fun U => U.heap.size = sz ∧ va_P (dC, dI) vcl [(ds, .inr (0, [.ref dr, .ref sv])), (dr, .inr (2, [.ref rr, .int (nI len)])), (rr, .inl ((cT 0), 1000, .inl f))] U.heap ∧ va_K (dC, dI) vcl (tyL cT) U ∧ va_D (fun _ => True) [(ds, .inr (0, [.ref dr, .ref sv])), (dr, .inr (2, [.ref rr, .int (nI len)])), (rr, .inl ((cT 0), 1000, .inl f))])) (va_Qi (S := (Nat → Int32)) (fun rv9 u => match u with | g => rv9 = nI (len + 5) ∧ (AB f → AB g)) (fun u t => match u with | g => va_P (dC, dI) vcl [(ds, .inr (0, [.ref dr, .ref sv])), (dr, .inr (2, [.ref rr, .int (nI (len + 5))])), (rr, .inl ((cT 0), 1000, .inl g))] t.heap ∧ va_K (dC, dI) vcl (tyL cT) t ∧ va_D (va_A [(ds, .inr (0, [.ref dr, .ref sv])), (dr, .inr (2, [.ref rr, .int (nI len)])), (rr, .inl ((cT 0), 1000, .inl f))] sz) [(ds, .inr (0, [.ref dr, .ref sv])), (dr, .inr (2, [.ref rr, .int (nI (len + 5))])), (rr, .inl ((cT 0), 1000, .inl g))]) (va_A [(ds, .inr (0, [.ref dr, .ref sv])), (dr, .inr (2, [.ref rr, .int (nI len)])), (rr, .inl ((cT 0), 1000, .inl f))] sz)) 0 0 (va_A [(ds, .inr (0, [.ref dr, .ref sv])), (dr, .inr (2, [.ref rr, .int (nI len)])), (rr, .inl ((cT 0), 1000, .inl f))] sz) := by
  refine Met.ofW (cc := b_DS_name) (maxL := 2) (ret := (Option.some Jvm.ClassFile.FieldType.int)) (by decide) rfl ?_
  intro p e s m args below meth c s₁ B hml hv
  obtain ⟨hargs, hsz, hP, hK, hD0⟩ := hv
  have hx := B.exec
  have hb := B.bytes
  have hr := B.returns
  have hts := atoms_spec (ws := (Cond.code y_DS_name b_DS_name 2 (Option.some Jvm.ClassFile.FieldType.int) :: BIG)) B.pre
  have hg : ∀ w ∈ BIG, w.before _ s = true := fun w h => hts w (List.mem_cons_of_mem _ h)
  have hown : s.vm.findClass "DoorServer" = some m.cls := findClass_of_methodNamed B.named
  have hlocks := B.notSynchronized
  subst hsz
  have hD := hD0.self (sz := s.heap.size)
  generalize hAe : va_A [(ds, .inr (0, [.ref dr, .ref sv])), (dr, .inr (2, [.ref rr, .int (nI len)])), (rr, .inl ((cT 0), 1000, .inl f))] s.heap.size = A at hD ⊢
  have hA : ∀ q : Nat, s.heap.size ≤ q → A q := fun q h => by rw [← hAe]; exact Or.inr h
  have hS : va_S A s.heap s.heap [] := va_S.rf
  have hl := lv_entry ([.ref ds, .int x]) (n := 2) (Nat.le_of_ble_eq_true rfl)
  refine W.eq (g2 := entryFrame m (List.toArray [.ref ds, .int x]) 2) (by rw [hargs]) ?_
  rw [lg_entry_eq]
  generalize (lg_sl ([.ref ds, .int x]) ++ List.replicate (2 - (lg_sl ([.ref ds, .int x])).length) Slot.unset).toArray = ls at hl ⊢
  have hl : lv_has ls 2 [(0, .ref ds), (1, .int x)] := hl
  change W p l e ({ frames := 2, cells := 0, slots := 0, locals := 45 } : Room) s m args below meth c s.heap [] 0 0 _ _
  have hP : va_P (dC, dI) vcl [(ds, .inr (0, [.ref dr, .ref sv])), (dr, .inr (2, [.ref rr, .int (nI len)])), (rr, .inl ((cT 0), 1000, .inl f))] s.heap := hP
  refine lv_iload_n hx hb d_DS_name_0 rfl (lv_at hl 1 rfl) ?_
  have hPc := hP.sub (ws' := []) [] rfl
  have hDc := hD.sub (ws' := []) [] (by decide) rfl
  have hFc := va_free (wc := []) hD hS hA [] rfl
  refine va_callv (va_runS (As := [.int x]) (rest := []) ⟨hx, hb, hml, hown, hg⟩ (c_requireUser l dC dI cT s.heap.size x (hx1) (hx2)) (va_cwS 1 hg (gI (List.forall_mem_append.mpr ⟨List.forall_mem_cons.mpr ⟨k_475, List.forall_mem_cons.mpr ⟨k_476, List.forall_mem_cons.mpr ⟨k_1, fun _ h => absurd h List.not_mem_nil⟩⟩⟩, List.forall_mem_cons.mpr ⟨k_477, fun _ h => h⟩⟩)) rfl rfl rfl (by decide +kernel) ⟨Nat.le_of_ble_eq_true rfl, Nat.le_of_ble_eq_true rfl⟩) ⟨fun a U g mk q => by obtain ⟨q0, q1, qP, qK, qD⟩ := q; exact ⟨q0, q1, qP, va_K.moved (u := U) (U := U.calling g mk a) (Vm.Alike.refl U.vm) qK, qD⟩, fun U hU hW => ⟨rfl, by rw [hU], by rw [hU]; exact hPc, va_K.moved hW.alike hK, hDc.weaken (fun _ _ _ _ => trivial)⟩⟩ rfl rfl hl.1 rfl (lv_room (Nat.le_of_ble_eq_true rfl)) d_DS_name_1 ⟨Nat.le_of_ble_eq_true rfl, Nat.le_of_ble_eq_true rfl⟩) hS (fun q _ h => hFc q h) hFc (fun u t H1 locs ht hvm hw hB hz1 hk1 hS => ?_)
  try dsimp only at hw hB
  obtain ⟨hP1, hK1, hD1⟩ := hB
  rw [ht] at hP1
  obtain ⟨hP, hD⟩ := va_join (wr := [(ds, .inr (0, [.ref dr, .ref sv])), (dr, .inr (2, [.ref rr, .int (nI len)])), (rr, .inl ((cT 0), 1000, .inl f))]) (w1 := []) hP hD [] [0, 1, 2] rfl rfl (by decide) (by decide) hk1 hFc hP1 hD1
  have hw40 := hw
  clear hPc hDc hFc hz1 hk1 hP1 hK1 hD1
  generalize H1 = H at hP hS ⊢
  have hP : va_P (dC, dI) vcl [(ds, .inr (0, [.ref dr, .ref sv])), (dr, .inr (2, [.ref rr, .int (nI len)])), (rr, .inl ((cT 0), 1000, .inl f))] H := hP
  have hD : va_D A [(ds, .inr (0, [.ref dr, .ref sv])), (dr, .inr (2, [.ref rr, .int (nI len)])), (rr, .inl ((cT 0), 1000, .inl f))] := hD
  refine lv_aload_n hx hb d_DS_name_4 rfl (lv_at hl 0 rfl) ?_
  refine lv_iconst (v := 3) hx hb d_DS_name_5 (by decide) ?_
  refine lv_topi (fun x42 e41 => ?_)
  obtain rfl : x42 = nI 3 := by rw [e41]; rfl
  have hPc := hP.sub (ws' := [(ds, .inr (0, [.ref dr, .ref sv])), (dr, .inr (2, [.ref rr, .int (nI len)])), (rr, .inl ((cT 0), 1000, .inl f))]) [0, 1, 2] rfl
  have hDc := hD.sub (ws' := [(ds, .inr (0, [.ref dr, .ref sv])), (dr, .inr (2, [.ref rr, .int (nI len)])), (rr, .inl ((cT 0), 1000, .inl f))]) [0, 1, 2] (by decide) rfl
  have hFc := va_free (wc := [(ds, .inr (0, [.ref dr, .ref sv])), (dr, .inr (2, [.ref rr, .int (nI len)])), (rr, .inl ((cT 0), 1000, .inl f))]) hD hS hA [0, 1, 2] rfl
  refine va_callv (va_runV (C := "DoorServer") (As := [.int (nI 3)]) (rest := []) ⟨hx, hb, hml, hown, hg⟩ (c_room l dC dI cT H.size ds dr sv rr len f 3 (hr9)) (cwV 1 hg (gI (List.forall_mem_append.mpr ⟨List.forall_mem_cons.mpr ⟨k_500, List.forall_mem_cons.mpr ⟨k_502, List.forall_mem_cons.mpr ⟨(big_sel (q := y_DS_requireRoom) (n := 2) (by decide +kernel)), List.forall_mem_cons.mpr ⟨k_1, fun _ h => absurd h List.not_mem_nil⟩⟩⟩⟩, List.forall_mem_cons.mpr ⟨k_503, fun _ h => h⟩⟩)) rfl rfl rfl (by decide +kernel) ⟨Nat.le_of_ble_eq_true rfl, Nat.le_of_ble_eq_true rfl⟩) ⟨fun a U g mk q => by obtain ⟨q0, q1, qP, qK, qD⟩ := q; exact ⟨q0, q1, qP, va_K.moved (u := U) (U := U.calling g mk a) (Vm.Alike.refl U.vm) qK, qD⟩, va_recv (q0 := 0) (ci := 0) hK hP rfl rfl, fun U hU hW => ⟨rfl, by rw [hU], by rw [hU]; exact hPc, va_K.moved hW.alike hK, hDc.weaken (fun _ _ _ _ => trivial)⟩⟩ rfl rfl hl.1 rfl (lv_room (Nat.le_of_ble_eq_true rfl)) d_DS_name_6 ⟨Nat.le_of_ble_eq_true rfl, Nat.le_of_ble_eq_true rfl⟩) hS (fun q _ h => hFc q h) hFc (fun u t H1 locs ht hvm hw hB hz1 hk1 hS => ?_)
  try dsimp only at hw hB
  obtain ⟨hP1, hK1, hD1⟩ := hB
  rw [ht] at hP1
  obtain ⟨hP, hD⟩ := va_join (wr := []) (w1 := [(ds, .inr (0, [.ref dr, .ref sv])), (dr, .inr (2, [.ref rr, .int (nI len)])), (rr, .inl ((cT 0), 1000, .inl f))]) hP hD [0, 1, 2] [] rfl rfl (by decide) (by decide) hk1 hFc hP1 hD1
  have hw43 := hw
  clear hPc hDc hFc hz1 hk1 hP1 hK1 hD1
  generalize H1 = H at hP hS ⊢
  have hP : va_P (dC, dI) vcl [(ds, .inr (0, [.ref dr, .ref sv])), (dr, .inr (2, [.ref rr, .int (nI len)])), (rr, .inl ((cT 0), 1000, .inl f))] H := hP
  have hD : va_D A [(ds, .inr (0, [.ref dr, .ref sv])), (dr, .inr (2, [.ref rr, .int (nI len)])), (rr, .inl ((cT 0), 1000, .inl f))] := hD
  refine lv_aload_n hx hb d_DS_name_9 rfl (lv_at hl 0 rfl) ?_
  refine va_get (D := (dC, dI)) (ci := 0) (v := (.ref dr)) (C := R_DS) (T := F_DS) (N := 2) hx hb hg in_DS hown hK hP 0 rfl rfl 0 (by decide) (hg _ k_368) (fun _ h9 => h9) rfl d_DS_name_10 ?_
  refine lv_iconst (v := 1) hx hb d_DS_name_13 (by decide) ?_
  refine lv_iconst (v := 3) hx hb d_DS_name_14 (by decide) ?_
  have hPc := hP.sub (ws' := [(dr, .inr (2, [.ref rr, .int (nI len)])), (rr, .inl ((cT 0), 1000, .inl f))]) [1, 2] rfl
  have hDc := hD.sub (ws' := [(dr, .inr (2, [.ref rr, .int (nI len)])), (rr, .inl ((cT 0), 1000, .inl f))]) [1, 2] (by decide) rfl
  have hFc := va_free (wc := [(dr, .inr (2, [.ref rr, .int (nI len)])), (rr, .inl ((cT 0), 1000, .inl f))]) hD hS hA [1, 2] rfl
  refine va_callv (va_runV (C := "DoorServer$Packet") (As := [.int 1, .int 3]) (rest := []) ⟨hx, hb, hml, hown, hg⟩ (c_Pk_open l dC dI cT H.size dr rr 1000 len f 1 3 (by omega) (by decide)) (cwV 2 hg (gI (List.forall_mem_append.mpr ⟨List.forall_mem_cons.mpr ⟨k_519, List.forall_mem_cons.mpr ⟨k_520, List.forall_mem_cons.mpr ⟨k_521, List.forall_mem_cons.mpr ⟨k_3, fun _ h => absurd h List.not_mem_nil⟩⟩⟩⟩, List.forall_mem_cons.mpr ⟨k_522, fun _ h => h⟩⟩)) rfl rfl rfl (by decide +kernel) ⟨Nat.le_of_ble_eq_true rfl, Nat.le_of_ble_eq_true rfl⟩) ⟨fun a U g mk q => by obtain ⟨q0, q1, qP, qK, qD⟩ := q; exact ⟨q0, q1, qP, va_K.moved (u := U) (U := U.calling g mk a) (Vm.Alike.refl U.vm) qK, qD⟩, va_recv (q0 := 1) (ci := 2) hK hP rfl rfl, fun U hU hW => ⟨rfl, by rw [hU], by rw [hU]; exact hPc, va_K.moved hW.alike hK, hDc.weaken (fun _ _ _ _ => trivial)⟩⟩ rfl rfl hl.1 rfl (lv_room (Nat.le_of_ble_eq_true rfl)) d_DS_name_15 ⟨Nat.le_of_ble_eq_true rfl, Nat.le_of_ble_eq_true rfl⟩) hS (fun q _ h => hFc q h) hFc (fun u t H1 locs ht hvm hw hB hz1 hk1 hS => ?_)
  try dsimp only at hw hB
  obtain ⟨hP1, hK1, hD1⟩ := hB
  rw [ht] at hP1
  obtain ⟨hP, hD⟩ := va_join (wr := [(ds, .inr (0, [.ref dr, .ref sv]))]) (w1 := [(dr, .inr (2, [.ref rr, .int (nI ((len + 1) + 1))])), (rr, .inl ((cT 0), 1000, .inl (upd (upd f len (1 &&& 255)) (len + 1) ((3 + 2) &&& 255))))]) hP hD [1, 2] [0] rfl rfl (by decide) (by decide) hk1 hFc hP1 hD1
  have hw44 := hw
  clear hPc hDc hFc hz1 hk1 hP1 hK1 hD1
  generalize H1 = H at hP hS ⊢
  have hP : va_P (dC, dI) vcl [(ds, .inr (0, [.ref dr, .ref sv])), (dr, .inr (2, [.ref rr, .int (nI ((len + 1) + 1))])), (rr, .inl ((cT 0), 1000, .inl (upd (upd f len (1 &&& 255)) (len + 1) ((3 + 2) &&& 255))))] H := hP
  have hD : va_D A [(ds, .inr (0, [.ref dr, .ref sv])), (dr, .inr (2, [.ref rr, .int (nI ((len + 1) + 1))])), (rr, .inl ((cT 0), 1000, .inl (upd (upd f len (1 &&& 255)) (len + 1) ((3 + 2) &&& 255))))] := hD
  refine lv_aload_n hx hb d_DS_name_18 rfl (lv_at hl 0 rfl) ?_
  refine va_get (D := (dC, dI)) (ci := 0) (v := (.ref dr)) (C := R_DS) (T := F_DS) (N := 2) hx hb hg in_DS hown hK hP 0 rfl rfl 0 (by decide) (hg _ k_368) (fun _ h9 => h9) rfl d_DS_name_19 ?_
  refine lv_bipush (v := 117) hx hb d_DS_name_22 (by decide) ?_
  have hPc := hP.sub (ws' := [(dr, .inr (2, [.ref rr, .int (nI ((len + 1) + 1))])), (rr, .inl ((cT 0), 1000, .inl (upd (upd f len (1 &&& 255)) (len + 1) ((3 + 2) &&& 255))))]) [1, 2] rfl
  have hDc := hD.sub (ws' := [(dr, .inr (2, [.ref rr, .int (nI ((len + 1) + 1))])), (rr, .inl ((cT 0), 1000, .inl (upd (upd f len (1 &&& 255)) (len + 1) ((3 + 2) &&& 255))))]) [1, 2] (by decide) rfl
  have hFc := va_free (wc := [(dr, .inr (2, [.ref rr, .int (nI ((len + 1) + 1))])), (rr, .inl ((cT 0), 1000, .inl (upd (upd f len (1 &&& 255)) (len + 1) ((3 + 2) &&& 255))))]) hD hS hA [1, 2] rfl
  refine va_callv (va_runU (C := "DoorServer$Packet") (owner := "DoorServer$Bytes") (x := y_Pk_append) (As := [.int 117]) (rest := []) ⟨hx, hb, hml, hown, hg⟩ (c_Pk_append l dC dI cT H.size dr rr 1000 ((len + 1) + 1) (upd (upd f len (1 &&& 255)) (len + 1) ((3 + 2) &&& 255)) 117 (by omega) (by decide)) (va_cwU 1 hg (gI (List.forall_mem_append.mpr ⟨List.forall_mem_cons.mpr ⟨k_523, List.forall_mem_cons.mpr ⟨k_73, List.forall_mem_cons.mpr ⟨k_75, List.forall_mem_cons.mpr ⟨k_76, List.forall_mem_cons.mpr ⟨k_2, fun _ h => absurd h List.not_mem_nil⟩⟩⟩⟩⟩, List.forall_mem_cons.mpr ⟨k_77, fun _ h => h⟩⟩)) rfl rfl rfl rfl (by decide +kernel) ⟨Nat.le_of_ble_eq_true rfl, Nat.le_of_ble_eq_true rfl⟩) ⟨fun a U g mk q => by obtain ⟨q0, q1, qP, qK, qD⟩ := q; exact ⟨q0, q1, qP, va_K.moved (u := U) (U := U.calling g mk a) (Vm.Alike.refl U.vm) qK, qD⟩, va_recv (q0 := 1) (ci := 2) hK hP rfl rfl, fun U hU hW => ⟨rfl, by rw [hU], by rw [hU]; exact hPc, va_K.moved hW.alike hK, hDc.weaken (fun _ _ _ _ => trivial)⟩⟩ rfl rfl hl.1 rfl (lv_room (Nat.le_of_ble_eq_true rfl)) d_DS_name_24 ⟨Nat.le_of_ble_eq_true rfl, Nat.le_of_ble_eq_true rfl⟩) hS (fun q _ h => hFc q h) hFc (fun u t H1 locs ht hvm hw hB hz1 hk1 hS => ?_)
  try dsimp only at hw hB
  obtain ⟨hP1, hK1, hD1⟩ := hB
  rw [ht] at hP1
  obtain ⟨hP, hD⟩ := va_join (wr := [(ds, .inr (0, [.ref dr, .ref sv]))]) (w1 := [(dr, .inr (2, [.ref rr, .int (nI (((len + 1) + 1) + 1))])), (rr, .inl ((cT 0), 1000, .inl (upd (upd (upd f len (1 &&& 255)) (len + 1) ((3 + 2) &&& 255)) ((len + 1) + 1) (117 &&& 255))))]) hP hD [1, 2] [0] rfl rfl (by decide) (by decide) hk1 hFc hP1 hD1
  have hw45 := hw
  clear hPc hDc hFc hz1 hk1 hP1 hK1 hD1
  generalize H1 = H at hP hS ⊢
  have hP : va_P (dC, dI) vcl [(ds, .inr (0, [.ref dr, .ref sv])), (dr, .inr (2, [.ref rr, .int (nI (((len + 1) + 1) + 1))])), (rr, .inl ((cT 0), 1000, .inl (upd (upd (upd f len (1 &&& 255)) (len + 1) ((3 + 2) &&& 255)) ((len + 1) + 1) (117 &&& 255))))] H := hP
  have hD : va_D A [(ds, .inr (0, [.ref dr, .ref sv])), (dr, .inr (2, [.ref rr, .int (nI (((len + 1) + 1) + 1))])), (rr, .inl ((cT 0), 1000, .inl (upd (upd (upd f len (1 &&& 255)) (len + 1) ((3 + 2) &&& 255)) ((len + 1) + 1) (117 &&& 255))))] := hD
  refine lv_aload_n hx hb d_DS_name_27 rfl (lv_at hl 0 rfl) ?_
  refine va_get (D := (dC, dI)) (ci := 0) (v := (.ref dr)) (C := R_DS) (T := F_DS) (N := 2) hx hb hg in_DS hown hK hP 0 rfl rfl 0 (by decide) (hg _ k_368) (fun _ h9 => h9) rfl d_DS_name_28 ?_
  refine lv_bipush (v := 48) hx hb d_DS_name_31 (by decide) ?_
  refine lv_iload_n hx hb d_DS_name_33 rfl (lv_at hl 1 rfl) ?_
  refine lv_bipush (v := 10) hx hb d_DS_name_34 (by decide) ?_
  refine lv_idiv hx hb d_DS_name_36 (by decide) ?_
  refine lv_iadd hx hb d_DS_name_37 ?_
  have hPc := hP.sub (ws' := [(dr, .inr (2, [.ref rr, .int (nI (((len + 1) + 1) + 1))])), (rr, .inl ((cT 0), 1000, .inl (upd (upd (upd f len (1 &&& 255)) (len + 1) ((3 + 2) &&& 255)) ((len + 1) + 1) (117 &&& 255))))]) [1, 2] rfl
  have hDc := hD.sub (ws' := [(dr, .inr (2, [.ref rr, .int (nI (((len + 1) + 1) + 1))])), (rr, .inl ((cT 0), 1000, .inl (upd (upd (upd f len (1 &&& 255)) (len + 1) ((3 + 2) &&& 255)) ((len + 1) + 1) (117 &&& 255))))]) [1, 2] (by decide) rfl
  have hFc := va_free (wc := [(dr, .inr (2, [.ref rr, .int (nI (((len + 1) + 1) + 1))])), (rr, .inl ((cT 0), 1000, .inl (upd (upd (upd f len (1 &&& 255)) (len + 1) ((3 + 2) &&& 255)) ((len + 1) + 1) (117 &&& 255))))]) hD hS hA [1, 2] rfl
  refine va_callv (va_runU (C := "DoorServer$Packet") (owner := "DoorServer$Bytes") (x := y_Pk_append) (As := [.int (48 + (x / 10))]) (rest := []) ⟨hx, hb, hml, hown, hg⟩ (c_Pk_append l dC dI cT H.size dr rr 1000 (((len + 1) + 1) + 1) (upd (upd (upd f len (1 &&& 255)) (len + 1) ((3 + 2) &&& 255)) ((len + 1) + 1) (117 &&& 255)) (48 + (x / 10)) (by omega) (by decide)) (va_cwU 1 hg (gI (List.forall_mem_append.mpr ⟨List.forall_mem_cons.mpr ⟨k_523, List.forall_mem_cons.mpr ⟨k_73, List.forall_mem_cons.mpr ⟨k_75, List.forall_mem_cons.mpr ⟨k_76, List.forall_mem_cons.mpr ⟨k_2, fun _ h => absurd h List.not_mem_nil⟩⟩⟩⟩⟩, List.forall_mem_cons.mpr ⟨k_77, fun _ h => h⟩⟩)) rfl rfl rfl rfl (by decide +kernel) ⟨Nat.le_of_ble_eq_true rfl, Nat.le_of_ble_eq_true rfl⟩) ⟨fun a U g mk q => by obtain ⟨q0, q1, qP, qK, qD⟩ := q; exact ⟨q0, q1, qP, va_K.moved (u := U) (U := U.calling g mk a) (Vm.Alike.refl U.vm) qK, qD⟩, va_recv (q0 := 1) (ci := 2) hK hP rfl rfl, fun U hU hW => ⟨rfl, by rw [hU], by rw [hU]; exact hPc, va_K.moved hW.alike hK, hDc.weaken (fun _ _ _ _ => trivial)⟩⟩ rfl rfl hl.1 rfl (lv_room (Nat.le_of_ble_eq_true rfl)) d_DS_name_38 ⟨Nat.le_of_ble_eq_true rfl, Nat.le_of_ble_eq_true rfl⟩) hS (fun q _ h => hFc q h) hFc (fun u t H1 locs ht hvm hw hB hz1 hk1 hS => ?_)
  try dsimp only at hw hB
  obtain ⟨hP1, hK1, hD1⟩ := hB
  rw [ht] at hP1
  obtain ⟨hP, hD⟩ := va_join (wr := [(ds, .inr (0, [.ref dr, .ref sv]))]) (w1 := [(dr, .inr (2, [.ref rr, .int (nI ((((len + 1) + 1) + 1) + 1))])), (rr, .inl ((cT 0), 1000, .inl (upd (upd (upd (upd f len (1 &&& 255)) (len + 1) ((3 + 2) &&& 255)) ((len + 1) + 1) (117 &&& 255)) (((len + 1) + 1) + 1) ((48 + (x / 10)) &&& 255))))]) hP hD [1, 2] [0] rfl rfl (by decide) (by decide) hk1 hFc hP1 hD1
  have hw46 := hw
  clear hPc hDc hFc hz1 hk1 hP1 hK1 hD1
  generalize H1 = H at hP hS ⊢
  have hP : va_P (dC, dI) vcl [(ds, .inr (0, [.ref dr, .ref sv])), (dr, .inr (2, [.ref rr, .int (nI ((((len + 1) + 1) + 1) + 1))])), (rr, .inl ((cT 0), 1000, .inl (upd (upd (upd (upd f len (1 &&& 255)) (len + 1) ((3 + 2) &&& 255)) ((len + 1) + 1) (117 &&& 255)) (((len + 1) + 1) + 1) ((48 + (x / 10)) &&& 255))))] H := hP
  have hD : va_D A [(ds, .inr (0, [.ref dr, .ref sv])), (dr, .inr (2, [.ref rr, .int (nI ((((len + 1) + 1) + 1) + 1))])), (rr, .inl ((cT 0), 1000, .inl (upd (upd (upd (upd f len (1 &&& 255)) (len + 1) ((3 + 2) &&& 255)) ((len + 1) + 1) (117 &&& 255)) (((len + 1) + 1) + 1) ((48 + (x / 10)) &&& 255))))] := hD
  refine lv_aload_n hx hb d_DS_name_41 rfl (lv_at hl 0 rfl) ?_
  refine va_get (D := (dC, dI)) (ci := 0) (v := (.ref dr)) (C := R_DS) (T := F_DS) (N := 2) hx hb hg in_DS hown hK hP 0 rfl rfl 0 (by decide) (hg _ k_368) (fun _ h9 => h9) rfl d_DS_name_42 ?_
  refine lv_bipush (v := 48) hx hb d_DS_name_45 (by decide) ?_
  refine lv_iload_n hx hb d_DS_name_47 rfl (lv_at hl 1 rfl) ?_
  refine lv_bipush (v := 10) hx hb d_DS_name_48 (by decide) ?_
  refine lv_irem hx hb d_DS_name_50 (by decide) ?_
  refine lv_iadd hx hb d_DS_name_51 ?_
  have hPc := hP.sub (ws' := [(dr, .inr (2, [.ref rr, .int (nI ((((len + 1) + 1) + 1) + 1))])), (rr, .inl ((cT 0), 1000, .inl (upd (upd (upd (upd f len (1 &&& 255)) (len + 1) ((3 + 2) &&& 255)) ((len + 1) + 1) (117 &&& 255)) (((len + 1) + 1) + 1) ((48 + (x / 10)) &&& 255))))]) [1, 2] rfl
  have hDc := hD.sub (ws' := [(dr, .inr (2, [.ref rr, .int (nI ((((len + 1) + 1) + 1) + 1))])), (rr, .inl ((cT 0), 1000, .inl (upd (upd (upd (upd f len (1 &&& 255)) (len + 1) ((3 + 2) &&& 255)) ((len + 1) + 1) (117 &&& 255)) (((len + 1) + 1) + 1) ((48 + (x / 10)) &&& 255))))]) [1, 2] (by decide) rfl
  have hFc := va_free (wc := [(dr, .inr (2, [.ref rr, .int (nI ((((len + 1) + 1) + 1) + 1))])), (rr, .inl ((cT 0), 1000, .inl (upd (upd (upd (upd f len (1 &&& 255)) (len + 1) ((3 + 2) &&& 255)) ((len + 1) + 1) (117 &&& 255)) (((len + 1) + 1) + 1) ((48 + (x / 10)) &&& 255))))]) hD hS hA [1, 2] rfl
  refine va_callv (va_runU (C := "DoorServer$Packet") (owner := "DoorServer$Bytes") (x := y_Pk_append) (As := [.int (48 + (x - x / 10 * 10))]) (rest := []) ⟨hx, hb, hml, hown, hg⟩ (c_Pk_append l dC dI cT H.size dr rr 1000 ((((len + 1) + 1) + 1) + 1) (upd (upd (upd (upd f len (1 &&& 255)) (len + 1) ((3 + 2) &&& 255)) ((len + 1) + 1) (117 &&& 255)) (((len + 1) + 1) + 1) ((48 + (x / 10)) &&& 255)) (48 + (x - x / 10 * 10)) (by omega) (by decide)) (va_cwU 1 hg (gI (List.forall_mem_append.mpr ⟨List.forall_mem_cons.mpr ⟨k_523, List.forall_mem_cons.mpr ⟨k_73, List.forall_mem_cons.mpr ⟨k_75, List.forall_mem_cons.mpr ⟨k_76, List.forall_mem_cons.mpr ⟨k_2, fun _ h => absurd h List.not_mem_nil⟩⟩⟩⟩⟩, List.forall_mem_cons.mpr ⟨k_77, fun _ h => h⟩⟩)) rfl rfl rfl rfl (by decide +kernel) ⟨Nat.le_of_ble_eq_true rfl, Nat.le_of_ble_eq_true rfl⟩) ⟨fun a U g mk q => by obtain ⟨q0, q1, qP, qK, qD⟩ := q; exact ⟨q0, q1, qP, va_K.moved (u := U) (U := U.calling g mk a) (Vm.Alike.refl U.vm) qK, qD⟩, va_recv (q0 := 1) (ci := 2) hK hP rfl rfl, fun U hU hW => ⟨rfl, by rw [hU], by rw [hU]; exact hPc, va_K.moved hW.alike hK, hDc.weaken (fun _ _ _ _ => trivial)⟩⟩ rfl rfl hl.1 rfl (lv_room (Nat.le_of_ble_eq_true rfl)) d_DS_name_52 ⟨Nat.le_of_ble_eq_true rfl, Nat.le_of_ble_eq_true rfl⟩) hS (fun q _ h => hFc q h) hFc (fun u t H1 locs ht hvm hw hB hz1 hk1 hS => ?_)
  try dsimp only at hw hB
  obtain ⟨hP1, hK1, hD1⟩ := hB
  rw [ht] at hP1
  obtain ⟨hP, hD⟩ := va_join (wr := [(ds, .inr (0, [.ref dr, .ref sv]))]) (w1 := [(dr, .inr (2, [.ref rr, .int (nI (((((len + 1) + 1) + 1) + 1) + 1))])), (rr, .inl ((cT 0), 1000, .inl (upd (upd (upd (upd (upd f len (1 &&& 255)) (len + 1) ((3 + 2) &&& 255)) ((len + 1) + 1) (117 &&& 255)) (((len + 1) + 1) + 1) ((48 + (x / 10)) &&& 255)) ((((len + 1) + 1) + 1) + 1) ((48 + (x - x / 10 * 10)) &&& 255))))]) hP hD [1, 2] [0] rfl rfl (by decide) (by decide) hk1 hFc hP1 hD1
  have hw47 := hw
  clear hPc hDc hFc hz1 hk1 hP1 hK1 hD1
  generalize H1 = H at hP hS ⊢
  have hP : va_P (dC, dI) vcl [(ds, .inr (0, [.ref dr, .ref sv])), (dr, .inr (2, [.ref rr, .int (nI (((((len + 1) + 1) + 1) + 1) + 1))])), (rr, .inl ((cT 0), 1000, .inl (upd (upd (upd (upd (upd f len (1 &&& 255)) (len + 1) ((3 + 2) &&& 255)) ((len + 1) + 1) (117 &&& 255)) (((len + 1) + 1) + 1) ((48 + (x / 10)) &&& 255)) ((((len + 1) + 1) + 1) + 1) ((48 + (x - x / 10 * 10)) &&& 255))))] H := hP
  have hD : va_D A [(ds, .inr (0, [.ref dr, .ref sv])), (dr, .inr (2, [.ref rr, .int (nI (((((len + 1) + 1) + 1) + 1) + 1))])), (rr, .inl ((cT 0), 1000, .inl (upd (upd (upd (upd (upd f len (1 &&& 255)) (len + 1) ((3 + 2) &&& 255)) ((len + 1) + 1) (117 &&& 255)) (((len + 1) + 1) + 1) ((48 + (x / 10)) &&& 255)) ((((len + 1) + 1) + 1) + 1) ((48 + (x - x / 10 * 10)) &&& 255))))] := hD
  refine lv_aload_n hx hb d_DS_name_55 rfl (lv_at hl 0 rfl) ?_
  have hPc := hP.sub (ws' := [(ds, .inr (0, [.ref dr, .ref sv])), (dr, .inr (2, [.ref rr, .int (nI (((((len + 1) + 1) + 1) + 1) + 1))])), (rr, .inl ((cT 0), 1000, .inl (upd (upd (upd (upd (upd f len (1 &&& 255)) (len + 1) ((3 + 2) &&& 255)) ((len + 1) + 1) (117 &&& 255)) (((len + 1) + 1) + 1) ((48 + (x / 10)) &&& 255)) ((((len + 1) + 1) + 1) + 1) ((48 + (x - x / 10 * 10)) &&& 255))))]) [0, 1, 2] rfl
  have hDc := hD.sub (ws' := [(ds, .inr (0, [.ref dr, .ref sv])), (dr, .inr (2, [.ref rr, .int (nI (((((len + 1) + 1) + 1) + 1) + 1))])), (rr, .inl ((cT 0), 1000, .inl (upd (upd (upd (upd (upd f len (1 &&& 255)) (len + 1) ((3 + 2) &&& 255)) ((len + 1) + 1) (117 &&& 255)) (((len + 1) + 1) + 1) ((48 + (x / 10)) &&& 255)) ((((len + 1) + 1) + 1) + 1) ((48 + (x - x / 10 * 10)) &&& 255))))]) [0, 1, 2] (by decide) rfl
  have hFc := va_free (wc := [(ds, .inr (0, [.ref dr, .ref sv])), (dr, .inr (2, [.ref rr, .int (nI (((((len + 1) + 1) + 1) + 1) + 1))])), (rr, .inl ((cT 0), 1000, .inl (upd (upd (upd (upd (upd f len (1 &&& 255)) (len + 1) ((3 + 2) &&& 255)) ((len + 1) + 1) (117 &&& 255)) (((len + 1) + 1) + 1) ((48 + (x / 10)) &&& 255)) ((((len + 1) + 1) + 1) + 1) ((48 + (x - x / 10 * 10)) &&& 255))))]) hD hS hA [0, 1, 2] rfl
  refine va_calli (va_runV (C := "DoorServer") (As := []) (rest := []) ⟨hx, hb, hml, hown, hg⟩ (c_closed l dC dI cT H.size ds dr sv rr (((((len + 1) + 1) + 1) + 1) + 1) (upd (upd (upd (upd (upd f len (1 &&& 255)) (len + 1) ((3 + 2) &&& 255)) ((len + 1) + 1) (117 &&& 255)) (((len + 1) + 1) + 1) ((48 + (x / 10)) &&& 255)) ((((len + 1) + 1) + 1) + 1) ((48 + (x - x / 10 * 10)) &&& 255)) (by omega)) (cwV 0 hg (gI (List.forall_mem_append.mpr ⟨List.forall_mem_cons.mpr ⟨k_524, List.forall_mem_cons.mpr ⟨k_526, List.forall_mem_cons.mpr ⟨(big_sel (q := y_DS_closedDraft) (n := 2) (by decide +kernel)), List.forall_mem_cons.mpr ⟨k_1, fun _ h => absurd h List.not_mem_nil⟩⟩⟩⟩, List.forall_mem_cons.mpr ⟨k_527, fun _ h => h⟩⟩)) rfl rfl rfl (by decide +kernel) ⟨Nat.le_of_ble_eq_true rfl, Nat.le_of_ble_eq_true rfl⟩) ⟨fun a U g mk q => by obtain ⟨q0, q1, qP, qK, qD⟩ := q; exact ⟨q0, q1, qP, va_K.moved (u := U) (U := U.calling g mk a) (Vm.Alike.refl U.vm) qK, qD⟩, va_recv (q0 := 0) (ci := 0) hK hP rfl rfl, fun U hU hW => ⟨rfl, by rw [hU], by rw [hU]; exact hPc, va_K.moved hW.alike hK, hDc.weaken (fun _ _ _ _ => trivial)⟩⟩ rfl rfl hl.1 rfl (lv_room (Nat.le_of_ble_eq_true rfl)) d_DS_name_56 ⟨Nat.le_of_ble_eq_true rfl, Nat.le_of_ble_eq_true rfl⟩) hS (fun q _ h => hFc q h) hFc (fun rv9 u t H1 locs ht hvm hw hB hz1 hk1 hS => ?_)
  try dsimp only at hw hB
  obtain ⟨hP1, hK1, hD1⟩ := hB
  rw [ht] at hP1
  obtain ⟨rfl, hw⟩ := hw
  obtain ⟨hP, hD⟩ := va_join (wr := []) (w1 := [(ds, .inr (0, [.ref dr, .ref sv])), (dr, .inr (2, [.ref rr, .int (nI (((((len + 1) + 1) + 1) + 1) + 1))])), (rr, .inl ((cT 0), 1000, .inl (upd (upd (upd (upd (upd (upd (upd f len (1 &&& 255)) (len + 1) ((3 + 2) &&& 255)) ((len + 1) + 1) (117 &&& 255)) (((len + 1) + 1) + 1) ((48 + (x / 10)) &&& 255)) ((((len + 1) + 1) + 1) + 1) ((48 + (x - x / 10 * 10)) &&& 255)) 2 (nI (((((len + 1) + 1) + 1) + 1) + 1) >>> (8 &&& 31))) 3 (nI (((((len + 1) + 1) + 1) + 1) + 1) &&& 255))))]) hP hD [0, 1, 2] [] rfl rfl (by decide) (by decide) hk1 hFc hP1 hD1
  have hw48 := hw
  clear hPc hDc hFc hz1 hk1 hP1 hK1 hD1
  generalize H1 = H at hP hS ⊢
  have hP : va_P (dC, dI) vcl [(ds, .inr (0, [.ref dr, .ref sv])), (dr, .inr (2, [.ref rr, .int (nI (((((len + 1) + 1) + 1) + 1) + 1))])), (rr, .inl ((cT 0), 1000, .inl (upd (upd (upd (upd (upd (upd (upd f len (1 &&& 255)) (len + 1) ((3 + 2) &&& 255)) ((len + 1) + 1) (117 &&& 255)) (((len + 1) + 1) + 1) ((48 + (x / 10)) &&& 255)) ((((len + 1) + 1) + 1) + 1) ((48 + (x - x / 10 * 10)) &&& 255)) 2 (nI (((((len + 1) + 1) + 1) + 1) + 1) >>> (8 &&& 31))) 3 (nI (((((len + 1) + 1) + 1) + 1) + 1) &&& 255))))] H := hP
  have hD : va_D A [(ds, .inr (0, [.ref dr, .ref sv])), (dr, .inr (2, [.ref rr, .int (nI (((((len + 1) + 1) + 1) + 1) + 1))])), (rr, .inl ((cT 0), 1000, .inl (upd (upd (upd (upd (upd (upd (upd f len (1 &&& 255)) (len + 1) ((3 + 2) &&& 255)) ((len + 1) + 1) (117 &&& 255)) (((len + 1) + 1) + 1) ((48 + (x / 10)) &&& 255)) ((((len + 1) + 1) + 1) + 1) ((48 + (x - x / 10 * 10)) &&& 255)) 2 (nI (((((len + 1) + 1) + 1) + 1) + 1) >>> (8 &&& 31))) 3 (nI (((((len + 1) + 1) + 1) + 1) + 1) &&& 255))))] := hD
  refine lv_topi (fun x50 e49 => ?_)
  obtain rfl : x50 = nI (len + 5) := by rw [e49]; first | done | rfl
  have hP9 := hP.sub (ws' := [(ds, .inr (0, [.ref dr, .ref sv])), (dr, .inr (2, [.ref rr, .int (nI (((((len + 1) + 1) + 1) + 1) + 1))])), (rr, .inl ((cT 0), 1000, .inl (upd (upd (upd (upd (upd (upd (upd f len (1 &&& 255)) (len + 1) ((3 + 2) &&& 255)) ((len + 1) + 1) (117 &&& 255)) (((len + 1) + 1) + 1) ((48 + (x / 10)) &&& 255)) ((((len + 1) + 1) + 1) + 1) ((48 + (x - x / 10 * 10)) &&& 255)) 2 (nI (((((len + 1) + 1) + 1) + 1) + 1) >>> (8 &&& 31))) 3 (nI (((((len + 1) + 1) + 1) + 1) + 1) &&& 255))))]) [0, 1, 2] rfl
  have hD9 := hD.sub (ws' := [(ds, .inr (0, [.ref dr, .ref sv])), (dr, .inr (2, [.ref rr, .int (nI (((((len + 1) + 1) + 1) + 1) + 1))])), (rr, .inl ((cT 0), 1000, .inl (upd (upd (upd (upd (upd (upd (upd f len (1 &&& 255)) (len + 1) ((3 + 2) &&& 255)) ((len + 1) + 1) (117 &&& 255)) (((len + 1) + 1) + 1) ((48 + (x / 10)) &&& 255)) ((((len + 1) + 1) + 1) + 1) ((48 + (x - x / 10 * 10)) &&& 255)) 2 (nI (((((len + 1) + 1) + 1) + 1) + 1) >>> (8 &&& 31))) 3 (nI (((((len + 1) + 1) + 1) + 1) + 1) &&& 255))))]) [0, 1, 2] (by decide) rfl
  exact W.iret (v := nI (len + 5)) hx hb hr (fun t ht hW => ⟨⟨_, upd (upd (upd (upd (upd (upd (upd f len (1 &&& 255)) (len + 1) ((3 + 2) &&& 255)) ((len + 1) + 1) (117 &&& 255)) (((len + 1) + 1) + 1) ((48 + (x / 10)) &&& 255)) ((((len + 1) + 1) + 1) + 1) ((48 + (x - x / 10 * 10)) &&& 255)) 2 (nI (((((len + 1) + 1) + 1) + 1) + 1) >>> (8 &&& 31))) 3 (nI (((((len + 1) + 1) + 1) + 1) + 1) &&& 255), rfl, ⟨rfl, fun h9 => AB_tell (by omega) (AB_upd (AB_upd (AB_upd (AB_upd (AB_upd h9 (BY_and _)) (BY_and _)) (BY_and _)) (BY_and _)) (BY_and _))⟩, by rw [ht]; exact hP9, va_K.moved hW.alike hK, hD9⟩, hS.F ht⟩) hS.2.2 d_DS_name_59
set_option maxHeartbeats 4000000 in
set_option maxRecDepth 100000 in
/-- hello -/
theorem c_hello (l : Launch) (dC : Nat → ClassId) (dI : Nat → Nat → Nat) (cT : Nat → ClassId) (sz : Nat) (ds : Nat) (dr : Nat) (sv : Nat) (rr : Nat) (len : Nat) (f : Nat → Int32) (x : Int32) (hx1 : ¬ x < 0) (hx2 : ¬ 255 < x) (hr9 : len + 2 + 5 ≤ 1000) : Met l y_DS_hello (Cond.code y_DS_hello b_DS_hello 2 (Option.some Jvm.ClassFile.FieldType.int) :: BIG) ({ frames := 3, cells := 0, slots := 0, locals := 70 }) (va_Pc [.ref ds, .int x] (fun U => U.heap.size = sz ∧ va_P (dC, dI) vcl [(ds, .inr (0, [.ref dr, .ref sv])), (dr, .inr (2, [.ref rr, .int (nI len)])), (rr, .inl ((cT 0), 1000, .inl f))] U.heap ∧ va_K (dC, dI) vcl (tyL cT) U ∧ va_D (fun _ => True) [(ds, .inr (0, [.ref dr, .ref sv])), (dr, .inr (2, [.ref rr, .int (nI len)])), (rr, .inl ((cT 0), 1000, .inl f))])) (va_Qi (S := (Nat → Int32)) (fun rv9 u => match u with | g => rv9 = nI (len + 7) ∧ (AB f → AB g)) (fun u t => match u with | g => va_P (dC, dI) vcl [(ds, .inr (0, [.ref dr, .ref sv])), (dr, .inr (2, [.ref rr, .int (nI (len + 7))])), (rr, .inl ((cT 0), 1000, .inl g))] t.heap ∧ va_K (dC, dI) vcl (tyL cT) t ∧ va_D (va_A [(ds, .inr (0, [.ref dr, .ref sv])), (dr, .inr (2, [.ref rr, .int (nI len)])), (rr, .inl ((cT 0), 1000, .inl f))] sz) [(ds, .inr (0, [.ref dr, .ref sv])), (dr, .inr (2, [.ref rr, .int (nI (len + 7))])), (rr, .inl ((cT 0), 1000, .inl g))]) (va_A [(ds, .inr (0, [.ref dr, .ref sv])), (dr, .inr (2, [.ref rr, .int (nI len)])), (rr, .inl ((cT 0), 1000, .inl f))] sz)) 0 0 (va_A [(ds, .inr (0, [.ref dr, .ref sv])), (dr, .inr (2, [.ref rr, .int (nI len)])), (rr, .inl ((cT 0), 1000, .inl f))] sz) := by
  refine Met.ofW (cc := b_DS_hello) (maxL := 2) (ret := (Option.some Jvm.ClassFile.FieldType.int)) (by decide) rfl ?_
  intro p e s m args below meth c s₁ B hml hv
  obtain ⟨hargs, hsz, hP, hK, hD0⟩ := hv
  have hx := B.exec
  have hb := B.bytes
  have hr := B.returns
  have hts := atoms_spec (ws := (Cond.code y_DS_hello b_DS_hello 2 (Option.some Jvm.ClassFile.FieldType.int) :: BIG)) B.pre
  have hg : ∀ w ∈ BIG, w.before _ s = true := fun w h => hts w (List.mem_cons_of_mem _ h)
  have hown : s.vm.findClass "DoorServer" = some m.cls := findClass_of_methodNamed B.named
  have hlocks := B.notSynchronized
  subst hsz
  have hD := hD0.self (sz := s.heap.size)
  generalize hAe : va_A [(ds, .inr (0, [.ref dr, .ref sv])), (dr, .inr (2, [.ref rr, .int (nI len)])), (rr, .inl ((cT 0), 1000, .inl f))] s.heap.size = A at hD ⊢
  have hA : ∀ q : Nat, s.heap.size ≤ q → A q := fun q h => by rw [← hAe]; exact Or.inr h
  have hS : va_S A s.heap s.heap [] := va_S.rf
  have hl := lv_entry ([.ref ds, .int x]) (n := 2) (Nat.le_of_ble_eq_true rfl)
  refine W.eq (g2 := entryFrame m (List.toArray [.ref ds, .int x]) 2) (by rw [hargs]) ?_
  rw [lg_entry_eq]
  generalize (lg_sl ([.ref ds, .int x]) ++ List.replicate (2 - (lg_sl ([.ref ds, .int x])).length) Slot.unset).toArray = ls at hl ⊢
  have hl : lv_has ls 2 [(0, .ref ds), (1, .int x)] := hl
  change W p l e ({ frames := 3, cells := 0, slots := 0, locals := 70 } : Room) s m args below meth c s.heap [] 0 0 _ _
  have hP : va_P (dC, dI) vcl [(ds, .inr (0, [.ref dr, .ref sv])), (dr, .inr (2, [.ref rr, .int (nI len)])), (rr, .inl ((cT 0), 1000, .inl f))] s.heap := hP
  refine lv_iload_n hx hb d_DS_hello_0 rfl (lv_at hl 1 rfl) ?_
  have hPc := hP.sub (ws' := []) [] rfl
  have hDc := hD.sub (ws' := []) [] (by decide) rfl
  have hFc := va_free (wc := []) hD hS hA [] rfl
  refine va_callv (va_runS (As := [.int x]) (rest := []) ⟨hx, hb, hml, hown, hg⟩ (c_requireByte l dC dI cT s.heap.size x (hx1) (hx2)) (va_cwS 1 hg (gI (List.forall_mem_append.mpr ⟨List.forall_mem_cons.mpr ⟨k_489, List.forall_mem_cons.mpr ⟨k_490, List.forall_mem_cons.mpr ⟨k_1, fun _ h => absurd h List.not_mem_nil⟩⟩⟩, List.forall_mem_cons.mpr ⟨k_491, fun _ h => h⟩⟩)) rfl rfl rfl (by decide +kernel) ⟨Nat.le_of_ble_eq_true rfl, Nat.le_of_ble_eq_true rfl⟩) ⟨fun a U g mk q => by obtain ⟨q0, q1, qP, qK, qD⟩ := q; exact ⟨q0, q1, qP, va_K.moved (u := U) (U := U.calling g mk a) (Vm.Alike.refl U.vm) qK, qD⟩, fun U hU hW => ⟨rfl, by rw [hU], by rw [hU]; exact hPc, va_K.moved hW.alike hK, hDc.weaken (fun _ _ _ _ => trivial)⟩⟩ rfl rfl hl.1 rfl (lv_room (Nat.le_of_ble_eq_true rfl)) d_DS_hello_1 ⟨Nat.le_of_ble_eq_true rfl, Nat.le_of_ble_eq_true rfl⟩) hS (fun q _ h => hFc q h) hFc (fun u t H1 locs ht hvm hw hB hz1 hk1 hS => ?_)
  try dsimp only at hw hB
  obtain ⟨hP1, hK1, hD1⟩ := hB
  rw [ht] at hP1
  obtain ⟨hP, hD⟩ := va_join (wr := [(ds, .inr (0, [.ref dr, .ref sv])), (dr, .inr (2, [.ref rr, .int (nI len)])), (rr, .inl ((cT 0), 1000, .inl f))]) (w1 := []) hP hD [] [0, 1, 2] rfl rfl (by decide) (by decide) hk1 hFc hP1 hD1
  have hw51 := hw
  clear hPc hDc hFc hz1 hk1 hP1 hK1 hD1
  generalize H1 = H at hP hS ⊢
  have hP : va_P (dC, dI) vcl [(ds, .inr (0, [.ref dr, .ref sv])), (dr, .inr (2, [.ref rr, .int (nI len)])), (rr, .inl ((cT 0), 1000, .inl f))] H := hP
  have hD : va_D A [(ds, .inr (0, [.ref dr, .ref sv])), (dr, .inr (2, [.ref rr, .int (nI len)])), (rr, .inl ((cT 0), 1000, .inl f))] := hD
  refine lv_aload_n hx hb d_DS_hello_4 rfl (lv_at hl 0 rfl) ?_
  refine lv_iconst (v := 5) hx hb d_DS_hello_5 (by decide) ?_
  refine lv_topi (fun x53 e52 => ?_)
  obtain rfl : x53 = nI 5 := by rw [e52]; rfl
  have hPc := hP.sub (ws' := [(ds, .inr (0, [.ref dr, .ref sv])), (dr, .inr (2, [.ref rr, .int (nI len)])), (rr, .inl ((cT 0), 1000, .inl f))]) [0, 1, 2] rfl
  have hDc := hD.sub (ws' := [(ds, .inr (0, [.ref dr, .ref sv])), (dr, .inr (2, [.ref rr, .int (nI len)])), (rr, .inl ((cT 0), 1000, .inl f))]) [0, 1, 2] (by decide) rfl
  have hFc := va_free (wc := [(ds, .inr (0, [.ref dr, .ref sv])), (dr, .inr (2, [.ref rr, .int (nI len)])), (rr, .inl ((cT 0), 1000, .inl f))]) hD hS hA [0, 1, 2] rfl
  refine va_callv (va_runV (C := "DoorServer") (As := [.int (nI 5)]) (rest := []) ⟨hx, hb, hml, hown, hg⟩ (c_room l dC dI cT H.size ds dr sv rr len f 5 (hr9)) (cwV 1 hg (gI (List.forall_mem_append.mpr ⟨List.forall_mem_cons.mpr ⟨k_500, List.forall_mem_cons.mpr ⟨k_502, List.forall_mem_cons.mpr ⟨(big_sel (q := y_DS_requireRoom) (n := 2) (by decide +kernel)), List.forall_mem_cons.mpr ⟨k_1, fun _ h => absurd h List.not_mem_nil⟩⟩⟩⟩, List.forall_mem_cons.mpr ⟨k_503, fun _ h => h⟩⟩)) rfl rfl rfl (by decide +kernel) ⟨Nat.le_of_ble_eq_true rfl, Nat.le_of_ble_eq_true rfl⟩) ⟨fun a U g mk q => by obtain ⟨q0, q1, qP, qK, qD⟩ := q; exact ⟨q0, q1, qP, va_K.moved (u := U) (U := U.calling g mk a) (Vm.Alike.refl U.vm) qK, qD⟩, va_recv (q0 := 0) (ci := 0) hK hP rfl rfl, fun U hU hW => ⟨rfl, by rw [hU], by rw [hU]; exact hPc, va_K.moved hW.alike hK, hDc.weaken (fun _ _ _ _ => trivial)⟩⟩ rfl rfl hl.1 rfl (lv_room (Nat.le_of_ble_eq_true rfl)) d_DS_hello_6 ⟨Nat.le_of_ble_eq_true rfl, Nat.le_of_ble_eq_true rfl⟩) hS (fun q _ h => hFc q h) hFc (fun u t H1 locs ht hvm hw hB hz1 hk1 hS => ?_)
  try dsimp only at hw hB
  obtain ⟨hP1, hK1, hD1⟩ := hB
  rw [ht] at hP1
  obtain ⟨hP, hD⟩ := va_join (wr := []) (w1 := [(ds, .inr (0, [.ref dr, .ref sv])), (dr, .inr (2, [.ref rr, .int (nI len)])), (rr, .inl ((cT 0), 1000, .inl f))]) hP hD [0, 1, 2] [] rfl rfl (by decide) (by decide) hk1 hFc hP1 hD1
  have hw54 := hw
  clear hPc hDc hFc hz1 hk1 hP1 hK1 hD1
  generalize H1 = H at hP hS ⊢
  have hP : va_P (dC, dI) vcl [(ds, .inr (0, [.ref dr, .ref sv])), (dr, .inr (2, [.ref rr, .int (nI len)])), (rr, .inl ((cT 0), 1000, .inl f))] H := hP
  have hD : va_D A [(ds, .inr (0, [.ref dr, .ref sv])), (dr, .inr (2, [.ref rr, .int (nI len)])), (rr, .inl ((cT 0), 1000, .inl f))] := hD
  refine lv_aload_n hx hb d_DS_hello_9 rfl (lv_at hl 0 rfl) ?_
  refine va_get (D := (dC, dI)) (ci := 0) (v := (.ref dr)) (C := R_DS) (T := F_DS) (N := 2) hx hb hg in_DS hown hK hP 0 rfl rfl 0 (by decide) (hg _ k_368) (fun _ h9 => h9) rfl d_DS_hello_10 ?_
  refine lv_iconst (v := 2) hx hb d_DS_hello_13 (by decide) ?_
  refine lv_iload_n hx hb d_DS_hello_14 rfl (lv_at hl 1 rfl) ?_
  refine lv_iconst (v := 5) hx hb d_DS_hello_15 (by decide) ?_
  have hPc := hP.sub (ws' := [(dr, .inr (2, [.ref rr, .int (nI len)])), (rr, .inl ((cT 0), 1000, .inl f))]) [1, 2] rfl
  have hDc := hD.sub (ws' := [(dr, .inr (2, [.ref rr, .int (nI len)])), (rr, .inl ((cT 0), 1000, .inl f))]) [1, 2] (by decide) rfl
  have hFc := va_free (wc := [(dr, .inr (2, [.ref rr, .int (nI len)])), (rr, .inl ((cT 0), 1000, .inl f))]) hD hS hA [1, 2] rfl
  refine va_callv (va_runV (C := "DoorServer$Packet") (As := [.int 2, .int x, .int 5]) (rest := []) ⟨hx, hb, hml, hown, hg⟩ (c_Pk_talk l dC dI cT H.size dr rr 1000 len f 2 x 5 (by omega) (by decide)) (cwV 3 hg (gI (List.forall_mem_append.mpr ⟨List.forall_mem_cons.mpr ⟨k_612, List.forall_mem_cons.mpr ⟨k_613, List.forall_mem_cons.mpr ⟨k_614, List.forall_mem_cons.mpr ⟨k_3, fun _ h => absurd h List.not_mem_nil⟩⟩⟩⟩, List.forall_mem_cons.mpr ⟨k_615, fun _ h => h⟩⟩)) rfl rfl rfl (by decide +kernel) ⟨Nat.le_of_ble_eq_true rfl, Nat.le_of_ble_eq_true rfl⟩) ⟨fun a U g mk q => by obtain ⟨q0, q1, qP, qK, qD⟩ := q; exact ⟨q0, q1, qP, va_K.moved (u := U) (U := U.calling g mk a) (Vm.Alike.refl U.vm) qK, qD⟩, va_recv (q0 := 1) (ci := 2) hK hP rfl rfl, fun U hU hW => ⟨rfl, by rw [hU], by rw [hU]; exact hPc, va_K.moved hW.alike hK, hDc.weaken (fun _ _ _ _ => trivial)⟩⟩ rfl rfl hl.1 rfl (lv_room (Nat.le_of_ble_eq_true rfl)) d_DS_hello_16 ⟨Nat.le_of_ble_eq_true rfl, Nat.le_of_ble_eq_true rfl⟩) hS (fun q _ h => hFc q h) hFc (fun u t H1 locs ht hvm hw hB hz1 hk1 hS => ?_)
  obtain ⟨g_55, rfl⟩ : ∃ z, z = u := ⟨_, rfl⟩
  try dsimp only at hw hB
  obtain ⟨hP1, hK1, hD1⟩ := hB
  rw [ht] at hP1
  obtain ⟨hP, hD⟩ := va_join (wr := [(ds, .inr (0, [.ref dr, .ref sv]))]) (w1 := [(dr, .inr (2, [.ref rr, .int (nI (len + 6))])), (rr, .inl ((cT 0), 1000, .inl g_55))]) hP hD [1, 2] [0] rfl rfl (by decide) (by decide) hk1 hFc hP1 hD1
  have hw56 := hw
  clear hPc hDc hFc hz1 hk1 hP1 hK1 hD1
  generalize H1 = H at hP hS ⊢
  have hP : va_P (dC, dI) vcl [(ds, .inr (0, [.ref dr, .ref sv])), (dr, .inr (2, [.ref rr, .int (nI (len + 6))])), (rr, .inl ((cT 0), 1000, .inl g_55))] H := hP
  have hD : va_D A [(ds, .inr (0, [.ref dr, .ref sv])), (dr, .inr (2, [.ref rr, .int (nI (len + 6))])), (rr, .inl ((cT 0), 1000, .inl g_55))] := hD
  refine lv_aload_n hx hb d_DS_hello_19 rfl (lv_at hl 0 rfl) ?_
  refine va_get (D := (dC, dI)) (ci := 0) (v := (.ref dr)) (C := R_DS) (T := F_DS) (N := 2) hx hb hg in_DS hown hK hP 0 rfl rfl 0 (by decide) (hg _ k_368) (fun _ h9 => h9) rfl d_DS_hello_20 ?_
  refine lv_iconst (v := 1) hx hb d_DS_hello_23 (by decide) ?_
  have hPc := hP.sub (ws' := [(dr, .inr (2, [.ref rr, .int (nI (len + 6))])), (rr, .inl ((cT 0), 1000, .inl g_55))]) [1, 2] rfl
  have hDc := hD.sub (ws' := [(dr, .inr (2, [.ref rr, .int (nI (len + 6))])), (rr, .inl ((cT 0), 1000, .inl g_55))]) [1, 2] (by decide) rfl
  have hFc := va_free (wc := [(dr, .inr (2, [.ref rr, .int (nI (len + 6))])), (rr, .inl ((cT 0), 1000, .inl g_55))]) hD hS hA [1, 2] rfl
  refine va_callv (va_runU (C := "DoorServer$Packet") (owner := "DoorServer$Bytes") (x := y_Pk_append) (As := [.int 1]) (rest := []) ⟨hx, hb, hml, hown, hg⟩ (c_Pk_append l dC dI cT H.size dr rr 1000 (len + 6) g_55 1 (by omega) (by decide)) (va_cwU 1 hg (gI (List.forall_mem_append.mpr ⟨List.forall_mem_cons.mpr ⟨k_523, List.forall_mem_cons.mpr ⟨k_73, List.forall_mem_cons.mpr ⟨k_75, List.forall_mem_cons.mpr ⟨k_76, List.forall_mem_cons.mpr ⟨k_2, fun _ h => absurd h List.not_mem_nil⟩⟩⟩⟩⟩, List.forall_mem_cons.mpr ⟨k_77, fun _ h => h⟩⟩)) rfl rfl rfl rfl (by decide +kernel) ⟨Nat.le_of_ble_eq_true rfl, Nat.le_of_ble_eq_true rfl⟩) ⟨fun a U g mk q => by obtain ⟨q0, q1, qP, qK, qD⟩ := q; exact ⟨q0, q1, qP, va_K.moved (u := U) (U := U.calling g mk a) (Vm.Alike.refl U.vm) qK, qD⟩, va_recv (q0 := 1) (ci := 2) hK hP rfl rfl, fun U hU hW => ⟨rfl, by rw [hU], by rw [hU]; exact hPc, va_K.moved hW.alike hK, hDc.weaken (fun _ _ _ _ => trivial)⟩⟩ rfl rfl hl.1 rfl (lv_room (Nat.le_of_ble_eq_true rfl)) d_DS_hello_24 ⟨Nat.le_of_ble_eq_true rfl, Nat.le_of_ble_eq_true rfl⟩) hS (fun q _ h => hFc q h) hFc (fun u t H1 locs ht hvm hw hB hz1 hk1 hS => ?_)
  try dsimp only at hw hB
  obtain ⟨hP1, hK1, hD1⟩ := hB
  rw [ht] at hP1
  obtain ⟨hP, hD⟩ := va_join (wr := [(ds, .inr (0, [.ref dr, .ref sv]))]) (w1 := [(dr, .inr (2, [.ref rr, .int (nI ((len + 6) + 1))])), (rr, .inl ((cT 0), 1000, .inl (upd g_55 (len + 6) (1 &&& 255))))]) hP hD [1, 2] [0] rfl rfl (by decide) (by decide) hk1 hFc hP1 hD1
  have hw57 := hw
  clear hPc hDc hFc hz1 hk1 hP1 hK1 hD1
  generalize H1 = H at hP hS ⊢
  have hP : va_P (dC, dI) vcl [(ds, .inr (0, [.ref dr, .ref sv])), (dr, .inr (2, [.ref rr, .int (nI ((len + 6) + 1))])), (rr, .inl ((cT 0), 1000, .inl (upd g_55 (len + 6) (1 &&& 255))))] H := hP
  have hD : va_D A [(ds, .inr (0, [.ref dr, .ref sv])), (dr, .inr (2, [.ref rr, .int (nI ((len + 6) + 1))])), (rr, .inl ((cT 0), 1000, .inl (upd g_55 (len + 6) (1 &&& 255))))] := hD
  refine lv_aload_n hx hb d_DS_hello_27 rfl (lv_at hl 0 rfl) ?_
  have hPc := hP.sub (ws' := [(ds, .inr (0, [.ref dr, .ref sv])), (dr, .inr (2, [.ref rr, .int (nI ((len + 6) + 1))])), (rr, .inl ((cT 0), 1000, .inl (upd g_55 (len + 6) (1 &&& 255))))]) [0, 1, 2] rfl
  have hDc := hD.sub (ws' := [(ds, .inr (0, [.ref dr, .ref sv])), (dr, .inr (2, [.ref rr, .int (nI ((len + 6) + 1))])), (rr, .inl ((cT 0), 1000, .inl (upd g_55 (len + 6) (1 &&& 255))))]) [0, 1, 2] (by decide) rfl
  have hFc := va_free (wc := [(ds, .inr (0, [.ref dr, .ref sv])), (dr, .inr (2, [.ref rr, .int (nI ((len + 6) + 1))])), (rr, .inl ((cT 0), 1000, .inl (upd g_55 (len + 6) (1 &&& 255))))]) hD hS hA [0, 1, 2] rfl
  refine va_calli (va_runV (C := "DoorServer") (As := []) (rest := []) ⟨hx, hb, hml, hown, hg⟩ (c_closed l dC dI cT H.size ds dr sv rr ((len + 6) + 1) (upd g_55 (len + 6) (1 &&& 255)) (by omega)) (cwV 0 hg (gI (List.forall_mem_append.mpr ⟨List.forall_mem_cons.mpr ⟨k_524, List.forall_mem_cons.mpr ⟨k_526, List.forall_mem_cons.mpr ⟨(big_sel (q := y_DS_closedDraft) (n := 2) (by decide +kernel)), List.forall_mem_cons.mpr ⟨k_1, fun _ h => absurd h List.not_mem_nil⟩⟩⟩⟩, List.forall_mem_cons.mpr ⟨k_527, fun _ h => h⟩⟩)) rfl rfl rfl (by decide +kernel) ⟨Nat.le_of_ble_eq_true rfl, Nat.le_of_ble_eq_true rfl⟩) ⟨fun a U g mk q => by obtain ⟨q0, q1, qP, qK, qD⟩ := q; exact ⟨q0, q1, qP, va_K.moved (u := U) (U := U.calling g mk a) (Vm.Alike.refl U.vm) qK, qD⟩, va_recv (q0 := 0) (ci := 0) hK hP rfl rfl, fun U hU hW => ⟨rfl, by rw [hU], by rw [hU]; exact hPc, va_K.moved hW.alike hK, hDc.weaken (fun _ _ _ _ => trivial)⟩⟩ rfl rfl hl.1 rfl (lv_room (Nat.le_of_ble_eq_true rfl)) d_DS_hello_28 ⟨Nat.le_of_ble_eq_true rfl, Nat.le_of_ble_eq_true rfl⟩) hS (fun q _ h => hFc q h) hFc (fun rv9 u t H1 locs ht hvm hw hB hz1 hk1 hS => ?_)
  try dsimp only at hw hB
  obtain ⟨hP1, hK1, hD1⟩ := hB
  rw [ht] at hP1
  obtain ⟨rfl, hw⟩ := hw
  obtain ⟨hP, hD⟩ := va_join (wr := []) (w1 := [(ds, .inr (0, [.ref dr, .ref sv])), (dr, .inr (2, [.ref rr, .int (nI ((len + 6) + 1))])), (rr, .inl ((cT 0), 1000, .inl (upd (upd (upd g_55 (len + 6) (1 &&& 255)) 2 (nI ((len + 6) + 1) >>> (8 &&& 31))) 3 (nI ((len + 6) + 1) &&& 255))))]) hP hD [0, 1, 2] [] rfl rfl (by decide) (by decide) hk1 hFc hP1 hD1
  have hw58 := hw
  clear hPc hDc hFc hz1 hk1 hP1 hK1 hD1
  generalize H1 = H at hP hS ⊢
  have hP : va_P (dC, dI) vcl [(ds, .inr (0, [.ref dr, .ref sv])), (dr, .inr (2, [.ref rr, .int (nI ((len + 6) + 1))])), (rr, .inl ((cT 0), 1000, .inl (upd (upd (upd g_55 (len + 6) (1 &&& 255)) 2 (nI ((len + 6) + 1) >>> (8 &&& 31))) 3 (nI ((len + 6) + 1) &&& 255))))] H := hP
  have hD : va_D A [(ds, .inr (0, [.ref dr, .ref sv])), (dr, .inr (2, [.ref rr, .int (nI ((len + 6) + 1))])), (rr, .inl ((cT 0), 1000, .inl (upd (upd (upd g_55 (len + 6) (1 &&& 255)) 2 (nI ((len + 6) + 1) >>> (8 &&& 31))) 3 (nI ((len + 6) + 1) &&& 255))))] := hD
  refine lv_topi (fun x60 e59 => ?_)
  obtain rfl : x60 = nI (len + 7) := by rw [e59]; first | done | rfl
  have hP9 := hP.sub (ws' := [(ds, .inr (0, [.ref dr, .ref sv])), (dr, .inr (2, [.ref rr, .int (nI ((len + 6) + 1))])), (rr, .inl ((cT 0), 1000, .inl (upd (upd (upd g_55 (len + 6) (1 &&& 255)) 2 (nI ((len + 6) + 1) >>> (8 &&& 31))) 3 (nI ((len + 6) + 1) &&& 255))))]) [0, 1, 2] rfl
  have hD9 := hD.sub (ws' := [(ds, .inr (0, [.ref dr, .ref sv])), (dr, .inr (2, [.ref rr, .int (nI ((len + 6) + 1))])), (rr, .inl ((cT 0), 1000, .inl (upd (upd (upd g_55 (len + 6) (1 &&& 255)) 2 (nI ((len + 6) + 1) >>> (8 &&& 31))) 3 (nI ((len + 6) + 1) &&& 255))))]) [0, 1, 2] (by decide) rfl
  exact W.iret (v := nI (len + 7)) hx hb hr (fun t ht hW => ⟨⟨_, upd (upd (upd g_55 (len + 6) (1 &&& 255)) 2 (nI ((len + 6) + 1) >>> (8 &&& 31))) 3 (nI ((len + 6) + 1) &&& 255), rfl, ⟨rfl, fun h9 => AB_tell (by omega) (AB_upd (hw56 h9) (BY_and _))⟩, by rw [ht]; exact hP9, va_K.moved hW.alike hK, hD9⟩, hS.F ht⟩) hS.2.2 d_DS_hello_31
