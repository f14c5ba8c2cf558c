theorem d_Lw_secret_11 : decode b_Lw_secret 11 = .ok (.astore 5, 2) := by decide +kernel
theorem d_Lw_secret_13 : decode b_Lw_secret 13 = .ok (.iconst 1, 1) := by decide +kernel
theorem d_Lw_secret_14 : decode b_Lw_secret 14 = .ok (.ireturn, 1) := by decide +kernel
theorem d_Lw_user_23 : decode b_Lw_user 23 = .ok (.astore 6, 2) := by decide +kernel
theorem d_Lw_user_25 : decode b_Lw_user 25 = .ok (.iconst 1, 1) := by decide +kernel
theorem d_Lw_user_26 : decode b_Lw_user 26 = .ok (.ireturn, 1) := by decide +kernel
theorem d_Lw_draft_10 : decode b_Lw_draft 10 = .ok (.astore 5, 2) := by decide +kernel
theorem d_Lw_draft_12 : decode b_Lw_draft 12 = .ok (.iconst 1, 1) := by decide +kernel
theorem d_Lw_draft_13 : decode b_Lw_draft 13 = .ok (.ireturn, 1) := by decide +kernel
theorem d_Lw_put_15 : decode b_Lw_put 15 = .ok (.astore 5, 2) := by decide +kernel
theorem d_Lw_put_17 : decode b_Lw_put 17 = .ok (.iconst 1, 1) := by decide +kernel
theorem d_Lw_put_18 : decode b_Lw_put 18 = .ok (.ireturn, 1) := by decide +kernel
theorem d_Lw_number_13 : decode b_Lw_number 13 = .ok (.astore 4, 2) := by decide +kernel
theorem d_Lw_number_15 : decode b_Lw_number 15 = .ok (.iconst 1, 1) := by decide +kernel
theorem d_Lw_number_16 : decode b_Lw_number 16 = .ok (.ireturn, 1) := by decide +kernel
theorem d_Lw_name_12 : decode b_Lw_name 12 = .ok (.astore_n 3, 1) := by decide +kernel
theorem d_Lw_name_13 : decode b_Lw_name 13 = .ok (.iconst 1, 1) := by decide +kernel
theorem d_Lw_name_14 : decode b_Lw_name 14 = .ok (.ireturn, 1) := by decide +kernel
theorem d_Lw_password_16 : decode b_Lw_password 16 = .ok (.astore 6, 2) := by decide +kernel
theorem d_Lw_password_18 : decode b_Lw_password 18 = .ok (.iconst 1, 1) := by decide +kernel
theorem d_Lw_password_19 : decode b_Lw_password 19 = .ok (.ireturn, 1) := by decide +kernel
theorem d_Lw_hello_12 : decode b_Lw_hello 12 = .ok (.astore_n 3, 1) := by decide +kernel
theorem d_Lw_hello_13 : decode b_Lw_hello 13 = .ok (.iconst 1, 1) := by decide +kernel
theorem d_Lw_hello_14 : decode b_Lw_hello 14 = .ok (.ireturn, 1) := by decide +kernel
theorem d_Lw_reply_14 : decode b_Lw_reply 14 = .ok (.astore 5, 2) := by decide +kernel
theorem d_Lw_reply_16 : decode b_Lw_reply 16 = .ok (.iconst 1, 1) := by decide +kernel
theorem d_Lw_reply_17 : decode b_Lw_reply 17 = .ok (.ireturn, 1) := by decide +kernel
theorem d_Lw_prove_12 : decode b_Lw_prove 12 = .ok (.astore_n 3, 1) := by decide +kernel
theorem d_Lw_prove_13 : decode b_Lw_prove 13 = .ok (.iconst 1, 1) := by decide +kernel
theorem d_Lw_prove_14 : decode b_Lw_prove 14 = .ok (.ireturn, 1) := by decide +kernel
theorem d_Lw_seal_8 : decode b_Lw_seal 8 = .ok (.astore_n 2, 1) := by decide +kernel
theorem d_Lw_seal_9 : decode b_Lw_seal 9 = .ok (.iconst 1, 1) := by decide +kernel
theorem d_Lw_seal_10 : decode b_Lw_seal 10 = .ok (.ireturn, 1) := by decide +kernel
theorem d_Lw_spoil_13 : decode b_Lw_spoil 13 = .ok (.astore 4, 2) := by decide +kernel
theorem d_Lw_spoil_15 : decode b_Lw_spoil 15 = .ok (.iconst 1, 1) := by decide +kernel
theorem d_Lw_spoil_16 : decode b_Lw_spoil 16 = .ok (.ireturn, 1) := by decide +kernel
theorem d_Lw_send_12 : decode b_Lw_send 12 = .ok (.astore_n 3, 1) := by decide +kernel
theorem d_Lw_send_13 : decode b_Lw_send 13 = .ok (.iconst 1, 1) := by decide +kernel
theorem d_Lw_send_14 : decode b_Lw_send 14 = .ok (.ireturn, 1) := by decide +kernel
theorem d_Lw_byteAt_0 : decode b_Lw_byteAt 0 = .ok (.aload_n 2, 1) := by decide +kernel
theorem d_Lw_byteAt_1 : decode b_Lw_byteAt 1 = .ok (.iconst 0, 1) := by decide +kernel
theorem d_Lw_byteAt_2 : decode b_Lw_byteAt 2 = .ok (.aload_n 0, 1) := by decide +kernel
theorem d_Lw_byteAt_3 : decode b_Lw_byteAt 3 = .ok (.iload_n 1, 1) := by decide +kernel
theorem d_Lw_byteAt_4 : decode b_Lw_byteAt 4 = .ok (.invokevirtual 61, 3) := by decide +kernel
theorem d_Lw_byteAt_12 : decode b_Lw_byteAt 12 = .ok (.astore_n 3, 1) := by decide +kernel
theorem d_Lw_byteAt_13 : decode b_Lw_byteAt 13 = .ok (.iconst 1, 1) := by decide +kernel
theorem d_Lw_byteAt_14 : decode b_Lw_byteAt 14 = .ok (.ireturn, 1) := by decide +kernel
theorem d_Lw_ticks_12 : decode b_Lw_ticks 12 = .ok (.astore_n 3, 1) := by decide +kernel
theorem d_Lw_ticks_13 : decode b_Lw_ticks 13 = .ok (.iconst 1, 1) := by decide +kernel
theorem d_Lw_ticks_14 : decode b_Lw_ticks 14 = .ok (.ireturn, 1) := by decide +kernel
theorem d_Lw_count_12 : decode b_Lw_count 12 = .ok (.astore_n 3, 1) := by decide +kernel
theorem d_Lw_count_13 : decode b_Lw_count 13 = .ok (.iconst 1, 1) := by decide +kernel
theorem d_Lw_count_14 : decode b_Lw_count 14 = .ok (.ireturn, 1) := by decide +kernel
theorem d_Lw_record_0 : decode b_Lw_record 0 = .ok (.aload_n 3, 1) := by decide +kernel
theorem d_Lw_record_1 : decode b_Lw_record 1 = .ok (.iconst 0, 1) := by decide +kernel
theorem d_Lw_record_2 : decode b_Lw_record 2 = .ok (.aload_n 0, 1) := by decide +kernel
theorem d_Lw_record_3 : decode b_Lw_record 3 = .ok (.iload_n 1, 1) := by decide +kernel
theorem d_Lw_record_4 : decode b_Lw_record 4 = .ok (.iload_n 2, 1) := by decide +kernel
theorem d_Lw_record_5 : decode b_Lw_record 5 = .ok (.invokevirtual 70, 3) := by decide +kernel
theorem d_Lw_record_12 : decode b_Lw_record 12 = .ok (.astore 4, 2) := by decide +kernel
theorem d_Lw_record_14 : decode b_Lw_record 14 = .ok (.iconst 1, 1) := by decide +kernel
theorem d_Lw_record_15 : decode b_Lw_record 15 = .ok (.ireturn, 1) := by decide +kernel
set_option maxHeartbeats 4000000 in
set_option maxRecDepth 100000 in
/-- the law: secret throws -/
theorem t_secret1 (l : Launch) (dC : Nat → ClassId) (dI : Nat → Nat → Nat) (cT : Nat → ClassId) (sz : Nat) (ds : Nat) (x : Int32) (v : Int64) (y : Int32) (dr : Nat) (sv : Nat) (hfl : l.flags = pinnedFlags ++ [noTraceFlag]) (hbad : x < 0 ∨ 3 < x) : Met l y_Lw_secret (Cond.codeWith y_Lw_secret b_Lw_secret 6 (Option.some Jvm.ClassFile.FieldType.int) [((0 : Nat), (8 : Nat), (11 : Nat), (13 : Nat))] :: BIG) ({ frames := 9, cells := 1, slots := 6, locals := 150 }) (va_Pc [.ref ds, .int x, .long v, .int y] (fun U => U.heap.size = sz ∧ va_P (dC, dI) vcl [(ds, .inr (0, [.ref dr, .ref sv]))] U.heap ∧ va_K (dC, dI) vcl (tyL cT) U ∧ va_D (fun _ => True) [(ds, .inr (0, [.ref dr, .ref sv]))] ∧ xz_T (fun _ => False) U U.heap)) (va_Qi (S := Unit) (fun rv9 u => rv9 = 1 ∧ (True)) (fun u t => va_P (dC, dI) vcl [] t.heap ∧ va_K (dC, dI) vcl (tyL cT) t ∧ va_D (va_A [(ds, .inr (0, [.ref dr, .ref sv]))] sz) []) (va_A [(ds, .inr (0, [.ref dr, .ref sv]))] sz)) 1 6 (va_A [(ds, .inr (0, [.ref dr, .ref sv]))] sz) := by
  refine xw_Met (cc := b_Lw_secret) (maxL := 6) (ret := (Option.some Jvm.ClassFile.FieldType.int)) (hh := [((0 : Nat), (8 : Nat), (11 : Nat), (13 : Nat))]) (by decide) rfl ?_
  intro p e s m args below meth c s₁ B hml hv htab
  obtain ⟨hargs, hsz, hP, hK, hD0, hE⟩ := hv
  have hx := B.exec
  have hb := B.bytes
  have hr := B.returns
  have hts := atoms_spec (ws := (Cond.codeWith y_Lw_secret b_Lw_secret 6 (Option.some Jvm.ClassFile.FieldType.int) [((0 : Nat), (8 : Nat), (11 : Nat), (13 : Nat))] :: BIG)) B.pre
  have hg : ∀ w ∈ BIG, w.before _ s = true := fun w h => hts w (List.mem_cons_of_mem _ h)
  have hown : s.vm.findClass "DoorServerLaw" = some m.cls := findClass_of_methodNamed B.named
  have hlocks := B.notSynchronized
  subst hsz
  have hD := hD0.self (sz := s.heap.size)
  generalize hAe : va_A [(ds, .inr (0, [.ref dr, .ref sv]))] s.heap.size = A at hD ⊢
  have hA : ∀ q : Nat, s.heap.size ≤ q → A q := fun q h => by rw [← hAe]; exact Or.inr h
  have hS : va_S A s.heap s.heap [] := va_S.rf
  have hl := lv_entry ([.ref ds, .int x, .long v, .int y]) (n := 6) (Nat.le_of_ble_eq_true rfl)
  refine W.eq (g2 := entryFrame m (List.toArray [.ref ds, .int x, .long v, .int y]) 6) (by rw [hargs]) ?_
  rw [lg_entry_eq]
  generalize (lg_sl ([.ref ds, .int x, .long v, .int y]) ++ List.replicate (6 - (lg_sl ([.ref ds, .int x, .long v, .int y])).length) Slot.unset).toArray = ls at hl ⊢
  have hl : lv_has ls 6 [(0, .ref ds), (1, .int x), (2, .long v), (4, .int y)] := hl
  change W p l e ({ frames := 9, cells := 1, slots := 6, locals := 150 } : Room) s m args below meth c s.heap [] 0 0 _ _
  have hP : va_P (dC, dI) vcl [(ds, .inr (0, [.ref dr, .ref sv]))] s.heap := hP
  refine lv_aload_n hx hb d_Lw_secret_0 rfl (lv_at hl 0 rfl) ?_
  refine lv_iload_n hx hb d_Lw_secret_1 rfl (lv_at hl 1 rfl) ?_
  refine lv_lload_n hx hb d_Lw_secret_2 rfl (lv_at hl 2 rfl) ?_
  refine lv_iload hx hb d_Lw_secret_3 (lv_at hl 3 rfl) ?_
  have hPc := hP.sub (ws' := []) [] rfl
  refine xk_callV (C := "DoorServer") (As := [.int x, .long v, .int y]) (rest := []) ⟨hx, hb, hml, hown, hg⟩ (x_secret1 l hfl dC dI cT ds x v y hbad) (cwV 3 hg (gI (List.forall_mem_append.mpr ⟨List.forall_mem_cons.mpr ⟨k_383, List.forall_mem_cons.mpr ⟨k_384, List.forall_mem_cons.mpr ⟨k_385, List.forall_mem_cons.mpr ⟨k_1, fun _ h => absurd h List.not_mem_nil⟩⟩⟩⟩, List.forall_mem_cons.mpr ⟨k_386, fun _ h => h⟩⟩)) rfl rfl rfl (by decide +kernel) ⟨Nat.le_of_ble_eq_true rfl, Nat.le_of_ble_eq_true rfl⟩) ⟨fun a U g mk q => ?_, va_recv (q0 := 0) (ci := 0) hK hP rfl rfl, fun U hU hW => ⟨rfl, ?_, ?_, va_K.moved hW.alike hK⟩⟩ rfl hl.1 rfl (Nat.le_of_ble_eq_true rfl) d_Lw_secret_5 ⟨Nat.le_of_ble_eq_true rfl, Nat.le_of_ble_eq_true rfl⟩ (xk_catch1 htab (by decide) (by decide) hown (hg _ k_382) (va_Nw.use rfl hE.1.1) (fun x9 H1 h1 h2 h3 => ?_))
  · obtain ⟨q0, q1, q2, q3⟩ := q
    exact ⟨q0, q1.at (State.WarmedH.refl _) (fun _ _ _ => rfl) (fun _ h => h), q2, va_K.moved (Vm.Alike.refl U.vm) q3⟩
  · show xz_T _ U U.heap; rw [hU]; exact hE.at hW (fun _ _ _ => rfl) (fun _ h => h)
  · show va_P _ _ _ U.heap; rw [hU]; exact hPc
  · refine W.eq (g2 := F0 m 11 ls [.ref x9]) rfl ?_
    refine lv_astore (lv' := [(5, .ref x9), (0, .ref ds), (1, .int x), (2, .long v), (4, .int y)]) hx hb d_Lw_secret_11 hl (by decide) rfl (fun ls hl => ?_)
    refine lv_iconst (v := 1) hx hb d_Lw_secret_13 (by decide) ?_
    exact W.iret (v := 1) hx hb hr (fun t ht hW => ⟨⟨_, (), rfl, ⟨rfl, trivial⟩, fun k q h => by simp at h, va_K.moved hW.alike hK, ⟨fun i j p q h => by simp at h, fun k q h => by simp at h⟩⟩, by rw [ht]; exact h2, fun q h4 _ => by rw [ht]; exact h3 q h4⟩) (fun q h => by cases h) d_Lw_secret_14
set_option maxHeartbeats 4000000 in
set_option maxRecDepth 100000 in
/-- the law: secret throws -/
theorem t_secret2 (l : Launch) (dC : Nat → ClassId) (dI : Nat → Nat → Nat) (cT : Nat → ClassId) (sz : Nat) (ds : Nat) (x : Int32) (v : Int64) (y : Int32) (dr : Nat) (sv : Nat) (hfl : l.flags = pinnedFlags ++ [noTraceFlag]) (hx1 : ¬ x < 0) (hx2 : ¬ 3 < x) (hbad : y < 1 ∨ 40 < y) : Met l y_Lw_secret (Cond.codeWith y_Lw_secret b_Lw_secret 6 (Option.some Jvm.ClassFile.FieldType.int) [((0 : Nat), (8 : Nat), (11 : Nat), (13 : Nat))] :: BIG) ({ frames := 9, cells := 1, slots := 6, locals := 150 }) (va_Pc [.ref ds, .int x, .long v, .int y] (fun U => U.heap.size = sz ∧ va_P (dC, dI) vcl [(ds, .inr (0, [.ref dr, .ref sv]))] U.heap ∧ va_K (dC, dI) vcl (tyL cT) U ∧ va_D (fun _ => True) [(ds, .inr (0, [.ref dr, .ref sv]))] ∧ xz_T (fun _ => False) U U.heap)) (va_Qi (S := Unit) (fun rv9 u => rv9 = 1 ∧ (True)) (fun u t => va_P (dC, dI) vcl [] t.heap ∧ va_K (dC, dI) vcl (tyL cT) t ∧ va_D (va_A [(ds, .inr (0, [.ref dr, .ref sv]))] sz) []) (va_A [(ds, .inr (0, [.ref dr, .ref sv]))] sz)) 1 6 (va_A [(ds, .inr (0, [.ref dr, .ref sv]))] sz) := by
  refine xw_Met (cc := b_Lw_secret) (maxL := 6) (ret := (Option.some Jvm.ClassFile.FieldType.int)) (hh := [((0 : Nat), (8 : Nat), (11 : Nat), (13 : Nat))]) (by decide) rfl ?_
  intro p e s m args below meth c s₁ B hml hv htab
  obtain ⟨hargs, hsz, hP, hK, hD0, hE⟩ := hv
  have hx := B.exec
  have hb := B.bytes
  have hr := B.returns
  have hts := atoms_spec (ws := (Cond.codeWith y_Lw_secret b_Lw_secret 6 (Option.some Jvm.ClassFile.FieldType.int) [((0 : Nat), (8 : Nat), (11 : Nat), (13 : Nat))] :: BIG)) B.pre
  have hg : ∀ w ∈ BIG, w.before _ s = true := fun w h => hts w (List.mem_cons_of_mem _ h)
  have hown : s.vm.findClass "DoorServerLaw" = some m.cls := findClass_of_methodNamed B.named
  have hlocks := B.notSynchronized
  subst hsz
  have hD := hD0.self (sz := s.heap.size)
  generalize hAe : va_A [(ds, .inr (0, [.ref dr, .ref sv]))] s.heap.size = A at hD ⊢
  have hA : ∀ q : Nat, s.heap.size ≤ q → A q := fun q h => by rw [← hAe]; exact Or.inr h
  have hS : va_S A s.heap s.heap [] := va_S.rf
  have hl := lv_entry ([.ref ds, .int x, .long v, .int y]) (n := 6) (Nat.le_of_ble_eq_true rfl)
  refine W.eq (g2 := entryFrame m (List.toArray [.ref ds, .int x, .long v, .int y]) 6) (by rw [hargs]) ?_
  rw [lg_entry_eq]
  generalize (lg_sl ([.ref ds, .int x, .long v, .int y]) ++ List.replicate (6 - (lg_sl ([.ref ds, .int x, .long v, .int y])).length) Slot.unset).toArray = ls at hl ⊢
  have hl : lv_has ls 6 [(0, .ref ds), (1, .int x), (2, .long v), (4, .int y)] := hl
  change W p l e ({ frames := 9, cells := 1, slots := 6, locals := 150 } : Room) s m args below meth c s.heap [] 0 0 _ _
  have hP : va_P (dC, dI) vcl [(ds, .inr (0, [.ref dr, .ref sv]))] s.heap := hP
  refine lv_aload_n hx hb d_Lw_secret_0 rfl (lv_at hl 0 rfl) ?_
  refine lv_iload_n hx hb d_Lw_secret_1 rfl (lv_at hl 1 rfl) ?_
  refine lv_lload_n hx hb d_Lw_secret_2 rfl (lv_at hl 2 rfl) ?_
  refine lv_iload hx hb d_Lw_secret_3 (lv_at hl 3 rfl) ?_
  have hPc := hP.sub (ws' := []) [] rfl
  refine xk_callV (C := "DoorServer") (As := [.int x, .long v, .int y]) (rest := []) ⟨hx, hb, hml, hown, hg⟩ (x_secret2 l hfl dC dI cT ds x v y hx1 hx2 hbad) (cwV 3 hg (gI (List.forall_mem_append.mpr ⟨List.forall_mem_cons.mpr ⟨k_383, List.forall_mem_cons.mpr ⟨k_384, List.forall_mem_cons.mpr ⟨k_385, List.forall_mem_cons.mpr ⟨k_1, fun _ h => absurd h List.not_mem_nil⟩⟩⟩⟩, List.forall_mem_cons.mpr ⟨k_386, fun _ h => h⟩⟩)) rfl rfl rfl (by decide +kernel) ⟨Nat.le_of_ble_eq_true rfl, Nat.le_of_ble_eq_true rfl⟩) ⟨fun a U g mk q => ?_, va_recv (q0 := 0) (ci := 0) hK hP rfl rfl, fun U hU hW => ⟨rfl, ?_, ?_, va_K.moved hW.alike hK⟩⟩ rfl hl.1 rfl (Nat.le_of_ble_eq_true rfl) d_Lw_secret_5 ⟨Nat.le_of_ble_eq_true rfl, Nat.le_of_ble_eq_true rfl⟩ (xk_catch1 htab (by decide) (by decide) hown (hg _ k_382) (va_Nw.use rfl hE.1.1) (fun x9 H1 h1 h2 h3 => ?_))
  · obtain ⟨q0, q1, q2, q3⟩ := q
    exact ⟨q0, q1.at (State.WarmedH.refl _) (fun _ _ _ => rfl) (fun _ h => h), q2, va_K.moved (Vm.Alike.refl U.vm) q3⟩
  · show xz_T _ U U.heap; rw [hU]; exact hE.at hW (fun _ _ _ => rfl) (fun _ h => h)
  · show va_P _ _ _ U.heap; rw [hU]; exact hPc
  · refine W.eq (g2 := F0 m 11 ls [.ref x9]) rfl ?_
    refine lv_astore (lv' := [(5, .ref x9), (0, .ref ds), (1, .int x), (2, .long v), (4, .int y)]) hx hb d_Lw_secret_11 hl (by decide) rfl (fun ls hl => ?_)
    refine lv_iconst (v := 1) hx hb d_Lw_secret_13 (by decide) ?_
    exact W.iret (v := 1) hx hb hr (fun t ht hW => ⟨⟨_, (), rfl, ⟨rfl, trivial⟩, fun k q h => by simp at h, va_K.moved hW.alike hK, ⟨fun i j p q h => by simp at h, fun k q h => by simp at h⟩⟩, by rw [ht]; exact h2, fun q h4 _ => by rw [ht]; exact h3 q h4⟩) (fun q h => by cases h) d_Lw_secret_14
set_option maxHeartbeats 4000000 in
set_option maxRecDepth 100000 in
/-- the law: user throws -/
theorem t_user1 (l : Launch) (dC : Nat → ClassId) (dI : Nat → Nat → Nat) (cT : Nat → ClassId) (sz : Nat) (ds : Nat) (x : Int32) (v : Int64) (y : Int32) (dr : Nat) (sv : Nat) (ou : Nat) (hfl : l.flags = pinnedFlags ++ [noTraceFlag]) (hbad : x < 0 ∨ 31 < x) : Met l y_Lw_user (Cond.codeWith y_Lw_user b_Lw_user 7 (Option.some Jvm.ClassFile.FieldType.int) [((0 : Nat), (20 : Nat), (23 : Nat), (13 : Nat))] :: BIG) ({ frames := 9, cells := 1, slots := 6, locals := 150 }) (va_Pc [.ref ds, .int x, .long v, .int y, .ref ou] (fun U => U.heap.size = sz ∧ va_P (dC, dI) vcl [(ds, .inr (0, [.ref dr, .ref sv]))] U.heap ∧ va_K (dC, dI) vcl (tyL cT) U ∧ va_D (fun _ => True) [(ds, .inr (0, [.ref dr, .ref sv]))] ∧ xz_T (fun _ => False) U U.heap)) (va_Qi (S := Unit) (fun rv9 u => rv9 = 1 ∧ (True)) (fun u t => va_P (dC, dI) vcl [] t.heap ∧ va_K (dC, dI) vcl (tyL cT) t ∧ va_D (va_A [(ds, .inr (0, [.ref dr, .ref sv]))] sz) []) (va_A [(ds, .inr (0, [.ref dr, .ref sv]))] sz)) 1 6 (va_A [(ds, .inr (0, [.ref dr, .ref sv]))] sz) := by
  refine xw_Met (cc := b_Lw_user) (maxL := 7) (ret := (Option.some Jvm.ClassFile.FieldType.int)) (hh := [((0 : Nat), (20 : Nat), (23 : Nat), (13 : Nat))]) (by decide) rfl ?_
  intro p e s m args below meth c s₁ B hml hv htab
  obtain ⟨hargs, hsz, hP, hK, hD0, hE⟩ := hv
  have hx := B.exec
  have hb := B.bytes
  have hr := B.returns
  have hts := atoms_spec (ws := (Cond.codeWith y_Lw_user b_Lw_user 7 (Option.some Jvm.ClassFile.FieldType.int) [((0 : Nat), (20 : Nat), (23 : Nat), (13 : Nat))] :: BIG)) B.pre
  have hg : ∀ w ∈ BIG, w.before _ s = true := fun w h => hts w (List.mem_cons_of_mem _ h)
  have hown : s.vm.findClass "DoorServerLaw" = some m.cls := findClass_of_methodNamed B.named
  have hlocks := B.notSynchronized
  subst hsz
  have hD := hD0.self (sz := s.heap.size)
  generalize hAe : va_A [(ds, .inr (0, [.ref dr, .ref sv]))] s.heap.size = A at hD ⊢
  have hA : ∀ q : Nat, s.heap.size ≤ q → A q := fun q h => by rw [← hAe]; exact Or.inr h
  have hS : va_S A s.heap s.heap [] := va_S.rf
  have hl := lv_entry ([.ref ds, .int x, .long v, .int y, .ref ou]) (n := 7) (Nat.le_of_ble_eq_true rfl)
  refine W.eq (g2 := entryFrame m (List.toArray [.ref ds, .int x, .long v, .int y, .ref ou]) 7) (by rw [hargs]) ?_
  rw [lg_entry_eq]
  generalize (lg_sl ([.ref ds, .int x, .long v, .int y, .ref ou]) ++ List.replicate (7 - (lg_sl ([.ref ds, .int x, .long v, .int y, .ref ou])).length) Slot.unset).toArray = ls at hl ⊢
  have hl : lv_has ls 7 [(0, .ref ds), (1, .int x), (2, .long v), (4, .int y), (5, .ref ou)] := hl
  change W p l e ({ frames := 9, cells := 1, slots := 6, locals := 150 } : Room) s m args below meth c s.heap [] 0 0 _ _
  have hP : va_P (dC, dI) vcl [(ds, .inr (0, [.ref dr, .ref sv]))] s.heap := hP
  refine lv_aload hx hb d_Lw_user_0 (lv_at hl 4 rfl) ?_
  refine lv_iconst (v := 0) hx hb d_Lw_user_2 (by decide) ?_
  refine lv_aload_n hx hb d_Lw_user_3 rfl (lv_at hl 0 rfl) ?_
  refine lv_iload_n hx hb d_Lw_user_4 rfl (lv_at hl 1 rfl) ?_
  refine lv_lload_n hx hb d_Lw_user_5 rfl (lv_at hl 2 rfl) ?_
  refine lv_iload hx hb d_Lw_user_6 (lv_at hl 3 rfl) ?_
  have hPc := hP.sub (ws' := []) [] rfl
  refine xk_callV (C := "DoorServer") (As := [.int x, .long v, .int y]) (rest := [.int 0, .ref ou]) ⟨hx, hb, hml, hown, hg⟩ (x_user1 l hfl dC dI cT ds x v y hbad) (cwV 3 hg (gI (List.forall_mem_append.mpr ⟨List.forall_mem_cons.mpr ⟨k_471, List.forall_mem_cons.mpr ⟨k_472, List.forall_mem_cons.mpr ⟨k_473, List.forall_mem_cons.mpr ⟨k_1, fun _ h => absurd h List.not_mem_nil⟩⟩⟩⟩, List.forall_mem_cons.mpr ⟨k_474, fun _ h => h⟩⟩)) rfl rfl rfl (by decide +kernel) ⟨Nat.le_of_ble_eq_true rfl, Nat.le_of_ble_eq_true rfl⟩) ⟨fun a U g mk q => ?_, va_recv (q0 := 0) (ci := 0) hK hP rfl rfl, fun U hU hW => ⟨rfl, ?_, ?_, va_K.moved hW.alike hK⟩⟩ rfl hl.1 rfl (Nat.le_of_ble_eq_true rfl) d_Lw_user_8 ⟨Nat.le_of_ble_eq_true rfl, Nat.le_of_ble_eq_true rfl⟩ (xk_catch1 htab (by decide) (by decide) hown (hg _ k_382) (va_Nw.use rfl hE.1.1) (fun x9 H1 h1 h2 h3 => ?_))
  · obtain ⟨q0, q1, q2, q3⟩ := q
    exact ⟨q0, q1.at (State.WarmedH.refl _) (fun _ _ _ => rfl) (fun _ h => h), q2, va_K.moved (Vm.Alike.refl U.vm) q3⟩
  · show xz_T _ U U.heap; rw [hU]; exact hE.at hW (fun _ _ _ => rfl) (fun _ h => h)
  · show va_P _ _ _ U.heap; rw [hU]; exact hPc
  · refine W.eq (g2 := F0 m 23 ls [.ref x9]) rfl ?_
    refine lv_astore (lv' := [(6, .ref x9), (0, .ref ds), (1, .int x), (2, .long v), (4, .int y), (5, .ref ou)]) hx hb d_Lw_user_23 hl (by decide) rfl (fun ls hl => ?_)
    refine lv_iconst (v := 1) hx hb d_Lw_user_25 (by decide) ?_
    exact W.iret (v := 1) hx hb hr (fun t ht hW => ⟨⟨_, (), rfl, ⟨rfl, trivial⟩, fun k q h => by simp at h, va_K.moved hW.alike hK, ⟨fun i j p q h => by simp at h, fun k q h => by simp at h⟩⟩, by rw [ht]; exact h2, fun q h4 _ => by rw [ht]; exact h3 q h4⟩) (fun q h => by cases h) d_Lw_user_26
set_option maxHeartbeats 4000000 in
set_option maxRecDepth 100000 in
/-- the law: user throws -/
theorem t_user2 (l : Launch) (dC : Nat → ClassId) (dI : Nat → Nat → Nat) (cT : Nat → ClassId) (sz : Nat) (ds : Nat) (x : Int32) (v : Int64) (y : Int32) (dr : Nat) (sv : Nat) (ou : Nat) (hfl : l.flags = pinnedFlags ++ [noTraceFlag]) (hx1 : ¬ x < 0) (hx2 : ¬ 31 < x) (hbad : y < 1 ∨ 60 < y) : Met l y_Lw_user (Cond.codeWith y_Lw_user b_Lw_user 7 (Option.some Jvm.ClassFile.FieldType.int) [((0 : Nat), (20 : Nat), (23 : Nat), (13 : Nat))] :: BIG) ({ frames := 9, cells := 1, slots := 6, locals := 150 }) (va_Pc [.ref ds, .int x, .long v, .int y, .ref ou] (fun U => U.heap.size = sz ∧ va_P (dC, dI) vcl [(ds, .inr (0, [.ref dr, .ref sv]))] U.heap ∧ va_K (dC, dI) vcl (tyL cT) U ∧ va_D (fun _ => True) [(ds, .inr (0, [.ref dr, .ref sv]))] ∧ xz_T (fun _ => False) U U.heap)) (va_Qi (S := Unit) (fun rv9 u => rv9 = 1 ∧ (True)) (fun u t => va_P (dC, dI) vcl [] t.heap ∧ va_K (dC, dI) vcl (tyL cT) t ∧ va_D (va_A [(ds, .inr (0, [.ref dr, .ref sv]))] sz) []) (va_A [(ds, .inr (0, [.ref dr, .ref sv]))] sz)) 1 6 (va_A [(ds, .inr (0, [.ref dr, .ref sv]))] sz) := by
  refine xw_Met (cc := b_Lw_user) (maxL := 7) (ret := (Option.some Jvm.ClassFile.FieldType.int)) (hh := [((0 : Nat), (20 : Nat), (23 : Nat), (13 : Nat))]) (by decide) rfl ?_
  intro p e s m args below meth c s₁ B hml hv htab
  obtain ⟨hargs, hsz, hP, hK, hD0, hE⟩ := hv
  have hx := B.exec
  have hb := B.bytes
  have hr := B.returns
  have hts := atoms_spec (ws := (Cond.codeWith y_Lw_user b_Lw_user 7 (Option.some Jvm.ClassFile.FieldType.int) [((0 : Nat), (20 : Nat), (23 : Nat), (13 : Nat))] :: BIG)) B.pre
  have hg : ∀ w ∈ BIG, w.before _ s = true := fun w h => hts w (List.mem_cons_of_mem _ h)
  have hown : s.vm.findClass "DoorServerLaw" = some m.cls := findClass_of_methodNamed B.named
  have hlocks := B.notSynchronized
  subst hsz
  have hD := hD0.self (sz := s.heap.size)
  generalize hAe : va_A [(ds, .inr (0, [.ref dr, .ref sv]))] s.heap.size = A at hD ⊢
  have hA : ∀ q : Nat, s.heap.size ≤ q → A q := fun q h => by rw [← hAe]; exact Or.inr h
  have hS : va_S A s.heap s.heap [] := va_S.rf
  have hl := lv_entry ([.ref ds, .int x, .long v, .int y, .ref ou]) (n := 7) (Nat.le_of_ble_eq_true rfl)
  refine W.eq (g2 := entryFrame m (List.toArray [.ref ds, .int x, .long v, .int y, .ref ou]) 7) (by rw [hargs]) ?_
  rw [lg_entry_eq]
  generalize (lg_sl ([.ref ds, .int x, .long v, .int y, .ref ou]) ++ List.replicate (7 - (lg_sl ([.ref ds, .int x, .long v, .int y, .ref ou])).length) Slot.unset).toArray = ls at hl ⊢
  have hl : lv_has ls 7 [(0, .ref ds), (1, .int x), (2, .long v), (4, .int y), (5, .ref ou)] := hl
  change W p l e ({ frames := 9, cells := 1, slots := 6, locals := 150 } : Room) s m args below meth c s.heap [] 0 0 _ _
  have hP : va_P (dC, dI) vcl [(ds, .inr (0, [.ref dr, .ref sv]))] s.heap := hP
  refine lv_aload hx hb d_Lw_user_0 (lv_at hl 4 rfl) ?_
  refine lv_iconst (v := 0) hx hb d_Lw_user_2 (by decide) ?_
  refine lv_aload_n hx hb d_Lw_user_3 rfl (lv_at hl 0 rfl) ?_
  refine lv_iload_n hx hb d_Lw_user_4 rfl (lv_at hl 1 rfl) ?_
  refine lv_lload_n hx hb d_Lw_user_5 rfl (lv_at hl 2 rfl) ?_
  refine lv_iload hx hb d_Lw_user_6 (lv_at hl 3 rfl) ?_
  have hPc := hP.sub (ws' := []) [] rfl
  refine xk_callV (C := "DoorServer") (As := [.int x, .long v, .int y]) (rest := [.int 0, .ref ou]) ⟨hx, hb, hml, hown, hg⟩ (x_user2 l hfl dC dI cT ds x v y hx1 hx2 hbad) (cwV 3 hg (gI (List.forall_mem_append.mpr ⟨List.forall_mem_cons.mpr ⟨k_471, List.forall_mem_cons.mpr ⟨k_472, List.forall_mem_cons.mpr ⟨k_473, List.forall_mem_cons.mpr ⟨k_1, fun _ h => absurd h List.not_mem_nil⟩⟩⟩⟩, List.forall_mem_cons.mpr ⟨k_474, fun _ h => h⟩⟩)) rfl rfl rfl (by decide +kernel) ⟨Nat.le_of_ble_eq_true rfl, Nat.le_of_ble_eq_true rfl⟩) ⟨fun a U g mk q => ?_, va_recv (q0 := 0) (ci := 0) hK hP rfl rfl, fun U hU hW => ⟨rfl, ?_, ?_, va_K.moved hW.alike hK⟩⟩ rfl hl.1 rfl (Nat.le_of_ble_eq_true rfl) d_Lw_user_8 ⟨Nat.le_of_ble_eq_true rfl, Nat.le_of_ble_eq_true rfl⟩ (xk_catch1 htab (by decide) (by decide) hown (hg _ k_382) (va_Nw.use rfl hE.1.1) (fun x9 H1 h1 h2 h3 => ?_))
  · obtain ⟨q0, q1, q2, q3⟩ := q
    exact ⟨q0, q1.at (State.WarmedH.refl _) (fun _ _ _ => rfl) (fun _ h => h), q2, va_K.moved (Vm.Alike.refl U.vm) q3⟩
  · show xz_T _ U U.heap; rw [hU]; exact hE.at hW (fun _ _ _ => rfl) (fun _ h => h)
  · show va_P _ _ _ U.heap; rw [hU]; exact hPc
  · refine W.eq (g2 := F0 m 23 ls [.ref x9]) rfl ?_
    refine lv_astore (lv' := [(6, .ref x9), (0, .ref ds), (1, .int x), (2, .long v), (4, .int y), (5, .ref ou)]) hx hb d_Lw_user_23 hl (by decide) rfl (fun ls hl => ?_)
    refine lv_iconst (v := 1) hx hb d_Lw_user_25 (by decide) ?_
    exact W.iret (v := 1) hx hb hr (fun t ht hW => ⟨⟨_, (), rfl, ⟨rfl, trivial⟩, fun k q h => by simp at h, va_K.moved hW.alike hK, ⟨fun i j p q h => by simp at h, fun k q h => by simp at h⟩⟩, by rw [ht]; exact h2, fun q h4 _ => by rw [ht]; exact h3 q h4⟩) (fun q h => by cases h) d_Lw_user_26
set_option maxHeartbeats 4000000 in
set_option maxRecDepth 100000 in
/-- the law: draft throws -/
theorem t_draft1 (l : Launch) (dC : Nat → ClassId) (dI : Nat → Nat → Nat) (cT : Nat → ClassId) (sz : Nat) (ds : Nat) (x : Int32) (y : Int32) (v : Int64) (dr : Nat) (sv : Nat) (hfl : l.flags = pinnedFlags ++ [noTraceFlag]) (hbad : x < 0 ∨ 255 < x) : Met l y_Lw_draft (Cond.codeWith y_Lw_draft b_Lw_draft 6 (Option.some Jvm.ClassFile.FieldType.int) [((0 : Nat), (7 : Nat), (10 : Nat), (13 : Nat))] :: BIG) ({ frames := 9, cells := 1, slots := 6, locals := 150 }) (va_Pc [.ref ds, .int x, .int y, .long v] (fun U => U.heap.size = sz ∧ va_P (dC, dI) vcl [(ds, .inr (0, [.ref dr, .ref sv]))] U.heap ∧ va_K (dC, dI) vcl (tyL cT) U ∧ va_D (fun _ => True) [(ds, .inr (0, [.ref dr, .ref sv]))] ∧ xz_T (fun _ => False) U U.heap)) (va_Qi (S := Unit) (fun rv9 u => rv9 = 1 ∧ (True)) (fun u t => va_P (dC, dI) vcl [] t.heap ∧ va_K (dC, dI) vcl (tyL cT) t ∧ va_D (va_A [(ds, .inr (0, [.ref dr, .ref sv]))] sz) []) (va_A [(ds, .inr (0, [.ref dr, .ref sv]))] sz)) 1 6 (va_A [(ds, .inr (0, [.ref dr, .ref sv]))] sz) := by
  refine xw_Met (cc := b_Lw_draft) (maxL := 6) (ret := (Option.some Jvm.ClassFile.FieldType.int)) (hh := [((0 : Nat), (7 : Nat), (10 : Nat), (13 : Nat))]) (by decide) rfl ?_
  intro p e s m args below meth c s₁ B hml hv htab
  obtain ⟨hargs, hsz, hP, hK, hD0, hE⟩ := hv
  have hx := B.exec
  have hb := B.bytes
  have hr := B.returns
  have hts := atoms_spec (ws := (Cond.codeWith y_Lw_draft b_Lw_draft 6 (Option.some Jvm.ClassFile.FieldType.int) [((0 : Nat), (7 : Nat), (10 : Nat), (13 : Nat))] :: BIG)) B.pre
  have hg : ∀ w ∈ BIG, w.before _ s = true := fun w h => hts w (List.mem_cons_of_mem _ h)
  have hown : s.vm.findClass "DoorServerLaw" = some m.cls := findClass_of_methodNamed B.named
  have hlocks := B.notSynchronized
  subst hsz
  have hD := hD0.self (sz := s.heap.size)
  generalize hAe : va_A [(ds, .inr (0, [.ref dr, .ref sv]))] s.heap.size = A at hD ⊢
  have hA : ∀ q : Nat, s.heap.size ≤ q → A q := fun q h => by rw [← hAe]; exact Or.inr h
  have hS : va_S A s.heap s.heap [] := va_S.rf
  have hl := lv_entry ([.ref ds, .int x, .int y, .long v]) (n := 6) (Nat.le_of_ble_eq_true rfl)
  refine W.eq (g2 := entryFrame m (List.toArray [.ref ds, .int x, .int y, .long v]) 6) (by rw [hargs]) ?_
  rw [lg_entry_eq]
  generalize (lg_sl ([.ref ds, .int x, .int y, .long v]) ++ List.replicate (6 - (lg_sl ([.ref ds, .int x, .int y, .long v])).length) Slot.unset).toArray = ls at hl ⊢
  have hl : lv_has ls 6 [(0, .ref ds), (1, .int x), (2, .int y), (3, .long v)] := hl
  change W p l e ({ frames := 9, cells := 1, slots := 6, locals := 150 } : Room) s m args below meth c s.heap [] 0 0 _ _
  have hP : va_P (dC, dI) vcl [(ds, .inr (0, [.ref dr, .ref sv]))] s.heap := hP
  refine lv_aload_n hx hb d_Lw_draft_0 rfl (lv_at hl 0 rfl) ?_
  refine lv_iload_n hx hb d_Lw_draft_1 rfl (lv_at hl 1 rfl) ?_
  refine lv_iload_n hx hb d_Lw_draft_2 rfl (lv_at hl 2 rfl) ?_
  refine lv_lload_n hx hb d_Lw_draft_3 rfl (lv_at hl 3 rfl) ?_
  have hPc := hP.sub (ws' := []) [] rfl
  refine xk_callV (C := "DoorServer") (As := [.int x, .int y, .long v]) (rest := []) ⟨hx, hb, hml, hown, hg⟩ (x_draft1 l hfl dC dI cT ds x y v hbad) (cwV 3 hg (gI (List.forall_mem_append.mpr ⟨List.forall_mem_cons.mpr ⟨k_485, List.forall_mem_cons.mpr ⟨k_486, List.forall_mem_cons.mpr ⟨k_487, List.forall_mem_cons.mpr ⟨k_1, fun _ h => absurd h List.not_mem_nil⟩⟩⟩⟩, List.forall_mem_cons.mpr ⟨k_488, fun _ h => h⟩⟩)) rfl rfl rfl (by decide +kernel) ⟨Nat.le_of_ble_eq_true rfl, Nat.le_of_ble_eq_true rfl⟩) ⟨fun a U g mk q => ?_, va_recv (q0 := 0) (ci := 0) hK hP rfl rfl, fun U hU hW => ⟨rfl, ?_, ?_, va_K.moved hW.alike hK⟩⟩ rfl hl.1 rfl (Nat.le_of_ble_eq_true rfl) d_Lw_draft_4 ⟨Nat.le_of_ble_eq_true rfl, Nat.le_of_ble_eq_true rfl⟩ (xk_catch1 htab (by decide) (by decide) hown (hg _ k_382) (va_Nw.use rfl hE.1.1) (fun x9 H1 h1 h2 h3 => ?_))
  · obtain ⟨q0, q1, q2, q3⟩ := q
    exact ⟨q0, q1.at (State.WarmedH.refl _) (fun _ _ _ => rfl) (fun _ h => h), q2, va_K.moved (Vm.Alike.refl U.vm) q3⟩
  · show xz_T _ U U.heap; rw [hU]; exact hE.at hW (fun _ _ _ => rfl) (fun _ h => h)
  · show va_P _ _ _ U.heap; rw [hU]; exact hPc
  · refine W.eq (g2 := F0 m 10 ls [.ref x9]) rfl ?_
    refine lv_astore (lv' := [(5, .ref x9), (0, .ref ds), (1, .int x), (2, .int y), (3, .long v)]) hx hb d_Lw_draft_10 hl (by decide) rfl (fun ls hl => ?_)
    refine lv_iconst (v := 1) hx hb d_Lw_draft_12 (by decide) ?_
    exact W.iret (v := 1) hx hb hr (fun t ht hW => ⟨⟨_, (), rfl, ⟨rfl, trivial⟩, fun k q h => by simp at h, va_K.moved hW.alike hK, ⟨fun i j p q h => by simp at h, fun k q h => by simp at h⟩⟩, by rw [ht]; exact h2, fun q h4 _ => by rw [ht]; exact h3 q h4⟩) (fun q h => by cases h) d_Lw_draft_13
set_option maxHeartbeats 4000000 in
set_option maxRecDepth 100000 in
/-- the law: draft throws -/
theorem t_draft2 (l : Launch) (dC : Nat → ClassId) (dI : Nat → Nat → Nat) (cT : Nat → ClassId) (sz : Nat) (ds : Nat) (x : Int32) (y : Int32) (v : Int64) (dr : Nat) (sv : Nat) (hfl : l.flags = pinnedFlags ++ [noTraceFlag]) (hx1 : ¬ x < 0) (hx2 : ¬ 255 < x) (hbad : y < 0 ∨ 255 < y) : Met l y_Lw_draft (Cond.codeWith y_Lw_draft b_Lw_draft 6 (Option.some Jvm.ClassFile.FieldType.int) [((0 : Nat), (7 : Nat), (10 : Nat), (13 : Nat))] :: BIG) ({ frames := 9, cells := 1, slots := 6, locals := 150 }) (va_Pc [.ref ds, .int x, .int y, .long v] (fun U => U.heap.size = sz ∧ va_P (dC, dI) vcl [(ds, .inr (0, [.ref dr, .ref sv]))] U.heap ∧ va_K (dC, dI) vcl (tyL cT) U ∧ va_D (fun _ => True) [(ds, .inr (0, [.ref dr, .ref sv]))] ∧ xz_T (fun _ => False) U U.heap)) (va_Qi (S := Unit) (fun rv9 u => rv9 = 1 ∧ (True)) (fun u t => va_P (dC, dI) vcl [] t.heap ∧ va_K (dC, dI) vcl (tyL cT) t ∧ va_D (va_A [(ds, .inr (0, [.ref dr, .ref sv]))] sz) []) (va_A [(ds, .inr (0, [.ref dr, .ref sv]))] sz)) 1 6 (va_A [(ds, .inr (0, [.ref dr, .ref sv]))] sz) := by
  refine xw_Met (cc := b_Lw_draft) (maxL := 6) (ret := (Option.some Jvm.ClassFile.FieldType.int)) (hh := [((0 : Nat), (7 : Nat), (10 : Nat), (13 : Nat))]) (by decide) rfl ?_
  intro p e s m args below meth c s₁ B hml hv htab
  obtain ⟨hargs, hsz, hP, hK, hD0, hE⟩ := hv
  have hx := B.exec
  have hb := B.bytes
  have hr := B.returns
  have hts := atoms_spec (ws := (Cond.codeWith y_Lw_draft b_Lw_draft 6 (Option.some Jvm.ClassFile.FieldType.int) [((0 : Nat), (7 : Nat), (10 : Nat), (13 : Nat))] :: BIG)) B.pre
  have hg : ∀ w ∈ BIG, w.before _ s = true := fun w h => hts w (List.mem_cons_of_mem _ h)
  have hown : s.vm.findClass "DoorServerLaw" = some m.cls := findClass_of_methodNamed B.named
  have hlocks := B.notSynchronized
  subst hsz
  have hD := hD0.self (sz := s.heap.size)
  generalize hAe : va_A [(ds, .inr (0, [.ref dr, .ref sv]))] s.heap.size = A at hD ⊢
  have hA : ∀ q : Nat, s.heap.size ≤ q → A q := fun q h => by rw [← hAe]; exact Or.inr h
  have hS : va_S A s.heap s.heap [] := va_S.rf
  have hl := lv_entry ([.ref ds, .int x, .int y, .long v]) (n := 6) (Nat.le_of_ble_eq_true rfl)
  refine W.eq (g2 := entryFrame m (List.toArray [.ref ds, .int x, .int y, .long v]) 6) (by rw [hargs]) ?_
  rw [lg_entry_eq]
  generalize (lg_sl ([.ref ds, .int x, .int y, .long v]) ++ List.replicate (6 - (lg_sl ([.ref ds, .int x, .int y, .long v])).length) Slot.unset).toArray = ls at hl ⊢
  have hl : lv_has ls 6 [(0, .ref ds), (1, .int x), (2, .int y), (3, .long v)] := hl
  change W p l e ({ frames := 9, cells := 1, slots := 6, locals := 150 } : Room) s m args below meth c s.heap [] 0 0 _ _
  have hP : va_P (dC, dI) vcl [(ds, .inr (0, [.ref dr, .ref sv]))] s.heap := hP
  refine lv_aload_n hx hb d_Lw_draft_0 rfl (lv_at hl 0 rfl) ?_
  refine lv_iload_n hx hb d_Lw_draft_1 rfl (lv_at hl 1 rfl) ?_
  refine lv_iload_n hx hb d_Lw_draft_2 rfl (lv_at hl 2 rfl) ?_
  refine lv_lload_n hx hb d_Lw_draft_3 rfl (lv_at hl 3 rfl) ?_
  have hPc := hP.sub (ws' := []) [] rfl
  refine xk_callV (C := "DoorServer") (As := [.int x, .int y, .long v]) (rest := []) ⟨hx, hb, hml, hown, hg⟩ (x_draft2 l hfl dC dI cT ds x y v hx1 hx2 hbad) (cwV 3 hg (gI (List.forall_mem_append.mpr ⟨List.forall_mem_cons.mpr ⟨k_485, List.forall_mem_cons.mpr ⟨k_486, List.forall_mem_cons.mpr ⟨k_487, List.forall_mem_cons.mpr ⟨k_1, fun _ h => absurd h List.not_mem_nil⟩⟩⟩⟩, List.forall_mem_cons.mpr ⟨k_488, fun _ h => h⟩⟩)) rfl rfl rfl (by decide +kernel) ⟨Nat.le_of_ble_eq_true rfl, Nat.le_of_ble_eq_true rfl⟩) ⟨fun a U g mk q => ?_, va_recv (q0 := 0) (ci := 0) hK hP rfl rfl, fun U hU hW => ⟨rfl, ?_, ?_, va_K.moved hW.alike hK⟩⟩ rfl hl.1 rfl (Nat.le_of_ble_eq_true rfl) d_Lw_draft_4 ⟨Nat.le_of_ble_eq_true rfl, Nat.le_of_ble_eq_true rfl⟩ (xk_catch1 htab (by decide) (by decide) hown (hg _ k_382) (va_Nw.use rfl hE.1.1) (fun x9 H1 h1 h2 h3 => ?_))
  · obtain ⟨q0, q1, q2, q3⟩ := q
    exact ⟨q0, q1.at (State.WarmedH.refl _) (fun _ _ _ => rfl) (fun _ h => h), q2, va_K.moved (Vm.Alike.refl U.vm) q3⟩
  · show xz_T _ U U.heap; rw [hU]; exact hE.at hW (fun _ _ _ => rfl) (fun _ h => h)
  · show va_P _ _ _ U.heap; rw [hU]; exact hPc
  · refine W.eq (g2 := F0 m 10 ls [.ref x9]) rfl ?_
    refine lv_astore (lv' := [(5, .ref x9), (0, .ref ds), (1, .int x), (2, .int y), (3, .long v)]) hx hb d_Lw_draft_10 hl (by decide) rfl (fun ls hl => ?_)
    refine lv_iconst (v := 1) hx hb d_Lw_draft_12 (by decide) ?_
    exact W.iret (v := 1) hx hb hr (fun t ht hW => ⟨⟨_, (), rfl, ⟨rfl, trivial⟩, fun k q h => by simp at h, va_K.moved hW.alike hK, ⟨fun i j p q h => by simp at h, fun k q h => by simp at h⟩⟩, by rw [ht]; exact h2, fun q h4 _ => by rw [ht]; exact h3 q h4⟩) (fun q h => by cases h) d_Lw_draft_13
set_option maxHeartbeats 4000000 in
set_option maxRecDepth 100000 in
/-- the law: put throws -/
theorem t_put1 (l : Launch) (dC : Nat → ClassId) (dI : Nat → Nat → Nat) (cT : Nat → ClassId) (sz : Nat) (ds : Nat) (x : Int32) (y : Int32) (z : Int32) (dr : Nat) (sv : Nat) (ou : Nat) (hfl : l.flags = pinnedFlags ++ [noTraceFlag]) (hbad : x < 0 ∨ 255 < x) : Met l y_Lw_put (Cond.codeWith y_Lw_put b_Lw_put 6 (Option.some Jvm.ClassFile.FieldType.int) [((0 : Nat), (12 : Nat), (15 : Nat), (13 : Nat)), ((0 : Nat), (12 : Nat), (19 : Nat), (27 : Nat))] :: BIG) ({ frames := 9, cells := 1, slots := 6, locals := 150 }) (va_Pc [.ref ds, .int x, .int y, .int z, .ref ou] (fun U => U.heap.size = sz ∧ va_P (dC, dI) vcl [(ds, .inr (0, [.ref dr, .ref sv]))] U.heap ∧ va_K (dC, dI) vcl (tyL cT) U ∧ va_D (fun _ => True) [(ds, .inr (0, [.ref dr, .ref sv]))] ∧ xz_T (fun _ => False) U U.heap)) (va_Qi (S := Unit) (fun rv9 u => rv9 = 1 ∧ (True)) (fun u t => va_P (dC, dI) vcl [] t.heap ∧ va_K (dC, dI) vcl (tyL cT) t ∧ va_D (va_A [(ds, .inr (0, [.ref dr, .ref sv]))] sz) []) (va_A [(ds, .inr (0, [.ref dr, .ref sv]))] sz)) 1 6 (va_A [(ds, .inr (0, [.ref dr, .ref sv]))] sz) := by
  refine xw_Met (cc := b_Lw_put) (maxL := 6) (ret := (Option.some Jvm.ClassFile.FieldType.int)) (hh := [((0 : Nat), (12 : Nat), (15 : Nat), (13 : Nat)), ((0 : Nat), (12 : Nat), (19 : Nat), (27 : Nat))]) (by decide) rfl ?_
  intro p e s m args below meth c s₁ B hml hv htab
  obtain ⟨hargs, hsz, hP, hK, hD0, hE⟩ := hv
  have hx := B.exec
  have hb := B.bytes
  have hr := B.returns
  have hts := atoms_spec (ws := (Cond.codeWith y_Lw_put b_Lw_put 6 (Option.some Jvm.ClassFile.FieldType.int) [((0 : Nat), (12 : Nat), (15 : Nat), (13 : Nat)), ((0 : Nat), (12 : Nat), (19 : Nat), (27 : Nat))] :: BIG)) B.pre
  have hg : ∀ w ∈ BIG, w.before _ s = true := fun w h => hts w (List.mem_cons_of_mem _ h)
  have hown : s.vm.findClass "DoorServerLaw" = some m.cls := findClass_of_methodNamed B.named
  have hlocks := B.notSynchronized
  subst hsz
  have hD := hD0.self (sz := s.heap.size)
  generalize hAe : va_A [(ds, .inr (0, [.ref dr, .ref sv]))] s.heap.size = A at hD ⊢
  have hA : ∀ q : Nat, s.heap.size ≤ q → A q := fun q h => by rw [← hAe]; exact Or.inr h
  have hS : va_S A s.heap s.heap [] := va_S.rf
  have hl := lv_entry ([.ref ds, .int x, .int y, .int z, .ref ou]) (n := 6) (Nat.le_of_ble_eq_true rfl)
  refine W.eq (g2 := entryFrame m (List.toArray [.ref ds, .int x, .int y, .int z, .ref ou]) 6) (by rw [hargs]) ?_
  rw [lg_entry_eq]
  generalize (lg_sl ([.ref ds, .int x, .int y, .int z, .ref ou]) ++ List.replicate (6 - (lg_sl ([.ref ds, .int x, .int y, .int z, .ref ou])).length) Slot.unset).toArray = ls at hl ⊢
  have hl : lv_has ls 6 [(0, .ref ds), (1, .int x), (2, .int y), (3, .int z), (4, .ref ou)] := hl
  change W p l e ({ frames := 9, cells := 1, slots := 6, locals := 150 } : Room) s m args below meth c s.heap [] 0 0 _ _
  have hP : va_P (dC, dI) vcl [(ds, .inr (0, [.ref dr, .ref sv]))] s.heap := hP
  refine lv_aload hx hb d_Lw_put_0 (lv_at hl 4 rfl) ?_
  refine lv_iconst (v := 0) hx hb d_Lw_put_2 (by decide) ?_
  refine lv_aload_n hx hb d_Lw_put_3 rfl (lv_at hl 0 rfl) ?_
  refine lv_iload_n hx hb d_Lw_put_4 rfl (lv_at hl 1 rfl) ?_
  refine lv_iload_n hx hb d_Lw_put_5 rfl (lv_at hl 2 rfl) ?_
  refine lv_iload_n hx hb d_Lw_put_6 rfl (lv_at hl 3 rfl) ?_
  have hPc := hP.sub (ws' := []) [] rfl
  refine xk_callV (C := "DoorServer") (As := [.int x, .int y, .int z]) (rest := [.int 0, .ref ou]) ⟨hx, hb, hml, hown, hg⟩ (x_put1 l hfl dC dI cT ds x y z hbad) (cwV 3 hg (gI (List.forall_mem_append.mpr ⟨List.forall_mem_cons.mpr ⟨k_496, List.forall_mem_cons.mpr ⟨k_497, List.forall_mem_cons.mpr ⟨k_498, List.forall_mem_cons.mpr ⟨k_1, fun _ h => absurd h List.not_mem_nil⟩⟩⟩⟩, List.forall_mem_cons.mpr ⟨k_499, fun _ h => h⟩⟩)) rfl rfl rfl (by decide +kernel) ⟨Nat.le_of_ble_eq_true rfl, Nat.le_of_ble_eq_true rfl⟩) ⟨fun a U g mk q => ?_, va_recv (q0 := 0) (ci := 0) hK hP rfl rfl, fun U hU hW => ⟨rfl, ?_, ?_, va_K.moved hW.alike hK⟩⟩ rfl hl.1 rfl (Nat.le_of_ble_eq_true rfl) d_Lw_put_7 ⟨Nat.le_of_ble_eq_true rfl, Nat.le_of_ble_eq_true rfl⟩ (xk_catch1 htab (by decide) (by decide) hown (hg _ k_382) (va_Nw.use rfl hE.1.1) (fun x9 H1 h1 h2 h3 => ?_))
  · obtain ⟨q0, q1, q2, q3⟩ := q
    exact ⟨q0, q1.at (State.WarmedH.refl _) (fun _ _ _ => rfl) (fun _ h => h), q2, va_K.moved (Vm.Alike.refl U.vm) q3⟩
  · show xz_T _ U U.heap; rw [hU]; exact hE.at hW (fun _ _ _ => rfl) (fun _ h => h)
  · show va_P _ _ _ U.heap; rw [hU]; exact hPc
  · refine W.eq (g2 := F0 m 15 ls [.ref x9]) rfl ?_
    refine lv_astore (lv' := [(5, .ref x9), (0, .ref ds), (1, .int x), (2, .int y), (3, .int z), (4, .ref ou)]) hx hb d_Lw_put_15 hl (by decide) rfl (fun ls hl => ?_)
    refine lv_iconst (v := 1) hx hb d_Lw_put_17 (by decide) ?_
    exact W.iret (v := 1) hx hb hr (fun t ht hW => ⟨⟨_, (), rfl, ⟨rfl, trivial⟩, fun k q h => by simp at h, va_K.moved hW.alike hK, ⟨fun i j p q h => by simp at h, fun k q h => by simp at h⟩⟩, by rw [ht]; exact h2, fun q h4 _ => by rw [ht]; exact h3 q h4⟩) (fun q h => by cases h) d_Lw_put_18
set_option maxHeartbeats 4000000 in
set_option maxRecDepth 100000 in
/-- the law: put throws -/
theorem t_put2 (l : Launch) (dC : Nat → ClassId) (dI : Nat → Nat → Nat) (cT : Nat → ClassId) (sz : Nat) (ds : Nat) (x : Int32) (y : Int32) (z : Int32) (dr : Nat) (sv : Nat) (ou : Nat) (hfl : l.flags = pinnedFlags ++ [noTraceFlag]) (hx1 : ¬ x < 0) (hx2 : ¬ 255 < x) (hbad : z < 0 ∨ 255 < z) : Met l y_Lw_put (Cond.codeWith y_Lw_put b_Lw_put 6 (Option.some Jvm.ClassFile.FieldType.int) [((0 : Nat), (12 : Nat), (15 : Nat), (13 : Nat)), ((0 : Nat), (12 : Nat), (19 : Nat), (27 : Nat))] :: BIG) ({ frames := 9, cells := 1, slots := 6, locals := 150 }) (va_Pc [.ref ds, .int x, .int y, .int z, .ref ou] (fun U => U.heap.size = sz ∧ va_P (dC, dI) vcl [(ds, .inr (0, [.ref dr, .ref sv]))] U.heap ∧ va_K (dC, dI) vcl (tyL cT) U ∧ va_D (fun _ => True) [(ds, .inr (0, [.ref dr, .ref sv]))] ∧ xz_T (fun _ => False) U U.heap)) (va_Qi (S := Unit) (fun rv9 u => rv9 = 1 ∧ (True)) (fun u t => va_P (dC, dI) vcl [] t.heap ∧ va_K (dC, dI) vcl (tyL cT) t ∧ va_D (va_A [(ds, .inr (0, [.ref dr, .ref sv]))] sz) []) (va_A [(ds, .inr (0, [.ref dr, .ref sv]))] sz)) 1 6 (va_A [(ds, .inr (0, [.ref dr, .ref sv]))] sz) := by
  refine xw_Met (cc := b_Lw_put) (maxL := 6) (ret := (Option.some Jvm.ClassFile.FieldType.int)) (hh := [((0 : Nat), (12 : Nat), (15 : Nat), (13 : Nat)), ((0 : Nat), (12 : Nat), (19 : Nat), (27 : Nat))]) (by decide) rfl ?_
  intro p e s m args below meth c s₁ B hml hv htab
  obtain ⟨hargs, hsz, hP, hK, hD0, hE⟩ := hv
  have hx := B.exec
  have hb := B.bytes
  have hr := B.returns
  have hts := atoms_spec (ws := (Cond.codeWith y_Lw_put b_Lw_put 6 (Option.some Jvm.ClassFile.FieldType.int) [((0 : Nat), (12 : Nat), (15 : Nat), (13 : Nat)), ((0 : Nat), (12 : Nat), (19 : Nat), (27 : Nat))] :: BIG)) B.pre
  have hg : ∀ w ∈ BIG, w.before _ s = true := fun w h => hts w (List.mem_cons_of_mem _ h)
  have hown : s.vm.findClass "DoorServerLaw" = some m.cls := findClass_of_methodNamed B.named
  have hlocks := B.notSynchronized
  subst hsz
  have hD := hD0.self (sz := s.heap.size)
  generalize hAe : va_A [(ds, .inr (0, [.ref dr, .ref sv]))] s.heap.size = A at hD ⊢
  have hA : ∀ q : Nat, s.heap.size ≤ q → A q := fun q h => by rw [← hAe]; exact Or.inr h
  have hS : va_S A s.heap s.heap [] := va_S.rf
  have hl := lv_entry ([.ref ds, .int x, .int y, .int z, .ref ou]) (n := 6) (Nat.le_of_ble_eq_true rfl)
  refine W.eq (g2 := entryFrame m (List.toArray [.ref ds, .int x, .int y, .int z, .ref ou]) 6) (by rw [hargs]) ?_
  rw [lg_entry_eq]
  generalize (lg_sl ([.ref ds, .int x, .int y, .int z, .ref ou]) ++ List.replicate (6 - (lg_sl ([.ref ds, .int x, .int y, .int z, .ref ou])).length) Slot.unset).toArray = ls at hl ⊢
  have hl : lv_has ls 6 [(0, .ref ds), (1, .int x), (2, .int y), (3, .int z), (4, .ref ou)] := hl
  change W p l e ({ frames := 9, cells := 1, slots := 6, locals := 150 } : Room) s m args below meth c s.heap [] 0 0 _ _
  have hP : va_P (dC, dI) vcl [(ds, .inr (0, [.ref dr, .ref sv]))] s.heap := hP
  refine lv_aload hx hb d_Lw_put_0 (lv_at hl 4 rfl) ?_
  refine lv_iconst (v := 0) hx hb d_Lw_put_2 (by decide) ?_
  refine lv_aload_n hx hb d_Lw_put_3 rfl (lv_at hl 0 rfl) ?_
  refine lv_iload_n hx hb d_Lw_put_4 rfl (lv_at hl 1 rfl) ?_
  refine lv_iload_n hx hb d_Lw_put_5 rfl (lv_at hl 2 rfl) ?_
  refine lv_iload_n hx hb d_Lw_put_6 rfl (lv_at hl 3 rfl) ?_
  have hPc := hP.sub (ws' := []) [] rfl
  refine xk_callV (C := "DoorServer") (As := [.int x, .int y, .int z]) (rest := [.int 0, .ref ou]) ⟨hx, hb, hml, hown, hg⟩ (x_put2 l hfl dC dI cT ds x y z hx1 hx2 hbad) (cwV 3 hg (gI (List.forall_mem_append.mpr ⟨List.forall_mem_cons.mpr ⟨k_496, List.forall_mem_cons.mpr ⟨k_497, List.forall_mem_cons.mpr ⟨k_498, List.forall_mem_cons.mpr ⟨k_1, fun _ h => absurd h List.not_mem_nil⟩⟩⟩⟩, List.forall_mem_cons.mpr ⟨k_499, fun _ h => h⟩⟩)) rfl rfl rfl (by decide +kernel) ⟨Nat.le_of_ble_eq_true rfl, Nat.le_of_ble_eq_true rfl⟩) ⟨fun a U g mk q => ?_, va_recv (q0 := 0) (ci := 0) hK hP rfl rfl, fun U hU hW => ⟨rfl, ?_, ?_, va_K.moved hW.alike hK⟩⟩ rfl hl.1 rfl (Nat.le_of_ble_eq_true rfl) d_Lw_put_7 ⟨Nat.le_of_ble_eq_true rfl, Nat.le_of_ble_eq_true rfl⟩ (xk_catch1 htab (by decide) (by decide) hown (hg _ k_382) (va_Nw.use rfl hE.1.1) (fun x9 H1 h1 h2 h3 => ?_))
  · obtain ⟨q0, q1, q2, q3⟩ := q
    exact ⟨q0, q1.at (State.WarmedH.refl _) (fun _ _ _ => rfl) (fun _ h => h), q2, va_K.moved (Vm.Alike.refl U.vm) q3⟩
  · show xz_T _ U U.heap; rw [hU]; exact hE.at hW (fun _ _ _ => rfl) (fun _ h => h)
  · show va_P _ _ _ U.heap; rw [hU]; exact hPc
  · refine W.eq (g2 := F0 m 15 ls [.ref x9]) rfl ?_
    refine lv_astore (lv' := [(5, .ref x9), (0, .ref ds), (1, .int x), (2, .int y), (3, .int z), (4, .ref ou)]) hx hb d_Lw_put_15 hl (by decide) rfl (fun ls hl => ?_)
    refine lv_iconst (v := 1) hx hb d_Lw_put_17 (by decide) ?_
    exact W.iret (v := 1) hx hb hr (fun t ht hW => ⟨⟨_, (), rfl, ⟨rfl, trivial⟩, fun k q h => by simp at h, va_K.moved hW.alike hK, ⟨fun i j p q h => by simp at h, fun k q h => by simp at h⟩⟩, by rw [ht]; exact h2, fun q h4 _ => by rw [ht]; exact h3 q h4⟩) (fun q h => by cases h) d_Lw_put_18
set_option maxHeartbeats 4000000 in
set_option maxRecDepth 100000 in
/-- the law: put throws -/
theorem t_put3 (l : Launch) (dC : Nat → ClassId) (dI : Nat → Nat → Nat) (cT : Nat → ClassId) (sz : Nat) (ds : Nat) (x : Int32) (y : Int32) (z : Int32) (dr : Nat) (sv : Nat) (ou : Nat) (hfl : l.flags = pinnedFlags ++ [noTraceFlag]) (hx1 : ¬ x < 0) (hx2 : ¬ 255 < x) (hz1 : ¬ z < 0) (hz2 : ¬ 255 < z) (hbad : y < 0 ∨ 100 < y) : Met l y_Lw_put (Cond.codeWith y_Lw_put b_Lw_put 6 (Option.some Jvm.ClassFile.FieldType.int) [((0 : Nat), (12 : Nat), (15 : Nat), (13 : Nat)), ((0 : Nat), (12 : Nat), (19 : Nat), (27 : Nat))] :: BIG) ({ frames := 9, cells := 1, slots := 6, locals := 150 }) (va_Pc [.ref ds, .int x, .int y, .int z, .ref ou] (fun U => U.heap.size = sz ∧ va_P (dC, dI) vcl [(ds, .inr (0, [.ref dr, .ref sv]))] U.heap ∧ va_K (dC, dI) vcl (tyL cT) U ∧ va_D (fun _ => True) [(ds, .inr (0, [.ref dr, .ref sv]))] ∧ xz_T (fun _ => False) U U.heap)) (va_Qi (S := Unit) (fun rv9 u => rv9 = 1 ∧ (True)) (fun u t => va_P (dC, dI) vcl [] t.heap ∧ va_K (dC, dI) vcl (tyL cT) t ∧ va_D (va_A [(ds, .inr (0, [.ref dr, .ref sv]))] sz) []) (va_A [(ds, .inr (0, [.ref dr, .ref sv]))] sz)) 1 6 (va_A [(ds, .inr (0, [.ref dr, .ref sv]))] sz) := by
  refine xw_Met (cc := b_Lw_put) (maxL := 6) (ret := (Option.some Jvm.ClassFile.FieldType.int)) (hh := [((0 : Nat), (12 : Nat), (15 : Nat), (13 : Nat)), ((0 : Nat), (12 : Nat), (19 : Nat), (27 : Nat))]) (by decide) rfl ?_
  intro p e s m args below meth c s₁ B hml hv htab
  obtain ⟨hargs, hsz, hP, hK, hD0, hE⟩ := hv
  have hx := B.exec
  have hb := B.bytes
  have hr := B.returns
  have hts := atoms_spec (ws := (Cond.codeWith y_Lw_put b_Lw_put 6 (Option.some Jvm.ClassFile.FieldType.int) [((0 : Nat), (12 : Nat), (15 : Nat), (13 : Nat)), ((0 : Nat), (12 : Nat), (19 : Nat), (27 : Nat))] :: BIG)) B.pre
  have hg : ∀ w ∈ BIG, w.before _ s = true := fun w h => hts w (List.mem_cons_of_mem _ h)
  have hown : s.vm.findClass "DoorServerLaw" = some m.cls := findClass_of_methodNamed B.named
  have hlocks := B.notSynchronized
  subst hsz
  have hD := hD0.self (sz := s.heap.size)
  generalize hAe : va_A [(ds, .inr (0, [.ref dr, .ref sv]))] s.heap.size = A at hD ⊢
  have hA : ∀ q : Nat, s.heap.size ≤ q → A q := fun q h => by rw [← hAe]; exact Or.inr h
  have hS : va_S A s.heap s.heap [] := va_S.rf
  have hl := lv_entry ([.ref ds, .int x, .int y, .int z, .ref ou]) (n := 6) (Nat.le_of_ble_eq_true rfl)
  refine W.eq (g2 := entryFrame m (List.toArray [.ref ds, .int x, .int y, .int z, .ref ou]) 6) (by rw [hargs]) ?_
  rw [lg_entry_eq]
  generalize (lg_sl ([.ref ds, .int x, .int y, .int z, .ref ou]) ++ List.replicate (6 - (lg_sl ([.ref ds, .int x, .int y, .int z, .ref ou])).length) Slot.unset).toArray = ls at hl ⊢
  have hl : lv_has ls 6 [(0, .ref ds), (1, .int x), (2, .int y), (3, .int z), (4, .ref ou)] := hl
  change W p l e ({ frames := 9, cells := 1, slots := 6, locals := 150 } : Room) s m args below meth c s.heap [] 0 0 _ _
  have hP : va_P (dC, dI) vcl [(ds, .inr (0, [.ref dr, .ref sv]))] s.heap := hP
  refine lv_aload hx hb d_Lw_put_0 (lv_at hl 4 rfl) ?_
  refine lv_iconst (v := 0) hx hb d_Lw_put_2 (by decide) ?_
  refine lv_aload_n hx hb d_Lw_put_3 rfl (lv_at hl 0 rfl) ?_
  refine lv_iload_n hx hb d_Lw_put_4 rfl (lv_at hl 1 rfl) ?_
  refine lv_iload_n hx hb d_Lw_put_5 rfl (lv_at hl 2 rfl) ?_
  refine lv_iload_n hx hb d_Lw_put_6 rfl (lv_at hl 3 rfl) ?_
  have hPc := hP.sub (ws' := []) [] rfl
  refine xk_callV (C := "DoorServer") (As := [.int x, .int y, .int z]) (rest := [.int 0, .ref ou]) ⟨hx, hb, hml, hown, hg⟩ (x_put3 l hfl dC dI cT ds x y z hx1 hx2 hz1 hz2 hbad) (cwV 3 hg (gI (List.forall_mem_append.mpr ⟨List.forall_mem_cons.mpr ⟨k_496, List.forall_mem_cons.mpr ⟨k_497, List.forall_mem_cons.mpr ⟨k_498, List.forall_mem_cons.mpr ⟨k_1, fun _ h => absurd h List.not_mem_nil⟩⟩⟩⟩, List.forall_mem_cons.mpr ⟨k_499, fun _ h => h⟩⟩)) rfl rfl rfl (by decide +kernel) ⟨Nat.le_of_ble_eq_true rfl, Nat.le_of_ble_eq_true rfl⟩) ⟨fun a U g mk q => ?_, va_recv (q0 := 0) (ci := 0) hK hP rfl rfl, fun U hU hW => ⟨rfl, ?_, ?_, va_K.moved hW.alike hK⟩⟩ rfl hl.1 rfl (Nat.le_of_ble_eq_true rfl) d_Lw_put_7 ⟨Nat.le_of_ble_eq_true rfl, Nat.le_of_ble_eq_true rfl⟩ (xk_catch1 htab (by decide) (by decide) hown (hg _ k_382) (va_Nw.use rfl hE.1.1) (fun x9 H1 h1 h2 h3 => ?_))
  · obtain ⟨q0, q1, q2, q3⟩ := q
    exact ⟨q0, q1.at (State.WarmedH.refl _) (fun _ _ _ => rfl) (fun _ h => h), q2, va_K.moved (Vm.Alike.refl U.vm) q3⟩
  · show xz_T _ U U.heap; rw [hU]; exact hE.at hW (fun _ _ _ => rfl) (fun _ h => h)
  · show va_P _ _ _ U.heap; rw [hU]; exact hPc
  · refine W.eq (g2 := F0 m 15 ls [.ref x9]) rfl ?_
    refine lv_astore (lv' := [(5, .ref x9), (0, .ref ds), (1, .int x), (2, .int y), (3, .int z), (4, .ref ou)]) hx hb d_Lw_put_15 hl (by decide) rfl (fun ls hl => ?_)
    refine lv_iconst (v := 1) hx hb d_Lw_put_17 (by decide) ?_
    exact W.iret (v := 1) hx hb hr (fun t ht hW => ⟨⟨_, (), rfl, ⟨rfl, trivial⟩, fun k q h => by simp at h, va_K.moved hW.alike hK, ⟨fun i j p q h => by simp at h, fun k q h => by simp at h⟩⟩, by rw [ht]; exact h2, fun q h4 _ => by rw [ht]; exact h3 q h4⟩) (fun q h => by cases h) d_Lw_put_18
set_option maxHeartbeats 4000000 in
set_option maxRecDepth 100000 in
/-- the law: number throws -/
theorem t_number (l : Launch) (dC : Nat → ClassId) (dI : Nat → Nat → Nat) (cT : Nat → ClassId) (sz : Nat) (ds : Nat) (x : Int32) (y : Int32) (dr : Nat) (sv : Nat) (ou : Nat) (hfl : l.flags = pinnedFlags ++ [noTraceFlag]) (hbad : x < 0 ∨ 255 < x) : Met l y_Lw_number (Cond.codeWith y_Lw_number b_Lw_number 5 (Option.some Jvm.ClassFile.FieldType.int) [((0 : Nat), (10 : Nat), (13 : Nat), (13 : Nat)), ((0 : Nat), (10 : Nat), (17 : Nat), (27 : Nat))] :: BIG) ({ frames := 9, cells := 1, slots := 6, locals := 150 }) (va_Pc [.ref ds, .int x, .int y, .ref ou] (fun U => U.heap.size = sz ∧ va_P (dC, dI) vcl [(ds, .inr (0, [.ref dr, .ref sv]))] U.heap ∧ va_K (dC, dI) vcl (tyL cT) U ∧ va_D (fun _ => True) [(ds, .inr (0, [.ref dr, .ref sv]))] ∧ xz_T (fun _ => False) U U.heap)) (va_Qi (S := Unit) (fun rv9 u => rv9 = 1 ∧ (True)) (fun u t => va_P (dC, dI) vcl [] t.heap ∧ va_K (dC, dI) vcl (tyL cT) t ∧ va_D (va_A [(ds, .inr (0, [.ref dr, .ref sv]))] sz) []) (va_A [(ds, .inr (0, [.ref dr, .ref sv]))] sz)) 1 6 (va_A [(ds, .inr (0, [.ref dr, .ref sv]))] sz) := by
  refine xw_Met (cc := b_Lw_number) (maxL := 5) (ret := (Option.some Jvm.ClassFile.FieldType.int)) (hh := [((0 : Nat), (10 : Nat), (13 : Nat), (13 : Nat)), ((0 : Nat), (10 : Nat), (17 : Nat), (27 : Nat))]) (by decide) rfl ?_
  intro p e s m args below meth c s₁ B hml hv htab
  obtain ⟨hargs, hsz, hP, hK, hD0, hE⟩ := hv
  have hx := B.exec
  have hb := B.bytes
  have hr := B.returns
  have hts := atoms_spec (ws := (Cond.codeWith y_Lw_number b_Lw_number 5 (Option.some Jvm.ClassFile.FieldType.int) [((0 : Nat), (10 : Nat), (13 : Nat), (13 : Nat)), ((0 : Nat), (10 : Nat), (17 : Nat), (27 : Nat))] :: BIG)) B.pre
  have hg : ∀ w ∈ BIG, w.before _ s = true := fun w h => hts w (List.mem_cons_of_mem _ h)
  have hown : s.vm.findClass "DoorServerLaw" = some m.cls := findClass_of_methodNamed B.named
  have hlocks := B.notSynchronized
  subst hsz
  have hD := hD0.self (sz := s.heap.size)
  generalize hAe : va_A [(ds, .inr (0, [.ref dr, .ref sv]))] s.heap.size = A at hD ⊢
  have hA : ∀ q : Nat, s.heap.size ≤ q → A q := fun q h => by rw [← hAe]; exact Or.inr h
  have hS : va_S A s.heap s.heap [] := va_S.rf
  have hl := lv_entry ([.ref ds, .int x, .int y, .ref ou]) (n := 5) (Nat.le_of_ble_eq_true rfl)
  refine W.eq (g2 := entryFrame m (List.toArray [.ref ds, .int x, .int y, .ref ou]) 5) (by rw [hargs]) ?_
  rw [lg_entry_eq]
  generalize (lg_sl ([.ref ds, .int x, .int y, .ref ou]) ++ List.replicate (5 - (lg_sl ([.ref ds, .int x, .int y, .ref ou])).length) Slot.unset).toArray = ls at hl ⊢
  have hl : lv_has ls 5 [(0, .ref ds), (1, .int x), (2, .int y), (3, .ref ou)] := hl
  change W p l e ({ frames := 9, cells := 1, slots := 6, locals := 150 } : Room) s m args below meth c s.heap [] 0 0 _ _
  have hP : va_P (dC, dI) vcl [(ds, .inr (0, [.ref dr, .ref sv]))] s.heap := hP
  refine lv_aload_n hx hb d_Lw_number_0 rfl (lv_at hl 3 rfl) ?_
  refine lv_iconst (v := 0) hx hb d_Lw_number_1 (by decide) ?_
  refine lv_aload_n hx hb d_Lw_number_2 rfl (lv_at hl 0 rfl) ?_
  refine lv_iload_n hx hb d_Lw_number_3 rfl (lv_at hl 1 rfl) ?_
  refine lv_iload_n hx hb d_Lw_number_4 rfl (lv_at hl 2 rfl) ?_
  have hPc := hP.sub (ws' := []) [] rfl
  refine xk_callV (C := "DoorServer") (As := [.int x, .int y]) (rest := [.int 0, .ref ou]) ⟨hx, hb, hml, hown, hg⟩ (x_number l hfl dC dI cT ds x y hbad) (cwV 2 hg (gI (List.forall_mem_append.mpr ⟨List.forall_mem_cons.mpr ⟨k_535, List.forall_mem_cons.mpr ⟨k_536, List.forall_mem_cons.mpr ⟨k_537, List.forall_mem_cons.mpr ⟨k_1, fun _ h => absurd h List.not_mem_nil⟩⟩⟩⟩, List.forall_mem_cons.mpr ⟨k_538, fun _ h => h⟩⟩)) rfl rfl rfl (by decide +kernel) ⟨Nat.le_of_ble_eq_true rfl, Nat.le_of_ble_eq_true rfl⟩) ⟨fun a U g mk q => ?_, va_recv (q0 := 0) (ci := 0) hK hP rfl rfl, fun U hU hW => ⟨rfl, ?_, ?_, va_K.moved hW.alike hK⟩⟩ rfl hl.1 rfl (Nat.le_of_ble_eq_true rfl) d_Lw_number_5 ⟨Nat.le_of_ble_eq_true rfl, Nat.le_of_ble_eq_true rfl⟩ (xk_catch1 htab (by decide) (by decide) hown (hg _ k_382) (va_Nw.use rfl hE.1.1) (fun x9 H1 h1 h2 h3 => ?_))
  · obtain ⟨q0, q1, q2, q3⟩ := q
    exact ⟨q0, q1.at (State.WarmedH.refl _) (fun _ _ _ => rfl) (fun _ h => h), q2, va_K.moved (Vm.Alike.refl U.vm) q3⟩
  · show xz_T _ U U.heap; rw [hU]; exact hE.at hW (fun _ _ _ => rfl) (fun _ h => h)
  · show va_P _ _ _ U.heap; rw [hU]; exact hPc
  · refine W.eq (g2 := F0 m 13 ls [.ref x9]) rfl ?_
    refine lv_astore (lv' := [(4, .ref x9), (0, .ref ds), (1, .int x), (2, .int y), (3, .ref ou)]) hx hb d_Lw_number_13 hl (by decide) rfl (fun ls hl => ?_)
    refine lv_iconst (v := 1) hx hb d_Lw_number_15 (by decide) ?_
    exact W.iret (v := 1) hx hb hr (fun t ht hW => ⟨⟨_, (), rfl, ⟨rfl, trivial⟩, fun k q h => by simp at h, va_K.moved hW.alike hK, ⟨fun i j p q h => by simp at h, fun k q h => by simp at h⟩⟩, by rw [ht]; exact h2, fun q h4 _ => by rw [ht]; exact h3 q h4⟩) (fun q h => by cases h) d_Lw_number_16
set_option maxHeartbeats 4000000 in
set_option maxRecDepth 100000 in
/-- the law: name throws -/
theorem t_name (l : Launch) (dC : Nat → ClassId) (dI : Nat → Nat → Nat) (cT : Nat → ClassId) (sz : Nat) (ds : Nat) (x : Int32) (dr : Nat) (sv : Nat) (ou : Nat) (hfl : l.flags = pinnedFlags ++ [noTraceFlag]) (hbad : x < 0 ∨ 31 < x) : Met l y_Lw_name (Cond.codeWith y_Lw_name b_Lw_name 4 (Option.some Jvm.ClassFile.FieldType.int) [((0 : Nat), (9 : Nat), (12 : Nat), (13 : Nat)), ((0 : Nat), (9 : Nat), (15 : Nat), (27 : Nat))] :: BIG) ({ frames := 9, cells := 1, slots := 6, locals := 150 }) (va_Pc [.ref ds, .int x, .ref ou] (fun U => U.heap.size = sz ∧ va_P (dC, dI) vcl [(ds, .inr (0, [.ref dr, .ref sv]))] U.heap ∧ va_K (dC, dI) vcl (tyL cT) U ∧ va_D (fun _ => True) [(ds, .inr (0, [.ref dr, .ref sv]))] ∧ xz_T (fun _ => False) U U.heap)) (va_Qi (S := Unit) (fun rv9 u => rv9 = 1 ∧ (True)) (fun u t => va_P (dC, dI) vcl [] t.heap ∧ va_K (dC, dI) vcl (tyL cT) t ∧ va_D (va_A [(ds, .inr (0, [.ref dr, .ref sv]))] sz) []) (va_A [(ds, .inr (0, [.ref dr, .ref sv]))] sz)) 1 6 (va_A [(ds, .inr (0, [.ref dr, .ref sv]))] sz) := by
  refine xw_Met (cc := b_Lw_name) (maxL := 4) (ret := (Option.some Jvm.ClassFile.FieldType.int)) (hh := [((0 : Nat), (9 : Nat), (12 : Nat), (13 : Nat)), ((0 : Nat), (9 : Nat), (15 : Nat), (27 : Nat))]) (by decide) rfl ?_
  intro p e s m args below meth c s₁ B hml hv htab
  obtain ⟨hargs, hsz, hP, hK, hD0, hE⟩ := hv
  have hx := B.exec
  have hb := B.bytes
  have hr := B.returns
  have hts := atoms_spec (ws := (Cond.codeWith y_Lw_name b_Lw_name 4 (Option.some Jvm.ClassFile.FieldType.int) [((0 : Nat), (9 : Nat), (12 : Nat), (13 : Nat)), ((0 : Nat), (9 : Nat), (15 : Nat), (27 : Nat))] :: BIG)) B.pre
  have hg : ∀ w ∈ BIG, w.before _ s = true := fun w h => hts w (List.mem_cons_of_mem _ h)
  have hown : s.vm.findClass "DoorServerLaw" = some m.cls := findClass_of_methodNamed B.named
  have hlocks := B.notSynchronized
  subst hsz
  have hD := hD0.self (sz := s.heap.size)
  generalize hAe : va_A [(ds, .inr (0, [.ref dr, .ref sv]))] s.heap.size = A at hD ⊢
  have hA : ∀ q : Nat, s.heap.size ≤ q → A q := fun q h => by rw [← hAe]; exact Or.inr h
  have hS : va_S A s.heap s.heap [] := va_S.rf
  have hl := lv_entry ([.ref ds, .int x, .ref ou]) (n := 4) (Nat.le_of_ble_eq_true rfl)
  refine W.eq (g2 := entryFrame m (List.toArray [.ref ds, .int x, .ref ou]) 4) (by rw [hargs]) ?_
  rw [lg_entry_eq]
  generalize (lg_sl ([.ref ds, .int x, .ref ou]) ++ List.replicate (4 - (lg_sl ([.ref ds, .int x, .ref ou])).length) Slot.unset).toArray = ls at hl ⊢
  have hl : lv_has ls 4 [(0, .ref ds), (1, .int x), (2, .ref ou)] := hl
  change W p l e ({ frames := 9, cells := 1, slots := 6, locals := 150 } : Room) s m args below meth c s.heap [] 0 0 _ _
  have hP : va_P (dC, dI) vcl [(ds, .inr (0, [.ref dr, .ref sv]))] s.heap := hP
  refine lv_aload_n hx hb d_Lw_name_0 rfl (lv_at hl 2 rfl) ?_
  refine lv_iconst (v := 0) hx hb d_Lw_name_1 (by decide) ?_
  refine lv_aload_n hx hb d_Lw_name_2 rfl (lv_at hl 0 rfl) ?_
  refine lv_iload_n hx hb d_Lw_name_3 rfl (lv_at hl 1 rfl) ?_
  have hPc := hP.sub (ws' := []) [] rfl
  refine xk_callV (C := "DoorServer") (As := [.int x]) (rest := [.int 0, .ref ou]) ⟨hx, hb, hml, hown, hg⟩ (x_name l hfl dC dI cT ds x hbad) (cwV 1 hg (gI (List.forall_mem_append.mpr ⟨List.forall_mem_cons.mpr ⟨k_543, List.forall_mem_cons.mpr ⟨k_544, List.forall_mem_cons.mpr ⟨k_545, List.forall_mem_cons.mpr ⟨k_1, fun _ h => absurd h List.not_mem_nil⟩⟩⟩⟩, List.forall_mem_cons.mpr ⟨k_546, fun _ h => h⟩⟩)) rfl rfl rfl (by decide +kernel) ⟨Nat.le_of_ble_eq_true rfl, Nat.le_of_ble_eq_true rfl⟩) ⟨fun a U g mk q => ?_, va_recv (q0 := 0) (ci := 0) hK hP rfl rfl, fun U hU hW => ⟨rfl, ?_, ?_, va_K.moved hW.alike hK⟩⟩ rfl hl.1 rfl (Nat.le_of_ble_eq_true rfl) d_Lw_name_4 ⟨Nat.le_of_ble_eq_true rfl, Nat.le_of_ble_eq_true rfl⟩ (xk_catch1 htab (by decide) (by decide) hown (hg _ k_382) (va_Nw.use rfl hE.1.1) (fun x9 H1 h1 h2 h3 => ?_))
  · obtain ⟨q0, q1, q2, q3⟩ := q
    exact ⟨q0, q1.at (State.WarmedH.refl _) (fun _ _ _ => rfl) (fun _ h => h), q2, va_K.moved (Vm.Alike.refl U.vm) q3⟩
  · show xz_T _ U U.heap; rw [hU]; exact hE.at hW (fun _ _ _ => rfl) (fun _ h => h)
  · show va_P _ _ _ U.heap; rw [hU]; exact hPc
  · refine W.eq (g2 := F0 m 12 ls [.ref x9]) rfl ?_
    refine lv_astore_n (lv' := [(3, .ref x9), (0, .ref ds), (1, .int x), (2, .ref ou)]) hx hb d_Lw_name_12 rfl hl (by decide) rfl (fun ls hl => ?_)
    refine lv_iconst (v := 1) hx hb d_Lw_name_13 (by decide) ?_
    exact W.iret (v := 1) hx hb hr (fun t ht hW => ⟨⟨_, (), rfl, ⟨rfl, trivial⟩, fun k q h => by simp at h, va_K.moved hW.alike hK, ⟨fun i j p q h => by simp at h, fun k q h => by simp at h⟩⟩, by rw [ht]; exact h2, fun q h4 _ => by rw [ht]; exact h3 q h4⟩) (fun q h => by cases h) d_Lw_name_14
set_option maxHeartbeats 4000000 in
set_option maxRecDepth 100000 in
/-- the law: password throws -/
theorem t_password1 (l : Launch) (dC : Nat → ClassId) (dI : Nat → Nat → Nat) (cT : Nat → ClassId) (sz : Nat) (ds : Nat) (x : Int32) (v : Int64) (y : Int32) (dr : Nat) (sv : Nat) (ou : Nat) (hfl : l.flags = pinnedFlags ++ [noTraceFlag]) (hbad : x < 0 ∨ 3 < x) : Met l y_Lw_password (Cond.codeWith y_Lw_password b_Lw_password 7 (Option.some Jvm.ClassFile.FieldType.int) [((0 : Nat), (13 : Nat), (16 : Nat), (13 : Nat)), ((0 : Nat), (13 : Nat), (20 : Nat), (27 : Nat))] :: BIG) ({ frames := 9, cells := 1, slots := 6, locals := 150 }) (va_Pc [.ref ds, .int x, .long v, .int y, .ref ou] (fun U => U.heap.size = sz ∧ va_P (dC, dI) vcl [(ds, .inr (0, [.ref dr, .ref sv]))] U.heap ∧ va_K (dC, dI) vcl (tyL cT) U ∧ va_D (fun _ => True) [(ds, .inr (0, [.ref dr, .ref sv]))] ∧ xz_T (fun _ => False) U U.heap)) (va_Qi (S := Unit) (fun rv9 u => rv9 = 1 ∧ (True)) (fun u t => va_P (dC, dI) vcl [] t.heap ∧ va_K (dC, dI) vcl (tyL cT) t ∧ va_D (va_A [(ds, .inr (0, [.ref dr, .ref sv]))] sz) []) (va_A [(ds, .inr (0, [.ref dr, .ref sv]))] sz)) 1 6 (va_A [(ds, .inr (0, [.ref dr, .ref sv]))] sz) := by
  refine xw_Met (cc := b_Lw_password) (maxL := 7) (ret := (Option.some Jvm.ClassFile.FieldType.int)) (hh := [((0 : Nat), (13 : Nat), (16 : Nat), (13 : Nat)), ((0 : Nat), (13 : Nat), (20 : Nat), (27 : Nat))]) (by decide) rfl ?_
  intro p e s m args below meth c s₁ B hml hv htab
  obtain ⟨hargs, hsz, hP, hK, hD0, hE⟩ := hv
  have hx := B.exec
  have hb := B.bytes
  have hr := B.returns
  have hts := atoms_spec (ws := (Cond.codeWith y_Lw_password b_Lw_password 7 (Option.some Jvm.ClassFile.FieldType.int) [((0 : Nat), (13 : Nat), (16 : Nat), (13 : Nat)), ((0 : Nat), (13 : Nat), (20 : Nat), (27 : Nat))] :: BIG)) B.pre
  have hg : ∀ w ∈ BIG, w.before _ s = true := fun w h => hts w (List.mem_cons_of_mem _ h)
  have hown : s.vm.findClass "DoorServerLaw" = some m.cls := findClass_of_methodNamed B.named
  have hlocks := B.notSynchronized
  subst hsz
  have hD := hD0.self (sz := s.heap.size)
  generalize hAe : va_A [(ds, .inr (0, [.ref dr, .ref sv]))] s.heap.size = A at hD ⊢
  have hA : ∀ q : Nat, s.heap.size ≤ q → A q := fun q h => by rw [← hAe]; exact Or.inr h
  have hS : va_S A s.heap s.heap [] := va_S.rf
  have hl := lv_entry ([.ref ds, .int x, .long v, .int y, .ref ou]) (n := 7) (Nat.le_of_ble_eq_true rfl)
  refine W.eq (g2 := entryFrame m (List.toArray [.ref ds, .int x, .long v, .int y, .ref ou]) 7) (by rw [hargs]) ?_
  rw [lg_entry_eq]
  generalize (lg_sl ([.ref ds, .int x, .long v, .int y, .ref ou]) ++ List.replicate (7 - (lg_sl ([.ref ds, .int x, .long v, .int y, .ref ou])).length) Slot.unset).toArray = ls at hl ⊢
  have hl : lv_has ls 7 [(0, .ref ds), (1, .int x), (2, .long v), (4, .int y), (5, .ref ou)] := hl
  change W p l e ({ frames := 9, cells := 1, slots := 6, locals := 150 } : Room) s m args below meth c s.heap [] 0 0 _ _
  have hP : va_P (dC, dI) vcl [(ds, .inr (0, [.ref dr, .ref sv]))] s.heap := hP
  refine lv_aload hx hb d_Lw_password_0 (lv_at hl 4 rfl) ?_
  refine lv_iconst (v := 0) hx hb d_Lw_password_2 (by decide) ?_
  refine lv_aload_n hx hb d_Lw_password_3 rfl (lv_at hl 0 rfl) ?_
  refine lv_iload_n hx hb d_Lw_password_4 rfl (lv_at hl 1 rfl) ?_
  refine lv_lload_n hx hb d_Lw_password_5 rfl (lv_at hl 2 rfl) ?_
  refine lv_iload hx hb d_Lw_password_6 (lv_at hl 3 rfl) ?_
  have hPc := hP.sub (ws' := []) [] rfl
  refine xk_callV (C := "DoorServer") (As := [.int x, .long v, .int y]) (rest := [.int 0, .ref ou]) ⟨hx, hb, hml, hown, hg⟩ (x_password1 l hfl dC dI cT ds x v y hbad) (cwV 3 hg (gI (List.forall_mem_append.mpr ⟨List.forall_mem_cons.mpr ⟨k_550, List.forall_mem_cons.mpr ⟨k_551, List.forall_mem_cons.mpr ⟨k_552, List.forall_mem_cons.mpr ⟨k_1, fun _ h => absurd h List.not_mem_nil⟩⟩⟩⟩, List.forall_mem_cons.mpr ⟨k_553, fun _ h => h⟩⟩)) rfl rfl rfl (by decide +kernel) ⟨Nat.le_of_ble_eq_true rfl, Nat.le_of_ble_eq_true rfl⟩) ⟨fun a U g mk q => ?_, va_recv (q0 := 0) (ci := 0) hK hP rfl rfl, fun U hU hW => ⟨rfl, ?_, ?_, va_K.moved hW.alike hK⟩⟩ rfl hl.1 rfl (Nat.le_of_ble_eq_true rfl) d_Lw_password_8 ⟨Nat.le_of_ble_eq_true rfl, Nat.le_of_ble_eq_true rfl⟩ (xk_catch1 htab (by decide) (by decide) hown (hg _ k_382) (va_Nw.use rfl hE.1.1) (fun x9 H1 h1 h2 h3 => ?_))
  · obtain ⟨q0, q1, q2, q3⟩ := q
    exact ⟨q0, q1.at (State.WarmedH.refl _) (fun _ _ _ => rfl) (fun _ h => h), q2, va_K.moved (Vm.Alike.refl U.vm) q3⟩
  · show xz_T _ U U.heap; rw [hU]; exact hE.at hW (fun _ _ _ => rfl) (fun _ h => h)
  · show va_P _ _ _ U.heap; rw [hU]; exact hPc
  · refine W.eq (g2 := F0 m 16 ls [.ref x9]) rfl ?_
    refine lv_astore (lv' := [(6, .ref x9), (0, .ref ds), (1, .int x), (2, .long v), (4, .int y), (5, .ref ou)]) hx hb d_Lw_password_16 hl (by decide) rfl (fun ls hl => ?_)
    refine lv_iconst (v := 1) hx hb d_Lw_password_18 (by decide) ?_
    exact W.iret (v := 1) hx hb hr (fun t ht hW => ⟨⟨_, (), rfl, ⟨rfl, trivial⟩, fun k q h => by simp at h, va_K.moved hW.alike hK, ⟨fun i j p q h => by simp at h, fun k q h => by simp at h⟩⟩, by rw [ht]; exact h2, fun q h4 _ => by rw [ht]; exact h3 q h4⟩) (fun q h => by cases h) d_Lw_password_19
set_option maxHeartbeats 4000000 in
set_option maxRecDepth 100000 in
/-- the law: password throws -/
theorem t_password2 (l : Launch) (dC : Nat → ClassId) (dI : Nat → Nat → Nat) (cT : Nat → ClassId) (sz : Nat) (ds : Nat) (x : Int32) (v : Int64) (y : Int32) (dr : Nat) (sv : Nat) (ou : Nat) (hfl : l.flags = pinnedFlags ++ [noTraceFlag]) (hx1 : ¬ x < 0) (hx2 : ¬ 3 < x) (hbad : y < 1 ∨ 60 < y) : Met l y_Lw_password (Cond.codeWith y_Lw_password b_Lw_password 7 (Option.some Jvm.ClassFile.FieldType.int) [((0 : Nat), (13 : Nat), (16 : Nat), (13 : Nat)), ((0 : Nat), (13 : Nat), (20 : Nat), (27 : Nat))] :: BIG) ({ frames := 9, cells := 1, slots := 6, locals := 150 }) (va_Pc [.ref ds, .int x, .long v, .int y, .ref ou] (fun U => U.heap.size = sz ∧ va_P (dC, dI) vcl [(ds, .inr (0, [.ref dr, .ref sv]))] U.heap ∧ va_K (dC, dI) vcl (tyL cT) U ∧ va_D (fun _ => True) [(ds, .inr (0, [.ref dr, .ref sv]))] ∧ xz_T (fun _ => False) U U.heap)) (va_Qi (S := Unit) (fun rv9 u => rv9 = 1 ∧ (True)) (fun u t => va_P (dC, dI) vcl [] t.heap ∧ va_K (dC, dI) vcl (tyL cT) t ∧ va_D (va_A [(ds, .inr (0, [.ref dr, .ref sv]))] sz) []) (va_A [(ds, .inr (0, [.ref dr, .ref sv]))] sz)) 1 6 (va_A [(ds, .inr (0, [.ref dr, .ref sv]))] sz) := by
  refine xw_Met (cc := b_Lw_password) (maxL := 7) (ret := (Option.some Jvm.ClassFile.FieldType.int)) (hh := [((0 : Nat), (13 : Nat), (16 : Nat), (13 : Nat)), ((0 : Nat), (13 : Nat), (20 : Nat), (27 : Nat))]) (by decide) rfl ?_
  intro p e s m args below meth c s₁ B hml hv htab
  obtain ⟨hargs, hsz, hP, hK, hD0, hE⟩ := hv
  have hx := B.exec
  have hb := B.bytes
  have hr := B.returns
  have hts := atoms_spec (ws := (Cond.codeWith y_Lw_password b_Lw_password 7 (Option.some Jvm.ClassFile.FieldType.int) [((0 : Nat), (13 : Nat), (16 : Nat), (13 : Nat)), ((0 : Nat), (13 : Nat), (20 : Nat), (27 : Nat))] :: BIG)) B.pre
  have hg : ∀ w ∈ BIG, w.before _ s = true := fun w h => hts w (List.mem_cons_of_mem _ h)
  have hown : s.vm.findClass "DoorServerLaw" = some m.cls := findClass_of_methodNamed B.named
  have hlocks := B.notSynchronized
  subst hsz
  have hD := hD0.self (sz := s.heap.size)
  generalize hAe : va_A [(ds, .inr (0, [.ref dr, .ref sv]))] s.heap.size = A at hD ⊢
  have hA : ∀ q : Nat, s.heap.size ≤ q → A q := fun q h => by rw [← hAe]; exact Or.inr h
  have hS : va_S A s.heap s.heap [] := va_S.rf
  have hl := lv_entry ([.ref ds, .int x, .long v, .int y, .ref ou]) (n := 7) (Nat.le_of_ble_eq_true rfl)
  refine W.eq (g2 := entryFrame m (List.toArray [.ref ds, .int x, .long v, .int y, .ref ou]) 7) (by rw [hargs]) ?_
  rw [lg_entry_eq]
  generalize (lg_sl ([.ref ds, .int x, .long v, .int y, .ref ou]) ++ List.replicate (7 - (lg_sl ([.ref ds, .int x, .long v, .int y, .ref ou])).length) Slot.unset).toArray = ls at hl ⊢
  have hl : lv_has ls 7 [(0, .ref ds), (1, .int x), (2, .long v), (4, .int y), (5, .ref ou)] := hl
  change W p l e ({ frames := 9, cells := 1, slots := 6, locals := 150 } : Room) s m args below meth c s.heap [] 0 0 _ _
  have hP : va_P (dC, dI) vcl [(ds, .inr (0, [.ref dr, .ref sv]))] s.heap := hP
  refine lv_aload hx hb d_Lw_password_0 (lv_at hl 4 rfl) ?_
  refine lv_iconst (v := 0) hx hb d_Lw_password_2 (by decide) ?_
  refine lv_aload_n hx hb d_Lw_password_3 rfl (lv_at hl 0 rfl) ?_
  refine lv_iload_n hx hb d_Lw_password_4 rfl (lv_at hl 1 rfl) ?_
  refine lv_lload_n hx hb d_Lw_password_5 rfl (lv_at hl 2 rfl) ?_
  refine lv_iload hx hb d_Lw_password_6 (lv_at hl 3 rfl) ?_
  have hPc := hP.sub (ws' := []) [] rfl
  refine xk_callV (C := "DoorServer") (As := [.int x, .long v, .int y]) (rest := [.int 0, .ref ou]) ⟨hx, hb, hml, hown, hg⟩ (x_password2 l hfl dC dI cT ds x v y hx1 hx2 hbad) (cwV 3 hg (gI (List.forall_mem_append.mpr ⟨List.forall_mem_cons.mpr ⟨k_550, List.forall_mem_cons.mpr ⟨k_551, List.forall_mem_cons.mpr ⟨k_552, List.forall_mem_cons.mpr ⟨k_1, fun _ h => absurd h List.not_mem_nil⟩⟩⟩⟩, List.forall_mem_cons.mpr ⟨k_553, fun _ h => h⟩⟩)) rfl rfl rfl (by decide +kernel) ⟨Nat.le_of_ble_eq_true rfl, Nat.le_of_ble_eq_true rfl⟩) ⟨fun a U g mk q => ?_, va_recv (q0 := 0) (ci := 0) hK hP rfl rfl, fun U hU hW => ⟨rfl, ?_, ?_, va_K.moved hW.alike hK⟩⟩ rfl hl.1 rfl (Nat.le_of_ble_eq_true rfl) d_Lw_password_8 ⟨Nat.le_of_ble_eq_true rfl, Nat.le_of_ble_eq_true rfl⟩ (xk_catch1 htab (by decide) (by decide) hown (hg _ k_382) (va_Nw.use rfl hE.1.1) (fun x9 H1 h1 h2 h3 => ?_))
  · obtain ⟨q0, q1, q2, q3⟩ := q
    exact ⟨q0, q1.at (State.WarmedH.refl _) (fun _ _ _ => rfl) (fun _ h => h), q2, va_K.moved (Vm.Alike.refl U.vm) q3⟩
  · show xz_T _ U U.heap; rw [hU]; exact hE.at hW (fun _ _ _ => rfl) (fun _ h => h)
  · show va_P _ _ _ U.heap; rw [hU]; exact hPc
  · refine W.eq (g2 := F0 m 16 ls [.ref x9]) rfl ?_
    refine lv_astore (lv' := [(6, .ref x9), (0, .ref ds), (1, .int x), (2, .long v), (4, .int y), (5, .ref ou)]) hx hb d_Lw_password_16 hl (by decide) rfl (fun ls hl => ?_)
    refine lv_iconst (v := 1) hx hb d_Lw_password_18 (by decide) ?_
    exact W.iret (v := 1) hx hb hr (fun t ht hW => ⟨⟨_, (), rfl, ⟨rfl, trivial⟩, fun k q h => by simp at h, va_K.moved hW.alike hK, ⟨fun i j p q h => by simp at h, fun k q h => by simp at h⟩⟩, by rw [ht]; exact h2, fun q h4 _ => by rw [ht]; exact h3 q h4⟩) (fun q h => by cases h) d_Lw_password_19
set_option maxHeartbeats 4000000 in
set_option maxRecDepth 100000 in
/-- the law: hello throws -/
theorem t_hello (l : Launch) (dC : Nat → ClassId) (dI : Nat → Nat → Nat) (cT : Nat → ClassId) (sz : Nat) (ds : Nat) (x : Int32) (dr : Nat) (sv : Nat) (ou : Nat) (hfl : l.flags = pinnedFlags ++ [noTraceFlag]) (hbad : x < 0 ∨ 255 < x) : Met l y_Lw_hello (Cond.codeWith y_Lw_hello b_Lw_hello 4 (Option.some Jvm.ClassFile.FieldType.int) [((0 : Nat), (9 : Nat), (12 : Nat), (13 : Nat)), ((0 : Nat), (9 : Nat), (15 : Nat), (27 : Nat))] :: BIG) ({ frames := 9, cells := 1, slots := 6, locals := 150 }) (va_Pc [.ref ds, .int x, .ref ou] (fun U => U.heap.size = sz ∧ va_P (dC, dI) vcl [(ds, .inr (0, [.ref dr, .ref sv]))] U.heap ∧ va_K (dC, dI) vcl (tyL cT) U ∧ va_D (fun _ => True) [(ds, .inr (0, [.ref dr, .ref sv]))] ∧ xz_T (fun _ => False) U U.heap)) (va_Qi (S := Unit) (fun rv9 u => rv9 = 1 ∧ (True)) (fun u t => va_P (dC, dI) vcl [] t.heap ∧ va_K (dC, dI) vcl (tyL cT) t ∧ va_D (va_A [(ds, .inr (0, [.ref dr, .ref sv]))] sz) []) (va_A [(ds, .inr (0, [.ref dr, .ref sv]))] sz)) 1 6 (va_A [(ds, .inr (0, [.ref dr, .ref sv]))] sz) := by
  refine xw_Met (cc := b_Lw_hello) (maxL := 4) (ret := (Option.some Jvm.ClassFile.FieldType.int)) (hh := [((0 : Nat), (9 : Nat), (12 : Nat), (13 : Nat)), ((0 : Nat), (9 : Nat), (15 : Nat), (27 : Nat))]) (by decide) rfl ?_
  intro p e s m args below meth c s₁ B hml hv htab
  obtain ⟨hargs, hsz, hP, hK, hD0, hE⟩ := hv
  have hx := B.exec
  have hb := B.bytes
  have hr := B.returns
  have hts := atoms_spec (ws := (Cond.codeWith y_Lw_hello b_Lw_hello 4 (Option.some Jvm.ClassFile.FieldType.int) [((0 : Nat), (9 : Nat), (12 : Nat), (13 : Nat)), ((0 : Nat), (9 : Nat), (15 : Nat), (27 : Nat))] :: BIG)) B.pre
  have hg : ∀ w ∈ BIG, w.before _ s = true := fun w h => hts w (List.mem_cons_of_mem _ h)
  have hown : s.vm.findClass "DoorServerLaw" = some m.cls := findClass_of_methodNamed B.named
  have hlocks := B.notSynchronized
  subst hsz
  have hD := hD0.self (sz := s.heap.size)
  generalize hAe : va_A [(ds, .inr (0, [.ref dr, .ref sv]))] s.heap.size = A at hD ⊢
  have hA : ∀ q : Nat, s.heap.size ≤ q → A q := fun q h => by rw [← hAe]; exact Or.inr h
  have hS : va_S A s.heap s.heap [] := va_S.rf
  have hl := lv_entry ([.ref ds, .int x, .ref ou]) (n := 4) (Nat.le_of_ble_eq_true rfl)
  refine W.eq (g2 := entryFrame m (List.toArray [.ref ds, .int x, .ref ou]) 4) (by rw [hargs]) ?_
  rw [lg_entry_eq]
  generalize (lg_sl ([.ref ds, .int x, .ref ou]) ++ List.replicate (4 - (lg_sl ([.ref ds, .int x, .ref ou])).length) Slot.unset).toArray = ls at hl ⊢
  have hl : lv_has ls 4 [(0, .ref ds), (1, .int x), (2, .ref ou)] := hl
  change W p l e ({ frames := 9, cells := 1, slots := 6, locals := 150 } : Room) s m args below meth c s.heap [] 0 0 _ _
  have hP : va_P (dC, dI) vcl [(ds, .inr (0, [.ref dr, .ref sv]))] s.heap := hP
  refine lv_aload_n hx hb d_Lw_hello_0 rfl (lv_at hl 2 rfl) ?_
  refine lv_iconst (v := 0) hx hb d_Lw_hello_1 (by decide) ?_
  refine lv_aload_n hx hb d_Lw_hello_2 rfl (lv_at hl 0 rfl) ?_
  refine lv_iload_n hx hb d_Lw_hello_3 rfl (lv_at hl 1 rfl) ?_
  have hPc := hP.sub (ws' := []) [] rfl
  refine xk_callV (C := "DoorServer") (As := [.int x]) (rest := [.int 0, .ref ou]) ⟨hx, hb, hml, hown, hg⟩ (x_hello l hfl dC dI cT ds x hbad) (cwV 1 hg (gI (List.forall_mem_append.mpr ⟨List.forall_mem_cons.mpr ⟨k_608, List.forall_mem_cons.mpr ⟨k_609, List.forall_mem_cons.mpr ⟨k_610, List.forall_mem_cons.mpr ⟨k_1, fun _ h => absurd h List.not_mem_nil⟩⟩⟩⟩, List.forall_mem_cons.mpr ⟨k_611, fun _ h => h⟩⟩)) rfl rfl rfl (by decide +kernel) ⟨Nat.le_of_ble_eq_true rfl, Nat.le_of_ble_eq_true rfl⟩) ⟨fun a U g mk q => ?_, va_recv (q0 := 0) (ci := 0) hK hP rfl rfl, fun U hU hW => ⟨rfl, ?_, ?_, va_K.moved hW.alike hK⟩⟩ rfl hl.1 rfl (Nat.le_of_ble_eq_true rfl) d_Lw_hello_4 ⟨Nat.le_of_ble_eq_true rfl, Nat.le_of_ble_eq_true rfl⟩ (xk_catch1 htab (by decide) (by decide) hown (hg _ k_382) (va_Nw.use rfl hE.1.1) (fun x9 H1 h1 h2 h3 => ?_))
  · obtain ⟨q0, q1, q2, q3⟩ := q
    exact ⟨q0, q1.at (State.WarmedH.refl _) (fun _ _ _ => rfl) (fun _ h => h), q2, va_K.moved (Vm.Alike.refl U.vm) q3⟩
  · show xz_T _ U U.heap; rw [hU]; exact hE.at hW (fun _ _ _ => rfl) (fun _ h => h)
  · show va_P _ _ _ U.heap; rw [hU]; exact hPc
  · refine W.eq (g2 := F0 m 12 ls [.ref x9]) rfl ?_
    refine lv_astore_n (lv' := [(3, .ref x9), (0, .ref ds), (1, .int x), (2, .ref ou)]) hx hb d_Lw_hello_12 rfl hl (by decide) rfl (fun ls hl => ?_)
    refine lv_iconst (v := 1) hx hb d_Lw_hello_13 (by decide) ?_
    exact W.iret (v := 1) hx hb hr (fun t ht hW => ⟨⟨_, (), rfl, ⟨rfl, trivial⟩, fun k q h => by simp at h, va_K.moved hW.alike hK, ⟨fun i j p q h => by simp at h, fun k q h => by simp at h⟩⟩, by rw [ht]; exact h2, fun q h4 _ => by rw [ht]; exact h3 q h4⟩) (fun q h => by cases h) d_Lw_hello_14
set_option maxHeartbeats 4000000 in
set_option maxRecDepth 100000 in
/-- the law: reply throws -/
theorem t_reply (l : Launch) (dC : Nat → ClassId) (dI : Nat → Nat → Nat) (cT : Nat → ClassId) (sz : Nat) (ds : Nat) (v : Int64) (y : Int32) (dr : Nat) (sv : Nat) (ou : Nat) (hfl : l.flags = pinnedFlags ++ [noTraceFlag]) (hbad : y < 1 ∨ 60 < y) : Met l y_Lw_reply (Cond.codeWith y_Lw_reply b_Lw_reply 6 (Option.some Jvm.ClassFile.FieldType.int) [((0 : Nat), (11 : Nat), (14 : Nat), (13 : Nat)), ((0 : Nat), (11 : Nat), (18 : Nat), (27 : Nat))] :: BIG) ({ frames := 9, cells := 1, slots := 6, locals := 150 }) (va_Pc [.ref ds, .long v, .int y, .ref ou] (fun U => U.heap.size = sz ∧ va_P (dC, dI) vcl [(ds, .inr (0, [.ref dr, .ref sv]))] U.heap ∧ va_K (dC, dI) vcl (tyL cT) U ∧ va_D (fun _ => True) [(ds, .inr (0, [.ref dr, .ref sv]))] ∧ xz_T (fun _ => False) U U.heap)) (va_Qi (S := Unit) (fun rv9 u => rv9 = 1 ∧ (True)) (fun u t => va_P (dC, dI) vcl [] t.heap ∧ va_K (dC, dI) vcl (tyL cT) t ∧ va_D (va_A [(ds, .inr (0, [.ref dr, .ref sv]))] sz) []) (va_A [(ds, .inr (0, [.ref dr, .ref sv]))] sz)) 1 6 (va_A [(ds, .inr (0, [.ref dr, .ref sv]))] sz) := by
  refine xw_Met (cc := b_Lw_reply) (maxL := 6) (ret := (Option.some Jvm.ClassFile.FieldType.int)) (hh := [((0 : Nat), (11 : Nat), (14 : Nat), (13 : Nat)), ((0 : Nat), (11 : Nat), (18 : Nat), (27 : Nat))]) (by decide) rfl ?_
  intro p e s m args below meth c s₁ B hml hv htab
  obtain ⟨hargs, hsz, hP, hK, hD0, hE⟩ := hv
  have hx := B.exec
  have hb := B.bytes
  have hr := B.returns
  have hts := atoms_spec (ws := (Cond.codeWith y_Lw_reply b_Lw_reply 6 (Option.some Jvm.ClassFile.FieldType.int) [((0 : Nat), (11 : Nat), (14 : Nat), (13 : Nat)), ((0 : Nat), (11 : Nat), (18 : Nat), (27 : Nat))] :: BIG)) B.pre
  have hg : ∀ w ∈ BIG, w.before _ s = true := fun w h => hts w (List.mem_cons_of_mem _ h)
  have hown : s.vm.findClass "DoorServerLaw" = some m.cls := findClass_of_methodNamed B.named
  have hlocks := B.notSynchronized
  subst hsz
  have hD := hD0.self (sz := s.heap.size)
  generalize hAe : va_A [(ds, .inr (0, [.ref dr, .ref sv]))] s.heap.size = A at hD ⊢
  have hA : ∀ q : Nat, s.heap.size ≤ q → A q := fun q h => by rw [← hAe]; exact Or.inr h
  have hS : va_S A s.heap s.heap [] := va_S.rf
  have hl := lv_entry ([.ref ds, .long v, .int y, .ref ou]) (n := 6) (Nat.le_of_ble_eq_true rfl)
  refine W.eq (g2 := entryFrame m (List.toArray [.ref ds, .long v, .int y, .ref ou]) 6) (by rw [hargs]) ?_
  rw [lg_entry_eq]
  generalize (lg_sl ([.ref ds, .long v, .int y, .ref ou]) ++ List.replicate (6 - (lg_sl ([.ref ds, .long v, .int y, .ref ou])).length) Slot.unset).toArray = ls at hl ⊢
  have hl : lv_has ls 6 [(0, .ref ds), (1, .long v), (3, .int y), (4, .ref ou)] := hl
  change W p l e ({ frames := 9, cells := 1, slots := 6, locals := 150 } : Room) s m args below meth c s.heap [] 0 0 _ _
  have hP : va_P (dC, dI) vcl [(ds, .inr (0, [.ref dr, .ref sv]))] s.heap := hP
  refine lv_aload hx hb d_Lw_reply_0 (lv_at hl 3 rfl) ?_
  refine lv_iconst (v := 0) hx hb d_Lw_reply_2 (by decide) ?_
  refine lv_aload_n hx hb d_Lw_reply_3 rfl (lv_at hl 0 rfl) ?_
  refine lv_lload_n hx hb d_Lw_reply_4 rfl (lv_at hl 1 rfl) ?_
  refine lv_iload_n hx hb d_Lw_reply_5 rfl (lv_at hl 2 rfl) ?_
  have hPc := hP.sub (ws' := []) [] rfl
  refine xk_callV (C := "DoorServer") (As := [.long v, .int y]) (rest := [.int 0, .ref ou]) ⟨hx, hb, hml, hown, hg⟩ (x_reply l hfl dC dI cT ds v y hbad) (cwV 2 hg (gI (List.forall_mem_append.mpr ⟨List.forall_mem_cons.mpr ⟨k_620, List.forall_mem_cons.mpr ⟨k_621, List.forall_mem_cons.mpr ⟨k_622, List.forall_mem_cons.mpr ⟨k_1, fun _ h => absurd h List.not_mem_nil⟩⟩⟩⟩, List.forall_mem_cons.mpr ⟨k_623, fun _ h => h⟩⟩)) rfl rfl rfl (by decide +kernel) ⟨Nat.le_of_ble_eq_true rfl, Nat.le_of_ble_eq_true rfl⟩) ⟨fun a U g mk q => ?_, va_recv (q0 := 0) (ci := 0) hK hP rfl rfl, fun U hU hW => ⟨rfl, ?_, ?_, va_K.moved hW.alike hK⟩⟩ rfl hl.1 rfl (Nat.le_of_ble_eq_true rfl) d_Lw_reply_6 ⟨Nat.le_of_ble_eq_true rfl, Nat.le_of_ble_eq_true rfl⟩ (xk_catch1 htab (by decide) (by decide) hown (hg _ k_382) (va_Nw.use rfl hE.1.1) (fun x9 H1 h1 h2 h3 => ?_))
  · obtain ⟨q0, q1, q2, q3⟩ := q
    exact ⟨q0, q1.at (State.WarmedH.refl _) (fun _ _ _ => rfl) (fun _ h => h), q2, va_K.moved (Vm.Alike.refl U.vm) q3⟩
  · show xz_T _ U U.heap; rw [hU]; exact hE.at hW (fun _ _ _ => rfl) (fun _ h => h)
  · show va_P _ _ _ U.heap; rw [hU]; exact hPc
  · refine W.eq (g2 := F0 m 14 ls [.ref x9]) rfl ?_
    refine lv_astore (lv' := [(5, .ref x9), (0, .ref ds), (1, .long v), (3, .int y), (4, .ref ou)]) hx hb d_Lw_reply_14 hl (by decide) rfl (fun ls hl => ?_)
    refine lv_iconst (v := 1) hx hb d_Lw_reply_16 (by decide) ?_
    exact W.iret (v := 1) hx hb hr (fun t ht hW => ⟨⟨_, (), rfl, ⟨rfl, trivial⟩, fun k q h => by simp at h, va_K.moved hW.alike hK, ⟨fun i j p q h => by simp at h, fun k q h => by simp at h⟩⟩, by rw [ht]; exact h2, fun q h4 _ => by rw [ht]; exact h3 q h4⟩) (fun q h => by cases h) d_Lw_reply_17
set_option maxHeartbeats 4000000 in
set_option maxRecDepth 100000 in
/-- the law: prove throws -/
theorem t_prove (l : Launch) (dC : Nat → ClassId) (dI : Nat → Nat → Nat) (cT : Nat → ClassId) (sz : Nat) (ds : Nat) (x : Int32) (dr : Nat) (sv : Nat) (ou : Nat) (hfl : l.flags = pinnedFlags ++ [noTraceFlag]) (hbad : x < 0 ∨ 3 < x) : Met l y_Lw_prove (Cond.codeWith y_Lw_prove b_Lw_prove 4 (Option.some Jvm.ClassFile.FieldType.int) [((0 : Nat), (9 : Nat), (12 : Nat), (13 : Nat)), ((0 : Nat), (9 : Nat), (15 : Nat), (27 : Nat))] :: BIG) ({ frames := 9, cells := 1, slots := 6, locals := 150 }) (va_Pc [.ref ds, .int x, .ref ou] (fun U => U.heap.size = sz ∧ va_P (dC, dI) vcl [(ds, .inr (0, [.ref dr, .ref sv]))] U.heap ∧ va_K (dC, dI) vcl (tyL cT) U ∧ va_D (fun _ => True) [(ds, .inr (0, [.ref dr, .ref sv]))] ∧ xz_T (fun _ => False) U U.heap)) (va_Qi (S := Unit) (fun rv9 u => rv9 = 1 ∧ (True)) (fun u t => va_P (dC, dI) vcl [] t.heap ∧ va_K (dC, dI) vcl (tyL cT) t ∧ va_D (va_A [(ds, .inr (0, [.ref dr, .ref sv]))] sz) []) (va_A [(ds, .inr (0, [.ref dr, .ref sv]))] sz)) 1 6 (va_A [(ds, .inr (0, [.ref dr, .ref sv]))] sz) := by
  refine xw_Met (cc := b_Lw_prove) (maxL := 4) (ret := (Option.some Jvm.ClassFile.FieldType.int)) (hh := [((0 : Nat), (9 : Nat), (12 : Nat), (13 : Nat)), ((0 : Nat), (9 : Nat), (15 : Nat), (27 : Nat))]) (by decide) rfl ?_
  intro p e s m args below meth c s₁ B hml hv htab
  obtain ⟨hargs, hsz, hP, hK, hD0, hE⟩ := hv
  have hx := B.exec
  have hb := B.bytes
  have hr := B.returns
  have hts := atoms_spec (ws := (Cond.codeWith y_Lw_prove b_Lw_prove 4 (Option.some Jvm.ClassFile.FieldType.int) [((0 : Nat), (9 : Nat), (12 : Nat), (13 : Nat)), ((0 : Nat), (9 : Nat), (15 : Nat), (27 : Nat))] :: BIG)) B.pre
  have hg : ∀ w ∈ BIG, w.before _ s = true := fun w h => hts w (List.mem_cons_of_mem _ h)
  have hown : s.vm.findClass "DoorServerLaw" = some m.cls := findClass_of_methodNamed B.named
  have hlocks := B.notSynchronized
  subst hsz
  have hD := hD0.self (sz := s.heap.size)
  generalize hAe : va_A [(ds, .inr (0, [.ref dr, .ref sv]))] s.heap.size = A at hD ⊢
  have hA : ∀ q : Nat, s.heap.size ≤ q → A q := fun q h => by rw [← hAe]; exact Or.inr h
  have hS : va_S A s.heap s.heap [] := va_S.rf
  have hl := lv_entry ([.ref ds, .int x, .ref ou]) (n := 4) (Nat.le_of_ble_eq_true rfl)
  refine W.eq (g2 := entryFrame m (List.toArray [.ref ds, .int x, .ref ou]) 4) (by rw [hargs]) ?_
  rw [lg_entry_eq]
  generalize (lg_sl ([.ref ds, .int x, .ref ou]) ++ List.replicate (4 - (lg_sl ([.ref ds, .int x, .ref ou])).length) Slot.unset).toArray = ls at hl ⊢
  have hl : lv_has ls 4 [(0, .ref ds), (1, .int x), (2, .ref ou)] := hl
  change W p l e ({ frames := 9, cells := 1, slots := 6, locals := 150 } : Room) s m args below meth c s.heap [] 0 0 _ _
  have hP : va_P (dC, dI) vcl [(ds, .inr (0, [.ref dr, .ref sv]))] s.heap := hP
  refine lv_aload_n hx hb d_Lw_prove_0 rfl (lv_at hl 2 rfl) ?_
  refine lv_iconst (v := 0) hx hb d_Lw_prove_1 (by decide) ?_
  refine lv_aload_n hx hb d_Lw_prove_2 rfl (lv_at hl 0 rfl) ?_
  refine lv_iload_n hx hb d_Lw_prove_3 rfl (lv_at hl 1 rfl) ?_
  have hPc := hP.sub (ws' := []) [] rfl
  refine xk_callV (C := "DoorServer") (As := [.int x]) (rest := [.int 0, .ref ou]) ⟨hx, hb, hml, hown, hg⟩ (x_prove l hfl dC dI cT ds x hbad) (cwV 1 hg (gI (List.forall_mem_append.mpr ⟨List.forall_mem_cons.mpr ⟨k_636, List.forall_mem_cons.mpr ⟨k_637, List.forall_mem_cons.mpr ⟨k_638, List.forall_mem_cons.mpr ⟨k_1, fun _ h => absurd h List.not_mem_nil⟩⟩⟩⟩, List.forall_mem_cons.mpr ⟨k_639, fun _ h => h⟩⟩)) rfl rfl rfl (by decide +kernel) ⟨Nat.le_of_ble_eq_true rfl, Nat.le_of_ble_eq_true rfl⟩) ⟨fun a U g mk q => ?_, va_recv (q0 := 0) (ci := 0) hK hP rfl rfl, fun U hU hW => ⟨rfl, ?_, ?_, va_K.moved hW.alike hK⟩⟩ rfl hl.1 rfl (Nat.le_of_ble_eq_true rfl) d_Lw_prove_4 ⟨Nat.le_of_ble_eq_true rfl, Nat.le_of_ble_eq_true rfl⟩ (xk_catch1 htab (by decide) (by decide) hown (hg _ k_382) (va_Nw.use rfl hE.1.1) (fun x9 H1 h1 h2 h3 => ?_))
  · obtain ⟨q0, q1, q2, q3⟩ := q
    exact ⟨q0, q1.at (State.WarmedH.refl _) (fun _ _ _ => rfl) (fun _ h => h), q2, va_K.moved (Vm.Alike.refl U.vm) q3⟩
  · show xz_T _ U U.heap; rw [hU]; exact hE.at hW (fun _ _ _ => rfl) (fun _ h => h)
  · show va_P _ _ _ U.heap; rw [hU]; exact hPc
  · refine W.eq (g2 := F0 m 12 ls [.ref x9]) rfl ?_
    refine lv_astore_n (lv' := [(3, .ref x9), (0, .ref ds), (1, .int x), (2, .ref ou)]) hx hb d_Lw_prove_12 rfl hl (by decide) rfl (fun ls hl => ?_)
    refine lv_iconst (v := 1) hx hb d_Lw_prove_13 (by decide) ?_
    exact W.iret (v := 1) hx hb hr (fun t ht hW => ⟨⟨_, (), rfl, ⟨rfl, trivial⟩, fun k q h => by simp at h, va_K.moved hW.alike hK, ⟨fun i j p q h => by simp at h, fun k q h => by simp at h⟩⟩, by rw [ht]; exact h2, fun q h4 _ => by rw [ht]; exact h3 q h4⟩) (fun q h => by cases h) d_Lw_prove_14
set_option maxHeartbeats 4000000 in
set_option maxRecDepth 100000 in
/-- the law: seal throws -/
theorem t_seal (l : Launch) (dC : Nat → ClassId) (dI : Nat → Nat → Nat) (cT : Nat → ClassId) (sz : Nat) (ds : Nat) (x : Int32) (dr : Nat) (sv : Nat) (hfl : l.flags = pinnedFlags ++ [noTraceFlag]) (hbad : x < 0 ∨ 3 < x) : Met l y_Lw_seal (Cond.codeWith y_Lw_seal b_Lw_seal 3 (Option.some Jvm.ClassFile.FieldType.int) [((0 : Nat), (5 : Nat), (8 : Nat), (13 : Nat))] :: BIG) ({ frames := 9, cells := 1, slots := 6, locals := 150 }) (va_Pc [.ref ds, .int x] (fun U => U.heap.size = sz ∧ va_P (dC, dI) vcl [(ds, .inr (0, [.ref dr, .ref sv]))] U.heap ∧ va_K (dC, dI) vcl (tyL cT) U ∧ va_D (fun _ => True) [(ds, .inr (0, [.ref dr, .ref sv]))] ∧ xz_T (fun _ => False) U U.heap)) (va_Qi (S := Unit) (fun rv9 u => rv9 = 1 ∧ (True)) (fun u t => va_P (dC, dI) vcl [] t.heap ∧ va_K (dC, dI) vcl (tyL cT) t ∧ va_D (va_A [(ds, .inr (0, [.ref dr, .ref sv]))] sz) []) (va_A [(ds, .inr (0, [.ref dr, .ref sv]))] sz)) 1 6 (va_A [(ds, .inr (0, [.ref dr, .ref sv]))] sz) := by
  refine xw_Met (cc := b_Lw_seal) (maxL := 3) (ret := (Option.some Jvm.ClassFile.FieldType.int)) (hh := [((0 : Nat), (5 : Nat), (8 : Nat), (13 : Nat))]) (by decide) rfl ?_
  intro p e s m args below meth c s₁ B hml hv htab
  obtain ⟨hargs, hsz, hP, hK, hD0, hE⟩ := hv
  have hx := B.exec
  have hb := B.bytes
  have hr := B.returns
  have hts := atoms_spec (ws := (Cond.codeWith y_Lw_seal b_Lw_seal 3 (Option.some Jvm.ClassFile.FieldType.int) [((0 : Nat), (5 : Nat), (8 : Nat), (13 : Nat))] :: BIG)) B.pre
  have hg : ∀ w ∈ BIG, w.before _ s = true := fun w h => hts w (List.mem_cons_of_mem _ h)
  have hown : s.vm.findClass "DoorServerLaw" = some m.cls := findClass_of_methodNamed B.named
  have hlocks := B.notSynchronized
  subst hsz
  have hD := hD0.self (sz := s.heap.size)
  generalize hAe : va_A [(ds, .inr (0, [.ref dr, .ref sv]))] s.heap.size = A at hD ⊢
  have hA : ∀ q : Nat, s.heap.size ≤ q → A q := fun q h => by rw [← hAe]; exact Or.inr h
  have hS : va_S A s.heap s.heap [] := va_S.rf
  have hl := lv_entry ([.ref ds, .int x]) (n := 3) (Nat.le_of_ble_eq_true rfl)
  refine W.eq (g2 := entryFrame m (List.toArray [.ref ds, .int x]) 3) (by rw [hargs]) ?_
  rw [lg_entry_eq]
  generalize (lg_sl ([.ref ds, .int x]) ++ List.replicate (3 - (lg_sl ([.ref ds, .int x])).length) Slot.unset).toArray = ls at hl ⊢
  have hl : lv_has ls 3 [(0, .ref ds), (1, .int x)] := hl
  change W p l e ({ frames := 9, cells := 1, slots := 6, locals := 150 } : Room) s m args below meth c s.heap [] 0 0 _ _
  have hP : va_P (dC, dI) vcl [(ds, .inr (0, [.ref dr, .ref sv]))] s.heap := hP
  refine lv_aload_n hx hb d_Lw_seal_0 rfl (lv_at hl 0 rfl) ?_
  refine lv_iload_n hx hb d_Lw_seal_1 rfl (lv_at hl 1 rfl) ?_
  have hPc := hP.sub (ws' := []) [] rfl
  refine xk_callV (C := "DoorServer") (As := [.int x]) (rest := []) ⟨hx, hb, hml, hown, hg⟩ (x_seal l hfl dC dI cT ds x hbad) (cwV 1 hg (gI (List.forall_mem_append.mpr ⟨List.forall_mem_cons.mpr ⟨k_668, List.forall_mem_cons.mpr ⟨k_669, List.forall_mem_cons.mpr ⟨k_670, List.forall_mem_cons.mpr ⟨k_1, fun _ h => absurd h List.not_mem_nil⟩⟩⟩⟩, List.forall_mem_cons.mpr ⟨k_671, fun _ h => h⟩⟩)) rfl rfl rfl (by decide +kernel) ⟨Nat.le_of_ble_eq_true rfl, Nat.le_of_ble_eq_true rfl⟩) ⟨fun a U g mk q => ?_, va_recv (q0 := 0) (ci := 0) hK hP rfl rfl, fun U hU hW => ⟨rfl, ?_, ?_, va_K.moved hW.alike hK⟩⟩ rfl hl.1 rfl (Nat.le_of_ble_eq_true rfl) d_Lw_seal_2 ⟨Nat.le_of_ble_eq_true rfl, Nat.le_of_ble_eq_true rfl⟩ (xk_catch1 htab (by decide) (by decide) hown (hg _ k_382) (va_Nw.use rfl hE.1.1) (fun x9 H1 h1 h2 h3 => ?_))
  · obtain ⟨q0, q1, q2, q3⟩ := q
    exact ⟨q0, q1.at (State.WarmedH.refl _) (fun _ _ _ => rfl) (fun _ h => h), q2, va_K.moved (Vm.Alike.refl U.vm) q3⟩
  · show xz_T _ U U.heap; rw [hU]; exact hE.at hW (fun _ _ _ => rfl) (fun _ h => h)
  · show va_P _ _ _ U.heap; rw [hU]; exact hPc
  · refine W.eq (g2 := F0 m 8 ls [.ref x9]) rfl ?_
    refine lv_astore_n (lv' := [(2, .ref x9), (0, .ref ds), (1, .int x)]) hx hb d_Lw_seal_8 rfl hl (by decide) rfl (fun ls hl => ?_)
    refine lv_iconst (v := 1) hx hb d_Lw_seal_9 (by decide) ?_
    exact W.iret (v := 1) hx hb hr (fun t ht hW => ⟨⟨_, (), rfl, ⟨rfl, trivial⟩, fun k q h => by simp at h, va_K.moved hW.alike hK, ⟨fun i j p q h => by simp at h, fun k q h => by simp at h⟩⟩, by rw [ht]; exact h2, fun q h4 _ => by rw [ht]; exact h3 q h4⟩) (fun q h => by cases h) d_Lw_seal_10
set_option maxHeartbeats 4000000 in
set_option maxRecDepth 100000 in
/-- the law: spoil throws -/
theorem t_spoil1 (l : Launch) (dC : Nat → ClassId) (dI : Nat → Nat → Nat) (cT : Nat → ClassId) (sz : Nat) (ds : Nat) (dr : Nat) (sv : Nat) (rr : Nat) (f : Nat → Int32) (x : Int32) (y : Int32) (ou : Nat) (hfl : l.flags = pinnedFlags ++ [noTraceFlag]) (hbad : x < 0 ∨ 19 < x) : Met l y_Lw_spoil (Cond.codeWith y_Lw_spoil b_Lw_spoil 5 (Option.some Jvm.ClassFile.FieldType.int) [((0 : Nat), (10 : Nat), (13 : Nat), (13 : Nat))] :: BIG) ({ frames := 9, cells := 1, slots := 6, locals := 150 }) (va_Pc [.ref ds, .int x, .int y, .ref ou] (fun U => U.heap.size = sz ∧ va_P (dC, dI) vcl [(ds, .inr (0, [.ref dr, .ref sv])), (dr, .inr (2, [.ref rr, .int (nI 20)])), (rr, .inl ((cT 0), 1000, .inl f))] U.heap ∧ va_K (dC, dI) vcl (tyL cT) U ∧ va_D (fun _ => True) [(ds, .inr (0, [.ref dr, .ref sv])), (dr, .inr (2, [.ref rr, .int (nI 20)])), (rr, .inl ((cT 0), 1000, .inl f))] ∧ xz_T (fun _ => False) U U.heap)) (va_Qi (S := Unit) (fun rv9 u => rv9 = 1 ∧ (True)) (fun u t => va_P (dC, dI) vcl [] t.heap ∧ va_K (dC, dI) vcl (tyL cT) t ∧ va_D (va_A [(ds, .inr (0, [.ref dr, .ref sv])), (dr, .inr (2, [.ref rr, .int (nI 20)])), (rr, .inl ((cT 0), 1000, .inl f))] sz) []) (va_A [(ds, .inr (0, [.ref dr, .ref sv])), (dr, .inr (2, [.ref rr, .int (nI 20)])), (rr, .inl ((cT 0), 1000, .inl f))] sz)) 1 6 (va_A [(ds, .inr (0, [.ref dr, .ref sv])), (dr, .inr (2, [.ref rr, .int (nI 20)])), (rr, .inl ((cT 0), 1000, .inl f))] sz) := by
  refine xw_Met (cc := b_Lw_spoil) (maxL := 5) (ret := (Option.some Jvm.ClassFile.FieldType.int)) (hh := [((0 : Nat), (10 : Nat), (13 : Nat), (13 : Nat))]) (by decide) rfl ?_
  intro p e s m args below meth c s₁ B hml hv htab
  obtain ⟨hargs, hsz, hP, hK, hD0, hE⟩ := hv
  have hx := B.exec
  have hb := B.bytes
  have hr := B.returns
  have hts := atoms_spec (ws := (Cond.codeWith y_Lw_spoil b_Lw_spoil 5 (Option.some Jvm.ClassFile.FieldType.int) [((0 : Nat), (10 : Nat), (13 : Nat), (13 : Nat))] :: BIG)) B.pre
  have hg : ∀ w ∈ BIG, w.before _ s = true := fun w h => hts w (List.mem_cons_of_mem _ h)
  have hown : s.vm.findClass "DoorServerLaw" = some m.cls := findClass_of_methodNamed B.named
  have hlocks := B.notSynchronized
  subst hsz
  have hD := hD0.self (sz := s.heap.size)
  generalize hAe : va_A [(ds, .inr (0, [.ref dr, .ref sv])), (dr, .inr (2, [.ref rr, .int (nI 20)])), (rr, .inl ((cT 0), 1000, .inl f))] s.heap.size = A at hD ⊢
  have hA : ∀ q : Nat, s.heap.size ≤ q → A q := fun q h => by rw [← hAe]; exact Or.inr h
  have hS : va_S A s.heap s.heap [] := va_S.rf
  have hl := lv_entry ([.ref ds, .int x, .int y, .ref ou]) (n := 5) (Nat.le_of_ble_eq_true rfl)
  refine W.eq (g2 := entryFrame m (List.toArray [.ref ds, .int x, .int y, .ref ou]) 5) (by rw [hargs]) ?_
  rw [lg_entry_eq]
  generalize (lg_sl ([.ref ds, .int x, .int y, .ref ou]) ++ List.replicate (5 - (lg_sl ([.ref ds, .int x, .int y, .ref ou])).length) Slot.unset).toArray = ls at hl ⊢
  have hl : lv_has ls 5 [(0, .ref ds), (1, .int x), (2, .int y), (3, .ref ou)] := hl
  change W p l e ({ frames := 9, cells := 1, slots := 6, locals := 150 } : Room) s m args below meth c s.heap [] 0 0 _ _
  have hP : va_P (dC, dI) vcl [(ds, .inr (0, [.ref dr, .ref sv])), (dr, .inr (2, [.ref rr, .int (nI 20)])), (rr, .inl ((cT 0), 1000, .inl f))] s.heap := hP
  refine lv_aload_n hx hb d_Lw_spoil_0 rfl (lv_at hl 3 rfl) ?_
  refine lv_iconst (v := 0) hx hb d_Lw_spoil_1 (by decide) ?_
  refine lv_aload_n hx hb d_Lw_spoil_2 rfl (lv_at hl 0 rfl) ?_
  refine lv_iload_n hx hb d_Lw_spoil_3 rfl (lv_at hl 1 rfl) ?_
  refine lv_iload_n hx hb d_Lw_spoil_4 rfl (lv_at hl 2 rfl) ?_
  have hPc := hP.sub (ws' := [(ds, .inr (0, [.ref dr, .ref sv])), (dr, .inr (2, [.ref rr, .int (nI 20)])), (rr, .inl ((cT 0), 1000, .inl f))]) [0, 1, 2] rfl
  refine xk_callV (C := "DoorServer") (As := [.int x, .int y]) (rest := [.int 0, .ref ou]) ⟨hx, hb, hml, hown, hg⟩ (x_spoil1 l hfl dC dI cT ds dr sv rr f x y hbad) (cwV 2 hg (gI (List.forall_mem_append.mpr ⟨List.forall_mem_cons.mpr ⟨k_679, List.forall_mem_cons.mpr ⟨k_680, List.forall_mem_cons.mpr ⟨k_681, List.forall_mem_cons.mpr ⟨k_1, fun _ h => absurd h List.not_mem_nil⟩⟩⟩⟩, List.forall_mem_cons.mpr ⟨k_682, fun _ h => h⟩⟩)) rfl rfl rfl (by decide +kernel) ⟨Nat.le_of_ble_eq_true rfl, Nat.le_of_ble_eq_true rfl⟩) ⟨fun a U g mk q => ?_, va_recv (q0 := 0) (ci := 0) hK hP rfl rfl, fun U hU hW => ⟨rfl, ?_, ?_, va_K.moved hW.alike hK⟩⟩ rfl hl.1 rfl (Nat.le_of_ble_eq_true rfl) d_Lw_spoil_5 ⟨Nat.le_of_ble_eq_true rfl, Nat.le_of_ble_eq_true rfl⟩ (xk_catch1 htab (by decide) (by decide) hown (hg _ k_382) (va_Nw.use rfl hE.1.1) (fun x9 H1 h1 h2 h3 => ?_))
  · obtain ⟨q0, q1, q2, q3⟩ := q
    exact ⟨q0, q1.at (State.WarmedH.refl _) (fun _ _ _ => rfl) (fun _ h => h), q2, va_K.moved (Vm.Alike.refl U.vm) q3⟩
  · show xz_T _ U U.heap; rw [hU]; exact hE.at hW (fun _ _ _ => rfl) (fun _ h => h)
  · show va_P _ _ _ U.heap; rw [hU]; exact hPc
  · refine W.eq (g2 := F0 m 13 ls [.ref x9]) rfl ?_
    refine lv_astore (lv' := [(4, .ref x9), (0, .ref ds), (1, .int x), (2, .int y), (3, .ref ou)]) hx hb d_Lw_spoil_13 hl (by decide) rfl (fun ls hl => ?_)
    refine lv_iconst (v := 1) hx hb d_Lw_spoil_15 (by decide) ?_
    exact W.iret (v := 1) hx hb hr (fun t ht hW => ⟨⟨_, (), rfl, ⟨rfl, trivial⟩, fun k q h => by simp at h, va_K.moved hW.alike hK, ⟨fun i j p q h => by simp at h, fun k q h => by simp at h⟩⟩, by rw [ht]; exact h2, fun q h4 _ => by rw [ht]; exact h3 q h4⟩) (fun q h => by cases h) d_Lw_spoil_16
set_option maxHeartbeats 4000000 in
set_option maxRecDepth 100000 in
/-- the law: spoil throws -/
theorem t_spoil2 (l : Launch) (dC : Nat → ClassId) (dI : Nat → Nat → Nat) (cT : Nat → ClassId) (sz : Nat) (ds : Nat) (dr : Nat) (sv : Nat) (rr : Nat) (f : Nat → Int32) (x : Int32) (y : Int32) (ou : Nat) (hfl : l.flags = pinnedFlags ++ [noTraceFlag]) (hx1 : ¬ x < 0) (hx2 : ¬ 19 < x) (hbad : y < 0 ∨ 255 < y) : Met l y_Lw_spoil (Cond.codeWith y_Lw_spoil b_Lw_spoil 5 (Option.some Jvm.ClassFile.FieldType.int) [((0 : Nat), (10 : Nat), (13 : Nat), (13 : Nat))] :: BIG) ({ frames := 9, cells := 1, slots := 6, locals := 150 }) (va_Pc [.ref ds, .int x, .int y, .ref ou] (fun U => U.heap.size = sz ∧ va_P (dC, dI) vcl [(ds, .inr (0, [.ref dr, .ref sv])), (dr, .inr (2, [.ref rr, .int (nI 20)])), (rr, .inl ((cT 0), 1000, .inl f))] U.heap ∧ va_K (dC, dI) vcl (tyL cT) U ∧ va_D (fun _ => True) [(ds, .inr (0, [.ref dr, .ref sv])), (dr, .inr (2, [.ref rr, .int (nI 20)])), (rr, .inl ((cT 0), 1000, .inl f))] ∧ xz_T (fun _ => False) U U.heap)) (va_Qi (S := Unit) (fun rv9 u => rv9 = 1 ∧ (True)) (fun u t => va_P (dC, dI) vcl [] t.heap ∧ va_K (dC, dI) vcl (tyL cT) t ∧ va_D (va_A [(ds, .inr (0, [.ref dr, .ref sv])), (dr, .inr (2, [.ref rr, .int (nI 20)])), (rr, .inl ((cT 0), 1000, .inl f))] sz) []) (va_A [(ds, .inr (0, [.ref dr, .ref sv])), (dr, .inr (2, [.ref rr, .int (nI 20)])), (rr, .inl ((cT 0), 1000, .inl f))] sz)) 1 6 (va_A [(ds, .inr (0, [.ref dr, .ref sv])), (dr, .inr (2, [.ref rr, .int (nI 20)])), (rr, .inl ((cT 0), 1000, .inl f))] sz) := by
  refine xw_Met (cc := b_Lw_spoil) (maxL := 5) (ret := (Option.some Jvm.ClassFile.FieldType.int)) (hh := [((0 : Nat), (10 : Nat), (13 : Nat), (13 : Nat))]) (by decide) rfl ?_
  intro p e s m args below meth c s₁ B hml hv htab
  obtain ⟨hargs, hsz, hP, hK, hD0, hE⟩ := hv
  have hx := B.exec
  have hb := B.bytes
  have hr := B.returns
  have hts := atoms_spec (ws := (Cond.codeWith y_Lw_spoil b_Lw_spoil 5 (Option.some Jvm.ClassFile.FieldType.int) [((0 : Nat), (10 : Nat), (13 : Nat), (13 : Nat))] :: BIG)) B.pre
  have hg : ∀ w ∈ BIG, w.before _ s = true := fun w h => hts w (List.mem_cons_of_mem _ h)
  have hown : s.vm.findClass "DoorServerLaw" = some m.cls := findClass_of_methodNamed B.named
  have hlocks := B.notSynchronized
  subst hsz
  have hD := hD0.self (sz := s.heap.size)
  generalize hAe : va_A [(ds, .inr (0, [.ref dr, .ref sv])), (dr, .inr (2, [.ref rr, .int (nI 20)])), (rr, .inl ((cT 0), 1000, .inl f))] s.heap.size = A at hD ⊢
  have hA : ∀ q : Nat, s.heap.size ≤ q → A q := fun q h => by rw [← hAe]; exact Or.inr h
  have hS : va_S A s.heap s.heap [] := va_S.rf
  have hl := lv_entry ([.ref ds, .int x, .int y, .ref ou]) (n := 5) (Nat.le_of_ble_eq_true rfl)
  refine W.eq (g2 := entryFrame m (List.toArray [.ref ds, .int x, .int y, .ref ou]) 5) (by rw [hargs]) ?_
  rw [lg_entry_eq]
  generalize (lg_sl ([.ref ds, .int x, .int y, .ref ou]) ++ List.replicate (5 - (lg_sl ([.ref ds, .int x, .int y, .ref ou])).length) Slot.unset).toArray = ls at hl ⊢
  have hl : lv_has ls 5 [(0, .ref ds), (1, .int x), (2, .int y), (3, .ref ou)] := hl
  change W p l e ({ frames := 9, cells := 1, slots := 6, locals := 150 } : Room) s m args below meth c s.heap [] 0 0 _ _
  have hP : va_P (dC, dI) vcl [(ds, .inr (0, [.ref dr, .ref sv])), (dr, .inr (2, [.ref rr, .int (nI 20)])), (rr, .inl ((cT 0), 1000, .inl f))] s.heap := hP
  refine lv_aload_n hx hb d_Lw_spoil_0 rfl (lv_at hl 3 rfl) ?_
  refine lv_iconst (v := 0) hx hb d_Lw_spoil_1 (by decide) ?_
  refine lv_aload_n hx hb d_Lw_spoil_2 rfl (lv_at hl 0 rfl) ?_
  refine lv_iload_n hx hb d_Lw_spoil_3 rfl (lv_at hl 1 rfl) ?_
  refine lv_iload_n hx hb d_Lw_spoil_4 rfl (lv_at hl 2 rfl) ?_
  have hPc := hP.sub (ws' := [(ds, .inr (0, [.ref dr, .ref sv])), (dr, .inr (2, [.ref rr, .int (nI 20)])), (rr, .inl ((cT 0), 1000, .inl f))]) [0, 1, 2] rfl
  refine xk_callV (C := "DoorServer") (As := [.int x, .int y]) (rest := [.int 0, .ref ou]) ⟨hx, hb, hml, hown, hg⟩ (x_spoil2 l hfl dC dI cT ds dr sv rr f x y hx1 hx2 hbad) (cwV 2 hg (gI (List.forall_mem_append.mpr ⟨List.forall_mem_cons.mpr ⟨k_679, List.forall_mem_cons.mpr ⟨k_680, List.forall_mem_cons.mpr ⟨k_681, List.forall_mem_cons.mpr ⟨k_1, fun _ h => absurd h List.not_mem_nil⟩⟩⟩⟩, List.forall_mem_cons.mpr ⟨k_682, fun _ h => h⟩⟩)) rfl rfl rfl (by decide +kernel) ⟨Nat.le_of_ble_eq_true rfl, Nat.le_of_ble_eq_true rfl⟩) ⟨fun a U g mk q => ?_, va_recv (q0 := 0) (ci := 0) hK hP rfl rfl, fun U hU hW => ⟨rfl, ?_, ?_, va_K.moved hW.alike hK⟩⟩ rfl hl.1 rfl (Nat.le_of_ble_eq_true rfl) d_Lw_spoil_5 ⟨Nat.le_of_ble_eq_true rfl, Nat.le_of_ble_eq_true rfl⟩ (xk_catch1 htab (by decide) (by decide) hown (hg _ k_382) (va_Nw.use rfl hE.1.1) (fun x9 H1 h1 h2 h3 => ?_))
  · obtain ⟨q0, q1, q2, q3⟩ := q
    exact ⟨q0, q1.at (State.WarmedH.refl _) (fun _ _ _ => rfl) (fun _ h => h), q2, va_K.moved (Vm.Alike.refl U.vm) q3⟩
  · show xz_T _ U U.heap; rw [hU]; exact hE.at hW (fun _ _ _ => rfl) (fun _ h => h)
  · show va_P _ _ _ U.heap; rw [hU]; exact hPc
  · refine W.eq (g2 := F0 m 13 ls [.ref x9]) rfl ?_
    refine lv_astore (lv' := [(4, .ref x9), (0, .ref ds), (1, .int x), (2, .int y), (3, .ref ou)]) hx hb d_Lw_spoil_13 hl (by decide) rfl (fun ls hl => ?_)
    refine lv_iconst (v := 1) hx hb d_Lw_spoil_15 (by decide) ?_
    exact W.iret (v := 1) hx hb hr (fun t ht hW => ⟨⟨_, (), rfl, ⟨rfl, trivial⟩, fun k q h => by simp at h, va_K.moved hW.alike hK, ⟨fun i j p q h => by simp at h, fun k q h => by simp at h⟩⟩, by rw [ht]; exact h2, fun q h4 _ => by rw [ht]; exact h3 q h4⟩) (fun q h => by cases h) d_Lw_spoil_16
set_option maxHeartbeats 4000000 in
set_option maxRecDepth 100000 in
/-- the law: send throws -/
theorem t_send (l : Launch) (dC : Nat → ClassId) (dI : Nat → Nat → Nat) (cT : Nat → ClassId) (sz : Nat) (ds : Nat) (x : Int32) (dr : Nat) (sv : Nat) (ou : Nat) (hfl : l.flags = pinnedFlags ++ [noTraceFlag]) (hbad : x < 0 ∨ 3 < x) : Met l y_Lw_send (Cond.codeWith y_Lw_send b_Lw_send 4 (Option.some Jvm.ClassFile.FieldType.int) [((0 : Nat), (9 : Nat), (12 : Nat), (13 : Nat))] :: BIG) ({ frames := 9, cells := 1, slots := 6, locals := 150 }) (va_Pc [.ref ds, .int x, .ref ou] (fun U => U.heap.size = sz ∧ va_P (dC, dI) vcl [(ds, .inr (0, [.ref dr, .ref sv]))] U.heap ∧ va_K (dC, dI) vcl (tyL cT) U ∧ va_D (fun _ => True) [(ds, .inr (0, [.ref dr, .ref sv]))] ∧ xz_T (fun _ => False) U U.heap)) (va_Qi (S := Unit) (fun rv9 u => rv9 = 1 ∧ (True)) (fun u t => va_P (dC, dI) vcl [] t.heap ∧ va_K (dC, dI) vcl (tyL cT) t ∧ va_D (va_A [(ds, .inr (0, [.ref dr, .ref sv]))] sz) []) (va_A [(ds, .inr (0, [.ref dr, .ref sv]))] sz)) 1 6 (va_A [(ds, .inr (0, [.ref dr, .ref sv]))] sz) := by
  refine xw_Met (cc := b_Lw_send) (maxL := 4) (ret := (Option.some Jvm.ClassFile.FieldType.int)) (hh := [((0 : Nat), (9 : Nat), (12 : Nat), (13 : Nat))]) (by decide) rfl ?_
  intro p e s m args below meth c s₁ B hml hv htab
  obtain ⟨hargs, hsz, hP, hK, hD0, hE⟩ := hv
  have hx := B.exec
  have hb := B.bytes
  have hr := B.returns
  have hts := atoms_spec (ws := (Cond.codeWith y_Lw_send b_Lw_send 4 (Option.some Jvm.ClassFile.FieldType.int) [((0 : Nat), (9 : Nat), (12 : Nat), (13 : Nat))] :: BIG)) B.pre
  have hg : ∀ w ∈ BIG, w.before _ s = true := fun w h => hts w (List.mem_cons_of_mem _ h)
  have hown : s.vm.findClass "DoorServerLaw" = some m.cls := findClass_of_methodNamed B.named
  have hlocks := B.notSynchronized
  subst hsz
  have hD := hD0.self (sz := s.heap.size)
  generalize hAe : va_A [(ds, .inr (0, [.ref dr, .ref sv]))] s.heap.size = A at hD ⊢
  have hA : ∀ q : Nat, s.heap.size ≤ q → A q := fun q h => by rw [← hAe]; exact Or.inr h
  have hS : va_S A s.heap s.heap [] := va_S.rf
  have hl := lv_entry ([.ref ds, .int x, .ref ou]) (n := 4) (Nat.le_of_ble_eq_true rfl)
  refine W.eq (g2 := entryFrame m (List.toArray [.ref ds, .int x, .ref ou]) 4) (by rw [hargs]) ?_
  rw [lg_entry_eq]
  generalize (lg_sl ([.ref ds, .int x, .ref ou]) ++ List.replicate (4 - (lg_sl ([.ref ds, .int x, .ref ou])).length) Slot.unset).toArray = ls at hl ⊢
  have hl : lv_has ls 4 [(0, .ref ds), (1, .int x), (2, .ref ou)] := hl
  change W p l e ({ frames := 9, cells := 1, slots := 6, locals := 150 } : Room) s m args below meth c s.heap [] 0 0 _ _
  have hP : va_P (dC, dI) vcl [(ds, .inr (0, [.ref dr, .ref sv]))] s.heap := hP
  refine lv_aload_n hx hb d_Lw_send_0 rfl (lv_at hl 2 rfl) ?_
  refine lv_iconst (v := 0) hx hb d_Lw_send_1 (by decide) ?_
  refine lv_aload_n hx hb d_Lw_send_2 rfl (lv_at hl 0 rfl) ?_
  refine lv_iload_n hx hb d_Lw_send_3 rfl (lv_at hl 1 rfl) ?_
  have hPc := hP.sub (ws' := []) [] rfl
  refine xk_callV (C := "DoorServer") (As := [.int x]) (rest := [.int 0, .ref ou]) ⟨hx, hb, hml, hown, hg⟩ (x_send l hfl dC dI cT ds x hbad) (cwV 1 hg (gI (List.forall_mem_append.mpr ⟨List.forall_mem_cons.mpr ⟨k_686, List.forall_mem_cons.mpr ⟨k_687, List.forall_mem_cons.mpr ⟨k_688, List.forall_mem_cons.mpr ⟨k_1, fun _ h => absurd h List.not_mem_nil⟩⟩⟩⟩, List.forall_mem_cons.mpr ⟨k_689, fun _ h => h⟩⟩)) rfl rfl rfl (by decide +kernel) ⟨Nat.le_of_ble_eq_true rfl, Nat.le_of_ble_eq_true rfl⟩) ⟨fun a U g mk q => ?_, va_recv (q0 := 0) (ci := 0) hK hP rfl rfl, fun U hU hW => ⟨rfl, ?_, ?_, va_K.moved hW.alike hK⟩⟩ rfl hl.1 rfl (Nat.le_of_ble_eq_true rfl) d_Lw_send_4 ⟨Nat.le_of_ble_eq_true rfl, Nat.le_of_ble_eq_true rfl⟩ (xk_catch1 htab (by decide) (by decide) hown (hg _ k_382) (va_Nw.use rfl hE.1.1) (fun x9 H1 h1 h2 h3 => ?_))
  · obtain ⟨q0, q1, q2, q3⟩ := q
    exact ⟨q0, q1.at (State.WarmedH.refl _) (fun _ _ _ => rfl) (fun _ h => h), q2, va_K.moved (Vm.Alike.refl U.vm) q3⟩
  · show xz_T _ U U.heap; rw [hU]; exact hE.at hW (fun _ _ _ => rfl) (fun _ h => h)
  · show va_P _ _ _ U.heap; rw [hU]; exact hPc
  · refine W.eq (g2 := F0 m 12 ls [.ref x9]) rfl ?_
    refine lv_astore_n (lv' := [(3, .ref x9), (0, .ref ds), (1, .int x), (2, .ref ou)]) hx hb d_Lw_send_12 rfl hl (by decide) rfl (fun ls hl => ?_)
    refine lv_iconst (v := 1) hx hb d_Lw_send_13 (by decide) ?_
    exact W.iret (v := 1) hx hb hr (fun t ht hW => ⟨⟨_, (), rfl, ⟨rfl, trivial⟩, fun k q h => by simp at h, va_K.moved hW.alike hK, ⟨fun i j p q h => by simp at h, fun k q h => by simp at h⟩⟩, by rw [ht]; exact h2, fun q h4 _ => by rw [ht]; exact h3 q h4⟩) (fun q h => by cases h) d_Lw_send_14
set_option maxHeartbeats 4000000 in
set_option maxRecDepth 100000 in
/-- the law: byteAt throws -/
theorem t_byteAt (l : Launch) (dC : Nat → ClassId) (dI : Nat → Nat → Nat) (cT : Nat → ClassId) (sz : Nat) (ds : Nat) (dr : Nat) (sv : Nat) (rr : Nat) (g0 : Nat) (se : Nat) (pw : Nat) (ty : Nat) (an : Nat) (aw : Nat) (ts : Nat) (ss : Nat) (rq : Nat) (tm : Int32) (n3 : Int32) (n4 : Int32) (ar : Nat) (fa : Nat → Int32) (x : Int32) (ou : Nat) (hfl : l.flags = pinnedFlags ++ [noTraceFlag]) : Met l y_Lw_byteAt (Cond.codeWith y_Lw_byteAt b_Lw_byteAt 4 (Option.some Jvm.ClassFile.FieldType.int) [((0 : Nat), (9 : Nat), (12 : Nat), (13 : Nat))] :: BIG) ({ frames := 9, cells := 1, slots := 6, locals := 150 }) (va_Pc [.ref ds, .int x, .ref ou] (fun U => U.heap.size = sz ∧ va_P (dC, dI) vcl [(ds, .inr (0, [.ref dr, .ref sv])), (sv, .inr (5, [.ref se, .ref pw, .ref g0, .ref ty, .ref an, .ref aw, .ref ts, .ref ss, .ref rq, .int tm, .int n3, .int n4])), (an, .inr (2, [.ref ar, .int 0])), (ar, .inl ((cT 0), 72, .inl fa))] U.heap ∧ va_K (dC, dI) vcl (tyL cT) U ∧ va_D (fun _ => True) [(ds, .inr (0, [.ref dr, .ref sv])), (sv, .inr (5, [.ref se, .ref pw, .ref g0, .ref ty, .ref an, .ref aw, .ref ts, .ref ss, .ref rq, .int tm, .int n3, .int n4])), (an, .inr (2, [.ref ar, .int 0])), (ar, .inl ((cT 0), 72, .inl fa))] ∧ xz_T (fun _ => False) U U.heap)) (va_Qi (S := Unit) (fun rv9 u => rv9 = 1 ∧ (True)) (fun u t => va_P (dC, dI) vcl [] t.heap ∧ va_K (dC, dI) vcl (tyL cT) t ∧ va_D (va_A [(ds, .inr (0, [.ref dr, .ref sv])), (sv, .inr (5, [.ref se, .ref pw, .ref g0, .ref ty, .ref an, .ref aw, .ref ts, .ref ss, .ref rq, .int tm, .int n3, .int n4])), (an, .inr (2, [.ref ar, .int 0])), (ar, .inl ((cT 0), 72, .inl fa))] sz) []) (va_A [(ds, .inr (0, [.ref dr, .ref sv])), (sv, .inr (5, [.ref se, .ref pw, .ref g0, .ref ty, .ref an, .ref aw, .ref ts, .ref ss, .ref rq, .int tm, .int n3, .int n4])), (an, .inr (2, [.ref ar, .int 0])), (ar, .inl ((cT 0), 72, .inl fa))] sz)) 1 6 (va_A [(ds, .inr (0, [.ref dr, .ref sv])), (sv, .inr (5, [.ref se, .ref pw, .ref g0, .ref ty, .ref an, .ref aw, .ref ts, .ref ss, .ref rq, .int tm, .int n3, .int n4])), (an, .inr (2, [.ref ar, .int 0])), (ar, .inl ((cT 0), 72, .inl fa))] sz) := by
  refine xw_Met (cc := b_Lw_byteAt) (maxL := 4) (ret := (Option.some Jvm.ClassFile.FieldType.int)) (hh := [((0 : Nat), (9 : Nat), (12 : Nat), (13 : Nat))]) (by decide) rfl ?_
  intro p e s m args below meth c s₁ B hml hv htab
  obtain ⟨hargs, hsz, hP, hK, hD0, hE⟩ := hv
  have hx := B.exec
  have hb := B.bytes
  have hr := B.returns
  have hts := atoms_spec (ws := (Cond.codeWith y_Lw_byteAt b_Lw_byteAt 4 (Option.some Jvm.ClassFile.FieldType.int) [((0 : Nat), (9 : Nat), (12 : Nat), (13 : Nat))] :: BIG)) B.pre
  have hg : ∀ w ∈ BIG, w.before _ s = true := fun w h => hts w (List.mem_cons_of_mem _ h)
  have hown : s.vm.findClass "DoorServerLaw" = some m.cls := findClass_of_methodNamed B.named
  have hlocks := B.notSynchronized
  subst hsz
  have hD := hD0.self (sz := s.heap.size)
  generalize hAe : va_A [(ds, .inr (0, [.ref dr, .ref sv])), (sv, .inr (5, [.ref se, .ref pw, .ref g0, .ref ty, .ref an, .ref aw, .ref ts, .ref ss, .ref rq, .int tm, .int n3, .int n4])), (an, .inr (2, [.ref ar, .int 0])), (ar, .inl ((cT 0), 72, .inl fa))] s.heap.size = A at hD ⊢
  have hA : ∀ q : Nat, s.heap.size ≤ q → A q := fun q h => by rw [← hAe]; exact Or.inr h
  have hS : va_S A s.heap s.heap [] := va_S.rf
  have hl := lv_entry ([.ref ds, .int x, .ref ou]) (n := 4) (Nat.le_of_ble_eq_true rfl)
  refine W.eq (g2 := entryFrame m (List.toArray [.ref ds, .int x, .ref ou]) 4) (by rw [hargs]) ?_
  rw [lg_entry_eq]
  generalize (lg_sl ([.ref ds, .int x, .ref ou]) ++ List.replicate (4 - (lg_sl ([.ref ds, .int x, .ref ou])).length) Slot.unset).toArray = ls at hl ⊢
  have hl : lv_has ls 4 [(0, .ref ds), (1, .int x), (2, .ref ou)] := hl
  change W p l e ({ frames := 9, cells := 1, slots := 6, locals := 150 } : Room) s m args below meth c s.heap [] 0 0 _ _
  have hP : va_P (dC, dI) vcl [(ds, .inr (0, [.ref dr, .ref sv])), (sv, .inr (5, [.ref se, .ref pw, .ref g0, .ref ty, .ref an, .ref aw, .ref ts, .ref ss, .ref rq, .int tm, .int n3, .int n4])), (an, .inr (2, [.ref ar, .int 0])), (ar, .inl ((cT 0), 72, .inl fa))] s.heap := hP
  refine lv_aload_n hx hb d_Lw_byteAt_0 rfl (lv_at hl 2 rfl) ?_
  refine lv_iconst (v := 0) hx hb d_Lw_byteAt_1 (by decide) ?_
  refine lv_aload_n hx hb d_Lw_byteAt_2 rfl (lv_at hl 0 rfl) ?_
  refine lv_iload_n hx hb d_Lw_byteAt_3 rfl (lv_at hl 1 rfl) ?_
  have hPc := hP.sub (ws' := [(ds, .inr (0, [.ref dr, .ref sv])), (sv, .inr (5, [.ref se, .ref pw, .ref g0, .ref ty, .ref an, .ref aw, .ref ts, .ref ss, .ref rq, .int tm, .int n3, .int n4])), (an, .inr (2, [.ref ar, .int 0])), (ar, .inl ((cT 0), 72, .inl fa))]) [0, 1, 2, 3] rfl
  refine xk_callV (C := "DoorServer") (As := [.int x]) (rest := [.int 0, .ref ou]) ⟨hx, hb, hml, hown, hg⟩ (x_byteAt l hfl dC dI cT ds dr sv rr g0 se pw ty an aw ts ss rq tm n3 n4 ar fa x ) (cwV 1 hg (gI (List.forall_mem_append.mpr ⟨List.forall_mem_cons.mpr ⟨k_915, List.forall_mem_cons.mpr ⟨k_916, List.forall_mem_cons.mpr ⟨k_917, List.forall_mem_cons.mpr ⟨k_1, fun _ h => absurd h List.not_mem_nil⟩⟩⟩⟩, List.forall_mem_cons.mpr ⟨k_918, fun _ h => h⟩⟩)) rfl rfl rfl (by decide +kernel) ⟨Nat.le_of_ble_eq_true rfl, Nat.le_of_ble_eq_true rfl⟩) ⟨fun a U g mk q => ?_, va_recv (q0 := 0) (ci := 0) hK hP rfl rfl, fun U hU hW => ⟨rfl, ?_, ?_, va_K.moved hW.alike hK⟩⟩ rfl hl.1 rfl (Nat.le_of_ble_eq_true rfl) d_Lw_byteAt_4 ⟨Nat.le_of_ble_eq_true rfl, Nat.le_of_ble_eq_true rfl⟩ (xk_catch1 htab (by decide) (by decide) hown (hg _ k_382) (va_Nw.use rfl hE.1.1) (fun x9 H1 h1 h2 h3 => ?_))
  · obtain ⟨q0, q1, q2, q3⟩ := q
    exact ⟨q0, q1.at (State.WarmedH.refl _) (fun _ _ _ => rfl) (fun _ h => h), q2, va_K.moved (Vm.Alike.refl U.vm) q3⟩
  · show xz_T _ U U.heap; rw [hU]; exact hE.at hW (fun _ _ _ => rfl) (fun _ h => h)
  · show va_P _ _ _ U.heap; rw [hU]; exact hPc
  · refine W.eq (g2 := F0 m 12 ls [.ref x9]) rfl ?_
    refine lv_astore_n (lv' := [(3, .ref x9), (0, .ref ds), (1, .int x), (2, .ref ou)]) hx hb d_Lw_byteAt_12 rfl hl (by decide) rfl (fun ls hl => ?_)
    refine lv_iconst (v := 1) hx hb d_Lw_byteAt_13 (by decide) ?_
    exact W.iret (v := 1) hx hb hr (fun t ht hW => ⟨⟨_, (), rfl, ⟨rfl, trivial⟩, fun k q h => by simp at h, va_K.moved hW.alike hK, ⟨fun i j p q h => by simp at h, fun k q h => by simp at h⟩⟩, by rw [ht]; exact h2, fun q h4 _ => by rw [ht]; exact h3 q h4⟩) (fun q h => by cases h) d_Lw_byteAt_14
set_option maxHeartbeats 4000000 in
set_option maxRecDepth 100000 in
/-- the law: ticks throws -/
theorem t_ticks (l : Launch) (dC : Nat → ClassId) (dI : Nat → Nat → Nat) (cT : Nat → ClassId) (sz : Nat) (ds : Nat) (y : Int32) (dr : Nat) (sv : Nat) (ou : Nat) (hfl : l.flags = pinnedFlags ++ [noTraceFlag]) (hbad : y < 1 ∨ 1000 < y) : Met l y_Lw_ticks (Cond.codeWith y_Lw_ticks b_Lw_ticks 4 (Option.some Jvm.ClassFile.FieldType.int) [((0 : Nat), (9 : Nat), (12 : Nat), (13 : Nat))] :: BIG) ({ frames := 9, cells := 1, slots := 6, locals := 150 }) (va_Pc [.ref ds, .int y, .ref ou] (fun U => U.heap.size = sz ∧ va_P (dC, dI) vcl [(ds, .inr (0, [.ref dr, .ref sv]))] U.heap ∧ va_K (dC, dI) vcl (tyL cT) U ∧ va_D (fun _ => True) [(ds, .inr (0, [.ref dr, .ref sv]))] ∧ xz_T (fun _ => False) U U.heap)) (va_Qi (S := Unit) (fun rv9 u => rv9 = 1 ∧ (True)) (fun u t => va_P (dC, dI) vcl [] t.heap ∧ va_K (dC, dI) vcl (tyL cT) t ∧ va_D (va_A [(ds, .inr (0, [.ref dr, .ref sv]))] sz) []) (va_A [(ds, .inr (0, [.ref dr, .ref sv]))] sz)) 1 6 (va_A [(ds, .inr (0, [.ref dr, .ref sv]))] sz) := by
  refine xw_Met (cc := b_Lw_ticks) (maxL := 4) (ret := (Option.some Jvm.ClassFile.FieldType.int)) (hh := [((0 : Nat), (9 : Nat), (12 : Nat), (13 : Nat))]) (by decide) rfl ?_
  intro p e s m args below meth c s₁ B hml hv htab
  obtain ⟨hargs, hsz, hP, hK, hD0, hE⟩ := hv
  have hx := B.exec
  have hb := B.bytes
  have hr := B.returns
  have hts := atoms_spec (ws := (Cond.codeWith y_Lw_ticks b_Lw_ticks 4 (Option.some Jvm.ClassFile.FieldType.int) [((0 : Nat), (9 : Nat), (12 : Nat), (13 : Nat))] :: BIG)) B.pre
  have hg : ∀ w ∈ BIG, w.before _ s = true := fun w h => hts w (List.mem_cons_of_mem _ h)
  have hown : s.vm.findClass "DoorServerLaw" = some m.cls := findClass_of_methodNamed B.named
  have hlocks := B.notSynchronized
  subst hsz
  have hD := hD0.self (sz := s.heap.size)
  generalize hAe : va_A [(ds, .inr (0, [.ref dr, .ref sv]))] s.heap.size = A at hD ⊢
  have hA : ∀ q : Nat, s.heap.size ≤ q → A q := fun q h => by rw [← hAe]; exact Or.inr h
  have hS : va_S A s.heap s.heap [] := va_S.rf
  have hl := lv_entry ([.ref ds, .int y, .ref ou]) (n := 4) (Nat.le_of_ble_eq_true rfl)
  refine W.eq (g2 := entryFrame m (List.toArray [.ref ds, .int y, .ref ou]) 4) (by rw [hargs]) ?_
  rw [lg_entry_eq]
  generalize (lg_sl ([.ref ds, .int y, .ref ou]) ++ List.replicate (4 - (lg_sl ([.ref ds, .int y, .ref ou])).length) Slot.unset).toArray = ls at hl ⊢
  have hl : lv_has ls 4 [(0, .ref ds), (1, .int y), (2, .ref ou)] := hl
  change W p l e ({ frames := 9, cells := 1, slots := 6, locals := 150 } : Room) s m args below meth c s.heap [] 0 0 _ _
  have hP : va_P (dC, dI) vcl [(ds, .inr (0, [.ref dr, .ref sv]))] s.heap := hP
  refine lv_aload_n hx hb d_Lw_ticks_0 rfl (lv_at hl 2 rfl) ?_
  refine lv_iconst (v := 0) hx hb d_Lw_ticks_1 (by decide) ?_
  refine lv_aload_n hx hb d_Lw_ticks_2 rfl (lv_at hl 0 rfl) ?_
  refine lv_iload_n hx hb d_Lw_ticks_3 rfl (lv_at hl 1 rfl) ?_
  have hPc := hP.sub (ws' := []) [] rfl
  refine xk_callV (C := "DoorServer") (As := [.int y]) (rest := [.int 0, .ref ou]) ⟨hx, hb, hml, hown, hg⟩ (x_ticks l hfl dC dI cT ds y hbad) (cwV 1 hg (gI (List.forall_mem_append.mpr ⟨List.forall_mem_cons.mpr ⟨k_922, List.forall_mem_cons.mpr ⟨k_923, List.forall_mem_cons.mpr ⟨k_924, List.forall_mem_cons.mpr ⟨k_1, fun _ h => absurd h List.not_mem_nil⟩⟩⟩⟩, List.forall_mem_cons.mpr ⟨k_925, fun _ h => h⟩⟩)) rfl rfl rfl (by decide +kernel) ⟨Nat.le_of_ble_eq_true rfl, Nat.le_of_ble_eq_true rfl⟩) ⟨fun a U g mk q => ?_, va_recv (q0 := 0) (ci := 0) hK hP rfl rfl, fun U hU hW => ⟨rfl, ?_, ?_, va_K.moved hW.alike hK⟩⟩ rfl hl.1 rfl (Nat.le_of_ble_eq_true rfl) d_Lw_ticks_4 ⟨Nat.le_of_ble_eq_true rfl, Nat.le_of_ble_eq_true rfl⟩ (xk_catch1 htab (by decide) (by decide) hown (hg _ k_382) (va_Nw.use rfl hE.1.1) (fun x9 H1 h1 h2 h3 => ?_))
  · obtain ⟨q0, q1, q2, q3⟩ := q
    exact ⟨q0, q1.at (State.WarmedH.refl _) (fun _ _ _ => rfl) (fun _ h => h), q2, va_K.moved (Vm.Alike.refl U.vm) q3⟩
  · show xz_T _ U U.heap; rw [hU]; exact hE.at hW (fun _ _ _ => rfl) (fun _ h => h)
  · show va_P _ _ _ U.heap; rw [hU]; exact hPc
  · refine W.eq (g2 := F0 m 12 ls [.ref x9]) rfl ?_
    refine lv_astore_n (lv' := [(3, .ref x9), (0, .ref ds), (1, .int y), (2, .ref ou)]) hx hb d_Lw_ticks_12 rfl hl (by decide) rfl (fun ls hl => ?_)
    refine lv_iconst (v := 1) hx hb d_Lw_ticks_13 (by decide) ?_
    exact W.iret (v := 1) hx hb hr (fun t ht hW => ⟨⟨_, (), rfl, ⟨rfl, trivial⟩, fun k q h => by simp at h, va_K.moved hW.alike hK, ⟨fun i j p q h => by simp at h, fun k q h => by simp at h⟩⟩, by rw [ht]; exact h2, fun q h4 _ => by rw [ht]; exact h3 q h4⟩) (fun q h => by cases h) d_Lw_ticks_14
set_option maxHeartbeats 4000000 in
set_option maxRecDepth 100000 in
/-- the law: count throws -/
theorem t_count (l : Launch) (dC : Nat → ClassId) (dI : Nat → Nat → Nat) (cT : Nat → ClassId) (sz : Nat) (ds : Nat) (x : Int32) (dr : Nat) (sv : Nat) (ou : Nat) (hfl : l.flags = pinnedFlags ++ [noTraceFlag]) (hbad : x.toInt < 0 ∨ 5 < x.toInt) : Met l y_Lw_count (Cond.codeWith y_Lw_count b_Lw_count 4 (Option.some Jvm.ClassFile.FieldType.int) [((0 : Nat), (9 : Nat), (12 : Nat), (13 : Nat))] :: BIG) ({ frames := 9, cells := 1, slots := 6, locals := 150 }) (va_Pc [.ref ds, .int x, .ref ou] (fun U => U.heap.size = sz ∧ va_P (dC, dI) vcl [(ds, .inr (0, [.ref dr, .ref sv]))] U.heap ∧ va_K (dC, dI) vcl (tyL cT) U ∧ va_D (fun _ => True) [(ds, .inr (0, [.ref dr, .ref sv]))] ∧ xz_T (fun _ => False) U U.heap)) (va_Qi (S := Unit) (fun rv9 u => rv9 = 1 ∧ (True)) (fun u t => va_P (dC, dI) vcl [] t.heap ∧ va_K (dC, dI) vcl (tyL cT) t ∧ va_D (va_A [(ds, .inr (0, [.ref dr, .ref sv]))] sz) []) (va_A [(ds, .inr (0, [.ref dr, .ref sv]))] sz)) 1 6 (va_A [(ds, .inr (0, [.ref dr, .ref sv]))] sz) := by
  refine xw_Met (cc := b_Lw_count) (maxL := 4) (ret := (Option.some Jvm.ClassFile.FieldType.int)) (hh := [((0 : Nat), (9 : Nat), (12 : Nat), (13 : Nat))]) (by decide) rfl ?_
  intro p e s m args below meth c s₁ B hml hv htab
  obtain ⟨hargs, hsz, hP, hK, hD0, hE⟩ := hv
  have hx := B.exec
  have hb := B.bytes
  have hr := B.returns
  have hts := atoms_spec (ws := (Cond.codeWith y_Lw_count b_Lw_count 4 (Option.some Jvm.ClassFile.FieldType.int) [((0 : Nat), (9 : Nat), (12 : Nat), (13 : Nat))] :: BIG)) B.pre
  have hg : ∀ w ∈ BIG, w.before _ s = true := fun w h => hts w (List.mem_cons_of_mem _ h)
  have hown : s.vm.findClass "DoorServerLaw" = some m.cls := findClass_of_methodNamed B.named
  have hlocks := B.notSynchronized
  subst hsz
  have hD := hD0.self (sz := s.heap.size)
  generalize hAe : va_A [(ds, .inr (0, [.ref dr, .ref sv]))] s.heap.size = A at hD ⊢
  have hA : ∀ q : Nat, s.heap.size ≤ q → A q := fun q h => by rw [← hAe]; exact Or.inr h
  have hS : va_S A s.heap s.heap [] := va_S.rf
  have hl := lv_entry ([.ref ds, .int x, .ref ou]) (n := 4) (Nat.le_of_ble_eq_true rfl)
  refine W.eq (g2 := entryFrame m (List.toArray [.ref ds, .int x, .ref ou]) 4) (by rw [hargs]) ?_
  rw [lg_entry_eq]
  generalize (lg_sl ([.ref ds, .int x, .ref ou]) ++ List.replicate (4 - (lg_sl ([.ref ds, .int x, .ref ou])).length) Slot.unset).toArray = ls at hl ⊢
  have hl : lv_has ls 4 [(0, .ref ds), (1, .int x), (2, .ref ou)] := hl
  change W p l e ({ frames := 9, cells := 1, slots := 6, locals := 150 } : Room) s m args below meth c s.heap [] 0 0 _ _
  have hP : va_P (dC, dI) vcl [(ds, .inr (0, [.ref dr, .ref sv]))] s.heap := hP
  refine lv_aload_n hx hb d_Lw_count_0 rfl (lv_at hl 2 rfl) ?_
  refine lv_iconst (v := 0) hx hb d_Lw_count_1 (by decide) ?_
  refine lv_aload_n hx hb d_Lw_count_2 rfl (lv_at hl 0 rfl) ?_
  refine lv_iload_n hx hb d_Lw_count_3 rfl (lv_at hl 1 rfl) ?_
  have hPc := hP.sub (ws' := []) [] rfl
  refine xk_callV (C := "DoorServer") (As := [.int x]) (rest := [.int 0, .ref ou]) ⟨hx, hb, hml, hown, hg⟩ (x_count l hfl dC dI cT ds x hbad) (cwV 1 hg (gI (List.forall_mem_append.mpr ⟨List.forall_mem_cons.mpr ⟨k_930, List.forall_mem_cons.mpr ⟨k_931, List.forall_mem_cons.mpr ⟨k_932, List.forall_mem_cons.mpr ⟨k_1, fun _ h => absurd h List.not_mem_nil⟩⟩⟩⟩, List.forall_mem_cons.mpr ⟨k_933, fun _ h => h⟩⟩)) rfl rfl rfl (by decide +kernel) ⟨Nat.le_of_ble_eq_true rfl, Nat.le_of_ble_eq_true rfl⟩) ⟨fun a U g mk q => ?_, va_recv (q0 := 0) (ci := 0) hK hP rfl rfl, fun U hU hW => ⟨rfl, ?_, ?_, va_K.moved hW.alike hK⟩⟩ rfl hl.1 rfl (Nat.le_of_ble_eq_true rfl) d_Lw_count_4 ⟨Nat.le_of_ble_eq_true rfl, Nat.le_of_ble_eq_true rfl⟩ (xk_catch1 htab (by decide) (by decide) hown (hg _ k_382) (va_Nw.use rfl hE.1.1) (fun x9 H1 h1 h2 h3 => ?_))
  · obtain ⟨q0, q1, q2, q3⟩ := q
    exact ⟨q0, q1.at (State.WarmedH.refl _) (fun _ _ _ => rfl) (fun _ h => h), q2, va_K.moved (Vm.Alike.refl U.vm) q3⟩
  · show xz_T _ U U.heap; rw [hU]; exact hE.at hW (fun _ _ _ => rfl) (fun _ h => h)
  · show va_P _ _ _ U.heap; rw [hU]; exact hPc
  · refine W.eq (g2 := F0 m 12 ls [.ref x9]) rfl ?_
    refine lv_astore_n (lv' := [(3, .ref x9), (0, .ref ds), (1, .int x), (2, .ref ou)]) hx hb d_Lw_count_12 rfl hl (by decide) rfl (fun ls hl => ?_)
    refine lv_iconst (v := 1) hx hb d_Lw_count_13 (by decide) ?_
    exact W.iret (v := 1) hx hb hr (fun t ht hW => ⟨⟨_, (), rfl, ⟨rfl, trivial⟩, fun k q h => by simp at h, va_K.moved hW.alike hK, ⟨fun i j p q h => by simp at h, fun k q h => by simp at h⟩⟩, by rw [ht]; exact h2, fun q h4 _ => by rw [ht]; exact h3 q h4⟩) (fun q h => by cases h) d_Lw_count_14
set_option maxHeartbeats 4000000 in
set_option maxRecDepth 100000 in
/-- the law: record throws -/
theorem t_record (l : Launch) (dC : Nat → ClassId) (dI : Nat → Nat → Nat) (cT : Nat → ClassId) (sz : Nat) (ds : Nat) (dr : Nat) (sv : Nat) (rr : Nat) (g0 : Nat) (se : Nat) (pw : Nat) (ty : Nat) (an : Nat) (aw : Nat) (ts : Nat) (ss : Nat) (rq : Nat) (tm : Int32) (f : Nat → Int32) (a1 : Nat) (a2 : Int32) (t1 : Nat) (t2 : Int64) (t3 : Int64) (s1 : Nat) (x : Int32) (y : Int32) (ou : Nat) (hfl : l.flags = pinnedFlags ++ [noTraceFlag]) : Met l y_Lw_record (Cond.codeWith y_Lw_record b_Lw_record 5 (Option.some Jvm.ClassFile.FieldType.int) [((0 : Nat), (9 : Nat), (12 : Nat), (13 : Nat))] :: BIG) ({ frames := 9, cells := 1, slots := 6, locals := 150 }) (va_Pc [.ref ds, .int x, .int y, .ref ou] (fun U => U.heap.size = sz ∧ va_P (dC, dI) vcl [(ds, .inr (0, [.ref dr, .ref sv])), (dr, .inr (2, [.ref rr, .int (nI 20)])), (rr, .inl ((cT 0), 1000, .inl f)), (sv, .inr (5, [.ref se, .ref pw, .ref g0, .ref ty, .ref an, .ref aw, .ref ts, .ref ss, .ref rq, .int tm, .int 0, .int 0])), (aw, .inr (6, [.ref a1, .int a2, .int 0])), (ts, .inr (9, [.ref t1, .long t2, .long t3, .int 0])), (ss, .inr (11, [.ref s1, .int 0]))] U.heap ∧ va_K (dC, dI) vcl (tyL cT) U ∧ va_D (fun _ => True) [(ds, .inr (0, [.ref dr, .ref sv])), (dr, .inr (2, [.ref rr, .int (nI 20)])), (rr, .inl ((cT 0), 1000, .inl f)), (sv, .inr (5, [.ref se, .ref pw, .ref g0, .ref ty, .ref an, .ref aw, .ref ts, .ref ss, .ref rq, .int tm, .int 0, .int 0])), (aw, .inr (6, [.ref a1, .int a2, .int 0])), (ts, .inr (9, [.ref t1, .long t2, .long t3, .int 0])), (ss, .inr (11, [.ref s1, .int 0]))] ∧ xz_T (fun _ => False) U U.heap)) (va_Qi (S := Unit) (fun rv9 u => rv9 = 1 ∧ (True)) (fun u t => va_P (dC, dI) vcl [] t.heap ∧ va_K (dC, dI) vcl (tyL cT) t ∧ va_D (va_A [(ds, .inr (0, [.ref dr, .ref sv])), (dr, .inr (2, [.ref rr, .int (nI 20)])), (rr, .inl ((cT 0), 1000, .inl f)), (sv, .inr (5, [.ref se, .ref pw, .ref g0, .ref ty, .ref an, .ref aw, .ref ts, .ref ss, .ref rq, .int tm, .int 0, .int 0])), (aw, .inr (6, [.ref a1, .int a2, .int 0])), (ts, .inr (9, [.ref t1, .long t2, .long t3, .int 0])), (ss, .inr (11, [.ref s1, .int 0]))] sz) []) (va_A [(ds, .inr (0, [.ref dr, .ref sv])), (dr, .inr (2, [.ref rr, .int (nI 20)])), (rr, .inl ((cT 0), 1000, .inl f)), (sv, .inr (5, [.ref se, .ref pw, .ref g0, .ref ty, .ref an, .ref aw, .ref ts, .ref ss, .ref rq, .int tm, .int 0, .int 0])), (aw, .inr (6, [.ref a1, .int a2, .int 0])), (ts, .inr (9, [.ref t1, .long t2, .long t3, .int 0])), (ss, .inr (11, [.ref s1, .int 0]))] sz)) 1 6 (va_A [(ds, .inr (0, [.ref dr, .ref sv])), (dr, .inr (2, [.ref rr, .int (nI 20)])), (rr, .inl ((cT 0), 1000, .inl f)), (sv, .inr (5, [.ref se, .ref pw, .ref g0, .ref ty, .ref an, .ref aw, .ref ts, .ref ss, .ref rq, .int tm, .int 0, .int 0])), (aw, .inr (6, [.ref a1, .int a2, .int 0])), (ts, .inr (9, [.ref t1, .long t2, .long t3, .int 0])), (ss, .inr (11, [.ref s1, .int 0]))] sz) := by
  refine xw_Met (cc := b_Lw_record) (maxL := 5) (ret := (Option.some Jvm.ClassFile.FieldType.int)) (hh := [((0 : Nat), (9 : Nat), (12 : Nat), (13 : Nat))]) (by decide) rfl ?_
  intro p e s m args below meth c s₁ B hml hv htab
  obtain ⟨hargs, hsz, hP, hK, hD0, hE⟩ := hv
  have hx := B.exec
  have hb := B.bytes
  have hr := B.returns
  have hts := atoms_spec (ws := (Cond.codeWith y_Lw_record b_Lw_record 5 (Option.some Jvm.ClassFile.FieldType.int) [((0 : Nat), (9 : Nat), (12 : Nat), (13 : Nat))] :: BIG)) B.pre
  have hg : ∀ w ∈ BIG, w.before _ s = true := fun w h => hts w (List.mem_cons_of_mem _ h)
  have hown : s.vm.findClass "DoorServerLaw" = some m.cls := findClass_of_methodNamed B.named
  have hlocks := B.notSynchronized
  subst hsz
  have hD := hD0.self (sz := s.heap.size)
  generalize hAe : va_A [(ds, .inr (0, [.ref dr, .ref sv])), (dr, .inr (2, [.ref rr, .int (nI 20)])), (rr, .inl ((cT 0), 1000, .inl f)), (sv, .inr (5, [.ref se, .ref pw, .ref g0, .ref ty, .ref an, .ref aw, .ref ts, .ref ss, .ref rq, .int tm, .int 0, .int 0])), (aw, .inr (6, [.ref a1, .int a2, .int 0])), (ts, .inr (9, [.ref t1, .long t2, .long t3, .int 0])), (ss, .inr (11, [.ref s1, .int 0]))] s.heap.size = A at hD ⊢
  have hA : ∀ q : Nat, s.heap.size ≤ q → A q := fun q h => by rw [← hAe]; exact Or.inr h
  have hS : va_S A s.heap s.heap [] := va_S.rf
  have hl := lv_entry ([.ref ds, .int x, .int y, .ref ou]) (n := 5) (Nat.le_of_ble_eq_true rfl)
  refine W.eq (g2 := entryFrame m (List.toArray [.ref ds, .int x, .int y, .ref ou]) 5) (by rw [hargs]) ?_
  rw [lg_entry_eq]
  generalize (lg_sl ([.ref ds, .int x, .int y, .ref ou]) ++ List.replicate (5 - (lg_sl ([.ref ds, .int x, .int y, .ref ou])).length) Slot.unset).toArray = ls at hl ⊢
  have hl : lv_has ls 5 [(0, .ref ds), (1, .int x), (2, .int y), (3, .ref ou)] := hl
  change W p l e ({ frames := 9, cells := 1, slots := 6, locals := 150 } : Room) s m args below meth c s.heap [] 0 0 _ _
  have hP : va_P (dC, dI) vcl [(ds, .inr (0, [.ref dr, .ref sv])), (dr, .inr (2, [.ref rr, .int (nI 20)])), (rr, .inl ((cT 0), 1000, .inl f)), (sv, .inr (5, [.ref se, .ref pw, .ref g0, .ref ty, .ref an, .ref aw, .ref ts, .ref ss, .ref rq, .int tm, .int 0, .int 0])), (aw, .inr (6, [.ref a1, .int a2, .int 0])), (ts, .inr (9, [.ref t1, .long t2, .long t3, .int 0])), (ss, .inr (11, [.ref s1, .int 0]))] s.heap := hP
  refine lv_aload_n hx hb d_Lw_record_0 rfl (lv_at hl 3 rfl) ?_
  refine lv_iconst (v := 0) hx hb d_Lw_record_1 (by decide) ?_
  refine lv_aload_n hx hb d_Lw_record_2 rfl (lv_at hl 0 rfl) ?_
  refine lv_iload_n hx hb d_Lw_record_3 rfl (lv_at hl 1 rfl) ?_
  refine lv_iload_n hx hb d_Lw_record_4 rfl (lv_at hl 2 rfl) ?_
  have hPc := hP.sub (ws' := [(ds, .inr (0, [.ref dr, .ref sv])), (dr, .inr (2, [.ref rr, .int (nI 20)])), (rr, .inl ((cT 0), 1000, .inl f)), (sv, .inr (5, [.ref se, .ref pw, .ref g0, .ref ty, .ref an, .ref aw, .ref ts, .ref ss, .ref rq, .int tm, .int 0, .int 0])), (aw, .inr (6, [.ref a1, .int a2, .int 0])), (ts, .inr (9, [.ref t1, .long t2, .long t3, .int 0])), (ss, .inr (11, [.ref s1, .int 0]))]) [0, 1, 2, 3, 4, 5, 6] rfl
  refine xk_callV (C := "DoorServer") (As := [.int x, .int y]) (rest := [.int 0, .ref ou]) ⟨hx, hb, hml, hown, hg⟩ (x_record l hfl dC dI cT ds dr sv rr g0 se pw ty an aw ts ss rq tm f a1 a2 t1 t2 t3 s1 x y ) (cwV 2 hg (gI (List.forall_mem_append.mpr ⟨List.forall_mem_cons.mpr ⟨k_937, List.forall_mem_cons.mpr ⟨k_938, List.forall_mem_cons.mpr ⟨k_939, List.forall_mem_cons.mpr ⟨k_1, fun _ h => absurd h List.not_mem_nil⟩⟩⟩⟩, List.forall_mem_cons.mpr ⟨k_940, fun _ h => h⟩⟩)) rfl rfl rfl (by decide +kernel) ⟨Nat.le_of_ble_eq_true rfl, Nat.le_of_ble_eq_true rfl⟩) ⟨fun a U g mk q => ?_, va_recv (q0 := 0) (ci := 0) hK hP rfl rfl, fun U hU hW => ⟨rfl, ?_, ?_, va_K.moved hW.alike hK⟩⟩ rfl hl.1 rfl (Nat.le_of_ble_eq_true rfl) d_Lw_record_5 ⟨Nat.le_of_ble_eq_true rfl, Nat.le_of_ble_eq_true rfl⟩ (xk_catch1 htab (by decide) (by decide) hown (hg _ k_382) (va_Nw.use rfl hE.1.1) (fun x9 H1 h1 h2 h3 => ?_))
  · obtain ⟨q0, q1, q2, q3⟩ := q
    exact ⟨q0, q1.at (State.WarmedH.refl _) (fun _ _ _ => rfl) (fun _ h => h), q2, va_K.moved (Vm.Alike.refl U.vm) q3⟩
  · show xz_T _ U U.heap; rw [hU]; exact hE.at hW (fun _ _ _ => rfl) (fun _ h => h)
  · show va_P _ _ _ U.heap; rw [hU]; exact hPc
  · refine W.eq (g2 := F0 m 12 ls [.ref x9]) rfl ?_
    refine lv_astore (lv' := [(4, .ref x9), (0, .ref ds), (1, .int x), (2, .int y), (3, .ref ou)]) hx hb d_Lw_record_12 hl (by decide) rfl (fun ls hl => ?_)
    refine lv_iconst (v := 1) hx hb d_Lw_record_14 (by decide) ?_
    exact W.iret (v := 1) hx hb hr (fun t ht hW => ⟨⟨_, (), rfl, ⟨rfl, trivial⟩, fun k q h => by simp at h, va_K.moved hW.alike hK, ⟨fun i j p q h => by simp at h, fun k q h => by simp at h⟩⟩, by rw [ht]; exact h2, fun q h4 _ => by rw [ht]; exact h3 q h4⟩) (fun q h => by cases h) d_Lw_record_15
