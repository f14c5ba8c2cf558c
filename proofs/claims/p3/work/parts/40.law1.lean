theorem d_Lw_secret_0 : decode b_Lw_secret 0 = .ok (.aload_n 0, 1) := by decide +kernel
theorem d_Lw_secret_1 : decode b_Lw_secret 1 = .ok (.iload_n 1, 1) := by decide +kernel
theorem d_Lw_secret_2 : decode b_Lw_secret 2 = .ok (.lload_n 2, 1) := by decide +kernel
theorem d_Lw_secret_3 : decode b_Lw_secret 3 = .ok (.iload 4, 2) := by decide +kernel
theorem d_Lw_secret_5 : decode b_Lw_secret 5 = .ok (.invokevirtual 7, 3) := by decide +kernel
theorem d_Lw_secret_11 : decode b_Lw_secret 11 = .ok (.astore 5, 2) := by decide +kernel
theorem d_Lw_secret_13 : decode b_Lw_secret 13 = .ok (.iconst 1, 1) := by decide +kernel
theorem d_Lw_secret_14 : decode b_Lw_secret 14 = .ok (.ireturn, 1) := by decide +kernel
theorem d_Lw_secret_8 : decode b_Lw_secret 8 = .ok (.goto 7, 3) := by decide +kernel
theorem d_Lw_secret_15 : decode b_Lw_secret 15 = .ok (.iconst 0, 1) := by decide +kernel
theorem d_Lw_secret_16 : decode b_Lw_secret 16 = .ok (.ireturn, 1) := by decide +kernel
theorem d_Lw_draft_0 : decode b_Lw_draft 0 = .ok (.aload_n 0, 1) := by decide +kernel
theorem d_Lw_draft_1 : decode b_Lw_draft 1 = .ok (.iload_n 1, 1) := by decide +kernel
theorem d_Lw_draft_2 : decode b_Lw_draft 2 = .ok (.iload_n 2, 1) := by decide +kernel
theorem d_Lw_draft_3 : decode b_Lw_draft 3 = .ok (.lload_n 3, 1) := by decide +kernel
theorem d_Lw_draft_4 : decode b_Lw_draft 4 = .ok (.invokevirtual 19, 3) := by decide +kernel
theorem d_Lw_draft_10 : decode b_Lw_draft 10 = .ok (.astore 5, 2) := by decide +kernel
theorem d_Lw_draft_12 : decode b_Lw_draft 12 = .ok (.iconst 1, 1) := by decide +kernel
theorem d_Lw_draft_13 : decode b_Lw_draft 13 = .ok (.ireturn, 1) := by decide +kernel
theorem d_Lw_draft_7 : decode b_Lw_draft 7 = .ok (.goto 7, 3) := by decide +kernel
theorem d_Lw_draft_14 : decode b_Lw_draft 14 = .ok (.iconst 0, 1) := by decide +kernel
theorem d_Lw_draft_15 : decode b_Lw_draft 15 = .ok (.ireturn, 1) := by decide +kernel
theorem d_Lw_put_0 : decode b_Lw_put 0 = .ok (.aload 4, 2) := by decide +kernel
theorem d_Lw_put_2 : decode b_Lw_put 2 = .ok (.iconst 0, 1) := by decide +kernel
theorem d_Lw_put_3 : decode b_Lw_put 3 = .ok (.aload_n 0, 1) := by decide +kernel
theorem d_Lw_put_4 : decode b_Lw_put 4 = .ok (.iload_n 1, 1) := by decide +kernel
theorem d_Lw_put_5 : decode b_Lw_put 5 = .ok (.iload_n 2, 1) := by decide +kernel
theorem d_Lw_put_6 : decode b_Lw_put 6 = .ok (.iload_n 3, 1) := by decide +kernel
theorem d_Lw_put_7 : decode b_Lw_put 7 = .ok (.invokevirtual 23, 3) := by decide +kernel
theorem d_Lw_put_15 : decode b_Lw_put 15 = .ok (.astore 5, 2) := by decide +kernel
theorem d_Lw_put_17 : decode b_Lw_put 17 = .ok (.iconst 1, 1) := by decide +kernel
theorem d_Lw_put_18 : decode b_Lw_put 18 = .ok (.ireturn, 1) := by decide +kernel
theorem d_Lw_put_19 : decode b_Lw_put 19 = .ok (.astore 5, 2) := by decide +kernel
theorem d_Lw_put_21 : decode b_Lw_put 21 = .ok (.iconst 2, 1) := by decide +kernel
theorem d_Lw_put_22 : decode b_Lw_put 22 = .ok (.ireturn, 1) := by decide +kernel
theorem d_Lw_put_10 : decode b_Lw_put 10 = .ok (.i2l, 1) := by decide +kernel
theorem d_Lw_put_11 : decode b_Lw_put 11 = .ok (.lastore, 1) := by decide +kernel
theorem d_Lw_put_12 : decode b_Lw_put 12 = .ok (.goto 11, 3) := by decide +kernel
theorem d_Lw_put_23 : decode b_Lw_put 23 = .ok (.iconst 0, 1) := by decide +kernel
theorem d_Lw_put_24 : decode b_Lw_put 24 = .ok (.ireturn, 1) := by decide +kernel
theorem d_Lw_number_0 : decode b_Lw_number 0 = .ok (.aload_n 3, 1) := by decide +kernel
theorem d_Lw_number_1 : decode b_Lw_number 1 = .ok (.iconst 0, 1) := by decide +kernel
theorem d_Lw_number_2 : decode b_Lw_number 2 = .ok (.aload_n 0, 1) := by decide +kernel
theorem d_Lw_number_3 : decode b_Lw_number 3 = .ok (.iload_n 1, 1) := by decide +kernel
theorem d_Lw_number_4 : decode b_Lw_number 4 = .ok (.iload_n 2, 1) := by decide +kernel
theorem d_Lw_number_5 : decode b_Lw_number 5 = .ok (.invokevirtual 29, 3) := by decide +kernel
theorem d_Lw_number_13 : decode b_Lw_number 13 = .ok (.astore 4, 2) := by decide +kernel
theorem d_Lw_number_15 : decode b_Lw_number 15 = .ok (.iconst 1, 1) := by decide +kernel
theorem d_Lw_number_16 : decode b_Lw_number 16 = .ok (.ireturn, 1) := by decide +kernel
theorem d_Lw_number_17 : decode b_Lw_number 17 = .ok (.astore 4, 2) := by decide +kernel
theorem d_Lw_number_19 : decode b_Lw_number 19 = .ok (.iconst 2, 1) := by decide +kernel
theorem d_Lw_number_20 : decode b_Lw_number 20 = .ok (.ireturn, 1) := by decide +kernel
theorem d_Lw_number_8 : decode b_Lw_number 8 = .ok (.i2l, 1) := by decide +kernel
theorem d_Lw_number_9 : decode b_Lw_number 9 = .ok (.lastore, 1) := by decide +kernel
theorem d_Lw_number_10 : decode b_Lw_number 10 = .ok (.goto 11, 3) := by decide +kernel
theorem d_Lw_number_21 : decode b_Lw_number 21 = .ok (.iconst 0, 1) := by decide +kernel
theorem d_Lw_number_22 : decode b_Lw_number 22 = .ok (.ireturn, 1) := by decide +kernel
theorem d_Lw_name_0 : decode b_Lw_name 0 = .ok (.aload_n 2, 1) := by decide +kernel
theorem d_Lw_name_1 : decode b_Lw_name 1 = .ok (.iconst 0, 1) := by decide +kernel
theorem d_Lw_name_2 : decode b_Lw_name 2 = .ok (.aload_n 0, 1) := by decide +kernel
theorem d_Lw_name_3 : decode b_Lw_name 3 = .ok (.iload_n 1, 1) := by decide +kernel
theorem d_Lw_name_4 : decode b_Lw_name 4 = .ok (.invokevirtual 33, 3) := by decide +kernel
theorem d_Lw_name_12 : decode b_Lw_name 12 = .ok (.astore_n 3, 1) := by decide +kernel
theorem d_Lw_name_13 : decode b_Lw_name 13 = .ok (.iconst 1, 1) := by decide +kernel
theorem d_Lw_name_14 : decode b_Lw_name 14 = .ok (.ireturn, 1) := by decide +kernel
theorem d_Lw_name_15 : decode b_Lw_name 15 = .ok (.astore_n 3, 1) := by decide +kernel
theorem d_Lw_name_16 : decode b_Lw_name 16 = .ok (.iconst 2, 1) := by decide +kernel
theorem d_Lw_name_17 : decode b_Lw_name 17 = .ok (.ireturn, 1) := by decide +kernel
theorem d_Lw_name_7 : decode b_Lw_name 7 = .ok (.i2l, 1) := by decide +kernel
theorem d_Lw_name_8 : decode b_Lw_name 8 = .ok (.lastore, 1) := by decide +kernel
theorem d_Lw_name_9 : decode b_Lw_name 9 = .ok (.goto 9, 3) := by decide +kernel
theorem d_Lw_name_18 : decode b_Lw_name 18 = .ok (.iconst 0, 1) := by decide +kernel
theorem d_Lw_name_19 : decode b_Lw_name 19 = .ok (.ireturn, 1) := by decide +kernel
theorem d_Lw_hello_0 : decode b_Lw_hello 0 = .ok (.aload_n 2, 1) := by decide +kernel
theorem d_Lw_hello_1 : decode b_Lw_hello 1 = .ok (.iconst 0, 1) := by decide +kernel
theorem d_Lw_hello_2 : decode b_Lw_hello 2 = .ok (.aload_n 0, 1) := by decide +kernel
theorem d_Lw_hello_3 : decode b_Lw_hello 3 = .ok (.iload_n 1, 1) := by decide +kernel
theorem d_Lw_hello_4 : decode b_Lw_hello 4 = .ok (.invokevirtual 41, 3) := by decide +kernel
theorem d_Lw_hello_12 : decode b_Lw_hello 12 = .ok (.astore_n 3, 1) := by decide +kernel
theorem d_Lw_hello_13 : decode b_Lw_hello 13 = .ok (.iconst 1, 1) := by decide +kernel
theorem d_Lw_hello_14 : decode b_Lw_hello 14 = .ok (.ireturn, 1) := by decide +kernel
theorem d_Lw_hello_15 : decode b_Lw_hello 15 = .ok (.astore_n 3, 1) := by decide +kernel
theorem d_Lw_hello_16 : decode b_Lw_hello 16 = .ok (.iconst 2, 1) := by decide +kernel
theorem d_Lw_hello_17 : decode b_Lw_hello 17 = .ok (.ireturn, 1) := by decide +kernel
theorem d_Lw_hello_7 : decode b_Lw_hello 7 = .ok (.i2l, 1) := by decide +kernel
theorem d_Lw_hello_8 : decode b_Lw_hello 8 = .ok (.lastore, 1) := by decide +kernel
theorem d_Lw_hello_9 : decode b_Lw_hello 9 = .ok (.goto 9, 3) := by decide +kernel
theorem d_Lw_hello_18 : decode b_Lw_hello 18 = .ok (.iconst 0, 1) := by decide +kernel
theorem d_Lw_hello_19 : decode b_Lw_hello 19 = .ok (.ireturn, 1) := by decide +kernel
set_option maxHeartbeats 4000000 in
set_option maxRecDepth 100000 in
/-- the law: secret -/
theorem lt_secret (l : Launch) (dC : Nat → ClassId) (dI : Nat → Nat → Nat) (cT : Nat → ClassId) (sz : Nat) (ds : Nat) (dr : Nat) (sv : Nat) (rr : Nat) (g0 : Nat) (se : Nat) (pw : Nat) (ty : Nat) (an : Nat) (aw : Nat) (ts : Nat) (ss : Nat) (rq : Nat) (tm : Int32) (n3 : Int32) (n4 : Int32) (gs : Nat → Option Nat) (L : List Nat) (F : Nat → va_E) (kd : Nat → Nat) (si : Nat → Nat) (ro : Nat → Nat) (rb : Nat → Nat) (x : Int32) (v : Int64) (y : Int32) (hfl : l.flags = pinnedFlags ++ [noTraceFlag]) (hgs : ∀ i9, i9 < 4 → ∃ q9, gs i9 = some q9 ∧ q9 ∈ L ∧ kd q9 = 1 ∧ si (ro q9) = 40) (hnd : L.Nodup) (hsh : SHP L kd si ro rb) (hF : PLS cT kd si ro rb L F) : Met l y_Lw_secret (Cond.codeWith y_Lw_secret b_Lw_secret 6 (Option.some Jvm.ClassFile.FieldType.int) [((0 : Nat), (8 : Nat), (11 : Nat), (13 : Nat))] :: BIG) ({ frames := 10, cells := 1, slots := 6, locals := 175 }) (va_Pc [.ref ds, .int x, .long v, .int y] (fun U => U.heap.size = sz ∧ va_P (dC, dI) vcl ([(ds, .inr (0, [.ref dr, .ref sv])), (sv, .inr (5, [.ref se, .ref pw, .ref g0, .ref ty, .ref an, .ref aw, .ref ts, .ref ss, .ref rq, .int tm, .int n3, .int n4])), (se, .inl ((cT 2), 4, .inr (.inr (.inr (.inr gs)))))] ++ va_pl L F) U.heap ∧ va_K (dC, dI) vcl (tyL cT) U ∧ va_D (fun _ => True) ([(ds, .inr (0, [.ref dr, .ref sv])), (sv, .inr (5, [.ref se, .ref pw, .ref g0, .ref ty, .ref an, .ref aw, .ref ts, .ref ss, .ref rq, .int tm, .int n3, .int n4])), (se, .inl ((cT 2), 4, .inr (.inr (.inr (.inr gs)))))] ++ va_pl L F) ∧ xs_T (fun _ => False) U U.heap)) (va_Qi (S := (Nat → va_E)) (fun rv9 u => match u with | F2 => ((rv9 = 0 ∧ OKS x y) ∨ (rv9 = 1 ∧ ¬ OKS x y)) ∧ PLS cT kd si ro rb L F2) (fun u t => match u with | F2 => va_P (dC, dI) vcl ([(ds, .inr (0, [.ref dr, .ref sv])), (sv, .inr (5, [.ref se, .ref pw, .ref g0, .ref ty, .ref an, .ref aw, .ref ts, .ref ss, .ref rq, .int tm, .int n3, .int n4])), (se, .inl ((cT 2), 4, .inr (.inr (.inr (.inr gs)))))] ++ va_pl L F2) t.heap ∧ va_K (dC, dI) vcl (tyL cT) t ∧ va_D (va_A ([(ds, .inr (0, [.ref dr, .ref sv])), (sv, .inr (5, [.ref se, .ref pw, .ref g0, .ref ty, .ref an, .ref aw, .ref ts, .ref ss, .ref rq, .int tm, .int n3, .int n4])), (se, .inl ((cT 2), 4, .inr (.inr (.inr (.inr gs)))))] ++ va_pl L F) sz) ([(ds, .inr (0, [.ref dr, .ref sv])), (sv, .inr (5, [.ref se, .ref pw, .ref g0, .ref ty, .ref an, .ref aw, .ref ts, .ref ss, .ref rq, .int tm, .int n3, .int n4])), (se, .inl ((cT 2), 4, .inr (.inr (.inr (.inr gs)))))] ++ va_pl L F2)) (va_A ([(ds, .inr (0, [.ref dr, .ref sv])), (sv, .inr (5, [.ref se, .ref pw, .ref g0, .ref ty, .ref an, .ref aw, .ref ts, .ref ss, .ref rq, .int tm, .int n3, .int n4])), (se, .inl ((cT 2), 4, .inr (.inr (.inr (.inr gs)))))] ++ va_pl L F) sz)) 1 6 (va_A ([(ds, .inr (0, [.ref dr, .ref sv])), (sv, .inr (5, [.ref se, .ref pw, .ref g0, .ref ty, .ref an, .ref aw, .ref ts, .ref ss, .ref rq, .int tm, .int n3, .int n4])), (se, .inl ((cT 2), 4, .inr (.inr (.inr (.inr gs)))))] ++ va_pl L F) sz) := by
  refine xw_Met (cc := b_Lw_secret) (maxL := 6) (ret := (Option.some Jvm.ClassFile.FieldType.int)) (hh := [((0 : Nat), (8 : Nat), (11 : Nat), (13 : Nat))]) (by decide) rfl ?_
  intro p e s m args below meth c s₁ B hml hv htab
  obtain ⟨hargs, hsz, hP, hK, hD0, hE⟩ := hv
  have hx := B.exec
  have hb := B.bytes
  have hr := B.returns
  have hts := atoms_spec (ws := (Cond.codeWith y_Lw_secret b_Lw_secret 6 (Option.some Jvm.ClassFile.FieldType.int) [((0 : Nat), (8 : Nat), (11 : Nat), (13 : Nat))] :: BIG)) B.pre
  have hg : ∀ w ∈ BIG, w.before _ s = true := fun w h => hts w (List.mem_cons_of_mem _ h)
  have hown : s.vm.findClass "DoorServerLaw" = some m.cls := findClass_of_methodNamed B.named
  have hlocks := B.notSynchronized
  subst hsz
  have hD := hD0.self (sz := s.heap.size)
  generalize hAe : va_A ([(ds, .inr (0, [.ref dr, .ref sv])), (sv, .inr (5, [.ref se, .ref pw, .ref g0, .ref ty, .ref an, .ref aw, .ref ts, .ref ss, .ref rq, .int tm, .int n3, .int n4])), (se, .inl ((cT 2), 4, .inr (.inr (.inr (.inr gs)))))] ++ va_pl L F) s.heap.size = A at hD ⊢
  have hA : ∀ q : Nat, s.heap.size ≤ q → A q := fun q h => by rw [← hAe]; exact Or.inr h
  have hS : va_S A s.heap s.heap [] := va_S.rf
  have hl := lv_entry ([.ref ds, .int x, .long v, .int y]) (n := 6) (Nat.le_of_ble_eq_true rfl)
  refine W.eq (g2 := entryFrame m (List.toArray [.ref ds, .int x, .long v, .int y]) 6) (by rw [hargs]) ?_
  rw [lg_entry_eq]
  generalize (lg_sl ([.ref ds, .int x, .long v, .int y]) ++ List.replicate (6 - (lg_sl ([.ref ds, .int x, .long v, .int y])).length) Slot.unset).toArray = ls at hl ⊢
  have hl : lv_has ls 6 [(0, .ref ds), (1, .int x), (2, .long v), (4, .int y)] := hl
  change W p l e ({ frames := 10, cells := 1, slots := 6, locals := 175 } : Room) s m args below meth c s.heap [] 0 0 _ _
  have hP : va_P (dC, dI) vcl ([(ds, .inr (0, [.ref dr, .ref sv])), (sv, .inr (5, [.ref se, .ref pw, .ref g0, .ref ty, .ref an, .ref aw, .ref ts, .ref ss, .ref rq, .int tm, .int n3, .int n4])), (se, .inl ((cT 2), 4, .inr (.inr (.inr (.inr gs)))))] ++ va_pl L F) s.heap := hP
  have hEz := hE
  refine lv_aload_n hx hb d_Lw_secret_0 rfl (lv_at hl 0 rfl) ?_
  refine lv_iload_n hx hb d_Lw_secret_1 rfl (lv_at hl 1 rfl) ?_
  refine lv_lload_n hx hb d_Lw_secret_2 rfl (lv_at hl 2 rfl) ?_
  refine lv_iload hx hb d_Lw_secret_3 (lv_at hl 3 rfl) ?_
  by_cases h1 : x < 0 ∨ 3 < x
  · skip
    have hPx := hP.sub (ws' := []) [] rfl
    refine xk_callV (C := "DoorServer") (As := [.int x, .long v, .int y]) (rest := []) ⟨hx, hb, hml, hown, hg⟩ (x_secret1 l hfl dC dI cT ds x v y (h1)) (cwV 3 hg (gI (List.forall_mem_append.mpr ⟨List.forall_mem_cons.mpr ⟨k_383, List.forall_mem_cons.mpr ⟨k_384, List.forall_mem_cons.mpr ⟨k_385, List.forall_mem_cons.mpr ⟨k_1, fun _ h => absurd h List.not_mem_nil⟩⟩⟩⟩, List.forall_mem_cons.mpr ⟨k_386, fun _ h => h⟩⟩)) rfl rfl rfl (by decide +kernel) ⟨Nat.le_of_ble_eq_true rfl, Nat.le_of_ble_eq_true rfl⟩) ⟨fun a U g mk q => ?_, va_recv (q0 := 0) (ci := 0) hK hP rfl rfl, fun U hU hW => ⟨rfl, ?_, ?_, va_K.moved hW.alike hK⟩⟩ rfl hl.1 rfl (Nat.le_of_ble_eq_true rfl) d_Lw_secret_5 ⟨Nat.le_of_ble_eq_true rfl, Nat.le_of_ble_eq_true rfl⟩ (xk_catch1 htab (by decide) (by decide) hown (hg _ k_382) (va_Nw.use rfl hEz.1.1.1) (fun x9 H1 hz1 hz2 hz3 => ?_))
    · obtain ⟨q0, q1, q2, q3⟩ := q
      exact ⟨q0, q1.at (State.WarmedH.refl _) (fun _ _ _ => rfl) (fun _ h => h), q2, va_K.moved (Vm.Alike.refl U.vm) q3⟩
    · show xz_T _ U U.heap; rw [hU]; exact hEz.1.at hW (fun _ _ _ => rfl) (fun _ h => h)
    · show va_P _ _ _ U.heap; rw [hU]; exact hPx
    · refine W.eq (g2 := F0 m 11 ls [.ref x9]) rfl ?_
      refine lv_astore (lv' := [(5, .ref x9), (0, .ref ds), (1, .int x), (2, .long v), (4, .int y)]) hx hb d_Lw_secret_11 hl (by decide) rfl (fun ls hl => ?_)
      refine lv_iconst (v := 1) hx hb d_Lw_secret_13 (by decide) ?_
      have hP : va_P (dC, dI) vcl ([(ds, .inr (0, [.ref dr, .ref sv])), (sv, .inr (5, [.ref se, .ref pw, .ref g0, .ref ty, .ref an, .ref aw, .ref ts, .ref ss, .ref rq, .int tm, .int n3, .int n4])), (se, .inl ((cT 2), 4, .inr (.inr (.inr (.inr gs)))))] ++ va_pl L F) H1 := hP.kept (fun k q hk => hz3 q.1 (hP k q hk).lt)
      have hP9 := hP.part (cx := [(ds, .inr (0, [.ref dr, .ref sv])), (sv, .inr (5, [.ref se, .ref pw, .ref g0, .ref ty, .ref an, .ref aw, .ref ts, .ref ss, .ref rq, .int tm, .int n3, .int n4])), (se, .inl ((cT 2), 4, .inr (.inr (.inr (.inr gs)))))]) [0, 1, 2] rfl
      have hD9 := hD.part (cx := [(ds, .inr (0, [.ref dr, .ref sv])), (sv, .inr (5, [.ref se, .ref pw, .ref g0, .ref ty, .ref an, .ref aw, .ref ts, .ref ss, .ref rq, .int tm, .int n3, .int n4])), (se, .inl ((cT 2), 4, .inr (.inr (.inr (.inr gs)))))]) [0, 1, 2] (by decide) rfl
      exact W.iret (v := 1) hx hb hr (fun t ht hW => ⟨⟨_, F, rfl, ⟨Or.inr ⟨rfl, fun h9 => h1.elim h9.1 h9.2.1⟩, hF⟩, by rw [ht]; exact hP9, va_K.moved hW.alike hK, hD9⟩, by rw [ht]; exact hz2, fun q h4 _ => by rw [ht]; exact hz3 q h4⟩) (fun q h => by cases h) d_Lw_secret_14
  have h1a : ¬ (x < 0) := fun h9 => h1 (Or.inl h9)
  have h1b : ¬ (3 < x) := fun h9 => h1 (Or.inr h9)
  by_cases h2 : y < 1 ∨ 40 < y
  · skip
    have hPx := hP.sub (ws' := []) [] rfl
    refine xk_callV (C := "DoorServer") (As := [.int x, .long v, .int y]) (rest := []) ⟨hx, hb, hml, hown, hg⟩ (x_secret2 l hfl dC dI cT ds x v y (h1a) (h1b) (h2)) (cwV 3 hg (gI (List.forall_mem_append.mpr ⟨List.forall_mem_cons.mpr ⟨k_383, List.forall_mem_cons.mpr ⟨k_384, List.forall_mem_cons.mpr ⟨k_385, List.forall_mem_cons.mpr ⟨k_1, fun _ h => absurd h List.not_mem_nil⟩⟩⟩⟩, List.forall_mem_cons.mpr ⟨k_386, fun _ h => h⟩⟩)) rfl rfl rfl (by decide +kernel) ⟨Nat.le_of_ble_eq_true rfl, Nat.le_of_ble_eq_true rfl⟩) ⟨fun a U g mk q => ?_, va_recv (q0 := 0) (ci := 0) hK hP rfl rfl, fun U hU hW => ⟨rfl, ?_, ?_, va_K.moved hW.alike hK⟩⟩ rfl hl.1 rfl (Nat.le_of_ble_eq_true rfl) d_Lw_secret_5 ⟨Nat.le_of_ble_eq_true rfl, Nat.le_of_ble_eq_true rfl⟩ (xk_catch1 htab (by decide) (by decide) hown (hg _ k_382) (va_Nw.use rfl hEz.1.1.1) (fun x9 H1 hz1 hz2 hz3 => ?_))
    · obtain ⟨q0, q1, q2, q3⟩ := q
      exact ⟨q0, q1.at (State.WarmedH.refl _) (fun _ _ _ => rfl) (fun _ h => h), q2, va_K.moved (Vm.Alike.refl U.vm) q3⟩
    · show xz_T _ U U.heap; rw [hU]; exact hEz.1.at hW (fun _ _ _ => rfl) (fun _ h => h)
    · show va_P _ _ _ U.heap; rw [hU]; exact hPx
    · refine W.eq (g2 := F0 m 11 ls [.ref x9]) rfl ?_
      refine lv_astore (lv' := [(5, .ref x9), (0, .ref ds), (1, .int x), (2, .long v), (4, .int y)]) hx hb d_Lw_secret_11 hl (by decide) rfl (fun ls hl => ?_)
      refine lv_iconst (v := 1) hx hb d_Lw_secret_13 (by decide) ?_
      have hP : va_P (dC, dI) vcl ([(ds, .inr (0, [.ref dr, .ref sv])), (sv, .inr (5, [.ref se, .ref pw, .ref g0, .ref ty, .ref an, .ref aw, .ref ts, .ref ss, .ref rq, .int tm, .int n3, .int n4])), (se, .inl ((cT 2), 4, .inr (.inr (.inr (.inr gs)))))] ++ va_pl L F) H1 := hP.kept (fun k q hk => hz3 q.1 (hP k q hk).lt)
      have hP9 := hP.part (cx := [(ds, .inr (0, [.ref dr, .ref sv])), (sv, .inr (5, [.ref se, .ref pw, .ref g0, .ref ty, .ref an, .ref aw, .ref ts, .ref ss, .ref rq, .int tm, .int n3, .int n4])), (se, .inl ((cT 2), 4, .inr (.inr (.inr (.inr gs)))))]) [0, 1, 2] rfl
      have hD9 := hD.part (cx := [(ds, .inr (0, [.ref dr, .ref sv])), (sv, .inr (5, [.ref se, .ref pw, .ref g0, .ref ty, .ref an, .ref aw, .ref ts, .ref ss, .ref rq, .int tm, .int n3, .int n4])), (se, .inl ((cT 2), 4, .inr (.inr (.inr (.inr gs)))))]) [0, 1, 2] (by decide) rfl
      exact W.iret (v := 1) hx hb hr (fun t ht hW => ⟨⟨_, F, rfl, ⟨Or.inr ⟨rfl, fun h9 => h2.elim h9.2.2.1 h9.2.2.2⟩, hF⟩, by rw [ht]; exact hP9, va_K.moved hW.alike hK, hD9⟩, by rw [ht]; exact hz2, fun q h4 _ => by rw [ht]; exact hz3 q h4⟩) (fun q h => by cases h) d_Lw_secret_14
  have h2a : ¬ (y < 1) := fun h9 => h2 (Or.inl h9)
  have h2b : ¬ (40 < y) := fun h9 => h2 (Or.inr h9)
  have hok : OKS x y := ⟨h1a, h1b, h2a, h2b⟩
  obtain ⟨st, hst, rfl⟩ := rng_0 (M := 3) (n := 3) (by decide) h1a h1b
  obtain ⟨k, hk1, hk2, rfl⟩ := rng_1 (M := 40) (n := 40) (by decide) (by decide) h2a h2b
  obtain ⟨q, hq1, hq2, hq3, hq4⟩ := hgs st (by omega)
  obtain ⟨a1, a2, -⟩ := (hsh q hq2).1 hq3
  obtain ⟨n1, hFb, hn1⟩ := (hF q hq2).2.1 hq3
  obtain ⟨f1, hFr, hbr⟩ := (hF (ro q) a1).1 a2
  have ne1 : ro q ≠ q := kd_ne (kd := kd) (by omega)
  obtain ⟨hP, hD⟩ := pl_out (X := [(ds, .inr (0, [.ref dr, .ref sv])), (sv, .inr (5, [.ref se, .ref pw, .ref g0, .ref ty, .ref an, .ref aw, .ref ts, .ref ss, .ref rq, .int tm, .int n3, .int n4])), (se, .inl ((cT 2), 4, .inr (.inr (.inr (.inr gs)))))]) hP hD (hq2) (hFb)
  have hP : va_P (dC, dI) vcl ([(ds, .inr (0, [.ref dr, .ref sv])), (sv, .inr (5, [.ref se, .ref pw, .ref g0, .ref ty, .ref an, .ref aw, .ref ts, .ref ss, .ref rq, .int tm, .int n3, .int n4])), (se, .inl ((cT 2), 4, .inr (.inr (.inr (.inr gs))))), (q, .inr (1, [.ref (ro q), .int (nI n1)]))] ++ va_pl (L.erase q) F) s.heap := hP
  have hD : va_D A ([(ds, .inr (0, [.ref dr, .ref sv])), (sv, .inr (5, [.ref se, .ref pw, .ref g0, .ref ty, .ref an, .ref aw, .ref ts, .ref ss, .ref rq, .int tm, .int n3, .int n4])), (se, .inl ((cT 2), 4, .inr (.inr (.inr (.inr gs))))), (q, .inr (1, [.ref (ro q), .int (nI n1)]))] ++ va_pl (L.erase q) F) := hD
  obtain ⟨hP, hD⟩ := pl_out (X := [(ds, .inr (0, [.ref dr, .ref sv])), (sv, .inr (5, [.ref se, .ref pw, .ref g0, .ref ty, .ref an, .ref aw, .ref ts, .ref ss, .ref rq, .int tm, .int n3, .int n4])), (se, .inl ((cT 2), 4, .inr (.inr (.inr (.inr gs))))), (q, .inr (1, [.ref (ro q), .int (nI n1)]))]) hP hD ((List.mem_erase_of_ne ne1).mpr a1) (hFr)
  have hP : va_P (dC, dI) vcl ([(ds, .inr (0, [.ref dr, .ref sv])), (sv, .inr (5, [.ref se, .ref pw, .ref g0, .ref ty, .ref an, .ref aw, .ref ts, .ref ss, .ref rq, .int tm, .int n3, .int n4])), (se, .inl ((cT 2), 4, .inr (.inr (.inr (.inr gs))))), (q, .inr (1, [.ref (ro q), .int (nI n1)])), (ro q, .inl ((cT 0), si (ro q), .inl f1))] ++ va_pl ((L.erase q).erase (ro q)) F) s.heap := hP
  have hD : va_D A ([(ds, .inr (0, [.ref dr, .ref sv])), (sv, .inr (5, [.ref se, .ref pw, .ref g0, .ref ty, .ref an, .ref aw, .ref ts, .ref ss, .ref rq, .int tm, .int n3, .int n4])), (se, .inl ((cT 2), 4, .inr (.inr (.inr (.inr gs))))), (q, .inr (1, [.ref (ro q), .int (nI n1)])), (ro q, .inl ((cT 0), si (ro q), .inl f1))] ++ va_pl ((L.erase q).erase (ro q)) F) := hD
  have hPc := hP.sub (ws' := [(ds, .inr (0, [.ref dr, .ref sv])), (sv, .inr (5, [.ref se, .ref pw, .ref g0, .ref ty, .ref an, .ref aw, .ref ts, .ref ss, .ref rq, .int tm, .int n3, .int n4])), (se, .inl ((cT 2), 4, .inr (.inr (.inr (.inr gs))))), (q, .inr (1, [.ref (ro q), .int (nI n1)])), (ro q, .inl ((cT 0), (si (ro q)), .inl f1))]) [0, 1, 2, 3, 4] rfl
  have hDc := hD.sub (ws' := [(ds, .inr (0, [.ref dr, .ref sv])), (sv, .inr (5, [.ref se, .ref pw, .ref g0, .ref ty, .ref an, .ref aw, .ref ts, .ref ss, .ref rq, .int tm, .int n3, .int n4])), (se, .inl ((cT 2), 4, .inr (.inr (.inr (.inr gs))))), (q, .inr (1, [.ref (ro q), .int (nI n1)])), (ro q, .inl ((cT 0), (si (ro q)), .inl f1))]) [0, 1, 2, 3, 4] (by decide) rfl
  have hFc := va_free (wc := [(ds, .inr (0, [.ref dr, .ref sv])), (sv, .inr (5, [.ref se, .ref pw, .ref g0, .ref ty, .ref an, .ref aw, .ref ts, .ref ss, .ref rq, .int tm, .int n3, .int n4])), (se, .inl ((cT 2), 4, .inr (.inr (.inr (.inr gs))))), (q, .inr (1, [.ref (ro q), .int (nI n1)])), (ro q, .inl ((cT 0), (si (ro q)), .inl f1))]) hD hS hA [0, 1, 2, 3, 4] rfl
  refine va_callv (va_runV (C := "DoorServer") (As := [.int (nI st), .long v, .int (nI k)]) (rest := []) ⟨hx, hb, hml, hown, hg⟩ (c_secret l dC dI cT s.heap.size ds dr sv rr g0 se pw ty an aw ts ss rq tm n3 n4 q (ro q) (si (ro q)) n1 f1 gs st v k (by omega) (hq1) (hk1) (hk2) (hq4)) (cwV 3 hg (gI (List.forall_mem_append.mpr ⟨List.forall_mem_cons.mpr ⟨k_383, List.forall_mem_cons.mpr ⟨k_384, List.forall_mem_cons.mpr ⟨k_385, List.forall_mem_cons.mpr ⟨k_1, fun _ h => absurd h List.not_mem_nil⟩⟩⟩⟩, List.forall_mem_cons.mpr ⟨k_386, fun _ h => h⟩⟩)) rfl rfl rfl (by decide +kernel) ⟨Nat.le_of_ble_eq_true rfl, Nat.le_of_ble_eq_true rfl⟩) ⟨fun a U g mk q => by obtain ⟨q0, q1, qP, qK, qD⟩ := q; exact ⟨q0, q1, qP, va_K.moved (u := U) (U := U.calling g mk a) (Vm.Alike.refl U.vm) qK, qD⟩, va_recv (q0 := 0) (ci := 0) hK hP rfl rfl, fun U hU hW => ⟨rfl, by rw [hU], by rw [hU]; exact hPc, va_K.moved hW.alike hK, hDc.weaken (fun _ _ _ _ => trivial)⟩⟩ rfl rfl hl.1 rfl (lv_room (Nat.le_of_ble_eq_true rfl)) d_Lw_secret_5 ⟨Nat.le_of_ble_eq_true rfl, Nat.le_of_ble_eq_true rfl⟩) hS (fun q _ h => hFc q h) hFc (fun u t H1 locs ht hvm hw hB hz1 hk1 hS => ?_)
  obtain ⟨g_1, rfl⟩ : ∃ z, z = u := ⟨_, rfl⟩
  try dsimp only at hw hB
  obtain ⟨hP1, hK1, hD1⟩ := hB
  rw [ht] at hP1
  obtain ⟨hP, hD⟩ := va_joinQ (X := [(ds, .inr (0, [.ref dr, .ref sv])), (sv, .inr (5, [.ref se, .ref pw, .ref g0, .ref ty, .ref an, .ref aw, .ref ts, .ref ss, .ref rq, .int tm, .int n3, .int n4])), (se, .inl ((cT 2), 4, .inr (.inr (.inr (.inr gs))))), (q, .inr (1, [.ref (ro q), .int (nI n1)])), (ro q, .inl ((cT 0), si (ro q), .inl f1))]) (cx := [(ds, .inr (0, [.ref dr, .ref sv])), (sv, .inr (5, [.ref se, .ref pw, .ref g0, .ref ty, .ref an, .ref aw, .ref ts, .ref ss, .ref rq, .int tm, .int n3, .int n4])), (se, .inl ((cT 2), 4, .inr (.inr (.inr (.inr gs))))), (q, .inr (1, [.ref (ro q), .int (nI n1)])), (ro q, .inl ((cT 0), (si (ro q)), .inl f1))]) (wr := []) (w1 := [(ds, .inr (0, [.ref dr, .ref sv])), (sv, .inr (5, [.ref se, .ref pw, .ref g0, .ref ty, .ref an, .ref aw, .ref ts, .ref ss, .ref rq, .int tm, .int n3, .int n4])), (se, .inl ((cT 2), 4, .inr (.inr (.inr (.inr gs))))), (q, .inr (1, [.ref (ro q), .int (nI k)])), (ro q, .inl ((cT 0), (si (ro q)), .inl g_1))]) hP hD [0, 1, 2, 3, 4] [] rfl rfl (by decide) (by decide) hk1 hFc hP1 hD1
  have hw2 := hw
  clear hPc hDc hFc hz1 hk1 hP1 hK1 hD1
  generalize H1 = H at hP hS ⊢
  have hP : va_P (dC, dI) vcl ([(ds, .inr (0, [.ref dr, .ref sv])), (sv, .inr (5, [.ref se, .ref pw, .ref g0, .ref ty, .ref an, .ref aw, .ref ts, .ref ss, .ref rq, .int tm, .int n3, .int n4])), (se, .inl ((cT 2), 4, .inr (.inr (.inr (.inr gs))))), (q, .inr (1, [.ref (ro q), .int (nI k)])), (ro q, .inl ((cT 0), (si (ro q)), .inl g_1))] ++ va_pl ((L.erase q).erase (ro q)) F) H := hP
  have hD : va_D A ([(ds, .inr (0, [.ref dr, .ref sv])), (sv, .inr (5, [.ref se, .ref pw, .ref g0, .ref ty, .ref an, .ref aw, .ref ts, .ref ss, .ref rq, .int tm, .int n3, .int n4])), (se, .inl ((cT 2), 4, .inr (.inr (.inr (.inr gs))))), (q, .inr (1, [.ref (ro q), .int (nI k)])), (ro q, .inl ((cT 0), (si (ro q)), .inl g_1))] ++ va_pl ((L.erase q).erase (ro q)) F) := hD
  obtain ⟨hP, hD⟩ := pl_in (X := [(ds, .inr (0, [.ref dr, .ref sv])), (sv, .inr (5, [.ref se, .ref pw, .ref g0, .ref ty, .ref an, .ref aw, .ref ts, .ref ss, .ref rq, .int tm, .int n3, .int n4])), (se, .inl ((cT 2), 4, .inr (.inr (.inr (.inr gs))))), (q, .inr (1, [.ref (ro q), .int (nI k)]))]) hP hD ((List.mem_erase_of_ne ne1).mpr a1) (hnd.erase q)
  have hP : va_P (dC, dI) vcl ([(ds, .inr (0, [.ref dr, .ref sv])), (sv, .inr (5, [.ref se, .ref pw, .ref g0, .ref ty, .ref an, .ref aw, .ref ts, .ref ss, .ref rq, .int tm, .int n3, .int n4])), (se, .inl ((cT 2), 4, .inr (.inr (.inr (.inr gs))))), (q, .inr (1, [.ref (ro q), .int (nI k)]))] ++ va_pl (L.erase q) (va_up F (ro q) (.inl ((cT 0), (si (ro q)), .inl g_1)))) H := hP
  have hD : va_D A ([(ds, .inr (0, [.ref dr, .ref sv])), (sv, .inr (5, [.ref se, .ref pw, .ref g0, .ref ty, .ref an, .ref aw, .ref ts, .ref ss, .ref rq, .int tm, .int n3, .int n4])), (se, .inl ((cT 2), 4, .inr (.inr (.inr (.inr gs))))), (q, .inr (1, [.ref (ro q), .int (nI k)]))] ++ va_pl (L.erase q) (va_up F (ro q) (.inl ((cT 0), (si (ro q)), .inl g_1)))) := hD
  obtain ⟨hP, hD⟩ := pl_in (X := [(ds, .inr (0, [.ref dr, .ref sv])), (sv, .inr (5, [.ref se, .ref pw, .ref g0, .ref ty, .ref an, .ref aw, .ref ts, .ref ss, .ref rq, .int tm, .int n3, .int n4])), (se, .inl ((cT 2), 4, .inr (.inr (.inr (.inr gs)))))]) hP hD (hq2) (hnd)
  have hP : va_P (dC, dI) vcl ([(ds, .inr (0, [.ref dr, .ref sv])), (sv, .inr (5, [.ref se, .ref pw, .ref g0, .ref ty, .ref an, .ref aw, .ref ts, .ref ss, .ref rq, .int tm, .int n3, .int n4])), (se, .inl ((cT 2), 4, .inr (.inr (.inr (.inr gs)))))] ++ va_pl L (va_up (va_up F (ro q) (.inl ((cT 0), (si (ro q)), .inl g_1))) q (.inr (1, [.ref (ro q), .int (nI k)])))) H := hP
  have hD : va_D A ([(ds, .inr (0, [.ref dr, .ref sv])), (sv, .inr (5, [.ref se, .ref pw, .ref g0, .ref ty, .ref an, .ref aw, .ref ts, .ref ss, .ref rq, .int tm, .int n3, .int n4])), (se, .inl ((cT 2), 4, .inr (.inr (.inr (.inr gs)))))] ++ va_pl L (va_up (va_up F (ro q) (.inl ((cT 0), (si (ro q)), .inl g_1))) q (.inr (1, [.ref (ro q), .int (nI k)])))) := hD
  have hF9 : PLS cT kd si ro rb L (va_up (va_up F (ro q) (.inl ((cT 0), (si (ro q)), .inl g_1))) q (.inr (1, [.ref (ro q), .int (nI k)]))) := PLS_up (PLS_up hF (PLC0 a2 (hw2 hbr))) (PLC1 hq3 (by omega))
  refine lv_goto (tgt := 15) hx hb d_Lw_secret_8 (by decide) ?_
  refine lv_iconst (v := 0) hx hb d_Lw_secret_15 (by decide) ?_
  refine W.widen (k := 1) (n := 6) (Nat.le_of_ble_eq_true rfl) (Nat.le_of_ble_eq_true rfl) ?_
  have hP9 := hP.part (cx := [(ds, .inr (0, [.ref dr, .ref sv])), (sv, .inr (5, [.ref se, .ref pw, .ref g0, .ref ty, .ref an, .ref aw, .ref ts, .ref ss, .ref rq, .int tm, .int n3, .int n4])), (se, .inl ((cT 2), 4, .inr (.inr (.inr (.inr gs)))))]) [0, 1, 2] rfl
  have hD9 := hD.part (cx := [(ds, .inr (0, [.ref dr, .ref sv])), (sv, .inr (5, [.ref se, .ref pw, .ref g0, .ref ty, .ref an, .ref aw, .ref ts, .ref ss, .ref rq, .int tm, .int n3, .int n4])), (se, .inl ((cT 2), 4, .inr (.inr (.inr (.inr gs)))))]) [0, 1, 2] (by decide) rfl
  exact W.iret (v := 0) hx hb hr (fun t ht hW => ⟨⟨_, va_up (va_up F (ro q) (.inl ((cT 0), (si (ro q)), .inl g_1))) q (.inr (1, [.ref (ro q), .int (nI k)])), rfl, ⟨Or.inl ⟨rfl, hok⟩, hF9⟩, by rw [ht]; exact hP9, va_K.moved hW.alike hK, hD9⟩, hS.F ht⟩) hS.2.2 d_Lw_secret_16
set_option maxHeartbeats 4000000 in
set_option maxRecDepth 100000 in
/-- the law: draft -/
theorem lt_draft (l : Launch) (dC : Nat → ClassId) (dI : Nat → Nat → Nat) (cT : Nat → ClassId) (sz : Nat) (ds : Nat) (dr : Nat) (sv : Nat) (rr : Nat) (len : Nat) (f : Nat → Int32) (x : Int32) (y : Int32) (v : Int64) (hfl : l.flags = pinnedFlags ++ [noTraceFlag]) (h20 : 20 ≤ len) (hlen : len ≤ 1000) (hab : AB f) : Met l y_Lw_draft (Cond.codeWith y_Lw_draft b_Lw_draft 6 (Option.some Jvm.ClassFile.FieldType.int) [((0 : Nat), (7 : Nat), (10 : Nat), (13 : Nat))] :: BIG) ({ frames := 10, cells := 1, slots := 6, locals := 175 }) (va_Pc [.ref ds, .int x, .int y, .long v] (fun U => U.heap.size = sz ∧ va_P (dC, dI) vcl [(ds, .inr (0, [.ref dr, .ref sv])), (dr, .inr (2, [.ref rr, .int (nI len)])), (rr, .inl ((cT 0), 1000, .inl f))] U.heap ∧ va_K (dC, dI) vcl (tyL cT) U ∧ va_D (fun _ => True) [(ds, .inr (0, [.ref dr, .ref sv])), (dr, .inr (2, [.ref rr, .int (nI len)])), (rr, .inl ((cT 0), 1000, .inl f))] ∧ xs_T (fun _ => False) U U.heap)) (va_Qi (S := Nat × (Nat → Int32)) (fun rv9 u => match u with | (dl2, g) => ((rv9 = 0 ∧ OKD x y) ∨ (rv9 = 1 ∧ ¬ OKD x y)) ∧ 20 ≤ dl2 ∧ dl2 ≤ 1000 ∧ AB g) (fun u t => match u with | (dl2, g) => va_P (dC, dI) vcl [(ds, .inr (0, [.ref dr, .ref sv])), (dr, .inr (2, [.ref rr, .int (nI dl2)])), (rr, .inl ((cT 0), 1000, .inl g))] t.heap ∧ va_K (dC, dI) vcl (tyL cT) t ∧ va_D (va_A [(ds, .inr (0, [.ref dr, .ref sv])), (dr, .inr (2, [.ref rr, .int (nI len)])), (rr, .inl ((cT 0), 1000, .inl f))] sz) [(ds, .inr (0, [.ref dr, .ref sv])), (dr, .inr (2, [.ref rr, .int (nI dl2)])), (rr, .inl ((cT 0), 1000, .inl g))]) (va_A [(ds, .inr (0, [.ref dr, .ref sv])), (dr, .inr (2, [.ref rr, .int (nI len)])), (rr, .inl ((cT 0), 1000, .inl f))] sz)) 1 6 (va_A [(ds, .inr (0, [.ref dr, .ref sv])), (dr, .inr (2, [.ref rr, .int (nI len)])), (rr, .inl ((cT 0), 1000, .inl f))] sz) := by
  refine xw_Met (cc := b_Lw_draft) (maxL := 6) (ret := (Option.some Jvm.ClassFile.FieldType.int)) (hh := [((0 : Nat), (7 : Nat), (10 : Nat), (13 : Nat))]) (by decide) rfl ?_
  intro p e s m args below meth c s₁ B hml hv htab
  obtain ⟨hargs, hsz, hP, hK, hD0, hE⟩ := hv
  have hx := B.exec
  have hb := B.bytes
  have hr := B.returns
  have hts := atoms_spec (ws := (Cond.codeWith y_Lw_draft b_Lw_draft 6 (Option.some Jvm.ClassFile.FieldType.int) [((0 : Nat), (7 : Nat), (10 : Nat), (13 : Nat))] :: BIG)) B.pre
  have hg : ∀ w ∈ BIG, w.before _ s = true := fun w h => hts w (List.mem_cons_of_mem _ h)
  have hown : s.vm.findClass "DoorServerLaw" = some m.cls := findClass_of_methodNamed B.named
  have hlocks := B.notSynchronized
  subst hsz
  have hD := hD0.self (sz := s.heap.size)
  generalize hAe : va_A [(ds, .inr (0, [.ref dr, .ref sv])), (dr, .inr (2, [.ref rr, .int (nI len)])), (rr, .inl ((cT 0), 1000, .inl f))] s.heap.size = A at hD ⊢
  have hA : ∀ q : Nat, s.heap.size ≤ q → A q := fun q h => by rw [← hAe]; exact Or.inr h
  have hS : va_S A s.heap s.heap [] := va_S.rf
  have hl := lv_entry ([.ref ds, .int x, .int y, .long v]) (n := 6) (Nat.le_of_ble_eq_true rfl)
  refine W.eq (g2 := entryFrame m (List.toArray [.ref ds, .int x, .int y, .long v]) 6) (by rw [hargs]) ?_
  rw [lg_entry_eq]
  generalize (lg_sl ([.ref ds, .int x, .int y, .long v]) ++ List.replicate (6 - (lg_sl ([.ref ds, .int x, .int y, .long v])).length) Slot.unset).toArray = ls at hl ⊢
  have hl : lv_has ls 6 [(0, .ref ds), (1, .int x), (2, .int y), (3, .long v)] := hl
  change W p l e ({ frames := 10, cells := 1, slots := 6, locals := 175 } : Room) s m args below meth c s.heap [] 0 0 _ _
  have hP : va_P (dC, dI) vcl [(ds, .inr (0, [.ref dr, .ref sv])), (dr, .inr (2, [.ref rr, .int (nI len)])), (rr, .inl ((cT 0), 1000, .inl f))] s.heap := hP
  have hEz := hE
  refine lv_aload_n hx hb d_Lw_draft_0 rfl (lv_at hl 0 rfl) ?_
  refine lv_iload_n hx hb d_Lw_draft_1 rfl (lv_at hl 1 rfl) ?_
  refine lv_iload_n hx hb d_Lw_draft_2 rfl (lv_at hl 2 rfl) ?_
  refine lv_lload_n hx hb d_Lw_draft_3 rfl (lv_at hl 3 rfl) ?_
  by_cases h1 : x < 0 ∨ 255 < x
  · skip
    have hPx := hP.sub (ws' := []) [] rfl
    refine xk_callV (C := "DoorServer") (As := [.int x, .int y, .long v]) (rest := []) ⟨hx, hb, hml, hown, hg⟩ (x_draft1 l hfl dC dI cT ds x y v (h1)) (cwV 3 hg (gI (List.forall_mem_append.mpr ⟨List.forall_mem_cons.mpr ⟨k_485, List.forall_mem_cons.mpr ⟨k_486, List.forall_mem_cons.mpr ⟨k_487, List.forall_mem_cons.mpr ⟨k_1, fun _ h => absurd h List.not_mem_nil⟩⟩⟩⟩, List.forall_mem_cons.mpr ⟨k_488, fun _ h => h⟩⟩)) rfl rfl rfl (by decide +kernel) ⟨Nat.le_of_ble_eq_true rfl, Nat.le_of_ble_eq_true rfl⟩) ⟨fun a U g mk q => ?_, va_recv (q0 := 0) (ci := 0) hK hP rfl rfl, fun U hU hW => ⟨rfl, ?_, ?_, va_K.moved hW.alike hK⟩⟩ rfl hl.1 rfl (Nat.le_of_ble_eq_true rfl) d_Lw_draft_4 ⟨Nat.le_of_ble_eq_true rfl, Nat.le_of_ble_eq_true rfl⟩ (xk_catch1 htab (by decide) (by decide) hown (hg _ k_382) (va_Nw.use rfl hEz.1.1.1) (fun x9 H1 hz1 hz2 hz3 => ?_))
    · obtain ⟨q0, q1, q2, q3⟩ := q
      exact ⟨q0, q1.at (State.WarmedH.refl _) (fun _ _ _ => rfl) (fun _ h => h), q2, va_K.moved (Vm.Alike.refl U.vm) q3⟩
    · show xz_T _ U U.heap; rw [hU]; exact hEz.1.at hW (fun _ _ _ => rfl) (fun _ h => h)
    · show va_P _ _ _ U.heap; rw [hU]; exact hPx
    · refine W.eq (g2 := F0 m 10 ls [.ref x9]) rfl ?_
      refine lv_astore (lv' := [(5, .ref x9), (0, .ref ds), (1, .int x), (2, .int y), (3, .long v)]) hx hb d_Lw_draft_10 hl (by decide) rfl (fun ls hl => ?_)
      refine lv_iconst (v := 1) hx hb d_Lw_draft_12 (by decide) ?_
      have hP : va_P (dC, dI) vcl [(ds, .inr (0, [.ref dr, .ref sv])), (dr, .inr (2, [.ref rr, .int (nI len)])), (rr, .inl ((cT 0), 1000, .inl f))] H1 := hP.kept (fun k q hk => hz3 q.1 (hP k q hk).lt)
      have hP9 := hP.sub (ws' := [(ds, .inr (0, [.ref dr, .ref sv])), (dr, .inr (2, [.ref rr, .int (nI len)])), (rr, .inl ((cT 0), 1000, .inl f))]) [0, 1, 2] rfl
      have hD9 := hD.sub (ws' := [(ds, .inr (0, [.ref dr, .ref sv])), (dr, .inr (2, [.ref rr, .int (nI len)])), (rr, .inl ((cT 0), 1000, .inl f))]) [0, 1, 2] (by decide) rfl
      exact W.iret (v := 1) hx hb hr (fun t ht hW => ⟨⟨_, ⟨len, f⟩, rfl, ⟨Or.inr ⟨rfl, fun h9 => h1.elim h9.1 h9.2.1⟩, h20, hlen, hab⟩, by rw [ht]; exact hP9, va_K.moved hW.alike hK, hD9⟩, by rw [ht]; exact hz2, fun q h4 _ => by rw [ht]; exact hz3 q h4⟩) (fun q h => by cases h) d_Lw_draft_13
  have h1a : ¬ (x < 0) := fun h9 => h1 (Or.inl h9)
  have h1b : ¬ (255 < x) := fun h9 => h1 (Or.inr h9)
  by_cases h2 : y < 0 ∨ 255 < y
  · skip
    have hPx := hP.sub (ws' := []) [] rfl
    refine xk_callV (C := "DoorServer") (As := [.int x, .int y, .long v]) (rest := []) ⟨hx, hb, hml, hown, hg⟩ (x_draft2 l hfl dC dI cT ds x y v (h1a) (h1b) (h2)) (cwV 3 hg (gI (List.forall_mem_append.mpr ⟨List.forall_mem_cons.mpr ⟨k_485, List.forall_mem_cons.mpr ⟨k_486, List.forall_mem_cons.mpr ⟨k_487, List.forall_mem_cons.mpr ⟨k_1, fun _ h => absurd h List.not_mem_nil⟩⟩⟩⟩, List.forall_mem_cons.mpr ⟨k_488, fun _ h => h⟩⟩)) rfl rfl rfl (by decide +kernel) ⟨Nat.le_of_ble_eq_true rfl, Nat.le_of_ble_eq_true rfl⟩) ⟨fun a U g mk q => ?_, va_recv (q0 := 0) (ci := 0) hK hP rfl rfl, fun U hU hW => ⟨rfl, ?_, ?_, va_K.moved hW.alike hK⟩⟩ rfl hl.1 rfl (Nat.le_of_ble_eq_true rfl) d_Lw_draft_4 ⟨Nat.le_of_ble_eq_true rfl, Nat.le_of_ble_eq_true rfl⟩ (xk_catch1 htab (by decide) (by decide) hown (hg _ k_382) (va_Nw.use rfl hEz.1.1.1) (fun x9 H1 hz1 hz2 hz3 => ?_))
    · obtain ⟨q0, q1, q2, q3⟩ := q
      exact ⟨q0, q1.at (State.WarmedH.refl _) (fun _ _ _ => rfl) (fun _ h => h), q2, va_K.moved (Vm.Alike.refl U.vm) q3⟩
    · show xz_T _ U U.heap; rw [hU]; exact hEz.1.at hW (fun _ _ _ => rfl) (fun _ h => h)
    · show va_P _ _ _ U.heap; rw [hU]; exact hPx
    · refine W.eq (g2 := F0 m 10 ls [.ref x9]) rfl ?_
      refine lv_astore (lv' := [(5, .ref x9), (0, .ref ds), (1, .int x), (2, .int y), (3, .long v)]) hx hb d_Lw_draft_10 hl (by decide) rfl (fun ls hl => ?_)
      refine lv_iconst (v := 1) hx hb d_Lw_draft_12 (by decide) ?_
      have hP : va_P (dC, dI) vcl [(ds, .inr (0, [.ref dr, .ref sv])), (dr, .inr (2, [.ref rr, .int (nI len)])), (rr, .inl ((cT 0), 1000, .inl f))] H1 := hP.kept (fun k q hk => hz3 q.1 (hP k q hk).lt)
      have hP9 := hP.sub (ws' := [(ds, .inr (0, [.ref dr, .ref sv])), (dr, .inr (2, [.ref rr, .int (nI len)])), (rr, .inl ((cT 0), 1000, .inl f))]) [0, 1, 2] rfl
      have hD9 := hD.sub (ws' := [(ds, .inr (0, [.ref dr, .ref sv])), (dr, .inr (2, [.ref rr, .int (nI len)])), (rr, .inl ((cT 0), 1000, .inl f))]) [0, 1, 2] (by decide) rfl
      exact W.iret (v := 1) hx hb hr (fun t ht hW => ⟨⟨_, ⟨len, f⟩, rfl, ⟨Or.inr ⟨rfl, fun h9 => h2.elim h9.2.2.1 h9.2.2.2⟩, h20, hlen, hab⟩, by rw [ht]; exact hP9, va_K.moved hW.alike hK, hD9⟩, by rw [ht]; exact hz2, fun q h4 _ => by rw [ht]; exact hz3 q h4⟩) (fun q h => by cases h) d_Lw_draft_13
  have h2a : ¬ (y < 0) := fun h9 => h2 (Or.inl h9)
  have h2b : ¬ (255 < y) := fun h9 => h2 (Or.inr h9)
  have hok : OKD x y := ⟨h1a, h1b, h2a, h2b⟩
  have hPc := hP.sub (ws' := [(ds, .inr (0, [.ref dr, .ref sv])), (dr, .inr (2, [.ref rr, .int (nI len)])), (rr, .inl ((cT 0), 1000, .inl f))]) [0, 1, 2] rfl
  have hDc := hD.sub (ws' := [(ds, .inr (0, [.ref dr, .ref sv])), (dr, .inr (2, [.ref rr, .int (nI len)])), (rr, .inl ((cT 0), 1000, .inl f))]) [0, 1, 2] (by decide) rfl
  have hFc := va_free (wc := [(ds, .inr (0, [.ref dr, .ref sv])), (dr, .inr (2, [.ref rr, .int (nI len)])), (rr, .inl ((cT 0), 1000, .inl f))]) hD hS hA [0, 1, 2] rfl
  refine va_callv (va_runV (C := "DoorServer") (As := [.int x, .int y, .long v]) (rest := []) ⟨hx, hb, hml, hown, hg⟩ (c_draft l dC dI cT s.heap.size ds dr sv rr len f x y v (h1a) (h1b) (h2a) (h2b)) (cwV 3 hg (gI (List.forall_mem_append.mpr ⟨List.forall_mem_cons.mpr ⟨k_485, List.forall_mem_cons.mpr ⟨k_486, List.forall_mem_cons.mpr ⟨k_487, List.forall_mem_cons.mpr ⟨k_1, fun _ h => absurd h List.not_mem_nil⟩⟩⟩⟩, List.forall_mem_cons.mpr ⟨k_488, fun _ h => h⟩⟩)) rfl rfl rfl (by decide +kernel) ⟨Nat.le_of_ble_eq_true rfl, Nat.le_of_ble_eq_true rfl⟩) ⟨fun a U g mk q => by obtain ⟨q0, q1, qP, qK, qD⟩ := q; exact ⟨q0, q1, qP, va_K.moved (u := U) (U := U.calling g mk a) (Vm.Alike.refl U.vm) qK, qD⟩, va_recv (q0 := 0) (ci := 0) hK hP rfl rfl, fun U hU hW => ⟨rfl, by rw [hU], by rw [hU]; exact hPc, va_K.moved hW.alike hK, hDc.weaken (fun _ _ _ _ => trivial)⟩⟩ rfl rfl hl.1 rfl (lv_room (Nat.le_of_ble_eq_true rfl)) d_Lw_draft_4 ⟨Nat.le_of_ble_eq_true rfl, Nat.le_of_ble_eq_true rfl⟩) hS (fun q _ h => hFc q h) hFc (fun u t H1 locs ht hvm hw hB hz1 hk1 hS => ?_)
  obtain ⟨g_3, rfl⟩ : ∃ z, z = u := ⟨_, rfl⟩
  try dsimp only at hw hB
  obtain ⟨hP1, hK1, hD1⟩ := hB
  rw [ht] at hP1
  obtain ⟨hP, hD⟩ := va_join (wr := []) (w1 := [(ds, .inr (0, [.ref dr, .ref sv])), (dr, .inr (2, [.ref rr, .int (nI 20)])), (rr, .inl ((cT 0), 1000, .inl g_3))]) hP hD [0, 1, 2] [] rfl rfl (by decide) (by decide) hk1 hFc hP1 hD1
  have hw4 := hw
  clear hPc hDc hFc hz1 hk1 hP1 hK1 hD1
  generalize H1 = H at hP hS ⊢
  have hP : va_P (dC, dI) vcl [(ds, .inr (0, [.ref dr, .ref sv])), (dr, .inr (2, [.ref rr, .int (nI 20)])), (rr, .inl ((cT 0), 1000, .inl g_3))] H := hP
  have hD : va_D A [(ds, .inr (0, [.ref dr, .ref sv])), (dr, .inr (2, [.ref rr, .int (nI 20)])), (rr, .inl ((cT 0), 1000, .inl g_3))] := hD
  refine lv_goto (tgt := 14) hx hb d_Lw_draft_7 (by decide) ?_
  refine lv_iconst (v := 0) hx hb d_Lw_draft_14 (by decide) ?_
  refine W.widen (k := 1) (n := 6) (Nat.le_of_ble_eq_true rfl) (Nat.le_of_ble_eq_true rfl) ?_
  have hP9 := hP.sub (ws' := [(ds, .inr (0, [.ref dr, .ref sv])), (dr, .inr (2, [.ref rr, .int (nI 20)])), (rr, .inl ((cT 0), 1000, .inl g_3))]) [0, 1, 2] rfl
  have hD9 := hD.sub (ws' := [(ds, .inr (0, [.ref dr, .ref sv])), (dr, .inr (2, [.ref rr, .int (nI 20)])), (rr, .inl ((cT 0), 1000, .inl g_3))]) [0, 1, 2] (by decide) rfl
  exact W.iret (v := 0) hx hb hr (fun t ht hW => ⟨⟨_, ⟨20, g_3⟩, rfl, ⟨Or.inl ⟨rfl, hok⟩, by decide, by decide, hw4 hab⟩, by rw [ht]; exact hP9, va_K.moved hW.alike hK, hD9⟩, hS.F ht⟩) hS.2.2 d_Lw_draft_15
set_option maxHeartbeats 4000000 in
set_option maxRecDepth 100000 in
/-- the law: put -/
theorem lt_put (l : Launch) (dC : Nat → ClassId) (dI : Nat → Nat → Nat) (cT : Nat → ClassId) (sz : Nat) (ds : Nat) (dr : Nat) (sv : Nat) (rr : Nat) (len : Nat) (f : Nat → Int32) (x : Int32) (y : Int32) (z : Int32) (ou : Nat) (fo : Nat → Int64) (hfl : l.flags = pinnedFlags ++ [noTraceFlag]) (h20 : 20 ≤ len) (hlen : len ≤ 1000) (hab : AB f) : Met l y_Lw_put (Cond.codeWith y_Lw_put b_Lw_put 6 (Option.some Jvm.ClassFile.FieldType.int) [((0 : Nat), (12 : Nat), (15 : Nat), (13 : Nat)), ((0 : Nat), (12 : Nat), (19 : Nat), (27 : Nat))] :: BIG) ({ frames := 10, cells := 1, slots := 6, locals := 175 }) (va_Pc [.ref ds, .int x, .int y, .int z, .ref ou] (fun U => U.heap.size = sz ∧ va_P (dC, dI) vcl [(ds, .inr (0, [.ref dr, .ref sv])), (dr, .inr (2, [.ref rr, .int (nI len)])), (rr, .inl ((cT 0), 1000, .inl f)), (ou, .inl ((cT 1), 1, .inr (.inl fo)))] U.heap ∧ va_K (dC, dI) vcl (tyL cT) U ∧ va_D (fun _ => True) [(ds, .inr (0, [.ref dr, .ref sv])), (dr, .inr (2, [.ref rr, .int (nI len)])), (rr, .inl ((cT 0), 1000, .inl f)), (ou, .inl ((cT 1), 1, .inr (.inl fo)))] ∧ xs_T (fun _ => False) U U.heap)) (va_Qi (S := Nat × (Nat → Int32) × (Nat → Int64)) (fun rv9 u => match u with | (dl2, g, fo2) => 20 ≤ dl2 ∧ dl2 ≤ 1000 ∧ AB g) (fun u t => match u with | (dl2, g, fo2) => va_P (dC, dI) vcl [(ds, .inr (0, [.ref dr, .ref sv])), (dr, .inr (2, [.ref rr, .int (nI dl2)])), (rr, .inl ((cT 0), 1000, .inl g)), (ou, .inl ((cT 1), 1, .inr (.inl fo2)))] t.heap ∧ va_K (dC, dI) vcl (tyL cT) t ∧ va_D (va_A [(ds, .inr (0, [.ref dr, .ref sv])), (dr, .inr (2, [.ref rr, .int (nI len)])), (rr, .inl ((cT 0), 1000, .inl f)), (ou, .inl ((cT 1), 1, .inr (.inl fo)))] sz) [(ds, .inr (0, [.ref dr, .ref sv])), (dr, .inr (2, [.ref rr, .int (nI dl2)])), (rr, .inl ((cT 0), 1000, .inl g)), (ou, .inl ((cT 1), 1, .inr (.inl fo2)))]) (va_A [(ds, .inr (0, [.ref dr, .ref sv])), (dr, .inr (2, [.ref rr, .int (nI len)])), (rr, .inl ((cT 0), 1000, .inl f)), (ou, .inl ((cT 1), 1, .inr (.inl fo)))] sz)) 1 6 (va_A [(ds, .inr (0, [.ref dr, .ref sv])), (dr, .inr (2, [.ref rr, .int (nI len)])), (rr, .inl ((cT 0), 1000, .inl f)), (ou, .inl ((cT 1), 1, .inr (.inl fo)))] sz) := by
  refine xw_Met (cc := b_Lw_put) (maxL := 6) (ret := (Option.some Jvm.ClassFile.FieldType.int)) (hh := [((0 : Nat), (12 : Nat), (15 : Nat), (13 : Nat)), ((0 : Nat), (12 : Nat), (19 : Nat), (27 : Nat))]) (by decide) rfl ?_
  intro p e s m args below meth c s₁ B hml hv htab
  obtain ⟨hargs, hsz, hP, hK, hD0, hE⟩ := hv
  have hx := B.exec
  have hb := B.bytes
  have hr := B.returns
  have hts := atoms_spec (ws := (Cond.codeWith y_Lw_put b_Lw_put 6 (Option.some Jvm.ClassFile.FieldType.int) [((0 : Nat), (12 : Nat), (15 : Nat), (13 : Nat)), ((0 : Nat), (12 : Nat), (19 : Nat), (27 : Nat))] :: BIG)) B.pre
  have hg : ∀ w ∈ BIG, w.before _ s = true := fun w h => hts w (List.mem_cons_of_mem _ h)
  have hown : s.vm.findClass "DoorServerLaw" = some m.cls := findClass_of_methodNamed B.named
  have hlocks := B.notSynchronized
  subst hsz
  have hD := hD0.self (sz := s.heap.size)
  generalize hAe : va_A [(ds, .inr (0, [.ref dr, .ref sv])), (dr, .inr (2, [.ref rr, .int (nI len)])), (rr, .inl ((cT 0), 1000, .inl f)), (ou, .inl ((cT 1), 1, .inr (.inl fo)))] s.heap.size = A at hD ⊢
  have hA : ∀ q : Nat, s.heap.size ≤ q → A q := fun q h => by rw [← hAe]; exact Or.inr h
  have hS : va_S A s.heap s.heap [] := va_S.rf
  have hl := lv_entry ([.ref ds, .int x, .int y, .int z, .ref ou]) (n := 6) (Nat.le_of_ble_eq_true rfl)
  refine W.eq (g2 := entryFrame m (List.toArray [.ref ds, .int x, .int y, .int z, .ref ou]) 6) (by rw [hargs]) ?_
  rw [lg_entry_eq]
  generalize (lg_sl ([.ref ds, .int x, .int y, .int z, .ref ou]) ++ List.replicate (6 - (lg_sl ([.ref ds, .int x, .int y, .int z, .ref ou])).length) Slot.unset).toArray = ls at hl ⊢
  have hl : lv_has ls 6 [(0, .ref ds), (1, .int x), (2, .int y), (3, .int z), (4, .ref ou)] := hl
  change W p l e ({ frames := 10, cells := 1, slots := 6, locals := 175 } : Room) s m args below meth c s.heap [] 0 0 _ _
  have hP : va_P (dC, dI) vcl [(ds, .inr (0, [.ref dr, .ref sv])), (dr, .inr (2, [.ref rr, .int (nI len)])), (rr, .inl ((cT 0), 1000, .inl f)), (ou, .inl ((cT 1), 1, .inr (.inl fo)))] s.heap := hP
  have hEz := hE
  refine lv_aload hx hb d_Lw_put_0 (lv_at hl 4 rfl) ?_
  refine lv_iconst (v := 0) hx hb d_Lw_put_2 (by decide) ?_
  refine lv_aload_n hx hb d_Lw_put_3 rfl (lv_at hl 0 rfl) ?_
  refine lv_iload_n hx hb d_Lw_put_4 rfl (lv_at hl 1 rfl) ?_
  refine lv_iload_n hx hb d_Lw_put_5 rfl (lv_at hl 2 rfl) ?_
  refine lv_iload_n hx hb d_Lw_put_6 rfl (lv_at hl 3 rfl) ?_
  by_cases h1 : x < 0 ∨ 255 < x
  · skip
    have hPx := hP.sub (ws' := []) [] rfl
    refine xk_callV (C := "DoorServer") (As := [.int x, .int y, .int z]) (rest := [.int 0, .ref ou]) ⟨hx, hb, hml, hown, hg⟩ (x_put1 l hfl dC dI cT ds x y z (h1)) (cwV 3 hg (gI (List.forall_mem_append.mpr ⟨List.forall_mem_cons.mpr ⟨k_496, List.forall_mem_cons.mpr ⟨k_497, List.forall_mem_cons.mpr ⟨k_498, List.forall_mem_cons.mpr ⟨k_1, fun _ h => absurd h List.not_mem_nil⟩⟩⟩⟩, List.forall_mem_cons.mpr ⟨k_499, fun _ h => h⟩⟩)) rfl rfl rfl (by decide +kernel) ⟨Nat.le_of_ble_eq_true rfl, Nat.le_of_ble_eq_true rfl⟩) ⟨fun a U g mk q => ?_, va_recv (q0 := 0) (ci := 0) hK hP rfl rfl, fun U hU hW => ⟨rfl, ?_, ?_, va_K.moved hW.alike hK⟩⟩ rfl hl.1 rfl (Nat.le_of_ble_eq_true rfl) d_Lw_put_7 ⟨Nat.le_of_ble_eq_true rfl, Nat.le_of_ble_eq_true rfl⟩ (xk_catch1 htab (by decide) (by decide) hown (hg _ k_382) (va_Nw.use rfl hEz.1.1.1) (fun x9 H1 hz1 hz2 hz3 => ?_))
    · obtain ⟨q0, q1, q2, q3⟩ := q
      exact ⟨q0, q1.at (State.WarmedH.refl _) (fun _ _ _ => rfl) (fun _ h => h), q2, va_K.moved (Vm.Alike.refl U.vm) q3⟩
    · show xz_T _ U U.heap; rw [hU]; exact hEz.1.at hW (fun _ _ _ => rfl) (fun _ h => h)
    · show va_P _ _ _ U.heap; rw [hU]; exact hPx
    · refine W.eq (g2 := F0 m 15 ls [.ref x9]) rfl ?_
      refine lv_astore (lv' := [(5, .ref x9), (0, .ref ds), (1, .int x), (2, .int y), (3, .int z), (4, .ref ou)]) hx hb d_Lw_put_15 hl (by decide) rfl (fun ls hl => ?_)
      refine lv_iconst (v := 1) hx hb d_Lw_put_17 (by decide) ?_
      have hP : va_P (dC, dI) vcl [(ds, .inr (0, [.ref dr, .ref sv])), (dr, .inr (2, [.ref rr, .int (nI len)])), (rr, .inl ((cT 0), 1000, .inl f)), (ou, .inl ((cT 1), 1, .inr (.inl fo)))] H1 := hP.kept (fun k q hk => hz3 q.1 (hP k q hk).lt)
      have hP9 := hP.sub (ws' := [(ds, .inr (0, [.ref dr, .ref sv])), (dr, .inr (2, [.ref rr, .int (nI len)])), (rr, .inl ((cT 0), 1000, .inl f)), (ou, .inl ((cT 1), 1, .inr (.inl fo)))]) [0, 1, 2, 3] rfl
      have hD9 := hD.sub (ws' := [(ds, .inr (0, [.ref dr, .ref sv])), (dr, .inr (2, [.ref rr, .int (nI len)])), (rr, .inl ((cT 0), 1000, .inl f)), (ou, .inl ((cT 1), 1, .inr (.inl fo)))]) [0, 1, 2, 3] (by decide) rfl
      exact W.iret (v := 1) hx hb hr (fun t ht hW => ⟨⟨_, ⟨len, f, fo⟩, rfl, ⟨h20, hlen, hab⟩, by rw [ht]; exact hP9, va_K.moved hW.alike hK, hD9⟩, by rw [ht]; exact hz2, fun q h4 _ => by rw [ht]; exact hz3 q h4⟩) (fun q h => by cases h) d_Lw_put_18
  have h1a : ¬ (x < 0) := fun h9 => h1 (Or.inl h9)
  have h1b : ¬ (255 < x) := fun h9 => h1 (Or.inr h9)
  by_cases h2 : z < 0 ∨ 255 < z
  · skip
    have hPx := hP.sub (ws' := []) [] rfl
    refine xk_callV (C := "DoorServer") (As := [.int x, .int y, .int z]) (rest := [.int 0, .ref ou]) ⟨hx, hb, hml, hown, hg⟩ (x_put2 l hfl dC dI cT ds x y z (h1a) (h1b) (h2)) (cwV 3 hg (gI (List.forall_mem_append.mpr ⟨List.forall_mem_cons.mpr ⟨k_496, List.forall_mem_cons.mpr ⟨k_497, List.forall_mem_cons.mpr ⟨k_498, List.forall_mem_cons.mpr ⟨k_1, fun _ h => absurd h List.not_mem_nil⟩⟩⟩⟩, List.forall_mem_cons.mpr ⟨k_499, fun _ h => h⟩⟩)) rfl rfl rfl (by decide +kernel) ⟨Nat.le_of_ble_eq_true rfl, Nat.le_of_ble_eq_true rfl⟩) ⟨fun a U g mk q => ?_, va_recv (q0 := 0) (ci := 0) hK hP rfl rfl, fun U hU hW => ⟨rfl, ?_, ?_, va_K.moved hW.alike hK⟩⟩ rfl hl.1 rfl (Nat.le_of_ble_eq_true rfl) d_Lw_put_7 ⟨Nat.le_of_ble_eq_true rfl, Nat.le_of_ble_eq_true rfl⟩ (xk_catch1 htab (by decide) (by decide) hown (hg _ k_382) (va_Nw.use rfl hEz.1.1.1) (fun x9 H1 hz1 hz2 hz3 => ?_))
    · obtain ⟨q0, q1, q2, q3⟩ := q
      exact ⟨q0, q1.at (State.WarmedH.refl _) (fun _ _ _ => rfl) (fun _ h => h), q2, va_K.moved (Vm.Alike.refl U.vm) q3⟩
    · show xz_T _ U U.heap; rw [hU]; exact hEz.1.at hW (fun _ _ _ => rfl) (fun _ h => h)
    · show va_P _ _ _ U.heap; rw [hU]; exact hPx
    · refine W.eq (g2 := F0 m 15 ls [.ref x9]) rfl ?_
      refine lv_astore (lv' := [(5, .ref x9), (0, .ref ds), (1, .int x), (2, .int y), (3, .int z), (4, .ref ou)]) hx hb d_Lw_put_15 hl (by decide) rfl (fun ls hl => ?_)
      refine lv_iconst (v := 1) hx hb d_Lw_put_17 (by decide) ?_
      have hP : va_P (dC, dI) vcl [(ds, .inr (0, [.ref dr, .ref sv])), (dr, .inr (2, [.ref rr, .int (nI len)])), (rr, .inl ((cT 0), 1000, .inl f)), (ou, .inl ((cT 1), 1, .inr (.inl fo)))] H1 := hP.kept (fun k q hk => hz3 q.1 (hP k q hk).lt)
      have hP9 := hP.sub (ws' := [(ds, .inr (0, [.ref dr, .ref sv])), (dr, .inr (2, [.ref rr, .int (nI len)])), (rr, .inl ((cT 0), 1000, .inl f)), (ou, .inl ((cT 1), 1, .inr (.inl fo)))]) [0, 1, 2, 3] rfl
      have hD9 := hD.sub (ws' := [(ds, .inr (0, [.ref dr, .ref sv])), (dr, .inr (2, [.ref rr, .int (nI len)])), (rr, .inl ((cT 0), 1000, .inl f)), (ou, .inl ((cT 1), 1, .inr (.inl fo)))]) [0, 1, 2, 3] (by decide) rfl
      exact W.iret (v := 1) hx hb hr (fun t ht hW => ⟨⟨_, ⟨len, f, fo⟩, rfl, ⟨h20, hlen, hab⟩, by rw [ht]; exact hP9, va_K.moved hW.alike hK, hD9⟩, by rw [ht]; exact hz2, fun q h4 _ => by rw [ht]; exact hz3 q h4⟩) (fun q h => by cases h) d_Lw_put_18
  have h2a : ¬ (z < 0) := fun h9 => h2 (Or.inl h9)
  have h2b : ¬ (255 < z) := fun h9 => h2 (Or.inr h9)
  by_cases h3 : y < 0 ∨ 100 < y
  · skip
    have hPx := hP.sub (ws' := []) [] rfl
    refine xk_callV (C := "DoorServer") (As := [.int x, .int y, .int z]) (rest := [.int 0, .ref ou]) ⟨hx, hb, hml, hown, hg⟩ (x_put3 l hfl dC dI cT ds x y z (h1a) (h1b) (h2a) (h2b) (h3)) (cwV 3 hg (gI (List.forall_mem_append.mpr ⟨List.forall_mem_cons.mpr ⟨k_496, List.forall_mem_cons.mpr ⟨k_497, List.forall_mem_cons.mpr ⟨k_498, List.forall_mem_cons.mpr ⟨k_1, fun _ h => absurd h List.not_mem_nil⟩⟩⟩⟩, List.forall_mem_cons.mpr ⟨k_499, fun _ h => h⟩⟩)) rfl rfl rfl (by decide +kernel) ⟨Nat.le_of_ble_eq_true rfl, Nat.le_of_ble_eq_true rfl⟩) ⟨fun a U g mk q => ?_, va_recv (q0 := 0) (ci := 0) hK hP rfl rfl, fun U hU hW => ⟨rfl, ?_, ?_, va_K.moved hW.alike hK⟩⟩ rfl hl.1 rfl (Nat.le_of_ble_eq_true rfl) d_Lw_put_7 ⟨Nat.le_of_ble_eq_true rfl, Nat.le_of_ble_eq_true rfl⟩ (xk_catch1 htab (by decide) (by decide) hown (hg _ k_382) (va_Nw.use rfl hEz.1.1.1) (fun x9 H1 hz1 hz2 hz3 => ?_))
    · obtain ⟨q0, q1, q2, q3⟩ := q
      exact ⟨q0, q1.at (State.WarmedH.refl _) (fun _ _ _ => rfl) (fun _ h => h), q2, va_K.moved (Vm.Alike.refl U.vm) q3⟩
    · show xz_T _ U U.heap; rw [hU]; exact hEz.1.at hW (fun _ _ _ => rfl) (fun _ h => h)
    · show va_P _ _ _ U.heap; rw [hU]; exact hPx
    · refine W.eq (g2 := F0 m 15 ls [.ref x9]) rfl ?_
      refine lv_astore (lv' := [(5, .ref x9), (0, .ref ds), (1, .int x), (2, .int y), (3, .int z), (4, .ref ou)]) hx hb d_Lw_put_15 hl (by decide) rfl (fun ls hl => ?_)
      refine lv_iconst (v := 1) hx hb d_Lw_put_17 (by decide) ?_
      have hP : va_P (dC, dI) vcl [(ds, .inr (0, [.ref dr, .ref sv])), (dr, .inr (2, [.ref rr, .int (nI len)])), (rr, .inl ((cT 0), 1000, .inl f)), (ou, .inl ((cT 1), 1, .inr (.inl fo)))] H1 := hP.kept (fun k q hk => hz3 q.1 (hP k q hk).lt)
      have hP9 := hP.sub (ws' := [(ds, .inr (0, [.ref dr, .ref sv])), (dr, .inr (2, [.ref rr, .int (nI len)])), (rr, .inl ((cT 0), 1000, .inl f)), (ou, .inl ((cT 1), 1, .inr (.inl fo)))]) [0, 1, 2, 3] rfl
      have hD9 := hD.sub (ws' := [(ds, .inr (0, [.ref dr, .ref sv])), (dr, .inr (2, [.ref rr, .int (nI len)])), (rr, .inl ((cT 0), 1000, .inl f)), (ou, .inl ((cT 1), 1, .inr (.inl fo)))]) [0, 1, 2, 3] (by decide) rfl
      exact W.iret (v := 1) hx hb hr (fun t ht hW => ⟨⟨_, ⟨len, f, fo⟩, rfl, ⟨h20, hlen, hab⟩, by rw [ht]; exact hP9, va_K.moved hW.alike hK, hD9⟩, by rw [ht]; exact hz2, fun q h4 _ => by rw [ht]; exact hz3 q h4⟩) (fun q h => by cases h) d_Lw_put_18
  have h3a : ¬ (y < 0) := fun h9 => h3 (Or.inl h9)
  have h3b : ¬ (100 < y) := fun h9 => h3 (Or.inr h9)
  obtain ⟨k, hk, rfl⟩ := rng_0 (M := 100) (n := 100) (by decide) h3a h3b
  by_cases hr9 : 1000 < len + 2 + k
  · skip
    have hPx := hP.sub (ws' := [(ds, .inr (0, [.ref dr, .ref sv])), (dr, .inr (2, [.ref rr, .int (nI len)])), (rr, .inl ((cT 0), 1000, .inl f))]) [0, 1, 2] rfl
    have hDx := (hD.sub (ws' := [(ds, .inr (0, [.ref dr, .ref sv])), (dr, .inr (2, [.ref rr, .int (nI len)])), (rr, .inl ((cT 0), 1000, .inl f))]) [0, 1, 2] (by decide) rfl).weaken (B := fun _ => True) (fun _ _ _ _ => trivial)
    refine xk_callV (C := "DoorServer") (As := [.int x, .int (nI k), .int z]) (rest := [.int 0, .ref ou]) ⟨hx, hb, hml, hown, hg⟩ (x_put4 l hfl dC dI cT ds dr sv rr len f x k z (hlen) (h1a) (h1b) (h2a) (h2b) (hk) (hr9)) (cwV 3 hg (gI (List.forall_mem_append.mpr ⟨List.forall_mem_cons.mpr ⟨k_496, List.forall_mem_cons.mpr ⟨k_497, List.forall_mem_cons.mpr ⟨k_498, List.forall_mem_cons.mpr ⟨k_1, fun _ h => absurd h List.not_mem_nil⟩⟩⟩⟩, List.forall_mem_cons.mpr ⟨k_499, fun _ h => h⟩⟩)) rfl rfl rfl (by decide +kernel) ⟨Nat.le_of_ble_eq_true rfl, Nat.le_of_ble_eq_true rfl⟩) ⟨fun a U g mk q => ?_, va_recv (q0 := 0) (ci := 0) hK hP rfl rfl, fun U hU hW => ⟨rfl, ?_, ?_, hDx, va_K.moved hW.alike hK⟩⟩ rfl hl.1 rfl (Nat.le_of_ble_eq_true rfl) d_Lw_put_7 ⟨Nat.le_of_ble_eq_true rfl, Nat.le_of_ble_eq_true rfl⟩ (xk_catch2 htab (by decide) (by decide) (by decide) (by decide) hown (hg _ k_382) hEz.2.2 (hg _ k_495) (va_Nw.use rfl hEz.2.1) (fun x9 H1 hz1 hz2 hz3 => ?_))
    · obtain ⟨q0, q1, q2, q4, q3⟩ := q
      exact ⟨q0, q1.at (State.WarmedH.refl _) (fun _ _ _ => rfl) (fun _ h => h), q2, q4, va_K.moved (Vm.Alike.refl U.vm) q3⟩
    · show xs_T _ U U.heap; rw [hU]; exact hEz.at hW (fun _ _ _ => rfl) (fun _ h => h)
    · show va_P _ _ _ U.heap; rw [hU]; exact hPx
    · refine W.eq (g2 := F0 m 19 ls [.ref x9]) rfl ?_
      refine lv_astore (lv' := [(5, .ref x9), (0, .ref ds), (1, .int x), (2, .int (nI k)), (3, .int z), (4, .ref ou)]) hx hb d_Lw_put_19 hl (by decide) rfl (fun ls hl => ?_)
      refine lv_iconst (v := 2) hx hb d_Lw_put_21 (by decide) ?_
      have hP : va_P (dC, dI) vcl [(ds, .inr (0, [.ref dr, .ref sv])), (dr, .inr (2, [.ref rr, .int (nI len)])), (rr, .inl ((cT 0), 1000, .inl f)), (ou, .inl ((cT 1), 1, .inr (.inl fo)))] H1 := hP.kept (fun k q hk => hz3 q.1 (hP k q hk).lt)
      have hP9 := hP.sub (ws' := [(ds, .inr (0, [.ref dr, .ref sv])), (dr, .inr (2, [.ref rr, .int (nI len)])), (rr, .inl ((cT 0), 1000, .inl f)), (ou, .inl ((cT 1), 1, .inr (.inl fo)))]) [0, 1, 2, 3] rfl
      have hD9 := hD.sub (ws' := [(ds, .inr (0, [.ref dr, .ref sv])), (dr, .inr (2, [.ref rr, .int (nI len)])), (rr, .inl ((cT 0), 1000, .inl f)), (ou, .inl ((cT 1), 1, .inr (.inl fo)))]) [0, 1, 2, 3] (by decide) rfl
      exact W.iret (v := 2) hx hb hr (fun t ht hW => ⟨⟨_, ⟨len, f, fo⟩, rfl, ⟨h20, hlen, hab⟩, by rw [ht]; exact hP9, va_K.moved hW.alike hK, hD9⟩, by rw [ht]; exact hz2, fun q h4 _ => by rw [ht]; exact hz3 q h4⟩) (fun q h => by cases h) d_Lw_put_22
  have hr8 : len + 2 + k ≤ 1000 := by omega
  have hPc := hP.sub (ws' := [(ds, .inr (0, [.ref dr, .ref sv])), (dr, .inr (2, [.ref rr, .int (nI len)])), (rr, .inl ((cT 0), 1000, .inl f))]) [0, 1, 2] rfl
  have hDc := hD.sub (ws' := [(ds, .inr (0, [.ref dr, .ref sv])), (dr, .inr (2, [.ref rr, .int (nI len)])), (rr, .inl ((cT 0), 1000, .inl f))]) [0, 1, 2] (by decide) rfl
  have hFc := va_free (wc := [(ds, .inr (0, [.ref dr, .ref sv])), (dr, .inr (2, [.ref rr, .int (nI len)])), (rr, .inl ((cT 0), 1000, .inl f))]) hD hS hA [0, 1, 2] rfl
  refine va_calli (va_runV (C := "DoorServer") (As := [.int x, .int (nI k), .int z]) (rest := [.int 0, .ref ou]) ⟨hx, hb, hml, hown, hg⟩ (c_put l dC dI cT s.heap.size ds dr sv rr len f x k z (h1a) (h1b) (hk) (h2a) (h2b) (hr8)) (cwV 3 hg (gI (List.forall_mem_append.mpr ⟨List.forall_mem_cons.mpr ⟨k_496, List.forall_mem_cons.mpr ⟨k_497, List.forall_mem_cons.mpr ⟨k_498, List.forall_mem_cons.mpr ⟨k_1, fun _ h => absurd h List.not_mem_nil⟩⟩⟩⟩, List.forall_mem_cons.mpr ⟨k_499, fun _ h => h⟩⟩)) rfl rfl rfl (by decide +kernel) ⟨Nat.le_of_ble_eq_true rfl, Nat.le_of_ble_eq_true rfl⟩) ⟨fun a U g mk q => by obtain ⟨q0, q1, qP, qK, qD⟩ := q; exact ⟨q0, q1, qP, va_K.moved (u := U) (U := U.calling g mk a) (Vm.Alike.refl U.vm) qK, qD⟩, va_recv (q0 := 0) (ci := 0) hK hP rfl rfl, fun U hU hW => ⟨rfl, by rw [hU], by rw [hU]; exact hPc, va_K.moved hW.alike hK, hDc.weaken (fun _ _ _ _ => trivial)⟩⟩ rfl rfl hl.1 rfl (lv_room (Nat.le_of_ble_eq_true rfl)) d_Lw_put_7 ⟨Nat.le_of_ble_eq_true rfl, Nat.le_of_ble_eq_true rfl⟩) hS (fun q _ h => hFc q h) hFc (fun rv9 u t H1 locs ht hvm hw hB hz1 hk1 hS => ?_)
  obtain ⟨g_5, rfl⟩ : ∃ z, z = u := ⟨_, rfl⟩
  try dsimp only at hw hB
  obtain ⟨hP1, hK1, hD1⟩ := hB
  rw [ht] at hP1
  obtain ⟨rfl, hw⟩ := hw
  obtain ⟨hP, hD⟩ := va_join (wr := [(ou, .inl ((cT 1), 1, .inr (.inl fo)))]) (w1 := [(ds, .inr (0, [.ref dr, .ref sv])), (dr, .inr (2, [.ref rr, .int (nI (len + 2 + k))])), (rr, .inl ((cT 0), 1000, .inl g_5))]) hP hD [0, 1, 2] [3] rfl rfl (by decide) (by decide) hk1 hFc hP1 hD1
  have hw6 := hw
  clear hPc hDc hFc hz1 hk1 hP1 hK1 hD1
  generalize H1 = H at hP hS ⊢
  have hP : va_P (dC, dI) vcl [(ou, .inl ((cT 1), 1, .inr (.inl fo))), (ds, .inr (0, [.ref dr, .ref sv])), (dr, .inr (2, [.ref rr, .int (nI (len + 2 + k))])), (rr, .inl ((cT 0), 1000, .inl g_5))] H := hP
  have hD : va_D A [(ou, .inl ((cT 1), 1, .inr (.inl fo))), (ds, .inr (0, [.ref dr, .ref sv])), (dr, .inr (2, [.ref rr, .int (nI (len + 2 + k))])), (rr, .inl ((cT 0), 1000, .inl g_5))] := hD
  refine lv_i2l (v := (nI (len + 2 + k)).toInt64) hx hb d_Lw_put_10 rfl ?_
  refine va_last hx hb hK hP hD hS 0 1 rfl rfl (i := 0) (vp_in_nI (n := 0) (N := 1) (by decide) (by decide)) d_Lw_put_11 (fun H locs hP hD hS => ?_)
  have hP : va_P (dC, dI) vcl [(ou, .inl ((cT 1), 1, .inr (.inl (vp_updL fo (0 : Int32).toNatClampNeg ((nI (len + 2 + k)).toInt64))))), (ds, .inr (0, [.ref dr, .ref sv])), (dr, .inr (2, [.ref rr, .int (nI (len + 2 + k))])), (rr, .inl ((cT 0), 1000, .inl g_5))] H := hP
  have hD : va_D A [(ou, .inl ((cT 1), 1, .inr (.inl (vp_updL fo (0 : Int32).toNatClampNeg ((nI (len + 2 + k)).toInt64))))), (ds, .inr (0, [.ref dr, .ref sv])), (dr, .inr (2, [.ref rr, .int (nI (len + 2 + k))])), (rr, .inl ((cT 0), 1000, .inl g_5))] := hD
  refine lv_goto (tgt := 23) hx hb d_Lw_put_12 (by decide) ?_
  refine lv_iconst (v := 0) hx hb d_Lw_put_23 (by decide) ?_
  refine W.widen (k := 1) (n := 6) (Nat.le_of_ble_eq_true rfl) (Nat.le_of_ble_eq_true rfl) ?_
  have hP9 := hP.sub (ws' := [(ds, .inr (0, [.ref dr, .ref sv])), (dr, .inr (2, [.ref rr, .int (nI (len + 2 + k))])), (rr, .inl ((cT 0), 1000, .inl g_5)), (ou, .inl ((cT 1), 1, .inr (.inl (vp_updL fo (0 : Int32).toNatClampNeg ((nI (len + 2 + k)).toInt64)))))]) [1, 2, 3, 0] rfl
  have hD9 := hD.sub (ws' := [(ds, .inr (0, [.ref dr, .ref sv])), (dr, .inr (2, [.ref rr, .int (nI (len + 2 + k))])), (rr, .inl ((cT 0), 1000, .inl g_5)), (ou, .inl ((cT 1), 1, .inr (.inl (vp_updL fo (0 : Int32).toNatClampNeg ((nI (len + 2 + k)).toInt64)))))]) [1, 2, 3, 0] (by decide) rfl
  exact W.iret (v := 0) hx hb hr (fun t ht hW => ⟨⟨_, ⟨len + 2 + k, g_5, vp_updL fo (0 : Int32).toNatClampNeg ((nI (len + 2 + k)).toInt64)⟩, rfl, ⟨by omega, by omega, hw6 hab⟩, by rw [ht]; exact hP9, va_K.moved hW.alike hK, hD9⟩, hS.F ht⟩) hS.2.2 d_Lw_put_24
set_option maxHeartbeats 4000000 in
set_option maxRecDepth 100000 in
/-- the law: number -/
theorem lt_number (l : Launch) (dC : Nat → ClassId) (dI : Nat → Nat → Nat) (cT : Nat → ClassId) (sz : Nat) (ds : Nat) (dr : Nat) (sv : Nat) (rr : Nat) (len : Nat) (f : Nat → Int32) (x : Int32) (y : Int32) (ou : Nat) (fo : Nat → Int64) (hfl : l.flags = pinnedFlags ++ [noTraceFlag]) (h20 : 20 ≤ len) (hlen : len ≤ 1000) (hab : AB f) : Met l y_Lw_number (Cond.codeWith y_Lw_number b_Lw_number 5 (Option.some Jvm.ClassFile.FieldType.int) [((0 : Nat), (10 : Nat), (13 : Nat), (13 : Nat)), ((0 : Nat), (10 : Nat), (17 : Nat), (27 : Nat))] :: BIG) ({ frames := 10, cells := 1, slots := 6, locals := 175 }) (va_Pc [.ref ds, .int x, .int y, .ref ou] (fun U => U.heap.size = sz ∧ va_P (dC, dI) vcl [(ds, .inr (0, [.ref dr, .ref sv])), (dr, .inr (2, [.ref rr, .int (nI len)])), (rr, .inl ((cT 0), 1000, .inl f)), (ou, .inl ((cT 1), 1, .inr (.inl fo)))] U.heap ∧ va_K (dC, dI) vcl (tyL cT) U ∧ va_D (fun _ => True) [(ds, .inr (0, [.ref dr, .ref sv])), (dr, .inr (2, [.ref rr, .int (nI len)])), (rr, .inl ((cT 0), 1000, .inl f)), (ou, .inl ((cT 1), 1, .inr (.inl fo)))] ∧ xs_T (fun _ => False) U U.heap)) (va_Qi (S := Nat × (Nat → Int32) × (Nat → Int64)) (fun rv9 u => match u with | (dl2, g, fo2) => 20 ≤ dl2 ∧ dl2 ≤ 1000 ∧ AB g) (fun u t => match u with | (dl2, g, fo2) => va_P (dC, dI) vcl [(ds, .inr (0, [.ref dr, .ref sv])), (dr, .inr (2, [.ref rr, .int (nI dl2)])), (rr, .inl ((cT 0), 1000, .inl g)), (ou, .inl ((cT 1), 1, .inr (.inl fo2)))] t.heap ∧ va_K (dC, dI) vcl (tyL cT) t ∧ va_D (va_A [(ds, .inr (0, [.ref dr, .ref sv])), (dr, .inr (2, [.ref rr, .int (nI len)])), (rr, .inl ((cT 0), 1000, .inl f)), (ou, .inl ((cT 1), 1, .inr (.inl fo)))] sz) [(ds, .inr (0, [.ref dr, .ref sv])), (dr, .inr (2, [.ref rr, .int (nI dl2)])), (rr, .inl ((cT 0), 1000, .inl g)), (ou, .inl ((cT 1), 1, .inr (.inl fo2)))]) (va_A [(ds, .inr (0, [.ref dr, .ref sv])), (dr, .inr (2, [.ref rr, .int (nI len)])), (rr, .inl ((cT 0), 1000, .inl f)), (ou, .inl ((cT 1), 1, .inr (.inl fo)))] sz)) 1 6 (va_A [(ds, .inr (0, [.ref dr, .ref sv])), (dr, .inr (2, [.ref rr, .int (nI len)])), (rr, .inl ((cT 0), 1000, .inl f)), (ou, .inl ((cT 1), 1, .inr (.inl fo)))] sz) := by
  refine xw_Met (cc := b_Lw_number) (maxL := 5) (ret := (Option.some Jvm.ClassFile.FieldType.int)) (hh := [((0 : Nat), (10 : Nat), (13 : Nat), (13 : Nat)), ((0 : Nat), (10 : Nat), (17 : Nat), (27 : Nat))]) (by decide) rfl ?_
  intro p e s m args below meth c s₁ B hml hv htab
  obtain ⟨hargs, hsz, hP, hK, hD0, hE⟩ := hv
  have hx := B.exec
  have hb := B.bytes
  have hr := B.returns
  have hts := atoms_spec (ws := (Cond.codeWith y_Lw_number b_Lw_number 5 (Option.some Jvm.ClassFile.FieldType.int) [((0 : Nat), (10 : Nat), (13 : Nat), (13 : Nat)), ((0 : Nat), (10 : Nat), (17 : Nat), (27 : Nat))] :: BIG)) B.pre
  have hg : ∀ w ∈ BIG, w.before _ s = true := fun w h => hts w (List.mem_cons_of_mem _ h)
  have hown : s.vm.findClass "DoorServerLaw" = some m.cls := findClass_of_methodNamed B.named
  have hlocks := B.notSynchronized
  subst hsz
  have hD := hD0.self (sz := s.heap.size)
  generalize hAe : va_A [(ds, .inr (0, [.ref dr, .ref sv])), (dr, .inr (2, [.ref rr, .int (nI len)])), (rr, .inl ((cT 0), 1000, .inl f)), (ou, .inl ((cT 1), 1, .inr (.inl fo)))] s.heap.size = A at hD ⊢
  have hA : ∀ q : Nat, s.heap.size ≤ q → A q := fun q h => by rw [← hAe]; exact Or.inr h
  have hS : va_S A s.heap s.heap [] := va_S.rf
  have hl := lv_entry ([.ref ds, .int x, .int y, .ref ou]) (n := 5) (Nat.le_of_ble_eq_true rfl)
  refine W.eq (g2 := entryFrame m (List.toArray [.ref ds, .int x, .int y, .ref ou]) 5) (by rw [hargs]) ?_
  rw [lg_entry_eq]
  generalize (lg_sl ([.ref ds, .int x, .int y, .ref ou]) ++ List.replicate (5 - (lg_sl ([.ref ds, .int x, .int y, .ref ou])).length) Slot.unset).toArray = ls at hl ⊢
  have hl : lv_has ls 5 [(0, .ref ds), (1, .int x), (2, .int y), (3, .ref ou)] := hl
  change W p l e ({ frames := 10, cells := 1, slots := 6, locals := 175 } : Room) s m args below meth c s.heap [] 0 0 _ _
  have hP : va_P (dC, dI) vcl [(ds, .inr (0, [.ref dr, .ref sv])), (dr, .inr (2, [.ref rr, .int (nI len)])), (rr, .inl ((cT 0), 1000, .inl f)), (ou, .inl ((cT 1), 1, .inr (.inl fo)))] s.heap := hP
  have hEz := hE
  refine lv_aload_n hx hb d_Lw_number_0 rfl (lv_at hl 3 rfl) ?_
  refine lv_iconst (v := 0) hx hb d_Lw_number_1 (by decide) ?_
  refine lv_aload_n hx hb d_Lw_number_2 rfl (lv_at hl 0 rfl) ?_
  refine lv_iload_n hx hb d_Lw_number_3 rfl (lv_at hl 1 rfl) ?_
  refine lv_iload_n hx hb d_Lw_number_4 rfl (lv_at hl 2 rfl) ?_
  by_cases h1 : x < 0 ∨ 255 < x
  · skip
    have hPx := hP.sub (ws' := []) [] rfl
    refine xk_callV (C := "DoorServer") (As := [.int x, .int y]) (rest := [.int 0, .ref ou]) ⟨hx, hb, hml, hown, hg⟩ (x_number l hfl dC dI cT ds x y (h1)) (cwV 2 hg (gI (List.forall_mem_append.mpr ⟨List.forall_mem_cons.mpr ⟨k_535, List.forall_mem_cons.mpr ⟨k_536, List.forall_mem_cons.mpr ⟨k_537, List.forall_mem_cons.mpr ⟨k_1, fun _ h => absurd h List.not_mem_nil⟩⟩⟩⟩, List.forall_mem_cons.mpr ⟨k_538, fun _ h => h⟩⟩)) rfl rfl rfl (by decide +kernel) ⟨Nat.le_of_ble_eq_true rfl, Nat.le_of_ble_eq_true rfl⟩) ⟨fun a U g mk q => ?_, va_recv (q0 := 0) (ci := 0) hK hP rfl rfl, fun U hU hW => ⟨rfl, ?_, ?_, va_K.moved hW.alike hK⟩⟩ rfl hl.1 rfl (Nat.le_of_ble_eq_true rfl) d_Lw_number_5 ⟨Nat.le_of_ble_eq_true rfl, Nat.le_of_ble_eq_true rfl⟩ (xk_catch1 htab (by decide) (by decide) hown (hg _ k_382) (va_Nw.use rfl hEz.1.1.1) (fun x9 H1 hz1 hz2 hz3 => ?_))
    · obtain ⟨q0, q1, q2, q3⟩ := q
      exact ⟨q0, q1.at (State.WarmedH.refl _) (fun _ _ _ => rfl) (fun _ h => h), q2, va_K.moved (Vm.Alike.refl U.vm) q3⟩
    · show xz_T _ U U.heap; rw [hU]; exact hEz.1.at hW (fun _ _ _ => rfl) (fun _ h => h)
    · show va_P _ _ _ U.heap; rw [hU]; exact hPx
    · refine W.eq (g2 := F0 m 13 ls [.ref x9]) rfl ?_
      refine lv_astore (lv' := [(4, .ref x9), (0, .ref ds), (1, .int x), (2, .int y), (3, .ref ou)]) hx hb d_Lw_number_13 hl (by decide) rfl (fun ls hl => ?_)
      refine lv_iconst (v := 1) hx hb d_Lw_number_15 (by decide) ?_
      have hP : va_P (dC, dI) vcl [(ds, .inr (0, [.ref dr, .ref sv])), (dr, .inr (2, [.ref rr, .int (nI len)])), (rr, .inl ((cT 0), 1000, .inl f)), (ou, .inl ((cT 1), 1, .inr (.inl fo)))] H1 := hP.kept (fun k q hk => hz3 q.1 (hP k q hk).lt)
      have hP9 := hP.sub (ws' := [(ds, .inr (0, [.ref dr, .ref sv])), (dr, .inr (2, [.ref rr, .int (nI len)])), (rr, .inl ((cT 0), 1000, .inl f)), (ou, .inl ((cT 1), 1, .inr (.inl fo)))]) [0, 1, 2, 3] rfl
      have hD9 := hD.sub (ws' := [(ds, .inr (0, [.ref dr, .ref sv])), (dr, .inr (2, [.ref rr, .int (nI len)])), (rr, .inl ((cT 0), 1000, .inl f)), (ou, .inl ((cT 1), 1, .inr (.inl fo)))]) [0, 1, 2, 3] (by decide) rfl
      exact W.iret (v := 1) hx hb hr (fun t ht hW => ⟨⟨_, ⟨len, f, fo⟩, rfl, ⟨h20, hlen, hab⟩, by rw [ht]; exact hP9, va_K.moved hW.alike hK, hD9⟩, by rw [ht]; exact hz2, fun q h4 _ => by rw [ht]; exact hz3 q h4⟩) (fun q h => by cases h) d_Lw_number_16
  have h1a : ¬ (x < 0) := fun h9 => h1 (Or.inl h9)
  have h1b : ¬ (255 < x) := fun h9 => h1 (Or.inr h9)
  by_cases hr9 : 1000 < len + 2 + 4
  · skip
    have hPx := hP.sub (ws' := [(ds, .inr (0, [.ref dr, .ref sv])), (dr, .inr (2, [.ref rr, .int (nI len)])), (rr, .inl ((cT 0), 1000, .inl f))]) [0, 1, 2] rfl
    have hDx := (hD.sub (ws' := [(ds, .inr (0, [.ref dr, .ref sv])), (dr, .inr (2, [.ref rr, .int (nI len)])), (rr, .inl ((cT 0), 1000, .inl f))]) [0, 1, 2] (by decide) rfl).weaken (B := fun _ => True) (fun _ _ _ _ => trivial)
    refine xk_callV (C := "DoorServer") (As := [.int x, .int y]) (rest := [.int 0, .ref ou]) ⟨hx, hb, hml, hown, hg⟩ (x_number2 l hfl dC dI cT ds dr sv rr len f x y (hlen) (h1a) (h1b) (hr9)) (cwV 2 hg (gI (List.forall_mem_append.mpr ⟨List.forall_mem_cons.mpr ⟨k_535, List.forall_mem_cons.mpr ⟨k_536, List.forall_mem_cons.mpr ⟨k_537, List.forall_mem_cons.mpr ⟨k_1, fun _ h => absurd h List.not_mem_nil⟩⟩⟩⟩, List.forall_mem_cons.mpr ⟨k_538, fun _ h => h⟩⟩)) rfl rfl rfl (by decide +kernel) ⟨Nat.le_of_ble_eq_true rfl, Nat.le_of_ble_eq_true rfl⟩) ⟨fun a U g mk q => ?_, va_recv (q0 := 0) (ci := 0) hK hP rfl rfl, fun U hU hW => ⟨rfl, ?_, ?_, hDx, va_K.moved hW.alike hK⟩⟩ rfl hl.1 rfl (Nat.le_of_ble_eq_true rfl) d_Lw_number_5 ⟨Nat.le_of_ble_eq_true rfl, Nat.le_of_ble_eq_true rfl⟩ (xk_catch2 htab (by decide) (by decide) (by decide) (by decide) hown (hg _ k_382) hEz.2.2 (hg _ k_495) (va_Nw.use rfl hEz.2.1) (fun x9 H1 hz1 hz2 hz3 => ?_))
    · obtain ⟨q0, q1, q2, q4, q3⟩ := q
      exact ⟨q0, q1.at (State.WarmedH.refl _) (fun _ _ _ => rfl) (fun _ h => h), q2, q4, va_K.moved (Vm.Alike.refl U.vm) q3⟩
    · show xs_T _ U U.heap; rw [hU]; exact hEz.at hW (fun _ _ _ => rfl) (fun _ h => h)
    · show va_P _ _ _ U.heap; rw [hU]; exact hPx
    · refine W.eq (g2 := F0 m 17 ls [.ref x9]) rfl ?_
      refine lv_astore (lv' := [(4, .ref x9), (0, .ref ds), (1, .int x), (2, .int y), (3, .ref ou)]) hx hb d_Lw_number_17 hl (by decide) rfl (fun ls hl => ?_)
      refine lv_iconst (v := 2) hx hb d_Lw_number_19 (by decide) ?_
      have hP : va_P (dC, dI) vcl [(ds, .inr (0, [.ref dr, .ref sv])), (dr, .inr (2, [.ref rr, .int (nI len)])), (rr, .inl ((cT 0), 1000, .inl f)), (ou, .inl ((cT 1), 1, .inr (.inl fo)))] H1 := hP.kept (fun k q hk => hz3 q.1 (hP k q hk).lt)
      have hP9 := hP.sub (ws' := [(ds, .inr (0, [.ref dr, .ref sv])), (dr, .inr (2, [.ref rr, .int (nI len)])), (rr, .inl ((cT 0), 1000, .inl f)), (ou, .inl ((cT 1), 1, .inr (.inl fo)))]) [0, 1, 2, 3] rfl
      have hD9 := hD.sub (ws' := [(ds, .inr (0, [.ref dr, .ref sv])), (dr, .inr (2, [.ref rr, .int (nI len)])), (rr, .inl ((cT 0), 1000, .inl f)), (ou, .inl ((cT 1), 1, .inr (.inl fo)))]) [0, 1, 2, 3] (by decide) rfl
      exact W.iret (v := 2) hx hb hr (fun t ht hW => ⟨⟨_, ⟨len, f, fo⟩, rfl, ⟨h20, hlen, hab⟩, by rw [ht]; exact hP9, va_K.moved hW.alike hK, hD9⟩, by rw [ht]; exact hz2, fun q h4 _ => by rw [ht]; exact hz3 q h4⟩) (fun q h => by cases h) d_Lw_number_20
  have hr8 : len + 2 + 4 ≤ 1000 := by omega
  have hPc := hP.sub (ws' := [(ds, .inr (0, [.ref dr, .ref sv])), (dr, .inr (2, [.ref rr, .int (nI len)])), (rr, .inl ((cT 0), 1000, .inl f))]) [0, 1, 2] rfl
  have hDc := hD.sub (ws' := [(ds, .inr (0, [.ref dr, .ref sv])), (dr, .inr (2, [.ref rr, .int (nI len)])), (rr, .inl ((cT 0), 1000, .inl f))]) [0, 1, 2] (by decide) rfl
  have hFc := va_free (wc := [(ds, .inr (0, [.ref dr, .ref sv])), (dr, .inr (2, [.ref rr, .int (nI len)])), (rr, .inl ((cT 0), 1000, .inl f))]) hD hS hA [0, 1, 2] rfl
  refine va_calli (va_runV (C := "DoorServer") (As := [.int x, .int y]) (rest := [.int 0, .ref ou]) ⟨hx, hb, hml, hown, hg⟩ (c_number l dC dI cT s.heap.size ds dr sv rr len f x y (h1a) (h1b) (hr8)) (cwV 2 hg (gI (List.forall_mem_append.mpr ⟨List.forall_mem_cons.mpr ⟨k_535, List.forall_mem_cons.mpr ⟨k_536, List.forall_mem_cons.mpr ⟨k_537, List.forall_mem_cons.mpr ⟨k_1, fun _ h => absurd h List.not_mem_nil⟩⟩⟩⟩, List.forall_mem_cons.mpr ⟨k_538, fun _ h => h⟩⟩)) rfl rfl rfl (by decide +kernel) ⟨Nat.le_of_ble_eq_true rfl, Nat.le_of_ble_eq_true rfl⟩) ⟨fun a U g mk q => by obtain ⟨q0, q1, qP, qK, qD⟩ := q; exact ⟨q0, q1, qP, va_K.moved (u := U) (U := U.calling g mk a) (Vm.Alike.refl U.vm) qK, qD⟩, va_recv (q0 := 0) (ci := 0) hK hP rfl rfl, fun U hU hW => ⟨rfl, by rw [hU], by rw [hU]; exact hPc, va_K.moved hW.alike hK, hDc.weaken (fun _ _ _ _ => trivial)⟩⟩ rfl rfl hl.1 rfl (lv_room (Nat.le_of_ble_eq_true rfl)) d_Lw_number_5 ⟨Nat.le_of_ble_eq_true rfl, Nat.le_of_ble_eq_true rfl⟩) hS (fun q _ h => hFc q h) hFc (fun rv9 u t H1 locs ht hvm hw hB hz1 hk1 hS => ?_)
  obtain ⟨g_7, rfl⟩ : ∃ z, z = u := ⟨_, rfl⟩
  try dsimp only at hw hB
  obtain ⟨hP1, hK1, hD1⟩ := hB
  rw [ht] at hP1
  obtain ⟨rfl, hw⟩ := hw
  obtain ⟨hP, hD⟩ := va_join (wr := [(ou, .inl ((cT 1), 1, .inr (.inl fo)))]) (w1 := [(ds, .inr (0, [.ref dr, .ref sv])), (dr, .inr (2, [.ref rr, .int (nI (len + 6))])), (rr, .inl ((cT 0), 1000, .inl g_7))]) hP hD [0, 1, 2] [3] rfl rfl (by decide) (by decide) hk1 hFc hP1 hD1
  have hw8 := hw
  clear hPc hDc hFc hz1 hk1 hP1 hK1 hD1
  generalize H1 = H at hP hS ⊢
  have hP : va_P (dC, dI) vcl [(ou, .inl ((cT 1), 1, .inr (.inl fo))), (ds, .inr (0, [.ref dr, .ref sv])), (dr, .inr (2, [.ref rr, .int (nI (len + 6))])), (rr, .inl ((cT 0), 1000, .inl g_7))] H := hP
  have hD : va_D A [(ou, .inl ((cT 1), 1, .inr (.inl fo))), (ds, .inr (0, [.ref dr, .ref sv])), (dr, .inr (2, [.ref rr, .int (nI (len + 6))])), (rr, .inl ((cT 0), 1000, .inl g_7))] := hD
  refine lv_i2l (v := (nI (len + 6)).toInt64) hx hb d_Lw_number_8 rfl ?_
  refine va_last hx hb hK hP hD hS 0 1 rfl rfl (i := 0) (vp_in_nI (n := 0) (N := 1) (by decide) (by decide)) d_Lw_number_9 (fun H locs hP hD hS => ?_)
  have hP : va_P (dC, dI) vcl [(ou, .inl ((cT 1), 1, .inr (.inl (vp_updL fo (0 : Int32).toNatClampNeg ((nI (len + 6)).toInt64))))), (ds, .inr (0, [.ref dr, .ref sv])), (dr, .inr (2, [.ref rr, .int (nI (len + 6))])), (rr, .inl ((cT 0), 1000, .inl g_7))] H := hP
  have hD : va_D A [(ou, .inl ((cT 1), 1, .inr (.inl (vp_updL fo (0 : Int32).toNatClampNeg ((nI (len + 6)).toInt64))))), (ds, .inr (0, [.ref dr, .ref sv])), (dr, .inr (2, [.ref rr, .int (nI (len + 6))])), (rr, .inl ((cT 0), 1000, .inl g_7))] := hD
  refine lv_goto (tgt := 21) hx hb d_Lw_number_10 (by decide) ?_
  refine lv_iconst (v := 0) hx hb d_Lw_number_21 (by decide) ?_
  refine W.widen (k := 1) (n := 6) (Nat.le_of_ble_eq_true rfl) (Nat.le_of_ble_eq_true rfl) ?_
  have hP9 := hP.sub (ws' := [(ds, .inr (0, [.ref dr, .ref sv])), (dr, .inr (2, [.ref rr, .int (nI (len + 6))])), (rr, .inl ((cT 0), 1000, .inl g_7)), (ou, .inl ((cT 1), 1, .inr (.inl (vp_updL fo (0 : Int32).toNatClampNeg ((nI (len + 6)).toInt64)))))]) [1, 2, 3, 0] rfl
  have hD9 := hD.sub (ws' := [(ds, .inr (0, [.ref dr, .ref sv])), (dr, .inr (2, [.ref rr, .int (nI (len + 6))])), (rr, .inl ((cT 0), 1000, .inl g_7)), (ou, .inl ((cT 1), 1, .inr (.inl (vp_updL fo (0 : Int32).toNatClampNeg ((nI (len + 6)).toInt64)))))]) [1, 2, 3, 0] (by decide) rfl
  exact W.iret (v := 0) hx hb hr (fun t ht hW => ⟨⟨_, ⟨len + 6, g_7, vp_updL fo (0 : Int32).toNatClampNeg ((nI (len + 6)).toInt64)⟩, rfl, ⟨by omega, by omega, hw8 hab⟩, by rw [ht]; exact hP9, va_K.moved hW.alike hK, hD9⟩, hS.F ht⟩) hS.2.2 d_Lw_number_22
set_option maxHeartbeats 4000000 in
set_option maxRecDepth 100000 in
/-- the law: name -/
theorem lt_name (l : Launch) (dC : Nat → ClassId) (dI : Nat → Nat → Nat) (cT : Nat → ClassId) (sz : Nat) (ds : Nat) (dr : Nat) (sv : Nat) (rr : Nat) (len : Nat) (f : Nat → Int32) (x : Int32) (ou : Nat) (fo : Nat → Int64) (hfl : l.flags = pinnedFlags ++ [noTraceFlag]) (h20 : 20 ≤ len) (hlen : len ≤ 1000) (hab : AB f) : Met l y_Lw_name (Cond.codeWith y_Lw_name b_Lw_name 4 (Option.some Jvm.ClassFile.FieldType.int) [((0 : Nat), (9 : Nat), (12 : Nat), (13 : Nat)), ((0 : Nat), (9 : Nat), (15 : Nat), (27 : Nat))] :: BIG) ({ frames := 10, cells := 1, slots := 6, locals := 175 }) (va_Pc [.ref ds, .int x, .ref ou] (fun U => U.heap.size = sz ∧ va_P (dC, dI) vcl [(ds, .inr (0, [.ref dr, .ref sv])), (dr, .inr (2, [.ref rr, .int (nI len)])), (rr, .inl ((cT 0), 1000, .inl f)), (ou, .inl ((cT 1), 1, .inr (.inl fo)))] U.heap ∧ va_K (dC, dI) vcl (tyL cT) U ∧ va_D (fun _ => True) [(ds, .inr (0, [.ref dr, .ref sv])), (dr, .inr (2, [.ref rr, .int (nI len)])), (rr, .inl ((cT 0), 1000, .inl f)), (ou, .inl ((cT 1), 1, .inr (.inl fo)))] ∧ xs_T (fun _ => False) U U.heap)) (va_Qi (S := Nat × (Nat → Int32) × (Nat → Int64)) (fun rv9 u => match u with | (dl2, g, fo2) => 20 ≤ dl2 ∧ dl2 ≤ 1000 ∧ AB g) (fun u t => match u with | (dl2, g, fo2) => va_P (dC, dI) vcl [(ds, .inr (0, [.ref dr, .ref sv])), (dr, .inr (2, [.ref rr, .int (nI dl2)])), (rr, .inl ((cT 0), 1000, .inl g)), (ou, .inl ((cT 1), 1, .inr (.inl fo2)))] t.heap ∧ va_K (dC, dI) vcl (tyL cT) t ∧ va_D (va_A [(ds, .inr (0, [.ref dr, .ref sv])), (dr, .inr (2, [.ref rr, .int (nI len)])), (rr, .inl ((cT 0), 1000, .inl f)), (ou, .inl ((cT 1), 1, .inr (.inl fo)))] sz) [(ds, .inr (0, [.ref dr, .ref sv])), (dr, .inr (2, [.ref rr, .int (nI dl2)])), (rr, .inl ((cT 0), 1000, .inl g)), (ou, .inl ((cT 1), 1, .inr (.inl fo2)))]) (va_A [(ds, .inr (0, [.ref dr, .ref sv])), (dr, .inr (2, [.ref rr, .int (nI len)])), (rr, .inl ((cT 0), 1000, .inl f)), (ou, .inl ((cT 1), 1, .inr (.inl fo)))] sz)) 1 6 (va_A [(ds, .inr (0, [.ref dr, .ref sv])), (dr, .inr (2, [.ref rr, .int (nI len)])), (rr, .inl ((cT 0), 1000, .inl f)), (ou, .inl ((cT 1), 1, .inr (.inl fo)))] sz) := by
  refine xw_Met (cc := b_Lw_name) (maxL := 4) (ret := (Option.some Jvm.ClassFile.FieldType.int)) (hh := [((0 : Nat), (9 : Nat), (12 : Nat), (13 : Nat)), ((0 : Nat), (9 : Nat), (15 : Nat), (27 : Nat))]) (by decide) rfl ?_
  intro p e s m args below meth c s₁ B hml hv htab
  obtain ⟨hargs, hsz, hP, hK, hD0, hE⟩ := hv
  have hx := B.exec
  have hb := B.bytes
  have hr := B.returns
  have hts := atoms_spec (ws := (Cond.codeWith y_Lw_name b_Lw_name 4 (Option.some Jvm.ClassFile.FieldType.int) [((0 : Nat), (9 : Nat), (12 : Nat), (13 : Nat)), ((0 : Nat), (9 : Nat), (15 : Nat), (27 : Nat))] :: BIG)) B.pre
  have hg : ∀ w ∈ BIG, w.before _ s = true := fun w h => hts w (List.mem_cons_of_mem _ h)
  have hown : s.vm.findClass "DoorServerLaw" = some m.cls := findClass_of_methodNamed B.named
  have hlocks := B.notSynchronized
  subst hsz
  have hD := hD0.self (sz := s.heap.size)
  generalize hAe : va_A [(ds, .inr (0, [.ref dr, .ref sv])), (dr, .inr (2, [.ref rr, .int (nI len)])), (rr, .inl ((cT 0), 1000, .inl f)), (ou, .inl ((cT 1), 1, .inr (.inl fo)))] s.heap.size = A at hD ⊢
  have hA : ∀ q : Nat, s.heap.size ≤ q → A q := fun q h => by rw [← hAe]; exact Or.inr h
  have hS : va_S A s.heap s.heap [] := va_S.rf
  have hl := lv_entry ([.ref ds, .int x, .ref ou]) (n := 4) (Nat.le_of_ble_eq_true rfl)
  refine W.eq (g2 := entryFrame m (List.toArray [.ref ds, .int x, .ref ou]) 4) (by rw [hargs]) ?_
  rw [lg_entry_eq]
  generalize (lg_sl ([.ref ds, .int x, .ref ou]) ++ List.replicate (4 - (lg_sl ([.ref ds, .int x, .ref ou])).length) Slot.unset).toArray = ls at hl ⊢
  have hl : lv_has ls 4 [(0, .ref ds), (1, .int x), (2, .ref ou)] := hl
  change W p l e ({ frames := 10, cells := 1, slots := 6, locals := 175 } : Room) s m args below meth c s.heap [] 0 0 _ _
  have hP : va_P (dC, dI) vcl [(ds, .inr (0, [.ref dr, .ref sv])), (dr, .inr (2, [.ref rr, .int (nI len)])), (rr, .inl ((cT 0), 1000, .inl f)), (ou, .inl ((cT 1), 1, .inr (.inl fo)))] s.heap := hP
  have hEz := hE
  refine lv_aload_n hx hb d_Lw_name_0 rfl (lv_at hl 2 rfl) ?_
  refine lv_iconst (v := 0) hx hb d_Lw_name_1 (by decide) ?_
  refine lv_aload_n hx hb d_Lw_name_2 rfl (lv_at hl 0 rfl) ?_
  refine lv_iload_n hx hb d_Lw_name_3 rfl (lv_at hl 1 rfl) ?_
  by_cases h1 : x < 0 ∨ 31 < x
  · skip
    have hPx := hP.sub (ws' := []) [] rfl
    refine xk_callV (C := "DoorServer") (As := [.int x]) (rest := [.int 0, .ref ou]) ⟨hx, hb, hml, hown, hg⟩ (x_name l hfl dC dI cT ds x (h1)) (cwV 1 hg (gI (List.forall_mem_append.mpr ⟨List.forall_mem_cons.mpr ⟨k_543, List.forall_mem_cons.mpr ⟨k_544, List.forall_mem_cons.mpr ⟨k_545, List.forall_mem_cons.mpr ⟨k_1, fun _ h => absurd h List.not_mem_nil⟩⟩⟩⟩, List.forall_mem_cons.mpr ⟨k_546, fun _ h => h⟩⟩)) rfl rfl rfl (by decide +kernel) ⟨Nat.le_of_ble_eq_true rfl, Nat.le_of_ble_eq_true rfl⟩) ⟨fun a U g mk q => ?_, va_recv (q0 := 0) (ci := 0) hK hP rfl rfl, fun U hU hW => ⟨rfl, ?_, ?_, va_K.moved hW.alike hK⟩⟩ rfl hl.1 rfl (Nat.le_of_ble_eq_true rfl) d_Lw_name_4 ⟨Nat.le_of_ble_eq_true rfl, Nat.le_of_ble_eq_true rfl⟩ (xk_catch1 htab (by decide) (by decide) hown (hg _ k_382) (va_Nw.use rfl hEz.1.1.1) (fun x9 H1 hz1 hz2 hz3 => ?_))
    · obtain ⟨q0, q1, q2, q3⟩ := q
      exact ⟨q0, q1.at (State.WarmedH.refl _) (fun _ _ _ => rfl) (fun _ h => h), q2, va_K.moved (Vm.Alike.refl U.vm) q3⟩
    · show xz_T _ U U.heap; rw [hU]; exact hEz.1.at hW (fun _ _ _ => rfl) (fun _ h => h)
    · show va_P _ _ _ U.heap; rw [hU]; exact hPx
    · refine W.eq (g2 := F0 m 12 ls [.ref x9]) rfl ?_
      refine lv_astore_n (lv' := [(3, .ref x9), (0, .ref ds), (1, .int x), (2, .ref ou)]) hx hb d_Lw_name_12 rfl hl (by decide) rfl (fun ls hl => ?_)
      refine lv_iconst (v := 1) hx hb d_Lw_name_13 (by decide) ?_
      have hP : va_P (dC, dI) vcl [(ds, .inr (0, [.ref dr, .ref sv])), (dr, .inr (2, [.ref rr, .int (nI len)])), (rr, .inl ((cT 0), 1000, .inl f)), (ou, .inl ((cT 1), 1, .inr (.inl fo)))] H1 := hP.kept (fun k q hk => hz3 q.1 (hP k q hk).lt)
      have hP9 := hP.sub (ws' := [(ds, .inr (0, [.ref dr, .ref sv])), (dr, .inr (2, [.ref rr, .int (nI len)])), (rr, .inl ((cT 0), 1000, .inl f)), (ou, .inl ((cT 1), 1, .inr (.inl fo)))]) [0, 1, 2, 3] rfl
      have hD9 := hD.sub (ws' := [(ds, .inr (0, [.ref dr, .ref sv])), (dr, .inr (2, [.ref rr, .int (nI len)])), (rr, .inl ((cT 0), 1000, .inl f)), (ou, .inl ((cT 1), 1, .inr (.inl fo)))]) [0, 1, 2, 3] (by decide) rfl
      exact W.iret (v := 1) hx hb hr (fun t ht hW => ⟨⟨_, ⟨len, f, fo⟩, rfl, ⟨h20, hlen, hab⟩, by rw [ht]; exact hP9, va_K.moved hW.alike hK, hD9⟩, by rw [ht]; exact hz2, fun q h4 _ => by rw [ht]; exact hz3 q h4⟩) (fun q h => by cases h) d_Lw_name_14
  have h1a : ¬ (x < 0) := fun h9 => h1 (Or.inl h9)
  have h1b : ¬ (31 < x) := fun h9 => h1 (Or.inr h9)
  by_cases hr9 : 1000 < len + 2 + 3
  · skip
    have hPx := hP.sub (ws' := [(ds, .inr (0, [.ref dr, .ref sv])), (dr, .inr (2, [.ref rr, .int (nI len)])), (rr, .inl ((cT 0), 1000, .inl f))]) [0, 1, 2] rfl
    have hDx := (hD.sub (ws' := [(ds, .inr (0, [.ref dr, .ref sv])), (dr, .inr (2, [.ref rr, .int (nI len)])), (rr, .inl ((cT 0), 1000, .inl f))]) [0, 1, 2] (by decide) rfl).weaken (B := fun _ => True) (fun _ _ _ _ => trivial)
    refine xk_callV (C := "DoorServer") (As := [.int x]) (rest := [.int 0, .ref ou]) ⟨hx, hb, hml, hown, hg⟩ (x_name2 l hfl dC dI cT ds dr sv rr len f x (hlen) (h1a) (h1b) (hr9)) (cwV 1 hg (gI (List.forall_mem_append.mpr ⟨List.forall_mem_cons.mpr ⟨k_543, List.forall_mem_cons.mpr ⟨k_544, List.forall_mem_cons.mpr ⟨k_545, List.forall_mem_cons.mpr ⟨k_1, fun _ h => absurd h List.not_mem_nil⟩⟩⟩⟩, List.forall_mem_cons.mpr ⟨k_546, fun _ h => h⟩⟩)) rfl rfl rfl (by decide +kernel) ⟨Nat.le_of_ble_eq_true rfl, Nat.le_of_ble_eq_true rfl⟩) ⟨fun a U g mk q => ?_, va_recv (q0 := 0) (ci := 0) hK hP rfl rfl, fun U hU hW => ⟨rfl, ?_, ?_, hDx, va_K.moved hW.alike hK⟩⟩ rfl hl.1 rfl (Nat.le_of_ble_eq_true rfl) d_Lw_name_4 ⟨Nat.le_of_ble_eq_true rfl, Nat.le_of_ble_eq_true rfl⟩ (xk_catch2 htab (by decide) (by decide) (by decide) (by decide) hown (hg _ k_382) hEz.2.2 (hg _ k_495) (va_Nw.use rfl hEz.2.1) (fun x9 H1 hz1 hz2 hz3 => ?_))
    · obtain ⟨q0, q1, q2, q4, q3⟩ := q
      exact ⟨q0, q1.at (State.WarmedH.refl _) (fun _ _ _ => rfl) (fun _ h => h), q2, q4, va_K.moved (Vm.Alike.refl U.vm) q3⟩
    · show xs_T _ U U.heap; rw [hU]; exact hEz.at hW (fun _ _ _ => rfl) (fun _ h => h)
    · show va_P _ _ _ U.heap; rw [hU]; exact hPx
    · refine W.eq (g2 := F0 m 15 ls [.ref x9]) rfl ?_
      refine lv_astore_n (lv' := [(3, .ref x9), (0, .ref ds), (1, .int x), (2, .ref ou)]) hx hb d_Lw_name_15 rfl hl (by decide) rfl (fun ls hl => ?_)
      refine lv_iconst (v := 2) hx hb d_Lw_name_16 (by decide) ?_
      have hP : va_P (dC, dI) vcl [(ds, .inr (0, [.ref dr, .ref sv])), (dr, .inr (2, [.ref rr, .int (nI len)])), (rr, .inl ((cT 0), 1000, .inl f)), (ou, .inl ((cT 1), 1, .inr (.inl fo)))] H1 := hP.kept (fun k q hk => hz3 q.1 (hP k q hk).lt)
      have hP9 := hP.sub (ws' := [(ds, .inr (0, [.ref dr, .ref sv])), (dr, .inr (2, [.ref rr, .int (nI len)])), (rr, .inl ((cT 0), 1000, .inl f)), (ou, .inl ((cT 1), 1, .inr (.inl fo)))]) [0, 1, 2, 3] rfl
      have hD9 := hD.sub (ws' := [(ds, .inr (0, [.ref dr, .ref sv])), (dr, .inr (2, [.ref rr, .int (nI len)])), (rr, .inl ((cT 0), 1000, .inl f)), (ou, .inl ((cT 1), 1, .inr (.inl fo)))]) [0, 1, 2, 3] (by decide) rfl
      exact W.iret (v := 2) hx hb hr (fun t ht hW => ⟨⟨_, ⟨len, f, fo⟩, rfl, ⟨h20, hlen, hab⟩, by rw [ht]; exact hP9, va_K.moved hW.alike hK, hD9⟩, by rw [ht]; exact hz2, fun q h4 _ => by rw [ht]; exact hz3 q h4⟩) (fun q h => by cases h) d_Lw_name_17
  have hr8 : len + 2 + 3 ≤ 1000 := by omega
  have hPc := hP.sub (ws' := [(ds, .inr (0, [.ref dr, .ref sv])), (dr, .inr (2, [.ref rr, .int (nI len)])), (rr, .inl ((cT 0), 1000, .inl f))]) [0, 1, 2] rfl
  have hDc := hD.sub (ws' := [(ds, .inr (0, [.ref dr, .ref sv])), (dr, .inr (2, [.ref rr, .int (nI len)])), (rr, .inl ((cT 0), 1000, .inl f))]) [0, 1, 2] (by decide) rfl
  have hFc := va_free (wc := [(ds, .inr (0, [.ref dr, .ref sv])), (dr, .inr (2, [.ref rr, .int (nI len)])), (rr, .inl ((cT 0), 1000, .inl f))]) hD hS hA [0, 1, 2] rfl
  refine va_calli (va_runV (C := "DoorServer") (As := [.int x]) (rest := [.int 0, .ref ou]) ⟨hx, hb, hml, hown, hg⟩ (c_name l dC dI cT s.heap.size ds dr sv rr len f x (h1a) (h1b) (hr8)) (cwV 1 hg (gI (List.forall_mem_append.mpr ⟨List.forall_mem_cons.mpr ⟨k_543, List.forall_mem_cons.mpr ⟨k_544, List.forall_mem_cons.mpr ⟨k_545, List.forall_mem_cons.mpr ⟨k_1, fun _ h => absurd h List.not_mem_nil⟩⟩⟩⟩, List.forall_mem_cons.mpr ⟨k_546, fun _ h => h⟩⟩)) rfl rfl rfl (by decide +kernel) ⟨Nat.le_of_ble_eq_true rfl, Nat.le_of_ble_eq_true rfl⟩) ⟨fun a U g mk q => by obtain ⟨q0, q1, qP, qK, qD⟩ := q; exact ⟨q0, q1, qP, va_K.moved (u := U) (U := U.calling g mk a) (Vm.Alike.refl U.vm) qK, qD⟩, va_recv (q0 := 0) (ci := 0) hK hP rfl rfl, fun U hU hW => ⟨rfl, by rw [hU], by rw [hU]; exact hPc, va_K.moved hW.alike hK, hDc.weaken (fun _ _ _ _ => trivial)⟩⟩ rfl rfl hl.1 rfl (lv_room (Nat.le_of_ble_eq_true rfl)) d_Lw_name_4 ⟨Nat.le_of_ble_eq_true rfl, Nat.le_of_ble_eq_true rfl⟩) hS (fun q _ h => hFc q h) hFc (fun rv9 u t H1 locs ht hvm hw hB hz1 hk1 hS => ?_)
  obtain ⟨g_9, rfl⟩ : ∃ z, z = u := ⟨_, rfl⟩
  try dsimp only at hw hB
  obtain ⟨hP1, hK1, hD1⟩ := hB
  rw [ht] at hP1
  obtain ⟨rfl, hw⟩ := hw
  obtain ⟨hP, hD⟩ := va_join (wr := [(ou, .inl ((cT 1), 1, .inr (.inl fo)))]) (w1 := [(ds, .inr (0, [.ref dr, .ref sv])), (dr, .inr (2, [.ref rr, .int (nI (len + 5))])), (rr, .inl ((cT 0), 1000, .inl g_9))]) hP hD [0, 1, 2] [3] rfl rfl (by decide) (by decide) hk1 hFc hP1 hD1
  have hw10 := hw
  clear hPc hDc hFc hz1 hk1 hP1 hK1 hD1
  generalize H1 = H at hP hS ⊢
  have hP : va_P (dC, dI) vcl [(ou, .inl ((cT 1), 1, .inr (.inl fo))), (ds, .inr (0, [.ref dr, .ref sv])), (dr, .inr (2, [.ref rr, .int (nI (len + 5))])), (rr, .inl ((cT 0), 1000, .inl g_9))] H := hP
  have hD : va_D A [(ou, .inl ((cT 1), 1, .inr (.inl fo))), (ds, .inr (0, [.ref dr, .ref sv])), (dr, .inr (2, [.ref rr, .int (nI (len + 5))])), (rr, .inl ((cT 0), 1000, .inl g_9))] := hD
  refine lv_i2l (v := (nI (len + 5)).toInt64) hx hb d_Lw_name_7 rfl ?_
  refine va_last hx hb hK hP hD hS 0 1 rfl rfl (i := 0) (vp_in_nI (n := 0) (N := 1) (by decide) (by decide)) d_Lw_name_8 (fun H locs hP hD hS => ?_)
  have hP : va_P (dC, dI) vcl [(ou, .inl ((cT 1), 1, .inr (.inl (vp_updL fo (0 : Int32).toNatClampNeg ((nI (len + 5)).toInt64))))), (ds, .inr (0, [.ref dr, .ref sv])), (dr, .inr (2, [.ref rr, .int (nI (len + 5))])), (rr, .inl ((cT 0), 1000, .inl g_9))] H := hP
  have hD : va_D A [(ou, .inl ((cT 1), 1, .inr (.inl (vp_updL fo (0 : Int32).toNatClampNeg ((nI (len + 5)).toInt64))))), (ds, .inr (0, [.ref dr, .ref sv])), (dr, .inr (2, [.ref rr, .int (nI (len + 5))])), (rr, .inl ((cT 0), 1000, .inl g_9))] := hD
  refine lv_goto (tgt := 18) hx hb d_Lw_name_9 (by decide) ?_
  refine lv_iconst (v := 0) hx hb d_Lw_name_18 (by decide) ?_
  refine W.widen (k := 1) (n := 6) (Nat.le_of_ble_eq_true rfl) (Nat.le_of_ble_eq_true rfl) ?_
  have hP9 := hP.sub (ws' := [(ds, .inr (0, [.ref dr, .ref sv])), (dr, .inr (2, [.ref rr, .int (nI (len + 5))])), (rr, .inl ((cT 0), 1000, .inl g_9)), (ou, .inl ((cT 1), 1, .inr (.inl (vp_updL fo (0 : Int32).toNatClampNeg ((nI (len + 5)).toInt64)))))]) [1, 2, 3, 0] rfl
  have hD9 := hD.sub (ws' := [(ds, .inr (0, [.ref dr, .ref sv])), (dr, .inr (2, [.ref rr, .int (nI (len + 5))])), (rr, .inl ((cT 0), 1000, .inl g_9)), (ou, .inl ((cT 1), 1, .inr (.inl (vp_updL fo (0 : Int32).toNatClampNeg ((nI (len + 5)).toInt64)))))]) [1, 2, 3, 0] (by decide) rfl
  exact W.iret (v := 0) hx hb hr (fun t ht hW => ⟨⟨_, ⟨len + 5, g_9, vp_updL fo (0 : Int32).toNatClampNeg ((nI (len + 5)).toInt64)⟩, rfl, ⟨by omega, by omega, hw10 hab⟩, by rw [ht]; exact hP9, va_K.moved hW.alike hK, hD9⟩, hS.F ht⟩) hS.2.2 d_Lw_name_19
set_option maxHeartbeats 4000000 in
set_option maxRecDepth 100000 in
/-- the law: hello -/
theorem lt_hello (l : Launch) (dC : Nat → ClassId) (dI : Nat → Nat → Nat) (cT : Nat → ClassId) (sz : Nat) (ds : Nat) (dr : Nat) (sv : Nat) (rr : Nat) (len : Nat) (f : Nat → Int32) (x : Int32) (ou : Nat) (fo : Nat → Int64) (hfl : l.flags = pinnedFlags ++ [noTraceFlag]) (h20 : 20 ≤ len) (hlen : len ≤ 1000) (hab : AB f) : Met l y_Lw_hello (Cond.codeWith y_Lw_hello b_Lw_hello 4 (Option.some Jvm.ClassFile.FieldType.int) [((0 : Nat), (9 : Nat), (12 : Nat), (13 : Nat)), ((0 : Nat), (9 : Nat), (15 : Nat), (27 : Nat))] :: BIG) ({ frames := 10, cells := 1, slots := 6, locals := 175 }) (va_Pc [.ref ds, .int x, .ref ou] (fun U => U.heap.size = sz ∧ va_P (dC, dI) vcl [(ds, .inr (0, [.ref dr, .ref sv])), (dr, .inr (2, [.ref rr, .int (nI len)])), (rr, .inl ((cT 0), 1000, .inl f)), (ou, .inl ((cT 1), 1, .inr (.inl fo)))] U.heap ∧ va_K (dC, dI) vcl (tyL cT) U ∧ va_D (fun _ => True) [(ds, .inr (0, [.ref dr, .ref sv])), (dr, .inr (2, [.ref rr, .int (nI len)])), (rr, .inl ((cT 0), 1000, .inl f)), (ou, .inl ((cT 1), 1, .inr (.inl fo)))] ∧ xs_T (fun _ => False) U U.heap)) (va_Qi (S := Nat × (Nat → Int32) × (Nat → Int64)) (fun rv9 u => match u with | (dl2, g, fo2) => 20 ≤ dl2 ∧ dl2 ≤ 1000 ∧ AB g) (fun u t => match u with | (dl2, g, fo2) => va_P (dC, dI) vcl [(ds, .inr (0, [.ref dr, .ref sv])), (dr, .inr (2, [.ref rr, .int (nI dl2)])), (rr, .inl ((cT 0), 1000, .inl g)), (ou, .inl ((cT 1), 1, .inr (.inl fo2)))] t.heap ∧ va_K (dC, dI) vcl (tyL cT) t ∧ va_D (va_A [(ds, .inr (0, [.ref dr, .ref sv])), (dr, .inr (2, [.ref rr, .int (nI len)])), (rr, .inl ((cT 0), 1000, .inl f)), (ou, .inl ((cT 1), 1, .inr (.inl fo)))] sz) [(ds, .inr (0, [.ref dr, .ref sv])), (dr, .inr (2, [.ref rr, .int (nI dl2)])), (rr, .inl ((cT 0), 1000, .inl g)), (ou, .inl ((cT 1), 1, .inr (.inl fo2)))]) (va_A [(ds, .inr (0, [.ref dr, .ref sv])), (dr, .inr (2, [.ref rr, .int (nI len)])), (rr, .inl ((cT 0), 1000, .inl f)), (ou, .inl ((cT 1), 1, .inr (.inl fo)))] sz)) 1 6 (va_A [(ds, .inr (0, [.ref dr, .ref sv])), (dr, .inr (2, [.ref rr, .int (nI len)])), (rr, .inl ((cT 0), 1000, .inl f)), (ou, .inl ((cT 1), 1, .inr (.inl fo)))] sz) := by
  refine xw_Met (cc := b_Lw_hello) (maxL := 4) (ret := (Option.some Jvm.ClassFile.FieldType.int)) (hh := [((0 : Nat), (9 : Nat), (12 : Nat), (13 : Nat)), ((0 : Nat), (9 : Nat), (15 : Nat), (27 : Nat))]) (by decide) rfl ?_
  intro p e s m args below meth c s₁ B hml hv htab
  obtain ⟨hargs, hsz, hP, hK, hD0, hE⟩ := hv
  have hx := B.exec
  have hb := B.bytes
  have hr := B.returns
  have hts := atoms_spec (ws := (Cond.codeWith y_Lw_hello b_Lw_hello 4 (Option.some Jvm.ClassFile.FieldType.int) [((0 : Nat), (9 : Nat), (12 : Nat), (13 : Nat)), ((0 : Nat), (9 : Nat), (15 : Nat), (27 : Nat))] :: BIG)) B.pre
  have hg : ∀ w ∈ BIG, w.before _ s = true := fun w h => hts w (List.mem_cons_of_mem _ h)
  have hown : s.vm.findClass "DoorServerLaw" = some m.cls := findClass_of_methodNamed B.named
  have hlocks := B.notSynchronized
  subst hsz
  have hD := hD0.self (sz := s.heap.size)
  generalize hAe : va_A [(ds, .inr (0, [.ref dr, .ref sv])), (dr, .inr (2, [.ref rr, .int (nI len)])), (rr, .inl ((cT 0), 1000, .inl f)), (ou, .inl ((cT 1), 1, .inr (.inl fo)))] s.heap.size = A at hD ⊢
  have hA : ∀ q : Nat, s.heap.size ≤ q → A q := fun q h => by rw [← hAe]; exact Or.inr h
  have hS : va_S A s.heap s.heap [] := va_S.rf
  have hl := lv_entry ([.ref ds, .int x, .ref ou]) (n := 4) (Nat.le_of_ble_eq_true rfl)
  refine W.eq (g2 := entryFrame m (List.toArray [.ref ds, .int x, .ref ou]) 4) (by rw [hargs]) ?_
  rw [lg_entry_eq]
  generalize (lg_sl ([.ref ds, .int x, .ref ou]) ++ List.replicate (4 - (lg_sl ([.ref ds, .int x, .ref ou])).length) Slot.unset).toArray = ls at hl ⊢
  have hl : lv_has ls 4 [(0, .ref ds), (1, .int x), (2, .ref ou)] := hl
  change W p l e ({ frames := 10, cells := 1, slots := 6, locals := 175 } : Room) s m args below meth c s.heap [] 0 0 _ _
  have hP : va_P (dC, dI) vcl [(ds, .inr (0, [.ref dr, .ref sv])), (dr, .inr (2, [.ref rr, .int (nI len)])), (rr, .inl ((cT 0), 1000, .inl f)), (ou, .inl ((cT 1), 1, .inr (.inl fo)))] s.heap := hP
  have hEz := hE
  refine lv_aload_n hx hb d_Lw_hello_0 rfl (lv_at hl 2 rfl) ?_
  refine lv_iconst (v := 0) hx hb d_Lw_hello_1 (by decide) ?_
  refine lv_aload_n hx hb d_Lw_hello_2 rfl (lv_at hl 0 rfl) ?_
  refine lv_iload_n hx hb d_Lw_hello_3 rfl (lv_at hl 1 rfl) ?_
  by_cases h1 : x < 0 ∨ 255 < x
  · skip
    have hPx := hP.sub (ws' := []) [] rfl
    refine xk_callV (C := "DoorServer") (As := [.int x]) (rest := [.int 0, .ref ou]) ⟨hx, hb, hml, hown, hg⟩ (x_hello l hfl dC dI cT ds x (h1)) (cwV 1 hg (gI (List.forall_mem_append.mpr ⟨List.forall_mem_cons.mpr ⟨k_608, List.forall_mem_cons.mpr ⟨k_609, List.forall_mem_cons.mpr ⟨k_610, List.forall_mem_cons.mpr ⟨k_1, fun _ h => absurd h List.not_mem_nil⟩⟩⟩⟩, List.forall_mem_cons.mpr ⟨k_611, fun _ h => h⟩⟩)) rfl rfl rfl (by decide +kernel) ⟨Nat.le_of_ble_eq_true rfl, Nat.le_of_ble_eq_true rfl⟩) ⟨fun a U g mk q => ?_, va_recv (q0 := 0) (ci := 0) hK hP rfl rfl, fun U hU hW => ⟨rfl, ?_, ?_, va_K.moved hW.alike hK⟩⟩ rfl hl.1 rfl (Nat.le_of_ble_eq_true rfl) d_Lw_hello_4 ⟨Nat.le_of_ble_eq_true rfl, Nat.le_of_ble_eq_true rfl⟩ (xk_catch1 htab (by decide) (by decide) hown (hg _ k_382) (va_Nw.use rfl hEz.1.1.1) (fun x9 H1 hz1 hz2 hz3 => ?_))
    · obtain ⟨q0, q1, q2, q3⟩ := q
      exact ⟨q0, q1.at (State.WarmedH.refl _) (fun _ _ _ => rfl) (fun _ h => h), q2, va_K.moved (Vm.Alike.refl U.vm) q3⟩
    · show xz_T _ U U.heap; rw [hU]; exact hEz.1.at hW (fun _ _ _ => rfl) (fun _ h => h)
    · show va_P _ _ _ U.heap; rw [hU]; exact hPx
    · refine W.eq (g2 := F0 m 12 ls [.ref x9]) rfl ?_
      refine lv_astore_n (lv' := [(3, .ref x9), (0, .ref ds), (1, .int x), (2, .ref ou)]) hx hb d_Lw_hello_12 rfl hl (by decide) rfl (fun ls hl => ?_)
      refine lv_iconst (v := 1) hx hb d_Lw_hello_13 (by decide) ?_
      have hP : va_P (dC, dI) vcl [(ds, .inr (0, [.ref dr, .ref sv])), (dr, .inr (2, [.ref rr, .int (nI len)])), (rr, .inl ((cT 0), 1000, .inl f)), (ou, .inl ((cT 1), 1, .inr (.inl fo)))] H1 := hP.kept (fun k q hk => hz3 q.1 (hP k q hk).lt)
      have hP9 := hP.sub (ws' := [(ds, .inr (0, [.ref dr, .ref sv])), (dr, .inr (2, [.ref rr, .int (nI len)])), (rr, .inl ((cT 0), 1000, .inl f)), (ou, .inl ((cT 1), 1, .inr (.inl fo)))]) [0, 1, 2, 3] rfl
      have hD9 := hD.sub (ws' := [(ds, .inr (0, [.ref dr, .ref sv])), (dr, .inr (2, [.ref rr, .int (nI len)])), (rr, .inl ((cT 0), 1000, .inl f)), (ou, .inl ((cT 1), 1, .inr (.inl fo)))]) [0, 1, 2, 3] (by decide) rfl
      exact W.iret (v := 1) hx hb hr (fun t ht hW => ⟨⟨_, ⟨len, f, fo⟩, rfl, ⟨h20, hlen, hab⟩, by rw [ht]; exact hP9, va_K.moved hW.alike hK, hD9⟩, by rw [ht]; exact hz2, fun q h4 _ => by rw [ht]; exact hz3 q h4⟩) (fun q h => by cases h) d_Lw_hello_14
  have h1a : ¬ (x < 0) := fun h9 => h1 (Or.inl h9)
  have h1b : ¬ (255 < x) := fun h9 => h1 (Or.inr h9)
  by_cases hr9 : 1000 < len + 2 + 5
  · skip
    have hPx := hP.sub (ws' := [(ds, .inr (0, [.ref dr, .ref sv])), (dr, .inr (2, [.ref rr, .int (nI len)])), (rr, .inl ((cT 0), 1000, .inl f))]) [0, 1, 2] rfl
    have hDx := (hD.sub (ws' := [(ds, .inr (0, [.ref dr, .ref sv])), (dr, .inr (2, [.ref rr, .int (nI len)])), (rr, .inl ((cT 0), 1000, .inl f))]) [0, 1, 2] (by decide) rfl).weaken (B := fun _ => True) (fun _ _ _ _ => trivial)
    refine xk_callV (C := "DoorServer") (As := [.int x]) (rest := [.int 0, .ref ou]) ⟨hx, hb, hml, hown, hg⟩ (x_hello2 l hfl dC dI cT ds dr sv rr len f x (hlen) (h1a) (h1b) (hr9)) (cwV 1 hg (gI (List.forall_mem_append.mpr ⟨List.forall_mem_cons.mpr ⟨k_608, List.forall_mem_cons.mpr ⟨k_609, List.forall_mem_cons.mpr ⟨k_610, List.forall_mem_cons.mpr ⟨k_1, fun _ h => absurd h List.not_mem_nil⟩⟩⟩⟩, List.forall_mem_cons.mpr ⟨k_611, fun _ h => h⟩⟩)) rfl rfl rfl (by decide +kernel) ⟨Nat.le_of_ble_eq_true rfl, Nat.le_of_ble_eq_true rfl⟩) ⟨fun a U g mk q => ?_, va_recv (q0 := 0) (ci := 0) hK hP rfl rfl, fun U hU hW => ⟨rfl, ?_, ?_, hDx, va_K.moved hW.alike hK⟩⟩ rfl hl.1 rfl (Nat.le_of_ble_eq_true rfl) d_Lw_hello_4 ⟨Nat.le_of_ble_eq_true rfl, Nat.le_of_ble_eq_true rfl⟩ (xk_catch2 htab (by decide) (by decide) (by decide) (by decide) hown (hg _ k_382) hEz.2.2 (hg _ k_495) (va_Nw.use rfl hEz.2.1) (fun x9 H1 hz1 hz2 hz3 => ?_))
    · obtain ⟨q0, q1, q2, q4, q3⟩ := q
      exact ⟨q0, q1.at (State.WarmedH.refl _) (fun _ _ _ => rfl) (fun _ h => h), q2, q4, va_K.moved (Vm.Alike.refl U.vm) q3⟩
    · show xs_T _ U U.heap; rw [hU]; exact hEz.at hW (fun _ _ _ => rfl) (fun _ h => h)
    · show va_P _ _ _ U.heap; rw [hU]; exact hPx
    · refine W.eq (g2 := F0 m 15 ls [.ref x9]) rfl ?_
      refine lv_astore_n (lv' := [(3, .ref x9), (0, .ref ds), (1, .int x), (2, .ref ou)]) hx hb d_Lw_hello_15 rfl hl (by decide) rfl (fun ls hl => ?_)
      refine lv_iconst (v := 2) hx hb d_Lw_hello_16 (by decide) ?_
      have hP : va_P (dC, dI) vcl [(ds, .inr (0, [.ref dr, .ref sv])), (dr, .inr (2, [.ref rr, .int (nI len)])), (rr, .inl ((cT 0), 1000, .inl f)), (ou, .inl ((cT 1), 1, .inr (.inl fo)))] H1 := hP.kept (fun k q hk => hz3 q.1 (hP k q hk).lt)
      have hP9 := hP.sub (ws' := [(ds, .inr (0, [.ref dr, .ref sv])), (dr, .inr (2, [.ref rr, .int (nI len)])), (rr, .inl ((cT 0), 1000, .inl f)), (ou, .inl ((cT 1), 1, .inr (.inl fo)))]) [0, 1, 2, 3] rfl
      have hD9 := hD.sub (ws' := [(ds, .inr (0, [.ref dr, .ref sv])), (dr, .inr (2, [.ref rr, .int (nI len)])), (rr, .inl ((cT 0), 1000, .inl f)), (ou, .inl ((cT 1), 1, .inr (.inl fo)))]) [0, 1, 2, 3] (by decide) rfl
      exact W.iret (v := 2) hx hb hr (fun t ht hW => ⟨⟨_, ⟨len, f, fo⟩, rfl, ⟨h20, hlen, hab⟩, by rw [ht]; exact hP9, va_K.moved hW.alike hK, hD9⟩, by rw [ht]; exact hz2, fun q h4 _ => by rw [ht]; exact hz3 q h4⟩) (fun q h => by cases h) d_Lw_hello_17
  have hr8 : len + 2 + 5 ≤ 1000 := by omega
  have hPc := hP.sub (ws' := [(ds, .inr (0, [.ref dr, .ref sv])), (dr, .inr (2, [.ref rr, .int (nI len)])), (rr, .inl ((cT 0), 1000, .inl f))]) [0, 1, 2] rfl
  have hDc := hD.sub (ws' := [(ds, .inr (0, [.ref dr, .ref sv])), (dr, .inr (2, [.ref rr, .int (nI len)])), (rr, .inl ((cT 0), 1000, .inl f))]) [0, 1, 2] (by decide) rfl
  have hFc := va_free (wc := [(ds, .inr (0, [.ref dr, .ref sv])), (dr, .inr (2, [.ref rr, .int (nI len)])), (rr, .inl ((cT 0), 1000, .inl f))]) hD hS hA [0, 1, 2] rfl
  refine va_calli (va_runV (C := "DoorServer") (As := [.int x]) (rest := [.int 0, .ref ou]) ⟨hx, hb, hml, hown, hg⟩ (c_hello l dC dI cT s.heap.size ds dr sv rr len f x (h1a) (h1b) (hr8)) (cwV 1 hg (gI (List.forall_mem_append.mpr ⟨List.forall_mem_cons.mpr ⟨k_608, List.forall_mem_cons.mpr ⟨k_609, List.forall_mem_cons.mpr ⟨k_610, List.forall_mem_cons.mpr ⟨k_1, fun _ h => absurd h List.not_mem_nil⟩⟩⟩⟩, List.forall_mem_cons.mpr ⟨k_611, fun _ h => h⟩⟩)) rfl rfl rfl (by decide +kernel) ⟨Nat.le_of_ble_eq_true rfl, Nat.le_of_ble_eq_true rfl⟩) ⟨fun a U g mk q => by obtain ⟨q0, q1, qP, qK, qD⟩ := q; exact ⟨q0, q1, qP, va_K.moved (u := U) (U := U.calling g mk a) (Vm.Alike.refl U.vm) qK, qD⟩, va_recv (q0 := 0) (ci := 0) hK hP rfl rfl, fun U hU hW => ⟨rfl, by rw [hU], by rw [hU]; exact hPc, va_K.moved hW.alike hK, hDc.weaken (fun _ _ _ _ => trivial)⟩⟩ rfl rfl hl.1 rfl (lv_room (Nat.le_of_ble_eq_true rfl)) d_Lw_hello_4 ⟨Nat.le_of_ble_eq_true rfl, Nat.le_of_ble_eq_true rfl⟩) hS (fun q _ h => hFc q h) hFc (fun rv9 u t H1 locs ht hvm hw hB hz1 hk1 hS => ?_)
  obtain ⟨g_11, rfl⟩ : ∃ z, z = u := ⟨_, rfl⟩
  try dsimp only at hw hB
  obtain ⟨hP1, hK1, hD1⟩ := hB
  rw [ht] at hP1
  obtain ⟨rfl, hw⟩ := hw
  obtain ⟨hP, hD⟩ := va_join (wr := [(ou, .inl ((cT 1), 1, .inr (.inl fo)))]) (w1 := [(ds, .inr (0, [.ref dr, .ref sv])), (dr, .inr (2, [.ref rr, .int (nI (len + 7))])), (rr, .inl ((cT 0), 1000, .inl g_11))]) hP hD [0, 1, 2] [3] rfl rfl (by decide) (by decide) hk1 hFc hP1 hD1
  have hw12 := hw
  clear hPc hDc hFc hz1 hk1 hP1 hK1 hD1
  generalize H1 = H at hP hS ⊢
  have hP : va_P (dC, dI) vcl [(ou, .inl ((cT 1), 1, .inr (.inl fo))), (ds, .inr (0, [.ref dr, .ref sv])), (dr, .inr (2, [.ref rr, .int (nI (len + 7))])), (rr, .inl ((cT 0), 1000, .inl g_11))] H := hP
  have hD : va_D A [(ou, .inl ((cT 1), 1, .inr (.inl fo))), (ds, .inr (0, [.ref dr, .ref sv])), (dr, .inr (2, [.ref rr, .int (nI (len + 7))])), (rr, .inl ((cT 0), 1000, .inl g_11))] := hD
  refine lv_i2l (v := (nI (len + 7)).toInt64) hx hb d_Lw_hello_7 rfl ?_
  refine va_last hx hb hK hP hD hS 0 1 rfl rfl (i := 0) (vp_in_nI (n := 0) (N := 1) (by decide) (by decide)) d_Lw_hello_8 (fun H locs hP hD hS => ?_)
  have hP : va_P (dC, dI) vcl [(ou, .inl ((cT 1), 1, .inr (.inl (vp_updL fo (0 : Int32).toNatClampNeg ((nI (len + 7)).toInt64))))), (ds, .inr (0, [.ref dr, .ref sv])), (dr, .inr (2, [.ref rr, .int (nI (len + 7))])), (rr, .inl ((cT 0), 1000, .inl g_11))] H := hP
  have hD : va_D A [(ou, .inl ((cT 1), 1, .inr (.inl (vp_updL fo (0 : Int32).toNatClampNeg ((nI (len + 7)).toInt64))))), (ds, .inr (0, [.ref dr, .ref sv])), (dr, .inr (2, [.ref rr, .int (nI (len + 7))])), (rr, .inl ((cT 0), 1000, .inl g_11))] := hD
  refine lv_goto (tgt := 18) hx hb d_Lw_hello_9 (by decide) ?_
  refine lv_iconst (v := 0) hx hb d_Lw_hello_18 (by decide) ?_
  refine W.widen (k := 1) (n := 6) (Nat.le_of_ble_eq_true rfl) (Nat.le_of_ble_eq_true rfl) ?_
  have hP9 := hP.sub (ws' := [(ds, .inr (0, [.ref dr, .ref sv])), (dr, .inr (2, [.ref rr, .int (nI (len + 7))])), (rr, .inl ((cT 0), 1000, .inl g_11)), (ou, .inl ((cT 1), 1, .inr (.inl (vp_updL fo (0 : Int32).toNatClampNeg ((nI (len + 7)).toInt64)))))]) [1, 2, 3, 0] rfl
  have hD9 := hD.sub (ws' := [(ds, .inr (0, [.ref dr, .ref sv])), (dr, .inr (2, [.ref rr, .int (nI (len + 7))])), (rr, .inl ((cT 0), 1000, .inl g_11)), (ou, .inl ((cT 1), 1, .inr (.inl (vp_updL fo (0 : Int32).toNatClampNeg ((nI (len + 7)).toInt64)))))]) [1, 2, 3, 0] (by decide) rfl
  exact W.iret (v := 0) hx hb hr (fun t ht hW => ⟨⟨_, ⟨len + 7, g_11, vp_updL fo (0 : Int32).toNatClampNeg ((nI (len + 7)).toInt64)⟩, rfl, ⟨by omega, by omega, hw12 hab⟩, by rw [ht]; exact hP9, va_K.moved hW.alike hK, hD9⟩, hS.F ht⟩) hS.2.2 d_Lw_hello_19
