theorem d_Lw_user_0 : decode b_Lw_user 0 = .ok (.aload 5, 2) := by decide +kernel
theorem d_Lw_user_2 : decode b_Lw_user 2 = .ok (.iconst 0, 1) := by decide +kernel
theorem d_Lw_user_3 : decode b_Lw_user 3 = .ok (.aload_n 0, 1) := by decide +kernel
theorem d_Lw_user_4 : decode b_Lw_user 4 = .ok (.iload_n 1, 1) := by decide +kernel
theorem d_Lw_user_5 : decode b_Lw_user 5 = .ok (.lload_n 2, 1) := by decide +kernel
theorem d_Lw_user_6 : decode b_Lw_user 6 = .ok (.iload 4, 2) := by decide +kernel
theorem d_Lw_user_8 : decode b_Lw_user 8 = .ok (.invokevirtual 15, 3) := by decide +kernel
theorem d_Lw_user_23 : decode b_Lw_user 23 = .ok (.astore 6, 2) := by decide +kernel
theorem d_Lw_user_25 : decode b_Lw_user 25 = .ok (.iconst 1, 1) := by decide +kernel
theorem d_Lw_user_26 : decode b_Lw_user 26 = .ok (.ireturn, 1) := by decide +kernel
theorem d_Lw_user_11 : decode b_Lw_user 11 = .ok (.ifCond .eq 7, 3) := by decide +kernel
theorem d_Lw_user_18 : decode b_Lw_user 18 = .ok (.lconst 0, 1) := by decide +kernel
theorem d_Lw_user_19 : decode b_Lw_user 19 = .ok (.lastore, 1) := by decide +kernel
theorem d_Lw_user_20 : decode b_Lw_user 20 = .ok (.goto 7, 3) := by decide +kernel
theorem d_Lw_user_27 : decode b_Lw_user 27 = .ok (.iconst 0, 1) := by decide +kernel
theorem d_Lw_user_28 : decode b_Lw_user 28 = .ok (.ireturn, 1) := by decide +kernel
theorem d_Lw_user_14 : decode b_Lw_user 14 = .ok (.lconst 1, 1) := by decide +kernel
theorem d_Lw_user_15 : decode b_Lw_user 15 = .ok (.goto 4, 3) := by decide +kernel
def OKU (x y : Int32) : Prop := ¬ x < 0 ∧ ¬ 31 < x ∧ ¬ y < 1 ∧ ¬ 60 < y
theorem nlt31 {x : Int32} (h : nI 32 ≤ x) : 31 < x := (lt_le1 (a := 31) (b := nI 32) (by decide)).mpr h
theorem nlt60 {x : Int32} (h : nI 61 ≤ x) : 60 < x := (lt_le1 (a := 60) (b := nI 61) (by decide)).mpr h
theorem okU {a b : Nat} (h1 : a < 32) (h2 : 1 ≤ b) (h3 : b ≤ 60) : OKU (nI a) (nI b) := ⟨nI_pos (by omega), nI_nlt (a := 31) (by omega) (by decide), nI_nlt (b := 1) h2 (by omega), nI_nlt (a := 60) h3 (by decide)⟩
set_option maxHeartbeats 4000000 in
set_option maxRecDepth 100000 in
/-- the law: user -/
theorem lx_user (l : Launch) (dC : Nat → ClassId) (dI : Nat → Nat → Nat) (cT : Nat → ClassId) (sz : Nat) (ds : Nat) (dr : Nat) (sv : Nat) (rr : Nat) (g0 : Nat) (se : Nat) (pw : Nat) (ty : Nat) (an : Nat) (aw : Nat) (ts : Nat) (ss : Nat) (rq : Nat) (tm : Int32) (n3 : Int32) (n4 : Int32) (gp : Nat → Option Nat) (L : List Nat) (F : Nat → va_E) (kd : Nat → Nat) (si : Nat → Nat) (ro : Nat → Nat) (rb : Nat → Nat) (x : Int32) (v : Int64) (y : Int32) (ou : Nat) (fo : Nat → Int64) (hfl : l.flags = pinnedFlags ++ [noTraceFlag]) (hgp : ∀ i9, i9 < 32 → ∃ q9, gp i9 = some q9 ∧ q9 ∈ L ∧ kd q9 = 1 ∧ si (ro q9) = 60) (hnd : L.Nodup) (hsh : SHP L kd si ro rb) (hF : PLS cT kd si ro rb L F) : Met l y_Lw_user (Cond.codeWith y_Lw_user b_Lw_user 7 (Option.some Jvm.ClassFile.FieldType.int) [((0 : Nat), (20 : Nat), (23 : Nat), (13 : Nat))] :: BIG) ({ frames := 10, cells := 1, slots := 6, locals := 175 }) (va_Pc [.ref ds, .int x, .long v, .int y, .ref ou] (fun U => U.heap.size = sz ∧ va_P (dC, dI) vcl ([(ds, .inr (0, [.ref dr, .ref sv])), (sv, .inr (5, [.ref se, .ref pw, .ref g0, .ref ty, .ref an, .ref aw, .ref ts, .ref ss, .ref rq, .int tm, .int n3, .int n4])), (pw, .inl ((cT 2), 32, .inr (.inr (.inr (.inr gp))))), (ou, .inl ((cT 1), 1, .inr (.inl fo)))] ++ va_pl L F) U.heap ∧ va_K (dC, dI) vcl (tyL cT) U ∧ va_D (fun _ => True) ([(ds, .inr (0, [.ref dr, .ref sv])), (sv, .inr (5, [.ref se, .ref pw, .ref g0, .ref ty, .ref an, .ref aw, .ref ts, .ref ss, .ref rq, .int tm, .int n3, .int n4])), (pw, .inl ((cT 2), 32, .inr (.inr (.inr (.inr gp))))), (ou, .inl ((cT 1), 1, .inr (.inl fo)))] ++ va_pl L F) ∧ xs_T (fun _ => False) U U.heap)) (va_Qi (S := (Nat → va_E) × (Nat → Nat) × (Nat → Int64)) (fun rv9 u => match u with | (F2, rb2, fo2) => ((rv9 = 1 ∧ ¬ OKU x y ∧ rb2 = rb) ∨ (rv9 = 0 ∧ OKU x y ∧ ∃ us q k : Nat, x = nI us ∧ us < 32 ∧ gp us = some q ∧ kd q = 1 ∧ 1 ≤ k ∧ rb2 = va_up rb q k ∧ (rb q = 0 → fo2 (0 : Int32).toNatClampNeg = 1) ∧ (0 < rb q → fo2 (0 : Int32).toNatClampNeg = 0))) ∧ PLS cT kd si ro rb2 L F2) (fun u t => match u with | (F2, rb2, fo2) => va_P (dC, dI) vcl ([(ds, .inr (0, [.ref dr, .ref sv])), (sv, .inr (5, [.ref se, .ref pw, .ref g0, .ref ty, .ref an, .ref aw, .ref ts, .ref ss, .ref rq, .int tm, .int n3, .int n4])), (pw, .inl ((cT 2), 32, .inr (.inr (.inr (.inr gp))))), (ou, .inl ((cT 1), 1, .inr (.inl fo2)))] ++ va_pl L F2) t.heap ∧ va_K (dC, dI) vcl (tyL cT) t ∧ va_D (va_A ([(ds, .inr (0, [.ref dr, .ref sv])), (sv, .inr (5, [.ref se, .ref pw, .ref g0, .ref ty, .ref an, .ref aw, .ref ts, .ref ss, .ref rq, .int tm, .int n3, .int n4])), (pw, .inl ((cT 2), 32, .inr (.inr (.inr (.inr gp))))), (ou, .inl ((cT 1), 1, .inr (.inl fo)))] ++ va_pl L F) sz) ([(ds, .inr (0, [.ref dr, .ref sv])), (sv, .inr (5, [.ref se, .ref pw, .ref g0, .ref ty, .ref an, .ref aw, .ref ts, .ref ss, .ref rq, .int tm, .int n3, .int n4])), (pw, .inl ((cT 2), 32, .inr (.inr (.inr (.inr gp))))), (ou, .inl ((cT 1), 1, .inr (.inl fo2)))] ++ va_pl L F2)) (va_A ([(ds, .inr (0, [.ref dr, .ref sv])), (sv, .inr (5, [.ref se, .ref pw, .ref g0, .ref ty, .ref an, .ref aw, .ref ts, .ref ss, .ref rq, .int tm, .int n3, .int n4])), (pw, .inl ((cT 2), 32, .inr (.inr (.inr (.inr gp))))), (ou, .inl ((cT 1), 1, .inr (.inl fo)))] ++ va_pl L F) sz)) 1 6 (va_A ([(ds, .inr (0, [.ref dr, .ref sv])), (sv, .inr (5, [.ref se, .ref pw, .ref g0, .ref ty, .ref an, .ref aw, .ref ts, .ref ss, .ref rq, .int tm, .int n3, .int n4])), (pw, .inl ((cT 2), 32, .inr (.inr (.inr (.inr gp))))), (ou, .inl ((cT 1), 1, .inr (.inl fo)))] ++ va_pl L F) sz) := by
  refine xw_Met (cc := b_Lw_user) (maxL := 7) (ret := (Option.some Jvm.ClassFile.FieldType.int)) (hh := [((0 : Nat), (20 : Nat), (23 : Nat), (13 : Nat))]) (by decide) rfl ?_
  intro p e s m args below meth c s₁ B hml hv htab
  obtain ⟨hargs, hsz, hP, hK, hD0, hE⟩ := hv
  have hx := B.exec
  have hb := B.bytes
  have hr := B.returns
  have hts := atoms_spec (ws := (Cond.codeWith y_Lw_user b_Lw_user 7 (Option.some Jvm.ClassFile.FieldType.int) [((0 : Nat), (20 : Nat), (23 : Nat), (13 : Nat))] :: BIG)) B.pre
  have hg : ∀ w ∈ BIG, w.before _ s = true := fun w h => hts w (List.mem_cons_of_mem _ h)
  have hown : s.vm.findClass "DoorServerLaw" = some m.cls := findClass_of_methodNamed B.named
  have hlocks := B.notSynchronized
  subst hsz
  have hD := hD0.self (sz := s.heap.size)
  generalize hAe : va_A ([(ds, .inr (0, [.ref dr, .ref sv])), (sv, .inr (5, [.ref se, .ref pw, .ref g0, .ref ty, .ref an, .ref aw, .ref ts, .ref ss, .ref rq, .int tm, .int n3, .int n4])), (pw, .inl ((cT 2), 32, .inr (.inr (.inr (.inr gp))))), (ou, .inl ((cT 1), 1, .inr (.inl fo)))] ++ va_pl L F) s.heap.size = A at hD ⊢
  have hA : ∀ q : Nat, s.heap.size ≤ q → A q := fun q h => by rw [← hAe]; exact Or.inr h
  have hS : va_S A s.heap s.heap [] := va_S.rf
  have hl := lv_entry ([.ref ds, .int x, .long v, .int y, .ref ou]) (n := 7) (Nat.le_of_ble_eq_true rfl)
  refine W.eq (g2 := entryFrame m (List.toArray [.ref ds, .int x, .long v, .int y, .ref ou]) 7) (by rw [hargs]) ?_
  rw [lg_entry_eq]
  generalize (lg_sl ([.ref ds, .int x, .long v, .int y, .ref ou]) ++ List.replicate (7 - (lg_sl ([.ref ds, .int x, .long v, .int y, .ref ou])).length) Slot.unset).toArray = ls at hl ⊢
  have hl : lv_has ls 7 [(0, .ref ds), (1, .int x), (2, .long v), (4, .int y), (5, .ref ou)] := hl
  change W p l e ({ frames := 10, cells := 1, slots := 6, locals := 175 } : Room) s m args below meth c s.heap [] 0 0 _ _
  have hP : va_P (dC, dI) vcl ([(ds, .inr (0, [.ref dr, .ref sv])), (sv, .inr (5, [.ref se, .ref pw, .ref g0, .ref ty, .ref an, .ref aw, .ref ts, .ref ss, .ref rq, .int tm, .int n3, .int n4])), (pw, .inl ((cT 2), 32, .inr (.inr (.inr (.inr gp))))), (ou, .inl ((cT 1), 1, .inr (.inl fo)))] ++ va_pl L F) s.heap := hP
  have hEz := hE
  refine lv_aload hx hb d_Lw_user_0 (lv_at hl 4 rfl) ?_
  refine lv_iconst (v := 0) hx hb d_Lw_user_2 (by decide) ?_
  refine lv_aload_n hx hb d_Lw_user_3 rfl (lv_at hl 0 rfl) ?_
  refine lv_iload_n hx hb d_Lw_user_4 rfl (lv_at hl 1 rfl) ?_
  refine lv_lload_n hx hb d_Lw_user_5 rfl (lv_at hl 2 rfl) ?_
  refine lv_iload hx hb d_Lw_user_6 (lv_at hl 3 rfl) ?_
  by_cases h1 : x < 0 ∨ 31 < x
  · skip
    have hPx := hP.sub (ws' := []) [] rfl
    refine xk_callV (C := "DoorServer") (As := [.int x, .long v, .int y]) (rest := [.int 0, .ref ou]) ⟨hx, hb, hml, hown, hg⟩ (x_user1 l hfl dC dI cT ds x v y (h1)) (cwV 3 hg (gI (List.forall_mem_append.mpr ⟨List.forall_mem_cons.mpr ⟨k_471, List.forall_mem_cons.mpr ⟨k_472, List.forall_mem_cons.mpr ⟨k_473, List.forall_mem_cons.mpr ⟨k_1, fun _ h => absurd h List.not_mem_nil⟩⟩⟩⟩, List.forall_mem_cons.mpr ⟨k_474, fun _ h => h⟩⟩)) rfl rfl rfl (by decide +kernel) ⟨Nat.le_of_ble_eq_true rfl, Nat.le_of_ble_eq_true rfl⟩) ⟨fun a U g mk q => ?_, va_recv (q0 := 0) (ci := 0) hK hP rfl rfl, fun U hU hW => ⟨rfl, ?_, ?_, va_K.moved hW.alike hK⟩⟩ rfl hl.1 rfl (Nat.le_of_ble_eq_true rfl) d_Lw_user_8 ⟨Nat.le_of_ble_eq_true rfl, Nat.le_of_ble_eq_true rfl⟩ (xk_catch1 htab (by decide) (by decide) hown (hg _ k_382) (va_Nw.use rfl hEz.1.1.1) (fun x9 H1 hz1 hz2 hz3 => ?_))
    · obtain ⟨q0, q1, q2, q3⟩ := q
      exact ⟨q0, q1.at (State.WarmedH.refl _) (fun _ _ _ => rfl) (fun _ h => h), q2, va_K.moved (Vm.Alike.refl U.vm) q3⟩
    · show xz_T _ U U.heap; rw [hU]; exact hEz.1.at hW (fun _ _ _ => rfl) (fun _ h => h)
    · show va_P _ _ _ U.heap; rw [hU]; exact hPx
    · refine W.eq (g2 := F0 m 23 ls [.ref x9]) rfl ?_
      refine lv_astore (lv' := [(6, .ref x9), (0, .ref ds), (1, .int x), (2, .long v), (4, .int y), (5, .ref ou)]) hx hb d_Lw_user_23 hl (by decide) rfl (fun ls hl => ?_)
      refine lv_iconst (v := 1) hx hb d_Lw_user_25 (by decide) ?_
      have hP : va_P (dC, dI) vcl ([(ds, .inr (0, [.ref dr, .ref sv])), (sv, .inr (5, [.ref se, .ref pw, .ref g0, .ref ty, .ref an, .ref aw, .ref ts, .ref ss, .ref rq, .int tm, .int n3, .int n4])), (pw, .inl ((cT 2), 32, .inr (.inr (.inr (.inr gp))))), (ou, .inl ((cT 1), 1, .inr (.inl fo)))] ++ va_pl L F) H1 := hP.kept (fun k q hk => hz3 q.1 (hP k q hk).lt)
      have hP9 := hP.part (cx := [(ds, .inr (0, [.ref dr, .ref sv])), (sv, .inr (5, [.ref se, .ref pw, .ref g0, .ref ty, .ref an, .ref aw, .ref ts, .ref ss, .ref rq, .int tm, .int n3, .int n4])), (pw, .inl ((cT 2), 32, .inr (.inr (.inr (.inr gp))))), (ou, .inl ((cT 1), 1, .inr (.inl fo)))]) [0, 1, 2, 3] rfl
      have hD9 := hD.part (cx := [(ds, .inr (0, [.ref dr, .ref sv])), (sv, .inr (5, [.ref se, .ref pw, .ref g0, .ref ty, .ref an, .ref aw, .ref ts, .ref ss, .ref rq, .int tm, .int n3, .int n4])), (pw, .inl ((cT 2), 32, .inr (.inr (.inr (.inr gp))))), (ou, .inl ((cT 1), 1, .inr (.inl fo)))]) [0, 1, 2, 3] (by decide) rfl
      exact W.iret (v := 1) hx hb hr (fun t ht hW => ⟨⟨_, ⟨F, rb, fo⟩, rfl, ⟨Or.inl ⟨rfl, fun h9 => h1.elim h9.1 h9.2.1, rfl⟩, hF⟩, by rw [ht]; exact hP9, va_K.moved hW.alike hK, hD9⟩, by rw [ht]; exact hz2, fun q h4 _ => by rw [ht]; exact hz3 q h4⟩) (fun q h => by cases h) d_Lw_user_26
  have h1a : ¬ (x < 0) := fun h9 => h1 (Or.inl h9)
  have h1b : ¬ (31 < x) := fun h9 => h1 (Or.inr h9)
  by_cases h2 : y < 1 ∨ 60 < y
  · skip
    have hPx := hP.sub (ws' := []) [] rfl
    refine xk_callV (C := "DoorServer") (As := [.int x, .long v, .int y]) (rest := [.int 0, .ref ou]) ⟨hx, hb, hml, hown, hg⟩ (x_user2 l hfl dC dI cT ds x v y (h1a) (h1b) (h2)) (cwV 3 hg (gI (List.forall_mem_append.mpr ⟨List.forall_mem_cons.mpr ⟨k_471, List.forall_mem_cons.mpr ⟨k_472, List.forall_mem_cons.mpr ⟨k_473, List.forall_mem_cons.mpr ⟨k_1, fun _ h => absurd h List.not_mem_nil⟩⟩⟩⟩, List.forall_mem_cons.mpr ⟨k_474, fun _ h => h⟩⟩)) rfl rfl rfl (by decide +kernel) ⟨Nat.le_of_ble_eq_true rfl, Nat.le_of_ble_eq_true rfl⟩) ⟨fun a U g mk q => ?_, va_recv (q0 := 0) (ci := 0) hK hP rfl rfl, fun U hU hW => ⟨rfl, ?_, ?_, va_K.moved hW.alike hK⟩⟩ rfl hl.1 rfl (Nat.le_of_ble_eq_true rfl) d_Lw_user_8 ⟨Nat.le_of_ble_eq_true rfl, Nat.le_of_ble_eq_true rfl⟩ (xk_catch1 htab (by decide) (by decide) hown (hg _ k_382) (va_Nw.use rfl hEz.1.1.1) (fun x9 H1 hz1 hz2 hz3 => ?_))
    · obtain ⟨q0, q1, q2, q3⟩ := q
      exact ⟨q0, q1.at (State.WarmedH.refl _) (fun _ _ _ => rfl) (fun _ h => h), q2, va_K.moved (Vm.Alike.refl U.vm) q3⟩
    · show xz_T _ U U.heap; rw [hU]; exact hEz.1.at hW (fun _ _ _ => rfl) (fun _ h => h)
    · show va_P _ _ _ U.heap; rw [hU]; exact hPx
    · refine W.eq (g2 := F0 m 23 ls [.ref x9]) rfl ?_
      refine lv_astore (lv' := [(6, .ref x9), (0, .ref ds), (1, .int x), (2, .long v), (4, .int y), (5, .ref ou)]) hx hb d_Lw_user_23 hl (by decide) rfl (fun ls hl => ?_)
      refine lv_iconst (v := 1) hx hb d_Lw_user_25 (by decide) ?_
      have hP : va_P (dC, dI) vcl ([(ds, .inr (0, [.ref dr, .ref sv])), (sv, .inr (5, [.ref se, .ref pw, .ref g0, .ref ty, .ref an, .ref aw, .ref ts, .ref ss, .ref rq, .int tm, .int n3, .int n4])), (pw, .inl ((cT 2), 32, .inr (.inr (.inr (.inr gp))))), (ou, .inl ((cT 1), 1, .inr (.inl fo)))] ++ va_pl L F) H1 := hP.kept (fun k q hk => hz3 q.1 (hP k q hk).lt)
      have hP9 := hP.part (cx := [(ds, .inr (0, [.ref dr, .ref sv])), (sv, .inr (5, [.ref se, .ref pw, .ref g0, .ref ty, .ref an, .ref aw, .ref ts, .ref ss, .ref rq, .int tm, .int n3, .int n4])), (pw, .inl ((cT 2), 32, .inr (.inr (.inr (.inr gp))))), (ou, .inl ((cT 1), 1, .inr (.inl fo)))]) [0, 1, 2, 3] rfl
      have hD9 := hD.part (cx := [(ds, .inr (0, [.ref dr, .ref sv])), (sv, .inr (5, [.ref se, .ref pw, .ref g0, .ref ty, .ref an, .ref aw, .ref ts, .ref ss, .ref rq, .int tm, .int n3, .int n4])), (pw, .inl ((cT 2), 32, .inr (.inr (.inr (.inr gp))))), (ou, .inl ((cT 1), 1, .inr (.inl fo)))]) [0, 1, 2, 3] (by decide) rfl
      exact W.iret (v := 1) hx hb hr (fun t ht hW => ⟨⟨_, ⟨F, rb, fo⟩, rfl, ⟨Or.inl ⟨rfl, fun h9 => h2.elim h9.2.2.1 h9.2.2.2, rfl⟩, hF⟩, by rw [ht]; exact hP9, va_K.moved hW.alike hK, hD9⟩, by rw [ht]; exact hz2, fun q h4 _ => by rw [ht]; exact hz3 q h4⟩) (fun q h => by cases h) d_Lw_user_26
  have h2a : ¬ (y < 1) := fun h9 => h2 (Or.inl h9)
  have h2b : ¬ (60 < y) := fun h9 => h2 (Or.inr h9)
  obtain ⟨us, hus, rfl⟩ := rng_0 (M := 31) (n := 31) (by decide) h1a h1b
  obtain ⟨k, hk1, hk2, rfl⟩ := rng_1 (M := 60) (n := 60) (by decide) (by decide) h2a h2b
  obtain ⟨q, hq1, hq2, hq3, hq4⟩ := hgp us (by omega)
  obtain ⟨a1, a2, -⟩ := (hsh q hq2).1 hq3
  obtain ⟨n1, hFb, hn1⟩ := (hF q hq2).2.1 hq3
  obtain ⟨f1, hFr, hbr⟩ := (hF (ro q) a1).1 a2
  have ne1 : ro q ≠ q := kd_ne (kd := kd) (by omega)
  obtain ⟨hP, hD⟩ := pl_out (X := [(ds, .inr (0, [.ref dr, .ref sv])), (sv, .inr (5, [.ref se, .ref pw, .ref g0, .ref ty, .ref an, .ref aw, .ref ts, .ref ss, .ref rq, .int tm, .int n3, .int n4])), (pw, .inl ((cT 2), 32, .inr (.inr (.inr (.inr gp))))), (ou, .inl ((cT 1), 1, .inr (.inl fo)))]) hP hD (hq2) (hFb)
  have hP : va_P (dC, dI) vcl ([(ds, .inr (0, [.ref dr, .ref sv])), (sv, .inr (5, [.ref se, .ref pw, .ref g0, .ref ty, .ref an, .ref aw, .ref ts, .ref ss, .ref rq, .int tm, .int n3, .int n4])), (pw, .inl ((cT 2), 32, .inr (.inr (.inr (.inr gp))))), (ou, .inl ((cT 1), 1, .inr (.inl fo))), (q, .inr (1, [.ref (ro q), .int (nI n1)]))] ++ va_pl (L.erase q) F) s.heap := hP
  have hD : va_D A ([(ds, .inr (0, [.ref dr, .ref sv])), (sv, .inr (5, [.ref se, .ref pw, .ref g0, .ref ty, .ref an, .ref aw, .ref ts, .ref ss, .ref rq, .int tm, .int n3, .int n4])), (pw, .inl ((cT 2), 32, .inr (.inr (.inr (.inr gp))))), (ou, .inl ((cT 1), 1, .inr (.inl fo))), (q, .inr (1, [.ref (ro q), .int (nI n1)]))] ++ va_pl (L.erase q) F) := hD
  obtain ⟨hP, hD⟩ := pl_out (X := [(ds, .inr (0, [.ref dr, .ref sv])), (sv, .inr (5, [.ref se, .ref pw, .ref g0, .ref ty, .ref an, .ref aw, .ref ts, .ref ss, .ref rq, .int tm, .int n3, .int n4])), (pw, .inl ((cT 2), 32, .inr (.inr (.inr (.inr gp))))), (ou, .inl ((cT 1), 1, .inr (.inl fo))), (q, .inr (1, [.ref (ro q), .int (nI n1)]))]) hP hD ((List.mem_erase_of_ne ne1).mpr a1) (hFr)
  have hP : va_P (dC, dI) vcl ([(ds, .inr (0, [.ref dr, .ref sv])), (sv, .inr (5, [.ref se, .ref pw, .ref g0, .ref ty, .ref an, .ref aw, .ref ts, .ref ss, .ref rq, .int tm, .int n3, .int n4])), (pw, .inl ((cT 2), 32, .inr (.inr (.inr (.inr gp))))), (ou, .inl ((cT 1), 1, .inr (.inl fo))), (q, .inr (1, [.ref (ro q), .int (nI n1)])), (ro q, .inl ((cT 0), si (ro q), .inl f1))] ++ va_pl ((L.erase q).erase (ro q)) F) s.heap := hP
  have hD : va_D A ([(ds, .inr (0, [.ref dr, .ref sv])), (sv, .inr (5, [.ref se, .ref pw, .ref g0, .ref ty, .ref an, .ref aw, .ref ts, .ref ss, .ref rq, .int tm, .int n3, .int n4])), (pw, .inl ((cT 2), 32, .inr (.inr (.inr (.inr gp))))), (ou, .inl ((cT 1), 1, .inr (.inl fo))), (q, .inr (1, [.ref (ro q), .int (nI n1)])), (ro q, .inl ((cT 0), si (ro q), .inl f1))] ++ va_pl ((L.erase q).erase (ro q)) F) := hD
  rw [hq4] at hn1
  have hnr : n1 = rb q := by
    have h9 := (hF q hq2).2.2.2.2.2 hq3 hq4
    have h8 := hFb.symm.trans h9.1
    simp only [Sum.inr.injEq, Prod.mk.injEq, List.cons.injEq, Value.int.injEq, true_and, and_true] at h8
    exact (nI_eq (by omega) (by have := h9.2; omega)).mp h8
  rw [hq4] at hP hD
  have hP : va_P (dC, dI) vcl ([(ds, .inr (0, [.ref dr, .ref sv])), (sv, .inr (5, [.ref se, .ref pw, .ref g0, .ref ty, .ref an, .ref aw, .ref ts, .ref ss, .ref rq, .int tm, .int n3, .int n4])), (pw, .inl ((cT 2), 32, .inr (.inr (.inr (.inr gp))))), (ou, .inl ((cT 1), 1, .inr (.inl fo))), (q, .inr (1, [.ref (ro q), .int (nI n1)])), (ro q, .inl ((cT 0), 60, .inl f1))] ++ va_pl ((L.erase q).erase (ro q)) F) s.heap := hP
  have hD : va_D A ([(ds, .inr (0, [.ref dr, .ref sv])), (sv, .inr (5, [.ref se, .ref pw, .ref g0, .ref ty, .ref an, .ref aw, .ref ts, .ref ss, .ref rq, .int tm, .int n3, .int n4])), (pw, .inl ((cT 2), 32, .inr (.inr (.inr (.inr gp))))), (ou, .inl ((cT 1), 1, .inr (.inl fo))), (q, .inr (1, [.ref (ro q), .int (nI n1)])), (ro q, .inl ((cT 0), 60, .inl f1))] ++ va_pl ((L.erase q).erase (ro q)) F) := hD
  have hPc := hP.sub (ws' := [(ds, .inr (0, [.ref dr, .ref sv])), (sv, .inr (5, [.ref se, .ref pw, .ref g0, .ref ty, .ref an, .ref aw, .ref ts, .ref ss, .ref rq, .int tm, .int n3, .int n4])), (pw, .inl ((cT 2), 32, .inr (.inr (.inr (.inr gp))))), (q, .inr (1, [.ref (ro q), .int (nI n1)])), (ro q, .inl ((cT 0), 60, .inl f1))]) [0, 1, 2, 4, 5] rfl
  have hDc := hD.sub (ws' := [(ds, .inr (0, [.ref dr, .ref sv])), (sv, .inr (5, [.ref se, .ref pw, .ref g0, .ref ty, .ref an, .ref aw, .ref ts, .ref ss, .ref rq, .int tm, .int n3, .int n4])), (pw, .inl ((cT 2), 32, .inr (.inr (.inr (.inr gp))))), (q, .inr (1, [.ref (ro q), .int (nI n1)])), (ro q, .inl ((cT 0), 60, .inl f1))]) [0, 1, 2, 4, 5] (by decide) rfl
  have hFc := va_free (wc := [(ds, .inr (0, [.ref dr, .ref sv])), (sv, .inr (5, [.ref se, .ref pw, .ref g0, .ref ty, .ref an, .ref aw, .ref ts, .ref ss, .ref rq, .int tm, .int n3, .int n4])), (pw, .inl ((cT 2), 32, .inr (.inr (.inr (.inr gp))))), (q, .inr (1, [.ref (ro q), .int (nI n1)])), (ro q, .inl ((cT 0), 60, .inl f1))]) hD hS hA [0, 1, 2, 4, 5] rfl
  refine va_calli (va_runV (C := "DoorServer") (As := [.int (nI us), .long v, .int (nI k)]) (rest := [.int 0, .ref ou]) ⟨hx, hb, hml, hown, hg⟩ (c_user l dC dI cT s.heap.size ds dr sv rr g0 se pw ty an aw ts ss rq tm n3 n4 q (ro q) n1 f1 gp us v k (by omega) (hq1) (hn1) (hk1) (hk2)) (cwV 3 hg (gI (List.forall_mem_append.mpr ⟨List.forall_mem_cons.mpr ⟨k_471, List.forall_mem_cons.mpr ⟨k_472, List.forall_mem_cons.mpr ⟨k_473, List.forall_mem_cons.mpr ⟨k_1, fun _ h => absurd h List.not_mem_nil⟩⟩⟩⟩, List.forall_mem_cons.mpr ⟨k_474, fun _ h => h⟩⟩)) rfl rfl rfl (by decide +kernel) ⟨Nat.le_of_ble_eq_true rfl, Nat.le_of_ble_eq_true rfl⟩) ⟨fun a U g mk q => by obtain ⟨q0, q1, qP, qK, qD⟩ := q; exact ⟨q0, q1, qP, va_K.moved (u := U) (U := U.calling g mk a) (Vm.Alike.refl U.vm) qK, qD⟩, va_recv (q0 := 0) (ci := 0) hK hP rfl rfl, fun U hU hW => ⟨rfl, by rw [hU], by rw [hU]; exact hPc, va_K.moved hW.alike hK, hDc.weaken (fun _ _ _ _ => trivial)⟩⟩ rfl rfl hl.1 rfl (lv_room (Nat.le_of_ble_eq_true rfl)) d_Lw_user_8 ⟨Nat.le_of_ble_eq_true rfl, Nat.le_of_ble_eq_true rfl⟩) hS (fun q _ h => hFc q h) hFc (fun rv9 u t H1 locs ht hvm hw hB hz1 hk1 hS => ?_)
  obtain ⟨g_1, rfl⟩ : ∃ z, z = u := ⟨_, rfl⟩
  try dsimp only at hw hB
  obtain ⟨hP1, hK1, hD1⟩ := hB
  rw [ht] at hP1
  generalize rv9 = r2 at hw ⊢
  obtain ⟨hP, hD⟩ := va_joinQ (X := [(ds, .inr (0, [.ref dr, .ref sv])), (sv, .inr (5, [.ref se, .ref pw, .ref g0, .ref ty, .ref an, .ref aw, .ref ts, .ref ss, .ref rq, .int tm, .int n3, .int n4])), (pw, .inl ((cT 2), 32, .inr (.inr (.inr (.inr gp))))), (ou, .inl ((cT 1), 1, .inr (.inl fo))), (q, .inr (1, [.ref (ro q), .int (nI n1)])), (ro q, .inl ((cT 0), 60, .inl f1))]) (cx := [(ds, .inr (0, [.ref dr, .ref sv])), (sv, .inr (5, [.ref se, .ref pw, .ref g0, .ref ty, .ref an, .ref aw, .ref ts, .ref ss, .ref rq, .int tm, .int n3, .int n4])), (pw, .inl ((cT 2), 32, .inr (.inr (.inr (.inr gp))))), (q, .inr (1, [.ref (ro q), .int (nI n1)])), (ro q, .inl ((cT 0), 60, .inl f1))]) (wr := [(ou, .inl ((cT 1), 1, .inr (.inl fo)))]) (w1 := [(ds, .inr (0, [.ref dr, .ref sv])), (sv, .inr (5, [.ref se, .ref pw, .ref g0, .ref ty, .ref an, .ref aw, .ref ts, .ref ss, .ref rq, .int tm, .int n3, .int n4])), (pw, .inl ((cT 2), 32, .inr (.inr (.inr (.inr gp))))), (q, .inr (1, [.ref (ro q), .int (nI k)])), (ro q, .inl ((cT 0), 60, .inl g_1))]) hP hD [0, 1, 2, 4, 5] [3] rfl rfl (by decide) (by decide) hk1 hFc hP1 hD1
  have hw3 := hw
  clear hPc hDc hFc hz1 hk1 hP1 hK1 hD1
  generalize H1 = H at hP hS ⊢
  have hP : va_P (dC, dI) vcl ([(ou, .inl ((cT 1), 1, .inr (.inl fo))), (ds, .inr (0, [.ref dr, .ref sv])), (sv, .inr (5, [.ref se, .ref pw, .ref g0, .ref ty, .ref an, .ref aw, .ref ts, .ref ss, .ref rq, .int tm, .int n3, .int n4])), (pw, .inl ((cT 2), 32, .inr (.inr (.inr (.inr gp))))), (q, .inr (1, [.ref (ro q), .int (nI k)])), (ro q, .inl ((cT 0), 60, .inl g_1))] ++ va_pl ((L.erase q).erase (ro q)) F) H := hP
  have hD : va_D A ([(ou, .inl ((cT 1), 1, .inr (.inl fo))), (ds, .inr (0, [.ref dr, .ref sv])), (sv, .inr (5, [.ref se, .ref pw, .ref g0, .ref ty, .ref an, .ref aw, .ref ts, .ref ss, .ref rq, .int tm, .int n3, .int n4])), (pw, .inl ((cT 2), 32, .inr (.inr (.inr (.inr gp))))), (q, .inr (1, [.ref (ro q), .int (nI k)])), (ro q, .inl ((cT 0), 60, .inl g_1))] ++ va_pl ((L.erase q).erase (ro q)) F) := hD
  obtain ⟨hP, hD⟩ := pl_in (X := [(ou, .inl ((cT 1), 1, .inr (.inl fo))), (ds, .inr (0, [.ref dr, .ref sv])), (sv, .inr (5, [.ref se, .ref pw, .ref g0, .ref ty, .ref an, .ref aw, .ref ts, .ref ss, .ref rq, .int tm, .int n3, .int n4])), (pw, .inl ((cT 2), 32, .inr (.inr (.inr (.inr gp))))), (q, .inr (1, [.ref (ro q), .int (nI k)]))]) hP hD ((List.mem_erase_of_ne ne1).mpr a1) (hnd.erase q)
  have hP : va_P (dC, dI) vcl ([(ou, .inl ((cT 1), 1, .inr (.inl fo))), (ds, .inr (0, [.ref dr, .ref sv])), (sv, .inr (5, [.ref se, .ref pw, .ref g0, .ref ty, .ref an, .ref aw, .ref ts, .ref ss, .ref rq, .int tm, .int n3, .int n4])), (pw, .inl ((cT 2), 32, .inr (.inr (.inr (.inr gp))))), (q, .inr (1, [.ref (ro q), .int (nI k)]))] ++ va_pl (L.erase q) (va_up F (ro q) (.inl ((cT 0), 60, .inl g_1)))) H := hP
  have hD : va_D A ([(ou, .inl ((cT 1), 1, .inr (.inl fo))), (ds, .inr (0, [.ref dr, .ref sv])), (sv, .inr (5, [.ref se, .ref pw, .ref g0, .ref ty, .ref an, .ref aw, .ref ts, .ref ss, .ref rq, .int tm, .int n3, .int n4])), (pw, .inl ((cT 2), 32, .inr (.inr (.inr (.inr gp))))), (q, .inr (1, [.ref (ro q), .int (nI k)]))] ++ va_pl (L.erase q) (va_up F (ro q) (.inl ((cT 0), 60, .inl g_1)))) := hD
  obtain ⟨hP, hD⟩ := pl_in (X := [(ou, .inl ((cT 1), 1, .inr (.inl fo))), (ds, .inr (0, [.ref dr, .ref sv])), (sv, .inr (5, [.ref se, .ref pw, .ref g0, .ref ty, .ref an, .ref aw, .ref ts, .ref ss, .ref rq, .int tm, .int n3, .int n4])), (pw, .inl ((cT 2), 32, .inr (.inr (.inr (.inr gp)))))]) hP hD (hq2) (hnd)
  have hP : va_P (dC, dI) vcl ([(ou, .inl ((cT 1), 1, .inr (.inl fo))), (ds, .inr (0, [.ref dr, .ref sv])), (sv, .inr (5, [.ref se, .ref pw, .ref g0, .ref ty, .ref an, .ref aw, .ref ts, .ref ss, .ref rq, .int tm, .int n3, .int n4])), (pw, .inl ((cT 2), 32, .inr (.inr (.inr (.inr gp)))))] ++ va_pl L (va_up (va_up F (ro q) (.inl ((cT 0), 60, .inl g_1))) q (.inr (1, [.ref (ro q), .int (nI k)])))) H := hP
  have hD : va_D A ([(ou, .inl ((cT 1), 1, .inr (.inl fo))), (ds, .inr (0, [.ref dr, .ref sv])), (sv, .inr (5, [.ref se, .ref pw, .ref g0, .ref ty, .ref an, .ref aw, .ref ts, .ref ss, .ref rq, .int tm, .int n3, .int n4])), (pw, .inl ((cT 2), 32, .inr (.inr (.inr (.inr gp)))))] ++ va_pl L (va_up (va_up F (ro q) (.inl ((cT 0), 60, .inl g_1))) q (.inr (1, [.ref (ro q), .int (nI k)])))) := hD
  have hc0 : PLC cT kd si ro rb (ro q) (.inl (cT 0, 60, .inl g_1)) := by have h := PLC0 (cT := cT) (si := si) (ro := ro) (rb := rb) a2 (hw3.2 hbr); rw [hq4] at h; exact h
  have hF9 : PLS cT kd si ro (va_up rb q k) L (va_up (va_up F (ro q) (.inl ((cT 0), 60, .inl g_1))) q (.inr (1, [.ref (ro q), .int (nI k)]))) := PLS_rb (PLS_up hF hc0) (PLC1 hq3 (by omega) (fun _ => (va_up_self rb q k).symm))
  refine lv_if_eq (tgt := 18) hx hb d_Lw_user_11 (by decide) (fun hc4 => ?_) (fun hc4 => ?_)
  · skip
    refine lv_lconst (v := 0) hx hb d_Lw_user_18 (by decide) ?_
    refine va_last hx hb hK hP hD hS 0 1 rfl rfl (i := 0) (vp_in_nI (n := 0) (N := 1) (by decide) (by decide)) d_Lw_user_19 (fun H locs hP hD hS => ?_)
    have hP : va_P (dC, dI) vcl ([(ou, .inl ((cT 1), 1, .inr (.inl (vp_updL fo (0 : Int32).toNatClampNeg 0)))), (ds, .inr (0, [.ref dr, .ref sv])), (sv, .inr (5, [.ref se, .ref pw, .ref g0, .ref ty, .ref an, .ref aw, .ref ts, .ref ss, .ref rq, .int tm, .int n3, .int n4])), (pw, .inl ((cT 2), 32, .inr (.inr (.inr (.inr gp)))))] ++ va_pl L (va_up (va_up F (ro q) (.inl ((cT 0), 60, .inl g_1))) q (.inr (1, [.ref (ro q), .int (nI k)])))) H := hP
    have hD : va_D A ([(ou, .inl ((cT 1), 1, .inr (.inl (vp_updL fo (0 : Int32).toNatClampNeg 0)))), (ds, .inr (0, [.ref dr, .ref sv])), (sv, .inr (5, [.ref se, .ref pw, .ref g0, .ref ty, .ref an, .ref aw, .ref ts, .ref ss, .ref rq, .int tm, .int n3, .int n4])), (pw, .inl ((cT 2), 32, .inr (.inr (.inr (.inr gp)))))] ++ va_pl L (va_up (va_up F (ro q) (.inl ((cT 0), 60, .inl g_1))) q (.inr (1, [.ref (ro q), .int (nI k)])))) := hD
    refine lv_goto (tgt := 27) hx hb d_Lw_user_20 (by decide) ?_
    refine lv_iconst (v := 0) hx hb d_Lw_user_27 (by decide) ?_
    refine W.widen (k := 1) (n := 6) (Nat.le_of_ble_eq_true rfl) (Nat.le_of_ble_eq_true rfl) ?_
    have hP9 := hP.part (cx := [(ds, .inr (0, [.ref dr, .ref sv])), (sv, .inr (5, [.ref se, .ref pw, .ref g0, .ref ty, .ref an, .ref aw, .ref ts, .ref ss, .ref rq, .int tm, .int n3, .int n4])), (pw, .inl ((cT 2), 32, .inr (.inr (.inr (.inr gp))))), (ou, .inl ((cT 1), 1, .inr (.inl (vp_updL fo (0 : Int32).toNatClampNeg 0))))]) [1, 2, 3, 0] rfl
    have hD9 := hD.part (cx := [(ds, .inr (0, [.ref dr, .ref sv])), (sv, .inr (5, [.ref se, .ref pw, .ref g0, .ref ty, .ref an, .ref aw, .ref ts, .ref ss, .ref rq, .int tm, .int n3, .int n4])), (pw, .inl ((cT 2), 32, .inr (.inr (.inr (.inr gp))))), (ou, .inl ((cT 1), 1, .inr (.inl (vp_updL fo (0 : Int32).toNatClampNeg 0))))]) [1, 2, 3, 0] (by decide) rfl
    exact W.iret (v := 0) hx hb hr (fun t ht hW => ⟨⟨_, ⟨va_up (va_up F (ro q) (.inl ((cT 0), 60, .inl g_1))) q (.inr (1, [.ref (ro q), .int (nI k)])), va_up rb q k, vp_updL fo (0 : Int32).toNatClampNeg 0⟩, rfl, ⟨Or.inr ⟨rfl, okU (by omega) hk1 hk2, us, q, k, rfl, by omega, hq1, hq3, hk1, rfl, fun h9 => absurd (hw3.1.1 (by omega)) (by rw [hc4]; decide), fun _ => pk_uLs⟩, hF9⟩, by rw [ht]; exact hP9, va_K.moved hW.alike hK, hD9⟩, hS.F ht⟩) hS.2.2 d_Lw_user_28
  · skip
    refine lv_lconst (v := 1) hx hb d_Lw_user_14 (by decide) ?_
    refine lv_goto (tgt := 19) hx hb d_Lw_user_15 (by decide) ?_
    refine va_last hx hb hK hP hD hS 0 1 rfl rfl (i := 0) (vp_in_nI (n := 0) (N := 1) (by decide) (by decide)) d_Lw_user_19 (fun H locs hP hD hS => ?_)
    have hP : va_P (dC, dI) vcl ([(ou, .inl ((cT 1), 1, .inr (.inl (vp_updL fo (0 : Int32).toNatClampNeg 1)))), (ds, .inr (0, [.ref dr, .ref sv])), (sv, .inr (5, [.ref se, .ref pw, .ref g0, .ref ty, .ref an, .ref aw, .ref ts, .ref ss, .ref rq, .int tm, .int n3, .int n4])), (pw, .inl ((cT 2), 32, .inr (.inr (.inr (.inr gp)))))] ++ va_pl L (va_up (va_up F (ro q) (.inl ((cT 0), 60, .inl g_1))) q (.inr (1, [.ref (ro q), .int (nI k)])))) H := hP
    have hD : va_D A ([(ou, .inl ((cT 1), 1, .inr (.inl (vp_updL fo (0 : Int32).toNatClampNeg 1)))), (ds, .inr (0, [.ref dr, .ref sv])), (sv, .inr (5, [.ref se, .ref pw, .ref g0, .ref ty, .ref an, .ref aw, .ref ts, .ref ss, .ref rq, .int tm, .int n3, .int n4])), (pw, .inl ((cT 2), 32, .inr (.inr (.inr (.inr gp)))))] ++ va_pl L (va_up (va_up F (ro q) (.inl ((cT 0), 60, .inl g_1))) q (.inr (1, [.ref (ro q), .int (nI k)])))) := hD
    refine lv_goto (tgt := 27) hx hb d_Lw_user_20 (by decide) ?_
    refine lv_iconst (v := 0) hx hb d_Lw_user_27 (by decide) ?_
    refine W.widen (k := 1) (n := 6) (Nat.le_of_ble_eq_true rfl) (Nat.le_of_ble_eq_true rfl) ?_
    have hP9 := hP.part (cx := [(ds, .inr (0, [.ref dr, .ref sv])), (sv, .inr (5, [.ref se, .ref pw, .ref g0, .ref ty, .ref an, .ref aw, .ref ts, .ref ss, .ref rq, .int tm, .int n3, .int n4])), (pw, .inl ((cT 2), 32, .inr (.inr (.inr (.inr gp))))), (ou, .inl ((cT 1), 1, .inr (.inl (vp_updL fo (0 : Int32).toNatClampNeg 1))))]) [1, 2, 3, 0] rfl
    have hD9 := hD.part (cx := [(ds, .inr (0, [.ref dr, .ref sv])), (sv, .inr (5, [.ref se, .ref pw, .ref g0, .ref ty, .ref an, .ref aw, .ref ts, .ref ss, .ref rq, .int tm, .int n3, .int n4])), (pw, .inl ((cT 2), 32, .inr (.inr (.inr (.inr gp))))), (ou, .inl ((cT 1), 1, .inr (.inl (vp_updL fo (0 : Int32).toNatClampNeg 1))))]) [1, 2, 3, 0] (by decide) rfl
    exact W.iret (v := 0) hx hb hr (fun t ht hW => ⟨⟨_, ⟨va_up (va_up F (ro q) (.inl ((cT 0), 60, .inl g_1))) q (.inr (1, [.ref (ro q), .int (nI k)])), va_up rb q k, vp_updL fo (0 : Int32).toNatClampNeg 1⟩, rfl, ⟨Or.inr ⟨rfl, okU (by omega) hk1 hk2, us, q, k, rfl, by omega, hq1, hq3, hk1, rfl, fun _ => pk_uLs, fun h9 => absurd (hw3.1.2 (by omega)) hc4⟩, hF9⟩, by rw [ht]; exact hP9, va_K.moved hW.alike hK, hD9⟩, hS.F ht⟩) hS.2.2 d_Lw_user_28
set_option maxHeartbeats 4000000 in
set_option maxRecDepth 100000 in
/-- user -/
theorem ux_user (l : Launch) (dC : Nat → ClassId) (dI : Nat → Nat → Nat) (cT : Nat → ClassId) (sz : Nat) (mo : Nat) (r : Nat → Nat) (cd : Int32) (tm : Int32) (sn : Nat) (tx : Nat) (lz : Nat) (az : Nat) (na : Nat) (nt : Nat) (nr : Nat) (mw : Int32) (ml : Int32) (mk : Int64) (dq : Int64) (f5 : Nat → Int32) (f6 : Nat → Int32) (x : Int32) (v : Int64) (y : Int32) (h6 : BD 60 32 f6) : Met l y_Md_user (Cond.code y_Md_user b_Md_user 7 (Option.some Jvm.ClassFile.FieldType.boolean) :: BIG) ({ frames := 1, cells := 0, slots := 0, locals := 22 }) (va_Pc [.ref mo, .int x, .long v, .int y] (fun U => U.heap.size = sz ∧ va_P (dC, dI) vcl [(mo, .inr (12, mdG r cd tm (nI sn) (nI tx) (nI lz) (nI az) (nI na) (nI nt) (nI nr) mw ml mk dq)), (r 5, .inl ((cT 0), 1920, .inl f5)), (r 6, .inl ((cT 0), 32, .inl f6))] U.heap ∧ va_K (dC, dI) vcl (tyL cT) U ∧ va_D (fun _ => True) [(mo, .inr (12, mdG r cd tm (nI sn) (nI tx) (nI lz) (nI az) (nI na) (nI nt) (nI nr) mw ml mk dq)), (r 5, .inl ((cT 0), 1920, .inl f5)), (r 6, .inl ((cT 0), 32, .inl f6))])) (va_Qi (S := (Nat → Int32) × (Nat → Int32) × Int32) (fun rv9 u => match u with | (g5, g6, cd2) => ((cd2 = 1 ∧ ¬ OKU x y ∧ g6 = f6) ∨ (cd2 = 0 ∧ OKU x y ∧ ∃ us k : Nat, x = nI us ∧ us < 32 ∧ 1 ≤ k ∧ k ≤ 60 ∧ g6 = upd f6 us (nI k) ∧ (f6 us = 0 → rv9 = 1) ∧ (¬ f6 us = 0 → rv9 = 0))) ∧ (BD 60 32 g6)) (fun u t => match u with | (g5, g6, cd2) => va_P (dC, dI) vcl [(mo, .inr (12, mdG r cd2 tm (nI sn) (nI tx) (nI lz) (nI az) (nI na) (nI nt) (nI nr) mw ml mk dq)), (r 5, .inl ((cT 0), 1920, .inl g5)), (r 6, .inl ((cT 0), 32, .inl g6))] t.heap ∧ va_K (dC, dI) vcl (tyL cT) t ∧ va_D (va_A [(mo, .inr (12, mdG r cd tm (nI sn) (nI tx) (nI lz) (nI az) (nI na) (nI nt) (nI nr) mw ml mk dq)), (r 5, .inl ((cT 0), 1920, .inl f5)), (r 6, .inl ((cT 0), 32, .inl f6))] sz) [(mo, .inr (12, mdG r cd2 tm (nI sn) (nI tx) (nI lz) (nI az) (nI na) (nI nt) (nI nr) mw ml mk dq)), (r 5, .inl ((cT 0), 1920, .inl g5)), (r 6, .inl ((cT 0), 32, .inl g6))]) (va_A [(mo, .inr (12, mdG r cd tm (nI sn) (nI tx) (nI lz) (nI az) (nI na) (nI nt) (nI nr) mw ml mk dq)), (r 5, .inl ((cT 0), 1920, .inl f5)), (r 6, .inl ((cT 0), 32, .inl f6))] sz)) 0 0 (va_A [(mo, .inr (12, mdG r cd tm (nI sn) (nI tx) (nI lz) (nI az) (nI na) (nI nt) (nI nr) mw ml mk dq)), (r 5, .inl ((cT 0), 1920, .inl f5)), (r 6, .inl ((cT 0), 32, .inl f6))] sz) := by
  refine Met.ofW (cc := b_Md_user) (maxL := 7) (ret := (Option.some Jvm.ClassFile.FieldType.boolean)) (by decide) rfl ?_
  intro p e s m args below meth c s₁ B hml hv
  obtain ⟨hargs, hsz, hP, hK, hD0⟩ := hv
  have hx := B.exec
  have hb := B.bytes
  have hr := B.returns
  have hts := atoms_spec (ws := (Cond.code y_Md_user b_Md_user 7 (Option.some Jvm.ClassFile.FieldType.boolean) :: BIG)) B.pre
  have hg : ∀ w ∈ BIG, w.before _ s = true := fun w h => hts w (List.mem_cons_of_mem _ h)
  have hown : s.vm.findClass "DoorServerModel" = some m.cls := findClass_of_methodNamed B.named
  have hlocks := B.notSynchronized
  subst hsz
  have hD := hD0.self (sz := s.heap.size)
  generalize hAe : va_A [(mo, .inr (12, mdG r cd tm (nI sn) (nI tx) (nI lz) (nI az) (nI na) (nI nt) (nI nr) mw ml mk dq)), (r 5, .inl ((cT 0), 1920, .inl f5)), (r 6, .inl ((cT 0), 32, .inl f6))] s.heap.size = A at hD ⊢
  have hA : ∀ q : Nat, s.heap.size ≤ q → A q := fun q h => by rw [← hAe]; exact Or.inr h
  have hS : va_S A s.heap s.heap [] := va_S.rf
  have hl := lv_entry ([.ref mo, .int x, .long v, .int y]) (n := 7) (Nat.le_of_ble_eq_true rfl)
  refine W.eq (g2 := entryFrame m (List.toArray [.ref mo, .int x, .long v, .int y]) 7) (by rw [hargs]) ?_
  rw [lg_entry_eq]
  generalize (lg_sl ([.ref mo, .int x, .long v, .int y]) ++ List.replicate (7 - (lg_sl ([.ref mo, .int x, .long v, .int y])).length) Slot.unset).toArray = ls at hl ⊢
  have hl : lv_has ls 7 [(0, .ref mo), (1, .int x), (2, .long v), (4, .int y)] := hl
  change W p l e ({ frames := 1, cells := 0, slots := 0, locals := 22 } : Room) s m args below meth c s.heap [] 0 0 _ _
  have hP : va_P (dC, dI) vcl [(mo, .inr (12, mdG r cd tm (nI sn) (nI tx) (nI lz) (nI az) (nI na) (nI nt) (nI nr) mw ml mk dq)), (r 5, .inl ((cT 0), 1920, .inl f5)), (r 6, .inl ((cT 0), 32, .inl f6))] s.heap := hP
  rcases pk_ix x (n := 32) (by decide) with h8x | h8x | ⟨xn, hxn, rfl⟩
  · skip
    refine lv_aload_n hx hb d_Md_user_0 rfl (lv_at hl 0 rfl) ?_
    refine lv_iload_n hx hb d_Md_user_1 rfl (lv_at hl 1 rfl) ?_
    refine lv_if_lt (tgt := 28) hx hb d_Md_user_2 (by decide) (fun hc5 => ?_) (fun hn9 => absurd (h8x) hn9)
    refine lv_iconst (v := 0) hx hb d_Md_user_28 (by decide) ?_
    have hPc := hP.sub (ws' := [(mo, .inr (12, mdG r cd tm (nI sn) (nI tx) (nI lz) (nI az) (nI na) (nI nt) (nI nr) mw ml mk dq))]) [0] rfl
    have hDc := hD.sub (ws' := [(mo, .inr (12, mdG r cd tm (nI sn) (nI tx) (nI lz) (nI az) (nI na) (nI nt) (nI nr) mw ml mk dq))]) [0] (by decide) rfl
    have hFc := va_free (wc := [(mo, .inr (12, mdG r cd tm (nI sn) (nI tx) (nI lz) (nI az) (nI na) (nI nt) (nI nr) mw ml mk dq))]) hD hS hA [0] rfl
    refine va_calli (va_runV (C := "DoorServerModel") (As := [.int 0]) (rest := []) ⟨hx, hb, hml, hown, hg⟩ (m_goes0 l dC dI cT s.heap.size mo r cd tm sn tx lz az na nt nr mw ml mk dq ) (cwV 1 hg (gI (List.forall_mem_append.mpr ⟨List.forall_mem_cons.mpr ⟨k_1165, List.forall_mem_cons.mpr ⟨k_1167, List.forall_mem_cons.mpr ⟨(big_sel (q := y_Md_goes) (n := 45) (by decide +kernel)), List.forall_mem_cons.mpr ⟨k_13, fun _ h => absurd h List.not_mem_nil⟩⟩⟩⟩, List.forall_mem_cons.mpr ⟨k_1168, fun _ h => h⟩⟩)) rfl rfl rfl (by decide +kernel) ⟨Nat.le_of_ble_eq_true rfl, Nat.le_of_ble_eq_true rfl⟩) ⟨fun a U g mk q => by obtain ⟨q0, q1, qP, qK, qD⟩ := q; exact ⟨q0, q1, qP, va_K.moved (u := U) (U := U.calling g mk a) (Vm.Alike.refl U.vm) qK, qD⟩, va_recv (q0 := 0) (ci := 12) hK hP rfl rfl, fun U hU hW => ⟨rfl, by rw [hU], by rw [hU]; exact hPc, va_K.moved hW.alike hK, hDc.weaken (fun _ _ _ _ => trivial)⟩⟩ rfl rfl hl.1 rfl (lv_room (Nat.le_of_ble_eq_true rfl)) d_Md_user_29 ⟨Nat.le_of_ble_eq_true rfl, Nat.le_of_ble_eq_true rfl⟩) hS (fun q _ h => hFc q h) hFc (fun rv9 u t H1 locs ht hvm hw hB hz1 hk1 hS => ?_)
    try dsimp only at hw hB
    obtain ⟨hP1, hK1, hD1⟩ := hB
    rw [ht] at hP1
    obtain ⟨rfl, hw⟩ := hw
    obtain ⟨hP, hD⟩ := va_join (wr := [(r 5, .inl ((cT 0), 1920, .inl f5)), (r 6, .inl ((cT 0), 32, .inl f6))]) (w1 := [(mo, .inr (12, mdG r 1 tm (nI sn) (nI tx) (nI lz) (nI az) (nI na) (nI nt) (nI nr) mw ml mk dq))]) hP hD [0] [1, 2] rfl rfl (by decide) (by decide) hk1 hFc hP1 hD1
    have hw6 := hw
    clear hPc hDc hFc hz1 hk1 hP1 hK1 hD1
    generalize H1 = H at hP hS ⊢
    have hP : va_P (dC, dI) vcl [(r 5, .inl ((cT 0), 1920, .inl f5)), (r 6, .inl ((cT 0), 32, .inl f6)), (mo, .inr (12, mdG r 1 tm (nI sn) (nI tx) (nI lz) (nI az) (nI na) (nI nt) (nI nr) mw ml mk dq))] H := hP
    have hD : va_D A [(r 5, .inl ((cT 0), 1920, .inl f5)), (r 6, .inl ((cT 0), 32, .inl f6)), (mo, .inr (12, mdG r 1 tm (nI sn) (nI tx) (nI lz) (nI az) (nI na) (nI nt) (nI nr) mw ml mk dq))] := hD
    refine lv_if_ne (tgt := 37) hx hb d_Md_user_32 (by decide) (fun hn9 => absurd hn9 (by decide)) (fun hc7 => ?_)
    refine lv_iconst (v := 0) hx hb d_Md_user_35 (by decide) ?_
    have hP9 := hP.sub (ws' := [(mo, .inr (12, mdG r 1 tm (nI sn) (nI tx) (nI lz) (nI az) (nI na) (nI nt) (nI nr) mw ml mk dq)), (r 5, .inl ((cT 0), 1920, .inl f5)), (r 6, .inl ((cT 0), 32, .inl f6))]) [2, 0, 1] rfl
    have hD9 := hD.sub (ws' := [(mo, .inr (12, mdG r 1 tm (nI sn) (nI tx) (nI lz) (nI az) (nI na) (nI nt) (nI nr) mw ml mk dq)), (r 5, .inl ((cT 0), 1920, .inl f5)), (r 6, .inl ((cT 0), 32, .inl f6))]) [2, 0, 1] (by decide) rfl
    exact W.zret (v := 0) hx hb hr (by first | rfl | decide) (fun t ht hW => ⟨⟨_, ⟨f5, f6, 1⟩, rfl, ⟨Or.inl ⟨rfl, fun h9 => h9.1 h8x, rfl⟩, h6⟩, by rw [ht]; exact hP9, va_K.moved hW.alike hK, hD9⟩, hS.F ht⟩) hS.2.2 d_Md_user_36
  · skip
    refine lv_aload_n hx hb d_Md_user_0 rfl (lv_at hl 0 rfl) ?_
    refine lv_iload_n hx hb d_Md_user_1 rfl (lv_at hl 1 rfl) ?_
    refine lv_if_lt (tgt := 28) hx hb d_Md_user_2 (by decide) (fun hc8 => ?_) (fun hc8 => ?_)
    · skip
      refine lv_iconst (v := 0) hx hb d_Md_user_28 (by decide) ?_
      have hPc := hP.sub (ws' := [(mo, .inr (12, mdG r cd tm (nI sn) (nI tx) (nI lz) (nI az) (nI na) (nI nt) (nI nr) mw ml mk dq))]) [0] rfl
      have hDc := hD.sub (ws' := [(mo, .inr (12, mdG r cd tm (nI sn) (nI tx) (nI lz) (nI az) (nI na) (nI nt) (nI nr) mw ml mk dq))]) [0] (by decide) rfl
      have hFc := va_free (wc := [(mo, .inr (12, mdG r cd tm (nI sn) (nI tx) (nI lz) (nI az) (nI na) (nI nt) (nI nr) mw ml mk dq))]) hD hS hA [0] rfl
      refine va_calli (va_runV (C := "DoorServerModel") (As := [.int 0]) (rest := []) ⟨hx, hb, hml, hown, hg⟩ (m_goes0 l dC dI cT s.heap.size mo r cd tm sn tx lz az na nt nr mw ml mk dq ) (cwV 1 hg (gI (List.forall_mem_append.mpr ⟨List.forall_mem_cons.mpr ⟨k_1165, List.forall_mem_cons.mpr ⟨k_1167, List.forall_mem_cons.mpr ⟨(big_sel (q := y_Md_goes) (n := 45) (by decide +kernel)), List.forall_mem_cons.mpr ⟨k_13, fun _ h => absurd h List.not_mem_nil⟩⟩⟩⟩, List.forall_mem_cons.mpr ⟨k_1168, fun _ h => h⟩⟩)) rfl rfl rfl (by decide +kernel) ⟨Nat.le_of_ble_eq_true rfl, Nat.le_of_ble_eq_true rfl⟩) ⟨fun a U g mk q => by obtain ⟨q0, q1, qP, qK, qD⟩ := q; exact ⟨q0, q1, qP, va_K.moved (u := U) (U := U.calling g mk a) (Vm.Alike.refl U.vm) qK, qD⟩, va_recv (q0 := 0) (ci := 12) hK hP rfl rfl, fun U hU hW => ⟨rfl, by rw [hU], by rw [hU]; exact hPc, va_K.moved hW.alike hK, hDc.weaken (fun _ _ _ _ => trivial)⟩⟩ rfl rfl hl.1 rfl (lv_room (Nat.le_of_ble_eq_true rfl)) d_Md_user_29 ⟨Nat.le_of_ble_eq_true rfl, Nat.le_of_ble_eq_true rfl⟩) hS (fun q _ h => hFc q h) hFc (fun rv9 u t H1 locs ht hvm hw hB hz1 hk1 hS => ?_)
      try dsimp only at hw hB
      obtain ⟨hP1, hK1, hD1⟩ := hB
      rw [ht] at hP1
      obtain ⟨rfl, hw⟩ := hw
      obtain ⟨hP, hD⟩ := va_join (wr := [(r 5, .inl ((cT 0), 1920, .inl f5)), (r 6, .inl ((cT 0), 32, .inl f6))]) (w1 := [(mo, .inr (12, mdG r 1 tm (nI sn) (nI tx) (nI lz) (nI az) (nI na) (nI nt) (nI nr) mw ml mk dq))]) hP hD [0] [1, 2] rfl rfl (by decide) (by decide) hk1 hFc hP1 hD1
      have hw9 := hw
      clear hPc hDc hFc hz1 hk1 hP1 hK1 hD1
      generalize H1 = H at hP hS ⊢
      have hP : va_P (dC, dI) vcl [(r 5, .inl ((cT 0), 1920, .inl f5)), (r 6, .inl ((cT 0), 32, .inl f6)), (mo, .inr (12, mdG r 1 tm (nI sn) (nI tx) (nI lz) (nI az) (nI na) (nI nt) (nI nr) mw ml mk dq))] H := hP
      have hD : va_D A [(r 5, .inl ((cT 0), 1920, .inl f5)), (r 6, .inl ((cT 0), 32, .inl f6)), (mo, .inr (12, mdG r 1 tm (nI sn) (nI tx) (nI lz) (nI az) (nI na) (nI nt) (nI nr) mw ml mk dq))] := hD
      refine lv_if_ne (tgt := 37) hx hb d_Md_user_32 (by decide) (fun hn9 => absurd hn9 (by decide)) (fun hc10 => ?_)
      refine lv_iconst (v := 0) hx hb d_Md_user_35 (by decide) ?_
      have hP9 := hP.sub (ws' := [(mo, .inr (12, mdG r 1 tm (nI sn) (nI tx) (nI lz) (nI az) (nI na) (nI nt) (nI nr) mw ml mk dq)), (r 5, .inl ((cT 0), 1920, .inl f5)), (r 6, .inl ((cT 0), 32, .inl f6))]) [2, 0, 1] rfl
      have hD9 := hD.sub (ws' := [(mo, .inr (12, mdG r 1 tm (nI sn) (nI tx) (nI lz) (nI az) (nI na) (nI nt) (nI nr) mw ml mk dq)), (r 5, .inl ((cT 0), 1920, .inl f5)), (r 6, .inl ((cT 0), 32, .inl f6))]) [2, 0, 1] (by decide) rfl
      exact W.zret (v := 0) hx hb hr (by first | rfl | decide) (fun t ht hW => ⟨⟨_, ⟨f5, f6, 1⟩, rfl, ⟨Or.inl ⟨rfl, fun h9 => h9.2.1 (nlt31 h8x), rfl⟩, h6⟩, by rw [ht]; exact hP9, va_K.moved hW.alike hK, hD9⟩, hS.F ht⟩) hS.2.2 d_Md_user_36
    · skip
      refine lv_iload_n hx hb d_Md_user_5 rfl (lv_at hl 1 rfl) ?_
      refine lv_bipush (v := 32) hx hb d_Md_user_6 (by decide) ?_
      refine lv_icmp_ge (tgt := 28) hx hb d_Md_user_8 (by decide) (fun hc11 => ?_) (fun hn9 => absurd (h8x) hn9)
      refine lv_iconst (v := 0) hx hb d_Md_user_28 (by decide) ?_
      have hPc := hP.sub (ws' := [(mo, .inr (12, mdG r cd tm (nI sn) (nI tx) (nI lz) (nI az) (nI na) (nI nt) (nI nr) mw ml mk dq))]) [0] rfl
      have hDc := hD.sub (ws' := [(mo, .inr (12, mdG r cd tm (nI sn) (nI tx) (nI lz) (nI az) (nI na) (nI nt) (nI nr) mw ml mk dq))]) [0] (by decide) rfl
      have hFc := va_free (wc := [(mo, .inr (12, mdG r cd tm (nI sn) (nI tx) (nI lz) (nI az) (nI na) (nI nt) (nI nr) mw ml mk dq))]) hD hS hA [0] rfl
      refine va_calli (va_runV (C := "DoorServerModel") (As := [.int 0]) (rest := []) ⟨hx, hb, hml, hown, hg⟩ (m_goes0 l dC dI cT s.heap.size mo r cd tm sn tx lz az na nt nr mw ml mk dq ) (cwV 1 hg (gI (List.forall_mem_append.mpr ⟨List.forall_mem_cons.mpr ⟨k_1165, List.forall_mem_cons.mpr ⟨k_1167, List.forall_mem_cons.mpr ⟨(big_sel (q := y_Md_goes) (n := 45) (by decide +kernel)), List.forall_mem_cons.mpr ⟨k_13, fun _ h => absurd h List.not_mem_nil⟩⟩⟩⟩, List.forall_mem_cons.mpr ⟨k_1168, fun _ h => h⟩⟩)) rfl rfl rfl (by decide +kernel) ⟨Nat.le_of_ble_eq_true rfl, Nat.le_of_ble_eq_true rfl⟩) ⟨fun a U g mk q => by obtain ⟨q0, q1, qP, qK, qD⟩ := q; exact ⟨q0, q1, qP, va_K.moved (u := U) (U := U.calling g mk a) (Vm.Alike.refl U.vm) qK, qD⟩, va_recv (q0 := 0) (ci := 12) hK hP rfl rfl, fun U hU hW => ⟨rfl, by rw [hU], by rw [hU]; exact hPc, va_K.moved hW.alike hK, hDc.weaken (fun _ _ _ _ => trivial)⟩⟩ rfl rfl hl.1 rfl (lv_room (Nat.le_of_ble_eq_true rfl)) d_Md_user_29 ⟨Nat.le_of_ble_eq_true rfl, Nat.le_of_ble_eq_true rfl⟩) hS (fun q _ h => hFc q h) hFc (fun rv9 u t H1 locs ht hvm hw hB hz1 hk1 hS => ?_)
      try dsimp only at hw hB
      obtain ⟨hP1, hK1, hD1⟩ := hB
      rw [ht] at hP1
      obtain ⟨rfl, hw⟩ := hw
      obtain ⟨hP, hD⟩ := va_join (wr := [(r 5, .inl ((cT 0), 1920, .inl f5)), (r 6, .inl ((cT 0), 32, .inl f6))]) (w1 := [(mo, .inr (12, mdG r 1 tm (nI sn) (nI tx) (nI lz) (nI az) (nI na) (nI nt) (nI nr) mw ml mk dq))]) hP hD [0] [1, 2] rfl rfl (by decide) (by decide) hk1 hFc hP1 hD1
      have hw12 := hw
      clear hPc hDc hFc hz1 hk1 hP1 hK1 hD1
      generalize H1 = H at hP hS ⊢
      have hP : va_P (dC, dI) vcl [(r 5, .inl ((cT 0), 1920, .inl f5)), (r 6, .inl ((cT 0), 32, .inl f6)), (mo, .inr (12, mdG r 1 tm (nI sn) (nI tx) (nI lz) (nI az) (nI na) (nI nt) (nI nr) mw ml mk dq))] H := hP
      have hD : va_D A [(r 5, .inl ((cT 0), 1920, .inl f5)), (r 6, .inl ((cT 0), 32, .inl f6)), (mo, .inr (12, mdG r 1 tm (nI sn) (nI tx) (nI lz) (nI az) (nI na) (nI nt) (nI nr) mw ml mk dq))] := hD
      refine lv_if_ne (tgt := 37) hx hb d_Md_user_32 (by decide) (fun hn9 => absurd hn9 (by decide)) (fun hc13 => ?_)
      refine lv_iconst (v := 0) hx hb d_Md_user_35 (by decide) ?_
      have hP9 := hP.sub (ws' := [(mo, .inr (12, mdG r 1 tm (nI sn) (nI tx) (nI lz) (nI az) (nI na) (nI nt) (nI nr) mw ml mk dq)), (r 5, .inl ((cT 0), 1920, .inl f5)), (r 6, .inl ((cT 0), 32, .inl f6))]) [2, 0, 1] rfl
      have hD9 := hD.sub (ws' := [(mo, .inr (12, mdG r 1 tm (nI sn) (nI tx) (nI lz) (nI az) (nI na) (nI nt) (nI nr) mw ml mk dq)), (r 5, .inl ((cT 0), 1920, .inl f5)), (r 6, .inl ((cT 0), 32, .inl f6))]) [2, 0, 1] (by decide) rfl
      exact W.zret (v := 0) hx hb hr (by first | rfl | decide) (fun t ht hW => ⟨⟨_, ⟨f5, f6, 1⟩, rfl, ⟨Or.inl ⟨rfl, fun h9 => h9.2.1 (nlt31 h8x), rfl⟩, h6⟩, by rw [ht]; exact hP9, va_K.moved hW.alike hK, hD9⟩, hS.F ht⟩) hS.2.2 d_Md_user_36
  · skip
    rcases pk_ix y (n := 61) (by decide) with h8y | h8y | ⟨yn, hyn, rfl⟩
    · skip
      refine lv_aload_n hx hb d_Md_user_0 rfl (lv_at hl 0 rfl) ?_
      refine lv_iload_n hx hb d_Md_user_1 rfl (lv_at hl 1 rfl) ?_
      refine lv_if_lt (tgt := 28) hx hb d_Md_user_2 (by decide) (fun hn9 => absurd hn9 (nI_pos (by omega))) (fun hc14 => ?_)
      refine lv_iload_n hx hb d_Md_user_5 rfl (lv_at hl 1 rfl) ?_
      refine lv_bipush (v := 32) hx hb d_Md_user_6 (by decide) ?_
      refine lv_icmp_ge (tgt := 28) hx hb d_Md_user_8 (by decide) (fun hc15 => ?_) (fun hc15 => ?_)
      · skip
        have n16 : 32 ≤ xn := (nI_leI (a := 32) (b := xn) (by omega) (by omega)).mp hc15
        refine lv_iconst (v := 0) hx hb d_Md_user_28 (by decide) ?_
        have hPc := hP.sub (ws' := [(mo, .inr (12, mdG r cd tm (nI sn) (nI tx) (nI lz) (nI az) (nI na) (nI nt) (nI nr) mw ml mk dq))]) [0] rfl
        have hDc := hD.sub (ws' := [(mo, .inr (12, mdG r cd tm (nI sn) (nI tx) (nI lz) (nI az) (nI na) (nI nt) (nI nr) mw ml mk dq))]) [0] (by decide) rfl
        have hFc := va_free (wc := [(mo, .inr (12, mdG r cd tm (nI sn) (nI tx) (nI lz) (nI az) (nI na) (nI nt) (nI nr) mw ml mk dq))]) hD hS hA [0] rfl
        refine va_calli (va_runV (C := "DoorServerModel") (As := [.int 0]) (rest := []) ⟨hx, hb, hml, hown, hg⟩ (m_goes0 l dC dI cT s.heap.size mo r cd tm sn tx lz az na nt nr mw ml mk dq ) (cwV 1 hg (gI (List.forall_mem_append.mpr ⟨List.forall_mem_cons.mpr ⟨k_1165, List.forall_mem_cons.mpr ⟨k_1167, List.forall_mem_cons.mpr ⟨(big_sel (q := y_Md_goes) (n := 45) (by decide +kernel)), List.forall_mem_cons.mpr ⟨k_13, fun _ h => absurd h List.not_mem_nil⟩⟩⟩⟩, List.forall_mem_cons.mpr ⟨k_1168, fun _ h => h⟩⟩)) rfl rfl rfl (by decide +kernel) ⟨Nat.le_of_ble_eq_true rfl, Nat.le_of_ble_eq_true rfl⟩) ⟨fun a U g mk q => by obtain ⟨q0, q1, qP, qK, qD⟩ := q; exact ⟨q0, q1, qP, va_K.moved (u := U) (U := U.calling g mk a) (Vm.Alike.refl U.vm) qK, qD⟩, va_recv (q0 := 0) (ci := 12) hK hP rfl rfl, fun U hU hW => ⟨rfl, by rw [hU], by rw [hU]; exact hPc, va_K.moved hW.alike hK, hDc.weaken (fun _ _ _ _ => trivial)⟩⟩ rfl rfl hl.1 rfl (lv_room (Nat.le_of_ble_eq_true rfl)) d_Md_user_29 ⟨Nat.le_of_ble_eq_true rfl, Nat.le_of_ble_eq_true rfl⟩) hS (fun q _ h => hFc q h) hFc (fun rv9 u t H1 locs ht hvm hw hB hz1 hk1 hS => ?_)
        try dsimp only at hw hB
        obtain ⟨hP1, hK1, hD1⟩ := hB
        rw [ht] at hP1
        obtain ⟨rfl, hw⟩ := hw
        obtain ⟨hP, hD⟩ := va_join (wr := [(r 5, .inl ((cT 0), 1920, .inl f5)), (r 6, .inl ((cT 0), 32, .inl f6))]) (w1 := [(mo, .inr (12, mdG r 1 tm (nI sn) (nI tx) (nI lz) (nI az) (nI na) (nI nt) (nI nr) mw ml mk dq))]) hP hD [0] [1, 2] rfl rfl (by decide) (by decide) hk1 hFc hP1 hD1
        have hw18 := hw
        clear hPc hDc hFc hz1 hk1 hP1 hK1 hD1
        generalize H1 = H at hP hS ⊢
        have hP : va_P (dC, dI) vcl [(r 5, .inl ((cT 0), 1920, .inl f5)), (r 6, .inl ((cT 0), 32, .inl f6)), (mo, .inr (12, mdG r 1 tm (nI sn) (nI tx) (nI lz) (nI az) (nI na) (nI nt) (nI nr) mw ml mk dq))] H := hP
        have hD : va_D A [(r 5, .inl ((cT 0), 1920, .inl f5)), (r 6, .inl ((cT 0), 32, .inl f6)), (mo, .inr (12, mdG r 1 tm (nI sn) (nI tx) (nI lz) (nI az) (nI na) (nI nt) (nI nr) mw ml mk dq))] := hD
        refine lv_if_ne (tgt := 37) hx hb d_Md_user_32 (by decide) (fun hn9 => absurd hn9 (by decide)) (fun hc19 => ?_)
        refine lv_iconst (v := 0) hx hb d_Md_user_35 (by decide) ?_
        have hP9 := hP.sub (ws' := [(mo, .inr (12, mdG r 1 tm (nI sn) (nI tx) (nI lz) (nI az) (nI na) (nI nt) (nI nr) mw ml mk dq)), (r 5, .inl ((cT 0), 1920, .inl f5)), (r 6, .inl ((cT 0), 32, .inl f6))]) [2, 0, 1] rfl
        have hD9 := hD.sub (ws' := [(mo, .inr (12, mdG r 1 tm (nI sn) (nI tx) (nI lz) (nI az) (nI na) (nI nt) (nI nr) mw ml mk dq)), (r 5, .inl ((cT 0), 1920, .inl f5)), (r 6, .inl ((cT 0), 32, .inl f6))]) [2, 0, 1] (by decide) rfl
        exact W.zret (v := 0) hx hb hr (by first | rfl | decide) (fun t ht hW => ⟨⟨_, ⟨f5, f6, 1⟩, rfl, ⟨Or.inl ⟨rfl, fun h9 => h9.2.2.1 (lt_01 h8y), rfl⟩, h6⟩, by rw [ht]; exact hP9, va_K.moved hW.alike hK, hD9⟩, hS.F ht⟩) hS.2.2 d_Md_user_36
      · skip
        have n17 : xn < 32 := Nat.not_le.mp (fun h7 => hc15 ((nI_leI (a := 32) (b := xn) (by omega) (by omega)).mpr h7))
        refine lv_iload hx hb d_Md_user_11 (lv_at hl 3 rfl) ?_
        refine lv_iconst (v := 1) hx hb d_Md_user_13 (by decide) ?_
        refine lv_icmp_lt (tgt := 28) hx hb d_Md_user_14 (by decide) (fun hc20 => ?_) (fun hn9 => absurd (lt_01 h8y) hn9)
        refine lv_iconst (v := 0) hx hb d_Md_user_28 (by decide) ?_
        have hPc := hP.sub (ws' := [(mo, .inr (12, mdG r cd tm (nI sn) (nI tx) (nI lz) (nI az) (nI na) (nI nt) (nI nr) mw ml mk dq))]) [0] rfl
        have hDc := hD.sub (ws' := [(mo, .inr (12, mdG r cd tm (nI sn) (nI tx) (nI lz) (nI az) (nI na) (nI nt) (nI nr) mw ml mk dq))]) [0] (by decide) rfl
        have hFc := va_free (wc := [(mo, .inr (12, mdG r cd tm (nI sn) (nI tx) (nI lz) (nI az) (nI na) (nI nt) (nI nr) mw ml mk dq))]) hD hS hA [0] rfl
        refine va_calli (va_runV (C := "DoorServerModel") (As := [.int 0]) (rest := []) ⟨hx, hb, hml, hown, hg⟩ (m_goes0 l dC dI cT s.heap.size mo r cd tm sn tx lz az na nt nr mw ml mk dq ) (cwV 1 hg (gI (List.forall_mem_append.mpr ⟨List.forall_mem_cons.mpr ⟨k_1165, List.forall_mem_cons.mpr ⟨k_1167, List.forall_mem_cons.mpr ⟨(big_sel (q := y_Md_goes) (n := 45) (by decide +kernel)), List.forall_mem_cons.mpr ⟨k_13, fun _ h => absurd h List.not_mem_nil⟩⟩⟩⟩, List.forall_mem_cons.mpr ⟨k_1168, fun _ h => h⟩⟩)) rfl rfl rfl (by decide +kernel) ⟨Nat.le_of_ble_eq_true rfl, Nat.le_of_ble_eq_true rfl⟩) ⟨fun a U g mk q => by obtain ⟨q0, q1, qP, qK, qD⟩ := q; exact ⟨q0, q1, qP, va_K.moved (u := U) (U := U.calling g mk a) (Vm.Alike.refl U.vm) qK, qD⟩, va_recv (q0 := 0) (ci := 12) hK hP rfl rfl, fun U hU hW => ⟨rfl, by rw [hU], by rw [hU]; exact hPc, va_K.moved hW.alike hK, hDc.weaken (fun _ _ _ _ => trivial)⟩⟩ rfl rfl hl.1 rfl (lv_room (Nat.le_of_ble_eq_true rfl)) d_Md_user_29 ⟨Nat.le_of_ble_eq_true rfl, Nat.le_of_ble_eq_true rfl⟩) hS (fun q _ h => hFc q h) hFc (fun rv9 u t H1 locs ht hvm hw hB hz1 hk1 hS => ?_)
        try dsimp only at hw hB
        obtain ⟨hP1, hK1, hD1⟩ := hB
        rw [ht] at hP1
        obtain ⟨rfl, hw⟩ := hw
        obtain ⟨hP, hD⟩ := va_join (wr := [(r 5, .inl ((cT 0), 1920, .inl f5)), (r 6, .inl ((cT 0), 32, .inl f6))]) (w1 := [(mo, .inr (12, mdG r 1 tm (nI sn) (nI tx) (nI lz) (nI az) (nI na) (nI nt) (nI nr) mw ml mk dq))]) hP hD [0] [1, 2] rfl rfl (by decide) (by decide) hk1 hFc hP1 hD1
        have hw21 := hw
        clear hPc hDc hFc hz1 hk1 hP1 hK1 hD1
        generalize H1 = H at hP hS ⊢
        have hP : va_P (dC, dI) vcl [(r 5, .inl ((cT 0), 1920, .inl f5)), (r 6, .inl ((cT 0), 32, .inl f6)), (mo, .inr (12, mdG r 1 tm (nI sn) (nI tx) (nI lz) (nI az) (nI na) (nI nt) (nI nr) mw ml mk dq))] H := hP
        have hD : va_D A [(r 5, .inl ((cT 0), 1920, .inl f5)), (r 6, .inl ((cT 0), 32, .inl f6)), (mo, .inr (12, mdG r 1 tm (nI sn) (nI tx) (nI lz) (nI az) (nI na) (nI nt) (nI nr) mw ml mk dq))] := hD
        refine lv_if_ne (tgt := 37) hx hb d_Md_user_32 (by decide) (fun hn9 => absurd hn9 (by decide)) (fun hc22 => ?_)
        refine lv_iconst (v := 0) hx hb d_Md_user_35 (by decide) ?_
        have hP9 := hP.sub (ws' := [(mo, .inr (12, mdG r 1 tm (nI sn) (nI tx) (nI lz) (nI az) (nI na) (nI nt) (nI nr) mw ml mk dq)), (r 5, .inl ((cT 0), 1920, .inl f5)), (r 6, .inl ((cT 0), 32, .inl f6))]) [2, 0, 1] rfl
        have hD9 := hD.sub (ws' := [(mo, .inr (12, mdG r 1 tm (nI sn) (nI tx) (nI lz) (nI az) (nI na) (nI nt) (nI nr) mw ml mk dq)), (r 5, .inl ((cT 0), 1920, .inl f5)), (r 6, .inl ((cT 0), 32, .inl f6))]) [2, 0, 1] (by decide) rfl
        exact W.zret (v := 0) hx hb hr (by first | rfl | decide) (fun t ht hW => ⟨⟨_, ⟨f5, f6, 1⟩, rfl, ⟨Or.inl ⟨rfl, fun h9 => h9.2.2.1 (lt_01 h8y), rfl⟩, h6⟩, by rw [ht]; exact hP9, va_K.moved hW.alike hK, hD9⟩, hS.F ht⟩) hS.2.2 d_Md_user_36
    · skip
      refine lv_aload_n hx hb d_Md_user_0 rfl (lv_at hl 0 rfl) ?_
      refine lv_iload_n hx hb d_Md_user_1 rfl (lv_at hl 1 rfl) ?_
      refine lv_if_lt (tgt := 28) hx hb d_Md_user_2 (by decide) (fun hn9 => absurd hn9 (nI_pos (by omega))) (fun hc23 => ?_)
      refine lv_iload_n hx hb d_Md_user_5 rfl (lv_at hl 1 rfl) ?_
      refine lv_bipush (v := 32) hx hb d_Md_user_6 (by decide) ?_
      refine lv_icmp_ge (tgt := 28) hx hb d_Md_user_8 (by decide) (fun hc24 => ?_) (fun hc24 => ?_)
      · skip
        have n25 : 32 ≤ xn := (nI_leI (a := 32) (b := xn) (by omega) (by omega)).mp hc24
        refine lv_iconst (v := 0) hx hb d_Md_user_28 (by decide) ?_
        have hPc := hP.sub (ws' := [(mo, .inr (12, mdG r cd tm (nI sn) (nI tx) (nI lz) (nI az) (nI na) (nI nt) (nI nr) mw ml mk dq))]) [0] rfl
        have hDc := hD.sub (ws' := [(mo, .inr (12, mdG r cd tm (nI sn) (nI tx) (nI lz) (nI az) (nI na) (nI nt) (nI nr) mw ml mk dq))]) [0] (by decide) rfl
        have hFc := va_free (wc := [(mo, .inr (12, mdG r cd tm (nI sn) (nI tx) (nI lz) (nI az) (nI na) (nI nt) (nI nr) mw ml mk dq))]) hD hS hA [0] rfl
        refine va_calli (va_runV (C := "DoorServerModel") (As := [.int 0]) (rest := []) ⟨hx, hb, hml, hown, hg⟩ (m_goes0 l dC dI cT s.heap.size mo r cd tm sn tx lz az na nt nr mw ml mk dq ) (cwV 1 hg (gI (List.forall_mem_append.mpr ⟨List.forall_mem_cons.mpr ⟨k_1165, List.forall_mem_cons.mpr ⟨k_1167, List.forall_mem_cons.mpr ⟨(big_sel (q := y_Md_goes) (n := 45) (by decide +kernel)), List.forall_mem_cons.mpr ⟨k_13, fun _ h => absurd h List.not_mem_nil⟩⟩⟩⟩, List.forall_mem_cons.mpr ⟨k_1168, fun _ h => h⟩⟩)) rfl rfl rfl (by decide +kernel) ⟨Nat.le_of_ble_eq_true rfl, Nat.le_of_ble_eq_true rfl⟩) ⟨fun a U g mk q => by obtain ⟨q0, q1, qP, qK, qD⟩ := q; exact ⟨q0, q1, qP, va_K.moved (u := U) (U := U.calling g mk a) (Vm.Alike.refl U.vm) qK, qD⟩, va_recv (q0 := 0) (ci := 12) hK hP rfl rfl, fun U hU hW => ⟨rfl, by rw [hU], by rw [hU]; exact hPc, va_K.moved hW.alike hK, hDc.weaken (fun _ _ _ _ => trivial)⟩⟩ rfl rfl hl.1 rfl (lv_room (Nat.le_of_ble_eq_true rfl)) d_Md_user_29 ⟨Nat.le_of_ble_eq_true rfl, Nat.le_of_ble_eq_true rfl⟩) hS (fun q _ h => hFc q h) hFc (fun rv9 u t H1 locs ht hvm hw hB hz1 hk1 hS => ?_)
        try dsimp only at hw hB
        obtain ⟨hP1, hK1, hD1⟩ := hB
        rw [ht] at hP1
        obtain ⟨rfl, hw⟩ := hw
        obtain ⟨hP, hD⟩ := va_join (wr := [(r 5, .inl ((cT 0), 1920, .inl f5)), (r 6, .inl ((cT 0), 32, .inl f6))]) (w1 := [(mo, .inr (12, mdG r 1 tm (nI sn) (nI tx) (nI lz) (nI az) (nI na) (nI nt) (nI nr) mw ml mk dq))]) hP hD [0] [1, 2] rfl rfl (by decide) (by decide) hk1 hFc hP1 hD1
        have hw27 := hw
        clear hPc hDc hFc hz1 hk1 hP1 hK1 hD1
        generalize H1 = H at hP hS ⊢
        have hP : va_P (dC, dI) vcl [(r 5, .inl ((cT 0), 1920, .inl f5)), (r 6, .inl ((cT 0), 32, .inl f6)), (mo, .inr (12, mdG r 1 tm (nI sn) (nI tx) (nI lz) (nI az) (nI na) (nI nt) (nI nr) mw ml mk dq))] H := hP
        have hD : va_D A [(r 5, .inl ((cT 0), 1920, .inl f5)), (r 6, .inl ((cT 0), 32, .inl f6)), (mo, .inr (12, mdG r 1 tm (nI sn) (nI tx) (nI lz) (nI az) (nI na) (nI nt) (nI nr) mw ml mk dq))] := hD
        refine lv_if_ne (tgt := 37) hx hb d_Md_user_32 (by decide) (fun hn9 => absurd hn9 (by decide)) (fun hc28 => ?_)
        refine lv_iconst (v := 0) hx hb d_Md_user_35 (by decide) ?_
        have hP9 := hP.sub (ws' := [(mo, .inr (12, mdG r 1 tm (nI sn) (nI tx) (nI lz) (nI az) (nI na) (nI nt) (nI nr) mw ml mk dq)), (r 5, .inl ((cT 0), 1920, .inl f5)), (r 6, .inl ((cT 0), 32, .inl f6))]) [2, 0, 1] rfl
        have hD9 := hD.sub (ws' := [(mo, .inr (12, mdG r 1 tm (nI sn) (nI tx) (nI lz) (nI az) (nI na) (nI nt) (nI nr) mw ml mk dq)), (r 5, .inl ((cT 0), 1920, .inl f5)), (r 6, .inl ((cT 0), 32, .inl f6))]) [2, 0, 1] (by decide) rfl
        exact W.zret (v := 0) hx hb hr (by first | rfl | decide) (fun t ht hW => ⟨⟨_, ⟨f5, f6, 1⟩, rfl, ⟨Or.inl ⟨rfl, fun h9 => h9.2.2.2 (nlt60 h8y), rfl⟩, h6⟩, by rw [ht]; exact hP9, va_K.moved hW.alike hK, hD9⟩, hS.F ht⟩) hS.2.2 d_Md_user_36
      · skip
        have n26 : xn < 32 := Nat.not_le.mp (fun h7 => hc24 ((nI_leI (a := 32) (b := xn) (by omega) (by omega)).mpr h7))
        refine lv_iload hx hb d_Md_user_11 (lv_at hl 3 rfl) ?_
        refine lv_iconst (v := 1) hx hb d_Md_user_13 (by decide) ?_
        refine lv_icmp_lt (tgt := 28) hx hb d_Md_user_14 (by decide) (fun hc29 => ?_) (fun hc29 => ?_)
        · skip
          refine lv_iconst (v := 0) hx hb d_Md_user_28 (by decide) ?_
          have hPc := hP.sub (ws' := [(mo, .inr (12, mdG r cd tm (nI sn) (nI tx) (nI lz) (nI az) (nI na) (nI nt) (nI nr) mw ml mk dq))]) [0] rfl
          have hDc := hD.sub (ws' := [(mo, .inr (12, mdG r cd tm (nI sn) (nI tx) (nI lz) (nI az) (nI na) (nI nt) (nI nr) mw ml mk dq))]) [0] (by decide) rfl
          have hFc := va_free (wc := [(mo, .inr (12, mdG r cd tm (nI sn) (nI tx) (nI lz) (nI az) (nI na) (nI nt) (nI nr) mw ml mk dq))]) hD hS hA [0] rfl
          refine va_calli (va_runV (C := "DoorServerModel") (As := [.int 0]) (rest := []) ⟨hx, hb, hml, hown, hg⟩ (m_goes0 l dC dI cT s.heap.size mo r cd tm sn tx lz az na nt nr mw ml mk dq ) (cwV 1 hg (gI (List.forall_mem_append.mpr ⟨List.forall_mem_cons.mpr ⟨k_1165, List.forall_mem_cons.mpr ⟨k_1167, List.forall_mem_cons.mpr ⟨(big_sel (q := y_Md_goes) (n := 45) (by decide +kernel)), List.forall_mem_cons.mpr ⟨k_13, fun _ h => absurd h List.not_mem_nil⟩⟩⟩⟩, List.forall_mem_cons.mpr ⟨k_1168, fun _ h => h⟩⟩)) rfl rfl rfl (by decide +kernel) ⟨Nat.le_of_ble_eq_true rfl, Nat.le_of_ble_eq_true rfl⟩) ⟨fun a U g mk q => by obtain ⟨q0, q1, qP, qK, qD⟩ := q; exact ⟨q0, q1, qP, va_K.moved (u := U) (U := U.calling g mk a) (Vm.Alike.refl U.vm) qK, qD⟩, va_recv (q0 := 0) (ci := 12) hK hP rfl rfl, fun U hU hW => ⟨rfl, by rw [hU], by rw [hU]; exact hPc, va_K.moved hW.alike hK, hDc.weaken (fun _ _ _ _ => trivial)⟩⟩ rfl rfl hl.1 rfl (lv_room (Nat.le_of_ble_eq_true rfl)) d_Md_user_29 ⟨Nat.le_of_ble_eq_true rfl, Nat.le_of_ble_eq_true rfl⟩) hS (fun q _ h => hFc q h) hFc (fun rv9 u t H1 locs ht hvm hw hB hz1 hk1 hS => ?_)
          try dsimp only at hw hB
          obtain ⟨hP1, hK1, hD1⟩ := hB
          rw [ht] at hP1
          obtain ⟨rfl, hw⟩ := hw
          obtain ⟨hP, hD⟩ := va_join (wr := [(r 5, .inl ((cT 0), 1920, .inl f5)), (r 6, .inl ((cT 0), 32, .inl f6))]) (w1 := [(mo, .inr (12, mdG r 1 tm (nI sn) (nI tx) (nI lz) (nI az) (nI na) (nI nt) (nI nr) mw ml mk dq))]) hP hD [0] [1, 2] rfl rfl (by decide) (by decide) hk1 hFc hP1 hD1
          have hw30 := hw
          clear hPc hDc hFc hz1 hk1 hP1 hK1 hD1
          generalize H1 = H at hP hS ⊢
          have hP : va_P (dC, dI) vcl [(r 5, .inl ((cT 0), 1920, .inl f5)), (r 6, .inl ((cT 0), 32, .inl f6)), (mo, .inr (12, mdG r 1 tm (nI sn) (nI tx) (nI lz) (nI az) (nI na) (nI nt) (nI nr) mw ml mk dq))] H := hP
          have hD : va_D A [(r 5, .inl ((cT 0), 1920, .inl f5)), (r 6, .inl ((cT 0), 32, .inl f6)), (mo, .inr (12, mdG r 1 tm (nI sn) (nI tx) (nI lz) (nI az) (nI na) (nI nt) (nI nr) mw ml mk dq))] := hD
          refine lv_if_ne (tgt := 37) hx hb d_Md_user_32 (by decide) (fun hn9 => absurd hn9 (by decide)) (fun hc31 => ?_)
          refine lv_iconst (v := 0) hx hb d_Md_user_35 (by decide) ?_
          have hP9 := hP.sub (ws' := [(mo, .inr (12, mdG r 1 tm (nI sn) (nI tx) (nI lz) (nI az) (nI na) (nI nt) (nI nr) mw ml mk dq)), (r 5, .inl ((cT 0), 1920, .inl f5)), (r 6, .inl ((cT 0), 32, .inl f6))]) [2, 0, 1] rfl
          have hD9 := hD.sub (ws' := [(mo, .inr (12, mdG r 1 tm (nI sn) (nI tx) (nI lz) (nI az) (nI na) (nI nt) (nI nr) mw ml mk dq)), (r 5, .inl ((cT 0), 1920, .inl f5)), (r 6, .inl ((cT 0), 32, .inl f6))]) [2, 0, 1] (by decide) rfl
          exact W.zret (v := 0) hx hb hr (by first | rfl | decide) (fun t ht hW => ⟨⟨_, ⟨f5, f6, 1⟩, rfl, ⟨Or.inl ⟨rfl, fun h9 => h9.2.2.2 (nlt60 h8y), rfl⟩, h6⟩, by rw [ht]; exact hP9, va_K.moved hW.alike hK, hD9⟩, hS.F ht⟩) hS.2.2 d_Md_user_36
        · skip
          refine lv_iload hx hb d_Md_user_17 (lv_at hl 3 rfl) ?_
          refine lv_bipush (v := 60) hx hb d_Md_user_19 (by decide) ?_
          refine lv_icmp_gt (tgt := 28) hx hb d_Md_user_21 (by decide) (fun hc32 => ?_) (fun hn9 => absurd ((lt_le1 (a := 60) (b := nI 61) (by decide)).mpr h8y) hn9)
          refine lv_iconst (v := 0) hx hb d_Md_user_28 (by decide) ?_
          have hPc := hP.sub (ws' := [(mo, .inr (12, mdG r cd tm (nI sn) (nI tx) (nI lz) (nI az) (nI na) (nI nt) (nI nr) mw ml mk dq))]) [0] rfl
          have hDc := hD.sub (ws' := [(mo, .inr (12, mdG r cd tm (nI sn) (nI tx) (nI lz) (nI az) (nI na) (nI nt) (nI nr) mw ml mk dq))]) [0] (by decide) rfl
          have hFc := va_free (wc := [(mo, .inr (12, mdG r cd tm (nI sn) (nI tx) (nI lz) (nI az) (nI na) (nI nt) (nI nr) mw ml mk dq))]) hD hS hA [0] rfl
          refine va_calli (va_runV (C := "DoorServerModel") (As := [.int 0]) (rest := []) ⟨hx, hb, hml, hown, hg⟩ (m_goes0 l dC dI cT s.heap.size mo r cd tm sn tx lz az na nt nr mw ml mk dq ) (cwV 1 hg (gI (List.forall_mem_append.mpr ⟨List.forall_mem_cons.mpr ⟨k_1165, List.forall_mem_cons.mpr ⟨k_1167, List.forall_mem_cons.mpr ⟨(big_sel (q := y_Md_goes) (n := 45) (by decide +kernel)), List.forall_mem_cons.mpr ⟨k_13, fun _ h => absurd h List.not_mem_nil⟩⟩⟩⟩, List.forall_mem_cons.mpr ⟨k_1168, fun _ h => h⟩⟩)) rfl rfl rfl (by decide +kernel) ⟨Nat.le_of_ble_eq_true rfl, Nat.le_of_ble_eq_true rfl⟩) ⟨fun a U g mk q => by obtain ⟨q0, q1, qP, qK, qD⟩ := q; exact ⟨q0, q1, qP, va_K.moved (u := U) (U := U.calling g mk a) (Vm.Alike.refl U.vm) qK, qD⟩, va_recv (q0 := 0) (ci := 12) hK hP rfl rfl, fun U hU hW => ⟨rfl, by rw [hU], by rw [hU]; exact hPc, va_K.moved hW.alike hK, hDc.weaken (fun _ _ _ _ => trivial)⟩⟩ rfl rfl hl.1 rfl (lv_room (Nat.le_of_ble_eq_true rfl)) d_Md_user_29 ⟨Nat.le_of_ble_eq_true rfl, Nat.le_of_ble_eq_true rfl⟩) hS (fun q _ h => hFc q h) hFc (fun rv9 u t H1 locs ht hvm hw hB hz1 hk1 hS => ?_)
          try dsimp only at hw hB
          obtain ⟨hP1, hK1, hD1⟩ := hB
          rw [ht] at hP1
          obtain ⟨rfl, hw⟩ := hw
          obtain ⟨hP, hD⟩ := va_join (wr := [(r 5, .inl ((cT 0), 1920, .inl f5)), (r 6, .inl ((cT 0), 32, .inl f6))]) (w1 := [(mo, .inr (12, mdG r 1 tm (nI sn) (nI tx) (nI lz) (nI az) (nI na) (nI nt) (nI nr) mw ml mk dq))]) hP hD [0] [1, 2] rfl rfl (by decide) (by decide) hk1 hFc hP1 hD1
          have hw33 := hw
          clear hPc hDc hFc hz1 hk1 hP1 hK1 hD1
          generalize H1 = H at hP hS ⊢
          have hP : va_P (dC, dI) vcl [(r 5, .inl ((cT 0), 1920, .inl f5)), (r 6, .inl ((cT 0), 32, .inl f6)), (mo, .inr (12, mdG r 1 tm (nI sn) (nI tx) (nI lz) (nI az) (nI na) (nI nt) (nI nr) mw ml mk dq))] H := hP
          have hD : va_D A [(r 5, .inl ((cT 0), 1920, .inl f5)), (r 6, .inl ((cT 0), 32, .inl f6)), (mo, .inr (12, mdG r 1 tm (nI sn) (nI tx) (nI lz) (nI az) (nI na) (nI nt) (nI nr) mw ml mk dq))] := hD
          refine lv_if_ne (tgt := 37) hx hb d_Md_user_32 (by decide) (fun hn9 => absurd hn9 (by decide)) (fun hc34 => ?_)
          refine lv_iconst (v := 0) hx hb d_Md_user_35 (by decide) ?_
          have hP9 := hP.sub (ws' := [(mo, .inr (12, mdG r 1 tm (nI sn) (nI tx) (nI lz) (nI az) (nI na) (nI nt) (nI nr) mw ml mk dq)), (r 5, .inl ((cT 0), 1920, .inl f5)), (r 6, .inl ((cT 0), 32, .inl f6))]) [2, 0, 1] rfl
          have hD9 := hD.sub (ws' := [(mo, .inr (12, mdG r 1 tm (nI sn) (nI tx) (nI lz) (nI az) (nI na) (nI nt) (nI nr) mw ml mk dq)), (r 5, .inl ((cT 0), 1920, .inl f5)), (r 6, .inl ((cT 0), 32, .inl f6))]) [2, 0, 1] (by decide) rfl
          exact W.zret (v := 0) hx hb hr (by first | rfl | decide) (fun t ht hW => ⟨⟨_, ⟨f5, f6, 1⟩, rfl, ⟨Or.inl ⟨rfl, fun h9 => h9.2.2.2 (nlt60 h8y), rfl⟩, h6⟩, by rw [ht]; exact hP9, va_K.moved hW.alike hK, hD9⟩, hS.F ht⟩) hS.2.2 d_Md_user_36
    · skip
      refine lv_aload_n hx hb d_Md_user_0 rfl (lv_at hl 0 rfl) ?_
      refine lv_iload_n hx hb d_Md_user_1 rfl (lv_at hl 1 rfl) ?_
      refine lv_if_lt (tgt := 28) hx hb d_Md_user_2 (by decide) (fun hn9 => absurd hn9 (nI_pos (by omega))) (fun hc35 => ?_)
      refine lv_iload_n hx hb d_Md_user_5 rfl (lv_at hl 1 rfl) ?_
      refine lv_bipush (v := 32) hx hb d_Md_user_6 (by decide) ?_
      refine lv_icmp_ge (tgt := 28) hx hb d_Md_user_8 (by decide) (fun hc36 => ?_) (fun hc36 => ?_)
      · skip
        have n37 : 32 ≤ xn := (nI_leI (a := 32) (b := xn) (by omega) (by omega)).mp hc36
        refine lv_iconst (v := 0) hx hb d_Md_user_28 (by decide) ?_
        have hPc := hP.sub (ws' := [(mo, .inr (12, mdG r cd tm (nI sn) (nI tx) (nI lz) (nI az) (nI na) (nI nt) (nI nr) mw ml mk dq))]) [0] rfl
        have hDc := hD.sub (ws' := [(mo, .inr (12, mdG r cd tm (nI sn) (nI tx) (nI lz) (nI az) (nI na) (nI nt) (nI nr) mw ml mk dq))]) [0] (by decide) rfl
        have hFc := va_free (wc := [(mo, .inr (12, mdG r cd tm (nI sn) (nI tx) (nI lz) (nI az) (nI na) (nI nt) (nI nr) mw ml mk dq))]) hD hS hA [0] rfl
        refine va_calli (va_runV (C := "DoorServerModel") (As := [.int 0]) (rest := []) ⟨hx, hb, hml, hown, hg⟩ (m_goes0 l dC dI cT s.heap.size mo r cd tm sn tx lz az na nt nr mw ml mk dq ) (cwV 1 hg (gI (List.forall_mem_append.mpr ⟨List.forall_mem_cons.mpr ⟨k_1165, List.forall_mem_cons.mpr ⟨k_1167, List.forall_mem_cons.mpr ⟨(big_sel (q := y_Md_goes) (n := 45) (by decide +kernel)), List.forall_mem_cons.mpr ⟨k_13, fun _ h => absurd h List.not_mem_nil⟩⟩⟩⟩, List.forall_mem_cons.mpr ⟨k_1168, fun _ h => h⟩⟩)) rfl rfl rfl (by decide +kernel) ⟨Nat.le_of_ble_eq_true rfl, Nat.le_of_ble_eq_true rfl⟩) ⟨fun a U g mk q => by obtain ⟨q0, q1, qP, qK, qD⟩ := q; exact ⟨q0, q1, qP, va_K.moved (u := U) (U := U.calling g mk a) (Vm.Alike.refl U.vm) qK, qD⟩, va_recv (q0 := 0) (ci := 12) hK hP rfl rfl, fun U hU hW => ⟨rfl, by rw [hU], by rw [hU]; exact hPc, va_K.moved hW.alike hK, hDc.weaken (fun _ _ _ _ => trivial)⟩⟩ rfl rfl hl.1 rfl (lv_room (Nat.le_of_ble_eq_true rfl)) d_Md_user_29 ⟨Nat.le_of_ble_eq_true rfl, Nat.le_of_ble_eq_true rfl⟩) hS (fun q _ h => hFc q h) hFc (fun rv9 u t H1 locs ht hvm hw hB hz1 hk1 hS => ?_)
        try dsimp only at hw hB
        obtain ⟨hP1, hK1, hD1⟩ := hB
        rw [ht] at hP1
        obtain ⟨rfl, hw⟩ := hw
        obtain ⟨hP, hD⟩ := va_join (wr := [(r 5, .inl ((cT 0), 1920, .inl f5)), (r 6, .inl ((cT 0), 32, .inl f6))]) (w1 := [(mo, .inr (12, mdG r 1 tm (nI sn) (nI tx) (nI lz) (nI az) (nI na) (nI nt) (nI nr) mw ml mk dq))]) hP hD [0] [1, 2] rfl rfl (by decide) (by decide) hk1 hFc hP1 hD1
        have hw39 := hw
        clear hPc hDc hFc hz1 hk1 hP1 hK1 hD1
        generalize H1 = H at hP hS ⊢
        have hP : va_P (dC, dI) vcl [(r 5, .inl ((cT 0), 1920, .inl f5)), (r 6, .inl ((cT 0), 32, .inl f6)), (mo, .inr (12, mdG r 1 tm (nI sn) (nI tx) (nI lz) (nI az) (nI na) (nI nt) (nI nr) mw ml mk dq))] H := hP
        have hD : va_D A [(r 5, .inl ((cT 0), 1920, .inl f5)), (r 6, .inl ((cT 0), 32, .inl f6)), (mo, .inr (12, mdG r 1 tm (nI sn) (nI tx) (nI lz) (nI az) (nI na) (nI nt) (nI nr) mw ml mk dq))] := hD
        refine lv_if_ne (tgt := 37) hx hb d_Md_user_32 (by decide) (fun hn9 => absurd hn9 (by decide)) (fun hc40 => ?_)
        refine lv_iconst (v := 0) hx hb d_Md_user_35 (by decide) ?_
        have hP9 := hP.sub (ws' := [(mo, .inr (12, mdG r 1 tm (nI sn) (nI tx) (nI lz) (nI az) (nI na) (nI nt) (nI nr) mw ml mk dq)), (r 5, .inl ((cT 0), 1920, .inl f5)), (r 6, .inl ((cT 0), 32, .inl f6))]) [2, 0, 1] rfl
        have hD9 := hD.sub (ws' := [(mo, .inr (12, mdG r 1 tm (nI sn) (nI tx) (nI lz) (nI az) (nI na) (nI nt) (nI nr) mw ml mk dq)), (r 5, .inl ((cT 0), 1920, .inl f5)), (r 6, .inl ((cT 0), 32, .inl f6))]) [2, 0, 1] (by decide) rfl
        exact W.zret (v := 0) hx hb hr (by first | rfl | decide) (fun t ht hW => ⟨⟨_, ⟨f5, f6, 1⟩, rfl, ⟨Or.inl ⟨rfl, fun h9 => h9.2.2.1 (nI_lt (b := 1) (by omega) (by decide)), rfl⟩, h6⟩, by rw [ht]; exact hP9, va_K.moved hW.alike hK, hD9⟩, hS.F ht⟩) hS.2.2 d_Md_user_36
      · skip
        have n38 : xn < 32 := Nat.not_le.mp (fun h7 => hc36 ((nI_leI (a := 32) (b := xn) (by omega) (by omega)).mpr h7))
        refine lv_iload hx hb d_Md_user_11 (lv_at hl 3 rfl) ?_
        refine lv_iconst (v := 1) hx hb d_Md_user_13 (by decide) ?_
        refine lv_icmp_lt (tgt := 28) hx hb d_Md_user_14 (by decide) (fun hc41 => ?_) (fun hc41 => ?_)
        · skip
          have n42 : yn < 1 := (nI_ltI (a := yn) (b := 1) (by omega) (by omega)).mp hc41
          refine lv_iconst (v := 0) hx hb d_Md_user_28 (by decide) ?_
          have hPc := hP.sub (ws' := [(mo, .inr (12, mdG r cd tm (nI sn) (nI tx) (nI lz) (nI az) (nI na) (nI nt) (nI nr) mw ml mk dq))]) [0] rfl
          have hDc := hD.sub (ws' := [(mo, .inr (12, mdG r cd tm (nI sn) (nI tx) (nI lz) (nI az) (nI na) (nI nt) (nI nr) mw ml mk dq))]) [0] (by decide) rfl
          have hFc := va_free (wc := [(mo, .inr (12, mdG r cd tm (nI sn) (nI tx) (nI lz) (nI az) (nI na) (nI nt) (nI nr) mw ml mk dq))]) hD hS hA [0] rfl
          refine va_calli (va_runV (C := "DoorServerModel") (As := [.int 0]) (rest := []) ⟨hx, hb, hml, hown, hg⟩ (m_goes0 l dC dI cT s.heap.size mo r cd tm sn tx lz az na nt nr mw ml mk dq ) (cwV 1 hg (gI (List.forall_mem_append.mpr ⟨List.forall_mem_cons.mpr ⟨k_1165, List.forall_mem_cons.mpr ⟨k_1167, List.forall_mem_cons.mpr ⟨(big_sel (q := y_Md_goes) (n := 45) (by decide +kernel)), List.forall_mem_cons.mpr ⟨k_13, fun _ h => absurd h List.not_mem_nil⟩⟩⟩⟩, List.forall_mem_cons.mpr ⟨k_1168, fun _ h => h⟩⟩)) rfl rfl rfl (by decide +kernel) ⟨Nat.le_of_ble_eq_true rfl, Nat.le_of_ble_eq_true rfl⟩) ⟨fun a U g mk q => by obtain ⟨q0, q1, qP, qK, qD⟩ := q; exact ⟨q0, q1, qP, va_K.moved (u := U) (U := U.calling g mk a) (Vm.Alike.refl U.vm) qK, qD⟩, va_recv (q0 := 0) (ci := 12) hK hP rfl rfl, fun U hU hW => ⟨rfl, by rw [hU], by rw [hU]; exact hPc, va_K.moved hW.alike hK, hDc.weaken (fun _ _ _ _ => trivial)⟩⟩ rfl rfl hl.1 rfl (lv_room (Nat.le_of_ble_eq_true rfl)) d_Md_user_29 ⟨Nat.le_of_ble_eq_true rfl, Nat.le_of_ble_eq_true rfl⟩) hS (fun q _ h => hFc q h) hFc (fun rv9 u t H1 locs ht hvm hw hB hz1 hk1 hS => ?_)
          try dsimp only at hw hB
          obtain ⟨hP1, hK1, hD1⟩ := hB
          rw [ht] at hP1
          obtain ⟨rfl, hw⟩ := hw
          obtain ⟨hP, hD⟩ := va_join (wr := [(r 5, .inl ((cT 0), 1920, .inl f5)), (r 6, .inl ((cT 0), 32, .inl f6))]) (w1 := [(mo, .inr (12, mdG r 1 tm (nI sn) (nI tx) (nI lz) (nI az) (nI na) (nI nt) (nI nr) mw ml mk dq))]) hP hD [0] [1, 2] rfl rfl (by decide) (by decide) hk1 hFc hP1 hD1
          have hw44 := hw
          clear hPc hDc hFc hz1 hk1 hP1 hK1 hD1
          generalize H1 = H at hP hS ⊢
          have hP : va_P (dC, dI) vcl [(r 5, .inl ((cT 0), 1920, .inl f5)), (r 6, .inl ((cT 0), 32, .inl f6)), (mo, .inr (12, mdG r 1 tm (nI sn) (nI tx) (nI lz) (nI az) (nI na) (nI nt) (nI nr) mw ml mk dq))] H := hP
          have hD : va_D A [(r 5, .inl ((cT 0), 1920, .inl f5)), (r 6, .inl ((cT 0), 32, .inl f6)), (mo, .inr (12, mdG r 1 tm (nI sn) (nI tx) (nI lz) (nI az) (nI na) (nI nt) (nI nr) mw ml mk dq))] := hD
          refine lv_if_ne (tgt := 37) hx hb d_Md_user_32 (by decide) (fun hn9 => absurd hn9 (by decide)) (fun hc45 => ?_)
          refine lv_iconst (v := 0) hx hb d_Md_user_35 (by decide) ?_
          have hP9 := hP.sub (ws' := [(mo, .inr (12, mdG r 1 tm (nI sn) (nI tx) (nI lz) (nI az) (nI na) (nI nt) (nI nr) mw ml mk dq)), (r 5, .inl ((cT 0), 1920, .inl f5)), (r 6, .inl ((cT 0), 32, .inl f6))]) [2, 0, 1] rfl
          have hD9 := hD.sub (ws' := [(mo, .inr (12, mdG r 1 tm (nI sn) (nI tx) (nI lz) (nI az) (nI na) (nI nt) (nI nr) mw ml mk dq)), (r 5, .inl ((cT 0), 1920, .inl f5)), (r 6, .inl ((cT 0), 32, .inl f6))]) [2, 0, 1] (by decide) rfl
          exact W.zret (v := 0) hx hb hr (by first | rfl | decide) (fun t ht hW => ⟨⟨_, ⟨f5, f6, 1⟩, rfl, ⟨Or.inl ⟨rfl, fun h9 => h9.2.2.1 (nI_lt (b := 1) (by omega) (by decide)), rfl⟩, h6⟩, by rw [ht]; exact hP9, va_K.moved hW.alike hK, hD9⟩, hS.F ht⟩) hS.2.2 d_Md_user_36
        · skip
          have n43 : 1 ≤ yn := Nat.not_lt.mp (fun h7 => hc41 ((nI_ltI (a := yn) (b := 1) (by omega) (by omega)).mpr h7))
          refine lv_iload hx hb d_Md_user_17 (lv_at hl 3 rfl) ?_
          refine lv_bipush (v := 60) hx hb d_Md_user_19 (by decide) ?_
          refine lv_icmp_gt (tgt := 28) hx hb d_Md_user_21 (by decide) (fun hc46 => ?_) (fun hc46 => ?_)
          · skip
            have n47 : 60 < yn := (nI_ltI (a := 60) (b := yn) (by omega) (by omega)).mp hc46
            refine lv_iconst (v := 0) hx hb d_Md_user_28 (by decide) ?_
            have hPc := hP.sub (ws' := [(mo, .inr (12, mdG r cd tm (nI sn) (nI tx) (nI lz) (nI az) (nI na) (nI nt) (nI nr) mw ml mk dq))]) [0] rfl
            have hDc := hD.sub (ws' := [(mo, .inr (12, mdG r cd tm (nI sn) (nI tx) (nI lz) (nI az) (nI na) (nI nt) (nI nr) mw ml mk dq))]) [0] (by decide) rfl
            have hFc := va_free (wc := [(mo, .inr (12, mdG r cd tm (nI sn) (nI tx) (nI lz) (nI az) (nI na) (nI nt) (nI nr) mw ml mk dq))]) hD hS hA [0] rfl
            refine va_calli (va_runV (C := "DoorServerModel") (As := [.int 0]) (rest := []) ⟨hx, hb, hml, hown, hg⟩ (m_goes0 l dC dI cT s.heap.size mo r cd tm sn tx lz az na nt nr mw ml mk dq ) (cwV 1 hg (gI (List.forall_mem_append.mpr ⟨List.forall_mem_cons.mpr ⟨k_1165, List.forall_mem_cons.mpr ⟨k_1167, List.forall_mem_cons.mpr ⟨(big_sel (q := y_Md_goes) (n := 45) (by decide +kernel)), List.forall_mem_cons.mpr ⟨k_13, fun _ h => absurd h List.not_mem_nil⟩⟩⟩⟩, List.forall_mem_cons.mpr ⟨k_1168, fun _ h => h⟩⟩)) rfl rfl rfl (by decide +kernel) ⟨Nat.le_of_ble_eq_true rfl, Nat.le_of_ble_eq_true rfl⟩) ⟨fun a U g mk q => by obtain ⟨q0, q1, qP, qK, qD⟩ := q; exact ⟨q0, q1, qP, va_K.moved (u := U) (U := U.calling g mk a) (Vm.Alike.refl U.vm) qK, qD⟩, va_recv (q0 := 0) (ci := 12) hK hP rfl rfl, fun U hU hW => ⟨rfl, by rw [hU], by rw [hU]; exact hPc, va_K.moved hW.alike hK, hDc.weaken (fun _ _ _ _ => trivial)⟩⟩ rfl rfl hl.1 rfl (lv_room (Nat.le_of_ble_eq_true rfl)) d_Md_user_29 ⟨Nat.le_of_ble_eq_true rfl, Nat.le_of_ble_eq_true rfl⟩) hS (fun q _ h => hFc q h) hFc (fun rv9 u t H1 locs ht hvm hw hB hz1 hk1 hS => ?_)
            try dsimp only at hw hB
            obtain ⟨hP1, hK1, hD1⟩ := hB
            rw [ht] at hP1
            obtain ⟨rfl, hw⟩ := hw
            obtain ⟨hP, hD⟩ := va_join (wr := [(r 5, .inl ((cT 0), 1920, .inl f5)), (r 6, .inl ((cT 0), 32, .inl f6))]) (w1 := [(mo, .inr (12, mdG r 1 tm (nI sn) (nI tx) (nI lz) (nI az) (nI na) (nI nt) (nI nr) mw ml mk dq))]) hP hD [0] [1, 2] rfl rfl (by decide) (by decide) hk1 hFc hP1 hD1
            have hw49 := hw
            clear hPc hDc hFc hz1 hk1 hP1 hK1 hD1
            generalize H1 = H at hP hS ⊢
            have hP : va_P (dC, dI) vcl [(r 5, .inl ((cT 0), 1920, .inl f5)), (r 6, .inl ((cT 0), 32, .inl f6)), (mo, .inr (12, mdG r 1 tm (nI sn) (nI tx) (nI lz) (nI az) (nI na) (nI nt) (nI nr) mw ml mk dq))] H := hP
            have hD : va_D A [(r 5, .inl ((cT 0), 1920, .inl f5)), (r 6, .inl ((cT 0), 32, .inl f6)), (mo, .inr (12, mdG r 1 tm (nI sn) (nI tx) (nI lz) (nI az) (nI na) (nI nt) (nI nr) mw ml mk dq))] := hD
            refine lv_if_ne (tgt := 37) hx hb d_Md_user_32 (by decide) (fun hn9 => absurd hn9 (by decide)) (fun hc50 => ?_)
            refine lv_iconst (v := 0) hx hb d_Md_user_35 (by decide) ?_
            have hP9 := hP.sub (ws' := [(mo, .inr (12, mdG r 1 tm (nI sn) (nI tx) (nI lz) (nI az) (nI na) (nI nt) (nI nr) mw ml mk dq)), (r 5, .inl ((cT 0), 1920, .inl f5)), (r 6, .inl ((cT 0), 32, .inl f6))]) [2, 0, 1] rfl
            have hD9 := hD.sub (ws' := [(mo, .inr (12, mdG r 1 tm (nI sn) (nI tx) (nI lz) (nI az) (nI na) (nI nt) (nI nr) mw ml mk dq)), (r 5, .inl ((cT 0), 1920, .inl f5)), (r 6, .inl ((cT 0), 32, .inl f6))]) [2, 0, 1] (by decide) rfl
            exact W.zret (v := 0) hx hb hr (by first | rfl | decide) (fun t ht hW => ⟨⟨_, ⟨f5, f6, 1⟩, rfl, ⟨Or.inl ⟨rfl, fun h9 => h9.2.2.1 (nI_lt (b := 1) (by omega) (by decide)), rfl⟩, h6⟩, by rw [ht]; exact hP9, va_K.moved hW.alike hK, hD9⟩, hS.F ht⟩) hS.2.2 d_Md_user_36
          · skip
            have n48 : yn ≤ 60 := Nat.not_lt.mp (fun h7 => hc46 ((nI_ltI (a := 60) (b := yn) (by omega) (by omega)).mpr h7))
            refine lv_iconst (v := 1) hx hb d_Md_user_24 (by decide) ?_
            refine lv_goto (tgt := 29) hx hb d_Md_user_25 (by decide) ?_
            have hPc := hP.sub (ws' := [(mo, .inr (12, mdG r cd tm (nI sn) (nI tx) (nI lz) (nI az) (nI na) (nI nt) (nI nr) mw ml mk dq))]) [0] rfl
            have hDc := hD.sub (ws' := [(mo, .inr (12, mdG r cd tm (nI sn) (nI tx) (nI lz) (nI az) (nI na) (nI nt) (nI nr) mw ml mk dq))]) [0] (by decide) rfl
            have hFc := va_free (wc := [(mo, .inr (12, mdG r cd tm (nI sn) (nI tx) (nI lz) (nI az) (nI na) (nI nt) (nI nr) mw ml mk dq))]) hD hS hA [0] rfl
            refine va_calli (va_runV (C := "DoorServerModel") (As := [.int 1]) (rest := []) ⟨hx, hb, hml, hown, hg⟩ (m_goes1 l dC dI cT s.heap.size mo r cd tm sn tx lz az na nt nr mw ml mk dq ) (cwV 1 hg (gI (List.forall_mem_append.mpr ⟨List.forall_mem_cons.mpr ⟨k_1165, List.forall_mem_cons.mpr ⟨k_1167, List.forall_mem_cons.mpr ⟨(big_sel (q := y_Md_goes) (n := 45) (by decide +kernel)), List.forall_mem_cons.mpr ⟨k_13, fun _ h => absurd h List.not_mem_nil⟩⟩⟩⟩, List.forall_mem_cons.mpr ⟨k_1168, fun _ h => h⟩⟩)) rfl rfl rfl (by decide +kernel) ⟨Nat.le_of_ble_eq_true rfl, Nat.le_of_ble_eq_true rfl⟩) ⟨fun a U g mk q => by obtain ⟨q0, q1, qP, qK, qD⟩ := q; exact ⟨q0, q1, qP, va_K.moved (u := U) (U := U.calling g mk a) (Vm.Alike.refl U.vm) qK, qD⟩, va_recv (q0 := 0) (ci := 12) hK hP rfl rfl, fun U hU hW => ⟨rfl, by rw [hU], by rw [hU]; exact hPc, va_K.moved hW.alike hK, hDc.weaken (fun _ _ _ _ => trivial)⟩⟩ rfl rfl hl.1 rfl (lv_room (Nat.le_of_ble_eq_true rfl)) d_Md_user_29 ⟨Nat.le_of_ble_eq_true rfl, Nat.le_of_ble_eq_true rfl⟩) hS (fun q _ h => hFc q h) hFc (fun rv9 u t H1 locs ht hvm hw hB hz1 hk1 hS => ?_)
            try dsimp only at hw hB
            obtain ⟨hP1, hK1, hD1⟩ := hB
            rw [ht] at hP1
            obtain ⟨rfl, hw⟩ := hw
            obtain ⟨hP, hD⟩ := va_join (wr := [(r 5, .inl ((cT 0), 1920, .inl f5)), (r 6, .inl ((cT 0), 32, .inl f6))]) (w1 := [(mo, .inr (12, mdG r 0 tm (nI sn) (nI tx) (nI lz) (nI az) (nI na) (nI nt) (nI nr) mw ml mk dq))]) hP hD [0] [1, 2] rfl rfl (by decide) (by decide) hk1 hFc hP1 hD1
            have hw51 := hw
            clear hPc hDc hFc hz1 hk1 hP1 hK1 hD1
            generalize H1 = H at hP hS ⊢
            have hP : va_P (dC, dI) vcl [(r 5, .inl ((cT 0), 1920, .inl f5)), (r 6, .inl ((cT 0), 32, .inl f6)), (mo, .inr (12, mdG r 0 tm (nI sn) (nI tx) (nI lz) (nI az) (nI na) (nI nt) (nI nr) mw ml mk dq))] H := hP
            have hD : va_D A [(r 5, .inl ((cT 0), 1920, .inl f5)), (r 6, .inl ((cT 0), 32, .inl f6)), (mo, .inr (12, mdG r 0 tm (nI sn) (nI tx) (nI lz) (nI az) (nI na) (nI nt) (nI nr) mw ml mk dq))] := hD
            refine lv_if_ne (tgt := 37) hx hb d_Md_user_32 (by decide) (fun hc52 => ?_) (fun hn9 => absurd hn9 (by decide))
            refine lv_aload_n hx hb d_Md_user_37 rfl (lv_at hl 0 rfl) ?_
            refine va_get (D := (dC, dI)) (ci := 12) (v := (.ref (r 6))) (C := R_Md) (T := F_Md) (N := 45) hx hb hg in_Md hown hK hP 2 rfl rfl 6 (by decide) (hg _ k_1026) (fun _ h9 => h9) rfl d_Md_user_38 ?_
            refine lv_iload_n hx hb d_Md_user_41 rfl (lv_at hl 1 rfl) ?_
            obtain ⟨t53, ht53, xt53⟩ := h6 xn (by omega)
            refine va_iald hx hb hK hP 1 0 rfl rfl (i := (nI xn)) (vp_in_nI (N := 32) (by omega) (by decide)) d_Md_user_42 ?_
            refine lv_topi (fun x55 e54 => ?_)
            obtain rfl : x55 = nI t53 := by rw [e54]; rw [nI_clamp (by omega)]; exact xt53
            refine lv_if_ne (tgt := 50) hx hb d_Md_user_43 (by decide) (fun hc56 => ?_) (fun hc56 => ?_)
            · skip
              have n57 : ¬ t53 = 0 := fun h7 => hc56 ((nI_eq (a := t53) (b := 0) (by omega) (by omega)).mpr h7)
              refine lv_iconst (v := 0) hx hb d_Md_user_50 (by decide) ?_
              refine lv_istore (lv' := [(5, .int 0), (0, .ref mo), (1, .int (nI xn)), (2, .long v), (4, .int (nI yn))]) hx hb d_Md_user_51 hl (by decide) rfl (fun ls hl => ?_)
              refine lv_iconst (v := 0) hx hb d_Md_user_53 (by decide) ?_
              refine lv_istore (lv' := [(6, .int 0), (5, .int 0), (0, .ref mo), (1, .int (nI xn)), (2, .long v), (4, .int (nI yn))]) hx hb d_Md_user_54 hl (by decide) rfl (fun ls hl => ?_)
              have hl := lv_sub hl [0, 1, 2, 3, 4, 5] (show _ = [(6, .int 0), (5, .int 0), (0, .ref mo), (1, .int (nI xn)), (2, .long v), (4, .int (nI yn))] from rfl)
              have L60 : ∀ (Q : State → Prop) (exit : ∀ (g5_59 : Nat → Int32) (H : Heap) (locs : List Loc) (ls : Array Slot), va_P (dC, dI) vcl [(r 5, .inl ((cT 0), 1920, .inl g5_59)), (r 6, .inl ((cT 0), 32, .inl f6)), (mo, .inr (12, mdG r 0 tm (nI sn) (nI tx) (nI lz) (nI az) (nI na) (nI nt) (nI nr) mw ml mk dq))] H → va_D A [(r 5, .inl ((cT 0), 1920, .inl g5_59)), (r 6, .inl ((cT 0), 32, .inl f6)), (mo, .inr (12, mdG r 0 tm (nI sn) (nI tx) (nI lz) (nI az) (nI na) (nI nt) (nI nr) mw ml mk dq))] → va_S A s.heap H locs → lv_has ls 7 [(6, .int (nI yn)), (5, .int 0), (0, .ref mo), (1, .int (nI xn)), (2, .long v), (4, .int (nI yn))] → W p l e ({ frames := 1, cells := 0, slots := 0, locals := 22 } : Room) s m args below meth c H locs 0 0 Q (F0 m 87 ls [])) (j8 i : Nat) (g5_59 : Nat → Int32) (H : Heap) (locs : List Loc) (ls : Array Slot), i + j8 = yn → va_P (dC, dI) vcl [(r 5, .inl ((cT 0), 1920, .inl g5_59)), (r 6, .inl ((cT 0), 32, .inl f6)), (mo, .inr (12, mdG r 0 tm (nI sn) (nI tx) (nI lz) (nI az) (nI na) (nI nt) (nI nr) mw ml mk dq))] H → va_D A [(r 5, .inl ((cT 0), 1920, .inl g5_59)), (r 6, .inl ((cT 0), 32, .inl f6)), (mo, .inr (12, mdG r 0 tm (nI sn) (nI tx) (nI lz) (nI az) (nI na) (nI nt) (nI nr) mw ml mk dq))] → va_S A s.heap H locs → lv_has ls 7 [(6, .int (nI i)), (5, .int 0), (0, .ref mo), (1, .int (nI xn)), (2, .long v), (4, .int (nI yn))] → W p l e ({ frames := 1, cells := 0, slots := 0, locals := 22 } : Room) s m args below meth c H locs 0 0 Q (F0 m 56 ls []) := by
                intro Q exit j8
                induction j8 with
                | zero => 
                  intro i g5_59 H locs ls hij  hP hD hS hl
                  have hij : yn = i := by omega
                  refine lv_iload hx hb d_Md_user_56 (lv_at hl 0 rfl) ?_
                  refine lv_iload hx hb d_Md_user_58 (lv_at hl 5 rfl) ?_
                  refine lv_icmp_ge (tgt := 87) hx hb d_Md_user_60 (by decide) (fun hc61 => ?_) (fun hn9 => absurd (nI_le (by omega) (by omega)) hn9)
                  subst hij
                  exact exit g5_59 _ _ _  hP hD hS hl
                | succ j8 ih => 
                  intro i g5_59 H locs ls hij  hP hD hS hl
                  have hlt : i < yn := by omega
                  have hlti := hlt
                  refine lv_iload hx hb d_Md_user_56 (lv_at hl 0 rfl) ?_
                  refine lv_iload hx hb d_Md_user_58 (lv_at hl 5 rfl) ?_
                  refine lv_icmp_ge (tgt := 87) hx hb d_Md_user_60 (by decide) (fun hn9 => absurd hn9 (nI_ge (by omega) (by omega))) (fun hc62 => ?_)
                  refine lv_aload_n hx hb d_Md_user_63 rfl (lv_at hl 2 rfl) ?_
                  refine va_get (D := (dC, dI)) (ci := 12) (v := (.ref (r 5))) (C := R_Md) (T := F_Md) (N := 45) hx hb hg in_Md hown hK hP 2 rfl rfl 5 (by decide) (hg _ k_1025) (fun _ h9 => h9) rfl d_Md_user_64 ?_
                  refine lv_bipush (v := 60) hx hb d_Md_user_67 (by decide) ?_
                  refine lv_iload_n hx hb d_Md_user_69 rfl (lv_at hl 3 rfl) ?_
                  refine lv_imul hx hb d_Md_user_70 ?_
                  refine lv_topi (fun x64 e63 => ?_)
                  obtain rfl : x64 = nI (60 * xn) := by rw [e63]; exact pk_mul 60 xn
                  refine lv_iload hx hb d_Md_user_71 (lv_at hl 0 rfl) ?_
                  refine lv_iadd hx hb d_Md_user_73 ?_
                  refine lv_topi (fun x66 e65 => ?_)
                  obtain rfl : x66 = nI ((60 * xn) + i) := by rw [e65]; exact nI_add (60 * xn) i
                  refine lv_lload_n hx hb d_Md_user_74 rfl (lv_at hl 4 rfl) ?_
                  refine lv_iload hx hb d_Md_user_75 (lv_at hl 0 rfl) ?_
                  have hPc := hP.sub (ws' := []) [] rfl
                  have hDc := hD.sub (ws' := []) [] (by decide) rfl
                  have hFc := va_free (wc := []) hD hS hA [] rfl
                  refine va_calli (va_runS (As := [.long v, .int (nI i)]) (rest := [.int (nI ((60 * xn) + i)), .ref (r 5)]) ⟨hx, hb, hml, hown, hg⟩ (m_letter l dC dI cT H.size v (nI i) ) (va_cwS 2 hg (gI (List.forall_mem_append.mpr ⟨List.forall_mem_cons.mpr ⟨k_1169, List.forall_mem_cons.mpr ⟨k_1170, List.forall_mem_cons.mpr ⟨k_13, fun _ h => absurd h List.not_mem_nil⟩⟩⟩, List.forall_mem_cons.mpr ⟨k_1171, fun _ h => h⟩⟩)) rfl rfl rfl (by decide +kernel) ⟨Nat.le_of_ble_eq_true rfl, Nat.le_of_ble_eq_true rfl⟩) ⟨fun a U g mk q => by obtain ⟨q0, q1, qP, qK, qD⟩ := q; exact ⟨q0, q1, qP, va_K.moved (u := U) (U := U.calling g mk a) (Vm.Alike.refl U.vm) qK, qD⟩, fun U hU hW => ⟨rfl, by rw [hU], by rw [hU]; exact hPc, va_K.moved hW.alike hK, hDc.weaken (fun _ _ _ _ => trivial)⟩⟩ rfl rfl hl.1 rfl (lv_room (Nat.le_of_ble_eq_true rfl)) d_Md_user_77 ⟨Nat.le_of_ble_eq_true rfl, Nat.le_of_ble_eq_true rfl⟩) hS (fun q _ h => hFc q h) hFc (fun rv9 u t H1 locs ht hvm hw hB hz1 hk1 hS => ?_)
                  try dsimp only at hw hB
                  obtain ⟨hP1, hK1, hD1⟩ := hB
                  rw [ht] at hP1
                  generalize rv9 = r67 at hw ⊢
                  obtain ⟨hP, hD⟩ := va_join (wr := [(r 5, .inl ((cT 0), 1920, .inl g5_59)), (r 6, .inl ((cT 0), 32, .inl f6)), (mo, .inr (12, mdG r 0 tm (nI sn) (nI tx) (nI lz) (nI az) (nI na) (nI nt) (nI nr) mw ml mk dq))]) (w1 := []) hP hD [] [0, 1, 2] rfl rfl (by decide) (by decide) hk1 hFc hP1 hD1
                  have hw68 := hw
                  clear hPc hDc hFc hz1 hk1 hP1 hK1 hD1
                  generalize H1 = H at hP hS ⊢
                  have hP : va_P (dC, dI) vcl [(r 5, .inl ((cT 0), 1920, .inl g5_59)), (r 6, .inl ((cT 0), 32, .inl f6)), (mo, .inr (12, mdG r 0 tm (nI sn) (nI tx) (nI lz) (nI az) (nI na) (nI nt) (nI nr) mw ml mk dq))] H := hP
                  have hD : va_D A [(r 5, .inl ((cT 0), 1920, .inl g5_59)), (r 6, .inl ((cT 0), 32, .inl f6)), (mo, .inr (12, mdG r 0 tm (nI sn) (nI tx) (nI lz) (nI az) (nI na) (nI nt) (nI nr) mw ml mk dq))] := hD
                  refine va_iast hx hb hK hP hD hS 0 0 rfl rfl (i := (nI ((60 * xn) + i))) (vp_in_nI (n := (60 * xn) + i) (N := 1920) (by omega) (by decide)) d_Md_user_80 (fun H locs hP hD hS => ?_)
                  have ef69 : upd g5_59 (nI ((60 * xn) + i)).toNatClampNeg r67 = upd g5_59 ((60 * xn) + i) r67 := by rw [show (nI ((60 * xn) + i)).toNatClampNeg = (60 * xn) + i from nI_clamp (by omega)]
                  rw [ef69] at hP hD
                  have hP : va_P (dC, dI) vcl [(r 5, .inl ((cT 0), 1920, .inl (upd g5_59 ((60 * xn) + i) r67))), (r 6, .inl ((cT 0), 32, .inl f6)), (mo, .inr (12, mdG r 0 tm (nI sn) (nI tx) (nI lz) (nI az) (nI na) (nI nt) (nI nr) mw ml mk dq))] H := hP
                  have hD : va_D A [(r 5, .inl ((cT 0), 1920, .inl (upd g5_59 ((60 * xn) + i) r67))), (r 6, .inl ((cT 0), 32, .inl f6)), (mo, .inr (12, mdG r 0 tm (nI sn) (nI tx) (nI lz) (nI az) (nI na) (nI nt) (nI nr) mw ml mk dq))] := hD
                  refine lv_iinc (k := 0) (v := nI (i + 1)) (lv' := [(6, .int (nI (i + 1))), (5, .int 0), (0, .ref mo), (1, .int (nI xn)), (2, .long v), (4, .int (nI yn))]) hx hb d_Md_user_81 hl rfl (nI_1 i) (by decide) rfl (fun ls hl => ?_)
                  refine lv_goto (tgt := 56) hx hb d_Md_user_84 (by decide) ?_
                  have hl := lv_sub hl [0, 1, 2, 3, 4, 5] (show _ = [(6, .int (nI (i + 1))), (5, .int 0), (0, .ref mo), (1, .int (nI xn)), (2, .long v), (4, .int (nI yn))] from rfl)
                  exact ih (i + 1) _ _ _ _ (by omega)  hP hD hS hl
              refine L60 _ (fun g5_59 H locs ls  hP hD hS hl => ?_) (yn - 0) 0 f5 H _ ls (by omega)  hP hD hS hl
              refine lv_aload_n hx hb d_Md_user_87 rfl (lv_at hl 2 rfl) ?_
              refine va_get (D := (dC, dI)) (ci := 12) (v := (.ref (r 6))) (C := R_Md) (T := F_Md) (N := 45) hx hb hg in_Md hown hK hP 2 rfl rfl 6 (by decide) (hg _ k_1026) (fun _ h9 => h9) rfl d_Md_user_88 ?_
              refine lv_iload_n hx hb d_Md_user_91 rfl (lv_at hl 3 rfl) ?_
              refine lv_iload hx hb d_Md_user_92 (lv_at hl 5 rfl) ?_
              refine va_iast hx hb hK hP hD hS 1 0 rfl rfl (i := (nI xn)) (vp_in_nI (n := xn) (N := 32) (by omega) (by decide)) d_Md_user_94 (fun H locs hP hD hS => ?_)
              have ef70 : upd f6 (nI xn).toNatClampNeg (nI yn) = upd f6 xn (nI yn) := by rw [show (nI xn).toNatClampNeg = xn from nI_clamp (by omega)]
              rw [ef70] at hP hD
              have hP : va_P (dC, dI) vcl [(r 5, .inl ((cT 0), 1920, .inl g5_59)), (r 6, .inl ((cT 0), 32, .inl (upd f6 xn (nI yn)))), (mo, .inr (12, mdG r 0 tm (nI sn) (nI tx) (nI lz) (nI az) (nI na) (nI nt) (nI nr) mw ml mk dq))] H := hP
              have hD : va_D A [(r 5, .inl ((cT 0), 1920, .inl g5_59)), (r 6, .inl ((cT 0), 32, .inl (upd f6 xn (nI yn)))), (mo, .inr (12, mdG r 0 tm (nI sn) (nI tx) (nI lz) (nI az) (nI na) (nI nt) (nI nr) mw ml mk dq))] := hD
              refine lv_iload hx hb d_Md_user_95 (lv_at hl 1 rfl) ?_
              have hP9 := hP.sub (ws' := [(mo, .inr (12, mdG r 0 tm (nI sn) (nI tx) (nI lz) (nI az) (nI na) (nI nt) (nI nr) mw ml mk dq)), (r 5, .inl ((cT 0), 1920, .inl g5_59)), (r 6, .inl ((cT 0), 32, .inl (upd f6 xn (nI yn))))]) [2, 0, 1] rfl
              have hD9 := hD.sub (ws' := [(mo, .inr (12, mdG r 0 tm (nI sn) (nI tx) (nI lz) (nI az) (nI na) (nI nt) (nI nr) mw ml mk dq)), (r 5, .inl ((cT 0), 1920, .inl g5_59)), (r 6, .inl ((cT 0), 32, .inl (upd f6 xn (nI yn))))]) [2, 0, 1] (by decide) rfl
              exact W.zret (v := 0) hx hb hr (by first | rfl | decide) (fun t ht hW => ⟨⟨_, ⟨g5_59, upd f6 xn (nI yn), 0⟩, rfl, ⟨Or.inr ⟨rfl, okU (by omega) (by omega) (by omega), xn, yn, rfl, by omega, by omega, by omega, rfl, fun h9 => absurd ((nI_eq (a := t53) (b := 0) (by omega) (by decide)).mp (by rw [← xt53]; exact h9)) (by omega), fun _ => rfl⟩, BD_upd h6 (by omega)⟩, by rw [ht]; exact hP9, va_K.moved hW.alike hK, hD9⟩, hS.F ht⟩) hS.2.2 d_Md_user_97
            · skip
              have n58 : t53 = 0 := (nI_eq (a := t53) (b := 0) (by omega) (by omega)).mp hc56
              refine lv_iconst (v := 1) hx hb d_Md_user_46 (by decide) ?_
              refine lv_goto (tgt := 51) hx hb d_Md_user_47 (by decide) ?_
              refine lv_istore (lv' := [(5, .int 1), (0, .ref mo), (1, .int (nI xn)), (2, .long v), (4, .int (nI yn))]) hx hb d_Md_user_51 hl (by decide) rfl (fun ls hl => ?_)
              refine lv_iconst (v := 0) hx hb d_Md_user_53 (by decide) ?_
              refine lv_istore (lv' := [(6, .int 0), (5, .int 1), (0, .ref mo), (1, .int (nI xn)), (2, .long v), (4, .int (nI yn))]) hx hb d_Md_user_54 hl (by decide) rfl (fun ls hl => ?_)
              have hl := lv_sub hl [0, 1, 2, 3, 4, 5] (show _ = [(6, .int 0), (5, .int 1), (0, .ref mo), (1, .int (nI xn)), (2, .long v), (4, .int (nI yn))] from rfl)
              have L72 : ∀ (Q : State → Prop) (exit : ∀ (g5_71 : Nat → Int32) (H : Heap) (locs : List Loc) (ls : Array Slot), va_P (dC, dI) vcl [(r 5, .inl ((cT 0), 1920, .inl g5_71)), (r 6, .inl ((cT 0), 32, .inl f6)), (mo, .inr (12, mdG r 0 tm (nI sn) (nI tx) (nI lz) (nI az) (nI na) (nI nt) (nI nr) mw ml mk dq))] H → va_D A [(r 5, .inl ((cT 0), 1920, .inl g5_71)), (r 6, .inl ((cT 0), 32, .inl f6)), (mo, .inr (12, mdG r 0 tm (nI sn) (nI tx) (nI lz) (nI az) (nI na) (nI nt) (nI nr) mw ml mk dq))] → va_S A s.heap H locs → lv_has ls 7 [(6, .int (nI yn)), (5, .int 1), (0, .ref mo), (1, .int (nI xn)), (2, .long v), (4, .int (nI yn))] → W p l e ({ frames := 1, cells := 0, slots := 0, locals := 22 } : Room) s m args below meth c H locs 0 0 Q (F0 m 87 ls [])) (j8 i : Nat) (g5_71 : Nat → Int32) (H : Heap) (locs : List Loc) (ls : Array Slot), i + j8 = yn → va_P (dC, dI) vcl [(r 5, .inl ((cT 0), 1920, .inl g5_71)), (r 6, .inl ((cT 0), 32, .inl f6)), (mo, .inr (12, mdG r 0 tm (nI sn) (nI tx) (nI lz) (nI az) (nI na) (nI nt) (nI nr) mw ml mk dq))] H → va_D A [(r 5, .inl ((cT 0), 1920, .inl g5_71)), (r 6, .inl ((cT 0), 32, .inl f6)), (mo, .inr (12, mdG r 0 tm (nI sn) (nI tx) (nI lz) (nI az) (nI na) (nI nt) (nI nr) mw ml mk dq))] → va_S A s.heap H locs → lv_has ls 7 [(6, .int (nI i)), (5, .int 1), (0, .ref mo), (1, .int (nI xn)), (2, .long v), (4, .int (nI yn))] → W p l e ({ frames := 1, cells := 0, slots := 0, locals := 22 } : Room) s m args below meth c H locs 0 0 Q (F0 m 56 ls []) := by
                intro Q exit j8
                induction j8 with
                | zero => 
                  intro i g5_71 H locs ls hij  hP hD hS hl
                  have hij : yn = i := by omega
                  refine lv_iload hx hb d_Md_user_56 (lv_at hl 0 rfl) ?_
                  refine lv_iload hx hb d_Md_user_58 (lv_at hl 5 rfl) ?_
                  refine lv_icmp_ge (tgt := 87) hx hb d_Md_user_60 (by decide) (fun hc73 => ?_) (fun hn9 => absurd (nI_le (by omega) (by omega)) hn9)
                  subst hij
                  exact exit g5_71 _ _ _  hP hD hS hl
                | succ j8 ih => 
                  intro i g5_71 H locs ls hij  hP hD hS hl
                  have hlt : i < yn := by omega
                  have hlti := hlt
                  refine lv_iload hx hb d_Md_user_56 (lv_at hl 0 rfl) ?_
                  refine lv_iload hx hb d_Md_user_58 (lv_at hl 5 rfl) ?_
                  refine lv_icmp_ge (tgt := 87) hx hb d_Md_user_60 (by decide) (fun hn9 => absurd hn9 (nI_ge (by omega) (by omega))) (fun hc74 => ?_)
                  refine lv_aload_n hx hb d_Md_user_63 rfl (lv_at hl 2 rfl) ?_
                  refine va_get (D := (dC, dI)) (ci := 12) (v := (.ref (r 5))) (C := R_Md) (T := F_Md) (N := 45) hx hb hg in_Md hown hK hP 2 rfl rfl 5 (by decide) (hg _ k_1025) (fun _ h9 => h9) rfl d_Md_user_64 ?_
                  refine lv_bipush (v := 60) hx hb d_Md_user_67 (by decide) ?_
                  refine lv_iload_n hx hb d_Md_user_69 rfl (lv_at hl 3 rfl) ?_
                  refine lv_imul hx hb d_Md_user_70 ?_
                  refine lv_topi (fun x76 e75 => ?_)
                  obtain rfl : x76 = nI (60 * xn) := by rw [e75]; exact pk_mul 60 xn
                  refine lv_iload hx hb d_Md_user_71 (lv_at hl 0 rfl) ?_
                  refine lv_iadd hx hb d_Md_user_73 ?_
                  refine lv_topi (fun x78 e77 => ?_)
                  obtain rfl : x78 = nI ((60 * xn) + i) := by rw [e77]; exact nI_add (60 * xn) i
                  refine lv_lload_n hx hb d_Md_user_74 rfl (lv_at hl 4 rfl) ?_
                  refine lv_iload hx hb d_Md_user_75 (lv_at hl 0 rfl) ?_
                  have hPc := hP.sub (ws' := []) [] rfl
                  have hDc := hD.sub (ws' := []) [] (by decide) rfl
                  have hFc := va_free (wc := []) hD hS hA [] rfl
                  refine va_calli (va_runS (As := [.long v, .int (nI i)]) (rest := [.int (nI ((60 * xn) + i)), .ref (r 5)]) ⟨hx, hb, hml, hown, hg⟩ (m_letter l dC dI cT H.size v (nI i) ) (va_cwS 2 hg (gI (List.forall_mem_append.mpr ⟨List.forall_mem_cons.mpr ⟨k_1169, List.forall_mem_cons.mpr ⟨k_1170, List.forall_mem_cons.mpr ⟨k_13, fun _ h => absurd h List.not_mem_nil⟩⟩⟩, List.forall_mem_cons.mpr ⟨k_1171, fun _ h => h⟩⟩)) rfl rfl rfl (by decide +kernel) ⟨Nat.le_of_ble_eq_true rfl, Nat.le_of_ble_eq_true rfl⟩) ⟨fun a U g mk q => by obtain ⟨q0, q1, qP, qK, qD⟩ := q; exact ⟨q0, q1, qP, va_K.moved (u := U) (U := U.calling g mk a) (Vm.Alike.refl U.vm) qK, qD⟩, fun U hU hW => ⟨rfl, by rw [hU], by rw [hU]; exact hPc, va_K.moved hW.alike hK, hDc.weaken (fun _ _ _ _ => trivial)⟩⟩ rfl rfl hl.1 rfl (lv_room (Nat.le_of_ble_eq_true rfl)) d_Md_user_77 ⟨Nat.le_of_ble_eq_true rfl, Nat.le_of_ble_eq_true rfl⟩) hS (fun q _ h => hFc q h) hFc (fun rv9 u t H1 locs ht hvm hw hB hz1 hk1 hS => ?_)
                  try dsimp only at hw hB
                  obtain ⟨hP1, hK1, hD1⟩ := hB
                  rw [ht] at hP1
                  generalize rv9 = r79 at hw ⊢
                  obtain ⟨hP, hD⟩ := va_join (wr := [(r 5, .inl ((cT 0), 1920, .inl g5_71)), (r 6, .inl ((cT 0), 32, .inl f6)), (mo, .inr (12, mdG r 0 tm (nI sn) (nI tx) (nI lz) (nI az) (nI na) (nI nt) (nI nr) mw ml mk dq))]) (w1 := []) hP hD [] [0, 1, 2] rfl rfl (by decide) (by decide) hk1 hFc hP1 hD1
                  have hw80 := hw
                  clear hPc hDc hFc hz1 hk1 hP1 hK1 hD1
                  generalize H1 = H at hP hS ⊢
                  have hP : va_P (dC, dI) vcl [(r 5, .inl ((cT 0), 1920, .inl g5_71)), (r 6, .inl ((cT 0), 32, .inl f6)), (mo, .inr (12, mdG r 0 tm (nI sn) (nI tx) (nI lz) (nI az) (nI na) (nI nt) (nI nr) mw ml mk dq))] H := hP
                  have hD : va_D A [(r 5, .inl ((cT 0), 1920, .inl g5_71)), (r 6, .inl ((cT 0), 32, .inl f6)), (mo, .inr (12, mdG r 0 tm (nI sn) (nI tx) (nI lz) (nI az) (nI na) (nI nt) (nI nr) mw ml mk dq))] := hD
                  refine va_iast hx hb hK hP hD hS 0 0 rfl rfl (i := (nI ((60 * xn) + i))) (vp_in_nI (n := (60 * xn) + i) (N := 1920) (by omega) (by decide)) d_Md_user_80 (fun H locs hP hD hS => ?_)
                  have ef81 : upd g5_71 (nI ((60 * xn) + i)).toNatClampNeg r79 = upd g5_71 ((60 * xn) + i) r79 := by rw [show (nI ((60 * xn) + i)).toNatClampNeg = (60 * xn) + i from nI_clamp (by omega)]
                  rw [ef81] at hP hD
                  have hP : va_P (dC, dI) vcl [(r 5, .inl ((cT 0), 1920, .inl (upd g5_71 ((60 * xn) + i) r79))), (r 6, .inl ((cT 0), 32, .inl f6)), (mo, .inr (12, mdG r 0 tm (nI sn) (nI tx) (nI lz) (nI az) (nI na) (nI nt) (nI nr) mw ml mk dq))] H := hP
                  have hD : va_D A [(r 5, .inl ((cT 0), 1920, .inl (upd g5_71 ((60 * xn) + i) r79))), (r 6, .inl ((cT 0), 32, .inl f6)), (mo, .inr (12, mdG r 0 tm (nI sn) (nI tx) (nI lz) (nI az) (nI na) (nI nt) (nI nr) mw ml mk dq))] := hD
                  refine lv_iinc (k := 0) (v := nI (i + 1)) (lv' := [(6, .int (nI (i + 1))), (5, .int 1), (0, .ref mo), (1, .int (nI xn)), (2, .long v), (4, .int (nI yn))]) hx hb d_Md_user_81 hl rfl (nI_1 i) (by decide) rfl (fun ls hl => ?_)
                  refine lv_goto (tgt := 56) hx hb d_Md_user_84 (by decide) ?_
                  have hl := lv_sub hl [0, 1, 2, 3, 4, 5] (show _ = [(6, .int (nI (i + 1))), (5, .int 1), (0, .ref mo), (1, .int (nI xn)), (2, .long v), (4, .int (nI yn))] from rfl)
                  exact ih (i + 1) _ _ _ _ (by omega)  hP hD hS hl
              refine L72 _ (fun g5_71 H locs ls  hP hD hS hl => ?_) (yn - 0) 0 f5 H _ ls (by omega)  hP hD hS hl
              refine lv_aload_n hx hb d_Md_user_87 rfl (lv_at hl 2 rfl) ?_
              refine va_get (D := (dC, dI)) (ci := 12) (v := (.ref (r 6))) (C := R_Md) (T := F_Md) (N := 45) hx hb hg in_Md hown hK hP 2 rfl rfl 6 (by decide) (hg _ k_1026) (fun _ h9 => h9) rfl d_Md_user_88 ?_
              refine lv_iload_n hx hb d_Md_user_91 rfl (lv_at hl 3 rfl) ?_
              refine lv_iload hx hb d_Md_user_92 (lv_at hl 5 rfl) ?_
              refine va_iast hx hb hK hP hD hS 1 0 rfl rfl (i := (nI xn)) (vp_in_nI (n := xn) (N := 32) (by omega) (by decide)) d_Md_user_94 (fun H locs hP hD hS => ?_)
              have ef82 : upd f6 (nI xn).toNatClampNeg (nI yn) = upd f6 xn (nI yn) := by rw [show (nI xn).toNatClampNeg = xn from nI_clamp (by omega)]
              rw [ef82] at hP hD
              have hP : va_P (dC, dI) vcl [(r 5, .inl ((cT 0), 1920, .inl g5_71)), (r 6, .inl ((cT 0), 32, .inl (upd f6 xn (nI yn)))), (mo, .inr (12, mdG r 0 tm (nI sn) (nI tx) (nI lz) (nI az) (nI na) (nI nt) (nI nr) mw ml mk dq))] H := hP
              have hD : va_D A [(r 5, .inl ((cT 0), 1920, .inl g5_71)), (r 6, .inl ((cT 0), 32, .inl (upd f6 xn (nI yn)))), (mo, .inr (12, mdG r 0 tm (nI sn) (nI tx) (nI lz) (nI az) (nI na) (nI nt) (nI nr) mw ml mk dq))] := hD
              refine lv_iload hx hb d_Md_user_95 (lv_at hl 1 rfl) ?_
              have hP9 := hP.sub (ws' := [(mo, .inr (12, mdG r 0 tm (nI sn) (nI tx) (nI lz) (nI az) (nI na) (nI nt) (nI nr) mw ml mk dq)), (r 5, .inl ((cT 0), 1920, .inl g5_71)), (r 6, .inl ((cT 0), 32, .inl (upd f6 xn (nI yn))))]) [2, 0, 1] rfl
              have hD9 := hD.sub (ws' := [(mo, .inr (12, mdG r 0 tm (nI sn) (nI tx) (nI lz) (nI az) (nI na) (nI nt) (nI nr) mw ml mk dq)), (r 5, .inl ((cT 0), 1920, .inl g5_71)), (r 6, .inl ((cT 0), 32, .inl (upd f6 xn (nI yn))))]) [2, 0, 1] (by decide) rfl
              exact W.zret (v := 1) hx hb hr (by first | rfl | decide) (fun t ht hW => ⟨⟨_, ⟨g5_71, upd f6 xn (nI yn), 0⟩, rfl, ⟨Or.inr ⟨rfl, okU (by omega) (by omega) (by omega), xn, yn, rfl, by omega, by omega, by omega, rfl, fun _ => rfl, fun h9 => absurd (show f6 xn = 0 by rw [xt53]; exact congrArg nI (show t53 = 0 by omega)) h9⟩, BD_upd h6 (by omega)⟩, by rw [ht]; exact hP9, va_K.moved hW.alike hK, hD9⟩, hS.F ht⟩) hS.2.2 d_Md_user_97
theorem ut_up {gp : Nat → Option Nat} {rb : Nat → Nat} {f6 : Nat → Int32} {us q k k2 : Nat} (h : ∀ i9 q9 : Nat, i9 < 32 → gp i9 = some q9 → (rb q9 = 0 ↔ f6 i9 = 0)) (hi : ∀ a b : Nat, a < 32 → b < 32 → gp a = gp b → a = b) (hu : us < 32) (hg : gp us = some q) (hk : 1 ≤ k) (hk2 : 1 ≤ k2) (hk3 : k2 ≤ 60) : ∀ i9 q9 : Nat, i9 < 32 → gp i9 = some q9 → (va_up rb q k q9 = 0 ↔ upd f6 us (nI k2) i9 = 0) := fun i9 q9 h9 hq => by
  by_cases hqq : q9 = q
  · subst hqq
    have e := hi i9 us h9 hu (hq.trans hg.symm)
    subst e
    rw [va_up_self, pk_us]
    exact ⟨fun h8 => by omega, fun h8 => absurd h8 (nI_ne0 (by omega) (by omega))⟩
  · have hne : i9 ≠ us := fun h8 => hqq (Option.some.inj (by rw [← hq, h8]; exact hg))
    rw [va_up_ne rb k hqq, pk_un hne]
    exact h i9 q9 h9 hq
