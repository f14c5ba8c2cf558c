theorem d_By_init_0 : decode b_By_init 0 = .ok (.aload_n 0, 1) := by decide +kernel
theorem d_By_init_1 : decode b_By_init 1 = .ok (.invokespecial 3, 3) := by decide +kernel
theorem d_By_init_4 : decode b_By_init 4 = .ok (.aload_n 0, 1) := by decide +kernel
theorem d_By_init_5 : decode b_By_init 5 = .ok (.iload_n 1, 1) := by decide +kernel
theorem d_By_init_6 : decode b_By_init 6 = .ok (.newarray .int, 2) := by decide +kernel
theorem d_By_init_8 : decode b_By_init 8 = .ok (.putfield 9, 3) := by decide +kernel
theorem d_By_init_11 : decode b_By_init 11 = .ok (.return_, 1) := by decide +kernel
theorem d_Pk_init_0 : decode b_Pk_init 0 = .ok (.aload_n 0, 1) := by decide +kernel
theorem d_Pk_init_1 : decode b_Pk_init 1 = .ok (.iload_n 1, 1) := by decide +kernel
theorem d_Pk_init_2 : decode b_Pk_init 2 = .ok (.invokespecial 3, 3) := by decide +kernel
theorem d_Pk_init_5 : decode b_Pk_init 5 = .ok (.return_, 1) := by decide +kernel
theorem d_Ke_init_0 : decode b_Ke_init 0 = .ok (.aload_n 0, 1) := by decide +kernel
theorem d_Ke_init_1 : decode b_Ke_init 1 = .ok (.invokespecial 3, 3) := by decide +kernel
theorem d_Ke_init_4 : decode b_Ke_init 4 = .ok (.aload_n 0, 1) := by decide +kernel
theorem d_Ke_init_5 : decode b_Ke_init 5 = .ok (.bipush 16, 2) := by decide +kernel
theorem d_Ke_init_7 : decode b_Ke_init 7 = .ok (.newarray .int, 2) := by decide +kernel
theorem d_Ke_init_9 : decode b_Ke_init 9 = .ok (.putfield 9, 3) := by decide +kernel
theorem d_Ke_init_12 : decode b_Ke_init 12 = .ok (.aload_n 0, 1) := by decide +kernel
theorem d_Ke_init_13 : decode b_Ke_init 13 = .ok (.new 15, 3) := by decide +kernel
theorem d_Ke_init_16 : decode b_Ke_init 16 = .ok (.dup, 1) := by decide +kernel
theorem d_Ke_init_17 : decode b_Ke_init 17 = .ok (.bipush 72, 2) := by decide +kernel
theorem d_Ke_init_19 : decode b_Ke_init 19 = .ok (.invokespecial 17, 3) := by decide +kernel
theorem d_Ke_init_22 : decode b_Ke_init 22 = .ok (.putfield 20, 3) := by decide +kernel
theorem d_Ke_init_25 : decode b_Ke_init 25 = .ok (.return_, 1) := by decide +kernel
theorem d_Tl_init_0 : decode b_Tl_init 0 = .ok (.aload_n 0, 1) := by decide +kernel
theorem d_Tl_init_1 : decode b_Tl_init 1 = .ok (.invokespecial 3, 3) := by decide +kernel
theorem d_Tl_init_4 : decode b_Tl_init 4 = .ok (.aload_n 0, 1) := by decide +kernel
theorem d_Tl_init_5 : decode b_Tl_init 5 = .ok (.bipush 16, 2) := by decide +kernel
theorem d_Tl_init_7 : decode b_Tl_init 7 = .ok (.newarray .int, 2) := by decide +kernel
theorem d_Tl_init_9 : decode b_Tl_init 9 = .ok (.putfield 9, 3) := by decide +kernel
theorem d_Tl_init_12 : decode b_Tl_init 12 = .ok (.return_, 1) := by decide +kernel
theorem d_Se_init_0 : decode b_Se_init 0 = .ok (.aload_n 0, 1) := by decide +kernel
theorem d_Se_init_1 : decode b_Se_init 1 = .ok (.invokespecial 3, 3) := by decide +kernel
theorem d_Se_init_4 : decode b_Se_init 4 = .ok (.aload_n 0, 1) := by decide +kernel
theorem d_Se_init_5 : decode b_Se_init 5 = .ok (.new 9, 3) := by decide +kernel
theorem d_Se_init_8 : decode b_Se_init 8 = .ok (.dup, 1) := by decide +kernel
theorem d_Se_init_9 : decode b_Se_init 9 = .ok (.bipush 16, 2) := by decide +kernel
theorem d_Se_init_11 : decode b_Se_init 11 = .ok (.invokespecial 11, 3) := by decide +kernel
theorem d_Se_init_14 : decode b_Se_init 14 = .ok (.putfield 14, 3) := by decide +kernel
theorem d_Se_init_17 : decode b_Se_init 17 = .ok (.return_, 1) := by decide +kernel
theorem d_Dg_init_0 : decode b_Dg_init 0 = .ok (.aload_n 0, 1) := by decide +kernel
theorem d_Dg_init_1 : decode b_Dg_init 1 = .ok (.invokespecial 5, 3) := by decide +kernel
theorem d_Dg_init_4 : decode b_Dg_init 4 = .ok (.aload_n 0, 1) := by decide +kernel
theorem d_Dg_init_5 : decode b_Dg_init 5 = .ok (.new 11, 3) := by decide +kernel
theorem d_Dg_init_8 : decode b_Dg_init 8 = .ok (.dup, 1) := by decide +kernel
theorem d_Dg_init_9 : decode b_Dg_init 9 = .ok (.sipush 1192, 3) := by decide +kernel
theorem d_Dg_init_12 : decode b_Dg_init 12 = .ok (.invokespecial 13, 3) := by decide +kernel
theorem d_Dg_init_15 : decode b_Dg_init 15 = .ok (.putfield 16, 3) := by decide +kernel
theorem d_Dg_init_18 : decode b_Dg_init 18 = .ok (.aload_n 0, 1) := by decide +kernel
theorem d_Dg_init_19 : decode b_Dg_init 19 = .ok (.bipush 16, 2) := by decide +kernel
theorem d_Dg_init_21 : decode b_Dg_init 21 = .ok (.newarray .int, 2) := by decide +kernel
theorem d_Dg_init_23 : decode b_Dg_init 23 = .ok (.putfield 20, 3) := by decide +kernel
theorem d_Dg_init_26 : decode b_Dg_init 26 = .ok (.aload_n 0, 1) := by decide +kernel
theorem d_Dg_init_27 : decode b_Dg_init 27 = .ok (.bipush 16, 2) := by decide +kernel
theorem d_Dg_init_29 : decode b_Dg_init 29 = .ok (.newarray .int, 2) := by decide +kernel
theorem d_Dg_init_31 : decode b_Dg_init 31 = .ok (.putfield 24, 3) := by decide +kernel
theorem d_Dg_init_34 : decode b_Dg_init 34 = .ok (.return_, 1) := by decide +kernel
theorem d_Rq_init_0 : decode b_Rq_init 0 = .ok (.aload_n 0, 1) := by decide +kernel
theorem d_Rq_init_1 : decode b_Rq_init 1 = .ok (.invokespecial 3, 3) := by decide +kernel
theorem d_Rq_init_4 : decode b_Rq_init 4 = .ok (.aload_n 0, 1) := by decide +kernel
theorem d_Rq_init_5 : decode b_Rq_init 5 = .ok (.sipush 256, 3) := by decide +kernel
theorem d_Rq_init_8 : decode b_Rq_init 8 = .ok (.newarray .int, 2) := by decide +kernel
theorem d_Rq_init_10 : decode b_Rq_init 10 = .ok (.putfield 9, 3) := by decide +kernel
theorem d_Rq_init_13 : decode b_Rq_init 13 = .ok (.aload_n 0, 1) := by decide +kernel
theorem d_Rq_init_14 : decode b_Rq_init 14 = .ok (.aload_n 1, 1) := by decide +kernel
theorem d_Rq_init_15 : decode b_Rq_init 15 = .ok (.putfield 15, 3) := by decide +kernel
theorem d_Rq_init_18 : decode b_Rq_init 18 = .ok (.return_, 1) := by decide +kernel
/-! What a constructor needs beside the tables' words: the private constructors of nest mates, the arrays of references. -/
theorem nk_int {D : va_G} {cl : List vw_C} {cT : Nat → ClassId} {cA : ClassId} {s : State} (h : va_K D cl (tyL cT ++ [(cA, .int)]) s) : cA = cT 0 := Option.some.inj ((h.2 6 (cA, .int) rfl).2.symm.trans (h.2 0 (cT 0, .int) rfl).2)
theorem nk_long {D : va_G} {cl : List vw_C} {cT : Nat → ClassId} {cA : ClassId} {s : State} (h : va_K D cl (tyL cT ++ [(cA, .long)]) s) : cA = cT 1 := Option.some.inj ((h.2 6 (cA, .long) rfl).2.symm.trans (h.2 1 (cT 1, .long) rfl).2)
theorem up_ne {f : Nat → Option Nat} {j k : Nat} {v : Option Nat} (h : k ≠ j) : va_up f j v k = f k := by simp [va_up, h]
theorem up_eq {f : Nat → Option Nat} {j : Nat} {v : Option Nat} : va_up f j v j = v := by simp [va_up]
theorem nk_2 {D : va_G} {cl : List vw_C} {cT : Nat → ClassId} {cA : ClassId} {s : State} (h : va_K D cl (tyL cT ++ [(cA, .object "DoorServer$Bytes")]) s) : cA = cT 2 := by
  obtain ⟨_, _, _, _, _, h1⟩ := (h.2 6 (cA, .object "DoorServer$Bytes") rfl).2
  obtain ⟨_, _, _, _, _, h2⟩ := (h.2 2 (cT 2, .object "DoorServer$Bytes") rfl).2
  exact Option.some.inj (h1.symm.trans h2)
theorem nk_3 {D : va_G} {cl : List vw_C} {cT : Nat → ClassId} {cA : ClassId} {s : State} (h : va_K D cl (tyL cT ++ [(cA, .object "DoorServer$Kept")]) s) : cA = cT 3 := by
  obtain ⟨_, _, _, _, _, h1⟩ := (h.2 6 (cA, .object "DoorServer$Kept") rfl).2
  obtain ⟨_, _, _, _, _, h2⟩ := (h.2 3 (cT 3, .object "DoorServer$Kept") rfl).2
  exact Option.some.inj (h1.symm.trans h2)
theorem nk_4 {D : va_G} {cl : List vw_C} {cT : Nat → ClassId} {cA : ClassId} {s : State} (h : va_K D cl (tyL cT ++ [(cA, .object "DoorServer$Trial")]) s) : cA = cT 4 := by
  obtain ⟨_, _, _, _, _, h1⟩ := (h.2 6 (cA, .object "DoorServer$Trial") rfl).2
  obtain ⟨_, _, _, _, _, h2⟩ := (h.2 4 (cT 4, .object "DoorServer$Trial") rfl).2
  exact Option.some.inj (h1.symm.trans h2)
theorem nk_5 {D : va_G} {cl : List vw_C} {cT : Nat → ClassId} {cA : ClassId} {s : State} (h : va_K D cl (tyL cT ++ [(cA, .object "DoorServer$Session")]) s) : cA = cT 5 := by
  obtain ⟨_, _, _, _, _, h1⟩ := (h.2 6 (cA, .object "DoorServer$Session") rfl).2
  obtain ⟨_, _, _, _, _, h2⟩ := (h.2 5 (cT 5, .object "DoorServer$Session") rfl).2
  exact Option.some.inj (h1.symm.trans h2)
def nw_T (U : State) (_H : Heap) : Prop := va_Nw (.methodLinkNest "DoorServer$Server" 22 y_Dg_init "DoorServer") U ∧ va_Nw (.methodLinkNest "DoorServer$Answers" 17 y_Ke_init "DoorServer") U ∧ va_Nw (.methodLinkNest "DoorServer$Trials" 21 y_Tl_init "DoorServer") U ∧ va_Nw (.methodLinkNest "DoorServer$Sessions" 17 y_Se_init "DoorServer") U ∧ va_AO "DoorServer$Bytes" U ∧ va_AO "DoorServer$Kept" U ∧ va_AO "DoorServer$Trial" U ∧ va_AO "DoorServer$Session" U
theorem nw_T.nw_Dg {U : State} {H : Heap} (h : nw_T U H) : va_Nw (.methodLinkNest "DoorServer$Server" 22 y_Dg_init "DoorServer") U := h.1
theorem nw_T.nw_Ke {U : State} {H : Heap} (h : nw_T U H) : va_Nw (.methodLinkNest "DoorServer$Answers" 17 y_Ke_init "DoorServer") U := h.2.1
theorem nw_T.nw_Tl {U : State} {H : Heap} (h : nw_T U H) : va_Nw (.methodLinkNest "DoorServer$Trials" 21 y_Tl_init "DoorServer") U := h.2.2.1
theorem nw_T.nw_Se {U : State} {H : Heap} (h : nw_T U H) : va_Nw (.methodLinkNest "DoorServer$Sessions" 17 y_Se_init "DoorServer") U := h.2.2.2.1
theorem nw_T.ao2 {U : State} {H : Heap} (h : nw_T U H) : va_AO "DoorServer$Bytes" U := h.2.2.2.2.1
theorem nw_T.ao3 {U : State} {H : Heap} (h : nw_T U H) : va_AO "DoorServer$Kept" U := h.2.2.2.2.2.1
theorem nw_T.ao4 {U : State} {H : Heap} (h : nw_T U H) : va_AO "DoorServer$Trial" U := h.2.2.2.2.2.2.1
theorem nw_T.ao5 {U : State} {H : Heap} (h : nw_T U H) : va_AO "DoorServer$Session" U := h.2.2.2.2.2.2.2
theorem nw_T.at {s U : State} {H H1 : Heap} (h : nw_T s H) (hW : s.WarmedH U.vm) : nw_T U H1 := ⟨h.1.warmM hW, h.2.1.warmM hW, h.2.2.1.warmM hW, h.2.2.2.1.warmM hW, h.2.2.2.2.1.moved hW.alike, h.2.2.2.2.2.1.moved hW.alike, h.2.2.2.2.2.2.1.moved hW.alike, h.2.2.2.2.2.2.2.moved hW.alike⟩
set_option maxHeartbeats 4000000 in
set_option maxRecDepth 100000 in
/-- a new row of 1192 -/
theorem n_By_1192 (l : Launch) (dC : Nat → ClassId) (dI : Nat → Nat → Nat) (cT : Nat → ClassId) (sz : Nat) (h : Nat)  : Met l y_By_init (Cond.code y_By_init b_By_init 2 (Option.none : Option Jvm.ClassFile.FieldType) :: BIG) ({ frames := 1, cells := 1, slots := 1192, locals := 13 }) (va_Pc [.ref h, .int 1192] (fun U => U.heap.size = sz ∧ va_P (dC, dI) vcl [(h, .inr (1, [.null, .int 0]))] U.heap ∧ va_K (dC, dI) vcl (tyL cT) U ∧ va_D (fun _ => True) [(h, .inr (1, [.null, .int 0]))])) (va_Qv (S := Nat) (fun u => match u with | r => True) (fun u t => match u with | r => va_P (dC, dI) vcl [(h, .inr (1, [.ref r, .int 0])), (r, .inl ((cT 0), 1192, .inl (fun _ => 0)))] t.heap ∧ va_K (dC, dI) vcl (tyL cT) t ∧ va_D (va_A [(h, .inr (1, [.null, .int 0]))] sz) [(h, .inr (1, [.ref r, .int 0])), (r, .inl ((cT 0), 1192, .inl (fun _ => 0)))]) (va_A [(h, .inr (1, [.null, .int 0]))] sz)) 1 1192 (va_A [(h, .inr (1, [.null, .int 0]))] sz) := by
  refine Met.ofW (cc := b_By_init) (maxL := 2) (ret := (Option.none : Option Jvm.ClassFile.FieldType)) (by decide) rfl ?_
  intro p e s m args below meth c s₁ B hml hv
  obtain ⟨hargs, hsz, hP, hK, hD0⟩ := hv
  have hx := B.exec
  have hb := B.bytes
  have hr := B.returns
  have hts := atoms_spec (ws := (Cond.code y_By_init b_By_init 2 (Option.none : Option Jvm.ClassFile.FieldType) :: BIG)) B.pre
  have hg : ∀ w ∈ BIG, w.before _ s = true := fun w h => hts w (List.mem_cons_of_mem _ h)
  have hown : s.vm.findClass "DoorServer$Bytes" = some m.cls := findClass_of_methodNamed B.named
  have hlocks := B.notSynchronized
  have hin : meth.name = "<init>" := (name_of_methodNamed B.named B.method).1
  subst hsz
  have hD := hD0.self (sz := s.heap.size)
  generalize hAe : va_A [(h, .inr (1, [.null, .int 0]))] s.heap.size = A at hD ⊢
  have hA : ∀ q : Nat, s.heap.size ≤ q → A q := fun q h => by rw [← hAe]; exact Or.inr h
  have hS : va_S A s.heap s.heap [] := va_S.rf
  have hl := lv_entry ([.ref h, .int 1192]) (n := 2) (Nat.le_of_ble_eq_true rfl)
  refine W.eq (g2 := entryFrame m (List.toArray [.ref h, .int 1192]) 2) (by rw [hargs]) ?_
  rw [lg_entry_eq]
  generalize (lg_sl ([.ref h, .int 1192]) ++ List.replicate (2 - (lg_sl ([.ref h, .int 1192])).length) Slot.unset).toArray = ls at hl ⊢
  have hl : lv_has ls 2 [(0, .ref h), (1, .int 1192)] := hl
  change W p l e ({ frames := 1, cells := 1, slots := 1192, locals := 13 } : Room) s m args below meth c s.heap [] 0 0 _ _
  have hP : va_P (dC, dI) vcl [(h, .inr (1, [.null, .int 0]))] s.heap := hP
  refine lv_aload_n hx hb d_By_init_0 rfl (lv_at hl 0 rfl) ?_
  refine W.objInit hx hb hown (hg _ k_38) (hg _ k_28) (hg _ k_29) rfl (by rw [hml]; exact hl.1) rfl d_By_init_1 (Nat.le_of_ble_eq_true rfl) (Nat.le_of_ble_eq_true rfl) ?_
  refine W.eq (g2 := F0 m 4 ls []) rfl ?_
  refine lv_aload_n hx hb d_By_init_4 rfl (lv_at hl 0 rfl) ?_
  refine lv_iload_n hx hb d_By_init_5 rfl (lv_at hl 1 rfl) ?_
  refine va_newa (atype := .int) (ty := .int) (n := 1192) (N' := 1192) (a0 := (1192, .inl (fun _ => 0))) hx hb (hg _ k_67) rfl hK hP hD hS hA (fun _ => rfl) (by decide) (by decide) (by decide) (Nat.le_of_ble_eq_true rfl) (Nat.le_of_ble_eq_true rfl) d_By_init_6 (fun q1 cA9 H hK9 hP hD hS => ?_)
  obtain rfl := nk_int hK9
  clear hK9
  have hP : va_P (dC, dI) vcl [(h, .inr (1, [.null, .int 0])), (q1, .inl ((cT 0), 1192, .inl (fun _ => 0)))] H := hP
  have hD : va_D A [(h, .inr (1, [.null, .int 0])), (q1, .inl ((cT 0), 1192, .inl (fun _ => 0)))] := hD
  refine va_putF (D := (dC, dI)) (ci := 1) (v := (.ref q1)) (ty := (.array .int)) (C := R_By) (T := F_By) (N := 2) hx hb hg in_By t_By tok_By nm_By hown hK hP hD hS 0 rfl rfl 0 (by decide) (hg _ k_39) (fun _ h9 => h9) rfl hin rfl (by decide +kernel) rfl rfl (Nat.le_of_ble_eq_true rfl) d_By_init_8 (fun H locs hP hD hS => ?_)
  have hP : va_P (dC, dI) vcl [(h, .inr (1, [.ref q1, .int 0])), (q1, .inl ((cT 0), 1192, .inl (fun _ => 0)))] H := hP
  have hD : va_D A [(h, .inr (1, [.ref q1, .int 0])), (q1, .inl ((cT 0), 1192, .inl (fun _ => 0)))] := hD
  have hP9 := hP.sub (ws' := [(h, .inr (1, [.ref q1, .int 0])), (q1, .inl ((cT 0), 1192, .inl (fun _ => 0)))]) [0, 1] rfl
  have hD9 := hD.sub (ws' := [(h, .inr (1, [.ref q1, .int 0])), (q1, .inl ((cT 0), 1192, .inl (fun _ => 0)))]) [0, 1] (by decide) rfl
  exact W.vret hx hb hr (fun t ht hW => ⟨⟨q1, rfl, trivial, by rw [ht]; exact hP9, va_K.moved hW.alike hK, hD9⟩, hS.F ht⟩) hS.2.2 d_By_init_11
set_option maxHeartbeats 4000000 in
set_option maxRecDepth 100000 in
/-- a new row of 64 -/
theorem n_By_64 (l : Launch) (dC : Nat → ClassId) (dI : Nat → Nat → Nat) (cT : Nat → ClassId) (sz : Nat) (h : Nat)  : Met l y_By_init (Cond.code y_By_init b_By_init 2 (Option.none : Option Jvm.ClassFile.FieldType) :: BIG) ({ frames := 1, cells := 1, slots := 64, locals := 13 }) (va_Pc [.ref h, .int 64] (fun U => U.heap.size = sz ∧ va_P (dC, dI) vcl [(h, .inr (1, [.null, .int 0]))] U.heap ∧ va_K (dC, dI) vcl (tyL cT) U ∧ va_D (fun _ => True) [(h, .inr (1, [.null, .int 0]))])) (va_Qv (S := Nat) (fun u => match u with | r => True) (fun u t => match u with | r => va_P (dC, dI) vcl [(h, .inr (1, [.ref r, .int 0])), (r, .inl ((cT 0), 64, .inl (fun _ => 0)))] t.heap ∧ va_K (dC, dI) vcl (tyL cT) t ∧ va_D (va_A [(h, .inr (1, [.null, .int 0]))] sz) [(h, .inr (1, [.ref r, .int 0])), (r, .inl ((cT 0), 64, .inl (fun _ => 0)))]) (va_A [(h, .inr (1, [.null, .int 0]))] sz)) 1 64 (va_A [(h, .inr (1, [.null, .int 0]))] sz) := by
  refine Met.ofW (cc := b_By_init) (maxL := 2) (ret := (Option.none : Option Jvm.ClassFile.FieldType)) (by decide) rfl ?_
  intro p e s m args below meth c s₁ B hml hv
  obtain ⟨hargs, hsz, hP, hK, hD0⟩ := hv
  have hx := B.exec
  have hb := B.bytes
  have hr := B.returns
  have hts := atoms_spec (ws := (Cond.code y_By_init b_By_init 2 (Option.none : Option Jvm.ClassFile.FieldType) :: BIG)) B.pre
  have hg : ∀ w ∈ BIG, w.before _ s = true := fun w h => hts w (List.mem_cons_of_mem _ h)
  have hown : s.vm.findClass "DoorServer$Bytes" = some m.cls := findClass_of_methodNamed B.named
  have hlocks := B.notSynchronized
  have hin : meth.name = "<init>" := (name_of_methodNamed B.named B.method).1
  subst hsz
  have hD := hD0.self (sz := s.heap.size)
  generalize hAe : va_A [(h, .inr (1, [.null, .int 0]))] s.heap.size = A at hD ⊢
  have hA : ∀ q : Nat, s.heap.size ≤ q → A q := fun q h => by rw [← hAe]; exact Or.inr h
  have hS : va_S A s.heap s.heap [] := va_S.rf
  have hl := lv_entry ([.ref h, .int 64]) (n := 2) (Nat.le_of_ble_eq_true rfl)
  refine W.eq (g2 := entryFrame m (List.toArray [.ref h, .int 64]) 2) (by rw [hargs]) ?_
  rw [lg_entry_eq]
  generalize (lg_sl ([.ref h, .int 64]) ++ List.replicate (2 - (lg_sl ([.ref h, .int 64])).length) Slot.unset).toArray = ls at hl ⊢
  have hl : lv_has ls 2 [(0, .ref h), (1, .int 64)] := hl
  change W p l e ({ frames := 1, cells := 1, slots := 64, locals := 13 } : Room) s m args below meth c s.heap [] 0 0 _ _
  have hP : va_P (dC, dI) vcl [(h, .inr (1, [.null, .int 0]))] s.heap := hP
  refine lv_aload_n hx hb d_By_init_0 rfl (lv_at hl 0 rfl) ?_
  refine W.objInit hx hb hown (hg _ k_38) (hg _ k_28) (hg _ k_29) rfl (by rw [hml]; exact hl.1) rfl d_By_init_1 (Nat.le_of_ble_eq_true rfl) (Nat.le_of_ble_eq_true rfl) ?_
  refine W.eq (g2 := F0 m 4 ls []) rfl ?_
  refine lv_aload_n hx hb d_By_init_4 rfl (lv_at hl 0 rfl) ?_
  refine lv_iload_n hx hb d_By_init_5 rfl (lv_at hl 1 rfl) ?_
  refine va_newa (atype := .int) (ty := .int) (n := 64) (N' := 64) (a0 := (64, .inl (fun _ => 0))) hx hb (hg _ k_67) rfl hK hP hD hS hA (fun _ => rfl) (by decide) (by decide) (by decide) (Nat.le_of_ble_eq_true rfl) (Nat.le_of_ble_eq_true rfl) d_By_init_6 (fun q2 cA9 H hK9 hP hD hS => ?_)
  obtain rfl := nk_int hK9
  clear hK9
  have hP : va_P (dC, dI) vcl [(h, .inr (1, [.null, .int 0])), (q2, .inl ((cT 0), 64, .inl (fun _ => 0)))] H := hP
  have hD : va_D A [(h, .inr (1, [.null, .int 0])), (q2, .inl ((cT 0), 64, .inl (fun _ => 0)))] := hD
  refine va_putF (D := (dC, dI)) (ci := 1) (v := (.ref q2)) (ty := (.array .int)) (C := R_By) (T := F_By) (N := 2) hx hb hg in_By t_By tok_By nm_By hown hK hP hD hS 0 rfl rfl 0 (by decide) (hg _ k_39) (fun _ h9 => h9) rfl hin rfl (by decide +kernel) rfl rfl (Nat.le_of_ble_eq_true rfl) d_By_init_8 (fun H locs hP hD hS => ?_)
  have hP : va_P (dC, dI) vcl [(h, .inr (1, [.ref q2, .int 0])), (q2, .inl ((cT 0), 64, .inl (fun _ => 0)))] H := hP
  have hD : va_D A [(h, .inr (1, [.ref q2, .int 0])), (q2, .inl ((cT 0), 64, .inl (fun _ => 0)))] := hD
  have hP9 := hP.sub (ws' := [(h, .inr (1, [.ref q2, .int 0])), (q2, .inl ((cT 0), 64, .inl (fun _ => 0)))]) [0, 1] rfl
  have hD9 := hD.sub (ws' := [(h, .inr (1, [.ref q2, .int 0])), (q2, .inl ((cT 0), 64, .inl (fun _ => 0)))]) [0, 1] (by decide) rfl
  exact W.vret hx hb hr (fun t ht hW => ⟨⟨q2, rfl, trivial, by rw [ht]; exact hP9, va_K.moved hW.alike hK, hD9⟩, hS.F ht⟩) hS.2.2 d_By_init_11
set_option maxHeartbeats 4000000 in
set_option maxRecDepth 100000 in
/-- a new row of 72 -/
theorem n_By_72 (l : Launch) (dC : Nat → ClassId) (dI : Nat → Nat → Nat) (cT : Nat → ClassId) (sz : Nat) (h : Nat)  : Met l y_By_init (Cond.code y_By_init b_By_init 2 (Option.none : Option Jvm.ClassFile.FieldType) :: BIG) ({ frames := 1, cells := 1, slots := 72, locals := 13 }) (va_Pc [.ref h, .int 72] (fun U => U.heap.size = sz ∧ va_P (dC, dI) vcl [(h, .inr (1, [.null, .int 0]))] U.heap ∧ va_K (dC, dI) vcl (tyL cT) U ∧ va_D (fun _ => True) [(h, .inr (1, [.null, .int 0]))])) (va_Qv (S := Nat) (fun u => match u with | r => True) (fun u t => match u with | r => va_P (dC, dI) vcl [(h, .inr (1, [.ref r, .int 0])), (r, .inl ((cT 0), 72, .inl (fun _ => 0)))] t.heap ∧ va_K (dC, dI) vcl (tyL cT) t ∧ va_D (va_A [(h, .inr (1, [.null, .int 0]))] sz) [(h, .inr (1, [.ref r, .int 0])), (r, .inl ((cT 0), 72, .inl (fun _ => 0)))]) (va_A [(h, .inr (1, [.null, .int 0]))] sz)) 1 72 (va_A [(h, .inr (1, [.null, .int 0]))] sz) := by
  refine Met.ofW (cc := b_By_init) (maxL := 2) (ret := (Option.none : Option Jvm.ClassFile.FieldType)) (by decide) rfl ?_
  intro p e s m args below meth c s₁ B hml hv
  obtain ⟨hargs, hsz, hP, hK, hD0⟩ := hv
  have hx := B.exec
  have hb := B.bytes
  have hr := B.returns
  have hts := atoms_spec (ws := (Cond.code y_By_init b_By_init 2 (Option.none : Option Jvm.ClassFile.FieldType) :: BIG)) B.pre
  have hg : ∀ w ∈ BIG, w.before _ s = true := fun w h => hts w (List.mem_cons_of_mem _ h)
  have hown : s.vm.findClass "DoorServer$Bytes" = some m.cls := findClass_of_methodNamed B.named
  have hlocks := B.notSynchronized
  have hin : meth.name = "<init>" := (name_of_methodNamed B.named B.method).1
  subst hsz
  have hD := hD0.self (sz := s.heap.size)
  generalize hAe : va_A [(h, .inr (1, [.null, .int 0]))] s.heap.size = A at hD ⊢
  have hA : ∀ q : Nat, s.heap.size ≤ q → A q := fun q h => by rw [← hAe]; exact Or.inr h
  have hS : va_S A s.heap s.heap [] := va_S.rf
  have hl := lv_entry ([.ref h, .int 72]) (n := 2) (Nat.le_of_ble_eq_true rfl)
  refine W.eq (g2 := entryFrame m (List.toArray [.ref h, .int 72]) 2) (by rw [hargs]) ?_
  rw [lg_entry_eq]
  generalize (lg_sl ([.ref h, .int 72]) ++ List.replicate (2 - (lg_sl ([.ref h, .int 72])).length) Slot.unset).toArray = ls at hl ⊢
  have hl : lv_has ls 2 [(0, .ref h), (1, .int 72)] := hl
  change W p l e ({ frames := 1, cells := 1, slots := 72, locals := 13 } : Room) s m args below meth c s.heap [] 0 0 _ _
  have hP : va_P (dC, dI) vcl [(h, .inr (1, [.null, .int 0]))] s.heap := hP
  refine lv_aload_n hx hb d_By_init_0 rfl (lv_at hl 0 rfl) ?_
  refine W.objInit hx hb hown (hg _ k_38) (hg _ k_28) (hg _ k_29) rfl (by rw [hml]; exact hl.1) rfl d_By_init_1 (Nat.le_of_ble_eq_true rfl) (Nat.le_of_ble_eq_true rfl) ?_
  refine W.eq (g2 := F0 m 4 ls []) rfl ?_
  refine lv_aload_n hx hb d_By_init_4 rfl (lv_at hl 0 rfl) ?_
  refine lv_iload_n hx hb d_By_init_5 rfl (lv_at hl 1 rfl) ?_
  refine va_newa (atype := .int) (ty := .int) (n := 72) (N' := 72) (a0 := (72, .inl (fun _ => 0))) hx hb (hg _ k_67) rfl hK hP hD hS hA (fun _ => rfl) (by decide) (by decide) (by decide) (Nat.le_of_ble_eq_true rfl) (Nat.le_of_ble_eq_true rfl) d_By_init_6 (fun q3 cA9 H hK9 hP hD hS => ?_)
  obtain rfl := nk_int hK9
  clear hK9
  have hP : va_P (dC, dI) vcl [(h, .inr (1, [.null, .int 0])), (q3, .inl ((cT 0), 72, .inl (fun _ => 0)))] H := hP
  have hD : va_D A [(h, .inr (1, [.null, .int 0])), (q3, .inl ((cT 0), 72, .inl (fun _ => 0)))] := hD
  refine va_putF (D := (dC, dI)) (ci := 1) (v := (.ref q3)) (ty := (.array .int)) (C := R_By) (T := F_By) (N := 2) hx hb hg in_By t_By tok_By nm_By hown hK hP hD hS 0 rfl rfl 0 (by decide) (hg _ k_39) (fun _ h9 => h9) rfl hin rfl (by decide +kernel) rfl rfl (Nat.le_of_ble_eq_true rfl) d_By_init_8 (fun H locs hP hD hS => ?_)
  have hP : va_P (dC, dI) vcl [(h, .inr (1, [.ref q3, .int 0])), (q3, .inl ((cT 0), 72, .inl (fun _ => 0)))] H := hP
  have hD : va_D A [(h, .inr (1, [.ref q3, .int 0])), (q3, .inl ((cT 0), 72, .inl (fun _ => 0)))] := hD
  have hP9 := hP.sub (ws' := [(h, .inr (1, [.ref q3, .int 0])), (q3, .inl ((cT 0), 72, .inl (fun _ => 0)))]) [0, 1] rfl
  have hD9 := hD.sub (ws' := [(h, .inr (1, [.ref q3, .int 0])), (q3, .inl ((cT 0), 72, .inl (fun _ => 0)))]) [0, 1] (by decide) rfl
  exact W.vret hx hb hr (fun t ht hW => ⟨⟨q3, rfl, trivial, by rw [ht]; exact hP9, va_K.moved hW.alike hK, hD9⟩, hS.F ht⟩) hS.2.2 d_By_init_11
set_option maxHeartbeats 4000000 in
set_option maxRecDepth 100000 in
/-- a new row of 16 -/
theorem n_By_16 (l : Launch) (dC : Nat → ClassId) (dI : Nat → Nat → Nat) (cT : Nat → ClassId) (sz : Nat) (h : Nat)  : Met l y_By_init (Cond.code y_By_init b_By_init 2 (Option.none : Option Jvm.ClassFile.FieldType) :: BIG) ({ frames := 1, cells := 1, slots := 16, locals := 13 }) (va_Pc [.ref h, .int 16] (fun U => U.heap.size = sz ∧ va_P (dC, dI) vcl [(h, .inr (1, [.null, .int 0]))] U.heap ∧ va_K (dC, dI) vcl (tyL cT) U ∧ va_D (fun _ => True) [(h, .inr (1, [.null, .int 0]))])) (va_Qv (S := Nat) (fun u => match u with | r => True) (fun u t => match u with | r => va_P (dC, dI) vcl [(h, .inr (1, [.ref r, .int 0])), (r, .inl ((cT 0), 16, .inl (fun _ => 0)))] t.heap ∧ va_K (dC, dI) vcl (tyL cT) t ∧ va_D (va_A [(h, .inr (1, [.null, .int 0]))] sz) [(h, .inr (1, [.ref r, .int 0])), (r, .inl ((cT 0), 16, .inl (fun _ => 0)))]) (va_A [(h, .inr (1, [.null, .int 0]))] sz)) 1 16 (va_A [(h, .inr (1, [.null, .int 0]))] sz) := by
  refine Met.ofW (cc := b_By_init) (maxL := 2) (ret := (Option.none : Option Jvm.ClassFile.FieldType)) (by decide) rfl ?_
  intro p e s m args below meth c s₁ B hml hv
  obtain ⟨hargs, hsz, hP, hK, hD0⟩ := hv
  have hx := B.exec
  have hb := B.bytes
  have hr := B.returns
  have hts := atoms_spec (ws := (Cond.code y_By_init b_By_init 2 (Option.none : Option Jvm.ClassFile.FieldType) :: BIG)) B.pre
  have hg : ∀ w ∈ BIG, w.before _ s = true := fun w h => hts w (List.mem_cons_of_mem _ h)
  have hown : s.vm.findClass "DoorServer$Bytes" = some m.cls := findClass_of_methodNamed B.named
  have hlocks := B.notSynchronized
  have hin : meth.name = "<init>" := (name_of_methodNamed B.named B.method).1
  subst hsz
  have hD := hD0.self (sz := s.heap.size)
  generalize hAe : va_A [(h, .inr (1, [.null, .int 0]))] s.heap.size = A at hD ⊢
  have hA : ∀ q : Nat, s.heap.size ≤ q → A q := fun q h => by rw [← hAe]; exact Or.inr h
  have hS : va_S A s.heap s.heap [] := va_S.rf
  have hl := lv_entry ([.ref h, .int 16]) (n := 2) (Nat.le_of_ble_eq_true rfl)
  refine W.eq (g2 := entryFrame m (List.toArray [.ref h, .int 16]) 2) (by rw [hargs]) ?_
  rw [lg_entry_eq]
  generalize (lg_sl ([.ref h, .int 16]) ++ List.replicate (2 - (lg_sl ([.ref h, .int 16])).length) Slot.unset).toArray = ls at hl ⊢
  have hl : lv_has ls 2 [(0, .ref h), (1, .int 16)] := hl
  change W p l e ({ frames := 1, cells := 1, slots := 16, locals := 13 } : Room) s m args below meth c s.heap [] 0 0 _ _
  have hP : va_P (dC, dI) vcl [(h, .inr (1, [.null, .int 0]))] s.heap := hP
  refine lv_aload_n hx hb d_By_init_0 rfl (lv_at hl 0 rfl) ?_
  refine W.objInit hx hb hown (hg _ k_38) (hg _ k_28) (hg _ k_29) rfl (by rw [hml]; exact hl.1) rfl d_By_init_1 (Nat.le_of_ble_eq_true rfl) (Nat.le_of_ble_eq_true rfl) ?_
  refine W.eq (g2 := F0 m 4 ls []) rfl ?_
  refine lv_aload_n hx hb d_By_init_4 rfl (lv_at hl 0 rfl) ?_
  refine lv_iload_n hx hb d_By_init_5 rfl (lv_at hl 1 rfl) ?_
  refine va_newa (atype := .int) (ty := .int) (n := 16) (N' := 16) (a0 := (16, .inl (fun _ => 0))) hx hb (hg _ k_67) rfl hK hP hD hS hA (fun _ => rfl) (by decide) (by decide) (by decide) (Nat.le_of_ble_eq_true rfl) (Nat.le_of_ble_eq_true rfl) d_By_init_6 (fun q4 cA9 H hK9 hP hD hS => ?_)
  obtain rfl := nk_int hK9
  clear hK9
  have hP : va_P (dC, dI) vcl [(h, .inr (1, [.null, .int 0])), (q4, .inl ((cT 0), 16, .inl (fun _ => 0)))] H := hP
  have hD : va_D A [(h, .inr (1, [.null, .int 0])), (q4, .inl ((cT 0), 16, .inl (fun _ => 0)))] := hD
  refine va_putF (D := (dC, dI)) (ci := 1) (v := (.ref q4)) (ty := (.array .int)) (C := R_By) (T := F_By) (N := 2) hx hb hg in_By t_By tok_By nm_By hown hK hP hD hS 0 rfl rfl 0 (by decide) (hg _ k_39) (fun _ h9 => h9) rfl hin rfl (by decide +kernel) rfl rfl (Nat.le_of_ble_eq_true rfl) d_By_init_8 (fun H locs hP hD hS => ?_)
  have hP : va_P (dC, dI) vcl [(h, .inr (1, [.ref q4, .int 0])), (q4, .inl ((cT 0), 16, .inl (fun _ => 0)))] H := hP
  have hD : va_D A [(h, .inr (1, [.ref q4, .int 0])), (q4, .inl ((cT 0), 16, .inl (fun _ => 0)))] := hD
  have hP9 := hP.sub (ws' := [(h, .inr (1, [.ref q4, .int 0])), (q4, .inl ((cT 0), 16, .inl (fun _ => 0)))]) [0, 1] rfl
  have hD9 := hD.sub (ws' := [(h, .inr (1, [.ref q4, .int 0])), (q4, .inl ((cT 0), 16, .inl (fun _ => 0)))]) [0, 1] (by decide) rfl
  exact W.vret hx hb hr (fun t ht hW => ⟨⟨q4, rfl, trivial, by rw [ht]; exact hP9, va_K.moved hW.alike hK, hD9⟩, hS.F ht⟩) hS.2.2 d_By_init_11
set_option maxHeartbeats 4000000 in
set_option maxRecDepth 100000 in
/-- a new row of 40 -/
theorem n_By_40 (l : Launch) (dC : Nat → ClassId) (dI : Nat → Nat → Nat) (cT : Nat → ClassId) (sz : Nat) (h : Nat)  : Met l y_By_init (Cond.code y_By_init b_By_init 2 (Option.none : Option Jvm.ClassFile.FieldType) :: BIG) ({ frames := 1, cells := 1, slots := 40, locals := 13 }) (va_Pc [.ref h, .int 40] (fun U => U.heap.size = sz ∧ va_P (dC, dI) vcl [(h, .inr (1, [.null, .int 0]))] U.heap ∧ va_K (dC, dI) vcl (tyL cT) U ∧ va_D (fun _ => True) [(h, .inr (1, [.null, .int 0]))])) (va_Qv (S := Nat) (fun u => match u with | r => True) (fun u t => match u with | r => va_P (dC, dI) vcl [(h, .inr (1, [.ref r, .int 0])), (r, .inl ((cT 0), 40, .inl (fun _ => 0)))] t.heap ∧ va_K (dC, dI) vcl (tyL cT) t ∧ va_D (va_A [(h, .inr (1, [.null, .int 0]))] sz) [(h, .inr (1, [.ref r, .int 0])), (r, .inl ((cT 0), 40, .inl (fun _ => 0)))]) (va_A [(h, .inr (1, [.null, .int 0]))] sz)) 1 40 (va_A [(h, .inr (1, [.null, .int 0]))] sz) := by
  refine Met.ofW (cc := b_By_init) (maxL := 2) (ret := (Option.none : Option Jvm.ClassFile.FieldType)) (by decide) rfl ?_
  intro p e s m args below meth c s₁ B hml hv
  obtain ⟨hargs, hsz, hP, hK, hD0⟩ := hv
  have hx := B.exec
  have hb := B.bytes
  have hr := B.returns
  have hts := atoms_spec (ws := (Cond.code y_By_init b_By_init 2 (Option.none : Option Jvm.ClassFile.FieldType) :: BIG)) B.pre
  have hg : ∀ w ∈ BIG, w.before _ s = true := fun w h => hts w (List.mem_cons_of_mem _ h)
  have hown : s.vm.findClass "DoorServer$Bytes" = some m.cls := findClass_of_methodNamed B.named
  have hlocks := B.notSynchronized
  have hin : meth.name = "<init>" := (name_of_methodNamed B.named B.method).1
  subst hsz
  have hD := hD0.self (sz := s.heap.size)
  generalize hAe : va_A [(h, .inr (1, [.null, .int 0]))] s.heap.size = A at hD ⊢
  have hA : ∀ q : Nat, s.heap.size ≤ q → A q := fun q h => by rw [← hAe]; exact Or.inr h
  have hS : va_S A s.heap s.heap [] := va_S.rf
  have hl := lv_entry ([.ref h, .int 40]) (n := 2) (Nat.le_of_ble_eq_true rfl)
  refine W.eq (g2 := entryFrame m (List.toArray [.ref h, .int 40]) 2) (by rw [hargs]) ?_
  rw [lg_entry_eq]
  generalize (lg_sl ([.ref h, .int 40]) ++ List.replicate (2 - (lg_sl ([.ref h, .int 40])).length) Slot.unset).toArray = ls at hl ⊢
  have hl : lv_has ls 2 [(0, .ref h), (1, .int 40)] := hl
  change W p l e ({ frames := 1, cells := 1, slots := 40, locals := 13 } : Room) s m args below meth c s.heap [] 0 0 _ _
  have hP : va_P (dC, dI) vcl [(h, .inr (1, [.null, .int 0]))] s.heap := hP
  refine lv_aload_n hx hb d_By_init_0 rfl (lv_at hl 0 rfl) ?_
  refine W.objInit hx hb hown (hg _ k_38) (hg _ k_28) (hg _ k_29) rfl (by rw [hml]; exact hl.1) rfl d_By_init_1 (Nat.le_of_ble_eq_true rfl) (Nat.le_of_ble_eq_true rfl) ?_
  refine W.eq (g2 := F0 m 4 ls []) rfl ?_
  refine lv_aload_n hx hb d_By_init_4 rfl (lv_at hl 0 rfl) ?_
  refine lv_iload_n hx hb d_By_init_5 rfl (lv_at hl 1 rfl) ?_
  refine va_newa (atype := .int) (ty := .int) (n := 40) (N' := 40) (a0 := (40, .inl (fun _ => 0))) hx hb (hg _ k_67) rfl hK hP hD hS hA (fun _ => rfl) (by decide) (by decide) (by decide) (Nat.le_of_ble_eq_true rfl) (Nat.le_of_ble_eq_true rfl) d_By_init_6 (fun q5 cA9 H hK9 hP hD hS => ?_)
  obtain rfl := nk_int hK9
  clear hK9
  have hP : va_P (dC, dI) vcl [(h, .inr (1, [.null, .int 0])), (q5, .inl ((cT 0), 40, .inl (fun _ => 0)))] H := hP
  have hD : va_D A [(h, .inr (1, [.null, .int 0])), (q5, .inl ((cT 0), 40, .inl (fun _ => 0)))] := hD
  refine va_putF (D := (dC, dI)) (ci := 1) (v := (.ref q5)) (ty := (.array .int)) (C := R_By) (T := F_By) (N := 2) hx hb hg in_By t_By tok_By nm_By hown hK hP hD hS 0 rfl rfl 0 (by decide) (hg _ k_39) (fun _ h9 => h9) rfl hin rfl (by decide +kernel) rfl rfl (Nat.le_of_ble_eq_true rfl) d_By_init_8 (fun H locs hP hD hS => ?_)
  have hP : va_P (dC, dI) vcl [(h, .inr (1, [.ref q5, .int 0])), (q5, .inl ((cT 0), 40, .inl (fun _ => 0)))] H := hP
  have hD : va_D A [(h, .inr (1, [.ref q5, .int 0])), (q5, .inl ((cT 0), 40, .inl (fun _ => 0)))] := hD
  have hP9 := hP.sub (ws' := [(h, .inr (1, [.ref q5, .int 0])), (q5, .inl ((cT 0), 40, .inl (fun _ => 0)))]) [0, 1] rfl
  have hD9 := hD.sub (ws' := [(h, .inr (1, [.ref q5, .int 0])), (q5, .inl ((cT 0), 40, .inl (fun _ => 0)))]) [0, 1] (by decide) rfl
  exact W.vret hx hb hr (fun t ht hW => ⟨⟨q5, rfl, trivial, by rw [ht]; exact hP9, va_K.moved hW.alike hK, hD9⟩, hS.F ht⟩) hS.2.2 d_By_init_11
set_option maxHeartbeats 4000000 in
set_option maxRecDepth 100000 in
/-- a new row of 60 -/
theorem n_By_60 (l : Launch) (dC : Nat → ClassId) (dI : Nat → Nat → Nat) (cT : Nat → ClassId) (sz : Nat) (h : Nat)  : Met l y_By_init (Cond.code y_By_init b_By_init 2 (Option.none : Option Jvm.ClassFile.FieldType) :: BIG) ({ frames := 1, cells := 1, slots := 60, locals := 13 }) (va_Pc [.ref h, .int 60] (fun U => U.heap.size = sz ∧ va_P (dC, dI) vcl [(h, .inr (1, [.null, .int 0]))] U.heap ∧ va_K (dC, dI) vcl (tyL cT) U ∧ va_D (fun _ => True) [(h, .inr (1, [.null, .int 0]))])) (va_Qv (S := Nat) (fun u => match u with | r => True) (fun u t => match u with | r => va_P (dC, dI) vcl [(h, .inr (1, [.ref r, .int 0])), (r, .inl ((cT 0), 60, .inl (fun _ => 0)))] t.heap ∧ va_K (dC, dI) vcl (tyL cT) t ∧ va_D (va_A [(h, .inr (1, [.null, .int 0]))] sz) [(h, .inr (1, [.ref r, .int 0])), (r, .inl ((cT 0), 60, .inl (fun _ => 0)))]) (va_A [(h, .inr (1, [.null, .int 0]))] sz)) 1 60 (va_A [(h, .inr (1, [.null, .int 0]))] sz) := by
  refine Met.ofW (cc := b_By_init) (maxL := 2) (ret := (Option.none : Option Jvm.ClassFile.FieldType)) (by decide) rfl ?_
  intro p e s m args below meth c s₁ B hml hv
  obtain ⟨hargs, hsz, hP, hK, hD0⟩ := hv
  have hx := B.exec
  have hb := B.bytes
  have hr := B.returns
  have hts := atoms_spec (ws := (Cond.code y_By_init b_By_init 2 (Option.none : Option Jvm.ClassFile.FieldType) :: BIG)) B.pre
  have hg : ∀ w ∈ BIG, w.before _ s = true := fun w h => hts w (List.mem_cons_of_mem _ h)
  have hown : s.vm.findClass "DoorServer$Bytes" = some m.cls := findClass_of_methodNamed B.named
  have hlocks := B.notSynchronized
  have hin : meth.name = "<init>" := (name_of_methodNamed B.named B.method).1
  subst hsz
  have hD := hD0.self (sz := s.heap.size)
  generalize hAe : va_A [(h, .inr (1, [.null, .int 0]))] s.heap.size = A at hD ⊢
  have hA : ∀ q : Nat, s.heap.size ≤ q → A q := fun q h => by rw [← hAe]; exact Or.inr h
  have hS : va_S A s.heap s.heap [] := va_S.rf
  have hl := lv_entry ([.ref h, .int 60]) (n := 2) (Nat.le_of_ble_eq_true rfl)
  refine W.eq (g2 := entryFrame m (List.toArray [.ref h, .int 60]) 2) (by rw [hargs]) ?_
  rw [lg_entry_eq]
  generalize (lg_sl ([.ref h, .int 60]) ++ List.replicate (2 - (lg_sl ([.ref h, .int 60])).length) Slot.unset).toArray = ls at hl ⊢
  have hl : lv_has ls 2 [(0, .ref h), (1, .int 60)] := hl
  change W p l e ({ frames := 1, cells := 1, slots := 60, locals := 13 } : Room) s m args below meth c s.heap [] 0 0 _ _
  have hP : va_P (dC, dI) vcl [(h, .inr (1, [.null, .int 0]))] s.heap := hP
  refine lv_aload_n hx hb d_By_init_0 rfl (lv_at hl 0 rfl) ?_
  refine W.objInit hx hb hown (hg _ k_38) (hg _ k_28) (hg _ k_29) rfl (by rw [hml]; exact hl.1) rfl d_By_init_1 (Nat.le_of_ble_eq_true rfl) (Nat.le_of_ble_eq_true rfl) ?_
  refine W.eq (g2 := F0 m 4 ls []) rfl ?_
  refine lv_aload_n hx hb d_By_init_4 rfl (lv_at hl 0 rfl) ?_
  refine lv_iload_n hx hb d_By_init_5 rfl (lv_at hl 1 rfl) ?_
  refine va_newa (atype := .int) (ty := .int) (n := 60) (N' := 60) (a0 := (60, .inl (fun _ => 0))) hx hb (hg _ k_67) rfl hK hP hD hS hA (fun _ => rfl) (by decide) (by decide) (by decide) (Nat.le_of_ble_eq_true rfl) (Nat.le_of_ble_eq_true rfl) d_By_init_6 (fun q6 cA9 H hK9 hP hD hS => ?_)
  obtain rfl := nk_int hK9
  clear hK9
  have hP : va_P (dC, dI) vcl [(h, .inr (1, [.null, .int 0])), (q6, .inl ((cT 0), 60, .inl (fun _ => 0)))] H := hP
  have hD : va_D A [(h, .inr (1, [.null, .int 0])), (q6, .inl ((cT 0), 60, .inl (fun _ => 0)))] := hD
  refine va_putF (D := (dC, dI)) (ci := 1) (v := (.ref q6)) (ty := (.array .int)) (C := R_By) (T := F_By) (N := 2) hx hb hg in_By t_By tok_By nm_By hown hK hP hD hS 0 rfl rfl 0 (by decide) (hg _ k_39) (fun _ h9 => h9) rfl hin rfl (by decide +kernel) rfl rfl (Nat.le_of_ble_eq_true rfl) d_By_init_8 (fun H locs hP hD hS => ?_)
  have hP : va_P (dC, dI) vcl [(h, .inr (1, [.ref q6, .int 0])), (q6, .inl ((cT 0), 60, .inl (fun _ => 0)))] H := hP
  have hD : va_D A [(h, .inr (1, [.ref q6, .int 0])), (q6, .inl ((cT 0), 60, .inl (fun _ => 0)))] := hD
  have hP9 := hP.sub (ws' := [(h, .inr (1, [.ref q6, .int 0])), (q6, .inl ((cT 0), 60, .inl (fun _ => 0)))]) [0, 1] rfl
  have hD9 := hD.sub (ws' := [(h, .inr (1, [.ref q6, .int 0])), (q6, .inl ((cT 0), 60, .inl (fun _ => 0)))]) [0, 1] (by decide) rfl
  exact W.vret hx hb hr (fun t ht hW => ⟨⟨q6, rfl, trivial, by rw [ht]; exact hP9, va_K.moved hW.alike hK, hD9⟩, hS.F ht⟩) hS.2.2 d_By_init_11
set_option maxHeartbeats 4000000 in
set_option maxRecDepth 100000 in
/-- a new row of 1000 -/
theorem n_PB_1000 (l : Launch) (dC : Nat → ClassId) (dI : Nat → Nat → Nat) (cT : Nat → ClassId) (sz : Nat) (h : Nat)  : Met l y_By_init (Cond.code y_By_init b_By_init 2 (Option.none : Option Jvm.ClassFile.FieldType) :: BIG) ({ frames := 1, cells := 1, slots := 1000, locals := 13 }) (va_Pc [.ref h, .int 1000] (fun U => U.heap.size = sz ∧ va_P (dC, dI) vcl [(h, .inr (2, [.null, .int 0]))] U.heap ∧ va_K (dC, dI) vcl (tyL cT) U ∧ va_D (fun _ => True) [(h, .inr (2, [.null, .int 0]))])) (va_Qv (S := Nat) (fun u => match u with | r => True) (fun u t => match u with | r => va_P (dC, dI) vcl [(h, .inr (2, [.ref r, .int 0])), (r, .inl ((cT 0), 1000, .inl (fun _ => 0)))] t.heap ∧ va_K (dC, dI) vcl (tyL cT) t ∧ va_D (va_A [(h, .inr (2, [.null, .int 0]))] sz) [(h, .inr (2, [.ref r, .int 0])), (r, .inl ((cT 0), 1000, .inl (fun _ => 0)))]) (va_A [(h, .inr (2, [.null, .int 0]))] sz)) 1 1000 (va_A [(h, .inr (2, [.null, .int 0]))] sz) := by
  refine Met.ofW (cc := b_By_init) (maxL := 2) (ret := (Option.none : Option Jvm.ClassFile.FieldType)) (by decide) rfl ?_
  intro p e s m args below meth c s₁ B hml hv
  obtain ⟨hargs, hsz, hP, hK, hD0⟩ := hv
  have hx := B.exec
  have hb := B.bytes
  have hr := B.returns
  have hts := atoms_spec (ws := (Cond.code y_By_init b_By_init 2 (Option.none : Option Jvm.ClassFile.FieldType) :: BIG)) B.pre
  have hg : ∀ w ∈ BIG, w.before _ s = true := fun w h => hts w (List.mem_cons_of_mem _ h)
  have hown : s.vm.findClass "DoorServer$Bytes" = some m.cls := findClass_of_methodNamed B.named
  have hlocks := B.notSynchronized
  have hin : meth.name = "<init>" := (name_of_methodNamed B.named B.method).1
  subst hsz
  have hD := hD0.self (sz := s.heap.size)
  generalize hAe : va_A [(h, .inr (2, [.null, .int 0]))] s.heap.size = A at hD ⊢
  have hA : ∀ q : Nat, s.heap.size ≤ q → A q := fun q h => by rw [← hAe]; exact Or.inr h
  have hS : va_S A s.heap s.heap [] := va_S.rf
  have hl := lv_entry ([.ref h, .int 1000]) (n := 2) (Nat.le_of_ble_eq_true rfl)
  refine W.eq (g2 := entryFrame m (List.toArray [.ref h, .int 1000]) 2) (by rw [hargs]) ?_
  rw [lg_entry_eq]
  generalize (lg_sl ([.ref h, .int 1000]) ++ List.replicate (2 - (lg_sl ([.ref h, .int 1000])).length) Slot.unset).toArray = ls at hl ⊢
  have hl : lv_has ls 2 [(0, .ref h), (1, .int 1000)] := hl
  change W p l e ({ frames := 1, cells := 1, slots := 1000, locals := 13 } : Room) s m args below meth c s.heap [] 0 0 _ _
  have hP : va_P (dC, dI) vcl [(h, .inr (2, [.null, .int 0]))] s.heap := hP
  refine lv_aload_n hx hb d_By_init_0 rfl (lv_at hl 0 rfl) ?_
  refine W.objInit hx hb hown (hg _ k_38) (hg _ k_28) (hg _ k_29) rfl (by rw [hml]; exact hl.1) rfl d_By_init_1 (Nat.le_of_ble_eq_true rfl) (Nat.le_of_ble_eq_true rfl) ?_
  refine W.eq (g2 := F0 m 4 ls []) rfl ?_
  refine lv_aload_n hx hb d_By_init_4 rfl (lv_at hl 0 rfl) ?_
  refine lv_iload_n hx hb d_By_init_5 rfl (lv_at hl 1 rfl) ?_
  refine va_newa (atype := .int) (ty := .int) (n := 1000) (N' := 1000) (a0 := (1000, .inl (fun _ => 0))) hx hb (hg _ k_67) rfl hK hP hD hS hA (fun _ => rfl) (by decide) (by decide) (by decide) (Nat.le_of_ble_eq_true rfl) (Nat.le_of_ble_eq_true rfl) d_By_init_6 (fun q7 cA9 H hK9 hP hD hS => ?_)
  obtain rfl := nk_int hK9
  clear hK9
  have hP : va_P (dC, dI) vcl [(h, .inr (2, [.null, .int 0])), (q7, .inl ((cT 0), 1000, .inl (fun _ => 0)))] H := hP
  have hD : va_D A [(h, .inr (2, [.null, .int 0])), (q7, .inl ((cT 0), 1000, .inl (fun _ => 0)))] := hD
  refine va_putF (D := (dC, dI)) (ci := 2) (v := (.ref q7)) (ty := (.array .int)) (C := R_Pk) (T := F_Pk) (N := 2) hx hb hg in_Pk t_Pk tok_Pk nm_Pk hown hK hP hD hS 0 rfl rfl 0 (by decide) (hg _ k_39) (fun _ h9 => h9) rfl hin rfl (by decide +kernel) rfl rfl (Nat.le_of_ble_eq_true rfl) d_By_init_8 (fun H locs hP hD hS => ?_)
  have hP : va_P (dC, dI) vcl [(h, .inr (2, [.ref q7, .int 0])), (q7, .inl ((cT 0), 1000, .inl (fun _ => 0)))] H := hP
  have hD : va_D A [(h, .inr (2, [.ref q7, .int 0])), (q7, .inl ((cT 0), 1000, .inl (fun _ => 0)))] := hD
  have hP9 := hP.sub (ws' := [(h, .inr (2, [.ref q7, .int 0])), (q7, .inl ((cT 0), 1000, .inl (fun _ => 0)))]) [0, 1] rfl
  have hD9 := hD.sub (ws' := [(h, .inr (2, [.ref q7, .int 0])), (q7, .inl ((cT 0), 1000, .inl (fun _ => 0)))]) [0, 1] (by decide) rfl
  exact W.vret hx hb hr (fun t ht hW => ⟨⟨q7, rfl, trivial, by rw [ht]; exact hP9, va_K.moved hW.alike hK, hD9⟩, hS.F ht⟩) hS.2.2 d_By_init_11
set_option maxHeartbeats 4000000 in
set_option maxRecDepth 100000 in
/-- a new packet of 1000 -/
theorem n_Pk_1000 (l : Launch) (dC : Nat → ClassId) (dI : Nat → Nat → Nat) (cT : Nat → ClassId) (sz : Nat) (h : Nat)  : Met l y_Pk_init (Cond.code y_Pk_init b_Pk_init 2 (Option.none : Option Jvm.ClassFile.FieldType) :: BIG) ({ frames := 2, cells := 1, slots := 1000, locals := 40 }) (va_Pc [.ref h, .int 1000] (fun U => U.heap.size = sz ∧ va_P (dC, dI) vcl [(h, .inr (2, [.null, .int 0]))] U.heap ∧ va_K (dC, dI) vcl (tyL cT) U ∧ va_D (fun _ => True) [(h, .inr (2, [.null, .int 0]))])) (va_Qv (S := Nat) (fun u => match u with | r => True) (fun u t => match u with | r => va_P (dC, dI) vcl [(h, .inr (2, [.ref r, .int 0])), (r, .inl ((cT 0), 1000, .inl (fun _ => 0)))] t.heap ∧ va_K (dC, dI) vcl (tyL cT) t ∧ va_D (va_A [(h, .inr (2, [.null, .int 0]))] sz) [(h, .inr (2, [.ref r, .int 0])), (r, .inl ((cT 0), 1000, .inl (fun _ => 0)))]) (va_A [(h, .inr (2, [.null, .int 0]))] sz)) 1 1000 (va_A [(h, .inr (2, [.null, .int 0]))] sz) := by
  refine Met.ofW (cc := b_Pk_init) (maxL := 2) (ret := (Option.none : Option Jvm.ClassFile.FieldType)) (by decide) rfl ?_
  intro p e s m args below meth c s₁ B hml hv
  obtain ⟨hargs, hsz, hP, hK, hD0⟩ := hv
  have hx := B.exec
  have hb := B.bytes
  have hr := B.returns
  have hts := atoms_spec (ws := (Cond.code y_Pk_init b_Pk_init 2 (Option.none : Option Jvm.ClassFile.FieldType) :: BIG)) B.pre
  have hg : ∀ w ∈ BIG, w.before _ s = true := fun w h => hts w (List.mem_cons_of_mem _ h)
  have hown : s.vm.findClass "DoorServer$Packet" = some m.cls := findClass_of_methodNamed B.named
  have hlocks := B.notSynchronized
  have hin : meth.name = "<init>" := (name_of_methodNamed B.named B.method).1
  subst hsz
  have hD := hD0.self (sz := s.heap.size)
  generalize hAe : va_A [(h, .inr (2, [.null, .int 0]))] s.heap.size = A at hD ⊢
  have hA : ∀ q : Nat, s.heap.size ≤ q → A q := fun q h => by rw [← hAe]; exact Or.inr h
  have hS : va_S A s.heap s.heap [] := va_S.rf
  have hl := lv_entry ([.ref h, .int 1000]) (n := 2) (Nat.le_of_ble_eq_true rfl)
  refine W.eq (g2 := entryFrame m (List.toArray [.ref h, .int 1000]) 2) (by rw [hargs]) ?_
  rw [lg_entry_eq]
  generalize (lg_sl ([.ref h, .int 1000]) ++ List.replicate (2 - (lg_sl ([.ref h, .int 1000])).length) Slot.unset).toArray = ls at hl ⊢
  have hl : lv_has ls 2 [(0, .ref h), (1, .int 1000)] := hl
  change W p l e ({ frames := 2, cells := 1, slots := 1000, locals := 40 } : Room) s m args below meth c s.heap [] 0 0 _ _
  have hP : va_P (dC, dI) vcl [(h, .inr (2, [.null, .int 0]))] s.heap := hP
  refine lv_aload_n hx hb d_Pk_init_0 rfl (lv_at hl 0 rfl) ?_
  refine lv_iload_n hx hb d_Pk_init_1 rfl (lv_at hl 1 rfl) ?_
  have hPc := hP.sub (ws' := [(h, .inr (2, [.null, .int 0]))]) [0] rfl
  have hDc := hD.sub (ws' := [(h, .inr (2, [.null, .int 0]))]) [0] (by decide) rfl
  have hFc := va_free (wc := [(h, .inr (2, [.null, .int 0]))]) hD hS hA [0] rfl
  refine va_callv (va_runI (As := [.int 1000]) (rest := []) ⟨hx, hb, hml, hown, hg⟩ (n_PB_1000 l dC dI cT s.heap.size h ) (cwI 1 hg (gI (List.forall_mem_cons.mpr ⟨k_37, fun _ h => h⟩)) rfl rfl rfl (hg _ k_2) (hg _ k_35) (hg _ k_36) rfl (by decide +kernel) ⟨Nat.le_of_ble_eq_true rfl, Nat.le_of_ble_eq_true rfl⟩) ⟨fun a U g mk q => by obtain ⟨q0, q1, qP, qK, qD⟩ := q; exact ⟨q0, q1, qP, va_K.moved (u := U) (U := U.calling g mk a) (Vm.Alike.refl U.vm) qK, qD⟩, fun U hU hW => ⟨rfl, by rw [hU], by rw [hU]; exact hPc, va_K.moved hW.alike hK, hDc.weaken (fun _ _ _ _ => trivial)⟩⟩ rfl rfl hl.1 rfl (lv_room (Nat.le_of_ble_eq_true rfl)) d_Pk_init_2 ⟨Nat.le_of_ble_eq_true rfl, Nat.le_of_ble_eq_true rfl⟩) hS (fun q _ h => hFc q h) hFc (fun u t H1 locs ht hvm hw hB hz1 hk1 hS => ?_)
  obtain ⟨r_8, rfl⟩ : ∃ z, z = u := ⟨_, rfl⟩
  try dsimp only at hw hB
  obtain ⟨hP1, hK1, hD1⟩ := hB
  rw [ht] at hP1
  obtain ⟨hP, hD⟩ := va_join (wr := []) (w1 := [(h, .inr (2, [.ref r_8, .int 0])), (r_8, .inl ((cT 0), 1000, .inl (fun _ => 0)))]) hP hD [0] [] rfl rfl (by decide) (by decide) hk1 hFc hP1 hD1
  have hw9 := hw
  clear hPc hDc hFc hz1 hk1 hP1 hK1 hD1
  generalize H1 = H at hP hS ⊢
  have hP : va_P (dC, dI) vcl [(h, .inr (2, [.ref r_8, .int 0])), (r_8, .inl ((cT 0), 1000, .inl (fun _ => 0)))] H := hP
  have hD : va_D A [(h, .inr (2, [.ref r_8, .int 0])), (r_8, .inl ((cT 0), 1000, .inl (fun _ => 0)))] := hD
  have hP9 := hP.sub (ws' := [(h, .inr (2, [.ref r_8, .int 0])), (r_8, .inl ((cT 0), 1000, .inl (fun _ => 0)))]) [0, 1] rfl
  have hD9 := hD.sub (ws' := [(h, .inr (2, [.ref r_8, .int 0])), (r_8, .inl ((cT 0), 1000, .inl (fun _ => 0)))]) [0, 1] (by decide) rfl
  exact W.vret hx hb hr (fun t ht hW => ⟨⟨r_8, rfl, trivial, by rw [ht]; exact hP9, va_K.moved hW.alike hK, hD9⟩, hS.F ht⟩) hS.2.2 d_Pk_init_5
set_option maxHeartbeats 4000000 in
set_option maxRecDepth 100000 in
/-- a new row of 72 -/
theorem n_PB_72 (l : Launch) (dC : Nat → ClassId) (dI : Nat → Nat → Nat) (cT : Nat → ClassId) (sz : Nat) (h : Nat)  : Met l y_By_init (Cond.code y_By_init b_By_init 2 (Option.none : Option Jvm.ClassFile.FieldType) :: BIG) ({ frames := 1, cells := 1, slots := 72, locals := 13 }) (va_Pc [.ref h, .int 72] (fun U => U.heap.size = sz ∧ va_P (dC, dI) vcl [(h, .inr (2, [.null, .int 0]))] U.heap ∧ va_K (dC, dI) vcl (tyL cT) U ∧ va_D (fun _ => True) [(h, .inr (2, [.null, .int 0]))])) (va_Qv (S := Nat) (fun u => match u with | r => True) (fun u t => match u with | r => va_P (dC, dI) vcl [(h, .inr (2, [.ref r, .int 0])), (r, .inl ((cT 0), 72, .inl (fun _ => 0)))] t.heap ∧ va_K (dC, dI) vcl (tyL cT) t ∧ va_D (va_A [(h, .inr (2, [.null, .int 0]))] sz) [(h, .inr (2, [.ref r, .int 0])), (r, .inl ((cT 0), 72, .inl (fun _ => 0)))]) (va_A [(h, .inr (2, [.null, .int 0]))] sz)) 1 72 (va_A [(h, .inr (2, [.null, .int 0]))] sz) := by
  refine Met.ofW (cc := b_By_init) (maxL := 2) (ret := (Option.none : Option Jvm.ClassFile.FieldType)) (by decide) rfl ?_
  intro p e s m args below meth c s₁ B hml hv
  obtain ⟨hargs, hsz, hP, hK, hD0⟩ := hv
  have hx := B.exec
  have hb := B.bytes
  have hr := B.returns
  have hts := atoms_spec (ws := (Cond.code y_By_init b_By_init 2 (Option.none : Option Jvm.ClassFile.FieldType) :: BIG)) B.pre
  have hg : ∀ w ∈ BIG, w.before _ s = true := fun w h => hts w (List.mem_cons_of_mem _ h)
  have hown : s.vm.findClass "DoorServer$Bytes" = some m.cls := findClass_of_methodNamed B.named
  have hlocks := B.notSynchronized
  have hin : meth.name = "<init>" := (name_of_methodNamed B.named B.method).1
  subst hsz
  have hD := hD0.self (sz := s.heap.size)
  generalize hAe : va_A [(h, .inr (2, [.null, .int 0]))] s.heap.size = A at hD ⊢
  have hA : ∀ q : Nat, s.heap.size ≤ q → A q := fun q h => by rw [← hAe]; exact Or.inr h
  have hS : va_S A s.heap s.heap [] := va_S.rf
  have hl := lv_entry ([.ref h, .int 72]) (n := 2) (Nat.le_of_ble_eq_true rfl)
  refine W.eq (g2 := entryFrame m (List.toArray [.ref h, .int 72]) 2) (by rw [hargs]) ?_
  rw [lg_entry_eq]
  generalize (lg_sl ([.ref h, .int 72]) ++ List.replicate (2 - (lg_sl ([.ref h, .int 72])).length) Slot.unset).toArray = ls at hl ⊢
  have hl : lv_has ls 2 [(0, .ref h), (1, .int 72)] := hl
  change W p l e ({ frames := 1, cells := 1, slots := 72, locals := 13 } : Room) s m args below meth c s.heap [] 0 0 _ _
  have hP : va_P (dC, dI) vcl [(h, .inr (2, [.null, .int 0]))] s.heap := hP
  refine lv_aload_n hx hb d_By_init_0 rfl (lv_at hl 0 rfl) ?_
  refine W.objInit hx hb hown (hg _ k_38) (hg _ k_28) (hg _ k_29) rfl (by rw [hml]; exact hl.1) rfl d_By_init_1 (Nat.le_of_ble_eq_true rfl) (Nat.le_of_ble_eq_true rfl) ?_
  refine W.eq (g2 := F0 m 4 ls []) rfl ?_
  refine lv_aload_n hx hb d_By_init_4 rfl (lv_at hl 0 rfl) ?_
  refine lv_iload_n hx hb d_By_init_5 rfl (lv_at hl 1 rfl) ?_
  refine va_newa (atype := .int) (ty := .int) (n := 72) (N' := 72) (a0 := (72, .inl (fun _ => 0))) hx hb (hg _ k_67) rfl hK hP hD hS hA (fun _ => rfl) (by decide) (by decide) (by decide) (Nat.le_of_ble_eq_true rfl) (Nat.le_of_ble_eq_true rfl) d_By_init_6 (fun q10 cA9 H hK9 hP hD hS => ?_)
  obtain rfl := nk_int hK9
  clear hK9
  have hP : va_P (dC, dI) vcl [(h, .inr (2, [.null, .int 0])), (q10, .inl ((cT 0), 72, .inl (fun _ => 0)))] H := hP
  have hD : va_D A [(h, .inr (2, [.null, .int 0])), (q10, .inl ((cT 0), 72, .inl (fun _ => 0)))] := hD
  refine va_putF (D := (dC, dI)) (ci := 2) (v := (.ref q10)) (ty := (.array .int)) (C := R_Pk) (T := F_Pk) (N := 2) hx hb hg in_Pk t_Pk tok_Pk nm_Pk hown hK hP hD hS 0 rfl rfl 0 (by decide) (hg _ k_39) (fun _ h9 => h9) rfl hin rfl (by decide +kernel) rfl rfl (Nat.le_of_ble_eq_true rfl) d_By_init_8 (fun H locs hP hD hS => ?_)
  have hP : va_P (dC, dI) vcl [(h, .inr (2, [.ref q10, .int 0])), (q10, .inl ((cT 0), 72, .inl (fun _ => 0)))] H := hP
  have hD : va_D A [(h, .inr (2, [.ref q10, .int 0])), (q10, .inl ((cT 0), 72, .inl (fun _ => 0)))] := hD
  have hP9 := hP.sub (ws' := [(h, .inr (2, [.ref q10, .int 0])), (q10, .inl ((cT 0), 72, .inl (fun _ => 0)))]) [0, 1] rfl
  have hD9 := hD.sub (ws' := [(h, .inr (2, [.ref q10, .int 0])), (q10, .inl ((cT 0), 72, .inl (fun _ => 0)))]) [0, 1] (by decide) rfl
  exact W.vret hx hb hr (fun t ht hW => ⟨⟨q10, rfl, trivial, by rw [ht]; exact hP9, va_K.moved hW.alike hK, hD9⟩, hS.F ht⟩) hS.2.2 d_By_init_11
set_option maxHeartbeats 4000000 in
set_option maxRecDepth 100000 in
/-- a new packet of 72 -/
theorem n_Pk_72 (l : Launch) (dC : Nat → ClassId) (dI : Nat → Nat → Nat) (cT : Nat → ClassId) (sz : Nat) (h : Nat)  : Met l y_Pk_init (Cond.code y_Pk_init b_Pk_init 2 (Option.none : Option Jvm.ClassFile.FieldType) :: BIG) ({ frames := 2, cells := 1, slots := 72, locals := 40 }) (va_Pc [.ref h, .int 72] (fun U => U.heap.size = sz ∧ va_P (dC, dI) vcl [(h, .inr (2, [.null, .int 0]))] U.heap ∧ va_K (dC, dI) vcl (tyL cT) U ∧ va_D (fun _ => True) [(h, .inr (2, [.null, .int 0]))])) (va_Qv (S := Nat) (fun u => match u with | r => True) (fun u t => match u with | r => va_P (dC, dI) vcl [(h, .inr (2, [.ref r, .int 0])), (r, .inl ((cT 0), 72, .inl (fun _ => 0)))] t.heap ∧ va_K (dC, dI) vcl (tyL cT) t ∧ va_D (va_A [(h, .inr (2, [.null, .int 0]))] sz) [(h, .inr (2, [.ref r, .int 0])), (r, .inl ((cT 0), 72, .inl (fun _ => 0)))]) (va_A [(h, .inr (2, [.null, .int 0]))] sz)) 1 72 (va_A [(h, .inr (2, [.null, .int 0]))] sz) := by
  refine Met.ofW (cc := b_Pk_init) (maxL := 2) (ret := (Option.none : Option Jvm.ClassFile.FieldType)) (by decide) rfl ?_
  intro p e s m args below meth c s₁ B hml hv
  obtain ⟨hargs, hsz, hP, hK, hD0⟩ := hv
  have hx := B.exec
  have hb := B.bytes
  have hr := B.returns
  have hts := atoms_spec (ws := (Cond.code y_Pk_init b_Pk_init 2 (Option.none : Option Jvm.ClassFile.FieldType) :: BIG)) B.pre
  have hg : ∀ w ∈ BIG, w.before _ s = true := fun w h => hts w (List.mem_cons_of_mem _ h)
  have hown : s.vm.findClass "DoorServer$Packet" = some m.cls := findClass_of_methodNamed B.named
  have hlocks := B.notSynchronized
  have hin : meth.name = "<init>" := (name_of_methodNamed B.named B.method).1
  subst hsz
  have hD := hD0.self (sz := s.heap.size)
  generalize hAe : va_A [(h, .inr (2, [.null, .int 0]))] s.heap.size = A at hD ⊢
  have hA : ∀ q : Nat, s.heap.size ≤ q → A q := fun q h => by rw [← hAe]; exact Or.inr h
  have hS : va_S A s.heap s.heap [] := va_S.rf
  have hl := lv_entry ([.ref h, .int 72]) (n := 2) (Nat.le_of_ble_eq_true rfl)
  refine W.eq (g2 := entryFrame m (List.toArray [.ref h, .int 72]) 2) (by rw [hargs]) ?_
  rw [lg_entry_eq]
  generalize (lg_sl ([.ref h, .int 72]) ++ List.replicate (2 - (lg_sl ([.ref h, .int 72])).length) Slot.unset).toArray = ls at hl ⊢
  have hl : lv_has ls 2 [(0, .ref h), (1, .int 72)] := hl
  change W p l e ({ frames := 2, cells := 1, slots := 72, locals := 40 } : Room) s m args below meth c s.heap [] 0 0 _ _
  have hP : va_P (dC, dI) vcl [(h, .inr (2, [.null, .int 0]))] s.heap := hP
  refine lv_aload_n hx hb d_Pk_init_0 rfl (lv_at hl 0 rfl) ?_
  refine lv_iload_n hx hb d_Pk_init_1 rfl (lv_at hl 1 rfl) ?_
  have hPc := hP.sub (ws' := [(h, .inr (2, [.null, .int 0]))]) [0] rfl
  have hDc := hD.sub (ws' := [(h, .inr (2, [.null, .int 0]))]) [0] (by decide) rfl
  have hFc := va_free (wc := [(h, .inr (2, [.null, .int 0]))]) hD hS hA [0] rfl
  refine va_callv (va_runI (As := [.int 72]) (rest := []) ⟨hx, hb, hml, hown, hg⟩ (n_PB_72 l dC dI cT s.heap.size h ) (cwI 1 hg (gI (List.forall_mem_cons.mpr ⟨k_37, fun _ h => h⟩)) rfl rfl rfl (hg _ k_2) (hg _ k_35) (hg _ k_36) rfl (by decide +kernel) ⟨Nat.le_of_ble_eq_true rfl, Nat.le_of_ble_eq_true rfl⟩) ⟨fun a U g mk q => by obtain ⟨q0, q1, qP, qK, qD⟩ := q; exact ⟨q0, q1, qP, va_K.moved (u := U) (U := U.calling g mk a) (Vm.Alike.refl U.vm) qK, qD⟩, fun U hU hW => ⟨rfl, by rw [hU], by rw [hU]; exact hPc, va_K.moved hW.alike hK, hDc.weaken (fun _ _ _ _ => trivial)⟩⟩ rfl rfl hl.1 rfl (lv_room (Nat.le_of_ble_eq_true rfl)) d_Pk_init_2 ⟨Nat.le_of_ble_eq_true rfl, Nat.le_of_ble_eq_true rfl⟩) hS (fun q _ h => hFc q h) hFc (fun u t H1 locs ht hvm hw hB hz1 hk1 hS => ?_)
  obtain ⟨r_11, rfl⟩ : ∃ z, z = u := ⟨_, rfl⟩
  try dsimp only at hw hB
  obtain ⟨hP1, hK1, hD1⟩ := hB
  rw [ht] at hP1
  obtain ⟨hP, hD⟩ := va_join (wr := []) (w1 := [(h, .inr (2, [.ref r_11, .int 0])), (r_11, .inl ((cT 0), 72, .inl (fun _ => 0)))]) hP hD [0] [] rfl rfl (by decide) (by decide) hk1 hFc hP1 hD1
  have hw12 := hw
  clear hPc hDc hFc hz1 hk1 hP1 hK1 hD1
  generalize H1 = H at hP hS ⊢
  have hP : va_P (dC, dI) vcl [(h, .inr (2, [.ref r_11, .int 0])), (r_11, .inl ((cT 0), 72, .inl (fun _ => 0)))] H := hP
  have hD : va_D A [(h, .inr (2, [.ref r_11, .int 0])), (r_11, .inl ((cT 0), 72, .inl (fun _ => 0)))] := hD
  have hP9 := hP.sub (ws' := [(h, .inr (2, [.ref r_11, .int 0])), (r_11, .inl ((cT 0), 72, .inl (fun _ => 0)))]) [0, 1] rfl
  have hD9 := hD.sub (ws' := [(h, .inr (2, [.ref r_11, .int 0])), (r_11, .inl ((cT 0), 72, .inl (fun _ => 0)))]) [0, 1] (by decide) rfl
  exact W.vret hx hb hr (fun t ht hW => ⟨⟨r_11, rfl, trivial, by rw [ht]; exact hP9, va_K.moved hW.alike hK, hD9⟩, hS.F ht⟩) hS.2.2 d_Pk_init_5
set_option maxHeartbeats 4000000 in
set_option maxRecDepth 100000 in
/-- Kept -/
theorem n_Ke (l : Launch) (dC : Nat → ClassId) (dI : Nat → Nat → Nat) (cT : Nat → ClassId) (sz : Nat) (h : Nat)  : Met l y_Ke_init (Cond.code y_Ke_init b_Ke_init 1 (Option.none : Option Jvm.ClassFile.FieldType) :: BIG) ({ frames := 2, cells := 3, slots := 90, locals := 40 }) (va_Pc [.ref h] (fun U => U.heap.size = sz ∧ va_P (dC, dI) vcl [(h, .inr (7, [.int 0, .int 0, .int 0, .int 0, .null, .null]))] U.heap ∧ va_K (dC, dI) vcl (tyL cT) U ∧ va_D (fun _ => True) [(h, .inr (7, [.int 0, .int 0, .int 0, .int 0, .null, .null]))])) (va_Qv (S := Nat × Nat × Nat) (fun u => match u with | (a, r, b) => True) (fun u t => match u with | (a, r, b) => va_P (dC, dI) vcl [(h, .inr (7, [.int 0, .int 0, .int 0, .int 0, .ref a, .ref b])), (a, .inl ((cT 0), 16, .inl (fun _ => 0))), (r, .inl ((cT 0), 72, .inl (fun _ => 0))), (b, .inr (1, [.ref r, .int (nI 0)]))] t.heap ∧ va_K (dC, dI) vcl (tyL cT) t ∧ va_D (va_A [(h, .inr (7, [.int 0, .int 0, .int 0, .int 0, .null, .null]))] sz) [(h, .inr (7, [.int 0, .int 0, .int 0, .int 0, .ref a, .ref b])), (a, .inl ((cT 0), 16, .inl (fun _ => 0))), (r, .inl ((cT 0), 72, .inl (fun _ => 0))), (b, .inr (1, [.ref r, .int (nI 0)]))]) (va_A [(h, .inr (7, [.int 0, .int 0, .int 0, .int 0, .null, .null]))] sz)) 3 90 (va_A [(h, .inr (7, [.int 0, .int 0, .int 0, .int 0, .null, .null]))] sz) := by
  refine Met.ofW (cc := b_Ke_init) (maxL := 1) (ret := (Option.none : Option Jvm.ClassFile.FieldType)) (by decide) rfl ?_
  intro p e s m args below meth c s₁ B hml hv
  obtain ⟨hargs, hsz, hP, hK, hD0⟩ := hv
  have hx := B.exec
  have hb := B.bytes
  have hr := B.returns
  have hts := atoms_spec (ws := (Cond.code y_Ke_init b_Ke_init 1 (Option.none : Option Jvm.ClassFile.FieldType) :: BIG)) B.pre
  have hg : ∀ w ∈ BIG, w.before _ s = true := fun w h => hts w (List.mem_cons_of_mem _ h)
  have hown : s.vm.findClass "DoorServer$Kept" = some m.cls := findClass_of_methodNamed B.named
  have hlocks := B.notSynchronized
  have hin : meth.name = "<init>" := (name_of_methodNamed B.named B.method).1
  subst hsz
  have hD := hD0.self (sz := s.heap.size)
  generalize hAe : va_A [(h, .inr (7, [.int 0, .int 0, .int 0, .int 0, .null, .null]))] s.heap.size = A at hD ⊢
  have hA : ∀ q : Nat, s.heap.size ≤ q → A q := fun q h => by rw [← hAe]; exact Or.inr h
  have hS : va_S A s.heap s.heap [] := va_S.rf
  have hl := lv_entry ([.ref h]) (n := 1) (Nat.le_of_ble_eq_true rfl)
  refine W.eq (g2 := entryFrame m (List.toArray [.ref h]) 1) (by rw [hargs]) ?_
  rw [lg_entry_eq]
  generalize (lg_sl ([.ref h]) ++ List.replicate (1 - (lg_sl ([.ref h])).length) Slot.unset).toArray = ls at hl ⊢
  have hl : lv_has ls 1 [(0, .ref h)] := hl
  change W p l e ({ frames := 2, cells := 3, slots := 90, locals := 40 } : Room) s m args below meth c s.heap [] 0 0 _ _
  have hP : va_P (dC, dI) vcl [(h, .inr (7, [.int 0, .int 0, .int 0, .int 0, .null, .null]))] s.heap := hP
  refine lv_aload_n hx hb d_Ke_init_0 rfl (lv_at hl 0 rfl) ?_
  refine W.objInit hx hb hown (hg _ k_153) (hg _ k_28) (hg _ k_29) rfl (by rw [hml]; exact hl.1) rfl d_Ke_init_1 (Nat.le_of_ble_eq_true rfl) (Nat.le_of_ble_eq_true rfl) ?_
  refine W.eq (g2 := F0 m 4 ls []) rfl ?_
  refine lv_aload_n hx hb d_Ke_init_4 rfl (lv_at hl 0 rfl) ?_
  refine lv_bipush (v := 16) hx hb d_Ke_init_5 (by decide) ?_
  refine va_newa (atype := .int) (ty := .int) (n := 16) (N' := 16) (a0 := (16, .inl (fun _ => 0))) hx hb (hg _ k_67) rfl hK hP hD hS hA (fun _ => rfl) (by decide) (by decide) (by decide) (Nat.le_of_ble_eq_true rfl) (Nat.le_of_ble_eq_true rfl) d_Ke_init_7 (fun q13 cA9 H hK9 hP hD hS => ?_)
  obtain rfl := nk_int hK9
  clear hK9
  have hP : va_P (dC, dI) vcl [(h, .inr (7, [.int 0, .int 0, .int 0, .int 0, .null, .null])), (q13, .inl ((cT 0), 16, .inl (fun _ => 0)))] H := hP
  have hD : va_D A [(h, .inr (7, [.int 0, .int 0, .int 0, .int 0, .null, .null])), (q13, .inl ((cT 0), 16, .inl (fun _ => 0)))] := hD
  refine va_putF (D := (dC, dI)) (ci := 7) (v := (.ref q13)) (ty := (.array .int)) (C := R_Ke) (T := F_Ke) (N := 6) hx hb hg in_Ke t_Ke tok_Ke nm_Ke hown hK hP hD hS 0 rfl rfl 4 (by decide) (hg _ k_161) (fun _ h9 => h9) rfl hin rfl (by decide +kernel) rfl rfl (Nat.le_of_ble_eq_true rfl) d_Ke_init_9 (fun H locs hP hD hS => ?_)
  have hP : va_P (dC, dI) vcl [(h, .inr (7, [.int 0, .int 0, .int 0, .int 0, .ref q13, .null])), (q13, .inl ((cT 0), 16, .inl (fun _ => 0)))] H := hP
  have hD : va_D A [(h, .inr (7, [.int 0, .int 0, .int 0, .int 0, .ref q13, .null])), (q13, .inl ((cT 0), 16, .inl (fun _ => 0)))] := hD
  refine lv_aload_n hx hb d_Ke_init_12 rfl (lv_at hl 0 rfl) ?_
  refine va_new (ci := 1) (fs := [.null, .int 0]) (C := R_By) (T := F_By) (N := 2) hx hb hg in_By t_By tok_By hown (hg _ k_154) (hg _ k_111) (hg _ k_2) hK hP hD hS hA rfl (fun j hj => match j, hj with | 0, _ => rfl | 1, _ => rfl | (n9 + 2), h9 => absurd h9 (by omega)) (Nat.le_of_ble_eq_true rfl) (Nat.le_of_ble_eq_true rfl) d_Ke_init_13 (fun q14 H hP hD hS => ?_)
  have hP : va_P (dC, dI) vcl [(h, .inr (7, [.int 0, .int 0, .int 0, .int 0, .ref q13, .null])), (q13, .inl ((cT 0), 16, .inl (fun _ => 0))), (q14, .inr (1, [.null, .int 0]))] H := hP
  have hD : va_D A [(h, .inr (7, [.int 0, .int 0, .int 0, .int 0, .ref q13, .null])), (q13, .inl ((cT 0), 16, .inl (fun _ => 0))), (q14, .inr (1, [.null, .int 0]))] := hD
  refine lv_dup hx hb d_Ke_init_16 rfl ?_
  refine lv_bipush (v := 72) hx hb d_Ke_init_17 (by decide) ?_
  have hPc := hP.sub (ws' := [(q14, .inr (1, [.null, .int 0]))]) [2] rfl
  have hDc := hD.sub (ws' := [(q14, .inr (1, [.null, .int 0]))]) [2] (by decide) rfl
  have hFc := va_free (wc := [(q14, .inr (1, [.null, .int 0]))]) hD hS hA [2] rfl
  refine va_callv (va_runI (As := [.int 72]) (rest := [.ref q14, .ref h]) ⟨hx, hb, hml, hown, hg⟩ (n_By_72 l dC dI cT H.size q14 ) (cwI 1 hg (gI (List.forall_mem_cons.mpr ⟨k_37, fun _ h => h⟩)) rfl rfl rfl (hg _ k_2) (hg _ k_155) (hg _ k_36) rfl (by decide +kernel) ⟨Nat.le_of_ble_eq_true rfl, Nat.le_of_ble_eq_true rfl⟩) ⟨fun a U g mk q => by obtain ⟨q0, q1, qP, qK, qD⟩ := q; exact ⟨q0, q1, qP, va_K.moved (u := U) (U := U.calling g mk a) (Vm.Alike.refl U.vm) qK, qD⟩, fun U hU hW => ⟨rfl, by rw [hU], by rw [hU]; exact hPc, va_K.moved hW.alike hK, hDc.weaken (fun _ _ _ _ => trivial)⟩⟩ rfl rfl hl.1 rfl (lv_room (Nat.le_of_ble_eq_true rfl)) d_Ke_init_19 ⟨Nat.le_of_ble_eq_true rfl, Nat.le_of_ble_eq_true rfl⟩) hS (fun q _ h => hFc q h) hFc (fun u t H1 locs ht hvm hw hB hz1 hk1 hS => ?_)
  obtain ⟨r_15, rfl⟩ : ∃ z, z = u := ⟨_, rfl⟩
  try dsimp only at hw hB
  obtain ⟨hP1, hK1, hD1⟩ := hB
  rw [ht] at hP1
  obtain ⟨hP, hD⟩ := va_join (wr := [(h, .inr (7, [.int 0, .int 0, .int 0, .int 0, .ref q13, .null])), (q13, .inl ((cT 0), 16, .inl (fun _ => 0)))]) (w1 := [(q14, .inr (1, [.ref r_15, .int 0])), (r_15, .inl ((cT 0), 72, .inl (fun _ => 0)))]) hP hD [2] [0, 1] rfl rfl (by decide) (by decide) hk1 hFc hP1 hD1
  have hw16 := hw
  clear hPc hDc hFc hz1 hk1 hP1 hK1 hD1
  generalize H1 = H at hP hS ⊢
  have hP : va_P (dC, dI) vcl [(h, .inr (7, [.int 0, .int 0, .int 0, .int 0, .ref q13, .null])), (q13, .inl ((cT 0), 16, .inl (fun _ => 0))), (q14, .inr (1, [.ref r_15, .int 0])), (r_15, .inl ((cT 0), 72, .inl (fun _ => 0)))] H := hP
  have hD : va_D A [(h, .inr (7, [.int 0, .int 0, .int 0, .int 0, .ref q13, .null])), (q13, .inl ((cT 0), 16, .inl (fun _ => 0))), (q14, .inr (1, [.ref r_15, .int 0])), (r_15, .inl ((cT 0), 72, .inl (fun _ => 0)))] := hD
  refine va_putF (D := (dC, dI)) (ci := 7) (v := (.ref q14)) (ty := (.object "DoorServer$Bytes")) (C := R_Ke) (T := F_Ke) (N := 6) hx hb hg in_Ke t_Ke tok_Ke nm_Ke hown hK hP hD hS 0 rfl rfl 5 (by decide) (hg _ k_164) (fun _ h9 => h9) rfl hin rfl (by decide +kernel) rfl rfl (Nat.le_of_ble_eq_true rfl) d_Ke_init_22 (fun H locs hP hD hS => ?_)
  have hP : va_P (dC, dI) vcl [(h, .inr (7, [.int 0, .int 0, .int 0, .int 0, .ref q13, .ref q14])), (q13, .inl ((cT 0), 16, .inl (fun _ => 0))), (q14, .inr (1, [.ref r_15, .int 0])), (r_15, .inl ((cT 0), 72, .inl (fun _ => 0)))] H := hP
  have hD : va_D A [(h, .inr (7, [.int 0, .int 0, .int 0, .int 0, .ref q13, .ref q14])), (q13, .inl ((cT 0), 16, .inl (fun _ => 0))), (q14, .inr (1, [.ref r_15, .int 0])), (r_15, .inl ((cT 0), 72, .inl (fun _ => 0)))] := hD
  have hP : va_P (dC, dI) vcl [(h, .inr (7, [.int 0, .int 0, .int 0, .int 0, .ref q13, .ref q14])), (q13, .inl ((cT 0), 16, .inl (fun _ => 0))), (q14, .inr (1, [.ref r_15, .int (nI 0)])), (r_15, .inl ((cT 0), 72, .inl (fun _ => 0)))] H := hP
  have hD : va_D A [(h, .inr (7, [.int 0, .int 0, .int 0, .int 0, .ref q13, .ref q14])), (q13, .inl ((cT 0), 16, .inl (fun _ => 0))), (q14, .inr (1, [.ref r_15, .int (nI 0)])), (r_15, .inl ((cT 0), 72, .inl (fun _ => 0)))] := hD
  have hP9 := hP.sub (ws' := [(h, .inr (7, [.int 0, .int 0, .int 0, .int 0, .ref q13, .ref q14])), (q13, .inl ((cT 0), 16, .inl (fun _ => 0))), (r_15, .inl ((cT 0), 72, .inl (fun _ => 0))), (q14, .inr (1, [.ref r_15, .int (nI 0)]))]) [0, 1, 3, 2] rfl
  have hD9 := hD.sub (ws' := [(h, .inr (7, [.int 0, .int 0, .int 0, .int 0, .ref q13, .ref q14])), (q13, .inl ((cT 0), 16, .inl (fun _ => 0))), (r_15, .inl ((cT 0), 72, .inl (fun _ => 0))), (q14, .inr (1, [.ref r_15, .int (nI 0)]))]) [0, 1, 3, 2] (by decide) rfl
  exact W.vret hx hb hr (fun t ht hW => ⟨⟨⟨q13, r_15, q14⟩, rfl, trivial, by rw [ht]; exact hP9, va_K.moved hW.alike hK, hD9⟩, hS.F ht⟩) hS.2.2 d_Ke_init_25
set_option maxHeartbeats 4000000 in
set_option maxRecDepth 100000 in
/-- Trial -/
theorem n_Tl (l : Launch) (dC : Nat → ClassId) (dI : Nat → Nat → Nat) (cT : Nat → ClassId) (sz : Nat) (h : Nat)  : Met l y_Tl_init (Cond.code y_Tl_init b_Tl_init 1 (Option.none : Option Jvm.ClassFile.FieldType) :: BIG) ({ frames := 1, cells := 1, slots := 16, locals := 13 }) (va_Pc [.ref h] (fun U => U.heap.size = sz ∧ va_P (dC, dI) vcl [(h, .inr (8, [.int 0, .long 0, .int 0, .int 0, .int 0, .int 0, .null]))] U.heap ∧ va_K (dC, dI) vcl (tyL cT) U ∧ va_D (fun _ => True) [(h, .inr (8, [.int 0, .long 0, .int 0, .int 0, .int 0, .int 0, .null]))])) (va_Qv (S := Nat) (fun u => match u with | a => True) (fun u t => match u with | a => va_P (dC, dI) vcl [(h, .inr (8, [.int 0, .long 0, .int 0, .int 0, .int 0, .int 0, .ref a])), (a, .inl ((cT 0), 16, .inl (fun _ => 0)))] t.heap ∧ va_K (dC, dI) vcl (tyL cT) t ∧ va_D (va_A [(h, .inr (8, [.int 0, .long 0, .int 0, .int 0, .int 0, .int 0, .null]))] sz) [(h, .inr (8, [.int 0, .long 0, .int 0, .int 0, .int 0, .int 0, .ref a])), (a, .inl ((cT 0), 16, .inl (fun _ => 0)))]) (va_A [(h, .inr (8, [.int 0, .long 0, .int 0, .int 0, .int 0, .int 0, .null]))] sz)) 1 16 (va_A [(h, .inr (8, [.int 0, .long 0, .int 0, .int 0, .int 0, .int 0, .null]))] sz) := by
  refine Met.ofW (cc := b_Tl_init) (maxL := 1) (ret := (Option.none : Option Jvm.ClassFile.FieldType)) (by decide) rfl ?_
  intro p e s m args below meth c s₁ B hml hv
  obtain ⟨hargs, hsz, hP, hK, hD0⟩ := hv
  have hx := B.exec
  have hb := B.bytes
  have hr := B.returns
  have hts := atoms_spec (ws := (Cond.code y_Tl_init b_Tl_init 1 (Option.none : Option Jvm.ClassFile.FieldType) :: BIG)) B.pre
  have hg : ∀ w ∈ BIG, w.before _ s = true := fun w h => hts w (List.mem_cons_of_mem _ h)
  have hown : s.vm.findClass "DoorServer$Trial" = some m.cls := findClass_of_methodNamed B.named
  have hlocks := B.notSynchronized
  have hin : meth.name = "<init>" := (name_of_methodNamed B.named B.method).1
  subst hsz
  have hD := hD0.self (sz := s.heap.size)
  generalize hAe : va_A [(h, .inr (8, [.int 0, .long 0, .int 0, .int 0, .int 0, .int 0, .null]))] s.heap.size = A at hD ⊢
  have hA : ∀ q : Nat, s.heap.size ≤ q → A q := fun q h => by rw [← hAe]; exact Or.inr h
  have hS : va_S A s.heap s.heap [] := va_S.rf
  have hl := lv_entry ([.ref h]) (n := 1) (Nat.le_of_ble_eq_true rfl)
  refine W.eq (g2 := entryFrame m (List.toArray [.ref h]) 1) (by rw [hargs]) ?_
  rw [lg_entry_eq]
  generalize (lg_sl ([.ref h]) ++ List.replicate (1 - (lg_sl ([.ref h])).length) Slot.unset).toArray = ls at hl ⊢
  have hl : lv_has ls 1 [(0, .ref h)] := hl
  change W p l e ({ frames := 1, cells := 1, slots := 16, locals := 13 } : Room) s m args below meth c s.heap [] 0 0 _ _
  have hP : va_P (dC, dI) vcl [(h, .inr (8, [.int 0, .long 0, .int 0, .int 0, .int 0, .int 0, .null]))] s.heap := hP
  refine lv_aload_n hx hb d_Tl_init_0 rfl (lv_at hl 0 rfl) ?_
  refine W.objInit hx hb hown (hg _ k_203) (hg _ k_28) (hg _ k_29) rfl (by rw [hml]; exact hl.1) rfl d_Tl_init_1 (Nat.le_of_ble_eq_true rfl) (Nat.le_of_ble_eq_true rfl) ?_
  refine W.eq (g2 := F0 m 4 ls []) rfl ?_
  refine lv_aload_n hx hb d_Tl_init_4 rfl (lv_at hl 0 rfl) ?_
  refine lv_bipush (v := 16) hx hb d_Tl_init_5 (by decide) ?_
  refine va_newa (atype := .int) (ty := .int) (n := 16) (N' := 16) (a0 := (16, .inl (fun _ => 0))) hx hb (hg _ k_67) rfl hK hP hD hS hA (fun _ => rfl) (by decide) (by decide) (by decide) (Nat.le_of_ble_eq_true rfl) (Nat.le_of_ble_eq_true rfl) d_Tl_init_7 (fun q17 cA9 H hK9 hP hD hS => ?_)
  obtain rfl := nk_int hK9
  clear hK9
  have hP : va_P (dC, dI) vcl [(h, .inr (8, [.int 0, .long 0, .int 0, .int 0, .int 0, .int 0, .null])), (q17, .inl ((cT 0), 16, .inl (fun _ => 0)))] H := hP
  have hD : va_D A [(h, .inr (8, [.int 0, .long 0, .int 0, .int 0, .int 0, .int 0, .null])), (q17, .inl ((cT 0), 16, .inl (fun _ => 0)))] := hD
  refine va_putF (D := (dC, dI)) (ci := 8) (v := (.ref q17)) (ty := (.array .int)) (C := R_Tl) (T := F_Tl) (N := 7) hx hb hg in_Tl t_Tl tok_Tl nm_Tl hown hK hP hD hS 0 rfl rfl 6 (by decide) (hg _ k_213) (fun _ h9 => h9) rfl hin rfl (by decide +kernel) rfl rfl (Nat.le_of_ble_eq_true rfl) d_Tl_init_9 (fun H locs hP hD hS => ?_)
  have hP : va_P (dC, dI) vcl [(h, .inr (8, [.int 0, .long 0, .int 0, .int 0, .int 0, .int 0, .ref q17])), (q17, .inl ((cT 0), 16, .inl (fun _ => 0)))] H := hP
  have hD : va_D A [(h, .inr (8, [.int 0, .long 0, .int 0, .int 0, .int 0, .int 0, .ref q17])), (q17, .inl ((cT 0), 16, .inl (fun _ => 0)))] := hD
  have hP9 := hP.sub (ws' := [(h, .inr (8, [.int 0, .long 0, .int 0, .int 0, .int 0, .int 0, .ref q17])), (q17, .inl ((cT 0), 16, .inl (fun _ => 0)))]) [0, 1] rfl
  have hD9 := hD.sub (ws' := [(h, .inr (8, [.int 0, .long 0, .int 0, .int 0, .int 0, .int 0, .ref q17])), (q17, .inl ((cT 0), 16, .inl (fun _ => 0)))]) [0, 1] (by decide) rfl
  exact W.vret hx hb hr (fun t ht hW => ⟨⟨q17, rfl, trivial, by rw [ht]; exact hP9, va_K.moved hW.alike hK, hD9⟩, hS.F ht⟩) hS.2.2 d_Tl_init_12
set_option maxHeartbeats 4000000 in
set_option maxRecDepth 100000 in
/-- Session -/
theorem n_Se (l : Launch) (dC : Nat → ClassId) (dI : Nat → Nat → Nat) (cT : Nat → ClassId) (sz : Nat) (h : Nat)  : Met l y_Se_init (Cond.code y_Se_init b_Se_init 1 (Option.none : Option Jvm.ClassFile.FieldType) :: BIG) ({ frames := 2, cells := 2, slots := 18, locals := 40 }) (va_Pc [.ref h] (fun U => U.heap.size = sz ∧ va_P (dC, dI) vcl [(h, .inr (10, [.int 0, .null, .int 0, .int 0, .int 0, .int 0, .long 0, .long 0]))] U.heap ∧ va_K (dC, dI) vcl (tyL cT) U ∧ va_D (fun _ => True) [(h, .inr (10, [.int 0, .null, .int 0, .int 0, .int 0, .int 0, .long 0, .long 0]))])) (va_Qv (S := Nat × Nat) (fun u => match u with | (r, b) => True) (fun u t => match u with | (r, b) => va_P (dC, dI) vcl [(h, .inr (10, [.int 0, .ref b, .int 0, .int 0, .int 0, .int 0, .long 0, .long 0])), (r, .inl ((cT 0), 16, .inl (fun _ => 0))), (b, .inr (1, [.ref r, .int (nI 0)]))] t.heap ∧ va_K (dC, dI) vcl (tyL cT) t ∧ va_D (va_A [(h, .inr (10, [.int 0, .null, .int 0, .int 0, .int 0, .int 0, .long 0, .long 0]))] sz) [(h, .inr (10, [.int 0, .ref b, .int 0, .int 0, .int 0, .int 0, .long 0, .long 0])), (r, .inl ((cT 0), 16, .inl (fun _ => 0))), (b, .inr (1, [.ref r, .int (nI 0)]))]) (va_A [(h, .inr (10, [.int 0, .null, .int 0, .int 0, .int 0, .int 0, .long 0, .long 0]))] sz)) 2 18 (va_A [(h, .inr (10, [.int 0, .null, .int 0, .int 0, .int 0, .int 0, .long 0, .long 0]))] sz) := by
  refine Met.ofW (cc := b_Se_init) (maxL := 1) (ret := (Option.none : Option Jvm.ClassFile.FieldType)) (by decide) rfl ?_
  intro p e s m args below meth c s₁ B hml hv
  obtain ⟨hargs, hsz, hP, hK, hD0⟩ := hv
  have hx := B.exec
  have hb := B.bytes
  have hr := B.returns
  have hts := atoms_spec (ws := (Cond.code y_Se_init b_Se_init 1 (Option.none : Option Jvm.ClassFile.FieldType) :: BIG)) B.pre
  have hg : ∀ w ∈ BIG, w.before _ s = true := fun w h => hts w (List.mem_cons_of_mem _ h)
  have hown : s.vm.findClass "DoorServer$Session" = some m.cls := findClass_of_methodNamed B.named
  have hlocks := B.notSynchronized
  have hin : meth.name = "<init>" := (name_of_methodNamed B.named B.method).1
  subst hsz
  have hD := hD0.self (sz := s.heap.size)
  generalize hAe : va_A [(h, .inr (10, [.int 0, .null, .int 0, .int 0, .int 0, .int 0, .long 0, .long 0]))] s.heap.size = A at hD ⊢
  have hA : ∀ q : Nat, s.heap.size ≤ q → A q := fun q h => by rw [← hAe]; exact Or.inr h
  have hS : va_S A s.heap s.heap [] := va_S.rf
  have hl := lv_entry ([.ref h]) (n := 1) (Nat.le_of_ble_eq_true rfl)
  refine W.eq (g2 := entryFrame m (List.toArray [.ref h]) 1) (by rw [hargs]) ?_
  rw [lg_entry_eq]
  generalize (lg_sl ([.ref h]) ++ List.replicate (1 - (lg_sl ([.ref h])).length) Slot.unset).toArray = ls at hl ⊢
  have hl : lv_has ls 1 [(0, .ref h)] := hl
  change W p l e ({ frames := 2, cells := 2, slots := 18, locals := 40 } : Room) s m args below meth c s.heap [] 0 0 _ _
  have hP : va_P (dC, dI) vcl [(h, .inr (10, [.int 0, .null, .int 0, .int 0, .int 0, .int 0, .long 0, .long 0]))] s.heap := hP
  refine lv_aload_n hx hb d_Se_init_0 rfl (lv_at hl 0 rfl) ?_
  refine W.objInit hx hb hown (hg _ k_257) (hg _ k_28) (hg _ k_29) rfl (by rw [hml]; exact hl.1) rfl d_Se_init_1 (Nat.le_of_ble_eq_true rfl) (Nat.le_of_ble_eq_true rfl) ?_
  refine W.eq (g2 := F0 m 4 ls []) rfl ?_
  refine lv_aload_n hx hb d_Se_init_4 rfl (lv_at hl 0 rfl) ?_
  refine va_new (ci := 1) (fs := [.null, .int 0]) (C := R_By) (T := F_By) (N := 2) hx hb hg in_By t_By tok_By hown (hg _ k_258) (hg _ k_111) (hg _ k_2) hK hP hD hS hA rfl (fun j hj => match j, hj with | 0, _ => rfl | 1, _ => rfl | (n9 + 2), h9 => absurd h9 (by omega)) (Nat.le_of_ble_eq_true rfl) (Nat.le_of_ble_eq_true rfl) d_Se_init_5 (fun q18 H hP hD hS => ?_)
  have hP : va_P (dC, dI) vcl [(h, .inr (10, [.int 0, .null, .int 0, .int 0, .int 0, .int 0, .long 0, .long 0])), (q18, .inr (1, [.null, .int 0]))] H := hP
  have hD : va_D A [(h, .inr (10, [.int 0, .null, .int 0, .int 0, .int 0, .int 0, .long 0, .long 0])), (q18, .inr (1, [.null, .int 0]))] := hD
  refine lv_dup hx hb d_Se_init_8 rfl ?_
  refine lv_bipush (v := 16) hx hb d_Se_init_9 (by decide) ?_
  have hPc := hP.sub (ws' := [(q18, .inr (1, [.null, .int 0]))]) [1] rfl
  have hDc := hD.sub (ws' := [(q18, .inr (1, [.null, .int 0]))]) [1] (by decide) rfl
  have hFc := va_free (wc := [(q18, .inr (1, [.null, .int 0]))]) hD hS hA [1] rfl
  refine va_callv (va_runI (As := [.int 16]) (rest := [.ref q18, .ref h]) ⟨hx, hb, hml, hown, hg⟩ (n_By_16 l dC dI cT H.size q18 ) (cwI 1 hg (gI (List.forall_mem_cons.mpr ⟨k_37, fun _ h => h⟩)) rfl rfl rfl (hg _ k_2) (hg _ k_259) (hg _ k_36) rfl (by decide +kernel) ⟨Nat.le_of_ble_eq_true rfl, Nat.le_of_ble_eq_true rfl⟩) ⟨fun a U g mk q => by obtain ⟨q0, q1, qP, qK, qD⟩ := q; exact ⟨q0, q1, qP, va_K.moved (u := U) (U := U.calling g mk a) (Vm.Alike.refl U.vm) qK, qD⟩, fun U hU hW => ⟨rfl, by rw [hU], by rw [hU]; exact hPc, va_K.moved hW.alike hK, hDc.weaken (fun _ _ _ _ => trivial)⟩⟩ rfl rfl hl.1 rfl (lv_room (Nat.le_of_ble_eq_true rfl)) d_Se_init_11 ⟨Nat.le_of_ble_eq_true rfl, Nat.le_of_ble_eq_true rfl⟩) hS (fun q _ h => hFc q h) hFc (fun u t H1 locs ht hvm hw hB hz1 hk1 hS => ?_)
  obtain ⟨r_19, rfl⟩ : ∃ z, z = u := ⟨_, rfl⟩
  try dsimp only at hw hB
  obtain ⟨hP1, hK1, hD1⟩ := hB
  rw [ht] at hP1
  obtain ⟨hP, hD⟩ := va_join (wr := [(h, .inr (10, [.int 0, .null, .int 0, .int 0, .int 0, .int 0, .long 0, .long 0]))]) (w1 := [(q18, .inr (1, [.ref r_19, .int 0])), (r_19, .inl ((cT 0), 16, .inl (fun _ => 0)))]) hP hD [1] [0] rfl rfl (by decide) (by decide) hk1 hFc hP1 hD1
  have hw20 := hw
  clear hPc hDc hFc hz1 hk1 hP1 hK1 hD1
  generalize H1 = H at hP hS ⊢
  have hP : va_P (dC, dI) vcl [(h, .inr (10, [.int 0, .null, .int 0, .int 0, .int 0, .int 0, .long 0, .long 0])), (q18, .inr (1, [.ref r_19, .int 0])), (r_19, .inl ((cT 0), 16, .inl (fun _ => 0)))] H := hP
  have hD : va_D A [(h, .inr (10, [.int 0, .null, .int 0, .int 0, .int 0, .int 0, .long 0, .long 0])), (q18, .inr (1, [.ref r_19, .int 0])), (r_19, .inl ((cT 0), 16, .inl (fun _ => 0)))] := hD
  refine va_putF (D := (dC, dI)) (ci := 10) (v := (.ref q18)) (ty := (.object "DoorServer$Bytes")) (C := R_Se) (T := F_Se) (N := 8) hx hb hg in_Se t_Se tok_Se nm_Se hown hK hP hD hS 0 rfl rfl 1 (by decide) (hg _ k_262) (fun _ h9 => h9) rfl hin rfl (by decide +kernel) rfl rfl (Nat.le_of_ble_eq_true rfl) d_Se_init_14 (fun H locs hP hD hS => ?_)
  have hP : va_P (dC, dI) vcl [(h, .inr (10, [.int 0, .ref q18, .int 0, .int 0, .int 0, .int 0, .long 0, .long 0])), (q18, .inr (1, [.ref r_19, .int 0])), (r_19, .inl ((cT 0), 16, .inl (fun _ => 0)))] H := hP
  have hD : va_D A [(h, .inr (10, [.int 0, .ref q18, .int 0, .int 0, .int 0, .int 0, .long 0, .long 0])), (q18, .inr (1, [.ref r_19, .int 0])), (r_19, .inl ((cT 0), 16, .inl (fun _ => 0)))] := hD
  have hP : va_P (dC, dI) vcl [(h, .inr (10, [.int 0, .ref q18, .int 0, .int 0, .int 0, .int 0, .long 0, .long 0])), (q18, .inr (1, [.ref r_19, .int (nI 0)])), (r_19, .inl ((cT 0), 16, .inl (fun _ => 0)))] H := hP
  have hD : va_D A [(h, .inr (10, [.int 0, .ref q18, .int 0, .int 0, .int 0, .int 0, .long 0, .long 0])), (q18, .inr (1, [.ref r_19, .int (nI 0)])), (r_19, .inl ((cT 0), 16, .inl (fun _ => 0)))] := hD
  have hP9 := hP.sub (ws' := [(h, .inr (10, [.int 0, .ref q18, .int 0, .int 0, .int 0, .int 0, .long 0, .long 0])), (r_19, .inl ((cT 0), 16, .inl (fun _ => 0))), (q18, .inr (1, [.ref r_19, .int (nI 0)]))]) [0, 2, 1] rfl
  have hD9 := hD.sub (ws' := [(h, .inr (10, [.int 0, .ref q18, .int 0, .int 0, .int 0, .int 0, .long 0, .long 0])), (r_19, .inl ((cT 0), 16, .inl (fun _ => 0))), (q18, .inr (1, [.ref r_19, .int (nI 0)]))]) [0, 2, 1] (by decide) rfl
  exact W.vret hx hb hr (fun t ht hW => ⟨⟨⟨r_19, q18⟩, rfl, trivial, by rw [ht]; exact hP9, va_K.moved hW.alike hK, hD9⟩, hS.F ht⟩) hS.2.2 d_Se_init_17
set_option maxHeartbeats 4000000 in
set_option maxRecDepth 100000 in
/-- Digests -/
theorem n_Dg (l : Launch) (dC : Nat → ClassId) (dI : Nat → Nat → Nat) (cT : Nat → ClassId) (sz : Nat) (h : Nat)  : Met l y_Dg_init (Cond.code y_Dg_init b_Dg_init 1 (Option.none : Option Jvm.ClassFile.FieldType) :: BIG) ({ frames := 2, cells := 4, slots := 1226, locals := 40 }) (va_Pc [.ref h] (fun U => U.heap.size = sz ∧ va_P (dC, dI) vcl [(h, .inr (3, [.null, .null, .null, .int 0, .int 0, .int 0, .int 0]))] U.heap ∧ va_K (dC, dI) vcl (tyL cT) U ∧ va_D (fun _ => True) [(h, .inr (3, [.null, .null, .null, .int 0, .int 0, .int 0, .int 0]))])) (va_Qv (S := Nat × Nat × Nat × Nat) (fun u => match u with | (tx, tr, wo, di) => True) (fun u t => match u with | (tx, tr, wo, di) => va_P (dC, dI) vcl [(h, .inr (3, [.ref tx, .ref wo, .ref di, .int 0, .int 0, .int 0, .int 0])), (tx, .inr (1, [.ref tr, .int 0])), (tr, .inl ((cT 0), 1192, .inl (fun _ => 0))), (wo, .inl ((cT 0), 16, .inl (fun _ => 0))), (di, .inl ((cT 0), 16, .inl (fun _ => 0)))] t.heap ∧ va_K (dC, dI) vcl (tyL cT) t ∧ va_D (va_A [(h, .inr (3, [.null, .null, .null, .int 0, .int 0, .int 0, .int 0]))] sz) [(h, .inr (3, [.ref tx, .ref wo, .ref di, .int 0, .int 0, .int 0, .int 0])), (tx, .inr (1, [.ref tr, .int 0])), (tr, .inl ((cT 0), 1192, .inl (fun _ => 0))), (wo, .inl ((cT 0), 16, .inl (fun _ => 0))), (di, .inl ((cT 0), 16, .inl (fun _ => 0)))]) (va_A [(h, .inr (3, [.null, .null, .null, .int 0, .int 0, .int 0, .int 0]))] sz)) 4 1226 (va_A [(h, .inr (3, [.null, .null, .null, .int 0, .int 0, .int 0, .int 0]))] sz) := by
  refine Met.ofW (cc := b_Dg_init) (maxL := 1) (ret := (Option.none : Option Jvm.ClassFile.FieldType)) (by decide) rfl ?_
  intro p e s m args below meth c s₁ B hml hv
  obtain ⟨hargs, hsz, hP, hK, hD0⟩ := hv
  have hx := B.exec
  have hb := B.bytes
  have hr := B.returns
  have hts := atoms_spec (ws := (Cond.code y_Dg_init b_Dg_init 1 (Option.none : Option Jvm.ClassFile.FieldType) :: BIG)) B.pre
  have hg : ∀ w ∈ BIG, w.before _ s = true := fun w h => hts w (List.mem_cons_of_mem _ h)
  have hown : s.vm.findClass "DoorServer$Digests" = some m.cls := findClass_of_methodNamed B.named
  have hlocks := B.notSynchronized
  have hin : meth.name = "<init>" := (name_of_methodNamed B.named B.method).1
  subst hsz
  have hD := hD0.self (sz := s.heap.size)
  generalize hAe : va_A [(h, .inr (3, [.null, .null, .null, .int 0, .int 0, .int 0, .int 0]))] s.heap.size = A at hD ⊢
  have hA : ∀ q : Nat, s.heap.size ≤ q → A q := fun q h => by rw [← hAe]; exact Or.inr h
  have hS : va_S A s.heap s.heap [] := va_S.rf
  have hl := lv_entry ([.ref h]) (n := 1) (Nat.le_of_ble_eq_true rfl)
  refine W.eq (g2 := entryFrame m (List.toArray [.ref h]) 1) (by rw [hargs]) ?_
  rw [lg_entry_eq]
  generalize (lg_sl ([.ref h]) ++ List.replicate (1 - (lg_sl ([.ref h])).length) Slot.unset).toArray = ls at hl ⊢
  have hl : lv_has ls 1 [(0, .ref h)] := hl
  change W p l e ({ frames := 2, cells := 4, slots := 1226, locals := 40 } : Room) s m args below meth c s.heap [] 0 0 _ _
  have hP : va_P (dC, dI) vcl [(h, .inr (3, [.null, .null, .null, .int 0, .int 0, .int 0, .int 0]))] s.heap := hP
  refine lv_aload_n hx hb d_Dg_init_0 rfl (lv_at hl 0 rfl) ?_
  refine W.objInit hx hb hown (hg _ k_109) (hg _ k_28) (hg _ k_29) rfl (by rw [hml]; exact hl.1) rfl d_Dg_init_1 (Nat.le_of_ble_eq_true rfl) (Nat.le_of_ble_eq_true rfl) ?_
  refine W.eq (g2 := F0 m 4 ls []) rfl ?_
  refine lv_aload_n hx hb d_Dg_init_4 rfl (lv_at hl 0 rfl) ?_
  refine va_new (ci := 1) (fs := [.null, .int 0]) (C := R_By) (T := F_By) (N := 2) hx hb hg in_By t_By tok_By hown (hg _ k_110) (hg _ k_111) (hg _ k_2) hK hP hD hS hA rfl (fun j hj => match j, hj with | 0, _ => rfl | 1, _ => rfl | (n9 + 2), h9 => absurd h9 (by omega)) (Nat.le_of_ble_eq_true rfl) (Nat.le_of_ble_eq_true rfl) d_Dg_init_5 (fun q21 H hP hD hS => ?_)
  have hP : va_P (dC, dI) vcl [(h, .inr (3, [.null, .null, .null, .int 0, .int 0, .int 0, .int 0])), (q21, .inr (1, [.null, .int 0]))] H := hP
  have hD : va_D A [(h, .inr (3, [.null, .null, .null, .int 0, .int 0, .int 0, .int 0])), (q21, .inr (1, [.null, .int 0]))] := hD
  refine lv_dup hx hb d_Dg_init_8 rfl ?_
  refine lv_sipush (v := 1192) hx hb d_Dg_init_9 (by decide) ?_
  have hPc := hP.sub (ws' := [(q21, .inr (1, [.null, .int 0]))]) [1] rfl
  have hDc := hD.sub (ws' := [(q21, .inr (1, [.null, .int 0]))]) [1] (by decide) rfl
  have hFc := va_free (wc := [(q21, .inr (1, [.null, .int 0]))]) hD hS hA [1] rfl
  refine va_callv (va_runI (As := [.int 1192]) (rest := [.ref q21, .ref h]) ⟨hx, hb, hml, hown, hg⟩ (n_By_1192 l dC dI cT H.size q21 ) (cwI 1 hg (gI (List.forall_mem_cons.mpr ⟨k_37, fun _ h => h⟩)) rfl rfl rfl (hg _ k_2) (hg _ k_112) (hg _ k_36) rfl (by decide +kernel) ⟨Nat.le_of_ble_eq_true rfl, Nat.le_of_ble_eq_true rfl⟩) ⟨fun a U g mk q => by obtain ⟨q0, q1, qP, qK, qD⟩ := q; exact ⟨q0, q1, qP, va_K.moved (u := U) (U := U.calling g mk a) (Vm.Alike.refl U.vm) qK, qD⟩, fun U hU hW => ⟨rfl, by rw [hU], by rw [hU]; exact hPc, va_K.moved hW.alike hK, hDc.weaken (fun _ _ _ _ => trivial)⟩⟩ rfl rfl hl.1 rfl (lv_room (Nat.le_of_ble_eq_true rfl)) d_Dg_init_12 ⟨Nat.le_of_ble_eq_true rfl, Nat.le_of_ble_eq_true rfl⟩) hS (fun q _ h => hFc q h) hFc (fun u t H1 locs ht hvm hw hB hz1 hk1 hS => ?_)
  obtain ⟨r_22, rfl⟩ : ∃ z, z = u := ⟨_, rfl⟩
  try dsimp only at hw hB
  obtain ⟨hP1, hK1, hD1⟩ := hB
  rw [ht] at hP1
  obtain ⟨hP, hD⟩ := va_join (wr := [(h, .inr (3, [.null, .null, .null, .int 0, .int 0, .int 0, .int 0]))]) (w1 := [(q21, .inr (1, [.ref r_22, .int 0])), (r_22, .inl ((cT 0), 1192, .inl (fun _ => 0)))]) hP hD [1] [0] rfl rfl (by decide) (by decide) hk1 hFc hP1 hD1
  have hw23 := hw
  clear hPc hDc hFc hz1 hk1 hP1 hK1 hD1
  generalize H1 = H at hP hS ⊢
  have hP : va_P (dC, dI) vcl [(h, .inr (3, [.null, .null, .null, .int 0, .int 0, .int 0, .int 0])), (q21, .inr (1, [.ref r_22, .int 0])), (r_22, .inl ((cT 0), 1192, .inl (fun _ => 0)))] H := hP
  have hD : va_D A [(h, .inr (3, [.null, .null, .null, .int 0, .int 0, .int 0, .int 0])), (q21, .inr (1, [.ref r_22, .int 0])), (r_22, .inl ((cT 0), 1192, .inl (fun _ => 0)))] := hD
  refine va_putF (D := (dC, dI)) (ci := 3) (v := (.ref q21)) (ty := (.object "DoorServer$Bytes")) (C := R_Dg) (T := F_Dg) (N := 7) hx hb hg in_Dg t_Dg tok_Dg nm_Dg hown hK hP hD hS 0 rfl rfl 0 (by decide) (hg _ k_116) (fun _ h9 => h9) rfl hin rfl (by decide +kernel) rfl rfl (Nat.le_of_ble_eq_true rfl) d_Dg_init_15 (fun H locs hP hD hS => ?_)
  have hP : va_P (dC, dI) vcl [(h, .inr (3, [.ref q21, .null, .null, .int 0, .int 0, .int 0, .int 0])), (q21, .inr (1, [.ref r_22, .int 0])), (r_22, .inl ((cT 0), 1192, .inl (fun _ => 0)))] H := hP
  have hD : va_D A [(h, .inr (3, [.ref q21, .null, .null, .int 0, .int 0, .int 0, .int 0])), (q21, .inr (1, [.ref r_22, .int 0])), (r_22, .inl ((cT 0), 1192, .inl (fun _ => 0)))] := hD
  refine lv_aload_n hx hb d_Dg_init_18 rfl (lv_at hl 0 rfl) ?_
  refine lv_bipush (v := 16) hx hb d_Dg_init_19 (by decide) ?_
  refine va_newa (atype := .int) (ty := .int) (n := 16) (N' := 16) (a0 := (16, .inl (fun _ => 0))) hx hb (hg _ k_67) rfl hK hP hD hS hA (fun _ => rfl) (by decide) (by decide) (by decide) (Nat.le_of_ble_eq_true rfl) (Nat.le_of_ble_eq_true rfl) d_Dg_init_21 (fun q24 cA9 H hK9 hP hD hS => ?_)
  obtain rfl := nk_int hK9
  clear hK9
  have hP : va_P (dC, dI) vcl [(h, .inr (3, [.ref q21, .null, .null, .int 0, .int 0, .int 0, .int 0])), (q21, .inr (1, [.ref r_22, .int 0])), (r_22, .inl ((cT 0), 1192, .inl (fun _ => 0))), (q24, .inl ((cT 0), 16, .inl (fun _ => 0)))] H := hP
  have hD : va_D A [(h, .inr (3, [.ref q21, .null, .null, .int 0, .int 0, .int 0, .int 0])), (q21, .inr (1, [.ref r_22, .int 0])), (r_22, .inl ((cT 0), 1192, .inl (fun _ => 0))), (q24, .inl ((cT 0), 16, .inl (fun _ => 0)))] := hD
  refine va_putF (D := (dC, dI)) (ci := 3) (v := (.ref q24)) (ty := (.array .int)) (C := R_Dg) (T := F_Dg) (N := 7) hx hb hg in_Dg t_Dg tok_Dg nm_Dg hown hK hP hD hS 0 rfl rfl 1 (by decide) (hg _ k_117) (fun _ h9 => h9) rfl hin rfl (by decide +kernel) rfl rfl (Nat.le_of_ble_eq_true rfl) d_Dg_init_23 (fun H locs hP hD hS => ?_)
  have hP : va_P (dC, dI) vcl [(h, .inr (3, [.ref q21, .ref q24, .null, .int 0, .int 0, .int 0, .int 0])), (q21, .inr (1, [.ref r_22, .int 0])), (r_22, .inl ((cT 0), 1192, .inl (fun _ => 0))), (q24, .inl ((cT 0), 16, .inl (fun _ => 0)))] H := hP
  have hD : va_D A [(h, .inr (3, [.ref q21, .ref q24, .null, .int 0, .int 0, .int 0, .int 0])), (q21, .inr (1, [.ref r_22, .int 0])), (r_22, .inl ((cT 0), 1192, .inl (fun _ => 0))), (q24, .inl ((cT 0), 16, .inl (fun _ => 0)))] := hD
  refine lv_aload_n hx hb d_Dg_init_26 rfl (lv_at hl 0 rfl) ?_
  refine lv_bipush (v := 16) hx hb d_Dg_init_27 (by decide) ?_
  refine va_newa (atype := .int) (ty := .int) (n := 16) (N' := 16) (a0 := (16, .inl (fun _ => 0))) hx hb (hg _ k_67) rfl hK hP hD hS hA (fun _ => rfl) (by decide) (by decide) (by decide) (Nat.le_of_ble_eq_true rfl) (Nat.le_of_ble_eq_true rfl) d_Dg_init_29 (fun q25 cA9 H hK9 hP hD hS => ?_)
  obtain rfl := nk_int hK9
  clear hK9
  have hP : va_P (dC, dI) vcl [(h, .inr (3, [.ref q21, .ref q24, .null, .int 0, .int 0, .int 0, .int 0])), (q21, .inr (1, [.ref r_22, .int 0])), (r_22, .inl ((cT 0), 1192, .inl (fun _ => 0))), (q24, .inl ((cT 0), 16, .inl (fun _ => 0))), (q25, .inl ((cT 0), 16, .inl (fun _ => 0)))] H := hP
  have hD : va_D A [(h, .inr (3, [.ref q21, .ref q24, .null, .int 0, .int 0, .int 0, .int 0])), (q21, .inr (1, [.ref r_22, .int 0])), (r_22, .inl ((cT 0), 1192, .inl (fun _ => 0))), (q24, .inl ((cT 0), 16, .inl (fun _ => 0))), (q25, .inl ((cT 0), 16, .inl (fun _ => 0)))] := hD
  refine va_putF (D := (dC, dI)) (ci := 3) (v := (.ref q25)) (ty := (.array .int)) (C := R_Dg) (T := F_Dg) (N := 7) hx hb hg in_Dg t_Dg tok_Dg nm_Dg hown hK hP hD hS 0 rfl rfl 2 (by decide) (hg _ k_118) (fun _ h9 => h9) rfl hin rfl (by decide +kernel) rfl rfl (Nat.le_of_ble_eq_true rfl) d_Dg_init_31 (fun H locs hP hD hS => ?_)
  have hP : va_P (dC, dI) vcl [(h, .inr (3, [.ref q21, .ref q24, .ref q25, .int 0, .int 0, .int 0, .int 0])), (q21, .inr (1, [.ref r_22, .int 0])), (r_22, .inl ((cT 0), 1192, .inl (fun _ => 0))), (q24, .inl ((cT 0), 16, .inl (fun _ => 0))), (q25, .inl ((cT 0), 16, .inl (fun _ => 0)))] H := hP
  have hD : va_D A [(h, .inr (3, [.ref q21, .ref q24, .ref q25, .int 0, .int 0, .int 0, .int 0])), (q21, .inr (1, [.ref r_22, .int 0])), (r_22, .inl ((cT 0), 1192, .inl (fun _ => 0))), (q24, .inl ((cT 0), 16, .inl (fun _ => 0))), (q25, .inl ((cT 0), 16, .inl (fun _ => 0)))] := hD
  have hP9 := hP.sub (ws' := [(h, .inr (3, [.ref q21, .ref q24, .ref q25, .int 0, .int 0, .int 0, .int 0])), (q21, .inr (1, [.ref r_22, .int 0])), (r_22, .inl ((cT 0), 1192, .inl (fun _ => 0))), (q24, .inl ((cT 0), 16, .inl (fun _ => 0))), (q25, .inl ((cT 0), 16, .inl (fun _ => 0)))]) [0, 1, 2, 3, 4] rfl
  have hD9 := hD.sub (ws' := [(h, .inr (3, [.ref q21, .ref q24, .ref q25, .int 0, .int 0, .int 0, .int 0])), (q21, .inr (1, [.ref r_22, .int 0])), (r_22, .inl ((cT 0), 1192, .inl (fun _ => 0))), (q24, .inl ((cT 0), 16, .inl (fun _ => 0))), (q25, .inl ((cT 0), 16, .inl (fun _ => 0)))]) [0, 1, 2, 3, 4] (by decide) rfl
  exact W.vret hx hb hr (fun t ht hW => ⟨⟨⟨q21, r_22, q24, q25⟩, rfl, trivial, by rw [ht]; exact hP9, va_K.moved hW.alike hK, hD9⟩, hS.F ht⟩) hS.2.2 d_Dg_init_34
set_option maxHeartbeats 4000000 in
set_option maxRecDepth 100000 in
/-- Request -/
theorem n_Rq (l : Launch) (dC : Nat → ClassId) (dI : Nat → Nat → Nat) (cT : Nat → ClassId) (sz : Nat) (h : Nat) (dr : Nat)  : Met l y_Rq_init (Cond.code y_Rq_init b_Rq_init 2 (Option.none : Option Jvm.ClassFile.FieldType) :: BIG) ({ frames := 1, cells := 1, slots := 256, locals := 13 }) (va_Pc [.ref h, .ref dr] (fun U => U.heap.size = sz ∧ va_P (dC, dI) vcl [(h, .inr (4, [.null, .null]))] U.heap ∧ va_K (dC, dI) vcl (tyL cT) U ∧ va_D (fun _ => True) [(h, .inr (4, [.null, .null]))])) (va_Qv (S := Nat) (fun u => match u with | sa => True) (fun u t => match u with | sa => va_P (dC, dI) vcl [(h, .inr (4, [.ref dr, .ref sa])), (sa, .inl ((cT 0), 256, .inl (fun _ => 0)))] t.heap ∧ va_K (dC, dI) vcl (tyL cT) t ∧ va_D (va_A [(h, .inr (4, [.null, .null]))] sz) [(h, .inr (4, [.ref dr, .ref sa])), (sa, .inl ((cT 0), 256, .inl (fun _ => 0)))]) (va_A [(h, .inr (4, [.null, .null]))] sz)) 1 256 (va_A [(h, .inr (4, [.null, .null]))] sz) := by
  refine Met.ofW (cc := b_Rq_init) (maxL := 2) (ret := (Option.none : Option Jvm.ClassFile.FieldType)) (by decide) rfl ?_
  intro p e s m args below meth c s₁ B hml hv
  obtain ⟨hargs, hsz, hP, hK, hD0⟩ := hv
  have hx := B.exec
  have hb := B.bytes
  have hr := B.returns
  have hts := atoms_spec (ws := (Cond.code y_Rq_init b_Rq_init 2 (Option.none : Option Jvm.ClassFile.FieldType) :: BIG)) B.pre
  have hg : ∀ w ∈ BIG, w.before _ s = true := fun w h => hts w (List.mem_cons_of_mem _ h)
  have hown : s.vm.findClass "DoorServer$Request" = some m.cls := findClass_of_methodNamed B.named
  have hlocks := B.notSynchronized
  have hin : meth.name = "<init>" := (name_of_methodNamed B.named B.method).1
  subst hsz
  have hD := hD0.self (sz := s.heap.size)
  generalize hAe : va_A [(h, .inr (4, [.null, .null]))] s.heap.size = A at hD ⊢
  have hA : ∀ q : Nat, s.heap.size ≤ q → A q := fun q h => by rw [← hAe]; exact Or.inr h
  have hS : va_S A s.heap s.heap [] := va_S.rf
  have hl := lv_entry ([.ref h, .ref dr]) (n := 2) (Nat.le_of_ble_eq_true rfl)
  refine W.eq (g2 := entryFrame m (List.toArray [.ref h, .ref dr]) 2) (by rw [hargs]) ?_
  rw [lg_entry_eq]
  generalize (lg_sl ([.ref h, .ref dr]) ++ List.replicate (2 - (lg_sl ([.ref h, .ref dr])).length) Slot.unset).toArray = ls at hl ⊢
  have hl : lv_has ls 2 [(0, .ref h), (1, .ref dr)] := hl
  change W p l e ({ frames := 1, cells := 1, slots := 256, locals := 13 } : Room) s m args below meth c s.heap [] 0 0 _ _
  have hP : va_P (dC, dI) vcl [(h, .inr (4, [.null, .null]))] s.heap := hP
  refine lv_aload_n hx hb d_Rq_init_0 rfl (lv_at hl 0 rfl) ?_
  refine W.objInit hx hb hown (hg _ k_308) (hg _ k_28) (hg _ k_29) rfl (by rw [hml]; exact hl.1) rfl d_Rq_init_1 (Nat.le_of_ble_eq_true rfl) (Nat.le_of_ble_eq_true rfl) ?_
  refine W.eq (g2 := F0 m 4 ls []) rfl ?_
  refine lv_aload_n hx hb d_Rq_init_4 rfl (lv_at hl 0 rfl) ?_
  refine lv_sipush (v := 256) hx hb d_Rq_init_5 (by decide) ?_
  refine va_newa (atype := .int) (ty := .int) (n := 256) (N' := 256) (a0 := (256, .inl (fun _ => 0))) hx hb (hg _ k_67) rfl hK hP hD hS hA (fun _ => rfl) (by decide) (by decide) (by decide) (Nat.le_of_ble_eq_true rfl) (Nat.le_of_ble_eq_true rfl) d_Rq_init_8 (fun q26 cA9 H hK9 hP hD hS => ?_)
  obtain rfl := nk_int hK9
  clear hK9
  have hP : va_P (dC, dI) vcl [(h, .inr (4, [.null, .null])), (q26, .inl ((cT 0), 256, .inl (fun _ => 0)))] H := hP
  have hD : va_D A [(h, .inr (4, [.null, .null])), (q26, .inl ((cT 0), 256, .inl (fun _ => 0)))] := hD
  refine va_putF (D := (dC, dI)) (ci := 4) (v := (.ref q26)) (ty := (.array .int)) (C := R_Rq) (T := F_Rq) (N := 2) hx hb hg in_Rq t_Rq tok_Rq nm_Rq hown hK hP hD hS 0 rfl rfl 1 (by decide) (hg _ k_313) (fun _ h9 => h9) rfl hin rfl (by decide +kernel) rfl rfl (Nat.le_of_ble_eq_true rfl) d_Rq_init_10 (fun H locs hP hD hS => ?_)
  have hP : va_P (dC, dI) vcl [(h, .inr (4, [.null, .ref q26])), (q26, .inl ((cT 0), 256, .inl (fun _ => 0)))] H := hP
  have hD : va_D A [(h, .inr (4, [.null, .ref q26])), (q26, .inl ((cT 0), 256, .inl (fun _ => 0)))] := hD
  refine lv_aload_n hx hb d_Rq_init_13 rfl (lv_at hl 0 rfl) ?_
  refine lv_aload_n hx hb d_Rq_init_14 rfl (lv_at hl 1 rfl) ?_
  refine va_putF (D := (dC, dI)) (ci := 4) (v := (.ref dr)) (ty := (.object "DoorServer$Packet")) (C := R_Rq) (T := F_Rq) (N := 2) hx hb hg in_Rq t_Rq tok_Rq nm_Rq hown hK hP hD hS 0 rfl rfl 0 (by decide) (hg _ k_309) (fun _ h9 => h9) rfl hin rfl (by decide +kernel) rfl rfl (Nat.le_of_ble_eq_true rfl) d_Rq_init_15 (fun H locs hP hD hS => ?_)
  have hP : va_P (dC, dI) vcl [(h, .inr (4, [.ref dr, .ref q26])), (q26, .inl ((cT 0), 256, .inl (fun _ => 0)))] H := hP
  have hD : va_D A [(h, .inr (4, [.ref dr, .ref q26])), (q26, .inl ((cT 0), 256, .inl (fun _ => 0)))] := hD
  have hP9 := hP.sub (ws' := [(h, .inr (4, [.ref dr, .ref q26])), (q26, .inl ((cT 0), 256, .inl (fun _ => 0)))]) [0, 1] rfl
  have hD9 := hD.sub (ws' := [(h, .inr (4, [.ref dr, .ref q26])), (q26, .inl ((cT 0), 256, .inl (fun _ => 0)))]) [0, 1] (by decide) rfl
  exact W.vret hx hb hr (fun t ht hW => ⟨⟨q26, rfl, trivial, by rw [ht]; exact hP9, va_K.moved hW.alike hK, hD9⟩, hS.F ht⟩) hS.2.2 d_Rq_init_18
