theorem d_DS_requireWithin_10 : decode b_DS_requireWithin 10 = .ok (.new 182, 3) := by decide +kernel
theorem d_DS_requireWithin_13 : decode b_DS_requireWithin 13 = .ok (.dup, 1) := by decide +kernel
theorem d_DS_requireWithin_14 : decode b_DS_requireWithin 14 = .ok (.invokespecial 184, 3) := by decide +kernel
theorem d_DS_requireWithin_17 : decode b_DS_requireWithin 17 = .ok (.athrow, 1) := by decide +kernel
theorem d_DS_requireWithin_0 : decode b_DS_requireWithin 0 = .ok (.iload_n 0, 1) := by decide +kernel
theorem d_DS_requireWithin_1 : decode b_DS_requireWithin 1 = .ok (.iload_n 1, 1) := by decide +kernel
theorem d_DS_requireWithin_2 : decode b_DS_requireWithin 2 = .ok (.if_icmp .lt 8, 3) := by decide +kernel
theorem d_DS_requireWithin_5 : decode b_DS_requireWithin 5 = .ok (.iload_n 0, 1) := by decide +kernel
theorem d_DS_requireWithin_6 : decode b_DS_requireWithin 6 = .ok (.iload_n 2, 1) := by decide +kernel
theorem d_DS_requireWithin_7 : decode b_DS_requireWithin 7 = .ok (.if_icmp .le 11, 3) := by decide +kernel
theorem d_DS_requireByte_0 : decode b_DS_requireByte 0 = .ok (.iload_n 0, 1) := by decide +kernel
theorem d_DS_requireByte_1 : decode b_DS_requireByte 1 = .ok (.iconst 0, 1) := by decide +kernel
theorem d_DS_requireByte_2 : decode b_DS_requireByte 2 = .ok (.sipush 255, 3) := by decide +kernel
theorem d_DS_requireByte_5 : decode b_DS_requireByte 5 = .ok (.invokestatic 38, 3) := by decide +kernel
theorem d_DS_requireStation_0 : decode b_DS_requireStation 0 = .ok (.iload_n 0, 1) := by decide +kernel
theorem d_DS_requireStation_1 : decode b_DS_requireStation 1 = .ok (.iconst 0, 1) := by decide +kernel
theorem d_DS_requireStation_2 : decode b_DS_requireStation 2 = .ok (.iconst 3, 1) := by decide +kernel
theorem d_DS_requireStation_3 : decode b_DS_requireStation 3 = .ok (.invokestatic 38, 3) := by decide +kernel
theorem d_DS_requireUser_0 : decode b_DS_requireUser 0 = .ok (.iload_n 0, 1) := by decide +kernel
theorem d_DS_requireUser_1 : decode b_DS_requireUser 1 = .ok (.iconst 0, 1) := by decide +kernel
theorem d_DS_requireUser_2 : decode b_DS_requireUser 2 = .ok (.bipush 31, 2) := by decide +kernel
theorem d_DS_requireUser_4 : decode b_DS_requireUser 4 = .ok (.invokestatic 38, 3) := by decide +kernel
set_option maxHeartbeats 4000000 in
set_option maxRecDepth 100000 in
/-- requireWithin: out of bounds: it throws -/
theorem x_requireWithin (l : Launch) (hfl : l.flags = pinnedFlags ++ [noTraceFlag]) (v a z : Int32) (hbad : v < a ∨ z < v) : xk_T l y_DS_requireWithin (Cond.code y_DS_requireWithin b_DS_requireWithin 3 (Option.none : Option Jvm.ClassFile.FieldType) :: BIG) ({ frames := 6, cells := 1, slots := 6, locals := 81 }) (va_Pc [.int v, .int a, .int z] (fun U => xz_T (fun _ => False) U U.heap)) xz_IA := by
  refine xk_T.ofW (cc := b_DS_requireWithin) (maxL := 3) (ret := (Option.none : Option Jvm.ClassFile.FieldType)) (by decide) rfl ?_
  intro p e s m args below meth c s₁ B hml hv hno
  obtain ⟨rfl, hT⟩ := hv
  have hx := B.exec
  have hb := B.bytes
  have hts := atoms_spec (ws := (Cond.code y_DS_requireWithin b_DS_requireWithin 3 (Option.none : Option Jvm.ClassFile.FieldType) :: BIG)) B.pre
  have hg : ∀ w ∈ BIG, w.before _ s = true := fun w h => hts w (List.mem_cons_of_mem _ h)
  have hown : s.vm.findClass "DoorServer" = some m.cls := findClass_of_methodNamed B.named
  have hlocks := B.notSynchronized
  have htr := Launch.traces_off hfl B.admits
  have hl := lv_entry ([.int v, .int a, .int z]) (n := 3) (Nat.le_of_ble_eq_true rfl)
  rw [lg_entry_eq]
  generalize (lg_sl ([.int v, .int a, .int z]) ++ List.replicate (3 - (lg_sl ([.int v, .int a, .int z])).length) Slot.unset).toArray = ls at hl ⊢
  have hl : lv_has ls 3 [(0, .int v), (1, .int a), (2, .int z)] := hl
  have K10 : W p l e (headSpec (Cond.code y_DS_requireWithin b_DS_requireWithin 3 none :: BIG) { frames := 6, cells := 1, slots := 6, locals := 81 }).room s m #[.int v, .int a, .int z] below meth c s.heap [] 0 0 (xk_MQ below xz_IA s) (F0 m 10 ls []) := by
    refine W.newc hx hb hown (hg _ k_393) (hg _ k_394) (hg _ k_17) rfl d_DS_requireWithin_10 (Nat.le_of_ble_eq_true rfl) (Nat.le_of_ble_eq_true rfl) (fun cC kC h1 h2 h3 h4 => ?_)
    refine W.eq (g2 := F0 m 13 ls [.ref s.heap.size]) rfl ?_
    refine lv_dup hx hb d_DS_requireWithin_13 rfl ?_
    exact xk_throw (names := ["java/lang/RuntimeException", "java/lang/Exception"]) hx hb htr hown (by decide +kernel) (by decide +kernel) (xz_atoms hg hT (hg _ k_433)) h1 h2 (by simp) (Nat.le_refl _) (hl.1.trans hml.symm) d_DS_requireWithin_14 d_DS_requireWithin_17 (hno _) (Nat.le_of_ble_eq_true rfl) (Nat.le_of_ble_eq_true rfl) hlocks
  refine lv_iload_n hx hb d_DS_requireWithin_0 rfl (lv_at hl 0 rfl) ?_
  refine lv_iload_n hx hb d_DS_requireWithin_1 rfl (lv_at hl 1 rfl) ?_
  refine lv_icmp_lt (tgt := 10) hx hb d_DS_requireWithin_2 (by decide) (fun hc1 => ?_) (fun hc1 => ?_)
  · exact K10
  · refine lv_iload_n hx hb d_DS_requireWithin_5 rfl (lv_at hl 0 rfl) ?_
    refine lv_iload_n hx hb d_DS_requireWithin_6 rfl (lv_at hl 2 rfl) ?_
    refine lv_icmp_le (tgt := 18) hx hb d_DS_requireWithin_7 (by decide) (fun hc2 => ?_) (fun hc2 => ?_)
    · exact absurd hc2 (by rcases hbad with h | h <;> first | exact absurd h hc1 | exact Int32.not_le.mpr h)
    · exact K10
set_option maxHeartbeats 4000000 in
set_option maxRecDepth 100000 in
/-- requireByte: it throws -/
theorem x_requireByte (l : Launch) (hfl : l.flags = pinnedFlags ++ [noTraceFlag]) (v : Int32) (hbad : v < 0 ∨ 255 < v) : xk_T l y_DS_requireByte (Cond.code y_DS_requireByte b_DS_requireByte 1 (Option.none : Option Jvm.ClassFile.FieldType) :: BIG) ({ frames := 7, cells := 1, slots := 6, locals := 103 }) (va_Pc [.int v] (fun U => xz_T (fun _ => False) U U.heap)) xz_IA := by
  refine xk_T.ofW (cc := b_DS_requireByte) (maxL := 1) (ret := (Option.none : Option Jvm.ClassFile.FieldType)) (by decide) rfl ?_
  intro p e s m args below meth c s₁ B hml hv hno
  obtain ⟨rfl, hT⟩ := hv
  have hx := B.exec
  have hb := B.bytes
  have hts := atoms_spec (ws := (Cond.code y_DS_requireByte b_DS_requireByte 1 (Option.none : Option Jvm.ClassFile.FieldType) :: BIG)) B.pre
  have hg : ∀ w ∈ BIG, w.before _ s = true := fun w h => hts w (List.mem_cons_of_mem _ h)
  have hown : s.vm.findClass "DoorServer" = some m.cls := findClass_of_methodNamed B.named
  have hlocks := B.notSynchronized
  have htr := Launch.traces_off hfl B.admits
  have hl := lv_entry ([.int v]) (n := 1) (Nat.le_of_ble_eq_true rfl)
  rw [lg_entry_eq]
  generalize (lg_sl ([.int v]) ++ List.replicate (1 - (lg_sl ([.int v])).length) Slot.unset).toArray = ls at hl ⊢
  have hl : lv_has ls 1 [(0, .int v)] := hl
  refine lv_iload_n hx hb d_DS_requireByte_0 rfl (lv_at hl 0 rfl) ?_
  refine lv_iconst (v := 0) hx hb d_DS_requireByte_1 (by decide) ?_
  refine lv_sipush (v := 255) hx hb d_DS_requireByte_2 (by decide) ?_
  refine xk_callS (As := [.int v, .int 0, .int 255]) (rest := []) ⟨hx, hb, hml, hown, hg⟩ (x_requireWithin l hfl v 0 255 hbad) (va_cwS 3 hg (gI (List.forall_mem_append.mpr ⟨List.forall_mem_cons.mpr ⟨k_390, List.forall_mem_cons.mpr ⟨k_391, List.forall_mem_cons.mpr ⟨k_1, fun _ h => absurd h List.not_mem_nil⟩⟩⟩, List.forall_mem_cons.mpr ⟨k_392, fun _ h => h⟩⟩)) rfl rfl rfl (by decide +kernel) ⟨Nat.le_of_ble_eq_true rfl, Nat.le_of_ble_eq_true rfl⟩) ⟨fun a U g mk q => ?_, fun U hU hW => ⟨rfl, ?_⟩⟩ rfl hl.1 rfl (by decide) d_DS_requireByte_5 ⟨Nat.le_of_ble_eq_true rfl, Nat.le_of_ble_eq_true rfl⟩ (xk_out (hno _) hlocks rfl)
  · obtain ⟨q0, q1⟩ := q
    exact ⟨q0, q1.at (State.WarmedH.refl _) (fun _ _ _ => rfl) (fun _ h => h)⟩
  · show xz_T _ U U.heap; rw [hU]; exact hT.at hW (fun _ _ _ => rfl) (fun _ h => h)
set_option maxHeartbeats 4000000 in
set_option maxRecDepth 100000 in
/-- requireStation: it throws -/
theorem x_requireStation (l : Launch) (hfl : l.flags = pinnedFlags ++ [noTraceFlag]) (v : Int32) (hbad : v < 0 ∨ 3 < v) : xk_T l y_DS_requireStation (Cond.code y_DS_requireStation b_DS_requireStation 1 (Option.none : Option Jvm.ClassFile.FieldType) :: BIG) ({ frames := 7, cells := 1, slots := 6, locals := 103 }) (va_Pc [.int v] (fun U => xz_T (fun _ => False) U U.heap)) xz_IA := by
  refine xk_T.ofW (cc := b_DS_requireStation) (maxL := 1) (ret := (Option.none : Option Jvm.ClassFile.FieldType)) (by decide) rfl ?_
  intro p e s m args below meth c s₁ B hml hv hno
  obtain ⟨rfl, hT⟩ := hv
  have hx := B.exec
  have hb := B.bytes
  have hts := atoms_spec (ws := (Cond.code y_DS_requireStation b_DS_requireStation 1 (Option.none : Option Jvm.ClassFile.FieldType) :: BIG)) B.pre
  have hg : ∀ w ∈ BIG, w.before _ s = true := fun w h => hts w (List.mem_cons_of_mem _ h)
  have hown : s.vm.findClass "DoorServer" = some m.cls := findClass_of_methodNamed B.named
  have hlocks := B.notSynchronized
  have htr := Launch.traces_off hfl B.admits
  have hl := lv_entry ([.int v]) (n := 1) (Nat.le_of_ble_eq_true rfl)
  rw [lg_entry_eq]
  generalize (lg_sl ([.int v]) ++ List.replicate (1 - (lg_sl ([.int v])).length) Slot.unset).toArray = ls at hl ⊢
  have hl : lv_has ls 1 [(0, .int v)] := hl
  refine lv_iload_n hx hb d_DS_requireStation_0 rfl (lv_at hl 0 rfl) ?_
  refine lv_iconst (v := 0) hx hb d_DS_requireStation_1 (by decide) ?_
  refine lv_iconst (v := 3) hx hb d_DS_requireStation_2 (by decide) ?_
  refine xk_callS (As := [.int v, .int 0, .int 3]) (rest := []) ⟨hx, hb, hml, hown, hg⟩ (x_requireWithin l hfl v 0 3 hbad) (va_cwS 3 hg (gI (List.forall_mem_append.mpr ⟨List.forall_mem_cons.mpr ⟨k_390, List.forall_mem_cons.mpr ⟨k_391, List.forall_mem_cons.mpr ⟨k_1, fun _ h => absurd h List.not_mem_nil⟩⟩⟩, List.forall_mem_cons.mpr ⟨k_392, fun _ h => h⟩⟩)) rfl rfl rfl (by decide +kernel) ⟨Nat.le_of_ble_eq_true rfl, Nat.le_of_ble_eq_true rfl⟩) ⟨fun a U g mk q => ?_, fun U hU hW => ⟨rfl, ?_⟩⟩ rfl hl.1 rfl (by decide) d_DS_requireStation_3 ⟨Nat.le_of_ble_eq_true rfl, Nat.le_of_ble_eq_true rfl⟩ (xk_out (hno _) hlocks rfl)
  · obtain ⟨q0, q1⟩ := q
    exact ⟨q0, q1.at (State.WarmedH.refl _) (fun _ _ _ => rfl) (fun _ h => h)⟩
  · show xz_T _ U U.heap; rw [hU]; exact hT.at hW (fun _ _ _ => rfl) (fun _ h => h)
set_option maxHeartbeats 4000000 in
set_option maxRecDepth 100000 in
/-- requireUser: it throws -/
theorem x_requireUser (l : Launch) (hfl : l.flags = pinnedFlags ++ [noTraceFlag]) (v : Int32) (hbad : v < 0 ∨ 31 < v) : xk_T l y_DS_requireUser (Cond.code y_DS_requireUser b_DS_requireUser 1 (Option.none : Option Jvm.ClassFile.FieldType) :: BIG) ({ frames := 7, cells := 1, slots := 6, locals := 103 }) (va_Pc [.int v] (fun U => xz_T (fun _ => False) U U.heap)) xz_IA := by
  refine xk_T.ofW (cc := b_DS_requireUser) (maxL := 1) (ret := (Option.none : Option Jvm.ClassFile.FieldType)) (by decide) rfl ?_
  intro p e s m args below meth c s₁ B hml hv hno
  obtain ⟨rfl, hT⟩ := hv
  have hx := B.exec
  have hb := B.bytes
  have hts := atoms_spec (ws := (Cond.code y_DS_requireUser b_DS_requireUser 1 (Option.none : Option Jvm.ClassFile.FieldType) :: BIG)) B.pre
  have hg : ∀ w ∈ BIG, w.before _ s = true := fun w h => hts w (List.mem_cons_of_mem _ h)
  have hown : s.vm.findClass "DoorServer" = some m.cls := findClass_of_methodNamed B.named
  have hlocks := B.notSynchronized
  have htr := Launch.traces_off hfl B.admits
  have hl := lv_entry ([.int v]) (n := 1) (Nat.le_of_ble_eq_true rfl)
  rw [lg_entry_eq]
  generalize (lg_sl ([.int v]) ++ List.replicate (1 - (lg_sl ([.int v])).length) Slot.unset).toArray = ls at hl ⊢
  have hl : lv_has ls 1 [(0, .int v)] := hl
  refine lv_iload_n hx hb d_DS_requireUser_0 rfl (lv_at hl 0 rfl) ?_
  refine lv_iconst (v := 0) hx hb d_DS_requireUser_1 (by decide) ?_
  refine lv_bipush (v := 31) hx hb d_DS_requireUser_2 (by decide) ?_
  refine xk_callS (As := [.int v, .int 0, .int 31]) (rest := []) ⟨hx, hb, hml, hown, hg⟩ (x_requireWithin l hfl v 0 31 hbad) (va_cwS 3 hg (gI (List.forall_mem_append.mpr ⟨List.forall_mem_cons.mpr ⟨k_390, List.forall_mem_cons.mpr ⟨k_391, List.forall_mem_cons.mpr ⟨k_1, fun _ h => absurd h List.not_mem_nil⟩⟩⟩, List.forall_mem_cons.mpr ⟨k_392, fun _ h => h⟩⟩)) rfl rfl rfl (by decide +kernel) ⟨Nat.le_of_ble_eq_true rfl, Nat.le_of_ble_eq_true rfl⟩) ⟨fun a U g mk q => ?_, fun U hU hW => ⟨rfl, ?_⟩⟩ rfl hl.1 rfl (by decide) d_DS_requireUser_4 ⟨Nat.le_of_ble_eq_true rfl, Nat.le_of_ble_eq_true rfl⟩ (xk_out (hno _) hlocks rfl)
  · obtain ⟨q0, q1⟩ := q
    exact ⟨q0, q1.at (State.WarmedH.refl _) (fun _ _ _ => rfl) (fun _ h => h)⟩
  · show xz_T _ U U.heap; rw [hU]; exact hT.at hW (fun _ _ _ => rfl) (fun _ h => h)
