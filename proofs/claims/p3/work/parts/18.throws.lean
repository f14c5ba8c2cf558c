theorem d_DS_record_147 : decode b_DS_record 147 = .ok (.new 182, 3) := by decide +kernel
theorem d_DS_record_150 : decode b_DS_record 150 = .ok (.dup, 1) := by decide +kernel
theorem d_DS_record_151 : decode b_DS_record 151 = .ok (.invokespecial 184, 3) := by decide +kernel
theorem d_DS_record_154 : decode b_DS_record 154 = .ok (.athrow, 1) := by decide +kernel
theorem d_DS_count_97 : decode b_DS_count 97 = .ok (.new 182, 3) := by decide +kernel
theorem d_DS_count_100 : decode b_DS_count 100 = .ok (.dup, 1) := by decide +kernel
theorem d_DS_count_101 : decode b_DS_count 101 = .ok (.invokespecial 184, 3) := by decide +kernel
theorem d_DS_count_104 : decode b_DS_count 104 = .ok (.athrow, 1) := by decide +kernel
section XO
variable {p : Program} {l : Launch} {e : Env} {R : Room} {s : State} {m : MethodId} {args : Array Value} {below : List Frame} {meth : Method} {c : Code} {H : Heap}
/-- out of a method that has changed no old cell and has no handler there -/
theorem xk_out2 {cls : String} {pc : Nat} {ls : Array Slot} {st : List Value} (hout : ∀ x ∈ c.exceptionTable.toList, covers x pc = false) (hlocks : meth.locks = false) (hH : s.heap.size ≤ H.size) :
    xk_W p l e R s m args below meth c H [] 1 6 (xk_MQ below cls s) cls (F0 m pc ls st) := by
  intro x T X hx hIs hle hq
  obtain ⟨h1, h2, h3, h4, h5⟩ := X.leaveThrown x (g := F0 m pc ls st) rfl rfl rfl hout hlocks
  exact ⟨_, h1, .threw x, h2, h3, x, rfl, Nat.le_trans hH hx, hIs, ⟨x, rfl⟩, h4, h5⟩
end XO
theorem xk_none (x : Int32) : x < 0 ∨ -1 < x := by
  by_cases h : x < 0
  · exact Or.inl h
  · refine Or.inr ?_
    rw [Int32.lt_iff_toInt_lt] at h ⊢
    have h0 : (0 : Int32).toInt = 0 := by decide
    have h1 : (-1 : Int32).toInt = -1 := by decide
    omega
set_option maxHeartbeats 4000000 in
set_option maxRecDepth 100000 in
/-- number throws -/
theorem x_number (l : Launch) (hfl : l.flags = pinnedFlags ++ [noTraceFlag]) (dC : Nat → ClassId) (dI : Nat → Nat → Nat) (cT : Nat → ClassId) (ds : Nat) (x : Int32) (y : Int32) (hbad : x < 0 ∨ 255 < x) : xk_T l y_DS_number (Cond.code y_DS_number b_DS_number 3 (Option.some Jvm.ClassFile.FieldType.int) :: BIG) ({ frames := 8, cells := 1, slots := 6, locals := 123 }) (va_Pc [.ref ds, .int x, .int y] (fun U => xz_T (fun _ => False) U U.heap ∧ va_P (dC, dI) vcl [] U.heap ∧ va_K (dC, dI) vcl (tyL cT) U)) xz_IA := by
  refine xk_T.ofW (cc := b_DS_number) (maxL := 3) (ret := (Option.some Jvm.ClassFile.FieldType.int)) (by decide) rfl ?_
  intro p e s m args below meth c s₁ B hml hv hno
  obtain ⟨hargs, hT, hP, hK⟩ := hv
  have hx := B.exec
  have hb := B.bytes
  have hts := atoms_spec (ws := (Cond.code y_DS_number b_DS_number 3 (Option.some Jvm.ClassFile.FieldType.int) :: BIG)) B.pre
  have hg : ∀ w ∈ BIG, w.before _ s = true := fun w h => hts w (List.mem_cons_of_mem _ h)
  have hown : s.vm.findClass "DoorServer" = some m.cls := findClass_of_methodNamed B.named
  have hlocks := B.notSynchronized
  have htr := Launch.traces_off hfl B.admits
  obtain ⟨A, hAe⟩ : ∃ A : Nat → Prop, A = fun q => s.heap.size ≤ q := ⟨_, rfl⟩
  have hA : ∀ q : Nat, s.heap.size ≤ q → A q := fun q h => by rw [hAe]; exact h
  have hS : va_S A s.heap s.heap [] := va_S.rf
  have hD : va_D A [] := ⟨fun i j p q h => by simp at h, fun k q h => by simp at h⟩
  have hl := lv_entry ([.ref ds, .int x, .int y]) (n := 3) (Nat.le_of_ble_eq_true rfl)
  refine W.eq (g2 := entryFrame m (List.toArray [.ref ds, .int x, .int y]) 3) (by rw [hargs]) ?_
  rw [lg_entry_eq]
  generalize (lg_sl ([.ref ds, .int x, .int y]) ++ List.replicate (3 - (lg_sl ([.ref ds, .int x, .int y])).length) Slot.unset).toArray = ls at hl ⊢
  have hl : lv_has ls 3 [(0, .ref ds), (1, .int x), (2, .int y)] := hl
  change W p l e ({ frames := 8, cells := 1, slots := 6, locals := 123 } : Room) s m args below meth c s.heap [] 0 0 _ _
  have hP : va_P (dC, dI) vcl [] s.heap := hP
  refine lv_iload_n hx hb d_DS_number_0 rfl (lv_at hl 1 rfl) ?_
  refine xk_callS (As := [.int x]) (rest := []) ⟨hx, hb, hml, hown, hg⟩ (x_requireByte l hfl x (hbad)) (va_cwS 1 hg (gI (List.forall_mem_append.mpr ⟨List.forall_mem_cons.mpr ⟨k_489, List.forall_mem_cons.mpr ⟨k_490, List.forall_mem_cons.mpr ⟨k_1, fun _ h => absurd h List.not_mem_nil⟩⟩⟩, List.forall_mem_cons.mpr ⟨k_491, fun _ h => h⟩⟩)) rfl rfl rfl (by decide +kernel) ⟨Nat.le_of_ble_eq_true rfl, Nat.le_of_ble_eq_true rfl⟩) ⟨fun a U g mk q => ?_, fun U hU hW => ⟨rfl, ?_⟩⟩ rfl hl.1 rfl (by decide) d_DS_number_1 ⟨Nat.le_of_ble_eq_true rfl, Nat.le_of_ble_eq_true rfl⟩ (xk_out2 (hno _) hlocks hS.1)
  · obtain ⟨q0, q1⟩ := q
    exact ⟨q0, q1.at (State.WarmedH.refl _) (fun _ _ _ => rfl) (fun _ h => h)⟩
  · show xz_T _ U U.heap; rw [hU]; exact hT.at hW (fun a h1 _ => hS.2.1 a h1 (by rw [hAe]; exact Nat.not_le.mpr h1)) (fun _ h => h)
set_option maxHeartbeats 4000000 in
set_option maxRecDepth 100000 in
/-- name throws -/
theorem x_name (l : Launch) (hfl : l.flags = pinnedFlags ++ [noTraceFlag]) (dC : Nat → ClassId) (dI : Nat → Nat → Nat) (cT : Nat → ClassId) (ds : Nat) (x : Int32) (hbad : x < 0 ∨ 31 < x) : xk_T l y_DS_name (Cond.code y_DS_name b_DS_name 2 (Option.some Jvm.ClassFile.FieldType.int) :: BIG) ({ frames := 8, cells := 1, slots := 6, locals := 123 }) (va_Pc [.ref ds, .int x] (fun U => xz_T (fun _ => False) U U.heap ∧ va_P (dC, dI) vcl [] U.heap ∧ va_K (dC, dI) vcl (tyL cT) U)) xz_IA := by
  refine xk_T.ofW (cc := b_DS_name) (maxL := 2) (ret := (Option.some Jvm.ClassFile.FieldType.int)) (by decide) rfl ?_
  intro p e s m args below meth c s₁ B hml hv hno
  obtain ⟨hargs, hT, hP, hK⟩ := hv
  have hx := B.exec
  have hb := B.bytes
  have hts := atoms_spec (ws := (Cond.code y_DS_name b_DS_name 2 (Option.some Jvm.ClassFile.FieldType.int) :: BIG)) B.pre
  have hg : ∀ w ∈ BIG, w.before _ s = true := fun w h => hts w (List.mem_cons_of_mem _ h)
  have hown : s.vm.findClass "DoorServer" = some m.cls := findClass_of_methodNamed B.named
  have hlocks := B.notSynchronized
  have htr := Launch.traces_off hfl B.admits
  obtain ⟨A, hAe⟩ : ∃ A : Nat → Prop, A = fun q => s.heap.size ≤ q := ⟨_, rfl⟩
  have hA : ∀ q : Nat, s.heap.size ≤ q → A q := fun q h => by rw [hAe]; exact h
  have hS : va_S A s.heap s.heap [] := va_S.rf
  have hD : va_D A [] := ⟨fun i j p q h => by simp at h, fun k q h => by simp at h⟩
  have hl := lv_entry ([.ref ds, .int x]) (n := 2) (Nat.le_of_ble_eq_true rfl)
  refine W.eq (g2 := entryFrame m (List.toArray [.ref ds, .int x]) 2) (by rw [hargs]) ?_
  rw [lg_entry_eq]
  generalize (lg_sl ([.ref ds, .int x]) ++ List.replicate (2 - (lg_sl ([.ref ds, .int x])).length) Slot.unset).toArray = ls at hl ⊢
  have hl : lv_has ls 2 [(0, .ref ds), (1, .int x)] := hl
  change W p l e ({ frames := 8, cells := 1, slots := 6, locals := 123 } : Room) s m args below meth c s.heap [] 0 0 _ _
  have hP : va_P (dC, dI) vcl [] s.heap := hP
  refine lv_iload_n hx hb d_DS_name_0 rfl (lv_at hl 1 rfl) ?_
  refine xk_callS (As := [.int x]) (rest := []) ⟨hx, hb, hml, hown, hg⟩ (x_requireUser l hfl x (hbad)) (va_cwS 1 hg (gI (List.forall_mem_append.mpr ⟨List.forall_mem_cons.mpr ⟨k_475, List.forall_mem_cons.mpr ⟨k_476, List.forall_mem_cons.mpr ⟨k_1, fun _ h => absurd h List.not_mem_nil⟩⟩⟩, List.forall_mem_cons.mpr ⟨k_477, fun _ h => h⟩⟩)) rfl rfl rfl (by decide +kernel) ⟨Nat.le_of_ble_eq_true rfl, Nat.le_of_ble_eq_true rfl⟩) ⟨fun a U g mk q => ?_, fun U hU hW => ⟨rfl, ?_⟩⟩ rfl hl.1 rfl (by decide) d_DS_name_1 ⟨Nat.le_of_ble_eq_true rfl, Nat.le_of_ble_eq_true rfl⟩ (xk_out2 (hno _) hlocks hS.1)
  · obtain ⟨q0, q1⟩ := q
    exact ⟨q0, q1.at (State.WarmedH.refl _) (fun _ _ _ => rfl) (fun _ h => h)⟩
  · show xz_T _ U U.heap; rw [hU]; exact hT.at hW (fun a h1 _ => hS.2.1 a h1 (by rw [hAe]; exact Nat.not_le.mpr h1)) (fun _ h => h)
set_option maxHeartbeats 4000000 in
set_option maxRecDepth 100000 in
/-- hello throws -/
theorem x_hello (l : Launch) (hfl : l.flags = pinnedFlags ++ [noTraceFlag]) (dC : Nat → ClassId) (dI : Nat → Nat → Nat) (cT : Nat → ClassId) (ds : Nat) (x : Int32) (hbad : x < 0 ∨ 255 < x) : xk_T l y_DS_hello (Cond.code y_DS_hello b_DS_hello 2 (Option.some Jvm.ClassFile.FieldType.int) :: BIG) ({ frames := 8, cells := 1, slots := 6, locals := 123 }) (va_Pc [.ref ds, .int x] (fun U => xz_T (fun _ => False) U U.heap ∧ va_P (dC, dI) vcl [] U.heap ∧ va_K (dC, dI) vcl (tyL cT) U)) xz_IA := by
  refine xk_T.ofW (cc := b_DS_hello) (maxL := 2) (ret := (Option.some Jvm.ClassFile.FieldType.int)) (by decide) rfl ?_
  intro p e s m args below meth c s₁ B hml hv hno
  obtain ⟨hargs, hT, hP, hK⟩ := hv
  have hx := B.exec
  have hb := B.bytes
  have hts := atoms_spec (ws := (Cond.code y_DS_hello b_DS_hello 2 (Option.some Jvm.ClassFile.FieldType.int) :: BIG)) B.pre
  have hg : ∀ w ∈ BIG, w.before _ s = true := fun w h => hts w (List.mem_cons_of_mem _ h)
  have hown : s.vm.findClass "DoorServer" = some m.cls := findClass_of_methodNamed B.named
  have hlocks := B.notSynchronized
  have htr := Launch.traces_off hfl B.admits
  obtain ⟨A, hAe⟩ : ∃ A : Nat → Prop, A = fun q => s.heap.size ≤ q := ⟨_, rfl⟩
  have hA : ∀ q : Nat, s.heap.size ≤ q → A q := fun q h => by rw [hAe]; exact h
  have hS : va_S A s.heap s.heap [] := va_S.rf
  have hD : va_D A [] := ⟨fun i j p q h => by simp at h, fun k q h => by simp at h⟩
  have hl := lv_entry ([.ref ds, .int x]) (n := 2) (Nat.le_of_ble_eq_true rfl)
  refine W.eq (g2 := entryFrame m (List.toArray [.ref ds, .int x]) 2) (by rw [hargs]) ?_
  rw [lg_entry_eq]
  generalize (lg_sl ([.ref ds, .int x]) ++ List.replicate (2 - (lg_sl ([.ref ds, .int x])).length) Slot.unset).toArray = ls at hl ⊢
  have hl : lv_has ls 2 [(0, .ref ds), (1, .int x)] := hl
  change W p l e ({ frames := 8, cells := 1, slots := 6, locals := 123 } : Room) s m args below meth c s.heap [] 0 0 _ _
  have hP : va_P (dC, dI) vcl [] s.heap := hP
  refine lv_iload_n hx hb d_DS_hello_0 rfl (lv_at hl 1 rfl) ?_
  refine xk_callS (As := [.int x]) (rest := []) ⟨hx, hb, hml, hown, hg⟩ (x_requireByte l hfl x (hbad)) (va_cwS 1 hg (gI (List.forall_mem_append.mpr ⟨List.forall_mem_cons.mpr ⟨k_489, List.forall_mem_cons.mpr ⟨k_490, List.forall_mem_cons.mpr ⟨k_1, fun _ h => absurd h List.not_mem_nil⟩⟩⟩, List.forall_mem_cons.mpr ⟨k_491, fun _ h => h⟩⟩)) rfl rfl rfl (by decide +kernel) ⟨Nat.le_of_ble_eq_true rfl, Nat.le_of_ble_eq_true rfl⟩) ⟨fun a U g mk q => ?_, fun U hU hW => ⟨rfl, ?_⟩⟩ rfl hl.1 rfl (by decide) d_DS_hello_1 ⟨Nat.le_of_ble_eq_true rfl, Nat.le_of_ble_eq_true rfl⟩ (xk_out2 (hno _) hlocks hS.1)
  · obtain ⟨q0, q1⟩ := q
    exact ⟨q0, q1.at (State.WarmedH.refl _) (fun _ _ _ => rfl) (fun _ h => h)⟩
  · show xz_T _ U U.heap; rw [hU]; exact hT.at hW (fun a h1 _ => hS.2.1 a h1 (by rw [hAe]; exact Nat.not_le.mpr h1)) (fun _ h => h)
set_option maxHeartbeats 4000000 in
set_option maxRecDepth 100000 in
/-- prove throws -/
theorem x_prove (l : Launch) (hfl : l.flags = pinnedFlags ++ [noTraceFlag]) (dC : Nat → ClassId) (dI : Nat → Nat → Nat) (cT : Nat → ClassId) (ds : Nat) (x : Int32) (hbad : x < 0 ∨ 3 < x) : xk_T l y_DS_prove (Cond.code y_DS_prove b_DS_prove 3 (Option.some Jvm.ClassFile.FieldType.int) :: BIG) ({ frames := 8, cells := 1, slots := 6, locals := 123 }) (va_Pc [.ref ds, .int x] (fun U => xz_T (fun _ => False) U U.heap ∧ va_P (dC, dI) vcl [] U.heap ∧ va_K (dC, dI) vcl (tyL cT) U)) xz_IA := by
  refine xk_T.ofW (cc := b_DS_prove) (maxL := 3) (ret := (Option.some Jvm.ClassFile.FieldType.int)) (by decide) rfl ?_
  intro p e s m args below meth c s₁ B hml hv hno
  obtain ⟨hargs, hT, hP, hK⟩ := hv
  have hx := B.exec
  have hb := B.bytes
  have hts := atoms_spec (ws := (Cond.code y_DS_prove b_DS_prove 3 (Option.some Jvm.ClassFile.FieldType.int) :: BIG)) B.pre
  have hg : ∀ w ∈ BIG, w.before _ s = true := fun w h => hts w (List.mem_cons_of_mem _ h)
  have hown : s.vm.findClass "DoorServer" = some m.cls := findClass_of_methodNamed B.named
  have hlocks := B.notSynchronized
  have htr := Launch.traces_off hfl B.admits
  obtain ⟨A, hAe⟩ : ∃ A : Nat → Prop, A = fun q => s.heap.size ≤ q := ⟨_, rfl⟩
  have hA : ∀ q : Nat, s.heap.size ≤ q → A q := fun q h => by rw [hAe]; exact h
  have hS : va_S A s.heap s.heap [] := va_S.rf
  have hD : va_D A [] := ⟨fun i j p q h => by simp at h, fun k q h => by simp at h⟩
  have hl := lv_entry ([.ref ds, .int x]) (n := 3) (Nat.le_of_ble_eq_true rfl)
  refine W.eq (g2 := entryFrame m (List.toArray [.ref ds, .int x]) 3) (by rw [hargs]) ?_
  rw [lg_entry_eq]
  generalize (lg_sl ([.ref ds, .int x]) ++ List.replicate (3 - (lg_sl ([.ref ds, .int x])).length) Slot.unset).toArray = ls at hl ⊢
  have hl : lv_has ls 3 [(0, .ref ds), (1, .int x)] := hl
  change W p l e ({ frames := 8, cells := 1, slots := 6, locals := 123 } : Room) s m args below meth c s.heap [] 0 0 _ _
  have hP : va_P (dC, dI) vcl [] s.heap := hP
  refine lv_iload_n hx hb d_DS_prove_0 rfl (lv_at hl 1 rfl) ?_
  refine xk_callS (As := [.int x]) (rest := []) ⟨hx, hb, hml, hown, hg⟩ (x_requireStation l hfl x (hbad)) (va_cwS 1 hg (gI (List.forall_mem_append.mpr ⟨List.forall_mem_cons.mpr ⟨k_387, List.forall_mem_cons.mpr ⟨k_388, List.forall_mem_cons.mpr ⟨k_1, fun _ h => absurd h List.not_mem_nil⟩⟩⟩, List.forall_mem_cons.mpr ⟨k_389, fun _ h => h⟩⟩)) rfl rfl rfl (by decide +kernel) ⟨Nat.le_of_ble_eq_true rfl, Nat.le_of_ble_eq_true rfl⟩) ⟨fun a U g mk q => ?_, fun U hU hW => ⟨rfl, ?_⟩⟩ rfl hl.1 rfl (by decide) d_DS_prove_1 ⟨Nat.le_of_ble_eq_true rfl, Nat.le_of_ble_eq_true rfl⟩ (xk_out2 (hno _) hlocks hS.1)
  · obtain ⟨q0, q1⟩ := q
    exact ⟨q0, q1.at (State.WarmedH.refl _) (fun _ _ _ => rfl) (fun _ h => h)⟩
  · show xz_T _ U U.heap; rw [hU]; exact hT.at hW (fun a h1 _ => hS.2.1 a h1 (by rw [hAe]; exact Nat.not_le.mpr h1)) (fun _ h => h)
set_option maxHeartbeats 4000000 in
set_option maxRecDepth 100000 in
/-- seal throws -/
theorem x_seal (l : Launch) (hfl : l.flags = pinnedFlags ++ [noTraceFlag]) (dC : Nat → ClassId) (dI : Nat → Nat → Nat) (cT : Nat → ClassId) (ds : Nat) (x : Int32) (hbad : x < 0 ∨ 3 < x) : xk_T l y_DS_seal (Cond.code y_DS_seal b_DS_seal 2 (Option.none : Option Jvm.ClassFile.FieldType) :: BIG) ({ frames := 8, cells := 1, slots := 6, locals := 123 }) (va_Pc [.ref ds, .int x] (fun U => xz_T (fun _ => False) U U.heap ∧ va_P (dC, dI) vcl [] U.heap ∧ va_K (dC, dI) vcl (tyL cT) U)) xz_IA := by
  refine xk_T.ofW (cc := b_DS_seal) (maxL := 2) (ret := (Option.none : Option Jvm.ClassFile.FieldType)) (by decide) rfl ?_
  intro p e s m args below meth c s₁ B hml hv hno
  obtain ⟨hargs, hT, hP, hK⟩ := hv
  have hx := B.exec
  have hb := B.bytes
  have hts := atoms_spec (ws := (Cond.code y_DS_seal b_DS_seal 2 (Option.none : Option Jvm.ClassFile.FieldType) :: BIG)) B.pre
  have hg : ∀ w ∈ BIG, w.before _ s = true := fun w h => hts w (List.mem_cons_of_mem _ h)
  have hown : s.vm.findClass "DoorServer" = some m.cls := findClass_of_methodNamed B.named
  have hlocks := B.notSynchronized
  have htr := Launch.traces_off hfl B.admits
  obtain ⟨A, hAe⟩ : ∃ A : Nat → Prop, A = fun q => s.heap.size ≤ q := ⟨_, rfl⟩
  have hA : ∀ q : Nat, s.heap.size ≤ q → A q := fun q h => by rw [hAe]; exact h
  have hS : va_S A s.heap s.heap [] := va_S.rf
  have hD : va_D A [] := ⟨fun i j p q h => by simp at h, fun k q h => by simp at h⟩
  have hl := lv_entry ([.ref ds, .int x]) (n := 2) (Nat.le_of_ble_eq_true rfl)
  refine W.eq (g2 := entryFrame m (List.toArray [.ref ds, .int x]) 2) (by rw [hargs]) ?_
  rw [lg_entry_eq]
  generalize (lg_sl ([.ref ds, .int x]) ++ List.replicate (2 - (lg_sl ([.ref ds, .int x])).length) Slot.unset).toArray = ls at hl ⊢
  have hl : lv_has ls 2 [(0, .ref ds), (1, .int x)] := hl
  change W p l e ({ frames := 8, cells := 1, slots := 6, locals := 123 } : Room) s m args below meth c s.heap [] 0 0 _ _
  have hP : va_P (dC, dI) vcl [] s.heap := hP
  refine lv_iload_n hx hb d_DS_seal_0 rfl (lv_at hl 1 rfl) ?_
  refine xk_callS (As := [.int x]) (rest := []) ⟨hx, hb, hml, hown, hg⟩ (x_requireStation l hfl x (hbad)) (va_cwS 1 hg (gI (List.forall_mem_append.mpr ⟨List.forall_mem_cons.mpr ⟨k_387, List.forall_mem_cons.mpr ⟨k_388, List.forall_mem_cons.mpr ⟨k_1, fun _ h => absurd h List.not_mem_nil⟩⟩⟩, List.forall_mem_cons.mpr ⟨k_389, fun _ h => h⟩⟩)) rfl rfl rfl (by decide +kernel) ⟨Nat.le_of_ble_eq_true rfl, Nat.le_of_ble_eq_true rfl⟩) ⟨fun a U g mk q => ?_, fun U hU hW => ⟨rfl, ?_⟩⟩ rfl hl.1 rfl (by decide) d_DS_seal_1 ⟨Nat.le_of_ble_eq_true rfl, Nat.le_of_ble_eq_true rfl⟩ (xk_out2 (hno _) hlocks hS.1)
  · obtain ⟨q0, q1⟩ := q
    exact ⟨q0, q1.at (State.WarmedH.refl _) (fun _ _ _ => rfl) (fun _ h => h)⟩
  · show xz_T _ U U.heap; rw [hU]; exact hT.at hW (fun a h1 _ => hS.2.1 a h1 (by rw [hAe]; exact Nat.not_le.mpr h1)) (fun _ h => h)
set_option maxHeartbeats 4000000 in
set_option maxRecDepth 100000 in
/-- send throws -/
theorem x_send (l : Launch) (hfl : l.flags = pinnedFlags ++ [noTraceFlag]) (dC : Nat → ClassId) (dI : Nat → Nat → Nat) (cT : Nat → ClassId) (ds : Nat) (x : Int32) (hbad : x < 0 ∨ 3 < x) : xk_T l y_DS_send (Cond.code y_DS_send b_DS_send 2 (Option.some Jvm.ClassFile.FieldType.int) :: BIG) ({ frames := 8, cells := 1, slots := 6, locals := 123 }) (va_Pc [.ref ds, .int x] (fun U => xz_T (fun _ => False) U U.heap ∧ va_P (dC, dI) vcl [] U.heap ∧ va_K (dC, dI) vcl (tyL cT) U)) xz_IA := by
  refine xk_T.ofW (cc := b_DS_send) (maxL := 2) (ret := (Option.some Jvm.ClassFile.FieldType.int)) (by decide) rfl ?_
  intro p e s m args below meth c s₁ B hml hv hno
  obtain ⟨hargs, hT, hP, hK⟩ := hv
  have hx := B.exec
  have hb := B.bytes
  have hts := atoms_spec (ws := (Cond.code y_DS_send b_DS_send 2 (Option.some Jvm.ClassFile.FieldType.int) :: BIG)) B.pre
  have hg : ∀ w ∈ BIG, w.before _ s = true := fun w h => hts w (List.mem_cons_of_mem _ h)
  have hown : s.vm.findClass "DoorServer" = some m.cls := findClass_of_methodNamed B.named
  have hlocks := B.notSynchronized
  have htr := Launch.traces_off hfl B.admits
  obtain ⟨A, hAe⟩ : ∃ A : Nat → Prop, A = fun q => s.heap.size ≤ q := ⟨_, rfl⟩
  have hA : ∀ q : Nat, s.heap.size ≤ q → A q := fun q h => by rw [hAe]; exact h
  have hS : va_S A s.heap s.heap [] := va_S.rf
  have hD : va_D A [] := ⟨fun i j p q h => by simp at h, fun k q h => by simp at h⟩
  have hl := lv_entry ([.ref ds, .int x]) (n := 2) (Nat.le_of_ble_eq_true rfl)
  refine W.eq (g2 := entryFrame m (List.toArray [.ref ds, .int x]) 2) (by rw [hargs]) ?_
  rw [lg_entry_eq]
  generalize (lg_sl ([.ref ds, .int x]) ++ List.replicate (2 - (lg_sl ([.ref ds, .int x])).length) Slot.unset).toArray = ls at hl ⊢
  have hl : lv_has ls 2 [(0, .ref ds), (1, .int x)] := hl
  change W p l e ({ frames := 8, cells := 1, slots := 6, locals := 123 } : Room) s m args below meth c s.heap [] 0 0 _ _
  have hP : va_P (dC, dI) vcl [] s.heap := hP
  refine lv_iload_n hx hb d_DS_send_0 rfl (lv_at hl 1 rfl) ?_
  refine xk_callS (As := [.int x]) (rest := []) ⟨hx, hb, hml, hown, hg⟩ (x_requireStation l hfl x (hbad)) (va_cwS 1 hg (gI (List.forall_mem_append.mpr ⟨List.forall_mem_cons.mpr ⟨k_387, List.forall_mem_cons.mpr ⟨k_388, List.forall_mem_cons.mpr ⟨k_1, fun _ h => absurd h List.not_mem_nil⟩⟩⟩, List.forall_mem_cons.mpr ⟨k_389, fun _ h => h⟩⟩)) rfl rfl rfl (by decide +kernel) ⟨Nat.le_of_ble_eq_true rfl, Nat.le_of_ble_eq_true rfl⟩) ⟨fun a U g mk q => ?_, fun U hU hW => ⟨rfl, ?_⟩⟩ rfl hl.1 rfl (by decide) d_DS_send_1 ⟨Nat.le_of_ble_eq_true rfl, Nat.le_of_ble_eq_true rfl⟩ (xk_out2 (hno _) hlocks hS.1)
  · obtain ⟨q0, q1⟩ := q
    exact ⟨q0, q1.at (State.WarmedH.refl _) (fun _ _ _ => rfl) (fun _ h => h)⟩
  · show xz_T _ U U.heap; rw [hU]; exact hT.at hW (fun a h1 _ => hS.2.1 a h1 (by rw [hAe]; exact Nat.not_le.mpr h1)) (fun _ h => h)
set_option maxHeartbeats 4000000 in
set_option maxRecDepth 100000 in
/-- secret throws -/
theorem x_secret1 (l : Launch) (hfl : l.flags = pinnedFlags ++ [noTraceFlag]) (dC : Nat → ClassId) (dI : Nat → Nat → Nat) (cT : Nat → ClassId) (ds : Nat) (x : Int32) (v : Int64) (y : Int32) (hbad : x < 0 ∨ 3 < x) : xk_T l y_DS_secret (Cond.code y_DS_secret b_DS_secret 5 (Option.none : Option Jvm.ClassFile.FieldType) :: BIG) ({ frames := 8, cells := 1, slots := 6, locals := 123 }) (va_Pc [.ref ds, .int x, .long v, .int y] (fun U => xz_T (fun _ => False) U U.heap ∧ va_P (dC, dI) vcl [] U.heap ∧ va_K (dC, dI) vcl (tyL cT) U)) xz_IA := by
  refine xk_T.ofW (cc := b_DS_secret) (maxL := 5) (ret := (Option.none : Option Jvm.ClassFile.FieldType)) (by decide) rfl ?_
  intro p e s m args below meth c s₁ B hml hv hno
  obtain ⟨hargs, hT, hP, hK⟩ := hv
  have hx := B.exec
  have hb := B.bytes
  have hts := atoms_spec (ws := (Cond.code y_DS_secret b_DS_secret 5 (Option.none : Option Jvm.ClassFile.FieldType) :: BIG)) B.pre
  have hg : ∀ w ∈ BIG, w.before _ s = true := fun w h => hts w (List.mem_cons_of_mem _ h)
  have hown : s.vm.findClass "DoorServer" = some m.cls := findClass_of_methodNamed B.named
  have hlocks := B.notSynchronized
  have htr := Launch.traces_off hfl B.admits
  obtain ⟨A, hAe⟩ : ∃ A : Nat → Prop, A = fun q => s.heap.size ≤ q := ⟨_, rfl⟩
  have hA : ∀ q : Nat, s.heap.size ≤ q → A q := fun q h => by rw [hAe]; exact h
  have hS : va_S A s.heap s.heap [] := va_S.rf
  have hD : va_D A [] := ⟨fun i j p q h => by simp at h, fun k q h => by simp at h⟩
  have hl := lv_entry ([.ref ds, .int x, .long v, .int y]) (n := 5) (Nat.le_of_ble_eq_true rfl)
  refine W.eq (g2 := entryFrame m (List.toArray [.ref ds, .int x, .long v, .int y]) 5) (by rw [hargs]) ?_
  rw [lg_entry_eq]
  generalize (lg_sl ([.ref ds, .int x, .long v, .int y]) ++ List.replicate (5 - (lg_sl ([.ref ds, .int x, .long v, .int y])).length) Slot.unset).toArray = ls at hl ⊢
  have hl : lv_has ls 5 [(0, .ref ds), (1, .int x), (2, .long v), (4, .int y)] := hl
  change W p l e ({ frames := 8, cells := 1, slots := 6, locals := 123 } : Room) s m args below meth c s.heap [] 0 0 _ _
  have hP : va_P (dC, dI) vcl [] s.heap := hP
  refine lv_iload_n hx hb d_DS_secret_0 rfl (lv_at hl 1 rfl) ?_
  refine xk_callS (As := [.int x]) (rest := []) ⟨hx, hb, hml, hown, hg⟩ (x_requireStation l hfl x (hbad)) (va_cwS 1 hg (gI (List.forall_mem_append.mpr ⟨List.forall_mem_cons.mpr ⟨k_387, List.forall_mem_cons.mpr ⟨k_388, List.forall_mem_cons.mpr ⟨k_1, fun _ h => absurd h List.not_mem_nil⟩⟩⟩, List.forall_mem_cons.mpr ⟨k_389, fun _ h => h⟩⟩)) rfl rfl rfl (by decide +kernel) ⟨Nat.le_of_ble_eq_true rfl, Nat.le_of_ble_eq_true rfl⟩) ⟨fun a U g mk q => ?_, fun U hU hW => ⟨rfl, ?_⟩⟩ rfl hl.1 rfl (by decide) d_DS_secret_1 ⟨Nat.le_of_ble_eq_true rfl, Nat.le_of_ble_eq_true rfl⟩ (xk_out2 (hno _) hlocks hS.1)
  · obtain ⟨q0, q1⟩ := q
    exact ⟨q0, q1.at (State.WarmedH.refl _) (fun _ _ _ => rfl) (fun _ h => h)⟩
  · show xz_T _ U U.heap; rw [hU]; exact hT.at hW (fun a h1 _ => hS.2.1 a h1 (by rw [hAe]; exact Nat.not_le.mpr h1)) (fun _ h => h)
set_option maxHeartbeats 4000000 in
set_option maxRecDepth 100000 in
/-- secret throws -/
theorem x_secret2 (l : Launch) (hfl : l.flags = pinnedFlags ++ [noTraceFlag]) (dC : Nat → ClassId) (dI : Nat → Nat → Nat) (cT : Nat → ClassId) (ds : Nat) (x : Int32) (v : Int64) (y : Int32) (hx1 : ¬ x < 0) (hx2 : ¬ 3 < x) (hbad : y < 1 ∨ 40 < y) : xk_T l y_DS_secret (Cond.code y_DS_secret b_DS_secret 5 (Option.none : Option Jvm.ClassFile.FieldType) :: BIG) ({ frames := 8, cells := 1, slots := 6, locals := 123 }) (va_Pc [.ref ds, .int x, .long v, .int y] (fun U => xz_T (fun _ => False) U U.heap ∧ va_P (dC, dI) vcl [] U.heap ∧ va_K (dC, dI) vcl (tyL cT) U)) xz_IA := by
  refine xk_T.ofW (cc := b_DS_secret) (maxL := 5) (ret := (Option.none : Option Jvm.ClassFile.FieldType)) (by decide) rfl ?_
  intro p e s m args below meth c s₁ B hml hv hno
  obtain ⟨hargs, hT, hP, hK⟩ := hv
  have hx := B.exec
  have hb := B.bytes
  have hts := atoms_spec (ws := (Cond.code y_DS_secret b_DS_secret 5 (Option.none : Option Jvm.ClassFile.FieldType) :: BIG)) B.pre
  have hg : ∀ w ∈ BIG, w.before _ s = true := fun w h => hts w (List.mem_cons_of_mem _ h)
  have hown : s.vm.findClass "DoorServer" = some m.cls := findClass_of_methodNamed B.named
  have hlocks := B.notSynchronized
  have htr := Launch.traces_off hfl B.admits
  obtain ⟨A, hAe⟩ : ∃ A : Nat → Prop, A = fun q => s.heap.size ≤ q := ⟨_, rfl⟩
  have hA : ∀ q : Nat, s.heap.size ≤ q → A q := fun q h => by rw [hAe]; exact h
  have hS : va_S A s.heap s.heap [] := va_S.rf
  have hD : va_D A [] := ⟨fun i j p q h => by simp at h, fun k q h => by simp at h⟩
  have hl := lv_entry ([.ref ds, .int x, .long v, .int y]) (n := 5) (Nat.le_of_ble_eq_true rfl)
  refine W.eq (g2 := entryFrame m (List.toArray [.ref ds, .int x, .long v, .int y]) 5) (by rw [hargs]) ?_
  rw [lg_entry_eq]
  generalize (lg_sl ([.ref ds, .int x, .long v, .int y]) ++ List.replicate (5 - (lg_sl ([.ref ds, .int x, .long v, .int y])).length) Slot.unset).toArray = ls at hl ⊢
  have hl : lv_has ls 5 [(0, .ref ds), (1, .int x), (2, .long v), (4, .int y)] := hl
  change W p l e ({ frames := 8, cells := 1, slots := 6, locals := 123 } : Room) s m args below meth c s.heap [] 0 0 _ _
  have hP : va_P (dC, dI) vcl [] s.heap := hP
  refine lv_iload_n hx hb d_DS_secret_0 rfl (lv_at hl 1 rfl) ?_
  have hPc := hP.sub (ws' := []) [] rfl
  have hDc := hD.sub (ws' := []) [] (by decide) rfl
  have hFc := va_free (wc := []) hD hS hA [] rfl
  refine va_callv (va_runS (As := [.int x]) (rest := []) ⟨hx, hb, hml, hown, hg⟩ (c_requireStation l dC dI cT s.heap.size x (hx1) (hx2)) (va_cwS 1 hg (gI (List.forall_mem_append.mpr ⟨List.forall_mem_cons.mpr ⟨k_387, List.forall_mem_cons.mpr ⟨k_388, List.forall_mem_cons.mpr ⟨k_1, fun _ h => absurd h List.not_mem_nil⟩⟩⟩, List.forall_mem_cons.mpr ⟨k_389, fun _ h => h⟩⟩)) rfl rfl rfl (by decide +kernel) ⟨Nat.le_of_ble_eq_true rfl, Nat.le_of_ble_eq_true rfl⟩) ⟨fun a U g mk q => by obtain ⟨q0, q1, qP, qK, qD⟩ := q; exact ⟨q0, q1, qP, va_K.moved (u := U) (U := U.calling g mk a) (Vm.Alike.refl U.vm) qK, qD⟩, fun U hU hW => ⟨rfl, by rw [hU], by rw [hU]; exact hPc, va_K.moved hW.alike hK, hDc.weaken (fun _ _ _ _ => trivial)⟩⟩ rfl rfl hl.1 rfl (lv_room (Nat.le_of_ble_eq_true rfl)) d_DS_secret_1 ⟨Nat.le_of_ble_eq_true rfl, Nat.le_of_ble_eq_true rfl⟩) hS (fun q _ h => hFc q h) hFc (fun u t H1 locs ht hvm hw hB hz1 hk1 hS => ?_)
  try dsimp only at hw hB
  obtain ⟨hP1, hK1, hD1⟩ := hB
  rw [ht] at hP1
  obtain ⟨hP, hD⟩ := va_join (wr := []) (w1 := []) hP hD [] [] rfl rfl (by decide) (by decide) hk1 hFc hP1 hD1
  have hw1 := hw
  clear hPc hDc hFc hz1 hk1 hP1 hK1 hD1
  generalize H1 = H at hP hS ⊢
  have hP : va_P (dC, dI) vcl [] H := hP
  have hD : va_D A [] := hD
  refine lv_iload hx hb d_DS_secret_4 (lv_at hl 3 rfl) ?_
  refine lv_iconst (v := 1) hx hb d_DS_secret_6 (by decide) ?_
  refine lv_bipush (v := 40) hx hb d_DS_secret_7 (by decide) ?_
  refine va_forget (fun q hq => by have h9 := hS.2.2 q hq; rw [hAe] at h9; exact h9) ?_
  refine xk_callS (As := [.int y, .int 1, .int 40]) (rest := []) ⟨hx, hb, hml, hown, hg⟩ (x_requireWithin l hfl y 1 40 (hbad)) (va_cwS 3 hg (gI (List.forall_mem_append.mpr ⟨List.forall_mem_cons.mpr ⟨k_390, List.forall_mem_cons.mpr ⟨k_391, List.forall_mem_cons.mpr ⟨k_1, fun _ h => absurd h List.not_mem_nil⟩⟩⟩, List.forall_mem_cons.mpr ⟨k_392, fun _ h => h⟩⟩)) rfl rfl rfl (by decide +kernel) ⟨Nat.le_of_ble_eq_true rfl, Nat.le_of_ble_eq_true rfl⟩) ⟨fun a U g mk q => ?_, fun U hU hW => ⟨rfl, ?_⟩⟩ rfl hl.1 rfl (by decide) d_DS_secret_9 ⟨Nat.le_of_ble_eq_true rfl, Nat.le_of_ble_eq_true rfl⟩ (xk_out2 (hno _) hlocks hS.1)
  · obtain ⟨q0, q1⟩ := q
    exact ⟨q0, q1.at (State.WarmedH.refl _) (fun _ _ _ => rfl) (fun _ h => h)⟩
  · show xz_T _ U U.heap; rw [hU]; exact hT.at hW (fun a h1 _ => hS.2.1 a h1 (by rw [hAe]; exact Nat.not_le.mpr h1)) (fun _ h => h)
set_option maxHeartbeats 4000000 in
set_option maxRecDepth 100000 in
/-- user throws -/
theorem x_user1 (l : Launch) (hfl : l.flags = pinnedFlags ++ [noTraceFlag]) (dC : Nat → ClassId) (dI : Nat → Nat → Nat) (cT : Nat → ClassId) (ds : Nat) (x : Int32) (v : Int64) (y : Int32) (hbad : x < 0 ∨ 31 < x) : xk_T l y_DS_user (Cond.code y_DS_user b_DS_user 6 (Option.some Jvm.ClassFile.FieldType.boolean) :: BIG) ({ frames := 8, cells := 1, slots := 6, locals := 123 }) (va_Pc [.ref ds, .int x, .long v, .int y] (fun U => xz_T (fun _ => False) U U.heap ∧ va_P (dC, dI) vcl [] U.heap ∧ va_K (dC, dI) vcl (tyL cT) U)) xz_IA := by
  refine xk_T.ofW (cc := b_DS_user) (maxL := 6) (ret := (Option.some Jvm.ClassFile.FieldType.boolean)) (by decide) rfl ?_
  intro p e s m args below meth c s₁ B hml hv hno
  obtain ⟨hargs, hT, hP, hK⟩ := hv
  have hx := B.exec
  have hb := B.bytes
  have hts := atoms_spec (ws := (Cond.code y_DS_user b_DS_user 6 (Option.some Jvm.ClassFile.FieldType.boolean) :: BIG)) B.pre
  have hg : ∀ w ∈ BIG, w.before _ s = true := fun w h => hts w (List.mem_cons_of_mem _ h)
  have hown : s.vm.findClass "DoorServer" = some m.cls := findClass_of_methodNamed B.named
  have hlocks := B.notSynchronized
  have htr := Launch.traces_off hfl B.admits
  obtain ⟨A, hAe⟩ : ∃ A : Nat → Prop, A = fun q => s.heap.size ≤ q := ⟨_, rfl⟩
  have hA : ∀ q : Nat, s.heap.size ≤ q → A q := fun q h => by rw [hAe]; exact h
  have hS : va_S A s.heap s.heap [] := va_S.rf
  have hD : va_D A [] := ⟨fun i j p q h => by simp at h, fun k q h => by simp at h⟩
  have hl := lv_entry ([.ref ds, .int x, .long v, .int y]) (n := 6) (Nat.le_of_ble_eq_true rfl)
  refine W.eq (g2 := entryFrame m (List.toArray [.ref ds, .int x, .long v, .int y]) 6) (by rw [hargs]) ?_
  rw [lg_entry_eq]
  generalize (lg_sl ([.ref ds, .int x, .long v, .int y]) ++ List.replicate (6 - (lg_sl ([.ref ds, .int x, .long v, .int y])).length) Slot.unset).toArray = ls at hl ⊢
  have hl : lv_has ls 6 [(0, .ref ds), (1, .int x), (2, .long v), (4, .int y)] := hl
  change W p l e ({ frames := 8, cells := 1, slots := 6, locals := 123 } : Room) s m args below meth c s.heap [] 0 0 _ _
  have hP : va_P (dC, dI) vcl [] s.heap := hP
  refine lv_iload_n hx hb d_DS_user_0 rfl (lv_at hl 1 rfl) ?_
  refine xk_callS (As := [.int x]) (rest := []) ⟨hx, hb, hml, hown, hg⟩ (x_requireUser l hfl x (hbad)) (va_cwS 1 hg (gI (List.forall_mem_append.mpr ⟨List.forall_mem_cons.mpr ⟨k_475, List.forall_mem_cons.mpr ⟨k_476, List.forall_mem_cons.mpr ⟨k_1, fun _ h => absurd h List.not_mem_nil⟩⟩⟩, List.forall_mem_cons.mpr ⟨k_477, fun _ h => h⟩⟩)) rfl rfl rfl (by decide +kernel) ⟨Nat.le_of_ble_eq_true rfl, Nat.le_of_ble_eq_true rfl⟩) ⟨fun a U g mk q => ?_, fun U hU hW => ⟨rfl, ?_⟩⟩ rfl hl.1 rfl (by decide) d_DS_user_1 ⟨Nat.le_of_ble_eq_true rfl, Nat.le_of_ble_eq_true rfl⟩ (xk_out2 (hno _) hlocks hS.1)
  · obtain ⟨q0, q1⟩ := q
    exact ⟨q0, q1.at (State.WarmedH.refl _) (fun _ _ _ => rfl) (fun _ h => h)⟩
  · show xz_T _ U U.heap; rw [hU]; exact hT.at hW (fun a h1 _ => hS.2.1 a h1 (by rw [hAe]; exact Nat.not_le.mpr h1)) (fun _ h => h)
set_option maxHeartbeats 4000000 in
set_option maxRecDepth 100000 in
/-- user throws -/
theorem x_user2 (l : Launch) (hfl : l.flags = pinnedFlags ++ [noTraceFlag]) (dC : Nat → ClassId) (dI : Nat → Nat → Nat) (cT : Nat → ClassId) (ds : Nat) (x : Int32) (v : Int64) (y : Int32) (hx1 : ¬ x < 0) (hx2 : ¬ 31 < x) (hbad : y < 1 ∨ 60 < y) : xk_T l y_DS_user (Cond.code y_DS_user b_DS_user 6 (Option.some Jvm.ClassFile.FieldType.boolean) :: BIG) ({ frames := 8, cells := 1, slots := 6, locals := 123 }) (va_Pc [.ref ds, .int x, .long v, .int y] (fun U => xz_T (fun _ => False) U U.heap ∧ va_P (dC, dI) vcl [] U.heap ∧ va_K (dC, dI) vcl (tyL cT) U)) xz_IA := by
  refine xk_T.ofW (cc := b_DS_user) (maxL := 6) (ret := (Option.some Jvm.ClassFile.FieldType.boolean)) (by decide) rfl ?_
  intro p e s m args below meth c s₁ B hml hv hno
  obtain ⟨hargs, hT, hP, hK⟩ := hv
  have hx := B.exec
  have hb := B.bytes
  have hts := atoms_spec (ws := (Cond.code y_DS_user b_DS_user 6 (Option.some Jvm.ClassFile.FieldType.boolean) :: BIG)) B.pre
  have hg : ∀ w ∈ BIG, w.before _ s = true := fun w h => hts w (List.mem_cons_of_mem _ h)
  have hown : s.vm.findClass "DoorServer" = some m.cls := findClass_of_methodNamed B.named
  have hlocks := B.notSynchronized
  have htr := Launch.traces_off hfl B.admits
  obtain ⟨A, hAe⟩ : ∃ A : Nat → Prop, A = fun q => s.heap.size ≤ q := ⟨_, rfl⟩
  have hA : ∀ q : Nat, s.heap.size ≤ q → A q := fun q h => by rw [hAe]; exact h
  have hS : va_S A s.heap s.heap [] := va_S.rf
  have hD : va_D A [] := ⟨fun i j p q h => by simp at h, fun k q h => by simp at h⟩
  have hl := lv_entry ([.ref ds, .int x, .long v, .int y]) (n := 6) (Nat.le_of_ble_eq_true rfl)
  refine W.eq (g2 := entryFrame m (List.toArray [.ref ds, .int x, .long v, .int y]) 6) (by rw [hargs]) ?_
  rw [lg_entry_eq]
  generalize (lg_sl ([.ref ds, .int x, .long v, .int y]) ++ List.replicate (6 - (lg_sl ([.ref ds, .int x, .long v, .int y])).length) Slot.unset).toArray = ls at hl ⊢
  have hl : lv_has ls 6 [(0, .ref ds), (1, .int x), (2, .long v), (4, .int y)] := hl
  change W p l e ({ frames := 8, cells := 1, slots := 6, locals := 123 } : Room) s m args below meth c s.heap [] 0 0 _ _
  have hP : va_P (dC, dI) vcl [] s.heap := hP
  refine lv_iload_n hx hb d_DS_user_0 rfl (lv_at hl 1 rfl) ?_
  have hPc := hP.sub (ws' := []) [] rfl
  have hDc := hD.sub (ws' := []) [] (by decide) rfl
  have hFc := va_free (wc := []) hD hS hA [] rfl
  refine va_callv (va_runS (As := [.int x]) (rest := []) ⟨hx, hb, hml, hown, hg⟩ (c_requireUser l dC dI cT s.heap.size x (hx1) (hx2)) (va_cwS 1 hg (gI (List.forall_mem_append.mpr ⟨List.forall_mem_cons.mpr ⟨k_475, List.forall_mem_cons.mpr ⟨k_476, List.forall_mem_cons.mpr ⟨k_1, fun _ h => absurd h List.not_mem_nil⟩⟩⟩, List.forall_mem_cons.mpr ⟨k_477, fun _ h => h⟩⟩)) rfl rfl rfl (by decide +kernel) ⟨Nat.le_of_ble_eq_true rfl, Nat.le_of_ble_eq_true rfl⟩) ⟨fun a U g mk q => by obtain ⟨q0, q1, qP, qK, qD⟩ := q; exact ⟨q0, q1, qP, va_K.moved (u := U) (U := U.calling g mk a) (Vm.Alike.refl U.vm) qK, qD⟩, fun U hU hW => ⟨rfl, by rw [hU], by rw [hU]; exact hPc, va_K.moved hW.alike hK, hDc.weaken (fun _ _ _ _ => trivial)⟩⟩ rfl rfl hl.1 rfl (lv_room (Nat.le_of_ble_eq_true rfl)) d_DS_user_1 ⟨Nat.le_of_ble_eq_true rfl, Nat.le_of_ble_eq_true rfl⟩) hS (fun q _ h => hFc q h) hFc (fun u t H1 locs ht hvm hw hB hz1 hk1 hS => ?_)
  try dsimp only at hw hB
  obtain ⟨hP1, hK1, hD1⟩ := hB
  rw [ht] at hP1
  obtain ⟨hP, hD⟩ := va_join (wr := []) (w1 := []) hP hD [] [] rfl rfl (by decide) (by decide) hk1 hFc hP1 hD1
  have hw2 := hw
  clear hPc hDc hFc hz1 hk1 hP1 hK1 hD1
  generalize H1 = H at hP hS ⊢
  have hP : va_P (dC, dI) vcl [] H := hP
  have hD : va_D A [] := hD
  refine lv_iload hx hb d_DS_user_4 (lv_at hl 3 rfl) ?_
  refine lv_iconst (v := 1) hx hb d_DS_user_6 (by decide) ?_
  refine lv_bipush (v := 60) hx hb d_DS_user_7 (by decide) ?_
  refine va_forget (fun q hq => by have h9 := hS.2.2 q hq; rw [hAe] at h9; exact h9) ?_
  refine xk_callS (As := [.int y, .int 1, .int 60]) (rest := []) ⟨hx, hb, hml, hown, hg⟩ (x_requireWithin l hfl y 1 60 (hbad)) (va_cwS 3 hg (gI (List.forall_mem_append.mpr ⟨List.forall_mem_cons.mpr ⟨k_390, List.forall_mem_cons.mpr ⟨k_391, List.forall_mem_cons.mpr ⟨k_1, fun _ h => absurd h List.not_mem_nil⟩⟩⟩, List.forall_mem_cons.mpr ⟨k_392, fun _ h => h⟩⟩)) rfl rfl rfl (by decide +kernel) ⟨Nat.le_of_ble_eq_true rfl, Nat.le_of_ble_eq_true rfl⟩) ⟨fun a U g mk q => ?_, fun U hU hW => ⟨rfl, ?_⟩⟩ rfl hl.1 rfl (by decide) d_DS_user_9 ⟨Nat.le_of_ble_eq_true rfl, Nat.le_of_ble_eq_true rfl⟩ (xk_out2 (hno _) hlocks hS.1)
  · obtain ⟨q0, q1⟩ := q
    exact ⟨q0, q1.at (State.WarmedH.refl _) (fun _ _ _ => rfl) (fun _ h => h)⟩
  · show xz_T _ U U.heap; rw [hU]; exact hT.at hW (fun a h1 _ => hS.2.1 a h1 (by rw [hAe]; exact Nat.not_le.mpr h1)) (fun _ h => h)
set_option maxHeartbeats 4000000 in
set_option maxRecDepth 100000 in
/-- password throws -/
theorem x_password1 (l : Launch) (hfl : l.flags = pinnedFlags ++ [noTraceFlag]) (dC : Nat → ClassId) (dI : Nat → Nat → Nat) (cT : Nat → ClassId) (ds : Nat) (x : Int32) (v : Int64) (y : Int32) (hbad : x < 0 ∨ 3 < x) : xk_T l y_DS_password (Cond.code y_DS_password b_DS_password 7 (Option.some Jvm.ClassFile.FieldType.int) :: BIG) ({ frames := 8, cells := 1, slots := 6, locals := 123 }) (va_Pc [.ref ds, .int x, .long v, .int y] (fun U => xz_T (fun _ => False) U U.heap ∧ va_P (dC, dI) vcl [] U.heap ∧ va_K (dC, dI) vcl (tyL cT) U)) xz_IA := by
  refine xk_T.ofW (cc := b_DS_password) (maxL := 7) (ret := (Option.some Jvm.ClassFile.FieldType.int)) (by decide) rfl ?_
  intro p e s m args below meth c s₁ B hml hv hno
  obtain ⟨hargs, hT, hP, hK⟩ := hv
  have hx := B.exec
  have hb := B.bytes
  have hts := atoms_spec (ws := (Cond.code y_DS_password b_DS_password 7 (Option.some Jvm.ClassFile.FieldType.int) :: BIG)) B.pre
  have hg : ∀ w ∈ BIG, w.before _ s = true := fun w h => hts w (List.mem_cons_of_mem _ h)
  have hown : s.vm.findClass "DoorServer" = some m.cls := findClass_of_methodNamed B.named
  have hlocks := B.notSynchronized
  have htr := Launch.traces_off hfl B.admits
  obtain ⟨A, hAe⟩ : ∃ A : Nat → Prop, A = fun q => s.heap.size ≤ q := ⟨_, rfl⟩
  have hA : ∀ q : Nat, s.heap.size ≤ q → A q := fun q h => by rw [hAe]; exact h
  have hS : va_S A s.heap s.heap [] := va_S.rf
  have hD : va_D A [] := ⟨fun i j p q h => by simp at h, fun k q h => by simp at h⟩
  have hl := lv_entry ([.ref ds, .int x, .long v, .int y]) (n := 7) (Nat.le_of_ble_eq_true rfl)
  refine W.eq (g2 := entryFrame m (List.toArray [.ref ds, .int x, .long v, .int y]) 7) (by rw [hargs]) ?_
  rw [lg_entry_eq]
  generalize (lg_sl ([.ref ds, .int x, .long v, .int y]) ++ List.replicate (7 - (lg_sl ([.ref ds, .int x, .long v, .int y])).length) Slot.unset).toArray = ls at hl ⊢
  have hl : lv_has ls 7 [(0, .ref ds), (1, .int x), (2, .long v), (4, .int y)] := hl
  change W p l e ({ frames := 8, cells := 1, slots := 6, locals := 123 } : Room) s m args below meth c s.heap [] 0 0 _ _
  have hP : va_P (dC, dI) vcl [] s.heap := hP
  refine lv_iload_n hx hb d_DS_password_0 rfl (lv_at hl 1 rfl) ?_
  refine xk_callS (As := [.int x]) (rest := []) ⟨hx, hb, hml, hown, hg⟩ (x_requireStation l hfl x (hbad)) (va_cwS 1 hg (gI (List.forall_mem_append.mpr ⟨List.forall_mem_cons.mpr ⟨k_387, List.forall_mem_cons.mpr ⟨k_388, List.forall_mem_cons.mpr ⟨k_1, fun _ h => absurd h List.not_mem_nil⟩⟩⟩, List.forall_mem_cons.mpr ⟨k_389, fun _ h => h⟩⟩)) rfl rfl rfl (by decide +kernel) ⟨Nat.le_of_ble_eq_true rfl, Nat.le_of_ble_eq_true rfl⟩) ⟨fun a U g mk q => ?_, fun U hU hW => ⟨rfl, ?_⟩⟩ rfl hl.1 rfl (by decide) d_DS_password_1 ⟨Nat.le_of_ble_eq_true rfl, Nat.le_of_ble_eq_true rfl⟩ (xk_out2 (hno _) hlocks hS.1)
  · obtain ⟨q0, q1⟩ := q
    exact ⟨q0, q1.at (State.WarmedH.refl _) (fun _ _ _ => rfl) (fun _ h => h)⟩
  · show xz_T _ U U.heap; rw [hU]; exact hT.at hW (fun a h1 _ => hS.2.1 a h1 (by rw [hAe]; exact Nat.not_le.mpr h1)) (fun _ h => h)
set_option maxHeartbeats 4000000 in
set_option maxRecDepth 100000 in
/-- password throws -/
theorem x_password2 (l : Launch) (hfl : l.flags = pinnedFlags ++ [noTraceFlag]) (dC : Nat → ClassId) (dI : Nat → Nat → Nat) (cT : Nat → ClassId) (ds : Nat) (x : Int32) (v : Int64) (y : Int32) (hx1 : ¬ x < 0) (hx2 : ¬ 3 < x) (hbad : y < 1 ∨ 60 < y) : xk_T l y_DS_password (Cond.code y_DS_password b_DS_password 7 (Option.some Jvm.ClassFile.FieldType.int) :: BIG) ({ frames := 8, cells := 1, slots := 6, locals := 123 }) (va_Pc [.ref ds, .int x, .long v, .int y] (fun U => xz_T (fun _ => False) U U.heap ∧ va_P (dC, dI) vcl [] U.heap ∧ va_K (dC, dI) vcl (tyL cT) U)) xz_IA := by
  refine xk_T.ofW (cc := b_DS_password) (maxL := 7) (ret := (Option.some Jvm.ClassFile.FieldType.int)) (by decide) rfl ?_
  intro p e s m args below meth c s₁ B hml hv hno
  obtain ⟨hargs, hT, hP, hK⟩ := hv
  have hx := B.exec
  have hb := B.bytes
  have hts := atoms_spec (ws := (Cond.code y_DS_password b_DS_password 7 (Option.some Jvm.ClassFile.FieldType.int) :: BIG)) B.pre
  have hg : ∀ w ∈ BIG, w.before _ s = true := fun w h => hts w (List.mem_cons_of_mem _ h)
  have hown : s.vm.findClass "DoorServer" = some m.cls := findClass_of_methodNamed B.named
  have hlocks := B.notSynchronized
  have htr := Launch.traces_off hfl B.admits
  obtain ⟨A, hAe⟩ : ∃ A : Nat → Prop, A = fun q => s.heap.size ≤ q := ⟨_, rfl⟩
  have hA : ∀ q : Nat, s.heap.size ≤ q → A q := fun q h => by rw [hAe]; exact h
  have hS : va_S A s.heap s.heap [] := va_S.rf
  have hD : va_D A [] := ⟨fun i j p q h => by simp at h, fun k q h => by simp at h⟩
  have hl := lv_entry ([.ref ds, .int x, .long v, .int y]) (n := 7) (Nat.le_of_ble_eq_true rfl)
  refine W.eq (g2 := entryFrame m (List.toArray [.ref ds, .int x, .long v, .int y]) 7) (by rw [hargs]) ?_
  rw [lg_entry_eq]
  generalize (lg_sl ([.ref ds, .int x, .long v, .int y]) ++ List.replicate (7 - (lg_sl ([.ref ds, .int x, .long v, .int y])).length) Slot.unset).toArray = ls at hl ⊢
  have hl : lv_has ls 7 [(0, .ref ds), (1, .int x), (2, .long v), (4, .int y)] := hl
  change W p l e ({ frames := 8, cells := 1, slots := 6, locals := 123 } : Room) s m args below meth c s.heap [] 0 0 _ _
  have hP : va_P (dC, dI) vcl [] s.heap := hP
  refine lv_iload_n hx hb d_DS_password_0 rfl (lv_at hl 1 rfl) ?_
  have hPc := hP.sub (ws' := []) [] rfl
  have hDc := hD.sub (ws' := []) [] (by decide) rfl
  have hFc := va_free (wc := []) hD hS hA [] rfl
  refine va_callv (va_runS (As := [.int x]) (rest := []) ⟨hx, hb, hml, hown, hg⟩ (c_requireStation l dC dI cT s.heap.size x (hx1) (hx2)) (va_cwS 1 hg (gI (List.forall_mem_append.mpr ⟨List.forall_mem_cons.mpr ⟨k_387, List.forall_mem_cons.mpr ⟨k_388, List.forall_mem_cons.mpr ⟨k_1, fun _ h => absurd h List.not_mem_nil⟩⟩⟩, List.forall_mem_cons.mpr ⟨k_389, fun _ h => h⟩⟩)) rfl rfl rfl (by decide +kernel) ⟨Nat.le_of_ble_eq_true rfl, Nat.le_of_ble_eq_true rfl⟩) ⟨fun a U g mk q => by obtain ⟨q0, q1, qP, qK, qD⟩ := q; exact ⟨q0, q1, qP, va_K.moved (u := U) (U := U.calling g mk a) (Vm.Alike.refl U.vm) qK, qD⟩, fun U hU hW => ⟨rfl, by rw [hU], by rw [hU]; exact hPc, va_K.moved hW.alike hK, hDc.weaken (fun _ _ _ _ => trivial)⟩⟩ rfl rfl hl.1 rfl (lv_room (Nat.le_of_ble_eq_true rfl)) d_DS_password_1 ⟨Nat.le_of_ble_eq_true rfl, Nat.le_of_ble_eq_true rfl⟩) hS (fun q _ h => hFc q h) hFc (fun u t H1 locs ht hvm hw hB hz1 hk1 hS => ?_)
  try dsimp only at hw hB
  obtain ⟨hP1, hK1, hD1⟩ := hB
  rw [ht] at hP1
  obtain ⟨hP, hD⟩ := va_join (wr := []) (w1 := []) hP hD [] [] rfl rfl (by decide) (by decide) hk1 hFc hP1 hD1
  have hw3 := hw
  clear hPc hDc hFc hz1 hk1 hP1 hK1 hD1
  generalize H1 = H at hP hS ⊢
  have hP : va_P (dC, dI) vcl [] H := hP
  have hD : va_D A [] := hD
  refine lv_iload hx hb d_DS_password_4 (lv_at hl 3 rfl) ?_
  refine lv_iconst (v := 1) hx hb d_DS_password_6 (by decide) ?_
  refine lv_bipush (v := 60) hx hb d_DS_password_7 (by decide) ?_
  refine va_forget (fun q hq => by have h9 := hS.2.2 q hq; rw [hAe] at h9; exact h9) ?_
  refine xk_callS (As := [.int y, .int 1, .int 60]) (rest := []) ⟨hx, hb, hml, hown, hg⟩ (x_requireWithin l hfl y 1 60 (hbad)) (va_cwS 3 hg (gI (List.forall_mem_append.mpr ⟨List.forall_mem_cons.mpr ⟨k_390, List.forall_mem_cons.mpr ⟨k_391, List.forall_mem_cons.mpr ⟨k_1, fun _ h => absurd h List.not_mem_nil⟩⟩⟩, List.forall_mem_cons.mpr ⟨k_392, fun _ h => h⟩⟩)) rfl rfl rfl (by decide +kernel) ⟨Nat.le_of_ble_eq_true rfl, Nat.le_of_ble_eq_true rfl⟩) ⟨fun a U g mk q => ?_, fun U hU hW => ⟨rfl, ?_⟩⟩ rfl hl.1 rfl (by decide) d_DS_password_9 ⟨Nat.le_of_ble_eq_true rfl, Nat.le_of_ble_eq_true rfl⟩ (xk_out2 (hno _) hlocks hS.1)
  · obtain ⟨q0, q1⟩ := q
    exact ⟨q0, q1.at (State.WarmedH.refl _) (fun _ _ _ => rfl) (fun _ h => h)⟩
  · show xz_T _ U U.heap; rw [hU]; exact hT.at hW (fun a h1 _ => hS.2.1 a h1 (by rw [hAe]; exact Nat.not_le.mpr h1)) (fun _ h => h)
set_option maxHeartbeats 4000000 in
set_option maxRecDepth 100000 in
/-- draft throws -/
theorem x_draft1 (l : Launch) (hfl : l.flags = pinnedFlags ++ [noTraceFlag]) (dC : Nat → ClassId) (dI : Nat → Nat → Nat) (cT : Nat → ClassId) (ds : Nat) (x : Int32) (y : Int32) (v : Int64) (hbad : x < 0 ∨ 255 < x) : xk_T l y_DS_draft (Cond.code y_DS_draft b_DS_draft 5 (Option.none : Option Jvm.ClassFile.FieldType) :: BIG) ({ frames := 8, cells := 1, slots := 6, locals := 123 }) (va_Pc [.ref ds, .int x, .int y, .long v] (fun U => xz_T (fun _ => False) U U.heap ∧ va_P (dC, dI) vcl [] U.heap ∧ va_K (dC, dI) vcl (tyL cT) U)) xz_IA := by
  refine xk_T.ofW (cc := b_DS_draft) (maxL := 5) (ret := (Option.none : Option Jvm.ClassFile.FieldType)) (by decide) rfl ?_
  intro p e s m args below meth c s₁ B hml hv hno
  obtain ⟨hargs, hT, hP, hK⟩ := hv
  have hx := B.exec
  have hb := B.bytes
  have hts := atoms_spec (ws := (Cond.code y_DS_draft b_DS_draft 5 (Option.none : Option Jvm.ClassFile.FieldType) :: BIG)) B.pre
  have hg : ∀ w ∈ BIG, w.before _ s = true := fun w h => hts w (List.mem_cons_of_mem _ h)
  have hown : s.vm.findClass "DoorServer" = some m.cls := findClass_of_methodNamed B.named
  have hlocks := B.notSynchronized
  have htr := Launch.traces_off hfl B.admits
  obtain ⟨A, hAe⟩ : ∃ A : Nat → Prop, A = fun q => s.heap.size ≤ q := ⟨_, rfl⟩
  have hA : ∀ q : Nat, s.heap.size ≤ q → A q := fun q h => by rw [hAe]; exact h
  have hS : va_S A s.heap s.heap [] := va_S.rf
  have hD : va_D A [] := ⟨fun i j p q h => by simp at h, fun k q h => by simp at h⟩
  have hl := lv_entry ([.ref ds, .int x, .int y, .long v]) (n := 5) (Nat.le_of_ble_eq_true rfl)
  refine W.eq (g2 := entryFrame m (List.toArray [.ref ds, .int x, .int y, .long v]) 5) (by rw [hargs]) ?_
  rw [lg_entry_eq]
  generalize (lg_sl ([.ref ds, .int x, .int y, .long v]) ++ List.replicate (5 - (lg_sl ([.ref ds, .int x, .int y, .long v])).length) Slot.unset).toArray = ls at hl ⊢
  have hl : lv_has ls 5 [(0, .ref ds), (1, .int x), (2, .int y), (3, .long v)] := hl
  change W p l e ({ frames := 8, cells := 1, slots := 6, locals := 123 } : Room) s m args below meth c s.heap [] 0 0 _ _
  have hP : va_P (dC, dI) vcl [] s.heap := hP
  refine lv_iload_n hx hb d_DS_draft_0 rfl (lv_at hl 1 rfl) ?_
  refine xk_callS (As := [.int x]) (rest := []) ⟨hx, hb, hml, hown, hg⟩ (x_requireByte l hfl x (hbad)) (va_cwS 1 hg (gI (List.forall_mem_append.mpr ⟨List.forall_mem_cons.mpr ⟨k_489, List.forall_mem_cons.mpr ⟨k_490, List.forall_mem_cons.mpr ⟨k_1, fun _ h => absurd h List.not_mem_nil⟩⟩⟩, List.forall_mem_cons.mpr ⟨k_491, fun _ h => h⟩⟩)) rfl rfl rfl (by decide +kernel) ⟨Nat.le_of_ble_eq_true rfl, Nat.le_of_ble_eq_true rfl⟩) ⟨fun a U g mk q => ?_, fun U hU hW => ⟨rfl, ?_⟩⟩ rfl hl.1 rfl (by decide) d_DS_draft_1 ⟨Nat.le_of_ble_eq_true rfl, Nat.le_of_ble_eq_true rfl⟩ (xk_out2 (hno _) hlocks hS.1)
  · obtain ⟨q0, q1⟩ := q
    exact ⟨q0, q1.at (State.WarmedH.refl _) (fun _ _ _ => rfl) (fun _ h => h)⟩
  · show xz_T _ U U.heap; rw [hU]; exact hT.at hW (fun a h1 _ => hS.2.1 a h1 (by rw [hAe]; exact Nat.not_le.mpr h1)) (fun _ h => h)
set_option maxHeartbeats 4000000 in
set_option maxRecDepth 100000 in
/-- draft throws -/
theorem x_draft2 (l : Launch) (hfl : l.flags = pinnedFlags ++ [noTraceFlag]) (dC : Nat → ClassId) (dI : Nat → Nat → Nat) (cT : Nat → ClassId) (ds : Nat) (x : Int32) (y : Int32) (v : Int64) (hx1 : ¬ x < 0) (hx2 : ¬ 255 < x) (hbad : y < 0 ∨ 255 < y) : xk_T l y_DS_draft (Cond.code y_DS_draft b_DS_draft 5 (Option.none : Option Jvm.ClassFile.FieldType) :: BIG) ({ frames := 8, cells := 1, slots := 6, locals := 123 }) (va_Pc [.ref ds, .int x, .int y, .long v] (fun U => xz_T (fun _ => False) U U.heap ∧ va_P (dC, dI) vcl [] U.heap ∧ va_K (dC, dI) vcl (tyL cT) U)) xz_IA := by
  refine xk_T.ofW (cc := b_DS_draft) (maxL := 5) (ret := (Option.none : Option Jvm.ClassFile.FieldType)) (by decide) rfl ?_
  intro p e s m args below meth c s₁ B hml hv hno
  obtain ⟨hargs, hT, hP, hK⟩ := hv
  have hx := B.exec
  have hb := B.bytes
  have hts := atoms_spec (ws := (Cond.code y_DS_draft b_DS_draft 5 (Option.none : Option Jvm.ClassFile.FieldType) :: BIG)) B.pre
  have hg : ∀ w ∈ BIG, w.before _ s = true := fun w h => hts w (List.mem_cons_of_mem _ h)
  have hown : s.vm.findClass "DoorServer" = some m.cls := findClass_of_methodNamed B.named
  have hlocks := B.notSynchronized
  have htr := Launch.traces_off hfl B.admits
  obtain ⟨A, hAe⟩ : ∃ A : Nat → Prop, A = fun q => s.heap.size ≤ q := ⟨_, rfl⟩
  have hA : ∀ q : Nat, s.heap.size ≤ q → A q := fun q h => by rw [hAe]; exact h
  have hS : va_S A s.heap s.heap [] := va_S.rf
  have hD : va_D A [] := ⟨fun i j p q h => by simp at h, fun k q h => by simp at h⟩
  have hl := lv_entry ([.ref ds, .int x, .int y, .long v]) (n := 5) (Nat.le_of_ble_eq_true rfl)
  refine W.eq (g2 := entryFrame m (List.toArray [.ref ds, .int x, .int y, .long v]) 5) (by rw [hargs]) ?_
  rw [lg_entry_eq]
  generalize (lg_sl ([.ref ds, .int x, .int y, .long v]) ++ List.replicate (5 - (lg_sl ([.ref ds, .int x, .int y, .long v])).length) Slot.unset).toArray = ls at hl ⊢
  have hl : lv_has ls 5 [(0, .ref ds), (1, .int x), (2, .int y), (3, .long v)] := hl
  change W p l e ({ frames := 8, cells := 1, slots := 6, locals := 123 } : Room) s m args below meth c s.heap [] 0 0 _ _
  have hP : va_P (dC, dI) vcl [] s.heap := hP
  refine lv_iload_n hx hb d_DS_draft_0 rfl (lv_at hl 1 rfl) ?_
  have hPc := hP.sub (ws' := []) [] rfl
  have hDc := hD.sub (ws' := []) [] (by decide) rfl
  have hFc := va_free (wc := []) hD hS hA [] rfl
  refine va_callv (va_runS (As := [.int x]) (rest := []) ⟨hx, hb, hml, hown, hg⟩ (c_requireByte l dC dI cT s.heap.size x (hx1) (hx2)) (va_cwS 1 hg (gI (List.forall_mem_append.mpr ⟨List.forall_mem_cons.mpr ⟨k_489, List.forall_mem_cons.mpr ⟨k_490, List.forall_mem_cons.mpr ⟨k_1, fun _ h => absurd h List.not_mem_nil⟩⟩⟩, List.forall_mem_cons.mpr ⟨k_491, fun _ h => h⟩⟩)) rfl rfl rfl (by decide +kernel) ⟨Nat.le_of_ble_eq_true rfl, Nat.le_of_ble_eq_true rfl⟩) ⟨fun a U g mk q => by obtain ⟨q0, q1, qP, qK, qD⟩ := q; exact ⟨q0, q1, qP, va_K.moved (u := U) (U := U.calling g mk a) (Vm.Alike.refl U.vm) qK, qD⟩, fun U hU hW => ⟨rfl, by rw [hU], by rw [hU]; exact hPc, va_K.moved hW.alike hK, hDc.weaken (fun _ _ _ _ => trivial)⟩⟩ rfl rfl hl.1 rfl (lv_room (Nat.le_of_ble_eq_true rfl)) d_DS_draft_1 ⟨Nat.le_of_ble_eq_true rfl, Nat.le_of_ble_eq_true rfl⟩) hS (fun q _ h => hFc q h) hFc (fun u t H1 locs ht hvm hw hB hz1 hk1 hS => ?_)
  try dsimp only at hw hB
  obtain ⟨hP1, hK1, hD1⟩ := hB
  rw [ht] at hP1
  obtain ⟨hP, hD⟩ := va_join (wr := []) (w1 := []) hP hD [] [] rfl rfl (by decide) (by decide) hk1 hFc hP1 hD1
  have hw4 := hw
  clear hPc hDc hFc hz1 hk1 hP1 hK1 hD1
  generalize H1 = H at hP hS ⊢
  have hP : va_P (dC, dI) vcl [] H := hP
  have hD : va_D A [] := hD
  refine lv_iload_n hx hb d_DS_draft_4 rfl (lv_at hl 2 rfl) ?_
  refine va_forget (fun q hq => by have h9 := hS.2.2 q hq; rw [hAe] at h9; exact h9) ?_
  refine xk_callS (As := [.int y]) (rest := []) ⟨hx, hb, hml, hown, hg⟩ (x_requireByte l hfl y (hbad)) (va_cwS 1 hg (gI (List.forall_mem_append.mpr ⟨List.forall_mem_cons.mpr ⟨k_489, List.forall_mem_cons.mpr ⟨k_490, List.forall_mem_cons.mpr ⟨k_1, fun _ h => absurd h List.not_mem_nil⟩⟩⟩, List.forall_mem_cons.mpr ⟨k_491, fun _ h => h⟩⟩)) rfl rfl rfl (by decide +kernel) ⟨Nat.le_of_ble_eq_true rfl, Nat.le_of_ble_eq_true rfl⟩) ⟨fun a U g mk q => ?_, fun U hU hW => ⟨rfl, ?_⟩⟩ rfl hl.1 rfl (by decide) d_DS_draft_5 ⟨Nat.le_of_ble_eq_true rfl, Nat.le_of_ble_eq_true rfl⟩ (xk_out2 (hno _) hlocks hS.1)
  · obtain ⟨q0, q1⟩ := q
    exact ⟨q0, q1.at (State.WarmedH.refl _) (fun _ _ _ => rfl) (fun _ h => h)⟩
  · show xz_T _ U U.heap; rw [hU]; exact hT.at hW (fun a h1 _ => hS.2.1 a h1 (by rw [hAe]; exact Nat.not_le.mpr h1)) (fun _ h => h)
set_option maxHeartbeats 4000000 in
set_option maxRecDepth 100000 in
/-- put throws -/
theorem x_put1 (l : Launch) (hfl : l.flags = pinnedFlags ++ [noTraceFlag]) (dC : Nat → ClassId) (dI : Nat → Nat → Nat) (cT : Nat → ClassId) (ds : Nat) (x : Int32) (y : Int32) (z : Int32) (hbad : x < 0 ∨ 255 < x) : xk_T l y_DS_put (Cond.code y_DS_put b_DS_put 5 (Option.some Jvm.ClassFile.FieldType.int) :: BIG) ({ frames := 8, cells := 1, slots := 6, locals := 123 }) (va_Pc [.ref ds, .int x, .int y, .int z] (fun U => xz_T (fun _ => False) U U.heap ∧ va_P (dC, dI) vcl [] U.heap ∧ va_K (dC, dI) vcl (tyL cT) U)) xz_IA := by
  refine xk_T.ofW (cc := b_DS_put) (maxL := 5) (ret := (Option.some Jvm.ClassFile.FieldType.int)) (by decide) rfl ?_
  intro p e s m args below meth c s₁ B hml hv hno
  obtain ⟨hargs, hT, hP, hK⟩ := hv
  have hx := B.exec
  have hb := B.bytes
  have hts := atoms_spec (ws := (Cond.code y_DS_put b_DS_put 5 (Option.some Jvm.ClassFile.FieldType.int) :: BIG)) B.pre
  have hg : ∀ w ∈ BIG, w.before _ s = true := fun w h => hts w (List.mem_cons_of_mem _ h)
  have hown : s.vm.findClass "DoorServer" = some m.cls := findClass_of_methodNamed B.named
  have hlocks := B.notSynchronized
  have htr := Launch.traces_off hfl B.admits
  obtain ⟨A, hAe⟩ : ∃ A : Nat → Prop, A = fun q => s.heap.size ≤ q := ⟨_, rfl⟩
  have hA : ∀ q : Nat, s.heap.size ≤ q → A q := fun q h => by rw [hAe]; exact h
  have hS : va_S A s.heap s.heap [] := va_S.rf
  have hD : va_D A [] := ⟨fun i j p q h => by simp at h, fun k q h => by simp at h⟩
  have hl := lv_entry ([.ref ds, .int x, .int y, .int z]) (n := 5) (Nat.le_of_ble_eq_true rfl)
  refine W.eq (g2 := entryFrame m (List.toArray [.ref ds, .int x, .int y, .int z]) 5) (by rw [hargs]) ?_
  rw [lg_entry_eq]
  generalize (lg_sl ([.ref ds, .int x, .int y, .int z]) ++ List.replicate (5 - (lg_sl ([.ref ds, .int x, .int y, .int z])).length) Slot.unset).toArray = ls at hl ⊢
  have hl : lv_has ls 5 [(0, .ref ds), (1, .int x), (2, .int y), (3, .int z)] := hl
  change W p l e ({ frames := 8, cells := 1, slots := 6, locals := 123 } : Room) s m args below meth c s.heap [] 0 0 _ _
  have hP : va_P (dC, dI) vcl [] s.heap := hP
  refine lv_iload_n hx hb d_DS_put_0 rfl (lv_at hl 1 rfl) ?_
  refine xk_callS (As := [.int x]) (rest := []) ⟨hx, hb, hml, hown, hg⟩ (x_requireByte l hfl x (hbad)) (va_cwS 1 hg (gI (List.forall_mem_append.mpr ⟨List.forall_mem_cons.mpr ⟨k_489, List.forall_mem_cons.mpr ⟨k_490, List.forall_mem_cons.mpr ⟨k_1, fun _ h => absurd h List.not_mem_nil⟩⟩⟩, List.forall_mem_cons.mpr ⟨k_491, fun _ h => h⟩⟩)) rfl rfl rfl (by decide +kernel) ⟨Nat.le_of_ble_eq_true rfl, Nat.le_of_ble_eq_true rfl⟩) ⟨fun a U g mk q => ?_, fun U hU hW => ⟨rfl, ?_⟩⟩ rfl hl.1 rfl (by decide) d_DS_put_1 ⟨Nat.le_of_ble_eq_true rfl, Nat.le_of_ble_eq_true rfl⟩ (xk_out2 (hno _) hlocks hS.1)
  · obtain ⟨q0, q1⟩ := q
    exact ⟨q0, q1.at (State.WarmedH.refl _) (fun _ _ _ => rfl) (fun _ h => h)⟩
  · show xz_T _ U U.heap; rw [hU]; exact hT.at hW (fun a h1 _ => hS.2.1 a h1 (by rw [hAe]; exact Nat.not_le.mpr h1)) (fun _ h => h)
set_option maxHeartbeats 4000000 in
set_option maxRecDepth 100000 in
/-- put throws -/
theorem x_put2 (l : Launch) (hfl : l.flags = pinnedFlags ++ [noTraceFlag]) (dC : Nat → ClassId) (dI : Nat → Nat → Nat) (cT : Nat → ClassId) (ds : Nat) (x : Int32) (y : Int32) (z : Int32) (hx1 : ¬ x < 0) (hx2 : ¬ 255 < x) (hbad : z < 0 ∨ 255 < z) : xk_T l y_DS_put (Cond.code y_DS_put b_DS_put 5 (Option.some Jvm.ClassFile.FieldType.int) :: BIG) ({ frames := 8, cells := 1, slots := 6, locals := 123 }) (va_Pc [.ref ds, .int x, .int y, .int z] (fun U => xz_T (fun _ => False) U U.heap ∧ va_P (dC, dI) vcl [] U.heap ∧ va_K (dC, dI) vcl (tyL cT) U)) xz_IA := by
  refine xk_T.ofW (cc := b_DS_put) (maxL := 5) (ret := (Option.some Jvm.ClassFile.FieldType.int)) (by decide) rfl ?_
  intro p e s m args below meth c s₁ B hml hv hno
  obtain ⟨hargs, hT, hP, hK⟩ := hv
  have hx := B.exec
  have hb := B.bytes
  have hts := atoms_spec (ws := (Cond.code y_DS_put b_DS_put 5 (Option.some Jvm.ClassFile.FieldType.int) :: BIG)) B.pre
  have hg : ∀ w ∈ BIG, w.before _ s = true := fun w h => hts w (List.mem_cons_of_mem _ h)
  have hown : s.vm.findClass "DoorServer" = some m.cls := findClass_of_methodNamed B.named
  have hlocks := B.notSynchronized
  have htr := Launch.traces_off hfl B.admits
  obtain ⟨A, hAe⟩ : ∃ A : Nat → Prop, A = fun q => s.heap.size ≤ q := ⟨_, rfl⟩
  have hA : ∀ q : Nat, s.heap.size ≤ q → A q := fun q h => by rw [hAe]; exact h
  have hS : va_S A s.heap s.heap [] := va_S.rf
  have hD : va_D A [] := ⟨fun i j p q h => by simp at h, fun k q h => by simp at h⟩
  have hl := lv_entry ([.ref ds, .int x, .int y, .int z]) (n := 5) (Nat.le_of_ble_eq_true rfl)
  refine W.eq (g2 := entryFrame m (List.toArray [.ref ds, .int x, .int y, .int z]) 5) (by rw [hargs]) ?_
  rw [lg_entry_eq]
  generalize (lg_sl ([.ref ds, .int x, .int y, .int z]) ++ List.replicate (5 - (lg_sl ([.ref ds, .int x, .int y, .int z])).length) Slot.unset).toArray = ls at hl ⊢
  have hl : lv_has ls 5 [(0, .ref ds), (1, .int x), (2, .int y), (3, .int z)] := hl
  change W p l e ({ frames := 8, cells := 1, slots := 6, locals := 123 } : Room) s m args below meth c s.heap [] 0 0 _ _
  have hP : va_P (dC, dI) vcl [] s.heap := hP
  refine lv_iload_n hx hb d_DS_put_0 rfl (lv_at hl 1 rfl) ?_
  have hPc := hP.sub (ws' := []) [] rfl
  have hDc := hD.sub (ws' := []) [] (by decide) rfl
  have hFc := va_free (wc := []) hD hS hA [] rfl
  refine va_callv (va_runS (As := [.int x]) (rest := []) ⟨hx, hb, hml, hown, hg⟩ (c_requireByte l dC dI cT s.heap.size x (hx1) (hx2)) (va_cwS 1 hg (gI (List.forall_mem_append.mpr ⟨List.forall_mem_cons.mpr ⟨k_489, List.forall_mem_cons.mpr ⟨k_490, List.forall_mem_cons.mpr ⟨k_1, fun _ h => absurd h List.not_mem_nil⟩⟩⟩, List.forall_mem_cons.mpr ⟨k_491, fun _ h => h⟩⟩)) rfl rfl rfl (by decide +kernel) ⟨Nat.le_of_ble_eq_true rfl, Nat.le_of_ble_eq_true rfl⟩) ⟨fun a U g mk q => by obtain ⟨q0, q1, qP, qK, qD⟩ := q; exact ⟨q0, q1, qP, va_K.moved (u := U) (U := U.calling g mk a) (Vm.Alike.refl U.vm) qK, qD⟩, fun U hU hW => ⟨rfl, by rw [hU], by rw [hU]; exact hPc, va_K.moved hW.alike hK, hDc.weaken (fun _ _ _ _ => trivial)⟩⟩ rfl rfl hl.1 rfl (lv_room (Nat.le_of_ble_eq_true rfl)) d_DS_put_1 ⟨Nat.le_of_ble_eq_true rfl, Nat.le_of_ble_eq_true rfl⟩) hS (fun q _ h => hFc q h) hFc (fun u t H1 locs ht hvm hw hB hz1 hk1 hS => ?_)
  try dsimp only at hw hB
  obtain ⟨hP1, hK1, hD1⟩ := hB
  rw [ht] at hP1
  obtain ⟨hP, hD⟩ := va_join (wr := []) (w1 := []) hP hD [] [] rfl rfl (by decide) (by decide) hk1 hFc hP1 hD1
  have hw5 := hw
  clear hPc hDc hFc hz1 hk1 hP1 hK1 hD1
  generalize H1 = H at hP hS ⊢
  have hP : va_P (dC, dI) vcl [] H := hP
  have hD : va_D A [] := hD
  refine lv_iload_n hx hb d_DS_put_4 rfl (lv_at hl 3 rfl) ?_
  refine va_forget (fun q hq => by have h9 := hS.2.2 q hq; rw [hAe] at h9; exact h9) ?_
  refine xk_callS (As := [.int z]) (rest := []) ⟨hx, hb, hml, hown, hg⟩ (x_requireByte l hfl z (hbad)) (va_cwS 1 hg (gI (List.forall_mem_append.mpr ⟨List.forall_mem_cons.mpr ⟨k_489, List.forall_mem_cons.mpr ⟨k_490, List.forall_mem_cons.mpr ⟨k_1, fun _ h => absurd h List.not_mem_nil⟩⟩⟩, List.forall_mem_cons.mpr ⟨k_491, fun _ h => h⟩⟩)) rfl rfl rfl (by decide +kernel) ⟨Nat.le_of_ble_eq_true rfl, Nat.le_of_ble_eq_true rfl⟩) ⟨fun a U g mk q => ?_, fun U hU hW => ⟨rfl, ?_⟩⟩ rfl hl.1 rfl (by decide) d_DS_put_5 ⟨Nat.le_of_ble_eq_true rfl, Nat.le_of_ble_eq_true rfl⟩ (xk_out2 (hno _) hlocks hS.1)
  · obtain ⟨q0, q1⟩ := q
    exact ⟨q0, q1.at (State.WarmedH.refl _) (fun _ _ _ => rfl) (fun _ h => h)⟩
  · show xz_T _ U U.heap; rw [hU]; exact hT.at hW (fun a h1 _ => hS.2.1 a h1 (by rw [hAe]; exact Nat.not_le.mpr h1)) (fun _ h => h)
set_option maxHeartbeats 4000000 in
set_option maxRecDepth 100000 in
/-- put throws -/
theorem x_put3 (l : Launch) (hfl : l.flags = pinnedFlags ++ [noTraceFlag]) (dC : Nat → ClassId) (dI : Nat → Nat → Nat) (cT : Nat → ClassId) (ds : Nat) (x : Int32) (y : Int32) (z : Int32) (hx1 : ¬ x < 0) (hx2 : ¬ 255 < x) (hz1 : ¬ z < 0) (hz2 : ¬ 255 < z) (hbad : y < 0 ∨ 100 < y) : xk_T l y_DS_put (Cond.code y_DS_put b_DS_put 5 (Option.some Jvm.ClassFile.FieldType.int) :: BIG) ({ frames := 8, cells := 1, slots := 6, locals := 123 }) (va_Pc [.ref ds, .int x, .int y, .int z] (fun U => xz_T (fun _ => False) U U.heap ∧ va_P (dC, dI) vcl [] U.heap ∧ va_K (dC, dI) vcl (tyL cT) U)) xz_IA := by
  refine xk_T.ofW (cc := b_DS_put) (maxL := 5) (ret := (Option.some Jvm.ClassFile.FieldType.int)) (by decide) rfl ?_
  intro p e s m args below meth c s₁ B hml hv hno
  obtain ⟨hargs, hT, hP, hK⟩ := hv
  have hx := B.exec
  have hb := B.bytes
  have hts := atoms_spec (ws := (Cond.code y_DS_put b_DS_put 5 (Option.some Jvm.ClassFile.FieldType.int) :: BIG)) B.pre
  have hg : ∀ w ∈ BIG, w.before _ s = true := fun w h => hts w (List.mem_cons_of_mem _ h)
  have hown : s.vm.findClass "DoorServer" = some m.cls := findClass_of_methodNamed B.named
  have hlocks := B.notSynchronized
  have htr := Launch.traces_off hfl B.admits
  obtain ⟨A, hAe⟩ : ∃ A : Nat → Prop, A = fun q => s.heap.size ≤ q := ⟨_, rfl⟩
  have hA : ∀ q : Nat, s.heap.size ≤ q → A q := fun q h => by rw [hAe]; exact h
  have hS : va_S A s.heap s.heap [] := va_S.rf
  have hD : va_D A [] := ⟨fun i j p q h => by simp at h, fun k q h => by simp at h⟩
  have hl := lv_entry ([.ref ds, .int x, .int y, .int z]) (n := 5) (Nat.le_of_ble_eq_true rfl)
  refine W.eq (g2 := entryFrame m (List.toArray [.ref ds, .int x, .int y, .int z]) 5) (by rw [hargs]) ?_
  rw [lg_entry_eq]
  generalize (lg_sl ([.ref ds, .int x, .int y, .int z]) ++ List.replicate (5 - (lg_sl ([.ref ds, .int x, .int y, .int z])).length) Slot.unset).toArray = ls at hl ⊢
  have hl : lv_has ls 5 [(0, .ref ds), (1, .int x), (2, .int y), (3, .int z)] := hl
  change W p l e ({ frames := 8, cells := 1, slots := 6, locals := 123 } : Room) s m args below meth c s.heap [] 0 0 _ _
  have hP : va_P (dC, dI) vcl [] s.heap := hP
  refine lv_iload_n hx hb d_DS_put_0 rfl (lv_at hl 1 rfl) ?_
  have hPc := hP.sub (ws' := []) [] rfl
  have hDc := hD.sub (ws' := []) [] (by decide) rfl
  have hFc := va_free (wc := []) hD hS hA [] rfl
  refine va_callv (va_runS (As := [.int x]) (rest := []) ⟨hx, hb, hml, hown, hg⟩ (c_requireByte l dC dI cT s.heap.size x (hx1) (hx2)) (va_cwS 1 hg (gI (List.forall_mem_append.mpr ⟨List.forall_mem_cons.mpr ⟨k_489, List.forall_mem_cons.mpr ⟨k_490, List.forall_mem_cons.mpr ⟨k_1, fun _ h => absurd h List.not_mem_nil⟩⟩⟩, List.forall_mem_cons.mpr ⟨k_491, fun _ h => h⟩⟩)) rfl rfl rfl (by decide +kernel) ⟨Nat.le_of_ble_eq_true rfl, Nat.le_of_ble_eq_true rfl⟩) ⟨fun a U g mk q => by obtain ⟨q0, q1, qP, qK, qD⟩ := q; exact ⟨q0, q1, qP, va_K.moved (u := U) (U := U.calling g mk a) (Vm.Alike.refl U.vm) qK, qD⟩, fun U hU hW => ⟨rfl, by rw [hU], by rw [hU]; exact hPc, va_K.moved hW.alike hK, hDc.weaken (fun _ _ _ _ => trivial)⟩⟩ rfl rfl hl.1 rfl (lv_room (Nat.le_of_ble_eq_true rfl)) d_DS_put_1 ⟨Nat.le_of_ble_eq_true rfl, Nat.le_of_ble_eq_true rfl⟩) hS (fun q _ h => hFc q h) hFc (fun u t H1 locs ht hvm hw hB hz1 hk1 hS => ?_)
  try dsimp only at hw hB
  obtain ⟨hP1, hK1, hD1⟩ := hB
  rw [ht] at hP1
  obtain ⟨hP, hD⟩ := va_join (wr := []) (w1 := []) hP hD [] [] rfl rfl (by decide) (by decide) hk1 hFc hP1 hD1
  have hw6 := hw
  clear hPc hDc hFc hz1 hk1 hP1 hK1 hD1
  generalize H1 = H at hP hS ⊢
  have hP : va_P (dC, dI) vcl [] H := hP
  have hD : va_D A [] := hD
  refine lv_iload_n hx hb d_DS_put_4 rfl (lv_at hl 3 rfl) ?_
  have hPc := hP.sub (ws' := []) [] rfl
  have hDc := hD.sub (ws' := []) [] (by decide) rfl
  have hFc := va_free (wc := []) hD hS hA [] rfl
  refine va_callv (va_runS (As := [.int z]) (rest := []) ⟨hx, hb, hml, hown, hg⟩ (c_requireByte l dC dI cT H.size z (hz1) (hz2)) (va_cwS 1 hg (gI (List.forall_mem_append.mpr ⟨List.forall_mem_cons.mpr ⟨k_489, List.forall_mem_cons.mpr ⟨k_490, List.forall_mem_cons.mpr ⟨k_1, fun _ h => absurd h List.not_mem_nil⟩⟩⟩, List.forall_mem_cons.mpr ⟨k_491, fun _ h => h⟩⟩)) rfl rfl rfl (by decide +kernel) ⟨Nat.le_of_ble_eq_true rfl, Nat.le_of_ble_eq_true rfl⟩) ⟨fun a U g mk q => by obtain ⟨q0, q1, qP, qK, qD⟩ := q; exact ⟨q0, q1, qP, va_K.moved (u := U) (U := U.calling g mk a) (Vm.Alike.refl U.vm) qK, qD⟩, fun U hU hW => ⟨rfl, by rw [hU], by rw [hU]; exact hPc, va_K.moved hW.alike hK, hDc.weaken (fun _ _ _ _ => trivial)⟩⟩ rfl rfl hl.1 rfl (lv_room (Nat.le_of_ble_eq_true rfl)) d_DS_put_5 ⟨Nat.le_of_ble_eq_true rfl, Nat.le_of_ble_eq_true rfl⟩) hS (fun q _ h => hFc q h) hFc (fun u t H1 locs ht hvm hw hB hz1 hk1 hS => ?_)
  try dsimp only at hw hB
  obtain ⟨hP1, hK1, hD1⟩ := hB
  rw [ht] at hP1
  obtain ⟨hP, hD⟩ := va_join (wr := []) (w1 := []) hP hD [] [] rfl rfl (by decide) (by decide) hk1 hFc hP1 hD1
  have hw7 := hw
  clear hPc hDc hFc hz1 hk1 hP1 hK1 hD1
  generalize H1 = H at hP hS ⊢
  have hP : va_P (dC, dI) vcl [] H := hP
  have hD : va_D A [] := hD
  refine lv_iload_n hx hb d_DS_put_8 rfl (lv_at hl 2 rfl) ?_
  refine lv_iconst (v := 0) hx hb d_DS_put_9 (by decide) ?_
  refine lv_bipush (v := 100) hx hb d_DS_put_10 (by decide) ?_
  refine va_forget (fun q hq => by have h9 := hS.2.2 q hq; rw [hAe] at h9; exact h9) ?_
  refine xk_callS (As := [.int y, .int 0, .int 100]) (rest := []) ⟨hx, hb, hml, hown, hg⟩ (x_requireWithin l hfl y 0 100 (hbad)) (va_cwS 3 hg (gI (List.forall_mem_append.mpr ⟨List.forall_mem_cons.mpr ⟨k_390, List.forall_mem_cons.mpr ⟨k_391, List.forall_mem_cons.mpr ⟨k_1, fun _ h => absurd h List.not_mem_nil⟩⟩⟩, List.forall_mem_cons.mpr ⟨k_392, fun _ h => h⟩⟩)) rfl rfl rfl (by decide +kernel) ⟨Nat.le_of_ble_eq_true rfl, Nat.le_of_ble_eq_true rfl⟩) ⟨fun a U g mk q => ?_, fun U hU hW => ⟨rfl, ?_⟩⟩ rfl hl.1 rfl (by decide) d_DS_put_12 ⟨Nat.le_of_ble_eq_true rfl, Nat.le_of_ble_eq_true rfl⟩ (xk_out2 (hno _) hlocks hS.1)
  · obtain ⟨q0, q1⟩ := q
    exact ⟨q0, q1.at (State.WarmedH.refl _) (fun _ _ _ => rfl) (fun _ h => h)⟩
  · show xz_T _ U U.heap; rw [hU]; exact hT.at hW (fun a h1 _ => hS.2.1 a h1 (by rw [hAe]; exact Nat.not_le.mpr h1)) (fun _ h => h)
set_option maxHeartbeats 4000000 in
set_option maxRecDepth 100000 in
/-- reply throws -/
theorem x_reply (l : Launch) (hfl : l.flags = pinnedFlags ++ [noTraceFlag]) (dC : Nat → ClassId) (dI : Nat → Nat → Nat) (cT : Nat → ClassId) (ds : Nat) (v : Int64) (y : Int32) (hbad : y < 1 ∨ 60 < y) : xk_T l y_DS_reply (Cond.code y_DS_reply b_DS_reply 8 (Option.some Jvm.ClassFile.FieldType.int) :: BIG) ({ frames := 8, cells := 1, slots := 6, locals := 123 }) (va_Pc [.ref ds, .long v, .int y] (fun U => xz_T (fun _ => False) U U.heap ∧ va_P (dC, dI) vcl [] U.heap ∧ va_K (dC, dI) vcl (tyL cT) U)) xz_IA := by
  refine xk_T.ofW (cc := b_DS_reply) (maxL := 8) (ret := (Option.some Jvm.ClassFile.FieldType.int)) (by decide) rfl ?_
  intro p e s m args below meth c s₁ B hml hv hno
  obtain ⟨hargs, hT, hP, hK⟩ := hv
  have hx := B.exec
  have hb := B.bytes
  have hts := atoms_spec (ws := (Cond.code y_DS_reply b_DS_reply 8 (Option.some Jvm.ClassFile.FieldType.int) :: BIG)) B.pre
  have hg : ∀ w ∈ BIG, w.before _ s = true := fun w h => hts w (List.mem_cons_of_mem _ h)
  have hown : s.vm.findClass "DoorServer" = some m.cls := findClass_of_methodNamed B.named
  have hlocks := B.notSynchronized
  have htr := Launch.traces_off hfl B.admits
  obtain ⟨A, hAe⟩ : ∃ A : Nat → Prop, A = fun q => s.heap.size ≤ q := ⟨_, rfl⟩
  have hA : ∀ q : Nat, s.heap.size ≤ q → A q := fun q h => by rw [hAe]; exact h
  have hS : va_S A s.heap s.heap [] := va_S.rf
  have hD : va_D A [] := ⟨fun i j p q h => by simp at h, fun k q h => by simp at h⟩
  have hl := lv_entry ([.ref ds, .long v, .int y]) (n := 8) (Nat.le_of_ble_eq_true rfl)
  refine W.eq (g2 := entryFrame m (List.toArray [.ref ds, .long v, .int y]) 8) (by rw [hargs]) ?_
  rw [lg_entry_eq]
  generalize (lg_sl ([.ref ds, .long v, .int y]) ++ List.replicate (8 - (lg_sl ([.ref ds, .long v, .int y])).length) Slot.unset).toArray = ls at hl ⊢
  have hl : lv_has ls 8 [(0, .ref ds), (1, .long v), (3, .int y)] := hl
  change W p l e ({ frames := 8, cells := 1, slots := 6, locals := 123 } : Room) s m args below meth c s.heap [] 0 0 _ _
  have hP : va_P (dC, dI) vcl [] s.heap := hP
  refine lv_iload_n hx hb d_DS_reply_0 rfl (lv_at hl 2 rfl) ?_
  refine lv_iconst (v := 1) hx hb d_DS_reply_1 (by decide) ?_
  refine lv_bipush (v := 60) hx hb d_DS_reply_2 (by decide) ?_
  refine xk_callS (As := [.int y, .int 1, .int 60]) (rest := []) ⟨hx, hb, hml, hown, hg⟩ (x_requireWithin l hfl y 1 60 (hbad)) (va_cwS 3 hg (gI (List.forall_mem_append.mpr ⟨List.forall_mem_cons.mpr ⟨k_390, List.forall_mem_cons.mpr ⟨k_391, List.forall_mem_cons.mpr ⟨k_1, fun _ h => absurd h List.not_mem_nil⟩⟩⟩, List.forall_mem_cons.mpr ⟨k_392, fun _ h => h⟩⟩)) rfl rfl rfl (by decide +kernel) ⟨Nat.le_of_ble_eq_true rfl, Nat.le_of_ble_eq_true rfl⟩) ⟨fun a U g mk q => ?_, fun U hU hW => ⟨rfl, ?_⟩⟩ rfl hl.1 rfl (by decide) d_DS_reply_4 ⟨Nat.le_of_ble_eq_true rfl, Nat.le_of_ble_eq_true rfl⟩ (xk_out2 (hno _) hlocks hS.1)
  · obtain ⟨q0, q1⟩ := q
    exact ⟨q0, q1.at (State.WarmedH.refl _) (fun _ _ _ => rfl) (fun _ h => h)⟩
  · show xz_T _ U U.heap; rw [hU]; exact hT.at hW (fun a h1 _ => hS.2.1 a h1 (by rw [hAe]; exact Nat.not_le.mpr h1)) (fun _ h => h)
set_option maxHeartbeats 4000000 in
set_option maxRecDepth 100000 in
/-- ticks throws -/
theorem x_ticks1 (l : Launch) (hfl : l.flags = pinnedFlags ++ [noTraceFlag]) (dC : Nat → ClassId) (dI : Nat → Nat → Nat) (cT : Nat → ClassId) (ds : Nat) (y : Int32) (hbad : y < 1 ∨ 1000 < y) : xk_T l y_DS_ticks (Cond.code y_DS_ticks b_DS_ticks 2 (Option.some Jvm.ClassFile.FieldType.int) :: BIG) ({ frames := 8, cells := 1, slots := 6, locals := 123 }) (va_Pc [.ref ds, .int y] (fun U => xz_T (fun _ => False) U U.heap ∧ va_P (dC, dI) vcl [] U.heap ∧ va_K (dC, dI) vcl (tyL cT) U)) xz_IA := by
  refine xk_T.ofW (cc := b_DS_ticks) (maxL := 2) (ret := (Option.some Jvm.ClassFile.FieldType.int)) (by decide) rfl ?_
  intro p e s m args below meth c s₁ B hml hv hno
  obtain ⟨hargs, hT, hP, hK⟩ := hv
  have hx := B.exec
  have hb := B.bytes
  have hts := atoms_spec (ws := (Cond.code y_DS_ticks b_DS_ticks 2 (Option.some Jvm.ClassFile.FieldType.int) :: BIG)) B.pre
  have hg : ∀ w ∈ BIG, w.before _ s = true := fun w h => hts w (List.mem_cons_of_mem _ h)
  have hown : s.vm.findClass "DoorServer" = some m.cls := findClass_of_methodNamed B.named
  have hlocks := B.notSynchronized
  have htr := Launch.traces_off hfl B.admits
  obtain ⟨A, hAe⟩ : ∃ A : Nat → Prop, A = fun q => s.heap.size ≤ q := ⟨_, rfl⟩
  have hA : ∀ q : Nat, s.heap.size ≤ q → A q := fun q h => by rw [hAe]; exact h
  have hS : va_S A s.heap s.heap [] := va_S.rf
  have hD : va_D A [] := ⟨fun i j p q h => by simp at h, fun k q h => by simp at h⟩
  have hl := lv_entry ([.ref ds, .int y]) (n := 2) (Nat.le_of_ble_eq_true rfl)
  refine W.eq (g2 := entryFrame m (List.toArray [.ref ds, .int y]) 2) (by rw [hargs]) ?_
  rw [lg_entry_eq]
  generalize (lg_sl ([.ref ds, .int y]) ++ List.replicate (2 - (lg_sl ([.ref ds, .int y])).length) Slot.unset).toArray = ls at hl ⊢
  have hl : lv_has ls 2 [(0, .ref ds), (1, .int y)] := hl
  change W p l e ({ frames := 8, cells := 1, slots := 6, locals := 123 } : Room) s m args below meth c s.heap [] 0 0 _ _
  have hP : va_P (dC, dI) vcl [] s.heap := hP
  refine lv_iload_n hx hb d_DS_ticks_0 rfl (lv_at hl 1 rfl) ?_
  refine lv_iconst (v := 1) hx hb d_DS_ticks_1 (by decide) ?_
  refine lv_sipush (v := 1000) hx hb d_DS_ticks_2 (by decide) ?_
  refine xk_callS (As := [.int y, .int 1, .int 1000]) (rest := []) ⟨hx, hb, hml, hown, hg⟩ (x_requireWithin l hfl y 1 1000 (hbad)) (va_cwS 3 hg (gI (List.forall_mem_append.mpr ⟨List.forall_mem_cons.mpr ⟨k_390, List.forall_mem_cons.mpr ⟨k_391, List.forall_mem_cons.mpr ⟨k_1, fun _ h => absurd h List.not_mem_nil⟩⟩⟩, List.forall_mem_cons.mpr ⟨k_392, fun _ h => h⟩⟩)) rfl rfl rfl (by decide +kernel) ⟨Nat.le_of_ble_eq_true rfl, Nat.le_of_ble_eq_true rfl⟩) ⟨fun a U g mk q => ?_, fun U hU hW => ⟨rfl, ?_⟩⟩ rfl hl.1 rfl (by decide) d_DS_ticks_5 ⟨Nat.le_of_ble_eq_true rfl, Nat.le_of_ble_eq_true rfl⟩ (xk_out2 (hno _) hlocks hS.1)
  · obtain ⟨q0, q1⟩ := q
    exact ⟨q0, q1.at (State.WarmedH.refl _) (fun _ _ _ => rfl) (fun _ h => h)⟩
  · show xz_T _ U U.heap; rw [hU]; exact hT.at hW (fun a h1 _ => hS.2.1 a h1 (by rw [hAe]; exact Nat.not_le.mpr h1)) (fun _ h => h)
set_option maxHeartbeats 4000000 in
set_option maxRecDepth 100000 in
/-- spoil throws -/
theorem x_spoil1 (l : Launch) (hfl : l.flags = pinnedFlags ++ [noTraceFlag]) (dC : Nat → ClassId) (dI : Nat → Nat → Nat) (cT : Nat → ClassId) (ds : Nat) (dr : Nat) (sv : Nat) (rr : Nat) (len : Nat) (f : Nat → Int32) (x : Int32) (y : Int32) (h20 : 20 ≤ len) (hbad : x < 0 ∨ nI (len - 1) < x) : xk_T l y_DS_spoil (Cond.code y_DS_spoil b_DS_spoil 3 (Option.some Jvm.ClassFile.FieldType.int) :: BIG) ({ frames := 8, cells := 1, slots := 6, locals := 123 }) (va_Pc [.ref ds, .int x, .int y] (fun U => xz_T (fun _ => False) U U.heap ∧ va_P (dC, dI) vcl [(ds, .inr (0, [.ref dr, .ref sv])), (dr, .inr (2, [.ref rr, .int (nI len)])), (rr, .inl ((cT 0), 1000, .inl f))] U.heap ∧ va_K (dC, dI) vcl (tyL cT) U)) xz_IA := by
  refine xk_T.ofW (cc := b_DS_spoil) (maxL := 3) (ret := (Option.some Jvm.ClassFile.FieldType.int)) (by decide) rfl ?_
  intro p e s m args below meth c s₁ B hml hv hno
  obtain ⟨hargs, hT, hP, hK⟩ := hv
  have hx := B.exec
  have hb := B.bytes
  have hts := atoms_spec (ws := (Cond.code y_DS_spoil b_DS_spoil 3 (Option.some Jvm.ClassFile.FieldType.int) :: BIG)) B.pre
  have hg : ∀ w ∈ BIG, w.before _ s = true := fun w h => hts w (List.mem_cons_of_mem _ h)
  have hown : s.vm.findClass "DoorServer" = some m.cls := findClass_of_methodNamed B.named
  have hlocks := B.notSynchronized
  have htr := Launch.traces_off hfl B.admits
  obtain ⟨A, hAe⟩ : ∃ A : Nat → Prop, A = fun q => s.heap.size ≤ q := ⟨_, rfl⟩
  have hA : ∀ q : Nat, s.heap.size ≤ q → A q := fun q h => by rw [hAe]; exact h
  have hS : va_S A s.heap s.heap [] := va_S.rf
  have hD : va_D A [] := ⟨fun i j p q h => by simp at h, fun k q h => by simp at h⟩
  have hl := lv_entry ([.ref ds, .int x, .int y]) (n := 3) (Nat.le_of_ble_eq_true rfl)
  refine W.eq (g2 := entryFrame m (List.toArray [.ref ds, .int x, .int y]) 3) (by rw [hargs]) ?_
  rw [lg_entry_eq]
  generalize (lg_sl ([.ref ds, .int x, .int y]) ++ List.replicate (3 - (lg_sl ([.ref ds, .int x, .int y])).length) Slot.unset).toArray = ls at hl ⊢
  have hl : lv_has ls 3 [(0, .ref ds), (1, .int x), (2, .int y)] := hl
  change W p l e ({ frames := 8, cells := 1, slots := 6, locals := 123 } : Room) s m args below meth c s.heap [] 0 0 _ _
  have hP : va_P (dC, dI) vcl [(ds, .inr (0, [.ref dr, .ref sv])), (dr, .inr (2, [.ref rr, .int (nI len)])), (rr, .inl ((cT 0), 1000, .inl f))] s.heap := hP
  refine lv_iload_n hx hb d_DS_spoil_0 rfl (lv_at hl 1 rfl) ?_
  refine lv_iconst (v := 0) hx hb d_DS_spoil_1 (by decide) ?_
  refine lv_aload_n hx hb d_DS_spoil_2 rfl (lv_at hl 0 rfl) ?_
  refine va_get (D := (dC, dI)) (ci := 0) (v := (.ref dr)) (C := R_DS) (T := F_DS) (N := 2) hx hb hg in_DS hown hK hP 0 rfl rfl 0 (by decide) (hg _ k_368) (fun _ h9 => h9) rfl d_DS_spoil_3 ?_
  refine va_get (D := (dC, dI)) (ci := 2) (v := (.int (nI len))) (C := R_Pk) (T := F_Pk) (N := 2) hx hb hg in_Pk hown hK hP 1 rfl rfl 1 (by decide) (hg _ k_59) (fun x9 h9 => u_same (hg _ k_53) x9 h9) rfl d_DS_spoil_6 ?_
  refine lv_iconst (v := 1) hx hb d_DS_spoil_9 (by decide) ?_
  refine lv_isub hx hb d_DS_spoil_10 ?_
  refine lv_topi (fun x9 e8 => ?_)
  obtain rfl : x9 = nI (len - 1) := by rw [e8]; exact pk_sub (b := 1) (by omega)
  refine xk_callS (As := [.int x, .int 0, .int (nI (len - 1))]) (rest := []) ⟨hx, hb, hml, hown, hg⟩ (x_requireWithin l hfl x 0 (nI (len - 1)) (hbad)) (va_cwS 3 hg (gI (List.forall_mem_append.mpr ⟨List.forall_mem_cons.mpr ⟨k_390, List.forall_mem_cons.mpr ⟨k_391, List.forall_mem_cons.mpr ⟨k_1, fun _ h => absurd h List.not_mem_nil⟩⟩⟩, List.forall_mem_cons.mpr ⟨k_392, fun _ h => h⟩⟩)) rfl rfl rfl (by decide +kernel) ⟨Nat.le_of_ble_eq_true rfl, Nat.le_of_ble_eq_true rfl⟩) ⟨fun a U g mk q => ?_, fun U hU hW => ⟨rfl, ?_⟩⟩ rfl hl.1 rfl (by decide) d_DS_spoil_11 ⟨Nat.le_of_ble_eq_true rfl, Nat.le_of_ble_eq_true rfl⟩ (xk_out2 (hno _) hlocks hS.1)
  · obtain ⟨q0, q1⟩ := q
    exact ⟨q0, q1.at (State.WarmedH.refl _) (fun _ _ _ => rfl) (fun _ h => h)⟩
  · show xz_T _ U U.heap; rw [hU]; exact hT.at hW (fun a h1 _ => hS.2.1 a h1 (by rw [hAe]; exact Nat.not_le.mpr h1)) (fun _ h => h)
set_option maxHeartbeats 4000000 in
set_option maxRecDepth 100000 in
/-- spoil throws -/
theorem x_spoil2 (l : Launch) (hfl : l.flags = pinnedFlags ++ [noTraceFlag]) (dC : Nat → ClassId) (dI : Nat → Nat → Nat) (cT : Nat → ClassId) (ds : Nat) (dr : Nat) (sv : Nat) (rr : Nat) (len : Nat) (f : Nat → Int32) (x : Int32) (y : Int32) (h20 : 20 ≤ len) (hx1 : ¬ x < 0) (hx2 : ¬ nI (len - 1) < x) (hbad : y < 0 ∨ 255 < y) : xk_T l y_DS_spoil (Cond.code y_DS_spoil b_DS_spoil 3 (Option.some Jvm.ClassFile.FieldType.int) :: BIG) ({ frames := 8, cells := 1, slots := 6, locals := 123 }) (va_Pc [.ref ds, .int x, .int y] (fun U => xz_T (fun _ => False) U U.heap ∧ va_P (dC, dI) vcl [(ds, .inr (0, [.ref dr, .ref sv])), (dr, .inr (2, [.ref rr, .int (nI len)])), (rr, .inl ((cT 0), 1000, .inl f))] U.heap ∧ va_K (dC, dI) vcl (tyL cT) U)) xz_IA := by
  refine xk_T.ofW (cc := b_DS_spoil) (maxL := 3) (ret := (Option.some Jvm.ClassFile.FieldType.int)) (by decide) rfl ?_
  intro p e s m args below meth c s₁ B hml hv hno
  obtain ⟨hargs, hT, hP, hK⟩ := hv
  have hx := B.exec
  have hb := B.bytes
  have hts := atoms_spec (ws := (Cond.code y_DS_spoil b_DS_spoil 3 (Option.some Jvm.ClassFile.FieldType.int) :: BIG)) B.pre
  have hg : ∀ w ∈ BIG, w.before _ s = true := fun w h => hts w (List.mem_cons_of_mem _ h)
  have hown : s.vm.findClass "DoorServer" = some m.cls := findClass_of_methodNamed B.named
  have hlocks := B.notSynchronized
  have htr := Launch.traces_off hfl B.admits
  obtain ⟨A, hAe⟩ : ∃ A : Nat → Prop, A = fun q => s.heap.size ≤ q := ⟨_, rfl⟩
  have hA : ∀ q : Nat, s.heap.size ≤ q → A q := fun q h => by rw [hAe]; exact h
  have hS : va_S A s.heap s.heap [] := va_S.rf
  have hD : va_D A [] := ⟨fun i j p q h => by simp at h, fun k q h => by simp at h⟩
  have hl := lv_entry ([.ref ds, .int x, .int y]) (n := 3) (Nat.le_of_ble_eq_true rfl)
  refine W.eq (g2 := entryFrame m (List.toArray [.ref ds, .int x, .int y]) 3) (by rw [hargs]) ?_
  rw [lg_entry_eq]
  generalize (lg_sl ([.ref ds, .int x, .int y]) ++ List.replicate (3 - (lg_sl ([.ref ds, .int x, .int y])).length) Slot.unset).toArray = ls at hl ⊢
  have hl : lv_has ls 3 [(0, .ref ds), (1, .int x), (2, .int y)] := hl
  change W p l e ({ frames := 8, cells := 1, slots := 6, locals := 123 } : Room) s m args below meth c s.heap [] 0 0 _ _
  have hP : va_P (dC, dI) vcl [(ds, .inr (0, [.ref dr, .ref sv])), (dr, .inr (2, [.ref rr, .int (nI len)])), (rr, .inl ((cT 0), 1000, .inl f))] s.heap := hP
  refine lv_iload_n hx hb d_DS_spoil_0 rfl (lv_at hl 1 rfl) ?_
  refine lv_iconst (v := 0) hx hb d_DS_spoil_1 (by decide) ?_
  refine lv_aload_n hx hb d_DS_spoil_2 rfl (lv_at hl 0 rfl) ?_
  refine va_get (D := (dC, dI)) (ci := 0) (v := (.ref dr)) (C := R_DS) (T := F_DS) (N := 2) hx hb hg in_DS hown hK hP 0 rfl rfl 0 (by decide) (hg _ k_368) (fun _ h9 => h9) rfl d_DS_spoil_3 ?_
  refine va_get (D := (dC, dI)) (ci := 2) (v := (.int (nI len))) (C := R_Pk) (T := F_Pk) (N := 2) hx hb hg in_Pk hown hK hP 1 rfl rfl 1 (by decide) (hg _ k_59) (fun x9 h9 => u_same (hg _ k_53) x9 h9) rfl d_DS_spoil_6 ?_
  refine lv_iconst (v := 1) hx hb d_DS_spoil_9 (by decide) ?_
  refine lv_isub hx hb d_DS_spoil_10 ?_
  refine lv_topi (fun x11 e10 => ?_)
  obtain rfl : x11 = nI (len - 1) := by rw [e10]; exact pk_sub (b := 1) (by omega)
  have hP := hP.sub (ws' := []) [] rfl
  have hPc := hP.sub (ws' := []) [] rfl
  have hDc := hD.sub (ws' := []) [] (by decide) rfl
  have hFc := va_free (wc := []) hD hS hA [] rfl
  refine va_callv (va_runS (As := [.int x, .int 0, .int (nI (len - 1))]) (rest := []) ⟨hx, hb, hml, hown, hg⟩ (c_requireWithin l dC dI cT s.heap.size x 0 (nI (len - 1)) (hx1) (hx2)) (va_cwS 3 hg (gI (List.forall_mem_append.mpr ⟨List.forall_mem_cons.mpr ⟨k_390, List.forall_mem_cons.mpr ⟨k_391, List.forall_mem_cons.mpr ⟨k_1, fun _ h => absurd h List.not_mem_nil⟩⟩⟩, List.forall_mem_cons.mpr ⟨k_392, fun _ h => h⟩⟩)) rfl rfl rfl (by decide +kernel) ⟨Nat.le_of_ble_eq_true rfl, Nat.le_of_ble_eq_true rfl⟩) ⟨fun a U g mk q => by obtain ⟨q0, q1, qP, qK, qD⟩ := q; exact ⟨q0, q1, qP, va_K.moved (u := U) (U := U.calling g mk a) (Vm.Alike.refl U.vm) qK, qD⟩, fun U hU hW => ⟨rfl, by rw [hU], by rw [hU]; exact hPc, va_K.moved hW.alike hK, hDc.weaken (fun _ _ _ _ => trivial)⟩⟩ rfl rfl hl.1 rfl (lv_room (Nat.le_of_ble_eq_true rfl)) d_DS_spoil_11 ⟨Nat.le_of_ble_eq_true rfl, Nat.le_of_ble_eq_true rfl⟩) hS (fun q _ h => hFc q h) hFc (fun u t H1 locs ht hvm hw hB hz1 hk1 hS => ?_)
  try dsimp only at hw hB
  obtain ⟨hP1, hK1, hD1⟩ := hB
  rw [ht] at hP1
  obtain ⟨hP, hD⟩ := va_join (wr := []) (w1 := []) hP hD [] [] rfl rfl (by decide) (by decide) hk1 hFc hP1 hD1
  have hw12 := hw
  clear hPc hDc hFc hz1 hk1 hP1 hK1 hD1
  generalize H1 = H at hP hS ⊢
  have hP : va_P (dC, dI) vcl [] H := hP
  have hD : va_D A [] := hD
  refine lv_iload_n hx hb d_DS_spoil_14 rfl (lv_at hl 2 rfl) ?_
  refine va_forget (fun q hq => by have h9 := hS.2.2 q hq; rw [hAe] at h9; exact h9) ?_
  refine xk_callS (As := [.int y]) (rest := []) ⟨hx, hb, hml, hown, hg⟩ (x_requireByte l hfl y (hbad)) (va_cwS 1 hg (gI (List.forall_mem_append.mpr ⟨List.forall_mem_cons.mpr ⟨k_489, List.forall_mem_cons.mpr ⟨k_490, List.forall_mem_cons.mpr ⟨k_1, fun _ h => absurd h List.not_mem_nil⟩⟩⟩, List.forall_mem_cons.mpr ⟨k_491, fun _ h => h⟩⟩)) rfl rfl rfl (by decide +kernel) ⟨Nat.le_of_ble_eq_true rfl, Nat.le_of_ble_eq_true rfl⟩) ⟨fun a U g mk q => ?_, fun U hU hW => ⟨rfl, ?_⟩⟩ rfl hl.1 rfl (by decide) d_DS_spoil_15 ⟨Nat.le_of_ble_eq_true rfl, Nat.le_of_ble_eq_true rfl⟩ (xk_out2 (hno _) hlocks hS.1)
  · obtain ⟨q0, q1⟩ := q
    exact ⟨q0, q1.at (State.WarmedH.refl _) (fun _ _ _ => rfl) (fun _ h => h)⟩
  · show xz_T _ U U.heap; rw [hU]; exact hT.at hW (fun a h1 _ => hS.2.1 a h1 (by rw [hAe]; exact Nat.not_le.mpr h1)) (fun _ h => h)
set_option maxHeartbeats 4000000 in
set_option maxRecDepth 100000 in
/-- byteAt throws -/
theorem x_byteAt (l : Launch) (hfl : l.flags = pinnedFlags ++ [noTraceFlag]) (dC : Nat → ClassId) (dI : Nat → Nat → Nat) (cT : Nat → ClassId) (ds : Nat) (dr : Nat) (sv : Nat) (rr : Nat) (g0 : Nat) (se : Nat) (pw : Nat) (ty : Nat) (an : Nat) (aw : Nat) (ts : Nat) (ss : Nat) (rq : Nat) (tm : Int32) (n3 : Int32) (n4 : Int32) (ar : Nat) (al : Nat) (fa : Nat → Int32) (x : Int32) (hbad : x < 0 ∨ nI al - 1 < x) : xk_T l y_DS_byteAt (Cond.code y_DS_byteAt b_DS_byteAt 2 (Option.some Jvm.ClassFile.FieldType.int) :: BIG) ({ frames := 8, cells := 1, slots := 6, locals := 123 }) (va_Pc [.ref ds, .int x] (fun U => xz_T (fun _ => False) U U.heap ∧ va_P (dC, dI) vcl [(ds, .inr (0, [.ref dr, .ref sv])), (sv, .inr (5, [.ref se, .ref pw, .ref g0, .ref ty, .ref an, .ref aw, .ref ts, .ref ss, .ref rq, .int tm, .int n3, .int n4])), (an, .inr (2, [.ref ar, .int (nI al)])), (ar, .inl ((cT 0), 72, .inl fa))] U.heap ∧ va_K (dC, dI) vcl (tyL cT) U)) xz_IA := by
  refine xk_T.ofW (cc := b_DS_byteAt) (maxL := 2) (ret := (Option.some Jvm.ClassFile.FieldType.int)) (by decide) rfl ?_
  intro p e s m args below meth c s₁ B hml hv hno
  obtain ⟨hargs, hT, hP, hK⟩ := hv
  have hx := B.exec
  have hb := B.bytes
  have hts := atoms_spec (ws := (Cond.code y_DS_byteAt b_DS_byteAt 2 (Option.some Jvm.ClassFile.FieldType.int) :: BIG)) B.pre
  have hg : ∀ w ∈ BIG, w.before _ s = true := fun w h => hts w (List.mem_cons_of_mem _ h)
  have hown : s.vm.findClass "DoorServer" = some m.cls := findClass_of_methodNamed B.named
  have hlocks := B.notSynchronized
  have htr := Launch.traces_off hfl B.admits
  obtain ⟨A, hAe⟩ : ∃ A : Nat → Prop, A = fun q => s.heap.size ≤ q := ⟨_, rfl⟩
  have hA : ∀ q : Nat, s.heap.size ≤ q → A q := fun q h => by rw [hAe]; exact h
  have hS : va_S A s.heap s.heap [] := va_S.rf
  have hD : va_D A [] := ⟨fun i j p q h => by simp at h, fun k q h => by simp at h⟩
  have hl := lv_entry ([.ref ds, .int x]) (n := 2) (Nat.le_of_ble_eq_true rfl)
  refine W.eq (g2 := entryFrame m (List.toArray [.ref ds, .int x]) 2) (by rw [hargs]) ?_
  rw [lg_entry_eq]
  generalize (lg_sl ([.ref ds, .int x]) ++ List.replicate (2 - (lg_sl ([.ref ds, .int x])).length) Slot.unset).toArray = ls at hl ⊢
  have hl : lv_has ls 2 [(0, .ref ds), (1, .int x)] := hl
  change W p l e ({ frames := 8, cells := 1, slots := 6, locals := 123 } : Room) s m args below meth c s.heap [] 0 0 _ _
  have hP : va_P (dC, dI) vcl [(ds, .inr (0, [.ref dr, .ref sv])), (sv, .inr (5, [.ref se, .ref pw, .ref g0, .ref ty, .ref an, .ref aw, .ref ts, .ref ss, .ref rq, .int tm, .int n3, .int n4])), (an, .inr (2, [.ref ar, .int (nI al)])), (ar, .inl ((cT 0), 72, .inl fa))] s.heap := hP
  refine lv_iload_n hx hb d_DS_byteAt_0 rfl (lv_at hl 1 rfl) ?_
  refine lv_iconst (v := 0) hx hb d_DS_byteAt_1 (by decide) ?_
  refine lv_aload_n hx hb d_DS_byteAt_2 rfl (lv_at hl 0 rfl) ?_
  refine va_get (D := (dC, dI)) (ci := 0) (v := (.ref sv)) (C := R_DS) (T := F_DS) (N := 2) hx hb hg in_DS hown hK hP 0 rfl rfl 1 (by decide) (hg _ k_369) (fun _ h9 => h9) rfl d_DS_byteAt_3 ?_
  refine va_get (D := (dC, dI)) (ci := 5) (v := (.ref an)) (C := R_Sv) (T := F_Sv) (N := 12) hx hb hg in_Sv hown hK hP 1 rfl rfl 4 (by decide) (hg _ k_329) (fun _ h9 => h9) rfl d_DS_byteAt_6 ?_
  refine va_get (D := (dC, dI)) (ci := 2) (v := (.int (nI al))) (C := R_Pk) (T := F_Pk) (N := 2) hx hb hg in_Pk hown hK hP 2 rfl rfl 1 (by decide) (hg _ k_59) (fun x9 h9 => u_same (hg _ k_53) x9 h9) rfl d_DS_byteAt_9 ?_
  refine lv_iconst (v := 1) hx hb d_DS_byteAt_12 (by decide) ?_
  refine lv_isub hx hb d_DS_byteAt_13 ?_
  refine xk_callS (As := [.int x, .int 0, .int ((nI al) - 1)]) (rest := []) ⟨hx, hb, hml, hown, hg⟩ (x_requireWithin l hfl x 0 (nI al - 1) (hbad)) (va_cwS 3 hg (gI (List.forall_mem_append.mpr ⟨List.forall_mem_cons.mpr ⟨k_390, List.forall_mem_cons.mpr ⟨k_391, List.forall_mem_cons.mpr ⟨k_1, fun _ h => absurd h List.not_mem_nil⟩⟩⟩, List.forall_mem_cons.mpr ⟨k_392, fun _ h => h⟩⟩)) rfl rfl rfl (by decide +kernel) ⟨Nat.le_of_ble_eq_true rfl, Nat.le_of_ble_eq_true rfl⟩) ⟨fun a U g mk q => ?_, fun U hU hW => ⟨rfl, ?_⟩⟩ rfl hl.1 rfl (by decide) d_DS_byteAt_14 ⟨Nat.le_of_ble_eq_true rfl, Nat.le_of_ble_eq_true rfl⟩ (xk_out2 (hno _) hlocks hS.1)
  · obtain ⟨q0, q1⟩ := q
    exact ⟨q0, q1.at (State.WarmedH.refl _) (fun _ _ _ => rfl) (fun _ h => h)⟩
  · show xz_T _ U U.heap; rw [hU]; exact hT.at hW (fun a h1 _ => hS.2.1 a h1 (by rw [hAe]; exact Nat.not_le.mpr h1)) (fun _ h => h)
set_option maxHeartbeats 4000000 in
set_option maxRecDepth 100000 in
/-- ticks throws -/
theorem x_ticks2 (l : Launch) (hfl : l.flags = pinnedFlags ++ [noTraceFlag]) (dC : Nat → ClassId) (dI : Nat → Nat → Nat) (cT : Nat → ClassId) (ds : Nat) (dr : Nat) (sv : Nat) (rr : Nat) (g0 : Nat) (se : Nat) (pw : Nat) (ty : Nat) (an : Nat) (aw : Nat) (ts : Nat) (ss : Nat) (rq : Nat) (n3 : Int32) (n4 : Int32) (tk : Nat) (k : Nat) (hk1 : 1 ≤ k) (hk2 : k ≤ 1000) (htk : tk ≤ 1000000) (hbad : 1000000 < tk + k) : xk_T l y_DS_ticks (Cond.code y_DS_ticks b_DS_ticks 2 (Option.some Jvm.ClassFile.FieldType.int) :: BIG) ({ frames := 8, cells := 1, slots := 6, locals := 123 }) (va_Pc [.ref ds, .int (nI k)] (fun U => xz_T (fun _ => False) U U.heap ∧ va_P (dC, dI) vcl [(ds, .inr (0, [.ref dr, .ref sv])), (sv, .inr (5, [.ref se, .ref pw, .ref g0, .ref ty, .ref an, .ref aw, .ref ts, .ref ss, .ref rq, .int (nI tk), .int n3, .int n4]))] U.heap ∧ va_K (dC, dI) vcl (tyL cT) U)) xz_IA := by
  refine xk_T.ofW (cc := b_DS_ticks) (maxL := 2) (ret := (Option.some Jvm.ClassFile.FieldType.int)) (by decide) rfl ?_
  intro p e s m args below meth c s₁ B hml hv hno
  obtain ⟨hargs, hT, hP, hK⟩ := hv
  have hx := B.exec
  have hb := B.bytes
  have hts := atoms_spec (ws := (Cond.code y_DS_ticks b_DS_ticks 2 (Option.some Jvm.ClassFile.FieldType.int) :: BIG)) B.pre
  have hg : ∀ w ∈ BIG, w.before _ s = true := fun w h => hts w (List.mem_cons_of_mem _ h)
  have hown : s.vm.findClass "DoorServer" = some m.cls := findClass_of_methodNamed B.named
  have hlocks := B.notSynchronized
  have htr := Launch.traces_off hfl B.admits
  obtain ⟨A, hAe⟩ : ∃ A : Nat → Prop, A = fun q => s.heap.size ≤ q := ⟨_, rfl⟩
  have hA : ∀ q : Nat, s.heap.size ≤ q → A q := fun q h => by rw [hAe]; exact h
  have hS : va_S A s.heap s.heap [] := va_S.rf
  have hD : va_D A [] := ⟨fun i j p q h => by simp at h, fun k q h => by simp at h⟩
  have hl := lv_entry ([.ref ds, .int (nI k)]) (n := 2) (Nat.le_of_ble_eq_true rfl)
  refine W.eq (g2 := entryFrame m (List.toArray [.ref ds, .int (nI k)]) 2) (by rw [hargs]) ?_
  rw [lg_entry_eq]
  generalize (lg_sl ([.ref ds, .int (nI k)]) ++ List.replicate (2 - (lg_sl ([.ref ds, .int (nI k)])).length) Slot.unset).toArray = ls at hl ⊢
  have hl : lv_has ls 2 [(0, .ref ds), (1, .int (nI k))] := hl
  change W p l e ({ frames := 8, cells := 1, slots := 6, locals := 123 } : Room) s m args below meth c s.heap [] 0 0 _ _
  have hP : va_P (dC, dI) vcl [(ds, .inr (0, [.ref dr, .ref sv])), (sv, .inr (5, [.ref se, .ref pw, .ref g0, .ref ty, .ref an, .ref aw, .ref ts, .ref ss, .ref rq, .int (nI tk), .int n3, .int n4]))] s.heap := hP
  have hP0 := hP
  refine lv_iload_n hx hb d_DS_ticks_0 rfl (lv_at hl 1 rfl) ?_
  refine lv_iconst (v := 1) hx hb d_DS_ticks_1 (by decide) ?_
  refine lv_sipush (v := 1000) hx hb d_DS_ticks_2 (by decide) ?_
  have hP := hP.sub (ws' := []) [] rfl
  have hPc := hP.sub (ws' := []) [] rfl
  have hDc := hD.sub (ws' := []) [] (by decide) rfl
  have hFc := va_free (wc := []) hD hS hA [] rfl
  refine va_callv (va_runS (As := [.int (nI k), .int 1, .int 1000]) (rest := []) ⟨hx, hb, hml, hown, hg⟩ (c_requireWithin l dC dI cT s.heap.size (nI k) 1 1000 (nI_nlt (b := 1) hk1 (by omega)) (nI_nlt (a := 1000) hk2 (by decide))) (va_cwS 3 hg (gI (List.forall_mem_append.mpr ⟨List.forall_mem_cons.mpr ⟨k_390, List.forall_mem_cons.mpr ⟨k_391, List.forall_mem_cons.mpr ⟨k_1, fun _ h => absurd h List.not_mem_nil⟩⟩⟩, List.forall_mem_cons.mpr ⟨k_392, fun _ h => h⟩⟩)) rfl rfl rfl (by decide +kernel) ⟨Nat.le_of_ble_eq_true rfl, Nat.le_of_ble_eq_true rfl⟩) ⟨fun a U g mk q => by obtain ⟨q0, q1, qP, qK, qD⟩ := q; exact ⟨q0, q1, qP, va_K.moved (u := U) (U := U.calling g mk a) (Vm.Alike.refl U.vm) qK, qD⟩, fun U hU hW => ⟨rfl, by rw [hU], by rw [hU]; exact hPc, va_K.moved hW.alike hK, hDc.weaken (fun _ _ _ _ => trivial)⟩⟩ rfl rfl hl.1 rfl (lv_room (Nat.le_of_ble_eq_true rfl)) d_DS_ticks_5 ⟨Nat.le_of_ble_eq_true rfl, Nat.le_of_ble_eq_true rfl⟩) hS (fun q _ h => hFc q h) hFc (fun u t H1 locs ht hvm hw hB hz1 hk1 hS => ?_)
  try dsimp only at hw hB
  obtain ⟨hP1, hK1, hD1⟩ := hB
  rw [ht] at hP1
  obtain ⟨hP, hD⟩ := va_join (wr := []) (w1 := []) hP hD [] [] rfl rfl (by decide) (by decide) hk1 hFc hP1 hD1
  have hw13 := hw
  clear hPc hDc hFc hz1 hk1 hP1 hK1 hD1
  generalize H1 = H at hP hS ⊢
  have hP : va_P (dC, dI) vcl [] H := hP
  have hD : va_D A [] := hD
  have hP : va_P (dC, dI) vcl [(ds, .inr (0, [.ref dr, .ref sv])), (sv, .inr (5, [.ref se, .ref pw, .ref g0, .ref ty, .ref an, .ref aw, .ref ts, .ref ss, .ref rq, .int (nI tk), .int n3, .int n4]))] H := hP0.kept (fun k q hk => hS.2.1 q.1 (hP0 k q hk).lt (by rw [hAe]; exact Nat.not_le.mpr (hP0 k q hk).lt))
  refine lv_aload_n hx hb d_DS_ticks_8 rfl (lv_at hl 0 rfl) ?_
  refine va_get (D := (dC, dI)) (ci := 0) (v := (.ref sv)) (C := R_DS) (T := F_DS) (N := 2) hx hb hg in_DS hown hK hP 0 rfl rfl 1 (by decide) (hg _ k_369) (fun _ h9 => h9) rfl d_DS_ticks_9 ?_
  refine va_get (D := (dC, dI)) (ci := 5) (v := (.int (nI tk))) (C := R_Sv) (T := F_Sv) (N := 12) hx hb hg in_Sv hown hK hP 1 rfl rfl 9 (by decide) (hg _ k_338) (fun _ h9 => h9) rfl d_DS_ticks_12 ?_
  refine lv_iload_n hx hb d_DS_ticks_15 rfl (lv_at hl 1 rfl) ?_
  refine lv_iadd hx hb d_DS_ticks_16 ?_
  refine lv_topi (fun x15 e14 => ?_)
  obtain rfl : x15 = nI (tk + k) := by rw [e14]; exact nI_add tk k
  refine lv_iconst (v := 0) hx hb d_DS_ticks_17 (by decide) ?_
  refine lv_ldc (v := 1000000) hx hb hown (hg _ k_926) d_DS_ticks_18 ?_
  refine va_forget (fun q hq => by have h9 := hS.2.2 q hq; rw [hAe] at h9; exact h9) ?_
  refine xk_callS (As := [.int (nI (tk + k)), .int 0, .int 1000000]) (rest := []) ⟨hx, hb, hml, hown, hg⟩ (x_requireWithin l hfl (nI (tk + k)) 0 1000000 (Or.inr (nI_lt (a := 1000000) hbad (by omega)))) (va_cwS 3 hg (gI (List.forall_mem_append.mpr ⟨List.forall_mem_cons.mpr ⟨k_390, List.forall_mem_cons.mpr ⟨k_391, List.forall_mem_cons.mpr ⟨k_1, fun _ h => absurd h List.not_mem_nil⟩⟩⟩, List.forall_mem_cons.mpr ⟨k_392, fun _ h => h⟩⟩)) rfl rfl rfl (by decide +kernel) ⟨Nat.le_of_ble_eq_true rfl, Nat.le_of_ble_eq_true rfl⟩) ⟨fun a U g mk q => ?_, fun U hU hW => ⟨rfl, ?_⟩⟩ rfl hl.1 rfl (by decide) d_DS_ticks_20 ⟨Nat.le_of_ble_eq_true rfl, Nat.le_of_ble_eq_true rfl⟩ (xk_out2 (hno _) hlocks hS.1)
  · obtain ⟨q0, q1⟩ := q
    exact ⟨q0, q1.at (State.WarmedH.refl _) (fun _ _ _ => rfl) (fun _ h => h)⟩
  · show xz_T _ U U.heap; rw [hU]; exact hT.at hW (fun a h1 _ => hS.2.1 a h1 (by rw [hAe]; exact Nat.not_le.mpr h1)) (fun _ h => h)
set_option maxHeartbeats 4000000 in
set_option maxRecDepth 100000 in
/-- record throws -/
theorem x_record1 (l : Launch) (hfl : l.flags = pinnedFlags ++ [noTraceFlag]) (dC : Nat → ClassId) (dI : Nat → Nat → Nat) (cT : Nat → ClassId) (ds : Nat) (dr : Nat) (sv : Nat) (rr : Nat) (g0 : Nat) (se : Nat) (pw : Nat) (ty : Nat) (an : Nat) (aw : Nat) (ts : Nat) (ss : Nat) (rq : Nat) (tm : Int32) (n3 : Int32) (n4 : Int32) (sp : Nat) (ks : Nat) (go : Nat → Option Nat) (x : Int32) (y : Int32) (hbad : x < 0 ∨ nI ks - 1 < x) : xk_T l y_DS_record (Cond.code y_DS_record b_DS_record 4 (Option.some Jvm.ClassFile.FieldType.long) :: BIG) ({ frames := 8, cells := 1, slots := 6, locals := 123 }) (va_Pc [.ref ds, .int x, .int y] (fun U => xz_T (fun _ => False) U U.heap ∧ va_P (dC, dI) vcl [(ds, .inr (0, [.ref dr, .ref sv])), (sv, .inr (5, [.ref se, .ref pw, .ref g0, .ref ty, .ref an, .ref aw, .ref ts, .ref ss, .ref rq, .int tm, .int n3, .int n4])), (ss, .inr (11, [.ref sp, .int (nI ks)]))] U.heap ∧ va_K (dC, dI) vcl (tyL cT) U)) xz_IA := by
  refine xk_T.ofW (cc := b_DS_record) (maxL := 4) (ret := (Option.some Jvm.ClassFile.FieldType.long)) (by decide) rfl ?_
  intro p e s m args below meth c s₁ B hml hv hno
  obtain ⟨hargs, hT, hP, hK⟩ := hv
  have hx := B.exec
  have hb := B.bytes
  have hts := atoms_spec (ws := (Cond.code y_DS_record b_DS_record 4 (Option.some Jvm.ClassFile.FieldType.long) :: BIG)) B.pre
  have hg : ∀ w ∈ BIG, w.before _ s = true := fun w h => hts w (List.mem_cons_of_mem _ h)
  have hown : s.vm.findClass "DoorServer" = some m.cls := findClass_of_methodNamed B.named
  have hlocks := B.notSynchronized
  have htr := Launch.traces_off hfl B.admits
  obtain ⟨A, hAe⟩ : ∃ A : Nat → Prop, A = fun q => s.heap.size ≤ q := ⟨_, rfl⟩
  have hA : ∀ q : Nat, s.heap.size ≤ q → A q := fun q h => by rw [hAe]; exact h
  have hS : va_S A s.heap s.heap [] := va_S.rf
  have hD : va_D A [] := ⟨fun i j p q h => by simp at h, fun k q h => by simp at h⟩
  have hl := lv_entry ([.ref ds, .int x, .int y]) (n := 4) (Nat.le_of_ble_eq_true rfl)
  refine W.eq (g2 := entryFrame m (List.toArray [.ref ds, .int x, .int y]) 4) (by rw [hargs]) ?_
  rw [lg_entry_eq]
  generalize (lg_sl ([.ref ds, .int x, .int y]) ++ List.replicate (4 - (lg_sl ([.ref ds, .int x, .int y])).length) Slot.unset).toArray = ls at hl ⊢
  have hl : lv_has ls 4 [(0, .ref ds), (1, .int x), (2, .int y)] := hl
  change W p l e ({ frames := 8, cells := 1, slots := 6, locals := 123 } : Room) s m args below meth c s.heap [] 0 0 _ _
  have hP : va_P (dC, dI) vcl [(ds, .inr (0, [.ref dr, .ref sv])), (sv, .inr (5, [.ref se, .ref pw, .ref g0, .ref ty, .ref an, .ref aw, .ref ts, .ref ss, .ref rq, .int tm, .int n3, .int n4])), (ss, .inr (11, [.ref sp, .int (nI ks)]))] s.heap := hP
  refine lv_iload_n hx hb d_DS_record_0 rfl (lv_at hl 1 rfl) ?_
  refine lv_iconst (v := 0) hx hb d_DS_record_1 (by decide) ?_
  refine lv_aload_n hx hb d_DS_record_2 rfl (lv_at hl 0 rfl) ?_
  refine va_get (D := (dC, dI)) (ci := 0) (v := (.ref sv)) (C := R_DS) (T := F_DS) (N := 2) hx hb hg in_DS hown hK hP 0 rfl rfl 1 (by decide) (hg _ k_369) (fun _ h9 => h9) rfl d_DS_record_3 ?_
  refine va_get (D := (dC, dI)) (ci := 5) (v := (.ref ss)) (C := R_Sv) (T := F_Sv) (N := 12) hx hb hg in_Sv hown hK hP 1 rfl rfl 7 (by decide) (hg _ k_335) (fun _ h9 => h9) rfl d_DS_record_6 ?_
  refine va_get (D := (dC, dI)) (ci := 11) (v := (.int (nI ks))) (C := R_Ss) (T := F_Ss) (N := 2) hx hb hg in_Ss hown hK hP 2 rfl rfl 1 (by decide) (hg _ k_297) (fun _ h9 => h9) rfl d_DS_record_9 ?_
  refine lv_iconst (v := 1) hx hb d_DS_record_12 (by decide) ?_
  refine lv_isub hx hb d_DS_record_13 ?_
  refine xk_callS (As := [.int x, .int 0, .int ((nI ks) - 1)]) (rest := []) ⟨hx, hb, hml, hown, hg⟩ (x_requireWithin l hfl x 0 (nI ks - 1) (hbad)) (va_cwS 3 hg (gI (List.forall_mem_append.mpr ⟨List.forall_mem_cons.mpr ⟨k_390, List.forall_mem_cons.mpr ⟨k_391, List.forall_mem_cons.mpr ⟨k_1, fun _ h => absurd h List.not_mem_nil⟩⟩⟩, List.forall_mem_cons.mpr ⟨k_392, fun _ h => h⟩⟩)) rfl rfl rfl (by decide +kernel) ⟨Nat.le_of_ble_eq_true rfl, Nat.le_of_ble_eq_true rfl⟩) ⟨fun a U g mk q => ?_, fun U hU hW => ⟨rfl, ?_⟩⟩ rfl hl.1 rfl (by decide) d_DS_record_14 ⟨Nat.le_of_ble_eq_true rfl, Nat.le_of_ble_eq_true rfl⟩ (xk_out2 (hno _) hlocks hS.1)
  · obtain ⟨q0, q1⟩ := q
    exact ⟨q0, q1.at (State.WarmedH.refl _) (fun _ _ _ => rfl) (fun _ h => h)⟩
  · show xz_T _ U U.heap; rw [hU]; exact hT.at hW (fun a h1 _ => hS.2.1 a h1 (by rw [hAe]; exact Nat.not_le.mpr h1)) (fun _ h => h)
set_option maxHeartbeats 4000000 in
set_option maxRecDepth 100000 in
/-- count throws -/
theorem x_count (l : Launch) (hfl : l.flags = pinnedFlags ++ [noTraceFlag]) (dC : Nat → ClassId) (dI : Nat → Nat → Nat) (cT : Nat → ClassId) (ds : Nat) (x : Int32) (hbad : x.toInt < 0 ∨ 5 < x.toInt) : xk_T l y_DS_count (Cond.code y_DS_count b_DS_count 2 (Option.some Jvm.ClassFile.FieldType.int) :: BIG) ({ frames := 8, cells := 1, slots := 6, locals := 123 }) (va_Pc [.ref ds, .int x] (fun U => xz_T (fun _ => False) U U.heap ∧ va_P (dC, dI) vcl [] U.heap ∧ va_K (dC, dI) vcl (tyL cT) U)) xz_IA := by
  refine xk_T.ofW (cc := b_DS_count) (maxL := 2) (ret := (Option.some Jvm.ClassFile.FieldType.int)) (by decide) rfl ?_
  intro p e s m args below meth c s₁ B hml hv hno
  obtain ⟨hargs, hT, hP, hK⟩ := hv
  have hx := B.exec
  have hb := B.bytes
  have hts := atoms_spec (ws := (Cond.code y_DS_count b_DS_count 2 (Option.some Jvm.ClassFile.FieldType.int) :: BIG)) B.pre
  have hg : ∀ w ∈ BIG, w.before _ s = true := fun w h => hts w (List.mem_cons_of_mem _ h)
  have hown : s.vm.findClass "DoorServer" = some m.cls := findClass_of_methodNamed B.named
  have hlocks := B.notSynchronized
  have htr := Launch.traces_off hfl B.admits
  obtain ⟨A, hAe⟩ : ∃ A : Nat → Prop, A = fun q => s.heap.size ≤ q := ⟨_, rfl⟩
  have hA : ∀ q : Nat, s.heap.size ≤ q → A q := fun q h => by rw [hAe]; exact h
  have hS : va_S A s.heap s.heap [] := va_S.rf
  have hD : va_D A [] := ⟨fun i j p q h => by simp at h, fun k q h => by simp at h⟩
  have hl := lv_entry ([.ref ds, .int x]) (n := 2) (Nat.le_of_ble_eq_true rfl)
  refine W.eq (g2 := entryFrame m (List.toArray [.ref ds, .int x]) 2) (by rw [hargs]) ?_
  rw [lg_entry_eq]
  generalize (lg_sl ([.ref ds, .int x]) ++ List.replicate (2 - (lg_sl ([.ref ds, .int x])).length) Slot.unset).toArray = ls at hl ⊢
  have hl : lv_has ls 2 [(0, .ref ds), (1, .int x)] := hl
  change W p l e ({ frames := 8, cells := 1, slots := 6, locals := 123 } : Room) s m args below meth c s.heap [] 0 0 _ _
  have hP : va_P (dC, dI) vcl [] s.heap := hP
  refine lv_iload_n hx hb d_DS_count_0 rfl (lv_at hl 1 rfl) ?_
  refine lv_tableOut (tgt := 97) hx hb d_DS_count_1 (hbad) (by decide) ?_
  refine W.newc hx hb hown (hg _ k_393) (hg _ k_394) (hg _ k_17) rfl d_DS_count_97 (Nat.le_of_ble_eq_true rfl) (Nat.le_of_ble_eq_true rfl) (fun cC kC h1 h2 h3 h4 => ?_)
  refine W.eq (g2 := F0 m 100 ls [.ref s.heap.size]) rfl ?_
  refine lv_dup hx hb d_DS_count_100 rfl ?_
  exact xk_throw (names := ["java/lang/RuntimeException", "java/lang/Exception"]) hx hb htr hown (by decide +kernel) (by decide +kernel) (xz_atoms hg hT (hg _ k_433)) h1 h2 (by simp) (Nat.le_refl _) (hl.1.trans hml.symm) d_DS_count_101 d_DS_count_104 (hno _) (Nat.le_of_ble_eq_true rfl) (Nat.le_of_ble_eq_true rfl) hlocks
set_option maxHeartbeats 4000000 in
set_option maxRecDepth 100000 in
/-- record throws -/
theorem x_record2 (l : Launch) (hfl : l.flags = pinnedFlags ++ [noTraceFlag]) (dC : Nat → ClassId) (dI : Nat → Nat → Nat) (cT : Nat → ClassId) (ds : Nat) (dr : Nat) (sv : Nat) (rr : Nat) (g0 : Nat) (se : Nat) (pw : Nat) (ty : Nat) (an : Nat) (aw : Nat) (ts : Nat) (ss : Nat) (rq : Nat) (tm : Int32) (n3 : Int32) (n4 : Int32) (sp : Nat) (ks : Nat) (go : Nat → Option Nat) (j : Nat) (q0 : Nat) (y : Int32) (hj : j < ks) (hks : ks ≤ 50) (hq0 : go j = some q0) (hbad : y.toInt < 0 ∨ 8 < y.toInt) : xk_T l y_DS_record (Cond.code y_DS_record b_DS_record 4 (Option.some Jvm.ClassFile.FieldType.long) :: BIG) ({ frames := 8, cells := 1, slots := 6, locals := 123 }) (va_Pc [.ref ds, .int (nI j), .int y] (fun U => xz_T (fun _ => False) U U.heap ∧ va_P (dC, dI) vcl [(ds, .inr (0, [.ref dr, .ref sv])), (sv, .inr (5, [.ref se, .ref pw, .ref g0, .ref ty, .ref an, .ref aw, .ref ts, .ref ss, .ref rq, .int tm, .int n3, .int n4])), (ss, .inr (11, [.ref sp, .int (nI ks)])), (sp, .inl ((cT 5), 50, .inr (.inr (.inr (.inr go)))))] U.heap ∧ va_K (dC, dI) vcl (tyL cT) U)) xz_IA := by
  refine xk_T.ofW (cc := b_DS_record) (maxL := 4) (ret := (Option.some Jvm.ClassFile.FieldType.long)) (by decide) rfl ?_
  intro p e s m args below meth c s₁ B hml hv hno
  obtain ⟨hargs, hT, hP, hK⟩ := hv
  have hx := B.exec
  have hb := B.bytes
  have hts := atoms_spec (ws := (Cond.code y_DS_record b_DS_record 4 (Option.some Jvm.ClassFile.FieldType.long) :: BIG)) B.pre
  have hg : ∀ w ∈ BIG, w.before _ s = true := fun w h => hts w (List.mem_cons_of_mem _ h)
  have hown : s.vm.findClass "DoorServer" = some m.cls := findClass_of_methodNamed B.named
  have hlocks := B.notSynchronized
  have htr := Launch.traces_off hfl B.admits
  obtain ⟨A, hAe⟩ : ∃ A : Nat → Prop, A = fun q => s.heap.size ≤ q := ⟨_, rfl⟩
  have hA : ∀ q : Nat, s.heap.size ≤ q → A q := fun q h => by rw [hAe]; exact h
  have hS : va_S A s.heap s.heap [] := va_S.rf
  have hD : va_D A [] := ⟨fun i j p q h => by simp at h, fun k q h => by simp at h⟩
  have hl := lv_entry ([.ref ds, .int (nI j), .int y]) (n := 4) (Nat.le_of_ble_eq_true rfl)
  refine W.eq (g2 := entryFrame m (List.toArray [.ref ds, .int (nI j), .int y]) 4) (by rw [hargs]) ?_
  rw [lg_entry_eq]
  generalize (lg_sl ([.ref ds, .int (nI j), .int y]) ++ List.replicate (4 - (lg_sl ([.ref ds, .int (nI j), .int y])).length) Slot.unset).toArray = ls at hl ⊢
  have hl : lv_has ls 4 [(0, .ref ds), (1, .int (nI j)), (2, .int y)] := hl
  change W p l e ({ frames := 8, cells := 1, slots := 6, locals := 123 } : Room) s m args below meth c s.heap [] 0 0 _ _
  have hP : va_P (dC, dI) vcl [(ds, .inr (0, [.ref dr, .ref sv])), (sv, .inr (5, [.ref se, .ref pw, .ref g0, .ref ty, .ref an, .ref aw, .ref ts, .ref ss, .ref rq, .int tm, .int n3, .int n4])), (ss, .inr (11, [.ref sp, .int (nI ks)])), (sp, .inl ((cT 5), 50, .inr (.inr (.inr (.inr go)))))] s.heap := hP
  have hP0 := hP
  refine lv_iload_n hx hb d_DS_record_0 rfl (lv_at hl 1 rfl) ?_
  refine lv_iconst (v := 0) hx hb d_DS_record_1 (by decide) ?_
  refine lv_aload_n hx hb d_DS_record_2 rfl (lv_at hl 0 rfl) ?_
  refine va_get (D := (dC, dI)) (ci := 0) (v := (.ref sv)) (C := R_DS) (T := F_DS) (N := 2) hx hb hg in_DS hown hK hP 0 rfl rfl 1 (by decide) (hg _ k_369) (fun _ h9 => h9) rfl d_DS_record_3 ?_
  refine va_get (D := (dC, dI)) (ci := 5) (v := (.ref ss)) (C := R_Sv) (T := F_Sv) (N := 12) hx hb hg in_Sv hown hK hP 1 rfl rfl 7 (by decide) (hg _ k_335) (fun _ h9 => h9) rfl d_DS_record_6 ?_
  refine va_get (D := (dC, dI)) (ci := 11) (v := (.int (nI ks))) (C := R_Ss) (T := F_Ss) (N := 2) hx hb hg in_Ss hown hK hP 2 rfl rfl 1 (by decide) (hg _ k_297) (fun _ h9 => h9) rfl d_DS_record_9 ?_
  refine lv_iconst (v := 1) hx hb d_DS_record_12 (by decide) ?_
  refine lv_isub hx hb d_DS_record_13 ?_
  refine lv_topi (fun x17 e16 => ?_)
  obtain rfl : x17 = nI (ks - 1) := by rw [e16]; exact pk_sub (b := 1) (by omega)
  have hP := hP.sub (ws' := []) [] rfl
  have hPc := hP.sub (ws' := []) [] rfl
  have hDc := hD.sub (ws' := []) [] (by decide) rfl
  have hFc := va_free (wc := []) hD hS hA [] rfl
  refine va_callv (va_runS (As := [.int (nI j), .int 0, .int (nI (ks - 1))]) (rest := []) ⟨hx, hb, hml, hown, hg⟩ (c_requireWithin l dC dI cT s.heap.size (nI j) 0 (nI (ks - 1)) (nI_pos (by omega)) (nI_nlt (by omega) (by omega))) (va_cwS 3 hg (gI (List.forall_mem_append.mpr ⟨List.forall_mem_cons.mpr ⟨k_390, List.forall_mem_cons.mpr ⟨k_391, List.forall_mem_cons.mpr ⟨k_1, fun _ h => absurd h List.not_mem_nil⟩⟩⟩, List.forall_mem_cons.mpr ⟨k_392, fun _ h => h⟩⟩)) rfl rfl rfl (by decide +kernel) ⟨Nat.le_of_ble_eq_true rfl, Nat.le_of_ble_eq_true rfl⟩) ⟨fun a U g mk q => by obtain ⟨q0, q1, qP, qK, qD⟩ := q; exact ⟨q0, q1, qP, va_K.moved (u := U) (U := U.calling g mk a) (Vm.Alike.refl U.vm) qK, qD⟩, fun U hU hW => ⟨rfl, by rw [hU], by rw [hU]; exact hPc, va_K.moved hW.alike hK, hDc.weaken (fun _ _ _ _ => trivial)⟩⟩ rfl rfl hl.1 rfl (lv_room (Nat.le_of_ble_eq_true rfl)) d_DS_record_14 ⟨Nat.le_of_ble_eq_true rfl, Nat.le_of_ble_eq_true rfl⟩) hS (fun q _ h => hFc q h) hFc (fun u t H1 locs ht hvm hw hB hz1 hk1 hS => ?_)
  try dsimp only at hw hB
  obtain ⟨hP1, hK1, hD1⟩ := hB
  rw [ht] at hP1
  obtain ⟨hP, hD⟩ := va_join (wr := []) (w1 := []) hP hD [] [] rfl rfl (by decide) (by decide) hk1 hFc hP1 hD1
  have hw18 := hw
  clear hPc hDc hFc hz1 hk1 hP1 hK1 hD1
  generalize H1 = H at hP hS ⊢
  have hP : va_P (dC, dI) vcl [] H := hP
  have hD : va_D A [] := hD
  have hP : va_P (dC, dI) vcl [(ds, .inr (0, [.ref dr, .ref sv])), (sv, .inr (5, [.ref se, .ref pw, .ref g0, .ref ty, .ref an, .ref aw, .ref ts, .ref ss, .ref rq, .int tm, .int n3, .int n4])), (ss, .inr (11, [.ref sp, .int (nI ks)])), (sp, .inl ((cT 5), 50, .inr (.inr (.inr (.inr go)))))] H := hP0.kept (fun k q hk => hS.2.1 q.1 (hP0 k q hk).lt (by rw [hAe]; exact Nat.not_le.mpr (hP0 k q hk).lt))
  refine lv_aload_n hx hb d_DS_record_17 rfl (lv_at hl 0 rfl) ?_
  refine va_get (D := (dC, dI)) (ci := 0) (v := (.ref sv)) (C := R_DS) (T := F_DS) (N := 2) hx hb hg in_DS hown hK hP 0 rfl rfl 1 (by decide) (hg _ k_369) (fun _ h9 => h9) rfl d_DS_record_18 ?_
  refine va_get (D := (dC, dI)) (ci := 5) (v := (.ref ss)) (C := R_Sv) (T := F_Sv) (N := 12) hx hb hg in_Sv hown hK hP 1 rfl rfl 7 (by decide) (hg _ k_335) (fun _ h9 => h9) rfl d_DS_record_21 ?_
  refine va_get (D := (dC, dI)) (ci := 11) (v := (.ref sp)) (C := R_Ss) (T := F_Ss) (N := 2) hx hb hg in_Ss hown hK hP 2 rfl rfl 0 (by decide) (hg _ k_295) (fun _ h9 => h9) rfl d_DS_record_24 ?_
  refine lv_iload_n hx hb d_DS_record_27 rfl (lv_at hl 1 rfl) ?_
  refine va_aldq hx hb hK hP 3 5 rfl rfl (i := (nI j)) (vp_in_nI (N := 50) (by omega) (by decide)) d_DS_record_28 ?_
  rw [show va_rf (go (nI j).toNatClampNeg) = .ref q0 from by rw [nI_clamp (by omega), hq0]; rfl]
  refine lv_astore_n (lv' := [(3, .ref q0), (0, .ref ds), (1, .int (nI j)), (2, .int y)]) hx hb d_DS_record_29 rfl hl (by decide) rfl (fun ls hl => ?_)
  refine lv_iload_n hx hb d_DS_record_30 rfl (lv_at hl 3 rfl) ?_
  refine lv_tableOut (tgt := 147) hx hb d_DS_record_31 (hbad) (by decide) ?_
  refine va_forget (fun q hq => by have h9 := hS.2.2 q hq; rw [hAe] at h9; exact h9) ?_
  refine W.newc hx hb hown (hg _ k_393) (hg _ k_394) (hg _ k_17) rfl d_DS_record_147 (Nat.le_of_ble_eq_true rfl) (Nat.le_of_ble_eq_true rfl) (fun cC kC h1 h2 h3 h4 => ?_)
  refine W.eq (g2 := F0 m 150 ls [.ref H.size]) rfl ?_
  refine lv_dup hx hb d_DS_record_150 rfl ?_
  exact xk_throw (names := ["java/lang/RuntimeException", "java/lang/Exception"]) hx hb htr hown (by decide +kernel) (by decide +kernel) (xz_atoms hg hT (hg _ k_433)) h1 h2 (by simp) hS.1 (hl.1.trans hml.symm) d_DS_record_151 d_DS_record_154 (hno _) (Nat.le_of_ble_eq_true rfl) (Nat.le_of_ble_eq_true rfl) hlocks
