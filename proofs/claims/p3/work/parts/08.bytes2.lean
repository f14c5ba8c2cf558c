theorem d_By_appendRow_0 : decode b_By_appendRow 0 = .ok (.iload_n 3, 1) := by decide +kernel
theorem d_By_appendRow_1 : decode b_By_appendRow 1 = .ok (.aload_n 0, 1) := by decide +kernel
theorem d_By_appendRow_2 : decode b_By_appendRow 2 = .ok (.getfield 9, 3) := by decide +kernel
theorem d_By_appendRow_5 : decode b_By_appendRow 5 = .ok (.arraylength, 1) := by decide +kernel
theorem d_By_appendRow_6 : decode b_By_appendRow 6 = .ok (.aload_n 0, 1) := by decide +kernel
theorem d_By_appendRow_7 : decode b_By_appendRow 7 = .ok (.getfield 15, 3) := by decide +kernel
theorem d_By_appendRow_10 : decode b_By_appendRow 10 = .ok (.isub, 1) := by decide +kernel
theorem d_By_appendRow_11 : decode b_By_appendRow 11 = .ok (.if_icmp .gt 39, 3) := by decide +kernel
theorem d_By_appendRow_14 : decode b_By_appendRow 14 = .ok (.iload_n 2, 1) := by decide +kernel
theorem d_By_appendRow_15 : decode b_By_appendRow 15 = .ok (.ifCond .lt 35, 3) := by decide +kernel
theorem d_By_appendRow_18 : decode b_By_appendRow 18 = .ok (.iload_n 3, 1) := by decide +kernel
theorem d_By_appendRow_19 : decode b_By_appendRow 19 = .ok (.aload_n 1, 1) := by decide +kernel
theorem d_By_appendRow_20 : decode b_By_appendRow 20 = .ok (.arraylength, 1) := by decide +kernel
theorem d_By_appendRow_21 : decode b_By_appendRow 21 = .ok (.iload_n 2, 1) := by decide +kernel
theorem d_By_appendRow_22 : decode b_By_appendRow 22 = .ok (.isub, 1) := by decide +kernel
theorem d_By_appendRow_23 : decode b_By_appendRow 23 = .ok (.if_icmp .gt 27, 3) := by decide +kernel
theorem d_By_appendRow_26 : decode b_By_appendRow 26 = .ok (.aload_n 1, 1) := by decide +kernel
theorem d_By_appendRow_27 : decode b_By_appendRow 27 = .ok (.iload_n 2, 1) := by decide +kernel
theorem d_By_appendRow_28 : decode b_By_appendRow 28 = .ok (.aload_n 0, 1) := by decide +kernel
theorem d_By_appendRow_29 : decode b_By_appendRow 29 = .ok (.getfield 9, 3) := by decide +kernel
theorem d_By_appendRow_32 : decode b_By_appendRow 32 = .ok (.aload_n 0, 1) := by decide +kernel
theorem d_By_appendRow_33 : decode b_By_appendRow 33 = .ok (.getfield 15, 3) := by decide +kernel
theorem d_By_appendRow_36 : decode b_By_appendRow 36 = .ok (.iload_n 3, 1) := by decide +kernel
theorem d_By_appendRow_37 : decode b_By_appendRow 37 = .ok (.invokestatic 25, 3) := by decide +kernel
theorem d_By_appendRow_40 : decode b_By_appendRow 40 = .ok (.aload_n 0, 1) := by decide +kernel
theorem d_By_appendRow_41 : decode b_By_appendRow 41 = .ok (.dup, 1) := by decide +kernel
theorem d_By_appendRow_42 : decode b_By_appendRow 42 = .ok (.getfield 15, 3) := by decide +kernel
theorem d_By_appendRow_45 : decode b_By_appendRow 45 = .ok (.iload_n 3, 1) := by decide +kernel
theorem d_By_appendRow_46 : decode b_By_appendRow 46 = .ok (.iadd, 1) := by decide +kernel
theorem d_By_appendRow_47 : decode b_By_appendRow 47 = .ok (.putfield 15, 3) := by decide +kernel
theorem d_By_appendRow_50 : decode b_By_appendRow 50 = .ok (.return_, 1) := by decide +kernel
theorem d_By_become_0 : decode b_By_become 0 = .ok (.aload_n 0, 1) := by decide +kernel
theorem d_By_become_1 : decode b_By_become 1 = .ok (.iconst 0, 1) := by decide +kernel
theorem d_By_become_2 : decode b_By_become 2 = .ok (.putfield 15, 3) := by decide +kernel
theorem d_By_become_5 : decode b_By_become 5 = .ok (.aload_n 0, 1) := by decide +kernel
theorem d_By_become_6 : decode b_By_become 6 = .ok (.lload_n 1, 1) := by decide +kernel
theorem d_By_become_7 : decode b_By_become 7 = .ok (.iload_n 3, 1) := by decide +kernel
theorem d_By_become_8 : decode b_By_become 8 = .ok (.invokevirtual 31, 3) := by decide +kernel
theorem d_By_become_11 : decode b_By_become 11 = .ok (.return_, 1) := by decide +kernel
theorem d_By_becomeRow_0 : decode b_By_becomeRow 0 = .ok (.aload_n 0, 1) := by decide +kernel
theorem d_By_becomeRow_1 : decode b_By_becomeRow 1 = .ok (.iconst 0, 1) := by decide +kernel
theorem d_By_becomeRow_2 : decode b_By_becomeRow 2 = .ok (.putfield 15, 3) := by decide +kernel
theorem d_By_becomeRow_5 : decode b_By_becomeRow 5 = .ok (.aload_n 0, 1) := by decide +kernel
theorem d_By_becomeRow_6 : decode b_By_becomeRow 6 = .ok (.aload_n 1, 1) := by decide +kernel
theorem d_By_becomeRow_7 : decode b_By_becomeRow 7 = .ok (.iload_n 2, 1) := by decide +kernel
theorem d_By_becomeRow_8 : decode b_By_becomeRow 8 = .ok (.iload_n 3, 1) := by decide +kernel
theorem d_By_becomeRow_9 : decode b_By_becomeRow 9 = .ok (.invokevirtual 35, 3) := by decide +kernel
theorem d_By_becomeRow_12 : decode b_By_becomeRow 12 = .ok (.return_, 1) := by decide +kernel
set_option maxHeartbeats 4000000 in
set_option maxRecDepth 100000 in
/-- appendRow: k values of another row come -/
theorem c_By_row (l : Launch) (dC : Nat → ClassId) (dI : Nat → Nat → Nat) (cT : Nat → ClassId) (sz : Nat) (h : Nat) (r : Nat) (n : Nat) (len : Nat) (f : Nat → Int32) (q : Nat) (nq : Nat) (fq : Nat → Int32) (at_ : Nat) (k : Nat) (hlen : len + k ≤ n) (hn : n < 2 ^ 31) (hq : at_ + k ≤ nq) (hnq : nq < 2 ^ 31) : Met l y_By_appendRow (Cond.code y_By_appendRow b_By_appendRow 4 (Option.none : Option Jvm.ClassFile.FieldType) :: BIG) ({ frames := 1, cells := 0, slots := 0, locals := 60 }) (va_Pc [.ref h, .ref q, .int (nI at_), .int (nI k)] (fun U => U.heap.size = sz ∧ va_P (dC, dI) vcl [(h, .inr (1, [.ref r, .int (nI len)])), (r, .inl ((cT 0), n, .inl f)), (q, .inl ((cT 0), nq, .inl fq))] U.heap ∧ va_K (dC, dI) vcl (tyL cT) U ∧ va_D (fun _ => True) [(h, .inr (1, [.ref r, .int (nI len)])), (r, .inl ((cT 0), n, .inl f)), (q, .inl ((cT 0), nq, .inl fq))])) (va_Qv (S := (Nat → Int32)) (fun u => match u with | g => AB f → AB fq → AB g) (fun u t => match u with | g => va_P (dC, dI) vcl [(h, .inr (1, [.ref r, .int (nI (len + k))])), (r, .inl ((cT 0), n, .inl g)), (q, .inl ((cT 0), nq, .inl fq))] t.heap ∧ va_K (dC, dI) vcl (tyL cT) t ∧ va_D (va_A [(h, .inr (1, [.ref r, .int (nI len)])), (r, .inl ((cT 0), n, .inl f)), (q, .inl ((cT 0), nq, .inl fq))] sz) [(h, .inr (1, [.ref r, .int (nI (len + k))])), (r, .inl ((cT 0), n, .inl g)), (q, .inl ((cT 0), nq, .inl fq))]) (va_A [(h, .inr (1, [.ref r, .int (nI len)])), (r, .inl ((cT 0), n, .inl f)), (q, .inl ((cT 0), nq, .inl fq))] sz)) 0 0 (va_A [(h, .inr (1, [.ref r, .int (nI len)])), (r, .inl ((cT 0), n, .inl f)), (q, .inl ((cT 0), nq, .inl fq))] sz) := by
  refine Met.ofW (cc := b_By_appendRow) (maxL := 4) (ret := (Option.none : Option Jvm.ClassFile.FieldType)) (by decide) rfl ?_
  intro p e s m args below meth c s₁ B hml hv
  obtain ⟨hargs, hsz, hP, hK, hD0⟩ := hv
  have hx := B.exec
  have hb := B.bytes
  have hr := B.returns
  have hts := atoms_spec (ws := (Cond.code y_By_appendRow b_By_appendRow 4 (Option.none : Option Jvm.ClassFile.FieldType) :: BIG)) B.pre
  have hg : ∀ w ∈ BIG, w.before _ s = true := fun w h => hts w (List.mem_cons_of_mem _ h)
  have hown : s.vm.findClass "DoorServer$Bytes" = some m.cls := findClass_of_methodNamed B.named
  have hlocks := B.notSynchronized
  subst hsz
  have hD := hD0.self (sz := s.heap.size)
  generalize hAe : va_A [(h, .inr (1, [.ref r, .int (nI len)])), (r, .inl ((cT 0), n, .inl f)), (q, .inl ((cT 0), nq, .inl fq))] s.heap.size = A at hD ⊢
  have hA : ∀ q : Nat, s.heap.size ≤ q → A q := fun q h => by rw [← hAe]; exact Or.inr h
  have hS : va_S A s.heap s.heap [] := va_S.rf
  have hl := lv_entry ([.ref h, .ref q, .int (nI at_), .int (nI k)]) (n := 4) (Nat.le_of_ble_eq_true rfl)
  refine W.eq (g2 := entryFrame m (List.toArray [.ref h, .ref q, .int (nI at_), .int (nI k)]) 4) (by rw [hargs]) ?_
  rw [lg_entry_eq]
  generalize (lg_sl ([.ref h, .ref q, .int (nI at_), .int (nI k)]) ++ List.replicate (4 - (lg_sl ([.ref h, .ref q, .int (nI at_), .int (nI k)])).length) Slot.unset).toArray = ls at hl ⊢
  have hl : lv_has ls 4 [(0, .ref h), (1, .ref q), (2, .int (nI at_)), (3, .int (nI k))] := hl
  change W p l e ({ frames := 1, cells := 0, slots := 0, locals := 60 } : Room) s m args below meth c s.heap [] 0 0 _ _
  have hP : va_P (dC, dI) vcl [(h, .inr (1, [.ref r, .int (nI len)])), (r, .inl ((cT 0), n, .inl f)), (q, .inl ((cT 0), nq, .inl fq))] s.heap := hP
  refine lv_iload_n hx hb d_By_appendRow_0 rfl (lv_at hl 3 rfl) ?_
  refine lv_aload_n hx hb d_By_appendRow_1 rfl (lv_at hl 0 rfl) ?_
  refine va_get (D := (dC, dI)) (ci := 1) (v := (.ref r)) (C := R_By) (T := F_By) (N := 2) hx hb hg in_By hown hK hP 0 rfl rfl 0 (by decide) (hg _ k_39) (fun _ h9 => h9) rfl d_By_appendRow_2 ?_
  refine va_alen hx hb hK hP 1 0 rfl rfl (v := nI n) rfl d_By_appendRow_5 ?_
  refine lv_aload_n hx hb d_By_appendRow_6 rfl (lv_at hl 0 rfl) ?_
  refine va_get (D := (dC, dI)) (ci := 1) (v := (.int (nI len))) (C := R_By) (T := F_By) (N := 2) hx hb hg in_By hown hK hP 0 rfl rfl 1 (by decide) (hg _ k_51) (fun _ h9 => h9) rfl d_By_appendRow_7 ?_
  refine lv_isub hx hb d_By_appendRow_10 ?_
  refine lv_topi (fun x2 e1 => ?_)
  obtain rfl : x2 = nI (n - len) := by rw [e1]; exact pk_sub (by omega)
  refine lv_icmp_gt (tgt := 50) hx hb d_By_appendRow_11 (by decide) (fun hn9 => absurd hn9 (nI_nlt (by omega) (by omega))) (fun hc3 => ?_)
  refine lv_iload_n hx hb d_By_appendRow_14 rfl (lv_at hl 2 rfl) ?_
  refine lv_if_lt (tgt := 50) hx hb d_By_appendRow_15 (by decide) (fun hn9 => absurd hn9 (nI_pos (by omega))) (fun hc4 => ?_)
  refine lv_iload_n hx hb d_By_appendRow_18 rfl (lv_at hl 3 rfl) ?_
  refine lv_aload_n hx hb d_By_appendRow_19 rfl (lv_at hl 1 rfl) ?_
  refine va_alen hx hb hK hP 2 0 rfl rfl (v := nI nq) rfl d_By_appendRow_20 ?_
  refine lv_iload_n hx hb d_By_appendRow_21 rfl (lv_at hl 2 rfl) ?_
  refine lv_isub hx hb d_By_appendRow_22 ?_
  refine lv_topi (fun x6 e5 => ?_)
  obtain rfl : x6 = nI (nq - at_) := by rw [e5]; exact pk_sub (by omega)
  refine lv_icmp_gt (tgt := 50) hx hb d_By_appendRow_23 (by decide) (fun hn9 => absurd hn9 (nI_nlt (by omega) (by omega))) (fun hc7 => ?_)
  refine lv_aload_n hx hb d_By_appendRow_26 rfl (lv_at hl 1 rfl) ?_
  refine lv_iload_n hx hb d_By_appendRow_27 rfl (lv_at hl 2 rfl) ?_
  refine lv_aload_n hx hb d_By_appendRow_28 rfl (lv_at hl 0 rfl) ?_
  refine va_get (D := (dC, dI)) (ci := 1) (v := (.ref r)) (C := R_By) (T := F_By) (N := 2) hx hb hg in_By hown hK hP 0 rfl rfl 0 (by decide) (hg _ k_39) (fun _ h9 => h9) rfl d_By_appendRow_29 ?_
  refine lv_aload_n hx hb d_By_appendRow_32 rfl (lv_at hl 0 rfl) ?_
  refine va_get (D := (dC, dI)) (ci := 1) (v := (.int (nI len))) (C := R_By) (T := F_By) (N := 2) hx hb hg in_By hown hK hP 0 rfl rfl 1 (by decide) (hg _ k_51) (fun _ h9 => h9) rfl d_By_appendRow_33 ?_
  refine lv_iload_n hx hb d_By_appendRow_36 rfl (lv_at hl 3 rfl) ?_
  refine va_copyi hx hb (hml.trans hl.1.symm) hown (hg _ k_579) (hg _ k_581) (hg _ k_580) (hg _ k_19) hK hP hD hS 2 1 0 0 rfl rfl rfl rfl rfl (nI_pos (by omega)) (nI_pos (by omega)) (nI_pos (by omega)) (by rw [nI_clamp (n := at_) (by omega), nI_clamp (n := k) (by omega)]; omega) (by rw [nI_clamp (n := len) (by omega), nI_clamp (n := k) (by omega)]; omega) (fun _ _ => rfl) (Nat.le_of_ble_eq_true rfl) (by decide) d_By_appendRow_37 (fun H locs hP hD hS => ?_)
  have hP : va_P (dC, dI) vcl [(h, .inr (1, [.ref r, .int (nI len)])), (r, .inl ((cT 0), n, .inl (va_cpy fq f (nI at_).toNatClampNeg (nI len).toNatClampNeg (nI k).toNatClampNeg))), (q, .inl ((cT 0), nq, .inl fq))] H := hP
  have hD : va_D A [(h, .inr (1, [.ref r, .int (nI len)])), (r, .inl ((cT 0), n, .inl (va_cpy fq f (nI at_).toNatClampNeg (nI len).toNatClampNeg (nI k).toNatClampNeg))), (q, .inl ((cT 0), nq, .inl fq))] := hD
  refine lv_aload_n hx hb d_By_appendRow_40 rfl (lv_at hl 0 rfl) ?_
  refine lv_dup hx hb d_By_appendRow_41 rfl ?_
  refine va_get (D := (dC, dI)) (ci := 1) (v := (.int (nI len))) (C := R_By) (T := F_By) (N := 2) hx hb hg in_By hown hK hP 0 rfl rfl 1 (by decide) (hg _ k_51) (fun _ h9 => h9) rfl d_By_appendRow_42 ?_
  refine lv_iload_n hx hb d_By_appendRow_45 rfl (lv_at hl 3 rfl) ?_
  refine lv_iadd hx hb d_By_appendRow_46 ?_
  refine lv_topi (fun x9 e8 => ?_)
  obtain rfl : x9 = nI (len + k) := by rw [e8]; exact nI_add len k
  refine va_put (D := (dC, dI)) (ci := 1) (v := (.int (nI (len + k)))) (ty := .int) (C := R_By) (T := F_By) (N := 2) hx hb hg in_By t_By tok_By nm_By hown hK hP hD hS 0 rfl rfl 1 (by decide) (hg _ k_51) (fun _ h9 => h9) rfl (by decide +kernel) rfl rfl (Nat.le_of_ble_eq_true rfl) d_By_appendRow_47 (fun H locs hP hD hS => ?_)
  have hP : va_P (dC, dI) vcl [(h, .inr (1, [.ref r, .int (nI (len + k))])), (r, .inl ((cT 0), n, .inl (va_cpy fq f (nI at_).toNatClampNeg (nI len).toNatClampNeg (nI k).toNatClampNeg))), (q, .inl ((cT 0), nq, .inl fq))] H := hP
  have hD : va_D A [(h, .inr (1, [.ref r, .int (nI (len + k))])), (r, .inl ((cT 0), n, .inl (va_cpy fq f (nI at_).toNatClampNeg (nI len).toNatClampNeg (nI k).toNatClampNeg))), (q, .inl ((cT 0), nq, .inl fq))] := hD
  have hP9 := hP.sub (ws' := [(h, .inr (1, [.ref r, .int (nI (len + k))])), (r, .inl ((cT 0), n, .inl (va_cpy fq f (nI at_).toNatClampNeg (nI len).toNatClampNeg (nI k).toNatClampNeg))), (q, .inl ((cT 0), nq, .inl fq))]) [0, 1, 2] rfl
  have hD9 := hD.sub (ws' := [(h, .inr (1, [.ref r, .int (nI (len + k))])), (r, .inl ((cT 0), n, .inl (va_cpy fq f (nI at_).toNatClampNeg (nI len).toNatClampNeg (nI k).toNatClampNeg))), (q, .inl ((cT 0), nq, .inl fq))]) [0, 1, 2] (by decide) rfl
  exact W.vret hx hb hr (fun t ht hW => ⟨⟨va_cpy fq f (nI at_).toNatClampNeg (nI len).toNatClampNeg (nI k).toNatClampNeg, rfl, fun h8 h9 => AB_cpy h9 h8, by rw [ht]; exact hP9, va_K.moved hW.alike hK, hD9⟩, hS.F ht⟩) hS.2.2 d_By_appendRow_50
set_option maxHeartbeats 4000000 in
set_option maxRecDepth 100000 in
/-- become -/
theorem c_By_become (l : Launch) (dC : Nat → ClassId) (dI : Nat → Nat → Nat) (cT : Nat → ClassId) (sz : Nat) (h : Nat) (r : Nat) (n : Nat) (len : Nat) (f : Nat → Int32) (v : Int64) (k : Nat) (hlen : k ≤ n) (hn : n < 2 ^ 31) : Met l y_By_become (Cond.code y_By_become b_By_become 4 (Option.none : Option Jvm.ClassFile.FieldType) :: BIG) ({ frames := 2, cells := 0, slots := 0, locals := 45 }) (va_Pc [.ref h, .long v, .int (nI k)] (fun U => U.heap.size = sz ∧ va_P (dC, dI) vcl [(h, .inr (1, [.ref r, .int (nI len)])), (r, .inl ((cT 0), n, .inl f))] U.heap ∧ va_K (dC, dI) vcl (tyL cT) U ∧ va_D (fun _ => True) [(h, .inr (1, [.ref r, .int (nI len)])), (r, .inl ((cT 0), n, .inl f))])) (va_Qv (S := (Nat → Int32)) (fun u => match u with | g => AB f → AB g) (fun u t => match u with | g => va_P (dC, dI) vcl [(h, .inr (1, [.ref r, .int (nI k)])), (r, .inl ((cT 0), n, .inl g))] t.heap ∧ va_K (dC, dI) vcl (tyL cT) t ∧ va_D (va_A [(h, .inr (1, [.ref r, .int (nI len)])), (r, .inl ((cT 0), n, .inl f))] sz) [(h, .inr (1, [.ref r, .int (nI k)])), (r, .inl ((cT 0), n, .inl g))]) (va_A [(h, .inr (1, [.ref r, .int (nI len)])), (r, .inl ((cT 0), n, .inl f))] sz)) 0 0 (va_A [(h, .inr (1, [.ref r, .int (nI len)])), (r, .inl ((cT 0), n, .inl f))] sz) := by
  refine Met.ofW (cc := b_By_become) (maxL := 4) (ret := (Option.none : Option Jvm.ClassFile.FieldType)) (by decide) rfl ?_
  intro p e s m args below meth c s₁ B hml hv
  obtain ⟨hargs, hsz, hP, hK, hD0⟩ := hv
  have hx := B.exec
  have hb := B.bytes
  have hr := B.returns
  have hts := atoms_spec (ws := (Cond.code y_By_become b_By_become 4 (Option.none : Option Jvm.ClassFile.FieldType) :: BIG)) B.pre
  have hg : ∀ w ∈ BIG, w.before _ s = true := fun w h => hts w (List.mem_cons_of_mem _ h)
  have hown : s.vm.findClass "DoorServer$Bytes" = some m.cls := findClass_of_methodNamed B.named
  have hlocks := B.notSynchronized
  subst hsz
  have hD := hD0.self (sz := s.heap.size)
  generalize hAe : va_A [(h, .inr (1, [.ref r, .int (nI len)])), (r, .inl ((cT 0), n, .inl f))] s.heap.size = A at hD ⊢
  have hA : ∀ q : Nat, s.heap.size ≤ q → A q := fun q h => by rw [← hAe]; exact Or.inr h
  have hS : va_S A s.heap s.heap [] := va_S.rf
  have hl := lv_entry ([.ref h, .long v, .int (nI k)]) (n := 4) (Nat.le_of_ble_eq_true rfl)
  refine W.eq (g2 := entryFrame m (List.toArray [.ref h, .long v, .int (nI k)]) 4) (by rw [hargs]) ?_
  rw [lg_entry_eq]
  generalize (lg_sl ([.ref h, .long v, .int (nI k)]) ++ List.replicate (4 - (lg_sl ([.ref h, .long v, .int (nI k)])).length) Slot.unset).toArray = ls at hl ⊢
  have hl : lv_has ls 4 [(0, .ref h), (1, .long v), (3, .int (nI k))] := hl
  change W p l e ({ frames := 2, cells := 0, slots := 0, locals := 45 } : Room) s m args below meth c s.heap [] 0 0 _ _
  have hP : va_P (dC, dI) vcl [(h, .inr (1, [.ref r, .int (nI len)])), (r, .inl ((cT 0), n, .inl f))] s.heap := hP
  refine lv_aload_n hx hb d_By_become_0 rfl (lv_at hl 0 rfl) ?_
  refine lv_iconst (v := 0) hx hb d_By_become_1 (by decide) ?_
  refine lv_topi (fun x11 e10 => ?_)
  obtain rfl : x11 = nI 0 := by rw [e10]; rfl
  refine va_put (D := (dC, dI)) (ci := 1) (v := (.int (nI 0))) (ty := .int) (C := R_By) (T := F_By) (N := 2) hx hb hg in_By t_By tok_By nm_By hown hK hP hD hS 0 rfl rfl 1 (by decide) (hg _ k_51) (fun _ h9 => h9) rfl (by decide +kernel) rfl rfl (Nat.le_of_ble_eq_true rfl) d_By_become_2 (fun H locs hP hD hS => ?_)
  have hP : va_P (dC, dI) vcl [(h, .inr (1, [.ref r, .int (nI 0)])), (r, .inl ((cT 0), n, .inl f))] H := hP
  have hD : va_D A [(h, .inr (1, [.ref r, .int (nI 0)])), (r, .inl ((cT 0), n, .inl f))] := hD
  refine lv_aload_n hx hb d_By_become_5 rfl (lv_at hl 0 rfl) ?_
  refine lv_lload_n hx hb d_By_become_6 rfl (lv_at hl 1 rfl) ?_
  refine lv_iload_n hx hb d_By_become_7 rfl (lv_at hl 2 rfl) ?_
  have hPc := hP.sub (ws' := [(h, .inr (1, [.ref r, .int (nI 0)])), (r, .inl ((cT 0), n, .inl f))]) [0, 1] rfl
  have hDc := hD.sub (ws' := [(h, .inr (1, [.ref r, .int (nI 0)])), (r, .inl ((cT 0), n, .inl f))]) [0, 1] (by decide) rfl
  have hFc := va_free (wc := [(h, .inr (1, [.ref r, .int (nI 0)])), (r, .inl ((cT 0), n, .inl f))]) hD hS hA [0, 1] rfl
  refine va_callv (va_runV (C := "DoorServer$Bytes") (As := [.long v, .int (nI k)]) (rest := []) ⟨hx, hb, hml, hown, hg⟩ (c_By_pattern l dC dI cT H.size h r n 0 f v k (by omega) (hn)) (cwV 2 hg (gI (List.forall_mem_append.mpr ⟨List.forall_mem_cons.mpr ⟨k_461, List.forall_mem_cons.mpr ⟨k_462, List.forall_mem_cons.mpr ⟨k_463, List.forall_mem_cons.mpr ⟨k_2, fun _ h => absurd h List.not_mem_nil⟩⟩⟩⟩, List.forall_mem_cons.mpr ⟨k_466, fun _ h => h⟩⟩)) rfl rfl rfl (by decide +kernel) ⟨Nat.le_of_ble_eq_true rfl, Nat.le_of_ble_eq_true rfl⟩) ⟨fun a U g mk q => by obtain ⟨q0, q1, qP, qK, qD⟩ := q; exact ⟨q0, q1, qP, va_K.moved (u := U) (U := U.calling g mk a) (Vm.Alike.refl U.vm) qK, qD⟩, va_recv (q0 := 0) (ci := 1) hK hP rfl rfl, fun U hU hW => ⟨rfl, by rw [hU], by rw [hU]; exact hPc, va_K.moved hW.alike hK, hDc.weaken (fun _ _ _ _ => trivial)⟩⟩ rfl rfl hl.1 rfl (lv_room (Nat.le_of_ble_eq_true rfl)) d_By_become_8 ⟨Nat.le_of_ble_eq_true rfl, Nat.le_of_ble_eq_true rfl⟩) hS (fun q _ h => hFc q h) hFc (fun u t H1 locs ht hvm hw hB hz1 hk1 hS => ?_)
  obtain ⟨g_12, rfl⟩ : ∃ z, z = u := ⟨_, rfl⟩
  try dsimp only at hw hB
  obtain ⟨hP1, hK1, hD1⟩ := hB
  rw [ht] at hP1
  obtain ⟨hP, hD⟩ := va_join (wr := []) (w1 := [(h, .inr (1, [.ref r, .int (nI (0 + k))])), (r, .inl ((cT 0), n, .inl g_12))]) hP hD [0, 1] [] rfl rfl (by decide) (by decide) hk1 hFc hP1 hD1
  have hw13 := hw
  clear hPc hDc hFc hz1 hk1 hP1 hK1 hD1
  generalize H1 = H at hP hS ⊢
  have hP : va_P (dC, dI) vcl [(h, .inr (1, [.ref r, .int (nI (0 + k))])), (r, .inl ((cT 0), n, .inl g_12))] H := hP
  have hD : va_D A [(h, .inr (1, [.ref r, .int (nI (0 + k))])), (r, .inl ((cT 0), n, .inl g_12))] := hD
  have hP := hP
  rw [Nat.zero_add] at hP hD
  have hP : va_P (dC, dI) vcl [(h, .inr (1, [.ref r, .int (nI k)])), (r, .inl ((cT 0), n, .inl g_12))] H := hP
  have hD : va_D A [(h, .inr (1, [.ref r, .int (nI k)])), (r, .inl ((cT 0), n, .inl g_12))] := hD
  have hP9 := hP.sub (ws' := [(h, .inr (1, [.ref r, .int (nI k)])), (r, .inl ((cT 0), n, .inl g_12))]) [0, 1] rfl
  have hD9 := hD.sub (ws' := [(h, .inr (1, [.ref r, .int (nI k)])), (r, .inl ((cT 0), n, .inl g_12))]) [0, 1] (by decide) rfl
  exact W.vret hx hb hr (fun t ht hW => ⟨⟨g_12, rfl, hw13.2, by rw [ht]; exact hP9, va_K.moved hW.alike hK, hD9⟩, hS.F ht⟩) hS.2.2 d_By_become_11
set_option maxHeartbeats 4000000 in
set_option maxRecDepth 100000 in
/-- becomeRow -/
theorem c_By_becomeRow (l : Launch) (dC : Nat → ClassId) (dI : Nat → Nat → Nat) (cT : Nat → ClassId) (sz : Nat) (h : Nat) (r : Nat) (n : Nat) (len : Nat) (f : Nat → Int32) (q : Nat) (nq : Nat) (fq : Nat → Int32) (at_ : Nat) (k : Nat) (hlen : k ≤ n) (hn : n < 2 ^ 31) (hq : at_ + k ≤ nq) (hnq : nq < 2 ^ 31) : Met l y_By_becomeRow (Cond.code y_By_becomeRow b_By_becomeRow 4 (Option.none : Option Jvm.ClassFile.FieldType) :: BIG) ({ frames := 2, cells := 0, slots := 0, locals := 90 }) (va_Pc [.ref h, .ref q, .int (nI at_), .int (nI k)] (fun U => U.heap.size = sz ∧ va_P (dC, dI) vcl [(h, .inr (1, [.ref r, .int (nI len)])), (r, .inl ((cT 0), n, .inl f)), (q, .inl ((cT 0), nq, .inl fq))] U.heap ∧ va_K (dC, dI) vcl (tyL cT) U ∧ va_D (fun _ => True) [(h, .inr (1, [.ref r, .int (nI len)])), (r, .inl ((cT 0), n, .inl f)), (q, .inl ((cT 0), nq, .inl fq))])) (va_Qv (S := (Nat → Int32)) (fun u => match u with | g => AB f → AB fq → AB g) (fun u t => match u with | g => va_P (dC, dI) vcl [(h, .inr (1, [.ref r, .int (nI k)])), (r, .inl ((cT 0), n, .inl g)), (q, .inl ((cT 0), nq, .inl fq))] t.heap ∧ va_K (dC, dI) vcl (tyL cT) t ∧ va_D (va_A [(h, .inr (1, [.ref r, .int (nI len)])), (r, .inl ((cT 0), n, .inl f)), (q, .inl ((cT 0), nq, .inl fq))] sz) [(h, .inr (1, [.ref r, .int (nI k)])), (r, .inl ((cT 0), n, .inl g)), (q, .inl ((cT 0), nq, .inl fq))]) (va_A [(h, .inr (1, [.ref r, .int (nI len)])), (r, .inl ((cT 0), n, .inl f)), (q, .inl ((cT 0), nq, .inl fq))] sz)) 0 0 (va_A [(h, .inr (1, [.ref r, .int (nI len)])), (r, .inl ((cT 0), n, .inl f)), (q, .inl ((cT 0), nq, .inl fq))] sz) := by
  refine Met.ofW (cc := b_By_becomeRow) (maxL := 4) (ret := (Option.none : Option Jvm.ClassFile.FieldType)) (by decide) rfl ?_
  intro p e s m args below meth c s₁ B hml hv
  obtain ⟨hargs, hsz, hP, hK, hD0⟩ := hv
  have hx := B.exec
  have hb := B.bytes
  have hr := B.returns
  have hts := atoms_spec (ws := (Cond.code y_By_becomeRow b_By_becomeRow 4 (Option.none : Option Jvm.ClassFile.FieldType) :: BIG)) B.pre
  have hg : ∀ w ∈ BIG, w.before _ s = true := fun w h => hts w (List.mem_cons_of_mem _ h)
  have hown : s.vm.findClass "DoorServer$Bytes" = some m.cls := findClass_of_methodNamed B.named
  have hlocks := B.notSynchronized
  subst hsz
  have hD := hD0.self (sz := s.heap.size)
  generalize hAe : va_A [(h, .inr (1, [.ref r, .int (nI len)])), (r, .inl ((cT 0), n, .inl f)), (q, .inl ((cT 0), nq, .inl fq))] s.heap.size = A at hD ⊢
  have hA : ∀ q : Nat, s.heap.size ≤ q → A q := fun q h => by rw [← hAe]; exact Or.inr h
  have hS : va_S A s.heap s.heap [] := va_S.rf
  have hl := lv_entry ([.ref h, .ref q, .int (nI at_), .int (nI k)]) (n := 4) (Nat.le_of_ble_eq_true rfl)
  refine W.eq (g2 := entryFrame m (List.toArray [.ref h, .ref q, .int (nI at_), .int (nI k)]) 4) (by rw [hargs]) ?_
  rw [lg_entry_eq]
  generalize (lg_sl ([.ref h, .ref q, .int (nI at_), .int (nI k)]) ++ List.replicate (4 - (lg_sl ([.ref h, .ref q, .int (nI at_), .int (nI k)])).length) Slot.unset).toArray = ls at hl ⊢
  have hl : lv_has ls 4 [(0, .ref h), (1, .ref q), (2, .int (nI at_)), (3, .int (nI k))] := hl
  change W p l e ({ frames := 2, cells := 0, slots := 0, locals := 90 } : Room) s m args below meth c s.heap [] 0 0 _ _
  have hP : va_P (dC, dI) vcl [(h, .inr (1, [.ref r, .int (nI len)])), (r, .inl ((cT 0), n, .inl f)), (q, .inl ((cT 0), nq, .inl fq))] s.heap := hP
  refine lv_aload_n hx hb d_By_becomeRow_0 rfl (lv_at hl 0 rfl) ?_
  refine lv_iconst (v := 0) hx hb d_By_becomeRow_1 (by decide) ?_
  refine lv_topi (fun x15 e14 => ?_)
  obtain rfl : x15 = nI 0 := by rw [e14]; rfl
  refine va_put (D := (dC, dI)) (ci := 1) (v := (.int (nI 0))) (ty := .int) (C := R_By) (T := F_By) (N := 2) hx hb hg in_By t_By tok_By nm_By hown hK hP hD hS 0 rfl rfl 1 (by decide) (hg _ k_51) (fun _ h9 => h9) rfl (by decide +kernel) rfl rfl (Nat.le_of_ble_eq_true rfl) d_By_becomeRow_2 (fun H locs hP hD hS => ?_)
  have hP : va_P (dC, dI) vcl [(h, .inr (1, [.ref r, .int (nI 0)])), (r, .inl ((cT 0), n, .inl f)), (q, .inl ((cT 0), nq, .inl fq))] H := hP
  have hD : va_D A [(h, .inr (1, [.ref r, .int (nI 0)])), (r, .inl ((cT 0), n, .inl f)), (q, .inl ((cT 0), nq, .inl fq))] := hD
  refine lv_aload_n hx hb d_By_becomeRow_5 rfl (lv_at hl 0 rfl) ?_
  refine lv_aload_n hx hb d_By_becomeRow_6 rfl (lv_at hl 1 rfl) ?_
  refine lv_iload_n hx hb d_By_becomeRow_7 rfl (lv_at hl 2 rfl) ?_
  refine lv_iload_n hx hb d_By_becomeRow_8 rfl (lv_at hl 3 rfl) ?_
  have hPc := hP.sub (ws' := [(h, .inr (1, [.ref r, .int (nI 0)])), (r, .inl ((cT 0), n, .inl f)), (q, .inl ((cT 0), nq, .inl fq))]) [0, 1, 2] rfl
  have hDc := hD.sub (ws' := [(h, .inr (1, [.ref r, .int (nI 0)])), (r, .inl ((cT 0), n, .inl f)), (q, .inl ((cT 0), nq, .inl fq))]) [0, 1, 2] (by decide) rfl
  have hFc := va_free (wc := [(h, .inr (1, [.ref r, .int (nI 0)])), (r, .inl ((cT 0), n, .inl f)), (q, .inl ((cT 0), nq, .inl fq))]) hD hS hA [0, 1, 2] rfl
  refine va_callv (va_runV (C := "DoorServer$Bytes") (As := [.ref q, .int (nI at_), .int (nI k)]) (rest := []) ⟨hx, hb, hml, hown, hg⟩ (c_By_row l dC dI cT H.size h r n 0 f q nq fq at_ k (by omega) (hn) (hq) (hnq)) (cwV 3 hg (gI (List.forall_mem_append.mpr ⟨List.forall_mem_cons.mpr ⟨k_573, List.forall_mem_cons.mpr ⟨k_574, List.forall_mem_cons.mpr ⟨k_575, List.forall_mem_cons.mpr ⟨k_2, fun _ h => absurd h List.not_mem_nil⟩⟩⟩⟩, List.forall_mem_cons.mpr ⟨k_578, fun _ h => h⟩⟩)) rfl rfl rfl (by decide +kernel) ⟨Nat.le_of_ble_eq_true rfl, Nat.le_of_ble_eq_true rfl⟩) ⟨fun a U g mk q => by obtain ⟨q0, q1, qP, qK, qD⟩ := q; exact ⟨q0, q1, qP, va_K.moved (u := U) (U := U.calling g mk a) (Vm.Alike.refl U.vm) qK, qD⟩, va_recv (q0 := 0) (ci := 1) hK hP rfl rfl, fun U hU hW => ⟨rfl, by rw [hU], by rw [hU]; exact hPc, va_K.moved hW.alike hK, hDc.weaken (fun _ _ _ _ => trivial)⟩⟩ rfl rfl hl.1 rfl (lv_room (Nat.le_of_ble_eq_true rfl)) d_By_becomeRow_9 ⟨Nat.le_of_ble_eq_true rfl, Nat.le_of_ble_eq_true rfl⟩) hS (fun q _ h => hFc q h) hFc (fun u t H1 locs ht hvm hw hB hz1 hk1 hS => ?_)
  obtain ⟨g_16, rfl⟩ : ∃ z, z = u := ⟨_, rfl⟩
  try dsimp only at hw hB
  obtain ⟨hP1, hK1, hD1⟩ := hB
  rw [ht] at hP1
  obtain ⟨hP, hD⟩ := va_join (wr := []) (w1 := [(h, .inr (1, [.ref r, .int (nI (0 + k))])), (r, .inl ((cT 0), n, .inl g_16)), (q, .inl ((cT 0), nq, .inl fq))]) hP hD [0, 1, 2] [] rfl rfl (by decide) (by decide) hk1 hFc hP1 hD1
  have hw17 := hw
  clear hPc hDc hFc hz1 hk1 hP1 hK1 hD1
  generalize H1 = H at hP hS ⊢
  have hP : va_P (dC, dI) vcl [(h, .inr (1, [.ref r, .int (nI (0 + k))])), (r, .inl ((cT 0), n, .inl g_16)), (q, .inl ((cT 0), nq, .inl fq))] H := hP
  have hD : va_D A [(h, .inr (1, [.ref r, .int (nI (0 + k))])), (r, .inl ((cT 0), n, .inl g_16)), (q, .inl ((cT 0), nq, .inl fq))] := hD
  rw [Nat.zero_add] at hP hD
  have hP : va_P (dC, dI) vcl [(h, .inr (1, [.ref r, .int (nI k)])), (r, .inl ((cT 0), n, .inl g_16)), (q, .inl ((cT 0), nq, .inl fq))] H := hP
  have hD : va_D A [(h, .inr (1, [.ref r, .int (nI k)])), (r, .inl ((cT 0), n, .inl g_16)), (q, .inl ((cT 0), nq, .inl fq))] := hD
  have hP9 := hP.sub (ws' := [(h, .inr (1, [.ref r, .int (nI k)])), (r, .inl ((cT 0), n, .inl g_16)), (q, .inl ((cT 0), nq, .inl fq))]) [0, 1, 2] rfl
  have hD9 := hD.sub (ws' := [(h, .inr (1, [.ref r, .int (nI k)])), (r, .inl ((cT 0), n, .inl g_16)), (q, .inl ((cT 0), nq, .inl fq))]) [0, 1, 2] (by decide) rfl
  exact W.vret hx hb hr (fun t ht hW => ⟨⟨g_16, rfl, hw17, by rw [ht]; exact hP9, va_K.moved hW.alike hK, hD9⟩, hS.F ht⟩) hS.2.2 d_By_becomeRow_12
set_option maxHeartbeats 4000000 in
set_option maxRecDepth 100000 in
/-- appendRow: k values of another row come -/
theorem c_Pk_row (l : Launch) (dC : Nat → ClassId) (dI : Nat → Nat → Nat) (cT : Nat → ClassId) (sz : Nat) (h : Nat) (r : Nat) (n : Nat) (len : Nat) (f : Nat → Int32) (q : Nat) (nq : Nat) (fq : Nat → Int32) (at_ : Nat) (k : Nat) (hlen : len + k ≤ n) (hn : n < 2 ^ 31) (hq : at_ + k ≤ nq) (hnq : nq < 2 ^ 31) : Met l y_By_appendRow (Cond.code y_By_appendRow b_By_appendRow 4 (Option.none : Option Jvm.ClassFile.FieldType) :: BIG) ({ frames := 1, cells := 0, slots := 0, locals := 60 }) (va_Pc [.ref h, .ref q, .int (nI at_), .int (nI k)] (fun U => U.heap.size = sz ∧ va_P (dC, dI) vcl [(h, .inr (2, [.ref r, .int (nI len)])), (r, .inl ((cT 0), n, .inl f)), (q, .inl ((cT 0), nq, .inl fq))] U.heap ∧ va_K (dC, dI) vcl (tyL cT) U ∧ va_D (fun _ => True) [(h, .inr (2, [.ref r, .int (nI len)])), (r, .inl ((cT 0), n, .inl f)), (q, .inl ((cT 0), nq, .inl fq))])) (va_Qv (S := (Nat → Int32)) (fun u => match u with | g => AB f → AB fq → AB g) (fun u t => match u with | g => va_P (dC, dI) vcl [(h, .inr (2, [.ref r, .int (nI (len + k))])), (r, .inl ((cT 0), n, .inl g)), (q, .inl ((cT 0), nq, .inl fq))] t.heap ∧ va_K (dC, dI) vcl (tyL cT) t ∧ va_D (va_A [(h, .inr (2, [.ref r, .int (nI len)])), (r, .inl ((cT 0), n, .inl f)), (q, .inl ((cT 0), nq, .inl fq))] sz) [(h, .inr (2, [.ref r, .int (nI (len + k))])), (r, .inl ((cT 0), n, .inl g)), (q, .inl ((cT 0), nq, .inl fq))]) (va_A [(h, .inr (2, [.ref r, .int (nI len)])), (r, .inl ((cT 0), n, .inl f)), (q, .inl ((cT 0), nq, .inl fq))] sz)) 0 0 (va_A [(h, .inr (2, [.ref r, .int (nI len)])), (r, .inl ((cT 0), n, .inl f)), (q, .inl ((cT 0), nq, .inl fq))] sz) := by
  refine Met.ofW (cc := b_By_appendRow) (maxL := 4) (ret := (Option.none : Option Jvm.ClassFile.FieldType)) (by decide) rfl ?_
  intro p e s m args below meth c s₁ B hml hv
  obtain ⟨hargs, hsz, hP, hK, hD0⟩ := hv
  have hx := B.exec
  have hb := B.bytes
  have hr := B.returns
  have hts := atoms_spec (ws := (Cond.code y_By_appendRow b_By_appendRow 4 (Option.none : Option Jvm.ClassFile.FieldType) :: BIG)) B.pre
  have hg : ∀ w ∈ BIG, w.before _ s = true := fun w h => hts w (List.mem_cons_of_mem _ h)
  have hown : s.vm.findClass "DoorServer$Bytes" = some m.cls := findClass_of_methodNamed B.named
  have hlocks := B.notSynchronized
  subst hsz
  have hD := hD0.self (sz := s.heap.size)
  generalize hAe : va_A [(h, .inr (2, [.ref r, .int (nI len)])), (r, .inl ((cT 0), n, .inl f)), (q, .inl ((cT 0), nq, .inl fq))] s.heap.size = A at hD ⊢
  have hA : ∀ q : Nat, s.heap.size ≤ q → A q := fun q h => by rw [← hAe]; exact Or.inr h
  have hS : va_S A s.heap s.heap [] := va_S.rf
  have hl := lv_entry ([.ref h, .ref q, .int (nI at_), .int (nI k)]) (n := 4) (Nat.le_of_ble_eq_true rfl)
  refine W.eq (g2 := entryFrame m (List.toArray [.ref h, .ref q, .int (nI at_), .int (nI k)]) 4) (by rw [hargs]) ?_
  rw [lg_entry_eq]
  generalize (lg_sl ([.ref h, .ref q, .int (nI at_), .int (nI k)]) ++ List.replicate (4 - (lg_sl ([.ref h, .ref q, .int (nI at_), .int (nI k)])).length) Slot.unset).toArray = ls at hl ⊢
  have hl : lv_has ls 4 [(0, .ref h), (1, .ref q), (2, .int (nI at_)), (3, .int (nI k))] := hl
  change W p l e ({ frames := 1, cells := 0, slots := 0, locals := 60 } : Room) s m args below meth c s.heap [] 0 0 _ _
  have hP : va_P (dC, dI) vcl [(h, .inr (2, [.ref r, .int (nI len)])), (r, .inl ((cT 0), n, .inl f)), (q, .inl ((cT 0), nq, .inl fq))] s.heap := hP
  refine lv_iload_n hx hb d_By_appendRow_0 rfl (lv_at hl 3 rfl) ?_
  refine lv_aload_n hx hb d_By_appendRow_1 rfl (lv_at hl 0 rfl) ?_
  refine va_get (D := (dC, dI)) (ci := 2) (v := (.ref r)) (C := R_Pk) (T := F_Pk) (N := 2) hx hb hg in_Pk hown hK hP 0 rfl rfl 0 (by decide) (hg _ k_39) (fun _ h9 => h9) rfl d_By_appendRow_2 ?_
  refine va_alen hx hb hK hP 1 0 rfl rfl (v := nI n) rfl d_By_appendRow_5 ?_
  refine lv_aload_n hx hb d_By_appendRow_6 rfl (lv_at hl 0 rfl) ?_
  refine va_get (D := (dC, dI)) (ci := 2) (v := (.int (nI len))) (C := R_Pk) (T := F_Pk) (N := 2) hx hb hg in_Pk hown hK hP 0 rfl rfl 1 (by decide) (hg _ k_51) (fun _ h9 => h9) rfl d_By_appendRow_7 ?_
  refine lv_isub hx hb d_By_appendRow_10 ?_
  refine lv_topi (fun x19 e18 => ?_)
  obtain rfl : x19 = nI (n - len) := by rw [e18]; exact pk_sub (by omega)
  refine lv_icmp_gt (tgt := 50) hx hb d_By_appendRow_11 (by decide) (fun hn9 => absurd hn9 (nI_nlt (by omega) (by omega))) (fun hc20 => ?_)
  refine lv_iload_n hx hb d_By_appendRow_14 rfl (lv_at hl 2 rfl) ?_
  refine lv_if_lt (tgt := 50) hx hb d_By_appendRow_15 (by decide) (fun hn9 => absurd hn9 (nI_pos (by omega))) (fun hc21 => ?_)
  refine lv_iload_n hx hb d_By_appendRow_18 rfl (lv_at hl 3 rfl) ?_
  refine lv_aload_n hx hb d_By_appendRow_19 rfl (lv_at hl 1 rfl) ?_
  refine va_alen hx hb hK hP 2 0 rfl rfl (v := nI nq) rfl d_By_appendRow_20 ?_
  refine lv_iload_n hx hb d_By_appendRow_21 rfl (lv_at hl 2 rfl) ?_
  refine lv_isub hx hb d_By_appendRow_22 ?_
  refine lv_topi (fun x23 e22 => ?_)
  obtain rfl : x23 = nI (nq - at_) := by rw [e22]; exact pk_sub (by omega)
  refine lv_icmp_gt (tgt := 50) hx hb d_By_appendRow_23 (by decide) (fun hn9 => absurd hn9 (nI_nlt (by omega) (by omega))) (fun hc24 => ?_)
  refine lv_aload_n hx hb d_By_appendRow_26 rfl (lv_at hl 1 rfl) ?_
  refine lv_iload_n hx hb d_By_appendRow_27 rfl (lv_at hl 2 rfl) ?_
  refine lv_aload_n hx hb d_By_appendRow_28 rfl (lv_at hl 0 rfl) ?_
  refine va_get (D := (dC, dI)) (ci := 2) (v := (.ref r)) (C := R_Pk) (T := F_Pk) (N := 2) hx hb hg in_Pk hown hK hP 0 rfl rfl 0 (by decide) (hg _ k_39) (fun _ h9 => h9) rfl d_By_appendRow_29 ?_
  refine lv_aload_n hx hb d_By_appendRow_32 rfl (lv_at hl 0 rfl) ?_
  refine va_get (D := (dC, dI)) (ci := 2) (v := (.int (nI len))) (C := R_Pk) (T := F_Pk) (N := 2) hx hb hg in_Pk hown hK hP 0 rfl rfl 1 (by decide) (hg _ k_51) (fun _ h9 => h9) rfl d_By_appendRow_33 ?_
  refine lv_iload_n hx hb d_By_appendRow_36 rfl (lv_at hl 3 rfl) ?_
  refine va_copyi hx hb (hml.trans hl.1.symm) hown (hg _ k_579) (hg _ k_581) (hg _ k_580) (hg _ k_19) hK hP hD hS 2 1 0 0 rfl rfl rfl rfl rfl (nI_pos (by omega)) (nI_pos (by omega)) (nI_pos (by omega)) (by rw [nI_clamp (n := at_) (by omega), nI_clamp (n := k) (by omega)]; omega) (by rw [nI_clamp (n := len) (by omega), nI_clamp (n := k) (by omega)]; omega) (fun _ _ => rfl) (Nat.le_of_ble_eq_true rfl) (by decide) d_By_appendRow_37 (fun H locs hP hD hS => ?_)
  have hP : va_P (dC, dI) vcl [(h, .inr (2, [.ref r, .int (nI len)])), (r, .inl ((cT 0), n, .inl (va_cpy fq f (nI at_).toNatClampNeg (nI len).toNatClampNeg (nI k).toNatClampNeg))), (q, .inl ((cT 0), nq, .inl fq))] H := hP
  have hD : va_D A [(h, .inr (2, [.ref r, .int (nI len)])), (r, .inl ((cT 0), n, .inl (va_cpy fq f (nI at_).toNatClampNeg (nI len).toNatClampNeg (nI k).toNatClampNeg))), (q, .inl ((cT 0), nq, .inl fq))] := hD
  refine lv_aload_n hx hb d_By_appendRow_40 rfl (lv_at hl 0 rfl) ?_
  refine lv_dup hx hb d_By_appendRow_41 rfl ?_
  refine va_get (D := (dC, dI)) (ci := 2) (v := (.int (nI len))) (C := R_Pk) (T := F_Pk) (N := 2) hx hb hg in_Pk hown hK hP 0 rfl rfl 1 (by decide) (hg _ k_51) (fun _ h9 => h9) rfl d_By_appendRow_42 ?_
  refine lv_iload_n hx hb d_By_appendRow_45 rfl (lv_at hl 3 rfl) ?_
  refine lv_iadd hx hb d_By_appendRow_46 ?_
  refine lv_topi (fun x26 e25 => ?_)
  obtain rfl : x26 = nI (len + k) := by rw [e25]; exact nI_add len k
  refine va_put (D := (dC, dI)) (ci := 2) (v := (.int (nI (len + k)))) (ty := .int) (C := R_Pk) (T := F_Pk) (N := 2) hx hb hg in_Pk t_Pk tok_Pk nm_Pk hown hK hP hD hS 0 rfl rfl 1 (by decide) (hg _ k_51) (fun _ h9 => h9) rfl (by decide +kernel) rfl rfl (Nat.le_of_ble_eq_true rfl) d_By_appendRow_47 (fun H locs hP hD hS => ?_)
  have hP : va_P (dC, dI) vcl [(h, .inr (2, [.ref r, .int (nI (len + k))])), (r, .inl ((cT 0), n, .inl (va_cpy fq f (nI at_).toNatClampNeg (nI len).toNatClampNeg (nI k).toNatClampNeg))), (q, .inl ((cT 0), nq, .inl fq))] H := hP
  have hD : va_D A [(h, .inr (2, [.ref r, .int (nI (len + k))])), (r, .inl ((cT 0), n, .inl (va_cpy fq f (nI at_).toNatClampNeg (nI len).toNatClampNeg (nI k).toNatClampNeg))), (q, .inl ((cT 0), nq, .inl fq))] := hD
  have hP9 := hP.sub (ws' := [(h, .inr (2, [.ref r, .int (nI (len + k))])), (r, .inl ((cT 0), n, .inl (va_cpy fq f (nI at_).toNatClampNeg (nI len).toNatClampNeg (nI k).toNatClampNeg))), (q, .inl ((cT 0), nq, .inl fq))]) [0, 1, 2] rfl
  have hD9 := hD.sub (ws' := [(h, .inr (2, [.ref r, .int (nI (len + k))])), (r, .inl ((cT 0), n, .inl (va_cpy fq f (nI at_).toNatClampNeg (nI len).toNatClampNeg (nI k).toNatClampNeg))), (q, .inl ((cT 0), nq, .inl fq))]) [0, 1, 2] (by decide) rfl
  exact W.vret hx hb hr (fun t ht hW => ⟨⟨va_cpy fq f (nI at_).toNatClampNeg (nI len).toNatClampNeg (nI k).toNatClampNeg, rfl, fun h8 h9 => AB_cpy h9 h8, by rw [ht]; exact hP9, va_K.moved hW.alike hK, hD9⟩, hS.F ht⟩) hS.2.2 d_By_appendRow_50
set_option maxHeartbeats 4000000 in
set_option maxRecDepth 100000 in
/-- become -/
theorem c_Pk_become (l : Launch) (dC : Nat → ClassId) (dI : Nat → Nat → Nat) (cT : Nat → ClassId) (sz : Nat) (h : Nat) (r : Nat) (n : Nat) (len : Nat) (f : Nat → Int32) (v : Int64) (k : Nat) (hlen : k ≤ n) (hn : n < 2 ^ 31) : Met l y_By_become (Cond.code y_By_become b_By_become 4 (Option.none : Option Jvm.ClassFile.FieldType) :: BIG) ({ frames := 2, cells := 0, slots := 0, locals := 45 }) (va_Pc [.ref h, .long v, .int (nI k)] (fun U => U.heap.size = sz ∧ va_P (dC, dI) vcl [(h, .inr (2, [.ref r, .int (nI len)])), (r, .inl ((cT 0), n, .inl f))] U.heap ∧ va_K (dC, dI) vcl (tyL cT) U ∧ va_D (fun _ => True) [(h, .inr (2, [.ref r, .int (nI len)])), (r, .inl ((cT 0), n, .inl f))])) (va_Qv (S := (Nat → Int32)) (fun u => match u with | g => AB f → AB g) (fun u t => match u with | g => va_P (dC, dI) vcl [(h, .inr (2, [.ref r, .int (nI k)])), (r, .inl ((cT 0), n, .inl g))] t.heap ∧ va_K (dC, dI) vcl (tyL cT) t ∧ va_D (va_A [(h, .inr (2, [.ref r, .int (nI len)])), (r, .inl ((cT 0), n, .inl f))] sz) [(h, .inr (2, [.ref r, .int (nI k)])), (r, .inl ((cT 0), n, .inl g))]) (va_A [(h, .inr (2, [.ref r, .int (nI len)])), (r, .inl ((cT 0), n, .inl f))] sz)) 0 0 (va_A [(h, .inr (2, [.ref r, .int (nI len)])), (r, .inl ((cT 0), n, .inl f))] sz) := by
  refine Met.ofW (cc := b_By_become) (maxL := 4) (ret := (Option.none : Option Jvm.ClassFile.FieldType)) (by decide) rfl ?_
  intro p e s m args below meth c s₁ B hml hv
  obtain ⟨hargs, hsz, hP, hK, hD0⟩ := hv
  have hx := B.exec
  have hb := B.bytes
  have hr := B.returns
  have hts := atoms_spec (ws := (Cond.code y_By_become b_By_become 4 (Option.none : Option Jvm.ClassFile.FieldType) :: BIG)) B.pre
  have hg : ∀ w ∈ BIG, w.before _ s = true := fun w h => hts w (List.mem_cons_of_mem _ h)
  have hown : s.vm.findClass "DoorServer$Bytes" = some m.cls := findClass_of_methodNamed B.named
  have hlocks := B.notSynchronized
  subst hsz
  have hD := hD0.self (sz := s.heap.size)
  generalize hAe : va_A [(h, .inr (2, [.ref r, .int (nI len)])), (r, .inl ((cT 0), n, .inl f))] s.heap.size = A at hD ⊢
  have hA : ∀ q : Nat, s.heap.size ≤ q → A q := fun q h => by rw [← hAe]; exact Or.inr h
  have hS : va_S A s.heap s.heap [] := va_S.rf
  have hl := lv_entry ([.ref h, .long v, .int (nI k)]) (n := 4) (Nat.le_of_ble_eq_true rfl)
  refine W.eq (g2 := entryFrame m (List.toArray [.ref h, .long v, .int (nI k)]) 4) (by rw [hargs]) ?_
  rw [lg_entry_eq]
  generalize (lg_sl ([.ref h, .long v, .int (nI k)]) ++ List.replicate (4 - (lg_sl ([.ref h, .long v, .int (nI k)])).length) Slot.unset).toArray = ls at hl ⊢
  have hl : lv_has ls 4 [(0, .ref h), (1, .long v), (3, .int (nI k))] := hl
  change W p l e ({ frames := 2, cells := 0, slots := 0, locals := 45 } : Room) s m args below meth c s.heap [] 0 0 _ _
  have hP : va_P (dC, dI) vcl [(h, .inr (2, [.ref r, .int (nI len)])), (r, .inl ((cT 0), n, .inl f))] s.heap := hP
  refine lv_aload_n hx hb d_By_become_0 rfl (lv_at hl 0 rfl) ?_
  refine lv_iconst (v := 0) hx hb d_By_become_1 (by decide) ?_
  refine lv_topi (fun x28 e27 => ?_)
  obtain rfl : x28 = nI 0 := by rw [e27]; rfl
  refine va_put (D := (dC, dI)) (ci := 2) (v := (.int (nI 0))) (ty := .int) (C := R_Pk) (T := F_Pk) (N := 2) hx hb hg in_Pk t_Pk tok_Pk nm_Pk hown hK hP hD hS 0 rfl rfl 1 (by decide) (hg _ k_51) (fun _ h9 => h9) rfl (by decide +kernel) rfl rfl (Nat.le_of_ble_eq_true rfl) d_By_become_2 (fun H locs hP hD hS => ?_)
  have hP : va_P (dC, dI) vcl [(h, .inr (2, [.ref r, .int (nI 0)])), (r, .inl ((cT 0), n, .inl f))] H := hP
  have hD : va_D A [(h, .inr (2, [.ref r, .int (nI 0)])), (r, .inl ((cT 0), n, .inl f))] := hD
  refine lv_aload_n hx hb d_By_become_5 rfl (lv_at hl 0 rfl) ?_
  refine lv_lload_n hx hb d_By_become_6 rfl (lv_at hl 1 rfl) ?_
  refine lv_iload_n hx hb d_By_become_7 rfl (lv_at hl 2 rfl) ?_
  have hPc := hP.sub (ws' := [(h, .inr (2, [.ref r, .int (nI 0)])), (r, .inl ((cT 0), n, .inl f))]) [0, 1] rfl
  have hDc := hD.sub (ws' := [(h, .inr (2, [.ref r, .int (nI 0)])), (r, .inl ((cT 0), n, .inl f))]) [0, 1] (by decide) rfl
  have hFc := va_free (wc := [(h, .inr (2, [.ref r, .int (nI 0)])), (r, .inl ((cT 0), n, .inl f))]) hD hS hA [0, 1] rfl
  refine va_callv (va_runU (C := "DoorServer$Packet") (owner := "DoorServer$Bytes") (x := y_By_appendPattern) (As := [.long v, .int (nI k)]) (rest := []) ⟨hx, hb, hml, hown, hg⟩ (c_Pk_pattern l dC dI cT H.size h r n 0 f v k (by omega) (hn)) (va_cwU 2 hg (gI (List.forall_mem_append.mpr ⟨List.forall_mem_cons.mpr ⟨k_461, List.forall_mem_cons.mpr ⟨k_464, List.forall_mem_cons.mpr ⟨k_465, List.forall_mem_cons.mpr ⟨k_462, List.forall_mem_cons.mpr ⟨k_2, fun _ h => absurd h List.not_mem_nil⟩⟩⟩⟩⟩, List.forall_mem_cons.mpr ⟨k_466, fun _ h => h⟩⟩)) rfl rfl rfl rfl (by decide +kernel) ⟨Nat.le_of_ble_eq_true rfl, Nat.le_of_ble_eq_true rfl⟩) ⟨fun a U g mk q => by obtain ⟨q0, q1, qP, qK, qD⟩ := q; exact ⟨q0, q1, qP, va_K.moved (u := U) (U := U.calling g mk a) (Vm.Alike.refl U.vm) qK, qD⟩, va_recv (q0 := 0) (ci := 2) hK hP rfl rfl, fun U hU hW => ⟨rfl, by rw [hU], by rw [hU]; exact hPc, va_K.moved hW.alike hK, hDc.weaken (fun _ _ _ _ => trivial)⟩⟩ rfl rfl hl.1 rfl (lv_room (Nat.le_of_ble_eq_true rfl)) d_By_become_8 ⟨Nat.le_of_ble_eq_true rfl, Nat.le_of_ble_eq_true rfl⟩) hS (fun q _ h => hFc q h) hFc (fun u t H1 locs ht hvm hw hB hz1 hk1 hS => ?_)
  obtain ⟨g_29, rfl⟩ : ∃ z, z = u := ⟨_, rfl⟩
  try dsimp only at hw hB
  obtain ⟨hP1, hK1, hD1⟩ := hB
  rw [ht] at hP1
  obtain ⟨hP, hD⟩ := va_join (wr := []) (w1 := [(h, .inr (2, [.ref r, .int (nI (0 + k))])), (r, .inl ((cT 0), n, .inl g_29))]) hP hD [0, 1] [] rfl rfl (by decide) (by decide) hk1 hFc hP1 hD1
  have hw30 := hw
  clear hPc hDc hFc hz1 hk1 hP1 hK1 hD1
  generalize H1 = H at hP hS ⊢
  have hP : va_P (dC, dI) vcl [(h, .inr (2, [.ref r, .int (nI (0 + k))])), (r, .inl ((cT 0), n, .inl g_29))] H := hP
  have hD : va_D A [(h, .inr (2, [.ref r, .int (nI (0 + k))])), (r, .inl ((cT 0), n, .inl g_29))] := hD
  have hP := hP
  rw [Nat.zero_add] at hP hD
  have hP : va_P (dC, dI) vcl [(h, .inr (2, [.ref r, .int (nI k)])), (r, .inl ((cT 0), n, .inl g_29))] H := hP
  have hD : va_D A [(h, .inr (2, [.ref r, .int (nI k)])), (r, .inl ((cT 0), n, .inl g_29))] := hD
  have hP9 := hP.sub (ws' := [(h, .inr (2, [.ref r, .int (nI k)])), (r, .inl ((cT 0), n, .inl g_29))]) [0, 1] rfl
  have hD9 := hD.sub (ws' := [(h, .inr (2, [.ref r, .int (nI k)])), (r, .inl ((cT 0), n, .inl g_29))]) [0, 1] (by decide) rfl
  exact W.vret hx hb hr (fun t ht hW => ⟨⟨g_29, rfl, hw30.2, by rw [ht]; exact hP9, va_K.moved hW.alike hK, hD9⟩, hS.F ht⟩) hS.2.2 d_By_become_11
set_option maxHeartbeats 4000000 in
set_option maxRecDepth 100000 in
/-- becomeRow -/
theorem c_Pk_becomeRow (l : Launch) (dC : Nat → ClassId) (dI : Nat → Nat → Nat) (cT : Nat → ClassId) (sz : Nat) (h : Nat) (r : Nat) (n : Nat) (len : Nat) (f : Nat → Int32) (q : Nat) (nq : Nat) (fq : Nat → Int32) (at_ : Nat) (k : Nat) (hlen : k ≤ n) (hn : n < 2 ^ 31) (hq : at_ + k ≤ nq) (hnq : nq < 2 ^ 31) : Met l y_By_becomeRow (Cond.code y_By_becomeRow b_By_becomeRow 4 (Option.none : Option Jvm.ClassFile.FieldType) :: BIG) ({ frames := 2, cells := 0, slots := 0, locals := 90 }) (va_Pc [.ref h, .ref q, .int (nI at_), .int (nI k)] (fun U => U.heap.size = sz ∧ va_P (dC, dI) vcl [(h, .inr (2, [.ref r, .int (nI len)])), (r, .inl ((cT 0), n, .inl f)), (q, .inl ((cT 0), nq, .inl fq))] U.heap ∧ va_K (dC, dI) vcl (tyL cT) U ∧ va_D (fun _ => True) [(h, .inr (2, [.ref r, .int (nI len)])), (r, .inl ((cT 0), n, .inl f)), (q, .inl ((cT 0), nq, .inl fq))])) (va_Qv (S := (Nat → Int32)) (fun u => match u with | g => AB f → AB fq → AB g) (fun u t => match u with | g => va_P (dC, dI) vcl [(h, .inr (2, [.ref r, .int (nI k)])), (r, .inl ((cT 0), n, .inl g)), (q, .inl ((cT 0), nq, .inl fq))] t.heap ∧ va_K (dC, dI) vcl (tyL cT) t ∧ va_D (va_A [(h, .inr (2, [.ref r, .int (nI len)])), (r, .inl ((cT 0), n, .inl f)), (q, .inl ((cT 0), nq, .inl fq))] sz) [(h, .inr (2, [.ref r, .int (nI k)])), (r, .inl ((cT 0), n, .inl g)), (q, .inl ((cT 0), nq, .inl fq))]) (va_A [(h, .inr (2, [.ref r, .int (nI len)])), (r, .inl ((cT 0), n, .inl f)), (q, .inl ((cT 0), nq, .inl fq))] sz)) 0 0 (va_A [(h, .inr (2, [.ref r, .int (nI len)])), (r, .inl ((cT 0), n, .inl f)), (q, .inl ((cT 0), nq, .inl fq))] sz) := by
  refine Met.ofW (cc := b_By_becomeRow) (maxL := 4) (ret := (Option.none : Option Jvm.ClassFile.FieldType)) (by decide) rfl ?_
  intro p e s m args below meth c s₁ B hml hv
  obtain ⟨hargs, hsz, hP, hK, hD0⟩ := hv
  have hx := B.exec
  have hb := B.bytes
  have hr := B.returns
  have hts := atoms_spec (ws := (Cond.code y_By_becomeRow b_By_becomeRow 4 (Option.none : Option Jvm.ClassFile.FieldType) :: BIG)) B.pre
  have hg : ∀ w ∈ BIG, w.before _ s = true := fun w h => hts w (List.mem_cons_of_mem _ h)
  have hown : s.vm.findClass "DoorServer$Bytes" = some m.cls := findClass_of_methodNamed B.named
  have hlocks := B.notSynchronized
  subst hsz
  have hD := hD0.self (sz := s.heap.size)
  generalize hAe : va_A [(h, .inr (2, [.ref r, .int (nI len)])), (r, .inl ((cT 0), n, .inl f)), (q, .inl ((cT 0), nq, .inl fq))] s.heap.size = A at hD ⊢
  have hA : ∀ q : Nat, s.heap.size ≤ q → A q := fun q h => by rw [← hAe]; exact Or.inr h
  have hS : va_S A s.heap s.heap [] := va_S.rf
  have hl := lv_entry ([.ref h, .ref q, .int (nI at_), .int (nI k)]) (n := 4) (Nat.le_of_ble_eq_true rfl)
  refine W.eq (g2 := entryFrame m (List.toArray [.ref h, .ref q, .int (nI at_), .int (nI k)]) 4) (by rw [hargs]) ?_
  rw [lg_entry_eq]
  generalize (lg_sl ([.ref h, .ref q, .int (nI at_), .int (nI k)]) ++ List.replicate (4 - (lg_sl ([.ref h, .ref q, .int (nI at_), .int (nI k)])).length) Slot.unset).toArray = ls at hl ⊢
  have hl : lv_has ls 4 [(0, .ref h), (1, .ref q), (2, .int (nI at_)), (3, .int (nI k))] := hl
  change W p l e ({ frames := 2, cells := 0, slots := 0, locals := 90 } : Room) s m args below meth c s.heap [] 0 0 _ _
  have hP : va_P (dC, dI) vcl [(h, .inr (2, [.ref r, .int (nI len)])), (r, .inl ((cT 0), n, .inl f)), (q, .inl ((cT 0), nq, .inl fq))] s.heap := hP
  refine lv_aload_n hx hb d_By_becomeRow_0 rfl (lv_at hl 0 rfl) ?_
  refine lv_iconst (v := 0) hx hb d_By_becomeRow_1 (by decide) ?_
  refine lv_topi (fun x32 e31 => ?_)
  obtain rfl : x32 = nI 0 := by rw [e31]; rfl
  refine va_put (D := (dC, dI)) (ci := 2) (v := (.int (nI 0))) (ty := .int) (C := R_Pk) (T := F_Pk) (N := 2) hx hb hg in_Pk t_Pk tok_Pk nm_Pk hown hK hP hD hS 0 rfl rfl 1 (by decide) (hg _ k_51) (fun _ h9 => h9) rfl (by decide +kernel) rfl rfl (Nat.le_of_ble_eq_true rfl) d_By_becomeRow_2 (fun H locs hP hD hS => ?_)
  have hP : va_P (dC, dI) vcl [(h, .inr (2, [.ref r, .int (nI 0)])), (r, .inl ((cT 0), n, .inl f)), (q, .inl ((cT 0), nq, .inl fq))] H := hP
  have hD : va_D A [(h, .inr (2, [.ref r, .int (nI 0)])), (r, .inl ((cT 0), n, .inl f)), (q, .inl ((cT 0), nq, .inl fq))] := hD
  refine lv_aload_n hx hb d_By_becomeRow_5 rfl (lv_at hl 0 rfl) ?_
  refine lv_aload_n hx hb d_By_becomeRow_6 rfl (lv_at hl 1 rfl) ?_
  refine lv_iload_n hx hb d_By_becomeRow_7 rfl (lv_at hl 2 rfl) ?_
  refine lv_iload_n hx hb d_By_becomeRow_8 rfl (lv_at hl 3 rfl) ?_
  have hPc := hP.sub (ws' := [(h, .inr (2, [.ref r, .int (nI 0)])), (r, .inl ((cT 0), n, .inl f)), (q, .inl ((cT 0), nq, .inl fq))]) [0, 1, 2] rfl
  have hDc := hD.sub (ws' := [(h, .inr (2, [.ref r, .int (nI 0)])), (r, .inl ((cT 0), n, .inl f)), (q, .inl ((cT 0), nq, .inl fq))]) [0, 1, 2] (by decide) rfl
  have hFc := va_free (wc := [(h, .inr (2, [.ref r, .int (nI 0)])), (r, .inl ((cT 0), n, .inl f)), (q, .inl ((cT 0), nq, .inl fq))]) hD hS hA [0, 1, 2] rfl
  refine va_callv (va_runU (C := "DoorServer$Packet") (owner := "DoorServer$Bytes") (x := y_By_appendRow) (As := [.ref q, .int (nI at_), .int (nI k)]) (rest := []) ⟨hx, hb, hml, hown, hg⟩ (c_Pk_row l dC dI cT H.size h r n 0 f q nq fq at_ k (by omega) (hn) (hq) (hnq)) (va_cwU 3 hg (gI (List.forall_mem_append.mpr ⟨List.forall_mem_cons.mpr ⟨k_573, List.forall_mem_cons.mpr ⟨k_576, List.forall_mem_cons.mpr ⟨k_577, List.forall_mem_cons.mpr ⟨k_574, List.forall_mem_cons.mpr ⟨k_2, fun _ h => absurd h List.not_mem_nil⟩⟩⟩⟩⟩, List.forall_mem_cons.mpr ⟨k_578, fun _ h => h⟩⟩)) rfl rfl rfl rfl (by decide +kernel) ⟨Nat.le_of_ble_eq_true rfl, Nat.le_of_ble_eq_true rfl⟩) ⟨fun a U g mk q => by obtain ⟨q0, q1, qP, qK, qD⟩ := q; exact ⟨q0, q1, qP, va_K.moved (u := U) (U := U.calling g mk a) (Vm.Alike.refl U.vm) qK, qD⟩, va_recv (q0 := 0) (ci := 2) hK hP rfl rfl, fun U hU hW => ⟨rfl, by rw [hU], by rw [hU]; exact hPc, va_K.moved hW.alike hK, hDc.weaken (fun _ _ _ _ => trivial)⟩⟩ rfl rfl hl.1 rfl (lv_room (Nat.le_of_ble_eq_true rfl)) d_By_becomeRow_9 ⟨Nat.le_of_ble_eq_true rfl, Nat.le_of_ble_eq_true rfl⟩) hS (fun q _ h => hFc q h) hFc (fun u t H1 locs ht hvm hw hB hz1 hk1 hS => ?_)
  obtain ⟨g_33, rfl⟩ : ∃ z, z = u := ⟨_, rfl⟩
  try dsimp only at hw hB
  obtain ⟨hP1, hK1, hD1⟩ := hB
  rw [ht] at hP1
  obtain ⟨hP, hD⟩ := va_join (wr := []) (w1 := [(h, .inr (2, [.ref r, .int (nI (0 + k))])), (r, .inl ((cT 0), n, .inl g_33)), (q, .inl ((cT 0), nq, .inl fq))]) hP hD [0, 1, 2] [] rfl rfl (by decide) (by decide) hk1 hFc hP1 hD1
  have hw34 := hw
  clear hPc hDc hFc hz1 hk1 hP1 hK1 hD1
  generalize H1 = H at hP hS ⊢
  have hP : va_P (dC, dI) vcl [(h, .inr (2, [.ref r, .int (nI (0 + k))])), (r, .inl ((cT 0), n, .inl g_33)), (q, .inl ((cT 0), nq, .inl fq))] H := hP
  have hD : va_D A [(h, .inr (2, [.ref r, .int (nI (0 + k))])), (r, .inl ((cT 0), n, .inl g_33)), (q, .inl ((cT 0), nq, .inl fq))] := hD
  rw [Nat.zero_add] at hP hD
  have hP : va_P (dC, dI) vcl [(h, .inr (2, [.ref r, .int (nI k)])), (r, .inl ((cT 0), n, .inl g_33)), (q, .inl ((cT 0), nq, .inl fq))] H := hP
  have hD : va_D A [(h, .inr (2, [.ref r, .int (nI k)])), (r, .inl ((cT 0), n, .inl g_33)), (q, .inl ((cT 0), nq, .inl fq))] := hD
  have hP9 := hP.sub (ws' := [(h, .inr (2, [.ref r, .int (nI k)])), (r, .inl ((cT 0), n, .inl g_33)), (q, .inl ((cT 0), nq, .inl fq))]) [0, 1, 2] rfl
  have hD9 := hD.sub (ws' := [(h, .inr (2, [.ref r, .int (nI k)])), (r, .inl ((cT 0), n, .inl g_33)), (q, .inl ((cT 0), nq, .inl fq))]) [0, 1, 2] (by decide) rfl
  exact W.vret hx hb hr (fun t ht hW => ⟨⟨g_33, rfl, hw34, by rw [ht]; exact hP9, va_K.moved hW.alike hK, hD9⟩, hS.F ht⟩) hS.2.2 d_By_becomeRow_12
