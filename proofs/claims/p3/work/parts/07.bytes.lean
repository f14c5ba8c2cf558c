theorem d_By_append_0 : decode b_By_append 0 = .ok (.aload_n 0, 1) := by decide +kernel
theorem d_By_append_1 : decode b_By_append 1 = .ok (.getfield 15, 3) := by decide +kernel
theorem d_By_append_4 : decode b_By_append 4 = .ok (.aload_n 0, 1) := by decide +kernel
theorem d_By_append_5 : decode b_By_append 5 = .ok (.getfield 9, 3) := by decide +kernel
theorem d_By_append_8 : decode b_By_append 8 = .ok (.arraylength, 1) := by decide +kernel
theorem d_By_append_9 : decode b_By_append 9 = .ok (.if_icmp .ge 27, 3) := by decide +kernel
theorem d_By_append_12 : decode b_By_append 12 = .ok (.aload_n 0, 1) := by decide +kernel
theorem d_By_append_13 : decode b_By_append 13 = .ok (.getfield 9, 3) := by decide +kernel
theorem d_By_append_16 : decode b_By_append 16 = .ok (.aload_n 0, 1) := by decide +kernel
theorem d_By_append_17 : decode b_By_append 17 = .ok (.getfield 15, 3) := by decide +kernel
theorem d_By_append_20 : decode b_By_append 20 = .ok (.iload_n 1, 1) := by decide +kernel
theorem d_By_append_21 : decode b_By_append 21 = .ok (.sipush 255, 3) := by decide +kernel
theorem d_By_append_24 : decode b_By_append 24 = .ok (.iand, 1) := by decide +kernel
theorem d_By_append_25 : decode b_By_append 25 = .ok (.iastore, 1) := by decide +kernel
theorem d_By_append_26 : decode b_By_append 26 = .ok (.aload_n 0, 1) := by decide +kernel
theorem d_By_append_27 : decode b_By_append 27 = .ok (.dup, 1) := by decide +kernel
theorem d_By_append_28 : decode b_By_append 28 = .ok (.getfield 15, 3) := by decide +kernel
theorem d_By_append_31 : decode b_By_append 31 = .ok (.iconst 1, 1) := by decide +kernel
theorem d_By_append_32 : decode b_By_append 32 = .ok (.iadd, 1) := by decide +kernel
theorem d_By_append_33 : decode b_By_append 33 = .ok (.putfield 15, 3) := by decide +kernel
theorem d_By_append_36 : decode b_By_append 36 = .ok (.return_, 1) := by decide +kernel
theorem d_By_appendZeros_0 : decode b_By_appendZeros 0 = .ok (.iconst 0, 1) := by decide +kernel
theorem d_By_appendZeros_1 : decode b_By_appendZeros 1 = .ok (.istore_n 2, 1) := by decide +kernel
theorem d_By_appendZeros_2 : decode b_By_appendZeros 2 = .ok (.iload_n 2, 1) := by decide +kernel
theorem d_By_appendZeros_3 : decode b_By_appendZeros 3 = .ok (.iload_n 1, 1) := by decide +kernel
theorem d_By_appendZeros_4 : decode b_By_appendZeros 4 = .ok (.if_icmp .ge 14, 3) := by decide +kernel
theorem d_By_appendZeros_7 : decode b_By_appendZeros 7 = .ok (.aload_n 0, 1) := by decide +kernel
theorem d_By_appendZeros_8 : decode b_By_appendZeros 8 = .ok (.iconst 0, 1) := by decide +kernel
theorem d_By_appendZeros_9 : decode b_By_appendZeros 9 = .ok (.invokevirtual 19, 3) := by decide +kernel
theorem d_By_appendZeros_12 : decode b_By_appendZeros 12 = .ok (.iinc 2 1, 3) := by decide +kernel
theorem d_By_appendZeros_15 : decode b_By_appendZeros 15 = .ok (.goto (-13), 3) := by decide +kernel
theorem d_By_appendZeros_18 : decode b_By_appendZeros 18 = .ok (.return_, 1) := by decide +kernel
theorem d_By_appendNumber_0 : decode b_By_appendNumber 0 = .ok (.iload_n 3, 1) := by decide +kernel
theorem d_By_appendNumber_1 : decode b_By_appendNumber 1 = .ok (.iconst 1, 1) := by decide +kernel
theorem d_By_appendNumber_2 : decode b_By_appendNumber 2 = .ok (.isub, 1) := by decide +kernel
theorem d_By_appendNumber_3 : decode b_By_appendNumber 3 = .ok (.istore 4, 2) := by decide +kernel
theorem d_By_appendNumber_5 : decode b_By_appendNumber 5 = .ok (.iload 4, 2) := by decide +kernel
theorem d_By_appendNumber_7 : decode b_By_appendNumber 7 = .ok (.ifCond .lt 21, 3) := by decide +kernel
theorem d_By_appendNumber_10 : decode b_By_appendNumber 10 = .ok (.aload_n 0, 1) := by decide +kernel
theorem d_By_appendNumber_11 : decode b_By_appendNumber 11 = .ok (.lload_n 1, 1) := by decide +kernel
theorem d_By_appendNumber_12 : decode b_By_appendNumber 12 = .ok (.bipush 8, 2) := by decide +kernel
theorem d_By_appendNumber_14 : decode b_By_appendNumber 14 = .ok (.iload 4, 2) := by decide +kernel
theorem d_By_appendNumber_16 : decode b_By_appendNumber 16 = .ok (.imul, 1) := by decide +kernel
theorem d_By_appendNumber_17 : decode b_By_appendNumber 17 = .ok (.lushr, 1) := by decide +kernel
theorem d_By_appendNumber_18 : decode b_By_appendNumber 18 = .ok (.l2i, 1) := by decide +kernel
theorem d_By_appendNumber_19 : decode b_By_appendNumber 19 = .ok (.invokevirtual 19, 3) := by decide +kernel
theorem d_By_appendNumber_22 : decode b_By_appendNumber 22 = .ok (.iinc 4 (-1), 3) := by decide +kernel
theorem d_By_appendNumber_25 : decode b_By_appendNumber 25 = .ok (.goto (-20), 3) := by decide +kernel
theorem d_By_appendNumber_28 : decode b_By_appendNumber 28 = .ok (.return_, 1) := by decide +kernel
theorem d_By_appendPattern_0 : decode b_By_appendPattern 0 = .ok (.iconst 0, 1) := by decide +kernel
theorem d_By_appendPattern_1 : decode b_By_appendPattern 1 = .ok (.istore 4, 2) := by decide +kernel
theorem d_By_appendPattern_3 : decode b_By_appendPattern 3 = .ok (.iload 4, 2) := by decide +kernel
theorem d_By_appendPattern_5 : decode b_By_appendPattern 5 = .ok (.iload_n 3, 1) := by decide +kernel
theorem d_By_appendPattern_6 : decode b_By_appendPattern 6 = .ok (.if_icmp .ge 31, 3) := by decide +kernel
theorem d_By_appendPattern_9 : decode b_By_appendPattern 9 = .ok (.aload_n 0, 1) := by decide +kernel
theorem d_By_appendPattern_10 : decode b_By_appendPattern 10 = .ok (.bipush 33, 2) := by decide +kernel
theorem d_By_appendPattern_12 : decode b_By_appendPattern 12 = .ok (.lload_n 1, 1) := by decide +kernel
theorem d_By_appendPattern_13 : decode b_By_appendPattern 13 = .ok (.bipush 8, 2) := by decide +kernel
theorem d_By_appendPattern_15 : decode b_By_appendPattern 15 = .ok (.iload 4, 2) := by decide +kernel
theorem d_By_appendPattern_17 : decode b_By_appendPattern 17 = .ok (.bipush 8, 2) := by decide +kernel
theorem d_By_appendPattern_19 : decode b_By_appendPattern 19 = .ok (.irem, 1) := by decide +kernel
theorem d_By_appendPattern_20 : decode b_By_appendPattern 20 = .ok (.imul, 1) := by decide +kernel
theorem d_By_appendPattern_21 : decode b_By_appendPattern 21 = .ok (.lshr, 1) := by decide +kernel
theorem d_By_appendPattern_22 : decode b_By_appendPattern 22 = .ok (.ldc2_w 23, 3) := by decide +kernel
theorem d_By_appendPattern_25 : decode b_By_appendPattern 25 = .ok (.land, 1) := by decide +kernel
theorem d_By_appendPattern_26 : decode b_By_appendPattern 26 = .ok (.l2i, 1) := by decide +kernel
theorem d_By_appendPattern_27 : decode b_By_appendPattern 27 = .ok (.iadd, 1) := by decide +kernel
theorem d_By_appendPattern_28 : decode b_By_appendPattern 28 = .ok (.invokevirtual 19, 3) := by decide +kernel
theorem d_By_appendPattern_31 : decode b_By_appendPattern 31 = .ok (.iinc 4 1, 3) := by decide +kernel
theorem d_By_appendPattern_34 : decode b_By_appendPattern 34 = .ok (.goto (-31), 3) := by decide +kernel
theorem d_By_appendPattern_37 : decode b_By_appendPattern 37 = .ok (.return_, 1) := by decide +kernel
/-- byte i of a number -/
def bn_at (v : Int64) (i : Nat) : Int32 := (v.toUInt64 >>> (((8 : Int32) * nI i).toInt64.toUInt64 &&& Int64.toUInt64 63)).toInt64.toInt32 &&& 255
def BY (x : Int32) : Prop := ∃ k : Nat, k < 256 ∧ x = nI k
def AB (f : Nat → Int32) : Prop := ∀ j, BY (f j)
theorem BY_of {x : Int32} (h : x.toBitVec.toNat < 256) : BY x := ⟨x.toBitVec.toNat, h, by
  apply Int32.toBitVec_inj.mp
  show x.toBitVec = (Int32.ofNat x.toBitVec.toNat).toBitVec
  rw [Int32.toBitVec_ofNat', BitVec.ofNat_toNat, BitVec.setWidth_eq]⟩
theorem BY_to {x : Int32} (h : BY x) : x.toBitVec.toNat < 256 := by
  obtain ⟨k, hk, rfl⟩ := h
  show (Int32.ofNat k).toBitVec.toNat < 256
  rw [Int32.toBitVec_ofNat', BitVec.toNat_ofNat]
  omega
theorem BY_and (x : Int32) : BY (x &&& 255) := BY_of (by
  rw [Int32.toBitVec_and, BitVec.toNat_and]
  exact Nat.and_lt_two_pow (n := 8) _ (by decide))
theorem BY_xor {x y : Int32} (hx : BY x) (hy : BY y) : BY (x ^^^ y) := BY_of (by
  rw [Int32.toBitVec_xor, BitVec.toNat_xor]
  exact Nat.xor_lt_two_pow (n := 8) (BY_to hx) (BY_to hy))
theorem BY_n {k : Nat} (h : k < 256) : BY (nI k) := ⟨k, h, rfl⟩
theorem AB_upd {f : Nat → Int32} {k : Nat} {x : Int32} (h : AB f) (hx : BY x) : AB (upd f k x) := fun j => by
  by_cases hj : j = k
  · simp only [upd, hj, if_true]; exact hx
  · simp only [upd, hj, if_false]; exact h j
theorem AB_0 : AB (fun _ => 0) := fun _ => ⟨0, by decide, rfl⟩
theorem AB_cpy {f g : Nat → Int32} {a b n : Nat} (hf : AB f) (hg : AB g) : AB (va_cpy f g a b n) := fun j => by
  by_cases hj : b ≤ j ∧ j < b + n
  · simp only [va_cpy, hj, and_self, if_true]; exact hf _
  · simp only [va_cpy, hj, if_false]; exact hg j
abbrev tyL (cT : Nat → ClassId) : List (ClassId × FieldType) := [(cT 0, .int), (cT 1, .long), (cT 2, .object "DoorServer$Bytes"), (cT 3, .object "DoorServer$Kept"), (cT 4, .object "DoorServer$Trial"), (cT 5, .object "DoorServer$Session")]
set_option maxHeartbeats 4000000 in
set_option maxRecDepth 100000 in
/-- append: one byte comes -/
theorem c_By_append (l : Launch) (dC : Nat → ClassId) (dI : Nat → Nat → Nat) (cT : Nat → ClassId) (sz : Nat) (h : Nat) (r : Nat) (n : Nat) (len : Nat) (f : Nat → Int32) (b : Int32) (hlen : len < n) (hn : n < 2 ^ 31) : Met l y_By_append (Cond.code y_By_append b_By_append 2 (Option.none : Option Jvm.ClassFile.FieldType) :: BIG) ({ frames := 0, cells := 0, slots := 0, locals := 0 }) (va_Pc [.ref h, .int b] (fun U => U.heap.size = sz ∧ va_P (dC, dI) vcl [(h, .inr (1, [.ref r, .int (nI len)])), (r, .inl ((cT 0), n, .inl f))] U.heap ∧ va_K (dC, dI) vcl (tyL cT) U ∧ va_D (fun _ => True) [(h, .inr (1, [.ref r, .int (nI len)])), (r, .inl ((cT 0), n, .inl f))])) (va_Qv (S := Unit) (fun u => True) (fun u t => va_P (dC, dI) vcl [(h, .inr (1, [.ref r, .int (nI (len + 1))])), (r, .inl ((cT 0), n, .inl (upd f len (b &&& 255))))] t.heap ∧ va_K (dC, dI) vcl (tyL cT) t ∧ va_D (va_A [(h, .inr (1, [.ref r, .int (nI len)])), (r, .inl ((cT 0), n, .inl f))] sz) [(h, .inr (1, [.ref r, .int (nI (len + 1))])), (r, .inl ((cT 0), n, .inl (upd f len (b &&& 255))))]) (va_A [(h, .inr (1, [.ref r, .int (nI len)])), (r, .inl ((cT 0), n, .inl f))] sz)) 0 0 (va_A [(h, .inr (1, [.ref r, .int (nI len)])), (r, .inl ((cT 0), n, .inl f))] sz) := by
  refine Met.ofW (cc := b_By_append) (maxL := 2) (ret := (Option.none : Option Jvm.ClassFile.FieldType)) (by decide) rfl ?_
  intro p e s m args below meth c s₁ B hml hv
  obtain ⟨hargs, hsz, hP, hK, hD0⟩ := hv
  have hx := B.exec
  have hb := B.bytes
  have hr := B.returns
  have hts := atoms_spec (ws := (Cond.code y_By_append b_By_append 2 (Option.none : Option Jvm.ClassFile.FieldType) :: BIG)) B.pre
  have hg : ∀ w ∈ BIG, w.before _ s = true := fun w h => hts w (List.mem_cons_of_mem _ h)
  have hown : s.vm.findClass "DoorServer$Bytes" = some m.cls := findClass_of_methodNamed B.named
  have hlocks := B.notSynchronized
  subst hsz
  have hD := hD0.self (sz := s.heap.size)
  generalize hAe : va_A [(h, .inr (1, [.ref r, .int (nI len)])), (r, .inl ((cT 0), n, .inl f))] s.heap.size = A at hD ⊢
  have hA : ∀ q : Nat, s.heap.size ≤ q → A q := fun q h => by rw [← hAe]; exact Or.inr h
  have hS : va_S A s.heap s.heap [] := va_S.rf
  have hl := lv_entry ([.ref h, .int b]) (n := 2) (Nat.le_of_ble_eq_true rfl)
  refine W.eq (g2 := entryFrame m (List.toArray [.ref h, .int b]) 2) (by rw [hargs]) ?_
  rw [lg_entry_eq]
  generalize (lg_sl ([.ref h, .int b]) ++ List.replicate (2 - (lg_sl ([.ref h, .int b])).length) Slot.unset).toArray = ls at hl ⊢
  have hl : lv_has ls 2 [(0, .ref h), (1, .int b)] := hl
  change W p l e ({ frames := 0, cells := 0, slots := 0, locals := 0 } : Room) s m args below meth c s.heap [] 0 0 _ _
  have hP : va_P (dC, dI) vcl [(h, .inr (1, [.ref r, .int (nI len)])), (r, .inl ((cT 0), n, .inl f))] s.heap := hP
  refine lv_aload_n hx hb d_By_append_0 rfl (lv_at hl 0 rfl) ?_
  refine va_get (D := (dC, dI)) (ci := 1) (v := (.int (nI len))) (C := R_By) (T := F_By) (N := 2) hx hb hg in_By hown hK hP 0 rfl rfl 1 (by decide) (hg _ k_51) (fun _ h9 => h9) rfl d_By_append_1 ?_
  refine lv_aload_n hx hb d_By_append_4 rfl (lv_at hl 0 rfl) ?_
  refine va_get (D := (dC, dI)) (ci := 1) (v := (.ref r)) (C := R_By) (T := F_By) (N := 2) hx hb hg in_By hown hK hP 0 rfl rfl 0 (by decide) (hg _ k_39) (fun _ h9 => h9) rfl d_By_append_5 ?_
  refine va_alen hx hb hK hP 1 0 rfl rfl (v := nI n) rfl d_By_append_8 ?_
  refine lv_icmp_ge (tgt := 36) hx hb d_By_append_9 (by decide) (fun hn9 => absurd hn9 (nI_ge hlen hn)) (fun hc1 => ?_)
  refine lv_aload_n hx hb d_By_append_12 rfl (lv_at hl 0 rfl) ?_
  refine va_get (D := (dC, dI)) (ci := 1) (v := (.ref r)) (C := R_By) (T := F_By) (N := 2) hx hb hg in_By hown hK hP 0 rfl rfl 0 (by decide) (hg _ k_39) (fun _ h9 => h9) rfl d_By_append_13 ?_
  refine lv_aload_n hx hb d_By_append_16 rfl (lv_at hl 0 rfl) ?_
  refine va_get (D := (dC, dI)) (ci := 1) (v := (.int (nI len))) (C := R_By) (T := F_By) (N := 2) hx hb hg in_By hown hK hP 0 rfl rfl 1 (by decide) (hg _ k_51) (fun _ h9 => h9) rfl d_By_append_17 ?_
  refine lv_iload_n hx hb d_By_append_20 rfl (lv_at hl 1 rfl) ?_
  refine lv_sipush (v := 255) hx hb d_By_append_21 (by decide) ?_
  refine lv_iand hx hb d_By_append_24 ?_
  refine va_iast hx hb hK hP hD hS 1 0 rfl rfl (i := (nI len)) (vp_in_nI hlen hn) d_By_append_25 (fun H locs hP hD hS => ?_)
  have ef2 : upd f (nI len).toNatClampNeg (b &&& 255) = upd f len (b &&& 255) := by rw [nI_clamp (by omega)]
  rw [ef2] at hP hD
  have hP : va_P (dC, dI) vcl [(h, .inr (1, [.ref r, .int (nI len)])), (r, .inl ((cT 0), n, .inl (upd f len (b &&& 255))))] H := hP
  have hD : va_D A [(h, .inr (1, [.ref r, .int (nI len)])), (r, .inl ((cT 0), n, .inl (upd f len (b &&& 255))))] := hD
  refine lv_aload_n hx hb d_By_append_26 rfl (lv_at hl 0 rfl) ?_
  refine lv_dup hx hb d_By_append_27 rfl ?_
  refine va_get (D := (dC, dI)) (ci := 1) (v := (.int (nI len))) (C := R_By) (T := F_By) (N := 2) hx hb hg in_By hown hK hP 0 rfl rfl 1 (by decide) (hg _ k_51) (fun _ h9 => h9) rfl d_By_append_28 ?_
  refine lv_iconst (v := 1) hx hb d_By_append_31 (by decide) ?_
  refine lv_iadd hx hb d_By_append_32 ?_
  refine lv_topi (fun x4 e3 => ?_)
  obtain rfl : x4 = nI (len + 1) := by rw [e3]; exact nI_1 len
  refine va_put (D := (dC, dI)) (ci := 1) (v := (.int (nI (len + 1)))) (ty := .int) (C := R_By) (T := F_By) (N := 2) hx hb hg in_By t_By tok_By nm_By hown hK hP hD hS 0 rfl rfl 1 (by decide) (hg _ k_51) (fun _ h9 => h9) rfl (by decide +kernel) rfl rfl (Nat.le_of_ble_eq_true rfl) d_By_append_33 (fun H locs hP hD hS => ?_)
  have hP : va_P (dC, dI) vcl [(h, .inr (1, [.ref r, .int (nI (len + 1))])), (r, .inl ((cT 0), n, .inl (upd f len (b &&& 255))))] H := hP
  have hD : va_D A [(h, .inr (1, [.ref r, .int (nI (len + 1))])), (r, .inl ((cT 0), n, .inl (upd f len (b &&& 255))))] := hD
  have hP9 := hP.sub (ws' := [(h, .inr (1, [.ref r, .int (nI (len + 1))])), (r, .inl ((cT 0), n, .inl (upd f len (b &&& 255))))]) [0, 1] rfl
  have hD9 := hD.sub (ws' := [(h, .inr (1, [.ref r, .int (nI (len + 1))])), (r, .inl ((cT 0), n, .inl (upd f len (b &&& 255))))]) [0, 1] (by decide) rfl
  exact W.vret hx hb hr (fun t ht hW => ⟨⟨(), rfl, trivial, by rw [ht]; exact hP9, va_K.moved hW.alike hK, hD9⟩, hS.F ht⟩) hS.2.2 d_By_append_36
set_option maxHeartbeats 4000000 in
set_option maxRecDepth 100000 in
/-- appendZeros: the first bytes stay -/
theorem c_By_zeros (l : Launch) (dC : Nat → ClassId) (dI : Nat → Nat → Nat) (cT : Nat → ClassId) (sz : Nat) (h : Nat) (r : Nat) (n : Nat) (len : Nat) (f : Nat → Int32) (k : Nat) (hlen : len + k ≤ n) (hn : n < 2 ^ 31) : Met l y_By_appendZeros (Cond.code y_By_appendZeros b_By_appendZeros 3 (Option.none : Option Jvm.ClassFile.FieldType) :: BIG) ({ frames := 1, cells := 0, slots := 0, locals := 21 }) (va_Pc [.ref h, .int (nI k)] (fun U => U.heap.size = sz ∧ va_P (dC, dI) vcl [(h, .inr (1, [.ref r, .int (nI len)])), (r, .inl ((cT 0), n, .inl f))] U.heap ∧ va_K (dC, dI) vcl (tyL cT) U ∧ va_D (fun _ => True) [(h, .inr (1, [.ref r, .int (nI len)])), (r, .inl ((cT 0), n, .inl f))])) (va_Qv (S := (Nat → Int32)) (fun u => match u with | g => (∀ j, j < len → g j = f j) ∧ (AB f → AB g)) (fun u t => match u with | g => va_P (dC, dI) vcl [(h, .inr (1, [.ref r, .int (nI (len + k))])), (r, .inl ((cT 0), n, .inl g))] t.heap ∧ va_K (dC, dI) vcl (tyL cT) t ∧ va_D (va_A [(h, .inr (1, [.ref r, .int (nI len)])), (r, .inl ((cT 0), n, .inl f))] sz) [(h, .inr (1, [.ref r, .int (nI (len + k))])), (r, .inl ((cT 0), n, .inl g))]) (va_A [(h, .inr (1, [.ref r, .int (nI len)])), (r, .inl ((cT 0), n, .inl f))] sz)) 0 0 (va_A [(h, .inr (1, [.ref r, .int (nI len)])), (r, .inl ((cT 0), n, .inl f))] sz) := by
  refine Met.ofW (cc := b_By_appendZeros) (maxL := 3) (ret := (Option.none : Option Jvm.ClassFile.FieldType)) (by decide) rfl ?_
  intro p e s m args below meth c s₁ B hml hv
  obtain ⟨hargs, hsz, hP, hK, hD0⟩ := hv
  have hx := B.exec
  have hb := B.bytes
  have hr := B.returns
  have hts := atoms_spec (ws := (Cond.code y_By_appendZeros b_By_appendZeros 3 (Option.none : Option Jvm.ClassFile.FieldType) :: BIG)) B.pre
  have hg : ∀ w ∈ BIG, w.before _ s = true := fun w h => hts w (List.mem_cons_of_mem _ h)
  have hown : s.vm.findClass "DoorServer$Bytes" = some m.cls := findClass_of_methodNamed B.named
  have hlocks := B.notSynchronized
  subst hsz
  have hD := hD0.self (sz := s.heap.size)
  generalize hAe : va_A [(h, .inr (1, [.ref r, .int (nI len)])), (r, .inl ((cT 0), n, .inl f))] s.heap.size = A at hD ⊢
  have hA : ∀ q : Nat, s.heap.size ≤ q → A q := fun q h => by rw [← hAe]; exact Or.inr h
  have hS : va_S A s.heap s.heap [] := va_S.rf
  have hl := lv_entry ([.ref h, .int (nI k)]) (n := 3) (Nat.le_of_ble_eq_true rfl)
  refine W.eq (g2 := entryFrame m (List.toArray [.ref h, .int (nI k)]) 3) (by rw [hargs]) ?_
  rw [lg_entry_eq]
  generalize (lg_sl ([.ref h, .int (nI k)]) ++ List.replicate (3 - (lg_sl ([.ref h, .int (nI k)])).length) Slot.unset).toArray = ls at hl ⊢
  have hl : lv_has ls 3 [(0, .ref h), (1, .int (nI k))] := hl
  change W p l e ({ frames := 1, cells := 0, slots := 0, locals := 21 } : Room) s m args below meth c s.heap [] 0 0 _ _
  have hP : va_P (dC, dI) vcl [(h, .inr (1, [.ref r, .int (nI len)])), (r, .inl ((cT 0), n, .inl f))] s.heap := hP
  refine lv_iconst (v := 0) hx hb d_By_appendZeros_0 (by decide) ?_
  refine lv_istore_n (lv' := [(2, .int 0), (0, .ref h), (1, .int (nI k))]) hx hb d_By_appendZeros_1 rfl hl (by decide) rfl (fun ls hl => ?_)
  have hl := lv_sub hl [0, 1, 2] (show _ = [(2, .int 0), (0, .ref h), (1, .int (nI k))] from rfl)
  have L5 : ∀ (Q : State → Prop) (exit : ∀ (g : Nat → Int32) (H : Heap) (locs : List Loc) (ls : Array Slot), (∀ q, q < len → g q = f q) → (AB f → AB g) → va_P (dC, dI) vcl [(h, .inr (1, [.ref r, .int (nI (len + k))])), (r, .inl ((cT 0), n, .inl g))] H → va_D A [(h, .inr (1, [.ref r, .int (nI (len + k))])), (r, .inl ((cT 0), n, .inl g))] → va_S A s.heap H locs → lv_has ls 3 [(2, .int (nI k)), (0, .ref h), (1, .int (nI k))] → W p l e ({ frames := 1, cells := 0, slots := 0, locals := 21 } : Room) s m args below meth c H locs 0 0 Q (F0 m 18 ls [])) (j8 i : Nat) (g : Nat → Int32) (H : Heap) (locs : List Loc) (ls : Array Slot), i + j8 = k → (∀ q, q < len → g q = f q) → (AB f → AB g) → va_P (dC, dI) vcl [(h, .inr (1, [.ref r, .int (nI (len + i))])), (r, .inl ((cT 0), n, .inl g))] H → va_D A [(h, .inr (1, [.ref r, .int (nI (len + i))])), (r, .inl ((cT 0), n, .inl g))] → va_S A s.heap H locs → lv_has ls 3 [(2, .int (nI i)), (0, .ref h), (1, .int (nI k))] → W p l e ({ frames := 1, cells := 0, slots := 0, locals := 21 } : Room) s m args below meth c H locs 0 0 Q (F0 m 2 ls []) := by
    intro Q exit j8
    induction j8 with
    | zero => 
      intro i g H locs ls hij hi hab hP hD hS hl
      have hij : k = i := by omega
      refine lv_iload_n hx hb d_By_appendZeros_2 rfl (lv_at hl 0 rfl) ?_
      refine lv_iload_n hx hb d_By_appendZeros_3 rfl (lv_at hl 2 rfl) ?_
      refine lv_icmp_ge (tgt := 18) hx hb d_By_appendZeros_4 (by decide) (fun hc6 => ?_) (fun hn9 => absurd (nI_le (by omega) (by omega)) hn9)
      subst hij
      exact exit g _ _ _ hi hab hP hD hS hl
    | succ j8 ih => 
      intro i g H locs ls hij hi hab hP hD hS hl
      have hlt : i < k := by omega
      refine lv_iload_n hx hb d_By_appendZeros_2 rfl (lv_at hl 0 rfl) ?_
      refine lv_iload_n hx hb d_By_appendZeros_3 rfl (lv_at hl 2 rfl) ?_
      refine lv_icmp_ge (tgt := 18) hx hb d_By_appendZeros_4 (by decide) (fun hn9 => absurd hn9 (nI_ge hlt (by omega))) (fun hc7 => ?_)
      refine lv_aload_n hx hb d_By_appendZeros_7 rfl (lv_at hl 1 rfl) ?_
      refine lv_iconst (v := 0) hx hb d_By_appendZeros_8 (by decide) ?_
      have hPc := hP.sub (ws' := [(h, .inr (1, [.ref r, .int (nI (len + i))])), (r, .inl ((cT 0), n, .inl g))]) [0, 1] rfl
      have hDc := hD.sub (ws' := [(h, .inr (1, [.ref r, .int (nI (len + i))])), (r, .inl ((cT 0), n, .inl g))]) [0, 1] (by decide) rfl
      have hFc := va_free (wc := [(h, .inr (1, [.ref r, .int (nI (len + i))])), (r, .inl ((cT 0), n, .inl g))]) hD hS hA [0, 1] rfl
      refine va_callv (va_runV (C := "DoorServer$Bytes") (As := [.int 0]) (rest := []) ⟨hx, hb, hml, hown, hg⟩ (c_By_append l dC dI cT H.size h r n (len + i) g 0 (by omega) (hn)) (cwV 1 hg (gI (List.forall_mem_append.mpr ⟨List.forall_mem_cons.mpr ⟨k_85, List.forall_mem_cons.mpr ⟨k_76, List.forall_mem_cons.mpr ⟨k_1420, List.forall_mem_cons.mpr ⟨k_2, fun _ h => absurd h List.not_mem_nil⟩⟩⟩⟩, List.forall_mem_cons.mpr ⟨k_77, fun _ h => h⟩⟩)) rfl rfl rfl (by decide +kernel) ⟨Nat.le_of_ble_eq_true rfl, Nat.le_of_ble_eq_true rfl⟩) ⟨fun a U g mk q => by obtain ⟨q0, q1, qP, qK, qD⟩ := q; exact ⟨q0, q1, qP, va_K.moved (u := U) (U := U.calling g mk a) (Vm.Alike.refl U.vm) qK, qD⟩, va_recv (q0 := 0) (ci := 1) hK hP rfl rfl, fun U hU hW => ⟨rfl, by rw [hU], by rw [hU]; exact hPc, va_K.moved hW.alike hK, hDc.weaken (fun _ _ _ _ => trivial)⟩⟩ rfl rfl hl.1 rfl (lv_room (Nat.le_of_ble_eq_true rfl)) d_By_appendZeros_9 ⟨Nat.le_of_ble_eq_true rfl, Nat.le_of_ble_eq_true rfl⟩) hS (fun q _ h => hFc q h) hFc (fun u t H1 locs ht hvm hw hB hz1 hk1 hS => ?_)
      try dsimp only at hw hB
      obtain ⟨hP1, hK1, hD1⟩ := hB
      rw [ht] at hP1
      obtain ⟨hP, hD⟩ := va_join (wr := []) (w1 := [(h, .inr (1, [.ref r, .int (nI ((len + i) + 1))])), (r, .inl ((cT 0), n, .inl (upd g (len + i) (0 &&& 255))))]) hP hD [0, 1] [] rfl rfl (by decide) (by decide) hk1 hFc hP1 hD1
      have hw8 := hw
      clear hPc hDc hFc hz1 hk1 hP1 hK1 hD1
      generalize H1 = H at hP hS ⊢
      have hP : va_P (dC, dI) vcl [(h, .inr (1, [.ref r, .int (nI ((len + i) + 1))])), (r, .inl ((cT 0), n, .inl (upd g (len + i) (0 &&& 255))))] H := hP
      have hD : va_D A [(h, .inr (1, [.ref r, .int (nI ((len + i) + 1))])), (r, .inl ((cT 0), n, .inl (upd g (len + i) (0 &&& 255))))] := hD
      refine lv_iinc (k := 0) (v := nI (i + 1)) (lv' := [(2, .int (nI (i + 1))), (0, .ref h), (1, .int (nI k))]) hx hb d_By_appendZeros_12 hl rfl (nI_1 i) (by decide) rfl (fun ls hl => ?_)
      refine lv_goto (tgt := 2) hx hb d_By_appendZeros_15 (by decide) ?_
      exact ih (i + 1) (upd g (len + i) (0 &&& 255)) _ _ _ (by omega) (fun q hq => by rw [pk_un (by omega)]; exact hi q hq) (fun h9 => AB_upd (hab h9) (BY_and _)) hP hD hS hl
  refine L5 _ (fun g H locs ls hi hab hP hD hS hl => ?_) (k - 0) 0 f s.heap _ ls (by omega) (fun _ _ => rfl) (fun h9 => h9) hP hD hS hl
  have hP9 := hP.sub (ws' := [(h, .inr (1, [.ref r, .int (nI (len + k))])), (r, .inl ((cT 0), n, .inl g))]) [0, 1] rfl
  have hD9 := hD.sub (ws' := [(h, .inr (1, [.ref r, .int (nI (len + k))])), (r, .inl ((cT 0), n, .inl g))]) [0, 1] (by decide) rfl
  exact W.vret hx hb hr (fun t ht hW => ⟨⟨g, rfl, ⟨hi, hab⟩, by rw [ht]; exact hP9, va_K.moved hW.alike hK, hD9⟩, hS.F ht⟩) hS.2.2 d_By_appendZeros_18
set_option maxHeartbeats 4000000 in
set_option maxRecDepth 100000 in
/-- appendNumber: the k lowest bytes, the highest first -/
theorem c_By_number (l : Launch) (dC : Nat → ClassId) (dI : Nat → Nat → Nat) (cT : Nat → ClassId) (sz : Nat) (h : Nat) (r : Nat) (n : Nat) (len : Nat) (f : Nat → Int32) (v : Int64) (k : Nat) (hlen : len + k ≤ n) (hn : n < 2 ^ 31) : Met l y_By_appendNumber (Cond.code y_By_appendNumber b_By_appendNumber 5 (Option.none : Option Jvm.ClassFile.FieldType) :: BIG) ({ frames := 1, cells := 0, slots := 0, locals := 21 }) (va_Pc [.ref h, .long v, .int (nI k)] (fun U => U.heap.size = sz ∧ va_P (dC, dI) vcl [(h, .inr (1, [.ref r, .int (nI len)])), (r, .inl ((cT 0), n, .inl f))] U.heap ∧ va_K (dC, dI) vcl (tyL cT) U ∧ va_D (fun _ => True) [(h, .inr (1, [.ref r, .int (nI len)])), (r, .inl ((cT 0), n, .inl f))])) (va_Qv (S := (Nat → Int32)) (fun u => match u with | g => (∀ j, j < len → g j = f j) ∧ (∀ q, q < k → g (len + q) = bn_at v (k - (q + 1))) ∧ (AB f → AB g)) (fun u t => match u with | g => va_P (dC, dI) vcl [(h, .inr (1, [.ref r, .int (nI (len + k))])), (r, .inl ((cT 0), n, .inl g))] t.heap ∧ va_K (dC, dI) vcl (tyL cT) t ∧ va_D (va_A [(h, .inr (1, [.ref r, .int (nI len)])), (r, .inl ((cT 0), n, .inl f))] sz) [(h, .inr (1, [.ref r, .int (nI (len + k))])), (r, .inl ((cT 0), n, .inl g))]) (va_A [(h, .inr (1, [.ref r, .int (nI len)])), (r, .inl ((cT 0), n, .inl f))] sz)) 0 0 (va_A [(h, .inr (1, [.ref r, .int (nI len)])), (r, .inl ((cT 0), n, .inl f))] sz) := by
  refine Met.ofW (cc := b_By_appendNumber) (maxL := 5) (ret := (Option.none : Option Jvm.ClassFile.FieldType)) (by decide) rfl ?_
  intro p e s m args below meth c s₁ B hml hv
  obtain ⟨hargs, hsz, hP, hK, hD0⟩ := hv
  have hx := B.exec
  have hb := B.bytes
  have hr := B.returns
  have hts := atoms_spec (ws := (Cond.code y_By_appendNumber b_By_appendNumber 5 (Option.none : Option Jvm.ClassFile.FieldType) :: BIG)) B.pre
  have hg : ∀ w ∈ BIG, w.before _ s = true := fun w h => hts w (List.mem_cons_of_mem _ h)
  have hown : s.vm.findClass "DoorServer$Bytes" = some m.cls := findClass_of_methodNamed B.named
  have hlocks := B.notSynchronized
  subst hsz
  have hD := hD0.self (sz := s.heap.size)
  generalize hAe : va_A [(h, .inr (1, [.ref r, .int (nI len)])), (r, .inl ((cT 0), n, .inl f))] s.heap.size = A at hD ⊢
  have hA : ∀ q : Nat, s.heap.size ≤ q → A q := fun q h => by rw [← hAe]; exact Or.inr h
  have hS : va_S A s.heap s.heap [] := va_S.rf
  have hl := lv_entry ([.ref h, .long v, .int (nI k)]) (n := 5) (Nat.le_of_ble_eq_true rfl)
  refine W.eq (g2 := entryFrame m (List.toArray [.ref h, .long v, .int (nI k)]) 5) (by rw [hargs]) ?_
  rw [lg_entry_eq]
  generalize (lg_sl ([.ref h, .long v, .int (nI k)]) ++ List.replicate (5 - (lg_sl ([.ref h, .long v, .int (nI k)])).length) Slot.unset).toArray = ls at hl ⊢
  have hl : lv_has ls 5 [(0, .ref h), (1, .long v), (3, .int (nI k))] := hl
  change W p l e ({ frames := 1, cells := 0, slots := 0, locals := 21 } : Room) s m args below meth c s.heap [] 0 0 _ _
  have hP : va_P (dC, dI) vcl [(h, .inr (1, [.ref r, .int (nI len)])), (r, .inl ((cT 0), n, .inl f))] s.heap := hP
  refine lv_iload_n hx hb d_By_appendNumber_0 rfl (lv_at hl 2 rfl) ?_
  refine lv_iconst (v := 1) hx hb d_By_appendNumber_1 (by decide) ?_
  refine lv_isub hx hb d_By_appendNumber_2 ?_
  refine lv_istore (lv' := [(4, .int ((nI k) - 1)), (0, .ref h), (1, .long v), (3, .int (nI k))]) hx hb d_By_appendNumber_3 hl (by decide) rfl (fun ls hl => ?_)
  have hl := lv_sub hl [0, 1, 2, 3] (show _ = [(4, .int ((nI k) - 1)), (0, .ref h), (1, .long v), (3, .int (nI k))] from rfl)
  have L9 : ∀ (Q : State → Prop) (exit : ∀ (g : Nat → Int32) (H : Heap) (locs : List Loc) (ls : Array Slot), (∀ q, q < len → g q = f q) → (∀ q, q < k → g (len + q) = bn_at v (k - (q + 1))) → (AB f → AB g) → va_P (dC, dI) vcl [(h, .inr (1, [.ref r, .int (nI (len + k))])), (r, .inl ((cT 0), n, .inl g))] H → va_D A [(h, .inr (1, [.ref r, .int (nI (len + k))])), (r, .inl ((cT 0), n, .inl g))] → va_S A s.heap H locs → lv_has ls 5 [(4, .int (nI (k - k) - 1)), (0, .ref h), (1, .long v), (3, .int (nI k))] → W p l e ({ frames := 1, cells := 0, slots := 0, locals := 21 } : Room) s m args below meth c H locs 0 0 Q (F0 m 28 ls [])) (j8 i : Nat) (g : Nat → Int32) (H : Heap) (locs : List Loc) (ls : Array Slot), i + j8 = k → (∀ q, q < len → g q = f q) → (∀ q, q < i → g (len + q) = bn_at v (k - (q + 1))) → (AB f → AB g) → va_P (dC, dI) vcl [(h, .inr (1, [.ref r, .int (nI (len + i))])), (r, .inl ((cT 0), n, .inl g))] H → va_D A [(h, .inr (1, [.ref r, .int (nI (len + i))])), (r, .inl ((cT 0), n, .inl g))] → va_S A s.heap H locs → lv_has ls 5 [(4, .int (nI (k - i) - 1)), (0, .ref h), (1, .long v), (3, .int (nI k))] → W p l e ({ frames := 1, cells := 0, slots := 0, locals := 21 } : Room) s m args below meth c H locs 0 0 Q (F0 m 5 ls []) := by
    intro Q exit j8
    induction j8 with
    | zero => 
      intro i g H locs ls hij hi hj hab hP hD hS hl
      have hij : k = i := by omega
      refine lv_iload hx hb d_By_appendNumber_5 (lv_at hl 0 rfl) ?_
      refine lv_if_lt (tgt := 28) hx hb d_By_appendNumber_7 (by decide) (fun hc10 => ?_) (fun hn9 => absurd (by rw [show k - i = 0 by omega]; decide) hn9)
      subst hij
      exact exit g _ _ _ hi hj hab hP hD hS hl
    | succ j8 ih => 
      intro i g H locs ls hij hi hj hab hP hD hS hl
      have hlt : i < k := by omega
      refine lv_iload hx hb d_By_appendNumber_5 (lv_at hl 0 rfl) ?_
      refine lv_if_lt (tgt := 28) hx hb d_By_appendNumber_7 (by decide) (fun hn9 => absurd hn9 (by rw [show k - i = (k - (i + 1)) + 1 by omega, nI_pred]; exact nI_pos (by omega))) (fun hc11 => ?_)
      refine lv_aload_n hx hb d_By_appendNumber_10 rfl (lv_at hl 1 rfl) ?_
      refine lv_lload_n hx hb d_By_appendNumber_11 rfl (lv_at hl 2 rfl) ?_
      refine lv_bipush (v := 8) hx hb d_By_appendNumber_12 (by decide) ?_
      refine lv_iload hx hb d_By_appendNumber_14 (lv_at hl 0 rfl) ?_
      refine lv_topi (fun x13 e12 => ?_)
      obtain rfl : x13 = nI (k - (i + 1)) := by rw [e12]; rw [show k - i = (k - (i + 1)) + 1 by omega, nI_pred]
      refine lv_imul hx hb d_By_appendNumber_16 ?_
      refine lv_lushr (v := (v.toUInt64 >>> ((8 * (nI (k - (i + 1)))).toInt64.toUInt64 &&& Int64.toUInt64 63)).toInt64) hx hb d_By_appendNumber_17 rfl ?_
      refine lv_l2i (v := ((v.toUInt64 >>> ((8 * (nI (k - (i + 1)))).toInt64.toUInt64 &&& Int64.toUInt64 63)).toInt64).toInt32) hx hb d_By_appendNumber_18 rfl ?_
      have hPc := hP.sub (ws' := [(h, .inr (1, [.ref r, .int (nI (len + i))])), (r, .inl ((cT 0), n, .inl g))]) [0, 1] rfl
      have hDc := hD.sub (ws' := [(h, .inr (1, [.ref r, .int (nI (len + i))])), (r, .inl ((cT 0), n, .inl g))]) [0, 1] (by decide) rfl
      have hFc := va_free (wc := [(h, .inr (1, [.ref r, .int (nI (len + i))])), (r, .inl ((cT 0), n, .inl g))]) hD hS hA [0, 1] rfl
      refine va_callv (va_runV (C := "DoorServer$Bytes") (As := [.int (((v.toUInt64 >>> ((8 * (nI (k - (i + 1)))).toInt64.toUInt64 &&& Int64.toUInt64 63)).toInt64).toInt32)]) (rest := []) ⟨hx, hb, hml, hown, hg⟩ (c_By_append l dC dI cT H.size h r n (len + i) g (((v.toUInt64 >>> ((8 * (nI (k - (i + 1)))).toInt64.toUInt64 &&& Int64.toUInt64 63)).toInt64).toInt32) (by omega) (hn)) (cwV 1 hg (gI (List.forall_mem_append.mpr ⟨List.forall_mem_cons.mpr ⟨k_85, List.forall_mem_cons.mpr ⟨k_76, List.forall_mem_cons.mpr ⟨k_1420, List.forall_mem_cons.mpr ⟨k_2, fun _ h => absurd h List.not_mem_nil⟩⟩⟩⟩, List.forall_mem_cons.mpr ⟨k_77, fun _ h => h⟩⟩)) rfl rfl rfl (by decide +kernel) ⟨Nat.le_of_ble_eq_true rfl, Nat.le_of_ble_eq_true rfl⟩) ⟨fun a U g mk q => by obtain ⟨q0, q1, qP, qK, qD⟩ := q; exact ⟨q0, q1, qP, va_K.moved (u := U) (U := U.calling g mk a) (Vm.Alike.refl U.vm) qK, qD⟩, va_recv (q0 := 0) (ci := 1) hK hP rfl rfl, fun U hU hW => ⟨rfl, by rw [hU], by rw [hU]; exact hPc, va_K.moved hW.alike hK, hDc.weaken (fun _ _ _ _ => trivial)⟩⟩ rfl rfl hl.1 rfl (lv_room (Nat.le_of_ble_eq_true rfl)) d_By_appendNumber_19 ⟨Nat.le_of_ble_eq_true rfl, Nat.le_of_ble_eq_true rfl⟩) hS (fun q _ h => hFc q h) hFc (fun u t H1 locs ht hvm hw hB hz1 hk1 hS => ?_)
      try dsimp only at hw hB
      obtain ⟨hP1, hK1, hD1⟩ := hB
      rw [ht] at hP1
      obtain ⟨hP, hD⟩ := va_join (wr := []) (w1 := [(h, .inr (1, [.ref r, .int (nI ((len + i) + 1))])), (r, .inl ((cT 0), n, .inl (upd g (len + i) ((((v.toUInt64 >>> ((8 * (nI (k - (i + 1)))).toInt64.toUInt64 &&& Int64.toUInt64 63)).toInt64).toInt32) &&& 255))))]) hP hD [0, 1] [] rfl rfl (by decide) (by decide) hk1 hFc hP1 hD1
      have hw14 := hw
      clear hPc hDc hFc hz1 hk1 hP1 hK1 hD1
      generalize H1 = H at hP hS ⊢
      have hP : va_P (dC, dI) vcl [(h, .inr (1, [.ref r, .int (nI ((len + i) + 1))])), (r, .inl ((cT 0), n, .inl (upd g (len + i) ((((v.toUInt64 >>> ((8 * (nI (k - (i + 1)))).toInt64.toUInt64 &&& Int64.toUInt64 63)).toInt64).toInt32) &&& 255))))] H := hP
      have hD : va_D A [(h, .inr (1, [.ref r, .int (nI ((len + i) + 1))])), (r, .inl ((cT 0), n, .inl (upd g (len + i) ((((v.toUInt64 >>> ((8 * (nI (k - (i + 1)))).toInt64.toUInt64 &&& Int64.toUInt64 63)).toInt64).toInt32) &&& 255))))] := hD
      refine lv_iinc (k := 0) (v := nI (k - (i + 1)) - 1) (lv' := [(4, .int (nI (k - (i + 1)) - 1)), (0, .ref h), (1, .long v), (3, .int (nI k))]) hx hb d_By_appendNumber_22 hl rfl (by rw [show k - i = (k - (i + 1)) + 1 by omega, nI_pred, Int32.sub_eq_add_neg]; rfl) (by decide) rfl (fun ls hl => ?_)
      refine lv_goto (tgt := 5) hx hb d_By_appendNumber_25 (by decide) ?_
      exact ih (i + 1) (upd g (len + i) ((((v.toUInt64 >>> ((8 * (nI (k - (i + 1)))).toInt64.toUInt64 &&& Int64.toUInt64 63)).toInt64).toInt32) &&& 255)) _ _ _ (by omega) (fun q hq => by rw [pk_un (by omega)]; exact hi q hq) (lt_s (fun q hq => by rw [pk_un (by omega)]; exact hj q hq) (by rw [pk_us]; rfl)) (fun h9 => AB_upd (hab h9) (BY_and _)) hP hD hS hl
  refine L9 _ (fun g H locs ls hi hj hab hP hD hS hl => ?_) (k - 0) 0 f s.heap _ ls (by omega) (fun _ _ => rfl) (fun q hq => absurd hq (Nat.not_lt_zero q)) (fun h9 => h9) hP hD hS hl
  have hP9 := hP.sub (ws' := [(h, .inr (1, [.ref r, .int (nI (len + k))])), (r, .inl ((cT 0), n, .inl g))]) [0, 1] rfl
  have hD9 := hD.sub (ws' := [(h, .inr (1, [.ref r, .int (nI (len + k))])), (r, .inl ((cT 0), n, .inl g))]) [0, 1] (by decide) rfl
  exact W.vret hx hb hr (fun t ht hW => ⟨⟨g, rfl, ⟨hi, hj, hab⟩, by rw [ht]; exact hP9, va_K.moved hW.alike hK, hD9⟩, hS.F ht⟩) hS.2.2 d_By_appendNumber_28
set_option maxHeartbeats 4000000 in
set_option maxRecDepth 100000 in
/-- appendPattern: k bytes come -/
theorem c_By_pattern (l : Launch) (dC : Nat → ClassId) (dI : Nat → Nat → Nat) (cT : Nat → ClassId) (sz : Nat) (h : Nat) (r : Nat) (n : Nat) (len : Nat) (f : Nat → Int32) (v : Int64) (k : Nat) (hlen : len + k ≤ n) (hn : n < 2 ^ 31) : Met l y_By_appendPattern (Cond.code y_By_appendPattern b_By_appendPattern 5 (Option.none : Option Jvm.ClassFile.FieldType) :: BIG) ({ frames := 1, cells := 0, slots := 0, locals := 21 }) (va_Pc [.ref h, .long v, .int (nI k)] (fun U => U.heap.size = sz ∧ va_P (dC, dI) vcl [(h, .inr (1, [.ref r, .int (nI len)])), (r, .inl ((cT 0), n, .inl f))] U.heap ∧ va_K (dC, dI) vcl (tyL cT) U ∧ va_D (fun _ => True) [(h, .inr (1, [.ref r, .int (nI len)])), (r, .inl ((cT 0), n, .inl f))])) (va_Qv (S := (Nat → Int32)) (fun u => match u with | g => (∀ j, j < len → g j = f j) ∧ (AB f → AB g)) (fun u t => match u with | g => va_P (dC, dI) vcl [(h, .inr (1, [.ref r, .int (nI (len + k))])), (r, .inl ((cT 0), n, .inl g))] t.heap ∧ va_K (dC, dI) vcl (tyL cT) t ∧ va_D (va_A [(h, .inr (1, [.ref r, .int (nI len)])), (r, .inl ((cT 0), n, .inl f))] sz) [(h, .inr (1, [.ref r, .int (nI (len + k))])), (r, .inl ((cT 0), n, .inl g))]) (va_A [(h, .inr (1, [.ref r, .int (nI len)])), (r, .inl ((cT 0), n, .inl f))] sz)) 0 0 (va_A [(h, .inr (1, [.ref r, .int (nI len)])), (r, .inl ((cT 0), n, .inl f))] sz) := by
  refine Met.ofW (cc := b_By_appendPattern) (maxL := 5) (ret := (Option.none : Option Jvm.ClassFile.FieldType)) (by decide) rfl ?_
  intro p e s m args below meth c s₁ B hml hv
  obtain ⟨hargs, hsz, hP, hK, hD0⟩ := hv
  have hx := B.exec
  have hb := B.bytes
  have hr := B.returns
  have hts := atoms_spec (ws := (Cond.code y_By_appendPattern b_By_appendPattern 5 (Option.none : Option Jvm.ClassFile.FieldType) :: BIG)) B.pre
  have hg : ∀ w ∈ BIG, w.before _ s = true := fun w h => hts w (List.mem_cons_of_mem _ h)
  have hown : s.vm.findClass "DoorServer$Bytes" = some m.cls := findClass_of_methodNamed B.named
  have hlocks := B.notSynchronized
  subst hsz
  have hD := hD0.self (sz := s.heap.size)
  generalize hAe : va_A [(h, .inr (1, [.ref r, .int (nI len)])), (r, .inl ((cT 0), n, .inl f))] s.heap.size = A at hD ⊢
  have hA : ∀ q : Nat, s.heap.size ≤ q → A q := fun q h => by rw [← hAe]; exact Or.inr h
  have hS : va_S A s.heap s.heap [] := va_S.rf
  have hl := lv_entry ([.ref h, .long v, .int (nI k)]) (n := 5) (Nat.le_of_ble_eq_true rfl)
  refine W.eq (g2 := entryFrame m (List.toArray [.ref h, .long v, .int (nI k)]) 5) (by rw [hargs]) ?_
  rw [lg_entry_eq]
  generalize (lg_sl ([.ref h, .long v, .int (nI k)]) ++ List.replicate (5 - (lg_sl ([.ref h, .long v, .int (nI k)])).length) Slot.unset).toArray = ls at hl ⊢
  have hl : lv_has ls 5 [(0, .ref h), (1, .long v), (3, .int (nI k))] := hl
  change W p l e ({ frames := 1, cells := 0, slots := 0, locals := 21 } : Room) s m args below meth c s.heap [] 0 0 _ _
  have hP : va_P (dC, dI) vcl [(h, .inr (1, [.ref r, .int (nI len)])), (r, .inl ((cT 0), n, .inl f))] s.heap := hP
  refine lv_iconst (v := 0) hx hb d_By_appendPattern_0 (by decide) ?_
  refine lv_istore (lv' := [(4, .int 0), (0, .ref h), (1, .long v), (3, .int (nI k))]) hx hb d_By_appendPattern_1 hl (by decide) rfl (fun ls hl => ?_)
  have hl := lv_sub hl [0, 1, 2, 3] (show _ = [(4, .int 0), (0, .ref h), (1, .long v), (3, .int (nI k))] from rfl)
  have L15 : ∀ (Q : State → Prop) (exit : ∀ (g : Nat → Int32) (H : Heap) (locs : List Loc) (ls : Array Slot), (∀ q, q < len → g q = f q) → (AB f → AB g) → va_P (dC, dI) vcl [(h, .inr (1, [.ref r, .int (nI (len + k))])), (r, .inl ((cT 0), n, .inl g))] H → va_D A [(h, .inr (1, [.ref r, .int (nI (len + k))])), (r, .inl ((cT 0), n, .inl g))] → va_S A s.heap H locs → lv_has ls 5 [(4, .int (nI k)), (0, .ref h), (1, .long v), (3, .int (nI k))] → W p l e ({ frames := 1, cells := 0, slots := 0, locals := 21 } : Room) s m args below meth c H locs 0 0 Q (F0 m 37 ls [])) (j8 i : Nat) (g : Nat → Int32) (H : Heap) (locs : List Loc) (ls : Array Slot), i + j8 = k → (∀ q, q < len → g q = f q) → (AB f → AB g) → va_P (dC, dI) vcl [(h, .inr (1, [.ref r, .int (nI (len + i))])), (r, .inl ((cT 0), n, .inl g))] H → va_D A [(h, .inr (1, [.ref r, .int (nI (len + i))])), (r, .inl ((cT 0), n, .inl g))] → va_S A s.heap H locs → lv_has ls 5 [(4, .int (nI i)), (0, .ref h), (1, .long v), (3, .int (nI k))] → W p l e ({ frames := 1, cells := 0, slots := 0, locals := 21 } : Room) s m args below meth c H locs 0 0 Q (F0 m 3 ls []) := by
    intro Q exit j8
    induction j8 with
    | zero => 
      intro i g H locs ls hij hi hab hP hD hS hl
      have hij : k = i := by omega
      refine lv_iload hx hb d_By_appendPattern_3 (lv_at hl 0 rfl) ?_
      refine lv_iload_n hx hb d_By_appendPattern_5 rfl (lv_at hl 3 rfl) ?_
      refine lv_icmp_ge (tgt := 37) hx hb d_By_appendPattern_6 (by decide) (fun hc16 => ?_) (fun hn9 => absurd (nI_le (by omega) (by omega)) hn9)
      subst hij
      exact exit g _ _ _ hi hab hP hD hS hl
    | succ j8 ih => 
      intro i g H locs ls hij hi hab hP hD hS hl
      have hlt : i < k := by omega
      refine lv_iload hx hb d_By_appendPattern_3 (lv_at hl 0 rfl) ?_
      refine lv_iload_n hx hb d_By_appendPattern_5 rfl (lv_at hl 3 rfl) ?_
      refine lv_icmp_ge (tgt := 37) hx hb d_By_appendPattern_6 (by decide) (fun hn9 => absurd hn9 (nI_ge hlt (by omega))) (fun hc17 => ?_)
      refine lv_aload_n hx hb d_By_appendPattern_9 rfl (lv_at hl 1 rfl) ?_
      refine lv_bipush (v := 33) hx hb d_By_appendPattern_10 (by decide) ?_
      refine lv_lload_n hx hb d_By_appendPattern_12 rfl (lv_at hl 2 rfl) ?_
      refine lv_bipush (v := 8) hx hb d_By_appendPattern_13 (by decide) ?_
      refine lv_iload hx hb d_By_appendPattern_15 (lv_at hl 0 rfl) ?_
      refine lv_bipush (v := 8) hx hb d_By_appendPattern_17 (by decide) ?_
      refine lv_irem hx hb d_By_appendPattern_19 (by decide) ?_
      refine lv_imul hx hb d_By_appendPattern_20 ?_
      refine lv_lshr (v := v >>> ((8 * ((nI i) - (nI i) / 8 * 8)).toInt64 &&& 63)) hx hb d_By_appendPattern_21 rfl ?_
      refine lv_ldc2 (v := 63) hx hb hown (hg _ k_467) d_By_appendPattern_22 ?_
      refine lv_land hx hb d_By_appendPattern_25 ?_
      refine lv_l2i (v := ((v >>> ((8 * ((nI i) - (nI i) / 8 * 8)).toInt64 &&& 63)) &&& 63).toInt32) hx hb d_By_appendPattern_26 rfl ?_
      refine lv_iadd hx hb d_By_appendPattern_27 ?_
      have hPc := hP.sub (ws' := [(h, .inr (1, [.ref r, .int (nI (len + i))])), (r, .inl ((cT 0), n, .inl g))]) [0, 1] rfl
      have hDc := hD.sub (ws' := [(h, .inr (1, [.ref r, .int (nI (len + i))])), (r, .inl ((cT 0), n, .inl g))]) [0, 1] (by decide) rfl
      have hFc := va_free (wc := [(h, .inr (1, [.ref r, .int (nI (len + i))])), (r, .inl ((cT 0), n, .inl g))]) hD hS hA [0, 1] rfl
      refine va_callv (va_runV (C := "DoorServer$Bytes") (As := [.int (33 + (((v >>> ((8 * ((nI i) - (nI i) / 8 * 8)).toInt64 &&& 63)) &&& 63).toInt32))]) (rest := []) ⟨hx, hb, hml, hown, hg⟩ (c_By_append l dC dI cT H.size h r n (len + i) g (33 + (((v >>> ((8 * ((nI i) - (nI i) / 8 * 8)).toInt64 &&& 63)) &&& 63).toInt32)) (by omega) (hn)) (cwV 1 hg (gI (List.forall_mem_append.mpr ⟨List.forall_mem_cons.mpr ⟨k_85, List.forall_mem_cons.mpr ⟨k_76, List.forall_mem_cons.mpr ⟨k_1420, List.forall_mem_cons.mpr ⟨k_2, fun _ h => absurd h List.not_mem_nil⟩⟩⟩⟩, List.forall_mem_cons.mpr ⟨k_77, fun _ h => h⟩⟩)) rfl rfl rfl (by decide +kernel) ⟨Nat.le_of_ble_eq_true rfl, Nat.le_of_ble_eq_true rfl⟩) ⟨fun a U g mk q => by obtain ⟨q0, q1, qP, qK, qD⟩ := q; exact ⟨q0, q1, qP, va_K.moved (u := U) (U := U.calling g mk a) (Vm.Alike.refl U.vm) qK, qD⟩, va_recv (q0 := 0) (ci := 1) hK hP rfl rfl, fun U hU hW => ⟨rfl, by rw [hU], by rw [hU]; exact hPc, va_K.moved hW.alike hK, hDc.weaken (fun _ _ _ _ => trivial)⟩⟩ rfl rfl hl.1 rfl (lv_room (Nat.le_of_ble_eq_true rfl)) d_By_appendPattern_28 ⟨Nat.le_of_ble_eq_true rfl, Nat.le_of_ble_eq_true rfl⟩) hS (fun q _ h => hFc q h) hFc (fun u t H1 locs ht hvm hw hB hz1 hk1 hS => ?_)
      try dsimp only at hw hB
      obtain ⟨hP1, hK1, hD1⟩ := hB
      rw [ht] at hP1
      obtain ⟨hP, hD⟩ := va_join (wr := []) (w1 := [(h, .inr (1, [.ref r, .int (nI ((len + i) + 1))])), (r, .inl ((cT 0), n, .inl (upd g (len + i) ((33 + (((v >>> ((8 * ((nI i) - (nI i) / 8 * 8)).toInt64 &&& 63)) &&& 63).toInt32)) &&& 255))))]) hP hD [0, 1] [] rfl rfl (by decide) (by decide) hk1 hFc hP1 hD1
      have hw18 := hw
      clear hPc hDc hFc hz1 hk1 hP1 hK1 hD1
      generalize H1 = H at hP hS ⊢
      have hP : va_P (dC, dI) vcl [(h, .inr (1, [.ref r, .int (nI ((len + i) + 1))])), (r, .inl ((cT 0), n, .inl (upd g (len + i) ((33 + (((v >>> ((8 * ((nI i) - (nI i) / 8 * 8)).toInt64 &&& 63)) &&& 63).toInt32)) &&& 255))))] H := hP
      have hD : va_D A [(h, .inr (1, [.ref r, .int (nI ((len + i) + 1))])), (r, .inl ((cT 0), n, .inl (upd g (len + i) ((33 + (((v >>> ((8 * ((nI i) - (nI i) / 8 * 8)).toInt64 &&& 63)) &&& 63).toInt32)) &&& 255))))] := hD
      refine lv_iinc (k := 0) (v := nI (i + 1)) (lv' := [(4, .int (nI (i + 1))), (0, .ref h), (1, .long v), (3, .int (nI k))]) hx hb d_By_appendPattern_31 hl rfl (nI_1 i) (by decide) rfl (fun ls hl => ?_)
      refine lv_goto (tgt := 3) hx hb d_By_appendPattern_34 (by decide) ?_
      exact ih (i + 1) (upd g (len + i) ((33 + (((v >>> ((8 * ((nI i) - (nI i) / 8 * 8)).toInt64 &&& 63)) &&& 63).toInt32)) &&& 255)) _ _ _ (by omega) (fun q hq => by rw [pk_un (by omega)]; exact hi q hq) (fun h9 => AB_upd (hab h9) (BY_and _)) hP hD hS hl
  refine L15 _ (fun g H locs ls hi hab hP hD hS hl => ?_) (k - 0) 0 f s.heap _ ls (by omega) (fun _ _ => rfl) (fun h9 => h9) hP hD hS hl
  have hP9 := hP.sub (ws' := [(h, .inr (1, [.ref r, .int (nI (len + k))])), (r, .inl ((cT 0), n, .inl g))]) [0, 1] rfl
  have hD9 := hD.sub (ws' := [(h, .inr (1, [.ref r, .int (nI (len + k))])), (r, .inl ((cT 0), n, .inl g))]) [0, 1] (by decide) rfl
  exact W.vret hx hb hr (fun t ht hW => ⟨⟨g, rfl, ⟨hi, hab⟩, by rw [ht]; exact hP9, va_K.moved hW.alike hK, hD9⟩, hS.F ht⟩) hS.2.2 d_By_appendPattern_37
set_option maxHeartbeats 4000000 in
set_option maxRecDepth 100000 in
/-- append: one byte comes -/
theorem c_Pk_append (l : Launch) (dC : Nat → ClassId) (dI : Nat → Nat → Nat) (cT : Nat → ClassId) (sz : Nat) (h : Nat) (r : Nat) (n : Nat) (len : Nat) (f : Nat → Int32) (b : Int32) (hlen : len < n) (hn : n < 2 ^ 31) : Met l y_By_append (Cond.code y_By_append b_By_append 2 (Option.none : Option Jvm.ClassFile.FieldType) :: BIG) ({ frames := 0, cells := 0, slots := 0, locals := 0 }) (va_Pc [.ref h, .int b] (fun U => U.heap.size = sz ∧ va_P (dC, dI) vcl [(h, .inr (2, [.ref r, .int (nI len)])), (r, .inl ((cT 0), n, .inl f))] U.heap ∧ va_K (dC, dI) vcl (tyL cT) U ∧ va_D (fun _ => True) [(h, .inr (2, [.ref r, .int (nI len)])), (r, .inl ((cT 0), n, .inl f))])) (va_Qv (S := Unit) (fun u => True) (fun u t => va_P (dC, dI) vcl [(h, .inr (2, [.ref r, .int (nI (len + 1))])), (r, .inl ((cT 0), n, .inl (upd f len (b &&& 255))))] t.heap ∧ va_K (dC, dI) vcl (tyL cT) t ∧ va_D (va_A [(h, .inr (2, [.ref r, .int (nI len)])), (r, .inl ((cT 0), n, .inl f))] sz) [(h, .inr (2, [.ref r, .int (nI (len + 1))])), (r, .inl ((cT 0), n, .inl (upd f len (b &&& 255))))]) (va_A [(h, .inr (2, [.ref r, .int (nI len)])), (r, .inl ((cT 0), n, .inl f))] sz)) 0 0 (va_A [(h, .inr (2, [.ref r, .int (nI len)])), (r, .inl ((cT 0), n, .inl f))] sz) := by
  refine Met.ofW (cc := b_By_append) (maxL := 2) (ret := (Option.none : Option Jvm.ClassFile.FieldType)) (by decide) rfl ?_
  intro p e s m args below meth c s₁ B hml hv
  obtain ⟨hargs, hsz, hP, hK, hD0⟩ := hv
  have hx := B.exec
  have hb := B.bytes
  have hr := B.returns
  have hts := atoms_spec (ws := (Cond.code y_By_append b_By_append 2 (Option.none : Option Jvm.ClassFile.FieldType) :: BIG)) B.pre
  have hg : ∀ w ∈ BIG, w.before _ s = true := fun w h => hts w (List.mem_cons_of_mem _ h)
  have hown : s.vm.findClass "DoorServer$Bytes" = some m.cls := findClass_of_methodNamed B.named
  have hlocks := B.notSynchronized
  subst hsz
  have hD := hD0.self (sz := s.heap.size)
  generalize hAe : va_A [(h, .inr (2, [.ref r, .int (nI len)])), (r, .inl ((cT 0), n, .inl f))] s.heap.size = A at hD ⊢
  have hA : ∀ q : Nat, s.heap.size ≤ q → A q := fun q h => by rw [← hAe]; exact Or.inr h
  have hS : va_S A s.heap s.heap [] := va_S.rf
  have hl := lv_entry ([.ref h, .int b]) (n := 2) (Nat.le_of_ble_eq_true rfl)
  refine W.eq (g2 := entryFrame m (List.toArray [.ref h, .int b]) 2) (by rw [hargs]) ?_
  rw [lg_entry_eq]
  generalize (lg_sl ([.ref h, .int b]) ++ List.replicate (2 - (lg_sl ([.ref h, .int b])).length) Slot.unset).toArray = ls at hl ⊢
  have hl : lv_has ls 2 [(0, .ref h), (1, .int b)] := hl
  change W p l e ({ frames := 0, cells := 0, slots := 0, locals := 0 } : Room) s m args below meth c s.heap [] 0 0 _ _
  have hP : va_P (dC, dI) vcl [(h, .inr (2, [.ref r, .int (nI len)])), (r, .inl ((cT 0), n, .inl f))] s.heap := hP
  refine lv_aload_n hx hb d_By_append_0 rfl (lv_at hl 0 rfl) ?_
  refine va_get (D := (dC, dI)) (ci := 2) (v := (.int (nI len))) (C := R_Pk) (T := F_Pk) (N := 2) hx hb hg in_Pk hown hK hP 0 rfl rfl 1 (by decide) (hg _ k_51) (fun _ h9 => h9) rfl d_By_append_1 ?_
  refine lv_aload_n hx hb d_By_append_4 rfl (lv_at hl 0 rfl) ?_
  refine va_get (D := (dC, dI)) (ci := 2) (v := (.ref r)) (C := R_Pk) (T := F_Pk) (N := 2) hx hb hg in_Pk hown hK hP 0 rfl rfl 0 (by decide) (hg _ k_39) (fun _ h9 => h9) rfl d_By_append_5 ?_
  refine va_alen hx hb hK hP 1 0 rfl rfl (v := nI n) rfl d_By_append_8 ?_
  refine lv_icmp_ge (tgt := 36) hx hb d_By_append_9 (by decide) (fun hn9 => absurd hn9 (nI_ge hlen hn)) (fun hc19 => ?_)
  refine lv_aload_n hx hb d_By_append_12 rfl (lv_at hl 0 rfl) ?_
  refine va_get (D := (dC, dI)) (ci := 2) (v := (.ref r)) (C := R_Pk) (T := F_Pk) (N := 2) hx hb hg in_Pk hown hK hP 0 rfl rfl 0 (by decide) (hg _ k_39) (fun _ h9 => h9) rfl d_By_append_13 ?_
  refine lv_aload_n hx hb d_By_append_16 rfl (lv_at hl 0 rfl) ?_
  refine va_get (D := (dC, dI)) (ci := 2) (v := (.int (nI len))) (C := R_Pk) (T := F_Pk) (N := 2) hx hb hg in_Pk hown hK hP 0 rfl rfl 1 (by decide) (hg _ k_51) (fun _ h9 => h9) rfl d_By_append_17 ?_
  refine lv_iload_n hx hb d_By_append_20 rfl (lv_at hl 1 rfl) ?_
  refine lv_sipush (v := 255) hx hb d_By_append_21 (by decide) ?_
  refine lv_iand hx hb d_By_append_24 ?_
  refine va_iast hx hb hK hP hD hS 1 0 rfl rfl (i := (nI len)) (vp_in_nI hlen hn) d_By_append_25 (fun H locs hP hD hS => ?_)
  have ef20 : upd f (nI len).toNatClampNeg (b &&& 255) = upd f len (b &&& 255) := by rw [nI_clamp (by omega)]
  rw [ef20] at hP hD
  have hP : va_P (dC, dI) vcl [(h, .inr (2, [.ref r, .int (nI len)])), (r, .inl ((cT 0), n, .inl (upd f len (b &&& 255))))] H := hP
  have hD : va_D A [(h, .inr (2, [.ref r, .int (nI len)])), (r, .inl ((cT 0), n, .inl (upd f len (b &&& 255))))] := hD
  refine lv_aload_n hx hb d_By_append_26 rfl (lv_at hl 0 rfl) ?_
  refine lv_dup hx hb d_By_append_27 rfl ?_
  refine va_get (D := (dC, dI)) (ci := 2) (v := (.int (nI len))) (C := R_Pk) (T := F_Pk) (N := 2) hx hb hg in_Pk hown hK hP 0 rfl rfl 1 (by decide) (hg _ k_51) (fun _ h9 => h9) rfl d_By_append_28 ?_
  refine lv_iconst (v := 1) hx hb d_By_append_31 (by decide) ?_
  refine lv_iadd hx hb d_By_append_32 ?_
  refine lv_topi (fun x22 e21 => ?_)
  obtain rfl : x22 = nI (len + 1) := by rw [e21]; exact nI_1 len
  refine va_put (D := (dC, dI)) (ci := 2) (v := (.int (nI (len + 1)))) (ty := .int) (C := R_Pk) (T := F_Pk) (N := 2) hx hb hg in_Pk t_Pk tok_Pk nm_Pk hown hK hP hD hS 0 rfl rfl 1 (by decide) (hg _ k_51) (fun _ h9 => h9) rfl (by decide +kernel) rfl rfl (Nat.le_of_ble_eq_true rfl) d_By_append_33 (fun H locs hP hD hS => ?_)
  have hP : va_P (dC, dI) vcl [(h, .inr (2, [.ref r, .int (nI (len + 1))])), (r, .inl ((cT 0), n, .inl (upd f len (b &&& 255))))] H := hP
  have hD : va_D A [(h, .inr (2, [.ref r, .int (nI (len + 1))])), (r, .inl ((cT 0), n, .inl (upd f len (b &&& 255))))] := hD
  have hP9 := hP.sub (ws' := [(h, .inr (2, [.ref r, .int (nI (len + 1))])), (r, .inl ((cT 0), n, .inl (upd f len (b &&& 255))))]) [0, 1] rfl
  have hD9 := hD.sub (ws' := [(h, .inr (2, [.ref r, .int (nI (len + 1))])), (r, .inl ((cT 0), n, .inl (upd f len (b &&& 255))))]) [0, 1] (by decide) rfl
  exact W.vret hx hb hr (fun t ht hW => ⟨⟨(), rfl, trivial, by rw [ht]; exact hP9, va_K.moved hW.alike hK, hD9⟩, hS.F ht⟩) hS.2.2 d_By_append_36
set_option maxHeartbeats 4000000 in
set_option maxRecDepth 100000 in
/-- appendZeros: the first bytes stay -/
theorem c_Pk_zeros (l : Launch) (dC : Nat → ClassId) (dI : Nat → Nat → Nat) (cT : Nat → ClassId) (sz : Nat) (h : Nat) (r : Nat) (n : Nat) (len : Nat) (f : Nat → Int32) (k : Nat) (hlen : len + k ≤ n) (hn : n < 2 ^ 31) : Met l y_By_appendZeros (Cond.code y_By_appendZeros b_By_appendZeros 3 (Option.none : Option Jvm.ClassFile.FieldType) :: BIG) ({ frames := 1, cells := 0, slots := 0, locals := 21 }) (va_Pc [.ref h, .int (nI k)] (fun U => U.heap.size = sz ∧ va_P (dC, dI) vcl [(h, .inr (2, [.ref r, .int (nI len)])), (r, .inl ((cT 0), n, .inl f))] U.heap ∧ va_K (dC, dI) vcl (tyL cT) U ∧ va_D (fun _ => True) [(h, .inr (2, [.ref r, .int (nI len)])), (r, .inl ((cT 0), n, .inl f))])) (va_Qv (S := (Nat → Int32)) (fun u => match u with | g => (∀ j, j < len → g j = f j) ∧ (AB f → AB g)) (fun u t => match u with | g => va_P (dC, dI) vcl [(h, .inr (2, [.ref r, .int (nI (len + k))])), (r, .inl ((cT 0), n, .inl g))] t.heap ∧ va_K (dC, dI) vcl (tyL cT) t ∧ va_D (va_A [(h, .inr (2, [.ref r, .int (nI len)])), (r, .inl ((cT 0), n, .inl f))] sz) [(h, .inr (2, [.ref r, .int (nI (len + k))])), (r, .inl ((cT 0), n, .inl g))]) (va_A [(h, .inr (2, [.ref r, .int (nI len)])), (r, .inl ((cT 0), n, .inl f))] sz)) 0 0 (va_A [(h, .inr (2, [.ref r, .int (nI len)])), (r, .inl ((cT 0), n, .inl f))] sz) := by
  refine Met.ofW (cc := b_By_appendZeros) (maxL := 3) (ret := (Option.none : Option Jvm.ClassFile.FieldType)) (by decide) rfl ?_
  intro p e s m args below meth c s₁ B hml hv
  obtain ⟨hargs, hsz, hP, hK, hD0⟩ := hv
  have hx := B.exec
  have hb := B.bytes
  have hr := B.returns
  have hts := atoms_spec (ws := (Cond.code y_By_appendZeros b_By_appendZeros 3 (Option.none : Option Jvm.ClassFile.FieldType) :: BIG)) B.pre
  have hg : ∀ w ∈ BIG, w.before _ s = true := fun w h => hts w (List.mem_cons_of_mem _ h)
  have hown : s.vm.findClass "DoorServer$Bytes" = some m.cls := findClass_of_methodNamed B.named
  have hlocks := B.notSynchronized
  subst hsz
  have hD := hD0.self (sz := s.heap.size)
  generalize hAe : va_A [(h, .inr (2, [.ref r, .int (nI len)])), (r, .inl ((cT 0), n, .inl f))] s.heap.size = A at hD ⊢
  have hA : ∀ q : Nat, s.heap.size ≤ q → A q := fun q h => by rw [← hAe]; exact Or.inr h
  have hS : va_S A s.heap s.heap [] := va_S.rf
  have hl := lv_entry ([.ref h, .int (nI k)]) (n := 3) (Nat.le_of_ble_eq_true rfl)
  refine W.eq (g2 := entryFrame m (List.toArray [.ref h, .int (nI k)]) 3) (by rw [hargs]) ?_
  rw [lg_entry_eq]
  generalize (lg_sl ([.ref h, .int (nI k)]) ++ List.replicate (3 - (lg_sl ([.ref h, .int (nI k)])).length) Slot.unset).toArray = ls at hl ⊢
  have hl : lv_has ls 3 [(0, .ref h), (1, .int (nI k))] := hl
  change W p l e ({ frames := 1, cells := 0, slots := 0, locals := 21 } : Room) s m args below meth c s.heap [] 0 0 _ _
  have hP : va_P (dC, dI) vcl [(h, .inr (2, [.ref r, .int (nI len)])), (r, .inl ((cT 0), n, .inl f))] s.heap := hP
  refine lv_iconst (v := 0) hx hb d_By_appendZeros_0 (by decide) ?_
  refine lv_istore_n (lv' := [(2, .int 0), (0, .ref h), (1, .int (nI k))]) hx hb d_By_appendZeros_1 rfl hl (by decide) rfl (fun ls hl => ?_)
  have hl := lv_sub hl [0, 1, 2] (show _ = [(2, .int 0), (0, .ref h), (1, .int (nI k))] from rfl)
  have L23 : ∀ (Q : State → Prop) (exit : ∀ (g : Nat → Int32) (H : Heap) (locs : List Loc) (ls : Array Slot), (∀ q, q < len → g q = f q) → (AB f → AB g) → va_P (dC, dI) vcl [(h, .inr (2, [.ref r, .int (nI (len + k))])), (r, .inl ((cT 0), n, .inl g))] H → va_D A [(h, .inr (2, [.ref r, .int (nI (len + k))])), (r, .inl ((cT 0), n, .inl g))] → va_S A s.heap H locs → lv_has ls 3 [(2, .int (nI k)), (0, .ref h), (1, .int (nI k))] → W p l e ({ frames := 1, cells := 0, slots := 0, locals := 21 } : Room) s m args below meth c H locs 0 0 Q (F0 m 18 ls [])) (j8 i : Nat) (g : Nat → Int32) (H : Heap) (locs : List Loc) (ls : Array Slot), i + j8 = k → (∀ q, q < len → g q = f q) → (AB f → AB g) → va_P (dC, dI) vcl [(h, .inr (2, [.ref r, .int (nI (len + i))])), (r, .inl ((cT 0), n, .inl g))] H → va_D A [(h, .inr (2, [.ref r, .int (nI (len + i))])), (r, .inl ((cT 0), n, .inl g))] → va_S A s.heap H locs → lv_has ls 3 [(2, .int (nI i)), (0, .ref h), (1, .int (nI k))] → W p l e ({ frames := 1, cells := 0, slots := 0, locals := 21 } : Room) s m args below meth c H locs 0 0 Q (F0 m 2 ls []) := by
    intro Q exit j8
    induction j8 with
    | zero => 
      intro i g H locs ls hij hi hab hP hD hS hl
      have hij : k = i := by omega
      refine lv_iload_n hx hb d_By_appendZeros_2 rfl (lv_at hl 0 rfl) ?_
      refine lv_iload_n hx hb d_By_appendZeros_3 rfl (lv_at hl 2 rfl) ?_
      refine lv_icmp_ge (tgt := 18) hx hb d_By_appendZeros_4 (by decide) (fun hc24 => ?_) (fun hn9 => absurd (nI_le (by omega) (by omega)) hn9)
      subst hij
      exact exit g _ _ _ hi hab hP hD hS hl
    | succ j8 ih => 
      intro i g H locs ls hij hi hab hP hD hS hl
      have hlt : i < k := by omega
      refine lv_iload_n hx hb d_By_appendZeros_2 rfl (lv_at hl 0 rfl) ?_
      refine lv_iload_n hx hb d_By_appendZeros_3 rfl (lv_at hl 2 rfl) ?_
      refine lv_icmp_ge (tgt := 18) hx hb d_By_appendZeros_4 (by decide) (fun hn9 => absurd hn9 (nI_ge hlt (by omega))) (fun hc25 => ?_)
      refine lv_aload_n hx hb d_By_appendZeros_7 rfl (lv_at hl 1 rfl) ?_
      refine lv_iconst (v := 0) hx hb d_By_appendZeros_8 (by decide) ?_
      have hPc := hP.sub (ws' := [(h, .inr (2, [.ref r, .int (nI (len + i))])), (r, .inl ((cT 0), n, .inl g))]) [0, 1] rfl
      have hDc := hD.sub (ws' := [(h, .inr (2, [.ref r, .int (nI (len + i))])), (r, .inl ((cT 0), n, .inl g))]) [0, 1] (by decide) rfl
      have hFc := va_free (wc := [(h, .inr (2, [.ref r, .int (nI (len + i))])), (r, .inl ((cT 0), n, .inl g))]) hD hS hA [0, 1] rfl
      refine va_callv (va_runU (C := "DoorServer$Packet") (owner := "DoorServer$Bytes") (x := y_By_append) (As := [.int 0]) (rest := []) ⟨hx, hb, hml, hown, hg⟩ (c_Pk_append l dC dI cT H.size h r n (len + i) g 0 (by omega) (hn)) (va_cwU 1 hg (gI (List.forall_mem_append.mpr ⟨List.forall_mem_cons.mpr ⟨k_85, List.forall_mem_cons.mpr ⟨k_1419, List.forall_mem_cons.mpr ⟨k_1421, List.forall_mem_cons.mpr ⟨k_76, List.forall_mem_cons.mpr ⟨k_2, fun _ h => absurd h List.not_mem_nil⟩⟩⟩⟩⟩, List.forall_mem_cons.mpr ⟨k_77, fun _ h => h⟩⟩)) rfl rfl rfl rfl (by decide +kernel) ⟨Nat.le_of_ble_eq_true rfl, Nat.le_of_ble_eq_true rfl⟩) ⟨fun a U g mk q => by obtain ⟨q0, q1, qP, qK, qD⟩ := q; exact ⟨q0, q1, qP, va_K.moved (u := U) (U := U.calling g mk a) (Vm.Alike.refl U.vm) qK, qD⟩, va_recv (q0 := 0) (ci := 2) hK hP rfl rfl, fun U hU hW => ⟨rfl, by rw [hU], by rw [hU]; exact hPc, va_K.moved hW.alike hK, hDc.weaken (fun _ _ _ _ => trivial)⟩⟩ rfl rfl hl.1 rfl (lv_room (Nat.le_of_ble_eq_true rfl)) d_By_appendZeros_9 ⟨Nat.le_of_ble_eq_true rfl, Nat.le_of_ble_eq_true rfl⟩) hS (fun q _ h => hFc q h) hFc (fun u t H1 locs ht hvm hw hB hz1 hk1 hS => ?_)
      try dsimp only at hw hB
      obtain ⟨hP1, hK1, hD1⟩ := hB
      rw [ht] at hP1
      obtain ⟨hP, hD⟩ := va_join (wr := []) (w1 := [(h, .inr (2, [.ref r, .int (nI ((len + i) + 1))])), (r, .inl ((cT 0), n, .inl (upd g (len + i) (0 &&& 255))))]) hP hD [0, 1] [] rfl rfl (by decide) (by decide) hk1 hFc hP1 hD1
      have hw26 := hw
      clear hPc hDc hFc hz1 hk1 hP1 hK1 hD1
      generalize H1 = H at hP hS ⊢
      have hP : va_P (dC, dI) vcl [(h, .inr (2, [.ref r, .int (nI ((len + i) + 1))])), (r, .inl ((cT 0), n, .inl (upd g (len + i) (0 &&& 255))))] H := hP
      have hD : va_D A [(h, .inr (2, [.ref r, .int (nI ((len + i) + 1))])), (r, .inl ((cT 0), n, .inl (upd g (len + i) (0 &&& 255))))] := hD
      refine lv_iinc (k := 0) (v := nI (i + 1)) (lv' := [(2, .int (nI (i + 1))), (0, .ref h), (1, .int (nI k))]) hx hb d_By_appendZeros_12 hl rfl (nI_1 i) (by decide) rfl (fun ls hl => ?_)
      refine lv_goto (tgt := 2) hx hb d_By_appendZeros_15 (by decide) ?_
      exact ih (i + 1) (upd g (len + i) (0 &&& 255)) _ _ _ (by omega) (fun q hq => by rw [pk_un (by omega)]; exact hi q hq) (fun h9 => AB_upd (hab h9) (BY_and _)) hP hD hS hl
  refine L23 _ (fun g H locs ls hi hab hP hD hS hl => ?_) (k - 0) 0 f s.heap _ ls (by omega) (fun _ _ => rfl) (fun h9 => h9) hP hD hS hl
  have hP9 := hP.sub (ws' := [(h, .inr (2, [.ref r, .int (nI (len + k))])), (r, .inl ((cT 0), n, .inl g))]) [0, 1] rfl
  have hD9 := hD.sub (ws' := [(h, .inr (2, [.ref r, .int (nI (len + k))])), (r, .inl ((cT 0), n, .inl g))]) [0, 1] (by decide) rfl
  exact W.vret hx hb hr (fun t ht hW => ⟨⟨g, rfl, ⟨hi, hab⟩, by rw [ht]; exact hP9, va_K.moved hW.alike hK, hD9⟩, hS.F ht⟩) hS.2.2 d_By_appendZeros_18
set_option maxHeartbeats 4000000 in
set_option maxRecDepth 100000 in
/-- appendNumber: the k lowest bytes, the highest first -/
theorem c_Pk_number (l : Launch) (dC : Nat → ClassId) (dI : Nat → Nat → Nat) (cT : Nat → ClassId) (sz : Nat) (h : Nat) (r : Nat) (n : Nat) (len : Nat) (f : Nat → Int32) (v : Int64) (k : Nat) (hlen : len + k ≤ n) (hn : n < 2 ^ 31) : Met l y_By_appendNumber (Cond.code y_By_appendNumber b_By_appendNumber 5 (Option.none : Option Jvm.ClassFile.FieldType) :: BIG) ({ frames := 1, cells := 0, slots := 0, locals := 21 }) (va_Pc [.ref h, .long v, .int (nI k)] (fun U => U.heap.size = sz ∧ va_P (dC, dI) vcl [(h, .inr (2, [.ref r, .int (nI len)])), (r, .inl ((cT 0), n, .inl f))] U.heap ∧ va_K (dC, dI) vcl (tyL cT) U ∧ va_D (fun _ => True) [(h, .inr (2, [.ref r, .int (nI len)])), (r, .inl ((cT 0), n, .inl f))])) (va_Qv (S := (Nat → Int32)) (fun u => match u with | g => (∀ j, j < len → g j = f j) ∧ (∀ q, q < k → g (len + q) = bn_at v (k - (q + 1))) ∧ (AB f → AB g)) (fun u t => match u with | g => va_P (dC, dI) vcl [(h, .inr (2, [.ref r, .int (nI (len + k))])), (r, .inl ((cT 0), n, .inl g))] t.heap ∧ va_K (dC, dI) vcl (tyL cT) t ∧ va_D (va_A [(h, .inr (2, [.ref r, .int (nI len)])), (r, .inl ((cT 0), n, .inl f))] sz) [(h, .inr (2, [.ref r, .int (nI (len + k))])), (r, .inl ((cT 0), n, .inl g))]) (va_A [(h, .inr (2, [.ref r, .int (nI len)])), (r, .inl ((cT 0), n, .inl f))] sz)) 0 0 (va_A [(h, .inr (2, [.ref r, .int (nI len)])), (r, .inl ((cT 0), n, .inl f))] sz) := by
  refine Met.ofW (cc := b_By_appendNumber) (maxL := 5) (ret := (Option.none : Option Jvm.ClassFile.FieldType)) (by decide) rfl ?_
  intro p e s m args below meth c s₁ B hml hv
  obtain ⟨hargs, hsz, hP, hK, hD0⟩ := hv
  have hx := B.exec
  have hb := B.bytes
  have hr := B.returns
  have hts := atoms_spec (ws := (Cond.code y_By_appendNumber b_By_appendNumber 5 (Option.none : Option Jvm.ClassFile.FieldType) :: BIG)) B.pre
  have hg : ∀ w ∈ BIG, w.before _ s = true := fun w h => hts w (List.mem_cons_of_mem _ h)
  have hown : s.vm.findClass "DoorServer$Bytes" = some m.cls := findClass_of_methodNamed B.named
  have hlocks := B.notSynchronized
  subst hsz
  have hD := hD0.self (sz := s.heap.size)
  generalize hAe : va_A [(h, .inr (2, [.ref r, .int (nI len)])), (r, .inl ((cT 0), n, .inl f))] s.heap.size = A at hD ⊢
  have hA : ∀ q : Nat, s.heap.size ≤ q → A q := fun q h => by rw [← hAe]; exact Or.inr h
  have hS : va_S A s.heap s.heap [] := va_S.rf
  have hl := lv_entry ([.ref h, .long v, .int (nI k)]) (n := 5) (Nat.le_of_ble_eq_true rfl)
  refine W.eq (g2 := entryFrame m (List.toArray [.ref h, .long v, .int (nI k)]) 5) (by rw [hargs]) ?_
  rw [lg_entry_eq]
  generalize (lg_sl ([.ref h, .long v, .int (nI k)]) ++ List.replicate (5 - (lg_sl ([.ref h, .long v, .int (nI k)])).length) Slot.unset).toArray = ls at hl ⊢
  have hl : lv_has ls 5 [(0, .ref h), (1, .long v), (3, .int (nI k))] := hl
  change W p l e ({ frames := 1, cells := 0, slots := 0, locals := 21 } : Room) s m args below meth c s.heap [] 0 0 _ _
  have hP : va_P (dC, dI) vcl [(h, .inr (2, [.ref r, .int (nI len)])), (r, .inl ((cT 0), n, .inl f))] s.heap := hP
  refine lv_iload_n hx hb d_By_appendNumber_0 rfl (lv_at hl 2 rfl) ?_
  refine lv_iconst (v := 1) hx hb d_By_appendNumber_1 (by decide) ?_
  refine lv_isub hx hb d_By_appendNumber_2 ?_
  refine lv_istore (lv' := [(4, .int ((nI k) - 1)), (0, .ref h), (1, .long v), (3, .int (nI k))]) hx hb d_By_appendNumber_3 hl (by decide) rfl (fun ls hl => ?_)
  have hl := lv_sub hl [0, 1, 2, 3] (show _ = [(4, .int ((nI k) - 1)), (0, .ref h), (1, .long v), (3, .int (nI k))] from rfl)
  have L27 : ∀ (Q : State → Prop) (exit : ∀ (g : Nat → Int32) (H : Heap) (locs : List Loc) (ls : Array Slot), (∀ q, q < len → g q = f q) → (∀ q, q < k → g (len + q) = bn_at v (k - (q + 1))) → (AB f → AB g) → va_P (dC, dI) vcl [(h, .inr (2, [.ref r, .int (nI (len + k))])), (r, .inl ((cT 0), n, .inl g))] H → va_D A [(h, .inr (2, [.ref r, .int (nI (len + k))])), (r, .inl ((cT 0), n, .inl g))] → va_S A s.heap H locs → lv_has ls 5 [(4, .int (nI (k - k) - 1)), (0, .ref h), (1, .long v), (3, .int (nI k))] → W p l e ({ frames := 1, cells := 0, slots := 0, locals := 21 } : Room) s m args below meth c H locs 0 0 Q (F0 m 28 ls [])) (j8 i : Nat) (g : Nat → Int32) (H : Heap) (locs : List Loc) (ls : Array Slot), i + j8 = k → (∀ q, q < len → g q = f q) → (∀ q, q < i → g (len + q) = bn_at v (k - (q + 1))) → (AB f → AB g) → va_P (dC, dI) vcl [(h, .inr (2, [.ref r, .int (nI (len + i))])), (r, .inl ((cT 0), n, .inl g))] H → va_D A [(h, .inr (2, [.ref r, .int (nI (len + i))])), (r, .inl ((cT 0), n, .inl g))] → va_S A s.heap H locs → lv_has ls 5 [(4, .int (nI (k - i) - 1)), (0, .ref h), (1, .long v), (3, .int (nI k))] → W p l e ({ frames := 1, cells := 0, slots := 0, locals := 21 } : Room) s m args below meth c H locs 0 0 Q (F0 m 5 ls []) := by
    intro Q exit j8
    induction j8 with
    | zero => 
      intro i g H locs ls hij hi hj hab hP hD hS hl
      have hij : k = i := by omega
      refine lv_iload hx hb d_By_appendNumber_5 (lv_at hl 0 rfl) ?_
      refine lv_if_lt (tgt := 28) hx hb d_By_appendNumber_7 (by decide) (fun hc28 => ?_) (fun hn9 => absurd (by rw [show k - i = 0 by omega]; decide) hn9)
      subst hij
      exact exit g _ _ _ hi hj hab hP hD hS hl
    | succ j8 ih => 
      intro i g H locs ls hij hi hj hab hP hD hS hl
      have hlt : i < k := by omega
      refine lv_iload hx hb d_By_appendNumber_5 (lv_at hl 0 rfl) ?_
      refine lv_if_lt (tgt := 28) hx hb d_By_appendNumber_7 (by decide) (fun hn9 => absurd hn9 (by rw [show k - i = (k - (i + 1)) + 1 by omega, nI_pred]; exact nI_pos (by omega))) (fun hc29 => ?_)
      refine lv_aload_n hx hb d_By_appendNumber_10 rfl (lv_at hl 1 rfl) ?_
      refine lv_lload_n hx hb d_By_appendNumber_11 rfl (lv_at hl 2 rfl) ?_
      refine lv_bipush (v := 8) hx hb d_By_appendNumber_12 (by decide) ?_
      refine lv_iload hx hb d_By_appendNumber_14 (lv_at hl 0 rfl) ?_
      refine lv_topi (fun x31 e30 => ?_)
      obtain rfl : x31 = nI (k - (i + 1)) := by rw [e30]; rw [show k - i = (k - (i + 1)) + 1 by omega, nI_pred]
      refine lv_imul hx hb d_By_appendNumber_16 ?_
      refine lv_lushr (v := (v.toUInt64 >>> ((8 * (nI (k - (i + 1)))).toInt64.toUInt64 &&& Int64.toUInt64 63)).toInt64) hx hb d_By_appendNumber_17 rfl ?_
      refine lv_l2i (v := ((v.toUInt64 >>> ((8 * (nI (k - (i + 1)))).toInt64.toUInt64 &&& Int64.toUInt64 63)).toInt64).toInt32) hx hb d_By_appendNumber_18 rfl ?_
      have hPc := hP.sub (ws' := [(h, .inr (2, [.ref r, .int (nI (len + i))])), (r, .inl ((cT 0), n, .inl g))]) [0, 1] rfl
      have hDc := hD.sub (ws' := [(h, .inr (2, [.ref r, .int (nI (len + i))])), (r, .inl ((cT 0), n, .inl g))]) [0, 1] (by decide) rfl
      have hFc := va_free (wc := [(h, .inr (2, [.ref r, .int (nI (len + i))])), (r, .inl ((cT 0), n, .inl g))]) hD hS hA [0, 1] rfl
      refine va_callv (va_runU (C := "DoorServer$Packet") (owner := "DoorServer$Bytes") (x := y_By_append) (As := [.int (((v.toUInt64 >>> ((8 * (nI (k - (i + 1)))).toInt64.toUInt64 &&& Int64.toUInt64 63)).toInt64).toInt32)]) (rest := []) ⟨hx, hb, hml, hown, hg⟩ (c_Pk_append l dC dI cT H.size h r n (len + i) g (((v.toUInt64 >>> ((8 * (nI (k - (i + 1)))).toInt64.toUInt64 &&& Int64.toUInt64 63)).toInt64).toInt32) (by omega) (hn)) (va_cwU 1 hg (gI (List.forall_mem_append.mpr ⟨List.forall_mem_cons.mpr ⟨k_85, List.forall_mem_cons.mpr ⟨k_1419, List.forall_mem_cons.mpr ⟨k_1421, List.forall_mem_cons.mpr ⟨k_76, List.forall_mem_cons.mpr ⟨k_2, fun _ h => absurd h List.not_mem_nil⟩⟩⟩⟩⟩, List.forall_mem_cons.mpr ⟨k_77, fun _ h => h⟩⟩)) rfl rfl rfl rfl (by decide +kernel) ⟨Nat.le_of_ble_eq_true rfl, Nat.le_of_ble_eq_true rfl⟩) ⟨fun a U g mk q => by obtain ⟨q0, q1, qP, qK, qD⟩ := q; exact ⟨q0, q1, qP, va_K.moved (u := U) (U := U.calling g mk a) (Vm.Alike.refl U.vm) qK, qD⟩, va_recv (q0 := 0) (ci := 2) hK hP rfl rfl, fun U hU hW => ⟨rfl, by rw [hU], by rw [hU]; exact hPc, va_K.moved hW.alike hK, hDc.weaken (fun _ _ _ _ => trivial)⟩⟩ rfl rfl hl.1 rfl (lv_room (Nat.le_of_ble_eq_true rfl)) d_By_appendNumber_19 ⟨Nat.le_of_ble_eq_true rfl, Nat.le_of_ble_eq_true rfl⟩) hS (fun q _ h => hFc q h) hFc (fun u t H1 locs ht hvm hw hB hz1 hk1 hS => ?_)
      try dsimp only at hw hB
      obtain ⟨hP1, hK1, hD1⟩ := hB
      rw [ht] at hP1
      obtain ⟨hP, hD⟩ := va_join (wr := []) (w1 := [(h, .inr (2, [.ref r, .int (nI ((len + i) + 1))])), (r, .inl ((cT 0), n, .inl (upd g (len + i) ((((v.toUInt64 >>> ((8 * (nI (k - (i + 1)))).toInt64.toUInt64 &&& Int64.toUInt64 63)).toInt64).toInt32) &&& 255))))]) hP hD [0, 1] [] rfl rfl (by decide) (by decide) hk1 hFc hP1 hD1
      have hw32 := hw
      clear hPc hDc hFc hz1 hk1 hP1 hK1 hD1
      generalize H1 = H at hP hS ⊢
      have hP : va_P (dC, dI) vcl [(h, .inr (2, [.ref r, .int (nI ((len + i) + 1))])), (r, .inl ((cT 0), n, .inl (upd g (len + i) ((((v.toUInt64 >>> ((8 * (nI (k - (i + 1)))).toInt64.toUInt64 &&& Int64.toUInt64 63)).toInt64).toInt32) &&& 255))))] H := hP
      have hD : va_D A [(h, .inr (2, [.ref r, .int (nI ((len + i) + 1))])), (r, .inl ((cT 0), n, .inl (upd g (len + i) ((((v.toUInt64 >>> ((8 * (nI (k - (i + 1)))).toInt64.toUInt64 &&& Int64.toUInt64 63)).toInt64).toInt32) &&& 255))))] := hD
      refine lv_iinc (k := 0) (v := nI (k - (i + 1)) - 1) (lv' := [(4, .int (nI (k - (i + 1)) - 1)), (0, .ref h), (1, .long v), (3, .int (nI k))]) hx hb d_By_appendNumber_22 hl rfl (by rw [show k - i = (k - (i + 1)) + 1 by omega, nI_pred, Int32.sub_eq_add_neg]; rfl) (by decide) rfl (fun ls hl => ?_)
      refine lv_goto (tgt := 5) hx hb d_By_appendNumber_25 (by decide) ?_
      exact ih (i + 1) (upd g (len + i) ((((v.toUInt64 >>> ((8 * (nI (k - (i + 1)))).toInt64.toUInt64 &&& Int64.toUInt64 63)).toInt64).toInt32) &&& 255)) _ _ _ (by omega) (fun q hq => by rw [pk_un (by omega)]; exact hi q hq) (lt_s (fun q hq => by rw [pk_un (by omega)]; exact hj q hq) (by rw [pk_us]; rfl)) (fun h9 => AB_upd (hab h9) (BY_and _)) hP hD hS hl
  refine L27 _ (fun g H locs ls hi hj hab hP hD hS hl => ?_) (k - 0) 0 f s.heap _ ls (by omega) (fun _ _ => rfl) (fun q hq => absurd hq (Nat.not_lt_zero q)) (fun h9 => h9) hP hD hS hl
  have hP9 := hP.sub (ws' := [(h, .inr (2, [.ref r, .int (nI (len + k))])), (r, .inl ((cT 0), n, .inl g))]) [0, 1] rfl
  have hD9 := hD.sub (ws' := [(h, .inr (2, [.ref r, .int (nI (len + k))])), (r, .inl ((cT 0), n, .inl g))]) [0, 1] (by decide) rfl
  exact W.vret hx hb hr (fun t ht hW => ⟨⟨g, rfl, ⟨hi, hj, hab⟩, by rw [ht]; exact hP9, va_K.moved hW.alike hK, hD9⟩, hS.F ht⟩) hS.2.2 d_By_appendNumber_28
set_option maxHeartbeats 4000000 in
set_option maxRecDepth 100000 in
/-- appendPattern: k bytes come -/
theorem c_Pk_pattern (l : Launch) (dC : Nat → ClassId) (dI : Nat → Nat → Nat) (cT : Nat → ClassId) (sz : Nat) (h : Nat) (r : Nat) (n : Nat) (len : Nat) (f : Nat → Int32) (v : Int64) (k : Nat) (hlen : len + k ≤ n) (hn : n < 2 ^ 31) : Met l y_By_appendPattern (Cond.code y_By_appendPattern b_By_appendPattern 5 (Option.none : Option Jvm.ClassFile.FieldType) :: BIG) ({ frames := 1, cells := 0, slots := 0, locals := 21 }) (va_Pc [.ref h, .long v, .int (nI k)] (fun U => U.heap.size = sz ∧ va_P (dC, dI) vcl [(h, .inr (2, [.ref r, .int (nI len)])), (r, .inl ((cT 0), n, .inl f))] U.heap ∧ va_K (dC, dI) vcl (tyL cT) U ∧ va_D (fun _ => True) [(h, .inr (2, [.ref r, .int (nI len)])), (r, .inl ((cT 0), n, .inl f))])) (va_Qv (S := (Nat → Int32)) (fun u => match u with | g => (∀ j, j < len → g j = f j) ∧ (AB f → AB g)) (fun u t => match u with | g => va_P (dC, dI) vcl [(h, .inr (2, [.ref r, .int (nI (len + k))])), (r, .inl ((cT 0), n, .inl g))] t.heap ∧ va_K (dC, dI) vcl (tyL cT) t ∧ va_D (va_A [(h, .inr (2, [.ref r, .int (nI len)])), (r, .inl ((cT 0), n, .inl f))] sz) [(h, .inr (2, [.ref r, .int (nI (len + k))])), (r, .inl ((cT 0), n, .inl g))]) (va_A [(h, .inr (2, [.ref r, .int (nI len)])), (r, .inl ((cT 0), n, .inl f))] sz)) 0 0 (va_A [(h, .inr (2, [.ref r, .int (nI len)])), (r, .inl ((cT 0), n, .inl f))] sz) := by
  refine Met.ofW (cc := b_By_appendPattern) (maxL := 5) (ret := (Option.none : Option Jvm.ClassFile.FieldType)) (by decide) rfl ?_
  intro p e s m args below meth c s₁ B hml hv
  obtain ⟨hargs, hsz, hP, hK, hD0⟩ := hv
  have hx := B.exec
  have hb := B.bytes
  have hr := B.returns
  have hts := atoms_spec (ws := (Cond.code y_By_appendPattern b_By_appendPattern 5 (Option.none : Option Jvm.ClassFile.FieldType) :: BIG)) B.pre
  have hg : ∀ w ∈ BIG, w.before _ s = true := fun w h => hts w (List.mem_cons_of_mem _ h)
  have hown : s.vm.findClass "DoorServer$Bytes" = some m.cls := findClass_of_methodNamed B.named
  have hlocks := B.notSynchronized
  subst hsz
  have hD := hD0.self (sz := s.heap.size)
  generalize hAe : va_A [(h, .inr (2, [.ref r, .int (nI len)])), (r, .inl ((cT 0), n, .inl f))] s.heap.size = A at hD ⊢
  have hA : ∀ q : Nat, s.heap.size ≤ q → A q := fun q h => by rw [← hAe]; exact Or.inr h
  have hS : va_S A s.heap s.heap [] := va_S.rf
  have hl := lv_entry ([.ref h, .long v, .int (nI k)]) (n := 5) (Nat.le_of_ble_eq_true rfl)
  refine W.eq (g2 := entryFrame m (List.toArray [.ref h, .long v, .int (nI k)]) 5) (by rw [hargs]) ?_
  rw [lg_entry_eq]
  generalize (lg_sl ([.ref h, .long v, .int (nI k)]) ++ List.replicate (5 - (lg_sl ([.ref h, .long v, .int (nI k)])).length) Slot.unset).toArray = ls at hl ⊢
  have hl : lv_has ls 5 [(0, .ref h), (1, .long v), (3, .int (nI k))] := hl
  change W p l e ({ frames := 1, cells := 0, slots := 0, locals := 21 } : Room) s m args below meth c s.heap [] 0 0 _ _
  have hP : va_P (dC, dI) vcl [(h, .inr (2, [.ref r, .int (nI len)])), (r, .inl ((cT 0), n, .inl f))] s.heap := hP
  refine lv_iconst (v := 0) hx hb d_By_appendPattern_0 (by decide) ?_
  refine lv_istore (lv' := [(4, .int 0), (0, .ref h), (1, .long v), (3, .int (nI k))]) hx hb d_By_appendPattern_1 hl (by decide) rfl (fun ls hl => ?_)
  have hl := lv_sub hl [0, 1, 2, 3] (show _ = [(4, .int 0), (0, .ref h), (1, .long v), (3, .int (nI k))] from rfl)
  have L33 : ∀ (Q : State → Prop) (exit : ∀ (g : Nat → Int32) (H : Heap) (locs : List Loc) (ls : Array Slot), (∀ q, q < len → g q = f q) → (AB f → AB g) → va_P (dC, dI) vcl [(h, .inr (2, [.ref r, .int (nI (len + k))])), (r, .inl ((cT 0), n, .inl g))] H → va_D A [(h, .inr (2, [.ref r, .int (nI (len + k))])), (r, .inl ((cT 0), n, .inl g))] → va_S A s.heap H locs → lv_has ls 5 [(4, .int (nI k)), (0, .ref h), (1, .long v), (3, .int (nI k))] → W p l e ({ frames := 1, cells := 0, slots := 0, locals := 21 } : Room) s m args below meth c H locs 0 0 Q (F0 m 37 ls [])) (j8 i : Nat) (g : Nat → Int32) (H : Heap) (locs : List Loc) (ls : Array Slot), i + j8 = k → (∀ q, q < len → g q = f q) → (AB f → AB g) → va_P (dC, dI) vcl [(h, .inr (2, [.ref r, .int (nI (len + i))])), (r, .inl ((cT 0), n, .inl g))] H → va_D A [(h, .inr (2, [.ref r, .int (nI (len + i))])), (r, .inl ((cT 0), n, .inl g))] → va_S A s.heap H locs → lv_has ls 5 [(4, .int (nI i)), (0, .ref h), (1, .long v), (3, .int (nI k))] → W p l e ({ frames := 1, cells := 0, slots := 0, locals := 21 } : Room) s m args below meth c H locs 0 0 Q (F0 m 3 ls []) := by
    intro Q exit j8
    induction j8 with
    | zero => 
      intro i g H locs ls hij hi hab hP hD hS hl
      have hij : k = i := by omega
      refine lv_iload hx hb d_By_appendPattern_3 (lv_at hl 0 rfl) ?_
      refine lv_iload_n hx hb d_By_appendPattern_5 rfl (lv_at hl 3 rfl) ?_
      refine lv_icmp_ge (tgt := 37) hx hb d_By_appendPattern_6 (by decide) (fun hc34 => ?_) (fun hn9 => absurd (nI_le (by omega) (by omega)) hn9)
      subst hij
      exact exit g _ _ _ hi hab hP hD hS hl
    | succ j8 ih => 
      intro i g H locs ls hij hi hab hP hD hS hl
      have hlt : i < k := by omega
      refine lv_iload hx hb d_By_appendPattern_3 (lv_at hl 0 rfl) ?_
      refine lv_iload_n hx hb d_By_appendPattern_5 rfl (lv_at hl 3 rfl) ?_
      refine lv_icmp_ge (tgt := 37) hx hb d_By_appendPattern_6 (by decide) (fun hn9 => absurd hn9 (nI_ge hlt (by omega))) (fun hc35 => ?_)
      refine lv_aload_n hx hb d_By_appendPattern_9 rfl (lv_at hl 1 rfl) ?_
      refine lv_bipush (v := 33) hx hb d_By_appendPattern_10 (by decide) ?_
      refine lv_lload_n hx hb d_By_appendPattern_12 rfl (lv_at hl 2 rfl) ?_
      refine lv_bipush (v := 8) hx hb d_By_appendPattern_13 (by decide) ?_
      refine lv_iload hx hb d_By_appendPattern_15 (lv_at hl 0 rfl) ?_
      refine lv_bipush (v := 8) hx hb d_By_appendPattern_17 (by decide) ?_
      refine lv_irem hx hb d_By_appendPattern_19 (by decide) ?_
      refine lv_imul hx hb d_By_appendPattern_20 ?_
      refine lv_lshr (v := v >>> ((8 * ((nI i) - (nI i) / 8 * 8)).toInt64 &&& 63)) hx hb d_By_appendPattern_21 rfl ?_
      refine lv_ldc2 (v := 63) hx hb hown (hg _ k_467) d_By_appendPattern_22 ?_
      refine lv_land hx hb d_By_appendPattern_25 ?_
      refine lv_l2i (v := ((v >>> ((8 * ((nI i) - (nI i) / 8 * 8)).toInt64 &&& 63)) &&& 63).toInt32) hx hb d_By_appendPattern_26 rfl ?_
      refine lv_iadd hx hb d_By_appendPattern_27 ?_
      have hPc := hP.sub (ws' := [(h, .inr (2, [.ref r, .int (nI (len + i))])), (r, .inl ((cT 0), n, .inl g))]) [0, 1] rfl
      have hDc := hD.sub (ws' := [(h, .inr (2, [.ref r, .int (nI (len + i))])), (r, .inl ((cT 0), n, .inl g))]) [0, 1] (by decide) rfl
      have hFc := va_free (wc := [(h, .inr (2, [.ref r, .int (nI (len + i))])), (r, .inl ((cT 0), n, .inl g))]) hD hS hA [0, 1] rfl
      refine va_callv (va_runU (C := "DoorServer$Packet") (owner := "DoorServer$Bytes") (x := y_By_append) (As := [.int (33 + (((v >>> ((8 * ((nI i) - (nI i) / 8 * 8)).toInt64 &&& 63)) &&& 63).toInt32))]) (rest := []) ⟨hx, hb, hml, hown, hg⟩ (c_Pk_append l dC dI cT H.size h r n (len + i) g (33 + (((v >>> ((8 * ((nI i) - (nI i) / 8 * 8)).toInt64 &&& 63)) &&& 63).toInt32)) (by omega) (hn)) (va_cwU 1 hg (gI (List.forall_mem_append.mpr ⟨List.forall_mem_cons.mpr ⟨k_85, List.forall_mem_cons.mpr ⟨k_1419, List.forall_mem_cons.mpr ⟨k_1421, List.forall_mem_cons.mpr ⟨k_76, List.forall_mem_cons.mpr ⟨k_2, fun _ h => absurd h List.not_mem_nil⟩⟩⟩⟩⟩, List.forall_mem_cons.mpr ⟨k_77, fun _ h => h⟩⟩)) rfl rfl rfl rfl (by decide +kernel) ⟨Nat.le_of_ble_eq_true rfl, Nat.le_of_ble_eq_true rfl⟩) ⟨fun a U g mk q => by obtain ⟨q0, q1, qP, qK, qD⟩ := q; exact ⟨q0, q1, qP, va_K.moved (u := U) (U := U.calling g mk a) (Vm.Alike.refl U.vm) qK, qD⟩, va_recv (q0 := 0) (ci := 2) hK hP rfl rfl, fun U hU hW => ⟨rfl, by rw [hU], by rw [hU]; exact hPc, va_K.moved hW.alike hK, hDc.weaken (fun _ _ _ _ => trivial)⟩⟩ rfl rfl hl.1 rfl (lv_room (Nat.le_of_ble_eq_true rfl)) d_By_appendPattern_28 ⟨Nat.le_of_ble_eq_true rfl, Nat.le_of_ble_eq_true rfl⟩) hS (fun q _ h => hFc q h) hFc (fun u t H1 locs ht hvm hw hB hz1 hk1 hS => ?_)
      try dsimp only at hw hB
      obtain ⟨hP1, hK1, hD1⟩ := hB
      rw [ht] at hP1
      obtain ⟨hP, hD⟩ := va_join (wr := []) (w1 := [(h, .inr (2, [.ref r, .int (nI ((len + i) + 1))])), (r, .inl ((cT 0), n, .inl (upd g (len + i) ((33 + (((v >>> ((8 * ((nI i) - (nI i) / 8 * 8)).toInt64 &&& 63)) &&& 63).toInt32)) &&& 255))))]) hP hD [0, 1] [] rfl rfl (by decide) (by decide) hk1 hFc hP1 hD1
      have hw36 := hw
      clear hPc hDc hFc hz1 hk1 hP1 hK1 hD1
      generalize H1 = H at hP hS ⊢
      have hP : va_P (dC, dI) vcl [(h, .inr (2, [.ref r, .int (nI ((len + i) + 1))])), (r, .inl ((cT 0), n, .inl (upd g (len + i) ((33 + (((v >>> ((8 * ((nI i) - (nI i) / 8 * 8)).toInt64 &&& 63)) &&& 63).toInt32)) &&& 255))))] H := hP
      have hD : va_D A [(h, .inr (2, [.ref r, .int (nI ((len + i) + 1))])), (r, .inl ((cT 0), n, .inl (upd g (len + i) ((33 + (((v >>> ((8 * ((nI i) - (nI i) / 8 * 8)).toInt64 &&& 63)) &&& 63).toInt32)) &&& 255))))] := hD
      refine lv_iinc (k := 0) (v := nI (i + 1)) (lv' := [(4, .int (nI (i + 1))), (0, .ref h), (1, .long v), (3, .int (nI k))]) hx hb d_By_appendPattern_31 hl rfl (nI_1 i) (by decide) rfl (fun ls hl => ?_)
      refine lv_goto (tgt := 3) hx hb d_By_appendPattern_34 (by decide) ?_
      exact ih (i + 1) (upd g (len + i) ((33 + (((v >>> ((8 * ((nI i) - (nI i) / 8 * 8)).toInt64 &&& 63)) &&& 63).toInt32)) &&& 255)) _ _ _ (by omega) (fun q hq => by rw [pk_un (by omega)]; exact hi q hq) (fun h9 => AB_upd (hab h9) (BY_and _)) hP hD hS hl
  refine L33 _ (fun g H locs ls hi hab hP hD hS hl => ?_) (k - 0) 0 f s.heap _ ls (by omega) (fun _ _ => rfl) (fun h9 => h9) hP hD hS hl
  have hP9 := hP.sub (ws' := [(h, .inr (2, [.ref r, .int (nI (len + k))])), (r, .inl ((cT 0), n, .inl g))]) [0, 1] rfl
  have hD9 := hD.sub (ws' := [(h, .inr (2, [.ref r, .int (nI (len + k))])), (r, .inl ((cT 0), n, .inl g))]) [0, 1] (by decide) rfl
  exact W.vret hx hb hr (fun t ht hW => ⟨⟨g, rfl, ⟨hi, hab⟩, by rw [ht]; exact hP9, va_K.moved hW.alike hK, hD9⟩, hS.F ht⟩) hS.2.2 d_By_appendPattern_37
