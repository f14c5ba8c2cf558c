/-! What a throw needs beside the tables' words: the two statics of Throwable, four words that are no hand-on words. -/
def xz_St (C n d : String) (A : Nat → Prop) (U : State) (H : Heap) : Prop := ∃ (c : ClassId) (k : Class) (i : Nat) (f : Field) (a : Nat) (cell : Cell), U.vm.findClass C = some c ∧ U.fieldFound? C n d = some (c, k, i, f) ∧ f.isStatic = true ∧ k.statics = some a ∧ H[a]? = some cell ∧ cell.vm.isStatics = true ∧ cell.cls = c ∧ f.slot < cell.slots.size ∧ k.staticTypes[f.slot]? = some f.type ∧ (cell.slots[f.slot]? = some .null ∨ ∃ t : Nat, cell.slots[f.slot]? = some (.ref t)) ∧ ¬ A a
theorem xz_St.of {args : Array Value} {s : State} {C n d : String} {A : Nat → Prop} (hl : (Cond.laysStatic C n d).before args s = true) (hr : (Cond.isRef (.static C n d)).before args s = true) (hA : ∀ a : Nat, a < s.heap.size → ¬ A a) : xz_St C n d A s s.heap := by
  obtain ⟨c, k, i, f, a, cell, hc, hi, hst, ha, hcell, hs, hcls, hlt, hty⟩ := Cond.laysStatic_spec hl
  cases hv : (Term.static C n d).eval args s none [] s with
  | none => simp [Cond.before, Cond.holds, Cond.value, hv] at hr
  | some w =>
    obtain ⟨hst', a', cell', ha', hcell', -, hslot⟩ := Term.static_spec hi hv
    cases ha.symm.trans ha'
    cases hcell.symm.trans hcell'
    refine ⟨c, k, i, f, a, cell, hc, hi, hst, ha, hcell, hs, hcls, hlt, hty, ?_, hA a (Array.getElem?_eq_some_iff.mp hcell).1⟩
    simp only [Cond.before, Cond.holds, Cond.value, hv] at hr
    cases w with
    | null => exact Or.inl hslot
    | ref t => exact Or.inr ⟨t, hslot⟩
    | _ => simp at hr
theorem xz_St.moved {C n d : String} {A : Nat → Prop} {u U : State} {H : Heap} (hvm : u.vm.Alike U.vm) (h : xz_St C n d A u H) : xz_St C n d A U H := by
  obtain ⟨c, k, i, f, a, cell, hc, hi, hst, ha, hcell, hs, hcls, hlt, hty, hv, hA⟩ := h
  obtain ⟨k', hi', he⟩ := State.fieldFound?_setVm hvm hi
  exact ⟨c, k', i, f, a, cell, by rw [hvm.findClass]; exact hc, hi', hst, by rw [he]; exact ha, hcell, hs, hcls, hlt, by rw [he]; exact hty, hv, hA⟩
theorem xz_St.kept {C n d : String} {A : Nat → Prop} {U : State} {H H1 : Heap} (h : xz_St C n d A U H) (hq : ∀ a : Nat, a < H.size → ¬ A a → H1[a]? = H[a]?) : xz_St C n d A U H1 := by
  obtain ⟨c, k, i, f, a, cell, hc, hi, hst, ha, hcell, hs, hcls, hlt, hty, hv, hA⟩ := h
  exact ⟨c, k, i, f, a, cell, hc, hi, hst, ha, by rw [hq a (Array.getElem?_eq_some_iff.mp hcell).1 hA]; exact hcell, hs, hcls, hlt, hty, hv, hA⟩
theorem xz_St.narrow {C n d : String} {A B : Nat → Prop} {U : State} {H : Heap} (h : xz_St C n d A U H) (hAB : ∀ q, B q → A q) : xz_St C n d B U H := by
  obtain ⟨c, k, i, f, a, cell, hc, hi, hst, ha, hcell, hs, hcls, hlt, hty, hv, hA⟩ := h
  exact ⟨c, k, i, f, a, cell, hc, hi, hst, ha, hcell, hs, hcls, hlt, hty, hv, fun z => hA (hAB a z)⟩
theorem xz_St.lays {C n d : String} {A : Nat → Prop} {s : State} {args : Array Value} (h : xz_St C n d A s s.heap) : (Cond.laysStatic C n d).before args s = true := by
  obtain ⟨c, k, i, f, a, cell, hc, hi, hst, ha, hcell, hs, hcls, hlt, hty, hv, hA⟩ := h
  simp [Cond.before, Cond.holds, Cond.value, hc, hi, hst, ha, hcell, hs, hcls, hlt, hty]
theorem xz_St.isRef {C n d : String} {A : Nat → Prop} {s : State} {args : Array Value} (h : xz_St C n d A s s.heap) : (Cond.isRef (.static C n d)).before args s = true := by
  obtain ⟨c, k, i, f, a, cell, hc, hi, hst, ha, hcell, hs, hcls, hlt, hty, hv, hA⟩ := h
  rcases hv with hv | ⟨t, hv⟩ <;> simp [Cond.before, Cond.holds, Cond.value, Term.eval, State.fieldNamed?, hi, hst, ha, hcell, hs, hv]
abbrev xz_IA : String := "java/lang/IllegalArgumentException"
def xz_N (U : State) : Prop := va_Nw (.castable xz_IA xz_IA) U ∧ va_Nw (.declares y_Re_init) U ∧ va_Nw (.declares y_Ex_init) U ∧ va_Nw (.declares y_Th_init) U ∧ va_Nw (Jvm.Cond.codeSync y_Th_fillInStackTrace2 prog_21_method_18_code (1 : Nat) (Option.some (Jvm.ClassFile.FieldType.object "java/lang/Throwable"))) U
def xz_T (A : Nat → Prop) (U : State) (H : Heap) : Prop := xz_N U ∧ xz_St "java/lang/Throwable" "UNASSIGNED_STACK" "[Ljava/lang/StackTraceElement;" A U H ∧ xz_St "java/lang/Throwable" "SUPPRESSED_SENTINEL" "Ljava/util/List;" A U H
theorem xz_T.at {A B : Nat → Prop} {s U : State} {H : Heap} (h : xz_T A s s.heap) (hW : s.WarmedH U.vm) (hq : ∀ a : Nat, a < s.heap.size → ¬ A a → H[a]? = s.heap[a]?) (hAB : ∀ q, B q → A q) : xz_T B U H := by
  obtain ⟨⟨h1, h2, h3, h4, h5⟩, h6, h7⟩ := h
  exact ⟨⟨h1.warmC hW, h2.warmD hW, h3.warmD hW, h4.warmD hW, va_Nw.of rfl (word_at (args := #[]) (a' := #[]) hW (Or.inl rfl) h5)⟩, ((h6.kept hq).narrow hAB).moved hW.alike, ((h7.kept hq).narrow hAB).moved hW.alike⟩
theorem xz_atoms {A : Nat → Prop} {s : State} {args : Array Value} (hg : ∀ w ∈ BIG, w.before args s = true) (hT : xz_T A s s.heap) {own : String} {ic : Nat} (hl : (Cond.methodLink own ic y_Ia_init).before args s = true) :
    ∀ a ∈ Bundle.ownAtoms0 own ic xz_IA ["java/lang/RuntimeException", "java/lang/Exception"], a.before args s = true := by
  obtain ⟨⟨hc, hd1, hd2, hd3, hs0⟩, hU, hV⟩ := hT
  have hs := va_Nw.use (A := args) rfl hs0
  show ∀ a ∈ ([_, _, _, _, _, _, _, _, _, _, _, _, _, _, _, _, _, _, _, _, _, _, _, _, _, _, _, _, _, _, _, _, _, _, _, _, _, _, _, _, _, _, _, _, _, _, _, _, _, _, _, _, _] : List Cond), a.before args s = true
  exact List.forall_mem_cons.mpr ⟨hg _ k_14, List.forall_mem_cons.mpr ⟨hg _ k_415, List.forall_mem_cons.mpr ⟨hg _ k_424, List.forall_mem_cons.mpr ⟨hs, List.forall_mem_cons.mpr ⟨hg _ k_430, List.forall_mem_cons.mpr ⟨hg _ k_432, List.forall_mem_cons.mpr ⟨hg _ k_416, List.forall_mem_cons.mpr ⟨hg _ k_417, List.forall_mem_cons.mpr ⟨hg _ k_28, List.forall_mem_cons.mpr ⟨hg _ k_29, List.forall_mem_cons.mpr ⟨hg _ k_418, List.forall_mem_cons.mpr ⟨hg _ k_423, List.forall_mem_cons.mpr ⟨hg _ k_428, List.forall_mem_cons.mpr ⟨hg _ k_444, List.forall_mem_cons.mpr ⟨hg _ k_405, List.forall_mem_cons.mpr ⟨hg _ k_445, List.forall_mem_cons.mpr ⟨hg _ k_407, List.forall_mem_cons.mpr ⟨hg _ k_446, List.forall_mem_cons.mpr ⟨hg _ k_409, List.forall_mem_cons.mpr ⟨hg _ k_419, List.forall_mem_cons.mpr ⟨hU.lays, List.forall_mem_cons.mpr ⟨hg _ k_421, List.forall_mem_cons.mpr ⟨hV.lays, List.forall_mem_cons.mpr ⟨hg _ k_411, List.forall_mem_cons.mpr ⟨hg _ k_434, List.forall_mem_cons.mpr ⟨hg _ k_435, List.forall_mem_cons.mpr ⟨hg _ k_436, List.forall_mem_cons.mpr ⟨hg _ k_437, List.forall_mem_cons.mpr ⟨va_Nw.use rfl hd1, List.forall_mem_cons.mpr ⟨hg _ k_437, List.forall_mem_cons.mpr ⟨hg _ k_438, List.forall_mem_cons.mpr ⟨hg _ k_439, List.forall_mem_cons.mpr ⟨hg _ k_440, List.forall_mem_cons.mpr ⟨va_Nw.use rfl hd2, List.forall_mem_cons.mpr ⟨hg _ k_440, List.forall_mem_cons.mpr ⟨hg _ k_441, List.forall_mem_cons.mpr ⟨hg _ k_442, List.forall_mem_cons.mpr ⟨hg _ k_416, List.forall_mem_cons.mpr ⟨va_Nw.use rfl hd3, List.forall_mem_cons.mpr ⟨hl, List.forall_mem_cons.mpr ⟨hg _ k_394, List.forall_mem_cons.mpr ⟨va_Nw.use rfl hc, List.forall_mem_cons.mpr ⟨hg _ k_402, List.forall_mem_cons.mpr ⟨hg _ k_403, List.forall_mem_cons.mpr ⟨hg _ k_404, List.forall_mem_cons.mpr ⟨hg _ k_406, List.forall_mem_cons.mpr ⟨hg _ k_408, List.forall_mem_cons.mpr ⟨hg _ k_410, List.forall_mem_cons.mpr ⟨hU.isRef, List.forall_mem_cons.mpr ⟨hV.isRef, List.forall_mem_cons.mpr ⟨hg _ k_414, List.forall_mem_cons.mpr ⟨hg _ k_413, List.forall_mem_cons.mpr ⟨hg _ k_412, fun _ h => absurd h List.not_mem_nil⟩⟩⟩⟩⟩⟩⟩⟩⟩⟩⟩⟩⟩⟩⟩⟩⟩⟩⟩⟩⟩⟩⟩⟩⟩⟩⟩⟩⟩⟩⟩⟩⟩⟩⟩⟩⟩⟩⟩⟩⟩⟩⟩⟩⟩⟩⟩⟩⟩⟩⟩⟩⟩
