theorem d_DS_requireRoom_17 : decode b_DS_requireRoom 17 = .ok (.new 219, 3) := by decide +kernel
theorem d_DS_requireRoom_20 : decode b_DS_requireRoom 20 = .ok (.dup, 1) := by decide +kernel
theorem d_DS_requireRoom_21 : decode b_DS_requireRoom 21 = .ok (.invokespecial 221, 3) := by decide +kernel
theorem d_DS_requireRoom_24 : decode b_DS_requireRoom 24 = .ok (.athrow, 1) := by decide +kernel
/-! IllegalStateException: what its throw needs, and the catch by a second entry. -/
abbrev xs_IS : String := "java/lang/IllegalStateException"
def xs_T (A : Nat → Prop) (U : State) (H : Heap) : Prop := xz_T A U H ∧ va_Nw (.castable xs_IS xs_IS) U ∧ (Cond.not (.castable xs_IS xz_IA)).before #[] U = true
theorem xs_T.at {A B : Nat → Prop} {s U : State} {H : Heap} (h : xs_T A s s.heap) (hW : s.WarmedH U.vm) (hq : ∀ a : Nat, a < s.heap.size → ¬ A a → H[a]? = s.heap[a]?) (hAB : ∀ q, B q → A q) : xs_T B U H := ⟨h.1.at hW hq hAB, h.2.1.warmC hW, Cond.notCastable_moved (args' := #[]) (T := U) (vm₁ := U.vm) hW.alike h.2.2⟩
theorem xs_atoms {A : Nat → Prop} {s : State} {args : Array Value} (hg : ∀ w ∈ BIG, w.before args s = true) (hT : xs_T A s s.heap) {own : String} {ic : Nat} (hl : (Cond.methodLink own ic y_Is_init).before args s = true) :
    ∀ a ∈ Bundle.ownAtoms0 own ic xs_IS ["java/lang/RuntimeException", "java/lang/Exception"], a.before args s = true := by
  obtain ⟨⟨⟨-, hd1, hd2, hd3, hs0⟩, hU, hV⟩, hc, -⟩ := hT
  have hs := va_Nw.use (A := args) rfl hs0
  show ∀ a ∈ ([_, _, _, _, _, _, _, _, _, _, _, _, _, _, _, _, _, _, _, _, _, _, _, _, _, _, _, _, _, _, _, _, _, _, _, _, _, _, _, _, _, _, _, _, _, _, _, _, _, _, _, _, _] : List Cond), a.before args s = true
  exact List.forall_mem_cons.mpr ⟨hg _ k_14, List.forall_mem_cons.mpr ⟨hg _ k_415, List.forall_mem_cons.mpr ⟨hg _ k_424, List.forall_mem_cons.mpr ⟨hs, List.forall_mem_cons.mpr ⟨hg _ k_430, List.forall_mem_cons.mpr ⟨hg _ k_432, List.forall_mem_cons.mpr ⟨hg _ k_416, List.forall_mem_cons.mpr ⟨hg _ k_417, List.forall_mem_cons.mpr ⟨hg _ k_28, List.forall_mem_cons.mpr ⟨hg _ k_29, List.forall_mem_cons.mpr ⟨hg _ k_418, List.forall_mem_cons.mpr ⟨hg _ k_423, List.forall_mem_cons.mpr ⟨hg _ k_428, List.forall_mem_cons.mpr ⟨hg _ k_444, List.forall_mem_cons.mpr ⟨hg _ k_405, List.forall_mem_cons.mpr ⟨hg _ k_445, List.forall_mem_cons.mpr ⟨hg _ k_407, List.forall_mem_cons.mpr ⟨hg _ k_446, List.forall_mem_cons.mpr ⟨hg _ k_409, List.forall_mem_cons.mpr ⟨hg _ k_419, List.forall_mem_cons.mpr ⟨hU.lays, List.forall_mem_cons.mpr ⟨hg _ k_421, List.forall_mem_cons.mpr ⟨hV.lays, List.forall_mem_cons.mpr ⟨hg _ k_411, List.forall_mem_cons.mpr ⟨hg _ k_514, List.forall_mem_cons.mpr ⟨hg _ k_515, List.forall_mem_cons.mpr ⟨hg _ k_516, List.forall_mem_cons.mpr ⟨hg _ k_437, List.forall_mem_cons.mpr ⟨va_Nw.use rfl hd1, List.forall_mem_cons.mpr ⟨hg _ k_437, List.forall_mem_cons.mpr ⟨hg _ k_438, List.forall_mem_cons.mpr ⟨hg _ k_439, List.forall_mem_cons.mpr ⟨hg _ k_440, List.forall_mem_cons.mpr ⟨va_Nw.use rfl hd2, List.forall_mem_cons.mpr ⟨hg _ k_440, List.forall_mem_cons.mpr ⟨hg _ k_441, List.forall_mem_cons.mpr ⟨hg _ k_442, List.forall_mem_cons.mpr ⟨hg _ k_416, List.forall_mem_cons.mpr ⟨va_Nw.use rfl hd3, List.forall_mem_cons.mpr ⟨hl, List.forall_mem_cons.mpr ⟨hg _ k_505, List.forall_mem_cons.mpr ⟨va_Nw.use rfl hc, List.forall_mem_cons.mpr ⟨hg _ k_507, List.forall_mem_cons.mpr ⟨hg _ k_426, List.forall_mem_cons.mpr ⟨hg _ k_508, List.forall_mem_cons.mpr ⟨hg _ k_509, List.forall_mem_cons.mpr ⟨hg _ k_510, List.forall_mem_cons.mpr ⟨hg _ k_511, List.forall_mem_cons.mpr ⟨hU.isRef, List.forall_mem_cons.mpr ⟨hV.isRef, List.forall_mem_cons.mpr ⟨hg _ k_414, List.forall_mem_cons.mpr ⟨hg _ k_413, List.forall_mem_cons.mpr ⟨hg _ k_512, fun _ h => absurd h List.not_mem_nil⟩⟩⟩⟩⟩⟩⟩⟩⟩⟩⟩⟩⟩⟩⟩⟩⟩⟩⟩⟩⟩⟩⟩⟩⟩⟩⟩⟩⟩⟩⟩⟩⟩⟩⟩⟩⟩⟩⟩⟩⟩⟩⟩⟩⟩⟩⟩⟩⟩⟩⟩⟩⟩
section XC2
variable {p : Program} {l : Launch} {e : Env} {R : Room} {s : State} {m : MethodId} {args : Array Value} {below : List Frame} {meth : Method} {c : Code} {H : Heap} {locs : List Loc} {cells slots : Nat} {Q : State → Prop}
/-- the first entry does not take it, the second does -/
theorem xk_catch2 {own cls cls1 : String} {x0 x1 : ExceptionTableEntry} {rest : List ExceptionTableEntry} {pc : Nat} {ls : Array Slot} {st : List Value} (htab : c.exceptionTable.toList = x0 :: x1 :: rest) (hcov0 : covers x0 pc = true) (h00 : x0.catchType ≠ 0) (hcov1 : covers x1 pc = true) (h01 : x1.catchType ≠ 0)
    (hown : s.vm.findClass own = some m.cls) (hcl0 : (Cond.classLink own x0.catchType cls1).before args s = true) (hnot : (Cond.not (.castable cls cls1)).before #[] s = true) (hcl1 : (Cond.classLink own x1.catchType cls).before args s = true) (hcast : (Cond.castable cls cls).before args s = true)
    (kk : ∀ (x : Addr) (H1 : Heap), H.size ≤ x → H.size ≤ H1.size → (∀ q : Nat, q < H.size → H1[q]? = H[q]?) → W p l e R s m args below meth c H1 locs cells slots Q (F0 m x1.handlerPc ls [.ref x])) :
    xk_W p l e R s m args below meth c H locs cells slots Q cls (F0 m pc ls st) := by
  intro x T X hx hIs hle hq
  have hpl : e.platform.magicAccessors = ({} : Platform).magicAccessors := by rw [X.admits.platform]
  obtain ⟨c1, hf1, hk1⟩ := Cond.classLink_spec hown hcl0 e.platform hpl
  obtain ⟨hg₁, hwarm₁, hready₁⟩ := State.classEntry (e := e) X.warmed hk1
  generalize T.vm.noted m.cls x0.catchType (.cls c1) = vm₁ at hg₁ hwarm₁ hready₁
  have X₁ := X.noted hwarm₁
  obtain ⟨cC, hfc, hclk⟩ := Cond.classLink_spec hown hcl1 e.platform hpl
  obtain ⟨hg₂, hwarm₂, hready₂⟩ := State.classEntry (e := e) X₁.warmed hclk
  generalize (T.setVm vm₁).vm.noted m.cls x1.catchType (.cls cC) = vm₂ at hg₂ hwarm₂ hready₂
  obtain ⟨c3, c4, hc3, hc4, hasg⟩ := Cond.castable_spec hcast
  cases hfc.symm.trans hc3
  cases hfc.symm.trans hc4
  obtain ⟨a3, a4, ha3, ha4, hna⟩ := Cond.notCastable_spec hnot
  cases hfc.symm.trans ha3
  cases hf1.symm.trans ha4
  obtain ⟨ce, hce, hst, hfce⟩ := hIs
  have hcls : ce.cls = cC := by
    rw [X.warmed.alike.findClass] at hfce
    exact Option.some.inj (hfce.symm.trans hfc)
  obtain ⟨kC, hkC⟩ := Vm.classAt_of_findClass hfc
  obtain ⟨kC1, hkC1⟩ := Vm.classAt_of_findClass hf1
  obtain ⟨k1, hk1', -⟩ := hwarm₁.alike.2.2 _ _ hkC
  obtain ⟨k11, hk11, -⟩ := hwarm₁.alike.2.2 _ _ hkC1
  obtain ⟨k2, hk2, -⟩ := hwarm₂.alike.2.2 _ _ hkC
  have hsz : vm₁.classes.size ≤ T.vm.classes.size := by
    have a1 := hwarm₁.alike.2.1
    have a2 := X.warmed.alike.2.1
    omega
  have hsz2 : vm₂.classes.size ≤ vm₁.classes.size := by
    have a1 := hwarm₁.alike.2.1
    have a2 := hwarm₂.alike.2.1
    omega
  have hasg0 : ¬ vm₁.assignable ce.cls c1 = true := by rw [hcls, hwarm₁.alike.assignable, hna]; decide
  have hasg1 : vm₂.assignable ce.cls cC = true := by rw [hcls, hwarm₂.alike.assignable]; exact hasg
  obtain ⟨t, a1, b1⟩ := kk x T.heap hx hle hq (T.setVm vm₂) rfl (X.noted hwarm₂)
  refine ⟨t, xk_caught (vm' := vm₂) (pc := x1.handlerPc) (g := F0 m pc ls st) X.here ?_ a1, b1⟩
  intro Q E d acts
  have hm' : ((T.setTop (F0 m pc ls st)).pushFrame (.throwing x)).vm.method? m = some meth := by rw [Stand.throwing_vm]; exact X.method'
  rw [W.findHandler_eq hm' X.code, htab]
  rw [xk_go (s := (T.setTop (F0 m pc ls st)).pushFrame (.throwing x)) (c := c1) (cell := ce) (vm' := vm₁) hcov0 h00 (by rw [Stand.throwing_vm]; exact hg₁) (by rw [Stand.throwing_vm]; exact hsz) (by rw [Stand.throwing_heap]; exact hce) (fun k => VmData.ne_statics_of hst k) ⟨k1, by rw [hcls]; exact hk1'⟩ ⟨k11, hk11⟩, if_neg hasg0]
  rw [xk_go (s := ((T.setTop (F0 m pc ls st)).pushFrame (.throwing x)).setVm vm₁) (c := cC) (cell := ce) (vm' := vm₂) hcov1 h01 hg₂ hsz2 (by show ((T.setTop (F0 m pc ls st)).pushFrame (.throwing x)).heap[x]? = some ce; rw [Stand.throwing_heap]; exact hce) (fun k => VmData.ne_statics_of hst k) ⟨k2, by rw [hcls]; exact hk2⟩ ⟨k2, hk2⟩, if_pos hasg1]
  exact Iff.rfl
end XC2
set_option maxHeartbeats 4000000 in
set_option maxRecDepth 100000 in
/-- requireRoom, without room -/
theorem x_room (l : Launch) (hfl : l.flags = pinnedFlags ++ [noTraceFlag]) (dC : Nat → ClassId) (dI : Nat → Nat → Nat) (cT : Nat → ClassId) (ds : Nat) (dr : Nat) (sv : Nat) (rr : Nat) (len : Nat) (f : Nat → Int32) (k : Nat) (hlen : len ≤ 1000) (hk : k ≤ 1000) (hbad : 1000 < len + 2 + k) : xk_T l y_DS_requireRoom (Cond.code y_DS_requireRoom b_DS_requireRoom 2 (Option.none : Option Jvm.ClassFile.FieldType) :: BIG) ({ frames := 6, cells := 1, slots := 6, locals := 81 }) (va_Pc [.ref ds, .int (nI k)] (fun U => xs_T (fun _ => False) U U.heap ∧ va_P (dC, dI) vcl [(ds, .inr (0, [.ref dr, .ref sv])), (dr, .inr (2, [.ref rr, .int (nI len)])), (rr, .inl ((cT 0), 1000, .inl f))] U.heap ∧ va_D (fun _ => True) [(ds, .inr (0, [.ref dr, .ref sv])), (dr, .inr (2, [.ref rr, .int (nI len)])), (rr, .inl ((cT 0), 1000, .inl f))] ∧ va_K (dC, dI) vcl (tyL cT) U)) xs_IS := by
  refine xk_T.ofW (cc := b_DS_requireRoom) (maxL := 2) (ret := (Option.none : Option Jvm.ClassFile.FieldType)) (by decide) rfl ?_
  intro p e s m args below meth c s₁ B hml hv hno
  obtain ⟨hargs, hT, hP, hDD, hK⟩ := hv
  have hx := B.exec
  have hb := B.bytes
  have hts := atoms_spec (ws := (Cond.code y_DS_requireRoom b_DS_requireRoom 2 (Option.none : Option Jvm.ClassFile.FieldType) :: BIG)) B.pre
  have hg : ∀ w ∈ BIG, w.before _ s = true := fun w h => hts w (List.mem_cons_of_mem _ h)
  have hown : s.vm.findClass "DoorServer" = some m.cls := findClass_of_methodNamed B.named
  have hlocks := B.notSynchronized
  have htr := Launch.traces_off hfl B.admits
  obtain ⟨A, hAe⟩ : ∃ A : Nat → Prop, A = fun q => s.heap.size ≤ q := ⟨_, rfl⟩
  have hA : ∀ q : Nat, s.heap.size ≤ q → A q := fun q h => by rw [hAe]; exact h
  have hS : va_S A s.heap s.heap [] := va_S.rf
  have hD : va_D A [] := ⟨fun i j p q h => by simp at h, fun k q h => by simp at h⟩
  have hl := lv_entry ([.ref ds, .int (nI k)]) (n := 2) (Nat.le_of_ble_eq_true rfl)
  refine W.eq (g2 := entryFrame m (List.toArray [.ref ds, .int (nI k)]) 2) (by rw [hargs]) ?_
  rw [lg_entry_eq]
  generalize (lg_sl ([.ref ds, .int (nI k)]) ++ List.replicate (2 - (lg_sl ([.ref ds, .int (nI k)])).length) Slot.unset).toArray = ls at hl ⊢
  have hl : lv_has ls 2 [(0, .ref ds), (1, .int (nI k))] := hl
  change W p l e ({ frames := 6, cells := 1, slots := 6, locals := 81 } : Room) s m args below meth c s.heap [] 0 0 _ _
  have hP : va_P (dC, dI) vcl [(ds, .inr (0, [.ref dr, .ref sv])), (dr, .inr (2, [.ref rr, .int (nI len)])), (rr, .inl ((cT 0), 1000, .inl f))] s.heap := hP
  refine lv_aload_n hx hb d_DS_requireRoom_0 rfl (lv_at hl 0 rfl) ?_
  refine va_get (D := (dC, dI)) (ci := 0) (v := (.ref dr)) (C := R_DS) (T := F_DS) (N := 2) hx hb hg in_DS hown hK hP 0 rfl rfl 0 (by decide) (hg _ k_368) (fun _ h9 => h9) rfl d_DS_requireRoom_1 ?_
  refine va_get (D := (dC, dI)) (ci := 2) (v := (.int (nI len))) (C := R_Pk) (T := F_Pk) (N := 2) hx hb hg in_Pk hown hK hP 1 rfl rfl 1 (by decide) (hg _ k_59) (fun x9 h9 => u_same (hg _ k_53) x9 h9) rfl d_DS_requireRoom_4 ?_
  refine lv_iconst (v := 2) hx hb d_DS_requireRoom_7 (by decide) ?_
  refine lv_iadd hx hb d_DS_requireRoom_8 ?_
  refine lv_topi (fun x2 e1 => ?_)
  obtain rfl : x2 = nI (len + 2) := by rw [e1]; exact nI_add len 2
  refine lv_iload_n hx hb d_DS_requireRoom_9 rfl (lv_at hl 1 rfl) ?_
  refine lv_iadd hx hb d_DS_requireRoom_10 ?_
  refine lv_topi (fun x4 e3 => ?_)
  obtain rfl : x4 = nI (len + 2 + k) := by rw [e3]; exact nI_add _ k
  refine lv_sipush (v := 1000) hx hb d_DS_requireRoom_11 (by decide) ?_
  refine lv_icmp_le (tgt := 25) hx hb d_DS_requireRoom_14 (by decide) (fun hn9 => absurd hn9 (nI_ge (a := 1000) hbad (by omega))) (fun hc5 => ?_)
  refine W.newc hx hb hown (hg _ k_504) (hg _ k_505) (hg _ k_18) rfl d_DS_requireRoom_17 (Nat.le_of_ble_eq_true rfl) (Nat.le_of_ble_eq_true rfl) (fun cC kC h1 h2 h3 h4 => ?_)
  refine W.eq (g2 := F0 m 20 ls [.ref s.heap.size]) rfl ?_
  refine lv_dup hx hb d_DS_requireRoom_20 rfl ?_
  exact xk_throw (names := ["java/lang/RuntimeException", "java/lang/Exception"]) hx hb htr hown (by decide +kernel) (by decide +kernel) (xs_atoms hg hT (hg _ k_513)) h1 h2 (by simp) (Nat.le_refl _) (hl.1.trans hml.symm) d_DS_requireRoom_21 d_DS_requireRoom_24 (hno _) (Nat.le_of_ble_eq_true rfl) (Nat.le_of_ble_eq_true rfl) hlocks
set_option maxHeartbeats 4000000 in
set_option maxRecDepth 100000 in
/-- put: no room -/
theorem x_put4 (l : Launch) (hfl : l.flags = pinnedFlags ++ [noTraceFlag]) (dC : Nat → ClassId) (dI : Nat → Nat → Nat) (cT : Nat → ClassId) (ds : Nat) (dr : Nat) (sv : Nat) (rr : Nat) (len : Nat) (f : Nat → Int32) (x : Int32) (k : Nat) (z : Int32) (hlen : len ≤ 1000) (hx1 : ¬ x < 0) (hx2 : ¬ 255 < x) (hz1 : ¬ z < 0) (hz2 : ¬ 255 < z) (hk : k ≤ 100) (hbad : 1000 < len + 2 + k) : xk_T l y_DS_put (Cond.code y_DS_put b_DS_put 5 (Option.some Jvm.ClassFile.FieldType.int) :: BIG) ({ frames := 9, cells := 1, slots := 6, locals := 150 }) (va_Pc [.ref ds, .int x, .int (nI k), .int z] (fun U => xs_T (fun _ => False) U U.heap ∧ va_P (dC, dI) vcl [(ds, .inr (0, [.ref dr, .ref sv])), (dr, .inr (2, [.ref rr, .int (nI len)])), (rr, .inl ((cT 0), 1000, .inl f))] U.heap ∧ va_D (fun _ => True) [(ds, .inr (0, [.ref dr, .ref sv])), (dr, .inr (2, [.ref rr, .int (nI len)])), (rr, .inl ((cT 0), 1000, .inl f))] ∧ va_K (dC, dI) vcl (tyL cT) U)) xs_IS := by
  refine xk_T.ofW (cc := b_DS_put) (maxL := 5) (ret := (Option.some Jvm.ClassFile.FieldType.int)) (by decide) rfl ?_
  intro p e s m args below meth c s₁ B hml hv hno
  obtain ⟨hargs, hT, hP, hDD, hK⟩ := hv
  have hx := B.exec
  have hb := B.bytes
  have hts := atoms_spec (ws := (Cond.code y_DS_put b_DS_put 5 (Option.some Jvm.ClassFile.FieldType.int) :: BIG)) B.pre
  have hg : ∀ w ∈ BIG, w.before _ s = true := fun w h => hts w (List.mem_cons_of_mem _ h)
  have hown : s.vm.findClass "DoorServer" = some m.cls := findClass_of_methodNamed B.named
  have hlocks := B.notSynchronized
  have htr := Launch.traces_off hfl B.admits
  obtain ⟨A, hAe⟩ : ∃ A : Nat → Prop, A = fun q => s.heap.size ≤ q := ⟨_, rfl⟩
  have hA : ∀ q : Nat, s.heap.size ≤ q → A q := fun q h => by rw [hAe]; exact h
  have hS : va_S A s.heap s.heap [] := va_S.rf
  have hD : va_D A [] := ⟨fun i j p q h => by simp at h, fun k q h => by simp at h⟩
  have hl := lv_entry ([.ref ds, .int x, .int (nI k), .int z]) (n := 5) (Nat.le_of_ble_eq_true rfl)
  refine W.eq (g2 := entryFrame m (List.toArray [.ref ds, .int x, .int (nI k), .int z]) 5) (by rw [hargs]) ?_
  rw [lg_entry_eq]
  generalize (lg_sl ([.ref ds, .int x, .int (nI k), .int z]) ++ List.replicate (5 - (lg_sl ([.ref ds, .int x, .int (nI k), .int z])).length) Slot.unset).toArray = ls at hl ⊢
  have hl : lv_has ls 5 [(0, .ref ds), (1, .int x), (2, .int (nI k)), (3, .int z)] := hl
  change W p l e ({ frames := 9, cells := 1, slots := 6, locals := 150 } : Room) s m args below meth c s.heap [] 0 0 _ _
  have hP : va_P (dC, dI) vcl [(ds, .inr (0, [.ref dr, .ref sv])), (dr, .inr (2, [.ref rr, .int (nI len)])), (rr, .inl ((cT 0), 1000, .inl f))] s.heap := hP
  have hP0 := hP
  refine lv_iload_n hx hb d_DS_put_0 rfl (lv_at hl 1 rfl) ?_
  have hP := hP.sub (ws' := []) [] rfl
  have hPc := hP.sub (ws' := []) [] rfl
  have hDc := hD.sub (ws' := []) [] (by decide) rfl
  have hFc := va_free (wc := []) hD hS hA [] rfl
  refine va_callv (va_runS (As := [.int x]) (rest := []) ⟨hx, hb, hml, hown, hg⟩ (c_requireByte l dC dI cT s.heap.size x (hx1) (hx2)) (va_cwS 1 hg (gI (List.forall_mem_append.mpr ⟨List.forall_mem_cons.mpr ⟨k_489, List.forall_mem_cons.mpr ⟨k_490, List.forall_mem_cons.mpr ⟨k_1, fun _ h => absurd h List.not_mem_nil⟩⟩⟩, List.forall_mem_cons.mpr ⟨k_491, fun _ h => h⟩⟩)) rfl rfl rfl (by decide +kernel) ⟨Nat.le_of_ble_eq_true rfl, Nat.le_of_ble_eq_true rfl⟩) ⟨fun a U g mk q => by obtain ⟨q0, q1, qP, qK, qD⟩ := q; exact ⟨q0, q1, qP, va_K.moved (u := U) (U := U.calling g mk a) (Vm.Alike.refl U.vm) qK, qD⟩, fun U hU hW => ⟨rfl, by rw [hU], by rw [hU]; exact hPc, va_K.moved hW.alike hK, hDc.weaken (fun _ _ _ _ => trivial)⟩⟩ rfl rfl hl.1 rfl (lv_room (Nat.le_of_ble_eq_true rfl)) d_DS_put_1 ⟨Nat.le_of_ble_eq_true rfl, Nat.le_of_ble_eq_true rfl⟩) hS (fun q _ h => hFc q h) hFc (fun u t H1 locs ht hvm hw hB hz1 hk1 hS => ?_)
  try dsimp only at hw hB
  obtain ⟨hP1, hK1, hD1⟩ := hB
  rw [ht] at hP1
  obtain ⟨hP, hD⟩ := va_join (wr := []) (w1 := []) hP hD [] [] rfl rfl (by decide) (by decide) hk1 hFc hP1 hD1
  have hw6 := hw
  clear hPc hDc hFc hz1 hk1 hP1 hK1 hD1
  generalize H1 = H at hP hS ⊢
  have hP : va_P (dC, dI) vcl [] H := hP
  have hD : va_D A [] := hD
  refine lv_iload_n hx hb d_DS_put_4 rfl (lv_at hl 3 rfl) ?_
  have hPc := hP.sub (ws' := []) [] rfl
  have hDc := hD.sub (ws' := []) [] (by decide) rfl
  have hFc := va_free (wc := []) hD hS hA [] rfl
  refine va_callv (va_runS (As := [.int z]) (rest := []) ⟨hx, hb, hml, hown, hg⟩ (c_requireByte l dC dI cT H.size z (hz1) (hz2)) (va_cwS 1 hg (gI (List.forall_mem_append.mpr ⟨List.forall_mem_cons.mpr ⟨k_489, List.forall_mem_cons.mpr ⟨k_490, List.forall_mem_cons.mpr ⟨k_1, fun _ h => absurd h List.not_mem_nil⟩⟩⟩, List.forall_mem_cons.mpr ⟨k_491, fun _ h => h⟩⟩)) rfl rfl rfl (by decide +kernel) ⟨Nat.le_of_ble_eq_true rfl, Nat.le_of_ble_eq_true rfl⟩) ⟨fun a U g mk q => by obtain ⟨q0, q1, qP, qK, qD⟩ := q; exact ⟨q0, q1, qP, va_K.moved (u := U) (U := U.calling g mk a) (Vm.Alike.refl U.vm) qK, qD⟩, fun U hU hW => ⟨rfl, by rw [hU], by rw [hU]; exact hPc, va_K.moved hW.alike hK, hDc.weaken (fun _ _ _ _ => trivial)⟩⟩ rfl rfl hl.1 rfl (lv_room (Nat.le_of_ble_eq_true rfl)) d_DS_put_5 ⟨Nat.le_of_ble_eq_true rfl, Nat.le_of_ble_eq_true rfl⟩) hS (fun q _ h => hFc q h) hFc (fun u t H1 locs ht hvm hw hB hz1 hk1 hS => ?_)
  try dsimp only at hw hB
  obtain ⟨hP1, hK1, hD1⟩ := hB
  rw [ht] at hP1
  obtain ⟨hP, hD⟩ := va_join (wr := []) (w1 := []) hP hD [] [] rfl rfl (by decide) (by decide) hk1 hFc hP1 hD1
  have hw7 := hw
  clear hPc hDc hFc hz1 hk1 hP1 hK1 hD1
  generalize H1 = H at hP hS ⊢
  have hP : va_P (dC, dI) vcl [] H := hP
  have hD : va_D A [] := hD
  refine lv_iload_n hx hb d_DS_put_8 rfl (lv_at hl 2 rfl) ?_
  refine lv_iconst (v := 0) hx hb d_DS_put_9 (by decide) ?_
  refine lv_bipush (v := 100) hx hb d_DS_put_10 (by decide) ?_
  have hPc := hP.sub (ws' := []) [] rfl
  have hDc := hD.sub (ws' := []) [] (by decide) rfl
  have hFc := va_free (wc := []) hD hS hA [] rfl
  refine va_callv (va_runS (As := [.int (nI k), .int 0, .int 100]) (rest := []) ⟨hx, hb, hml, hown, hg⟩ (c_requireWithin l dC dI cT H.size (nI k) 0 100 (nI_pos (by omega)) (nI_nlt (a := 100) hk (by decide))) (va_cwS 3 hg (gI (List.forall_mem_append.mpr ⟨List.forall_mem_cons.mpr ⟨k_390, List.forall_mem_cons.mpr ⟨k_391, List.forall_mem_cons.mpr ⟨k_1, fun _ h => absurd h List.not_mem_nil⟩⟩⟩, List.forall_mem_cons.mpr ⟨k_392, fun _ h => h⟩⟩)) rfl rfl rfl (by decide +kernel) ⟨Nat.le_of_ble_eq_true rfl, Nat.le_of_ble_eq_true rfl⟩) ⟨fun a U g mk q => by obtain ⟨q0, q1, qP, qK, qD⟩ := q; exact ⟨q0, q1, qP, va_K.moved (u := U) (U := U.calling g mk a) (Vm.Alike.refl U.vm) qK, qD⟩, fun U hU hW => ⟨rfl, by rw [hU], by rw [hU]; exact hPc, va_K.moved hW.alike hK, hDc.weaken (fun _ _ _ _ => trivial)⟩⟩ rfl rfl hl.1 rfl (lv_room (Nat.le_of_ble_eq_true rfl)) d_DS_put_12 ⟨Nat.le_of_ble_eq_true rfl, Nat.le_of_ble_eq_true rfl⟩) hS (fun q _ h => hFc q h) hFc (fun u t H1 locs ht hvm hw hB hz1 hk1 hS => ?_)
  try dsimp only at hw hB
  obtain ⟨hP1, hK1, hD1⟩ := hB
  rw [ht] at hP1
  obtain ⟨hP, hD⟩ := va_join (wr := []) (w1 := []) hP hD [] [] rfl rfl (by decide) (by decide) hk1 hFc hP1 hD1
  have hw8 := hw
  clear hPc hDc hFc hz1 hk1 hP1 hK1 hD1
  generalize H1 = H at hP hS ⊢
  have hP : va_P (dC, dI) vcl [] H := hP
  have hD : va_D A [] := hD
  refine lv_aload_n hx hb d_DS_put_15 rfl (lv_at hl 0 rfl) ?_
  refine lv_iload_n hx hb d_DS_put_16 rfl (lv_at hl 2 rfl) ?_
  have hP : va_P (dC, dI) vcl [(ds, .inr (0, [.ref dr, .ref sv])), (dr, .inr (2, [.ref rr, .int (nI len)])), (rr, .inl ((cT 0), 1000, .inl f))] H := hP0.kept (fun k q hk => hS.2.1 q.1 (hP0 k q hk).lt (by rw [hAe]; exact Nat.not_le.mpr (hP0 k q hk).lt))
  refine va_forget (fun q hq => by have h9 := hS.2.2 q hq; rw [hAe] at h9; exact h9) ?_
  have hPr := hP.sub (ws' := [(ds, .inr (0, [.ref dr, .ref sv])), (dr, .inr (2, [.ref rr, .int (nI len)])), (rr, .inl ((cT 0), 1000, .inl f))]) [0, 1, 2] rfl
  have hDr := hDD.sub (ws' := [(ds, .inr (0, [.ref dr, .ref sv])), (dr, .inr (2, [.ref rr, .int (nI len)])), (rr, .inl ((cT 0), 1000, .inl f))]) [0, 1, 2] (by decide) rfl
  refine xk_callV (C := "DoorServer") (As := [.int (nI k)]) (rest := []) ⟨hx, hb, hml, hown, hg⟩ (x_room l hfl dC dI cT ds dr sv rr len f k (by omega) (by omega) (by omega)) (cwV 1 hg (gI (List.forall_mem_append.mpr ⟨List.forall_mem_cons.mpr ⟨k_500, List.forall_mem_cons.mpr ⟨k_502, List.forall_mem_cons.mpr ⟨(big_sel (q := y_DS_requireRoom) (n := 2) (by decide +kernel)), List.forall_mem_cons.mpr ⟨k_1, fun _ h => absurd h List.not_mem_nil⟩⟩⟩⟩, List.forall_mem_cons.mpr ⟨k_503, fun _ h => h⟩⟩)) rfl rfl rfl (by decide +kernel) ⟨Nat.le_of_ble_eq_true rfl, Nat.le_of_ble_eq_true rfl⟩) ⟨fun a U g mk q => ?_, va_recv (q0 := 0) (ci := 0) hK hP rfl rfl, fun U hU hW => ⟨rfl, ?_, ?_, hDr, va_K.moved hW.alike hK⟩⟩ rfl hl.1 rfl (Nat.le_of_ble_eq_true rfl) d_DS_put_17 ⟨Nat.le_of_ble_eq_true rfl, Nat.le_of_ble_eq_true rfl⟩ (xk_out2 (hno _) hlocks hS.1)
  · obtain ⟨q0, q1, q2, q3, q4⟩ := q
    exact ⟨q0, q1.at (State.WarmedH.refl _) (fun _ _ _ => rfl) (fun _ h => h), q2, q3, va_K.moved (Vm.Alike.refl U.vm) q4⟩
  · show xs_T _ U U.heap; rw [hU]; exact hT.at hW (fun a h1 _ => hS.2.1 a h1 (by rw [hAe]; exact Nat.not_le.mpr h1)) (fun _ h => h)
  · show va_P _ _ _ U.heap; rw [hU]; exact hPr
set_option maxHeartbeats 4000000 in
set_option maxRecDepth 100000 in
/-- number: no room -/
theorem x_number2 (l : Launch) (hfl : l.flags = pinnedFlags ++ [noTraceFlag]) (dC : Nat → ClassId) (dI : Nat → Nat → Nat) (cT : Nat → ClassId) (ds : Nat) (dr : Nat) (sv : Nat) (rr : Nat) (len : Nat) (f : Nat → Int32) (x : Int32) (y : Int32) (hlen : len ≤ 1000) (hx1 : ¬ x < 0) (hx2 : ¬ 255 < x) (hbad : 1000 < len + 2 + 4) : xk_T l y_DS_number (Cond.code y_DS_number b_DS_number 3 (Option.some Jvm.ClassFile.FieldType.int) :: BIG) ({ frames := 9, cells := 1, slots := 6, locals := 150 }) (va_Pc [.ref ds, .int x, .int y] (fun U => xs_T (fun _ => False) U U.heap ∧ va_P (dC, dI) vcl [(ds, .inr (0, [.ref dr, .ref sv])), (dr, .inr (2, [.ref rr, .int (nI len)])), (rr, .inl ((cT 0), 1000, .inl f))] U.heap ∧ va_D (fun _ => True) [(ds, .inr (0, [.ref dr, .ref sv])), (dr, .inr (2, [.ref rr, .int (nI len)])), (rr, .inl ((cT 0), 1000, .inl f))] ∧ va_K (dC, dI) vcl (tyL cT) U)) xs_IS := by
  refine xk_T.ofW (cc := b_DS_number) (maxL := 3) (ret := (Option.some Jvm.ClassFile.FieldType.int)) (by decide) rfl ?_
  intro p e s m args below meth c s₁ B hml hv hno
  obtain ⟨hargs, hT, hP, hDD, hK⟩ := hv
  have hx := B.exec
  have hb := B.bytes
  have hts := atoms_spec (ws := (Cond.code y_DS_number b_DS_number 3 (Option.some Jvm.ClassFile.FieldType.int) :: BIG)) B.pre
  have hg : ∀ w ∈ BIG, w.before _ s = true := fun w h => hts w (List.mem_cons_of_mem _ h)
  have hown : s.vm.findClass "DoorServer" = some m.cls := findClass_of_methodNamed B.named
  have hlocks := B.notSynchronized
  have htr := Launch.traces_off hfl B.admits
  obtain ⟨A, hAe⟩ : ∃ A : Nat → Prop, A = fun q => s.heap.size ≤ q := ⟨_, rfl⟩
  have hA : ∀ q : Nat, s.heap.size ≤ q → A q := fun q h => by rw [hAe]; exact h
  have hS : va_S A s.heap s.heap [] := va_S.rf
  have hD : va_D A [] := ⟨fun i j p q h => by simp at h, fun k q h => by simp at h⟩
  have hl := lv_entry ([.ref ds, .int x, .int y]) (n := 3) (Nat.le_of_ble_eq_true rfl)
  refine W.eq (g2 := entryFrame m (List.toArray [.ref ds, .int x, .int y]) 3) (by rw [hargs]) ?_
  rw [lg_entry_eq]
  generalize (lg_sl ([.ref ds, .int x, .int y]) ++ List.replicate (3 - (lg_sl ([.ref ds, .int x, .int y])).length) Slot.unset).toArray = ls at hl ⊢
  have hl : lv_has ls 3 [(0, .ref ds), (1, .int x), (2, .int y)] := hl
  change W p l e ({ frames := 9, cells := 1, slots := 6, locals := 150 } : Room) s m args below meth c s.heap [] 0 0 _ _
  have hP : va_P (dC, dI) vcl [(ds, .inr (0, [.ref dr, .ref sv])), (dr, .inr (2, [.ref rr, .int (nI len)])), (rr, .inl ((cT 0), 1000, .inl f))] s.heap := hP
  have hP0 := hP
  refine lv_iload_n hx hb d_DS_number_0 rfl (lv_at hl 1 rfl) ?_
  have hP := hP.sub (ws' := []) [] rfl
  have hPc := hP.sub (ws' := []) [] rfl
  have hDc := hD.sub (ws' := []) [] (by decide) rfl
  have hFc := va_free (wc := []) hD hS hA [] rfl
  refine va_callv (va_runS (As := [.int x]) (rest := []) ⟨hx, hb, hml, hown, hg⟩ (c_requireByte l dC dI cT s.heap.size x (hx1) (hx2)) (va_cwS 1 hg (gI (List.forall_mem_append.mpr ⟨List.forall_mem_cons.mpr ⟨k_489, List.forall_mem_cons.mpr ⟨k_490, List.forall_mem_cons.mpr ⟨k_1, fun _ h => absurd h List.not_mem_nil⟩⟩⟩, List.forall_mem_cons.mpr ⟨k_491, fun _ h => h⟩⟩)) rfl rfl rfl (by decide +kernel) ⟨Nat.le_of_ble_eq_true rfl, Nat.le_of_ble_eq_true rfl⟩) ⟨fun a U g mk q => by obtain ⟨q0, q1, qP, qK, qD⟩ := q; exact ⟨q0, q1, qP, va_K.moved (u := U) (U := U.calling g mk a) (Vm.Alike.refl U.vm) qK, qD⟩, fun U hU hW => ⟨rfl, by rw [hU], by rw [hU]; exact hPc, va_K.moved hW.alike hK, hDc.weaken (fun _ _ _ _ => trivial)⟩⟩ rfl rfl hl.1 rfl (lv_room (Nat.le_of_ble_eq_true rfl)) d_DS_number_1 ⟨Nat.le_of_ble_eq_true rfl, Nat.le_of_ble_eq_true rfl⟩) hS (fun q _ h => hFc q h) hFc (fun u t H1 locs ht hvm hw hB hz1 hk1 hS => ?_)
  try dsimp only at hw hB
  obtain ⟨hP1, hK1, hD1⟩ := hB
  rw [ht] at hP1
  obtain ⟨hP, hD⟩ := va_join (wr := []) (w1 := []) hP hD [] [] rfl rfl (by decide) (by decide) hk1 hFc hP1 hD1
  have hw9 := hw
  clear hPc hDc hFc hz1 hk1 hP1 hK1 hD1
  generalize H1 = H at hP hS ⊢
  have hP : va_P (dC, dI) vcl [] H := hP
  have hD : va_D A [] := hD
  refine lv_aload_n hx hb d_DS_number_4 rfl (lv_at hl 0 rfl) ?_
  refine lv_iconst (v := 4) hx hb d_DS_number_5 (by decide) ?_
  refine lv_topi (fun x11 e10 => ?_)
  obtain rfl : x11 = nI 4 := by rw [e10]; rfl
  have hP : va_P (dC, dI) vcl [(ds, .inr (0, [.ref dr, .ref sv])), (dr, .inr (2, [.ref rr, .int (nI len)])), (rr, .inl ((cT 0), 1000, .inl f))] H := hP0.kept (fun k q hk => hS.2.1 q.1 (hP0 k q hk).lt (by rw [hAe]; exact Nat.not_le.mpr (hP0 k q hk).lt))
  refine va_forget (fun q hq => by have h9 := hS.2.2 q hq; rw [hAe] at h9; exact h9) ?_
  have hPr := hP.sub (ws' := [(ds, .inr (0, [.ref dr, .ref sv])), (dr, .inr (2, [.ref rr, .int (nI len)])), (rr, .inl ((cT 0), 1000, .inl f))]) [0, 1, 2] rfl
  have hDr := hDD.sub (ws' := [(ds, .inr (0, [.ref dr, .ref sv])), (dr, .inr (2, [.ref rr, .int (nI len)])), (rr, .inl ((cT 0), 1000, .inl f))]) [0, 1, 2] (by decide) rfl
  refine xk_callV (C := "DoorServer") (As := [.int (nI 4)]) (rest := []) ⟨hx, hb, hml, hown, hg⟩ (x_room l hfl dC dI cT ds dr sv rr len f 4 (by omega) (by omega) (by omega)) (cwV 1 hg (gI (List.forall_mem_append.mpr ⟨List.forall_mem_cons.mpr ⟨k_500, List.forall_mem_cons.mpr ⟨k_502, List.forall_mem_cons.mpr ⟨(big_sel (q := y_DS_requireRoom) (n := 2) (by decide +kernel)), List.forall_mem_cons.mpr ⟨k_1, fun _ h => absurd h List.not_mem_nil⟩⟩⟩⟩, List.forall_mem_cons.mpr ⟨k_503, fun _ h => h⟩⟩)) rfl rfl rfl (by decide +kernel) ⟨Nat.le_of_ble_eq_true rfl, Nat.le_of_ble_eq_true rfl⟩) ⟨fun a U g mk q => ?_, va_recv (q0 := 0) (ci := 0) hK hP rfl rfl, fun U hU hW => ⟨rfl, ?_, ?_, hDr, va_K.moved hW.alike hK⟩⟩ rfl hl.1 rfl (Nat.le_of_ble_eq_true rfl) d_DS_number_6 ⟨Nat.le_of_ble_eq_true rfl, Nat.le_of_ble_eq_true rfl⟩ (xk_out2 (hno _) hlocks hS.1)
  · obtain ⟨q0, q1, q2, q3, q4⟩ := q
    exact ⟨q0, q1.at (State.WarmedH.refl _) (fun _ _ _ => rfl) (fun _ h => h), q2, q3, va_K.moved (Vm.Alike.refl U.vm) q4⟩
  · show xs_T _ U U.heap; rw [hU]; exact hT.at hW (fun a h1 _ => hS.2.1 a h1 (by rw [hAe]; exact Nat.not_le.mpr h1)) (fun _ h => h)
  · show va_P _ _ _ U.heap; rw [hU]; exact hPr
set_option maxHeartbeats 4000000 in
set_option maxRecDepth 100000 in
/-- name: no room -/
theorem x_name2 (l : Launch) (hfl : l.flags = pinnedFlags ++ [noTraceFlag]) (dC : Nat → ClassId) (dI : Nat → Nat → Nat) (cT : Nat → ClassId) (ds : Nat) (dr : Nat) (sv : Nat) (rr : Nat) (len : Nat) (f : Nat → Int32) (x : Int32) (hlen : len ≤ 1000) (hx1 : ¬ x < 0) (hx2 : ¬ 31 < x) (hbad : 1000 < len + 2 + 3) : xk_T l y_DS_name (Cond.code y_DS_name b_DS_name 2 (Option.some Jvm.ClassFile.FieldType.int) :: BIG) ({ frames := 9, cells := 1, slots := 6, locals := 150 }) (va_Pc [.ref ds, .int x] (fun U => xs_T (fun _ => False) U U.heap ∧ va_P (dC, dI) vcl [(ds, .inr (0, [.ref dr, .ref sv])), (dr, .inr (2, [.ref rr, .int (nI len)])), (rr, .inl ((cT 0), 1000, .inl f))] U.heap ∧ va_D (fun _ => True) [(ds, .inr (0, [.ref dr, .ref sv])), (dr, .inr (2, [.ref rr, .int (nI len)])), (rr, .inl ((cT 0), 1000, .inl f))] ∧ va_K (dC, dI) vcl (tyL cT) U)) xs_IS := by
  refine xk_T.ofW (cc := b_DS_name) (maxL := 2) (ret := (Option.some Jvm.ClassFile.FieldType.int)) (by decide) rfl ?_
  intro p e s m args below meth c s₁ B hml hv hno
  obtain ⟨hargs, hT, hP, hDD, hK⟩ := hv
  have hx := B.exec
  have hb := B.bytes
  have hts := atoms_spec (ws := (Cond.code y_DS_name b_DS_name 2 (Option.some Jvm.ClassFile.FieldType.int) :: BIG)) B.pre
  have hg : ∀ w ∈ BIG, w.before _ s = true := fun w h => hts w (List.mem_cons_of_mem _ h)
  have hown : s.vm.findClass "DoorServer" = some m.cls := findClass_of_methodNamed B.named
  have hlocks := B.notSynchronized
  have htr := Launch.traces_off hfl B.admits
  obtain ⟨A, hAe⟩ : ∃ A : Nat → Prop, A = fun q => s.heap.size ≤ q := ⟨_, rfl⟩
  have hA : ∀ q : Nat, s.heap.size ≤ q → A q := fun q h => by rw [hAe]; exact h
  have hS : va_S A s.heap s.heap [] := va_S.rf
  have hD : va_D A [] := ⟨fun i j p q h => by simp at h, fun k q h => by simp at h⟩
  have hl := lv_entry ([.ref ds, .int x]) (n := 2) (Nat.le_of_ble_eq_true rfl)
  refine W.eq (g2 := entryFrame m (List.toArray [.ref ds, .int x]) 2) (by rw [hargs]) ?_
  rw [lg_entry_eq]
  generalize (lg_sl ([.ref ds, .int x]) ++ List.replicate (2 - (lg_sl ([.ref ds, .int x])).length) Slot.unset).toArray = ls at hl ⊢
  have hl : lv_has ls 2 [(0, .ref ds), (1, .int x)] := hl
  change W p l e ({ frames := 9, cells := 1, slots := 6, locals := 150 } : Room) s m args below meth c s.heap [] 0 0 _ _
  have hP : va_P (dC, dI) vcl [(ds, .inr (0, [.ref dr, .ref sv])), (dr, .inr (2, [.ref rr, .int (nI len)])), (rr, .inl ((cT 0), 1000, .inl f))] s.heap := hP
  have hP0 := hP
  refine lv_iload_n hx hb d_DS_name_0 rfl (lv_at hl 1 rfl) ?_
  have hP := hP.sub (ws' := []) [] rfl
  have hPc := hP.sub (ws' := []) [] rfl
  have hDc := hD.sub (ws' := []) [] (by decide) rfl
  have hFc := va_free (wc := []) hD hS hA [] rfl
  refine va_callv (va_runS (As := [.int x]) (rest := []) ⟨hx, hb, hml, hown, hg⟩ (c_requireUser l dC dI cT s.heap.size x (hx1) (hx2)) (va_cwS 1 hg (gI (List.forall_mem_append.mpr ⟨List.forall_mem_cons.mpr ⟨k_475, List.forall_mem_cons.mpr ⟨k_476, List.forall_mem_cons.mpr ⟨k_1, fun _ h => absurd h List.not_mem_nil⟩⟩⟩, List.forall_mem_cons.mpr ⟨k_477, fun _ h => h⟩⟩)) rfl rfl rfl (by decide +kernel) ⟨Nat.le_of_ble_eq_true rfl, Nat.le_of_ble_eq_true rfl⟩) ⟨fun a U g mk q => by obtain ⟨q0, q1, qP, qK, qD⟩ := q; exact ⟨q0, q1, qP, va_K.moved (u := U) (U := U.calling g mk a) (Vm.Alike.refl U.vm) qK, qD⟩, fun U hU hW => ⟨rfl, by rw [hU], by rw [hU]; exact hPc, va_K.moved hW.alike hK, hDc.weaken (fun _ _ _ _ => trivial)⟩⟩ rfl rfl hl.1 rfl (lv_room (Nat.le_of_ble_eq_true rfl)) d_DS_name_1 ⟨Nat.le_of_ble_eq_true rfl, Nat.le_of_ble_eq_true rfl⟩) hS (fun q _ h => hFc q h) hFc (fun u t H1 locs ht hvm hw hB hz1 hk1 hS => ?_)
  try dsimp only at hw hB
  obtain ⟨hP1, hK1, hD1⟩ := hB
  rw [ht] at hP1
  obtain ⟨hP, hD⟩ := va_join (wr := []) (w1 := []) hP hD [] [] rfl rfl (by decide) (by decide) hk1 hFc hP1 hD1
  have hw12 := hw
  clear hPc hDc hFc hz1 hk1 hP1 hK1 hD1
  generalize H1 = H at hP hS ⊢
  have hP : va_P (dC, dI) vcl [] H := hP
  have hD : va_D A [] := hD
  refine lv_aload_n hx hb d_DS_name_4 rfl (lv_at hl 0 rfl) ?_
  refine lv_iconst (v := 3) hx hb d_DS_name_5 (by decide) ?_
  refine lv_topi (fun x14 e13 => ?_)
  obtain rfl : x14 = nI 3 := by rw [e13]; rfl
  have hP : va_P (dC, dI) vcl [(ds, .inr (0, [.ref dr, .ref sv])), (dr, .inr (2, [.ref rr, .int (nI len)])), (rr, .inl ((cT 0), 1000, .inl f))] H := hP0.kept (fun k q hk => hS.2.1 q.1 (hP0 k q hk).lt (by rw [hAe]; exact Nat.not_le.mpr (hP0 k q hk).lt))
  refine va_forget (fun q hq => by have h9 := hS.2.2 q hq; rw [hAe] at h9; exact h9) ?_
  have hPr := hP.sub (ws' := [(ds, .inr (0, [.ref dr, .ref sv])), (dr, .inr (2, [.ref rr, .int (nI len)])), (rr, .inl ((cT 0), 1000, .inl f))]) [0, 1, 2] rfl
  have hDr := hDD.sub (ws' := [(ds, .inr (0, [.ref dr, .ref sv])), (dr, .inr (2, [.ref rr, .int (nI len)])), (rr, .inl ((cT 0), 1000, .inl f))]) [0, 1, 2] (by decide) rfl
  refine xk_callV (C := "DoorServer") (As := [.int (nI 3)]) (rest := []) ⟨hx, hb, hml, hown, hg⟩ (x_room l hfl dC dI cT ds dr sv rr len f 3 (by omega) (by omega) (by omega)) (cwV 1 hg (gI (List.forall_mem_append.mpr ⟨List.forall_mem_cons.mpr ⟨k_500, List.forall_mem_cons.mpr ⟨k_502, List.forall_mem_cons.mpr ⟨(big_sel (q := y_DS_requireRoom) (n := 2) (by decide +kernel)), List.forall_mem_cons.mpr ⟨k_1, fun _ h => absurd h List.not_mem_nil⟩⟩⟩⟩, List.forall_mem_cons.mpr ⟨k_503, fun _ h => h⟩⟩)) rfl rfl rfl (by decide +kernel) ⟨Nat.le_of_ble_eq_true rfl, Nat.le_of_ble_eq_true rfl⟩) ⟨fun a U g mk q => ?_, va_recv (q0 := 0) (ci := 0) hK hP rfl rfl, fun U hU hW => ⟨rfl, ?_, ?_, hDr, va_K.moved hW.alike hK⟩⟩ rfl hl.1 rfl (Nat.le_of_ble_eq_true rfl) d_DS_name_6 ⟨Nat.le_of_ble_eq_true rfl, Nat.le_of_ble_eq_true rfl⟩ (xk_out2 (hno _) hlocks hS.1)
  · obtain ⟨q0, q1, q2, q3, q4⟩ := q
    exact ⟨q0, q1.at (State.WarmedH.refl _) (fun _ _ _ => rfl) (fun _ h => h), q2, q3, va_K.moved (Vm.Alike.refl U.vm) q4⟩
  · show xs_T _ U U.heap; rw [hU]; exact hT.at hW (fun a h1 _ => hS.2.1 a h1 (by rw [hAe]; exact Nat.not_le.mpr h1)) (fun _ h => h)
  · show va_P _ _ _ U.heap; rw [hU]; exact hPr
set_option maxHeartbeats 4000000 in
set_option maxRecDepth 100000 in
/-- hello: no room -/
theorem x_hello2 (l : Launch) (hfl : l.flags = pinnedFlags ++ [noTraceFlag]) (dC : Nat → ClassId) (dI : Nat → Nat → Nat) (cT : Nat → ClassId) (ds : Nat) (dr : Nat) (sv : Nat) (rr : Nat) (len : Nat) (f : Nat → Int32) (x : Int32) (hlen : len ≤ 1000) (hx1 : ¬ x < 0) (hx2 : ¬ 255 < x) (hbad : 1000 < len + 2 + 5) : xk_T l y_DS_hello (Cond.code y_DS_hello b_DS_hello 2 (Option.some Jvm.ClassFile.FieldType.int) :: BIG) ({ frames := 9, cells := 1, slots := 6, locals := 150 }) (va_Pc [.ref ds, .int x] (fun U => xs_T (fun _ => False) U U.heap ∧ va_P (dC, dI) vcl [(ds, .inr (0, [.ref dr, .ref sv])), (dr, .inr (2, [.ref rr, .int (nI len)])), (rr, .inl ((cT 0), 1000, .inl f))] U.heap ∧ va_D (fun _ => True) [(ds, .inr (0, [.ref dr, .ref sv])), (dr, .inr (2, [.ref rr, .int (nI len)])), (rr, .inl ((cT 0), 1000, .inl f))] ∧ va_K (dC, dI) vcl (tyL cT) U)) xs_IS := by
  refine xk_T.ofW (cc := b_DS_hello) (maxL := 2) (ret := (Option.some Jvm.ClassFile.FieldType.int)) (by decide) rfl ?_
  intro p e s m args below meth c s₁ B hml hv hno
  obtain ⟨hargs, hT, hP, hDD, hK⟩ := hv
  have hx := B.exec
  have hb := B.bytes
  have hts := atoms_spec (ws := (Cond.code y_DS_hello b_DS_hello 2 (Option.some Jvm.ClassFile.FieldType.int) :: BIG)) B.pre
  have hg : ∀ w ∈ BIG, w.before _ s = true := fun w h => hts w (List.mem_cons_of_mem _ h)
  have hown : s.vm.findClass "DoorServer" = some m.cls := findClass_of_methodNamed B.named
  have hlocks := B.notSynchronized
  have htr := Launch.traces_off hfl B.admits
  obtain ⟨A, hAe⟩ : ∃ A : Nat → Prop, A = fun q => s.heap.size ≤ q := ⟨_, rfl⟩
  have hA : ∀ q : Nat, s.heap.size ≤ q → A q := fun q h => by rw [hAe]; exact h
  have hS : va_S A s.heap s.heap [] := va_S.rf
  have hD : va_D A [] := ⟨fun i j p q h => by simp at h, fun k q h => by simp at h⟩
  have hl := lv_entry ([.ref ds, .int x]) (n := 2) (Nat.le_of_ble_eq_true rfl)
  refine W.eq (g2 := entryFrame m (List.toArray [.ref ds, .int x]) 2) (by rw [hargs]) ?_
  rw [lg_entry_eq]
  generalize (lg_sl ([.ref ds, .int x]) ++ List.replicate (2 - (lg_sl ([.ref ds, .int x])).length) Slot.unset).toArray = ls at hl ⊢
  have hl : lv_has ls 2 [(0, .ref ds), (1, .int x)] := hl
  change W p l e ({ frames := 9, cells := 1, slots := 6, locals := 150 } : Room) s m args below meth c s.heap [] 0 0 _ _
  have hP : va_P (dC, dI) vcl [(ds, .inr (0, [.ref dr, .ref sv])), (dr, .inr (2, [.ref rr, .int (nI len)])), (rr, .inl ((cT 0), 1000, .inl f))] s.heap := hP
  have hP0 := hP
  refine lv_iload_n hx hb d_DS_hello_0 rfl (lv_at hl 1 rfl) ?_
  have hP := hP.sub (ws' := []) [] rfl
  have hPc := hP.sub (ws' := []) [] rfl
  have hDc := hD.sub (ws' := []) [] (by decide) rfl
  have hFc := va_free (wc := []) hD hS hA [] rfl
  refine va_callv (va_runS (As := [.int x]) (rest := []) ⟨hx, hb, hml, hown, hg⟩ (c_requireByte l dC dI cT s.heap.size x (hx1) (hx2)) (va_cwS 1 hg (gI (List.forall_mem_append.mpr ⟨List.forall_mem_cons.mpr ⟨k_489, List.forall_mem_cons.mpr ⟨k_490, List.forall_mem_cons.mpr ⟨k_1, fun _ h => absurd h List.not_mem_nil⟩⟩⟩, List.forall_mem_cons.mpr ⟨k_491, fun _ h => h⟩⟩)) rfl rfl rfl (by decide +kernel) ⟨Nat.le_of_ble_eq_true rfl, Nat.le_of_ble_eq_true rfl⟩) ⟨fun a U g mk q => by obtain ⟨q0, q1, qP, qK, qD⟩ := q; exact ⟨q0, q1, qP, va_K.moved (u := U) (U := U.calling g mk a) (Vm.Alike.refl U.vm) qK, qD⟩, fun U hU hW => ⟨rfl, by rw [hU], by rw [hU]; exact hPc, va_K.moved hW.alike hK, hDc.weaken (fun _ _ _ _ => trivial)⟩⟩ rfl rfl hl.1 rfl (lv_room (Nat.le_of_ble_eq_true rfl)) d_DS_hello_1 ⟨Nat.le_of_ble_eq_true rfl, Nat.le_of_ble_eq_true rfl⟩) hS (fun q _ h => hFc q h) hFc (fun u t H1 locs ht hvm hw hB hz1 hk1 hS => ?_)
  try dsimp only at hw hB
  obtain ⟨hP1, hK1, hD1⟩ := hB
  rw [ht] at hP1
  obtain ⟨hP, hD⟩ := va_join (wr := []) (w1 := []) hP hD [] [] rfl rfl (by decide) (by decide) hk1 hFc hP1 hD1
  have hw15 := hw
  clear hPc hDc hFc hz1 hk1 hP1 hK1 hD1
  generalize H1 = H at hP hS ⊢
  have hP : va_P (dC, dI) vcl [] H := hP
  have hD : va_D A [] := hD
  refine lv_aload_n hx hb d_DS_hello_4 rfl (lv_at hl 0 rfl) ?_
  refine lv_iconst (v := 5) hx hb d_DS_hello_5 (by decide) ?_
  refine lv_topi (fun x17 e16 => ?_)
  obtain rfl : x17 = nI 5 := by rw [e16]; rfl
  have hP : va_P (dC, dI) vcl [(ds, .inr (0, [.ref dr, .ref sv])), (dr, .inr (2, [.ref rr, .int (nI len)])), (rr, .inl ((cT 0), 1000, .inl f))] H := hP0.kept (fun k q hk => hS.2.1 q.1 (hP0 k q hk).lt (by rw [hAe]; exact Nat.not_le.mpr (hP0 k q hk).lt))
  refine va_forget (fun q hq => by have h9 := hS.2.2 q hq; rw [hAe] at h9; exact h9) ?_
  have hPr := hP.sub (ws' := [(ds, .inr (0, [.ref dr, .ref sv])), (dr, .inr (2, [.ref rr, .int (nI len)])), (rr, .inl ((cT 0), 1000, .inl f))]) [0, 1, 2] rfl
  have hDr := hDD.sub (ws' := [(ds, .inr (0, [.ref dr, .ref sv])), (dr, .inr (2, [.ref rr, .int (nI len)])), (rr, .inl ((cT 0), 1000, .inl f))]) [0, 1, 2] (by decide) rfl
  refine xk_callV (C := "DoorServer") (As := [.int (nI 5)]) (rest := []) ⟨hx, hb, hml, hown, hg⟩ (x_room l hfl dC dI cT ds dr sv rr len f 5 (by omega) (by omega) (by omega)) (cwV 1 hg (gI (List.forall_mem_append.mpr ⟨List.forall_mem_cons.mpr ⟨k_500, List.forall_mem_cons.mpr ⟨k_502, List.forall_mem_cons.mpr ⟨(big_sel (q := y_DS_requireRoom) (n := 2) (by decide +kernel)), List.forall_mem_cons.mpr ⟨k_1, fun _ h => absurd h List.not_mem_nil⟩⟩⟩⟩, List.forall_mem_cons.mpr ⟨k_503, fun _ h => h⟩⟩)) rfl rfl rfl (by decide +kernel) ⟨Nat.le_of_ble_eq_true rfl, Nat.le_of_ble_eq_true rfl⟩) ⟨fun a U g mk q => ?_, va_recv (q0 := 0) (ci := 0) hK hP rfl rfl, fun U hU hW => ⟨rfl, ?_, ?_, hDr, va_K.moved hW.alike hK⟩⟩ rfl hl.1 rfl (Nat.le_of_ble_eq_true rfl) d_DS_hello_6 ⟨Nat.le_of_ble_eq_true rfl, Nat.le_of_ble_eq_true rfl⟩ (xk_out2 (hno _) hlocks hS.1)
  · obtain ⟨q0, q1, q2, q3, q4⟩ := q
    exact ⟨q0, q1.at (State.WarmedH.refl _) (fun _ _ _ => rfl) (fun _ h => h), q2, q3, va_K.moved (Vm.Alike.refl U.vm) q4⟩
  · show xs_T _ U U.heap; rw [hU]; exact hT.at hW (fun a h1 _ => hS.2.1 a h1 (by rw [hAe]; exact Nat.not_le.mpr h1)) (fun _ h => h)
  · show va_P _ _ _ U.heap; rw [hU]; exact hPr
set_option maxHeartbeats 4000000 in
set_option maxRecDepth 100000 in
/-- password: no room -/
theorem x_password3 (l : Launch) (hfl : l.flags = pinnedFlags ++ [noTraceFlag]) (dC : Nat → ClassId) (dI : Nat → Nat → Nat) (cT : Nat → ClassId) (ds : Nat) (dr : Nat) (sv : Nat) (rr : Nat) (len : Nat) (f : Nat → Int32) (x : Int32) (v : Int64) (k : Nat) (hlen : len ≤ 1000) (hx1 : ¬ x < 0) (hx2 : ¬ 3 < x) (hk1 : 1 ≤ k) (hk2 : k ≤ 60) (hbad : 1000 < len + 2 + (k + 15) / 16 * 16) : xk_T l y_DS_password (Cond.code y_DS_password b_DS_password 7 (Option.some Jvm.ClassFile.FieldType.int) :: BIG) ({ frames := 9, cells := 1, slots := 6, locals := 150 }) (va_Pc [.ref ds, .int x, .long v, .int (nI k)] (fun U => xs_T (fun _ => False) U U.heap ∧ va_P (dC, dI) vcl [(ds, .inr (0, [.ref dr, .ref sv])), (dr, .inr (2, [.ref rr, .int (nI len)])), (rr, .inl ((cT 0), 1000, .inl f))] U.heap ∧ va_D (fun _ => True) [(ds, .inr (0, [.ref dr, .ref sv])), (dr, .inr (2, [.ref rr, .int (nI len)])), (rr, .inl ((cT 0), 1000, .inl f))] ∧ va_K (dC, dI) vcl (tyL cT) U)) xs_IS := by
  refine xk_T.ofW (cc := b_DS_password) (maxL := 7) (ret := (Option.some Jvm.ClassFile.FieldType.int)) (by decide) rfl ?_
  intro p e s m args below meth c s₁ B hml hv hno
  obtain ⟨hargs, hT, hP, hDD, hK⟩ := hv
  have hx := B.exec
  have hb := B.bytes
  have hts := atoms_spec (ws := (Cond.code y_DS_password b_DS_password 7 (Option.some Jvm.ClassFile.FieldType.int) :: BIG)) B.pre
  have hg : ∀ w ∈ BIG, w.before _ s = true := fun w h => hts w (List.mem_cons_of_mem _ h)
  have hown : s.vm.findClass "DoorServer" = some m.cls := findClass_of_methodNamed B.named
  have hlocks := B.notSynchronized
  have htr := Launch.traces_off hfl B.admits
  obtain ⟨A, hAe⟩ : ∃ A : Nat → Prop, A = fun q => s.heap.size ≤ q := ⟨_, rfl⟩
  have hA : ∀ q : Nat, s.heap.size ≤ q → A q := fun q h => by rw [hAe]; exact h
  have hS : va_S A s.heap s.heap [] := va_S.rf
  have hD : va_D A [] := ⟨fun i j p q h => by simp at h, fun k q h => by simp at h⟩
  have hl := lv_entry ([.ref ds, .int x, .long v, .int (nI k)]) (n := 7) (Nat.le_of_ble_eq_true rfl)
  refine W.eq (g2 := entryFrame m (List.toArray [.ref ds, .int x, .long v, .int (nI k)]) 7) (by rw [hargs]) ?_
  rw [lg_entry_eq]
  generalize (lg_sl ([.ref ds, .int x, .long v, .int (nI k)]) ++ List.replicate (7 - (lg_sl ([.ref ds, .int x, .long v, .int (nI k)])).length) Slot.unset).toArray = ls at hl ⊢
  have hl : lv_has ls 7 [(0, .ref ds), (1, .int x), (2, .long v), (4, .int (nI k))] := hl
  change W p l e ({ frames := 9, cells := 1, slots := 6, locals := 150 } : Room) s m args below meth c s.heap [] 0 0 _ _
  have hP : va_P (dC, dI) vcl [(ds, .inr (0, [.ref dr, .ref sv])), (dr, .inr (2, [.ref rr, .int (nI len)])), (rr, .inl ((cT 0), 1000, .inl f))] s.heap := hP
  have hP0 := hP
  refine lv_iload_n hx hb d_DS_password_0 rfl (lv_at hl 1 rfl) ?_
  have hP := hP.sub (ws' := []) [] rfl
  have hPc := hP.sub (ws' := []) [] rfl
  have hDc := hD.sub (ws' := []) [] (by decide) rfl
  have hFc := va_free (wc := []) hD hS hA [] rfl
  refine va_callv (va_runS (As := [.int x]) (rest := []) ⟨hx, hb, hml, hown, hg⟩ (c_requireStation l dC dI cT s.heap.size x (hx1) (hx2)) (va_cwS 1 hg (gI (List.forall_mem_append.mpr ⟨List.forall_mem_cons.mpr ⟨k_387, List.forall_mem_cons.mpr ⟨k_388, List.forall_mem_cons.mpr ⟨k_1, fun _ h => absurd h List.not_mem_nil⟩⟩⟩, List.forall_mem_cons.mpr ⟨k_389, fun _ h => h⟩⟩)) rfl rfl rfl (by decide +kernel) ⟨Nat.le_of_ble_eq_true rfl, Nat.le_of_ble_eq_true rfl⟩) ⟨fun a U g mk q => by obtain ⟨q0, q1, qP, qK, qD⟩ := q; exact ⟨q0, q1, qP, va_K.moved (u := U) (U := U.calling g mk a) (Vm.Alike.refl U.vm) qK, qD⟩, fun U hU hW => ⟨rfl, by rw [hU], by rw [hU]; exact hPc, va_K.moved hW.alike hK, hDc.weaken (fun _ _ _ _ => trivial)⟩⟩ rfl rfl hl.1 rfl (lv_room (Nat.le_of_ble_eq_true rfl)) d_DS_password_1 ⟨Nat.le_of_ble_eq_true rfl, Nat.le_of_ble_eq_true rfl⟩) hS (fun q _ h => hFc q h) hFc (fun u t H1 locs ht hvm hw hB hz1 hk1 hS => ?_)
  try dsimp only at hw hB
  obtain ⟨hP1, hK1, hD1⟩ := hB
  rw [ht] at hP1
  obtain ⟨hP, hD⟩ := va_join (wr := []) (w1 := []) hP hD [] [] rfl rfl (by decide) (by decide) hk1 hFc hP1 hD1
  have hw18 := hw
  clear hPc hDc hFc hz1 hk1 hP1 hK1 hD1
  generalize H1 = H at hP hS ⊢
  have hP : va_P (dC, dI) vcl [] H := hP
  have hD : va_D A [] := hD
  refine lv_iload hx hb d_DS_password_4 (lv_at hl 3 rfl) ?_
  refine lv_iconst (v := 1) hx hb d_DS_password_6 (by decide) ?_
  refine lv_bipush (v := 60) hx hb d_DS_password_7 (by decide) ?_
  have hPc := hP.sub (ws' := []) [] rfl
  have hDc := hD.sub (ws' := []) [] (by decide) rfl
  have hFc := va_free (wc := []) hD hS hA [] rfl
  refine va_callv (va_runS (As := [.int (nI k), .int 1, .int 60]) (rest := []) ⟨hx, hb, hml, hown, hg⟩ (c_requireWithin l dC dI cT H.size (nI k) 1 60 (nI_nlt (b := 1) hk1 (by omega)) (nI_nlt (a := 60) hk2 (by decide))) (va_cwS 3 hg (gI (List.forall_mem_append.mpr ⟨List.forall_mem_cons.mpr ⟨k_390, List.forall_mem_cons.mpr ⟨k_391, List.forall_mem_cons.mpr ⟨k_1, fun _ h => absurd h List.not_mem_nil⟩⟩⟩, List.forall_mem_cons.mpr ⟨k_392, fun _ h => h⟩⟩)) rfl rfl rfl (by decide +kernel) ⟨Nat.le_of_ble_eq_true rfl, Nat.le_of_ble_eq_true rfl⟩) ⟨fun a U g mk q => by obtain ⟨q0, q1, qP, qK, qD⟩ := q; exact ⟨q0, q1, qP, va_K.moved (u := U) (U := U.calling g mk a) (Vm.Alike.refl U.vm) qK, qD⟩, fun U hU hW => ⟨rfl, by rw [hU], by rw [hU]; exact hPc, va_K.moved hW.alike hK, hDc.weaken (fun _ _ _ _ => trivial)⟩⟩ rfl rfl hl.1 rfl (lv_room (Nat.le_of_ble_eq_true rfl)) d_DS_password_9 ⟨Nat.le_of_ble_eq_true rfl, Nat.le_of_ble_eq_true rfl⟩) hS (fun q _ h => hFc q h) hFc (fun u t H1 locs ht hvm hw hB hz1 hk1 hS => ?_)
  try dsimp only at hw hB
  obtain ⟨hP1, hK1, hD1⟩ := hB
  rw [ht] at hP1
  obtain ⟨hP, hD⟩ := va_join (wr := []) (w1 := []) hP hD [] [] rfl rfl (by decide) (by decide) hk1 hFc hP1 hD1
  have hw19 := hw
  clear hPc hDc hFc hz1 hk1 hP1 hK1 hD1
  generalize H1 = H at hP hS ⊢
  have hP : va_P (dC, dI) vcl [] H := hP
  have hD : va_D A [] := hD
  refine lv_iload hx hb d_DS_password_12 (lv_at hl 3 rfl) ?_
  refine lv_bipush (v := 15) hx hb d_DS_password_14 (by decide) ?_
  refine lv_iadd hx hb d_DS_password_16 ?_
  refine lv_topi (fun x21 e20 => ?_)
  obtain rfl : x21 = nI (k + 15) := by rw [e20]; exact nI_add k 15
  refine lv_bipush (v := 16) hx hb d_DS_password_17 (by decide) ?_
  refine lv_idiv hx hb d_DS_password_19 (by decide) ?_
  refine lv_topi (fun x23 e22 => ?_)
  obtain rfl : x23 = nI ((k + 15) / 16) := by rw [e22]; exact pk_div (d := 16) (by omega) (by decide) (by decide)
  refine lv_bipush (v := 16) hx hb d_DS_password_20 (by decide) ?_
  refine lv_imul hx hb d_DS_password_22 ?_
  refine lv_topi (fun x25 e24 => ?_)
  obtain rfl : x25 = nI ((k + 15) / 16 * 16) := by rw [e24]; exact pk_mul _ 16
  refine lv_istore (lv' := [(5, .int (nI ((k + 15) / 16 * 16))), (0, .ref ds), (1, .int x), (2, .long v), (4, .int (nI k))]) hx hb d_DS_password_23 hl (by decide) rfl (fun ls hl => ?_)
  refine lv_aload_n hx hb d_DS_password_25 rfl (lv_at hl 1 rfl) ?_
  refine lv_iload hx hb d_DS_password_26 (lv_at hl 0 rfl) ?_
  have hP : va_P (dC, dI) vcl [(ds, .inr (0, [.ref dr, .ref sv])), (dr, .inr (2, [.ref rr, .int (nI len)])), (rr, .inl ((cT 0), 1000, .inl f))] H := hP0.kept (fun k q hk => hS.2.1 q.1 (hP0 k q hk).lt (by rw [hAe]; exact Nat.not_le.mpr (hP0 k q hk).lt))
  refine va_forget (fun q hq => by have h9 := hS.2.2 q hq; rw [hAe] at h9; exact h9) ?_
  have hPr := hP.sub (ws' := [(ds, .inr (0, [.ref dr, .ref sv])), (dr, .inr (2, [.ref rr, .int (nI len)])), (rr, .inl ((cT 0), 1000, .inl f))]) [0, 1, 2] rfl
  have hDr := hDD.sub (ws' := [(ds, .inr (0, [.ref dr, .ref sv])), (dr, .inr (2, [.ref rr, .int (nI len)])), (rr, .inl ((cT 0), 1000, .inl f))]) [0, 1, 2] (by decide) rfl
  refine xk_callV (C := "DoorServer") (As := [.int (nI ((k + 15) / 16 * 16))]) (rest := []) ⟨hx, hb, hml, hown, hg⟩ (x_room l hfl dC dI cT ds dr sv rr len f ((k + 15) / 16 * 16) (by omega) (by omega) (by omega)) (cwV 1 hg (gI (List.forall_mem_append.mpr ⟨List.forall_mem_cons.mpr ⟨k_500, List.forall_mem_cons.mpr ⟨k_502, List.forall_mem_cons.mpr ⟨(big_sel (q := y_DS_requireRoom) (n := 2) (by decide +kernel)), List.forall_mem_cons.mpr ⟨k_1, fun _ h => absurd h List.not_mem_nil⟩⟩⟩⟩, List.forall_mem_cons.mpr ⟨k_503, fun _ h => h⟩⟩)) rfl rfl rfl (by decide +kernel) ⟨Nat.le_of_ble_eq_true rfl, Nat.le_of_ble_eq_true rfl⟩) ⟨fun a U g mk q => ?_, va_recv (q0 := 0) (ci := 0) hK hP rfl rfl, fun U hU hW => ⟨rfl, ?_, ?_, hDr, va_K.moved hW.alike hK⟩⟩ rfl hl.1 rfl (Nat.le_of_ble_eq_true rfl) d_DS_password_28 ⟨Nat.le_of_ble_eq_true rfl, Nat.le_of_ble_eq_true rfl⟩ (xk_out2 (hno _) hlocks hS.1)
  · obtain ⟨q0, q1, q2, q3, q4⟩ := q
    exact ⟨q0, q1.at (State.WarmedH.refl _) (fun _ _ _ => rfl) (fun _ h => h), q2, q3, va_K.moved (Vm.Alike.refl U.vm) q4⟩
  · show xs_T _ U U.heap; rw [hU]; exact hT.at hW (fun a h1 _ => hS.2.1 a h1 (by rw [hAe]; exact Nat.not_le.mpr h1)) (fun _ h => h)
  · show va_P _ _ _ U.heap; rw [hU]; exact hPr
set_option maxHeartbeats 4000000 in
set_option maxRecDepth 100000 in
/-- reply: no room -/
theorem x_reply2 (l : Launch) (hfl : l.flags = pinnedFlags ++ [noTraceFlag]) (dC : Nat → ClassId) (dI : Nat → Nat → Nat) (cT : Nat → ClassId) (ds : Nat) (dr : Nat) (sv : Nat) (rr : Nat) (len : Nat) (f : Nat → Int32) (g0 : Nat) (se : Nat) (pw : Nat) (ty : Nat) (an : Nat) (aw : Nat) (ts : Nat) (ss : Nat) (rq : Nat) (tm : Int32) (n3 : Int32) (n4 : Int32) (ar : Nat) (al : Nat) (fa : Nat → Int32) (v : Int64) (k : Nat) (hlen : len ≤ 1000) (hk1 : 1 ≤ k) (hk2 : k ≤ 60) (hfa : fa 0 = 11) (hbad : 1000 < len + 2 + 32) : xk_T l y_DS_reply (Cond.code y_DS_reply b_DS_reply 8 (Option.some Jvm.ClassFile.FieldType.int) :: BIG) ({ frames := 9, cells := 1, slots := 6, locals := 150 }) (va_Pc [.ref ds, .long v, .int (nI k)] (fun U => xs_T (fun _ => False) U U.heap ∧ va_P (dC, dI) vcl [(ds, .inr (0, [.ref dr, .ref sv])), (dr, .inr (2, [.ref rr, .int (nI len)])), (rr, .inl ((cT 0), 1000, .inl f)), (sv, .inr (5, [.ref se, .ref pw, .ref g0, .ref ty, .ref an, .ref aw, .ref ts, .ref ss, .ref rq, .int tm, .int n3, .int n4])), (an, .inr (2, [.ref ar, .int (nI al)])), (ar, .inl ((cT 0), 72, .inl fa))] U.heap ∧ va_D (fun _ => True) [(ds, .inr (0, [.ref dr, .ref sv])), (dr, .inr (2, [.ref rr, .int (nI len)])), (rr, .inl ((cT 0), 1000, .inl f)), (sv, .inr (5, [.ref se, .ref pw, .ref g0, .ref ty, .ref an, .ref aw, .ref ts, .ref ss, .ref rq, .int tm, .int n3, .int n4])), (an, .inr (2, [.ref ar, .int (nI al)])), (ar, .inl ((cT 0), 72, .inl fa))] ∧ va_K (dC, dI) vcl (tyL cT) U)) xs_IS := by
  refine xk_T.ofW (cc := b_DS_reply) (maxL := 8) (ret := (Option.some Jvm.ClassFile.FieldType.int)) (by decide) rfl ?_
  intro p e s m args below meth c s₁ B hml hv hno
  obtain ⟨hargs, hT, hP, hDD, hK⟩ := hv
  have hx := B.exec
  have hb := B.bytes
  have hts := atoms_spec (ws := (Cond.code y_DS_reply b_DS_reply 8 (Option.some Jvm.ClassFile.FieldType.int) :: BIG)) B.pre
  have hg : ∀ w ∈ BIG, w.before _ s = true := fun w h => hts w (List.mem_cons_of_mem _ h)
  have hown : s.vm.findClass "DoorServer" = some m.cls := findClass_of_methodNamed B.named
  have hlocks := B.notSynchronized
  have htr := Launch.traces_off hfl B.admits
  obtain ⟨A, hAe⟩ : ∃ A : Nat → Prop, A = fun q => s.heap.size ≤ q := ⟨_, rfl⟩
  have hA : ∀ q : Nat, s.heap.size ≤ q → A q := fun q h => by rw [hAe]; exact h
  have hS : va_S A s.heap s.heap [] := va_S.rf
  have hD : va_D A [] := ⟨fun i j p q h => by simp at h, fun k q h => by simp at h⟩
  have hl := lv_entry ([.ref ds, .long v, .int (nI k)]) (n := 8) (Nat.le_of_ble_eq_true rfl)
  refine W.eq (g2 := entryFrame m (List.toArray [.ref ds, .long v, .int (nI k)]) 8) (by rw [hargs]) ?_
  rw [lg_entry_eq]
  generalize (lg_sl ([.ref ds, .long v, .int (nI k)]) ++ List.replicate (8 - (lg_sl ([.ref ds, .long v, .int (nI k)])).length) Slot.unset).toArray = ls at hl ⊢
  have hl : lv_has ls 8 [(0, .ref ds), (1, .long v), (3, .int (nI k))] := hl
  change W p l e ({ frames := 9, cells := 1, slots := 6, locals := 150 } : Room) s m args below meth c s.heap [] 0 0 _ _
  have hP : va_P (dC, dI) vcl [(ds, .inr (0, [.ref dr, .ref sv])), (dr, .inr (2, [.ref rr, .int (nI len)])), (rr, .inl ((cT 0), 1000, .inl f)), (sv, .inr (5, [.ref se, .ref pw, .ref g0, .ref ty, .ref an, .ref aw, .ref ts, .ref ss, .ref rq, .int tm, .int n3, .int n4])), (an, .inr (2, [.ref ar, .int (nI al)])), (ar, .inl ((cT 0), 72, .inl fa))] s.heap := hP
  have hP0 := hP
  refine lv_iload_n hx hb d_DS_reply_0 rfl (lv_at hl 2 rfl) ?_
  refine lv_iconst (v := 1) hx hb d_DS_reply_1 (by decide) ?_
  refine lv_bipush (v := 60) hx hb d_DS_reply_2 (by decide) ?_
  have hP := hP.sub (ws' := []) [] rfl
  have hPc := hP.sub (ws' := []) [] rfl
  have hDc := hD.sub (ws' := []) [] (by decide) rfl
  have hFc := va_free (wc := []) hD hS hA [] rfl
  refine va_callv (va_runS (As := [.int (nI k), .int 1, .int 60]) (rest := []) ⟨hx, hb, hml, hown, hg⟩ (c_requireWithin l dC dI cT s.heap.size (nI k) 1 60 (nI_nlt (b := 1) hk1 (by omega)) (nI_nlt (a := 60) hk2 (by decide))) (va_cwS 3 hg (gI (List.forall_mem_append.mpr ⟨List.forall_mem_cons.mpr ⟨k_390, List.forall_mem_cons.mpr ⟨k_391, List.forall_mem_cons.mpr ⟨k_1, fun _ h => absurd h List.not_mem_nil⟩⟩⟩, List.forall_mem_cons.mpr ⟨k_392, fun _ h => h⟩⟩)) rfl rfl rfl (by decide +kernel) ⟨Nat.le_of_ble_eq_true rfl, Nat.le_of_ble_eq_true rfl⟩) ⟨fun a U g mk q => by obtain ⟨q0, q1, qP, qK, qD⟩ := q; exact ⟨q0, q1, qP, va_K.moved (u := U) (U := U.calling g mk a) (Vm.Alike.refl U.vm) qK, qD⟩, fun U hU hW => ⟨rfl, by rw [hU], by rw [hU]; exact hPc, va_K.moved hW.alike hK, hDc.weaken (fun _ _ _ _ => trivial)⟩⟩ rfl rfl hl.1 rfl (lv_room (Nat.le_of_ble_eq_true rfl)) d_DS_reply_4 ⟨Nat.le_of_ble_eq_true rfl, Nat.le_of_ble_eq_true rfl⟩) hS (fun q _ h => hFc q h) hFc (fun u t H1 locs ht hvm hw hB hz1 hk1 hS => ?_)
  try dsimp only at hw hB
  obtain ⟨hP1, hK1, hD1⟩ := hB
  rw [ht] at hP1
  obtain ⟨hP, hD⟩ := va_join (wr := []) (w1 := []) hP hD [] [] rfl rfl (by decide) (by decide) hk1 hFc hP1 hD1
  have hw26 := hw
  clear hPc hDc hFc hz1 hk1 hP1 hK1 hD1
  generalize H1 = H at hP hS ⊢
  have hP : va_P (dC, dI) vcl [] H := hP
  have hD : va_D A [] := hD
  have hP : va_P (dC, dI) vcl [(ds, .inr (0, [.ref dr, .ref sv])), (dr, .inr (2, [.ref rr, .int (nI len)])), (rr, .inl ((cT 0), 1000, .inl f)), (sv, .inr (5, [.ref se, .ref pw, .ref g0, .ref ty, .ref an, .ref aw, .ref ts, .ref ss, .ref rq, .int tm, .int n3, .int n4])), (an, .inr (2, [.ref ar, .int (nI al)])), (ar, .inl ((cT 0), 72, .inl fa))] H := hP0.kept (fun k q hk => hS.2.1 q.1 (hP0 k q hk).lt (by rw [hAe]; exact Nat.not_le.mpr (hP0 k q hk).lt))
  refine lv_aload_n hx hb d_DS_reply_7 rfl (lv_at hl 0 rfl) ?_
  refine va_get (D := (dC, dI)) (ci := 0) (v := (.ref sv)) (C := R_DS) (T := F_DS) (N := 2) hx hb hg in_DS hown hK hP 0 rfl rfl 1 (by decide) (hg _ k_369) (fun _ h9 => h9) rfl d_DS_reply_8 ?_
  refine va_get (D := (dC, dI)) (ci := 5) (v := (.ref an)) (C := R_Sv) (T := F_Sv) (N := 12) hx hb hg in_Sv hown hK hP 3 rfl rfl 4 (by decide) (hg _ k_329) (fun _ h9 => h9) rfl d_DS_reply_11 ?_
  refine lv_astore (lv' := [(4, .ref an), (0, .ref ds), (1, .long v), (3, .int (nI k))]) hx hb d_DS_reply_14 hl (by decide) rfl (fun ls hl => ?_)
  refine lv_aload hx hb d_DS_reply_16 (lv_at hl 0 rfl) ?_
  refine va_get (D := (dC, dI)) (ci := 2) (v := (.ref ar)) (C := R_Pk) (T := F_Pk) (N := 2) hx hb hg in_Pk hown hK hP 4 rfl rfl 0 (by decide) (hg _ k_49) (fun x9 h9 => u_same (hg _ k_41) x9 h9) rfl d_DS_reply_18 ?_
  refine lv_iconst (v := 0) hx hb d_DS_reply_21 (by decide) ?_
  refine va_iald hx hb hK hP 5 0 rfl rfl (i := 0) (vp_in_nI (n := 0) (N := 72) (by decide) (by decide)) d_DS_reply_22 ?_
  refine lv_topi (fun x28 e27 => ?_)
  obtain rfl : x28 = 11 := by rw [e27]; exact (congrArg fa (by decide)).trans hfa
  refine lv_bipush (v := 11) hx hb d_DS_reply_23 (by decide) ?_
  refine lv_icmp_eq (tgt := 30) hx hb d_DS_reply_25 (by decide) (fun hc29 => ?_) (fun hn9 => absurd (rfl) hn9)
  refine lv_aload_n hx hb d_DS_reply_30 rfl (lv_at hl 1 rfl) ?_
  refine lv_bipush (v := 32) hx hb d_DS_reply_31 (by decide) ?_
  refine lv_topi (fun x31 e30 => ?_)
  obtain rfl : x31 = nI 32 := by rw [e30]; rfl
  have hP : va_P (dC, dI) vcl [(ds, .inr (0, [.ref dr, .ref sv])), (dr, .inr (2, [.ref rr, .int (nI len)])), (rr, .inl ((cT 0), 1000, .inl f)), (sv, .inr (5, [.ref se, .ref pw, .ref g0, .ref ty, .ref an, .ref aw, .ref ts, .ref ss, .ref rq, .int tm, .int n3, .int n4])), (an, .inr (2, [.ref ar, .int (nI al)])), (ar, .inl ((cT 0), 72, .inl fa))] H := hP0.kept (fun k q hk => hS.2.1 q.1 (hP0 k q hk).lt (by rw [hAe]; exact Nat.not_le.mpr (hP0 k q hk).lt))
  refine va_forget (fun q hq => by have h9 := hS.2.2 q hq; rw [hAe] at h9; exact h9) ?_
  have hPr := hP.sub (ws' := [(ds, .inr (0, [.ref dr, .ref sv])), (dr, .inr (2, [.ref rr, .int (nI len)])), (rr, .inl ((cT 0), 1000, .inl f))]) [0, 1, 2] rfl
  have hDr := hDD.sub (ws' := [(ds, .inr (0, [.ref dr, .ref sv])), (dr, .inr (2, [.ref rr, .int (nI len)])), (rr, .inl ((cT 0), 1000, .inl f))]) [0, 1, 2] (by decide) rfl
  refine xk_callV (C := "DoorServer") (As := [.int (nI 32)]) (rest := []) ⟨hx, hb, hml, hown, hg⟩ (x_room l hfl dC dI cT ds dr sv rr len f 32 (by omega) (by omega) (by omega)) (cwV 1 hg (gI (List.forall_mem_append.mpr ⟨List.forall_mem_cons.mpr ⟨k_500, List.forall_mem_cons.mpr ⟨k_502, List.forall_mem_cons.mpr ⟨(big_sel (q := y_DS_requireRoom) (n := 2) (by decide +kernel)), List.forall_mem_cons.mpr ⟨k_1, fun _ h => absurd h List.not_mem_nil⟩⟩⟩⟩, List.forall_mem_cons.mpr ⟨k_503, fun _ h => h⟩⟩)) rfl rfl rfl (by decide +kernel) ⟨Nat.le_of_ble_eq_true rfl, Nat.le_of_ble_eq_true rfl⟩) ⟨fun a U g mk q => ?_, va_recv (q0 := 0) (ci := 0) hK hP rfl rfl, fun U hU hW => ⟨rfl, ?_, ?_, hDr, va_K.moved hW.alike hK⟩⟩ rfl hl.1 rfl (Nat.le_of_ble_eq_true rfl) d_DS_reply_33 ⟨Nat.le_of_ble_eq_true rfl, Nat.le_of_ble_eq_true rfl⟩ (xk_out2 (hno _) hlocks hS.1)
  · obtain ⟨q0, q1, q2, q3, q4⟩ := q
    exact ⟨q0, q1.at (State.WarmedH.refl _) (fun _ _ _ => rfl) (fun _ h => h), q2, q3, va_K.moved (Vm.Alike.refl U.vm) q4⟩
  · show xs_T _ U U.heap; rw [hU]; exact hT.at hW (fun a h1 _ => hS.2.1 a h1 (by rw [hAe]; exact Nat.not_le.mpr h1)) (fun _ h => h)
  · show va_P _ _ _ U.heap; rw [hU]; exact hPr
set_option maxHeartbeats 4000000 in
set_option maxRecDepth 100000 in
/-- prove: no room -/
theorem x_prove2 (l : Launch) (hfl : l.flags = pinnedFlags ++ [noTraceFlag]) (dC : Nat → ClassId) (dI : Nat → Nat → Nat) (cT : Nat → ClassId) (ds : Nat) (dr : Nat) (sv : Nat) (rr : Nat) (len : Nat) (f : Nat → Int32) (x : Int32) (h20 : 20 ≤ len) (hlen : len ≤ 1000) (hab : AB f) (hx1 : ¬ x < 0) (hx2 : ¬ 3 < x) (hno9 : fv f len 80 16 (len - 20) 20 = -1) (hbad : 1000 < len + 2 + 16) : xk_T l y_DS_prove (Cond.code y_DS_prove b_DS_prove 3 (Option.some Jvm.ClassFile.FieldType.int) :: BIG) ({ frames := 9, cells := 1, slots := 6, locals := 150 }) (va_Pc [.ref ds, .int x] (fun U => xs_T (fun _ => False) U U.heap ∧ va_P (dC, dI) vcl [(ds, .inr (0, [.ref dr, .ref sv])), (dr, .inr (2, [.ref rr, .int (nI len)])), (rr, .inl ((cT 0), 1000, .inl f))] U.heap ∧ va_D (fun _ => True) [(ds, .inr (0, [.ref dr, .ref sv])), (dr, .inr (2, [.ref rr, .int (nI len)])), (rr, .inl ((cT 0), 1000, .inl f))] ∧ va_K (dC, dI) vcl (tyL cT) U)) xs_IS := by
  refine xk_T.ofW (cc := b_DS_prove) (maxL := 3) (ret := (Option.some Jvm.ClassFile.FieldType.int)) (by decide) rfl ?_
  intro p e s m args below meth c s₁ B hml hv hno
  obtain ⟨hargs, hT, hP, hDD, hK⟩ := hv
  have hx := B.exec
  have hb := B.bytes
  have hts := atoms_spec (ws := (Cond.code y_DS_prove b_DS_prove 3 (Option.some Jvm.ClassFile.FieldType.int) :: BIG)) B.pre
  have hg : ∀ w ∈ BIG, w.before _ s = true := fun w h => hts w (List.mem_cons_of_mem _ h)
  have hown : s.vm.findClass "DoorServer" = some m.cls := findClass_of_methodNamed B.named
  have hlocks := B.notSynchronized
  have htr := Launch.traces_off hfl B.admits
  obtain ⟨A, hAe⟩ : ∃ A : Nat → Prop, A = fun q => s.heap.size ≤ q := ⟨_, rfl⟩
  have hA : ∀ q : Nat, s.heap.size ≤ q → A q := fun q h => by rw [hAe]; exact h
  have hS : va_S A s.heap s.heap [] := va_S.rf
  have hD : va_D A [] := ⟨fun i j p q h => by simp at h, fun k q h => by simp at h⟩
  have hl := lv_entry ([.ref ds, .int x]) (n := 3) (Nat.le_of_ble_eq_true rfl)
  refine W.eq (g2 := entryFrame m (List.toArray [.ref ds, .int x]) 3) (by rw [hargs]) ?_
  rw [lg_entry_eq]
  generalize (lg_sl ([.ref ds, .int x]) ++ List.replicate (3 - (lg_sl ([.ref ds, .int x])).length) Slot.unset).toArray = ls at hl ⊢
  have hl : lv_has ls 3 [(0, .ref ds), (1, .int x)] := hl
  change W p l e ({ frames := 9, cells := 1, slots := 6, locals := 150 } : Room) s m args below meth c s.heap [] 0 0 _ _
  have hP : va_P (dC, dI) vcl [(ds, .inr (0, [.ref dr, .ref sv])), (dr, .inr (2, [.ref rr, .int (nI len)])), (rr, .inl ((cT 0), 1000, .inl f))] s.heap := hP
  have hP0 := hP
  refine lv_iload_n hx hb d_DS_prove_0 rfl (lv_at hl 1 rfl) ?_
  have hP := hP.sub (ws' := []) [] rfl
  have hPc := hP.sub (ws' := []) [] rfl
  have hDc := hD.sub (ws' := []) [] (by decide) rfl
  have hFc := va_free (wc := []) hD hS hA [] rfl
  refine va_callv (va_runS (As := [.int x]) (rest := []) ⟨hx, hb, hml, hown, hg⟩ (c_requireStation l dC dI cT s.heap.size x (hx1) (hx2)) (va_cwS 1 hg (gI (List.forall_mem_append.mpr ⟨List.forall_mem_cons.mpr ⟨k_387, List.forall_mem_cons.mpr ⟨k_388, List.forall_mem_cons.mpr ⟨k_1, fun _ h => absurd h List.not_mem_nil⟩⟩⟩, List.forall_mem_cons.mpr ⟨k_389, fun _ h => h⟩⟩)) rfl rfl rfl (by decide +kernel) ⟨Nat.le_of_ble_eq_true rfl, Nat.le_of_ble_eq_true rfl⟩) ⟨fun a U g mk q => by obtain ⟨q0, q1, qP, qK, qD⟩ := q; exact ⟨q0, q1, qP, va_K.moved (u := U) (U := U.calling g mk a) (Vm.Alike.refl U.vm) qK, qD⟩, fun U hU hW => ⟨rfl, by rw [hU], by rw [hU]; exact hPc, va_K.moved hW.alike hK, hDc.weaken (fun _ _ _ _ => trivial)⟩⟩ rfl rfl hl.1 rfl (lv_room (Nat.le_of_ble_eq_true rfl)) d_DS_prove_1 ⟨Nat.le_of_ble_eq_true rfl, Nat.le_of_ble_eq_true rfl⟩) hS (fun q _ h => hFc q h) hFc (fun u t H1 locs ht hvm hw hB hz1 hk1 hS => ?_)
  try dsimp only at hw hB
  obtain ⟨hP1, hK1, hD1⟩ := hB
  rw [ht] at hP1
  obtain ⟨hP, hD⟩ := va_join (wr := []) (w1 := []) hP hD [] [] rfl rfl (by decide) (by decide) hk1 hFc hP1 hD1
  have hw32 := hw
  clear hPc hDc hFc hz1 hk1 hP1 hK1 hD1
  generalize H1 = H at hP hS ⊢
  have hP : va_P (dC, dI) vcl [] H := hP
  have hD : va_D A [] := hD
  have hP : va_P (dC, dI) vcl [(ds, .inr (0, [.ref dr, .ref sv])), (dr, .inr (2, [.ref rr, .int (nI len)])), (rr, .inl ((cT 0), 1000, .inl f))] H := hP0.kept (fun k q hk => hS.2.1 q.1 (hP0 k q hk).lt (by rw [hAe]; exact Nat.not_le.mpr (hP0 k q hk).lt))
  refine lv_aload_n hx hb d_DS_prove_4 rfl (lv_at hl 0 rfl) ?_
  refine va_get (D := (dC, dI)) (ci := 0) (v := (.ref dr)) (C := R_DS) (T := F_DS) (N := 2) hx hb hg in_DS hown hK hP 0 rfl rfl 0 (by decide) (hg _ k_368) (fun _ h9 => h9) rfl d_DS_prove_5 ?_
  refine lv_bipush (v := 80) hx hb d_DS_prove_8 (by decide) ?_
  refine lv_bipush (v := 16) hx hb d_DS_prove_10 (by decide) ?_
  refine lv_topi (fun x34 e33 => ?_)
  obtain rfl : x34 = nI 16 := by rw [e33]; rfl
  have hPc := hP.sub (ws' := [(dr, .inr (2, [.ref rr, .int (nI len)])), (rr, .inl ((cT 0), 1000, .inl f))]) [1, 2] rfl
  have hDc := hDD.sub (ws' := [(dr, .inr (2, [.ref rr, .int (nI len)])), (rr, .inl ((cT 0), 1000, .inl f))]) [1, 2] (by decide) rfl
  have hFc : ∀ q, va_A [] H.size q → A q := fun q h => by rcases h with ⟨k, e, h⟩ | h <;> first | simp at h | exact hA q (Nat.le_trans hS.1 h)
  refine va_calli (va_runV (C := "DoorServer$Packet") (As := [.int 80, .int (nI 16)]) (rest := []) ⟨hx, hb, hml, hown, hg⟩ (p_Pk_find l dC dI cT H.size dr rr 1000 len f 80 16 (hlen) (by decide) (h20) (by decide) (hab)) (cwV 2 hg (gI (List.forall_mem_append.mpr ⟨List.forall_mem_cons.mpr ⟨k_640, List.forall_mem_cons.mpr ⟨k_641, List.forall_mem_cons.mpr ⟨k_642, List.forall_mem_cons.mpr ⟨k_3, fun _ h => absurd h List.not_mem_nil⟩⟩⟩⟩, List.forall_mem_cons.mpr ⟨k_643, fun _ h => h⟩⟩)) rfl rfl rfl (by decide +kernel) ⟨Nat.le_of_ble_eq_true rfl, Nat.le_of_ble_eq_true rfl⟩) ⟨fun a U g mk q => by obtain ⟨q0, q1, qP, qK, qD⟩ := q; exact ⟨q0, q1, qP, va_K.moved (u := U) (U := U.calling g mk a) (Vm.Alike.refl U.vm) qK, qD⟩, va_recv (q0 := 1) (ci := 2) hK hP rfl rfl, fun U hU hW => ⟨rfl, by rw [hU], by rw [hU]; exact hPc, va_K.moved hW.alike hK, hDc.weaken (fun _ _ _ _ => trivial)⟩⟩ rfl rfl hl.1 rfl (lv_room (Nat.le_of_ble_eq_true rfl)) d_DS_prove_12 ⟨Nat.le_of_ble_eq_true rfl, Nat.le_of_ble_eq_true rfl⟩) hS (fun q _ h => hFc q h) hFc (fun rv9 u t H1 locs ht hvm hw hB hz1 hk1 hS => ?_)
  obtain ⟨rfl, hw⟩ := hw
  clear hPc hDc hFc hB hz1 hk1 hP
  generalize H1 = H at hS ⊢
  refine lv_topi (fun x36 e35 => ?_)
  obtain rfl : x36 = (-1) := by rw [e35]; exact hno9
  have hP : va_P (dC, dI) vcl [(ds, .inr (0, [.ref dr, .ref sv])), (dr, .inr (2, [.ref rr, .int (nI len)])), (rr, .inl ((cT 0), 1000, .inl f))] H := hP0.kept (fun k q hk => hS.2.1 q.1 (hP0 k q hk).lt (by rw [hAe]; exact Nat.not_le.mpr (hP0 k q hk).lt))
  refine lv_iconst (v := (-1)) hx hb d_DS_prove_15 (by decide) ?_
  refine lv_icmp_ne (tgt := 45) hx hb d_DS_prove_16 (by decide) (fun hn9 => absurd hn9 (fun h7 => h7 rfl)) (fun hc37 => ?_)
  refine lv_aload_n hx hb d_DS_prove_19 rfl (lv_at hl 0 rfl) ?_
  refine lv_bipush (v := 16) hx hb d_DS_prove_20 (by decide) ?_
  refine lv_topi (fun x39 e38 => ?_)
  obtain rfl : x39 = nI 16 := by rw [e38]; rfl
  have hP : va_P (dC, dI) vcl [(ds, .inr (0, [.ref dr, .ref sv])), (dr, .inr (2, [.ref rr, .int (nI len)])), (rr, .inl ((cT 0), 1000, .inl f))] H := hP0.kept (fun k q hk => hS.2.1 q.1 (hP0 k q hk).lt (by rw [hAe]; exact Nat.not_le.mpr (hP0 k q hk).lt))
  refine va_forget (fun q hq => by have h9 := hS.2.2 q hq; rw [hAe] at h9; exact h9) ?_
  have hPr := hP.sub (ws' := [(ds, .inr (0, [.ref dr, .ref sv])), (dr, .inr (2, [.ref rr, .int (nI len)])), (rr, .inl ((cT 0), 1000, .inl f))]) [0, 1, 2] rfl
  have hDr := hDD.sub (ws' := [(ds, .inr (0, [.ref dr, .ref sv])), (dr, .inr (2, [.ref rr, .int (nI len)])), (rr, .inl ((cT 0), 1000, .inl f))]) [0, 1, 2] (by decide) rfl
  refine xk_callV (C := "DoorServer") (As := [.int (nI 16)]) (rest := []) ⟨hx, hb, hml, hown, hg⟩ (x_room l hfl dC dI cT ds dr sv rr len f 16 (by omega) (by omega) (by omega)) (cwV 1 hg (gI (List.forall_mem_append.mpr ⟨List.forall_mem_cons.mpr ⟨k_500, List.forall_mem_cons.mpr ⟨k_502, List.forall_mem_cons.mpr ⟨(big_sel (q := y_DS_requireRoom) (n := 2) (by decide +kernel)), List.forall_mem_cons.mpr ⟨k_1, fun _ h => absurd h List.not_mem_nil⟩⟩⟩⟩, List.forall_mem_cons.mpr ⟨k_503, fun _ h => h⟩⟩)) rfl rfl rfl (by decide +kernel) ⟨Nat.le_of_ble_eq_true rfl, Nat.le_of_ble_eq_true rfl⟩) ⟨fun a U g mk q => ?_, va_recv (q0 := 0) (ci := 0) hK hP rfl rfl, fun U hU hW => ⟨rfl, ?_, ?_, hDr, va_K.moved hW.alike hK⟩⟩ rfl hl.1 rfl (Nat.le_of_ble_eq_true rfl) d_DS_prove_22 ⟨Nat.le_of_ble_eq_true rfl, Nat.le_of_ble_eq_true rfl⟩ (xk_out2 (hno _) hlocks hS.1)
  · obtain ⟨q0, q1, q2, q3, q4⟩ := q
    exact ⟨q0, q1.at (State.WarmedH.refl _) (fun _ _ _ => rfl) (fun _ h => h), q2, q3, va_K.moved (Vm.Alike.refl U.vm) q4⟩
  · show xs_T _ U U.heap; rw [hU]; exact hT.at hW (fun a h1 _ => hS.2.1 a h1 (by rw [hAe]; exact Nat.not_le.mpr h1)) (fun _ h => h)
  · show va_P _ _ _ U.heap; rw [hU]; exact hPr
