/-- so many ticks may be told at that time -/
def TKG (x : Int32) (tk k : Nat) : Prop := x = nI k ∧ 1 ≤ k ∧ k ≤ 1000 ∧ tk + k ≤ 1000000
/-- the time behind the call -/
def tkN (x : Int32) (tk : Nat) : Nat := if 1 ≤ x.toInt ∧ x.toInt ≤ 1000 ∧ (tk : Int) + x.toInt ≤ 1000000 then tk + x.toNatClampNeg else tk
theorem tkN_go {k tk : Nat} (h1 : 1 ≤ k) (h2 : k ≤ 1000) (h3 : tk + k ≤ 1000000) : tk + k = tkN (nI k) tk := by
  unfold tkN
  rw [nI_toInt (by omega), nI_clamp (by omega), if_pos (by omega)]
theorem tkN_no {x : Int32} {tk : Nat} (h : ¬ ∃ k : Nat, TKG x tk k) : tk = tkN x tk := by
  unfold tkN
  rw [if_neg]
  intro h9
  have h0 : ¬ x < 0 := by
    rw [Int32.lt_iff_toInt_lt]
    have e0 : (0 : Int32).toInt = 0 := by decide
    omega
  obtain ⟨k, hk, he⟩ := nI_of h0
  rw [he, nI_toInt hk] at h9
  exact h ⟨k, he, by omega, by omega, by omega⟩
theorem tkN_le {x : Int32} {tk : Nat} (h : tk ≤ 1000000) : tkN x tk ≤ 1000000 := by
  by_cases h9 : ∃ k : Nat, TKG x tk k
  · obtain ⟨k, h1, h2, h3, h4⟩ := h9
    subst h1
    rw [← tkN_go h2 h3 h4]
    exact h4
  · rw [← tkN_no h9]
    exact h
set_option maxHeartbeats 4000000 in
set_option maxRecDepth 100000 in
/-- ticks -/
theorem ux_ticks (l : Launch) (dC : Nat → ClassId) (dI : Nat → Nat → Nat) (cT : Nat → ClassId) (sz : Nat) (mo : Nat) (r : Nat → Nat) (cd : Int32) (tm : Int32) (sn : Nat) (tx : Nat) (lz : Nat) (az : Nat) (na : Nat) (nt : Nat) (nr : Nat) (mw : Int32) (ml : Int32) (mk : Int64) (dq : Int64) (x : Int32) (tk : Nat) (htk : tk ≤ 1000000) : Met l y_Md_ticks (Cond.code y_Md_ticks b_Md_ticks 2 (Option.some Jvm.ClassFile.FieldType.int) :: BIG) ({ frames := 1, cells := 0, slots := 0, locals := 21 }) (va_Pc [.ref mo, .int x] (fun U => U.heap.size = sz ∧ va_P (dC, dI) vcl [(mo, .inr (12, mdG r cd (nI tk) (nI sn) (nI tx) (nI lz) (nI az) (nI na) (nI nt) (nI nr) mw ml mk dq))] U.heap ∧ va_K (dC, dI) vcl (tyL cT) U ∧ va_D (fun _ => True) [(mo, .inr (12, mdG r cd (nI tk) (nI sn) (nI tx) (nI lz) (nI az) (nI na) (nI nt) (nI nr) mw ml mk dq))])) (va_Qi (S := Int32) (fun rv9 u => match u with | cd2 => (cd2 = 0 ∧ rv9 = nI (tkN x tk) ∧ ∃ k : Nat, TKG x tk k) ∨ (cd2 = 1 ∧ ¬ ∃ k : Nat, TKG x tk k)) (fun u t => match u with | cd2 => va_P (dC, dI) vcl [(mo, .inr (12, mdG r cd2 (nI (tkN x tk)) (nI sn) (nI tx) (nI lz) (nI az) (nI na) (nI nt) (nI nr) mw ml mk dq))] t.heap ∧ va_K (dC, dI) vcl (tyL cT) t ∧ va_D (va_A [(mo, .inr (12, mdG r cd (nI tk) (nI sn) (nI tx) (nI lz) (nI az) (nI na) (nI nt) (nI nr) mw ml mk dq))] sz) [(mo, .inr (12, mdG r cd2 (nI (tkN x tk)) (nI sn) (nI tx) (nI lz) (nI az) (nI na) (nI nt) (nI nr) mw ml mk dq))]) (va_A [(mo, .inr (12, mdG r cd (nI tk) (nI sn) (nI tx) (nI lz) (nI az) (nI na) (nI nt) (nI nr) mw ml mk dq))] sz)) 0 0 (va_A [(mo, .inr (12, mdG r cd (nI tk) (nI sn) (nI tx) (nI lz) (nI az) (nI na) (nI nt) (nI nr) mw ml mk dq))] sz) := by
  refine Met.ofW (cc := b_Md_ticks) (maxL := 2) (ret := (Option.some Jvm.ClassFile.FieldType.int)) (by decide) rfl ?_
  intro p e s m args below meth c s₁ B hml hv
  obtain ⟨hargs, hsz, hP, hK, hD0⟩ := hv
  have hx := B.exec
  have hb := B.bytes
  have hr := B.returns
  have hts := atoms_spec (ws := (Cond.code y_Md_ticks b_Md_ticks 2 (Option.some Jvm.ClassFile.FieldType.int) :: BIG)) B.pre
  have hg : ∀ w ∈ BIG, w.before _ s = true := fun w h => hts w (List.mem_cons_of_mem _ h)
  have hown : s.vm.findClass "DoorServerModel" = some m.cls := findClass_of_methodNamed B.named
  have hlocks := B.notSynchronized
  subst hsz
  have hD := hD0.self (sz := s.heap.size)
  generalize hAe : va_A [(mo, .inr (12, mdG r cd (nI tk) (nI sn) (nI tx) (nI lz) (nI az) (nI na) (nI nt) (nI nr) mw ml mk dq))] s.heap.size = A at hD ⊢
  have hA : ∀ q : Nat, s.heap.size ≤ q → A q := fun q h => by rw [← hAe]; exact Or.inr h
  have hS : va_S A s.heap s.heap [] := va_S.rf
  have hl := lv_entry ([.ref mo, .int x]) (n := 2) (Nat.le_of_ble_eq_true rfl)
  refine W.eq (g2 := entryFrame m (List.toArray [.ref mo, .int x]) 2) (by rw [hargs]) ?_
  rw [lg_entry_eq]
  generalize (lg_sl ([.ref mo, .int x]) ++ List.replicate (2 - (lg_sl ([.ref mo, .int x])).length) Slot.unset).toArray = ls at hl ⊢
  have hl : lv_has ls 2 [(0, .ref mo), (1, .int x)] := hl
  change W p l e ({ frames := 1, cells := 0, slots := 0, locals := 21 } : Room) s m args below meth c s.heap [] 0 0 _ _
  have hP : va_P (dC, dI) vcl [(mo, .inr (12, mdG r cd (nI tk) (nI sn) (nI tx) (nI lz) (nI az) (nI na) (nI nt) (nI nr) mw ml mk dq))] s.heap := hP
  rcases pk_ix x (n := 1001) (by decide) with h8x | h8x | ⟨xn, hxn, rfl⟩
  · skip
    refine lv_aload_n hx hb d_Md_ticks_0 rfl (lv_at hl 0 rfl) ?_
    refine lv_iload_n hx hb d_Md_ticks_1 rfl (lv_at hl 1 rfl) ?_
    refine lv_iconst (v := 1) hx hb d_Md_ticks_2 (by decide) ?_
    refine lv_icmp_lt (tgt := 29) hx hb d_Md_ticks_3 (by decide) (fun hc1 => ?_) (fun hn9 => absurd (lt_01 h8x) hn9)
    refine lv_iconst (v := 0) hx hb d_Md_ticks_29 (by decide) ?_
    have hPc := hP.sub (ws' := [(mo, .inr (12, mdG r cd (nI tk) (nI sn) (nI tx) (nI lz) (nI az) (nI na) (nI nt) (nI nr) mw ml mk dq))]) [0] rfl
    have hDc := hD.sub (ws' := [(mo, .inr (12, mdG r cd (nI tk) (nI sn) (nI tx) (nI lz) (nI az) (nI na) (nI nt) (nI nr) mw ml mk dq))]) [0] (by decide) rfl
    have hFc := va_free (wc := [(mo, .inr (12, mdG r cd (nI tk) (nI sn) (nI tx) (nI lz) (nI az) (nI na) (nI nt) (nI nr) mw ml mk dq))]) hD hS hA [0] rfl
    refine va_calli (va_runV (C := "DoorServerModel") (As := [.int 0]) (rest := []) ⟨hx, hb, hml, hown, hg⟩ (m_goes0 l dC dI cT s.heap.size mo r cd (nI tk) sn tx lz az na nt nr mw ml mk dq ) (cwV 1 hg (gI (List.forall_mem_append.mpr ⟨List.forall_mem_cons.mpr ⟨k_1165, List.forall_mem_cons.mpr ⟨k_1167, List.forall_mem_cons.mpr ⟨(big_sel (q := y_Md_goes) (n := 45) (by decide +kernel)), List.forall_mem_cons.mpr ⟨k_13, fun _ h => absurd h List.not_mem_nil⟩⟩⟩⟩, List.forall_mem_cons.mpr ⟨k_1168, fun _ h => h⟩⟩)) rfl rfl rfl (by decide +kernel) ⟨Nat.le_of_ble_eq_true rfl, Nat.le_of_ble_eq_true rfl⟩) ⟨fun a U g mk q => by obtain ⟨q0, q1, qP, qK, qD⟩ := q; exact ⟨q0, q1, qP, va_K.moved (u := U) (U := U.calling g mk a) (Vm.Alike.refl U.vm) qK, qD⟩, va_recv (q0 := 0) (ci := 12) hK hP rfl rfl, fun U hU hW => ⟨rfl, by rw [hU], by rw [hU]; exact hPc, va_K.moved hW.alike hK, hDc.weaken (fun _ _ _ _ => trivial)⟩⟩ rfl rfl hl.1 rfl (lv_room (Nat.le_of_ble_eq_true rfl)) d_Md_ticks_30 ⟨Nat.le_of_ble_eq_true rfl, Nat.le_of_ble_eq_true rfl⟩) hS (fun q _ h => hFc q h) hFc (fun rv9 u t H1 locs ht hvm hw hB hz1 hk1 hS => ?_)
    try dsimp only at hw hB
    obtain ⟨hP1, hK1, hD1⟩ := hB
    rw [ht] at hP1
    obtain ⟨rfl, hw⟩ := hw
    obtain ⟨hP, hD⟩ := va_join (wr := []) (w1 := [(mo, .inr (12, mdG r 1 (nI tk) (nI sn) (nI tx) (nI lz) (nI az) (nI na) (nI nt) (nI nr) mw ml mk dq))]) hP hD [0] [] rfl rfl (by decide) (by decide) hk1 hFc hP1 hD1
    have hw2 := hw
    clear hPc hDc hFc hz1 hk1 hP1 hK1 hD1
    generalize H1 = H at hP hS ⊢
    have hP : va_P (dC, dI) vcl [(mo, .inr (12, mdG r 1 (nI tk) (nI sn) (nI tx) (nI lz) (nI az) (nI na) (nI nt) (nI nr) mw ml mk dq))] H := hP
    have hD : va_D A [(mo, .inr (12, mdG r 1 (nI tk) (nI sn) (nI tx) (nI lz) (nI az) (nI na) (nI nt) (nI nr) mw ml mk dq))] := hD
    refine lv_if_ne (tgt := 38) hx hb d_Md_ticks_33 (by decide) (fun hn9 => absurd hn9 (by decide)) (fun hc3 => ?_)
    refine lv_iconst (v := 0) hx hb d_Md_ticks_36 (by decide) ?_
    have hno9 : ¬ ∃ k : Nat, TKG x tk k := fun ⟨k, h⟩ => absurd h8x (by rw [h.1]; exact nI_pos (by have h2 := h.2.2.1; omega))
    have e9 := tkN_no hno9
    rw [e9] at hP hD
    have hP : va_P (dC, dI) vcl [(mo, .inr (12, mdG r 1 (nI (tkN x tk)) (nI sn) (nI tx) (nI lz) (nI az) (nI na) (nI nt) (nI nr) mw ml mk dq))] H := hP
    have hD : va_D A [(mo, .inr (12, mdG r 1 (nI (tkN x tk)) (nI sn) (nI tx) (nI lz) (nI az) (nI na) (nI nt) (nI nr) mw ml mk dq))] := hD
    have hP9 := hP.sub (ws' := [(mo, .inr (12, mdG r 1 (nI (tkN x tk)) (nI sn) (nI tx) (nI lz) (nI az) (nI na) (nI nt) (nI nr) mw ml mk dq))]) [0] rfl
    have hD9 := hD.sub (ws' := [(mo, .inr (12, mdG r 1 (nI (tkN x tk)) (nI sn) (nI tx) (nI lz) (nI az) (nI na) (nI nt) (nI nr) mw ml mk dq))]) [0] (by decide) rfl
    exact W.iret (v := 0) hx hb hr (fun t ht hW => ⟨⟨_, 1, rfl, Or.inr ⟨rfl, hno9⟩, by rw [ht]; exact hP9, va_K.moved hW.alike hK, hD9⟩, hS.F ht⟩) hS.2.2 d_Md_ticks_37
  · skip
    refine lv_aload_n hx hb d_Md_ticks_0 rfl (lv_at hl 0 rfl) ?_
    refine lv_iload_n hx hb d_Md_ticks_1 rfl (lv_at hl 1 rfl) ?_
    refine lv_iconst (v := 1) hx hb d_Md_ticks_2 (by decide) ?_
    refine lv_icmp_lt (tgt := 29) hx hb d_Md_ticks_3 (by decide) (fun hc4 => ?_) (fun hc4 => ?_)
    · skip
      refine lv_iconst (v := 0) hx hb d_Md_ticks_29 (by decide) ?_
      have hPc := hP.sub (ws' := [(mo, .inr (12, mdG r cd (nI tk) (nI sn) (nI tx) (nI lz) (nI az) (nI na) (nI nt) (nI nr) mw ml mk dq))]) [0] rfl
      have hDc := hD.sub (ws' := [(mo, .inr (12, mdG r cd (nI tk) (nI sn) (nI tx) (nI lz) (nI az) (nI na) (nI nt) (nI nr) mw ml mk dq))]) [0] (by decide) rfl
      have hFc := va_free (wc := [(mo, .inr (12, mdG r cd (nI tk) (nI sn) (nI tx) (nI lz) (nI az) (nI na) (nI nt) (nI nr) mw ml mk dq))]) hD hS hA [0] rfl
      refine va_calli (va_runV (C := "DoorServerModel") (As := [.int 0]) (rest := []) ⟨hx, hb, hml, hown, hg⟩ (m_goes0 l dC dI cT s.heap.size mo r cd (nI tk) sn tx lz az na nt nr mw ml mk dq ) (cwV 1 hg (gI (List.forall_mem_append.mpr ⟨List.forall_mem_cons.mpr ⟨k_1165, List.forall_mem_cons.mpr ⟨k_1167, List.forall_mem_cons.mpr ⟨(big_sel (q := y_Md_goes) (n := 45) (by decide +kernel)), List.forall_mem_cons.mpr ⟨k_13, fun _ h => absurd h List.not_mem_nil⟩⟩⟩⟩, List.forall_mem_cons.mpr ⟨k_1168, fun _ h => h⟩⟩)) rfl rfl rfl (by decide +kernel) ⟨Nat.le_of_ble_eq_true rfl, Nat.le_of_ble_eq_true rfl⟩) ⟨fun a U g mk q => by obtain ⟨q0, q1, qP, qK, qD⟩ := q; exact ⟨q0, q1, qP, va_K.moved (u := U) (U := U.calling g mk a) (Vm.Alike.refl U.vm) qK, qD⟩, va_recv (q0 := 0) (ci := 12) hK hP rfl rfl, fun U hU hW => ⟨rfl, by rw [hU], by rw [hU]; exact hPc, va_K.moved hW.alike hK, hDc.weaken (fun _ _ _ _ => trivial)⟩⟩ rfl rfl hl.1 rfl (lv_room (Nat.le_of_ble_eq_true rfl)) d_Md_ticks_30 ⟨Nat.le_of_ble_eq_true rfl, Nat.le_of_ble_eq_true rfl⟩) hS (fun q _ h => hFc q h) hFc (fun rv9 u t H1 locs ht hvm hw hB hz1 hk1 hS => ?_)
      try dsimp only at hw hB
      obtain ⟨hP1, hK1, hD1⟩ := hB
      rw [ht] at hP1
      obtain ⟨rfl, hw⟩ := hw
      obtain ⟨hP, hD⟩ := va_join (wr := []) (w1 := [(mo, .inr (12, mdG r 1 (nI tk) (nI sn) (nI tx) (nI lz) (nI az) (nI na) (nI nt) (nI nr) mw ml mk dq))]) hP hD [0] [] rfl rfl (by decide) (by decide) hk1 hFc hP1 hD1
      have hw5 := hw
      clear hPc hDc hFc hz1 hk1 hP1 hK1 hD1
      generalize H1 = H at hP hS ⊢
      have hP : va_P (dC, dI) vcl [(mo, .inr (12, mdG r 1 (nI tk) (nI sn) (nI tx) (nI lz) (nI az) (nI na) (nI nt) (nI nr) mw ml mk dq))] H := hP
      have hD : va_D A [(mo, .inr (12, mdG r 1 (nI tk) (nI sn) (nI tx) (nI lz) (nI az) (nI na) (nI nt) (nI nr) mw ml mk dq))] := hD
      refine lv_if_ne (tgt := 38) hx hb d_Md_ticks_33 (by decide) (fun hn9 => absurd hn9 (by decide)) (fun hc6 => ?_)
      refine lv_iconst (v := 0) hx hb d_Md_ticks_36 (by decide) ?_
      have hno9 : ¬ ∃ k : Nat, TKG x tk k := fun ⟨k, h⟩ => absurd h8x (by rw [h.1]; exact nI_ge (by have h2 := h.2.2.1; omega) (by decide))
      have e9 := tkN_no hno9
      rw [e9] at hP hD
      have hP : va_P (dC, dI) vcl [(mo, .inr (12, mdG r 1 (nI (tkN x tk)) (nI sn) (nI tx) (nI lz) (nI az) (nI na) (nI nt) (nI nr) mw ml mk dq))] H := hP
      have hD : va_D A [(mo, .inr (12, mdG r 1 (nI (tkN x tk)) (nI sn) (nI tx) (nI lz) (nI az) (nI na) (nI nt) (nI nr) mw ml mk dq))] := hD
      have hP9 := hP.sub (ws' := [(mo, .inr (12, mdG r 1 (nI (tkN x tk)) (nI sn) (nI tx) (nI lz) (nI az) (nI na) (nI nt) (nI nr) mw ml mk dq))]) [0] rfl
      have hD9 := hD.sub (ws' := [(mo, .inr (12, mdG r 1 (nI (tkN x tk)) (nI sn) (nI tx) (nI lz) (nI az) (nI na) (nI nt) (nI nr) mw ml mk dq))]) [0] (by decide) rfl
      exact W.iret (v := 0) hx hb hr (fun t ht hW => ⟨⟨_, 1, rfl, Or.inr ⟨rfl, hno9⟩, by rw [ht]; exact hP9, va_K.moved hW.alike hK, hD9⟩, hS.F ht⟩) hS.2.2 d_Md_ticks_37
    · skip
      refine lv_iload_n hx hb d_Md_ticks_6 rfl (lv_at hl 1 rfl) ?_
      refine lv_sipush (v := 1000) hx hb d_Md_ticks_7 (by decide) ?_
      refine lv_icmp_gt (tgt := 29) hx hb d_Md_ticks_10 (by decide) (fun hc7 => ?_) (fun hn9 => absurd ((lt_le1 (a := 1000) (b := nI 1001) (by decide)).mpr h8x) hn9)
      refine lv_iconst (v := 0) hx hb d_Md_ticks_29 (by decide) ?_
      have hPc := hP.sub (ws' := [(mo, .inr (12, mdG r cd (nI tk) (nI sn) (nI tx) (nI lz) (nI az) (nI na) (nI nt) (nI nr) mw ml mk dq))]) [0] rfl
      have hDc := hD.sub (ws' := [(mo, .inr (12, mdG r cd (nI tk) (nI sn) (nI tx) (nI lz) (nI az) (nI na) (nI nt) (nI nr) mw ml mk dq))]) [0] (by decide) rfl
      have hFc := va_free (wc := [(mo, .inr (12, mdG r cd (nI tk) (nI sn) (nI tx) (nI lz) (nI az) (nI na) (nI nt) (nI nr) mw ml mk dq))]) hD hS hA [0] rfl
      refine va_calli (va_runV (C := "DoorServerModel") (As := [.int 0]) (rest := []) ⟨hx, hb, hml, hown, hg⟩ (m_goes0 l dC dI cT s.heap.size mo r cd (nI tk) sn tx lz az na nt nr mw ml mk dq ) (cwV 1 hg (gI (List.forall_mem_append.mpr ⟨List.forall_mem_cons.mpr ⟨k_1165, List.forall_mem_cons.mpr ⟨k_1167, List.forall_mem_cons.mpr ⟨(big_sel (q := y_Md_goes) (n := 45) (by decide +kernel)), List.forall_mem_cons.mpr ⟨k_13, fun _ h => absurd h List.not_mem_nil⟩⟩⟩⟩, List.forall_mem_cons.mpr ⟨k_1168, fun _ h => h⟩⟩)) rfl rfl rfl (by decide +kernel) ⟨Nat.le_of_ble_eq_true rfl, Nat.le_of_ble_eq_true rfl⟩) ⟨fun a U g mk q => by obtain ⟨q0, q1, qP, qK, qD⟩ := q; exact ⟨q0, q1, qP, va_K.moved (u := U) (U := U.calling g mk a) (Vm.Alike.refl U.vm) qK, qD⟩, va_recv (q0 := 0) (ci := 12) hK hP rfl rfl, fun U hU hW => ⟨rfl, by rw [hU], by rw [hU]; exact hPc, va_K.moved hW.alike hK, hDc.weaken (fun _ _ _ _ => trivial)⟩⟩ rfl rfl hl.1 rfl (lv_room (Nat.le_of_ble_eq_true rfl)) d_Md_ticks_30 ⟨Nat.le_of_ble_eq_true rfl, Nat.le_of_ble_eq_true rfl⟩) hS (fun q _ h => hFc q h) hFc (fun rv9 u t H1 locs ht hvm hw hB hz1 hk1 hS => ?_)
      try dsimp only at hw hB
      obtain ⟨hP1, hK1, hD1⟩ := hB
      rw [ht] at hP1
      obtain ⟨rfl, hw⟩ := hw
      obtain ⟨hP, hD⟩ := va_join (wr := []) (w1 := [(mo, .inr (12, mdG r 1 (nI tk) (nI sn) (nI tx) (nI lz) (nI az) (nI na) (nI nt) (nI nr) mw ml mk dq))]) hP hD [0] [] rfl rfl (by decide) (by decide) hk1 hFc hP1 hD1
      have hw8 := hw
      clear hPc hDc hFc hz1 hk1 hP1 hK1 hD1
      generalize H1 = H at hP hS ⊢
      have hP : va_P (dC, dI) vcl [(mo, .inr (12, mdG r 1 (nI tk) (nI sn) (nI tx) (nI lz) (nI az) (nI na) (nI nt) (nI nr) mw ml mk dq))] H := hP
      have hD : va_D A [(mo, .inr (12, mdG r 1 (nI tk) (nI sn) (nI tx) (nI lz) (nI az) (nI na) (nI nt) (nI nr) mw ml mk dq))] := hD
      refine lv_if_ne (tgt := 38) hx hb d_Md_ticks_33 (by decide) (fun hn9 => absurd hn9 (by decide)) (fun hc9 => ?_)
      refine lv_iconst (v := 0) hx hb d_Md_ticks_36 (by decide) ?_
      have hno9 : ¬ ∃ k : Nat, TKG x tk k := fun ⟨k, h⟩ => absurd h8x (by rw [h.1]; exact nI_ge (by have h2 := h.2.2.1; omega) (by decide))
      have e9 := tkN_no hno9
      rw [e9] at hP hD
      have hP : va_P (dC, dI) vcl [(mo, .inr (12, mdG r 1 (nI (tkN x tk)) (nI sn) (nI tx) (nI lz) (nI az) (nI na) (nI nt) (nI nr) mw ml mk dq))] H := hP
      have hD : va_D A [(mo, .inr (12, mdG r 1 (nI (tkN x tk)) (nI sn) (nI tx) (nI lz) (nI az) (nI na) (nI nt) (nI nr) mw ml mk dq))] := hD
      have hP9 := hP.sub (ws' := [(mo, .inr (12, mdG r 1 (nI (tkN x tk)) (nI sn) (nI tx) (nI lz) (nI az) (nI na) (nI nt) (nI nr) mw ml mk dq))]) [0] rfl
      have hD9 := hD.sub (ws' := [(mo, .inr (12, mdG r 1 (nI (tkN x tk)) (nI sn) (nI tx) (nI lz) (nI az) (nI na) (nI nt) (nI nr) mw ml mk dq))]) [0] (by decide) rfl
      exact W.iret (v := 0) hx hb hr (fun t ht hW => ⟨⟨_, 1, rfl, Or.inr ⟨rfl, hno9⟩, by rw [ht]; exact hP9, va_K.moved hW.alike hK, hD9⟩, hS.F ht⟩) hS.2.2 d_Md_ticks_37
  · skip
    refine lv_aload_n hx hb d_Md_ticks_0 rfl (lv_at hl 0 rfl) ?_
    refine lv_iload_n hx hb d_Md_ticks_1 rfl (lv_at hl 1 rfl) ?_
    refine lv_iconst (v := 1) hx hb d_Md_ticks_2 (by decide) ?_
    refine lv_icmp_lt (tgt := 29) hx hb d_Md_ticks_3 (by decide) (fun hc10 => ?_) (fun hc10 => ?_)
    · skip
      have n11 : xn < 1 := (nI_ltI (a := xn) (b := 1) (by omega) (by omega)).mp hc10
      refine lv_iconst (v := 0) hx hb d_Md_ticks_29 (by decide) ?_
      have hPc := hP.sub (ws' := [(mo, .inr (12, mdG r cd (nI tk) (nI sn) (nI tx) (nI lz) (nI az) (nI na) (nI nt) (nI nr) mw ml mk dq))]) [0] rfl
      have hDc := hD.sub (ws' := [(mo, .inr (12, mdG r cd (nI tk) (nI sn) (nI tx) (nI lz) (nI az) (nI na) (nI nt) (nI nr) mw ml mk dq))]) [0] (by decide) rfl
      have hFc := va_free (wc := [(mo, .inr (12, mdG r cd (nI tk) (nI sn) (nI tx) (nI lz) (nI az) (nI na) (nI nt) (nI nr) mw ml mk dq))]) hD hS hA [0] rfl
      refine va_calli (va_runV (C := "DoorServerModel") (As := [.int 0]) (rest := []) ⟨hx, hb, hml, hown, hg⟩ (m_goes0 l dC dI cT s.heap.size mo r cd (nI tk) sn tx lz az na nt nr mw ml mk dq ) (cwV 1 hg (gI (List.forall_mem_append.mpr ⟨List.forall_mem_cons.mpr ⟨k_1165, List.forall_mem_cons.mpr ⟨k_1167, List.forall_mem_cons.mpr ⟨(big_sel (q := y_Md_goes) (n := 45) (by decide +kernel)), List.forall_mem_cons.mpr ⟨k_13, fun _ h => absurd h List.not_mem_nil⟩⟩⟩⟩, List.forall_mem_cons.mpr ⟨k_1168, fun _ h => h⟩⟩)) rfl rfl rfl (by decide +kernel) ⟨Nat.le_of_ble_eq_true rfl, Nat.le_of_ble_eq_true rfl⟩) ⟨fun a U g mk q => by obtain ⟨q0, q1, qP, qK, qD⟩ := q; exact ⟨q0, q1, qP, va_K.moved (u := U) (U := U.calling g mk a) (Vm.Alike.refl U.vm) qK, qD⟩, va_recv (q0 := 0) (ci := 12) hK hP rfl rfl, fun U hU hW => ⟨rfl, by rw [hU], by rw [hU]; exact hPc, va_K.moved hW.alike hK, hDc.weaken (fun _ _ _ _ => trivial)⟩⟩ rfl rfl hl.1 rfl (lv_room (Nat.le_of_ble_eq_true rfl)) d_Md_ticks_30 ⟨Nat.le_of_ble_eq_true rfl, Nat.le_of_ble_eq_true rfl⟩) hS (fun q _ h => hFc q h) hFc (fun rv9 u t H1 locs ht hvm hw hB hz1 hk1 hS => ?_)
      try dsimp only at hw hB
      obtain ⟨hP1, hK1, hD1⟩ := hB
      rw [ht] at hP1
      obtain ⟨rfl, hw⟩ := hw
      obtain ⟨hP, hD⟩ := va_join (wr := []) (w1 := [(mo, .inr (12, mdG r 1 (nI tk) (nI sn) (nI tx) (nI lz) (nI az) (nI na) (nI nt) (nI nr) mw ml mk dq))]) hP hD [0] [] rfl rfl (by decide) (by decide) hk1 hFc hP1 hD1
      have hw13 := hw
      clear hPc hDc hFc hz1 hk1 hP1 hK1 hD1
      generalize H1 = H at hP hS ⊢
      have hP : va_P (dC, dI) vcl [(mo, .inr (12, mdG r 1 (nI tk) (nI sn) (nI tx) (nI lz) (nI az) (nI na) (nI nt) (nI nr) mw ml mk dq))] H := hP
      have hD : va_D A [(mo, .inr (12, mdG r 1 (nI tk) (nI sn) (nI tx) (nI lz) (nI az) (nI na) (nI nt) (nI nr) mw ml mk dq))] := hD
      refine lv_if_ne (tgt := 38) hx hb d_Md_ticks_33 (by decide) (fun hn9 => absurd hn9 (by decide)) (fun hc14 => ?_)
      refine lv_iconst (v := 0) hx hb d_Md_ticks_36 (by decide) ?_
      have hno9 : ¬ ∃ k : Nat, TKG (nI xn) tk k := fun ⟨k, h⟩ => by have h2 := h.2; have e9 := (nI_eq (a := xn) (b := k) (by omega) (by omega)).mp h.1; omega
      have e9 := tkN_no hno9
      rw [e9] at hP hD
      have hP : va_P (dC, dI) vcl [(mo, .inr (12, mdG r 1 (nI (tkN (nI xn) tk)) (nI sn) (nI tx) (nI lz) (nI az) (nI na) (nI nt) (nI nr) mw ml mk dq))] H := hP
      have hD : va_D A [(mo, .inr (12, mdG r 1 (nI (tkN (nI xn) tk)) (nI sn) (nI tx) (nI lz) (nI az) (nI na) (nI nt) (nI nr) mw ml mk dq))] := hD
      have hP9 := hP.sub (ws' := [(mo, .inr (12, mdG r 1 (nI (tkN (nI xn) tk)) (nI sn) (nI tx) (nI lz) (nI az) (nI na) (nI nt) (nI nr) mw ml mk dq))]) [0] rfl
      have hD9 := hD.sub (ws' := [(mo, .inr (12, mdG r 1 (nI (tkN (nI xn) tk)) (nI sn) (nI tx) (nI lz) (nI az) (nI na) (nI nt) (nI nr) mw ml mk dq))]) [0] (by decide) rfl
      exact W.iret (v := 0) hx hb hr (fun t ht hW => ⟨⟨_, 1, rfl, Or.inr ⟨rfl, hno9⟩, by rw [ht]; exact hP9, va_K.moved hW.alike hK, hD9⟩, hS.F ht⟩) hS.2.2 d_Md_ticks_37
    · skip
      have n12 : 1 ≤ xn := Nat.not_lt.mp (fun h7 => hc10 ((nI_ltI (a := xn) (b := 1) (by omega) (by omega)).mpr h7))
      refine lv_iload_n hx hb d_Md_ticks_6 rfl (lv_at hl 1 rfl) ?_
      refine lv_sipush (v := 1000) hx hb d_Md_ticks_7 (by decide) ?_
      refine lv_icmp_gt (tgt := 29) hx hb d_Md_ticks_10 (by decide) (fun hc15 => ?_) (fun hc15 => ?_)
      · skip
        have n16 : 1000 < xn := (nI_ltI (a := 1000) (b := xn) (by omega) (by omega)).mp hc15
        refine lv_iconst (v := 0) hx hb d_Md_ticks_29 (by decide) ?_
        have hPc := hP.sub (ws' := [(mo, .inr (12, mdG r cd (nI tk) (nI sn) (nI tx) (nI lz) (nI az) (nI na) (nI nt) (nI nr) mw ml mk dq))]) [0] rfl
        have hDc := hD.sub (ws' := [(mo, .inr (12, mdG r cd (nI tk) (nI sn) (nI tx) (nI lz) (nI az) (nI na) (nI nt) (nI nr) mw ml mk dq))]) [0] (by decide) rfl
        have hFc := va_free (wc := [(mo, .inr (12, mdG r cd (nI tk) (nI sn) (nI tx) (nI lz) (nI az) (nI na) (nI nt) (nI nr) mw ml mk dq))]) hD hS hA [0] rfl
        refine va_calli (va_runV (C := "DoorServerModel") (As := [.int 0]) (rest := []) ⟨hx, hb, hml, hown, hg⟩ (m_goes0 l dC dI cT s.heap.size mo r cd (nI tk) sn tx lz az na nt nr mw ml mk dq ) (cwV 1 hg (gI (List.forall_mem_append.mpr ⟨List.forall_mem_cons.mpr ⟨k_1165, List.forall_mem_cons.mpr ⟨k_1167, List.forall_mem_cons.mpr ⟨(big_sel (q := y_Md_goes) (n := 45) (by decide +kernel)), List.forall_mem_cons.mpr ⟨k_13, fun _ h => absurd h List.not_mem_nil⟩⟩⟩⟩, List.forall_mem_cons.mpr ⟨k_1168, fun _ h => h⟩⟩)) rfl rfl rfl (by decide +kernel) ⟨Nat.le_of_ble_eq_true rfl, Nat.le_of_ble_eq_true rfl⟩) ⟨fun a U g mk q => by obtain ⟨q0, q1, qP, qK, qD⟩ := q; exact ⟨q0, q1, qP, va_K.moved (u := U) (U := U.calling g mk a) (Vm.Alike.refl U.vm) qK, qD⟩, va_recv (q0 := 0) (ci := 12) hK hP rfl rfl, fun U hU hW => ⟨rfl, by rw [hU], by rw [hU]; exact hPc, va_K.moved hW.alike hK, hDc.weaken (fun _ _ _ _ => trivial)⟩⟩ rfl rfl hl.1 rfl (lv_room (Nat.le_of_ble_eq_true rfl)) d_Md_ticks_30 ⟨Nat.le_of_ble_eq_true rfl, Nat.le_of_ble_eq_true rfl⟩) hS (fun q _ h => hFc q h) hFc (fun rv9 u t H1 locs ht hvm hw hB hz1 hk1 hS => ?_)
        try dsimp only at hw hB
        obtain ⟨hP1, hK1, hD1⟩ := hB
        rw [ht] at hP1
        obtain ⟨rfl, hw⟩ := hw
        obtain ⟨hP, hD⟩ := va_join (wr := []) (w1 := [(mo, .inr (12, mdG r 1 (nI tk) (nI sn) (nI tx) (nI lz) (nI az) (nI na) (nI nt) (nI nr) mw ml mk dq))]) hP hD [0] [] rfl rfl (by decide) (by decide) hk1 hFc hP1 hD1
        have hw18 := hw
        clear hPc hDc hFc hz1 hk1 hP1 hK1 hD1
        generalize H1 = H at hP hS ⊢
        have hP : va_P (dC, dI) vcl [(mo, .inr (12, mdG r 1 (nI tk) (nI sn) (nI tx) (nI lz) (nI az) (nI na) (nI nt) (nI nr) mw ml mk dq))] H := hP
        have hD : va_D A [(mo, .inr (12, mdG r 1 (nI tk) (nI sn) (nI tx) (nI lz) (nI az) (nI na) (nI nt) (nI nr) mw ml mk dq))] := hD
        refine lv_if_ne (tgt := 38) hx hb d_Md_ticks_33 (by decide) (fun hn9 => absurd hn9 (by decide)) (fun hc19 => ?_)
        refine lv_iconst (v := 0) hx hb d_Md_ticks_36 (by decide) ?_
        have hno9 : ¬ ∃ k : Nat, TKG (nI xn) tk k := fun ⟨k, h⟩ => by have h2 := h.2; have e9 := (nI_eq (a := xn) (b := k) (by omega) (by omega)).mp h.1; omega
        have e9 := tkN_no hno9
        rw [e9] at hP hD
        have hP : va_P (dC, dI) vcl [(mo, .inr (12, mdG r 1 (nI (tkN (nI xn) tk)) (nI sn) (nI tx) (nI lz) (nI az) (nI na) (nI nt) (nI nr) mw ml mk dq))] H := hP
        have hD : va_D A [(mo, .inr (12, mdG r 1 (nI (tkN (nI xn) tk)) (nI sn) (nI tx) (nI lz) (nI az) (nI na) (nI nt) (nI nr) mw ml mk dq))] := hD
        have hP9 := hP.sub (ws' := [(mo, .inr (12, mdG r 1 (nI (tkN (nI xn) tk)) (nI sn) (nI tx) (nI lz) (nI az) (nI na) (nI nt) (nI nr) mw ml mk dq))]) [0] rfl
        have hD9 := hD.sub (ws' := [(mo, .inr (12, mdG r 1 (nI (tkN (nI xn) tk)) (nI sn) (nI tx) (nI lz) (nI az) (nI na) (nI nt) (nI nr) mw ml mk dq))]) [0] (by decide) rfl
        exact W.iret (v := 0) hx hb hr (fun t ht hW => ⟨⟨_, 1, rfl, Or.inr ⟨rfl, hno9⟩, by rw [ht]; exact hP9, va_K.moved hW.alike hK, hD9⟩, hS.F ht⟩) hS.2.2 d_Md_ticks_37
      · skip
        have n17 : xn ≤ 1000 := Nat.not_lt.mp (fun h7 => hc15 ((nI_ltI (a := 1000) (b := xn) (by omega) (by omega)).mpr h7))
        refine lv_aload_n hx hb d_Md_ticks_13 rfl (lv_at hl 0 rfl) ?_
        refine va_get (D := (dC, dI)) (ci := 12) (v := (.int (nI tk))) (C := R_Md) (T := F_Md) (N := 45) hx hb hg in_Md hown hK hP 0 rfl rfl 2 (by decide) (hg _ k_1022) (fun _ h9 => h9) rfl d_Md_ticks_14 ?_
        refine lv_iload_n hx hb d_Md_ticks_17 rfl (lv_at hl 1 rfl) ?_
        refine lv_iadd hx hb d_Md_ticks_18 ?_
        refine lv_topi (fun x21 e20 => ?_)
        obtain rfl : x21 = nI (tk + xn) := by rw [e20]; exact nI_add tk xn
        refine lv_ldcw (v := 1000000) hx hb hown (hg _ k_1405) d_Md_ticks_19 ?_
        refine lv_icmp_gt (tgt := 29) hx hb d_Md_ticks_22 (by decide) (fun hc22 => ?_) (fun hc22 => ?_)
        · skip
          have n23 : 1000000 < tk + xn := (nI_ltI (a := 1000000) (b := tk + xn) (by omega) (by omega)).mp hc22
          refine lv_iconst (v := 0) hx hb d_Md_ticks_29 (by decide) ?_
          have hPc := hP.sub (ws' := [(mo, .inr (12, mdG r cd (nI tk) (nI sn) (nI tx) (nI lz) (nI az) (nI na) (nI nt) (nI nr) mw ml mk dq))]) [0] rfl
          have hDc := hD.sub (ws' := [(mo, .inr (12, mdG r cd (nI tk) (nI sn) (nI tx) (nI lz) (nI az) (nI na) (nI nt) (nI nr) mw ml mk dq))]) [0] (by decide) rfl
          have hFc := va_free (wc := [(mo, .inr (12, mdG r cd (nI tk) (nI sn) (nI tx) (nI lz) (nI az) (nI na) (nI nt) (nI nr) mw ml mk dq))]) hD hS hA [0] rfl
          refine va_calli (va_runV (C := "DoorServerModel") (As := [.int 0]) (rest := []) ⟨hx, hb, hml, hown, hg⟩ (m_goes0 l dC dI cT s.heap.size mo r cd (nI tk) sn tx lz az na nt nr mw ml mk dq ) (cwV 1 hg (gI (List.forall_mem_append.mpr ⟨List.forall_mem_cons.mpr ⟨k_1165, List.forall_mem_cons.mpr ⟨k_1167, List.forall_mem_cons.mpr ⟨(big_sel (q := y_Md_goes) (n := 45) (by decide +kernel)), List.forall_mem_cons.mpr ⟨k_13, fun _ h => absurd h List.not_mem_nil⟩⟩⟩⟩, List.forall_mem_cons.mpr ⟨k_1168, fun _ h => h⟩⟩)) rfl rfl rfl (by decide +kernel) ⟨Nat.le_of_ble_eq_true rfl, Nat.le_of_ble_eq_true rfl⟩) ⟨fun a U g mk q => by obtain ⟨q0, q1, qP, qK, qD⟩ := q; exact ⟨q0, q1, qP, va_K.moved (u := U) (U := U.calling g mk a) (Vm.Alike.refl U.vm) qK, qD⟩, va_recv (q0 := 0) (ci := 12) hK hP rfl rfl, fun U hU hW => ⟨rfl, by rw [hU], by rw [hU]; exact hPc, va_K.moved hW.alike hK, hDc.weaken (fun _ _ _ _ => trivial)⟩⟩ rfl rfl hl.1 rfl (lv_room (Nat.le_of_ble_eq_true rfl)) d_Md_ticks_30 ⟨Nat.le_of_ble_eq_true rfl, Nat.le_of_ble_eq_true rfl⟩) hS (fun q _ h => hFc q h) hFc (fun rv9 u t H1 locs ht hvm hw hB hz1 hk1 hS => ?_)
          try dsimp only at hw hB
          obtain ⟨hP1, hK1, hD1⟩ := hB
          rw [ht] at hP1
          obtain ⟨rfl, hw⟩ := hw
          obtain ⟨hP, hD⟩ := va_join (wr := []) (w1 := [(mo, .inr (12, mdG r 1 (nI tk) (nI sn) (nI tx) (nI lz) (nI az) (nI na) (nI nt) (nI nr) mw ml mk dq))]) hP hD [0] [] rfl rfl (by decide) (by decide) hk1 hFc hP1 hD1
          have hw25 := hw
          clear hPc hDc hFc hz1 hk1 hP1 hK1 hD1
          generalize H1 = H at hP hS ⊢
          have hP : va_P (dC, dI) vcl [(mo, .inr (12, mdG r 1 (nI tk) (nI sn) (nI tx) (nI lz) (nI az) (nI na) (nI nt) (nI nr) mw ml mk dq))] H := hP
          have hD : va_D A [(mo, .inr (12, mdG r 1 (nI tk) (nI sn) (nI tx) (nI lz) (nI az) (nI na) (nI nt) (nI nr) mw ml mk dq))] := hD
          refine lv_if_ne (tgt := 38) hx hb d_Md_ticks_33 (by decide) (fun hn9 => absurd hn9 (by decide)) (fun hc26 => ?_)
          refine lv_iconst (v := 0) hx hb d_Md_ticks_36 (by decide) ?_
          have hno9 : ¬ ∃ k : Nat, TKG (nI xn) tk k := fun ⟨k, h⟩ => by have h2 := h.2; have e9 := (nI_eq (a := xn) (b := k) (by omega) (by omega)).mp h.1; omega
          have e9 := tkN_no hno9
          rw [e9] at hP hD
          have hP : va_P (dC, dI) vcl [(mo, .inr (12, mdG r 1 (nI (tkN (nI xn) tk)) (nI sn) (nI tx) (nI lz) (nI az) (nI na) (nI nt) (nI nr) mw ml mk dq))] H := hP
          have hD : va_D A [(mo, .inr (12, mdG r 1 (nI (tkN (nI xn) tk)) (nI sn) (nI tx) (nI lz) (nI az) (nI na) (nI nt) (nI nr) mw ml mk dq))] := hD
          have hP9 := hP.sub (ws' := [(mo, .inr (12, mdG r 1 (nI (tkN (nI xn) tk)) (nI sn) (nI tx) (nI lz) (nI az) (nI na) (nI nt) (nI nr) mw ml mk dq))]) [0] rfl
          have hD9 := hD.sub (ws' := [(mo, .inr (12, mdG r 1 (nI (tkN (nI xn) tk)) (nI sn) (nI tx) (nI lz) (nI az) (nI na) (nI nt) (nI nr) mw ml mk dq))]) [0] (by decide) rfl
          exact W.iret (v := 0) hx hb hr (fun t ht hW => ⟨⟨_, 1, rfl, Or.inr ⟨rfl, hno9⟩, by rw [ht]; exact hP9, va_K.moved hW.alike hK, hD9⟩, hS.F ht⟩) hS.2.2 d_Md_ticks_37
        · skip
          have n24 : tk + xn ≤ 1000000 := Nat.not_lt.mp (fun h7 => hc22 ((nI_ltI (a := 1000000) (b := tk + xn) (by omega) (by omega)).mpr h7))
          refine lv_iconst (v := 1) hx hb d_Md_ticks_25 (by decide) ?_
          refine lv_goto (tgt := 30) hx hb d_Md_ticks_26 (by decide) ?_
          have hPc := hP.sub (ws' := [(mo, .inr (12, mdG r cd (nI tk) (nI sn) (nI tx) (nI lz) (nI az) (nI na) (nI nt) (nI nr) mw ml mk dq))]) [0] rfl
          have hDc := hD.sub (ws' := [(mo, .inr (12, mdG r cd (nI tk) (nI sn) (nI tx) (nI lz) (nI az) (nI na) (nI nt) (nI nr) mw ml mk dq))]) [0] (by decide) rfl
          have hFc := va_free (wc := [(mo, .inr (12, mdG r cd (nI tk) (nI sn) (nI tx) (nI lz) (nI az) (nI na) (nI nt) (nI nr) mw ml mk dq))]) hD hS hA [0] rfl
          refine va_calli (va_runV (C := "DoorServerModel") (As := [.int 1]) (rest := []) ⟨hx, hb, hml, hown, hg⟩ (m_goes1 l dC dI cT s.heap.size mo r cd (nI tk) sn tx lz az na nt nr mw ml mk dq ) (cwV 1 hg (gI (List.forall_mem_append.mpr ⟨List.forall_mem_cons.mpr ⟨k_1165, List.forall_mem_cons.mpr ⟨k_1167, List.forall_mem_cons.mpr ⟨(big_sel (q := y_Md_goes) (n := 45) (by decide +kernel)), List.forall_mem_cons.mpr ⟨k_13, fun _ h => absurd h List.not_mem_nil⟩⟩⟩⟩, List.forall_mem_cons.mpr ⟨k_1168, fun _ h => h⟩⟩)) rfl rfl rfl (by decide +kernel) ⟨Nat.le_of_ble_eq_true rfl, Nat.le_of_ble_eq_true rfl⟩) ⟨fun a U g mk q => by obtain ⟨q0, q1, qP, qK, qD⟩ := q; exact ⟨q0, q1, qP, va_K.moved (u := U) (U := U.calling g mk a) (Vm.Alike.refl U.vm) qK, qD⟩, va_recv (q0 := 0) (ci := 12) hK hP rfl rfl, fun U hU hW => ⟨rfl, by rw [hU], by rw [hU]; exact hPc, va_K.moved hW.alike hK, hDc.weaken (fun _ _ _ _ => trivial)⟩⟩ rfl rfl hl.1 rfl (lv_room (Nat.le_of_ble_eq_true rfl)) d_Md_ticks_30 ⟨Nat.le_of_ble_eq_true rfl, Nat.le_of_ble_eq_true rfl⟩) hS (fun q _ h => hFc q h) hFc (fun rv9 u t H1 locs ht hvm hw hB hz1 hk1 hS => ?_)
          try dsimp only at hw hB
          obtain ⟨hP1, hK1, hD1⟩ := hB
          rw [ht] at hP1
          obtain ⟨rfl, hw⟩ := hw
          obtain ⟨hP, hD⟩ := va_join (wr := []) (w1 := [(mo, .inr (12, mdG r 0 (nI tk) (nI sn) (nI tx) (nI lz) (nI az) (nI na) (nI nt) (nI nr) mw ml mk dq))]) hP hD [0] [] rfl rfl (by decide) (by decide) hk1 hFc hP1 hD1
          have hw27 := hw
          clear hPc hDc hFc hz1 hk1 hP1 hK1 hD1
          generalize H1 = H at hP hS ⊢
          have hP : va_P (dC, dI) vcl [(mo, .inr (12, mdG r 0 (nI tk) (nI sn) (nI tx) (nI lz) (nI az) (nI na) (nI nt) (nI nr) mw ml mk dq))] H := hP
          have hD : va_D A [(mo, .inr (12, mdG r 0 (nI tk) (nI sn) (nI tx) (nI lz) (nI az) (nI na) (nI nt) (nI nr) mw ml mk dq))] := hD
          refine lv_if_ne (tgt := 38) hx hb d_Md_ticks_33 (by decide) (fun hc28 => ?_) (fun hn9 => absurd hn9 (by decide))
          refine lv_aload_n hx hb d_Md_ticks_38 rfl (lv_at hl 0 rfl) ?_
          refine lv_dup hx hb d_Md_ticks_39 rfl ?_
          refine va_get (D := (dC, dI)) (ci := 12) (v := (.int (nI tk))) (C := R_Md) (T := F_Md) (N := 45) hx hb hg in_Md hown hK hP 0 rfl rfl 2 (by decide) (hg _ k_1022) (fun _ h9 => h9) rfl d_Md_ticks_40 ?_
          refine lv_iload_n hx hb d_Md_ticks_43 rfl (lv_at hl 1 rfl) ?_
          refine lv_iadd hx hb d_Md_ticks_44 ?_
          refine lv_topi (fun x30 e29 => ?_)
          obtain rfl : x30 = nI (tk + xn) := by rw [e29]; exact nI_add tk xn
          refine va_put (D := (dC, dI)) (ci := 12) (v := (.int (nI (tk + xn)))) (ty := .int) (C := R_Md) (T := F_Md) (N := 45) hx hb hg in_Md t_Md tok_Md nm_Md hown hK hP hD hS 0 rfl rfl 2 (by decide) (hg _ k_1022) (fun _ h9 => h9) rfl (by decide +kernel) rfl rfl (Nat.le_of_ble_eq_true rfl) d_Md_ticks_45 (fun H locs hP hD hS => ?_)
          have hP : va_P (dC, dI) vcl [(mo, .inr (12, mdG r 0 (nI (tk + xn)) (nI sn) (nI tx) (nI lz) (nI az) (nI na) (nI nt) (nI nr) mw ml mk dq))] H := hP
          have hD : va_D A [(mo, .inr (12, mdG r 0 (nI (tk + xn)) (nI sn) (nI tx) (nI lz) (nI az) (nI na) (nI nt) (nI nr) mw ml mk dq))] := hD
          refine lv_aload_n hx hb d_Md_ticks_48 rfl (lv_at hl 0 rfl) ?_
          refine va_get (D := (dC, dI)) (ci := 12) (v := (.int (nI (tk + xn)))) (C := R_Md) (T := F_Md) (N := 45) hx hb hg in_Md hown hK hP 0 rfl rfl 2 (by decide) (hg _ k_1022) (fun _ h9 => h9) rfl d_Md_ticks_49 ?_
          have e9 := tkN_go (k := xn) (tk := tk) (by omega) (by omega) (by omega)
          rw [e9] at hP hD
          have hP : va_P (dC, dI) vcl [(mo, .inr (12, mdG r 0 (nI (tkN (nI xn) tk)) (nI sn) (nI tx) (nI lz) (nI az) (nI na) (nI nt) (nI nr) mw ml mk dq))] H := hP
          have hD : va_D A [(mo, .inr (12, mdG r 0 (nI (tkN (nI xn) tk)) (nI sn) (nI tx) (nI lz) (nI az) (nI na) (nI nt) (nI nr) mw ml mk dq))] := hD
          refine lv_topi (fun x32 e31 => ?_)
          obtain rfl : x32 = nI (tkN (nI xn) tk) := by rw [e31]; rw [← e9]
          have hP9 := hP.sub (ws' := [(mo, .inr (12, mdG r 0 (nI (tkN (nI xn) tk)) (nI sn) (nI tx) (nI lz) (nI az) (nI na) (nI nt) (nI nr) mw ml mk dq))]) [0] rfl
          have hD9 := hD.sub (ws' := [(mo, .inr (12, mdG r 0 (nI (tkN (nI xn) tk)) (nI sn) (nI tx) (nI lz) (nI az) (nI na) (nI nt) (nI nr) mw ml mk dq))]) [0] (by decide) rfl
          exact W.iret (v := nI (tkN (nI xn) tk)) hx hb hr (fun t ht hW => ⟨⟨_, 0, rfl, Or.inl ⟨rfl, rfl, xn, rfl, by omega, by omega, by omega⟩, by rw [ht]; exact hP9, va_K.moved hW.alike hK, hD9⟩, hS.F ht⟩) hS.2.2 d_Md_ticks_52
set_option maxHeartbeats 4000000 in
set_option maxRecDepth 100000 in
/-- the law: ticks -/
theorem lx_ticks (l : Launch) (dC : Nat → ClassId) (dI : Nat → Nat → Nat) (cT : Nat → ClassId) (sz : Nat) (ds : Nat) (dr : Nat) (sv : Nat) (rr : Nat) (g0 : Nat) (se : Nat) (pw : Nat) (ty : Nat) (an : Nat) (aw : Nat) (ts : Nat) (ss : Nat) (rq : Nat) (n3 : Int32) (n4 : Int32) (tk : Nat) (x : Int32) (ou : Nat) (fo : Nat → Int64) (hfl : l.flags = pinnedFlags ++ [noTraceFlag]) (htk : tk ≤ 1000000) : Met l y_Lw_ticks (Cond.codeWith y_Lw_ticks b_Lw_ticks 4 (Option.some Jvm.ClassFile.FieldType.int) [((0 : Nat), (9 : Nat), (12 : Nat), (13 : Nat))] :: BIG) ({ frames := 10, cells := 1, slots := 6, locals := 175 }) (va_Pc [.ref ds, .int x, .ref ou] (fun U => U.heap.size = sz ∧ va_P (dC, dI) vcl [(ds, .inr (0, [.ref dr, .ref sv])), (sv, .inr (5, [.ref se, .ref pw, .ref g0, .ref ty, .ref an, .ref aw, .ref ts, .ref ss, .ref rq, .int (nI tk), .int n3, .int n4])), (ou, .inl ((cT 1), 1, .inr (.inl fo)))] U.heap ∧ va_K (dC, dI) vcl (tyL cT) U ∧ va_D (fun _ => True) [(ds, .inr (0, [.ref dr, .ref sv])), (sv, .inr (5, [.ref se, .ref pw, .ref g0, .ref ty, .ref an, .ref aw, .ref ts, .ref ss, .ref rq, .int (nI tk), .int n3, .int n4])), (ou, .inl ((cT 1), 1, .inr (.inl fo)))] ∧ xs_T (fun _ => False) U U.heap)) (va_Qi (S := (Nat → Int64)) (fun rv9 u => match u with | fo2 => ((rv9 = 0 ∧ fo2 (0 : Int32).toNatClampNeg = (nI (tkN x tk)).toInt64 ∧ ∃ k : Nat, TKG x tk k) ∨ (rv9 = 1 ∧ ¬ ∃ k : Nat, TKG x tk k)) ∧ tkN x tk ≤ 1000000) (fun u t => match u with | fo2 => va_P (dC, dI) vcl [(ds, .inr (0, [.ref dr, .ref sv])), (sv, .inr (5, [.ref se, .ref pw, .ref g0, .ref ty, .ref an, .ref aw, .ref ts, .ref ss, .ref rq, .int (nI (tkN x tk)), .int n3, .int n4])), (ou, .inl ((cT 1), 1, .inr (.inl fo2)))] t.heap ∧ va_K (dC, dI) vcl (tyL cT) t ∧ va_D (va_A [(ds, .inr (0, [.ref dr, .ref sv])), (sv, .inr (5, [.ref se, .ref pw, .ref g0, .ref ty, .ref an, .ref aw, .ref ts, .ref ss, .ref rq, .int (nI tk), .int n3, .int n4])), (ou, .inl ((cT 1), 1, .inr (.inl fo)))] sz) [(ds, .inr (0, [.ref dr, .ref sv])), (sv, .inr (5, [.ref se, .ref pw, .ref g0, .ref ty, .ref an, .ref aw, .ref ts, .ref ss, .ref rq, .int (nI (tkN x tk)), .int n3, .int n4])), (ou, .inl ((cT 1), 1, .inr (.inl fo2)))]) (va_A [(ds, .inr (0, [.ref dr, .ref sv])), (sv, .inr (5, [.ref se, .ref pw, .ref g0, .ref ty, .ref an, .ref aw, .ref ts, .ref ss, .ref rq, .int (nI tk), .int n3, .int n4])), (ou, .inl ((cT 1), 1, .inr (.inl fo)))] sz)) 1 6 (va_A [(ds, .inr (0, [.ref dr, .ref sv])), (sv, .inr (5, [.ref se, .ref pw, .ref g0, .ref ty, .ref an, .ref aw, .ref ts, .ref ss, .ref rq, .int (nI tk), .int n3, .int n4])), (ou, .inl ((cT 1), 1, .inr (.inl fo)))] sz) := by
  refine xw_Met (cc := b_Lw_ticks) (maxL := 4) (ret := (Option.some Jvm.ClassFile.FieldType.int)) (hh := [((0 : Nat), (9 : Nat), (12 : Nat), (13 : Nat))]) (by decide) rfl ?_
  intro p e s m args below meth c s₁ B hml hv htab
  obtain ⟨hargs, hsz, hP, hK, hD0, hE⟩ := hv
  have hx := B.exec
  have hb := B.bytes
  have hr := B.returns
  have hts := atoms_spec (ws := (Cond.codeWith y_Lw_ticks b_Lw_ticks 4 (Option.some Jvm.ClassFile.FieldType.int) [((0 : Nat), (9 : Nat), (12 : Nat), (13 : Nat))] :: BIG)) B.pre
  have hg : ∀ w ∈ BIG, w.before _ s = true := fun w h => hts w (List.mem_cons_of_mem _ h)
  have hown : s.vm.findClass "DoorServerLaw" = some m.cls := findClass_of_methodNamed B.named
  have hlocks := B.notSynchronized
  subst hsz
  have hD := hD0.self (sz := s.heap.size)
  generalize hAe : va_A [(ds, .inr (0, [.ref dr, .ref sv])), (sv, .inr (5, [.ref se, .ref pw, .ref g0, .ref ty, .ref an, .ref aw, .ref ts, .ref ss, .ref rq, .int (nI tk), .int n3, .int n4])), (ou, .inl ((cT 1), 1, .inr (.inl fo)))] s.heap.size = A at hD ⊢
  have hA : ∀ q : Nat, s.heap.size ≤ q → A q := fun q h => by rw [← hAe]; exact Or.inr h
  have hS : va_S A s.heap s.heap [] := va_S.rf
  have hl := lv_entry ([.ref ds, .int x, .ref ou]) (n := 4) (Nat.le_of_ble_eq_true rfl)
  refine W.eq (g2 := entryFrame m (List.toArray [.ref ds, .int x, .ref ou]) 4) (by rw [hargs]) ?_
  rw [lg_entry_eq]
  generalize (lg_sl ([.ref ds, .int x, .ref ou]) ++ List.replicate (4 - (lg_sl ([.ref ds, .int x, .ref ou])).length) Slot.unset).toArray = ls at hl ⊢
  have hl : lv_has ls 4 [(0, .ref ds), (1, .int x), (2, .ref ou)] := hl
  change W p l e ({ frames := 10, cells := 1, slots := 6, locals := 175 } : Room) s m args below meth c s.heap [] 0 0 _ _
  have hP : va_P (dC, dI) vcl [(ds, .inr (0, [.ref dr, .ref sv])), (sv, .inr (5, [.ref se, .ref pw, .ref g0, .ref ty, .ref an, .ref aw, .ref ts, .ref ss, .ref rq, .int (nI tk), .int n3, .int n4])), (ou, .inl ((cT 1), 1, .inr (.inl fo)))] s.heap := hP
  have hEz := hE
  refine lv_aload_n hx hb d_Lw_ticks_0 rfl (lv_at hl 2 rfl) ?_
  refine lv_iconst (v := 0) hx hb d_Lw_ticks_1 (by decide) ?_
  refine lv_aload_n hx hb d_Lw_ticks_2 rfl (lv_at hl 0 rfl) ?_
  refine lv_iload_n hx hb d_Lw_ticks_3 rfl (lv_at hl 1 rfl) ?_
  by_cases h1 : x < 1 ∨ 1000 < x
  · skip
    have hno9 : ¬ ∃ k : Nat, TKG x tk k := fun ⟨k, h⟩ => by have h2 := h.2; rw [h.1] at h1; exact h1.elim (nI_nlt (b := 1) h2.1 (by omega)) (nI_nlt (a := 1000) h2.2.1 (by decide))
    have hPx := hP.sub (ws' := []) [] rfl
    refine xk_callV (C := "DoorServer") (As := [.int x]) (rest := [.int 0, .ref ou]) ⟨hx, hb, hml, hown, hg⟩ (x_ticks1 l hfl dC dI cT ds x (h1)) (cwV 1 hg (gI (List.forall_mem_append.mpr ⟨List.forall_mem_cons.mpr ⟨k_922, List.forall_mem_cons.mpr ⟨k_923, List.forall_mem_cons.mpr ⟨k_924, List.forall_mem_cons.mpr ⟨k_1, fun _ h => absurd h List.not_mem_nil⟩⟩⟩⟩, List.forall_mem_cons.mpr ⟨k_925, fun _ h => h⟩⟩)) rfl rfl rfl (by decide +kernel) ⟨Nat.le_of_ble_eq_true rfl, Nat.le_of_ble_eq_true rfl⟩) ⟨fun a U g mk q => ?_, va_recv (q0 := 0) (ci := 0) hK hP rfl rfl, fun U hU hW => ⟨rfl, ?_, ?_, va_K.moved hW.alike hK⟩⟩ rfl hl.1 rfl (Nat.le_of_ble_eq_true rfl) d_Lw_ticks_4 ⟨Nat.le_of_ble_eq_true rfl, Nat.le_of_ble_eq_true rfl⟩ (xk_catch1 htab (by decide) (by decide) hown (hg _ k_382) (va_Nw.use rfl hEz.1.1.1) (fun x9 H1 hz1 hz2 hz3 => ?_))
    · obtain ⟨q0, q1, q2, q3⟩ := q
      exact ⟨q0, q1.at (State.WarmedH.refl _) (fun _ _ _ => rfl) (fun _ h => h), q2, va_K.moved (Vm.Alike.refl U.vm) q3⟩
    · show xz_T _ U U.heap; rw [hU]; exact hEz.1.at hW (fun _ _ _ => rfl) (fun _ h => h)
    · show va_P _ _ _ U.heap; rw [hU]; exact hPx
    · refine W.eq (g2 := F0 m 12 ls [.ref x9]) rfl ?_
      refine lv_astore_n (lv' := [(3, .ref x9), (0, .ref ds), (1, .int x), (2, .ref ou)]) hx hb d_Lw_ticks_12 rfl hl (by decide) rfl (fun ls hl => ?_)
      refine lv_iconst (v := 1) hx hb d_Lw_ticks_13 (by decide) ?_
      have hP : va_P (dC, dI) vcl [(ds, .inr (0, [.ref dr, .ref sv])), (sv, .inr (5, [.ref se, .ref pw, .ref g0, .ref ty, .ref an, .ref aw, .ref ts, .ref ss, .ref rq, .int (nI tk), .int n3, .int n4])), (ou, .inl ((cT 1), 1, .inr (.inl fo)))] H1 := hP.kept (fun k q hk => hz3 q.1 (hP k q hk).lt)
      rw [tkN_no hno9] at hP hD
      have hP9 := hP.sub (ws' := [(ds, .inr (0, [.ref dr, .ref sv])), (sv, .inr (5, [.ref se, .ref pw, .ref g0, .ref ty, .ref an, .ref aw, .ref ts, .ref ss, .ref rq, .int (nI (tkN x tk)), .int n3, .int n4])), (ou, .inl ((cT 1), 1, .inr (.inl fo)))]) [0, 1, 2] rfl
      have hD9 := hD.sub (ws' := [(ds, .inr (0, [.ref dr, .ref sv])), (sv, .inr (5, [.ref se, .ref pw, .ref g0, .ref ty, .ref an, .ref aw, .ref ts, .ref ss, .ref rq, .int (nI (tkN x tk)), .int n3, .int n4])), (ou, .inl ((cT 1), 1, .inr (.inl fo)))]) [0, 1, 2] (by decide) rfl
      exact W.iret (v := 1) hx hb hr (fun t ht hW => ⟨⟨_, fo, rfl, ⟨Or.inr ⟨rfl, hno9⟩, tkN_le htk⟩, by rw [ht]; exact hP9, va_K.moved hW.alike hK, hD9⟩, by rw [ht]; exact hz2, fun q h4 _ => by rw [ht]; exact hz3 q h4⟩) (fun q h => by cases h) d_Lw_ticks_14
  have h1a : ¬ (x < 1) := fun h9 => h1 (Or.inl h9)
  have h1b : ¬ (1000 < x) := fun h9 => h1 (Or.inr h9)
  obtain ⟨k, hk1, hk2, rfl⟩ := rng_1 (M := 1000) (n := 1000) (by decide) (by decide) h1a h1b
  by_cases h2 : 1000000 < tk + k
  · skip
    have hno9 : ¬ ∃ k9 : Nat, TKG (nI k) tk k9 := fun ⟨k9, h⟩ => by have h3 := h.2; have e9 := (nI_eq (a := k) (b := k9) (by omega) (by omega)).mp h.1; omega
    have hPx := hP.sub (ws' := [(ds, .inr (0, [.ref dr, .ref sv])), (sv, .inr (5, [.ref se, .ref pw, .ref g0, .ref ty, .ref an, .ref aw, .ref ts, .ref ss, .ref rq, .int (nI tk), .int n3, .int n4]))]) [0, 1] rfl
    refine xk_callV (C := "DoorServer") (As := [.int (nI k)]) (rest := [.int 0, .ref ou]) ⟨hx, hb, hml, hown, hg⟩ (x_ticks2 l hfl dC dI cT ds dr sv rr g0 se pw ty an aw ts ss rq n3 n4 tk k (hk1) (hk2) (htk) (h2)) (cwV 1 hg (gI (List.forall_mem_append.mpr ⟨List.forall_mem_cons.mpr ⟨k_922, List.forall_mem_cons.mpr ⟨k_923, List.forall_mem_cons.mpr ⟨k_924, List.forall_mem_cons.mpr ⟨k_1, fun _ h => absurd h List.not_mem_nil⟩⟩⟩⟩, List.forall_mem_cons.mpr ⟨k_925, fun _ h => h⟩⟩)) rfl rfl rfl (by decide +kernel) ⟨Nat.le_of_ble_eq_true rfl, Nat.le_of_ble_eq_true rfl⟩) ⟨fun a U g mk q => ?_, va_recv (q0 := 0) (ci := 0) hK hP rfl rfl, fun U hU hW => ⟨rfl, ?_, ?_, va_K.moved hW.alike hK⟩⟩ rfl hl.1 rfl (Nat.le_of_ble_eq_true rfl) d_Lw_ticks_4 ⟨Nat.le_of_ble_eq_true rfl, Nat.le_of_ble_eq_true rfl⟩ (xk_catch1 htab (by decide) (by decide) hown (hg _ k_382) (va_Nw.use rfl hEz.1.1.1) (fun x9 H1 hz1 hz2 hz3 => ?_))
    · obtain ⟨q0, q1, q2, q3⟩ := q
      exact ⟨q0, q1.at (State.WarmedH.refl _) (fun _ _ _ => rfl) (fun _ h => h), q2, va_K.moved (Vm.Alike.refl U.vm) q3⟩
    · show xz_T _ U U.heap; rw [hU]; exact hEz.1.at hW (fun _ _ _ => rfl) (fun _ h => h)
    · show va_P _ _ _ U.heap; rw [hU]; exact hPx
    · refine W.eq (g2 := F0 m 12 ls [.ref x9]) rfl ?_
      refine lv_astore_n (lv' := [(3, .ref x9), (0, .ref ds), (1, .int (nI k)), (2, .ref ou)]) hx hb d_Lw_ticks_12 rfl hl (by decide) rfl (fun ls hl => ?_)
      refine lv_iconst (v := 1) hx hb d_Lw_ticks_13 (by decide) ?_
      have hP : va_P (dC, dI) vcl [(ds, .inr (0, [.ref dr, .ref sv])), (sv, .inr (5, [.ref se, .ref pw, .ref g0, .ref ty, .ref an, .ref aw, .ref ts, .ref ss, .ref rq, .int (nI tk), .int n3, .int n4])), (ou, .inl ((cT 1), 1, .inr (.inl fo)))] H1 := hP.kept (fun k q hk => hz3 q.1 (hP k q hk).lt)
      rw [tkN_no hno9] at hP hD
      have hP9 := hP.sub (ws' := [(ds, .inr (0, [.ref dr, .ref sv])), (sv, .inr (5, [.ref se, .ref pw, .ref g0, .ref ty, .ref an, .ref aw, .ref ts, .ref ss, .ref rq, .int (nI (tkN (nI k) tk)), .int n3, .int n4])), (ou, .inl ((cT 1), 1, .inr (.inl fo)))]) [0, 1, 2] rfl
      have hD9 := hD.sub (ws' := [(ds, .inr (0, [.ref dr, .ref sv])), (sv, .inr (5, [.ref se, .ref pw, .ref g0, .ref ty, .ref an, .ref aw, .ref ts, .ref ss, .ref rq, .int (nI (tkN (nI k) tk)), .int n3, .int n4])), (ou, .inl ((cT 1), 1, .inr (.inl fo)))]) [0, 1, 2] (by decide) rfl
      exact W.iret (v := 1) hx hb hr (fun t ht hW => ⟨⟨_, fo, rfl, ⟨Or.inr ⟨rfl, hno9⟩, tkN_le htk⟩, by rw [ht]; exact hP9, va_K.moved hW.alike hK, hD9⟩, by rw [ht]; exact hz2, fun q h4 _ => by rw [ht]; exact hz3 q h4⟩) (fun q h => by cases h) d_Lw_ticks_14
  have hPc := hP.sub (ws' := [(ds, .inr (0, [.ref dr, .ref sv])), (sv, .inr (5, [.ref se, .ref pw, .ref g0, .ref ty, .ref an, .ref aw, .ref ts, .ref ss, .ref rq, .int (nI tk), .int n3, .int n4]))]) [0, 1] rfl
  have hDc := hD.sub (ws' := [(ds, .inr (0, [.ref dr, .ref sv])), (sv, .inr (5, [.ref se, .ref pw, .ref g0, .ref ty, .ref an, .ref aw, .ref ts, .ref ss, .ref rq, .int (nI tk), .int n3, .int n4]))]) [0, 1] (by decide) rfl
  have hFc := va_free (wc := [(ds, .inr (0, [.ref dr, .ref sv])), (sv, .inr (5, [.ref se, .ref pw, .ref g0, .ref ty, .ref an, .ref aw, .ref ts, .ref ss, .ref rq, .int (nI tk), .int n3, .int n4]))]) hD hS hA [0, 1] rfl
  refine va_calli (va_runV (C := "DoorServer") (As := [.int (nI k)]) (rest := [.int 0, .ref ou]) ⟨hx, hb, hml, hown, hg⟩ (c_ticks l dC dI cT s.heap.size ds dr sv rr g0 se pw ty an aw ts ss rq n3 n4 tk k (hk1) (hk2) (by omega)) (cwV 1 hg (gI (List.forall_mem_append.mpr ⟨List.forall_mem_cons.mpr ⟨k_922, List.forall_mem_cons.mpr ⟨k_923, List.forall_mem_cons.mpr ⟨k_924, List.forall_mem_cons.mpr ⟨k_1, fun _ h => absurd h List.not_mem_nil⟩⟩⟩⟩, List.forall_mem_cons.mpr ⟨k_925, fun _ h => h⟩⟩)) rfl rfl rfl (by decide +kernel) ⟨Nat.le_of_ble_eq_true rfl, Nat.le_of_ble_eq_true rfl⟩) ⟨fun a U g mk q => by obtain ⟨q0, q1, qP, qK, qD⟩ := q; exact ⟨q0, q1, qP, va_K.moved (u := U) (U := U.calling g mk a) (Vm.Alike.refl U.vm) qK, qD⟩, va_recv (q0 := 0) (ci := 0) hK hP rfl rfl, fun U hU hW => ⟨rfl, by rw [hU], by rw [hU]; exact hPc, va_K.moved hW.alike hK, hDc.weaken (fun _ _ _ _ => trivial)⟩⟩ rfl rfl hl.1 rfl (lv_room (Nat.le_of_ble_eq_true rfl)) d_Lw_ticks_4 ⟨Nat.le_of_ble_eq_true rfl, Nat.le_of_ble_eq_true rfl⟩) hS (fun q _ h => hFc q h) hFc (fun rv9 u t H1 locs ht hvm hw hB hz1 hk1 hS => ?_)
  try dsimp only at hw hB
  obtain ⟨hP1, hK1, hD1⟩ := hB
  rw [ht] at hP1
  obtain ⟨rfl, hw⟩ := hw
  obtain ⟨hP, hD⟩ := va_join (wr := [(ou, .inl ((cT 1), 1, .inr (.inl fo)))]) (w1 := [(ds, .inr (0, [.ref dr, .ref sv])), (sv, .inr (5, [.ref se, .ref pw, .ref g0, .ref ty, .ref an, .ref aw, .ref ts, .ref ss, .ref rq, .int (nI (tk + k)), .int n3, .int n4]))]) hP hD [0, 1] [2] rfl rfl (by decide) (by decide) hk1 hFc hP1 hD1
  have hw33 := hw
  clear hPc hDc hFc hz1 hk1 hP1 hK1 hD1
  generalize H1 = H at hP hS ⊢
  have hP : va_P (dC, dI) vcl [(ou, .inl ((cT 1), 1, .inr (.inl fo))), (ds, .inr (0, [.ref dr, .ref sv])), (sv, .inr (5, [.ref se, .ref pw, .ref g0, .ref ty, .ref an, .ref aw, .ref ts, .ref ss, .ref rq, .int (nI (tk + k)), .int n3, .int n4]))] H := hP
  have hD : va_D A [(ou, .inl ((cT 1), 1, .inr (.inl fo))), (ds, .inr (0, [.ref dr, .ref sv])), (sv, .inr (5, [.ref se, .ref pw, .ref g0, .ref ty, .ref an, .ref aw, .ref ts, .ref ss, .ref rq, .int (nI (tk + k)), .int n3, .int n4]))] := hD
  have e9 := tkN_go (k := k) (tk := tk) hk1 hk2 (by omega)
  rw [e9] at hP hD
  have hP : va_P (dC, dI) vcl [(ou, .inl ((cT 1), 1, .inr (.inl fo))), (ds, .inr (0, [.ref dr, .ref sv])), (sv, .inr (5, [.ref se, .ref pw, .ref g0, .ref ty, .ref an, .ref aw, .ref ts, .ref ss, .ref rq, .int (nI (tkN (nI k) tk)), .int n3, .int n4]))] H := hP
  have hD : va_D A [(ou, .inl ((cT 1), 1, .inr (.inl fo))), (ds, .inr (0, [.ref dr, .ref sv])), (sv, .inr (5, [.ref se, .ref pw, .ref g0, .ref ty, .ref an, .ref aw, .ref ts, .ref ss, .ref rq, .int (nI (tkN (nI k) tk)), .int n3, .int n4]))] := hD
  refine lv_topi (fun x35 e34 => ?_)
  obtain rfl : x35 = nI (tkN (nI k) tk) := by rw [e34]; rw [← e9]
  refine lv_i2l (v := (nI (tkN (nI k) tk)).toInt64) hx hb d_Lw_ticks_7 rfl ?_
  refine va_last hx hb hK hP hD hS 0 1 rfl rfl (i := 0) (vp_in_nI (n := 0) (N := 1) (by decide) (by decide)) d_Lw_ticks_8 (fun H locs hP hD hS => ?_)
  have hP : va_P (dC, dI) vcl [(ou, .inl ((cT 1), 1, .inr (.inl (vp_updL fo (0 : Int32).toNatClampNeg ((nI (tkN (nI k) tk)).toInt64))))), (ds, .inr (0, [.ref dr, .ref sv])), (sv, .inr (5, [.ref se, .ref pw, .ref g0, .ref ty, .ref an, .ref aw, .ref ts, .ref ss, .ref rq, .int (nI (tkN (nI k) tk)), .int n3, .int n4]))] H := hP
  have hD : va_D A [(ou, .inl ((cT 1), 1, .inr (.inl (vp_updL fo (0 : Int32).toNatClampNeg ((nI (tkN (nI k) tk)).toInt64))))), (ds, .inr (0, [.ref dr, .ref sv])), (sv, .inr (5, [.ref se, .ref pw, .ref g0, .ref ty, .ref an, .ref aw, .ref ts, .ref ss, .ref rq, .int (nI (tkN (nI k) tk)), .int n3, .int n4]))] := hD
  refine lv_goto (tgt := 15) hx hb d_Lw_ticks_9 (by decide) ?_
  refine lv_iconst (v := 0) hx hb d_Lw_ticks_15 (by decide) ?_
  refine W.widen (k := 1) (n := 6) (Nat.le_of_ble_eq_true rfl) (Nat.le_of_ble_eq_true rfl) ?_
  have hP9 := hP.sub (ws' := [(ds, .inr (0, [.ref dr, .ref sv])), (sv, .inr (5, [.ref se, .ref pw, .ref g0, .ref ty, .ref an, .ref aw, .ref ts, .ref ss, .ref rq, .int (nI (tkN (nI k) tk)), .int n3, .int n4])), (ou, .inl ((cT 1), 1, .inr (.inl (vp_updL fo (0 : Int32).toNatClampNeg ((nI (tkN (nI k) tk)).toInt64)))))]) [1, 2, 0] rfl
  have hD9 := hD.sub (ws' := [(ds, .inr (0, [.ref dr, .ref sv])), (sv, .inr (5, [.ref se, .ref pw, .ref g0, .ref ty, .ref an, .ref aw, .ref ts, .ref ss, .ref rq, .int (nI (tkN (nI k) tk)), .int n3, .int n4])), (ou, .inl ((cT 1), 1, .inr (.inl (vp_updL fo (0 : Int32).toNatClampNeg ((nI (tkN (nI k) tk)).toInt64)))))]) [1, 2, 0] (by decide) rfl
  exact W.iret (v := 0) hx hb hr (fun t ht hW => ⟨⟨_, vp_updL fo (0 : Int32).toNatClampNeg ((nI (tkN (nI k) tk)).toInt64), rfl, ⟨Or.inl ⟨rfl, pk_uLs, k, rfl, hk1, hk2, by omega⟩, tkN_le htk⟩, by rw [ht]; exact hP9, va_K.moved hW.alike hK, hD9⟩, hS.F ht⟩) hS.2.2 d_Lw_ticks_16
