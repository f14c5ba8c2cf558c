def OKS_ (x y : Int32) : Prop := ¬ x < 0 ∧ ¬ 3 < x ∧ ¬ y < 1 ∧ ¬ 40 < y
def OKD_ (x y : Int32) : Prop := ¬ x < 0 ∧ ¬ 255 < x ∧ ¬ y < 0 ∧ ¬ 255 < y
def OKL_ (x : Int32) : Prop := ¬ x < 0 ∧ ¬ 3 < x
theorem nlt3 {x : Int32} (h : nI 4 ≤ x) : 3 < x := (lt_le1 (a := 3) (b := nI 4) (by decide)).mpr h
theorem nlt40 {x : Int32} (h : nI 41 ≤ x) : 40 < x := (lt_le1 (a := 40) (b := nI 41) (by decide)).mpr h
set_option maxHeartbeats 4000000 in
set_option maxRecDepth 100000 in
/-- secret -/
theorem u_secret (l : Launch) (dC : Nat → ClassId) (dI : Nat → Nat → Nat) (cT : Nat → ClassId) (sz : Nat) (mo : Nat) (r : Nat → Nat) (cd : Int32) (tm : Int32) (sn : Nat) (tx : Nat) (lz : Nat) (az : Nat) (na : Nat) (nt : Nat) (nr : Nat) (mw : Int32) (ml : Int32) (mk : Int64) (dq : Int64) (f3 : Nat → Int32) (f4 : Nat → Int32) (x : Int32) (v : Int64) (y : Int32) (h4 : BD 40 4 f4) : Met l y_Md_secret (Cond.code y_Md_secret b_Md_secret 6 (Option.none : Option Jvm.ClassFile.FieldType) :: BIG) ({ frames := 1, cells := 0, slots := 0, locals := 22 }) (va_Pc [.ref mo, .int x, .long v, .int y] (fun U => U.heap.size = sz ∧ va_P (dC, dI) vcl [(mo, .inr (12, mdG r cd tm (nI sn) (nI tx) (nI lz) (nI az) (nI na) (nI nt) (nI nr) mw ml mk dq)), (r 3, .inl ((cT 0), 160, .inl f3)), (r 4, .inl ((cT 0), 4, .inl f4))] U.heap ∧ va_K (dC, dI) vcl (tyL cT) U ∧ va_D (fun _ => True) [(mo, .inr (12, mdG r cd tm (nI sn) (nI tx) (nI lz) (nI az) (nI na) (nI nt) (nI nr) mw ml mk dq)), (r 3, .inl ((cT 0), 160, .inl f3)), (r 4, .inl ((cT 0), 4, .inl f4))])) (va_Qv (S := (Nat → Int32) × (Nat → Int32) × Int32) (fun u => match u with | (g3, g4, cd2) => ((cd2 = 0 ∧ OKS_ x y) ∨ (cd2 = 1 ∧ ¬ OKS_ x y)) ∧ (BD 40 4 g4)) (fun u t => match u with | (g3, g4, cd2) => va_P (dC, dI) vcl [(mo, .inr (12, mdG r cd2 tm (nI sn) (nI tx) (nI lz) (nI az) (nI na) (nI nt) (nI nr) mw ml mk dq)), (r 3, .inl ((cT 0), 160, .inl g3)), (r 4, .inl ((cT 0), 4, .inl g4))] t.heap ∧ va_K (dC, dI) vcl (tyL cT) t ∧ va_D (va_A [(mo, .inr (12, mdG r cd tm (nI sn) (nI tx) (nI lz) (nI az) (nI na) (nI nt) (nI nr) mw ml mk dq)), (r 3, .inl ((cT 0), 160, .inl f3)), (r 4, .inl ((cT 0), 4, .inl f4))] sz) [(mo, .inr (12, mdG r cd2 tm (nI sn) (nI tx) (nI lz) (nI az) (nI na) (nI nt) (nI nr) mw ml mk dq)), (r 3, .inl ((cT 0), 160, .inl g3)), (r 4, .inl ((cT 0), 4, .inl g4))]) (va_A [(mo, .inr (12, mdG r cd tm (nI sn) (nI tx) (nI lz) (nI az) (nI na) (nI nt) (nI nr) mw ml mk dq)), (r 3, .inl ((cT 0), 160, .inl f3)), (r 4, .inl ((cT 0), 4, .inl f4))] sz)) 0 0 (va_A [(mo, .inr (12, mdG r cd tm (nI sn) (nI tx) (nI lz) (nI az) (nI na) (nI nt) (nI nr) mw ml mk dq)), (r 3, .inl ((cT 0), 160, .inl f3)), (r 4, .inl ((cT 0), 4, .inl f4))] sz) := by
  refine Met.ofW (cc := b_Md_secret) (maxL := 6) (ret := (Option.none : Option Jvm.ClassFile.FieldType)) (by decide) rfl ?_
  intro p e s m args below meth c s₁ B hml hv
  obtain ⟨hargs, hsz, hP, hK, hD0⟩ := hv
  have hx := B.exec
  have hb := B.bytes
  have hr := B.returns
  have hts := atoms_spec (ws := (Cond.code y_Md_secret b_Md_secret 6 (Option.none : Option Jvm.ClassFile.FieldType) :: BIG)) B.pre
  have hg : ∀ w ∈ BIG, w.before _ s = true := fun w h => hts w (List.mem_cons_of_mem _ h)
  have hown : s.vm.findClass "DoorServerModel" = some m.cls := findClass_of_methodNamed B.named
  have hlocks := B.notSynchronized
  subst hsz
  have hD := hD0.self (sz := s.heap.size)
  generalize hAe : va_A [(mo, .inr (12, mdG r cd tm (nI sn) (nI tx) (nI lz) (nI az) (nI na) (nI nt) (nI nr) mw ml mk dq)), (r 3, .inl ((cT 0), 160, .inl f3)), (r 4, .inl ((cT 0), 4, .inl f4))] s.heap.size = A at hD ⊢
  have hA : ∀ q : Nat, s.heap.size ≤ q → A q := fun q h => by rw [← hAe]; exact Or.inr h
  have hS : va_S A s.heap s.heap [] := va_S.rf
  have hl := lv_entry ([.ref mo, .int x, .long v, .int y]) (n := 6) (Nat.le_of_ble_eq_true rfl)
  refine W.eq (g2 := entryFrame m (List.toArray [.ref mo, .int x, .long v, .int y]) 6) (by rw [hargs]) ?_
  rw [lg_entry_eq]
  generalize (lg_sl ([.ref mo, .int x, .long v, .int y]) ++ List.replicate (6 - (lg_sl ([.ref mo, .int x, .long v, .int y])).length) Slot.unset).toArray = ls at hl ⊢
  have hl : lv_has ls 6 [(0, .ref mo), (1, .int x), (2, .long v), (4, .int y)] := hl
  change W p l e ({ frames := 1, cells := 0, slots := 0, locals := 22 } : Room) s m args below meth c s.heap [] 0 0 _ _
  have hP : va_P (dC, dI) vcl [(mo, .inr (12, mdG r cd tm (nI sn) (nI tx) (nI lz) (nI az) (nI na) (nI nt) (nI nr) mw ml mk dq)), (r 3, .inl ((cT 0), 160, .inl f3)), (r 4, .inl ((cT 0), 4, .inl f4))] s.heap := hP
  rcases pk_ix x (n := 4) (by decide) with h8x | h8x | ⟨xn, hxn, rfl⟩
  · skip
    refine lv_aload_n hx hb d_Md_secret_0 rfl (lv_at hl 0 rfl) ?_
    refine lv_iload_n hx hb d_Md_secret_1 rfl (lv_at hl 1 rfl) ?_
    refine lv_if_lt (tgt := 27) hx hb d_Md_secret_2 (by decide) (fun hc1 => ?_) (fun hn9 => absurd (h8x) hn9)
    refine lv_iconst (v := 0) hx hb d_Md_secret_27 (by decide) ?_
    have hPc := hP.sub (ws' := [(mo, .inr (12, mdG r cd tm (nI sn) (nI tx) (nI lz) (nI az) (nI na) (nI nt) (nI nr) mw ml mk dq))]) [0] rfl
    have hDc := hD.sub (ws' := [(mo, .inr (12, mdG r cd tm (nI sn) (nI tx) (nI lz) (nI az) (nI na) (nI nt) (nI nr) mw ml mk dq))]) [0] (by decide) rfl
    have hFc := va_free (wc := [(mo, .inr (12, mdG r cd tm (nI sn) (nI tx) (nI lz) (nI az) (nI na) (nI nt) (nI nr) mw ml mk dq))]) hD hS hA [0] rfl
    refine va_calli (va_runV (C := "DoorServerModel") (As := [.int 0]) (rest := []) ⟨hx, hb, hml, hown, hg⟩ (m_goes0 l dC dI cT s.heap.size mo r cd tm sn tx lz az na nt nr mw ml mk dq ) (cwV 1 hg (gI (List.forall_mem_append.mpr ⟨List.forall_mem_cons.mpr ⟨k_1165, List.forall_mem_cons.mpr ⟨k_1167, List.forall_mem_cons.mpr ⟨(big_sel (q := y_Md_goes) (n := 45) (by decide +kernel)), List.forall_mem_cons.mpr ⟨k_13, fun _ h => absurd h List.not_mem_nil⟩⟩⟩⟩, List.forall_mem_cons.mpr ⟨k_1168, fun _ h => h⟩⟩)) rfl rfl rfl (by decide +kernel) ⟨Nat.le_of_ble_eq_true rfl, Nat.le_of_ble_eq_true rfl⟩) ⟨fun a U g mk q => by obtain ⟨q0, q1, qP, qK, qD⟩ := q; exact ⟨q0, q1, qP, va_K.moved (u := U) (U := U.calling g mk a) (Vm.Alike.refl U.vm) qK, qD⟩, va_recv (q0 := 0) (ci := 12) hK hP rfl rfl, fun U hU hW => ⟨rfl, by rw [hU], by rw [hU]; exact hPc, va_K.moved hW.alike hK, hDc.weaken (fun _ _ _ _ => trivial)⟩⟩ rfl rfl hl.1 rfl (lv_room (Nat.le_of_ble_eq_true rfl)) d_Md_secret_28 ⟨Nat.le_of_ble_eq_true rfl, Nat.le_of_ble_eq_true rfl⟩) hS (fun q _ h => hFc q h) hFc (fun rv9 u t H1 locs ht hvm hw hB hz1 hk1 hS => ?_)
    try dsimp only at hw hB
    obtain ⟨hP1, hK1, hD1⟩ := hB
    rw [ht] at hP1
    obtain ⟨rfl, hw⟩ := hw
    obtain ⟨hP, hD⟩ := va_join (wr := [(r 3, .inl ((cT 0), 160, .inl f3)), (r 4, .inl ((cT 0), 4, .inl f4))]) (w1 := [(mo, .inr (12, mdG r 1 tm (nI sn) (nI tx) (nI lz) (nI az) (nI na) (nI nt) (nI nr) mw ml mk dq))]) hP hD [0] [1, 2] rfl rfl (by decide) (by decide) hk1 hFc hP1 hD1
    have hw2 := hw
    clear hPc hDc hFc hz1 hk1 hP1 hK1 hD1
    generalize H1 = H at hP hS ⊢
    have hP : va_P (dC, dI) vcl [(r 3, .inl ((cT 0), 160, .inl f3)), (r 4, .inl ((cT 0), 4, .inl f4)), (mo, .inr (12, mdG r 1 tm (nI sn) (nI tx) (nI lz) (nI az) (nI na) (nI nt) (nI nr) mw ml mk dq))] H := hP
    have hD : va_D A [(r 3, .inl ((cT 0), 160, .inl f3)), (r 4, .inl ((cT 0), 4, .inl f4)), (mo, .inr (12, mdG r 1 tm (nI sn) (nI tx) (nI lz) (nI az) (nI na) (nI nt) (nI nr) mw ml mk dq))] := hD
    refine lv_if_eq (tgt := 76) hx hb d_Md_secret_31 (by decide) (fun hc3 => ?_) (fun hn9 => absurd (by decide) hn9)
    have hP9 := hP.sub (ws' := [(mo, .inr (12, mdG r 1 tm (nI sn) (nI tx) (nI lz) (nI az) (nI na) (nI nt) (nI nr) mw ml mk dq)), (r 3, .inl ((cT 0), 160, .inl f3)), (r 4, .inl ((cT 0), 4, .inl f4))]) [2, 0, 1] rfl
    have hD9 := hD.sub (ws' := [(mo, .inr (12, mdG r 1 tm (nI sn) (nI tx) (nI lz) (nI az) (nI na) (nI nt) (nI nr) mw ml mk dq)), (r 3, .inl ((cT 0), 160, .inl f3)), (r 4, .inl ((cT 0), 4, .inl f4))]) [2, 0, 1] (by decide) rfl
    exact W.vret hx hb hr (fun t ht hW => ⟨⟨⟨f3, f4, 1⟩, rfl, ⟨Or.inr ⟨rfl, fun h9 => h9.1 h8x⟩, h4⟩, by rw [ht]; exact hP9, va_K.moved hW.alike hK, hD9⟩, hS.F ht⟩) hS.2.2 d_Md_secret_76
  · skip
    refine lv_aload_n hx hb d_Md_secret_0 rfl (lv_at hl 0 rfl) ?_
    refine lv_iload_n hx hb d_Md_secret_1 rfl (lv_at hl 1 rfl) ?_
    refine lv_if_lt (tgt := 27) hx hb d_Md_secret_2 (by decide) (fun hc4 => ?_) (fun hc4 => ?_)
    · skip
      refine lv_iconst (v := 0) hx hb d_Md_secret_27 (by decide) ?_
      have hPc := hP.sub (ws' := [(mo, .inr (12, mdG r cd tm (nI sn) (nI tx) (nI lz) (nI az) (nI na) (nI nt) (nI nr) mw ml mk dq))]) [0] rfl
      have hDc := hD.sub (ws' := [(mo, .inr (12, mdG r cd tm (nI sn) (nI tx) (nI lz) (nI az) (nI na) (nI nt) (nI nr) mw ml mk dq))]) [0] (by decide) rfl
      have hFc := va_free (wc := [(mo, .inr (12, mdG r cd tm (nI sn) (nI tx) (nI lz) (nI az) (nI na) (nI nt) (nI nr) mw ml mk dq))]) hD hS hA [0] rfl
      refine va_calli (va_runV (C := "DoorServerModel") (As := [.int 0]) (rest := []) ⟨hx, hb, hml, hown, hg⟩ (m_goes0 l dC dI cT s.heap.size mo r cd tm sn tx lz az na nt nr mw ml mk dq ) (cwV 1 hg (gI (List.forall_mem_append.mpr ⟨List.forall_mem_cons.mpr ⟨k_1165, List.forall_mem_cons.mpr ⟨k_1167, List.forall_mem_cons.mpr ⟨(big_sel (q := y_Md_goes) (n := 45) (by decide +kernel)), List.forall_mem_cons.mpr ⟨k_13, fun _ h => absurd h List.not_mem_nil⟩⟩⟩⟩, List.forall_mem_cons.mpr ⟨k_1168, fun _ h => h⟩⟩)) rfl rfl rfl (by decide +kernel) ⟨Nat.le_of_ble_eq_true rfl, Nat.le_of_ble_eq_true rfl⟩) ⟨fun a U g mk q => by obtain ⟨q0, q1, qP, qK, qD⟩ := q; exact ⟨q0, q1, qP, va_K.moved (u := U) (U := U.calling g mk a) (Vm.Alike.refl U.vm) qK, qD⟩, va_recv (q0 := 0) (ci := 12) hK hP rfl rfl, fun U hU hW => ⟨rfl, by rw [hU], by rw [hU]; exact hPc, va_K.moved hW.alike hK, hDc.weaken (fun _ _ _ _ => trivial)⟩⟩ rfl rfl hl.1 rfl (lv_room (Nat.le_of_ble_eq_true rfl)) d_Md_secret_28 ⟨Nat.le_of_ble_eq_true rfl, Nat.le_of_ble_eq_true rfl⟩) hS (fun q _ h => hFc q h) hFc (fun rv9 u t H1 locs ht hvm hw hB hz1 hk1 hS => ?_)
      try dsimp only at hw hB
      obtain ⟨hP1, hK1, hD1⟩ := hB
      rw [ht] at hP1
      obtain ⟨rfl, hw⟩ := hw
      obtain ⟨hP, hD⟩ := va_join (wr := [(r 3, .inl ((cT 0), 160, .inl f3)), (r 4, .inl ((cT 0), 4, .inl f4))]) (w1 := [(mo, .inr (12, mdG r 1 tm (nI sn) (nI tx) (nI lz) (nI az) (nI na) (nI nt) (nI nr) mw ml mk dq))]) hP hD [0] [1, 2] rfl rfl (by decide) (by decide) hk1 hFc hP1 hD1
      have hw5 := hw
      clear hPc hDc hFc hz1 hk1 hP1 hK1 hD1
      generalize H1 = H at hP hS ⊢
      have hP : va_P (dC, dI) vcl [(r 3, .inl ((cT 0), 160, .inl f3)), (r 4, .inl ((cT 0), 4, .inl f4)), (mo, .inr (12, mdG r 1 tm (nI sn) (nI tx) (nI lz) (nI az) (nI na) (nI nt) (nI nr) mw ml mk dq))] H := hP
      have hD : va_D A [(r 3, .inl ((cT 0), 160, .inl f3)), (r 4, .inl ((cT 0), 4, .inl f4)), (mo, .inr (12, mdG r 1 tm (nI sn) (nI tx) (nI lz) (nI az) (nI na) (nI nt) (nI nr) mw ml mk dq))] := hD
      refine lv_if_eq (tgt := 76) hx hb d_Md_secret_31 (by decide) (fun hc6 => ?_) (fun hn9 => absurd (by decide) hn9)
      have hP9 := hP.sub (ws' := [(mo, .inr (12, mdG r 1 tm (nI sn) (nI tx) (nI lz) (nI az) (nI na) (nI nt) (nI nr) mw ml mk dq)), (r 3, .inl ((cT 0), 160, .inl f3)), (r 4, .inl ((cT 0), 4, .inl f4))]) [2, 0, 1] rfl
      have hD9 := hD.sub (ws' := [(mo, .inr (12, mdG r 1 tm (nI sn) (nI tx) (nI lz) (nI az) (nI na) (nI nt) (nI nr) mw ml mk dq)), (r 3, .inl ((cT 0), 160, .inl f3)), (r 4, .inl ((cT 0), 4, .inl f4))]) [2, 0, 1] (by decide) rfl
      exact W.vret hx hb hr (fun t ht hW => ⟨⟨⟨f3, f4, 1⟩, rfl, ⟨Or.inr ⟨rfl, fun h9 => h9.2.1 (nlt3 h8x)⟩, h4⟩, by rw [ht]; exact hP9, va_K.moved hW.alike hK, hD9⟩, hS.F ht⟩) hS.2.2 d_Md_secret_76
    · skip
      refine lv_iload_n hx hb d_Md_secret_5 rfl (lv_at hl 1 rfl) ?_
      refine lv_iconst (v := 4) hx hb d_Md_secret_6 (by decide) ?_
      refine lv_icmp_ge (tgt := 27) hx hb d_Md_secret_7 (by decide) (fun hc7 => ?_) (fun hn9 => absurd (h8x) hn9)
      refine lv_iconst (v := 0) hx hb d_Md_secret_27 (by decide) ?_
      have hPc := hP.sub (ws' := [(mo, .inr (12, mdG r cd tm (nI sn) (nI tx) (nI lz) (nI az) (nI na) (nI nt) (nI nr) mw ml mk dq))]) [0] rfl
      have hDc := hD.sub (ws' := [(mo, .inr (12, mdG r cd tm (nI sn) (nI tx) (nI lz) (nI az) (nI na) (nI nt) (nI nr) mw ml mk dq))]) [0] (by decide) rfl
      have hFc := va_free (wc := [(mo, .inr (12, mdG r cd tm (nI sn) (nI tx) (nI lz) (nI az) (nI na) (nI nt) (nI nr) mw ml mk dq))]) hD hS hA [0] rfl
      refine va_calli (va_runV (C := "DoorServerModel") (As := [.int 0]) (rest := []) ⟨hx, hb, hml, hown, hg⟩ (m_goes0 l dC dI cT s.heap.size mo r cd tm sn tx lz az na nt nr mw ml mk dq ) (cwV 1 hg (gI (List.forall_mem_append.mpr ⟨List.forall_mem_cons.mpr ⟨k_1165, List.forall_mem_cons.mpr ⟨k_1167, List.forall_mem_cons.mpr ⟨(big_sel (q := y_Md_goes) (n := 45) (by decide +kernel)), List.forall_mem_cons.mpr ⟨k_13, fun _ h => absurd h List.not_mem_nil⟩⟩⟩⟩, List.forall_mem_cons.mpr ⟨k_1168, fun _ h => h⟩⟩)) rfl rfl rfl (by decide +kernel) ⟨Nat.le_of_ble_eq_true rfl, Nat.le_of_ble_eq_true rfl⟩) ⟨fun a U g mk q => by obtain ⟨q0, q1, qP, qK, qD⟩ := q; exact ⟨q0, q1, qP, va_K.moved (u := U) (U := U.calling g mk a) (Vm.Alike.refl U.vm) qK, qD⟩, va_recv (q0 := 0) (ci := 12) hK hP rfl rfl, fun U hU hW => ⟨rfl, by rw [hU], by rw [hU]; exact hPc, va_K.moved hW.alike hK, hDc.weaken (fun _ _ _ _ => trivial)⟩⟩ rfl rfl hl.1 rfl (lv_room (Nat.le_of_ble_eq_true rfl)) d_Md_secret_28 ⟨Nat.le_of_ble_eq_true rfl, Nat.le_of_ble_eq_true rfl⟩) hS (fun q _ h => hFc q h) hFc (fun rv9 u t H1 locs ht hvm hw hB hz1 hk1 hS => ?_)
      try dsimp only at hw hB
      obtain ⟨hP1, hK1, hD1⟩ := hB
      rw [ht] at hP1
      obtain ⟨rfl, hw⟩ := hw
      obtain ⟨hP, hD⟩ := va_join (wr := [(r 3, .inl ((cT 0), 160, .inl f3)), (r 4, .inl ((cT 0), 4, .inl f4))]) (w1 := [(mo, .inr (12, mdG r 1 tm (nI sn) (nI tx) (nI lz) (nI az) (nI na) (nI nt) (nI nr) mw ml mk dq))]) hP hD [0] [1, 2] rfl rfl (by decide) (by decide) hk1 hFc hP1 hD1
      have hw8 := hw
      clear hPc hDc hFc hz1 hk1 hP1 hK1 hD1
      generalize H1 = H at hP hS ⊢
      have hP : va_P (dC, dI) vcl [(r 3, .inl ((cT 0), 160, .inl f3)), (r 4, .inl ((cT 0), 4, .inl f4)), (mo, .inr (12, mdG r 1 tm (nI sn) (nI tx) (nI lz) (nI az) (nI na) (nI nt) (nI nr) mw ml mk dq))] H := hP
      have hD : va_D A [(r 3, .inl ((cT 0), 160, .inl f3)), (r 4, .inl ((cT 0), 4, .inl f4)), (mo, .inr (12, mdG r 1 tm (nI sn) (nI tx) (nI lz) (nI az) (nI na) (nI nt) (nI nr) mw ml mk dq))] := hD
      refine lv_if_eq (tgt := 76) hx hb d_Md_secret_31 (by decide) (fun hc9 => ?_) (fun hn9 => absurd (by decide) hn9)
      have hP9 := hP.sub (ws' := [(mo, .inr (12, mdG r 1 tm (nI sn) (nI tx) (nI lz) (nI az) (nI na) (nI nt) (nI nr) mw ml mk dq)), (r 3, .inl ((cT 0), 160, .inl f3)), (r 4, .inl ((cT 0), 4, .inl f4))]) [2, 0, 1] rfl
      have hD9 := hD.sub (ws' := [(mo, .inr (12, mdG r 1 tm (nI sn) (nI tx) (nI lz) (nI az) (nI na) (nI nt) (nI nr) mw ml mk dq)), (r 3, .inl ((cT 0), 160, .inl f3)), (r 4, .inl ((cT 0), 4, .inl f4))]) [2, 0, 1] (by decide) rfl
      exact W.vret hx hb hr (fun t ht hW => ⟨⟨⟨f3, f4, 1⟩, rfl, ⟨Or.inr ⟨rfl, fun h9 => h9.2.1 (nlt3 h8x)⟩, h4⟩, by rw [ht]; exact hP9, va_K.moved hW.alike hK, hD9⟩, hS.F ht⟩) hS.2.2 d_Md_secret_76
  · skip
    rcases pk_ix y (n := 41) (by decide) with h8y | h8y | ⟨yn, hyn, rfl⟩
    · skip
      refine lv_aload_n hx hb d_Md_secret_0 rfl (lv_at hl 0 rfl) ?_
      refine lv_iload_n hx hb d_Md_secret_1 rfl (lv_at hl 1 rfl) ?_
      refine lv_if_lt (tgt := 27) hx hb d_Md_secret_2 (by decide) (fun hn9 => absurd hn9 (nI_pos (by omega))) (fun hc10 => ?_)
      refine lv_iload_n hx hb d_Md_secret_5 rfl (lv_at hl 1 rfl) ?_
      refine lv_iconst (v := 4) hx hb d_Md_secret_6 (by decide) ?_
      refine lv_icmp_ge (tgt := 27) hx hb d_Md_secret_7 (by decide) (fun hc11 => ?_) (fun hc11 => ?_)
      · skip
        have n12 : 4 ≤ xn := (nI_leI (a := 4) (b := xn) (by omega) (by omega)).mp hc11
        refine lv_iconst (v := 0) hx hb d_Md_secret_27 (by decide) ?_
        have hPc := hP.sub (ws' := [(mo, .inr (12, mdG r cd tm (nI sn) (nI tx) (nI lz) (nI az) (nI na) (nI nt) (nI nr) mw ml mk dq))]) [0] rfl
        have hDc := hD.sub (ws' := [(mo, .inr (12, mdG r cd tm (nI sn) (nI tx) (nI lz) (nI az) (nI na) (nI nt) (nI nr) mw ml mk dq))]) [0] (by decide) rfl
        have hFc := va_free (wc := [(mo, .inr (12, mdG r cd tm (nI sn) (nI tx) (nI lz) (nI az) (nI na) (nI nt) (nI nr) mw ml mk dq))]) hD hS hA [0] rfl
        refine va_calli (va_runV (C := "DoorServerModel") (As := [.int 0]) (rest := []) ⟨hx, hb, hml, hown, hg⟩ (m_goes0 l dC dI cT s.heap.size mo r cd tm sn tx lz az na nt nr mw ml mk dq ) (cwV 1 hg (gI (List.forall_mem_append.mpr ⟨List.forall_mem_cons.mpr ⟨k_1165, List.forall_mem_cons.mpr ⟨k_1167, List.forall_mem_cons.mpr ⟨(big_sel (q := y_Md_goes) (n := 45) (by decide +kernel)), List.forall_mem_cons.mpr ⟨k_13, fun _ h => absurd h List.not_mem_nil⟩⟩⟩⟩, List.forall_mem_cons.mpr ⟨k_1168, fun _ h => h⟩⟩)) rfl rfl rfl (by decide +kernel) ⟨Nat.le_of_ble_eq_true rfl, Nat.le_of_ble_eq_true rfl⟩) ⟨fun a U g mk q => by obtain ⟨q0, q1, qP, qK, qD⟩ := q; exact ⟨q0, q1, qP, va_K.moved (u := U) (U := U.calling g mk a) (Vm.Alike.refl U.vm) qK, qD⟩, va_recv (q0 := 0) (ci := 12) hK hP rfl rfl, fun U hU hW => ⟨rfl, by rw [hU], by rw [hU]; exact hPc, va_K.moved hW.alike hK, hDc.weaken (fun _ _ _ _ => trivial)⟩⟩ rfl rfl hl.1 rfl (lv_room (Nat.le_of_ble_eq_true rfl)) d_Md_secret_28 ⟨Nat.le_of_ble_eq_true rfl, Nat.le_of_ble_eq_true rfl⟩) hS (fun q _ h => hFc q h) hFc (fun rv9 u t H1 locs ht hvm hw hB hz1 hk1 hS => ?_)
        try dsimp only at hw hB
        obtain ⟨hP1, hK1, hD1⟩ := hB
        rw [ht] at hP1
        obtain ⟨rfl, hw⟩ := hw
        obtain ⟨hP, hD⟩ := va_join (wr := [(r 3, .inl ((cT 0), 160, .inl f3)), (r 4, .inl ((cT 0), 4, .inl f4))]) (w1 := [(mo, .inr (12, mdG r 1 tm (nI sn) (nI tx) (nI lz) (nI az) (nI na) (nI nt) (nI nr) mw ml mk dq))]) hP hD [0] [1, 2] rfl rfl (by decide) (by decide) hk1 hFc hP1 hD1
        have hw14 := hw
        clear hPc hDc hFc hz1 hk1 hP1 hK1 hD1
        generalize H1 = H at hP hS ⊢
        have hP : va_P (dC, dI) vcl [(r 3, .inl ((cT 0), 160, .inl f3)), (r 4, .inl ((cT 0), 4, .inl f4)), (mo, .inr (12, mdG r 1 tm (nI sn) (nI tx) (nI lz) (nI az) (nI na) (nI nt) (nI nr) mw ml mk dq))] H := hP
        have hD : va_D A [(r 3, .inl ((cT 0), 160, .inl f3)), (r 4, .inl ((cT 0), 4, .inl f4)), (mo, .inr (12, mdG r 1 tm (nI sn) (nI tx) (nI lz) (nI az) (nI na) (nI nt) (nI nr) mw ml mk dq))] := hD
        refine lv_if_eq (tgt := 76) hx hb d_Md_secret_31 (by decide) (fun hc15 => ?_) (fun hn9 => absurd (by decide) hn9)
        have hP9 := hP.sub (ws' := [(mo, .inr (12, mdG r 1 tm (nI sn) (nI tx) (nI lz) (nI az) (nI na) (nI nt) (nI nr) mw ml mk dq)), (r 3, .inl ((cT 0), 160, .inl f3)), (r 4, .inl ((cT 0), 4, .inl f4))]) [2, 0, 1] rfl
        have hD9 := hD.sub (ws' := [(mo, .inr (12, mdG r 1 tm (nI sn) (nI tx) (nI lz) (nI az) (nI na) (nI nt) (nI nr) mw ml mk dq)), (r 3, .inl ((cT 0), 160, .inl f3)), (r 4, .inl ((cT 0), 4, .inl f4))]) [2, 0, 1] (by decide) rfl
        exact W.vret hx hb hr (fun t ht hW => ⟨⟨⟨f3, f4, 1⟩, rfl, ⟨Or.inr ⟨rfl, fun h9 => h9.2.2.1 (lt_01 h8y)⟩, h4⟩, by rw [ht]; exact hP9, va_K.moved hW.alike hK, hD9⟩, hS.F ht⟩) hS.2.2 d_Md_secret_76
      · skip
        have n13 : xn < 4 := Nat.not_le.mp (fun h7 => hc11 ((nI_leI (a := 4) (b := xn) (by omega) (by omega)).mpr h7))
        refine lv_iload hx hb d_Md_secret_10 (lv_at hl 3 rfl) ?_
        refine lv_iconst (v := 1) hx hb d_Md_secret_12 (by decide) ?_
        refine lv_icmp_lt (tgt := 27) hx hb d_Md_secret_13 (by decide) (fun hc16 => ?_) (fun hn9 => absurd (lt_01 h8y) hn9)
        refine lv_iconst (v := 0) hx hb d_Md_secret_27 (by decide) ?_
        have hPc := hP.sub (ws' := [(mo, .inr (12, mdG r cd tm (nI sn) (nI tx) (nI lz) (nI az) (nI na) (nI nt) (nI nr) mw ml mk dq))]) [0] rfl
        have hDc := hD.sub (ws' := [(mo, .inr (12, mdG r cd tm (nI sn) (nI tx) (nI lz) (nI az) (nI na) (nI nt) (nI nr) mw ml mk dq))]) [0] (by decide) rfl
        have hFc := va_free (wc := [(mo, .inr (12, mdG r cd tm (nI sn) (nI tx) (nI lz) (nI az) (nI na) (nI nt) (nI nr) mw ml mk dq))]) hD hS hA [0] rfl
        refine va_calli (va_runV (C := "DoorServerModel") (As := [.int 0]) (rest := []) ⟨hx, hb, hml, hown, hg⟩ (m_goes0 l dC dI cT s.heap.size mo r cd tm sn tx lz az na nt nr mw ml mk dq ) (cwV 1 hg (gI (List.forall_mem_append.mpr ⟨List.forall_mem_cons.mpr ⟨k_1165, List.forall_mem_cons.mpr ⟨k_1167, List.forall_mem_cons.mpr ⟨(big_sel (q := y_Md_goes) (n := 45) (by decide +kernel)), List.forall_mem_cons.mpr ⟨k_13, fun _ h => absurd h List.not_mem_nil⟩⟩⟩⟩, List.forall_mem_cons.mpr ⟨k_1168, fun _ h => h⟩⟩)) rfl rfl rfl (by decide +kernel) ⟨Nat.le_of_ble_eq_true rfl, Nat.le_of_ble_eq_true rfl⟩) ⟨fun a U g mk q => by obtain ⟨q0, q1, qP, qK, qD⟩ := q; exact ⟨q0, q1, qP, va_K.moved (u := U) (U := U.calling g mk a) (Vm.Alike.refl U.vm) qK, qD⟩, va_recv (q0 := 0) (ci := 12) hK hP rfl rfl, fun U hU hW => ⟨rfl, by rw [hU], by rw [hU]; exact hPc, va_K.moved hW.alike hK, hDc.weaken (fun _ _ _ _ => trivial)⟩⟩ rfl rfl hl.1 rfl (lv_room (Nat.le_of_ble_eq_true rfl)) d_Md_secret_28 ⟨Nat.le_of_ble_eq_true rfl, Nat.le_of_ble_eq_true rfl⟩) hS (fun q _ h => hFc q h) hFc (fun rv9 u t H1 locs ht hvm hw hB hz1 hk1 hS => ?_)
        try dsimp only at hw hB
        obtain ⟨hP1, hK1, hD1⟩ := hB
        rw [ht] at hP1
        obtain ⟨rfl, hw⟩ := hw
        obtain ⟨hP, hD⟩ := va_join (wr := [(r 3, .inl ((cT 0), 160, .inl f3)), (r 4, .inl ((cT 0), 4, .inl f4))]) (w1 := [(mo, .inr (12, mdG r 1 tm (nI sn) (nI tx) (nI lz) (nI az) (nI na) (nI nt) (nI nr) mw ml mk dq))]) hP hD [0] [1, 2] rfl rfl (by decide) (by decide) hk1 hFc hP1 hD1
        have hw17 := hw
        clear hPc hDc hFc hz1 hk1 hP1 hK1 hD1
        generalize H1 = H at hP hS ⊢
        have hP : va_P (dC, dI) vcl [(r 3, .inl ((cT 0), 160, .inl f3)), (r 4, .inl ((cT 0), 4, .inl f4)), (mo, .inr (12, mdG r 1 tm (nI sn) (nI tx) (nI lz) (nI az) (nI na) (nI nt) (nI nr) mw ml mk dq))] H := hP
        have hD : va_D A [(r 3, .inl ((cT 0), 160, .inl f3)), (r 4, .inl ((cT 0), 4, .inl f4)), (mo, .inr (12, mdG r 1 tm (nI sn) (nI tx) (nI lz) (nI az) (nI na) (nI nt) (nI nr) mw ml mk dq))] := hD
        refine lv_if_eq (tgt := 76) hx hb d_Md_secret_31 (by decide) (fun hc18 => ?_) (fun hn9 => absurd (by decide) hn9)
        have hP9 := hP.sub (ws' := [(mo, .inr (12, mdG r 1 tm (nI sn) (nI tx) (nI lz) (nI az) (nI na) (nI nt) (nI nr) mw ml mk dq)), (r 3, .inl ((cT 0), 160, .inl f3)), (r 4, .inl ((cT 0), 4, .inl f4))]) [2, 0, 1] rfl
        have hD9 := hD.sub (ws' := [(mo, .inr (12, mdG r 1 tm (nI sn) (nI tx) (nI lz) (nI az) (nI na) (nI nt) (nI nr) mw ml mk dq)), (r 3, .inl ((cT 0), 160, .inl f3)), (r 4, .inl ((cT 0), 4, .inl f4))]) [2, 0, 1] (by decide) rfl
        exact W.vret hx hb hr (fun t ht hW => ⟨⟨⟨f3, f4, 1⟩, rfl, ⟨Or.inr ⟨rfl, fun h9 => h9.2.2.1 (lt_01 h8y)⟩, h4⟩, by rw [ht]; exact hP9, va_K.moved hW.alike hK, hD9⟩, hS.F ht⟩) hS.2.2 d_Md_secret_76
    · skip
      refine lv_aload_n hx hb d_Md_secret_0 rfl (lv_at hl 0 rfl) ?_
      refine lv_iload_n hx hb d_Md_secret_1 rfl (lv_at hl 1 rfl) ?_
      refine lv_if_lt (tgt := 27) hx hb d_Md_secret_2 (by decide) (fun hn9 => absurd hn9 (nI_pos (by omega))) (fun hc19 => ?_)
      refine lv_iload_n hx hb d_Md_secret_5 rfl (lv_at hl 1 rfl) ?_
      refine lv_iconst (v := 4) hx hb d_Md_secret_6 (by decide) ?_
      refine lv_icmp_ge (tgt := 27) hx hb d_Md_secret_7 (by decide) (fun hc20 => ?_) (fun hc20 => ?_)
      · skip
        have n21 : 4 ≤ xn := (nI_leI (a := 4) (b := xn) (by omega) (by omega)).mp hc20
        refine lv_iconst (v := 0) hx hb d_Md_secret_27 (by decide) ?_
        have hPc := hP.sub (ws' := [(mo, .inr (12, mdG r cd tm (nI sn) (nI tx) (nI lz) (nI az) (nI na) (nI nt) (nI nr) mw ml mk dq))]) [0] rfl
        have hDc := hD.sub (ws' := [(mo, .inr (12, mdG r cd tm (nI sn) (nI tx) (nI lz) (nI az) (nI na) (nI nt) (nI nr) mw ml mk dq))]) [0] (by decide) rfl
        have hFc := va_free (wc := [(mo, .inr (12, mdG r cd tm (nI sn) (nI tx) (nI lz) (nI az) (nI na) (nI nt) (nI nr) mw ml mk dq))]) hD hS hA [0] rfl
        refine va_calli (va_runV (C := "DoorServerModel") (As := [.int 0]) (rest := []) ⟨hx, hb, hml, hown, hg⟩ (m_goes0 l dC dI cT s.heap.size mo r cd tm sn tx lz az na nt nr mw ml mk dq ) (cwV 1 hg (gI (List.forall_mem_append.mpr ⟨List.forall_mem_cons.mpr ⟨k_1165, List.forall_mem_cons.mpr ⟨k_1167, List.forall_mem_cons.mpr ⟨(big_sel (q := y_Md_goes) (n := 45) (by decide +kernel)), List.forall_mem_cons.mpr ⟨k_13, fun _ h => absurd h List.not_mem_nil⟩⟩⟩⟩, List.forall_mem_cons.mpr ⟨k_1168, fun _ h => h⟩⟩)) rfl rfl rfl (by decide +kernel) ⟨Nat.le_of_ble_eq_true rfl, Nat.le_of_ble_eq_true rfl⟩) ⟨fun a U g mk q => by obtain ⟨q0, q1, qP, qK, qD⟩ := q; exact ⟨q0, q1, qP, va_K.moved (u := U) (U := U.calling g mk a) (Vm.Alike.refl U.vm) qK, qD⟩, va_recv (q0 := 0) (ci := 12) hK hP rfl rfl, fun U hU hW => ⟨rfl, by rw [hU], by rw [hU]; exact hPc, va_K.moved hW.alike hK, hDc.weaken (fun _ _ _ _ => trivial)⟩⟩ rfl rfl hl.1 rfl (lv_room (Nat.le_of_ble_eq_true rfl)) d_Md_secret_28 ⟨Nat.le_of_ble_eq_true rfl, Nat.le_of_ble_eq_true rfl⟩) hS (fun q _ h => hFc q h) hFc (fun rv9 u t H1 locs ht hvm hw hB hz1 hk1 hS => ?_)
        try dsimp only at hw hB
        obtain ⟨hP1, hK1, hD1⟩ := hB
        rw [ht] at hP1
        obtain ⟨rfl, hw⟩ := hw
        obtain ⟨hP, hD⟩ := va_join (wr := [(r 3, .inl ((cT 0), 160, .inl f3)), (r 4, .inl ((cT 0), 4, .inl f4))]) (w1 := [(mo, .inr (12, mdG r 1 tm (nI sn) (nI tx) (nI lz) (nI az) (nI na) (nI nt) (nI nr) mw ml mk dq))]) hP hD [0] [1, 2] rfl rfl (by decide) (by decide) hk1 hFc hP1 hD1
        have hw23 := hw
        clear hPc hDc hFc hz1 hk1 hP1 hK1 hD1
        generalize H1 = H at hP hS ⊢
        have hP : va_P (dC, dI) vcl [(r 3, .inl ((cT 0), 160, .inl f3)), (r 4, .inl ((cT 0), 4, .inl f4)), (mo, .inr (12, mdG r 1 tm (nI sn) (nI tx) (nI lz) (nI az) (nI na) (nI nt) (nI nr) mw ml mk dq))] H := hP
        have hD : va_D A [(r 3, .inl ((cT 0), 160, .inl f3)), (r 4, .inl ((cT 0), 4, .inl f4)), (mo, .inr (12, mdG r 1 tm (nI sn) (nI tx) (nI lz) (nI az) (nI na) (nI nt) (nI nr) mw ml mk dq))] := hD
        refine lv_if_eq (tgt := 76) hx hb d_Md_secret_31 (by decide) (fun hc24 => ?_) (fun hn9 => absurd (by decide) hn9)
        have hP9 := hP.sub (ws' := [(mo, .inr (12, mdG r 1 tm (nI sn) (nI tx) (nI lz) (nI az) (nI na) (nI nt) (nI nr) mw ml mk dq)), (r 3, .inl ((cT 0), 160, .inl f3)), (r 4, .inl ((cT 0), 4, .inl f4))]) [2, 0, 1] rfl
        have hD9 := hD.sub (ws' := [(mo, .inr (12, mdG r 1 tm (nI sn) (nI tx) (nI lz) (nI az) (nI na) (nI nt) (nI nr) mw ml mk dq)), (r 3, .inl ((cT 0), 160, .inl f3)), (r 4, .inl ((cT 0), 4, .inl f4))]) [2, 0, 1] (by decide) rfl
        exact W.vret hx hb hr (fun t ht hW => ⟨⟨⟨f3, f4, 1⟩, rfl, ⟨Or.inr ⟨rfl, fun h9 => h9.2.2.2 (nlt40 h8y)⟩, h4⟩, by rw [ht]; exact hP9, va_K.moved hW.alike hK, hD9⟩, hS.F ht⟩) hS.2.2 d_Md_secret_76
      · skip
        have n22 : xn < 4 := Nat.not_le.mp (fun h7 => hc20 ((nI_leI (a := 4) (b := xn) (by omega) (by omega)).mpr h7))
        refine lv_iload hx hb d_Md_secret_10 (lv_at hl 3 rfl) ?_
        refine lv_iconst (v := 1) hx hb d_Md_secret_12 (by decide) ?_
        refine lv_icmp_lt (tgt := 27) hx hb d_Md_secret_13 (by decide) (fun hc25 => ?_) (fun hc25 => ?_)
        · skip
          refine lv_iconst (v := 0) hx hb d_Md_secret_27 (by decide) ?_
          have hPc := hP.sub (ws' := [(mo, .inr (12, mdG r cd tm (nI sn) (nI tx) (nI lz) (nI az) (nI na) (nI nt) (nI nr) mw ml mk dq))]) [0] rfl
          have hDc := hD.sub (ws' := [(mo, .inr (12, mdG r cd tm (nI sn) (nI tx) (nI lz) (nI az) (nI na) (nI nt) (nI nr) mw ml mk dq))]) [0] (by decide) rfl
          have hFc := va_free (wc := [(mo, .inr (12, mdG r cd tm (nI sn) (nI tx) (nI lz) (nI az) (nI na) (nI nt) (nI nr) mw ml mk dq))]) hD hS hA [0] rfl
          refine va_calli (va_runV (C := "DoorServerModel") (As := [.int 0]) (rest := []) ⟨hx, hb, hml, hown, hg⟩ (m_goes0 l dC dI cT s.heap.size mo r cd tm sn tx lz az na nt nr mw ml mk dq ) (cwV 1 hg (gI (List.forall_mem_append.mpr ⟨List.forall_mem_cons.mpr ⟨k_1165, List.forall_mem_cons.mpr ⟨k_1167, List.forall_mem_cons.mpr ⟨(big_sel (q := y_Md_goes) (n := 45) (by decide +kernel)), List.forall_mem_cons.mpr ⟨k_13, fun _ h => absurd h List.not_mem_nil⟩⟩⟩⟩, List.forall_mem_cons.mpr ⟨k_1168, fun _ h => h⟩⟩)) rfl rfl rfl (by decide +kernel) ⟨Nat.le_of_ble_eq_true rfl, Nat.le_of_ble_eq_true rfl⟩) ⟨fun a U g mk q => by obtain ⟨q0, q1, qP, qK, qD⟩ := q; exact ⟨q0, q1, qP, va_K.moved (u := U) (U := U.calling g mk a) (Vm.Alike.refl U.vm) qK, qD⟩, va_recv (q0 := 0) (ci := 12) hK hP rfl rfl, fun U hU hW => ⟨rfl, by rw [hU], by rw [hU]; exact hPc, va_K.moved hW.alike hK, hDc.weaken (fun _ _ _ _ => trivial)⟩⟩ rfl rfl hl.1 rfl (lv_room (Nat.le_of_ble_eq_true rfl)) d_Md_secret_28 ⟨Nat.le_of_ble_eq_true rfl, Nat.le_of_ble_eq_true rfl⟩) hS (fun q _ h => hFc q h) hFc (fun rv9 u t H1 locs ht hvm hw hB hz1 hk1 hS => ?_)
          try dsimp only at hw hB
          obtain ⟨hP1, hK1, hD1⟩ := hB
          rw [ht] at hP1
          obtain ⟨rfl, hw⟩ := hw
          obtain ⟨hP, hD⟩ := va_join (wr := [(r 3, .inl ((cT 0), 160, .inl f3)), (r 4, .inl ((cT 0), 4, .inl f4))]) (w1 := [(mo, .inr (12, mdG r 1 tm (nI sn) (nI tx) (nI lz) (nI az) (nI na) (nI nt) (nI nr) mw ml mk dq))]) hP hD [0] [1, 2] rfl rfl (by decide) (by decide) hk1 hFc hP1 hD1
          have hw26 := hw
          clear hPc hDc hFc hz1 hk1 hP1 hK1 hD1
          generalize H1 = H at hP hS ⊢
          have hP : va_P (dC, dI) vcl [(r 3, .inl ((cT 0), 160, .inl f3)), (r 4, .inl ((cT 0), 4, .inl f4)), (mo, .inr (12, mdG r 1 tm (nI sn) (nI tx) (nI lz) (nI az) (nI na) (nI nt) (nI nr) mw ml mk dq))] H := hP
          have hD : va_D A [(r 3, .inl ((cT 0), 160, .inl f3)), (r 4, .inl ((cT 0), 4, .inl f4)), (mo, .inr (12, mdG r 1 tm (nI sn) (nI tx) (nI lz) (nI az) (nI na) (nI nt) (nI nr) mw ml mk dq))] := hD
          refine lv_if_eq (tgt := 76) hx hb d_Md_secret_31 (by decide) (fun hc27 => ?_) (fun hn9 => absurd (by decide) hn9)
          have hP9 := hP.sub (ws' := [(mo, .inr (12, mdG r 1 tm (nI sn) (nI tx) (nI lz) (nI az) (nI na) (nI nt) (nI nr) mw ml mk dq)), (r 3, .inl ((cT 0), 160, .inl f3)), (r 4, .inl ((cT 0), 4, .inl f4))]) [2, 0, 1] rfl
          have hD9 := hD.sub (ws' := [(mo, .inr (12, mdG r 1 tm (nI sn) (nI tx) (nI lz) (nI az) (nI na) (nI nt) (nI nr) mw ml mk dq)), (r 3, .inl ((cT 0), 160, .inl f3)), (r 4, .inl ((cT 0), 4, .inl f4))]) [2, 0, 1] (by decide) rfl
          exact W.vret hx hb hr (fun t ht hW => ⟨⟨⟨f3, f4, 1⟩, rfl, ⟨Or.inr ⟨rfl, fun h9 => h9.2.2.2 (nlt40 h8y)⟩, h4⟩, by rw [ht]; exact hP9, va_K.moved hW.alike hK, hD9⟩, hS.F ht⟩) hS.2.2 d_Md_secret_76
        · skip
          refine lv_iload hx hb d_Md_secret_16 (lv_at hl 3 rfl) ?_
          refine lv_bipush (v := 40) hx hb d_Md_secret_18 (by decide) ?_
          refine lv_icmp_gt (tgt := 27) hx hb d_Md_secret_20 (by decide) (fun hc28 => ?_) (fun hn9 => absurd ((lt_le1 (a := 40) (b := nI 41) (by decide)).mpr h8y) hn9)
          refine lv_iconst (v := 0) hx hb d_Md_secret_27 (by decide) ?_
          have hPc := hP.sub (ws' := [(mo, .inr (12, mdG r cd tm (nI sn) (nI tx) (nI lz) (nI az) (nI na) (nI nt) (nI nr) mw ml mk dq))]) [0] rfl
          have hDc := hD.sub (ws' := [(mo, .inr (12, mdG r cd tm (nI sn) (nI tx) (nI lz) (nI az) (nI na) (nI nt) (nI nr) mw ml mk dq))]) [0] (by decide) rfl
          have hFc := va_free (wc := [(mo, .inr (12, mdG r cd tm (nI sn) (nI tx) (nI lz) (nI az) (nI na) (nI nt) (nI nr) mw ml mk dq))]) hD hS hA [0] rfl
          refine va_calli (va_runV (C := "DoorServerModel") (As := [.int 0]) (rest := []) ⟨hx, hb, hml, hown, hg⟩ (m_goes0 l dC dI cT s.heap.size mo r cd tm sn tx lz az na nt nr mw ml mk dq ) (cwV 1 hg (gI (List.forall_mem_append.mpr ⟨List.forall_mem_cons.mpr ⟨k_1165, List.forall_mem_cons.mpr ⟨k_1167, List.forall_mem_cons.mpr ⟨(big_sel (q := y_Md_goes) (n := 45) (by decide +kernel)), List.forall_mem_cons.mpr ⟨k_13, fun _ h => absurd h List.not_mem_nil⟩⟩⟩⟩, List.forall_mem_cons.mpr ⟨k_1168, fun _ h => h⟩⟩)) rfl rfl rfl (by decide +kernel) ⟨Nat.le_of_ble_eq_true rfl, Nat.le_of_ble_eq_true rfl⟩) ⟨fun a U g mk q => by obtain ⟨q0, q1, qP, qK, qD⟩ := q; exact ⟨q0, q1, qP, va_K.moved (u := U) (U := U.calling g mk a) (Vm.Alike.refl U.vm) qK, qD⟩, va_recv (q0 := 0) (ci := 12) hK hP rfl rfl, fun U hU hW => ⟨rfl, by rw [hU], by rw [hU]; exact hPc, va_K.moved hW.alike hK, hDc.weaken (fun _ _ _ _ => trivial)⟩⟩ rfl rfl hl.1 rfl (lv_room (Nat.le_of_ble_eq_true rfl)) d_Md_secret_28 ⟨Nat.le_of_ble_eq_true rfl, Nat.le_of_ble_eq_true rfl⟩) hS (fun q _ h => hFc q h) hFc (fun rv9 u t H1 locs ht hvm hw hB hz1 hk1 hS => ?_)
          try dsimp only at hw hB
          obtain ⟨hP1, hK1, hD1⟩ := hB
          rw [ht] at hP1
          obtain ⟨rfl, hw⟩ := hw
          obtain ⟨hP, hD⟩ := va_join (wr := [(r 3, .inl ((cT 0), 160, .inl f3)), (r 4, .inl ((cT 0), 4, .inl f4))]) (w1 := [(mo, .inr (12, mdG r 1 tm (nI sn) (nI tx) (nI lz) (nI az) (nI na) (nI nt) (nI nr) mw ml mk dq))]) hP hD [0] [1, 2] rfl rfl (by decide) (by decide) hk1 hFc hP1 hD1
          have hw29 := hw
          clear hPc hDc hFc hz1 hk1 hP1 hK1 hD1
          generalize H1 = H at hP hS ⊢
          have hP : va_P (dC, dI) vcl [(r 3, .inl ((cT 0), 160, .inl f3)), (r 4, .inl ((cT 0), 4, .inl f4)), (mo, .inr (12, mdG r 1 tm (nI sn) (nI tx) (nI lz) (nI az) (nI na) (nI nt) (nI nr) mw ml mk dq))] H := hP
          have hD : va_D A [(r 3, .inl ((cT 0), 160, .inl f3)), (r 4, .inl ((cT 0), 4, .inl f4)), (mo, .inr (12, mdG r 1 tm (nI sn) (nI tx) (nI lz) (nI az) (nI na) (nI nt) (nI nr) mw ml mk dq))] := hD
          refine lv_if_eq (tgt := 76) hx hb d_Md_secret_31 (by decide) (fun hc30 => ?_) (fun hn9 => absurd (by decide) hn9)
          have hP9 := hP.sub (ws' := [(mo, .inr (12, mdG r 1 tm (nI sn) (nI tx) (nI lz) (nI az) (nI na) (nI nt) (nI nr) mw ml mk dq)), (r 3, .inl ((cT 0), 160, .inl f3)), (r 4, .inl ((cT 0), 4, .inl f4))]) [2, 0, 1] rfl
          have hD9 := hD.sub (ws' := [(mo, .inr (12, mdG r 1 tm (nI sn) (nI tx) (nI lz) (nI az) (nI na) (nI nt) (nI nr) mw ml mk dq)), (r 3, .inl ((cT 0), 160, .inl f3)), (r 4, .inl ((cT 0), 4, .inl f4))]) [2, 0, 1] (by decide) rfl
          exact W.vret hx hb hr (fun t ht hW => ⟨⟨⟨f3, f4, 1⟩, rfl, ⟨Or.inr ⟨rfl, fun h9 => h9.2.2.2 (nlt40 h8y)⟩, h4⟩, by rw [ht]; exact hP9, va_K.moved hW.alike hK, hD9⟩, hS.F ht⟩) hS.2.2 d_Md_secret_76
    · skip
      refine lv_aload_n hx hb d_Md_secret_0 rfl (lv_at hl 0 rfl) ?_
      refine lv_iload_n hx hb d_Md_secret_1 rfl (lv_at hl 1 rfl) ?_
      refine lv_if_lt (tgt := 27) hx hb d_Md_secret_2 (by decide) (fun hn9 => absurd hn9 (nI_pos (by omega))) (fun hc31 => ?_)
      refine lv_iload_n hx hb d_Md_secret_5 rfl (lv_at hl 1 rfl) ?_
      refine lv_iconst (v := 4) hx hb d_Md_secret_6 (by decide) ?_
      refine lv_icmp_ge (tgt := 27) hx hb d_Md_secret_7 (by decide) (fun hc32 => ?_) (fun hc32 => ?_)
      · skip
        have n33 : 4 ≤ xn := (nI_leI (a := 4) (b := xn) (by omega) (by omega)).mp hc32
        refine lv_iconst (v := 0) hx hb d_Md_secret_27 (by decide) ?_
        have hPc := hP.sub (ws' := [(mo, .inr (12, mdG r cd tm (nI sn) (nI tx) (nI lz) (nI az) (nI na) (nI nt) (nI nr) mw ml mk dq))]) [0] rfl
        have hDc := hD.sub (ws' := [(mo, .inr (12, mdG r cd tm (nI sn) (nI tx) (nI lz) (nI az) (nI na) (nI nt) (nI nr) mw ml mk dq))]) [0] (by decide) rfl
        have hFc := va_free (wc := [(mo, .inr (12, mdG r cd tm (nI sn) (nI tx) (nI lz) (nI az) (nI na) (nI nt) (nI nr) mw ml mk dq))]) hD hS hA [0] rfl
        refine va_calli (va_runV (C := "DoorServerModel") (As := [.int 0]) (rest := []) ⟨hx, hb, hml, hown, hg⟩ (m_goes0 l dC dI cT s.heap.size mo r cd tm sn tx lz az na nt nr mw ml mk dq ) (cwV 1 hg (gI (List.forall_mem_append.mpr ⟨List.forall_mem_cons.mpr ⟨k_1165, List.forall_mem_cons.mpr ⟨k_1167, List.forall_mem_cons.mpr ⟨(big_sel (q := y_Md_goes) (n := 45) (by decide +kernel)), List.forall_mem_cons.mpr ⟨k_13, fun _ h => absurd h List.not_mem_nil⟩⟩⟩⟩, List.forall_mem_cons.mpr ⟨k_1168, fun _ h => h⟩⟩)) rfl rfl rfl (by decide +kernel) ⟨Nat.le_of_ble_eq_true rfl, Nat.le_of_ble_eq_true rfl⟩) ⟨fun a U g mk q => by obtain ⟨q0, q1, qP, qK, qD⟩ := q; exact ⟨q0, q1, qP, va_K.moved (u := U) (U := U.calling g mk a) (Vm.Alike.refl U.vm) qK, qD⟩, va_recv (q0 := 0) (ci := 12) hK hP rfl rfl, fun U hU hW => ⟨rfl, by rw [hU], by rw [hU]; exact hPc, va_K.moved hW.alike hK, hDc.weaken (fun _ _ _ _ => trivial)⟩⟩ rfl rfl hl.1 rfl (lv_room (Nat.le_of_ble_eq_true rfl)) d_Md_secret_28 ⟨Nat.le_of_ble_eq_true rfl, Nat.le_of_ble_eq_true rfl⟩) hS (fun q _ h => hFc q h) hFc (fun rv9 u t H1 locs ht hvm hw hB hz1 hk1 hS => ?_)
        try dsimp only at hw hB
        obtain ⟨hP1, hK1, hD1⟩ := hB
        rw [ht] at hP1
        obtain ⟨rfl, hw⟩ := hw
        obtain ⟨hP, hD⟩ := va_join (wr := [(r 3, .inl ((cT 0), 160, .inl f3)), (r 4, .inl ((cT 0), 4, .inl f4))]) (w1 := [(mo, .inr (12, mdG r 1 tm (nI sn) (nI tx) (nI lz) (nI az) (nI na) (nI nt) (nI nr) mw ml mk dq))]) hP hD [0] [1, 2] rfl rfl (by decide) (by decide) hk1 hFc hP1 hD1
        have hw35 := hw
        clear hPc hDc hFc hz1 hk1 hP1 hK1 hD1
        generalize H1 = H at hP hS ⊢
        have hP : va_P (dC, dI) vcl [(r 3, .inl ((cT 0), 160, .inl f3)), (r 4, .inl ((cT 0), 4, .inl f4)), (mo, .inr (12, mdG r 1 tm (nI sn) (nI tx) (nI lz) (nI az) (nI na) (nI nt) (nI nr) mw ml mk dq))] H := hP
        have hD : va_D A [(r 3, .inl ((cT 0), 160, .inl f3)), (r 4, .inl ((cT 0), 4, .inl f4)), (mo, .inr (12, mdG r 1 tm (nI sn) (nI tx) (nI lz) (nI az) (nI na) (nI nt) (nI nr) mw ml mk dq))] := hD
        refine lv_if_eq (tgt := 76) hx hb d_Md_secret_31 (by decide) (fun hc36 => ?_) (fun hn9 => absurd (by decide) hn9)
        have hP9 := hP.sub (ws' := [(mo, .inr (12, mdG r 1 tm (nI sn) (nI tx) (nI lz) (nI az) (nI na) (nI nt) (nI nr) mw ml mk dq)), (r 3, .inl ((cT 0), 160, .inl f3)), (r 4, .inl ((cT 0), 4, .inl f4))]) [2, 0, 1] rfl
        have hD9 := hD.sub (ws' := [(mo, .inr (12, mdG r 1 tm (nI sn) (nI tx) (nI lz) (nI az) (nI na) (nI nt) (nI nr) mw ml mk dq)), (r 3, .inl ((cT 0), 160, .inl f3)), (r 4, .inl ((cT 0), 4, .inl f4))]) [2, 0, 1] (by decide) rfl
        exact W.vret hx hb hr (fun t ht hW => ⟨⟨⟨f3, f4, 1⟩, rfl, ⟨Or.inr ⟨rfl, fun h9 => h9.2.2.1 (nI_lt (b := 1) (by omega) (by decide))⟩, h4⟩, by rw [ht]; exact hP9, va_K.moved hW.alike hK, hD9⟩, hS.F ht⟩) hS.2.2 d_Md_secret_76
      · skip
        have n34 : xn < 4 := Nat.not_le.mp (fun h7 => hc32 ((nI_leI (a := 4) (b := xn) (by omega) (by omega)).mpr h7))
        refine lv_iload hx hb d_Md_secret_10 (lv_at hl 3 rfl) ?_
        refine lv_iconst (v := 1) hx hb d_Md_secret_12 (by decide) ?_
        refine lv_icmp_lt (tgt := 27) hx hb d_Md_secret_13 (by decide) (fun hc37 => ?_) (fun hc37 => ?_)
        · skip
          have n38 : yn < 1 := (nI_ltI (a := yn) (b := 1) (by omega) (by omega)).mp hc37
          refine lv_iconst (v := 0) hx hb d_Md_secret_27 (by decide) ?_
          have hPc := hP.sub (ws' := [(mo, .inr (12, mdG r cd tm (nI sn) (nI tx) (nI lz) (nI az) (nI na) (nI nt) (nI nr) mw ml mk dq))]) [0] rfl
          have hDc := hD.sub (ws' := [(mo, .inr (12, mdG r cd tm (nI sn) (nI tx) (nI lz) (nI az) (nI na) (nI nt) (nI nr) mw ml mk dq))]) [0] (by decide) rfl
          have hFc := va_free (wc := [(mo, .inr (12, mdG r cd tm (nI sn) (nI tx) (nI lz) (nI az) (nI na) (nI nt) (nI nr) mw ml mk dq))]) hD hS hA [0] rfl
          refine va_calli (va_runV (C := "DoorServerModel") (As := [.int 0]) (rest := []) ⟨hx, hb, hml, hown, hg⟩ (m_goes0 l dC dI cT s.heap.size mo r cd tm sn tx lz az na nt nr mw ml mk dq ) (cwV 1 hg (gI (List.forall_mem_append.mpr ⟨List.forall_mem_cons.mpr ⟨k_1165, List.forall_mem_cons.mpr ⟨k_1167, List.forall_mem_cons.mpr ⟨(big_sel (q := y_Md_goes) (n := 45) (by decide +kernel)), List.forall_mem_cons.mpr ⟨k_13, fun _ h => absurd h List.not_mem_nil⟩⟩⟩⟩, List.forall_mem_cons.mpr ⟨k_1168, fun _ h => h⟩⟩)) rfl rfl rfl (by decide +kernel) ⟨Nat.le_of_ble_eq_true rfl, Nat.le_of_ble_eq_true rfl⟩) ⟨fun a U g mk q => by obtain ⟨q0, q1, qP, qK, qD⟩ := q; exact ⟨q0, q1, qP, va_K.moved (u := U) (U := U.calling g mk a) (Vm.Alike.refl U.vm) qK, qD⟩, va_recv (q0 := 0) (ci := 12) hK hP rfl rfl, fun U hU hW => ⟨rfl, by rw [hU], by rw [hU]; exact hPc, va_K.moved hW.alike hK, hDc.weaken (fun _ _ _ _ => trivial)⟩⟩ rfl rfl hl.1 rfl (lv_room (Nat.le_of_ble_eq_true rfl)) d_Md_secret_28 ⟨Nat.le_of_ble_eq_true rfl, Nat.le_of_ble_eq_true rfl⟩) hS (fun q _ h => hFc q h) hFc (fun rv9 u t H1 locs ht hvm hw hB hz1 hk1 hS => ?_)
          try dsimp only at hw hB
          obtain ⟨hP1, hK1, hD1⟩ := hB
          rw [ht] at hP1
          obtain ⟨rfl, hw⟩ := hw
          obtain ⟨hP, hD⟩ := va_join (wr := [(r 3, .inl ((cT 0), 160, .inl f3)), (r 4, .inl ((cT 0), 4, .inl f4))]) (w1 := [(mo, .inr (12, mdG r 1 tm (nI sn) (nI tx) (nI lz) (nI az) (nI na) (nI nt) (nI nr) mw ml mk dq))]) hP hD [0] [1, 2] rfl rfl (by decide) (by decide) hk1 hFc hP1 hD1
          have hw40 := hw
          clear hPc hDc hFc hz1 hk1 hP1 hK1 hD1
          generalize H1 = H at hP hS ⊢
          have hP : va_P (dC, dI) vcl [(r 3, .inl ((cT 0), 160, .inl f3)), (r 4, .inl ((cT 0), 4, .inl f4)), (mo, .inr (12, mdG r 1 tm (nI sn) (nI tx) (nI lz) (nI az) (nI na) (nI nt) (nI nr) mw ml mk dq))] H := hP
          have hD : va_D A [(r 3, .inl ((cT 0), 160, .inl f3)), (r 4, .inl ((cT 0), 4, .inl f4)), (mo, .inr (12, mdG r 1 tm (nI sn) (nI tx) (nI lz) (nI az) (nI na) (nI nt) (nI nr) mw ml mk dq))] := hD
          refine lv_if_eq (tgt := 76) hx hb d_Md_secret_31 (by decide) (fun hc41 => ?_) (fun hn9 => absurd (by decide) hn9)
          have hP9 := hP.sub (ws' := [(mo, .inr (12, mdG r 1 tm (nI sn) (nI tx) (nI lz) (nI az) (nI na) (nI nt) (nI nr) mw ml mk dq)), (r 3, .inl ((cT 0), 160, .inl f3)), (r 4, .inl ((cT 0), 4, .inl f4))]) [2, 0, 1] rfl
          have hD9 := hD.sub (ws' := [(mo, .inr (12, mdG r 1 tm (nI sn) (nI tx) (nI lz) (nI az) (nI na) (nI nt) (nI nr) mw ml mk dq)), (r 3, .inl ((cT 0), 160, .inl f3)), (r 4, .inl ((cT 0), 4, .inl f4))]) [2, 0, 1] (by decide) rfl
          exact W.vret hx hb hr (fun t ht hW => ⟨⟨⟨f3, f4, 1⟩, rfl, ⟨Or.inr ⟨rfl, fun h9 => h9.2.2.1 (nI_lt (b := 1) (by omega) (by decide))⟩, h4⟩, by rw [ht]; exact hP9, va_K.moved hW.alike hK, hD9⟩, hS.F ht⟩) hS.2.2 d_Md_secret_76
        · skip
          have n39 : 1 ≤ yn := Nat.not_lt.mp (fun h7 => hc37 ((nI_ltI (a := yn) (b := 1) (by omega) (by omega)).mpr h7))
          refine lv_iload hx hb d_Md_secret_16 (lv_at hl 3 rfl) ?_
          refine lv_bipush (v := 40) hx hb d_Md_secret_18 (by decide) ?_
          refine lv_icmp_gt (tgt := 27) hx hb d_Md_secret_20 (by decide) (fun hc42 => ?_) (fun hc42 => ?_)
          · skip
            have n43 : 40 < yn := (nI_ltI (a := 40) (b := yn) (by omega) (by omega)).mp hc42
            refine lv_iconst (v := 0) hx hb d_Md_secret_27 (by decide) ?_
            have hPc := hP.sub (ws' := [(mo, .inr (12, mdG r cd tm (nI sn) (nI tx) (nI lz) (nI az) (nI na) (nI nt) (nI nr) mw ml mk dq))]) [0] rfl
            have hDc := hD.sub (ws' := [(mo, .inr (12, mdG r cd tm (nI sn) (nI tx) (nI lz) (nI az) (nI na) (nI nt) (nI nr) mw ml mk dq))]) [0] (by decide) rfl
            have hFc := va_free (wc := [(mo, .inr (12, mdG r cd tm (nI sn) (nI tx) (nI lz) (nI az) (nI na) (nI nt) (nI nr) mw ml mk dq))]) hD hS hA [0] rfl
            refine va_calli (va_runV (C := "DoorServerModel") (As := [.int 0]) (rest := []) ⟨hx, hb, hml, hown, hg⟩ (m_goes0 l dC dI cT s.heap.size mo r cd tm sn tx lz az na nt nr mw ml mk dq ) (cwV 1 hg (gI (List.forall_mem_append.mpr ⟨List.forall_mem_cons.mpr ⟨k_1165, List.forall_mem_cons.mpr ⟨k_1167, List.forall_mem_cons.mpr ⟨(big_sel (q := y_Md_goes) (n := 45) (by decide +kernel)), List.forall_mem_cons.mpr ⟨k_13, fun _ h => absurd h List.not_mem_nil⟩⟩⟩⟩, List.forall_mem_cons.mpr ⟨k_1168, fun _ h => h⟩⟩)) rfl rfl rfl (by decide +kernel) ⟨Nat.le_of_ble_eq_true rfl, Nat.le_of_ble_eq_true rfl⟩) ⟨fun a U g mk q => by obtain ⟨q0, q1, qP, qK, qD⟩ := q; exact ⟨q0, q1, qP, va_K.moved (u := U) (U := U.calling g mk a) (Vm.Alike.refl U.vm) qK, qD⟩, va_recv (q0 := 0) (ci := 12) hK hP rfl rfl, fun U hU hW => ⟨rfl, by rw [hU], by rw [hU]; exact hPc, va_K.moved hW.alike hK, hDc.weaken (fun _ _ _ _ => trivial)⟩⟩ rfl rfl hl.1 rfl (lv_room (Nat.le_of_ble_eq_true rfl)) d_Md_secret_28 ⟨Nat.le_of_ble_eq_true rfl, Nat.le_of_ble_eq_true rfl⟩) hS (fun q _ h => hFc q h) hFc (fun rv9 u t H1 locs ht hvm hw hB hz1 hk1 hS => ?_)
            try dsimp only at hw hB
            obtain ⟨hP1, hK1, hD1⟩ := hB
            rw [ht] at hP1
            obtain ⟨rfl, hw⟩ := hw
            obtain ⟨hP, hD⟩ := va_join (wr := [(r 3, .inl ((cT 0), 160, .inl f3)), (r 4, .inl ((cT 0), 4, .inl f4))]) (w1 := [(mo, .inr (12, mdG r 1 tm (nI sn) (nI tx) (nI lz) (nI az) (nI na) (nI nt) (nI nr) mw ml mk dq))]) hP hD [0] [1, 2] rfl rfl (by decide) (by decide) hk1 hFc hP1 hD1
            have hw45 := hw
            clear hPc hDc hFc hz1 hk1 hP1 hK1 hD1
            generalize H1 = H at hP hS ⊢
            have hP : va_P (dC, dI) vcl [(r 3, .inl ((cT 0), 160, .inl f3)), (r 4, .inl ((cT 0), 4, .inl f4)), (mo, .inr (12, mdG r 1 tm (nI sn) (nI tx) (nI lz) (nI az) (nI na) (nI nt) (nI nr) mw ml mk dq))] H := hP
            have hD : va_D A [(r 3, .inl ((cT 0), 160, .inl f3)), (r 4, .inl ((cT 0), 4, .inl f4)), (mo, .inr (12, mdG r 1 tm (nI sn) (nI tx) (nI lz) (nI az) (nI na) (nI nt) (nI nr) mw ml mk dq))] := hD
            refine lv_if_eq (tgt := 76) hx hb d_Md_secret_31 (by decide) (fun hc46 => ?_) (fun hn9 => absurd (by decide) hn9)
            have hP9 := hP.sub (ws' := [(mo, .inr (12, mdG r 1 tm (nI sn) (nI tx) (nI lz) (nI az) (nI na) (nI nt) (nI nr) mw ml mk dq)), (r 3, .inl ((cT 0), 160, .inl f3)), (r 4, .inl ((cT 0), 4, .inl f4))]) [2, 0, 1] rfl
            have hD9 := hD.sub (ws' := [(mo, .inr (12, mdG r 1 tm (nI sn) (nI tx) (nI lz) (nI az) (nI na) (nI nt) (nI nr) mw ml mk dq)), (r 3, .inl ((cT 0), 160, .inl f3)), (r 4, .inl ((cT 0), 4, .inl f4))]) [2, 0, 1] (by decide) rfl
            exact W.vret hx hb hr (fun t ht hW => ⟨⟨⟨f3, f4, 1⟩, rfl, ⟨Or.inr ⟨rfl, fun h9 => h9.2.2.1 (nI_lt (b := 1) (by omega) (by decide))⟩, h4⟩, by rw [ht]; exact hP9, va_K.moved hW.alike hK, hD9⟩, hS.F ht⟩) hS.2.2 d_Md_secret_76
          · skip
            have n44 : yn ≤ 40 := Nat.not_lt.mp (fun h7 => hc42 ((nI_ltI (a := 40) (b := yn) (by omega) (by omega)).mpr h7))
            refine lv_iconst (v := 1) hx hb d_Md_secret_23 (by decide) ?_
            refine lv_goto (tgt := 28) hx hb d_Md_secret_24 (by decide) ?_
            have hPc := hP.sub (ws' := [(mo, .inr (12, mdG r cd tm (nI sn) (nI tx) (nI lz) (nI az) (nI na) (nI nt) (nI nr) mw ml mk dq))]) [0] rfl
            have hDc := hD.sub (ws' := [(mo, .inr (12, mdG r cd tm (nI sn) (nI tx) (nI lz) (nI az) (nI na) (nI nt) (nI nr) mw ml mk dq))]) [0] (by decide) rfl
            have hFc := va_free (wc := [(mo, .inr (12, mdG r cd tm (nI sn) (nI tx) (nI lz) (nI az) (nI na) (nI nt) (nI nr) mw ml mk dq))]) hD hS hA [0] rfl
            refine va_calli (va_runV (C := "DoorServerModel") (As := [.int 1]) (rest := []) ⟨hx, hb, hml, hown, hg⟩ (m_goes1 l dC dI cT s.heap.size mo r cd tm sn tx lz az na nt nr mw ml mk dq ) (cwV 1 hg (gI (List.forall_mem_append.mpr ⟨List.forall_mem_cons.mpr ⟨k_1165, List.forall_mem_cons.mpr ⟨k_1167, List.forall_mem_cons.mpr ⟨(big_sel (q := y_Md_goes) (n := 45) (by decide +kernel)), List.forall_mem_cons.mpr ⟨k_13, fun _ h => absurd h List.not_mem_nil⟩⟩⟩⟩, List.forall_mem_cons.mpr ⟨k_1168, fun _ h => h⟩⟩)) rfl rfl rfl (by decide +kernel) ⟨Nat.le_of_ble_eq_true rfl, Nat.le_of_ble_eq_true rfl⟩) ⟨fun a U g mk q => by obtain ⟨q0, q1, qP, qK, qD⟩ := q; exact ⟨q0, q1, qP, va_K.moved (u := U) (U := U.calling g mk a) (Vm.Alike.refl U.vm) qK, qD⟩, va_recv (q0 := 0) (ci := 12) hK hP rfl rfl, fun U hU hW => ⟨rfl, by rw [hU], by rw [hU]; exact hPc, va_K.moved hW.alike hK, hDc.weaken (fun _ _ _ _ => trivial)⟩⟩ rfl rfl hl.1 rfl (lv_room (Nat.le_of_ble_eq_true rfl)) d_Md_secret_28 ⟨Nat.le_of_ble_eq_true rfl, Nat.le_of_ble_eq_true rfl⟩) hS (fun q _ h => hFc q h) hFc (fun rv9 u t H1 locs ht hvm hw hB hz1 hk1 hS => ?_)
            try dsimp only at hw hB
            obtain ⟨hP1, hK1, hD1⟩ := hB
            rw [ht] at hP1
            obtain ⟨rfl, hw⟩ := hw
            obtain ⟨hP, hD⟩ := va_join (wr := [(r 3, .inl ((cT 0), 160, .inl f3)), (r 4, .inl ((cT 0), 4, .inl f4))]) (w1 := [(mo, .inr (12, mdG r 0 tm (nI sn) (nI tx) (nI lz) (nI az) (nI na) (nI nt) (nI nr) mw ml mk dq))]) hP hD [0] [1, 2] rfl rfl (by decide) (by decide) hk1 hFc hP1 hD1
            have hw47 := hw
            clear hPc hDc hFc hz1 hk1 hP1 hK1 hD1
            generalize H1 = H at hP hS ⊢
            have hP : va_P (dC, dI) vcl [(r 3, .inl ((cT 0), 160, .inl f3)), (r 4, .inl ((cT 0), 4, .inl f4)), (mo, .inr (12, mdG r 0 tm (nI sn) (nI tx) (nI lz) (nI az) (nI na) (nI nt) (nI nr) mw ml mk dq))] H := hP
            have hD : va_D A [(r 3, .inl ((cT 0), 160, .inl f3)), (r 4, .inl ((cT 0), 4, .inl f4)), (mo, .inr (12, mdG r 0 tm (nI sn) (nI tx) (nI lz) (nI az) (nI na) (nI nt) (nI nr) mw ml mk dq))] := hD
            refine lv_if_eq (tgt := 76) hx hb d_Md_secret_31 (by decide) (fun hn9 => absurd hn9 (by decide)) (fun hc48 => ?_)
            refine lv_iconst (v := 0) hx hb d_Md_secret_34 (by decide) ?_
            refine lv_istore (lv' := [(5, .int 0), (0, .ref mo), (1, .int (nI xn)), (2, .long v), (4, .int (nI yn))]) hx hb d_Md_secret_35 hl (by decide) rfl (fun ls hl => ?_)
            have hl := lv_sub hl [0, 1, 2, 3, 4] (show _ = [(5, .int 0), (0, .ref mo), (1, .int (nI xn)), (2, .long v), (4, .int (nI yn))] from rfl)
            have L50 : ∀ (Q : State → Prop) (exit : ∀ (g3_49 : Nat → Int32) (H : Heap) (locs : List Loc) (ls : Array Slot), va_P (dC, dI) vcl [(r 3, .inl ((cT 0), 160, .inl g3_49)), (r 4, .inl ((cT 0), 4, .inl f4)), (mo, .inr (12, mdG r 0 tm (nI sn) (nI tx) (nI lz) (nI az) (nI na) (nI nt) (nI nr) mw ml mk dq))] H → va_D A [(r 3, .inl ((cT 0), 160, .inl g3_49)), (r 4, .inl ((cT 0), 4, .inl f4)), (mo, .inr (12, mdG r 0 tm (nI sn) (nI tx) (nI lz) (nI az) (nI na) (nI nt) (nI nr) mw ml mk dq))] → va_S A s.heap H locs → lv_has ls 6 [(5, .int (nI yn)), (0, .ref mo), (1, .int (nI xn)), (2, .long v), (4, .int (nI yn))] → W p l e ({ frames := 1, cells := 0, slots := 0, locals := 22 } : Room) s m args below meth c H locs 0 0 Q (F0 m 68 ls [])) (j8 i : Nat) (g3_49 : Nat → Int32) (H : Heap) (locs : List Loc) (ls : Array Slot), i + j8 = yn → va_P (dC, dI) vcl [(r 3, .inl ((cT 0), 160, .inl g3_49)), (r 4, .inl ((cT 0), 4, .inl f4)), (mo, .inr (12, mdG r 0 tm (nI sn) (nI tx) (nI lz) (nI az) (nI na) (nI nt) (nI nr) mw ml mk dq))] H → va_D A [(r 3, .inl ((cT 0), 160, .inl g3_49)), (r 4, .inl ((cT 0), 4, .inl f4)), (mo, .inr (12, mdG r 0 tm (nI sn) (nI tx) (nI lz) (nI az) (nI na) (nI nt) (nI nr) mw ml mk dq))] → va_S A s.heap H locs → lv_has ls 6 [(5, .int (nI i)), (0, .ref mo), (1, .int (nI xn)), (2, .long v), (4, .int (nI yn))] → W p l e ({ frames := 1, cells := 0, slots := 0, locals := 22 } : Room) s m args below meth c H locs 0 0 Q (F0 m 37 ls []) := by
              intro Q exit j8
              induction j8 with
              | zero => 
                intro i g3_49 H locs ls hij  hP hD hS hl
                have hij : yn = i := by omega
                refine lv_iload hx hb d_Md_secret_37 (lv_at hl 0 rfl) ?_
                refine lv_iload hx hb d_Md_secret_39 (lv_at hl 4 rfl) ?_
                refine lv_icmp_ge (tgt := 68) hx hb d_Md_secret_41 (by decide) (fun hc51 => ?_) (fun hn9 => absurd (nI_le (by omega) (by omega)) hn9)
                subst hij
                exact exit g3_49 _ _ _  hP hD hS hl
              | succ j8 ih => 
                intro i g3_49 H locs ls hij  hP hD hS hl
                have hlt : i < yn := by omega
                have hlti := hlt
                refine lv_iload hx hb d_Md_secret_37 (lv_at hl 0 rfl) ?_
                refine lv_iload hx hb d_Md_secret_39 (lv_at hl 4 rfl) ?_
                refine lv_icmp_ge (tgt := 68) hx hb d_Md_secret_41 (by decide) (fun hn9 => absurd hn9 (nI_ge (by omega) (by omega))) (fun hc52 => ?_)
                refine lv_aload_n hx hb d_Md_secret_44 rfl (lv_at hl 1 rfl) ?_
                refine va_get (D := (dC, dI)) (ci := 12) (v := (.ref (r 3))) (C := R_Md) (T := F_Md) (N := 45) hx hb hg in_Md hown hK hP 2 rfl rfl 3 (by decide) (hg _ k_1023) (fun _ h9 => h9) rfl d_Md_secret_45 ?_
                refine lv_bipush (v := 40) hx hb d_Md_secret_48 (by decide) ?_
                refine lv_iload_n hx hb d_Md_secret_50 rfl (lv_at hl 2 rfl) ?_
                refine lv_imul hx hb d_Md_secret_51 ?_
                refine lv_topi (fun x54 e53 => ?_)
                obtain rfl : x54 = nI (40 * xn) := by rw [e53]; exact pk_mul 40 xn
                refine lv_iload hx hb d_Md_secret_52 (lv_at hl 0 rfl) ?_
                refine lv_iadd hx hb d_Md_secret_54 ?_
                refine lv_topi (fun x56 e55 => ?_)
                obtain rfl : x56 = nI ((40 * xn) + i) := by rw [e55]; exact nI_add (40 * xn) i
                refine lv_lload_n hx hb d_Md_secret_55 rfl (lv_at hl 3 rfl) ?_
                refine lv_iload hx hb d_Md_secret_56 (lv_at hl 0 rfl) ?_
                have hPc := hP.sub (ws' := []) [] rfl
                have hDc := hD.sub (ws' := []) [] (by decide) rfl
                have hFc := va_free (wc := []) hD hS hA [] rfl
                refine va_calli (va_runS (As := [.long v, .int (nI i)]) (rest := [.int (nI ((40 * xn) + i)), .ref (r 3)]) ⟨hx, hb, hml, hown, hg⟩ (m_letter l dC dI cT H.size v (nI i) ) (va_cwS 2 hg (gI (List.forall_mem_append.mpr ⟨List.forall_mem_cons.mpr ⟨k_1169, List.forall_mem_cons.mpr ⟨k_1170, List.forall_mem_cons.mpr ⟨k_13, fun _ h => absurd h List.not_mem_nil⟩⟩⟩, List.forall_mem_cons.mpr ⟨k_1171, fun _ h => h⟩⟩)) rfl rfl rfl (by decide +kernel) ⟨Nat.le_of_ble_eq_true rfl, Nat.le_of_ble_eq_true rfl⟩) ⟨fun a U g mk q => by obtain ⟨q0, q1, qP, qK, qD⟩ := q; exact ⟨q0, q1, qP, va_K.moved (u := U) (U := U.calling g mk a) (Vm.Alike.refl U.vm) qK, qD⟩, fun U hU hW => ⟨rfl, by rw [hU], by rw [hU]; exact hPc, va_K.moved hW.alike hK, hDc.weaken (fun _ _ _ _ => trivial)⟩⟩ rfl rfl hl.1 rfl (lv_room (Nat.le_of_ble_eq_true rfl)) d_Md_secret_58 ⟨Nat.le_of_ble_eq_true rfl, Nat.le_of_ble_eq_true rfl⟩) hS (fun q _ h => hFc q h) hFc (fun rv9 u t H1 locs ht hvm hw hB hz1 hk1 hS => ?_)
                try dsimp only at hw hB
                obtain ⟨hP1, hK1, hD1⟩ := hB
                rw [ht] at hP1
                generalize rv9 = r57 at hw ⊢
                obtain ⟨hP, hD⟩ := va_join (wr := [(r 3, .inl ((cT 0), 160, .inl g3_49)), (r 4, .inl ((cT 0), 4, .inl f4)), (mo, .inr (12, mdG r 0 tm (nI sn) (nI tx) (nI lz) (nI az) (nI na) (nI nt) (nI nr) mw ml mk dq))]) (w1 := []) hP hD [] [0, 1, 2] rfl rfl (by decide) (by decide) hk1 hFc hP1 hD1
                have hw58 := hw
                clear hPc hDc hFc hz1 hk1 hP1 hK1 hD1
                generalize H1 = H at hP hS ⊢
                have hP : va_P (dC, dI) vcl [(r 3, .inl ((cT 0), 160, .inl g3_49)), (r 4, .inl ((cT 0), 4, .inl f4)), (mo, .inr (12, mdG r 0 tm (nI sn) (nI tx) (nI lz) (nI az) (nI na) (nI nt) (nI nr) mw ml mk dq))] H := hP
                have hD : va_D A [(r 3, .inl ((cT 0), 160, .inl g3_49)), (r 4, .inl ((cT 0), 4, .inl f4)), (mo, .inr (12, mdG r 0 tm (nI sn) (nI tx) (nI lz) (nI az) (nI na) (nI nt) (nI nr) mw ml mk dq))] := hD
                refine va_iast hx hb hK hP hD hS 0 0 rfl rfl (i := (nI ((40 * xn) + i))) (vp_in_nI (n := (40 * xn) + i) (N := 160) (by omega) (by decide)) d_Md_secret_61 (fun H locs hP hD hS => ?_)
                have ef59 : upd g3_49 (nI ((40 * xn) + i)).toNatClampNeg r57 = upd g3_49 ((40 * xn) + i) r57 := by rw [show (nI ((40 * xn) + i)).toNatClampNeg = (40 * xn) + i from nI_clamp (by omega)]
                rw [ef59] at hP hD
                have hP : va_P (dC, dI) vcl [(r 3, .inl ((cT 0), 160, .inl (upd g3_49 ((40 * xn) + i) r57))), (r 4, .inl ((cT 0), 4, .inl f4)), (mo, .inr (12, mdG r 0 tm (nI sn) (nI tx) (nI lz) (nI az) (nI na) (nI nt) (nI nr) mw ml mk dq))] H := hP
                have hD : va_D A [(r 3, .inl ((cT 0), 160, .inl (upd g3_49 ((40 * xn) + i) r57))), (r 4, .inl ((cT 0), 4, .inl f4)), (mo, .inr (12, mdG r 0 tm (nI sn) (nI tx) (nI lz) (nI az) (nI na) (nI nt) (nI nr) mw ml mk dq))] := hD
                refine lv_iinc (k := 0) (v := nI (i + 1)) (lv' := [(5, .int (nI (i + 1))), (0, .ref mo), (1, .int (nI xn)), (2, .long v), (4, .int (nI yn))]) hx hb d_Md_secret_62 hl rfl (nI_1 i) (by decide) rfl (fun ls hl => ?_)
                refine lv_goto (tgt := 37) hx hb d_Md_secret_65 (by decide) ?_
                have hl := lv_sub hl [0, 1, 2, 3, 4] (show _ = [(5, .int (nI (i + 1))), (0, .ref mo), (1, .int (nI xn)), (2, .long v), (4, .int (nI yn))] from rfl)
                exact ih (i + 1) _ _ _ _ (by omega)  hP hD hS hl
            refine L50 _ (fun g3_49 H locs ls  hP hD hS hl => ?_) (yn - 0) 0 f3 H _ ls (by omega)  hP hD hS hl
            refine lv_aload_n hx hb d_Md_secret_68 rfl (lv_at hl 1 rfl) ?_
            refine va_get (D := (dC, dI)) (ci := 12) (v := (.ref (r 4))) (C := R_Md) (T := F_Md) (N := 45) hx hb hg in_Md hown hK hP 2 rfl rfl 4 (by decide) (hg _ k_1024) (fun _ h9 => h9) rfl d_Md_secret_69 ?_
            refine lv_iload_n hx hb d_Md_secret_72 rfl (lv_at hl 2 rfl) ?_
            refine lv_iload hx hb d_Md_secret_73 (lv_at hl 4 rfl) ?_
            refine va_iast hx hb hK hP hD hS 1 0 rfl rfl (i := (nI xn)) (vp_in_nI (n := xn) (N := 4) (by omega) (by decide)) d_Md_secret_75 (fun H locs hP hD hS => ?_)
            have ef60 : upd f4 (nI xn).toNatClampNeg (nI yn) = upd f4 xn (nI yn) := by rw [show (nI xn).toNatClampNeg = xn from nI_clamp (by omega)]
            rw [ef60] at hP hD
            have hP : va_P (dC, dI) vcl [(r 3, .inl ((cT 0), 160, .inl g3_49)), (r 4, .inl ((cT 0), 4, .inl (upd f4 xn (nI yn)))), (mo, .inr (12, mdG r 0 tm (nI sn) (nI tx) (nI lz) (nI az) (nI na) (nI nt) (nI nr) mw ml mk dq))] H := hP
            have hD : va_D A [(r 3, .inl ((cT 0), 160, .inl g3_49)), (r 4, .inl ((cT 0), 4, .inl (upd f4 xn (nI yn)))), (mo, .inr (12, mdG r 0 tm (nI sn) (nI tx) (nI lz) (nI az) (nI na) (nI nt) (nI nr) mw ml mk dq))] := hD
            have hP9 := hP.sub (ws' := [(mo, .inr (12, mdG r 0 tm (nI sn) (nI tx) (nI lz) (nI az) (nI na) (nI nt) (nI nr) mw ml mk dq)), (r 3, .inl ((cT 0), 160, .inl g3_49)), (r 4, .inl ((cT 0), 4, .inl (upd f4 xn (nI yn))))]) [2, 0, 1] rfl
            have hD9 := hD.sub (ws' := [(mo, .inr (12, mdG r 0 tm (nI sn) (nI tx) (nI lz) (nI az) (nI na) (nI nt) (nI nr) mw ml mk dq)), (r 3, .inl ((cT 0), 160, .inl g3_49)), (r 4, .inl ((cT 0), 4, .inl (upd f4 xn (nI yn))))]) [2, 0, 1] (by decide) rfl
            exact W.vret hx hb hr (fun t ht hW => ⟨⟨⟨g3_49, upd f4 xn (nI yn), 0⟩, rfl, ⟨Or.inl ⟨rfl, nI_pos (by omega), nI_nlt (a := 3) (by omega) (by decide), nI_nlt (b := 1) (by omega) (by omega), nI_nlt (a := 40) (by omega) (by decide)⟩, BD_upd h4 (by omega)⟩, by rw [ht]; exact hP9, va_K.moved hW.alike hK, hD9⟩, hS.F ht⟩) hS.2.2 d_Md_secret_76
set_option maxHeartbeats 4000000 in
set_option maxRecDepth 100000 in
/-- user -/
theorem u_user (l : Launch) (dC : Nat → ClassId) (dI : Nat → Nat → Nat) (cT : Nat → ClassId) (sz : Nat) (mo : Nat) (r : Nat → Nat) (cd : Int32) (tm : Int32) (sn : Nat) (tx : Nat) (lz : Nat) (az : Nat) (na : Nat) (nt : Nat) (nr : Nat) (mw : Int32) (ml : Int32) (mk : Int64) (dq : Int64) (f5 : Nat → Int32) (f6 : Nat → Int32) (x : Int32) (v : Int64) (y : Int32) (h6 : BD 60 32 f6) : Met l y_Md_user (Cond.code y_Md_user b_Md_user 7 (Option.some Jvm.ClassFile.FieldType.boolean) :: BIG) ({ frames := 1, cells := 0, slots := 0, locals := 22 }) (va_Pc [.ref mo, .int x, .long v, .int y] (fun U => U.heap.size = sz ∧ va_P (dC, dI) vcl [(mo, .inr (12, mdG r cd tm (nI sn) (nI tx) (nI lz) (nI az) (nI na) (nI nt) (nI nr) mw ml mk dq)), (r 5, .inl ((cT 0), 1920, .inl f5)), (r 6, .inl ((cT 0), 32, .inl f6))] U.heap ∧ va_K (dC, dI) vcl (tyL cT) U ∧ va_D (fun _ => True) [(mo, .inr (12, mdG r cd tm (nI sn) (nI tx) (nI lz) (nI az) (nI na) (nI nt) (nI nr) mw ml mk dq)), (r 5, .inl ((cT 0), 1920, .inl f5)), (r 6, .inl ((cT 0), 32, .inl f6))])) (va_Qi (S := (Nat → Int32) × (Nat → Int32) × Int32) (fun rv9 u => match u with | (g5, g6, cd2) => BD 60 32 g6) (fun u t => match u with | (g5, g6, cd2) => va_P (dC, dI) vcl [(mo, .inr (12, mdG r cd2 tm (nI sn) (nI tx) (nI lz) (nI az) (nI na) (nI nt) (nI nr) mw ml mk dq)), (r 5, .inl ((cT 0), 1920, .inl g5)), (r 6, .inl ((cT 0), 32, .inl g6))] t.heap ∧ va_K (dC, dI) vcl (tyL cT) t ∧ va_D (va_A [(mo, .inr (12, mdG r cd tm (nI sn) (nI tx) (nI lz) (nI az) (nI na) (nI nt) (nI nr) mw ml mk dq)), (r 5, .inl ((cT 0), 1920, .inl f5)), (r 6, .inl ((cT 0), 32, .inl f6))] sz) [(mo, .inr (12, mdG r cd2 tm (nI sn) (nI tx) (nI lz) (nI az) (nI na) (nI nt) (nI nr) mw ml mk dq)), (r 5, .inl ((cT 0), 1920, .inl g5)), (r 6, .inl ((cT 0), 32, .inl g6))]) (va_A [(mo, .inr (12, mdG r cd tm (nI sn) (nI tx) (nI lz) (nI az) (nI na) (nI nt) (nI nr) mw ml mk dq)), (r 5, .inl ((cT 0), 1920, .inl f5)), (r 6, .inl ((cT 0), 32, .inl f6))] sz)) 0 0 (va_A [(mo, .inr (12, mdG r cd tm (nI sn) (nI tx) (nI lz) (nI az) (nI na) (nI nt) (nI nr) mw ml mk dq)), (r 5, .inl ((cT 0), 1920, .inl f5)), (r 6, .inl ((cT 0), 32, .inl f6))] sz) := by
  refine Met.ofW (cc := b_Md_user) (maxL := 7) (ret := (Option.some Jvm.ClassFile.FieldType.boolean)) (by decide) rfl ?_
  intro p e s m args below meth c s₁ B hml hv
  obtain ⟨hargs, hsz, hP, hK, hD0⟩ := hv
  have hx := B.exec
  have hb := B.bytes
  have hr := B.returns
  have hts := atoms_spec (ws := (Cond.code y_Md_user b_Md_user 7 (Option.some Jvm.ClassFile.FieldType.boolean) :: BIG)) B.pre
  have hg : ∀ w ∈ BIG, w.before _ s = true := fun w h => hts w (List.mem_cons_of_mem _ h)
  have hown : s.vm.findClass "DoorServerModel" = some m.cls := findClass_of_methodNamed B.named
  have hlocks := B.notSynchronized
  subst hsz
  have hD := hD0.self (sz := s.heap.size)
  generalize hAe : va_A [(mo, .inr (12, mdG r cd tm (nI sn) (nI tx) (nI lz) (nI az) (nI na) (nI nt) (nI nr) mw ml mk dq)), (r 5, .inl ((cT 0), 1920, .inl f5)), (r 6, .inl ((cT 0), 32, .inl f6))] s.heap.size = A at hD ⊢
  have hA : ∀ q : Nat, s.heap.size ≤ q → A q := fun q h => by rw [← hAe]; exact Or.inr h
  have hS : va_S A s.heap s.heap [] := va_S.rf
  have hl := lv_entry ([.ref mo, .int x, .long v, .int y]) (n := 7) (Nat.le_of_ble_eq_true rfl)
  refine W.eq (g2 := entryFrame m (List.toArray [.ref mo, .int x, .long v, .int y]) 7) (by rw [hargs]) ?_
  rw [lg_entry_eq]
  generalize (lg_sl ([.ref mo, .int x, .long v, .int y]) ++ List.replicate (7 - (lg_sl ([.ref mo, .int x, .long v, .int y])).length) Slot.unset).toArray = ls at hl ⊢
  have hl : lv_has ls 7 [(0, .ref mo), (1, .int x), (2, .long v), (4, .int y)] := hl
  change W p l e ({ frames := 1, cells := 0, slots := 0, locals := 22 } : Room) s m args below meth c s.heap [] 0 0 _ _
  have hP : va_P (dC, dI) vcl [(mo, .inr (12, mdG r cd tm (nI sn) (nI tx) (nI lz) (nI az) (nI na) (nI nt) (nI nr) mw ml mk dq)), (r 5, .inl ((cT 0), 1920, .inl f5)), (r 6, .inl ((cT 0), 32, .inl f6))] s.heap := hP
  rcases pk_ix x (n := 32) (by decide) with h8x | h8x | ⟨xn, hxn, rfl⟩
  · skip
    refine lv_aload_n hx hb d_Md_user_0 rfl (lv_at hl 0 rfl) ?_
    refine lv_iload_n hx hb d_Md_user_1 rfl (lv_at hl 1 rfl) ?_
    refine lv_if_lt (tgt := 28) hx hb d_Md_user_2 (by decide) (fun hc61 => ?_) (fun hn9 => absurd (h8x) hn9)
    refine lv_iconst (v := 0) hx hb d_Md_user_28 (by decide) ?_
    have hPc := hP.sub (ws' := [(mo, .inr (12, mdG r cd tm (nI sn) (nI tx) (nI lz) (nI az) (nI na) (nI nt) (nI nr) mw ml mk dq))]) [0] rfl
    have hDc := hD.sub (ws' := [(mo, .inr (12, mdG r cd tm (nI sn) (nI tx) (nI lz) (nI az) (nI na) (nI nt) (nI nr) mw ml mk dq))]) [0] (by decide) rfl
    have hFc := va_free (wc := [(mo, .inr (12, mdG r cd tm (nI sn) (nI tx) (nI lz) (nI az) (nI na) (nI nt) (nI nr) mw ml mk dq))]) hD hS hA [0] rfl
    refine va_calli (va_runV (C := "DoorServerModel") (As := [.int 0]) (rest := []) ⟨hx, hb, hml, hown, hg⟩ (m_goes0 l dC dI cT s.heap.size mo r cd tm sn tx lz az na nt nr mw ml mk dq ) (cwV 1 hg (gI (List.forall_mem_append.mpr ⟨List.forall_mem_cons.mpr ⟨k_1165, List.forall_mem_cons.mpr ⟨k_1167, List.forall_mem_cons.mpr ⟨(big_sel (q := y_Md_goes) (n := 45) (by decide +kernel)), List.forall_mem_cons.mpr ⟨k_13, fun _ h => absurd h List.not_mem_nil⟩⟩⟩⟩, List.forall_mem_cons.mpr ⟨k_1168, fun _ h => h⟩⟩)) rfl rfl rfl (by decide +kernel) ⟨Nat.le_of_ble_eq_true rfl, Nat.le_of_ble_eq_true rfl⟩) ⟨fun a U g mk q => by obtain ⟨q0, q1, qP, qK, qD⟩ := q; exact ⟨q0, q1, qP, va_K.moved (u := U) (U := U.calling g mk a) (Vm.Alike.refl U.vm) qK, qD⟩, va_recv (q0 := 0) (ci := 12) hK hP rfl rfl, fun U hU hW => ⟨rfl, by rw [hU], by rw [hU]; exact hPc, va_K.moved hW.alike hK, hDc.weaken (fun _ _ _ _ => trivial)⟩⟩ rfl rfl hl.1 rfl (lv_room (Nat.le_of_ble_eq_true rfl)) d_Md_user_29 ⟨Nat.le_of_ble_eq_true rfl, Nat.le_of_ble_eq_true rfl⟩) hS (fun q _ h => hFc q h) hFc (fun rv9 u t H1 locs ht hvm hw hB hz1 hk1 hS => ?_)
    try dsimp only at hw hB
    obtain ⟨hP1, hK1, hD1⟩ := hB
    rw [ht] at hP1
    obtain ⟨rfl, hw⟩ := hw
    obtain ⟨hP, hD⟩ := va_join (wr := [(r 5, .inl ((cT 0), 1920, .inl f5)), (r 6, .inl ((cT 0), 32, .inl f6))]) (w1 := [(mo, .inr (12, mdG r 1 tm (nI sn) (nI tx) (nI lz) (nI az) (nI na) (nI nt) (nI nr) mw ml mk dq))]) hP hD [0] [1, 2] rfl rfl (by decide) (by decide) hk1 hFc hP1 hD1
    have hw62 := hw
    clear hPc hDc hFc hz1 hk1 hP1 hK1 hD1
    generalize H1 = H at hP hS ⊢
    have hP : va_P (dC, dI) vcl [(r 5, .inl ((cT 0), 1920, .inl f5)), (r 6, .inl ((cT 0), 32, .inl f6)), (mo, .inr (12, mdG r 1 tm (nI sn) (nI tx) (nI lz) (nI az) (nI na) (nI nt) (nI nr) mw ml mk dq))] H := hP
    have hD : va_D A [(r 5, .inl ((cT 0), 1920, .inl f5)), (r 6, .inl ((cT 0), 32, .inl f6)), (mo, .inr (12, mdG r 1 tm (nI sn) (nI tx) (nI lz) (nI az) (nI na) (nI nt) (nI nr) mw ml mk dq))] := hD
    refine lv_if_ne (tgt := 37) hx hb d_Md_user_32 (by decide) (fun hn9 => absurd hn9 (by decide)) (fun hc63 => ?_)
    refine lv_iconst (v := 0) hx hb d_Md_user_35 (by decide) ?_
    have hP9 := hP.sub (ws' := [(mo, .inr (12, mdG r 1 tm (nI sn) (nI tx) (nI lz) (nI az) (nI na) (nI nt) (nI nr) mw ml mk dq)), (r 5, .inl ((cT 0), 1920, .inl f5)), (r 6, .inl ((cT 0), 32, .inl f6))]) [2, 0, 1] rfl
    have hD9 := hD.sub (ws' := [(mo, .inr (12, mdG r 1 tm (nI sn) (nI tx) (nI lz) (nI az) (nI na) (nI nt) (nI nr) mw ml mk dq)), (r 5, .inl ((cT 0), 1920, .inl f5)), (r 6, .inl ((cT 0), 32, .inl f6))]) [2, 0, 1] (by decide) rfl
    exact W.zret (v := 0) hx hb hr (by first | rfl | decide) (fun t ht hW => ⟨⟨_, ⟨f5, f6, 1⟩, rfl, h6, by rw [ht]; exact hP9, va_K.moved hW.alike hK, hD9⟩, hS.F ht⟩) hS.2.2 d_Md_user_36
  · skip
    refine lv_aload_n hx hb d_Md_user_0 rfl (lv_at hl 0 rfl) ?_
    refine lv_iload_n hx hb d_Md_user_1 rfl (lv_at hl 1 rfl) ?_
    refine lv_if_lt (tgt := 28) hx hb d_Md_user_2 (by decide) (fun hc64 => ?_) (fun hc64 => ?_)
    · skip
      refine lv_iconst (v := 0) hx hb d_Md_user_28 (by decide) ?_
      have hPc := hP.sub (ws' := [(mo, .inr (12, mdG r cd tm (nI sn) (nI tx) (nI lz) (nI az) (nI na) (nI nt) (nI nr) mw ml mk dq))]) [0] rfl
      have hDc := hD.sub (ws' := [(mo, .inr (12, mdG r cd tm (nI sn) (nI tx) (nI lz) (nI az) (nI na) (nI nt) (nI nr) mw ml mk dq))]) [0] (by decide) rfl
      have hFc := va_free (wc := [(mo, .inr (12, mdG r cd tm (nI sn) (nI tx) (nI lz) (nI az) (nI na) (nI nt) (nI nr) mw ml mk dq))]) hD hS hA [0] rfl
      refine va_calli (va_runV (C := "DoorServerModel") (As := [.int 0]) (rest := []) ⟨hx, hb, hml, hown, hg⟩ (m_goes0 l dC dI cT s.heap.size mo r cd tm sn tx lz az na nt nr mw ml mk dq ) (cwV 1 hg (gI (List.forall_mem_append.mpr ⟨List.forall_mem_cons.mpr ⟨k_1165, List.forall_mem_cons.mpr ⟨k_1167, List.forall_mem_cons.mpr ⟨(big_sel (q := y_Md_goes) (n := 45) (by decide +kernel)), List.forall_mem_cons.mpr ⟨k_13, fun _ h => absurd h List.not_mem_nil⟩⟩⟩⟩, List.forall_mem_cons.mpr ⟨k_1168, fun _ h => h⟩⟩)) rfl rfl rfl (by decide +kernel) ⟨Nat.le_of_ble_eq_true rfl, Nat.le_of_ble_eq_true rfl⟩) ⟨fun a U g mk q => by obtain ⟨q0, q1, qP, qK, qD⟩ := q; exact ⟨q0, q1, qP, va_K.moved (u := U) (U := U.calling g mk a) (Vm.Alike.refl U.vm) qK, qD⟩, va_recv (q0 := 0) (ci := 12) hK hP rfl rfl, fun U hU hW => ⟨rfl, by rw [hU], by rw [hU]; exact hPc, va_K.moved hW.alike hK, hDc.weaken (fun _ _ _ _ => trivial)⟩⟩ rfl rfl hl.1 rfl (lv_room (Nat.le_of_ble_eq_true rfl)) d_Md_user_29 ⟨Nat.le_of_ble_eq_true rfl, Nat.le_of_ble_eq_true rfl⟩) hS (fun q _ h => hFc q h) hFc (fun rv9 u t H1 locs ht hvm hw hB hz1 hk1 hS => ?_)
      try dsimp only at hw hB
      obtain ⟨hP1, hK1, hD1⟩ := hB
      rw [ht] at hP1
      obtain ⟨rfl, hw⟩ := hw
      obtain ⟨hP, hD⟩ := va_join (wr := [(r 5, .inl ((cT 0), 1920, .inl f5)), (r 6, .inl ((cT 0), 32, .inl f6))]) (w1 := [(mo, .inr (12, mdG r 1 tm (nI sn) (nI tx) (nI lz) (nI az) (nI na) (nI nt) (nI nr) mw ml mk dq))]) hP hD [0] [1, 2] rfl rfl (by decide) (by decide) hk1 hFc hP1 hD1
      have hw65 := hw
      clear hPc hDc hFc hz1 hk1 hP1 hK1 hD1
      generalize H1 = H at hP hS ⊢
      have hP : va_P (dC, dI) vcl [(r 5, .inl ((cT 0), 1920, .inl f5)), (r 6, .inl ((cT 0), 32, .inl f6)), (mo, .inr (12, mdG r 1 tm (nI sn) (nI tx) (nI lz) (nI az) (nI na) (nI nt) (nI nr) mw ml mk dq))] H := hP
      have hD : va_D A [(r 5, .inl ((cT 0), 1920, .inl f5)), (r 6, .inl ((cT 0), 32, .inl f6)), (mo, .inr (12, mdG r 1 tm (nI sn) (nI tx) (nI lz) (nI az) (nI na) (nI nt) (nI nr) mw ml mk dq))] := hD
      refine lv_if_ne (tgt := 37) hx hb d_Md_user_32 (by decide) (fun hn9 => absurd hn9 (by decide)) (fun hc66 => ?_)
      refine lv_iconst (v := 0) hx hb d_Md_user_35 (by decide) ?_
      have hP9 := hP.sub (ws' := [(mo, .inr (12, mdG r 1 tm (nI sn) (nI tx) (nI lz) (nI az) (nI na) (nI nt) (nI nr) mw ml mk dq)), (r 5, .inl ((cT 0), 1920, .inl f5)), (r 6, .inl ((cT 0), 32, .inl f6))]) [2, 0, 1] rfl
      have hD9 := hD.sub (ws' := [(mo, .inr (12, mdG r 1 tm (nI sn) (nI tx) (nI lz) (nI az) (nI na) (nI nt) (nI nr) mw ml mk dq)), (r 5, .inl ((cT 0), 1920, .inl f5)), (r 6, .inl ((cT 0), 32, .inl f6))]) [2, 0, 1] (by decide) rfl
      exact W.zret (v := 0) hx hb hr (by first | rfl | decide) (fun t ht hW => ⟨⟨_, ⟨f5, f6, 1⟩, rfl, h6, by rw [ht]; exact hP9, va_K.moved hW.alike hK, hD9⟩, hS.F ht⟩) hS.2.2 d_Md_user_36
    · skip
      refine lv_iload_n hx hb d_Md_user_5 rfl (lv_at hl 1 rfl) ?_
      refine lv_bipush (v := 32) hx hb d_Md_user_6 (by decide) ?_
      refine lv_icmp_ge (tgt := 28) hx hb d_Md_user_8 (by decide) (fun hc67 => ?_) (fun hn9 => absurd (h8x) hn9)
      refine lv_iconst (v := 0) hx hb d_Md_user_28 (by decide) ?_
      have hPc := hP.sub (ws' := [(mo, .inr (12, mdG r cd tm (nI sn) (nI tx) (nI lz) (nI az) (nI na) (nI nt) (nI nr) mw ml mk dq))]) [0] rfl
      have hDc := hD.sub (ws' := [(mo, .inr (12, mdG r cd tm (nI sn) (nI tx) (nI lz) (nI az) (nI na) (nI nt) (nI nr) mw ml mk dq))]) [0] (by decide) rfl
      have hFc := va_free (wc := [(mo, .inr (12, mdG r cd tm (nI sn) (nI tx) (nI lz) (nI az) (nI na) (nI nt) (nI nr) mw ml mk dq))]) hD hS hA [0] rfl
      refine va_calli (va_runV (C := "DoorServerModel") (As := [.int 0]) (rest := []) ⟨hx, hb, hml, hown, hg⟩ (m_goes0 l dC dI cT s.heap.size mo r cd tm sn tx lz az na nt nr mw ml mk dq ) (cwV 1 hg (gI (List.forall_mem_append.mpr ⟨List.forall_mem_cons.mpr ⟨k_1165, List.forall_mem_cons.mpr ⟨k_1167, List.forall_mem_cons.mpr ⟨(big_sel (q := y_Md_goes) (n := 45) (by decide +kernel)), List.forall_mem_cons.mpr ⟨k_13, fun _ h => absurd h List.not_mem_nil⟩⟩⟩⟩, List.forall_mem_cons.mpr ⟨k_1168, fun _ h => h⟩⟩)) rfl rfl rfl (by decide +kernel) ⟨Nat.le_of_ble_eq_true rfl, Nat.le_of_ble_eq_true rfl⟩) ⟨fun a U g mk q => by obtain ⟨q0, q1, qP, qK, qD⟩ := q; exact ⟨q0, q1, qP, va_K.moved (u := U) (U := U.calling g mk a) (Vm.Alike.refl U.vm) qK, qD⟩, va_recv (q0 := 0) (ci := 12) hK hP rfl rfl, fun U hU hW => ⟨rfl, by rw [hU], by rw [hU]; exact hPc, va_K.moved hW.alike hK, hDc.weaken (fun _ _ _ _ => trivial)⟩⟩ rfl rfl hl.1 rfl (lv_room (Nat.le_of_ble_eq_true rfl)) d_Md_user_29 ⟨Nat.le_of_ble_eq_true rfl, Nat.le_of_ble_eq_true rfl⟩) hS (fun q _ h => hFc q h) hFc (fun rv9 u t H1 locs ht hvm hw hB hz1 hk1 hS => ?_)
      try dsimp only at hw hB
      obtain ⟨hP1, hK1, hD1⟩ := hB
      rw [ht] at hP1
      obtain ⟨rfl, hw⟩ := hw
      obtain ⟨hP, hD⟩ := va_join (wr := [(r 5, .inl ((cT 0), 1920, .inl f5)), (r 6, .inl ((cT 0), 32, .inl f6))]) (w1 := [(mo, .inr (12, mdG r 1 tm (nI sn) (nI tx) (nI lz) (nI az) (nI na) (nI nt) (nI nr) mw ml mk dq))]) hP hD [0] [1, 2] rfl rfl (by decide) (by decide) hk1 hFc hP1 hD1
      have hw68 := hw
      clear hPc hDc hFc hz1 hk1 hP1 hK1 hD1
      generalize H1 = H at hP hS ⊢
      have hP : va_P (dC, dI) vcl [(r 5, .inl ((cT 0), 1920, .inl f5)), (r 6, .inl ((cT 0), 32, .inl f6)), (mo, .inr (12, mdG r 1 tm (nI sn) (nI tx) (nI lz) (nI az) (nI na) (nI nt) (nI nr) mw ml mk dq))] H := hP
      have hD : va_D A [(r 5, .inl ((cT 0), 1920, .inl f5)), (r 6, .inl ((cT 0), 32, .inl f6)), (mo, .inr (12, mdG r 1 tm (nI sn) (nI tx) (nI lz) (nI az) (nI na) (nI nt) (nI nr) mw ml mk dq))] := hD
      refine lv_if_ne (tgt := 37) hx hb d_Md_user_32 (by decide) (fun hn9 => absurd hn9 (by decide)) (fun hc69 => ?_)
      refine lv_iconst (v := 0) hx hb d_Md_user_35 (by decide) ?_
      have hP9 := hP.sub (ws' := [(mo, .inr (12, mdG r 1 tm (nI sn) (nI tx) (nI lz) (nI az) (nI na) (nI nt) (nI nr) mw ml mk dq)), (r 5, .inl ((cT 0), 1920, .inl f5)), (r 6, .inl ((cT 0), 32, .inl f6))]) [2, 0, 1] rfl
      have hD9 := hD.sub (ws' := [(mo, .inr (12, mdG r 1 tm (nI sn) (nI tx) (nI lz) (nI az) (nI na) (nI nt) (nI nr) mw ml mk dq)), (r 5, .inl ((cT 0), 1920, .inl f5)), (r 6, .inl ((cT 0), 32, .inl f6))]) [2, 0, 1] (by decide) rfl
      exact W.zret (v := 0) hx hb hr (by first | rfl | decide) (fun t ht hW => ⟨⟨_, ⟨f5, f6, 1⟩, rfl, h6, by rw [ht]; exact hP9, va_K.moved hW.alike hK, hD9⟩, hS.F ht⟩) hS.2.2 d_Md_user_36
  · skip
    rcases pk_ix y (n := 61) (by decide) with h8y | h8y | ⟨yn, hyn, rfl⟩
    · skip
      refine lv_aload_n hx hb d_Md_user_0 rfl (lv_at hl 0 rfl) ?_
      refine lv_iload_n hx hb d_Md_user_1 rfl (lv_at hl 1 rfl) ?_
      refine lv_if_lt (tgt := 28) hx hb d_Md_user_2 (by decide) (fun hn9 => absurd hn9 (nI_pos (by omega))) (fun hc70 => ?_)
      refine lv_iload_n hx hb d_Md_user_5 rfl (lv_at hl 1 rfl) ?_
      refine lv_bipush (v := 32) hx hb d_Md_user_6 (by decide) ?_
      refine lv_icmp_ge (tgt := 28) hx hb d_Md_user_8 (by decide) (fun hc71 => ?_) (fun hc71 => ?_)
      · skip
        have n72 : 32 ≤ xn := (nI_leI (a := 32) (b := xn) (by omega) (by omega)).mp hc71
        refine lv_iconst (v := 0) hx hb d_Md_user_28 (by decide) ?_
        have hPc := hP.sub (ws' := [(mo, .inr (12, mdG r cd tm (nI sn) (nI tx) (nI lz) (nI az) (nI na) (nI nt) (nI nr) mw ml mk dq))]) [0] rfl
        have hDc := hD.sub (ws' := [(mo, .inr (12, mdG r cd tm (nI sn) (nI tx) (nI lz) (nI az) (nI na) (nI nt) (nI nr) mw ml mk dq))]) [0] (by decide) rfl
        have hFc := va_free (wc := [(mo, .inr (12, mdG r cd tm (nI sn) (nI tx) (nI lz) (nI az) (nI na) (nI nt) (nI nr) mw ml mk dq))]) hD hS hA [0] rfl
        refine va_calli (va_runV (C := "DoorServerModel") (As := [.int 0]) (rest := []) ⟨hx, hb, hml, hown, hg⟩ (m_goes0 l dC dI cT s.heap.size mo r cd tm sn tx lz az na nt nr mw ml mk dq ) (cwV 1 hg (gI (List.forall_mem_append.mpr ⟨List.forall_mem_cons.mpr ⟨k_1165, List.forall_mem_cons.mpr ⟨k_1167, List.forall_mem_cons.mpr ⟨(big_sel (q := y_Md_goes) (n := 45) (by decide +kernel)), List.forall_mem_cons.mpr ⟨k_13, fun _ h => absurd h List.not_mem_nil⟩⟩⟩⟩, List.forall_mem_cons.mpr ⟨k_1168, fun _ h => h⟩⟩)) rfl rfl rfl (by decide +kernel) ⟨Nat.le_of_ble_eq_true rfl, Nat.le_of_ble_eq_true rfl⟩) ⟨fun a U g mk q => by obtain ⟨q0, q1, qP, qK, qD⟩ := q; exact ⟨q0, q1, qP, va_K.moved (u := U) (U := U.calling g mk a) (Vm.Alike.refl U.vm) qK, qD⟩, va_recv (q0 := 0) (ci := 12) hK hP rfl rfl, fun U hU hW => ⟨rfl, by rw [hU], by rw [hU]; exact hPc, va_K.moved hW.alike hK, hDc.weaken (fun _ _ _ _ => trivial)⟩⟩ rfl rfl hl.1 rfl (lv_room (Nat.le_of_ble_eq_true rfl)) d_Md_user_29 ⟨Nat.le_of_ble_eq_true rfl, Nat.le_of_ble_eq_true rfl⟩) hS (fun q _ h => hFc q h) hFc (fun rv9 u t H1 locs ht hvm hw hB hz1 hk1 hS => ?_)
        try dsimp only at hw hB
        obtain ⟨hP1, hK1, hD1⟩ := hB
        rw [ht] at hP1
        obtain ⟨rfl, hw⟩ := hw
        obtain ⟨hP, hD⟩ := va_join (wr := [(r 5, .inl ((cT 0), 1920, .inl f5)), (r 6, .inl ((cT 0), 32, .inl f6))]) (w1 := [(mo, .inr (12, mdG r 1 tm (nI sn) (nI tx) (nI lz) (nI az) (nI na) (nI nt) (nI nr) mw ml mk dq))]) hP hD [0] [1, 2] rfl rfl (by decide) (by decide) hk1 hFc hP1 hD1
        have hw74 := hw
        clear hPc hDc hFc hz1 hk1 hP1 hK1 hD1
        generalize H1 = H at hP hS ⊢
        have hP : va_P (dC, dI) vcl [(r 5, .inl ((cT 0), 1920, .inl f5)), (r 6, .inl ((cT 0), 32, .inl f6)), (mo, .inr (12, mdG r 1 tm (nI sn) (nI tx) (nI lz) (nI az) (nI na) (nI nt) (nI nr) mw ml mk dq))] H := hP
        have hD : va_D A [(r 5, .inl ((cT 0), 1920, .inl f5)), (r 6, .inl ((cT 0), 32, .inl f6)), (mo, .inr (12, mdG r 1 tm (nI sn) (nI tx) (nI lz) (nI az) (nI na) (nI nt) (nI nr) mw ml mk dq))] := hD
        refine lv_if_ne (tgt := 37) hx hb d_Md_user_32 (by decide) (fun hn9 => absurd hn9 (by decide)) (fun hc75 => ?_)
        refine lv_iconst (v := 0) hx hb d_Md_user_35 (by decide) ?_
        have hP9 := hP.sub (ws' := [(mo, .inr (12, mdG r 1 tm (nI sn) (nI tx) (nI lz) (nI az) (nI na) (nI nt) (nI nr) mw ml mk dq)), (r 5, .inl ((cT 0), 1920, .inl f5)), (r 6, .inl ((cT 0), 32, .inl f6))]) [2, 0, 1] rfl
        have hD9 := hD.sub (ws' := [(mo, .inr (12, mdG r 1 tm (nI sn) (nI tx) (nI lz) (nI az) (nI na) (nI nt) (nI nr) mw ml mk dq)), (r 5, .inl ((cT 0), 1920, .inl f5)), (r 6, .inl ((cT 0), 32, .inl f6))]) [2, 0, 1] (by decide) rfl
        exact W.zret (v := 0) hx hb hr (by first | rfl | decide) (fun t ht hW => ⟨⟨_, ⟨f5, f6, 1⟩, rfl, h6, by rw [ht]; exact hP9, va_K.moved hW.alike hK, hD9⟩, hS.F ht⟩) hS.2.2 d_Md_user_36
      · skip
        have n73 : xn < 32 := Nat.not_le.mp (fun h7 => hc71 ((nI_leI (a := 32) (b := xn) (by omega) (by omega)).mpr h7))
        refine lv_iload hx hb d_Md_user_11 (lv_at hl 3 rfl) ?_
        refine lv_iconst (v := 1) hx hb d_Md_user_13 (by decide) ?_
        refine lv_icmp_lt (tgt := 28) hx hb d_Md_user_14 (by decide) (fun hc76 => ?_) (fun hn9 => absurd (lt_01 h8y) hn9)
        refine lv_iconst (v := 0) hx hb d_Md_user_28 (by decide) ?_
        have hPc := hP.sub (ws' := [(mo, .inr (12, mdG r cd tm (nI sn) (nI tx) (nI lz) (nI az) (nI na) (nI nt) (nI nr) mw ml mk dq))]) [0] rfl
        have hDc := hD.sub (ws' := [(mo, .inr (12, mdG r cd tm (nI sn) (nI tx) (nI lz) (nI az) (nI na) (nI nt) (nI nr) mw ml mk dq))]) [0] (by decide) rfl
        have hFc := va_free (wc := [(mo, .inr (12, mdG r cd tm (nI sn) (nI tx) (nI lz) (nI az) (nI na) (nI nt) (nI nr) mw ml mk dq))]) hD hS hA [0] rfl
        refine va_calli (va_runV (C := "DoorServerModel") (As := [.int 0]) (rest := []) ⟨hx, hb, hml, hown, hg⟩ (m_goes0 l dC dI cT s.heap.size mo r cd tm sn tx lz az na nt nr mw ml mk dq ) (cwV 1 hg (gI (List.forall_mem_append.mpr ⟨List.forall_mem_cons.mpr ⟨k_1165, List.forall_mem_cons.mpr ⟨k_1167, List.forall_mem_cons.mpr ⟨(big_sel (q := y_Md_goes) (n := 45) (by decide +kernel)), List.forall_mem_cons.mpr ⟨k_13, fun _ h => absurd h List.not_mem_nil⟩⟩⟩⟩, List.forall_mem_cons.mpr ⟨k_1168, fun _ h => h⟩⟩)) rfl rfl rfl (by decide +kernel) ⟨Nat.le_of_ble_eq_true rfl, Nat.le_of_ble_eq_true rfl⟩) ⟨fun a U g mk q => by obtain ⟨q0, q1, qP, qK, qD⟩ := q; exact ⟨q0, q1, qP, va_K.moved (u := U) (U := U.calling g mk a) (Vm.Alike.refl U.vm) qK, qD⟩, va_recv (q0 := 0) (ci := 12) hK hP rfl rfl, fun U hU hW => ⟨rfl, by rw [hU], by rw [hU]; exact hPc, va_K.moved hW.alike hK, hDc.weaken (fun _ _ _ _ => trivial)⟩⟩ rfl rfl hl.1 rfl (lv_room (Nat.le_of_ble_eq_true rfl)) d_Md_user_29 ⟨Nat.le_of_ble_eq_true rfl, Nat.le_of_ble_eq_true rfl⟩) hS (fun q _ h => hFc q h) hFc (fun rv9 u t H1 locs ht hvm hw hB hz1 hk1 hS => ?_)
        try dsimp only at hw hB
        obtain ⟨hP1, hK1, hD1⟩ := hB
        rw [ht] at hP1
        obtain ⟨rfl, hw⟩ := hw
        obtain ⟨hP, hD⟩ := va_join (wr := [(r 5, .inl ((cT 0), 1920, .inl f5)), (r 6, .inl ((cT 0), 32, .inl f6))]) (w1 := [(mo, .inr (12, mdG r 1 tm (nI sn) (nI tx) (nI lz) (nI az) (nI na) (nI nt) (nI nr) mw ml mk dq))]) hP hD [0] [1, 2] rfl rfl (by decide) (by decide) hk1 hFc hP1 hD1
        have hw77 := hw
        clear hPc hDc hFc hz1 hk1 hP1 hK1 hD1
        generalize H1 = H at hP hS ⊢
        have hP : va_P (dC, dI) vcl [(r 5, .inl ((cT 0), 1920, .inl f5)), (r 6, .inl ((cT 0), 32, .inl f6)), (mo, .inr (12, mdG r 1 tm (nI sn) (nI tx) (nI lz) (nI az) (nI na) (nI nt) (nI nr) mw ml mk dq))] H := hP
        have hD : va_D A [(r 5, .inl ((cT 0), 1920, .inl f5)), (r 6, .inl ((cT 0), 32, .inl f6)), (mo, .inr (12, mdG r 1 tm (nI sn) (nI tx) (nI lz) (nI az) (nI na) (nI nt) (nI nr) mw ml mk dq))] := hD
        refine lv_if_ne (tgt := 37) hx hb d_Md_user_32 (by decide) (fun hn9 => absurd hn9 (by decide)) (fun hc78 => ?_)
        refine lv_iconst (v := 0) hx hb d_Md_user_35 (by decide) ?_
        have hP9 := hP.sub (ws' := [(mo, .inr (12, mdG r 1 tm (nI sn) (nI tx) (nI lz) (nI az) (nI na) (nI nt) (nI nr) mw ml mk dq)), (r 5, .inl ((cT 0), 1920, .inl f5)), (r 6, .inl ((cT 0), 32, .inl f6))]) [2, 0, 1] rfl
        have hD9 := hD.sub (ws' := [(mo, .inr (12, mdG r 1 tm (nI sn) (nI tx) (nI lz) (nI az) (nI na) (nI nt) (nI nr) mw ml mk dq)), (r 5, .inl ((cT 0), 1920, .inl f5)), (r 6, .inl ((cT 0), 32, .inl f6))]) [2, 0, 1] (by decide) rfl
        exact W.zret (v := 0) hx hb hr (by first | rfl | decide) (fun t ht hW => ⟨⟨_, ⟨f5, f6, 1⟩, rfl, h6, by rw [ht]; exact hP9, va_K.moved hW.alike hK, hD9⟩, hS.F ht⟩) hS.2.2 d_Md_user_36
    · skip
      refine lv_aload_n hx hb d_Md_user_0 rfl (lv_at hl 0 rfl) ?_
      refine lv_iload_n hx hb d_Md_user_1 rfl (lv_at hl 1 rfl) ?_
      refine lv_if_lt (tgt := 28) hx hb d_Md_user_2 (by decide) (fun hn9 => absurd hn9 (nI_pos (by omega))) (fun hc79 => ?_)
      refine lv_iload_n hx hb d_Md_user_5 rfl (lv_at hl 1 rfl) ?_
      refine lv_bipush (v := 32) hx hb d_Md_user_6 (by decide) ?_
      refine lv_icmp_ge (tgt := 28) hx hb d_Md_user_8 (by decide) (fun hc80 => ?_) (fun hc80 => ?_)
      · skip
        have n81 : 32 ≤ xn := (nI_leI (a := 32) (b := xn) (by omega) (by omega)).mp hc80
        refine lv_iconst (v := 0) hx hb d_Md_user_28 (by decide) ?_
        have hPc := hP.sub (ws' := [(mo, .inr (12, mdG r cd tm (nI sn) (nI tx) (nI lz) (nI az) (nI na) (nI nt) (nI nr) mw ml mk dq))]) [0] rfl
        have hDc := hD.sub (ws' := [(mo, .inr (12, mdG r cd tm (nI sn) (nI tx) (nI lz) (nI az) (nI na) (nI nt) (nI nr) mw ml mk dq))]) [0] (by decide) rfl
        have hFc := va_free (wc := [(mo, .inr (12, mdG r cd tm (nI sn) (nI tx) (nI lz) (nI az) (nI na) (nI nt) (nI nr) mw ml mk dq))]) hD hS hA [0] rfl
        refine va_calli (va_runV (C := "DoorServerModel") (As := [.int 0]) (rest := []) ⟨hx, hb, hml, hown, hg⟩ (m_goes0 l dC dI cT s.heap.size mo r cd tm sn tx lz az na nt nr mw ml mk dq ) (cwV 1 hg (gI (List.forall_mem_append.mpr ⟨List.forall_mem_cons.mpr ⟨k_1165, List.forall_mem_cons.mpr ⟨k_1167, List.forall_mem_cons.mpr ⟨(big_sel (q := y_Md_goes) (n := 45) (by decide +kernel)), List.forall_mem_cons.mpr ⟨k_13, fun _ h => absurd h List.not_mem_nil⟩⟩⟩⟩, List.forall_mem_cons.mpr ⟨k_1168, fun _ h => h⟩⟩)) rfl rfl rfl (by decide +kernel) ⟨Nat.le_of_ble_eq_true rfl, Nat.le_of_ble_eq_true rfl⟩) ⟨fun a U g mk q => by obtain ⟨q0, q1, qP, qK, qD⟩ := q; exact ⟨q0, q1, qP, va_K.moved (u := U) (U := U.calling g mk a) (Vm.Alike.refl U.vm) qK, qD⟩, va_recv (q0 := 0) (ci := 12) hK hP rfl rfl, fun U hU hW => ⟨rfl, by rw [hU], by rw [hU]; exact hPc, va_K.moved hW.alike hK, hDc.weaken (fun _ _ _ _ => trivial)⟩⟩ rfl rfl hl.1 rfl (lv_room (Nat.le_of_ble_eq_true rfl)) d_Md_user_29 ⟨Nat.le_of_ble_eq_true rfl, Nat.le_of_ble_eq_true rfl⟩) hS (fun q _ h => hFc q h) hFc (fun rv9 u t H1 locs ht hvm hw hB hz1 hk1 hS => ?_)
        try dsimp only at hw hB
        obtain ⟨hP1, hK1, hD1⟩ := hB
        rw [ht] at hP1
        obtain ⟨rfl, hw⟩ := hw
        obtain ⟨hP, hD⟩ := va_join (wr := [(r 5, .inl ((cT 0), 1920, .inl f5)), (r 6, .inl ((cT 0), 32, .inl f6))]) (w1 := [(mo, .inr (12, mdG r 1 tm (nI sn) (nI tx) (nI lz) (nI az) (nI na) (nI nt) (nI nr) mw ml mk dq))]) hP hD [0] [1, 2] rfl rfl (by decide) (by decide) hk1 hFc hP1 hD1
        have hw83 := hw
        clear hPc hDc hFc hz1 hk1 hP1 hK1 hD1
        generalize H1 = H at hP hS ⊢
        have hP : va_P (dC, dI) vcl [(r 5, .inl ((cT 0), 1920, .inl f5)), (r 6, .inl ((cT 0), 32, .inl f6)), (mo, .inr (12, mdG r 1 tm (nI sn) (nI tx) (nI lz) (nI az) (nI na) (nI nt) (nI nr) mw ml mk dq))] H := hP
        have hD : va_D A [(r 5, .inl ((cT 0), 1920, .inl f5)), (r 6, .inl ((cT 0), 32, .inl f6)), (mo, .inr (12, mdG r 1 tm (nI sn) (nI tx) (nI lz) (nI az) (nI na) (nI nt) (nI nr) mw ml mk dq))] := hD
        refine lv_if_ne (tgt := 37) hx hb d_Md_user_32 (by decide) (fun hn9 => absurd hn9 (by decide)) (fun hc84 => ?_)
        refine lv_iconst (v := 0) hx hb d_Md_user_35 (by decide) ?_
        have hP9 := hP.sub (ws' := [(mo, .inr (12, mdG r 1 tm (nI sn) (nI tx) (nI lz) (nI az) (nI na) (nI nt) (nI nr) mw ml mk dq)), (r 5, .inl ((cT 0), 1920, .inl f5)), (r 6, .inl ((cT 0), 32, .inl f6))]) [2, 0, 1] rfl
        have hD9 := hD.sub (ws' := [(mo, .inr (12, mdG r 1 tm (nI sn) (nI tx) (nI lz) (nI az) (nI na) (nI nt) (nI nr) mw ml mk dq)), (r 5, .inl ((cT 0), 1920, .inl f5)), (r 6, .inl ((cT 0), 32, .inl f6))]) [2, 0, 1] (by decide) rfl
        exact W.zret (v := 0) hx hb hr (by first | rfl | decide) (fun t ht hW => ⟨⟨_, ⟨f5, f6, 1⟩, rfl, h6, by rw [ht]; exact hP9, va_K.moved hW.alike hK, hD9⟩, hS.F ht⟩) hS.2.2 d_Md_user_36
      · skip
        have n82 : xn < 32 := Nat.not_le.mp (fun h7 => hc80 ((nI_leI (a := 32) (b := xn) (by omega) (by omega)).mpr h7))
        refine lv_iload hx hb d_Md_user_11 (lv_at hl 3 rfl) ?_
        refine lv_iconst (v := 1) hx hb d_Md_user_13 (by decide) ?_
        refine lv_icmp_lt (tgt := 28) hx hb d_Md_user_14 (by decide) (fun hc85 => ?_) (fun hc85 => ?_)
        · skip
          refine lv_iconst (v := 0) hx hb d_Md_user_28 (by decide) ?_
          have hPc := hP.sub (ws' := [(mo, .inr (12, mdG r cd tm (nI sn) (nI tx) (nI lz) (nI az) (nI na) (nI nt) (nI nr) mw ml mk dq))]) [0] rfl
          have hDc := hD.sub (ws' := [(mo, .inr (12, mdG r cd tm (nI sn) (nI tx) (nI lz) (nI az) (nI na) (nI nt) (nI nr) mw ml mk dq))]) [0] (by decide) rfl
          have hFc := va_free (wc := [(mo, .inr (12, mdG r cd tm (nI sn) (nI tx) (nI lz) (nI az) (nI na) (nI nt) (nI nr) mw ml mk dq))]) hD hS hA [0] rfl
          refine va_calli (va_runV (C := "DoorServerModel") (As := [.int 0]) (rest := []) ⟨hx, hb, hml, hown, hg⟩ (m_goes0 l dC dI cT s.heap.size mo r cd tm sn tx lz az na nt nr mw ml mk dq ) (cwV 1 hg (gI (List.forall_mem_append.mpr ⟨List.forall_mem_cons.mpr ⟨k_1165, List.forall_mem_cons.mpr ⟨k_1167, List.forall_mem_cons.mpr ⟨(big_sel (q := y_Md_goes) (n := 45) (by decide +kernel)), List.forall_mem_cons.mpr ⟨k_13, fun _ h => absurd h List.not_mem_nil⟩⟩⟩⟩, List.forall_mem_cons.mpr ⟨k_1168, fun _ h => h⟩⟩)) rfl rfl rfl (by decide +kernel) ⟨Nat.le_of_ble_eq_true rfl, Nat.le_of_ble_eq_true rfl⟩) ⟨fun a U g mk q => by obtain ⟨q0, q1, qP, qK, qD⟩ := q; exact ⟨q0, q1, qP, va_K.moved (u := U) (U := U.calling g mk a) (Vm.Alike.refl U.vm) qK, qD⟩, va_recv (q0 := 0) (ci := 12) hK hP rfl rfl, fun U hU hW => ⟨rfl, by rw [hU], by rw [hU]; exact hPc, va_K.moved hW.alike hK, hDc.weaken (fun _ _ _ _ => trivial)⟩⟩ rfl rfl hl.1 rfl (lv_room (Nat.le_of_ble_eq_true rfl)) d_Md_user_29 ⟨Nat.le_of_ble_eq_true rfl, Nat.le_of_ble_eq_true rfl⟩) hS (fun q _ h => hFc q h) hFc (fun rv9 u t H1 locs ht hvm hw hB hz1 hk1 hS => ?_)
          try dsimp only at hw hB
          obtain ⟨hP1, hK1, hD1⟩ := hB
          rw [ht] at hP1
          obtain ⟨rfl, hw⟩ := hw
          obtain ⟨hP, hD⟩ := va_join (wr := [(r 5, .inl ((cT 0), 1920, .inl f5)), (r 6, .inl ((cT 0), 32, .inl f6))]) (w1 := [(mo, .inr (12, mdG r 1 tm (nI sn) (nI tx) (nI lz) (nI az) (nI na) (nI nt) (nI nr) mw ml mk dq))]) hP hD [0] [1, 2] rfl rfl (by decide) (by decide) hk1 hFc hP1 hD1
          have hw86 := hw
          clear hPc hDc hFc hz1 hk1 hP1 hK1 hD1
          generalize H1 = H at hP hS ⊢
          have hP : va_P (dC, dI) vcl [(r 5, .inl ((cT 0), 1920, .inl f5)), (r 6, .inl ((cT 0), 32, .inl f6)), (mo, .inr (12, mdG r 1 tm (nI sn) (nI tx) (nI lz) (nI az) (nI na) (nI nt) (nI nr) mw ml mk dq))] H := hP
          have hD : va_D A [(r 5, .inl ((cT 0), 1920, .inl f5)), (r 6, .inl ((cT 0), 32, .inl f6)), (mo, .inr (12, mdG r 1 tm (nI sn) (nI tx) (nI lz) (nI az) (nI na) (nI nt) (nI nr) mw ml mk dq))] := hD
          refine lv_if_ne (tgt := 37) hx hb d_Md_user_32 (by decide) (fun hn9 => absurd hn9 (by decide)) (fun hc87 => ?_)
          refine lv_iconst (v := 0) hx hb d_Md_user_35 (by decide) ?_
          have hP9 := hP.sub (ws' := [(mo, .inr (12, mdG r 1 tm (nI sn) (nI tx) (nI lz) (nI az) (nI na) (nI nt) (nI nr) mw ml mk dq)), (r 5, .inl ((cT 0), 1920, .inl f5)), (r 6, .inl ((cT 0), 32, .inl f6))]) [2, 0, 1] rfl
          have hD9 := hD.sub (ws' := [(mo, .inr (12, mdG r 1 tm (nI sn) (nI tx) (nI lz) (nI az) (nI na) (nI nt) (nI nr) mw ml mk dq)), (r 5, .inl ((cT 0), 1920, .inl f5)), (r 6, .inl ((cT 0), 32, .inl f6))]) [2, 0, 1] (by decide) rfl
          exact W.zret (v := 0) hx hb hr (by first | rfl | decide) (fun t ht hW => ⟨⟨_, ⟨f5, f6, 1⟩, rfl, h6, by rw [ht]; exact hP9, va_K.moved hW.alike hK, hD9⟩, hS.F ht⟩) hS.2.2 d_Md_user_36
        · skip
          refine lv_iload hx hb d_Md_user_17 (lv_at hl 3 rfl) ?_
          refine lv_bipush (v := 60) hx hb d_Md_user_19 (by decide) ?_
          refine lv_icmp_gt (tgt := 28) hx hb d_Md_user_21 (by decide) (fun hc88 => ?_) (fun hn9 => absurd ((lt_le1 (a := 60) (b := nI 61) (by decide)).mpr h8y) hn9)
          refine lv_iconst (v := 0) hx hb d_Md_user_28 (by decide) ?_
          have hPc := hP.sub (ws' := [(mo, .inr (12, mdG r cd tm (nI sn) (nI tx) (nI lz) (nI az) (nI na) (nI nt) (nI nr) mw ml mk dq))]) [0] rfl
          have hDc := hD.sub (ws' := [(mo, .inr (12, mdG r cd tm (nI sn) (nI tx) (nI lz) (nI az) (nI na) (nI nt) (nI nr) mw ml mk dq))]) [0] (by decide) rfl
          have hFc := va_free (wc := [(mo, .inr (12, mdG r cd tm (nI sn) (nI tx) (nI lz) (nI az) (nI na) (nI nt) (nI nr) mw ml mk dq))]) hD hS hA [0] rfl
          refine va_calli (va_runV (C := "DoorServerModel") (As := [.int 0]) (rest := []) ⟨hx, hb, hml, hown, hg⟩ (m_goes0 l dC dI cT s.heap.size mo r cd tm sn tx lz az na nt nr mw ml mk dq ) (cwV 1 hg (gI (List.forall_mem_append.mpr ⟨List.forall_mem_cons.mpr ⟨k_1165, List.forall_mem_cons.mpr ⟨k_1167, List.forall_mem_cons.mpr ⟨(big_sel (q := y_Md_goes) (n := 45) (by decide +kernel)), List.forall_mem_cons.mpr ⟨k_13, fun _ h => absurd h List.not_mem_nil⟩⟩⟩⟩, List.forall_mem_cons.mpr ⟨k_1168, fun _ h => h⟩⟩)) rfl rfl rfl (by decide +kernel) ⟨Nat.le_of_ble_eq_true rfl, Nat.le_of_ble_eq_true rfl⟩) ⟨fun a U g mk q => by obtain ⟨q0, q1, qP, qK, qD⟩ := q; exact ⟨q0, q1, qP, va_K.moved (u := U) (U := U.calling g mk a) (Vm.Alike.refl U.vm) qK, qD⟩, va_recv (q0 := 0) (ci := 12) hK hP rfl rfl, fun U hU hW => ⟨rfl, by rw [hU], by rw [hU]; exact hPc, va_K.moved hW.alike hK, hDc.weaken (fun _ _ _ _ => trivial)⟩⟩ rfl rfl hl.1 rfl (lv_room (Nat.le_of_ble_eq_true rfl)) d_Md_user_29 ⟨Nat.le_of_ble_eq_true rfl, Nat.le_of_ble_eq_true rfl⟩) hS (fun q _ h => hFc q h) hFc (fun rv9 u t H1 locs ht hvm hw hB hz1 hk1 hS => ?_)
          try dsimp only at hw hB
          obtain ⟨hP1, hK1, hD1⟩ := hB
          rw [ht] at hP1
          obtain ⟨rfl, hw⟩ := hw
          obtain ⟨hP, hD⟩ := va_join (wr := [(r 5, .inl ((cT 0), 1920, .inl f5)), (r 6, .inl ((cT 0), 32, .inl f6))]) (w1 := [(mo, .inr (12, mdG r 1 tm (nI sn) (nI tx) (nI lz) (nI az) (nI na) (nI nt) (nI nr) mw ml mk dq))]) hP hD [0] [1, 2] rfl rfl (by decide) (by decide) hk1 hFc hP1 hD1
          have hw89 := hw
          clear hPc hDc hFc hz1 hk1 hP1 hK1 hD1
          generalize H1 = H at hP hS ⊢
          have hP : va_P (dC, dI) vcl [(r 5, .inl ((cT 0), 1920, .inl f5)), (r 6, .inl ((cT 0), 32, .inl f6)), (mo, .inr (12, mdG r 1 tm (nI sn) (nI tx) (nI lz) (nI az) (nI na) (nI nt) (nI nr) mw ml mk dq))] H := hP
          have hD : va_D A [(r 5, .inl ((cT 0), 1920, .inl f5)), (r 6, .inl ((cT 0), 32, .inl f6)), (mo, .inr (12, mdG r 1 tm (nI sn) (nI tx) (nI lz) (nI az) (nI na) (nI nt) (nI nr) mw ml mk dq))] := hD
          refine lv_if_ne (tgt := 37) hx hb d_Md_user_32 (by decide) (fun hn9 => absurd hn9 (by decide)) (fun hc90 => ?_)
          refine lv_iconst (v := 0) hx hb d_Md_user_35 (by decide) ?_
          have hP9 := hP.sub (ws' := [(mo, .inr (12, mdG r 1 tm (nI sn) (nI tx) (nI lz) (nI az) (nI na) (nI nt) (nI nr) mw ml mk dq)), (r 5, .inl ((cT 0), 1920, .inl f5)), (r 6, .inl ((cT 0), 32, .inl f6))]) [2, 0, 1] rfl
          have hD9 := hD.sub (ws' := [(mo, .inr (12, mdG r 1 tm (nI sn) (nI tx) (nI lz) (nI az) (nI na) (nI nt) (nI nr) mw ml mk dq)), (r 5, .inl ((cT 0), 1920, .inl f5)), (r 6, .inl ((cT 0), 32, .inl f6))]) [2, 0, 1] (by decide) rfl
          exact W.zret (v := 0) hx hb hr (by first | rfl | decide) (fun t ht hW => ⟨⟨_, ⟨f5, f6, 1⟩, rfl, h6, by rw [ht]; exact hP9, va_K.moved hW.alike hK, hD9⟩, hS.F ht⟩) hS.2.2 d_Md_user_36
    · skip
      refine lv_aload_n hx hb d_Md_user_0 rfl (lv_at hl 0 rfl) ?_
      refine lv_iload_n hx hb d_Md_user_1 rfl (lv_at hl 1 rfl) ?_
      refine lv_if_lt (tgt := 28) hx hb d_Md_user_2 (by decide) (fun hn9 => absurd hn9 (nI_pos (by omega))) (fun hc91 => ?_)
      refine lv_iload_n hx hb d_Md_user_5 rfl (lv_at hl 1 rfl) ?_
      refine lv_bipush (v := 32) hx hb d_Md_user_6 (by decide) ?_
      refine lv_icmp_ge (tgt := 28) hx hb d_Md_user_8 (by decide) (fun hc92 => ?_) (fun hc92 => ?_)
      · skip
        have n93 : 32 ≤ xn := (nI_leI (a := 32) (b := xn) (by omega) (by omega)).mp hc92
        refine lv_iconst (v := 0) hx hb d_Md_user_28 (by decide) ?_
        have hPc := hP.sub (ws' := [(mo, .inr (12, mdG r cd tm (nI sn) (nI tx) (nI lz) (nI az) (nI na) (nI nt) (nI nr) mw ml mk dq))]) [0] rfl
        have hDc := hD.sub (ws' := [(mo, .inr (12, mdG r cd tm (nI sn) (nI tx) (nI lz) (nI az) (nI na) (nI nt) (nI nr) mw ml mk dq))]) [0] (by decide) rfl
        have hFc := va_free (wc := [(mo, .inr (12, mdG r cd tm (nI sn) (nI tx) (nI lz) (nI az) (nI na) (nI nt) (nI nr) mw ml mk dq))]) hD hS hA [0] rfl
        refine va_calli (va_runV (C := "DoorServerModel") (As := [.int 0]) (rest := []) ⟨hx, hb, hml, hown, hg⟩ (m_goes0 l dC dI cT s.heap.size mo r cd tm sn tx lz az na nt nr mw ml mk dq ) (cwV 1 hg (gI (List.forall_mem_append.mpr ⟨List.forall_mem_cons.mpr ⟨k_1165, List.forall_mem_cons.mpr ⟨k_1167, List.forall_mem_cons.mpr ⟨(big_sel (q := y_Md_goes) (n := 45) (by decide +kernel)), List.forall_mem_cons.mpr ⟨k_13, fun _ h => absurd h List.not_mem_nil⟩⟩⟩⟩, List.forall_mem_cons.mpr ⟨k_1168, fun _ h => h⟩⟩)) rfl rfl rfl (by decide +kernel) ⟨Nat.le_of_ble_eq_true rfl, Nat.le_of_ble_eq_true rfl⟩) ⟨fun a U g mk q => by obtain ⟨q0, q1, qP, qK, qD⟩ := q; exact ⟨q0, q1, qP, va_K.moved (u := U) (U := U.calling g mk a) (Vm.Alike.refl U.vm) qK, qD⟩, va_recv (q0 := 0) (ci := 12) hK hP rfl rfl, fun U hU hW => ⟨rfl, by rw [hU], by rw [hU]; exact hPc, va_K.moved hW.alike hK, hDc.weaken (fun _ _ _ _ => trivial)⟩⟩ rfl rfl hl.1 rfl (lv_room (Nat.le_of_ble_eq_true rfl)) d_Md_user_29 ⟨Nat.le_of_ble_eq_true rfl, Nat.le_of_ble_eq_true rfl⟩) hS (fun q _ h => hFc q h) hFc (fun rv9 u t H1 locs ht hvm hw hB hz1 hk1 hS => ?_)
        try dsimp only at hw hB
        obtain ⟨hP1, hK1, hD1⟩ := hB
        rw [ht] at hP1
        obtain ⟨rfl, hw⟩ := hw
        obtain ⟨hP, hD⟩ := va_join (wr := [(r 5, .inl ((cT 0), 1920, .inl f5)), (r 6, .inl ((cT 0), 32, .inl f6))]) (w1 := [(mo, .inr (12, mdG r 1 tm (nI sn) (nI tx) (nI lz) (nI az) (nI na) (nI nt) (nI nr) mw ml mk dq))]) hP hD [0] [1, 2] rfl rfl (by decide) (by decide) hk1 hFc hP1 hD1
        have hw95 := hw
        clear hPc hDc hFc hz1 hk1 hP1 hK1 hD1
        generalize H1 = H at hP hS ⊢
        have hP : va_P (dC, dI) vcl [(r 5, .inl ((cT 0), 1920, .inl f5)), (r 6, .inl ((cT 0), 32, .inl f6)), (mo, .inr (12, mdG r 1 tm (nI sn) (nI tx) (nI lz) (nI az) (nI na) (nI nt) (nI nr) mw ml mk dq))] H := hP
        have hD : va_D A [(r 5, .inl ((cT 0), 1920, .inl f5)), (r 6, .inl ((cT 0), 32, .inl f6)), (mo, .inr (12, mdG r 1 tm (nI sn) (nI tx) (nI lz) (nI az) (nI na) (nI nt) (nI nr) mw ml mk dq))] := hD
        refine lv_if_ne (tgt := 37) hx hb d_Md_user_32 (by decide) (fun hn9 => absurd hn9 (by decide)) (fun hc96 => ?_)
        refine lv_iconst (v := 0) hx hb d_Md_user_35 (by decide) ?_
        have hP9 := hP.sub (ws' := [(mo, .inr (12, mdG r 1 tm (nI sn) (nI tx) (nI lz) (nI az) (nI na) (nI nt) (nI nr) mw ml mk dq)), (r 5, .inl ((cT 0), 1920, .inl f5)), (r 6, .inl ((cT 0), 32, .inl f6))]) [2, 0, 1] rfl
        have hD9 := hD.sub (ws' := [(mo, .inr (12, mdG r 1 tm (nI sn) (nI tx) (nI lz) (nI az) (nI na) (nI nt) (nI nr) mw ml mk dq)), (r 5, .inl ((cT 0), 1920, .inl f5)), (r 6, .inl ((cT 0), 32, .inl f6))]) [2, 0, 1] (by decide) rfl
        exact W.zret (v := 0) hx hb hr (by first | rfl | decide) (fun t ht hW => ⟨⟨_, ⟨f5, f6, 1⟩, rfl, h6, by rw [ht]; exact hP9, va_K.moved hW.alike hK, hD9⟩, hS.F ht⟩) hS.2.2 d_Md_user_36
      · skip
        have n94 : xn < 32 := Nat.not_le.mp (fun h7 => hc92 ((nI_leI (a := 32) (b := xn) (by omega) (by omega)).mpr h7))
        refine lv_iload hx hb d_Md_user_11 (lv_at hl 3 rfl) ?_
        refine lv_iconst (v := 1) hx hb d_Md_user_13 (by decide) ?_
        refine lv_icmp_lt (tgt := 28) hx hb d_Md_user_14 (by decide) (fun hc97 => ?_) (fun hc97 => ?_)
        · skip
          have n98 : yn < 1 := (nI_ltI (a := yn) (b := 1) (by omega) (by omega)).mp hc97
          refine lv_iconst (v := 0) hx hb d_Md_user_28 (by decide) ?_
          have hPc := hP.sub (ws' := [(mo, .inr (12, mdG r cd tm (nI sn) (nI tx) (nI lz) (nI az) (nI na) (nI nt) (nI nr) mw ml mk dq))]) [0] rfl
          have hDc := hD.sub (ws' := [(mo, .inr (12, mdG r cd tm (nI sn) (nI tx) (nI lz) (nI az) (nI na) (nI nt) (nI nr) mw ml mk dq))]) [0] (by decide) rfl
          have hFc := va_free (wc := [(mo, .inr (12, mdG r cd tm (nI sn) (nI tx) (nI lz) (nI az) (nI na) (nI nt) (nI nr) mw ml mk dq))]) hD hS hA [0] rfl
          refine va_calli (va_runV (C := "DoorServerModel") (As := [.int 0]) (rest := []) ⟨hx, hb, hml, hown, hg⟩ (m_goes0 l dC dI cT s.heap.size mo r cd tm sn tx lz az na nt nr mw ml mk dq ) (cwV 1 hg (gI (List.forall_mem_append.mpr ⟨List.forall_mem_cons.mpr ⟨k_1165, List.forall_mem_cons.mpr ⟨k_1167, List.forall_mem_cons.mpr ⟨(big_sel (q := y_Md_goes) (n := 45) (by decide +kernel)), List.forall_mem_cons.mpr ⟨k_13, fun _ h => absurd h List.not_mem_nil⟩⟩⟩⟩, List.forall_mem_cons.mpr ⟨k_1168, fun _ h => h⟩⟩)) rfl rfl rfl (by decide +kernel) ⟨Nat.le_of_ble_eq_true rfl, Nat.le_of_ble_eq_true rfl⟩) ⟨fun a U g mk q => by obtain ⟨q0, q1, qP, qK, qD⟩ := q; exact ⟨q0, q1, qP, va_K.moved (u := U) (U := U.calling g mk a) (Vm.Alike.refl U.vm) qK, qD⟩, va_recv (q0 := 0) (ci := 12) hK hP rfl rfl, fun U hU hW => ⟨rfl, by rw [hU], by rw [hU]; exact hPc, va_K.moved hW.alike hK, hDc.weaken (fun _ _ _ _ => trivial)⟩⟩ rfl rfl hl.1 rfl (lv_room (Nat.le_of_ble_eq_true rfl)) d_Md_user_29 ⟨Nat.le_of_ble_eq_true rfl, Nat.le_of_ble_eq_true rfl⟩) hS (fun q _ h => hFc q h) hFc (fun rv9 u t H1 locs ht hvm hw hB hz1 hk1 hS => ?_)
          try dsimp only at hw hB
          obtain ⟨hP1, hK1, hD1⟩ := hB
          rw [ht] at hP1
          obtain ⟨rfl, hw⟩ := hw
          obtain ⟨hP, hD⟩ := va_join (wr := [(r 5, .inl ((cT 0), 1920, .inl f5)), (r 6, .inl ((cT 0), 32, .inl f6))]) (w1 := [(mo, .inr (12, mdG r 1 tm (nI sn) (nI tx) (nI lz) (nI az) (nI na) (nI nt) (nI nr) mw ml mk dq))]) hP hD [0] [1, 2] rfl rfl (by decide) (by decide) hk1 hFc hP1 hD1
          have hw100 := hw
          clear hPc hDc hFc hz1 hk1 hP1 hK1 hD1
          generalize H1 = H at hP hS ⊢
          have hP : va_P (dC, dI) vcl [(r 5, .inl ((cT 0), 1920, .inl f5)), (r 6, .inl ((cT 0), 32, .inl f6)), (mo, .inr (12, mdG r 1 tm (nI sn) (nI tx) (nI lz) (nI az) (nI na) (nI nt) (nI nr) mw ml mk dq))] H := hP
          have hD : va_D A [(r 5, .inl ((cT 0), 1920, .inl f5)), (r 6, .inl ((cT 0), 32, .inl f6)), (mo, .inr (12, mdG r 1 tm (nI sn) (nI tx) (nI lz) (nI az) (nI na) (nI nt) (nI nr) mw ml mk dq))] := hD
          refine lv_if_ne (tgt := 37) hx hb d_Md_user_32 (by decide) (fun hn9 => absurd hn9 (by decide)) (fun hc101 => ?_)
          refine lv_iconst (v := 0) hx hb d_Md_user_35 (by decide) ?_
          have hP9 := hP.sub (ws' := [(mo, .inr (12, mdG r 1 tm (nI sn) (nI tx) (nI lz) (nI az) (nI na) (nI nt) (nI nr) mw ml mk dq)), (r 5, .inl ((cT 0), 1920, .inl f5)), (r 6, .inl ((cT 0), 32, .inl f6))]) [2, 0, 1] rfl
          have hD9 := hD.sub (ws' := [(mo, .inr (12, mdG r 1 tm (nI sn) (nI tx) (nI lz) (nI az) (nI na) (nI nt) (nI nr) mw ml mk dq)), (r 5, .inl ((cT 0), 1920, .inl f5)), (r 6, .inl ((cT 0), 32, .inl f6))]) [2, 0, 1] (by decide) rfl
          exact W.zret (v := 0) hx hb hr (by first | rfl | decide) (fun t ht hW => ⟨⟨_, ⟨f5, f6, 1⟩, rfl, h6, by rw [ht]; exact hP9, va_K.moved hW.alike hK, hD9⟩, hS.F ht⟩) hS.2.2 d_Md_user_36
        · skip
          have n99 : 1 ≤ yn := Nat.not_lt.mp (fun h7 => hc97 ((nI_ltI (a := yn) (b := 1) (by omega) (by omega)).mpr h7))
          refine lv_iload hx hb d_Md_user_17 (lv_at hl 3 rfl) ?_
          refine lv_bipush (v := 60) hx hb d_Md_user_19 (by decide) ?_
          refine lv_icmp_gt (tgt := 28) hx hb d_Md_user_21 (by decide) (fun hc102 => ?_) (fun hc102 => ?_)
          · skip
            have n103 : 60 < yn := (nI_ltI (a := 60) (b := yn) (by omega) (by omega)).mp hc102
            refine lv_iconst (v := 0) hx hb d_Md_user_28 (by decide) ?_
            have hPc := hP.sub (ws' := [(mo, .inr (12, mdG r cd tm (nI sn) (nI tx) (nI lz) (nI az) (nI na) (nI nt) (nI nr) mw ml mk dq))]) [0] rfl
            have hDc := hD.sub (ws' := [(mo, .inr (12, mdG r cd tm (nI sn) (nI tx) (nI lz) (nI az) (nI na) (nI nt) (nI nr) mw ml mk dq))]) [0] (by decide) rfl
            have hFc := va_free (wc := [(mo, .inr (12, mdG r cd tm (nI sn) (nI tx) (nI lz) (nI az) (nI na) (nI nt) (nI nr) mw ml mk dq))]) hD hS hA [0] rfl
            refine va_calli (va_runV (C := "DoorServerModel") (As := [.int 0]) (rest := []) ⟨hx, hb, hml, hown, hg⟩ (m_goes0 l dC dI cT s.heap.size mo r cd tm sn tx lz az na nt nr mw ml mk dq ) (cwV 1 hg (gI (List.forall_mem_append.mpr ⟨List.forall_mem_cons.mpr ⟨k_1165, List.forall_mem_cons.mpr ⟨k_1167, List.forall_mem_cons.mpr ⟨(big_sel (q := y_Md_goes) (n := 45) (by decide +kernel)), List.forall_mem_cons.mpr ⟨k_13, fun _ h => absurd h List.not_mem_nil⟩⟩⟩⟩, List.forall_mem_cons.mpr ⟨k_1168, fun _ h => h⟩⟩)) rfl rfl rfl (by decide +kernel) ⟨Nat.le_of_ble_eq_true rfl, Nat.le_of_ble_eq_true rfl⟩) ⟨fun a U g mk q => by obtain ⟨q0, q1, qP, qK, qD⟩ := q; exact ⟨q0, q1, qP, va_K.moved (u := U) (U := U.calling g mk a) (Vm.Alike.refl U.vm) qK, qD⟩, va_recv (q0 := 0) (ci := 12) hK hP rfl rfl, fun U hU hW => ⟨rfl, by rw [hU], by rw [hU]; exact hPc, va_K.moved hW.alike hK, hDc.weaken (fun _ _ _ _ => trivial)⟩⟩ rfl rfl hl.1 rfl (lv_room (Nat.le_of_ble_eq_true rfl)) d_Md_user_29 ⟨Nat.le_of_ble_eq_true rfl, Nat.le_of_ble_eq_true rfl⟩) hS (fun q _ h => hFc q h) hFc (fun rv9 u t H1 locs ht hvm hw hB hz1 hk1 hS => ?_)
            try dsimp only at hw hB
            obtain ⟨hP1, hK1, hD1⟩ := hB
            rw [ht] at hP1
            obtain ⟨rfl, hw⟩ := hw
            obtain ⟨hP, hD⟩ := va_join (wr := [(r 5, .inl ((cT 0), 1920, .inl f5)), (r 6, .inl ((cT 0), 32, .inl f6))]) (w1 := [(mo, .inr (12, mdG r 1 tm (nI sn) (nI tx) (nI lz) (nI az) (nI na) (nI nt) (nI nr) mw ml mk dq))]) hP hD [0] [1, 2] rfl rfl (by decide) (by decide) hk1 hFc hP1 hD1
            have hw105 := hw
            clear hPc hDc hFc hz1 hk1 hP1 hK1 hD1
            generalize H1 = H at hP hS ⊢
            have hP : va_P (dC, dI) vcl [(r 5, .inl ((cT 0), 1920, .inl f5)), (r 6, .inl ((cT 0), 32, .inl f6)), (mo, .inr (12, mdG r 1 tm (nI sn) (nI tx) (nI lz) (nI az) (nI na) (nI nt) (nI nr) mw ml mk dq))] H := hP
            have hD : va_D A [(r 5, .inl ((cT 0), 1920, .inl f5)), (r 6, .inl ((cT 0), 32, .inl f6)), (mo, .inr (12, mdG r 1 tm (nI sn) (nI tx) (nI lz) (nI az) (nI na) (nI nt) (nI nr) mw ml mk dq))] := hD
            refine lv_if_ne (tgt := 37) hx hb d_Md_user_32 (by decide) (fun hn9 => absurd hn9 (by decide)) (fun hc106 => ?_)
            refine lv_iconst (v := 0) hx hb d_Md_user_35 (by decide) ?_
            have hP9 := hP.sub (ws' := [(mo, .inr (12, mdG r 1 tm (nI sn) (nI tx) (nI lz) (nI az) (nI na) (nI nt) (nI nr) mw ml mk dq)), (r 5, .inl ((cT 0), 1920, .inl f5)), (r 6, .inl ((cT 0), 32, .inl f6))]) [2, 0, 1] rfl
            have hD9 := hD.sub (ws' := [(mo, .inr (12, mdG r 1 tm (nI sn) (nI tx) (nI lz) (nI az) (nI na) (nI nt) (nI nr) mw ml mk dq)), (r 5, .inl ((cT 0), 1920, .inl f5)), (r 6, .inl ((cT 0), 32, .inl f6))]) [2, 0, 1] (by decide) rfl
            exact W.zret (v := 0) hx hb hr (by first | rfl | decide) (fun t ht hW => ⟨⟨_, ⟨f5, f6, 1⟩, rfl, h6, by rw [ht]; exact hP9, va_K.moved hW.alike hK, hD9⟩, hS.F ht⟩) hS.2.2 d_Md_user_36
          · skip
            have n104 : yn ≤ 60 := Nat.not_lt.mp (fun h7 => hc102 ((nI_ltI (a := 60) (b := yn) (by omega) (by omega)).mpr h7))
            refine lv_iconst (v := 1) hx hb d_Md_user_24 (by decide) ?_
            refine lv_goto (tgt := 29) hx hb d_Md_user_25 (by decide) ?_
            have hPc := hP.sub (ws' := [(mo, .inr (12, mdG r cd tm (nI sn) (nI tx) (nI lz) (nI az) (nI na) (nI nt) (nI nr) mw ml mk dq))]) [0] rfl
            have hDc := hD.sub (ws' := [(mo, .inr (12, mdG r cd tm (nI sn) (nI tx) (nI lz) (nI az) (nI na) (nI nt) (nI nr) mw ml mk dq))]) [0] (by decide) rfl
            have hFc := va_free (wc := [(mo, .inr (12, mdG r cd tm (nI sn) (nI tx) (nI lz) (nI az) (nI na) (nI nt) (nI nr) mw ml mk dq))]) hD hS hA [0] rfl
            refine va_calli (va_runV (C := "DoorServerModel") (As := [.int 1]) (rest := []) ⟨hx, hb, hml, hown, hg⟩ (m_goes1 l dC dI cT s.heap.size mo r cd tm sn tx lz az na nt nr mw ml mk dq ) (cwV 1 hg (gI (List.forall_mem_append.mpr ⟨List.forall_mem_cons.mpr ⟨k_1165, List.forall_mem_cons.mpr ⟨k_1167, List.forall_mem_cons.mpr ⟨(big_sel (q := y_Md_goes) (n := 45) (by decide +kernel)), List.forall_mem_cons.mpr ⟨k_13, fun _ h => absurd h List.not_mem_nil⟩⟩⟩⟩, List.forall_mem_cons.mpr ⟨k_1168, fun _ h => h⟩⟩)) rfl rfl rfl (by decide +kernel) ⟨Nat.le_of_ble_eq_true rfl, Nat.le_of_ble_eq_true rfl⟩) ⟨fun a U g mk q => by obtain ⟨q0, q1, qP, qK, qD⟩ := q; exact ⟨q0, q1, qP, va_K.moved (u := U) (U := U.calling g mk a) (Vm.Alike.refl U.vm) qK, qD⟩, va_recv (q0 := 0) (ci := 12) hK hP rfl rfl, fun U hU hW => ⟨rfl, by rw [hU], by rw [hU]; exact hPc, va_K.moved hW.alike hK, hDc.weaken (fun _ _ _ _ => trivial)⟩⟩ rfl rfl hl.1 rfl (lv_room (Nat.le_of_ble_eq_true rfl)) d_Md_user_29 ⟨Nat.le_of_ble_eq_true rfl, Nat.le_of_ble_eq_true rfl⟩) hS (fun q _ h => hFc q h) hFc (fun rv9 u t H1 locs ht hvm hw hB hz1 hk1 hS => ?_)
            try dsimp only at hw hB
            obtain ⟨hP1, hK1, hD1⟩ := hB
            rw [ht] at hP1
            obtain ⟨rfl, hw⟩ := hw
            obtain ⟨hP, hD⟩ := va_join (wr := [(r 5, .inl ((cT 0), 1920, .inl f5)), (r 6, .inl ((cT 0), 32, .inl f6))]) (w1 := [(mo, .inr (12, mdG r 0 tm (nI sn) (nI tx) (nI lz) (nI az) (nI na) (nI nt) (nI nr) mw ml mk dq))]) hP hD [0] [1, 2] rfl rfl (by decide) (by decide) hk1 hFc hP1 hD1
            have hw107 := hw
            clear hPc hDc hFc hz1 hk1 hP1 hK1 hD1
            generalize H1 = H at hP hS ⊢
            have hP : va_P (dC, dI) vcl [(r 5, .inl ((cT 0), 1920, .inl f5)), (r 6, .inl ((cT 0), 32, .inl f6)), (mo, .inr (12, mdG r 0 tm (nI sn) (nI tx) (nI lz) (nI az) (nI na) (nI nt) (nI nr) mw ml mk dq))] H := hP
            have hD : va_D A [(r 5, .inl ((cT 0), 1920, .inl f5)), (r 6, .inl ((cT 0), 32, .inl f6)), (mo, .inr (12, mdG r 0 tm (nI sn) (nI tx) (nI lz) (nI az) (nI na) (nI nt) (nI nr) mw ml mk dq))] := hD
            refine lv_if_ne (tgt := 37) hx hb d_Md_user_32 (by decide) (fun hc108 => ?_) (fun hn9 => absurd hn9 (by decide))
            refine lv_aload_n hx hb d_Md_user_37 rfl (lv_at hl 0 rfl) ?_
            refine va_get (D := (dC, dI)) (ci := 12) (v := (.ref (r 6))) (C := R_Md) (T := F_Md) (N := 45) hx hb hg in_Md hown hK hP 2 rfl rfl 6 (by decide) (hg _ k_1026) (fun _ h9 => h9) rfl d_Md_user_38 ?_
            refine lv_iload_n hx hb d_Md_user_41 rfl (lv_at hl 1 rfl) ?_
            obtain ⟨t109, ht109, xt109⟩ := h6 xn (by omega)
            refine va_iald hx hb hK hP 1 0 rfl rfl (i := (nI xn)) (vp_in_nI (N := 32) (by omega) (by decide)) d_Md_user_42 ?_
            refine lv_topi (fun x111 e110 => ?_)
            obtain rfl : x111 = nI t109 := by rw [e110]; rw [nI_clamp (by omega)]; exact xt109
            refine lv_if_ne (tgt := 50) hx hb d_Md_user_43 (by decide) (fun hc112 => ?_) (fun hc112 => ?_)
            · skip
              have n113 : ¬ t109 = 0 := fun h7 => hc112 ((nI_eq (a := t109) (b := 0) (by omega) (by omega)).mpr h7)
              refine lv_iconst (v := 0) hx hb d_Md_user_50 (by decide) ?_
              refine lv_istore (lv' := [(5, .int 0), (0, .ref mo), (1, .int (nI xn)), (2, .long v), (4, .int (nI yn))]) hx hb d_Md_user_51 hl (by decide) rfl (fun ls hl => ?_)
              refine lv_iconst (v := 0) hx hb d_Md_user_53 (by decide) ?_
              refine lv_istore (lv' := [(6, .int 0), (5, .int 0), (0, .ref mo), (1, .int (nI xn)), (2, .long v), (4, .int (nI yn))]) hx hb d_Md_user_54 hl (by decide) rfl (fun ls hl => ?_)
              have hl := lv_sub hl [0, 1, 2, 3, 4, 5] (show _ = [(6, .int 0), (5, .int 0), (0, .ref mo), (1, .int (nI xn)), (2, .long v), (4, .int (nI yn))] from rfl)
              have L116 : ∀ (Q : State → Prop) (exit : ∀ (g5_115 : Nat → Int32) (H : Heap) (locs : List Loc) (ls : Array Slot), va_P (dC, dI) vcl [(r 5, .inl ((cT 0), 1920, .inl g5_115)), (r 6, .inl ((cT 0), 32, .inl f6)), (mo, .inr (12, mdG r 0 tm (nI sn) (nI tx) (nI lz) (nI az) (nI na) (nI nt) (nI nr) mw ml mk dq))] H → va_D A [(r 5, .inl ((cT 0), 1920, .inl g5_115)), (r 6, .inl ((cT 0), 32, .inl f6)), (mo, .inr (12, mdG r 0 tm (nI sn) (nI tx) (nI lz) (nI az) (nI na) (nI nt) (nI nr) mw ml mk dq))] → va_S A s.heap H locs → lv_has ls 7 [(6, .int (nI yn)), (5, .int 0), (0, .ref mo), (1, .int (nI xn)), (2, .long v), (4, .int (nI yn))] → W p l e ({ frames := 1, cells := 0, slots := 0, locals := 22 } : Room) s m args below meth c H locs 0 0 Q (F0 m 87 ls [])) (j8 i : Nat) (g5_115 : Nat → Int32) (H : Heap) (locs : List Loc) (ls : Array Slot), i + j8 = yn → va_P (dC, dI) vcl [(r 5, .inl ((cT 0), 1920, .inl g5_115)), (r 6, .inl ((cT 0), 32, .inl f6)), (mo, .inr (12, mdG r 0 tm (nI sn) (nI tx) (nI lz) (nI az) (nI na) (nI nt) (nI nr) mw ml mk dq))] H → va_D A [(r 5, .inl ((cT 0), 1920, .inl g5_115)), (r 6, .inl ((cT 0), 32, .inl f6)), (mo, .inr (12, mdG r 0 tm (nI sn) (nI tx) (nI lz) (nI az) (nI na) (nI nt) (nI nr) mw ml mk dq))] → va_S A s.heap H locs → lv_has ls 7 [(6, .int (nI i)), (5, .int 0), (0, .ref mo), (1, .int (nI xn)), (2, .long v), (4, .int (nI yn))] → W p l e ({ frames := 1, cells := 0, slots := 0, locals := 22 } : Room) s m args below meth c H locs 0 0 Q (F0 m 56 ls []) := by
                intro Q exit j8
                induction j8 with
                | zero => 
                  intro i g5_115 H locs ls hij  hP hD hS hl
                  have hij : yn = i := by omega
                  refine lv_iload hx hb d_Md_user_56 (lv_at hl 0 rfl) ?_
                  refine lv_iload hx hb d_Md_user_58 (lv_at hl 5 rfl) ?_
                  refine lv_icmp_ge (tgt := 87) hx hb d_Md_user_60 (by decide) (fun hc117 => ?_) (fun hn9 => absurd (nI_le (by omega) (by omega)) hn9)
                  subst hij
                  exact exit g5_115 _ _ _  hP hD hS hl
                | succ j8 ih => 
                  intro i g5_115 H locs ls hij  hP hD hS hl
                  have hlt : i < yn := by omega
                  have hlti := hlt
                  refine lv_iload hx hb d_Md_user_56 (lv_at hl 0 rfl) ?_
                  refine lv_iload hx hb d_Md_user_58 (lv_at hl 5 rfl) ?_
                  refine lv_icmp_ge (tgt := 87) hx hb d_Md_user_60 (by decide) (fun hn9 => absurd hn9 (nI_ge (by omega) (by omega))) (fun hc118 => ?_)
                  refine lv_aload_n hx hb d_Md_user_63 rfl (lv_at hl 2 rfl) ?_
                  refine va_get (D := (dC, dI)) (ci := 12) (v := (.ref (r 5))) (C := R_Md) (T := F_Md) (N := 45) hx hb hg in_Md hown hK hP 2 rfl rfl 5 (by decide) (hg _ k_1025) (fun _ h9 => h9) rfl d_Md_user_64 ?_
                  refine lv_bipush (v := 60) hx hb d_Md_user_67 (by decide) ?_
                  refine lv_iload_n hx hb d_Md_user_69 rfl (lv_at hl 3 rfl) ?_
                  refine lv_imul hx hb d_Md_user_70 ?_
                  refine lv_topi (fun x120 e119 => ?_)
                  obtain rfl : x120 = nI (60 * xn) := by rw [e119]; exact pk_mul 60 xn
                  refine lv_iload hx hb d_Md_user_71 (lv_at hl 0 rfl) ?_
                  refine lv_iadd hx hb d_Md_user_73 ?_
                  refine lv_topi (fun x122 e121 => ?_)
                  obtain rfl : x122 = nI ((60 * xn) + i) := by rw [e121]; exact nI_add (60 * xn) i
                  refine lv_lload_n hx hb d_Md_user_74 rfl (lv_at hl 4 rfl) ?_
                  refine lv_iload hx hb d_Md_user_75 (lv_at hl 0 rfl) ?_
                  have hPc := hP.sub (ws' := []) [] rfl
                  have hDc := hD.sub (ws' := []) [] (by decide) rfl
                  have hFc := va_free (wc := []) hD hS hA [] rfl
                  refine va_calli (va_runS (As := [.long v, .int (nI i)]) (rest := [.int (nI ((60 * xn) + i)), .ref (r 5)]) ⟨hx, hb, hml, hown, hg⟩ (m_letter l dC dI cT H.size v (nI i) ) (va_cwS 2 hg (gI (List.forall_mem_append.mpr ⟨List.forall_mem_cons.mpr ⟨k_1169, List.forall_mem_cons.mpr ⟨k_1170, List.forall_mem_cons.mpr ⟨k_13, fun _ h => absurd h List.not_mem_nil⟩⟩⟩, List.forall_mem_cons.mpr ⟨k_1171, fun _ h => h⟩⟩)) rfl rfl rfl (by decide +kernel) ⟨Nat.le_of_ble_eq_true rfl, Nat.le_of_ble_eq_true rfl⟩) ⟨fun a U g mk q => by obtain ⟨q0, q1, qP, qK, qD⟩ := q; exact ⟨q0, q1, qP, va_K.moved (u := U) (U := U.calling g mk a) (Vm.Alike.refl U.vm) qK, qD⟩, fun U hU hW => ⟨rfl, by rw [hU], by rw [hU]; exact hPc, va_K.moved hW.alike hK, hDc.weaken (fun _ _ _ _ => trivial)⟩⟩ rfl rfl hl.1 rfl (lv_room (Nat.le_of_ble_eq_true rfl)) d_Md_user_77 ⟨Nat.le_of_ble_eq_true rfl, Nat.le_of_ble_eq_true rfl⟩) hS (fun q _ h => hFc q h) hFc (fun rv9 u t H1 locs ht hvm hw hB hz1 hk1 hS => ?_)
                  try dsimp only at hw hB
                  obtain ⟨hP1, hK1, hD1⟩ := hB
                  rw [ht] at hP1
                  generalize rv9 = r123 at hw ⊢
                  obtain ⟨hP, hD⟩ := va_join (wr := [(r 5, .inl ((cT 0), 1920, .inl g5_115)), (r 6, .inl ((cT 0), 32, .inl f6)), (mo, .inr (12, mdG r 0 tm (nI sn) (nI tx) (nI lz) (nI az) (nI na) (nI nt) (nI nr) mw ml mk dq))]) (w1 := []) hP hD [] [0, 1, 2] rfl rfl (by decide) (by decide) hk1 hFc hP1 hD1
                  have hw124 := hw
                  clear hPc hDc hFc hz1 hk1 hP1 hK1 hD1
                  generalize H1 = H at hP hS ⊢
                  have hP : va_P (dC, dI) vcl [(r 5, .inl ((cT 0), 1920, .inl g5_115)), (r 6, .inl ((cT 0), 32, .inl f6)), (mo, .inr (12, mdG r 0 tm (nI sn) (nI tx) (nI lz) (nI az) (nI na) (nI nt) (nI nr) mw ml mk dq))] H := hP
                  have hD : va_D A [(r 5, .inl ((cT 0), 1920, .inl g5_115)), (r 6, .inl ((cT 0), 32, .inl f6)), (mo, .inr (12, mdG r 0 tm (nI sn) (nI tx) (nI lz) (nI az) (nI na) (nI nt) (nI nr) mw ml mk dq))] := hD
                  refine va_iast hx hb hK hP hD hS 0 0 rfl rfl (i := (nI ((60 * xn) + i))) (vp_in_nI (n := (60 * xn) + i) (N := 1920) (by omega) (by decide)) d_Md_user_80 (fun H locs hP hD hS => ?_)
                  have ef125 : upd g5_115 (nI ((60 * xn) + i)).toNatClampNeg r123 = upd g5_115 ((60 * xn) + i) r123 := by rw [show (nI ((60 * xn) + i)).toNatClampNeg = (60 * xn) + i from nI_clamp (by omega)]
                  rw [ef125] at hP hD
                  have hP : va_P (dC, dI) vcl [(r 5, .inl ((cT 0), 1920, .inl (upd g5_115 ((60 * xn) + i) r123))), (r 6, .inl ((cT 0), 32, .inl f6)), (mo, .inr (12, mdG r 0 tm (nI sn) (nI tx) (nI lz) (nI az) (nI na) (nI nt) (nI nr) mw ml mk dq))] H := hP
                  have hD : va_D A [(r 5, .inl ((cT 0), 1920, .inl (upd g5_115 ((60 * xn) + i) r123))), (r 6, .inl ((cT 0), 32, .inl f6)), (mo, .inr (12, mdG r 0 tm (nI sn) (nI tx) (nI lz) (nI az) (nI na) (nI nt) (nI nr) mw ml mk dq))] := hD
                  refine lv_iinc (k := 0) (v := nI (i + 1)) (lv' := [(6, .int (nI (i + 1))), (5, .int 0), (0, .ref mo), (1, .int (nI xn)), (2, .long v), (4, .int (nI yn))]) hx hb d_Md_user_81 hl rfl (nI_1 i) (by decide) rfl (fun ls hl => ?_)
                  refine lv_goto (tgt := 56) hx hb d_Md_user_84 (by decide) ?_
                  have hl := lv_sub hl [0, 1, 2, 3, 4, 5] (show _ = [(6, .int (nI (i + 1))), (5, .int 0), (0, .ref mo), (1, .int (nI xn)), (2, .long v), (4, .int (nI yn))] from rfl)
                  exact ih (i + 1) _ _ _ _ (by omega)  hP hD hS hl
              refine L116 _ (fun g5_115 H locs ls  hP hD hS hl => ?_) (yn - 0) 0 f5 H _ ls (by omega)  hP hD hS hl
              refine lv_aload_n hx hb d_Md_user_87 rfl (lv_at hl 2 rfl) ?_
              refine va_get (D := (dC, dI)) (ci := 12) (v := (.ref (r 6))) (C := R_Md) (T := F_Md) (N := 45) hx hb hg in_Md hown hK hP 2 rfl rfl 6 (by decide) (hg _ k_1026) (fun _ h9 => h9) rfl d_Md_user_88 ?_
              refine lv_iload_n hx hb d_Md_user_91 rfl (lv_at hl 3 rfl) ?_
              refine lv_iload hx hb d_Md_user_92 (lv_at hl 5 rfl) ?_
              refine va_iast hx hb hK hP hD hS 1 0 rfl rfl (i := (nI xn)) (vp_in_nI (n := xn) (N := 32) (by omega) (by decide)) d_Md_user_94 (fun H locs hP hD hS => ?_)
              have ef126 : upd f6 (nI xn).toNatClampNeg (nI yn) = upd f6 xn (nI yn) := by rw [show (nI xn).toNatClampNeg = xn from nI_clamp (by omega)]
              rw [ef126] at hP hD
              have hP : va_P (dC, dI) vcl [(r 5, .inl ((cT 0), 1920, .inl g5_115)), (r 6, .inl ((cT 0), 32, .inl (upd f6 xn (nI yn)))), (mo, .inr (12, mdG r 0 tm (nI sn) (nI tx) (nI lz) (nI az) (nI na) (nI nt) (nI nr) mw ml mk dq))] H := hP
              have hD : va_D A [(r 5, .inl ((cT 0), 1920, .inl g5_115)), (r 6, .inl ((cT 0), 32, .inl (upd f6 xn (nI yn)))), (mo, .inr (12, mdG r 0 tm (nI sn) (nI tx) (nI lz) (nI az) (nI na) (nI nt) (nI nr) mw ml mk dq))] := hD
              refine lv_iload hx hb d_Md_user_95 (lv_at hl 1 rfl) ?_
              have hP9 := hP.sub (ws' := [(mo, .inr (12, mdG r 0 tm (nI sn) (nI tx) (nI lz) (nI az) (nI na) (nI nt) (nI nr) mw ml mk dq)), (r 5, .inl ((cT 0), 1920, .inl g5_115)), (r 6, .inl ((cT 0), 32, .inl (upd f6 xn (nI yn))))]) [2, 0, 1] rfl
              have hD9 := hD.sub (ws' := [(mo, .inr (12, mdG r 0 tm (nI sn) (nI tx) (nI lz) (nI az) (nI na) (nI nt) (nI nr) mw ml mk dq)), (r 5, .inl ((cT 0), 1920, .inl g5_115)), (r 6, .inl ((cT 0), 32, .inl (upd f6 xn (nI yn))))]) [2, 0, 1] (by decide) rfl
              exact W.zret (v := 0) hx hb hr (by first | rfl | decide) (fun t ht hW => ⟨⟨_, ⟨g5_115, upd f6 xn (nI yn), 0⟩, rfl, BD_upd h6 (by omega), by rw [ht]; exact hP9, va_K.moved hW.alike hK, hD9⟩, hS.F ht⟩) hS.2.2 d_Md_user_97
            · skip
              have n114 : t109 = 0 := (nI_eq (a := t109) (b := 0) (by omega) (by omega)).mp hc112
              refine lv_iconst (v := 1) hx hb d_Md_user_46 (by decide) ?_
              refine lv_goto (tgt := 51) hx hb d_Md_user_47 (by decide) ?_
              refine lv_istore (lv' := [(5, .int 1), (0, .ref mo), (1, .int (nI xn)), (2, .long v), (4, .int (nI yn))]) hx hb d_Md_user_51 hl (by decide) rfl (fun ls hl => ?_)
              refine lv_iconst (v := 0) hx hb d_Md_user_53 (by decide) ?_
              refine lv_istore (lv' := [(6, .int 0), (5, .int 1), (0, .ref mo), (1, .int (nI xn)), (2, .long v), (4, .int (nI yn))]) hx hb d_Md_user_54 hl (by decide) rfl (fun ls hl => ?_)
              have hl := lv_sub hl [0, 1, 2, 3, 4, 5] (show _ = [(6, .int 0), (5, .int 1), (0, .ref mo), (1, .int (nI xn)), (2, .long v), (4, .int (nI yn))] from rfl)
              have L128 : ∀ (Q : State → Prop) (exit : ∀ (g5_127 : Nat → Int32) (H : Heap) (locs : List Loc) (ls : Array Slot), va_P (dC, dI) vcl [(r 5, .inl ((cT 0), 1920, .inl g5_127)), (r 6, .inl ((cT 0), 32, .inl f6)), (mo, .inr (12, mdG r 0 tm (nI sn) (nI tx) (nI lz) (nI az) (nI na) (nI nt) (nI nr) mw ml mk dq))] H → va_D A [(r 5, .inl ((cT 0), 1920, .inl g5_127)), (r 6, .inl ((cT 0), 32, .inl f6)), (mo, .inr (12, mdG r 0 tm (nI sn) (nI tx) (nI lz) (nI az) (nI na) (nI nt) (nI nr) mw ml mk dq))] → va_S A s.heap H locs → lv_has ls 7 [(6, .int (nI yn)), (5, .int 1), (0, .ref mo), (1, .int (nI xn)), (2, .long v), (4, .int (nI yn))] → W p l e ({ frames := 1, cells := 0, slots := 0, locals := 22 } : Room) s m args below meth c H locs 0 0 Q (F0 m 87 ls [])) (j8 i : Nat) (g5_127 : Nat → Int32) (H : Heap) (locs : List Loc) (ls : Array Slot), i + j8 = yn → va_P (dC, dI) vcl [(r 5, .inl ((cT 0), 1920, .inl g5_127)), (r 6, .inl ((cT 0), 32, .inl f6)), (mo, .inr (12, mdG r 0 tm (nI sn) (nI tx) (nI lz) (nI az) (nI na) (nI nt) (nI nr) mw ml mk dq))] H → va_D A [(r 5, .inl ((cT 0), 1920, .inl g5_127)), (r 6, .inl ((cT 0), 32, .inl f6)), (mo, .inr (12, mdG r 0 tm (nI sn) (nI tx) (nI lz) (nI az) (nI na) (nI nt) (nI nr) mw ml mk dq))] → va_S A s.heap H locs → lv_has ls 7 [(6, .int (nI i)), (5, .int 1), (0, .ref mo), (1, .int (nI xn)), (2, .long v), (4, .int (nI yn))] → W p l e ({ frames := 1, cells := 0, slots := 0, locals := 22 } : Room) s m args below meth c H locs 0 0 Q (F0 m 56 ls []) := by
                intro Q exit j8
                induction j8 with
                | zero => 
                  intro i g5_127 H locs ls hij  hP hD hS hl
                  have hij : yn = i := by omega
                  refine lv_iload hx hb d_Md_user_56 (lv_at hl 0 rfl) ?_
                  refine lv_iload hx hb d_Md_user_58 (lv_at hl 5 rfl) ?_
                  refine lv_icmp_ge (tgt := 87) hx hb d_Md_user_60 (by decide) (fun hc129 => ?_) (fun hn9 => absurd (nI_le (by omega) (by omega)) hn9)
                  subst hij
                  exact exit g5_127 _ _ _  hP hD hS hl
                | succ j8 ih => 
                  intro i g5_127 H locs ls hij  hP hD hS hl
                  have hlt : i < yn := by omega
                  have hlti := hlt
                  refine lv_iload hx hb d_Md_user_56 (lv_at hl 0 rfl) ?_
                  refine lv_iload hx hb d_Md_user_58 (lv_at hl 5 rfl) ?_
                  refine lv_icmp_ge (tgt := 87) hx hb d_Md_user_60 (by decide) (fun hn9 => absurd hn9 (nI_ge (by omega) (by omega))) (fun hc130 => ?_)
                  refine lv_aload_n hx hb d_Md_user_63 rfl (lv_at hl 2 rfl) ?_
                  refine va_get (D := (dC, dI)) (ci := 12) (v := (.ref (r 5))) (C := R_Md) (T := F_Md) (N := 45) hx hb hg in_Md hown hK hP 2 rfl rfl 5 (by decide) (hg _ k_1025) (fun _ h9 => h9) rfl d_Md_user_64 ?_
                  refine lv_bipush (v := 60) hx hb d_Md_user_67 (by decide) ?_
                  refine lv_iload_n hx hb d_Md_user_69 rfl (lv_at hl 3 rfl) ?_
                  refine lv_imul hx hb d_Md_user_70 ?_
                  refine lv_topi (fun x132 e131 => ?_)
                  obtain rfl : x132 = nI (60 * xn) := by rw [e131]; exact pk_mul 60 xn
                  refine lv_iload hx hb d_Md_user_71 (lv_at hl 0 rfl) ?_
                  refine lv_iadd hx hb d_Md_user_73 ?_
                  refine lv_topi (fun x134 e133 => ?_)
                  obtain rfl : x134 = nI ((60 * xn) + i) := by rw [e133]; exact nI_add (60 * xn) i
                  refine lv_lload_n hx hb d_Md_user_74 rfl (lv_at hl 4 rfl) ?_
                  refine lv_iload hx hb d_Md_user_75 (lv_at hl 0 rfl) ?_
                  have hPc := hP.sub (ws' := []) [] rfl
                  have hDc := hD.sub (ws' := []) [] (by decide) rfl
                  have hFc := va_free (wc := []) hD hS hA [] rfl
                  refine va_calli (va_runS (As := [.long v, .int (nI i)]) (rest := [.int (nI ((60 * xn) + i)), .ref (r 5)]) ⟨hx, hb, hml, hown, hg⟩ (m_letter l dC dI cT H.size v (nI i) ) (va_cwS 2 hg (gI (List.forall_mem_append.mpr ⟨List.forall_mem_cons.mpr ⟨k_1169, List.forall_mem_cons.mpr ⟨k_1170, List.forall_mem_cons.mpr ⟨k_13, fun _ h => absurd h List.not_mem_nil⟩⟩⟩, List.forall_mem_cons.mpr ⟨k_1171, fun _ h => h⟩⟩)) rfl rfl rfl (by decide +kernel) ⟨Nat.le_of_ble_eq_true rfl, Nat.le_of_ble_eq_true rfl⟩) ⟨fun a U g mk q => by obtain ⟨q0, q1, qP, qK, qD⟩ := q; exact ⟨q0, q1, qP, va_K.moved (u := U) (U := U.calling g mk a) (Vm.Alike.refl U.vm) qK, qD⟩, fun U hU hW => ⟨rfl, by rw [hU], by rw [hU]; exact hPc, va_K.moved hW.alike hK, hDc.weaken (fun _ _ _ _ => trivial)⟩⟩ rfl rfl hl.1 rfl (lv_room (Nat.le_of_ble_eq_true rfl)) d_Md_user_77 ⟨Nat.le_of_ble_eq_true rfl, Nat.le_of_ble_eq_true rfl⟩) hS (fun q _ h => hFc q h) hFc (fun rv9 u t H1 locs ht hvm hw hB hz1 hk1 hS => ?_)
                  try dsimp only at hw hB
                  obtain ⟨hP1, hK1, hD1⟩ := hB
                  rw [ht] at hP1
                  generalize rv9 = r135 at hw ⊢
                  obtain ⟨hP, hD⟩ := va_join (wr := [(r 5, .inl ((cT 0), 1920, .inl g5_127)), (r 6, .inl ((cT 0), 32, .inl f6)), (mo, .inr (12, mdG r 0 tm (nI sn) (nI tx) (nI lz) (nI az) (nI na) (nI nt) (nI nr) mw ml mk dq))]) (w1 := []) hP hD [] [0, 1, 2] rfl rfl (by decide) (by decide) hk1 hFc hP1 hD1
                  have hw136 := hw
                  clear hPc hDc hFc hz1 hk1 hP1 hK1 hD1
                  generalize H1 = H at hP hS ⊢
                  have hP : va_P (dC, dI) vcl [(r 5, .inl ((cT 0), 1920, .inl g5_127)), (r 6, .inl ((cT 0), 32, .inl f6)), (mo, .inr (12, mdG r 0 tm (nI sn) (nI tx) (nI lz) (nI az) (nI na) (nI nt) (nI nr) mw ml mk dq))] H := hP
                  have hD : va_D A [(r 5, .inl ((cT 0), 1920, .inl g5_127)), (r 6, .inl ((cT 0), 32, .inl f6)), (mo, .inr (12, mdG r 0 tm (nI sn) (nI tx) (nI lz) (nI az) (nI na) (nI nt) (nI nr) mw ml mk dq))] := hD
                  refine va_iast hx hb hK hP hD hS 0 0 rfl rfl (i := (nI ((60 * xn) + i))) (vp_in_nI (n := (60 * xn) + i) (N := 1920) (by omega) (by decide)) d_Md_user_80 (fun H locs hP hD hS => ?_)
                  have ef137 : upd g5_127 (nI ((60 * xn) + i)).toNatClampNeg r135 = upd g5_127 ((60 * xn) + i) r135 := by rw [show (nI ((60 * xn) + i)).toNatClampNeg = (60 * xn) + i from nI_clamp (by omega)]
                  rw [ef137] at hP hD
                  have hP : va_P (dC, dI) vcl [(r 5, .inl ((cT 0), 1920, .inl (upd g5_127 ((60 * xn) + i) r135))), (r 6, .inl ((cT 0), 32, .inl f6)), (mo, .inr (12, mdG r 0 tm (nI sn) (nI tx) (nI lz) (nI az) (nI na) (nI nt) (nI nr) mw ml mk dq))] H := hP
                  have hD : va_D A [(r 5, .inl ((cT 0), 1920, .inl (upd g5_127 ((60 * xn) + i) r135))), (r 6, .inl ((cT 0), 32, .inl f6)), (mo, .inr (12, mdG r 0 tm (nI sn) (nI tx) (nI lz) (nI az) (nI na) (nI nt) (nI nr) mw ml mk dq))] := hD
                  refine lv_iinc (k := 0) (v := nI (i + 1)) (lv' := [(6, .int (nI (i + 1))), (5, .int 1), (0, .ref mo), (1, .int (nI xn)), (2, .long v), (4, .int (nI yn))]) hx hb d_Md_user_81 hl rfl (nI_1 i) (by decide) rfl (fun ls hl => ?_)
                  refine lv_goto (tgt := 56) hx hb d_Md_user_84 (by decide) ?_
                  have hl := lv_sub hl [0, 1, 2, 3, 4, 5] (show _ = [(6, .int (nI (i + 1))), (5, .int 1), (0, .ref mo), (1, .int (nI xn)), (2, .long v), (4, .int (nI yn))] from rfl)
                  exact ih (i + 1) _ _ _ _ (by omega)  hP hD hS hl
              refine L128 _ (fun g5_127 H locs ls  hP hD hS hl => ?_) (yn - 0) 0 f5 H _ ls (by omega)  hP hD hS hl
              refine lv_aload_n hx hb d_Md_user_87 rfl (lv_at hl 2 rfl) ?_
              refine va_get (D := (dC, dI)) (ci := 12) (v := (.ref (r 6))) (C := R_Md) (T := F_Md) (N := 45) hx hb hg in_Md hown hK hP 2 rfl rfl 6 (by decide) (hg _ k_1026) (fun _ h9 => h9) rfl d_Md_user_88 ?_
              refine lv_iload_n hx hb d_Md_user_91 rfl (lv_at hl 3 rfl) ?_
              refine lv_iload hx hb d_Md_user_92 (lv_at hl 5 rfl) ?_
              refine va_iast hx hb hK hP hD hS 1 0 rfl rfl (i := (nI xn)) (vp_in_nI (n := xn) (N := 32) (by omega) (by decide)) d_Md_user_94 (fun H locs hP hD hS => ?_)
              have ef138 : upd f6 (nI xn).toNatClampNeg (nI yn) = upd f6 xn (nI yn) := by rw [show (nI xn).toNatClampNeg = xn from nI_clamp (by omega)]
              rw [ef138] at hP hD
              have hP : va_P (dC, dI) vcl [(r 5, .inl ((cT 0), 1920, .inl g5_127)), (r 6, .inl ((cT 0), 32, .inl (upd f6 xn (nI yn)))), (mo, .inr (12, mdG r 0 tm (nI sn) (nI tx) (nI lz) (nI az) (nI na) (nI nt) (nI nr) mw ml mk dq))] H := hP
              have hD : va_D A [(r 5, .inl ((cT 0), 1920, .inl g5_127)), (r 6, .inl ((cT 0), 32, .inl (upd f6 xn (nI yn)))), (mo, .inr (12, mdG r 0 tm (nI sn) (nI tx) (nI lz) (nI az) (nI na) (nI nt) (nI nr) mw ml mk dq))] := hD
              refine lv_iload hx hb d_Md_user_95 (lv_at hl 1 rfl) ?_
              have hP9 := hP.sub (ws' := [(mo, .inr (12, mdG r 0 tm (nI sn) (nI tx) (nI lz) (nI az) (nI na) (nI nt) (nI nr) mw ml mk dq)), (r 5, .inl ((cT 0), 1920, .inl g5_127)), (r 6, .inl ((cT 0), 32, .inl (upd f6 xn (nI yn))))]) [2, 0, 1] rfl
              have hD9 := hD.sub (ws' := [(mo, .inr (12, mdG r 0 tm (nI sn) (nI tx) (nI lz) (nI az) (nI na) (nI nt) (nI nr) mw ml mk dq)), (r 5, .inl ((cT 0), 1920, .inl g5_127)), (r 6, .inl ((cT 0), 32, .inl (upd f6 xn (nI yn))))]) [2, 0, 1] (by decide) rfl
              exact W.zret (v := 1) hx hb hr (by first | rfl | decide) (fun t ht hW => ⟨⟨_, ⟨g5_127, upd f6 xn (nI yn), 0⟩, rfl, BD_upd h6 (by omega), by rw [ht]; exact hP9, va_K.moved hW.alike hK, hD9⟩, hS.F ht⟩) hS.2.2 d_Md_user_97
set_option maxHeartbeats 4000000 in
set_option maxRecDepth 100000 in
/-- isByte -/
theorem m_byteX (l : Launch) (dC : Nat → ClassId) (dI : Nat → Nat → Nat) (cT : Nat → ClassId) (sz : Nat) (v : Int32)  : Met l y_Md_isByte (Cond.code y_Md_isByte b_Md_isByte 1 (Option.some Jvm.ClassFile.FieldType.boolean) :: BIG) ({ frames := 0, cells := 0, slots := 0, locals := 0 }) (va_Pc [.int v] (fun U => U.heap.size = sz ∧ va_P (dC, dI) vcl [] U.heap ∧ va_K (dC, dI) vcl (tyL cT) U ∧ va_D (fun _ => True) [])) (va_Qi (S := Unit) (fun rv9 u => (rv9 = 0 ∧ (v < 0 ∨ 255 < v)) ∨ (rv9 = 1 ∧ ¬ v < 0 ∧ ¬ 255 < v)) (fun u t => va_P (dC, dI) vcl [] t.heap ∧ va_K (dC, dI) vcl (tyL cT) t ∧ va_D (va_A [] sz) []) (va_A [] sz)) 0 0 (va_A [] sz) := by
  refine Met.ofW (cc := b_Md_isByte) (maxL := 1) (ret := (Option.some Jvm.ClassFile.FieldType.boolean)) (by decide) rfl ?_
  intro p e s m args below meth c s₁ B hml hv
  obtain ⟨hargs, hsz, hP, hK, hD0⟩ := hv
  have hx := B.exec
  have hb := B.bytes
  have hr := B.returns
  have hts := atoms_spec (ws := (Cond.code y_Md_isByte b_Md_isByte 1 (Option.some Jvm.ClassFile.FieldType.boolean) :: BIG)) B.pre
  have hg : ∀ w ∈ BIG, w.before _ s = true := fun w h => hts w (List.mem_cons_of_mem _ h)
  have hown : s.vm.findClass "DoorServerModel" = some m.cls := findClass_of_methodNamed B.named
  have hlocks := B.notSynchronized
  subst hsz
  have hD := hD0.self (sz := s.heap.size)
  generalize hAe : va_A [] s.heap.size = A at hD ⊢
  have hA : ∀ q : Nat, s.heap.size ≤ q → A q := fun q h => by rw [← hAe]; exact Or.inr h
  have hS : va_S A s.heap s.heap [] := va_S.rf
  have hl := lv_entry ([.int v]) (n := 1) (Nat.le_of_ble_eq_true rfl)
  refine W.eq (g2 := entryFrame m (List.toArray [.int v]) 1) (by rw [hargs]) ?_
  rw [lg_entry_eq]
  generalize (lg_sl ([.int v]) ++ List.replicate (1 - (lg_sl ([.int v])).length) Slot.unset).toArray = ls at hl ⊢
  have hl : lv_has ls 1 [(0, .int v)] := hl
  change W p l e ({ frames := 0, cells := 0, slots := 0, locals := 0 } : Room) s m args below meth c s.heap [] 0 0 _ _
  have hP : va_P (dC, dI) vcl [] s.heap := hP
  refine lv_iload_n hx hb d_Md_isByte_0 rfl (lv_at hl 0 rfl) ?_
  refine lv_if_lt (tgt := 15) hx hb d_Md_isByte_1 (by decide) (fun hc139 => ?_) (fun hc139 => ?_)
  · skip
    refine lv_iconst (v := 0) hx hb d_Md_isByte_15 (by decide) ?_
    have hP9 := hP.sub (ws' := []) [] rfl
    have hD9 := hD.sub (ws' := []) [] (by decide) rfl
    exact W.zret (v := 0) hx hb hr (by first | rfl | decide) (fun t ht hW => ⟨⟨_, (), rfl, Or.inl ⟨rfl, Or.inl hc139⟩, by rw [ht]; exact hP9, va_K.moved hW.alike hK, hD9⟩, hS.F ht⟩) hS.2.2 d_Md_isByte_16
  · skip
    refine lv_iload_n hx hb d_Md_isByte_4 rfl (lv_at hl 0 rfl) ?_
    refine lv_sipush (v := 256) hx hb d_Md_isByte_5 (by decide) ?_
    refine lv_icmp_ge (tgt := 15) hx hb d_Md_isByte_8 (by decide) (fun hc140 => ?_) (fun hc140 => ?_)
    · skip
      refine lv_iconst (v := 0) hx hb d_Md_isByte_15 (by decide) ?_
      have hP9 := hP.sub (ws' := []) [] rfl
      have hD9 := hD.sub (ws' := []) [] (by decide) rfl
      exact W.zret (v := 0) hx hb hr (by first | rfl | decide) (fun t ht hW => ⟨⟨_, (), rfl, Or.inl ⟨rfl, Or.inr ((lt_le1 (by decide)).mpr hc140)⟩, by rw [ht]; exact hP9, va_K.moved hW.alike hK, hD9⟩, hS.F ht⟩) hS.2.2 d_Md_isByte_16
    · skip
      refine lv_iconst (v := 1) hx hb d_Md_isByte_11 (by decide) ?_
      refine lv_goto (tgt := 16) hx hb d_Md_isByte_12 (by decide) ?_
      have hP9 := hP.sub (ws' := []) [] rfl
      have hD9 := hD.sub (ws' := []) [] (by decide) rfl
      exact W.zret (v := 1) hx hb hr (by first | rfl | decide) (fun t ht hW => ⟨⟨_, (), rfl, Or.inr ⟨rfl, hc139, fun h9 => hc140 ((lt_le1 (by decide)).mp h9)⟩, by rw [ht]; exact hP9, va_K.moved hW.alike hK, hD9⟩, hS.F ht⟩) hS.2.2 d_Md_isByte_16
set_option maxHeartbeats 4000000 in
set_option maxRecDepth 100000 in
/-- draft -/
theorem u_draft (l : Launch) (dC : Nat → ClassId) (dI : Nat → Nat → Nat) (cT : Nat → ClassId) (sz : Nat) (mo : Nat) (r : Nat → Nat) (cd : Int32) (tm : Int32) (sn : Nat) (tx : Nat) (lz : Nat) (az : Nat) (na : Nat) (nt : Nat) (nr : Nat) (mw : Int32) (ml : Int32) (mk : Int64) (dq : Int64) (f7 : Nat → Int32) (x : Int32) (y : Int32) (v : Int64) (h20 : 20 ≤ sn) (hsn : sn ≤ 1000) (h7 : AB f7) : Met l y_Md_draft (Cond.code y_Md_draft b_Md_draft 5 (Option.none : Option Jvm.ClassFile.FieldType) :: BIG) ({ frames := 2, cells := 0, slots := 0, locals := 46 }) (va_Pc [.ref mo, .int x, .int y, .long v] (fun U => U.heap.size = sz ∧ va_P (dC, dI) vcl [(mo, .inr (12, mdG r cd tm (nI sn) (nI tx) (nI lz) (nI az) (nI na) (nI nt) (nI nr) mw ml mk dq)), (r 7, .inl ((cT 0), 1000, .inl f7))] U.heap ∧ va_K (dC, dI) vcl (tyL cT) U ∧ va_D (fun _ => True) [(mo, .inr (12, mdG r cd tm (nI sn) (nI tx) (nI lz) (nI az) (nI na) (nI nt) (nI nr) mw ml mk dq)), (r 7, .inl ((cT 0), 1000, .inl f7))])) (va_Qv (S := (Nat → Int32) × Int32 × Nat) (fun u => match u with | (g7, cd2, sn2) => ((cd2 = 0 ∧ OKD_ x y) ∨ (cd2 = 1 ∧ ¬ OKD_ x y)) ∧ (20 ≤ sn2) ∧ (sn2 ≤ 1000) ∧ (AB g7)) (fun u t => match u with | (g7, cd2, sn2) => va_P (dC, dI) vcl [(mo, .inr (12, mdG r cd2 tm (nI sn2) (nI tx) (nI lz) (nI az) (nI na) (nI nt) (nI nr) mw ml mk dq)), (r 7, .inl ((cT 0), 1000, .inl g7))] t.heap ∧ va_K (dC, dI) vcl (tyL cT) t ∧ va_D (va_A [(mo, .inr (12, mdG r cd tm (nI sn) (nI tx) (nI lz) (nI az) (nI na) (nI nt) (nI nr) mw ml mk dq)), (r 7, .inl ((cT 0), 1000, .inl f7))] sz) [(mo, .inr (12, mdG r cd2 tm (nI sn2) (nI tx) (nI lz) (nI az) (nI na) (nI nt) (nI nr) mw ml mk dq)), (r 7, .inl ((cT 0), 1000, .inl g7))]) (va_A [(mo, .inr (12, mdG r cd tm (nI sn) (nI tx) (nI lz) (nI az) (nI na) (nI nt) (nI nr) mw ml mk dq)), (r 7, .inl ((cT 0), 1000, .inl f7))] sz)) 0 0 (va_A [(mo, .inr (12, mdG r cd tm (nI sn) (nI tx) (nI lz) (nI az) (nI na) (nI nt) (nI nr) mw ml mk dq)), (r 7, .inl ((cT 0), 1000, .inl f7))] sz) := by
  refine Met.ofW (cc := b_Md_draft) (maxL := 5) (ret := (Option.none : Option Jvm.ClassFile.FieldType)) (by decide) rfl ?_
  intro p e s m args below meth c s₁ B hml hv
  obtain ⟨hargs, hsz, hP, hK, hD0⟩ := hv
  have hx := B.exec
  have hb := B.bytes
  have hr := B.returns
  have hts := atoms_spec (ws := (Cond.code y_Md_draft b_Md_draft 5 (Option.none : Option Jvm.ClassFile.FieldType) :: BIG)) B.pre
  have hg : ∀ w ∈ BIG, w.before _ s = true := fun w h => hts w (List.mem_cons_of_mem _ h)
  have hown : s.vm.findClass "DoorServerModel" = some m.cls := findClass_of_methodNamed B.named
  have hlocks := B.notSynchronized
  subst hsz
  have hD := hD0.self (sz := s.heap.size)
  generalize hAe : va_A [(mo, .inr (12, mdG r cd tm (nI sn) (nI tx) (nI lz) (nI az) (nI na) (nI nt) (nI nr) mw ml mk dq)), (r 7, .inl ((cT 0), 1000, .inl f7))] s.heap.size = A at hD ⊢
  have hA : ∀ q : Nat, s.heap.size ≤ q → A q := fun q h => by rw [← hAe]; exact Or.inr h
  have hS : va_S A s.heap s.heap [] := va_S.rf
  have hl := lv_entry ([.ref mo, .int x, .int y, .long v]) (n := 5) (Nat.le_of_ble_eq_true rfl)
  refine W.eq (g2 := entryFrame m (List.toArray [.ref mo, .int x, .int y, .long v]) 5) (by rw [hargs]) ?_
  rw [lg_entry_eq]
  generalize (lg_sl ([.ref mo, .int x, .int y, .long v]) ++ List.replicate (5 - (lg_sl ([.ref mo, .int x, .int y, .long v])).length) Slot.unset).toArray = ls at hl ⊢
  have hl : lv_has ls 5 [(0, .ref mo), (1, .int x), (2, .int y), (3, .long v)] := hl
  change W p l e ({ frames := 2, cells := 0, slots := 0, locals := 46 } : Room) s m args below meth c s.heap [] 0 0 _ _
  have hP : va_P (dC, dI) vcl [(mo, .inr (12, mdG r cd tm (nI sn) (nI tx) (nI lz) (nI az) (nI na) (nI nt) (nI nr) mw ml mk dq)), (r 7, .inl ((cT 0), 1000, .inl f7))] s.heap := hP
  refine lv_aload_n hx hb d_Md_draft_0 rfl (lv_at hl 0 rfl) ?_
  refine lv_iload_n hx hb d_Md_draft_1 rfl (lv_at hl 1 rfl) ?_
  have hPc := hP.sub (ws' := []) [] rfl
  have hDc := hD.sub (ws' := []) [] (by decide) rfl
  have hFc := va_free (wc := []) hD hS hA [] rfl
  refine va_calli (va_runS (As := [.int x]) (rest := [.ref mo]) ⟨hx, hb, hml, hown, hg⟩ (m_byteX l dC dI cT s.heap.size x ) (va_cwS 1 hg (gI (List.forall_mem_append.mpr ⟨List.forall_mem_cons.mpr ⟨k_1181, List.forall_mem_cons.mpr ⟨k_1182, List.forall_mem_cons.mpr ⟨k_13, fun _ h => absurd h List.not_mem_nil⟩⟩⟩, List.forall_mem_cons.mpr ⟨k_1183, fun _ h => h⟩⟩)) rfl rfl rfl (by decide +kernel) ⟨Nat.le_of_ble_eq_true rfl, Nat.le_of_ble_eq_true rfl⟩) ⟨fun a U g mk q => by obtain ⟨q0, q1, qP, qK, qD⟩ := q; exact ⟨q0, q1, qP, va_K.moved (u := U) (U := U.calling g mk a) (Vm.Alike.refl U.vm) qK, qD⟩, fun U hU hW => ⟨rfl, by rw [hU], by rw [hU]; exact hPc, va_K.moved hW.alike hK, hDc.weaken (fun _ _ _ _ => trivial)⟩⟩ rfl rfl hl.1 rfl (lv_room (Nat.le_of_ble_eq_true rfl)) d_Md_draft_2 ⟨Nat.le_of_ble_eq_true rfl, Nat.le_of_ble_eq_true rfl⟩) hS (fun q _ h => hFc q h) hFc (fun rv9 u t H1 locs ht hvm hw hB hz1 hk1 hS => ?_)
  try dsimp only at hw hB
  obtain ⟨hP1, hK1, hD1⟩ := hB
  rw [ht] at hP1
  generalize rv9 = r141 at hw ⊢
  obtain ⟨hP, hD⟩ := va_join (wr := [(mo, .inr (12, mdG r cd tm (nI sn) (nI tx) (nI lz) (nI az) (nI na) (nI nt) (nI nr) mw ml mk dq)), (r 7, .inl ((cT 0), 1000, .inl f7))]) (w1 := []) hP hD [] [0, 1] rfl rfl (by decide) (by decide) hk1 hFc hP1 hD1
  have hw142 := hw
  clear hPc hDc hFc hz1 hk1 hP1 hK1 hD1
  generalize H1 = H at hP hS ⊢
  have hP : va_P (dC, dI) vcl [(mo, .inr (12, mdG r cd tm (nI sn) (nI tx) (nI lz) (nI az) (nI na) (nI nt) (nI nr) mw ml mk dq)), (r 7, .inl ((cT 0), 1000, .inl f7))] H := hP
  have hD : va_D A [(mo, .inr (12, mdG r cd tm (nI sn) (nI tx) (nI lz) (nI az) (nI na) (nI nt) (nI nr) mw ml mk dq)), (r 7, .inl ((cT 0), 1000, .inl f7))] := hD
  rcases hw142 with ⟨h8z, h1⟩ | ⟨h8z, h1a, h1b⟩
  · skip
    refine lv_topi (fun x144 e143 => ?_)
    obtain rfl : x144 = 0 := by rw [e143]; exact h8z
    refine lv_if_eq (tgt := 19) hx hb d_Md_draft_5 (by decide) (fun hc145 => ?_) (fun hn9 => absurd (by decide) hn9)
    refine lv_iconst (v := 0) hx hb d_Md_draft_19 (by decide) ?_
    have hPc := hP.sub (ws' := [(mo, .inr (12, mdG r cd tm (nI sn) (nI tx) (nI lz) (nI az) (nI na) (nI nt) (nI nr) mw ml mk dq))]) [0] rfl
    have hDc := hD.sub (ws' := [(mo, .inr (12, mdG r cd tm (nI sn) (nI tx) (nI lz) (nI az) (nI na) (nI nt) (nI nr) mw ml mk dq))]) [0] (by decide) rfl
    have hFc := va_free (wc := [(mo, .inr (12, mdG r cd tm (nI sn) (nI tx) (nI lz) (nI az) (nI na) (nI nt) (nI nr) mw ml mk dq))]) hD hS hA [0] rfl
    refine va_calli (va_runV (C := "DoorServerModel") (As := [.int 0]) (rest := []) ⟨hx, hb, hml, hown, hg⟩ (m_goes0 l dC dI cT H.size mo r cd tm sn tx lz az na nt nr mw ml mk dq ) (cwV 1 hg (gI (List.forall_mem_append.mpr ⟨List.forall_mem_cons.mpr ⟨k_1165, List.forall_mem_cons.mpr ⟨k_1167, List.forall_mem_cons.mpr ⟨(big_sel (q := y_Md_goes) (n := 45) (by decide +kernel)), List.forall_mem_cons.mpr ⟨k_13, fun _ h => absurd h List.not_mem_nil⟩⟩⟩⟩, List.forall_mem_cons.mpr ⟨k_1168, fun _ h => h⟩⟩)) rfl rfl rfl (by decide +kernel) ⟨Nat.le_of_ble_eq_true rfl, Nat.le_of_ble_eq_true rfl⟩) ⟨fun a U g mk q => by obtain ⟨q0, q1, qP, qK, qD⟩ := q; exact ⟨q0, q1, qP, va_K.moved (u := U) (U := U.calling g mk a) (Vm.Alike.refl U.vm) qK, qD⟩, va_recv (q0 := 0) (ci := 12) hK hP rfl rfl, fun U hU hW => ⟨rfl, by rw [hU], by rw [hU]; exact hPc, va_K.moved hW.alike hK, hDc.weaken (fun _ _ _ _ => trivial)⟩⟩ rfl rfl hl.1 rfl (lv_room (Nat.le_of_ble_eq_true rfl)) d_Md_draft_20 ⟨Nat.le_of_ble_eq_true rfl, Nat.le_of_ble_eq_true rfl⟩) hS (fun q _ h => hFc q h) hFc (fun rv9 u t H1 locs ht hvm hw hB hz1 hk1 hS => ?_)
    try dsimp only at hw hB
    obtain ⟨hP1, hK1, hD1⟩ := hB
    rw [ht] at hP1
    obtain ⟨rfl, hw⟩ := hw
    obtain ⟨hP, hD⟩ := va_join (wr := [(r 7, .inl ((cT 0), 1000, .inl f7))]) (w1 := [(mo, .inr (12, mdG r 1 tm (nI sn) (nI tx) (nI lz) (nI az) (nI na) (nI nt) (nI nr) mw ml mk dq))]) hP hD [0] [1] rfl rfl (by decide) (by decide) hk1 hFc hP1 hD1
    have hw146 := hw
    clear hPc hDc hFc hz1 hk1 hP1 hK1 hD1
    generalize H1 = H at hP hS ⊢
    have hP : va_P (dC, dI) vcl [(r 7, .inl ((cT 0), 1000, .inl f7)), (mo, .inr (12, mdG r 1 tm (nI sn) (nI tx) (nI lz) (nI az) (nI na) (nI nt) (nI nr) mw ml mk dq))] H := hP
    have hD : va_D A [(r 7, .inl ((cT 0), 1000, .inl f7)), (mo, .inr (12, mdG r 1 tm (nI sn) (nI tx) (nI lz) (nI az) (nI na) (nI nt) (nI nr) mw ml mk dq))] := hD
    refine lv_if_eq (tgt := 33) hx hb d_Md_draft_23 (by decide) (fun hc147 => ?_) (fun hn9 => absurd (by decide) hn9)
    have hP9 := hP.sub (ws' := [(mo, .inr (12, mdG r 1 tm (nI sn) (nI tx) (nI lz) (nI az) (nI na) (nI nt) (nI nr) mw ml mk dq)), (r 7, .inl ((cT 0), 1000, .inl f7))]) [1, 0] rfl
    have hD9 := hD.sub (ws' := [(mo, .inr (12, mdG r 1 tm (nI sn) (nI tx) (nI lz) (nI az) (nI na) (nI nt) (nI nr) mw ml mk dq)), (r 7, .inl ((cT 0), 1000, .inl f7))]) [1, 0] (by decide) rfl
    exact W.vret hx hb hr (fun t ht hW => ⟨⟨⟨f7, 1, sn⟩, rfl, ⟨Or.inr ⟨rfl, fun h9 => h1.elim h9.1 h9.2.1⟩, by omega, by omega, by assumption⟩, by rw [ht]; exact hP9, va_K.moved hW.alike hK, hD9⟩, hS.F ht⟩) hS.2.2 d_Md_draft_33
  · skip
    refine lv_topi (fun x149 e148 => ?_)
    obtain rfl : x149 = 1 := by rw [e148]; exact h8z
    refine lv_if_eq (tgt := 19) hx hb d_Md_draft_5 (by decide) (fun hn9 => absurd hn9 (by decide)) (fun hc150 => ?_)
    refine lv_iload_n hx hb d_Md_draft_8 rfl (lv_at hl 2 rfl) ?_
    have hPc := hP.sub (ws' := []) [] rfl
    have hDc := hD.sub (ws' := []) [] (by decide) rfl
    have hFc := va_free (wc := []) hD hS hA [] rfl
    refine va_calli (va_runS (As := [.int y]) (rest := [.ref mo]) ⟨hx, hb, hml, hown, hg⟩ (m_byteX l dC dI cT H.size y ) (va_cwS 1 hg (gI (List.forall_mem_append.mpr ⟨List.forall_mem_cons.mpr ⟨k_1181, List.forall_mem_cons.mpr ⟨k_1182, List.forall_mem_cons.mpr ⟨k_13, fun _ h => absurd h List.not_mem_nil⟩⟩⟩, List.forall_mem_cons.mpr ⟨k_1183, fun _ h => h⟩⟩)) rfl rfl rfl (by decide +kernel) ⟨Nat.le_of_ble_eq_true rfl, Nat.le_of_ble_eq_true rfl⟩) ⟨fun a U g mk q => by obtain ⟨q0, q1, qP, qK, qD⟩ := q; exact ⟨q0, q1, qP, va_K.moved (u := U) (U := U.calling g mk a) (Vm.Alike.refl U.vm) qK, qD⟩, fun U hU hW => ⟨rfl, by rw [hU], by rw [hU]; exact hPc, va_K.moved hW.alike hK, hDc.weaken (fun _ _ _ _ => trivial)⟩⟩ rfl rfl hl.1 rfl (lv_room (Nat.le_of_ble_eq_true rfl)) d_Md_draft_9 ⟨Nat.le_of_ble_eq_true rfl, Nat.le_of_ble_eq_true rfl⟩) hS (fun q _ h => hFc q h) hFc (fun rv9 u t H1 locs ht hvm hw hB hz1 hk1 hS => ?_)
    try dsimp only at hw hB
    obtain ⟨hP1, hK1, hD1⟩ := hB
    rw [ht] at hP1
    generalize rv9 = r151 at hw ⊢
    obtain ⟨hP, hD⟩ := va_join (wr := [(mo, .inr (12, mdG r cd tm (nI sn) (nI tx) (nI lz) (nI az) (nI na) (nI nt) (nI nr) mw ml mk dq)), (r 7, .inl ((cT 0), 1000, .inl f7))]) (w1 := []) hP hD [] [0, 1] rfl rfl (by decide) (by decide) hk1 hFc hP1 hD1
    have hw152 := hw
    clear hPc hDc hFc hz1 hk1 hP1 hK1 hD1
    generalize H1 = H at hP hS ⊢
    have hP : va_P (dC, dI) vcl [(mo, .inr (12, mdG r cd tm (nI sn) (nI tx) (nI lz) (nI az) (nI na) (nI nt) (nI nr) mw ml mk dq)), (r 7, .inl ((cT 0), 1000, .inl f7))] H := hP
    have hD : va_D A [(mo, .inr (12, mdG r cd tm (nI sn) (nI tx) (nI lz) (nI az) (nI na) (nI nt) (nI nr) mw ml mk dq)), (r 7, .inl ((cT 0), 1000, .inl f7))] := hD
    rcases hw152 with ⟨h8z, h2⟩ | ⟨h8z, h2a, h2b⟩
    · skip
      refine lv_topi (fun x154 e153 => ?_)
      obtain rfl : x154 = 0 := by rw [e153]; exact h8z
      refine lv_if_eq (tgt := 19) hx hb d_Md_draft_12 (by decide) (fun hc155 => ?_) (fun hn9 => absurd (by decide) hn9)
      refine lv_iconst (v := 0) hx hb d_Md_draft_19 (by decide) ?_
      have hPc := hP.sub (ws' := [(mo, .inr (12, mdG r cd tm (nI sn) (nI tx) (nI lz) (nI az) (nI na) (nI nt) (nI nr) mw ml mk dq))]) [0] rfl
      have hDc := hD.sub (ws' := [(mo, .inr (12, mdG r cd tm (nI sn) (nI tx) (nI lz) (nI az) (nI na) (nI nt) (nI nr) mw ml mk dq))]) [0] (by decide) rfl
      have hFc := va_free (wc := [(mo, .inr (12, mdG r cd tm (nI sn) (nI tx) (nI lz) (nI az) (nI na) (nI nt) (nI nr) mw ml mk dq))]) hD hS hA [0] rfl
      refine va_calli (va_runV (C := "DoorServerModel") (As := [.int 0]) (rest := []) ⟨hx, hb, hml, hown, hg⟩ (m_goes0 l dC dI cT H.size mo r cd tm sn tx lz az na nt nr mw ml mk dq ) (cwV 1 hg (gI (List.forall_mem_append.mpr ⟨List.forall_mem_cons.mpr ⟨k_1165, List.forall_mem_cons.mpr ⟨k_1167, List.forall_mem_cons.mpr ⟨(big_sel (q := y_Md_goes) (n := 45) (by decide +kernel)), List.forall_mem_cons.mpr ⟨k_13, fun _ h => absurd h List.not_mem_nil⟩⟩⟩⟩, List.forall_mem_cons.mpr ⟨k_1168, fun _ h => h⟩⟩)) rfl rfl rfl (by decide +kernel) ⟨Nat.le_of_ble_eq_true rfl, Nat.le_of_ble_eq_true rfl⟩) ⟨fun a U g mk q => by obtain ⟨q0, q1, qP, qK, qD⟩ := q; exact ⟨q0, q1, qP, va_K.moved (u := U) (U := U.calling g mk a) (Vm.Alike.refl U.vm) qK, qD⟩, va_recv (q0 := 0) (ci := 12) hK hP rfl rfl, fun U hU hW => ⟨rfl, by rw [hU], by rw [hU]; exact hPc, va_K.moved hW.alike hK, hDc.weaken (fun _ _ _ _ => trivial)⟩⟩ rfl rfl hl.1 rfl (lv_room (Nat.le_of_ble_eq_true rfl)) d_Md_draft_20 ⟨Nat.le_of_ble_eq_true rfl, Nat.le_of_ble_eq_true rfl⟩) hS (fun q _ h => hFc q h) hFc (fun rv9 u t H1 locs ht hvm hw hB hz1 hk1 hS => ?_)
      try dsimp only at hw hB
      obtain ⟨hP1, hK1, hD1⟩ := hB
      rw [ht] at hP1
      obtain ⟨rfl, hw⟩ := hw
      obtain ⟨hP, hD⟩ := va_join (wr := [(r 7, .inl ((cT 0), 1000, .inl f7))]) (w1 := [(mo, .inr (12, mdG r 1 tm (nI sn) (nI tx) (nI lz) (nI az) (nI na) (nI nt) (nI nr) mw ml mk dq))]) hP hD [0] [1] rfl rfl (by decide) (by decide) hk1 hFc hP1 hD1
      have hw156 := hw
      clear hPc hDc hFc hz1 hk1 hP1 hK1 hD1
      generalize H1 = H at hP hS ⊢
      have hP : va_P (dC, dI) vcl [(r 7, .inl ((cT 0), 1000, .inl f7)), (mo, .inr (12, mdG r 1 tm (nI sn) (nI tx) (nI lz) (nI az) (nI na) (nI nt) (nI nr) mw ml mk dq))] H := hP
      have hD : va_D A [(r 7, .inl ((cT 0), 1000, .inl f7)), (mo, .inr (12, mdG r 1 tm (nI sn) (nI tx) (nI lz) (nI az) (nI na) (nI nt) (nI nr) mw ml mk dq))] := hD
      refine lv_if_eq (tgt := 33) hx hb d_Md_draft_23 (by decide) (fun hc157 => ?_) (fun hn9 => absurd (by decide) hn9)
      have hP9 := hP.sub (ws' := [(mo, .inr (12, mdG r 1 tm (nI sn) (nI tx) (nI lz) (nI az) (nI na) (nI nt) (nI nr) mw ml mk dq)), (r 7, .inl ((cT 0), 1000, .inl f7))]) [1, 0] rfl
      have hD9 := hD.sub (ws' := [(mo, .inr (12, mdG r 1 tm (nI sn) (nI tx) (nI lz) (nI az) (nI na) (nI nt) (nI nr) mw ml mk dq)), (r 7, .inl ((cT 0), 1000, .inl f7))]) [1, 0] (by decide) rfl
      exact W.vret hx hb hr (fun t ht hW => ⟨⟨⟨f7, 1, sn⟩, rfl, ⟨Or.inr ⟨rfl, fun h9 => h2.elim h9.2.2.1 h9.2.2.2⟩, by omega, by omega, by assumption⟩, by rw [ht]; exact hP9, va_K.moved hW.alike hK, hD9⟩, hS.F ht⟩) hS.2.2 d_Md_draft_33
    · skip
      refine lv_topi (fun x159 e158 => ?_)
      obtain rfl : x159 = 1 := by rw [e158]; exact h8z
      refine lv_if_eq (tgt := 19) hx hb d_Md_draft_12 (by decide) (fun hn9 => absurd hn9 (by decide)) (fun hc160 => ?_)
      refine lv_iconst (v := 1) hx hb d_Md_draft_15 (by decide) ?_
      refine lv_goto (tgt := 20) hx hb d_Md_draft_16 (by decide) ?_
      have hPc := hP.sub (ws' := [(mo, .inr (12, mdG r cd tm (nI sn) (nI tx) (nI lz) (nI az) (nI na) (nI nt) (nI nr) mw ml mk dq))]) [0] rfl
      have hDc := hD.sub (ws' := [(mo, .inr (12, mdG r cd tm (nI sn) (nI tx) (nI lz) (nI az) (nI na) (nI nt) (nI nr) mw ml mk dq))]) [0] (by decide) rfl
      have hFc := va_free (wc := [(mo, .inr (12, mdG r cd tm (nI sn) (nI tx) (nI lz) (nI az) (nI na) (nI nt) (nI nr) mw ml mk dq))]) hD hS hA [0] rfl
      refine va_calli (va_runV (C := "DoorServerModel") (As := [.int 1]) (rest := []) ⟨hx, hb, hml, hown, hg⟩ (m_goes1 l dC dI cT H.size mo r cd tm sn tx lz az na nt nr mw ml mk dq ) (cwV 1 hg (gI (List.forall_mem_append.mpr ⟨List.forall_mem_cons.mpr ⟨k_1165, List.forall_mem_cons.mpr ⟨k_1167, List.forall_mem_cons.mpr ⟨(big_sel (q := y_Md_goes) (n := 45) (by decide +kernel)), List.forall_mem_cons.mpr ⟨k_13, fun _ h => absurd h List.not_mem_nil⟩⟩⟩⟩, List.forall_mem_cons.mpr ⟨k_1168, fun _ h => h⟩⟩)) rfl rfl rfl (by decide +kernel) ⟨Nat.le_of_ble_eq_true rfl, Nat.le_of_ble_eq_true rfl⟩) ⟨fun a U g mk q => by obtain ⟨q0, q1, qP, qK, qD⟩ := q; exact ⟨q0, q1, qP, va_K.moved (u := U) (U := U.calling g mk a) (Vm.Alike.refl U.vm) qK, qD⟩, va_recv (q0 := 0) (ci := 12) hK hP rfl rfl, fun U hU hW => ⟨rfl, by rw [hU], by rw [hU]; exact hPc, va_K.moved hW.alike hK, hDc.weaken (fun _ _ _ _ => trivial)⟩⟩ rfl rfl hl.1 rfl (lv_room (Nat.le_of_ble_eq_true rfl)) d_Md_draft_20 ⟨Nat.le_of_ble_eq_true rfl, Nat.le_of_ble_eq_true rfl⟩) hS (fun q _ h => hFc q h) hFc (fun rv9 u t H1 locs ht hvm hw hB hz1 hk1 hS => ?_)
      try dsimp only at hw hB
      obtain ⟨hP1, hK1, hD1⟩ := hB
      rw [ht] at hP1
      obtain ⟨rfl, hw⟩ := hw
      obtain ⟨hP, hD⟩ := va_join (wr := [(r 7, .inl ((cT 0), 1000, .inl f7))]) (w1 := [(mo, .inr (12, mdG r 0 tm (nI sn) (nI tx) (nI lz) (nI az) (nI na) (nI nt) (nI nr) mw ml mk dq))]) hP hD [0] [1] rfl rfl (by decide) (by decide) hk1 hFc hP1 hD1
      have hw161 := hw
      clear hPc hDc hFc hz1 hk1 hP1 hK1 hD1
      generalize H1 = H at hP hS ⊢
      have hP : va_P (dC, dI) vcl [(r 7, .inl ((cT 0), 1000, .inl f7)), (mo, .inr (12, mdG r 0 tm (nI sn) (nI tx) (nI lz) (nI az) (nI na) (nI nt) (nI nr) mw ml mk dq))] H := hP
      have hD : va_D A [(r 7, .inl ((cT 0), 1000, .inl f7)), (mo, .inr (12, mdG r 0 tm (nI sn) (nI tx) (nI lz) (nI az) (nI na) (nI nt) (nI nr) mw ml mk dq))] := hD
      refine lv_if_eq (tgt := 33) hx hb d_Md_draft_23 (by decide) (fun hn9 => absurd hn9 (by decide)) (fun hc162 => ?_)
      refine lv_aload_n hx hb d_Md_draft_26 rfl (lv_at hl 0 rfl) ?_
      refine lv_iload_n hx hb d_Md_draft_27 rfl (lv_at hl 1 rfl) ?_
      refine lv_iload_n hx hb d_Md_draft_28 rfl (lv_at hl 2 rfl) ?_
      refine lv_lload_n hx hb d_Md_draft_29 rfl (lv_at hl 3 rfl) ?_
      have hPc := hP.sub (ws' := [(mo, .inr (12, mdG r 0 tm (nI sn) (nI tx) (nI lz) (nI az) (nI na) (nI nt) (nI nr) mw ml mk dq)), (r 7, .inl ((cT 0), 1000, .inl f7))]) [1, 0] rfl
      have hDc := hD.sub (ws' := [(mo, .inr (12, mdG r 0 tm (nI sn) (nI tx) (nI lz) (nI az) (nI na) (nI nt) (nI nr) mw ml mk dq)), (r 7, .inl ((cT 0), 1000, .inl f7))]) [1, 0] (by decide) rfl
      have hFc := va_free (wc := [(mo, .inr (12, mdG r 0 tm (nI sn) (nI tx) (nI lz) (nI az) (nI na) (nI nt) (nI nr) mw ml mk dq)), (r 7, .inl ((cT 0), 1000, .inl f7))]) hD hS hA [1, 0] rfl
      refine va_callv (va_runV (C := "DoorServerModel") (As := [.int x, .int y, .long v]) (rest := []) ⟨hx, hb, hml, hown, hg⟩ (m_begin l dC dI cT H.size mo r 0 tm sn tx lz az na nt nr mw ml mk dq f7 x y v (by first | assumption | omega)) (cwV 3 hg (gI (List.forall_mem_append.mpr ⟨List.forall_mem_cons.mpr ⟨k_1011, List.forall_mem_cons.mpr ⟨k_1013, List.forall_mem_cons.mpr ⟨(big_sel (q := y_Md_begin) (n := 45) (by decide +kernel)), List.forall_mem_cons.mpr ⟨k_13, fun _ h => absurd h List.not_mem_nil⟩⟩⟩⟩, List.forall_mem_cons.mpr ⟨k_1014, fun _ h => h⟩⟩)) rfl rfl rfl (by decide +kernel) ⟨Nat.le_of_ble_eq_true rfl, Nat.le_of_ble_eq_true rfl⟩) ⟨fun a U g mk q => by obtain ⟨q0, q1, qP, qK, qD⟩ := q; exact ⟨q0, q1, qP, va_K.moved (u := U) (U := U.calling g mk a) (Vm.Alike.refl U.vm) qK, qD⟩, va_recv (q0 := 1) (ci := 12) hK hP rfl rfl, fun U hU hW => ⟨rfl, by rw [hU], by rw [hU]; exact hPc, va_K.moved hW.alike hK, hDc.weaken (fun _ _ _ _ => trivial)⟩⟩ rfl rfl hl.1 rfl (lv_room (Nat.le_of_ble_eq_true rfl)) d_Md_draft_30 ⟨Nat.le_of_ble_eq_true rfl, Nat.le_of_ble_eq_true rfl⟩) hS (fun q _ h => hFc q h) hFc (fun u t H1 locs ht hvm hw hB hz1 hk1 hS => ?_)
      obtain ⟨g7_163, rfl⟩ : ∃ z, z = u := ⟨_, rfl⟩
      try dsimp only at hw hB
      obtain ⟨hP1, hK1, hD1⟩ := hB
      rw [ht] at hP1
      obtain ⟨hP, hD⟩ := va_join (wr := []) (w1 := [(mo, .inr (12, mdG r 0 tm (nI 20) (nI tx) (nI lz) (nI az) (nI na) (nI nt) (nI nr) mw ml mk dq)), (r 7, .inl ((cT 0), 1000, .inl g7_163))]) hP hD [1, 0] [] rfl rfl (by decide) (by decide) hk1 hFc hP1 hD1
      have hw164 := hw
      clear hPc hDc hFc hz1 hk1 hP1 hK1 hD1
      generalize H1 = H at hP hS ⊢
      have hP : va_P (dC, dI) vcl [(mo, .inr (12, mdG r 0 tm (nI 20) (nI tx) (nI lz) (nI az) (nI na) (nI nt) (nI nr) mw ml mk dq)), (r 7, .inl ((cT 0), 1000, .inl g7_163))] H := hP
      have hD : va_D A [(mo, .inr (12, mdG r 0 tm (nI 20) (nI tx) (nI lz) (nI az) (nI na) (nI nt) (nI nr) mw ml mk dq)), (r 7, .inl ((cT 0), 1000, .inl g7_163))] := hD
      have k165 := hw164
      have hP9 := hP.sub (ws' := [(mo, .inr (12, mdG r 0 tm (nI 20) (nI tx) (nI lz) (nI az) (nI na) (nI nt) (nI nr) mw ml mk dq)), (r 7, .inl ((cT 0), 1000, .inl g7_163))]) [0, 1] rfl
      have hD9 := hD.sub (ws' := [(mo, .inr (12, mdG r 0 tm (nI 20) (nI tx) (nI lz) (nI az) (nI na) (nI nt) (nI nr) mw ml mk dq)), (r 7, .inl ((cT 0), 1000, .inl g7_163))]) [0, 1] (by decide) rfl
      exact W.vret hx hb hr (fun t ht hW => ⟨⟨⟨g7_163, 0, 20⟩, rfl, ⟨Or.inl ⟨rfl, h1a, h1b, h2a, h2b⟩, by omega, by omega, by assumption⟩, by rw [ht]; exact hP9, va_K.moved hW.alike hK, hD9⟩, hS.F ht⟩) hS.2.2 d_Md_draft_33
set_option maxHeartbeats 4000000 in
set_option maxRecDepth 100000 in
/-- seal -/
theorem u_seal (l : Launch) (dC : Nat → ClassId) (dI : Nat → Nat → Nat) (cT : Nat → ClassId) (sz : Nat) (mo : Nat) (r : Nat → Nat) (cd : Int32) (tm : Int32) (sn : Nat) (tx : Nat) (lz : Nat) (az : Nat) (na : Nat) (nt : Nat) (nr : Nat) (mw : Int32) (ml : Int32) (mk : Int64) (dq : Int64) (f7 : Nat → Int32) (f9 : Nat → Int32) (f3 : Nat → Int32) (f4 : Nat → Int32) (f0 : Nat → Int64) (f11 : Nat → Int32) (x : Int32) (h20 : 20 ≤ sn) (hsn : sn ≤ 1000) (h7 : AB f7) (h4 : BD 40 4 f4) (h11 : AB f11) : Met l y_Md_seal (Cond.code y_Md_seal b_Md_seal 3 (Option.none : Option Jvm.ClassFile.FieldType) :: BIG) ({ frames := 3, cells := 0, slots := 0, locals := 92 }) (va_Pc [.ref mo, .int x] (fun U => U.heap.size = sz ∧ va_P (dC, dI) vcl [(mo, .inr (12, mdG r cd tm (nI sn) (nI 0) (nI lz) (nI az) (nI na) (nI nt) (nI nr) mw ml mk dq)), (r 7, .inl ((cT 0), 1000, .inl f7)), (r 9, .inl ((cT 0), 1400, .inl f9)), (r 3, .inl ((cT 0), 160, .inl f3)), (r 4, .inl ((cT 0), 4, .inl f4)), (r 0, .inl ((cT 1), 64, .inr (.inl f0))), (r 11, .inl ((cT 0), 16, .inl f11))] U.heap ∧ va_K (dC, dI) vcl (tyL cT) U ∧ va_D (fun _ => True) [(mo, .inr (12, mdG r cd tm (nI sn) (nI 0) (nI lz) (nI az) (nI na) (nI nt) (nI nr) mw ml mk dq)), (r 7, .inl ((cT 0), 1000, .inl f7)), (r 9, .inl ((cT 0), 1400, .inl f9)), (r 3, .inl ((cT 0), 160, .inl f3)), (r 4, .inl ((cT 0), 4, .inl f4)), (r 0, .inl ((cT 1), 64, .inr (.inl f0))), (r 11, .inl ((cT 0), 16, .inl f11))])) (va_Qv (S := (Nat → Int32) × (Nat → Int32) × (Nat → Int32) × Int32) (fun u => match u with | (g7, g9, g11, cd2) => ((cd2 = 0 ∧ OKL_ x) ∨ (cd2 = 1 ∧ ¬ OKL_ x)) ∧ (AB g7) ∧ (AB g11)) (fun u t => match u with | (g7, g9, g11, cd2) => va_P (dC, dI) vcl [(mo, .inr (12, mdG r cd2 tm (nI sn) (nI 0) (nI lz) (nI az) (nI na) (nI nt) (nI nr) mw ml mk dq)), (r 7, .inl ((cT 0), 1000, .inl g7)), (r 9, .inl ((cT 0), 1400, .inl g9)), (r 3, .inl ((cT 0), 160, .inl f3)), (r 4, .inl ((cT 0), 4, .inl f4)), (r 0, .inl ((cT 1), 64, .inr (.inl f0))), (r 11, .inl ((cT 0), 16, .inl g11))] t.heap ∧ va_K (dC, dI) vcl (tyL cT) t ∧ va_D (va_A [(mo, .inr (12, mdG r cd tm (nI sn) (nI 0) (nI lz) (nI az) (nI na) (nI nt) (nI nr) mw ml mk dq)), (r 7, .inl ((cT 0), 1000, .inl f7)), (r 9, .inl ((cT 0), 1400, .inl f9)), (r 3, .inl ((cT 0), 160, .inl f3)), (r 4, .inl ((cT 0), 4, .inl f4)), (r 0, .inl ((cT 1), 64, .inr (.inl f0))), (r 11, .inl ((cT 0), 16, .inl f11))] sz) [(mo, .inr (12, mdG r cd2 tm (nI sn) (nI 0) (nI lz) (nI az) (nI na) (nI nt) (nI nr) mw ml mk dq)), (r 7, .inl ((cT 0), 1000, .inl g7)), (r 9, .inl ((cT 0), 1400, .inl g9)), (r 3, .inl ((cT 0), 160, .inl f3)), (r 4, .inl ((cT 0), 4, .inl f4)), (r 0, .inl ((cT 1), 64, .inr (.inl f0))), (r 11, .inl ((cT 0), 16, .inl g11))]) (va_A [(mo, .inr (12, mdG r cd tm (nI sn) (nI 0) (nI lz) (nI az) (nI na) (nI nt) (nI nr) mw ml mk dq)), (r 7, .inl ((cT 0), 1000, .inl f7)), (r 9, .inl ((cT 0), 1400, .inl f9)), (r 3, .inl ((cT 0), 160, .inl f3)), (r 4, .inl ((cT 0), 4, .inl f4)), (r 0, .inl ((cT 1), 64, .inr (.inl f0))), (r 11, .inl ((cT 0), 16, .inl f11))] sz)) 0 0 (va_A [(mo, .inr (12, mdG r cd tm (nI sn) (nI 0) (nI lz) (nI az) (nI na) (nI nt) (nI nr) mw ml mk dq)), (r 7, .inl ((cT 0), 1000, .inl f7)), (r 9, .inl ((cT 0), 1400, .inl f9)), (r 3, .inl ((cT 0), 160, .inl f3)), (r 4, .inl ((cT 0), 4, .inl f4)), (r 0, .inl ((cT 1), 64, .inr (.inl f0))), (r 11, .inl ((cT 0), 16, .inl f11))] sz) := by
  refine Met.ofW (cc := b_Md_seal) (maxL := 3) (ret := (Option.none : Option Jvm.ClassFile.FieldType)) (by decide) rfl ?_
  intro p e s m args below meth c s₁ B hml hv
  obtain ⟨hargs, hsz, hP, hK, hD0⟩ := hv
  have hx := B.exec
  have hb := B.bytes
  have hr := B.returns
  have hts := atoms_spec (ws := (Cond.code y_Md_seal b_Md_seal 3 (Option.none : Option Jvm.ClassFile.FieldType) :: BIG)) B.pre
  have hg : ∀ w ∈ BIG, w.before _ s = true := fun w h => hts w (List.mem_cons_of_mem _ h)
  have hown : s.vm.findClass "DoorServerModel" = some m.cls := findClass_of_methodNamed B.named
  have hlocks := B.notSynchronized
  subst hsz
  have hD := hD0.self (sz := s.heap.size)
  generalize hAe : va_A [(mo, .inr (12, mdG r cd tm (nI sn) (nI 0) (nI lz) (nI az) (nI na) (nI nt) (nI nr) mw ml mk dq)), (r 7, .inl ((cT 0), 1000, .inl f7)), (r 9, .inl ((cT 0), 1400, .inl f9)), (r 3, .inl ((cT 0), 160, .inl f3)), (r 4, .inl ((cT 0), 4, .inl f4)), (r 0, .inl ((cT 1), 64, .inr (.inl f0))), (r 11, .inl ((cT 0), 16, .inl f11))] s.heap.size = A at hD ⊢
  have hA : ∀ q : Nat, s.heap.size ≤ q → A q := fun q h => by rw [← hAe]; exact Or.inr h
  have hS : va_S A s.heap s.heap [] := va_S.rf
  have hl := lv_entry ([.ref mo, .int x]) (n := 3) (Nat.le_of_ble_eq_true rfl)
  refine W.eq (g2 := entryFrame m (List.toArray [.ref mo, .int x]) 3) (by rw [hargs]) ?_
  rw [lg_entry_eq]
  generalize (lg_sl ([.ref mo, .int x]) ++ List.replicate (3 - (lg_sl ([.ref mo, .int x])).length) Slot.unset).toArray = ls at hl ⊢
  have hl : lv_has ls 3 [(0, .ref mo), (1, .int x)] := hl
  change W p l e ({ frames := 3, cells := 0, slots := 0, locals := 92 } : Room) s m args below meth c s.heap [] 0 0 _ _
  have hP : va_P (dC, dI) vcl [(mo, .inr (12, mdG r cd tm (nI sn) (nI 0) (nI lz) (nI az) (nI na) (nI nt) (nI nr) mw ml mk dq)), (r 7, .inl ((cT 0), 1000, .inl f7)), (r 9, .inl ((cT 0), 1400, .inl f9)), (r 3, .inl ((cT 0), 160, .inl f3)), (r 4, .inl ((cT 0), 4, .inl f4)), (r 0, .inl ((cT 1), 64, .inr (.inl f0))), (r 11, .inl ((cT 0), 16, .inl f11))] s.heap := hP
  rcases pk_ix x (n := 4) (by decide) with h8x | h8x | ⟨xn, hxn, rfl⟩
  · skip
    refine lv_aload_n hx hb d_Md_seal_0 rfl (lv_at hl 0 rfl) ?_
    refine lv_iload_n hx hb d_Md_seal_1 rfl (lv_at hl 1 rfl) ?_
    refine lv_if_lt (tgt := 14) hx hb d_Md_seal_2 (by decide) (fun hc166 => ?_) (fun hn9 => absurd (h8x) hn9)
    refine lv_iconst (v := 0) hx hb d_Md_seal_14 (by decide) ?_
    have hPc := hP.sub (ws' := [(mo, .inr (12, mdG r cd tm (nI sn) (nI 0) (nI lz) (nI az) (nI na) (nI nt) (nI nr) mw ml mk dq))]) [0] rfl
    have hDc := hD.sub (ws' := [(mo, .inr (12, mdG r cd tm (nI sn) (nI 0) (nI lz) (nI az) (nI na) (nI nt) (nI nr) mw ml mk dq))]) [0] (by decide) rfl
    have hFc := va_free (wc := [(mo, .inr (12, mdG r cd tm (nI sn) (nI 0) (nI lz) (nI az) (nI na) (nI nt) (nI nr) mw ml mk dq))]) hD hS hA [0] rfl
    refine va_calli (va_runV (C := "DoorServerModel") (As := [.int 0]) (rest := []) ⟨hx, hb, hml, hown, hg⟩ (m_goes0 l dC dI cT s.heap.size mo r cd tm sn 0 lz az na nt nr mw ml mk dq ) (cwV 1 hg (gI (List.forall_mem_append.mpr ⟨List.forall_mem_cons.mpr ⟨k_1165, List.forall_mem_cons.mpr ⟨k_1167, List.forall_mem_cons.mpr ⟨(big_sel (q := y_Md_goes) (n := 45) (by decide +kernel)), List.forall_mem_cons.mpr ⟨k_13, fun _ h => absurd h List.not_mem_nil⟩⟩⟩⟩, List.forall_mem_cons.mpr ⟨k_1168, fun _ h => h⟩⟩)) rfl rfl rfl (by decide +kernel) ⟨Nat.le_of_ble_eq_true rfl, Nat.le_of_ble_eq_true rfl⟩) ⟨fun a U g mk q => by obtain ⟨q0, q1, qP, qK, qD⟩ := q; exact ⟨q0, q1, qP, va_K.moved (u := U) (U := U.calling g mk a) (Vm.Alike.refl U.vm) qK, qD⟩, va_recv (q0 := 0) (ci := 12) hK hP rfl rfl, fun U hU hW => ⟨rfl, by rw [hU], by rw [hU]; exact hPc, va_K.moved hW.alike hK, hDc.weaken (fun _ _ _ _ => trivial)⟩⟩ rfl rfl hl.1 rfl (lv_room (Nat.le_of_ble_eq_true rfl)) d_Md_seal_15 ⟨Nat.le_of_ble_eq_true rfl, Nat.le_of_ble_eq_true rfl⟩) hS (fun q _ h => hFc q h) hFc (fun rv9 u t H1 locs ht hvm hw hB hz1 hk1 hS => ?_)
    try dsimp only at hw hB
    obtain ⟨hP1, hK1, hD1⟩ := hB
    rw [ht] at hP1
    obtain ⟨rfl, hw⟩ := hw
    obtain ⟨hP, hD⟩ := va_join (wr := [(r 7, .inl ((cT 0), 1000, .inl f7)), (r 9, .inl ((cT 0), 1400, .inl f9)), (r 3, .inl ((cT 0), 160, .inl f3)), (r 4, .inl ((cT 0), 4, .inl f4)), (r 0, .inl ((cT 1), 64, .inr (.inl f0))), (r 11, .inl ((cT 0), 16, .inl f11))]) (w1 := [(mo, .inr (12, mdG r 1 tm (nI sn) (nI 0) (nI lz) (nI az) (nI na) (nI nt) (nI nr) mw ml mk dq))]) hP hD [0] [1, 2, 3, 4, 5, 6] rfl rfl (by decide) (by decide) hk1 hFc hP1 hD1
    have hw167 := hw
    clear hPc hDc hFc hz1 hk1 hP1 hK1 hD1
    generalize H1 = H at hP hS ⊢
    have hP : va_P (dC, dI) vcl [(r 7, .inl ((cT 0), 1000, .inl f7)), (r 9, .inl ((cT 0), 1400, .inl f9)), (r 3, .inl ((cT 0), 160, .inl f3)), (r 4, .inl ((cT 0), 4, .inl f4)), (r 0, .inl ((cT 1), 64, .inr (.inl f0))), (r 11, .inl ((cT 0), 16, .inl f11)), (mo, .inr (12, mdG r 1 tm (nI sn) (nI 0) (nI lz) (nI az) (nI na) (nI nt) (nI nr) mw ml mk dq))] H := hP
    have hD : va_D A [(r 7, .inl ((cT 0), 1000, .inl f7)), (r 9, .inl ((cT 0), 1400, .inl f9)), (r 3, .inl ((cT 0), 160, .inl f3)), (r 4, .inl ((cT 0), 4, .inl f4)), (r 0, .inl ((cT 1), 64, .inr (.inl f0))), (r 11, .inl ((cT 0), 16, .inl f11)), (mo, .inr (12, mdG r 1 tm (nI sn) (nI 0) (nI lz) (nI az) (nI na) (nI nt) (nI nr) mw ml mk dq))] := hD
    refine lv_if_eq (tgt := 58) hx hb d_Md_seal_18 (by decide) (fun hc168 => ?_) (fun hn9 => absurd (by decide) hn9)
    have hP9 := hP.sub (ws' := [(mo, .inr (12, mdG r 1 tm (nI sn) (nI 0) (nI lz) (nI az) (nI na) (nI nt) (nI nr) mw ml mk dq)), (r 7, .inl ((cT 0), 1000, .inl f7)), (r 9, .inl ((cT 0), 1400, .inl f9)), (r 3, .inl ((cT 0), 160, .inl f3)), (r 4, .inl ((cT 0), 4, .inl f4)), (r 0, .inl ((cT 1), 64, .inr (.inl f0))), (r 11, .inl ((cT 0), 16, .inl f11))]) [6, 0, 1, 2, 3, 4, 5] rfl
    have hD9 := hD.sub (ws' := [(mo, .inr (12, mdG r 1 tm (nI sn) (nI 0) (nI lz) (nI az) (nI na) (nI nt) (nI nr) mw ml mk dq)), (r 7, .inl ((cT 0), 1000, .inl f7)), (r 9, .inl ((cT 0), 1400, .inl f9)), (r 3, .inl ((cT 0), 160, .inl f3)), (r 4, .inl ((cT 0), 4, .inl f4)), (r 0, .inl ((cT 1), 64, .inr (.inl f0))), (r 11, .inl ((cT 0), 16, .inl f11))]) [6, 0, 1, 2, 3, 4, 5] (by decide) rfl
    exact W.vret hx hb hr (fun t ht hW => ⟨⟨⟨f7, f9, f11, 1⟩, rfl, ⟨Or.inr ⟨rfl, fun h9 => h9.1 h8x⟩, by assumption, by assumption⟩, by rw [ht]; exact hP9, va_K.moved hW.alike hK, hD9⟩, hS.F ht⟩) hS.2.2 d_Md_seal_58
  · skip
    refine lv_aload_n hx hb d_Md_seal_0 rfl (lv_at hl 0 rfl) ?_
    refine lv_iload_n hx hb d_Md_seal_1 rfl (lv_at hl 1 rfl) ?_
    refine lv_if_lt (tgt := 14) hx hb d_Md_seal_2 (by decide) (fun hc169 => ?_) (fun hc169 => ?_)
    · skip
      refine lv_iconst (v := 0) hx hb d_Md_seal_14 (by decide) ?_
      have hPc := hP.sub (ws' := [(mo, .inr (12, mdG r cd tm (nI sn) (nI 0) (nI lz) (nI az) (nI na) (nI nt) (nI nr) mw ml mk dq))]) [0] rfl
      have hDc := hD.sub (ws' := [(mo, .inr (12, mdG r cd tm (nI sn) (nI 0) (nI lz) (nI az) (nI na) (nI nt) (nI nr) mw ml mk dq))]) [0] (by decide) rfl
      have hFc := va_free (wc := [(mo, .inr (12, mdG r cd tm (nI sn) (nI 0) (nI lz) (nI az) (nI na) (nI nt) (nI nr) mw ml mk dq))]) hD hS hA [0] rfl
      refine va_calli (va_runV (C := "DoorServerModel") (As := [.int 0]) (rest := []) ⟨hx, hb, hml, hown, hg⟩ (m_goes0 l dC dI cT s.heap.size mo r cd tm sn 0 lz az na nt nr mw ml mk dq ) (cwV 1 hg (gI (List.forall_mem_append.mpr ⟨List.forall_mem_cons.mpr ⟨k_1165, List.forall_mem_cons.mpr ⟨k_1167, List.forall_mem_cons.mpr ⟨(big_sel (q := y_Md_goes) (n := 45) (by decide +kernel)), List.forall_mem_cons.mpr ⟨k_13, fun _ h => absurd h List.not_mem_nil⟩⟩⟩⟩, List.forall_mem_cons.mpr ⟨k_1168, fun _ h => h⟩⟩)) rfl rfl rfl (by decide +kernel) ⟨Nat.le_of_ble_eq_true rfl, Nat.le_of_ble_eq_true rfl⟩) ⟨fun a U g mk q => by obtain ⟨q0, q1, qP, qK, qD⟩ := q; exact ⟨q0, q1, qP, va_K.moved (u := U) (U := U.calling g mk a) (Vm.Alike.refl U.vm) qK, qD⟩, va_recv (q0 := 0) (ci := 12) hK hP rfl rfl, fun U hU hW => ⟨rfl, by rw [hU], by rw [hU]; exact hPc, va_K.moved hW.alike hK, hDc.weaken (fun _ _ _ _ => trivial)⟩⟩ rfl rfl hl.1 rfl (lv_room (Nat.le_of_ble_eq_true rfl)) d_Md_seal_15 ⟨Nat.le_of_ble_eq_true rfl, Nat.le_of_ble_eq_true rfl⟩) hS (fun q _ h => hFc q h) hFc (fun rv9 u t H1 locs ht hvm hw hB hz1 hk1 hS => ?_)
      try dsimp only at hw hB
      obtain ⟨hP1, hK1, hD1⟩ := hB
      rw [ht] at hP1
      obtain ⟨rfl, hw⟩ := hw
      obtain ⟨hP, hD⟩ := va_join (wr := [(r 7, .inl ((cT 0), 1000, .inl f7)), (r 9, .inl ((cT 0), 1400, .inl f9)), (r 3, .inl ((cT 0), 160, .inl f3)), (r 4, .inl ((cT 0), 4, .inl f4)), (r 0, .inl ((cT 1), 64, .inr (.inl f0))), (r 11, .inl ((cT 0), 16, .inl f11))]) (w1 := [(mo, .inr (12, mdG r 1 tm (nI sn) (nI 0) (nI lz) (nI az) (nI na) (nI nt) (nI nr) mw ml mk dq))]) hP hD [0] [1, 2, 3, 4, 5, 6] rfl rfl (by decide) (by decide) hk1 hFc hP1 hD1
      have hw170 := hw
      clear hPc hDc hFc hz1 hk1 hP1 hK1 hD1
      generalize H1 = H at hP hS ⊢
      have hP : va_P (dC, dI) vcl [(r 7, .inl ((cT 0), 1000, .inl f7)), (r 9, .inl ((cT 0), 1400, .inl f9)), (r 3, .inl ((cT 0), 160, .inl f3)), (r 4, .inl ((cT 0), 4, .inl f4)), (r 0, .inl ((cT 1), 64, .inr (.inl f0))), (r 11, .inl ((cT 0), 16, .inl f11)), (mo, .inr (12, mdG r 1 tm (nI sn) (nI 0) (nI lz) (nI az) (nI na) (nI nt) (nI nr) mw ml mk dq))] H := hP
      have hD : va_D A [(r 7, .inl ((cT 0), 1000, .inl f7)), (r 9, .inl ((cT 0), 1400, .inl f9)), (r 3, .inl ((cT 0), 160, .inl f3)), (r 4, .inl ((cT 0), 4, .inl f4)), (r 0, .inl ((cT 1), 64, .inr (.inl f0))), (r 11, .inl ((cT 0), 16, .inl f11)), (mo, .inr (12, mdG r 1 tm (nI sn) (nI 0) (nI lz) (nI az) (nI na) (nI nt) (nI nr) mw ml mk dq))] := hD
      refine lv_if_eq (tgt := 58) hx hb d_Md_seal_18 (by decide) (fun hc171 => ?_) (fun hn9 => absurd (by decide) hn9)
      have hP9 := hP.sub (ws' := [(mo, .inr (12, mdG r 1 tm (nI sn) (nI 0) (nI lz) (nI az) (nI na) (nI nt) (nI nr) mw ml mk dq)), (r 7, .inl ((cT 0), 1000, .inl f7)), (r 9, .inl ((cT 0), 1400, .inl f9)), (r 3, .inl ((cT 0), 160, .inl f3)), (r 4, .inl ((cT 0), 4, .inl f4)), (r 0, .inl ((cT 1), 64, .inr (.inl f0))), (r 11, .inl ((cT 0), 16, .inl f11))]) [6, 0, 1, 2, 3, 4, 5] rfl
      have hD9 := hD.sub (ws' := [(mo, .inr (12, mdG r 1 tm (nI sn) (nI 0) (nI lz) (nI az) (nI na) (nI nt) (nI nr) mw ml mk dq)), (r 7, .inl ((cT 0), 1000, .inl f7)), (r 9, .inl ((cT 0), 1400, .inl f9)), (r 3, .inl ((cT 0), 160, .inl f3)), (r 4, .inl ((cT 0), 4, .inl f4)), (r 0, .inl ((cT 1), 64, .inr (.inl f0))), (r 11, .inl ((cT 0), 16, .inl f11))]) [6, 0, 1, 2, 3, 4, 5] (by decide) rfl
      exact W.vret hx hb hr (fun t ht hW => ⟨⟨⟨f7, f9, f11, 1⟩, rfl, ⟨Or.inr ⟨rfl, fun h9 => h9.2 (nlt3 h8x)⟩, by assumption, by assumption⟩, by rw [ht]; exact hP9, va_K.moved hW.alike hK, hD9⟩, hS.F ht⟩) hS.2.2 d_Md_seal_58
    · skip
      refine lv_iload_n hx hb d_Md_seal_5 rfl (lv_at hl 1 rfl) ?_
      refine lv_iconst (v := 4) hx hb d_Md_seal_6 (by decide) ?_
      refine lv_icmp_ge (tgt := 14) hx hb d_Md_seal_7 (by decide) (fun hc172 => ?_) (fun hn9 => absurd (h8x) hn9)
      refine lv_iconst (v := 0) hx hb d_Md_seal_14 (by decide) ?_
      have hPc := hP.sub (ws' := [(mo, .inr (12, mdG r cd tm (nI sn) (nI 0) (nI lz) (nI az) (nI na) (nI nt) (nI nr) mw ml mk dq))]) [0] rfl
      have hDc := hD.sub (ws' := [(mo, .inr (12, mdG r cd tm (nI sn) (nI 0) (nI lz) (nI az) (nI na) (nI nt) (nI nr) mw ml mk dq))]) [0] (by decide) rfl
      have hFc := va_free (wc := [(mo, .inr (12, mdG r cd tm (nI sn) (nI 0) (nI lz) (nI az) (nI na) (nI nt) (nI nr) mw ml mk dq))]) hD hS hA [0] rfl
      refine va_calli (va_runV (C := "DoorServerModel") (As := [.int 0]) (rest := []) ⟨hx, hb, hml, hown, hg⟩ (m_goes0 l dC dI cT s.heap.size mo r cd tm sn 0 lz az na nt nr mw ml mk dq ) (cwV 1 hg (gI (List.forall_mem_append.mpr ⟨List.forall_mem_cons.mpr ⟨k_1165, List.forall_mem_cons.mpr ⟨k_1167, List.forall_mem_cons.mpr ⟨(big_sel (q := y_Md_goes) (n := 45) (by decide +kernel)), List.forall_mem_cons.mpr ⟨k_13, fun _ h => absurd h List.not_mem_nil⟩⟩⟩⟩, List.forall_mem_cons.mpr ⟨k_1168, fun _ h => h⟩⟩)) rfl rfl rfl (by decide +kernel) ⟨Nat.le_of_ble_eq_true rfl, Nat.le_of_ble_eq_true rfl⟩) ⟨fun a U g mk q => by obtain ⟨q0, q1, qP, qK, qD⟩ := q; exact ⟨q0, q1, qP, va_K.moved (u := U) (U := U.calling g mk a) (Vm.Alike.refl U.vm) qK, qD⟩, va_recv (q0 := 0) (ci := 12) hK hP rfl rfl, fun U hU hW => ⟨rfl, by rw [hU], by rw [hU]; exact hPc, va_K.moved hW.alike hK, hDc.weaken (fun _ _ _ _ => trivial)⟩⟩ rfl rfl hl.1 rfl (lv_room (Nat.le_of_ble_eq_true rfl)) d_Md_seal_15 ⟨Nat.le_of_ble_eq_true rfl, Nat.le_of_ble_eq_true rfl⟩) hS (fun q _ h => hFc q h) hFc (fun rv9 u t H1 locs ht hvm hw hB hz1 hk1 hS => ?_)
      try dsimp only at hw hB
      obtain ⟨hP1, hK1, hD1⟩ := hB
      rw [ht] at hP1
      obtain ⟨rfl, hw⟩ := hw
      obtain ⟨hP, hD⟩ := va_join (wr := [(r 7, .inl ((cT 0), 1000, .inl f7)), (r 9, .inl ((cT 0), 1400, .inl f9)), (r 3, .inl ((cT 0), 160, .inl f3)), (r 4, .inl ((cT 0), 4, .inl f4)), (r 0, .inl ((cT 1), 64, .inr (.inl f0))), (r 11, .inl ((cT 0), 16, .inl f11))]) (w1 := [(mo, .inr (12, mdG r 1 tm (nI sn) (nI 0) (nI lz) (nI az) (nI na) (nI nt) (nI nr) mw ml mk dq))]) hP hD [0] [1, 2, 3, 4, 5, 6] rfl rfl (by decide) (by decide) hk1 hFc hP1 hD1
      have hw173 := hw
      clear hPc hDc hFc hz1 hk1 hP1 hK1 hD1
      generalize H1 = H at hP hS ⊢
      have hP : va_P (dC, dI) vcl [(r 7, .inl ((cT 0), 1000, .inl f7)), (r 9, .inl ((cT 0), 1400, .inl f9)), (r 3, .inl ((cT 0), 160, .inl f3)), (r 4, .inl ((cT 0), 4, .inl f4)), (r 0, .inl ((cT 1), 64, .inr (.inl f0))), (r 11, .inl ((cT 0), 16, .inl f11)), (mo, .inr (12, mdG r 1 tm (nI sn) (nI 0) (nI lz) (nI az) (nI na) (nI nt) (nI nr) mw ml mk dq))] H := hP
      have hD : va_D A [(r 7, .inl ((cT 0), 1000, .inl f7)), (r 9, .inl ((cT 0), 1400, .inl f9)), (r 3, .inl ((cT 0), 160, .inl f3)), (r 4, .inl ((cT 0), 4, .inl f4)), (r 0, .inl ((cT 1), 64, .inr (.inl f0))), (r 11, .inl ((cT 0), 16, .inl f11)), (mo, .inr (12, mdG r 1 tm (nI sn) (nI 0) (nI lz) (nI az) (nI na) (nI nt) (nI nr) mw ml mk dq))] := hD
      refine lv_if_eq (tgt := 58) hx hb d_Md_seal_18 (by decide) (fun hc174 => ?_) (fun hn9 => absurd (by decide) hn9)
      have hP9 := hP.sub (ws' := [(mo, .inr (12, mdG r 1 tm (nI sn) (nI 0) (nI lz) (nI az) (nI na) (nI nt) (nI nr) mw ml mk dq)), (r 7, .inl ((cT 0), 1000, .inl f7)), (r 9, .inl ((cT 0), 1400, .inl f9)), (r 3, .inl ((cT 0), 160, .inl f3)), (r 4, .inl ((cT 0), 4, .inl f4)), (r 0, .inl ((cT 1), 64, .inr (.inl f0))), (r 11, .inl ((cT 0), 16, .inl f11))]) [6, 0, 1, 2, 3, 4, 5] rfl
      have hD9 := hD.sub (ws' := [(mo, .inr (12, mdG r 1 tm (nI sn) (nI 0) (nI lz) (nI az) (nI na) (nI nt) (nI nr) mw ml mk dq)), (r 7, .inl ((cT 0), 1000, .inl f7)), (r 9, .inl ((cT 0), 1400, .inl f9)), (r 3, .inl ((cT 0), 160, .inl f3)), (r 4, .inl ((cT 0), 4, .inl f4)), (r 0, .inl ((cT 1), 64, .inr (.inl f0))), (r 11, .inl ((cT 0), 16, .inl f11))]) [6, 0, 1, 2, 3, 4, 5] (by decide) rfl
      exact W.vret hx hb hr (fun t ht hW => ⟨⟨⟨f7, f9, f11, 1⟩, rfl, ⟨Or.inr ⟨rfl, fun h9 => h9.2 (nlt3 h8x)⟩, by assumption, by assumption⟩, by rw [ht]; exact hP9, va_K.moved hW.alike hK, hD9⟩, hS.F ht⟩) hS.2.2 d_Md_seal_58
  · skip
    obtain ⟨sl, hsl, hfz⟩ := h4 xn hxn
    refine lv_aload_n hx hb d_Md_seal_0 rfl (lv_at hl 0 rfl) ?_
    refine lv_iload_n hx hb d_Md_seal_1 rfl (lv_at hl 1 rfl) ?_
    refine lv_if_lt (tgt := 14) hx hb d_Md_seal_2 (by decide) (fun hn9 => absurd hn9 (nI_pos (by omega))) (fun hc175 => ?_)
    refine lv_iload_n hx hb d_Md_seal_5 rfl (lv_at hl 1 rfl) ?_
    refine lv_iconst (v := 4) hx hb d_Md_seal_6 (by decide) ?_
    refine lv_icmp_ge (tgt := 14) hx hb d_Md_seal_7 (by decide) (fun hc176 => ?_) (fun hc176 => ?_)
    · skip
      have n177 : 4 ≤ xn := (nI_leI (a := 4) (b := xn) (by omega) (by omega)).mp hc176
      refine lv_iconst (v := 0) hx hb d_Md_seal_14 (by decide) ?_
      have hPc := hP.sub (ws' := [(mo, .inr (12, mdG r cd tm (nI sn) (nI 0) (nI lz) (nI az) (nI na) (nI nt) (nI nr) mw ml mk dq))]) [0] rfl
      have hDc := hD.sub (ws' := [(mo, .inr (12, mdG r cd tm (nI sn) (nI 0) (nI lz) (nI az) (nI na) (nI nt) (nI nr) mw ml mk dq))]) [0] (by decide) rfl
      have hFc := va_free (wc := [(mo, .inr (12, mdG r cd tm (nI sn) (nI 0) (nI lz) (nI az) (nI na) (nI nt) (nI nr) mw ml mk dq))]) hD hS hA [0] rfl
      refine va_calli (va_runV (C := "DoorServerModel") (As := [.int 0]) (rest := []) ⟨hx, hb, hml, hown, hg⟩ (m_goes0 l dC dI cT s.heap.size mo r cd tm sn 0 lz az na nt nr mw ml mk dq ) (cwV 1 hg (gI (List.forall_mem_append.mpr ⟨List.forall_mem_cons.mpr ⟨k_1165, List.forall_mem_cons.mpr ⟨k_1167, List.forall_mem_cons.mpr ⟨(big_sel (q := y_Md_goes) (n := 45) (by decide +kernel)), List.forall_mem_cons.mpr ⟨k_13, fun _ h => absurd h List.not_mem_nil⟩⟩⟩⟩, List.forall_mem_cons.mpr ⟨k_1168, fun _ h => h⟩⟩)) rfl rfl rfl (by decide +kernel) ⟨Nat.le_of_ble_eq_true rfl, Nat.le_of_ble_eq_true rfl⟩) ⟨fun a U g mk q => by obtain ⟨q0, q1, qP, qK, qD⟩ := q; exact ⟨q0, q1, qP, va_K.moved (u := U) (U := U.calling g mk a) (Vm.Alike.refl U.vm) qK, qD⟩, va_recv (q0 := 0) (ci := 12) hK hP rfl rfl, fun U hU hW => ⟨rfl, by rw [hU], by rw [hU]; exact hPc, va_K.moved hW.alike hK, hDc.weaken (fun _ _ _ _ => trivial)⟩⟩ rfl rfl hl.1 rfl (lv_room (Nat.le_of_ble_eq_true rfl)) d_Md_seal_15 ⟨Nat.le_of_ble_eq_true rfl, Nat.le_of_ble_eq_true rfl⟩) hS (fun q _ h => hFc q h) hFc (fun rv9 u t H1 locs ht hvm hw hB hz1 hk1 hS => ?_)
      try dsimp only at hw hB
      obtain ⟨hP1, hK1, hD1⟩ := hB
      rw [ht] at hP1
      obtain ⟨rfl, hw⟩ := hw
      obtain ⟨hP, hD⟩ := va_join (wr := [(r 7, .inl ((cT 0), 1000, .inl f7)), (r 9, .inl ((cT 0), 1400, .inl f9)), (r 3, .inl ((cT 0), 160, .inl f3)), (r 4, .inl ((cT 0), 4, .inl f4)), (r 0, .inl ((cT 1), 64, .inr (.inl f0))), (r 11, .inl ((cT 0), 16, .inl f11))]) (w1 := [(mo, .inr (12, mdG r 1 tm (nI sn) (nI 0) (nI lz) (nI az) (nI na) (nI nt) (nI nr) mw ml mk dq))]) hP hD [0] [1, 2, 3, 4, 5, 6] rfl rfl (by decide) (by decide) hk1 hFc hP1 hD1
      have hw179 := hw
      clear hPc hDc hFc hz1 hk1 hP1 hK1 hD1
      generalize H1 = H at hP hS ⊢
      have hP : va_P (dC, dI) vcl [(r 7, .inl ((cT 0), 1000, .inl f7)), (r 9, .inl ((cT 0), 1400, .inl f9)), (r 3, .inl ((cT 0), 160, .inl f3)), (r 4, .inl ((cT 0), 4, .inl f4)), (r 0, .inl ((cT 1), 64, .inr (.inl f0))), (r 11, .inl ((cT 0), 16, .inl f11)), (mo, .inr (12, mdG r 1 tm (nI sn) (nI 0) (nI lz) (nI az) (nI na) (nI nt) (nI nr) mw ml mk dq))] H := hP
      have hD : va_D A [(r 7, .inl ((cT 0), 1000, .inl f7)), (r 9, .inl ((cT 0), 1400, .inl f9)), (r 3, .inl ((cT 0), 160, .inl f3)), (r 4, .inl ((cT 0), 4, .inl f4)), (r 0, .inl ((cT 1), 64, .inr (.inl f0))), (r 11, .inl ((cT 0), 16, .inl f11)), (mo, .inr (12, mdG r 1 tm (nI sn) (nI 0) (nI lz) (nI az) (nI na) (nI nt) (nI nr) mw ml mk dq))] := hD
      refine lv_if_eq (tgt := 58) hx hb d_Md_seal_18 (by decide) (fun hc180 => ?_) (fun hn9 => absurd (by decide) hn9)
      have hP9 := hP.sub (ws' := [(mo, .inr (12, mdG r 1 tm (nI sn) (nI 0) (nI lz) (nI az) (nI na) (nI nt) (nI nr) mw ml mk dq)), (r 7, .inl ((cT 0), 1000, .inl f7)), (r 9, .inl ((cT 0), 1400, .inl f9)), (r 3, .inl ((cT 0), 160, .inl f3)), (r 4, .inl ((cT 0), 4, .inl f4)), (r 0, .inl ((cT 1), 64, .inr (.inl f0))), (r 11, .inl ((cT 0), 16, .inl f11))]) [6, 0, 1, 2, 3, 4, 5] rfl
      have hD9 := hD.sub (ws' := [(mo, .inr (12, mdG r 1 tm (nI sn) (nI 0) (nI lz) (nI az) (nI na) (nI nt) (nI nr) mw ml mk dq)), (r 7, .inl ((cT 0), 1000, .inl f7)), (r 9, .inl ((cT 0), 1400, .inl f9)), (r 3, .inl ((cT 0), 160, .inl f3)), (r 4, .inl ((cT 0), 4, .inl f4)), (r 0, .inl ((cT 1), 64, .inr (.inl f0))), (r 11, .inl ((cT 0), 16, .inl f11))]) [6, 0, 1, 2, 3, 4, 5] (by decide) rfl
      exact W.vret hx hb hr (fun t ht hW => ⟨⟨⟨f7, f9, f11, 1⟩, rfl, ⟨Or.inr ⟨rfl, fun _ => by omega⟩, by assumption, by assumption⟩, by rw [ht]; exact hP9, va_K.moved hW.alike hK, hD9⟩, hS.F ht⟩) hS.2.2 d_Md_seal_58
    · skip
      have n178 : xn < 4 := Nat.not_le.mp (fun h7 => hc176 ((nI_leI (a := 4) (b := xn) (by omega) (by omega)).mpr h7))
      refine lv_iconst (v := 1) hx hb d_Md_seal_10 (by decide) ?_
      refine lv_goto (tgt := 15) hx hb d_Md_seal_11 (by decide) ?_
      have hPc := hP.sub (ws' := [(mo, .inr (12, mdG r cd tm (nI sn) (nI 0) (nI lz) (nI az) (nI na) (nI nt) (nI nr) mw ml mk dq))]) [0] rfl
      have hDc := hD.sub (ws' := [(mo, .inr (12, mdG r cd tm (nI sn) (nI 0) (nI lz) (nI az) (nI na) (nI nt) (nI nr) mw ml mk dq))]) [0] (by decide) rfl
      have hFc := va_free (wc := [(mo, .inr (12, mdG r cd tm (nI sn) (nI 0) (nI lz) (nI az) (nI na) (nI nt) (nI nr) mw ml mk dq))]) hD hS hA [0] rfl
      refine va_calli (va_runV (C := "DoorServerModel") (As := [.int 1]) (rest := []) ⟨hx, hb, hml, hown, hg⟩ (m_goes1 l dC dI cT s.heap.size mo r cd tm sn 0 lz az na nt nr mw ml mk dq ) (cwV 1 hg (gI (List.forall_mem_append.mpr ⟨List.forall_mem_cons.mpr ⟨k_1165, List.forall_mem_cons.mpr ⟨k_1167, List.forall_mem_cons.mpr ⟨(big_sel (q := y_Md_goes) (n := 45) (by decide +kernel)), List.forall_mem_cons.mpr ⟨k_13, fun _ h => absurd h List.not_mem_nil⟩⟩⟩⟩, List.forall_mem_cons.mpr ⟨k_1168, fun _ h => h⟩⟩)) rfl rfl rfl (by decide +kernel) ⟨Nat.le_of_ble_eq_true rfl, Nat.le_of_ble_eq_true rfl⟩) ⟨fun a U g mk q => by obtain ⟨q0, q1, qP, qK, qD⟩ := q; exact ⟨q0, q1, qP, va_K.moved (u := U) (U := U.calling g mk a) (Vm.Alike.refl U.vm) qK, qD⟩, va_recv (q0 := 0) (ci := 12) hK hP rfl rfl, fun U hU hW => ⟨rfl, by rw [hU], by rw [hU]; exact hPc, va_K.moved hW.alike hK, hDc.weaken (fun _ _ _ _ => trivial)⟩⟩ rfl rfl hl.1 rfl (lv_room (Nat.le_of_ble_eq_true rfl)) d_Md_seal_15 ⟨Nat.le_of_ble_eq_true rfl, Nat.le_of_ble_eq_true rfl⟩) hS (fun q _ h => hFc q h) hFc (fun rv9 u t H1 locs ht hvm hw hB hz1 hk1 hS => ?_)
      try dsimp only at hw hB
      obtain ⟨hP1, hK1, hD1⟩ := hB
      rw [ht] at hP1
      obtain ⟨rfl, hw⟩ := hw
      obtain ⟨hP, hD⟩ := va_join (wr := [(r 7, .inl ((cT 0), 1000, .inl f7)), (r 9, .inl ((cT 0), 1400, .inl f9)), (r 3, .inl ((cT 0), 160, .inl f3)), (r 4, .inl ((cT 0), 4, .inl f4)), (r 0, .inl ((cT 1), 64, .inr (.inl f0))), (r 11, .inl ((cT 0), 16, .inl f11))]) (w1 := [(mo, .inr (12, mdG r 0 tm (nI sn) (nI 0) (nI lz) (nI az) (nI na) (nI nt) (nI nr) mw ml mk dq))]) hP hD [0] [1, 2, 3, 4, 5, 6] rfl rfl (by decide) (by decide) hk1 hFc hP1 hD1
      have hw181 := hw
      clear hPc hDc hFc hz1 hk1 hP1 hK1 hD1
      generalize H1 = H at hP hS ⊢
      have hP : va_P (dC, dI) vcl [(r 7, .inl ((cT 0), 1000, .inl f7)), (r 9, .inl ((cT 0), 1400, .inl f9)), (r 3, .inl ((cT 0), 160, .inl f3)), (r 4, .inl ((cT 0), 4, .inl f4)), (r 0, .inl ((cT 1), 64, .inr (.inl f0))), (r 11, .inl ((cT 0), 16, .inl f11)), (mo, .inr (12, mdG r 0 tm (nI sn) (nI 0) (nI lz) (nI az) (nI na) (nI nt) (nI nr) mw ml mk dq))] H := hP
      have hD : va_D A [(r 7, .inl ((cT 0), 1000, .inl f7)), (r 9, .inl ((cT 0), 1400, .inl f9)), (r 3, .inl ((cT 0), 160, .inl f3)), (r 4, .inl ((cT 0), 4, .inl f4)), (r 0, .inl ((cT 1), 64, .inr (.inl f0))), (r 11, .inl ((cT 0), 16, .inl f11)), (mo, .inr (12, mdG r 0 tm (nI sn) (nI 0) (nI lz) (nI az) (nI na) (nI nt) (nI nr) mw ml mk dq))] := hD
      refine lv_if_eq (tgt := 58) hx hb d_Md_seal_18 (by decide) (fun hn9 => absurd hn9 (by decide)) (fun hc182 => ?_)
      refine lv_aload_n hx hb d_Md_seal_21 rfl (lv_at hl 0 rfl) ?_
      have hPc := hP.sub (ws' := [(mo, .inr (12, mdG r 0 tm (nI sn) (nI 0) (nI lz) (nI az) (nI na) (nI nt) (nI nr) mw ml mk dq)), (r 7, .inl ((cT 0), 1000, .inl f7))]) [6, 0] rfl
      have hDc := hD.sub (ws' := [(mo, .inr (12, mdG r 0 tm (nI sn) (nI 0) (nI lz) (nI az) (nI na) (nI nt) (nI nr) mw ml mk dq)), (r 7, .inl ((cT 0), 1000, .inl f7))]) [6, 0] (by decide) rfl
      have hFc := va_free (wc := [(mo, .inr (12, mdG r 0 tm (nI sn) (nI 0) (nI lz) (nI az) (nI na) (nI nt) (nI nr) mw ml mk dq)), (r 7, .inl ((cT 0), 1000, .inl f7))]) hD hS hA [6, 0] rfl
      refine va_callv (va_runV (C := "DoorServerModel") (As := []) (rest := []) ⟨hx, hb, hml, hown, hg⟩ (m_length l dC dI cT H.size mo r 0 tm sn 0 lz az na nt nr mw ml mk dq f7 (by first | assumption | omega) (by first | assumption | omega)) (cwV 0 hg (gI (List.forall_mem_append.mpr ⟨List.forall_mem_cons.mpr ⟨k_1196, List.forall_mem_cons.mpr ⟨k_1198, List.forall_mem_cons.mpr ⟨(big_sel (q := y_Md_length) (n := 45) (by decide +kernel)), List.forall_mem_cons.mpr ⟨k_13, fun _ h => absurd h List.not_mem_nil⟩⟩⟩⟩, List.forall_mem_cons.mpr ⟨k_1199, fun _ h => h⟩⟩)) rfl rfl rfl (by decide +kernel) ⟨Nat.le_of_ble_eq_true rfl, Nat.le_of_ble_eq_true rfl⟩) ⟨fun a U g mk q => by obtain ⟨q0, q1, qP, qK, qD⟩ := q; exact ⟨q0, q1, qP, va_K.moved (u := U) (U := U.calling g mk a) (Vm.Alike.refl U.vm) qK, qD⟩, va_recv (q0 := 6) (ci := 12) hK hP rfl rfl, fun U hU hW => ⟨rfl, by rw [hU], by rw [hU]; exact hPc, va_K.moved hW.alike hK, hDc.weaken (fun _ _ _ _ => trivial)⟩⟩ rfl rfl hl.1 rfl (lv_room (Nat.le_of_ble_eq_true rfl)) d_Md_seal_22 ⟨Nat.le_of_ble_eq_true rfl, Nat.le_of_ble_eq_true rfl⟩) hS (fun q _ h => hFc q h) hFc (fun u t H1 locs ht hvm hw hB hz1 hk1 hS => ?_)
      obtain ⟨g7_183, rfl⟩ : ∃ z, z = u := ⟨_, rfl⟩
      try dsimp only at hw hB
      obtain ⟨hP1, hK1, hD1⟩ := hB
      rw [ht] at hP1
      obtain ⟨hP, hD⟩ := va_join (wr := [(r 9, .inl ((cT 0), 1400, .inl f9)), (r 3, .inl ((cT 0), 160, .inl f3)), (r 4, .inl ((cT 0), 4, .inl f4)), (r 0, .inl ((cT 1), 64, .inr (.inl f0))), (r 11, .inl ((cT 0), 16, .inl f11))]) (w1 := [(mo, .inr (12, mdG r 0 tm (nI sn) (nI 0) (nI lz) (nI az) (nI na) (nI nt) (nI nr) mw ml mk dq)), (r 7, .inl ((cT 0), 1000, .inl g7_183))]) hP hD [6, 0] [1, 2, 3, 4, 5] rfl rfl (by decide) (by decide) hk1 hFc hP1 hD1
      have hw184 := hw
      clear hPc hDc hFc hz1 hk1 hP1 hK1 hD1
      generalize H1 = H at hP hS ⊢
      have hP : va_P (dC, dI) vcl [(r 9, .inl ((cT 0), 1400, .inl f9)), (r 3, .inl ((cT 0), 160, .inl f3)), (r 4, .inl ((cT 0), 4, .inl f4)), (r 0, .inl ((cT 1), 64, .inr (.inl f0))), (r 11, .inl ((cT 0), 16, .inl f11)), (mo, .inr (12, mdG r 0 tm (nI sn) (nI 0) (nI lz) (nI az) (nI na) (nI nt) (nI nr) mw ml mk dq)), (r 7, .inl ((cT 0), 1000, .inl g7_183))] H := hP
      have hD : va_D A [(r 9, .inl ((cT 0), 1400, .inl f9)), (r 3, .inl ((cT 0), 160, .inl f3)), (r 4, .inl ((cT 0), 4, .inl f4)), (r 0, .inl ((cT 1), 64, .inr (.inl f0))), (r 11, .inl ((cT 0), 16, .inl f11)), (mo, .inr (12, mdG r 0 tm (nI sn) (nI 0) (nI lz) (nI az) (nI na) (nI nt) (nI nr) mw ml mk dq)), (r 7, .inl ((cT 0), 1000, .inl g7_183))] := hD
      have k185 := hw184
      refine lv_aload_n hx hb d_Md_seal_25 rfl (lv_at hl 0 rfl) ?_
      refine lv_iload_n hx hb d_Md_seal_26 rfl (lv_at hl 1 rfl) ?_
      have hPc := hP.sub (ws' := [(mo, .inr (12, mdG r 0 tm (nI sn) (nI 0) (nI lz) (nI az) (nI na) (nI nt) (nI nr) mw ml mk dq)), (r 9, .inl ((cT 0), 1400, .inl f9)), (r 3, .inl ((cT 0), 160, .inl f3)), (r 4, .inl ((cT 0), 4, .inl f4)), (r 0, .inl ((cT 1), 64, .inr (.inl f0))), (r 11, .inl ((cT 0), 16, .inl f11)), (r 7, .inl ((cT 0), 1000, .inl g7_183))]) [5, 0, 1, 2, 3, 4, 6] rfl
      have hDc := hD.sub (ws' := [(mo, .inr (12, mdG r 0 tm (nI sn) (nI 0) (nI lz) (nI az) (nI na) (nI nt) (nI nr) mw ml mk dq)), (r 9, .inl ((cT 0), 1400, .inl f9)), (r 3, .inl ((cT 0), 160, .inl f3)), (r 4, .inl ((cT 0), 4, .inl f4)), (r 0, .inl ((cT 1), 64, .inr (.inl f0))), (r 11, .inl ((cT 0), 16, .inl f11)), (r 7, .inl ((cT 0), 1000, .inl g7_183))]) [5, 0, 1, 2, 3, 4, 6] (by decide) rfl
      have hFc := va_free (wc := [(mo, .inr (12, mdG r 0 tm (nI sn) (nI 0) (nI lz) (nI az) (nI na) (nI nt) (nI nr) mw ml mk dq)), (r 9, .inl ((cT 0), 1400, .inl f9)), (r 3, .inl ((cT 0), 160, .inl f3)), (r 4, .inl ((cT 0), 4, .inl f4)), (r 0, .inl ((cT 1), 64, .inr (.inl f0))), (r 11, .inl ((cT 0), 16, .inl f11)), (r 7, .inl ((cT 0), 1000, .inl g7_183))]) hD hS hA [5, 0, 1, 2, 3, 4, 6] rfl
      refine va_callv (va_runV (C := "DoorServerModel") (As := [.int (nI xn)]) (rest := []) ⟨hx, hb, hml, hown, hg⟩ (m_auth l dC dI cT H.size mo r 0 tm sn 0 lz az na nt nr mw ml mk dq f9 f3 f4 f0 f11 g7_183 xn sl (by first | assumption | omega) (by first | assumption | omega) (by first | assumption | omega) (by first | assumption | omega) (by first | assumption | omega)) (cwV 1 hg (gI (List.forall_mem_append.mpr ⟨List.forall_mem_cons.mpr ⟨k_1275, List.forall_mem_cons.mpr ⟨k_1277, List.forall_mem_cons.mpr ⟨(big_sel (q := y_Md_authenticator) (n := 45) (by decide +kernel)), List.forall_mem_cons.mpr ⟨k_13, fun _ h => absurd h List.not_mem_nil⟩⟩⟩⟩, List.forall_mem_cons.mpr ⟨k_1278, fun _ h => h⟩⟩)) rfl rfl rfl (by decide +kernel) ⟨Nat.le_of_ble_eq_true rfl, Nat.le_of_ble_eq_true rfl⟩) ⟨fun a U g mk q => by obtain ⟨q0, q1, qP, qK, qD⟩ := q; exact ⟨q0, q1, qP, va_K.moved (u := U) (U := U.calling g mk a) (Vm.Alike.refl U.vm) qK, qD⟩, va_recv (q0 := 5) (ci := 12) hK hP rfl rfl, fun U hU hW => ⟨rfl, by rw [hU], by rw [hU]; exact hPc, va_K.moved hW.alike hK, hDc.weaken (fun _ _ _ _ => trivial)⟩⟩ rfl rfl hl.1 rfl (lv_room (Nat.le_of_ble_eq_true rfl)) d_Md_seal_27 ⟨Nat.le_of_ble_eq_true rfl, Nat.le_of_ble_eq_true rfl⟩) hS (fun q _ h => hFc q h) hFc (fun u t H1 locs ht hvm hw hB hz1 hk1 hS => ?_)
      obtain ⟨g9_186, g11_187⟩ := u
      try dsimp only at hw hB
      obtain ⟨hP1, hK1, hD1⟩ := hB
      rw [ht] at hP1
      obtain ⟨hP, hD⟩ := va_join (wr := []) (w1 := [(mo, .inr (12, mdG r 0 tm (nI sn) (nI 0) (nI lz) (nI az) (nI na) (nI nt) (nI nr) mw ml mk dq)), (r 9, .inl ((cT 0), 1400, .inl g9_186)), (r 3, .inl ((cT 0), 160, .inl f3)), (r 4, .inl ((cT 0), 4, .inl f4)), (r 0, .inl ((cT 1), 64, .inr (.inl f0))), (r 11, .inl ((cT 0), 16, .inl g11_187)), (r 7, .inl ((cT 0), 1000, .inl g7_183))]) hP hD [5, 0, 1, 2, 3, 4, 6] [] rfl rfl (by decide) (by decide) hk1 hFc hP1 hD1
      have hw188 := hw
      clear hPc hDc hFc hz1 hk1 hP1 hK1 hD1
      generalize H1 = H at hP hS ⊢
      have hP : va_P (dC, dI) vcl [(mo, .inr (12, mdG r 0 tm (nI sn) (nI 0) (nI lz) (nI az) (nI na) (nI nt) (nI nr) mw ml mk dq)), (r 9, .inl ((cT 0), 1400, .inl g9_186)), (r 3, .inl ((cT 0), 160, .inl f3)), (r 4, .inl ((cT 0), 4, .inl f4)), (r 0, .inl ((cT 1), 64, .inr (.inl f0))), (r 11, .inl ((cT 0), 16, .inl g11_187)), (r 7, .inl ((cT 0), 1000, .inl g7_183))] H := hP
      have hD : va_D A [(mo, .inr (12, mdG r 0 tm (nI sn) (nI 0) (nI lz) (nI az) (nI na) (nI nt) (nI nr) mw ml mk dq)), (r 9, .inl ((cT 0), 1400, .inl g9_186)), (r 3, .inl ((cT 0), 160, .inl f3)), (r 4, .inl ((cT 0), 4, .inl f4)), (r 0, .inl ((cT 1), 64, .inr (.inl f0))), (r 11, .inl ((cT 0), 16, .inl g11_187)), (r 7, .inl ((cT 0), 1000, .inl g7_183))] := hD
      have k189 := hw188
      refine lv_iconst (v := 0) hx hb d_Md_seal_30 (by decide) ?_
      refine lv_istore_n (lv' := [(2, .int 0), (0, .ref mo), (1, .int (nI xn))]) hx hb d_Md_seal_31 rfl hl (by decide) rfl (fun ls hl => ?_)
      have hl := lv_sub hl [0, 1, 2] (show _ = [(2, .int 0), (0, .ref mo), (1, .int (nI xn))] from rfl)
      have L191 : ∀ (Q : State → Prop) (exit : ∀ (g7_190 : Nat → Int32) (H : Heap) (locs : List Loc) (ls : Array Slot), (AB g7_190) → va_P (dC, dI) vcl [(mo, .inr (12, mdG r 0 tm (nI sn) (nI 0) (nI lz) (nI az) (nI na) (nI nt) (nI nr) mw ml mk dq)), (r 9, .inl ((cT 0), 1400, .inl g9_186)), (r 3, .inl ((cT 0), 160, .inl f3)), (r 4, .inl ((cT 0), 4, .inl f4)), (r 0, .inl ((cT 1), 64, .inr (.inl f0))), (r 11, .inl ((cT 0), 16, .inl g11_187)), (r 7, .inl ((cT 0), 1000, .inl g7_190))] H → va_D A [(mo, .inr (12, mdG r 0 tm (nI sn) (nI 0) (nI lz) (nI az) (nI na) (nI nt) (nI nr) mw ml mk dq)), (r 9, .inl ((cT 0), 1400, .inl g9_186)), (r 3, .inl ((cT 0), 160, .inl f3)), (r 4, .inl ((cT 0), 4, .inl f4)), (r 0, .inl ((cT 1), 64, .inr (.inl f0))), (r 11, .inl ((cT 0), 16, .inl g11_187)), (r 7, .inl ((cT 0), 1000, .inl g7_190))] → va_S A s.heap H locs → lv_has ls 3 [(2, .int (nI 16)), (0, .ref mo), (1, .int (nI xn))] → W p l e ({ frames := 3, cells := 0, slots := 0, locals := 92 } : Room) s m args below meth c H locs 0 0 Q (F0 m 58 ls [])) (j8 i : Nat) (g7_190 : Nat → Int32) (H : Heap) (locs : List Loc) (ls : Array Slot), i + j8 = 16 → (AB g7_190) → va_P (dC, dI) vcl [(mo, .inr (12, mdG r 0 tm (nI sn) (nI 0) (nI lz) (nI az) (nI na) (nI nt) (nI nr) mw ml mk dq)), (r 9, .inl ((cT 0), 1400, .inl g9_186)), (r 3, .inl ((cT 0), 160, .inl f3)), (r 4, .inl ((cT 0), 4, .inl f4)), (r 0, .inl ((cT 1), 64, .inr (.inl f0))), (r 11, .inl ((cT 0), 16, .inl g11_187)), (r 7, .inl ((cT 0), 1000, .inl g7_190))] H → va_D A [(mo, .inr (12, mdG r 0 tm (nI sn) (nI 0) (nI lz) (nI az) (nI na) (nI nt) (nI nr) mw ml mk dq)), (r 9, .inl ((cT 0), 1400, .inl g9_186)), (r 3, .inl ((cT 0), 160, .inl f3)), (r 4, .inl ((cT 0), 4, .inl f4)), (r 0, .inl ((cT 1), 64, .inr (.inl f0))), (r 11, .inl ((cT 0), 16, .inl g11_187)), (r 7, .inl ((cT 0), 1000, .inl g7_190))] → va_S A s.heap H locs → lv_has ls 3 [(2, .int (nI i)), (0, .ref mo), (1, .int (nI xn))] → W p l e ({ frames := 3, cells := 0, slots := 0, locals := 92 } : Room) s m args below meth c H locs 0 0 Q (F0 m 32 ls []) := by
        intro Q exit j8
        induction j8 with
        | zero => 
          intro i g7_190 H locs ls hij hab hP hD hS hl
          have hij : 16 = i := by omega
          refine lv_iload_n hx hb d_Md_seal_32 rfl (lv_at hl 0 rfl) ?_
          refine lv_bipush (v := 16) hx hb d_Md_seal_33 (by decide) ?_
          refine lv_topi (fun x193 e192 => ?_)
          obtain rfl : x193 = nI 16 := by rw [e192]; rfl
          refine lv_icmp_ge (tgt := 58) hx hb d_Md_seal_35 (by decide) (fun hc194 => ?_) (fun hn9 => absurd (nI_le (by omega) (by omega)) hn9)
          subst hij
          exact exit g7_190 _ _ _ hab hP hD hS hl
        | succ j8 ih => 
          intro i g7_190 H locs ls hij hab hP hD hS hl
          have hlt : i < 16 := by omega
          have hlti := hlt
          refine lv_iload_n hx hb d_Md_seal_32 rfl (lv_at hl 0 rfl) ?_
          refine lv_bipush (v := 16) hx hb d_Md_seal_33 (by decide) ?_
          refine lv_topi (fun x196 e195 => ?_)
          obtain rfl : x196 = nI 16 := by rw [e195]; rfl
          refine lv_icmp_ge (tgt := 58) hx hb d_Md_seal_35 (by decide) (fun hn9 => absurd hn9 (nI_ge (by omega) (by omega))) (fun hc197 => ?_)
          refine lv_aload_n hx hb d_Md_seal_38 rfl (lv_at hl 1 rfl) ?_
          refine va_get (D := (dC, dI)) (ci := 12) (v := (.ref (r 7))) (C := R_Md) (T := F_Md) (N := 45) hx hb hg in_Md hown hK hP 0 rfl rfl 7 (by decide) (hg _ k_1027) (fun _ h9 => h9) rfl d_Md_seal_39 ?_
          refine lv_iconst (v := 4) hx hb d_Md_seal_42 (by decide) ?_
          refine lv_iload_n hx hb d_Md_seal_43 rfl (lv_at hl 0 rfl) ?_
          refine lv_iadd hx hb d_Md_seal_44 ?_
          refine lv_topi (fun x199 e198 => ?_)
          obtain rfl : x199 = nI (4 + i) := by rw [e198]; exact nI_add 4 i
          refine lv_aload_n hx hb d_Md_seal_45 rfl (lv_at hl 1 rfl) ?_
          refine va_get (D := (dC, dI)) (ci := 12) (v := (.ref (r 11))) (C := R_Md) (T := F_Md) (N := 45) hx hb hg in_Md hown hK hP 0 rfl rfl 11 (by decide) (hg _ k_1031) (fun _ h9 => h9) rfl d_Md_seal_46 ?_
          refine lv_iload_n hx hb d_Md_seal_49 rfl (lv_at hl 0 rfl) ?_
          obtain ⟨t200, ht200, xt200⟩ := k189 i
          refine va_iald hx hb hK hP 5 0 rfl rfl (i := (nI i)) (vp_in_nI (N := 16) (by omega) (by decide)) d_Md_seal_50 ?_
          refine lv_topi (fun x202 e201 => ?_)
          obtain rfl : x202 = nI t200 := by rw [e201]; rw [nI_clamp (by omega)]; exact xt200
          refine va_iast hx hb hK hP hD hS 6 0 rfl rfl (i := (nI (4 + i))) (vp_in_nI (n := 4 + i) (N := 1000) (by omega) (by decide)) d_Md_seal_51 (fun H locs hP hD hS => ?_)
          have ef203 : upd g7_190 (nI (4 + i)).toNatClampNeg (nI t200) = upd g7_190 (4 + i) (nI t200) := by rw [show (nI (4 + i)).toNatClampNeg = 4 + i from nI_clamp (by omega)]
          rw [ef203] at hP hD
          have hP : va_P (dC, dI) vcl [(mo, .inr (12, mdG r 0 tm (nI sn) (nI 0) (nI lz) (nI az) (nI na) (nI nt) (nI nr) mw ml mk dq)), (r 9, .inl ((cT 0), 1400, .inl g9_186)), (r 3, .inl ((cT 0), 160, .inl f3)), (r 4, .inl ((cT 0), 4, .inl f4)), (r 0, .inl ((cT 1), 64, .inr (.inl f0))), (r 11, .inl ((cT 0), 16, .inl g11_187)), (r 7, .inl ((cT 0), 1000, .inl (upd g7_190 (4 + i) (nI t200))))] H := hP
          have hD : va_D A [(mo, .inr (12, mdG r 0 tm (nI sn) (nI 0) (nI lz) (nI az) (nI na) (nI nt) (nI nr) mw ml mk dq)), (r 9, .inl ((cT 0), 1400, .inl g9_186)), (r 3, .inl ((cT 0), 160, .inl f3)), (r 4, .inl ((cT 0), 4, .inl f4)), (r 0, .inl ((cT 1), 64, .inr (.inl f0))), (r 11, .inl ((cT 0), 16, .inl g11_187)), (r 7, .inl ((cT 0), 1000, .inl (upd g7_190 (4 + i) (nI t200))))] := hD
          refine lv_iinc (k := 0) (v := nI (i + 1)) (lv' := [(2, .int (nI (i + 1))), (0, .ref mo), (1, .int (nI xn))]) hx hb d_Md_seal_52 hl rfl (nI_1 i) (by decide) rfl (fun ls hl => ?_)
          refine lv_goto (tgt := 32) hx hb d_Md_seal_55 (by decide) ?_
          have hl := lv_sub hl [0, 1, 2] (show _ = [(2, .int (nI (i + 1))), (0, .ref mo), (1, .int (nI xn))] from rfl)
          exact ih (i + 1) _ _ _ _ (by omega) (AB_upd hab (BY_n (by omega))) hP hD hS hl
      refine L191 _ (fun g7_190 H locs ls hab hP hD hS hl => ?_) (16 - 0) 0 g7_183 H _ ls (by omega) (by first | assumption | omega) hP hD hS hl
      have hP9 := hP.sub (ws' := [(mo, .inr (12, mdG r 0 tm (nI sn) (nI 0) (nI lz) (nI az) (nI na) (nI nt) (nI nr) mw ml mk dq)), (r 7, .inl ((cT 0), 1000, .inl g7_190)), (r 9, .inl ((cT 0), 1400, .inl g9_186)), (r 3, .inl ((cT 0), 160, .inl f3)), (r 4, .inl ((cT 0), 4, .inl f4)), (r 0, .inl ((cT 1), 64, .inr (.inl f0))), (r 11, .inl ((cT 0), 16, .inl g11_187))]) [0, 6, 1, 2, 3, 4, 5] rfl
      have hD9 := hD.sub (ws' := [(mo, .inr (12, mdG r 0 tm (nI sn) (nI 0) (nI lz) (nI az) (nI na) (nI nt) (nI nr) mw ml mk dq)), (r 7, .inl ((cT 0), 1000, .inl g7_190)), (r 9, .inl ((cT 0), 1400, .inl g9_186)), (r 3, .inl ((cT 0), 160, .inl f3)), (r 4, .inl ((cT 0), 4, .inl f4)), (r 0, .inl ((cT 1), 64, .inr (.inl f0))), (r 11, .inl ((cT 0), 16, .inl g11_187))]) [0, 6, 1, 2, 3, 4, 5] (by decide) rfl
      exact W.vret hx hb hr (fun t ht hW => ⟨⟨⟨g7_190, g9_186, g11_187, 0⟩, rfl, ⟨Or.inl ⟨rfl, nI_pos (by omega), nI_nlt (a := 3) (by omega) (by decide)⟩, by assumption, by assumption⟩, by rw [ht]; exact hP9, va_K.moved hW.alike hK, hD9⟩, hS.F ht⟩) hS.2.2 d_Md_seal_58
