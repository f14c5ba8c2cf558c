theorem d_An_init_0 : decode b_An_init 0 = .ok (.aload_n 0, 1) := by decide +kernel
theorem d_An_init_1 : decode b_An_init 1 = .ok (.invokespecial 3, 3) := by decide +kernel
theorem d_An_init_4 : decode b_An_init 4 = .ok (.aload_n 0, 1) := by decide +kernel
theorem d_An_init_5 : decode b_An_init 5 = .ok (.bipush 40, 2) := by decide +kernel
theorem d_An_init_7 : decode b_An_init 7 = .ok (.anewarray 11, 3) := by decide +kernel
theorem d_An_init_10 : decode b_An_init 10 = .ok (.putfield 13, 3) := by decide +kernel
theorem d_An_init_13 : decode b_An_init 13 = .ok (.iconst 0, 1) := by decide +kernel
theorem d_An_init_14 : decode b_An_init 14 = .ok (.istore_n 1, 1) := by decide +kernel
theorem d_An_init_15 : decode b_An_init 15 = .ok (.iload_n 1, 1) := by decide +kernel
theorem d_An_init_16 : decode b_An_init 16 = .ok (.bipush 40, 2) := by decide +kernel
theorem d_An_init_18 : decode b_An_init 18 = .ok (.if_icmp .ge 22, 3) := by decide +kernel
theorem d_An_init_21 : decode b_An_init 21 = .ok (.aload_n 0, 1) := by decide +kernel
theorem d_An_init_22 : decode b_An_init 22 = .ok (.getfield 13, 3) := by decide +kernel
theorem d_An_init_25 : decode b_An_init 25 = .ok (.iload_n 1, 1) := by decide +kernel
theorem d_An_init_26 : decode b_An_init 26 = .ok (.new 11, 3) := by decide +kernel
theorem d_An_init_29 : decode b_An_init 29 = .ok (.dup, 1) := by decide +kernel
theorem d_An_init_30 : decode b_An_init 30 = .ok (.invokespecial 17, 3) := by decide +kernel
theorem d_An_init_33 : decode b_An_init 33 = .ok (.aastore, 1) := by decide +kernel
theorem d_An_init_34 : decode b_An_init 34 = .ok (.iinc 1 1, 3) := by decide +kernel
theorem d_An_init_37 : decode b_An_init 37 = .ok (.goto (-22), 3) := by decide +kernel
theorem d_An_init_40 : decode b_An_init 40 = .ok (.return_, 1) := by decide +kernel
theorem d_Ts_init_0 : decode b_Ts_init 0 = .ok (.aload_n 0, 1) := by decide +kernel
theorem d_Ts_init_1 : decode b_Ts_init 1 = .ok (.invokespecial 3, 3) := by decide +kernel
theorem d_Ts_init_4 : decode b_Ts_init 4 = .ok (.aload_n 0, 1) := by decide +kernel
theorem d_Ts_init_5 : decode b_Ts_init 5 = .ok (.bipush 6, 2) := by decide +kernel
theorem d_Ts_init_7 : decode b_Ts_init 7 = .ok (.anewarray 11, 3) := by decide +kernel
theorem d_Ts_init_10 : decode b_Ts_init 10 = .ok (.putfield 13, 3) := by decide +kernel
theorem d_Ts_init_13 : decode b_Ts_init 13 = .ok (.aload_n 0, 1) := by decide +kernel
theorem d_Ts_init_14 : decode b_Ts_init 14 = .ok (.lconst 1, 1) := by decide +kernel
theorem d_Ts_init_15 : decode b_Ts_init 15 = .ok (.putfield 17, 3) := by decide +kernel
theorem d_Ts_init_18 : decode b_Ts_init 18 = .ok (.iconst 0, 1) := by decide +kernel
theorem d_Ts_init_19 : decode b_Ts_init 19 = .ok (.istore_n 1, 1) := by decide +kernel
theorem d_Ts_init_20 : decode b_Ts_init 20 = .ok (.iload_n 1, 1) := by decide +kernel
theorem d_Ts_init_21 : decode b_Ts_init 21 = .ok (.bipush 6, 2) := by decide +kernel
theorem d_Ts_init_23 : decode b_Ts_init 23 = .ok (.if_icmp .ge 22, 3) := by decide +kernel
theorem d_Ts_init_26 : decode b_Ts_init 26 = .ok (.aload_n 0, 1) := by decide +kernel
theorem d_Ts_init_27 : decode b_Ts_init 27 = .ok (.getfield 13, 3) := by decide +kernel
theorem d_Ts_init_30 : decode b_Ts_init 30 = .ok (.iload_n 1, 1) := by decide +kernel
theorem d_Ts_init_31 : decode b_Ts_init 31 = .ok (.new 11, 3) := by decide +kernel
theorem d_Ts_init_34 : decode b_Ts_init 34 = .ok (.dup, 1) := by decide +kernel
theorem d_Ts_init_35 : decode b_Ts_init 35 = .ok (.invokespecial 21, 3) := by decide +kernel
theorem d_Ts_init_38 : decode b_Ts_init 38 = .ok (.aastore, 1) := by decide +kernel
theorem d_Ts_init_39 : decode b_Ts_init 39 = .ok (.iinc 1 1, 3) := by decide +kernel
theorem d_Ts_init_42 : decode b_Ts_init 42 = .ok (.goto (-22), 3) := by decide +kernel
theorem d_Ts_init_45 : decode b_Ts_init 45 = .ok (.return_, 1) := by decide +kernel
theorem d_Ss_init_0 : decode b_Ss_init 0 = .ok (.aload_n 0, 1) := by decide +kernel
theorem d_Ss_init_1 : decode b_Ss_init 1 = .ok (.invokespecial 3, 3) := by decide +kernel
theorem d_Ss_init_4 : decode b_Ss_init 4 = .ok (.aload_n 0, 1) := by decide +kernel
theorem d_Ss_init_5 : decode b_Ss_init 5 = .ok (.bipush 50, 2) := by decide +kernel
theorem d_Ss_init_7 : decode b_Ss_init 7 = .ok (.anewarray 11, 3) := by decide +kernel
theorem d_Ss_init_10 : decode b_Ss_init 10 = .ok (.putfield 13, 3) := by decide +kernel
theorem d_Ss_init_13 : decode b_Ss_init 13 = .ok (.iconst 0, 1) := by decide +kernel
theorem d_Ss_init_14 : decode b_Ss_init 14 = .ok (.istore_n 1, 1) := by decide +kernel
theorem d_Ss_init_15 : decode b_Ss_init 15 = .ok (.iload_n 1, 1) := by decide +kernel
theorem d_Ss_init_16 : decode b_Ss_init 16 = .ok (.bipush 50, 2) := by decide +kernel
theorem d_Ss_init_18 : decode b_Ss_init 18 = .ok (.if_icmp .ge 22, 3) := by decide +kernel
theorem d_Ss_init_21 : decode b_Ss_init 21 = .ok (.aload_n 0, 1) := by decide +kernel
theorem d_Ss_init_22 : decode b_Ss_init 22 = .ok (.getfield 13, 3) := by decide +kernel
theorem d_Ss_init_25 : decode b_Ss_init 25 = .ok (.iload_n 1, 1) := by decide +kernel
theorem d_Ss_init_26 : decode b_Ss_init 26 = .ok (.new 11, 3) := by decide +kernel
theorem d_Ss_init_29 : decode b_Ss_init 29 = .ok (.dup, 1) := by decide +kernel
theorem d_Ss_init_30 : decode b_Ss_init 30 = .ok (.invokespecial 17, 3) := by decide +kernel
theorem d_Ss_init_33 : decode b_Ss_init 33 = .ok (.aastore, 1) := by decide +kernel
theorem d_Ss_init_34 : decode b_Ss_init 34 = .ok (.iinc 1 1, 3) := by decide +kernel
theorem d_Ss_init_37 : decode b_Ss_init 37 = .ok (.goto (-22), 3) := by decide +kernel
theorem d_Ss_init_40 : decode b_Ss_init 40 = .ok (.return_, 1) := by decide +kernel
set_option maxHeartbeats 4000000 in
set_option maxRecDepth 100000 in
/-- Answers -/
theorem n_An (l : Launch) (dC : Nat → ClassId) (dI : Nat → Nat → Nat) (cT : Nat → ClassId) (sz : Nat) (h : Nat) (L : List Nat) (F : Nat → va_E) (hpf : PF cT L F) : Met l y_An_init (Cond.code y_An_init b_An_init 2 (Option.none : Option Jvm.ClassFile.FieldType) :: BIG) ({ frames := 3, cells := 161, slots := 3880, locals := 70 }) (va_Pc [.ref h] (fun U => U.heap.size = sz ∧ va_P (dC, dI) vcl ([(h, .inr (6, [.null, .int 0, .int 0]))] ++ va_pl L F) U.heap ∧ va_K (dC, dI) vcl (tyL cT) U ∧ va_D (fun _ => True) ([(h, .inr (6, [.null, .int 0, .int 0]))] ++ va_pl L F) ∧ nw_T U U.heap)) (va_Qv (S := Nat × (Nat → Option Nat) × (List Nat) × (Nat → va_E)) (fun u => match u with | (p, g, L2, F2) => PF cT L2 F2 ∧ EXF L F L2 F2 ∧ PLK 7 g 40 L2 F2) (fun u t => match u with | (p, g, L2, F2) => va_P (dC, dI) vcl ([(h, .inr (6, [.ref p, .int 0, .int 0])), (p, .inl ((cT 3), 40, .inr (.inr (.inr (.inr g)))))] ++ va_pl L2 F2) t.heap ∧ va_K (dC, dI) vcl (tyL cT) t ∧ va_D (va_A ([(h, .inr (6, [.null, .int 0, .int 0]))] ++ va_pl L F) sz) ([(h, .inr (6, [.ref p, .int 0, .int 0])), (p, .inl ((cT 3), 40, .inr (.inr (.inr (.inr g)))))] ++ va_pl L2 F2)) (va_A ([(h, .inr (6, [.null, .int 0, .int 0]))] ++ va_pl L F) sz)) 161 3880 (va_A ([(h, .inr (6, [.null, .int 0, .int 0]))] ++ va_pl L F) sz) := by
  refine Met.ofW (cc := b_An_init) (maxL := 2) (ret := (Option.none : Option Jvm.ClassFile.FieldType)) (by decide) rfl ?_
  intro p e s m args below meth c s₁ B hml hv
  obtain ⟨hargs, hsz, hP, hK, hD0, hE⟩ := hv
  have hx := B.exec
  have hb := B.bytes
  have hr := B.returns
  have hts := atoms_spec (ws := (Cond.code y_An_init b_An_init 2 (Option.none : Option Jvm.ClassFile.FieldType) :: BIG)) B.pre
  have hg : ∀ w ∈ BIG, w.before _ s = true := fun w h => hts w (List.mem_cons_of_mem _ h)
  have hown : s.vm.findClass "DoorServer$Answers" = some m.cls := findClass_of_methodNamed B.named
  have hlocks := B.notSynchronized
  have hin : meth.name = "<init>" := (name_of_methodNamed B.named B.method).1
  subst hsz
  have hD := hD0.self (sz := s.heap.size)
  generalize hAe : va_A ([(h, .inr (6, [.null, .int 0, .int 0]))] ++ va_pl L F) s.heap.size = A at hD ⊢
  have hA : ∀ q : Nat, s.heap.size ≤ q → A q := fun q h => by rw [← hAe]; exact Or.inr h
  have hS : va_S A s.heap s.heap [] := va_S.rf
  have hl := lv_entry ([.ref h]) (n := 2) (Nat.le_of_ble_eq_true rfl)
  refine W.eq (g2 := entryFrame m (List.toArray [.ref h]) 2) (by rw [hargs]) ?_
  rw [lg_entry_eq]
  generalize (lg_sl ([.ref h]) ++ List.replicate (2 - (lg_sl ([.ref h])).length) Slot.unset).toArray = ls at hl ⊢
  have hl : lv_has ls 2 [(0, .ref h)] := hl
  change W p l e ({ frames := 3, cells := 161, slots := 3880, locals := 70 } : Room) s m args below meth c s.heap [] 0 0 _ _
  have hP : va_P (dC, dI) vcl ([(h, .inr (6, [.null, .int 0, .int 0]))] ++ va_pl L F) s.heap := hP
  refine lv_aload_n hx hb d_An_init_0 rfl (lv_at hl 0 rfl) ?_
  refine W.objInit hx hb hown (hg _ k_146) (hg _ k_28) (hg _ k_29) rfl (by rw [hml]; exact hl.1) rfl d_An_init_1 (Nat.le_of_ble_eq_true rfl) (Nat.le_of_ble_eq_true rfl) ?_
  refine W.eq (g2 := F0 m 4 ls []) rfl ?_
  refine lv_aload_n hx hb d_An_init_4 rfl (lv_at hl 0 rfl) ?_
  refine lv_bipush (v := 40) hx hb d_An_init_5 (by decide) ?_
  refine va_newq (C := "DoorServer$Kept") (n := 40) (N' := 40) hx hb hown (hg _ k_147) hE.ao3 hK hP hD hS hA (by decide) (by decide) (by decide) (Nat.le_of_ble_eq_true rfl) (Nat.le_of_ble_eq_true rfl) d_An_init_7 (fun q1 cA9 H hK9 hP hD hS => ?_)
  obtain rfl := nk_3 hK9
  clear hK9
  have hP := hP.swap
  have hD := hD.swap
  have hP : va_P (dC, dI) vcl ([(h, .inr (6, [.null, .int 0, .int 0])), (q1, .inl ((cT 3), 40, .inr (.inr (.inr (.inr (fun _ => none))))))] ++ va_pl L F) H := hP
  have hD : va_D A ([(h, .inr (6, [.null, .int 0, .int 0])), (q1, .inl ((cT 3), 40, .inr (.inr (.inr (.inr (fun _ => none))))))] ++ va_pl L F) := hD
  refine va_putF (D := (dC, dI)) (ci := 6) (v := (.ref q1)) (ty := (.array (.object "DoorServer$Kept"))) (C := R_An) (T := F_An) (N := 3) hx hb hg in_An t_An tok_An nm_An hown hK hP hD hS 0 rfl rfl 0 (by decide) (hg _ k_180) (fun _ h9 => h9) rfl hin rfl (by decide +kernel) rfl rfl (Nat.le_of_ble_eq_true rfl) d_An_init_10 (fun H locs hP hD hS => ?_)
  have hP : va_P (dC, dI) vcl ([(h, .inr (6, [.ref q1, .int 0, .int 0])), (q1, .inl ((cT 3), 40, .inr (.inr (.inr (.inr (fun _ => none))))))] ++ va_pl L F) H := hP
  have hD : va_D A ([(h, .inr (6, [.ref q1, .int 0, .int 0])), (q1, .inl ((cT 3), 40, .inr (.inr (.inr (.inr (fun _ => none))))))] ++ va_pl L F) := hD
  refine lv_iconst (v := 0) hx hb d_An_init_13 (by decide) ?_
  refine lv_istore_n (lv' := [(1, .int 0), (0, .ref h)]) hx hb d_An_init_14 rfl hl (by decide) rfl (fun ls hl => ?_)
  have hl := lv_sub hl [0, 1] (show _ = [(1, .int 0), (0, .ref h)] from rfl)
  have L2 : ∀ (Q : State → Prop) (exit : ∀ (g : Nat → Option Nat) (Lv : List Nat) (Fv : Nat → va_E) (H : Heap) (locs : List Loc) (ls : Array Slot), (PF cT Lv Fv) → (EXF L F Lv Fv) → (PLK 7 g 40 Lv Fv) → va_P (dC, dI) vcl ([(h, .inr (6, [.ref q1, .int 0, .int 0])), (q1, .inl ((cT 3), 40, .inr (.inr (.inr (.inr g)))))] ++ va_pl Lv Fv) H → va_D A ([(h, .inr (6, [.ref q1, .int 0, .int 0])), (q1, .inl ((cT 3), 40, .inr (.inr (.inr (.inr g)))))] ++ va_pl Lv Fv) → va_S A s.heap H locs → lv_has ls 2 [(1, .int (nI 40)), (0, .ref h)] → W p l e ({ frames := 3, cells := 161, slots := 3880, locals := 70 } : Room) s m args below meth c H locs (1 + 40 * 4) (40 + 40 * 96) Q (F0 m 40 ls [])) (j8 i : Nat) (g : Nat → Option Nat) (Lv : List Nat) (Fv : Nat → va_E) (H : Heap) (locs : List Loc) (ls : Array Slot), i + j8 = 40 → (PF cT Lv Fv) → (EXF L F Lv Fv) → (PLK 7 g i Lv Fv) → va_P (dC, dI) vcl ([(h, .inr (6, [.ref q1, .int 0, .int 0])), (q1, .inl ((cT 3), 40, .inr (.inr (.inr (.inr g)))))] ++ va_pl Lv Fv) H → va_D A ([(h, .inr (6, [.ref q1, .int 0, .int 0])), (q1, .inl ((cT 3), 40, .inr (.inr (.inr (.inr g)))))] ++ va_pl Lv Fv) → va_S A s.heap H locs → lv_has ls 2 [(1, .int (nI i)), (0, .ref h)] → W p l e ({ frames := 3, cells := 161, slots := 3880, locals := 70 } : Room) s m args below meth c H locs (1 + i * 4) (40 + i * 96) Q (F0 m 15 ls []) := by
    intro Q exit j8
    induction j8 with
    | zero => 
      intro i g Lv Fv H locs ls hij hpf hex hpk hP hD hS hl
      have hij : 40 = i := by omega
      refine lv_iload_n hx hb d_An_init_15 rfl (lv_at hl 0 rfl) ?_
      refine lv_bipush (v := 40) hx hb d_An_init_16 (by decide) ?_
      refine lv_icmp_ge (tgt := 40) hx hb d_An_init_18 (by decide) (fun hc3 => ?_) (fun hn9 => absurd (by rw [← hij]; decide) hn9)
      subst hij
      exact exit g Lv Fv _ _ _ hpf hex hpk hP hD hS hl
    | succ j8 ih => 
      intro i g Lv Fv H locs ls hij hpf hex hpk hP hD hS hl
      have hlt : i < 40 := by omega
      refine lv_iload_n hx hb d_An_init_15 rfl (lv_at hl 0 rfl) ?_
      refine lv_bipush (v := 40) hx hb d_An_init_16 (by decide) ?_
      refine lv_icmp_ge (tgt := 40) hx hb d_An_init_18 (by decide) (fun hn9 => absurd hn9 (nI_ge (b := 40) hlt (by decide))) (fun hc4 => ?_)
      refine lv_aload_n hx hb d_An_init_21 rfl (lv_at hl 1 rfl) ?_
      refine va_get (D := (dC, dI)) (ci := 6) (v := (.ref q1)) (C := R_An) (T := F_An) (N := 3) hx hb hg in_An hown hK hP 0 rfl rfl 0 (by decide) (hg _ k_180) (fun _ h9 => h9) rfl d_An_init_22 ?_
      refine lv_iload_n hx hb d_An_init_25 rfl (lv_at hl 0 rfl) ?_
      refine va_new (ci := 7) (fs := [.int 0, .int 0, .int 0, .int 0, .null, .null]) (C := R_Ke) (T := F_Ke) (N := 6) hx hb hg in_Ke t_Ke tok_Ke hown (hg _ k_147) (hg _ k_149) (hg _ k_7) hK hP hD hS hA rfl (fun j hj => match j, hj with | 0, _ => rfl | 1, _ => rfl | 2, _ => rfl | 3, _ => rfl | 4, _ => rfl | 5, _ => rfl | (n9 + 6), h9 => absurd h9 (by omega)) (show 1 + i * 4 + 1 ≤ 161 from by omega) (show 40 + i * 96 + 6 ≤ 3880 from by omega) d_An_init_26 (fun q5 H hP hD hS => ?_)
      have hP := hP.swap
      have hD := hD.swap
      have hP : va_P (dC, dI) vcl ([(h, .inr (6, [.ref q1, .int 0, .int 0])), (q1, .inl ((cT 3), 40, .inr (.inr (.inr (.inr g))))), (q5, .inr (7, [.int 0, .int 0, .int 0, .int 0, .null, .null]))] ++ va_pl Lv Fv) H := hP
      have hD : va_D A ([(h, .inr (6, [.ref q1, .int 0, .int 0])), (q1, .inl ((cT 3), 40, .inr (.inr (.inr (.inr g))))), (q5, .inr (7, [.int 0, .int 0, .int 0, .int 0, .null, .null]))] ++ va_pl Lv Fv) := hD
      refine lv_dup hx hb d_An_init_29 rfl ?_
      have hPc := hP.sub (ws' := [(q5, .inr (7, [.int 0, .int 0, .int 0, .int 0, .null, .null]))]) [2] rfl
      have hDc := hD.sub (ws' := [(q5, .inr (7, [.int 0, .int 0, .int 0, .int 0, .null, .null]))]) [2] (by decide) rfl
      have hFc := va_free (wc := [(q5, .inr (7, [.int 0, .int 0, .int 0, .int 0, .null, .null]))]) hD hS hA [2] rfl
      refine va_callv (va_runIN (As := []) (rest := [.ref q5, .int (nI i), .ref q1]) ⟨hx, hb, hml, hown, hg⟩ (n_Ke l dC dI cT H.size q5 ) ⟨va_cnB 0 hg (gI (List.forall_mem_cons.mpr ⟨k_152, fun _ h => h⟩)) rfl rfl rfl hE.nw_Ke (hg _ k_7) (by decide +kernel) ⟨Nat.le_of_ble_eq_true rfl, Nat.le_of_ble_eq_true rfl⟩, rfl, (hg _ k_151)⟩ ⟨fun a U g mk q => by obtain ⟨q0, q1, qP, qK, qD⟩ := q; exact ⟨q0, q1, qP, va_K.moved (u := U) (U := U.calling g mk a) (Vm.Alike.refl U.vm) qK, qD⟩, fun U hU hW => ⟨rfl, by rw [hU], by rw [hU]; exact hPc, va_K.moved hW.alike hK, hDc.weaken (fun _ _ _ _ => trivial)⟩⟩ rfl rfl hl.1 rfl (lv_room (Nat.le_of_ble_eq_true rfl)) d_An_init_30 ⟨(show 1 + i * 4 + 1 + 3 ≤ 161 from by omega), (show 40 + i * 96 + 6 + 90 ≤ 3880 from by omega)⟩) hS (fun q _ h => hFc q h) hFc (fun u t H1 locs ht hvm hw hB hz1 hk1 hS => ?_)
      obtain ⟨a_6, r_7, b_8⟩ := u
      try dsimp only at hw hB
      obtain ⟨hP1, hK1, hD1⟩ := hB
      rw [ht] at hP1
      obtain ⟨hP, hD⟩ := va_joinQ (X := [(h, .inr (6, [.ref q1, .int 0, .int 0])), (q1, .inl ((cT 3), 40, .inr (.inr (.inr (.inr g))))), (q5, .inr (7, [.int 0, .int 0, .int 0, .int 0, .null, .null]))]) (cx := [(q5, .inr (7, [.int 0, .int 0, .int 0, .int 0, .null, .null]))]) (wr := [(h, .inr (6, [.ref q1, .int 0, .int 0])), (q1, .inl ((cT 3), 40, .inr (.inr (.inr (.inr g)))))]) (w1 := [(q5, .inr (7, [.int 0, .int 0, .int 0, .int 0, .ref a_6, .ref b_8])), (a_6, .inl ((cT 0), 16, .inl (fun _ => 0))), (r_7, .inl ((cT 0), 72, .inl (fun _ => 0))), (b_8, .inr (1, [.ref r_7, .int (nI 0)]))]) hP hD [2] [0, 1] rfl rfl (by decide) (by decide) hk1 hFc hP1 hD1
      have hw9 := hw
      clear hPc hDc hFc hz1 hk1 hP1 hK1 hD1
      generalize H1 = H at hP hS ⊢
      have hP : va_P (dC, dI) vcl ([(h, .inr (6, [.ref q1, .int 0, .int 0])), (q1, .inl ((cT 3), 40, .inr (.inr (.inr (.inr g))))), (q5, .inr (7, [.int 0, .int 0, .int 0, .int 0, .ref a_6, .ref b_8])), (a_6, .inl ((cT 0), 16, .inl (fun _ => 0))), (r_7, .inl ((cT 0), 72, .inl (fun _ => 0))), (b_8, .inr (1, [.ref r_7, .int (nI 0)]))] ++ va_pl Lv Fv) H := hP
      have hD : va_D A ([(h, .inr (6, [.ref q1, .int 0, .int 0])), (q1, .inl ((cT 3), 40, .inr (.inr (.inr (.inr g))))), (q5, .inr (7, [.int 0, .int 0, .int 0, .int 0, .ref a_6, .ref b_8])), (a_6, .inl ((cT 0), 16, .inl (fun _ => 0))), (r_7, .inl ((cT 0), 72, .inl (fun _ => 0))), (b_8, .inr (1, [.ref r_7, .int (nI 0)]))] ++ va_pl Lv Fv) := hD
      refine va_astq hx hb hK hP hD hS 1 3 2 7 rfl rfl rfl rfl (i := (nI i)) (vp_in_nI (N := 40) (by omega) (by decide)) d_An_init_33 (fun H locs hP hD hS => ?_)
      have hP : va_P (dC, dI) vcl ([(h, .inr (6, [.ref q1, .int 0, .int 0])), (q1, .inl ((cT 3), 40, .inr (.inr (.inr (.inr (va_up g (nI i).toNatClampNeg (some q5))))))), (q5, .inr (7, [.int 0, .int 0, .int 0, .int 0, .ref a_6, .ref b_8])), (a_6, .inl ((cT 0), 16, .inl (fun _ => 0))), (r_7, .inl ((cT 0), 72, .inl (fun _ => 0))), (b_8, .inr (1, [.ref r_7, .int (nI 0)]))] ++ va_pl Lv Fv) H := hP
      have hD : va_D A ([(h, .inr (6, [.ref q1, .int 0, .int 0])), (q1, .inl ((cT 3), 40, .inr (.inr (.inr (.inr (va_up g (nI i).toNatClampNeg (some q5))))))), (q5, .inr (7, [.int 0, .int 0, .int 0, .int 0, .ref a_6, .ref b_8])), (a_6, .inl ((cT 0), 16, .inl (fun _ => 0))), (r_7, .inl ((cT 0), 72, .inl (fun _ => 0))), (b_8, .inr (1, [.ref r_7, .int (nI 0)]))] ++ va_pl Lv Fv) := hD
      have hP := hP.part (cx := [(h, .inr (6, [.ref q1, .int 0, .int 0])), (q1, .inl ((cT 3), 40, .inr (.inr (.inr (.inr (va_up g (nI i).toNatClampNeg (some q5))))))), (q5, .inr (7, [.int 0, .int 0, .int 0, .int 0, .ref a_6, .ref b_8])), (r_7, .inl ((cT 0), 72, .inl (fun _ => 0))), (b_8, .inr (1, [.ref r_7, .int (nI 0)])), (a_6, .inl ((cT 0), 16, .inl (fun _ => 0)))]) [0, 1, 2, 4, 5, 3] rfl
      have hD := hD.part (cx := [(h, .inr (6, [.ref q1, .int 0, .int 0])), (q1, .inl ((cT 3), 40, .inr (.inr (.inr (.inr (va_up g (nI i).toNatClampNeg (some q5))))))), (q5, .inr (7, [.int 0, .int 0, .int 0, .int 0, .ref a_6, .ref b_8])), (r_7, .inl ((cT 0), 72, .inl (fun _ => 0))), (b_8, .inr (1, [.ref r_7, .int (nI 0)])), (a_6, .inl ((cT 0), 16, .inl (fun _ => 0)))]) [0, 1, 2, 4, 5, 3] (by decide) rfl
      obtain ⟨hP, hD, hn_a⟩ := pl_add (X := [(h, .inr (6, [.ref q1, .int 0, .int 0])), (q1, .inl ((cT 3), 40, .inr (.inr (.inr (.inr (va_up g (nI i).toNatClampNeg (some q5))))))), (q5, .inr (7, [.int 0, .int 0, .int 0, .int 0, .ref a_6, .ref b_8])), (r_7, .inl ((cT 0), 72, .inl (fun _ => 0))), (b_8, .inr (1, [.ref r_7, .int (nI 0)]))]) hP hD
      have hP : va_P (dC, dI) vcl ([(h, .inr (6, [.ref q1, .int 0, .int 0])), (q1, .inl ((cT 3), 40, .inr (.inr (.inr (.inr (va_up g (nI i).toNatClampNeg (some q5))))))), (q5, .inr (7, [.int 0, .int 0, .int 0, .int 0, .ref a_6, .ref b_8])), (r_7, .inl ((cT 0), 72, .inl (fun _ => 0))), (b_8, .inr (1, [.ref r_7, .int (nI 0)]))] ++ va_pl (a_6 :: Lv) (va_up Fv a_6 (.inl ((cT 0), 16, .inl (fun _ => 0))))) H := hP
      have hD : va_D A ([(h, .inr (6, [.ref q1, .int 0, .int 0])), (q1, .inl ((cT 3), 40, .inr (.inr (.inr (.inr (va_up g (nI i).toNatClampNeg (some q5))))))), (q5, .inr (7, [.int 0, .int 0, .int 0, .int 0, .ref a_6, .ref b_8])), (r_7, .inl ((cT 0), 72, .inl (fun _ => 0))), (b_8, .inr (1, [.ref r_7, .int (nI 0)]))] ++ va_pl (a_6 :: Lv) (va_up Fv a_6 (.inl ((cT 0), 16, .inl (fun _ => 0))))) := hD
      have hP := hP.part (cx := [(h, .inr (6, [.ref q1, .int 0, .int 0])), (q1, .inl ((cT 3), 40, .inr (.inr (.inr (.inr (va_up g (nI i).toNatClampNeg (some q5))))))), (q5, .inr (7, [.int 0, .int 0, .int 0, .int 0, .ref a_6, .ref b_8])), (b_8, .inr (1, [.ref r_7, .int (nI 0)])), (r_7, .inl ((cT 0), 72, .inl (fun _ => 0)))]) [0, 1, 2, 4, 3] rfl
      have hD := hD.part (cx := [(h, .inr (6, [.ref q1, .int 0, .int 0])), (q1, .inl ((cT 3), 40, .inr (.inr (.inr (.inr (va_up g (nI i).toNatClampNeg (some q5))))))), (q5, .inr (7, [.int 0, .int 0, .int 0, .int 0, .ref a_6, .ref b_8])), (b_8, .inr (1, [.ref r_7, .int (nI 0)])), (r_7, .inl ((cT 0), 72, .inl (fun _ => 0)))]) [0, 1, 2, 4, 3] (by decide) rfl
      obtain ⟨hP, hD, hn_r⟩ := pl_add (X := [(h, .inr (6, [.ref q1, .int 0, .int 0])), (q1, .inl ((cT 3), 40, .inr (.inr (.inr (.inr (va_up g (nI i).toNatClampNeg (some q5))))))), (q5, .inr (7, [.int 0, .int 0, .int 0, .int 0, .ref a_6, .ref b_8])), (b_8, .inr (1, [.ref r_7, .int (nI 0)]))]) hP hD
      have hP : va_P (dC, dI) vcl ([(h, .inr (6, [.ref q1, .int 0, .int 0])), (q1, .inl ((cT 3), 40, .inr (.inr (.inr (.inr (va_up g (nI i).toNatClampNeg (some q5))))))), (q5, .inr (7, [.int 0, .int 0, .int 0, .int 0, .ref a_6, .ref b_8])), (b_8, .inr (1, [.ref r_7, .int (nI 0)]))] ++ va_pl (r_7 :: (a_6 :: Lv)) (va_up (va_up Fv a_6 (.inl ((cT 0), 16, .inl (fun _ => 0)))) r_7 (.inl ((cT 0), 72, .inl (fun _ => 0))))) H := hP
      have hD : va_D A ([(h, .inr (6, [.ref q1, .int 0, .int 0])), (q1, .inl ((cT 3), 40, .inr (.inr (.inr (.inr (va_up g (nI i).toNatClampNeg (some q5))))))), (q5, .inr (7, [.int 0, .int 0, .int 0, .int 0, .ref a_6, .ref b_8])), (b_8, .inr (1, [.ref r_7, .int (nI 0)]))] ++ va_pl (r_7 :: (a_6 :: Lv)) (va_up (va_up Fv a_6 (.inl ((cT 0), 16, .inl (fun _ => 0)))) r_7 (.inl ((cT 0), 72, .inl (fun _ => 0))))) := hD
      obtain ⟨hP, hD, hn_b⟩ := pl_add (X := [(h, .inr (6, [.ref q1, .int 0, .int 0])), (q1, .inl ((cT 3), 40, .inr (.inr (.inr (.inr (va_up g (nI i).toNatClampNeg (some q5))))))), (q5, .inr (7, [.int 0, .int 0, .int 0, .int 0, .ref a_6, .ref b_8]))]) hP hD
      have hP : va_P (dC, dI) vcl ([(h, .inr (6, [.ref q1, .int 0, .int 0])), (q1, .inl ((cT 3), 40, .inr (.inr (.inr (.inr (va_up g (nI i).toNatClampNeg (some q5))))))), (q5, .inr (7, [.int 0, .int 0, .int 0, .int 0, .ref a_6, .ref b_8]))] ++ va_pl (b_8 :: (r_7 :: (a_6 :: Lv))) (va_up (va_up (va_up Fv a_6 (.inl ((cT 0), 16, .inl (fun _ => 0)))) r_7 (.inl ((cT 0), 72, .inl (fun _ => 0)))) b_8 (.inr (1, [.ref r_7, .int (nI 0)])))) H := hP
      have hD : va_D A ([(h, .inr (6, [.ref q1, .int 0, .int 0])), (q1, .inl ((cT 3), 40, .inr (.inr (.inr (.inr (va_up g (nI i).toNatClampNeg (some q5))))))), (q5, .inr (7, [.int 0, .int 0, .int 0, .int 0, .ref a_6, .ref b_8]))] ++ va_pl (b_8 :: (r_7 :: (a_6 :: Lv))) (va_up (va_up (va_up Fv a_6 (.inl ((cT 0), 16, .inl (fun _ => 0)))) r_7 (.inl ((cT 0), 72, .inl (fun _ => 0)))) b_8 (.inr (1, [.ref r_7, .int (nI 0)])))) := hD
      obtain ⟨hP, hD, hn_q⟩ := pl_add (X := [(h, .inr (6, [.ref q1, .int 0, .int 0])), (q1, .inl ((cT 3), 40, .inr (.inr (.inr (.inr (va_up g (nI i).toNatClampNeg (some q5)))))))]) hP hD
      have hP : va_P (dC, dI) vcl ([(h, .inr (6, [.ref q1, .int 0, .int 0])), (q1, .inl ((cT 3), 40, .inr (.inr (.inr (.inr (va_up g (nI i).toNatClampNeg (some q5)))))))] ++ va_pl (q5 :: (b_8 :: (r_7 :: (a_6 :: Lv)))) (va_up (va_up (va_up (va_up Fv a_6 (.inl ((cT 0), 16, .inl (fun _ => 0)))) r_7 (.inl ((cT 0), 72, .inl (fun _ => 0)))) b_8 (.inr (1, [.ref r_7, .int (nI 0)]))) q5 (.inr (7, [.int 0, .int 0, .int 0, .int 0, .ref a_6, .ref b_8])))) H := hP
      have hD : va_D A ([(h, .inr (6, [.ref q1, .int 0, .int 0])), (q1, .inl ((cT 3), 40, .inr (.inr (.inr (.inr (va_up g (nI i).toNatClampNeg (some q5)))))))] ++ va_pl (q5 :: (b_8 :: (r_7 :: (a_6 :: Lv)))) (va_up (va_up (va_up (va_up Fv a_6 (.inl ((cT 0), 16, .inl (fun _ => 0)))) r_7 (.inl ((cT 0), 72, .inl (fun _ => 0)))) b_8 (.inr (1, [.ref r_7, .int (nI 0)]))) q5 (.inr (7, [.int 0, .int 0, .int 0, .int 0, .ref a_6, .ref b_8])))) := hD
      have hp9 := PF_kept (x1 := 0) (x2 := 0) (x3 := 0) (x4 := 0) hpf hn_a hn_r hn_b hn_q AB_0 AB_0
      refine lv_iinc (k := 0) (v := nI (i + 1)) (lv' := [(1, .int (nI (i + 1))), (0, .ref h)]) hx hb d_An_init_34 hl rfl (nI_1 i) (by decide) rfl (fun ls hl => ?_)
      refine lv_goto (tgt := 15) hx hb d_An_init_37 (by decide) ?_
      refine W.widen (k := 1 + (i + 1) * 4) (n := 40 + (i + 1) * 96) (by omega) (by omega) ?_
      exact ih (i + 1) _ _ _ _ _ _ (by omega) (hp9.1) (EXF_trans hex hp9.2) (by rw [nI_clamp (by omega)]; exact PLK_up hpk hp9.2 List.mem_cons_self (by rw [va_up_self]; rfl)) hP hD hS hl
  refine W.widen (k := 1 + 0 * 4) (n := 40 + 0 * 96) (by omega) (by omega) ?_
  refine L2 _ (fun g Lv Fv H locs ls hpf hex hpk hP hD hS hl => ?_) (40 - 0) 0 (fun _ => none) L F H _ ls (by omega) (hpf) (EXF_rfl) (fun i9 h9 => absurd h9 (Nat.not_lt_zero i9)) hP hD hS hl
  refine W.widen (k := 161) (n := 3880) (by omega) (by omega) ?_
  have hP9 := hP.part (cx := [(h, .inr (6, [.ref q1, .int 0, .int 0])), (q1, .inl ((cT 3), 40, .inr (.inr (.inr (.inr g)))))]) [0, 1] rfl
  have hD9 := hD.part (cx := [(h, .inr (6, [.ref q1, .int 0, .int 0])), (q1, .inl ((cT 3), 40, .inr (.inr (.inr (.inr g)))))]) [0, 1] (by decide) rfl
  exact W.vret hx hb hr (fun t ht hW => ⟨⟨⟨q1, g, Lv, Fv⟩, rfl, ⟨hpf, hex, hpk⟩, by rw [ht]; exact hP9, va_K.moved hW.alike hK, hD9⟩, hS.F ht⟩) hS.2.2 d_An_init_40
set_option maxHeartbeats 4000000 in
set_option maxRecDepth 100000 in
/-- Trials -/
theorem n_Ts (l : Launch) (dC : Nat → ClassId) (dI : Nat → Nat → Nat) (cT : Nat → ClassId) (sz : Nat) (h : Nat) (L : List Nat) (F : Nat → va_E) (hpf : PF cT L F) : Met l y_Ts_init (Cond.code y_Ts_init b_Ts_init 2 (Option.none : Option Jvm.ClassFile.FieldType) :: BIG) ({ frames := 3, cells := 13, slots := 144, locals := 70 }) (va_Pc [.ref h] (fun U => U.heap.size = sz ∧ va_P (dC, dI) vcl ([(h, .inr (9, [.null, .long 0, .long 0, .int 0]))] ++ va_pl L F) U.heap ∧ va_K (dC, dI) vcl (tyL cT) U ∧ va_D (fun _ => True) ([(h, .inr (9, [.null, .long 0, .long 0, .int 0]))] ++ va_pl L F) ∧ nw_T U U.heap)) (va_Qv (S := Nat × (Nat → Option Nat) × (List Nat) × (Nat → va_E)) (fun u => match u with | (p, g, L2, F2) => PF cT L2 F2 ∧ EXF L F L2 F2 ∧ PLK 8 g 6 L2 F2) (fun u t => match u with | (p, g, L2, F2) => va_P (dC, dI) vcl ([(h, .inr (9, [.ref p, .long 0, .long 1, .int 0])), (p, .inl ((cT 4), 6, .inr (.inr (.inr (.inr g)))))] ++ va_pl L2 F2) t.heap ∧ va_K (dC, dI) vcl (tyL cT) t ∧ va_D (va_A ([(h, .inr (9, [.null, .long 0, .long 0, .int 0]))] ++ va_pl L F) sz) ([(h, .inr (9, [.ref p, .long 0, .long 1, .int 0])), (p, .inl ((cT 4), 6, .inr (.inr (.inr (.inr g)))))] ++ va_pl L2 F2)) (va_A ([(h, .inr (9, [.null, .long 0, .long 0, .int 0]))] ++ va_pl L F) sz)) 13 144 (va_A ([(h, .inr (9, [.null, .long 0, .long 0, .int 0]))] ++ va_pl L F) sz) := by
  refine Met.ofW (cc := b_Ts_init) (maxL := 2) (ret := (Option.none : Option Jvm.ClassFile.FieldType)) (by decide) rfl ?_
  intro p e s m args below meth c s₁ B hml hv
  obtain ⟨hargs, hsz, hP, hK, hD0, hE⟩ := hv
  have hx := B.exec
  have hb := B.bytes
  have hr := B.returns
  have hts := atoms_spec (ws := (Cond.code y_Ts_init b_Ts_init 2 (Option.none : Option Jvm.ClassFile.FieldType) :: BIG)) B.pre
  have hg : ∀ w ∈ BIG, w.before _ s = true := fun w h => hts w (List.mem_cons_of_mem _ h)
  have hown : s.vm.findClass "DoorServer$Trials" = some m.cls := findClass_of_methodNamed B.named
  have hlocks := B.notSynchronized
  have hin : meth.name = "<init>" := (name_of_methodNamed B.named B.method).1
  subst hsz
  have hD := hD0.self (sz := s.heap.size)
  generalize hAe : va_A ([(h, .inr (9, [.null, .long 0, .long 0, .int 0]))] ++ va_pl L F) s.heap.size = A at hD ⊢
  have hA : ∀ q : Nat, s.heap.size ≤ q → A q := fun q h => by rw [← hAe]; exact Or.inr h
  have hS : va_S A s.heap s.heap [] := va_S.rf
  have hl := lv_entry ([.ref h]) (n := 2) (Nat.le_of_ble_eq_true rfl)
  refine W.eq (g2 := entryFrame m (List.toArray [.ref h]) 2) (by rw [hargs]) ?_
  rw [lg_entry_eq]
  generalize (lg_sl ([.ref h]) ++ List.replicate (2 - (lg_sl ([.ref h])).length) Slot.unset).toArray = ls at hl ⊢
  have hl : lv_has ls 2 [(0, .ref h)] := hl
  change W p l e ({ frames := 3, cells := 13, slots := 144, locals := 70 } : Room) s m args below meth c s.heap [] 0 0 _ _
  have hP : va_P (dC, dI) vcl ([(h, .inr (9, [.null, .long 0, .long 0, .int 0]))] ++ va_pl L F) s.heap := hP
  refine lv_aload_n hx hb d_Ts_init_0 rfl (lv_at hl 0 rfl) ?_
  refine W.objInit hx hb hown (hg _ k_196) (hg _ k_28) (hg _ k_29) rfl (by rw [hml]; exact hl.1) rfl d_Ts_init_1 (Nat.le_of_ble_eq_true rfl) (Nat.le_of_ble_eq_true rfl) ?_
  refine W.eq (g2 := F0 m 4 ls []) rfl ?_
  refine lv_aload_n hx hb d_Ts_init_4 rfl (lv_at hl 0 rfl) ?_
  refine lv_bipush (v := 6) hx hb d_Ts_init_5 (by decide) ?_
  refine va_newq (C := "DoorServer$Trial") (n := 6) (N' := 6) hx hb hown (hg _ k_197) hE.ao4 hK hP hD hS hA (by decide) (by decide) (by decide) (Nat.le_of_ble_eq_true rfl) (Nat.le_of_ble_eq_true rfl) d_Ts_init_7 (fun q10 cA9 H hK9 hP hD hS => ?_)
  obtain rfl := nk_4 hK9
  clear hK9
  have hP := hP.swap
  have hD := hD.swap
  have hP : va_P (dC, dI) vcl ([(h, .inr (9, [.null, .long 0, .long 0, .int 0])), (q10, .inl ((cT 4), 6, .inr (.inr (.inr (.inr (fun _ => none))))))] ++ va_pl L F) H := hP
  have hD : va_D A ([(h, .inr (9, [.null, .long 0, .long 0, .int 0])), (q10, .inl ((cT 4), 6, .inr (.inr (.inr (.inr (fun _ => none))))))] ++ va_pl L F) := hD
  refine va_putF (D := (dC, dI)) (ci := 9) (v := (.ref q10)) (ty := (.array (.object "DoorServer$Trial"))) (C := R_Ts) (T := F_Ts) (N := 4) hx hb hg in_Ts t_Ts tok_Ts nm_Ts hown hK hP hD hS 0 rfl rfl 0 (by decide) (hg _ k_231) (fun _ h9 => h9) rfl hin rfl (by decide +kernel) rfl rfl (Nat.le_of_ble_eq_true rfl) d_Ts_init_10 (fun H locs hP hD hS => ?_)
  have hP : va_P (dC, dI) vcl ([(h, .inr (9, [.ref q10, .long 0, .long 0, .int 0])), (q10, .inl ((cT 4), 6, .inr (.inr (.inr (.inr (fun _ => none))))))] ++ va_pl L F) H := hP
  have hD : va_D A ([(h, .inr (9, [.ref q10, .long 0, .long 0, .int 0])), (q10, .inl ((cT 4), 6, .inr (.inr (.inr (.inr (fun _ => none))))))] ++ va_pl L F) := hD
  refine lv_aload_n hx hb d_Ts_init_13 rfl (lv_at hl 0 rfl) ?_
  refine lv_lconst (v := 1) hx hb d_Ts_init_14 (by decide) ?_
  refine va_put (D := (dC, dI)) (ci := 9) (v := (.long 1)) (ty := .long) (C := R_Ts) (T := F_Ts) (N := 4) hx hb hg in_Ts t_Ts tok_Ts nm_Ts hown hK hP hD hS 0 rfl rfl 2 (by decide) (hg _ k_233) (fun _ h9 => h9) rfl (by decide +kernel) rfl rfl (Nat.le_of_ble_eq_true rfl) d_Ts_init_15 (fun H locs hP hD hS => ?_)
  have hP : va_P (dC, dI) vcl ([(h, .inr (9, [.ref q10, .long 0, .long 1, .int 0])), (q10, .inl ((cT 4), 6, .inr (.inr (.inr (.inr (fun _ => none))))))] ++ va_pl L F) H := hP
  have hD : va_D A ([(h, .inr (9, [.ref q10, .long 0, .long 1, .int 0])), (q10, .inl ((cT 4), 6, .inr (.inr (.inr (.inr (fun _ => none))))))] ++ va_pl L F) := hD
  refine lv_iconst (v := 0) hx hb d_Ts_init_18 (by decide) ?_
  refine lv_istore_n (lv' := [(1, .int 0), (0, .ref h)]) hx hb d_Ts_init_19 rfl hl (by decide) rfl (fun ls hl => ?_)
  have hl := lv_sub hl [0, 1] (show _ = [(1, .int 0), (0, .ref h)] from rfl)
  have L11 : ∀ (Q : State → Prop) (exit : ∀ (g : Nat → Option Nat) (Lv : List Nat) (Fv : Nat → va_E) (H : Heap) (locs : List Loc) (ls : Array Slot), (PF cT Lv Fv) → (EXF L F Lv Fv) → (PLK 8 g 6 Lv Fv) → va_P (dC, dI) vcl ([(h, .inr (9, [.ref q10, .long 0, .long 1, .int 0])), (q10, .inl ((cT 4), 6, .inr (.inr (.inr (.inr g)))))] ++ va_pl Lv Fv) H → va_D A ([(h, .inr (9, [.ref q10, .long 0, .long 1, .int 0])), (q10, .inl ((cT 4), 6, .inr (.inr (.inr (.inr g)))))] ++ va_pl Lv Fv) → va_S A s.heap H locs → lv_has ls 2 [(1, .int (nI 6)), (0, .ref h)] → W p l e ({ frames := 3, cells := 13, slots := 144, locals := 70 } : Room) s m args below meth c H locs (1 + 6 * 2) (6 + 6 * 23) Q (F0 m 45 ls [])) (j8 i : Nat) (g : Nat → Option Nat) (Lv : List Nat) (Fv : Nat → va_E) (H : Heap) (locs : List Loc) (ls : Array Slot), i + j8 = 6 → (PF cT Lv Fv) → (EXF L F Lv Fv) → (PLK 8 g i Lv Fv) → va_P (dC, dI) vcl ([(h, .inr (9, [.ref q10, .long 0, .long 1, .int 0])), (q10, .inl ((cT 4), 6, .inr (.inr (.inr (.inr g)))))] ++ va_pl Lv Fv) H → va_D A ([(h, .inr (9, [.ref q10, .long 0, .long 1, .int 0])), (q10, .inl ((cT 4), 6, .inr (.inr (.inr (.inr g)))))] ++ va_pl Lv Fv) → va_S A s.heap H locs → lv_has ls 2 [(1, .int (nI i)), (0, .ref h)] → W p l e ({ frames := 3, cells := 13, slots := 144, locals := 70 } : Room) s m args below meth c H locs (1 + i * 2) (6 + i * 23) Q (F0 m 20 ls []) := by
    intro Q exit j8
    induction j8 with
    | zero => 
      intro i g Lv Fv H locs ls hij hpf hex hpk hP hD hS hl
      have hij : 6 = i := by omega
      refine lv_iload_n hx hb d_Ts_init_20 rfl (lv_at hl 0 rfl) ?_
      refine lv_bipush (v := 6) hx hb d_Ts_init_21 (by decide) ?_
      refine lv_icmp_ge (tgt := 45) hx hb d_Ts_init_23 (by decide) (fun hc12 => ?_) (fun hn9 => absurd (by rw [← hij]; decide) hn9)
      subst hij
      exact exit g Lv Fv _ _ _ hpf hex hpk hP hD hS hl
    | succ j8 ih => 
      intro i g Lv Fv H locs ls hij hpf hex hpk hP hD hS hl
      have hlt : i < 6 := by omega
      refine lv_iload_n hx hb d_Ts_init_20 rfl (lv_at hl 0 rfl) ?_
      refine lv_bipush (v := 6) hx hb d_Ts_init_21 (by decide) ?_
      refine lv_icmp_ge (tgt := 45) hx hb d_Ts_init_23 (by decide) (fun hn9 => absurd hn9 (nI_ge (b := 6) hlt (by decide))) (fun hc13 => ?_)
      refine lv_aload_n hx hb d_Ts_init_26 rfl (lv_at hl 1 rfl) ?_
      refine va_get (D := (dC, dI)) (ci := 9) (v := (.ref q10)) (C := R_Ts) (T := F_Ts) (N := 4) hx hb hg in_Ts hown hK hP 0 rfl rfl 0 (by decide) (hg _ k_231) (fun _ h9 => h9) rfl d_Ts_init_27 ?_
      refine lv_iload_n hx hb d_Ts_init_30 rfl (lv_at hl 0 rfl) ?_
      refine va_new (ci := 8) (fs := [.int 0, .long 0, .int 0, .int 0, .int 0, .int 0, .null]) (C := R_Tl) (T := F_Tl) (N := 7) hx hb hg in_Tl t_Tl tok_Tl hown (hg _ k_197) (hg _ k_199) (hg _ k_9) hK hP hD hS hA rfl (fun j hj => match j, hj with | 0, _ => rfl | 1, _ => rfl | 2, _ => rfl | 3, _ => rfl | 4, _ => rfl | 5, _ => rfl | 6, _ => rfl | (n9 + 7), h9 => absurd h9 (by omega)) (show 1 + i * 2 + 1 ≤ 13 from by omega) (show 6 + i * 23 + 7 ≤ 144 from by omega) d_Ts_init_31 (fun q14 H hP hD hS => ?_)
      have hP := hP.swap
      have hD := hD.swap
      have hP : va_P (dC, dI) vcl ([(h, .inr (9, [.ref q10, .long 0, .long 1, .int 0])), (q10, .inl ((cT 4), 6, .inr (.inr (.inr (.inr g))))), (q14, .inr (8, [.int 0, .long 0, .int 0, .int 0, .int 0, .int 0, .null]))] ++ va_pl Lv Fv) H := hP
      have hD : va_D A ([(h, .inr (9, [.ref q10, .long 0, .long 1, .int 0])), (q10, .inl ((cT 4), 6, .inr (.inr (.inr (.inr g))))), (q14, .inr (8, [.int 0, .long 0, .int 0, .int 0, .int 0, .int 0, .null]))] ++ va_pl Lv Fv) := hD
      refine lv_dup hx hb d_Ts_init_34 rfl ?_
      have hPc := hP.sub (ws' := [(q14, .inr (8, [.int 0, .long 0, .int 0, .int 0, .int 0, .int 0, .null]))]) [2] rfl
      have hDc := hD.sub (ws' := [(q14, .inr (8, [.int 0, .long 0, .int 0, .int 0, .int 0, .int 0, .null]))]) [2] (by decide) rfl
      have hFc := va_free (wc := [(q14, .inr (8, [.int 0, .long 0, .int 0, .int 0, .int 0, .int 0, .null]))]) hD hS hA [2] rfl
      refine va_callv (va_runIN (As := []) (rest := [.ref q14, .int (nI i), .ref q10]) ⟨hx, hb, hml, hown, hg⟩ (n_Tl l dC dI cT H.size q14 ) ⟨va_cnB 0 hg (gI (List.forall_mem_cons.mpr ⟨k_202, fun _ h => h⟩)) rfl rfl rfl hE.nw_Tl (hg _ k_9) (by decide +kernel) ⟨Nat.le_of_ble_eq_true rfl, Nat.le_of_ble_eq_true rfl⟩, rfl, (hg _ k_201)⟩ ⟨fun a U g mk q => by obtain ⟨q0, q1, qP, qK, qD⟩ := q; exact ⟨q0, q1, qP, va_K.moved (u := U) (U := U.calling g mk a) (Vm.Alike.refl U.vm) qK, qD⟩, fun U hU hW => ⟨rfl, by rw [hU], by rw [hU]; exact hPc, va_K.moved hW.alike hK, hDc.weaken (fun _ _ _ _ => trivial)⟩⟩ rfl rfl hl.1 rfl (lv_room (Nat.le_of_ble_eq_true rfl)) d_Ts_init_35 ⟨(show 1 + i * 2 + 1 + 1 ≤ 13 from by omega), (show 6 + i * 23 + 7 + 16 ≤ 144 from by omega)⟩) hS (fun q _ h => hFc q h) hFc (fun u t H1 locs ht hvm hw hB hz1 hk1 hS => ?_)
      obtain ⟨a_15, rfl⟩ : ∃ z, z = u := ⟨_, rfl⟩
      try dsimp only at hw hB
      obtain ⟨hP1, hK1, hD1⟩ := hB
      rw [ht] at hP1
      obtain ⟨hP, hD⟩ := va_joinQ (X := [(h, .inr (9, [.ref q10, .long 0, .long 1, .int 0])), (q10, .inl ((cT 4), 6, .inr (.inr (.inr (.inr g))))), (q14, .inr (8, [.int 0, .long 0, .int 0, .int 0, .int 0, .int 0, .null]))]) (cx := [(q14, .inr (8, [.int 0, .long 0, .int 0, .int 0, .int 0, .int 0, .null]))]) (wr := [(h, .inr (9, [.ref q10, .long 0, .long 1, .int 0])), (q10, .inl ((cT 4), 6, .inr (.inr (.inr (.inr g)))))]) (w1 := [(q14, .inr (8, [.int 0, .long 0, .int 0, .int 0, .int 0, .int 0, .ref a_15])), (a_15, .inl ((cT 0), 16, .inl (fun _ => 0)))]) hP hD [2] [0, 1] rfl rfl (by decide) (by decide) hk1 hFc hP1 hD1
      have hw16 := hw
      clear hPc hDc hFc hz1 hk1 hP1 hK1 hD1
      generalize H1 = H at hP hS ⊢
      have hP : va_P (dC, dI) vcl ([(h, .inr (9, [.ref q10, .long 0, .long 1, .int 0])), (q10, .inl ((cT 4), 6, .inr (.inr (.inr (.inr g))))), (q14, .inr (8, [.int 0, .long 0, .int 0, .int 0, .int 0, .int 0, .ref a_15])), (a_15, .inl ((cT 0), 16, .inl (fun _ => 0)))] ++ va_pl Lv Fv) H := hP
      have hD : va_D A ([(h, .inr (9, [.ref q10, .long 0, .long 1, .int 0])), (q10, .inl ((cT 4), 6, .inr (.inr (.inr (.inr g))))), (q14, .inr (8, [.int 0, .long 0, .int 0, .int 0, .int 0, .int 0, .ref a_15])), (a_15, .inl ((cT 0), 16, .inl (fun _ => 0)))] ++ va_pl Lv Fv) := hD
      refine va_astq hx hb hK hP hD hS 1 4 2 8 rfl rfl rfl rfl (i := (nI i)) (vp_in_nI (N := 6) (by omega) (by decide)) d_Ts_init_38 (fun H locs hP hD hS => ?_)
      have hP : va_P (dC, dI) vcl ([(h, .inr (9, [.ref q10, .long 0, .long 1, .int 0])), (q10, .inl ((cT 4), 6, .inr (.inr (.inr (.inr (va_up g (nI i).toNatClampNeg (some q14))))))), (q14, .inr (8, [.int 0, .long 0, .int 0, .int 0, .int 0, .int 0, .ref a_15])), (a_15, .inl ((cT 0), 16, .inl (fun _ => 0)))] ++ va_pl Lv Fv) H := hP
      have hD : va_D A ([(h, .inr (9, [.ref q10, .long 0, .long 1, .int 0])), (q10, .inl ((cT 4), 6, .inr (.inr (.inr (.inr (va_up g (nI i).toNatClampNeg (some q14))))))), (q14, .inr (8, [.int 0, .long 0, .int 0, .int 0, .int 0, .int 0, .ref a_15])), (a_15, .inl ((cT 0), 16, .inl (fun _ => 0)))] ++ va_pl Lv Fv) := hD
      obtain ⟨hP, hD, hn_a⟩ := pl_add (X := [(h, .inr (9, [.ref q10, .long 0, .long 1, .int 0])), (q10, .inl ((cT 4), 6, .inr (.inr (.inr (.inr (va_up g (nI i).toNatClampNeg (some q14))))))), (q14, .inr (8, [.int 0, .long 0, .int 0, .int 0, .int 0, .int 0, .ref a_15]))]) hP hD
      have hP : va_P (dC, dI) vcl ([(h, .inr (9, [.ref q10, .long 0, .long 1, .int 0])), (q10, .inl ((cT 4), 6, .inr (.inr (.inr (.inr (va_up g (nI i).toNatClampNeg (some q14))))))), (q14, .inr (8, [.int 0, .long 0, .int 0, .int 0, .int 0, .int 0, .ref a_15]))] ++ va_pl (a_15 :: Lv) (va_up Fv a_15 (.inl ((cT 0), 16, .inl (fun _ => 0))))) H := hP
      have hD : va_D A ([(h, .inr (9, [.ref q10, .long 0, .long 1, .int 0])), (q10, .inl ((cT 4), 6, .inr (.inr (.inr (.inr (va_up g (nI i).toNatClampNeg (some q14))))))), (q14, .inr (8, [.int 0, .long 0, .int 0, .int 0, .int 0, .int 0, .ref a_15]))] ++ va_pl (a_15 :: Lv) (va_up Fv a_15 (.inl ((cT 0), 16, .inl (fun _ => 0))))) := hD
      obtain ⟨hP, hD, hn_q⟩ := pl_add (X := [(h, .inr (9, [.ref q10, .long 0, .long 1, .int 0])), (q10, .inl ((cT 4), 6, .inr (.inr (.inr (.inr (va_up g (nI i).toNatClampNeg (some q14)))))))]) hP hD
      have hP : va_P (dC, dI) vcl ([(h, .inr (9, [.ref q10, .long 0, .long 1, .int 0])), (q10, .inl ((cT 4), 6, .inr (.inr (.inr (.inr (va_up g (nI i).toNatClampNeg (some q14)))))))] ++ va_pl (q14 :: (a_15 :: Lv)) (va_up (va_up Fv a_15 (.inl ((cT 0), 16, .inl (fun _ => 0)))) q14 (.inr (8, [.int 0, .long 0, .int 0, .int 0, .int 0, .int 0, .ref a_15])))) H := hP
      have hD : va_D A ([(h, .inr (9, [.ref q10, .long 0, .long 1, .int 0])), (q10, .inl ((cT 4), 6, .inr (.inr (.inr (.inr (va_up g (nI i).toNatClampNeg (some q14)))))))] ++ va_pl (q14 :: (a_15 :: Lv)) (va_up (va_up Fv a_15 (.inl ((cT 0), 16, .inl (fun _ => 0)))) q14 (.inr (8, [.int 0, .long 0, .int 0, .int 0, .int 0, .int 0, .ref a_15])))) := hD
      have hp9 := PF_trial (x1 := 0) (mk := 0) (x2 := 0) (x3 := 0) (x4 := 0) (x5 := 0) hpf hn_a hn_q AB_0
      refine lv_iinc (k := 0) (v := nI (i + 1)) (lv' := [(1, .int (nI (i + 1))), (0, .ref h)]) hx hb d_Ts_init_39 hl rfl (nI_1 i) (by decide) rfl (fun ls hl => ?_)
      refine lv_goto (tgt := 20) hx hb d_Ts_init_42 (by decide) ?_
      refine W.widen (k := 1 + (i + 1) * 2) (n := 6 + (i + 1) * 23) (by omega) (by omega) ?_
      exact ih (i + 1) _ _ _ _ _ _ (by omega) (hp9.1) (EXF_trans hex hp9.2) (by rw [nI_clamp (by omega)]; exact PLK_up hpk hp9.2 List.mem_cons_self (by rw [va_up_self]; rfl)) hP hD hS hl
  refine W.widen (k := 1 + 0 * 2) (n := 6 + 0 * 23) (by omega) (by omega) ?_
  refine L11 _ (fun g Lv Fv H locs ls hpf hex hpk hP hD hS hl => ?_) (6 - 0) 0 (fun _ => none) L F H _ ls (by omega) (hpf) (EXF_rfl) (fun i9 h9 => absurd h9 (Nat.not_lt_zero i9)) hP hD hS hl
  refine W.widen (k := 13) (n := 144) (by omega) (by omega) ?_
  have hP9 := hP.part (cx := [(h, .inr (9, [.ref q10, .long 0, .long 1, .int 0])), (q10, .inl ((cT 4), 6, .inr (.inr (.inr (.inr g)))))]) [0, 1] rfl
  have hD9 := hD.part (cx := [(h, .inr (9, [.ref q10, .long 0, .long 1, .int 0])), (q10, .inl ((cT 4), 6, .inr (.inr (.inr (.inr g)))))]) [0, 1] (by decide) rfl
  exact W.vret hx hb hr (fun t ht hW => ⟨⟨⟨q10, g, Lv, Fv⟩, rfl, ⟨hpf, hex, hpk⟩, by rw [ht]; exact hP9, va_K.moved hW.alike hK, hD9⟩, hS.F ht⟩) hS.2.2 d_Ts_init_45
set_option maxHeartbeats 4000000 in
set_option maxRecDepth 100000 in
/-- Sessions -/
theorem n_Ss (l : Launch) (dC : Nat → ClassId) (dI : Nat → Nat → Nat) (cT : Nat → ClassId) (sz : Nat) (h : Nat) (L : List Nat) (F : Nat → va_E) (hpf : PF cT L F) : Met l y_Ss_init (Cond.code y_Ss_init b_Ss_init 2 (Option.none : Option Jvm.ClassFile.FieldType) :: BIG) ({ frames := 3, cells := 151, slots := 1350, locals := 70 }) (va_Pc [.ref h] (fun U => U.heap.size = sz ∧ va_P (dC, dI) vcl ([(h, .inr (11, [.null, .int 0]))] ++ va_pl L F) U.heap ∧ va_K (dC, dI) vcl (tyL cT) U ∧ va_D (fun _ => True) ([(h, .inr (11, [.null, .int 0]))] ++ va_pl L F) ∧ nw_T U U.heap)) (va_Qv (S := Nat × (Nat → Option Nat) × (List Nat) × (Nat → va_E)) (fun u => match u with | (p, g, L2, F2) => PF cT L2 F2 ∧ EXF L F L2 F2 ∧ PLK 10 g 50 L2 F2) (fun u t => match u with | (p, g, L2, F2) => va_P (dC, dI) vcl ([(h, .inr (11, [.ref p, .int 0])), (p, .inl ((cT 5), 50, .inr (.inr (.inr (.inr g)))))] ++ va_pl L2 F2) t.heap ∧ va_K (dC, dI) vcl (tyL cT) t ∧ va_D (va_A ([(h, .inr (11, [.null, .int 0]))] ++ va_pl L F) sz) ([(h, .inr (11, [.ref p, .int 0])), (p, .inl ((cT 5), 50, .inr (.inr (.inr (.inr g)))))] ++ va_pl L2 F2)) (va_A ([(h, .inr (11, [.null, .int 0]))] ++ va_pl L F) sz)) 151 1350 (va_A ([(h, .inr (11, [.null, .int 0]))] ++ va_pl L F) sz) := by
  refine Met.ofW (cc := b_Ss_init) (maxL := 2) (ret := (Option.none : Option Jvm.ClassFile.FieldType)) (by decide) rfl ?_
  intro p e s m args below meth c s₁ B hml hv
  obtain ⟨hargs, hsz, hP, hK, hD0, hE⟩ := hv
  have hx := B.exec
  have hb := B.bytes
  have hr := B.returns
  have hts := atoms_spec (ws := (Cond.code y_Ss_init b_Ss_init 2 (Option.none : Option Jvm.ClassFile.FieldType) :: BIG)) B.pre
  have hg : ∀ w ∈ BIG, w.before _ s = true := fun w h => hts w (List.mem_cons_of_mem _ h)
  have hown : s.vm.findClass "DoorServer$Sessions" = some m.cls := findClass_of_methodNamed B.named
  have hlocks := B.notSynchronized
  have hin : meth.name = "<init>" := (name_of_methodNamed B.named B.method).1
  subst hsz
  have hD := hD0.self (sz := s.heap.size)
  generalize hAe : va_A ([(h, .inr (11, [.null, .int 0]))] ++ va_pl L F) s.heap.size = A at hD ⊢
  have hA : ∀ q : Nat, s.heap.size ≤ q → A q := fun q h => by rw [← hAe]; exact Or.inr h
  have hS : va_S A s.heap s.heap [] := va_S.rf
  have hl := lv_entry ([.ref h]) (n := 2) (Nat.le_of_ble_eq_true rfl)
  refine W.eq (g2 := entryFrame m (List.toArray [.ref h]) 2) (by rw [hargs]) ?_
  rw [lg_entry_eq]
  generalize (lg_sl ([.ref h]) ++ List.replicate (2 - (lg_sl ([.ref h])).length) Slot.unset).toArray = ls at hl ⊢
  have hl : lv_has ls 2 [(0, .ref h)] := hl
  change W p l e ({ frames := 3, cells := 151, slots := 1350, locals := 70 } : Room) s m args below meth c s.heap [] 0 0 _ _
  have hP : va_P (dC, dI) vcl ([(h, .inr (11, [.null, .int 0]))] ++ va_pl L F) s.heap := hP
  refine lv_aload_n hx hb d_Ss_init_0 rfl (lv_at hl 0 rfl) ?_
  refine W.objInit hx hb hown (hg _ k_250) (hg _ k_28) (hg _ k_29) rfl (by rw [hml]; exact hl.1) rfl d_Ss_init_1 (Nat.le_of_ble_eq_true rfl) (Nat.le_of_ble_eq_true rfl) ?_
  refine W.eq (g2 := F0 m 4 ls []) rfl ?_
  refine lv_aload_n hx hb d_Ss_init_4 rfl (lv_at hl 0 rfl) ?_
  refine lv_bipush (v := 50) hx hb d_Ss_init_5 (by decide) ?_
  refine va_newq (C := "DoorServer$Session") (n := 50) (N' := 50) hx hb hown (hg _ k_251) hE.ao5 hK hP hD hS hA (by decide) (by decide) (by decide) (Nat.le_of_ble_eq_true rfl) (Nat.le_of_ble_eq_true rfl) d_Ss_init_7 (fun q17 cA9 H hK9 hP hD hS => ?_)
  obtain rfl := nk_5 hK9
  clear hK9
  have hP := hP.swap
  have hD := hD.swap
  have hP : va_P (dC, dI) vcl ([(h, .inr (11, [.null, .int 0])), (q17, .inl ((cT 5), 50, .inr (.inr (.inr (.inr (fun _ => none))))))] ++ va_pl L F) H := hP
  have hD : va_D A ([(h, .inr (11, [.null, .int 0])), (q17, .inl ((cT 5), 50, .inr (.inr (.inr (.inr (fun _ => none))))))] ++ va_pl L F) := hD
  refine va_putF (D := (dC, dI)) (ci := 11) (v := (.ref q17)) (ty := (.array (.object "DoorServer$Session"))) (C := R_Ss) (T := F_Ss) (N := 2) hx hb hg in_Ss t_Ss tok_Ss nm_Ss hown hK hP hD hS 0 rfl rfl 0 (by decide) (hg _ k_294) (fun _ h9 => h9) rfl hin rfl (by decide +kernel) rfl rfl (Nat.le_of_ble_eq_true rfl) d_Ss_init_10 (fun H locs hP hD hS => ?_)
  have hP : va_P (dC, dI) vcl ([(h, .inr (11, [.ref q17, .int 0])), (q17, .inl ((cT 5), 50, .inr (.inr (.inr (.inr (fun _ => none))))))] ++ va_pl L F) H := hP
  have hD : va_D A ([(h, .inr (11, [.ref q17, .int 0])), (q17, .inl ((cT 5), 50, .inr (.inr (.inr (.inr (fun _ => none))))))] ++ va_pl L F) := hD
  refine lv_iconst (v := 0) hx hb d_Ss_init_13 (by decide) ?_
  refine lv_istore_n (lv' := [(1, .int 0), (0, .ref h)]) hx hb d_Ss_init_14 rfl hl (by decide) rfl (fun ls hl => ?_)
  have hl := lv_sub hl [0, 1] (show _ = [(1, .int 0), (0, .ref h)] from rfl)
  have L18 : ∀ (Q : State → Prop) (exit : ∀ (g : Nat → Option Nat) (Lv : List Nat) (Fv : Nat → va_E) (H : Heap) (locs : List Loc) (ls : Array Slot), (PF cT Lv Fv) → (EXF L F Lv Fv) → (PLK 10 g 50 Lv Fv) → va_P (dC, dI) vcl ([(h, .inr (11, [.ref q17, .int 0])), (q17, .inl ((cT 5), 50, .inr (.inr (.inr (.inr g)))))] ++ va_pl Lv Fv) H → va_D A ([(h, .inr (11, [.ref q17, .int 0])), (q17, .inl ((cT 5), 50, .inr (.inr (.inr (.inr g)))))] ++ va_pl Lv Fv) → va_S A s.heap H locs → lv_has ls 2 [(1, .int (nI 50)), (0, .ref h)] → W p l e ({ frames := 3, cells := 151, slots := 1350, locals := 70 } : Room) s m args below meth c H locs (1 + 50 * 3) (50 + 50 * 26) Q (F0 m 40 ls [])) (j8 i : Nat) (g : Nat → Option Nat) (Lv : List Nat) (Fv : Nat → va_E) (H : Heap) (locs : List Loc) (ls : Array Slot), i + j8 = 50 → (PF cT Lv Fv) → (EXF L F Lv Fv) → (PLK 10 g i Lv Fv) → va_P (dC, dI) vcl ([(h, .inr (11, [.ref q17, .int 0])), (q17, .inl ((cT 5), 50, .inr (.inr (.inr (.inr g)))))] ++ va_pl Lv Fv) H → va_D A ([(h, .inr (11, [.ref q17, .int 0])), (q17, .inl ((cT 5), 50, .inr (.inr (.inr (.inr g)))))] ++ va_pl Lv Fv) → va_S A s.heap H locs → lv_has ls 2 [(1, .int (nI i)), (0, .ref h)] → W p l e ({ frames := 3, cells := 151, slots := 1350, locals := 70 } : Room) s m args below meth c H locs (1 + i * 3) (50 + i * 26) Q (F0 m 15 ls []) := by
    intro Q exit j8
    induction j8 with
    | zero => 
      intro i g Lv Fv H locs ls hij hpf hex hpk hP hD hS hl
      have hij : 50 = i := by omega
      refine lv_iload_n hx hb d_Ss_init_15 rfl (lv_at hl 0 rfl) ?_
      refine lv_bipush (v := 50) hx hb d_Ss_init_16 (by decide) ?_
      refine lv_icmp_ge (tgt := 40) hx hb d_Ss_init_18 (by decide) (fun hc19 => ?_) (fun hn9 => absurd (by rw [← hij]; decide) hn9)
      subst hij
      exact exit g Lv Fv _ _ _ hpf hex hpk hP hD hS hl
    | succ j8 ih => 
      intro i g Lv Fv H locs ls hij hpf hex hpk hP hD hS hl
      have hlt : i < 50 := by omega
      refine lv_iload_n hx hb d_Ss_init_15 rfl (lv_at hl 0 rfl) ?_
      refine lv_bipush (v := 50) hx hb d_Ss_init_16 (by decide) ?_
      refine lv_icmp_ge (tgt := 40) hx hb d_Ss_init_18 (by decide) (fun hn9 => absurd hn9 (nI_ge (b := 50) hlt (by decide))) (fun hc20 => ?_)
      refine lv_aload_n hx hb d_Ss_init_21 rfl (lv_at hl 1 rfl) ?_
      refine va_get (D := (dC, dI)) (ci := 11) (v := (.ref q17)) (C := R_Ss) (T := F_Ss) (N := 2) hx hb hg in_Ss hown hK hP 0 rfl rfl 0 (by decide) (hg _ k_294) (fun _ h9 => h9) rfl d_Ss_init_22 ?_
      refine lv_iload_n hx hb d_Ss_init_25 rfl (lv_at hl 0 rfl) ?_
      refine va_new (ci := 10) (fs := [.int 0, .null, .int 0, .int 0, .int 0, .int 0, .long 0, .long 0]) (C := R_Se) (T := F_Se) (N := 8) hx hb hg in_Se t_Se tok_Se hown (hg _ k_251) (hg _ k_253) (hg _ k_11) hK hP hD hS hA rfl (fun j hj => match j, hj with | 0, _ => rfl | 1, _ => rfl | 2, _ => rfl | 3, _ => rfl | 4, _ => rfl | 5, _ => rfl | 6, _ => rfl | 7, _ => rfl | (n9 + 8), h9 => absurd h9 (by omega)) (show 1 + i * 3 + 1 ≤ 151 from by omega) (show 50 + i * 26 + 8 ≤ 1350 from by omega) d_Ss_init_26 (fun q21 H hP hD hS => ?_)
      have hP := hP.swap
      have hD := hD.swap
      have hP : va_P (dC, dI) vcl ([(h, .inr (11, [.ref q17, .int 0])), (q17, .inl ((cT 5), 50, .inr (.inr (.inr (.inr g))))), (q21, .inr (10, [.int 0, .null, .int 0, .int 0, .int 0, .int 0, .long 0, .long 0]))] ++ va_pl Lv Fv) H := hP
      have hD : va_D A ([(h, .inr (11, [.ref q17, .int 0])), (q17, .inl ((cT 5), 50, .inr (.inr (.inr (.inr g))))), (q21, .inr (10, [.int 0, .null, .int 0, .int 0, .int 0, .int 0, .long 0, .long 0]))] ++ va_pl Lv Fv) := hD
      refine lv_dup hx hb d_Ss_init_29 rfl ?_
      have hPc := hP.sub (ws' := [(q21, .inr (10, [.int 0, .null, .int 0, .int 0, .int 0, .int 0, .long 0, .long 0]))]) [2] rfl
      have hDc := hD.sub (ws' := [(q21, .inr (10, [.int 0, .null, .int 0, .int 0, .int 0, .int 0, .long 0, .long 0]))]) [2] (by decide) rfl
      have hFc := va_free (wc := [(q21, .inr (10, [.int 0, .null, .int 0, .int 0, .int 0, .int 0, .long 0, .long 0]))]) hD hS hA [2] rfl
      refine va_callv (va_runIN (As := []) (rest := [.ref q21, .int (nI i), .ref q17]) ⟨hx, hb, hml, hown, hg⟩ (n_Se l dC dI cT H.size q21 ) ⟨va_cnB 0 hg (gI (List.forall_mem_cons.mpr ⟨k_256, fun _ h => h⟩)) rfl rfl rfl hE.nw_Se (hg _ k_11) (by decide +kernel) ⟨Nat.le_of_ble_eq_true rfl, Nat.le_of_ble_eq_true rfl⟩, rfl, (hg _ k_255)⟩ ⟨fun a U g mk q => by obtain ⟨q0, q1, qP, qK, qD⟩ := q; exact ⟨q0, q1, qP, va_K.moved (u := U) (U := U.calling g mk a) (Vm.Alike.refl U.vm) qK, qD⟩, fun U hU hW => ⟨rfl, by rw [hU], by rw [hU]; exact hPc, va_K.moved hW.alike hK, hDc.weaken (fun _ _ _ _ => trivial)⟩⟩ rfl rfl hl.1 rfl (lv_room (Nat.le_of_ble_eq_true rfl)) d_Ss_init_30 ⟨(show 1 + i * 3 + 1 + 2 ≤ 151 from by omega), (show 50 + i * 26 + 8 + 18 ≤ 1350 from by omega)⟩) hS (fun q _ h => hFc q h) hFc (fun u t H1 locs ht hvm hw hB hz1 hk1 hS => ?_)
      obtain ⟨r_22, b_23⟩ := u
      try dsimp only at hw hB
      obtain ⟨hP1, hK1, hD1⟩ := hB
      rw [ht] at hP1
      obtain ⟨hP, hD⟩ := va_joinQ (X := [(h, .inr (11, [.ref q17, .int 0])), (q17, .inl ((cT 5), 50, .inr (.inr (.inr (.inr g))))), (q21, .inr (10, [.int 0, .null, .int 0, .int 0, .int 0, .int 0, .long 0, .long 0]))]) (cx := [(q21, .inr (10, [.int 0, .null, .int 0, .int 0, .int 0, .int 0, .long 0, .long 0]))]) (wr := [(h, .inr (11, [.ref q17, .int 0])), (q17, .inl ((cT 5), 50, .inr (.inr (.inr (.inr g)))))]) (w1 := [(q21, .inr (10, [.int 0, .ref b_23, .int 0, .int 0, .int 0, .int 0, .long 0, .long 0])), (r_22, .inl ((cT 0), 16, .inl (fun _ => 0))), (b_23, .inr (1, [.ref r_22, .int (nI 0)]))]) hP hD [2] [0, 1] rfl rfl (by decide) (by decide) hk1 hFc hP1 hD1
      have hw24 := hw
      clear hPc hDc hFc hz1 hk1 hP1 hK1 hD1
      generalize H1 = H at hP hS ⊢
      have hP : va_P (dC, dI) vcl ([(h, .inr (11, [.ref q17, .int 0])), (q17, .inl ((cT 5), 50, .inr (.inr (.inr (.inr g))))), (q21, .inr (10, [.int 0, .ref b_23, .int 0, .int 0, .int 0, .int 0, .long 0, .long 0])), (r_22, .inl ((cT 0), 16, .inl (fun _ => 0))), (b_23, .inr (1, [.ref r_22, .int (nI 0)]))] ++ va_pl Lv Fv) H := hP
      have hD : va_D A ([(h, .inr (11, [.ref q17, .int 0])), (q17, .inl ((cT 5), 50, .inr (.inr (.inr (.inr g))))), (q21, .inr (10, [.int 0, .ref b_23, .int 0, .int 0, .int 0, .int 0, .long 0, .long 0])), (r_22, .inl ((cT 0), 16, .inl (fun _ => 0))), (b_23, .inr (1, [.ref r_22, .int (nI 0)]))] ++ va_pl Lv Fv) := hD
      refine va_astq hx hb hK hP hD hS 1 5 2 10 rfl rfl rfl rfl (i := (nI i)) (vp_in_nI (N := 50) (by omega) (by decide)) d_Ss_init_33 (fun H locs hP hD hS => ?_)
      have hP : va_P (dC, dI) vcl ([(h, .inr (11, [.ref q17, .int 0])), (q17, .inl ((cT 5), 50, .inr (.inr (.inr (.inr (va_up g (nI i).toNatClampNeg (some q21))))))), (q21, .inr (10, [.int 0, .ref b_23, .int 0, .int 0, .int 0, .int 0, .long 0, .long 0])), (r_22, .inl ((cT 0), 16, .inl (fun _ => 0))), (b_23, .inr (1, [.ref r_22, .int (nI 0)]))] ++ va_pl Lv Fv) H := hP
      have hD : va_D A ([(h, .inr (11, [.ref q17, .int 0])), (q17, .inl ((cT 5), 50, .inr (.inr (.inr (.inr (va_up g (nI i).toNatClampNeg (some q21))))))), (q21, .inr (10, [.int 0, .ref b_23, .int 0, .int 0, .int 0, .int 0, .long 0, .long 0])), (r_22, .inl ((cT 0), 16, .inl (fun _ => 0))), (b_23, .inr (1, [.ref r_22, .int (nI 0)]))] ++ va_pl Lv Fv) := hD
      have hP := hP.part (cx := [(h, .inr (11, [.ref q17, .int 0])), (q17, .inl ((cT 5), 50, .inr (.inr (.inr (.inr (va_up g (nI i).toNatClampNeg (some q21))))))), (q21, .inr (10, [.int 0, .ref b_23, .int 0, .int 0, .int 0, .int 0, .long 0, .long 0])), (b_23, .inr (1, [.ref r_22, .int (nI 0)])), (r_22, .inl ((cT 0), 16, .inl (fun _ => 0)))]) [0, 1, 2, 4, 3] rfl
      have hD := hD.part (cx := [(h, .inr (11, [.ref q17, .int 0])), (q17, .inl ((cT 5), 50, .inr (.inr (.inr (.inr (va_up g (nI i).toNatClampNeg (some q21))))))), (q21, .inr (10, [.int 0, .ref b_23, .int 0, .int 0, .int 0, .int 0, .long 0, .long 0])), (b_23, .inr (1, [.ref r_22, .int (nI 0)])), (r_22, .inl ((cT 0), 16, .inl (fun _ => 0)))]) [0, 1, 2, 4, 3] (by decide) rfl
      obtain ⟨hP, hD, hn_r⟩ := pl_add (X := [(h, .inr (11, [.ref q17, .int 0])), (q17, .inl ((cT 5), 50, .inr (.inr (.inr (.inr (va_up g (nI i).toNatClampNeg (some q21))))))), (q21, .inr (10, [.int 0, .ref b_23, .int 0, .int 0, .int 0, .int 0, .long 0, .long 0])), (b_23, .inr (1, [.ref r_22, .int (nI 0)]))]) hP hD
      have hP : va_P (dC, dI) vcl ([(h, .inr (11, [.ref q17, .int 0])), (q17, .inl ((cT 5), 50, .inr (.inr (.inr (.inr (va_up g (nI i).toNatClampNeg (some q21))))))), (q21, .inr (10, [.int 0, .ref b_23, .int 0, .int 0, .int 0, .int 0, .long 0, .long 0])), (b_23, .inr (1, [.ref r_22, .int (nI 0)]))] ++ va_pl (r_22 :: Lv) (va_up Fv r_22 (.inl ((cT 0), 16, .inl (fun _ => 0))))) H := hP
      have hD : va_D A ([(h, .inr (11, [.ref q17, .int 0])), (q17, .inl ((cT 5), 50, .inr (.inr (.inr (.inr (va_up g (nI i).toNatClampNeg (some q21))))))), (q21, .inr (10, [.int 0, .ref b_23, .int 0, .int 0, .int 0, .int 0, .long 0, .long 0])), (b_23, .inr (1, [.ref r_22, .int (nI 0)]))] ++ va_pl (r_22 :: Lv) (va_up Fv r_22 (.inl ((cT 0), 16, .inl (fun _ => 0))))) := hD
      obtain ⟨hP, hD, hn_b⟩ := pl_add (X := [(h, .inr (11, [.ref q17, .int 0])), (q17, .inl ((cT 5), 50, .inr (.inr (.inr (.inr (va_up g (nI i).toNatClampNeg (some q21))))))), (q21, .inr (10, [.int 0, .ref b_23, .int 0, .int 0, .int 0, .int 0, .long 0, .long 0]))]) hP hD
      have hP : va_P (dC, dI) vcl ([(h, .inr (11, [.ref q17, .int 0])), (q17, .inl ((cT 5), 50, .inr (.inr (.inr (.inr (va_up g (nI i).toNatClampNeg (some q21))))))), (q21, .inr (10, [.int 0, .ref b_23, .int 0, .int 0, .int 0, .int 0, .long 0, .long 0]))] ++ va_pl (b_23 :: (r_22 :: Lv)) (va_up (va_up Fv r_22 (.inl ((cT 0), 16, .inl (fun _ => 0)))) b_23 (.inr (1, [.ref r_22, .int (nI 0)])))) H := hP
      have hD : va_D A ([(h, .inr (11, [.ref q17, .int 0])), (q17, .inl ((cT 5), 50, .inr (.inr (.inr (.inr (va_up g (nI i).toNatClampNeg (some q21))))))), (q21, .inr (10, [.int 0, .ref b_23, .int 0, .int 0, .int 0, .int 0, .long 0, .long 0]))] ++ va_pl (b_23 :: (r_22 :: Lv)) (va_up (va_up Fv r_22 (.inl ((cT 0), 16, .inl (fun _ => 0)))) b_23 (.inr (1, [.ref r_22, .int (nI 0)])))) := hD
      obtain ⟨hP, hD, hn_q⟩ := pl_add (X := [(h, .inr (11, [.ref q17, .int 0])), (q17, .inl ((cT 5), 50, .inr (.inr (.inr (.inr (va_up g (nI i).toNatClampNeg (some q21)))))))]) hP hD
      have hP : va_P (dC, dI) vcl ([(h, .inr (11, [.ref q17, .int 0])), (q17, .inl ((cT 5), 50, .inr (.inr (.inr (.inr (va_up g (nI i).toNatClampNeg (some q21)))))))] ++ va_pl (q21 :: (b_23 :: (r_22 :: Lv))) (va_up (va_up (va_up Fv r_22 (.inl ((cT 0), 16, .inl (fun _ => 0)))) b_23 (.inr (1, [.ref r_22, .int (nI 0)]))) q21 (.inr (10, [.int 0, .ref b_23, .int 0, .int 0, .int 0, .int 0, .long 0, .long 0])))) H := hP
      have hD : va_D A ([(h, .inr (11, [.ref q17, .int 0])), (q17, .inl ((cT 5), 50, .inr (.inr (.inr (.inr (va_up g (nI i).toNatClampNeg (some q21)))))))] ++ va_pl (q21 :: (b_23 :: (r_22 :: Lv))) (va_up (va_up (va_up Fv r_22 (.inl ((cT 0), 16, .inl (fun _ => 0)))) b_23 (.inr (1, [.ref r_22, .int (nI 0)]))) q21 (.inr (10, [.int 0, .ref b_23, .int 0, .int 0, .int 0, .int 0, .long 0, .long 0])))) := hD
      have hp9 := PF_sess (x1 := 0) (x2 := 0) (x3 := 0) (x4 := 0) (x5 := 0) (y1 := 0) (y2 := 0) hpf hn_r hn_b hn_q AB_0
      refine lv_iinc (k := 0) (v := nI (i + 1)) (lv' := [(1, .int (nI (i + 1))), (0, .ref h)]) hx hb d_Ss_init_34 hl rfl (nI_1 i) (by decide) rfl (fun ls hl => ?_)
      refine lv_goto (tgt := 15) hx hb d_Ss_init_37 (by decide) ?_
      refine W.widen (k := 1 + (i + 1) * 3) (n := 50 + (i + 1) * 26) (by omega) (by omega) ?_
      exact ih (i + 1) _ _ _ _ _ _ (by omega) (hp9.1) (EXF_trans hex hp9.2) (by rw [nI_clamp (by omega)]; exact PLK_up hpk hp9.2 List.mem_cons_self (by rw [va_up_self]; rfl)) hP hD hS hl
  refine W.widen (k := 1 + 0 * 3) (n := 50 + 0 * 26) (by omega) (by omega) ?_
  refine L18 _ (fun g Lv Fv H locs ls hpf hex hpk hP hD hS hl => ?_) (50 - 0) 0 (fun _ => none) L F H _ ls (by omega) (hpf) (EXF_rfl) (fun i9 h9 => absurd h9 (Nat.not_lt_zero i9)) hP hD hS hl
  refine W.widen (k := 151) (n := 1350) (by omega) (by omega) ?_
  have hP9 := hP.part (cx := [(h, .inr (11, [.ref q17, .int 0])), (q17, .inl ((cT 5), 50, .inr (.inr (.inr (.inr g)))))]) [0, 1] rfl
  have hD9 := hD.part (cx := [(h, .inr (11, [.ref q17, .int 0])), (q17, .inl ((cT 5), 50, .inr (.inr (.inr (.inr g)))))]) [0, 1] (by decide) rfl
  exact W.vret hx hb hr (fun t ht hW => ⟨⟨⟨q17, g, Lv, Fv⟩, rfl, ⟨hpf, hex, hpk⟩, by rw [ht]; exact hP9, va_K.moved hW.alike hK, hD9⟩, hS.F ht⟩) hS.2.2 d_Ss_init_40
