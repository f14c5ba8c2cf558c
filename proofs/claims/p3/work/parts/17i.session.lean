theorem d_Se_compareWith_0 : decode b_Se_compareWith 0 = .ok (.aload_n 0, 1) := by decide +kernel
theorem d_Se_compareWith_1 : decode b_Se_compareWith 1 = .ok (.getfield 20, 3) := by decide +kernel
theorem d_Se_compareWith_4 : decode b_Se_compareWith 4 = .ok (.iload_n 1, 1) := by decide +kernel
theorem d_Se_compareWith_5 : decode b_Se_compareWith 5 = .ok (.if_icmp .eq 10, 3) := by decide +kernel
theorem d_Se_compareWith_15 : decode b_Se_compareWith 15 = .ok (.aload_n 2, 1) := by decide +kernel
theorem d_Se_compareWith_16 : decode b_Se_compareWith 16 = .ok (.bipush 44, 2) := by decide +kernel
theorem d_Se_compareWith_18 : decode b_Se_compareWith 18 = .ok (.invokevirtual 24, 3) := by decide +kernel
theorem d_Se_compareWith_21 : decode b_Se_compareWith 21 = .ok (.istore_n 3, 1) := by decide +kernel
theorem d_Se_compareWith_22 : decode b_Se_compareWith 22 = .ok (.iconst 0, 1) := by decide +kernel
theorem d_Se_compareWith_23 : decode b_Se_compareWith 23 = .ok (.istore 4, 2) := by decide +kernel
theorem d_Se_compareWith_25 : decode b_Se_compareWith 25 = .ok (.iload 4, 2) := by decide +kernel
theorem d_Se_compareWith_27 : decode b_Se_compareWith 27 = .ok (.aload_n 0, 1) := by decide +kernel
theorem d_Se_compareWith_28 : decode b_Se_compareWith 28 = .ok (.getfield 14, 3) := by decide +kernel
theorem d_Se_compareWith_31 : decode b_Se_compareWith 31 = .ok (.getfield 30, 3) := by decide +kernel
theorem d_Se_compareWith_34 : decode b_Se_compareWith 34 = .ok (.if_icmp .ge 44, 3) := by decide +kernel
theorem d_Se_compareWith_37 : decode b_Se_compareWith 37 = .ok (.iload 4, 2) := by decide +kernel
theorem d_Se_compareWith_39 : decode b_Se_compareWith 39 = .ok (.iload_n 3, 1) := by decide +kernel
theorem d_Se_compareWith_40 : decode b_Se_compareWith 40 = .ok (.if_icmp .ge 38, 3) := by decide +kernel
theorem d_Se_compareWith_43 : decode b_Se_compareWith 43 = .ok (.aload_n 0, 1) := by decide +kernel
theorem d_Se_compareWith_44 : decode b_Se_compareWith 44 = .ok (.getfield 14, 3) := by decide +kernel
theorem d_Se_compareWith_47 : decode b_Se_compareWith 47 = .ok (.getfield 33, 3) := by decide +kernel
theorem d_Se_compareWith_50 : decode b_Se_compareWith 50 = .ok (.iload 4, 2) := by decide +kernel
theorem d_Se_compareWith_52 : decode b_Se_compareWith 52 = .ok (.iaload, 1) := by decide +kernel
theorem d_Se_compareWith_53 : decode b_Se_compareWith 53 = .ok (.aload_n 2, 1) := by decide +kernel
theorem d_Se_compareWith_54 : decode b_Se_compareWith 54 = .ok (.bipush 44, 2) := by decide +kernel
theorem d_Se_compareWith_56 : decode b_Se_compareWith 56 = .ok (.iload 4, 2) := by decide +kernel
theorem d_Se_compareWith_58 : decode b_Se_compareWith 58 = .ok (.invokevirtual 37, 3) := by decide +kernel
theorem d_Se_compareWith_61 : decode b_Se_compareWith 61 = .ok (.isub, 1) := by decide +kernel
theorem d_Se_compareWith_62 : decode b_Se_compareWith 62 = .ok (.istore 5, 2) := by decide +kernel
theorem d_Se_compareWith_64 : decode b_Se_compareWith 64 = .ok (.iload 5, 2) := by decide +kernel
theorem d_Se_compareWith_66 : decode b_Se_compareWith 66 = .ok (.ifCond .eq 6, 3) := by decide +kernel
theorem d_Se_compareWith_72 : decode b_Se_compareWith 72 = .ok (.iinc 4 1, 3) := by decide +kernel
theorem d_Se_compareWith_75 : decode b_Se_compareWith 75 = .ok (.goto (-50), 3) := by decide +kernel
theorem d_Se_compareWith_69 : decode b_Se_compareWith 69 = .ok (.iload 5, 2) := by decide +kernel
theorem d_Se_compareWith_78 : decode b_Se_compareWith 78 = .ok (.aload_n 0, 1) := by decide +kernel
theorem d_Se_compareWith_79 : decode b_Se_compareWith 79 = .ok (.getfield 14, 3) := by decide +kernel
theorem d_Se_compareWith_82 : decode b_Se_compareWith 82 = .ok (.getfield 30, 3) := by decide +kernel
theorem d_Se_compareWith_85 : decode b_Se_compareWith 85 = .ok (.iload_n 3, 1) := by decide +kernel
theorem d_Se_compareWith_86 : decode b_Se_compareWith 86 = .ok (.isub, 1) := by decide +kernel
theorem d_Se_compareWith_87 : decode b_Se_compareWith 87 = .ok (.ireturn, 1) := by decide +kernel
theorem d_Se_compareWith_71 : decode b_Se_compareWith 71 = .ok (.ireturn, 1) := by decide +kernel
theorem d_Se_compareWith_8 : decode b_Se_compareWith 8 = .ok (.aload_n 0, 1) := by decide +kernel
theorem d_Se_compareWith_9 : decode b_Se_compareWith 9 = .ok (.getfield 20, 3) := by decide +kernel
theorem d_Se_compareWith_12 : decode b_Se_compareWith 12 = .ok (.iload_n 1, 1) := by decide +kernel
theorem d_Se_compareWith_13 : decode b_Se_compareWith 13 = .ok (.isub, 1) := by decide +kernel
theorem d_Se_compareWith_14 : decode b_Se_compareWith 14 = .ok (.ireturn, 1) := by decide +kernel
theorem d_Se_come_0 : decode b_Se_come 0 = .ok (.aload_n 0, 1) := by decide +kernel
theorem d_Se_come_1 : decode b_Se_come 1 = .ok (.iload_n 1, 1) := by decide +kernel
theorem d_Se_come_2 : decode b_Se_come 2 = .ok (.putfield 20, 3) := by decide +kernel
theorem d_Se_come_5 : decode b_Se_come 5 = .ok (.aload_n 0, 1) := by decide +kernel
theorem d_Se_come_6 : decode b_Se_come 6 = .ok (.getfield 14, 3) := by decide +kernel
theorem d_Se_come_9 : decode b_Se_come 9 = .ok (.aload_n 2, 1) := by decide +kernel
theorem d_Se_come_10 : decode b_Se_come 10 = .ok (.getfield 41, 3) := by decide +kernel
theorem d_Se_come_13 : decode b_Se_come 13 = .ok (.getfield 45, 3) := by decide +kernel
theorem d_Se_come_16 : decode b_Se_come 16 = .ok (.aload_n 2, 1) := by decide +kernel
theorem d_Se_come_17 : decode b_Se_come 17 = .ok (.bipush 44, 2) := by decide +kernel
theorem d_Se_come_19 : decode b_Se_come 19 = .ok (.invokevirtual 48, 3) := by decide +kernel
theorem d_Se_come_22 : decode b_Se_come 22 = .ok (.aload_n 2, 1) := by decide +kernel
theorem d_Se_come_23 : decode b_Se_come 23 = .ok (.bipush 44, 2) := by decide +kernel
theorem d_Se_come_25 : decode b_Se_come 25 = .ok (.invokevirtual 24, 3) := by decide +kernel
theorem d_Se_come_28 : decode b_Se_come 28 = .ok (.invokevirtual 51, 3) := by decide +kernel
theorem d_Se_come_31 : decode b_Se_come 31 = .ok (.aload_n 0, 1) := by decide +kernel
theorem d_Se_come_32 : decode b_Se_come 32 = .ok (.aload_n 2, 1) := by decide +kernel
theorem d_Se_come_33 : decode b_Se_come 33 = .ok (.iconst 1, 1) := by decide +kernel
theorem d_Se_come_34 : decode b_Se_come 34 = .ok (.aload_n 2, 1) := by decide +kernel
theorem d_Se_come_35 : decode b_Se_come 35 = .ok (.iconst 1, 1) := by decide +kernel
theorem d_Se_come_36 : decode b_Se_come 36 = .ok (.invokevirtual 24, 3) := by decide +kernel
theorem d_Se_come_39 : decode b_Se_come 39 = .ok (.iconst 1, 1) := by decide +kernel
theorem d_Se_come_40 : decode b_Se_come 40 = .ok (.isub, 1) := by decide +kernel
theorem d_Se_come_41 : decode b_Se_come 41 = .ok (.invokevirtual 37, 3) := by decide +kernel
theorem d_Se_come_44 : decode b_Se_come 44 = .ok (.putfield 55, 3) := by decide +kernel
theorem d_Se_come_47 : decode b_Se_come 47 = .ok (.aload_n 0, 1) := by decide +kernel
theorem d_Se_come_48 : decode b_Se_come 48 = .ok (.iload_n 3, 1) := by decide +kernel
theorem d_Se_come_49 : decode b_Se_come 49 = .ok (.putfield 58, 3) := by decide +kernel
theorem d_Se_come_52 : decode b_Se_come 52 = .ok (.aload_n 0, 1) := by decide +kernel
theorem d_Se_come_53 : decode b_Se_come 53 = .ok (.iload_n 3, 1) := by decide +kernel
theorem d_Se_come_54 : decode b_Se_come 54 = .ok (.putfield 61, 3) := by decide +kernel
theorem d_Se_come_57 : decode b_Se_come 57 = .ok (.return_, 1) := by decide +kernel
theorem d_Se_change_0 : decode b_Se_change 0 = .ok (.aload_n 0, 1) := by decide +kernel
theorem d_Se_change_1 : decode b_Se_change 1 = .ok (.iload_n 2, 1) := by decide +kernel
theorem d_Se_change_2 : decode b_Se_change 2 = .ok (.putfield 61, 3) := by decide +kernel
theorem d_Se_change_5 : decode b_Se_change 5 = .ok (.aload_n 0, 1) := by decide +kernel
theorem d_Se_change_6 : decode b_Se_change 6 = .ok (.aload_n 0, 1) := by decide +kernel
theorem d_Se_change_7 : decode b_Se_change 7 = .ok (.getfield 64, 3) := by decide +kernel
theorem d_Se_change_10 : decode b_Se_change 10 = .ok (.aload_n 1, 1) := by decide +kernel
theorem d_Se_change_11 : decode b_Se_change 11 = .ok (.bipush 42, 2) := by decide +kernel
theorem d_Se_change_13 : decode b_Se_change 13 = .ok (.invokevirtual 68, 3) := by decide +kernel
theorem d_Se_change_16 : decode b_Se_change 16 = .ok (.invokestatic 72, 3) := by decide +kernel
theorem d_Se_change_19 : decode b_Se_change 19 = .ok (.putfield 64, 3) := by decide +kernel
theorem d_Se_change_22 : decode b_Se_change 22 = .ok (.aload_n 0, 1) := by decide +kernel
theorem d_Se_change_23 : decode b_Se_change 23 = .ok (.aload_n 0, 1) := by decide +kernel
theorem d_Se_change_24 : decode b_Se_change 24 = .ok (.getfield 78, 3) := by decide +kernel
theorem d_Se_change_27 : decode b_Se_change 27 = .ok (.aload_n 1, 1) := by decide +kernel
theorem d_Se_change_28 : decode b_Se_change 28 = .ok (.bipush 43, 2) := by decide +kernel
theorem d_Se_change_30 : decode b_Se_change 30 = .ok (.invokevirtual 68, 3) := by decide +kernel
theorem d_Se_change_33 : decode b_Se_change 33 = .ok (.invokestatic 72, 3) := by decide +kernel
theorem d_Se_change_36 : decode b_Se_change 36 = .ok (.putfield 78, 3) := by decide +kernel
theorem d_Se_change_39 : decode b_Se_change 39 = .ok (.aload_n 0, 1) := by decide +kernel
theorem d_Se_change_40 : decode b_Se_change 40 = .ok (.iload_n 3, 1) := by decide +kernel
theorem d_Se_change_41 : decode b_Se_change 41 = .ok (.putfield 81, 3) := by decide +kernel
theorem d_Se_change_44 : decode b_Se_change 44 = .ok (.return_, 1) := by decide +kernel
set_option maxHeartbeats 4000000 in
set_option maxRecDepth 100000 in
/-- compareWith -/
theorem c_Se_compare (l : Launch) (dC : Nat → ClassId) (dI : Nat → Nat → Nat) (cT : Nat → ClassId) (sz : Nat) (se : Nat) (lb : Nat) (lr : Nat) (sz_ : Nat) (ln : Nat) (fl : Nat → Int32) (x1 : Int32) (x2 : Int32) (x3 : Int32) (x4 : Int32) (x5 : Int32) (y1 : Int64) (y2 : Int64) (rq : Nat) (dr : Nat) (rr : Nat) (sa : Nat) (len : Nat) (f : Nat → Int32) (ga : Nat → Int32) (a : Nat) (n : Nat) (x : Int32) (hga : ga 44 = nI a) (ha : 22 ≤ a) (hfa : f (a - 1) = nI (n + 2)) (hal : a + n ≤ len) (hn16 : 1 ≤ n ∧ n ≤ 16) (hlen : len ≤ 1000) (hln : ln ≤ sz_) (hsz : sz_ = 16) : Met l y_Se_compareWith (Cond.code y_Se_compareWith b_Se_compareWith 6 (Option.some Jvm.ClassFile.FieldType.int) :: BIG) ({ frames := 1, cells := 0, slots := 0, locals := 22 }) (va_Pc [.ref se, .int x, .ref rq] (fun U => U.heap.size = sz ∧ va_P (dC, dI) vcl [(se, .inr (10, [.int x1, .ref lb, .int x2, .int x3, .int x4, .int x5, .long y1, .long y2])), (lb, .inr (1, [.ref lr, .int (nI ln)])), (lr, .inl ((cT 0), sz_, .inl fl)), (rq, .inr (4, [.ref dr, .ref sa])), (sa, .inl ((cT 0), 256, .inl ga)), (dr, .inr (2, [.ref rr, .int (nI len)])), (rr, .inl ((cT 0), 1000, .inl f))] U.heap ∧ va_K (dC, dI) vcl (tyL cT) U ∧ va_D (fun _ => True) [(se, .inr (10, [.int x1, .ref lb, .int x2, .int x3, .int x4, .int x5, .long y1, .long y2])), (lb, .inr (1, [.ref lr, .int (nI ln)])), (lr, .inl ((cT 0), sz_, .inl fl)), (rq, .inr (4, [.ref dr, .ref sa])), (sa, .inl ((cT 0), 256, .inl ga)), (dr, .inr (2, [.ref rr, .int (nI len)])), (rr, .inl ((cT 0), 1000, .inl f))])) (va_Qi (S := Unit) (fun rv9 u => True) (fun u t => va_P (dC, dI) vcl [(se, .inr (10, [.int x1, .ref lb, .int x2, .int x3, .int x4, .int x5, .long y1, .long y2])), (lb, .inr (1, [.ref lr, .int (nI ln)])), (lr, .inl ((cT 0), sz_, .inl fl)), (rq, .inr (4, [.ref dr, .ref sa])), (sa, .inl ((cT 0), 256, .inl ga)), (dr, .inr (2, [.ref rr, .int (nI len)])), (rr, .inl ((cT 0), 1000, .inl f))] t.heap ∧ va_K (dC, dI) vcl (tyL cT) t ∧ va_D (va_A [(se, .inr (10, [.int x1, .ref lb, .int x2, .int x3, .int x4, .int x5, .long y1, .long y2])), (lb, .inr (1, [.ref lr, .int (nI ln)])), (lr, .inl ((cT 0), sz_, .inl fl)), (rq, .inr (4, [.ref dr, .ref sa])), (sa, .inl ((cT 0), 256, .inl ga)), (dr, .inr (2, [.ref rr, .int (nI len)])), (rr, .inl ((cT 0), 1000, .inl f))] sz) [(se, .inr (10, [.int x1, .ref lb, .int x2, .int x3, .int x4, .int x5, .long y1, .long y2])), (lb, .inr (1, [.ref lr, .int (nI ln)])), (lr, .inl ((cT 0), sz_, .inl fl)), (rq, .inr (4, [.ref dr, .ref sa])), (sa, .inl ((cT 0), 256, .inl ga)), (dr, .inr (2, [.ref rr, .int (nI len)])), (rr, .inl ((cT 0), 1000, .inl f))]) (va_A [(se, .inr (10, [.int x1, .ref lb, .int x2, .int x3, .int x4, .int x5, .long y1, .long y2])), (lb, .inr (1, [.ref lr, .int (nI ln)])), (lr, .inl ((cT 0), sz_, .inl fl)), (rq, .inr (4, [.ref dr, .ref sa])), (sa, .inl ((cT 0), 256, .inl ga)), (dr, .inr (2, [.ref rr, .int (nI len)])), (rr, .inl ((cT 0), 1000, .inl f))] sz)) 0 0 (va_A [(se, .inr (10, [.int x1, .ref lb, .int x2, .int x3, .int x4, .int x5, .long y1, .long y2])), (lb, .inr (1, [.ref lr, .int (nI ln)])), (lr, .inl ((cT 0), sz_, .inl fl)), (rq, .inr (4, [.ref dr, .ref sa])), (sa, .inl ((cT 0), 256, .inl ga)), (dr, .inr (2, [.ref rr, .int (nI len)])), (rr, .inl ((cT 0), 1000, .inl f))] sz) := by
  refine Met.ofW (cc := b_Se_compareWith) (maxL := 6) (ret := (Option.some Jvm.ClassFile.FieldType.int)) (by decide) rfl ?_
  intro p e s m args below meth c s₁ B hml hv
  obtain ⟨hargs, hsz, hP, hK, hD0⟩ := hv
  have hx := B.exec
  have hb := B.bytes
  have hr := B.returns
  have hts := atoms_spec (ws := (Cond.code y_Se_compareWith b_Se_compareWith 6 (Option.some Jvm.ClassFile.FieldType.int) :: BIG)) B.pre
  have hg : ∀ w ∈ BIG, w.before _ s = true := fun w h => hts w (List.mem_cons_of_mem _ h)
  have hown : s.vm.findClass "DoorServer$Session" = some m.cls := findClass_of_methodNamed B.named
  have hlocks := B.notSynchronized
  subst hsz
  have hD := hD0.self (sz := s.heap.size)
  generalize hAe : va_A [(se, .inr (10, [.int x1, .ref lb, .int x2, .int x3, .int x4, .int x5, .long y1, .long y2])), (lb, .inr (1, [.ref lr, .int (nI ln)])), (lr, .inl ((cT 0), sz_, .inl fl)), (rq, .inr (4, [.ref dr, .ref sa])), (sa, .inl ((cT 0), 256, .inl ga)), (dr, .inr (2, [.ref rr, .int (nI len)])), (rr, .inl ((cT 0), 1000, .inl f))] s.heap.size = A at hD ⊢
  have hA : ∀ q : Nat, s.heap.size ≤ q → A q := fun q h => by rw [← hAe]; exact Or.inr h
  have hS : va_S A s.heap s.heap [] := va_S.rf
  have hl := lv_entry ([.ref se, .int x, .ref rq]) (n := 6) (Nat.le_of_ble_eq_true rfl)
  refine W.eq (g2 := entryFrame m (List.toArray [.ref se, .int x, .ref rq]) 6) (by rw [hargs]) ?_
  rw [lg_entry_eq]
  generalize (lg_sl ([.ref se, .int x, .ref rq]) ++ List.replicate (6 - (lg_sl ([.ref se, .int x, .ref rq])).length) Slot.unset).toArray = ls at hl ⊢
  have hl : lv_has ls 6 [(0, .ref se), (1, .int x), (2, .ref rq)] := hl
  change W p l e ({ frames := 1, cells := 0, slots := 0, locals := 22 } : Room) s m args below meth c s.heap [] 0 0 _ _
  have hP : va_P (dC, dI) vcl [(se, .inr (10, [.int x1, .ref lb, .int x2, .int x3, .int x4, .int x5, .long y1, .long y2])), (lb, .inr (1, [.ref lr, .int (nI ln)])), (lr, .inl ((cT 0), sz_, .inl fl)), (rq, .inr (4, [.ref dr, .ref sa])), (sa, .inl ((cT 0), 256, .inl ga)), (dr, .inr (2, [.ref rr, .int (nI len)])), (rr, .inl ((cT 0), 1000, .inl f))] s.heap := hP
  refine lv_aload_n hx hb d_Se_compareWith_0 rfl (lv_at hl 0 rfl) ?_
  refine va_get (D := (dC, dI)) (ci := 10) (v := (.int x1)) (C := R_Se) (T := F_Se) (N := 8) hx hb hg in_Se hown hK hP 0 rfl rfl 0 (by decide) (hg _ k_260) (fun _ h9 => h9) rfl d_Se_compareWith_1 ?_
  refine lv_iload_n hx hb d_Se_compareWith_4 rfl (lv_at hl 1 rfl) ?_
  refine lv_icmp_eq (tgt := 15) hx hb d_Se_compareWith_5 (by decide) (fun hc1 => ?_) (fun hc1 => ?_)
  · skip
    refine lv_aload_n hx hb d_Se_compareWith_15 rfl (lv_at hl 2 rfl) ?_
    refine lv_bipush (v := 44) hx hb d_Se_compareWith_16 (by decide) ?_
    refine lv_topi (fun x3 e2 => ?_)
    obtain rfl : x3 = nI 44 := by rw [e2]; rfl
    have hPc := hP.sub (ws' := [(rq, .inr (4, [.ref dr, .ref sa])), (sa, .inl ((cT 0), 256, .inl ga)), (dr, .inr (2, [.ref rr, .int (nI len)])), (rr, .inl ((cT 0), 1000, .inl f))]) [3, 4, 5, 6] rfl
    have hDc := hD.sub (ws' := [(rq, .inr (4, [.ref dr, .ref sa])), (sa, .inl ((cT 0), 256, .inl ga)), (dr, .inr (2, [.ref rr, .int (nI len)])), (rr, .inl ((cT 0), 1000, .inl f))]) [3, 4, 5, 6] (by decide) rfl
    have hFc := va_free (wc := [(rq, .inr (4, [.ref dr, .ref sa])), (sa, .inl ((cT 0), 256, .inl ga)), (dr, .inr (2, [.ref rr, .int (nI len)])), (rr, .inl ((cT 0), 1000, .inl f))]) hD hS hA [3, 4, 5, 6] rfl
    refine va_calli (va_runV (C := "DoorServer$Request") (As := [.int (nI 44)]) (rest := []) ⟨hx, hb, hml, hown, hg⟩ (c_lengthOf l dC dI cT s.heap.size rq dr rr sa len f ga 44 a n (by decide) (hga) (ha) (hfa) (hal) (hlen)) (cwV 1 hg (gI (List.forall_mem_append.mpr ⟨List.forall_mem_cons.mpr ⟨k_782, List.forall_mem_cons.mpr ⟨k_762, List.forall_mem_cons.mpr ⟨k_763, List.forall_mem_cons.mpr ⟨k_12, fun _ h => absurd h List.not_mem_nil⟩⟩⟩⟩, List.forall_mem_cons.mpr ⟨k_764, fun _ h => h⟩⟩)) rfl rfl rfl (by decide +kernel) ⟨Nat.le_of_ble_eq_true rfl, Nat.le_of_ble_eq_true rfl⟩) ⟨fun a U g mk q => by obtain ⟨q0, q1, qP, qK, qD⟩ := q; exact ⟨q0, q1, qP, va_K.moved (u := U) (U := U.calling g mk a) (Vm.Alike.refl U.vm) qK, qD⟩, va_recv (q0 := 3) (ci := 4) hK hP rfl rfl, fun U hU hW => ⟨rfl, by rw [hU], by rw [hU]; exact hPc, va_K.moved hW.alike hK, hDc.weaken (fun _ _ _ _ => trivial)⟩⟩ rfl rfl hl.1 rfl (lv_room (Nat.le_of_ble_eq_true rfl)) d_Se_compareWith_18 ⟨Nat.le_of_ble_eq_true rfl, Nat.le_of_ble_eq_true rfl⟩) hS (fun q _ h => hFc q h) hFc (fun rv9 u t H1 locs ht hvm hw hB hz1 hk1 hS => ?_)
    try dsimp only at hw hB
    obtain ⟨hP1, hK1, hD1⟩ := hB
    rw [ht] at hP1
    obtain ⟨rfl, hw⟩ := hw
    obtain ⟨hP, hD⟩ := va_join (wr := [(se, .inr (10, [.int x1, .ref lb, .int x2, .int x3, .int x4, .int x5, .long y1, .long y2])), (lb, .inr (1, [.ref lr, .int (nI ln)])), (lr, .inl ((cT 0), sz_, .inl fl))]) (w1 := [(rq, .inr (4, [.ref dr, .ref sa])), (sa, .inl ((cT 0), 256, .inl ga)), (dr, .inr (2, [.ref rr, .int (nI len)])), (rr, .inl ((cT 0), 1000, .inl f))]) hP hD [3, 4, 5, 6] [0, 1, 2] rfl rfl (by decide) (by decide) hk1 hFc hP1 hD1
    have hw4 := hw
    clear hPc hDc hFc hz1 hk1 hP1 hK1 hD1
    generalize H1 = H at hP hS ⊢
    have hP : va_P (dC, dI) vcl [(se, .inr (10, [.int x1, .ref lb, .int x2, .int x3, .int x4, .int x5, .long y1, .long y2])), (lb, .inr (1, [.ref lr, .int (nI ln)])), (lr, .inl ((cT 0), sz_, .inl fl)), (rq, .inr (4, [.ref dr, .ref sa])), (sa, .inl ((cT 0), 256, .inl ga)), (dr, .inr (2, [.ref rr, .int (nI len)])), (rr, .inl ((cT 0), 1000, .inl f))] H := hP
    have hD : va_D A [(se, .inr (10, [.int x1, .ref lb, .int x2, .int x3, .int x4, .int x5, .long y1, .long y2])), (lb, .inr (1, [.ref lr, .int (nI ln)])), (lr, .inl ((cT 0), sz_, .inl fl)), (rq, .inr (4, [.ref dr, .ref sa])), (sa, .inl ((cT 0), 256, .inl ga)), (dr, .inr (2, [.ref rr, .int (nI len)])), (rr, .inl ((cT 0), 1000, .inl f))] := hD
    refine lv_istore_n (lv' := [(3, .int (nI n)), (0, .ref se), (1, .int x), (2, .ref rq)]) hx hb d_Se_compareWith_21 rfl hl (by decide) rfl (fun ls hl => ?_)
    refine lv_iconst (v := 0) hx hb d_Se_compareWith_22 (by decide) ?_
    refine lv_istore (lv' := [(4, .int 0), (3, .int (nI n)), (0, .ref se), (1, .int x), (2, .ref rq)]) hx hb d_Se_compareWith_23 hl (by decide) rfl (fun ls hl => ?_)
    have hl := lv_sub hl [0, 1, 2, 4] (show _ = [(4, .int 0), (3, .int (nI n)), (0, .ref se), (2, .ref rq)] from rfl)
    have L5 : ∀ (Q : State → Prop) (ex0 : ∀ (i : Nat) (H : Heap) (locs : List Loc) (ls : Array Slot), va_P (dC, dI) vcl [(se, .inr (10, [.int x1, .ref lb, .int x2, .int x3, .int x4, .int x5, .long y1, .long y2])), (lb, .inr (1, [.ref lr, .int (nI ln)])), (lr, .inl ((cT 0), sz_, .inl fl)), (rq, .inr (4, [.ref dr, .ref sa])), (sa, .inl ((cT 0), 256, .inl ga)), (dr, .inr (2, [.ref rr, .int (nI len)])), (rr, .inl ((cT 0), 1000, .inl f))] H → va_D A [(se, .inr (10, [.int x1, .ref lb, .int x2, .int x3, .int x4, .int x5, .long y1, .long y2])), (lb, .inr (1, [.ref lr, .int (nI ln)])), (lr, .inl ((cT 0), sz_, .inl fl)), (rq, .inr (4, [.ref dr, .ref sa])), (sa, .inl ((cT 0), 256, .inl ga)), (dr, .inr (2, [.ref rr, .int (nI len)])), (rr, .inl ((cT 0), 1000, .inl f))] → va_S A s.heap H locs → lv_has ls 6 [(4, .int (nI i)), (3, .int (nI n)), (0, .ref se), (2, .ref rq)] → W p l e ({ frames := 1, cells := 0, slots := 0, locals := 22 } : Room) s m args below meth c H locs 0 0 Q (F0 m 78 ls [])) (ex1 : ∀ (x9 : Int32) (H : Heap) (locs : List Loc) (ls : Array Slot), va_P (dC, dI) vcl [(se, .inr (10, [.int x1, .ref lb, .int x2, .int x3, .int x4, .int x5, .long y1, .long y2])), (lb, .inr (1, [.ref lr, .int (nI ln)])), (lr, .inl ((cT 0), sz_, .inl fl)), (rq, .inr (4, [.ref dr, .ref sa])), (sa, .inl ((cT 0), 256, .inl ga)), (dr, .inr (2, [.ref rr, .int (nI len)])), (rr, .inl ((cT 0), 1000, .inl f))] H → va_D A [(se, .inr (10, [.int x1, .ref lb, .int x2, .int x3, .int x4, .int x5, .long y1, .long y2])), (lb, .inr (1, [.ref lr, .int (nI ln)])), (lr, .inl ((cT 0), sz_, .inl fl)), (rq, .inr (4, [.ref dr, .ref sa])), (sa, .inl ((cT 0), 256, .inl ga)), (dr, .inr (2, [.ref rr, .int (nI len)])), (rr, .inl ((cT 0), 1000, .inl f))] → va_S A s.heap H locs → lv_has ls 6 [(0, .ref se)] → W p l e ({ frames := 1, cells := 0, slots := 0, locals := 22 } : Room) s m args below meth c H locs 0 0 Q (F0 m 71 ls [.int x9])) (jj6 : Nat) (i : Nat) (H : Heap) (locs : List Loc) (ls : Array Slot), ln - i ≤ jj6 → (i ≤ ln) → va_P (dC, dI) vcl [(se, .inr (10, [.int x1, .ref lb, .int x2, .int x3, .int x4, .int x5, .long y1, .long y2])), (lb, .inr (1, [.ref lr, .int (nI ln)])), (lr, .inl ((cT 0), sz_, .inl fl)), (rq, .inr (4, [.ref dr, .ref sa])), (sa, .inl ((cT 0), 256, .inl ga)), (dr, .inr (2, [.ref rr, .int (nI len)])), (rr, .inl ((cT 0), 1000, .inl f))] H → va_D A [(se, .inr (10, [.int x1, .ref lb, .int x2, .int x3, .int x4, .int x5, .long y1, .long y2])), (lb, .inr (1, [.ref lr, .int (nI ln)])), (lr, .inl ((cT 0), sz_, .inl fl)), (rq, .inr (4, [.ref dr, .ref sa])), (sa, .inl ((cT 0), 256, .inl ga)), (dr, .inr (2, [.ref rr, .int (nI len)])), (rr, .inl ((cT 0), 1000, .inl f))] → va_S A s.heap H locs → lv_has ls 6 [(4, .int (nI i)), (3, .int (nI n)), (0, .ref se), (2, .ref rq)] → W p l e ({ frames := 1, cells := 0, slots := 0, locals := 22 } : Room) s m args below meth c H locs 0 0 Q (F0 m 25 ls []) := by
      intro Q ex0 ex1 jj6
      induction jj6 with
      | zero => 
        intro i H locs ls hm9 hi hP hD hS hl
        refine lv_iload hx hb d_Se_compareWith_25 (lv_at hl 0 rfl) ?_
        refine lv_aload_n hx hb d_Se_compareWith_27 rfl (lv_at hl 2 rfl) ?_
        refine va_get (D := (dC, dI)) (ci := 10) (v := (.ref lb)) (C := R_Se) (T := F_Se) (N := 8) hx hb hg in_Se hown hK hP 0 rfl rfl 1 (by decide) (hg _ k_262) (fun _ h9 => h9) rfl d_Se_compareWith_28 ?_
        refine va_get (D := (dC, dI)) (ci := 1) (v := (.int (nI ln))) (C := R_By) (T := F_By) (N := 2) hx hb hg in_By hown hK hP 1 rfl rfl 1 (by decide) (hg _ k_56) (fun _ h9 => h9) rfl d_Se_compareWith_31 ?_
        refine lv_icmp_ge (tgt := 78) hx hb d_Se_compareWith_34 (by decide) (fun hc7 => ?_) (fun hc7 => ?_)
        · skip
          exact ex0 i _ _ _  hP hD hS hl
        · skip
          have h1 : i < ln := Nat.not_le.mp (fun h7 => hc7 (nI_le h7 (by omega)))
          refine lv_iload hx hb d_Se_compareWith_37 (lv_at hl 0 rfl) ?_
          refine lv_iload_n hx hb d_Se_compareWith_39 rfl (lv_at hl 1 rfl) ?_
          refine lv_icmp_ge (tgt := 78) hx hb d_Se_compareWith_40 (by decide) (fun hc8 => ?_) (fun hc8 => ?_)
          · skip
            exact ex0 i _ _ _  hP hD hS hl
          · skip
            have h2 : i < n := Nat.not_le.mp (fun h7 => hc8 (nI_le h7 (by omega)))
            refine lv_aload_n hx hb d_Se_compareWith_43 rfl (lv_at hl 2 rfl) ?_
            refine va_get (D := (dC, dI)) (ci := 10) (v := (.ref lb)) (C := R_Se) (T := F_Se) (N := 8) hx hb hg in_Se hown hK hP 0 rfl rfl 1 (by decide) (hg _ k_262) (fun _ h9 => h9) rfl d_Se_compareWith_44 ?_
            refine va_get (D := (dC, dI)) (ci := 1) (v := (.ref lr)) (C := R_By) (T := F_By) (N := 2) hx hb hg in_By hown hK hP 1 rfl rfl 0 (by decide) (hg _ k_42) (fun _ h9 => h9) rfl d_Se_compareWith_47 ?_
            refine lv_iload hx hb d_Se_compareWith_50 (lv_at hl 0 rfl) ?_
            refine va_iald hx hb hK hP 2 0 rfl rfl (i := (nI i)) (vp_in_nI (by omega) (by omega)) d_Se_compareWith_52 ?_
            refine lv_aload_n hx hb d_Se_compareWith_53 rfl (lv_at hl 3 rfl) ?_
            refine lv_bipush (v := 44) hx hb d_Se_compareWith_54 (by decide) ?_
            refine lv_topi (fun x10 e9 => ?_)
            obtain rfl : x10 = nI 44 := by rw [e9]; rfl
            refine lv_iload hx hb d_Se_compareWith_56 (lv_at hl 0 rfl) ?_
            have hPc := hP.sub (ws' := [(rq, .inr (4, [.ref dr, .ref sa])), (sa, .inl ((cT 0), 256, .inl ga)), (dr, .inr (2, [.ref rr, .int (nI len)])), (rr, .inl ((cT 0), 1000, .inl f))]) [3, 4, 5, 6] rfl
            have hDc := hD.sub (ws' := [(rq, .inr (4, [.ref dr, .ref sa])), (sa, .inl ((cT 0), 256, .inl ga)), (dr, .inr (2, [.ref rr, .int (nI len)])), (rr, .inl ((cT 0), 1000, .inl f))]) [3, 4, 5, 6] (by decide) rfl
            have hFc := va_free (wc := [(rq, .inr (4, [.ref dr, .ref sa])), (sa, .inl ((cT 0), 256, .inl ga)), (dr, .inr (2, [.ref rr, .int (nI len)])), (rr, .inl ((cT 0), 1000, .inl f))]) hD hS hA [3, 4, 5, 6] rfl
            refine va_calli (va_runV (C := "DoorServer$Request") (As := [.int (nI 44), .int (nI i)]) (rest := [.int (fl (nI i).toNatClampNeg)]) ⟨hx, hb, hml, hown, hg⟩ (c_byteOf l dC dI cT H.size rq dr rr sa len f ga 44 a i (by decide) (hga) (by omega)) (cwV 2 hg (gI (List.forall_mem_append.mpr ⟨List.forall_mem_cons.mpr ⟨k_783, List.forall_mem_cons.mpr ⟨k_766, List.forall_mem_cons.mpr ⟨k_767, List.forall_mem_cons.mpr ⟨k_12, fun _ h => absurd h List.not_mem_nil⟩⟩⟩⟩, List.forall_mem_cons.mpr ⟨k_768, fun _ h => h⟩⟩)) rfl rfl rfl (by decide +kernel) ⟨Nat.le_of_ble_eq_true rfl, Nat.le_of_ble_eq_true rfl⟩) ⟨fun a U g mk q => by obtain ⟨q0, q1, qP, qK, qD⟩ := q; exact ⟨q0, q1, qP, va_K.moved (u := U) (U := U.calling g mk a) (Vm.Alike.refl U.vm) qK, qD⟩, va_recv (q0 := 3) (ci := 4) hK hP rfl rfl, fun U hU hW => ⟨rfl, by rw [hU], by rw [hU]; exact hPc, va_K.moved hW.alike hK, hDc.weaken (fun _ _ _ _ => trivial)⟩⟩ rfl rfl hl.1 rfl (lv_room (Nat.le_of_ble_eq_true rfl)) d_Se_compareWith_58 ⟨Nat.le_of_ble_eq_true rfl, Nat.le_of_ble_eq_true rfl⟩) hS (fun q _ h => hFc q h) hFc (fun rv9 u t H1 locs ht hvm hw hB hz1 hk1 hS => ?_)
            try dsimp only at hw hB
            obtain ⟨hP1, hK1, hD1⟩ := hB
            rw [ht] at hP1
            obtain ⟨rfl, hw⟩ := hw
            obtain ⟨hP, hD⟩ := va_join (wr := [(se, .inr (10, [.int x1, .ref lb, .int x2, .int x3, .int x4, .int x5, .long y1, .long y2])), (lb, .inr (1, [.ref lr, .int (nI ln)])), (lr, .inl ((cT 0), sz_, .inl fl))]) (w1 := [(rq, .inr (4, [.ref dr, .ref sa])), (sa, .inl ((cT 0), 256, .inl ga)), (dr, .inr (2, [.ref rr, .int (nI len)])), (rr, .inl ((cT 0), 1000, .inl f))]) hP hD [3, 4, 5, 6] [0, 1, 2] rfl rfl (by decide) (by decide) hk1 hFc hP1 hD1
            have hw11 := hw
            clear hPc hDc hFc hz1 hk1 hP1 hK1 hD1
            generalize H1 = H at hP hS ⊢
            have hP : va_P (dC, dI) vcl [(se, .inr (10, [.int x1, .ref lb, .int x2, .int x3, .int x4, .int x5, .long y1, .long y2])), (lb, .inr (1, [.ref lr, .int (nI ln)])), (lr, .inl ((cT 0), sz_, .inl fl)), (rq, .inr (4, [.ref dr, .ref sa])), (sa, .inl ((cT 0), 256, .inl ga)), (dr, .inr (2, [.ref rr, .int (nI len)])), (rr, .inl ((cT 0), 1000, .inl f))] H := hP
            have hD : va_D A [(se, .inr (10, [.int x1, .ref lb, .int x2, .int x3, .int x4, .int x5, .long y1, .long y2])), (lb, .inr (1, [.ref lr, .int (nI ln)])), (lr, .inl ((cT 0), sz_, .inl fl)), (rq, .inr (4, [.ref dr, .ref sa])), (sa, .inl ((cT 0), 256, .inl ga)), (dr, .inr (2, [.ref rr, .int (nI len)])), (rr, .inl ((cT 0), 1000, .inl f))] := hD
            refine lv_isub hx hb d_Se_compareWith_61 ?_
            refine lv_topi (fun x9 e9 => ?_)
            refine lv_istore (lv' := [(5, .int x9), (4, .int (nI i)), (3, .int (nI n)), (0, .ref se), (2, .ref rq)]) hx hb d_Se_compareWith_62 hl (by decide) rfl (fun ls hl => ?_)
            refine lv_iload hx hb d_Se_compareWith_64 (lv_at hl 0 rfl) ?_
            refine lv_if_eq (tgt := 72) hx hb d_Se_compareWith_66 (by decide) (fun hc12 => ?_) (fun hc12 => ?_)
            · skip
              refine lv_iinc (k := 1) (v := nI (i + 1)) (lv' := [(4, .int (nI (i + 1))), (5, .int x9), (3, .int (nI n)), (0, .ref se), (2, .ref rq)]) hx hb d_Se_compareWith_72 hl rfl (nI_1 i) (by decide) rfl (fun ls hl => ?_)
              refine lv_goto (tgt := 25) hx hb d_Se_compareWith_75 (by decide) ?_
              have hl := lv_sub hl [0, 2, 3, 4] (show _ = [(4, .int (nI (i + 1))), (3, .int (nI n)), (0, .ref se), (2, .ref rq)] from rfl)
              exfalso; omega
            · skip
              refine lv_iload hx hb d_Se_compareWith_69 (lv_at hl 0 rfl) ?_
              have hl := lv_sub hl [3] (show _ = [(0, .ref se)] from rfl)
              exact ex1 x9 _ _ _  hP hD hS hl
      | succ jj6 ih => 
        intro i H locs ls hm9 hi hP hD hS hl
        refine lv_iload hx hb d_Se_compareWith_25 (lv_at hl 0 rfl) ?_
        refine lv_aload_n hx hb d_Se_compareWith_27 rfl (lv_at hl 2 rfl) ?_
        refine va_get (D := (dC, dI)) (ci := 10) (v := (.ref lb)) (C := R_Se) (T := F_Se) (N := 8) hx hb hg in_Se hown hK hP 0 rfl rfl 1 (by decide) (hg _ k_262) (fun _ h9 => h9) rfl d_Se_compareWith_28 ?_
        refine va_get (D := (dC, dI)) (ci := 1) (v := (.int (nI ln))) (C := R_By) (T := F_By) (N := 2) hx hb hg in_By hown hK hP 1 rfl rfl 1 (by decide) (hg _ k_56) (fun _ h9 => h9) rfl d_Se_compareWith_31 ?_
        refine lv_icmp_ge (tgt := 78) hx hb d_Se_compareWith_34 (by decide) (fun hc13 => ?_) (fun hc13 => ?_)
        · skip
          exact ex0 i _ _ _  hP hD hS hl
        · skip
          have h1 : i < ln := Nat.not_le.mp (fun h7 => hc13 (nI_le h7 (by omega)))
          refine lv_iload hx hb d_Se_compareWith_37 (lv_at hl 0 rfl) ?_
          refine lv_iload_n hx hb d_Se_compareWith_39 rfl (lv_at hl 1 rfl) ?_
          refine lv_icmp_ge (tgt := 78) hx hb d_Se_compareWith_40 (by decide) (fun hc14 => ?_) (fun hc14 => ?_)
          · skip
            exact ex0 i _ _ _  hP hD hS hl
          · skip
            have h2 : i < n := Nat.not_le.mp (fun h7 => hc14 (nI_le h7 (by omega)))
            refine lv_aload_n hx hb d_Se_compareWith_43 rfl (lv_at hl 2 rfl) ?_
            refine va_get (D := (dC, dI)) (ci := 10) (v := (.ref lb)) (C := R_Se) (T := F_Se) (N := 8) hx hb hg in_Se hown hK hP 0 rfl rfl 1 (by decide) (hg _ k_262) (fun _ h9 => h9) rfl d_Se_compareWith_44 ?_
            refine va_get (D := (dC, dI)) (ci := 1) (v := (.ref lr)) (C := R_By) (T := F_By) (N := 2) hx hb hg in_By hown hK hP 1 rfl rfl 0 (by decide) (hg _ k_42) (fun _ h9 => h9) rfl d_Se_compareWith_47 ?_
            refine lv_iload hx hb d_Se_compareWith_50 (lv_at hl 0 rfl) ?_
            refine va_iald hx hb hK hP 2 0 rfl rfl (i := (nI i)) (vp_in_nI (by omega) (by omega)) d_Se_compareWith_52 ?_
            refine lv_aload_n hx hb d_Se_compareWith_53 rfl (lv_at hl 3 rfl) ?_
            refine lv_bipush (v := 44) hx hb d_Se_compareWith_54 (by decide) ?_
            refine lv_topi (fun x16 e15 => ?_)
            obtain rfl : x16 = nI 44 := by rw [e15]; rfl
            refine lv_iload hx hb d_Se_compareWith_56 (lv_at hl 0 rfl) ?_
            have hPc := hP.sub (ws' := [(rq, .inr (4, [.ref dr, .ref sa])), (sa, .inl ((cT 0), 256, .inl ga)), (dr, .inr (2, [.ref rr, .int (nI len)])), (rr, .inl ((cT 0), 1000, .inl f))]) [3, 4, 5, 6] rfl
            have hDc := hD.sub (ws' := [(rq, .inr (4, [.ref dr, .ref sa])), (sa, .inl ((cT 0), 256, .inl ga)), (dr, .inr (2, [.ref rr, .int (nI len)])), (rr, .inl ((cT 0), 1000, .inl f))]) [3, 4, 5, 6] (by decide) rfl
            have hFc := va_free (wc := [(rq, .inr (4, [.ref dr, .ref sa])), (sa, .inl ((cT 0), 256, .inl ga)), (dr, .inr (2, [.ref rr, .int (nI len)])), (rr, .inl ((cT 0), 1000, .inl f))]) hD hS hA [3, 4, 5, 6] rfl
            refine va_calli (va_runV (C := "DoorServer$Request") (As := [.int (nI 44), .int (nI i)]) (rest := [.int (fl (nI i).toNatClampNeg)]) ⟨hx, hb, hml, hown, hg⟩ (c_byteOf l dC dI cT H.size rq dr rr sa len f ga 44 a i (by decide) (hga) (by omega)) (cwV 2 hg (gI (List.forall_mem_append.mpr ⟨List.forall_mem_cons.mpr ⟨k_783, List.forall_mem_cons.mpr ⟨k_766, List.forall_mem_cons.mpr ⟨k_767, List.forall_mem_cons.mpr ⟨k_12, fun _ h => absurd h List.not_mem_nil⟩⟩⟩⟩, List.forall_mem_cons.mpr ⟨k_768, fun _ h => h⟩⟩)) rfl rfl rfl (by decide +kernel) ⟨Nat.le_of_ble_eq_true rfl, Nat.le_of_ble_eq_true rfl⟩) ⟨fun a U g mk q => by obtain ⟨q0, q1, qP, qK, qD⟩ := q; exact ⟨q0, q1, qP, va_K.moved (u := U) (U := U.calling g mk a) (Vm.Alike.refl U.vm) qK, qD⟩, va_recv (q0 := 3) (ci := 4) hK hP rfl rfl, fun U hU hW => ⟨rfl, by rw [hU], by rw [hU]; exact hPc, va_K.moved hW.alike hK, hDc.weaken (fun _ _ _ _ => trivial)⟩⟩ rfl rfl hl.1 rfl (lv_room (Nat.le_of_ble_eq_true rfl)) d_Se_compareWith_58 ⟨Nat.le_of_ble_eq_true rfl, Nat.le_of_ble_eq_true rfl⟩) hS (fun q _ h => hFc q h) hFc (fun rv9 u t H1 locs ht hvm hw hB hz1 hk1 hS => ?_)
            try dsimp only at hw hB
            obtain ⟨hP1, hK1, hD1⟩ := hB
            rw [ht] at hP1
            obtain ⟨rfl, hw⟩ := hw
            obtain ⟨hP, hD⟩ := va_join (wr := [(se, .inr (10, [.int x1, .ref lb, .int x2, .int x3, .int x4, .int x5, .long y1, .long y2])), (lb, .inr (1, [.ref lr, .int (nI ln)])), (lr, .inl ((cT 0), sz_, .inl fl))]) (w1 := [(rq, .inr (4, [.ref dr, .ref sa])), (sa, .inl ((cT 0), 256, .inl ga)), (dr, .inr (2, [.ref rr, .int (nI len)])), (rr, .inl ((cT 0), 1000, .inl f))]) hP hD [3, 4, 5, 6] [0, 1, 2] rfl rfl (by decide) (by decide) hk1 hFc hP1 hD1
            have hw17 := hw
            clear hPc hDc hFc hz1 hk1 hP1 hK1 hD1
            generalize H1 = H at hP hS ⊢
            have hP : va_P (dC, dI) vcl [(se, .inr (10, [.int x1, .ref lb, .int x2, .int x3, .int x4, .int x5, .long y1, .long y2])), (lb, .inr (1, [.ref lr, .int (nI ln)])), (lr, .inl ((cT 0), sz_, .inl fl)), (rq, .inr (4, [.ref dr, .ref sa])), (sa, .inl ((cT 0), 256, .inl ga)), (dr, .inr (2, [.ref rr, .int (nI len)])), (rr, .inl ((cT 0), 1000, .inl f))] H := hP
            have hD : va_D A [(se, .inr (10, [.int x1, .ref lb, .int x2, .int x3, .int x4, .int x5, .long y1, .long y2])), (lb, .inr (1, [.ref lr, .int (nI ln)])), (lr, .inl ((cT 0), sz_, .inl fl)), (rq, .inr (4, [.ref dr, .ref sa])), (sa, .inl ((cT 0), 256, .inl ga)), (dr, .inr (2, [.ref rr, .int (nI len)])), (rr, .inl ((cT 0), 1000, .inl f))] := hD
            refine lv_isub hx hb d_Se_compareWith_61 ?_
            refine lv_topi (fun x9 e9 => ?_)
            refine lv_istore (lv' := [(5, .int x9), (4, .int (nI i)), (3, .int (nI n)), (0, .ref se), (2, .ref rq)]) hx hb d_Se_compareWith_62 hl (by decide) rfl (fun ls hl => ?_)
            refine lv_iload hx hb d_Se_compareWith_64 (lv_at hl 0 rfl) ?_
            refine lv_if_eq (tgt := 72) hx hb d_Se_compareWith_66 (by decide) (fun hc18 => ?_) (fun hc18 => ?_)
            · skip
              refine lv_iinc (k := 1) (v := nI (i + 1)) (lv' := [(4, .int (nI (i + 1))), (5, .int x9), (3, .int (nI n)), (0, .ref se), (2, .ref rq)]) hx hb d_Se_compareWith_72 hl rfl (nI_1 i) (by decide) rfl (fun ls hl => ?_)
              refine lv_goto (tgt := 25) hx hb d_Se_compareWith_75 (by decide) ?_
              have hl := lv_sub hl [0, 2, 3, 4] (show _ = [(4, .int (nI (i + 1))), (3, .int (nI n)), (0, .ref se), (2, .ref rq)] from rfl)
              exact ih (i + 1) _ _ _ (by omega) (by omega) hP hD hS hl
            · skip
              refine lv_iload hx hb d_Se_compareWith_69 (lv_at hl 0 rfl) ?_
              have hl := lv_sub hl [3] (show _ = [(0, .ref se)] from rfl)
              exact ex1 x9 _ _ _  hP hD hS hl
    refine L5 _ (fun i H locs ls  hP hD hS hl => ?_) (fun x9 H locs ls  hP hD hS hl => ?_) (ln - 0) 0 H _ ls (Nat.le_refl _) (Nat.zero_le _) hP hD hS hl
    · skip
      refine lv_aload_n hx hb d_Se_compareWith_78 rfl (lv_at hl 2 rfl) ?_
      refine va_get (D := (dC, dI)) (ci := 10) (v := (.ref lb)) (C := R_Se) (T := F_Se) (N := 8) hx hb hg in_Se hown hK hP 0 rfl rfl 1 (by decide) (hg _ k_262) (fun _ h9 => h9) rfl d_Se_compareWith_79 ?_
      refine va_get (D := (dC, dI)) (ci := 1) (v := (.int (nI ln))) (C := R_By) (T := F_By) (N := 2) hx hb hg in_By hown hK hP 1 rfl rfl 1 (by decide) (hg _ k_56) (fun _ h9 => h9) rfl d_Se_compareWith_82 ?_
      refine lv_iload_n hx hb d_Se_compareWith_85 rfl (lv_at hl 1 rfl) ?_
      refine lv_isub hx hb d_Se_compareWith_86 ?_
      have hP9 := hP.sub (ws' := [(se, .inr (10, [.int x1, .ref lb, .int x2, .int x3, .int x4, .int x5, .long y1, .long y2])), (lb, .inr (1, [.ref lr, .int (nI ln)])), (lr, .inl ((cT 0), sz_, .inl fl)), (rq, .inr (4, [.ref dr, .ref sa])), (sa, .inl ((cT 0), 256, .inl ga)), (dr, .inr (2, [.ref rr, .int (nI len)])), (rr, .inl ((cT 0), 1000, .inl f))]) [0, 1, 2, 3, 4, 5, 6] rfl
      have hD9 := hD.sub (ws' := [(se, .inr (10, [.int x1, .ref lb, .int x2, .int x3, .int x4, .int x5, .long y1, .long y2])), (lb, .inr (1, [.ref lr, .int (nI ln)])), (lr, .inl ((cT 0), sz_, .inl fl)), (rq, .inr (4, [.ref dr, .ref sa])), (sa, .inl ((cT 0), 256, .inl ga)), (dr, .inr (2, [.ref rr, .int (nI len)])), (rr, .inl ((cT 0), 1000, .inl f))]) [0, 1, 2, 3, 4, 5, 6] (by decide) rfl
      exact W.iret (v := (nI ln) - (nI n)) hx hb hr (fun t ht hW => ⟨⟨_, (), rfl, trivial, by rw [ht]; exact hP9, va_K.moved hW.alike hK, hD9⟩, hS.F ht⟩) hS.2.2 d_Se_compareWith_87
    · skip
      have hP9 := hP.sub (ws' := [(se, .inr (10, [.int x1, .ref lb, .int x2, .int x3, .int x4, .int x5, .long y1, .long y2])), (lb, .inr (1, [.ref lr, .int (nI ln)])), (lr, .inl ((cT 0), sz_, .inl fl)), (rq, .inr (4, [.ref dr, .ref sa])), (sa, .inl ((cT 0), 256, .inl ga)), (dr, .inr (2, [.ref rr, .int (nI len)])), (rr, .inl ((cT 0), 1000, .inl f))]) [0, 1, 2, 3, 4, 5, 6] rfl
      have hD9 := hD.sub (ws' := [(se, .inr (10, [.int x1, .ref lb, .int x2, .int x3, .int x4, .int x5, .long y1, .long y2])), (lb, .inr (1, [.ref lr, .int (nI ln)])), (lr, .inl ((cT 0), sz_, .inl fl)), (rq, .inr (4, [.ref dr, .ref sa])), (sa, .inl ((cT 0), 256, .inl ga)), (dr, .inr (2, [.ref rr, .int (nI len)])), (rr, .inl ((cT 0), 1000, .inl f))]) [0, 1, 2, 3, 4, 5, 6] (by decide) rfl
      exact W.iret (v := x9) hx hb hr (fun t ht hW => ⟨⟨_, (), rfl, trivial, by rw [ht]; exact hP9, va_K.moved hW.alike hK, hD9⟩, hS.F ht⟩) hS.2.2 d_Se_compareWith_71
  · skip
    refine lv_aload_n hx hb d_Se_compareWith_8 rfl (lv_at hl 0 rfl) ?_
    refine va_get (D := (dC, dI)) (ci := 10) (v := (.int x1)) (C := R_Se) (T := F_Se) (N := 8) hx hb hg in_Se hown hK hP 0 rfl rfl 0 (by decide) (hg _ k_260) (fun _ h9 => h9) rfl d_Se_compareWith_9 ?_
    refine lv_iload_n hx hb d_Se_compareWith_12 rfl (lv_at hl 1 rfl) ?_
    refine lv_isub hx hb d_Se_compareWith_13 ?_
    have hP9 := hP.sub (ws' := [(se, .inr (10, [.int x1, .ref lb, .int x2, .int x3, .int x4, .int x5, .long y1, .long y2])), (lb, .inr (1, [.ref lr, .int (nI ln)])), (lr, .inl ((cT 0), sz_, .inl fl)), (rq, .inr (4, [.ref dr, .ref sa])), (sa, .inl ((cT 0), 256, .inl ga)), (dr, .inr (2, [.ref rr, .int (nI len)])), (rr, .inl ((cT 0), 1000, .inl f))]) [0, 1, 2, 3, 4, 5, 6] rfl
    have hD9 := hD.sub (ws' := [(se, .inr (10, [.int x1, .ref lb, .int x2, .int x3, .int x4, .int x5, .long y1, .long y2])), (lb, .inr (1, [.ref lr, .int (nI ln)])), (lr, .inl ((cT 0), sz_, .inl fl)), (rq, .inr (4, [.ref dr, .ref sa])), (sa, .inl ((cT 0), 256, .inl ga)), (dr, .inr (2, [.ref rr, .int (nI len)])), (rr, .inl ((cT 0), 1000, .inl f))]) [0, 1, 2, 3, 4, 5, 6] (by decide) rfl
    exact W.iret (v := x1 - x) hx hb hr (fun t ht hW => ⟨⟨_, (), rfl, trivial, by rw [ht]; exact hP9, va_K.moved hW.alike hK, hD9⟩, hS.F ht⟩) hS.2.2 d_Se_compareWith_14
set_option maxHeartbeats 4000000 in
set_option maxRecDepth 100000 in
/-- come -/
theorem c_Se_come (l : Launch) (dC : Nat → ClassId) (dI : Nat → Nat → Nat) (cT : Nat → ClassId) (sz : Nat) (se : Nat) (lb : Nat) (lr : Nat) (sz_ : Nat) (ln : Nat) (fl : Nat → Int32) (x1 : Int32) (x2 : Int32) (x3 : Int32) (x4 : Int32) (x5 : Int32) (y1 : Int64) (y2 : Int64) (rq : Nat) (dr : Nat) (rr : Nat) (sa : Nat) (len : Nat) (f : Nat → Int32) (ga : Nat → Int32) (a : Nat) (n : Nat) (x : Int32) (tm : Int32) (a0 : Nat) (n0 : Nat) (hga : ga 44 = nI a) (ha : 22 ≤ a) (hfa : f (a - 1) = nI (n + 2)) (hal : a + n ≤ len) (hn16 : 1 ≤ n ∧ n ≤ 16) (hlen : len ≤ 1000) (hln : ln ≤ sz_) (hsz : sz_ = 16) (hg1 : ga 1 = nI a0) (ha0 : 22 ≤ a0) (hf0 : f (a0 - 1) = nI (n0 + 2)) (hl0 : a0 + n0 ≤ len) (hn0 : 1 ≤ n0) : Met l y_Se_come (Cond.code y_Se_come b_Se_come 4 (Option.none : Option Jvm.ClassFile.FieldType) :: BIG) ({ frames := 3, cells := 0, slots := 0, locals := 120 }) (va_Pc [.ref se, .int x, .ref rq, .int tm] (fun U => U.heap.size = sz ∧ va_P (dC, dI) vcl [(se, .inr (10, [.int x1, .ref lb, .int x2, .int x3, .int x4, .int x5, .long y1, .long y2])), (lb, .inr (1, [.ref lr, .int (nI ln)])), (lr, .inl ((cT 0), sz_, .inl fl)), (rq, .inr (4, [.ref dr, .ref sa])), (sa, .inl ((cT 0), 256, .inl ga)), (dr, .inr (2, [.ref rr, .int (nI len)])), (rr, .inl ((cT 0), 1000, .inl f))] U.heap ∧ va_K (dC, dI) vcl (tyL cT) U ∧ va_D (fun _ => True) [(se, .inr (10, [.int x1, .ref lb, .int x2, .int x3, .int x4, .int x5, .long y1, .long y2])), (lb, .inr (1, [.ref lr, .int (nI ln)])), (lr, .inl ((cT 0), sz_, .inl fl)), (rq, .inr (4, [.ref dr, .ref sa])), (sa, .inl ((cT 0), 256, .inl ga)), (dr, .inr (2, [.ref rr, .int (nI len)])), (rr, .inl ((cT 0), 1000, .inl f))])) (va_Qv (S := Int32 × (Nat → Int32)) (fun u => match u with | (z2, g) => AB fl → AB f → AB g) (fun u t => match u with | (z2, g) => va_P (dC, dI) vcl [(se, .inr (10, [.int x, .ref lb, .int z2, .int x3, .int tm, .int tm, .long y1, .long y2])), (lb, .inr (1, [.ref lr, .int (nI n)])), (lr, .inl ((cT 0), sz_, .inl g)), (rq, .inr (4, [.ref dr, .ref sa])), (sa, .inl ((cT 0), 256, .inl ga)), (dr, .inr (2, [.ref rr, .int (nI len)])), (rr, .inl ((cT 0), 1000, .inl f))] t.heap ∧ va_K (dC, dI) vcl (tyL cT) t ∧ va_D (va_A [(se, .inr (10, [.int x1, .ref lb, .int x2, .int x3, .int x4, .int x5, .long y1, .long y2])), (lb, .inr (1, [.ref lr, .int (nI ln)])), (lr, .inl ((cT 0), sz_, .inl fl)), (rq, .inr (4, [.ref dr, .ref sa])), (sa, .inl ((cT 0), 256, .inl ga)), (dr, .inr (2, [.ref rr, .int (nI len)])), (rr, .inl ((cT 0), 1000, .inl f))] sz) [(se, .inr (10, [.int x, .ref lb, .int z2, .int x3, .int tm, .int tm, .long y1, .long y2])), (lb, .inr (1, [.ref lr, .int (nI n)])), (lr, .inl ((cT 0), sz_, .inl g)), (rq, .inr (4, [.ref dr, .ref sa])), (sa, .inl ((cT 0), 256, .inl ga)), (dr, .inr (2, [.ref rr, .int (nI len)])), (rr, .inl ((cT 0), 1000, .inl f))]) (va_A [(se, .inr (10, [.int x1, .ref lb, .int x2, .int x3, .int x4, .int x5, .long y1, .long y2])), (lb, .inr (1, [.ref lr, .int (nI ln)])), (lr, .inl ((cT 0), sz_, .inl fl)), (rq, .inr (4, [.ref dr, .ref sa])), (sa, .inl ((cT 0), 256, .inl ga)), (dr, .inr (2, [.ref rr, .int (nI len)])), (rr, .inl ((cT 0), 1000, .inl f))] sz)) 0 0 (va_A [(se, .inr (10, [.int x1, .ref lb, .int x2, .int x3, .int x4, .int x5, .long y1, .long y2])), (lb, .inr (1, [.ref lr, .int (nI ln)])), (lr, .inl ((cT 0), sz_, .inl fl)), (rq, .inr (4, [.ref dr, .ref sa])), (sa, .inl ((cT 0), 256, .inl ga)), (dr, .inr (2, [.ref rr, .int (nI len)])), (rr, .inl ((cT 0), 1000, .inl f))] sz) := by
  refine Met.ofW (cc := b_Se_come) (maxL := 4) (ret := (Option.none : Option Jvm.ClassFile.FieldType)) (by decide) rfl ?_
  intro p e s m args below meth c s₁ B hml hv
  obtain ⟨hargs, hsz, hP, hK, hD0⟩ := hv
  have hx := B.exec
  have hb := B.bytes
  have hr := B.returns
  have hts := atoms_spec (ws := (Cond.code y_Se_come b_Se_come 4 (Option.none : Option Jvm.ClassFile.FieldType) :: BIG)) B.pre
  have hg : ∀ w ∈ BIG, w.before _ s = true := fun w h => hts w (List.mem_cons_of_mem _ h)
  have hown : s.vm.findClass "DoorServer$Session" = some m.cls := findClass_of_methodNamed B.named
  have hlocks := B.notSynchronized
  subst hsz
  have hD := hD0.self (sz := s.heap.size)
  generalize hAe : va_A [(se, .inr (10, [.int x1, .ref lb, .int x2, .int x3, .int x4, .int x5, .long y1, .long y2])), (lb, .inr (1, [.ref lr, .int (nI ln)])), (lr, .inl ((cT 0), sz_, .inl fl)), (rq, .inr (4, [.ref dr, .ref sa])), (sa, .inl ((cT 0), 256, .inl ga)), (dr, .inr (2, [.ref rr, .int (nI len)])), (rr, .inl ((cT 0), 1000, .inl f))] s.heap.size = A at hD ⊢
  have hA : ∀ q : Nat, s.heap.size ≤ q → A q := fun q h => by rw [← hAe]; exact Or.inr h
  have hS : va_S A s.heap s.heap [] := va_S.rf
  have hl := lv_entry ([.ref se, .int x, .ref rq, .int tm]) (n := 4) (Nat.le_of_ble_eq_true rfl)
  refine W.eq (g2 := entryFrame m (List.toArray [.ref se, .int x, .ref rq, .int tm]) 4) (by rw [hargs]) ?_
  rw [lg_entry_eq]
  generalize (lg_sl ([.ref se, .int x, .ref rq, .int tm]) ++ List.replicate (4 - (lg_sl ([.ref se, .int x, .ref rq, .int tm])).length) Slot.unset).toArray = ls at hl ⊢
  have hl : lv_has ls 4 [(0, .ref se), (1, .int x), (2, .ref rq), (3, .int tm)] := hl
  change W p l e ({ frames := 3, cells := 0, slots := 0, locals := 120 } : Room) s m args below meth c s.heap [] 0 0 _ _
  have hP : va_P (dC, dI) vcl [(se, .inr (10, [.int x1, .ref lb, .int x2, .int x3, .int x4, .int x5, .long y1, .long y2])), (lb, .inr (1, [.ref lr, .int (nI ln)])), (lr, .inl ((cT 0), sz_, .inl fl)), (rq, .inr (4, [.ref dr, .ref sa])), (sa, .inl ((cT 0), 256, .inl ga)), (dr, .inr (2, [.ref rr, .int (nI len)])), (rr, .inl ((cT 0), 1000, .inl f))] s.heap := hP
  refine lv_aload_n hx hb d_Se_come_0 rfl (lv_at hl 0 rfl) ?_
  refine lv_iload_n hx hb d_Se_come_1 rfl (lv_at hl 1 rfl) ?_
  refine va_put (D := (dC, dI)) (ci := 10) (v := (.int x)) (ty := .int) (C := R_Se) (T := F_Se) (N := 8) hx hb hg in_Se t_Se tok_Se nm_Se hown hK hP hD hS 0 rfl rfl 0 (by decide) (hg _ k_260) (fun _ h9 => h9) rfl (by decide +kernel) rfl rfl (Nat.le_of_ble_eq_true rfl) d_Se_come_2 (fun H locs hP hD hS => ?_)
  have hP : va_P (dC, dI) vcl [(se, .inr (10, [.int x, .ref lb, .int x2, .int x3, .int x4, .int x5, .long y1, .long y2])), (lb, .inr (1, [.ref lr, .int (nI ln)])), (lr, .inl ((cT 0), sz_, .inl fl)), (rq, .inr (4, [.ref dr, .ref sa])), (sa, .inl ((cT 0), 256, .inl ga)), (dr, .inr (2, [.ref rr, .int (nI len)])), (rr, .inl ((cT 0), 1000, .inl f))] H := hP
  have hD : va_D A [(se, .inr (10, [.int x, .ref lb, .int x2, .int x3, .int x4, .int x5, .long y1, .long y2])), (lb, .inr (1, [.ref lr, .int (nI ln)])), (lr, .inl ((cT 0), sz_, .inl fl)), (rq, .inr (4, [.ref dr, .ref sa])), (sa, .inl ((cT 0), 256, .inl ga)), (dr, .inr (2, [.ref rr, .int (nI len)])), (rr, .inl ((cT 0), 1000, .inl f))] := hD
  refine lv_aload_n hx hb d_Se_come_5 rfl (lv_at hl 0 rfl) ?_
  refine va_get (D := (dC, dI)) (ci := 10) (v := (.ref lb)) (C := R_Se) (T := F_Se) (N := 8) hx hb hg in_Se hown hK hP 0 rfl rfl 1 (by decide) (hg _ k_262) (fun _ h9 => h9) rfl d_Se_come_6 ?_
  refine lv_aload_n hx hb d_Se_come_9 rfl (lv_at hl 2 rfl) ?_
  refine va_get (D := (dC, dI)) (ci := 4) (v := (.ref dr)) (C := R_Rq) (T := F_Rq) (N := 2) hx hb hg in_Rq hown hK hP 3 rfl rfl 0 (by decide) (hg _ k_310) (fun _ h9 => h9) rfl d_Se_come_10 ?_
  refine va_get (D := (dC, dI)) (ci := 2) (v := (.ref rr)) (C := R_Pk) (T := F_Pk) (N := 2) hx hb hg in_Pk hown hK hP 5 rfl rfl 0 (by decide) (hg _ k_43) (fun x9 h9 => u_same (hg _ k_41) x9 h9) rfl d_Se_come_13 ?_
  refine lv_aload_n hx hb d_Se_come_16 rfl (lv_at hl 2 rfl) ?_
  refine lv_bipush (v := 44) hx hb d_Se_come_17 (by decide) ?_
  refine lv_topi (fun x20 e19 => ?_)
  obtain rfl : x20 = nI 44 := by rw [e19]; rfl
  have hPc := hP.sub (ws' := [(rq, .inr (4, [.ref dr, .ref sa])), (sa, .inl ((cT 0), 256, .inl ga)), (dr, .inr (2, [.ref rr, .int (nI len)])), (rr, .inl ((cT 0), 1000, .inl f))]) [3, 4, 5, 6] rfl
  have hDc := hD.sub (ws' := [(rq, .inr (4, [.ref dr, .ref sa])), (sa, .inl ((cT 0), 256, .inl ga)), (dr, .inr (2, [.ref rr, .int (nI len)])), (rr, .inl ((cT 0), 1000, .inl f))]) [3, 4, 5, 6] (by decide) rfl
  have hFc := va_free (wc := [(rq, .inr (4, [.ref dr, .ref sa])), (sa, .inl ((cT 0), 256, .inl ga)), (dr, .inr (2, [.ref rr, .int (nI len)])), (rr, .inl ((cT 0), 1000, .inl f))]) hD hS hA [3, 4, 5, 6] rfl
  refine va_calli (va_runV (C := "DoorServer$Request") (As := [.int (nI 44)]) (rest := [.ref rr, .ref lb]) ⟨hx, hb, hml, hown, hg⟩ (c_startOf l dC dI cT H.size rq dr rr sa len f ga 44 (by decide)) (cwV 1 hg (gI (List.forall_mem_append.mpr ⟨List.forall_mem_cons.mpr ⟨k_792, List.forall_mem_cons.mpr ⟨k_724, List.forall_mem_cons.mpr ⟨k_725, List.forall_mem_cons.mpr ⟨k_12, fun _ h => absurd h List.not_mem_nil⟩⟩⟩⟩, List.forall_mem_cons.mpr ⟨k_726, fun _ h => h⟩⟩)) rfl rfl rfl (by decide +kernel) ⟨Nat.le_of_ble_eq_true rfl, Nat.le_of_ble_eq_true rfl⟩) ⟨fun a U g mk q => by obtain ⟨q0, q1, qP, qK, qD⟩ := q; exact ⟨q0, q1, qP, va_K.moved (u := U) (U := U.calling g mk a) (Vm.Alike.refl U.vm) qK, qD⟩, va_recv (q0 := 3) (ci := 4) hK hP rfl rfl, fun U hU hW => ⟨rfl, by rw [hU], by rw [hU]; exact hPc, va_K.moved hW.alike hK, hDc.weaken (fun _ _ _ _ => trivial)⟩⟩ rfl rfl hl.1 rfl (lv_room (Nat.le_of_ble_eq_true rfl)) d_Se_come_19 ⟨Nat.le_of_ble_eq_true rfl, Nat.le_of_ble_eq_true rfl⟩) hS (fun q _ h => hFc q h) hFc (fun rv9 u t H1 locs ht hvm hw hB hz1 hk1 hS => ?_)
  try dsimp only at hw hB
  obtain ⟨hP1, hK1, hD1⟩ := hB
  rw [ht] at hP1
  obtain ⟨rfl, hw⟩ := hw
  obtain ⟨hP, hD⟩ := va_join (wr := [(se, .inr (10, [.int x, .ref lb, .int x2, .int x3, .int x4, .int x5, .long y1, .long y2])), (lb, .inr (1, [.ref lr, .int (nI ln)])), (lr, .inl ((cT 0), sz_, .inl fl))]) (w1 := [(rq, .inr (4, [.ref dr, .ref sa])), (sa, .inl ((cT 0), 256, .inl ga)), (dr, .inr (2, [.ref rr, .int (nI len)])), (rr, .inl ((cT 0), 1000, .inl f))]) hP hD [3, 4, 5, 6] [0, 1, 2] rfl rfl (by decide) (by decide) hk1 hFc hP1 hD1
  have hw21 := hw
  clear hPc hDc hFc hz1 hk1 hP1 hK1 hD1
  generalize H1 = H at hP hS ⊢
  have hP : va_P (dC, dI) vcl [(se, .inr (10, [.int x, .ref lb, .int x2, .int x3, .int x4, .int x5, .long y1, .long y2])), (lb, .inr (1, [.ref lr, .int (nI ln)])), (lr, .inl ((cT 0), sz_, .inl fl)), (rq, .inr (4, [.ref dr, .ref sa])), (sa, .inl ((cT 0), 256, .inl ga)), (dr, .inr (2, [.ref rr, .int (nI len)])), (rr, .inl ((cT 0), 1000, .inl f))] H := hP
  have hD : va_D A [(se, .inr (10, [.int x, .ref lb, .int x2, .int x3, .int x4, .int x5, .long y1, .long y2])), (lb, .inr (1, [.ref lr, .int (nI ln)])), (lr, .inl ((cT 0), sz_, .inl fl)), (rq, .inr (4, [.ref dr, .ref sa])), (sa, .inl ((cT 0), 256, .inl ga)), (dr, .inr (2, [.ref rr, .int (nI len)])), (rr, .inl ((cT 0), 1000, .inl f))] := hD
  refine lv_topi (fun x23 e22 => ?_)
  obtain rfl : x23 = nI a := by rw [e22]; exact hga
  refine lv_aload_n hx hb d_Se_come_22 rfl (lv_at hl 2 rfl) ?_
  refine lv_bipush (v := 44) hx hb d_Se_come_23 (by decide) ?_
  refine lv_topi (fun x25 e24 => ?_)
  obtain rfl : x25 = nI 44 := by rw [e24]; rfl
  have hPc := hP.sub (ws' := [(rq, .inr (4, [.ref dr, .ref sa])), (sa, .inl ((cT 0), 256, .inl ga)), (dr, .inr (2, [.ref rr, .int (nI len)])), (rr, .inl ((cT 0), 1000, .inl f))]) [3, 4, 5, 6] rfl
  have hDc := hD.sub (ws' := [(rq, .inr (4, [.ref dr, .ref sa])), (sa, .inl ((cT 0), 256, .inl ga)), (dr, .inr (2, [.ref rr, .int (nI len)])), (rr, .inl ((cT 0), 1000, .inl f))]) [3, 4, 5, 6] (by decide) rfl
  have hFc := va_free (wc := [(rq, .inr (4, [.ref dr, .ref sa])), (sa, .inl ((cT 0), 256, .inl ga)), (dr, .inr (2, [.ref rr, .int (nI len)])), (rr, .inl ((cT 0), 1000, .inl f))]) hD hS hA [3, 4, 5, 6] rfl
  refine va_calli (va_runV (C := "DoorServer$Request") (As := [.int (nI 44)]) (rest := [.int (nI a), .ref rr, .ref lb]) ⟨hx, hb, hml, hown, hg⟩ (c_lengthOf l dC dI cT H.size rq dr rr sa len f ga 44 a n (by decide) (hga) (ha) (hfa) (hal) (hlen)) (cwV 1 hg (gI (List.forall_mem_append.mpr ⟨List.forall_mem_cons.mpr ⟨k_782, List.forall_mem_cons.mpr ⟨k_762, List.forall_mem_cons.mpr ⟨k_763, List.forall_mem_cons.mpr ⟨k_12, fun _ h => absurd h List.not_mem_nil⟩⟩⟩⟩, List.forall_mem_cons.mpr ⟨k_764, fun _ h => h⟩⟩)) rfl rfl rfl (by decide +kernel) ⟨Nat.le_of_ble_eq_true rfl, Nat.le_of_ble_eq_true rfl⟩) ⟨fun a U g mk q => by obtain ⟨q0, q1, qP, qK, qD⟩ := q; exact ⟨q0, q1, qP, va_K.moved (u := U) (U := U.calling g mk a) (Vm.Alike.refl U.vm) qK, qD⟩, va_recv (q0 := 3) (ci := 4) hK hP rfl rfl, fun U hU hW => ⟨rfl, by rw [hU], by rw [hU]; exact hPc, va_K.moved hW.alike hK, hDc.weaken (fun _ _ _ _ => trivial)⟩⟩ rfl rfl hl.1 rfl (lv_room (Nat.le_of_ble_eq_true rfl)) d_Se_come_25 ⟨Nat.le_of_ble_eq_true rfl, Nat.le_of_ble_eq_true rfl⟩) hS (fun q _ h => hFc q h) hFc (fun rv9 u t H1 locs ht hvm hw hB hz1 hk1 hS => ?_)
  try dsimp only at hw hB
  obtain ⟨hP1, hK1, hD1⟩ := hB
  rw [ht] at hP1
  obtain ⟨rfl, hw⟩ := hw
  obtain ⟨hP, hD⟩ := va_join (wr := [(se, .inr (10, [.int x, .ref lb, .int x2, .int x3, .int x4, .int x5, .long y1, .long y2])), (lb, .inr (1, [.ref lr, .int (nI ln)])), (lr, .inl ((cT 0), sz_, .inl fl))]) (w1 := [(rq, .inr (4, [.ref dr, .ref sa])), (sa, .inl ((cT 0), 256, .inl ga)), (dr, .inr (2, [.ref rr, .int (nI len)])), (rr, .inl ((cT 0), 1000, .inl f))]) hP hD [3, 4, 5, 6] [0, 1, 2] rfl rfl (by decide) (by decide) hk1 hFc hP1 hD1
  have hw26 := hw
  clear hPc hDc hFc hz1 hk1 hP1 hK1 hD1
  generalize H1 = H at hP hS ⊢
  have hP : va_P (dC, dI) vcl [(se, .inr (10, [.int x, .ref lb, .int x2, .int x3, .int x4, .int x5, .long y1, .long y2])), (lb, .inr (1, [.ref lr, .int (nI ln)])), (lr, .inl ((cT 0), sz_, .inl fl)), (rq, .inr (4, [.ref dr, .ref sa])), (sa, .inl ((cT 0), 256, .inl ga)), (dr, .inr (2, [.ref rr, .int (nI len)])), (rr, .inl ((cT 0), 1000, .inl f))] H := hP
  have hD : va_D A [(se, .inr (10, [.int x, .ref lb, .int x2, .int x3, .int x4, .int x5, .long y1, .long y2])), (lb, .inr (1, [.ref lr, .int (nI ln)])), (lr, .inl ((cT 0), sz_, .inl fl)), (rq, .inr (4, [.ref dr, .ref sa])), (sa, .inl ((cT 0), 256, .inl ga)), (dr, .inr (2, [.ref rr, .int (nI len)])), (rr, .inl ((cT 0), 1000, .inl f))] := hD
  have hPc := hP.sub (ws' := [(lb, .inr (1, [.ref lr, .int (nI ln)])), (lr, .inl ((cT 0), sz_, .inl fl)), (rr, .inl ((cT 0), 1000, .inl f))]) [1, 2, 6] rfl
  have hDc := hD.sub (ws' := [(lb, .inr (1, [.ref lr, .int (nI ln)])), (lr, .inl ((cT 0), sz_, .inl fl)), (rr, .inl ((cT 0), 1000, .inl f))]) [1, 2, 6] (by decide) rfl
  have hFc := va_free (wc := [(lb, .inr (1, [.ref lr, .int (nI ln)])), (lr, .inl ((cT 0), sz_, .inl fl)), (rr, .inl ((cT 0), 1000, .inl f))]) hD hS hA [1, 2, 6] rfl
  refine va_callv (va_runV (C := "DoorServer$Bytes") (As := [.ref rr, .int (nI a), .int (nI n)]) (rest := []) ⟨hx, hb, hml, hown, hg⟩ (c_By_becomeRow l dC dI cT H.size lb lr sz_ ln fl rr 1000 f a n (by omega) (by omega) (by omega) (by decide)) (cwV 3 hg (gI (List.forall_mem_append.mpr ⟨List.forall_mem_cons.mpr ⟨k_793, List.forall_mem_cons.mpr ⟨k_568, List.forall_mem_cons.mpr ⟨k_569, List.forall_mem_cons.mpr ⟨k_2, fun _ h => absurd h List.not_mem_nil⟩⟩⟩⟩, List.forall_mem_cons.mpr ⟨k_572, fun _ h => h⟩⟩)) rfl rfl rfl (by decide +kernel) ⟨Nat.le_of_ble_eq_true rfl, Nat.le_of_ble_eq_true rfl⟩) ⟨fun a U g mk q => by obtain ⟨q0, q1, qP, qK, qD⟩ := q; exact ⟨q0, q1, qP, va_K.moved (u := U) (U := U.calling g mk a) (Vm.Alike.refl U.vm) qK, qD⟩, va_recv (q0 := 1) (ci := 1) hK hP rfl rfl, fun U hU hW => ⟨rfl, by rw [hU], by rw [hU]; exact hPc, va_K.moved hW.alike hK, hDc.weaken (fun _ _ _ _ => trivial)⟩⟩ rfl rfl hl.1 rfl (lv_room (Nat.le_of_ble_eq_true rfl)) d_Se_come_28 ⟨Nat.le_of_ble_eq_true rfl, Nat.le_of_ble_eq_true rfl⟩) hS (fun q _ h => hFc q h) hFc (fun u t H1 locs ht hvm hw hB hz1 hk1 hS => ?_)
  obtain ⟨g_27, rfl⟩ : ∃ z, z = u := ⟨_, rfl⟩
  try dsimp only at hw hB
  obtain ⟨hP1, hK1, hD1⟩ := hB
  rw [ht] at hP1
  obtain ⟨hP, hD⟩ := va_join (wr := [(se, .inr (10, [.int x, .ref lb, .int x2, .int x3, .int x4, .int x5, .long y1, .long y2])), (rq, .inr (4, [.ref dr, .ref sa])), (sa, .inl ((cT 0), 256, .inl ga)), (dr, .inr (2, [.ref rr, .int (nI len)]))]) (w1 := [(lb, .inr (1, [.ref lr, .int (nI n)])), (lr, .inl ((cT 0), sz_, .inl g_27)), (rr, .inl ((cT 0), 1000, .inl f))]) hP hD [1, 2, 6] [0, 3, 4, 5] rfl rfl (by decide) (by decide) hk1 hFc hP1 hD1
  have hw28 := hw
  clear hPc hDc hFc hz1 hk1 hP1 hK1 hD1
  generalize H1 = H at hP hS ⊢
  have hP : va_P (dC, dI) vcl [(se, .inr (10, [.int x, .ref lb, .int x2, .int x3, .int x4, .int x5, .long y1, .long y2])), (rq, .inr (4, [.ref dr, .ref sa])), (sa, .inl ((cT 0), 256, .inl ga)), (dr, .inr (2, [.ref rr, .int (nI len)])), (lb, .inr (1, [.ref lr, .int (nI n)])), (lr, .inl ((cT 0), sz_, .inl g_27)), (rr, .inl ((cT 0), 1000, .inl f))] H := hP
  have hD : va_D A [(se, .inr (10, [.int x, .ref lb, .int x2, .int x3, .int x4, .int x5, .long y1, .long y2])), (rq, .inr (4, [.ref dr, .ref sa])), (sa, .inl ((cT 0), 256, .inl ga)), (dr, .inr (2, [.ref rr, .int (nI len)])), (lb, .inr (1, [.ref lr, .int (nI n)])), (lr, .inl ((cT 0), sz_, .inl g_27)), (rr, .inl ((cT 0), 1000, .inl f))] := hD
  refine lv_aload_n hx hb d_Se_come_31 rfl (lv_at hl 0 rfl) ?_
  refine lv_aload_n hx hb d_Se_come_32 rfl (lv_at hl 2 rfl) ?_
  refine lv_iconst (v := 1) hx hb d_Se_come_33 (by decide) ?_
  refine lv_topi (fun x30 e29 => ?_)
  obtain rfl : x30 = nI 1 := by rw [e29]; rfl
  refine lv_aload_n hx hb d_Se_come_34 rfl (lv_at hl 2 rfl) ?_
  refine lv_iconst (v := 1) hx hb d_Se_come_35 (by decide) ?_
  refine lv_topi (fun x32 e31 => ?_)
  obtain rfl : x32 = nI 1 := by rw [e31]; rfl
  have hPc := hP.sub (ws' := [(rq, .inr (4, [.ref dr, .ref sa])), (sa, .inl ((cT 0), 256, .inl ga)), (dr, .inr (2, [.ref rr, .int (nI len)])), (rr, .inl ((cT 0), 1000, .inl f))]) [1, 2, 3, 6] rfl
  have hDc := hD.sub (ws' := [(rq, .inr (4, [.ref dr, .ref sa])), (sa, .inl ((cT 0), 256, .inl ga)), (dr, .inr (2, [.ref rr, .int (nI len)])), (rr, .inl ((cT 0), 1000, .inl f))]) [1, 2, 3, 6] (by decide) rfl
  have hFc := va_free (wc := [(rq, .inr (4, [.ref dr, .ref sa])), (sa, .inl ((cT 0), 256, .inl ga)), (dr, .inr (2, [.ref rr, .int (nI len)])), (rr, .inl ((cT 0), 1000, .inl f))]) hD hS hA [1, 2, 3, 6] rfl
  refine va_calli (va_runV (C := "DoorServer$Request") (As := [.int (nI 1)]) (rest := [.int (nI 1), .ref rq, .ref se]) ⟨hx, hb, hml, hown, hg⟩ (c_lengthOf l dC dI cT H.size rq dr rr sa len f ga 1 a0 n0 (by decide) (hg1) (ha0) (hf0) (hl0) (hlen)) (cwV 1 hg (gI (List.forall_mem_append.mpr ⟨List.forall_mem_cons.mpr ⟨k_782, List.forall_mem_cons.mpr ⟨k_762, List.forall_mem_cons.mpr ⟨k_763, List.forall_mem_cons.mpr ⟨k_12, fun _ h => absurd h List.not_mem_nil⟩⟩⟩⟩, List.forall_mem_cons.mpr ⟨k_764, fun _ h => h⟩⟩)) rfl rfl rfl (by decide +kernel) ⟨Nat.le_of_ble_eq_true rfl, Nat.le_of_ble_eq_true rfl⟩) ⟨fun a U g mk q => by obtain ⟨q0, q1, qP, qK, qD⟩ := q; exact ⟨q0, q1, qP, va_K.moved (u := U) (U := U.calling g mk a) (Vm.Alike.refl U.vm) qK, qD⟩, va_recv (q0 := 1) (ci := 4) hK hP rfl rfl, fun U hU hW => ⟨rfl, by rw [hU], by rw [hU]; exact hPc, va_K.moved hW.alike hK, hDc.weaken (fun _ _ _ _ => trivial)⟩⟩ rfl rfl hl.1 rfl (lv_room (Nat.le_of_ble_eq_true rfl)) d_Se_come_36 ⟨Nat.le_of_ble_eq_true rfl, Nat.le_of_ble_eq_true rfl⟩) hS (fun q _ h => hFc q h) hFc (fun rv9 u t H1 locs ht hvm hw hB hz1 hk1 hS => ?_)
  try dsimp only at hw hB
  obtain ⟨hP1, hK1, hD1⟩ := hB
  rw [ht] at hP1
  obtain ⟨rfl, hw⟩ := hw
  obtain ⟨hP, hD⟩ := va_join (wr := [(se, .inr (10, [.int x, .ref lb, .int x2, .int x3, .int x4, .int x5, .long y1, .long y2])), (lb, .inr (1, [.ref lr, .int (nI n)])), (lr, .inl ((cT 0), sz_, .inl g_27))]) (w1 := [(rq, .inr (4, [.ref dr, .ref sa])), (sa, .inl ((cT 0), 256, .inl ga)), (dr, .inr (2, [.ref rr, .int (nI len)])), (rr, .inl ((cT 0), 1000, .inl f))]) hP hD [1, 2, 3, 6] [0, 4, 5] rfl rfl (by decide) (by decide) hk1 hFc hP1 hD1
  have hw33 := hw
  clear hPc hDc hFc hz1 hk1 hP1 hK1 hD1
  generalize H1 = H at hP hS ⊢
  have hP : va_P (dC, dI) vcl [(se, .inr (10, [.int x, .ref lb, .int x2, .int x3, .int x4, .int x5, .long y1, .long y2])), (lb, .inr (1, [.ref lr, .int (nI n)])), (lr, .inl ((cT 0), sz_, .inl g_27)), (rq, .inr (4, [.ref dr, .ref sa])), (sa, .inl ((cT 0), 256, .inl ga)), (dr, .inr (2, [.ref rr, .int (nI len)])), (rr, .inl ((cT 0), 1000, .inl f))] H := hP
  have hD : va_D A [(se, .inr (10, [.int x, .ref lb, .int x2, .int x3, .int x4, .int x5, .long y1, .long y2])), (lb, .inr (1, [.ref lr, .int (nI n)])), (lr, .inl ((cT 0), sz_, .inl g_27)), (rq, .inr (4, [.ref dr, .ref sa])), (sa, .inl ((cT 0), 256, .inl ga)), (dr, .inr (2, [.ref rr, .int (nI len)])), (rr, .inl ((cT 0), 1000, .inl f))] := hD
  refine lv_iconst (v := 1) hx hb d_Se_come_39 (by decide) ?_
  refine lv_isub hx hb d_Se_come_40 ?_
  refine lv_topi (fun x35 e34 => ?_)
  obtain rfl : x35 = nI (n0 - 1) := by rw [e34]; exact pk_sub (b := 1) (by omega)
  have hPc := hP.sub (ws' := [(rq, .inr (4, [.ref dr, .ref sa])), (sa, .inl ((cT 0), 256, .inl ga)), (dr, .inr (2, [.ref rr, .int (nI len)])), (rr, .inl ((cT 0), 1000, .inl f))]) [3, 4, 5, 6] rfl
  have hDc := hD.sub (ws' := [(rq, .inr (4, [.ref dr, .ref sa])), (sa, .inl ((cT 0), 256, .inl ga)), (dr, .inr (2, [.ref rr, .int (nI len)])), (rr, .inl ((cT 0), 1000, .inl f))]) [3, 4, 5, 6] (by decide) rfl
  have hFc := va_free (wc := [(rq, .inr (4, [.ref dr, .ref sa])), (sa, .inl ((cT 0), 256, .inl ga)), (dr, .inr (2, [.ref rr, .int (nI len)])), (rr, .inl ((cT 0), 1000, .inl f))]) hD hS hA [3, 4, 5, 6] rfl
  refine va_calli (va_runV (C := "DoorServer$Request") (As := [.int (nI 1), .int (nI (n0 - 1))]) (rest := [.ref se]) ⟨hx, hb, hml, hown, hg⟩ (c_byteOf l dC dI cT H.size rq dr rr sa len f ga 1 a0 (n0 - 1) (by decide) (hg1) (by omega)) (cwV 2 hg (gI (List.forall_mem_append.mpr ⟨List.forall_mem_cons.mpr ⟨k_783, List.forall_mem_cons.mpr ⟨k_766, List.forall_mem_cons.mpr ⟨k_767, List.forall_mem_cons.mpr ⟨k_12, fun _ h => absurd h List.not_mem_nil⟩⟩⟩⟩, List.forall_mem_cons.mpr ⟨k_768, fun _ h => h⟩⟩)) rfl rfl rfl (by decide +kernel) ⟨Nat.le_of_ble_eq_true rfl, Nat.le_of_ble_eq_true rfl⟩) ⟨fun a U g mk q => by obtain ⟨q0, q1, qP, qK, qD⟩ := q; exact ⟨q0, q1, qP, va_K.moved (u := U) (U := U.calling g mk a) (Vm.Alike.refl U.vm) qK, qD⟩, va_recv (q0 := 3) (ci := 4) hK hP rfl rfl, fun U hU hW => ⟨rfl, by rw [hU], by rw [hU]; exact hPc, va_K.moved hW.alike hK, hDc.weaken (fun _ _ _ _ => trivial)⟩⟩ rfl rfl hl.1 rfl (lv_room (Nat.le_of_ble_eq_true rfl)) d_Se_come_41 ⟨Nat.le_of_ble_eq_true rfl, Nat.le_of_ble_eq_true rfl⟩) hS (fun q _ h => hFc q h) hFc (fun rv9 u t H1 locs ht hvm hw hB hz1 hk1 hS => ?_)
  try dsimp only at hw hB
  obtain ⟨hP1, hK1, hD1⟩ := hB
  rw [ht] at hP1
  obtain ⟨rfl, hw⟩ := hw
  obtain ⟨hP, hD⟩ := va_join (wr := [(se, .inr (10, [.int x, .ref lb, .int x2, .int x3, .int x4, .int x5, .long y1, .long y2])), (lb, .inr (1, [.ref lr, .int (nI n)])), (lr, .inl ((cT 0), sz_, .inl g_27))]) (w1 := [(rq, .inr (4, [.ref dr, .ref sa])), (sa, .inl ((cT 0), 256, .inl ga)), (dr, .inr (2, [.ref rr, .int (nI len)])), (rr, .inl ((cT 0), 1000, .inl f))]) hP hD [3, 4, 5, 6] [0, 1, 2] rfl rfl (by decide) (by decide) hk1 hFc hP1 hD1
  have hw36 := hw
  clear hPc hDc hFc hz1 hk1 hP1 hK1 hD1
  generalize H1 = H at hP hS ⊢
  have hP : va_P (dC, dI) vcl [(se, .inr (10, [.int x, .ref lb, .int x2, .int x3, .int x4, .int x5, .long y1, .long y2])), (lb, .inr (1, [.ref lr, .int (nI n)])), (lr, .inl ((cT 0), sz_, .inl g_27)), (rq, .inr (4, [.ref dr, .ref sa])), (sa, .inl ((cT 0), 256, .inl ga)), (dr, .inr (2, [.ref rr, .int (nI len)])), (rr, .inl ((cT 0), 1000, .inl f))] H := hP
  have hD : va_D A [(se, .inr (10, [.int x, .ref lb, .int x2, .int x3, .int x4, .int x5, .long y1, .long y2])), (lb, .inr (1, [.ref lr, .int (nI n)])), (lr, .inl ((cT 0), sz_, .inl g_27)), (rq, .inr (4, [.ref dr, .ref sa])), (sa, .inl ((cT 0), 256, .inl ga)), (dr, .inr (2, [.ref rr, .int (nI len)])), (rr, .inl ((cT 0), 1000, .inl f))] := hD
  refine va_put (D := (dC, dI)) (ci := 10) (v := (.int (f (a0 + (n0 - 1))))) (ty := .int) (C := R_Se) (T := F_Se) (N := 8) hx hb hg in_Se t_Se tok_Se nm_Se hown hK hP hD hS 0 rfl rfl 2 (by decide) (hg _ k_264) (fun _ h9 => h9) rfl (by decide +kernel) rfl rfl (Nat.le_of_ble_eq_true rfl) d_Se_come_44 (fun H locs hP hD hS => ?_)
  have hP : va_P (dC, dI) vcl [(se, .inr (10, [.int x, .ref lb, .int (f (a0 + (n0 - 1))), .int x3, .int x4, .int x5, .long y1, .long y2])), (lb, .inr (1, [.ref lr, .int (nI n)])), (lr, .inl ((cT 0), sz_, .inl g_27)), (rq, .inr (4, [.ref dr, .ref sa])), (sa, .inl ((cT 0), 256, .inl ga)), (dr, .inr (2, [.ref rr, .int (nI len)])), (rr, .inl ((cT 0), 1000, .inl f))] H := hP
  have hD : va_D A [(se, .inr (10, [.int x, .ref lb, .int (f (a0 + (n0 - 1))), .int x3, .int x4, .int x5, .long y1, .long y2])), (lb, .inr (1, [.ref lr, .int (nI n)])), (lr, .inl ((cT 0), sz_, .inl g_27)), (rq, .inr (4, [.ref dr, .ref sa])), (sa, .inl ((cT 0), 256, .inl ga)), (dr, .inr (2, [.ref rr, .int (nI len)])), (rr, .inl ((cT 0), 1000, .inl f))] := hD
  refine lv_aload_n hx hb d_Se_come_47 rfl (lv_at hl 0 rfl) ?_
  refine lv_iload_n hx hb d_Se_come_48 rfl (lv_at hl 3 rfl) ?_
  refine va_put (D := (dC, dI)) (ci := 10) (v := (.int tm)) (ty := .int) (C := R_Se) (T := F_Se) (N := 8) hx hb hg in_Se t_Se tok_Se nm_Se hown hK hP hD hS 0 rfl rfl 4 (by decide) (hg _ k_269) (fun _ h9 => h9) rfl (by decide +kernel) rfl rfl (Nat.le_of_ble_eq_true rfl) d_Se_come_49 (fun H locs hP hD hS => ?_)
  have hP : va_P (dC, dI) vcl [(se, .inr (10, [.int x, .ref lb, .int (f (a0 + (n0 - 1))), .int x3, .int tm, .int x5, .long y1, .long y2])), (lb, .inr (1, [.ref lr, .int (nI n)])), (lr, .inl ((cT 0), sz_, .inl g_27)), (rq, .inr (4, [.ref dr, .ref sa])), (sa, .inl ((cT 0), 256, .inl ga)), (dr, .inr (2, [.ref rr, .int (nI len)])), (rr, .inl ((cT 0), 1000, .inl f))] H := hP
  have hD : va_D A [(se, .inr (10, [.int x, .ref lb, .int (f (a0 + (n0 - 1))), .int x3, .int tm, .int x5, .long y1, .long y2])), (lb, .inr (1, [.ref lr, .int (nI n)])), (lr, .inl ((cT 0), sz_, .inl g_27)), (rq, .inr (4, [.ref dr, .ref sa])), (sa, .inl ((cT 0), 256, .inl ga)), (dr, .inr (2, [.ref rr, .int (nI len)])), (rr, .inl ((cT 0), 1000, .inl f))] := hD
  refine lv_aload_n hx hb d_Se_come_52 rfl (lv_at hl 0 rfl) ?_
  refine lv_iload_n hx hb d_Se_come_53 rfl (lv_at hl 3 rfl) ?_
  refine va_put (D := (dC, dI)) (ci := 10) (v := (.int tm)) (ty := .int) (C := R_Se) (T := F_Se) (N := 8) hx hb hg in_Se t_Se tok_Se nm_Se hown hK hP hD hS 0 rfl rfl 5 (by decide) (hg _ k_271) (fun _ h9 => h9) rfl (by decide +kernel) rfl rfl (Nat.le_of_ble_eq_true rfl) d_Se_come_54 (fun H locs hP hD hS => ?_)
  have hP : va_P (dC, dI) vcl [(se, .inr (10, [.int x, .ref lb, .int (f (a0 + (n0 - 1))), .int x3, .int tm, .int tm, .long y1, .long y2])), (lb, .inr (1, [.ref lr, .int (nI n)])), (lr, .inl ((cT 0), sz_, .inl g_27)), (rq, .inr (4, [.ref dr, .ref sa])), (sa, .inl ((cT 0), 256, .inl ga)), (dr, .inr (2, [.ref rr, .int (nI len)])), (rr, .inl ((cT 0), 1000, .inl f))] H := hP
  have hD : va_D A [(se, .inr (10, [.int x, .ref lb, .int (f (a0 + (n0 - 1))), .int x3, .int tm, .int tm, .long y1, .long y2])), (lb, .inr (1, [.ref lr, .int (nI n)])), (lr, .inl ((cT 0), sz_, .inl g_27)), (rq, .inr (4, [.ref dr, .ref sa])), (sa, .inl ((cT 0), 256, .inl ga)), (dr, .inr (2, [.ref rr, .int (nI len)])), (rr, .inl ((cT 0), 1000, .inl f))] := hD
  have hP9 := hP.sub (ws' := [(se, .inr (10, [.int x, .ref lb, .int (f (a0 + (n0 - 1))), .int x3, .int tm, .int tm, .long y1, .long y2])), (lb, .inr (1, [.ref lr, .int (nI n)])), (lr, .inl ((cT 0), sz_, .inl g_27)), (rq, .inr (4, [.ref dr, .ref sa])), (sa, .inl ((cT 0), 256, .inl ga)), (dr, .inr (2, [.ref rr, .int (nI len)])), (rr, .inl ((cT 0), 1000, .inl f))]) [0, 1, 2, 3, 4, 5, 6] rfl
  have hD9 := hD.sub (ws' := [(se, .inr (10, [.int x, .ref lb, .int (f (a0 + (n0 - 1))), .int x3, .int tm, .int tm, .long y1, .long y2])), (lb, .inr (1, [.ref lr, .int (nI n)])), (lr, .inl ((cT 0), sz_, .inl g_27)), (rq, .inr (4, [.ref dr, .ref sa])), (sa, .inl ((cT 0), 256, .inl ga)), (dr, .inr (2, [.ref rr, .int (nI len)])), (rr, .inl ((cT 0), 1000, .inl f))]) [0, 1, 2, 3, 4, 5, 6] (by decide) rfl
  exact W.vret hx hb hr (fun t ht hW => ⟨⟨⟨f (a0 + (n0 - 1)), g_27⟩, rfl, hw28, by rw [ht]; exact hP9, va_K.moved hW.alike hK, hD9⟩, hS.F ht⟩) hS.2.2 d_Se_come_57
set_option maxHeartbeats 4000000 in
set_option maxRecDepth 100000 in
/-- change -/
theorem c_Se_change0 (l : Launch) (dC : Nat → ClassId) (dI : Nat → Nat → Nat) (cT : Nat → ClassId) (sz : Nat) (se : Nat) (lb : Nat) (lr : Nat) (sz_ : Nat) (ln : Nat) (fl : Nat → Int32) (x1 : Int32) (x2 : Int32) (x3 : Int32) (x4 : Int32) (x5 : Int32) (y1 : Int64) (y2 : Int64) (rq : Nat) (dr : Nat) (rr : Nat) (sa : Nat) (len : Nat) (f : Nat → Int32) (ga : Nat → Int32) (tm : Int32) (hq : RQW ga f len) (hlen : len ≤ 1000) : Met l y_Se_change (Cond.code y_Se_change b_Se_change 4 (Option.none : Option Jvm.ClassFile.FieldType) :: BIG) ({ frames := 2, cells := 0, slots := 0, locals := 50 }) (va_Pc [.ref se, .ref rq, .int tm, .int 0] (fun U => U.heap.size = sz ∧ va_P (dC, dI) vcl [(se, .inr (10, [.int x1, .ref lb, .int x2, .int x3, .int x4, .int x5, .long y1, .long y2])), (lb, .inr (1, [.ref lr, .int (nI ln)])), (lr, .inl ((cT 0), sz_, .inl fl)), (rq, .inr (4, [.ref dr, .ref sa])), (sa, .inl ((cT 0), 256, .inl ga)), (dr, .inr (2, [.ref rr, .int (nI len)])), (rr, .inl ((cT 0), 1000, .inl f))] U.heap ∧ va_K (dC, dI) vcl (tyL cT) U ∧ va_D (fun _ => True) [(se, .inr (10, [.int x1, .ref lb, .int x2, .int x3, .int x4, .int x5, .long y1, .long y2])), (lb, .inr (1, [.ref lr, .int (nI ln)])), (lr, .inl ((cT 0), sz_, .inl fl)), (rq, .inr (4, [.ref dr, .ref sa])), (sa, .inl ((cT 0), 256, .inl ga)), (dr, .inr (2, [.ref rr, .int (nI len)])), (rr, .inl ((cT 0), 1000, .inl f))])) (va_Qv (S := Int64 × Int64) (fun u => match u with | (z1, z2) => True) (fun u t => match u with | (z1, z2) => va_P (dC, dI) vcl [(se, .inr (10, [.int x1, .ref lb, .int x2, .int 0, .int x4, .int tm, .long z1, .long z2])), (lb, .inr (1, [.ref lr, .int (nI ln)])), (lr, .inl ((cT 0), sz_, .inl fl)), (rq, .inr (4, [.ref dr, .ref sa])), (sa, .inl ((cT 0), 256, .inl ga)), (dr, .inr (2, [.ref rr, .int (nI len)])), (rr, .inl ((cT 0), 1000, .inl f))] t.heap ∧ va_K (dC, dI) vcl (tyL cT) t ∧ va_D (va_A [(se, .inr (10, [.int x1, .ref lb, .int x2, .int x3, .int x4, .int x5, .long y1, .long y2])), (lb, .inr (1, [.ref lr, .int (nI ln)])), (lr, .inl ((cT 0), sz_, .inl fl)), (rq, .inr (4, [.ref dr, .ref sa])), (sa, .inl ((cT 0), 256, .inl ga)), (dr, .inr (2, [.ref rr, .int (nI len)])), (rr, .inl ((cT 0), 1000, .inl f))] sz) [(se, .inr (10, [.int x1, .ref lb, .int x2, .int 0, .int x4, .int tm, .long z1, .long z2])), (lb, .inr (1, [.ref lr, .int (nI ln)])), (lr, .inl ((cT 0), sz_, .inl fl)), (rq, .inr (4, [.ref dr, .ref sa])), (sa, .inl ((cT 0), 256, .inl ga)), (dr, .inr (2, [.ref rr, .int (nI len)])), (rr, .inl ((cT 0), 1000, .inl f))]) (va_A [(se, .inr (10, [.int x1, .ref lb, .int x2, .int x3, .int x4, .int x5, .long y1, .long y2])), (lb, .inr (1, [.ref lr, .int (nI ln)])), (lr, .inl ((cT 0), sz_, .inl fl)), (rq, .inr (4, [.ref dr, .ref sa])), (sa, .inl ((cT 0), 256, .inl ga)), (dr, .inr (2, [.ref rr, .int (nI len)])), (rr, .inl ((cT 0), 1000, .inl f))] sz)) 0 0 (va_A [(se, .inr (10, [.int x1, .ref lb, .int x2, .int x3, .int x4, .int x5, .long y1, .long y2])), (lb, .inr (1, [.ref lr, .int (nI ln)])), (lr, .inl ((cT 0), sz_, .inl fl)), (rq, .inr (4, [.ref dr, .ref sa])), (sa, .inl ((cT 0), 256, .inl ga)), (dr, .inr (2, [.ref rr, .int (nI len)])), (rr, .inl ((cT 0), 1000, .inl f))] sz) := by
  refine Met.ofW (cc := b_Se_change) (maxL := 4) (ret := (Option.none : Option Jvm.ClassFile.FieldType)) (by decide) rfl ?_
  intro p e s m args below meth c s₁ B hml hv
  obtain ⟨hargs, hsz, hP, hK, hD0⟩ := hv
  have hx := B.exec
  have hb := B.bytes
  have hr := B.returns
  have hts := atoms_spec (ws := (Cond.code y_Se_change b_Se_change 4 (Option.none : Option Jvm.ClassFile.FieldType) :: BIG)) B.pre
  have hg : ∀ w ∈ BIG, w.before _ s = true := fun w h => hts w (List.mem_cons_of_mem _ h)
  have hown : s.vm.findClass "DoorServer$Session" = some m.cls := findClass_of_methodNamed B.named
  have hlocks := B.notSynchronized
  subst hsz
  have hD := hD0.self (sz := s.heap.size)
  generalize hAe : va_A [(se, .inr (10, [.int x1, .ref lb, .int x2, .int x3, .int x4, .int x5, .long y1, .long y2])), (lb, .inr (1, [.ref lr, .int (nI ln)])), (lr, .inl ((cT 0), sz_, .inl fl)), (rq, .inr (4, [.ref dr, .ref sa])), (sa, .inl ((cT 0), 256, .inl ga)), (dr, .inr (2, [.ref rr, .int (nI len)])), (rr, .inl ((cT 0), 1000, .inl f))] s.heap.size = A at hD ⊢
  have hA : ∀ q : Nat, s.heap.size ≤ q → A q := fun q h => by rw [← hAe]; exact Or.inr h
  have hS : va_S A s.heap s.heap [] := va_S.rf
  have hl := lv_entry ([.ref se, .ref rq, .int tm, .int 0]) (n := 4) (Nat.le_of_ble_eq_true rfl)
  refine W.eq (g2 := entryFrame m (List.toArray [.ref se, .ref rq, .int tm, .int 0]) 4) (by rw [hargs]) ?_
  rw [lg_entry_eq]
  generalize (lg_sl ([.ref se, .ref rq, .int tm, .int 0]) ++ List.replicate (4 - (lg_sl ([.ref se, .ref rq, .int tm, .int 0])).length) Slot.unset).toArray = ls at hl ⊢
  have hl : lv_has ls 4 [(0, .ref se), (1, .ref rq), (2, .int tm), (3, .int 0)] := hl
  change W p l e ({ frames := 2, cells := 0, slots := 0, locals := 50 } : Room) s m args below meth c s.heap [] 0 0 _ _
  have hP : va_P (dC, dI) vcl [(se, .inr (10, [.int x1, .ref lb, .int x2, .int x3, .int x4, .int x5, .long y1, .long y2])), (lb, .inr (1, [.ref lr, .int (nI ln)])), (lr, .inl ((cT 0), sz_, .inl fl)), (rq, .inr (4, [.ref dr, .ref sa])), (sa, .inl ((cT 0), 256, .inl ga)), (dr, .inr (2, [.ref rr, .int (nI len)])), (rr, .inl ((cT 0), 1000, .inl f))] s.heap := hP
  refine lv_aload_n hx hb d_Se_change_0 rfl (lv_at hl 0 rfl) ?_
  refine lv_iload_n hx hb d_Se_change_1 rfl (lv_at hl 2 rfl) ?_
  refine va_put (D := (dC, dI)) (ci := 10) (v := (.int tm)) (ty := .int) (C := R_Se) (T := F_Se) (N := 8) hx hb hg in_Se t_Se tok_Se nm_Se hown hK hP hD hS 0 rfl rfl 5 (by decide) (hg _ k_271) (fun _ h9 => h9) rfl (by decide +kernel) rfl rfl (Nat.le_of_ble_eq_true rfl) d_Se_change_2 (fun H locs hP hD hS => ?_)
  have hP : va_P (dC, dI) vcl [(se, .inr (10, [.int x1, .ref lb, .int x2, .int x3, .int x4, .int tm, .long y1, .long y2])), (lb, .inr (1, [.ref lr, .int (nI ln)])), (lr, .inl ((cT 0), sz_, .inl fl)), (rq, .inr (4, [.ref dr, .ref sa])), (sa, .inl ((cT 0), 256, .inl ga)), (dr, .inr (2, [.ref rr, .int (nI len)])), (rr, .inl ((cT 0), 1000, .inl f))] H := hP
  have hD : va_D A [(se, .inr (10, [.int x1, .ref lb, .int x2, .int x3, .int x4, .int tm, .long y1, .long y2])), (lb, .inr (1, [.ref lr, .int (nI ln)])), (lr, .inl ((cT 0), sz_, .inl fl)), (rq, .inr (4, [.ref dr, .ref sa])), (sa, .inl ((cT 0), 256, .inl ga)), (dr, .inr (2, [.ref rr, .int (nI len)])), (rr, .inl ((cT 0), 1000, .inl f))] := hD
  refine lv_aload_n hx hb d_Se_change_5 rfl (lv_at hl 0 rfl) ?_
  refine lv_aload_n hx hb d_Se_change_6 rfl (lv_at hl 0 rfl) ?_
  refine va_get (D := (dC, dI)) (ci := 10) (v := (.long y1)) (C := R_Se) (T := F_Se) (N := 8) hx hb hg in_Se hown hK hP 0 rfl rfl 6 (by decide) (hg _ k_273) (fun _ h9 => h9) rfl d_Se_change_7 ?_
  refine lv_aload_n hx hb d_Se_change_10 rfl (lv_at hl 1 rfl) ?_
  refine lv_bipush (v := 42) hx hb d_Se_change_11 (by decide) ?_
  refine lv_topi (fun x38 e37 => ?_)
  obtain rfl : x38 = nI 42 := by rw [e37]; rfl
  have hPc := hP.sub (ws' := [(rq, .inr (4, [.ref dr, .ref sa])), (sa, .inl ((cT 0), 256, .inl ga)), (dr, .inr (2, [.ref rr, .int (nI len)])), (rr, .inl ((cT 0), 1000, .inl f))]) [3, 4, 5, 6] rfl
  have hDc := hD.sub (ws' := [(rq, .inr (4, [.ref dr, .ref sa])), (sa, .inl ((cT 0), 256, .inl ga)), (dr, .inr (2, [.ref rr, .int (nI len)])), (rr, .inl ((cT 0), 1000, .inl f))]) [3, 4, 5, 6] (by decide) rfl
  have hFc := va_free (wc := [(rq, .inr (4, [.ref dr, .ref sa])), (sa, .inl ((cT 0), 256, .inl ga)), (dr, .inr (2, [.ref rr, .int (nI len)])), (rr, .inl ((cT 0), 1000, .inl f))]) hD hS hA [3, 4, 5, 6] rfl
  refine va_calll (va_runV (C := "DoorServer$Request") (As := [.int (nI 42)]) (rest := [.long y1, .ref se]) ⟨hx, hb, hml, hown, hg⟩ (c_numberOf l dC dI cT H.size rq dr rr sa len f ga 42 (by unfold KT; omega) (hq) (hlen)) (cwV 1 hg (gI (List.forall_mem_append.mpr ⟨List.forall_mem_cons.mpr ⟨k_800, List.forall_mem_cons.mpr ⟨k_757, List.forall_mem_cons.mpr ⟨k_758, List.forall_mem_cons.mpr ⟨k_12, fun _ h => absurd h List.not_mem_nil⟩⟩⟩⟩, List.forall_mem_cons.mpr ⟨k_759, fun _ h => h⟩⟩)) rfl rfl rfl (by decide +kernel) ⟨Nat.le_of_ble_eq_true rfl, Nat.le_of_ble_eq_true rfl⟩) ⟨fun a U g mk q => by obtain ⟨q0, q1, qP, qK, qD⟩ := q; exact ⟨q0, q1, qP, va_K.moved (u := U) (U := U.calling g mk a) (Vm.Alike.refl U.vm) qK, qD⟩, va_recv (q0 := 3) (ci := 4) hK hP rfl rfl, fun U hU hW => ⟨rfl, by rw [hU], by rw [hU]; exact hPc, va_K.moved hW.alike hK, hDc.weaken (fun _ _ _ _ => trivial)⟩⟩ rfl rfl hl.1 rfl (lv_room (Nat.le_of_ble_eq_true rfl)) d_Se_change_13 ⟨Nat.le_of_ble_eq_true rfl, Nat.le_of_ble_eq_true rfl⟩) hS (fun q _ h => hFc q h) hFc (fun rv9 u t H1 locs ht hvm hw hB hz1 hk1 hS => ?_)
  try dsimp only at hw hB
  obtain ⟨hP1, hK1, hD1⟩ := hB
  rw [ht] at hP1
  generalize rv9 = r39 at hw ⊢
  obtain ⟨hP, hD⟩ := va_join (wr := [(se, .inr (10, [.int x1, .ref lb, .int x2, .int x3, .int x4, .int tm, .long y1, .long y2])), (lb, .inr (1, [.ref lr, .int (nI ln)])), (lr, .inl ((cT 0), sz_, .inl fl))]) (w1 := [(rq, .inr (4, [.ref dr, .ref sa])), (sa, .inl ((cT 0), 256, .inl ga)), (dr, .inr (2, [.ref rr, .int (nI len)])), (rr, .inl ((cT 0), 1000, .inl f))]) hP hD [3, 4, 5, 6] [0, 1, 2] rfl rfl (by decide) (by decide) hk1 hFc hP1 hD1
  have hw40 := hw
  clear hPc hDc hFc hz1 hk1 hP1 hK1 hD1
  generalize H1 = H at hP hS ⊢
  have hP : va_P (dC, dI) vcl [(se, .inr (10, [.int x1, .ref lb, .int x2, .int x3, .int x4, .int tm, .long y1, .long y2])), (lb, .inr (1, [.ref lr, .int (nI ln)])), (lr, .inl ((cT 0), sz_, .inl fl)), (rq, .inr (4, [.ref dr, .ref sa])), (sa, .inl ((cT 0), 256, .inl ga)), (dr, .inr (2, [.ref rr, .int (nI len)])), (rr, .inl ((cT 0), 1000, .inl f))] H := hP
  have hD : va_D A [(se, .inr (10, [.int x1, .ref lb, .int x2, .int x3, .int x4, .int tm, .long y1, .long y2])), (lb, .inr (1, [.ref lr, .int (nI ln)])), (lr, .inl ((cT 0), sz_, .inl fl)), (rq, .inr (4, [.ref dr, .ref sa])), (sa, .inl ((cT 0), 256, .inl ga)), (dr, .inr (2, [.ref rr, .int (nI len)])), (rr, .inl ((cT 0), 1000, .inl f))] := hD
  refine va_mmax_long hx hb (hml.trans hl.1.symm) hown (hg _ k_801) (hg _ k_802) (hg _ k_21) (hg _ k_803) (Nat.le_of_ble_eq_true rfl) (Nat.le_of_ble_eq_true rfl) (Nat.le_of_ble_eq_true rfl) (Nat.le_of_ble_eq_true rfl) d_Se_change_16 ?_
  refine lv_topl (fun v41 _ => ?_)
  refine va_put (D := (dC, dI)) (ci := 10) (v := (.long v41)) (ty := .long) (C := R_Se) (T := F_Se) (N := 8) hx hb hg in_Se t_Se tok_Se nm_Se hown hK hP hD hS 0 rfl rfl 6 (by decide) (hg _ k_273) (fun _ h9 => h9) rfl (by decide +kernel) rfl rfl (Nat.le_of_ble_eq_true rfl) d_Se_change_19 (fun H locs hP hD hS => ?_)
  have hP : va_P (dC, dI) vcl [(se, .inr (10, [.int x1, .ref lb, .int x2, .int x3, .int x4, .int tm, .long v41, .long y2])), (lb, .inr (1, [.ref lr, .int (nI ln)])), (lr, .inl ((cT 0), sz_, .inl fl)), (rq, .inr (4, [.ref dr, .ref sa])), (sa, .inl ((cT 0), 256, .inl ga)), (dr, .inr (2, [.ref rr, .int (nI len)])), (rr, .inl ((cT 0), 1000, .inl f))] H := hP
  have hD : va_D A [(se, .inr (10, [.int x1, .ref lb, .int x2, .int x3, .int x4, .int tm, .long v41, .long y2])), (lb, .inr (1, [.ref lr, .int (nI ln)])), (lr, .inl ((cT 0), sz_, .inl fl)), (rq, .inr (4, [.ref dr, .ref sa])), (sa, .inl ((cT 0), 256, .inl ga)), (dr, .inr (2, [.ref rr, .int (nI len)])), (rr, .inl ((cT 0), 1000, .inl f))] := hD
  refine lv_aload_n hx hb d_Se_change_22 rfl (lv_at hl 0 rfl) ?_
  refine lv_aload_n hx hb d_Se_change_23 rfl (lv_at hl 0 rfl) ?_
  refine va_get (D := (dC, dI)) (ci := 10) (v := (.long y2)) (C := R_Se) (T := F_Se) (N := 8) hx hb hg in_Se hown hK hP 0 rfl rfl 7 (by decide) (hg _ k_275) (fun _ h9 => h9) rfl d_Se_change_24 ?_
  refine lv_aload_n hx hb d_Se_change_27 rfl (lv_at hl 1 rfl) ?_
  refine lv_bipush (v := 43) hx hb d_Se_change_28 (by decide) ?_
  refine lv_topi (fun x43 e42 => ?_)
  obtain rfl : x43 = nI 43 := by rw [e42]; rfl
  have hPc := hP.sub (ws' := [(rq, .inr (4, [.ref dr, .ref sa])), (sa, .inl ((cT 0), 256, .inl ga)), (dr, .inr (2, [.ref rr, .int (nI len)])), (rr, .inl ((cT 0), 1000, .inl f))]) [3, 4, 5, 6] rfl
  have hDc := hD.sub (ws' := [(rq, .inr (4, [.ref dr, .ref sa])), (sa, .inl ((cT 0), 256, .inl ga)), (dr, .inr (2, [.ref rr, .int (nI len)])), (rr, .inl ((cT 0), 1000, .inl f))]) [3, 4, 5, 6] (by decide) rfl
  have hFc := va_free (wc := [(rq, .inr (4, [.ref dr, .ref sa])), (sa, .inl ((cT 0), 256, .inl ga)), (dr, .inr (2, [.ref rr, .int (nI len)])), (rr, .inl ((cT 0), 1000, .inl f))]) hD hS hA [3, 4, 5, 6] rfl
  refine va_calll (va_runV (C := "DoorServer$Request") (As := [.int (nI 43)]) (rest := [.long y2, .ref se]) ⟨hx, hb, hml, hown, hg⟩ (c_numberOf l dC dI cT H.size rq dr rr sa len f ga 43 (by unfold KT; omega) (hq) (hlen)) (cwV 1 hg (gI (List.forall_mem_append.mpr ⟨List.forall_mem_cons.mpr ⟨k_800, List.forall_mem_cons.mpr ⟨k_757, List.forall_mem_cons.mpr ⟨k_758, List.forall_mem_cons.mpr ⟨k_12, fun _ h => absurd h List.not_mem_nil⟩⟩⟩⟩, List.forall_mem_cons.mpr ⟨k_759, fun _ h => h⟩⟩)) rfl rfl rfl (by decide +kernel) ⟨Nat.le_of_ble_eq_true rfl, Nat.le_of_ble_eq_true rfl⟩) ⟨fun a U g mk q => by obtain ⟨q0, q1, qP, qK, qD⟩ := q; exact ⟨q0, q1, qP, va_K.moved (u := U) (U := U.calling g mk a) (Vm.Alike.refl U.vm) qK, qD⟩, va_recv (q0 := 3) (ci := 4) hK hP rfl rfl, fun U hU hW => ⟨rfl, by rw [hU], by rw [hU]; exact hPc, va_K.moved hW.alike hK, hDc.weaken (fun _ _ _ _ => trivial)⟩⟩ rfl rfl hl.1 rfl (lv_room (Nat.le_of_ble_eq_true rfl)) d_Se_change_30 ⟨Nat.le_of_ble_eq_true rfl, Nat.le_of_ble_eq_true rfl⟩) hS (fun q _ h => hFc q h) hFc (fun rv9 u t H1 locs ht hvm hw hB hz1 hk1 hS => ?_)
  try dsimp only at hw hB
  obtain ⟨hP1, hK1, hD1⟩ := hB
  rw [ht] at hP1
  generalize rv9 = r44 at hw ⊢
  obtain ⟨hP, hD⟩ := va_join (wr := [(se, .inr (10, [.int x1, .ref lb, .int x2, .int x3, .int x4, .int tm, .long v41, .long y2])), (lb, .inr (1, [.ref lr, .int (nI ln)])), (lr, .inl ((cT 0), sz_, .inl fl))]) (w1 := [(rq, .inr (4, [.ref dr, .ref sa])), (sa, .inl ((cT 0), 256, .inl ga)), (dr, .inr (2, [.ref rr, .int (nI len)])), (rr, .inl ((cT 0), 1000, .inl f))]) hP hD [3, 4, 5, 6] [0, 1, 2] rfl rfl (by decide) (by decide) hk1 hFc hP1 hD1
  have hw45 := hw
  clear hPc hDc hFc hz1 hk1 hP1 hK1 hD1
  generalize H1 = H at hP hS ⊢
  have hP : va_P (dC, dI) vcl [(se, .inr (10, [.int x1, .ref lb, .int x2, .int x3, .int x4, .int tm, .long v41, .long y2])), (lb, .inr (1, [.ref lr, .int (nI ln)])), (lr, .inl ((cT 0), sz_, .inl fl)), (rq, .inr (4, [.ref dr, .ref sa])), (sa, .inl ((cT 0), 256, .inl ga)), (dr, .inr (2, [.ref rr, .int (nI len)])), (rr, .inl ((cT 0), 1000, .inl f))] H := hP
  have hD : va_D A [(se, .inr (10, [.int x1, .ref lb, .int x2, .int x3, .int x4, .int tm, .long v41, .long y2])), (lb, .inr (1, [.ref lr, .int (nI ln)])), (lr, .inl ((cT 0), sz_, .inl fl)), (rq, .inr (4, [.ref dr, .ref sa])), (sa, .inl ((cT 0), 256, .inl ga)), (dr, .inr (2, [.ref rr, .int (nI len)])), (rr, .inl ((cT 0), 1000, .inl f))] := hD
  refine va_mmax_long hx hb (hml.trans hl.1.symm) hown (hg _ k_801) (hg _ k_802) (hg _ k_21) (hg _ k_803) (Nat.le_of_ble_eq_true rfl) (Nat.le_of_ble_eq_true rfl) (Nat.le_of_ble_eq_true rfl) (Nat.le_of_ble_eq_true rfl) d_Se_change_33 ?_
  refine lv_topl (fun v46 _ => ?_)
  refine va_put (D := (dC, dI)) (ci := 10) (v := (.long v46)) (ty := .long) (C := R_Se) (T := F_Se) (N := 8) hx hb hg in_Se t_Se tok_Se nm_Se hown hK hP hD hS 0 rfl rfl 7 (by decide) (hg _ k_275) (fun _ h9 => h9) rfl (by decide +kernel) rfl rfl (Nat.le_of_ble_eq_true rfl) d_Se_change_36 (fun H locs hP hD hS => ?_)
  have hP : va_P (dC, dI) vcl [(se, .inr (10, [.int x1, .ref lb, .int x2, .int x3, .int x4, .int tm, .long v41, .long v46])), (lb, .inr (1, [.ref lr, .int (nI ln)])), (lr, .inl ((cT 0), sz_, .inl fl)), (rq, .inr (4, [.ref dr, .ref sa])), (sa, .inl ((cT 0), 256, .inl ga)), (dr, .inr (2, [.ref rr, .int (nI len)])), (rr, .inl ((cT 0), 1000, .inl f))] H := hP
  have hD : va_D A [(se, .inr (10, [.int x1, .ref lb, .int x2, .int x3, .int x4, .int tm, .long v41, .long v46])), (lb, .inr (1, [.ref lr, .int (nI ln)])), (lr, .inl ((cT 0), sz_, .inl fl)), (rq, .inr (4, [.ref dr, .ref sa])), (sa, .inl ((cT 0), 256, .inl ga)), (dr, .inr (2, [.ref rr, .int (nI len)])), (rr, .inl ((cT 0), 1000, .inl f))] := hD
  refine lv_aload_n hx hb d_Se_change_39 rfl (lv_at hl 0 rfl) ?_
  refine lv_iload_n hx hb d_Se_change_40 rfl (lv_at hl 3 rfl) ?_
  refine va_put (D := (dC, dI)) (ci := 10) (v := (.int 0)) (ty := .boolean) (C := R_Se) (T := F_Se) (N := 8) hx hb hg in_Se t_Se tok_Se nm_Se hown hK hP hD hS 0 rfl rfl 3 (by decide) (hg _ k_267) (fun _ h9 => h9) rfl (by decide +kernel) rfl rfl (Nat.le_of_ble_eq_true rfl) d_Se_change_41 (fun H locs hP hD hS => ?_)
  have hP : va_P (dC, dI) vcl [(se, .inr (10, [.int x1, .ref lb, .int x2, .int 0, .int x4, .int tm, .long v41, .long v46])), (lb, .inr (1, [.ref lr, .int (nI ln)])), (lr, .inl ((cT 0), sz_, .inl fl)), (rq, .inr (4, [.ref dr, .ref sa])), (sa, .inl ((cT 0), 256, .inl ga)), (dr, .inr (2, [.ref rr, .int (nI len)])), (rr, .inl ((cT 0), 1000, .inl f))] H := hP
  have hD : va_D A [(se, .inr (10, [.int x1, .ref lb, .int x2, .int 0, .int x4, .int tm, .long v41, .long v46])), (lb, .inr (1, [.ref lr, .int (nI ln)])), (lr, .inl ((cT 0), sz_, .inl fl)), (rq, .inr (4, [.ref dr, .ref sa])), (sa, .inl ((cT 0), 256, .inl ga)), (dr, .inr (2, [.ref rr, .int (nI len)])), (rr, .inl ((cT 0), 1000, .inl f))] := hD
  have hP9 := hP.sub (ws' := [(se, .inr (10, [.int x1, .ref lb, .int x2, .int 0, .int x4, .int tm, .long v41, .long v46])), (lb, .inr (1, [.ref lr, .int (nI ln)])), (lr, .inl ((cT 0), sz_, .inl fl)), (rq, .inr (4, [.ref dr, .ref sa])), (sa, .inl ((cT 0), 256, .inl ga)), (dr, .inr (2, [.ref rr, .int (nI len)])), (rr, .inl ((cT 0), 1000, .inl f))]) [0, 1, 2, 3, 4, 5, 6] rfl
  have hD9 := hD.sub (ws' := [(se, .inr (10, [.int x1, .ref lb, .int x2, .int 0, .int x4, .int tm, .long v41, .long v46])), (lb, .inr (1, [.ref lr, .int (nI ln)])), (lr, .inl ((cT 0), sz_, .inl fl)), (rq, .inr (4, [.ref dr, .ref sa])), (sa, .inl ((cT 0), 256, .inl ga)), (dr, .inr (2, [.ref rr, .int (nI len)])), (rr, .inl ((cT 0), 1000, .inl f))]) [0, 1, 2, 3, 4, 5, 6] (by decide) rfl
  exact W.vret hx hb hr (fun t ht hW => ⟨⟨⟨v41, v46⟩, rfl, trivial, by rw [ht]; exact hP9, va_K.moved hW.alike hK, hD9⟩, hS.F ht⟩) hS.2.2 d_Se_change_44
set_option maxHeartbeats 4000000 in
set_option maxRecDepth 100000 in
/-- change -/
theorem c_Se_change1 (l : Launch) (dC : Nat → ClassId) (dI : Nat → Nat → Nat) (cT : Nat → ClassId) (sz : Nat) (se : Nat) (lb : Nat) (lr : Nat) (sz_ : Nat) (ln : Nat) (fl : Nat → Int32) (x1 : Int32) (x2 : Int32) (x3 : Int32) (x4 : Int32) (x5 : Int32) (y1 : Int64) (y2 : Int64) (rq : Nat) (dr : Nat) (rr : Nat) (sa : Nat) (len : Nat) (f : Nat → Int32) (ga : Nat → Int32) (tm : Int32) (hq : RQW ga f len) (hlen : len ≤ 1000) : Met l y_Se_change (Cond.code y_Se_change b_Se_change 4 (Option.none : Option Jvm.ClassFile.FieldType) :: BIG) ({ frames := 2, cells := 0, slots := 0, locals := 50 }) (va_Pc [.ref se, .ref rq, .int tm, .int 1] (fun U => U.heap.size = sz ∧ va_P (dC, dI) vcl [(se, .inr (10, [.int x1, .ref lb, .int x2, .int x3, .int x4, .int x5, .long y1, .long y2])), (lb, .inr (1, [.ref lr, .int (nI ln)])), (lr, .inl ((cT 0), sz_, .inl fl)), (rq, .inr (4, [.ref dr, .ref sa])), (sa, .inl ((cT 0), 256, .inl ga)), (dr, .inr (2, [.ref rr, .int (nI len)])), (rr, .inl ((cT 0), 1000, .inl f))] U.heap ∧ va_K (dC, dI) vcl (tyL cT) U ∧ va_D (fun _ => True) [(se, .inr (10, [.int x1, .ref lb, .int x2, .int x3, .int x4, .int x5, .long y1, .long y2])), (lb, .inr (1, [.ref lr, .int (nI ln)])), (lr, .inl ((cT 0), sz_, .inl fl)), (rq, .inr (4, [.ref dr, .ref sa])), (sa, .inl ((cT 0), 256, .inl ga)), (dr, .inr (2, [.ref rr, .int (nI len)])), (rr, .inl ((cT 0), 1000, .inl f))])) (va_Qv (S := Int64 × Int64) (fun u => match u with | (z1, z2) => True) (fun u t => match u with | (z1, z2) => va_P (dC, dI) vcl [(se, .inr (10, [.int x1, .ref lb, .int x2, .int 1, .int x4, .int tm, .long z1, .long z2])), (lb, .inr (1, [.ref lr, .int (nI ln)])), (lr, .inl ((cT 0), sz_, .inl fl)), (rq, .inr (4, [.ref dr, .ref sa])), (sa, .inl ((cT 0), 256, .inl ga)), (dr, .inr (2, [.ref rr, .int (nI len)])), (rr, .inl ((cT 0), 1000, .inl f))] t.heap ∧ va_K (dC, dI) vcl (tyL cT) t ∧ va_D (va_A [(se, .inr (10, [.int x1, .ref lb, .int x2, .int x3, .int x4, .int x5, .long y1, .long y2])), (lb, .inr (1, [.ref lr, .int (nI ln)])), (lr, .inl ((cT 0), sz_, .inl fl)), (rq, .inr (4, [.ref dr, .ref sa])), (sa, .inl ((cT 0), 256, .inl ga)), (dr, .inr (2, [.ref rr, .int (nI len)])), (rr, .inl ((cT 0), 1000, .inl f))] sz) [(se, .inr (10, [.int x1, .ref lb, .int x2, .int 1, .int x4, .int tm, .long z1, .long z2])), (lb, .inr (1, [.ref lr, .int (nI ln)])), (lr, .inl ((cT 0), sz_, .inl fl)), (rq, .inr (4, [.ref dr, .ref sa])), (sa, .inl ((cT 0), 256, .inl ga)), (dr, .inr (2, [.ref rr, .int (nI len)])), (rr, .inl ((cT 0), 1000, .inl f))]) (va_A [(se, .inr (10, [.int x1, .ref lb, .int x2, .int x3, .int x4, .int x5, .long y1, .long y2])), (lb, .inr (1, [.ref lr, .int (nI ln)])), (lr, .inl ((cT 0), sz_, .inl fl)), (rq, .inr (4, [.ref dr, .ref sa])), (sa, .inl ((cT 0), 256, .inl ga)), (dr, .inr (2, [.ref rr, .int (nI len)])), (rr, .inl ((cT 0), 1000, .inl f))] sz)) 0 0 (va_A [(se, .inr (10, [.int x1, .ref lb, .int x2, .int x3, .int x4, .int x5, .long y1, .long y2])), (lb, .inr (1, [.ref lr, .int (nI ln)])), (lr, .inl ((cT 0), sz_, .inl fl)), (rq, .inr (4, [.ref dr, .ref sa])), (sa, .inl ((cT 0), 256, .inl ga)), (dr, .inr (2, [.ref rr, .int (nI len)])), (rr, .inl ((cT 0), 1000, .inl f))] sz) := by
  refine Met.ofW (cc := b_Se_change) (maxL := 4) (ret := (Option.none : Option Jvm.ClassFile.FieldType)) (by decide) rfl ?_
  intro p e s m args below meth c s₁ B hml hv
  obtain ⟨hargs, hsz, hP, hK, hD0⟩ := hv
  have hx := B.exec
  have hb := B.bytes
  have hr := B.returns
  have hts := atoms_spec (ws := (Cond.code y_Se_change b_Se_change 4 (Option.none : Option Jvm.ClassFile.FieldType) :: BIG)) B.pre
  have hg : ∀ w ∈ BIG, w.before _ s = true := fun w h => hts w (List.mem_cons_of_mem _ h)
  have hown : s.vm.findClass "DoorServer$Session" = some m.cls := findClass_of_methodNamed B.named
  have hlocks := B.notSynchronized
  subst hsz
  have hD := hD0.self (sz := s.heap.size)
  generalize hAe : va_A [(se, .inr (10, [.int x1, .ref lb, .int x2, .int x3, .int x4, .int x5, .long y1, .long y2])), (lb, .inr (1, [.ref lr, .int (nI ln)])), (lr, .inl ((cT 0), sz_, .inl fl)), (rq, .inr (4, [.ref dr, .ref sa])), (sa, .inl ((cT 0), 256, .inl ga)), (dr, .inr (2, [.ref rr, .int (nI len)])), (rr, .inl ((cT 0), 1000, .inl f))] s.heap.size = A at hD ⊢
  have hA : ∀ q : Nat, s.heap.size ≤ q → A q := fun q h => by rw [← hAe]; exact Or.inr h
  have hS : va_S A s.heap s.heap [] := va_S.rf
  have hl := lv_entry ([.ref se, .ref rq, .int tm, .int 1]) (n := 4) (Nat.le_of_ble_eq_true rfl)
  refine W.eq (g2 := entryFrame m (List.toArray [.ref se, .ref rq, .int tm, .int 1]) 4) (by rw [hargs]) ?_
  rw [lg_entry_eq]
  generalize (lg_sl ([.ref se, .ref rq, .int tm, .int 1]) ++ List.replicate (4 - (lg_sl ([.ref se, .ref rq, .int tm, .int 1])).length) Slot.unset).toArray = ls at hl ⊢
  have hl : lv_has ls 4 [(0, .ref se), (1, .ref rq), (2, .int tm), (3, .int 1)] := hl
  change W p l e ({ frames := 2, cells := 0, slots := 0, locals := 50 } : Room) s m args below meth c s.heap [] 0 0 _ _
  have hP : va_P (dC, dI) vcl [(se, .inr (10, [.int x1, .ref lb, .int x2, .int x3, .int x4, .int x5, .long y1, .long y2])), (lb, .inr (1, [.ref lr, .int (nI ln)])), (lr, .inl ((cT 0), sz_, .inl fl)), (rq, .inr (4, [.ref dr, .ref sa])), (sa, .inl ((cT 0), 256, .inl ga)), (dr, .inr (2, [.ref rr, .int (nI len)])), (rr, .inl ((cT 0), 1000, .inl f))] s.heap := hP
  refine lv_aload_n hx hb d_Se_change_0 rfl (lv_at hl 0 rfl) ?_
  refine lv_iload_n hx hb d_Se_change_1 rfl (lv_at hl 2 rfl) ?_
  refine va_put (D := (dC, dI)) (ci := 10) (v := (.int tm)) (ty := .int) (C := R_Se) (T := F_Se) (N := 8) hx hb hg in_Se t_Se tok_Se nm_Se hown hK hP hD hS 0 rfl rfl 5 (by decide) (hg _ k_271) (fun _ h9 => h9) rfl (by decide +kernel) rfl rfl (Nat.le_of_ble_eq_true rfl) d_Se_change_2 (fun H locs hP hD hS => ?_)
  have hP : va_P (dC, dI) vcl [(se, .inr (10, [.int x1, .ref lb, .int x2, .int x3, .int x4, .int tm, .long y1, .long y2])), (lb, .inr (1, [.ref lr, .int (nI ln)])), (lr, .inl ((cT 0), sz_, .inl fl)), (rq, .inr (4, [.ref dr, .ref sa])), (sa, .inl ((cT 0), 256, .inl ga)), (dr, .inr (2, [.ref rr, .int (nI len)])), (rr, .inl ((cT 0), 1000, .inl f))] H := hP
  have hD : va_D A [(se, .inr (10, [.int x1, .ref lb, .int x2, .int x3, .int x4, .int tm, .long y1, .long y2])), (lb, .inr (1, [.ref lr, .int (nI ln)])), (lr, .inl ((cT 0), sz_, .inl fl)), (rq, .inr (4, [.ref dr, .ref sa])), (sa, .inl ((cT 0), 256, .inl ga)), (dr, .inr (2, [.ref rr, .int (nI len)])), (rr, .inl ((cT 0), 1000, .inl f))] := hD
  refine lv_aload_n hx hb d_Se_change_5 rfl (lv_at hl 0 rfl) ?_
  refine lv_aload_n hx hb d_Se_change_6 rfl (lv_at hl 0 rfl) ?_
  refine va_get (D := (dC, dI)) (ci := 10) (v := (.long y1)) (C := R_Se) (T := F_Se) (N := 8) hx hb hg in_Se hown hK hP 0 rfl rfl 6 (by decide) (hg _ k_273) (fun _ h9 => h9) rfl d_Se_change_7 ?_
  refine lv_aload_n hx hb d_Se_change_10 rfl (lv_at hl 1 rfl) ?_
  refine lv_bipush (v := 42) hx hb d_Se_change_11 (by decide) ?_
  refine lv_topi (fun x48 e47 => ?_)
  obtain rfl : x48 = nI 42 := by rw [e47]; rfl
  have hPc := hP.sub (ws' := [(rq, .inr (4, [.ref dr, .ref sa])), (sa, .inl ((cT 0), 256, .inl ga)), (dr, .inr (2, [.ref rr, .int (nI len)])), (rr, .inl ((cT 0), 1000, .inl f))]) [3, 4, 5, 6] rfl
  have hDc := hD.sub (ws' := [(rq, .inr (4, [.ref dr, .ref sa])), (sa, .inl ((cT 0), 256, .inl ga)), (dr, .inr (2, [.ref rr, .int (nI len)])), (rr, .inl ((cT 0), 1000, .inl f))]) [3, 4, 5, 6] (by decide) rfl
  have hFc := va_free (wc := [(rq, .inr (4, [.ref dr, .ref sa])), (sa, .inl ((cT 0), 256, .inl ga)), (dr, .inr (2, [.ref rr, .int (nI len)])), (rr, .inl ((cT 0), 1000, .inl f))]) hD hS hA [3, 4, 5, 6] rfl
  refine va_calll (va_runV (C := "DoorServer$Request") (As := [.int (nI 42)]) (rest := [.long y1, .ref se]) ⟨hx, hb, hml, hown, hg⟩ (c_numberOf l dC dI cT H.size rq dr rr sa len f ga 42 (by unfold KT; omega) (hq) (hlen)) (cwV 1 hg (gI (List.forall_mem_append.mpr ⟨List.forall_mem_cons.mpr ⟨k_800, List.forall_mem_cons.mpr ⟨k_757, List.forall_mem_cons.mpr ⟨k_758, List.forall_mem_cons.mpr ⟨k_12, fun _ h => absurd h List.not_mem_nil⟩⟩⟩⟩, List.forall_mem_cons.mpr ⟨k_759, fun _ h => h⟩⟩)) rfl rfl rfl (by decide +kernel) ⟨Nat.le_of_ble_eq_true rfl, Nat.le_of_ble_eq_true rfl⟩) ⟨fun a U g mk q => by obtain ⟨q0, q1, qP, qK, qD⟩ := q; exact ⟨q0, q1, qP, va_K.moved (u := U) (U := U.calling g mk a) (Vm.Alike.refl U.vm) qK, qD⟩, va_recv (q0 := 3) (ci := 4) hK hP rfl rfl, fun U hU hW => ⟨rfl, by rw [hU], by rw [hU]; exact hPc, va_K.moved hW.alike hK, hDc.weaken (fun _ _ _ _ => trivial)⟩⟩ rfl rfl hl.1 rfl (lv_room (Nat.le_of_ble_eq_true rfl)) d_Se_change_13 ⟨Nat.le_of_ble_eq_true rfl, Nat.le_of_ble_eq_true rfl⟩) hS (fun q _ h => hFc q h) hFc (fun rv9 u t H1 locs ht hvm hw hB hz1 hk1 hS => ?_)
  try dsimp only at hw hB
  obtain ⟨hP1, hK1, hD1⟩ := hB
  rw [ht] at hP1
  generalize rv9 = r49 at hw ⊢
  obtain ⟨hP, hD⟩ := va_join (wr := [(se, .inr (10, [.int x1, .ref lb, .int x2, .int x3, .int x4, .int tm, .long y1, .long y2])), (lb, .inr (1, [.ref lr, .int (nI ln)])), (lr, .inl ((cT 0), sz_, .inl fl))]) (w1 := [(rq, .inr (4, [.ref dr, .ref sa])), (sa, .inl ((cT 0), 256, .inl ga)), (dr, .inr (2, [.ref rr, .int (nI len)])), (rr, .inl ((cT 0), 1000, .inl f))]) hP hD [3, 4, 5, 6] [0, 1, 2] rfl rfl (by decide) (by decide) hk1 hFc hP1 hD1
  have hw50 := hw
  clear hPc hDc hFc hz1 hk1 hP1 hK1 hD1
  generalize H1 = H at hP hS ⊢
  have hP : va_P (dC, dI) vcl [(se, .inr (10, [.int x1, .ref lb, .int x2, .int x3, .int x4, .int tm, .long y1, .long y2])), (lb, .inr (1, [.ref lr, .int (nI ln)])), (lr, .inl ((cT 0), sz_, .inl fl)), (rq, .inr (4, [.ref dr, .ref sa])), (sa, .inl ((cT 0), 256, .inl ga)), (dr, .inr (2, [.ref rr, .int (nI len)])), (rr, .inl ((cT 0), 1000, .inl f))] H := hP
  have hD : va_D A [(se, .inr (10, [.int x1, .ref lb, .int x2, .int x3, .int x4, .int tm, .long y1, .long y2])), (lb, .inr (1, [.ref lr, .int (nI ln)])), (lr, .inl ((cT 0), sz_, .inl fl)), (rq, .inr (4, [.ref dr, .ref sa])), (sa, .inl ((cT 0), 256, .inl ga)), (dr, .inr (2, [.ref rr, .int (nI len)])), (rr, .inl ((cT 0), 1000, .inl f))] := hD
  refine va_mmax_long hx hb (hml.trans hl.1.symm) hown (hg _ k_801) (hg _ k_802) (hg _ k_21) (hg _ k_803) (Nat.le_of_ble_eq_true rfl) (Nat.le_of_ble_eq_true rfl) (Nat.le_of_ble_eq_true rfl) (Nat.le_of_ble_eq_true rfl) d_Se_change_16 ?_
  refine lv_topl (fun v51 _ => ?_)
  refine va_put (D := (dC, dI)) (ci := 10) (v := (.long v51)) (ty := .long) (C := R_Se) (T := F_Se) (N := 8) hx hb hg in_Se t_Se tok_Se nm_Se hown hK hP hD hS 0 rfl rfl 6 (by decide) (hg _ k_273) (fun _ h9 => h9) rfl (by decide +kernel) rfl rfl (Nat.le_of_ble_eq_true rfl) d_Se_change_19 (fun H locs hP hD hS => ?_)
  have hP : va_P (dC, dI) vcl [(se, .inr (10, [.int x1, .ref lb, .int x2, .int x3, .int x4, .int tm, .long v51, .long y2])), (lb, .inr (1, [.ref lr, .int (nI ln)])), (lr, .inl ((cT 0), sz_, .inl fl)), (rq, .inr (4, [.ref dr, .ref sa])), (sa, .inl ((cT 0), 256, .inl ga)), (dr, .inr (2, [.ref rr, .int (nI len)])), (rr, .inl ((cT 0), 1000, .inl f))] H := hP
  have hD : va_D A [(se, .inr (10, [.int x1, .ref lb, .int x2, .int x3, .int x4, .int tm, .long v51, .long y2])), (lb, .inr (1, [.ref lr, .int (nI ln)])), (lr, .inl ((cT 0), sz_, .inl fl)), (rq, .inr (4, [.ref dr, .ref sa])), (sa, .inl ((cT 0), 256, .inl ga)), (dr, .inr (2, [.ref rr, .int (nI len)])), (rr, .inl ((cT 0), 1000, .inl f))] := hD
  refine lv_aload_n hx hb d_Se_change_22 rfl (lv_at hl 0 rfl) ?_
  refine lv_aload_n hx hb d_Se_change_23 rfl (lv_at hl 0 rfl) ?_
  refine va_get (D := (dC, dI)) (ci := 10) (v := (.long y2)) (C := R_Se) (T := F_Se) (N := 8) hx hb hg in_Se hown hK hP 0 rfl rfl 7 (by decide) (hg _ k_275) (fun _ h9 => h9) rfl d_Se_change_24 ?_
  refine lv_aload_n hx hb d_Se_change_27 rfl (lv_at hl 1 rfl) ?_
  refine lv_bipush (v := 43) hx hb d_Se_change_28 (by decide) ?_
  refine lv_topi (fun x53 e52 => ?_)
  obtain rfl : x53 = nI 43 := by rw [e52]; rfl
  have hPc := hP.sub (ws' := [(rq, .inr (4, [.ref dr, .ref sa])), (sa, .inl ((cT 0), 256, .inl ga)), (dr, .inr (2, [.ref rr, .int (nI len)])), (rr, .inl ((cT 0), 1000, .inl f))]) [3, 4, 5, 6] rfl
  have hDc := hD.sub (ws' := [(rq, .inr (4, [.ref dr, .ref sa])), (sa, .inl ((cT 0), 256, .inl ga)), (dr, .inr (2, [.ref rr, .int (nI len)])), (rr, .inl ((cT 0), 1000, .inl f))]) [3, 4, 5, 6] (by decide) rfl
  have hFc := va_free (wc := [(rq, .inr (4, [.ref dr, .ref sa])), (sa, .inl ((cT 0), 256, .inl ga)), (dr, .inr (2, [.ref rr, .int (nI len)])), (rr, .inl ((cT 0), 1000, .inl f))]) hD hS hA [3, 4, 5, 6] rfl
  refine va_calll (va_runV (C := "DoorServer$Request") (As := [.int (nI 43)]) (rest := [.long y2, .ref se]) ⟨hx, hb, hml, hown, hg⟩ (c_numberOf l dC dI cT H.size rq dr rr sa len f ga 43 (by unfold KT; omega) (hq) (hlen)) (cwV 1 hg (gI (List.forall_mem_append.mpr ⟨List.forall_mem_cons.mpr ⟨k_800, List.forall_mem_cons.mpr ⟨k_757, List.forall_mem_cons.mpr ⟨k_758, List.forall_mem_cons.mpr ⟨k_12, fun _ h => absurd h List.not_mem_nil⟩⟩⟩⟩, List.forall_mem_cons.mpr ⟨k_759, fun _ h => h⟩⟩)) rfl rfl rfl (by decide +kernel) ⟨Nat.le_of_ble_eq_true rfl, Nat.le_of_ble_eq_true rfl⟩) ⟨fun a U g mk q => by obtain ⟨q0, q1, qP, qK, qD⟩ := q; exact ⟨q0, q1, qP, va_K.moved (u := U) (U := U.calling g mk a) (Vm.Alike.refl U.vm) qK, qD⟩, va_recv (q0 := 3) (ci := 4) hK hP rfl rfl, fun U hU hW => ⟨rfl, by rw [hU], by rw [hU]; exact hPc, va_K.moved hW.alike hK, hDc.weaken (fun _ _ _ _ => trivial)⟩⟩ rfl rfl hl.1 rfl (lv_room (Nat.le_of_ble_eq_true rfl)) d_Se_change_30 ⟨Nat.le_of_ble_eq_true rfl, Nat.le_of_ble_eq_true rfl⟩) hS (fun q _ h => hFc q h) hFc (fun rv9 u t H1 locs ht hvm hw hB hz1 hk1 hS => ?_)
  try dsimp only at hw hB
  obtain ⟨hP1, hK1, hD1⟩ := hB
  rw [ht] at hP1
  generalize rv9 = r54 at hw ⊢
  obtain ⟨hP, hD⟩ := va_join (wr := [(se, .inr (10, [.int x1, .ref lb, .int x2, .int x3, .int x4, .int tm, .long v51, .long y2])), (lb, .inr (1, [.ref lr, .int (nI ln)])), (lr, .inl ((cT 0), sz_, .inl fl))]) (w1 := [(rq, .inr (4, [.ref dr, .ref sa])), (sa, .inl ((cT 0), 256, .inl ga)), (dr, .inr (2, [.ref rr, .int (nI len)])), (rr, .inl ((cT 0), 1000, .inl f))]) hP hD [3, 4, 5, 6] [0, 1, 2] rfl rfl (by decide) (by decide) hk1 hFc hP1 hD1
  have hw55 := hw
  clear hPc hDc hFc hz1 hk1 hP1 hK1 hD1
  generalize H1 = H at hP hS ⊢
  have hP : va_P (dC, dI) vcl [(se, .inr (10, [.int x1, .ref lb, .int x2, .int x3, .int x4, .int tm, .long v51, .long y2])), (lb, .inr (1, [.ref lr, .int (nI ln)])), (lr, .inl ((cT 0), sz_, .inl fl)), (rq, .inr (4, [.ref dr, .ref sa])), (sa, .inl ((cT 0), 256, .inl ga)), (dr, .inr (2, [.ref rr, .int (nI len)])), (rr, .inl ((cT 0), 1000, .inl f))] H := hP
  have hD : va_D A [(se, .inr (10, [.int x1, .ref lb, .int x2, .int x3, .int x4, .int tm, .long v51, .long y2])), (lb, .inr (1, [.ref lr, .int (nI ln)])), (lr, .inl ((cT 0), sz_, .inl fl)), (rq, .inr (4, [.ref dr, .ref sa])), (sa, .inl ((cT 0), 256, .inl ga)), (dr, .inr (2, [.ref rr, .int (nI len)])), (rr, .inl ((cT 0), 1000, .inl f))] := hD
  refine va_mmax_long hx hb (hml.trans hl.1.symm) hown (hg _ k_801) (hg _ k_802) (hg _ k_21) (hg _ k_803) (Nat.le_of_ble_eq_true rfl) (Nat.le_of_ble_eq_true rfl) (Nat.le_of_ble_eq_true rfl) (Nat.le_of_ble_eq_true rfl) d_Se_change_33 ?_
  refine lv_topl (fun v56 _ => ?_)
  refine va_put (D := (dC, dI)) (ci := 10) (v := (.long v56)) (ty := .long) (C := R_Se) (T := F_Se) (N := 8) hx hb hg in_Se t_Se tok_Se nm_Se hown hK hP hD hS 0 rfl rfl 7 (by decide) (hg _ k_275) (fun _ h9 => h9) rfl (by decide +kernel) rfl rfl (Nat.le_of_ble_eq_true rfl) d_Se_change_36 (fun H locs hP hD hS => ?_)
  have hP : va_P (dC, dI) vcl [(se, .inr (10, [.int x1, .ref lb, .int x2, .int x3, .int x4, .int tm, .long v51, .long v56])), (lb, .inr (1, [.ref lr, .int (nI ln)])), (lr, .inl ((cT 0), sz_, .inl fl)), (rq, .inr (4, [.ref dr, .ref sa])), (sa, .inl ((cT 0), 256, .inl ga)), (dr, .inr (2, [.ref rr, .int (nI len)])), (rr, .inl ((cT 0), 1000, .inl f))] H := hP
  have hD : va_D A [(se, .inr (10, [.int x1, .ref lb, .int x2, .int x3, .int x4, .int tm, .long v51, .long v56])), (lb, .inr (1, [.ref lr, .int (nI ln)])), (lr, .inl ((cT 0), sz_, .inl fl)), (rq, .inr (4, [.ref dr, .ref sa])), (sa, .inl ((cT 0), 256, .inl ga)), (dr, .inr (2, [.ref rr, .int (nI len)])), (rr, .inl ((cT 0), 1000, .inl f))] := hD
  refine lv_aload_n hx hb d_Se_change_39 rfl (lv_at hl 0 rfl) ?_
  refine lv_iload_n hx hb d_Se_change_40 rfl (lv_at hl 3 rfl) ?_
  refine va_put (D := (dC, dI)) (ci := 10) (v := (.int 1)) (ty := .boolean) (C := R_Se) (T := F_Se) (N := 8) hx hb hg in_Se t_Se tok_Se nm_Se hown hK hP hD hS 0 rfl rfl 3 (by decide) (hg _ k_267) (fun _ h9 => h9) rfl (by decide +kernel) rfl rfl (Nat.le_of_ble_eq_true rfl) d_Se_change_41 (fun H locs hP hD hS => ?_)
  have hP : va_P (dC, dI) vcl [(se, .inr (10, [.int x1, .ref lb, .int x2, .int 1, .int x4, .int tm, .long v51, .long v56])), (lb, .inr (1, [.ref lr, .int (nI ln)])), (lr, .inl ((cT 0), sz_, .inl fl)), (rq, .inr (4, [.ref dr, .ref sa])), (sa, .inl ((cT 0), 256, .inl ga)), (dr, .inr (2, [.ref rr, .int (nI len)])), (rr, .inl ((cT 0), 1000, .inl f))] H := hP
  have hD : va_D A [(se, .inr (10, [.int x1, .ref lb, .int x2, .int 1, .int x4, .int tm, .long v51, .long v56])), (lb, .inr (1, [.ref lr, .int (nI ln)])), (lr, .inl ((cT 0), sz_, .inl fl)), (rq, .inr (4, [.ref dr, .ref sa])), (sa, .inl ((cT 0), 256, .inl ga)), (dr, .inr (2, [.ref rr, .int (nI len)])), (rr, .inl ((cT 0), 1000, .inl f))] := hD
  have hP9 := hP.sub (ws' := [(se, .inr (10, [.int x1, .ref lb, .int x2, .int 1, .int x4, .int tm, .long v51, .long v56])), (lb, .inr (1, [.ref lr, .int (nI ln)])), (lr, .inl ((cT 0), sz_, .inl fl)), (rq, .inr (4, [.ref dr, .ref sa])), (sa, .inl ((cT 0), 256, .inl ga)), (dr, .inr (2, [.ref rr, .int (nI len)])), (rr, .inl ((cT 0), 1000, .inl f))]) [0, 1, 2, 3, 4, 5, 6] rfl
  have hD9 := hD.sub (ws' := [(se, .inr (10, [.int x1, .ref lb, .int x2, .int 1, .int x4, .int tm, .long v51, .long v56])), (lb, .inr (1, [.ref lr, .int (nI ln)])), (lr, .inl ((cT 0), sz_, .inl fl)), (rq, .inr (4, [.ref dr, .ref sa])), (sa, .inl ((cT 0), 256, .inl ga)), (dr, .inr (2, [.ref rr, .int (nI len)])), (rr, .inl ((cT 0), 1000, .inl f))]) [0, 1, 2, 3, 4, 5, 6] (by decide) rfl
  exact W.vret hx hb hr (fun t ht hW => ⟨⟨⟨v51, v56⟩, rfl, trivial, by rw [ht]; exact hP9, va_K.moved hW.alike hK, hD9⟩, hS.F ht⟩) hS.2.2 d_Se_change_44
