theorem d_Ts_freePlace_0 : decode b_Ts_freePlace 0 = .ok (.aload_n 0, 1) := by decide +kernel
theorem d_Ts_freePlace_1 : decode b_Ts_freePlace 1 = .ok (.getfield 13, 3) := by decide +kernel
theorem d_Ts_freePlace_4 : decode b_Ts_freePlace 4 = .ok (.iconst 0, 1) := by decide +kernel
theorem d_Ts_freePlace_5 : decode b_Ts_freePlace 5 = .ok (.aaload, 1) := by decide +kernel
theorem d_Ts_freePlace_6 : decode b_Ts_freePlace 6 = .ok (.astore_n 1, 1) := by decide +kernel
theorem d_Ts_freePlace_7 : decode b_Ts_freePlace 7 = .ok (.iconst 0, 1) := by decide +kernel
theorem d_Ts_freePlace_8 : decode b_Ts_freePlace 8 = .ok (.istore_n 2, 1) := by decide +kernel
theorem d_Ts_freePlace_9 : decode b_Ts_freePlace 9 = .ok (.iload_n 2, 1) := by decide +kernel
theorem d_Ts_freePlace_10 : decode b_Ts_freePlace 10 = .ok (.bipush 6, 2) := by decide +kernel
theorem d_Ts_freePlace_12 : decode b_Ts_freePlace 12 = .ok (.if_icmp .ge 62, 3) := by decide +kernel
theorem d_Ts_freePlace_15 : decode b_Ts_freePlace 15 = .ok (.aload_n 0, 1) := by decide +kernel
theorem d_Ts_freePlace_16 : decode b_Ts_freePlace 16 = .ok (.getfield 13, 3) := by decide +kernel
theorem d_Ts_freePlace_19 : decode b_Ts_freePlace 19 = .ok (.iload_n 2, 1) := by decide +kernel
theorem d_Ts_freePlace_20 : decode b_Ts_freePlace 20 = .ok (.aaload, 1) := by decide +kernel
theorem d_Ts_freePlace_21 : decode b_Ts_freePlace 21 = .ok (.getfield 29, 3) := by decide +kernel
theorem d_Ts_freePlace_24 : decode b_Ts_freePlace 24 = .ok (.ifCond .ne 20, 3) := by decide +kernel
theorem d_Ts_freePlace_44 : decode b_Ts_freePlace 44 = .ok (.aload_n 0, 1) := by decide +kernel
theorem d_Ts_freePlace_45 : decode b_Ts_freePlace 45 = .ok (.getfield 13, 3) := by decide +kernel
theorem d_Ts_freePlace_48 : decode b_Ts_freePlace 48 = .ok (.iload_n 2, 1) := by decide +kernel
theorem d_Ts_freePlace_49 : decode b_Ts_freePlace 49 = .ok (.aaload, 1) := by decide +kernel
theorem d_Ts_freePlace_50 : decode b_Ts_freePlace 50 = .ok (.getfield 33, 3) := by decide +kernel
theorem d_Ts_freePlace_53 : decode b_Ts_freePlace 53 = .ok (.aload_n 1, 1) := by decide +kernel
theorem d_Ts_freePlace_54 : decode b_Ts_freePlace 54 = .ok (.getfield 33, 3) := by decide +kernel
theorem d_Ts_freePlace_57 : decode b_Ts_freePlace 57 = .ok (.lcmp, 1) := by decide +kernel
theorem d_Ts_freePlace_58 : decode b_Ts_freePlace 58 = .ok (.ifCond .ge 10, 3) := by decide +kernel
theorem d_Ts_freePlace_68 : decode b_Ts_freePlace 68 = .ok (.iinc 2 1, 3) := by decide +kernel
theorem d_Ts_freePlace_71 : decode b_Ts_freePlace 71 = .ok (.goto (-62), 3) := by decide +kernel
theorem d_Ts_freePlace_61 : decode b_Ts_freePlace 61 = .ok (.aload_n 0, 1) := by decide +kernel
theorem d_Ts_freePlace_62 : decode b_Ts_freePlace 62 = .ok (.getfield 13, 3) := by decide +kernel
theorem d_Ts_freePlace_65 : decode b_Ts_freePlace 65 = .ok (.iload_n 2, 1) := by decide +kernel
theorem d_Ts_freePlace_66 : decode b_Ts_freePlace 66 = .ok (.aaload, 1) := by decide +kernel
theorem d_Ts_freePlace_67 : decode b_Ts_freePlace 67 = .ok (.astore_n 1, 1) := by decide +kernel
theorem d_Ts_freePlace_27 : decode b_Ts_freePlace 27 = .ok (.aload_n 0, 1) := by decide +kernel
theorem d_Ts_freePlace_28 : decode b_Ts_freePlace 28 = .ok (.dup, 1) := by decide +kernel
theorem d_Ts_freePlace_29 : decode b_Ts_freePlace 29 = .ok (.getfield 57, 3) := by decide +kernel
theorem d_Ts_freePlace_32 : decode b_Ts_freePlace 32 = .ok (.iconst 1, 1) := by decide +kernel
theorem d_Ts_freePlace_33 : decode b_Ts_freePlace 33 = .ok (.iadd, 1) := by decide +kernel
theorem d_Ts_freePlace_34 : decode b_Ts_freePlace 34 = .ok (.putfield 57, 3) := by decide +kernel
theorem d_Ts_freePlace_37 : decode b_Ts_freePlace 37 = .ok (.aload_n 0, 1) := by decide +kernel
theorem d_Ts_freePlace_38 : decode b_Ts_freePlace 38 = .ok (.getfield 13, 3) := by decide +kernel
theorem d_Ts_freePlace_41 : decode b_Ts_freePlace 41 = .ok (.iload_n 2, 1) := by decide +kernel
theorem d_Ts_freePlace_42 : decode b_Ts_freePlace 42 = .ok (.aaload, 1) := by decide +kernel
theorem d_Ts_freePlace_74 : decode b_Ts_freePlace 74 = .ok (.aload_n 1, 1) := by decide +kernel
theorem d_Ts_freePlace_75 : decode b_Ts_freePlace 75 = .ok (.areturn, 1) := by decide +kernel
theorem d_Ts_freePlace_43 : decode b_Ts_freePlace 43 = .ok (.areturn, 1) := by decide +kernel
theorem d_Ts_give_0 : decode b_Ts_give 0 = .ok (.aload_n 0, 1) := by decide +kernel
theorem d_Ts_give_1 : decode b_Ts_give 1 = .ok (.invokevirtual 22, 3) := by decide +kernel
theorem d_Ts_give_4 : decode b_Ts_give 4 = .ok (.astore 5, 2) := by decide +kernel
theorem d_Ts_give_6 : decode b_Ts_give 6 = .ok (.aload_n 0, 1) := by decide +kernel
theorem d_Ts_give_7 : decode b_Ts_give 7 = .ok (.dup, 1) := by decide +kernel
theorem d_Ts_give_8 : decode b_Ts_give 8 = .ok (.getfield 26, 3) := by decide +kernel
theorem d_Ts_give_11 : decode b_Ts_give 11 = .ok (.lconst 1, 1) := by decide +kernel
theorem d_Ts_give_12 : decode b_Ts_give 12 = .ok (.ladd, 1) := by decide +kernel
theorem d_Ts_give_13 : decode b_Ts_give 13 = .ok (.putfield 26, 3) := by decide +kernel
theorem d_Ts_give_16 : decode b_Ts_give 16 = .ok (.aload 5, 2) := by decide +kernel
theorem d_Ts_give_18 : decode b_Ts_give 18 = .ok (.iconst 1, 1) := by decide +kernel
theorem d_Ts_give_19 : decode b_Ts_give 19 = .ok (.putfield 29, 3) := by decide +kernel
theorem d_Ts_give_22 : decode b_Ts_give 22 = .ok (.aload 5, 2) := by decide +kernel
theorem d_Ts_give_24 : decode b_Ts_give 24 = .ok (.aload_n 0, 1) := by decide +kernel
theorem d_Ts_give_25 : decode b_Ts_give 25 = .ok (.getfield 26, 3) := by decide +kernel
theorem d_Ts_give_28 : decode b_Ts_give 28 = .ok (.putfield 33, 3) := by decide +kernel
theorem d_Ts_give_31 : decode b_Ts_give 31 = .ok (.aload 5, 2) := by decide +kernel
theorem d_Ts_give_33 : decode b_Ts_give 33 = .ok (.iload_n 1, 1) := by decide +kernel
theorem d_Ts_give_34 : decode b_Ts_give 34 = .ok (.putfield 36, 3) := by decide +kernel
theorem d_Ts_give_37 : decode b_Ts_give 37 = .ok (.aload 5, 2) := by decide +kernel
theorem d_Ts_give_39 : decode b_Ts_give 39 = .ok (.iload_n 2, 1) := by decide +kernel
theorem d_Ts_give_40 : decode b_Ts_give 40 = .ok (.putfield 40, 3) := by decide +kernel
theorem d_Ts_give_43 : decode b_Ts_give 43 = .ok (.aload 5, 2) := by decide +kernel
theorem d_Ts_give_45 : decode b_Ts_give 45 = .ok (.iload_n 3, 1) := by decide +kernel
theorem d_Ts_give_46 : decode b_Ts_give 46 = .ok (.putfield 43, 3) := by decide +kernel
theorem d_Ts_give_49 : decode b_Ts_give 49 = .ok (.aload 5, 2) := by decide +kernel
theorem d_Ts_give_51 : decode b_Ts_give 51 = .ok (.iload 4, 2) := by decide +kernel
theorem d_Ts_give_53 : decode b_Ts_give 53 = .ok (.putfield 46, 3) := by decide +kernel
theorem d_Ts_give_56 : decode b_Ts_give 56 = .ok (.iconst 0, 1) := by decide +kernel
theorem d_Ts_give_57 : decode b_Ts_give 57 = .ok (.istore 6, 2) := by decide +kernel
theorem d_Ts_give_59 : decode b_Ts_give 59 = .ok (.iload 6, 2) := by decide +kernel
theorem d_Ts_give_61 : decode b_Ts_give 61 = .ok (.bipush 16, 2) := by decide +kernel
theorem d_Ts_give_63 : decode b_Ts_give 63 = .ok (.if_icmp .ge 41, 3) := by decide +kernel
theorem d_Ts_give_66 : decode b_Ts_give 66 = .ok (.aload_n 0, 1) := by decide +kernel
theorem d_Ts_give_67 : decode b_Ts_give 67 = .ok (.aload_n 0, 1) := by decide +kernel
theorem d_Ts_give_68 : decode b_Ts_give 68 = .ok (.getfield 17, 3) := by decide +kernel
theorem d_Ts_give_71 : decode b_Ts_give 71 = .ok (.ldc2_w 49, 3) := by decide +kernel
theorem d_Ts_give_74 : decode b_Ts_give 74 = .ok (.lmul, 1) := by decide +kernel
theorem d_Ts_give_75 : decode b_Ts_give 75 = .ok (.ldc2_w 51, 3) := by decide +kernel
theorem d_Ts_give_78 : decode b_Ts_give 78 = .ok (.ladd, 1) := by decide +kernel
theorem d_Ts_give_79 : decode b_Ts_give 79 = .ok (.putfield 17, 3) := by decide +kernel
theorem d_Ts_give_82 : decode b_Ts_give 82 = .ok (.aload 5, 2) := by decide +kernel
theorem d_Ts_give_84 : decode b_Ts_give 84 = .ok (.getfield 53, 3) := by decide +kernel
theorem d_Ts_give_87 : decode b_Ts_give 87 = .ok (.iload 6, 2) := by decide +kernel
theorem d_Ts_give_89 : decode b_Ts_give 89 = .ok (.aload_n 0, 1) := by decide +kernel
theorem d_Ts_give_90 : decode b_Ts_give 90 = .ok (.getfield 17, 3) := by decide +kernel
theorem d_Ts_give_93 : decode b_Ts_give 93 = .ok (.bipush 56, 2) := by decide +kernel
theorem d_Ts_give_95 : decode b_Ts_give 95 = .ok (.lushr, 1) := by decide +kernel
theorem d_Ts_give_96 : decode b_Ts_give 96 = .ok (.l2i, 1) := by decide +kernel
theorem d_Ts_give_97 : decode b_Ts_give 97 = .ok (.iastore, 1) := by decide +kernel
theorem d_Ts_give_98 : decode b_Ts_give 98 = .ok (.iinc 6 1, 3) := by decide +kernel
theorem d_Ts_give_101 : decode b_Ts_give 101 = .ok (.goto (-42), 3) := by decide +kernel
theorem d_Ts_give_104 : decode b_Ts_give 104 = .ok (.aload 5, 2) := by decide +kernel
theorem d_Ts_give_106 : decode b_Ts_give 106 = .ok (.areturn, 1) := by decide +kernel
theorem d_Ts_take_0 : decode b_Ts_take 0 = .ok (.iconst 0, 1) := by decide +kernel
theorem d_Ts_take_1 : decode b_Ts_take 1 = .ok (.istore 5, 2) := by decide +kernel
theorem d_Ts_take_3 : decode b_Ts_take 3 = .ok (.iload 5, 2) := by decide +kernel
theorem d_Ts_take_5 : decode b_Ts_take 5 = .ok (.bipush 6, 2) := by decide +kernel
theorem d_Ts_take_7 : decode b_Ts_take 7 = .ok (.if_icmp .ge 74, 3) := by decide +kernel
theorem d_Ts_take_10 : decode b_Ts_take 10 = .ok (.aload_n 0, 1) := by decide +kernel
theorem d_Ts_take_11 : decode b_Ts_take 11 = .ok (.getfield 13, 3) := by decide +kernel
theorem d_Ts_take_14 : decode b_Ts_take 14 = .ok (.iload 5, 2) := by decide +kernel
theorem d_Ts_take_16 : decode b_Ts_take 16 = .ok (.aaload, 1) := by decide +kernel
theorem d_Ts_take_17 : decode b_Ts_take 17 = .ok (.astore 6, 2) := by decide +kernel
theorem d_Ts_take_19 : decode b_Ts_take 19 = .ok (.aload 6, 2) := by decide +kernel
theorem d_Ts_take_21 : decode b_Ts_take 21 = .ok (.getfield 29, 3) := by decide +kernel
theorem d_Ts_take_24 : decode b_Ts_take 24 = .ok (.ifCond .eq 51, 3) := by decide +kernel
theorem d_Ts_take_75 : decode b_Ts_take 75 = .ok (.iinc 5 1, 3) := by decide +kernel
theorem d_Ts_take_78 : decode b_Ts_take 78 = .ok (.goto (-75), 3) := by decide +kernel
theorem d_Ts_take_27 : decode b_Ts_take 27 = .ok (.aload 6, 2) := by decide +kernel
theorem d_Ts_take_29 : decode b_Ts_take 29 = .ok (.getfield 33, 3) := by decide +kernel
theorem d_Ts_take_32 : decode b_Ts_take 32 = .ok (.lload_n 1, 1) := by decide +kernel
theorem d_Ts_take_33 : decode b_Ts_take 33 = .ok (.lcmp, 1) := by decide +kernel
theorem d_Ts_take_34 : decode b_Ts_take 34 = .ok (.ifCond .ne 41, 3) := by decide +kernel
theorem d_Ts_take_37 : decode b_Ts_take 37 = .ok (.aload 6, 2) := by decide +kernel
theorem d_Ts_take_39 : decode b_Ts_take 39 = .ok (.getfield 36, 3) := by decide +kernel
theorem d_Ts_take_42 : decode b_Ts_take 42 = .ok (.iload_n 3, 1) := by decide +kernel
theorem d_Ts_take_43 : decode b_Ts_take 43 = .ok (.if_icmp .ne 32, 3) := by decide +kernel
theorem d_Ts_take_46 : decode b_Ts_take 46 = .ok (.aload 6, 2) := by decide +kernel
theorem d_Ts_take_48 : decode b_Ts_take 48 = .ok (.getfield 40, 3) := by decide +kernel
theorem d_Ts_take_51 : decode b_Ts_take 51 = .ok (.iload 4, 2) := by decide +kernel
theorem d_Ts_take_53 : decode b_Ts_take 53 = .ok (.if_icmp .ne 22, 3) := by decide +kernel
theorem d_Ts_take_56 : decode b_Ts_take 56 = .ok (.aload 6, 2) := by decide +kernel
theorem d_Ts_take_58 : decode b_Ts_take 58 = .ok (.iconst 0, 1) := by decide +kernel
theorem d_Ts_take_59 : decode b_Ts_take 59 = .ok (.putfield 29, 3) := by decide +kernel
theorem d_Ts_take_62 : decode b_Ts_take 62 = .ok (.aload_n 0, 1) := by decide +kernel
theorem d_Ts_take_63 : decode b_Ts_take 63 = .ok (.dup, 1) := by decide +kernel
theorem d_Ts_take_64 : decode b_Ts_take 64 = .ok (.getfield 57, 3) := by decide +kernel
theorem d_Ts_take_67 : decode b_Ts_take 67 = .ok (.iconst 1, 1) := by decide +kernel
theorem d_Ts_take_68 : decode b_Ts_take 68 = .ok (.isub, 1) := by decide +kernel
theorem d_Ts_take_69 : decode b_Ts_take 69 = .ok (.putfield 57, 3) := by decide +kernel
theorem d_Ts_take_72 : decode b_Ts_take 72 = .ok (.aload 6, 2) := by decide +kernel
theorem d_Ts_take_81 : decode b_Ts_take 81 = .ok (.aconst_null, 1) := by decide +kernel
theorem d_Ts_take_82 : decode b_Ts_take 82 = .ok (.areturn, 1) := by decide +kernel
theorem d_Ts_take_74 : decode b_Ts_take 74 = .ok (.areturn, 1) := by decide +kernel
theorem BY_56 (v : Int64) : BY ((v.toUInt64 >>> ((56 : Int32).toInt64.toUInt64 &&& Int64.toUInt64 63)).toInt64.toInt32) := by
  rw [show ((56 : Int32).toInt64.toUInt64 &&& Int64.toUInt64 63) = 56 from by decide]
  apply BY_of
  have h1 : (v.toUInt64 >>> 56).toInt64.toInt32.toBitVec = ((v.toUInt64 >>> 56).toBitVec).signExtend 32 := rfl
  rw [h1, BitVec.signExtend_eq_setWidth_of_le _ (by decide), BitVec.toNat_setWidth]
  have h2 : (v.toUInt64 >>> 56).toBitVec.toNat < 256 := by
    show (v.toUInt64 >>> 56).toNat < 256
    rw [UInt64.toNat_shiftRight]
    have h3 := v.toUInt64.toNat_lt
    rw [show (56 : UInt64).toNat % 64 = 56 from by decide, Nat.shiftRight_eq_div_pow]
    omega
  omega
set_option maxHeartbeats 4000000 in
set_option maxRecDepth 100000 in
/-- freePlace -/
theorem c_Ts_free (l : Launch) (dC : Nat → ClassId) (dI : Nat → Nat → Nat) (cT : Nat → ClassId) (sz : Nat) (ts : Nat) (tp : Nat) (mk : Int64) (dw : Int64) (kt : Int32) (gt : Nat → Option Nat) (L : List Nat) (F : Nat → va_E) (kd : Nat → Nat) (si : Nat → Nat) (ro : Nat → Nat) (rb : Nat → Nat) (hg8 : ∀ i9, i9 < 6 → ∃ q9, gt i9 = some q9 ∧ q9 ∈ L ∧ kd q9 = 8) (hnd : L.Nodup) (hsh : SHP L kd si ro rb) (hF : PLS cT kd si ro rb L F) : Met l y_Ts_freePlace (Cond.code y_Ts_freePlace b_Ts_freePlace 3 (Option.some (Jvm.ClassFile.FieldType.object "DoorServer$Trial")) :: BIG) ({ frames := 0, cells := 0, slots := 0, locals := 0 }) (va_Pc [.ref ts] (fun U => U.heap.size = sz ∧ va_P (dC, dI) vcl ([(ts, .inr (9, [.ref tp, .long mk, .long dw, .int kt])), (tp, .inl ((cT 4), 6, .inr (.inr (.inr (.inr gt)))))] ++ va_pl L F) U.heap ∧ va_K (dC, dI) vcl (tyL cT) U ∧ va_D (fun _ => True) ([(ts, .inr (9, [.ref tp, .long mk, .long dw, .int kt])), (tp, .inl ((cT 4), 6, .inr (.inr (.inr (.inr gt)))))] ++ va_pl L F))) (va_Qq (S := Int32) (fun rv9 u => match u with | kt2 => ∃ q9, rv9 = some q9 ∧ q9 ∈ L ∧ kd q9 = 8) (fun u t => match u with | kt2 => va_P (dC, dI) vcl ([(ts, .inr (9, [.ref tp, .long mk, .long dw, .int kt2])), (tp, .inl ((cT 4), 6, .inr (.inr (.inr (.inr gt)))))] ++ va_pl L F) t.heap ∧ va_K (dC, dI) vcl (tyL cT) t ∧ va_D (va_A ([(ts, .inr (9, [.ref tp, .long mk, .long dw, .int kt])), (tp, .inl ((cT 4), 6, .inr (.inr (.inr (.inr gt)))))] ++ va_pl L F) sz) ([(ts, .inr (9, [.ref tp, .long mk, .long dw, .int kt2])), (tp, .inl ((cT 4), 6, .inr (.inr (.inr (.inr gt)))))] ++ va_pl L F)) (va_A ([(ts, .inr (9, [.ref tp, .long mk, .long dw, .int kt])), (tp, .inl ((cT 4), 6, .inr (.inr (.inr (.inr gt)))))] ++ va_pl L F) sz)) 0 0 (va_A ([(ts, .inr (9, [.ref tp, .long mk, .long dw, .int kt])), (tp, .inl ((cT 4), 6, .inr (.inr (.inr (.inr gt)))))] ++ va_pl L F) sz) := by
  refine Met.ofW (cc := b_Ts_freePlace) (maxL := 3) (ret := (Option.some (Jvm.ClassFile.FieldType.object "DoorServer$Trial"))) (by decide) rfl ?_
  intro p e s m args below meth c s₁ B hml hv
  obtain ⟨hargs, hsz, hP, hK, hD0⟩ := hv
  have hx := B.exec
  have hb := B.bytes
  have hr := B.returns
  have hts := atoms_spec (ws := (Cond.code y_Ts_freePlace b_Ts_freePlace 3 (Option.some (Jvm.ClassFile.FieldType.object "DoorServer$Trial")) :: BIG)) B.pre
  have hg : ∀ w ∈ BIG, w.before _ s = true := fun w h => hts w (List.mem_cons_of_mem _ h)
  have hown : s.vm.findClass "DoorServer$Trials" = some m.cls := findClass_of_methodNamed B.named
  have hlocks := B.notSynchronized
  subst hsz
  have hD := hD0.self (sz := s.heap.size)
  generalize hAe : va_A ([(ts, .inr (9, [.ref tp, .long mk, .long dw, .int kt])), (tp, .inl ((cT 4), 6, .inr (.inr (.inr (.inr gt)))))] ++ va_pl L F) s.heap.size = A at hD ⊢
  have hA : ∀ q : Nat, s.heap.size ≤ q → A q := fun q h => by rw [← hAe]; exact Or.inr h
  have hS : va_S A s.heap s.heap [] := va_S.rf
  have hl := lv_entry ([.ref ts]) (n := 3) (Nat.le_of_ble_eq_true rfl)
  refine W.eq (g2 := entryFrame m (List.toArray [.ref ts]) 3) (by rw [hargs]) ?_
  rw [lg_entry_eq]
  generalize (lg_sl ([.ref ts]) ++ List.replicate (3 - (lg_sl ([.ref ts])).length) Slot.unset).toArray = ls at hl ⊢
  have hl : lv_has ls 3 [(0, .ref ts)] := hl
  change W p l e ({ frames := 0, cells := 0, slots := 0, locals := 0 } : Room) s m args below meth c s.heap [] 0 0 _ _
  have hP : va_P (dC, dI) vcl ([(ts, .inr (9, [.ref tp, .long mk, .long dw, .int kt])), (tp, .inl ((cT 4), 6, .inr (.inr (.inr (.inr gt)))))] ++ va_pl L F) s.heap := hP
  obtain ⟨q, hq1, hq2, hq3⟩ := hg8 0 (by decide)
  refine lv_aload_n hx hb d_Ts_freePlace_0 rfl (lv_at hl 0 rfl) ?_
  refine va_get (D := (dC, dI)) (ci := 9) (v := (.ref tp)) (C := R_Ts) (T := F_Ts) (N := 4) hx hb hg in_Ts hown hK hP 0 rfl rfl 0 (by decide) (hg _ k_231) (fun _ h9 => h9) rfl d_Ts_freePlace_1 ?_
  refine lv_iconst (v := 0) hx hb d_Ts_freePlace_4 (by decide) ?_
  refine lv_topi (fun x2 e1 => ?_)
  obtain rfl : x2 = nI 0 := by rw [e1]; rfl
  refine va_aldq hx hb hK hP 1 4 rfl rfl (i := (nI 0)) (vp_in_nI (N := 6) (by omega) (by decide)) d_Ts_freePlace_5 ?_
  rw [show va_rf (gt (nI 0).toNatClampNeg) = .ref q from by rw [nI_clamp (by omega), hq1]; rfl]
  refine lv_astore_n (lv' := [(1, .ref q), (0, .ref ts)]) hx hb d_Ts_freePlace_6 rfl hl (by decide) rfl (fun ls hl => ?_)
  refine lv_iconst (v := 0) hx hb d_Ts_freePlace_7 (by decide) ?_
  refine lv_istore_n (lv' := [(2, .int 0), (1, .ref q), (0, .ref ts)]) hx hb d_Ts_freePlace_8 rfl hl (by decide) rfl (fun ls hl => ?_)
  have hl := lv_sub hl [0, 1, 2] (show _ = [(2, .int 0), (1, .ref q), (0, .ref ts)] from rfl)
  have L3 : ∀ (Q : State → Prop) (ex0 : ∀ (q : Nat) (H : Heap) (locs : List Loc) (ls : Array Slot), (q ∈ L ∧ kd q = 8) → va_P (dC, dI) vcl ([(ts, .inr (9, [.ref tp, .long mk, .long dw, .int kt])), (tp, .inl ((cT 4), 6, .inr (.inr (.inr (.inr gt)))))] ++ va_pl L F) H → va_D A ([(ts, .inr (9, [.ref tp, .long mk, .long dw, .int kt])), (tp, .inl ((cT 4), 6, .inr (.inr (.inr (.inr gt)))))] ++ va_pl L F) → va_S A s.heap H locs → lv_has ls 3 [(1, .ref q), (0, .ref ts)] → W p l e ({ frames := 0, cells := 0, slots := 0, locals := 0 } : Room) s m args below meth c H locs 0 0 Q (F0 m 74 ls [])) (ex1 : ∀ (q : Nat) (q2 : Nat) (H : Heap) (locs : List Loc) (ls : Array Slot), (q2 ∈ L ∧ kd q2 = 8) → va_P (dC, dI) vcl ([(ts, .inr (9, [.ref tp, .long mk, .long dw, .int (kt + 1)])), (tp, .inl ((cT 4), 6, .inr (.inr (.inr (.inr gt)))))] ++ va_pl L F) H → va_D A ([(ts, .inr (9, [.ref tp, .long mk, .long dw, .int (kt + 1)])), (tp, .inl ((cT 4), 6, .inr (.inr (.inr (.inr gt)))))] ++ va_pl L F) → va_S A s.heap H locs → lv_has ls 3 [(1, .ref q), (0, .ref ts)] → W p l e ({ frames := 0, cells := 0, slots := 0, locals := 0 } : Room) s m args below meth c H locs 0 0 Q (F0 m 43 ls [.ref q2])) (jj4 : Nat) (i : Nat) (q : Nat) (H : Heap) (locs : List Loc) (ls : Array Slot), 6 - i ≤ jj4 → (i ≤ 6) → (q ∈ L ∧ kd q = 8) → va_P (dC, dI) vcl ([(ts, .inr (9, [.ref tp, .long mk, .long dw, .int kt])), (tp, .inl ((cT 4), 6, .inr (.inr (.inr (.inr gt)))))] ++ va_pl L F) H → va_D A ([(ts, .inr (9, [.ref tp, .long mk, .long dw, .int kt])), (tp, .inl ((cT 4), 6, .inr (.inr (.inr (.inr gt)))))] ++ va_pl L F) → va_S A s.heap H locs → lv_has ls 3 [(2, .int (nI i)), (1, .ref q), (0, .ref ts)] → W p l e ({ frames := 0, cells := 0, slots := 0, locals := 0 } : Room) s m args below meth c H locs 0 0 Q (F0 m 9 ls []) := by
    intro Q ex0 ex1 jj4
    induction jj4 with
    | zero => 
      intro i q H locs ls hm9 hi hq hP hD hS hl
      refine lv_iload_n hx hb d_Ts_freePlace_9 rfl (lv_at hl 0 rfl) ?_
      refine lv_bipush (v := 6) hx hb d_Ts_freePlace_10 (by decide) ?_
      refine lv_icmp_ge (tgt := 74) hx hb d_Ts_freePlace_12 (by decide) (fun hc5 => ?_) (fun hc5 => ?_)
      · skip
        have hl := lv_sub hl [1, 2] (show _ = [(1, .ref q), (0, .ref ts)] from rfl)
        exact ex0 q _ _ _ (hq) hP hD hS hl
      · skip
        have h1 : i < 6 := Nat.not_le.mp (fun h7 => hc5 (nI_le (a := 6) h7 (by omega)))
        obtain ⟨q2, hq1, hq2, hq3⟩ := hg8 i (by omega)
        obtain ⟨x1, xm, x2, x3, x4, x5, hFq⟩ := (hF q2 hq2).2.2.2.1 hq3
        refine lv_aload_n hx hb d_Ts_freePlace_15 rfl (lv_at hl 2 rfl) ?_
        refine va_get (D := (dC, dI)) (ci := 9) (v := (.ref tp)) (C := R_Ts) (T := F_Ts) (N := 4) hx hb hg in_Ts hown hK hP 0 rfl rfl 0 (by decide) (hg _ k_231) (fun _ h9 => h9) rfl d_Ts_freePlace_16 ?_
        refine lv_iload_n hx hb d_Ts_freePlace_19 rfl (lv_at hl 0 rfl) ?_
        refine va_aldq hx hb hK hP 1 4 rfl rfl (i := (nI i)) (vp_in_nI (N := 6) (by omega) (by decide)) d_Ts_freePlace_20 ?_
        rw [show va_rf (gt (nI i).toNatClampNeg) = .ref q2 from by rw [nI_clamp (by omega), hq1]; rfl]
        obtain ⟨hP, hD⟩ := pl_out (X := [(ts, .inr (9, [.ref tp, .long mk, .long dw, .int kt])), (tp, .inl ((cT 4), 6, .inr (.inr (.inr (.inr gt)))))]) hP hD (hq2) (hFq)
        have hP : va_P (dC, dI) vcl ([(ts, .inr (9, [.ref tp, .long mk, .long dw, .int kt])), (tp, .inl ((cT 4), 6, .inr (.inr (.inr (.inr gt))))), (q2, .inr (8, [.int x1, .long xm, .int x2, .int x3, .int x4, .int x5, .ref (ro q2)]))] ++ va_pl (L.erase q2) F) H := hP
        have hD : va_D A ([(ts, .inr (9, [.ref tp, .long mk, .long dw, .int kt])), (tp, .inl ((cT 4), 6, .inr (.inr (.inr (.inr gt))))), (q2, .inr (8, [.int x1, .long xm, .int x2, .int x3, .int x4, .int x5, .ref (ro q2)]))] ++ va_pl (L.erase q2) F) := hD
        refine va_get (D := (dC, dI)) (ci := 8) (v := (.int x1)) (C := R_Tl) (T := F_Tl) (N := 7) hx hb hg in_Tl hown hK hP 2 rfl rfl 0 (by decide) (hg _ k_204) (fun _ h9 => h9) rfl d_Ts_freePlace_21 ?_
        refine lv_if_ne (tgt := 44) hx hb d_Ts_freePlace_24 (by decide) (fun hc6 => ?_) (fun hc6 => ?_)
        · skip
          refine lv_aload_n hx hb d_Ts_freePlace_44 rfl (lv_at hl 2 rfl) ?_
          refine va_get (D := (dC, dI)) (ci := 9) (v := (.ref tp)) (C := R_Ts) (T := F_Ts) (N := 4) hx hb hg in_Ts hown hK hP 0 rfl rfl 0 (by decide) (hg _ k_231) (fun _ h9 => h9) rfl d_Ts_freePlace_45 ?_
          refine lv_iload_n hx hb d_Ts_freePlace_48 rfl (lv_at hl 0 rfl) ?_
          refine va_aldq hx hb hK hP 1 4 rfl rfl (i := (nI i)) (vp_in_nI (N := 6) (by omega) (by decide)) d_Ts_freePlace_49 ?_
          rw [show va_rf (gt (nI i).toNatClampNeg) = .ref q2 from by rw [nI_clamp (by omega), hq1]; rfl]
          refine va_get (D := (dC, dI)) (ci := 8) (v := (.long xm)) (C := R_Tl) (T := F_Tl) (N := 7) hx hb hg in_Tl hown hK hP 2 rfl rfl 1 (by decide) (hg _ k_205) (fun _ h9 => h9) rfl d_Ts_freePlace_50 ?_
          refine lv_aload_n hx hb d_Ts_freePlace_53 rfl (lv_at hl 1 rfl) ?_
          by_cases hqq : q2 = q
          · skip
            subst hqq
            refine va_get (D := (dC, dI)) (ci := 8) (v := (.long xm)) (C := R_Tl) (T := F_Tl) (N := 7) hx hb hg in_Tl hown hK hP 2 rfl rfl 1 (by decide) (hg _ k_205) (fun _ h9 => h9) rfl d_Ts_freePlace_54 ?_
            refine W.lcmp hx hb d_Ts_freePlace_57 ?_
            refine lv_if_ge (tgt := 68) hx hb d_Ts_freePlace_58 (by decide) (fun hc7 => ?_) (fun hc7 => ?_)
            · skip
              obtain ⟨hP, hD⟩ := pl_in (X := [(ts, .inr (9, [.ref tp, .long mk, .long dw, .int kt])), (tp, .inl ((cT 4), 6, .inr (.inr (.inr (.inr gt)))))]) hP hD (hq2) (hnd)
              have hP : va_P (dC, dI) vcl ([(ts, .inr (9, [.ref tp, .long mk, .long dw, .int kt])), (tp, .inl ((cT 4), 6, .inr (.inr (.inr (.inr gt)))))] ++ va_pl L (va_up F q2 (.inr (8, [.int x1, .long xm, .int x2, .int x3, .int x4, .int x5, .ref (ro q2)])))) H := hP
              have hD : va_D A ([(ts, .inr (9, [.ref tp, .long mk, .long dw, .int kt])), (tp, .inl ((cT 4), 6, .inr (.inr (.inr (.inr gt)))))] ++ va_pl L (va_up F q2 (.inr (8, [.int x1, .long xm, .int x2, .int x3, .int x4, .int x5, .ref (ro q2)])))) := hD
              rw [up_id hFq] at hP hD
              have hP : va_P (dC, dI) vcl ([(ts, .inr (9, [.ref tp, .long mk, .long dw, .int kt])), (tp, .inl ((cT 4), 6, .inr (.inr (.inr (.inr gt)))))] ++ va_pl L F) H := hP
              have hD : va_D A ([(ts, .inr (9, [.ref tp, .long mk, .long dw, .int kt])), (tp, .inl ((cT 4), 6, .inr (.inr (.inr (.inr gt)))))] ++ va_pl L F) := hD
              refine lv_iinc (k := 0) (v := nI (i + 1)) (lv' := [(2, .int (nI (i + 1))), (1, .ref q2), (0, .ref ts)]) hx hb d_Ts_freePlace_68 hl rfl (nI_1 i) (by decide) rfl (fun ls hl => ?_)
              refine lv_goto (tgt := 9) hx hb d_Ts_freePlace_71 (by decide) ?_
              have hl := lv_sub hl [0, 1, 2] (show _ = [(2, .int (nI (i + 1))), (1, .ref q2), (0, .ref ts)] from rfl)
              exfalso; omega
            · skip
              refine lv_aload_n hx hb d_Ts_freePlace_61 rfl (lv_at hl 2 rfl) ?_
              refine va_get (D := (dC, dI)) (ci := 9) (v := (.ref tp)) (C := R_Ts) (T := F_Ts) (N := 4) hx hb hg in_Ts hown hK hP 0 rfl rfl 0 (by decide) (hg _ k_231) (fun _ h9 => h9) rfl d_Ts_freePlace_62 ?_
              refine lv_iload_n hx hb d_Ts_freePlace_65 rfl (lv_at hl 0 rfl) ?_
              refine va_aldq hx hb hK hP 1 4 rfl rfl (i := (nI i)) (vp_in_nI (N := 6) (by omega) (by decide)) d_Ts_freePlace_66 ?_
              rw [show va_rf (gt (nI i).toNatClampNeg) = .ref q2 from by rw [nI_clamp (by omega), hq1]; rfl]
              refine lv_astore_n (lv' := [(1, .ref q2), (2, .int (nI i)), (0, .ref ts)]) hx hb d_Ts_freePlace_67 rfl hl (by decide) rfl (fun ls hl => ?_)
              obtain ⟨hP, hD⟩ := pl_in (X := [(ts, .inr (9, [.ref tp, .long mk, .long dw, .int kt])), (tp, .inl ((cT 4), 6, .inr (.inr (.inr (.inr gt)))))]) hP hD (hq2) (hnd)
              have hP : va_P (dC, dI) vcl ([(ts, .inr (9, [.ref tp, .long mk, .long dw, .int kt])), (tp, .inl ((cT 4), 6, .inr (.inr (.inr (.inr gt)))))] ++ va_pl L (va_up F q2 (.inr (8, [.int x1, .long xm, .int x2, .int x3, .int x4, .int x5, .ref (ro q2)])))) H := hP
              have hD : va_D A ([(ts, .inr (9, [.ref tp, .long mk, .long dw, .int kt])), (tp, .inl ((cT 4), 6, .inr (.inr (.inr (.inr gt)))))] ++ va_pl L (va_up F q2 (.inr (8, [.int x1, .long xm, .int x2, .int x3, .int x4, .int x5, .ref (ro q2)])))) := hD
              rw [up_id hFq] at hP hD
              have hP : va_P (dC, dI) vcl ([(ts, .inr (9, [.ref tp, .long mk, .long dw, .int kt])), (tp, .inl ((cT 4), 6, .inr (.inr (.inr (.inr gt)))))] ++ va_pl L F) H := hP
              have hD : va_D A ([(ts, .inr (9, [.ref tp, .long mk, .long dw, .int kt])), (tp, .inl ((cT 4), 6, .inr (.inr (.inr (.inr gt)))))] ++ va_pl L F) := hD
              refine lv_iinc (k := 1) (v := nI (i + 1)) (lv' := [(2, .int (nI (i + 1))), (1, .ref q2), (0, .ref ts)]) hx hb d_Ts_freePlace_68 hl rfl (nI_1 i) (by decide) rfl (fun ls hl => ?_)
              refine lv_goto (tgt := 9) hx hb d_Ts_freePlace_71 (by decide) ?_
              have hl := lv_sub hl [0, 1, 2] (show _ = [(2, .int (nI (i + 1))), (1, .ref q2), (0, .ref ts)] from rfl)
              exfalso; omega
          · skip
            obtain ⟨o1, om, o2, o3, o4, o5, hFo⟩ := (hF q hq.1).2.2.2.1 hq.2
            obtain ⟨hP, hD⟩ := pl_out (X := [(ts, .inr (9, [.ref tp, .long mk, .long dw, .int kt])), (tp, .inl ((cT 4), 6, .inr (.inr (.inr (.inr gt))))), (q2, .inr (8, [.int x1, .long xm, .int x2, .int x3, .int x4, .int x5, .ref (ro q2)]))]) hP hD ((List.mem_erase_of_ne (fun h9 => hqq h9.symm)).mpr hq.1) (hFo)
            have hP : va_P (dC, dI) vcl ([(ts, .inr (9, [.ref tp, .long mk, .long dw, .int kt])), (tp, .inl ((cT 4), 6, .inr (.inr (.inr (.inr gt))))), (q2, .inr (8, [.int x1, .long xm, .int x2, .int x3, .int x4, .int x5, .ref (ro q2)])), (q, .inr (8, [.int o1, .long om, .int o2, .int o3, .int o4, .int o5, .ref (ro q)]))] ++ va_pl ((L.erase q2).erase q) F) H := hP
            have hD : va_D A ([(ts, .inr (9, [.ref tp, .long mk, .long dw, .int kt])), (tp, .inl ((cT 4), 6, .inr (.inr (.inr (.inr gt))))), (q2, .inr (8, [.int x1, .long xm, .int x2, .int x3, .int x4, .int x5, .ref (ro q2)])), (q, .inr (8, [.int o1, .long om, .int o2, .int o3, .int o4, .int o5, .ref (ro q)]))] ++ va_pl ((L.erase q2).erase q) F) := hD
            refine va_get (D := (dC, dI)) (ci := 8) (v := (.long om)) (C := R_Tl) (T := F_Tl) (N := 7) hx hb hg in_Tl hown hK hP 3 rfl rfl 1 (by decide) (hg _ k_205) (fun _ h9 => h9) rfl d_Ts_freePlace_54 ?_
            refine W.lcmp hx hb d_Ts_freePlace_57 ?_
            refine lv_if_ge (tgt := 68) hx hb d_Ts_freePlace_58 (by decide) (fun hc8 => ?_) (fun hc8 => ?_)
            · skip
              obtain ⟨hP, hD⟩ := pl_in (X := [(ts, .inr (9, [.ref tp, .long mk, .long dw, .int kt])), (tp, .inl ((cT 4), 6, .inr (.inr (.inr (.inr gt))))), (q2, .inr (8, [.int x1, .long xm, .int x2, .int x3, .int x4, .int x5, .ref (ro q2)]))]) hP hD ((List.mem_erase_of_ne (fun h9 => hqq h9.symm)).mpr hq.1) (hnd.erase q2)
              have hP : va_P (dC, dI) vcl ([(ts, .inr (9, [.ref tp, .long mk, .long dw, .int kt])), (tp, .inl ((cT 4), 6, .inr (.inr (.inr (.inr gt))))), (q2, .inr (8, [.int x1, .long xm, .int x2, .int x3, .int x4, .int x5, .ref (ro q2)]))] ++ va_pl (L.erase q2) (va_up F q (.inr (8, [.int o1, .long om, .int o2, .int o3, .int o4, .int o5, .ref (ro q)])))) H := hP
              have hD : va_D A ([(ts, .inr (9, [.ref tp, .long mk, .long dw, .int kt])), (tp, .inl ((cT 4), 6, .inr (.inr (.inr (.inr gt))))), (q2, .inr (8, [.int x1, .long xm, .int x2, .int x3, .int x4, .int x5, .ref (ro q2)]))] ++ va_pl (L.erase q2) (va_up F q (.inr (8, [.int o1, .long om, .int o2, .int o3, .int o4, .int o5, .ref (ro q)])))) := hD
              rw [up_id hFo] at hP hD
              have hP : va_P (dC, dI) vcl ([(ts, .inr (9, [.ref tp, .long mk, .long dw, .int kt])), (tp, .inl ((cT 4), 6, .inr (.inr (.inr (.inr gt))))), (q2, .inr (8, [.int x1, .long xm, .int x2, .int x3, .int x4, .int x5, .ref (ro q2)]))] ++ va_pl (L.erase q2) F) H := hP
              have hD : va_D A ([(ts, .inr (9, [.ref tp, .long mk, .long dw, .int kt])), (tp, .inl ((cT 4), 6, .inr (.inr (.inr (.inr gt))))), (q2, .inr (8, [.int x1, .long xm, .int x2, .int x3, .int x4, .int x5, .ref (ro q2)]))] ++ va_pl (L.erase q2) F) := hD
              obtain ⟨hP, hD⟩ := pl_in (X := [(ts, .inr (9, [.ref tp, .long mk, .long dw, .int kt])), (tp, .inl ((cT 4), 6, .inr (.inr (.inr (.inr gt)))))]) hP hD (hq2) (hnd)
              have hP : va_P (dC, dI) vcl ([(ts, .inr (9, [.ref tp, .long mk, .long dw, .int kt])), (tp, .inl ((cT 4), 6, .inr (.inr (.inr (.inr gt)))))] ++ va_pl L (va_up F q2 (.inr (8, [.int x1, .long xm, .int x2, .int x3, .int x4, .int x5, .ref (ro q2)])))) H := hP
              have hD : va_D A ([(ts, .inr (9, [.ref tp, .long mk, .long dw, .int kt])), (tp, .inl ((cT 4), 6, .inr (.inr (.inr (.inr gt)))))] ++ va_pl L (va_up F q2 (.inr (8, [.int x1, .long xm, .int x2, .int x3, .int x4, .int x5, .ref (ro q2)])))) := hD
              rw [up_id hFq] at hP hD
              have hP : va_P (dC, dI) vcl ([(ts, .inr (9, [.ref tp, .long mk, .long dw, .int kt])), (tp, .inl ((cT 4), 6, .inr (.inr (.inr (.inr gt)))))] ++ va_pl L F) H := hP
              have hD : va_D A ([(ts, .inr (9, [.ref tp, .long mk, .long dw, .int kt])), (tp, .inl ((cT 4), 6, .inr (.inr (.inr (.inr gt)))))] ++ va_pl L F) := hD
              refine lv_iinc (k := 0) (v := nI (i + 1)) (lv' := [(2, .int (nI (i + 1))), (1, .ref q), (0, .ref ts)]) hx hb d_Ts_freePlace_68 hl rfl (nI_1 i) (by decide) rfl (fun ls hl => ?_)
              refine lv_goto (tgt := 9) hx hb d_Ts_freePlace_71 (by decide) ?_
              have hl := lv_sub hl [0, 1, 2] (show _ = [(2, .int (nI (i + 1))), (1, .ref q), (0, .ref ts)] from rfl)
              exfalso; omega
            · skip
              refine lv_aload_n hx hb d_Ts_freePlace_61 rfl (lv_at hl 2 rfl) ?_
              refine va_get (D := (dC, dI)) (ci := 9) (v := (.ref tp)) (C := R_Ts) (T := F_Ts) (N := 4) hx hb hg in_Ts hown hK hP 0 rfl rfl 0 (by decide) (hg _ k_231) (fun _ h9 => h9) rfl d_Ts_freePlace_62 ?_
              refine lv_iload_n hx hb d_Ts_freePlace_65 rfl (lv_at hl 0 rfl) ?_
              refine va_aldq hx hb hK hP 1 4 rfl rfl (i := (nI i)) (vp_in_nI (N := 6) (by omega) (by decide)) d_Ts_freePlace_66 ?_
              rw [show va_rf (gt (nI i).toNatClampNeg) = .ref q2 from by rw [nI_clamp (by omega), hq1]; rfl]
              refine lv_astore_n (lv' := [(1, .ref q2), (2, .int (nI i)), (0, .ref ts)]) hx hb d_Ts_freePlace_67 rfl hl (by decide) rfl (fun ls hl => ?_)
              obtain ⟨hP, hD⟩ := pl_in (X := [(ts, .inr (9, [.ref tp, .long mk, .long dw, .int kt])), (tp, .inl ((cT 4), 6, .inr (.inr (.inr (.inr gt))))), (q2, .inr (8, [.int x1, .long xm, .int x2, .int x3, .int x4, .int x5, .ref (ro q2)]))]) hP hD ((List.mem_erase_of_ne (fun h9 => hqq h9.symm)).mpr hq.1) (hnd.erase q2)
              have hP : va_P (dC, dI) vcl ([(ts, .inr (9, [.ref tp, .long mk, .long dw, .int kt])), (tp, .inl ((cT 4), 6, .inr (.inr (.inr (.inr gt))))), (q2, .inr (8, [.int x1, .long xm, .int x2, .int x3, .int x4, .int x5, .ref (ro q2)]))] ++ va_pl (L.erase q2) (va_up F q (.inr (8, [.int o1, .long om, .int o2, .int o3, .int o4, .int o5, .ref (ro q)])))) H := hP
              have hD : va_D A ([(ts, .inr (9, [.ref tp, .long mk, .long dw, .int kt])), (tp, .inl ((cT 4), 6, .inr (.inr (.inr (.inr gt))))), (q2, .inr (8, [.int x1, .long xm, .int x2, .int x3, .int x4, .int x5, .ref (ro q2)]))] ++ va_pl (L.erase q2) (va_up F q (.inr (8, [.int o1, .long om, .int o2, .int o3, .int o4, .int o5, .ref (ro q)])))) := hD
              rw [up_id hFo] at hP hD
              have hP : va_P (dC, dI) vcl ([(ts, .inr (9, [.ref tp, .long mk, .long dw, .int kt])), (tp, .inl ((cT 4), 6, .inr (.inr (.inr (.inr gt))))), (q2, .inr (8, [.int x1, .long xm, .int x2, .int x3, .int x4, .int x5, .ref (ro q2)]))] ++ va_pl (L.erase q2) F) H := hP
              have hD : va_D A ([(ts, .inr (9, [.ref tp, .long mk, .long dw, .int kt])), (tp, .inl ((cT 4), 6, .inr (.inr (.inr (.inr gt))))), (q2, .inr (8, [.int x1, .long xm, .int x2, .int x3, .int x4, .int x5, .ref (ro q2)]))] ++ va_pl (L.erase q2) F) := hD
              obtain ⟨hP, hD⟩ := pl_in (X := [(ts, .inr (9, [.ref tp, .long mk, .long dw, .int kt])), (tp, .inl ((cT 4), 6, .inr (.inr (.inr (.inr gt)))))]) hP hD (hq2) (hnd)
              have hP : va_P (dC, dI) vcl ([(ts, .inr (9, [.ref tp, .long mk, .long dw, .int kt])), (tp, .inl ((cT 4), 6, .inr (.inr (.inr (.inr gt)))))] ++ va_pl L (va_up F q2 (.inr (8, [.int x1, .long xm, .int x2, .int x3, .int x4, .int x5, .ref (ro q2)])))) H := hP
              have hD : va_D A ([(ts, .inr (9, [.ref tp, .long mk, .long dw, .int kt])), (tp, .inl ((cT 4), 6, .inr (.inr (.inr (.inr gt)))))] ++ va_pl L (va_up F q2 (.inr (8, [.int x1, .long xm, .int x2, .int x3, .int x4, .int x5, .ref (ro q2)])))) := hD
              rw [up_id hFq] at hP hD
              have hP : va_P (dC, dI) vcl ([(ts, .inr (9, [.ref tp, .long mk, .long dw, .int kt])), (tp, .inl ((cT 4), 6, .inr (.inr (.inr (.inr gt)))))] ++ va_pl L F) H := hP
              have hD : va_D A ([(ts, .inr (9, [.ref tp, .long mk, .long dw, .int kt])), (tp, .inl ((cT 4), 6, .inr (.inr (.inr (.inr gt)))))] ++ va_pl L F) := hD
              refine lv_iinc (k := 1) (v := nI (i + 1)) (lv' := [(2, .int (nI (i + 1))), (1, .ref q2), (0, .ref ts)]) hx hb d_Ts_freePlace_68 hl rfl (nI_1 i) (by decide) rfl (fun ls hl => ?_)
              refine lv_goto (tgt := 9) hx hb d_Ts_freePlace_71 (by decide) ?_
              have hl := lv_sub hl [0, 1, 2] (show _ = [(2, .int (nI (i + 1))), (1, .ref q2), (0, .ref ts)] from rfl)
              exfalso; omega
        · skip
          refine lv_aload_n hx hb d_Ts_freePlace_27 rfl (lv_at hl 2 rfl) ?_
          refine lv_dup hx hb d_Ts_freePlace_28 rfl ?_
          refine va_get (D := (dC, dI)) (ci := 9) (v := (.int kt)) (C := R_Ts) (T := F_Ts) (N := 4) hx hb hg in_Ts hown hK hP 0 rfl rfl 3 (by decide) (hg _ k_234) (fun _ h9 => h9) rfl d_Ts_freePlace_29 ?_
          refine lv_iconst (v := 1) hx hb d_Ts_freePlace_32 (by decide) ?_
          refine lv_iadd hx hb d_Ts_freePlace_33 ?_
          refine va_put (D := (dC, dI)) (ci := 9) (v := (.int (kt + 1))) (ty := .int) (C := R_Ts) (T := F_Ts) (N := 4) hx hb hg in_Ts t_Ts tok_Ts nm_Ts hown hK hP hD hS 0 rfl rfl 3 (by decide) (hg _ k_234) (fun _ h9 => h9) rfl (by decide +kernel) rfl rfl (Nat.le_of_ble_eq_true rfl) d_Ts_freePlace_34 (fun H locs hP hD hS => ?_)
          have hP : va_P (dC, dI) vcl ([(ts, .inr (9, [.ref tp, .long mk, .long dw, .int (kt + 1)])), (tp, .inl ((cT 4), 6, .inr (.inr (.inr (.inr gt))))), (q2, .inr (8, [.int x1, .long xm, .int x2, .int x3, .int x4, .int x5, .ref (ro q2)]))] ++ va_pl (L.erase q2) F) H := hP
          have hD : va_D A ([(ts, .inr (9, [.ref tp, .long mk, .long dw, .int (kt + 1)])), (tp, .inl ((cT 4), 6, .inr (.inr (.inr (.inr gt))))), (q2, .inr (8, [.int x1, .long xm, .int x2, .int x3, .int x4, .int x5, .ref (ro q2)]))] ++ va_pl (L.erase q2) F) := hD
          refine lv_aload_n hx hb d_Ts_freePlace_37 rfl (lv_at hl 2 rfl) ?_
          refine va_get (D := (dC, dI)) (ci := 9) (v := (.ref tp)) (C := R_Ts) (T := F_Ts) (N := 4) hx hb hg in_Ts hown hK hP 0 rfl rfl 0 (by decide) (hg _ k_231) (fun _ h9 => h9) rfl d_Ts_freePlace_38 ?_
          refine lv_iload_n hx hb d_Ts_freePlace_41 rfl (lv_at hl 0 rfl) ?_
          refine va_aldq hx hb hK hP 1 4 rfl rfl (i := (nI i)) (vp_in_nI (N := 6) (by omega) (by decide)) d_Ts_freePlace_42 ?_
          rw [show va_rf (gt (nI i).toNatClampNeg) = .ref q2 from by rw [nI_clamp (by omega), hq1]; rfl]
          obtain ⟨hP, hD⟩ := pl_in (X := [(ts, .inr (9, [.ref tp, .long mk, .long dw, .int (kt + 1)])), (tp, .inl ((cT 4), 6, .inr (.inr (.inr (.inr gt)))))]) hP hD (hq2) (hnd)
          have hP : va_P (dC, dI) vcl ([(ts, .inr (9, [.ref tp, .long mk, .long dw, .int (kt + 1)])), (tp, .inl ((cT 4), 6, .inr (.inr (.inr (.inr gt)))))] ++ va_pl L (va_up F q2 (.inr (8, [.int x1, .long xm, .int x2, .int x3, .int x4, .int x5, .ref (ro q2)])))) H := hP
          have hD : va_D A ([(ts, .inr (9, [.ref tp, .long mk, .long dw, .int (kt + 1)])), (tp, .inl ((cT 4), 6, .inr (.inr (.inr (.inr gt)))))] ++ va_pl L (va_up F q2 (.inr (8, [.int x1, .long xm, .int x2, .int x3, .int x4, .int x5, .ref (ro q2)])))) := hD
          rw [up_id hFq] at hP hD
          have hP : va_P (dC, dI) vcl ([(ts, .inr (9, [.ref tp, .long mk, .long dw, .int (kt + 1)])), (tp, .inl ((cT 4), 6, .inr (.inr (.inr (.inr gt)))))] ++ va_pl L F) H := hP
          have hD : va_D A ([(ts, .inr (9, [.ref tp, .long mk, .long dw, .int (kt + 1)])), (tp, .inl ((cT 4), 6, .inr (.inr (.inr (.inr gt)))))] ++ va_pl L F) := hD
          have hl := lv_sub hl [1, 2] (show _ = [(1, .ref q), (0, .ref ts)] from rfl)
          exact ex1 q q2 _ _ _ (⟨hq2, hq3⟩) hP hD hS hl
    | succ jj4 ih => 
      intro i q H locs ls hm9 hi hq hP hD hS hl
      refine lv_iload_n hx hb d_Ts_freePlace_9 rfl (lv_at hl 0 rfl) ?_
      refine lv_bipush (v := 6) hx hb d_Ts_freePlace_10 (by decide) ?_
      refine lv_icmp_ge (tgt := 74) hx hb d_Ts_freePlace_12 (by decide) (fun hc9 => ?_) (fun hc9 => ?_)
      · skip
        have hl := lv_sub hl [1, 2] (show _ = [(1, .ref q), (0, .ref ts)] from rfl)
        exact ex0 q _ _ _ (hq) hP hD hS hl
      · skip
        have h1 : i < 6 := Nat.not_le.mp (fun h7 => hc9 (nI_le (a := 6) h7 (by omega)))
        obtain ⟨q2, hq1, hq2, hq3⟩ := hg8 i (by omega)
        obtain ⟨x1, xm, x2, x3, x4, x5, hFq⟩ := (hF q2 hq2).2.2.2.1 hq3
        refine lv_aload_n hx hb d_Ts_freePlace_15 rfl (lv_at hl 2 rfl) ?_
        refine va_get (D := (dC, dI)) (ci := 9) (v := (.ref tp)) (C := R_Ts) (T := F_Ts) (N := 4) hx hb hg in_Ts hown hK hP 0 rfl rfl 0 (by decide) (hg _ k_231) (fun _ h9 => h9) rfl d_Ts_freePlace_16 ?_
        refine lv_iload_n hx hb d_Ts_freePlace_19 rfl (lv_at hl 0 rfl) ?_
        refine va_aldq hx hb hK hP 1 4 rfl rfl (i := (nI i)) (vp_in_nI (N := 6) (by omega) (by decide)) d_Ts_freePlace_20 ?_
        rw [show va_rf (gt (nI i).toNatClampNeg) = .ref q2 from by rw [nI_clamp (by omega), hq1]; rfl]
        obtain ⟨hP, hD⟩ := pl_out (X := [(ts, .inr (9, [.ref tp, .long mk, .long dw, .int kt])), (tp, .inl ((cT 4), 6, .inr (.inr (.inr (.inr gt)))))]) hP hD (hq2) (hFq)
        have hP : va_P (dC, dI) vcl ([(ts, .inr (9, [.ref tp, .long mk, .long dw, .int kt])), (tp, .inl ((cT 4), 6, .inr (.inr (.inr (.inr gt))))), (q2, .inr (8, [.int x1, .long xm, .int x2, .int x3, .int x4, .int x5, .ref (ro q2)]))] ++ va_pl (L.erase q2) F) H := hP
        have hD : va_D A ([(ts, .inr (9, [.ref tp, .long mk, .long dw, .int kt])), (tp, .inl ((cT 4), 6, .inr (.inr (.inr (.inr gt))))), (q2, .inr (8, [.int x1, .long xm, .int x2, .int x3, .int x4, .int x5, .ref (ro q2)]))] ++ va_pl (L.erase q2) F) := hD
        refine va_get (D := (dC, dI)) (ci := 8) (v := (.int x1)) (C := R_Tl) (T := F_Tl) (N := 7) hx hb hg in_Tl hown hK hP 2 rfl rfl 0 (by decide) (hg _ k_204) (fun _ h9 => h9) rfl d_Ts_freePlace_21 ?_
        refine lv_if_ne (tgt := 44) hx hb d_Ts_freePlace_24 (by decide) (fun hc10 => ?_) (fun hc10 => ?_)
        · skip
          refine lv_aload_n hx hb d_Ts_freePlace_44 rfl (lv_at hl 2 rfl) ?_
          refine va_get (D := (dC, dI)) (ci := 9) (v := (.ref tp)) (C := R_Ts) (T := F_Ts) (N := 4) hx hb hg in_Ts hown hK hP 0 rfl rfl 0 (by decide) (hg _ k_231) (fun _ h9 => h9) rfl d_Ts_freePlace_45 ?_
          refine lv_iload_n hx hb d_Ts_freePlace_48 rfl (lv_at hl 0 rfl) ?_
          refine va_aldq hx hb hK hP 1 4 rfl rfl (i := (nI i)) (vp_in_nI (N := 6) (by omega) (by decide)) d_Ts_freePlace_49 ?_
          rw [show va_rf (gt (nI i).toNatClampNeg) = .ref q2 from by rw [nI_clamp (by omega), hq1]; rfl]
          refine va_get (D := (dC, dI)) (ci := 8) (v := (.long xm)) (C := R_Tl) (T := F_Tl) (N := 7) hx hb hg in_Tl hown hK hP 2 rfl rfl 1 (by decide) (hg _ k_205) (fun _ h9 => h9) rfl d_Ts_freePlace_50 ?_
          refine lv_aload_n hx hb d_Ts_freePlace_53 rfl (lv_at hl 1 rfl) ?_
          by_cases hqq : q2 = q
          · skip
            subst hqq
            refine va_get (D := (dC, dI)) (ci := 8) (v := (.long xm)) (C := R_Tl) (T := F_Tl) (N := 7) hx hb hg in_Tl hown hK hP 2 rfl rfl 1 (by decide) (hg _ k_205) (fun _ h9 => h9) rfl d_Ts_freePlace_54 ?_
            refine W.lcmp hx hb d_Ts_freePlace_57 ?_
            refine lv_if_ge (tgt := 68) hx hb d_Ts_freePlace_58 (by decide) (fun hc11 => ?_) (fun hc11 => ?_)
            · skip
              obtain ⟨hP, hD⟩ := pl_in (X := [(ts, .inr (9, [.ref tp, .long mk, .long dw, .int kt])), (tp, .inl ((cT 4), 6, .inr (.inr (.inr (.inr gt)))))]) hP hD (hq2) (hnd)
              have hP : va_P (dC, dI) vcl ([(ts, .inr (9, [.ref tp, .long mk, .long dw, .int kt])), (tp, .inl ((cT 4), 6, .inr (.inr (.inr (.inr gt)))))] ++ va_pl L (va_up F q2 (.inr (8, [.int x1, .long xm, .int x2, .int x3, .int x4, .int x5, .ref (ro q2)])))) H := hP
              have hD : va_D A ([(ts, .inr (9, [.ref tp, .long mk, .long dw, .int kt])), (tp, .inl ((cT 4), 6, .inr (.inr (.inr (.inr gt)))))] ++ va_pl L (va_up F q2 (.inr (8, [.int x1, .long xm, .int x2, .int x3, .int x4, .int x5, .ref (ro q2)])))) := hD
              rw [up_id hFq] at hP hD
              have hP : va_P (dC, dI) vcl ([(ts, .inr (9, [.ref tp, .long mk, .long dw, .int kt])), (tp, .inl ((cT 4), 6, .inr (.inr (.inr (.inr gt)))))] ++ va_pl L F) H := hP
              have hD : va_D A ([(ts, .inr (9, [.ref tp, .long mk, .long dw, .int kt])), (tp, .inl ((cT 4), 6, .inr (.inr (.inr (.inr gt)))))] ++ va_pl L F) := hD
              refine lv_iinc (k := 0) (v := nI (i + 1)) (lv' := [(2, .int (nI (i + 1))), (1, .ref q2), (0, .ref ts)]) hx hb d_Ts_freePlace_68 hl rfl (nI_1 i) (by decide) rfl (fun ls hl => ?_)
              refine lv_goto (tgt := 9) hx hb d_Ts_freePlace_71 (by decide) ?_
              have hl := lv_sub hl [0, 1, 2] (show _ = [(2, .int (nI (i + 1))), (1, .ref q2), (0, .ref ts)] from rfl)
              exact ih (i + 1) q2 _ _ _ (by omega) (by omega) (⟨hq2, hq3⟩) hP hD hS hl
            · skip
              refine lv_aload_n hx hb d_Ts_freePlace_61 rfl (lv_at hl 2 rfl) ?_
              refine va_get (D := (dC, dI)) (ci := 9) (v := (.ref tp)) (C := R_Ts) (T := F_Ts) (N := 4) hx hb hg in_Ts hown hK hP 0 rfl rfl 0 (by decide) (hg _ k_231) (fun _ h9 => h9) rfl d_Ts_freePlace_62 ?_
              refine lv_iload_n hx hb d_Ts_freePlace_65 rfl (lv_at hl 0 rfl) ?_
              refine va_aldq hx hb hK hP 1 4 rfl rfl (i := (nI i)) (vp_in_nI (N := 6) (by omega) (by decide)) d_Ts_freePlace_66 ?_
              rw [show va_rf (gt (nI i).toNatClampNeg) = .ref q2 from by rw [nI_clamp (by omega), hq1]; rfl]
              refine lv_astore_n (lv' := [(1, .ref q2), (2, .int (nI i)), (0, .ref ts)]) hx hb d_Ts_freePlace_67 rfl hl (by decide) rfl (fun ls hl => ?_)
              obtain ⟨hP, hD⟩ := pl_in (X := [(ts, .inr (9, [.ref tp, .long mk, .long dw, .int kt])), (tp, .inl ((cT 4), 6, .inr (.inr (.inr (.inr gt)))))]) hP hD (hq2) (hnd)
              have hP : va_P (dC, dI) vcl ([(ts, .inr (9, [.ref tp, .long mk, .long dw, .int kt])), (tp, .inl ((cT 4), 6, .inr (.inr (.inr (.inr gt)))))] ++ va_pl L (va_up F q2 (.inr (8, [.int x1, .long xm, .int x2, .int x3, .int x4, .int x5, .ref (ro q2)])))) H := hP
              have hD : va_D A ([(ts, .inr (9, [.ref tp, .long mk, .long dw, .int kt])), (tp, .inl ((cT 4), 6, .inr (.inr (.inr (.inr gt)))))] ++ va_pl L (va_up F q2 (.inr (8, [.int x1, .long xm, .int x2, .int x3, .int x4, .int x5, .ref (ro q2)])))) := hD
              rw [up_id hFq] at hP hD
              have hP : va_P (dC, dI) vcl ([(ts, .inr (9, [.ref tp, .long mk, .long dw, .int kt])), (tp, .inl ((cT 4), 6, .inr (.inr (.inr (.inr gt)))))] ++ va_pl L F) H := hP
              have hD : va_D A ([(ts, .inr (9, [.ref tp, .long mk, .long dw, .int kt])), (tp, .inl ((cT 4), 6, .inr (.inr (.inr (.inr gt)))))] ++ va_pl L F) := hD
              refine lv_iinc (k := 1) (v := nI (i + 1)) (lv' := [(2, .int (nI (i + 1))), (1, .ref q2), (0, .ref ts)]) hx hb d_Ts_freePlace_68 hl rfl (nI_1 i) (by decide) rfl (fun ls hl => ?_)
              refine lv_goto (tgt := 9) hx hb d_Ts_freePlace_71 (by decide) ?_
              have hl := lv_sub hl [0, 1, 2] (show _ = [(2, .int (nI (i + 1))), (1, .ref q2), (0, .ref ts)] from rfl)
              exact ih (i + 1) q2 _ _ _ (by omega) (by omega) (⟨hq2, hq3⟩) hP hD hS hl
          · skip
            obtain ⟨o1, om, o2, o3, o4, o5, hFo⟩ := (hF q hq.1).2.2.2.1 hq.2
            obtain ⟨hP, hD⟩ := pl_out (X := [(ts, .inr (9, [.ref tp, .long mk, .long dw, .int kt])), (tp, .inl ((cT 4), 6, .inr (.inr (.inr (.inr gt))))), (q2, .inr (8, [.int x1, .long xm, .int x2, .int x3, .int x4, .int x5, .ref (ro q2)]))]) hP hD ((List.mem_erase_of_ne (fun h9 => hqq h9.symm)).mpr hq.1) (hFo)
            have hP : va_P (dC, dI) vcl ([(ts, .inr (9, [.ref tp, .long mk, .long dw, .int kt])), (tp, .inl ((cT 4), 6, .inr (.inr (.inr (.inr gt))))), (q2, .inr (8, [.int x1, .long xm, .int x2, .int x3, .int x4, .int x5, .ref (ro q2)])), (q, .inr (8, [.int o1, .long om, .int o2, .int o3, .int o4, .int o5, .ref (ro q)]))] ++ va_pl ((L.erase q2).erase q) F) H := hP
            have hD : va_D A ([(ts, .inr (9, [.ref tp, .long mk, .long dw, .int kt])), (tp, .inl ((cT 4), 6, .inr (.inr (.inr (.inr gt))))), (q2, .inr (8, [.int x1, .long xm, .int x2, .int x3, .int x4, .int x5, .ref (ro q2)])), (q, .inr (8, [.int o1, .long om, .int o2, .int o3, .int o4, .int o5, .ref (ro q)]))] ++ va_pl ((L.erase q2).erase q) F) := hD
            refine va_get (D := (dC, dI)) (ci := 8) (v := (.long om)) (C := R_Tl) (T := F_Tl) (N := 7) hx hb hg in_Tl hown hK hP 3 rfl rfl 1 (by decide) (hg _ k_205) (fun _ h9 => h9) rfl d_Ts_freePlace_54 ?_
            refine W.lcmp hx hb d_Ts_freePlace_57 ?_
            refine lv_if_ge (tgt := 68) hx hb d_Ts_freePlace_58 (by decide) (fun hc12 => ?_) (fun hc12 => ?_)
            · skip
              obtain ⟨hP, hD⟩ := pl_in (X := [(ts, .inr (9, [.ref tp, .long mk, .long dw, .int kt])), (tp, .inl ((cT 4), 6, .inr (.inr (.inr (.inr gt))))), (q2, .inr (8, [.int x1, .long xm, .int x2, .int x3, .int x4, .int x5, .ref (ro q2)]))]) hP hD ((List.mem_erase_of_ne (fun h9 => hqq h9.symm)).mpr hq.1) (hnd.erase q2)
              have hP : va_P (dC, dI) vcl ([(ts, .inr (9, [.ref tp, .long mk, .long dw, .int kt])), (tp, .inl ((cT 4), 6, .inr (.inr (.inr (.inr gt))))), (q2, .inr (8, [.int x1, .long xm, .int x2, .int x3, .int x4, .int x5, .ref (ro q2)]))] ++ va_pl (L.erase q2) (va_up F q (.inr (8, [.int o1, .long om, .int o2, .int o3, .int o4, .int o5, .ref (ro q)])))) H := hP
              have hD : va_D A ([(ts, .inr (9, [.ref tp, .long mk, .long dw, .int kt])), (tp, .inl ((cT 4), 6, .inr (.inr (.inr (.inr gt))))), (q2, .inr (8, [.int x1, .long xm, .int x2, .int x3, .int x4, .int x5, .ref (ro q2)]))] ++ va_pl (L.erase q2) (va_up F q (.inr (8, [.int o1, .long om, .int o2, .int o3, .int o4, .int o5, .ref (ro q)])))) := hD
              rw [up_id hFo] at hP hD
              have hP : va_P (dC, dI) vcl ([(ts, .inr (9, [.ref tp, .long mk, .long dw, .int kt])), (tp, .inl ((cT 4), 6, .inr (.inr (.inr (.inr gt))))), (q2, .inr (8, [.int x1, .long xm, .int x2, .int x3, .int x4, .int x5, .ref (ro q2)]))] ++ va_pl (L.erase q2) F) H := hP
              have hD : va_D A ([(ts, .inr (9, [.ref tp, .long mk, .long dw, .int kt])), (tp, .inl ((cT 4), 6, .inr (.inr (.inr (.inr gt))))), (q2, .inr (8, [.int x1, .long xm, .int x2, .int x3, .int x4, .int x5, .ref (ro q2)]))] ++ va_pl (L.erase q2) F) := hD
              obtain ⟨hP, hD⟩ := pl_in (X := [(ts, .inr (9, [.ref tp, .long mk, .long dw, .int kt])), (tp, .inl ((cT 4), 6, .inr (.inr (.inr (.inr gt)))))]) hP hD (hq2) (hnd)
              have hP : va_P (dC, dI) vcl ([(ts, .inr (9, [.ref tp, .long mk, .long dw, .int kt])), (tp, .inl ((cT 4), 6, .inr (.inr (.inr (.inr gt)))))] ++ va_pl L (va_up F q2 (.inr (8, [.int x1, .long xm, .int x2, .int x3, .int x4, .int x5, .ref (ro q2)])))) H := hP
              have hD : va_D A ([(ts, .inr (9, [.ref tp, .long mk, .long dw, .int kt])), (tp, .inl ((cT 4), 6, .inr (.inr (.inr (.inr gt)))))] ++ va_pl L (va_up F q2 (.inr (8, [.int x1, .long xm, .int x2, .int x3, .int x4, .int x5, .ref (ro q2)])))) := hD
              rw [up_id hFq] at hP hD
              have hP : va_P (dC, dI) vcl ([(ts, .inr (9, [.ref tp, .long mk, .long dw, .int kt])), (tp, .inl ((cT 4), 6, .inr (.inr (.inr (.inr gt)))))] ++ va_pl L F) H := hP
              have hD : va_D A ([(ts, .inr (9, [.ref tp, .long mk, .long dw, .int kt])), (tp, .inl ((cT 4), 6, .inr (.inr (.inr (.inr gt)))))] ++ va_pl L F) := hD
              refine lv_iinc (k := 0) (v := nI (i + 1)) (lv' := [(2, .int (nI (i + 1))), (1, .ref q), (0, .ref ts)]) hx hb d_Ts_freePlace_68 hl rfl (nI_1 i) (by decide) rfl (fun ls hl => ?_)
              refine lv_goto (tgt := 9) hx hb d_Ts_freePlace_71 (by decide) ?_
              have hl := lv_sub hl [0, 1, 2] (show _ = [(2, .int (nI (i + 1))), (1, .ref q), (0, .ref ts)] from rfl)
              exact ih (i + 1) q _ _ _ (by omega) (by omega) (hq) hP hD hS hl
            · skip
              refine lv_aload_n hx hb d_Ts_freePlace_61 rfl (lv_at hl 2 rfl) ?_
              refine va_get (D := (dC, dI)) (ci := 9) (v := (.ref tp)) (C := R_Ts) (T := F_Ts) (N := 4) hx hb hg in_Ts hown hK hP 0 rfl rfl 0 (by decide) (hg _ k_231) (fun _ h9 => h9) rfl d_Ts_freePlace_62 ?_
              refine lv_iload_n hx hb d_Ts_freePlace_65 rfl (lv_at hl 0 rfl) ?_
              refine va_aldq hx hb hK hP 1 4 rfl rfl (i := (nI i)) (vp_in_nI (N := 6) (by omega) (by decide)) d_Ts_freePlace_66 ?_
              rw [show va_rf (gt (nI i).toNatClampNeg) = .ref q2 from by rw [nI_clamp (by omega), hq1]; rfl]
              refine lv_astore_n (lv' := [(1, .ref q2), (2, .int (nI i)), (0, .ref ts)]) hx hb d_Ts_freePlace_67 rfl hl (by decide) rfl (fun ls hl => ?_)
              obtain ⟨hP, hD⟩ := pl_in (X := [(ts, .inr (9, [.ref tp, .long mk, .long dw, .int kt])), (tp, .inl ((cT 4), 6, .inr (.inr (.inr (.inr gt))))), (q2, .inr (8, [.int x1, .long xm, .int x2, .int x3, .int x4, .int x5, .ref (ro q2)]))]) hP hD ((List.mem_erase_of_ne (fun h9 => hqq h9.symm)).mpr hq.1) (hnd.erase q2)
              have hP : va_P (dC, dI) vcl ([(ts, .inr (9, [.ref tp, .long mk, .long dw, .int kt])), (tp, .inl ((cT 4), 6, .inr (.inr (.inr (.inr gt))))), (q2, .inr (8, [.int x1, .long xm, .int x2, .int x3, .int x4, .int x5, .ref (ro q2)]))] ++ va_pl (L.erase q2) (va_up F q (.inr (8, [.int o1, .long om, .int o2, .int o3, .int o4, .int o5, .ref (ro q)])))) H := hP
              have hD : va_D A ([(ts, .inr (9, [.ref tp, .long mk, .long dw, .int kt])), (tp, .inl ((cT 4), 6, .inr (.inr (.inr (.inr gt))))), (q2, .inr (8, [.int x1, .long xm, .int x2, .int x3, .int x4, .int x5, .ref (ro q2)]))] ++ va_pl (L.erase q2) (va_up F q (.inr (8, [.int o1, .long om, .int o2, .int o3, .int o4, .int o5, .ref (ro q)])))) := hD
              rw [up_id hFo] at hP hD
              have hP : va_P (dC, dI) vcl ([(ts, .inr (9, [.ref tp, .long mk, .long dw, .int kt])), (tp, .inl ((cT 4), 6, .inr (.inr (.inr (.inr gt))))), (q2, .inr (8, [.int x1, .long xm, .int x2, .int x3, .int x4, .int x5, .ref (ro q2)]))] ++ va_pl (L.erase q2) F) H := hP
              have hD : va_D A ([(ts, .inr (9, [.ref tp, .long mk, .long dw, .int kt])), (tp, .inl ((cT 4), 6, .inr (.inr (.inr (.inr gt))))), (q2, .inr (8, [.int x1, .long xm, .int x2, .int x3, .int x4, .int x5, .ref (ro q2)]))] ++ va_pl (L.erase q2) F) := hD
              obtain ⟨hP, hD⟩ := pl_in (X := [(ts, .inr (9, [.ref tp, .long mk, .long dw, .int kt])), (tp, .inl ((cT 4), 6, .inr (.inr (.inr (.inr gt)))))]) hP hD (hq2) (hnd)
              have hP : va_P (dC, dI) vcl ([(ts, .inr (9, [.ref tp, .long mk, .long dw, .int kt])), (tp, .inl ((cT 4), 6, .inr (.inr (.inr (.inr gt)))))] ++ va_pl L (va_up F q2 (.inr (8, [.int x1, .long xm, .int x2, .int x3, .int x4, .int x5, .ref (ro q2)])))) H := hP
              have hD : va_D A ([(ts, .inr (9, [.ref tp, .long mk, .long dw, .int kt])), (tp, .inl ((cT 4), 6, .inr (.inr (.inr (.inr gt)))))] ++ va_pl L (va_up F q2 (.inr (8, [.int x1, .long xm, .int x2, .int x3, .int x4, .int x5, .ref (ro q2)])))) := hD
              rw [up_id hFq] at hP hD
              have hP : va_P (dC, dI) vcl ([(ts, .inr (9, [.ref tp, .long mk, .long dw, .int kt])), (tp, .inl ((cT 4), 6, .inr (.inr (.inr (.inr gt)))))] ++ va_pl L F) H := hP
              have hD : va_D A ([(ts, .inr (9, [.ref tp, .long mk, .long dw, .int kt])), (tp, .inl ((cT 4), 6, .inr (.inr (.inr (.inr gt)))))] ++ va_pl L F) := hD
              refine lv_iinc (k := 1) (v := nI (i + 1)) (lv' := [(2, .int (nI (i + 1))), (1, .ref q2), (0, .ref ts)]) hx hb d_Ts_freePlace_68 hl rfl (nI_1 i) (by decide) rfl (fun ls hl => ?_)
              refine lv_goto (tgt := 9) hx hb d_Ts_freePlace_71 (by decide) ?_
              have hl := lv_sub hl [0, 1, 2] (show _ = [(2, .int (nI (i + 1))), (1, .ref q2), (0, .ref ts)] from rfl)
              exact ih (i + 1) q2 _ _ _ (by omega) (by omega) (⟨hq2, hq3⟩) hP hD hS hl
        · skip
          refine lv_aload_n hx hb d_Ts_freePlace_27 rfl (lv_at hl 2 rfl) ?_
          refine lv_dup hx hb d_Ts_freePlace_28 rfl ?_
          refine va_get (D := (dC, dI)) (ci := 9) (v := (.int kt)) (C := R_Ts) (T := F_Ts) (N := 4) hx hb hg in_Ts hown hK hP 0 rfl rfl 3 (by decide) (hg _ k_234) (fun _ h9 => h9) rfl d_Ts_freePlace_29 ?_
          refine lv_iconst (v := 1) hx hb d_Ts_freePlace_32 (by decide) ?_
          refine lv_iadd hx hb d_Ts_freePlace_33 ?_
          refine va_put (D := (dC, dI)) (ci := 9) (v := (.int (kt + 1))) (ty := .int) (C := R_Ts) (T := F_Ts) (N := 4) hx hb hg in_Ts t_Ts tok_Ts nm_Ts hown hK hP hD hS 0 rfl rfl 3 (by decide) (hg _ k_234) (fun _ h9 => h9) rfl (by decide +kernel) rfl rfl (Nat.le_of_ble_eq_true rfl) d_Ts_freePlace_34 (fun H locs hP hD hS => ?_)
          have hP : va_P (dC, dI) vcl ([(ts, .inr (9, [.ref tp, .long mk, .long dw, .int (kt + 1)])), (tp, .inl ((cT 4), 6, .inr (.inr (.inr (.inr gt))))), (q2, .inr (8, [.int x1, .long xm, .int x2, .int x3, .int x4, .int x5, .ref (ro q2)]))] ++ va_pl (L.erase q2) F) H := hP
          have hD : va_D A ([(ts, .inr (9, [.ref tp, .long mk, .long dw, .int (kt + 1)])), (tp, .inl ((cT 4), 6, .inr (.inr (.inr (.inr gt))))), (q2, .inr (8, [.int x1, .long xm, .int x2, .int x3, .int x4, .int x5, .ref (ro q2)]))] ++ va_pl (L.erase q2) F) := hD
          refine lv_aload_n hx hb d_Ts_freePlace_37 rfl (lv_at hl 2 rfl) ?_
          refine va_get (D := (dC, dI)) (ci := 9) (v := (.ref tp)) (C := R_Ts) (T := F_Ts) (N := 4) hx hb hg in_Ts hown hK hP 0 rfl rfl 0 (by decide) (hg _ k_231) (fun _ h9 => h9) rfl d_Ts_freePlace_38 ?_
          refine lv_iload_n hx hb d_Ts_freePlace_41 rfl (lv_at hl 0 rfl) ?_
          refine va_aldq hx hb hK hP 1 4 rfl rfl (i := (nI i)) (vp_in_nI (N := 6) (by omega) (by decide)) d_Ts_freePlace_42 ?_
          rw [show va_rf (gt (nI i).toNatClampNeg) = .ref q2 from by rw [nI_clamp (by omega), hq1]; rfl]
          obtain ⟨hP, hD⟩ := pl_in (X := [(ts, .inr (9, [.ref tp, .long mk, .long dw, .int (kt + 1)])), (tp, .inl ((cT 4), 6, .inr (.inr (.inr (.inr gt)))))]) hP hD (hq2) (hnd)
          have hP : va_P (dC, dI) vcl ([(ts, .inr (9, [.ref tp, .long mk, .long dw, .int (kt + 1)])), (tp, .inl ((cT 4), 6, .inr (.inr (.inr (.inr gt)))))] ++ va_pl L (va_up F q2 (.inr (8, [.int x1, .long xm, .int x2, .int x3, .int x4, .int x5, .ref (ro q2)])))) H := hP
          have hD : va_D A ([(ts, .inr (9, [.ref tp, .long mk, .long dw, .int (kt + 1)])), (tp, .inl ((cT 4), 6, .inr (.inr (.inr (.inr gt)))))] ++ va_pl L (va_up F q2 (.inr (8, [.int x1, .long xm, .int x2, .int x3, .int x4, .int x5, .ref (ro q2)])))) := hD
          rw [up_id hFq] at hP hD
          have hP : va_P (dC, dI) vcl ([(ts, .inr (9, [.ref tp, .long mk, .long dw, .int (kt + 1)])), (tp, .inl ((cT 4), 6, .inr (.inr (.inr (.inr gt)))))] ++ va_pl L F) H := hP
          have hD : va_D A ([(ts, .inr (9, [.ref tp, .long mk, .long dw, .int (kt + 1)])), (tp, .inl ((cT 4), 6, .inr (.inr (.inr (.inr gt)))))] ++ va_pl L F) := hD
          have hl := lv_sub hl [1, 2] (show _ = [(1, .ref q), (0, .ref ts)] from rfl)
          exact ex1 q q2 _ _ _ (⟨hq2, hq3⟩) hP hD hS hl
  refine L3 _ (fun q H locs ls hq hP hD hS hl => ?_) (fun q q2 H locs ls hq hP hD hS hl => ?_) (6 - 0) 0 q s.heap _ ls (Nat.le_refl _) (by decide) (⟨hq2, hq3⟩) hP hD hS hl
  · skip
    refine lv_aload_n hx hb d_Ts_freePlace_74 rfl (lv_at hl 0 rfl) ?_
    have hP9 := hP.part (cx := [(ts, .inr (9, [.ref tp, .long mk, .long dw, .int kt])), (tp, .inl ((cT 4), 6, .inr (.inr (.inr (.inr gt)))))]) [0, 1] rfl
    have hD9 := hD.part (cx := [(ts, .inr (9, [.ref tp, .long mk, .long dw, .int kt])), (tp, .inl ((cT 4), 6, .inr (.inr (.inr (.inr gt)))))]) [0, 1] (by decide) rfl
    exact W.aret (v := .ref q) hx hb hr (by first | exact Or.inr ⟨_, rfl⟩ | exact Or.inl ⟨_, rfl⟩) (Or.inr ⟨_, rfl⟩) (fun t ht hW => ⟨⟨(some q), kt, rfl, ⟨q, rfl, hq.1, hq.2⟩, by rw [ht]; exact hP9, va_K.moved hW.alike hK, hD9⟩, hS.F ht⟩) hS.2.2 d_Ts_freePlace_75
  · skip
    have hP9 := hP.part (cx := [(ts, .inr (9, [.ref tp, .long mk, .long dw, .int (kt + 1)])), (tp, .inl ((cT 4), 6, .inr (.inr (.inr (.inr gt)))))]) [0, 1] rfl
    have hD9 := hD.part (cx := [(ts, .inr (9, [.ref tp, .long mk, .long dw, .int (kt + 1)])), (tp, .inl ((cT 4), 6, .inr (.inr (.inr (.inr gt)))))]) [0, 1] (by decide) rfl
    exact W.aret (v := .ref q2) hx hb hr (by first | exact Or.inr ⟨_, rfl⟩ | exact Or.inl ⟨_, rfl⟩) (Or.inr ⟨_, rfl⟩) (fun t ht hW => ⟨⟨(some q2), kt + 1, rfl, ⟨q2, rfl, hq.1, hq.2⟩, by rw [ht]; exact hP9, va_K.moved hW.alike hK, hD9⟩, hS.F ht⟩) hS.2.2 d_Ts_freePlace_43
set_option maxHeartbeats 4000000 in
set_option maxRecDepth 100000 in
/-- give -/
theorem c_Ts_give (l : Launch) (dC : Nat → ClassId) (dI : Nat → Nat → Nat) (cT : Nat → ClassId) (sz : Nat) (ts : Nat) (tp : Nat) (mk : Int64) (dw : Int64) (kt : Int32) (gt : Nat → Option Nat) (L : List Nat) (F : Nat → va_E) (kd : Nat → Nat) (si : Nat → Nat) (ro : Nat → Nat) (rb : Nat → Nat) (x : Int32) (y : Int32) (z : Int32) (tm : Int32) (hg8 : ∀ i9, i9 < 6 → ∃ q9, gt i9 = some q9 ∧ q9 ∈ L ∧ kd q9 = 8) (hnd : L.Nodup) (hsh : SHP L kd si ro rb) (hF : PLS cT kd si ro rb L F) : Met l y_Ts_give (Cond.code y_Ts_give b_Ts_give 7 (Option.some (Jvm.ClassFile.FieldType.object "DoorServer$Trial")) :: BIG) ({ frames := 1, cells := 0, slots := 0, locals := 30 }) (va_Pc [.ref ts, .int x, .int y, .int z, .int tm] (fun U => U.heap.size = sz ∧ va_P (dC, dI) vcl ([(ts, .inr (9, [.ref tp, .long mk, .long dw, .int kt])), (tp, .inl ((cT 4), 6, .inr (.inr (.inr (.inr gt)))))] ++ va_pl L F) U.heap ∧ va_K (dC, dI) vcl (tyL cT) U ∧ va_D (fun _ => True) ([(ts, .inr (9, [.ref tp, .long mk, .long dw, .int kt])), (tp, .inl ((cT 4), 6, .inr (.inr (.inr (.inr gt)))))] ++ va_pl L F))) (va_Qq (S := Int64 × Int32 × (Nat → va_E)) (fun rv9 u => match u with | (dw2, kt2, F2) => PLS cT kd si ro rb L F2 ∧ ∃ q9, rv9 = some q9 ∧ q9 ∈ L ∧ kd q9 = 8) (fun u t => match u with | (dw2, kt2, F2) => va_P (dC, dI) vcl ([(ts, .inr (9, [.ref tp, .long (mk + 1), .long dw2, .int kt2])), (tp, .inl ((cT 4), 6, .inr (.inr (.inr (.inr gt)))))] ++ va_pl L F2) t.heap ∧ va_K (dC, dI) vcl (tyL cT) t ∧ va_D (va_A ([(ts, .inr (9, [.ref tp, .long mk, .long dw, .int kt])), (tp, .inl ((cT 4), 6, .inr (.inr (.inr (.inr gt)))))] ++ va_pl L F) sz) ([(ts, .inr (9, [.ref tp, .long (mk + 1), .long dw2, .int kt2])), (tp, .inl ((cT 4), 6, .inr (.inr (.inr (.inr gt)))))] ++ va_pl L F2)) (va_A ([(ts, .inr (9, [.ref tp, .long mk, .long dw, .int kt])), (tp, .inl ((cT 4), 6, .inr (.inr (.inr (.inr gt)))))] ++ va_pl L F) sz)) 0 0 (va_A ([(ts, .inr (9, [.ref tp, .long mk, .long dw, .int kt])), (tp, .inl ((cT 4), 6, .inr (.inr (.inr (.inr gt)))))] ++ va_pl L F) sz) := by
  refine Met.ofW (cc := b_Ts_give) (maxL := 7) (ret := (Option.some (Jvm.ClassFile.FieldType.object "DoorServer$Trial"))) (by decide) rfl ?_
  intro p e s m args below meth c s₁ B hml hv
  obtain ⟨hargs, hsz, hP, hK, hD0⟩ := hv
  have hx := B.exec
  have hb := B.bytes
  have hr := B.returns
  have hts := atoms_spec (ws := (Cond.code y_Ts_give b_Ts_give 7 (Option.some (Jvm.ClassFile.FieldType.object "DoorServer$Trial")) :: BIG)) B.pre
  have hg : ∀ w ∈ BIG, w.before _ s = true := fun w h => hts w (List.mem_cons_of_mem _ h)
  have hown : s.vm.findClass "DoorServer$Trials" = some m.cls := findClass_of_methodNamed B.named
  have hlocks := B.notSynchronized
  subst hsz
  have hD := hD0.self (sz := s.heap.size)
  generalize hAe : va_A ([(ts, .inr (9, [.ref tp, .long mk, .long dw, .int kt])), (tp, .inl ((cT 4), 6, .inr (.inr (.inr (.inr gt)))))] ++ va_pl L F) s.heap.size = A at hD ⊢
  have hA : ∀ q : Nat, s.heap.size ≤ q → A q := fun q h => by rw [← hAe]; exact Or.inr h
  have hS : va_S A s.heap s.heap [] := va_S.rf
  have hl := lv_entry ([.ref ts, .int x, .int y, .int z, .int tm]) (n := 7) (Nat.le_of_ble_eq_true rfl)
  refine W.eq (g2 := entryFrame m (List.toArray [.ref ts, .int x, .int y, .int z, .int tm]) 7) (by rw [hargs]) ?_
  rw [lg_entry_eq]
  generalize (lg_sl ([.ref ts, .int x, .int y, .int z, .int tm]) ++ List.replicate (7 - (lg_sl ([.ref ts, .int x, .int y, .int z, .int tm])).length) Slot.unset).toArray = ls at hl ⊢
  have hl : lv_has ls 7 [(0, .ref ts), (1, .int x), (2, .int y), (3, .int z), (4, .int tm)] := hl
  change W p l e ({ frames := 1, cells := 0, slots := 0, locals := 30 } : Room) s m args below meth c s.heap [] 0 0 _ _
  have hP : va_P (dC, dI) vcl ([(ts, .inr (9, [.ref tp, .long mk, .long dw, .int kt])), (tp, .inl ((cT 4), 6, .inr (.inr (.inr (.inr gt)))))] ++ va_pl L F) s.heap := hP
  refine lv_aload_n hx hb d_Ts_give_0 rfl (lv_at hl 0 rfl) ?_
  have hPc := hP.part (cx := [(ts, .inr (9, [.ref tp, .long mk, .long dw, .int kt])), (tp, .inl ((cT 4), 6, .inr (.inr (.inr (.inr gt)))))]) [0, 1] rfl
  have hDc := hD.part (cx := [(ts, .inr (9, [.ref tp, .long mk, .long dw, .int kt])), (tp, .inl ((cT 4), 6, .inr (.inr (.inr (.inr gt)))))]) [0, 1] (by decide) rfl
  have hFc := va_freeP (cx := [(ts, .inr (9, [.ref tp, .long mk, .long dw, .int kt])), (tp, .inl ((cT 4), 6, .inr (.inr (.inr (.inr gt)))))]) hD hS hA [0, 1] rfl
  refine va_callq (va_runV (C := "DoorServer$Trials") (As := []) (rest := []) ⟨hx, hb, hml, hown, hg⟩ (c_Ts_free l dC dI cT s.heap.size ts tp mk dw kt gt L F kd si ro rb (hg8) (hnd) (hsh) (hF)) (cwV 0 hg (gI (List.forall_mem_append.mpr ⟨List.forall_mem_cons.mpr ⟨k_835, List.forall_mem_cons.mpr ⟨k_837, List.forall_mem_cons.mpr ⟨(big_sel (q := y_Ts_freePlace) (n := 4) (by decide +kernel)), List.forall_mem_cons.mpr ⟨k_8, fun _ h => absurd h List.not_mem_nil⟩⟩⟩⟩, List.forall_mem_cons.mpr ⟨k_838, fun _ h => h⟩⟩)) rfl rfl rfl (by decide +kernel) ⟨Nat.le_of_ble_eq_true rfl, Nat.le_of_ble_eq_true rfl⟩) ⟨fun a U g mk q => by obtain ⟨q0, q1, qP, qK, qD⟩ := q; exact ⟨q0, q1, qP, va_K.moved (u := U) (U := U.calling g mk a) (Vm.Alike.refl U.vm) qK, qD⟩, va_recv (q0 := 0) (ci := 9) hK hP rfl rfl, fun U hU hW => ⟨rfl, by rw [hU], by rw [hU]; exact hPc, va_K.moved hW.alike hK, hDc.weaken (fun _ _ _ _ => trivial)⟩⟩ rfl rfl hl.1 rfl (lv_room (Nat.le_of_ble_eq_true rfl)) d_Ts_give_1 ⟨Nat.le_of_ble_eq_true rfl, Nat.le_of_ble_eq_true rfl⟩) hS (fun q _ h => hFc q h) hFc (fun rv9 u t H1 locs ht hvm hw hB hz1 hk1 hS => ?_)
  obtain ⟨kt2_13, rfl⟩ : ∃ z, z = u := ⟨_, rfl⟩
  try dsimp only at hw hB
  obtain ⟨hP1, hK1, hD1⟩ := hB
  rw [ht] at hP1
  obtain ⟨hP, hD⟩ := va_joinP (X := [(ts, .inr (9, [.ref tp, .long mk, .long dw, .int kt])), (tp, .inl ((cT 4), 6, .inr (.inr (.inr (.inr gt)))))]) (cx := [(ts, .inr (9, [.ref tp, .long mk, .long dw, .int kt])), (tp, .inl ((cT 4), 6, .inr (.inr (.inr (.inr gt)))))]) (wr := []) (rx := [(ts, .inr (9, [.ref tp, .long mk, .long dw, .int kt2_13])), (tp, .inl ((cT 4), 6, .inr (.inr (.inr (.inr gt)))))]) hP hD [0, 1] [] rfl rfl (by decide) (by decide) hk1 hFc hP1 hD1
  have hw14 := hw
  clear hPc hDc hFc hz1 hk1 hP1 hK1 hD1
  generalize H1 = H at hP hS ⊢
  have hP : va_P (dC, dI) vcl ([(ts, .inr (9, [.ref tp, .long mk, .long dw, .int kt2_13])), (tp, .inl ((cT 4), 6, .inr (.inr (.inr (.inr gt)))))] ++ va_pl L F) H := hP
  have hD : va_D A ([(ts, .inr (9, [.ref tp, .long mk, .long dw, .int kt2_13])), (tp, .inl ((cT 4), 6, .inr (.inr (.inr (.inr gt)))))] ++ va_pl L F) := hD
  obtain ⟨q, rfl, hq2, hq3⟩ := hw14
  refine W.eq (g2 := F0 m 4 ls [.ref q]) rfl ?_
  obtain ⟨x1, xm, x2, x3, x4, x5, hFq⟩ := (hF q hq2).2.2.2.1 hq3
  obtain ⟨a1, a2, a3⟩ := (hsh q hq2).2.2.1 hq3
  obtain ⟨fk, hFa, hba⟩ := (hF (ro q) a1).1 a2
  have ne1 : ro q ≠ q := kd_ne (kd := kd) (by omega)
  obtain ⟨hP, hD⟩ := pl_out (X := [(ts, .inr (9, [.ref tp, .long mk, .long dw, .int kt2_13])), (tp, .inl ((cT 4), 6, .inr (.inr (.inr (.inr gt)))))]) hP hD (hq2) (hFq)
  have hP : va_P (dC, dI) vcl ([(ts, .inr (9, [.ref tp, .long mk, .long dw, .int kt2_13])), (tp, .inl ((cT 4), 6, .inr (.inr (.inr (.inr gt))))), (q, .inr (8, [.int x1, .long xm, .int x2, .int x3, .int x4, .int x5, .ref (ro q)]))] ++ va_pl (L.erase q) F) H := hP
  have hD : va_D A ([(ts, .inr (9, [.ref tp, .long mk, .long dw, .int kt2_13])), (tp, .inl ((cT 4), 6, .inr (.inr (.inr (.inr gt))))), (q, .inr (8, [.int x1, .long xm, .int x2, .int x3, .int x4, .int x5, .ref (ro q)]))] ++ va_pl (L.erase q) F) := hD
  obtain ⟨hP, hD⟩ := pl_out (X := [(ts, .inr (9, [.ref tp, .long mk, .long dw, .int kt2_13])), (tp, .inl ((cT 4), 6, .inr (.inr (.inr (.inr gt))))), (q, .inr (8, [.int x1, .long xm, .int x2, .int x3, .int x4, .int x5, .ref (ro q)]))]) hP hD ((List.mem_erase_of_ne ne1).mpr a1) (hFa)
  have hP : va_P (dC, dI) vcl ([(ts, .inr (9, [.ref tp, .long mk, .long dw, .int kt2_13])), (tp, .inl ((cT 4), 6, .inr (.inr (.inr (.inr gt))))), (q, .inr (8, [.int x1, .long xm, .int x2, .int x3, .int x4, .int x5, .ref (ro q)])), (ro q, .inl ((cT 0), si (ro q), .inl fk))] ++ va_pl ((L.erase q).erase (ro q)) F) H := hP
  have hD : va_D A ([(ts, .inr (9, [.ref tp, .long mk, .long dw, .int kt2_13])), (tp, .inl ((cT 4), 6, .inr (.inr (.inr (.inr gt))))), (q, .inr (8, [.int x1, .long xm, .int x2, .int x3, .int x4, .int x5, .ref (ro q)])), (ro q, .inl ((cT 0), si (ro q), .inl fk))] ++ va_pl ((L.erase q).erase (ro q)) F) := hD
  refine lv_astore (lv' := [(5, .ref q), (0, .ref ts), (1, .int x), (2, .int y), (3, .int z), (4, .int tm)]) hx hb d_Ts_give_4 hl (by decide) rfl (fun ls hl => ?_)
  refine lv_aload_n hx hb d_Ts_give_6 rfl (lv_at hl 1 rfl) ?_
  refine lv_dup hx hb d_Ts_give_7 rfl ?_
  refine va_get (D := (dC, dI)) (ci := 9) (v := (.long mk)) (C := R_Ts) (T := F_Ts) (N := 4) hx hb hg in_Ts hown hK hP 0 rfl rfl 1 (by decide) (hg _ k_232) (fun _ h9 => h9) rfl d_Ts_give_8 ?_
  refine lv_lconst (v := 1) hx hb d_Ts_give_11 (by decide) ?_
  refine lv_ladd hx hb d_Ts_give_12 ?_
  refine va_put (D := (dC, dI)) (ci := 9) (v := (.long (mk + 1))) (ty := .long) (C := R_Ts) (T := F_Ts) (N := 4) hx hb hg in_Ts t_Ts tok_Ts nm_Ts hown hK hP hD hS 0 rfl rfl 1 (by decide) (hg _ k_232) (fun _ h9 => h9) rfl (by decide +kernel) rfl rfl (Nat.le_of_ble_eq_true rfl) d_Ts_give_13 (fun H locs hP hD hS => ?_)
  have hP : va_P (dC, dI) vcl ([(ts, .inr (9, [.ref tp, .long (mk + 1), .long dw, .int kt2_13])), (tp, .inl ((cT 4), 6, .inr (.inr (.inr (.inr gt))))), (q, .inr (8, [.int x1, .long xm, .int x2, .int x3, .int x4, .int x5, .ref (ro q)])), (ro q, .inl ((cT 0), si (ro q), .inl fk))] ++ va_pl ((L.erase q).erase (ro q)) F) H := hP
  have hD : va_D A ([(ts, .inr (9, [.ref tp, .long (mk + 1), .long dw, .int kt2_13])), (tp, .inl ((cT 4), 6, .inr (.inr (.inr (.inr gt))))), (q, .inr (8, [.int x1, .long xm, .int x2, .int x3, .int x4, .int x5, .ref (ro q)])), (ro q, .inl ((cT 0), si (ro q), .inl fk))] ++ va_pl ((L.erase q).erase (ro q)) F) := hD
  refine lv_aload hx hb d_Ts_give_16 (lv_at hl 0 rfl) ?_
  refine lv_iconst (v := 1) hx hb d_Ts_give_18 (by decide) ?_
  refine va_put (D := (dC, dI)) (ci := 8) (v := (.int 1)) (ty := .boolean) (C := R_Tl) (T := F_Tl) (N := 7) hx hb hg in_Tl t_Tl tok_Tl nm_Tl hown hK hP hD hS 2 rfl rfl 0 (by decide) (hg _ k_204) (fun _ h9 => h9) rfl (by decide +kernel) rfl rfl (Nat.le_of_ble_eq_true rfl) d_Ts_give_19 (fun H locs hP hD hS => ?_)
  have hP : va_P (dC, dI) vcl ([(ts, .inr (9, [.ref tp, .long (mk + 1), .long dw, .int kt2_13])), (tp, .inl ((cT 4), 6, .inr (.inr (.inr (.inr gt))))), (q, .inr (8, [.int 1, .long xm, .int x2, .int x3, .int x4, .int x5, .ref (ro q)])), (ro q, .inl ((cT 0), si (ro q), .inl fk))] ++ va_pl ((L.erase q).erase (ro q)) F) H := hP
  have hD : va_D A ([(ts, .inr (9, [.ref tp, .long (mk + 1), .long dw, .int kt2_13])), (tp, .inl ((cT 4), 6, .inr (.inr (.inr (.inr gt))))), (q, .inr (8, [.int 1, .long xm, .int x2, .int x3, .int x4, .int x5, .ref (ro q)])), (ro q, .inl ((cT 0), si (ro q), .inl fk))] ++ va_pl ((L.erase q).erase (ro q)) F) := hD
  refine lv_aload hx hb d_Ts_give_22 (lv_at hl 0 rfl) ?_
  refine lv_aload_n hx hb d_Ts_give_24 rfl (lv_at hl 1 rfl) ?_
  refine va_get (D := (dC, dI)) (ci := 9) (v := (.long (mk + 1))) (C := R_Ts) (T := F_Ts) (N := 4) hx hb hg in_Ts hown hK hP 0 rfl rfl 1 (by decide) (hg _ k_232) (fun _ h9 => h9) rfl d_Ts_give_25 ?_
  refine va_put (D := (dC, dI)) (ci := 8) (v := (.long (mk + 1))) (ty := .long) (C := R_Tl) (T := F_Tl) (N := 7) hx hb hg in_Tl t_Tl tok_Tl nm_Tl hown hK hP hD hS 2 rfl rfl 1 (by decide) (hg _ k_205) (fun _ h9 => h9) rfl (by decide +kernel) rfl rfl (Nat.le_of_ble_eq_true rfl) d_Ts_give_28 (fun H locs hP hD hS => ?_)
  have hP : va_P (dC, dI) vcl ([(ts, .inr (9, [.ref tp, .long (mk + 1), .long dw, .int kt2_13])), (tp, .inl ((cT 4), 6, .inr (.inr (.inr (.inr gt))))), (q, .inr (8, [.int 1, .long (mk + 1), .int x2, .int x3, .int x4, .int x5, .ref (ro q)])), (ro q, .inl ((cT 0), si (ro q), .inl fk))] ++ va_pl ((L.erase q).erase (ro q)) F) H := hP
  have hD : va_D A ([(ts, .inr (9, [.ref tp, .long (mk + 1), .long dw, .int kt2_13])), (tp, .inl ((cT 4), 6, .inr (.inr (.inr (.inr gt))))), (q, .inr (8, [.int 1, .long (mk + 1), .int x2, .int x3, .int x4, .int x5, .ref (ro q)])), (ro q, .inl ((cT 0), si (ro q), .inl fk))] ++ va_pl ((L.erase q).erase (ro q)) F) := hD
  refine lv_aload hx hb d_Ts_give_31 (lv_at hl 0 rfl) ?_
  refine lv_iload_n hx hb d_Ts_give_33 rfl (lv_at hl 2 rfl) ?_
  refine va_put (D := (dC, dI)) (ci := 8) (v := (.int x)) (ty := .int) (C := R_Tl) (T := F_Tl) (N := 7) hx hb hg in_Tl t_Tl tok_Tl nm_Tl hown hK hP hD hS 2 rfl rfl 2 (by decide) (hg _ k_207) (fun _ h9 => h9) rfl (by decide +kernel) rfl rfl (Nat.le_of_ble_eq_true rfl) d_Ts_give_34 (fun H locs hP hD hS => ?_)
  have hP : va_P (dC, dI) vcl ([(ts, .inr (9, [.ref tp, .long (mk + 1), .long dw, .int kt2_13])), (tp, .inl ((cT 4), 6, .inr (.inr (.inr (.inr gt))))), (q, .inr (8, [.int 1, .long (mk + 1), .int x, .int x3, .int x4, .int x5, .ref (ro q)])), (ro q, .inl ((cT 0), si (ro q), .inl fk))] ++ va_pl ((L.erase q).erase (ro q)) F) H := hP
  have hD : va_D A ([(ts, .inr (9, [.ref tp, .long (mk + 1), .long dw, .int kt2_13])), (tp, .inl ((cT 4), 6, .inr (.inr (.inr (.inr gt))))), (q, .inr (8, [.int 1, .long (mk + 1), .int x, .int x3, .int x4, .int x5, .ref (ro q)])), (ro q, .inl ((cT 0), si (ro q), .inl fk))] ++ va_pl ((L.erase q).erase (ro q)) F) := hD
  refine lv_aload hx hb d_Ts_give_37 (lv_at hl 0 rfl) ?_
  refine lv_iload_n hx hb d_Ts_give_39 rfl (lv_at hl 3 rfl) ?_
  refine va_put (D := (dC, dI)) (ci := 8) (v := (.int y)) (ty := .int) (C := R_Tl) (T := F_Tl) (N := 7) hx hb hg in_Tl t_Tl tok_Tl nm_Tl hown hK hP hD hS 2 rfl rfl 3 (by decide) (hg _ k_208) (fun _ h9 => h9) rfl (by decide +kernel) rfl rfl (Nat.le_of_ble_eq_true rfl) d_Ts_give_40 (fun H locs hP hD hS => ?_)
  have hP : va_P (dC, dI) vcl ([(ts, .inr (9, [.ref tp, .long (mk + 1), .long dw, .int kt2_13])), (tp, .inl ((cT 4), 6, .inr (.inr (.inr (.inr gt))))), (q, .inr (8, [.int 1, .long (mk + 1), .int x, .int y, .int x4, .int x5, .ref (ro q)])), (ro q, .inl ((cT 0), si (ro q), .inl fk))] ++ va_pl ((L.erase q).erase (ro q)) F) H := hP
  have hD : va_D A ([(ts, .inr (9, [.ref tp, .long (mk + 1), .long dw, .int kt2_13])), (tp, .inl ((cT 4), 6, .inr (.inr (.inr (.inr gt))))), (q, .inr (8, [.int 1, .long (mk + 1), .int x, .int y, .int x4, .int x5, .ref (ro q)])), (ro q, .inl ((cT 0), si (ro q), .inl fk))] ++ va_pl ((L.erase q).erase (ro q)) F) := hD
  refine lv_aload hx hb d_Ts_give_43 (lv_at hl 0 rfl) ?_
  refine lv_iload_n hx hb d_Ts_give_45 rfl (lv_at hl 4 rfl) ?_
  refine va_put (D := (dC, dI)) (ci := 8) (v := (.int z)) (ty := .int) (C := R_Tl) (T := F_Tl) (N := 7) hx hb hg in_Tl t_Tl tok_Tl nm_Tl hown hK hP hD hS 2 rfl rfl 4 (by decide) (hg _ k_209) (fun _ h9 => h9) rfl (by decide +kernel) rfl rfl (Nat.le_of_ble_eq_true rfl) d_Ts_give_46 (fun H locs hP hD hS => ?_)
  have hP : va_P (dC, dI) vcl ([(ts, .inr (9, [.ref tp, .long (mk + 1), .long dw, .int kt2_13])), (tp, .inl ((cT 4), 6, .inr (.inr (.inr (.inr gt))))), (q, .inr (8, [.int 1, .long (mk + 1), .int x, .int y, .int z, .int x5, .ref (ro q)])), (ro q, .inl ((cT 0), si (ro q), .inl fk))] ++ va_pl ((L.erase q).erase (ro q)) F) H := hP
  have hD : va_D A ([(ts, .inr (9, [.ref tp, .long (mk + 1), .long dw, .int kt2_13])), (tp, .inl ((cT 4), 6, .inr (.inr (.inr (.inr gt))))), (q, .inr (8, [.int 1, .long (mk + 1), .int x, .int y, .int z, .int x5, .ref (ro q)])), (ro q, .inl ((cT 0), si (ro q), .inl fk))] ++ va_pl ((L.erase q).erase (ro q)) F) := hD
  refine lv_aload hx hb d_Ts_give_49 (lv_at hl 0 rfl) ?_
  refine lv_iload hx hb d_Ts_give_51 (lv_at hl 5 rfl) ?_
  refine va_put (D := (dC, dI)) (ci := 8) (v := (.int tm)) (ty := .int) (C := R_Tl) (T := F_Tl) (N := 7) hx hb hg in_Tl t_Tl tok_Tl nm_Tl hown hK hP hD hS 2 rfl rfl 5 (by decide) (hg _ k_211) (fun _ h9 => h9) rfl (by decide +kernel) rfl rfl (Nat.le_of_ble_eq_true rfl) d_Ts_give_53 (fun H locs hP hD hS => ?_)
  have hP : va_P (dC, dI) vcl ([(ts, .inr (9, [.ref tp, .long (mk + 1), .long dw, .int kt2_13])), (tp, .inl ((cT 4), 6, .inr (.inr (.inr (.inr gt))))), (q, .inr (8, [.int 1, .long (mk + 1), .int x, .int y, .int z, .int tm, .ref (ro q)])), (ro q, .inl ((cT 0), si (ro q), .inl fk))] ++ va_pl ((L.erase q).erase (ro q)) F) H := hP
  have hD : va_D A ([(ts, .inr (9, [.ref tp, .long (mk + 1), .long dw, .int kt2_13])), (tp, .inl ((cT 4), 6, .inr (.inr (.inr (.inr gt))))), (q, .inr (8, [.int 1, .long (mk + 1), .int x, .int y, .int z, .int tm, .ref (ro q)])), (ro q, .inl ((cT 0), si (ro q), .inl fk))] ++ va_pl ((L.erase q).erase (ro q)) F) := hD
  refine lv_iconst (v := 0) hx hb d_Ts_give_56 (by decide) ?_
  refine lv_istore (lv' := [(6, .int 0), (5, .ref q), (0, .ref ts), (1, .int x), (2, .int y), (3, .int z), (4, .int tm)]) hx hb d_Ts_give_57 hl (by decide) rfl (fun ls hl => ?_)
  have hl := lv_sub hl [0, 1, 2] (show _ = [(6, .int 0), (5, .ref q), (0, .ref ts)] from rfl)
  have L15 : ∀ (Q : State → Prop) (exit : ∀ (d9 : Int64) (fk : Nat → Int32) (H : Heap) (locs : List Loc) (ls : Array Slot), (AB fk) → va_P (dC, dI) vcl ([(ts, .inr (9, [.ref tp, .long (mk + 1), .long d9, .int kt2_13])), (tp, .inl ((cT 4), 6, .inr (.inr (.inr (.inr gt))))), (q, .inr (8, [.int 1, .long (mk + 1), .int x, .int y, .int z, .int tm, .ref (ro q)])), (ro q, .inl ((cT 0), si (ro q), .inl fk))] ++ va_pl ((L.erase q).erase (ro q)) F) H → va_D A ([(ts, .inr (9, [.ref tp, .long (mk + 1), .long d9, .int kt2_13])), (tp, .inl ((cT 4), 6, .inr (.inr (.inr (.inr gt))))), (q, .inr (8, [.int 1, .long (mk + 1), .int x, .int y, .int z, .int tm, .ref (ro q)])), (ro q, .inl ((cT 0), si (ro q), .inl fk))] ++ va_pl ((L.erase q).erase (ro q)) F) → va_S A s.heap H locs → lv_has ls 7 [(6, .int (nI 16)), (5, .ref q), (0, .ref ts)] → W p l e ({ frames := 1, cells := 0, slots := 0, locals := 30 } : Room) s m args below meth c H locs 0 0 Q (F0 m 104 ls [])) (j8 i : Nat) (d9 : Int64) (fk : Nat → Int32) (H : Heap) (locs : List Loc) (ls : Array Slot), i + j8 = 16 → (AB fk) → va_P (dC, dI) vcl ([(ts, .inr (9, [.ref tp, .long (mk + 1), .long d9, .int kt2_13])), (tp, .inl ((cT 4), 6, .inr (.inr (.inr (.inr gt))))), (q, .inr (8, [.int 1, .long (mk + 1), .int x, .int y, .int z, .int tm, .ref (ro q)])), (ro q, .inl ((cT 0), si (ro q), .inl fk))] ++ va_pl ((L.erase q).erase (ro q)) F) H → va_D A ([(ts, .inr (9, [.ref tp, .long (mk + 1), .long d9, .int kt2_13])), (tp, .inl ((cT 4), 6, .inr (.inr (.inr (.inr gt))))), (q, .inr (8, [.int 1, .long (mk + 1), .int x, .int y, .int z, .int tm, .ref (ro q)])), (ro q, .inl ((cT 0), si (ro q), .inl fk))] ++ va_pl ((L.erase q).erase (ro q)) F) → va_S A s.heap H locs → lv_has ls 7 [(6, .int (nI i)), (5, .ref q), (0, .ref ts)] → W p l e ({ frames := 1, cells := 0, slots := 0, locals := 30 } : Room) s m args below meth c H locs 0 0 Q (F0 m 59 ls []) := by
    intro Q exit j8
    induction j8 with
    | zero => 
      intro i d9 fk H locs ls hij hfk hP hD hS hl
      have hij : 16 = i := by omega
      refine lv_iload hx hb d_Ts_give_59 (lv_at hl 0 rfl) ?_
      refine lv_bipush (v := 16) hx hb d_Ts_give_61 (by decide) ?_
      refine lv_topi (fun x17 e16 => ?_)
      obtain rfl : x17 = nI 16 := by rw [e16]; rfl
      refine lv_icmp_ge (tgt := 104) hx hb d_Ts_give_63 (by decide) (fun hc18 => ?_) (fun hn9 => absurd (nI_le (by omega) (by omega)) hn9)
      subst hij
      exact exit d9 fk _ _ _ hfk hP hD hS hl
    | succ j8 ih => 
      intro i d9 fk H locs ls hij hfk hP hD hS hl
      have hlt : i < 16 := by omega
      refine lv_iload hx hb d_Ts_give_59 (lv_at hl 0 rfl) ?_
      refine lv_bipush (v := 16) hx hb d_Ts_give_61 (by decide) ?_
      refine lv_topi (fun x20 e19 => ?_)
      obtain rfl : x20 = nI 16 := by rw [e19]; rfl
      refine lv_icmp_ge (tgt := 104) hx hb d_Ts_give_63 (by decide) (fun hn9 => absurd hn9 (nI_ge hlt (by omega))) (fun hc21 => ?_)
      refine lv_aload_n hx hb d_Ts_give_66 rfl (lv_at hl 2 rfl) ?_
      refine lv_aload_n hx hb d_Ts_give_67 rfl (lv_at hl 2 rfl) ?_
      refine va_get (D := (dC, dI)) (ci := 9) (v := (.long d9)) (C := R_Ts) (T := F_Ts) (N := 4) hx hb hg in_Ts hown hK hP 0 rfl rfl 2 (by decide) (hg _ k_233) (fun _ h9 => h9) rfl d_Ts_give_68 ?_
      refine lv_ldc2 (v := 6364136223846793005) hx hb hown (hg _ k_839) d_Ts_give_71 ?_
      refine lv_lmul hx hb d_Ts_give_74 ?_
      refine lv_ldc2 (v := 1442695040888963407) hx hb hown (hg _ k_840) d_Ts_give_75 ?_
      refine lv_ladd hx hb d_Ts_give_78 ?_
      refine va_put (D := (dC, dI)) (ci := 9) (v := (.long ((d9 * 6364136223846793005) + 1442695040888963407))) (ty := .long) (C := R_Ts) (T := F_Ts) (N := 4) hx hb hg in_Ts t_Ts tok_Ts nm_Ts hown hK hP hD hS 0 rfl rfl 2 (by decide) (hg _ k_233) (fun _ h9 => h9) rfl (by decide +kernel) rfl rfl (Nat.le_of_ble_eq_true rfl) d_Ts_give_79 (fun H locs hP hD hS => ?_)
      have hP : va_P (dC, dI) vcl ([(ts, .inr (9, [.ref tp, .long (mk + 1), .long ((d9 * 6364136223846793005) + 1442695040888963407), .int kt2_13])), (tp, .inl ((cT 4), 6, .inr (.inr (.inr (.inr gt))))), (q, .inr (8, [.int 1, .long (mk + 1), .int x, .int y, .int z, .int tm, .ref (ro q)])), (ro q, .inl ((cT 0), si (ro q), .inl fk))] ++ va_pl ((L.erase q).erase (ro q)) F) H := hP
      have hD : va_D A ([(ts, .inr (9, [.ref tp, .long (mk + 1), .long ((d9 * 6364136223846793005) + 1442695040888963407), .int kt2_13])), (tp, .inl ((cT 4), 6, .inr (.inr (.inr (.inr gt))))), (q, .inr (8, [.int 1, .long (mk + 1), .int x, .int y, .int z, .int tm, .ref (ro q)])), (ro q, .inl ((cT 0), si (ro q), .inl fk))] ++ va_pl ((L.erase q).erase (ro q)) F) := hD
      refine lv_aload hx hb d_Ts_give_82 (lv_at hl 1 rfl) ?_
      refine va_get (D := (dC, dI)) (ci := 8) (v := (.ref (ro q))) (C := R_Tl) (T := F_Tl) (N := 7) hx hb hg in_Tl hown hK hP 2 rfl rfl 6 (by decide) (hg _ k_214) (fun _ h9 => h9) rfl d_Ts_give_84 ?_
      refine lv_iload hx hb d_Ts_give_87 (lv_at hl 0 rfl) ?_
      refine lv_aload_n hx hb d_Ts_give_89 rfl (lv_at hl 2 rfl) ?_
      refine va_get (D := (dC, dI)) (ci := 9) (v := (.long ((d9 * 6364136223846793005) + 1442695040888963407))) (C := R_Ts) (T := F_Ts) (N := 4) hx hb hg in_Ts hown hK hP 0 rfl rfl 2 (by decide) (hg _ k_233) (fun _ h9 => h9) rfl d_Ts_give_90 ?_
      refine lv_bipush (v := 56) hx hb d_Ts_give_93 (by decide) ?_
      refine lv_lushr (v := (((d9 * 6364136223846793005) + 1442695040888963407).toUInt64 >>> ((56 : Int32).toInt64.toUInt64 &&& Int64.toUInt64 63)).toInt64) hx hb d_Ts_give_95 rfl ?_
      refine lv_l2i (v := ((((d9 * 6364136223846793005) + 1442695040888963407).toUInt64 >>> ((56 : Int32).toInt64.toUInt64 &&& Int64.toUInt64 63)).toInt64).toInt32) hx hb d_Ts_give_96 rfl ?_
      refine va_iast hx hb hK hP hD hS 3 0 rfl rfl (i := (nI i)) (vp_in_nI (by omega) (by omega)) d_Ts_give_97 (fun H locs hP hD hS => ?_)
      have hP : va_P (dC, dI) vcl ([(ts, .inr (9, [.ref tp, .long (mk + 1), .long ((d9 * 6364136223846793005) + 1442695040888963407), .int kt2_13])), (tp, .inl ((cT 4), 6, .inr (.inr (.inr (.inr gt))))), (q, .inr (8, [.int 1, .long (mk + 1), .int x, .int y, .int z, .int tm, .ref (ro q)])), (ro q, .inl ((cT 0), si (ro q), .inl (upd fk (nI i).toNatClampNeg (((((d9 * 6364136223846793005) + 1442695040888963407).toUInt64 >>> ((56 : Int32).toInt64.toUInt64 &&& Int64.toUInt64 63)).toInt64).toInt32))))] ++ va_pl ((L.erase q).erase (ro q)) F) H := hP
      have hD : va_D A ([(ts, .inr (9, [.ref tp, .long (mk + 1), .long ((d9 * 6364136223846793005) + 1442695040888963407), .int kt2_13])), (tp, .inl ((cT 4), 6, .inr (.inr (.inr (.inr gt))))), (q, .inr (8, [.int 1, .long (mk + 1), .int x, .int y, .int z, .int tm, .ref (ro q)])), (ro q, .inl ((cT 0), si (ro q), .inl (upd fk (nI i).toNatClampNeg (((((d9 * 6364136223846793005) + 1442695040888963407).toUInt64 >>> ((56 : Int32).toInt64.toUInt64 &&& Int64.toUInt64 63)).toInt64).toInt32))))] ++ va_pl ((L.erase q).erase (ro q)) F) := hD
      refine lv_iinc (k := 0) (v := nI (i + 1)) (lv' := [(6, .int (nI (i + 1))), (5, .ref q), (0, .ref ts)]) hx hb d_Ts_give_98 hl rfl (nI_1 i) (by decide) rfl (fun ls hl => ?_)
      refine lv_goto (tgt := 59) hx hb d_Ts_give_101 (by decide) ?_
      exact ih (i + 1) ((d9 * 6364136223846793005) + 1442695040888963407) _ _ _ _ (by omega) (AB_upd hfk (BY_56 _)) hP hD hS hl
  refine L15 _ (fun d9 fk H locs ls hfk hP hD hS hl => ?_) (16 - 0) 0 dw fk H _ ls (by omega) (hba) hP hD hS hl
  refine lv_aload hx hb d_Ts_give_104 (lv_at hl 1 rfl) ?_
  obtain ⟨hP, hD⟩ := pl_in (X := [(ts, .inr (9, [.ref tp, .long (mk + 1), .long d9, .int kt2_13])), (tp, .inl ((cT 4), 6, .inr (.inr (.inr (.inr gt))))), (q, .inr (8, [.int 1, .long (mk + 1), .int x, .int y, .int z, .int tm, .ref (ro q)]))]) hP hD ((List.mem_erase_of_ne ne1).mpr a1) (hnd.erase q)
  have hP : va_P (dC, dI) vcl ([(ts, .inr (9, [.ref tp, .long (mk + 1), .long d9, .int kt2_13])), (tp, .inl ((cT 4), 6, .inr (.inr (.inr (.inr gt))))), (q, .inr (8, [.int 1, .long (mk + 1), .int x, .int y, .int z, .int tm, .ref (ro q)]))] ++ va_pl (L.erase q) (va_up F (ro q) (.inl ((cT 0), si (ro q), .inl fk)))) H := hP
  have hD : va_D A ([(ts, .inr (9, [.ref tp, .long (mk + 1), .long d9, .int kt2_13])), (tp, .inl ((cT 4), 6, .inr (.inr (.inr (.inr gt))))), (q, .inr (8, [.int 1, .long (mk + 1), .int x, .int y, .int z, .int tm, .ref (ro q)]))] ++ va_pl (L.erase q) (va_up F (ro q) (.inl ((cT 0), si (ro q), .inl fk)))) := hD
  obtain ⟨hP, hD⟩ := pl_in (X := [(ts, .inr (9, [.ref tp, .long (mk + 1), .long d9, .int kt2_13])), (tp, .inl ((cT 4), 6, .inr (.inr (.inr (.inr gt)))))]) hP hD (hq2) (hnd)
  have hP : va_P (dC, dI) vcl ([(ts, .inr (9, [.ref tp, .long (mk + 1), .long d9, .int kt2_13])), (tp, .inl ((cT 4), 6, .inr (.inr (.inr (.inr gt)))))] ++ va_pl L (va_up (va_up F (ro q) (.inl ((cT 0), si (ro q), .inl fk))) q (.inr (8, [.int 1, .long (mk + 1), .int x, .int y, .int z, .int tm, .ref (ro q)])))) H := hP
  have hD : va_D A ([(ts, .inr (9, [.ref tp, .long (mk + 1), .long d9, .int kt2_13])), (tp, .inl ((cT 4), 6, .inr (.inr (.inr (.inr gt)))))] ++ va_pl L (va_up (va_up F (ro q) (.inl ((cT 0), si (ro q), .inl fk))) q (.inr (8, [.int 1, .long (mk + 1), .int x, .int y, .int z, .int tm, .ref (ro q)])))) := hD
  have hF2 : PLS cT kd si ro rb L (va_up (va_up F (ro q) (.inl ((cT 0), si (ro q), .inl fk))) q (.inr (8, [.int 1, .long (mk + 1), .int x, .int y, .int z, .int tm, .ref (ro q)]))) := PLS_up (PLS_up hF (PLC0 a2 hfk)) (PLC8 hq3)
  have hP9 := hP.part (cx := [(ts, .inr (9, [.ref tp, .long (mk + 1), .long d9, .int kt2_13])), (tp, .inl ((cT 4), 6, .inr (.inr (.inr (.inr gt)))))]) [0, 1] rfl
  have hD9 := hD.part (cx := [(ts, .inr (9, [.ref tp, .long (mk + 1), .long d9, .int kt2_13])), (tp, .inl ((cT 4), 6, .inr (.inr (.inr (.inr gt)))))]) [0, 1] (by decide) rfl
  exact W.aret (v := .ref q) hx hb hr (by first | exact Or.inr ⟨_, rfl⟩ | exact Or.inl ⟨_, rfl⟩) (Or.inr ⟨_, rfl⟩) (fun t ht hW => ⟨⟨(some q), ⟨d9, kt2_13, va_up (va_up F (ro q) (.inl ((cT 0), si (ro q), .inl fk))) q (.inr (8, [.int 1, .long (mk + 1), .int x, .int y, .int z, .int tm, .ref (ro q)]))⟩, rfl, ⟨hF2, q, rfl, hq2, hq3⟩, by rw [ht]; exact hP9, va_K.moved hW.alike hK, hD9⟩, hS.F ht⟩) hS.2.2 d_Ts_give_106
set_option maxHeartbeats 4000000 in
set_option maxRecDepth 100000 in
/-- take -/
theorem c_Ts_take (l : Launch) (dC : Nat → ClassId) (dI : Nat → Nat → Nat) (cT : Nat → ClassId) (sz : Nat) (ts : Nat) (tp : Nat) (mk : Int64) (dw : Int64) (kt : Int32) (gt : Nat → Option Nat) (L : List Nat) (F : Nat → va_E) (kd : Nat → Nat) (si : Nat → Nat) (ro : Nat → Nat) (rb : Nat → Nat) (v : Int64) (x : Int32) (y : Int32) (hg8 : ∀ i9, i9 < 6 → ∃ q9, gt i9 = some q9 ∧ q9 ∈ L ∧ kd q9 = 8) (hnd : L.Nodup) (hsh : SHP L kd si ro rb) (hF : PLS cT kd si ro rb L F) : Met l y_Ts_take (Cond.code y_Ts_take b_Ts_take 7 (Option.some (Jvm.ClassFile.FieldType.object "DoorServer$Trial")) :: BIG) ({ frames := 0, cells := 0, slots := 0, locals := 0 }) (va_Pc [.ref ts, .long v, .int x, .int y] (fun U => U.heap.size = sz ∧ va_P (dC, dI) vcl ([(ts, .inr (9, [.ref tp, .long mk, .long dw, .int kt])), (tp, .inl ((cT 4), 6, .inr (.inr (.inr (.inr gt)))))] ++ va_pl L F) U.heap ∧ va_K (dC, dI) vcl (tyL cT) U ∧ va_D (fun _ => True) ([(ts, .inr (9, [.ref tp, .long mk, .long dw, .int kt])), (tp, .inl ((cT 4), 6, .inr (.inr (.inr (.inr gt)))))] ++ va_pl L F))) (va_Qq (S := Int32 × (Nat → va_E)) (fun rv9 u => match u with | (kt2, F2) => PLS cT kd si ro rb L F2 ∧ (rv9 = none ∨ ∃ q9, rv9 = some q9 ∧ q9 ∈ L ∧ kd q9 = 8)) (fun u t => match u with | (kt2, F2) => va_P (dC, dI) vcl ([(ts, .inr (9, [.ref tp, .long mk, .long dw, .int kt2])), (tp, .inl ((cT 4), 6, .inr (.inr (.inr (.inr gt)))))] ++ va_pl L F2) t.heap ∧ va_K (dC, dI) vcl (tyL cT) t ∧ va_D (va_A ([(ts, .inr (9, [.ref tp, .long mk, .long dw, .int kt])), (tp, .inl ((cT 4), 6, .inr (.inr (.inr (.inr gt)))))] ++ va_pl L F) sz) ([(ts, .inr (9, [.ref tp, .long mk, .long dw, .int kt2])), (tp, .inl ((cT 4), 6, .inr (.inr (.inr (.inr gt)))))] ++ va_pl L F2)) (va_A ([(ts, .inr (9, [.ref tp, .long mk, .long dw, .int kt])), (tp, .inl ((cT 4), 6, .inr (.inr (.inr (.inr gt)))))] ++ va_pl L F) sz)) 0 0 (va_A ([(ts, .inr (9, [.ref tp, .long mk, .long dw, .int kt])), (tp, .inl ((cT 4), 6, .inr (.inr (.inr (.inr gt)))))] ++ va_pl L F) sz) := by
  refine Met.ofW (cc := b_Ts_take) (maxL := 7) (ret := (Option.some (Jvm.ClassFile.FieldType.object "DoorServer$Trial"))) (by decide) rfl ?_
  intro p e s m args below meth c s₁ B hml hv
  obtain ⟨hargs, hsz, hP, hK, hD0⟩ := hv
  have hx := B.exec
  have hb := B.bytes
  have hr := B.returns
  have hts := atoms_spec (ws := (Cond.code y_Ts_take b_Ts_take 7 (Option.some (Jvm.ClassFile.FieldType.object "DoorServer$Trial")) :: BIG)) B.pre
  have hg : ∀ w ∈ BIG, w.before _ s = true := fun w h => hts w (List.mem_cons_of_mem _ h)
  have hown : s.vm.findClass "DoorServer$Trials" = some m.cls := findClass_of_methodNamed B.named
  have hlocks := B.notSynchronized
  subst hsz
  have hD := hD0.self (sz := s.heap.size)
  generalize hAe : va_A ([(ts, .inr (9, [.ref tp, .long mk, .long dw, .int kt])), (tp, .inl ((cT 4), 6, .inr (.inr (.inr (.inr gt)))))] ++ va_pl L F) s.heap.size = A at hD ⊢
  have hA : ∀ q : Nat, s.heap.size ≤ q → A q := fun q h => by rw [← hAe]; exact Or.inr h
  have hS : va_S A s.heap s.heap [] := va_S.rf
  have hl := lv_entry ([.ref ts, .long v, .int x, .int y]) (n := 7) (Nat.le_of_ble_eq_true rfl)
  refine W.eq (g2 := entryFrame m (List.toArray [.ref ts, .long v, .int x, .int y]) 7) (by rw [hargs]) ?_
  rw [lg_entry_eq]
  generalize (lg_sl ([.ref ts, .long v, .int x, .int y]) ++ List.replicate (7 - (lg_sl ([.ref ts, .long v, .int x, .int y])).length) Slot.unset).toArray = ls at hl ⊢
  have hl : lv_has ls 7 [(0, .ref ts), (1, .long v), (3, .int x), (4, .int y)] := hl
  change W p l e ({ frames := 0, cells := 0, slots := 0, locals := 0 } : Room) s m args below meth c s.heap [] 0 0 _ _
  have hP : va_P (dC, dI) vcl ([(ts, .inr (9, [.ref tp, .long mk, .long dw, .int kt])), (tp, .inl ((cT 4), 6, .inr (.inr (.inr (.inr gt)))))] ++ va_pl L F) s.heap := hP
  refine lv_iconst (v := 0) hx hb d_Ts_take_0 (by decide) ?_
  refine lv_istore (lv' := [(5, .int 0), (0, .ref ts), (1, .long v), (3, .int x), (4, .int y)]) hx hb d_Ts_take_1 hl (by decide) rfl (fun ls hl => ?_)
  have hl := lv_sub hl [0, 1, 2, 3, 4] (show _ = [(5, .int 0), (0, .ref ts), (1, .long v), (3, .int x), (4, .int y)] from rfl)
  have L22 : ∀ (Q : State → Prop) (ex0 : ∀  (H : Heap) (locs : List Loc) (ls : Array Slot), va_P (dC, dI) vcl ([(ts, .inr (9, [.ref tp, .long mk, .long dw, .int kt])), (tp, .inl ((cT 4), 6, .inr (.inr (.inr (.inr gt)))))] ++ va_pl L F) H → va_D A ([(ts, .inr (9, [.ref tp, .long mk, .long dw, .int kt])), (tp, .inl ((cT 4), 6, .inr (.inr (.inr (.inr gt)))))] ++ va_pl L F) → va_S A s.heap H locs → lv_has ls 7 [(0, .ref ts)] → W p l e ({ frames := 0, cells := 0, slots := 0, locals := 0 } : Room) s m args below meth c H locs 0 0 Q (F0 m 81 ls [])) (ex1 : ∀ (q : Nat) (F2 : Nat → va_E) (H : Heap) (locs : List Loc) (ls : Array Slot), (PLS cT kd si ro rb L F2 ∧ q ∈ L ∧ kd q = 8) → va_P (dC, dI) vcl ([(ts, .inr (9, [.ref tp, .long mk, .long dw, .int (kt - 1)])), (tp, .inl ((cT 4), 6, .inr (.inr (.inr (.inr gt)))))] ++ va_pl L F2) H → va_D A ([(ts, .inr (9, [.ref tp, .long mk, .long dw, .int (kt - 1)])), (tp, .inl ((cT 4), 6, .inr (.inr (.inr (.inr gt)))))] ++ va_pl L F2) → va_S A s.heap H locs → lv_has ls 7 [(0, .ref ts)] → W p l e ({ frames := 0, cells := 0, slots := 0, locals := 0 } : Room) s m args below meth c H locs 0 0 Q (F0 m 74 ls [.ref q])) (jj23 : Nat) (i : Nat) (H : Heap) (locs : List Loc) (ls : Array Slot), 6 - i ≤ jj23 → (i ≤ 6) → va_P (dC, dI) vcl ([(ts, .inr (9, [.ref tp, .long mk, .long dw, .int kt])), (tp, .inl ((cT 4), 6, .inr (.inr (.inr (.inr gt)))))] ++ va_pl L F) H → va_D A ([(ts, .inr (9, [.ref tp, .long mk, .long dw, .int kt])), (tp, .inl ((cT 4), 6, .inr (.inr (.inr (.inr gt)))))] ++ va_pl L F) → va_S A s.heap H locs → lv_has ls 7 [(5, .int (nI i)), (0, .ref ts), (1, .long v), (3, .int x), (4, .int y)] → W p l e ({ frames := 0, cells := 0, slots := 0, locals := 0 } : Room) s m args below meth c H locs 0 0 Q (F0 m 3 ls []) := by
    intro Q ex0 ex1 jj23
    induction jj23 with
    | zero => 
      intro i H locs ls hm9 hi hP hD hS hl
      refine lv_iload hx hb d_Ts_take_3 (lv_at hl 0 rfl) ?_
      refine lv_bipush (v := 6) hx hb d_Ts_take_5 (by decide) ?_
      refine lv_icmp_ge (tgt := 81) hx hb d_Ts_take_7 (by decide) (fun hc24 => ?_) (fun hc24 => ?_)
      · skip
        have hl := lv_sub hl [1] (show _ = [(0, .ref ts)] from rfl)
        exact ex0  _ _ _  hP hD hS hl
      · skip
        have h1 : i < 6 := Nat.not_le.mp (fun h7 => hc24 (nI_le (a := 6) h7 (by omega)))
        obtain ⟨q, hq1, hq2, hq3⟩ := hg8 i (by omega)
        obtain ⟨x1, xm, x2, x3, x4, x5, hFq⟩ := (hF q hq2).2.2.2.1 hq3
        refine lv_aload_n hx hb d_Ts_take_10 rfl (lv_at hl 1 rfl) ?_
        refine va_get (D := (dC, dI)) (ci := 9) (v := (.ref tp)) (C := R_Ts) (T := F_Ts) (N := 4) hx hb hg in_Ts hown hK hP 0 rfl rfl 0 (by decide) (hg _ k_231) (fun _ h9 => h9) rfl d_Ts_take_11 ?_
        refine lv_iload hx hb d_Ts_take_14 (lv_at hl 0 rfl) ?_
        refine va_aldq hx hb hK hP 1 4 rfl rfl (i := (nI i)) (vp_in_nI (N := 6) (by omega) (by decide)) d_Ts_take_16 ?_
        rw [show va_rf (gt (nI i).toNatClampNeg) = .ref q from by rw [nI_clamp (by omega), hq1]; rfl]
        obtain ⟨hP, hD⟩ := pl_out (X := [(ts, .inr (9, [.ref tp, .long mk, .long dw, .int kt])), (tp, .inl ((cT 4), 6, .inr (.inr (.inr (.inr gt)))))]) hP hD (hq2) (hFq)
        have hP : va_P (dC, dI) vcl ([(ts, .inr (9, [.ref tp, .long mk, .long dw, .int kt])), (tp, .inl ((cT 4), 6, .inr (.inr (.inr (.inr gt))))), (q, .inr (8, [.int x1, .long xm, .int x2, .int x3, .int x4, .int x5, .ref (ro q)]))] ++ va_pl (L.erase q) F) H := hP
        have hD : va_D A ([(ts, .inr (9, [.ref tp, .long mk, .long dw, .int kt])), (tp, .inl ((cT 4), 6, .inr (.inr (.inr (.inr gt))))), (q, .inr (8, [.int x1, .long xm, .int x2, .int x3, .int x4, .int x5, .ref (ro q)]))] ++ va_pl (L.erase q) F) := hD
        refine lv_astore (lv' := [(6, .ref q), (5, .int (nI i)), (0, .ref ts), (1, .long v), (3, .int x), (4, .int y)]) hx hb d_Ts_take_17 hl (by decide) rfl (fun ls hl => ?_)
        refine lv_aload hx hb d_Ts_take_19 (lv_at hl 0 rfl) ?_
        refine va_get (D := (dC, dI)) (ci := 8) (v := (.int x1)) (C := R_Tl) (T := F_Tl) (N := 7) hx hb hg in_Tl hown hK hP 2 rfl rfl 0 (by decide) (hg _ k_204) (fun _ h9 => h9) rfl d_Ts_take_21 ?_
        refine lv_if_eq (tgt := 75) hx hb d_Ts_take_24 (by decide) (fun hc25 => ?_) (fun hc25 => ?_)
        · skip
          obtain ⟨hP, hD⟩ := pl_in (X := [(ts, .inr (9, [.ref tp, .long mk, .long dw, .int kt])), (tp, .inl ((cT 4), 6, .inr (.inr (.inr (.inr gt)))))]) hP hD (hq2) (hnd)
          have hP : va_P (dC, dI) vcl ([(ts, .inr (9, [.ref tp, .long mk, .long dw, .int kt])), (tp, .inl ((cT 4), 6, .inr (.inr (.inr (.inr gt)))))] ++ va_pl L (va_up F q (.inr (8, [.int x1, .long xm, .int x2, .int x3, .int x4, .int x5, .ref (ro q)])))) H := hP
          have hD : va_D A ([(ts, .inr (9, [.ref tp, .long mk, .long dw, .int kt])), (tp, .inl ((cT 4), 6, .inr (.inr (.inr (.inr gt)))))] ++ va_pl L (va_up F q (.inr (8, [.int x1, .long xm, .int x2, .int x3, .int x4, .int x5, .ref (ro q)])))) := hD
          rw [up_id hFq] at hP hD
          have hP : va_P (dC, dI) vcl ([(ts, .inr (9, [.ref tp, .long mk, .long dw, .int kt])), (tp, .inl ((cT 4), 6, .inr (.inr (.inr (.inr gt)))))] ++ va_pl L F) H := hP
          have hD : va_D A ([(ts, .inr (9, [.ref tp, .long mk, .long dw, .int kt])), (tp, .inl ((cT 4), 6, .inr (.inr (.inr (.inr gt)))))] ++ va_pl L F) := hD
          refine lv_iinc (k := 1) (v := nI (i + 1)) (lv' := [(5, .int (nI (i + 1))), (6, .ref q), (0, .ref ts), (1, .long v), (3, .int x), (4, .int y)]) hx hb d_Ts_take_75 hl rfl (nI_1 i) (by decide) rfl (fun ls hl => ?_)
          refine lv_goto (tgt := 3) hx hb d_Ts_take_78 (by decide) ?_
          have hl := lv_sub hl [0, 2, 3, 4, 5] (show _ = [(5, .int (nI (i + 1))), (0, .ref ts), (1, .long v), (3, .int x), (4, .int y)] from rfl)
          exfalso; omega
        · skip
          refine lv_aload hx hb d_Ts_take_27 (lv_at hl 0 rfl) ?_
          refine va_get (D := (dC, dI)) (ci := 8) (v := (.long xm)) (C := R_Tl) (T := F_Tl) (N := 7) hx hb hg in_Tl hown hK hP 2 rfl rfl 1 (by decide) (hg _ k_205) (fun _ h9 => h9) rfl d_Ts_take_29 ?_
          refine lv_lload_n hx hb d_Ts_take_32 rfl (lv_at hl 3 rfl) ?_
          refine W.lcmp hx hb d_Ts_take_33 ?_
          refine lv_if_ne (tgt := 75) hx hb d_Ts_take_34 (by decide) (fun hc26 => ?_) (fun hc26 => ?_)
          · skip
            obtain ⟨hP, hD⟩ := pl_in (X := [(ts, .inr (9, [.ref tp, .long mk, .long dw, .int kt])), (tp, .inl ((cT 4), 6, .inr (.inr (.inr (.inr gt)))))]) hP hD (hq2) (hnd)
            have hP : va_P (dC, dI) vcl ([(ts, .inr (9, [.ref tp, .long mk, .long dw, .int kt])), (tp, .inl ((cT 4), 6, .inr (.inr (.inr (.inr gt)))))] ++ va_pl L (va_up F q (.inr (8, [.int x1, .long xm, .int x2, .int x3, .int x4, .int x5, .ref (ro q)])))) H := hP
            have hD : va_D A ([(ts, .inr (9, [.ref tp, .long mk, .long dw, .int kt])), (tp, .inl ((cT 4), 6, .inr (.inr (.inr (.inr gt)))))] ++ va_pl L (va_up F q (.inr (8, [.int x1, .long xm, .int x2, .int x3, .int x4, .int x5, .ref (ro q)])))) := hD
            rw [up_id hFq] at hP hD
            have hP : va_P (dC, dI) vcl ([(ts, .inr (9, [.ref tp, .long mk, .long dw, .int kt])), (tp, .inl ((cT 4), 6, .inr (.inr (.inr (.inr gt)))))] ++ va_pl L F) H := hP
            have hD : va_D A ([(ts, .inr (9, [.ref tp, .long mk, .long dw, .int kt])), (tp, .inl ((cT 4), 6, .inr (.inr (.inr (.inr gt)))))] ++ va_pl L F) := hD
            refine lv_iinc (k := 1) (v := nI (i + 1)) (lv' := [(5, .int (nI (i + 1))), (6, .ref q), (0, .ref ts), (1, .long v), (3, .int x), (4, .int y)]) hx hb d_Ts_take_75 hl rfl (nI_1 i) (by decide) rfl (fun ls hl => ?_)
            refine lv_goto (tgt := 3) hx hb d_Ts_take_78 (by decide) ?_
            have hl := lv_sub hl [0, 2, 3, 4, 5] (show _ = [(5, .int (nI (i + 1))), (0, .ref ts), (1, .long v), (3, .int x), (4, .int y)] from rfl)
            exfalso; omega
          · skip
            refine lv_aload hx hb d_Ts_take_37 (lv_at hl 0 rfl) ?_
            refine va_get (D := (dC, dI)) (ci := 8) (v := (.int x2)) (C := R_Tl) (T := F_Tl) (N := 7) hx hb hg in_Tl hown hK hP 2 rfl rfl 2 (by decide) (hg _ k_207) (fun _ h9 => h9) rfl d_Ts_take_39 ?_
            refine lv_iload_n hx hb d_Ts_take_42 rfl (lv_at hl 4 rfl) ?_
            refine lv_icmp_ne (tgt := 75) hx hb d_Ts_take_43 (by decide) (fun hc27 => ?_) (fun hc27 => ?_)
            · skip
              obtain ⟨hP, hD⟩ := pl_in (X := [(ts, .inr (9, [.ref tp, .long mk, .long dw, .int kt])), (tp, .inl ((cT 4), 6, .inr (.inr (.inr (.inr gt)))))]) hP hD (hq2) (hnd)
              have hP : va_P (dC, dI) vcl ([(ts, .inr (9, [.ref tp, .long mk, .long dw, .int kt])), (tp, .inl ((cT 4), 6, .inr (.inr (.inr (.inr gt)))))] ++ va_pl L (va_up F q (.inr (8, [.int x1, .long xm, .int x2, .int x3, .int x4, .int x5, .ref (ro q)])))) H := hP
              have hD : va_D A ([(ts, .inr (9, [.ref tp, .long mk, .long dw, .int kt])), (tp, .inl ((cT 4), 6, .inr (.inr (.inr (.inr gt)))))] ++ va_pl L (va_up F q (.inr (8, [.int x1, .long xm, .int x2, .int x3, .int x4, .int x5, .ref (ro q)])))) := hD
              rw [up_id hFq] at hP hD
              have hP : va_P (dC, dI) vcl ([(ts, .inr (9, [.ref tp, .long mk, .long dw, .int kt])), (tp, .inl ((cT 4), 6, .inr (.inr (.inr (.inr gt)))))] ++ va_pl L F) H := hP
              have hD : va_D A ([(ts, .inr (9, [.ref tp, .long mk, .long dw, .int kt])), (tp, .inl ((cT 4), 6, .inr (.inr (.inr (.inr gt)))))] ++ va_pl L F) := hD
              refine lv_iinc (k := 1) (v := nI (i + 1)) (lv' := [(5, .int (nI (i + 1))), (6, .ref q), (0, .ref ts), (1, .long v), (3, .int x), (4, .int y)]) hx hb d_Ts_take_75 hl rfl (nI_1 i) (by decide) rfl (fun ls hl => ?_)
              refine lv_goto (tgt := 3) hx hb d_Ts_take_78 (by decide) ?_
              have hl := lv_sub hl [0, 2, 3, 4, 5] (show _ = [(5, .int (nI (i + 1))), (0, .ref ts), (1, .long v), (3, .int x), (4, .int y)] from rfl)
              exfalso; omega
            · skip
              refine lv_aload hx hb d_Ts_take_46 (lv_at hl 0 rfl) ?_
              refine va_get (D := (dC, dI)) (ci := 8) (v := (.int x3)) (C := R_Tl) (T := F_Tl) (N := 7) hx hb hg in_Tl hown hK hP 2 rfl rfl 3 (by decide) (hg _ k_208) (fun _ h9 => h9) rfl d_Ts_take_48 ?_
              refine lv_iload hx hb d_Ts_take_51 (lv_at hl 5 rfl) ?_
              refine lv_icmp_ne (tgt := 75) hx hb d_Ts_take_53 (by decide) (fun hc28 => ?_) (fun hc28 => ?_)
              · skip
                obtain ⟨hP, hD⟩ := pl_in (X := [(ts, .inr (9, [.ref tp, .long mk, .long dw, .int kt])), (tp, .inl ((cT 4), 6, .inr (.inr (.inr (.inr gt)))))]) hP hD (hq2) (hnd)
                have hP : va_P (dC, dI) vcl ([(ts, .inr (9, [.ref tp, .long mk, .long dw, .int kt])), (tp, .inl ((cT 4), 6, .inr (.inr (.inr (.inr gt)))))] ++ va_pl L (va_up F q (.inr (8, [.int x1, .long xm, .int x2, .int x3, .int x4, .int x5, .ref (ro q)])))) H := hP
                have hD : va_D A ([(ts, .inr (9, [.ref tp, .long mk, .long dw, .int kt])), (tp, .inl ((cT 4), 6, .inr (.inr (.inr (.inr gt)))))] ++ va_pl L (va_up F q (.inr (8, [.int x1, .long xm, .int x2, .int x3, .int x4, .int x5, .ref (ro q)])))) := hD
                rw [up_id hFq] at hP hD
                have hP : va_P (dC, dI) vcl ([(ts, .inr (9, [.ref tp, .long mk, .long dw, .int kt])), (tp, .inl ((cT 4), 6, .inr (.inr (.inr (.inr gt)))))] ++ va_pl L F) H := hP
                have hD : va_D A ([(ts, .inr (9, [.ref tp, .long mk, .long dw, .int kt])), (tp, .inl ((cT 4), 6, .inr (.inr (.inr (.inr gt)))))] ++ va_pl L F) := hD
                refine lv_iinc (k := 1) (v := nI (i + 1)) (lv' := [(5, .int (nI (i + 1))), (6, .ref q), (0, .ref ts), (1, .long v), (3, .int x), (4, .int y)]) hx hb d_Ts_take_75 hl rfl (nI_1 i) (by decide) rfl (fun ls hl => ?_)
                refine lv_goto (tgt := 3) hx hb d_Ts_take_78 (by decide) ?_
                have hl := lv_sub hl [0, 2, 3, 4, 5] (show _ = [(5, .int (nI (i + 1))), (0, .ref ts), (1, .long v), (3, .int x), (4, .int y)] from rfl)
                exfalso; omega
              · skip
                refine lv_aload hx hb d_Ts_take_56 (lv_at hl 0 rfl) ?_
                refine lv_iconst (v := 0) hx hb d_Ts_take_58 (by decide) ?_
                refine va_put (D := (dC, dI)) (ci := 8) (v := (.int 0)) (ty := .boolean) (C := R_Tl) (T := F_Tl) (N := 7) hx hb hg in_Tl t_Tl tok_Tl nm_Tl hown hK hP hD hS 2 rfl rfl 0 (by decide) (hg _ k_204) (fun _ h9 => h9) rfl (by decide +kernel) rfl rfl (Nat.le_of_ble_eq_true rfl) d_Ts_take_59 (fun H locs hP hD hS => ?_)
                have hP : va_P (dC, dI) vcl ([(ts, .inr (9, [.ref tp, .long mk, .long dw, .int kt])), (tp, .inl ((cT 4), 6, .inr (.inr (.inr (.inr gt))))), (q, .inr (8, [.int 0, .long xm, .int x2, .int x3, .int x4, .int x5, .ref (ro q)]))] ++ va_pl (L.erase q) F) H := hP
                have hD : va_D A ([(ts, .inr (9, [.ref tp, .long mk, .long dw, .int kt])), (tp, .inl ((cT 4), 6, .inr (.inr (.inr (.inr gt))))), (q, .inr (8, [.int 0, .long xm, .int x2, .int x3, .int x4, .int x5, .ref (ro q)]))] ++ va_pl (L.erase q) F) := hD
                refine lv_aload_n hx hb d_Ts_take_62 rfl (lv_at hl 2 rfl) ?_
                refine lv_dup hx hb d_Ts_take_63 rfl ?_
                refine va_get (D := (dC, dI)) (ci := 9) (v := (.int kt)) (C := R_Ts) (T := F_Ts) (N := 4) hx hb hg in_Ts hown hK hP 0 rfl rfl 3 (by decide) (hg _ k_234) (fun _ h9 => h9) rfl d_Ts_take_64 ?_
                refine lv_iconst (v := 1) hx hb d_Ts_take_67 (by decide) ?_
                refine lv_isub hx hb d_Ts_take_68 ?_
                refine va_put (D := (dC, dI)) (ci := 9) (v := (.int (kt - 1))) (ty := .int) (C := R_Ts) (T := F_Ts) (N := 4) hx hb hg in_Ts t_Ts tok_Ts nm_Ts hown hK hP hD hS 0 rfl rfl 3 (by decide) (hg _ k_234) (fun _ h9 => h9) rfl (by decide +kernel) rfl rfl (Nat.le_of_ble_eq_true rfl) d_Ts_take_69 (fun H locs hP hD hS => ?_)
                have hP : va_P (dC, dI) vcl ([(ts, .inr (9, [.ref tp, .long mk, .long dw, .int (kt - 1)])), (tp, .inl ((cT 4), 6, .inr (.inr (.inr (.inr gt))))), (q, .inr (8, [.int 0, .long xm, .int x2, .int x3, .int x4, .int x5, .ref (ro q)]))] ++ va_pl (L.erase q) F) H := hP
                have hD : va_D A ([(ts, .inr (9, [.ref tp, .long mk, .long dw, .int (kt - 1)])), (tp, .inl ((cT 4), 6, .inr (.inr (.inr (.inr gt))))), (q, .inr (8, [.int 0, .long xm, .int x2, .int x3, .int x4, .int x5, .ref (ro q)]))] ++ va_pl (L.erase q) F) := hD
                refine lv_aload hx hb d_Ts_take_72 (lv_at hl 0 rfl) ?_
                obtain ⟨hP, hD⟩ := pl_in (X := [(ts, .inr (9, [.ref tp, .long mk, .long dw, .int (kt - 1)])), (tp, .inl ((cT 4), 6, .inr (.inr (.inr (.inr gt)))))]) hP hD (hq2) (hnd)
                have hP : va_P (dC, dI) vcl ([(ts, .inr (9, [.ref tp, .long mk, .long dw, .int (kt - 1)])), (tp, .inl ((cT 4), 6, .inr (.inr (.inr (.inr gt)))))] ++ va_pl L (va_up F q (.inr (8, [.int 0, .long xm, .int x2, .int x3, .int x4, .int x5, .ref (ro q)])))) H := hP
                have hD : va_D A ([(ts, .inr (9, [.ref tp, .long mk, .long dw, .int (kt - 1)])), (tp, .inl ((cT 4), 6, .inr (.inr (.inr (.inr gt)))))] ++ va_pl L (va_up F q (.inr (8, [.int 0, .long xm, .int x2, .int x3, .int x4, .int x5, .ref (ro q)])))) := hD
                have hl := lv_sub hl [2] (show _ = [(0, .ref ts)] from rfl)
                exact ex1 q (va_up F q (.inr (8, [.int 0, .long xm, .int x2, .int x3, .int x4, .int x5, .ref (ro q)]))) _ _ _ (⟨PLS_up hF (PLC8 hq3), hq2, hq3⟩) hP hD hS hl
    | succ jj23 ih => 
      intro i H locs ls hm9 hi hP hD hS hl
      refine lv_iload hx hb d_Ts_take_3 (lv_at hl 0 rfl) ?_
      refine lv_bipush (v := 6) hx hb d_Ts_take_5 (by decide) ?_
      refine lv_icmp_ge (tgt := 81) hx hb d_Ts_take_7 (by decide) (fun hc29 => ?_) (fun hc29 => ?_)
      · skip
        have hl := lv_sub hl [1] (show _ = [(0, .ref ts)] from rfl)
        exact ex0  _ _ _  hP hD hS hl
      · skip
        have h1 : i < 6 := Nat.not_le.mp (fun h7 => hc29 (nI_le (a := 6) h7 (by omega)))
        obtain ⟨q, hq1, hq2, hq3⟩ := hg8 i (by omega)
        obtain ⟨x1, xm, x2, x3, x4, x5, hFq⟩ := (hF q hq2).2.2.2.1 hq3
        refine lv_aload_n hx hb d_Ts_take_10 rfl (lv_at hl 1 rfl) ?_
        refine va_get (D := (dC, dI)) (ci := 9) (v := (.ref tp)) (C := R_Ts) (T := F_Ts) (N := 4) hx hb hg in_Ts hown hK hP 0 rfl rfl 0 (by decide) (hg _ k_231) (fun _ h9 => h9) rfl d_Ts_take_11 ?_
        refine lv_iload hx hb d_Ts_take_14 (lv_at hl 0 rfl) ?_
        refine va_aldq hx hb hK hP 1 4 rfl rfl (i := (nI i)) (vp_in_nI (N := 6) (by omega) (by decide)) d_Ts_take_16 ?_
        rw [show va_rf (gt (nI i).toNatClampNeg) = .ref q from by rw [nI_clamp (by omega), hq1]; rfl]
        obtain ⟨hP, hD⟩ := pl_out (X := [(ts, .inr (9, [.ref tp, .long mk, .long dw, .int kt])), (tp, .inl ((cT 4), 6, .inr (.inr (.inr (.inr gt)))))]) hP hD (hq2) (hFq)
        have hP : va_P (dC, dI) vcl ([(ts, .inr (9, [.ref tp, .long mk, .long dw, .int kt])), (tp, .inl ((cT 4), 6, .inr (.inr (.inr (.inr gt))))), (q, .inr (8, [.int x1, .long xm, .int x2, .int x3, .int x4, .int x5, .ref (ro q)]))] ++ va_pl (L.erase q) F) H := hP
        have hD : va_D A ([(ts, .inr (9, [.ref tp, .long mk, .long dw, .int kt])), (tp, .inl ((cT 4), 6, .inr (.inr (.inr (.inr gt))))), (q, .inr (8, [.int x1, .long xm, .int x2, .int x3, .int x4, .int x5, .ref (ro q)]))] ++ va_pl (L.erase q) F) := hD
        refine lv_astore (lv' := [(6, .ref q), (5, .int (nI i)), (0, .ref ts), (1, .long v), (3, .int x), (4, .int y)]) hx hb d_Ts_take_17 hl (by decide) rfl (fun ls hl => ?_)
        refine lv_aload hx hb d_Ts_take_19 (lv_at hl 0 rfl) ?_
        refine va_get (D := (dC, dI)) (ci := 8) (v := (.int x1)) (C := R_Tl) (T := F_Tl) (N := 7) hx hb hg in_Tl hown hK hP 2 rfl rfl 0 (by decide) (hg _ k_204) (fun _ h9 => h9) rfl d_Ts_take_21 ?_
        refine lv_if_eq (tgt := 75) hx hb d_Ts_take_24 (by decide) (fun hc30 => ?_) (fun hc30 => ?_)
        · skip
          obtain ⟨hP, hD⟩ := pl_in (X := [(ts, .inr (9, [.ref tp, .long mk, .long dw, .int kt])), (tp, .inl ((cT 4), 6, .inr (.inr (.inr (.inr gt)))))]) hP hD (hq2) (hnd)
          have hP : va_P (dC, dI) vcl ([(ts, .inr (9, [.ref tp, .long mk, .long dw, .int kt])), (tp, .inl ((cT 4), 6, .inr (.inr (.inr (.inr gt)))))] ++ va_pl L (va_up F q (.inr (8, [.int x1, .long xm, .int x2, .int x3, .int x4, .int x5, .ref (ro q)])))) H := hP
          have hD : va_D A ([(ts, .inr (9, [.ref tp, .long mk, .long dw, .int kt])), (tp, .inl ((cT 4), 6, .inr (.inr (.inr (.inr gt)))))] ++ va_pl L (va_up F q (.inr (8, [.int x1, .long xm, .int x2, .int x3, .int x4, .int x5, .ref (ro q)])))) := hD
          rw [up_id hFq] at hP hD
          have hP : va_P (dC, dI) vcl ([(ts, .inr (9, [.ref tp, .long mk, .long dw, .int kt])), (tp, .inl ((cT 4), 6, .inr (.inr (.inr (.inr gt)))))] ++ va_pl L F) H := hP
          have hD : va_D A ([(ts, .inr (9, [.ref tp, .long mk, .long dw, .int kt])), (tp, .inl ((cT 4), 6, .inr (.inr (.inr (.inr gt)))))] ++ va_pl L F) := hD
          refine lv_iinc (k := 1) (v := nI (i + 1)) (lv' := [(5, .int (nI (i + 1))), (6, .ref q), (0, .ref ts), (1, .long v), (3, .int x), (4, .int y)]) hx hb d_Ts_take_75 hl rfl (nI_1 i) (by decide) rfl (fun ls hl => ?_)
          refine lv_goto (tgt := 3) hx hb d_Ts_take_78 (by decide) ?_
          have hl := lv_sub hl [0, 2, 3, 4, 5] (show _ = [(5, .int (nI (i + 1))), (0, .ref ts), (1, .long v), (3, .int x), (4, .int y)] from rfl)
          exact ih (i + 1) _ _ _ (by omega) (by omega) hP hD hS hl
        · skip
          refine lv_aload hx hb d_Ts_take_27 (lv_at hl 0 rfl) ?_
          refine va_get (D := (dC, dI)) (ci := 8) (v := (.long xm)) (C := R_Tl) (T := F_Tl) (N := 7) hx hb hg in_Tl hown hK hP 2 rfl rfl 1 (by decide) (hg _ k_205) (fun _ h9 => h9) rfl d_Ts_take_29 ?_
          refine lv_lload_n hx hb d_Ts_take_32 rfl (lv_at hl 3 rfl) ?_
          refine W.lcmp hx hb d_Ts_take_33 ?_
          refine lv_if_ne (tgt := 75) hx hb d_Ts_take_34 (by decide) (fun hc31 => ?_) (fun hc31 => ?_)
          · skip
            obtain ⟨hP, hD⟩ := pl_in (X := [(ts, .inr (9, [.ref tp, .long mk, .long dw, .int kt])), (tp, .inl ((cT 4), 6, .inr (.inr (.inr (.inr gt)))))]) hP hD (hq2) (hnd)
            have hP : va_P (dC, dI) vcl ([(ts, .inr (9, [.ref tp, .long mk, .long dw, .int kt])), (tp, .inl ((cT 4), 6, .inr (.inr (.inr (.inr gt)))))] ++ va_pl L (va_up F q (.inr (8, [.int x1, .long xm, .int x2, .int x3, .int x4, .int x5, .ref (ro q)])))) H := hP
            have hD : va_D A ([(ts, .inr (9, [.ref tp, .long mk, .long dw, .int kt])), (tp, .inl ((cT 4), 6, .inr (.inr (.inr (.inr gt)))))] ++ va_pl L (va_up F q (.inr (8, [.int x1, .long xm, .int x2, .int x3, .int x4, .int x5, .ref (ro q)])))) := hD
            rw [up_id hFq] at hP hD
            have hP : va_P (dC, dI) vcl ([(ts, .inr (9, [.ref tp, .long mk, .long dw, .int kt])), (tp, .inl ((cT 4), 6, .inr (.inr (.inr (.inr gt)))))] ++ va_pl L F) H := hP
            have hD : va_D A ([(ts, .inr (9, [.ref tp, .long mk, .long dw, .int kt])), (tp, .inl ((cT 4), 6, .inr (.inr (.inr (.inr gt)))))] ++ va_pl L F) := hD
            refine lv_iinc (k := 1) (v := nI (i + 1)) (lv' := [(5, .int (nI (i + 1))), (6, .ref q), (0, .ref ts), (1, .long v), (3, .int x), (4, .int y)]) hx hb d_Ts_take_75 hl rfl (nI_1 i) (by decide) rfl (fun ls hl => ?_)
            refine lv_goto (tgt := 3) hx hb d_Ts_take_78 (by decide) ?_
            have hl := lv_sub hl [0, 2, 3, 4, 5] (show _ = [(5, .int (nI (i + 1))), (0, .ref ts), (1, .long v), (3, .int x), (4, .int y)] from rfl)
            exact ih (i + 1) _ _ _ (by omega) (by omega) hP hD hS hl
          · skip
            refine lv_aload hx hb d_Ts_take_37 (lv_at hl 0 rfl) ?_
            refine va_get (D := (dC, dI)) (ci := 8) (v := (.int x2)) (C := R_Tl) (T := F_Tl) (N := 7) hx hb hg in_Tl hown hK hP 2 rfl rfl 2 (by decide) (hg _ k_207) (fun _ h9 => h9) rfl d_Ts_take_39 ?_
            refine lv_iload_n hx hb d_Ts_take_42 rfl (lv_at hl 4 rfl) ?_
            refine lv_icmp_ne (tgt := 75) hx hb d_Ts_take_43 (by decide) (fun hc32 => ?_) (fun hc32 => ?_)
            · skip
              obtain ⟨hP, hD⟩ := pl_in (X := [(ts, .inr (9, [.ref tp, .long mk, .long dw, .int kt])), (tp, .inl ((cT 4), 6, .inr (.inr (.inr (.inr gt)))))]) hP hD (hq2) (hnd)
              have hP : va_P (dC, dI) vcl ([(ts, .inr (9, [.ref tp, .long mk, .long dw, .int kt])), (tp, .inl ((cT 4), 6, .inr (.inr (.inr (.inr gt)))))] ++ va_pl L (va_up F q (.inr (8, [.int x1, .long xm, .int x2, .int x3, .int x4, .int x5, .ref (ro q)])))) H := hP
              have hD : va_D A ([(ts, .inr (9, [.ref tp, .long mk, .long dw, .int kt])), (tp, .inl ((cT 4), 6, .inr (.inr (.inr (.inr gt)))))] ++ va_pl L (va_up F q (.inr (8, [.int x1, .long xm, .int x2, .int x3, .int x4, .int x5, .ref (ro q)])))) := hD
              rw [up_id hFq] at hP hD
              have hP : va_P (dC, dI) vcl ([(ts, .inr (9, [.ref tp, .long mk, .long dw, .int kt])), (tp, .inl ((cT 4), 6, .inr (.inr (.inr (.inr gt)))))] ++ va_pl L F) H := hP
              have hD : va_D A ([(ts, .inr (9, [.ref tp, .long mk, .long dw, .int kt])), (tp, .inl ((cT 4), 6, .inr (.inr (.inr (.inr gt)))))] ++ va_pl L F) := hD
              refine lv_iinc (k := 1) (v := nI (i + 1)) (lv' := [(5, .int (nI (i + 1))), (6, .ref q), (0, .ref ts), (1, .long v), (3, .int x), (4, .int y)]) hx hb d_Ts_take_75 hl rfl (nI_1 i) (by decide) rfl (fun ls hl => ?_)
              refine lv_goto (tgt := 3) hx hb d_Ts_take_78 (by decide) ?_
              have hl := lv_sub hl [0, 2, 3, 4, 5] (show _ = [(5, .int (nI (i + 1))), (0, .ref ts), (1, .long v), (3, .int x), (4, .int y)] from rfl)
              exact ih (i + 1) _ _ _ (by omega) (by omega) hP hD hS hl
            · skip
              refine lv_aload hx hb d_Ts_take_46 (lv_at hl 0 rfl) ?_
              refine va_get (D := (dC, dI)) (ci := 8) (v := (.int x3)) (C := R_Tl) (T := F_Tl) (N := 7) hx hb hg in_Tl hown hK hP 2 rfl rfl 3 (by decide) (hg _ k_208) (fun _ h9 => h9) rfl d_Ts_take_48 ?_
              refine lv_iload hx hb d_Ts_take_51 (lv_at hl 5 rfl) ?_
              refine lv_icmp_ne (tgt := 75) hx hb d_Ts_take_53 (by decide) (fun hc33 => ?_) (fun hc33 => ?_)
              · skip
                obtain ⟨hP, hD⟩ := pl_in (X := [(ts, .inr (9, [.ref tp, .long mk, .long dw, .int kt])), (tp, .inl ((cT 4), 6, .inr (.inr (.inr (.inr gt)))))]) hP hD (hq2) (hnd)
                have hP : va_P (dC, dI) vcl ([(ts, .inr (9, [.ref tp, .long mk, .long dw, .int kt])), (tp, .inl ((cT 4), 6, .inr (.inr (.inr (.inr gt)))))] ++ va_pl L (va_up F q (.inr (8, [.int x1, .long xm, .int x2, .int x3, .int x4, .int x5, .ref (ro q)])))) H := hP
                have hD : va_D A ([(ts, .inr (9, [.ref tp, .long mk, .long dw, .int kt])), (tp, .inl ((cT 4), 6, .inr (.inr (.inr (.inr gt)))))] ++ va_pl L (va_up F q (.inr (8, [.int x1, .long xm, .int x2, .int x3, .int x4, .int x5, .ref (ro q)])))) := hD
                rw [up_id hFq] at hP hD
                have hP : va_P (dC, dI) vcl ([(ts, .inr (9, [.ref tp, .long mk, .long dw, .int kt])), (tp, .inl ((cT 4), 6, .inr (.inr (.inr (.inr gt)))))] ++ va_pl L F) H := hP
                have hD : va_D A ([(ts, .inr (9, [.ref tp, .long mk, .long dw, .int kt])), (tp, .inl ((cT 4), 6, .inr (.inr (.inr (.inr gt)))))] ++ va_pl L F) := hD
                refine lv_iinc (k := 1) (v := nI (i + 1)) (lv' := [(5, .int (nI (i + 1))), (6, .ref q), (0, .ref ts), (1, .long v), (3, .int x), (4, .int y)]) hx hb d_Ts_take_75 hl rfl (nI_1 i) (by decide) rfl (fun ls hl => ?_)
                refine lv_goto (tgt := 3) hx hb d_Ts_take_78 (by decide) ?_
                have hl := lv_sub hl [0, 2, 3, 4, 5] (show _ = [(5, .int (nI (i + 1))), (0, .ref ts), (1, .long v), (3, .int x), (4, .int y)] from rfl)
                exact ih (i + 1) _ _ _ (by omega) (by omega) hP hD hS hl
              · skip
                refine lv_aload hx hb d_Ts_take_56 (lv_at hl 0 rfl) ?_
                refine lv_iconst (v := 0) hx hb d_Ts_take_58 (by decide) ?_
                refine va_put (D := (dC, dI)) (ci := 8) (v := (.int 0)) (ty := .boolean) (C := R_Tl) (T := F_Tl) (N := 7) hx hb hg in_Tl t_Tl tok_Tl nm_Tl hown hK hP hD hS 2 rfl rfl 0 (by decide) (hg _ k_204) (fun _ h9 => h9) rfl (by decide +kernel) rfl rfl (Nat.le_of_ble_eq_true rfl) d_Ts_take_59 (fun H locs hP hD hS => ?_)
                have hP : va_P (dC, dI) vcl ([(ts, .inr (9, [.ref tp, .long mk, .long dw, .int kt])), (tp, .inl ((cT 4), 6, .inr (.inr (.inr (.inr gt))))), (q, .inr (8, [.int 0, .long xm, .int x2, .int x3, .int x4, .int x5, .ref (ro q)]))] ++ va_pl (L.erase q) F) H := hP
                have hD : va_D A ([(ts, .inr (9, [.ref tp, .long mk, .long dw, .int kt])), (tp, .inl ((cT 4), 6, .inr (.inr (.inr (.inr gt))))), (q, .inr (8, [.int 0, .long xm, .int x2, .int x3, .int x4, .int x5, .ref (ro q)]))] ++ va_pl (L.erase q) F) := hD
                refine lv_aload_n hx hb d_Ts_take_62 rfl (lv_at hl 2 rfl) ?_
                refine lv_dup hx hb d_Ts_take_63 rfl ?_
                refine va_get (D := (dC, dI)) (ci := 9) (v := (.int kt)) (C := R_Ts) (T := F_Ts) (N := 4) hx hb hg in_Ts hown hK hP 0 rfl rfl 3 (by decide) (hg _ k_234) (fun _ h9 => h9) rfl d_Ts_take_64 ?_
                refine lv_iconst (v := 1) hx hb d_Ts_take_67 (by decide) ?_
                refine lv_isub hx hb d_Ts_take_68 ?_
                refine va_put (D := (dC, dI)) (ci := 9) (v := (.int (kt - 1))) (ty := .int) (C := R_Ts) (T := F_Ts) (N := 4) hx hb hg in_Ts t_Ts tok_Ts nm_Ts hown hK hP hD hS 0 rfl rfl 3 (by decide) (hg _ k_234) (fun _ h9 => h9) rfl (by decide +kernel) rfl rfl (Nat.le_of_ble_eq_true rfl) d_Ts_take_69 (fun H locs hP hD hS => ?_)
                have hP : va_P (dC, dI) vcl ([(ts, .inr (9, [.ref tp, .long mk, .long dw, .int (kt - 1)])), (tp, .inl ((cT 4), 6, .inr (.inr (.inr (.inr gt))))), (q, .inr (8, [.int 0, .long xm, .int x2, .int x3, .int x4, .int x5, .ref (ro q)]))] ++ va_pl (L.erase q) F) H := hP
                have hD : va_D A ([(ts, .inr (9, [.ref tp, .long mk, .long dw, .int (kt - 1)])), (tp, .inl ((cT 4), 6, .inr (.inr (.inr (.inr gt))))), (q, .inr (8, [.int 0, .long xm, .int x2, .int x3, .int x4, .int x5, .ref (ro q)]))] ++ va_pl (L.erase q) F) := hD
                refine lv_aload hx hb d_Ts_take_72 (lv_at hl 0 rfl) ?_
                obtain ⟨hP, hD⟩ := pl_in (X := [(ts, .inr (9, [.ref tp, .long mk, .long dw, .int (kt - 1)])), (tp, .inl ((cT 4), 6, .inr (.inr (.inr (.inr gt)))))]) hP hD (hq2) (hnd)
                have hP : va_P (dC, dI) vcl ([(ts, .inr (9, [.ref tp, .long mk, .long dw, .int (kt - 1)])), (tp, .inl ((cT 4), 6, .inr (.inr (.inr (.inr gt)))))] ++ va_pl L (va_up F q (.inr (8, [.int 0, .long xm, .int x2, .int x3, .int x4, .int x5, .ref (ro q)])))) H := hP
                have hD : va_D A ([(ts, .inr (9, [.ref tp, .long mk, .long dw, .int (kt - 1)])), (tp, .inl ((cT 4), 6, .inr (.inr (.inr (.inr gt)))))] ++ va_pl L (va_up F q (.inr (8, [.int 0, .long xm, .int x2, .int x3, .int x4, .int x5, .ref (ro q)])))) := hD
                have hl := lv_sub hl [2] (show _ = [(0, .ref ts)] from rfl)
                exact ex1 q (va_up F q (.inr (8, [.int 0, .long xm, .int x2, .int x3, .int x4, .int x5, .ref (ro q)]))) _ _ _ (⟨PLS_up hF (PLC8 hq3), hq2, hq3⟩) hP hD hS hl
  refine L22 _ (fun  H locs ls  hP hD hS hl => ?_) (fun q F2 H locs ls hq hP hD hS hl => ?_) (6 - 0) 0 s.heap _ ls (Nat.le_refl _) (by decide) hP hD hS hl
  · skip
    refine lv_null hx hb d_Ts_take_81 ?_
    have hP9 := hP.part (cx := [(ts, .inr (9, [.ref tp, .long mk, .long dw, .int kt])), (tp, .inl ((cT 4), 6, .inr (.inr (.inr (.inr gt)))))]) [0, 1] rfl
    have hD9 := hD.part (cx := [(ts, .inr (9, [.ref tp, .long mk, .long dw, .int kt])), (tp, .inl ((cT 4), 6, .inr (.inr (.inr (.inr gt)))))]) [0, 1] (by decide) rfl
    exact W.aret (v := .null) hx hb hr (by first | exact Or.inr ⟨_, rfl⟩ | exact Or.inl ⟨_, rfl⟩) (Or.inl rfl) (fun t ht hW => ⟨⟨none, ⟨kt, F⟩, rfl, ⟨hF, Or.inl rfl⟩, by rw [ht]; exact hP9, va_K.moved hW.alike hK, hD9⟩, hS.F ht⟩) hS.2.2 d_Ts_take_82
  · skip
    have hP9 := hP.part (cx := [(ts, .inr (9, [.ref tp, .long mk, .long dw, .int (kt - 1)])), (tp, .inl ((cT 4), 6, .inr (.inr (.inr (.inr gt)))))]) [0, 1] rfl
    have hD9 := hD.part (cx := [(ts, .inr (9, [.ref tp, .long mk, .long dw, .int (kt - 1)])), (tp, .inl ((cT 4), 6, .inr (.inr (.inr (.inr gt)))))]) [0, 1] (by decide) rfl
    exact W.aret (v := .ref q) hx hb hr (by first | exact Or.inr ⟨_, rfl⟩ | exact Or.inl ⟨_, rfl⟩) (Or.inr ⟨_, rfl⟩) (fun t ht hW => ⟨⟨(some q), ⟨kt - 1, F2⟩, rfl, ⟨hq.1, Or.inr ⟨q, rfl, hq.2.1, hq.2.2⟩⟩, by rw [ht]; exact hP9, va_K.moved hW.alike hK, hD9⟩, hS.F ht⟩) hS.2.2 d_Ts_take_74
