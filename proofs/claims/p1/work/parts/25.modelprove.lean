theorem d_Md_proofPlace_0 : decode b_Md_proofPlace 0 = .ok (.bipush 20, 2) := by decide +kernel
theorem d_Md_proofPlace_2 : decode b_Md_proofPlace 2 = .ok (.istore_n 1, 1) := by decide +kernel
theorem d_Md_proofPlace_3 : decode b_Md_proofPlace 3 = .ok (.iload_n 1, 1) := by decide +kernel
theorem d_Md_proofPlace_4 : decode b_Md_proofPlace 4 = .ok (.iconst 1, 1) := by decide +kernel
theorem d_Md_proofPlace_5 : decode b_Md_proofPlace 5 = .ok (.iadd, 1) := by decide +kernel
theorem d_Md_proofPlace_6 : decode b_Md_proofPlace 6 = .ok (.aload_n 0, 1) := by decide +kernel
theorem d_Md_proofPlace_7 : decode b_Md_proofPlace 7 = .ok (.getfield 297, 3) := by decide +kernel
theorem d_Md_proofPlace_10 : decode b_Md_proofPlace 10 = .ok (.if_icmp .ge 74, 3) := by decide +kernel
theorem d_Md_proofPlace_84 : decode b_Md_proofPlace 84 = .ok (.iconst (-1), 1) := by decide +kernel
theorem d_Md_proofPlace_85 : decode b_Md_proofPlace 85 = .ok (.ireturn, 1) := by decide +kernel
theorem d_Md_prove_10 : decode b_Md_prove 10 = .ok (.iconst 1, 1) := by decide +kernel
theorem d_Md_prove_11 : decode b_Md_prove 11 = .ok (.goto 4, 3) := by decide +kernel
theorem d_Md_prove_23 : decode b_Md_prove 23 = .ok (.aload_n 0, 1) := by decide +kernel
theorem d_Md_prove_24 : decode b_Md_prove 24 = .ok (.invokevirtual 331, 3) := by decide +kernel
theorem d_Md_prove_27 : decode b_Md_prove 27 = .ok (.istore_n 2, 1) := by decide +kernel
theorem d_Md_prove_28 : decode b_Md_prove 28 = .ok (.iload_n 2, 1) := by decide +kernel
theorem d_Md_prove_29 : decode b_Md_prove 29 = .ok (.ifCond .ge 42, 3) := by decide +kernel
theorem d_Md_prove_32 : decode b_Md_prove 32 = .ok (.aload_n 0, 1) := by decide +kernel
theorem d_Md_prove_33 : decode b_Md_prove 33 = .ok (.getfield 297, 3) := by decide +kernel
theorem d_Md_prove_36 : decode b_Md_prove 36 = .ok (.iconst 2, 1) := by decide +kernel
theorem d_Md_prove_37 : decode b_Md_prove 37 = .ok (.iadd, 1) := by decide +kernel
theorem d_Md_prove_38 : decode b_Md_prove 38 = .ok (.istore_n 2, 1) := by decide +kernel
theorem d_Md_prove_39 : decode b_Md_prove 39 = .ok (.aload_n 0, 1) := by decide +kernel
theorem d_Md_prove_40 : decode b_Md_prove 40 = .ok (.bipush 80, 2) := by decide +kernel
theorem d_Md_prove_42 : decode b_Md_prove 42 = .ok (.bipush 16, 2) := by decide +kernel
theorem d_Md_prove_44 : decode b_Md_prove 44 = .ok (.invokevirtual 310, 3) := by decide +kernel
theorem d_Md_prove_47 : decode b_Md_prove 47 = .ok (.ifCond .ne 5, 3) := by decide +kernel
theorem d_Md_prove_52 : decode b_Md_prove 52 = .ok (.iconst 0, 1) := by decide +kernel
theorem d_Md_prove_53 : decode b_Md_prove 53 = .ok (.istore_n 3, 1) := by decide +kernel
theorem d_Md_prove_54 : decode b_Md_prove 54 = .ok (.iload_n 3, 1) := by decide +kernel
theorem d_Md_prove_55 : decode b_Md_prove 55 = .ok (.bipush 16, 2) := by decide +kernel
theorem d_Md_prove_57 : decode b_Md_prove 57 = .ok (.if_icmp .ge 14, 3) := by decide +kernel
theorem d_Md_prove_60 : decode b_Md_prove 60 = .ok (.aload_n 0, 1) := by decide +kernel
theorem d_Md_prove_61 : decode b_Md_prove 61 = .ok (.iconst 0, 1) := by decide +kernel
theorem d_Md_prove_62 : decode b_Md_prove 62 = .ok (.invokevirtual 300, 3) := by decide +kernel
theorem d_Md_prove_65 : decode b_Md_prove 65 = .ok (.iinc 3 1, 3) := by decide +kernel
theorem d_Md_prove_68 : decode b_Md_prove 68 = .ok (.goto (-14), 3) := by decide +kernel
theorem d_Md_prove_71 : decode b_Md_prove 71 = .ok (.aload_n 0, 1) := by decide +kernel
theorem d_Md_prove_72 : decode b_Md_prove 72 = .ok (.invokevirtual 307, 3) := by decide +kernel
theorem d_Md_prove_75 : decode b_Md_prove 75 = .ok (.aload_n 0, 1) := by decide +kernel
theorem d_Md_prove_76 : decode b_Md_prove 76 = .ok (.iload_n 1, 1) := by decide +kernel
theorem d_Md_prove_77 : decode b_Md_prove 77 = .ok (.iload_n 2, 1) := by decide +kernel
theorem d_Md_prove_78 : decode b_Md_prove 78 = .ok (.invokevirtual 334, 3) := by decide +kernel
theorem d_Md_prove_81 : decode b_Md_prove 81 = .ok (.iconst 0, 1) := by decide +kernel
theorem d_Md_prove_82 : decode b_Md_prove 82 = .ok (.istore_n 3, 1) := by decide +kernel
theorem d_Md_prove_83 : decode b_Md_prove 83 = .ok (.iload_n 3, 1) := by decide +kernel
theorem d_Md_prove_84 : decode b_Md_prove 84 = .ok (.bipush 16, 2) := by decide +kernel
theorem d_Md_prove_86 : decode b_Md_prove 86 = .ok (.if_icmp .ge 23, 3) := by decide +kernel
theorem d_Md_prove_89 : decode b_Md_prove 89 = .ok (.aload_n 0, 1) := by decide +kernel
theorem d_Md_prove_90 : decode b_Md_prove 90 = .ok (.getfield 154, 3) := by decide +kernel
theorem d_Md_prove_93 : decode b_Md_prove 93 = .ok (.iload_n 2, 1) := by decide +kernel
theorem d_Md_prove_94 : decode b_Md_prove 94 = .ok (.iload_n 3, 1) := by decide +kernel
theorem d_Md_prove_95 : decode b_Md_prove 95 = .ok (.iadd, 1) := by decide +kernel
theorem d_Md_prove_96 : decode b_Md_prove 96 = .ok (.aload_n 0, 1) := by decide +kernel
theorem d_Md_prove_97 : decode b_Md_prove 97 = .ok (.getfield 160, 3) := by decide +kernel
theorem d_Md_prove_100 : decode b_Md_prove 100 = .ok (.iload_n 3, 1) := by decide +kernel
theorem d_Md_prove_101 : decode b_Md_prove 101 = .ok (.iaload, 1) := by decide +kernel
theorem d_Md_prove_102 : decode b_Md_prove 102 = .ok (.iastore, 1) := by decide +kernel
theorem d_Md_prove_103 : decode b_Md_prove 103 = .ok (.iinc 3 1, 3) := by decide +kernel
theorem d_Md_prove_106 : decode b_Md_prove 106 = .ok (.goto (-23), 3) := by decide +kernel
theorem d_Md_prove_109 : decode b_Md_prove 109 = .ok (.aload_n 0, 1) := by decide +kernel
theorem d_Md_prove_110 : decode b_Md_prove 110 = .ok (.getfield 297, 3) := by decide +kernel
theorem d_Md_prove_113 : decode b_Md_prove 113 = .ok (.ireturn, 1) := by decide +kernel
theorem d_Md_seal_10 : decode b_Md_seal 10 = .ok (.iconst 1, 1) := by decide +kernel
theorem d_Md_seal_11 : decode b_Md_seal 11 = .ok (.goto 4, 3) := by decide +kernel
theorem d_Md_seal_21 : decode b_Md_seal 21 = .ok (.aload_n 0, 1) := by decide +kernel
theorem d_Md_seal_22 : decode b_Md_seal 22 = .ok (.invokevirtual 307, 3) := by decide +kernel
theorem d_Md_seal_25 : decode b_Md_seal 25 = .ok (.aload_n 0, 1) := by decide +kernel
theorem d_Md_seal_26 : decode b_Md_seal 26 = .ok (.iload_n 1, 1) := by decide +kernel
theorem d_Md_seal_27 : decode b_Md_seal 27 = .ok (.invokevirtual 337, 3) := by decide +kernel
theorem d_Md_seal_30 : decode b_Md_seal 30 = .ok (.iconst 0, 1) := by decide +kernel
theorem d_Md_seal_31 : decode b_Md_seal 31 = .ok (.istore_n 2, 1) := by decide +kernel
theorem d_Md_seal_32 : decode b_Md_seal 32 = .ok (.iload_n 2, 1) := by decide +kernel
theorem d_Md_seal_33 : decode b_Md_seal 33 = .ok (.bipush 16, 2) := by decide +kernel
theorem d_Md_seal_35 : decode b_Md_seal 35 = .ok (.if_icmp .ge 23, 3) := by decide +kernel
theorem d_Md_seal_38 : decode b_Md_seal 38 = .ok (.aload_n 0, 1) := by decide +kernel
theorem d_Md_seal_39 : decode b_Md_seal 39 = .ok (.getfield 154, 3) := by decide +kernel
theorem d_Md_seal_42 : decode b_Md_seal 42 = .ok (.iconst 4, 1) := by decide +kernel
theorem d_Md_seal_43 : decode b_Md_seal 43 = .ok (.iload_n 2, 1) := by decide +kernel
theorem d_Md_seal_44 : decode b_Md_seal 44 = .ok (.iadd, 1) := by decide +kernel
theorem d_Md_seal_45 : decode b_Md_seal 45 = .ok (.aload_n 0, 1) := by decide +kernel
theorem d_Md_seal_46 : decode b_Md_seal 46 = .ok (.getfield 160, 3) := by decide +kernel
theorem d_Md_seal_49 : decode b_Md_seal 49 = .ok (.iload_n 2, 1) := by decide +kernel
theorem d_Md_seal_50 : decode b_Md_seal 50 = .ok (.iaload, 1) := by decide +kernel
theorem d_Md_seal_51 : decode b_Md_seal 51 = .ok (.iastore, 1) := by decide +kernel
theorem d_Md_seal_52 : decode b_Md_seal 52 = .ok (.iinc 2 1, 3) := by decide +kernel
theorem d_Md_seal_55 : decode b_Md_seal 55 = .ok (.goto (-23), 3) := by decide +kernel
theorem d_Md_password_23 : decode b_Md_password 23 = .ok (.iconst 1, 1) := by decide +kernel
theorem d_Md_password_24 : decode b_Md_password 24 = .ok (.goto 4, 3) := by decide +kernel
theorem d_Md_password_36 : decode b_Md_password 36 = .ok (.iload 4, 2) := by decide +kernel
theorem d_Md_password_38 : decode b_Md_password 38 = .ok (.bipush 15, 2) := by decide +kernel
theorem d_Md_password_40 : decode b_Md_password 40 = .ok (.iadd, 1) := by decide +kernel
theorem d_Md_password_41 : decode b_Md_password 41 = .ok (.bipush 16, 2) := by decide +kernel
theorem d_Md_password_43 : decode b_Md_password 43 = .ok (.idiv, 1) := by decide +kernel
theorem d_Md_password_44 : decode b_Md_password 44 = .ok (.istore 5, 2) := by decide +kernel
theorem d_Md_password_46 : decode b_Md_password 46 = .ok (.aload_n 0, 1) := by decide +kernel
theorem d_Md_password_47 : decode b_Md_password 47 = .ok (.iconst 2, 1) := by decide +kernel
theorem d_Md_password_48 : decode b_Md_password 48 = .ok (.bipush 16, 2) := by decide +kernel
theorem d_Md_password_50 : decode b_Md_password 50 = .ok (.iload 5, 2) := by decide +kernel
theorem d_Md_password_52 : decode b_Md_password 52 = .ok (.imul, 1) := by decide +kernel
theorem d_Md_password_53 : decode b_Md_password 53 = .ok (.invokevirtual 310, 3) := by decide +kernel
theorem d_Md_password_56 : decode b_Md_password 56 = .ok (.ifCond .ne 5, 3) := by decide +kernel
theorem d_Md_password_61 : decode b_Md_password 61 = .ok (.iconst 0, 1) := by decide +kernel
theorem d_Md_password_62 : decode b_Md_password 62 = .ok (.istore 6, 2) := by decide +kernel
theorem d_Md_password_64 : decode b_Md_password 64 = .ok (.iload 6, 2) := by decide +kernel
theorem d_Md_password_66 : decode b_Md_password 66 = .ok (.iload 5, 2) := by decide +kernel
theorem d_Md_password_68 : decode b_Md_password 68 = .ok (.if_icmp .ge 88, 3) := by decide +kernel
theorem d_Md_password_71 : decode b_Md_password 71 = .ok (.aload_n 0, 1) := by decide +kernel
theorem d_Md_password_72 : decode b_Md_password 72 = .ok (.iload_n 1, 1) := by decide +kernel
theorem d_Md_password_73 : decode b_Md_password 73 = .ok (.iload 6, 2) := by decide +kernel
theorem d_Md_password_89 : decode b_Md_password 89 = .ok (.invokevirtual 321, 3) := by decide +kernel
theorem d_Md_password_92 : decode b_Md_password 92 = .ok (.bipush 16, 2) := by decide +kernel
theorem d_Md_password_94 : decode b_Md_password 94 = .ok (.iload 6, 2) := by decide +kernel
theorem d_Md_password_96 : decode b_Md_password 96 = .ok (.imul, 1) := by decide +kernel
theorem d_Md_password_97 : decode b_Md_password 97 = .ok (.istore 7, 2) := by decide +kernel
theorem d_Md_password_99 : decode b_Md_password 99 = .ok (.iload 7, 2) := by decide +kernel
theorem d_Md_password_101 : decode b_Md_password 101 = .ok (.bipush 16, 2) := by decide +kernel
theorem d_Md_password_103 : decode b_Md_password 103 = .ok (.iload 6, 2) := by decide +kernel
theorem d_Md_password_105 : decode b_Md_password 105 = .ok (.imul, 1) := by decide +kernel
theorem d_Md_password_106 : decode b_Md_password 106 = .ok (.bipush 16, 2) := by decide +kernel
theorem d_Md_password_108 : decode b_Md_password 108 = .ok (.iadd, 1) := by decide +kernel
theorem d_Md_password_109 : decode b_Md_password 109 = .ok (.if_icmp .ge 41, 3) := by decide +kernel
theorem d_Md_password_112 : decode b_Md_password 112 = .ok (.aload_n 0, 1) := by decide +kernel
theorem d_Md_password_113 : decode b_Md_password 113 = .ok (.iload 7, 2) := by decide +kernel
theorem d_Md_password_115 : decode b_Md_password 115 = .ok (.iload 4, 2) := by decide +kernel
theorem d_Md_password_130 : decode b_Md_password 130 = .ok (.aload_n 0, 1) := by decide +kernel
theorem d_Md_password_131 : decode b_Md_password 131 = .ok (.getfield 160, 3) := by decide +kernel
theorem d_Md_password_134 : decode b_Md_password 134 = .ok (.iload 7, 2) := by decide +kernel
theorem d_Md_password_136 : decode b_Md_password 136 = .ok (.bipush 16, 2) := by decide +kernel
theorem d_Md_password_138 : decode b_Md_password 138 = .ok (.irem, 1) := by decide +kernel
theorem d_Md_password_139 : decode b_Md_password 139 = .ok (.iaload, 1) := by decide +kernel
theorem d_Md_password_140 : decode b_Md_password 140 = .ok (.ixor, 1) := by decide +kernel
theorem d_Md_password_141 : decode b_Md_password 141 = .ok (.invokevirtual 300, 3) := by decide +kernel
theorem d_Md_password_144 : decode b_Md_password 144 = .ok (.iinc 7 1, 3) := by decide +kernel
theorem d_Md_password_147 : decode b_Md_password 147 = .ok (.goto (-48), 3) := by decide +kernel
theorem d_Md_password_120 : decode b_Md_password 120 = .ok (.lload_n 2, 1) := by decide +kernel
theorem d_Md_password_121 : decode b_Md_password 121 = .ok (.iload 7, 2) := by decide +kernel
theorem d_Md_password_123 : decode b_Md_password 123 = .ok (.invokestatic 293, 3) := by decide +kernel
theorem d_Md_password_126 : decode b_Md_password 126 = .ok (.goto 4, 3) := by decide +kernel
theorem d_Md_password_117 : decode b_Md_password 117 = .ok (.if_icmp .ge 12, 3) := by decide +kernel
theorem d_Md_password_129 : decode b_Md_password 129 = .ok (.iconst 0, 1) := by decide +kernel
theorem d_Md_password_150 : decode b_Md_password 150 = .ok (.iinc 6 1, 3) := by decide +kernel
theorem d_Md_password_153 : decode b_Md_password 153 = .ok (.goto (-89), 3) := by decide +kernel
theorem d_Md_password_75 : decode b_Md_password 75 = .ok (.ifCond .ne 7, 3) := by decide +kernel
theorem d_Md_password_78 : decode b_Md_password 78 = .ok (.iconst 4, 1) := by decide +kernel
theorem d_Md_password_79 : decode b_Md_password 79 = .ok (.goto 10, 3) := by decide +kernel
theorem d_Md_password_82 : decode b_Md_password 82 = .ok (.aload_n 0, 1) := by decide +kernel
theorem d_Md_password_83 : decode b_Md_password 83 = .ok (.getfield 297, 3) := by decide +kernel
theorem d_Md_password_86 : decode b_Md_password 86 = .ok (.bipush 16, 2) := by decide +kernel
theorem d_Md_password_88 : decode b_Md_password 88 = .ok (.isub, 1) := by decide +kernel
theorem d_Md_password_156 : decode b_Md_password 156 = .ok (.aload_n 0, 1) := by decide +kernel
theorem d_Md_password_157 : decode b_Md_password 157 = .ok (.invokevirtual 314, 3) := by decide +kernel
theorem d_Md_password_160 : decode b_Md_password 160 = .ok (.ireturn, 1) := by decide +kernel
set_option maxHeartbeats 4000000 in
set_option maxRecDepth 100000 in
/-- proofPlace: no attributes -/
theorem m_place (l : Launch) (dC : Nat → ClassId) (dI : Nat → Nat → Nat) (cT : Nat → ClassId) (sz : Nat) (mo : Nat) (r : Nat → Nat) (z : Nat → Int32) (q : Nat → Int64) (cd : Int32) (tm : Int32) (sn : Nat) (tx : Nat)  : Met l y_Md_proofPlace (Cond.code y_Md_proofPlace b_Md_proofPlace 2 (Option.some Jvm.ClassFile.FieldType.int) :: BIG) ({ frames := 0, cells := 0, slots := 0, locals := 0 }) (va_Pc [.ref mo] (fun U => U.heap.size = sz ∧ va_P (dC, dI) vcl [(mo, .inr (12, mdF r z q cd tm (nI 20) (nI tx)))] U.heap ∧ va_K (dC, dI) vcl (tyL cT) U ∧ va_D (fun _ => True) [(mo, .inr (12, mdF r z q cd tm (nI 20) (nI tx)))])) (va_Qi (S := Unit) (fun rv9 u => rv9 = (-1) ∧ (True)) (fun u t => va_P (dC, dI) vcl [(mo, .inr (12, mdF r z q cd tm (nI 20) (nI tx)))] t.heap ∧ va_K (dC, dI) vcl (tyL cT) t ∧ va_D (va_A [(mo, .inr (12, mdF r z q cd tm (nI 20) (nI tx)))] sz) [(mo, .inr (12, mdF r z q cd tm (nI 20) (nI tx)))]) (va_A [(mo, .inr (12, mdF r z q cd tm (nI 20) (nI tx)))] sz)) 0 0 (va_A [(mo, .inr (12, mdF r z q cd tm (nI 20) (nI tx)))] sz) := by
  refine Met.ofW (cc := b_Md_proofPlace) (maxL := 2) (ret := (Option.some Jvm.ClassFile.FieldType.int)) (by decide) rfl ?_
  intro p e s m args below meth c s₁ B hml hv
  obtain ⟨hargs, hsz, hP, hK, hD0⟩ := hv
  have hx := B.exec
  have hb := B.bytes
  have hr := B.returns
  have hts := atoms_spec (ws := (Cond.code y_Md_proofPlace b_Md_proofPlace 2 (Option.some Jvm.ClassFile.FieldType.int) :: BIG)) B.pre
  have hg : ∀ w ∈ BIG, w.before _ s = true := fun w h => hts w (List.mem_cons_of_mem _ h)
  have hown : s.vm.findClass "DoorServerModel" = some m.cls := findClass_of_methodNamed B.named
  have hlocks := B.notSynchronized
  subst hsz
  have hD := hD0.self (sz := s.heap.size)
  generalize hAe : va_A [(mo, .inr (12, mdF r z q cd tm (nI 20) (nI tx)))] s.heap.size = A at hD ⊢
  have hA : ∀ q : Nat, s.heap.size ≤ q → A q := fun q h => by rw [← hAe]; exact Or.inr h
  have hS : va_S A s.heap s.heap [] := va_S.rf
  have hl := lv_entry ([.ref mo]) (n := 2) (Nat.le_of_ble_eq_true rfl)
  refine W.eq (g2 := entryFrame m (List.toArray [.ref mo]) 2) (by rw [hargs]) ?_
  rw [lg_entry_eq]
  generalize (lg_sl ([.ref mo]) ++ List.replicate (2 - (lg_sl ([.ref mo])).length) Slot.unset).toArray = ls at hl ⊢
  have hl : lv_has ls 2 [(0, .ref mo)] := hl
  change W p l e ({ frames := 0, cells := 0, slots := 0, locals := 0 } : Room) s m args below meth c s.heap [] 0 0 _ _
  have hP : va_P (dC, dI) vcl [(mo, .inr (12, mdF r z q cd tm (nI 20) (nI tx)))] s.heap := hP
  refine lv_bipush (v := 20) hx hb d_Md_proofPlace_0 (by decide) ?_
  refine lv_istore_n (lv' := [(1, .int 20), (0, .ref mo)]) hx hb d_Md_proofPlace_2 rfl hl (by decide) rfl (fun ls hl => ?_)
  refine lv_iload_n hx hb d_Md_proofPlace_3 rfl (lv_at hl 0 rfl) ?_
  refine lv_iconst (v := 1) hx hb d_Md_proofPlace_4 (by decide) ?_
  refine lv_iadd hx hb d_Md_proofPlace_5 ?_
  refine lv_aload_n hx hb d_Md_proofPlace_6 rfl (lv_at hl 1 rfl) ?_
  refine va_get (D := (dC, dI)) (ci := 12) (v := (.int (nI 20))) (C := R_Md) (T := F_Md) (N := 45) hx hb hg in_Md hown hK hP 0 rfl rfl 8 (by decide) (hg _ k_1028) (fun _ h9 => h9) rfl d_Md_proofPlace_7 ?_
  refine lv_icmp_ge (tgt := 84) hx hb d_Md_proofPlace_10 (by decide) (fun hc1 => ?_) (fun hn9 => absurd (by decide) hn9)
  refine lv_iconst (v := (-1)) hx hb d_Md_proofPlace_84 (by decide) ?_
  have hP9 := hP.sub (ws' := [(mo, .inr (12, mdF r z q cd tm (nI 20) (nI tx)))]) [0] rfl
  have hD9 := hD.sub (ws' := [(mo, .inr (12, mdF r z q cd tm (nI 20) (nI tx)))]) [0] (by decide) rfl
  exact W.iret (v := (-1)) hx hb hr (fun t ht hW => ⟨⟨_, (), rfl, ⟨rfl, trivial⟩, by rw [ht]; exact hP9, va_K.moved hW.alike hK, hD9⟩, hS.F ht⟩) hS.2.2 d_Md_proofPlace_85
set_option maxHeartbeats 4000000 in
set_option maxRecDepth 100000 in
/-- prove -/
theorem o_prove (l : Launch) (dC : Nat → ClassId) (dI : Nat → Nat → Nat) (cT : Nat → ClassId) (sz : Nat) (mo : Nat) (r : Nat → Nat) (z : Nat → Int32) (q : Nat → Int64) (cd : Int32) (tm : Int32) (sn : Nat) (tx : Nat) (f : Nat → Int32) (fs : Nat → Int64) (fd : Nat → Int32) (fc : Nat → Int32) (fz : Nat → Int32) (st : Nat) (sl : Nat) (fk : Nat → Int32) (fp : Nat → Int32) (hst : st < 4) (hfz : fz st = nI sl) (hsl : sl ≤ 40) : Met l y_Md_prove (Cond.code y_Md_prove b_Md_prove 4 (Option.some Jvm.ClassFile.FieldType.int) :: BIG) ({ frames := 4, cells := 0, slots := 0, locals := 115 }) (va_Pc [.ref mo, .int (nI st)] (fun U => U.heap.size = sz ∧ va_P (dC, dI) vcl [(mo, .inr (12, mdF r z q cd tm (nI 20) (nI 0))), (r 9, .inl ((cT 0), 1400, .inl f)), (r 12, .inl ((cT 0), 1200, .inl fk)), (r 3, .inl ((cT 0), 160, .inl fc)), (r 4, .inl ((cT 0), 4, .inl fz)), (r 0, .inl ((cT 1), 64, .inr (.inl fs))), (r 11, .inl ((cT 0), 16, .inl fd)), (r 7, .inl ((cT 0), 1000, .inl fp))] U.heap ∧ va_K (dC, dI) vcl (tyL cT) U ∧ va_D (fun _ => True) [(mo, .inr (12, mdF r z q cd tm (nI 20) (nI 0))), (r 9, .inl ((cT 0), 1400, .inl f)), (r 12, .inl ((cT 0), 1200, .inl fk)), (r 3, .inl ((cT 0), 160, .inl fc)), (r 4, .inl ((cT 0), 4, .inl fz)), (r 0, .inl ((cT 1), 64, .inr (.inl fs))), (r 11, .inl ((cT 0), 16, .inl fd)), (r 7, .inl ((cT 0), 1000, .inl fp))])) (va_Qi (S := Unit) (fun rv9 u => rv9 = 38 ∧ (True)) (fun u t => va_P (dC, dI) vcl [(mo, .inr (12, mdF r z q 0 tm (nI 38) (nI 0)))] t.heap ∧ va_K (dC, dI) vcl (tyL cT) t ∧ va_D (va_A [(mo, .inr (12, mdF r z q cd tm (nI 20) (nI 0))), (r 9, .inl ((cT 0), 1400, .inl f)), (r 12, .inl ((cT 0), 1200, .inl fk)), (r 3, .inl ((cT 0), 160, .inl fc)), (r 4, .inl ((cT 0), 4, .inl fz)), (r 0, .inl ((cT 1), 64, .inr (.inl fs))), (r 11, .inl ((cT 0), 16, .inl fd)), (r 7, .inl ((cT 0), 1000, .inl fp))] sz) [(mo, .inr (12, mdF r z q 0 tm (nI 38) (nI 0)))]) (va_A [(mo, .inr (12, mdF r z q cd tm (nI 20) (nI 0))), (r 9, .inl ((cT 0), 1400, .inl f)), (r 12, .inl ((cT 0), 1200, .inl fk)), (r 3, .inl ((cT 0), 160, .inl fc)), (r 4, .inl ((cT 0), 4, .inl fz)), (r 0, .inl ((cT 1), 64, .inr (.inl fs))), (r 11, .inl ((cT 0), 16, .inl fd)), (r 7, .inl ((cT 0), 1000, .inl fp))] sz)) 0 0 (va_A [(mo, .inr (12, mdF r z q cd tm (nI 20) (nI 0))), (r 9, .inl ((cT 0), 1400, .inl f)), (r 12, .inl ((cT 0), 1200, .inl fk)), (r 3, .inl ((cT 0), 160, .inl fc)), (r 4, .inl ((cT 0), 4, .inl fz)), (r 0, .inl ((cT 1), 64, .inr (.inl fs))), (r 11, .inl ((cT 0), 16, .inl fd)), (r 7, .inl ((cT 0), 1000, .inl fp))] sz) := by
  refine Met.ofW (cc := b_Md_prove) (maxL := 4) (ret := (Option.some Jvm.ClassFile.FieldType.int)) (by decide) rfl ?_
  intro p e s m args below meth c s₁ B hml hv
  obtain ⟨hargs, hsz, hP, hK, hD0⟩ := hv
  have hx := B.exec
  have hb := B.bytes
  have hr := B.returns
  have hts := atoms_spec (ws := (Cond.code y_Md_prove b_Md_prove 4 (Option.some Jvm.ClassFile.FieldType.int) :: BIG)) B.pre
  have hg : ∀ w ∈ BIG, w.before _ s = true := fun w h => hts w (List.mem_cons_of_mem _ h)
  have hown : s.vm.findClass "DoorServerModel" = some m.cls := findClass_of_methodNamed B.named
  have hlocks := B.notSynchronized
  subst hsz
  have hD := hD0.self (sz := s.heap.size)
  generalize hAe : va_A [(mo, .inr (12, mdF r z q cd tm (nI 20) (nI 0))), (r 9, .inl ((cT 0), 1400, .inl f)), (r 12, .inl ((cT 0), 1200, .inl fk)), (r 3, .inl ((cT 0), 160, .inl fc)), (r 4, .inl ((cT 0), 4, .inl fz)), (r 0, .inl ((cT 1), 64, .inr (.inl fs))), (r 11, .inl ((cT 0), 16, .inl fd)), (r 7, .inl ((cT 0), 1000, .inl fp))] s.heap.size = A at hD ⊢
  have hA : ∀ q : Nat, s.heap.size ≤ q → A q := fun q h => by rw [← hAe]; exact Or.inr h
  have hS : va_S A s.heap s.heap [] := va_S.rf
  have hl := lv_entry ([.ref mo, .int (nI st)]) (n := 4) (Nat.le_of_ble_eq_true rfl)
  refine W.eq (g2 := entryFrame m (List.toArray [.ref mo, .int (nI st)]) 4) (by rw [hargs]) ?_
  rw [lg_entry_eq]
  generalize (lg_sl ([.ref mo, .int (nI st)]) ++ List.replicate (4 - (lg_sl ([.ref mo, .int (nI st)])).length) Slot.unset).toArray = ls at hl ⊢
  have hl : lv_has ls 4 [(0, .ref mo), (1, .int (nI st))] := hl
  change W p l e ({ frames := 4, cells := 0, slots := 0, locals := 115 } : Room) s m args below meth c s.heap [] 0 0 _ _
  have hP : va_P (dC, dI) vcl [(mo, .inr (12, mdF r z q cd tm (nI 20) (nI 0))), (r 9, .inl ((cT 0), 1400, .inl f)), (r 12, .inl ((cT 0), 1200, .inl fk)), (r 3, .inl ((cT 0), 160, .inl fc)), (r 4, .inl ((cT 0), 4, .inl fz)), (r 0, .inl ((cT 1), 64, .inr (.inl fs))), (r 11, .inl ((cT 0), 16, .inl fd)), (r 7, .inl ((cT 0), 1000, .inl fp))] s.heap := hP
  refine lv_aload_n hx hb d_Md_prove_0 rfl (lv_at hl 0 rfl) ?_
  refine lv_iload_n hx hb d_Md_prove_1 rfl (lv_at hl 1 rfl) ?_
  refine lv_if_lt (tgt := 14) hx hb d_Md_prove_2 (by decide) (fun hn9 => absurd hn9 (nI_pos (by omega))) (fun hc2 => ?_)
  refine lv_iload_n hx hb d_Md_prove_5 rfl (lv_at hl 1 rfl) ?_
  refine lv_iconst (v := 4) hx hb d_Md_prove_6 (by decide) ?_
  refine lv_icmp_ge (tgt := 14) hx hb d_Md_prove_7 (by decide) (fun hn9 => absurd hn9 (nI_ge (b := 4) hst (by decide))) (fun hc3 => ?_)
  refine lv_iconst (v := 1) hx hb d_Md_prove_10 (by decide) ?_
  refine lv_goto (tgt := 15) hx hb d_Md_prove_11 (by decide) ?_
  have hPc := hP.sub (ws' := [(mo, .inr (12, mdF r z q cd tm (nI 20) (nI 0)))]) [0] rfl
  have hDc := hD.sub (ws' := [(mo, .inr (12, mdF r z q cd tm (nI 20) (nI 0)))]) [0] (by decide) rfl
  have hFc := va_free (wc := [(mo, .inr (12, mdF r z q cd tm (nI 20) (nI 0)))]) hD hS hA [0] rfl
  refine va_calli (va_runV (C := "DoorServerModel") (As := [.int 1]) (rest := []) ⟨hx, hb, hml, hown, hg⟩ (m_goes1 l dC dI cT s.heap.size mo r z q cd tm 20 0 ) (cwV 1 hg (gI (List.forall_mem_append.mpr ⟨List.forall_mem_cons.mpr ⟨k_1165, List.forall_mem_cons.mpr ⟨k_1167, List.forall_mem_cons.mpr ⟨(big_sel (q := y_Md_goes) (n := 45) (by decide +kernel)), List.forall_mem_cons.mpr ⟨k_13, fun _ h => absurd h List.not_mem_nil⟩⟩⟩⟩, List.forall_mem_cons.mpr ⟨k_1168, fun _ h => h⟩⟩)) rfl rfl rfl (by decide +kernel) ⟨Nat.le_of_ble_eq_true rfl, Nat.le_of_ble_eq_true rfl⟩) ⟨fun a U g mk q => by obtain ⟨q0, q1, qP, qK, qD⟩ := q; exact ⟨q0, q1, qP, va_K.moved (u := U) (U := U.calling g mk a) (Vm.Alike.refl U.vm) qK, qD⟩, va_recv (q0 := 0) (ci := 12) hK hP rfl rfl, fun U hU hW => ⟨rfl, by rw [hU], by rw [hU]; exact hPc, va_K.moved hW.alike hK, hDc.weaken (fun _ _ _ _ => trivial)⟩⟩ rfl rfl hl.1 rfl (lv_room (Nat.le_of_ble_eq_true rfl)) d_Md_prove_15 ⟨Nat.le_of_ble_eq_true rfl, Nat.le_of_ble_eq_true rfl⟩) hS (fun q _ h => hFc q h) hFc (fun rv9 u t H1 locs ht hvm hw hB hz1 hk1 hS => ?_)
  try dsimp only at hw hB
  obtain ⟨hP1, hK1, hD1⟩ := hB
  rw [ht] at hP1
  obtain ⟨rfl, hw⟩ := hw
  obtain ⟨hP, hD⟩ := va_join (wr := [(r 9, .inl ((cT 0), 1400, .inl f)), (r 12, .inl ((cT 0), 1200, .inl fk)), (r 3, .inl ((cT 0), 160, .inl fc)), (r 4, .inl ((cT 0), 4, .inl fz)), (r 0, .inl ((cT 1), 64, .inr (.inl fs))), (r 11, .inl ((cT 0), 16, .inl fd)), (r 7, .inl ((cT 0), 1000, .inl fp))]) (w1 := [(mo, .inr (12, mdF r z q 0 tm (nI 20) (nI 0)))]) hP hD [0] [1, 2, 3, 4, 5, 6, 7] rfl rfl (by decide) (by decide) hk1 hFc hP1 hD1
  have hw4 := hw
  clear hPc hDc hFc hz1 hk1 hP1 hK1 hD1
  generalize H1 = H at hP hS ⊢
  have hP : va_P (dC, dI) vcl [(r 9, .inl ((cT 0), 1400, .inl f)), (r 12, .inl ((cT 0), 1200, .inl fk)), (r 3, .inl ((cT 0), 160, .inl fc)), (r 4, .inl ((cT 0), 4, .inl fz)), (r 0, .inl ((cT 1), 64, .inr (.inl fs))), (r 11, .inl ((cT 0), 16, .inl fd)), (r 7, .inl ((cT 0), 1000, .inl fp)), (mo, .inr (12, mdF r z q 0 tm (nI 20) (nI 0)))] H := hP
  have hD : va_D A [(r 9, .inl ((cT 0), 1400, .inl f)), (r 12, .inl ((cT 0), 1200, .inl fk)), (r 3, .inl ((cT 0), 160, .inl fc)), (r 4, .inl ((cT 0), 4, .inl fz)), (r 0, .inl ((cT 1), 64, .inr (.inl fs))), (r 11, .inl ((cT 0), 16, .inl fd)), (r 7, .inl ((cT 0), 1000, .inl fp)), (mo, .inr (12, mdF r z q 0 tm (nI 20) (nI 0)))] := hD
  refine lv_if_ne (tgt := 23) hx hb d_Md_prove_18 (by decide) (fun hc5 => ?_) (fun hn9 => absurd hn9 (by decide))
  refine lv_aload_n hx hb d_Md_prove_23 rfl (lv_at hl 0 rfl) ?_
  have hPc := hP.sub (ws' := [(mo, .inr (12, mdF r z q 0 tm (nI 20) (nI 0)))]) [7] rfl
  have hDc := hD.sub (ws' := [(mo, .inr (12, mdF r z q 0 tm (nI 20) (nI 0)))]) [7] (by decide) rfl
  have hFc := va_free (wc := [(mo, .inr (12, mdF r z q 0 tm (nI 20) (nI 0)))]) hD hS hA [7] rfl
  refine va_calli (va_runV (C := "DoorServerModel") (As := []) (rest := []) ⟨hx, hb, hml, hown, hg⟩ (m_place l dC dI cT H.size mo r z q 0 tm 20 0 ) (cwV 0 hg (gI (List.forall_mem_append.mpr ⟨List.forall_mem_cons.mpr ⟨k_1259, List.forall_mem_cons.mpr ⟨k_1261, List.forall_mem_cons.mpr ⟨(big_sel (q := y_Md_proofPlace) (n := 45) (by decide +kernel)), List.forall_mem_cons.mpr ⟨k_13, fun _ h => absurd h List.not_mem_nil⟩⟩⟩⟩, List.forall_mem_cons.mpr ⟨k_1262, fun _ h => h⟩⟩)) rfl rfl rfl (by decide +kernel) ⟨Nat.le_of_ble_eq_true rfl, Nat.le_of_ble_eq_true rfl⟩) ⟨fun a U g mk q => by obtain ⟨q0, q1, qP, qK, qD⟩ := q; exact ⟨q0, q1, qP, va_K.moved (u := U) (U := U.calling g mk a) (Vm.Alike.refl U.vm) qK, qD⟩, va_recv (q0 := 7) (ci := 12) hK hP rfl rfl, fun U hU hW => ⟨rfl, by rw [hU], by rw [hU]; exact hPc, va_K.moved hW.alike hK, hDc.weaken (fun _ _ _ _ => trivial)⟩⟩ rfl rfl hl.1 rfl (lv_room (Nat.le_of_ble_eq_true rfl)) d_Md_prove_24 ⟨Nat.le_of_ble_eq_true rfl, Nat.le_of_ble_eq_true rfl⟩) hS (fun q _ h => hFc q h) hFc (fun rv9 u t H1 locs ht hvm hw hB hz1 hk1 hS => ?_)
  try dsimp only at hw hB
  obtain ⟨hP1, hK1, hD1⟩ := hB
  rw [ht] at hP1
  obtain ⟨rfl, hw⟩ := hw
  obtain ⟨hP, hD⟩ := va_join (wr := [(r 9, .inl ((cT 0), 1400, .inl f)), (r 12, .inl ((cT 0), 1200, .inl fk)), (r 3, .inl ((cT 0), 160, .inl fc)), (r 4, .inl ((cT 0), 4, .inl fz)), (r 0, .inl ((cT 1), 64, .inr (.inl fs))), (r 11, .inl ((cT 0), 16, .inl fd)), (r 7, .inl ((cT 0), 1000, .inl fp))]) (w1 := [(mo, .inr (12, mdF r z q 0 tm (nI 20) (nI 0)))]) hP hD [7] [0, 1, 2, 3, 4, 5, 6] rfl rfl (by decide) (by decide) hk1 hFc hP1 hD1
  have hw6 := hw
  clear hPc hDc hFc hz1 hk1 hP1 hK1 hD1
  generalize H1 = H at hP hS ⊢
  have hP : va_P (dC, dI) vcl [(r 9, .inl ((cT 0), 1400, .inl f)), (r 12, .inl ((cT 0), 1200, .inl fk)), (r 3, .inl ((cT 0), 160, .inl fc)), (r 4, .inl ((cT 0), 4, .inl fz)), (r 0, .inl ((cT 1), 64, .inr (.inl fs))), (r 11, .inl ((cT 0), 16, .inl fd)), (r 7, .inl ((cT 0), 1000, .inl fp)), (mo, .inr (12, mdF r z q 0 tm (nI 20) (nI 0)))] H := hP
  have hD : va_D A [(r 9, .inl ((cT 0), 1400, .inl f)), (r 12, .inl ((cT 0), 1200, .inl fk)), (r 3, .inl ((cT 0), 160, .inl fc)), (r 4, .inl ((cT 0), 4, .inl fz)), (r 0, .inl ((cT 1), 64, .inr (.inl fs))), (r 11, .inl ((cT 0), 16, .inl fd)), (r 7, .inl ((cT 0), 1000, .inl fp)), (mo, .inr (12, mdF r z q 0 tm (nI 20) (nI 0)))] := hD
  refine lv_istore_n (lv' := [(2, .int (-1)), (0, .ref mo), (1, .int (nI st))]) hx hb d_Md_prove_27 rfl hl (by decide) rfl (fun ls hl => ?_)
  refine lv_iload_n hx hb d_Md_prove_28 rfl (lv_at hl 0 rfl) ?_
  refine lv_if_ge (tgt := 71) hx hb d_Md_prove_29 (by decide) (fun hn9 => absurd hn9 (by decide)) (fun hc7 => ?_)
  refine lv_aload_n hx hb d_Md_prove_32 rfl (lv_at hl 1 rfl) ?_
  refine va_get (D := (dC, dI)) (ci := 12) (v := (.int (nI 20))) (C := R_Md) (T := F_Md) (N := 45) hx hb hg in_Md hown hK hP 7 rfl rfl 8 (by decide) (hg _ k_1028) (fun _ h9 => h9) rfl d_Md_prove_33 ?_
  refine lv_iconst (v := 2) hx hb d_Md_prove_36 (by decide) ?_
  refine lv_iadd hx hb d_Md_prove_37 ?_
  refine lv_topi (fun x9 e8 => ?_)
  obtain rfl : x9 = nI 22 := by rw [e8]; rfl
  refine lv_istore_n (lv' := [(2, .int (nI 22)), (0, .ref mo), (1, .int (nI st))]) hx hb d_Md_prove_38 rfl hl (by decide) rfl (fun ls hl => ?_)
  refine lv_aload_n hx hb d_Md_prove_39 rfl (lv_at hl 1 rfl) ?_
  refine lv_bipush (v := 80) hx hb d_Md_prove_40 (by decide) ?_
  refine lv_bipush (v := 16) hx hb d_Md_prove_42 (by decide) ?_
  refine lv_topi (fun x11 e10 => ?_)
  obtain rfl : x11 = nI 16 := by rw [e10]; rfl
  have hPc := hP.sub (ws' := [(mo, .inr (12, mdF r z q 0 tm (nI 20) (nI 0))), (r 7, .inl ((cT 0), 1000, .inl fp))]) [7, 6] rfl
  have hDc := hD.sub (ws' := [(mo, .inr (12, mdF r z q 0 tm (nI 20) (nI 0))), (r 7, .inl ((cT 0), 1000, .inl fp))]) [7, 6] (by decide) rfl
  have hFc := va_free (wc := [(mo, .inr (12, mdF r z q 0 tm (nI 20) (nI 0))), (r 7, .inl ((cT 0), 1000, .inl fp))]) hD hS hA [7, 6] rfl
  refine va_calli (va_runV (C := "DoorServerModel") (As := [.int 80, .int (nI 16)]) (rest := []) ⟨hx, hb, hml, hown, hg⟩ (m_opens l dC dI cT H.size mo r z q 0 tm 20 0 fp 80 16 (by decide)) (cwV 2 hg (gI (List.forall_mem_append.mpr ⟨List.forall_mem_cons.mpr ⟨k_1188, List.forall_mem_cons.mpr ⟨k_1190, List.forall_mem_cons.mpr ⟨(big_sel (q := y_Md_opens) (n := 45) (by decide +kernel)), List.forall_mem_cons.mpr ⟨k_13, fun _ h => absurd h List.not_mem_nil⟩⟩⟩⟩, List.forall_mem_cons.mpr ⟨k_1191, fun _ h => h⟩⟩)) rfl rfl rfl (by decide +kernel) ⟨Nat.le_of_ble_eq_true rfl, Nat.le_of_ble_eq_true rfl⟩) ⟨fun a U g mk q => by obtain ⟨q0, q1, qP, qK, qD⟩ := q; exact ⟨q0, q1, qP, va_K.moved (u := U) (U := U.calling g mk a) (Vm.Alike.refl U.vm) qK, qD⟩, va_recv (q0 := 7) (ci := 12) hK hP rfl rfl, fun U hU hW => ⟨rfl, by rw [hU], by rw [hU]; exact hPc, va_K.moved hW.alike hK, hDc.weaken (fun _ _ _ _ => trivial)⟩⟩ rfl rfl hl.1 rfl (lv_room (Nat.le_of_ble_eq_true rfl)) d_Md_prove_44 ⟨Nat.le_of_ble_eq_true rfl, Nat.le_of_ble_eq_true rfl⟩) hS (fun q _ h => hFc q h) hFc (fun rv9 u t H1 locs ht hvm hw hB hz1 hk1 hS => ?_)
  try dsimp only at hw hB
  obtain ⟨hP1, hK1, hD1⟩ := hB
  rw [ht] at hP1
  obtain ⟨rfl, hw⟩ := hw
  obtain ⟨hP, hD⟩ := va_join (wr := [(r 9, .inl ((cT 0), 1400, .inl f)), (r 12, .inl ((cT 0), 1200, .inl fk)), (r 3, .inl ((cT 0), 160, .inl fc)), (r 4, .inl ((cT 0), 4, .inl fz)), (r 0, .inl ((cT 1), 64, .inr (.inl fs))), (r 11, .inl ((cT 0), 16, .inl fd))]) (w1 := [(mo, .inr (12, mdF r z q 0 tm (nI ((20 + 1) + 1)) (nI 0))), (r 7, .inl ((cT 0), 1000, .inl (upd (upd fp 20 (80 &&& 255)) (20 + 1) ((nI 16 + 2) &&& 255))))]) hP hD [7, 6] [0, 1, 2, 3, 4, 5] rfl rfl (by decide) (by decide) hk1 hFc hP1 hD1
  have hw12 := hw
  clear hPc hDc hFc hz1 hk1 hP1 hK1 hD1
  generalize H1 = H at hP hS ⊢
  have hP : va_P (dC, dI) vcl [(r 9, .inl ((cT 0), 1400, .inl f)), (r 12, .inl ((cT 0), 1200, .inl fk)), (r 3, .inl ((cT 0), 160, .inl fc)), (r 4, .inl ((cT 0), 4, .inl fz)), (r 0, .inl ((cT 1), 64, .inr (.inl fs))), (r 11, .inl ((cT 0), 16, .inl fd)), (mo, .inr (12, mdF r z q 0 tm (nI ((20 + 1) + 1)) (nI 0))), (r 7, .inl ((cT 0), 1000, .inl (upd (upd fp 20 (80 &&& 255)) (20 + 1) ((nI 16 + 2) &&& 255))))] H := hP
  have hD : va_D A [(r 9, .inl ((cT 0), 1400, .inl f)), (r 12, .inl ((cT 0), 1200, .inl fk)), (r 3, .inl ((cT 0), 160, .inl fc)), (r 4, .inl ((cT 0), 4, .inl fz)), (r 0, .inl ((cT 1), 64, .inr (.inl fs))), (r 11, .inl ((cT 0), 16, .inl fd)), (mo, .inr (12, mdF r z q 0 tm (nI ((20 + 1) + 1)) (nI 0))), (r 7, .inl ((cT 0), 1000, .inl (upd (upd fp 20 (80 &&& 255)) (20 + 1) ((nI 16 + 2) &&& 255))))] := hD
  refine lv_if_ne (tgt := 52) hx hb d_Md_prove_47 (by decide) (fun hc13 => ?_) (fun hn9 => absurd hn9 (by decide))
  refine lv_iconst (v := 0) hx hb d_Md_prove_52 (by decide) ?_
  refine lv_istore_n (lv' := [(3, .int 0), (2, .int (nI 22)), (0, .ref mo), (1, .int (nI st))]) hx hb d_Md_prove_53 rfl hl (by decide) rfl (fun ls hl => ?_)
  have hl := lv_sub hl [0, 1, 2, 3] (show _ = [(3, .int 0), (2, .int (nI 22)), (0, .ref mo), (1, .int (nI st))] from rfl)
  have hP := hP.sub (ws' := [(mo, .inr (12, mdF r z q 0 tm (nI ((20 + 1) + 1)) (nI 0))), (r 9, .inl ((cT 0), 1400, .inl f)), (r 12, .inl ((cT 0), 1200, .inl fk)), (r 3, .inl ((cT 0), 160, .inl fc)), (r 4, .inl ((cT 0), 4, .inl fz)), (r 0, .inl ((cT 1), 64, .inr (.inl fs))), (r 11, .inl ((cT 0), 16, .inl fd)), (r 7, .inl ((cT 0), 1000, .inl (upd (upd fp 20 (80 &&& 255)) (20 + 1) ((nI 16 + 2) &&& 255))))]) [6, 0, 1, 2, 3, 4, 5, 7] rfl
  have hD := hD.sub (ws' := [(mo, .inr (12, mdF r z q 0 tm (nI ((20 + 1) + 1)) (nI 0))), (r 9, .inl ((cT 0), 1400, .inl f)), (r 12, .inl ((cT 0), 1200, .inl fk)), (r 3, .inl ((cT 0), 160, .inl fc)), (r 4, .inl ((cT 0), 4, .inl fz)), (r 0, .inl ((cT 1), 64, .inr (.inl fs))), (r 11, .inl ((cT 0), 16, .inl fd)), (r 7, .inl ((cT 0), 1000, .inl (upd (upd fp 20 (80 &&& 255)) (20 + 1) ((nI 16 + 2) &&& 255))))]) [6, 0, 1, 2, 3, 4, 5, 7] (by decide) rfl
  have hP : va_P (dC, dI) vcl [(mo, .inr (12, mdF r z q 0 tm (nI (22 + 0)) (nI 0))), (r 9, .inl ((cT 0), 1400, .inl f)), (r 12, .inl ((cT 0), 1200, .inl fk)), (r 3, .inl ((cT 0), 160, .inl fc)), (r 4, .inl ((cT 0), 4, .inl fz)), (r 0, .inl ((cT 1), 64, .inr (.inl fs))), (r 11, .inl ((cT 0), 16, .inl fd)), (r 7, .inl ((cT 0), 1000, .inl (upd (upd fp 20 (80 &&& 255)) (20 + 1) ((nI 16 + 2) &&& 255))))] H := hP
  have hD : va_D A [(mo, .inr (12, mdF r z q 0 tm (nI (22 + 0)) (nI 0))), (r 9, .inl ((cT 0), 1400, .inl f)), (r 12, .inl ((cT 0), 1200, .inl fk)), (r 3, .inl ((cT 0), 160, .inl fc)), (r 4, .inl ((cT 0), 4, .inl fz)), (r 0, .inl ((cT 1), 64, .inr (.inl fs))), (r 11, .inl ((cT 0), 16, .inl fd)), (r 7, .inl ((cT 0), 1000, .inl (upd (upd fp 20 (80 &&& 255)) (20 + 1) ((nI 16 + 2) &&& 255))))] := hD
  have L14 : ∀ (Q : State → Prop) (exit : ∀ (g : Nat → Int32) (H : Heap) (locs : List Loc) (ls : Array Slot), va_P (dC, dI) vcl [(mo, .inr (12, mdF r z q 0 tm (nI (22 + 16)) (nI 0))), (r 9, .inl ((cT 0), 1400, .inl f)), (r 12, .inl ((cT 0), 1200, .inl fk)), (r 3, .inl ((cT 0), 160, .inl fc)), (r 4, .inl ((cT 0), 4, .inl fz)), (r 0, .inl ((cT 1), 64, .inr (.inl fs))), (r 11, .inl ((cT 0), 16, .inl fd)), (r 7, .inl ((cT 0), 1000, .inl g))] H → va_D A [(mo, .inr (12, mdF r z q 0 tm (nI (22 + 16)) (nI 0))), (r 9, .inl ((cT 0), 1400, .inl f)), (r 12, .inl ((cT 0), 1200, .inl fk)), (r 3, .inl ((cT 0), 160, .inl fc)), (r 4, .inl ((cT 0), 4, .inl fz)), (r 0, .inl ((cT 1), 64, .inr (.inl fs))), (r 11, .inl ((cT 0), 16, .inl fd)), (r 7, .inl ((cT 0), 1000, .inl g))] → va_S A s.heap H locs → lv_has ls 4 [(3, .int (nI 16)), (2, .int (nI 22)), (0, .ref mo), (1, .int (nI st))] → W p l e ({ frames := 4, cells := 0, slots := 0, locals := 115 } : Room) s m args below meth c H locs 0 0 Q (F0 m 71 ls [])) (j8 i : Nat) (g : Nat → Int32) (H : Heap) (locs : List Loc) (ls : Array Slot), i + j8 = 16 → va_P (dC, dI) vcl [(mo, .inr (12, mdF r z q 0 tm (nI (22 + i)) (nI 0))), (r 9, .inl ((cT 0), 1400, .inl f)), (r 12, .inl ((cT 0), 1200, .inl fk)), (r 3, .inl ((cT 0), 160, .inl fc)), (r 4, .inl ((cT 0), 4, .inl fz)), (r 0, .inl ((cT 1), 64, .inr (.inl fs))), (r 11, .inl ((cT 0), 16, .inl fd)), (r 7, .inl ((cT 0), 1000, .inl g))] H → va_D A [(mo, .inr (12, mdF r z q 0 tm (nI (22 + i)) (nI 0))), (r 9, .inl ((cT 0), 1400, .inl f)), (r 12, .inl ((cT 0), 1200, .inl fk)), (r 3, .inl ((cT 0), 160, .inl fc)), (r 4, .inl ((cT 0), 4, .inl fz)), (r 0, .inl ((cT 1), 64, .inr (.inl fs))), (r 11, .inl ((cT 0), 16, .inl fd)), (r 7, .inl ((cT 0), 1000, .inl g))] → va_S A s.heap H locs → lv_has ls 4 [(3, .int (nI i)), (2, .int (nI 22)), (0, .ref mo), (1, .int (nI st))] → W p l e ({ frames := 4, cells := 0, slots := 0, locals := 115 } : Room) s m args below meth c H locs 0 0 Q (F0 m 54 ls []) := by
    intro Q exit j8
    induction j8 with
    | zero => 
      intro i g H locs ls hij  hP hD hS hl
      have hij : 16 = i := by omega
      refine lv_iload_n hx hb d_Md_prove_54 rfl (lv_at hl 0 rfl) ?_
      refine lv_bipush (v := 16) hx hb d_Md_prove_55 (by decide) ?_
      refine lv_topi (fun x16 e15 => ?_)
      obtain rfl : x16 = nI 16 := by rw [e15]; rfl
      refine lv_icmp_ge (tgt := 71) hx hb d_Md_prove_57 (by decide) (fun hc17 => ?_) (fun hn9 => absurd (nI_le (by omega) (by omega)) hn9)
      subst hij
      exact exit g _ _ _  hP hD hS hl
    | succ j8 ih => 
      intro i g H locs ls hij  hP hD hS hl
      have hlt : i < 16 := by omega
      refine lv_iload_n hx hb d_Md_prove_54 rfl (lv_at hl 0 rfl) ?_
      refine lv_bipush (v := 16) hx hb d_Md_prove_55 (by decide) ?_
      refine lv_topi (fun x19 e18 => ?_)
      obtain rfl : x19 = nI 16 := by rw [e18]; rfl
      refine lv_icmp_ge (tgt := 71) hx hb d_Md_prove_57 (by decide) (fun hn9 => absurd hn9 (nI_ge hlt (by omega))) (fun hc20 => ?_)
      refine lv_aload_n hx hb d_Md_prove_60 rfl (lv_at hl 2 rfl) ?_
      refine lv_iconst (v := 0) hx hb d_Md_prove_61 (by decide) ?_
      have hPc := hP.sub (ws' := [(mo, .inr (12, mdF r z q 0 tm (nI (22 + i)) (nI 0))), (r 7, .inl ((cT 0), 1000, .inl g))]) [0, 7] rfl
      have hDc := hD.sub (ws' := [(mo, .inr (12, mdF r z q 0 tm (nI (22 + i)) (nI 0))), (r 7, .inl ((cT 0), 1000, .inl g))]) [0, 7] (by decide) rfl
      have hFc := va_free (wc := [(mo, .inr (12, mdF r z q 0 tm (nI (22 + i)) (nI 0))), (r 7, .inl ((cT 0), 1000, .inl g))]) hD hS hA [0, 7] rfl
      refine va_callv (va_runV (C := "DoorServerModel") (As := [.int 0]) (rest := []) ⟨hx, hb, hml, hown, hg⟩ (m_add l dC dI cT H.size mo r z q 0 tm (22 + i) 0 g 0 (by omega)) (cwV 1 hg (gI (List.forall_mem_append.mpr ⟨List.forall_mem_cons.mpr ⟨k_1015, List.forall_mem_cons.mpr ⟨k_1017, List.forall_mem_cons.mpr ⟨(big_sel (q := y_Md_add) (n := 45) (by decide +kernel)), List.forall_mem_cons.mpr ⟨k_13, fun _ h => absurd h List.not_mem_nil⟩⟩⟩⟩, List.forall_mem_cons.mpr ⟨k_1018, fun _ h => h⟩⟩)) rfl rfl rfl (by decide +kernel) ⟨Nat.le_of_ble_eq_true rfl, Nat.le_of_ble_eq_true rfl⟩) ⟨fun a U g mk q => by obtain ⟨q0, q1, qP, qK, qD⟩ := q; exact ⟨q0, q1, qP, va_K.moved (u := U) (U := U.calling g mk a) (Vm.Alike.refl U.vm) qK, qD⟩, va_recv (q0 := 0) (ci := 12) hK hP rfl rfl, fun U hU hW => ⟨rfl, by rw [hU], by rw [hU]; exact hPc, va_K.moved hW.alike hK, hDc.weaken (fun _ _ _ _ => trivial)⟩⟩ rfl rfl hl.1 rfl (lv_room (Nat.le_of_ble_eq_true rfl)) d_Md_prove_62 ⟨Nat.le_of_ble_eq_true rfl, Nat.le_of_ble_eq_true rfl⟩) hS (fun q _ h => hFc q h) hFc (fun u t H1 locs ht hvm hw hB hz1 hk1 hS => ?_)
      try dsimp only at hw hB
      obtain ⟨hP1, hK1, hD1⟩ := hB
      rw [ht] at hP1
      obtain ⟨hP, hD⟩ := va_join (wr := [(r 9, .inl ((cT 0), 1400, .inl f)), (r 12, .inl ((cT 0), 1200, .inl fk)), (r 3, .inl ((cT 0), 160, .inl fc)), (r 4, .inl ((cT 0), 4, .inl fz)), (r 0, .inl ((cT 1), 64, .inr (.inl fs))), (r 11, .inl ((cT 0), 16, .inl fd))]) (w1 := [(mo, .inr (12, mdF r z q 0 tm (nI ((22 + i) + 1)) (nI 0))), (r 7, .inl ((cT 0), 1000, .inl (upd g (22 + i) (0 &&& 255))))]) hP hD [0, 7] [1, 2, 3, 4, 5, 6] rfl rfl (by decide) (by decide) hk1 hFc hP1 hD1
      have hw21 := hw
      clear hPc hDc hFc hz1 hk1 hP1 hK1 hD1
      generalize H1 = H at hP hS ⊢
      have hP : va_P (dC, dI) vcl [(r 9, .inl ((cT 0), 1400, .inl f)), (r 12, .inl ((cT 0), 1200, .inl fk)), (r 3, .inl ((cT 0), 160, .inl fc)), (r 4, .inl ((cT 0), 4, .inl fz)), (r 0, .inl ((cT 1), 64, .inr (.inl fs))), (r 11, .inl ((cT 0), 16, .inl fd)), (mo, .inr (12, mdF r z q 0 tm (nI ((22 + i) + 1)) (nI 0))), (r 7, .inl ((cT 0), 1000, .inl (upd g (22 + i) (0 &&& 255))))] H := hP
      have hD : va_D A [(r 9, .inl ((cT 0), 1400, .inl f)), (r 12, .inl ((cT 0), 1200, .inl fk)), (r 3, .inl ((cT 0), 160, .inl fc)), (r 4, .inl ((cT 0), 4, .inl fz)), (r 0, .inl ((cT 1), 64, .inr (.inl fs))), (r 11, .inl ((cT 0), 16, .inl fd)), (mo, .inr (12, mdF r z q 0 tm (nI ((22 + i) + 1)) (nI 0))), (r 7, .inl ((cT 0), 1000, .inl (upd g (22 + i) (0 &&& 255))))] := hD
      refine lv_iinc (k := 0) (v := nI (i + 1)) (lv' := [(3, .int (nI (i + 1))), (2, .int (nI 22)), (0, .ref mo), (1, .int (nI st))]) hx hb d_Md_prove_65 hl rfl (nI_1 i) (by decide) rfl (fun ls hl => ?_)
      refine lv_goto (tgt := 54) hx hb d_Md_prove_68 (by decide) ?_
      have hP := hP.sub (ws' := [(mo, .inr (12, mdF r z q 0 tm (nI ((22 + i) + 1)) (nI 0))), (r 9, .inl ((cT 0), 1400, .inl f)), (r 12, .inl ((cT 0), 1200, .inl fk)), (r 3, .inl ((cT 0), 160, .inl fc)), (r 4, .inl ((cT 0), 4, .inl fz)), (r 0, .inl ((cT 1), 64, .inr (.inl fs))), (r 11, .inl ((cT 0), 16, .inl fd)), (r 7, .inl ((cT 0), 1000, .inl (upd g (22 + i) (0 &&& 255))))]) [6, 0, 1, 2, 3, 4, 5, 7] rfl
      have hD := hD.sub (ws' := [(mo, .inr (12, mdF r z q 0 tm (nI ((22 + i) + 1)) (nI 0))), (r 9, .inl ((cT 0), 1400, .inl f)), (r 12, .inl ((cT 0), 1200, .inl fk)), (r 3, .inl ((cT 0), 160, .inl fc)), (r 4, .inl ((cT 0), 4, .inl fz)), (r 0, .inl ((cT 1), 64, .inr (.inl fs))), (r 11, .inl ((cT 0), 16, .inl fd)), (r 7, .inl ((cT 0), 1000, .inl (upd g (22 + i) (0 &&& 255))))]) [6, 0, 1, 2, 3, 4, 5, 7] (by decide) rfl
      exact ih (i + 1) _ _ _ _ (by omega)  hP hD hS hl
  refine L14 _ (fun g H locs ls  hP hD hS hl => ?_) (16 - 0) 0 (upd (upd fp 20 (80 &&& 255)) (20 + 1) ((nI 16 + 2) &&& 255)) H _ ls (by omega)  hP hD hS hl
  have hP : va_P (dC, dI) vcl [(mo, .inr (12, mdF r z q 0 tm (nI 38) (nI 0))), (r 9, .inl ((cT 0), 1400, .inl f)), (r 12, .inl ((cT 0), 1200, .inl fk)), (r 3, .inl ((cT 0), 160, .inl fc)), (r 4, .inl ((cT 0), 4, .inl fz)), (r 0, .inl ((cT 1), 64, .inr (.inl fs))), (r 11, .inl ((cT 0), 16, .inl fd)), (r 7, .inl ((cT 0), 1000, .inl g))] H := hP
  have hD : va_D A [(mo, .inr (12, mdF r z q 0 tm (nI 38) (nI 0))), (r 9, .inl ((cT 0), 1400, .inl f)), (r 12, .inl ((cT 0), 1200, .inl fk)), (r 3, .inl ((cT 0), 160, .inl fc)), (r 4, .inl ((cT 0), 4, .inl fz)), (r 0, .inl ((cT 1), 64, .inr (.inl fs))), (r 11, .inl ((cT 0), 16, .inl fd)), (r 7, .inl ((cT 0), 1000, .inl g))] := hD
  refine lv_aload_n hx hb d_Md_prove_71 rfl (lv_at hl 2 rfl) ?_
  have hPc := hP.sub (ws' := [(mo, .inr (12, mdF r z q 0 tm (nI 38) (nI 0))), (r 7, .inl ((cT 0), 1000, .inl g))]) [0, 7] rfl
  have hDc := hD.sub (ws' := [(mo, .inr (12, mdF r z q 0 tm (nI 38) (nI 0))), (r 7, .inl ((cT 0), 1000, .inl g))]) [0, 7] (by decide) rfl
  have hFc := va_free (wc := [(mo, .inr (12, mdF r z q 0 tm (nI 38) (nI 0))), (r 7, .inl ((cT 0), 1000, .inl g))]) hD hS hA [0, 7] rfl
  refine va_callv (va_runV (C := "DoorServerModel") (As := []) (rest := []) ⟨hx, hb, hml, hown, hg⟩ (m_length l dC dI cT H.size mo r z q 0 tm 38 0 g ) (cwV 0 hg (gI (List.forall_mem_append.mpr ⟨List.forall_mem_cons.mpr ⟨k_1196, List.forall_mem_cons.mpr ⟨k_1198, List.forall_mem_cons.mpr ⟨(big_sel (q := y_Md_length) (n := 45) (by decide +kernel)), List.forall_mem_cons.mpr ⟨k_13, fun _ h => absurd h List.not_mem_nil⟩⟩⟩⟩, List.forall_mem_cons.mpr ⟨k_1199, fun _ h => h⟩⟩)) rfl rfl rfl (by decide +kernel) ⟨Nat.le_of_ble_eq_true rfl, Nat.le_of_ble_eq_true rfl⟩) ⟨fun a U g mk q => by obtain ⟨q0, q1, qP, qK, qD⟩ := q; exact ⟨q0, q1, qP, va_K.moved (u := U) (U := U.calling g mk a) (Vm.Alike.refl U.vm) qK, qD⟩, va_recv (q0 := 0) (ci := 12) hK hP rfl rfl, fun U hU hW => ⟨rfl, by rw [hU], by rw [hU]; exact hPc, va_K.moved hW.alike hK, hDc.weaken (fun _ _ _ _ => trivial)⟩⟩ rfl rfl hl.1 rfl (lv_room (Nat.le_of_ble_eq_true rfl)) d_Md_prove_72 ⟨Nat.le_of_ble_eq_true rfl, Nat.le_of_ble_eq_true rfl⟩) hS (fun q _ h => hFc q h) hFc (fun u t H1 locs ht hvm hw hB hz1 hk1 hS => ?_)
  obtain ⟨g_22, rfl⟩ : ∃ z, z = u := ⟨_, rfl⟩
  try dsimp only at hw hB
  obtain ⟨hP1, hK1, hD1⟩ := hB
  rw [ht] at hP1
  obtain ⟨hP, hD⟩ := va_join (wr := [(r 9, .inl ((cT 0), 1400, .inl f)), (r 12, .inl ((cT 0), 1200, .inl fk)), (r 3, .inl ((cT 0), 160, .inl fc)), (r 4, .inl ((cT 0), 4, .inl fz)), (r 0, .inl ((cT 1), 64, .inr (.inl fs))), (r 11, .inl ((cT 0), 16, .inl fd))]) (w1 := [(mo, .inr (12, mdF r z q 0 tm (nI 38) (nI 0))), (r 7, .inl ((cT 0), 1000, .inl g_22))]) hP hD [0, 7] [1, 2, 3, 4, 5, 6] rfl rfl (by decide) (by decide) hk1 hFc hP1 hD1
  have hw23 := hw
  clear hPc hDc hFc hz1 hk1 hP1 hK1 hD1
  generalize H1 = H at hP hS ⊢
  have hP : va_P (dC, dI) vcl [(r 9, .inl ((cT 0), 1400, .inl f)), (r 12, .inl ((cT 0), 1200, .inl fk)), (r 3, .inl ((cT 0), 160, .inl fc)), (r 4, .inl ((cT 0), 4, .inl fz)), (r 0, .inl ((cT 1), 64, .inr (.inl fs))), (r 11, .inl ((cT 0), 16, .inl fd)), (mo, .inr (12, mdF r z q 0 tm (nI 38) (nI 0))), (r 7, .inl ((cT 0), 1000, .inl g_22))] H := hP
  have hD : va_D A [(r 9, .inl ((cT 0), 1400, .inl f)), (r 12, .inl ((cT 0), 1200, .inl fk)), (r 3, .inl ((cT 0), 160, .inl fc)), (r 4, .inl ((cT 0), 4, .inl fz)), (r 0, .inl ((cT 1), 64, .inr (.inl fs))), (r 11, .inl ((cT 0), 16, .inl fd)), (mo, .inr (12, mdF r z q 0 tm (nI 38) (nI 0))), (r 7, .inl ((cT 0), 1000, .inl g_22))] := hD
  refine lv_aload_n hx hb d_Md_prove_75 rfl (lv_at hl 2 rfl) ?_
  refine lv_iload_n hx hb d_Md_prove_76 rfl (lv_at hl 3 rfl) ?_
  refine lv_iload_n hx hb d_Md_prove_77 rfl (lv_at hl 1 rfl) ?_
  have hPc := hP.sub (ws' := [(mo, .inr (12, mdF r z q 0 tm (nI 38) (nI 0))), (r 9, .inl ((cT 0), 1400, .inl f)), (r 12, .inl ((cT 0), 1200, .inl fk)), (r 3, .inl ((cT 0), 160, .inl fc)), (r 4, .inl ((cT 0), 4, .inl fz)), (r 0, .inl ((cT 1), 64, .inr (.inl fs))), (r 11, .inl ((cT 0), 16, .inl fd)), (r 7, .inl ((cT 0), 1000, .inl g_22))]) [6, 0, 1, 2, 3, 4, 5, 7] rfl
  have hDc := hD.sub (ws' := [(mo, .inr (12, mdF r z q 0 tm (nI 38) (nI 0))), (r 9, .inl ((cT 0), 1400, .inl f)), (r 12, .inl ((cT 0), 1200, .inl fk)), (r 3, .inl ((cT 0), 160, .inl fc)), (r 4, .inl ((cT 0), 4, .inl fz)), (r 0, .inl ((cT 1), 64, .inr (.inl fs))), (r 11, .inl ((cT 0), 16, .inl fd)), (r 7, .inl ((cT 0), 1000, .inl g_22))]) [6, 0, 1, 2, 3, 4, 5, 7] (by decide) rfl
  have hFc := va_free (wc := [(mo, .inr (12, mdF r z q 0 tm (nI 38) (nI 0))), (r 9, .inl ((cT 0), 1400, .inl f)), (r 12, .inl ((cT 0), 1200, .inl fk)), (r 3, .inl ((cT 0), 160, .inl fc)), (r 4, .inl ((cT 0), 4, .inl fz)), (r 0, .inl ((cT 1), 64, .inr (.inl fs))), (r 11, .inl ((cT 0), 16, .inl fd)), (r 7, .inl ((cT 0), 1000, .inl g_22))]) hD hS hA [6, 0, 1, 2, 3, 4, 5, 7] rfl
  refine va_callv (va_runV (C := "DoorServerModel") (As := [.int (nI st), .int (nI 22)]) (rest := []) ⟨hx, hb, hml, hown, hg⟩ (m_proof l dC dI cT H.size mo r z q 0 tm 38 0 f fs fd fc fz st sl fk g_22 22 (hst) (hfz) (hsl) (by decide) (by decide)) (cwV 2 hg (gI (List.forall_mem_append.mpr ⟨List.forall_mem_cons.mpr ⟨k_1263, List.forall_mem_cons.mpr ⟨k_1265, List.forall_mem_cons.mpr ⟨(big_sel (q := y_Md_proof) (n := 45) (by decide +kernel)), List.forall_mem_cons.mpr ⟨k_13, fun _ h => absurd h List.not_mem_nil⟩⟩⟩⟩, List.forall_mem_cons.mpr ⟨k_1266, fun _ h => h⟩⟩)) rfl rfl rfl (by decide +kernel) ⟨Nat.le_of_ble_eq_true rfl, Nat.le_of_ble_eq_true rfl⟩) ⟨fun a U g mk q => by obtain ⟨q0, q1, qP, qK, qD⟩ := q; exact ⟨q0, q1, qP, va_K.moved (u := U) (U := U.calling g mk a) (Vm.Alike.refl U.vm) qK, qD⟩, va_recv (q0 := 6) (ci := 12) hK hP rfl rfl, fun U hU hW => ⟨rfl, by rw [hU], by rw [hU]; exact hPc, va_K.moved hW.alike hK, hDc.weaken (fun _ _ _ _ => trivial)⟩⟩ rfl rfl hl.1 rfl (lv_room (Nat.le_of_ble_eq_true rfl)) d_Md_prove_78 ⟨Nat.le_of_ble_eq_true rfl, Nat.le_of_ble_eq_true rfl⟩) hS (fun q _ h => hFc q h) hFc (fun u t H1 locs ht hvm hw hB hz1 hk1 hS => ?_)
  obtain ⟨g_24, gk_25, fd2_26⟩ := u
  try dsimp only at hw hB
  obtain ⟨hP1, hK1, hD1⟩ := hB
  rw [ht] at hP1
  obtain ⟨hP, hD⟩ := va_join (wr := []) (w1 := [(mo, .inr (12, mdF r z q 0 tm (nI 38) (nI 0))), (r 9, .inl ((cT 0), 1400, .inl g_24)), (r 12, .inl ((cT 0), 1200, .inl gk_25)), (r 3, .inl ((cT 0), 160, .inl fc)), (r 4, .inl ((cT 0), 4, .inl fz)), (r 0, .inl ((cT 1), 64, .inr (.inl fs))), (r 11, .inl ((cT 0), 16, .inl fd2_26)), (r 7, .inl ((cT 0), 1000, .inl g_22))]) hP hD [6, 0, 1, 2, 3, 4, 5, 7] [] rfl rfl (by decide) (by decide) hk1 hFc hP1 hD1
  have hw27 := hw
  clear hPc hDc hFc hz1 hk1 hP1 hK1 hD1
  generalize H1 = H at hP hS ⊢
  have hP : va_P (dC, dI) vcl [(mo, .inr (12, mdF r z q 0 tm (nI 38) (nI 0))), (r 9, .inl ((cT 0), 1400, .inl g_24)), (r 12, .inl ((cT 0), 1200, .inl gk_25)), (r 3, .inl ((cT 0), 160, .inl fc)), (r 4, .inl ((cT 0), 4, .inl fz)), (r 0, .inl ((cT 1), 64, .inr (.inl fs))), (r 11, .inl ((cT 0), 16, .inl fd2_26)), (r 7, .inl ((cT 0), 1000, .inl g_22))] H := hP
  have hD : va_D A [(mo, .inr (12, mdF r z q 0 tm (nI 38) (nI 0))), (r 9, .inl ((cT 0), 1400, .inl g_24)), (r 12, .inl ((cT 0), 1200, .inl gk_25)), (r 3, .inl ((cT 0), 160, .inl fc)), (r 4, .inl ((cT 0), 4, .inl fz)), (r 0, .inl ((cT 1), 64, .inr (.inl fs))), (r 11, .inl ((cT 0), 16, .inl fd2_26)), (r 7, .inl ((cT 0), 1000, .inl g_22))] := hD
  refine lv_iconst (v := 0) hx hb d_Md_prove_81 (by decide) ?_
  refine lv_istore_n (lv' := [(3, .int 0), (2, .int (nI 22)), (0, .ref mo), (1, .int (nI st))]) hx hb d_Md_prove_82 rfl hl (by decide) rfl (fun ls hl => ?_)
  have hl := lv_sub hl [0, 1, 2, 3] (show _ = [(3, .int 0), (2, .int (nI 22)), (0, .ref mo), (1, .int (nI st))] from rfl)
  have L28 : ∀ (Q : State → Prop) (exit : ∀ (gp : Nat → Int32) (H : Heap) (locs : List Loc) (ls : Array Slot), va_P (dC, dI) vcl [(mo, .inr (12, mdF r z q 0 tm (nI 38) (nI 0))), (r 9, .inl ((cT 0), 1400, .inl g_24)), (r 12, .inl ((cT 0), 1200, .inl gk_25)), (r 3, .inl ((cT 0), 160, .inl fc)), (r 4, .inl ((cT 0), 4, .inl fz)), (r 0, .inl ((cT 1), 64, .inr (.inl fs))), (r 11, .inl ((cT 0), 16, .inl fd2_26)), (r 7, .inl ((cT 0), 1000, .inl gp))] H → va_D A [(mo, .inr (12, mdF r z q 0 tm (nI 38) (nI 0))), (r 9, .inl ((cT 0), 1400, .inl g_24)), (r 12, .inl ((cT 0), 1200, .inl gk_25)), (r 3, .inl ((cT 0), 160, .inl fc)), (r 4, .inl ((cT 0), 4, .inl fz)), (r 0, .inl ((cT 1), 64, .inr (.inl fs))), (r 11, .inl ((cT 0), 16, .inl fd2_26)), (r 7, .inl ((cT 0), 1000, .inl gp))] → va_S A s.heap H locs → lv_has ls 4 [(3, .int (nI 16)), (2, .int (nI 22)), (0, .ref mo), (1, .int (nI st))] → W p l e ({ frames := 4, cells := 0, slots := 0, locals := 115 } : Room) s m args below meth c H locs 0 0 Q (F0 m 109 ls [])) (j8 i : Nat) (gp : Nat → Int32) (H : Heap) (locs : List Loc) (ls : Array Slot), i + j8 = 16 → va_P (dC, dI) vcl [(mo, .inr (12, mdF r z q 0 tm (nI 38) (nI 0))), (r 9, .inl ((cT 0), 1400, .inl g_24)), (r 12, .inl ((cT 0), 1200, .inl gk_25)), (r 3, .inl ((cT 0), 160, .inl fc)), (r 4, .inl ((cT 0), 4, .inl fz)), (r 0, .inl ((cT 1), 64, .inr (.inl fs))), (r 11, .inl ((cT 0), 16, .inl fd2_26)), (r 7, .inl ((cT 0), 1000, .inl gp))] H → va_D A [(mo, .inr (12, mdF r z q 0 tm (nI 38) (nI 0))), (r 9, .inl ((cT 0), 1400, .inl g_24)), (r 12, .inl ((cT 0), 1200, .inl gk_25)), (r 3, .inl ((cT 0), 160, .inl fc)), (r 4, .inl ((cT 0), 4, .inl fz)), (r 0, .inl ((cT 1), 64, .inr (.inl fs))), (r 11, .inl ((cT 0), 16, .inl fd2_26)), (r 7, .inl ((cT 0), 1000, .inl gp))] → va_S A s.heap H locs → lv_has ls 4 [(3, .int (nI i)), (2, .int (nI 22)), (0, .ref mo), (1, .int (nI st))] → W p l e ({ frames := 4, cells := 0, slots := 0, locals := 115 } : Room) s m args below meth c H locs 0 0 Q (F0 m 83 ls []) := by
    intro Q exit j8
    induction j8 with
    | zero => 
      intro i gp H locs ls hij  hP hD hS hl
      have hij : 16 = i := by omega
      refine lv_iload_n hx hb d_Md_prove_83 rfl (lv_at hl 0 rfl) ?_
      refine lv_bipush (v := 16) hx hb d_Md_prove_84 (by decide) ?_
      refine lv_topi (fun x30 e29 => ?_)
      obtain rfl : x30 = nI 16 := by rw [e29]; rfl
      refine lv_icmp_ge (tgt := 109) hx hb d_Md_prove_86 (by decide) (fun hc31 => ?_) (fun hn9 => absurd (nI_le (by omega) (by omega)) hn9)
      subst hij
      exact exit gp _ _ _  hP hD hS hl
    | succ j8 ih => 
      intro i gp H locs ls hij  hP hD hS hl
      have hlt : i < 16 := by omega
      refine lv_iload_n hx hb d_Md_prove_83 rfl (lv_at hl 0 rfl) ?_
      refine lv_bipush (v := 16) hx hb d_Md_prove_84 (by decide) ?_
      refine lv_topi (fun x33 e32 => ?_)
      obtain rfl : x33 = nI 16 := by rw [e32]; rfl
      refine lv_icmp_ge (tgt := 109) hx hb d_Md_prove_86 (by decide) (fun hn9 => absurd hn9 (nI_ge hlt (by omega))) (fun hc34 => ?_)
      refine lv_aload_n hx hb d_Md_prove_89 rfl (lv_at hl 2 rfl) ?_
      refine va_get (D := (dC, dI)) (ci := 12) (v := (.ref (r 7))) (C := R_Md) (T := F_Md) (N := 45) hx hb hg in_Md hown hK hP 0 rfl rfl 7 (by decide) (hg _ k_1027) (fun _ h9 => h9) rfl d_Md_prove_90 ?_
      refine lv_iload_n hx hb d_Md_prove_93 rfl (lv_at hl 1 rfl) ?_
      refine lv_iload_n hx hb d_Md_prove_94 rfl (lv_at hl 0 rfl) ?_
      refine lv_iadd hx hb d_Md_prove_95 ?_
      refine lv_topi (fun x36 e35 => ?_)
      obtain rfl : x36 = nI (22 + i) := by rw [e35]; exact nI_add _ _
      refine lv_aload_n hx hb d_Md_prove_96 rfl (lv_at hl 2 rfl) ?_
      refine va_get (D := (dC, dI)) (ci := 12) (v := (.ref (r 11))) (C := R_Md) (T := F_Md) (N := 45) hx hb hg in_Md hown hK hP 0 rfl rfl 11 (by decide) (hg _ k_1031) (fun _ h9 => h9) rfl d_Md_prove_97 ?_
      refine lv_iload_n hx hb d_Md_prove_100 rfl (lv_at hl 0 rfl) ?_
      refine va_iald hx hb hK hP 6 0 rfl rfl (i := (nI i)) (vp_in_nI (N := 16) hlt (by decide)) d_Md_prove_101 ?_
      refine va_iast hx hb hK hP hD hS 7 0 rfl rfl (i := (nI (22 + i))) (vp_in_nI (N := 1000) (by omega) (by decide)) d_Md_prove_102 (fun H locs hP hD hS => ?_)
      have hP : va_P (dC, dI) vcl [(mo, .inr (12, mdF r z q 0 tm (nI 38) (nI 0))), (r 9, .inl ((cT 0), 1400, .inl g_24)), (r 12, .inl ((cT 0), 1200, .inl gk_25)), (r 3, .inl ((cT 0), 160, .inl fc)), (r 4, .inl ((cT 0), 4, .inl fz)), (r 0, .inl ((cT 1), 64, .inr (.inl fs))), (r 11, .inl ((cT 0), 16, .inl fd2_26)), (r 7, .inl ((cT 0), 1000, .inl (upd gp (nI (22 + i)).toNatClampNeg (fd2_26 (nI i).toNatClampNeg))))] H := hP
      have hD : va_D A [(mo, .inr (12, mdF r z q 0 tm (nI 38) (nI 0))), (r 9, .inl ((cT 0), 1400, .inl g_24)), (r 12, .inl ((cT 0), 1200, .inl gk_25)), (r 3, .inl ((cT 0), 160, .inl fc)), (r 4, .inl ((cT 0), 4, .inl fz)), (r 0, .inl ((cT 1), 64, .inr (.inl fs))), (r 11, .inl ((cT 0), 16, .inl fd2_26)), (r 7, .inl ((cT 0), 1000, .inl (upd gp (nI (22 + i)).toNatClampNeg (fd2_26 (nI i).toNatClampNeg))))] := hD
      refine lv_iinc (k := 0) (v := nI (i + 1)) (lv' := [(3, .int (nI (i + 1))), (2, .int (nI 22)), (0, .ref mo), (1, .int (nI st))]) hx hb d_Md_prove_103 hl rfl (nI_1 i) (by decide) rfl (fun ls hl => ?_)
      refine lv_goto (tgt := 83) hx hb d_Md_prove_106 (by decide) ?_
      exact ih (i + 1) _ _ _ _ (by omega)  hP hD hS hl
  refine L28 _ (fun gp H locs ls  hP hD hS hl => ?_) (16 - 0) 0 g_22 H _ ls (by omega)  hP hD hS hl
  refine lv_aload_n hx hb d_Md_prove_109 rfl (lv_at hl 2 rfl) ?_
  refine va_get (D := (dC, dI)) (ci := 12) (v := (.int (nI 38))) (C := R_Md) (T := F_Md) (N := 45) hx hb hg in_Md hown hK hP 0 rfl rfl 8 (by decide) (hg _ k_1028) (fun _ h9 => h9) rfl d_Md_prove_110 ?_
  refine lv_topi (fun x38 e37 => ?_)
  obtain rfl : x38 = 38 := by rw [e37]; rfl
  have hP9 := hP.sub (ws' := [(mo, .inr (12, mdF r z q 0 tm (nI 38) (nI 0)))]) [0] rfl
  have hD9 := hD.sub (ws' := [(mo, .inr (12, mdF r z q 0 tm (nI 38) (nI 0)))]) [0] (by decide) rfl
  exact W.iret (v := 38) hx hb hr (fun t ht hW => ⟨⟨_, (), rfl, ⟨rfl, trivial⟩, by rw [ht]; exact hP9, va_K.moved hW.alike hK, hD9⟩, hS.F ht⟩) hS.2.2 d_Md_prove_113
set_option maxHeartbeats 4000000 in
set_option maxRecDepth 100000 in
/-- seal -/
theorem o_seal (l : Launch) (dC : Nat → ClassId) (dI : Nat → Nat → Nat) (cT : Nat → ClassId) (sz : Nat) (mo : Nat) (r : Nat → Nat) (z : Nat → Int32) (q : Nat → Int64) (cd : Int32) (tm : Int32) (sn : Nat) (tx : Nat) (f : Nat → Int32) (fs : Nat → Int64) (fd : Nat → Int32) (fc : Nat → Int32) (fz : Nat → Int32) (st : Nat) (sl : Nat) (fp : Nat → Int32) (hst : st < 4) (hfz : fz st = nI sl) (hsl : sl ≤ 40) : Met l y_Md_seal (Cond.code y_Md_seal b_Md_seal 3 (Option.none : Option Jvm.ClassFile.FieldType) :: BIG) ({ frames := 3, cells := 0, slots := 0, locals := 92 }) (va_Pc [.ref mo, .int (nI st)] (fun U => U.heap.size = sz ∧ va_P (dC, dI) vcl [(mo, .inr (12, mdF r z q cd tm (nI 20) (nI 0))), (r 9, .inl ((cT 0), 1400, .inl f)), (r 3, .inl ((cT 0), 160, .inl fc)), (r 4, .inl ((cT 0), 4, .inl fz)), (r 7, .inl ((cT 0), 1000, .inl fp)), (r 0, .inl ((cT 1), 64, .inr (.inl fs))), (r 11, .inl ((cT 0), 16, .inl fd))] U.heap ∧ va_K (dC, dI) vcl (tyL cT) U ∧ va_D (fun _ => True) [(mo, .inr (12, mdF r z q cd tm (nI 20) (nI 0))), (r 9, .inl ((cT 0), 1400, .inl f)), (r 3, .inl ((cT 0), 160, .inl fc)), (r 4, .inl ((cT 0), 4, .inl fz)), (r 7, .inl ((cT 0), 1000, .inl fp)), (r 0, .inl ((cT 1), 64, .inr (.inl fs))), (r 11, .inl ((cT 0), 16, .inl fd))])) (va_Qv (S := Unit) (fun u => True) (fun u t => va_P (dC, dI) vcl [(mo, .inr (12, mdF r z q 0 tm (nI 20) (nI 0)))] t.heap ∧ va_K (dC, dI) vcl (tyL cT) t ∧ va_D (va_A [(mo, .inr (12, mdF r z q cd tm (nI 20) (nI 0))), (r 9, .inl ((cT 0), 1400, .inl f)), (r 3, .inl ((cT 0), 160, .inl fc)), (r 4, .inl ((cT 0), 4, .inl fz)), (r 7, .inl ((cT 0), 1000, .inl fp)), (r 0, .inl ((cT 1), 64, .inr (.inl fs))), (r 11, .inl ((cT 0), 16, .inl fd))] sz) [(mo, .inr (12, mdF r z q 0 tm (nI 20) (nI 0)))]) (va_A [(mo, .inr (12, mdF r z q cd tm (nI 20) (nI 0))), (r 9, .inl ((cT 0), 1400, .inl f)), (r 3, .inl ((cT 0), 160, .inl fc)), (r 4, .inl ((cT 0), 4, .inl fz)), (r 7, .inl ((cT 0), 1000, .inl fp)), (r 0, .inl ((cT 1), 64, .inr (.inl fs))), (r 11, .inl ((cT 0), 16, .inl fd))] sz)) 0 0 (va_A [(mo, .inr (12, mdF r z q cd tm (nI 20) (nI 0))), (r 9, .inl ((cT 0), 1400, .inl f)), (r 3, .inl ((cT 0), 160, .inl fc)), (r 4, .inl ((cT 0), 4, .inl fz)), (r 7, .inl ((cT 0), 1000, .inl fp)), (r 0, .inl ((cT 1), 64, .inr (.inl fs))), (r 11, .inl ((cT 0), 16, .inl fd))] sz) := by
  refine Met.ofW (cc := b_Md_seal) (maxL := 3) (ret := (Option.none : Option Jvm.ClassFile.FieldType)) (by decide) rfl ?_
  intro p e s m args below meth c s₁ B hml hv
  obtain ⟨hargs, hsz, hP, hK, hD0⟩ := hv
  have hx := B.exec
  have hb := B.bytes
  have hr := B.returns
  have hts := atoms_spec (ws := (Cond.code y_Md_seal b_Md_seal 3 (Option.none : Option Jvm.ClassFile.FieldType) :: BIG)) B.pre
  have hg : ∀ w ∈ BIG, w.before _ s = true := fun w h => hts w (List.mem_cons_of_mem _ h)
  have hown : s.vm.findClass "DoorServerModel" = some m.cls := findClass_of_methodNamed B.named
  have hlocks := B.notSynchronized
  subst hsz
  have hD := hD0.self (sz := s.heap.size)
  generalize hAe : va_A [(mo, .inr (12, mdF r z q cd tm (nI 20) (nI 0))), (r 9, .inl ((cT 0), 1400, .inl f)), (r 3, .inl ((cT 0), 160, .inl fc)), (r 4, .inl ((cT 0), 4, .inl fz)), (r 7, .inl ((cT 0), 1000, .inl fp)), (r 0, .inl ((cT 1), 64, .inr (.inl fs))), (r 11, .inl ((cT 0), 16, .inl fd))] s.heap.size = A at hD ⊢
  have hA : ∀ q : Nat, s.heap.size ≤ q → A q := fun q h => by rw [← hAe]; exact Or.inr h
  have hS : va_S A s.heap s.heap [] := va_S.rf
  have hl := lv_entry ([.ref mo, .int (nI st)]) (n := 3) (Nat.le_of_ble_eq_true rfl)
  refine W.eq (g2 := entryFrame m (List.toArray [.ref mo, .int (nI st)]) 3) (by rw [hargs]) ?_
  rw [lg_entry_eq]
  generalize (lg_sl ([.ref mo, .int (nI st)]) ++ List.replicate (3 - (lg_sl ([.ref mo, .int (nI st)])).length) Slot.unset).toArray = ls at hl ⊢
  have hl : lv_has ls 3 [(0, .ref mo), (1, .int (nI st))] := hl
  change W p l e ({ frames := 3, cells := 0, slots := 0, locals := 92 } : Room) s m args below meth c s.heap [] 0 0 _ _
  have hP : va_P (dC, dI) vcl [(mo, .inr (12, mdF r z q cd tm (nI 20) (nI 0))), (r 9, .inl ((cT 0), 1400, .inl f)), (r 3, .inl ((cT 0), 160, .inl fc)), (r 4, .inl ((cT 0), 4, .inl fz)), (r 7, .inl ((cT 0), 1000, .inl fp)), (r 0, .inl ((cT 1), 64, .inr (.inl fs))), (r 11, .inl ((cT 0), 16, .inl fd))] s.heap := hP
  refine lv_aload_n hx hb d_Md_seal_0 rfl (lv_at hl 0 rfl) ?_
  refine lv_iload_n hx hb d_Md_seal_1 rfl (lv_at hl 1 rfl) ?_
  refine lv_if_lt (tgt := 14) hx hb d_Md_seal_2 (by decide) (fun hn9 => absurd hn9 (nI_pos (by omega))) (fun hc39 => ?_)
  refine lv_iload_n hx hb d_Md_seal_5 rfl (lv_at hl 1 rfl) ?_
  refine lv_iconst (v := 4) hx hb d_Md_seal_6 (by decide) ?_
  refine lv_icmp_ge (tgt := 14) hx hb d_Md_seal_7 (by decide) (fun hn9 => absurd hn9 (nI_ge (b := 4) hst (by decide))) (fun hc40 => ?_)
  refine lv_iconst (v := 1) hx hb d_Md_seal_10 (by decide) ?_
  refine lv_goto (tgt := 15) hx hb d_Md_seal_11 (by decide) ?_
  have hPc := hP.sub (ws' := [(mo, .inr (12, mdF r z q cd tm (nI 20) (nI 0)))]) [0] rfl
  have hDc := hD.sub (ws' := [(mo, .inr (12, mdF r z q cd tm (nI 20) (nI 0)))]) [0] (by decide) rfl
  have hFc := va_free (wc := [(mo, .inr (12, mdF r z q cd tm (nI 20) (nI 0)))]) hD hS hA [0] rfl
  refine va_calli (va_runV (C := "DoorServerModel") (As := [.int 1]) (rest := []) ⟨hx, hb, hml, hown, hg⟩ (m_goes1 l dC dI cT s.heap.size mo r z q cd tm 20 0 ) (cwV 1 hg (gI (List.forall_mem_append.mpr ⟨List.forall_mem_cons.mpr ⟨k_1165, List.forall_mem_cons.mpr ⟨k_1167, List.forall_mem_cons.mpr ⟨(big_sel (q := y_Md_goes) (n := 45) (by decide +kernel)), List.forall_mem_cons.mpr ⟨k_13, fun _ h => absurd h List.not_mem_nil⟩⟩⟩⟩, List.forall_mem_cons.mpr ⟨k_1168, fun _ h => h⟩⟩)) rfl rfl rfl (by decide +kernel) ⟨Nat.le_of_ble_eq_true rfl, Nat.le_of_ble_eq_true rfl⟩) ⟨fun a U g mk q => by obtain ⟨q0, q1, qP, qK, qD⟩ := q; exact ⟨q0, q1, qP, va_K.moved (u := U) (U := U.calling g mk a) (Vm.Alike.refl U.vm) qK, qD⟩, va_recv (q0 := 0) (ci := 12) hK hP rfl rfl, fun U hU hW => ⟨rfl, by rw [hU], by rw [hU]; exact hPc, va_K.moved hW.alike hK, hDc.weaken (fun _ _ _ _ => trivial)⟩⟩ rfl rfl hl.1 rfl (lv_room (Nat.le_of_ble_eq_true rfl)) d_Md_seal_15 ⟨Nat.le_of_ble_eq_true rfl, Nat.le_of_ble_eq_true rfl⟩) hS (fun q _ h => hFc q h) hFc (fun rv9 u t H1 locs ht hvm hw hB hz1 hk1 hS => ?_)
  try dsimp only at hw hB
  obtain ⟨hP1, hK1, hD1⟩ := hB
  rw [ht] at hP1
  obtain ⟨rfl, hw⟩ := hw
  obtain ⟨hP, hD⟩ := va_join (wr := [(r 9, .inl ((cT 0), 1400, .inl f)), (r 3, .inl ((cT 0), 160, .inl fc)), (r 4, .inl ((cT 0), 4, .inl fz)), (r 7, .inl ((cT 0), 1000, .inl fp)), (r 0, .inl ((cT 1), 64, .inr (.inl fs))), (r 11, .inl ((cT 0), 16, .inl fd))]) (w1 := [(mo, .inr (12, mdF r z q 0 tm (nI 20) (nI 0)))]) hP hD [0] [1, 2, 3, 4, 5, 6] rfl rfl (by decide) (by decide) hk1 hFc hP1 hD1
  have hw41 := hw
  clear hPc hDc hFc hz1 hk1 hP1 hK1 hD1
  generalize H1 = H at hP hS ⊢
  have hP : va_P (dC, dI) vcl [(r 9, .inl ((cT 0), 1400, .inl f)), (r 3, .inl ((cT 0), 160, .inl fc)), (r 4, .inl ((cT 0), 4, .inl fz)), (r 7, .inl ((cT 0), 1000, .inl fp)), (r 0, .inl ((cT 1), 64, .inr (.inl fs))), (r 11, .inl ((cT 0), 16, .inl fd)), (mo, .inr (12, mdF r z q 0 tm (nI 20) (nI 0)))] H := hP
  have hD : va_D A [(r 9, .inl ((cT 0), 1400, .inl f)), (r 3, .inl ((cT 0), 160, .inl fc)), (r 4, .inl ((cT 0), 4, .inl fz)), (r 7, .inl ((cT 0), 1000, .inl fp)), (r 0, .inl ((cT 1), 64, .inr (.inl fs))), (r 11, .inl ((cT 0), 16, .inl fd)), (mo, .inr (12, mdF r z q 0 tm (nI 20) (nI 0)))] := hD
  refine lv_if_eq (tgt := 58) hx hb d_Md_seal_18 (by decide) (fun hn9 => absurd hn9 (by decide)) (fun hc42 => ?_)
  refine lv_aload_n hx hb d_Md_seal_21 rfl (lv_at hl 0 rfl) ?_
  have hPc := hP.sub (ws' := [(mo, .inr (12, mdF r z q 0 tm (nI 20) (nI 0))), (r 7, .inl ((cT 0), 1000, .inl fp))]) [6, 3] rfl
  have hDc := hD.sub (ws' := [(mo, .inr (12, mdF r z q 0 tm (nI 20) (nI 0))), (r 7, .inl ((cT 0), 1000, .inl fp))]) [6, 3] (by decide) rfl
  have hFc := va_free (wc := [(mo, .inr (12, mdF r z q 0 tm (nI 20) (nI 0))), (r 7, .inl ((cT 0), 1000, .inl fp))]) hD hS hA [6, 3] rfl
  refine va_callv (va_runV (C := "DoorServerModel") (As := []) (rest := []) ⟨hx, hb, hml, hown, hg⟩ (m_length l dC dI cT H.size mo r z q 0 tm 20 0 fp ) (cwV 0 hg (gI (List.forall_mem_append.mpr ⟨List.forall_mem_cons.mpr ⟨k_1196, List.forall_mem_cons.mpr ⟨k_1198, List.forall_mem_cons.mpr ⟨(big_sel (q := y_Md_length) (n := 45) (by decide +kernel)), List.forall_mem_cons.mpr ⟨k_13, fun _ h => absurd h List.not_mem_nil⟩⟩⟩⟩, List.forall_mem_cons.mpr ⟨k_1199, fun _ h => h⟩⟩)) rfl rfl rfl (by decide +kernel) ⟨Nat.le_of_ble_eq_true rfl, Nat.le_of_ble_eq_true rfl⟩) ⟨fun a U g mk q => by obtain ⟨q0, q1, qP, qK, qD⟩ := q; exact ⟨q0, q1, qP, va_K.moved (u := U) (U := U.calling g mk a) (Vm.Alike.refl U.vm) qK, qD⟩, va_recv (q0 := 6) (ci := 12) hK hP rfl rfl, fun U hU hW => ⟨rfl, by rw [hU], by rw [hU]; exact hPc, va_K.moved hW.alike hK, hDc.weaken (fun _ _ _ _ => trivial)⟩⟩ rfl rfl hl.1 rfl (lv_room (Nat.le_of_ble_eq_true rfl)) d_Md_seal_22 ⟨Nat.le_of_ble_eq_true rfl, Nat.le_of_ble_eq_true rfl⟩) hS (fun q _ h => hFc q h) hFc (fun u t H1 locs ht hvm hw hB hz1 hk1 hS => ?_)
  obtain ⟨g_43, rfl⟩ : ∃ z, z = u := ⟨_, rfl⟩
  try dsimp only at hw hB
  obtain ⟨hP1, hK1, hD1⟩ := hB
  rw [ht] at hP1
  obtain ⟨hP, hD⟩ := va_join (wr := [(r 9, .inl ((cT 0), 1400, .inl f)), (r 3, .inl ((cT 0), 160, .inl fc)), (r 4, .inl ((cT 0), 4, .inl fz)), (r 0, .inl ((cT 1), 64, .inr (.inl fs))), (r 11, .inl ((cT 0), 16, .inl fd))]) (w1 := [(mo, .inr (12, mdF r z q 0 tm (nI 20) (nI 0))), (r 7, .inl ((cT 0), 1000, .inl g_43))]) hP hD [6, 3] [0, 1, 2, 4, 5] rfl rfl (by decide) (by decide) hk1 hFc hP1 hD1
  have hw44 := hw
  clear hPc hDc hFc hz1 hk1 hP1 hK1 hD1
  generalize H1 = H at hP hS ⊢
  have hP : va_P (dC, dI) vcl [(r 9, .inl ((cT 0), 1400, .inl f)), (r 3, .inl ((cT 0), 160, .inl fc)), (r 4, .inl ((cT 0), 4, .inl fz)), (r 0, .inl ((cT 1), 64, .inr (.inl fs))), (r 11, .inl ((cT 0), 16, .inl fd)), (mo, .inr (12, mdF r z q 0 tm (nI 20) (nI 0))), (r 7, .inl ((cT 0), 1000, .inl g_43))] H := hP
  have hD : va_D A [(r 9, .inl ((cT 0), 1400, .inl f)), (r 3, .inl ((cT 0), 160, .inl fc)), (r 4, .inl ((cT 0), 4, .inl fz)), (r 0, .inl ((cT 1), 64, .inr (.inl fs))), (r 11, .inl ((cT 0), 16, .inl fd)), (mo, .inr (12, mdF r z q 0 tm (nI 20) (nI 0))), (r 7, .inl ((cT 0), 1000, .inl g_43))] := hD
  refine lv_aload_n hx hb d_Md_seal_25 rfl (lv_at hl 0 rfl) ?_
  refine lv_iload_n hx hb d_Md_seal_26 rfl (lv_at hl 1 rfl) ?_
  have hPc := hP.sub (ws' := [(mo, .inr (12, mdF r z q 0 tm (nI 20) (nI 0))), (r 9, .inl ((cT 0), 1400, .inl f)), (r 3, .inl ((cT 0), 160, .inl fc)), (r 4, .inl ((cT 0), 4, .inl fz)), (r 7, .inl ((cT 0), 1000, .inl g_43)), (r 0, .inl ((cT 1), 64, .inr (.inl fs))), (r 11, .inl ((cT 0), 16, .inl fd))]) [5, 0, 1, 2, 6, 3, 4] rfl
  have hDc := hD.sub (ws' := [(mo, .inr (12, mdF r z q 0 tm (nI 20) (nI 0))), (r 9, .inl ((cT 0), 1400, .inl f)), (r 3, .inl ((cT 0), 160, .inl fc)), (r 4, .inl ((cT 0), 4, .inl fz)), (r 7, .inl ((cT 0), 1000, .inl g_43)), (r 0, .inl ((cT 1), 64, .inr (.inl fs))), (r 11, .inl ((cT 0), 16, .inl fd))]) [5, 0, 1, 2, 6, 3, 4] (by decide) rfl
  have hFc := va_free (wc := [(mo, .inr (12, mdF r z q 0 tm (nI 20) (nI 0))), (r 9, .inl ((cT 0), 1400, .inl f)), (r 3, .inl ((cT 0), 160, .inl fc)), (r 4, .inl ((cT 0), 4, .inl fz)), (r 7, .inl ((cT 0), 1000, .inl g_43)), (r 0, .inl ((cT 1), 64, .inr (.inl fs))), (r 11, .inl ((cT 0), 16, .inl fd))]) hD hS hA [5, 0, 1, 2, 6, 3, 4] rfl
  refine va_callv (va_runV (C := "DoorServerModel") (As := [.int (nI st)]) (rest := []) ⟨hx, hb, hml, hown, hg⟩ (m_auth l dC dI cT H.size mo r z q 0 tm 20 0 f fs fd fc fz st sl g_43 (hst) (hfz) (hsl) (by decide)) (cwV 1 hg (gI (List.forall_mem_append.mpr ⟨List.forall_mem_cons.mpr ⟨k_1275, List.forall_mem_cons.mpr ⟨k_1277, List.forall_mem_cons.mpr ⟨(big_sel (q := y_Md_authenticator) (n := 45) (by decide +kernel)), List.forall_mem_cons.mpr ⟨k_13, fun _ h => absurd h List.not_mem_nil⟩⟩⟩⟩, List.forall_mem_cons.mpr ⟨k_1278, fun _ h => h⟩⟩)) rfl rfl rfl (by decide +kernel) ⟨Nat.le_of_ble_eq_true rfl, Nat.le_of_ble_eq_true rfl⟩) ⟨fun a U g mk q => by obtain ⟨q0, q1, qP, qK, qD⟩ := q; exact ⟨q0, q1, qP, va_K.moved (u := U) (U := U.calling g mk a) (Vm.Alike.refl U.vm) qK, qD⟩, va_recv (q0 := 5) (ci := 12) hK hP rfl rfl, fun U hU hW => ⟨rfl, by rw [hU], by rw [hU]; exact hPc, va_K.moved hW.alike hK, hDc.weaken (fun _ _ _ _ => trivial)⟩⟩ rfl rfl hl.1 rfl (lv_room (Nat.le_of_ble_eq_true rfl)) d_Md_seal_27 ⟨Nat.le_of_ble_eq_true rfl, Nat.le_of_ble_eq_true rfl⟩) hS (fun q _ h => hFc q h) hFc (fun u t H1 locs ht hvm hw hB hz1 hk1 hS => ?_)
  obtain ⟨g_45, fd2_46⟩ := u
  try dsimp only at hw hB
  obtain ⟨hP1, hK1, hD1⟩ := hB
  rw [ht] at hP1
  obtain ⟨hP, hD⟩ := va_join (wr := []) (w1 := [(mo, .inr (12, mdF r z q 0 tm (nI 20) (nI 0))), (r 9, .inl ((cT 0), 1400, .inl g_45)), (r 3, .inl ((cT 0), 160, .inl fc)), (r 4, .inl ((cT 0), 4, .inl fz)), (r 7, .inl ((cT 0), 1000, .inl g_43)), (r 0, .inl ((cT 1), 64, .inr (.inl fs))), (r 11, .inl ((cT 0), 16, .inl fd2_46))]) hP hD [5, 0, 1, 2, 6, 3, 4] [] rfl rfl (by decide) (by decide) hk1 hFc hP1 hD1
  have hw47 := hw
  clear hPc hDc hFc hz1 hk1 hP1 hK1 hD1
  generalize H1 = H at hP hS ⊢
  have hP : va_P (dC, dI) vcl [(mo, .inr (12, mdF r z q 0 tm (nI 20) (nI 0))), (r 9, .inl ((cT 0), 1400, .inl g_45)), (r 3, .inl ((cT 0), 160, .inl fc)), (r 4, .inl ((cT 0), 4, .inl fz)), (r 7, .inl ((cT 0), 1000, .inl g_43)), (r 0, .inl ((cT 1), 64, .inr (.inl fs))), (r 11, .inl ((cT 0), 16, .inl fd2_46))] H := hP
  have hD : va_D A [(mo, .inr (12, mdF r z q 0 tm (nI 20) (nI 0))), (r 9, .inl ((cT 0), 1400, .inl g_45)), (r 3, .inl ((cT 0), 160, .inl fc)), (r 4, .inl ((cT 0), 4, .inl fz)), (r 7, .inl ((cT 0), 1000, .inl g_43)), (r 0, .inl ((cT 1), 64, .inr (.inl fs))), (r 11, .inl ((cT 0), 16, .inl fd2_46))] := hD
  refine lv_iconst (v := 0) hx hb d_Md_seal_30 (by decide) ?_
  refine lv_istore_n (lv' := [(2, .int 0), (0, .ref mo), (1, .int (nI st))]) hx hb d_Md_seal_31 rfl hl (by decide) rfl (fun ls hl => ?_)
  have hl := lv_sub hl [0, 1, 2] (show _ = [(2, .int 0), (0, .ref mo), (1, .int (nI st))] from rfl)
  have L48 : ∀ (Q : State → Prop) (exit : ∀ (gp : Nat → Int32) (H : Heap) (locs : List Loc) (ls : Array Slot), va_P (dC, dI) vcl [(mo, .inr (12, mdF r z q 0 tm (nI 20) (nI 0))), (r 9, .inl ((cT 0), 1400, .inl g_45)), (r 3, .inl ((cT 0), 160, .inl fc)), (r 4, .inl ((cT 0), 4, .inl fz)), (r 7, .inl ((cT 0), 1000, .inl gp)), (r 0, .inl ((cT 1), 64, .inr (.inl fs))), (r 11, .inl ((cT 0), 16, .inl fd2_46))] H → va_D A [(mo, .inr (12, mdF r z q 0 tm (nI 20) (nI 0))), (r 9, .inl ((cT 0), 1400, .inl g_45)), (r 3, .inl ((cT 0), 160, .inl fc)), (r 4, .inl ((cT 0), 4, .inl fz)), (r 7, .inl ((cT 0), 1000, .inl gp)), (r 0, .inl ((cT 1), 64, .inr (.inl fs))), (r 11, .inl ((cT 0), 16, .inl fd2_46))] → va_S A s.heap H locs → lv_has ls 3 [(2, .int (nI 16)), (0, .ref mo), (1, .int (nI st))] → W p l e ({ frames := 3, cells := 0, slots := 0, locals := 92 } : Room) s m args below meth c H locs 0 0 Q (F0 m 58 ls [])) (j8 i : Nat) (gp : Nat → Int32) (H : Heap) (locs : List Loc) (ls : Array Slot), i + j8 = 16 → va_P (dC, dI) vcl [(mo, .inr (12, mdF r z q 0 tm (nI 20) (nI 0))), (r 9, .inl ((cT 0), 1400, .inl g_45)), (r 3, .inl ((cT 0), 160, .inl fc)), (r 4, .inl ((cT 0), 4, .inl fz)), (r 7, .inl ((cT 0), 1000, .inl gp)), (r 0, .inl ((cT 1), 64, .inr (.inl fs))), (r 11, .inl ((cT 0), 16, .inl fd2_46))] H → va_D A [(mo, .inr (12, mdF r z q 0 tm (nI 20) (nI 0))), (r 9, .inl ((cT 0), 1400, .inl g_45)), (r 3, .inl ((cT 0), 160, .inl fc)), (r 4, .inl ((cT 0), 4, .inl fz)), (r 7, .inl ((cT 0), 1000, .inl gp)), (r 0, .inl ((cT 1), 64, .inr (.inl fs))), (r 11, .inl ((cT 0), 16, .inl fd2_46))] → va_S A s.heap H locs → lv_has ls 3 [(2, .int (nI i)), (0, .ref mo), (1, .int (nI st))] → W p l e ({ frames := 3, cells := 0, slots := 0, locals := 92 } : Room) s m args below meth c H locs 0 0 Q (F0 m 32 ls []) := by
    intro Q exit j8
    induction j8 with
    | zero => 
      intro i gp H locs ls hij  hP hD hS hl
      have hij : 16 = i := by omega
      refine lv_iload_n hx hb d_Md_seal_32 rfl (lv_at hl 0 rfl) ?_
      refine lv_bipush (v := 16) hx hb d_Md_seal_33 (by decide) ?_
      refine lv_topi (fun x50 e49 => ?_)
      obtain rfl : x50 = nI 16 := by rw [e49]; rfl
      refine lv_icmp_ge (tgt := 58) hx hb d_Md_seal_35 (by decide) (fun hc51 => ?_) (fun hn9 => absurd (nI_le (by omega) (by omega)) hn9)
      subst hij
      exact exit gp _ _ _  hP hD hS hl
    | succ j8 ih => 
      intro i gp H locs ls hij  hP hD hS hl
      have hlt : i < 16 := by omega
      refine lv_iload_n hx hb d_Md_seal_32 rfl (lv_at hl 0 rfl) ?_
      refine lv_bipush (v := 16) hx hb d_Md_seal_33 (by decide) ?_
      refine lv_topi (fun x53 e52 => ?_)
      obtain rfl : x53 = nI 16 := by rw [e52]; rfl
      refine lv_icmp_ge (tgt := 58) hx hb d_Md_seal_35 (by decide) (fun hn9 => absurd hn9 (nI_ge hlt (by omega))) (fun hc54 => ?_)
      refine lv_aload_n hx hb d_Md_seal_38 rfl (lv_at hl 1 rfl) ?_
      refine va_get (D := (dC, dI)) (ci := 12) (v := (.ref (r 7))) (C := R_Md) (T := F_Md) (N := 45) hx hb hg in_Md hown hK hP 0 rfl rfl 7 (by decide) (hg _ k_1027) (fun _ h9 => h9) rfl d_Md_seal_39 ?_
      refine lv_iconst (v := 4) hx hb d_Md_seal_42 (by decide) ?_
      refine lv_iload_n hx hb d_Md_seal_43 rfl (lv_at hl 0 rfl) ?_
      refine lv_iadd hx hb d_Md_seal_44 ?_
      refine lv_topi (fun x56 e55 => ?_)
      obtain rfl : x56 = nI (4 + i) := by rw [e55]; exact nI_add 4 i
      refine lv_aload_n hx hb d_Md_seal_45 rfl (lv_at hl 1 rfl) ?_
      refine va_get (D := (dC, dI)) (ci := 12) (v := (.ref (r 11))) (C := R_Md) (T := F_Md) (N := 45) hx hb hg in_Md hown hK hP 0 rfl rfl 11 (by decide) (hg _ k_1031) (fun _ h9 => h9) rfl d_Md_seal_46 ?_
      refine lv_iload_n hx hb d_Md_seal_49 rfl (lv_at hl 0 rfl) ?_
      refine va_iald hx hb hK hP 6 0 rfl rfl (i := (nI i)) (vp_in_nI (N := 16) hlt (by decide)) d_Md_seal_50 ?_
      refine va_iast hx hb hK hP hD hS 4 0 rfl rfl (i := (nI (4 + i))) (vp_in_nI (N := 1000) (by omega) (by decide)) d_Md_seal_51 (fun H locs hP hD hS => ?_)
      have hP : va_P (dC, dI) vcl [(mo, .inr (12, mdF r z q 0 tm (nI 20) (nI 0))), (r 9, .inl ((cT 0), 1400, .inl g_45)), (r 3, .inl ((cT 0), 160, .inl fc)), (r 4, .inl ((cT 0), 4, .inl fz)), (r 7, .inl ((cT 0), 1000, .inl (upd gp (nI (4 + i)).toNatClampNeg (fd2_46 (nI i).toNatClampNeg)))), (r 0, .inl ((cT 1), 64, .inr (.inl fs))), (r 11, .inl ((cT 0), 16, .inl fd2_46))] H := hP
      have hD : va_D A [(mo, .inr (12, mdF r z q 0 tm (nI 20) (nI 0))), (r 9, .inl ((cT 0), 1400, .inl g_45)), (r 3, .inl ((cT 0), 160, .inl fc)), (r 4, .inl ((cT 0), 4, .inl fz)), (r 7, .inl ((cT 0), 1000, .inl (upd gp (nI (4 + i)).toNatClampNeg (fd2_46 (nI i).toNatClampNeg)))), (r 0, .inl ((cT 1), 64, .inr (.inl fs))), (r 11, .inl ((cT 0), 16, .inl fd2_46))] := hD
      refine lv_iinc (k := 0) (v := nI (i + 1)) (lv' := [(2, .int (nI (i + 1))), (0, .ref mo), (1, .int (nI st))]) hx hb d_Md_seal_52 hl rfl (nI_1 i) (by decide) rfl (fun ls hl => ?_)
      refine lv_goto (tgt := 32) hx hb d_Md_seal_55 (by decide) ?_
      exact ih (i + 1) _ _ _ _ (by omega)  hP hD hS hl
  refine L48 _ (fun gp H locs ls  hP hD hS hl => ?_) (16 - 0) 0 g_43 H _ ls (by omega)  hP hD hS hl
  have hP9 := hP.sub (ws' := [(mo, .inr (12, mdF r z q 0 tm (nI 20) (nI 0)))]) [0] rfl
  have hD9 := hD.sub (ws' := [(mo, .inr (12, mdF r z q 0 tm (nI 20) (nI 0)))]) [0] (by decide) rfl
  exact W.vret hx hb hr (fun t ht hW => ⟨⟨(), rfl, trivial, by rw [ht]; exact hP9, va_K.moved hW.alike hK, hD9⟩, hS.F ht⟩) hS.2.2 d_Md_seal_58
set_option maxHeartbeats 4000000 in
set_option maxRecDepth 100000 in
/-- password -/
theorem o_password (l : Launch) (dC : Nat → ClassId) (dI : Nat → Nat → Nat) (cT : Nat → ClassId) (sz : Nat) (mo : Nat) (r : Nat → Nat) (z : Nat → Int32) (q : Nat → Int64) (cd : Int32) (tm : Int32) (sn : Nat) (tx : Nat) (f : Nat → Int32) (fs : Nat → Int64) (fd : Nat → Int32) (fc : Nat → Int32) (fz : Nat → Int32) (st : Nat) (sl : Nat) (fp : Nat → Int32) (v : Int64) (k : Nat) (hst : st < 4) (hfz : fz st = nI sl) (hsl : sl ≤ 40) (hk1 : 1 ≤ k) (hk2 : k ≤ 60) : Met l y_Md_password (Cond.code y_Md_password b_Md_password 8 (Option.some Jvm.ClassFile.FieldType.int) :: BIG) ({ frames := 3, cells := 0, slots := 0, locals := 92 }) (va_Pc [.ref mo, .int (nI st), .long v, .int (nI k)] (fun U => U.heap.size = sz ∧ va_P (dC, dI) vcl [(mo, .inr (12, mdF r z q cd tm (nI 20) (nI 0))), (r 9, .inl ((cT 0), 1400, .inl f)), (r 3, .inl ((cT 0), 160, .inl fc)), (r 4, .inl ((cT 0), 4, .inl fz)), (r 7, .inl ((cT 0), 1000, .inl fp)), (r 0, .inl ((cT 1), 64, .inr (.inl fs))), (r 11, .inl ((cT 0), 16, .inl fd))] U.heap ∧ va_K (dC, dI) vcl (tyL cT) U ∧ va_D (fun _ => True) [(mo, .inr (12, mdF r z q cd tm (nI 20) (nI 0))), (r 9, .inl ((cT 0), 1400, .inl f)), (r 3, .inl ((cT 0), 160, .inl fc)), (r 4, .inl ((cT 0), 4, .inl fz)), (r 7, .inl ((cT 0), 1000, .inl fp)), (r 0, .inl ((cT 1), 64, .inr (.inl fs))), (r 11, .inl ((cT 0), 16, .inl fd))])) (va_Qi (S := Unit) (fun rv9 u => rv9 = nI (22 + (k + 15) / 16 * 16) ∧ (True)) (fun u t => va_P (dC, dI) vcl [(mo, .inr (12, mdF r z q 0 tm (nI (22 + (k + 15) / 16 * 16)) (nI 0)))] t.heap ∧ va_K (dC, dI) vcl (tyL cT) t ∧ va_D (va_A [(mo, .inr (12, mdF r z q cd tm (nI 20) (nI 0))), (r 9, .inl ((cT 0), 1400, .inl f)), (r 3, .inl ((cT 0), 160, .inl fc)), (r 4, .inl ((cT 0), 4, .inl fz)), (r 7, .inl ((cT 0), 1000, .inl fp)), (r 0, .inl ((cT 1), 64, .inr (.inl fs))), (r 11, .inl ((cT 0), 16, .inl fd))] sz) [(mo, .inr (12, mdF r z q 0 tm (nI (22 + (k + 15) / 16 * 16)) (nI 0)))]) (va_A [(mo, .inr (12, mdF r z q cd tm (nI 20) (nI 0))), (r 9, .inl ((cT 0), 1400, .inl f)), (r 3, .inl ((cT 0), 160, .inl fc)), (r 4, .inl ((cT 0), 4, .inl fz)), (r 7, .inl ((cT 0), 1000, .inl fp)), (r 0, .inl ((cT 1), 64, .inr (.inl fs))), (r 11, .inl ((cT 0), 16, .inl fd))] sz)) 0 0 (va_A [(mo, .inr (12, mdF r z q cd tm (nI 20) (nI 0))), (r 9, .inl ((cT 0), 1400, .inl f)), (r 3, .inl ((cT 0), 160, .inl fc)), (r 4, .inl ((cT 0), 4, .inl fz)), (r 7, .inl ((cT 0), 1000, .inl fp)), (r 0, .inl ((cT 1), 64, .inr (.inl fs))), (r 11, .inl ((cT 0), 16, .inl fd))] sz) := by
  refine Met.ofW (cc := b_Md_password) (maxL := 8) (ret := (Option.some Jvm.ClassFile.FieldType.int)) (by decide) rfl ?_
  intro p e s m args below meth c s₁ B hml hv
  obtain ⟨hargs, hsz, hP, hK, hD0⟩ := hv
  have hx := B.exec
  have hb := B.bytes
  have hr := B.returns
  have hts := atoms_spec (ws := (Cond.code y_Md_password b_Md_password 8 (Option.some Jvm.ClassFile.FieldType.int) :: BIG)) B.pre
  have hg : ∀ w ∈ BIG, w.before _ s = true := fun w h => hts w (List.mem_cons_of_mem _ h)
  have hown : s.vm.findClass "DoorServerModel" = some m.cls := findClass_of_methodNamed B.named
  have hlocks := B.notSynchronized
  subst hsz
  have hD := hD0.self (sz := s.heap.size)
  generalize hAe : va_A [(mo, .inr (12, mdF r z q cd tm (nI 20) (nI 0))), (r 9, .inl ((cT 0), 1400, .inl f)), (r 3, .inl ((cT 0), 160, .inl fc)), (r 4, .inl ((cT 0), 4, .inl fz)), (r 7, .inl ((cT 0), 1000, .inl fp)), (r 0, .inl ((cT 1), 64, .inr (.inl fs))), (r 11, .inl ((cT 0), 16, .inl fd))] s.heap.size = A at hD ⊢
  have hA : ∀ q : Nat, s.heap.size ≤ q → A q := fun q h => by rw [← hAe]; exact Or.inr h
  have hS : va_S A s.heap s.heap [] := va_S.rf
  have hl := lv_entry ([.ref mo, .int (nI st), .long v, .int (nI k)]) (n := 8) (Nat.le_of_ble_eq_true rfl)
  refine W.eq (g2 := entryFrame m (List.toArray [.ref mo, .int (nI st), .long v, .int (nI k)]) 8) (by rw [hargs]) ?_
  rw [lg_entry_eq]
  generalize (lg_sl ([.ref mo, .int (nI st), .long v, .int (nI k)]) ++ List.replicate (8 - (lg_sl ([.ref mo, .int (nI st), .long v, .int (nI k)])).length) Slot.unset).toArray = ls at hl ⊢
  have hl : lv_has ls 8 [(0, .ref mo), (1, .int (nI st)), (2, .long v), (4, .int (nI k))] := hl
  change W p l e ({ frames := 3, cells := 0, slots := 0, locals := 92 } : Room) s m args below meth c s.heap [] 0 0 _ _
  have hP : va_P (dC, dI) vcl [(mo, .inr (12, mdF r z q cd tm (nI 20) (nI 0))), (r 9, .inl ((cT 0), 1400, .inl f)), (r 3, .inl ((cT 0), 160, .inl fc)), (r 4, .inl ((cT 0), 4, .inl fz)), (r 7, .inl ((cT 0), 1000, .inl fp)), (r 0, .inl ((cT 1), 64, .inr (.inl fs))), (r 11, .inl ((cT 0), 16, .inl fd))] s.heap := hP
  refine lv_aload_n hx hb d_Md_password_0 rfl (lv_at hl 0 rfl) ?_
  refine lv_iload_n hx hb d_Md_password_1 rfl (lv_at hl 1 rfl) ?_
  refine lv_if_lt (tgt := 27) hx hb d_Md_password_2 (by decide) (fun hn9 => absurd hn9 (nI_pos (by omega))) (fun hc57 => ?_)
  refine lv_iload_n hx hb d_Md_password_5 rfl (lv_at hl 1 rfl) ?_
  refine lv_iconst (v := 4) hx hb d_Md_password_6 (by decide) ?_
  refine lv_icmp_ge (tgt := 27) hx hb d_Md_password_7 (by decide) (fun hn9 => absurd hn9 (nI_ge (b := 4) hst (by decide))) (fun hc58 => ?_)
  refine lv_iload hx hb d_Md_password_10 (lv_at hl 3 rfl) ?_
  refine lv_iconst (v := 1) hx hb d_Md_password_12 (by decide) ?_
  refine lv_icmp_lt (tgt := 27) hx hb d_Md_password_13 (by decide) (fun hn9 => absurd hn9 (nI_nlt (b := 1) hk1 (by omega))) (fun hc59 => ?_)
  refine lv_iload hx hb d_Md_password_16 (lv_at hl 3 rfl) ?_
  refine lv_bipush (v := 60) hx hb d_Md_password_18 (by decide) ?_
  refine lv_icmp_gt (tgt := 27) hx hb d_Md_password_20 (by decide) (fun hn9 => absurd hn9 (nI_nlt (a := 60) hk2 (by decide))) (fun hc60 => ?_)
  refine lv_iconst (v := 1) hx hb d_Md_password_23 (by decide) ?_
  refine lv_goto (tgt := 28) hx hb d_Md_password_24 (by decide) ?_
  have hPc := hP.sub (ws' := [(mo, .inr (12, mdF r z q cd tm (nI 20) (nI 0)))]) [0] rfl
  have hDc := hD.sub (ws' := [(mo, .inr (12, mdF r z q cd tm (nI 20) (nI 0)))]) [0] (by decide) rfl
  have hFc := va_free (wc := [(mo, .inr (12, mdF r z q cd tm (nI 20) (nI 0)))]) hD hS hA [0] rfl
  refine va_calli (va_runV (C := "DoorServerModel") (As := [.int 1]) (rest := []) ⟨hx, hb, hml, hown, hg⟩ (m_goes1 l dC dI cT s.heap.size mo r z q cd tm 20 0 ) (cwV 1 hg (gI (List.forall_mem_append.mpr ⟨List.forall_mem_cons.mpr ⟨k_1165, List.forall_mem_cons.mpr ⟨k_1167, List.forall_mem_cons.mpr ⟨(big_sel (q := y_Md_goes) (n := 45) (by decide +kernel)), List.forall_mem_cons.mpr ⟨k_13, fun _ h => absurd h List.not_mem_nil⟩⟩⟩⟩, List.forall_mem_cons.mpr ⟨k_1168, fun _ h => h⟩⟩)) rfl rfl rfl (by decide +kernel) ⟨Nat.le_of_ble_eq_true rfl, Nat.le_of_ble_eq_true rfl⟩) ⟨fun a U g mk q => by obtain ⟨q0, q1, qP, qK, qD⟩ := q; exact ⟨q0, q1, qP, va_K.moved (u := U) (U := U.calling g mk a) (Vm.Alike.refl U.vm) qK, qD⟩, va_recv (q0 := 0) (ci := 12) hK hP rfl rfl, fun U hU hW => ⟨rfl, by rw [hU], by rw [hU]; exact hPc, va_K.moved hW.alike hK, hDc.weaken (fun _ _ _ _ => trivial)⟩⟩ rfl rfl hl.1 rfl (lv_room (Nat.le_of_ble_eq_true rfl)) d_Md_password_28 ⟨Nat.le_of_ble_eq_true rfl, Nat.le_of_ble_eq_true rfl⟩) hS (fun q _ h => hFc q h) hFc (fun rv9 u t H1 locs ht hvm hw hB hz1 hk1 hS => ?_)
  try dsimp only at hw hB
  obtain ⟨hP1, hK1, hD1⟩ := hB
  rw [ht] at hP1
  obtain ⟨rfl, hw⟩ := hw
  obtain ⟨hP, hD⟩ := va_join (wr := [(r 9, .inl ((cT 0), 1400, .inl f)), (r 3, .inl ((cT 0), 160, .inl fc)), (r 4, .inl ((cT 0), 4, .inl fz)), (r 7, .inl ((cT 0), 1000, .inl fp)), (r 0, .inl ((cT 1), 64, .inr (.inl fs))), (r 11, .inl ((cT 0), 16, .inl fd))]) (w1 := [(mo, .inr (12, mdF r z q 0 tm (nI 20) (nI 0)))]) hP hD [0] [1, 2, 3, 4, 5, 6] rfl rfl (by decide) (by decide) hk1 hFc hP1 hD1
  have hw61 := hw
  clear hPc hDc hFc hz1 hk1 hP1 hK1 hD1
  generalize H1 = H at hP hS ⊢
  have hP : va_P (dC, dI) vcl [(r 9, .inl ((cT 0), 1400, .inl f)), (r 3, .inl ((cT 0), 160, .inl fc)), (r 4, .inl ((cT 0), 4, .inl fz)), (r 7, .inl ((cT 0), 1000, .inl fp)), (r 0, .inl ((cT 1), 64, .inr (.inl fs))), (r 11, .inl ((cT 0), 16, .inl fd)), (mo, .inr (12, mdF r z q 0 tm (nI 20) (nI 0)))] H := hP
  have hD : va_D A [(r 9, .inl ((cT 0), 1400, .inl f)), (r 3, .inl ((cT 0), 160, .inl fc)), (r 4, .inl ((cT 0), 4, .inl fz)), (r 7, .inl ((cT 0), 1000, .inl fp)), (r 0, .inl ((cT 1), 64, .inr (.inl fs))), (r 11, .inl ((cT 0), 16, .inl fd)), (mo, .inr (12, mdF r z q 0 tm (nI 20) (nI 0)))] := hD
  refine lv_if_ne (tgt := 36) hx hb d_Md_password_31 (by decide) (fun hc62 => ?_) (fun hn9 => absurd hn9 (by decide))
  refine lv_iload hx hb d_Md_password_36 (lv_at hl 3 rfl) ?_
  refine lv_bipush (v := 15) hx hb d_Md_password_38 (by decide) ?_
  refine lv_iadd hx hb d_Md_password_40 ?_
  refine lv_topi (fun x64 e63 => ?_)
  obtain rfl : x64 = nI (k + 15) := by rw [e63]; exact nI_add k 15
  refine lv_bipush (v := 16) hx hb d_Md_password_41 (by decide) ?_
  refine lv_idiv hx hb d_Md_password_43 (by decide) ?_
  refine lv_topi (fun x66 e65 => ?_)
  obtain rfl : x66 = nI ((k + 15) / 16) := by rw [e65]; exact pk_div (d := 16) (by omega) (by decide) (by decide)
  obtain ⟨nb, hnb⟩ : ∃ nb, nb = (k + 15) / 16 := ⟨_, rfl⟩
  rw [← hnb]
  have hnb2 : k ≤ nb * 16 ∧ nb * 16 ≤ 64 := by omega
  refine lv_istore (lv' := [(5, .int (nI nb)), (0, .ref mo), (1, .int (nI st)), (2, .long v), (4, .int (nI k))]) hx hb d_Md_password_44 hl (by decide) rfl (fun ls hl => ?_)
  refine lv_aload_n hx hb d_Md_password_46 rfl (lv_at hl 1 rfl) ?_
  refine lv_iconst (v := 2) hx hb d_Md_password_47 (by decide) ?_
  refine lv_bipush (v := 16) hx hb d_Md_password_48 (by decide) ?_
  refine lv_iload hx hb d_Md_password_50 (lv_at hl 0 rfl) ?_
  refine lv_imul hx hb d_Md_password_52 ?_
  refine lv_topi (fun x68 e67 => ?_)
  obtain rfl : x68 = nI (16 * nb) := by rw [e67]; exact pk_mul 16 nb
  have hPc := hP.sub (ws' := [(mo, .inr (12, mdF r z q 0 tm (nI 20) (nI 0))), (r 7, .inl ((cT 0), 1000, .inl fp))]) [6, 3] rfl
  have hDc := hD.sub (ws' := [(mo, .inr (12, mdF r z q 0 tm (nI 20) (nI 0))), (r 7, .inl ((cT 0), 1000, .inl fp))]) [6, 3] (by decide) rfl
  have hFc := va_free (wc := [(mo, .inr (12, mdF r z q 0 tm (nI 20) (nI 0))), (r 7, .inl ((cT 0), 1000, .inl fp))]) hD hS hA [6, 3] rfl
  refine va_calli (va_runV (C := "DoorServerModel") (As := [.int 2, .int (nI (16 * nb))]) (rest := []) ⟨hx, hb, hml, hown, hg⟩ (m_opens l dC dI cT H.size mo r z q 0 tm 20 0 fp 2 (16 * nb) (by omega)) (cwV 2 hg (gI (List.forall_mem_append.mpr ⟨List.forall_mem_cons.mpr ⟨k_1188, List.forall_mem_cons.mpr ⟨k_1190, List.forall_mem_cons.mpr ⟨(big_sel (q := y_Md_opens) (n := 45) (by decide +kernel)), List.forall_mem_cons.mpr ⟨k_13, fun _ h => absurd h List.not_mem_nil⟩⟩⟩⟩, List.forall_mem_cons.mpr ⟨k_1191, fun _ h => h⟩⟩)) rfl rfl rfl (by decide +kernel) ⟨Nat.le_of_ble_eq_true rfl, Nat.le_of_ble_eq_true rfl⟩) ⟨fun a U g mk q => by obtain ⟨q0, q1, qP, qK, qD⟩ := q; exact ⟨q0, q1, qP, va_K.moved (u := U) (U := U.calling g mk a) (Vm.Alike.refl U.vm) qK, qD⟩, va_recv (q0 := 6) (ci := 12) hK hP rfl rfl, fun U hU hW => ⟨rfl, by rw [hU], by rw [hU]; exact hPc, va_K.moved hW.alike hK, hDc.weaken (fun _ _ _ _ => trivial)⟩⟩ rfl rfl hl.1 rfl (lv_room (Nat.le_of_ble_eq_true rfl)) d_Md_password_53 ⟨Nat.le_of_ble_eq_true rfl, Nat.le_of_ble_eq_true rfl⟩) hS (fun q _ h => hFc q h) hFc (fun rv9 u t H1 locs ht hvm hw hB hz1 hk1 hS => ?_)
  try dsimp only at hw hB
  obtain ⟨hP1, hK1, hD1⟩ := hB
  rw [ht] at hP1
  obtain ⟨rfl, hw⟩ := hw
  obtain ⟨hP, hD⟩ := va_join (wr := [(r 9, .inl ((cT 0), 1400, .inl f)), (r 3, .inl ((cT 0), 160, .inl fc)), (r 4, .inl ((cT 0), 4, .inl fz)), (r 0, .inl ((cT 1), 64, .inr (.inl fs))), (r 11, .inl ((cT 0), 16, .inl fd))]) (w1 := [(mo, .inr (12, mdF r z q 0 tm (nI ((20 + 1) + 1)) (nI 0))), (r 7, .inl ((cT 0), 1000, .inl (upd (upd fp 20 (2 &&& 255)) (20 + 1) ((nI (16 * nb) + 2) &&& 255))))]) hP hD [6, 3] [0, 1, 2, 4, 5] rfl rfl (by decide) (by decide) hk1 hFc hP1 hD1
  have hw69 := hw
  clear hPc hDc hFc hz1 hk1 hP1 hK1 hD1
  generalize H1 = H at hP hS ⊢
  have hP : va_P (dC, dI) vcl [(r 9, .inl ((cT 0), 1400, .inl f)), (r 3, .inl ((cT 0), 160, .inl fc)), (r 4, .inl ((cT 0), 4, .inl fz)), (r 0, .inl ((cT 1), 64, .inr (.inl fs))), (r 11, .inl ((cT 0), 16, .inl fd)), (mo, .inr (12, mdF r z q 0 tm (nI ((20 + 1) + 1)) (nI 0))), (r 7, .inl ((cT 0), 1000, .inl (upd (upd fp 20 (2 &&& 255)) (20 + 1) ((nI (16 * nb) + 2) &&& 255))))] H := hP
  have hD : va_D A [(r 9, .inl ((cT 0), 1400, .inl f)), (r 3, .inl ((cT 0), 160, .inl fc)), (r 4, .inl ((cT 0), 4, .inl fz)), (r 0, .inl ((cT 1), 64, .inr (.inl fs))), (r 11, .inl ((cT 0), 16, .inl fd)), (mo, .inr (12, mdF r z q 0 tm (nI ((20 + 1) + 1)) (nI 0))), (r 7, .inl ((cT 0), 1000, .inl (upd (upd fp 20 (2 &&& 255)) (20 + 1) ((nI (16 * nb) + 2) &&& 255))))] := hD
  refine lv_if_ne (tgt := 61) hx hb d_Md_password_56 (by decide) (fun hc70 => ?_) (fun hn9 => absurd hn9 (by decide))
  refine lv_iconst (v := 0) hx hb d_Md_password_61 (by decide) ?_
  refine lv_istore (lv' := [(6, .int 0), (5, .int (nI nb)), (0, .ref mo), (1, .int (nI st)), (2, .long v), (4, .int (nI k))]) hx hb d_Md_password_62 hl (by decide) rfl (fun ls hl => ?_)
  have hl := lv_sub hl [0, 1, 2, 3, 4, 5] (show _ = [(6, .int 0), (5, .int (nI nb)), (0, .ref mo), (1, .int (nI st)), (2, .long v), (4, .int (nI k))] from rfl)
  have hP := hP.sub (ws' := [(mo, .inr (12, mdF r z q 0 tm (nI ((20 + 1) + 1)) (nI 0))), (r 9, .inl ((cT 0), 1400, .inl f)), (r 3, .inl ((cT 0), 160, .inl fc)), (r 4, .inl ((cT 0), 4, .inl fz)), (r 7, .inl ((cT 0), 1000, .inl (upd (upd fp 20 (2 &&& 255)) (20 + 1) ((nI (16 * nb) + 2) &&& 255)))), (r 0, .inl ((cT 1), 64, .inr (.inl fs))), (r 11, .inl ((cT 0), 16, .inl fd))]) [5, 0, 1, 2, 6, 3, 4] rfl
  have hD := hD.sub (ws' := [(mo, .inr (12, mdF r z q 0 tm (nI ((20 + 1) + 1)) (nI 0))), (r 9, .inl ((cT 0), 1400, .inl f)), (r 3, .inl ((cT 0), 160, .inl fc)), (r 4, .inl ((cT 0), 4, .inl fz)), (r 7, .inl ((cT 0), 1000, .inl (upd (upd fp 20 (2 &&& 255)) (20 + 1) ((nI (16 * nb) + 2) &&& 255)))), (r 0, .inl ((cT 1), 64, .inr (.inl fs))), (r 11, .inl ((cT 0), 16, .inl fd))]) [5, 0, 1, 2, 6, 3, 4] (by decide) rfl
  have hP : va_P (dC, dI) vcl [(mo, .inr (12, mdF r z q 0 tm (nI (22 + 0 * 16)) (nI 0))), (r 9, .inl ((cT 0), 1400, .inl f)), (r 3, .inl ((cT 0), 160, .inl fc)), (r 4, .inl ((cT 0), 4, .inl fz)), (r 7, .inl ((cT 0), 1000, .inl (upd (upd fp 20 (2 &&& 255)) (20 + 1) ((nI (16 * nb) + 2) &&& 255)))), (r 0, .inl ((cT 1), 64, .inr (.inl fs))), (r 11, .inl ((cT 0), 16, .inl fd))] H := hP
  have hD : va_D A [(mo, .inr (12, mdF r z q 0 tm (nI (22 + 0 * 16)) (nI 0))), (r 9, .inl ((cT 0), 1400, .inl f)), (r 3, .inl ((cT 0), 160, .inl fc)), (r 4, .inl ((cT 0), 4, .inl fz)), (r 7, .inl ((cT 0), 1000, .inl (upd (upd fp 20 (2 &&& 255)) (20 + 1) ((nI (16 * nb) + 2) &&& 255)))), (r 0, .inl ((cT 1), 64, .inr (.inl fs))), (r 11, .inl ((cT 0), 16, .inl fd))] := hD
  have L71 : ∀ (Q : State → Prop) (exit : ∀ (f : Nat → Int32) (fd : Nat → Int32) (gp : Nat → Int32) (H : Heap) (locs : List Loc) (ls : Array Slot), va_P (dC, dI) vcl [(mo, .inr (12, mdF r z q 0 tm (nI (22 + nb * 16)) (nI 0))), (r 9, .inl ((cT 0), 1400, .inl f)), (r 3, .inl ((cT 0), 160, .inl fc)), (r 4, .inl ((cT 0), 4, .inl fz)), (r 7, .inl ((cT 0), 1000, .inl gp)), (r 0, .inl ((cT 1), 64, .inr (.inl fs))), (r 11, .inl ((cT 0), 16, .inl fd))] H → va_D A [(mo, .inr (12, mdF r z q 0 tm (nI (22 + nb * 16)) (nI 0))), (r 9, .inl ((cT 0), 1400, .inl f)), (r 3, .inl ((cT 0), 160, .inl fc)), (r 4, .inl ((cT 0), 4, .inl fz)), (r 7, .inl ((cT 0), 1000, .inl gp)), (r 0, .inl ((cT 1), 64, .inr (.inl fs))), (r 11, .inl ((cT 0), 16, .inl fd))] → va_S A s.heap H locs → lv_has ls 8 [(6, .int (nI nb)), (5, .int (nI nb)), (0, .ref mo), (1, .int (nI st)), (2, .long v), (4, .int (nI k))] → W p l e ({ frames := 3, cells := 0, slots := 0, locals := 92 } : Room) s m args below meth c H locs 0 0 Q (F0 m 156 ls [])) (j8 i : Nat) (f : Nat → Int32) (fd : Nat → Int32) (gp : Nat → Int32) (H : Heap) (locs : List Loc) (ls : Array Slot), i + j8 = nb → va_P (dC, dI) vcl [(mo, .inr (12, mdF r z q 0 tm (nI (22 + i * 16)) (nI 0))), (r 9, .inl ((cT 0), 1400, .inl f)), (r 3, .inl ((cT 0), 160, .inl fc)), (r 4, .inl ((cT 0), 4, .inl fz)), (r 7, .inl ((cT 0), 1000, .inl gp)), (r 0, .inl ((cT 1), 64, .inr (.inl fs))), (r 11, .inl ((cT 0), 16, .inl fd))] H → va_D A [(mo, .inr (12, mdF r z q 0 tm (nI (22 + i * 16)) (nI 0))), (r 9, .inl ((cT 0), 1400, .inl f)), (r 3, .inl ((cT 0), 160, .inl fc)), (r 4, .inl ((cT 0), 4, .inl fz)), (r 7, .inl ((cT 0), 1000, .inl gp)), (r 0, .inl ((cT 1), 64, .inr (.inl fs))), (r 11, .inl ((cT 0), 16, .inl fd))] → va_S A s.heap H locs → lv_has ls 8 [(6, .int (nI i)), (5, .int (nI nb)), (0, .ref mo), (1, .int (nI st)), (2, .long v), (4, .int (nI k))] → W p l e ({ frames := 3, cells := 0, slots := 0, locals := 92 } : Room) s m args below meth c H locs 0 0 Q (F0 m 64 ls []) := by
    intro Q exit j8
    induction j8 with
    | zero => 
      intro i f fd gp H locs ls hij  hP hD hS hl
      have hij : nb = i := by omega
      refine lv_iload hx hb d_Md_password_64 (lv_at hl 0 rfl) ?_
      refine lv_iload hx hb d_Md_password_66 (lv_at hl 1 rfl) ?_
      refine lv_icmp_ge (tgt := 156) hx hb d_Md_password_68 (by decide) (fun hc72 => ?_) (fun hn9 => absurd (nI_le (by omega) (by omega)) hn9)
      subst hij
      exact exit f fd gp _ _ _  hP hD hS hl
    | succ j8 ih => 
      intro i f fd gp H locs ls hij  hP hD hS hl
      have hlt : i < nb := by omega
      refine lv_iload hx hb d_Md_password_64 (lv_at hl 0 rfl) ?_
      refine lv_iload hx hb d_Md_password_66 (lv_at hl 1 rfl) ?_
      refine lv_icmp_ge (tgt := 156) hx hb d_Md_password_68 (by decide) (fun hn9 => absurd hn9 (nI_ge hlt (by omega))) (fun hc73 => ?_)
      have hlo := hlt
      refine lv_aload_n hx hb d_Md_password_71 rfl (lv_at hl 2 rfl) ?_
      refine lv_iload_n hx hb d_Md_password_72 rfl (lv_at hl 3 rfl) ?_
      refine lv_iload hx hb d_Md_password_73 (lv_at hl 0 rfl) ?_
      have K74 : ∀ (fr : Nat), fr + 16 ≤ 1000 → W p l e ({ frames := 3, cells := 0, slots := 0, locals := 92 } : Room) s m args below meth c H locs 0 0 Q (F0 m 89 ls [.int (nI fr), .int (nI st), .ref mo]) := by
        intro fr hfr
        have hPc := hP.sub (ws' := [(mo, .inr (12, mdF r z q 0 tm (nI (22 + i * 16)) (nI 0))), (r 9, .inl ((cT 0), 1400, .inl f)), (r 3, .inl ((cT 0), 160, .inl fc)), (r 4, .inl ((cT 0), 4, .inl fz)), (r 7, .inl ((cT 0), 1000, .inl gp)), (r 0, .inl ((cT 1), 64, .inr (.inl fs))), (r 11, .inl ((cT 0), 16, .inl fd))]) [0, 1, 2, 3, 4, 5, 6] rfl
        have hDc := hD.sub (ws' := [(mo, .inr (12, mdF r z q 0 tm (nI (22 + i * 16)) (nI 0))), (r 9, .inl ((cT 0), 1400, .inl f)), (r 3, .inl ((cT 0), 160, .inl fc)), (r 4, .inl ((cT 0), 4, .inl fz)), (r 7, .inl ((cT 0), 1000, .inl gp)), (r 0, .inl ((cT 1), 64, .inr (.inl fs))), (r 11, .inl ((cT 0), 16, .inl fd))]) [0, 1, 2, 3, 4, 5, 6] (by decide) rfl
        have hFc := va_free (wc := [(mo, .inr (12, mdF r z q 0 tm (nI (22 + i * 16)) (nI 0))), (r 9, .inl ((cT 0), 1400, .inl f)), (r 3, .inl ((cT 0), 160, .inl fc)), (r 4, .inl ((cT 0), 4, .inl fz)), (r 7, .inl ((cT 0), 1000, .inl gp)), (r 0, .inl ((cT 1), 64, .inr (.inl fs))), (r 11, .inl ((cT 0), 16, .inl fd))]) hD hS hA [0, 1, 2, 3, 4, 5, 6] rfl
        refine va_callv (va_runV (C := "DoorServerModel") (As := [.int (nI st), .int (nI fr)]) (rest := []) ⟨hx, hb, hml, hown, hg⟩ (m_cover l dC dI cT H.size mo r z q 0 tm (22 + i * 16) 0 f fs fd fc fz st sl gp fr (hst) (hfz) (hsl) (by decide) (hfr)) (cwV 2 hg (gI (List.forall_mem_append.mpr ⟨List.forall_mem_cons.mpr ⟨k_1212, List.forall_mem_cons.mpr ⟨k_1214, List.forall_mem_cons.mpr ⟨(big_sel (q := y_Md_cover) (n := 45) (by decide +kernel)), List.forall_mem_cons.mpr ⟨k_13, fun _ h => absurd h List.not_mem_nil⟩⟩⟩⟩, List.forall_mem_cons.mpr ⟨k_1215, fun _ h => h⟩⟩)) rfl rfl rfl (by decide +kernel) ⟨Nat.le_of_ble_eq_true rfl, Nat.le_of_ble_eq_true rfl⟩) ⟨fun a U g mk q => by obtain ⟨q0, q1, qP, qK, qD⟩ := q; exact ⟨q0, q1, qP, va_K.moved (u := U) (U := U.calling g mk a) (Vm.Alike.refl U.vm) qK, qD⟩, va_recv (q0 := 0) (ci := 12) hK hP rfl rfl, fun U hU hW => ⟨rfl, by rw [hU], by rw [hU]; exact hPc, va_K.moved hW.alike hK, hDc.weaken (fun _ _ _ _ => trivial)⟩⟩ rfl rfl hl.1 rfl (lv_room (Nat.le_of_ble_eq_true rfl)) d_Md_password_89 ⟨Nat.le_of_ble_eq_true rfl, Nat.le_of_ble_eq_true rfl⟩) hS (fun q _ h => hFc q h) hFc (fun u t H1 locs ht hvm hw hB hz1 hk1 hS => ?_)
        obtain ⟨g_75, fd2_76⟩ := u
        try dsimp only at hw hB
        obtain ⟨hP1, hK1, hD1⟩ := hB
        rw [ht] at hP1
        obtain ⟨hP, hD⟩ := va_join (wr := []) (w1 := [(mo, .inr (12, mdF r z q 0 tm (nI (22 + i * 16)) (nI 0))), (r 9, .inl ((cT 0), 1400, .inl g_75)), (r 3, .inl ((cT 0), 160, .inl fc)), (r 4, .inl ((cT 0), 4, .inl fz)), (r 7, .inl ((cT 0), 1000, .inl gp)), (r 0, .inl ((cT 1), 64, .inr (.inl fs))), (r 11, .inl ((cT 0), 16, .inl fd2_76))]) hP hD [0, 1, 2, 3, 4, 5, 6] [] rfl rfl (by decide) (by decide) hk1 hFc hP1 hD1
        have hw77 := hw
        clear hPc hDc hFc hz1 hk1 hP1 hK1 hD1
        generalize H1 = H at hP hS ⊢
        have hP : va_P (dC, dI) vcl [(mo, .inr (12, mdF r z q 0 tm (nI (22 + i * 16)) (nI 0))), (r 9, .inl ((cT 0), 1400, .inl g_75)), (r 3, .inl ((cT 0), 160, .inl fc)), (r 4, .inl ((cT 0), 4, .inl fz)), (r 7, .inl ((cT 0), 1000, .inl gp)), (r 0, .inl ((cT 1), 64, .inr (.inl fs))), (r 11, .inl ((cT 0), 16, .inl fd2_76))] H := hP
        have hD : va_D A [(mo, .inr (12, mdF r z q 0 tm (nI (22 + i * 16)) (nI 0))), (r 9, .inl ((cT 0), 1400, .inl g_75)), (r 3, .inl ((cT 0), 160, .inl fc)), (r 4, .inl ((cT 0), 4, .inl fz)), (r 7, .inl ((cT 0), 1000, .inl gp)), (r 0, .inl ((cT 1), 64, .inr (.inl fs))), (r 11, .inl ((cT 0), 16, .inl fd2_76))] := hD
        refine lv_bipush (v := 16) hx hb d_Md_password_92 (by decide) ?_
        refine lv_iload hx hb d_Md_password_94 (lv_at hl 0 rfl) ?_
        refine lv_imul hx hb d_Md_password_96 ?_
        refine lv_topi (fun x79 e78 => ?_)
        obtain rfl : x79 = nI (16 * i + 0) := by rw [e78]; exact pk_mul 16 i
        refine lv_istore (lv' := [(7, .int (nI (16 * i + 0))), (6, .int (nI i)), (5, .int (nI nb)), (0, .ref mo), (1, .int (nI st)), (2, .long v), (4, .int (nI k))]) hx hb d_Md_password_97 hl (by decide) rfl (fun ls hl => ?_)
        have hl := lv_sub hl [0, 1, 2, 3, 4, 5, 6] (show _ = [(7, .int (nI (16 * i + 0))), (6, .int (nI i)), (5, .int (nI nb)), (0, .ref mo), (1, .int (nI st)), (2, .long v), (4, .int (nI k))] from rfl)
        have hP : va_P (dC, dI) vcl [(mo, .inr (12, mdF r z q 0 tm (nI (22 + i * 16 + 0)) (nI 0))), (r 9, .inl ((cT 0), 1400, .inl g_75)), (r 3, .inl ((cT 0), 160, .inl fc)), (r 4, .inl ((cT 0), 4, .inl fz)), (r 7, .inl ((cT 0), 1000, .inl gp)), (r 0, .inl ((cT 1), 64, .inr (.inl fs))), (r 11, .inl ((cT 0), 16, .inl fd2_76))] H := hP
        have hD : va_D A [(mo, .inr (12, mdF r z q 0 tm (nI (22 + i * 16 + 0)) (nI 0))), (r 9, .inl ((cT 0), 1400, .inl g_75)), (r 3, .inl ((cT 0), 160, .inl fc)), (r 4, .inl ((cT 0), 4, .inl fz)), (r 7, .inl ((cT 0), 1000, .inl gp)), (r 0, .inl ((cT 1), 64, .inr (.inl fs))), (r 11, .inl ((cT 0), 16, .inl fd2_76))] := hD
        have L80 : ∀ (Q : State → Prop) (exit : ∀ (gq : Nat → Int32) (H : Heap) (locs : List Loc) (ls : Array Slot), va_P (dC, dI) vcl [(mo, .inr (12, mdF r z q 0 tm (nI (22 + i * 16 + 16)) (nI 0))), (r 9, .inl ((cT 0), 1400, .inl g_75)), (r 3, .inl ((cT 0), 160, .inl fc)), (r 4, .inl ((cT 0), 4, .inl fz)), (r 7, .inl ((cT 0), 1000, .inl gq)), (r 0, .inl ((cT 1), 64, .inr (.inl fs))), (r 11, .inl ((cT 0), 16, .inl fd2_76))] H → va_D A [(mo, .inr (12, mdF r z q 0 tm (nI (22 + i * 16 + 16)) (nI 0))), (r 9, .inl ((cT 0), 1400, .inl g_75)), (r 3, .inl ((cT 0), 160, .inl fc)), (r 4, .inl ((cT 0), 4, .inl fz)), (r 7, .inl ((cT 0), 1000, .inl gq)), (r 0, .inl ((cT 1), 64, .inr (.inl fs))), (r 11, .inl ((cT 0), 16, .inl fd2_76))] → va_S A s.heap H locs → lv_has ls 8 [(7, .int (nI (16 * i + 16))), (6, .int (nI i)), (5, .int (nI nb)), (0, .ref mo), (1, .int (nI st)), (2, .long v), (4, .int (nI k))] → W p l e ({ frames := 3, cells := 0, slots := 0, locals := 92 } : Room) s m args below meth c H locs 0 0 Q (F0 m 150 ls [])) (j8 q9 : Nat) (gq : Nat → Int32) (H : Heap) (locs : List Loc) (ls : Array Slot), q9 + j8 = 16 → va_P (dC, dI) vcl [(mo, .inr (12, mdF r z q 0 tm (nI (22 + i * 16 + q9)) (nI 0))), (r 9, .inl ((cT 0), 1400, .inl g_75)), (r 3, .inl ((cT 0), 160, .inl fc)), (r 4, .inl ((cT 0), 4, .inl fz)), (r 7, .inl ((cT 0), 1000, .inl gq)), (r 0, .inl ((cT 1), 64, .inr (.inl fs))), (r 11, .inl ((cT 0), 16, .inl fd2_76))] H → va_D A [(mo, .inr (12, mdF r z q 0 tm (nI (22 + i * 16 + q9)) (nI 0))), (r 9, .inl ((cT 0), 1400, .inl g_75)), (r 3, .inl ((cT 0), 160, .inl fc)), (r 4, .inl ((cT 0), 4, .inl fz)), (r 7, .inl ((cT 0), 1000, .inl gq)), (r 0, .inl ((cT 1), 64, .inr (.inl fs))), (r 11, .inl ((cT 0), 16, .inl fd2_76))] → va_S A s.heap H locs → lv_has ls 8 [(7, .int (nI (16 * i + q9))), (6, .int (nI i)), (5, .int (nI nb)), (0, .ref mo), (1, .int (nI st)), (2, .long v), (4, .int (nI k))] → W p l e ({ frames := 3, cells := 0, slots := 0, locals := 92 } : Room) s m args below meth c H locs 0 0 Q (F0 m 99 ls []) := by
          intro Q exit j8
          induction j8 with
          | zero => 
            intro q9 gq H locs ls hij  hP hD hS hl
            have hij : 16 = q9 := by omega
            refine lv_iload hx hb d_Md_password_99 (lv_at hl 0 rfl) ?_
            refine lv_bipush (v := 16) hx hb d_Md_password_101 (by decide) ?_
            refine lv_iload hx hb d_Md_password_103 (lv_at hl 1 rfl) ?_
            refine lv_imul hx hb d_Md_password_105 ?_
            refine lv_topi (fun x82 e81 => ?_)
            obtain rfl : x82 = nI (16 * i) := by rw [e81]; exact pk_mul 16 i
            refine lv_bipush (v := 16) hx hb d_Md_password_106 (by decide) ?_
            refine lv_iadd hx hb d_Md_password_108 ?_
            refine lv_topi (fun x84 e83 => ?_)
            obtain rfl : x84 = nI (16 * i + 16) := by rw [e83]; exact nI_add _ 16
            refine lv_icmp_ge (tgt := 150) hx hb d_Md_password_109 (by decide) (fun hc85 => ?_) (fun hn9 => absurd (nI_le (by omega) (by omega)) hn9)
            subst hij
            exact exit gq _ _ _  hP hD hS hl
          | succ j8 ih => 
            intro q9 gq H locs ls hij  hP hD hS hl
            have hlt : q9 < 16 := by omega
            refine lv_iload hx hb d_Md_password_99 (lv_at hl 0 rfl) ?_
            refine lv_bipush (v := 16) hx hb d_Md_password_101 (by decide) ?_
            refine lv_iload hx hb d_Md_password_103 (lv_at hl 1 rfl) ?_
            refine lv_imul hx hb d_Md_password_105 ?_
            refine lv_topi (fun x87 e86 => ?_)
            obtain rfl : x87 = nI (16 * i) := by rw [e86]; exact pk_mul 16 i
            refine lv_bipush (v := 16) hx hb d_Md_password_106 (by decide) ?_
            refine lv_iadd hx hb d_Md_password_108 ?_
            refine lv_topi (fun x89 e88 => ?_)
            obtain rfl : x89 = nI (16 * i + 16) := by rw [e88]; exact nI_add _ 16
            refine lv_icmp_ge (tgt := 150) hx hb d_Md_password_109 (by decide) (fun hn9 => absurd hn9 (nI_ge (show 16 * i + q9 < 16 * i + 16 by omega) (by omega))) (fun hc90 => ?_)
            refine lv_aload_n hx hb d_Md_password_112 rfl (lv_at hl 3 rfl) ?_
            refine lv_iload hx hb d_Md_password_113 (lv_at hl 0 rfl) ?_
            refine lv_iload hx hb d_Md_password_115 (lv_at hl 6 rfl) ?_
            have K91 : ∀ (z9 : Int32), W p l e ({ frames := 3, cells := 0, slots := 0, locals := 92 } : Room) s m args below meth c H locs 0 0 Q (F0 m 130 ls [.int z9, .ref mo]) := by
              intro z9
              refine lv_aload_n hx hb d_Md_password_130 rfl (lv_at hl 3 rfl) ?_
              refine va_get (D := (dC, dI)) (ci := 12) (v := (.ref (r 11))) (C := R_Md) (T := F_Md) (N := 45) hx hb hg in_Md hown hK hP 0 rfl rfl 11 (by decide) (hg _ k_1031) (fun _ h9 => h9) rfl d_Md_password_131 ?_
              refine lv_iload hx hb d_Md_password_134 (lv_at hl 0 rfl) ?_
              refine lv_bipush (v := 16) hx hb d_Md_password_136 (by decide) ?_
              refine lv_irem hx hb d_Md_password_138 (by decide) ?_
              refine lv_topi (fun x93 e92 => ?_)
              obtain rfl : x93 = nI ((16 * i + q9) % 16) := by rw [e92]; exact pk_rem (d := 16) (by omega) (by decide) (by decide)
              refine va_iald hx hb hK hP 6 0 rfl rfl (i := (nI ((16 * i + q9) % 16))) (vp_in_nI (N := 16) (by omega) (by decide)) d_Md_password_139 ?_
              refine lv_ixor hx hb d_Md_password_140 ?_
              refine lv_topi (fun x94 e_x94 => ?_)
              have hPc := hP.sub (ws' := [(mo, .inr (12, mdF r z q 0 tm (nI (22 + i * 16 + q9)) (nI 0))), (r 7, .inl ((cT 0), 1000, .inl gq))]) [0, 4] rfl
              have hDc := hD.sub (ws' := [(mo, .inr (12, mdF r z q 0 tm (nI (22 + i * 16 + q9)) (nI 0))), (r 7, .inl ((cT 0), 1000, .inl gq))]) [0, 4] (by decide) rfl
              have hFc := va_free (wc := [(mo, .inr (12, mdF r z q 0 tm (nI (22 + i * 16 + q9)) (nI 0))), (r 7, .inl ((cT 0), 1000, .inl gq))]) hD hS hA [0, 4] rfl
              refine va_callv (va_runV (C := "DoorServerModel") (As := [.int x94]) (rest := []) ⟨hx, hb, hml, hown, hg⟩ (m_add l dC dI cT H.size mo r z q 0 tm (22 + i * 16 + q9) 0 gq x94 (by omega)) (cwV 1 hg (gI (List.forall_mem_append.mpr ⟨List.forall_mem_cons.mpr ⟨k_1015, List.forall_mem_cons.mpr ⟨k_1017, List.forall_mem_cons.mpr ⟨(big_sel (q := y_Md_add) (n := 45) (by decide +kernel)), List.forall_mem_cons.mpr ⟨k_13, fun _ h => absurd h List.not_mem_nil⟩⟩⟩⟩, List.forall_mem_cons.mpr ⟨k_1018, fun _ h => h⟩⟩)) rfl rfl rfl (by decide +kernel) ⟨Nat.le_of_ble_eq_true rfl, Nat.le_of_ble_eq_true rfl⟩) ⟨fun a U g mk q => by obtain ⟨q0, q1, qP, qK, qD⟩ := q; exact ⟨q0, q1, qP, va_K.moved (u := U) (U := U.calling g mk a) (Vm.Alike.refl U.vm) qK, qD⟩, va_recv (q0 := 0) (ci := 12) hK hP rfl rfl, fun U hU hW => ⟨rfl, by rw [hU], by rw [hU]; exact hPc, va_K.moved hW.alike hK, hDc.weaken (fun _ _ _ _ => trivial)⟩⟩ rfl rfl hl.1 rfl (lv_room (Nat.le_of_ble_eq_true rfl)) d_Md_password_141 ⟨Nat.le_of_ble_eq_true rfl, Nat.le_of_ble_eq_true rfl⟩) hS (fun q _ h => hFc q h) hFc (fun u t H1 locs ht hvm hw hB hz1 hk1 hS => ?_)
              try dsimp only at hw hB
              obtain ⟨hP1, hK1, hD1⟩ := hB
              rw [ht] at hP1
              obtain ⟨hP, hD⟩ := va_join (wr := [(r 9, .inl ((cT 0), 1400, .inl g_75)), (r 3, .inl ((cT 0), 160, .inl fc)), (r 4, .inl ((cT 0), 4, .inl fz)), (r 0, .inl ((cT 1), 64, .inr (.inl fs))), (r 11, .inl ((cT 0), 16, .inl fd2_76))]) (w1 := [(mo, .inr (12, mdF r z q 0 tm (nI ((22 + i * 16 + q9) + 1)) (nI 0))), (r 7, .inl ((cT 0), 1000, .inl (upd gq (22 + i * 16 + q9) (x94 &&& 255))))]) hP hD [0, 4] [1, 2, 3, 5, 6] rfl rfl (by decide) (by decide) hk1 hFc hP1 hD1
              have hw95 := hw
              clear hPc hDc hFc hz1 hk1 hP1 hK1 hD1
              generalize H1 = H at hP hS ⊢
              have hP : va_P (dC, dI) vcl [(r 9, .inl ((cT 0), 1400, .inl g_75)), (r 3, .inl ((cT 0), 160, .inl fc)), (r 4, .inl ((cT 0), 4, .inl fz)), (r 0, .inl ((cT 1), 64, .inr (.inl fs))), (r 11, .inl ((cT 0), 16, .inl fd2_76)), (mo, .inr (12, mdF r z q 0 tm (nI ((22 + i * 16 + q9) + 1)) (nI 0))), (r 7, .inl ((cT 0), 1000, .inl (upd gq (22 + i * 16 + q9) (x94 &&& 255))))] H := hP
              have hD : va_D A [(r 9, .inl ((cT 0), 1400, .inl g_75)), (r 3, .inl ((cT 0), 160, .inl fc)), (r 4, .inl ((cT 0), 4, .inl fz)), (r 0, .inl ((cT 1), 64, .inr (.inl fs))), (r 11, .inl ((cT 0), 16, .inl fd2_76)), (mo, .inr (12, mdF r z q 0 tm (nI ((22 + i * 16 + q9) + 1)) (nI 0))), (r 7, .inl ((cT 0), 1000, .inl (upd gq (22 + i * 16 + q9) (x94 &&& 255))))] := hD
              refine lv_iinc (k := 0) (v := nI (16 * i + (q9 + 1))) (lv' := [(7, .int (nI (16 * i + (q9 + 1)))), (6, .int (nI i)), (5, .int (nI nb)), (0, .ref mo), (1, .int (nI st)), (2, .long v), (4, .int (nI k))]) hx hb d_Md_password_144 hl rfl (nI_1 (16 * i + q9)) (by decide) rfl (fun ls hl => ?_)
              refine lv_goto (tgt := 99) hx hb d_Md_password_147 (by decide) ?_
              have hP := hP.sub (ws' := [(mo, .inr (12, mdF r z q 0 tm (nI ((22 + i * 16 + q9) + 1)) (nI 0))), (r 9, .inl ((cT 0), 1400, .inl g_75)), (r 3, .inl ((cT 0), 160, .inl fc)), (r 4, .inl ((cT 0), 4, .inl fz)), (r 7, .inl ((cT 0), 1000, .inl (upd gq (22 + i * 16 + q9) (x94 &&& 255)))), (r 0, .inl ((cT 1), 64, .inr (.inl fs))), (r 11, .inl ((cT 0), 16, .inl fd2_76))]) [5, 0, 1, 2, 6, 3, 4] rfl
              have hD := hD.sub (ws' := [(mo, .inr (12, mdF r z q 0 tm (nI ((22 + i * 16 + q9) + 1)) (nI 0))), (r 9, .inl ((cT 0), 1400, .inl g_75)), (r 3, .inl ((cT 0), 160, .inl fc)), (r 4, .inl ((cT 0), 4, .inl fz)), (r 7, .inl ((cT 0), 1000, .inl (upd gq (22 + i * 16 + q9) (x94 &&& 255)))), (r 0, .inl ((cT 1), 64, .inr (.inl fs))), (r 11, .inl ((cT 0), 16, .inl fd2_76))]) [5, 0, 1, 2, 6, 3, 4] (by decide) rfl
              exact ih (q9 + 1) _ _ _ _ (by omega) hP hD hS hl
            have K96 : W p l e ({ frames := 3, cells := 0, slots := 0, locals := 92 } : Room) s m args below meth c H locs 0 0 Q (F0 m 120 ls [.ref mo]) := by
              refine lv_lload_n hx hb d_Md_password_120 rfl (lv_at hl 5 rfl) ?_
              refine lv_iload hx hb d_Md_password_121 (lv_at hl 0 rfl) ?_
              have hPc := hP.sub (ws' := []) [] rfl
              have hDc := hD.sub (ws' := []) [] (by decide) rfl
              have hFc := va_free (wc := []) hD hS hA [] rfl
              refine va_calli (va_runS (As := [.long v, .int (nI (16 * i + q9))]) (rest := [.ref mo]) ⟨hx, hb, hml, hown, hg⟩ (m_letter l dC dI cT H.size v (nI (16 * i + q9)) ) (va_cwS 2 hg (gI (List.forall_mem_append.mpr ⟨List.forall_mem_cons.mpr ⟨k_1169, List.forall_mem_cons.mpr ⟨k_1170, List.forall_mem_cons.mpr ⟨k_13, fun _ h => absurd h List.not_mem_nil⟩⟩⟩, List.forall_mem_cons.mpr ⟨k_1171, fun _ h => h⟩⟩)) rfl rfl rfl (by decide +kernel) ⟨Nat.le_of_ble_eq_true rfl, Nat.le_of_ble_eq_true rfl⟩) ⟨fun a U g mk q => by obtain ⟨q0, q1, qP, qK, qD⟩ := q; exact ⟨q0, q1, qP, va_K.moved (u := U) (U := U.calling g mk a) (Vm.Alike.refl U.vm) qK, qD⟩, fun U hU hW => ⟨rfl, by rw [hU], by rw [hU]; exact hPc, va_K.moved hW.alike hK, hDc.weaken (fun _ _ _ _ => trivial)⟩⟩ rfl rfl hl.1 rfl (lv_room (Nat.le_of_ble_eq_true rfl)) d_Md_password_123 ⟨Nat.le_of_ble_eq_true rfl, Nat.le_of_ble_eq_true rfl⟩) hS (fun q _ h => hFc q h) hFc (fun rv9 u t H1 locs ht hvm hw hB hz1 hk1 hS => ?_)
              try dsimp only at hw hB
              obtain ⟨hP1, hK1, hD1⟩ := hB
              rw [ht] at hP1
              generalize rv9 = r97 at hw ⊢
              obtain ⟨hP, hD⟩ := va_join (wr := [(mo, .inr (12, mdF r z q 0 tm (nI (22 + i * 16 + q9)) (nI 0))), (r 9, .inl ((cT 0), 1400, .inl g_75)), (r 3, .inl ((cT 0), 160, .inl fc)), (r 4, .inl ((cT 0), 4, .inl fz)), (r 7, .inl ((cT 0), 1000, .inl gq)), (r 0, .inl ((cT 1), 64, .inr (.inl fs))), (r 11, .inl ((cT 0), 16, .inl fd2_76))]) (w1 := []) hP hD [] [0, 1, 2, 3, 4, 5, 6] rfl rfl (by decide) (by decide) hk1 hFc hP1 hD1
              have hw98 := hw
              clear hPc hDc hFc hz1 hk1 hP1 hK1 hD1
              generalize H1 = H at hP hS ⊢
              have hP : va_P (dC, dI) vcl [(mo, .inr (12, mdF r z q 0 tm (nI (22 + i * 16 + q9)) (nI 0))), (r 9, .inl ((cT 0), 1400, .inl g_75)), (r 3, .inl ((cT 0), 160, .inl fc)), (r 4, .inl ((cT 0), 4, .inl fz)), (r 7, .inl ((cT 0), 1000, .inl gq)), (r 0, .inl ((cT 1), 64, .inr (.inl fs))), (r 11, .inl ((cT 0), 16, .inl fd2_76))] H := hP
              have hD : va_D A [(mo, .inr (12, mdF r z q 0 tm (nI (22 + i * 16 + q9)) (nI 0))), (r 9, .inl ((cT 0), 1400, .inl g_75)), (r 3, .inl ((cT 0), 160, .inl fc)), (r 4, .inl ((cT 0), 4, .inl fz)), (r 7, .inl ((cT 0), 1000, .inl gq)), (r 0, .inl ((cT 1), 64, .inr (.inl fs))), (r 11, .inl ((cT 0), 16, .inl fd2_76))] := hD
              refine lv_goto (tgt := 130) hx hb d_Md_password_126 (by decide) ?_
              refine lv_aload_n hx hb d_Md_password_130 rfl (lv_at hl 3 rfl) ?_
              refine va_get (D := (dC, dI)) (ci := 12) (v := (.ref (r 11))) (C := R_Md) (T := F_Md) (N := 45) hx hb hg in_Md hown hK hP 0 rfl rfl 11 (by decide) (hg _ k_1031) (fun _ h9 => h9) rfl d_Md_password_131 ?_
              refine lv_iload hx hb d_Md_password_134 (lv_at hl 0 rfl) ?_
              refine lv_bipush (v := 16) hx hb d_Md_password_136 (by decide) ?_
              refine lv_irem hx hb d_Md_password_138 (by decide) ?_
              refine lv_topi (fun x100 e99 => ?_)
              obtain rfl : x100 = nI ((16 * i + q9) % 16) := by rw [e99]; exact pk_rem (d := 16) (by omega) (by decide) (by decide)
              refine va_iald hx hb hK hP 6 0 rfl rfl (i := (nI ((16 * i + q9) % 16))) (vp_in_nI (N := 16) (by omega) (by decide)) d_Md_password_139 ?_
              refine lv_ixor hx hb d_Md_password_140 ?_
              refine lv_topi (fun x101 e_x101 => ?_)
              have hPc := hP.sub (ws' := [(mo, .inr (12, mdF r z q 0 tm (nI (22 + i * 16 + q9)) (nI 0))), (r 7, .inl ((cT 0), 1000, .inl gq))]) [0, 4] rfl
              have hDc := hD.sub (ws' := [(mo, .inr (12, mdF r z q 0 tm (nI (22 + i * 16 + q9)) (nI 0))), (r 7, .inl ((cT 0), 1000, .inl gq))]) [0, 4] (by decide) rfl
              have hFc := va_free (wc := [(mo, .inr (12, mdF r z q 0 tm (nI (22 + i * 16 + q9)) (nI 0))), (r 7, .inl ((cT 0), 1000, .inl gq))]) hD hS hA [0, 4] rfl
              refine va_callv (va_runV (C := "DoorServerModel") (As := [.int x101]) (rest := []) ⟨hx, hb, hml, hown, hg⟩ (m_add l dC dI cT H.size mo r z q 0 tm (22 + i * 16 + q9) 0 gq x101 (by omega)) (cwV 1 hg (gI (List.forall_mem_append.mpr ⟨List.forall_mem_cons.mpr ⟨k_1015, List.forall_mem_cons.mpr ⟨k_1017, List.forall_mem_cons.mpr ⟨(big_sel (q := y_Md_add) (n := 45) (by decide +kernel)), List.forall_mem_cons.mpr ⟨k_13, fun _ h => absurd h List.not_mem_nil⟩⟩⟩⟩, List.forall_mem_cons.mpr ⟨k_1018, fun _ h => h⟩⟩)) rfl rfl rfl (by decide +kernel) ⟨Nat.le_of_ble_eq_true rfl, Nat.le_of_ble_eq_true rfl⟩) ⟨fun a U g mk q => by obtain ⟨q0, q1, qP, qK, qD⟩ := q; exact ⟨q0, q1, qP, va_K.moved (u := U) (U := U.calling g mk a) (Vm.Alike.refl U.vm) qK, qD⟩, va_recv (q0 := 0) (ci := 12) hK hP rfl rfl, fun U hU hW => ⟨rfl, by rw [hU], by rw [hU]; exact hPc, va_K.moved hW.alike hK, hDc.weaken (fun _ _ _ _ => trivial)⟩⟩ rfl rfl hl.1 rfl (lv_room (Nat.le_of_ble_eq_true rfl)) d_Md_password_141 ⟨Nat.le_of_ble_eq_true rfl, Nat.le_of_ble_eq_true rfl⟩) hS (fun q _ h => hFc q h) hFc (fun u t H1 locs ht hvm hw hB hz1 hk1 hS => ?_)
              try dsimp only at hw hB
              obtain ⟨hP1, hK1, hD1⟩ := hB
              rw [ht] at hP1
              obtain ⟨hP, hD⟩ := va_join (wr := [(r 9, .inl ((cT 0), 1400, .inl g_75)), (r 3, .inl ((cT 0), 160, .inl fc)), (r 4, .inl ((cT 0), 4, .inl fz)), (r 0, .inl ((cT 1), 64, .inr (.inl fs))), (r 11, .inl ((cT 0), 16, .inl fd2_76))]) (w1 := [(mo, .inr (12, mdF r z q 0 tm (nI ((22 + i * 16 + q9) + 1)) (nI 0))), (r 7, .inl ((cT 0), 1000, .inl (upd gq (22 + i * 16 + q9) (x101 &&& 255))))]) hP hD [0, 4] [1, 2, 3, 5, 6] rfl rfl (by decide) (by decide) hk1 hFc hP1 hD1
              have hw102 := hw
              clear hPc hDc hFc hz1 hk1 hP1 hK1 hD1
              generalize H1 = H at hP hS ⊢
              have hP : va_P (dC, dI) vcl [(r 9, .inl ((cT 0), 1400, .inl g_75)), (r 3, .inl ((cT 0), 160, .inl fc)), (r 4, .inl ((cT 0), 4, .inl fz)), (r 0, .inl ((cT 1), 64, .inr (.inl fs))), (r 11, .inl ((cT 0), 16, .inl fd2_76)), (mo, .inr (12, mdF r z q 0 tm (nI ((22 + i * 16 + q9) + 1)) (nI 0))), (r 7, .inl ((cT 0), 1000, .inl (upd gq (22 + i * 16 + q9) (x101 &&& 255))))] H := hP
              have hD : va_D A [(r 9, .inl ((cT 0), 1400, .inl g_75)), (r 3, .inl ((cT 0), 160, .inl fc)), (r 4, .inl ((cT 0), 4, .inl fz)), (r 0, .inl ((cT 1), 64, .inr (.inl fs))), (r 11, .inl ((cT 0), 16, .inl fd2_76)), (mo, .inr (12, mdF r z q 0 tm (nI ((22 + i * 16 + q9) + 1)) (nI 0))), (r 7, .inl ((cT 0), 1000, .inl (upd gq (22 + i * 16 + q9) (x101 &&& 255))))] := hD
              refine lv_iinc (k := 0) (v := nI (16 * i + (q9 + 1))) (lv' := [(7, .int (nI (16 * i + (q9 + 1)))), (6, .int (nI i)), (5, .int (nI nb)), (0, .ref mo), (1, .int (nI st)), (2, .long v), (4, .int (nI k))]) hx hb d_Md_password_144 hl rfl (nI_1 (16 * i + q9)) (by decide) rfl (fun ls hl => ?_)
              refine lv_goto (tgt := 99) hx hb d_Md_password_147 (by decide) ?_
              have hP := hP.sub (ws' := [(mo, .inr (12, mdF r z q 0 tm (nI ((22 + i * 16 + q9) + 1)) (nI 0))), (r 9, .inl ((cT 0), 1400, .inl g_75)), (r 3, .inl ((cT 0), 160, .inl fc)), (r 4, .inl ((cT 0), 4, .inl fz)), (r 7, .inl ((cT 0), 1000, .inl (upd gq (22 + i * 16 + q9) (x101 &&& 255)))), (r 0, .inl ((cT 1), 64, .inr (.inl fs))), (r 11, .inl ((cT 0), 16, .inl fd2_76))]) [5, 0, 1, 2, 6, 3, 4] rfl
              have hD := hD.sub (ws' := [(mo, .inr (12, mdF r z q 0 tm (nI ((22 + i * 16 + q9) + 1)) (nI 0))), (r 9, .inl ((cT 0), 1400, .inl g_75)), (r 3, .inl ((cT 0), 160, .inl fc)), (r 4, .inl ((cT 0), 4, .inl fz)), (r 7, .inl ((cT 0), 1000, .inl (upd gq (22 + i * 16 + q9) (x101 &&& 255)))), (r 0, .inl ((cT 1), 64, .inr (.inl fs))), (r 11, .inl ((cT 0), 16, .inl fd2_76))]) [5, 0, 1, 2, 6, 3, 4] (by decide) rfl
              exact ih (q9 + 1) _ _ _ _ (by omega) hP hD hS hl
            refine lv_icmp_ge (tgt := 129) hx hb d_Md_password_117 (by decide) (fun hc103 => ?_) (fun hc103 => ?_)
            · refine lv_iconst (v := 0) hx hb d_Md_password_129 (by decide) ?_
              exact K91 _
            · exact K96
        refine L80 _ (fun gq H locs ls  hP hD hS hl => ?_) (16 - 0) 0 gp H _ ls (by omega)  hP hD hS hl
        refine lv_iinc (k := 1) (v := nI (i + 1)) (lv' := [(6, .int (nI (i + 1))), (7, .int (nI (16 * i + 16))), (5, .int (nI nb)), (0, .ref mo), (1, .int (nI st)), (2, .long v), (4, .int (nI k))]) hx hb d_Md_password_150 hl rfl (nI_1 i) (by decide) rfl (fun ls hl => ?_)
        refine lv_goto (tgt := 64) hx hb d_Md_password_153 (by decide) ?_
        have hl := lv_sub hl [0, 2, 3, 4, 5, 6] (show _ = [(6, .int (nI (i + 1))), (5, .int (nI nb)), (0, .ref mo), (1, .int (nI st)), (2, .long v), (4, .int (nI k))] from rfl)
        rw [show 22 + i * 16 + 16 = 22 + (i + 1) * 16 by omega] at hP hD
        exact ih (i + 1) _ _ _ _ _ _ (by omega) hP hD hS hl
      refine lv_if_ne (tgt := 82) hx hb d_Md_password_75 (by decide) (fun hc104 => ?_) (fun hc104 => ?_)
      · refine lv_aload_n hx hb d_Md_password_82 rfl (lv_at hl 2 rfl) ?_
        refine va_get (D := (dC, dI)) (ci := 12) (v := (.int (nI (22 + i * 16)))) (C := R_Md) (T := F_Md) (N := 45) hx hb hg in_Md hown hK hP 0 rfl rfl 8 (by decide) (hg _ k_1028) (fun _ h9 => h9) rfl d_Md_password_83 ?_
        refine lv_bipush (v := 16) hx hb d_Md_password_86 (by decide) ?_
        refine lv_isub hx hb d_Md_password_88 ?_
        refine lv_topi (fun x108 e107 => ?_)
        obtain rfl : x108 = nI (22 + i * 16 - 16) := by rw [e107]; exact pk_sub (b := 16) (by omega)
        exact K74 _ (by omega)
      · refine lv_iconst (v := 4) hx hb d_Md_password_78 (by decide) ?_
        refine lv_topi (fun x106 e105 => ?_)
        obtain rfl : x106 = nI 4 := by rw [e105]; rfl
        refine lv_goto (tgt := 89) hx hb d_Md_password_79 (by decide) ?_
        exact K74 4 (by decide)
  refine L71 _ (fun f fd gp H locs ls  hP hD hS hl => ?_) (nb - 0) 0 f fd (upd (upd fp 20 (2 &&& 255)) (20 + 1) ((nI (16 * nb) + 2) &&& 255)) H _ ls (by omega)  hP hD hS hl
  refine lv_aload_n hx hb d_Md_password_156 rfl (lv_at hl 2 rfl) ?_
  have hPc := hP.sub (ws' := [(mo, .inr (12, mdF r z q 0 tm (nI (22 + nb * 16)) (nI 0))), (r 7, .inl ((cT 0), 1000, .inl gp))]) [0, 4] rfl
  have hDc := hD.sub (ws' := [(mo, .inr (12, mdF r z q 0 tm (nI (22 + nb * 16)) (nI 0))), (r 7, .inl ((cT 0), 1000, .inl gp))]) [0, 4] (by decide) rfl
  have hFc := va_free (wc := [(mo, .inr (12, mdF r z q 0 tm (nI (22 + nb * 16)) (nI 0))), (r 7, .inl ((cT 0), 1000, .inl gp))]) hD hS hA [0, 4] rfl
  refine va_calli (va_runV (C := "DoorServerModel") (As := []) (rest := []) ⟨hx, hb, hml, hown, hg⟩ (m_closes l dC dI cT H.size mo r z q 0 tm (22 + nb * 16) 0 gp ) (cwV 0 hg (gI (List.forall_mem_append.mpr ⟨List.forall_mem_cons.mpr ⟨k_1192, List.forall_mem_cons.mpr ⟨k_1194, List.forall_mem_cons.mpr ⟨(big_sel (q := y_Md_closes) (n := 45) (by decide +kernel)), List.forall_mem_cons.mpr ⟨k_13, fun _ h => absurd h List.not_mem_nil⟩⟩⟩⟩, List.forall_mem_cons.mpr ⟨k_1195, fun _ h => h⟩⟩)) rfl rfl rfl (by decide +kernel) ⟨Nat.le_of_ble_eq_true rfl, Nat.le_of_ble_eq_true rfl⟩) ⟨fun a U g mk q => by obtain ⟨q0, q1, qP, qK, qD⟩ := q; exact ⟨q0, q1, qP, va_K.moved (u := U) (U := U.calling g mk a) (Vm.Alike.refl U.vm) qK, qD⟩, va_recv (q0 := 0) (ci := 12) hK hP rfl rfl, fun U hU hW => ⟨rfl, by rw [hU], by rw [hU]; exact hPc, va_K.moved hW.alike hK, hDc.weaken (fun _ _ _ _ => trivial)⟩⟩ rfl rfl hl.1 rfl (lv_room (Nat.le_of_ble_eq_true rfl)) d_Md_password_157 ⟨Nat.le_of_ble_eq_true rfl, Nat.le_of_ble_eq_true rfl⟩) hS (fun q _ h => hFc q h) hFc (fun rv9 u t H1 locs ht hvm hw hB hz1 hk1 hS => ?_)
  obtain ⟨g_109, rfl⟩ : ∃ z, z = u := ⟨_, rfl⟩
  try dsimp only at hw hB
  obtain ⟨hP1, hK1, hD1⟩ := hB
  rw [ht] at hP1
  obtain ⟨rfl, hw⟩ := hw
  obtain ⟨hP, hD⟩ := va_join (wr := [(r 9, .inl ((cT 0), 1400, .inl f)), (r 3, .inl ((cT 0), 160, .inl fc)), (r 4, .inl ((cT 0), 4, .inl fz)), (r 0, .inl ((cT 1), 64, .inr (.inl fs))), (r 11, .inl ((cT 0), 16, .inl fd))]) (w1 := [(mo, .inr (12, mdF r z q 0 tm (nI (22 + nb * 16)) (nI 0))), (r 7, .inl ((cT 0), 1000, .inl g_109))]) hP hD [0, 4] [1, 2, 3, 5, 6] rfl rfl (by decide) (by decide) hk1 hFc hP1 hD1
  have hw110 := hw
  clear hPc hDc hFc hz1 hk1 hP1 hK1 hD1
  generalize H1 = H at hP hS ⊢
  have hP : va_P (dC, dI) vcl [(r 9, .inl ((cT 0), 1400, .inl f)), (r 3, .inl ((cT 0), 160, .inl fc)), (r 4, .inl ((cT 0), 4, .inl fz)), (r 0, .inl ((cT 1), 64, .inr (.inl fs))), (r 11, .inl ((cT 0), 16, .inl fd)), (mo, .inr (12, mdF r z q 0 tm (nI (22 + nb * 16)) (nI 0))), (r 7, .inl ((cT 0), 1000, .inl g_109))] H := hP
  have hD : va_D A [(r 9, .inl ((cT 0), 1400, .inl f)), (r 3, .inl ((cT 0), 160, .inl fc)), (r 4, .inl ((cT 0), 4, .inl fz)), (r 0, .inl ((cT 1), 64, .inr (.inl fs))), (r 11, .inl ((cT 0), 16, .inl fd)), (mo, .inr (12, mdF r z q 0 tm (nI (22 + nb * 16)) (nI 0))), (r 7, .inl ((cT 0), 1000, .inl g_109))] := hD
  -- world: (mo, .inr (12, mdF r z q 0 tm (nI (22 + nb * 16)) (nI 0))) for (mo, .inr (12, mdF r z q 0 tm (nI (22 + (k + 15) / 16 * 16)) (nI 0)))
  have hP9 := hP.sub (ws' := [(mo, .inr (12, mdF r z q 0 tm (nI (22 + nb * 16)) (nI 0)))]) [5] rfl
  have hD9 := hD.sub (ws' := [(mo, .inr (12, mdF r z q 0 tm (nI (22 + nb * 16)) (nI 0)))]) [5] (by decide) rfl
  exact W.iret (v := nI (22 + nb * 16)) hx hb hr (fun t ht hW => ⟨⟨_, (), rfl, ⟨rfl, trivial⟩, by rw [ht]; exact hP9, va_K.moved hW.alike hK, hD9⟩, hS.F ht⟩) hS.2.2 d_Md_password_160
