theorem d_Rq_isWhole_0 : decode b_Rq_isWhole 0 = .ok (.aload_n 0, 1) := by decide +kernel
theorem d_Rq_isWhole_1 : decode b_Rq_isWhole 1 = .ok (.getfield 9, 3) := by decide +kernel
theorem d_Rq_isWhole_4 : decode b_Rq_isWhole 4 = .ok (.iconst 0, 1) := by decide +kernel
theorem d_Rq_isWhole_5 : decode b_Rq_isWhole 5 = .ok (.invokestatic 19, 3) := by decide +kernel
theorem d_Rq_isWhole_8 : decode b_Rq_isWhole 8 = .ok (.aload_n 0, 1) := by decide +kernel
theorem d_Rq_isWhole_9 : decode b_Rq_isWhole 9 = .ok (.getfield 15, 3) := by decide +kernel
theorem d_Rq_isWhole_12 : decode b_Rq_isWhole 12 = .ok (.getfield 25, 3) := by decide +kernel
theorem d_Rq_isWhole_15 : decode b_Rq_isWhole 15 = .ok (.istore_n 1, 1) := by decide +kernel
theorem d_Rq_isWhole_16 : decode b_Rq_isWhole 16 = .ok (.iload_n 1, 1) := by decide +kernel
theorem d_Rq_isWhole_17 : decode b_Rq_isWhole 17 = .ok (.bipush 20, 2) := by decide +kernel
theorem d_Rq_isWhole_19 : decode b_Rq_isWhole 19 = .ok (.if_icmp .lt 37, 3) := by decide +kernel
theorem d_Rq_isWhole_22 : decode b_Rq_isWhole 22 = .ok (.iload_n 1, 1) := by decide +kernel
theorem d_Rq_isWhole_23 : decode b_Rq_isWhole 23 = .ok (.sipush 1000, 3) := by decide +kernel
theorem d_Rq_isWhole_26 : decode b_Rq_isWhole 26 = .ok (.if_icmp .gt 30, 3) := by decide +kernel
theorem d_Rq_isWhole_29 : decode b_Rq_isWhole 29 = .ok (.aload_n 0, 1) := by decide +kernel
theorem d_Rq_isWhole_30 : decode b_Rq_isWhole 30 = .ok (.getfield 15, 3) := by decide +kernel
theorem d_Rq_isWhole_33 : decode b_Rq_isWhole 33 = .ok (.getfield 31, 3) := by decide +kernel
theorem d_Rq_isWhole_36 : decode b_Rq_isWhole 36 = .ok (.iconst 2, 1) := by decide +kernel
theorem d_Rq_isWhole_37 : decode b_Rq_isWhole 37 = .ok (.iaload, 1) := by decide +kernel
theorem d_Rq_isWhole_38 : decode b_Rq_isWhole 38 = .ok (.sipush 256, 3) := by decide +kernel
theorem d_Rq_isWhole_41 : decode b_Rq_isWhole 41 = .ok (.imul, 1) := by decide +kernel
theorem d_Rq_isWhole_42 : decode b_Rq_isWhole 42 = .ok (.aload_n 0, 1) := by decide +kernel
theorem d_Rq_isWhole_43 : decode b_Rq_isWhole 43 = .ok (.getfield 15, 3) := by decide +kernel
theorem d_Rq_isWhole_46 : decode b_Rq_isWhole 46 = .ok (.getfield 31, 3) := by decide +kernel
theorem d_Rq_isWhole_49 : decode b_Rq_isWhole 49 = .ok (.iconst 3, 1) := by decide +kernel
theorem d_Rq_isWhole_50 : decode b_Rq_isWhole 50 = .ok (.iaload, 1) := by decide +kernel
theorem d_Rq_isWhole_51 : decode b_Rq_isWhole 51 = .ok (.iadd, 1) := by decide +kernel
theorem d_Rq_isWhole_52 : decode b_Rq_isWhole 52 = .ok (.iload_n 1, 1) := by decide +kernel
theorem d_Rq_isWhole_53 : decode b_Rq_isWhole 53 = .ok (.if_icmp .eq 5, 3) := by decide +kernel
theorem d_Rq_isWhole_58 : decode b_Rq_isWhole 58 = .ok (.bipush 20, 2) := by decide +kernel
theorem d_Rq_isWhole_60 : decode b_Rq_isWhole 60 = .ok (.istore_n 2, 1) := by decide +kernel
theorem d_Rq_isWhole_61 : decode b_Rq_isWhole 61 = .ok (.iload_n 2, 1) := by decide +kernel
theorem d_Rq_isWhole_62 : decode b_Rq_isWhole 62 = .ok (.iload_n 1, 1) := by decide +kernel
theorem d_Rq_isWhole_63 : decode b_Rq_isWhole 63 = .ok (.if_icmp .ge 69, 3) := by decide +kernel
theorem d_Rq_isWhole_66 : decode b_Rq_isWhole 66 = .ok (.iload_n 2, 1) := by decide +kernel
theorem d_Rq_isWhole_67 : decode b_Rq_isWhole 67 = .ok (.iconst 3, 1) := by decide +kernel
theorem d_Rq_isWhole_68 : decode b_Rq_isWhole 68 = .ok (.iadd, 1) := by decide +kernel
theorem d_Rq_isWhole_69 : decode b_Rq_isWhole 69 = .ok (.iload_n 1, 1) := by decide +kernel
theorem d_Rq_isWhole_70 : decode b_Rq_isWhole 70 = .ok (.if_icmp .gt 17, 3) := by decide +kernel
theorem d_Rq_isWhole_87 : decode b_Rq_isWhole 87 = .ok (.iconst 0, 1) := by decide +kernel
theorem d_Rq_isWhole_88 : decode b_Rq_isWhole 88 = .ok (.istore_n 3, 1) := by decide +kernel
theorem d_Rq_isWhole_89 : decode b_Rq_isWhole 89 = .ok (.iload_n 3, 1) := by decide +kernel
theorem d_Rq_isWhole_90 : decode b_Rq_isWhole 90 = .ok (.iconst 3, 1) := by decide +kernel
theorem d_Rq_isWhole_91 : decode b_Rq_isWhole 91 = .ok (.if_icmp .lt 32, 3) := by decide +kernel
theorem d_Rq_isWhole_73 : decode b_Rq_isWhole 73 = .ok (.aload_n 0, 1) := by decide +kernel
theorem d_Rq_isWhole_74 : decode b_Rq_isWhole 74 = .ok (.getfield 15, 3) := by decide +kernel
theorem d_Rq_isWhole_77 : decode b_Rq_isWhole 77 = .ok (.getfield 31, 3) := by decide +kernel
theorem d_Rq_isWhole_80 : decode b_Rq_isWhole 80 = .ok (.iload_n 2, 1) := by decide +kernel
theorem d_Rq_isWhole_81 : decode b_Rq_isWhole 81 = .ok (.iconst 1, 1) := by decide +kernel
theorem d_Rq_isWhole_82 : decode b_Rq_isWhole 82 = .ok (.iadd, 1) := by decide +kernel
theorem d_Rq_isWhole_83 : decode b_Rq_isWhole 83 = .ok (.iaload, 1) := by decide +kernel
theorem d_Rq_isWhole_84 : decode b_Rq_isWhole 84 = .ok (.goto 4, 3) := by decide +kernel
theorem d_Rq_isWhole_94 : decode b_Rq_isWhole 94 = .ok (.iload_n 2, 1) := by decide +kernel
theorem d_Rq_isWhole_95 : decode b_Rq_isWhole 95 = .ok (.iload_n 3, 1) := by decide +kernel
theorem d_Rq_isWhole_96 : decode b_Rq_isWhole 96 = .ok (.iadd, 1) := by decide +kernel
theorem d_Rq_isWhole_97 : decode b_Rq_isWhole 97 = .ok (.iload_n 1, 1) := by decide +kernel
theorem d_Rq_isWhole_98 : decode b_Rq_isWhole 98 = .ok (.if_icmp .gt 25, 3) := by decide +kernel
theorem d_Rq_isWhole_101 : decode b_Rq_isWhole 101 = .ok (.aload_n 0, 1) := by decide +kernel
theorem d_Rq_isWhole_102 : decode b_Rq_isWhole 102 = .ok (.aload_n 0, 1) := by decide +kernel
theorem d_Rq_isWhole_103 : decode b_Rq_isWhole 103 = .ok (.getfield 15, 3) := by decide +kernel
theorem d_Rq_isWhole_106 : decode b_Rq_isWhole 106 = .ok (.getfield 31, 3) := by decide +kernel
theorem d_Rq_isWhole_109 : decode b_Rq_isWhole 109 = .ok (.iload_n 2, 1) := by decide +kernel
theorem d_Rq_isWhole_110 : decode b_Rq_isWhole 110 = .ok (.iaload, 1) := by decide +kernel
theorem d_Rq_isWhole_111 : decode b_Rq_isWhole 111 = .ok (.iload_n 2, 1) := by decide +kernel
theorem d_Rq_isWhole_112 : decode b_Rq_isWhole 112 = .ok (.iconst 2, 1) := by decide +kernel
theorem d_Rq_isWhole_113 : decode b_Rq_isWhole 113 = .ok (.iadd, 1) := by decide +kernel
theorem d_Rq_isWhole_114 : decode b_Rq_isWhole 114 = .ok (.iload_n 3, 1) := by decide +kernel
theorem d_Rq_isWhole_115 : decode b_Rq_isWhole 115 = .ok (.iconst 2, 1) := by decide +kernel
theorem d_Rq_isWhole_116 : decode b_Rq_isWhole 116 = .ok (.isub, 1) := by decide +kernel
theorem d_Rq_isWhole_117 : decode b_Rq_isWhole 117 = .ok (.invokevirtual 34, 3) := by decide +kernel
theorem d_Rq_isWhole_120 : decode b_Rq_isWhole 120 = .ok (.ifCond .ne 5, 3) := by decide +kernel
theorem d_Rq_isWhole_125 : decode b_Rq_isWhole 125 = .ok (.iload_n 2, 1) := by decide +kernel
theorem d_Rq_isWhole_126 : decode b_Rq_isWhole 126 = .ok (.iload_n 3, 1) := by decide +kernel
theorem d_Rq_isWhole_127 : decode b_Rq_isWhole 127 = .ok (.iadd, 1) := by decide +kernel
theorem d_Rq_isWhole_128 : decode b_Rq_isWhole 128 = .ok (.istore_n 2, 1) := by decide +kernel
theorem d_Rq_isWhole_129 : decode b_Rq_isWhole 129 = .ok (.goto (-68), 3) := by decide +kernel
theorem d_Rq_isWhole_132 : decode b_Rq_isWhole 132 = .ok (.iconst 1, 1) := by decide +kernel
theorem d_Rq_isWhole_133 : decode b_Rq_isWhole 133 = .ok (.ireturn, 1) := by decide +kernel
theorem d_Rq_isWhole_123 : decode b_Rq_isWhole 123 = .ok (.iconst 0, 1) := by decide +kernel
theorem d_Rq_isWhole_124 : decode b_Rq_isWhole 124 = .ok (.ireturn, 1) := by decide +kernel
theorem d_Rq_isWhole_56 : decode b_Rq_isWhole 56 = .ok (.iconst 0, 1) := by decide +kernel
theorem d_Rq_isWhole_57 : decode b_Rq_isWhole 57 = .ok (.ireturn, 1) := by decide +kernel
theorem d_Rq_has_0 : decode b_Rq_has 0 = .ok (.aload_n 0, 1) := by decide +kernel
theorem d_Rq_has_1 : decode b_Rq_has 1 = .ok (.getfield 9, 3) := by decide +kernel
theorem d_Rq_has_4 : decode b_Rq_has 4 = .ok (.iload_n 1, 1) := by decide +kernel
theorem d_Rq_has_5 : decode b_Rq_has 5 = .ok (.iaload, 1) := by decide +kernel
theorem d_Rq_has_6 : decode b_Rq_has 6 = .ok (.ifCond .le 7, 3) := by decide +kernel
theorem d_Rq_has_13 : decode b_Rq_has 13 = .ok (.iconst 0, 1) := by decide +kernel
theorem d_Rq_has_14 : decode b_Rq_has 14 = .ok (.ireturn, 1) := by decide +kernel
theorem d_Rq_has_9 : decode b_Rq_has 9 = .ok (.iconst 1, 1) := by decide +kernel
theorem d_Rq_has_10 : decode b_Rq_has 10 = .ok (.goto 4, 3) := by decide +kernel
theorem d_Rq_startOf_0 : decode b_Rq_startOf 0 = .ok (.aload_n 0, 1) := by decide +kernel
theorem d_Rq_startOf_1 : decode b_Rq_startOf 1 = .ok (.getfield 9, 3) := by decide +kernel
theorem d_Rq_startOf_4 : decode b_Rq_startOf 4 = .ok (.iload_n 1, 1) := by decide +kernel
theorem d_Rq_startOf_5 : decode b_Rq_startOf 5 = .ok (.iaload, 1) := by decide +kernel
theorem d_Rq_startOf_6 : decode b_Rq_startOf 6 = .ok (.ireturn, 1) := by decide +kernel
theorem d_Rq_lengthOf_0 : decode b_Rq_lengthOf 0 = .ok (.aload_n 0, 1) := by decide +kernel
theorem d_Rq_lengthOf_1 : decode b_Rq_lengthOf 1 = .ok (.getfield 15, 3) := by decide +kernel
theorem d_Rq_lengthOf_4 : decode b_Rq_lengthOf 4 = .ok (.getfield 31, 3) := by decide +kernel
theorem d_Rq_lengthOf_7 : decode b_Rq_lengthOf 7 = .ok (.aload_n 0, 1) := by decide +kernel
theorem d_Rq_lengthOf_8 : decode b_Rq_lengthOf 8 = .ok (.getfield 9, 3) := by decide +kernel
theorem d_Rq_lengthOf_11 : decode b_Rq_lengthOf 11 = .ok (.iload_n 1, 1) := by decide +kernel
theorem d_Rq_lengthOf_12 : decode b_Rq_lengthOf 12 = .ok (.iaload, 1) := by decide +kernel
theorem d_Rq_lengthOf_13 : decode b_Rq_lengthOf 13 = .ok (.iconst 1, 1) := by decide +kernel
theorem d_Rq_lengthOf_14 : decode b_Rq_lengthOf 14 = .ok (.isub, 1) := by decide +kernel
theorem d_Rq_lengthOf_15 : decode b_Rq_lengthOf 15 = .ok (.iaload, 1) := by decide +kernel
theorem d_Rq_lengthOf_16 : decode b_Rq_lengthOf 16 = .ok (.iconst 2, 1) := by decide +kernel
theorem d_Rq_lengthOf_17 : decode b_Rq_lengthOf 17 = .ok (.isub, 1) := by decide +kernel
theorem d_Rq_lengthOf_18 : decode b_Rq_lengthOf 18 = .ok (.ireturn, 1) := by decide +kernel
theorem d_Rq_byteOf_0 : decode b_Rq_byteOf 0 = .ok (.aload_n 0, 1) := by decide +kernel
theorem d_Rq_byteOf_1 : decode b_Rq_byteOf 1 = .ok (.getfield 15, 3) := by decide +kernel
theorem d_Rq_byteOf_4 : decode b_Rq_byteOf 4 = .ok (.getfield 31, 3) := by decide +kernel
theorem d_Rq_byteOf_7 : decode b_Rq_byteOf 7 = .ok (.aload_n 0, 1) := by decide +kernel
theorem d_Rq_byteOf_8 : decode b_Rq_byteOf 8 = .ok (.getfield 9, 3) := by decide +kernel
theorem d_Rq_byteOf_11 : decode b_Rq_byteOf 11 = .ok (.iload_n 1, 1) := by decide +kernel
theorem d_Rq_byteOf_12 : decode b_Rq_byteOf 12 = .ok (.iaload, 1) := by decide +kernel
theorem d_Rq_byteOf_13 : decode b_Rq_byteOf 13 = .ok (.iload_n 2, 1) := by decide +kernel
theorem d_Rq_byteOf_14 : decode b_Rq_byteOf 14 = .ok (.iadd, 1) := by decide +kernel
theorem d_Rq_byteOf_15 : decode b_Rq_byteOf 15 = .ok (.iaload, 1) := by decide +kernel
theorem d_Rq_byteOf_16 : decode b_Rq_byteOf 16 = .ok (.ireturn, 1) := by decide +kernel
theorem d_Rq_code_0 : decode b_Rq_code 0 = .ok (.aload_n 0, 1) := by decide +kernel
theorem d_Rq_code_1 : decode b_Rq_code 1 = .ok (.getfield 15, 3) := by decide +kernel
theorem d_Rq_code_4 : decode b_Rq_code 4 = .ok (.getfield 31, 3) := by decide +kernel
theorem d_Rq_code_7 : decode b_Rq_code 7 = .ok (.iconst 0, 1) := by decide +kernel
theorem d_Rq_code_8 : decode b_Rq_code 8 = .ok (.iaload, 1) := by decide +kernel
theorem d_Rq_code_9 : decode b_Rq_code 9 = .ok (.ireturn, 1) := by decide +kernel
theorem d_Rq_identifier_0 : decode b_Rq_identifier 0 = .ok (.aload_n 0, 1) := by decide +kernel
theorem d_Rq_identifier_1 : decode b_Rq_identifier 1 = .ok (.getfield 15, 3) := by decide +kernel
theorem d_Rq_identifier_4 : decode b_Rq_identifier 4 = .ok (.getfield 31, 3) := by decide +kernel
theorem d_Rq_identifier_7 : decode b_Rq_identifier 7 = .ok (.iconst 1, 1) := by decide +kernel
theorem d_Rq_identifier_8 : decode b_Rq_identifier 8 = .ok (.iaload, 1) := by decide +kernel
theorem d_Rq_identifier_9 : decode b_Rq_identifier 9 = .ok (.ireturn, 1) := by decide +kernel
theorem d_Rq_numberOf_0 : decode b_Rq_numberOf 0 = .ok (.lconst 0, 1) := by decide +kernel
theorem d_Rq_numberOf_1 : decode b_Rq_numberOf 1 = .ok (.lstore_n 2, 1) := by decide +kernel
theorem d_Rq_numberOf_2 : decode b_Rq_numberOf 2 = .ok (.aload_n 0, 1) := by decide +kernel
theorem d_Rq_numberOf_3 : decode b_Rq_numberOf 3 = .ok (.iload_n 1, 1) := by decide +kernel
theorem d_Rq_numberOf_4 : decode b_Rq_numberOf 4 = .ok (.invokevirtual 46, 3) := by decide +kernel
theorem d_Rq_numberOf_7 : decode b_Rq_numberOf 7 = .ok (.ifCond .eq 11, 3) := by decide +kernel
theorem d_Rq_numberOf_18 : decode b_Rq_numberOf 18 = .ok (.iconst 0, 1) := by decide +kernel
theorem d_Rq_numberOf_19 : decode b_Rq_numberOf 19 = .ok (.istore 4, 2) := by decide +kernel
theorem d_Rq_numberOf_21 : decode b_Rq_numberOf 21 = .ok (.iconst 0, 1) := by decide +kernel
theorem d_Rq_numberOf_22 : decode b_Rq_numberOf 22 = .ok (.istore 5, 2) := by decide +kernel
theorem d_Rq_numberOf_24 : decode b_Rq_numberOf 24 = .ok (.iload 5, 2) := by decide +kernel
theorem d_Rq_numberOf_26 : decode b_Rq_numberOf 26 = .ok (.iload 4, 2) := by decide +kernel
theorem d_Rq_numberOf_28 : decode b_Rq_numberOf 28 = .ok (.if_icmp .ge 23, 3) := by decide +kernel
theorem d_Rq_numberOf_31 : decode b_Rq_numberOf 31 = .ok (.lload_n 2, 1) := by decide +kernel
theorem d_Rq_numberOf_32 : decode b_Rq_numberOf 32 = .ok (.bipush 8, 2) := by decide +kernel
theorem d_Rq_numberOf_34 : decode b_Rq_numberOf 34 = .ok (.lshl, 1) := by decide +kernel
theorem d_Rq_numberOf_35 : decode b_Rq_numberOf 35 = .ok (.aload_n 0, 1) := by decide +kernel
theorem d_Rq_numberOf_36 : decode b_Rq_numberOf 36 = .ok (.iload_n 1, 1) := by decide +kernel
theorem d_Rq_numberOf_37 : decode b_Rq_numberOf 37 = .ok (.iload 5, 2) := by decide +kernel
theorem d_Rq_numberOf_51 : decode b_Rq_numberOf 51 = .ok (.lload_n 2, 1) := by decide +kernel
theorem d_Rq_numberOf_52 : decode b_Rq_numberOf 52 = .ok (.lreturn, 1) := by decide +kernel
theorem d_Rq_numberOf_10 : decode b_Rq_numberOf 10 = .ok (.aload_n 0, 1) := by decide +kernel
theorem d_Rq_numberOf_11 : decode b_Rq_numberOf 11 = .ok (.iload_n 1, 1) := by decide +kernel
theorem d_Rq_numberOf_12 : decode b_Rq_numberOf 12 = .ok (.invokevirtual 49, 3) := by decide +kernel
theorem d_Rq_numberOf_15 : decode b_Rq_numberOf 15 = .ok (.goto 4, 3) := by decide +kernel
theorem d_Rq_numberOf_39 : decode b_Rq_numberOf 39 = .ok (.invokevirtual 53, 3) := by decide +kernel
theorem d_Rq_numberOf_42 : decode b_Rq_numberOf 42 = .ok (.i2l, 1) := by decide +kernel
theorem d_Rq_numberOf_43 : decode b_Rq_numberOf 43 = .ok (.lor, 1) := by decide +kernel
theorem d_Rq_numberOf_44 : decode b_Rq_numberOf 44 = .ok (.lstore_n 2, 1) := by decide +kernel
theorem d_Rq_numberOf_45 : decode b_Rq_numberOf 45 = .ok (.iinc 5 1, 3) := by decide +kernel
theorem d_Rq_numberOf_48 : decode b_Rq_numberOf 48 = .ok (.goto (-24), 3) := by decide +kernel
theorem RQW_step {g f : Nat → Int32} {len c a n : Nat} (h : RQW g f len) (ha : 22 ≤ a) (hf : f (a - 1) = nI (n + 2)) (hl : a + n ≤ len) (hft : FT c n) : RQW (upd g c (nI a)) f len := fun c' hk => by
  by_cases hc : c' = c
  · subst hc; exact Or.inr ⟨a, n, by simp [upd], ha, hf, hl, hft⟩
  · rw [show upd g c (nI a) c' = g c' by simp [upd, hc]]; exact h c' hk
theorem rng_9 {x : Int32} (h1 : ¬ x < 0) (h2 : ¬ 9 < x) : ∃ u : Nat, u ≤ 9 ∧ x = nI u := nI_of2 (M := 9) (n := 9) (by decide) h1 (by rw [Int32.le_iff_toInt_le]; rw [Int32.lt_iff_toInt_lt] at h2; omega)
set_option maxHeartbeats 4000000 in
set_option maxRecDepth 100000 in
/-- isWhole -/
theorem c_whole (l : Launch) (dC : Nat → ClassId) (dI : Nat → Nat → Nat) (cT : Nat → ClassId) (sz : Nat) (rq : Nat) (dr : Nat) (rr : Nat) (sa : Nat) (len : Nat) (f : Nat → Int32) (ga : Nat → Int32) (h20 : 20 ≤ len) (hlen : len ≤ 1000) (hab : AB f) : Met l y_Rq_isWhole (Cond.code y_Rq_isWhole b_Rq_isWhole 4 (Option.some Jvm.ClassFile.FieldType.boolean) :: BIG) ({ frames := 2, cells := 0, slots := 0, locals := 46 }) (va_Pc [.ref rq] (fun U => U.heap.size = sz ∧ va_P (dC, dI) vcl [(rq, .inr (4, [.ref dr, .ref sa])), (sa, .inl ((cT 0), 256, .inl ga)), (dr, .inr (2, [.ref rr, .int (nI len)])), (rr, .inl ((cT 0), 1000, .inl f))] U.heap ∧ va_K (dC, dI) vcl (tyL cT) U ∧ va_D (fun _ => True) [(rq, .inr (4, [.ref dr, .ref sa])), (sa, .inl ((cT 0), 256, .inl ga)), (dr, .inr (2, [.ref rr, .int (nI len)])), (rr, .inl ((cT 0), 1000, .inl f))])) (va_Qi (S := (Nat → Int32)) (fun rv9 u => match u with | g => (rv9 = 0 ∨ rv9 = 1) ∧ (rv9 = 1 → RQW g f len)) (fun u t => match u with | g => va_P (dC, dI) vcl [(rq, .inr (4, [.ref dr, .ref sa])), (sa, .inl ((cT 0), 256, .inl g)), (dr, .inr (2, [.ref rr, .int (nI len)])), (rr, .inl ((cT 0), 1000, .inl f))] t.heap ∧ va_K (dC, dI) vcl (tyL cT) t ∧ va_D (va_A [(rq, .inr (4, [.ref dr, .ref sa])), (sa, .inl ((cT 0), 256, .inl ga)), (dr, .inr (2, [.ref rr, .int (nI len)])), (rr, .inl ((cT 0), 1000, .inl f))] sz) [(rq, .inr (4, [.ref dr, .ref sa])), (sa, .inl ((cT 0), 256, .inl g)), (dr, .inr (2, [.ref rr, .int (nI len)])), (rr, .inl ((cT 0), 1000, .inl f))]) (va_A [(rq, .inr (4, [.ref dr, .ref sa])), (sa, .inl ((cT 0), 256, .inl ga)), (dr, .inr (2, [.ref rr, .int (nI len)])), (rr, .inl ((cT 0), 1000, .inl f))] sz)) 0 0 (va_A [(rq, .inr (4, [.ref dr, .ref sa])), (sa, .inl ((cT 0), 256, .inl ga)), (dr, .inr (2, [.ref rr, .int (nI len)])), (rr, .inl ((cT 0), 1000, .inl f))] sz) := by
  refine Met.ofW (cc := b_Rq_isWhole) (maxL := 4) (ret := (Option.some Jvm.ClassFile.FieldType.boolean)) (by decide) rfl ?_
  intro p e s m args below meth c s₁ B hml hv
  obtain ⟨hargs, hsz, hP, hK, hD0⟩ := hv
  have hx := B.exec
  have hb := B.bytes
  have hr := B.returns
  have hts := atoms_spec (ws := (Cond.code y_Rq_isWhole b_Rq_isWhole 4 (Option.some Jvm.ClassFile.FieldType.boolean) :: BIG)) B.pre
  have hg : ∀ w ∈ BIG, w.before _ s = true := fun w h => hts w (List.mem_cons_of_mem _ h)
  have hown : s.vm.findClass "DoorServer$Request" = some m.cls := findClass_of_methodNamed B.named
  have hlocks := B.notSynchronized
  subst hsz
  have hD := hD0.self (sz := s.heap.size)
  generalize hAe : va_A [(rq, .inr (4, [.ref dr, .ref sa])), (sa, .inl ((cT 0), 256, .inl ga)), (dr, .inr (2, [.ref rr, .int (nI len)])), (rr, .inl ((cT 0), 1000, .inl f))] s.heap.size = A at hD ⊢
  have hA : ∀ q : Nat, s.heap.size ≤ q → A q := fun q h => by rw [← hAe]; exact Or.inr h
  have hS : va_S A s.heap s.heap [] := va_S.rf
  have hl := lv_entry ([.ref rq]) (n := 4) (Nat.le_of_ble_eq_true rfl)
  refine W.eq (g2 := entryFrame m (List.toArray [.ref rq]) 4) (by rw [hargs]) ?_
  rw [lg_entry_eq]
  generalize (lg_sl ([.ref rq]) ++ List.replicate (4 - (lg_sl ([.ref rq])).length) Slot.unset).toArray = ls at hl ⊢
  have hl : lv_has ls 4 [(0, .ref rq)] := hl
  change W p l e ({ frames := 2, cells := 0, slots := 0, locals := 46 } : Room) s m args below meth c s.heap [] 0 0 _ _
  have hP : va_P (dC, dI) vcl [(rq, .inr (4, [.ref dr, .ref sa])), (sa, .inl ((cT 0), 256, .inl ga)), (dr, .inr (2, [.ref rr, .int (nI len)])), (rr, .inl ((cT 0), 1000, .inl f))] s.heap := hP
  refine lv_aload_n hx hb d_Rq_isWhole_0 rfl (lv_at hl 0 rfl) ?_
  refine va_get (D := (dC, dI)) (ci := 4) (v := (.ref sa)) (C := R_Rq) (T := F_Rq) (N := 2) hx hb hg in_Rq hown hK hP 0 rfl rfl 1 (by decide) (hg _ k_313) (fun _ h9 => h9) rfl d_Rq_isWhole_1 ?_
  refine lv_iconst (v := 0) hx hb d_Rq_isWhole_4 (by decide) ?_
  have hPc := hP.sub (ws' := [(sa, .inl ((cT 0), 256, .inl ga))]) [1] rfl
  have hDc := hD.sub (ws' := [(sa, .inl ((cT 0), 256, .inl ga))]) [1] (by decide) rfl
  have hFc := va_free (wc := [(sa, .inl ((cT 0), 256, .inl ga))]) hD hS hA [1] rfl
  refine va_callv (va_runS (As := [.ref sa, .int 0]) (rest := []) ⟨hx, hb, hml, hown, hg⟩ (c_Ar_fill2 l dC dI cT s.heap.size sa 256 ga 0 (by decide)) (va_cwS 2 hg (gI (List.forall_mem_append.mpr ⟨List.forall_mem_cons.mpr ⟨k_698, List.forall_mem_cons.mpr ⟨k_699, List.forall_mem_cons.mpr ⟨k_20, fun _ h => absurd h List.not_mem_nil⟩⟩⟩, List.forall_mem_cons.mpr ⟨k_700, fun _ h => h⟩⟩)) rfl rfl rfl (by decide +kernel) ⟨Nat.le_of_ble_eq_true rfl, Nat.le_of_ble_eq_true rfl⟩) ⟨fun a U g mk q => by obtain ⟨q0, q1, qP, qK, qD⟩ := q; exact ⟨q0, q1, qP, va_K.moved (u := U) (U := U.calling g mk a) (Vm.Alike.refl U.vm) qK, qD⟩, fun U hU hW => ⟨rfl, by rw [hU], by rw [hU]; exact hPc, va_K.moved hW.alike hK, hDc.weaken (fun _ _ _ _ => trivial)⟩⟩ rfl rfl hl.1 rfl (lv_room (Nat.le_of_ble_eq_true rfl)) d_Rq_isWhole_5 ⟨Nat.le_of_ble_eq_true rfl, Nat.le_of_ble_eq_true rfl⟩) hS (fun q _ h => hFc q h) hFc (fun u t H1 locs ht hvm hw hB hz1 hk1 hS => ?_)
  obtain ⟨g_1, rfl⟩ : ∃ z, z = u := ⟨_, rfl⟩
  try dsimp only at hw hB
  obtain ⟨hP1, hK1, hD1⟩ := hB
  rw [ht] at hP1
  obtain ⟨hP, hD⟩ := va_join (wr := [(rq, .inr (4, [.ref dr, .ref sa])), (dr, .inr (2, [.ref rr, .int (nI len)])), (rr, .inl ((cT 0), 1000, .inl f))]) (w1 := [(sa, .inl ((cT 0), 256, .inl g_1))]) hP hD [1] [0, 2, 3] rfl rfl (by decide) (by decide) hk1 hFc hP1 hD1
  have hw2 := hw
  clear hPc hDc hFc hz1 hk1 hP1 hK1 hD1
  generalize H1 = H at hP hS ⊢
  have hP : va_P (dC, dI) vcl [(rq, .inr (4, [.ref dr, .ref sa])), (dr, .inr (2, [.ref rr, .int (nI len)])), (rr, .inl ((cT 0), 1000, .inl f)), (sa, .inl ((cT 0), 256, .inl g_1))] H := hP
  have hD : va_D A [(rq, .inr (4, [.ref dr, .ref sa])), (dr, .inr (2, [.ref rr, .int (nI len)])), (rr, .inl ((cT 0), 1000, .inl f)), (sa, .inl ((cT 0), 256, .inl g_1))] := hD
  refine lv_aload_n hx hb d_Rq_isWhole_8 rfl (lv_at hl 0 rfl) ?_
  refine va_get (D := (dC, dI)) (ci := 4) (v := (.ref dr)) (C := R_Rq) (T := F_Rq) (N := 2) hx hb hg in_Rq hown hK hP 0 rfl rfl 0 (by decide) (hg _ k_309) (fun _ h9 => h9) rfl d_Rq_isWhole_9 ?_
  refine va_get (D := (dC, dI)) (ci := 2) (v := (.int (nI len))) (C := R_Pk) (T := F_Pk) (N := 2) hx hb hg in_Pk hown hK hP 1 rfl rfl 1 (by decide) (hg _ k_55) (fun x9 h9 => u_same (hg _ k_53) x9 h9) rfl d_Rq_isWhole_12 ?_
  refine lv_istore_n (lv' := [(1, .int (nI len)), (0, .ref rq)]) hx hb d_Rq_isWhole_15 rfl hl (by decide) rfl (fun ls hl => ?_)
  refine lv_iload_n hx hb d_Rq_isWhole_16 rfl (lv_at hl 0 rfl) ?_
  refine lv_bipush (v := 20) hx hb d_Rq_isWhole_17 (by decide) ?_
  refine lv_icmp_lt (tgt := 56) hx hb d_Rq_isWhole_19 (by decide) (fun hn9 => absurd hn9 (nI_nlt (b := 20) h20 (by omega))) (fun hc3 => ?_)
  refine lv_iload_n hx hb d_Rq_isWhole_22 rfl (lv_at hl 0 rfl) ?_
  refine lv_sipush (v := 1000) hx hb d_Rq_isWhole_23 (by decide) ?_
  refine lv_icmp_gt (tgt := 56) hx hb d_Rq_isWhole_26 (by decide) (fun hn9 => absurd hn9 (nI_nlt (a := 1000) hlen (by decide))) (fun hc4 => ?_)
  refine lv_aload_n hx hb d_Rq_isWhole_29 rfl (lv_at hl 1 rfl) ?_
  refine va_get (D := (dC, dI)) (ci := 4) (v := (.ref dr)) (C := R_Rq) (T := F_Rq) (N := 2) hx hb hg in_Rq hown hK hP 0 rfl rfl 0 (by decide) (hg _ k_309) (fun _ h9 => h9) rfl d_Rq_isWhole_30 ?_
  refine va_get (D := (dC, dI)) (ci := 2) (v := (.ref rr)) (C := R_Pk) (T := F_Pk) (N := 2) hx hb hg in_Pk hown hK hP 1 rfl rfl 0 (by decide) (hg _ k_40) (fun x9 h9 => u_same (hg _ k_41) x9 h9) rfl d_Rq_isWhole_33 ?_
  refine lv_iconst (v := 2) hx hb d_Rq_isWhole_36 (by decide) ?_
  refine va_iald hx hb hK hP 2 0 rfl rfl (i := 2) (vp_in_nI (n := 2) (N := 1000) (by decide) (by decide)) d_Rq_isWhole_37 ?_
  refine lv_sipush (v := 256) hx hb d_Rq_isWhole_38 (by decide) ?_
  refine lv_imul hx hb d_Rq_isWhole_41 ?_
  refine lv_aload_n hx hb d_Rq_isWhole_42 rfl (lv_at hl 1 rfl) ?_
  refine va_get (D := (dC, dI)) (ci := 4) (v := (.ref dr)) (C := R_Rq) (T := F_Rq) (N := 2) hx hb hg in_Rq hown hK hP 0 rfl rfl 0 (by decide) (hg _ k_309) (fun _ h9 => h9) rfl d_Rq_isWhole_43 ?_
  refine va_get (D := (dC, dI)) (ci := 2) (v := (.ref rr)) (C := R_Pk) (T := F_Pk) (N := 2) hx hb hg in_Pk hown hK hP 1 rfl rfl 0 (by decide) (hg _ k_40) (fun x9 h9 => u_same (hg _ k_41) x9 h9) rfl d_Rq_isWhole_46 ?_
  refine lv_iconst (v := 3) hx hb d_Rq_isWhole_49 (by decide) ?_
  refine va_iald hx hb hK hP 2 0 rfl rfl (i := 3) (vp_in_nI (n := 3) (N := 1000) (by decide) (by decide)) d_Rq_isWhole_50 ?_
  refine lv_iadd hx hb d_Rq_isWhole_51 ?_
  refine lv_iload_n hx hb d_Rq_isWhole_52 rfl (lv_at hl 0 rfl) ?_
  refine lv_icmp_eq (tgt := 58) hx hb d_Rq_isWhole_53 (by decide) (fun hc5 => ?_) (fun hc5 => ?_)
  · skip
    refine lv_bipush (v := 20) hx hb d_Rq_isWhole_58 (by decide) ?_
    refine lv_istore_n (lv' := [(2, .int 20), (1, .int (nI len)), (0, .ref rq)]) hx hb d_Rq_isWhole_60 rfl hl (by decide) rfl (fun ls hl => ?_)
    have hP := hP.sub (ws' := [(rq, .inr (4, [.ref dr, .ref sa])), (sa, .inl ((cT 0), 256, .inl g_1)), (dr, .inr (2, [.ref rr, .int (nI len)])), (rr, .inl ((cT 0), 1000, .inl f))]) [0, 3, 1, 2] rfl
    have hD := hD.sub (ws' := [(rq, .inr (4, [.ref dr, .ref sa])), (sa, .inl ((cT 0), 256, .inl g_1)), (dr, .inr (2, [.ref rr, .int (nI len)])), (rr, .inl ((cT 0), 1000, .inl f))]) [0, 3, 1, 2] (by decide) rfl
    have hl := lv_sub hl [0, 1, 2] (show _ = [(2, .int 20), (1, .int (nI len)), (0, .ref rq)] from rfl)
    have L6 : ∀ (Q : State → Prop) (ex0 : ∀ (g : Nat → Int32) (H : Heap) (locs : List Loc) (ls : Array Slot), (RQW g f len) → va_P (dC, dI) vcl [(rq, .inr (4, [.ref dr, .ref sa])), (sa, .inl ((cT 0), 256, .inl g)), (dr, .inr (2, [.ref rr, .int (nI len)])), (rr, .inl ((cT 0), 1000, .inl f))] H → va_D A [(rq, .inr (4, [.ref dr, .ref sa])), (sa, .inl ((cT 0), 256, .inl g)), (dr, .inr (2, [.ref rr, .int (nI len)])), (rr, .inl ((cT 0), 1000, .inl f))] → va_S A s.heap H locs → lv_has ls 4 [(0, .ref rq)] → W p l e ({ frames := 2, cells := 0, slots := 0, locals := 46 } : Room) s m args below meth c H locs 0 0 Q (F0 m 132 ls [])) (ex1 : ∀ (g : Nat → Int32) (H : Heap) (locs : List Loc) (ls : Array Slot), va_P (dC, dI) vcl [(rq, .inr (4, [.ref dr, .ref sa])), (sa, .inl ((cT 0), 256, .inl g)), (dr, .inr (2, [.ref rr, .int (nI len)])), (rr, .inl ((cT 0), 1000, .inl f))] H → va_D A [(rq, .inr (4, [.ref dr, .ref sa])), (sa, .inl ((cT 0), 256, .inl g)), (dr, .inr (2, [.ref rr, .int (nI len)])), (rr, .inl ((cT 0), 1000, .inl f))] → va_S A s.heap H locs → lv_has ls 4 [(0, .ref rq)] → W p l e ({ frames := 2, cells := 0, slots := 0, locals := 46 } : Room) s m args below meth c H locs 0 0 Q (F0 m 123 ls [])) (jj7 : Nat) (i : Nat) (g : Nat → Int32) (H : Heap) (locs : List Loc) (ls : Array Slot), len - i ≤ jj7 → (20 ≤ i ∧ i ≤ len) → (RQW g f len) → va_P (dC, dI) vcl [(rq, .inr (4, [.ref dr, .ref sa])), (sa, .inl ((cT 0), 256, .inl g)), (dr, .inr (2, [.ref rr, .int (nI len)])), (rr, .inl ((cT 0), 1000, .inl f))] H → va_D A [(rq, .inr (4, [.ref dr, .ref sa])), (sa, .inl ((cT 0), 256, .inl g)), (dr, .inr (2, [.ref rr, .int (nI len)])), (rr, .inl ((cT 0), 1000, .inl f))] → va_S A s.heap H locs → lv_has ls 4 [(2, .int (nI i)), (1, .int (nI len)), (0, .ref rq)] → W p l e ({ frames := 2, cells := 0, slots := 0, locals := 46 } : Room) s m args below meth c H locs 0 0 Q (F0 m 61 ls []) := by
      intro Q ex0 ex1 jj7
      induction jj7 with
      | zero => 
        intro i g H locs ls hm9 hi hq hP hD hS hl
        refine lv_iload_n hx hb d_Rq_isWhole_61 rfl (lv_at hl 0 rfl) ?_
        refine lv_iload_n hx hb d_Rq_isWhole_62 rfl (lv_at hl 1 rfl) ?_
        refine lv_icmp_ge (tgt := 132) hx hb d_Rq_isWhole_63 (by decide) (fun hc8 => ?_) (fun hc8 => ?_)
        · skip
          have hl := lv_sub hl [2] (show _ = [(0, .ref rq)] from rfl)
          exact ex0 g _ _ _ (hq) hP hD hS hl
        · skip
          have h1 : i < len := Nat.not_le.mp (fun h7 => hc8 (nI_le h7 (by omega)))
          refine lv_iload_n hx hb d_Rq_isWhole_66 rfl (lv_at hl 0 rfl) ?_
          refine lv_iconst (v := 3) hx hb d_Rq_isWhole_67 (by decide) ?_
          refine lv_iadd hx hb d_Rq_isWhole_68 ?_
          refine lv_topi (fun x10 e9 => ?_)
          obtain rfl : x10 = nI (i + 3) := by rw [e9]; exact nI_add i 3
          refine lv_iload_n hx hb d_Rq_isWhole_69 rfl (lv_at hl 1 rfl) ?_
          refine lv_icmp_gt (tgt := 87) hx hb d_Rq_isWhole_70 (by decide) (fun hc11 => ?_) (fun hc11 => ?_)
          · skip
            refine lv_iconst (v := 0) hx hb d_Rq_isWhole_87 (by decide) ?_
            refine lv_istore_n (lv' := [(3, .int 0), (2, .int (nI i)), (1, .int (nI len)), (0, .ref rq)]) hx hb d_Rq_isWhole_88 rfl hl (by decide) rfl (fun ls hl => ?_)
            refine lv_iload_n hx hb d_Rq_isWhole_89 rfl (lv_at hl 0 rfl) ?_
            refine lv_iconst (v := 3) hx hb d_Rq_isWhole_90 (by decide) ?_
            refine lv_icmp_lt (tgt := 123) hx hb d_Rq_isWhole_91 (by decide) (fun hc12 => ?_) (fun hn9 => absurd (by decide) hn9)
            have hl := lv_sub hl [3] (show _ = [(0, .ref rq)] from rfl)
            exact ex1 g _ _ _  hP hD hS hl
          · skip
            have h2 : i + 3 ≤ len := Nat.not_lt.mp (fun h7 => hc11 (nI_lt h7 (by omega)))
            obtain ⟨tt9, ht9, he⟩ := hab (i + 1)
            obtain ⟨c9, hc9, he2⟩ := hab i
            refine lv_aload_n hx hb d_Rq_isWhole_73 rfl (lv_at hl 2 rfl) ?_
            refine va_get (D := (dC, dI)) (ci := 4) (v := (.ref dr)) (C := R_Rq) (T := F_Rq) (N := 2) hx hb hg in_Rq hown hK hP 0 rfl rfl 0 (by decide) (hg _ k_309) (fun _ h9 => h9) rfl d_Rq_isWhole_74 ?_
            refine va_get (D := (dC, dI)) (ci := 2) (v := (.ref rr)) (C := R_Pk) (T := F_Pk) (N := 2) hx hb hg in_Pk hown hK hP 2 rfl rfl 0 (by decide) (hg _ k_40) (fun x9 h9 => u_same (hg _ k_41) x9 h9) rfl d_Rq_isWhole_77 ?_
            refine lv_iload_n hx hb d_Rq_isWhole_80 rfl (lv_at hl 0 rfl) ?_
            refine lv_iconst (v := 1) hx hb d_Rq_isWhole_81 (by decide) ?_
            refine lv_iadd hx hb d_Rq_isWhole_82 ?_
            refine lv_topi (fun x14 e13 => ?_)
            obtain rfl : x14 = nI (i + 1) := by rw [e13]; exact nI_1 i
            refine va_iald hx hb hK hP 3 0 rfl rfl (i := (nI (i + 1))) (vp_in_nI (by omega) (by decide)) d_Rq_isWhole_83 ?_
            refine lv_topi (fun x16 e15 => ?_)
            obtain rfl : x16 = nI tt9 := by rw [e15]; rw [nI_clamp (by omega)]; exact he
            refine lv_goto (tgt := 88) hx hb d_Rq_isWhole_84 (by decide) ?_
            refine lv_istore_n (lv' := [(3, .int (nI tt9)), (2, .int (nI i)), (1, .int (nI len)), (0, .ref rq)]) hx hb d_Rq_isWhole_88 rfl hl (by decide) rfl (fun ls hl => ?_)
            refine lv_iload_n hx hb d_Rq_isWhole_89 rfl (lv_at hl 0 rfl) ?_
            refine lv_iconst (v := 3) hx hb d_Rq_isWhole_90 (by decide) ?_
            refine lv_icmp_lt (tgt := 123) hx hb d_Rq_isWhole_91 (by decide) (fun hc17 => ?_) (fun hc17 => ?_)
            · skip
              have hl := lv_sub hl [3] (show _ = [(0, .ref rq)] from rfl)
              exact ex1 g _ _ _  hP hD hS hl
            · skip
              have h3 : 3 ≤ tt9 := Nat.not_lt.mp (fun h7 => hc17 (nI_lt (b := 3) h7 (by decide)))
              refine lv_iload_n hx hb d_Rq_isWhole_94 rfl (lv_at hl 1 rfl) ?_
              refine lv_iload_n hx hb d_Rq_isWhole_95 rfl (lv_at hl 0 rfl) ?_
              refine lv_iadd hx hb d_Rq_isWhole_96 ?_
              refine lv_topi (fun x19 e18 => ?_)
              obtain rfl : x19 = nI (i + tt9) := by rw [e18]; exact nI_add i tt9
              refine lv_iload_n hx hb d_Rq_isWhole_97 rfl (lv_at hl 2 rfl) ?_
              refine lv_icmp_gt (tgt := 123) hx hb d_Rq_isWhole_98 (by decide) (fun hc20 => ?_) (fun hc20 => ?_)
              · skip
                have hl := lv_sub hl [3] (show _ = [(0, .ref rq)] from rfl)
                exact ex1 g _ _ _  hP hD hS hl
              · skip
                have h4 : i + tt9 ≤ len := Nat.not_lt.mp (fun h7 => hc20 (nI_lt h7 (by omega)))
                refine lv_aload_n hx hb d_Rq_isWhole_101 rfl (lv_at hl 3 rfl) ?_
                refine lv_aload_n hx hb d_Rq_isWhole_102 rfl (lv_at hl 3 rfl) ?_
                refine va_get (D := (dC, dI)) (ci := 4) (v := (.ref dr)) (C := R_Rq) (T := F_Rq) (N := 2) hx hb hg in_Rq hown hK hP 0 rfl rfl 0 (by decide) (hg _ k_309) (fun _ h9 => h9) rfl d_Rq_isWhole_103 ?_
                refine va_get (D := (dC, dI)) (ci := 2) (v := (.ref rr)) (C := R_Pk) (T := F_Pk) (N := 2) hx hb hg in_Pk hown hK hP 2 rfl rfl 0 (by decide) (hg _ k_40) (fun x9 h9 => u_same (hg _ k_41) x9 h9) rfl d_Rq_isWhole_106 ?_
                refine lv_iload_n hx hb d_Rq_isWhole_109 rfl (lv_at hl 1 rfl) ?_
                refine va_iald hx hb hK hP 3 0 rfl rfl (i := (nI i)) (vp_in_nI (by omega) (by decide)) d_Rq_isWhole_110 ?_
                refine lv_topi (fun x22 e21 => ?_)
                obtain rfl : x22 = nI c9 := by rw [e21]; rw [nI_clamp (by omega)]; exact he2
                refine lv_iload_n hx hb d_Rq_isWhole_111 rfl (lv_at hl 1 rfl) ?_
                refine lv_iconst (v := 2) hx hb d_Rq_isWhole_112 (by decide) ?_
                refine lv_iadd hx hb d_Rq_isWhole_113 ?_
                refine lv_topi (fun x24 e23 => ?_)
                obtain rfl : x24 = nI (i + 2) := by rw [e23]; exact nI_add i 2
                refine lv_iload_n hx hb d_Rq_isWhole_114 rfl (lv_at hl 0 rfl) ?_
                refine lv_iconst (v := 2) hx hb d_Rq_isWhole_115 (by decide) ?_
                refine lv_isub hx hb d_Rq_isWhole_116 ?_
                refine lv_topi (fun x26 e25 => ?_)
                obtain rfl : x26 = nI (tt9 - 2) := by rw [e25]; exact pk_sub (b := 2) (by omega)
                have hPc := hP.sub (ws' := [(rq, .inr (4, [.ref dr, .ref sa])), (sa, .inl ((cT 0), 256, .inl g))]) [0, 1] rfl
                have hDc := hD.sub (ws' := [(rq, .inr (4, [.ref dr, .ref sa])), (sa, .inl ((cT 0), 256, .inl g))]) [0, 1] (by decide) rfl
                have hFc := va_free (wc := [(rq, .inr (4, [.ref dr, .ref sa])), (sa, .inl ((cT 0), 256, .inl g))]) hD hS hA [0, 1] rfl
                refine va_calli (va_runV (C := "DoorServer$Request") (As := [.int (nI c9), .int (nI (i + 2)), .int (nI (tt9 - 2))]) (rest := []) ⟨hx, hb, hml, hown, hg⟩ (c_takes l dC dI cT H.size rq dr sa g c9 (i + 2) (tt9 - 2) (hc9) (by omega)) (cwV 3 hg (gI (List.forall_mem_append.mpr ⟨List.forall_mem_cons.mpr ⟨k_701, List.forall_mem_cons.mpr ⟨k_703, List.forall_mem_cons.mpr ⟨(big_sel (q := y_Rq_takes) (n := 2) (by decide +kernel)), List.forall_mem_cons.mpr ⟨k_12, fun _ h => absurd h List.not_mem_nil⟩⟩⟩⟩, List.forall_mem_cons.mpr ⟨k_704, fun _ h => h⟩⟩)) rfl rfl rfl (by decide +kernel) ⟨Nat.le_of_ble_eq_true rfl, Nat.le_of_ble_eq_true rfl⟩) ⟨fun a U g mk q => by obtain ⟨q0, q1, qP, qK, qD⟩ := q; exact ⟨q0, q1, qP, va_K.moved (u := U) (U := U.calling g mk a) (Vm.Alike.refl U.vm) qK, qD⟩, va_recv (q0 := 0) (ci := 4) hK hP rfl rfl, fun U hU hW => ⟨rfl, by rw [hU], by rw [hU]; exact hPc, va_K.moved hW.alike hK, hDc.weaken (fun _ _ _ _ => trivial)⟩⟩ rfl rfl hl.1 rfl (lv_room (Nat.le_of_ble_eq_true rfl)) d_Rq_isWhole_117 ⟨Nat.le_of_ble_eq_true rfl, Nat.le_of_ble_eq_true rfl⟩) hS (fun q _ h => hFc q h) hFc (fun rv9 u t H1 locs ht hvm hw hB hz1 hk1 hS => ?_)
                obtain ⟨g_27, rfl⟩ : ∃ z, z = u := ⟨_, rfl⟩
                try dsimp only at hw hB
                obtain ⟨hP1, hK1, hD1⟩ := hB
                rw [ht] at hP1
                generalize rv9 = r28 at hw ⊢
                obtain ⟨hP, hD⟩ := va_join (wr := [(dr, .inr (2, [.ref rr, .int (nI len)])), (rr, .inl ((cT 0), 1000, .inl f))]) (w1 := [(rq, .inr (4, [.ref dr, .ref sa])), (sa, .inl ((cT 0), 256, .inl g_27))]) hP hD [0, 1] [2, 3] rfl rfl (by decide) (by decide) hk1 hFc hP1 hD1
                have hw29 := hw
                clear hPc hDc hFc hz1 hk1 hP1 hK1 hD1
                generalize H1 = H at hP hS ⊢
                have hP : va_P (dC, dI) vcl [(dr, .inr (2, [.ref rr, .int (nI len)])), (rr, .inl ((cT 0), 1000, .inl f)), (rq, .inr (4, [.ref dr, .ref sa])), (sa, .inl ((cT 0), 256, .inl g_27))] H := hP
                have hD : va_D A [(dr, .inr (2, [.ref rr, .int (nI len)])), (rr, .inl ((cT 0), 1000, .inl f)), (rq, .inr (4, [.ref dr, .ref sa])), (sa, .inl ((cT 0), 256, .inl g_27))] := hD
                refine lv_if_ne (tgt := 125) hx hb d_Rq_isWhole_120 (by decide) (fun hc30 => ?_) (fun hc30 => ?_)
                · skip
                  have hq2 : RQW g_27 f len := by
                    rcases hw29.2 (hw29.1.resolve_left hc30) with h5 | ⟨h5, h6, h7⟩
                    · rw [h5]; exact hq
                    · rw [h7]; exact RQW_step hq (by omega) (by rw [show i + 2 - 1 = i + 1 by omega, he, show tt9 - 2 + 2 = tt9 by omega]) (by omega) h6
                  refine lv_iload_n hx hb d_Rq_isWhole_125 rfl (lv_at hl 1 rfl) ?_
                  refine lv_iload_n hx hb d_Rq_isWhole_126 rfl (lv_at hl 0 rfl) ?_
                  refine lv_iadd hx hb d_Rq_isWhole_127 ?_
                  refine lv_topi (fun x32 e31 => ?_)
                  obtain rfl : x32 = nI (i + tt9) := by rw [e31]; exact nI_add i tt9
                  refine lv_istore_n (lv' := [(2, .int (nI (i + tt9))), (3, .int (nI tt9)), (1, .int (nI len)), (0, .ref rq)]) hx hb d_Rq_isWhole_128 rfl hl (by decide) rfl (fun ls hl => ?_)
                  refine lv_goto (tgt := 61) hx hb d_Rq_isWhole_129 (by decide) ?_
                  have hP := hP.sub (ws' := [(rq, .inr (4, [.ref dr, .ref sa])), (sa, .inl ((cT 0), 256, .inl g_27)), (dr, .inr (2, [.ref rr, .int (nI len)])), (rr, .inl ((cT 0), 1000, .inl f))]) [2, 3, 0, 1] rfl
                  have hD := hD.sub (ws' := [(rq, .inr (4, [.ref dr, .ref sa])), (sa, .inl ((cT 0), 256, .inl g_27)), (dr, .inr (2, [.ref rr, .int (nI len)])), (rr, .inl ((cT 0), 1000, .inl f))]) [2, 3, 0, 1] (by decide) rfl
                  have hl := lv_sub hl [0, 2, 3] (show _ = [(2, .int (nI (i + tt9))), (1, .int (nI len)), (0, .ref rq)] from rfl)
                  exfalso; omega
                · skip
                  have hP := hP.sub (ws' := [(rq, .inr (4, [.ref dr, .ref sa])), (sa, .inl ((cT 0), 256, .inl g_27)), (dr, .inr (2, [.ref rr, .int (nI len)])), (rr, .inl ((cT 0), 1000, .inl f))]) [2, 3, 0, 1] rfl
                  have hD := hD.sub (ws' := [(rq, .inr (4, [.ref dr, .ref sa])), (sa, .inl ((cT 0), 256, .inl g_27)), (dr, .inr (2, [.ref rr, .int (nI len)])), (rr, .inl ((cT 0), 1000, .inl f))]) [2, 3, 0, 1] (by decide) rfl
                  have hl := lv_sub hl [3] (show _ = [(0, .ref rq)] from rfl)
                  exact ex1 g_27 _ _ _  hP hD hS hl
      | succ jj7 ih => 
        intro i g H locs ls hm9 hi hq hP hD hS hl
        refine lv_iload_n hx hb d_Rq_isWhole_61 rfl (lv_at hl 0 rfl) ?_
        refine lv_iload_n hx hb d_Rq_isWhole_62 rfl (lv_at hl 1 rfl) ?_
        refine lv_icmp_ge (tgt := 132) hx hb d_Rq_isWhole_63 (by decide) (fun hc33 => ?_) (fun hc33 => ?_)
        · skip
          have hl := lv_sub hl [2] (show _ = [(0, .ref rq)] from rfl)
          exact ex0 g _ _ _ (hq) hP hD hS hl
        · skip
          have h1 : i < len := Nat.not_le.mp (fun h7 => hc33 (nI_le h7 (by omega)))
          refine lv_iload_n hx hb d_Rq_isWhole_66 rfl (lv_at hl 0 rfl) ?_
          refine lv_iconst (v := 3) hx hb d_Rq_isWhole_67 (by decide) ?_
          refine lv_iadd hx hb d_Rq_isWhole_68 ?_
          refine lv_topi (fun x35 e34 => ?_)
          obtain rfl : x35 = nI (i + 3) := by rw [e34]; exact nI_add i 3
          refine lv_iload_n hx hb d_Rq_isWhole_69 rfl (lv_at hl 1 rfl) ?_
          refine lv_icmp_gt (tgt := 87) hx hb d_Rq_isWhole_70 (by decide) (fun hc36 => ?_) (fun hc36 => ?_)
          · skip
            refine lv_iconst (v := 0) hx hb d_Rq_isWhole_87 (by decide) ?_
            refine lv_istore_n (lv' := [(3, .int 0), (2, .int (nI i)), (1, .int (nI len)), (0, .ref rq)]) hx hb d_Rq_isWhole_88 rfl hl (by decide) rfl (fun ls hl => ?_)
            refine lv_iload_n hx hb d_Rq_isWhole_89 rfl (lv_at hl 0 rfl) ?_
            refine lv_iconst (v := 3) hx hb d_Rq_isWhole_90 (by decide) ?_
            refine lv_icmp_lt (tgt := 123) hx hb d_Rq_isWhole_91 (by decide) (fun hc37 => ?_) (fun hn9 => absurd (by decide) hn9)
            have hl := lv_sub hl [3] (show _ = [(0, .ref rq)] from rfl)
            exact ex1 g _ _ _  hP hD hS hl
          · skip
            have h2 : i + 3 ≤ len := Nat.not_lt.mp (fun h7 => hc36 (nI_lt h7 (by omega)))
            obtain ⟨tt9, ht9, he⟩ := hab (i + 1)
            obtain ⟨c9, hc9, he2⟩ := hab i
            refine lv_aload_n hx hb d_Rq_isWhole_73 rfl (lv_at hl 2 rfl) ?_
            refine va_get (D := (dC, dI)) (ci := 4) (v := (.ref dr)) (C := R_Rq) (T := F_Rq) (N := 2) hx hb hg in_Rq hown hK hP 0 rfl rfl 0 (by decide) (hg _ k_309) (fun _ h9 => h9) rfl d_Rq_isWhole_74 ?_
            refine va_get (D := (dC, dI)) (ci := 2) (v := (.ref rr)) (C := R_Pk) (T := F_Pk) (N := 2) hx hb hg in_Pk hown hK hP 2 rfl rfl 0 (by decide) (hg _ k_40) (fun x9 h9 => u_same (hg _ k_41) x9 h9) rfl d_Rq_isWhole_77 ?_
            refine lv_iload_n hx hb d_Rq_isWhole_80 rfl (lv_at hl 0 rfl) ?_
            refine lv_iconst (v := 1) hx hb d_Rq_isWhole_81 (by decide) ?_
            refine lv_iadd hx hb d_Rq_isWhole_82 ?_
            refine lv_topi (fun x39 e38 => ?_)
            obtain rfl : x39 = nI (i + 1) := by rw [e38]; exact nI_1 i
            refine va_iald hx hb hK hP 3 0 rfl rfl (i := (nI (i + 1))) (vp_in_nI (by omega) (by decide)) d_Rq_isWhole_83 ?_
            refine lv_topi (fun x41 e40 => ?_)
            obtain rfl : x41 = nI tt9 := by rw [e40]; rw [nI_clamp (by omega)]; exact he
            refine lv_goto (tgt := 88) hx hb d_Rq_isWhole_84 (by decide) ?_
            refine lv_istore_n (lv' := [(3, .int (nI tt9)), (2, .int (nI i)), (1, .int (nI len)), (0, .ref rq)]) hx hb d_Rq_isWhole_88 rfl hl (by decide) rfl (fun ls hl => ?_)
            refine lv_iload_n hx hb d_Rq_isWhole_89 rfl (lv_at hl 0 rfl) ?_
            refine lv_iconst (v := 3) hx hb d_Rq_isWhole_90 (by decide) ?_
            refine lv_icmp_lt (tgt := 123) hx hb d_Rq_isWhole_91 (by decide) (fun hc42 => ?_) (fun hc42 => ?_)
            · skip
              have hl := lv_sub hl [3] (show _ = [(0, .ref rq)] from rfl)
              exact ex1 g _ _ _  hP hD hS hl
            · skip
              have h3 : 3 ≤ tt9 := Nat.not_lt.mp (fun h7 => hc42 (nI_lt (b := 3) h7 (by decide)))
              refine lv_iload_n hx hb d_Rq_isWhole_94 rfl (lv_at hl 1 rfl) ?_
              refine lv_iload_n hx hb d_Rq_isWhole_95 rfl (lv_at hl 0 rfl) ?_
              refine lv_iadd hx hb d_Rq_isWhole_96 ?_
              refine lv_topi (fun x44 e43 => ?_)
              obtain rfl : x44 = nI (i + tt9) := by rw [e43]; exact nI_add i tt9
              refine lv_iload_n hx hb d_Rq_isWhole_97 rfl (lv_at hl 2 rfl) ?_
              refine lv_icmp_gt (tgt := 123) hx hb d_Rq_isWhole_98 (by decide) (fun hc45 => ?_) (fun hc45 => ?_)
              · skip
                have hl := lv_sub hl [3] (show _ = [(0, .ref rq)] from rfl)
                exact ex1 g _ _ _  hP hD hS hl
              · skip
                have h4 : i + tt9 ≤ len := Nat.not_lt.mp (fun h7 => hc45 (nI_lt h7 (by omega)))
                refine lv_aload_n hx hb d_Rq_isWhole_101 rfl (lv_at hl 3 rfl) ?_
                refine lv_aload_n hx hb d_Rq_isWhole_102 rfl (lv_at hl 3 rfl) ?_
                refine va_get (D := (dC, dI)) (ci := 4) (v := (.ref dr)) (C := R_Rq) (T := F_Rq) (N := 2) hx hb hg in_Rq hown hK hP 0 rfl rfl 0 (by decide) (hg _ k_309) (fun _ h9 => h9) rfl d_Rq_isWhole_103 ?_
                refine va_get (D := (dC, dI)) (ci := 2) (v := (.ref rr)) (C := R_Pk) (T := F_Pk) (N := 2) hx hb hg in_Pk hown hK hP 2 rfl rfl 0 (by decide) (hg _ k_40) (fun x9 h9 => u_same (hg _ k_41) x9 h9) rfl d_Rq_isWhole_106 ?_
                refine lv_iload_n hx hb d_Rq_isWhole_109 rfl (lv_at hl 1 rfl) ?_
                refine va_iald hx hb hK hP 3 0 rfl rfl (i := (nI i)) (vp_in_nI (by omega) (by decide)) d_Rq_isWhole_110 ?_
                refine lv_topi (fun x47 e46 => ?_)
                obtain rfl : x47 = nI c9 := by rw [e46]; rw [nI_clamp (by omega)]; exact he2
                refine lv_iload_n hx hb d_Rq_isWhole_111 rfl (lv_at hl 1 rfl) ?_
                refine lv_iconst (v := 2) hx hb d_Rq_isWhole_112 (by decide) ?_
                refine lv_iadd hx hb d_Rq_isWhole_113 ?_
                refine lv_topi (fun x49 e48 => ?_)
                obtain rfl : x49 = nI (i + 2) := by rw [e48]; exact nI_add i 2
                refine lv_iload_n hx hb d_Rq_isWhole_114 rfl (lv_at hl 0 rfl) ?_
                refine lv_iconst (v := 2) hx hb d_Rq_isWhole_115 (by decide) ?_
                refine lv_isub hx hb d_Rq_isWhole_116 ?_
                refine lv_topi (fun x51 e50 => ?_)
                obtain rfl : x51 = nI (tt9 - 2) := by rw [e50]; exact pk_sub (b := 2) (by omega)
                have hPc := hP.sub (ws' := [(rq, .inr (4, [.ref dr, .ref sa])), (sa, .inl ((cT 0), 256, .inl g))]) [0, 1] rfl
                have hDc := hD.sub (ws' := [(rq, .inr (4, [.ref dr, .ref sa])), (sa, .inl ((cT 0), 256, .inl g))]) [0, 1] (by decide) rfl
                have hFc := va_free (wc := [(rq, .inr (4, [.ref dr, .ref sa])), (sa, .inl ((cT 0), 256, .inl g))]) hD hS hA [0, 1] rfl
                refine va_calli (va_runV (C := "DoorServer$Request") (As := [.int (nI c9), .int (nI (i + 2)), .int (nI (tt9 - 2))]) (rest := []) ⟨hx, hb, hml, hown, hg⟩ (c_takes l dC dI cT H.size rq dr sa g c9 (i + 2) (tt9 - 2) (hc9) (by omega)) (cwV 3 hg (gI (List.forall_mem_append.mpr ⟨List.forall_mem_cons.mpr ⟨k_701, List.forall_mem_cons.mpr ⟨k_703, List.forall_mem_cons.mpr ⟨(big_sel (q := y_Rq_takes) (n := 2) (by decide +kernel)), List.forall_mem_cons.mpr ⟨k_12, fun _ h => absurd h List.not_mem_nil⟩⟩⟩⟩, List.forall_mem_cons.mpr ⟨k_704, fun _ h => h⟩⟩)) rfl rfl rfl (by decide +kernel) ⟨Nat.le_of_ble_eq_true rfl, Nat.le_of_ble_eq_true rfl⟩) ⟨fun a U g mk q => by obtain ⟨q0, q1, qP, qK, qD⟩ := q; exact ⟨q0, q1, qP, va_K.moved (u := U) (U := U.calling g mk a) (Vm.Alike.refl U.vm) qK, qD⟩, va_recv (q0 := 0) (ci := 4) hK hP rfl rfl, fun U hU hW => ⟨rfl, by rw [hU], by rw [hU]; exact hPc, va_K.moved hW.alike hK, hDc.weaken (fun _ _ _ _ => trivial)⟩⟩ rfl rfl hl.1 rfl (lv_room (Nat.le_of_ble_eq_true rfl)) d_Rq_isWhole_117 ⟨Nat.le_of_ble_eq_true rfl, Nat.le_of_ble_eq_true rfl⟩) hS (fun q _ h => hFc q h) hFc (fun rv9 u t H1 locs ht hvm hw hB hz1 hk1 hS => ?_)
                obtain ⟨g_52, rfl⟩ : ∃ z, z = u := ⟨_, rfl⟩
                try dsimp only at hw hB
                obtain ⟨hP1, hK1, hD1⟩ := hB
                rw [ht] at hP1
                generalize rv9 = r53 at hw ⊢
                obtain ⟨hP, hD⟩ := va_join (wr := [(dr, .inr (2, [.ref rr, .int (nI len)])), (rr, .inl ((cT 0), 1000, .inl f))]) (w1 := [(rq, .inr (4, [.ref dr, .ref sa])), (sa, .inl ((cT 0), 256, .inl g_52))]) hP hD [0, 1] [2, 3] rfl rfl (by decide) (by decide) hk1 hFc hP1 hD1
                have hw54 := hw
                clear hPc hDc hFc hz1 hk1 hP1 hK1 hD1
                generalize H1 = H at hP hS ⊢
                have hP : va_P (dC, dI) vcl [(dr, .inr (2, [.ref rr, .int (nI len)])), (rr, .inl ((cT 0), 1000, .inl f)), (rq, .inr (4, [.ref dr, .ref sa])), (sa, .inl ((cT 0), 256, .inl g_52))] H := hP
                have hD : va_D A [(dr, .inr (2, [.ref rr, .int (nI len)])), (rr, .inl ((cT 0), 1000, .inl f)), (rq, .inr (4, [.ref dr, .ref sa])), (sa, .inl ((cT 0), 256, .inl g_52))] := hD
                refine lv_if_ne (tgt := 125) hx hb d_Rq_isWhole_120 (by decide) (fun hc55 => ?_) (fun hc55 => ?_)
                · skip
                  have hq2 : RQW g_52 f len := by
                    rcases hw54.2 (hw54.1.resolve_left hc55) with h5 | ⟨h5, h6, h7⟩
                    · rw [h5]; exact hq
                    · rw [h7]; exact RQW_step hq (by omega) (by rw [show i + 2 - 1 = i + 1 by omega, he, show tt9 - 2 + 2 = tt9 by omega]) (by omega) h6
                  refine lv_iload_n hx hb d_Rq_isWhole_125 rfl (lv_at hl 1 rfl) ?_
                  refine lv_iload_n hx hb d_Rq_isWhole_126 rfl (lv_at hl 0 rfl) ?_
                  refine lv_iadd hx hb d_Rq_isWhole_127 ?_
                  refine lv_topi (fun x57 e56 => ?_)
                  obtain rfl : x57 = nI (i + tt9) := by rw [e56]; exact nI_add i tt9
                  refine lv_istore_n (lv' := [(2, .int (nI (i + tt9))), (3, .int (nI tt9)), (1, .int (nI len)), (0, .ref rq)]) hx hb d_Rq_isWhole_128 rfl hl (by decide) rfl (fun ls hl => ?_)
                  refine lv_goto (tgt := 61) hx hb d_Rq_isWhole_129 (by decide) ?_
                  have hP := hP.sub (ws' := [(rq, .inr (4, [.ref dr, .ref sa])), (sa, .inl ((cT 0), 256, .inl g_52)), (dr, .inr (2, [.ref rr, .int (nI len)])), (rr, .inl ((cT 0), 1000, .inl f))]) [2, 3, 0, 1] rfl
                  have hD := hD.sub (ws' := [(rq, .inr (4, [.ref dr, .ref sa])), (sa, .inl ((cT 0), 256, .inl g_52)), (dr, .inr (2, [.ref rr, .int (nI len)])), (rr, .inl ((cT 0), 1000, .inl f))]) [2, 3, 0, 1] (by decide) rfl
                  have hl := lv_sub hl [0, 2, 3] (show _ = [(2, .int (nI (i + tt9))), (1, .int (nI len)), (0, .ref rq)] from rfl)
                  exact ih (i + tt9) g_52 _ _ _ (by omega) (⟨by omega, by omega⟩) (hq2) hP hD hS hl
                · skip
                  have hP := hP.sub (ws' := [(rq, .inr (4, [.ref dr, .ref sa])), (sa, .inl ((cT 0), 256, .inl g_52)), (dr, .inr (2, [.ref rr, .int (nI len)])), (rr, .inl ((cT 0), 1000, .inl f))]) [2, 3, 0, 1] rfl
                  have hD := hD.sub (ws' := [(rq, .inr (4, [.ref dr, .ref sa])), (sa, .inl ((cT 0), 256, .inl g_52)), (dr, .inr (2, [.ref rr, .int (nI len)])), (rr, .inl ((cT 0), 1000, .inl f))]) [2, 3, 0, 1] (by decide) rfl
                  have hl := lv_sub hl [3] (show _ = [(0, .ref rq)] from rfl)
                  exact ex1 g_52 _ _ _  hP hD hS hl
    refine L6 _ (fun g H locs ls hq hP hD hS hl => ?_) (fun g H locs ls  hP hD hS hl => ?_) (len - 20) 20 g_1 H _ ls (Nat.le_refl _) (⟨by omega, h20⟩) (fun c9 h9 => Or.inl (hw2 c9 (KT_lt h9))) hP hD hS hl
    · skip
      refine lv_iconst (v := 1) hx hb d_Rq_isWhole_132 (by decide) ?_
      have hP9 := hP.sub (ws' := [(rq, .inr (4, [.ref dr, .ref sa])), (sa, .inl ((cT 0), 256, .inl g)), (dr, .inr (2, [.ref rr, .int (nI len)])), (rr, .inl ((cT 0), 1000, .inl f))]) [0, 1, 2, 3] rfl
      have hD9 := hD.sub (ws' := [(rq, .inr (4, [.ref dr, .ref sa])), (sa, .inl ((cT 0), 256, .inl g)), (dr, .inr (2, [.ref rr, .int (nI len)])), (rr, .inl ((cT 0), 1000, .inl f))]) [0, 1, 2, 3] (by decide) rfl
      exact W.zret (v := 1) hx hb hr (by first | rfl | decide) (fun t ht hW => ⟨⟨_, g, rfl, ⟨Or.inr rfl, fun _ => hq⟩, by rw [ht]; exact hP9, va_K.moved hW.alike hK, hD9⟩, hS.F ht⟩) hS.2.2 d_Rq_isWhole_133
    · skip
      refine lv_iconst (v := 0) hx hb d_Rq_isWhole_123 (by decide) ?_
      have hP9 := hP.sub (ws' := [(rq, .inr (4, [.ref dr, .ref sa])), (sa, .inl ((cT 0), 256, .inl g)), (dr, .inr (2, [.ref rr, .int (nI len)])), (rr, .inl ((cT 0), 1000, .inl f))]) [0, 1, 2, 3] rfl
      have hD9 := hD.sub (ws' := [(rq, .inr (4, [.ref dr, .ref sa])), (sa, .inl ((cT 0), 256, .inl g)), (dr, .inr (2, [.ref rr, .int (nI len)])), (rr, .inl ((cT 0), 1000, .inl f))]) [0, 1, 2, 3] (by decide) rfl
      exact W.zret (v := 0) hx hb hr (by first | rfl | decide) (fun t ht hW => ⟨⟨_, g, rfl, ⟨Or.inl rfl, fun h9 => absurd h9 (by decide)⟩, by rw [ht]; exact hP9, va_K.moved hW.alike hK, hD9⟩, hS.F ht⟩) hS.2.2 d_Rq_isWhole_124
  · skip
    refine lv_iconst (v := 0) hx hb d_Rq_isWhole_56 (by decide) ?_
    have hP9 := hP.sub (ws' := [(rq, .inr (4, [.ref dr, .ref sa])), (sa, .inl ((cT 0), 256, .inl g_1)), (dr, .inr (2, [.ref rr, .int (nI len)])), (rr, .inl ((cT 0), 1000, .inl f))]) [0, 3, 1, 2] rfl
    have hD9 := hD.sub (ws' := [(rq, .inr (4, [.ref dr, .ref sa])), (sa, .inl ((cT 0), 256, .inl g_1)), (dr, .inr (2, [.ref rr, .int (nI len)])), (rr, .inl ((cT 0), 1000, .inl f))]) [0, 3, 1, 2] (by decide) rfl
    exact W.zret (v := 0) hx hb hr (by first | rfl | decide) (fun t ht hW => ⟨⟨_, g_1, rfl, ⟨Or.inl rfl, fun h9 => absurd h9 (by decide)⟩, by rw [ht]; exact hP9, va_K.moved hW.alike hK, hD9⟩, hS.F ht⟩) hS.2.2 d_Rq_isWhole_57
set_option maxHeartbeats 4000000 in
set_option maxRecDepth 100000 in
/-- has -/
theorem c_has (l : Launch) (dC : Nat → ClassId) (dI : Nat → Nat → Nat) (cT : Nat → ClassId) (sz : Nat) (rq : Nat) (dr : Nat) (rr : Nat) (sa : Nat) (len : Nat) (f : Nat → Int32) (ga : Nat → Int32) (c9 : Nat) (hk : KT c9) (hq : RQW ga f len) (hlen : len ≤ 1000) : Met l y_Rq_has (Cond.code y_Rq_has b_Rq_has 2 (Option.some Jvm.ClassFile.FieldType.boolean) :: BIG) ({ frames := 0, cells := 0, slots := 0, locals := 0 }) (va_Pc [.ref rq, .int (nI c9)] (fun U => U.heap.size = sz ∧ va_P (dC, dI) vcl [(rq, .inr (4, [.ref dr, .ref sa])), (sa, .inl ((cT 0), 256, .inl ga)), (dr, .inr (2, [.ref rr, .int (nI len)])), (rr, .inl ((cT 0), 1000, .inl f))] U.heap ∧ va_K (dC, dI) vcl (tyL cT) U ∧ va_D (fun _ => True) [(rq, .inr (4, [.ref dr, .ref sa])), (sa, .inl ((cT 0), 256, .inl ga)), (dr, .inr (2, [.ref rr, .int (nI len)])), (rr, .inl ((cT 0), 1000, .inl f))])) (va_Qi (S := Unit) (fun rv9 u => (rv9 = 0 ∨ rv9 = 1) ∧ (rv9 = 1 → ¬ ga c9 = 0) ∧ (rv9 = 0 → ga c9 = 0)) (fun u t => va_P (dC, dI) vcl [(rq, .inr (4, [.ref dr, .ref sa])), (sa, .inl ((cT 0), 256, .inl ga)), (dr, .inr (2, [.ref rr, .int (nI len)])), (rr, .inl ((cT 0), 1000, .inl f))] t.heap ∧ va_K (dC, dI) vcl (tyL cT) t ∧ va_D (va_A [(rq, .inr (4, [.ref dr, .ref sa])), (sa, .inl ((cT 0), 256, .inl ga)), (dr, .inr (2, [.ref rr, .int (nI len)])), (rr, .inl ((cT 0), 1000, .inl f))] sz) [(rq, .inr (4, [.ref dr, .ref sa])), (sa, .inl ((cT 0), 256, .inl ga)), (dr, .inr (2, [.ref rr, .int (nI len)])), (rr, .inl ((cT 0), 1000, .inl f))]) (va_A [(rq, .inr (4, [.ref dr, .ref sa])), (sa, .inl ((cT 0), 256, .inl ga)), (dr, .inr (2, [.ref rr, .int (nI len)])), (rr, .inl ((cT 0), 1000, .inl f))] sz)) 0 0 (va_A [(rq, .inr (4, [.ref dr, .ref sa])), (sa, .inl ((cT 0), 256, .inl ga)), (dr, .inr (2, [.ref rr, .int (nI len)])), (rr, .inl ((cT 0), 1000, .inl f))] sz) := by
  refine Met.ofW (cc := b_Rq_has) (maxL := 2) (ret := (Option.some Jvm.ClassFile.FieldType.boolean)) (by decide) rfl ?_
  intro p e s m args below meth c s₁ B hml hv
  obtain ⟨hargs, hsz, hP, hK, hD0⟩ := hv
  have hx := B.exec
  have hb := B.bytes
  have hr := B.returns
  have hts := atoms_spec (ws := (Cond.code y_Rq_has b_Rq_has 2 (Option.some Jvm.ClassFile.FieldType.boolean) :: BIG)) B.pre
  have hg : ∀ w ∈ BIG, w.before _ s = true := fun w h => hts w (List.mem_cons_of_mem _ h)
  have hown : s.vm.findClass "DoorServer$Request" = some m.cls := findClass_of_methodNamed B.named
  have hlocks := B.notSynchronized
  subst hsz
  have hD := hD0.self (sz := s.heap.size)
  generalize hAe : va_A [(rq, .inr (4, [.ref dr, .ref sa])), (sa, .inl ((cT 0), 256, .inl ga)), (dr, .inr (2, [.ref rr, .int (nI len)])), (rr, .inl ((cT 0), 1000, .inl f))] s.heap.size = A at hD ⊢
  have hA : ∀ q : Nat, s.heap.size ≤ q → A q := fun q h => by rw [← hAe]; exact Or.inr h
  have hS : va_S A s.heap s.heap [] := va_S.rf
  have hl := lv_entry ([.ref rq, .int (nI c9)]) (n := 2) (Nat.le_of_ble_eq_true rfl)
  refine W.eq (g2 := entryFrame m (List.toArray [.ref rq, .int (nI c9)]) 2) (by rw [hargs]) ?_
  rw [lg_entry_eq]
  generalize (lg_sl ([.ref rq, .int (nI c9)]) ++ List.replicate (2 - (lg_sl ([.ref rq, .int (nI c9)])).length) Slot.unset).toArray = ls at hl ⊢
  have hl : lv_has ls 2 [(0, .ref rq), (1, .int (nI c9))] := hl
  change W p l e ({ frames := 0, cells := 0, slots := 0, locals := 0 } : Room) s m args below meth c s.heap [] 0 0 _ _
  have hP : va_P (dC, dI) vcl [(rq, .inr (4, [.ref dr, .ref sa])), (sa, .inl ((cT 0), 256, .inl ga)), (dr, .inr (2, [.ref rr, .int (nI len)])), (rr, .inl ((cT 0), 1000, .inl f))] s.heap := hP
  have hc9 := KT_lt hk
  refine lv_aload_n hx hb d_Rq_has_0 rfl (lv_at hl 0 rfl) ?_
  refine va_get (D := (dC, dI)) (ci := 4) (v := (.ref sa)) (C := R_Rq) (T := F_Rq) (N := 2) hx hb hg in_Rq hown hK hP 0 rfl rfl 1 (by decide) (hg _ k_313) (fun _ h9 => h9) rfl d_Rq_has_1 ?_
  refine lv_iload_n hx hb d_Rq_has_4 rfl (lv_at hl 1 rfl) ?_
  rcases hq c9 hk with h8 | ⟨a, n, h8, h9, h10, h11, h12⟩
  · skip
    refine va_iald hx hb hK hP 1 0 rfl rfl (i := (nI c9)) (vp_in_nI hc9 (by decide)) d_Rq_has_5 ?_
    refine lv_topi (fun x59 e58 => ?_)
    obtain rfl : x59 = 0 := by rw [e58]; rw [nI_clamp (by omega)]; exact h8
    refine lv_if_le (tgt := 13) hx hb d_Rq_has_6 (by decide) (fun hc60 => ?_) (fun hn9 => absurd (by decide) hn9)
    refine lv_iconst (v := 0) hx hb d_Rq_has_13 (by decide) ?_
    have hP9 := hP.sub (ws' := [(rq, .inr (4, [.ref dr, .ref sa])), (sa, .inl ((cT 0), 256, .inl ga)), (dr, .inr (2, [.ref rr, .int (nI len)])), (rr, .inl ((cT 0), 1000, .inl f))]) [0, 1, 2, 3] rfl
    have hD9 := hD.sub (ws' := [(rq, .inr (4, [.ref dr, .ref sa])), (sa, .inl ((cT 0), 256, .inl ga)), (dr, .inr (2, [.ref rr, .int (nI len)])), (rr, .inl ((cT 0), 1000, .inl f))]) [0, 1, 2, 3] (by decide) rfl
    exact W.zret (v := 0) hx hb hr (by first | rfl | decide) (fun t ht hW => ⟨⟨_, (), rfl, ⟨Or.inl rfl, fun h9 => absurd h9 (by decide), fun _ => h8⟩, by rw [ht]; exact hP9, va_K.moved hW.alike hK, hD9⟩, hS.F ht⟩) hS.2.2 d_Rq_has_14
  · skip
    refine va_iald hx hb hK hP 1 0 rfl rfl (i := (nI c9)) (vp_in_nI hc9 (by decide)) d_Rq_has_5 ?_
    refine lv_topi (fun x62 e61 => ?_)
    obtain rfl : x62 = nI a := by rw [e61]; rw [nI_clamp (by omega)]; exact h8
    refine lv_if_le (tgt := 13) hx hb d_Rq_has_6 (by decide) (fun hn9 => absurd hn9 (nI_nle (by omega) (by omega))) (fun hc63 => ?_)
    refine lv_iconst (v := 1) hx hb d_Rq_has_9 (by decide) ?_
    refine lv_goto (tgt := 14) hx hb d_Rq_has_10 (by decide) ?_
    have hP9 := hP.sub (ws' := [(rq, .inr (4, [.ref dr, .ref sa])), (sa, .inl ((cT 0), 256, .inl ga)), (dr, .inr (2, [.ref rr, .int (nI len)])), (rr, .inl ((cT 0), 1000, .inl f))]) [0, 1, 2, 3] rfl
    have hD9 := hD.sub (ws' := [(rq, .inr (4, [.ref dr, .ref sa])), (sa, .inl ((cT 0), 256, .inl ga)), (dr, .inr (2, [.ref rr, .int (nI len)])), (rr, .inl ((cT 0), 1000, .inl f))]) [0, 1, 2, 3] (by decide) rfl
    exact W.zret (v := 1) hx hb hr (by first | rfl | decide) (fun t ht hW => ⟨⟨_, (), rfl, ⟨Or.inr rfl, fun _ => by rw [h8]; exact nI_ne0 (by omega) (by omega), fun h9 => absurd h9 (by decide)⟩, by rw [ht]; exact hP9, va_K.moved hW.alike hK, hD9⟩, hS.F ht⟩) hS.2.2 d_Rq_has_14
set_option maxHeartbeats 4000000 in
set_option maxRecDepth 100000 in
/-- startOf -/
theorem c_startOf (l : Launch) (dC : Nat → ClassId) (dI : Nat → Nat → Nat) (cT : Nat → ClassId) (sz : Nat) (rq : Nat) (dr : Nat) (rr : Nat) (sa : Nat) (len : Nat) (f : Nat → Int32) (ga : Nat → Int32) (c9 : Nat) (hc9 : c9 < 256) : Met l y_Rq_startOf (Cond.code y_Rq_startOf b_Rq_startOf 2 (Option.some Jvm.ClassFile.FieldType.int) :: BIG) ({ frames := 0, cells := 0, slots := 0, locals := 0 }) (va_Pc [.ref rq, .int (nI c9)] (fun U => U.heap.size = sz ∧ va_P (dC, dI) vcl [(rq, .inr (4, [.ref dr, .ref sa])), (sa, .inl ((cT 0), 256, .inl ga)), (dr, .inr (2, [.ref rr, .int (nI len)])), (rr, .inl ((cT 0), 1000, .inl f))] U.heap ∧ va_K (dC, dI) vcl (tyL cT) U ∧ va_D (fun _ => True) [(rq, .inr (4, [.ref dr, .ref sa])), (sa, .inl ((cT 0), 256, .inl ga)), (dr, .inr (2, [.ref rr, .int (nI len)])), (rr, .inl ((cT 0), 1000, .inl f))])) (va_Qi (S := Unit) (fun rv9 u => rv9 = ga c9 ∧ (True)) (fun u t => va_P (dC, dI) vcl [(rq, .inr (4, [.ref dr, .ref sa])), (sa, .inl ((cT 0), 256, .inl ga)), (dr, .inr (2, [.ref rr, .int (nI len)])), (rr, .inl ((cT 0), 1000, .inl f))] t.heap ∧ va_K (dC, dI) vcl (tyL cT) t ∧ va_D (va_A [(rq, .inr (4, [.ref dr, .ref sa])), (sa, .inl ((cT 0), 256, .inl ga)), (dr, .inr (2, [.ref rr, .int (nI len)])), (rr, .inl ((cT 0), 1000, .inl f))] sz) [(rq, .inr (4, [.ref dr, .ref sa])), (sa, .inl ((cT 0), 256, .inl ga)), (dr, .inr (2, [.ref rr, .int (nI len)])), (rr, .inl ((cT 0), 1000, .inl f))]) (va_A [(rq, .inr (4, [.ref dr, .ref sa])), (sa, .inl ((cT 0), 256, .inl ga)), (dr, .inr (2, [.ref rr, .int (nI len)])), (rr, .inl ((cT 0), 1000, .inl f))] sz)) 0 0 (va_A [(rq, .inr (4, [.ref dr, .ref sa])), (sa, .inl ((cT 0), 256, .inl ga)), (dr, .inr (2, [.ref rr, .int (nI len)])), (rr, .inl ((cT 0), 1000, .inl f))] sz) := by
  refine Met.ofW (cc := b_Rq_startOf) (maxL := 2) (ret := (Option.some Jvm.ClassFile.FieldType.int)) (by decide) rfl ?_
  intro p e s m args below meth c s₁ B hml hv
  obtain ⟨hargs, hsz, hP, hK, hD0⟩ := hv
  have hx := B.exec
  have hb := B.bytes
  have hr := B.returns
  have hts := atoms_spec (ws := (Cond.code y_Rq_startOf b_Rq_startOf 2 (Option.some Jvm.ClassFile.FieldType.int) :: BIG)) B.pre
  have hg : ∀ w ∈ BIG, w.before _ s = true := fun w h => hts w (List.mem_cons_of_mem _ h)
  have hown : s.vm.findClass "DoorServer$Request" = some m.cls := findClass_of_methodNamed B.named
  have hlocks := B.notSynchronized
  subst hsz
  have hD := hD0.self (sz := s.heap.size)
  generalize hAe : va_A [(rq, .inr (4, [.ref dr, .ref sa])), (sa, .inl ((cT 0), 256, .inl ga)), (dr, .inr (2, [.ref rr, .int (nI len)])), (rr, .inl ((cT 0), 1000, .inl f))] s.heap.size = A at hD ⊢
  have hA : ∀ q : Nat, s.heap.size ≤ q → A q := fun q h => by rw [← hAe]; exact Or.inr h
  have hS : va_S A s.heap s.heap [] := va_S.rf
  have hl := lv_entry ([.ref rq, .int (nI c9)]) (n := 2) (Nat.le_of_ble_eq_true rfl)
  refine W.eq (g2 := entryFrame m (List.toArray [.ref rq, .int (nI c9)]) 2) (by rw [hargs]) ?_
  rw [lg_entry_eq]
  generalize (lg_sl ([.ref rq, .int (nI c9)]) ++ List.replicate (2 - (lg_sl ([.ref rq, .int (nI c9)])).length) Slot.unset).toArray = ls at hl ⊢
  have hl : lv_has ls 2 [(0, .ref rq), (1, .int (nI c9))] := hl
  change W p l e ({ frames := 0, cells := 0, slots := 0, locals := 0 } : Room) s m args below meth c s.heap [] 0 0 _ _
  have hP : va_P (dC, dI) vcl [(rq, .inr (4, [.ref dr, .ref sa])), (sa, .inl ((cT 0), 256, .inl ga)), (dr, .inr (2, [.ref rr, .int (nI len)])), (rr, .inl ((cT 0), 1000, .inl f))] s.heap := hP
  refine lv_aload_n hx hb d_Rq_startOf_0 rfl (lv_at hl 0 rfl) ?_
  refine va_get (D := (dC, dI)) (ci := 4) (v := (.ref sa)) (C := R_Rq) (T := F_Rq) (N := 2) hx hb hg in_Rq hown hK hP 0 rfl rfl 1 (by decide) (hg _ k_313) (fun _ h9 => h9) rfl d_Rq_startOf_1 ?_
  refine lv_iload_n hx hb d_Rq_startOf_4 rfl (lv_at hl 1 rfl) ?_
  refine va_iald hx hb hK hP 1 0 rfl rfl (i := (nI c9)) (vp_in_nI hc9 (by decide)) d_Rq_startOf_5 ?_
  refine lv_topi (fun x65 e64 => ?_)
  obtain rfl : x65 = ga c9 := by rw [e64]; rw [nI_clamp (by omega)]
  have hP9 := hP.sub (ws' := [(rq, .inr (4, [.ref dr, .ref sa])), (sa, .inl ((cT 0), 256, .inl ga)), (dr, .inr (2, [.ref rr, .int (nI len)])), (rr, .inl ((cT 0), 1000, .inl f))]) [0, 1, 2, 3] rfl
  have hD9 := hD.sub (ws' := [(rq, .inr (4, [.ref dr, .ref sa])), (sa, .inl ((cT 0), 256, .inl ga)), (dr, .inr (2, [.ref rr, .int (nI len)])), (rr, .inl ((cT 0), 1000, .inl f))]) [0, 1, 2, 3] (by decide) rfl
  exact W.iret (v := ga c9) hx hb hr (fun t ht hW => ⟨⟨_, (), rfl, ⟨rfl, trivial⟩, by rw [ht]; exact hP9, va_K.moved hW.alike hK, hD9⟩, hS.F ht⟩) hS.2.2 d_Rq_startOf_6
set_option maxHeartbeats 4000000 in
set_option maxRecDepth 100000 in
/-- lengthOf -/
theorem c_lengthOf (l : Launch) (dC : Nat → ClassId) (dI : Nat → Nat → Nat) (cT : Nat → ClassId) (sz : Nat) (rq : Nat) (dr : Nat) (rr : Nat) (sa : Nat) (len : Nat) (f : Nat → Int32) (ga : Nat → Int32) (c9 : Nat) (a : Nat) (n : Nat) (hc9 : c9 < 256) (hga : ga c9 = nI a) (ha : 22 ≤ a) (hfa : f (a - 1) = nI (n + 2)) (hal : a + n ≤ len) (hlen : len ≤ 1000) : Met l y_Rq_lengthOf (Cond.code y_Rq_lengthOf b_Rq_lengthOf 2 (Option.some Jvm.ClassFile.FieldType.int) :: BIG) ({ frames := 0, cells := 0, slots := 0, locals := 0 }) (va_Pc [.ref rq, .int (nI c9)] (fun U => U.heap.size = sz ∧ va_P (dC, dI) vcl [(rq, .inr (4, [.ref dr, .ref sa])), (sa, .inl ((cT 0), 256, .inl ga)), (dr, .inr (2, [.ref rr, .int (nI len)])), (rr, .inl ((cT 0), 1000, .inl f))] U.heap ∧ va_K (dC, dI) vcl (tyL cT) U ∧ va_D (fun _ => True) [(rq, .inr (4, [.ref dr, .ref sa])), (sa, .inl ((cT 0), 256, .inl ga)), (dr, .inr (2, [.ref rr, .int (nI len)])), (rr, .inl ((cT 0), 1000, .inl f))])) (va_Qi (S := Unit) (fun rv9 u => rv9 = nI n ∧ (True)) (fun u t => va_P (dC, dI) vcl [(rq, .inr (4, [.ref dr, .ref sa])), (sa, .inl ((cT 0), 256, .inl ga)), (dr, .inr (2, [.ref rr, .int (nI len)])), (rr, .inl ((cT 0), 1000, .inl f))] t.heap ∧ va_K (dC, dI) vcl (tyL cT) t ∧ va_D (va_A [(rq, .inr (4, [.ref dr, .ref sa])), (sa, .inl ((cT 0), 256, .inl ga)), (dr, .inr (2, [.ref rr, .int (nI len)])), (rr, .inl ((cT 0), 1000, .inl f))] sz) [(rq, .inr (4, [.ref dr, .ref sa])), (sa, .inl ((cT 0), 256, .inl ga)), (dr, .inr (2, [.ref rr, .int (nI len)])), (rr, .inl ((cT 0), 1000, .inl f))]) (va_A [(rq, .inr (4, [.ref dr, .ref sa])), (sa, .inl ((cT 0), 256, .inl ga)), (dr, .inr (2, [.ref rr, .int (nI len)])), (rr, .inl ((cT 0), 1000, .inl f))] sz)) 0 0 (va_A [(rq, .inr (4, [.ref dr, .ref sa])), (sa, .inl ((cT 0), 256, .inl ga)), (dr, .inr (2, [.ref rr, .int (nI len)])), (rr, .inl ((cT 0), 1000, .inl f))] sz) := by
  refine Met.ofW (cc := b_Rq_lengthOf) (maxL := 2) (ret := (Option.some Jvm.ClassFile.FieldType.int)) (by decide) rfl ?_
  intro p e s m args below meth c s₁ B hml hv
  obtain ⟨hargs, hsz, hP, hK, hD0⟩ := hv
  have hx := B.exec
  have hb := B.bytes
  have hr := B.returns
  have hts := atoms_spec (ws := (Cond.code y_Rq_lengthOf b_Rq_lengthOf 2 (Option.some Jvm.ClassFile.FieldType.int) :: BIG)) B.pre
  have hg : ∀ w ∈ BIG, w.before _ s = true := fun w h => hts w (List.mem_cons_of_mem _ h)
  have hown : s.vm.findClass "DoorServer$Request" = some m.cls := findClass_of_methodNamed B.named
  have hlocks := B.notSynchronized
  subst hsz
  have hD := hD0.self (sz := s.heap.size)
  generalize hAe : va_A [(rq, .inr (4, [.ref dr, .ref sa])), (sa, .inl ((cT 0), 256, .inl ga)), (dr, .inr (2, [.ref rr, .int (nI len)])), (rr, .inl ((cT 0), 1000, .inl f))] s.heap.size = A at hD ⊢
  have hA : ∀ q : Nat, s.heap.size ≤ q → A q := fun q h => by rw [← hAe]; exact Or.inr h
  have hS : va_S A s.heap s.heap [] := va_S.rf
  have hl := lv_entry ([.ref rq, .int (nI c9)]) (n := 2) (Nat.le_of_ble_eq_true rfl)
  refine W.eq (g2 := entryFrame m (List.toArray [.ref rq, .int (nI c9)]) 2) (by rw [hargs]) ?_
  rw [lg_entry_eq]
  generalize (lg_sl ([.ref rq, .int (nI c9)]) ++ List.replicate (2 - (lg_sl ([.ref rq, .int (nI c9)])).length) Slot.unset).toArray = ls at hl ⊢
  have hl : lv_has ls 2 [(0, .ref rq), (1, .int (nI c9))] := hl
  change W p l e ({ frames := 0, cells := 0, slots := 0, locals := 0 } : Room) s m args below meth c s.heap [] 0 0 _ _
  have hP : va_P (dC, dI) vcl [(rq, .inr (4, [.ref dr, .ref sa])), (sa, .inl ((cT 0), 256, .inl ga)), (dr, .inr (2, [.ref rr, .int (nI len)])), (rr, .inl ((cT 0), 1000, .inl f))] s.heap := hP
  refine lv_aload_n hx hb d_Rq_lengthOf_0 rfl (lv_at hl 0 rfl) ?_
  refine va_get (D := (dC, dI)) (ci := 4) (v := (.ref dr)) (C := R_Rq) (T := F_Rq) (N := 2) hx hb hg in_Rq hown hK hP 0 rfl rfl 0 (by decide) (hg _ k_309) (fun _ h9 => h9) rfl d_Rq_lengthOf_1 ?_
  refine va_get (D := (dC, dI)) (ci := 2) (v := (.ref rr)) (C := R_Pk) (T := F_Pk) (N := 2) hx hb hg in_Pk hown hK hP 2 rfl rfl 0 (by decide) (hg _ k_40) (fun x9 h9 => u_same (hg _ k_41) x9 h9) rfl d_Rq_lengthOf_4 ?_
  refine lv_aload_n hx hb d_Rq_lengthOf_7 rfl (lv_at hl 0 rfl) ?_
  refine va_get (D := (dC, dI)) (ci := 4) (v := (.ref sa)) (C := R_Rq) (T := F_Rq) (N := 2) hx hb hg in_Rq hown hK hP 0 rfl rfl 1 (by decide) (hg _ k_313) (fun _ h9 => h9) rfl d_Rq_lengthOf_8 ?_
  refine lv_iload_n hx hb d_Rq_lengthOf_11 rfl (lv_at hl 1 rfl) ?_
  refine va_iald hx hb hK hP 1 0 rfl rfl (i := (nI c9)) (vp_in_nI hc9 (by decide)) d_Rq_lengthOf_12 ?_
  refine lv_topi (fun x67 e66 => ?_)
  obtain rfl : x67 = nI a := by rw [e66]; rw [nI_clamp (by omega)]; exact hga
  refine lv_iconst (v := 1) hx hb d_Rq_lengthOf_13 (by decide) ?_
  refine lv_isub hx hb d_Rq_lengthOf_14 ?_
  refine lv_topi (fun x69 e68 => ?_)
  obtain rfl : x69 = nI (a - 1) := by rw [e68]; exact pk_sub (b := 1) (by omega)
  refine va_iald hx hb hK hP 3 0 rfl rfl (i := (nI (a - 1))) (vp_in_nI (by omega) (by decide)) d_Rq_lengthOf_15 ?_
  refine lv_topi (fun x71 e70 => ?_)
  obtain rfl : x71 = nI (n + 2) := by rw [e70]; rw [nI_clamp (by omega)]; exact hfa
  refine lv_iconst (v := 2) hx hb d_Rq_lengthOf_16 (by decide) ?_
  refine lv_isub hx hb d_Rq_lengthOf_17 ?_
  refine lv_topi (fun x73 e72 => ?_)
  obtain rfl : x73 = nI n := by rw [e72]; exact pk_sub (a := n + 2) (b := 2) (by omega)
  have hP9 := hP.sub (ws' := [(rq, .inr (4, [.ref dr, .ref sa])), (sa, .inl ((cT 0), 256, .inl ga)), (dr, .inr (2, [.ref rr, .int (nI len)])), (rr, .inl ((cT 0), 1000, .inl f))]) [0, 1, 2, 3] rfl
  have hD9 := hD.sub (ws' := [(rq, .inr (4, [.ref dr, .ref sa])), (sa, .inl ((cT 0), 256, .inl ga)), (dr, .inr (2, [.ref rr, .int (nI len)])), (rr, .inl ((cT 0), 1000, .inl f))]) [0, 1, 2, 3] (by decide) rfl
  exact W.iret (v := nI n) hx hb hr (fun t ht hW => ⟨⟨_, (), rfl, ⟨rfl, trivial⟩, by rw [ht]; exact hP9, va_K.moved hW.alike hK, hD9⟩, hS.F ht⟩) hS.2.2 d_Rq_lengthOf_18
set_option maxHeartbeats 4000000 in
set_option maxRecDepth 100000 in
/-- byteOf -/
theorem c_byteOf (l : Launch) (dC : Nat → ClassId) (dI : Nat → Nat → Nat) (cT : Nat → ClassId) (sz : Nat) (rq : Nat) (dr : Nat) (rr : Nat) (sa : Nat) (len : Nat) (f : Nat → Int32) (ga : Nat → Int32) (c9 : Nat) (a : Nat) (j : Nat) (hc9 : c9 < 256) (hga : ga c9 = nI a) (haj : a + j < 1000) : Met l y_Rq_byteOf (Cond.code y_Rq_byteOf b_Rq_byteOf 3 (Option.some Jvm.ClassFile.FieldType.int) :: BIG) ({ frames := 0, cells := 0, slots := 0, locals := 0 }) (va_Pc [.ref rq, .int (nI c9), .int (nI j)] (fun U => U.heap.size = sz ∧ va_P (dC, dI) vcl [(rq, .inr (4, [.ref dr, .ref sa])), (sa, .inl ((cT 0), 256, .inl ga)), (dr, .inr (2, [.ref rr, .int (nI len)])), (rr, .inl ((cT 0), 1000, .inl f))] U.heap ∧ va_K (dC, dI) vcl (tyL cT) U ∧ va_D (fun _ => True) [(rq, .inr (4, [.ref dr, .ref sa])), (sa, .inl ((cT 0), 256, .inl ga)), (dr, .inr (2, [.ref rr, .int (nI len)])), (rr, .inl ((cT 0), 1000, .inl f))])) (va_Qi (S := Unit) (fun rv9 u => rv9 = f (a + j) ∧ (True)) (fun u t => va_P (dC, dI) vcl [(rq, .inr (4, [.ref dr, .ref sa])), (sa, .inl ((cT 0), 256, .inl ga)), (dr, .inr (2, [.ref rr, .int (nI len)])), (rr, .inl ((cT 0), 1000, .inl f))] t.heap ∧ va_K (dC, dI) vcl (tyL cT) t ∧ va_D (va_A [(rq, .inr (4, [.ref dr, .ref sa])), (sa, .inl ((cT 0), 256, .inl ga)), (dr, .inr (2, [.ref rr, .int (nI len)])), (rr, .inl ((cT 0), 1000, .inl f))] sz) [(rq, .inr (4, [.ref dr, .ref sa])), (sa, .inl ((cT 0), 256, .inl ga)), (dr, .inr (2, [.ref rr, .int (nI len)])), (rr, .inl ((cT 0), 1000, .inl f))]) (va_A [(rq, .inr (4, [.ref dr, .ref sa])), (sa, .inl ((cT 0), 256, .inl ga)), (dr, .inr (2, [.ref rr, .int (nI len)])), (rr, .inl ((cT 0), 1000, .inl f))] sz)) 0 0 (va_A [(rq, .inr (4, [.ref dr, .ref sa])), (sa, .inl ((cT 0), 256, .inl ga)), (dr, .inr (2, [.ref rr, .int (nI len)])), (rr, .inl ((cT 0), 1000, .inl f))] sz) := by
  refine Met.ofW (cc := b_Rq_byteOf) (maxL := 3) (ret := (Option.some Jvm.ClassFile.FieldType.int)) (by decide) rfl ?_
  intro p e s m args below meth c s₁ B hml hv
  obtain ⟨hargs, hsz, hP, hK, hD0⟩ := hv
  have hx := B.exec
  have hb := B.bytes
  have hr := B.returns
  have hts := atoms_spec (ws := (Cond.code y_Rq_byteOf b_Rq_byteOf 3 (Option.some Jvm.ClassFile.FieldType.int) :: BIG)) B.pre
  have hg : ∀ w ∈ BIG, w.before _ s = true := fun w h => hts w (List.mem_cons_of_mem _ h)
  have hown : s.vm.findClass "DoorServer$Request" = some m.cls := findClass_of_methodNamed B.named
  have hlocks := B.notSynchronized
  subst hsz
  have hD := hD0.self (sz := s.heap.size)
  generalize hAe : va_A [(rq, .inr (4, [.ref dr, .ref sa])), (sa, .inl ((cT 0), 256, .inl ga)), (dr, .inr (2, [.ref rr, .int (nI len)])), (rr, .inl ((cT 0), 1000, .inl f))] s.heap.size = A at hD ⊢
  have hA : ∀ q : Nat, s.heap.size ≤ q → A q := fun q h => by rw [← hAe]; exact Or.inr h
  have hS : va_S A s.heap s.heap [] := va_S.rf
  have hl := lv_entry ([.ref rq, .int (nI c9), .int (nI j)]) (n := 3) (Nat.le_of_ble_eq_true rfl)
  refine W.eq (g2 := entryFrame m (List.toArray [.ref rq, .int (nI c9), .int (nI j)]) 3) (by rw [hargs]) ?_
  rw [lg_entry_eq]
  generalize (lg_sl ([.ref rq, .int (nI c9), .int (nI j)]) ++ List.replicate (3 - (lg_sl ([.ref rq, .int (nI c9), .int (nI j)])).length) Slot.unset).toArray = ls at hl ⊢
  have hl : lv_has ls 3 [(0, .ref rq), (1, .int (nI c9)), (2, .int (nI j))] := hl
  change W p l e ({ frames := 0, cells := 0, slots := 0, locals := 0 } : Room) s m args below meth c s.heap [] 0 0 _ _
  have hP : va_P (dC, dI) vcl [(rq, .inr (4, [.ref dr, .ref sa])), (sa, .inl ((cT 0), 256, .inl ga)), (dr, .inr (2, [.ref rr, .int (nI len)])), (rr, .inl ((cT 0), 1000, .inl f))] s.heap := hP
  refine lv_aload_n hx hb d_Rq_byteOf_0 rfl (lv_at hl 0 rfl) ?_
  refine va_get (D := (dC, dI)) (ci := 4) (v := (.ref dr)) (C := R_Rq) (T := F_Rq) (N := 2) hx hb hg in_Rq hown hK hP 0 rfl rfl 0 (by decide) (hg _ k_309) (fun _ h9 => h9) rfl d_Rq_byteOf_1 ?_
  refine va_get (D := (dC, dI)) (ci := 2) (v := (.ref rr)) (C := R_Pk) (T := F_Pk) (N := 2) hx hb hg in_Pk hown hK hP 2 rfl rfl 0 (by decide) (hg _ k_40) (fun x9 h9 => u_same (hg _ k_41) x9 h9) rfl d_Rq_byteOf_4 ?_
  refine lv_aload_n hx hb d_Rq_byteOf_7 rfl (lv_at hl 0 rfl) ?_
  refine va_get (D := (dC, dI)) (ci := 4) (v := (.ref sa)) (C := R_Rq) (T := F_Rq) (N := 2) hx hb hg in_Rq hown hK hP 0 rfl rfl 1 (by decide) (hg _ k_313) (fun _ h9 => h9) rfl d_Rq_byteOf_8 ?_
  refine lv_iload_n hx hb d_Rq_byteOf_11 rfl (lv_at hl 1 rfl) ?_
  refine va_iald hx hb hK hP 1 0 rfl rfl (i := (nI c9)) (vp_in_nI hc9 (by decide)) d_Rq_byteOf_12 ?_
  refine lv_topi (fun x75 e74 => ?_)
  obtain rfl : x75 = nI a := by rw [e74]; rw [nI_clamp (by omega)]; exact hga
  refine lv_iload_n hx hb d_Rq_byteOf_13 rfl (lv_at hl 2 rfl) ?_
  refine lv_iadd hx hb d_Rq_byteOf_14 ?_
  refine lv_topi (fun x77 e76 => ?_)
  obtain rfl : x77 = nI (a + j) := by rw [e76]; exact nI_add a j
  refine va_iald hx hb hK hP 3 0 rfl rfl (i := (nI (a + j))) (vp_in_nI (by omega) (by decide)) d_Rq_byteOf_15 ?_
  refine lv_topi (fun x79 e78 => ?_)
  obtain rfl : x79 = f (a + j) := by rw [e78]; rw [nI_clamp (by omega)]
  have hP9 := hP.sub (ws' := [(rq, .inr (4, [.ref dr, .ref sa])), (sa, .inl ((cT 0), 256, .inl ga)), (dr, .inr (2, [.ref rr, .int (nI len)])), (rr, .inl ((cT 0), 1000, .inl f))]) [0, 1, 2, 3] rfl
  have hD9 := hD.sub (ws' := [(rq, .inr (4, [.ref dr, .ref sa])), (sa, .inl ((cT 0), 256, .inl ga)), (dr, .inr (2, [.ref rr, .int (nI len)])), (rr, .inl ((cT 0), 1000, .inl f))]) [0, 1, 2, 3] (by decide) rfl
  exact W.iret (v := f (a + j)) hx hb hr (fun t ht hW => ⟨⟨_, (), rfl, ⟨rfl, trivial⟩, by rw [ht]; exact hP9, va_K.moved hW.alike hK, hD9⟩, hS.F ht⟩) hS.2.2 d_Rq_byteOf_16
set_option maxHeartbeats 4000000 in
set_option maxRecDepth 100000 in
/-- code -/
theorem c_code (l : Launch) (dC : Nat → ClassId) (dI : Nat → Nat → Nat) (cT : Nat → ClassId) (sz : Nat) (rq : Nat) (dr : Nat) (rr : Nat) (sa : Nat) (len : Nat) (f : Nat → Int32) (ga : Nat → Int32)  : Met l y_Rq_code (Cond.code y_Rq_code b_Rq_code 1 (Option.some Jvm.ClassFile.FieldType.int) :: BIG) ({ frames := 0, cells := 0, slots := 0, locals := 0 }) (va_Pc [.ref rq] (fun U => U.heap.size = sz ∧ va_P (dC, dI) vcl [(rq, .inr (4, [.ref dr, .ref sa])), (sa, .inl ((cT 0), 256, .inl ga)), (dr, .inr (2, [.ref rr, .int (nI len)])), (rr, .inl ((cT 0), 1000, .inl f))] U.heap ∧ va_K (dC, dI) vcl (tyL cT) U ∧ va_D (fun _ => True) [(rq, .inr (4, [.ref dr, .ref sa])), (sa, .inl ((cT 0), 256, .inl ga)), (dr, .inr (2, [.ref rr, .int (nI len)])), (rr, .inl ((cT 0), 1000, .inl f))])) (va_Qi (S := Unit) (fun rv9 u => rv9 = f 0 ∧ (True)) (fun u t => va_P (dC, dI) vcl [(rq, .inr (4, [.ref dr, .ref sa])), (sa, .inl ((cT 0), 256, .inl ga)), (dr, .inr (2, [.ref rr, .int (nI len)])), (rr, .inl ((cT 0), 1000, .inl f))] t.heap ∧ va_K (dC, dI) vcl (tyL cT) t ∧ va_D (va_A [(rq, .inr (4, [.ref dr, .ref sa])), (sa, .inl ((cT 0), 256, .inl ga)), (dr, .inr (2, [.ref rr, .int (nI len)])), (rr, .inl ((cT 0), 1000, .inl f))] sz) [(rq, .inr (4, [.ref dr, .ref sa])), (sa, .inl ((cT 0), 256, .inl ga)), (dr, .inr (2, [.ref rr, .int (nI len)])), (rr, .inl ((cT 0), 1000, .inl f))]) (va_A [(rq, .inr (4, [.ref dr, .ref sa])), (sa, .inl ((cT 0), 256, .inl ga)), (dr, .inr (2, [.ref rr, .int (nI len)])), (rr, .inl ((cT 0), 1000, .inl f))] sz)) 0 0 (va_A [(rq, .inr (4, [.ref dr, .ref sa])), (sa, .inl ((cT 0), 256, .inl ga)), (dr, .inr (2, [.ref rr, .int (nI len)])), (rr, .inl ((cT 0), 1000, .inl f))] sz) := by
  refine Met.ofW (cc := b_Rq_code) (maxL := 1) (ret := (Option.some Jvm.ClassFile.FieldType.int)) (by decide) rfl ?_
  intro p e s m args below meth c s₁ B hml hv
  obtain ⟨hargs, hsz, hP, hK, hD0⟩ := hv
  have hx := B.exec
  have hb := B.bytes
  have hr := B.returns
  have hts := atoms_spec (ws := (Cond.code y_Rq_code b_Rq_code 1 (Option.some Jvm.ClassFile.FieldType.int) :: BIG)) B.pre
  have hg : ∀ w ∈ BIG, w.before _ s = true := fun w h => hts w (List.mem_cons_of_mem _ h)
  have hown : s.vm.findClass "DoorServer$Request" = some m.cls := findClass_of_methodNamed B.named
  have hlocks := B.notSynchronized
  subst hsz
  have hD := hD0.self (sz := s.heap.size)
  generalize hAe : va_A [(rq, .inr (4, [.ref dr, .ref sa])), (sa, .inl ((cT 0), 256, .inl ga)), (dr, .inr (2, [.ref rr, .int (nI len)])), (rr, .inl ((cT 0), 1000, .inl f))] s.heap.size = A at hD ⊢
  have hA : ∀ q : Nat, s.heap.size ≤ q → A q := fun q h => by rw [← hAe]; exact Or.inr h
  have hS : va_S A s.heap s.heap [] := va_S.rf
  have hl := lv_entry ([.ref rq]) (n := 1) (Nat.le_of_ble_eq_true rfl)
  refine W.eq (g2 := entryFrame m (List.toArray [.ref rq]) 1) (by rw [hargs]) ?_
  rw [lg_entry_eq]
  generalize (lg_sl ([.ref rq]) ++ List.replicate (1 - (lg_sl ([.ref rq])).length) Slot.unset).toArray = ls at hl ⊢
  have hl : lv_has ls 1 [(0, .ref rq)] := hl
  change W p l e ({ frames := 0, cells := 0, slots := 0, locals := 0 } : Room) s m args below meth c s.heap [] 0 0 _ _
  have hP : va_P (dC, dI) vcl [(rq, .inr (4, [.ref dr, .ref sa])), (sa, .inl ((cT 0), 256, .inl ga)), (dr, .inr (2, [.ref rr, .int (nI len)])), (rr, .inl ((cT 0), 1000, .inl f))] s.heap := hP
  refine lv_aload_n hx hb d_Rq_code_0 rfl (lv_at hl 0 rfl) ?_
  refine va_get (D := (dC, dI)) (ci := 4) (v := (.ref dr)) (C := R_Rq) (T := F_Rq) (N := 2) hx hb hg in_Rq hown hK hP 0 rfl rfl 0 (by decide) (hg _ k_309) (fun _ h9 => h9) rfl d_Rq_code_1 ?_
  refine va_get (D := (dC, dI)) (ci := 2) (v := (.ref rr)) (C := R_Pk) (T := F_Pk) (N := 2) hx hb hg in_Pk hown hK hP 2 rfl rfl 0 (by decide) (hg _ k_40) (fun x9 h9 => u_same (hg _ k_41) x9 h9) rfl d_Rq_code_4 ?_
  refine lv_iconst (v := 0) hx hb d_Rq_code_7 (by decide) ?_
  refine va_iald hx hb hK hP 3 0 rfl rfl (i := 0) (vp_in_nI (n := 0) (N := 1000) (by decide) (by decide)) d_Rq_code_8 ?_
  refine lv_topi (fun x81 e80 => ?_)
  obtain rfl : x81 = f 0 := by rw [e80]; exact congrArg f (by decide)
  have hP9 := hP.sub (ws' := [(rq, .inr (4, [.ref dr, .ref sa])), (sa, .inl ((cT 0), 256, .inl ga)), (dr, .inr (2, [.ref rr, .int (nI len)])), (rr, .inl ((cT 0), 1000, .inl f))]) [0, 1, 2, 3] rfl
  have hD9 := hD.sub (ws' := [(rq, .inr (4, [.ref dr, .ref sa])), (sa, .inl ((cT 0), 256, .inl ga)), (dr, .inr (2, [.ref rr, .int (nI len)])), (rr, .inl ((cT 0), 1000, .inl f))]) [0, 1, 2, 3] (by decide) rfl
  exact W.iret (v := f 0) hx hb hr (fun t ht hW => ⟨⟨_, (), rfl, ⟨rfl, trivial⟩, by rw [ht]; exact hP9, va_K.moved hW.alike hK, hD9⟩, hS.F ht⟩) hS.2.2 d_Rq_code_9
set_option maxHeartbeats 4000000 in
set_option maxRecDepth 100000 in
/-- identifier -/
theorem c_identifier (l : Launch) (dC : Nat → ClassId) (dI : Nat → Nat → Nat) (cT : Nat → ClassId) (sz : Nat) (rq : Nat) (dr : Nat) (rr : Nat) (sa : Nat) (len : Nat) (f : Nat → Int32) (ga : Nat → Int32)  : Met l y_Rq_identifier (Cond.code y_Rq_identifier b_Rq_identifier 1 (Option.some Jvm.ClassFile.FieldType.int) :: BIG) ({ frames := 0, cells := 0, slots := 0, locals := 0 }) (va_Pc [.ref rq] (fun U => U.heap.size = sz ∧ va_P (dC, dI) vcl [(rq, .inr (4, [.ref dr, .ref sa])), (sa, .inl ((cT 0), 256, .inl ga)), (dr, .inr (2, [.ref rr, .int (nI len)])), (rr, .inl ((cT 0), 1000, .inl f))] U.heap ∧ va_K (dC, dI) vcl (tyL cT) U ∧ va_D (fun _ => True) [(rq, .inr (4, [.ref dr, .ref sa])), (sa, .inl ((cT 0), 256, .inl ga)), (dr, .inr (2, [.ref rr, .int (nI len)])), (rr, .inl ((cT 0), 1000, .inl f))])) (va_Qi (S := Unit) (fun rv9 u => rv9 = f 1 ∧ (True)) (fun u t => va_P (dC, dI) vcl [(rq, .inr (4, [.ref dr, .ref sa])), (sa, .inl ((cT 0), 256, .inl ga)), (dr, .inr (2, [.ref rr, .int (nI len)])), (rr, .inl ((cT 0), 1000, .inl f))] t.heap ∧ va_K (dC, dI) vcl (tyL cT) t ∧ va_D (va_A [(rq, .inr (4, [.ref dr, .ref sa])), (sa, .inl ((cT 0), 256, .inl ga)), (dr, .inr (2, [.ref rr, .int (nI len)])), (rr, .inl ((cT 0), 1000, .inl f))] sz) [(rq, .inr (4, [.ref dr, .ref sa])), (sa, .inl ((cT 0), 256, .inl ga)), (dr, .inr (2, [.ref rr, .int (nI len)])), (rr, .inl ((cT 0), 1000, .inl f))]) (va_A [(rq, .inr (4, [.ref dr, .ref sa])), (sa, .inl ((cT 0), 256, .inl ga)), (dr, .inr (2, [.ref rr, .int (nI len)])), (rr, .inl ((cT 0), 1000, .inl f))] sz)) 0 0 (va_A [(rq, .inr (4, [.ref dr, .ref sa])), (sa, .inl ((cT 0), 256, .inl ga)), (dr, .inr (2, [.ref rr, .int (nI len)])), (rr, .inl ((cT 0), 1000, .inl f))] sz) := by
  refine Met.ofW (cc := b_Rq_identifier) (maxL := 1) (ret := (Option.some Jvm.ClassFile.FieldType.int)) (by decide) rfl ?_
  intro p e s m args below meth c s₁ B hml hv
  obtain ⟨hargs, hsz, hP, hK, hD0⟩ := hv
  have hx := B.exec
  have hb := B.bytes
  have hr := B.returns
  have hts := atoms_spec (ws := (Cond.code y_Rq_identifier b_Rq_identifier 1 (Option.some Jvm.ClassFile.FieldType.int) :: BIG)) B.pre
  have hg : ∀ w ∈ BIG, w.before _ s = true := fun w h => hts w (List.mem_cons_of_mem _ h)
  have hown : s.vm.findClass "DoorServer$Request" = some m.cls := findClass_of_methodNamed B.named
  have hlocks := B.notSynchronized
  subst hsz
  have hD := hD0.self (sz := s.heap.size)
  generalize hAe : va_A [(rq, .inr (4, [.ref dr, .ref sa])), (sa, .inl ((cT 0), 256, .inl ga)), (dr, .inr (2, [.ref rr, .int (nI len)])), (rr, .inl ((cT 0), 1000, .inl f))] s.heap.size = A at hD ⊢
  have hA : ∀ q : Nat, s.heap.size ≤ q → A q := fun q h => by rw [← hAe]; exact Or.inr h
  have hS : va_S A s.heap s.heap [] := va_S.rf
  have hl := lv_entry ([.ref rq]) (n := 1) (Nat.le_of_ble_eq_true rfl)
  refine W.eq (g2 := entryFrame m (List.toArray [.ref rq]) 1) (by rw [hargs]) ?_
  rw [lg_entry_eq]
  generalize (lg_sl ([.ref rq]) ++ List.replicate (1 - (lg_sl ([.ref rq])).length) Slot.unset).toArray = ls at hl ⊢
  have hl : lv_has ls 1 [(0, .ref rq)] := hl
  change W p l e ({ frames := 0, cells := 0, slots := 0, locals := 0 } : Room) s m args below meth c s.heap [] 0 0 _ _
  have hP : va_P (dC, dI) vcl [(rq, .inr (4, [.ref dr, .ref sa])), (sa, .inl ((cT 0), 256, .inl ga)), (dr, .inr (2, [.ref rr, .int (nI len)])), (rr, .inl ((cT 0), 1000, .inl f))] s.heap := hP
  refine lv_aload_n hx hb d_Rq_identifier_0 rfl (lv_at hl 0 rfl) ?_
  refine va_get (D := (dC, dI)) (ci := 4) (v := (.ref dr)) (C := R_Rq) (T := F_Rq) (N := 2) hx hb hg in_Rq hown hK hP 0 rfl rfl 0 (by decide) (hg _ k_309) (fun _ h9 => h9) rfl d_Rq_identifier_1 ?_
  refine va_get (D := (dC, dI)) (ci := 2) (v := (.ref rr)) (C := R_Pk) (T := F_Pk) (N := 2) hx hb hg in_Pk hown hK hP 2 rfl rfl 0 (by decide) (hg _ k_40) (fun x9 h9 => u_same (hg _ k_41) x9 h9) rfl d_Rq_identifier_4 ?_
  refine lv_iconst (v := 1) hx hb d_Rq_identifier_7 (by decide) ?_
  refine va_iald hx hb hK hP 3 0 rfl rfl (i := 1) (vp_in_nI (n := 1) (N := 1000) (by decide) (by decide)) d_Rq_identifier_8 ?_
  refine lv_topi (fun x83 e82 => ?_)
  obtain rfl : x83 = f 1 := by rw [e82]; exact congrArg f (by decide)
  have hP9 := hP.sub (ws' := [(rq, .inr (4, [.ref dr, .ref sa])), (sa, .inl ((cT 0), 256, .inl ga)), (dr, .inr (2, [.ref rr, .int (nI len)])), (rr, .inl ((cT 0), 1000, .inl f))]) [0, 1, 2, 3] rfl
  have hD9 := hD.sub (ws' := [(rq, .inr (4, [.ref dr, .ref sa])), (sa, .inl ((cT 0), 256, .inl ga)), (dr, .inr (2, [.ref rr, .int (nI len)])), (rr, .inl ((cT 0), 1000, .inl f))]) [0, 1, 2, 3] (by decide) rfl
  exact W.iret (v := f 1) hx hb hr (fun t ht hW => ⟨⟨_, (), rfl, ⟨rfl, trivial⟩, by rw [ht]; exact hP9, va_K.moved hW.alike hK, hD9⟩, hS.F ht⟩) hS.2.2 d_Rq_identifier_9
set_option maxHeartbeats 4000000 in
set_option maxRecDepth 100000 in
/-- numberOf -/
theorem c_numberOf (l : Launch) (dC : Nat → ClassId) (dI : Nat → Nat → Nat) (cT : Nat → ClassId) (sz : Nat) (rq : Nat) (dr : Nat) (rr : Nat) (sa : Nat) (len : Nat) (f : Nat → Int32) (ga : Nat → Int32) (c9 : Nat) (hk : KT c9) (hq : RQW ga f len) (hlen : len ≤ 1000) : Met l y_Rq_numberOf (Cond.code y_Rq_numberOf b_Rq_numberOf 6 (Option.some Jvm.ClassFile.FieldType.long) :: BIG) ({ frames := 1, cells := 0, slots := 0, locals := 22 }) (va_Pc [.ref rq, .int (nI c9)] (fun U => U.heap.size = sz ∧ va_P (dC, dI) vcl [(rq, .inr (4, [.ref dr, .ref sa])), (sa, .inl ((cT 0), 256, .inl ga)), (dr, .inr (2, [.ref rr, .int (nI len)])), (rr, .inl ((cT 0), 1000, .inl f))] U.heap ∧ va_K (dC, dI) vcl (tyL cT) U ∧ va_D (fun _ => True) [(rq, .inr (4, [.ref dr, .ref sa])), (sa, .inl ((cT 0), 256, .inl ga)), (dr, .inr (2, [.ref rr, .int (nI len)])), (rr, .inl ((cT 0), 1000, .inl f))])) (va_Ql (S := Unit) (fun rv9 u => True) (fun u t => va_P (dC, dI) vcl [(rq, .inr (4, [.ref dr, .ref sa])), (sa, .inl ((cT 0), 256, .inl ga)), (dr, .inr (2, [.ref rr, .int (nI len)])), (rr, .inl ((cT 0), 1000, .inl f))] t.heap ∧ va_K (dC, dI) vcl (tyL cT) t ∧ va_D (va_A [(rq, .inr (4, [.ref dr, .ref sa])), (sa, .inl ((cT 0), 256, .inl ga)), (dr, .inr (2, [.ref rr, .int (nI len)])), (rr, .inl ((cT 0), 1000, .inl f))] sz) [(rq, .inr (4, [.ref dr, .ref sa])), (sa, .inl ((cT 0), 256, .inl ga)), (dr, .inr (2, [.ref rr, .int (nI len)])), (rr, .inl ((cT 0), 1000, .inl f))]) (va_A [(rq, .inr (4, [.ref dr, .ref sa])), (sa, .inl ((cT 0), 256, .inl ga)), (dr, .inr (2, [.ref rr, .int (nI len)])), (rr, .inl ((cT 0), 1000, .inl f))] sz)) 0 0 (va_A [(rq, .inr (4, [.ref dr, .ref sa])), (sa, .inl ((cT 0), 256, .inl ga)), (dr, .inr (2, [.ref rr, .int (nI len)])), (rr, .inl ((cT 0), 1000, .inl f))] sz) := by
  refine Met.ofW (cc := b_Rq_numberOf) (maxL := 6) (ret := (Option.some Jvm.ClassFile.FieldType.long)) (by decide) rfl ?_
  intro p e s m args below meth c s₁ B hml hv
  obtain ⟨hargs, hsz, hP, hK, hD0⟩ := hv
  have hx := B.exec
  have hb := B.bytes
  have hr := B.returns
  have hts := atoms_spec (ws := (Cond.code y_Rq_numberOf b_Rq_numberOf 6 (Option.some Jvm.ClassFile.FieldType.long) :: BIG)) B.pre
  have hg : ∀ w ∈ BIG, w.before _ s = true := fun w h => hts w (List.mem_cons_of_mem _ h)
  have hown : s.vm.findClass "DoorServer$Request" = some m.cls := findClass_of_methodNamed B.named
  have hlocks := B.notSynchronized
  subst hsz
  have hD := hD0.self (sz := s.heap.size)
  generalize hAe : va_A [(rq, .inr (4, [.ref dr, .ref sa])), (sa, .inl ((cT 0), 256, .inl ga)), (dr, .inr (2, [.ref rr, .int (nI len)])), (rr, .inl ((cT 0), 1000, .inl f))] s.heap.size = A at hD ⊢
  have hA : ∀ q : Nat, s.heap.size ≤ q → A q := fun q h => by rw [← hAe]; exact Or.inr h
  have hS : va_S A s.heap s.heap [] := va_S.rf
  have hl := lv_entry ([.ref rq, .int (nI c9)]) (n := 6) (Nat.le_of_ble_eq_true rfl)
  refine W.eq (g2 := entryFrame m (List.toArray [.ref rq, .int (nI c9)]) 6) (by rw [hargs]) ?_
  rw [lg_entry_eq]
  generalize (lg_sl ([.ref rq, .int (nI c9)]) ++ List.replicate (6 - (lg_sl ([.ref rq, .int (nI c9)])).length) Slot.unset).toArray = ls at hl ⊢
  have hl : lv_has ls 6 [(0, .ref rq), (1, .int (nI c9))] := hl
  change W p l e ({ frames := 1, cells := 0, slots := 0, locals := 22 } : Room) s m args below meth c s.heap [] 0 0 _ _
  have hP : va_P (dC, dI) vcl [(rq, .inr (4, [.ref dr, .ref sa])), (sa, .inl ((cT 0), 256, .inl ga)), (dr, .inr (2, [.ref rr, .int (nI len)])), (rr, .inl ((cT 0), 1000, .inl f))] s.heap := hP
  have hc9 := KT_lt hk
  refine lv_lconst (v := 0) hx hb d_Rq_numberOf_0 (by decide) ?_
  refine lv_lstore_n (lv' := [(2, .long 0), (0, .ref rq), (1, .int (nI c9))]) hx hb d_Rq_numberOf_1 rfl hl (by decide) rfl (fun ls hl => ?_)
  refine lv_aload_n hx hb d_Rq_numberOf_2 rfl (lv_at hl 1 rfl) ?_
  refine lv_iload_n hx hb d_Rq_numberOf_3 rfl (lv_at hl 2 rfl) ?_
  have hPc := hP.sub (ws' := [(rq, .inr (4, [.ref dr, .ref sa])), (sa, .inl ((cT 0), 256, .inl ga)), (dr, .inr (2, [.ref rr, .int (nI len)])), (rr, .inl ((cT 0), 1000, .inl f))]) [0, 1, 2, 3] rfl
  have hDc := hD.sub (ws' := [(rq, .inr (4, [.ref dr, .ref sa])), (sa, .inl ((cT 0), 256, .inl ga)), (dr, .inr (2, [.ref rr, .int (nI len)])), (rr, .inl ((cT 0), 1000, .inl f))]) [0, 1, 2, 3] (by decide) rfl
  have hFc := va_free (wc := [(rq, .inr (4, [.ref dr, .ref sa])), (sa, .inl ((cT 0), 256, .inl ga)), (dr, .inr (2, [.ref rr, .int (nI len)])), (rr, .inl ((cT 0), 1000, .inl f))]) hD hS hA [0, 1, 2, 3] rfl
  refine va_calli (va_runV (C := "DoorServer$Request") (As := [.int (nI c9)]) (rest := []) ⟨hx, hb, hml, hown, hg⟩ (c_has l dC dI cT s.heap.size rq dr rr sa len f ga c9 (hk) (hq) (hlen)) (cwV 1 hg (gI (List.forall_mem_append.mpr ⟨List.forall_mem_cons.mpr ⟨k_760, List.forall_mem_cons.mpr ⟨k_720, List.forall_mem_cons.mpr ⟨k_721, List.forall_mem_cons.mpr ⟨k_12, fun _ h => absurd h List.not_mem_nil⟩⟩⟩⟩, List.forall_mem_cons.mpr ⟨k_722, fun _ h => h⟩⟩)) rfl rfl rfl (by decide +kernel) ⟨Nat.le_of_ble_eq_true rfl, Nat.le_of_ble_eq_true rfl⟩) ⟨fun a U g mk q => by obtain ⟨q0, q1, qP, qK, qD⟩ := q; exact ⟨q0, q1, qP, va_K.moved (u := U) (U := U.calling g mk a) (Vm.Alike.refl U.vm) qK, qD⟩, va_recv (q0 := 0) (ci := 4) hK hP rfl rfl, fun U hU hW => ⟨rfl, by rw [hU], by rw [hU]; exact hPc, va_K.moved hW.alike hK, hDc.weaken (fun _ _ _ _ => trivial)⟩⟩ rfl rfl hl.1 rfl (lv_room (Nat.le_of_ble_eq_true rfl)) d_Rq_numberOf_4 ⟨Nat.le_of_ble_eq_true rfl, Nat.le_of_ble_eq_true rfl⟩) hS (fun q _ h => hFc q h) hFc (fun rv9 u t H1 locs ht hvm hw hB hz1 hk1 hS => ?_)
  try dsimp only at hw hB
  obtain ⟨hP1, hK1, hD1⟩ := hB
  rw [ht] at hP1
  generalize rv9 = r84 at hw ⊢
  obtain ⟨hP, hD⟩ := va_join (wr := []) (w1 := [(rq, .inr (4, [.ref dr, .ref sa])), (sa, .inl ((cT 0), 256, .inl ga)), (dr, .inr (2, [.ref rr, .int (nI len)])), (rr, .inl ((cT 0), 1000, .inl f))]) hP hD [0, 1, 2, 3] [] rfl rfl (by decide) (by decide) hk1 hFc hP1 hD1
  have hw85 := hw
  clear hPc hDc hFc hz1 hk1 hP1 hK1 hD1
  generalize H1 = H at hP hS ⊢
  have hP : va_P (dC, dI) vcl [(rq, .inr (4, [.ref dr, .ref sa])), (sa, .inl ((cT 0), 256, .inl ga)), (dr, .inr (2, [.ref rr, .int (nI len)])), (rr, .inl ((cT 0), 1000, .inl f))] H := hP
  have hD : va_D A [(rq, .inr (4, [.ref dr, .ref sa])), (sa, .inl ((cT 0), 256, .inl ga)), (dr, .inr (2, [.ref rr, .int (nI len)])), (rr, .inl ((cT 0), 1000, .inl f))] := hD
  refine lv_if_eq (tgt := 18) hx hb d_Rq_numberOf_7 (by decide) (fun hc86 => ?_) (fun hc86 => ?_)
  · skip
    refine lv_iconst (v := 0) hx hb d_Rq_numberOf_18 (by decide) ?_
    refine lv_topi (fun x88 e87 => ?_)
    obtain rfl : x88 = nI 0 := by rw [e87]; rfl
    refine lv_istore (lv' := [(4, .int (nI 0)), (2, .long 0), (0, .ref rq), (1, .int (nI c9))]) hx hb d_Rq_numberOf_19 hl (by decide) rfl (fun ls hl => ?_)
    refine lv_iconst (v := 0) hx hb d_Rq_numberOf_21 (by decide) ?_
    refine lv_istore (lv' := [(5, .int 0), (4, .int (nI 0)), (2, .long 0), (0, .ref rq), (1, .int (nI c9))]) hx hb d_Rq_numberOf_22 hl (by decide) rfl (fun ls hl => ?_)
    have hl := lv_sub hl [0, 2, 1, 3, 4] (show _ = [(5, .int 0), (2, .long 0), (4, .int (nI 0)), (0, .ref rq), (1, .int (nI c9))] from rfl)
    have L89 : ∀ (Q : State → Prop) (exit : ∀ (lv : Int64) (H : Heap) (locs : List Loc) (ls : Array Slot), va_P (dC, dI) vcl [(rq, .inr (4, [.ref dr, .ref sa])), (sa, .inl ((cT 0), 256, .inl ga)), (dr, .inr (2, [.ref rr, .int (nI len)])), (rr, .inl ((cT 0), 1000, .inl f))] H → va_D A [(rq, .inr (4, [.ref dr, .ref sa])), (sa, .inl ((cT 0), 256, .inl ga)), (dr, .inr (2, [.ref rr, .int (nI len)])), (rr, .inl ((cT 0), 1000, .inl f))] → va_S A s.heap H locs → lv_has ls 6 [(5, .int (nI 0)), (2, .long lv), (4, .int (nI 0)), (0, .ref rq), (1, .int (nI c9))] → W p l e ({ frames := 1, cells := 0, slots := 0, locals := 22 } : Room) s m args below meth c H locs 0 0 Q (F0 m 51 ls [])) (j8 i : Nat) (lv : Int64) (H : Heap) (locs : List Loc) (ls : Array Slot), i + j8 = 0 → va_P (dC, dI) vcl [(rq, .inr (4, [.ref dr, .ref sa])), (sa, .inl ((cT 0), 256, .inl ga)), (dr, .inr (2, [.ref rr, .int (nI len)])), (rr, .inl ((cT 0), 1000, .inl f))] H → va_D A [(rq, .inr (4, [.ref dr, .ref sa])), (sa, .inl ((cT 0), 256, .inl ga)), (dr, .inr (2, [.ref rr, .int (nI len)])), (rr, .inl ((cT 0), 1000, .inl f))] → va_S A s.heap H locs → lv_has ls 6 [(5, .int (nI i)), (2, .long lv), (4, .int (nI 0)), (0, .ref rq), (1, .int (nI c9))] → W p l e ({ frames := 1, cells := 0, slots := 0, locals := 22 } : Room) s m args below meth c H locs 0 0 Q (F0 m 24 ls []) := by
      intro Q exit j8
      induction j8 with
      | zero => 
        intro i lv H locs ls hij  hP hD hS hl
        have hij : 0 = i := by omega
        refine lv_iload hx hb d_Rq_numberOf_24 (lv_at hl 0 rfl) ?_
        refine lv_iload hx hb d_Rq_numberOf_26 (lv_at hl 2 rfl) ?_
        refine lv_icmp_ge (tgt := 51) hx hb d_Rq_numberOf_28 (by decide) (fun hc90 => ?_) (fun hn9 => absurd (nI_le (by omega) (by omega)) hn9)
        subst hij
        exact exit lv _ _ _  hP hD hS hl
      | succ j8 ih => 
        intro i lv H locs ls hij  hP hD hS hl
        have hlt : i < 0 := by omega
        refine lv_iload hx hb d_Rq_numberOf_24 (lv_at hl 0 rfl) ?_
        refine lv_iload hx hb d_Rq_numberOf_26 (lv_at hl 2 rfl) ?_
        refine lv_icmp_ge (tgt := 51) hx hb d_Rq_numberOf_28 (by decide) (fun hn9 => absurd hn9 (nI_ge hlt (by omega))) (fun hc91 => ?_)
        refine lv_lload_n hx hb d_Rq_numberOf_31 rfl (lv_at hl 1 rfl) ?_
        refine lv_bipush (v := 8) hx hb d_Rq_numberOf_32 (by decide) ?_
        refine lv_lshl (v := lv <<< ((8 : Int32).toInt64 &&& 63)) hx hb d_Rq_numberOf_34 rfl ?_
        refine lv_aload_n hx hb d_Rq_numberOf_35 rfl (lv_at hl 3 rfl) ?_
        refine lv_iload_n hx hb d_Rq_numberOf_36 rfl (lv_at hl 4 rfl) ?_
        refine lv_iload hx hb d_Rq_numberOf_37 (lv_at hl 0 rfl) ?_
        exfalso; omega
    refine L89 _ (fun lv H locs ls  hP hD hS hl => ?_) (0 - 0) 0 0 H _ ls (by omega)  hP hD hS hl
    refine lv_lload_n hx hb d_Rq_numberOf_51 rfl (lv_at hl 1 rfl) ?_
    have hP9 := hP.sub (ws' := [(rq, .inr (4, [.ref dr, .ref sa])), (sa, .inl ((cT 0), 256, .inl ga)), (dr, .inr (2, [.ref rr, .int (nI len)])), (rr, .inl ((cT 0), 1000, .inl f))]) [0, 1, 2, 3] rfl
    have hD9 := hD.sub (ws' := [(rq, .inr (4, [.ref dr, .ref sa])), (sa, .inl ((cT 0), 256, .inl ga)), (dr, .inr (2, [.ref rr, .int (nI len)])), (rr, .inl ((cT 0), 1000, .inl f))]) [0, 1, 2, 3] (by decide) rfl
    exact W.lret (v := lv) hx hb hr (fun t ht hW => ⟨⟨_, (), rfl, trivial, by rw [ht]; exact hP9, va_K.moved hW.alike hK, hD9⟩, hS.F ht⟩) hS.2.2 d_Rq_numberOf_52
  · skip
    obtain ⟨a, n, h8, h9, h10, h11, h12⟩ := (hq c9 hk).resolve_left (hw85.2.1 (hw85.1.resolve_left hc86))
    refine lv_aload_n hx hb d_Rq_numberOf_10 rfl (lv_at hl 1 rfl) ?_
    refine lv_iload_n hx hb d_Rq_numberOf_11 rfl (lv_at hl 2 rfl) ?_
    have hPc := hP.sub (ws' := [(rq, .inr (4, [.ref dr, .ref sa])), (sa, .inl ((cT 0), 256, .inl ga)), (dr, .inr (2, [.ref rr, .int (nI len)])), (rr, .inl ((cT 0), 1000, .inl f))]) [0, 1, 2, 3] rfl
    have hDc := hD.sub (ws' := [(rq, .inr (4, [.ref dr, .ref sa])), (sa, .inl ((cT 0), 256, .inl ga)), (dr, .inr (2, [.ref rr, .int (nI len)])), (rr, .inl ((cT 0), 1000, .inl f))]) [0, 1, 2, 3] (by decide) rfl
    have hFc := va_free (wc := [(rq, .inr (4, [.ref dr, .ref sa])), (sa, .inl ((cT 0), 256, .inl ga)), (dr, .inr (2, [.ref rr, .int (nI len)])), (rr, .inl ((cT 0), 1000, .inl f))]) hD hS hA [0, 1, 2, 3] rfl
    refine va_calli (va_runV (C := "DoorServer$Request") (As := [.int (nI c9)]) (rest := []) ⟨hx, hb, hml, hown, hg⟩ (c_lengthOf l dC dI cT H.size rq dr rr sa len f ga c9 a n (hc9) (h8) (h9) (h10) (h11) (hlen)) (cwV 1 hg (gI (List.forall_mem_append.mpr ⟨List.forall_mem_cons.mpr ⟨k_761, List.forall_mem_cons.mpr ⟨k_762, List.forall_mem_cons.mpr ⟨k_763, List.forall_mem_cons.mpr ⟨k_12, fun _ h => absurd h List.not_mem_nil⟩⟩⟩⟩, List.forall_mem_cons.mpr ⟨k_764, fun _ h => h⟩⟩)) rfl rfl rfl (by decide +kernel) ⟨Nat.le_of_ble_eq_true rfl, Nat.le_of_ble_eq_true rfl⟩) ⟨fun a U g mk q => by obtain ⟨q0, q1, qP, qK, qD⟩ := q; exact ⟨q0, q1, qP, va_K.moved (u := U) (U := U.calling g mk a) (Vm.Alike.refl U.vm) qK, qD⟩, va_recv (q0 := 0) (ci := 4) hK hP rfl rfl, fun U hU hW => ⟨rfl, by rw [hU], by rw [hU]; exact hPc, va_K.moved hW.alike hK, hDc.weaken (fun _ _ _ _ => trivial)⟩⟩ rfl rfl hl.1 rfl (lv_room (Nat.le_of_ble_eq_true rfl)) d_Rq_numberOf_12 ⟨Nat.le_of_ble_eq_true rfl, Nat.le_of_ble_eq_true rfl⟩) hS (fun q _ h => hFc q h) hFc (fun rv9 u t H1 locs ht hvm hw hB hz1 hk1 hS => ?_)
    try dsimp only at hw hB
    obtain ⟨hP1, hK1, hD1⟩ := hB
    rw [ht] at hP1
    obtain ⟨rfl, hw⟩ := hw
    obtain ⟨hP, hD⟩ := va_join (wr := []) (w1 := [(rq, .inr (4, [.ref dr, .ref sa])), (sa, .inl ((cT 0), 256, .inl ga)), (dr, .inr (2, [.ref rr, .int (nI len)])), (rr, .inl ((cT 0), 1000, .inl f))]) hP hD [0, 1, 2, 3] [] rfl rfl (by decide) (by decide) hk1 hFc hP1 hD1
    have hw92 := hw
    clear hPc hDc hFc hz1 hk1 hP1 hK1 hD1
    generalize H1 = H at hP hS ⊢
    have hP : va_P (dC, dI) vcl [(rq, .inr (4, [.ref dr, .ref sa])), (sa, .inl ((cT 0), 256, .inl ga)), (dr, .inr (2, [.ref rr, .int (nI len)])), (rr, .inl ((cT 0), 1000, .inl f))] H := hP
    have hD : va_D A [(rq, .inr (4, [.ref dr, .ref sa])), (sa, .inl ((cT 0), 256, .inl ga)), (dr, .inr (2, [.ref rr, .int (nI len)])), (rr, .inl ((cT 0), 1000, .inl f))] := hD
    refine lv_goto (tgt := 19) hx hb d_Rq_numberOf_15 (by decide) ?_
    refine lv_istore (lv' := [(4, .int (nI n)), (2, .long 0), (0, .ref rq), (1, .int (nI c9))]) hx hb d_Rq_numberOf_19 hl (by decide) rfl (fun ls hl => ?_)
    refine lv_iconst (v := 0) hx hb d_Rq_numberOf_21 (by decide) ?_
    refine lv_istore (lv' := [(5, .int 0), (4, .int (nI n)), (2, .long 0), (0, .ref rq), (1, .int (nI c9))]) hx hb d_Rq_numberOf_22 hl (by decide) rfl (fun ls hl => ?_)
    have hl := lv_sub hl [0, 2, 1, 3, 4] (show _ = [(5, .int 0), (2, .long 0), (4, .int (nI n)), (0, .ref rq), (1, .int (nI c9))] from rfl)
    have L93 : ∀ (Q : State → Prop) (exit : ∀ (lv : Int64) (H : Heap) (locs : List Loc) (ls : Array Slot), va_P (dC, dI) vcl [(rq, .inr (4, [.ref dr, .ref sa])), (sa, .inl ((cT 0), 256, .inl ga)), (dr, .inr (2, [.ref rr, .int (nI len)])), (rr, .inl ((cT 0), 1000, .inl f))] H → va_D A [(rq, .inr (4, [.ref dr, .ref sa])), (sa, .inl ((cT 0), 256, .inl ga)), (dr, .inr (2, [.ref rr, .int (nI len)])), (rr, .inl ((cT 0), 1000, .inl f))] → va_S A s.heap H locs → lv_has ls 6 [(5, .int (nI n)), (2, .long lv), (4, .int (nI n)), (0, .ref rq), (1, .int (nI c9))] → W p l e ({ frames := 1, cells := 0, slots := 0, locals := 22 } : Room) s m args below meth c H locs 0 0 Q (F0 m 51 ls [])) (j8 i : Nat) (lv : Int64) (H : Heap) (locs : List Loc) (ls : Array Slot), i + j8 = n → va_P (dC, dI) vcl [(rq, .inr (4, [.ref dr, .ref sa])), (sa, .inl ((cT 0), 256, .inl ga)), (dr, .inr (2, [.ref rr, .int (nI len)])), (rr, .inl ((cT 0), 1000, .inl f))] H → va_D A [(rq, .inr (4, [.ref dr, .ref sa])), (sa, .inl ((cT 0), 256, .inl ga)), (dr, .inr (2, [.ref rr, .int (nI len)])), (rr, .inl ((cT 0), 1000, .inl f))] → va_S A s.heap H locs → lv_has ls 6 [(5, .int (nI i)), (2, .long lv), (4, .int (nI n)), (0, .ref rq), (1, .int (nI c9))] → W p l e ({ frames := 1, cells := 0, slots := 0, locals := 22 } : Room) s m args below meth c H locs 0 0 Q (F0 m 24 ls []) := by
      intro Q exit j8
      induction j8 with
      | zero => 
        intro i lv H locs ls hij  hP hD hS hl
        have hij : n = i := by omega
        refine lv_iload hx hb d_Rq_numberOf_24 (lv_at hl 0 rfl) ?_
        refine lv_iload hx hb d_Rq_numberOf_26 (lv_at hl 2 rfl) ?_
        refine lv_icmp_ge (tgt := 51) hx hb d_Rq_numberOf_28 (by decide) (fun hc94 => ?_) (fun hn9 => absurd (nI_le (by omega) (by omega)) hn9)
        subst hij
        exact exit lv _ _ _  hP hD hS hl
      | succ j8 ih => 
        intro i lv H locs ls hij  hP hD hS hl
        have hlt : i < n := by omega
        refine lv_iload hx hb d_Rq_numberOf_24 (lv_at hl 0 rfl) ?_
        refine lv_iload hx hb d_Rq_numberOf_26 (lv_at hl 2 rfl) ?_
        refine lv_icmp_ge (tgt := 51) hx hb d_Rq_numberOf_28 (by decide) (fun hn9 => absurd hn9 (nI_ge hlt (by omega))) (fun hc95 => ?_)
        refine lv_lload_n hx hb d_Rq_numberOf_31 rfl (lv_at hl 1 rfl) ?_
        refine lv_bipush (v := 8) hx hb d_Rq_numberOf_32 (by decide) ?_
        refine lv_lshl (v := lv <<< ((8 : Int32).toInt64 &&& 63)) hx hb d_Rq_numberOf_34 rfl ?_
        refine lv_aload_n hx hb d_Rq_numberOf_35 rfl (lv_at hl 3 rfl) ?_
        refine lv_iload_n hx hb d_Rq_numberOf_36 rfl (lv_at hl 4 rfl) ?_
        refine lv_iload hx hb d_Rq_numberOf_37 (lv_at hl 0 rfl) ?_
        have hPc := hP.sub (ws' := [(rq, .inr (4, [.ref dr, .ref sa])), (sa, .inl ((cT 0), 256, .inl ga)), (dr, .inr (2, [.ref rr, .int (nI len)])), (rr, .inl ((cT 0), 1000, .inl f))]) [0, 1, 2, 3] rfl
        have hDc := hD.sub (ws' := [(rq, .inr (4, [.ref dr, .ref sa])), (sa, .inl ((cT 0), 256, .inl ga)), (dr, .inr (2, [.ref rr, .int (nI len)])), (rr, .inl ((cT 0), 1000, .inl f))]) [0, 1, 2, 3] (by decide) rfl
        have hFc := va_free (wc := [(rq, .inr (4, [.ref dr, .ref sa])), (sa, .inl ((cT 0), 256, .inl ga)), (dr, .inr (2, [.ref rr, .int (nI len)])), (rr, .inl ((cT 0), 1000, .inl f))]) hD hS hA [0, 1, 2, 3] rfl
        refine va_calli (va_runV (C := "DoorServer$Request") (As := [.int (nI c9), .int (nI i)]) (rest := [.long (lv <<< ((8 : Int32).toInt64 &&& 63))]) ⟨hx, hb, hml, hown, hg⟩ (c_byteOf l dC dI cT H.size rq dr rr sa len f ga c9 a i (hc9) (h8) (by omega)) (cwV 2 hg (gI (List.forall_mem_append.mpr ⟨List.forall_mem_cons.mpr ⟨k_765, List.forall_mem_cons.mpr ⟨k_766, List.forall_mem_cons.mpr ⟨k_767, List.forall_mem_cons.mpr ⟨k_12, fun _ h => absurd h List.not_mem_nil⟩⟩⟩⟩, List.forall_mem_cons.mpr ⟨k_768, fun _ h => h⟩⟩)) rfl rfl rfl (by decide +kernel) ⟨Nat.le_of_ble_eq_true rfl, Nat.le_of_ble_eq_true rfl⟩) ⟨fun a U g mk q => by obtain ⟨q0, q1, qP, qK, qD⟩ := q; exact ⟨q0, q1, qP, va_K.moved (u := U) (U := U.calling g mk a) (Vm.Alike.refl U.vm) qK, qD⟩, va_recv (q0 := 0) (ci := 4) hK hP rfl rfl, fun U hU hW => ⟨rfl, by rw [hU], by rw [hU]; exact hPc, va_K.moved hW.alike hK, hDc.weaken (fun _ _ _ _ => trivial)⟩⟩ rfl rfl hl.1 rfl (lv_room (Nat.le_of_ble_eq_true rfl)) d_Rq_numberOf_39 ⟨Nat.le_of_ble_eq_true rfl, Nat.le_of_ble_eq_true rfl⟩) hS (fun q _ h => hFc q h) hFc (fun rv9 u t H1 locs ht hvm hw hB hz1 hk1 hS => ?_)
        try dsimp only at hw hB
        obtain ⟨hP1, hK1, hD1⟩ := hB
        rw [ht] at hP1
        obtain ⟨rfl, hw⟩ := hw
        obtain ⟨hP, hD⟩ := va_join (wr := []) (w1 := [(rq, .inr (4, [.ref dr, .ref sa])), (sa, .inl ((cT 0), 256, .inl ga)), (dr, .inr (2, [.ref rr, .int (nI len)])), (rr, .inl ((cT 0), 1000, .inl f))]) hP hD [0, 1, 2, 3] [] rfl rfl (by decide) (by decide) hk1 hFc hP1 hD1
        have hw96 := hw
        clear hPc hDc hFc hz1 hk1 hP1 hK1 hD1
        generalize H1 = H at hP hS ⊢
        have hP : va_P (dC, dI) vcl [(rq, .inr (4, [.ref dr, .ref sa])), (sa, .inl ((cT 0), 256, .inl ga)), (dr, .inr (2, [.ref rr, .int (nI len)])), (rr, .inl ((cT 0), 1000, .inl f))] H := hP
        have hD : va_D A [(rq, .inr (4, [.ref dr, .ref sa])), (sa, .inl ((cT 0), 256, .inl ga)), (dr, .inr (2, [.ref rr, .int (nI len)])), (rr, .inl ((cT 0), 1000, .inl f))] := hD
        refine lv_i2l (v := (f (a + i)).toInt64) hx hb d_Rq_numberOf_42 rfl ?_
        refine lv_lor hx hb d_Rq_numberOf_43 ?_
        refine lv_lstore_n (lv' := [(2, .long ((lv <<< ((8 : Int32).toInt64 &&& 63)) ||| ((f (a + i)).toInt64))), (5, .int (nI i)), (4, .int (nI n)), (0, .ref rq), (1, .int (nI c9))]) hx hb d_Rq_numberOf_44 rfl hl (by decide) rfl (fun ls hl => ?_)
        refine lv_iinc (k := 1) (v := nI (i + 1)) (lv' := [(5, .int (nI (i + 1))), (2, .long ((lv <<< ((8 : Int32).toInt64 &&& 63)) ||| ((f (a + i)).toInt64))), (4, .int (nI n)), (0, .ref rq), (1, .int (nI c9))]) hx hb d_Rq_numberOf_45 hl rfl (nI_1 i) (by decide) rfl (fun ls hl => ?_)
        refine lv_goto (tgt := 24) hx hb d_Rq_numberOf_48 (by decide) ?_
        have hl := lv_sub hl [0, 1, 2, 3, 4] (show _ = [(5, .int (nI (i + 1))), (2, .long ((lv <<< ((8 : Int32).toInt64 &&& 63)) ||| ((f (a + i)).toInt64))), (4, .int (nI n)), (0, .ref rq), (1, .int (nI c9))] from rfl)
        exact ih (i + 1) ((lv <<< ((8 : Int32).toInt64 &&& 63)) ||| ((f (a + i)).toInt64)) _ _ _ (by omega)  hP hD hS hl
    refine L93 _ (fun lv H locs ls  hP hD hS hl => ?_) (n - 0) 0 0 H _ ls (by omega)  hP hD hS hl
    refine lv_lload_n hx hb d_Rq_numberOf_51 rfl (lv_at hl 1 rfl) ?_
    have hP9 := hP.sub (ws' := [(rq, .inr (4, [.ref dr, .ref sa])), (sa, .inl ((cT 0), 256, .inl ga)), (dr, .inr (2, [.ref rr, .int (nI len)])), (rr, .inl ((cT 0), 1000, .inl f))]) [0, 1, 2, 3] rfl
    have hD9 := hD.sub (ws' := [(rq, .inr (4, [.ref dr, .ref sa])), (sa, .inl ((cT 0), 256, .inl ga)), (dr, .inr (2, [.ref rr, .int (nI len)])), (rr, .inl ((cT 0), 1000, .inl f))]) [0, 1, 2, 3] (by decide) rfl
    exact W.lret (v := lv) hx hb hr (fun t ht hW => ⟨⟨_, (), rfl, trivial, by rw [ht]; exact hP9, va_K.moved hW.alike hK, hD9⟩, hS.F ht⟩) hS.2.2 d_Rq_numberOf_52
