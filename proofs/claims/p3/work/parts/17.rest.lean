theorem d_DS_spoil_0 : decode b_DS_spoil 0 = .ok (.iload_n 1, 1) := by decide +kernel
theorem d_DS_spoil_1 : decode b_DS_spoil 1 = .ok (.iconst 0, 1) := by decide +kernel
theorem d_DS_spoil_2 : decode b_DS_spoil 2 = .ok (.aload_n 0, 1) := by decide +kernel
theorem d_DS_spoil_3 : decode b_DS_spoil 3 = .ok (.getfield 14, 3) := by decide +kernel
theorem d_DS_spoil_6 : decode b_DS_spoil 6 = .ok (.getfield 81, 3) := by decide +kernel
theorem d_DS_spoil_9 : decode b_DS_spoil 9 = .ok (.iconst 1, 1) := by decide +kernel
theorem d_DS_spoil_10 : decode b_DS_spoil 10 = .ok (.isub, 1) := by decide +kernel
theorem d_DS_spoil_11 : decode b_DS_spoil 11 = .ok (.invokestatic 38, 3) := by decide +kernel
theorem d_DS_spoil_14 : decode b_DS_spoil 14 = .ok (.iload_n 2, 1) := by decide +kernel
theorem d_DS_spoil_15 : decode b_DS_spoil 15 = .ok (.invokestatic 62, 3) := by decide +kernel
theorem d_DS_spoil_18 : decode b_DS_spoil 18 = .ok (.aload_n 0, 1) := by decide +kernel
theorem d_DS_spoil_19 : decode b_DS_spoil 19 = .ok (.getfield 14, 3) := by decide +kernel
theorem d_DS_spoil_22 : decode b_DS_spoil 22 = .ok (.getfield 107, 3) := by decide +kernel
theorem d_DS_spoil_25 : decode b_DS_spoil 25 = .ok (.iload_n 1, 1) := by decide +kernel
theorem d_DS_spoil_26 : decode b_DS_spoil 26 = .ok (.dup2, 1) := by decide +kernel
theorem d_DS_spoil_27 : decode b_DS_spoil 27 = .ok (.iaload, 1) := by decide +kernel
theorem d_DS_spoil_28 : decode b_DS_spoil 28 = .ok (.iload_n 2, 1) := by decide +kernel
theorem d_DS_spoil_29 : decode b_DS_spoil 29 = .ok (.ixor, 1) := by decide +kernel
theorem d_DS_spoil_30 : decode b_DS_spoil 30 = .ok (.iastore, 1) := by decide +kernel
theorem d_DS_spoil_31 : decode b_DS_spoil 31 = .ok (.aload_n 0, 1) := by decide +kernel
theorem d_DS_spoil_32 : decode b_DS_spoil 32 = .ok (.getfield 14, 3) := by decide +kernel
theorem d_DS_spoil_35 : decode b_DS_spoil 35 = .ok (.getfield 107, 3) := by decide +kernel
theorem d_DS_spoil_38 : decode b_DS_spoil 38 = .ok (.iload_n 1, 1) := by decide +kernel
theorem d_DS_spoil_39 : decode b_DS_spoil 39 = .ok (.iaload, 1) := by decide +kernel
theorem d_DS_spoil_40 : decode b_DS_spoil 40 = .ok (.ireturn, 1) := by decide +kernel
theorem d_DS_size_0 : decode b_DS_size 0 = .ok (.aload_n 0, 1) := by decide +kernel
theorem d_DS_size_1 : decode b_DS_size 1 = .ok (.getfield 31, 3) := by decide +kernel
theorem d_DS_size_4 : decode b_DS_size 4 = .ok (.getfield 104, 3) := by decide +kernel
theorem d_DS_size_7 : decode b_DS_size 7 = .ok (.getfield 81, 3) := by decide +kernel
theorem d_DS_size_10 : decode b_DS_size 10 = .ok (.ireturn, 1) := by decide +kernel
theorem d_DS_byteAt_0 : decode b_DS_byteAt 0 = .ok (.iload_n 1, 1) := by decide +kernel
theorem d_DS_byteAt_1 : decode b_DS_byteAt 1 = .ok (.iconst 0, 1) := by decide +kernel
theorem d_DS_byteAt_2 : decode b_DS_byteAt 2 = .ok (.aload_n 0, 1) := by decide +kernel
theorem d_DS_byteAt_3 : decode b_DS_byteAt 3 = .ok (.getfield 31, 3) := by decide +kernel
theorem d_DS_byteAt_6 : decode b_DS_byteAt 6 = .ok (.getfield 104, 3) := by decide +kernel
theorem d_DS_byteAt_9 : decode b_DS_byteAt 9 = .ok (.getfield 81, 3) := by decide +kernel
theorem d_DS_byteAt_12 : decode b_DS_byteAt 12 = .ok (.iconst 1, 1) := by decide +kernel
theorem d_DS_byteAt_13 : decode b_DS_byteAt 13 = .ok (.isub, 1) := by decide +kernel
theorem d_DS_byteAt_14 : decode b_DS_byteAt 14 = .ok (.invokestatic 38, 3) := by decide +kernel
theorem d_DS_byteAt_17 : decode b_DS_byteAt 17 = .ok (.aload_n 0, 1) := by decide +kernel
theorem d_DS_byteAt_18 : decode b_DS_byteAt 18 = .ok (.getfield 31, 3) := by decide +kernel
theorem d_DS_byteAt_21 : decode b_DS_byteAt 21 = .ok (.getfield 104, 3) := by decide +kernel
theorem d_DS_byteAt_24 : decode b_DS_byteAt 24 = .ok (.getfield 107, 3) := by decide +kernel
theorem d_DS_byteAt_27 : decode b_DS_byteAt 27 = .ok (.iload_n 1, 1) := by decide +kernel
theorem d_DS_byteAt_28 : decode b_DS_byteAt 28 = .ok (.iaload, 1) := by decide +kernel
theorem d_DS_byteAt_29 : decode b_DS_byteAt 29 = .ok (.ireturn, 1) := by decide +kernel
theorem d_DS_ticks_0 : decode b_DS_ticks 0 = .ok (.iload_n 1, 1) := by decide +kernel
theorem d_DS_ticks_1 : decode b_DS_ticks 1 = .ok (.iconst 1, 1) := by decide +kernel
theorem d_DS_ticks_2 : decode b_DS_ticks 2 = .ok (.sipush 1000, 3) := by decide +kernel
theorem d_DS_ticks_5 : decode b_DS_ticks 5 = .ok (.invokestatic 38, 3) := by decide +kernel
theorem d_DS_ticks_8 : decode b_DS_ticks 8 = .ok (.aload_n 0, 1) := by decide +kernel
theorem d_DS_ticks_9 : decode b_DS_ticks 9 = .ok (.getfield 31, 3) := by decide +kernel
theorem d_DS_ticks_12 : decode b_DS_ticks 12 = .ok (.getfield 149, 3) := by decide +kernel
theorem d_DS_ticks_15 : decode b_DS_ticks 15 = .ok (.iload_n 1, 1) := by decide +kernel
theorem d_DS_ticks_16 : decode b_DS_ticks 16 = .ok (.iadd, 1) := by decide +kernel
theorem d_DS_ticks_17 : decode b_DS_ticks 17 = .ok (.iconst 0, 1) := by decide +kernel
theorem d_DS_ticks_18 : decode b_DS_ticks 18 = .ok (.ldc 152, 2) := by decide +kernel
theorem d_DS_ticks_20 : decode b_DS_ticks 20 = .ok (.invokestatic 38, 3) := by decide +kernel
theorem d_DS_ticks_23 : decode b_DS_ticks 23 = .ok (.aload_n 0, 1) := by decide +kernel
theorem d_DS_ticks_24 : decode b_DS_ticks 24 = .ok (.getfield 31, 3) := by decide +kernel
theorem d_DS_ticks_27 : decode b_DS_ticks 27 = .ok (.dup, 1) := by decide +kernel
theorem d_DS_ticks_28 : decode b_DS_ticks 28 = .ok (.getfield 149, 3) := by decide +kernel
theorem d_DS_ticks_31 : decode b_DS_ticks 31 = .ok (.iload_n 1, 1) := by decide +kernel
theorem d_DS_ticks_32 : decode b_DS_ticks 32 = .ok (.iadd, 1) := by decide +kernel
theorem d_DS_ticks_33 : decode b_DS_ticks 33 = .ok (.putfield 149, 3) := by decide +kernel
theorem d_DS_ticks_36 : decode b_DS_ticks 36 = .ok (.aload_n 0, 1) := by decide +kernel
theorem d_DS_ticks_37 : decode b_DS_ticks 37 = .ok (.getfield 31, 3) := by decide +kernel
theorem d_DS_ticks_40 : decode b_DS_ticks 40 = .ok (.getfield 149, 3) := by decide +kernel
theorem d_DS_ticks_43 : decode b_DS_ticks 43 = .ok (.ireturn, 1) := by decide +kernel
theorem d_DS_count_0 : decode b_DS_count 0 = .ok (.iload_n 1, 1) := by decide +kernel
theorem d_DS_count_1 : decode b_DS_count 1 = .ok (.tableswitch 96 0 5 #[39, 50, 61, 72, 80, 88], 39) := by decide +kernel
theorem d_DS_count_40 : decode b_DS_count 40 = .ok (.aload_n 0, 1) := by decide +kernel
theorem d_DS_count_41 : decode b_DS_count 41 = .ok (.getfield 31, 3) := by decide +kernel
theorem d_DS_count_44 : decode b_DS_count 44 = .ok (.getfield 153, 3) := by decide +kernel
theorem d_DS_count_47 : decode b_DS_count 47 = .ok (.getfield 157, 3) := by decide +kernel
theorem d_DS_count_50 : decode b_DS_count 50 = .ok (.ireturn, 1) := by decide +kernel
theorem d_DS_count_51 : decode b_DS_count 51 = .ok (.aload_n 0, 1) := by decide +kernel
theorem d_DS_count_52 : decode b_DS_count 52 = .ok (.getfield 31, 3) := by decide +kernel
theorem d_DS_count_55 : decode b_DS_count 55 = .ok (.getfield 162, 3) := by decide +kernel
theorem d_DS_count_58 : decode b_DS_count 58 = .ok (.getfield 166, 3) := by decide +kernel
theorem d_DS_count_61 : decode b_DS_count 61 = .ok (.ireturn, 1) := by decide +kernel
theorem d_DS_count_62 : decode b_DS_count 62 = .ok (.aload_n 0, 1) := by decide +kernel
theorem d_DS_count_63 : decode b_DS_count 63 = .ok (.getfield 31, 3) := by decide +kernel
theorem d_DS_count_66 : decode b_DS_count 66 = .ok (.getfield 169, 3) := by decide +kernel
theorem d_DS_count_69 : decode b_DS_count 69 = .ok (.getfield 173, 3) := by decide +kernel
theorem d_DS_count_72 : decode b_DS_count 72 = .ok (.ireturn, 1) := by decide +kernel
theorem d_DS_count_73 : decode b_DS_count 73 = .ok (.aload_n 0, 1) := by decide +kernel
theorem d_DS_count_74 : decode b_DS_count 74 = .ok (.getfield 31, 3) := by decide +kernel
theorem d_DS_count_77 : decode b_DS_count 77 = .ok (.getfield 176, 3) := by decide +kernel
theorem d_DS_count_80 : decode b_DS_count 80 = .ok (.ireturn, 1) := by decide +kernel
theorem d_DS_count_81 : decode b_DS_count 81 = .ok (.aload_n 0, 1) := by decide +kernel
theorem d_DS_count_82 : decode b_DS_count 82 = .ok (.getfield 31, 3) := by decide +kernel
theorem d_DS_count_85 : decode b_DS_count 85 = .ok (.getfield 179, 3) := by decide +kernel
theorem d_DS_count_88 : decode b_DS_count 88 = .ok (.ireturn, 1) := by decide +kernel
theorem d_DS_count_89 : decode b_DS_count 89 = .ok (.aload_n 0, 1) := by decide +kernel
theorem d_DS_count_90 : decode b_DS_count 90 = .ok (.getfield 14, 3) := by decide +kernel
theorem d_DS_count_93 : decode b_DS_count 93 = .ok (.getfield 81, 3) := by decide +kernel
theorem d_DS_count_96 : decode b_DS_count 96 = .ok (.ireturn, 1) := by decide +kernel
theorem d_DS_reply_0 : decode b_DS_reply 0 = .ok (.iload_n 3, 1) := by decide +kernel
theorem d_DS_reply_1 : decode b_DS_reply 1 = .ok (.iconst 1, 1) := by decide +kernel
theorem d_DS_reply_2 : decode b_DS_reply 2 = .ok (.bipush 60, 2) := by decide +kernel
theorem d_DS_reply_4 : decode b_DS_reply 4 = .ok (.invokestatic 38, 3) := by decide +kernel
theorem d_DS_reply_7 : decode b_DS_reply 7 = .ok (.aload_n 0, 1) := by decide +kernel
theorem d_DS_reply_8 : decode b_DS_reply 8 = .ok (.getfield 31, 3) := by decide +kernel
theorem d_DS_reply_11 : decode b_DS_reply 11 = .ok (.getfield 104, 3) := by decide +kernel
theorem d_DS_reply_14 : decode b_DS_reply 14 = .ok (.astore 4, 2) := by decide +kernel
theorem d_DS_reply_16 : decode b_DS_reply 16 = .ok (.aload 4, 2) := by decide +kernel
theorem d_DS_reply_18 : decode b_DS_reply 18 = .ok (.getfield 107, 3) := by decide +kernel
theorem d_DS_reply_21 : decode b_DS_reply 21 = .ok (.iconst 0, 1) := by decide +kernel
theorem d_DS_reply_22 : decode b_DS_reply 22 = .ok (.iaload, 1) := by decide +kernel
theorem d_DS_reply_23 : decode b_DS_reply 23 = .ok (.bipush 11, 2) := by decide +kernel
theorem d_DS_reply_25 : decode b_DS_reply 25 = .ok (.if_icmp .eq 5, 3) := by decide +kernel
theorem d_DS_reply_28 : decode b_DS_reply 28 = .ok (.iconst (-1), 1) := by decide +kernel
theorem d_DS_reply_29 : decode b_DS_reply 29 = .ok (.ireturn, 1) := by decide +kernel
theorem d_DS_reply_30 : decode b_DS_reply 30 = .ok (.aload_n 0, 1) := by decide +kernel
theorem d_DS_reply_31 : decode b_DS_reply 31 = .ok (.bipush 32, 2) := by decide +kernel
theorem d_DS_reply_33 : decode b_DS_reply 33 = .ok (.invokevirtual 65, 3) := by decide +kernel
theorem d_DS_reply_36 : decode b_DS_reply 36 = .ok (.bipush 22, 2) := by decide +kernel
theorem d_DS_reply_38 : decode b_DS_reply 38 = .ok (.istore 5, 2) := by decide +kernel
theorem d_DS_reply_40 : decode b_DS_reply 40 = .ok (.iload 5, 2) := by decide +kernel
theorem d_DS_reply_42 : decode b_DS_reply 42 = .ok (.bipush 8, 2) := by decide +kernel
theorem d_DS_reply_44 : decode b_DS_reply 44 = .ok (.iadd, 1) := by decide +kernel
theorem d_DS_reply_45 : decode b_DS_reply 45 = .ok (.iconst 2, 1) := by decide +kernel
theorem d_DS_reply_46 : decode b_DS_reply 46 = .ok (.iadd, 1) := by decide +kernel
theorem d_DS_reply_47 : decode b_DS_reply 47 = .ok (.istore 6, 2) := by decide +kernel
theorem d_DS_reply_49 : decode b_DS_reply 49 = .ok (.aload 4, 2) := by decide +kernel
theorem d_DS_reply_51 : decode b_DS_reply 51 = .ok (.getfield 107, 3) := by decide +kernel
theorem d_DS_reply_54 : decode b_DS_reply 54 = .ok (.iload 6, 2) := by decide +kernel
theorem d_DS_reply_56 : decode b_DS_reply 56 = .ok (.iconst 1, 1) := by decide +kernel
theorem d_DS_reply_57 : decode b_DS_reply 57 = .ok (.iadd, 1) := by decide +kernel
theorem d_DS_reply_58 : decode b_DS_reply 58 = .ok (.iaload, 1) := by decide +kernel
theorem d_DS_reply_59 : decode b_DS_reply 59 = .ok (.istore 7, 2) := by decide +kernel
theorem d_DS_reply_61 : decode b_DS_reply 61 = .ok (.aload_n 0, 1) := by decide +kernel
theorem d_DS_reply_62 : decode b_DS_reply 62 = .ok (.getfield 31, 3) := by decide +kernel
theorem d_DS_reply_65 : decode b_DS_reply 65 = .ok (.getfield 111, 3) := by decide +kernel
theorem d_DS_reply_68 : decode b_DS_reply 68 = .ok (.lload_n 1, 1) := by decide +kernel
theorem d_DS_reply_69 : decode b_DS_reply 69 = .ok (.iload_n 3, 1) := by decide +kernel
theorem d_DS_reply_70 : decode b_DS_reply 70 = .ok (.invokevirtual 46, 3) := by decide +kernel
theorem d_DS_reply_73 : decode b_DS_reply 73 = .ok (.aload_n 0, 1) := by decide +kernel
theorem d_DS_reply_74 : decode b_DS_reply 74 = .ok (.getfield 14, 3) := by decide +kernel
theorem d_DS_reply_77 : decode b_DS_reply 77 = .ok (.bipush 24, 2) := by decide +kernel
theorem d_DS_reply_79 : decode b_DS_reply 79 = .ok (.bipush 8, 2) := by decide +kernel
theorem d_DS_reply_81 : decode b_DS_reply 81 = .ok (.invokevirtual 68, 3) := by decide +kernel
theorem d_DS_reply_84 : decode b_DS_reply 84 = .ok (.aload_n 0, 1) := by decide +kernel
theorem d_DS_reply_85 : decode b_DS_reply 85 = .ok (.getfield 14, 3) := by decide +kernel
theorem d_DS_reply_88 : decode b_DS_reply 88 = .ok (.aload 4, 2) := by decide +kernel
theorem d_DS_reply_90 : decode b_DS_reply 90 = .ok (.getfield 107, 3) := by decide +kernel
theorem d_DS_reply_93 : decode b_DS_reply 93 = .ok (.iload 5, 2) := by decide +kernel
theorem d_DS_reply_95 : decode b_DS_reply 95 = .ok (.bipush 8, 2) := by decide +kernel
theorem d_DS_reply_97 : decode b_DS_reply 97 = .ok (.invokevirtual 115, 3) := by decide +kernel
theorem d_DS_reply_100 : decode b_DS_reply 100 = .ok (.aload_n 0, 1) := by decide +kernel
theorem d_DS_reply_101 : decode b_DS_reply 101 = .ok (.getfield 14, 3) := by decide +kernel
theorem d_DS_reply_104 : decode b_DS_reply 104 = .ok (.iconst 2, 1) := by decide +kernel
theorem d_DS_reply_105 : decode b_DS_reply 105 = .ok (.iload 7, 2) := by decide +kernel
theorem d_DS_reply_107 : decode b_DS_reply 107 = .ok (.bipush 22, 2) := by decide +kernel
theorem d_DS_reply_109 : decode b_DS_reply 109 = .ok (.invokevirtual 101, 3) := by decide +kernel
theorem d_DS_reply_112 : decode b_DS_reply 112 = .ok (.aload_n 0, 1) := by decide +kernel
theorem d_DS_reply_113 : decode b_DS_reply 113 = .ok (.getfield 14, 3) := by decide +kernel
theorem d_DS_reply_116 : decode b_DS_reply 116 = .ok (.iconst 4, 1) := by decide +kernel
theorem d_DS_reply_117 : decode b_DS_reply 117 = .ok (.invokevirtual 71, 3) := by decide +kernel
theorem d_DS_reply_120 : decode b_DS_reply 120 = .ok (.aload_n 0, 1) := by decide +kernel
theorem d_DS_reply_121 : decode b_DS_reply 121 = .ok (.getfield 14, 3) := by decide +kernel
theorem d_DS_reply_124 : decode b_DS_reply 124 = .ok (.bipush 16, 2) := by decide +kernel
theorem d_DS_reply_126 : decode b_DS_reply 126 = .ok (.invokevirtual 71, 3) := by decide +kernel
theorem d_DS_reply_129 : decode b_DS_reply 129 = .ok (.aload_n 0, 1) := by decide +kernel
theorem d_DS_reply_130 : decode b_DS_reply 130 = .ok (.getfield 14, 3) := by decide +kernel
theorem d_DS_reply_133 : decode b_DS_reply 133 = .ok (.aload_n 0, 1) := by decide +kernel
theorem d_DS_reply_134 : decode b_DS_reply 134 = .ok (.getfield 31, 3) := by decide +kernel
theorem d_DS_reply_137 : decode b_DS_reply 137 = .ok (.getfield 91, 3) := by decide +kernel
theorem d_DS_reply_140 : decode b_DS_reply 140 = .ok (.iload 7, 2) := by decide +kernel
theorem d_DS_reply_142 : decode b_DS_reply 142 = .ok (.aload_n 0, 1) := by decide +kernel
theorem d_DS_reply_143 : decode b_DS_reply 143 = .ok (.getfield 31, 3) := by decide +kernel
theorem d_DS_reply_146 : decode b_DS_reply 146 = .ok (.getfield 111, 3) := by decide +kernel
theorem d_DS_reply_149 : decode b_DS_reply 149 = .ok (.aload 4, 2) := by decide +kernel
theorem d_DS_reply_151 : decode b_DS_reply 151 = .ok (.getfield 107, 3) := by decide +kernel
theorem d_DS_reply_154 : decode b_DS_reply 154 = .ok (.iload 6, 2) := by decide +kernel
theorem d_DS_reply_156 : decode b_DS_reply 156 = .ok (.bipush 6, 2) := by decide +kernel
theorem d_DS_reply_158 : decode b_DS_reply 158 = .ok (.iadd, 1) := by decide +kernel
theorem d_DS_reply_159 : decode b_DS_reply 159 = .ok (.invokevirtual 119, 3) := by decide +kernel
theorem d_DS_reply_162 : decode b_DS_reply 162 = .ok (.iconst 0, 1) := by decide +kernel
theorem d_DS_reply_163 : decode b_DS_reply 163 = .ok (.bipush 16, 2) := by decide +kernel
theorem d_DS_reply_165 : decode b_DS_reply 165 = .ok (.invokevirtual 115, 3) := by decide +kernel
theorem d_DS_reply_168 : decode b_DS_reply 168 = .ok (.aload_n 0, 1) := by decide +kernel
theorem d_DS_reply_169 : decode b_DS_reply 169 = .ok (.invokevirtual 74, 3) := by decide +kernel
theorem d_DS_reply_172 : decode b_DS_reply 172 = .ok (.ireturn, 1) := by decide +kernel
theorem BY_rng {x : Int32} (h1 : ¬ x < 0) (h2 : ¬ 255 < x) : BY x := by
  obtain ⟨k, h3, h4⟩ := nI_of2 (M := 255) (n := 255) (by decide) h1 (by rw [Int32.le_iff_toInt_le]; rw [Int32.lt_iff_toInt_lt] at h2; omega)
  exact ⟨k, by omega, h4⟩
set_option maxHeartbeats 4000000 in
set_option maxRecDepth 100000 in
/-- spoil -/
theorem c_spoil (l : Launch) (dC : Nat → ClassId) (dI : Nat → Nat → Nat) (cT : Nat → ClassId) (sz : Nat) (ds : Nat) (dr : Nat) (sv : Nat) (rr : Nat) (len : Nat) (f : Nat → Int32) (j : Nat) (x : Int32) (hlen : len ≤ 1000) (hj : j < len) (hx1 : ¬ x < 0) (hx2 : ¬ 255 < x) : Met l y_DS_spoil (Cond.code y_DS_spoil b_DS_spoil 3 (Option.some Jvm.ClassFile.FieldType.int) :: BIG) ({ frames := 2, cells := 0, slots := 0, locals := 45 }) (va_Pc [.ref ds, .int (nI j), .int x] (fun U => U.heap.size = sz ∧ va_P (dC, dI) vcl [(ds, .inr (0, [.ref dr, .ref sv])), (dr, .inr (2, [.ref rr, .int (nI len)])), (rr, .inl ((cT 0), 1000, .inl f))] U.heap ∧ va_K (dC, dI) vcl (tyL cT) U ∧ va_D (fun _ => True) [(ds, .inr (0, [.ref dr, .ref sv])), (dr, .inr (2, [.ref rr, .int (nI len)])), (rr, .inl ((cT 0), 1000, .inl f))])) (va_Qi (S := (Nat → Int32)) (fun rv9 u => match u with | g => rv9 = f j ^^^ x ∧ (AB f → AB g)) (fun u t => match u with | g => va_P (dC, dI) vcl [(ds, .inr (0, [.ref dr, .ref sv])), (dr, .inr (2, [.ref rr, .int (nI len)])), (rr, .inl ((cT 0), 1000, .inl g))] t.heap ∧ va_K (dC, dI) vcl (tyL cT) t ∧ va_D (va_A [(ds, .inr (0, [.ref dr, .ref sv])), (dr, .inr (2, [.ref rr, .int (nI len)])), (rr, .inl ((cT 0), 1000, .inl f))] sz) [(ds, .inr (0, [.ref dr, .ref sv])), (dr, .inr (2, [.ref rr, .int (nI len)])), (rr, .inl ((cT 0), 1000, .inl g))]) (va_A [(ds, .inr (0, [.ref dr, .ref sv])), (dr, .inr (2, [.ref rr, .int (nI len)])), (rr, .inl ((cT 0), 1000, .inl f))] sz)) 0 0 (va_A [(ds, .inr (0, [.ref dr, .ref sv])), (dr, .inr (2, [.ref rr, .int (nI len)])), (rr, .inl ((cT 0), 1000, .inl f))] sz) := by
  refine Met.ofW (cc := b_DS_spoil) (maxL := 3) (ret := (Option.some Jvm.ClassFile.FieldType.int)) (by decide) rfl ?_
  intro p e s m args below meth c s₁ B hml hv
  obtain ⟨hargs, hsz, hP, hK, hD0⟩ := hv
  have hx := B.exec
  have hb := B.bytes
  have hr := B.returns
  have hts := atoms_spec (ws := (Cond.code y_DS_spoil b_DS_spoil 3 (Option.some Jvm.ClassFile.FieldType.int) :: BIG)) B.pre
  have hg : ∀ w ∈ BIG, w.before _ s = true := fun w h => hts w (List.mem_cons_of_mem _ h)
  have hown : s.vm.findClass "DoorServer" = some m.cls := findClass_of_methodNamed B.named
  have hlocks := B.notSynchronized
  subst hsz
  have hD := hD0.self (sz := s.heap.size)
  generalize hAe : va_A [(ds, .inr (0, [.ref dr, .ref sv])), (dr, .inr (2, [.ref rr, .int (nI len)])), (rr, .inl ((cT 0), 1000, .inl f))] s.heap.size = A at hD ⊢
  have hA : ∀ q : Nat, s.heap.size ≤ q → A q := fun q h => by rw [← hAe]; exact Or.inr h
  have hS : va_S A s.heap s.heap [] := va_S.rf
  have hl := lv_entry ([.ref ds, .int (nI j), .int x]) (n := 3) (Nat.le_of_ble_eq_true rfl)
  refine W.eq (g2 := entryFrame m (List.toArray [.ref ds, .int (nI j), .int x]) 3) (by rw [hargs]) ?_
  rw [lg_entry_eq]
  generalize (lg_sl ([.ref ds, .int (nI j), .int x]) ++ List.replicate (3 - (lg_sl ([.ref ds, .int (nI j), .int x])).length) Slot.unset).toArray = ls at hl ⊢
  have hl : lv_has ls 3 [(0, .ref ds), (1, .int (nI j)), (2, .int x)] := hl
  change W p l e ({ frames := 2, cells := 0, slots := 0, locals := 45 } : Room) s m args below meth c s.heap [] 0 0 _ _
  have hP : va_P (dC, dI) vcl [(ds, .inr (0, [.ref dr, .ref sv])), (dr, .inr (2, [.ref rr, .int (nI len)])), (rr, .inl ((cT 0), 1000, .inl f))] s.heap := hP
  refine lv_iload_n hx hb d_DS_spoil_0 rfl (lv_at hl 1 rfl) ?_
  refine lv_iconst (v := 0) hx hb d_DS_spoil_1 (by decide) ?_
  refine lv_aload_n hx hb d_DS_spoil_2 rfl (lv_at hl 0 rfl) ?_
  refine va_get (D := (dC, dI)) (ci := 0) (v := (.ref dr)) (C := R_DS) (T := F_DS) (N := 2) hx hb hg in_DS hown hK hP 0 rfl rfl 0 (by decide) (hg _ k_368) (fun _ h9 => h9) rfl d_DS_spoil_3 ?_
  refine va_get (D := (dC, dI)) (ci := 2) (v := (.int (nI len))) (C := R_Pk) (T := F_Pk) (N := 2) hx hb hg in_Pk hown hK hP 1 rfl rfl 1 (by decide) (hg _ k_59) (fun x9 h9 => u_same (hg _ k_53) x9 h9) rfl d_DS_spoil_6 ?_
  refine lv_iconst (v := 1) hx hb d_DS_spoil_9 (by decide) ?_
  refine lv_isub hx hb d_DS_spoil_10 ?_
  refine lv_topi (fun x2 e1 => ?_)
  obtain rfl : x2 = nI (len - 1) := by rw [e1]; exact pk_sub (b := 1) (by omega)
  have hPc := hP.sub (ws' := []) [] rfl
  have hDc := hD.sub (ws' := []) [] (by decide) rfl
  have hFc := va_free (wc := []) hD hS hA [] rfl
  refine va_callv (va_runS (As := [.int (nI j), .int 0, .int (nI (len - 1))]) (rest := []) ⟨hx, hb, hml, hown, hg⟩ (c_requireWithin l dC dI cT s.heap.size (nI j) 0 (nI (len - 1)) (nI_pos (by omega)) (nI_nlt (by omega) (by omega))) (va_cwS 3 hg (gI (List.forall_mem_append.mpr ⟨List.forall_mem_cons.mpr ⟨k_390, List.forall_mem_cons.mpr ⟨k_391, List.forall_mem_cons.mpr ⟨k_1, fun _ h => absurd h List.not_mem_nil⟩⟩⟩, List.forall_mem_cons.mpr ⟨k_392, fun _ h => h⟩⟩)) rfl rfl rfl (by decide +kernel) ⟨Nat.le_of_ble_eq_true rfl, Nat.le_of_ble_eq_true rfl⟩) ⟨fun a U g mk q => by obtain ⟨q0, q1, qP, qK, qD⟩ := q; exact ⟨q0, q1, qP, va_K.moved (u := U) (U := U.calling g mk a) (Vm.Alike.refl U.vm) qK, qD⟩, fun U hU hW => ⟨rfl, by rw [hU], by rw [hU]; exact hPc, va_K.moved hW.alike hK, hDc.weaken (fun _ _ _ _ => trivial)⟩⟩ rfl rfl hl.1 rfl (lv_room (Nat.le_of_ble_eq_true rfl)) d_DS_spoil_11 ⟨Nat.le_of_ble_eq_true rfl, Nat.le_of_ble_eq_true rfl⟩) hS (fun q _ h => hFc q h) hFc (fun u t H1 locs ht hvm hw hB hz1 hk1 hS => ?_)
  try dsimp only at hw hB
  obtain ⟨hP1, hK1, hD1⟩ := hB
  rw [ht] at hP1
  obtain ⟨hP, hD⟩ := va_join (wr := [(ds, .inr (0, [.ref dr, .ref sv])), (dr, .inr (2, [.ref rr, .int (nI len)])), (rr, .inl ((cT 0), 1000, .inl f))]) (w1 := []) hP hD [] [0, 1, 2] rfl rfl (by decide) (by decide) hk1 hFc hP1 hD1
  have hw3 := hw
  clear hPc hDc hFc hz1 hk1 hP1 hK1 hD1
  generalize H1 = H at hP hS ⊢
  have hP : va_P (dC, dI) vcl [(ds, .inr (0, [.ref dr, .ref sv])), (dr, .inr (2, [.ref rr, .int (nI len)])), (rr, .inl ((cT 0), 1000, .inl f))] H := hP
  have hD : va_D A [(ds, .inr (0, [.ref dr, .ref sv])), (dr, .inr (2, [.ref rr, .int (nI len)])), (rr, .inl ((cT 0), 1000, .inl f))] := hD
  refine lv_iload_n hx hb d_DS_spoil_14 rfl (lv_at hl 2 rfl) ?_
  have hPc := hP.sub (ws' := []) [] rfl
  have hDc := hD.sub (ws' := []) [] (by decide) rfl
  have hFc := va_free (wc := []) hD hS hA [] rfl
  refine va_callv (va_runS (As := [.int x]) (rest := []) ⟨hx, hb, hml, hown, hg⟩ (c_requireByte l dC dI cT H.size x (hx1) (hx2)) (va_cwS 1 hg (gI (List.forall_mem_append.mpr ⟨List.forall_mem_cons.mpr ⟨k_489, List.forall_mem_cons.mpr ⟨k_490, List.forall_mem_cons.mpr ⟨k_1, fun _ h => absurd h List.not_mem_nil⟩⟩⟩, List.forall_mem_cons.mpr ⟨k_491, fun _ h => h⟩⟩)) rfl rfl rfl (by decide +kernel) ⟨Nat.le_of_ble_eq_true rfl, Nat.le_of_ble_eq_true rfl⟩) ⟨fun a U g mk q => by obtain ⟨q0, q1, qP, qK, qD⟩ := q; exact ⟨q0, q1, qP, va_K.moved (u := U) (U := U.calling g mk a) (Vm.Alike.refl U.vm) qK, qD⟩, fun U hU hW => ⟨rfl, by rw [hU], by rw [hU]; exact hPc, va_K.moved hW.alike hK, hDc.weaken (fun _ _ _ _ => trivial)⟩⟩ rfl rfl hl.1 rfl (lv_room (Nat.le_of_ble_eq_true rfl)) d_DS_spoil_15 ⟨Nat.le_of_ble_eq_true rfl, Nat.le_of_ble_eq_true rfl⟩) hS (fun q _ h => hFc q h) hFc (fun u t H1 locs ht hvm hw hB hz1 hk1 hS => ?_)
  try dsimp only at hw hB
  obtain ⟨hP1, hK1, hD1⟩ := hB
  rw [ht] at hP1
  obtain ⟨hP, hD⟩ := va_join (wr := [(ds, .inr (0, [.ref dr, .ref sv])), (dr, .inr (2, [.ref rr, .int (nI len)])), (rr, .inl ((cT 0), 1000, .inl f))]) (w1 := []) hP hD [] [0, 1, 2] rfl rfl (by decide) (by decide) hk1 hFc hP1 hD1
  have hw4 := hw
  clear hPc hDc hFc hz1 hk1 hP1 hK1 hD1
  generalize H1 = H at hP hS ⊢
  have hP : va_P (dC, dI) vcl [(ds, .inr (0, [.ref dr, .ref sv])), (dr, .inr (2, [.ref rr, .int (nI len)])), (rr, .inl ((cT 0), 1000, .inl f))] H := hP
  have hD : va_D A [(ds, .inr (0, [.ref dr, .ref sv])), (dr, .inr (2, [.ref rr, .int (nI len)])), (rr, .inl ((cT 0), 1000, .inl f))] := hD
  refine lv_aload_n hx hb d_DS_spoil_18 rfl (lv_at hl 0 rfl) ?_
  refine va_get (D := (dC, dI)) (ci := 0) (v := (.ref dr)) (C := R_DS) (T := F_DS) (N := 2) hx hb hg in_DS hown hK hP 0 rfl rfl 0 (by decide) (hg _ k_368) (fun _ h9 => h9) rfl d_DS_spoil_19 ?_
  refine va_get (D := (dC, dI)) (ci := 2) (v := (.ref rr)) (C := R_Pk) (T := F_Pk) (N := 2) hx hb hg in_Pk hown hK hP 1 rfl rfl 0 (by decide) (hg _ k_49) (fun x9 h9 => u_same (hg _ k_41) x9 h9) rfl d_DS_spoil_22 ?_
  refine lv_iload_n hx hb d_DS_spoil_25 rfl (lv_at hl 1 rfl) ?_
  refine lv_dup2_11 hx hb d_DS_spoil_26 rfl rfl ?_
  refine va_iald hx hb hK hP 2 0 rfl rfl (i := (nI j)) (vp_in_nI (show j < 1000 by omega) (by decide)) d_DS_spoil_27 ?_
  refine lv_topi (fun x6 e5 => ?_)
  obtain rfl : x6 = f j := by rw [e5]; rw [nI_clamp (by omega)]
  refine lv_iload_n hx hb d_DS_spoil_28 rfl (lv_at hl 2 rfl) ?_
  refine lv_ixor hx hb d_DS_spoil_29 ?_
  refine va_iast hx hb hK hP hD hS 2 0 rfl rfl (i := (nI j)) (vp_in_nI (show j < 1000 by omega) (by decide)) d_DS_spoil_30 (fun H locs hP hD hS => ?_)
  have ef7 : upd f (nI j).toNatClampNeg ((f j) ^^^ x) = upd f j (f j ^^^ x) := by rw [nI_clamp (by omega)]
  rw [ef7] at hP hD
  have hP : va_P (dC, dI) vcl [(ds, .inr (0, [.ref dr, .ref sv])), (dr, .inr (2, [.ref rr, .int (nI len)])), (rr, .inl ((cT 0), 1000, .inl (upd f j (f j ^^^ x))))] H := hP
  have hD : va_D A [(ds, .inr (0, [.ref dr, .ref sv])), (dr, .inr (2, [.ref rr, .int (nI len)])), (rr, .inl ((cT 0), 1000, .inl (upd f j (f j ^^^ x))))] := hD
  refine lv_aload_n hx hb d_DS_spoil_31 rfl (lv_at hl 0 rfl) ?_
  refine va_get (D := (dC, dI)) (ci := 0) (v := (.ref dr)) (C := R_DS) (T := F_DS) (N := 2) hx hb hg in_DS hown hK hP 0 rfl rfl 0 (by decide) (hg _ k_368) (fun _ h9 => h9) rfl d_DS_spoil_32 ?_
  refine va_get (D := (dC, dI)) (ci := 2) (v := (.ref rr)) (C := R_Pk) (T := F_Pk) (N := 2) hx hb hg in_Pk hown hK hP 1 rfl rfl 0 (by decide) (hg _ k_49) (fun x9 h9 => u_same (hg _ k_41) x9 h9) rfl d_DS_spoil_35 ?_
  refine lv_iload_n hx hb d_DS_spoil_38 rfl (lv_at hl 1 rfl) ?_
  refine va_iald hx hb hK hP 2 0 rfl rfl (i := (nI j)) (vp_in_nI (show j < 1000 by omega) (by decide)) d_DS_spoil_39 ?_
  refine lv_topi (fun x9 e8 => ?_)
  obtain rfl : x9 = f j ^^^ x := by rw [e8]; rw [nI_clamp (by omega), pk_us]
  have hP9 := hP.sub (ws' := [(ds, .inr (0, [.ref dr, .ref sv])), (dr, .inr (2, [.ref rr, .int (nI len)])), (rr, .inl ((cT 0), 1000, .inl (upd f j (f j ^^^ x))))]) [0, 1, 2] rfl
  have hD9 := hD.sub (ws' := [(ds, .inr (0, [.ref dr, .ref sv])), (dr, .inr (2, [.ref rr, .int (nI len)])), (rr, .inl ((cT 0), 1000, .inl (upd f j (f j ^^^ x))))]) [0, 1, 2] (by decide) rfl
  exact W.iret (v := f j ^^^ x) hx hb hr (fun t ht hW => ⟨⟨_, upd f j (f j ^^^ x), rfl, ⟨rfl, fun h9 => AB_upd h9 (BY_xor (h9 j) (BY_rng hx1 hx2))⟩, by rw [ht]; exact hP9, va_K.moved hW.alike hK, hD9⟩, hS.F ht⟩) hS.2.2 d_DS_spoil_40
set_option maxHeartbeats 4000000 in
set_option maxRecDepth 100000 in
/-- size -/
theorem c_size (l : Launch) (dC : Nat → ClassId) (dI : Nat → Nat → Nat) (cT : Nat → ClassId) (sz : Nat) (ds : Nat) (dr : Nat) (sv : Nat) (rr : Nat) (g0 : Nat) (se : Nat) (pw : Nat) (ty : Nat) (an : Nat) (aw : Nat) (ts : Nat) (ss : Nat) (rq : Nat) (tm : Int32) (n3 : Int32) (n4 : Int32) (ar : Nat) (al : Nat) (fa : Nat → Int32)  : Met l y_DS_size (Cond.code y_DS_size b_DS_size 1 (Option.some Jvm.ClassFile.FieldType.int) :: BIG) ({ frames := 0, cells := 0, slots := 0, locals := 0 }) (va_Pc [.ref ds] (fun U => U.heap.size = sz ∧ va_P (dC, dI) vcl [(ds, .inr (0, [.ref dr, .ref sv])), (sv, .inr (5, [.ref se, .ref pw, .ref g0, .ref ty, .ref an, .ref aw, .ref ts, .ref ss, .ref rq, .int tm, .int n3, .int n4])), (an, .inr (2, [.ref ar, .int (nI al)])), (ar, .inl ((cT 0), 72, .inl fa))] U.heap ∧ va_K (dC, dI) vcl (tyL cT) U ∧ va_D (fun _ => True) [(ds, .inr (0, [.ref dr, .ref sv])), (sv, .inr (5, [.ref se, .ref pw, .ref g0, .ref ty, .ref an, .ref aw, .ref ts, .ref ss, .ref rq, .int tm, .int n3, .int n4])), (an, .inr (2, [.ref ar, .int (nI al)])), (ar, .inl ((cT 0), 72, .inl fa))])) (va_Qi (S := Unit) (fun rv9 u => rv9 = nI al ∧ (True)) (fun u t => va_P (dC, dI) vcl [(ds, .inr (0, [.ref dr, .ref sv])), (sv, .inr (5, [.ref se, .ref pw, .ref g0, .ref ty, .ref an, .ref aw, .ref ts, .ref ss, .ref rq, .int tm, .int n3, .int n4])), (an, .inr (2, [.ref ar, .int (nI al)])), (ar, .inl ((cT 0), 72, .inl fa))] t.heap ∧ va_K (dC, dI) vcl (tyL cT) t ∧ va_D (va_A [(ds, .inr (0, [.ref dr, .ref sv])), (sv, .inr (5, [.ref se, .ref pw, .ref g0, .ref ty, .ref an, .ref aw, .ref ts, .ref ss, .ref rq, .int tm, .int n3, .int n4])), (an, .inr (2, [.ref ar, .int (nI al)])), (ar, .inl ((cT 0), 72, .inl fa))] sz) [(ds, .inr (0, [.ref dr, .ref sv])), (sv, .inr (5, [.ref se, .ref pw, .ref g0, .ref ty, .ref an, .ref aw, .ref ts, .ref ss, .ref rq, .int tm, .int n3, .int n4])), (an, .inr (2, [.ref ar, .int (nI al)])), (ar, .inl ((cT 0), 72, .inl fa))]) (va_A [(ds, .inr (0, [.ref dr, .ref sv])), (sv, .inr (5, [.ref se, .ref pw, .ref g0, .ref ty, .ref an, .ref aw, .ref ts, .ref ss, .ref rq, .int tm, .int n3, .int n4])), (an, .inr (2, [.ref ar, .int (nI al)])), (ar, .inl ((cT 0), 72, .inl fa))] sz)) 0 0 (va_A [(ds, .inr (0, [.ref dr, .ref sv])), (sv, .inr (5, [.ref se, .ref pw, .ref g0, .ref ty, .ref an, .ref aw, .ref ts, .ref ss, .ref rq, .int tm, .int n3, .int n4])), (an, .inr (2, [.ref ar, .int (nI al)])), (ar, .inl ((cT 0), 72, .inl fa))] sz) := by
  refine Met.ofW (cc := b_DS_size) (maxL := 1) (ret := (Option.some Jvm.ClassFile.FieldType.int)) (by decide) rfl ?_
  intro p e s m args below meth c s₁ B hml hv
  obtain ⟨hargs, hsz, hP, hK, hD0⟩ := hv
  have hx := B.exec
  have hb := B.bytes
  have hr := B.returns
  have hts := atoms_spec (ws := (Cond.code y_DS_size b_DS_size 1 (Option.some Jvm.ClassFile.FieldType.int) :: BIG)) B.pre
  have hg : ∀ w ∈ BIG, w.before _ s = true := fun w h => hts w (List.mem_cons_of_mem _ h)
  have hown : s.vm.findClass "DoorServer" = some m.cls := findClass_of_methodNamed B.named
  have hlocks := B.notSynchronized
  subst hsz
  have hD := hD0.self (sz := s.heap.size)
  generalize hAe : va_A [(ds, .inr (0, [.ref dr, .ref sv])), (sv, .inr (5, [.ref se, .ref pw, .ref g0, .ref ty, .ref an, .ref aw, .ref ts, .ref ss, .ref rq, .int tm, .int n3, .int n4])), (an, .inr (2, [.ref ar, .int (nI al)])), (ar, .inl ((cT 0), 72, .inl fa))] s.heap.size = A at hD ⊢
  have hA : ∀ q : Nat, s.heap.size ≤ q → A q := fun q h => by rw [← hAe]; exact Or.inr h
  have hS : va_S A s.heap s.heap [] := va_S.rf
  have hl := lv_entry ([.ref ds]) (n := 1) (Nat.le_of_ble_eq_true rfl)
  refine W.eq (g2 := entryFrame m (List.toArray [.ref ds]) 1) (by rw [hargs]) ?_
  rw [lg_entry_eq]
  generalize (lg_sl ([.ref ds]) ++ List.replicate (1 - (lg_sl ([.ref ds])).length) Slot.unset).toArray = ls at hl ⊢
  have hl : lv_has ls 1 [(0, .ref ds)] := hl
  change W p l e ({ frames := 0, cells := 0, slots := 0, locals := 0 } : Room) s m args below meth c s.heap [] 0 0 _ _
  have hP : va_P (dC, dI) vcl [(ds, .inr (0, [.ref dr, .ref sv])), (sv, .inr (5, [.ref se, .ref pw, .ref g0, .ref ty, .ref an, .ref aw, .ref ts, .ref ss, .ref rq, .int tm, .int n3, .int n4])), (an, .inr (2, [.ref ar, .int (nI al)])), (ar, .inl ((cT 0), 72, .inl fa))] s.heap := hP
  refine lv_aload_n hx hb d_DS_size_0 rfl (lv_at hl 0 rfl) ?_
  refine va_get (D := (dC, dI)) (ci := 0) (v := (.ref sv)) (C := R_DS) (T := F_DS) (N := 2) hx hb hg in_DS hown hK hP 0 rfl rfl 1 (by decide) (hg _ k_369) (fun _ h9 => h9) rfl d_DS_size_1 ?_
  refine va_get (D := (dC, dI)) (ci := 5) (v := (.ref an)) (C := R_Sv) (T := F_Sv) (N := 12) hx hb hg in_Sv hown hK hP 1 rfl rfl 4 (by decide) (hg _ k_329) (fun _ h9 => h9) rfl d_DS_size_4 ?_
  refine va_get (D := (dC, dI)) (ci := 2) (v := (.int (nI al))) (C := R_Pk) (T := F_Pk) (N := 2) hx hb hg in_Pk hown hK hP 2 rfl rfl 1 (by decide) (hg _ k_59) (fun x9 h9 => u_same (hg _ k_53) x9 h9) rfl d_DS_size_7 ?_
  have hP9 := hP.sub (ws' := [(ds, .inr (0, [.ref dr, .ref sv])), (sv, .inr (5, [.ref se, .ref pw, .ref g0, .ref ty, .ref an, .ref aw, .ref ts, .ref ss, .ref rq, .int tm, .int n3, .int n4])), (an, .inr (2, [.ref ar, .int (nI al)])), (ar, .inl ((cT 0), 72, .inl fa))]) [0, 1, 2, 3] rfl
  have hD9 := hD.sub (ws' := [(ds, .inr (0, [.ref dr, .ref sv])), (sv, .inr (5, [.ref se, .ref pw, .ref g0, .ref ty, .ref an, .ref aw, .ref ts, .ref ss, .ref rq, .int tm, .int n3, .int n4])), (an, .inr (2, [.ref ar, .int (nI al)])), (ar, .inl ((cT 0), 72, .inl fa))]) [0, 1, 2, 3] (by decide) rfl
  exact W.iret (v := nI al) hx hb hr (fun t ht hW => ⟨⟨_, (), rfl, ⟨rfl, trivial⟩, by rw [ht]; exact hP9, va_K.moved hW.alike hK, hD9⟩, hS.F ht⟩) hS.2.2 d_DS_size_10
set_option maxHeartbeats 4000000 in
set_option maxRecDepth 100000 in
/-- byteAt -/
theorem c_byteAt (l : Launch) (dC : Nat → ClassId) (dI : Nat → Nat → Nat) (cT : Nat → ClassId) (sz : Nat) (ds : Nat) (dr : Nat) (sv : Nat) (rr : Nat) (g0 : Nat) (se : Nat) (pw : Nat) (ty : Nat) (an : Nat) (aw : Nat) (ts : Nat) (ss : Nat) (rq : Nat) (tm : Int32) (n3 : Int32) (n4 : Int32) (ar : Nat) (al : Nat) (fa : Nat → Int32) (j : Nat) (hal : al ≤ 72) (hj : j < al) : Met l y_DS_byteAt (Cond.code y_DS_byteAt b_DS_byteAt 2 (Option.some Jvm.ClassFile.FieldType.int) :: BIG) ({ frames := 1, cells := 0, slots := 0, locals := 22 }) (va_Pc [.ref ds, .int (nI j)] (fun U => U.heap.size = sz ∧ va_P (dC, dI) vcl [(ds, .inr (0, [.ref dr, .ref sv])), (sv, .inr (5, [.ref se, .ref pw, .ref g0, .ref ty, .ref an, .ref aw, .ref ts, .ref ss, .ref rq, .int tm, .int n3, .int n4])), (an, .inr (2, [.ref ar, .int (nI al)])), (ar, .inl ((cT 0), 72, .inl fa))] U.heap ∧ va_K (dC, dI) vcl (tyL cT) U ∧ va_D (fun _ => True) [(ds, .inr (0, [.ref dr, .ref sv])), (sv, .inr (5, [.ref se, .ref pw, .ref g0, .ref ty, .ref an, .ref aw, .ref ts, .ref ss, .ref rq, .int tm, .int n3, .int n4])), (an, .inr (2, [.ref ar, .int (nI al)])), (ar, .inl ((cT 0), 72, .inl fa))])) (va_Qi (S := Unit) (fun rv9 u => rv9 = fa j ∧ (True)) (fun u t => va_P (dC, dI) vcl [(ds, .inr (0, [.ref dr, .ref sv])), (sv, .inr (5, [.ref se, .ref pw, .ref g0, .ref ty, .ref an, .ref aw, .ref ts, .ref ss, .ref rq, .int tm, .int n3, .int n4])), (an, .inr (2, [.ref ar, .int (nI al)])), (ar, .inl ((cT 0), 72, .inl fa))] t.heap ∧ va_K (dC, dI) vcl (tyL cT) t ∧ va_D (va_A [(ds, .inr (0, [.ref dr, .ref sv])), (sv, .inr (5, [.ref se, .ref pw, .ref g0, .ref ty, .ref an, .ref aw, .ref ts, .ref ss, .ref rq, .int tm, .int n3, .int n4])), (an, .inr (2, [.ref ar, .int (nI al)])), (ar, .inl ((cT 0), 72, .inl fa))] sz) [(ds, .inr (0, [.ref dr, .ref sv])), (sv, .inr (5, [.ref se, .ref pw, .ref g0, .ref ty, .ref an, .ref aw, .ref ts, .ref ss, .ref rq, .int tm, .int n3, .int n4])), (an, .inr (2, [.ref ar, .int (nI al)])), (ar, .inl ((cT 0), 72, .inl fa))]) (va_A [(ds, .inr (0, [.ref dr, .ref sv])), (sv, .inr (5, [.ref se, .ref pw, .ref g0, .ref ty, .ref an, .ref aw, .ref ts, .ref ss, .ref rq, .int tm, .int n3, .int n4])), (an, .inr (2, [.ref ar, .int (nI al)])), (ar, .inl ((cT 0), 72, .inl fa))] sz)) 0 0 (va_A [(ds, .inr (0, [.ref dr, .ref sv])), (sv, .inr (5, [.ref se, .ref pw, .ref g0, .ref ty, .ref an, .ref aw, .ref ts, .ref ss, .ref rq, .int tm, .int n3, .int n4])), (an, .inr (2, [.ref ar, .int (nI al)])), (ar, .inl ((cT 0), 72, .inl fa))] sz) := by
  refine Met.ofW (cc := b_DS_byteAt) (maxL := 2) (ret := (Option.some Jvm.ClassFile.FieldType.int)) (by decide) rfl ?_
  intro p e s m args below meth c s₁ B hml hv
  obtain ⟨hargs, hsz, hP, hK, hD0⟩ := hv
  have hx := B.exec
  have hb := B.bytes
  have hr := B.returns
  have hts := atoms_spec (ws := (Cond.code y_DS_byteAt b_DS_byteAt 2 (Option.some Jvm.ClassFile.FieldType.int) :: BIG)) B.pre
  have hg : ∀ w ∈ BIG, w.before _ s = true := fun w h => hts w (List.mem_cons_of_mem _ h)
  have hown : s.vm.findClass "DoorServer" = some m.cls := findClass_of_methodNamed B.named
  have hlocks := B.notSynchronized
  subst hsz
  have hD := hD0.self (sz := s.heap.size)
  generalize hAe : va_A [(ds, .inr (0, [.ref dr, .ref sv])), (sv, .inr (5, [.ref se, .ref pw, .ref g0, .ref ty, .ref an, .ref aw, .ref ts, .ref ss, .ref rq, .int tm, .int n3, .int n4])), (an, .inr (2, [.ref ar, .int (nI al)])), (ar, .inl ((cT 0), 72, .inl fa))] s.heap.size = A at hD ⊢
  have hA : ∀ q : Nat, s.heap.size ≤ q → A q := fun q h => by rw [← hAe]; exact Or.inr h
  have hS : va_S A s.heap s.heap [] := va_S.rf
  have hl := lv_entry ([.ref ds, .int (nI j)]) (n := 2) (Nat.le_of_ble_eq_true rfl)
  refine W.eq (g2 := entryFrame m (List.toArray [.ref ds, .int (nI j)]) 2) (by rw [hargs]) ?_
  rw [lg_entry_eq]
  generalize (lg_sl ([.ref ds, .int (nI j)]) ++ List.replicate (2 - (lg_sl ([.ref ds, .int (nI j)])).length) Slot.unset).toArray = ls at hl ⊢
  have hl : lv_has ls 2 [(0, .ref ds), (1, .int (nI j))] := hl
  change W p l e ({ frames := 1, cells := 0, slots := 0, locals := 22 } : Room) s m args below meth c s.heap [] 0 0 _ _
  have hP : va_P (dC, dI) vcl [(ds, .inr (0, [.ref dr, .ref sv])), (sv, .inr (5, [.ref se, .ref pw, .ref g0, .ref ty, .ref an, .ref aw, .ref ts, .ref ss, .ref rq, .int tm, .int n3, .int n4])), (an, .inr (2, [.ref ar, .int (nI al)])), (ar, .inl ((cT 0), 72, .inl fa))] s.heap := hP
  refine lv_iload_n hx hb d_DS_byteAt_0 rfl (lv_at hl 1 rfl) ?_
  refine lv_iconst (v := 0) hx hb d_DS_byteAt_1 (by decide) ?_
  refine lv_aload_n hx hb d_DS_byteAt_2 rfl (lv_at hl 0 rfl) ?_
  refine va_get (D := (dC, dI)) (ci := 0) (v := (.ref sv)) (C := R_DS) (T := F_DS) (N := 2) hx hb hg in_DS hown hK hP 0 rfl rfl 1 (by decide) (hg _ k_369) (fun _ h9 => h9) rfl d_DS_byteAt_3 ?_
  refine va_get (D := (dC, dI)) (ci := 5) (v := (.ref an)) (C := R_Sv) (T := F_Sv) (N := 12) hx hb hg in_Sv hown hK hP 1 rfl rfl 4 (by decide) (hg _ k_329) (fun _ h9 => h9) rfl d_DS_byteAt_6 ?_
  refine va_get (D := (dC, dI)) (ci := 2) (v := (.int (nI al))) (C := R_Pk) (T := F_Pk) (N := 2) hx hb hg in_Pk hown hK hP 2 rfl rfl 1 (by decide) (hg _ k_59) (fun x9 h9 => u_same (hg _ k_53) x9 h9) rfl d_DS_byteAt_9 ?_
  refine lv_iconst (v := 1) hx hb d_DS_byteAt_12 (by decide) ?_
  refine lv_isub hx hb d_DS_byteAt_13 ?_
  refine lv_topi (fun x11 e10 => ?_)
  obtain rfl : x11 = nI (al - 1) := by rw [e10]; exact pk_sub (b := 1) (by omega)
  have hPc := hP.sub (ws' := []) [] rfl
  have hDc := hD.sub (ws' := []) [] (by decide) rfl
  have hFc := va_free (wc := []) hD hS hA [] rfl
  refine va_callv (va_runS (As := [.int (nI j), .int 0, .int (nI (al - 1))]) (rest := []) ⟨hx, hb, hml, hown, hg⟩ (c_requireWithin l dC dI cT s.heap.size (nI j) 0 (nI (al - 1)) (nI_pos (by omega)) (nI_nlt (by omega) (by omega))) (va_cwS 3 hg (gI (List.forall_mem_append.mpr ⟨List.forall_mem_cons.mpr ⟨k_390, List.forall_mem_cons.mpr ⟨k_391, List.forall_mem_cons.mpr ⟨k_1, fun _ h => absurd h List.not_mem_nil⟩⟩⟩, List.forall_mem_cons.mpr ⟨k_392, fun _ h => h⟩⟩)) rfl rfl rfl (by decide +kernel) ⟨Nat.le_of_ble_eq_true rfl, Nat.le_of_ble_eq_true rfl⟩) ⟨fun a U g mk q => by obtain ⟨q0, q1, qP, qK, qD⟩ := q; exact ⟨q0, q1, qP, va_K.moved (u := U) (U := U.calling g mk a) (Vm.Alike.refl U.vm) qK, qD⟩, fun U hU hW => ⟨rfl, by rw [hU], by rw [hU]; exact hPc, va_K.moved hW.alike hK, hDc.weaken (fun _ _ _ _ => trivial)⟩⟩ rfl rfl hl.1 rfl (lv_room (Nat.le_of_ble_eq_true rfl)) d_DS_byteAt_14 ⟨Nat.le_of_ble_eq_true rfl, Nat.le_of_ble_eq_true rfl⟩) hS (fun q _ h => hFc q h) hFc (fun u t H1 locs ht hvm hw hB hz1 hk1 hS => ?_)
  try dsimp only at hw hB
  obtain ⟨hP1, hK1, hD1⟩ := hB
  rw [ht] at hP1
  obtain ⟨hP, hD⟩ := va_join (wr := [(ds, .inr (0, [.ref dr, .ref sv])), (sv, .inr (5, [.ref se, .ref pw, .ref g0, .ref ty, .ref an, .ref aw, .ref ts, .ref ss, .ref rq, .int tm, .int n3, .int n4])), (an, .inr (2, [.ref ar, .int (nI al)])), (ar, .inl ((cT 0), 72, .inl fa))]) (w1 := []) hP hD [] [0, 1, 2, 3] rfl rfl (by decide) (by decide) hk1 hFc hP1 hD1
  have hw12 := hw
  clear hPc hDc hFc hz1 hk1 hP1 hK1 hD1
  generalize H1 = H at hP hS ⊢
  have hP : va_P (dC, dI) vcl [(ds, .inr (0, [.ref dr, .ref sv])), (sv, .inr (5, [.ref se, .ref pw, .ref g0, .ref ty, .ref an, .ref aw, .ref ts, .ref ss, .ref rq, .int tm, .int n3, .int n4])), (an, .inr (2, [.ref ar, .int (nI al)])), (ar, .inl ((cT 0), 72, .inl fa))] H := hP
  have hD : va_D A [(ds, .inr (0, [.ref dr, .ref sv])), (sv, .inr (5, [.ref se, .ref pw, .ref g0, .ref ty, .ref an, .ref aw, .ref ts, .ref ss, .ref rq, .int tm, .int n3, .int n4])), (an, .inr (2, [.ref ar, .int (nI al)])), (ar, .inl ((cT 0), 72, .inl fa))] := hD
  refine lv_aload_n hx hb d_DS_byteAt_17 rfl (lv_at hl 0 rfl) ?_
  refine va_get (D := (dC, dI)) (ci := 0) (v := (.ref sv)) (C := R_DS) (T := F_DS) (N := 2) hx hb hg in_DS hown hK hP 0 rfl rfl 1 (by decide) (hg _ k_369) (fun _ h9 => h9) rfl d_DS_byteAt_18 ?_
  refine va_get (D := (dC, dI)) (ci := 5) (v := (.ref an)) (C := R_Sv) (T := F_Sv) (N := 12) hx hb hg in_Sv hown hK hP 1 rfl rfl 4 (by decide) (hg _ k_329) (fun _ h9 => h9) rfl d_DS_byteAt_21 ?_
  refine va_get (D := (dC, dI)) (ci := 2) (v := (.ref ar)) (C := R_Pk) (T := F_Pk) (N := 2) hx hb hg in_Pk hown hK hP 2 rfl rfl 0 (by decide) (hg _ k_49) (fun x9 h9 => u_same (hg _ k_41) x9 h9) rfl d_DS_byteAt_24 ?_
  refine lv_iload_n hx hb d_DS_byteAt_27 rfl (lv_at hl 1 rfl) ?_
  refine va_iald hx hb hK hP 3 0 rfl rfl (i := (nI j)) (vp_in_nI (show j < 72 by omega) (by decide)) d_DS_byteAt_28 ?_
  refine lv_topi (fun x14 e13 => ?_)
  obtain rfl : x14 = fa j := by rw [e13]; rw [nI_clamp (by omega)]
  have hP9 := hP.sub (ws' := [(ds, .inr (0, [.ref dr, .ref sv])), (sv, .inr (5, [.ref se, .ref pw, .ref g0, .ref ty, .ref an, .ref aw, .ref ts, .ref ss, .ref rq, .int tm, .int n3, .int n4])), (an, .inr (2, [.ref ar, .int (nI al)])), (ar, .inl ((cT 0), 72, .inl fa))]) [0, 1, 2, 3] rfl
  have hD9 := hD.sub (ws' := [(ds, .inr (0, [.ref dr, .ref sv])), (sv, .inr (5, [.ref se, .ref pw, .ref g0, .ref ty, .ref an, .ref aw, .ref ts, .ref ss, .ref rq, .int tm, .int n3, .int n4])), (an, .inr (2, [.ref ar, .int (nI al)])), (ar, .inl ((cT 0), 72, .inl fa))]) [0, 1, 2, 3] (by decide) rfl
  exact W.iret (v := fa j) hx hb hr (fun t ht hW => ⟨⟨_, (), rfl, ⟨rfl, trivial⟩, by rw [ht]; exact hP9, va_K.moved hW.alike hK, hD9⟩, hS.F ht⟩) hS.2.2 d_DS_byteAt_29
set_option maxHeartbeats 4000000 in
set_option maxRecDepth 100000 in
/-- ticks -/
theorem c_ticks (l : Launch) (dC : Nat → ClassId) (dI : Nat → Nat → Nat) (cT : Nat → ClassId) (sz : Nat) (ds : Nat) (dr : Nat) (sv : Nat) (rr : Nat) (g0 : Nat) (se : Nat) (pw : Nat) (ty : Nat) (an : Nat) (aw : Nat) (ts : Nat) (ss : Nat) (rq : Nat) (n3 : Int32) (n4 : Int32) (tk : Nat) (k : Nat) (hk1 : 1 ≤ k) (hk2 : k ≤ 1000) (htk : tk + k ≤ 1000000) : Met l y_DS_ticks (Cond.code y_DS_ticks b_DS_ticks 2 (Option.some Jvm.ClassFile.FieldType.int) :: BIG) ({ frames := 1, cells := 0, slots := 0, locals := 22 }) (va_Pc [.ref ds, .int (nI k)] (fun U => U.heap.size = sz ∧ va_P (dC, dI) vcl [(ds, .inr (0, [.ref dr, .ref sv])), (sv, .inr (5, [.ref se, .ref pw, .ref g0, .ref ty, .ref an, .ref aw, .ref ts, .ref ss, .ref rq, .int (nI tk), .int n3, .int n4]))] U.heap ∧ va_K (dC, dI) vcl (tyL cT) U ∧ va_D (fun _ => True) [(ds, .inr (0, [.ref dr, .ref sv])), (sv, .inr (5, [.ref se, .ref pw, .ref g0, .ref ty, .ref an, .ref aw, .ref ts, .ref ss, .ref rq, .int (nI tk), .int n3, .int n4]))])) (va_Qi (S := Unit) (fun rv9 u => rv9 = nI (tk + k) ∧ (True)) (fun u t => va_P (dC, dI) vcl [(ds, .inr (0, [.ref dr, .ref sv])), (sv, .inr (5, [.ref se, .ref pw, .ref g0, .ref ty, .ref an, .ref aw, .ref ts, .ref ss, .ref rq, .int (nI (tk + k)), .int n3, .int n4]))] t.heap ∧ va_K (dC, dI) vcl (tyL cT) t ∧ va_D (va_A [(ds, .inr (0, [.ref dr, .ref sv])), (sv, .inr (5, [.ref se, .ref pw, .ref g0, .ref ty, .ref an, .ref aw, .ref ts, .ref ss, .ref rq, .int (nI tk), .int n3, .int n4]))] sz) [(ds, .inr (0, [.ref dr, .ref sv])), (sv, .inr (5, [.ref se, .ref pw, .ref g0, .ref ty, .ref an, .ref aw, .ref ts, .ref ss, .ref rq, .int (nI (tk + k)), .int n3, .int n4]))]) (va_A [(ds, .inr (0, [.ref dr, .ref sv])), (sv, .inr (5, [.ref se, .ref pw, .ref g0, .ref ty, .ref an, .ref aw, .ref ts, .ref ss, .ref rq, .int (nI tk), .int n3, .int n4]))] sz)) 0 0 (va_A [(ds, .inr (0, [.ref dr, .ref sv])), (sv, .inr (5, [.ref se, .ref pw, .ref g0, .ref ty, .ref an, .ref aw, .ref ts, .ref ss, .ref rq, .int (nI tk), .int n3, .int n4]))] sz) := by
  refine Met.ofW (cc := b_DS_ticks) (maxL := 2) (ret := (Option.some Jvm.ClassFile.FieldType.int)) (by decide) rfl ?_
  intro p e s m args below meth c s₁ B hml hv
  obtain ⟨hargs, hsz, hP, hK, hD0⟩ := hv
  have hx := B.exec
  have hb := B.bytes
  have hr := B.returns
  have hts := atoms_spec (ws := (Cond.code y_DS_ticks b_DS_ticks 2 (Option.some Jvm.ClassFile.FieldType.int) :: BIG)) B.pre
  have hg : ∀ w ∈ BIG, w.before _ s = true := fun w h => hts w (List.mem_cons_of_mem _ h)
  have hown : s.vm.findClass "DoorServer" = some m.cls := findClass_of_methodNamed B.named
  have hlocks := B.notSynchronized
  subst hsz
  have hD := hD0.self (sz := s.heap.size)
  generalize hAe : va_A [(ds, .inr (0, [.ref dr, .ref sv])), (sv, .inr (5, [.ref se, .ref pw, .ref g0, .ref ty, .ref an, .ref aw, .ref ts, .ref ss, .ref rq, .int (nI tk), .int n3, .int n4]))] s.heap.size = A at hD ⊢
  have hA : ∀ q : Nat, s.heap.size ≤ q → A q := fun q h => by rw [← hAe]; exact Or.inr h
  have hS : va_S A s.heap s.heap [] := va_S.rf
  have hl := lv_entry ([.ref ds, .int (nI k)]) (n := 2) (Nat.le_of_ble_eq_true rfl)
  refine W.eq (g2 := entryFrame m (List.toArray [.ref ds, .int (nI k)]) 2) (by rw [hargs]) ?_
  rw [lg_entry_eq]
  generalize (lg_sl ([.ref ds, .int (nI k)]) ++ List.replicate (2 - (lg_sl ([.ref ds, .int (nI k)])).length) Slot.unset).toArray = ls at hl ⊢
  have hl : lv_has ls 2 [(0, .ref ds), (1, .int (nI k))] := hl
  change W p l e ({ frames := 1, cells := 0, slots := 0, locals := 22 } : Room) s m args below meth c s.heap [] 0 0 _ _
  have hP : va_P (dC, dI) vcl [(ds, .inr (0, [.ref dr, .ref sv])), (sv, .inr (5, [.ref se, .ref pw, .ref g0, .ref ty, .ref an, .ref aw, .ref ts, .ref ss, .ref rq, .int (nI tk), .int n3, .int n4]))] s.heap := hP
  refine lv_iload_n hx hb d_DS_ticks_0 rfl (lv_at hl 1 rfl) ?_
  refine lv_iconst (v := 1) hx hb d_DS_ticks_1 (by decide) ?_
  refine lv_sipush (v := 1000) hx hb d_DS_ticks_2 (by decide) ?_
  have hPc := hP.sub (ws' := []) [] rfl
  have hDc := hD.sub (ws' := []) [] (by decide) rfl
  have hFc := va_free (wc := []) hD hS hA [] rfl
  refine va_callv (va_runS (As := [.int (nI k), .int 1, .int 1000]) (rest := []) ⟨hx, hb, hml, hown, hg⟩ (c_requireWithin l dC dI cT s.heap.size (nI k) 1 1000 (nI_nlt (b := 1) hk1 (by omega)) (nI_nlt (a := 1000) hk2 (by decide))) (va_cwS 3 hg (gI (List.forall_mem_append.mpr ⟨List.forall_mem_cons.mpr ⟨k_390, List.forall_mem_cons.mpr ⟨k_391, List.forall_mem_cons.mpr ⟨k_1, fun _ h => absurd h List.not_mem_nil⟩⟩⟩, List.forall_mem_cons.mpr ⟨k_392, fun _ h => h⟩⟩)) rfl rfl rfl (by decide +kernel) ⟨Nat.le_of_ble_eq_true rfl, Nat.le_of_ble_eq_true rfl⟩) ⟨fun a U g mk q => by obtain ⟨q0, q1, qP, qK, qD⟩ := q; exact ⟨q0, q1, qP, va_K.moved (u := U) (U := U.calling g mk a) (Vm.Alike.refl U.vm) qK, qD⟩, fun U hU hW => ⟨rfl, by rw [hU], by rw [hU]; exact hPc, va_K.moved hW.alike hK, hDc.weaken (fun _ _ _ _ => trivial)⟩⟩ rfl rfl hl.1 rfl (lv_room (Nat.le_of_ble_eq_true rfl)) d_DS_ticks_5 ⟨Nat.le_of_ble_eq_true rfl, Nat.le_of_ble_eq_true rfl⟩) hS (fun q _ h => hFc q h) hFc (fun u t H1 locs ht hvm hw hB hz1 hk1 hS => ?_)
  try dsimp only at hw hB
  obtain ⟨hP1, hK1, hD1⟩ := hB
  rw [ht] at hP1
  obtain ⟨hP, hD⟩ := va_join (wr := [(ds, .inr (0, [.ref dr, .ref sv])), (sv, .inr (5, [.ref se, .ref pw, .ref g0, .ref ty, .ref an, .ref aw, .ref ts, .ref ss, .ref rq, .int (nI tk), .int n3, .int n4]))]) (w1 := []) hP hD [] [0, 1] rfl rfl (by decide) (by decide) hk1 hFc hP1 hD1
  have hw15 := hw
  clear hPc hDc hFc hz1 hk1 hP1 hK1 hD1
  generalize H1 = H at hP hS ⊢
  have hP : va_P (dC, dI) vcl [(ds, .inr (0, [.ref dr, .ref sv])), (sv, .inr (5, [.ref se, .ref pw, .ref g0, .ref ty, .ref an, .ref aw, .ref ts, .ref ss, .ref rq, .int (nI tk), .int n3, .int n4]))] H := hP
  have hD : va_D A [(ds, .inr (0, [.ref dr, .ref sv])), (sv, .inr (5, [.ref se, .ref pw, .ref g0, .ref ty, .ref an, .ref aw, .ref ts, .ref ss, .ref rq, .int (nI tk), .int n3, .int n4]))] := hD
  refine lv_aload_n hx hb d_DS_ticks_8 rfl (lv_at hl 0 rfl) ?_
  refine va_get (D := (dC, dI)) (ci := 0) (v := (.ref sv)) (C := R_DS) (T := F_DS) (N := 2) hx hb hg in_DS hown hK hP 0 rfl rfl 1 (by decide) (hg _ k_369) (fun _ h9 => h9) rfl d_DS_ticks_9 ?_
  refine va_get (D := (dC, dI)) (ci := 5) (v := (.int (nI tk))) (C := R_Sv) (T := F_Sv) (N := 12) hx hb hg in_Sv hown hK hP 1 rfl rfl 9 (by decide) (hg _ k_338) (fun _ h9 => h9) rfl d_DS_ticks_12 ?_
  refine lv_iload_n hx hb d_DS_ticks_15 rfl (lv_at hl 1 rfl) ?_
  refine lv_iadd hx hb d_DS_ticks_16 ?_
  refine lv_topi (fun x17 e16 => ?_)
  obtain rfl : x17 = nI (tk + k) := by rw [e16]; exact nI_add tk k
  refine lv_iconst (v := 0) hx hb d_DS_ticks_17 (by decide) ?_
  refine lv_ldc (v := 1000000) hx hb hown (hg _ k_926) d_DS_ticks_18 ?_
  have hPc := hP.sub (ws' := []) [] rfl
  have hDc := hD.sub (ws' := []) [] (by decide) rfl
  have hFc := va_free (wc := []) hD hS hA [] rfl
  refine va_callv (va_runS (As := [.int (nI (tk + k)), .int 0, .int 1000000]) (rest := []) ⟨hx, hb, hml, hown, hg⟩ (c_requireWithin l dC dI cT H.size (nI (tk + k)) 0 1000000 (nI_pos (by omega)) (nI_nlt (a := 1000000) htk (by decide))) (va_cwS 3 hg (gI (List.forall_mem_append.mpr ⟨List.forall_mem_cons.mpr ⟨k_390, List.forall_mem_cons.mpr ⟨k_391, List.forall_mem_cons.mpr ⟨k_1, fun _ h => absurd h List.not_mem_nil⟩⟩⟩, List.forall_mem_cons.mpr ⟨k_392, fun _ h => h⟩⟩)) rfl rfl rfl (by decide +kernel) ⟨Nat.le_of_ble_eq_true rfl, Nat.le_of_ble_eq_true rfl⟩) ⟨fun a U g mk q => by obtain ⟨q0, q1, qP, qK, qD⟩ := q; exact ⟨q0, q1, qP, va_K.moved (u := U) (U := U.calling g mk a) (Vm.Alike.refl U.vm) qK, qD⟩, fun U hU hW => ⟨rfl, by rw [hU], by rw [hU]; exact hPc, va_K.moved hW.alike hK, hDc.weaken (fun _ _ _ _ => trivial)⟩⟩ rfl rfl hl.1 rfl (lv_room (Nat.le_of_ble_eq_true rfl)) d_DS_ticks_20 ⟨Nat.le_of_ble_eq_true rfl, Nat.le_of_ble_eq_true rfl⟩) hS (fun q _ h => hFc q h) hFc (fun u t H1 locs ht hvm hw hB hz1 hk1 hS => ?_)
  try dsimp only at hw hB
  obtain ⟨hP1, hK1, hD1⟩ := hB
  rw [ht] at hP1
  obtain ⟨hP, hD⟩ := va_join (wr := [(ds, .inr (0, [.ref dr, .ref sv])), (sv, .inr (5, [.ref se, .ref pw, .ref g0, .ref ty, .ref an, .ref aw, .ref ts, .ref ss, .ref rq, .int (nI tk), .int n3, .int n4]))]) (w1 := []) hP hD [] [0, 1] rfl rfl (by decide) (by decide) hk1 hFc hP1 hD1
  have hw18 := hw
  clear hPc hDc hFc hz1 hk1 hP1 hK1 hD1
  generalize H1 = H at hP hS ⊢
  have hP : va_P (dC, dI) vcl [(ds, .inr (0, [.ref dr, .ref sv])), (sv, .inr (5, [.ref se, .ref pw, .ref g0, .ref ty, .ref an, .ref aw, .ref ts, .ref ss, .ref rq, .int (nI tk), .int n3, .int n4]))] H := hP
  have hD : va_D A [(ds, .inr (0, [.ref dr, .ref sv])), (sv, .inr (5, [.ref se, .ref pw, .ref g0, .ref ty, .ref an, .ref aw, .ref ts, .ref ss, .ref rq, .int (nI tk), .int n3, .int n4]))] := hD
  refine lv_aload_n hx hb d_DS_ticks_23 rfl (lv_at hl 0 rfl) ?_
  refine va_get (D := (dC, dI)) (ci := 0) (v := (.ref sv)) (C := R_DS) (T := F_DS) (N := 2) hx hb hg in_DS hown hK hP 0 rfl rfl 1 (by decide) (hg _ k_369) (fun _ h9 => h9) rfl d_DS_ticks_24 ?_
  refine lv_dup hx hb d_DS_ticks_27 rfl ?_
  refine va_get (D := (dC, dI)) (ci := 5) (v := (.int (nI tk))) (C := R_Sv) (T := F_Sv) (N := 12) hx hb hg in_Sv hown hK hP 1 rfl rfl 9 (by decide) (hg _ k_338) (fun _ h9 => h9) rfl d_DS_ticks_28 ?_
  refine lv_iload_n hx hb d_DS_ticks_31 rfl (lv_at hl 1 rfl) ?_
  refine lv_iadd hx hb d_DS_ticks_32 ?_
  refine lv_topi (fun x20 e19 => ?_)
  obtain rfl : x20 = nI (tk + k) := by rw [e19]; exact nI_add tk k
  refine va_put (D := (dC, dI)) (ci := 5) (v := (.int (nI (tk + k)))) (ty := .int) (C := R_Sv) (T := F_Sv) (N := 12) hx hb hg in_Sv t_Sv tok_Sv nm_Sv hown hK hP hD hS 1 rfl rfl 9 (by decide) (hg _ k_338) (fun _ h9 => h9) rfl (by decide +kernel) rfl rfl (Nat.le_of_ble_eq_true rfl) d_DS_ticks_33 (fun H locs hP hD hS => ?_)
  have hP : va_P (dC, dI) vcl [(ds, .inr (0, [.ref dr, .ref sv])), (sv, .inr (5, [.ref se, .ref pw, .ref g0, .ref ty, .ref an, .ref aw, .ref ts, .ref ss, .ref rq, .int (nI (tk + k)), .int n3, .int n4]))] H := hP
  have hD : va_D A [(ds, .inr (0, [.ref dr, .ref sv])), (sv, .inr (5, [.ref se, .ref pw, .ref g0, .ref ty, .ref an, .ref aw, .ref ts, .ref ss, .ref rq, .int (nI (tk + k)), .int n3, .int n4]))] := hD
  refine lv_aload_n hx hb d_DS_ticks_36 rfl (lv_at hl 0 rfl) ?_
  refine va_get (D := (dC, dI)) (ci := 0) (v := (.ref sv)) (C := R_DS) (T := F_DS) (N := 2) hx hb hg in_DS hown hK hP 0 rfl rfl 1 (by decide) (hg _ k_369) (fun _ h9 => h9) rfl d_DS_ticks_37 ?_
  refine va_get (D := (dC, dI)) (ci := 5) (v := (.int (nI (tk + k)))) (C := R_Sv) (T := F_Sv) (N := 12) hx hb hg in_Sv hown hK hP 1 rfl rfl 9 (by decide) (hg _ k_338) (fun _ h9 => h9) rfl d_DS_ticks_40 ?_
  have hP9 := hP.sub (ws' := [(ds, .inr (0, [.ref dr, .ref sv])), (sv, .inr (5, [.ref se, .ref pw, .ref g0, .ref ty, .ref an, .ref aw, .ref ts, .ref ss, .ref rq, .int (nI (tk + k)), .int n3, .int n4]))]) [0, 1] rfl
  have hD9 := hD.sub (ws' := [(ds, .inr (0, [.ref dr, .ref sv])), (sv, .inr (5, [.ref se, .ref pw, .ref g0, .ref ty, .ref an, .ref aw, .ref ts, .ref ss, .ref rq, .int (nI (tk + k)), .int n3, .int n4]))]) [0, 1] (by decide) rfl
  exact W.iret (v := nI (tk + k)) hx hb hr (fun t ht hW => ⟨⟨_, (), rfl, ⟨rfl, trivial⟩, by rw [ht]; exact hP9, va_K.moved hW.alike hK, hD9⟩, hS.F ht⟩) hS.2.2 d_DS_ticks_43
set_option maxHeartbeats 4000000 in
set_option maxRecDepth 100000 in
/-- count(0) -/
theorem c_count0 (l : Launch) (dC : Nat → ClassId) (dI : Nat → Nat → Nat) (cT : Nat → ClassId) (sz : Nat) (ds : Nat) (dr : Nat) (sv : Nat) (rr : Nat) (g0 : Nat) (se : Nat) (pw : Nat) (ty : Nat) (an : Nat) (aw : Nat) (ts : Nat) (ss : Nat) (rq : Nat) (tm : Int32) (n3 : Int32) (n4 : Int32) (len : Nat) (f : Nat → Int32) (a1 : Nat) (a2 : Int32) (a3 : Int32) (t1 : Nat) (t2 : Int64) (t3 : Int64) (t4 : Int32) (s1 : Nat) (s2 : Int32)  : Met l y_DS_count (Cond.code y_DS_count b_DS_count 2 (Option.some Jvm.ClassFile.FieldType.int) :: BIG) ({ frames := 0, cells := 0, slots := 0, locals := 0 }) (va_Pc [.ref ds, .int 0] (fun U => U.heap.size = sz ∧ va_P (dC, dI) vcl [(ds, .inr (0, [.ref dr, .ref sv])), (dr, .inr (2, [.ref rr, .int (nI len)])), (rr, .inl ((cT 0), 1000, .inl f)), (sv, .inr (5, [.ref se, .ref pw, .ref g0, .ref ty, .ref an, .ref aw, .ref ts, .ref ss, .ref rq, .int tm, .int n3, .int n4])), (aw, .inr (6, [.ref a1, .int a2, .int a3])), (ts, .inr (9, [.ref t1, .long t2, .long t3, .int t4])), (ss, .inr (11, [.ref s1, .int s2]))] U.heap ∧ va_K (dC, dI) vcl (tyL cT) U ∧ va_D (fun _ => True) [(ds, .inr (0, [.ref dr, .ref sv])), (dr, .inr (2, [.ref rr, .int (nI len)])), (rr, .inl ((cT 0), 1000, .inl f)), (sv, .inr (5, [.ref se, .ref pw, .ref g0, .ref ty, .ref an, .ref aw, .ref ts, .ref ss, .ref rq, .int tm, .int n3, .int n4])), (aw, .inr (6, [.ref a1, .int a2, .int a3])), (ts, .inr (9, [.ref t1, .long t2, .long t3, .int t4])), (ss, .inr (11, [.ref s1, .int s2]))])) (va_Qi (S := Unit) (fun rv9 u => rv9 = a3 ∧ (True)) (fun u t => va_P (dC, dI) vcl [(ds, .inr (0, [.ref dr, .ref sv])), (dr, .inr (2, [.ref rr, .int (nI len)])), (rr, .inl ((cT 0), 1000, .inl f)), (sv, .inr (5, [.ref se, .ref pw, .ref g0, .ref ty, .ref an, .ref aw, .ref ts, .ref ss, .ref rq, .int tm, .int n3, .int n4])), (aw, .inr (6, [.ref a1, .int a2, .int a3])), (ts, .inr (9, [.ref t1, .long t2, .long t3, .int t4])), (ss, .inr (11, [.ref s1, .int s2]))] t.heap ∧ va_K (dC, dI) vcl (tyL cT) t ∧ va_D (va_A [(ds, .inr (0, [.ref dr, .ref sv])), (dr, .inr (2, [.ref rr, .int (nI len)])), (rr, .inl ((cT 0), 1000, .inl f)), (sv, .inr (5, [.ref se, .ref pw, .ref g0, .ref ty, .ref an, .ref aw, .ref ts, .ref ss, .ref rq, .int tm, .int n3, .int n4])), (aw, .inr (6, [.ref a1, .int a2, .int a3])), (ts, .inr (9, [.ref t1, .long t2, .long t3, .int t4])), (ss, .inr (11, [.ref s1, .int s2]))] sz) [(ds, .inr (0, [.ref dr, .ref sv])), (dr, .inr (2, [.ref rr, .int (nI len)])), (rr, .inl ((cT 0), 1000, .inl f)), (sv, .inr (5, [.ref se, .ref pw, .ref g0, .ref ty, .ref an, .ref aw, .ref ts, .ref ss, .ref rq, .int tm, .int n3, .int n4])), (aw, .inr (6, [.ref a1, .int a2, .int a3])), (ts, .inr (9, [.ref t1, .long t2, .long t3, .int t4])), (ss, .inr (11, [.ref s1, .int s2]))]) (va_A [(ds, .inr (0, [.ref dr, .ref sv])), (dr, .inr (2, [.ref rr, .int (nI len)])), (rr, .inl ((cT 0), 1000, .inl f)), (sv, .inr (5, [.ref se, .ref pw, .ref g0, .ref ty, .ref an, .ref aw, .ref ts, .ref ss, .ref rq, .int tm, .int n3, .int n4])), (aw, .inr (6, [.ref a1, .int a2, .int a3])), (ts, .inr (9, [.ref t1, .long t2, .long t3, .int t4])), (ss, .inr (11, [.ref s1, .int s2]))] sz)) 0 0 (va_A [(ds, .inr (0, [.ref dr, .ref sv])), (dr, .inr (2, [.ref rr, .int (nI len)])), (rr, .inl ((cT 0), 1000, .inl f)), (sv, .inr (5, [.ref se, .ref pw, .ref g0, .ref ty, .ref an, .ref aw, .ref ts, .ref ss, .ref rq, .int tm, .int n3, .int n4])), (aw, .inr (6, [.ref a1, .int a2, .int a3])), (ts, .inr (9, [.ref t1, .long t2, .long t3, .int t4])), (ss, .inr (11, [.ref s1, .int s2]))] sz) := by
  refine Met.ofW (cc := b_DS_count) (maxL := 2) (ret := (Option.some Jvm.ClassFile.FieldType.int)) (by decide) rfl ?_
  intro p e s m args below meth c s₁ B hml hv
  obtain ⟨hargs, hsz, hP, hK, hD0⟩ := hv
  have hx := B.exec
  have hb := B.bytes
  have hr := B.returns
  have hts := atoms_spec (ws := (Cond.code y_DS_count b_DS_count 2 (Option.some Jvm.ClassFile.FieldType.int) :: BIG)) B.pre
  have hg : ∀ w ∈ BIG, w.before _ s = true := fun w h => hts w (List.mem_cons_of_mem _ h)
  have hown : s.vm.findClass "DoorServer" = some m.cls := findClass_of_methodNamed B.named
  have hlocks := B.notSynchronized
  subst hsz
  have hD := hD0.self (sz := s.heap.size)
  generalize hAe : va_A [(ds, .inr (0, [.ref dr, .ref sv])), (dr, .inr (2, [.ref rr, .int (nI len)])), (rr, .inl ((cT 0), 1000, .inl f)), (sv, .inr (5, [.ref se, .ref pw, .ref g0, .ref ty, .ref an, .ref aw, .ref ts, .ref ss, .ref rq, .int tm, .int n3, .int n4])), (aw, .inr (6, [.ref a1, .int a2, .int a3])), (ts, .inr (9, [.ref t1, .long t2, .long t3, .int t4])), (ss, .inr (11, [.ref s1, .int s2]))] s.heap.size = A at hD ⊢
  have hA : ∀ q : Nat, s.heap.size ≤ q → A q := fun q h => by rw [← hAe]; exact Or.inr h
  have hS : va_S A s.heap s.heap [] := va_S.rf
  have hl := lv_entry ([.ref ds, .int 0]) (n := 2) (Nat.le_of_ble_eq_true rfl)
  refine W.eq (g2 := entryFrame m (List.toArray [.ref ds, .int 0]) 2) (by rw [hargs]) ?_
  rw [lg_entry_eq]
  generalize (lg_sl ([.ref ds, .int 0]) ++ List.replicate (2 - (lg_sl ([.ref ds, .int 0])).length) Slot.unset).toArray = ls at hl ⊢
  have hl : lv_has ls 2 [(0, .ref ds), (1, .int 0)] := hl
  change W p l e ({ frames := 0, cells := 0, slots := 0, locals := 0 } : Room) s m args below meth c s.heap [] 0 0 _ _
  have hP : va_P (dC, dI) vcl [(ds, .inr (0, [.ref dr, .ref sv])), (dr, .inr (2, [.ref rr, .int (nI len)])), (rr, .inl ((cT 0), 1000, .inl f)), (sv, .inr (5, [.ref se, .ref pw, .ref g0, .ref ty, .ref an, .ref aw, .ref ts, .ref ss, .ref rq, .int tm, .int n3, .int n4])), (aw, .inr (6, [.ref a1, .int a2, .int a3])), (ts, .inr (9, [.ref t1, .long t2, .long t3, .int t4])), (ss, .inr (11, [.ref s1, .int s2]))] s.heap := hP
  refine lv_iload_n hx hb d_DS_count_0 rfl (lv_at hl 1 rfl) ?_
  refine lv_tableIn (tgt := 40) (off := 39) hx hb d_DS_count_1 (by decide) (by decide) (by decide) (by decide) ?_
  refine lv_aload_n hx hb d_DS_count_40 rfl (lv_at hl 0 rfl) ?_
  refine va_get (D := (dC, dI)) (ci := 0) (v := (.ref sv)) (C := R_DS) (T := F_DS) (N := 2) hx hb hg in_DS hown hK hP 0 rfl rfl 1 (by decide) (hg _ k_369) (fun _ h9 => h9) rfl d_DS_count_41 ?_
  refine va_get (D := (dC, dI)) (ci := 5) (v := (.ref aw)) (C := R_Sv) (T := F_Sv) (N := 12) hx hb hg in_Sv hown hK hP 3 rfl rfl 5 (by decide) (hg _ k_331) (fun _ h9 => h9) rfl d_DS_count_44 ?_
  refine va_get (D := (dC, dI)) (ci := 6) (v := (.int a3)) (C := R_An) (T := F_An) (N := 3) hx hb hg in_An hown hK hP 4 rfl rfl 2 (by decide) (hg _ k_183) (fun _ h9 => h9) rfl d_DS_count_47 ?_
  have hP9 := hP.sub (ws' := [(ds, .inr (0, [.ref dr, .ref sv])), (dr, .inr (2, [.ref rr, .int (nI len)])), (rr, .inl ((cT 0), 1000, .inl f)), (sv, .inr (5, [.ref se, .ref pw, .ref g0, .ref ty, .ref an, .ref aw, .ref ts, .ref ss, .ref rq, .int tm, .int n3, .int n4])), (aw, .inr (6, [.ref a1, .int a2, .int a3])), (ts, .inr (9, [.ref t1, .long t2, .long t3, .int t4])), (ss, .inr (11, [.ref s1, .int s2]))]) [0, 1, 2, 3, 4, 5, 6] rfl
  have hD9 := hD.sub (ws' := [(ds, .inr (0, [.ref dr, .ref sv])), (dr, .inr (2, [.ref rr, .int (nI len)])), (rr, .inl ((cT 0), 1000, .inl f)), (sv, .inr (5, [.ref se, .ref pw, .ref g0, .ref ty, .ref an, .ref aw, .ref ts, .ref ss, .ref rq, .int tm, .int n3, .int n4])), (aw, .inr (6, [.ref a1, .int a2, .int a3])), (ts, .inr (9, [.ref t1, .long t2, .long t3, .int t4])), (ss, .inr (11, [.ref s1, .int s2]))]) [0, 1, 2, 3, 4, 5, 6] (by decide) rfl
  exact W.iret (v := a3) hx hb hr (fun t ht hW => ⟨⟨_, (), rfl, ⟨rfl, trivial⟩, by rw [ht]; exact hP9, va_K.moved hW.alike hK, hD9⟩, hS.F ht⟩) hS.2.2 d_DS_count_50
set_option maxHeartbeats 4000000 in
set_option maxRecDepth 100000 in
/-- count(1) -/
theorem c_count1 (l : Launch) (dC : Nat → ClassId) (dI : Nat → Nat → Nat) (cT : Nat → ClassId) (sz : Nat) (ds : Nat) (dr : Nat) (sv : Nat) (rr : Nat) (g0 : Nat) (se : Nat) (pw : Nat) (ty : Nat) (an : Nat) (aw : Nat) (ts : Nat) (ss : Nat) (rq : Nat) (tm : Int32) (n3 : Int32) (n4 : Int32) (len : Nat) (f : Nat → Int32) (a1 : Nat) (a2 : Int32) (a3 : Int32) (t1 : Nat) (t2 : Int64) (t3 : Int64) (t4 : Int32) (s1 : Nat) (s2 : Int32)  : Met l y_DS_count (Cond.code y_DS_count b_DS_count 2 (Option.some Jvm.ClassFile.FieldType.int) :: BIG) ({ frames := 0, cells := 0, slots := 0, locals := 0 }) (va_Pc [.ref ds, .int 1] (fun U => U.heap.size = sz ∧ va_P (dC, dI) vcl [(ds, .inr (0, [.ref dr, .ref sv])), (dr, .inr (2, [.ref rr, .int (nI len)])), (rr, .inl ((cT 0), 1000, .inl f)), (sv, .inr (5, [.ref se, .ref pw, .ref g0, .ref ty, .ref an, .ref aw, .ref ts, .ref ss, .ref rq, .int tm, .int n3, .int n4])), (aw, .inr (6, [.ref a1, .int a2, .int a3])), (ts, .inr (9, [.ref t1, .long t2, .long t3, .int t4])), (ss, .inr (11, [.ref s1, .int s2]))] U.heap ∧ va_K (dC, dI) vcl (tyL cT) U ∧ va_D (fun _ => True) [(ds, .inr (0, [.ref dr, .ref sv])), (dr, .inr (2, [.ref rr, .int (nI len)])), (rr, .inl ((cT 0), 1000, .inl f)), (sv, .inr (5, [.ref se, .ref pw, .ref g0, .ref ty, .ref an, .ref aw, .ref ts, .ref ss, .ref rq, .int tm, .int n3, .int n4])), (aw, .inr (6, [.ref a1, .int a2, .int a3])), (ts, .inr (9, [.ref t1, .long t2, .long t3, .int t4])), (ss, .inr (11, [.ref s1, .int s2]))])) (va_Qi (S := Unit) (fun rv9 u => rv9 = t4 ∧ (True)) (fun u t => va_P (dC, dI) vcl [(ds, .inr (0, [.ref dr, .ref sv])), (dr, .inr (2, [.ref rr, .int (nI len)])), (rr, .inl ((cT 0), 1000, .inl f)), (sv, .inr (5, [.ref se, .ref pw, .ref g0, .ref ty, .ref an, .ref aw, .ref ts, .ref ss, .ref rq, .int tm, .int n3, .int n4])), (aw, .inr (6, [.ref a1, .int a2, .int a3])), (ts, .inr (9, [.ref t1, .long t2, .long t3, .int t4])), (ss, .inr (11, [.ref s1, .int s2]))] t.heap ∧ va_K (dC, dI) vcl (tyL cT) t ∧ va_D (va_A [(ds, .inr (0, [.ref dr, .ref sv])), (dr, .inr (2, [.ref rr, .int (nI len)])), (rr, .inl ((cT 0), 1000, .inl f)), (sv, .inr (5, [.ref se, .ref pw, .ref g0, .ref ty, .ref an, .ref aw, .ref ts, .ref ss, .ref rq, .int tm, .int n3, .int n4])), (aw, .inr (6, [.ref a1, .int a2, .int a3])), (ts, .inr (9, [.ref t1, .long t2, .long t3, .int t4])), (ss, .inr (11, [.ref s1, .int s2]))] sz) [(ds, .inr (0, [.ref dr, .ref sv])), (dr, .inr (2, [.ref rr, .int (nI len)])), (rr, .inl ((cT 0), 1000, .inl f)), (sv, .inr (5, [.ref se, .ref pw, .ref g0, .ref ty, .ref an, .ref aw, .ref ts, .ref ss, .ref rq, .int tm, .int n3, .int n4])), (aw, .inr (6, [.ref a1, .int a2, .int a3])), (ts, .inr (9, [.ref t1, .long t2, .long t3, .int t4])), (ss, .inr (11, [.ref s1, .int s2]))]) (va_A [(ds, .inr (0, [.ref dr, .ref sv])), (dr, .inr (2, [.ref rr, .int (nI len)])), (rr, .inl ((cT 0), 1000, .inl f)), (sv, .inr (5, [.ref se, .ref pw, .ref g0, .ref ty, .ref an, .ref aw, .ref ts, .ref ss, .ref rq, .int tm, .int n3, .int n4])), (aw, .inr (6, [.ref a1, .int a2, .int a3])), (ts, .inr (9, [.ref t1, .long t2, .long t3, .int t4])), (ss, .inr (11, [.ref s1, .int s2]))] sz)) 0 0 (va_A [(ds, .inr (0, [.ref dr, .ref sv])), (dr, .inr (2, [.ref rr, .int (nI len)])), (rr, .inl ((cT 0), 1000, .inl f)), (sv, .inr (5, [.ref se, .ref pw, .ref g0, .ref ty, .ref an, .ref aw, .ref ts, .ref ss, .ref rq, .int tm, .int n3, .int n4])), (aw, .inr (6, [.ref a1, .int a2, .int a3])), (ts, .inr (9, [.ref t1, .long t2, .long t3, .int t4])), (ss, .inr (11, [.ref s1, .int s2]))] sz) := by
  refine Met.ofW (cc := b_DS_count) (maxL := 2) (ret := (Option.some Jvm.ClassFile.FieldType.int)) (by decide) rfl ?_
  intro p e s m args below meth c s₁ B hml hv
  obtain ⟨hargs, hsz, hP, hK, hD0⟩ := hv
  have hx := B.exec
  have hb := B.bytes
  have hr := B.returns
  have hts := atoms_spec (ws := (Cond.code y_DS_count b_DS_count 2 (Option.some Jvm.ClassFile.FieldType.int) :: BIG)) B.pre
  have hg : ∀ w ∈ BIG, w.before _ s = true := fun w h => hts w (List.mem_cons_of_mem _ h)
  have hown : s.vm.findClass "DoorServer" = some m.cls := findClass_of_methodNamed B.named
  have hlocks := B.notSynchronized
  subst hsz
  have hD := hD0.self (sz := s.heap.size)
  generalize hAe : va_A [(ds, .inr (0, [.ref dr, .ref sv])), (dr, .inr (2, [.ref rr, .int (nI len)])), (rr, .inl ((cT 0), 1000, .inl f)), (sv, .inr (5, [.ref se, .ref pw, .ref g0, .ref ty, .ref an, .ref aw, .ref ts, .ref ss, .ref rq, .int tm, .int n3, .int n4])), (aw, .inr (6, [.ref a1, .int a2, .int a3])), (ts, .inr (9, [.ref t1, .long t2, .long t3, .int t4])), (ss, .inr (11, [.ref s1, .int s2]))] s.heap.size = A at hD ⊢
  have hA : ∀ q : Nat, s.heap.size ≤ q → A q := fun q h => by rw [← hAe]; exact Or.inr h
  have hS : va_S A s.heap s.heap [] := va_S.rf
  have hl := lv_entry ([.ref ds, .int 1]) (n := 2) (Nat.le_of_ble_eq_true rfl)
  refine W.eq (g2 := entryFrame m (List.toArray [.ref ds, .int 1]) 2) (by rw [hargs]) ?_
  rw [lg_entry_eq]
  generalize (lg_sl ([.ref ds, .int 1]) ++ List.replicate (2 - (lg_sl ([.ref ds, .int 1])).length) Slot.unset).toArray = ls at hl ⊢
  have hl : lv_has ls 2 [(0, .ref ds), (1, .int 1)] := hl
  change W p l e ({ frames := 0, cells := 0, slots := 0, locals := 0 } : Room) s m args below meth c s.heap [] 0 0 _ _
  have hP : va_P (dC, dI) vcl [(ds, .inr (0, [.ref dr, .ref sv])), (dr, .inr (2, [.ref rr, .int (nI len)])), (rr, .inl ((cT 0), 1000, .inl f)), (sv, .inr (5, [.ref se, .ref pw, .ref g0, .ref ty, .ref an, .ref aw, .ref ts, .ref ss, .ref rq, .int tm, .int n3, .int n4])), (aw, .inr (6, [.ref a1, .int a2, .int a3])), (ts, .inr (9, [.ref t1, .long t2, .long t3, .int t4])), (ss, .inr (11, [.ref s1, .int s2]))] s.heap := hP
  refine lv_iload_n hx hb d_DS_count_0 rfl (lv_at hl 1 rfl) ?_
  refine lv_tableIn (tgt := 51) (off := 50) hx hb d_DS_count_1 (by decide) (by decide) (by decide) (by decide) ?_
  refine lv_aload_n hx hb d_DS_count_51 rfl (lv_at hl 0 rfl) ?_
  refine va_get (D := (dC, dI)) (ci := 0) (v := (.ref sv)) (C := R_DS) (T := F_DS) (N := 2) hx hb hg in_DS hown hK hP 0 rfl rfl 1 (by decide) (hg _ k_369) (fun _ h9 => h9) rfl d_DS_count_52 ?_
  refine va_get (D := (dC, dI)) (ci := 5) (v := (.ref ts)) (C := R_Sv) (T := F_Sv) (N := 12) hx hb hg in_Sv hown hK hP 3 rfl rfl 6 (by decide) (hg _ k_333) (fun _ h9 => h9) rfl d_DS_count_55 ?_
  refine va_get (D := (dC, dI)) (ci := 9) (v := (.int t4)) (C := R_Ts) (T := F_Ts) (N := 4) hx hb hg in_Ts hown hK hP 5 rfl rfl 3 (by decide) (hg _ k_235) (fun _ h9 => h9) rfl d_DS_count_58 ?_
  have hP9 := hP.sub (ws' := [(ds, .inr (0, [.ref dr, .ref sv])), (dr, .inr (2, [.ref rr, .int (nI len)])), (rr, .inl ((cT 0), 1000, .inl f)), (sv, .inr (5, [.ref se, .ref pw, .ref g0, .ref ty, .ref an, .ref aw, .ref ts, .ref ss, .ref rq, .int tm, .int n3, .int n4])), (aw, .inr (6, [.ref a1, .int a2, .int a3])), (ts, .inr (9, [.ref t1, .long t2, .long t3, .int t4])), (ss, .inr (11, [.ref s1, .int s2]))]) [0, 1, 2, 3, 4, 5, 6] rfl
  have hD9 := hD.sub (ws' := [(ds, .inr (0, [.ref dr, .ref sv])), (dr, .inr (2, [.ref rr, .int (nI len)])), (rr, .inl ((cT 0), 1000, .inl f)), (sv, .inr (5, [.ref se, .ref pw, .ref g0, .ref ty, .ref an, .ref aw, .ref ts, .ref ss, .ref rq, .int tm, .int n3, .int n4])), (aw, .inr (6, [.ref a1, .int a2, .int a3])), (ts, .inr (9, [.ref t1, .long t2, .long t3, .int t4])), (ss, .inr (11, [.ref s1, .int s2]))]) [0, 1, 2, 3, 4, 5, 6] (by decide) rfl
  exact W.iret (v := t4) hx hb hr (fun t ht hW => ⟨⟨_, (), rfl, ⟨rfl, trivial⟩, by rw [ht]; exact hP9, va_K.moved hW.alike hK, hD9⟩, hS.F ht⟩) hS.2.2 d_DS_count_61
set_option maxHeartbeats 4000000 in
set_option maxRecDepth 100000 in
/-- count(2) -/
theorem c_count2 (l : Launch) (dC : Nat → ClassId) (dI : Nat → Nat → Nat) (cT : Nat → ClassId) (sz : Nat) (ds : Nat) (dr : Nat) (sv : Nat) (rr : Nat) (g0 : Nat) (se : Nat) (pw : Nat) (ty : Nat) (an : Nat) (aw : Nat) (ts : Nat) (ss : Nat) (rq : Nat) (tm : Int32) (n3 : Int32) (n4 : Int32) (len : Nat) (f : Nat → Int32) (a1 : Nat) (a2 : Int32) (a3 : Int32) (t1 : Nat) (t2 : Int64) (t3 : Int64) (t4 : Int32) (s1 : Nat) (s2 : Int32)  : Met l y_DS_count (Cond.code y_DS_count b_DS_count 2 (Option.some Jvm.ClassFile.FieldType.int) :: BIG) ({ frames := 0, cells := 0, slots := 0, locals := 0 }) (va_Pc [.ref ds, .int 2] (fun U => U.heap.size = sz ∧ va_P (dC, dI) vcl [(ds, .inr (0, [.ref dr, .ref sv])), (dr, .inr (2, [.ref rr, .int (nI len)])), (rr, .inl ((cT 0), 1000, .inl f)), (sv, .inr (5, [.ref se, .ref pw, .ref g0, .ref ty, .ref an, .ref aw, .ref ts, .ref ss, .ref rq, .int tm, .int n3, .int n4])), (aw, .inr (6, [.ref a1, .int a2, .int a3])), (ts, .inr (9, [.ref t1, .long t2, .long t3, .int t4])), (ss, .inr (11, [.ref s1, .int s2]))] U.heap ∧ va_K (dC, dI) vcl (tyL cT) U ∧ va_D (fun _ => True) [(ds, .inr (0, [.ref dr, .ref sv])), (dr, .inr (2, [.ref rr, .int (nI len)])), (rr, .inl ((cT 0), 1000, .inl f)), (sv, .inr (5, [.ref se, .ref pw, .ref g0, .ref ty, .ref an, .ref aw, .ref ts, .ref ss, .ref rq, .int tm, .int n3, .int n4])), (aw, .inr (6, [.ref a1, .int a2, .int a3])), (ts, .inr (9, [.ref t1, .long t2, .long t3, .int t4])), (ss, .inr (11, [.ref s1, .int s2]))])) (va_Qi (S := Unit) (fun rv9 u => rv9 = s2 ∧ (True)) (fun u t => va_P (dC, dI) vcl [(ds, .inr (0, [.ref dr, .ref sv])), (dr, .inr (2, [.ref rr, .int (nI len)])), (rr, .inl ((cT 0), 1000, .inl f)), (sv, .inr (5, [.ref se, .ref pw, .ref g0, .ref ty, .ref an, .ref aw, .ref ts, .ref ss, .ref rq, .int tm, .int n3, .int n4])), (aw, .inr (6, [.ref a1, .int a2, .int a3])), (ts, .inr (9, [.ref t1, .long t2, .long t3, .int t4])), (ss, .inr (11, [.ref s1, .int s2]))] t.heap ∧ va_K (dC, dI) vcl (tyL cT) t ∧ va_D (va_A [(ds, .inr (0, [.ref dr, .ref sv])), (dr, .inr (2, [.ref rr, .int (nI len)])), (rr, .inl ((cT 0), 1000, .inl f)), (sv, .inr (5, [.ref se, .ref pw, .ref g0, .ref ty, .ref an, .ref aw, .ref ts, .ref ss, .ref rq, .int tm, .int n3, .int n4])), (aw, .inr (6, [.ref a1, .int a2, .int a3])), (ts, .inr (9, [.ref t1, .long t2, .long t3, .int t4])), (ss, .inr (11, [.ref s1, .int s2]))] sz) [(ds, .inr (0, [.ref dr, .ref sv])), (dr, .inr (2, [.ref rr, .int (nI len)])), (rr, .inl ((cT 0), 1000, .inl f)), (sv, .inr (5, [.ref se, .ref pw, .ref g0, .ref ty, .ref an, .ref aw, .ref ts, .ref ss, .ref rq, .int tm, .int n3, .int n4])), (aw, .inr (6, [.ref a1, .int a2, .int a3])), (ts, .inr (9, [.ref t1, .long t2, .long t3, .int t4])), (ss, .inr (11, [.ref s1, .int s2]))]) (va_A [(ds, .inr (0, [.ref dr, .ref sv])), (dr, .inr (2, [.ref rr, .int (nI len)])), (rr, .inl ((cT 0), 1000, .inl f)), (sv, .inr (5, [.ref se, .ref pw, .ref g0, .ref ty, .ref an, .ref aw, .ref ts, .ref ss, .ref rq, .int tm, .int n3, .int n4])), (aw, .inr (6, [.ref a1, .int a2, .int a3])), (ts, .inr (9, [.ref t1, .long t2, .long t3, .int t4])), (ss, .inr (11, [.ref s1, .int s2]))] sz)) 0 0 (va_A [(ds, .inr (0, [.ref dr, .ref sv])), (dr, .inr (2, [.ref rr, .int (nI len)])), (rr, .inl ((cT 0), 1000, .inl f)), (sv, .inr (5, [.ref se, .ref pw, .ref g0, .ref ty, .ref an, .ref aw, .ref ts, .ref ss, .ref rq, .int tm, .int n3, .int n4])), (aw, .inr (6, [.ref a1, .int a2, .int a3])), (ts, .inr (9, [.ref t1, .long t2, .long t3, .int t4])), (ss, .inr (11, [.ref s1, .int s2]))] sz) := by
  refine Met.ofW (cc := b_DS_count) (maxL := 2) (ret := (Option.some Jvm.ClassFile.FieldType.int)) (by decide) rfl ?_
  intro p e s m args below meth c s₁ B hml hv
  obtain ⟨hargs, hsz, hP, hK, hD0⟩ := hv
  have hx := B.exec
  have hb := B.bytes
  have hr := B.returns
  have hts := atoms_spec (ws := (Cond.code y_DS_count b_DS_count 2 (Option.some Jvm.ClassFile.FieldType.int) :: BIG)) B.pre
  have hg : ∀ w ∈ BIG, w.before _ s = true := fun w h => hts w (List.mem_cons_of_mem _ h)
  have hown : s.vm.findClass "DoorServer" = some m.cls := findClass_of_methodNamed B.named
  have hlocks := B.notSynchronized
  subst hsz
  have hD := hD0.self (sz := s.heap.size)
  generalize hAe : va_A [(ds, .inr (0, [.ref dr, .ref sv])), (dr, .inr (2, [.ref rr, .int (nI len)])), (rr, .inl ((cT 0), 1000, .inl f)), (sv, .inr (5, [.ref se, .ref pw, .ref g0, .ref ty, .ref an, .ref aw, .ref ts, .ref ss, .ref rq, .int tm, .int n3, .int n4])), (aw, .inr (6, [.ref a1, .int a2, .int a3])), (ts, .inr (9, [.ref t1, .long t2, .long t3, .int t4])), (ss, .inr (11, [.ref s1, .int s2]))] s.heap.size = A at hD ⊢
  have hA : ∀ q : Nat, s.heap.size ≤ q → A q := fun q h => by rw [← hAe]; exact Or.inr h
  have hS : va_S A s.heap s.heap [] := va_S.rf
  have hl := lv_entry ([.ref ds, .int 2]) (n := 2) (Nat.le_of_ble_eq_true rfl)
  refine W.eq (g2 := entryFrame m (List.toArray [.ref ds, .int 2]) 2) (by rw [hargs]) ?_
  rw [lg_entry_eq]
  generalize (lg_sl ([.ref ds, .int 2]) ++ List.replicate (2 - (lg_sl ([.ref ds, .int 2])).length) Slot.unset).toArray = ls at hl ⊢
  have hl : lv_has ls 2 [(0, .ref ds), (1, .int 2)] := hl
  change W p l e ({ frames := 0, cells := 0, slots := 0, locals := 0 } : Room) s m args below meth c s.heap [] 0 0 _ _
  have hP : va_P (dC, dI) vcl [(ds, .inr (0, [.ref dr, .ref sv])), (dr, .inr (2, [.ref rr, .int (nI len)])), (rr, .inl ((cT 0), 1000, .inl f)), (sv, .inr (5, [.ref se, .ref pw, .ref g0, .ref ty, .ref an, .ref aw, .ref ts, .ref ss, .ref rq, .int tm, .int n3, .int n4])), (aw, .inr (6, [.ref a1, .int a2, .int a3])), (ts, .inr (9, [.ref t1, .long t2, .long t3, .int t4])), (ss, .inr (11, [.ref s1, .int s2]))] s.heap := hP
  refine lv_iload_n hx hb d_DS_count_0 rfl (lv_at hl 1 rfl) ?_
  refine lv_tableIn (tgt := 62) (off := 61) hx hb d_DS_count_1 (by decide) (by decide) (by decide) (by decide) ?_
  refine lv_aload_n hx hb d_DS_count_62 rfl (lv_at hl 0 rfl) ?_
  refine va_get (D := (dC, dI)) (ci := 0) (v := (.ref sv)) (C := R_DS) (T := F_DS) (N := 2) hx hb hg in_DS hown hK hP 0 rfl rfl 1 (by decide) (hg _ k_369) (fun _ h9 => h9) rfl d_DS_count_63 ?_
  refine va_get (D := (dC, dI)) (ci := 5) (v := (.ref ss)) (C := R_Sv) (T := F_Sv) (N := 12) hx hb hg in_Sv hown hK hP 3 rfl rfl 7 (by decide) (hg _ k_335) (fun _ h9 => h9) rfl d_DS_count_66 ?_
  refine va_get (D := (dC, dI)) (ci := 11) (v := (.int s2)) (C := R_Ss) (T := F_Ss) (N := 2) hx hb hg in_Ss hown hK hP 6 rfl rfl 1 (by decide) (hg _ k_297) (fun _ h9 => h9) rfl d_DS_count_69 ?_
  have hP9 := hP.sub (ws' := [(ds, .inr (0, [.ref dr, .ref sv])), (dr, .inr (2, [.ref rr, .int (nI len)])), (rr, .inl ((cT 0), 1000, .inl f)), (sv, .inr (5, [.ref se, .ref pw, .ref g0, .ref ty, .ref an, .ref aw, .ref ts, .ref ss, .ref rq, .int tm, .int n3, .int n4])), (aw, .inr (6, [.ref a1, .int a2, .int a3])), (ts, .inr (9, [.ref t1, .long t2, .long t3, .int t4])), (ss, .inr (11, [.ref s1, .int s2]))]) [0, 1, 2, 3, 4, 5, 6] rfl
  have hD9 := hD.sub (ws' := [(ds, .inr (0, [.ref dr, .ref sv])), (dr, .inr (2, [.ref rr, .int (nI len)])), (rr, .inl ((cT 0), 1000, .inl f)), (sv, .inr (5, [.ref se, .ref pw, .ref g0, .ref ty, .ref an, .ref aw, .ref ts, .ref ss, .ref rq, .int tm, .int n3, .int n4])), (aw, .inr (6, [.ref a1, .int a2, .int a3])), (ts, .inr (9, [.ref t1, .long t2, .long t3, .int t4])), (ss, .inr (11, [.ref s1, .int s2]))]) [0, 1, 2, 3, 4, 5, 6] (by decide) rfl
  exact W.iret (v := s2) hx hb hr (fun t ht hW => ⟨⟨_, (), rfl, ⟨rfl, trivial⟩, by rw [ht]; exact hP9, va_K.moved hW.alike hK, hD9⟩, hS.F ht⟩) hS.2.2 d_DS_count_72
set_option maxHeartbeats 4000000 in
set_option maxRecDepth 100000 in
/-- count(3) -/
theorem c_count3 (l : Launch) (dC : Nat → ClassId) (dI : Nat → Nat → Nat) (cT : Nat → ClassId) (sz : Nat) (ds : Nat) (dr : Nat) (sv : Nat) (rr : Nat) (g0 : Nat) (se : Nat) (pw : Nat) (ty : Nat) (an : Nat) (aw : Nat) (ts : Nat) (ss : Nat) (rq : Nat) (tm : Int32) (n3 : Int32) (n4 : Int32) (len : Nat) (f : Nat → Int32) (a1 : Nat) (a2 : Int32) (a3 : Int32) (t1 : Nat) (t2 : Int64) (t3 : Int64) (t4 : Int32) (s1 : Nat) (s2 : Int32)  : Met l y_DS_count (Cond.code y_DS_count b_DS_count 2 (Option.some Jvm.ClassFile.FieldType.int) :: BIG) ({ frames := 0, cells := 0, slots := 0, locals := 0 }) (va_Pc [.ref ds, .int 3] (fun U => U.heap.size = sz ∧ va_P (dC, dI) vcl [(ds, .inr (0, [.ref dr, .ref sv])), (dr, .inr (2, [.ref rr, .int (nI len)])), (rr, .inl ((cT 0), 1000, .inl f)), (sv, .inr (5, [.ref se, .ref pw, .ref g0, .ref ty, .ref an, .ref aw, .ref ts, .ref ss, .ref rq, .int tm, .int n3, .int n4])), (aw, .inr (6, [.ref a1, .int a2, .int a3])), (ts, .inr (9, [.ref t1, .long t2, .long t3, .int t4])), (ss, .inr (11, [.ref s1, .int s2]))] U.heap ∧ va_K (dC, dI) vcl (tyL cT) U ∧ va_D (fun _ => True) [(ds, .inr (0, [.ref dr, .ref sv])), (dr, .inr (2, [.ref rr, .int (nI len)])), (rr, .inl ((cT 0), 1000, .inl f)), (sv, .inr (5, [.ref se, .ref pw, .ref g0, .ref ty, .ref an, .ref aw, .ref ts, .ref ss, .ref rq, .int tm, .int n3, .int n4])), (aw, .inr (6, [.ref a1, .int a2, .int a3])), (ts, .inr (9, [.ref t1, .long t2, .long t3, .int t4])), (ss, .inr (11, [.ref s1, .int s2]))])) (va_Qi (S := Unit) (fun rv9 u => rv9 = n3 ∧ (True)) (fun u t => va_P (dC, dI) vcl [(ds, .inr (0, [.ref dr, .ref sv])), (dr, .inr (2, [.ref rr, .int (nI len)])), (rr, .inl ((cT 0), 1000, .inl f)), (sv, .inr (5, [.ref se, .ref pw, .ref g0, .ref ty, .ref an, .ref aw, .ref ts, .ref ss, .ref rq, .int tm, .int n3, .int n4])), (aw, .inr (6, [.ref a1, .int a2, .int a3])), (ts, .inr (9, [.ref t1, .long t2, .long t3, .int t4])), (ss, .inr (11, [.ref s1, .int s2]))] t.heap ∧ va_K (dC, dI) vcl (tyL cT) t ∧ va_D (va_A [(ds, .inr (0, [.ref dr, .ref sv])), (dr, .inr (2, [.ref rr, .int (nI len)])), (rr, .inl ((cT 0), 1000, .inl f)), (sv, .inr (5, [.ref se, .ref pw, .ref g0, .ref ty, .ref an, .ref aw, .ref ts, .ref ss, .ref rq, .int tm, .int n3, .int n4])), (aw, .inr (6, [.ref a1, .int a2, .int a3])), (ts, .inr (9, [.ref t1, .long t2, .long t3, .int t4])), (ss, .inr (11, [.ref s1, .int s2]))] sz) [(ds, .inr (0, [.ref dr, .ref sv])), (dr, .inr (2, [.ref rr, .int (nI len)])), (rr, .inl ((cT 0), 1000, .inl f)), (sv, .inr (5, [.ref se, .ref pw, .ref g0, .ref ty, .ref an, .ref aw, .ref ts, .ref ss, .ref rq, .int tm, .int n3, .int n4])), (aw, .inr (6, [.ref a1, .int a2, .int a3])), (ts, .inr (9, [.ref t1, .long t2, .long t3, .int t4])), (ss, .inr (11, [.ref s1, .int s2]))]) (va_A [(ds, .inr (0, [.ref dr, .ref sv])), (dr, .inr (2, [.ref rr, .int (nI len)])), (rr, .inl ((cT 0), 1000, .inl f)), (sv, .inr (5, [.ref se, .ref pw, .ref g0, .ref ty, .ref an, .ref aw, .ref ts, .ref ss, .ref rq, .int tm, .int n3, .int n4])), (aw, .inr (6, [.ref a1, .int a2, .int a3])), (ts, .inr (9, [.ref t1, .long t2, .long t3, .int t4])), (ss, .inr (11, [.ref s1, .int s2]))] sz)) 0 0 (va_A [(ds, .inr (0, [.ref dr, .ref sv])), (dr, .inr (2, [.ref rr, .int (nI len)])), (rr, .inl ((cT 0), 1000, .inl f)), (sv, .inr (5, [.ref se, .ref pw, .ref g0, .ref ty, .ref an, .ref aw, .ref ts, .ref ss, .ref rq, .int tm, .int n3, .int n4])), (aw, .inr (6, [.ref a1, .int a2, .int a3])), (ts, .inr (9, [.ref t1, .long t2, .long t3, .int t4])), (ss, .inr (11, [.ref s1, .int s2]))] sz) := by
  refine Met.ofW (cc := b_DS_count) (maxL := 2) (ret := (Option.some Jvm.ClassFile.FieldType.int)) (by decide) rfl ?_
  intro p e s m args below meth c s₁ B hml hv
  obtain ⟨hargs, hsz, hP, hK, hD0⟩ := hv
  have hx := B.exec
  have hb := B.bytes
  have hr := B.returns
  have hts := atoms_spec (ws := (Cond.code y_DS_count b_DS_count 2 (Option.some Jvm.ClassFile.FieldType.int) :: BIG)) B.pre
  have hg : ∀ w ∈ BIG, w.before _ s = true := fun w h => hts w (List.mem_cons_of_mem _ h)
  have hown : s.vm.findClass "DoorServer" = some m.cls := findClass_of_methodNamed B.named
  have hlocks := B.notSynchronized
  subst hsz
  have hD := hD0.self (sz := s.heap.size)
  generalize hAe : va_A [(ds, .inr (0, [.ref dr, .ref sv])), (dr, .inr (2, [.ref rr, .int (nI len)])), (rr, .inl ((cT 0), 1000, .inl f)), (sv, .inr (5, [.ref se, .ref pw, .ref g0, .ref ty, .ref an, .ref aw, .ref ts, .ref ss, .ref rq, .int tm, .int n3, .int n4])), (aw, .inr (6, [.ref a1, .int a2, .int a3])), (ts, .inr (9, [.ref t1, .long t2, .long t3, .int t4])), (ss, .inr (11, [.ref s1, .int s2]))] s.heap.size = A at hD ⊢
  have hA : ∀ q : Nat, s.heap.size ≤ q → A q := fun q h => by rw [← hAe]; exact Or.inr h
  have hS : va_S A s.heap s.heap [] := va_S.rf
  have hl := lv_entry ([.ref ds, .int 3]) (n := 2) (Nat.le_of_ble_eq_true rfl)
  refine W.eq (g2 := entryFrame m (List.toArray [.ref ds, .int 3]) 2) (by rw [hargs]) ?_
  rw [lg_entry_eq]
  generalize (lg_sl ([.ref ds, .int 3]) ++ List.replicate (2 - (lg_sl ([.ref ds, .int 3])).length) Slot.unset).toArray = ls at hl ⊢
  have hl : lv_has ls 2 [(0, .ref ds), (1, .int 3)] := hl
  change W p l e ({ frames := 0, cells := 0, slots := 0, locals := 0 } : Room) s m args below meth c s.heap [] 0 0 _ _
  have hP : va_P (dC, dI) vcl [(ds, .inr (0, [.ref dr, .ref sv])), (dr, .inr (2, [.ref rr, .int (nI len)])), (rr, .inl ((cT 0), 1000, .inl f)), (sv, .inr (5, [.ref se, .ref pw, .ref g0, .ref ty, .ref an, .ref aw, .ref ts, .ref ss, .ref rq, .int tm, .int n3, .int n4])), (aw, .inr (6, [.ref a1, .int a2, .int a3])), (ts, .inr (9, [.ref t1, .long t2, .long t3, .int t4])), (ss, .inr (11, [.ref s1, .int s2]))] s.heap := hP
  refine lv_iload_n hx hb d_DS_count_0 rfl (lv_at hl 1 rfl) ?_
  refine lv_tableIn (tgt := 73) (off := 72) hx hb d_DS_count_1 (by decide) (by decide) (by decide) (by decide) ?_
  refine lv_aload_n hx hb d_DS_count_73 rfl (lv_at hl 0 rfl) ?_
  refine va_get (D := (dC, dI)) (ci := 0) (v := (.ref sv)) (C := R_DS) (T := F_DS) (N := 2) hx hb hg in_DS hown hK hP 0 rfl rfl 1 (by decide) (hg _ k_369) (fun _ h9 => h9) rfl d_DS_count_74 ?_
  refine va_get (D := (dC, dI)) (ci := 5) (v := (.int n3)) (C := R_Sv) (T := F_Sv) (N := 12) hx hb hg in_Sv hown hK hP 3 rfl rfl 10 (by decide) (hg _ k_340) (fun _ h9 => h9) rfl d_DS_count_77 ?_
  have hP9 := hP.sub (ws' := [(ds, .inr (0, [.ref dr, .ref sv])), (dr, .inr (2, [.ref rr, .int (nI len)])), (rr, .inl ((cT 0), 1000, .inl f)), (sv, .inr (5, [.ref se, .ref pw, .ref g0, .ref ty, .ref an, .ref aw, .ref ts, .ref ss, .ref rq, .int tm, .int n3, .int n4])), (aw, .inr (6, [.ref a1, .int a2, .int a3])), (ts, .inr (9, [.ref t1, .long t2, .long t3, .int t4])), (ss, .inr (11, [.ref s1, .int s2]))]) [0, 1, 2, 3, 4, 5, 6] rfl
  have hD9 := hD.sub (ws' := [(ds, .inr (0, [.ref dr, .ref sv])), (dr, .inr (2, [.ref rr, .int (nI len)])), (rr, .inl ((cT 0), 1000, .inl f)), (sv, .inr (5, [.ref se, .ref pw, .ref g0, .ref ty, .ref an, .ref aw, .ref ts, .ref ss, .ref rq, .int tm, .int n3, .int n4])), (aw, .inr (6, [.ref a1, .int a2, .int a3])), (ts, .inr (9, [.ref t1, .long t2, .long t3, .int t4])), (ss, .inr (11, [.ref s1, .int s2]))]) [0, 1, 2, 3, 4, 5, 6] (by decide) rfl
  exact W.iret (v := n3) hx hb hr (fun t ht hW => ⟨⟨_, (), rfl, ⟨rfl, trivial⟩, by rw [ht]; exact hP9, va_K.moved hW.alike hK, hD9⟩, hS.F ht⟩) hS.2.2 d_DS_count_80
set_option maxHeartbeats 4000000 in
set_option maxRecDepth 100000 in
/-- count(4) -/
theorem c_count4 (l : Launch) (dC : Nat → ClassId) (dI : Nat → Nat → Nat) (cT : Nat → ClassId) (sz : Nat) (ds : Nat) (dr : Nat) (sv : Nat) (rr : Nat) (g0 : Nat) (se : Nat) (pw : Nat) (ty : Nat) (an : Nat) (aw : Nat) (ts : Nat) (ss : Nat) (rq : Nat) (tm : Int32) (n3 : Int32) (n4 : Int32) (len : Nat) (f : Nat → Int32) (a1 : Nat) (a2 : Int32) (a3 : Int32) (t1 : Nat) (t2 : Int64) (t3 : Int64) (t4 : Int32) (s1 : Nat) (s2 : Int32)  : Met l y_DS_count (Cond.code y_DS_count b_DS_count 2 (Option.some Jvm.ClassFile.FieldType.int) :: BIG) ({ frames := 0, cells := 0, slots := 0, locals := 0 }) (va_Pc [.ref ds, .int 4] (fun U => U.heap.size = sz ∧ va_P (dC, dI) vcl [(ds, .inr (0, [.ref dr, .ref sv])), (dr, .inr (2, [.ref rr, .int (nI len)])), (rr, .inl ((cT 0), 1000, .inl f)), (sv, .inr (5, [.ref se, .ref pw, .ref g0, .ref ty, .ref an, .ref aw, .ref ts, .ref ss, .ref rq, .int tm, .int n3, .int n4])), (aw, .inr (6, [.ref a1, .int a2, .int a3])), (ts, .inr (9, [.ref t1, .long t2, .long t3, .int t4])), (ss, .inr (11, [.ref s1, .int s2]))] U.heap ∧ va_K (dC, dI) vcl (tyL cT) U ∧ va_D (fun _ => True) [(ds, .inr (0, [.ref dr, .ref sv])), (dr, .inr (2, [.ref rr, .int (nI len)])), (rr, .inl ((cT 0), 1000, .inl f)), (sv, .inr (5, [.ref se, .ref pw, .ref g0, .ref ty, .ref an, .ref aw, .ref ts, .ref ss, .ref rq, .int tm, .int n3, .int n4])), (aw, .inr (6, [.ref a1, .int a2, .int a3])), (ts, .inr (9, [.ref t1, .long t2, .long t3, .int t4])), (ss, .inr (11, [.ref s1, .int s2]))])) (va_Qi (S := Unit) (fun rv9 u => rv9 = n4 ∧ (True)) (fun u t => va_P (dC, dI) vcl [(ds, .inr (0, [.ref dr, .ref sv])), (dr, .inr (2, [.ref rr, .int (nI len)])), (rr, .inl ((cT 0), 1000, .inl f)), (sv, .inr (5, [.ref se, .ref pw, .ref g0, .ref ty, .ref an, .ref aw, .ref ts, .ref ss, .ref rq, .int tm, .int n3, .int n4])), (aw, .inr (6, [.ref a1, .int a2, .int a3])), (ts, .inr (9, [.ref t1, .long t2, .long t3, .int t4])), (ss, .inr (11, [.ref s1, .int s2]))] t.heap ∧ va_K (dC, dI) vcl (tyL cT) t ∧ va_D (va_A [(ds, .inr (0, [.ref dr, .ref sv])), (dr, .inr (2, [.ref rr, .int (nI len)])), (rr, .inl ((cT 0), 1000, .inl f)), (sv, .inr (5, [.ref se, .ref pw, .ref g0, .ref ty, .ref an, .ref aw, .ref ts, .ref ss, .ref rq, .int tm, .int n3, .int n4])), (aw, .inr (6, [.ref a1, .int a2, .int a3])), (ts, .inr (9, [.ref t1, .long t2, .long t3, .int t4])), (ss, .inr (11, [.ref s1, .int s2]))] sz) [(ds, .inr (0, [.ref dr, .ref sv])), (dr, .inr (2, [.ref rr, .int (nI len)])), (rr, .inl ((cT 0), 1000, .inl f)), (sv, .inr (5, [.ref se, .ref pw, .ref g0, .ref ty, .ref an, .ref aw, .ref ts, .ref ss, .ref rq, .int tm, .int n3, .int n4])), (aw, .inr (6, [.ref a1, .int a2, .int a3])), (ts, .inr (9, [.ref t1, .long t2, .long t3, .int t4])), (ss, .inr (11, [.ref s1, .int s2]))]) (va_A [(ds, .inr (0, [.ref dr, .ref sv])), (dr, .inr (2, [.ref rr, .int (nI len)])), (rr, .inl ((cT 0), 1000, .inl f)), (sv, .inr (5, [.ref se, .ref pw, .ref g0, .ref ty, .ref an, .ref aw, .ref ts, .ref ss, .ref rq, .int tm, .int n3, .int n4])), (aw, .inr (6, [.ref a1, .int a2, .int a3])), (ts, .inr (9, [.ref t1, .long t2, .long t3, .int t4])), (ss, .inr (11, [.ref s1, .int s2]))] sz)) 0 0 (va_A [(ds, .inr (0, [.ref dr, .ref sv])), (dr, .inr (2, [.ref rr, .int (nI len)])), (rr, .inl ((cT 0), 1000, .inl f)), (sv, .inr (5, [.ref se, .ref pw, .ref g0, .ref ty, .ref an, .ref aw, .ref ts, .ref ss, .ref rq, .int tm, .int n3, .int n4])), (aw, .inr (6, [.ref a1, .int a2, .int a3])), (ts, .inr (9, [.ref t1, .long t2, .long t3, .int t4])), (ss, .inr (11, [.ref s1, .int s2]))] sz) := by
  refine Met.ofW (cc := b_DS_count) (maxL := 2) (ret := (Option.some Jvm.ClassFile.FieldType.int)) (by decide) rfl ?_
  intro p e s m args below meth c s₁ B hml hv
  obtain ⟨hargs, hsz, hP, hK, hD0⟩ := hv
  have hx := B.exec
  have hb := B.bytes
  have hr := B.returns
  have hts := atoms_spec (ws := (Cond.code y_DS_count b_DS_count 2 (Option.some Jvm.ClassFile.FieldType.int) :: BIG)) B.pre
  have hg : ∀ w ∈ BIG, w.before _ s = true := fun w h => hts w (List.mem_cons_of_mem _ h)
  have hown : s.vm.findClass "DoorServer" = some m.cls := findClass_of_methodNamed B.named
  have hlocks := B.notSynchronized
  subst hsz
  have hD := hD0.self (sz := s.heap.size)
  generalize hAe : va_A [(ds, .inr (0, [.ref dr, .ref sv])), (dr, .inr (2, [.ref rr, .int (nI len)])), (rr, .inl ((cT 0), 1000, .inl f)), (sv, .inr (5, [.ref se, .ref pw, .ref g0, .ref ty, .ref an, .ref aw, .ref ts, .ref ss, .ref rq, .int tm, .int n3, .int n4])), (aw, .inr (6, [.ref a1, .int a2, .int a3])), (ts, .inr (9, [.ref t1, .long t2, .long t3, .int t4])), (ss, .inr (11, [.ref s1, .int s2]))] s.heap.size = A at hD ⊢
  have hA : ∀ q : Nat, s.heap.size ≤ q → A q := fun q h => by rw [← hAe]; exact Or.inr h
  have hS : va_S A s.heap s.heap [] := va_S.rf
  have hl := lv_entry ([.ref ds, .int 4]) (n := 2) (Nat.le_of_ble_eq_true rfl)
  refine W.eq (g2 := entryFrame m (List.toArray [.ref ds, .int 4]) 2) (by rw [hargs]) ?_
  rw [lg_entry_eq]
  generalize (lg_sl ([.ref ds, .int 4]) ++ List.replicate (2 - (lg_sl ([.ref ds, .int 4])).length) Slot.unset).toArray = ls at hl ⊢
  have hl : lv_has ls 2 [(0, .ref ds), (1, .int 4)] := hl
  change W p l e ({ frames := 0, cells := 0, slots := 0, locals := 0 } : Room) s m args below meth c s.heap [] 0 0 _ _
  have hP : va_P (dC, dI) vcl [(ds, .inr (0, [.ref dr, .ref sv])), (dr, .inr (2, [.ref rr, .int (nI len)])), (rr, .inl ((cT 0), 1000, .inl f)), (sv, .inr (5, [.ref se, .ref pw, .ref g0, .ref ty, .ref an, .ref aw, .ref ts, .ref ss, .ref rq, .int tm, .int n3, .int n4])), (aw, .inr (6, [.ref a1, .int a2, .int a3])), (ts, .inr (9, [.ref t1, .long t2, .long t3, .int t4])), (ss, .inr (11, [.ref s1, .int s2]))] s.heap := hP
  refine lv_iload_n hx hb d_DS_count_0 rfl (lv_at hl 1 rfl) ?_
  refine lv_tableIn (tgt := 81) (off := 80) hx hb d_DS_count_1 (by decide) (by decide) (by decide) (by decide) ?_
  refine lv_aload_n hx hb d_DS_count_81 rfl (lv_at hl 0 rfl) ?_
  refine va_get (D := (dC, dI)) (ci := 0) (v := (.ref sv)) (C := R_DS) (T := F_DS) (N := 2) hx hb hg in_DS hown hK hP 0 rfl rfl 1 (by decide) (hg _ k_369) (fun _ h9 => h9) rfl d_DS_count_82 ?_
  refine va_get (D := (dC, dI)) (ci := 5) (v := (.int n4)) (C := R_Sv) (T := F_Sv) (N := 12) hx hb hg in_Sv hown hK hP 3 rfl rfl 11 (by decide) (hg _ k_342) (fun _ h9 => h9) rfl d_DS_count_85 ?_
  have hP9 := hP.sub (ws' := [(ds, .inr (0, [.ref dr, .ref sv])), (dr, .inr (2, [.ref rr, .int (nI len)])), (rr, .inl ((cT 0), 1000, .inl f)), (sv, .inr (5, [.ref se, .ref pw, .ref g0, .ref ty, .ref an, .ref aw, .ref ts, .ref ss, .ref rq, .int tm, .int n3, .int n4])), (aw, .inr (6, [.ref a1, .int a2, .int a3])), (ts, .inr (9, [.ref t1, .long t2, .long t3, .int t4])), (ss, .inr (11, [.ref s1, .int s2]))]) [0, 1, 2, 3, 4, 5, 6] rfl
  have hD9 := hD.sub (ws' := [(ds, .inr (0, [.ref dr, .ref sv])), (dr, .inr (2, [.ref rr, .int (nI len)])), (rr, .inl ((cT 0), 1000, .inl f)), (sv, .inr (5, [.ref se, .ref pw, .ref g0, .ref ty, .ref an, .ref aw, .ref ts, .ref ss, .ref rq, .int tm, .int n3, .int n4])), (aw, .inr (6, [.ref a1, .int a2, .int a3])), (ts, .inr (9, [.ref t1, .long t2, .long t3, .int t4])), (ss, .inr (11, [.ref s1, .int s2]))]) [0, 1, 2, 3, 4, 5, 6] (by decide) rfl
  exact W.iret (v := n4) hx hb hr (fun t ht hW => ⟨⟨_, (), rfl, ⟨rfl, trivial⟩, by rw [ht]; exact hP9, va_K.moved hW.alike hK, hD9⟩, hS.F ht⟩) hS.2.2 d_DS_count_88
set_option maxHeartbeats 4000000 in
set_option maxRecDepth 100000 in
/-- count(5) -/
theorem c_count5 (l : Launch) (dC : Nat → ClassId) (dI : Nat → Nat → Nat) (cT : Nat → ClassId) (sz : Nat) (ds : Nat) (dr : Nat) (sv : Nat) (rr : Nat) (g0 : Nat) (se : Nat) (pw : Nat) (ty : Nat) (an : Nat) (aw : Nat) (ts : Nat) (ss : Nat) (rq : Nat) (tm : Int32) (n3 : Int32) (n4 : Int32) (len : Nat) (f : Nat → Int32) (a1 : Nat) (a2 : Int32) (a3 : Int32) (t1 : Nat) (t2 : Int64) (t3 : Int64) (t4 : Int32) (s1 : Nat) (s2 : Int32)  : Met l y_DS_count (Cond.code y_DS_count b_DS_count 2 (Option.some Jvm.ClassFile.FieldType.int) :: BIG) ({ frames := 0, cells := 0, slots := 0, locals := 0 }) (va_Pc [.ref ds, .int 5] (fun U => U.heap.size = sz ∧ va_P (dC, dI) vcl [(ds, .inr (0, [.ref dr, .ref sv])), (dr, .inr (2, [.ref rr, .int (nI len)])), (rr, .inl ((cT 0), 1000, .inl f)), (sv, .inr (5, [.ref se, .ref pw, .ref g0, .ref ty, .ref an, .ref aw, .ref ts, .ref ss, .ref rq, .int tm, .int n3, .int n4])), (aw, .inr (6, [.ref a1, .int a2, .int a3])), (ts, .inr (9, [.ref t1, .long t2, .long t3, .int t4])), (ss, .inr (11, [.ref s1, .int s2]))] U.heap ∧ va_K (dC, dI) vcl (tyL cT) U ∧ va_D (fun _ => True) [(ds, .inr (0, [.ref dr, .ref sv])), (dr, .inr (2, [.ref rr, .int (nI len)])), (rr, .inl ((cT 0), 1000, .inl f)), (sv, .inr (5, [.ref se, .ref pw, .ref g0, .ref ty, .ref an, .ref aw, .ref ts, .ref ss, .ref rq, .int tm, .int n3, .int n4])), (aw, .inr (6, [.ref a1, .int a2, .int a3])), (ts, .inr (9, [.ref t1, .long t2, .long t3, .int t4])), (ss, .inr (11, [.ref s1, .int s2]))])) (va_Qi (S := Unit) (fun rv9 u => rv9 = nI len ∧ (True)) (fun u t => va_P (dC, dI) vcl [(ds, .inr (0, [.ref dr, .ref sv])), (dr, .inr (2, [.ref rr, .int (nI len)])), (rr, .inl ((cT 0), 1000, .inl f)), (sv, .inr (5, [.ref se, .ref pw, .ref g0, .ref ty, .ref an, .ref aw, .ref ts, .ref ss, .ref rq, .int tm, .int n3, .int n4])), (aw, .inr (6, [.ref a1, .int a2, .int a3])), (ts, .inr (9, [.ref t1, .long t2, .long t3, .int t4])), (ss, .inr (11, [.ref s1, .int s2]))] t.heap ∧ va_K (dC, dI) vcl (tyL cT) t ∧ va_D (va_A [(ds, .inr (0, [.ref dr, .ref sv])), (dr, .inr (2, [.ref rr, .int (nI len)])), (rr, .inl ((cT 0), 1000, .inl f)), (sv, .inr (5, [.ref se, .ref pw, .ref g0, .ref ty, .ref an, .ref aw, .ref ts, .ref ss, .ref rq, .int tm, .int n3, .int n4])), (aw, .inr (6, [.ref a1, .int a2, .int a3])), (ts, .inr (9, [.ref t1, .long t2, .long t3, .int t4])), (ss, .inr (11, [.ref s1, .int s2]))] sz) [(ds, .inr (0, [.ref dr, .ref sv])), (dr, .inr (2, [.ref rr, .int (nI len)])), (rr, .inl ((cT 0), 1000, .inl f)), (sv, .inr (5, [.ref se, .ref pw, .ref g0, .ref ty, .ref an, .ref aw, .ref ts, .ref ss, .ref rq, .int tm, .int n3, .int n4])), (aw, .inr (6, [.ref a1, .int a2, .int a3])), (ts, .inr (9, [.ref t1, .long t2, .long t3, .int t4])), (ss, .inr (11, [.ref s1, .int s2]))]) (va_A [(ds, .inr (0, [.ref dr, .ref sv])), (dr, .inr (2, [.ref rr, .int (nI len)])), (rr, .inl ((cT 0), 1000, .inl f)), (sv, .inr (5, [.ref se, .ref pw, .ref g0, .ref ty, .ref an, .ref aw, .ref ts, .ref ss, .ref rq, .int tm, .int n3, .int n4])), (aw, .inr (6, [.ref a1, .int a2, .int a3])), (ts, .inr (9, [.ref t1, .long t2, .long t3, .int t4])), (ss, .inr (11, [.ref s1, .int s2]))] sz)) 0 0 (va_A [(ds, .inr (0, [.ref dr, .ref sv])), (dr, .inr (2, [.ref rr, .int (nI len)])), (rr, .inl ((cT 0), 1000, .inl f)), (sv, .inr (5, [.ref se, .ref pw, .ref g0, .ref ty, .ref an, .ref aw, .ref ts, .ref ss, .ref rq, .int tm, .int n3, .int n4])), (aw, .inr (6, [.ref a1, .int a2, .int a3])), (ts, .inr (9, [.ref t1, .long t2, .long t3, .int t4])), (ss, .inr (11, [.ref s1, .int s2]))] sz) := by
  refine Met.ofW (cc := b_DS_count) (maxL := 2) (ret := (Option.some Jvm.ClassFile.FieldType.int)) (by decide) rfl ?_
  intro p e s m args below meth c s₁ B hml hv
  obtain ⟨hargs, hsz, hP, hK, hD0⟩ := hv
  have hx := B.exec
  have hb := B.bytes
  have hr := B.returns
  have hts := atoms_spec (ws := (Cond.code y_DS_count b_DS_count 2 (Option.some Jvm.ClassFile.FieldType.int) :: BIG)) B.pre
  have hg : ∀ w ∈ BIG, w.before _ s = true := fun w h => hts w (List.mem_cons_of_mem _ h)
  have hown : s.vm.findClass "DoorServer" = some m.cls := findClass_of_methodNamed B.named
  have hlocks := B.notSynchronized
  subst hsz
  have hD := hD0.self (sz := s.heap.size)
  generalize hAe : va_A [(ds, .inr (0, [.ref dr, .ref sv])), (dr, .inr (2, [.ref rr, .int (nI len)])), (rr, .inl ((cT 0), 1000, .inl f)), (sv, .inr (5, [.ref se, .ref pw, .ref g0, .ref ty, .ref an, .ref aw, .ref ts, .ref ss, .ref rq, .int tm, .int n3, .int n4])), (aw, .inr (6, [.ref a1, .int a2, .int a3])), (ts, .inr (9, [.ref t1, .long t2, .long t3, .int t4])), (ss, .inr (11, [.ref s1, .int s2]))] s.heap.size = A at hD ⊢
  have hA : ∀ q : Nat, s.heap.size ≤ q → A q := fun q h => by rw [← hAe]; exact Or.inr h
  have hS : va_S A s.heap s.heap [] := va_S.rf
  have hl := lv_entry ([.ref ds, .int 5]) (n := 2) (Nat.le_of_ble_eq_true rfl)
  refine W.eq (g2 := entryFrame m (List.toArray [.ref ds, .int 5]) 2) (by rw [hargs]) ?_
  rw [lg_entry_eq]
  generalize (lg_sl ([.ref ds, .int 5]) ++ List.replicate (2 - (lg_sl ([.ref ds, .int 5])).length) Slot.unset).toArray = ls at hl ⊢
  have hl : lv_has ls 2 [(0, .ref ds), (1, .int 5)] := hl
  change W p l e ({ frames := 0, cells := 0, slots := 0, locals := 0 } : Room) s m args below meth c s.heap [] 0 0 _ _
  have hP : va_P (dC, dI) vcl [(ds, .inr (0, [.ref dr, .ref sv])), (dr, .inr (2, [.ref rr, .int (nI len)])), (rr, .inl ((cT 0), 1000, .inl f)), (sv, .inr (5, [.ref se, .ref pw, .ref g0, .ref ty, .ref an, .ref aw, .ref ts, .ref ss, .ref rq, .int tm, .int n3, .int n4])), (aw, .inr (6, [.ref a1, .int a2, .int a3])), (ts, .inr (9, [.ref t1, .long t2, .long t3, .int t4])), (ss, .inr (11, [.ref s1, .int s2]))] s.heap := hP
  refine lv_iload_n hx hb d_DS_count_0 rfl (lv_at hl 1 rfl) ?_
  refine lv_tableIn (tgt := 89) (off := 88) hx hb d_DS_count_1 (by decide) (by decide) (by decide) (by decide) ?_
  refine lv_aload_n hx hb d_DS_count_89 rfl (lv_at hl 0 rfl) ?_
  refine va_get (D := (dC, dI)) (ci := 0) (v := (.ref dr)) (C := R_DS) (T := F_DS) (N := 2) hx hb hg in_DS hown hK hP 0 rfl rfl 0 (by decide) (hg _ k_368) (fun _ h9 => h9) rfl d_DS_count_90 ?_
  refine va_get (D := (dC, dI)) (ci := 2) (v := (.int (nI len))) (C := R_Pk) (T := F_Pk) (N := 2) hx hb hg in_Pk hown hK hP 1 rfl rfl 1 (by decide) (hg _ k_59) (fun x9 h9 => u_same (hg _ k_53) x9 h9) rfl d_DS_count_93 ?_
  have hP9 := hP.sub (ws' := [(ds, .inr (0, [.ref dr, .ref sv])), (dr, .inr (2, [.ref rr, .int (nI len)])), (rr, .inl ((cT 0), 1000, .inl f)), (sv, .inr (5, [.ref se, .ref pw, .ref g0, .ref ty, .ref an, .ref aw, .ref ts, .ref ss, .ref rq, .int tm, .int n3, .int n4])), (aw, .inr (6, [.ref a1, .int a2, .int a3])), (ts, .inr (9, [.ref t1, .long t2, .long t3, .int t4])), (ss, .inr (11, [.ref s1, .int s2]))]) [0, 1, 2, 3, 4, 5, 6] rfl
  have hD9 := hD.sub (ws' := [(ds, .inr (0, [.ref dr, .ref sv])), (dr, .inr (2, [.ref rr, .int (nI len)])), (rr, .inl ((cT 0), 1000, .inl f)), (sv, .inr (5, [.ref se, .ref pw, .ref g0, .ref ty, .ref an, .ref aw, .ref ts, .ref ss, .ref rq, .int tm, .int n3, .int n4])), (aw, .inr (6, [.ref a1, .int a2, .int a3])), (ts, .inr (9, [.ref t1, .long t2, .long t3, .int t4])), (ss, .inr (11, [.ref s1, .int s2]))]) [0, 1, 2, 3, 4, 5, 6] (by decide) rfl
  exact W.iret (v := nI len) hx hb hr (fun t ht hW => ⟨⟨_, (), rfl, ⟨rfl, trivial⟩, by rw [ht]; exact hP9, va_K.moved hW.alike hK, hD9⟩, hS.F ht⟩) hS.2.2 d_DS_count_96
set_option maxHeartbeats 4000000 in
set_option maxRecDepth 100000 in
/-- reply, no CHALLENGE -/
theorem c_reply0 (l : Launch) (dC : Nat → ClassId) (dI : Nat → Nat → Nat) (cT : Nat → ClassId) (sz : Nat) (ds : Nat) (dr : Nat) (sv : Nat) (rr : Nat) (g0 : Nat) (se : Nat) (pw : Nat) (ty : Nat) (an : Nat) (aw : Nat) (ts : Nat) (ss : Nat) (rq : Nat) (tm : Int32) (n3 : Int32) (n4 : Int32) (ar : Nat) (al : Nat) (fa : Nat → Int32) (v : Int64) (k : Nat) (hk1 : 1 ≤ k) (hk2 : k ≤ 60) (hfa : ¬ fa 0 = 11) : Met l y_DS_reply (Cond.code y_DS_reply b_DS_reply 8 (Option.some Jvm.ClassFile.FieldType.int) :: BIG) ({ frames := 1, cells := 0, slots := 0, locals := 22 }) (va_Pc [.ref ds, .long v, .int (nI k)] (fun U => U.heap.size = sz ∧ va_P (dC, dI) vcl [(ds, .inr (0, [.ref dr, .ref sv])), (sv, .inr (5, [.ref se, .ref pw, .ref g0, .ref ty, .ref an, .ref aw, .ref ts, .ref ss, .ref rq, .int tm, .int n3, .int n4])), (an, .inr (2, [.ref ar, .int (nI al)])), (ar, .inl ((cT 0), 72, .inl fa))] U.heap ∧ va_K (dC, dI) vcl (tyL cT) U ∧ va_D (fun _ => True) [(ds, .inr (0, [.ref dr, .ref sv])), (sv, .inr (5, [.ref se, .ref pw, .ref g0, .ref ty, .ref an, .ref aw, .ref ts, .ref ss, .ref rq, .int tm, .int n3, .int n4])), (an, .inr (2, [.ref ar, .int (nI al)])), (ar, .inl ((cT 0), 72, .inl fa))])) (va_Qi (S := Unit) (fun rv9 u => rv9 = (-1) ∧ (True)) (fun u t => va_P (dC, dI) vcl [(ds, .inr (0, [.ref dr, .ref sv])), (sv, .inr (5, [.ref se, .ref pw, .ref g0, .ref ty, .ref an, .ref aw, .ref ts, .ref ss, .ref rq, .int tm, .int n3, .int n4])), (an, .inr (2, [.ref ar, .int (nI al)])), (ar, .inl ((cT 0), 72, .inl fa))] t.heap ∧ va_K (dC, dI) vcl (tyL cT) t ∧ va_D (va_A [(ds, .inr (0, [.ref dr, .ref sv])), (sv, .inr (5, [.ref se, .ref pw, .ref g0, .ref ty, .ref an, .ref aw, .ref ts, .ref ss, .ref rq, .int tm, .int n3, .int n4])), (an, .inr (2, [.ref ar, .int (nI al)])), (ar, .inl ((cT 0), 72, .inl fa))] sz) [(ds, .inr (0, [.ref dr, .ref sv])), (sv, .inr (5, [.ref se, .ref pw, .ref g0, .ref ty, .ref an, .ref aw, .ref ts, .ref ss, .ref rq, .int tm, .int n3, .int n4])), (an, .inr (2, [.ref ar, .int (nI al)])), (ar, .inl ((cT 0), 72, .inl fa))]) (va_A [(ds, .inr (0, [.ref dr, .ref sv])), (sv, .inr (5, [.ref se, .ref pw, .ref g0, .ref ty, .ref an, .ref aw, .ref ts, .ref ss, .ref rq, .int tm, .int n3, .int n4])), (an, .inr (2, [.ref ar, .int (nI al)])), (ar, .inl ((cT 0), 72, .inl fa))] sz)) 0 0 (va_A [(ds, .inr (0, [.ref dr, .ref sv])), (sv, .inr (5, [.ref se, .ref pw, .ref g0, .ref ty, .ref an, .ref aw, .ref ts, .ref ss, .ref rq, .int tm, .int n3, .int n4])), (an, .inr (2, [.ref ar, .int (nI al)])), (ar, .inl ((cT 0), 72, .inl fa))] sz) := by
  refine Met.ofW (cc := b_DS_reply) (maxL := 8) (ret := (Option.some Jvm.ClassFile.FieldType.int)) (by decide) rfl ?_
  intro p e s m args below meth c s₁ B hml hv
  obtain ⟨hargs, hsz, hP, hK, hD0⟩ := hv
  have hx := B.exec
  have hb := B.bytes
  have hr := B.returns
  have hts := atoms_spec (ws := (Cond.code y_DS_reply b_DS_reply 8 (Option.some Jvm.ClassFile.FieldType.int) :: BIG)) B.pre
  have hg : ∀ w ∈ BIG, w.before _ s = true := fun w h => hts w (List.mem_cons_of_mem _ h)
  have hown : s.vm.findClass "DoorServer" = some m.cls := findClass_of_methodNamed B.named
  have hlocks := B.notSynchronized
  subst hsz
  have hD := hD0.self (sz := s.heap.size)
  generalize hAe : va_A [(ds, .inr (0, [.ref dr, .ref sv])), (sv, .inr (5, [.ref se, .ref pw, .ref g0, .ref ty, .ref an, .ref aw, .ref ts, .ref ss, .ref rq, .int tm, .int n3, .int n4])), (an, .inr (2, [.ref ar, .int (nI al)])), (ar, .inl ((cT 0), 72, .inl fa))] s.heap.size = A at hD ⊢
  have hA : ∀ q : Nat, s.heap.size ≤ q → A q := fun q h => by rw [← hAe]; exact Or.inr h
  have hS : va_S A s.heap s.heap [] := va_S.rf
  have hl := lv_entry ([.ref ds, .long v, .int (nI k)]) (n := 8) (Nat.le_of_ble_eq_true rfl)
  refine W.eq (g2 := entryFrame m (List.toArray [.ref ds, .long v, .int (nI k)]) 8) (by rw [hargs]) ?_
  rw [lg_entry_eq]
  generalize (lg_sl ([.ref ds, .long v, .int (nI k)]) ++ List.replicate (8 - (lg_sl ([.ref ds, .long v, .int (nI k)])).length) Slot.unset).toArray = ls at hl ⊢
  have hl : lv_has ls 8 [(0, .ref ds), (1, .long v), (3, .int (nI k))] := hl
  change W p l e ({ frames := 1, cells := 0, slots := 0, locals := 22 } : Room) s m args below meth c s.heap [] 0 0 _ _
  have hP : va_P (dC, dI) vcl [(ds, .inr (0, [.ref dr, .ref sv])), (sv, .inr (5, [.ref se, .ref pw, .ref g0, .ref ty, .ref an, .ref aw, .ref ts, .ref ss, .ref rq, .int tm, .int n3, .int n4])), (an, .inr (2, [.ref ar, .int (nI al)])), (ar, .inl ((cT 0), 72, .inl fa))] s.heap := hP
  refine lv_iload_n hx hb d_DS_reply_0 rfl (lv_at hl 2 rfl) ?_
  refine lv_iconst (v := 1) hx hb d_DS_reply_1 (by decide) ?_
  refine lv_bipush (v := 60) hx hb d_DS_reply_2 (by decide) ?_
  have hPc := hP.sub (ws' := []) [] rfl
  have hDc := hD.sub (ws' := []) [] (by decide) rfl
  have hFc := va_free (wc := []) hD hS hA [] rfl
  refine va_callv (va_runS (As := [.int (nI k), .int 1, .int 60]) (rest := []) ⟨hx, hb, hml, hown, hg⟩ (c_requireWithin l dC dI cT s.heap.size (nI k) 1 60 (nI_nlt (b := 1) hk1 (by omega)) (nI_nlt (a := 60) hk2 (by decide))) (va_cwS 3 hg (gI (List.forall_mem_append.mpr ⟨List.forall_mem_cons.mpr ⟨k_390, List.forall_mem_cons.mpr ⟨k_391, List.forall_mem_cons.mpr ⟨k_1, fun _ h => absurd h List.not_mem_nil⟩⟩⟩, List.forall_mem_cons.mpr ⟨k_392, fun _ h => h⟩⟩)) rfl rfl rfl (by decide +kernel) ⟨Nat.le_of_ble_eq_true rfl, Nat.le_of_ble_eq_true rfl⟩) ⟨fun a U g mk q => by obtain ⟨q0, q1, qP, qK, qD⟩ := q; exact ⟨q0, q1, qP, va_K.moved (u := U) (U := U.calling g mk a) (Vm.Alike.refl U.vm) qK, qD⟩, fun U hU hW => ⟨rfl, by rw [hU], by rw [hU]; exact hPc, va_K.moved hW.alike hK, hDc.weaken (fun _ _ _ _ => trivial)⟩⟩ rfl rfl hl.1 rfl (lv_room (Nat.le_of_ble_eq_true rfl)) d_DS_reply_4 ⟨Nat.le_of_ble_eq_true rfl, Nat.le_of_ble_eq_true rfl⟩) hS (fun q _ h => hFc q h) hFc (fun u t H1 locs ht hvm hw hB hz1 hk1 hS => ?_)
  try dsimp only at hw hB
  obtain ⟨hP1, hK1, hD1⟩ := hB
  rw [ht] at hP1
  obtain ⟨hP, hD⟩ := va_join (wr := [(ds, .inr (0, [.ref dr, .ref sv])), (sv, .inr (5, [.ref se, .ref pw, .ref g0, .ref ty, .ref an, .ref aw, .ref ts, .ref ss, .ref rq, .int tm, .int n3, .int n4])), (an, .inr (2, [.ref ar, .int (nI al)])), (ar, .inl ((cT 0), 72, .inl fa))]) (w1 := []) hP hD [] [0, 1, 2, 3] rfl rfl (by decide) (by decide) hk1 hFc hP1 hD1
  have hw21 := hw
  clear hPc hDc hFc hz1 hk1 hP1 hK1 hD1
  generalize H1 = H at hP hS ⊢
  have hP : va_P (dC, dI) vcl [(ds, .inr (0, [.ref dr, .ref sv])), (sv, .inr (5, [.ref se, .ref pw, .ref g0, .ref ty, .ref an, .ref aw, .ref ts, .ref ss, .ref rq, .int tm, .int n3, .int n4])), (an, .inr (2, [.ref ar, .int (nI al)])), (ar, .inl ((cT 0), 72, .inl fa))] H := hP
  have hD : va_D A [(ds, .inr (0, [.ref dr, .ref sv])), (sv, .inr (5, [.ref se, .ref pw, .ref g0, .ref ty, .ref an, .ref aw, .ref ts, .ref ss, .ref rq, .int tm, .int n3, .int n4])), (an, .inr (2, [.ref ar, .int (nI al)])), (ar, .inl ((cT 0), 72, .inl fa))] := hD
  refine lv_aload_n hx hb d_DS_reply_7 rfl (lv_at hl 0 rfl) ?_
  refine va_get (D := (dC, dI)) (ci := 0) (v := (.ref sv)) (C := R_DS) (T := F_DS) (N := 2) hx hb hg in_DS hown hK hP 0 rfl rfl 1 (by decide) (hg _ k_369) (fun _ h9 => h9) rfl d_DS_reply_8 ?_
  refine va_get (D := (dC, dI)) (ci := 5) (v := (.ref an)) (C := R_Sv) (T := F_Sv) (N := 12) hx hb hg in_Sv hown hK hP 1 rfl rfl 4 (by decide) (hg _ k_329) (fun _ h9 => h9) rfl d_DS_reply_11 ?_
  refine lv_astore (lv' := [(4, .ref an), (0, .ref ds), (1, .long v), (3, .int (nI k))]) hx hb d_DS_reply_14 hl (by decide) rfl (fun ls hl => ?_)
  refine lv_aload hx hb d_DS_reply_16 (lv_at hl 0 rfl) ?_
  refine va_get (D := (dC, dI)) (ci := 2) (v := (.ref ar)) (C := R_Pk) (T := F_Pk) (N := 2) hx hb hg in_Pk hown hK hP 2 rfl rfl 0 (by decide) (hg _ k_49) (fun x9 h9 => u_same (hg _ k_41) x9 h9) rfl d_DS_reply_18 ?_
  refine lv_iconst (v := 0) hx hb d_DS_reply_21 (by decide) ?_
  refine va_iald hx hb hK hP 3 0 rfl rfl (i := 0) (vp_in_nI (n := 0) (N := 72) (by decide) (by decide)) d_DS_reply_22 ?_
  refine lv_topi (fun x23 e22 => ?_)
  obtain rfl : x23 = fa 0 := by rw [e22]; exact congrArg fa (by decide)
  refine lv_bipush (v := 11) hx hb d_DS_reply_23 (by decide) ?_
  refine lv_icmp_eq (tgt := 30) hx hb d_DS_reply_25 (by decide) (fun hn9 => absurd hn9 (hfa)) (fun hc24 => ?_)
  refine lv_iconst (v := (-1)) hx hb d_DS_reply_28 (by decide) ?_
  have hP9 := hP.sub (ws' := [(ds, .inr (0, [.ref dr, .ref sv])), (sv, .inr (5, [.ref se, .ref pw, .ref g0, .ref ty, .ref an, .ref aw, .ref ts, .ref ss, .ref rq, .int tm, .int n3, .int n4])), (an, .inr (2, [.ref ar, .int (nI al)])), (ar, .inl ((cT 0), 72, .inl fa))]) [0, 1, 2, 3] rfl
  have hD9 := hD.sub (ws' := [(ds, .inr (0, [.ref dr, .ref sv])), (sv, .inr (5, [.ref se, .ref pw, .ref g0, .ref ty, .ref an, .ref aw, .ref ts, .ref ss, .ref rq, .int tm, .int n3, .int n4])), (an, .inr (2, [.ref ar, .int (nI al)])), (ar, .inl ((cT 0), 72, .inl fa))]) [0, 1, 2, 3] (by decide) rfl
  exact W.iret (v := (-1)) hx hb hr (fun t ht hW => ⟨⟨_, (), rfl, ⟨rfl, trivial⟩, by rw [ht]; exact hP9, va_K.moved hW.alike hK, hD9⟩, hS.F ht⟩) hS.2.2 d_DS_reply_29
set_option maxHeartbeats 4000000 in
set_option maxRecDepth 100000 in
/-- reply, to a CHALLENGE -/
theorem c_reply (l : Launch) (dC : Nat → ClassId) (dI : Nat → Nat → Nat) (cT : Nat → ClassId) (sz : Nat) (ds : Nat) (dr : Nat) (sv : Nat) (rr : Nat) (se : Nat) (pw : Nat) (ty : Nat) (an : Nat) (aw : Nat) (ts : Nat) (ss : Nat) (rq : Nat) (tm : Int32) (n3 : Int32) (n4 : Int32) (ar : Nat) (al : Nat) (fa : Nat → Int32) (yr : Nat) (yl : Nat) (fy : Nat → Int32) (g0 : Nat) (tx : Nat) (tr : Nat) (wo : Nat) (di : Nat) (va : Int32) (vb : Int32) (vc : Int32) (vd : Int32) (len : Nat) (f : Nat → Int32) (fw : Nat → Int32) (fd : Nat → Int32) (dl : Nat) (fp : Nat → Int32) (v : Int64) (k : Nat) (hk1 : 1 ≤ k) (hk2 : k ≤ 60) (hfa : fa 0 = 11) (h20 : 20 ≤ dl) (hr9 : dl + 34 ≤ 1000) : Met l y_DS_reply (Cond.code y_DS_reply b_DS_reply 8 (Option.some Jvm.ClassFile.FieldType.int) :: BIG) ({ frames := 5, cells := 0, slots := 0, locals := 150 }) (va_Pc [.ref ds, .long v, .int (nI k)] (fun U => U.heap.size = sz ∧ va_P (dC, dI) vcl [(ds, .inr (0, [.ref dr, .ref sv])), (dr, .inr (2, [.ref rr, .int (nI dl)])), (rr, .inl ((cT 0), 1000, .inl fp)), (sv, .inr (5, [.ref se, .ref pw, .ref g0, .ref ty, .ref an, .ref aw, .ref ts, .ref ss, .ref rq, .int tm, .int n3, .int n4])), (an, .inr (2, [.ref ar, .int (nI al)])), (ar, .inl ((cT 0), 72, .inl fa)), (ty, .inr (1, [.ref yr, .int (nI yl)])), (yr, .inl ((cT 0), 64, .inl fy)), (g0, .inr (3, [.ref tx, .ref wo, .ref di, .int va, .int vb, .int vc, .int vd])), (tx, .inr (1, [.ref tr, .int (nI len)])), (tr, .inl ((cT 0), 1192, .inl f)), (wo, .inl ((cT 0), 16, .inl fw)), (di, .inl ((cT 0), 16, .inl fd))] U.heap ∧ va_K (dC, dI) vcl (tyL cT) U ∧ va_D (fun _ => True) [(ds, .inr (0, [.ref dr, .ref sv])), (dr, .inr (2, [.ref rr, .int (nI dl)])), (rr, .inl ((cT 0), 1000, .inl fp)), (sv, .inr (5, [.ref se, .ref pw, .ref g0, .ref ty, .ref an, .ref aw, .ref ts, .ref ss, .ref rq, .int tm, .int n3, .int n4])), (an, .inr (2, [.ref ar, .int (nI al)])), (ar, .inl ((cT 0), 72, .inl fa)), (ty, .inr (1, [.ref yr, .int (nI yl)])), (yr, .inl ((cT 0), 64, .inl fy)), (g0, .inr (3, [.ref tx, .ref wo, .ref di, .int va, .int vb, .int vc, .int vd])), (tx, .inr (1, [.ref tr, .int (nI len)])), (tr, .inl ((cT 0), 1192, .inl f)), (wo, .inl ((cT 0), 16, .inl fw)), (di, .inl ((cT 0), 16, .inl fd))] ∧ xm (va_A [(ds, .inr (0, [.ref dr, .ref sv])), (dr, .inr (2, [.ref rr, .int (nI dl)])), (rr, .inl ((cT 0), 1000, .inl fp)), (sv, .inr (5, [.ref se, .ref pw, .ref g0, .ref ty, .ref an, .ref aw, .ref ts, .ref ss, .ref rq, .int tm, .int n3, .int n4])), (an, .inr (2, [.ref ar, .int (nI al)])), (ar, .inl ((cT 0), 72, .inl fa)), (ty, .inr (1, [.ref yr, .int (nI yl)])), (yr, .inl ((cT 0), 64, .inl fy)), (g0, .inr (3, [.ref tx, .ref wo, .ref di, .int va, .int vb, .int vc, .int vd])), (tx, .inr (1, [.ref tr, .int (nI len)])), (tr, .inl ((cT 0), 1192, .inl f)), (wo, .inl ((cT 0), 16, .inl fw)), (di, .inl ((cT 0), 16, .inl fd))] sz) U U.heap)) (va_Qi (S := (Nat → Int32) × Nat × (Nat → Int32) × (Nat → Int32) × Int32 × Int32 × Int32 × Int32 × (Nat → Int32) × (Nat → Int32)) (fun rv9 u => match u with | (fy2, len2, fw2, fd2, a2, b2, c2, d2, f2, g) => rv9 = nI (dl + 34) ∧ (AB fd → AB fp → AB fa → AB fy → AB fd2 ∧ AB g ∧ AB fy2)) (fun u t => match u with | (fy2, len2, fw2, fd2, a2, b2, c2, d2, f2, g) => va_P (dC, dI) vcl [(ds, .inr (0, [.ref dr, .ref sv])), (dr, .inr (2, [.ref rr, .int (nI (dl + 34))])), (rr, .inl ((cT 0), 1000, .inl g)), (sv, .inr (5, [.ref se, .ref pw, .ref g0, .ref ty, .ref an, .ref aw, .ref ts, .ref ss, .ref rq, .int tm, .int n3, .int n4])), (an, .inr (2, [.ref ar, .int (nI al)])), (ar, .inl ((cT 0), 72, .inl fa)), (ty, .inr (1, [.ref yr, .int (nI k)])), (yr, .inl ((cT 0), 64, .inl fy2)), (g0, .inr (3, [.ref tx, .ref wo, .ref di, .int a2, .int b2, .int c2, .int d2])), (tx, .inr (1, [.ref tr, .int (nI len2)])), (tr, .inl ((cT 0), 1192, .inl f2)), (wo, .inl ((cT 0), 16, .inl fw2)), (di, .inl ((cT 0), 16, .inl fd2))] t.heap ∧ va_K (dC, dI) vcl (tyL cT) t ∧ va_D (va_A [(ds, .inr (0, [.ref dr, .ref sv])), (dr, .inr (2, [.ref rr, .int (nI dl)])), (rr, .inl ((cT 0), 1000, .inl fp)), (sv, .inr (5, [.ref se, .ref pw, .ref g0, .ref ty, .ref an, .ref aw, .ref ts, .ref ss, .ref rq, .int tm, .int n3, .int n4])), (an, .inr (2, [.ref ar, .int (nI al)])), (ar, .inl ((cT 0), 72, .inl fa)), (ty, .inr (1, [.ref yr, .int (nI yl)])), (yr, .inl ((cT 0), 64, .inl fy)), (g0, .inr (3, [.ref tx, .ref wo, .ref di, .int va, .int vb, .int vc, .int vd])), (tx, .inr (1, [.ref tr, .int (nI len)])), (tr, .inl ((cT 0), 1192, .inl f)), (wo, .inl ((cT 0), 16, .inl fw)), (di, .inl ((cT 0), 16, .inl fd))] sz) [(ds, .inr (0, [.ref dr, .ref sv])), (dr, .inr (2, [.ref rr, .int (nI (dl + 34))])), (rr, .inl ((cT 0), 1000, .inl g)), (sv, .inr (5, [.ref se, .ref pw, .ref g0, .ref ty, .ref an, .ref aw, .ref ts, .ref ss, .ref rq, .int tm, .int n3, .int n4])), (an, .inr (2, [.ref ar, .int (nI al)])), (ar, .inl ((cT 0), 72, .inl fa)), (ty, .inr (1, [.ref yr, .int (nI k)])), (yr, .inl ((cT 0), 64, .inl fy2)), (g0, .inr (3, [.ref tx, .ref wo, .ref di, .int a2, .int b2, .int c2, .int d2])), (tx, .inr (1, [.ref tr, .int (nI len2)])), (tr, .inl ((cT 0), 1192, .inl f2)), (wo, .inl ((cT 0), 16, .inl fw2)), (di, .inl ((cT 0), 16, .inl fd2))]) (va_A [(ds, .inr (0, [.ref dr, .ref sv])), (dr, .inr (2, [.ref rr, .int (nI dl)])), (rr, .inl ((cT 0), 1000, .inl fp)), (sv, .inr (5, [.ref se, .ref pw, .ref g0, .ref ty, .ref an, .ref aw, .ref ts, .ref ss, .ref rq, .int tm, .int n3, .int n4])), (an, .inr (2, [.ref ar, .int (nI al)])), (ar, .inl ((cT 0), 72, .inl fa)), (ty, .inr (1, [.ref yr, .int (nI yl)])), (yr, .inl ((cT 0), 64, .inl fy)), (g0, .inr (3, [.ref tx, .ref wo, .ref di, .int va, .int vb, .int vc, .int vd])), (tx, .inr (1, [.ref tr, .int (nI len)])), (tr, .inl ((cT 0), 1192, .inl f)), (wo, .inl ((cT 0), 16, .inl fw)), (di, .inl ((cT 0), 16, .inl fd))] sz)) 0 0 (va_A [(ds, .inr (0, [.ref dr, .ref sv])), (dr, .inr (2, [.ref rr, .int (nI dl)])), (rr, .inl ((cT 0), 1000, .inl fp)), (sv, .inr (5, [.ref se, .ref pw, .ref g0, .ref ty, .ref an, .ref aw, .ref ts, .ref ss, .ref rq, .int tm, .int n3, .int n4])), (an, .inr (2, [.ref ar, .int (nI al)])), (ar, .inl ((cT 0), 72, .inl fa)), (ty, .inr (1, [.ref yr, .int (nI yl)])), (yr, .inl ((cT 0), 64, .inl fy)), (g0, .inr (3, [.ref tx, .ref wo, .ref di, .int va, .int vb, .int vc, .int vd])), (tx, .inr (1, [.ref tr, .int (nI len)])), (tr, .inl ((cT 0), 1192, .inl f)), (wo, .inl ((cT 0), 16, .inl fw)), (di, .inl ((cT 0), 16, .inl fd))] sz) := by
  refine Met.ofW (cc := b_DS_reply) (maxL := 8) (ret := (Option.some Jvm.ClassFile.FieldType.int)) (by decide) rfl ?_
  intro p e s m args below meth c s₁ B hml hv
  obtain ⟨hargs, hsz, hP, hK, hD0, hE⟩ := hv
  have hx := B.exec
  have hb := B.bytes
  have hr := B.returns
  have hts := atoms_spec (ws := (Cond.code y_DS_reply b_DS_reply 8 (Option.some Jvm.ClassFile.FieldType.int) :: BIG)) B.pre
  have hg : ∀ w ∈ BIG, w.before _ s = true := fun w h => hts w (List.mem_cons_of_mem _ h)
  have hown : s.vm.findClass "DoorServer" = some m.cls := findClass_of_methodNamed B.named
  have hlocks := B.notSynchronized
  subst hsz
  have hD := hD0.self (sz := s.heap.size)
  generalize hAe : va_A [(ds, .inr (0, [.ref dr, .ref sv])), (dr, .inr (2, [.ref rr, .int (nI dl)])), (rr, .inl ((cT 0), 1000, .inl fp)), (sv, .inr (5, [.ref se, .ref pw, .ref g0, .ref ty, .ref an, .ref aw, .ref ts, .ref ss, .ref rq, .int tm, .int n3, .int n4])), (an, .inr (2, [.ref ar, .int (nI al)])), (ar, .inl ((cT 0), 72, .inl fa)), (ty, .inr (1, [.ref yr, .int (nI yl)])), (yr, .inl ((cT 0), 64, .inl fy)), (g0, .inr (3, [.ref tx, .ref wo, .ref di, .int va, .int vb, .int vc, .int vd])), (tx, .inr (1, [.ref tr, .int (nI len)])), (tr, .inl ((cT 0), 1192, .inl f)), (wo, .inl ((cT 0), 16, .inl fw)), (di, .inl ((cT 0), 16, .inl fd))] s.heap.size = A at hD hE ⊢
  have hA : ∀ q : Nat, s.heap.size ≤ q → A q := fun q h => by rw [← hAe]; exact Or.inr h
  have hS : va_S A s.heap s.heap [] := va_S.rf
  have hl := lv_entry ([.ref ds, .long v, .int (nI k)]) (n := 8) (Nat.le_of_ble_eq_true rfl)
  refine W.eq (g2 := entryFrame m (List.toArray [.ref ds, .long v, .int (nI k)]) 8) (by rw [hargs]) ?_
  rw [lg_entry_eq]
  generalize (lg_sl ([.ref ds, .long v, .int (nI k)]) ++ List.replicate (8 - (lg_sl ([.ref ds, .long v, .int (nI k)])).length) Slot.unset).toArray = ls at hl ⊢
  have hl : lv_has ls 8 [(0, .ref ds), (1, .long v), (3, .int (nI k))] := hl
  change W p l e ({ frames := 5, cells := 0, slots := 0, locals := 150 } : Room) s m args below meth c s.heap [] 0 0 _ _
  have hP : va_P (dC, dI) vcl [(ds, .inr (0, [.ref dr, .ref sv])), (dr, .inr (2, [.ref rr, .int (nI dl)])), (rr, .inl ((cT 0), 1000, .inl fp)), (sv, .inr (5, [.ref se, .ref pw, .ref g0, .ref ty, .ref an, .ref aw, .ref ts, .ref ss, .ref rq, .int tm, .int n3, .int n4])), (an, .inr (2, [.ref ar, .int (nI al)])), (ar, .inl ((cT 0), 72, .inl fa)), (ty, .inr (1, [.ref yr, .int (nI yl)])), (yr, .inl ((cT 0), 64, .inl fy)), (g0, .inr (3, [.ref tx, .ref wo, .ref di, .int va, .int vb, .int vc, .int vd])), (tx, .inr (1, [.ref tr, .int (nI len)])), (tr, .inl ((cT 0), 1192, .inl f)), (wo, .inl ((cT 0), 16, .inl fw)), (di, .inl ((cT 0), 16, .inl fd))] s.heap := hP
  refine lv_iload_n hx hb d_DS_reply_0 rfl (lv_at hl 2 rfl) ?_
  refine lv_iconst (v := 1) hx hb d_DS_reply_1 (by decide) ?_
  refine lv_bipush (v := 60) hx hb d_DS_reply_2 (by decide) ?_
  have hPc := hP.sub (ws' := []) [] rfl
  have hDc := hD.sub (ws' := []) [] (by decide) rfl
  have hFc := va_free (wc := []) hD hS hA [] rfl
  refine va_callv (va_runS (As := [.int (nI k), .int 1, .int 60]) (rest := []) ⟨hx, hb, hml, hown, hg⟩ (c_requireWithin l dC dI cT s.heap.size (nI k) 1 60 (nI_nlt (b := 1) hk1 (by omega)) (nI_nlt (a := 60) hk2 (by decide))) (va_cwS 3 hg (gI (List.forall_mem_append.mpr ⟨List.forall_mem_cons.mpr ⟨k_390, List.forall_mem_cons.mpr ⟨k_391, List.forall_mem_cons.mpr ⟨k_1, fun _ h => absurd h List.not_mem_nil⟩⟩⟩, List.forall_mem_cons.mpr ⟨k_392, fun _ h => h⟩⟩)) rfl rfl rfl (by decide +kernel) ⟨Nat.le_of_ble_eq_true rfl, Nat.le_of_ble_eq_true rfl⟩) ⟨fun a U g mk q => by obtain ⟨q0, q1, qP, qK, qD⟩ := q; exact ⟨q0, q1, qP, va_K.moved (u := U) (U := U.calling g mk a) (Vm.Alike.refl U.vm) qK, qD⟩, fun U hU hW => ⟨rfl, by rw [hU], by rw [hU]; exact hPc, va_K.moved hW.alike hK, hDc.weaken (fun _ _ _ _ => trivial)⟩⟩ rfl rfl hl.1 rfl (lv_room (Nat.le_of_ble_eq_true rfl)) d_DS_reply_4 ⟨Nat.le_of_ble_eq_true rfl, Nat.le_of_ble_eq_true rfl⟩) hS (fun q _ h => hFc q h) hFc (fun u t H1 locs ht hvm hw hB hz1 hk1 hS => ?_)
  try dsimp only at hw hB
  obtain ⟨hP1, hK1, hD1⟩ := hB
  rw [ht] at hP1
  obtain ⟨hP, hD⟩ := va_join (wr := [(ds, .inr (0, [.ref dr, .ref sv])), (dr, .inr (2, [.ref rr, .int (nI dl)])), (rr, .inl ((cT 0), 1000, .inl fp)), (sv, .inr (5, [.ref se, .ref pw, .ref g0, .ref ty, .ref an, .ref aw, .ref ts, .ref ss, .ref rq, .int tm, .int n3, .int n4])), (an, .inr (2, [.ref ar, .int (nI al)])), (ar, .inl ((cT 0), 72, .inl fa)), (ty, .inr (1, [.ref yr, .int (nI yl)])), (yr, .inl ((cT 0), 64, .inl fy)), (g0, .inr (3, [.ref tx, .ref wo, .ref di, .int va, .int vb, .int vc, .int vd])), (tx, .inr (1, [.ref tr, .int (nI len)])), (tr, .inl ((cT 0), 1192, .inl f)), (wo, .inl ((cT 0), 16, .inl fw)), (di, .inl ((cT 0), 16, .inl fd))]) (w1 := []) hP hD [] [0, 1, 2, 3, 4, 5, 6, 7, 8, 9, 10, 11, 12] rfl rfl (by decide) (by decide) hk1 hFc hP1 hD1
  have hw25 := hw
  clear hPc hDc hFc hz1 hk1 hP1 hK1 hD1
  generalize H1 = H at hP hS ⊢
  have hP : va_P (dC, dI) vcl [(ds, .inr (0, [.ref dr, .ref sv])), (dr, .inr (2, [.ref rr, .int (nI dl)])), (rr, .inl ((cT 0), 1000, .inl fp)), (sv, .inr (5, [.ref se, .ref pw, .ref g0, .ref ty, .ref an, .ref aw, .ref ts, .ref ss, .ref rq, .int tm, .int n3, .int n4])), (an, .inr (2, [.ref ar, .int (nI al)])), (ar, .inl ((cT 0), 72, .inl fa)), (ty, .inr (1, [.ref yr, .int (nI yl)])), (yr, .inl ((cT 0), 64, .inl fy)), (g0, .inr (3, [.ref tx, .ref wo, .ref di, .int va, .int vb, .int vc, .int vd])), (tx, .inr (1, [.ref tr, .int (nI len)])), (tr, .inl ((cT 0), 1192, .inl f)), (wo, .inl ((cT 0), 16, .inl fw)), (di, .inl ((cT 0), 16, .inl fd))] H := hP
  have hD : va_D A [(ds, .inr (0, [.ref dr, .ref sv])), (dr, .inr (2, [.ref rr, .int (nI dl)])), (rr, .inl ((cT 0), 1000, .inl fp)), (sv, .inr (5, [.ref se, .ref pw, .ref g0, .ref ty, .ref an, .ref aw, .ref ts, .ref ss, .ref rq, .int tm, .int n3, .int n4])), (an, .inr (2, [.ref ar, .int (nI al)])), (ar, .inl ((cT 0), 72, .inl fa)), (ty, .inr (1, [.ref yr, .int (nI yl)])), (yr, .inl ((cT 0), 64, .inl fy)), (g0, .inr (3, [.ref tx, .ref wo, .ref di, .int va, .int vb, .int vc, .int vd])), (tx, .inr (1, [.ref tr, .int (nI len)])), (tr, .inl ((cT 0), 1192, .inl f)), (wo, .inl ((cT 0), 16, .inl fw)), (di, .inl ((cT 0), 16, .inl fd))] := hD
  refine lv_aload_n hx hb d_DS_reply_7 rfl (lv_at hl 0 rfl) ?_
  refine va_get (D := (dC, dI)) (ci := 0) (v := (.ref sv)) (C := R_DS) (T := F_DS) (N := 2) hx hb hg in_DS hown hK hP 0 rfl rfl 1 (by decide) (hg _ k_369) (fun _ h9 => h9) rfl d_DS_reply_8 ?_
  refine va_get (D := (dC, dI)) (ci := 5) (v := (.ref an)) (C := R_Sv) (T := F_Sv) (N := 12) hx hb hg in_Sv hown hK hP 3 rfl rfl 4 (by decide) (hg _ k_329) (fun _ h9 => h9) rfl d_DS_reply_11 ?_
  refine lv_astore (lv' := [(4, .ref an), (0, .ref ds), (1, .long v), (3, .int (nI k))]) hx hb d_DS_reply_14 hl (by decide) rfl (fun ls hl => ?_)
  refine lv_aload hx hb d_DS_reply_16 (lv_at hl 0 rfl) ?_
  refine va_get (D := (dC, dI)) (ci := 2) (v := (.ref ar)) (C := R_Pk) (T := F_Pk) (N := 2) hx hb hg in_Pk hown hK hP 4 rfl rfl 0 (by decide) (hg _ k_49) (fun x9 h9 => u_same (hg _ k_41) x9 h9) rfl d_DS_reply_18 ?_
  refine lv_iconst (v := 0) hx hb d_DS_reply_21 (by decide) ?_
  refine va_iald hx hb hK hP 5 0 rfl rfl (i := 0) (vp_in_nI (n := 0) (N := 72) (by decide) (by decide)) d_DS_reply_22 ?_
  refine lv_topi (fun x27 e26 => ?_)
  obtain rfl : x27 = 11 := by rw [e26]; exact (congrArg fa (by decide)).trans hfa
  refine lv_bipush (v := 11) hx hb d_DS_reply_23 (by decide) ?_
  refine lv_icmp_eq (tgt := 30) hx hb d_DS_reply_25 (by decide) (fun hc28 => ?_) (fun hn9 => absurd (rfl) hn9)
  refine lv_aload_n hx hb d_DS_reply_30 rfl (lv_at hl 1 rfl) ?_
  refine lv_bipush (v := 32) hx hb d_DS_reply_31 (by decide) ?_
  refine lv_topi (fun x30 e29 => ?_)
  obtain rfl : x30 = nI 32 := by rw [e29]; rfl
  have hPc := hP.sub (ws' := [(ds, .inr (0, [.ref dr, .ref sv])), (dr, .inr (2, [.ref rr, .int (nI dl)])), (rr, .inl ((cT 0), 1000, .inl fp))]) [0, 1, 2] rfl
  have hDc := hD.sub (ws' := [(ds, .inr (0, [.ref dr, .ref sv])), (dr, .inr (2, [.ref rr, .int (nI dl)])), (rr, .inl ((cT 0), 1000, .inl fp))]) [0, 1, 2] (by decide) rfl
  have hFc := va_free (wc := [(ds, .inr (0, [.ref dr, .ref sv])), (dr, .inr (2, [.ref rr, .int (nI dl)])), (rr, .inl ((cT 0), 1000, .inl fp))]) hD hS hA [0, 1, 2] rfl
  refine va_callv (va_runV (C := "DoorServer") (As := [.int (nI 32)]) (rest := []) ⟨hx, hb, hml, hown, hg⟩ (c_room l dC dI cT H.size ds dr sv rr dl fp 32 (by omega)) (cwV 1 hg (gI (List.forall_mem_append.mpr ⟨List.forall_mem_cons.mpr ⟨k_500, List.forall_mem_cons.mpr ⟨k_502, List.forall_mem_cons.mpr ⟨(big_sel (q := y_DS_requireRoom) (n := 2) (by decide +kernel)), List.forall_mem_cons.mpr ⟨k_1, fun _ h => absurd h List.not_mem_nil⟩⟩⟩⟩, List.forall_mem_cons.mpr ⟨k_503, fun _ h => h⟩⟩)) rfl rfl rfl (by decide +kernel) ⟨Nat.le_of_ble_eq_true rfl, Nat.le_of_ble_eq_true rfl⟩) ⟨fun a U g mk q => by obtain ⟨q0, q1, qP, qK, qD⟩ := q; exact ⟨q0, q1, qP, va_K.moved (u := U) (U := U.calling g mk a) (Vm.Alike.refl U.vm) qK, qD⟩, va_recv (q0 := 0) (ci := 0) hK hP rfl rfl, fun U hU hW => ⟨rfl, by rw [hU], by rw [hU]; exact hPc, va_K.moved hW.alike hK, hDc.weaken (fun _ _ _ _ => trivial)⟩⟩ rfl rfl hl.1 rfl (lv_room (Nat.le_of_ble_eq_true rfl)) d_DS_reply_33 ⟨Nat.le_of_ble_eq_true rfl, Nat.le_of_ble_eq_true rfl⟩) hS (fun q _ h => hFc q h) hFc (fun u t H1 locs ht hvm hw hB hz1 hk1 hS => ?_)
  try dsimp only at hw hB
  obtain ⟨hP1, hK1, hD1⟩ := hB
  rw [ht] at hP1
  obtain ⟨hP, hD⟩ := va_join (wr := [(sv, .inr (5, [.ref se, .ref pw, .ref g0, .ref ty, .ref an, .ref aw, .ref ts, .ref ss, .ref rq, .int tm, .int n3, .int n4])), (an, .inr (2, [.ref ar, .int (nI al)])), (ar, .inl ((cT 0), 72, .inl fa)), (ty, .inr (1, [.ref yr, .int (nI yl)])), (yr, .inl ((cT 0), 64, .inl fy)), (g0, .inr (3, [.ref tx, .ref wo, .ref di, .int va, .int vb, .int vc, .int vd])), (tx, .inr (1, [.ref tr, .int (nI len)])), (tr, .inl ((cT 0), 1192, .inl f)), (wo, .inl ((cT 0), 16, .inl fw)), (di, .inl ((cT 0), 16, .inl fd))]) (w1 := [(ds, .inr (0, [.ref dr, .ref sv])), (dr, .inr (2, [.ref rr, .int (nI dl)])), (rr, .inl ((cT 0), 1000, .inl fp))]) hP hD [0, 1, 2] [3, 4, 5, 6, 7, 8, 9, 10, 11, 12] rfl rfl (by decide) (by decide) hk1 hFc hP1 hD1
  have hw31 := hw
  clear hPc hDc hFc hz1 hk1 hP1 hK1 hD1
  generalize H1 = H at hP hS ⊢
  have hP : va_P (dC, dI) vcl [(sv, .inr (5, [.ref se, .ref pw, .ref g0, .ref ty, .ref an, .ref aw, .ref ts, .ref ss, .ref rq, .int tm, .int n3, .int n4])), (an, .inr (2, [.ref ar, .int (nI al)])), (ar, .inl ((cT 0), 72, .inl fa)), (ty, .inr (1, [.ref yr, .int (nI yl)])), (yr, .inl ((cT 0), 64, .inl fy)), (g0, .inr (3, [.ref tx, .ref wo, .ref di, .int va, .int vb, .int vc, .int vd])), (tx, .inr (1, [.ref tr, .int (nI len)])), (tr, .inl ((cT 0), 1192, .inl f)), (wo, .inl ((cT 0), 16, .inl fw)), (di, .inl ((cT 0), 16, .inl fd)), (ds, .inr (0, [.ref dr, .ref sv])), (dr, .inr (2, [.ref rr, .int (nI dl)])), (rr, .inl ((cT 0), 1000, .inl fp))] H := hP
  have hD : va_D A [(sv, .inr (5, [.ref se, .ref pw, .ref g0, .ref ty, .ref an, .ref aw, .ref ts, .ref ss, .ref rq, .int tm, .int n3, .int n4])), (an, .inr (2, [.ref ar, .int (nI al)])), (ar, .inl ((cT 0), 72, .inl fa)), (ty, .inr (1, [.ref yr, .int (nI yl)])), (yr, .inl ((cT 0), 64, .inl fy)), (g0, .inr (3, [.ref tx, .ref wo, .ref di, .int va, .int vb, .int vc, .int vd])), (tx, .inr (1, [.ref tr, .int (nI len)])), (tr, .inl ((cT 0), 1192, .inl f)), (wo, .inl ((cT 0), 16, .inl fw)), (di, .inl ((cT 0), 16, .inl fd)), (ds, .inr (0, [.ref dr, .ref sv])), (dr, .inr (2, [.ref rr, .int (nI dl)])), (rr, .inl ((cT 0), 1000, .inl fp))] := hD
  refine lv_bipush (v := 22) hx hb d_DS_reply_36 (by decide) ?_
  refine lv_topi (fun x33 e32 => ?_)
  obtain rfl : x33 = nI 22 := by rw [e32]; rfl
  refine lv_istore (lv' := [(5, .int (nI 22)), (4, .ref an), (0, .ref ds), (1, .long v), (3, .int (nI k))]) hx hb d_DS_reply_38 hl (by decide) rfl (fun ls hl => ?_)
  refine lv_iload hx hb d_DS_reply_40 (lv_at hl 0 rfl) ?_
  refine lv_bipush (v := 8) hx hb d_DS_reply_42 (by decide) ?_
  refine lv_iadd hx hb d_DS_reply_44 ?_
  refine lv_iconst (v := 2) hx hb d_DS_reply_45 (by decide) ?_
  refine lv_iadd hx hb d_DS_reply_46 ?_
  refine lv_topi (fun x35 e34 => ?_)
  obtain rfl : x35 = nI 32 := by rw [e34]; rfl
  refine lv_istore (lv' := [(6, .int (nI 32)), (5, .int (nI 22)), (4, .ref an), (0, .ref ds), (1, .long v), (3, .int (nI k))]) hx hb d_DS_reply_47 hl (by decide) rfl (fun ls hl => ?_)
  refine lv_aload hx hb d_DS_reply_49 (lv_at hl 2 rfl) ?_
  refine va_get (D := (dC, dI)) (ci := 2) (v := (.ref ar)) (C := R_Pk) (T := F_Pk) (N := 2) hx hb hg in_Pk hown hK hP 1 rfl rfl 0 (by decide) (hg _ k_49) (fun x9 h9 => u_same (hg _ k_41) x9 h9) rfl d_DS_reply_51 ?_
  refine lv_iload hx hb d_DS_reply_54 (lv_at hl 0 rfl) ?_
  refine lv_iconst (v := 1) hx hb d_DS_reply_56 (by decide) ?_
  refine lv_iadd hx hb d_DS_reply_57 ?_
  refine lv_topi (fun x37 e36 => ?_)
  obtain rfl : x37 = nI 33 := by rw [e36]; rfl
  refine va_iald hx hb hK hP 2 0 rfl rfl (i := (nI 33)) (vp_in_nI (N := 72) (by decide) (by decide)) d_DS_reply_58 ?_
  refine lv_topi (fun x39 e38 => ?_)
  obtain rfl : x39 = fa 33 := by rw [e38]; exact congrArg fa (by decide)
  refine lv_istore (lv' := [(7, .int (fa 33)), (6, .int (nI 32)), (5, .int (nI 22)), (4, .ref an), (0, .ref ds), (1, .long v), (3, .int (nI k))]) hx hb d_DS_reply_59 hl (by decide) rfl (fun ls hl => ?_)
  refine lv_aload_n hx hb d_DS_reply_61 rfl (lv_at hl 4 rfl) ?_
  refine va_get (D := (dC, dI)) (ci := 0) (v := (.ref sv)) (C := R_DS) (T := F_DS) (N := 2) hx hb hg in_DS hown hK hP 10 rfl rfl 1 (by decide) (hg _ k_369) (fun _ h9 => h9) rfl d_DS_reply_62 ?_
  refine va_get (D := (dC, dI)) (ci := 5) (v := (.ref ty)) (C := R_Sv) (T := F_Sv) (N := 12) hx hb hg in_Sv hown hK hP 0 rfl rfl 3 (by decide) (hg _ k_327) (fun _ h9 => h9) rfl d_DS_reply_65 ?_
  refine lv_lload_n hx hb d_DS_reply_68 rfl (lv_at hl 5 rfl) ?_
  refine lv_iload_n hx hb d_DS_reply_69 rfl (lv_at hl 6 rfl) ?_
  have hPc := hP.sub (ws' := [(ty, .inr (1, [.ref yr, .int (nI yl)])), (yr, .inl ((cT 0), 64, .inl fy))]) [3, 4] rfl
  have hDc := hD.sub (ws' := [(ty, .inr (1, [.ref yr, .int (nI yl)])), (yr, .inl ((cT 0), 64, .inl fy))]) [3, 4] (by decide) rfl
  have hFc := va_free (wc := [(ty, .inr (1, [.ref yr, .int (nI yl)])), (yr, .inl ((cT 0), 64, .inl fy))]) hD hS hA [3, 4] rfl
  refine va_callv (va_runV (C := "DoorServer$Bytes") (As := [.long v, .int (nI k)]) (rest := []) ⟨hx, hb, hml, hown, hg⟩ (c_By_become l dC dI cT H.size ty yr 64 yl fy v k (by omega) (by decide)) (cwV 2 hg (gI (List.forall_mem_append.mpr ⟨List.forall_mem_cons.mpr ⟨k_455, List.forall_mem_cons.mpr ⟨k_456, List.forall_mem_cons.mpr ⟨k_457, List.forall_mem_cons.mpr ⟨k_2, fun _ h => absurd h List.not_mem_nil⟩⟩⟩⟩, List.forall_mem_cons.mpr ⟨k_460, fun _ h => h⟩⟩)) rfl rfl rfl (by decide +kernel) ⟨Nat.le_of_ble_eq_true rfl, Nat.le_of_ble_eq_true rfl⟩) ⟨fun a U g mk q => by obtain ⟨q0, q1, qP, qK, qD⟩ := q; exact ⟨q0, q1, qP, va_K.moved (u := U) (U := U.calling g mk a) (Vm.Alike.refl U.vm) qK, qD⟩, va_recv (q0 := 3) (ci := 1) hK hP rfl rfl, fun U hU hW => ⟨rfl, by rw [hU], by rw [hU]; exact hPc, va_K.moved hW.alike hK, hDc.weaken (fun _ _ _ _ => trivial)⟩⟩ rfl rfl hl.1 rfl (lv_room (Nat.le_of_ble_eq_true rfl)) d_DS_reply_70 ⟨Nat.le_of_ble_eq_true rfl, Nat.le_of_ble_eq_true rfl⟩) hS (fun q _ h => hFc q h) hFc (fun u t H1 locs ht hvm hw hB hz1 hk1 hS => ?_)
  obtain ⟨g_40, rfl⟩ : ∃ z, z = u := ⟨_, rfl⟩
  try dsimp only at hw hB
  obtain ⟨hP1, hK1, hD1⟩ := hB
  rw [ht] at hP1
  obtain ⟨hP, hD⟩ := va_join (wr := [(sv, .inr (5, [.ref se, .ref pw, .ref g0, .ref ty, .ref an, .ref aw, .ref ts, .ref ss, .ref rq, .int tm, .int n3, .int n4])), (an, .inr (2, [.ref ar, .int (nI al)])), (ar, .inl ((cT 0), 72, .inl fa)), (g0, .inr (3, [.ref tx, .ref wo, .ref di, .int va, .int vb, .int vc, .int vd])), (tx, .inr (1, [.ref tr, .int (nI len)])), (tr, .inl ((cT 0), 1192, .inl f)), (wo, .inl ((cT 0), 16, .inl fw)), (di, .inl ((cT 0), 16, .inl fd)), (ds, .inr (0, [.ref dr, .ref sv])), (dr, .inr (2, [.ref rr, .int (nI dl)])), (rr, .inl ((cT 0), 1000, .inl fp))]) (w1 := [(ty, .inr (1, [.ref yr, .int (nI k)])), (yr, .inl ((cT 0), 64, .inl g_40))]) hP hD [3, 4] [0, 1, 2, 5, 6, 7, 8, 9, 10, 11, 12] rfl rfl (by decide) (by decide) hk1 hFc hP1 hD1
  have hw41 := hw
  clear hPc hDc hFc hz1 hk1 hP1 hK1 hD1
  generalize H1 = H at hP hS ⊢
  have hP : va_P (dC, dI) vcl [(sv, .inr (5, [.ref se, .ref pw, .ref g0, .ref ty, .ref an, .ref aw, .ref ts, .ref ss, .ref rq, .int tm, .int n3, .int n4])), (an, .inr (2, [.ref ar, .int (nI al)])), (ar, .inl ((cT 0), 72, .inl fa)), (g0, .inr (3, [.ref tx, .ref wo, .ref di, .int va, .int vb, .int vc, .int vd])), (tx, .inr (1, [.ref tr, .int (nI len)])), (tr, .inl ((cT 0), 1192, .inl f)), (wo, .inl ((cT 0), 16, .inl fw)), (di, .inl ((cT 0), 16, .inl fd)), (ds, .inr (0, [.ref dr, .ref sv])), (dr, .inr (2, [.ref rr, .int (nI dl)])), (rr, .inl ((cT 0), 1000, .inl fp)), (ty, .inr (1, [.ref yr, .int (nI k)])), (yr, .inl ((cT 0), 64, .inl g_40))] H := hP
  have hD : va_D A [(sv, .inr (5, [.ref se, .ref pw, .ref g0, .ref ty, .ref an, .ref aw, .ref ts, .ref ss, .ref rq, .int tm, .int n3, .int n4])), (an, .inr (2, [.ref ar, .int (nI al)])), (ar, .inl ((cT 0), 72, .inl fa)), (g0, .inr (3, [.ref tx, .ref wo, .ref di, .int va, .int vb, .int vc, .int vd])), (tx, .inr (1, [.ref tr, .int (nI len)])), (tr, .inl ((cT 0), 1192, .inl f)), (wo, .inl ((cT 0), 16, .inl fw)), (di, .inl ((cT 0), 16, .inl fd)), (ds, .inr (0, [.ref dr, .ref sv])), (dr, .inr (2, [.ref rr, .int (nI dl)])), (rr, .inl ((cT 0), 1000, .inl fp)), (ty, .inr (1, [.ref yr, .int (nI k)])), (yr, .inl ((cT 0), 64, .inl g_40))] := hD
  refine lv_aload_n hx hb d_DS_reply_73 rfl (lv_at hl 4 rfl) ?_
  refine va_get (D := (dC, dI)) (ci := 0) (v := (.ref dr)) (C := R_DS) (T := F_DS) (N := 2) hx hb hg in_DS hown hK hP 8 rfl rfl 0 (by decide) (hg _ k_368) (fun _ h9 => h9) rfl d_DS_reply_74 ?_
  refine lv_bipush (v := 24) hx hb d_DS_reply_77 (by decide) ?_
  refine lv_bipush (v := 8) hx hb d_DS_reply_79 (by decide) ?_
  have hPc := hP.sub (ws' := [(dr, .inr (2, [.ref rr, .int (nI dl)])), (rr, .inl ((cT 0), 1000, .inl fp))]) [9, 10] rfl
  have hDc := hD.sub (ws' := [(dr, .inr (2, [.ref rr, .int (nI dl)])), (rr, .inl ((cT 0), 1000, .inl fp))]) [9, 10] (by decide) rfl
  have hFc := va_free (wc := [(dr, .inr (2, [.ref rr, .int (nI dl)])), (rr, .inl ((cT 0), 1000, .inl fp))]) hD hS hA [9, 10] rfl
  refine va_callv (va_runV (C := "DoorServer$Packet") (As := [.int 24, .int 8]) (rest := []) ⟨hx, hb, hml, hown, hg⟩ (c_Pk_open l dC dI cT H.size dr rr 1000 dl fp 24 8 (by omega) (by decide)) (cwV 2 hg (gI (List.forall_mem_append.mpr ⟨List.forall_mem_cons.mpr ⟨k_519, List.forall_mem_cons.mpr ⟨k_520, List.forall_mem_cons.mpr ⟨k_521, List.forall_mem_cons.mpr ⟨k_3, fun _ h => absurd h List.not_mem_nil⟩⟩⟩⟩, List.forall_mem_cons.mpr ⟨k_522, fun _ h => h⟩⟩)) rfl rfl rfl (by decide +kernel) ⟨Nat.le_of_ble_eq_true rfl, Nat.le_of_ble_eq_true rfl⟩) ⟨fun a U g mk q => by obtain ⟨q0, q1, qP, qK, qD⟩ := q; exact ⟨q0, q1, qP, va_K.moved (u := U) (U := U.calling g mk a) (Vm.Alike.refl U.vm) qK, qD⟩, va_recv (q0 := 9) (ci := 2) hK hP rfl rfl, fun U hU hW => ⟨rfl, by rw [hU], by rw [hU]; exact hPc, va_K.moved hW.alike hK, hDc.weaken (fun _ _ _ _ => trivial)⟩⟩ rfl rfl hl.1 rfl (lv_room (Nat.le_of_ble_eq_true rfl)) d_DS_reply_81 ⟨Nat.le_of_ble_eq_true rfl, Nat.le_of_ble_eq_true rfl⟩) hS (fun q _ h => hFc q h) hFc (fun u t H1 locs ht hvm hw hB hz1 hk1 hS => ?_)
  try dsimp only at hw hB
  obtain ⟨hP1, hK1, hD1⟩ := hB
  rw [ht] at hP1
  obtain ⟨hP, hD⟩ := va_join (wr := [(sv, .inr (5, [.ref se, .ref pw, .ref g0, .ref ty, .ref an, .ref aw, .ref ts, .ref ss, .ref rq, .int tm, .int n3, .int n4])), (an, .inr (2, [.ref ar, .int (nI al)])), (ar, .inl ((cT 0), 72, .inl fa)), (g0, .inr (3, [.ref tx, .ref wo, .ref di, .int va, .int vb, .int vc, .int vd])), (tx, .inr (1, [.ref tr, .int (nI len)])), (tr, .inl ((cT 0), 1192, .inl f)), (wo, .inl ((cT 0), 16, .inl fw)), (di, .inl ((cT 0), 16, .inl fd)), (ds, .inr (0, [.ref dr, .ref sv])), (ty, .inr (1, [.ref yr, .int (nI k)])), (yr, .inl ((cT 0), 64, .inl g_40))]) (w1 := [(dr, .inr (2, [.ref rr, .int (nI ((dl + 1) + 1))])), (rr, .inl ((cT 0), 1000, .inl (upd (upd fp dl (24 &&& 255)) (dl + 1) ((8 + 2) &&& 255))))]) hP hD [9, 10] [0, 1, 2, 3, 4, 5, 6, 7, 8, 11, 12] rfl rfl (by decide) (by decide) hk1 hFc hP1 hD1
  have hw42 := hw
  clear hPc hDc hFc hz1 hk1 hP1 hK1 hD1
  generalize H1 = H at hP hS ⊢
  have hP : va_P (dC, dI) vcl [(sv, .inr (5, [.ref se, .ref pw, .ref g0, .ref ty, .ref an, .ref aw, .ref ts, .ref ss, .ref rq, .int tm, .int n3, .int n4])), (an, .inr (2, [.ref ar, .int (nI al)])), (ar, .inl ((cT 0), 72, .inl fa)), (g0, .inr (3, [.ref tx, .ref wo, .ref di, .int va, .int vb, .int vc, .int vd])), (tx, .inr (1, [.ref tr, .int (nI len)])), (tr, .inl ((cT 0), 1192, .inl f)), (wo, .inl ((cT 0), 16, .inl fw)), (di, .inl ((cT 0), 16, .inl fd)), (ds, .inr (0, [.ref dr, .ref sv])), (ty, .inr (1, [.ref yr, .int (nI k)])), (yr, .inl ((cT 0), 64, .inl g_40)), (dr, .inr (2, [.ref rr, .int (nI ((dl + 1) + 1))])), (rr, .inl ((cT 0), 1000, .inl (upd (upd fp dl (24 &&& 255)) (dl + 1) ((8 + 2) &&& 255))))] H := hP
  have hD : va_D A [(sv, .inr (5, [.ref se, .ref pw, .ref g0, .ref ty, .ref an, .ref aw, .ref ts, .ref ss, .ref rq, .int tm, .int n3, .int n4])), (an, .inr (2, [.ref ar, .int (nI al)])), (ar, .inl ((cT 0), 72, .inl fa)), (g0, .inr (3, [.ref tx, .ref wo, .ref di, .int va, .int vb, .int vc, .int vd])), (tx, .inr (1, [.ref tr, .int (nI len)])), (tr, .inl ((cT 0), 1192, .inl f)), (wo, .inl ((cT 0), 16, .inl fw)), (di, .inl ((cT 0), 16, .inl fd)), (ds, .inr (0, [.ref dr, .ref sv])), (ty, .inr (1, [.ref yr, .int (nI k)])), (yr, .inl ((cT 0), 64, .inl g_40)), (dr, .inr (2, [.ref rr, .int (nI ((dl + 1) + 1))])), (rr, .inl ((cT 0), 1000, .inl (upd (upd fp dl (24 &&& 255)) (dl + 1) ((8 + 2) &&& 255))))] := hD
  refine lv_aload_n hx hb d_DS_reply_84 rfl (lv_at hl 4 rfl) ?_
  refine va_get (D := (dC, dI)) (ci := 0) (v := (.ref dr)) (C := R_DS) (T := F_DS) (N := 2) hx hb hg in_DS hown hK hP 8 rfl rfl 0 (by decide) (hg _ k_368) (fun _ h9 => h9) rfl d_DS_reply_85 ?_
  refine lv_aload hx hb d_DS_reply_88 (lv_at hl 3 rfl) ?_
  refine va_get (D := (dC, dI)) (ci := 2) (v := (.ref ar)) (C := R_Pk) (T := F_Pk) (N := 2) hx hb hg in_Pk hown hK hP 1 rfl rfl 0 (by decide) (hg _ k_49) (fun x9 h9 => u_same (hg _ k_41) x9 h9) rfl d_DS_reply_90 ?_
  refine lv_iload hx hb d_DS_reply_93 (lv_at hl 2 rfl) ?_
  refine lv_bipush (v := 8) hx hb d_DS_reply_95 (by decide) ?_
  refine lv_topi (fun x44 e43 => ?_)
  obtain rfl : x44 = nI 8 := by rw [e43]; rfl
  have hPc := hP.sub (ws' := [(dr, .inr (2, [.ref rr, .int (nI ((dl + 1) + 1))])), (rr, .inl ((cT 0), 1000, .inl (upd (upd fp dl (24 &&& 255)) (dl + 1) ((8 + 2) &&& 255)))), (ar, .inl ((cT 0), 72, .inl fa))]) [11, 12, 2] rfl
  have hDc := hD.sub (ws' := [(dr, .inr (2, [.ref rr, .int (nI ((dl + 1) + 1))])), (rr, .inl ((cT 0), 1000, .inl (upd (upd fp dl (24 &&& 255)) (dl + 1) ((8 + 2) &&& 255)))), (ar, .inl ((cT 0), 72, .inl fa))]) [11, 12, 2] (by decide) rfl
  have hFc := va_free (wc := [(dr, .inr (2, [.ref rr, .int (nI ((dl + 1) + 1))])), (rr, .inl ((cT 0), 1000, .inl (upd (upd fp dl (24 &&& 255)) (dl + 1) ((8 + 2) &&& 255)))), (ar, .inl ((cT 0), 72, .inl fa))]) hD hS hA [11, 12, 2] rfl
  refine va_callv (va_runU (C := "DoorServer$Packet") (owner := "DoorServer$Bytes") (x := y_Pk_appendRow) (As := [.ref ar, .int (nI 22), .int (nI 8)]) (rest := []) ⟨hx, hb, hml, hown, hg⟩ (c_Pk_row l dC dI cT H.size dr rr 1000 ((dl + 1) + 1) (upd (upd fp dl (24 &&& 255)) (dl + 1) ((8 + 2) &&& 255)) ar 72 fa 22 8 (by omega) (by decide) (by decide) (by decide)) (va_cwU 3 hg (gI (List.forall_mem_append.mpr ⟨List.forall_mem_cons.mpr ⟨k_624, List.forall_mem_cons.mpr ⟨k_625, List.forall_mem_cons.mpr ⟨k_627, List.forall_mem_cons.mpr ⟨k_574, List.forall_mem_cons.mpr ⟨k_2, fun _ h => absurd h List.not_mem_nil⟩⟩⟩⟩⟩, List.forall_mem_cons.mpr ⟨k_578, fun _ h => h⟩⟩)) rfl rfl rfl rfl (by decide +kernel) ⟨Nat.le_of_ble_eq_true rfl, Nat.le_of_ble_eq_true rfl⟩) ⟨fun a U g mk q => by obtain ⟨q0, q1, qP, qK, qD⟩ := q; exact ⟨q0, q1, qP, va_K.moved (u := U) (U := U.calling g mk a) (Vm.Alike.refl U.vm) qK, qD⟩, va_recv (q0 := 11) (ci := 2) hK hP rfl rfl, fun U hU hW => ⟨rfl, by rw [hU], by rw [hU]; exact hPc, va_K.moved hW.alike hK, hDc.weaken (fun _ _ _ _ => trivial)⟩⟩ rfl rfl hl.1 rfl (lv_room (Nat.le_of_ble_eq_true rfl)) d_DS_reply_97 ⟨Nat.le_of_ble_eq_true rfl, Nat.le_of_ble_eq_true rfl⟩) hS (fun q _ h => hFc q h) hFc (fun u t H1 locs ht hvm hw hB hz1 hk1 hS => ?_)
  obtain ⟨g_45, rfl⟩ : ∃ z, z = u := ⟨_, rfl⟩
  try dsimp only at hw hB
  obtain ⟨hP1, hK1, hD1⟩ := hB
  rw [ht] at hP1
  obtain ⟨hP, hD⟩ := va_join (wr := [(sv, .inr (5, [.ref se, .ref pw, .ref g0, .ref ty, .ref an, .ref aw, .ref ts, .ref ss, .ref rq, .int tm, .int n3, .int n4])), (an, .inr (2, [.ref ar, .int (nI al)])), (g0, .inr (3, [.ref tx, .ref wo, .ref di, .int va, .int vb, .int vc, .int vd])), (tx, .inr (1, [.ref tr, .int (nI len)])), (tr, .inl ((cT 0), 1192, .inl f)), (wo, .inl ((cT 0), 16, .inl fw)), (di, .inl ((cT 0), 16, .inl fd)), (ds, .inr (0, [.ref dr, .ref sv])), (ty, .inr (1, [.ref yr, .int (nI k)])), (yr, .inl ((cT 0), 64, .inl g_40))]) (w1 := [(dr, .inr (2, [.ref rr, .int (nI (((dl + 1) + 1) + 8))])), (rr, .inl ((cT 0), 1000, .inl g_45)), (ar, .inl ((cT 0), 72, .inl fa))]) hP hD [11, 12, 2] [0, 1, 3, 4, 5, 6, 7, 8, 9, 10] rfl rfl (by decide) (by decide) hk1 hFc hP1 hD1
  have hw46 := hw
  clear hPc hDc hFc hz1 hk1 hP1 hK1 hD1
  generalize H1 = H at hP hS ⊢
  have hP : va_P (dC, dI) vcl [(sv, .inr (5, [.ref se, .ref pw, .ref g0, .ref ty, .ref an, .ref aw, .ref ts, .ref ss, .ref rq, .int tm, .int n3, .int n4])), (an, .inr (2, [.ref ar, .int (nI al)])), (g0, .inr (3, [.ref tx, .ref wo, .ref di, .int va, .int vb, .int vc, .int vd])), (tx, .inr (1, [.ref tr, .int (nI len)])), (tr, .inl ((cT 0), 1192, .inl f)), (wo, .inl ((cT 0), 16, .inl fw)), (di, .inl ((cT 0), 16, .inl fd)), (ds, .inr (0, [.ref dr, .ref sv])), (ty, .inr (1, [.ref yr, .int (nI k)])), (yr, .inl ((cT 0), 64, .inl g_40)), (dr, .inr (2, [.ref rr, .int (nI (((dl + 1) + 1) + 8))])), (rr, .inl ((cT 0), 1000, .inl g_45)), (ar, .inl ((cT 0), 72, .inl fa))] H := hP
  have hD : va_D A [(sv, .inr (5, [.ref se, .ref pw, .ref g0, .ref ty, .ref an, .ref aw, .ref ts, .ref ss, .ref rq, .int tm, .int n3, .int n4])), (an, .inr (2, [.ref ar, .int (nI al)])), (g0, .inr (3, [.ref tx, .ref wo, .ref di, .int va, .int vb, .int vc, .int vd])), (tx, .inr (1, [.ref tr, .int (nI len)])), (tr, .inl ((cT 0), 1192, .inl f)), (wo, .inl ((cT 0), 16, .inl fw)), (di, .inl ((cT 0), 16, .inl fd)), (ds, .inr (0, [.ref dr, .ref sv])), (ty, .inr (1, [.ref yr, .int (nI k)])), (yr, .inl ((cT 0), 64, .inl g_40)), (dr, .inr (2, [.ref rr, .int (nI (((dl + 1) + 1) + 8))])), (rr, .inl ((cT 0), 1000, .inl g_45)), (ar, .inl ((cT 0), 72, .inl fa))] := hD
  refine lv_aload_n hx hb d_DS_reply_100 rfl (lv_at hl 4 rfl) ?_
  refine va_get (D := (dC, dI)) (ci := 0) (v := (.ref dr)) (C := R_DS) (T := F_DS) (N := 2) hx hb hg in_DS hown hK hP 7 rfl rfl 0 (by decide) (hg _ k_368) (fun _ h9 => h9) rfl d_DS_reply_101 ?_
  refine lv_iconst (v := 2) hx hb d_DS_reply_104 (by decide) ?_
  refine lv_iload hx hb d_DS_reply_105 (lv_at hl 0 rfl) ?_
  refine lv_bipush (v := 22) hx hb d_DS_reply_107 (by decide) ?_
  have hPc := hP.sub (ws' := [(dr, .inr (2, [.ref rr, .int (nI ((dl + 1) + 1 + 8))])), (rr, .inl ((cT 0), 1000, .inl g_45))]) [10, 11] rfl
  have hDc := hD.sub (ws' := [(dr, .inr (2, [.ref rr, .int (nI ((dl + 1) + 1 + 8))])), (rr, .inl ((cT 0), 1000, .inl g_45))]) [10, 11] (by decide) rfl
  have hFc := va_free (wc := [(dr, .inr (2, [.ref rr, .int (nI ((dl + 1) + 1 + 8))])), (rr, .inl ((cT 0), 1000, .inl g_45))]) hD hS hA [10, 11] rfl
  refine va_callv (va_runV (C := "DoorServer$Packet") (As := [.int 2, .int (fa 33), .int 22]) (rest := []) ⟨hx, hb, hml, hown, hg⟩ (c_Pk_talk l dC dI cT H.size dr rr 1000 ((dl + 1) + 1 + 8) g_45 2 (fa 33) 22 (by omega) (by decide)) (cwV 3 hg (gI (List.forall_mem_append.mpr ⟨List.forall_mem_cons.mpr ⟨k_612, List.forall_mem_cons.mpr ⟨k_613, List.forall_mem_cons.mpr ⟨k_614, List.forall_mem_cons.mpr ⟨k_3, fun _ h => absurd h List.not_mem_nil⟩⟩⟩⟩, List.forall_mem_cons.mpr ⟨k_615, fun _ h => h⟩⟩)) rfl rfl rfl (by decide +kernel) ⟨Nat.le_of_ble_eq_true rfl, Nat.le_of_ble_eq_true rfl⟩) ⟨fun a U g mk q => by obtain ⟨q0, q1, qP, qK, qD⟩ := q; exact ⟨q0, q1, qP, va_K.moved (u := U) (U := U.calling g mk a) (Vm.Alike.refl U.vm) qK, qD⟩, va_recv (q0 := 10) (ci := 2) hK hP rfl rfl, fun U hU hW => ⟨rfl, by rw [hU], by rw [hU]; exact hPc, va_K.moved hW.alike hK, hDc.weaken (fun _ _ _ _ => trivial)⟩⟩ rfl rfl hl.1 rfl (lv_room (Nat.le_of_ble_eq_true rfl)) d_DS_reply_109 ⟨Nat.le_of_ble_eq_true rfl, Nat.le_of_ble_eq_true rfl⟩) hS (fun q _ h => hFc q h) hFc (fun u t H1 locs ht hvm hw hB hz1 hk1 hS => ?_)
  obtain ⟨g_47, rfl⟩ : ∃ z, z = u := ⟨_, rfl⟩
  try dsimp only at hw hB
  obtain ⟨hP1, hK1, hD1⟩ := hB
  rw [ht] at hP1
  obtain ⟨hP, hD⟩ := va_join (wr := [(sv, .inr (5, [.ref se, .ref pw, .ref g0, .ref ty, .ref an, .ref aw, .ref ts, .ref ss, .ref rq, .int tm, .int n3, .int n4])), (an, .inr (2, [.ref ar, .int (nI al)])), (g0, .inr (3, [.ref tx, .ref wo, .ref di, .int va, .int vb, .int vc, .int vd])), (tx, .inr (1, [.ref tr, .int (nI len)])), (tr, .inl ((cT 0), 1192, .inl f)), (wo, .inl ((cT 0), 16, .inl fw)), (di, .inl ((cT 0), 16, .inl fd)), (ds, .inr (0, [.ref dr, .ref sv])), (ty, .inr (1, [.ref yr, .int (nI k)])), (yr, .inl ((cT 0), 64, .inl g_40)), (ar, .inl ((cT 0), 72, .inl fa))]) (w1 := [(dr, .inr (2, [.ref rr, .int (nI (((dl + 1) + 1 + 8) + 6))])), (rr, .inl ((cT 0), 1000, .inl g_47))]) hP hD [10, 11] [0, 1, 2, 3, 4, 5, 6, 7, 8, 9, 12] rfl rfl (by decide) (by decide) hk1 hFc hP1 hD1
  have hw48 := hw
  clear hPc hDc hFc hz1 hk1 hP1 hK1 hD1
  generalize H1 = H at hP hS ⊢
  have hP : va_P (dC, dI) vcl [(sv, .inr (5, [.ref se, .ref pw, .ref g0, .ref ty, .ref an, .ref aw, .ref ts, .ref ss, .ref rq, .int tm, .int n3, .int n4])), (an, .inr (2, [.ref ar, .int (nI al)])), (g0, .inr (3, [.ref tx, .ref wo, .ref di, .int va, .int vb, .int vc, .int vd])), (tx, .inr (1, [.ref tr, .int (nI len)])), (tr, .inl ((cT 0), 1192, .inl f)), (wo, .inl ((cT 0), 16, .inl fw)), (di, .inl ((cT 0), 16, .inl fd)), (ds, .inr (0, [.ref dr, .ref sv])), (ty, .inr (1, [.ref yr, .int (nI k)])), (yr, .inl ((cT 0), 64, .inl g_40)), (ar, .inl ((cT 0), 72, .inl fa)), (dr, .inr (2, [.ref rr, .int (nI (((dl + 1) + 1 + 8) + 6))])), (rr, .inl ((cT 0), 1000, .inl g_47))] H := hP
  have hD : va_D A [(sv, .inr (5, [.ref se, .ref pw, .ref g0, .ref ty, .ref an, .ref aw, .ref ts, .ref ss, .ref rq, .int tm, .int n3, .int n4])), (an, .inr (2, [.ref ar, .int (nI al)])), (g0, .inr (3, [.ref tx, .ref wo, .ref di, .int va, .int vb, .int vc, .int vd])), (tx, .inr (1, [.ref tr, .int (nI len)])), (tr, .inl ((cT 0), 1192, .inl f)), (wo, .inl ((cT 0), 16, .inl fw)), (di, .inl ((cT 0), 16, .inl fd)), (ds, .inr (0, [.ref dr, .ref sv])), (ty, .inr (1, [.ref yr, .int (nI k)])), (yr, .inl ((cT 0), 64, .inl g_40)), (ar, .inl ((cT 0), 72, .inl fa)), (dr, .inr (2, [.ref rr, .int (nI (((dl + 1) + 1 + 8) + 6))])), (rr, .inl ((cT 0), 1000, .inl g_47))] := hD
  refine lv_aload_n hx hb d_DS_reply_112 rfl (lv_at hl 4 rfl) ?_
  refine va_get (D := (dC, dI)) (ci := 0) (v := (.ref dr)) (C := R_DS) (T := F_DS) (N := 2) hx hb hg in_DS hown hK hP 7 rfl rfl 0 (by decide) (hg _ k_368) (fun _ h9 => h9) rfl d_DS_reply_113 ?_
  refine lv_iconst (v := 4) hx hb d_DS_reply_116 (by decide) ?_
  have hPc := hP.sub (ws' := [(dr, .inr (2, [.ref rr, .int (nI ((dl + 1) + 1 + 8 + 6))])), (rr, .inl ((cT 0), 1000, .inl g_47))]) [11, 12] rfl
  have hDc := hD.sub (ws' := [(dr, .inr (2, [.ref rr, .int (nI ((dl + 1) + 1 + 8 + 6))])), (rr, .inl ((cT 0), 1000, .inl g_47))]) [11, 12] (by decide) rfl
  have hFc := va_free (wc := [(dr, .inr (2, [.ref rr, .int (nI ((dl + 1) + 1 + 8 + 6))])), (rr, .inl ((cT 0), 1000, .inl g_47))]) hD hS hA [11, 12] rfl
  refine va_callv (va_runU (C := "DoorServer$Packet") (owner := "DoorServer$Bytes") (x := y_Pk_append) (As := [.int 4]) (rest := []) ⟨hx, hb, hml, hown, hg⟩ (c_Pk_append l dC dI cT H.size dr rr 1000 ((dl + 1) + 1 + 8 + 6) g_47 4 (by omega) (by decide)) (va_cwU 1 hg (gI (List.forall_mem_append.mpr ⟨List.forall_mem_cons.mpr ⟨k_523, List.forall_mem_cons.mpr ⟨k_73, List.forall_mem_cons.mpr ⟨k_75, List.forall_mem_cons.mpr ⟨k_76, List.forall_mem_cons.mpr ⟨k_2, fun _ h => absurd h List.not_mem_nil⟩⟩⟩⟩⟩, List.forall_mem_cons.mpr ⟨k_77, fun _ h => h⟩⟩)) rfl rfl rfl rfl (by decide +kernel) ⟨Nat.le_of_ble_eq_true rfl, Nat.le_of_ble_eq_true rfl⟩) ⟨fun a U g mk q => by obtain ⟨q0, q1, qP, qK, qD⟩ := q; exact ⟨q0, q1, qP, va_K.moved (u := U) (U := U.calling g mk a) (Vm.Alike.refl U.vm) qK, qD⟩, va_recv (q0 := 11) (ci := 2) hK hP rfl rfl, fun U hU hW => ⟨rfl, by rw [hU], by rw [hU]; exact hPc, va_K.moved hW.alike hK, hDc.weaken (fun _ _ _ _ => trivial)⟩⟩ rfl rfl hl.1 rfl (lv_room (Nat.le_of_ble_eq_true rfl)) d_DS_reply_117 ⟨Nat.le_of_ble_eq_true rfl, Nat.le_of_ble_eq_true rfl⟩) hS (fun q _ h => hFc q h) hFc (fun u t H1 locs ht hvm hw hB hz1 hk1 hS => ?_)
  try dsimp only at hw hB
  obtain ⟨hP1, hK1, hD1⟩ := hB
  rw [ht] at hP1
  obtain ⟨hP, hD⟩ := va_join (wr := [(sv, .inr (5, [.ref se, .ref pw, .ref g0, .ref ty, .ref an, .ref aw, .ref ts, .ref ss, .ref rq, .int tm, .int n3, .int n4])), (an, .inr (2, [.ref ar, .int (nI al)])), (g0, .inr (3, [.ref tx, .ref wo, .ref di, .int va, .int vb, .int vc, .int vd])), (tx, .inr (1, [.ref tr, .int (nI len)])), (tr, .inl ((cT 0), 1192, .inl f)), (wo, .inl ((cT 0), 16, .inl fw)), (di, .inl ((cT 0), 16, .inl fd)), (ds, .inr (0, [.ref dr, .ref sv])), (ty, .inr (1, [.ref yr, .int (nI k)])), (yr, .inl ((cT 0), 64, .inl g_40)), (ar, .inl ((cT 0), 72, .inl fa))]) (w1 := [(dr, .inr (2, [.ref rr, .int (nI (((dl + 1) + 1 + 8 + 6) + 1))])), (rr, .inl ((cT 0), 1000, .inl (upd g_47 ((dl + 1) + 1 + 8 + 6) (4 &&& 255))))]) hP hD [11, 12] [0, 1, 2, 3, 4, 5, 6, 7, 8, 9, 10] rfl rfl (by decide) (by decide) hk1 hFc hP1 hD1
  have hw49 := hw
  clear hPc hDc hFc hz1 hk1 hP1 hK1 hD1
  generalize H1 = H at hP hS ⊢
  have hP : va_P (dC, dI) vcl [(sv, .inr (5, [.ref se, .ref pw, .ref g0, .ref ty, .ref an, .ref aw, .ref ts, .ref ss, .ref rq, .int tm, .int n3, .int n4])), (an, .inr (2, [.ref ar, .int (nI al)])), (g0, .inr (3, [.ref tx, .ref wo, .ref di, .int va, .int vb, .int vc, .int vd])), (tx, .inr (1, [.ref tr, .int (nI len)])), (tr, .inl ((cT 0), 1192, .inl f)), (wo, .inl ((cT 0), 16, .inl fw)), (di, .inl ((cT 0), 16, .inl fd)), (ds, .inr (0, [.ref dr, .ref sv])), (ty, .inr (1, [.ref yr, .int (nI k)])), (yr, .inl ((cT 0), 64, .inl g_40)), (ar, .inl ((cT 0), 72, .inl fa)), (dr, .inr (2, [.ref rr, .int (nI (((dl + 1) + 1 + 8 + 6) + 1))])), (rr, .inl ((cT 0), 1000, .inl (upd g_47 ((dl + 1) + 1 + 8 + 6) (4 &&& 255))))] H := hP
  have hD : va_D A [(sv, .inr (5, [.ref se, .ref pw, .ref g0, .ref ty, .ref an, .ref aw, .ref ts, .ref ss, .ref rq, .int tm, .int n3, .int n4])), (an, .inr (2, [.ref ar, .int (nI al)])), (g0, .inr (3, [.ref tx, .ref wo, .ref di, .int va, .int vb, .int vc, .int vd])), (tx, .inr (1, [.ref tr, .int (nI len)])), (tr, .inl ((cT 0), 1192, .inl f)), (wo, .inl ((cT 0), 16, .inl fw)), (di, .inl ((cT 0), 16, .inl fd)), (ds, .inr (0, [.ref dr, .ref sv])), (ty, .inr (1, [.ref yr, .int (nI k)])), (yr, .inl ((cT 0), 64, .inl g_40)), (ar, .inl ((cT 0), 72, .inl fa)), (dr, .inr (2, [.ref rr, .int (nI (((dl + 1) + 1 + 8 + 6) + 1))])), (rr, .inl ((cT 0), 1000, .inl (upd g_47 ((dl + 1) + 1 + 8 + 6) (4 &&& 255))))] := hD
  refine lv_aload_n hx hb d_DS_reply_120 rfl (lv_at hl 4 rfl) ?_
  refine va_get (D := (dC, dI)) (ci := 0) (v := (.ref dr)) (C := R_DS) (T := F_DS) (N := 2) hx hb hg in_DS hown hK hP 7 rfl rfl 0 (by decide) (hg _ k_368) (fun _ h9 => h9) rfl d_DS_reply_121 ?_
  refine lv_bipush (v := 16) hx hb d_DS_reply_124 (by decide) ?_
  have hPc := hP.sub (ws' := [(dr, .inr (2, [.ref rr, .int (nI ((dl + 1) + 1 + 8 + 6 + 1))])), (rr, .inl ((cT 0), 1000, .inl (upd g_47 ((dl + 1) + 1 + 8 + 6) (4 &&& 255))))]) [11, 12] rfl
  have hDc := hD.sub (ws' := [(dr, .inr (2, [.ref rr, .int (nI ((dl + 1) + 1 + 8 + 6 + 1))])), (rr, .inl ((cT 0), 1000, .inl (upd g_47 ((dl + 1) + 1 + 8 + 6) (4 &&& 255))))]) [11, 12] (by decide) rfl
  have hFc := va_free (wc := [(dr, .inr (2, [.ref rr, .int (nI ((dl + 1) + 1 + 8 + 6 + 1))])), (rr, .inl ((cT 0), 1000, .inl (upd g_47 ((dl + 1) + 1 + 8 + 6) (4 &&& 255))))]) hD hS hA [11, 12] rfl
  refine va_callv (va_runU (C := "DoorServer$Packet") (owner := "DoorServer$Bytes") (x := y_Pk_append) (As := [.int 16]) (rest := []) ⟨hx, hb, hml, hown, hg⟩ (c_Pk_append l dC dI cT H.size dr rr 1000 ((dl + 1) + 1 + 8 + 6 + 1) (upd g_47 ((dl + 1) + 1 + 8 + 6) (4 &&& 255)) 16 (by omega) (by decide)) (va_cwU 1 hg (gI (List.forall_mem_append.mpr ⟨List.forall_mem_cons.mpr ⟨k_523, List.forall_mem_cons.mpr ⟨k_73, List.forall_mem_cons.mpr ⟨k_75, List.forall_mem_cons.mpr ⟨k_76, List.forall_mem_cons.mpr ⟨k_2, fun _ h => absurd h List.not_mem_nil⟩⟩⟩⟩⟩, List.forall_mem_cons.mpr ⟨k_77, fun _ h => h⟩⟩)) rfl rfl rfl rfl (by decide +kernel) ⟨Nat.le_of_ble_eq_true rfl, Nat.le_of_ble_eq_true rfl⟩) ⟨fun a U g mk q => by obtain ⟨q0, q1, qP, qK, qD⟩ := q; exact ⟨q0, q1, qP, va_K.moved (u := U) (U := U.calling g mk a) (Vm.Alike.refl U.vm) qK, qD⟩, va_recv (q0 := 11) (ci := 2) hK hP rfl rfl, fun U hU hW => ⟨rfl, by rw [hU], by rw [hU]; exact hPc, va_K.moved hW.alike hK, hDc.weaken (fun _ _ _ _ => trivial)⟩⟩ rfl rfl hl.1 rfl (lv_room (Nat.le_of_ble_eq_true rfl)) d_DS_reply_126 ⟨Nat.le_of_ble_eq_true rfl, Nat.le_of_ble_eq_true rfl⟩) hS (fun q _ h => hFc q h) hFc (fun u t H1 locs ht hvm hw hB hz1 hk1 hS => ?_)
  try dsimp only at hw hB
  obtain ⟨hP1, hK1, hD1⟩ := hB
  rw [ht] at hP1
  obtain ⟨hP, hD⟩ := va_join (wr := [(sv, .inr (5, [.ref se, .ref pw, .ref g0, .ref ty, .ref an, .ref aw, .ref ts, .ref ss, .ref rq, .int tm, .int n3, .int n4])), (an, .inr (2, [.ref ar, .int (nI al)])), (g0, .inr (3, [.ref tx, .ref wo, .ref di, .int va, .int vb, .int vc, .int vd])), (tx, .inr (1, [.ref tr, .int (nI len)])), (tr, .inl ((cT 0), 1192, .inl f)), (wo, .inl ((cT 0), 16, .inl fw)), (di, .inl ((cT 0), 16, .inl fd)), (ds, .inr (0, [.ref dr, .ref sv])), (ty, .inr (1, [.ref yr, .int (nI k)])), (yr, .inl ((cT 0), 64, .inl g_40)), (ar, .inl ((cT 0), 72, .inl fa))]) (w1 := [(dr, .inr (2, [.ref rr, .int (nI (((dl + 1) + 1 + 8 + 6 + 1) + 1))])), (rr, .inl ((cT 0), 1000, .inl (upd (upd g_47 ((dl + 1) + 1 + 8 + 6) (4 &&& 255)) ((dl + 1) + 1 + 8 + 6 + 1) (16 &&& 255))))]) hP hD [11, 12] [0, 1, 2, 3, 4, 5, 6, 7, 8, 9, 10] rfl rfl (by decide) (by decide) hk1 hFc hP1 hD1
  have hw50 := hw
  clear hPc hDc hFc hz1 hk1 hP1 hK1 hD1
  generalize H1 = H at hP hS ⊢
  have hP : va_P (dC, dI) vcl [(sv, .inr (5, [.ref se, .ref pw, .ref g0, .ref ty, .ref an, .ref aw, .ref ts, .ref ss, .ref rq, .int tm, .int n3, .int n4])), (an, .inr (2, [.ref ar, .int (nI al)])), (g0, .inr (3, [.ref tx, .ref wo, .ref di, .int va, .int vb, .int vc, .int vd])), (tx, .inr (1, [.ref tr, .int (nI len)])), (tr, .inl ((cT 0), 1192, .inl f)), (wo, .inl ((cT 0), 16, .inl fw)), (di, .inl ((cT 0), 16, .inl fd)), (ds, .inr (0, [.ref dr, .ref sv])), (ty, .inr (1, [.ref yr, .int (nI k)])), (yr, .inl ((cT 0), 64, .inl g_40)), (ar, .inl ((cT 0), 72, .inl fa)), (dr, .inr (2, [.ref rr, .int (nI (((dl + 1) + 1 + 8 + 6 + 1) + 1))])), (rr, .inl ((cT 0), 1000, .inl (upd (upd g_47 ((dl + 1) + 1 + 8 + 6) (4 &&& 255)) ((dl + 1) + 1 + 8 + 6 + 1) (16 &&& 255))))] H := hP
  have hD : va_D A [(sv, .inr (5, [.ref se, .ref pw, .ref g0, .ref ty, .ref an, .ref aw, .ref ts, .ref ss, .ref rq, .int tm, .int n3, .int n4])), (an, .inr (2, [.ref ar, .int (nI al)])), (g0, .inr (3, [.ref tx, .ref wo, .ref di, .int va, .int vb, .int vc, .int vd])), (tx, .inr (1, [.ref tr, .int (nI len)])), (tr, .inl ((cT 0), 1192, .inl f)), (wo, .inl ((cT 0), 16, .inl fw)), (di, .inl ((cT 0), 16, .inl fd)), (ds, .inr (0, [.ref dr, .ref sv])), (ty, .inr (1, [.ref yr, .int (nI k)])), (yr, .inl ((cT 0), 64, .inl g_40)), (ar, .inl ((cT 0), 72, .inl fa)), (dr, .inr (2, [.ref rr, .int (nI (((dl + 1) + 1 + 8 + 6 + 1) + 1))])), (rr, .inl ((cT 0), 1000, .inl (upd (upd g_47 ((dl + 1) + 1 + 8 + 6) (4 &&& 255)) ((dl + 1) + 1 + 8 + 6 + 1) (16 &&& 255))))] := hD
  refine lv_aload_n hx hb d_DS_reply_129 rfl (lv_at hl 4 rfl) ?_
  refine va_get (D := (dC, dI)) (ci := 0) (v := (.ref dr)) (C := R_DS) (T := F_DS) (N := 2) hx hb hg in_DS hown hK hP 7 rfl rfl 0 (by decide) (hg _ k_368) (fun _ h9 => h9) rfl d_DS_reply_130 ?_
  refine lv_aload_n hx hb d_DS_reply_133 rfl (lv_at hl 4 rfl) ?_
  refine va_get (D := (dC, dI)) (ci := 0) (v := (.ref sv)) (C := R_DS) (T := F_DS) (N := 2) hx hb hg in_DS hown hK hP 7 rfl rfl 1 (by decide) (hg _ k_369) (fun _ h9 => h9) rfl d_DS_reply_134 ?_
  refine va_get (D := (dC, dI)) (ci := 5) (v := (.ref g0)) (C := R_Sv) (T := F_Sv) (N := 12) hx hb hg in_Sv hown hK hP 0 rfl rfl 2 (by decide) (hg _ k_325) (fun _ h9 => h9) rfl d_DS_reply_137 ?_
  refine lv_iload hx hb d_DS_reply_140 (lv_at hl 0 rfl) ?_
  refine lv_aload_n hx hb d_DS_reply_142 rfl (lv_at hl 4 rfl) ?_
  refine va_get (D := (dC, dI)) (ci := 0) (v := (.ref sv)) (C := R_DS) (T := F_DS) (N := 2) hx hb hg in_DS hown hK hP 7 rfl rfl 1 (by decide) (hg _ k_369) (fun _ h9 => h9) rfl d_DS_reply_143 ?_
  refine va_get (D := (dC, dI)) (ci := 5) (v := (.ref ty)) (C := R_Sv) (T := F_Sv) (N := 12) hx hb hg in_Sv hown hK hP 0 rfl rfl 3 (by decide) (hg _ k_327) (fun _ h9 => h9) rfl d_DS_reply_146 ?_
  refine lv_aload hx hb d_DS_reply_149 (lv_at hl 3 rfl) ?_
  refine va_get (D := (dC, dI)) (ci := 2) (v := (.ref ar)) (C := R_Pk) (T := F_Pk) (N := 2) hx hb hg in_Pk hown hK hP 1 rfl rfl 0 (by decide) (hg _ k_49) (fun x9 h9 => u_same (hg _ k_41) x9 h9) rfl d_DS_reply_151 ?_
  refine lv_iload hx hb d_DS_reply_154 (lv_at hl 1 rfl) ?_
  refine lv_bipush (v := 6) hx hb d_DS_reply_156 (by decide) ?_
  refine lv_iadd hx hb d_DS_reply_158 ?_
  refine lv_topi (fun x52 e51 => ?_)
  obtain rfl : x52 = nI 38 := by rw [e51]; rfl
  have hPc := hP.sub (ws' := [(g0, .inr (3, [.ref tx, .ref wo, .ref di, .int va, .int vb, .int vc, .int vd])), (tx, .inr (1, [.ref tr, .int (nI len)])), (tr, .inl ((cT 0), 1192, .inl f)), (wo, .inl ((cT 0), 16, .inl fw)), (di, .inl ((cT 0), 16, .inl fd)), (ty, .inr (1, [.ref yr, .int (nI k)])), (yr, .inl ((cT 0), 64, .inl g_40)), (ar, .inl ((cT 0), 72, .inl fa))]) [2, 3, 4, 5, 6, 8, 9, 10] rfl
  have hDc := hD.sub (ws' := [(g0, .inr (3, [.ref tx, .ref wo, .ref di, .int va, .int vb, .int vc, .int vd])), (tx, .inr (1, [.ref tr, .int (nI len)])), (tr, .inl ((cT 0), 1192, .inl f)), (wo, .inl ((cT 0), 16, .inl fw)), (di, .inl ((cT 0), 16, .inl fd)), (ty, .inr (1, [.ref yr, .int (nI k)])), (yr, .inl ((cT 0), 64, .inl g_40)), (ar, .inl ((cT 0), 72, .inl fa))]) [2, 3, 4, 5, 6, 8, 9, 10] (by decide) rfl
  have hFc := va_free (wc := [(g0, .inr (3, [.ref tx, .ref wo, .ref di, .int va, .int vb, .int vc, .int vd])), (tx, .inr (1, [.ref tr, .int (nI len)])), (tr, .inl ((cT 0), 1192, .inl f)), (wo, .inl ((cT 0), 16, .inl fw)), (di, .inl ((cT 0), 16, .inl fd)), (ty, .inr (1, [.ref yr, .int (nI k)])), (yr, .inl ((cT 0), 64, .inl g_40)), (ar, .inl ((cT 0), 72, .inl fa))]) hD hS hA [2, 3, 4, 5, 6, 8, 9, 10] rfl
  refine va_callr (va_runV (C := "DoorServer$Digests") (As := [.int (fa 33), .ref ty, .ref ar, .int (nI 38)]) (rest := [.ref dr]) ⟨hx, hb, hml, hown, hg⟩ (c_Dg_reply l dC dI cT H.size g0 tx tr wo di va vb vc vd len f fw fd ty yr 64 k g_40 ar 72 fa 38 (fa 33) (by omega) (by decide) (by decide) (by decide) (by omega)) (cwV 4 hg (gI (List.forall_mem_append.mpr ⟨List.forall_mem_cons.mpr ⟨k_628, List.forall_mem_cons.mpr ⟨k_629, List.forall_mem_cons.mpr ⟨k_630, List.forall_mem_cons.mpr ⟨k_5, fun _ h => absurd h List.not_mem_nil⟩⟩⟩⟩, List.forall_mem_cons.mpr ⟨k_631, fun _ h => h⟩⟩)) rfl rfl rfl (by decide +kernel) ⟨Nat.le_of_ble_eq_true rfl, Nat.le_of_ble_eq_true rfl⟩) ⟨fun a U g mk q => by obtain ⟨q0, q1, qP, qK, qD, qE⟩ := q; exact ⟨q0, q1, qP, va_K.moved (u := U) (U := U.calling g mk a) (Vm.Alike.refl U.vm) qK, qD, qE.at (State.WarmedH.refl _) (fun _ _ _ => rfl) (fun _ h => h)⟩, va_recv (q0 := 2) (ci := 3) hK hP rfl rfl, fun U hU hW => ⟨rfl, by rw [hU], by rw [hU]; exact hPc, va_K.moved hW.alike hK, hDc.weaken (fun _ _ _ _ => trivial), by rw [hU]; exact hE.at hW hS.2.1 hFc⟩⟩ rfl rfl hl.1 rfl (lv_room (Nat.le_of_ble_eq_true rfl)) d_DS_reply_159 ⟨Nat.le_of_ble_eq_true rfl, Nat.le_of_ble_eq_true rfl⟩) hS (fun q _ h => hFc q h) hFc (fun u a9 t H1 locs ht hvm hw hB hz1 hk1 hS => ?_)
  obtain ⟨fw2_53, fd2_54, a2_55, b2_56, c2_57, d2_58, f2_59⟩ := u
  try dsimp only at hw hB
  obtain ⟨rfl, hP1, hK1, hD1⟩ := hB
  rw [ht] at hP1
  obtain ⟨hP, hD⟩ := va_join (wr := [(sv, .inr (5, [.ref se, .ref pw, .ref g0, .ref ty, .ref an, .ref aw, .ref ts, .ref ss, .ref rq, .int tm, .int n3, .int n4])), (an, .inr (2, [.ref ar, .int (nI al)])), (ds, .inr (0, [.ref dr, .ref sv])), (dr, .inr (2, [.ref rr, .int (nI (((dl + 1) + 1 + 8 + 6 + 1) + 1))])), (rr, .inl ((cT 0), 1000, .inl (upd (upd g_47 ((dl + 1) + 1 + 8 + 6) (4 &&& 255)) ((dl + 1) + 1 + 8 + 6 + 1) (16 &&& 255))))]) (w1 := [(g0, .inr (3, [.ref tx, .ref wo, .ref di, .int a2_55, .int b2_56, .int c2_57, .int d2_58])), (tx, .inr (1, [.ref tr, .int (nI (0 + 1 + k + 16))])), (tr, .inl ((cT 0), 1192, .inl f2_59)), (wo, .inl ((cT 0), 16, .inl fw2_53)), (di, .inl ((cT 0), 16, .inl fd2_54)), (ty, .inr (1, [.ref yr, .int (nI k)])), (yr, .inl ((cT 0), 64, .inl g_40)), (ar, .inl ((cT 0), 72, .inl fa))]) hP hD [2, 3, 4, 5, 6, 8, 9, 10] [0, 1, 7, 11, 12] rfl rfl (by decide) (by decide) hk1 hFc hP1 hD1
  have hw60 := hw
  clear hPc hDc hFc hz1 hk1 hP1 hK1 hD1
  generalize H1 = H at hP hS ⊢
  have hP : va_P (dC, dI) vcl [(sv, .inr (5, [.ref se, .ref pw, .ref g0, .ref ty, .ref an, .ref aw, .ref ts, .ref ss, .ref rq, .int tm, .int n3, .int n4])), (an, .inr (2, [.ref ar, .int (nI al)])), (ds, .inr (0, [.ref dr, .ref sv])), (dr, .inr (2, [.ref rr, .int (nI (((dl + 1) + 1 + 8 + 6 + 1) + 1))])), (rr, .inl ((cT 0), 1000, .inl (upd (upd g_47 ((dl + 1) + 1 + 8 + 6) (4 &&& 255)) ((dl + 1) + 1 + 8 + 6 + 1) (16 &&& 255)))), (g0, .inr (3, [.ref tx, .ref wo, .ref di, .int a2_55, .int b2_56, .int c2_57, .int d2_58])), (tx, .inr (1, [.ref tr, .int (nI (0 + 1 + k + 16))])), (tr, .inl ((cT 0), 1192, .inl f2_59)), (wo, .inl ((cT 0), 16, .inl fw2_53)), (di, .inl ((cT 0), 16, .inl fd2_54)), (ty, .inr (1, [.ref yr, .int (nI k)])), (yr, .inl ((cT 0), 64, .inl g_40)), (ar, .inl ((cT 0), 72, .inl fa))] H := hP
  have hD : va_D A [(sv, .inr (5, [.ref se, .ref pw, .ref g0, .ref ty, .ref an, .ref aw, .ref ts, .ref ss, .ref rq, .int tm, .int n3, .int n4])), (an, .inr (2, [.ref ar, .int (nI al)])), (ds, .inr (0, [.ref dr, .ref sv])), (dr, .inr (2, [.ref rr, .int (nI (((dl + 1) + 1 + 8 + 6 + 1) + 1))])), (rr, .inl ((cT 0), 1000, .inl (upd (upd g_47 ((dl + 1) + 1 + 8 + 6) (4 &&& 255)) ((dl + 1) + 1 + 8 + 6 + 1) (16 &&& 255)))), (g0, .inr (3, [.ref tx, .ref wo, .ref di, .int a2_55, .int b2_56, .int c2_57, .int d2_58])), (tx, .inr (1, [.ref tr, .int (nI (0 + 1 + k + 16))])), (tr, .inl ((cT 0), 1192, .inl f2_59)), (wo, .inl ((cT 0), 16, .inl fw2_53)), (di, .inl ((cT 0), 16, .inl fd2_54)), (ty, .inr (1, [.ref yr, .int (nI k)])), (yr, .inl ((cT 0), 64, .inl g_40)), (ar, .inl ((cT 0), 72, .inl fa))] := hD
  refine lv_iconst (v := 0) hx hb d_DS_reply_162 (by decide) ?_
  refine lv_topi (fun x62 e61 => ?_)
  obtain rfl : x62 = nI 0 := by rw [e61]; rfl
  refine lv_bipush (v := 16) hx hb d_DS_reply_163 (by decide) ?_
  refine lv_topi (fun x64 e63 => ?_)
  obtain rfl : x64 = nI 16 := by rw [e63]; rfl
  have hPc := hP.sub (ws' := [(dr, .inr (2, [.ref rr, .int (nI ((dl + 1) + 1 + 8 + 6 + 1 + 1))])), (rr, .inl ((cT 0), 1000, .inl (upd (upd g_47 ((dl + 1) + 1 + 8 + 6) (4 &&& 255)) ((dl + 1) + 1 + 8 + 6 + 1) (16 &&& 255)))), (di, .inl ((cT 0), 16, .inl fd2_54))]) [3, 4, 9] rfl
  have hDc := hD.sub (ws' := [(dr, .inr (2, [.ref rr, .int (nI ((dl + 1) + 1 + 8 + 6 + 1 + 1))])), (rr, .inl ((cT 0), 1000, .inl (upd (upd g_47 ((dl + 1) + 1 + 8 + 6) (4 &&& 255)) ((dl + 1) + 1 + 8 + 6 + 1) (16 &&& 255)))), (di, .inl ((cT 0), 16, .inl fd2_54))]) [3, 4, 9] (by decide) rfl
  have hFc := va_free (wc := [(dr, .inr (2, [.ref rr, .int (nI ((dl + 1) + 1 + 8 + 6 + 1 + 1))])), (rr, .inl ((cT 0), 1000, .inl (upd (upd g_47 ((dl + 1) + 1 + 8 + 6) (4 &&& 255)) ((dl + 1) + 1 + 8 + 6 + 1) (16 &&& 255)))), (di, .inl ((cT 0), 16, .inl fd2_54))]) hD hS hA [3, 4, 9] rfl
  refine va_callv (va_runU (C := "DoorServer$Packet") (owner := "DoorServer$Bytes") (x := y_Pk_appendRow) (As := [.ref di, .int (nI 0), .int (nI 16)]) (rest := []) ⟨hx, hb, hml, hown, hg⟩ (c_Pk_row l dC dI cT H.size dr rr 1000 ((dl + 1) + 1 + 8 + 6 + 1 + 1) (upd (upd g_47 ((dl + 1) + 1 + 8 + 6) (4 &&& 255)) ((dl + 1) + 1 + 8 + 6 + 1) (16 &&& 255)) di 16 fd2_54 0 16 (by omega) (by decide) (by decide) (by decide)) (va_cwU 3 hg (gI (List.forall_mem_append.mpr ⟨List.forall_mem_cons.mpr ⟨k_624, List.forall_mem_cons.mpr ⟨k_625, List.forall_mem_cons.mpr ⟨k_627, List.forall_mem_cons.mpr ⟨k_574, List.forall_mem_cons.mpr ⟨k_2, fun _ h => absurd h List.not_mem_nil⟩⟩⟩⟩⟩, List.forall_mem_cons.mpr ⟨k_578, fun _ h => h⟩⟩)) rfl rfl rfl rfl (by decide +kernel) ⟨Nat.le_of_ble_eq_true rfl, Nat.le_of_ble_eq_true rfl⟩) ⟨fun a U g mk q => by obtain ⟨q0, q1, qP, qK, qD⟩ := q; exact ⟨q0, q1, qP, va_K.moved (u := U) (U := U.calling g mk a) (Vm.Alike.refl U.vm) qK, qD⟩, va_recv (q0 := 3) (ci := 2) hK hP rfl rfl, fun U hU hW => ⟨rfl, by rw [hU], by rw [hU]; exact hPc, va_K.moved hW.alike hK, hDc.weaken (fun _ _ _ _ => trivial)⟩⟩ rfl rfl hl.1 rfl (lv_room (Nat.le_of_ble_eq_true rfl)) d_DS_reply_165 ⟨Nat.le_of_ble_eq_true rfl, Nat.le_of_ble_eq_true rfl⟩) hS (fun q _ h => hFc q h) hFc (fun u t H1 locs ht hvm hw hB hz1 hk1 hS => ?_)
  obtain ⟨g_65, rfl⟩ : ∃ z, z = u := ⟨_, rfl⟩
  try dsimp only at hw hB
  obtain ⟨hP1, hK1, hD1⟩ := hB
  rw [ht] at hP1
  obtain ⟨hP, hD⟩ := va_join (wr := [(sv, .inr (5, [.ref se, .ref pw, .ref g0, .ref ty, .ref an, .ref aw, .ref ts, .ref ss, .ref rq, .int tm, .int n3, .int n4])), (an, .inr (2, [.ref ar, .int (nI al)])), (ds, .inr (0, [.ref dr, .ref sv])), (g0, .inr (3, [.ref tx, .ref wo, .ref di, .int a2_55, .int b2_56, .int c2_57, .int d2_58])), (tx, .inr (1, [.ref tr, .int (nI (0 + 1 + k + 16))])), (tr, .inl ((cT 0), 1192, .inl f2_59)), (wo, .inl ((cT 0), 16, .inl fw2_53)), (ty, .inr (1, [.ref yr, .int (nI k)])), (yr, .inl ((cT 0), 64, .inl g_40)), (ar, .inl ((cT 0), 72, .inl fa))]) (w1 := [(dr, .inr (2, [.ref rr, .int (nI (((dl + 1) + 1 + 8 + 6 + 1 + 1) + 16))])), (rr, .inl ((cT 0), 1000, .inl g_65)), (di, .inl ((cT 0), 16, .inl fd2_54))]) hP hD [3, 4, 9] [0, 1, 2, 5, 6, 7, 8, 10, 11, 12] rfl rfl (by decide) (by decide) hk1 hFc hP1 hD1
  have hw66 := hw
  clear hPc hDc hFc hz1 hk1 hP1 hK1 hD1
  generalize H1 = H at hP hS ⊢
  have hP : va_P (dC, dI) vcl [(sv, .inr (5, [.ref se, .ref pw, .ref g0, .ref ty, .ref an, .ref aw, .ref ts, .ref ss, .ref rq, .int tm, .int n3, .int n4])), (an, .inr (2, [.ref ar, .int (nI al)])), (ds, .inr (0, [.ref dr, .ref sv])), (g0, .inr (3, [.ref tx, .ref wo, .ref di, .int a2_55, .int b2_56, .int c2_57, .int d2_58])), (tx, .inr (1, [.ref tr, .int (nI (0 + 1 + k + 16))])), (tr, .inl ((cT 0), 1192, .inl f2_59)), (wo, .inl ((cT 0), 16, .inl fw2_53)), (ty, .inr (1, [.ref yr, .int (nI k)])), (yr, .inl ((cT 0), 64, .inl g_40)), (ar, .inl ((cT 0), 72, .inl fa)), (dr, .inr (2, [.ref rr, .int (nI (((dl + 1) + 1 + 8 + 6 + 1 + 1) + 16))])), (rr, .inl ((cT 0), 1000, .inl g_65)), (di, .inl ((cT 0), 16, .inl fd2_54))] H := hP
  have hD : va_D A [(sv, .inr (5, [.ref se, .ref pw, .ref g0, .ref ty, .ref an, .ref aw, .ref ts, .ref ss, .ref rq, .int tm, .int n3, .int n4])), (an, .inr (2, [.ref ar, .int (nI al)])), (ds, .inr (0, [.ref dr, .ref sv])), (g0, .inr (3, [.ref tx, .ref wo, .ref di, .int a2_55, .int b2_56, .int c2_57, .int d2_58])), (tx, .inr (1, [.ref tr, .int (nI (0 + 1 + k + 16))])), (tr, .inl ((cT 0), 1192, .inl f2_59)), (wo, .inl ((cT 0), 16, .inl fw2_53)), (ty, .inr (1, [.ref yr, .int (nI k)])), (yr, .inl ((cT 0), 64, .inl g_40)), (ar, .inl ((cT 0), 72, .inl fa)), (dr, .inr (2, [.ref rr, .int (nI (((dl + 1) + 1 + 8 + 6 + 1 + 1) + 16))])), (rr, .inl ((cT 0), 1000, .inl g_65)), (di, .inl ((cT 0), 16, .inl fd2_54))] := hD
  refine lv_aload_n hx hb d_DS_reply_168 rfl (lv_at hl 4 rfl) ?_
  have hPc := hP.sub (ws' := [(ds, .inr (0, [.ref dr, .ref sv])), (dr, .inr (2, [.ref rr, .int (nI ((dl + 1) + 1 + 8 + 6 + 1 + 1 + 16))])), (rr, .inl ((cT 0), 1000, .inl g_65))]) [2, 10, 11] rfl
  have hDc := hD.sub (ws' := [(ds, .inr (0, [.ref dr, .ref sv])), (dr, .inr (2, [.ref rr, .int (nI ((dl + 1) + 1 + 8 + 6 + 1 + 1 + 16))])), (rr, .inl ((cT 0), 1000, .inl g_65))]) [2, 10, 11] (by decide) rfl
  have hFc := va_free (wc := [(ds, .inr (0, [.ref dr, .ref sv])), (dr, .inr (2, [.ref rr, .int (nI ((dl + 1) + 1 + 8 + 6 + 1 + 1 + 16))])), (rr, .inl ((cT 0), 1000, .inl g_65))]) hD hS hA [2, 10, 11] rfl
  refine va_calli (va_runV (C := "DoorServer") (As := []) (rest := []) ⟨hx, hb, hml, hown, hg⟩ (c_closed l dC dI cT H.size ds dr sv rr ((dl + 1) + 1 + 8 + 6 + 1 + 1 + 16) g_65 (by omega)) (cwV 0 hg (gI (List.forall_mem_append.mpr ⟨List.forall_mem_cons.mpr ⟨k_524, List.forall_mem_cons.mpr ⟨k_526, List.forall_mem_cons.mpr ⟨(big_sel (q := y_DS_closedDraft) (n := 2) (by decide +kernel)), List.forall_mem_cons.mpr ⟨k_1, fun _ h => absurd h List.not_mem_nil⟩⟩⟩⟩, List.forall_mem_cons.mpr ⟨k_527, fun _ h => h⟩⟩)) rfl rfl rfl (by decide +kernel) ⟨Nat.le_of_ble_eq_true rfl, Nat.le_of_ble_eq_true rfl⟩) ⟨fun a U g mk q => by obtain ⟨q0, q1, qP, qK, qD⟩ := q; exact ⟨q0, q1, qP, va_K.moved (u := U) (U := U.calling g mk a) (Vm.Alike.refl U.vm) qK, qD⟩, va_recv (q0 := 2) (ci := 0) hK hP rfl rfl, fun U hU hW => ⟨rfl, by rw [hU], by rw [hU]; exact hPc, va_K.moved hW.alike hK, hDc.weaken (fun _ _ _ _ => trivial)⟩⟩ rfl rfl hl.1 rfl (lv_room (Nat.le_of_ble_eq_true rfl)) d_DS_reply_169 ⟨Nat.le_of_ble_eq_true rfl, Nat.le_of_ble_eq_true rfl⟩) hS (fun q _ h => hFc q h) hFc (fun rv9 u t H1 locs ht hvm hw hB hz1 hk1 hS => ?_)
  try dsimp only at hw hB
  obtain ⟨hP1, hK1, hD1⟩ := hB
  rw [ht] at hP1
  obtain ⟨rfl, hw⟩ := hw
  obtain ⟨hP, hD⟩ := va_join (wr := [(sv, .inr (5, [.ref se, .ref pw, .ref g0, .ref ty, .ref an, .ref aw, .ref ts, .ref ss, .ref rq, .int tm, .int n3, .int n4])), (an, .inr (2, [.ref ar, .int (nI al)])), (g0, .inr (3, [.ref tx, .ref wo, .ref di, .int a2_55, .int b2_56, .int c2_57, .int d2_58])), (tx, .inr (1, [.ref tr, .int (nI (0 + 1 + k + 16))])), (tr, .inl ((cT 0), 1192, .inl f2_59)), (wo, .inl ((cT 0), 16, .inl fw2_53)), (ty, .inr (1, [.ref yr, .int (nI k)])), (yr, .inl ((cT 0), 64, .inl g_40)), (ar, .inl ((cT 0), 72, .inl fa)), (di, .inl ((cT 0), 16, .inl fd2_54))]) (w1 := [(ds, .inr (0, [.ref dr, .ref sv])), (dr, .inr (2, [.ref rr, .int (nI ((dl + 1) + 1 + 8 + 6 + 1 + 1 + 16))])), (rr, .inl ((cT 0), 1000, .inl (upd (upd g_65 2 (nI ((dl + 1) + 1 + 8 + 6 + 1 + 1 + 16) >>> (8 &&& 31))) 3 (nI ((dl + 1) + 1 + 8 + 6 + 1 + 1 + 16) &&& 255))))]) hP hD [2, 10, 11] [0, 1, 3, 4, 5, 6, 7, 8, 9, 12] rfl rfl (by decide) (by decide) hk1 hFc hP1 hD1
  have hw67 := hw
  clear hPc hDc hFc hz1 hk1 hP1 hK1 hD1
  generalize H1 = H at hP hS ⊢
  have hP : va_P (dC, dI) vcl [(sv, .inr (5, [.ref se, .ref pw, .ref g0, .ref ty, .ref an, .ref aw, .ref ts, .ref ss, .ref rq, .int tm, .int n3, .int n4])), (an, .inr (2, [.ref ar, .int (nI al)])), (g0, .inr (3, [.ref tx, .ref wo, .ref di, .int a2_55, .int b2_56, .int c2_57, .int d2_58])), (tx, .inr (1, [.ref tr, .int (nI (0 + 1 + k + 16))])), (tr, .inl ((cT 0), 1192, .inl f2_59)), (wo, .inl ((cT 0), 16, .inl fw2_53)), (ty, .inr (1, [.ref yr, .int (nI k)])), (yr, .inl ((cT 0), 64, .inl g_40)), (ar, .inl ((cT 0), 72, .inl fa)), (di, .inl ((cT 0), 16, .inl fd2_54)), (ds, .inr (0, [.ref dr, .ref sv])), (dr, .inr (2, [.ref rr, .int (nI ((dl + 1) + 1 + 8 + 6 + 1 + 1 + 16))])), (rr, .inl ((cT 0), 1000, .inl (upd (upd g_65 2 (nI ((dl + 1) + 1 + 8 + 6 + 1 + 1 + 16) >>> (8 &&& 31))) 3 (nI ((dl + 1) + 1 + 8 + 6 + 1 + 1 + 16) &&& 255))))] H := hP
  have hD : va_D A [(sv, .inr (5, [.ref se, .ref pw, .ref g0, .ref ty, .ref an, .ref aw, .ref ts, .ref ss, .ref rq, .int tm, .int n3, .int n4])), (an, .inr (2, [.ref ar, .int (nI al)])), (g0, .inr (3, [.ref tx, .ref wo, .ref di, .int a2_55, .int b2_56, .int c2_57, .int d2_58])), (tx, .inr (1, [.ref tr, .int (nI (0 + 1 + k + 16))])), (tr, .inl ((cT 0), 1192, .inl f2_59)), (wo, .inl ((cT 0), 16, .inl fw2_53)), (ty, .inr (1, [.ref yr, .int (nI k)])), (yr, .inl ((cT 0), 64, .inl g_40)), (ar, .inl ((cT 0), 72, .inl fa)), (di, .inl ((cT 0), 16, .inl fd2_54)), (ds, .inr (0, [.ref dr, .ref sv])), (dr, .inr (2, [.ref rr, .int (nI ((dl + 1) + 1 + 8 + 6 + 1 + 1 + 16))])), (rr, .inl ((cT 0), 1000, .inl (upd (upd g_65 2 (nI ((dl + 1) + 1 + 8 + 6 + 1 + 1 + 16) >>> (8 &&& 31))) 3 (nI ((dl + 1) + 1 + 8 + 6 + 1 + 1 + 16) &&& 255))))] := hD
  refine lv_topi (fun x69 e68 => ?_)
  obtain rfl : x69 = nI (dl + 34) := by rw [e68]; first | done | rfl
  have hP9 := hP.sub (ws' := [(ds, .inr (0, [.ref dr, .ref sv])), (dr, .inr (2, [.ref rr, .int (nI ((dl + 1) + 1 + 8 + 6 + 1 + 1 + 16))])), (rr, .inl ((cT 0), 1000, .inl (upd (upd g_65 2 (nI ((dl + 1) + 1 + 8 + 6 + 1 + 1 + 16) >>> (8 &&& 31))) 3 (nI ((dl + 1) + 1 + 8 + 6 + 1 + 1 + 16) &&& 255)))), (sv, .inr (5, [.ref se, .ref pw, .ref g0, .ref ty, .ref an, .ref aw, .ref ts, .ref ss, .ref rq, .int tm, .int n3, .int n4])), (an, .inr (2, [.ref ar, .int (nI al)])), (ar, .inl ((cT 0), 72, .inl fa)), (ty, .inr (1, [.ref yr, .int (nI k)])), (yr, .inl ((cT 0), 64, .inl g_40)), (g0, .inr (3, [.ref tx, .ref wo, .ref di, .int a2_55, .int b2_56, .int c2_57, .int d2_58])), (tx, .inr (1, [.ref tr, .int (nI (0 + 1 + k + 16))])), (tr, .inl ((cT 0), 1192, .inl f2_59)), (wo, .inl ((cT 0), 16, .inl fw2_53)), (di, .inl ((cT 0), 16, .inl fd2_54))]) [10, 11, 12, 0, 1, 8, 6, 7, 2, 3, 4, 5, 9] rfl
  have hD9 := hD.sub (ws' := [(ds, .inr (0, [.ref dr, .ref sv])), (dr, .inr (2, [.ref rr, .int (nI ((dl + 1) + 1 + 8 + 6 + 1 + 1 + 16))])), (rr, .inl ((cT 0), 1000, .inl (upd (upd g_65 2 (nI ((dl + 1) + 1 + 8 + 6 + 1 + 1 + 16) >>> (8 &&& 31))) 3 (nI ((dl + 1) + 1 + 8 + 6 + 1 + 1 + 16) &&& 255)))), (sv, .inr (5, [.ref se, .ref pw, .ref g0, .ref ty, .ref an, .ref aw, .ref ts, .ref ss, .ref rq, .int tm, .int n3, .int n4])), (an, .inr (2, [.ref ar, .int (nI al)])), (ar, .inl ((cT 0), 72, .inl fa)), (ty, .inr (1, [.ref yr, .int (nI k)])), (yr, .inl ((cT 0), 64, .inl g_40)), (g0, .inr (3, [.ref tx, .ref wo, .ref di, .int a2_55, .int b2_56, .int c2_57, .int d2_58])), (tx, .inr (1, [.ref tr, .int (nI (0 + 1 + k + 16))])), (tr, .inl ((cT 0), 1192, .inl f2_59)), (wo, .inl ((cT 0), 16, .inl fw2_53)), (di, .inl ((cT 0), 16, .inl fd2_54))]) [10, 11, 12, 0, 1, 8, 6, 7, 2, 3, 4, 5, 9] (by decide) rfl
  exact W.iret (v := nI (dl + 34)) hx hb hr (fun t ht hW => ⟨⟨_, ⟨g_40, 0 + 1 + k + 16, fw2_53, fd2_54, a2_55, b2_56, c2_57, d2_58, f2_59, upd (upd g_65 2 (nI ((dl + 1) + 1 + 8 + 6 + 1 + 1 + 16) >>> (8 &&& 31))) 3 (nI ((dl + 1) + 1 + 8 + 6 + 1 + 1 + 16) &&& 255)⟩, rfl, ⟨rfl, fun h5 h6 h7 h8 => ⟨hw60 h5, AB_tell (by omega) (hw66 (AB_upd (AB_upd (hw48 (hw46 (AB_upd (AB_upd h6 (BY_and _)) (BY_and _)) h7)) (BY_and _)) (BY_and _)) (hw60 h5)), hw41 h8⟩⟩, by rw [ht]; exact hP9, va_K.moved hW.alike hK, hD9⟩, hS.F ht⟩) hS.2.2 d_DS_reply_172
