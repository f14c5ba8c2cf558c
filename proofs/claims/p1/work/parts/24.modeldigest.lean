theorem d_Md_keyed_0 : decode b_Md_keyed 0 = .ok (.aload_n 0, 1) := by decide +kernel
theorem d_Md_keyed_1 : decode b_Md_keyed 1 = .ok (.getfield 247, 3) := by decide +kernel
theorem d_Md_keyed_4 : decode b_Md_keyed 4 = .ok (.istore_n 2, 1) := by decide +kernel
theorem d_Md_keyed_5 : decode b_Md_keyed 5 = .ok (.iconst 0, 1) := by decide +kernel
theorem d_Md_keyed_6 : decode b_Md_keyed 6 = .ok (.istore_n 3, 1) := by decide +kernel
theorem d_Md_keyed_7 : decode b_Md_keyed 7 = .ok (.iload_n 3, 1) := by decide +kernel
theorem d_Md_keyed_8 : decode b_Md_keyed 8 = .ok (.iload_n 2, 1) := by decide +kernel
theorem d_Md_keyed_9 : decode b_Md_keyed 9 = .ok (.if_icmp .ge 21, 3) := by decide +kernel
theorem d_Md_keyed_12 : decode b_Md_keyed 12 = .ok (.aload_n 0, 1) := by decide +kernel
theorem d_Md_keyed_13 : decode b_Md_keyed 13 = .ok (.getfield 163, 3) := by decide +kernel
theorem d_Md_keyed_16 : decode b_Md_keyed 16 = .ok (.iload_n 3, 1) := by decide +kernel
theorem d_Md_keyed_17 : decode b_Md_keyed 17 = .ok (.aload_n 0, 1) := by decide +kernel
theorem d_Md_keyed_18 : decode b_Md_keyed 18 = .ok (.getfield 157, 3) := by decide +kernel
theorem d_Md_keyed_21 : decode b_Md_keyed 21 = .ok (.iload_n 3, 1) := by decide +kernel
theorem d_Md_keyed_22 : decode b_Md_keyed 22 = .ok (.iaload, 1) := by decide +kernel
theorem d_Md_keyed_23 : decode b_Md_keyed 23 = .ok (.iastore, 1) := by decide +kernel
theorem d_Md_keyed_24 : decode b_Md_keyed 24 = .ok (.iinc 3 1, 3) := by decide +kernel
theorem d_Md_keyed_27 : decode b_Md_keyed 27 = .ok (.goto (-20), 3) := by decide +kernel
theorem d_Md_keyed_30 : decode b_Md_keyed 30 = .ok (.aload_n 0, 1) := by decide +kernel
theorem d_Md_keyed_31 : decode b_Md_keyed 31 = .ok (.iconst 0, 1) := by decide +kernel
theorem d_Md_keyed_32 : decode b_Md_keyed 32 = .ok (.putfield 247, 3) := by decide +kernel
theorem d_Md_keyed_35 : decode b_Md_keyed 35 = .ok (.iconst 0, 1) := by decide +kernel
theorem d_Md_keyed_36 : decode b_Md_keyed 36 = .ok (.istore_n 3, 1) := by decide +kernel
theorem d_Md_keyed_37 : decode b_Md_keyed 37 = .ok (.iload_n 3, 1) := by decide +kernel
theorem d_Md_keyed_38 : decode b_Md_keyed 38 = .ok (.bipush 64, 2) := by decide +kernel
theorem d_Md_keyed_40 : decode b_Md_keyed 40 = .ok (.if_icmp .ge 41, 3) := by decide +kernel
theorem d_Md_keyed_43 : decode b_Md_keyed 43 = .ok (.aload_n 0, 1) := by decide +kernel
theorem d_Md_keyed_44 : decode b_Md_keyed 44 = .ok (.iload_n 3, 1) := by decide +kernel
theorem d_Md_keyed_45 : decode b_Md_keyed 45 = .ok (.aload_n 0, 1) := by decide +kernel
theorem d_Md_keyed_46 : decode b_Md_keyed 46 = .ok (.getfield 145, 3) := by decide +kernel
theorem d_Md_keyed_49 : decode b_Md_keyed 49 = .ok (.iload_n 1, 1) := by decide +kernel
theorem d_Md_keyed_50 : decode b_Md_keyed 50 = .ok (.iaload, 1) := by decide +kernel
theorem d_Md_keyed_69 : decode b_Md_keyed 69 = .ok (.bipush 54, 2) := by decide +kernel
theorem d_Md_keyed_71 : decode b_Md_keyed 71 = .ok (.ixor, 1) := by decide +kernel
theorem d_Md_keyed_72 : decode b_Md_keyed 72 = .ok (.invokevirtual 250, 3) := by decide +kernel
theorem d_Md_keyed_75 : decode b_Md_keyed 75 = .ok (.iinc 3 1, 3) := by decide +kernel
theorem d_Md_keyed_78 : decode b_Md_keyed 78 = .ok (.goto (-41), 3) := by decide +kernel
theorem d_Md_keyed_51 : decode b_Md_keyed 51 = .ok (.if_icmp .ge 17, 3) := by decide +kernel
theorem d_Md_keyed_68 : decode b_Md_keyed 68 = .ok (.iconst 0, 1) := by decide +kernel
theorem d_Md_keyed_54 : decode b_Md_keyed 54 = .ok (.aload_n 0, 1) := by decide +kernel
theorem d_Md_keyed_55 : decode b_Md_keyed 55 = .ok (.getfield 141, 3) := by decide +kernel
theorem d_Md_keyed_58 : decode b_Md_keyed 58 = .ok (.bipush 40, 2) := by decide +kernel
theorem d_Md_keyed_60 : decode b_Md_keyed 60 = .ok (.iload_n 1, 1) := by decide +kernel
theorem d_Md_keyed_61 : decode b_Md_keyed 61 = .ok (.imul, 1) := by decide +kernel
theorem d_Md_keyed_62 : decode b_Md_keyed 62 = .ok (.iload_n 3, 1) := by decide +kernel
theorem d_Md_keyed_63 : decode b_Md_keyed 63 = .ok (.iadd, 1) := by decide +kernel
theorem d_Md_keyed_64 : decode b_Md_keyed 64 = .ok (.iaload, 1) := by decide +kernel
theorem d_Md_keyed_65 : decode b_Md_keyed 65 = .ok (.goto 4, 3) := by decide +kernel
theorem d_Md_keyed_81 : decode b_Md_keyed 81 = .ok (.iconst 0, 1) := by decide +kernel
theorem d_Md_keyed_82 : decode b_Md_keyed 82 = .ok (.istore_n 3, 1) := by decide +kernel
theorem d_Md_keyed_83 : decode b_Md_keyed 83 = .ok (.iload_n 3, 1) := by decide +kernel
theorem d_Md_keyed_84 : decode b_Md_keyed 84 = .ok (.iload_n 2, 1) := by decide +kernel
theorem d_Md_keyed_85 : decode b_Md_keyed 85 = .ok (.if_icmp .ge 19, 3) := by decide +kernel
theorem d_Md_keyed_88 : decode b_Md_keyed 88 = .ok (.aload_n 0, 1) := by decide +kernel
theorem d_Md_keyed_89 : decode b_Md_keyed 89 = .ok (.aload_n 0, 1) := by decide +kernel
theorem d_Md_keyed_90 : decode b_Md_keyed 90 = .ok (.getfield 163, 3) := by decide +kernel
theorem d_Md_keyed_93 : decode b_Md_keyed 93 = .ok (.iload_n 3, 1) := by decide +kernel
theorem d_Md_keyed_94 : decode b_Md_keyed 94 = .ok (.iaload, 1) := by decide +kernel
theorem d_Md_keyed_95 : decode b_Md_keyed 95 = .ok (.invokevirtual 250, 3) := by decide +kernel
theorem d_Md_keyed_98 : decode b_Md_keyed 98 = .ok (.iinc 3 1, 3) := by decide +kernel
theorem d_Md_keyed_101 : decode b_Md_keyed 101 = .ok (.goto (-18), 3) := by decide +kernel
theorem d_Md_keyed_104 : decode b_Md_keyed 104 = .ok (.aload_n 0, 1) := by decide +kernel
theorem d_Md_keyed_105 : decode b_Md_keyed 105 = .ok (.invokevirtual 284, 3) := by decide +kernel
theorem d_Md_keyed_108 : decode b_Md_keyed 108 = .ok (.iconst 0, 1) := by decide +kernel
theorem d_Md_keyed_109 : decode b_Md_keyed 109 = .ok (.istore_n 3, 1) := by decide +kernel
theorem d_Md_keyed_110 : decode b_Md_keyed 110 = .ok (.iload_n 3, 1) := by decide +kernel
theorem d_Md_keyed_111 : decode b_Md_keyed 111 = .ok (.bipush 64, 2) := by decide +kernel
theorem d_Md_keyed_113 : decode b_Md_keyed 113 = .ok (.if_icmp .ge 41, 3) := by decide +kernel
theorem d_Md_keyed_116 : decode b_Md_keyed 116 = .ok (.aload_n 0, 1) := by decide +kernel
theorem d_Md_keyed_117 : decode b_Md_keyed 117 = .ok (.iload_n 3, 1) := by decide +kernel
theorem d_Md_keyed_118 : decode b_Md_keyed 118 = .ok (.aload_n 0, 1) := by decide +kernel
theorem d_Md_keyed_119 : decode b_Md_keyed 119 = .ok (.getfield 145, 3) := by decide +kernel
theorem d_Md_keyed_122 : decode b_Md_keyed 122 = .ok (.iload_n 1, 1) := by decide +kernel
theorem d_Md_keyed_123 : decode b_Md_keyed 123 = .ok (.iaload, 1) := by decide +kernel
theorem d_Md_keyed_142 : decode b_Md_keyed 142 = .ok (.bipush 92, 2) := by decide +kernel
theorem d_Md_keyed_144 : decode b_Md_keyed 144 = .ok (.ixor, 1) := by decide +kernel
theorem d_Md_keyed_145 : decode b_Md_keyed 145 = .ok (.invokevirtual 250, 3) := by decide +kernel
theorem d_Md_keyed_148 : decode b_Md_keyed 148 = .ok (.iinc 3 1, 3) := by decide +kernel
theorem d_Md_keyed_151 : decode b_Md_keyed 151 = .ok (.goto (-41), 3) := by decide +kernel
theorem d_Md_keyed_124 : decode b_Md_keyed 124 = .ok (.if_icmp .ge 17, 3) := by decide +kernel
theorem d_Md_keyed_141 : decode b_Md_keyed 141 = .ok (.iconst 0, 1) := by decide +kernel
theorem d_Md_keyed_127 : decode b_Md_keyed 127 = .ok (.aload_n 0, 1) := by decide +kernel
theorem d_Md_keyed_128 : decode b_Md_keyed 128 = .ok (.getfield 141, 3) := by decide +kernel
theorem d_Md_keyed_131 : decode b_Md_keyed 131 = .ok (.bipush 40, 2) := by decide +kernel
theorem d_Md_keyed_133 : decode b_Md_keyed 133 = .ok (.iload_n 1, 1) := by decide +kernel
theorem d_Md_keyed_134 : decode b_Md_keyed 134 = .ok (.imul, 1) := by decide +kernel
theorem d_Md_keyed_135 : decode b_Md_keyed 135 = .ok (.iload_n 3, 1) := by decide +kernel
theorem d_Md_keyed_136 : decode b_Md_keyed 136 = .ok (.iadd, 1) := by decide +kernel
theorem d_Md_keyed_137 : decode b_Md_keyed 137 = .ok (.iaload, 1) := by decide +kernel
theorem d_Md_keyed_138 : decode b_Md_keyed 138 = .ok (.goto 4, 3) := by decide +kernel
theorem d_Md_keyed_154 : decode b_Md_keyed 154 = .ok (.iconst 0, 1) := by decide +kernel
theorem d_Md_keyed_155 : decode b_Md_keyed 155 = .ok (.istore_n 3, 1) := by decide +kernel
theorem d_Md_keyed_156 : decode b_Md_keyed 156 = .ok (.iload_n 3, 1) := by decide +kernel
theorem d_Md_keyed_157 : decode b_Md_keyed 157 = .ok (.bipush 16, 2) := by decide +kernel
theorem d_Md_keyed_159 : decode b_Md_keyed 159 = .ok (.if_icmp .ge 19, 3) := by decide +kernel
theorem d_Md_keyed_162 : decode b_Md_keyed 162 = .ok (.aload_n 0, 1) := by decide +kernel
theorem d_Md_keyed_163 : decode b_Md_keyed 163 = .ok (.aload_n 0, 1) := by decide +kernel
theorem d_Md_keyed_164 : decode b_Md_keyed 164 = .ok (.getfield 160, 3) := by decide +kernel
theorem d_Md_keyed_167 : decode b_Md_keyed 167 = .ok (.iload_n 3, 1) := by decide +kernel
theorem d_Md_keyed_168 : decode b_Md_keyed 168 = .ok (.iaload, 1) := by decide +kernel
theorem d_Md_keyed_169 : decode b_Md_keyed 169 = .ok (.invokevirtual 250, 3) := by decide +kernel
theorem d_Md_keyed_172 : decode b_Md_keyed 172 = .ok (.iinc 3 1, 3) := by decide +kernel
theorem d_Md_keyed_175 : decode b_Md_keyed 175 = .ok (.goto (-19), 3) := by decide +kernel
theorem d_Md_keyed_178 : decode b_Md_keyed 178 = .ok (.aload_n 0, 1) := by decide +kernel
theorem d_Md_keyed_179 : decode b_Md_keyed 179 = .ok (.invokevirtual 284, 3) := by decide +kernel
theorem d_Md_keyed_182 : decode b_Md_keyed 182 = .ok (.return_, 1) := by decide +kernel
theorem d_Md_cover_0 : decode b_Md_cover 0 = .ok (.aload_n 0, 1) := by decide +kernel
theorem d_Md_cover_1 : decode b_Md_cover 1 = .ok (.iload_n 1, 1) := by decide +kernel
theorem d_Md_cover_2 : decode b_Md_cover 2 = .ok (.invokevirtual 318, 3) := by decide +kernel
theorem d_Md_cover_5 : decode b_Md_cover 5 = .ok (.iconst 0, 1) := by decide +kernel
theorem d_Md_cover_6 : decode b_Md_cover 6 = .ok (.istore_n 3, 1) := by decide +kernel
theorem d_Md_cover_7 : decode b_Md_cover 7 = .ok (.iload_n 3, 1) := by decide +kernel
theorem d_Md_cover_8 : decode b_Md_cover 8 = .ok (.bipush 16, 2) := by decide +kernel
theorem d_Md_cover_10 : decode b_Md_cover 10 = .ok (.if_icmp .ge 21, 3) := by decide +kernel
theorem d_Md_cover_13 : decode b_Md_cover 13 = .ok (.aload_n 0, 1) := by decide +kernel
theorem d_Md_cover_14 : decode b_Md_cover 14 = .ok (.aload_n 0, 1) := by decide +kernel
theorem d_Md_cover_15 : decode b_Md_cover 15 = .ok (.getfield 154, 3) := by decide +kernel
theorem d_Md_cover_18 : decode b_Md_cover 18 = .ok (.iload_n 2, 1) := by decide +kernel
theorem d_Md_cover_19 : decode b_Md_cover 19 = .ok (.iload_n 3, 1) := by decide +kernel
theorem d_Md_cover_20 : decode b_Md_cover 20 = .ok (.iadd, 1) := by decide +kernel
theorem d_Md_cover_21 : decode b_Md_cover 21 = .ok (.iaload, 1) := by decide +kernel
theorem d_Md_cover_22 : decode b_Md_cover 22 = .ok (.invokevirtual 250, 3) := by decide +kernel
theorem d_Md_cover_25 : decode b_Md_cover 25 = .ok (.iinc 3 1, 3) := by decide +kernel
theorem d_Md_cover_28 : decode b_Md_cover 28 = .ok (.goto (-21), 3) := by decide +kernel
theorem d_Md_cover_31 : decode b_Md_cover 31 = .ok (.aload_n 0, 1) := by decide +kernel
theorem d_Md_cover_32 : decode b_Md_cover 32 = .ok (.invokevirtual 284, 3) := by decide +kernel
theorem d_Md_cover_35 : decode b_Md_cover 35 = .ok (.return_, 1) := by decide +kernel
theorem d_Md_proof_0 : decode b_Md_proof 0 = .ok (.iconst 0, 1) := by decide +kernel
theorem d_Md_proof_1 : decode b_Md_proof 1 = .ok (.istore_n 3, 1) := by decide +kernel
theorem d_Md_proof_2 : decode b_Md_proof 2 = .ok (.iload_n 3, 1) := by decide +kernel
theorem d_Md_proof_3 : decode b_Md_proof 3 = .ok (.aload_n 0, 1) := by decide +kernel
theorem d_Md_proof_4 : decode b_Md_proof 4 = .ok (.getfield 297, 3) := by decide +kernel
theorem d_Md_proof_7 : decode b_Md_proof 7 = .ok (.if_icmp .ge 36, 3) := by decide +kernel
theorem d_Md_proof_10 : decode b_Md_proof 10 = .ok (.aload_n 0, 1) := by decide +kernel
theorem d_Md_proof_11 : decode b_Md_proof 11 = .ok (.iload_n 3, 1) := by decide +kernel
theorem d_Md_proof_12 : decode b_Md_proof 12 = .ok (.iload_n 2, 1) := by decide +kernel
theorem d_Md_proof_34 : decode b_Md_proof 34 = .ok (.invokevirtual 250, 3) := by decide +kernel
theorem d_Md_proof_37 : decode b_Md_proof 37 = .ok (.iinc 3 1, 3) := by decide +kernel
theorem d_Md_proof_40 : decode b_Md_proof 40 = .ok (.goto (-38), 3) := by decide +kernel
theorem d_Md_proof_13 : decode b_Md_proof 13 = .ok (.if_icmp .lt 15, 3) := by decide +kernel
theorem d_Md_proof_28 : decode b_Md_proof 28 = .ok (.aload_n 0, 1) := by decide +kernel
theorem d_Md_proof_29 : decode b_Md_proof 29 = .ok (.getfield 154, 3) := by decide +kernel
theorem d_Md_proof_32 : decode b_Md_proof 32 = .ok (.iload_n 3, 1) := by decide +kernel
theorem d_Md_proof_33 : decode b_Md_proof 33 = .ok (.iaload, 1) := by decide +kernel
theorem d_Md_proof_16 : decode b_Md_proof 16 = .ok (.iload_n 3, 1) := by decide +kernel
theorem d_Md_proof_17 : decode b_Md_proof 17 = .ok (.iload_n 2, 1) := by decide +kernel
theorem d_Md_proof_18 : decode b_Md_proof 18 = .ok (.bipush 16, 2) := by decide +kernel
theorem d_Md_proof_20 : decode b_Md_proof 20 = .ok (.iadd, 1) := by decide +kernel
theorem d_Md_proof_21 : decode b_Md_proof 21 = .ok (.if_icmp .ge 7, 3) := by decide +kernel
theorem d_Md_proof_24 : decode b_Md_proof 24 = .ok (.iconst 0, 1) := by decide +kernel
theorem d_Md_proof_25 : decode b_Md_proof 25 = .ok (.goto 9, 3) := by decide +kernel
theorem d_Md_proof_43 : decode b_Md_proof 43 = .ok (.aload_n 0, 1) := by decide +kernel
theorem d_Md_proof_44 : decode b_Md_proof 44 = .ok (.iload_n 1, 1) := by decide +kernel
theorem d_Md_proof_45 : decode b_Md_proof 45 = .ok (.invokevirtual 328, 3) := by decide +kernel
theorem d_Md_proof_48 : decode b_Md_proof 48 = .ok (.return_, 1) := by decide +kernel
theorem d_Md_authenticator_0 : decode b_Md_authenticator 0 = .ok (.iconst 0, 1) := by decide +kernel
theorem d_Md_authenticator_1 : decode b_Md_authenticator 1 = .ok (.istore_n 2, 1) := by decide +kernel
theorem d_Md_authenticator_2 : decode b_Md_authenticator 2 = .ok (.iload_n 2, 1) := by decide +kernel
theorem d_Md_authenticator_3 : decode b_Md_authenticator 3 = .ok (.aload_n 0, 1) := by decide +kernel
theorem d_Md_authenticator_4 : decode b_Md_authenticator 4 = .ok (.getfield 297, 3) := by decide +kernel
theorem d_Md_authenticator_7 : decode b_Md_authenticator 7 = .ok (.if_icmp .ge 34, 3) := by decide +kernel
theorem d_Md_authenticator_10 : decode b_Md_authenticator 10 = .ok (.aload_n 0, 1) := by decide +kernel
theorem d_Md_authenticator_11 : decode b_Md_authenticator 11 = .ok (.iload_n 2, 1) := by decide +kernel
theorem d_Md_authenticator_12 : decode b_Md_authenticator 12 = .ok (.iconst 3, 1) := by decide +kernel
theorem d_Md_authenticator_32 : decode b_Md_authenticator 32 = .ok (.invokevirtual 250, 3) := by decide +kernel
theorem d_Md_authenticator_35 : decode b_Md_authenticator 35 = .ok (.iinc 2 1, 3) := by decide +kernel
theorem d_Md_authenticator_38 : decode b_Md_authenticator 38 = .ok (.goto (-36), 3) := by decide +kernel
theorem d_Md_authenticator_13 : decode b_Md_authenticator 13 = .ok (.if_icmp .le 13, 3) := by decide +kernel
theorem d_Md_authenticator_26 : decode b_Md_authenticator 26 = .ok (.aload_n 0, 1) := by decide +kernel
theorem d_Md_authenticator_27 : decode b_Md_authenticator 27 = .ok (.getfield 154, 3) := by decide +kernel
theorem d_Md_authenticator_30 : decode b_Md_authenticator 30 = .ok (.iload_n 2, 1) := by decide +kernel
theorem d_Md_authenticator_31 : decode b_Md_authenticator 31 = .ok (.iaload, 1) := by decide +kernel
theorem d_Md_authenticator_16 : decode b_Md_authenticator 16 = .ok (.iload_n 2, 1) := by decide +kernel
theorem d_Md_authenticator_17 : decode b_Md_authenticator 17 = .ok (.bipush 20, 2) := by decide +kernel
theorem d_Md_authenticator_19 : decode b_Md_authenticator 19 = .ok (.if_icmp .ge 7, 3) := by decide +kernel
theorem d_Md_authenticator_22 : decode b_Md_authenticator 22 = .ok (.iconst 0, 1) := by decide +kernel
theorem d_Md_authenticator_23 : decode b_Md_authenticator 23 = .ok (.goto 9, 3) := by decide +kernel
theorem d_Md_authenticator_41 : decode b_Md_authenticator 41 = .ok (.aload_n 0, 1) := by decide +kernel
theorem d_Md_authenticator_42 : decode b_Md_authenticator 42 = .ok (.iload_n 1, 1) := by decide +kernel
theorem d_Md_authenticator_43 : decode b_Md_authenticator 43 = .ok (.invokevirtual 318, 3) := by decide +kernel
theorem d_Md_authenticator_46 : decode b_Md_authenticator 46 = .ok (.aload_n 0, 1) := by decide +kernel
theorem d_Md_authenticator_47 : decode b_Md_authenticator 47 = .ok (.invokevirtual 284, 3) := by decide +kernel
theorem d_Md_authenticator_50 : decode b_Md_authenticator 50 = .ok (.return_, 1) := by decide +kernel
set_option maxHeartbeats 4000000 in
set_option maxRecDepth 100000 in
/-- keyed -/
theorem m_keyed (l : Launch) (dC : Nat → ClassId) (dI : Nat → Nat → Nat) (cT : Nat → ClassId) (sz : Nat) (mo : Nat) (r : Nat → Nat) (z : Nat → Int32) (q : Nat → Int64) (cd : Int32) (tm : Int32) (sn : Nat) (tx : Nat) (f : Nat → Int32) (fs : Nat → Int64) (fd : Nat → Int32) (fc : Nat → Int32) (fz : Nat → Int32) (st : Nat) (sl : Nat) (fk : Nat → Int32) (hst : st < 4) (hfz : fz st = nI sl) (hsl : sl ≤ 40) (ht : tx ≤ 1000) : Met l y_Md_keyed (Cond.code y_Md_keyed b_Md_keyed 4 (Option.none : Option Jvm.ClassFile.FieldType) :: BIG) ({ frames := 2, cells := 0, slots := 0, locals := 69 }) (va_Pc [.ref mo, .int (nI st)] (fun U => U.heap.size = sz ∧ va_P (dC, dI) vcl [(mo, .inr (12, mdF r z q cd tm (nI sn) (nI tx))), (r 9, .inl ((cT 0), 1400, .inl f)), (r 12, .inl ((cT 0), 1200, .inl fk)), (r 3, .inl ((cT 0), 160, .inl fc)), (r 4, .inl ((cT 0), 4, .inl fz)), (r 0, .inl ((cT 1), 64, .inr (.inl fs))), (r 11, .inl ((cT 0), 16, .inl fd))] U.heap ∧ va_K (dC, dI) vcl (tyL cT) U ∧ va_D (fun _ => True) [(mo, .inr (12, mdF r z q cd tm (nI sn) (nI tx))), (r 9, .inl ((cT 0), 1400, .inl f)), (r 12, .inl ((cT 0), 1200, .inl fk)), (r 3, .inl ((cT 0), 160, .inl fc)), (r 4, .inl ((cT 0), 4, .inl fz)), (r 0, .inl ((cT 1), 64, .inr (.inl fs))), (r 11, .inl ((cT 0), 16, .inl fd))])) (va_Qv (S := (Nat → Int32) × (Nat → Int32) × (Nat → Int32)) (fun u => match u with | (g, gk, fd2) => True) (fun u t => match u with | (g, gk, fd2) => va_P (dC, dI) vcl [(mo, .inr (12, mdF r z q cd tm (nI sn) (nI 0))), (r 9, .inl ((cT 0), 1400, .inl g)), (r 12, .inl ((cT 0), 1200, .inl gk)), (r 3, .inl ((cT 0), 160, .inl fc)), (r 4, .inl ((cT 0), 4, .inl fz)), (r 0, .inl ((cT 1), 64, .inr (.inl fs))), (r 11, .inl ((cT 0), 16, .inl fd2))] t.heap ∧ va_K (dC, dI) vcl (tyL cT) t ∧ va_D (va_A [(mo, .inr (12, mdF r z q cd tm (nI sn) (nI tx))), (r 9, .inl ((cT 0), 1400, .inl f)), (r 12, .inl ((cT 0), 1200, .inl fk)), (r 3, .inl ((cT 0), 160, .inl fc)), (r 4, .inl ((cT 0), 4, .inl fz)), (r 0, .inl ((cT 1), 64, .inr (.inl fs))), (r 11, .inl ((cT 0), 16, .inl fd))] sz) [(mo, .inr (12, mdF r z q cd tm (nI sn) (nI 0))), (r 9, .inl ((cT 0), 1400, .inl g)), (r 12, .inl ((cT 0), 1200, .inl gk)), (r 3, .inl ((cT 0), 160, .inl fc)), (r 4, .inl ((cT 0), 4, .inl fz)), (r 0, .inl ((cT 1), 64, .inr (.inl fs))), (r 11, .inl ((cT 0), 16, .inl fd2))]) (va_A [(mo, .inr (12, mdF r z q cd tm (nI sn) (nI tx))), (r 9, .inl ((cT 0), 1400, .inl f)), (r 12, .inl ((cT 0), 1200, .inl fk)), (r 3, .inl ((cT 0), 160, .inl fc)), (r 4, .inl ((cT 0), 4, .inl fz)), (r 0, .inl ((cT 1), 64, .inr (.inl fs))), (r 11, .inl ((cT 0), 16, .inl fd))] sz)) 0 0 (va_A [(mo, .inr (12, mdF r z q cd tm (nI sn) (nI tx))), (r 9, .inl ((cT 0), 1400, .inl f)), (r 12, .inl ((cT 0), 1200, .inl fk)), (r 3, .inl ((cT 0), 160, .inl fc)), (r 4, .inl ((cT 0), 4, .inl fz)), (r 0, .inl ((cT 1), 64, .inr (.inl fs))), (r 11, .inl ((cT 0), 16, .inl fd))] sz) := by
  refine Met.ofW (cc := b_Md_keyed) (maxL := 4) (ret := (Option.none : Option Jvm.ClassFile.FieldType)) (by decide) rfl ?_
  intro p e s m args below meth c s₁ B hml hv
  obtain ⟨hargs, hsz, hP, hK, hD0⟩ := hv
  have hx := B.exec
  have hb := B.bytes
  have hr := B.returns
  have hts := atoms_spec (ws := (Cond.code y_Md_keyed b_Md_keyed 4 (Option.none : Option Jvm.ClassFile.FieldType) :: BIG)) B.pre
  have hg : ∀ w ∈ BIG, w.before _ s = true := fun w h => hts w (List.mem_cons_of_mem _ h)
  have hown : s.vm.findClass "DoorServerModel" = some m.cls := findClass_of_methodNamed B.named
  have hlocks := B.notSynchronized
  subst hsz
  have hD := hD0.self (sz := s.heap.size)
  generalize hAe : va_A [(mo, .inr (12, mdF r z q cd tm (nI sn) (nI tx))), (r 9, .inl ((cT 0), 1400, .inl f)), (r 12, .inl ((cT 0), 1200, .inl fk)), (r 3, .inl ((cT 0), 160, .inl fc)), (r 4, .inl ((cT 0), 4, .inl fz)), (r 0, .inl ((cT 1), 64, .inr (.inl fs))), (r 11, .inl ((cT 0), 16, .inl fd))] s.heap.size = A at hD ⊢
  have hA : ∀ q : Nat, s.heap.size ≤ q → A q := fun q h => by rw [← hAe]; exact Or.inr h
  have hS : va_S A s.heap s.heap [] := va_S.rf
  have hl := lv_entry ([.ref mo, .int (nI st)]) (n := 4) (Nat.le_of_ble_eq_true rfl)
  refine W.eq (g2 := entryFrame m (List.toArray [.ref mo, .int (nI st)]) 4) (by rw [hargs]) ?_
  rw [lg_entry_eq]
  generalize (lg_sl ([.ref mo, .int (nI st)]) ++ List.replicate (4 - (lg_sl ([.ref mo, .int (nI st)])).length) Slot.unset).toArray = ls at hl ⊢
  have hl : lv_has ls 4 [(0, .ref mo), (1, .int (nI st))] := hl
  change W p l e ({ frames := 2, cells := 0, slots := 0, locals := 69 } : Room) s m args below meth c s.heap [] 0 0 _ _
  have hP : va_P (dC, dI) vcl [(mo, .inr (12, mdF r z q cd tm (nI sn) (nI tx))), (r 9, .inl ((cT 0), 1400, .inl f)), (r 12, .inl ((cT 0), 1200, .inl fk)), (r 3, .inl ((cT 0), 160, .inl fc)), (r 4, .inl ((cT 0), 4, .inl fz)), (r 0, .inl ((cT 1), 64, .inr (.inl fs))), (r 11, .inl ((cT 0), 16, .inl fd))] s.heap := hP
  refine lv_aload_n hx hb d_Md_keyed_0 rfl (lv_at hl 0 rfl) ?_
  refine va_get (D := (dC, dI)) (ci := 12) (v := (.int (nI tx))) (C := R_Md) (T := F_Md) (N := 45) hx hb hg in_Md hown hK hP 0 rfl rfl 10 (by decide) (hg _ k_1030) (fun _ h9 => h9) rfl d_Md_keyed_1 ?_
  refine lv_istore_n (lv' := [(2, .int (nI tx)), (0, .ref mo), (1, .int (nI st))]) hx hb d_Md_keyed_4 rfl hl (by decide) rfl (fun ls hl => ?_)
  refine lv_iconst (v := 0) hx hb d_Md_keyed_5 (by decide) ?_
  refine lv_istore_n (lv' := [(3, .int 0), (2, .int (nI tx)), (0, .ref mo), (1, .int (nI st))]) hx hb d_Md_keyed_6 rfl hl (by decide) rfl (fun ls hl => ?_)
  have hl := lv_sub hl [0, 1, 2, 3] (show _ = [(3, .int 0), (2, .int (nI tx)), (0, .ref mo), (1, .int (nI st))] from rfl)
  have L1 : ∀ (Q : State → Prop) (exit : ∀ (fk : Nat → Int32) (H : Heap) (locs : List Loc) (ls : Array Slot), va_P (dC, dI) vcl [(mo, .inr (12, mdF r z q cd tm (nI sn) (nI tx))), (r 9, .inl ((cT 0), 1400, .inl f)), (r 12, .inl ((cT 0), 1200, .inl fk)), (r 3, .inl ((cT 0), 160, .inl fc)), (r 4, .inl ((cT 0), 4, .inl fz)), (r 0, .inl ((cT 1), 64, .inr (.inl fs))), (r 11, .inl ((cT 0), 16, .inl fd))] H → va_D A [(mo, .inr (12, mdF r z q cd tm (nI sn) (nI tx))), (r 9, .inl ((cT 0), 1400, .inl f)), (r 12, .inl ((cT 0), 1200, .inl fk)), (r 3, .inl ((cT 0), 160, .inl fc)), (r 4, .inl ((cT 0), 4, .inl fz)), (r 0, .inl ((cT 1), 64, .inr (.inl fs))), (r 11, .inl ((cT 0), 16, .inl fd))] → va_S A s.heap H locs → lv_has ls 4 [(3, .int (nI tx)), (2, .int (nI tx)), (0, .ref mo), (1, .int (nI st))] → W p l e ({ frames := 2, cells := 0, slots := 0, locals := 69 } : Room) s m args below meth c H locs 0 0 Q (F0 m 30 ls [])) (j8 i : Nat) (fk : Nat → Int32) (H : Heap) (locs : List Loc) (ls : Array Slot), i + j8 = tx → va_P (dC, dI) vcl [(mo, .inr (12, mdF r z q cd tm (nI sn) (nI tx))), (r 9, .inl ((cT 0), 1400, .inl f)), (r 12, .inl ((cT 0), 1200, .inl fk)), (r 3, .inl ((cT 0), 160, .inl fc)), (r 4, .inl ((cT 0), 4, .inl fz)), (r 0, .inl ((cT 1), 64, .inr (.inl fs))), (r 11, .inl ((cT 0), 16, .inl fd))] H → va_D A [(mo, .inr (12, mdF r z q cd tm (nI sn) (nI tx))), (r 9, .inl ((cT 0), 1400, .inl f)), (r 12, .inl ((cT 0), 1200, .inl fk)), (r 3, .inl ((cT 0), 160, .inl fc)), (r 4, .inl ((cT 0), 4, .inl fz)), (r 0, .inl ((cT 1), 64, .inr (.inl fs))), (r 11, .inl ((cT 0), 16, .inl fd))] → va_S A s.heap H locs → lv_has ls 4 [(3, .int (nI i)), (2, .int (nI tx)), (0, .ref mo), (1, .int (nI st))] → W p l e ({ frames := 2, cells := 0, slots := 0, locals := 69 } : Room) s m args below meth c H locs 0 0 Q (F0 m 7 ls []) := by
    intro Q exit j8
    induction j8 with
    | zero => 
      intro i fk H locs ls hij  hP hD hS hl
      have hij : tx = i := by omega
      refine lv_iload_n hx hb d_Md_keyed_7 rfl (lv_at hl 0 rfl) ?_
      refine lv_iload_n hx hb d_Md_keyed_8 rfl (lv_at hl 1 rfl) ?_
      refine lv_icmp_ge (tgt := 30) hx hb d_Md_keyed_9 (by decide) (fun hc2 => ?_) (fun hn9 => absurd (nI_le (by omega) (by omega)) hn9)
      subst hij
      exact exit fk _ _ _  hP hD hS hl
    | succ j8 ih => 
      intro i fk H locs ls hij  hP hD hS hl
      have hlt : i < tx := by omega
      refine lv_iload_n hx hb d_Md_keyed_7 rfl (lv_at hl 0 rfl) ?_
      refine lv_iload_n hx hb d_Md_keyed_8 rfl (lv_at hl 1 rfl) ?_
      refine lv_icmp_ge (tgt := 30) hx hb d_Md_keyed_9 (by decide) (fun hn9 => absurd hn9 (nI_ge hlt (by omega))) (fun hc3 => ?_)
      refine lv_aload_n hx hb d_Md_keyed_12 rfl (lv_at hl 2 rfl) ?_
      refine va_get (D := (dC, dI)) (ci := 12) (v := (.ref (r 12))) (C := R_Md) (T := F_Md) (N := 45) hx hb hg in_Md hown hK hP 0 rfl rfl 12 (by decide) (hg _ k_1032) (fun _ h9 => h9) rfl d_Md_keyed_13 ?_
      refine lv_iload_n hx hb d_Md_keyed_16 rfl (lv_at hl 0 rfl) ?_
      refine lv_aload_n hx hb d_Md_keyed_17 rfl (lv_at hl 2 rfl) ?_
      refine va_get (D := (dC, dI)) (ci := 12) (v := (.ref (r 9))) (C := R_Md) (T := F_Md) (N := 45) hx hb hg in_Md hown hK hP 0 rfl rfl 9 (by decide) (hg _ k_1029) (fun _ h9 => h9) rfl d_Md_keyed_18 ?_
      refine lv_iload_n hx hb d_Md_keyed_21 rfl (lv_at hl 0 rfl) ?_
      refine va_iald hx hb hK hP 1 0 rfl rfl (i := (nI i)) (vp_in_nI (N := 1400) (by omega) (by decide)) d_Md_keyed_22 ?_
      refine lv_topi (fun x4 e_x4 => ?_)
      refine va_iast hx hb hK hP hD hS 2 0 rfl rfl (i := (nI i)) (vp_in_nI (N := 1200) (by omega) (by decide)) d_Md_keyed_23 (fun H locs hP hD hS => ?_)
      have hP : va_P (dC, dI) vcl [(mo, .inr (12, mdF r z q cd tm (nI sn) (nI tx))), (r 9, .inl ((cT 0), 1400, .inl f)), (r 12, .inl ((cT 0), 1200, .inl (upd fk (nI i).toNatClampNeg x4))), (r 3, .inl ((cT 0), 160, .inl fc)), (r 4, .inl ((cT 0), 4, .inl fz)), (r 0, .inl ((cT 1), 64, .inr (.inl fs))), (r 11, .inl ((cT 0), 16, .inl fd))] H := hP
      have hD : va_D A [(mo, .inr (12, mdF r z q cd tm (nI sn) (nI tx))), (r 9, .inl ((cT 0), 1400, .inl f)), (r 12, .inl ((cT 0), 1200, .inl (upd fk (nI i).toNatClampNeg x4))), (r 3, .inl ((cT 0), 160, .inl fc)), (r 4, .inl ((cT 0), 4, .inl fz)), (r 0, .inl ((cT 1), 64, .inr (.inl fs))), (r 11, .inl ((cT 0), 16, .inl fd))] := hD
      refine lv_iinc (k := 0) (v := nI (i + 1)) (lv' := [(3, .int (nI (i + 1))), (2, .int (nI tx)), (0, .ref mo), (1, .int (nI st))]) hx hb d_Md_keyed_24 hl rfl (nI_1 i) (by decide) rfl (fun ls hl => ?_)
      refine lv_goto (tgt := 7) hx hb d_Md_keyed_27 (by decide) ?_
      exact ih (i + 1) _ _ _ _ (by omega)  hP hD hS hl
  refine L1 _ (fun fk H locs ls  hP hD hS hl => ?_) (tx - 0) 0 fk s.heap _ ls (by omega)  hP hD hS hl
  refine lv_aload_n hx hb d_Md_keyed_30 rfl (lv_at hl 2 rfl) ?_
  refine lv_iconst (v := 0) hx hb d_Md_keyed_31 (by decide) ?_
  refine lv_topi (fun x6 e5 => ?_)
  obtain rfl : x6 = nI 0 := by rw [e5]; rfl
  refine va_put (D := (dC, dI)) (ci := 12) (v := (.int (nI 0))) (ty := .int) (C := R_Md) (T := F_Md) (N := 45) hx hb hg in_Md t_Md tok_Md nm_Md hown hK hP hD hS 0 rfl rfl 10 (by decide) (hg _ k_1030) (fun _ h9 => h9) rfl (by decide +kernel) rfl rfl (Nat.le_of_ble_eq_true rfl) d_Md_keyed_32 (fun H locs hP hD hS => ?_)
  have hP : va_P (dC, dI) vcl [(mo, .inr (12, mdF r z q cd tm (nI sn) (nI 0))), (r 9, .inl ((cT 0), 1400, .inl f)), (r 12, .inl ((cT 0), 1200, .inl fk)), (r 3, .inl ((cT 0), 160, .inl fc)), (r 4, .inl ((cT 0), 4, .inl fz)), (r 0, .inl ((cT 1), 64, .inr (.inl fs))), (r 11, .inl ((cT 0), 16, .inl fd))] H := hP
  have hD : va_D A [(mo, .inr (12, mdF r z q cd tm (nI sn) (nI 0))), (r 9, .inl ((cT 0), 1400, .inl f)), (r 12, .inl ((cT 0), 1200, .inl fk)), (r 3, .inl ((cT 0), 160, .inl fc)), (r 4, .inl ((cT 0), 4, .inl fz)), (r 0, .inl ((cT 1), 64, .inr (.inl fs))), (r 11, .inl ((cT 0), 16, .inl fd))] := hD
  refine lv_iconst (v := 0) hx hb d_Md_keyed_35 (by decide) ?_
  refine lv_istore_n (lv' := [(3, .int 0), (2, .int (nI tx)), (0, .ref mo), (1, .int (nI st))]) hx hb d_Md_keyed_36 rfl hl (by decide) rfl (fun ls hl => ?_)
  have hl := lv_sub hl [0, 1, 2, 3] (show _ = [(3, .int 0), (2, .int (nI tx)), (0, .ref mo), (1, .int (nI st))] from rfl)
  have L7 : ∀ (Q : State → Prop) (exit : ∀ (g : Nat → Int32) (H : Heap) (locs : List Loc) (ls : Array Slot), va_P (dC, dI) vcl [(mo, .inr (12, mdF r z q cd tm (nI sn) (nI 64))), (r 9, .inl ((cT 0), 1400, .inl g)), (r 12, .inl ((cT 0), 1200, .inl fk)), (r 3, .inl ((cT 0), 160, .inl fc)), (r 4, .inl ((cT 0), 4, .inl fz)), (r 0, .inl ((cT 1), 64, .inr (.inl fs))), (r 11, .inl ((cT 0), 16, .inl fd))] H → va_D A [(mo, .inr (12, mdF r z q cd tm (nI sn) (nI 64))), (r 9, .inl ((cT 0), 1400, .inl g)), (r 12, .inl ((cT 0), 1200, .inl fk)), (r 3, .inl ((cT 0), 160, .inl fc)), (r 4, .inl ((cT 0), 4, .inl fz)), (r 0, .inl ((cT 1), 64, .inr (.inl fs))), (r 11, .inl ((cT 0), 16, .inl fd))] → va_S A s.heap H locs → lv_has ls 4 [(3, .int (nI 64)), (2, .int (nI tx)), (0, .ref mo), (1, .int (nI st))] → W p l e ({ frames := 2, cells := 0, slots := 0, locals := 69 } : Room) s m args below meth c H locs 0 0 Q (F0 m 81 ls [])) (j8 i : Nat) (g : Nat → Int32) (H : Heap) (locs : List Loc) (ls : Array Slot), i + j8 = 64 → va_P (dC, dI) vcl [(mo, .inr (12, mdF r z q cd tm (nI sn) (nI i))), (r 9, .inl ((cT 0), 1400, .inl g)), (r 12, .inl ((cT 0), 1200, .inl fk)), (r 3, .inl ((cT 0), 160, .inl fc)), (r 4, .inl ((cT 0), 4, .inl fz)), (r 0, .inl ((cT 1), 64, .inr (.inl fs))), (r 11, .inl ((cT 0), 16, .inl fd))] H → va_D A [(mo, .inr (12, mdF r z q cd tm (nI sn) (nI i))), (r 9, .inl ((cT 0), 1400, .inl g)), (r 12, .inl ((cT 0), 1200, .inl fk)), (r 3, .inl ((cT 0), 160, .inl fc)), (r 4, .inl ((cT 0), 4, .inl fz)), (r 0, .inl ((cT 1), 64, .inr (.inl fs))), (r 11, .inl ((cT 0), 16, .inl fd))] → va_S A s.heap H locs → lv_has ls 4 [(3, .int (nI i)), (2, .int (nI tx)), (0, .ref mo), (1, .int (nI st))] → W p l e ({ frames := 2, cells := 0, slots := 0, locals := 69 } : Room) s m args below meth c H locs 0 0 Q (F0 m 37 ls []) := by
    intro Q exit j8
    induction j8 with
    | zero => 
      intro i g H locs ls hij  hP hD hS hl
      have hij : 64 = i := by omega
      refine lv_iload_n hx hb d_Md_keyed_37 rfl (lv_at hl 0 rfl) ?_
      refine lv_bipush (v := 64) hx hb d_Md_keyed_38 (by decide) ?_
      refine lv_topi (fun x9 e8 => ?_)
      obtain rfl : x9 = nI 64 := by rw [e8]; rfl
      refine lv_icmp_ge (tgt := 81) hx hb d_Md_keyed_40 (by decide) (fun hc10 => ?_) (fun hn9 => absurd (nI_le (by omega) (by omega)) hn9)
      subst hij
      exact exit g _ _ _  hP hD hS hl
    | succ j8 ih => 
      intro i g H locs ls hij  hP hD hS hl
      have hlt : i < 64 := by omega
      refine lv_iload_n hx hb d_Md_keyed_37 rfl (lv_at hl 0 rfl) ?_
      refine lv_bipush (v := 64) hx hb d_Md_keyed_38 (by decide) ?_
      refine lv_topi (fun x12 e11 => ?_)
      obtain rfl : x12 = nI 64 := by rw [e11]; rfl
      refine lv_icmp_ge (tgt := 81) hx hb d_Md_keyed_40 (by decide) (fun hn9 => absurd hn9 (nI_ge hlt (by omega))) (fun hc13 => ?_)
      refine lv_aload_n hx hb d_Md_keyed_43 rfl (lv_at hl 2 rfl) ?_
      refine lv_iload_n hx hb d_Md_keyed_44 rfl (lv_at hl 0 rfl) ?_
      refine lv_aload_n hx hb d_Md_keyed_45 rfl (lv_at hl 2 rfl) ?_
      refine va_get (D := (dC, dI)) (ci := 12) (v := (.ref (r 4))) (C := R_Md) (T := F_Md) (N := 45) hx hb hg in_Md hown hK hP 0 rfl rfl 4 (by decide) (hg _ k_1024) (fun _ h9 => h9) rfl d_Md_keyed_46 ?_
      refine lv_iload_n hx hb d_Md_keyed_49 rfl (lv_at hl 3 rfl) ?_
      refine va_iald hx hb hK hP 4 0 rfl rfl (i := (nI st)) (vp_in_nI (N := 4) hst (by decide)) d_Md_keyed_50 ?_
      refine lv_topi (fun x15 e14 => ?_)
      obtain rfl : x15 = nI sl := by rw [e14]; rw [nI_clamp (by omega)]; exact hfz
      have K16 : ∀ (z9 : Int32), W p l e ({ frames := 2, cells := 0, slots := 0, locals := 69 } : Room) s m args below meth c H locs 0 0 Q (F0 m 69 ls [.int z9, .ref mo]) := by
        intro z9
        refine lv_bipush (v := 54) hx hb d_Md_keyed_69 (by decide) ?_
        refine lv_ixor hx hb d_Md_keyed_71 ?_
        have hPc := hP.sub (ws' := [(mo, .inr (12, mdF r z q cd tm (nI sn) (nI i))), (r 9, .inl ((cT 0), 1400, .inl g))]) [0, 1] rfl
        have hDc := hD.sub (ws' := [(mo, .inr (12, mdF r z q cd tm (nI sn) (nI i))), (r 9, .inl ((cT 0), 1400, .inl g))]) [0, 1] (by decide) rfl
        have hFc := va_free (wc := [(mo, .inr (12, mdF r z q cd tm (nI sn) (nI i))), (r 9, .inl ((cT 0), 1400, .inl g))]) hD hS hA [0, 1] rfl
        refine va_callv (va_runV (C := "DoorServerModel") (As := [.int (z9 ^^^ 54)]) (rest := []) ⟨hx, hb, hml, hown, hg⟩ (m_say l dC dI cT H.size mo r z q cd tm sn i g (z9 ^^^ 54) (by omega)) (cwV 1 hg (gI (List.forall_mem_append.mpr ⟨List.forall_mem_cons.mpr ⟨k_1220, List.forall_mem_cons.mpr ⟨k_1222, List.forall_mem_cons.mpr ⟨(big_sel (q := y_Md_say) (n := 45) (by decide +kernel)), List.forall_mem_cons.mpr ⟨k_13, fun _ h => absurd h List.not_mem_nil⟩⟩⟩⟩, List.forall_mem_cons.mpr ⟨k_1223, fun _ h => h⟩⟩)) rfl rfl rfl (by decide +kernel) ⟨Nat.le_of_ble_eq_true rfl, Nat.le_of_ble_eq_true rfl⟩) ⟨fun a U g mk q => by obtain ⟨q0, q1, qP, qK, qD⟩ := q; exact ⟨q0, q1, qP, va_K.moved (u := U) (U := U.calling g mk a) (Vm.Alike.refl U.vm) qK, qD⟩, va_recv (q0 := 0) (ci := 12) hK hP rfl rfl, fun U hU hW => ⟨rfl, by rw [hU], by rw [hU]; exact hPc, va_K.moved hW.alike hK, hDc.weaken (fun _ _ _ _ => trivial)⟩⟩ rfl rfl hl.1 rfl (lv_room (Nat.le_of_ble_eq_true rfl)) d_Md_keyed_72 ⟨Nat.le_of_ble_eq_true rfl, Nat.le_of_ble_eq_true rfl⟩) hS (fun q _ h => hFc q h) hFc (fun u t H1 locs ht hvm hw hB hz1 hk1 hS => ?_)
        try dsimp only at hw hB
        obtain ⟨hP1, hK1, hD1⟩ := hB
        rw [ht] at hP1
        obtain ⟨hP, hD⟩ := va_join (wr := [(r 12, .inl ((cT 0), 1200, .inl fk)), (r 3, .inl ((cT 0), 160, .inl fc)), (r 4, .inl ((cT 0), 4, .inl fz)), (r 0, .inl ((cT 1), 64, .inr (.inl fs))), (r 11, .inl ((cT 0), 16, .inl fd))]) (w1 := [(mo, .inr (12, mdF r z q cd tm (nI sn) (nI (i + 1)))), (r 9, .inl ((cT 0), 1400, .inl (upd g i (z9 ^^^ 54))))]) hP hD [0, 1] [2, 3, 4, 5, 6] rfl rfl (by decide) (by decide) hk1 hFc hP1 hD1
        have hw17 := hw
        clear hPc hDc hFc hz1 hk1 hP1 hK1 hD1
        generalize H1 = H at hP hS ⊢
        have hP : va_P (dC, dI) vcl [(r 12, .inl ((cT 0), 1200, .inl fk)), (r 3, .inl ((cT 0), 160, .inl fc)), (r 4, .inl ((cT 0), 4, .inl fz)), (r 0, .inl ((cT 1), 64, .inr (.inl fs))), (r 11, .inl ((cT 0), 16, .inl fd)), (mo, .inr (12, mdF r z q cd tm (nI sn) (nI (i + 1)))), (r 9, .inl ((cT 0), 1400, .inl (upd g i (z9 ^^^ 54))))] H := hP
        have hD : va_D A [(r 12, .inl ((cT 0), 1200, .inl fk)), (r 3, .inl ((cT 0), 160, .inl fc)), (r 4, .inl ((cT 0), 4, .inl fz)), (r 0, .inl ((cT 1), 64, .inr (.inl fs))), (r 11, .inl ((cT 0), 16, .inl fd)), (mo, .inr (12, mdF r z q cd tm (nI sn) (nI (i + 1)))), (r 9, .inl ((cT 0), 1400, .inl (upd g i (z9 ^^^ 54))))] := hD
        refine lv_iinc (k := 0) (v := nI (i + 1)) (lv' := [(3, .int (nI (i + 1))), (2, .int (nI tx)), (0, .ref mo), (1, .int (nI st))]) hx hb d_Md_keyed_75 hl rfl (nI_1 i) (by decide) rfl (fun ls hl => ?_)
        refine lv_goto (tgt := 37) hx hb d_Md_keyed_78 (by decide) ?_
        have hP := hP.sub (ws' := [(mo, .inr (12, mdF r z q cd tm (nI sn) (nI (i + 1)))), (r 9, .inl ((cT 0), 1400, .inl (upd g i (z9 ^^^ 54)))), (r 12, .inl ((cT 0), 1200, .inl fk)), (r 3, .inl ((cT 0), 160, .inl fc)), (r 4, .inl ((cT 0), 4, .inl fz)), (r 0, .inl ((cT 1), 64, .inr (.inl fs))), (r 11, .inl ((cT 0), 16, .inl fd))]) [5, 6, 0, 1, 2, 3, 4] rfl
        have hD := hD.sub (ws' := [(mo, .inr (12, mdF r z q cd tm (nI sn) (nI (i + 1)))), (r 9, .inl ((cT 0), 1400, .inl (upd g i (z9 ^^^ 54)))), (r 12, .inl ((cT 0), 1200, .inl fk)), (r 3, .inl ((cT 0), 160, .inl fc)), (r 4, .inl ((cT 0), 4, .inl fz)), (r 0, .inl ((cT 1), 64, .inr (.inl fs))), (r 11, .inl ((cT 0), 16, .inl fd))]) [5, 6, 0, 1, 2, 3, 4] (by decide) rfl
        exact ih (i + 1) _ _ _ _ (by omega) hP hD hS hl
      refine lv_icmp_ge (tgt := 68) hx hb d_Md_keyed_51 (by decide) (fun hc18 => ?_) (fun hc18 => ?_)
      · refine lv_iconst (v := 0) hx hb d_Md_keyed_68 (by decide) ?_
        exact K16 _
      · refine lv_aload_n hx hb d_Md_keyed_54 rfl (lv_at hl 2 rfl) ?_
        refine va_get (D := (dC, dI)) (ci := 12) (v := (.ref (r 3))) (C := R_Md) (T := F_Md) (N := 45) hx hb hg in_Md hown hK hP 0 rfl rfl 3 (by decide) (hg _ k_1023) (fun _ h9 => h9) rfl d_Md_keyed_55 ?_
        refine lv_bipush (v := 40) hx hb d_Md_keyed_58 (by decide) ?_
        refine lv_iload_n hx hb d_Md_keyed_60 rfl (lv_at hl 3 rfl) ?_
        refine lv_imul hx hb d_Md_keyed_61 ?_
        refine lv_topi (fun x20 e19 => ?_)
        obtain rfl : x20 = nI (40 * st) := by rw [e19]; exact pk_mul 40 st
        refine lv_iload_n hx hb d_Md_keyed_62 rfl (lv_at hl 0 rfl) ?_
        refine lv_iadd hx hb d_Md_keyed_63 ?_
        refine lv_topi (fun x22 e21 => ?_)
        obtain rfl : x22 = nI (40 * st + i) := by rw [e21]; exact nI_add _ _
        have hlt2 : i < sl := Nat.lt_of_not_le fun h9 => hc18 (nI_le h9 (by omega))
        refine va_iald hx hb hK hP 3 0 rfl rfl (i := (nI (40 * st + i))) (vp_in_nI (N := 160) (by omega) (by decide)) d_Md_keyed_64 ?_
        refine lv_goto (tgt := 69) hx hb d_Md_keyed_65 (by decide) ?_
        exact K16 _
  refine L7 _ (fun g H locs ls  hP hD hS hl => ?_) (64 - 0) 0 f H _ ls (by omega)  hP hD hS hl
  refine lv_iconst (v := 0) hx hb d_Md_keyed_81 (by decide) ?_
  refine lv_istore_n (lv' := [(3, .int 0), (2, .int (nI tx)), (0, .ref mo), (1, .int (nI st))]) hx hb d_Md_keyed_82 rfl hl (by decide) rfl (fun ls hl => ?_)
  have hl := lv_sub hl [0, 1, 2, 3] (show _ = [(3, .int 0), (2, .int (nI tx)), (0, .ref mo), (1, .int (nI st))] from rfl)
  have hP : va_P (dC, dI) vcl [(mo, .inr (12, mdF r z q cd tm (nI sn) (nI (64 + 0)))), (r 9, .inl ((cT 0), 1400, .inl g)), (r 12, .inl ((cT 0), 1200, .inl fk)), (r 3, .inl ((cT 0), 160, .inl fc)), (r 4, .inl ((cT 0), 4, .inl fz)), (r 0, .inl ((cT 1), 64, .inr (.inl fs))), (r 11, .inl ((cT 0), 16, .inl fd))] H := hP
  have hD : va_D A [(mo, .inr (12, mdF r z q cd tm (nI sn) (nI (64 + 0)))), (r 9, .inl ((cT 0), 1400, .inl g)), (r 12, .inl ((cT 0), 1200, .inl fk)), (r 3, .inl ((cT 0), 160, .inl fc)), (r 4, .inl ((cT 0), 4, .inl fz)), (r 0, .inl ((cT 1), 64, .inr (.inl fs))), (r 11, .inl ((cT 0), 16, .inl fd))] := hD
  have L23 : ∀ (Q : State → Prop) (exit : ∀ (g : Nat → Int32) (H : Heap) (locs : List Loc) (ls : Array Slot), va_P (dC, dI) vcl [(mo, .inr (12, mdF r z q cd tm (nI sn) (nI (64 + tx)))), (r 9, .inl ((cT 0), 1400, .inl g)), (r 12, .inl ((cT 0), 1200, .inl fk)), (r 3, .inl ((cT 0), 160, .inl fc)), (r 4, .inl ((cT 0), 4, .inl fz)), (r 0, .inl ((cT 1), 64, .inr (.inl fs))), (r 11, .inl ((cT 0), 16, .inl fd))] H → va_D A [(mo, .inr (12, mdF r z q cd tm (nI sn) (nI (64 + tx)))), (r 9, .inl ((cT 0), 1400, .inl g)), (r 12, .inl ((cT 0), 1200, .inl fk)), (r 3, .inl ((cT 0), 160, .inl fc)), (r 4, .inl ((cT 0), 4, .inl fz)), (r 0, .inl ((cT 1), 64, .inr (.inl fs))), (r 11, .inl ((cT 0), 16, .inl fd))] → va_S A s.heap H locs → lv_has ls 4 [(3, .int (nI tx)), (2, .int (nI tx)), (0, .ref mo), (1, .int (nI st))] → W p l e ({ frames := 2, cells := 0, slots := 0, locals := 69 } : Room) s m args below meth c H locs 0 0 Q (F0 m 104 ls [])) (j8 i : Nat) (g : Nat → Int32) (H : Heap) (locs : List Loc) (ls : Array Slot), i + j8 = tx → va_P (dC, dI) vcl [(mo, .inr (12, mdF r z q cd tm (nI sn) (nI (64 + i)))), (r 9, .inl ((cT 0), 1400, .inl g)), (r 12, .inl ((cT 0), 1200, .inl fk)), (r 3, .inl ((cT 0), 160, .inl fc)), (r 4, .inl ((cT 0), 4, .inl fz)), (r 0, .inl ((cT 1), 64, .inr (.inl fs))), (r 11, .inl ((cT 0), 16, .inl fd))] H → va_D A [(mo, .inr (12, mdF r z q cd tm (nI sn) (nI (64 + i)))), (r 9, .inl ((cT 0), 1400, .inl g)), (r 12, .inl ((cT 0), 1200, .inl fk)), (r 3, .inl ((cT 0), 160, .inl fc)), (r 4, .inl ((cT 0), 4, .inl fz)), (r 0, .inl ((cT 1), 64, .inr (.inl fs))), (r 11, .inl ((cT 0), 16, .inl fd))] → va_S A s.heap H locs → lv_has ls 4 [(3, .int (nI i)), (2, .int (nI tx)), (0, .ref mo), (1, .int (nI st))] → W p l e ({ frames := 2, cells := 0, slots := 0, locals := 69 } : Room) s m args below meth c H locs 0 0 Q (F0 m 83 ls []) := by
    intro Q exit j8
    induction j8 with
    | zero => 
      intro i g H locs ls hij  hP hD hS hl
      have hij : tx = i := by omega
      refine lv_iload_n hx hb d_Md_keyed_83 rfl (lv_at hl 0 rfl) ?_
      refine lv_iload_n hx hb d_Md_keyed_84 rfl (lv_at hl 1 rfl) ?_
      refine lv_icmp_ge (tgt := 104) hx hb d_Md_keyed_85 (by decide) (fun hc24 => ?_) (fun hn9 => absurd (nI_le (by omega) (by omega)) hn9)
      subst hij
      exact exit g _ _ _  hP hD hS hl
    | succ j8 ih => 
      intro i g H locs ls hij  hP hD hS hl
      have hlt : i < tx := by omega
      refine lv_iload_n hx hb d_Md_keyed_83 rfl (lv_at hl 0 rfl) ?_
      refine lv_iload_n hx hb d_Md_keyed_84 rfl (lv_at hl 1 rfl) ?_
      refine lv_icmp_ge (tgt := 104) hx hb d_Md_keyed_85 (by decide) (fun hn9 => absurd hn9 (nI_ge hlt (by omega))) (fun hc25 => ?_)
      refine lv_aload_n hx hb d_Md_keyed_88 rfl (lv_at hl 2 rfl) ?_
      refine lv_aload_n hx hb d_Md_keyed_89 rfl (lv_at hl 2 rfl) ?_
      refine va_get (D := (dC, dI)) (ci := 12) (v := (.ref (r 12))) (C := R_Md) (T := F_Md) (N := 45) hx hb hg in_Md hown hK hP 0 rfl rfl 12 (by decide) (hg _ k_1032) (fun _ h9 => h9) rfl d_Md_keyed_90 ?_
      refine lv_iload_n hx hb d_Md_keyed_93 rfl (lv_at hl 0 rfl) ?_
      refine va_iald hx hb hK hP 2 0 rfl rfl (i := (nI i)) (vp_in_nI (N := 1200) (by omega) (by decide)) d_Md_keyed_94 ?_
      refine lv_topi (fun x26 e_x26 => ?_)
      have hPc := hP.sub (ws' := [(mo, .inr (12, mdF r z q cd tm (nI sn) (nI (64 + i)))), (r 9, .inl ((cT 0), 1400, .inl g))]) [0, 1] rfl
      have hDc := hD.sub (ws' := [(mo, .inr (12, mdF r z q cd tm (nI sn) (nI (64 + i)))), (r 9, .inl ((cT 0), 1400, .inl g))]) [0, 1] (by decide) rfl
      have hFc := va_free (wc := [(mo, .inr (12, mdF r z q cd tm (nI sn) (nI (64 + i)))), (r 9, .inl ((cT 0), 1400, .inl g))]) hD hS hA [0, 1] rfl
      refine va_callv (va_runV (C := "DoorServerModel") (As := [.int x26]) (rest := []) ⟨hx, hb, hml, hown, hg⟩ (m_say l dC dI cT H.size mo r z q cd tm sn (64 + i) g x26 (by omega)) (cwV 1 hg (gI (List.forall_mem_append.mpr ⟨List.forall_mem_cons.mpr ⟨k_1220, List.forall_mem_cons.mpr ⟨k_1222, List.forall_mem_cons.mpr ⟨(big_sel (q := y_Md_say) (n := 45) (by decide +kernel)), List.forall_mem_cons.mpr ⟨k_13, fun _ h => absurd h List.not_mem_nil⟩⟩⟩⟩, List.forall_mem_cons.mpr ⟨k_1223, fun _ h => h⟩⟩)) rfl rfl rfl (by decide +kernel) ⟨Nat.le_of_ble_eq_true rfl, Nat.le_of_ble_eq_true rfl⟩) ⟨fun a U g mk q => by obtain ⟨q0, q1, qP, qK, qD⟩ := q; exact ⟨q0, q1, qP, va_K.moved (u := U) (U := U.calling g mk a) (Vm.Alike.refl U.vm) qK, qD⟩, va_recv (q0 := 0) (ci := 12) hK hP rfl rfl, fun U hU hW => ⟨rfl, by rw [hU], by rw [hU]; exact hPc, va_K.moved hW.alike hK, hDc.weaken (fun _ _ _ _ => trivial)⟩⟩ rfl rfl hl.1 rfl (lv_room (Nat.le_of_ble_eq_true rfl)) d_Md_keyed_95 ⟨Nat.le_of_ble_eq_true rfl, Nat.le_of_ble_eq_true rfl⟩) hS (fun q _ h => hFc q h) hFc (fun u t H1 locs ht hvm hw hB hz1 hk1 hS => ?_)
      try dsimp only at hw hB
      obtain ⟨hP1, hK1, hD1⟩ := hB
      rw [ht] at hP1
      obtain ⟨hP, hD⟩ := va_join (wr := [(r 12, .inl ((cT 0), 1200, .inl fk)), (r 3, .inl ((cT 0), 160, .inl fc)), (r 4, .inl ((cT 0), 4, .inl fz)), (r 0, .inl ((cT 1), 64, .inr (.inl fs))), (r 11, .inl ((cT 0), 16, .inl fd))]) (w1 := [(mo, .inr (12, mdF r z q cd tm (nI sn) (nI ((64 + i) + 1)))), (r 9, .inl ((cT 0), 1400, .inl (upd g (64 + i) x26)))]) hP hD [0, 1] [2, 3, 4, 5, 6] rfl rfl (by decide) (by decide) hk1 hFc hP1 hD1
      have hw27 := hw
      clear hPc hDc hFc hz1 hk1 hP1 hK1 hD1
      generalize H1 = H at hP hS ⊢
      have hP : va_P (dC, dI) vcl [(r 12, .inl ((cT 0), 1200, .inl fk)), (r 3, .inl ((cT 0), 160, .inl fc)), (r 4, .inl ((cT 0), 4, .inl fz)), (r 0, .inl ((cT 1), 64, .inr (.inl fs))), (r 11, .inl ((cT 0), 16, .inl fd)), (mo, .inr (12, mdF r z q cd tm (nI sn) (nI ((64 + i) + 1)))), (r 9, .inl ((cT 0), 1400, .inl (upd g (64 + i) x26)))] H := hP
      have hD : va_D A [(r 12, .inl ((cT 0), 1200, .inl fk)), (r 3, .inl ((cT 0), 160, .inl fc)), (r 4, .inl ((cT 0), 4, .inl fz)), (r 0, .inl ((cT 1), 64, .inr (.inl fs))), (r 11, .inl ((cT 0), 16, .inl fd)), (mo, .inr (12, mdF r z q cd tm (nI sn) (nI ((64 + i) + 1)))), (r 9, .inl ((cT 0), 1400, .inl (upd g (64 + i) x26)))] := hD
      refine lv_iinc (k := 0) (v := nI (i + 1)) (lv' := [(3, .int (nI (i + 1))), (2, .int (nI tx)), (0, .ref mo), (1, .int (nI st))]) hx hb d_Md_keyed_98 hl rfl (nI_1 i) (by decide) rfl (fun ls hl => ?_)
      refine lv_goto (tgt := 83) hx hb d_Md_keyed_101 (by decide) ?_
      have hP := hP.sub (ws' := [(mo, .inr (12, mdF r z q cd tm (nI sn) (nI ((64 + i) + 1)))), (r 9, .inl ((cT 0), 1400, .inl (upd g (64 + i) x26))), (r 12, .inl ((cT 0), 1200, .inl fk)), (r 3, .inl ((cT 0), 160, .inl fc)), (r 4, .inl ((cT 0), 4, .inl fz)), (r 0, .inl ((cT 1), 64, .inr (.inl fs))), (r 11, .inl ((cT 0), 16, .inl fd))]) [5, 6, 0, 1, 2, 3, 4] rfl
      have hD := hD.sub (ws' := [(mo, .inr (12, mdF r z q cd tm (nI sn) (nI ((64 + i) + 1)))), (r 9, .inl ((cT 0), 1400, .inl (upd g (64 + i) x26))), (r 12, .inl ((cT 0), 1200, .inl fk)), (r 3, .inl ((cT 0), 160, .inl fc)), (r 4, .inl ((cT 0), 4, .inl fz)), (r 0, .inl ((cT 1), 64, .inr (.inl fs))), (r 11, .inl ((cT 0), 16, .inl fd))]) [5, 6, 0, 1, 2, 3, 4] (by decide) rfl
      exact ih (i + 1) _ _ _ _ (by omega)  hP hD hS hl
  refine L23 _ (fun g H locs ls  hP hD hS hl => ?_) (tx - 0) 0 g H _ ls (by omega)  hP hD hS hl
  refine lv_aload_n hx hb d_Md_keyed_104 rfl (lv_at hl 2 rfl) ?_
  have hPc := hP.sub (ws' := [(mo, .inr (12, mdF r z q cd tm (nI sn) (nI (64 + tx)))), (r 9, .inl ((cT 0), 1400, .inl g)), (r 0, .inl ((cT 1), 64, .inr (.inl fs))), (r 11, .inl ((cT 0), 16, .inl fd))]) [0, 1, 5, 6] rfl
  have hDc := hD.sub (ws' := [(mo, .inr (12, mdF r z q cd tm (nI sn) (nI (64 + tx)))), (r 9, .inl ((cT 0), 1400, .inl g)), (r 0, .inl ((cT 1), 64, .inr (.inl fs))), (r 11, .inl ((cT 0), 16, .inl fd))]) [0, 1, 5, 6] (by decide) rfl
  have hFc := va_free (wc := [(mo, .inr (12, mdF r z q cd tm (nI sn) (nI (64 + tx)))), (r 9, .inl ((cT 0), 1400, .inl g)), (r 0, .inl ((cT 1), 64, .inr (.inl fs))), (r 11, .inl ((cT 0), 16, .inl fd))]) hD hS hA [0, 1, 5, 6] rfl
  refine va_callv (va_runV (C := "DoorServerModel") (As := []) (rest := []) ⟨hx, hb, hml, hown, hg⟩ (m_md5 l dC dI cT H.size mo r z q cd tm sn (64 + tx) g fs fd (by omega)) (cwV 0 hg (gI (List.forall_mem_append.mpr ⟨List.forall_mem_cons.mpr ⟨k_1224, List.forall_mem_cons.mpr ⟨k_1226, List.forall_mem_cons.mpr ⟨(big_sel (q := y_Md_md5) (n := 45) (by decide +kernel)), List.forall_mem_cons.mpr ⟨k_13, fun _ h => absurd h List.not_mem_nil⟩⟩⟩⟩, List.forall_mem_cons.mpr ⟨k_1227, fun _ h => h⟩⟩)) rfl rfl rfl (by decide +kernel) ⟨Nat.le_of_ble_eq_true rfl, Nat.le_of_ble_eq_true rfl⟩) ⟨fun a U g mk q => by obtain ⟨q0, q1, qP, qK, qD⟩ := q; exact ⟨q0, q1, qP, va_K.moved (u := U) (U := U.calling g mk a) (Vm.Alike.refl U.vm) qK, qD⟩, va_recv (q0 := 0) (ci := 12) hK hP rfl rfl, fun U hU hW => ⟨rfl, by rw [hU], by rw [hU]; exact hPc, va_K.moved hW.alike hK, hDc.weaken (fun _ _ _ _ => trivial)⟩⟩ rfl rfl hl.1 rfl (lv_room (Nat.le_of_ble_eq_true rfl)) d_Md_keyed_105 ⟨Nat.le_of_ble_eq_true rfl, Nat.le_of_ble_eq_true rfl⟩) hS (fun q _ h => hFc q h) hFc (fun u t H1 locs ht hvm hw hB hz1 hk1 hS => ?_)
  obtain ⟨g_28, fd2_29⟩ := u
  try dsimp only at hw hB
  obtain ⟨hP1, hK1, hD1⟩ := hB
  rw [ht] at hP1
  obtain ⟨hP, hD⟩ := va_join (wr := [(r 12, .inl ((cT 0), 1200, .inl fk)), (r 3, .inl ((cT 0), 160, .inl fc)), (r 4, .inl ((cT 0), 4, .inl fz))]) (w1 := [(mo, .inr (12, mdF r z q cd tm (nI sn) (nI 0))), (r 9, .inl ((cT 0), 1400, .inl g_28)), (r 0, .inl ((cT 1), 64, .inr (.inl fs))), (r 11, .inl ((cT 0), 16, .inl fd2_29))]) hP hD [0, 1, 5, 6] [2, 3, 4] rfl rfl (by decide) (by decide) hk1 hFc hP1 hD1
  have hw30 := hw
  clear hPc hDc hFc hz1 hk1 hP1 hK1 hD1
  generalize H1 = H at hP hS ⊢
  have hP : va_P (dC, dI) vcl [(r 12, .inl ((cT 0), 1200, .inl fk)), (r 3, .inl ((cT 0), 160, .inl fc)), (r 4, .inl ((cT 0), 4, .inl fz)), (mo, .inr (12, mdF r z q cd tm (nI sn) (nI 0))), (r 9, .inl ((cT 0), 1400, .inl g_28)), (r 0, .inl ((cT 1), 64, .inr (.inl fs))), (r 11, .inl ((cT 0), 16, .inl fd2_29))] H := hP
  have hD : va_D A [(r 12, .inl ((cT 0), 1200, .inl fk)), (r 3, .inl ((cT 0), 160, .inl fc)), (r 4, .inl ((cT 0), 4, .inl fz)), (mo, .inr (12, mdF r z q cd tm (nI sn) (nI 0))), (r 9, .inl ((cT 0), 1400, .inl g_28)), (r 0, .inl ((cT 1), 64, .inr (.inl fs))), (r 11, .inl ((cT 0), 16, .inl fd2_29))] := hD
  have hP := hP.sub (ws' := [(mo, .inr (12, mdF r z q cd tm (nI sn) (nI 0))), (r 9, .inl ((cT 0), 1400, .inl g_28)), (r 12, .inl ((cT 0), 1200, .inl fk)), (r 3, .inl ((cT 0), 160, .inl fc)), (r 4, .inl ((cT 0), 4, .inl fz)), (r 0, .inl ((cT 1), 64, .inr (.inl fs))), (r 11, .inl ((cT 0), 16, .inl fd2_29))]) [3, 4, 0, 1, 2, 5, 6] rfl
  have hD := hD.sub (ws' := [(mo, .inr (12, mdF r z q cd tm (nI sn) (nI 0))), (r 9, .inl ((cT 0), 1400, .inl g_28)), (r 12, .inl ((cT 0), 1200, .inl fk)), (r 3, .inl ((cT 0), 160, .inl fc)), (r 4, .inl ((cT 0), 4, .inl fz)), (r 0, .inl ((cT 1), 64, .inr (.inl fs))), (r 11, .inl ((cT 0), 16, .inl fd2_29))]) [3, 4, 0, 1, 2, 5, 6] (by decide) rfl
  refine lv_iconst (v := 0) hx hb d_Md_keyed_108 (by decide) ?_
  refine lv_istore_n (lv' := [(3, .int 0), (2, .int (nI tx)), (0, .ref mo), (1, .int (nI st))]) hx hb d_Md_keyed_109 rfl hl (by decide) rfl (fun ls hl => ?_)
  have hl := lv_sub hl [0, 1, 2, 3] (show _ = [(3, .int 0), (2, .int (nI tx)), (0, .ref mo), (1, .int (nI st))] from rfl)
  have L31 : ∀ (Q : State → Prop) (exit : ∀ (g : Nat → Int32) (H : Heap) (locs : List Loc) (ls : Array Slot), va_P (dC, dI) vcl [(mo, .inr (12, mdF r z q cd tm (nI sn) (nI 64))), (r 9, .inl ((cT 0), 1400, .inl g)), (r 12, .inl ((cT 0), 1200, .inl fk)), (r 3, .inl ((cT 0), 160, .inl fc)), (r 4, .inl ((cT 0), 4, .inl fz)), (r 0, .inl ((cT 1), 64, .inr (.inl fs))), (r 11, .inl ((cT 0), 16, .inl fd2_29))] H → va_D A [(mo, .inr (12, mdF r z q cd tm (nI sn) (nI 64))), (r 9, .inl ((cT 0), 1400, .inl g)), (r 12, .inl ((cT 0), 1200, .inl fk)), (r 3, .inl ((cT 0), 160, .inl fc)), (r 4, .inl ((cT 0), 4, .inl fz)), (r 0, .inl ((cT 1), 64, .inr (.inl fs))), (r 11, .inl ((cT 0), 16, .inl fd2_29))] → va_S A s.heap H locs → lv_has ls 4 [(3, .int (nI 64)), (2, .int (nI tx)), (0, .ref mo), (1, .int (nI st))] → W p l e ({ frames := 2, cells := 0, slots := 0, locals := 69 } : Room) s m args below meth c H locs 0 0 Q (F0 m 154 ls [])) (j8 i : Nat) (g : Nat → Int32) (H : Heap) (locs : List Loc) (ls : Array Slot), i + j8 = 64 → va_P (dC, dI) vcl [(mo, .inr (12, mdF r z q cd tm (nI sn) (nI i))), (r 9, .inl ((cT 0), 1400, .inl g)), (r 12, .inl ((cT 0), 1200, .inl fk)), (r 3, .inl ((cT 0), 160, .inl fc)), (r 4, .inl ((cT 0), 4, .inl fz)), (r 0, .inl ((cT 1), 64, .inr (.inl fs))), (r 11, .inl ((cT 0), 16, .inl fd2_29))] H → va_D A [(mo, .inr (12, mdF r z q cd tm (nI sn) (nI i))), (r 9, .inl ((cT 0), 1400, .inl g)), (r 12, .inl ((cT 0), 1200, .inl fk)), (r 3, .inl ((cT 0), 160, .inl fc)), (r 4, .inl ((cT 0), 4, .inl fz)), (r 0, .inl ((cT 1), 64, .inr (.inl fs))), (r 11, .inl ((cT 0), 16, .inl fd2_29))] → va_S A s.heap H locs → lv_has ls 4 [(3, .int (nI i)), (2, .int (nI tx)), (0, .ref mo), (1, .int (nI st))] → W p l e ({ frames := 2, cells := 0, slots := 0, locals := 69 } : Room) s m args below meth c H locs 0 0 Q (F0 m 110 ls []) := by
    intro Q exit j8
    induction j8 with
    | zero => 
      intro i g H locs ls hij  hP hD hS hl
      have hij : 64 = i := by omega
      refine lv_iload_n hx hb d_Md_keyed_110 rfl (lv_at hl 0 rfl) ?_
      refine lv_bipush (v := 64) hx hb d_Md_keyed_111 (by decide) ?_
      refine lv_topi (fun x33 e32 => ?_)
      obtain rfl : x33 = nI 64 := by rw [e32]; rfl
      refine lv_icmp_ge (tgt := 154) hx hb d_Md_keyed_113 (by decide) (fun hc34 => ?_) (fun hn9 => absurd (nI_le (by omega) (by omega)) hn9)
      subst hij
      exact exit g _ _ _  hP hD hS hl
    | succ j8 ih => 
      intro i g H locs ls hij  hP hD hS hl
      have hlt : i < 64 := by omega
      refine lv_iload_n hx hb d_Md_keyed_110 rfl (lv_at hl 0 rfl) ?_
      refine lv_bipush (v := 64) hx hb d_Md_keyed_111 (by decide) ?_
      refine lv_topi (fun x36 e35 => ?_)
      obtain rfl : x36 = nI 64 := by rw [e35]; rfl
      refine lv_icmp_ge (tgt := 154) hx hb d_Md_keyed_113 (by decide) (fun hn9 => absurd hn9 (nI_ge hlt (by omega))) (fun hc37 => ?_)
      refine lv_aload_n hx hb d_Md_keyed_116 rfl (lv_at hl 2 rfl) ?_
      refine lv_iload_n hx hb d_Md_keyed_117 rfl (lv_at hl 0 rfl) ?_
      refine lv_aload_n hx hb d_Md_keyed_118 rfl (lv_at hl 2 rfl) ?_
      refine va_get (D := (dC, dI)) (ci := 12) (v := (.ref (r 4))) (C := R_Md) (T := F_Md) (N := 45) hx hb hg in_Md hown hK hP 0 rfl rfl 4 (by decide) (hg _ k_1024) (fun _ h9 => h9) rfl d_Md_keyed_119 ?_
      refine lv_iload_n hx hb d_Md_keyed_122 rfl (lv_at hl 3 rfl) ?_
      refine va_iald hx hb hK hP 4 0 rfl rfl (i := (nI st)) (vp_in_nI (N := 4) hst (by decide)) d_Md_keyed_123 ?_
      refine lv_topi (fun x39 e38 => ?_)
      obtain rfl : x39 = nI sl := by rw [e38]; rw [nI_clamp (by omega)]; exact hfz
      have K40 : ∀ (z9 : Int32), W p l e ({ frames := 2, cells := 0, slots := 0, locals := 69 } : Room) s m args below meth c H locs 0 0 Q (F0 m 142 ls [.int z9, .ref mo]) := by
        intro z9
        refine lv_bipush (v := 92) hx hb d_Md_keyed_142 (by decide) ?_
        refine lv_ixor hx hb d_Md_keyed_144 ?_
        have hPc := hP.sub (ws' := [(mo, .inr (12, mdF r z q cd tm (nI sn) (nI i))), (r 9, .inl ((cT 0), 1400, .inl g))]) [0, 1] rfl
        have hDc := hD.sub (ws' := [(mo, .inr (12, mdF r z q cd tm (nI sn) (nI i))), (r 9, .inl ((cT 0), 1400, .inl g))]) [0, 1] (by decide) rfl
        have hFc := va_free (wc := [(mo, .inr (12, mdF r z q cd tm (nI sn) (nI i))), (r 9, .inl ((cT 0), 1400, .inl g))]) hD hS hA [0, 1] rfl
        refine va_callv (va_runV (C := "DoorServerModel") (As := [.int (z9 ^^^ 92)]) (rest := []) ⟨hx, hb, hml, hown, hg⟩ (m_say l dC dI cT H.size mo r z q cd tm sn i g (z9 ^^^ 92) (by omega)) (cwV 1 hg (gI (List.forall_mem_append.mpr ⟨List.forall_mem_cons.mpr ⟨k_1220, List.forall_mem_cons.mpr ⟨k_1222, List.forall_mem_cons.mpr ⟨(big_sel (q := y_Md_say) (n := 45) (by decide +kernel)), List.forall_mem_cons.mpr ⟨k_13, fun _ h => absurd h List.not_mem_nil⟩⟩⟩⟩, List.forall_mem_cons.mpr ⟨k_1223, fun _ h => h⟩⟩)) rfl rfl rfl (by decide +kernel) ⟨Nat.le_of_ble_eq_true rfl, Nat.le_of_ble_eq_true rfl⟩) ⟨fun a U g mk q => by obtain ⟨q0, q1, qP, qK, qD⟩ := q; exact ⟨q0, q1, qP, va_K.moved (u := U) (U := U.calling g mk a) (Vm.Alike.refl U.vm) qK, qD⟩, va_recv (q0 := 0) (ci := 12) hK hP rfl rfl, fun U hU hW => ⟨rfl, by rw [hU], by rw [hU]; exact hPc, va_K.moved hW.alike hK, hDc.weaken (fun _ _ _ _ => trivial)⟩⟩ rfl rfl hl.1 rfl (lv_room (Nat.le_of_ble_eq_true rfl)) d_Md_keyed_145 ⟨Nat.le_of_ble_eq_true rfl, Nat.le_of_ble_eq_true rfl⟩) hS (fun q _ h => hFc q h) hFc (fun u t H1 locs ht hvm hw hB hz1 hk1 hS => ?_)
        try dsimp only at hw hB
        obtain ⟨hP1, hK1, hD1⟩ := hB
        rw [ht] at hP1
        obtain ⟨hP, hD⟩ := va_join (wr := [(r 12, .inl ((cT 0), 1200, .inl fk)), (r 3, .inl ((cT 0), 160, .inl fc)), (r 4, .inl ((cT 0), 4, .inl fz)), (r 0, .inl ((cT 1), 64, .inr (.inl fs))), (r 11, .inl ((cT 0), 16, .inl fd2_29))]) (w1 := [(mo, .inr (12, mdF r z q cd tm (nI sn) (nI (i + 1)))), (r 9, .inl ((cT 0), 1400, .inl (upd g i (z9 ^^^ 92))))]) hP hD [0, 1] [2, 3, 4, 5, 6] rfl rfl (by decide) (by decide) hk1 hFc hP1 hD1
        have hw41 := hw
        clear hPc hDc hFc hz1 hk1 hP1 hK1 hD1
        generalize H1 = H at hP hS ⊢
        have hP : va_P (dC, dI) vcl [(r 12, .inl ((cT 0), 1200, .inl fk)), (r 3, .inl ((cT 0), 160, .inl fc)), (r 4, .inl ((cT 0), 4, .inl fz)), (r 0, .inl ((cT 1), 64, .inr (.inl fs))), (r 11, .inl ((cT 0), 16, .inl fd2_29)), (mo, .inr (12, mdF r z q cd tm (nI sn) (nI (i + 1)))), (r 9, .inl ((cT 0), 1400, .inl (upd g i (z9 ^^^ 92))))] H := hP
        have hD : va_D A [(r 12, .inl ((cT 0), 1200, .inl fk)), (r 3, .inl ((cT 0), 160, .inl fc)), (r 4, .inl ((cT 0), 4, .inl fz)), (r 0, .inl ((cT 1), 64, .inr (.inl fs))), (r 11, .inl ((cT 0), 16, .inl fd2_29)), (mo, .inr (12, mdF r z q cd tm (nI sn) (nI (i + 1)))), (r 9, .inl ((cT 0), 1400, .inl (upd g i (z9 ^^^ 92))))] := hD
        refine lv_iinc (k := 0) (v := nI (i + 1)) (lv' := [(3, .int (nI (i + 1))), (2, .int (nI tx)), (0, .ref mo), (1, .int (nI st))]) hx hb d_Md_keyed_148 hl rfl (nI_1 i) (by decide) rfl (fun ls hl => ?_)
        refine lv_goto (tgt := 110) hx hb d_Md_keyed_151 (by decide) ?_
        have hP := hP.sub (ws' := [(mo, .inr (12, mdF r z q cd tm (nI sn) (nI (i + 1)))), (r 9, .inl ((cT 0), 1400, .inl (upd g i (z9 ^^^ 92)))), (r 12, .inl ((cT 0), 1200, .inl fk)), (r 3, .inl ((cT 0), 160, .inl fc)), (r 4, .inl ((cT 0), 4, .inl fz)), (r 0, .inl ((cT 1), 64, .inr (.inl fs))), (r 11, .inl ((cT 0), 16, .inl fd2_29))]) [5, 6, 0, 1, 2, 3, 4] rfl
        have hD := hD.sub (ws' := [(mo, .inr (12, mdF r z q cd tm (nI sn) (nI (i + 1)))), (r 9, .inl ((cT 0), 1400, .inl (upd g i (z9 ^^^ 92)))), (r 12, .inl ((cT 0), 1200, .inl fk)), (r 3, .inl ((cT 0), 160, .inl fc)), (r 4, .inl ((cT 0), 4, .inl fz)), (r 0, .inl ((cT 1), 64, .inr (.inl fs))), (r 11, .inl ((cT 0), 16, .inl fd2_29))]) [5, 6, 0, 1, 2, 3, 4] (by decide) rfl
        exact ih (i + 1) _ _ _ _ (by omega) hP hD hS hl
      refine lv_icmp_ge (tgt := 141) hx hb d_Md_keyed_124 (by decide) (fun hc42 => ?_) (fun hc42 => ?_)
      · refine lv_iconst (v := 0) hx hb d_Md_keyed_141 (by decide) ?_
        exact K40 _
      · refine lv_aload_n hx hb d_Md_keyed_127 rfl (lv_at hl 2 rfl) ?_
        refine va_get (D := (dC, dI)) (ci := 12) (v := (.ref (r 3))) (C := R_Md) (T := F_Md) (N := 45) hx hb hg in_Md hown hK hP 0 rfl rfl 3 (by decide) (hg _ k_1023) (fun _ h9 => h9) rfl d_Md_keyed_128 ?_
        refine lv_bipush (v := 40) hx hb d_Md_keyed_131 (by decide) ?_
        refine lv_iload_n hx hb d_Md_keyed_133 rfl (lv_at hl 3 rfl) ?_
        refine lv_imul hx hb d_Md_keyed_134 ?_
        refine lv_topi (fun x44 e43 => ?_)
        obtain rfl : x44 = nI (40 * st) := by rw [e43]; exact pk_mul 40 st
        refine lv_iload_n hx hb d_Md_keyed_135 rfl (lv_at hl 0 rfl) ?_
        refine lv_iadd hx hb d_Md_keyed_136 ?_
        refine lv_topi (fun x46 e45 => ?_)
        obtain rfl : x46 = nI (40 * st + i) := by rw [e45]; exact nI_add _ _
        have hlt2 : i < sl := Nat.lt_of_not_le fun h9 => hc42 (nI_le h9 (by omega))
        refine va_iald hx hb hK hP 3 0 rfl rfl (i := (nI (40 * st + i))) (vp_in_nI (N := 160) (by omega) (by decide)) d_Md_keyed_137 ?_
        refine lv_goto (tgt := 142) hx hb d_Md_keyed_138 (by decide) ?_
        exact K40 _
  refine L31 _ (fun g H locs ls  hP hD hS hl => ?_) (64 - 0) 0 g_28 H _ ls (by omega)  hP hD hS hl
  refine lv_iconst (v := 0) hx hb d_Md_keyed_154 (by decide) ?_
  refine lv_istore_n (lv' := [(3, .int 0), (2, .int (nI tx)), (0, .ref mo), (1, .int (nI st))]) hx hb d_Md_keyed_155 rfl hl (by decide) rfl (fun ls hl => ?_)
  have hl := lv_sub hl [0, 1, 2, 3] (show _ = [(3, .int 0), (2, .int (nI tx)), (0, .ref mo), (1, .int (nI st))] from rfl)
  have hP : va_P (dC, dI) vcl [(mo, .inr (12, mdF r z q cd tm (nI sn) (nI (64 + 0)))), (r 9, .inl ((cT 0), 1400, .inl g)), (r 12, .inl ((cT 0), 1200, .inl fk)), (r 3, .inl ((cT 0), 160, .inl fc)), (r 4, .inl ((cT 0), 4, .inl fz)), (r 0, .inl ((cT 1), 64, .inr (.inl fs))), (r 11, .inl ((cT 0), 16, .inl fd2_29))] H := hP
  have hD : va_D A [(mo, .inr (12, mdF r z q cd tm (nI sn) (nI (64 + 0)))), (r 9, .inl ((cT 0), 1400, .inl g)), (r 12, .inl ((cT 0), 1200, .inl fk)), (r 3, .inl ((cT 0), 160, .inl fc)), (r 4, .inl ((cT 0), 4, .inl fz)), (r 0, .inl ((cT 1), 64, .inr (.inl fs))), (r 11, .inl ((cT 0), 16, .inl fd2_29))] := hD
  have L47 : ∀ (Q : State → Prop) (exit : ∀ (g : Nat → Int32) (H : Heap) (locs : List Loc) (ls : Array Slot), va_P (dC, dI) vcl [(mo, .inr (12, mdF r z q cd tm (nI sn) (nI (64 + 16)))), (r 9, .inl ((cT 0), 1400, .inl g)), (r 12, .inl ((cT 0), 1200, .inl fk)), (r 3, .inl ((cT 0), 160, .inl fc)), (r 4, .inl ((cT 0), 4, .inl fz)), (r 0, .inl ((cT 1), 64, .inr (.inl fs))), (r 11, .inl ((cT 0), 16, .inl fd2_29))] H → va_D A [(mo, .inr (12, mdF r z q cd tm (nI sn) (nI (64 + 16)))), (r 9, .inl ((cT 0), 1400, .inl g)), (r 12, .inl ((cT 0), 1200, .inl fk)), (r 3, .inl ((cT 0), 160, .inl fc)), (r 4, .inl ((cT 0), 4, .inl fz)), (r 0, .inl ((cT 1), 64, .inr (.inl fs))), (r 11, .inl ((cT 0), 16, .inl fd2_29))] → va_S A s.heap H locs → lv_has ls 4 [(3, .int (nI 16)), (2, .int (nI tx)), (0, .ref mo), (1, .int (nI st))] → W p l e ({ frames := 2, cells := 0, slots := 0, locals := 69 } : Room) s m args below meth c H locs 0 0 Q (F0 m 178 ls [])) (j8 i : Nat) (g : Nat → Int32) (H : Heap) (locs : List Loc) (ls : Array Slot), i + j8 = 16 → va_P (dC, dI) vcl [(mo, .inr (12, mdF r z q cd tm (nI sn) (nI (64 + i)))), (r 9, .inl ((cT 0), 1400, .inl g)), (r 12, .inl ((cT 0), 1200, .inl fk)), (r 3, .inl ((cT 0), 160, .inl fc)), (r 4, .inl ((cT 0), 4, .inl fz)), (r 0, .inl ((cT 1), 64, .inr (.inl fs))), (r 11, .inl ((cT 0), 16, .inl fd2_29))] H → va_D A [(mo, .inr (12, mdF r z q cd tm (nI sn) (nI (64 + i)))), (r 9, .inl ((cT 0), 1400, .inl g)), (r 12, .inl ((cT 0), 1200, .inl fk)), (r 3, .inl ((cT 0), 160, .inl fc)), (r 4, .inl ((cT 0), 4, .inl fz)), (r 0, .inl ((cT 1), 64, .inr (.inl fs))), (r 11, .inl ((cT 0), 16, .inl fd2_29))] → va_S A s.heap H locs → lv_has ls 4 [(3, .int (nI i)), (2, .int (nI tx)), (0, .ref mo), (1, .int (nI st))] → W p l e ({ frames := 2, cells := 0, slots := 0, locals := 69 } : Room) s m args below meth c H locs 0 0 Q (F0 m 156 ls []) := by
    intro Q exit j8
    induction j8 with
    | zero => 
      intro i g H locs ls hij  hP hD hS hl
      have hij : 16 = i := by omega
      refine lv_iload_n hx hb d_Md_keyed_156 rfl (lv_at hl 0 rfl) ?_
      refine lv_bipush (v := 16) hx hb d_Md_keyed_157 (by decide) ?_
      refine lv_topi (fun x49 e48 => ?_)
      obtain rfl : x49 = nI 16 := by rw [e48]; rfl
      refine lv_icmp_ge (tgt := 178) hx hb d_Md_keyed_159 (by decide) (fun hc50 => ?_) (fun hn9 => absurd (nI_le (by omega) (by omega)) hn9)
      subst hij
      exact exit g _ _ _  hP hD hS hl
    | succ j8 ih => 
      intro i g H locs ls hij  hP hD hS hl
      have hlt : i < 16 := by omega
      refine lv_iload_n hx hb d_Md_keyed_156 rfl (lv_at hl 0 rfl) ?_
      refine lv_bipush (v := 16) hx hb d_Md_keyed_157 (by decide) ?_
      refine lv_topi (fun x52 e51 => ?_)
      obtain rfl : x52 = nI 16 := by rw [e51]; rfl
      refine lv_icmp_ge (tgt := 178) hx hb d_Md_keyed_159 (by decide) (fun hn9 => absurd hn9 (nI_ge hlt (by omega))) (fun hc53 => ?_)
      refine lv_aload_n hx hb d_Md_keyed_162 rfl (lv_at hl 2 rfl) ?_
      refine lv_aload_n hx hb d_Md_keyed_163 rfl (lv_at hl 2 rfl) ?_
      refine va_get (D := (dC, dI)) (ci := 12) (v := (.ref (r 11))) (C := R_Md) (T := F_Md) (N := 45) hx hb hg in_Md hown hK hP 0 rfl rfl 11 (by decide) (hg _ k_1031) (fun _ h9 => h9) rfl d_Md_keyed_164 ?_
      refine lv_iload_n hx hb d_Md_keyed_167 rfl (lv_at hl 0 rfl) ?_
      refine va_iald hx hb hK hP 6 0 rfl rfl (i := (nI i)) (vp_in_nI (N := 16) (by omega) (by decide)) d_Md_keyed_168 ?_
      refine lv_topi (fun x54 e_x54 => ?_)
      have hPc := hP.sub (ws' := [(mo, .inr (12, mdF r z q cd tm (nI sn) (nI (64 + i)))), (r 9, .inl ((cT 0), 1400, .inl g))]) [0, 1] rfl
      have hDc := hD.sub (ws' := [(mo, .inr (12, mdF r z q cd tm (nI sn) (nI (64 + i)))), (r 9, .inl ((cT 0), 1400, .inl g))]) [0, 1] (by decide) rfl
      have hFc := va_free (wc := [(mo, .inr (12, mdF r z q cd tm (nI sn) (nI (64 + i)))), (r 9, .inl ((cT 0), 1400, .inl g))]) hD hS hA [0, 1] rfl
      refine va_callv (va_runV (C := "DoorServerModel") (As := [.int x54]) (rest := []) ⟨hx, hb, hml, hown, hg⟩ (m_say l dC dI cT H.size mo r z q cd tm sn (64 + i) g x54 (by omega)) (cwV 1 hg (gI (List.forall_mem_append.mpr ⟨List.forall_mem_cons.mpr ⟨k_1220, List.forall_mem_cons.mpr ⟨k_1222, List.forall_mem_cons.mpr ⟨(big_sel (q := y_Md_say) (n := 45) (by decide +kernel)), List.forall_mem_cons.mpr ⟨k_13, fun _ h => absurd h List.not_mem_nil⟩⟩⟩⟩, List.forall_mem_cons.mpr ⟨k_1223, fun _ h => h⟩⟩)) rfl rfl rfl (by decide +kernel) ⟨Nat.le_of_ble_eq_true rfl, Nat.le_of_ble_eq_true rfl⟩) ⟨fun a U g mk q => by obtain ⟨q0, q1, qP, qK, qD⟩ := q; exact ⟨q0, q1, qP, va_K.moved (u := U) (U := U.calling g mk a) (Vm.Alike.refl U.vm) qK, qD⟩, va_recv (q0 := 0) (ci := 12) hK hP rfl rfl, fun U hU hW => ⟨rfl, by rw [hU], by rw [hU]; exact hPc, va_K.moved hW.alike hK, hDc.weaken (fun _ _ _ _ => trivial)⟩⟩ rfl rfl hl.1 rfl (lv_room (Nat.le_of_ble_eq_true rfl)) d_Md_keyed_169 ⟨Nat.le_of_ble_eq_true rfl, Nat.le_of_ble_eq_true rfl⟩) hS (fun q _ h => hFc q h) hFc (fun u t H1 locs ht hvm hw hB hz1 hk1 hS => ?_)
      try dsimp only at hw hB
      obtain ⟨hP1, hK1, hD1⟩ := hB
      rw [ht] at hP1
      obtain ⟨hP, hD⟩ := va_join (wr := [(r 12, .inl ((cT 0), 1200, .inl fk)), (r 3, .inl ((cT 0), 160, .inl fc)), (r 4, .inl ((cT 0), 4, .inl fz)), (r 0, .inl ((cT 1), 64, .inr (.inl fs))), (r 11, .inl ((cT 0), 16, .inl fd2_29))]) (w1 := [(mo, .inr (12, mdF r z q cd tm (nI sn) (nI ((64 + i) + 1)))), (r 9, .inl ((cT 0), 1400, .inl (upd g (64 + i) x54)))]) hP hD [0, 1] [2, 3, 4, 5, 6] rfl rfl (by decide) (by decide) hk1 hFc hP1 hD1
      have hw55 := hw
      clear hPc hDc hFc hz1 hk1 hP1 hK1 hD1
      generalize H1 = H at hP hS ⊢
      have hP : va_P (dC, dI) vcl [(r 12, .inl ((cT 0), 1200, .inl fk)), (r 3, .inl ((cT 0), 160, .inl fc)), (r 4, .inl ((cT 0), 4, .inl fz)), (r 0, .inl ((cT 1), 64, .inr (.inl fs))), (r 11, .inl ((cT 0), 16, .inl fd2_29)), (mo, .inr (12, mdF r z q cd tm (nI sn) (nI ((64 + i) + 1)))), (r 9, .inl ((cT 0), 1400, .inl (upd g (64 + i) x54)))] H := hP
      have hD : va_D A [(r 12, .inl ((cT 0), 1200, .inl fk)), (r 3, .inl ((cT 0), 160, .inl fc)), (r 4, .inl ((cT 0), 4, .inl fz)), (r 0, .inl ((cT 1), 64, .inr (.inl fs))), (r 11, .inl ((cT 0), 16, .inl fd2_29)), (mo, .inr (12, mdF r z q cd tm (nI sn) (nI ((64 + i) + 1)))), (r 9, .inl ((cT 0), 1400, .inl (upd g (64 + i) x54)))] := hD
      refine lv_iinc (k := 0) (v := nI (i + 1)) (lv' := [(3, .int (nI (i + 1))), (2, .int (nI tx)), (0, .ref mo), (1, .int (nI st))]) hx hb d_Md_keyed_172 hl rfl (nI_1 i) (by decide) rfl (fun ls hl => ?_)
      refine lv_goto (tgt := 156) hx hb d_Md_keyed_175 (by decide) ?_
      have hP := hP.sub (ws' := [(mo, .inr (12, mdF r z q cd tm (nI sn) (nI ((64 + i) + 1)))), (r 9, .inl ((cT 0), 1400, .inl (upd g (64 + i) x54))), (r 12, .inl ((cT 0), 1200, .inl fk)), (r 3, .inl ((cT 0), 160, .inl fc)), (r 4, .inl ((cT 0), 4, .inl fz)), (r 0, .inl ((cT 1), 64, .inr (.inl fs))), (r 11, .inl ((cT 0), 16, .inl fd2_29))]) [5, 6, 0, 1, 2, 3, 4] rfl
      have hD := hD.sub (ws' := [(mo, .inr (12, mdF r z q cd tm (nI sn) (nI ((64 + i) + 1)))), (r 9, .inl ((cT 0), 1400, .inl (upd g (64 + i) x54))), (r 12, .inl ((cT 0), 1200, .inl fk)), (r 3, .inl ((cT 0), 160, .inl fc)), (r 4, .inl ((cT 0), 4, .inl fz)), (r 0, .inl ((cT 1), 64, .inr (.inl fs))), (r 11, .inl ((cT 0), 16, .inl fd2_29))]) [5, 6, 0, 1, 2, 3, 4] (by decide) rfl
      exact ih (i + 1) _ _ _ _ (by omega)  hP hD hS hl
  refine L47 _ (fun g H locs ls  hP hD hS hl => ?_) (16 - 0) 0 g H _ ls (by omega)  hP hD hS hl
  refine lv_aload_n hx hb d_Md_keyed_178 rfl (lv_at hl 2 rfl) ?_
  have hPc := hP.sub (ws' := [(mo, .inr (12, mdF r z q cd tm (nI sn) (nI (64 + 16)))), (r 9, .inl ((cT 0), 1400, .inl g)), (r 0, .inl ((cT 1), 64, .inr (.inl fs))), (r 11, .inl ((cT 0), 16, .inl fd2_29))]) [0, 1, 5, 6] rfl
  have hDc := hD.sub (ws' := [(mo, .inr (12, mdF r z q cd tm (nI sn) (nI (64 + 16)))), (r 9, .inl ((cT 0), 1400, .inl g)), (r 0, .inl ((cT 1), 64, .inr (.inl fs))), (r 11, .inl ((cT 0), 16, .inl fd2_29))]) [0, 1, 5, 6] (by decide) rfl
  have hFc := va_free (wc := [(mo, .inr (12, mdF r z q cd tm (nI sn) (nI (64 + 16)))), (r 9, .inl ((cT 0), 1400, .inl g)), (r 0, .inl ((cT 1), 64, .inr (.inl fs))), (r 11, .inl ((cT 0), 16, .inl fd2_29))]) hD hS hA [0, 1, 5, 6] rfl
  refine va_callv (va_runV (C := "DoorServerModel") (As := []) (rest := []) ⟨hx, hb, hml, hown, hg⟩ (m_md5 l dC dI cT H.size mo r z q cd tm sn (64 + 16) g fs fd2_29 (by decide)) (cwV 0 hg (gI (List.forall_mem_append.mpr ⟨List.forall_mem_cons.mpr ⟨k_1224, List.forall_mem_cons.mpr ⟨k_1226, List.forall_mem_cons.mpr ⟨(big_sel (q := y_Md_md5) (n := 45) (by decide +kernel)), List.forall_mem_cons.mpr ⟨k_13, fun _ h => absurd h List.not_mem_nil⟩⟩⟩⟩, List.forall_mem_cons.mpr ⟨k_1227, fun _ h => h⟩⟩)) rfl rfl rfl (by decide +kernel) ⟨Nat.le_of_ble_eq_true rfl, Nat.le_of_ble_eq_true rfl⟩) ⟨fun a U g mk q => by obtain ⟨q0, q1, qP, qK, qD⟩ := q; exact ⟨q0, q1, qP, va_K.moved (u := U) (U := U.calling g mk a) (Vm.Alike.refl U.vm) qK, qD⟩, va_recv (q0 := 0) (ci := 12) hK hP rfl rfl, fun U hU hW => ⟨rfl, by rw [hU], by rw [hU]; exact hPc, va_K.moved hW.alike hK, hDc.weaken (fun _ _ _ _ => trivial)⟩⟩ rfl rfl hl.1 rfl (lv_room (Nat.le_of_ble_eq_true rfl)) d_Md_keyed_179 ⟨Nat.le_of_ble_eq_true rfl, Nat.le_of_ble_eq_true rfl⟩) hS (fun q _ h => hFc q h) hFc (fun u t H1 locs ht hvm hw hB hz1 hk1 hS => ?_)
  obtain ⟨g_56, fd2_57⟩ := u
  try dsimp only at hw hB
  obtain ⟨hP1, hK1, hD1⟩ := hB
  rw [ht] at hP1
  obtain ⟨hP, hD⟩ := va_join (wr := [(r 12, .inl ((cT 0), 1200, .inl fk)), (r 3, .inl ((cT 0), 160, .inl fc)), (r 4, .inl ((cT 0), 4, .inl fz))]) (w1 := [(mo, .inr (12, mdF r z q cd tm (nI sn) (nI 0))), (r 9, .inl ((cT 0), 1400, .inl g_56)), (r 0, .inl ((cT 1), 64, .inr (.inl fs))), (r 11, .inl ((cT 0), 16, .inl fd2_57))]) hP hD [0, 1, 5, 6] [2, 3, 4] rfl rfl (by decide) (by decide) hk1 hFc hP1 hD1
  have hw58 := hw
  clear hPc hDc hFc hz1 hk1 hP1 hK1 hD1
  generalize H1 = H at hP hS ⊢
  have hP : va_P (dC, dI) vcl [(r 12, .inl ((cT 0), 1200, .inl fk)), (r 3, .inl ((cT 0), 160, .inl fc)), (r 4, .inl ((cT 0), 4, .inl fz)), (mo, .inr (12, mdF r z q cd tm (nI sn) (nI 0))), (r 9, .inl ((cT 0), 1400, .inl g_56)), (r 0, .inl ((cT 1), 64, .inr (.inl fs))), (r 11, .inl ((cT 0), 16, .inl fd2_57))] H := hP
  have hD : va_D A [(r 12, .inl ((cT 0), 1200, .inl fk)), (r 3, .inl ((cT 0), 160, .inl fc)), (r 4, .inl ((cT 0), 4, .inl fz)), (mo, .inr (12, mdF r z q cd tm (nI sn) (nI 0))), (r 9, .inl ((cT 0), 1400, .inl g_56)), (r 0, .inl ((cT 1), 64, .inr (.inl fs))), (r 11, .inl ((cT 0), 16, .inl fd2_57))] := hD
  have hP9 := hP.sub (ws' := [(mo, .inr (12, mdF r z q cd tm (nI sn) (nI 0))), (r 9, .inl ((cT 0), 1400, .inl g_56)), (r 12, .inl ((cT 0), 1200, .inl fk)), (r 3, .inl ((cT 0), 160, .inl fc)), (r 4, .inl ((cT 0), 4, .inl fz)), (r 0, .inl ((cT 1), 64, .inr (.inl fs))), (r 11, .inl ((cT 0), 16, .inl fd2_57))]) [3, 4, 0, 1, 2, 5, 6] rfl
  have hD9 := hD.sub (ws' := [(mo, .inr (12, mdF r z q cd tm (nI sn) (nI 0))), (r 9, .inl ((cT 0), 1400, .inl g_56)), (r 12, .inl ((cT 0), 1200, .inl fk)), (r 3, .inl ((cT 0), 160, .inl fc)), (r 4, .inl ((cT 0), 4, .inl fz)), (r 0, .inl ((cT 1), 64, .inr (.inl fs))), (r 11, .inl ((cT 0), 16, .inl fd2_57))]) [3, 4, 0, 1, 2, 5, 6] (by decide) rfl
  exact W.vret hx hb hr (fun t ht hW => ⟨⟨⟨g_56, fk, fd2_57⟩, rfl, trivial, by rw [ht]; exact hP9, va_K.moved hW.alike hK, hD9⟩, hS.F ht⟩) hS.2.2 d_Md_keyed_182
set_option maxHeartbeats 4000000 in
set_option maxRecDepth 100000 in
/-- cover -/
theorem m_cover (l : Launch) (dC : Nat → ClassId) (dI : Nat → Nat → Nat) (cT : Nat → ClassId) (sz : Nat) (mo : Nat) (r : Nat → Nat) (z : Nat → Int32) (q : Nat → Int64) (cd : Int32) (tm : Int32) (sn : Nat) (tx : Nat) (f : Nat → Int32) (fs : Nat → Int64) (fd : Nat → Int32) (fc : Nat → Int32) (fz : Nat → Int32) (st : Nat) (sl : Nat) (fp : Nat → Int32) (fr : Nat) (hst : st < 4) (hfz : fz st = nI sl) (hsl : sl ≤ 40) (ht : tx ≤ 1000) (hfr : fr + 16 ≤ 1000) : Met l y_Md_cover (Cond.code y_Md_cover b_Md_cover 4 (Option.none : Option Jvm.ClassFile.FieldType) :: BIG) ({ frames := 2, cells := 0, slots := 0, locals := 69 }) (va_Pc [.ref mo, .int (nI st), .int (nI fr)] (fun U => U.heap.size = sz ∧ va_P (dC, dI) vcl [(mo, .inr (12, mdF r z q cd tm (nI sn) (nI tx))), (r 9, .inl ((cT 0), 1400, .inl f)), (r 3, .inl ((cT 0), 160, .inl fc)), (r 4, .inl ((cT 0), 4, .inl fz)), (r 7, .inl ((cT 0), 1000, .inl fp)), (r 0, .inl ((cT 1), 64, .inr (.inl fs))), (r 11, .inl ((cT 0), 16, .inl fd))] U.heap ∧ va_K (dC, dI) vcl (tyL cT) U ∧ va_D (fun _ => True) [(mo, .inr (12, mdF r z q cd tm (nI sn) (nI tx))), (r 9, .inl ((cT 0), 1400, .inl f)), (r 3, .inl ((cT 0), 160, .inl fc)), (r 4, .inl ((cT 0), 4, .inl fz)), (r 7, .inl ((cT 0), 1000, .inl fp)), (r 0, .inl ((cT 1), 64, .inr (.inl fs))), (r 11, .inl ((cT 0), 16, .inl fd))])) (va_Qv (S := (Nat → Int32) × (Nat → Int32)) (fun u => match u with | (g, fd2) => True) (fun u t => match u with | (g, fd2) => va_P (dC, dI) vcl [(mo, .inr (12, mdF r z q cd tm (nI sn) (nI 0))), (r 9, .inl ((cT 0), 1400, .inl g)), (r 3, .inl ((cT 0), 160, .inl fc)), (r 4, .inl ((cT 0), 4, .inl fz)), (r 7, .inl ((cT 0), 1000, .inl fp)), (r 0, .inl ((cT 1), 64, .inr (.inl fs))), (r 11, .inl ((cT 0), 16, .inl fd2))] t.heap ∧ va_K (dC, dI) vcl (tyL cT) t ∧ va_D (va_A [(mo, .inr (12, mdF r z q cd tm (nI sn) (nI tx))), (r 9, .inl ((cT 0), 1400, .inl f)), (r 3, .inl ((cT 0), 160, .inl fc)), (r 4, .inl ((cT 0), 4, .inl fz)), (r 7, .inl ((cT 0), 1000, .inl fp)), (r 0, .inl ((cT 1), 64, .inr (.inl fs))), (r 11, .inl ((cT 0), 16, .inl fd))] sz) [(mo, .inr (12, mdF r z q cd tm (nI sn) (nI 0))), (r 9, .inl ((cT 0), 1400, .inl g)), (r 3, .inl ((cT 0), 160, .inl fc)), (r 4, .inl ((cT 0), 4, .inl fz)), (r 7, .inl ((cT 0), 1000, .inl fp)), (r 0, .inl ((cT 1), 64, .inr (.inl fs))), (r 11, .inl ((cT 0), 16, .inl fd2))]) (va_A [(mo, .inr (12, mdF r z q cd tm (nI sn) (nI tx))), (r 9, .inl ((cT 0), 1400, .inl f)), (r 3, .inl ((cT 0), 160, .inl fc)), (r 4, .inl ((cT 0), 4, .inl fz)), (r 7, .inl ((cT 0), 1000, .inl fp)), (r 0, .inl ((cT 1), 64, .inr (.inl fs))), (r 11, .inl ((cT 0), 16, .inl fd))] sz)) 0 0 (va_A [(mo, .inr (12, mdF r z q cd tm (nI sn) (nI tx))), (r 9, .inl ((cT 0), 1400, .inl f)), (r 3, .inl ((cT 0), 160, .inl fc)), (r 4, .inl ((cT 0), 4, .inl fz)), (r 7, .inl ((cT 0), 1000, .inl fp)), (r 0, .inl ((cT 1), 64, .inr (.inl fs))), (r 11, .inl ((cT 0), 16, .inl fd))] sz) := by
  refine Met.ofW (cc := b_Md_cover) (maxL := 4) (ret := (Option.none : Option Jvm.ClassFile.FieldType)) (by decide) rfl ?_
  intro p e s m args below meth c s₁ B hml hv
  obtain ⟨hargs, hsz, hP, hK, hD0⟩ := hv
  have hx := B.exec
  have hb := B.bytes
  have hr := B.returns
  have hts := atoms_spec (ws := (Cond.code y_Md_cover b_Md_cover 4 (Option.none : Option Jvm.ClassFile.FieldType) :: BIG)) B.pre
  have hg : ∀ w ∈ BIG, w.before _ s = true := fun w h => hts w (List.mem_cons_of_mem _ h)
  have hown : s.vm.findClass "DoorServerModel" = some m.cls := findClass_of_methodNamed B.named
  have hlocks := B.notSynchronized
  subst hsz
  have hD := hD0.self (sz := s.heap.size)
  generalize hAe : va_A [(mo, .inr (12, mdF r z q cd tm (nI sn) (nI tx))), (r 9, .inl ((cT 0), 1400, .inl f)), (r 3, .inl ((cT 0), 160, .inl fc)), (r 4, .inl ((cT 0), 4, .inl fz)), (r 7, .inl ((cT 0), 1000, .inl fp)), (r 0, .inl ((cT 1), 64, .inr (.inl fs))), (r 11, .inl ((cT 0), 16, .inl fd))] s.heap.size = A at hD ⊢
  have hA : ∀ q : Nat, s.heap.size ≤ q → A q := fun q h => by rw [← hAe]; exact Or.inr h
  have hS : va_S A s.heap s.heap [] := va_S.rf
  have hl := lv_entry ([.ref mo, .int (nI st), .int (nI fr)]) (n := 4) (Nat.le_of_ble_eq_true rfl)
  refine W.eq (g2 := entryFrame m (List.toArray [.ref mo, .int (nI st), .int (nI fr)]) 4) (by rw [hargs]) ?_
  rw [lg_entry_eq]
  generalize (lg_sl ([.ref mo, .int (nI st), .int (nI fr)]) ++ List.replicate (4 - (lg_sl ([.ref mo, .int (nI st), .int (nI fr)])).length) Slot.unset).toArray = ls at hl ⊢
  have hl : lv_has ls 4 [(0, .ref mo), (1, .int (nI st)), (2, .int (nI fr))] := hl
  change W p l e ({ frames := 2, cells := 0, slots := 0, locals := 69 } : Room) s m args below meth c s.heap [] 0 0 _ _
  have hP : va_P (dC, dI) vcl [(mo, .inr (12, mdF r z q cd tm (nI sn) (nI tx))), (r 9, .inl ((cT 0), 1400, .inl f)), (r 3, .inl ((cT 0), 160, .inl fc)), (r 4, .inl ((cT 0), 4, .inl fz)), (r 7, .inl ((cT 0), 1000, .inl fp)), (r 0, .inl ((cT 1), 64, .inr (.inl fs))), (r 11, .inl ((cT 0), 16, .inl fd))] s.heap := hP
  refine lv_aload_n hx hb d_Md_cover_0 rfl (lv_at hl 0 rfl) ?_
  refine lv_iload_n hx hb d_Md_cover_1 rfl (lv_at hl 1 rfl) ?_
  have hPc := hP.sub (ws' := [(mo, .inr (12, mdF r z q cd tm (nI sn) (nI tx))), (r 3, .inl ((cT 0), 160, .inl fc)), (r 4, .inl ((cT 0), 4, .inl fz)), (r 9, .inl ((cT 0), 1400, .inl f))]) [0, 2, 3, 1] rfl
  have hDc := hD.sub (ws' := [(mo, .inr (12, mdF r z q cd tm (nI sn) (nI tx))), (r 3, .inl ((cT 0), 160, .inl fc)), (r 4, .inl ((cT 0), 4, .inl fz)), (r 9, .inl ((cT 0), 1400, .inl f))]) [0, 2, 3, 1] (by decide) rfl
  have hFc := va_free (wc := [(mo, .inr (12, mdF r z q cd tm (nI sn) (nI tx))), (r 3, .inl ((cT 0), 160, .inl fc)), (r 4, .inl ((cT 0), 4, .inl fz)), (r 9, .inl ((cT 0), 1400, .inl f))]) hD hS hA [0, 2, 3, 1] rfl
  refine va_callv (va_runV (C := "DoorServerModel") (As := [.int (nI st)]) (rest := []) ⟨hx, hb, hml, hown, hg⟩ (m_saySecret l dC dI cT s.heap.size mo r z q cd tm sn tx fc fz st sl f (hst) (hfz) (hsl) (by omega)) (cwV 1 hg (gI (List.forall_mem_append.mpr ⟨List.forall_mem_cons.mpr ⟨k_1216, List.forall_mem_cons.mpr ⟨k_1218, List.forall_mem_cons.mpr ⟨(big_sel (q := y_Md_saySecret) (n := 45) (by decide +kernel)), List.forall_mem_cons.mpr ⟨k_13, fun _ h => absurd h List.not_mem_nil⟩⟩⟩⟩, List.forall_mem_cons.mpr ⟨k_1219, fun _ h => h⟩⟩)) rfl rfl rfl (by decide +kernel) ⟨Nat.le_of_ble_eq_true rfl, Nat.le_of_ble_eq_true rfl⟩) ⟨fun a U g mk q => by obtain ⟨q0, q1, qP, qK, qD⟩ := q; exact ⟨q0, q1, qP, va_K.moved (u := U) (U := U.calling g mk a) (Vm.Alike.refl U.vm) qK, qD⟩, va_recv (q0 := 0) (ci := 12) hK hP rfl rfl, fun U hU hW => ⟨rfl, by rw [hU], by rw [hU]; exact hPc, va_K.moved hW.alike hK, hDc.weaken (fun _ _ _ _ => trivial)⟩⟩ rfl rfl hl.1 rfl (lv_room (Nat.le_of_ble_eq_true rfl)) d_Md_cover_2 ⟨Nat.le_of_ble_eq_true rfl, Nat.le_of_ble_eq_true rfl⟩) hS (fun q _ h => hFc q h) hFc (fun u t H1 locs ht hvm hw hB hz1 hk1 hS => ?_)
  obtain ⟨g_59, rfl⟩ : ∃ z, z = u := ⟨_, rfl⟩
  try dsimp only at hw hB
  obtain ⟨hP1, hK1, hD1⟩ := hB
  rw [ht] at hP1
  obtain ⟨hP, hD⟩ := va_join (wr := [(r 7, .inl ((cT 0), 1000, .inl fp)), (r 0, .inl ((cT 1), 64, .inr (.inl fs))), (r 11, .inl ((cT 0), 16, .inl fd))]) (w1 := [(mo, .inr (12, mdF r z q cd tm (nI sn) (nI (tx + sl)))), (r 3, .inl ((cT 0), 160, .inl fc)), (r 4, .inl ((cT 0), 4, .inl fz)), (r 9, .inl ((cT 0), 1400, .inl g_59))]) hP hD [0, 2, 3, 1] [4, 5, 6] rfl rfl (by decide) (by decide) hk1 hFc hP1 hD1
  have hw60 := hw
  clear hPc hDc hFc hz1 hk1 hP1 hK1 hD1
  generalize H1 = H at hP hS ⊢
  have hP : va_P (dC, dI) vcl [(r 7, .inl ((cT 0), 1000, .inl fp)), (r 0, .inl ((cT 1), 64, .inr (.inl fs))), (r 11, .inl ((cT 0), 16, .inl fd)), (mo, .inr (12, mdF r z q cd tm (nI sn) (nI (tx + sl)))), (r 3, .inl ((cT 0), 160, .inl fc)), (r 4, .inl ((cT 0), 4, .inl fz)), (r 9, .inl ((cT 0), 1400, .inl g_59))] H := hP
  have hD : va_D A [(r 7, .inl ((cT 0), 1000, .inl fp)), (r 0, .inl ((cT 1), 64, .inr (.inl fs))), (r 11, .inl ((cT 0), 16, .inl fd)), (mo, .inr (12, mdF r z q cd tm (nI sn) (nI (tx + sl)))), (r 3, .inl ((cT 0), 160, .inl fc)), (r 4, .inl ((cT 0), 4, .inl fz)), (r 9, .inl ((cT 0), 1400, .inl g_59))] := hD
  refine lv_iconst (v := 0) hx hb d_Md_cover_5 (by decide) ?_
  refine lv_istore_n (lv' := [(3, .int 0), (0, .ref mo), (1, .int (nI st)), (2, .int (nI fr))]) hx hb d_Md_cover_6 rfl hl (by decide) rfl (fun ls hl => ?_)
  have hl := lv_sub hl [0, 1, 2, 3] (show _ = [(3, .int 0), (0, .ref mo), (1, .int (nI st)), (2, .int (nI fr))] from rfl)
  have hP := hP.sub (ws' := [(mo, .inr (12, mdF r z q cd tm (nI sn) (nI (tx + sl)))), (r 9, .inl ((cT 0), 1400, .inl g_59)), (r 3, .inl ((cT 0), 160, .inl fc)), (r 4, .inl ((cT 0), 4, .inl fz)), (r 7, .inl ((cT 0), 1000, .inl fp)), (r 0, .inl ((cT 1), 64, .inr (.inl fs))), (r 11, .inl ((cT 0), 16, .inl fd))]) [3, 6, 4, 5, 0, 1, 2] rfl
  have hD := hD.sub (ws' := [(mo, .inr (12, mdF r z q cd tm (nI sn) (nI (tx + sl)))), (r 9, .inl ((cT 0), 1400, .inl g_59)), (r 3, .inl ((cT 0), 160, .inl fc)), (r 4, .inl ((cT 0), 4, .inl fz)), (r 7, .inl ((cT 0), 1000, .inl fp)), (r 0, .inl ((cT 1), 64, .inr (.inl fs))), (r 11, .inl ((cT 0), 16, .inl fd))]) [3, 6, 4, 5, 0, 1, 2] (by decide) rfl
  have hP : va_P (dC, dI) vcl [(mo, .inr (12, mdF r z q cd tm (nI sn) (nI (tx + sl + 0)))), (r 9, .inl ((cT 0), 1400, .inl g_59)), (r 3, .inl ((cT 0), 160, .inl fc)), (r 4, .inl ((cT 0), 4, .inl fz)), (r 7, .inl ((cT 0), 1000, .inl fp)), (r 0, .inl ((cT 1), 64, .inr (.inl fs))), (r 11, .inl ((cT 0), 16, .inl fd))] H := hP
  have hD : va_D A [(mo, .inr (12, mdF r z q cd tm (nI sn) (nI (tx + sl + 0)))), (r 9, .inl ((cT 0), 1400, .inl g_59)), (r 3, .inl ((cT 0), 160, .inl fc)), (r 4, .inl ((cT 0), 4, .inl fz)), (r 7, .inl ((cT 0), 1000, .inl fp)), (r 0, .inl ((cT 1), 64, .inr (.inl fs))), (r 11, .inl ((cT 0), 16, .inl fd))] := hD
  have L61 : ∀ (Q : State → Prop) (exit : ∀ (g : Nat → Int32) (H : Heap) (locs : List Loc) (ls : Array Slot), va_P (dC, dI) vcl [(mo, .inr (12, mdF r z q cd tm (nI sn) (nI (tx + sl + 16)))), (r 9, .inl ((cT 0), 1400, .inl g)), (r 3, .inl ((cT 0), 160, .inl fc)), (r 4, .inl ((cT 0), 4, .inl fz)), (r 7, .inl ((cT 0), 1000, .inl fp)), (r 0, .inl ((cT 1), 64, .inr (.inl fs))), (r 11, .inl ((cT 0), 16, .inl fd))] H → va_D A [(mo, .inr (12, mdF r z q cd tm (nI sn) (nI (tx + sl + 16)))), (r 9, .inl ((cT 0), 1400, .inl g)), (r 3, .inl ((cT 0), 160, .inl fc)), (r 4, .inl ((cT 0), 4, .inl fz)), (r 7, .inl ((cT 0), 1000, .inl fp)), (r 0, .inl ((cT 1), 64, .inr (.inl fs))), (r 11, .inl ((cT 0), 16, .inl fd))] → va_S A s.heap H locs → lv_has ls 4 [(3, .int (nI 16)), (0, .ref mo), (1, .int (nI st)), (2, .int (nI fr))] → W p l e ({ frames := 2, cells := 0, slots := 0, locals := 69 } : Room) s m args below meth c H locs 0 0 Q (F0 m 31 ls [])) (j8 i : Nat) (g : Nat → Int32) (H : Heap) (locs : List Loc) (ls : Array Slot), i + j8 = 16 → va_P (dC, dI) vcl [(mo, .inr (12, mdF r z q cd tm (nI sn) (nI (tx + sl + i)))), (r 9, .inl ((cT 0), 1400, .inl g)), (r 3, .inl ((cT 0), 160, .inl fc)), (r 4, .inl ((cT 0), 4, .inl fz)), (r 7, .inl ((cT 0), 1000, .inl fp)), (r 0, .inl ((cT 1), 64, .inr (.inl fs))), (r 11, .inl ((cT 0), 16, .inl fd))] H → va_D A [(mo, .inr (12, mdF r z q cd tm (nI sn) (nI (tx + sl + i)))), (r 9, .inl ((cT 0), 1400, .inl g)), (r 3, .inl ((cT 0), 160, .inl fc)), (r 4, .inl ((cT 0), 4, .inl fz)), (r 7, .inl ((cT 0), 1000, .inl fp)), (r 0, .inl ((cT 1), 64, .inr (.inl fs))), (r 11, .inl ((cT 0), 16, .inl fd))] → va_S A s.heap H locs → lv_has ls 4 [(3, .int (nI i)), (0, .ref mo), (1, .int (nI st)), (2, .int (nI fr))] → W p l e ({ frames := 2, cells := 0, slots := 0, locals := 69 } : Room) s m args below meth c H locs 0 0 Q (F0 m 7 ls []) := by
    intro Q exit j8
    induction j8 with
    | zero => 
      intro i g H locs ls hij  hP hD hS hl
      have hij : 16 = i := by omega
      refine lv_iload_n hx hb d_Md_cover_7 rfl (lv_at hl 0 rfl) ?_
      refine lv_bipush (v := 16) hx hb d_Md_cover_8 (by decide) ?_
      refine lv_topi (fun x63 e62 => ?_)
      obtain rfl : x63 = nI 16 := by rw [e62]; rfl
      refine lv_icmp_ge (tgt := 31) hx hb d_Md_cover_10 (by decide) (fun hc64 => ?_) (fun hn9 => absurd (nI_le (by omega) (by omega)) hn9)
      subst hij
      exact exit g _ _ _  hP hD hS hl
    | succ j8 ih => 
      intro i g H locs ls hij  hP hD hS hl
      have hlt : i < 16 := by omega
      refine lv_iload_n hx hb d_Md_cover_7 rfl (lv_at hl 0 rfl) ?_
      refine lv_bipush (v := 16) hx hb d_Md_cover_8 (by decide) ?_
      refine lv_topi (fun x66 e65 => ?_)
      obtain rfl : x66 = nI 16 := by rw [e65]; rfl
      refine lv_icmp_ge (tgt := 31) hx hb d_Md_cover_10 (by decide) (fun hn9 => absurd hn9 (nI_ge hlt (by omega))) (fun hc67 => ?_)
      refine lv_aload_n hx hb d_Md_cover_13 rfl (lv_at hl 1 rfl) ?_
      refine lv_aload_n hx hb d_Md_cover_14 rfl (lv_at hl 1 rfl) ?_
      refine va_get (D := (dC, dI)) (ci := 12) (v := (.ref (r 7))) (C := R_Md) (T := F_Md) (N := 45) hx hb hg in_Md hown hK hP 0 rfl rfl 7 (by decide) (hg _ k_1027) (fun _ h9 => h9) rfl d_Md_cover_15 ?_
      refine lv_iload_n hx hb d_Md_cover_18 rfl (lv_at hl 3 rfl) ?_
      refine lv_iload_n hx hb d_Md_cover_19 rfl (lv_at hl 0 rfl) ?_
      refine lv_iadd hx hb d_Md_cover_20 ?_
      refine lv_topi (fun x69 e68 => ?_)
      obtain rfl : x69 = nI (fr + i) := by rw [e68]; exact nI_add _ _
      refine va_iald hx hb hK hP 4 0 rfl rfl (i := (nI (fr + i))) (vp_in_nI (N := 1000) (by omega) (by decide)) d_Md_cover_21 ?_
      refine lv_topi (fun x70 e_x70 => ?_)
      have hPc := hP.sub (ws' := [(mo, .inr (12, mdF r z q cd tm (nI sn) (nI (tx + sl + i)))), (r 9, .inl ((cT 0), 1400, .inl g))]) [0, 1] rfl
      have hDc := hD.sub (ws' := [(mo, .inr (12, mdF r z q cd tm (nI sn) (nI (tx + sl + i)))), (r 9, .inl ((cT 0), 1400, .inl g))]) [0, 1] (by decide) rfl
      have hFc := va_free (wc := [(mo, .inr (12, mdF r z q cd tm (nI sn) (nI (tx + sl + i)))), (r 9, .inl ((cT 0), 1400, .inl g))]) hD hS hA [0, 1] rfl
      refine va_callv (va_runV (C := "DoorServerModel") (As := [.int x70]) (rest := []) ⟨hx, hb, hml, hown, hg⟩ (m_say l dC dI cT H.size mo r z q cd tm sn (tx + sl + i) g x70 (by omega)) (cwV 1 hg (gI (List.forall_mem_append.mpr ⟨List.forall_mem_cons.mpr ⟨k_1220, List.forall_mem_cons.mpr ⟨k_1222, List.forall_mem_cons.mpr ⟨(big_sel (q := y_Md_say) (n := 45) (by decide +kernel)), List.forall_mem_cons.mpr ⟨k_13, fun _ h => absurd h List.not_mem_nil⟩⟩⟩⟩, List.forall_mem_cons.mpr ⟨k_1223, fun _ h => h⟩⟩)) rfl rfl rfl (by decide +kernel) ⟨Nat.le_of_ble_eq_true rfl, Nat.le_of_ble_eq_true rfl⟩) ⟨fun a U g mk q => by obtain ⟨q0, q1, qP, qK, qD⟩ := q; exact ⟨q0, q1, qP, va_K.moved (u := U) (U := U.calling g mk a) (Vm.Alike.refl U.vm) qK, qD⟩, va_recv (q0 := 0) (ci := 12) hK hP rfl rfl, fun U hU hW => ⟨rfl, by rw [hU], by rw [hU]; exact hPc, va_K.moved hW.alike hK, hDc.weaken (fun _ _ _ _ => trivial)⟩⟩ rfl rfl hl.1 rfl (lv_room (Nat.le_of_ble_eq_true rfl)) d_Md_cover_22 ⟨Nat.le_of_ble_eq_true rfl, Nat.le_of_ble_eq_true rfl⟩) hS (fun q _ h => hFc q h) hFc (fun u t H1 locs ht hvm hw hB hz1 hk1 hS => ?_)
      try dsimp only at hw hB
      obtain ⟨hP1, hK1, hD1⟩ := hB
      rw [ht] at hP1
      obtain ⟨hP, hD⟩ := va_join (wr := [(r 3, .inl ((cT 0), 160, .inl fc)), (r 4, .inl ((cT 0), 4, .inl fz)), (r 7, .inl ((cT 0), 1000, .inl fp)), (r 0, .inl ((cT 1), 64, .inr (.inl fs))), (r 11, .inl ((cT 0), 16, .inl fd))]) (w1 := [(mo, .inr (12, mdF r z q cd tm (nI sn) (nI ((tx + sl + i) + 1)))), (r 9, .inl ((cT 0), 1400, .inl (upd g (tx + sl + i) x70)))]) hP hD [0, 1] [2, 3, 4, 5, 6] rfl rfl (by decide) (by decide) hk1 hFc hP1 hD1
      have hw71 := hw
      clear hPc hDc hFc hz1 hk1 hP1 hK1 hD1
      generalize H1 = H at hP hS ⊢
      have hP : va_P (dC, dI) vcl [(r 3, .inl ((cT 0), 160, .inl fc)), (r 4, .inl ((cT 0), 4, .inl fz)), (r 7, .inl ((cT 0), 1000, .inl fp)), (r 0, .inl ((cT 1), 64, .inr (.inl fs))), (r 11, .inl ((cT 0), 16, .inl fd)), (mo, .inr (12, mdF r z q cd tm (nI sn) (nI ((tx + sl + i) + 1)))), (r 9, .inl ((cT 0), 1400, .inl (upd g (tx + sl + i) x70)))] H := hP
      have hD : va_D A [(r 3, .inl ((cT 0), 160, .inl fc)), (r 4, .inl ((cT 0), 4, .inl fz)), (r 7, .inl ((cT 0), 1000, .inl fp)), (r 0, .inl ((cT 1), 64, .inr (.inl fs))), (r 11, .inl ((cT 0), 16, .inl fd)), (mo, .inr (12, mdF r z q cd tm (nI sn) (nI ((tx + sl + i) + 1)))), (r 9, .inl ((cT 0), 1400, .inl (upd g (tx + sl + i) x70)))] := hD
      refine lv_iinc (k := 0) (v := nI (i + 1)) (lv' := [(3, .int (nI (i + 1))), (0, .ref mo), (1, .int (nI st)), (2, .int (nI fr))]) hx hb d_Md_cover_25 hl rfl (nI_1 i) (by decide) rfl (fun ls hl => ?_)
      refine lv_goto (tgt := 7) hx hb d_Md_cover_28 (by decide) ?_
      have hP := hP.sub (ws' := [(mo, .inr (12, mdF r z q cd tm (nI sn) (nI ((tx + sl + i) + 1)))), (r 9, .inl ((cT 0), 1400, .inl (upd g (tx + sl + i) x70))), (r 3, .inl ((cT 0), 160, .inl fc)), (r 4, .inl ((cT 0), 4, .inl fz)), (r 7, .inl ((cT 0), 1000, .inl fp)), (r 0, .inl ((cT 1), 64, .inr (.inl fs))), (r 11, .inl ((cT 0), 16, .inl fd))]) [5, 6, 0, 1, 2, 3, 4] rfl
      have hD := hD.sub (ws' := [(mo, .inr (12, mdF r z q cd tm (nI sn) (nI ((tx + sl + i) + 1)))), (r 9, .inl ((cT 0), 1400, .inl (upd g (tx + sl + i) x70))), (r 3, .inl ((cT 0), 160, .inl fc)), (r 4, .inl ((cT 0), 4, .inl fz)), (r 7, .inl ((cT 0), 1000, .inl fp)), (r 0, .inl ((cT 1), 64, .inr (.inl fs))), (r 11, .inl ((cT 0), 16, .inl fd))]) [5, 6, 0, 1, 2, 3, 4] (by decide) rfl
      exact ih (i + 1) _ _ _ _ (by omega)  hP hD hS hl
  refine L61 _ (fun g H locs ls  hP hD hS hl => ?_) (16 - 0) 0 g_59 H _ ls (by omega)  hP hD hS hl
  refine lv_aload_n hx hb d_Md_cover_31 rfl (lv_at hl 1 rfl) ?_
  have hPc := hP.sub (ws' := [(mo, .inr (12, mdF r z q cd tm (nI sn) (nI (tx + sl + 16)))), (r 9, .inl ((cT 0), 1400, .inl g)), (r 0, .inl ((cT 1), 64, .inr (.inl fs))), (r 11, .inl ((cT 0), 16, .inl fd))]) [0, 1, 5, 6] rfl
  have hDc := hD.sub (ws' := [(mo, .inr (12, mdF r z q cd tm (nI sn) (nI (tx + sl + 16)))), (r 9, .inl ((cT 0), 1400, .inl g)), (r 0, .inl ((cT 1), 64, .inr (.inl fs))), (r 11, .inl ((cT 0), 16, .inl fd))]) [0, 1, 5, 6] (by decide) rfl
  have hFc := va_free (wc := [(mo, .inr (12, mdF r z q cd tm (nI sn) (nI (tx + sl + 16)))), (r 9, .inl ((cT 0), 1400, .inl g)), (r 0, .inl ((cT 1), 64, .inr (.inl fs))), (r 11, .inl ((cT 0), 16, .inl fd))]) hD hS hA [0, 1, 5, 6] rfl
  refine va_callv (va_runV (C := "DoorServerModel") (As := []) (rest := []) ⟨hx, hb, hml, hown, hg⟩ (m_md5 l dC dI cT H.size mo r z q cd tm sn (tx + sl + 16) g fs fd (by omega)) (cwV 0 hg (gI (List.forall_mem_append.mpr ⟨List.forall_mem_cons.mpr ⟨k_1224, List.forall_mem_cons.mpr ⟨k_1226, List.forall_mem_cons.mpr ⟨(big_sel (q := y_Md_md5) (n := 45) (by decide +kernel)), List.forall_mem_cons.mpr ⟨k_13, fun _ h => absurd h List.not_mem_nil⟩⟩⟩⟩, List.forall_mem_cons.mpr ⟨k_1227, fun _ h => h⟩⟩)) rfl rfl rfl (by decide +kernel) ⟨Nat.le_of_ble_eq_true rfl, Nat.le_of_ble_eq_true rfl⟩) ⟨fun a U g mk q => by obtain ⟨q0, q1, qP, qK, qD⟩ := q; exact ⟨q0, q1, qP, va_K.moved (u := U) (U := U.calling g mk a) (Vm.Alike.refl U.vm) qK, qD⟩, va_recv (q0 := 0) (ci := 12) hK hP rfl rfl, fun U hU hW => ⟨rfl, by rw [hU], by rw [hU]; exact hPc, va_K.moved hW.alike hK, hDc.weaken (fun _ _ _ _ => trivial)⟩⟩ rfl rfl hl.1 rfl (lv_room (Nat.le_of_ble_eq_true rfl)) d_Md_cover_32 ⟨Nat.le_of_ble_eq_true rfl, Nat.le_of_ble_eq_true rfl⟩) hS (fun q _ h => hFc q h) hFc (fun u t H1 locs ht hvm hw hB hz1 hk1 hS => ?_)
  obtain ⟨g_72, fd2_73⟩ := u
  try dsimp only at hw hB
  obtain ⟨hP1, hK1, hD1⟩ := hB
  rw [ht] at hP1
  obtain ⟨hP, hD⟩ := va_join (wr := [(r 3, .inl ((cT 0), 160, .inl fc)), (r 4, .inl ((cT 0), 4, .inl fz)), (r 7, .inl ((cT 0), 1000, .inl fp))]) (w1 := [(mo, .inr (12, mdF r z q cd tm (nI sn) (nI 0))), (r 9, .inl ((cT 0), 1400, .inl g_72)), (r 0, .inl ((cT 1), 64, .inr (.inl fs))), (r 11, .inl ((cT 0), 16, .inl fd2_73))]) hP hD [0, 1, 5, 6] [2, 3, 4] rfl rfl (by decide) (by decide) hk1 hFc hP1 hD1
  have hw74 := hw
  clear hPc hDc hFc hz1 hk1 hP1 hK1 hD1
  generalize H1 = H at hP hS ⊢
  have hP : va_P (dC, dI) vcl [(r 3, .inl ((cT 0), 160, .inl fc)), (r 4, .inl ((cT 0), 4, .inl fz)), (r 7, .inl ((cT 0), 1000, .inl fp)), (mo, .inr (12, mdF r z q cd tm (nI sn) (nI 0))), (r 9, .inl ((cT 0), 1400, .inl g_72)), (r 0, .inl ((cT 1), 64, .inr (.inl fs))), (r 11, .inl ((cT 0), 16, .inl fd2_73))] H := hP
  have hD : va_D A [(r 3, .inl ((cT 0), 160, .inl fc)), (r 4, .inl ((cT 0), 4, .inl fz)), (r 7, .inl ((cT 0), 1000, .inl fp)), (mo, .inr (12, mdF r z q cd tm (nI sn) (nI 0))), (r 9, .inl ((cT 0), 1400, .inl g_72)), (r 0, .inl ((cT 1), 64, .inr (.inl fs))), (r 11, .inl ((cT 0), 16, .inl fd2_73))] := hD
  have hP9 := hP.sub (ws' := [(mo, .inr (12, mdF r z q cd tm (nI sn) (nI 0))), (r 9, .inl ((cT 0), 1400, .inl g_72)), (r 3, .inl ((cT 0), 160, .inl fc)), (r 4, .inl ((cT 0), 4, .inl fz)), (r 7, .inl ((cT 0), 1000, .inl fp)), (r 0, .inl ((cT 1), 64, .inr (.inl fs))), (r 11, .inl ((cT 0), 16, .inl fd2_73))]) [3, 4, 0, 1, 2, 5, 6] rfl
  have hD9 := hD.sub (ws' := [(mo, .inr (12, mdF r z q cd tm (nI sn) (nI 0))), (r 9, .inl ((cT 0), 1400, .inl g_72)), (r 3, .inl ((cT 0), 160, .inl fc)), (r 4, .inl ((cT 0), 4, .inl fz)), (r 7, .inl ((cT 0), 1000, .inl fp)), (r 0, .inl ((cT 1), 64, .inr (.inl fs))), (r 11, .inl ((cT 0), 16, .inl fd2_73))]) [3, 4, 0, 1, 2, 5, 6] (by decide) rfl
  exact W.vret hx hb hr (fun t ht hW => ⟨⟨⟨g_72, fd2_73⟩, rfl, trivial, by rw [ht]; exact hP9, va_K.moved hW.alike hK, hD9⟩, hS.F ht⟩) hS.2.2 d_Md_cover_35
set_option maxHeartbeats 4000000 in
set_option maxRecDepth 100000 in
/-- proof -/
theorem m_proof (l : Launch) (dC : Nat → ClassId) (dI : Nat → Nat → Nat) (cT : Nat → ClassId) (sz : Nat) (mo : Nat) (r : Nat → Nat) (z : Nat → Int32) (q : Nat → Int64) (cd : Int32) (tm : Int32) (sn : Nat) (tx : Nat) (f : Nat → Int32) (fs : Nat → Int64) (fd : Nat → Int32) (fc : Nat → Int32) (fz : Nat → Int32) (st : Nat) (sl : Nat) (fk : Nat → Int32) (fp : Nat → Int32) (at_ : Nat) (hst : st < 4) (hfz : fz st = nI sl) (hsl : sl ≤ 40) (hsn : sn ≤ 1000) (hat : at_ ≤ 1000) : Met l y_Md_proof (Cond.code y_Md_proof b_Md_proof 4 (Option.none : Option Jvm.ClassFile.FieldType) :: BIG) ({ frames := 3, cells := 0, slots := 0, locals := 92 }) (va_Pc [.ref mo, .int (nI st), .int (nI at_)] (fun U => U.heap.size = sz ∧ va_P (dC, dI) vcl [(mo, .inr (12, mdF r z q cd tm (nI sn) (nI 0))), (r 9, .inl ((cT 0), 1400, .inl f)), (r 12, .inl ((cT 0), 1200, .inl fk)), (r 3, .inl ((cT 0), 160, .inl fc)), (r 4, .inl ((cT 0), 4, .inl fz)), (r 0, .inl ((cT 1), 64, .inr (.inl fs))), (r 11, .inl ((cT 0), 16, .inl fd)), (r 7, .inl ((cT 0), 1000, .inl fp))] U.heap ∧ va_K (dC, dI) vcl (tyL cT) U ∧ va_D (fun _ => True) [(mo, .inr (12, mdF r z q cd tm (nI sn) (nI 0))), (r 9, .inl ((cT 0), 1400, .inl f)), (r 12, .inl ((cT 0), 1200, .inl fk)), (r 3, .inl ((cT 0), 160, .inl fc)), (r 4, .inl ((cT 0), 4, .inl fz)), (r 0, .inl ((cT 1), 64, .inr (.inl fs))), (r 11, .inl ((cT 0), 16, .inl fd)), (r 7, .inl ((cT 0), 1000, .inl fp))])) (va_Qv (S := (Nat → Int32) × (Nat → Int32) × (Nat → Int32)) (fun u => match u with | (g, gk, fd2) => True) (fun u t => match u with | (g, gk, fd2) => va_P (dC, dI) vcl [(mo, .inr (12, mdF r z q cd tm (nI sn) (nI 0))), (r 9, .inl ((cT 0), 1400, .inl g)), (r 12, .inl ((cT 0), 1200, .inl gk)), (r 3, .inl ((cT 0), 160, .inl fc)), (r 4, .inl ((cT 0), 4, .inl fz)), (r 0, .inl ((cT 1), 64, .inr (.inl fs))), (r 11, .inl ((cT 0), 16, .inl fd2)), (r 7, .inl ((cT 0), 1000, .inl fp))] t.heap ∧ va_K (dC, dI) vcl (tyL cT) t ∧ va_D (va_A [(mo, .inr (12, mdF r z q cd tm (nI sn) (nI 0))), (r 9, .inl ((cT 0), 1400, .inl f)), (r 12, .inl ((cT 0), 1200, .inl fk)), (r 3, .inl ((cT 0), 160, .inl fc)), (r 4, .inl ((cT 0), 4, .inl fz)), (r 0, .inl ((cT 1), 64, .inr (.inl fs))), (r 11, .inl ((cT 0), 16, .inl fd)), (r 7, .inl ((cT 0), 1000, .inl fp))] sz) [(mo, .inr (12, mdF r z q cd tm (nI sn) (nI 0))), (r 9, .inl ((cT 0), 1400, .inl g)), (r 12, .inl ((cT 0), 1200, .inl gk)), (r 3, .inl ((cT 0), 160, .inl fc)), (r 4, .inl ((cT 0), 4, .inl fz)), (r 0, .inl ((cT 1), 64, .inr (.inl fs))), (r 11, .inl ((cT 0), 16, .inl fd2)), (r 7, .inl ((cT 0), 1000, .inl fp))]) (va_A [(mo, .inr (12, mdF r z q cd tm (nI sn) (nI 0))), (r 9, .inl ((cT 0), 1400, .inl f)), (r 12, .inl ((cT 0), 1200, .inl fk)), (r 3, .inl ((cT 0), 160, .inl fc)), (r 4, .inl ((cT 0), 4, .inl fz)), (r 0, .inl ((cT 1), 64, .inr (.inl fs))), (r 11, .inl ((cT 0), 16, .inl fd)), (r 7, .inl ((cT 0), 1000, .inl fp))] sz)) 0 0 (va_A [(mo, .inr (12, mdF r z q cd tm (nI sn) (nI 0))), (r 9, .inl ((cT 0), 1400, .inl f)), (r 12, .inl ((cT 0), 1200, .inl fk)), (r 3, .inl ((cT 0), 160, .inl fc)), (r 4, .inl ((cT 0), 4, .inl fz)), (r 0, .inl ((cT 1), 64, .inr (.inl fs))), (r 11, .inl ((cT 0), 16, .inl fd)), (r 7, .inl ((cT 0), 1000, .inl fp))] sz) := by
  refine Met.ofW (cc := b_Md_proof) (maxL := 4) (ret := (Option.none : Option Jvm.ClassFile.FieldType)) (by decide) rfl ?_
  intro p e s m args below meth c s₁ B hml hv
  obtain ⟨hargs, hsz, hP, hK, hD0⟩ := hv
  have hx := B.exec
  have hb := B.bytes
  have hr := B.returns
  have hts := atoms_spec (ws := (Cond.code y_Md_proof b_Md_proof 4 (Option.none : Option Jvm.ClassFile.FieldType) :: BIG)) B.pre
  have hg : ∀ w ∈ BIG, w.before _ s = true := fun w h => hts w (List.mem_cons_of_mem _ h)
  have hown : s.vm.findClass "DoorServerModel" = some m.cls := findClass_of_methodNamed B.named
  have hlocks := B.notSynchronized
  subst hsz
  have hD := hD0.self (sz := s.heap.size)
  generalize hAe : va_A [(mo, .inr (12, mdF r z q cd tm (nI sn) (nI 0))), (r 9, .inl ((cT 0), 1400, .inl f)), (r 12, .inl ((cT 0), 1200, .inl fk)), (r 3, .inl ((cT 0), 160, .inl fc)), (r 4, .inl ((cT 0), 4, .inl fz)), (r 0, .inl ((cT 1), 64, .inr (.inl fs))), (r 11, .inl ((cT 0), 16, .inl fd)), (r 7, .inl ((cT 0), 1000, .inl fp))] s.heap.size = A at hD ⊢
  have hA : ∀ q : Nat, s.heap.size ≤ q → A q := fun q h => by rw [← hAe]; exact Or.inr h
  have hS : va_S A s.heap s.heap [] := va_S.rf
  have hl := lv_entry ([.ref mo, .int (nI st), .int (nI at_)]) (n := 4) (Nat.le_of_ble_eq_true rfl)
  refine W.eq (g2 := entryFrame m (List.toArray [.ref mo, .int (nI st), .int (nI at_)]) 4) (by rw [hargs]) ?_
  rw [lg_entry_eq]
  generalize (lg_sl ([.ref mo, .int (nI st), .int (nI at_)]) ++ List.replicate (4 - (lg_sl ([.ref mo, .int (nI st), .int (nI at_)])).length) Slot.unset).toArray = ls at hl ⊢
  have hl : lv_has ls 4 [(0, .ref mo), (1, .int (nI st)), (2, .int (nI at_))] := hl
  change W p l e ({ frames := 3, cells := 0, slots := 0, locals := 92 } : Room) s m args below meth c s.heap [] 0 0 _ _
  have hP : va_P (dC, dI) vcl [(mo, .inr (12, mdF r z q cd tm (nI sn) (nI 0))), (r 9, .inl ((cT 0), 1400, .inl f)), (r 12, .inl ((cT 0), 1200, .inl fk)), (r 3, .inl ((cT 0), 160, .inl fc)), (r 4, .inl ((cT 0), 4, .inl fz)), (r 0, .inl ((cT 1), 64, .inr (.inl fs))), (r 11, .inl ((cT 0), 16, .inl fd)), (r 7, .inl ((cT 0), 1000, .inl fp))] s.heap := hP
  refine lv_iconst (v := 0) hx hb d_Md_proof_0 (by decide) ?_
  refine lv_istore_n (lv' := [(3, .int 0), (0, .ref mo), (1, .int (nI st)), (2, .int (nI at_))]) hx hb d_Md_proof_1 rfl hl (by decide) rfl (fun ls hl => ?_)
  have hl := lv_sub hl [0, 1, 2, 3] (show _ = [(3, .int 0), (0, .ref mo), (1, .int (nI st)), (2, .int (nI at_))] from rfl)
  have L75 : ∀ (Q : State → Prop) (exit : ∀ (g : Nat → Int32) (H : Heap) (locs : List Loc) (ls : Array Slot), va_P (dC, dI) vcl [(mo, .inr (12, mdF r z q cd tm (nI sn) (nI sn))), (r 9, .inl ((cT 0), 1400, .inl g)), (r 12, .inl ((cT 0), 1200, .inl fk)), (r 3, .inl ((cT 0), 160, .inl fc)), (r 4, .inl ((cT 0), 4, .inl fz)), (r 0, .inl ((cT 1), 64, .inr (.inl fs))), (r 11, .inl ((cT 0), 16, .inl fd)), (r 7, .inl ((cT 0), 1000, .inl fp))] H → va_D A [(mo, .inr (12, mdF r z q cd tm (nI sn) (nI sn))), (r 9, .inl ((cT 0), 1400, .inl g)), (r 12, .inl ((cT 0), 1200, .inl fk)), (r 3, .inl ((cT 0), 160, .inl fc)), (r 4, .inl ((cT 0), 4, .inl fz)), (r 0, .inl ((cT 1), 64, .inr (.inl fs))), (r 11, .inl ((cT 0), 16, .inl fd)), (r 7, .inl ((cT 0), 1000, .inl fp))] → va_S A s.heap H locs → lv_has ls 4 [(3, .int (nI sn)), (0, .ref mo), (1, .int (nI st)), (2, .int (nI at_))] → W p l e ({ frames := 3, cells := 0, slots := 0, locals := 92 } : Room) s m args below meth c H locs 0 0 Q (F0 m 43 ls [])) (j8 i : Nat) (g : Nat → Int32) (H : Heap) (locs : List Loc) (ls : Array Slot), i + j8 = sn → va_P (dC, dI) vcl [(mo, .inr (12, mdF r z q cd tm (nI sn) (nI i))), (r 9, .inl ((cT 0), 1400, .inl g)), (r 12, .inl ((cT 0), 1200, .inl fk)), (r 3, .inl ((cT 0), 160, .inl fc)), (r 4, .inl ((cT 0), 4, .inl fz)), (r 0, .inl ((cT 1), 64, .inr (.inl fs))), (r 11, .inl ((cT 0), 16, .inl fd)), (r 7, .inl ((cT 0), 1000, .inl fp))] H → va_D A [(mo, .inr (12, mdF r z q cd tm (nI sn) (nI i))), (r 9, .inl ((cT 0), 1400, .inl g)), (r 12, .inl ((cT 0), 1200, .inl fk)), (r 3, .inl ((cT 0), 160, .inl fc)), (r 4, .inl ((cT 0), 4, .inl fz)), (r 0, .inl ((cT 1), 64, .inr (.inl fs))), (r 11, .inl ((cT 0), 16, .inl fd)), (r 7, .inl ((cT 0), 1000, .inl fp))] → va_S A s.heap H locs → lv_has ls 4 [(3, .int (nI i)), (0, .ref mo), (1, .int (nI st)), (2, .int (nI at_))] → W p l e ({ frames := 3, cells := 0, slots := 0, locals := 92 } : Room) s m args below meth c H locs 0 0 Q (F0 m 2 ls []) := by
    intro Q exit j8
    induction j8 with
    | zero => 
      intro i g H locs ls hij  hP hD hS hl
      have hij : sn = i := by omega
      refine lv_iload_n hx hb d_Md_proof_2 rfl (lv_at hl 0 rfl) ?_
      refine lv_aload_n hx hb d_Md_proof_3 rfl (lv_at hl 1 rfl) ?_
      refine va_get (D := (dC, dI)) (ci := 12) (v := (.int (nI sn))) (C := R_Md) (T := F_Md) (N := 45) hx hb hg in_Md hown hK hP 0 rfl rfl 8 (by decide) (hg _ k_1028) (fun _ h9 => h9) rfl d_Md_proof_4 ?_
      refine lv_icmp_ge (tgt := 43) hx hb d_Md_proof_7 (by decide) (fun hc76 => ?_) (fun hn9 => absurd (nI_le (by omega) (by omega)) hn9)
      subst hij
      exact exit g _ _ _  hP hD hS hl
    | succ j8 ih => 
      intro i g H locs ls hij  hP hD hS hl
      have hlt : i < sn := by omega
      refine lv_iload_n hx hb d_Md_proof_2 rfl (lv_at hl 0 rfl) ?_
      refine lv_aload_n hx hb d_Md_proof_3 rfl (lv_at hl 1 rfl) ?_
      refine va_get (D := (dC, dI)) (ci := 12) (v := (.int (nI sn))) (C := R_Md) (T := F_Md) (N := 45) hx hb hg in_Md hown hK hP 0 rfl rfl 8 (by decide) (hg _ k_1028) (fun _ h9 => h9) rfl d_Md_proof_4 ?_
      refine lv_icmp_ge (tgt := 43) hx hb d_Md_proof_7 (by decide) (fun hn9 => absurd hn9 (nI_ge hlt (by omega))) (fun hc77 => ?_)
      refine lv_aload_n hx hb d_Md_proof_10 rfl (lv_at hl 1 rfl) ?_
      refine lv_iload_n hx hb d_Md_proof_11 rfl (lv_at hl 0 rfl) ?_
      refine lv_iload_n hx hb d_Md_proof_12 rfl (lv_at hl 3 rfl) ?_
      have K78 : ∀ (z9 : Int32), W p l e ({ frames := 3, cells := 0, slots := 0, locals := 92 } : Room) s m args below meth c H locs 0 0 Q (F0 m 34 ls [.int z9, .ref mo]) := by
        intro z9
        have hPc := hP.sub (ws' := [(mo, .inr (12, mdF r z q cd tm (nI sn) (nI i))), (r 9, .inl ((cT 0), 1400, .inl g))]) [0, 1] rfl
        have hDc := hD.sub (ws' := [(mo, .inr (12, mdF r z q cd tm (nI sn) (nI i))), (r 9, .inl ((cT 0), 1400, .inl g))]) [0, 1] (by decide) rfl
        have hFc := va_free (wc := [(mo, .inr (12, mdF r z q cd tm (nI sn) (nI i))), (r 9, .inl ((cT 0), 1400, .inl g))]) hD hS hA [0, 1] rfl
        refine va_callv (va_runV (C := "DoorServerModel") (As := [.int z9]) (rest := []) ⟨hx, hb, hml, hown, hg⟩ (m_say l dC dI cT H.size mo r z q cd tm sn i g z9 (by omega)) (cwV 1 hg (gI (List.forall_mem_append.mpr ⟨List.forall_mem_cons.mpr ⟨k_1220, List.forall_mem_cons.mpr ⟨k_1222, List.forall_mem_cons.mpr ⟨(big_sel (q := y_Md_say) (n := 45) (by decide +kernel)), List.forall_mem_cons.mpr ⟨k_13, fun _ h => absurd h List.not_mem_nil⟩⟩⟩⟩, List.forall_mem_cons.mpr ⟨k_1223, fun _ h => h⟩⟩)) rfl rfl rfl (by decide +kernel) ⟨Nat.le_of_ble_eq_true rfl, Nat.le_of_ble_eq_true rfl⟩) ⟨fun a U g mk q => by obtain ⟨q0, q1, qP, qK, qD⟩ := q; exact ⟨q0, q1, qP, va_K.moved (u := U) (U := U.calling g mk a) (Vm.Alike.refl U.vm) qK, qD⟩, va_recv (q0 := 0) (ci := 12) hK hP rfl rfl, fun U hU hW => ⟨rfl, by rw [hU], by rw [hU]; exact hPc, va_K.moved hW.alike hK, hDc.weaken (fun _ _ _ _ => trivial)⟩⟩ rfl rfl hl.1 rfl (lv_room (Nat.le_of_ble_eq_true rfl)) d_Md_proof_34 ⟨Nat.le_of_ble_eq_true rfl, Nat.le_of_ble_eq_true rfl⟩) hS (fun q _ h => hFc q h) hFc (fun u t H1 locs ht hvm hw hB hz1 hk1 hS => ?_)
        try dsimp only at hw hB
        obtain ⟨hP1, hK1, hD1⟩ := hB
        rw [ht] at hP1
        obtain ⟨hP, hD⟩ := va_join (wr := [(r 12, .inl ((cT 0), 1200, .inl fk)), (r 3, .inl ((cT 0), 160, .inl fc)), (r 4, .inl ((cT 0), 4, .inl fz)), (r 0, .inl ((cT 1), 64, .inr (.inl fs))), (r 11, .inl ((cT 0), 16, .inl fd)), (r 7, .inl ((cT 0), 1000, .inl fp))]) (w1 := [(mo, .inr (12, mdF r z q cd tm (nI sn) (nI (i + 1)))), (r 9, .inl ((cT 0), 1400, .inl (upd g i z9)))]) hP hD [0, 1] [2, 3, 4, 5, 6, 7] rfl rfl (by decide) (by decide) hk1 hFc hP1 hD1
        have hw79 := hw
        clear hPc hDc hFc hz1 hk1 hP1 hK1 hD1
        generalize H1 = H at hP hS ⊢
        have hP : va_P (dC, dI) vcl [(r 12, .inl ((cT 0), 1200, .inl fk)), (r 3, .inl ((cT 0), 160, .inl fc)), (r 4, .inl ((cT 0), 4, .inl fz)), (r 0, .inl ((cT 1), 64, .inr (.inl fs))), (r 11, .inl ((cT 0), 16, .inl fd)), (r 7, .inl ((cT 0), 1000, .inl fp)), (mo, .inr (12, mdF r z q cd tm (nI sn) (nI (i + 1)))), (r 9, .inl ((cT 0), 1400, .inl (upd g i z9)))] H := hP
        have hD : va_D A [(r 12, .inl ((cT 0), 1200, .inl fk)), (r 3, .inl ((cT 0), 160, .inl fc)), (r 4, .inl ((cT 0), 4, .inl fz)), (r 0, .inl ((cT 1), 64, .inr (.inl fs))), (r 11, .inl ((cT 0), 16, .inl fd)), (r 7, .inl ((cT 0), 1000, .inl fp)), (mo, .inr (12, mdF r z q cd tm (nI sn) (nI (i + 1)))), (r 9, .inl ((cT 0), 1400, .inl (upd g i z9)))] := hD
        refine lv_iinc (k := 0) (v := nI (i + 1)) (lv' := [(3, .int (nI (i + 1))), (0, .ref mo), (1, .int (nI st)), (2, .int (nI at_))]) hx hb d_Md_proof_37 hl rfl (nI_1 i) (by decide) rfl (fun ls hl => ?_)
        refine lv_goto (tgt := 2) hx hb d_Md_proof_40 (by decide) ?_
        have hP := hP.sub (ws' := [(mo, .inr (12, mdF r z q cd tm (nI sn) (nI (i + 1)))), (r 9, .inl ((cT 0), 1400, .inl (upd g i z9))), (r 12, .inl ((cT 0), 1200, .inl fk)), (r 3, .inl ((cT 0), 160, .inl fc)), (r 4, .inl ((cT 0), 4, .inl fz)), (r 0, .inl ((cT 1), 64, .inr (.inl fs))), (r 11, .inl ((cT 0), 16, .inl fd)), (r 7, .inl ((cT 0), 1000, .inl fp))]) [6, 7, 0, 1, 2, 3, 4, 5] rfl
        have hD := hD.sub (ws' := [(mo, .inr (12, mdF r z q cd tm (nI sn) (nI (i + 1)))), (r 9, .inl ((cT 0), 1400, .inl (upd g i z9))), (r 12, .inl ((cT 0), 1200, .inl fk)), (r 3, .inl ((cT 0), 160, .inl fc)), (r 4, .inl ((cT 0), 4, .inl fz)), (r 0, .inl ((cT 1), 64, .inr (.inl fs))), (r 11, .inl ((cT 0), 16, .inl fd)), (r 7, .inl ((cT 0), 1000, .inl fp))]) [6, 7, 0, 1, 2, 3, 4, 5] (by decide) rfl
        exact ih (i + 1) _ _ _ _ (by omega) hP hD hS hl
      refine lv_icmp_lt (tgt := 28) hx hb d_Md_proof_13 (by decide) (fun hc80 => ?_) (fun hc80 => ?_)
      · refine lv_aload_n hx hb d_Md_proof_28 rfl (lv_at hl 1 rfl) ?_
        refine va_get (D := (dC, dI)) (ci := 12) (v := (.ref (r 7))) (C := R_Md) (T := F_Md) (N := 45) hx hb hg in_Md hown hK hP 0 rfl rfl 7 (by decide) (hg _ k_1027) (fun _ h9 => h9) rfl d_Md_proof_29 ?_
        refine lv_iload_n hx hb d_Md_proof_32 rfl (lv_at hl 0 rfl) ?_
        refine va_iald hx hb hK hP 7 0 rfl rfl (i := (nI i)) (vp_in_nI (N := 1000) (by omega) (by decide)) d_Md_proof_33 ?_
        exact K78 _
      · refine lv_iload_n hx hb d_Md_proof_16 rfl (lv_at hl 0 rfl) ?_
        refine lv_iload_n hx hb d_Md_proof_17 rfl (lv_at hl 3 rfl) ?_
        refine lv_bipush (v := 16) hx hb d_Md_proof_18 (by decide) ?_
        refine lv_iadd hx hb d_Md_proof_20 ?_
        refine lv_topi (fun x82 e81 => ?_)
        obtain rfl : x82 = nI (at_ + 16) := by rw [e81]; exact nI_add _ 16
        refine lv_icmp_ge (tgt := 28) hx hb d_Md_proof_21 (by decide) (fun hc83 => ?_) (fun hc83 => ?_)
        · refine lv_aload_n hx hb d_Md_proof_28 rfl (lv_at hl 1 rfl) ?_
          refine va_get (D := (dC, dI)) (ci := 12) (v := (.ref (r 7))) (C := R_Md) (T := F_Md) (N := 45) hx hb hg in_Md hown hK hP 0 rfl rfl 7 (by decide) (hg _ k_1027) (fun _ h9 => h9) rfl d_Md_proof_29 ?_
          refine lv_iload_n hx hb d_Md_proof_32 rfl (lv_at hl 0 rfl) ?_
          refine va_iald hx hb hK hP 7 0 rfl rfl (i := (nI i)) (vp_in_nI (N := 1000) (by omega) (by decide)) d_Md_proof_33 ?_
          exact K78 _
        · refine lv_iconst (v := 0) hx hb d_Md_proof_24 (by decide) ?_
          refine lv_goto (tgt := 34) hx hb d_Md_proof_25 (by decide) ?_
          exact K78 _
  refine L75 _ (fun g H locs ls  hP hD hS hl => ?_) (sn - 0) 0 f s.heap _ ls (by omega)  hP hD hS hl
  refine lv_aload_n hx hb d_Md_proof_43 rfl (lv_at hl 1 rfl) ?_
  refine lv_iload_n hx hb d_Md_proof_44 rfl (lv_at hl 2 rfl) ?_
  have hPc := hP.sub (ws' := [(mo, .inr (12, mdF r z q cd tm (nI sn) (nI sn))), (r 9, .inl ((cT 0), 1400, .inl g)), (r 12, .inl ((cT 0), 1200, .inl fk)), (r 3, .inl ((cT 0), 160, .inl fc)), (r 4, .inl ((cT 0), 4, .inl fz)), (r 0, .inl ((cT 1), 64, .inr (.inl fs))), (r 11, .inl ((cT 0), 16, .inl fd))]) [0, 1, 2, 3, 4, 5, 6] rfl
  have hDc := hD.sub (ws' := [(mo, .inr (12, mdF r z q cd tm (nI sn) (nI sn))), (r 9, .inl ((cT 0), 1400, .inl g)), (r 12, .inl ((cT 0), 1200, .inl fk)), (r 3, .inl ((cT 0), 160, .inl fc)), (r 4, .inl ((cT 0), 4, .inl fz)), (r 0, .inl ((cT 1), 64, .inr (.inl fs))), (r 11, .inl ((cT 0), 16, .inl fd))]) [0, 1, 2, 3, 4, 5, 6] (by decide) rfl
  have hFc := va_free (wc := [(mo, .inr (12, mdF r z q cd tm (nI sn) (nI sn))), (r 9, .inl ((cT 0), 1400, .inl g)), (r 12, .inl ((cT 0), 1200, .inl fk)), (r 3, .inl ((cT 0), 160, .inl fc)), (r 4, .inl ((cT 0), 4, .inl fz)), (r 0, .inl ((cT 1), 64, .inr (.inl fs))), (r 11, .inl ((cT 0), 16, .inl fd))]) hD hS hA [0, 1, 2, 3, 4, 5, 6] rfl
  refine va_callv (va_runV (C := "DoorServerModel") (As := [.int (nI st)]) (rest := []) ⟨hx, hb, hml, hown, hg⟩ (m_keyed l dC dI cT H.size mo r z q cd tm sn sn g fs fd fc fz st sl fk (hst) (hfz) (hsl) (hsn)) (cwV 1 hg (gI (List.forall_mem_append.mpr ⟨List.forall_mem_cons.mpr ⟨k_1267, List.forall_mem_cons.mpr ⟨k_1269, List.forall_mem_cons.mpr ⟨(big_sel (q := y_Md_keyed) (n := 45) (by decide +kernel)), List.forall_mem_cons.mpr ⟨k_13, fun _ h => absurd h List.not_mem_nil⟩⟩⟩⟩, List.forall_mem_cons.mpr ⟨k_1270, fun _ h => h⟩⟩)) rfl rfl rfl (by decide +kernel) ⟨Nat.le_of_ble_eq_true rfl, Nat.le_of_ble_eq_true rfl⟩) ⟨fun a U g mk q => by obtain ⟨q0, q1, qP, qK, qD⟩ := q; exact ⟨q0, q1, qP, va_K.moved (u := U) (U := U.calling g mk a) (Vm.Alike.refl U.vm) qK, qD⟩, va_recv (q0 := 0) (ci := 12) hK hP rfl rfl, fun U hU hW => ⟨rfl, by rw [hU], by rw [hU]; exact hPc, va_K.moved hW.alike hK, hDc.weaken (fun _ _ _ _ => trivial)⟩⟩ rfl rfl hl.1 rfl (lv_room (Nat.le_of_ble_eq_true rfl)) d_Md_proof_45 ⟨Nat.le_of_ble_eq_true rfl, Nat.le_of_ble_eq_true rfl⟩) hS (fun q _ h => hFc q h) hFc (fun u t H1 locs ht hvm hw hB hz1 hk1 hS => ?_)
  obtain ⟨g_84, gk_85, fd2_86⟩ := u
  try dsimp only at hw hB
  obtain ⟨hP1, hK1, hD1⟩ := hB
  rw [ht] at hP1
  obtain ⟨hP, hD⟩ := va_join (wr := [(r 7, .inl ((cT 0), 1000, .inl fp))]) (w1 := [(mo, .inr (12, mdF r z q cd tm (nI sn) (nI 0))), (r 9, .inl ((cT 0), 1400, .inl g_84)), (r 12, .inl ((cT 0), 1200, .inl gk_85)), (r 3, .inl ((cT 0), 160, .inl fc)), (r 4, .inl ((cT 0), 4, .inl fz)), (r 0, .inl ((cT 1), 64, .inr (.inl fs))), (r 11, .inl ((cT 0), 16, .inl fd2_86))]) hP hD [0, 1, 2, 3, 4, 5, 6] [7] rfl rfl (by decide) (by decide) hk1 hFc hP1 hD1
  have hw87 := hw
  clear hPc hDc hFc hz1 hk1 hP1 hK1 hD1
  generalize H1 = H at hP hS ⊢
  have hP : va_P (dC, dI) vcl [(r 7, .inl ((cT 0), 1000, .inl fp)), (mo, .inr (12, mdF r z q cd tm (nI sn) (nI 0))), (r 9, .inl ((cT 0), 1400, .inl g_84)), (r 12, .inl ((cT 0), 1200, .inl gk_85)), (r 3, .inl ((cT 0), 160, .inl fc)), (r 4, .inl ((cT 0), 4, .inl fz)), (r 0, .inl ((cT 1), 64, .inr (.inl fs))), (r 11, .inl ((cT 0), 16, .inl fd2_86))] H := hP
  have hD : va_D A [(r 7, .inl ((cT 0), 1000, .inl fp)), (mo, .inr (12, mdF r z q cd tm (nI sn) (nI 0))), (r 9, .inl ((cT 0), 1400, .inl g_84)), (r 12, .inl ((cT 0), 1200, .inl gk_85)), (r 3, .inl ((cT 0), 160, .inl fc)), (r 4, .inl ((cT 0), 4, .inl fz)), (r 0, .inl ((cT 1), 64, .inr (.inl fs))), (r 11, .inl ((cT 0), 16, .inl fd2_86))] := hD
  have hP9 := hP.sub (ws' := [(mo, .inr (12, mdF r z q cd tm (nI sn) (nI 0))), (r 9, .inl ((cT 0), 1400, .inl g_84)), (r 12, .inl ((cT 0), 1200, .inl gk_85)), (r 3, .inl ((cT 0), 160, .inl fc)), (r 4, .inl ((cT 0), 4, .inl fz)), (r 0, .inl ((cT 1), 64, .inr (.inl fs))), (r 11, .inl ((cT 0), 16, .inl fd2_86)), (r 7, .inl ((cT 0), 1000, .inl fp))]) [1, 2, 3, 4, 5, 6, 7, 0] rfl
  have hD9 := hD.sub (ws' := [(mo, .inr (12, mdF r z q cd tm (nI sn) (nI 0))), (r 9, .inl ((cT 0), 1400, .inl g_84)), (r 12, .inl ((cT 0), 1200, .inl gk_85)), (r 3, .inl ((cT 0), 160, .inl fc)), (r 4, .inl ((cT 0), 4, .inl fz)), (r 0, .inl ((cT 1), 64, .inr (.inl fs))), (r 11, .inl ((cT 0), 16, .inl fd2_86)), (r 7, .inl ((cT 0), 1000, .inl fp))]) [1, 2, 3, 4, 5, 6, 7, 0] (by decide) rfl
  exact W.vret hx hb hr (fun t ht hW => ⟨⟨⟨g_84, gk_85, fd2_86⟩, rfl, trivial, by rw [ht]; exact hP9, va_K.moved hW.alike hK, hD9⟩, hS.F ht⟩) hS.2.2 d_Md_proof_48
set_option maxHeartbeats 4000000 in
set_option maxRecDepth 100000 in
/-- authenticator -/
theorem m_auth (l : Launch) (dC : Nat → ClassId) (dI : Nat → Nat → Nat) (cT : Nat → ClassId) (sz : Nat) (mo : Nat) (r : Nat → Nat) (z : Nat → Int32) (q : Nat → Int64) (cd : Int32) (tm : Int32) (sn : Nat) (tx : Nat) (f : Nat → Int32) (fs : Nat → Int64) (fd : Nat → Int32) (fc : Nat → Int32) (fz : Nat → Int32) (st : Nat) (sl : Nat) (fp : Nat → Int32) (hst : st < 4) (hfz : fz st = nI sl) (hsl : sl ≤ 40) (hsn : sn ≤ 1000) : Met l y_Md_authenticator (Cond.code y_Md_authenticator b_Md_authenticator 3 (Option.none : Option Jvm.ClassFile.FieldType) :: BIG) ({ frames := 2, cells := 0, slots := 0, locals := 69 }) (va_Pc [.ref mo, .int (nI st)] (fun U => U.heap.size = sz ∧ va_P (dC, dI) vcl [(mo, .inr (12, mdF r z q cd tm (nI sn) (nI 0))), (r 9, .inl ((cT 0), 1400, .inl f)), (r 3, .inl ((cT 0), 160, .inl fc)), (r 4, .inl ((cT 0), 4, .inl fz)), (r 7, .inl ((cT 0), 1000, .inl fp)), (r 0, .inl ((cT 1), 64, .inr (.inl fs))), (r 11, .inl ((cT 0), 16, .inl fd))] U.heap ∧ va_K (dC, dI) vcl (tyL cT) U ∧ va_D (fun _ => True) [(mo, .inr (12, mdF r z q cd tm (nI sn) (nI 0))), (r 9, .inl ((cT 0), 1400, .inl f)), (r 3, .inl ((cT 0), 160, .inl fc)), (r 4, .inl ((cT 0), 4, .inl fz)), (r 7, .inl ((cT 0), 1000, .inl fp)), (r 0, .inl ((cT 1), 64, .inr (.inl fs))), (r 11, .inl ((cT 0), 16, .inl fd))])) (va_Qv (S := (Nat → Int32) × (Nat → Int32)) (fun u => match u with | (g, fd2) => True) (fun u t => match u with | (g, fd2) => va_P (dC, dI) vcl [(mo, .inr (12, mdF r z q cd tm (nI sn) (nI 0))), (r 9, .inl ((cT 0), 1400, .inl g)), (r 3, .inl ((cT 0), 160, .inl fc)), (r 4, .inl ((cT 0), 4, .inl fz)), (r 7, .inl ((cT 0), 1000, .inl fp)), (r 0, .inl ((cT 1), 64, .inr (.inl fs))), (r 11, .inl ((cT 0), 16, .inl fd2))] t.heap ∧ va_K (dC, dI) vcl (tyL cT) t ∧ va_D (va_A [(mo, .inr (12, mdF r z q cd tm (nI sn) (nI 0))), (r 9, .inl ((cT 0), 1400, .inl f)), (r 3, .inl ((cT 0), 160, .inl fc)), (r 4, .inl ((cT 0), 4, .inl fz)), (r 7, .inl ((cT 0), 1000, .inl fp)), (r 0, .inl ((cT 1), 64, .inr (.inl fs))), (r 11, .inl ((cT 0), 16, .inl fd))] sz) [(mo, .inr (12, mdF r z q cd tm (nI sn) (nI 0))), (r 9, .inl ((cT 0), 1400, .inl g)), (r 3, .inl ((cT 0), 160, .inl fc)), (r 4, .inl ((cT 0), 4, .inl fz)), (r 7, .inl ((cT 0), 1000, .inl fp)), (r 0, .inl ((cT 1), 64, .inr (.inl fs))), (r 11, .inl ((cT 0), 16, .inl fd2))]) (va_A [(mo, .inr (12, mdF r z q cd tm (nI sn) (nI 0))), (r 9, .inl ((cT 0), 1400, .inl f)), (r 3, .inl ((cT 0), 160, .inl fc)), (r 4, .inl ((cT 0), 4, .inl fz)), (r 7, .inl ((cT 0), 1000, .inl fp)), (r 0, .inl ((cT 1), 64, .inr (.inl fs))), (r 11, .inl ((cT 0), 16, .inl fd))] sz)) 0 0 (va_A [(mo, .inr (12, mdF r z q cd tm (nI sn) (nI 0))), (r 9, .inl ((cT 0), 1400, .inl f)), (r 3, .inl ((cT 0), 160, .inl fc)), (r 4, .inl ((cT 0), 4, .inl fz)), (r 7, .inl ((cT 0), 1000, .inl fp)), (r 0, .inl ((cT 1), 64, .inr (.inl fs))), (r 11, .inl ((cT 0), 16, .inl fd))] sz) := by
  refine Met.ofW (cc := b_Md_authenticator) (maxL := 3) (ret := (Option.none : Option Jvm.ClassFile.FieldType)) (by decide) rfl ?_
  intro p e s m args below meth c s₁ B hml hv
  obtain ⟨hargs, hsz, hP, hK, hD0⟩ := hv
  have hx := B.exec
  have hb := B.bytes
  have hr := B.returns
  have hts := atoms_spec (ws := (Cond.code y_Md_authenticator b_Md_authenticator 3 (Option.none : Option Jvm.ClassFile.FieldType) :: BIG)) B.pre
  have hg : ∀ w ∈ BIG, w.before _ s = true := fun w h => hts w (List.mem_cons_of_mem _ h)
  have hown : s.vm.findClass "DoorServerModel" = some m.cls := findClass_of_methodNamed B.named
  have hlocks := B.notSynchronized
  subst hsz
  have hD := hD0.self (sz := s.heap.size)
  generalize hAe : va_A [(mo, .inr (12, mdF r z q cd tm (nI sn) (nI 0))), (r 9, .inl ((cT 0), 1400, .inl f)), (r 3, .inl ((cT 0), 160, .inl fc)), (r 4, .inl ((cT 0), 4, .inl fz)), (r 7, .inl ((cT 0), 1000, .inl fp)), (r 0, .inl ((cT 1), 64, .inr (.inl fs))), (r 11, .inl ((cT 0), 16, .inl fd))] s.heap.size = A at hD ⊢
  have hA : ∀ q : Nat, s.heap.size ≤ q → A q := fun q h => by rw [← hAe]; exact Or.inr h
  have hS : va_S A s.heap s.heap [] := va_S.rf
  have hl := lv_entry ([.ref mo, .int (nI st)]) (n := 3) (Nat.le_of_ble_eq_true rfl)
  refine W.eq (g2 := entryFrame m (List.toArray [.ref mo, .int (nI st)]) 3) (by rw [hargs]) ?_
  rw [lg_entry_eq]
  generalize (lg_sl ([.ref mo, .int (nI st)]) ++ List.replicate (3 - (lg_sl ([.ref mo, .int (nI st)])).length) Slot.unset).toArray = ls at hl ⊢
  have hl : lv_has ls 3 [(0, .ref mo), (1, .int (nI st))] := hl
  change W p l e ({ frames := 2, cells := 0, slots := 0, locals := 69 } : Room) s m args below meth c s.heap [] 0 0 _ _
  have hP : va_P (dC, dI) vcl [(mo, .inr (12, mdF r z q cd tm (nI sn) (nI 0))), (r 9, .inl ((cT 0), 1400, .inl f)), (r 3, .inl ((cT 0), 160, .inl fc)), (r 4, .inl ((cT 0), 4, .inl fz)), (r 7, .inl ((cT 0), 1000, .inl fp)), (r 0, .inl ((cT 1), 64, .inr (.inl fs))), (r 11, .inl ((cT 0), 16, .inl fd))] s.heap := hP
  refine lv_iconst (v := 0) hx hb d_Md_authenticator_0 (by decide) ?_
  refine lv_istore_n (lv' := [(2, .int 0), (0, .ref mo), (1, .int (nI st))]) hx hb d_Md_authenticator_1 rfl hl (by decide) rfl (fun ls hl => ?_)
  have hl := lv_sub hl [0, 1, 2] (show _ = [(2, .int 0), (0, .ref mo), (1, .int (nI st))] from rfl)
  have L88 : ∀ (Q : State → Prop) (exit : ∀ (g : Nat → Int32) (H : Heap) (locs : List Loc) (ls : Array Slot), va_P (dC, dI) vcl [(mo, .inr (12, mdF r z q cd tm (nI sn) (nI sn))), (r 9, .inl ((cT 0), 1400, .inl g)), (r 3, .inl ((cT 0), 160, .inl fc)), (r 4, .inl ((cT 0), 4, .inl fz)), (r 7, .inl ((cT 0), 1000, .inl fp)), (r 0, .inl ((cT 1), 64, .inr (.inl fs))), (r 11, .inl ((cT 0), 16, .inl fd))] H → va_D A [(mo, .inr (12, mdF r z q cd tm (nI sn) (nI sn))), (r 9, .inl ((cT 0), 1400, .inl g)), (r 3, .inl ((cT 0), 160, .inl fc)), (r 4, .inl ((cT 0), 4, .inl fz)), (r 7, .inl ((cT 0), 1000, .inl fp)), (r 0, .inl ((cT 1), 64, .inr (.inl fs))), (r 11, .inl ((cT 0), 16, .inl fd))] → va_S A s.heap H locs → lv_has ls 3 [(2, .int (nI sn)), (0, .ref mo), (1, .int (nI st))] → W p l e ({ frames := 2, cells := 0, slots := 0, locals := 69 } : Room) s m args below meth c H locs 0 0 Q (F0 m 41 ls [])) (j8 i : Nat) (g : Nat → Int32) (H : Heap) (locs : List Loc) (ls : Array Slot), i + j8 = sn → va_P (dC, dI) vcl [(mo, .inr (12, mdF r z q cd tm (nI sn) (nI i))), (r 9, .inl ((cT 0), 1400, .inl g)), (r 3, .inl ((cT 0), 160, .inl fc)), (r 4, .inl ((cT 0), 4, .inl fz)), (r 7, .inl ((cT 0), 1000, .inl fp)), (r 0, .inl ((cT 1), 64, .inr (.inl fs))), (r 11, .inl ((cT 0), 16, .inl fd))] H → va_D A [(mo, .inr (12, mdF r z q cd tm (nI sn) (nI i))), (r 9, .inl ((cT 0), 1400, .inl g)), (r 3, .inl ((cT 0), 160, .inl fc)), (r 4, .inl ((cT 0), 4, .inl fz)), (r 7, .inl ((cT 0), 1000, .inl fp)), (r 0, .inl ((cT 1), 64, .inr (.inl fs))), (r 11, .inl ((cT 0), 16, .inl fd))] → va_S A s.heap H locs → lv_has ls 3 [(2, .int (nI i)), (0, .ref mo), (1, .int (nI st))] → W p l e ({ frames := 2, cells := 0, slots := 0, locals := 69 } : Room) s m args below meth c H locs 0 0 Q (F0 m 2 ls []) := by
    intro Q exit j8
    induction j8 with
    | zero => 
      intro i g H locs ls hij  hP hD hS hl
      have hij : sn = i := by omega
      refine lv_iload_n hx hb d_Md_authenticator_2 rfl (lv_at hl 0 rfl) ?_
      refine lv_aload_n hx hb d_Md_authenticator_3 rfl (lv_at hl 1 rfl) ?_
      refine va_get (D := (dC, dI)) (ci := 12) (v := (.int (nI sn))) (C := R_Md) (T := F_Md) (N := 45) hx hb hg in_Md hown hK hP 0 rfl rfl 8 (by decide) (hg _ k_1028) (fun _ h9 => h9) rfl d_Md_authenticator_4 ?_
      refine lv_icmp_ge (tgt := 41) hx hb d_Md_authenticator_7 (by decide) (fun hc89 => ?_) (fun hn9 => absurd (nI_le (by omega) (by omega)) hn9)
      subst hij
      exact exit g _ _ _  hP hD hS hl
    | succ j8 ih => 
      intro i g H locs ls hij  hP hD hS hl
      have hlt : i < sn := by omega
      refine lv_iload_n hx hb d_Md_authenticator_2 rfl (lv_at hl 0 rfl) ?_
      refine lv_aload_n hx hb d_Md_authenticator_3 rfl (lv_at hl 1 rfl) ?_
      refine va_get (D := (dC, dI)) (ci := 12) (v := (.int (nI sn))) (C := R_Md) (T := F_Md) (N := 45) hx hb hg in_Md hown hK hP 0 rfl rfl 8 (by decide) (hg _ k_1028) (fun _ h9 => h9) rfl d_Md_authenticator_4 ?_
      refine lv_icmp_ge (tgt := 41) hx hb d_Md_authenticator_7 (by decide) (fun hn9 => absurd hn9 (nI_ge hlt (by omega))) (fun hc90 => ?_)
      refine lv_aload_n hx hb d_Md_authenticator_10 rfl (lv_at hl 1 rfl) ?_
      refine lv_iload_n hx hb d_Md_authenticator_11 rfl (lv_at hl 0 rfl) ?_
      refine lv_iconst (v := 3) hx hb d_Md_authenticator_12 (by decide) ?_
      have K91 : ∀ (z9 : Int32), W p l e ({ frames := 2, cells := 0, slots := 0, locals := 69 } : Room) s m args below meth c H locs 0 0 Q (F0 m 32 ls [.int z9, .ref mo]) := by
        intro z9
        have hPc := hP.sub (ws' := [(mo, .inr (12, mdF r z q cd tm (nI sn) (nI i))), (r 9, .inl ((cT 0), 1400, .inl g))]) [0, 1] rfl
        have hDc := hD.sub (ws' := [(mo, .inr (12, mdF r z q cd tm (nI sn) (nI i))), (r 9, .inl ((cT 0), 1400, .inl g))]) [0, 1] (by decide) rfl
        have hFc := va_free (wc := [(mo, .inr (12, mdF r z q cd tm (nI sn) (nI i))), (r 9, .inl ((cT 0), 1400, .inl g))]) hD hS hA [0, 1] rfl
        refine va_callv (va_runV (C := "DoorServerModel") (As := [.int z9]) (rest := []) ⟨hx, hb, hml, hown, hg⟩ (m_say l dC dI cT H.size mo r z q cd tm sn i g z9 (by omega)) (cwV 1 hg (gI (List.forall_mem_append.mpr ⟨List.forall_mem_cons.mpr ⟨k_1220, List.forall_mem_cons.mpr ⟨k_1222, List.forall_mem_cons.mpr ⟨(big_sel (q := y_Md_say) (n := 45) (by decide +kernel)), List.forall_mem_cons.mpr ⟨k_13, fun _ h => absurd h List.not_mem_nil⟩⟩⟩⟩, List.forall_mem_cons.mpr ⟨k_1223, fun _ h => h⟩⟩)) rfl rfl rfl (by decide +kernel) ⟨Nat.le_of_ble_eq_true rfl, Nat.le_of_ble_eq_true rfl⟩) ⟨fun a U g mk q => by obtain ⟨q0, q1, qP, qK, qD⟩ := q; exact ⟨q0, q1, qP, va_K.moved (u := U) (U := U.calling g mk a) (Vm.Alike.refl U.vm) qK, qD⟩, va_recv (q0 := 0) (ci := 12) hK hP rfl rfl, fun U hU hW => ⟨rfl, by rw [hU], by rw [hU]; exact hPc, va_K.moved hW.alike hK, hDc.weaken (fun _ _ _ _ => trivial)⟩⟩ rfl rfl hl.1 rfl (lv_room (Nat.le_of_ble_eq_true rfl)) d_Md_authenticator_32 ⟨Nat.le_of_ble_eq_true rfl, Nat.le_of_ble_eq_true rfl⟩) hS (fun q _ h => hFc q h) hFc (fun u t H1 locs ht hvm hw hB hz1 hk1 hS => ?_)
        try dsimp only at hw hB
        obtain ⟨hP1, hK1, hD1⟩ := hB
        rw [ht] at hP1
        obtain ⟨hP, hD⟩ := va_join (wr := [(r 3, .inl ((cT 0), 160, .inl fc)), (r 4, .inl ((cT 0), 4, .inl fz)), (r 7, .inl ((cT 0), 1000, .inl fp)), (r 0, .inl ((cT 1), 64, .inr (.inl fs))), (r 11, .inl ((cT 0), 16, .inl fd))]) (w1 := [(mo, .inr (12, mdF r z q cd tm (nI sn) (nI (i + 1)))), (r 9, .inl ((cT 0), 1400, .inl (upd g i z9)))]) hP hD [0, 1] [2, 3, 4, 5, 6] rfl rfl (by decide) (by decide) hk1 hFc hP1 hD1
        have hw92 := hw
        clear hPc hDc hFc hz1 hk1 hP1 hK1 hD1
        generalize H1 = H at hP hS ⊢
        have hP : va_P (dC, dI) vcl [(r 3, .inl ((cT 0), 160, .inl fc)), (r 4, .inl ((cT 0), 4, .inl fz)), (r 7, .inl ((cT 0), 1000, .inl fp)), (r 0, .inl ((cT 1), 64, .inr (.inl fs))), (r 11, .inl ((cT 0), 16, .inl fd)), (mo, .inr (12, mdF r z q cd tm (nI sn) (nI (i + 1)))), (r 9, .inl ((cT 0), 1400, .inl (upd g i z9)))] H := hP
        have hD : va_D A [(r 3, .inl ((cT 0), 160, .inl fc)), (r 4, .inl ((cT 0), 4, .inl fz)), (r 7, .inl ((cT 0), 1000, .inl fp)), (r 0, .inl ((cT 1), 64, .inr (.inl fs))), (r 11, .inl ((cT 0), 16, .inl fd)), (mo, .inr (12, mdF r z q cd tm (nI sn) (nI (i + 1)))), (r 9, .inl ((cT 0), 1400, .inl (upd g i z9)))] := hD
        refine lv_iinc (k := 0) (v := nI (i + 1)) (lv' := [(2, .int (nI (i + 1))), (0, .ref mo), (1, .int (nI st))]) hx hb d_Md_authenticator_35 hl rfl (nI_1 i) (by decide) rfl (fun ls hl => ?_)
        refine lv_goto (tgt := 2) hx hb d_Md_authenticator_38 (by decide) ?_
        have hP := hP.sub (ws' := [(mo, .inr (12, mdF r z q cd tm (nI sn) (nI (i + 1)))), (r 9, .inl ((cT 0), 1400, .inl (upd g i z9))), (r 3, .inl ((cT 0), 160, .inl fc)), (r 4, .inl ((cT 0), 4, .inl fz)), (r 7, .inl ((cT 0), 1000, .inl fp)), (r 0, .inl ((cT 1), 64, .inr (.inl fs))), (r 11, .inl ((cT 0), 16, .inl fd))]) [5, 6, 0, 1, 2, 3, 4] rfl
        have hD := hD.sub (ws' := [(mo, .inr (12, mdF r z q cd tm (nI sn) (nI (i + 1)))), (r 9, .inl ((cT 0), 1400, .inl (upd g i z9))), (r 3, .inl ((cT 0), 160, .inl fc)), (r 4, .inl ((cT 0), 4, .inl fz)), (r 7, .inl ((cT 0), 1000, .inl fp)), (r 0, .inl ((cT 1), 64, .inr (.inl fs))), (r 11, .inl ((cT 0), 16, .inl fd))]) [5, 6, 0, 1, 2, 3, 4] (by decide) rfl
        exact ih (i + 1) _ _ _ _ (by omega) hP hD hS hl
      refine lv_icmp_le (tgt := 26) hx hb d_Md_authenticator_13 (by decide) (fun hc93 => ?_) (fun hc93 => ?_)
      · refine lv_aload_n hx hb d_Md_authenticator_26 rfl (lv_at hl 1 rfl) ?_
        refine va_get (D := (dC, dI)) (ci := 12) (v := (.ref (r 7))) (C := R_Md) (T := F_Md) (N := 45) hx hb hg in_Md hown hK hP 0 rfl rfl 7 (by decide) (hg _ k_1027) (fun _ h9 => h9) rfl d_Md_authenticator_27 ?_
        refine lv_iload_n hx hb d_Md_authenticator_30 rfl (lv_at hl 0 rfl) ?_
        refine va_iald hx hb hK hP 4 0 rfl rfl (i := (nI i)) (vp_in_nI (N := 1000) (by omega) (by decide)) d_Md_authenticator_31 ?_
        exact K91 _
      · refine lv_iload_n hx hb d_Md_authenticator_16 rfl (lv_at hl 0 rfl) ?_
        refine lv_bipush (v := 20) hx hb d_Md_authenticator_17 (by decide) ?_
        refine lv_icmp_ge (tgt := 26) hx hb d_Md_authenticator_19 (by decide) (fun hc94 => ?_) (fun hc94 => ?_)
        · refine lv_aload_n hx hb d_Md_authenticator_26 rfl (lv_at hl 1 rfl) ?_
          refine va_get (D := (dC, dI)) (ci := 12) (v := (.ref (r 7))) (C := R_Md) (T := F_Md) (N := 45) hx hb hg in_Md hown hK hP 0 rfl rfl 7 (by decide) (hg _ k_1027) (fun _ h9 => h9) rfl d_Md_authenticator_27 ?_
          refine lv_iload_n hx hb d_Md_authenticator_30 rfl (lv_at hl 0 rfl) ?_
          refine va_iald hx hb hK hP 4 0 rfl rfl (i := (nI i)) (vp_in_nI (N := 1000) (by omega) (by decide)) d_Md_authenticator_31 ?_
          exact K91 _
        · refine lv_iconst (v := 0) hx hb d_Md_authenticator_22 (by decide) ?_
          refine lv_goto (tgt := 32) hx hb d_Md_authenticator_23 (by decide) ?_
          exact K91 _
  refine L88 _ (fun g H locs ls  hP hD hS hl => ?_) (sn - 0) 0 f s.heap _ ls (by omega)  hP hD hS hl
  refine lv_aload_n hx hb d_Md_authenticator_41 rfl (lv_at hl 1 rfl) ?_
  refine lv_iload_n hx hb d_Md_authenticator_42 rfl (lv_at hl 2 rfl) ?_
  have hPc := hP.sub (ws' := [(mo, .inr (12, mdF r z q cd tm (nI sn) (nI sn))), (r 3, .inl ((cT 0), 160, .inl fc)), (r 4, .inl ((cT 0), 4, .inl fz)), (r 9, .inl ((cT 0), 1400, .inl g))]) [0, 2, 3, 1] rfl
  have hDc := hD.sub (ws' := [(mo, .inr (12, mdF r z q cd tm (nI sn) (nI sn))), (r 3, .inl ((cT 0), 160, .inl fc)), (r 4, .inl ((cT 0), 4, .inl fz)), (r 9, .inl ((cT 0), 1400, .inl g))]) [0, 2, 3, 1] (by decide) rfl
  have hFc := va_free (wc := [(mo, .inr (12, mdF r z q cd tm (nI sn) (nI sn))), (r 3, .inl ((cT 0), 160, .inl fc)), (r 4, .inl ((cT 0), 4, .inl fz)), (r 9, .inl ((cT 0), 1400, .inl g))]) hD hS hA [0, 2, 3, 1] rfl
  refine va_callv (va_runV (C := "DoorServerModel") (As := [.int (nI st)]) (rest := []) ⟨hx, hb, hml, hown, hg⟩ (m_saySecret l dC dI cT H.size mo r z q cd tm sn sn fc fz st sl g (hst) (hfz) (hsl) (by omega)) (cwV 1 hg (gI (List.forall_mem_append.mpr ⟨List.forall_mem_cons.mpr ⟨k_1216, List.forall_mem_cons.mpr ⟨k_1218, List.forall_mem_cons.mpr ⟨(big_sel (q := y_Md_saySecret) (n := 45) (by decide +kernel)), List.forall_mem_cons.mpr ⟨k_13, fun _ h => absurd h List.not_mem_nil⟩⟩⟩⟩, List.forall_mem_cons.mpr ⟨k_1219, fun _ h => h⟩⟩)) rfl rfl rfl (by decide +kernel) ⟨Nat.le_of_ble_eq_true rfl, Nat.le_of_ble_eq_true rfl⟩) ⟨fun a U g mk q => by obtain ⟨q0, q1, qP, qK, qD⟩ := q; exact ⟨q0, q1, qP, va_K.moved (u := U) (U := U.calling g mk a) (Vm.Alike.refl U.vm) qK, qD⟩, va_recv (q0 := 0) (ci := 12) hK hP rfl rfl, fun U hU hW => ⟨rfl, by rw [hU], by rw [hU]; exact hPc, va_K.moved hW.alike hK, hDc.weaken (fun _ _ _ _ => trivial)⟩⟩ rfl rfl hl.1 rfl (lv_room (Nat.le_of_ble_eq_true rfl)) d_Md_authenticator_43 ⟨Nat.le_of_ble_eq_true rfl, Nat.le_of_ble_eq_true rfl⟩) hS (fun q _ h => hFc q h) hFc (fun u t H1 locs ht hvm hw hB hz1 hk1 hS => ?_)
  obtain ⟨g_95, rfl⟩ : ∃ z, z = u := ⟨_, rfl⟩
  try dsimp only at hw hB
  obtain ⟨hP1, hK1, hD1⟩ := hB
  rw [ht] at hP1
  obtain ⟨hP, hD⟩ := va_join (wr := [(r 7, .inl ((cT 0), 1000, .inl fp)), (r 0, .inl ((cT 1), 64, .inr (.inl fs))), (r 11, .inl ((cT 0), 16, .inl fd))]) (w1 := [(mo, .inr (12, mdF r z q cd tm (nI sn) (nI (sn + sl)))), (r 3, .inl ((cT 0), 160, .inl fc)), (r 4, .inl ((cT 0), 4, .inl fz)), (r 9, .inl ((cT 0), 1400, .inl g_95))]) hP hD [0, 2, 3, 1] [4, 5, 6] rfl rfl (by decide) (by decide) hk1 hFc hP1 hD1
  have hw96 := hw
  clear hPc hDc hFc hz1 hk1 hP1 hK1 hD1
  generalize H1 = H at hP hS ⊢
  have hP : va_P (dC, dI) vcl [(r 7, .inl ((cT 0), 1000, .inl fp)), (r 0, .inl ((cT 1), 64, .inr (.inl fs))), (r 11, .inl ((cT 0), 16, .inl fd)), (mo, .inr (12, mdF r z q cd tm (nI sn) (nI (sn + sl)))), (r 3, .inl ((cT 0), 160, .inl fc)), (r 4, .inl ((cT 0), 4, .inl fz)), (r 9, .inl ((cT 0), 1400, .inl g_95))] H := hP
  have hD : va_D A [(r 7, .inl ((cT 0), 1000, .inl fp)), (r 0, .inl ((cT 1), 64, .inr (.inl fs))), (r 11, .inl ((cT 0), 16, .inl fd)), (mo, .inr (12, mdF r z q cd tm (nI sn) (nI (sn + sl)))), (r 3, .inl ((cT 0), 160, .inl fc)), (r 4, .inl ((cT 0), 4, .inl fz)), (r 9, .inl ((cT 0), 1400, .inl g_95))] := hD
  refine lv_aload_n hx hb d_Md_authenticator_46 rfl (lv_at hl 1 rfl) ?_
  have hPc := hP.sub (ws' := [(mo, .inr (12, mdF r z q cd tm (nI sn) (nI (sn + sl)))), (r 9, .inl ((cT 0), 1400, .inl g_95)), (r 0, .inl ((cT 1), 64, .inr (.inl fs))), (r 11, .inl ((cT 0), 16, .inl fd))]) [3, 6, 1, 2] rfl
  have hDc := hD.sub (ws' := [(mo, .inr (12, mdF r z q cd tm (nI sn) (nI (sn + sl)))), (r 9, .inl ((cT 0), 1400, .inl g_95)), (r 0, .inl ((cT 1), 64, .inr (.inl fs))), (r 11, .inl ((cT 0), 16, .inl fd))]) [3, 6, 1, 2] (by decide) rfl
  have hFc := va_free (wc := [(mo, .inr (12, mdF r z q cd tm (nI sn) (nI (sn + sl)))), (r 9, .inl ((cT 0), 1400, .inl g_95)), (r 0, .inl ((cT 1), 64, .inr (.inl fs))), (r 11, .inl ((cT 0), 16, .inl fd))]) hD hS hA [3, 6, 1, 2] rfl
  refine va_callv (va_runV (C := "DoorServerModel") (As := []) (rest := []) ⟨hx, hb, hml, hown, hg⟩ (m_md5 l dC dI cT H.size mo r z q cd tm sn (sn + sl) g_95 fs fd (by omega)) (cwV 0 hg (gI (List.forall_mem_append.mpr ⟨List.forall_mem_cons.mpr ⟨k_1224, List.forall_mem_cons.mpr ⟨k_1226, List.forall_mem_cons.mpr ⟨(big_sel (q := y_Md_md5) (n := 45) (by decide +kernel)), List.forall_mem_cons.mpr ⟨k_13, fun _ h => absurd h List.not_mem_nil⟩⟩⟩⟩, List.forall_mem_cons.mpr ⟨k_1227, fun _ h => h⟩⟩)) rfl rfl rfl (by decide +kernel) ⟨Nat.le_of_ble_eq_true rfl, Nat.le_of_ble_eq_true rfl⟩) ⟨fun a U g mk q => by obtain ⟨q0, q1, qP, qK, qD⟩ := q; exact ⟨q0, q1, qP, va_K.moved (u := U) (U := U.calling g mk a) (Vm.Alike.refl U.vm) qK, qD⟩, va_recv (q0 := 3) (ci := 12) hK hP rfl rfl, fun U hU hW => ⟨rfl, by rw [hU], by rw [hU]; exact hPc, va_K.moved hW.alike hK, hDc.weaken (fun _ _ _ _ => trivial)⟩⟩ rfl rfl hl.1 rfl (lv_room (Nat.le_of_ble_eq_true rfl)) d_Md_authenticator_47 ⟨Nat.le_of_ble_eq_true rfl, Nat.le_of_ble_eq_true rfl⟩) hS (fun q _ h => hFc q h) hFc (fun u t H1 locs ht hvm hw hB hz1 hk1 hS => ?_)
  obtain ⟨g_97, fd2_98⟩ := u
  try dsimp only at hw hB
  obtain ⟨hP1, hK1, hD1⟩ := hB
  rw [ht] at hP1
  obtain ⟨hP, hD⟩ := va_join (wr := [(r 7, .inl ((cT 0), 1000, .inl fp)), (r 3, .inl ((cT 0), 160, .inl fc)), (r 4, .inl ((cT 0), 4, .inl fz))]) (w1 := [(mo, .inr (12, mdF r z q cd tm (nI sn) (nI 0))), (r 9, .inl ((cT 0), 1400, .inl g_97)), (r 0, .inl ((cT 1), 64, .inr (.inl fs))), (r 11, .inl ((cT 0), 16, .inl fd2_98))]) hP hD [3, 6, 1, 2] [0, 4, 5] rfl rfl (by decide) (by decide) hk1 hFc hP1 hD1
  have hw99 := hw
  clear hPc hDc hFc hz1 hk1 hP1 hK1 hD1
  generalize H1 = H at hP hS ⊢
  have hP : va_P (dC, dI) vcl [(r 7, .inl ((cT 0), 1000, .inl fp)), (r 3, .inl ((cT 0), 160, .inl fc)), (r 4, .inl ((cT 0), 4, .inl fz)), (mo, .inr (12, mdF r z q cd tm (nI sn) (nI 0))), (r 9, .inl ((cT 0), 1400, .inl g_97)), (r 0, .inl ((cT 1), 64, .inr (.inl fs))), (r 11, .inl ((cT 0), 16, .inl fd2_98))] H := hP
  have hD : va_D A [(r 7, .inl ((cT 0), 1000, .inl fp)), (r 3, .inl ((cT 0), 160, .inl fc)), (r 4, .inl ((cT 0), 4, .inl fz)), (mo, .inr (12, mdF r z q cd tm (nI sn) (nI 0))), (r 9, .inl ((cT 0), 1400, .inl g_97)), (r 0, .inl ((cT 1), 64, .inr (.inl fs))), (r 11, .inl ((cT 0), 16, .inl fd2_98))] := hD
  have hP9 := hP.sub (ws' := [(mo, .inr (12, mdF r z q cd tm (nI sn) (nI 0))), (r 9, .inl ((cT 0), 1400, .inl g_97)), (r 3, .inl ((cT 0), 160, .inl fc)), (r 4, .inl ((cT 0), 4, .inl fz)), (r 7, .inl ((cT 0), 1000, .inl fp)), (r 0, .inl ((cT 1), 64, .inr (.inl fs))), (r 11, .inl ((cT 0), 16, .inl fd2_98))]) [3, 4, 1, 2, 0, 5, 6] rfl
  have hD9 := hD.sub (ws' := [(mo, .inr (12, mdF r z q cd tm (nI sn) (nI 0))), (r 9, .inl ((cT 0), 1400, .inl g_97)), (r 3, .inl ((cT 0), 160, .inl fc)), (r 4, .inl ((cT 0), 4, .inl fz)), (r 7, .inl ((cT 0), 1000, .inl fp)), (r 0, .inl ((cT 1), 64, .inr (.inl fs))), (r 11, .inl ((cT 0), 16, .inl fd2_98))]) [3, 4, 1, 2, 0, 5, 6] (by decide) rfl
  exact W.vret hx hb hr (fun t ht hW => ⟨⟨⟨g_97, fd2_98⟩, rfl, trivial, by rw [ht]; exact hP9, va_K.moved hW.alike hK, hD9⟩, hS.F ht⟩) hS.2.2 d_Md_authenticator_50
