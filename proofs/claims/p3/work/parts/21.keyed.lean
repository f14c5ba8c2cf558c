theorem d_Md_keyed_0 : decode b_Md_keyed 0 = .ok (.aload_n 0, 1) := by decide +kernel
theorem d_Md_keyed_1 : decode b_Md_keyed 1 = .ok (.getfield 247, 3) := by decide +kernel
theorem d_Md_keyed_4 : decode b_Md_keyed 4 = .ok (.istore_n 2, 1) := by decide +kernel
theorem d_Md_keyed_5 : decode b_Md_keyed 5 = .ok (.iconst 0, 1) := by decide +kernel
theorem d_Md_keyed_6 : decode b_Md_keyed 6 = .ok (.istore_n 3, 1) := by decide +kernel
theorem d_Md_keyed_7 : decode b_Md_keyed 7 = .ok (.iload_n 3, 1) := by decide +kernel
theorem d_Md_keyed_8 : decode b_Md_keyed 8 = .ok (.iload_n 2, 1) := by decide +kernel
theorem d_Md_keyed_9 : decode b_Md_keyed 9 = .ok (.if_icmp .ge 21, 3) := by decide +kernel
theorem d_Md_keyed_12 : decode b_Md_keyed 12 = .ok (.aload_n 0, 1) := by decide +kernel
theorem d_Md_keyed_13 : decode b_Md_keyed 13 = .ok (.getfield 163, 3) := by decide +kernel
theorem d_Md_keyed_16 : decode b_Md_keyed 16 = .ok (.iload_n 3, 1) := by decide +kernel
theorem d_Md_keyed_17 : decode b_Md_keyed 17 = .ok (.aload_n 0, 1) := by decide +kernel
theorem d_Md_keyed_18 : decode b_Md_keyed 18 = .ok (.getfield 157, 3) := by decide +kernel
theorem d_Md_keyed_21 : decode b_Md_keyed 21 = .ok (.iload_n 3, 1) := by decide +kernel
theorem d_Md_keyed_22 : decode b_Md_keyed 22 = .ok (.iaload, 1) := by decide +kernel
theorem d_Md_keyed_23 : decode b_Md_keyed 23 = .ok (.iastore, 1) := by decide +kernel
theorem d_Md_keyed_24 : decode b_Md_keyed 24 = .ok (.iinc 3 1, 3) := by decide +kernel
theorem d_Md_keyed_27 : decode b_Md_keyed 27 = .ok (.goto (-20), 3) := by decide +kernel
theorem d_Md_keyed_30 : decode b_Md_keyed 30 = .ok (.aload_n 0, 1) := by decide +kernel
theorem d_Md_keyed_31 : decode b_Md_keyed 31 = .ok (.iconst 0, 1) := by decide +kernel
theorem d_Md_keyed_32 : decode b_Md_keyed 32 = .ok (.putfield 247, 3) := by decide +kernel
theorem d_Md_keyed_35 : decode b_Md_keyed 35 = .ok (.iconst 0, 1) := by decide +kernel
theorem d_Md_keyed_36 : decode b_Md_keyed 36 = .ok (.istore_n 3, 1) := by decide +kernel
theorem d_Md_keyed_37 : decode b_Md_keyed 37 = .ok (.iload_n 3, 1) := by decide +kernel
theorem d_Md_keyed_38 : decode b_Md_keyed 38 = .ok (.bipush 64, 2) := by decide +kernel
theorem d_Md_keyed_40 : decode b_Md_keyed 40 = .ok (.if_icmp .ge 41, 3) := by decide +kernel
theorem d_Md_keyed_43 : decode b_Md_keyed 43 = .ok (.aload_n 0, 1) := by decide +kernel
theorem d_Md_keyed_44 : decode b_Md_keyed 44 = .ok (.iload_n 3, 1) := by decide +kernel
theorem d_Md_keyed_45 : decode b_Md_keyed 45 = .ok (.aload_n 0, 1) := by decide +kernel
theorem d_Md_keyed_46 : decode b_Md_keyed 46 = .ok (.getfield 145, 3) := by decide +kernel
theorem d_Md_keyed_49 : decode b_Md_keyed 49 = .ok (.iload_n 1, 1) := by decide +kernel
theorem d_Md_keyed_50 : decode b_Md_keyed 50 = .ok (.iaload, 1) := by decide +kernel
theorem d_Md_keyed_51 : decode b_Md_keyed 51 = .ok (.if_icmp .ge 17, 3) := by decide +kernel
theorem d_Md_keyed_68 : decode b_Md_keyed 68 = .ok (.iconst 0, 1) := by decide +kernel
theorem d_Md_keyed_69 : decode b_Md_keyed 69 = .ok (.bipush 54, 2) := by decide +kernel
theorem d_Md_keyed_71 : decode b_Md_keyed 71 = .ok (.ixor, 1) := by decide +kernel
theorem d_Md_keyed_72 : decode b_Md_keyed 72 = .ok (.invokevirtual 250, 3) := by decide +kernel
theorem d_Md_keyed_75 : decode b_Md_keyed 75 = .ok (.iinc 3 1, 3) := by decide +kernel
theorem d_Md_keyed_78 : decode b_Md_keyed 78 = .ok (.goto (-41), 3) := by decide +kernel
theorem d_Md_keyed_54 : decode b_Md_keyed 54 = .ok (.aload_n 0, 1) := by decide +kernel
theorem d_Md_keyed_55 : decode b_Md_keyed 55 = .ok (.getfield 141, 3) := by decide +kernel
theorem d_Md_keyed_58 : decode b_Md_keyed 58 = .ok (.bipush 40, 2) := by decide +kernel
theorem d_Md_keyed_60 : decode b_Md_keyed 60 = .ok (.iload_n 1, 1) := by decide +kernel
theorem d_Md_keyed_61 : decode b_Md_keyed 61 = .ok (.imul, 1) := by decide +kernel
theorem d_Md_keyed_62 : decode b_Md_keyed 62 = .ok (.iload_n 3, 1) := by decide +kernel
theorem d_Md_keyed_63 : decode b_Md_keyed 63 = .ok (.iadd, 1) := by decide +kernel
theorem d_Md_keyed_64 : decode b_Md_keyed 64 = .ok (.iaload, 1) := by decide +kernel
theorem d_Md_keyed_65 : decode b_Md_keyed 65 = .ok (.goto 4, 3) := by decide +kernel
theorem d_Md_keyed_81 : decode b_Md_keyed 81 = .ok (.iconst 0, 1) := by decide +kernel
theorem d_Md_keyed_82 : decode b_Md_keyed 82 = .ok (.istore_n 3, 1) := by decide +kernel
theorem d_Md_keyed_83 : decode b_Md_keyed 83 = .ok (.iload_n 3, 1) := by decide +kernel
theorem d_Md_keyed_84 : decode b_Md_keyed 84 = .ok (.iload_n 2, 1) := by decide +kernel
theorem d_Md_keyed_85 : decode b_Md_keyed 85 = .ok (.if_icmp .ge 19, 3) := by decide +kernel
theorem d_Md_keyed_88 : decode b_Md_keyed 88 = .ok (.aload_n 0, 1) := by decide +kernel
theorem d_Md_keyed_89 : decode b_Md_keyed 89 = .ok (.aload_n 0, 1) := by decide +kernel
theorem d_Md_keyed_90 : decode b_Md_keyed 90 = .ok (.getfield 163, 3) := by decide +kernel
theorem d_Md_keyed_93 : decode b_Md_keyed 93 = .ok (.iload_n 3, 1) := by decide +kernel
theorem d_Md_keyed_94 : decode b_Md_keyed 94 = .ok (.iaload, 1) := by decide +kernel
theorem d_Md_keyed_95 : decode b_Md_keyed 95 = .ok (.invokevirtual 250, 3) := by decide +kernel
theorem d_Md_keyed_98 : decode b_Md_keyed 98 = .ok (.iinc 3 1, 3) := by decide +kernel
theorem d_Md_keyed_101 : decode b_Md_keyed 101 = .ok (.goto (-18), 3) := by decide +kernel
theorem d_Md_keyed_104 : decode b_Md_keyed 104 = .ok (.aload_n 0, 1) := by decide +kernel
theorem d_Md_keyed_105 : decode b_Md_keyed 105 = .ok (.invokevirtual 284, 3) := by decide +kernel
theorem d_Md_keyed_108 : decode b_Md_keyed 108 = .ok (.iconst 0, 1) := by decide +kernel
theorem d_Md_keyed_109 : decode b_Md_keyed 109 = .ok (.istore_n 3, 1) := by decide +kernel
theorem d_Md_keyed_110 : decode b_Md_keyed 110 = .ok (.iload_n 3, 1) := by decide +kernel
theorem d_Md_keyed_111 : decode b_Md_keyed 111 = .ok (.bipush 64, 2) := by decide +kernel
theorem d_Md_keyed_113 : decode b_Md_keyed 113 = .ok (.if_icmp .ge 41, 3) := by decide +kernel
theorem d_Md_keyed_116 : decode b_Md_keyed 116 = .ok (.aload_n 0, 1) := by decide +kernel
theorem d_Md_keyed_117 : decode b_Md_keyed 117 = .ok (.iload_n 3, 1) := by decide +kernel
theorem d_Md_keyed_118 : decode b_Md_keyed 118 = .ok (.aload_n 0, 1) := by decide +kernel
theorem d_Md_keyed_119 : decode b_Md_keyed 119 = .ok (.getfield 145, 3) := by decide +kernel
theorem d_Md_keyed_122 : decode b_Md_keyed 122 = .ok (.iload_n 1, 1) := by decide +kernel
theorem d_Md_keyed_123 : decode b_Md_keyed 123 = .ok (.iaload, 1) := by decide +kernel
theorem d_Md_keyed_124 : decode b_Md_keyed 124 = .ok (.if_icmp .ge 17, 3) := by decide +kernel
theorem d_Md_keyed_141 : decode b_Md_keyed 141 = .ok (.iconst 0, 1) := by decide +kernel
theorem d_Md_keyed_142 : decode b_Md_keyed 142 = .ok (.bipush 92, 2) := by decide +kernel
theorem d_Md_keyed_144 : decode b_Md_keyed 144 = .ok (.ixor, 1) := by decide +kernel
theorem d_Md_keyed_145 : decode b_Md_keyed 145 = .ok (.invokevirtual 250, 3) := by decide +kernel
theorem d_Md_keyed_148 : decode b_Md_keyed 148 = .ok (.iinc 3 1, 3) := by decide +kernel
theorem d_Md_keyed_151 : decode b_Md_keyed 151 = .ok (.goto (-41), 3) := by decide +kernel
theorem d_Md_keyed_127 : decode b_Md_keyed 127 = .ok (.aload_n 0, 1) := by decide +kernel
theorem d_Md_keyed_128 : decode b_Md_keyed 128 = .ok (.getfield 141, 3) := by decide +kernel
theorem d_Md_keyed_131 : decode b_Md_keyed 131 = .ok (.bipush 40, 2) := by decide +kernel
theorem d_Md_keyed_133 : decode b_Md_keyed 133 = .ok (.iload_n 1, 1) := by decide +kernel
theorem d_Md_keyed_134 : decode b_Md_keyed 134 = .ok (.imul, 1) := by decide +kernel
theorem d_Md_keyed_135 : decode b_Md_keyed 135 = .ok (.iload_n 3, 1) := by decide +kernel
theorem d_Md_keyed_136 : decode b_Md_keyed 136 = .ok (.iadd, 1) := by decide +kernel
theorem d_Md_keyed_137 : decode b_Md_keyed 137 = .ok (.iaload, 1) := by decide +kernel
theorem d_Md_keyed_138 : decode b_Md_keyed 138 = .ok (.goto 4, 3) := by decide +kernel
theorem d_Md_keyed_154 : decode b_Md_keyed 154 = .ok (.iconst 0, 1) := by decide +kernel
theorem d_Md_keyed_155 : decode b_Md_keyed 155 = .ok (.istore_n 3, 1) := by decide +kernel
theorem d_Md_keyed_156 : decode b_Md_keyed 156 = .ok (.iload_n 3, 1) := by decide +kernel
theorem d_Md_keyed_157 : decode b_Md_keyed 157 = .ok (.bipush 16, 2) := by decide +kernel
theorem d_Md_keyed_159 : decode b_Md_keyed 159 = .ok (.if_icmp .ge 19, 3) := by decide +kernel
theorem d_Md_keyed_162 : decode b_Md_keyed 162 = .ok (.aload_n 0, 1) := by decide +kernel
theorem d_Md_keyed_163 : decode b_Md_keyed 163 = .ok (.aload_n 0, 1) := by decide +kernel
theorem d_Md_keyed_164 : decode b_Md_keyed 164 = .ok (.getfield 160, 3) := by decide +kernel
theorem d_Md_keyed_167 : decode b_Md_keyed 167 = .ok (.iload_n 3, 1) := by decide +kernel
theorem d_Md_keyed_168 : decode b_Md_keyed 168 = .ok (.iaload, 1) := by decide +kernel
theorem d_Md_keyed_169 : decode b_Md_keyed 169 = .ok (.invokevirtual 250, 3) := by decide +kernel
theorem d_Md_keyed_172 : decode b_Md_keyed 172 = .ok (.iinc 3 1, 3) := by decide +kernel
theorem d_Md_keyed_175 : decode b_Md_keyed 175 = .ok (.goto (-19), 3) := by decide +kernel
theorem d_Md_keyed_178 : decode b_Md_keyed 178 = .ok (.aload_n 0, 1) := by decide +kernel
theorem d_Md_keyed_179 : decode b_Md_keyed 179 = .ok (.invokevirtual 284, 3) := by decide +kernel
theorem d_Md_keyed_182 : decode b_Md_keyed 182 = .ok (.return_, 1) := by decide +kernel
theorem d_Md_cover_0 : decode b_Md_cover 0 = .ok (.aload_n 0, 1) := by decide +kernel
theorem d_Md_cover_1 : decode b_Md_cover 1 = .ok (.iload_n 1, 1) := by decide +kernel
theorem d_Md_cover_2 : decode b_Md_cover 2 = .ok (.invokevirtual 318, 3) := by decide +kernel
theorem d_Md_cover_5 : decode b_Md_cover 5 = .ok (.iconst 0, 1) := by decide +kernel
theorem d_Md_cover_6 : decode b_Md_cover 6 = .ok (.istore_n 3, 1) := by decide +kernel
theorem d_Md_cover_7 : decode b_Md_cover 7 = .ok (.iload_n 3, 1) := by decide +kernel
theorem d_Md_cover_8 : decode b_Md_cover 8 = .ok (.bipush 16, 2) := by decide +kernel
theorem d_Md_cover_10 : decode b_Md_cover 10 = .ok (.if_icmp .ge 21, 3) := by decide +kernel
theorem d_Md_cover_13 : decode b_Md_cover 13 = .ok (.aload_n 0, 1) := by decide +kernel
theorem d_Md_cover_14 : decode b_Md_cover 14 = .ok (.aload_n 0, 1) := by decide +kernel
theorem d_Md_cover_15 : decode b_Md_cover 15 = .ok (.getfield 154, 3) := by decide +kernel
theorem d_Md_cover_18 : decode b_Md_cover 18 = .ok (.iload_n 2, 1) := by decide +kernel
theorem d_Md_cover_19 : decode b_Md_cover 19 = .ok (.iload_n 3, 1) := by decide +kernel
theorem d_Md_cover_20 : decode b_Md_cover 20 = .ok (.iadd, 1) := by decide +kernel
theorem d_Md_cover_21 : decode b_Md_cover 21 = .ok (.iaload, 1) := by decide +kernel
theorem d_Md_cover_22 : decode b_Md_cover 22 = .ok (.invokevirtual 250, 3) := by decide +kernel
theorem d_Md_cover_25 : decode b_Md_cover 25 = .ok (.iinc 3 1, 3) := by decide +kernel
theorem d_Md_cover_28 : decode b_Md_cover 28 = .ok (.goto (-21), 3) := by decide +kernel
theorem d_Md_cover_31 : decode b_Md_cover 31 = .ok (.aload_n 0, 1) := by decide +kernel
theorem d_Md_cover_32 : decode b_Md_cover 32 = .ok (.invokevirtual 284, 3) := by decide +kernel
theorem d_Md_cover_35 : decode b_Md_cover 35 = .ok (.return_, 1) := by decide +kernel
theorem d_Md_proof_0 : decode b_Md_proof 0 = .ok (.iconst 0, 1) := by decide +kernel
theorem d_Md_proof_1 : decode b_Md_proof 1 = .ok (.istore_n 3, 1) := by decide +kernel
theorem d_Md_proof_2 : decode b_Md_proof 2 = .ok (.iload_n 3, 1) := by decide +kernel
theorem d_Md_proof_3 : decode b_Md_proof 3 = .ok (.aload_n 0, 1) := by decide +kernel
theorem d_Md_proof_4 : decode b_Md_proof 4 = .ok (.getfield 297, 3) := by decide +kernel
theorem d_Md_proof_7 : decode b_Md_proof 7 = .ok (.if_icmp .ge 36, 3) := by decide +kernel
theorem d_Md_proof_10 : decode b_Md_proof 10 = .ok (.aload_n 0, 1) := by decide +kernel
theorem d_Md_proof_11 : decode b_Md_proof 11 = .ok (.iload_n 3, 1) := by decide +kernel
theorem d_Md_proof_12 : decode b_Md_proof 12 = .ok (.iload_n 2, 1) := by decide +kernel
theorem d_Md_proof_13 : decode b_Md_proof 13 = .ok (.if_icmp .lt 15, 3) := by decide +kernel
theorem d_Md_proof_28 : decode b_Md_proof 28 = .ok (.aload_n 0, 1) := by decide +kernel
theorem d_Md_proof_29 : decode b_Md_proof 29 = .ok (.getfield 154, 3) := by decide +kernel
theorem d_Md_proof_32 : decode b_Md_proof 32 = .ok (.iload_n 3, 1) := by decide +kernel
theorem d_Md_proof_33 : decode b_Md_proof 33 = .ok (.iaload, 1) := by decide +kernel
theorem d_Md_proof_34 : decode b_Md_proof 34 = .ok (.invokevirtual 250, 3) := by decide +kernel
theorem d_Md_proof_37 : decode b_Md_proof 37 = .ok (.iinc 3 1, 3) := by decide +kernel
theorem d_Md_proof_40 : decode b_Md_proof 40 = .ok (.goto (-38), 3) := by decide +kernel
theorem d_Md_proof_16 : decode b_Md_proof 16 = .ok (.iload_n 3, 1) := by decide +kernel
theorem d_Md_proof_17 : decode b_Md_proof 17 = .ok (.iload_n 2, 1) := by decide +kernel
theorem d_Md_proof_18 : decode b_Md_proof 18 = .ok (.bipush 16, 2) := by decide +kernel
theorem d_Md_proof_20 : decode b_Md_proof 20 = .ok (.iadd, 1) := by decide +kernel
theorem d_Md_proof_21 : decode b_Md_proof 21 = .ok (.if_icmp .ge 7, 3) := by decide +kernel
theorem d_Md_proof_24 : decode b_Md_proof 24 = .ok (.iconst 0, 1) := by decide +kernel
theorem d_Md_proof_25 : decode b_Md_proof 25 = .ok (.goto 9, 3) := by decide +kernel
theorem d_Md_proof_43 : decode b_Md_proof 43 = .ok (.aload_n 0, 1) := by decide +kernel
theorem d_Md_proof_44 : decode b_Md_proof 44 = .ok (.iload_n 1, 1) := by decide +kernel
theorem d_Md_proof_45 : decode b_Md_proof 45 = .ok (.invokevirtual 328, 3) := by decide +kernel
theorem d_Md_proof_48 : decode b_Md_proof 48 = .ok (.return_, 1) := by decide +kernel
theorem d_Md_authenticator_0 : decode b_Md_authenticator 0 = .ok (.iconst 0, 1) := by decide +kernel
theorem d_Md_authenticator_1 : decode b_Md_authenticator 1 = .ok (.istore_n 2, 1) := by decide +kernel
theorem d_Md_authenticator_2 : decode b_Md_authenticator 2 = .ok (.iload_n 2, 1) := by decide +kernel
theorem d_Md_authenticator_3 : decode b_Md_authenticator 3 = .ok (.aload_n 0, 1) := by decide +kernel
theorem d_Md_authenticator_4 : decode b_Md_authenticator 4 = .ok (.getfield 297, 3) := by decide +kernel
theorem d_Md_authenticator_7 : decode b_Md_authenticator 7 = .ok (.if_icmp .ge 34, 3) := by decide +kernel
theorem d_Md_authenticator_10 : decode b_Md_authenticator 10 = .ok (.aload_n 0, 1) := by decide +kernel
theorem d_Md_authenticator_11 : decode b_Md_authenticator 11 = .ok (.iload_n 2, 1) := by decide +kernel
theorem d_Md_authenticator_12 : decode b_Md_authenticator 12 = .ok (.iconst 3, 1) := by decide +kernel
theorem d_Md_authenticator_13 : decode b_Md_authenticator 13 = .ok (.if_icmp .le 13, 3) := by decide +kernel
theorem d_Md_authenticator_26 : decode b_Md_authenticator 26 = .ok (.aload_n 0, 1) := by decide +kernel
theorem d_Md_authenticator_27 : decode b_Md_authenticator 27 = .ok (.getfield 154, 3) := by decide +kernel
theorem d_Md_authenticator_30 : decode b_Md_authenticator 30 = .ok (.iload_n 2, 1) := by decide +kernel
theorem d_Md_authenticator_31 : decode b_Md_authenticator 31 = .ok (.iaload, 1) := by decide +kernel
theorem d_Md_authenticator_32 : decode b_Md_authenticator 32 = .ok (.invokevirtual 250, 3) := by decide +kernel
theorem d_Md_authenticator_35 : decode b_Md_authenticator 35 = .ok (.iinc 2 1, 3) := by decide +kernel
theorem d_Md_authenticator_38 : decode b_Md_authenticator 38 = .ok (.goto (-36), 3) := by decide +kernel
theorem d_Md_authenticator_16 : decode b_Md_authenticator 16 = .ok (.iload_n 2, 1) := by decide +kernel
theorem d_Md_authenticator_17 : decode b_Md_authenticator 17 = .ok (.bipush 20, 2) := by decide +kernel
theorem d_Md_authenticator_19 : decode b_Md_authenticator 19 = .ok (.if_icmp .ge 7, 3) := by decide +kernel
theorem d_Md_authenticator_22 : decode b_Md_authenticator 22 = .ok (.iconst 0, 1) := by decide +kernel
theorem d_Md_authenticator_23 : decode b_Md_authenticator 23 = .ok (.goto 9, 3) := by decide +kernel
theorem d_Md_authenticator_41 : decode b_Md_authenticator 41 = .ok (.aload_n 0, 1) := by decide +kernel
theorem d_Md_authenticator_42 : decode b_Md_authenticator 42 = .ok (.iload_n 1, 1) := by decide +kernel
theorem d_Md_authenticator_43 : decode b_Md_authenticator 43 = .ok (.invokevirtual 318, 3) := by decide +kernel
theorem d_Md_authenticator_46 : decode b_Md_authenticator 46 = .ok (.aload_n 0, 1) := by decide +kernel
theorem d_Md_authenticator_47 : decode b_Md_authenticator 47 = .ok (.invokevirtual 284, 3) := by decide +kernel
theorem d_Md_authenticator_50 : decode b_Md_authenticator 50 = .ok (.return_, 1) := by decide +kernel
set_option maxHeartbeats 4000000 in
set_option maxRecDepth 100000 in
/-- keyed -/
theorem m_keyed (l : Launch) (dC : Nat → ClassId) (dI : Nat → Nat → Nat) (cT : Nat → ClassId) (sz : Nat) (mo : Nat) (r : Nat → Nat) (cd : Int32) (tm : Int32) (sn : Nat) (tx : Nat) (lz : Nat) (az : Nat) (na : Nat) (nt : Nat) (nr : Nat) (mw : Int32) (ml : Int32) (mk : Int64) (dq : Int64) (f9 : Nat → Int32) (f12 : Nat → Int32) (f3 : Nat → Int32) (f4 : Nat → Int32) (f0 : Nat → Int64) (f11 : Nat → Int32) (st : Nat) (sl : Nat) (hst : st < 4) (hfz : f4 st = nI sl) (hsl : sl ≤ 40) (ht9 : tx ≤ 1000) (h11 : AB f11) : Met l y_Md_keyed (Cond.code y_Md_keyed b_Md_keyed 4 (Option.none : Option Jvm.ClassFile.FieldType) :: BIG) ({ frames := 2, cells := 0, slots := 0, locals := 69 }) (va_Pc [.ref mo, .int (nI st)] (fun U => U.heap.size = sz ∧ va_P (dC, dI) vcl [(mo, .inr (12, mdG r cd tm (nI sn) (nI tx) (nI lz) (nI az) (nI na) (nI nt) (nI nr) mw ml mk dq)), (r 9, .inl ((cT 0), 1400, .inl f9)), (r 12, .inl ((cT 0), 1200, .inl f12)), (r 3, .inl ((cT 0), 160, .inl f3)), (r 4, .inl ((cT 0), 4, .inl f4)), (r 0, .inl ((cT 1), 64, .inr (.inl f0))), (r 11, .inl ((cT 0), 16, .inl f11))] U.heap ∧ va_K (dC, dI) vcl (tyL cT) U ∧ va_D (fun _ => True) [(mo, .inr (12, mdG r cd tm (nI sn) (nI tx) (nI lz) (nI az) (nI na) (nI nt) (nI nr) mw ml mk dq)), (r 9, .inl ((cT 0), 1400, .inl f9)), (r 12, .inl ((cT 0), 1200, .inl f12)), (r 3, .inl ((cT 0), 160, .inl f3)), (r 4, .inl ((cT 0), 4, .inl f4)), (r 0, .inl ((cT 1), 64, .inr (.inl f0))), (r 11, .inl ((cT 0), 16, .inl f11))])) (va_Qv (S := (Nat → Int32) × (Nat → Int32) × (Nat → Int32)) (fun u => match u with | (g9, g12, g11) => AB g11) (fun u t => match u with | (g9, g12, g11) => va_P (dC, dI) vcl [(mo, .inr (12, mdG r cd tm (nI sn) (nI 0) (nI lz) (nI az) (nI na) (nI nt) (nI nr) mw ml mk dq)), (r 9, .inl ((cT 0), 1400, .inl g9)), (r 12, .inl ((cT 0), 1200, .inl g12)), (r 3, .inl ((cT 0), 160, .inl f3)), (r 4, .inl ((cT 0), 4, .inl f4)), (r 0, .inl ((cT 1), 64, .inr (.inl f0))), (r 11, .inl ((cT 0), 16, .inl g11))] t.heap ∧ va_K (dC, dI) vcl (tyL cT) t ∧ va_D (va_A [(mo, .inr (12, mdG r cd tm (nI sn) (nI tx) (nI lz) (nI az) (nI na) (nI nt) (nI nr) mw ml mk dq)), (r 9, .inl ((cT 0), 1400, .inl f9)), (r 12, .inl ((cT 0), 1200, .inl f12)), (r 3, .inl ((cT 0), 160, .inl f3)), (r 4, .inl ((cT 0), 4, .inl f4)), (r 0, .inl ((cT 1), 64, .inr (.inl f0))), (r 11, .inl ((cT 0), 16, .inl f11))] sz) [(mo, .inr (12, mdG r cd tm (nI sn) (nI 0) (nI lz) (nI az) (nI na) (nI nt) (nI nr) mw ml mk dq)), (r 9, .inl ((cT 0), 1400, .inl g9)), (r 12, .inl ((cT 0), 1200, .inl g12)), (r 3, .inl ((cT 0), 160, .inl f3)), (r 4, .inl ((cT 0), 4, .inl f4)), (r 0, .inl ((cT 1), 64, .inr (.inl f0))), (r 11, .inl ((cT 0), 16, .inl g11))]) (va_A [(mo, .inr (12, mdG r cd tm (nI sn) (nI tx) (nI lz) (nI az) (nI na) (nI nt) (nI nr) mw ml mk dq)), (r 9, .inl ((cT 0), 1400, .inl f9)), (r 12, .inl ((cT 0), 1200, .inl f12)), (r 3, .inl ((cT 0), 160, .inl f3)), (r 4, .inl ((cT 0), 4, .inl f4)), (r 0, .inl ((cT 1), 64, .inr (.inl f0))), (r 11, .inl ((cT 0), 16, .inl f11))] sz)) 0 0 (va_A [(mo, .inr (12, mdG r cd tm (nI sn) (nI tx) (nI lz) (nI az) (nI na) (nI nt) (nI nr) mw ml mk dq)), (r 9, .inl ((cT 0), 1400, .inl f9)), (r 12, .inl ((cT 0), 1200, .inl f12)), (r 3, .inl ((cT 0), 160, .inl f3)), (r 4, .inl ((cT 0), 4, .inl f4)), (r 0, .inl ((cT 1), 64, .inr (.inl f0))), (r 11, .inl ((cT 0), 16, .inl f11))] sz) := by
  refine Met.ofW (cc := b_Md_keyed) (maxL := 4) (ret := (Option.none : Option Jvm.ClassFile.FieldType)) (by decide) rfl ?_
  intro p e s m args below meth c s₁ B hml hv
  obtain ⟨hargs, hsz, hP, hK, hD0⟩ := hv
  have hx := B.exec
  have hb := B.bytes
  have hr := B.returns
  have hts := atoms_spec (ws := (Cond.code y_Md_keyed b_Md_keyed 4 (Option.none : Option Jvm.ClassFile.FieldType) :: BIG)) B.pre
  have hg : ∀ w ∈ BIG, w.before _ s = true := fun w h => hts w (List.mem_cons_of_mem _ h)
  have hown : s.vm.findClass "DoorServerModel" = some m.cls := findClass_of_methodNamed B.named
  have hlocks := B.notSynchronized
  subst hsz
  have hD := hD0.self (sz := s.heap.size)
  generalize hAe : va_A [(mo, .inr (12, mdG r cd tm (nI sn) (nI tx) (nI lz) (nI az) (nI na) (nI nt) (nI nr) mw ml mk dq)), (r 9, .inl ((cT 0), 1400, .inl f9)), (r 12, .inl ((cT 0), 1200, .inl f12)), (r 3, .inl ((cT 0), 160, .inl f3)), (r 4, .inl ((cT 0), 4, .inl f4)), (r 0, .inl ((cT 1), 64, .inr (.inl f0))), (r 11, .inl ((cT 0), 16, .inl f11))] s.heap.size = A at hD ⊢
  have hA : ∀ q : Nat, s.heap.size ≤ q → A q := fun q h => by rw [← hAe]; exact Or.inr h
  have hS : va_S A s.heap s.heap [] := va_S.rf
  have hl := lv_entry ([.ref mo, .int (nI st)]) (n := 4) (Nat.le_of_ble_eq_true rfl)
  refine W.eq (g2 := entryFrame m (List.toArray [.ref mo, .int (nI st)]) 4) (by rw [hargs]) ?_
  rw [lg_entry_eq]
  generalize (lg_sl ([.ref mo, .int (nI st)]) ++ List.replicate (4 - (lg_sl ([.ref mo, .int (nI st)])).length) Slot.unset).toArray = ls at hl ⊢
  have hl : lv_has ls 4 [(0, .ref mo), (1, .int (nI st))] := hl
  change W p l e ({ frames := 2, cells := 0, slots := 0, locals := 69 } : Room) s m args below meth c s.heap [] 0 0 _ _
  have hP : va_P (dC, dI) vcl [(mo, .inr (12, mdG r cd tm (nI sn) (nI tx) (nI lz) (nI az) (nI na) (nI nt) (nI nr) mw ml mk dq)), (r 9, .inl ((cT 0), 1400, .inl f9)), (r 12, .inl ((cT 0), 1200, .inl f12)), (r 3, .inl ((cT 0), 160, .inl f3)), (r 4, .inl ((cT 0), 4, .inl f4)), (r 0, .inl ((cT 1), 64, .inr (.inl f0))), (r 11, .inl ((cT 0), 16, .inl f11))] s.heap := hP
  refine lv_aload_n hx hb d_Md_keyed_0 rfl (lv_at hl 0 rfl) ?_
  refine va_get (D := (dC, dI)) (ci := 12) (v := (.int (nI tx))) (C := R_Md) (T := F_Md) (N := 45) hx hb hg in_Md hown hK hP 0 rfl rfl 10 (by decide) (hg _ k_1030) (fun _ h9 => h9) rfl d_Md_keyed_1 ?_
  refine lv_istore_n (lv' := [(2, .int (nI tx)), (0, .ref mo), (1, .int (nI st))]) hx hb d_Md_keyed_4 rfl hl (by decide) rfl (fun ls hl => ?_)
  refine lv_iconst (v := 0) hx hb d_Md_keyed_5 (by decide) ?_
  refine lv_istore_n (lv' := [(3, .int 0), (2, .int (nI tx)), (0, .ref mo), (1, .int (nI st))]) hx hb d_Md_keyed_6 rfl hl (by decide) rfl (fun ls hl => ?_)
  have hl := lv_sub hl [0, 1, 2, 3] (show _ = [(3, .int 0), (2, .int (nI tx)), (0, .ref mo), (1, .int (nI st))] from rfl)
  have L2 : ∀ (Q : State → Prop) (exit : ∀ (g12_1 : Nat → Int32) (H : Heap) (locs : List Loc) (ls : Array Slot), va_P (dC, dI) vcl [(mo, .inr (12, mdG r cd tm (nI sn) (nI tx) (nI lz) (nI az) (nI na) (nI nt) (nI nr) mw ml mk dq)), (r 9, .inl ((cT 0), 1400, .inl f9)), (r 12, .inl ((cT 0), 1200, .inl g12_1)), (r 3, .inl ((cT 0), 160, .inl f3)), (r 4, .inl ((cT 0), 4, .inl f4)), (r 0, .inl ((cT 1), 64, .inr (.inl f0))), (r 11, .inl ((cT 0), 16, .inl f11))] H → va_D A [(mo, .inr (12, mdG r cd tm (nI sn) (nI tx) (nI lz) (nI az) (nI na) (nI nt) (nI nr) mw ml mk dq)), (r 9, .inl ((cT 0), 1400, .inl f9)), (r 12, .inl ((cT 0), 1200, .inl g12_1)), (r 3, .inl ((cT 0), 160, .inl f3)), (r 4, .inl ((cT 0), 4, .inl f4)), (r 0, .inl ((cT 1), 64, .inr (.inl f0))), (r 11, .inl ((cT 0), 16, .inl f11))] → va_S A s.heap H locs → lv_has ls 4 [(3, .int (nI tx)), (2, .int (nI tx)), (0, .ref mo), (1, .int (nI st))] → W p l e ({ frames := 2, cells := 0, slots := 0, locals := 69 } : Room) s m args below meth c H locs 0 0 Q (F0 m 30 ls [])) (j8 i : Nat) (g12_1 : Nat → Int32) (H : Heap) (locs : List Loc) (ls : Array Slot), i + j8 = tx → va_P (dC, dI) vcl [(mo, .inr (12, mdG r cd tm (nI sn) (nI tx) (nI lz) (nI az) (nI na) (nI nt) (nI nr) mw ml mk dq)), (r 9, .inl ((cT 0), 1400, .inl f9)), (r 12, .inl ((cT 0), 1200, .inl g12_1)), (r 3, .inl ((cT 0), 160, .inl f3)), (r 4, .inl ((cT 0), 4, .inl f4)), (r 0, .inl ((cT 1), 64, .inr (.inl f0))), (r 11, .inl ((cT 0), 16, .inl f11))] H → va_D A [(mo, .inr (12, mdG r cd tm (nI sn) (nI tx) (nI lz) (nI az) (nI na) (nI nt) (nI nr) mw ml mk dq)), (r 9, .inl ((cT 0), 1400, .inl f9)), (r 12, .inl ((cT 0), 1200, .inl g12_1)), (r 3, .inl ((cT 0), 160, .inl f3)), (r 4, .inl ((cT 0), 4, .inl f4)), (r 0, .inl ((cT 1), 64, .inr (.inl f0))), (r 11, .inl ((cT 0), 16, .inl f11))] → va_S A s.heap H locs → lv_has ls 4 [(3, .int (nI i)), (2, .int (nI tx)), (0, .ref mo), (1, .int (nI st))] → W p l e ({ frames := 2, cells := 0, slots := 0, locals := 69 } : Room) s m args below meth c H locs 0 0 Q (F0 m 7 ls []) := by
    intro Q exit j8
    induction j8 with
    | zero => 
      intro i g12_1 H locs ls hij  hP hD hS hl
      have hij : tx = i := by omega
      refine lv_iload_n hx hb d_Md_keyed_7 rfl (lv_at hl 0 rfl) ?_
      refine lv_iload_n hx hb d_Md_keyed_8 rfl (lv_at hl 1 rfl) ?_
      refine lv_icmp_ge (tgt := 30) hx hb d_Md_keyed_9 (by decide) (fun hc3 => ?_) (fun hn9 => absurd (nI_le (by omega) (by omega)) hn9)
      subst hij
      exact exit g12_1 _ _ _  hP hD hS hl
    | succ j8 ih => 
      intro i g12_1 H locs ls hij  hP hD hS hl
      have hlt : i < tx := by omega
      have hlti := hlt
      refine lv_iload_n hx hb d_Md_keyed_7 rfl (lv_at hl 0 rfl) ?_
      refine lv_iload_n hx hb d_Md_keyed_8 rfl (lv_at hl 1 rfl) ?_
      refine lv_icmp_ge (tgt := 30) hx hb d_Md_keyed_9 (by decide) (fun hn9 => absurd hn9 (nI_ge (by omega) (by omega))) (fun hc4 => ?_)
      refine lv_aload_n hx hb d_Md_keyed_12 rfl (lv_at hl 2 rfl) ?_
      refine va_get (D := (dC, dI)) (ci := 12) (v := (.ref (r 12))) (C := R_Md) (T := F_Md) (N := 45) hx hb hg in_Md hown hK hP 0 rfl rfl 12 (by decide) (hg _ k_1032) (fun _ h9 => h9) rfl d_Md_keyed_13 ?_
      refine lv_iload_n hx hb d_Md_keyed_16 rfl (lv_at hl 0 rfl) ?_
      refine lv_aload_n hx hb d_Md_keyed_17 rfl (lv_at hl 2 rfl) ?_
      refine va_get (D := (dC, dI)) (ci := 12) (v := (.ref (r 9))) (C := R_Md) (T := F_Md) (N := 45) hx hb hg in_Md hown hK hP 0 rfl rfl 9 (by decide) (hg _ k_1029) (fun _ h9 => h9) rfl d_Md_keyed_18 ?_
      refine lv_iload_n hx hb d_Md_keyed_21 rfl (lv_at hl 0 rfl) ?_
      refine va_iald hx hb hK hP 1 0 rfl rfl (i := (nI i)) (vp_in_nI (N := 1400) (by omega) (by decide)) d_Md_keyed_22 ?_
      refine lv_topi (fun x5 e_x5 => ?_)
      clear e_x5
      refine va_iast hx hb hK hP hD hS 2 0 rfl rfl (i := (nI i)) (vp_in_nI (n := i) (N := 1200) (by omega) (by decide)) d_Md_keyed_23 (fun H locs hP hD hS => ?_)
      have ef6 : upd g12_1 (nI i).toNatClampNeg x5 = upd g12_1 i x5 := by rw [show (nI i).toNatClampNeg = i from nI_clamp (by omega)]
      rw [ef6] at hP hD
      have hP : va_P (dC, dI) vcl [(mo, .inr (12, mdG r cd tm (nI sn) (nI tx) (nI lz) (nI az) (nI na) (nI nt) (nI nr) mw ml mk dq)), (r 9, .inl ((cT 0), 1400, .inl f9)), (r 12, .inl ((cT 0), 1200, .inl (upd g12_1 i x5))), (r 3, .inl ((cT 0), 160, .inl f3)), (r 4, .inl ((cT 0), 4, .inl f4)), (r 0, .inl ((cT 1), 64, .inr (.inl f0))), (r 11, .inl ((cT 0), 16, .inl f11))] H := hP
      have hD : va_D A [(mo, .inr (12, mdG r cd tm (nI sn) (nI tx) (nI lz) (nI az) (nI na) (nI nt) (nI nr) mw ml mk dq)), (r 9, .inl ((cT 0), 1400, .inl f9)), (r 12, .inl ((cT 0), 1200, .inl (upd g12_1 i x5))), (r 3, .inl ((cT 0), 160, .inl f3)), (r 4, .inl ((cT 0), 4, .inl f4)), (r 0, .inl ((cT 1), 64, .inr (.inl f0))), (r 11, .inl ((cT 0), 16, .inl f11))] := hD
      refine lv_iinc (k := 0) (v := nI (i + 1)) (lv' := [(3, .int (nI (i + 1))), (2, .int (nI tx)), (0, .ref mo), (1, .int (nI st))]) hx hb d_Md_keyed_24 hl rfl (nI_1 i) (by decide) rfl (fun ls hl => ?_)
      refine lv_goto (tgt := 7) hx hb d_Md_keyed_27 (by decide) ?_
      have hl := lv_sub hl [0, 1, 2, 3] (show _ = [(3, .int (nI (i + 1))), (2, .int (nI tx)), (0, .ref mo), (1, .int (nI st))] from rfl)
      exact ih (i + 1) _ _ _ _ (by omega)  hP hD hS hl
  refine L2 _ (fun g12_1 H locs ls  hP hD hS hl => ?_) (tx - 0) 0 f12 s.heap _ ls (by omega)  hP hD hS hl
  refine lv_aload_n hx hb d_Md_keyed_30 rfl (lv_at hl 2 rfl) ?_
  refine lv_iconst (v := 0) hx hb d_Md_keyed_31 (by decide) ?_
  refine lv_topi (fun x8 e7 => ?_)
  obtain rfl : x8 = nI 0 := by rw [e7]; rfl
  refine va_put (D := (dC, dI)) (ci := 12) (v := (.int (nI 0))) (ty := .int) (C := R_Md) (T := F_Md) (N := 45) hx hb hg in_Md t_Md tok_Md nm_Md hown hK hP hD hS 0 rfl rfl 10 (by decide) (hg _ k_1030) (fun _ h9 => h9) rfl (by decide +kernel) rfl rfl (Nat.le_of_ble_eq_true rfl) d_Md_keyed_32 (fun H locs hP hD hS => ?_)
  have hP : va_P (dC, dI) vcl [(mo, .inr (12, mdG r cd tm (nI sn) (nI 0) (nI lz) (nI az) (nI na) (nI nt) (nI nr) mw ml mk dq)), (r 9, .inl ((cT 0), 1400, .inl f9)), (r 12, .inl ((cT 0), 1200, .inl g12_1)), (r 3, .inl ((cT 0), 160, .inl f3)), (r 4, .inl ((cT 0), 4, .inl f4)), (r 0, .inl ((cT 1), 64, .inr (.inl f0))), (r 11, .inl ((cT 0), 16, .inl f11))] H := hP
  have hD : va_D A [(mo, .inr (12, mdG r cd tm (nI sn) (nI 0) (nI lz) (nI az) (nI na) (nI nt) (nI nr) mw ml mk dq)), (r 9, .inl ((cT 0), 1400, .inl f9)), (r 12, .inl ((cT 0), 1200, .inl g12_1)), (r 3, .inl ((cT 0), 160, .inl f3)), (r 4, .inl ((cT 0), 4, .inl f4)), (r 0, .inl ((cT 1), 64, .inr (.inl f0))), (r 11, .inl ((cT 0), 16, .inl f11))] := hD
  refine lv_iconst (v := 0) hx hb d_Md_keyed_35 (by decide) ?_
  refine lv_istore_n (lv' := [(3, .int 0), (2, .int (nI tx)), (0, .ref mo), (1, .int (nI st))]) hx hb d_Md_keyed_36 rfl hl (by decide) rfl (fun ls hl => ?_)
  have hl := lv_sub hl [0, 1, 2, 3] (show _ = [(3, .int 0), (2, .int (nI tx)), (0, .ref mo), (1, .int (nI st))] from rfl)
  have L10 : ∀ (Q : State → Prop) (exit : ∀ (g9_9 : Nat → Int32) (H : Heap) (locs : List Loc) (ls : Array Slot), va_P (dC, dI) vcl [(mo, .inr (12, mdG r cd tm (nI sn) (nI (64)) (nI lz) (nI az) (nI na) (nI nt) (nI nr) mw ml mk dq)), (r 9, .inl ((cT 0), 1400, .inl g9_9)), (r 12, .inl ((cT 0), 1200, .inl g12_1)), (r 3, .inl ((cT 0), 160, .inl f3)), (r 4, .inl ((cT 0), 4, .inl f4)), (r 0, .inl ((cT 1), 64, .inr (.inl f0))), (r 11, .inl ((cT 0), 16, .inl f11))] H → va_D A [(mo, .inr (12, mdG r cd tm (nI sn) (nI (64)) (nI lz) (nI az) (nI na) (nI nt) (nI nr) mw ml mk dq)), (r 9, .inl ((cT 0), 1400, .inl g9_9)), (r 12, .inl ((cT 0), 1200, .inl g12_1)), (r 3, .inl ((cT 0), 160, .inl f3)), (r 4, .inl ((cT 0), 4, .inl f4)), (r 0, .inl ((cT 1), 64, .inr (.inl f0))), (r 11, .inl ((cT 0), 16, .inl f11))] → va_S A s.heap H locs → lv_has ls 4 [(3, .int (nI 64)), (2, .int (nI tx)), (0, .ref mo), (1, .int (nI st))] → W p l e ({ frames := 2, cells := 0, slots := 0, locals := 69 } : Room) s m args below meth c H locs 0 0 Q (F0 m 81 ls [])) (j8 i : Nat) (g9_9 : Nat → Int32) (H : Heap) (locs : List Loc) (ls : Array Slot), i + j8 = 64 → va_P (dC, dI) vcl [(mo, .inr (12, mdG r cd tm (nI sn) (nI (i)) (nI lz) (nI az) (nI na) (nI nt) (nI nr) mw ml mk dq)), (r 9, .inl ((cT 0), 1400, .inl g9_9)), (r 12, .inl ((cT 0), 1200, .inl g12_1)), (r 3, .inl ((cT 0), 160, .inl f3)), (r 4, .inl ((cT 0), 4, .inl f4)), (r 0, .inl ((cT 1), 64, .inr (.inl f0))), (r 11, .inl ((cT 0), 16, .inl f11))] H → va_D A [(mo, .inr (12, mdG r cd tm (nI sn) (nI (i)) (nI lz) (nI az) (nI na) (nI nt) (nI nr) mw ml mk dq)), (r 9, .inl ((cT 0), 1400, .inl g9_9)), (r 12, .inl ((cT 0), 1200, .inl g12_1)), (r 3, .inl ((cT 0), 160, .inl f3)), (r 4, .inl ((cT 0), 4, .inl f4)), (r 0, .inl ((cT 1), 64, .inr (.inl f0))), (r 11, .inl ((cT 0), 16, .inl f11))] → va_S A s.heap H locs → lv_has ls 4 [(3, .int (nI i)), (2, .int (nI tx)), (0, .ref mo), (1, .int (nI st))] → W p l e ({ frames := 2, cells := 0, slots := 0, locals := 69 } : Room) s m args below meth c H locs 0 0 Q (F0 m 37 ls []) := by
    intro Q exit j8
    induction j8 with
    | zero => 
      intro i g9_9 H locs ls hij  hP hD hS hl
      have hij : 64 = i := by omega
      refine lv_iload_n hx hb d_Md_keyed_37 rfl (lv_at hl 0 rfl) ?_
      refine lv_bipush (v := 64) hx hb d_Md_keyed_38 (by decide) ?_
      refine lv_topi (fun x12 e11 => ?_)
      obtain rfl : x12 = nI 64 := by rw [e11]; rfl
      refine lv_icmp_ge (tgt := 81) hx hb d_Md_keyed_40 (by decide) (fun hc13 => ?_) (fun hn9 => absurd (nI_le (by omega) (by omega)) hn9)
      subst hij
      exact exit g9_9 _ _ _  hP hD hS hl
    | succ j8 ih => 
      intro i g9_9 H locs ls hij  hP hD hS hl
      have hlt : i < 64 := by omega
      have hlti := hlt
      refine lv_iload_n hx hb d_Md_keyed_37 rfl (lv_at hl 0 rfl) ?_
      refine lv_bipush (v := 64) hx hb d_Md_keyed_38 (by decide) ?_
      refine lv_topi (fun x15 e14 => ?_)
      obtain rfl : x15 = nI 64 := by rw [e14]; rfl
      refine lv_icmp_ge (tgt := 81) hx hb d_Md_keyed_40 (by decide) (fun hn9 => absurd hn9 (nI_ge (by omega) (by omega))) (fun hc16 => ?_)
      refine lv_aload_n hx hb d_Md_keyed_43 rfl (lv_at hl 2 rfl) ?_
      refine lv_iload_n hx hb d_Md_keyed_44 rfl (lv_at hl 0 rfl) ?_
      refine lv_aload_n hx hb d_Md_keyed_45 rfl (lv_at hl 2 rfl) ?_
      refine va_get (D := (dC, dI)) (ci := 12) (v := (.ref (r 4))) (C := R_Md) (T := F_Md) (N := 45) hx hb hg in_Md hown hK hP 0 rfl rfl 4 (by decide) (hg _ k_1024) (fun _ h9 => h9) rfl d_Md_keyed_46 ?_
      refine lv_iload_n hx hb d_Md_keyed_49 rfl (lv_at hl 3 rfl) ?_
      refine va_iald hx hb hK hP 4 0 rfl rfl (i := (nI st)) (vp_in_nI (N := 4) hst (by decide)) d_Md_keyed_50 ?_
      refine lv_topi (fun x18 e17 => ?_)
      obtain rfl : x18 = nI sl := by rw [e17]; rw [nI_clamp (by omega)]; exact hfz
      refine lv_icmp_ge (tgt := 68) hx hb d_Md_keyed_51 (by decide) (fun hc19 => ?_) (fun hc19 => ?_)
      · skip
        have n20 : sl ≤ i := (nI_leI (a := sl) (b := i) (by omega) (by omega)).mp hc19
        refine lv_iconst (v := 0) hx hb d_Md_keyed_68 (by decide) ?_
        refine lv_bipush (v := 54) hx hb d_Md_keyed_69 (by decide) ?_
        refine lv_ixor hx hb d_Md_keyed_71 ?_
        have hPc := hP.sub (ws' := [(mo, .inr (12, mdG r cd tm (nI sn) (nI i) (nI lz) (nI az) (nI na) (nI nt) (nI nr) mw ml mk dq)), (r 9, .inl ((cT 0), 1400, .inl g9_9))]) [0, 1] rfl
        have hDc := hD.sub (ws' := [(mo, .inr (12, mdG r cd tm (nI sn) (nI i) (nI lz) (nI az) (nI na) (nI nt) (nI nr) mw ml mk dq)), (r 9, .inl ((cT 0), 1400, .inl g9_9))]) [0, 1] (by decide) rfl
        have hFc := va_free (wc := [(mo, .inr (12, mdG r cd tm (nI sn) (nI i) (nI lz) (nI az) (nI na) (nI nt) (nI nr) mw ml mk dq)), (r 9, .inl ((cT 0), 1400, .inl g9_9))]) hD hS hA [0, 1] rfl
        refine va_callv (va_runV (C := "DoorServerModel") (As := [.int (0 ^^^ 54)]) (rest := []) ⟨hx, hb, hml, hown, hg⟩ (m_say l dC dI cT H.size mo r cd tm sn i lz az na nt nr mw ml mk dq g9_9 (0 ^^^ 54) (by first | assumption | omega)) (cwV 1 hg (gI (List.forall_mem_append.mpr ⟨List.forall_mem_cons.mpr ⟨k_1220, List.forall_mem_cons.mpr ⟨k_1222, List.forall_mem_cons.mpr ⟨(big_sel (q := y_Md_say) (n := 45) (by decide +kernel)), List.forall_mem_cons.mpr ⟨k_13, fun _ h => absurd h List.not_mem_nil⟩⟩⟩⟩, List.forall_mem_cons.mpr ⟨k_1223, fun _ h => h⟩⟩)) rfl rfl rfl (by decide +kernel) ⟨Nat.le_of_ble_eq_true rfl, Nat.le_of_ble_eq_true rfl⟩) ⟨fun a U g mk q => by obtain ⟨q0, q1, qP, qK, qD⟩ := q; exact ⟨q0, q1, qP, va_K.moved (u := U) (U := U.calling g mk a) (Vm.Alike.refl U.vm) qK, qD⟩, va_recv (q0 := 0) (ci := 12) hK hP rfl rfl, fun U hU hW => ⟨rfl, by rw [hU], by rw [hU]; exact hPc, va_K.moved hW.alike hK, hDc.weaken (fun _ _ _ _ => trivial)⟩⟩ rfl rfl hl.1 rfl (lv_room (Nat.le_of_ble_eq_true rfl)) d_Md_keyed_72 ⟨Nat.le_of_ble_eq_true rfl, Nat.le_of_ble_eq_true rfl⟩) hS (fun q _ h => hFc q h) hFc (fun u t H1 locs ht hvm hw hB hz1 hk1 hS => ?_)
        obtain ⟨g9_22, rfl⟩ : ∃ z, z = u := ⟨_, rfl⟩
        try dsimp only at hw hB
        obtain ⟨hP1, hK1, hD1⟩ := hB
        rw [ht] at hP1
        obtain ⟨hP, hD⟩ := va_join (wr := [(r 12, .inl ((cT 0), 1200, .inl g12_1)), (r 3, .inl ((cT 0), 160, .inl f3)), (r 4, .inl ((cT 0), 4, .inl f4)), (r 0, .inl ((cT 1), 64, .inr (.inl f0))), (r 11, .inl ((cT 0), 16, .inl f11))]) (w1 := [(mo, .inr (12, mdG r cd tm (nI sn) (nI (i + 1)) (nI lz) (nI az) (nI na) (nI nt) (nI nr) mw ml mk dq)), (r 9, .inl ((cT 0), 1400, .inl g9_22))]) hP hD [0, 1] [2, 3, 4, 5, 6] rfl rfl (by decide) (by decide) hk1 hFc hP1 hD1
        have hw23 := hw
        clear hPc hDc hFc hz1 hk1 hP1 hK1 hD1
        generalize H1 = H at hP hS ⊢
        have hP : va_P (dC, dI) vcl [(r 12, .inl ((cT 0), 1200, .inl g12_1)), (r 3, .inl ((cT 0), 160, .inl f3)), (r 4, .inl ((cT 0), 4, .inl f4)), (r 0, .inl ((cT 1), 64, .inr (.inl f0))), (r 11, .inl ((cT 0), 16, .inl f11)), (mo, .inr (12, mdG r cd tm (nI sn) (nI (i + 1)) (nI lz) (nI az) (nI na) (nI nt) (nI nr) mw ml mk dq)), (r 9, .inl ((cT 0), 1400, .inl g9_22))] H := hP
        have hD : va_D A [(r 12, .inl ((cT 0), 1200, .inl g12_1)), (r 3, .inl ((cT 0), 160, .inl f3)), (r 4, .inl ((cT 0), 4, .inl f4)), (r 0, .inl ((cT 1), 64, .inr (.inl f0))), (r 11, .inl ((cT 0), 16, .inl f11)), (mo, .inr (12, mdG r cd tm (nI sn) (nI (i + 1)) (nI lz) (nI az) (nI na) (nI nt) (nI nr) mw ml mk dq)), (r 9, .inl ((cT 0), 1400, .inl g9_22))] := hD
        refine lv_iinc (k := 0) (v := nI (i + 1)) (lv' := [(3, .int (nI (i + 1))), (2, .int (nI tx)), (0, .ref mo), (1, .int (nI st))]) hx hb d_Md_keyed_75 hl rfl (nI_1 i) (by decide) rfl (fun ls hl => ?_)
        refine lv_goto (tgt := 37) hx hb d_Md_keyed_78 (by decide) ?_
        have hl := lv_sub hl [0, 1, 2, 3] (show _ = [(3, .int (nI (i + 1))), (2, .int (nI tx)), (0, .ref mo), (1, .int (nI st))] from rfl)
        have hP := hP.sub (ws' := [(mo, .inr (12, mdG r cd tm (nI sn) (nI (i + 1)) (nI lz) (nI az) (nI na) (nI nt) (nI nr) mw ml mk dq)), (r 9, .inl ((cT 0), 1400, .inl g9_22)), (r 12, .inl ((cT 0), 1200, .inl g12_1)), (r 3, .inl ((cT 0), 160, .inl f3)), (r 4, .inl ((cT 0), 4, .inl f4)), (r 0, .inl ((cT 1), 64, .inr (.inl f0))), (r 11, .inl ((cT 0), 16, .inl f11))]) [5, 6, 0, 1, 2, 3, 4] rfl
        have hD := hD.sub (ws' := [(mo, .inr (12, mdG r cd tm (nI sn) (nI (i + 1)) (nI lz) (nI az) (nI na) (nI nt) (nI nr) mw ml mk dq)), (r 9, .inl ((cT 0), 1400, .inl g9_22)), (r 12, .inl ((cT 0), 1200, .inl g12_1)), (r 3, .inl ((cT 0), 160, .inl f3)), (r 4, .inl ((cT 0), 4, .inl f4)), (r 0, .inl ((cT 1), 64, .inr (.inl f0))), (r 11, .inl ((cT 0), 16, .inl f11))]) [5, 6, 0, 1, 2, 3, 4] (by decide) rfl
        exact ih (i + 1) _ _ _ _ (by omega)  hP hD hS hl
      · skip
        have n21 : i < sl := Nat.not_le.mp (fun h7 => hc19 ((nI_leI (a := sl) (b := i) (by omega) (by omega)).mpr h7))
        refine lv_aload_n hx hb d_Md_keyed_54 rfl (lv_at hl 2 rfl) ?_
        refine va_get (D := (dC, dI)) (ci := 12) (v := (.ref (r 3))) (C := R_Md) (T := F_Md) (N := 45) hx hb hg in_Md hown hK hP 0 rfl rfl 3 (by decide) (hg _ k_1023) (fun _ h9 => h9) rfl d_Md_keyed_55 ?_
        refine lv_bipush (v := 40) hx hb d_Md_keyed_58 (by decide) ?_
        refine lv_iload_n hx hb d_Md_keyed_60 rfl (lv_at hl 3 rfl) ?_
        refine lv_imul hx hb d_Md_keyed_61 ?_
        refine lv_topi (fun x25 e24 => ?_)
        obtain rfl : x25 = nI (40 * st) := by rw [e24]; exact pk_mul 40 st
        refine lv_iload_n hx hb d_Md_keyed_62 rfl (lv_at hl 0 rfl) ?_
        refine lv_iadd hx hb d_Md_keyed_63 ?_
        refine lv_topi (fun x27 e26 => ?_)
        obtain rfl : x27 = nI ((40 * st) + i) := by rw [e26]; exact nI_add (40 * st) i
        refine va_iald hx hb hK hP 3 0 rfl rfl (i := (nI ((40 * st) + i))) (vp_in_nI (N := 160) (by omega) (by decide)) d_Md_keyed_64 ?_
        refine lv_topi (fun x28 e_x28 => ?_)
        clear e_x28
        refine lv_goto (tgt := 69) hx hb d_Md_keyed_65 (by decide) ?_
        refine lv_bipush (v := 54) hx hb d_Md_keyed_69 (by decide) ?_
        refine lv_ixor hx hb d_Md_keyed_71 ?_
        have hPc := hP.sub (ws' := [(mo, .inr (12, mdG r cd tm (nI sn) (nI i) (nI lz) (nI az) (nI na) (nI nt) (nI nr) mw ml mk dq)), (r 9, .inl ((cT 0), 1400, .inl g9_9))]) [0, 1] rfl
        have hDc := hD.sub (ws' := [(mo, .inr (12, mdG r cd tm (nI sn) (nI i) (nI lz) (nI az) (nI na) (nI nt) (nI nr) mw ml mk dq)), (r 9, .inl ((cT 0), 1400, .inl g9_9))]) [0, 1] (by decide) rfl
        have hFc := va_free (wc := [(mo, .inr (12, mdG r cd tm (nI sn) (nI i) (nI lz) (nI az) (nI na) (nI nt) (nI nr) mw ml mk dq)), (r 9, .inl ((cT 0), 1400, .inl g9_9))]) hD hS hA [0, 1] rfl
        refine va_callv (va_runV (C := "DoorServerModel") (As := [.int (x28 ^^^ 54)]) (rest := []) ⟨hx, hb, hml, hown, hg⟩ (m_say l dC dI cT H.size mo r cd tm sn i lz az na nt nr mw ml mk dq g9_9 (x28 ^^^ 54) (by first | assumption | omega)) (cwV 1 hg (gI (List.forall_mem_append.mpr ⟨List.forall_mem_cons.mpr ⟨k_1220, List.forall_mem_cons.mpr ⟨k_1222, List.forall_mem_cons.mpr ⟨(big_sel (q := y_Md_say) (n := 45) (by decide +kernel)), List.forall_mem_cons.mpr ⟨k_13, fun _ h => absurd h List.not_mem_nil⟩⟩⟩⟩, List.forall_mem_cons.mpr ⟨k_1223, fun _ h => h⟩⟩)) rfl rfl rfl (by decide +kernel) ⟨Nat.le_of_ble_eq_true rfl, Nat.le_of_ble_eq_true rfl⟩) ⟨fun a U g mk q => by obtain ⟨q0, q1, qP, qK, qD⟩ := q; exact ⟨q0, q1, qP, va_K.moved (u := U) (U := U.calling g mk a) (Vm.Alike.refl U.vm) qK, qD⟩, va_recv (q0 := 0) (ci := 12) hK hP rfl rfl, fun U hU hW => ⟨rfl, by rw [hU], by rw [hU]; exact hPc, va_K.moved hW.alike hK, hDc.weaken (fun _ _ _ _ => trivial)⟩⟩ rfl rfl hl.1 rfl (lv_room (Nat.le_of_ble_eq_true rfl)) d_Md_keyed_72 ⟨Nat.le_of_ble_eq_true rfl, Nat.le_of_ble_eq_true rfl⟩) hS (fun q _ h => hFc q h) hFc (fun u t H1 locs ht hvm hw hB hz1 hk1 hS => ?_)
        obtain ⟨g9_29, rfl⟩ : ∃ z, z = u := ⟨_, rfl⟩
        try dsimp only at hw hB
        obtain ⟨hP1, hK1, hD1⟩ := hB
        rw [ht] at hP1
        obtain ⟨hP, hD⟩ := va_join (wr := [(r 12, .inl ((cT 0), 1200, .inl g12_1)), (r 3, .inl ((cT 0), 160, .inl f3)), (r 4, .inl ((cT 0), 4, .inl f4)), (r 0, .inl ((cT 1), 64, .inr (.inl f0))), (r 11, .inl ((cT 0), 16, .inl f11))]) (w1 := [(mo, .inr (12, mdG r cd tm (nI sn) (nI (i + 1)) (nI lz) (nI az) (nI na) (nI nt) (nI nr) mw ml mk dq)), (r 9, .inl ((cT 0), 1400, .inl g9_29))]) hP hD [0, 1] [2, 3, 4, 5, 6] rfl rfl (by decide) (by decide) hk1 hFc hP1 hD1
        have hw30 := hw
        clear hPc hDc hFc hz1 hk1 hP1 hK1 hD1
        generalize H1 = H at hP hS ⊢
        have hP : va_P (dC, dI) vcl [(r 12, .inl ((cT 0), 1200, .inl g12_1)), (r 3, .inl ((cT 0), 160, .inl f3)), (r 4, .inl ((cT 0), 4, .inl f4)), (r 0, .inl ((cT 1), 64, .inr (.inl f0))), (r 11, .inl ((cT 0), 16, .inl f11)), (mo, .inr (12, mdG r cd tm (nI sn) (nI (i + 1)) (nI lz) (nI az) (nI na) (nI nt) (nI nr) mw ml mk dq)), (r 9, .inl ((cT 0), 1400, .inl g9_29))] H := hP
        have hD : va_D A [(r 12, .inl ((cT 0), 1200, .inl g12_1)), (r 3, .inl ((cT 0), 160, .inl f3)), (r 4, .inl ((cT 0), 4, .inl f4)), (r 0, .inl ((cT 1), 64, .inr (.inl f0))), (r 11, .inl ((cT 0), 16, .inl f11)), (mo, .inr (12, mdG r cd tm (nI sn) (nI (i + 1)) (nI lz) (nI az) (nI na) (nI nt) (nI nr) mw ml mk dq)), (r 9, .inl ((cT 0), 1400, .inl g9_29))] := hD
        refine lv_iinc (k := 0) (v := nI (i + 1)) (lv' := [(3, .int (nI (i + 1))), (2, .int (nI tx)), (0, .ref mo), (1, .int (nI st))]) hx hb d_Md_keyed_75 hl rfl (nI_1 i) (by decide) rfl (fun ls hl => ?_)
        refine lv_goto (tgt := 37) hx hb d_Md_keyed_78 (by decide) ?_
        have hl := lv_sub hl [0, 1, 2, 3] (show _ = [(3, .int (nI (i + 1))), (2, .int (nI tx)), (0, .ref mo), (1, .int (nI st))] from rfl)
        have hP := hP.sub (ws' := [(mo, .inr (12, mdG r cd tm (nI sn) (nI (i + 1)) (nI lz) (nI az) (nI na) (nI nt) (nI nr) mw ml mk dq)), (r 9, .inl ((cT 0), 1400, .inl g9_29)), (r 12, .inl ((cT 0), 1200, .inl g12_1)), (r 3, .inl ((cT 0), 160, .inl f3)), (r 4, .inl ((cT 0), 4, .inl f4)), (r 0, .inl ((cT 1), 64, .inr (.inl f0))), (r 11, .inl ((cT 0), 16, .inl f11))]) [5, 6, 0, 1, 2, 3, 4] rfl
        have hD := hD.sub (ws' := [(mo, .inr (12, mdG r cd tm (nI sn) (nI (i + 1)) (nI lz) (nI az) (nI na) (nI nt) (nI nr) mw ml mk dq)), (r 9, .inl ((cT 0), 1400, .inl g9_29)), (r 12, .inl ((cT 0), 1200, .inl g12_1)), (r 3, .inl ((cT 0), 160, .inl f3)), (r 4, .inl ((cT 0), 4, .inl f4)), (r 0, .inl ((cT 1), 64, .inr (.inl f0))), (r 11, .inl ((cT 0), 16, .inl f11))]) [5, 6, 0, 1, 2, 3, 4] (by decide) rfl
        exact ih (i + 1) _ _ _ _ (by omega)  hP hD hS hl
  refine L10 _ (fun g9_9 H locs ls  hP hD hS hl => ?_) (64 - 0) 0 f9 H _ ls (by omega)  hP hD hS hl
  refine lv_iconst (v := 0) hx hb d_Md_keyed_81 (by decide) ?_
  refine lv_istore_n (lv' := [(3, .int 0), (2, .int (nI tx)), (0, .ref mo), (1, .int (nI st))]) hx hb d_Md_keyed_82 rfl hl (by decide) rfl (fun ls hl => ?_)
  have hl := lv_sub hl [0, 1, 2, 3] (show _ = [(3, .int 0), (2, .int (nI tx)), (0, .ref mo), (1, .int (nI st))] from rfl)
  have L32 : ∀ (Q : State → Prop) (exit : ∀ (g9_31 : Nat → Int32) (H : Heap) (locs : List Loc) (ls : Array Slot), va_P (dC, dI) vcl [(mo, .inr (12, mdG r cd tm (nI sn) (nI (64 + tx)) (nI lz) (nI az) (nI na) (nI nt) (nI nr) mw ml mk dq)), (r 9, .inl ((cT 0), 1400, .inl g9_31)), (r 12, .inl ((cT 0), 1200, .inl g12_1)), (r 3, .inl ((cT 0), 160, .inl f3)), (r 4, .inl ((cT 0), 4, .inl f4)), (r 0, .inl ((cT 1), 64, .inr (.inl f0))), (r 11, .inl ((cT 0), 16, .inl f11))] H → va_D A [(mo, .inr (12, mdG r cd tm (nI sn) (nI (64 + tx)) (nI lz) (nI az) (nI na) (nI nt) (nI nr) mw ml mk dq)), (r 9, .inl ((cT 0), 1400, .inl g9_31)), (r 12, .inl ((cT 0), 1200, .inl g12_1)), (r 3, .inl ((cT 0), 160, .inl f3)), (r 4, .inl ((cT 0), 4, .inl f4)), (r 0, .inl ((cT 1), 64, .inr (.inl f0))), (r 11, .inl ((cT 0), 16, .inl f11))] → va_S A s.heap H locs → lv_has ls 4 [(3, .int (nI tx)), (2, .int (nI tx)), (0, .ref mo), (1, .int (nI st))] → W p l e ({ frames := 2, cells := 0, slots := 0, locals := 69 } : Room) s m args below meth c H locs 0 0 Q (F0 m 104 ls [])) (j8 i : Nat) (g9_31 : Nat → Int32) (H : Heap) (locs : List Loc) (ls : Array Slot), i + j8 = tx → va_P (dC, dI) vcl [(mo, .inr (12, mdG r cd tm (nI sn) (nI (64 + i)) (nI lz) (nI az) (nI na) (nI nt) (nI nr) mw ml mk dq)), (r 9, .inl ((cT 0), 1400, .inl g9_31)), (r 12, .inl ((cT 0), 1200, .inl g12_1)), (r 3, .inl ((cT 0), 160, .inl f3)), (r 4, .inl ((cT 0), 4, .inl f4)), (r 0, .inl ((cT 1), 64, .inr (.inl f0))), (r 11, .inl ((cT 0), 16, .inl f11))] H → va_D A [(mo, .inr (12, mdG r cd tm (nI sn) (nI (64 + i)) (nI lz) (nI az) (nI na) (nI nt) (nI nr) mw ml mk dq)), (r 9, .inl ((cT 0), 1400, .inl g9_31)), (r 12, .inl ((cT 0), 1200, .inl g12_1)), (r 3, .inl ((cT 0), 160, .inl f3)), (r 4, .inl ((cT 0), 4, .inl f4)), (r 0, .inl ((cT 1), 64, .inr (.inl f0))), (r 11, .inl ((cT 0), 16, .inl f11))] → va_S A s.heap H locs → lv_has ls 4 [(3, .int (nI i)), (2, .int (nI tx)), (0, .ref mo), (1, .int (nI st))] → W p l e ({ frames := 2, cells := 0, slots := 0, locals := 69 } : Room) s m args below meth c H locs 0 0 Q (F0 m 83 ls []) := by
    intro Q exit j8
    induction j8 with
    | zero => 
      intro i g9_31 H locs ls hij  hP hD hS hl
      have hij : tx = i := by omega
      refine lv_iload_n hx hb d_Md_keyed_83 rfl (lv_at hl 0 rfl) ?_
      refine lv_iload_n hx hb d_Md_keyed_84 rfl (lv_at hl 1 rfl) ?_
      refine lv_icmp_ge (tgt := 104) hx hb d_Md_keyed_85 (by decide) (fun hc33 => ?_) (fun hn9 => absurd (nI_le (by omega) (by omega)) hn9)
      subst hij
      exact exit g9_31 _ _ _  hP hD hS hl
    | succ j8 ih => 
      intro i g9_31 H locs ls hij  hP hD hS hl
      have hlt : i < tx := by omega
      have hlti := hlt
      refine lv_iload_n hx hb d_Md_keyed_83 rfl (lv_at hl 0 rfl) ?_
      refine lv_iload_n hx hb d_Md_keyed_84 rfl (lv_at hl 1 rfl) ?_
      refine lv_icmp_ge (tgt := 104) hx hb d_Md_keyed_85 (by decide) (fun hn9 => absurd hn9 (nI_ge (by omega) (by omega))) (fun hc34 => ?_)
      refine lv_aload_n hx hb d_Md_keyed_88 rfl (lv_at hl 2 rfl) ?_
      refine lv_aload_n hx hb d_Md_keyed_89 rfl (lv_at hl 2 rfl) ?_
      refine va_get (D := (dC, dI)) (ci := 12) (v := (.ref (r 12))) (C := R_Md) (T := F_Md) (N := 45) hx hb hg in_Md hown hK hP 0 rfl rfl 12 (by decide) (hg _ k_1032) (fun _ h9 => h9) rfl d_Md_keyed_90 ?_
      refine lv_iload_n hx hb d_Md_keyed_93 rfl (lv_at hl 0 rfl) ?_
      refine va_iald hx hb hK hP 2 0 rfl rfl (i := (nI i)) (vp_in_nI (N := 1200) (by omega) (by decide)) d_Md_keyed_94 ?_
      refine lv_topi (fun x35 e_x35 => ?_)
      clear e_x35
      have hPc := hP.sub (ws' := [(mo, .inr (12, mdG r cd tm (nI sn) (nI (64 + i)) (nI lz) (nI az) (nI na) (nI nt) (nI nr) mw ml mk dq)), (r 9, .inl ((cT 0), 1400, .inl g9_31))]) [0, 1] rfl
      have hDc := hD.sub (ws' := [(mo, .inr (12, mdG r cd tm (nI sn) (nI (64 + i)) (nI lz) (nI az) (nI na) (nI nt) (nI nr) mw ml mk dq)), (r 9, .inl ((cT 0), 1400, .inl g9_31))]) [0, 1] (by decide) rfl
      have hFc := va_free (wc := [(mo, .inr (12, mdG r cd tm (nI sn) (nI (64 + i)) (nI lz) (nI az) (nI na) (nI nt) (nI nr) mw ml mk dq)), (r 9, .inl ((cT 0), 1400, .inl g9_31))]) hD hS hA [0, 1] rfl
      refine va_callv (va_runV (C := "DoorServerModel") (As := [.int x35]) (rest := []) ⟨hx, hb, hml, hown, hg⟩ (m_say l dC dI cT H.size mo r cd tm sn (64 + i) lz az na nt nr mw ml mk dq g9_31 x35 (by first | assumption | omega)) (cwV 1 hg (gI (List.forall_mem_append.mpr ⟨List.forall_mem_cons.mpr ⟨k_1220, List.forall_mem_cons.mpr ⟨k_1222, List.forall_mem_cons.mpr ⟨(big_sel (q := y_Md_say) (n := 45) (by decide +kernel)), List.forall_mem_cons.mpr ⟨k_13, fun _ h => absurd h List.not_mem_nil⟩⟩⟩⟩, List.forall_mem_cons.mpr ⟨k_1223, fun _ h => h⟩⟩)) rfl rfl rfl (by decide +kernel) ⟨Nat.le_of_ble_eq_true rfl, Nat.le_of_ble_eq_true rfl⟩) ⟨fun a U g mk q => by obtain ⟨q0, q1, qP, qK, qD⟩ := q; exact ⟨q0, q1, qP, va_K.moved (u := U) (U := U.calling g mk a) (Vm.Alike.refl U.vm) qK, qD⟩, va_recv (q0 := 0) (ci := 12) hK hP rfl rfl, fun U hU hW => ⟨rfl, by rw [hU], by rw [hU]; exact hPc, va_K.moved hW.alike hK, hDc.weaken (fun _ _ _ _ => trivial)⟩⟩ rfl rfl hl.1 rfl (lv_room (Nat.le_of_ble_eq_true rfl)) d_Md_keyed_95 ⟨Nat.le_of_ble_eq_true rfl, Nat.le_of_ble_eq_true rfl⟩) hS (fun q _ h => hFc q h) hFc (fun u t H1 locs ht hvm hw hB hz1 hk1 hS => ?_)
      obtain ⟨g9_36, rfl⟩ : ∃ z, z = u := ⟨_, rfl⟩
      try dsimp only at hw hB
      obtain ⟨hP1, hK1, hD1⟩ := hB
      rw [ht] at hP1
      obtain ⟨hP, hD⟩ := va_join (wr := [(r 12, .inl ((cT 0), 1200, .inl g12_1)), (r 3, .inl ((cT 0), 160, .inl f3)), (r 4, .inl ((cT 0), 4, .inl f4)), (r 0, .inl ((cT 1), 64, .inr (.inl f0))), (r 11, .inl ((cT 0), 16, .inl f11))]) (w1 := [(mo, .inr (12, mdG r cd tm (nI sn) (nI ((64 + i) + 1)) (nI lz) (nI az) (nI na) (nI nt) (nI nr) mw ml mk dq)), (r 9, .inl ((cT 0), 1400, .inl g9_36))]) hP hD [0, 1] [2, 3, 4, 5, 6] rfl rfl (by decide) (by decide) hk1 hFc hP1 hD1
      have hw37 := hw
      clear hPc hDc hFc hz1 hk1 hP1 hK1 hD1
      generalize H1 = H at hP hS ⊢
      have hP : va_P (dC, dI) vcl [(r 12, .inl ((cT 0), 1200, .inl g12_1)), (r 3, .inl ((cT 0), 160, .inl f3)), (r 4, .inl ((cT 0), 4, .inl f4)), (r 0, .inl ((cT 1), 64, .inr (.inl f0))), (r 11, .inl ((cT 0), 16, .inl f11)), (mo, .inr (12, mdG r cd tm (nI sn) (nI ((64 + i) + 1)) (nI lz) (nI az) (nI na) (nI nt) (nI nr) mw ml mk dq)), (r 9, .inl ((cT 0), 1400, .inl g9_36))] H := hP
      have hD : va_D A [(r 12, .inl ((cT 0), 1200, .inl g12_1)), (r 3, .inl ((cT 0), 160, .inl f3)), (r 4, .inl ((cT 0), 4, .inl f4)), (r 0, .inl ((cT 1), 64, .inr (.inl f0))), (r 11, .inl ((cT 0), 16, .inl f11)), (mo, .inr (12, mdG r cd tm (nI sn) (nI ((64 + i) + 1)) (nI lz) (nI az) (nI na) (nI nt) (nI nr) mw ml mk dq)), (r 9, .inl ((cT 0), 1400, .inl g9_36))] := hD
      refine lv_iinc (k := 0) (v := nI (i + 1)) (lv' := [(3, .int (nI (i + 1))), (2, .int (nI tx)), (0, .ref mo), (1, .int (nI st))]) hx hb d_Md_keyed_98 hl rfl (nI_1 i) (by decide) rfl (fun ls hl => ?_)
      refine lv_goto (tgt := 83) hx hb d_Md_keyed_101 (by decide) ?_
      have hl := lv_sub hl [0, 1, 2, 3] (show _ = [(3, .int (nI (i + 1))), (2, .int (nI tx)), (0, .ref mo), (1, .int (nI st))] from rfl)
      have hP := hP.sub (ws' := [(mo, .inr (12, mdG r cd tm (nI sn) (nI ((64 + i) + 1)) (nI lz) (nI az) (nI na) (nI nt) (nI nr) mw ml mk dq)), (r 9, .inl ((cT 0), 1400, .inl g9_36)), (r 12, .inl ((cT 0), 1200, .inl g12_1)), (r 3, .inl ((cT 0), 160, .inl f3)), (r 4, .inl ((cT 0), 4, .inl f4)), (r 0, .inl ((cT 1), 64, .inr (.inl f0))), (r 11, .inl ((cT 0), 16, .inl f11))]) [5, 6, 0, 1, 2, 3, 4] rfl
      have hD := hD.sub (ws' := [(mo, .inr (12, mdG r cd tm (nI sn) (nI ((64 + i) + 1)) (nI lz) (nI az) (nI na) (nI nt) (nI nr) mw ml mk dq)), (r 9, .inl ((cT 0), 1400, .inl g9_36)), (r 12, .inl ((cT 0), 1200, .inl g12_1)), (r 3, .inl ((cT 0), 160, .inl f3)), (r 4, .inl ((cT 0), 4, .inl f4)), (r 0, .inl ((cT 1), 64, .inr (.inl f0))), (r 11, .inl ((cT 0), 16, .inl f11))]) [5, 6, 0, 1, 2, 3, 4] (by decide) rfl
      exact ih (i + 1) _ _ _ _ (by omega)  hP hD hS hl
  refine L32 _ (fun g9_31 H locs ls  hP hD hS hl => ?_) (tx - 0) 0 g9_9 H _ ls (by omega)  hP hD hS hl
  refine lv_aload_n hx hb d_Md_keyed_104 rfl (lv_at hl 2 rfl) ?_
  have hPc := hP.sub (ws' := [(mo, .inr (12, mdG r cd tm (nI sn) (nI (64 + tx)) (nI lz) (nI az) (nI na) (nI nt) (nI nr) mw ml mk dq)), (r 9, .inl ((cT 0), 1400, .inl g9_31)), (r 0, .inl ((cT 1), 64, .inr (.inl f0))), (r 11, .inl ((cT 0), 16, .inl f11))]) [0, 1, 5, 6] rfl
  have hDc := hD.sub (ws' := [(mo, .inr (12, mdG r cd tm (nI sn) (nI (64 + tx)) (nI lz) (nI az) (nI na) (nI nt) (nI nr) mw ml mk dq)), (r 9, .inl ((cT 0), 1400, .inl g9_31)), (r 0, .inl ((cT 1), 64, .inr (.inl f0))), (r 11, .inl ((cT 0), 16, .inl f11))]) [0, 1, 5, 6] (by decide) rfl
  have hFc := va_free (wc := [(mo, .inr (12, mdG r cd tm (nI sn) (nI (64 + tx)) (nI lz) (nI az) (nI na) (nI nt) (nI nr) mw ml mk dq)), (r 9, .inl ((cT 0), 1400, .inl g9_31)), (r 0, .inl ((cT 1), 64, .inr (.inl f0))), (r 11, .inl ((cT 0), 16, .inl f11))]) hD hS hA [0, 1, 5, 6] rfl
  refine va_callv (va_runV (C := "DoorServerModel") (As := []) (rest := []) ⟨hx, hb, hml, hown, hg⟩ (m_md5 l dC dI cT H.size mo r cd tm sn (64 + tx) lz az na nt nr mw ml mk dq g9_31 f0 f11 (by first | assumption | omega) (by first | assumption | omega)) (cwV 0 hg (gI (List.forall_mem_append.mpr ⟨List.forall_mem_cons.mpr ⟨k_1224, List.forall_mem_cons.mpr ⟨k_1226, List.forall_mem_cons.mpr ⟨(big_sel (q := y_Md_md5) (n := 45) (by decide +kernel)), List.forall_mem_cons.mpr ⟨k_13, fun _ h => absurd h List.not_mem_nil⟩⟩⟩⟩, List.forall_mem_cons.mpr ⟨k_1227, fun _ h => h⟩⟩)) rfl rfl rfl (by decide +kernel) ⟨Nat.le_of_ble_eq_true rfl, Nat.le_of_ble_eq_true rfl⟩) ⟨fun a U g mk q => by obtain ⟨q0, q1, qP, qK, qD⟩ := q; exact ⟨q0, q1, qP, va_K.moved (u := U) (U := U.calling g mk a) (Vm.Alike.refl U.vm) qK, qD⟩, va_recv (q0 := 0) (ci := 12) hK hP rfl rfl, fun U hU hW => ⟨rfl, by rw [hU], by rw [hU]; exact hPc, va_K.moved hW.alike hK, hDc.weaken (fun _ _ _ _ => trivial)⟩⟩ rfl rfl hl.1 rfl (lv_room (Nat.le_of_ble_eq_true rfl)) d_Md_keyed_105 ⟨Nat.le_of_ble_eq_true rfl, Nat.le_of_ble_eq_true rfl⟩) hS (fun q _ h => hFc q h) hFc (fun u t H1 locs ht hvm hw hB hz1 hk1 hS => ?_)
  obtain ⟨g9_38, g11_39⟩ := u
  try dsimp only at hw hB
  obtain ⟨hP1, hK1, hD1⟩ := hB
  rw [ht] at hP1
  obtain ⟨hP, hD⟩ := va_join (wr := [(r 12, .inl ((cT 0), 1200, .inl g12_1)), (r 3, .inl ((cT 0), 160, .inl f3)), (r 4, .inl ((cT 0), 4, .inl f4))]) (w1 := [(mo, .inr (12, mdG r cd tm (nI sn) (nI 0) (nI lz) (nI az) (nI na) (nI nt) (nI nr) mw ml mk dq)), (r 9, .inl ((cT 0), 1400, .inl g9_38)), (r 0, .inl ((cT 1), 64, .inr (.inl f0))), (r 11, .inl ((cT 0), 16, .inl g11_39))]) hP hD [0, 1, 5, 6] [2, 3, 4] rfl rfl (by decide) (by decide) hk1 hFc hP1 hD1
  have hw40 := hw
  clear hPc hDc hFc hz1 hk1 hP1 hK1 hD1
  generalize H1 = H at hP hS ⊢
  have hP : va_P (dC, dI) vcl [(r 12, .inl ((cT 0), 1200, .inl g12_1)), (r 3, .inl ((cT 0), 160, .inl f3)), (r 4, .inl ((cT 0), 4, .inl f4)), (mo, .inr (12, mdG r cd tm (nI sn) (nI 0) (nI lz) (nI az) (nI na) (nI nt) (nI nr) mw ml mk dq)), (r 9, .inl ((cT 0), 1400, .inl g9_38)), (r 0, .inl ((cT 1), 64, .inr (.inl f0))), (r 11, .inl ((cT 0), 16, .inl g11_39))] H := hP
  have hD : va_D A [(r 12, .inl ((cT 0), 1200, .inl g12_1)), (r 3, .inl ((cT 0), 160, .inl f3)), (r 4, .inl ((cT 0), 4, .inl f4)), (mo, .inr (12, mdG r cd tm (nI sn) (nI 0) (nI lz) (nI az) (nI na) (nI nt) (nI nr) mw ml mk dq)), (r 9, .inl ((cT 0), 1400, .inl g9_38)), (r 0, .inl ((cT 1), 64, .inr (.inl f0))), (r 11, .inl ((cT 0), 16, .inl g11_39))] := hD
  have k41 := hw40
  refine lv_iconst (v := 0) hx hb d_Md_keyed_108 (by decide) ?_
  refine lv_istore_n (lv' := [(3, .int 0), (2, .int (nI tx)), (0, .ref mo), (1, .int (nI st))]) hx hb d_Md_keyed_109 rfl hl (by decide) rfl (fun ls hl => ?_)
  have hl := lv_sub hl [0, 1, 2, 3] (show _ = [(3, .int 0), (2, .int (nI tx)), (0, .ref mo), (1, .int (nI st))] from rfl)
  have L43 : ∀ (Q : State → Prop) (exit : ∀ (g9_42 : Nat → Int32) (H : Heap) (locs : List Loc) (ls : Array Slot), va_P (dC, dI) vcl [(r 12, .inl ((cT 0), 1200, .inl g12_1)), (r 3, .inl ((cT 0), 160, .inl f3)), (r 4, .inl ((cT 0), 4, .inl f4)), (mo, .inr (12, mdG r cd tm (nI sn) (nI (64)) (nI lz) (nI az) (nI na) (nI nt) (nI nr) mw ml mk dq)), (r 9, .inl ((cT 0), 1400, .inl g9_42)), (r 0, .inl ((cT 1), 64, .inr (.inl f0))), (r 11, .inl ((cT 0), 16, .inl g11_39))] H → va_D A [(r 12, .inl ((cT 0), 1200, .inl g12_1)), (r 3, .inl ((cT 0), 160, .inl f3)), (r 4, .inl ((cT 0), 4, .inl f4)), (mo, .inr (12, mdG r cd tm (nI sn) (nI (64)) (nI lz) (nI az) (nI na) (nI nt) (nI nr) mw ml mk dq)), (r 9, .inl ((cT 0), 1400, .inl g9_42)), (r 0, .inl ((cT 1), 64, .inr (.inl f0))), (r 11, .inl ((cT 0), 16, .inl g11_39))] → va_S A s.heap H locs → lv_has ls 4 [(3, .int (nI 64)), (2, .int (nI tx)), (0, .ref mo), (1, .int (nI st))] → W p l e ({ frames := 2, cells := 0, slots := 0, locals := 69 } : Room) s m args below meth c H locs 0 0 Q (F0 m 154 ls [])) (j8 i : Nat) (g9_42 : Nat → Int32) (H : Heap) (locs : List Loc) (ls : Array Slot), i + j8 = 64 → va_P (dC, dI) vcl [(r 12, .inl ((cT 0), 1200, .inl g12_1)), (r 3, .inl ((cT 0), 160, .inl f3)), (r 4, .inl ((cT 0), 4, .inl f4)), (mo, .inr (12, mdG r cd tm (nI sn) (nI (i)) (nI lz) (nI az) (nI na) (nI nt) (nI nr) mw ml mk dq)), (r 9, .inl ((cT 0), 1400, .inl g9_42)), (r 0, .inl ((cT 1), 64, .inr (.inl f0))), (r 11, .inl ((cT 0), 16, .inl g11_39))] H → va_D A [(r 12, .inl ((cT 0), 1200, .inl g12_1)), (r 3, .inl ((cT 0), 160, .inl f3)), (r 4, .inl ((cT 0), 4, .inl f4)), (mo, .inr (12, mdG r cd tm (nI sn) (nI (i)) (nI lz) (nI az) (nI na) (nI nt) (nI nr) mw ml mk dq)), (r 9, .inl ((cT 0), 1400, .inl g9_42)), (r 0, .inl ((cT 1), 64, .inr (.inl f0))), (r 11, .inl ((cT 0), 16, .inl g11_39))] → va_S A s.heap H locs → lv_has ls 4 [(3, .int (nI i)), (2, .int (nI tx)), (0, .ref mo), (1, .int (nI st))] → W p l e ({ frames := 2, cells := 0, slots := 0, locals := 69 } : Room) s m args below meth c H locs 0 0 Q (F0 m 110 ls []) := by
    intro Q exit j8
    induction j8 with
    | zero => 
      intro i g9_42 H locs ls hij  hP hD hS hl
      have hij : 64 = i := by omega
      refine lv_iload_n hx hb d_Md_keyed_110 rfl (lv_at hl 0 rfl) ?_
      refine lv_bipush (v := 64) hx hb d_Md_keyed_111 (by decide) ?_
      refine lv_topi (fun x45 e44 => ?_)
      obtain rfl : x45 = nI 64 := by rw [e44]; rfl
      refine lv_icmp_ge (tgt := 154) hx hb d_Md_keyed_113 (by decide) (fun hc46 => ?_) (fun hn9 => absurd (nI_le (by omega) (by omega)) hn9)
      subst hij
      exact exit g9_42 _ _ _  hP hD hS hl
    | succ j8 ih => 
      intro i g9_42 H locs ls hij  hP hD hS hl
      have hlt : i < 64 := by omega
      have hlti := hlt
      refine lv_iload_n hx hb d_Md_keyed_110 rfl (lv_at hl 0 rfl) ?_
      refine lv_bipush (v := 64) hx hb d_Md_keyed_111 (by decide) ?_
      refine lv_topi (fun x48 e47 => ?_)
      obtain rfl : x48 = nI 64 := by rw [e47]; rfl
      refine lv_icmp_ge (tgt := 154) hx hb d_Md_keyed_113 (by decide) (fun hn9 => absurd hn9 (nI_ge (by omega) (by omega))) (fun hc49 => ?_)
      refine lv_aload_n hx hb d_Md_keyed_116 rfl (lv_at hl 2 rfl) ?_
      refine lv_iload_n hx hb d_Md_keyed_117 rfl (lv_at hl 0 rfl) ?_
      refine lv_aload_n hx hb d_Md_keyed_118 rfl (lv_at hl 2 rfl) ?_
      refine va_get (D := (dC, dI)) (ci := 12) (v := (.ref (r 4))) (C := R_Md) (T := F_Md) (N := 45) hx hb hg in_Md hown hK hP 3 rfl rfl 4 (by decide) (hg _ k_1024) (fun _ h9 => h9) rfl d_Md_keyed_119 ?_
      refine lv_iload_n hx hb d_Md_keyed_122 rfl (lv_at hl 3 rfl) ?_
      refine va_iald hx hb hK hP 2 0 rfl rfl (i := (nI st)) (vp_in_nI (N := 4) hst (by decide)) d_Md_keyed_123 ?_
      refine lv_topi (fun x51 e50 => ?_)
      obtain rfl : x51 = nI sl := by rw [e50]; rw [nI_clamp (by omega)]; exact hfz
      refine lv_icmp_ge (tgt := 141) hx hb d_Md_keyed_124 (by decide) (fun hc52 => ?_) (fun hc52 => ?_)
      · skip
        have n53 : sl ≤ i := (nI_leI (a := sl) (b := i) (by omega) (by omega)).mp hc52
        refine lv_iconst (v := 0) hx hb d_Md_keyed_141 (by decide) ?_
        refine lv_bipush (v := 92) hx hb d_Md_keyed_142 (by decide) ?_
        refine lv_ixor hx hb d_Md_keyed_144 ?_
        have hPc := hP.sub (ws' := [(mo, .inr (12, mdG r cd tm (nI sn) (nI i) (nI lz) (nI az) (nI na) (nI nt) (nI nr) mw ml mk dq)), (r 9, .inl ((cT 0), 1400, .inl g9_42))]) [3, 4] rfl
        have hDc := hD.sub (ws' := [(mo, .inr (12, mdG r cd tm (nI sn) (nI i) (nI lz) (nI az) (nI na) (nI nt) (nI nr) mw ml mk dq)), (r 9, .inl ((cT 0), 1400, .inl g9_42))]) [3, 4] (by decide) rfl
        have hFc := va_free (wc := [(mo, .inr (12, mdG r cd tm (nI sn) (nI i) (nI lz) (nI az) (nI na) (nI nt) (nI nr) mw ml mk dq)), (r 9, .inl ((cT 0), 1400, .inl g9_42))]) hD hS hA [3, 4] rfl
        refine va_callv (va_runV (C := "DoorServerModel") (As := [.int (0 ^^^ 92)]) (rest := []) ⟨hx, hb, hml, hown, hg⟩ (m_say l dC dI cT H.size mo r cd tm sn i lz az na nt nr mw ml mk dq g9_42 (0 ^^^ 92) (by first | assumption | omega)) (cwV 1 hg (gI (List.forall_mem_append.mpr ⟨List.forall_mem_cons.mpr ⟨k_1220, List.forall_mem_cons.mpr ⟨k_1222, List.forall_mem_cons.mpr ⟨(big_sel (q := y_Md_say) (n := 45) (by decide +kernel)), List.forall_mem_cons.mpr ⟨k_13, fun _ h => absurd h List.not_mem_nil⟩⟩⟩⟩, List.forall_mem_cons.mpr ⟨k_1223, fun _ h => h⟩⟩)) rfl rfl rfl (by decide +kernel) ⟨Nat.le_of_ble_eq_true rfl, Nat.le_of_ble_eq_true rfl⟩) ⟨fun a U g mk q => by obtain ⟨q0, q1, qP, qK, qD⟩ := q; exact ⟨q0, q1, qP, va_K.moved (u := U) (U := U.calling g mk a) (Vm.Alike.refl U.vm) qK, qD⟩, va_recv (q0 := 3) (ci := 12) hK hP rfl rfl, fun U hU hW => ⟨rfl, by rw [hU], by rw [hU]; exact hPc, va_K.moved hW.alike hK, hDc.weaken (fun _ _ _ _ => trivial)⟩⟩ rfl rfl hl.1 rfl (lv_room (Nat.le_of_ble_eq_true rfl)) d_Md_keyed_145 ⟨Nat.le_of_ble_eq_true rfl, Nat.le_of_ble_eq_true rfl⟩) hS (fun q _ h => hFc q h) hFc (fun u t H1 locs ht hvm hw hB hz1 hk1 hS => ?_)
        obtain ⟨g9_55, rfl⟩ : ∃ z, z = u := ⟨_, rfl⟩
        try dsimp only at hw hB
        obtain ⟨hP1, hK1, hD1⟩ := hB
        rw [ht] at hP1
        obtain ⟨hP, hD⟩ := va_join (wr := [(r 12, .inl ((cT 0), 1200, .inl g12_1)), (r 3, .inl ((cT 0), 160, .inl f3)), (r 4, .inl ((cT 0), 4, .inl f4)), (r 0, .inl ((cT 1), 64, .inr (.inl f0))), (r 11, .inl ((cT 0), 16, .inl g11_39))]) (w1 := [(mo, .inr (12, mdG r cd tm (nI sn) (nI (i + 1)) (nI lz) (nI az) (nI na) (nI nt) (nI nr) mw ml mk dq)), (r 9, .inl ((cT 0), 1400, .inl g9_55))]) hP hD [3, 4] [0, 1, 2, 5, 6] rfl rfl (by decide) (by decide) hk1 hFc hP1 hD1
        have hw56 := hw
        clear hPc hDc hFc hz1 hk1 hP1 hK1 hD1
        generalize H1 = H at hP hS ⊢
        have hP : va_P (dC, dI) vcl [(r 12, .inl ((cT 0), 1200, .inl g12_1)), (r 3, .inl ((cT 0), 160, .inl f3)), (r 4, .inl ((cT 0), 4, .inl f4)), (r 0, .inl ((cT 1), 64, .inr (.inl f0))), (r 11, .inl ((cT 0), 16, .inl g11_39)), (mo, .inr (12, mdG r cd tm (nI sn) (nI (i + 1)) (nI lz) (nI az) (nI na) (nI nt) (nI nr) mw ml mk dq)), (r 9, .inl ((cT 0), 1400, .inl g9_55))] H := hP
        have hD : va_D A [(r 12, .inl ((cT 0), 1200, .inl g12_1)), (r 3, .inl ((cT 0), 160, .inl f3)), (r 4, .inl ((cT 0), 4, .inl f4)), (r 0, .inl ((cT 1), 64, .inr (.inl f0))), (r 11, .inl ((cT 0), 16, .inl g11_39)), (mo, .inr (12, mdG r cd tm (nI sn) (nI (i + 1)) (nI lz) (nI az) (nI na) (nI nt) (nI nr) mw ml mk dq)), (r 9, .inl ((cT 0), 1400, .inl g9_55))] := hD
        refine lv_iinc (k := 0) (v := nI (i + 1)) (lv' := [(3, .int (nI (i + 1))), (2, .int (nI tx)), (0, .ref mo), (1, .int (nI st))]) hx hb d_Md_keyed_148 hl rfl (nI_1 i) (by decide) rfl (fun ls hl => ?_)
        refine lv_goto (tgt := 110) hx hb d_Md_keyed_151 (by decide) ?_
        have hl := lv_sub hl [0, 1, 2, 3] (show _ = [(3, .int (nI (i + 1))), (2, .int (nI tx)), (0, .ref mo), (1, .int (nI st))] from rfl)
        have hP := hP.sub (ws' := [(r 12, .inl ((cT 0), 1200, .inl g12_1)), (r 3, .inl ((cT 0), 160, .inl f3)), (r 4, .inl ((cT 0), 4, .inl f4)), (mo, .inr (12, mdG r cd tm (nI sn) (nI (i + 1)) (nI lz) (nI az) (nI na) (nI nt) (nI nr) mw ml mk dq)), (r 9, .inl ((cT 0), 1400, .inl g9_55)), (r 0, .inl ((cT 1), 64, .inr (.inl f0))), (r 11, .inl ((cT 0), 16, .inl g11_39))]) [0, 1, 2, 5, 6, 3, 4] rfl
        have hD := hD.sub (ws' := [(r 12, .inl ((cT 0), 1200, .inl g12_1)), (r 3, .inl ((cT 0), 160, .inl f3)), (r 4, .inl ((cT 0), 4, .inl f4)), (mo, .inr (12, mdG r cd tm (nI sn) (nI (i + 1)) (nI lz) (nI az) (nI na) (nI nt) (nI nr) mw ml mk dq)), (r 9, .inl ((cT 0), 1400, .inl g9_55)), (r 0, .inl ((cT 1), 64, .inr (.inl f0))), (r 11, .inl ((cT 0), 16, .inl g11_39))]) [0, 1, 2, 5, 6, 3, 4] (by decide) rfl
        exact ih (i + 1) _ _ _ _ (by omega)  hP hD hS hl
      · skip
        have n54 : i < sl := Nat.not_le.mp (fun h7 => hc52 ((nI_leI (a := sl) (b := i) (by omega) (by omega)).mpr h7))
        refine lv_aload_n hx hb d_Md_keyed_127 rfl (lv_at hl 2 rfl) ?_
        refine va_get (D := (dC, dI)) (ci := 12) (v := (.ref (r 3))) (C := R_Md) (T := F_Md) (N := 45) hx hb hg in_Md hown hK hP 3 rfl rfl 3 (by decide) (hg _ k_1023) (fun _ h9 => h9) rfl d_Md_keyed_128 ?_
        refine lv_bipush (v := 40) hx hb d_Md_keyed_131 (by decide) ?_
        refine lv_iload_n hx hb d_Md_keyed_133 rfl (lv_at hl 3 rfl) ?_
        refine lv_imul hx hb d_Md_keyed_134 ?_
        refine lv_topi (fun x58 e57 => ?_)
        obtain rfl : x58 = nI (40 * st) := by rw [e57]; exact pk_mul 40 st
        refine lv_iload_n hx hb d_Md_keyed_135 rfl (lv_at hl 0 rfl) ?_
        refine lv_iadd hx hb d_Md_keyed_136 ?_
        refine lv_topi (fun x60 e59 => ?_)
        obtain rfl : x60 = nI ((40 * st) + i) := by rw [e59]; exact nI_add (40 * st) i
        refine va_iald hx hb hK hP 1 0 rfl rfl (i := (nI ((40 * st) + i))) (vp_in_nI (N := 160) (by omega) (by decide)) d_Md_keyed_137 ?_
        refine lv_topi (fun x61 e_x61 => ?_)
        clear e_x61
        refine lv_goto (tgt := 142) hx hb d_Md_keyed_138 (by decide) ?_
        refine lv_bipush (v := 92) hx hb d_Md_keyed_142 (by decide) ?_
        refine lv_ixor hx hb d_Md_keyed_144 ?_
        have hPc := hP.sub (ws' := [(mo, .inr (12, mdG r cd tm (nI sn) (nI i) (nI lz) (nI az) (nI na) (nI nt) (nI nr) mw ml mk dq)), (r 9, .inl ((cT 0), 1400, .inl g9_42))]) [3, 4] rfl
        have hDc := hD.sub (ws' := [(mo, .inr (12, mdG r cd tm (nI sn) (nI i) (nI lz) (nI az) (nI na) (nI nt) (nI nr) mw ml mk dq)), (r 9, .inl ((cT 0), 1400, .inl g9_42))]) [3, 4] (by decide) rfl
        have hFc := va_free (wc := [(mo, .inr (12, mdG r cd tm (nI sn) (nI i) (nI lz) (nI az) (nI na) (nI nt) (nI nr) mw ml mk dq)), (r 9, .inl ((cT 0), 1400, .inl g9_42))]) hD hS hA [3, 4] rfl
        refine va_callv (va_runV (C := "DoorServerModel") (As := [.int (x61 ^^^ 92)]) (rest := []) ⟨hx, hb, hml, hown, hg⟩ (m_say l dC dI cT H.size mo r cd tm sn i lz az na nt nr mw ml mk dq g9_42 (x61 ^^^ 92) (by first | assumption | omega)) (cwV 1 hg (gI (List.forall_mem_append.mpr ⟨List.forall_mem_cons.mpr ⟨k_1220, List.forall_mem_cons.mpr ⟨k_1222, List.forall_mem_cons.mpr ⟨(big_sel (q := y_Md_say) (n := 45) (by decide +kernel)), List.forall_mem_cons.mpr ⟨k_13, fun _ h => absurd h List.not_mem_nil⟩⟩⟩⟩, List.forall_mem_cons.mpr ⟨k_1223, fun _ h => h⟩⟩)) rfl rfl rfl (by decide +kernel) ⟨Nat.le_of_ble_eq_true rfl, Nat.le_of_ble_eq_true rfl⟩) ⟨fun a U g mk q => by obtain ⟨q0, q1, qP, qK, qD⟩ := q; exact ⟨q0, q1, qP, va_K.moved (u := U) (U := U.calling g mk a) (Vm.Alike.refl U.vm) qK, qD⟩, va_recv (q0 := 3) (ci := 12) hK hP rfl rfl, fun U hU hW => ⟨rfl, by rw [hU], by rw [hU]; exact hPc, va_K.moved hW.alike hK, hDc.weaken (fun _ _ _ _ => trivial)⟩⟩ rfl rfl hl.1 rfl (lv_room (Nat.le_of_ble_eq_true rfl)) d_Md_keyed_145 ⟨Nat.le_of_ble_eq_true rfl, Nat.le_of_ble_eq_true rfl⟩) hS (fun q _ h => hFc q h) hFc (fun u t H1 locs ht hvm hw hB hz1 hk1 hS => ?_)
        obtain ⟨g9_62, rfl⟩ : ∃ z, z = u := ⟨_, rfl⟩
        try dsimp only at hw hB
        obtain ⟨hP1, hK1, hD1⟩ := hB
        rw [ht] at hP1
        obtain ⟨hP, hD⟩ := va_join (wr := [(r 12, .inl ((cT 0), 1200, .inl g12_1)), (r 3, .inl ((cT 0), 160, .inl f3)), (r 4, .inl ((cT 0), 4, .inl f4)), (r 0, .inl ((cT 1), 64, .inr (.inl f0))), (r 11, .inl ((cT 0), 16, .inl g11_39))]) (w1 := [(mo, .inr (12, mdG r cd tm (nI sn) (nI (i + 1)) (nI lz) (nI az) (nI na) (nI nt) (nI nr) mw ml mk dq)), (r 9, .inl ((cT 0), 1400, .inl g9_62))]) hP hD [3, 4] [0, 1, 2, 5, 6] rfl rfl (by decide) (by decide) hk1 hFc hP1 hD1
        have hw63 := hw
        clear hPc hDc hFc hz1 hk1 hP1 hK1 hD1
        generalize H1 = H at hP hS ⊢
        have hP : va_P (dC, dI) vcl [(r 12, .inl ((cT 0), 1200, .inl g12_1)), (r 3, .inl ((cT 0), 160, .inl f3)), (r 4, .inl ((cT 0), 4, .inl f4)), (r 0, .inl ((cT 1), 64, .inr (.inl f0))), (r 11, .inl ((cT 0), 16, .inl g11_39)), (mo, .inr (12, mdG r cd tm (nI sn) (nI (i + 1)) (nI lz) (nI az) (nI na) (nI nt) (nI nr) mw ml mk dq)), (r 9, .inl ((cT 0), 1400, .inl g9_62))] H := hP
        have hD : va_D A [(r 12, .inl ((cT 0), 1200, .inl g12_1)), (r 3, .inl ((cT 0), 160, .inl f3)), (r 4, .inl ((cT 0), 4, .inl f4)), (r 0, .inl ((cT 1), 64, .inr (.inl f0))), (r 11, .inl ((cT 0), 16, .inl g11_39)), (mo, .inr (12, mdG r cd tm (nI sn) (nI (i + 1)) (nI lz) (nI az) (nI na) (nI nt) (nI nr) mw ml mk dq)), (r 9, .inl ((cT 0), 1400, .inl g9_62))] := hD
        refine lv_iinc (k := 0) (v := nI (i + 1)) (lv' := [(3, .int (nI (i + 1))), (2, .int (nI tx)), (0, .ref mo), (1, .int (nI st))]) hx hb d_Md_keyed_148 hl rfl (nI_1 i) (by decide) rfl (fun ls hl => ?_)
        refine lv_goto (tgt := 110) hx hb d_Md_keyed_151 (by decide) ?_
        have hl := lv_sub hl [0, 1, 2, 3] (show _ = [(3, .int (nI (i + 1))), (2, .int (nI tx)), (0, .ref mo), (1, .int (nI st))] from rfl)
        have hP := hP.sub (ws' := [(r 12, .inl ((cT 0), 1200, .inl g12_1)), (r 3, .inl ((cT 0), 160, .inl f3)), (r 4, .inl ((cT 0), 4, .inl f4)), (mo, .inr (12, mdG r cd tm (nI sn) (nI (i + 1)) (nI lz) (nI az) (nI na) (nI nt) (nI nr) mw ml mk dq)), (r 9, .inl ((cT 0), 1400, .inl g9_62)), (r 0, .inl ((cT 1), 64, .inr (.inl f0))), (r 11, .inl ((cT 0), 16, .inl g11_39))]) [0, 1, 2, 5, 6, 3, 4] rfl
        have hD := hD.sub (ws' := [(r 12, .inl ((cT 0), 1200, .inl g12_1)), (r 3, .inl ((cT 0), 160, .inl f3)), (r 4, .inl ((cT 0), 4, .inl f4)), (mo, .inr (12, mdG r cd tm (nI sn) (nI (i + 1)) (nI lz) (nI az) (nI na) (nI nt) (nI nr) mw ml mk dq)), (r 9, .inl ((cT 0), 1400, .inl g9_62)), (r 0, .inl ((cT 1), 64, .inr (.inl f0))), (r 11, .inl ((cT 0), 16, .inl g11_39))]) [0, 1, 2, 5, 6, 3, 4] (by decide) rfl
        exact ih (i + 1) _ _ _ _ (by omega)  hP hD hS hl
  refine L43 _ (fun g9_42 H locs ls  hP hD hS hl => ?_) (64 - 0) 0 g9_38 H _ ls (by omega)  hP hD hS hl
  refine lv_iconst (v := 0) hx hb d_Md_keyed_154 (by decide) ?_
  refine lv_istore_n (lv' := [(3, .int 0), (2, .int (nI tx)), (0, .ref mo), (1, .int (nI st))]) hx hb d_Md_keyed_155 rfl hl (by decide) rfl (fun ls hl => ?_)
  have hl := lv_sub hl [0, 1, 2, 3] (show _ = [(3, .int 0), (2, .int (nI tx)), (0, .ref mo), (1, .int (nI st))] from rfl)
  have L65 : ∀ (Q : State → Prop) (exit : ∀ (g9_64 : Nat → Int32) (H : Heap) (locs : List Loc) (ls : Array Slot), va_P (dC, dI) vcl [(r 12, .inl ((cT 0), 1200, .inl g12_1)), (r 3, .inl ((cT 0), 160, .inl f3)), (r 4, .inl ((cT 0), 4, .inl f4)), (mo, .inr (12, mdG r cd tm (nI sn) (nI (64 + 16)) (nI lz) (nI az) (nI na) (nI nt) (nI nr) mw ml mk dq)), (r 9, .inl ((cT 0), 1400, .inl g9_64)), (r 0, .inl ((cT 1), 64, .inr (.inl f0))), (r 11, .inl ((cT 0), 16, .inl g11_39))] H → va_D A [(r 12, .inl ((cT 0), 1200, .inl g12_1)), (r 3, .inl ((cT 0), 160, .inl f3)), (r 4, .inl ((cT 0), 4, .inl f4)), (mo, .inr (12, mdG r cd tm (nI sn) (nI (64 + 16)) (nI lz) (nI az) (nI na) (nI nt) (nI nr) mw ml mk dq)), (r 9, .inl ((cT 0), 1400, .inl g9_64)), (r 0, .inl ((cT 1), 64, .inr (.inl f0))), (r 11, .inl ((cT 0), 16, .inl g11_39))] → va_S A s.heap H locs → lv_has ls 4 [(3, .int (nI 16)), (2, .int (nI tx)), (0, .ref mo), (1, .int (nI st))] → W p l e ({ frames := 2, cells := 0, slots := 0, locals := 69 } : Room) s m args below meth c H locs 0 0 Q (F0 m 178 ls [])) (j8 i : Nat) (g9_64 : Nat → Int32) (H : Heap) (locs : List Loc) (ls : Array Slot), i + j8 = 16 → va_P (dC, dI) vcl [(r 12, .inl ((cT 0), 1200, .inl g12_1)), (r 3, .inl ((cT 0), 160, .inl f3)), (r 4, .inl ((cT 0), 4, .inl f4)), (mo, .inr (12, mdG r cd tm (nI sn) (nI (64 + i)) (nI lz) (nI az) (nI na) (nI nt) (nI nr) mw ml mk dq)), (r 9, .inl ((cT 0), 1400, .inl g9_64)), (r 0, .inl ((cT 1), 64, .inr (.inl f0))), (r 11, .inl ((cT 0), 16, .inl g11_39))] H → va_D A [(r 12, .inl ((cT 0), 1200, .inl g12_1)), (r 3, .inl ((cT 0), 160, .inl f3)), (r 4, .inl ((cT 0), 4, .inl f4)), (mo, .inr (12, mdG r cd tm (nI sn) (nI (64 + i)) (nI lz) (nI az) (nI na) (nI nt) (nI nr) mw ml mk dq)), (r 9, .inl ((cT 0), 1400, .inl g9_64)), (r 0, .inl ((cT 1), 64, .inr (.inl f0))), (r 11, .inl ((cT 0), 16, .inl g11_39))] → va_S A s.heap H locs → lv_has ls 4 [(3, .int (nI i)), (2, .int (nI tx)), (0, .ref mo), (1, .int (nI st))] → W p l e ({ frames := 2, cells := 0, slots := 0, locals := 69 } : Room) s m args below meth c H locs 0 0 Q (F0 m 156 ls []) := by
    intro Q exit j8
    induction j8 with
    | zero => 
      intro i g9_64 H locs ls hij  hP hD hS hl
      have hij : 16 = i := by omega
      refine lv_iload_n hx hb d_Md_keyed_156 rfl (lv_at hl 0 rfl) ?_
      refine lv_bipush (v := 16) hx hb d_Md_keyed_157 (by decide) ?_
      refine lv_topi (fun x67 e66 => ?_)
      obtain rfl : x67 = nI 16 := by rw [e66]; rfl
      refine lv_icmp_ge (tgt := 178) hx hb d_Md_keyed_159 (by decide) (fun hc68 => ?_) (fun hn9 => absurd (nI_le (by omega) (by omega)) hn9)
      subst hij
      exact exit g9_64 _ _ _  hP hD hS hl
    | succ j8 ih => 
      intro i g9_64 H locs ls hij  hP hD hS hl
      have hlt : i < 16 := by omega
      have hlti := hlt
      refine lv_iload_n hx hb d_Md_keyed_156 rfl (lv_at hl 0 rfl) ?_
      refine lv_bipush (v := 16) hx hb d_Md_keyed_157 (by decide) ?_
      refine lv_topi (fun x70 e69 => ?_)
      obtain rfl : x70 = nI 16 := by rw [e69]; rfl
      refine lv_icmp_ge (tgt := 178) hx hb d_Md_keyed_159 (by decide) (fun hn9 => absurd hn9 (nI_ge (by omega) (by omega))) (fun hc71 => ?_)
      refine lv_aload_n hx hb d_Md_keyed_162 rfl (lv_at hl 2 rfl) ?_
      refine lv_aload_n hx hb d_Md_keyed_163 rfl (lv_at hl 2 rfl) ?_
      refine va_get (D := (dC, dI)) (ci := 12) (v := (.ref (r 11))) (C := R_Md) (T := F_Md) (N := 45) hx hb hg in_Md hown hK hP 3 rfl rfl 11 (by decide) (hg _ k_1031) (fun _ h9 => h9) rfl d_Md_keyed_164 ?_
      refine lv_iload_n hx hb d_Md_keyed_167 rfl (lv_at hl 0 rfl) ?_
      refine va_iald hx hb hK hP 6 0 rfl rfl (i := (nI i)) (vp_in_nI (N := 16) (by omega) (by decide)) d_Md_keyed_168 ?_
      refine lv_topi (fun x72 e_x72 => ?_)
      clear e_x72
      have hPc := hP.sub (ws' := [(mo, .inr (12, mdG r cd tm (nI sn) (nI (64 + i)) (nI lz) (nI az) (nI na) (nI nt) (nI nr) mw ml mk dq)), (r 9, .inl ((cT 0), 1400, .inl g9_64))]) [3, 4] rfl
      have hDc := hD.sub (ws' := [(mo, .inr (12, mdG r cd tm (nI sn) (nI (64 + i)) (nI lz) (nI az) (nI na) (nI nt) (nI nr) mw ml mk dq)), (r 9, .inl ((cT 0), 1400, .inl g9_64))]) [3, 4] (by decide) rfl
      have hFc := va_free (wc := [(mo, .inr (12, mdG r cd tm (nI sn) (nI (64 + i)) (nI lz) (nI az) (nI na) (nI nt) (nI nr) mw ml mk dq)), (r 9, .inl ((cT 0), 1400, .inl g9_64))]) hD hS hA [3, 4] rfl
      refine va_callv (va_runV (C := "DoorServerModel") (As := [.int x72]) (rest := []) ⟨hx, hb, hml, hown, hg⟩ (m_say l dC dI cT H.size mo r cd tm sn (64 + i) lz az na nt nr mw ml mk dq g9_64 x72 (by first | assumption | omega)) (cwV 1 hg (gI (List.forall_mem_append.mpr ⟨List.forall_mem_cons.mpr ⟨k_1220, List.forall_mem_cons.mpr ⟨k_1222, List.forall_mem_cons.mpr ⟨(big_sel (q := y_Md_say) (n := 45) (by decide +kernel)), List.forall_mem_cons.mpr ⟨k_13, fun _ h => absurd h List.not_mem_nil⟩⟩⟩⟩, List.forall_mem_cons.mpr ⟨k_1223, fun _ h => h⟩⟩)) rfl rfl rfl (by decide +kernel) ⟨Nat.le_of_ble_eq_true rfl, Nat.le_of_ble_eq_true rfl⟩) ⟨fun a U g mk q => by obtain ⟨q0, q1, qP, qK, qD⟩ := q; exact ⟨q0, q1, qP, va_K.moved (u := U) (U := U.calling g mk a) (Vm.Alike.refl U.vm) qK, qD⟩, va_recv (q0 := 3) (ci := 12) hK hP rfl rfl, fun U hU hW => ⟨rfl, by rw [hU], by rw [hU]; exact hPc, va_K.moved hW.alike hK, hDc.weaken (fun _ _ _ _ => trivial)⟩⟩ rfl rfl hl.1 rfl (lv_room (Nat.le_of_ble_eq_true rfl)) d_Md_keyed_169 ⟨Nat.le_of_ble_eq_true rfl, Nat.le_of_ble_eq_true rfl⟩) hS (fun q _ h => hFc q h) hFc (fun u t H1 locs ht hvm hw hB hz1 hk1 hS => ?_)
      obtain ⟨g9_73, rfl⟩ : ∃ z, z = u := ⟨_, rfl⟩
      try dsimp only at hw hB
      obtain ⟨hP1, hK1, hD1⟩ := hB
      rw [ht] at hP1
      obtain ⟨hP, hD⟩ := va_join (wr := [(r 12, .inl ((cT 0), 1200, .inl g12_1)), (r 3, .inl ((cT 0), 160, .inl f3)), (r 4, .inl ((cT 0), 4, .inl f4)), (r 0, .inl ((cT 1), 64, .inr (.inl f0))), (r 11, .inl ((cT 0), 16, .inl g11_39))]) (w1 := [(mo, .inr (12, mdG r cd tm (nI sn) (nI ((64 + i) + 1)) (nI lz) (nI az) (nI na) (nI nt) (nI nr) mw ml mk dq)), (r 9, .inl ((cT 0), 1400, .inl g9_73))]) hP hD [3, 4] [0, 1, 2, 5, 6] rfl rfl (by decide) (by decide) hk1 hFc hP1 hD1
      have hw74 := hw
      clear hPc hDc hFc hz1 hk1 hP1 hK1 hD1
      generalize H1 = H at hP hS ⊢
      have hP : va_P (dC, dI) vcl [(r 12, .inl ((cT 0), 1200, .inl g12_1)), (r 3, .inl ((cT 0), 160, .inl f3)), (r 4, .inl ((cT 0), 4, .inl f4)), (r 0, .inl ((cT 1), 64, .inr (.inl f0))), (r 11, .inl ((cT 0), 16, .inl g11_39)), (mo, .inr (12, mdG r cd tm (nI sn) (nI ((64 + i) + 1)) (nI lz) (nI az) (nI na) (nI nt) (nI nr) mw ml mk dq)), (r 9, .inl ((cT 0), 1400, .inl g9_73))] H := hP
      have hD : va_D A [(r 12, .inl ((cT 0), 1200, .inl g12_1)), (r 3, .inl ((cT 0), 160, .inl f3)), (r 4, .inl ((cT 0), 4, .inl f4)), (r 0, .inl ((cT 1), 64, .inr (.inl f0))), (r 11, .inl ((cT 0), 16, .inl g11_39)), (mo, .inr (12, mdG r cd tm (nI sn) (nI ((64 + i) + 1)) (nI lz) (nI az) (nI na) (nI nt) (nI nr) mw ml mk dq)), (r 9, .inl ((cT 0), 1400, .inl g9_73))] := hD
      refine lv_iinc (k := 0) (v := nI (i + 1)) (lv' := [(3, .int (nI (i + 1))), (2, .int (nI tx)), (0, .ref mo), (1, .int (nI st))]) hx hb d_Md_keyed_172 hl rfl (nI_1 i) (by decide) rfl (fun ls hl => ?_)
      refine lv_goto (tgt := 156) hx hb d_Md_keyed_175 (by decide) ?_
      have hl := lv_sub hl [0, 1, 2, 3] (show _ = [(3, .int (nI (i + 1))), (2, .int (nI tx)), (0, .ref mo), (1, .int (nI st))] from rfl)
      have hP := hP.sub (ws' := [(r 12, .inl ((cT 0), 1200, .inl g12_1)), (r 3, .inl ((cT 0), 160, .inl f3)), (r 4, .inl ((cT 0), 4, .inl f4)), (mo, .inr (12, mdG r cd tm (nI sn) (nI ((64 + i) + 1)) (nI lz) (nI az) (nI na) (nI nt) (nI nr) mw ml mk dq)), (r 9, .inl ((cT 0), 1400, .inl g9_73)), (r 0, .inl ((cT 1), 64, .inr (.inl f0))), (r 11, .inl ((cT 0), 16, .inl g11_39))]) [0, 1, 2, 5, 6, 3, 4] rfl
      have hD := hD.sub (ws' := [(r 12, .inl ((cT 0), 1200, .inl g12_1)), (r 3, .inl ((cT 0), 160, .inl f3)), (r 4, .inl ((cT 0), 4, .inl f4)), (mo, .inr (12, mdG r cd tm (nI sn) (nI ((64 + i) + 1)) (nI lz) (nI az) (nI na) (nI nt) (nI nr) mw ml mk dq)), (r 9, .inl ((cT 0), 1400, .inl g9_73)), (r 0, .inl ((cT 1), 64, .inr (.inl f0))), (r 11, .inl ((cT 0), 16, .inl g11_39))]) [0, 1, 2, 5, 6, 3, 4] (by decide) rfl
      exact ih (i + 1) _ _ _ _ (by omega)  hP hD hS hl
  refine L65 _ (fun g9_64 H locs ls  hP hD hS hl => ?_) (16 - 0) 0 g9_42 H _ ls (by omega)  hP hD hS hl
  refine lv_aload_n hx hb d_Md_keyed_178 rfl (lv_at hl 2 rfl) ?_
  have hPc := hP.sub (ws' := [(mo, .inr (12, mdG r cd tm (nI sn) (nI (64 + 16)) (nI lz) (nI az) (nI na) (nI nt) (nI nr) mw ml mk dq)), (r 9, .inl ((cT 0), 1400, .inl g9_64)), (r 0, .inl ((cT 1), 64, .inr (.inl f0))), (r 11, .inl ((cT 0), 16, .inl g11_39))]) [3, 4, 5, 6] rfl
  have hDc := hD.sub (ws' := [(mo, .inr (12, mdG r cd tm (nI sn) (nI (64 + 16)) (nI lz) (nI az) (nI na) (nI nt) (nI nr) mw ml mk dq)), (r 9, .inl ((cT 0), 1400, .inl g9_64)), (r 0, .inl ((cT 1), 64, .inr (.inl f0))), (r 11, .inl ((cT 0), 16, .inl g11_39))]) [3, 4, 5, 6] (by decide) rfl
  have hFc := va_free (wc := [(mo, .inr (12, mdG r cd tm (nI sn) (nI (64 + 16)) (nI lz) (nI az) (nI na) (nI nt) (nI nr) mw ml mk dq)), (r 9, .inl ((cT 0), 1400, .inl g9_64)), (r 0, .inl ((cT 1), 64, .inr (.inl f0))), (r 11, .inl ((cT 0), 16, .inl g11_39))]) hD hS hA [3, 4, 5, 6] rfl
  refine va_callv (va_runV (C := "DoorServerModel") (As := []) (rest := []) ⟨hx, hb, hml, hown, hg⟩ (m_md5 l dC dI cT H.size mo r cd tm sn (64 + 16) lz az na nt nr mw ml mk dq g9_64 f0 g11_39 (by first | assumption | omega) (by first | assumption | omega)) (cwV 0 hg (gI (List.forall_mem_append.mpr ⟨List.forall_mem_cons.mpr ⟨k_1224, List.forall_mem_cons.mpr ⟨k_1226, List.forall_mem_cons.mpr ⟨(big_sel (q := y_Md_md5) (n := 45) (by decide +kernel)), List.forall_mem_cons.mpr ⟨k_13, fun _ h => absurd h List.not_mem_nil⟩⟩⟩⟩, List.forall_mem_cons.mpr ⟨k_1227, fun _ h => h⟩⟩)) rfl rfl rfl (by decide +kernel) ⟨Nat.le_of_ble_eq_true rfl, Nat.le_of_ble_eq_true rfl⟩) ⟨fun a U g mk q => by obtain ⟨q0, q1, qP, qK, qD⟩ := q; exact ⟨q0, q1, qP, va_K.moved (u := U) (U := U.calling g mk a) (Vm.Alike.refl U.vm) qK, qD⟩, va_recv (q0 := 3) (ci := 12) hK hP rfl rfl, fun U hU hW => ⟨rfl, by rw [hU], by rw [hU]; exact hPc, va_K.moved hW.alike hK, hDc.weaken (fun _ _ _ _ => trivial)⟩⟩ rfl rfl hl.1 rfl (lv_room (Nat.le_of_ble_eq_true rfl)) d_Md_keyed_179 ⟨Nat.le_of_ble_eq_true rfl, Nat.le_of_ble_eq_true rfl⟩) hS (fun q _ h => hFc q h) hFc (fun u t H1 locs ht hvm hw hB hz1 hk1 hS => ?_)
  obtain ⟨g9_75, g11_76⟩ := u
  try dsimp only at hw hB
  obtain ⟨hP1, hK1, hD1⟩ := hB
  rw [ht] at hP1
  obtain ⟨hP, hD⟩ := va_join (wr := [(r 12, .inl ((cT 0), 1200, .inl g12_1)), (r 3, .inl ((cT 0), 160, .inl f3)), (r 4, .inl ((cT 0), 4, .inl f4))]) (w1 := [(mo, .inr (12, mdG r cd tm (nI sn) (nI 0) (nI lz) (nI az) (nI na) (nI nt) (nI nr) mw ml mk dq)), (r 9, .inl ((cT 0), 1400, .inl g9_75)), (r 0, .inl ((cT 1), 64, .inr (.inl f0))), (r 11, .inl ((cT 0), 16, .inl g11_76))]) hP hD [3, 4, 5, 6] [0, 1, 2] rfl rfl (by decide) (by decide) hk1 hFc hP1 hD1
  have hw77 := hw
  clear hPc hDc hFc hz1 hk1 hP1 hK1 hD1
  generalize H1 = H at hP hS ⊢
  have hP : va_P (dC, dI) vcl [(r 12, .inl ((cT 0), 1200, .inl g12_1)), (r 3, .inl ((cT 0), 160, .inl f3)), (r 4, .inl ((cT 0), 4, .inl f4)), (mo, .inr (12, mdG r cd tm (nI sn) (nI 0) (nI lz) (nI az) (nI na) (nI nt) (nI nr) mw ml mk dq)), (r 9, .inl ((cT 0), 1400, .inl g9_75)), (r 0, .inl ((cT 1), 64, .inr (.inl f0))), (r 11, .inl ((cT 0), 16, .inl g11_76))] H := hP
  have hD : va_D A [(r 12, .inl ((cT 0), 1200, .inl g12_1)), (r 3, .inl ((cT 0), 160, .inl f3)), (r 4, .inl ((cT 0), 4, .inl f4)), (mo, .inr (12, mdG r cd tm (nI sn) (nI 0) (nI lz) (nI az) (nI na) (nI nt) (nI nr) mw ml mk dq)), (r 9, .inl ((cT 0), 1400, .inl g9_75)), (r 0, .inl ((cT 1), 64, .inr (.inl f0))), (r 11, .inl ((cT 0), 16, .inl g11_76))] := hD
  have k78 := hw77
  have hP9 := hP.sub (ws' := [(mo, .inr (12, mdG r cd tm (nI sn) (nI 0) (nI lz) (nI az) (nI na) (nI nt) (nI nr) mw ml mk dq)), (r 9, .inl ((cT 0), 1400, .inl g9_75)), (r 12, .inl ((cT 0), 1200, .inl g12_1)), (r 3, .inl ((cT 0), 160, .inl f3)), (r 4, .inl ((cT 0), 4, .inl f4)), (r 0, .inl ((cT 1), 64, .inr (.inl f0))), (r 11, .inl ((cT 0), 16, .inl g11_76))]) [3, 4, 0, 1, 2, 5, 6] rfl
  have hD9 := hD.sub (ws' := [(mo, .inr (12, mdG r cd tm (nI sn) (nI 0) (nI lz) (nI az) (nI na) (nI nt) (nI nr) mw ml mk dq)), (r 9, .inl ((cT 0), 1400, .inl g9_75)), (r 12, .inl ((cT 0), 1200, .inl g12_1)), (r 3, .inl ((cT 0), 160, .inl f3)), (r 4, .inl ((cT 0), 4, .inl f4)), (r 0, .inl ((cT 1), 64, .inr (.inl f0))), (r 11, .inl ((cT 0), 16, .inl g11_76))]) [3, 4, 0, 1, 2, 5, 6] (by decide) rfl
  exact W.vret hx hb hr (fun t ht hW => ⟨⟨⟨g9_75, g12_1, g11_76⟩, rfl, by first | assumption | omega, by rw [ht]; exact hP9, va_K.moved hW.alike hK, hD9⟩, hS.F ht⟩) hS.2.2 d_Md_keyed_182
set_option maxHeartbeats 4000000 in
set_option maxRecDepth 100000 in
/-- cover -/
theorem m_cover (l : Launch) (dC : Nat → ClassId) (dI : Nat → Nat → Nat) (cT : Nat → ClassId) (sz : Nat) (mo : Nat) (r : Nat → Nat) (cd : Int32) (tm : Int32) (sn : Nat) (tx : Nat) (lz : Nat) (az : Nat) (na : Nat) (nt : Nat) (nr : Nat) (mw : Int32) (ml : Int32) (mk : Int64) (dq : Int64) (f9 : Nat → Int32) (f3 : Nat → Int32) (f4 : Nat → Int32) (f7 : Nat → Int32) (f0 : Nat → Int64) (f11 : Nat → Int32) (st : Nat) (sl : Nat) (fr : Nat) (hst : st < 4) (hfz : f4 st = nI sl) (hsl : sl ≤ 40) (ht9 : tx ≤ 1000) (hfr : fr + 16 ≤ 1000) (h11 : AB f11) : Met l y_Md_cover (Cond.code y_Md_cover b_Md_cover 4 (Option.none : Option Jvm.ClassFile.FieldType) :: BIG) ({ frames := 2, cells := 0, slots := 0, locals := 69 }) (va_Pc [.ref mo, .int (nI st), .int (nI fr)] (fun U => U.heap.size = sz ∧ va_P (dC, dI) vcl [(mo, .inr (12, mdG r cd tm (nI sn) (nI tx) (nI lz) (nI az) (nI na) (nI nt) (nI nr) mw ml mk dq)), (r 9, .inl ((cT 0), 1400, .inl f9)), (r 3, .inl ((cT 0), 160, .inl f3)), (r 4, .inl ((cT 0), 4, .inl f4)), (r 7, .inl ((cT 0), 1000, .inl f7)), (r 0, .inl ((cT 1), 64, .inr (.inl f0))), (r 11, .inl ((cT 0), 16, .inl f11))] U.heap ∧ va_K (dC, dI) vcl (tyL cT) U ∧ va_D (fun _ => True) [(mo, .inr (12, mdG r cd tm (nI sn) (nI tx) (nI lz) (nI az) (nI na) (nI nt) (nI nr) mw ml mk dq)), (r 9, .inl ((cT 0), 1400, .inl f9)), (r 3, .inl ((cT 0), 160, .inl f3)), (r 4, .inl ((cT 0), 4, .inl f4)), (r 7, .inl ((cT 0), 1000, .inl f7)), (r 0, .inl ((cT 1), 64, .inr (.inl f0))), (r 11, .inl ((cT 0), 16, .inl f11))])) (va_Qv (S := (Nat → Int32) × (Nat → Int32)) (fun u => match u with | (g9, g11) => AB g11) (fun u t => match u with | (g9, g11) => va_P (dC, dI) vcl [(mo, .inr (12, mdG r cd tm (nI sn) (nI 0) (nI lz) (nI az) (nI na) (nI nt) (nI nr) mw ml mk dq)), (r 9, .inl ((cT 0), 1400, .inl g9)), (r 3, .inl ((cT 0), 160, .inl f3)), (r 4, .inl ((cT 0), 4, .inl f4)), (r 7, .inl ((cT 0), 1000, .inl f7)), (r 0, .inl ((cT 1), 64, .inr (.inl f0))), (r 11, .inl ((cT 0), 16, .inl g11))] t.heap ∧ va_K (dC, dI) vcl (tyL cT) t ∧ va_D (va_A [(mo, .inr (12, mdG r cd tm (nI sn) (nI tx) (nI lz) (nI az) (nI na) (nI nt) (nI nr) mw ml mk dq)), (r 9, .inl ((cT 0), 1400, .inl f9)), (r 3, .inl ((cT 0), 160, .inl f3)), (r 4, .inl ((cT 0), 4, .inl f4)), (r 7, .inl ((cT 0), 1000, .inl f7)), (r 0, .inl ((cT 1), 64, .inr (.inl f0))), (r 11, .inl ((cT 0), 16, .inl f11))] sz) [(mo, .inr (12, mdG r cd tm (nI sn) (nI 0) (nI lz) (nI az) (nI na) (nI nt) (nI nr) mw ml mk dq)), (r 9, .inl ((cT 0), 1400, .inl g9)), (r 3, .inl ((cT 0), 160, .inl f3)), (r 4, .inl ((cT 0), 4, .inl f4)), (r 7, .inl ((cT 0), 1000, .inl f7)), (r 0, .inl ((cT 1), 64, .inr (.inl f0))), (r 11, .inl ((cT 0), 16, .inl g11))]) (va_A [(mo, .inr (12, mdG r cd tm (nI sn) (nI tx) (nI lz) (nI az) (nI na) (nI nt) (nI nr) mw ml mk dq)), (r 9, .inl ((cT 0), 1400, .inl f9)), (r 3, .inl ((cT 0), 160, .inl f3)), (r 4, .inl ((cT 0), 4, .inl f4)), (r 7, .inl ((cT 0), 1000, .inl f7)), (r 0, .inl ((cT 1), 64, .inr (.inl f0))), (r 11, .inl ((cT 0), 16, .inl f11))] sz)) 0 0 (va_A [(mo, .inr (12, mdG r cd tm (nI sn) (nI tx) (nI lz) (nI az) (nI na) (nI nt) (nI nr) mw ml mk dq)), (r 9, .inl ((cT 0), 1400, .inl f9)), (r 3, .inl ((cT 0), 160, .inl f3)), (r 4, .inl ((cT 0), 4, .inl f4)), (r 7, .inl ((cT 0), 1000, .inl f7)), (r 0, .inl ((cT 1), 64, .inr (.inl f0))), (r 11, .inl ((cT 0), 16, .inl f11))] sz) := by
  refine Met.ofW (cc := b_Md_cover) (maxL := 4) (ret := (Option.none : Option Jvm.ClassFile.FieldType)) (by decide) rfl ?_
  intro p e s m args below meth c s₁ B hml hv
  obtain ⟨hargs, hsz, hP, hK, hD0⟩ := hv
  have hx := B.exec
  have hb := B.bytes
  have hr := B.returns
  have hts := atoms_spec (ws := (Cond.code y_Md_cover b_Md_cover 4 (Option.none : Option Jvm.ClassFile.FieldType) :: BIG)) B.pre
  have hg : ∀ w ∈ BIG, w.before _ s = true := fun w h => hts w (List.mem_cons_of_mem _ h)
  have hown : s.vm.findClass "DoorServerModel" = some m.cls := findClass_of_methodNamed B.named
  have hlocks := B.notSynchronized
  subst hsz
  have hD := hD0.self (sz := s.heap.size)
  generalize hAe : va_A [(mo, .inr (12, mdG r cd tm (nI sn) (nI tx) (nI lz) (nI az) (nI na) (nI nt) (nI nr) mw ml mk dq)), (r 9, .inl ((cT 0), 1400, .inl f9)), (r 3, .inl ((cT 0), 160, .inl f3)), (r 4, .inl ((cT 0), 4, .inl f4)), (r 7, .inl ((cT 0), 1000, .inl f7)), (r 0, .inl ((cT 1), 64, .inr (.inl f0))), (r 11, .inl ((cT 0), 16, .inl f11))] s.heap.size = A at hD ⊢
  have hA : ∀ q : Nat, s.heap.size ≤ q → A q := fun q h => by rw [← hAe]; exact Or.inr h
  have hS : va_S A s.heap s.heap [] := va_S.rf
  have hl := lv_entry ([.ref mo, .int (nI st), .int (nI fr)]) (n := 4) (Nat.le_of_ble_eq_true rfl)
  refine W.eq (g2 := entryFrame m (List.toArray [.ref mo, .int (nI st), .int (nI fr)]) 4) (by rw [hargs]) ?_
  rw [lg_entry_eq]
  generalize (lg_sl ([.ref mo, .int (nI st), .int (nI fr)]) ++ List.replicate (4 - (lg_sl ([.ref mo, .int (nI st), .int (nI fr)])).length) Slot.unset).toArray = ls at hl ⊢
  have hl : lv_has ls 4 [(0, .ref mo), (1, .int (nI st)), (2, .int (nI fr))] := hl
  change W p l e ({ frames := 2, cells := 0, slots := 0, locals := 69 } : Room) s m args below meth c s.heap [] 0 0 _ _
  have hP : va_P (dC, dI) vcl [(mo, .inr (12, mdG r cd tm (nI sn) (nI tx) (nI lz) (nI az) (nI na) (nI nt) (nI nr) mw ml mk dq)), (r 9, .inl ((cT 0), 1400, .inl f9)), (r 3, .inl ((cT 0), 160, .inl f3)), (r 4, .inl ((cT 0), 4, .inl f4)), (r 7, .inl ((cT 0), 1000, .inl f7)), (r 0, .inl ((cT 1), 64, .inr (.inl f0))), (r 11, .inl ((cT 0), 16, .inl f11))] s.heap := hP
  refine lv_aload_n hx hb d_Md_cover_0 rfl (lv_at hl 0 rfl) ?_
  refine lv_iload_n hx hb d_Md_cover_1 rfl (lv_at hl 1 rfl) ?_
  have hPc := hP.sub (ws' := [(mo, .inr (12, mdG r cd tm (nI sn) (nI tx) (nI lz) (nI az) (nI na) (nI nt) (nI nr) mw ml mk dq)), (r 3, .inl ((cT 0), 160, .inl f3)), (r 4, .inl ((cT 0), 4, .inl f4)), (r 9, .inl ((cT 0), 1400, .inl f9))]) [0, 2, 3, 1] rfl
  have hDc := hD.sub (ws' := [(mo, .inr (12, mdG r cd tm (nI sn) (nI tx) (nI lz) (nI az) (nI na) (nI nt) (nI nr) mw ml mk dq)), (r 3, .inl ((cT 0), 160, .inl f3)), (r 4, .inl ((cT 0), 4, .inl f4)), (r 9, .inl ((cT 0), 1400, .inl f9))]) [0, 2, 3, 1] (by decide) rfl
  have hFc := va_free (wc := [(mo, .inr (12, mdG r cd tm (nI sn) (nI tx) (nI lz) (nI az) (nI na) (nI nt) (nI nr) mw ml mk dq)), (r 3, .inl ((cT 0), 160, .inl f3)), (r 4, .inl ((cT 0), 4, .inl f4)), (r 9, .inl ((cT 0), 1400, .inl f9))]) hD hS hA [0, 2, 3, 1] rfl
  refine va_callv (va_runV (C := "DoorServerModel") (As := [.int (nI st)]) (rest := []) ⟨hx, hb, hml, hown, hg⟩ (m_saySecret l dC dI cT s.heap.size mo r cd tm sn tx lz az na nt nr mw ml mk dq f3 f4 f9 st sl (by first | assumption | omega) (by first | assumption | omega) (by first | assumption | omega) (by first | assumption | omega)) (cwV 1 hg (gI (List.forall_mem_append.mpr ⟨List.forall_mem_cons.mpr ⟨k_1216, List.forall_mem_cons.mpr ⟨k_1218, List.forall_mem_cons.mpr ⟨(big_sel (q := y_Md_saySecret) (n := 45) (by decide +kernel)), List.forall_mem_cons.mpr ⟨k_13, fun _ h => absurd h List.not_mem_nil⟩⟩⟩⟩, List.forall_mem_cons.mpr ⟨k_1219, fun _ h => h⟩⟩)) rfl rfl rfl (by decide +kernel) ⟨Nat.le_of_ble_eq_true rfl, Nat.le_of_ble_eq_true rfl⟩) ⟨fun a U g mk q => by obtain ⟨q0, q1, qP, qK, qD⟩ := q; exact ⟨q0, q1, qP, va_K.moved (u := U) (U := U.calling g mk a) (Vm.Alike.refl U.vm) qK, qD⟩, va_recv (q0 := 0) (ci := 12) hK hP rfl rfl, fun U hU hW => ⟨rfl, by rw [hU], by rw [hU]; exact hPc, va_K.moved hW.alike hK, hDc.weaken (fun _ _ _ _ => trivial)⟩⟩ rfl rfl hl.1 rfl (lv_room (Nat.le_of_ble_eq_true rfl)) d_Md_cover_2 ⟨Nat.le_of_ble_eq_true rfl, Nat.le_of_ble_eq_true rfl⟩) hS (fun q _ h => hFc q h) hFc (fun u t H1 locs ht hvm hw hB hz1 hk1 hS => ?_)
  obtain ⟨g9_79, rfl⟩ : ∃ z, z = u := ⟨_, rfl⟩
  try dsimp only at hw hB
  obtain ⟨hP1, hK1, hD1⟩ := hB
  rw [ht] at hP1
  obtain ⟨hP, hD⟩ := va_join (wr := [(r 7, .inl ((cT 0), 1000, .inl f7)), (r 0, .inl ((cT 1), 64, .inr (.inl f0))), (r 11, .inl ((cT 0), 16, .inl f11))]) (w1 := [(mo, .inr (12, mdG r cd tm (nI sn) (nI (tx + sl)) (nI lz) (nI az) (nI na) (nI nt) (nI nr) mw ml mk dq)), (r 3, .inl ((cT 0), 160, .inl f3)), (r 4, .inl ((cT 0), 4, .inl f4)), (r 9, .inl ((cT 0), 1400, .inl g9_79))]) hP hD [0, 2, 3, 1] [4, 5, 6] rfl rfl (by decide) (by decide) hk1 hFc hP1 hD1
  have hw80 := hw
  clear hPc hDc hFc hz1 hk1 hP1 hK1 hD1
  generalize H1 = H at hP hS ⊢
  have hP : va_P (dC, dI) vcl [(r 7, .inl ((cT 0), 1000, .inl f7)), (r 0, .inl ((cT 1), 64, .inr (.inl f0))), (r 11, .inl ((cT 0), 16, .inl f11)), (mo, .inr (12, mdG r cd tm (nI sn) (nI (tx + sl)) (nI lz) (nI az) (nI na) (nI nt) (nI nr) mw ml mk dq)), (r 3, .inl ((cT 0), 160, .inl f3)), (r 4, .inl ((cT 0), 4, .inl f4)), (r 9, .inl ((cT 0), 1400, .inl g9_79))] H := hP
  have hD : va_D A [(r 7, .inl ((cT 0), 1000, .inl f7)), (r 0, .inl ((cT 1), 64, .inr (.inl f0))), (r 11, .inl ((cT 0), 16, .inl f11)), (mo, .inr (12, mdG r cd tm (nI sn) (nI (tx + sl)) (nI lz) (nI az) (nI na) (nI nt) (nI nr) mw ml mk dq)), (r 3, .inl ((cT 0), 160, .inl f3)), (r 4, .inl ((cT 0), 4, .inl f4)), (r 9, .inl ((cT 0), 1400, .inl g9_79))] := hD
  refine lv_iconst (v := 0) hx hb d_Md_cover_5 (by decide) ?_
  refine lv_istore_n (lv' := [(3, .int 0), (0, .ref mo), (1, .int (nI st)), (2, .int (nI fr))]) hx hb d_Md_cover_6 rfl hl (by decide) rfl (fun ls hl => ?_)
  have hl := lv_sub hl [0, 1, 2, 3] (show _ = [(3, .int 0), (0, .ref mo), (1, .int (nI st)), (2, .int (nI fr))] from rfl)
  have L82 : ∀ (Q : State → Prop) (exit : ∀ (g9_81 : Nat → Int32) (H : Heap) (locs : List Loc) (ls : Array Slot), va_P (dC, dI) vcl [(r 7, .inl ((cT 0), 1000, .inl f7)), (r 0, .inl ((cT 1), 64, .inr (.inl f0))), (r 11, .inl ((cT 0), 16, .inl f11)), (mo, .inr (12, mdG r cd tm (nI sn) (nI (tx + sl + 16)) (nI lz) (nI az) (nI na) (nI nt) (nI nr) mw ml mk dq)), (r 3, .inl ((cT 0), 160, .inl f3)), (r 4, .inl ((cT 0), 4, .inl f4)), (r 9, .inl ((cT 0), 1400, .inl g9_81))] H → va_D A [(r 7, .inl ((cT 0), 1000, .inl f7)), (r 0, .inl ((cT 1), 64, .inr (.inl f0))), (r 11, .inl ((cT 0), 16, .inl f11)), (mo, .inr (12, mdG r cd tm (nI sn) (nI (tx + sl + 16)) (nI lz) (nI az) (nI na) (nI nt) (nI nr) mw ml mk dq)), (r 3, .inl ((cT 0), 160, .inl f3)), (r 4, .inl ((cT 0), 4, .inl f4)), (r 9, .inl ((cT 0), 1400, .inl g9_81))] → va_S A s.heap H locs → lv_has ls 4 [(3, .int (nI 16)), (0, .ref mo), (1, .int (nI st)), (2, .int (nI fr))] → W p l e ({ frames := 2, cells := 0, slots := 0, locals := 69 } : Room) s m args below meth c H locs 0 0 Q (F0 m 31 ls [])) (j8 i : Nat) (g9_81 : Nat → Int32) (H : Heap) (locs : List Loc) (ls : Array Slot), i + j8 = 16 → va_P (dC, dI) vcl [(r 7, .inl ((cT 0), 1000, .inl f7)), (r 0, .inl ((cT 1), 64, .inr (.inl f0))), (r 11, .inl ((cT 0), 16, .inl f11)), (mo, .inr (12, mdG r cd tm (nI sn) (nI (tx + sl + i)) (nI lz) (nI az) (nI na) (nI nt) (nI nr) mw ml mk dq)), (r 3, .inl ((cT 0), 160, .inl f3)), (r 4, .inl ((cT 0), 4, .inl f4)), (r 9, .inl ((cT 0), 1400, .inl g9_81))] H → va_D A [(r 7, .inl ((cT 0), 1000, .inl f7)), (r 0, .inl ((cT 1), 64, .inr (.inl f0))), (r 11, .inl ((cT 0), 16, .inl f11)), (mo, .inr (12, mdG r cd tm (nI sn) (nI (tx + sl + i)) (nI lz) (nI az) (nI na) (nI nt) (nI nr) mw ml mk dq)), (r 3, .inl ((cT 0), 160, .inl f3)), (r 4, .inl ((cT 0), 4, .inl f4)), (r 9, .inl ((cT 0), 1400, .inl g9_81))] → va_S A s.heap H locs → lv_has ls 4 [(3, .int (nI i)), (0, .ref mo), (1, .int (nI st)), (2, .int (nI fr))] → W p l e ({ frames := 2, cells := 0, slots := 0, locals := 69 } : Room) s m args below meth c H locs 0 0 Q (F0 m 7 ls []) := by
    intro Q exit j8
    induction j8 with
    | zero => 
      intro i g9_81 H locs ls hij  hP hD hS hl
      have hij : 16 = i := by omega
      refine lv_iload_n hx hb d_Md_cover_7 rfl (lv_at hl 0 rfl) ?_
      refine lv_bipush (v := 16) hx hb d_Md_cover_8 (by decide) ?_
      refine lv_topi (fun x84 e83 => ?_)
      obtain rfl : x84 = nI 16 := by rw [e83]; rfl
      refine lv_icmp_ge (tgt := 31) hx hb d_Md_cover_10 (by decide) (fun hc85 => ?_) (fun hn9 => absurd (nI_le (by omega) (by omega)) hn9)
      subst hij
      exact exit g9_81 _ _ _  hP hD hS hl
    | succ j8 ih => 
      intro i g9_81 H locs ls hij  hP hD hS hl
      have hlt : i < 16 := by omega
      have hlti := hlt
      refine lv_iload_n hx hb d_Md_cover_7 rfl (lv_at hl 0 rfl) ?_
      refine lv_bipush (v := 16) hx hb d_Md_cover_8 (by decide) ?_
      refine lv_topi (fun x87 e86 => ?_)
      obtain rfl : x87 = nI 16 := by rw [e86]; rfl
      refine lv_icmp_ge (tgt := 31) hx hb d_Md_cover_10 (by decide) (fun hn9 => absurd hn9 (nI_ge (by omega) (by omega))) (fun hc88 => ?_)
      refine lv_aload_n hx hb d_Md_cover_13 rfl (lv_at hl 1 rfl) ?_
      refine lv_aload_n hx hb d_Md_cover_14 rfl (lv_at hl 1 rfl) ?_
      refine va_get (D := (dC, dI)) (ci := 12) (v := (.ref (r 7))) (C := R_Md) (T := F_Md) (N := 45) hx hb hg in_Md hown hK hP 3 rfl rfl 7 (by decide) (hg _ k_1027) (fun _ h9 => h9) rfl d_Md_cover_15 ?_
      refine lv_iload_n hx hb d_Md_cover_18 rfl (lv_at hl 3 rfl) ?_
      refine lv_iload_n hx hb d_Md_cover_19 rfl (lv_at hl 0 rfl) ?_
      refine lv_iadd hx hb d_Md_cover_20 ?_
      refine lv_topi (fun x90 e89 => ?_)
      obtain rfl : x90 = nI (fr + i) := by rw [e89]; exact nI_add fr i
      refine va_iald hx hb hK hP 0 0 rfl rfl (i := (nI (fr + i))) (vp_in_nI (N := 1000) (by omega) (by decide)) d_Md_cover_21 ?_
      refine lv_topi (fun x91 e_x91 => ?_)
      clear e_x91
      have hPc := hP.sub (ws' := [(mo, .inr (12, mdG r cd tm (nI sn) (nI (tx + sl + i)) (nI lz) (nI az) (nI na) (nI nt) (nI nr) mw ml mk dq)), (r 9, .inl ((cT 0), 1400, .inl g9_81))]) [3, 6] rfl
      have hDc := hD.sub (ws' := [(mo, .inr (12, mdG r cd tm (nI sn) (nI (tx + sl + i)) (nI lz) (nI az) (nI na) (nI nt) (nI nr) mw ml mk dq)), (r 9, .inl ((cT 0), 1400, .inl g9_81))]) [3, 6] (by decide) rfl
      have hFc := va_free (wc := [(mo, .inr (12, mdG r cd tm (nI sn) (nI (tx + sl + i)) (nI lz) (nI az) (nI na) (nI nt) (nI nr) mw ml mk dq)), (r 9, .inl ((cT 0), 1400, .inl g9_81))]) hD hS hA [3, 6] rfl
      refine va_callv (va_runV (C := "DoorServerModel") (As := [.int x91]) (rest := []) ⟨hx, hb, hml, hown, hg⟩ (m_say l dC dI cT H.size mo r cd tm sn (tx + sl + i) lz az na nt nr mw ml mk dq g9_81 x91 (by first | assumption | omega)) (cwV 1 hg (gI (List.forall_mem_append.mpr ⟨List.forall_mem_cons.mpr ⟨k_1220, List.forall_mem_cons.mpr ⟨k_1222, List.forall_mem_cons.mpr ⟨(big_sel (q := y_Md_say) (n := 45) (by decide +kernel)), List.forall_mem_cons.mpr ⟨k_13, fun _ h => absurd h List.not_mem_nil⟩⟩⟩⟩, List.forall_mem_cons.mpr ⟨k_1223, fun _ h => h⟩⟩)) rfl rfl rfl (by decide +kernel) ⟨Nat.le_of_ble_eq_true rfl, Nat.le_of_ble_eq_true rfl⟩) ⟨fun a U g mk q => by obtain ⟨q0, q1, qP, qK, qD⟩ := q; exact ⟨q0, q1, qP, va_K.moved (u := U) (U := U.calling g mk a) (Vm.Alike.refl U.vm) qK, qD⟩, va_recv (q0 := 3) (ci := 12) hK hP rfl rfl, fun U hU hW => ⟨rfl, by rw [hU], by rw [hU]; exact hPc, va_K.moved hW.alike hK, hDc.weaken (fun _ _ _ _ => trivial)⟩⟩ rfl rfl hl.1 rfl (lv_room (Nat.le_of_ble_eq_true rfl)) d_Md_cover_22 ⟨Nat.le_of_ble_eq_true rfl, Nat.le_of_ble_eq_true rfl⟩) hS (fun q _ h => hFc q h) hFc (fun u t H1 locs ht hvm hw hB hz1 hk1 hS => ?_)
      obtain ⟨g9_92, rfl⟩ : ∃ z, z = u := ⟨_, rfl⟩
      try dsimp only at hw hB
      obtain ⟨hP1, hK1, hD1⟩ := hB
      rw [ht] at hP1
      obtain ⟨hP, hD⟩ := va_join (wr := [(r 7, .inl ((cT 0), 1000, .inl f7)), (r 0, .inl ((cT 1), 64, .inr (.inl f0))), (r 11, .inl ((cT 0), 16, .inl f11)), (r 3, .inl ((cT 0), 160, .inl f3)), (r 4, .inl ((cT 0), 4, .inl f4))]) (w1 := [(mo, .inr (12, mdG r cd tm (nI sn) (nI ((tx + sl + i) + 1)) (nI lz) (nI az) (nI na) (nI nt) (nI nr) mw ml mk dq)), (r 9, .inl ((cT 0), 1400, .inl g9_92))]) hP hD [3, 6] [0, 1, 2, 4, 5] rfl rfl (by decide) (by decide) hk1 hFc hP1 hD1
      have hw93 := hw
      clear hPc hDc hFc hz1 hk1 hP1 hK1 hD1
      generalize H1 = H at hP hS ⊢
      have hP : va_P (dC, dI) vcl [(r 7, .inl ((cT 0), 1000, .inl f7)), (r 0, .inl ((cT 1), 64, .inr (.inl f0))), (r 11, .inl ((cT 0), 16, .inl f11)), (r 3, .inl ((cT 0), 160, .inl f3)), (r 4, .inl ((cT 0), 4, .inl f4)), (mo, .inr (12, mdG r cd tm (nI sn) (nI ((tx + sl + i) + 1)) (nI lz) (nI az) (nI na) (nI nt) (nI nr) mw ml mk dq)), (r 9, .inl ((cT 0), 1400, .inl g9_92))] H := hP
      have hD : va_D A [(r 7, .inl ((cT 0), 1000, .inl f7)), (r 0, .inl ((cT 1), 64, .inr (.inl f0))), (r 11, .inl ((cT 0), 16, .inl f11)), (r 3, .inl ((cT 0), 160, .inl f3)), (r 4, .inl ((cT 0), 4, .inl f4)), (mo, .inr (12, mdG r cd tm (nI sn) (nI ((tx + sl + i) + 1)) (nI lz) (nI az) (nI na) (nI nt) (nI nr) mw ml mk dq)), (r 9, .inl ((cT 0), 1400, .inl g9_92))] := hD
      refine lv_iinc (k := 0) (v := nI (i + 1)) (lv' := [(3, .int (nI (i + 1))), (0, .ref mo), (1, .int (nI st)), (2, .int (nI fr))]) hx hb d_Md_cover_25 hl rfl (nI_1 i) (by decide) rfl (fun ls hl => ?_)
      refine lv_goto (tgt := 7) hx hb d_Md_cover_28 (by decide) ?_
      have hl := lv_sub hl [0, 1, 2, 3] (show _ = [(3, .int (nI (i + 1))), (0, .ref mo), (1, .int (nI st)), (2, .int (nI fr))] from rfl)
      have hP := hP.sub (ws' := [(r 7, .inl ((cT 0), 1000, .inl f7)), (r 0, .inl ((cT 1), 64, .inr (.inl f0))), (r 11, .inl ((cT 0), 16, .inl f11)), (mo, .inr (12, mdG r cd tm (nI sn) (nI ((tx + sl + i) + 1)) (nI lz) (nI az) (nI na) (nI nt) (nI nr) mw ml mk dq)), (r 3, .inl ((cT 0), 160, .inl f3)), (r 4, .inl ((cT 0), 4, .inl f4)), (r 9, .inl ((cT 0), 1400, .inl g9_92))]) [0, 1, 2, 5, 3, 4, 6] rfl
      have hD := hD.sub (ws' := [(r 7, .inl ((cT 0), 1000, .inl f7)), (r 0, .inl ((cT 1), 64, .inr (.inl f0))), (r 11, .inl ((cT 0), 16, .inl f11)), (mo, .inr (12, mdG r cd tm (nI sn) (nI ((tx + sl + i) + 1)) (nI lz) (nI az) (nI na) (nI nt) (nI nr) mw ml mk dq)), (r 3, .inl ((cT 0), 160, .inl f3)), (r 4, .inl ((cT 0), 4, .inl f4)), (r 9, .inl ((cT 0), 1400, .inl g9_92))]) [0, 1, 2, 5, 3, 4, 6] (by decide) rfl
      exact ih (i + 1) _ _ _ _ (by omega)  hP hD hS hl
  refine L82 _ (fun g9_81 H locs ls  hP hD hS hl => ?_) (16 - 0) 0 g9_79 H _ ls (by omega)  hP hD hS hl
  refine lv_aload_n hx hb d_Md_cover_31 rfl (lv_at hl 1 rfl) ?_
  have hPc := hP.sub (ws' := [(mo, .inr (12, mdG r cd tm (nI sn) (nI (tx + sl + 16)) (nI lz) (nI az) (nI na) (nI nt) (nI nr) mw ml mk dq)), (r 9, .inl ((cT 0), 1400, .inl g9_81)), (r 0, .inl ((cT 1), 64, .inr (.inl f0))), (r 11, .inl ((cT 0), 16, .inl f11))]) [3, 6, 1, 2] rfl
  have hDc := hD.sub (ws' := [(mo, .inr (12, mdG r cd tm (nI sn) (nI (tx + sl + 16)) (nI lz) (nI az) (nI na) (nI nt) (nI nr) mw ml mk dq)), (r 9, .inl ((cT 0), 1400, .inl g9_81)), (r 0, .inl ((cT 1), 64, .inr (.inl f0))), (r 11, .inl ((cT 0), 16, .inl f11))]) [3, 6, 1, 2] (by decide) rfl
  have hFc := va_free (wc := [(mo, .inr (12, mdG r cd tm (nI sn) (nI (tx + sl + 16)) (nI lz) (nI az) (nI na) (nI nt) (nI nr) mw ml mk dq)), (r 9, .inl ((cT 0), 1400, .inl g9_81)), (r 0, .inl ((cT 1), 64, .inr (.inl f0))), (r 11, .inl ((cT 0), 16, .inl f11))]) hD hS hA [3, 6, 1, 2] rfl
  refine va_callv (va_runV (C := "DoorServerModel") (As := []) (rest := []) ⟨hx, hb, hml, hown, hg⟩ (m_md5 l dC dI cT H.size mo r cd tm sn (tx + sl + 16) lz az na nt nr mw ml mk dq g9_81 f0 f11 (by first | assumption | omega) (by first | assumption | omega)) (cwV 0 hg (gI (List.forall_mem_append.mpr ⟨List.forall_mem_cons.mpr ⟨k_1224, List.forall_mem_cons.mpr ⟨k_1226, List.forall_mem_cons.mpr ⟨(big_sel (q := y_Md_md5) (n := 45) (by decide +kernel)), List.forall_mem_cons.mpr ⟨k_13, fun _ h => absurd h List.not_mem_nil⟩⟩⟩⟩, List.forall_mem_cons.mpr ⟨k_1227, fun _ h => h⟩⟩)) rfl rfl rfl (by decide +kernel) ⟨Nat.le_of_ble_eq_true rfl, Nat.le_of_ble_eq_true rfl⟩) ⟨fun a U g mk q => by obtain ⟨q0, q1, qP, qK, qD⟩ := q; exact ⟨q0, q1, qP, va_K.moved (u := U) (U := U.calling g mk a) (Vm.Alike.refl U.vm) qK, qD⟩, va_recv (q0 := 3) (ci := 12) hK hP rfl rfl, fun U hU hW => ⟨rfl, by rw [hU], by rw [hU]; exact hPc, va_K.moved hW.alike hK, hDc.weaken (fun _ _ _ _ => trivial)⟩⟩ rfl rfl hl.1 rfl (lv_room (Nat.le_of_ble_eq_true rfl)) d_Md_cover_32 ⟨Nat.le_of_ble_eq_true rfl, Nat.le_of_ble_eq_true rfl⟩) hS (fun q _ h => hFc q h) hFc (fun u t H1 locs ht hvm hw hB hz1 hk1 hS => ?_)
  obtain ⟨g9_94, g11_95⟩ := u
  try dsimp only at hw hB
  obtain ⟨hP1, hK1, hD1⟩ := hB
  rw [ht] at hP1
  obtain ⟨hP, hD⟩ := va_join (wr := [(r 7, .inl ((cT 0), 1000, .inl f7)), (r 3, .inl ((cT 0), 160, .inl f3)), (r 4, .inl ((cT 0), 4, .inl f4))]) (w1 := [(mo, .inr (12, mdG r cd tm (nI sn) (nI 0) (nI lz) (nI az) (nI na) (nI nt) (nI nr) mw ml mk dq)), (r 9, .inl ((cT 0), 1400, .inl g9_94)), (r 0, .inl ((cT 1), 64, .inr (.inl f0))), (r 11, .inl ((cT 0), 16, .inl g11_95))]) hP hD [3, 6, 1, 2] [0, 4, 5] rfl rfl (by decide) (by decide) hk1 hFc hP1 hD1
  have hw96 := hw
  clear hPc hDc hFc hz1 hk1 hP1 hK1 hD1
  generalize H1 = H at hP hS ⊢
  have hP : va_P (dC, dI) vcl [(r 7, .inl ((cT 0), 1000, .inl f7)), (r 3, .inl ((cT 0), 160, .inl f3)), (r 4, .inl ((cT 0), 4, .inl f4)), (mo, .inr (12, mdG r cd tm (nI sn) (nI 0) (nI lz) (nI az) (nI na) (nI nt) (nI nr) mw ml mk dq)), (r 9, .inl ((cT 0), 1400, .inl g9_94)), (r 0, .inl ((cT 1), 64, .inr (.inl f0))), (r 11, .inl ((cT 0), 16, .inl g11_95))] H := hP
  have hD : va_D A [(r 7, .inl ((cT 0), 1000, .inl f7)), (r 3, .inl ((cT 0), 160, .inl f3)), (r 4, .inl ((cT 0), 4, .inl f4)), (mo, .inr (12, mdG r cd tm (nI sn) (nI 0) (nI lz) (nI az) (nI na) (nI nt) (nI nr) mw ml mk dq)), (r 9, .inl ((cT 0), 1400, .inl g9_94)), (r 0, .inl ((cT 1), 64, .inr (.inl f0))), (r 11, .inl ((cT 0), 16, .inl g11_95))] := hD
  have k97 := hw96
  have hP9 := hP.sub (ws' := [(mo, .inr (12, mdG r cd tm (nI sn) (nI 0) (nI lz) (nI az) (nI na) (nI nt) (nI nr) mw ml mk dq)), (r 9, .inl ((cT 0), 1400, .inl g9_94)), (r 3, .inl ((cT 0), 160, .inl f3)), (r 4, .inl ((cT 0), 4, .inl f4)), (r 7, .inl ((cT 0), 1000, .inl f7)), (r 0, .inl ((cT 1), 64, .inr (.inl f0))), (r 11, .inl ((cT 0), 16, .inl g11_95))]) [3, 4, 1, 2, 0, 5, 6] rfl
  have hD9 := hD.sub (ws' := [(mo, .inr (12, mdG r cd tm (nI sn) (nI 0) (nI lz) (nI az) (nI na) (nI nt) (nI nr) mw ml mk dq)), (r 9, .inl ((cT 0), 1400, .inl g9_94)), (r 3, .inl ((cT 0), 160, .inl f3)), (r 4, .inl ((cT 0), 4, .inl f4)), (r 7, .inl ((cT 0), 1000, .inl f7)), (r 0, .inl ((cT 1), 64, .inr (.inl f0))), (r 11, .inl ((cT 0), 16, .inl g11_95))]) [3, 4, 1, 2, 0, 5, 6] (by decide) rfl
  exact W.vret hx hb hr (fun t ht hW => ⟨⟨⟨g9_94, g11_95⟩, rfl, by first | assumption | omega, by rw [ht]; exact hP9, va_K.moved hW.alike hK, hD9⟩, hS.F ht⟩) hS.2.2 d_Md_cover_35
set_option maxHeartbeats 4000000 in
set_option maxRecDepth 100000 in
/-- proof -/
theorem m_proof (l : Launch) (dC : Nat → ClassId) (dI : Nat → Nat → Nat) (cT : Nat → ClassId) (sz : Nat) (mo : Nat) (r : Nat → Nat) (cd : Int32) (tm : Int32) (sn : Nat) (tx : Nat) (lz : Nat) (az : Nat) (na : Nat) (nt : Nat) (nr : Nat) (mw : Int32) (ml : Int32) (mk : Int64) (dq : Int64) (f9 : Nat → Int32) (f12 : Nat → Int32) (f3 : Nat → Int32) (f4 : Nat → Int32) (f0 : Nat → Int64) (f11 : Nat → Int32) (f7 : Nat → Int32) (st : Nat) (sl : Nat) (at_ : Nat) (hst : st < 4) (hfz : f4 st = nI sl) (hsl : sl ≤ 40) (hsn : sn ≤ 1000) (hat : at_ ≤ 1000) (h11 : AB f11) : Met l y_Md_proof (Cond.code y_Md_proof b_Md_proof 4 (Option.none : Option Jvm.ClassFile.FieldType) :: BIG) ({ frames := 3, cells := 0, slots := 0, locals := 92 }) (va_Pc [.ref mo, .int (nI st), .int (nI at_)] (fun U => U.heap.size = sz ∧ va_P (dC, dI) vcl [(mo, .inr (12, mdG r cd tm (nI sn) (nI 0) (nI lz) (nI az) (nI na) (nI nt) (nI nr) mw ml mk dq)), (r 9, .inl ((cT 0), 1400, .inl f9)), (r 12, .inl ((cT 0), 1200, .inl f12)), (r 3, .inl ((cT 0), 160, .inl f3)), (r 4, .inl ((cT 0), 4, .inl f4)), (r 0, .inl ((cT 1), 64, .inr (.inl f0))), (r 11, .inl ((cT 0), 16, .inl f11)), (r 7, .inl ((cT 0), 1000, .inl f7))] U.heap ∧ va_K (dC, dI) vcl (tyL cT) U ∧ va_D (fun _ => True) [(mo, .inr (12, mdG r cd tm (nI sn) (nI 0) (nI lz) (nI az) (nI na) (nI nt) (nI nr) mw ml mk dq)), (r 9, .inl ((cT 0), 1400, .inl f9)), (r 12, .inl ((cT 0), 1200, .inl f12)), (r 3, .inl ((cT 0), 160, .inl f3)), (r 4, .inl ((cT 0), 4, .inl f4)), (r 0, .inl ((cT 1), 64, .inr (.inl f0))), (r 11, .inl ((cT 0), 16, .inl f11)), (r 7, .inl ((cT 0), 1000, .inl f7))])) (va_Qv (S := (Nat → Int32) × (Nat → Int32) × (Nat → Int32)) (fun u => match u with | (g9, g12, g11) => AB g11) (fun u t => match u with | (g9, g12, g11) => va_P (dC, dI) vcl [(mo, .inr (12, mdG r cd tm (nI sn) (nI 0) (nI lz) (nI az) (nI na) (nI nt) (nI nr) mw ml mk dq)), (r 9, .inl ((cT 0), 1400, .inl g9)), (r 12, .inl ((cT 0), 1200, .inl g12)), (r 3, .inl ((cT 0), 160, .inl f3)), (r 4, .inl ((cT 0), 4, .inl f4)), (r 0, .inl ((cT 1), 64, .inr (.inl f0))), (r 11, .inl ((cT 0), 16, .inl g11)), (r 7, .inl ((cT 0), 1000, .inl f7))] t.heap ∧ va_K (dC, dI) vcl (tyL cT) t ∧ va_D (va_A [(mo, .inr (12, mdG r cd tm (nI sn) (nI 0) (nI lz) (nI az) (nI na) (nI nt) (nI nr) mw ml mk dq)), (r 9, .inl ((cT 0), 1400, .inl f9)), (r 12, .inl ((cT 0), 1200, .inl f12)), (r 3, .inl ((cT 0), 160, .inl f3)), (r 4, .inl ((cT 0), 4, .inl f4)), (r 0, .inl ((cT 1), 64, .inr (.inl f0))), (r 11, .inl ((cT 0), 16, .inl f11)), (r 7, .inl ((cT 0), 1000, .inl f7))] sz) [(mo, .inr (12, mdG r cd tm (nI sn) (nI 0) (nI lz) (nI az) (nI na) (nI nt) (nI nr) mw ml mk dq)), (r 9, .inl ((cT 0), 1400, .inl g9)), (r 12, .inl ((cT 0), 1200, .inl g12)), (r 3, .inl ((cT 0), 160, .inl f3)), (r 4, .inl ((cT 0), 4, .inl f4)), (r 0, .inl ((cT 1), 64, .inr (.inl f0))), (r 11, .inl ((cT 0), 16, .inl g11)), (r 7, .inl ((cT 0), 1000, .inl f7))]) (va_A [(mo, .inr (12, mdG r cd tm (nI sn) (nI 0) (nI lz) (nI az) (nI na) (nI nt) (nI nr) mw ml mk dq)), (r 9, .inl ((cT 0), 1400, .inl f9)), (r 12, .inl ((cT 0), 1200, .inl f12)), (r 3, .inl ((cT 0), 160, .inl f3)), (r 4, .inl ((cT 0), 4, .inl f4)), (r 0, .inl ((cT 1), 64, .inr (.inl f0))), (r 11, .inl ((cT 0), 16, .inl f11)), (r 7, .inl ((cT 0), 1000, .inl f7))] sz)) 0 0 (va_A [(mo, .inr (12, mdG r cd tm (nI sn) (nI 0) (nI lz) (nI az) (nI na) (nI nt) (nI nr) mw ml mk dq)), (r 9, .inl ((cT 0), 1400, .inl f9)), (r 12, .inl ((cT 0), 1200, .inl f12)), (r 3, .inl ((cT 0), 160, .inl f3)), (r 4, .inl ((cT 0), 4, .inl f4)), (r 0, .inl ((cT 1), 64, .inr (.inl f0))), (r 11, .inl ((cT 0), 16, .inl f11)), (r 7, .inl ((cT 0), 1000, .inl f7))] sz) := by
  refine Met.ofW (cc := b_Md_proof) (maxL := 4) (ret := (Option.none : Option Jvm.ClassFile.FieldType)) (by decide) rfl ?_
  intro p e s m args below meth c s₁ B hml hv
  obtain ⟨hargs, hsz, hP, hK, hD0⟩ := hv
  have hx := B.exec
  have hb := B.bytes
  have hr := B.returns
  have hts := atoms_spec (ws := (Cond.code y_Md_proof b_Md_proof 4 (Option.none : Option Jvm.ClassFile.FieldType) :: BIG)) B.pre
  have hg : ∀ w ∈ BIG, w.before _ s = true := fun w h => hts w (List.mem_cons_of_mem _ h)
  have hown : s.vm.findClass "DoorServerModel" = some m.cls := findClass_of_methodNamed B.named
  have hlocks := B.notSynchronized
  subst hsz
  have hD := hD0.self (sz := s.heap.size)
  generalize hAe : va_A [(mo, .inr (12, mdG r cd tm (nI sn) (nI 0) (nI lz) (nI az) (nI na) (nI nt) (nI nr) mw ml mk dq)), (r 9, .inl ((cT 0), 1400, .inl f9)), (r 12, .inl ((cT 0), 1200, .inl f12)), (r 3, .inl ((cT 0), 160, .inl f3)), (r 4, .inl ((cT 0), 4, .inl f4)), (r 0, .inl ((cT 1), 64, .inr (.inl f0))), (r 11, .inl ((cT 0), 16, .inl f11)), (r 7, .inl ((cT 0), 1000, .inl f7))] s.heap.size = A at hD ⊢
  have hA : ∀ q : Nat, s.heap.size ≤ q → A q := fun q h => by rw [← hAe]; exact Or.inr h
  have hS : va_S A s.heap s.heap [] := va_S.rf
  have hl := lv_entry ([.ref mo, .int (nI st), .int (nI at_)]) (n := 4) (Nat.le_of_ble_eq_true rfl)
  refine W.eq (g2 := entryFrame m (List.toArray [.ref mo, .int (nI st), .int (nI at_)]) 4) (by rw [hargs]) ?_
  rw [lg_entry_eq]
  generalize (lg_sl ([.ref mo, .int (nI st), .int (nI at_)]) ++ List.replicate (4 - (lg_sl ([.ref mo, .int (nI st), .int (nI at_)])).length) Slot.unset).toArray = ls at hl ⊢
  have hl : lv_has ls 4 [(0, .ref mo), (1, .int (nI st)), (2, .int (nI at_))] := hl
  change W p l e ({ frames := 3, cells := 0, slots := 0, locals := 92 } : Room) s m args below meth c s.heap [] 0 0 _ _
  have hP : va_P (dC, dI) vcl [(mo, .inr (12, mdG r cd tm (nI sn) (nI 0) (nI lz) (nI az) (nI na) (nI nt) (nI nr) mw ml mk dq)), (r 9, .inl ((cT 0), 1400, .inl f9)), (r 12, .inl ((cT 0), 1200, .inl f12)), (r 3, .inl ((cT 0), 160, .inl f3)), (r 4, .inl ((cT 0), 4, .inl f4)), (r 0, .inl ((cT 1), 64, .inr (.inl f0))), (r 11, .inl ((cT 0), 16, .inl f11)), (r 7, .inl ((cT 0), 1000, .inl f7))] s.heap := hP
  refine lv_iconst (v := 0) hx hb d_Md_proof_0 (by decide) ?_
  refine lv_istore_n (lv' := [(3, .int 0), (0, .ref mo), (1, .int (nI st)), (2, .int (nI at_))]) hx hb d_Md_proof_1 rfl hl (by decide) rfl (fun ls hl => ?_)
  have hl := lv_sub hl [0, 1, 2, 3] (show _ = [(3, .int 0), (0, .ref mo), (1, .int (nI st)), (2, .int (nI at_))] from rfl)
  have L99 : ∀ (Q : State → Prop) (exit : ∀ (g9_98 : Nat → Int32) (H : Heap) (locs : List Loc) (ls : Array Slot), va_P (dC, dI) vcl [(mo, .inr (12, mdG r cd tm (nI sn) (nI (sn)) (nI lz) (nI az) (nI na) (nI nt) (nI nr) mw ml mk dq)), (r 9, .inl ((cT 0), 1400, .inl g9_98)), (r 12, .inl ((cT 0), 1200, .inl f12)), (r 3, .inl ((cT 0), 160, .inl f3)), (r 4, .inl ((cT 0), 4, .inl f4)), (r 0, .inl ((cT 1), 64, .inr (.inl f0))), (r 11, .inl ((cT 0), 16, .inl f11)), (r 7, .inl ((cT 0), 1000, .inl f7))] H → va_D A [(mo, .inr (12, mdG r cd tm (nI sn) (nI (sn)) (nI lz) (nI az) (nI na) (nI nt) (nI nr) mw ml mk dq)), (r 9, .inl ((cT 0), 1400, .inl g9_98)), (r 12, .inl ((cT 0), 1200, .inl f12)), (r 3, .inl ((cT 0), 160, .inl f3)), (r 4, .inl ((cT 0), 4, .inl f4)), (r 0, .inl ((cT 1), 64, .inr (.inl f0))), (r 11, .inl ((cT 0), 16, .inl f11)), (r 7, .inl ((cT 0), 1000, .inl f7))] → va_S A s.heap H locs → lv_has ls 4 [(3, .int (nI sn)), (0, .ref mo), (1, .int (nI st)), (2, .int (nI at_))] → W p l e ({ frames := 3, cells := 0, slots := 0, locals := 92 } : Room) s m args below meth c H locs 0 0 Q (F0 m 43 ls [])) (j8 i : Nat) (g9_98 : Nat → Int32) (H : Heap) (locs : List Loc) (ls : Array Slot), i + j8 = sn → va_P (dC, dI) vcl [(mo, .inr (12, mdG r cd tm (nI sn) (nI (i)) (nI lz) (nI az) (nI na) (nI nt) (nI nr) mw ml mk dq)), (r 9, .inl ((cT 0), 1400, .inl g9_98)), (r 12, .inl ((cT 0), 1200, .inl f12)), (r 3, .inl ((cT 0), 160, .inl f3)), (r 4, .inl ((cT 0), 4, .inl f4)), (r 0, .inl ((cT 1), 64, .inr (.inl f0))), (r 11, .inl ((cT 0), 16, .inl f11)), (r 7, .inl ((cT 0), 1000, .inl f7))] H → va_D A [(mo, .inr (12, mdG r cd tm (nI sn) (nI (i)) (nI lz) (nI az) (nI na) (nI nt) (nI nr) mw ml mk dq)), (r 9, .inl ((cT 0), 1400, .inl g9_98)), (r 12, .inl ((cT 0), 1200, .inl f12)), (r 3, .inl ((cT 0), 160, .inl f3)), (r 4, .inl ((cT 0), 4, .inl f4)), (r 0, .inl ((cT 1), 64, .inr (.inl f0))), (r 11, .inl ((cT 0), 16, .inl f11)), (r 7, .inl ((cT 0), 1000, .inl f7))] → va_S A s.heap H locs → lv_has ls 4 [(3, .int (nI i)), (0, .ref mo), (1, .int (nI st)), (2, .int (nI at_))] → W p l e ({ frames := 3, cells := 0, slots := 0, locals := 92 } : Room) s m args below meth c H locs 0 0 Q (F0 m 2 ls []) := by
    intro Q exit j8
    induction j8 with
    | zero => 
      intro i g9_98 H locs ls hij  hP hD hS hl
      have hij : sn = i := by omega
      refine lv_iload_n hx hb d_Md_proof_2 rfl (lv_at hl 0 rfl) ?_
      refine lv_aload_n hx hb d_Md_proof_3 rfl (lv_at hl 1 rfl) ?_
      refine va_get (D := (dC, dI)) (ci := 12) (v := (.int (nI sn))) (C := R_Md) (T := F_Md) (N := 45) hx hb hg in_Md hown hK hP 0 rfl rfl 8 (by decide) (hg _ k_1028) (fun _ h9 => h9) rfl d_Md_proof_4 ?_
      refine lv_icmp_ge (tgt := 43) hx hb d_Md_proof_7 (by decide) (fun hc100 => ?_) (fun hn9 => absurd (nI_le (by omega) (by omega)) hn9)
      subst hij
      exact exit g9_98 _ _ _  hP hD hS hl
    | succ j8 ih => 
      intro i g9_98 H locs ls hij  hP hD hS hl
      have hlt : i < sn := by omega
      have hlti := hlt
      refine lv_iload_n hx hb d_Md_proof_2 rfl (lv_at hl 0 rfl) ?_
      refine lv_aload_n hx hb d_Md_proof_3 rfl (lv_at hl 1 rfl) ?_
      refine va_get (D := (dC, dI)) (ci := 12) (v := (.int (nI sn))) (C := R_Md) (T := F_Md) (N := 45) hx hb hg in_Md hown hK hP 0 rfl rfl 8 (by decide) (hg _ k_1028) (fun _ h9 => h9) rfl d_Md_proof_4 ?_
      refine lv_icmp_ge (tgt := 43) hx hb d_Md_proof_7 (by decide) (fun hn9 => absurd hn9 (nI_ge (by omega) (by omega))) (fun hc101 => ?_)
      refine lv_aload_n hx hb d_Md_proof_10 rfl (lv_at hl 1 rfl) ?_
      refine lv_iload_n hx hb d_Md_proof_11 rfl (lv_at hl 0 rfl) ?_
      refine lv_iload_n hx hb d_Md_proof_12 rfl (lv_at hl 3 rfl) ?_
      refine lv_icmp_lt (tgt := 28) hx hb d_Md_proof_13 (by decide) (fun hc102 => ?_) (fun hc102 => ?_)
      · skip
        have n103 : i < at_ := (nI_ltI (a := i) (b := at_) (by omega) (by omega)).mp hc102
        refine lv_aload_n hx hb d_Md_proof_28 rfl (lv_at hl 1 rfl) ?_
        refine va_get (D := (dC, dI)) (ci := 12) (v := (.ref (r 7))) (C := R_Md) (T := F_Md) (N := 45) hx hb hg in_Md hown hK hP 0 rfl rfl 7 (by decide) (hg _ k_1027) (fun _ h9 => h9) rfl d_Md_proof_29 ?_
        refine lv_iload_n hx hb d_Md_proof_32 rfl (lv_at hl 0 rfl) ?_
        refine va_iald hx hb hK hP 7 0 rfl rfl (i := (nI i)) (vp_in_nI (N := 1000) (by omega) (by decide)) d_Md_proof_33 ?_
        refine lv_topi (fun x105 e_x105 => ?_)
        clear e_x105
        have hPc := hP.sub (ws' := [(mo, .inr (12, mdG r cd tm (nI sn) (nI i) (nI lz) (nI az) (nI na) (nI nt) (nI nr) mw ml mk dq)), (r 9, .inl ((cT 0), 1400, .inl g9_98))]) [0, 1] rfl
        have hDc := hD.sub (ws' := [(mo, .inr (12, mdG r cd tm (nI sn) (nI i) (nI lz) (nI az) (nI na) (nI nt) (nI nr) mw ml mk dq)), (r 9, .inl ((cT 0), 1400, .inl g9_98))]) [0, 1] (by decide) rfl
        have hFc := va_free (wc := [(mo, .inr (12, mdG r cd tm (nI sn) (nI i) (nI lz) (nI az) (nI na) (nI nt) (nI nr) mw ml mk dq)), (r 9, .inl ((cT 0), 1400, .inl g9_98))]) hD hS hA [0, 1] rfl
        refine va_callv (va_runV (C := "DoorServerModel") (As := [.int x105]) (rest := []) ⟨hx, hb, hml, hown, hg⟩ (m_say l dC dI cT H.size mo r cd tm sn i lz az na nt nr mw ml mk dq g9_98 x105 (by first | assumption | omega)) (cwV 1 hg (gI (List.forall_mem_append.mpr ⟨List.forall_mem_cons.mpr ⟨k_1220, List.forall_mem_cons.mpr ⟨k_1222, List.forall_mem_cons.mpr ⟨(big_sel (q := y_Md_say) (n := 45) (by decide +kernel)), List.forall_mem_cons.mpr ⟨k_13, fun _ h => absurd h List.not_mem_nil⟩⟩⟩⟩, List.forall_mem_cons.mpr ⟨k_1223, fun _ h => h⟩⟩)) rfl rfl rfl (by decide +kernel) ⟨Nat.le_of_ble_eq_true rfl, Nat.le_of_ble_eq_true rfl⟩) ⟨fun a U g mk q => by obtain ⟨q0, q1, qP, qK, qD⟩ := q; exact ⟨q0, q1, qP, va_K.moved (u := U) (U := U.calling g mk a) (Vm.Alike.refl U.vm) qK, qD⟩, va_recv (q0 := 0) (ci := 12) hK hP rfl rfl, fun U hU hW => ⟨rfl, by rw [hU], by rw [hU]; exact hPc, va_K.moved hW.alike hK, hDc.weaken (fun _ _ _ _ => trivial)⟩⟩ rfl rfl hl.1 rfl (lv_room (Nat.le_of_ble_eq_true rfl)) d_Md_proof_34 ⟨Nat.le_of_ble_eq_true rfl, Nat.le_of_ble_eq_true rfl⟩) hS (fun q _ h => hFc q h) hFc (fun u t H1 locs ht hvm hw hB hz1 hk1 hS => ?_)
        obtain ⟨g9_106, rfl⟩ : ∃ z, z = u := ⟨_, rfl⟩
        try dsimp only at hw hB
        obtain ⟨hP1, hK1, hD1⟩ := hB
        rw [ht] at hP1
        obtain ⟨hP, hD⟩ := va_join (wr := [(r 12, .inl ((cT 0), 1200, .inl f12)), (r 3, .inl ((cT 0), 160, .inl f3)), (r 4, .inl ((cT 0), 4, .inl f4)), (r 0, .inl ((cT 1), 64, .inr (.inl f0))), (r 11, .inl ((cT 0), 16, .inl f11)), (r 7, .inl ((cT 0), 1000, .inl f7))]) (w1 := [(mo, .inr (12, mdG r cd tm (nI sn) (nI (i + 1)) (nI lz) (nI az) (nI na) (nI nt) (nI nr) mw ml mk dq)), (r 9, .inl ((cT 0), 1400, .inl g9_106))]) hP hD [0, 1] [2, 3, 4, 5, 6, 7] rfl rfl (by decide) (by decide) hk1 hFc hP1 hD1
        have hw107 := hw
        clear hPc hDc hFc hz1 hk1 hP1 hK1 hD1
        generalize H1 = H at hP hS ⊢
        have hP : va_P (dC, dI) vcl [(r 12, .inl ((cT 0), 1200, .inl f12)), (r 3, .inl ((cT 0), 160, .inl f3)), (r 4, .inl ((cT 0), 4, .inl f4)), (r 0, .inl ((cT 1), 64, .inr (.inl f0))), (r 11, .inl ((cT 0), 16, .inl f11)), (r 7, .inl ((cT 0), 1000, .inl f7)), (mo, .inr (12, mdG r cd tm (nI sn) (nI (i + 1)) (nI lz) (nI az) (nI na) (nI nt) (nI nr) mw ml mk dq)), (r 9, .inl ((cT 0), 1400, .inl g9_106))] H := hP
        have hD : va_D A [(r 12, .inl ((cT 0), 1200, .inl f12)), (r 3, .inl ((cT 0), 160, .inl f3)), (r 4, .inl ((cT 0), 4, .inl f4)), (r 0, .inl ((cT 1), 64, .inr (.inl f0))), (r 11, .inl ((cT 0), 16, .inl f11)), (r 7, .inl ((cT 0), 1000, .inl f7)), (mo, .inr (12, mdG r cd tm (nI sn) (nI (i + 1)) (nI lz) (nI az) (nI na) (nI nt) (nI nr) mw ml mk dq)), (r 9, .inl ((cT 0), 1400, .inl g9_106))] := hD
        refine lv_iinc (k := 0) (v := nI (i + 1)) (lv' := [(3, .int (nI (i + 1))), (0, .ref mo), (1, .int (nI st)), (2, .int (nI at_))]) hx hb d_Md_proof_37 hl rfl (nI_1 i) (by decide) rfl (fun ls hl => ?_)
        refine lv_goto (tgt := 2) hx hb d_Md_proof_40 (by decide) ?_
        have hl := lv_sub hl [0, 1, 2, 3] (show _ = [(3, .int (nI (i + 1))), (0, .ref mo), (1, .int (nI st)), (2, .int (nI at_))] from rfl)
        have hP := hP.sub (ws' := [(mo, .inr (12, mdG r cd tm (nI sn) (nI (i + 1)) (nI lz) (nI az) (nI na) (nI nt) (nI nr) mw ml mk dq)), (r 9, .inl ((cT 0), 1400, .inl g9_106)), (r 12, .inl ((cT 0), 1200, .inl f12)), (r 3, .inl ((cT 0), 160, .inl f3)), (r 4, .inl ((cT 0), 4, .inl f4)), (r 0, .inl ((cT 1), 64, .inr (.inl f0))), (r 11, .inl ((cT 0), 16, .inl f11)), (r 7, .inl ((cT 0), 1000, .inl f7))]) [6, 7, 0, 1, 2, 3, 4, 5] rfl
        have hD := hD.sub (ws' := [(mo, .inr (12, mdG r cd tm (nI sn) (nI (i + 1)) (nI lz) (nI az) (nI na) (nI nt) (nI nr) mw ml mk dq)), (r 9, .inl ((cT 0), 1400, .inl g9_106)), (r 12, .inl ((cT 0), 1200, .inl f12)), (r 3, .inl ((cT 0), 160, .inl f3)), (r 4, .inl ((cT 0), 4, .inl f4)), (r 0, .inl ((cT 1), 64, .inr (.inl f0))), (r 11, .inl ((cT 0), 16, .inl f11)), (r 7, .inl ((cT 0), 1000, .inl f7))]) [6, 7, 0, 1, 2, 3, 4, 5] (by decide) rfl
        exact ih (i + 1) _ _ _ _ (by omega)  hP hD hS hl
      · skip
        have n104 : at_ ≤ i := Nat.not_lt.mp (fun h7 => hc102 ((nI_ltI (a := i) (b := at_) (by omega) (by omega)).mpr h7))
        refine lv_iload_n hx hb d_Md_proof_16 rfl (lv_at hl 0 rfl) ?_
        refine lv_iload_n hx hb d_Md_proof_17 rfl (lv_at hl 3 rfl) ?_
        refine lv_bipush (v := 16) hx hb d_Md_proof_18 (by decide) ?_
        refine lv_iadd hx hb d_Md_proof_20 ?_
        refine lv_topi (fun x109 e108 => ?_)
        obtain rfl : x109 = nI (at_ + 16) := by rw [e108]; exact nI_add at_ 16
        refine lv_icmp_ge (tgt := 28) hx hb d_Md_proof_21 (by decide) (fun hc110 => ?_) (fun hc110 => ?_)
        · skip
          have n111 : at_ + 16 ≤ i := (nI_leI (a := at_ + 16) (b := i) (by omega) (by omega)).mp hc110
          refine lv_aload_n hx hb d_Md_proof_28 rfl (lv_at hl 1 rfl) ?_
          refine va_get (D := (dC, dI)) (ci := 12) (v := (.ref (r 7))) (C := R_Md) (T := F_Md) (N := 45) hx hb hg in_Md hown hK hP 0 rfl rfl 7 (by decide) (hg _ k_1027) (fun _ h9 => h9) rfl d_Md_proof_29 ?_
          refine lv_iload_n hx hb d_Md_proof_32 rfl (lv_at hl 0 rfl) ?_
          refine va_iald hx hb hK hP 7 0 rfl rfl (i := (nI i)) (vp_in_nI (N := 1000) (by omega) (by decide)) d_Md_proof_33 ?_
          refine lv_topi (fun x113 e_x113 => ?_)
          clear e_x113
          have hPc := hP.sub (ws' := [(mo, .inr (12, mdG r cd tm (nI sn) (nI i) (nI lz) (nI az) (nI na) (nI nt) (nI nr) mw ml mk dq)), (r 9, .inl ((cT 0), 1400, .inl g9_98))]) [0, 1] rfl
          have hDc := hD.sub (ws' := [(mo, .inr (12, mdG r cd tm (nI sn) (nI i) (nI lz) (nI az) (nI na) (nI nt) (nI nr) mw ml mk dq)), (r 9, .inl ((cT 0), 1400, .inl g9_98))]) [0, 1] (by decide) rfl
          have hFc := va_free (wc := [(mo, .inr (12, mdG r cd tm (nI sn) (nI i) (nI lz) (nI az) (nI na) (nI nt) (nI nr) mw ml mk dq)), (r 9, .inl ((cT 0), 1400, .inl g9_98))]) hD hS hA [0, 1] rfl
          refine va_callv (va_runV (C := "DoorServerModel") (As := [.int x113]) (rest := []) ⟨hx, hb, hml, hown, hg⟩ (m_say l dC dI cT H.size mo r cd tm sn i lz az na nt nr mw ml mk dq g9_98 x113 (by first | assumption | omega)) (cwV 1 hg (gI (List.forall_mem_append.mpr ⟨List.forall_mem_cons.mpr ⟨k_1220, List.forall_mem_cons.mpr ⟨k_1222, List.forall_mem_cons.mpr ⟨(big_sel (q := y_Md_say) (n := 45) (by decide +kernel)), List.forall_mem_cons.mpr ⟨k_13, fun _ h => absurd h List.not_mem_nil⟩⟩⟩⟩, List.forall_mem_cons.mpr ⟨k_1223, fun _ h => h⟩⟩)) rfl rfl rfl (by decide +kernel) ⟨Nat.le_of_ble_eq_true rfl, Nat.le_of_ble_eq_true rfl⟩) ⟨fun a U g mk q => by obtain ⟨q0, q1, qP, qK, qD⟩ := q; exact ⟨q0, q1, qP, va_K.moved (u := U) (U := U.calling g mk a) (Vm.Alike.refl U.vm) qK, qD⟩, va_recv (q0 := 0) (ci := 12) hK hP rfl rfl, fun U hU hW => ⟨rfl, by rw [hU], by rw [hU]; exact hPc, va_K.moved hW.alike hK, hDc.weaken (fun _ _ _ _ => trivial)⟩⟩ rfl rfl hl.1 rfl (lv_room (Nat.le_of_ble_eq_true rfl)) d_Md_proof_34 ⟨Nat.le_of_ble_eq_true rfl, Nat.le_of_ble_eq_true rfl⟩) hS (fun q _ h => hFc q h) hFc (fun u t H1 locs ht hvm hw hB hz1 hk1 hS => ?_)
          obtain ⟨g9_114, rfl⟩ : ∃ z, z = u := ⟨_, rfl⟩
          try dsimp only at hw hB
          obtain ⟨hP1, hK1, hD1⟩ := hB
          rw [ht] at hP1
          obtain ⟨hP, hD⟩ := va_join (wr := [(r 12, .inl ((cT 0), 1200, .inl f12)), (r 3, .inl ((cT 0), 160, .inl f3)), (r 4, .inl ((cT 0), 4, .inl f4)), (r 0, .inl ((cT 1), 64, .inr (.inl f0))), (r 11, .inl ((cT 0), 16, .inl f11)), (r 7, .inl ((cT 0), 1000, .inl f7))]) (w1 := [(mo, .inr (12, mdG r cd tm (nI sn) (nI (i + 1)) (nI lz) (nI az) (nI na) (nI nt) (nI nr) mw ml mk dq)), (r 9, .inl ((cT 0), 1400, .inl g9_114))]) hP hD [0, 1] [2, 3, 4, 5, 6, 7] rfl rfl (by decide) (by decide) hk1 hFc hP1 hD1
          have hw115 := hw
          clear hPc hDc hFc hz1 hk1 hP1 hK1 hD1
          generalize H1 = H at hP hS ⊢
          have hP : va_P (dC, dI) vcl [(r 12, .inl ((cT 0), 1200, .inl f12)), (r 3, .inl ((cT 0), 160, .inl f3)), (r 4, .inl ((cT 0), 4, .inl f4)), (r 0, .inl ((cT 1), 64, .inr (.inl f0))), (r 11, .inl ((cT 0), 16, .inl f11)), (r 7, .inl ((cT 0), 1000, .inl f7)), (mo, .inr (12, mdG r cd tm (nI sn) (nI (i + 1)) (nI lz) (nI az) (nI na) (nI nt) (nI nr) mw ml mk dq)), (r 9, .inl ((cT 0), 1400, .inl g9_114))] H := hP
          have hD : va_D A [(r 12, .inl ((cT 0), 1200, .inl f12)), (r 3, .inl ((cT 0), 160, .inl f3)), (r 4, .inl ((cT 0), 4, .inl f4)), (r 0, .inl ((cT 1), 64, .inr (.inl f0))), (r 11, .inl ((cT 0), 16, .inl f11)), (r 7, .inl ((cT 0), 1000, .inl f7)), (mo, .inr (12, mdG r cd tm (nI sn) (nI (i + 1)) (nI lz) (nI az) (nI na) (nI nt) (nI nr) mw ml mk dq)), (r 9, .inl ((cT 0), 1400, .inl g9_114))] := hD
          refine lv_iinc (k := 0) (v := nI (i + 1)) (lv' := [(3, .int (nI (i + 1))), (0, .ref mo), (1, .int (nI st)), (2, .int (nI at_))]) hx hb d_Md_proof_37 hl rfl (nI_1 i) (by decide) rfl (fun ls hl => ?_)
          refine lv_goto (tgt := 2) hx hb d_Md_proof_40 (by decide) ?_
          have hl := lv_sub hl [0, 1, 2, 3] (show _ = [(3, .int (nI (i + 1))), (0, .ref mo), (1, .int (nI st)), (2, .int (nI at_))] from rfl)
          have hP := hP.sub (ws' := [(mo, .inr (12, mdG r cd tm (nI sn) (nI (i + 1)) (nI lz) (nI az) (nI na) (nI nt) (nI nr) mw ml mk dq)), (r 9, .inl ((cT 0), 1400, .inl g9_114)), (r 12, .inl ((cT 0), 1200, .inl f12)), (r 3, .inl ((cT 0), 160, .inl f3)), (r 4, .inl ((cT 0), 4, .inl f4)), (r 0, .inl ((cT 1), 64, .inr (.inl f0))), (r 11, .inl ((cT 0), 16, .inl f11)), (r 7, .inl ((cT 0), 1000, .inl f7))]) [6, 7, 0, 1, 2, 3, 4, 5] rfl
          have hD := hD.sub (ws' := [(mo, .inr (12, mdG r cd tm (nI sn) (nI (i + 1)) (nI lz) (nI az) (nI na) (nI nt) (nI nr) mw ml mk dq)), (r 9, .inl ((cT 0), 1400, .inl g9_114)), (r 12, .inl ((cT 0), 1200, .inl f12)), (r 3, .inl ((cT 0), 160, .inl f3)), (r 4, .inl ((cT 0), 4, .inl f4)), (r 0, .inl ((cT 1), 64, .inr (.inl f0))), (r 11, .inl ((cT 0), 16, .inl f11)), (r 7, .inl ((cT 0), 1000, .inl f7))]) [6, 7, 0, 1, 2, 3, 4, 5] (by decide) rfl
          exact ih (i + 1) _ _ _ _ (by omega)  hP hD hS hl
        · skip
          have n112 : i < at_ + 16 := Nat.not_le.mp (fun h7 => hc110 ((nI_leI (a := at_ + 16) (b := i) (by omega) (by omega)).mpr h7))
          refine lv_iconst (v := 0) hx hb d_Md_proof_24 (by decide) ?_
          refine lv_goto (tgt := 34) hx hb d_Md_proof_25 (by decide) ?_
          have hPc := hP.sub (ws' := [(mo, .inr (12, mdG r cd tm (nI sn) (nI i) (nI lz) (nI az) (nI na) (nI nt) (nI nr) mw ml mk dq)), (r 9, .inl ((cT 0), 1400, .inl g9_98))]) [0, 1] rfl
          have hDc := hD.sub (ws' := [(mo, .inr (12, mdG r cd tm (nI sn) (nI i) (nI lz) (nI az) (nI na) (nI nt) (nI nr) mw ml mk dq)), (r 9, .inl ((cT 0), 1400, .inl g9_98))]) [0, 1] (by decide) rfl
          have hFc := va_free (wc := [(mo, .inr (12, mdG r cd tm (nI sn) (nI i) (nI lz) (nI az) (nI na) (nI nt) (nI nr) mw ml mk dq)), (r 9, .inl ((cT 0), 1400, .inl g9_98))]) hD hS hA [0, 1] rfl
          refine va_callv (va_runV (C := "DoorServerModel") (As := [.int 0]) (rest := []) ⟨hx, hb, hml, hown, hg⟩ (m_say l dC dI cT H.size mo r cd tm sn i lz az na nt nr mw ml mk dq g9_98 0 (by first | assumption | omega)) (cwV 1 hg (gI (List.forall_mem_append.mpr ⟨List.forall_mem_cons.mpr ⟨k_1220, List.forall_mem_cons.mpr ⟨k_1222, List.forall_mem_cons.mpr ⟨(big_sel (q := y_Md_say) (n := 45) (by decide +kernel)), List.forall_mem_cons.mpr ⟨k_13, fun _ h => absurd h List.not_mem_nil⟩⟩⟩⟩, List.forall_mem_cons.mpr ⟨k_1223, fun _ h => h⟩⟩)) rfl rfl rfl (by decide +kernel) ⟨Nat.le_of_ble_eq_true rfl, Nat.le_of_ble_eq_true rfl⟩) ⟨fun a U g mk q => by obtain ⟨q0, q1, qP, qK, qD⟩ := q; exact ⟨q0, q1, qP, va_K.moved (u := U) (U := U.calling g mk a) (Vm.Alike.refl U.vm) qK, qD⟩, va_recv (q0 := 0) (ci := 12) hK hP rfl rfl, fun U hU hW => ⟨rfl, by rw [hU], by rw [hU]; exact hPc, va_K.moved hW.alike hK, hDc.weaken (fun _ _ _ _ => trivial)⟩⟩ rfl rfl hl.1 rfl (lv_room (Nat.le_of_ble_eq_true rfl)) d_Md_proof_34 ⟨Nat.le_of_ble_eq_true rfl, Nat.le_of_ble_eq_true rfl⟩) hS (fun q _ h => hFc q h) hFc (fun u t H1 locs ht hvm hw hB hz1 hk1 hS => ?_)
          obtain ⟨g9_116, rfl⟩ : ∃ z, z = u := ⟨_, rfl⟩
          try dsimp only at hw hB
          obtain ⟨hP1, hK1, hD1⟩ := hB
          rw [ht] at hP1
          obtain ⟨hP, hD⟩ := va_join (wr := [(r 12, .inl ((cT 0), 1200, .inl f12)), (r 3, .inl ((cT 0), 160, .inl f3)), (r 4, .inl ((cT 0), 4, .inl f4)), (r 0, .inl ((cT 1), 64, .inr (.inl f0))), (r 11, .inl ((cT 0), 16, .inl f11)), (r 7, .inl ((cT 0), 1000, .inl f7))]) (w1 := [(mo, .inr (12, mdG r cd tm (nI sn) (nI (i + 1)) (nI lz) (nI az) (nI na) (nI nt) (nI nr) mw ml mk dq)), (r 9, .inl ((cT 0), 1400, .inl g9_116))]) hP hD [0, 1] [2, 3, 4, 5, 6, 7] rfl rfl (by decide) (by decide) hk1 hFc hP1 hD1
          have hw117 := hw
          clear hPc hDc hFc hz1 hk1 hP1 hK1 hD1
          generalize H1 = H at hP hS ⊢
          have hP : va_P (dC, dI) vcl [(r 12, .inl ((cT 0), 1200, .inl f12)), (r 3, .inl ((cT 0), 160, .inl f3)), (r 4, .inl ((cT 0), 4, .inl f4)), (r 0, .inl ((cT 1), 64, .inr (.inl f0))), (r 11, .inl ((cT 0), 16, .inl f11)), (r 7, .inl ((cT 0), 1000, .inl f7)), (mo, .inr (12, mdG r cd tm (nI sn) (nI (i + 1)) (nI lz) (nI az) (nI na) (nI nt) (nI nr) mw ml mk dq)), (r 9, .inl ((cT 0), 1400, .inl g9_116))] H := hP
          have hD : va_D A [(r 12, .inl ((cT 0), 1200, .inl f12)), (r 3, .inl ((cT 0), 160, .inl f3)), (r 4, .inl ((cT 0), 4, .inl f4)), (r 0, .inl ((cT 1), 64, .inr (.inl f0))), (r 11, .inl ((cT 0), 16, .inl f11)), (r 7, .inl ((cT 0), 1000, .inl f7)), (mo, .inr (12, mdG r cd tm (nI sn) (nI (i + 1)) (nI lz) (nI az) (nI na) (nI nt) (nI nr) mw ml mk dq)), (r 9, .inl ((cT 0), 1400, .inl g9_116))] := hD
          refine lv_iinc (k := 0) (v := nI (i + 1)) (lv' := [(3, .int (nI (i + 1))), (0, .ref mo), (1, .int (nI st)), (2, .int (nI at_))]) hx hb d_Md_proof_37 hl rfl (nI_1 i) (by decide) rfl (fun ls hl => ?_)
          refine lv_goto (tgt := 2) hx hb d_Md_proof_40 (by decide) ?_
          have hl := lv_sub hl [0, 1, 2, 3] (show _ = [(3, .int (nI (i + 1))), (0, .ref mo), (1, .int (nI st)), (2, .int (nI at_))] from rfl)
          have hP := hP.sub (ws' := [(mo, .inr (12, mdG r cd tm (nI sn) (nI (i + 1)) (nI lz) (nI az) (nI na) (nI nt) (nI nr) mw ml mk dq)), (r 9, .inl ((cT 0), 1400, .inl g9_116)), (r 12, .inl ((cT 0), 1200, .inl f12)), (r 3, .inl ((cT 0), 160, .inl f3)), (r 4, .inl ((cT 0), 4, .inl f4)), (r 0, .inl ((cT 1), 64, .inr (.inl f0))), (r 11, .inl ((cT 0), 16, .inl f11)), (r 7, .inl ((cT 0), 1000, .inl f7))]) [6, 7, 0, 1, 2, 3, 4, 5] rfl
          have hD := hD.sub (ws' := [(mo, .inr (12, mdG r cd tm (nI sn) (nI (i + 1)) (nI lz) (nI az) (nI na) (nI nt) (nI nr) mw ml mk dq)), (r 9, .inl ((cT 0), 1400, .inl g9_116)), (r 12, .inl ((cT 0), 1200, .inl f12)), (r 3, .inl ((cT 0), 160, .inl f3)), (r 4, .inl ((cT 0), 4, .inl f4)), (r 0, .inl ((cT 1), 64, .inr (.inl f0))), (r 11, .inl ((cT 0), 16, .inl f11)), (r 7, .inl ((cT 0), 1000, .inl f7))]) [6, 7, 0, 1, 2, 3, 4, 5] (by decide) rfl
          exact ih (i + 1) _ _ _ _ (by omega)  hP hD hS hl
  refine L99 _ (fun g9_98 H locs ls  hP hD hS hl => ?_) (sn - 0) 0 f9 s.heap _ ls (by omega)  hP hD hS hl
  refine lv_aload_n hx hb d_Md_proof_43 rfl (lv_at hl 1 rfl) ?_
  refine lv_iload_n hx hb d_Md_proof_44 rfl (lv_at hl 2 rfl) ?_
  have hPc := hP.sub (ws' := [(mo, .inr (12, mdG r cd tm (nI sn) (nI sn) (nI lz) (nI az) (nI na) (nI nt) (nI nr) mw ml mk dq)), (r 9, .inl ((cT 0), 1400, .inl g9_98)), (r 12, .inl ((cT 0), 1200, .inl f12)), (r 3, .inl ((cT 0), 160, .inl f3)), (r 4, .inl ((cT 0), 4, .inl f4)), (r 0, .inl ((cT 1), 64, .inr (.inl f0))), (r 11, .inl ((cT 0), 16, .inl f11))]) [0, 1, 2, 3, 4, 5, 6] rfl
  have hDc := hD.sub (ws' := [(mo, .inr (12, mdG r cd tm (nI sn) (nI sn) (nI lz) (nI az) (nI na) (nI nt) (nI nr) mw ml mk dq)), (r 9, .inl ((cT 0), 1400, .inl g9_98)), (r 12, .inl ((cT 0), 1200, .inl f12)), (r 3, .inl ((cT 0), 160, .inl f3)), (r 4, .inl ((cT 0), 4, .inl f4)), (r 0, .inl ((cT 1), 64, .inr (.inl f0))), (r 11, .inl ((cT 0), 16, .inl f11))]) [0, 1, 2, 3, 4, 5, 6] (by decide) rfl
  have hFc := va_free (wc := [(mo, .inr (12, mdG r cd tm (nI sn) (nI sn) (nI lz) (nI az) (nI na) (nI nt) (nI nr) mw ml mk dq)), (r 9, .inl ((cT 0), 1400, .inl g9_98)), (r 12, .inl ((cT 0), 1200, .inl f12)), (r 3, .inl ((cT 0), 160, .inl f3)), (r 4, .inl ((cT 0), 4, .inl f4)), (r 0, .inl ((cT 1), 64, .inr (.inl f0))), (r 11, .inl ((cT 0), 16, .inl f11))]) hD hS hA [0, 1, 2, 3, 4, 5, 6] rfl
  refine va_callv (va_runV (C := "DoorServerModel") (As := [.int (nI st)]) (rest := []) ⟨hx, hb, hml, hown, hg⟩ (m_keyed l dC dI cT H.size mo r cd tm sn sn lz az na nt nr mw ml mk dq g9_98 f12 f3 f4 f0 f11 st sl (by first | assumption | omega) (by first | assumption | omega) (by first | assumption | omega) (by first | assumption | omega) (by first | assumption | omega)) (cwV 1 hg (gI (List.forall_mem_append.mpr ⟨List.forall_mem_cons.mpr ⟨k_1267, List.forall_mem_cons.mpr ⟨k_1269, List.forall_mem_cons.mpr ⟨(big_sel (q := y_Md_keyed) (n := 45) (by decide +kernel)), List.forall_mem_cons.mpr ⟨k_13, fun _ h => absurd h List.not_mem_nil⟩⟩⟩⟩, List.forall_mem_cons.mpr ⟨k_1270, fun _ h => h⟩⟩)) rfl rfl rfl (by decide +kernel) ⟨Nat.le_of_ble_eq_true rfl, Nat.le_of_ble_eq_true rfl⟩) ⟨fun a U g mk q => by obtain ⟨q0, q1, qP, qK, qD⟩ := q; exact ⟨q0, q1, qP, va_K.moved (u := U) (U := U.calling g mk a) (Vm.Alike.refl U.vm) qK, qD⟩, va_recv (q0 := 0) (ci := 12) hK hP rfl rfl, fun U hU hW => ⟨rfl, by rw [hU], by rw [hU]; exact hPc, va_K.moved hW.alike hK, hDc.weaken (fun _ _ _ _ => trivial)⟩⟩ rfl rfl hl.1 rfl (lv_room (Nat.le_of_ble_eq_true rfl)) d_Md_proof_45 ⟨Nat.le_of_ble_eq_true rfl, Nat.le_of_ble_eq_true rfl⟩) hS (fun q _ h => hFc q h) hFc (fun u t H1 locs ht hvm hw hB hz1 hk1 hS => ?_)
  obtain ⟨g9_118, g12_119, g11_120⟩ := u
  try dsimp only at hw hB
  obtain ⟨hP1, hK1, hD1⟩ := hB
  rw [ht] at hP1
  obtain ⟨hP, hD⟩ := va_join (wr := [(r 7, .inl ((cT 0), 1000, .inl f7))]) (w1 := [(mo, .inr (12, mdG r cd tm (nI sn) (nI 0) (nI lz) (nI az) (nI na) (nI nt) (nI nr) mw ml mk dq)), (r 9, .inl ((cT 0), 1400, .inl g9_118)), (r 12, .inl ((cT 0), 1200, .inl g12_119)), (r 3, .inl ((cT 0), 160, .inl f3)), (r 4, .inl ((cT 0), 4, .inl f4)), (r 0, .inl ((cT 1), 64, .inr (.inl f0))), (r 11, .inl ((cT 0), 16, .inl g11_120))]) hP hD [0, 1, 2, 3, 4, 5, 6] [7] rfl rfl (by decide) (by decide) hk1 hFc hP1 hD1
  have hw121 := hw
  clear hPc hDc hFc hz1 hk1 hP1 hK1 hD1
  generalize H1 = H at hP hS ⊢
  have hP : va_P (dC, dI) vcl [(r 7, .inl ((cT 0), 1000, .inl f7)), (mo, .inr (12, mdG r cd tm (nI sn) (nI 0) (nI lz) (nI az) (nI na) (nI nt) (nI nr) mw ml mk dq)), (r 9, .inl ((cT 0), 1400, .inl g9_118)), (r 12, .inl ((cT 0), 1200, .inl g12_119)), (r 3, .inl ((cT 0), 160, .inl f3)), (r 4, .inl ((cT 0), 4, .inl f4)), (r 0, .inl ((cT 1), 64, .inr (.inl f0))), (r 11, .inl ((cT 0), 16, .inl g11_120))] H := hP
  have hD : va_D A [(r 7, .inl ((cT 0), 1000, .inl f7)), (mo, .inr (12, mdG r cd tm (nI sn) (nI 0) (nI lz) (nI az) (nI na) (nI nt) (nI nr) mw ml mk dq)), (r 9, .inl ((cT 0), 1400, .inl g9_118)), (r 12, .inl ((cT 0), 1200, .inl g12_119)), (r 3, .inl ((cT 0), 160, .inl f3)), (r 4, .inl ((cT 0), 4, .inl f4)), (r 0, .inl ((cT 1), 64, .inr (.inl f0))), (r 11, .inl ((cT 0), 16, .inl g11_120))] := hD
  have k122 := hw121
  have hP9 := hP.sub (ws' := [(mo, .inr (12, mdG r cd tm (nI sn) (nI 0) (nI lz) (nI az) (nI na) (nI nt) (nI nr) mw ml mk dq)), (r 9, .inl ((cT 0), 1400, .inl g9_118)), (r 12, .inl ((cT 0), 1200, .inl g12_119)), (r 3, .inl ((cT 0), 160, .inl f3)), (r 4, .inl ((cT 0), 4, .inl f4)), (r 0, .inl ((cT 1), 64, .inr (.inl f0))), (r 11, .inl ((cT 0), 16, .inl g11_120)), (r 7, .inl ((cT 0), 1000, .inl f7))]) [1, 2, 3, 4, 5, 6, 7, 0] rfl
  have hD9 := hD.sub (ws' := [(mo, .inr (12, mdG r cd tm (nI sn) (nI 0) (nI lz) (nI az) (nI na) (nI nt) (nI nr) mw ml mk dq)), (r 9, .inl ((cT 0), 1400, .inl g9_118)), (r 12, .inl ((cT 0), 1200, .inl g12_119)), (r 3, .inl ((cT 0), 160, .inl f3)), (r 4, .inl ((cT 0), 4, .inl f4)), (r 0, .inl ((cT 1), 64, .inr (.inl f0))), (r 11, .inl ((cT 0), 16, .inl g11_120)), (r 7, .inl ((cT 0), 1000, .inl f7))]) [1, 2, 3, 4, 5, 6, 7, 0] (by decide) rfl
  exact W.vret hx hb hr (fun t ht hW => ⟨⟨⟨g9_118, g12_119, g11_120⟩, rfl, by first | assumption | omega, by rw [ht]; exact hP9, va_K.moved hW.alike hK, hD9⟩, hS.F ht⟩) hS.2.2 d_Md_proof_48
set_option maxHeartbeats 4000000 in
set_option maxRecDepth 100000 in
/-- authenticator -/
theorem m_auth (l : Launch) (dC : Nat → ClassId) (dI : Nat → Nat → Nat) (cT : Nat → ClassId) (sz : Nat) (mo : Nat) (r : Nat → Nat) (cd : Int32) (tm : Int32) (sn : Nat) (tx : Nat) (lz : Nat) (az : Nat) (na : Nat) (nt : Nat) (nr : Nat) (mw : Int32) (ml : Int32) (mk : Int64) (dq : Int64) (f9 : Nat → Int32) (f3 : Nat → Int32) (f4 : Nat → Int32) (f0 : Nat → Int64) (f11 : Nat → Int32) (f7 : Nat → Int32) (st : Nat) (sl : Nat) (hst : st < 4) (hfz : f4 st = nI sl) (hsl : sl ≤ 40) (hsn : sn ≤ 1000) (h11 : AB f11) : Met l y_Md_authenticator (Cond.code y_Md_authenticator b_Md_authenticator 3 (Option.none : Option Jvm.ClassFile.FieldType) :: BIG) ({ frames := 2, cells := 0, slots := 0, locals := 69 }) (va_Pc [.ref mo, .int (nI st)] (fun U => U.heap.size = sz ∧ va_P (dC, dI) vcl [(mo, .inr (12, mdG r cd tm (nI sn) (nI 0) (nI lz) (nI az) (nI na) (nI nt) (nI nr) mw ml mk dq)), (r 9, .inl ((cT 0), 1400, .inl f9)), (r 3, .inl ((cT 0), 160, .inl f3)), (r 4, .inl ((cT 0), 4, .inl f4)), (r 0, .inl ((cT 1), 64, .inr (.inl f0))), (r 11, .inl ((cT 0), 16, .inl f11)), (r 7, .inl ((cT 0), 1000, .inl f7))] U.heap ∧ va_K (dC, dI) vcl (tyL cT) U ∧ va_D (fun _ => True) [(mo, .inr (12, mdG r cd tm (nI sn) (nI 0) (nI lz) (nI az) (nI na) (nI nt) (nI nr) mw ml mk dq)), (r 9, .inl ((cT 0), 1400, .inl f9)), (r 3, .inl ((cT 0), 160, .inl f3)), (r 4, .inl ((cT 0), 4, .inl f4)), (r 0, .inl ((cT 1), 64, .inr (.inl f0))), (r 11, .inl ((cT 0), 16, .inl f11)), (r 7, .inl ((cT 0), 1000, .inl f7))])) (va_Qv (S := (Nat → Int32) × (Nat → Int32)) (fun u => match u with | (g9, g11) => AB g11) (fun u t => match u with | (g9, g11) => va_P (dC, dI) vcl [(mo, .inr (12, mdG r cd tm (nI sn) (nI 0) (nI lz) (nI az) (nI na) (nI nt) (nI nr) mw ml mk dq)), (r 9, .inl ((cT 0), 1400, .inl g9)), (r 3, .inl ((cT 0), 160, .inl f3)), (r 4, .inl ((cT 0), 4, .inl f4)), (r 0, .inl ((cT 1), 64, .inr (.inl f0))), (r 11, .inl ((cT 0), 16, .inl g11)), (r 7, .inl ((cT 0), 1000, .inl f7))] t.heap ∧ va_K (dC, dI) vcl (tyL cT) t ∧ va_D (va_A [(mo, .inr (12, mdG r cd tm (nI sn) (nI 0) (nI lz) (nI az) (nI na) (nI nt) (nI nr) mw ml mk dq)), (r 9, .inl ((cT 0), 1400, .inl f9)), (r 3, .inl ((cT 0), 160, .inl f3)), (r 4, .inl ((cT 0), 4, .inl f4)), (r 0, .inl ((cT 1), 64, .inr (.inl f0))), (r 11, .inl ((cT 0), 16, .inl f11)), (r 7, .inl ((cT 0), 1000, .inl f7))] sz) [(mo, .inr (12, mdG r cd tm (nI sn) (nI 0) (nI lz) (nI az) (nI na) (nI nt) (nI nr) mw ml mk dq)), (r 9, .inl ((cT 0), 1400, .inl g9)), (r 3, .inl ((cT 0), 160, .inl f3)), (r 4, .inl ((cT 0), 4, .inl f4)), (r 0, .inl ((cT 1), 64, .inr (.inl f0))), (r 11, .inl ((cT 0), 16, .inl g11)), (r 7, .inl ((cT 0), 1000, .inl f7))]) (va_A [(mo, .inr (12, mdG r cd tm (nI sn) (nI 0) (nI lz) (nI az) (nI na) (nI nt) (nI nr) mw ml mk dq)), (r 9, .inl ((cT 0), 1400, .inl f9)), (r 3, .inl ((cT 0), 160, .inl f3)), (r 4, .inl ((cT 0), 4, .inl f4)), (r 0, .inl ((cT 1), 64, .inr (.inl f0))), (r 11, .inl ((cT 0), 16, .inl f11)), (r 7, .inl ((cT 0), 1000, .inl f7))] sz)) 0 0 (va_A [(mo, .inr (12, mdG r cd tm (nI sn) (nI 0) (nI lz) (nI az) (nI na) (nI nt) (nI nr) mw ml mk dq)), (r 9, .inl ((cT 0), 1400, .inl f9)), (r 3, .inl ((cT 0), 160, .inl f3)), (r 4, .inl ((cT 0), 4, .inl f4)), (r 0, .inl ((cT 1), 64, .inr (.inl f0))), (r 11, .inl ((cT 0), 16, .inl f11)), (r 7, .inl ((cT 0), 1000, .inl f7))] sz) := by
  refine Met.ofW (cc := b_Md_authenticator) (maxL := 3) (ret := (Option.none : Option Jvm.ClassFile.FieldType)) (by decide) rfl ?_
  intro p e s m args below meth c s₁ B hml hv
  obtain ⟨hargs, hsz, hP, hK, hD0⟩ := hv
  have hx := B.exec
  have hb := B.bytes
  have hr := B.returns
  have hts := atoms_spec (ws := (Cond.code y_Md_authenticator b_Md_authenticator 3 (Option.none : Option Jvm.ClassFile.FieldType) :: BIG)) B.pre
  have hg : ∀ w ∈ BIG, w.before _ s = true := fun w h => hts w (List.mem_cons_of_mem _ h)
  have hown : s.vm.findClass "DoorServerModel" = some m.cls := findClass_of_methodNamed B.named
  have hlocks := B.notSynchronized
  subst hsz
  have hD := hD0.self (sz := s.heap.size)
  generalize hAe : va_A [(mo, .inr (12, mdG r cd tm (nI sn) (nI 0) (nI lz) (nI az) (nI na) (nI nt) (nI nr) mw ml mk dq)), (r 9, .inl ((cT 0), 1400, .inl f9)), (r 3, .inl ((cT 0), 160, .inl f3)), (r 4, .inl ((cT 0), 4, .inl f4)), (r 0, .inl ((cT 1), 64, .inr (.inl f0))), (r 11, .inl ((cT 0), 16, .inl f11)), (r 7, .inl ((cT 0), 1000, .inl f7))] s.heap.size = A at hD ⊢
  have hA : ∀ q : Nat, s.heap.size ≤ q → A q := fun q h => by rw [← hAe]; exact Or.inr h
  have hS : va_S A s.heap s.heap [] := va_S.rf
  have hl := lv_entry ([.ref mo, .int (nI st)]) (n := 3) (Nat.le_of_ble_eq_true rfl)
  refine W.eq (g2 := entryFrame m (List.toArray [.ref mo, .int (nI st)]) 3) (by rw [hargs]) ?_
  rw [lg_entry_eq]
  generalize (lg_sl ([.ref mo, .int (nI st)]) ++ List.replicate (3 - (lg_sl ([.ref mo, .int (nI st)])).length) Slot.unset).toArray = ls at hl ⊢
  have hl : lv_has ls 3 [(0, .ref mo), (1, .int (nI st))] := hl
  change W p l e ({ frames := 2, cells := 0, slots := 0, locals := 69 } : Room) s m args below meth c s.heap [] 0 0 _ _
  have hP : va_P (dC, dI) vcl [(mo, .inr (12, mdG r cd tm (nI sn) (nI 0) (nI lz) (nI az) (nI na) (nI nt) (nI nr) mw ml mk dq)), (r 9, .inl ((cT 0), 1400, .inl f9)), (r 3, .inl ((cT 0), 160, .inl f3)), (r 4, .inl ((cT 0), 4, .inl f4)), (r 0, .inl ((cT 1), 64, .inr (.inl f0))), (r 11, .inl ((cT 0), 16, .inl f11)), (r 7, .inl ((cT 0), 1000, .inl f7))] s.heap := hP
  refine lv_iconst (v := 0) hx hb d_Md_authenticator_0 (by decide) ?_
  refine lv_istore_n (lv' := [(2, .int 0), (0, .ref mo), (1, .int (nI st))]) hx hb d_Md_authenticator_1 rfl hl (by decide) rfl (fun ls hl => ?_)
  have hl := lv_sub hl [0, 1, 2] (show _ = [(2, .int 0), (0, .ref mo), (1, .int (nI st))] from rfl)
  have L124 : ∀ (Q : State → Prop) (exit : ∀ (g9_123 : Nat → Int32) (H : Heap) (locs : List Loc) (ls : Array Slot), va_P (dC, dI) vcl [(mo, .inr (12, mdG r cd tm (nI sn) (nI (sn)) (nI lz) (nI az) (nI na) (nI nt) (nI nr) mw ml mk dq)), (r 9, .inl ((cT 0), 1400, .inl g9_123)), (r 3, .inl ((cT 0), 160, .inl f3)), (r 4, .inl ((cT 0), 4, .inl f4)), (r 0, .inl ((cT 1), 64, .inr (.inl f0))), (r 11, .inl ((cT 0), 16, .inl f11)), (r 7, .inl ((cT 0), 1000, .inl f7))] H → va_D A [(mo, .inr (12, mdG r cd tm (nI sn) (nI (sn)) (nI lz) (nI az) (nI na) (nI nt) (nI nr) mw ml mk dq)), (r 9, .inl ((cT 0), 1400, .inl g9_123)), (r 3, .inl ((cT 0), 160, .inl f3)), (r 4, .inl ((cT 0), 4, .inl f4)), (r 0, .inl ((cT 1), 64, .inr (.inl f0))), (r 11, .inl ((cT 0), 16, .inl f11)), (r 7, .inl ((cT 0), 1000, .inl f7))] → va_S A s.heap H locs → lv_has ls 3 [(2, .int (nI sn)), (0, .ref mo), (1, .int (nI st))] → W p l e ({ frames := 2, cells := 0, slots := 0, locals := 69 } : Room) s m args below meth c H locs 0 0 Q (F0 m 41 ls [])) (j8 i : Nat) (g9_123 : Nat → Int32) (H : Heap) (locs : List Loc) (ls : Array Slot), i + j8 = sn → va_P (dC, dI) vcl [(mo, .inr (12, mdG r cd tm (nI sn) (nI (i)) (nI lz) (nI az) (nI na) (nI nt) (nI nr) mw ml mk dq)), (r 9, .inl ((cT 0), 1400, .inl g9_123)), (r 3, .inl ((cT 0), 160, .inl f3)), (r 4, .inl ((cT 0), 4, .inl f4)), (r 0, .inl ((cT 1), 64, .inr (.inl f0))), (r 11, .inl ((cT 0), 16, .inl f11)), (r 7, .inl ((cT 0), 1000, .inl f7))] H → va_D A [(mo, .inr (12, mdG r cd tm (nI sn) (nI (i)) (nI lz) (nI az) (nI na) (nI nt) (nI nr) mw ml mk dq)), (r 9, .inl ((cT 0), 1400, .inl g9_123)), (r 3, .inl ((cT 0), 160, .inl f3)), (r 4, .inl ((cT 0), 4, .inl f4)), (r 0, .inl ((cT 1), 64, .inr (.inl f0))), (r 11, .inl ((cT 0), 16, .inl f11)), (r 7, .inl ((cT 0), 1000, .inl f7))] → va_S A s.heap H locs → lv_has ls 3 [(2, .int (nI i)), (0, .ref mo), (1, .int (nI st))] → W p l e ({ frames := 2, cells := 0, slots := 0, locals := 69 } : Room) s m args below meth c H locs 0 0 Q (F0 m 2 ls []) := by
    intro Q exit j8
    induction j8 with
    | zero => 
      intro i g9_123 H locs ls hij  hP hD hS hl
      have hij : sn = i := by omega
      refine lv_iload_n hx hb d_Md_authenticator_2 rfl (lv_at hl 0 rfl) ?_
      refine lv_aload_n hx hb d_Md_authenticator_3 rfl (lv_at hl 1 rfl) ?_
      refine va_get (D := (dC, dI)) (ci := 12) (v := (.int (nI sn))) (C := R_Md) (T := F_Md) (N := 45) hx hb hg in_Md hown hK hP 0 rfl rfl 8 (by decide) (hg _ k_1028) (fun _ h9 => h9) rfl d_Md_authenticator_4 ?_
      refine lv_icmp_ge (tgt := 41) hx hb d_Md_authenticator_7 (by decide) (fun hc125 => ?_) (fun hn9 => absurd (nI_le (by omega) (by omega)) hn9)
      subst hij
      exact exit g9_123 _ _ _  hP hD hS hl
    | succ j8 ih => 
      intro i g9_123 H locs ls hij  hP hD hS hl
      have hlt : i < sn := by omega
      have hlti := hlt
      refine lv_iload_n hx hb d_Md_authenticator_2 rfl (lv_at hl 0 rfl) ?_
      refine lv_aload_n hx hb d_Md_authenticator_3 rfl (lv_at hl 1 rfl) ?_
      refine va_get (D := (dC, dI)) (ci := 12) (v := (.int (nI sn))) (C := R_Md) (T := F_Md) (N := 45) hx hb hg in_Md hown hK hP 0 rfl rfl 8 (by decide) (hg _ k_1028) (fun _ h9 => h9) rfl d_Md_authenticator_4 ?_
      refine lv_icmp_ge (tgt := 41) hx hb d_Md_authenticator_7 (by decide) (fun hn9 => absurd hn9 (nI_ge (by omega) (by omega))) (fun hc126 => ?_)
      refine lv_aload_n hx hb d_Md_authenticator_10 rfl (lv_at hl 1 rfl) ?_
      refine lv_iload_n hx hb d_Md_authenticator_11 rfl (lv_at hl 0 rfl) ?_
      refine lv_iconst (v := 3) hx hb d_Md_authenticator_12 (by decide) ?_
      refine lv_icmp_le (tgt := 26) hx hb d_Md_authenticator_13 (by decide) (fun hc127 => ?_) (fun hc127 => ?_)
      · skip
        have n128 : i ≤ 3 := (nI_leI (a := i) (b := 3) (by omega) (by omega)).mp hc127
        refine lv_aload_n hx hb d_Md_authenticator_26 rfl (lv_at hl 1 rfl) ?_
        refine va_get (D := (dC, dI)) (ci := 12) (v := (.ref (r 7))) (C := R_Md) (T := F_Md) (N := 45) hx hb hg in_Md hown hK hP 0 rfl rfl 7 (by decide) (hg _ k_1027) (fun _ h9 => h9) rfl d_Md_authenticator_27 ?_
        refine lv_iload_n hx hb d_Md_authenticator_30 rfl (lv_at hl 0 rfl) ?_
        refine va_iald hx hb hK hP 6 0 rfl rfl (i := (nI i)) (vp_in_nI (N := 1000) (by omega) (by decide)) d_Md_authenticator_31 ?_
        refine lv_topi (fun x130 e_x130 => ?_)
        clear e_x130
        have hPc := hP.sub (ws' := [(mo, .inr (12, mdG r cd tm (nI sn) (nI i) (nI lz) (nI az) (nI na) (nI nt) (nI nr) mw ml mk dq)), (r 9, .inl ((cT 0), 1400, .inl g9_123))]) [0, 1] rfl
        have hDc := hD.sub (ws' := [(mo, .inr (12, mdG r cd tm (nI sn) (nI i) (nI lz) (nI az) (nI na) (nI nt) (nI nr) mw ml mk dq)), (r 9, .inl ((cT 0), 1400, .inl g9_123))]) [0, 1] (by decide) rfl
        have hFc := va_free (wc := [(mo, .inr (12, mdG r cd tm (nI sn) (nI i) (nI lz) (nI az) (nI na) (nI nt) (nI nr) mw ml mk dq)), (r 9, .inl ((cT 0), 1400, .inl g9_123))]) hD hS hA [0, 1] rfl
        refine va_callv (va_runV (C := "DoorServerModel") (As := [.int x130]) (rest := []) ⟨hx, hb, hml, hown, hg⟩ (m_say l dC dI cT H.size mo r cd tm sn i lz az na nt nr mw ml mk dq g9_123 x130 (by first | assumption | omega)) (cwV 1 hg (gI (List.forall_mem_append.mpr ⟨List.forall_mem_cons.mpr ⟨k_1220, List.forall_mem_cons.mpr ⟨k_1222, List.forall_mem_cons.mpr ⟨(big_sel (q := y_Md_say) (n := 45) (by decide +kernel)), List.forall_mem_cons.mpr ⟨k_13, fun _ h => absurd h List.not_mem_nil⟩⟩⟩⟩, List.forall_mem_cons.mpr ⟨k_1223, fun _ h => h⟩⟩)) rfl rfl rfl (by decide +kernel) ⟨Nat.le_of_ble_eq_true rfl, Nat.le_of_ble_eq_true rfl⟩) ⟨fun a U g mk q => by obtain ⟨q0, q1, qP, qK, qD⟩ := q; exact ⟨q0, q1, qP, va_K.moved (u := U) (U := U.calling g mk a) (Vm.Alike.refl U.vm) qK, qD⟩, va_recv (q0 := 0) (ci := 12) hK hP rfl rfl, fun U hU hW => ⟨rfl, by rw [hU], by rw [hU]; exact hPc, va_K.moved hW.alike hK, hDc.weaken (fun _ _ _ _ => trivial)⟩⟩ rfl rfl hl.1 rfl (lv_room (Nat.le_of_ble_eq_true rfl)) d_Md_authenticator_32 ⟨Nat.le_of_ble_eq_true rfl, Nat.le_of_ble_eq_true rfl⟩) hS (fun q _ h => hFc q h) hFc (fun u t H1 locs ht hvm hw hB hz1 hk1 hS => ?_)
        obtain ⟨g9_131, rfl⟩ : ∃ z, z = u := ⟨_, rfl⟩
        try dsimp only at hw hB
        obtain ⟨hP1, hK1, hD1⟩ := hB
        rw [ht] at hP1
        obtain ⟨hP, hD⟩ := va_join (wr := [(r 3, .inl ((cT 0), 160, .inl f3)), (r 4, .inl ((cT 0), 4, .inl f4)), (r 0, .inl ((cT 1), 64, .inr (.inl f0))), (r 11, .inl ((cT 0), 16, .inl f11)), (r 7, .inl ((cT 0), 1000, .inl f7))]) (w1 := [(mo, .inr (12, mdG r cd tm (nI sn) (nI (i + 1)) (nI lz) (nI az) (nI na) (nI nt) (nI nr) mw ml mk dq)), (r 9, .inl ((cT 0), 1400, .inl g9_131))]) hP hD [0, 1] [2, 3, 4, 5, 6] rfl rfl (by decide) (by decide) hk1 hFc hP1 hD1
        have hw132 := hw
        clear hPc hDc hFc hz1 hk1 hP1 hK1 hD1
        generalize H1 = H at hP hS ⊢
        have hP : va_P (dC, dI) vcl [(r 3, .inl ((cT 0), 160, .inl f3)), (r 4, .inl ((cT 0), 4, .inl f4)), (r 0, .inl ((cT 1), 64, .inr (.inl f0))), (r 11, .inl ((cT 0), 16, .inl f11)), (r 7, .inl ((cT 0), 1000, .inl f7)), (mo, .inr (12, mdG r cd tm (nI sn) (nI (i + 1)) (nI lz) (nI az) (nI na) (nI nt) (nI nr) mw ml mk dq)), (r 9, .inl ((cT 0), 1400, .inl g9_131))] H := hP
        have hD : va_D A [(r 3, .inl ((cT 0), 160, .inl f3)), (r 4, .inl ((cT 0), 4, .inl f4)), (r 0, .inl ((cT 1), 64, .inr (.inl f0))), (r 11, .inl ((cT 0), 16, .inl f11)), (r 7, .inl ((cT 0), 1000, .inl f7)), (mo, .inr (12, mdG r cd tm (nI sn) (nI (i + 1)) (nI lz) (nI az) (nI na) (nI nt) (nI nr) mw ml mk dq)), (r 9, .inl ((cT 0), 1400, .inl g9_131))] := hD
        refine lv_iinc (k := 0) (v := nI (i + 1)) (lv' := [(2, .int (nI (i + 1))), (0, .ref mo), (1, .int (nI st))]) hx hb d_Md_authenticator_35 hl rfl (nI_1 i) (by decide) rfl (fun ls hl => ?_)
        refine lv_goto (tgt := 2) hx hb d_Md_authenticator_38 (by decide) ?_
        have hl := lv_sub hl [0, 1, 2] (show _ = [(2, .int (nI (i + 1))), (0, .ref mo), (1, .int (nI st))] from rfl)
        have hP := hP.sub (ws' := [(mo, .inr (12, mdG r cd tm (nI sn) (nI (i + 1)) (nI lz) (nI az) (nI na) (nI nt) (nI nr) mw ml mk dq)), (r 9, .inl ((cT 0), 1400, .inl g9_131)), (r 3, .inl ((cT 0), 160, .inl f3)), (r 4, .inl ((cT 0), 4, .inl f4)), (r 0, .inl ((cT 1), 64, .inr (.inl f0))), (r 11, .inl ((cT 0), 16, .inl f11)), (r 7, .inl ((cT 0), 1000, .inl f7))]) [5, 6, 0, 1, 2, 3, 4] rfl
        have hD := hD.sub (ws' := [(mo, .inr (12, mdG r cd tm (nI sn) (nI (i + 1)) (nI lz) (nI az) (nI na) (nI nt) (nI nr) mw ml mk dq)), (r 9, .inl ((cT 0), 1400, .inl g9_131)), (r 3, .inl ((cT 0), 160, .inl f3)), (r 4, .inl ((cT 0), 4, .inl f4)), (r 0, .inl ((cT 1), 64, .inr (.inl f0))), (r 11, .inl ((cT 0), 16, .inl f11)), (r 7, .inl ((cT 0), 1000, .inl f7))]) [5, 6, 0, 1, 2, 3, 4] (by decide) rfl
        exact ih (i + 1) _ _ _ _ (by omega)  hP hD hS hl
      · skip
        have n129 : 3 < i := Nat.not_le.mp (fun h7 => hc127 ((nI_leI (a := i) (b := 3) (by omega) (by omega)).mpr h7))
        refine lv_iload_n hx hb d_Md_authenticator_16 rfl (lv_at hl 0 rfl) ?_
        refine lv_bipush (v := 20) hx hb d_Md_authenticator_17 (by decide) ?_
        refine lv_icmp_ge (tgt := 26) hx hb d_Md_authenticator_19 (by decide) (fun hc133 => ?_) (fun hc133 => ?_)
        · skip
          have n134 : 20 ≤ i := (nI_leI (a := 20) (b := i) (by omega) (by omega)).mp hc133
          refine lv_aload_n hx hb d_Md_authenticator_26 rfl (lv_at hl 1 rfl) ?_
          refine va_get (D := (dC, dI)) (ci := 12) (v := (.ref (r 7))) (C := R_Md) (T := F_Md) (N := 45) hx hb hg in_Md hown hK hP 0 rfl rfl 7 (by decide) (hg _ k_1027) (fun _ h9 => h9) rfl d_Md_authenticator_27 ?_
          refine lv_iload_n hx hb d_Md_authenticator_30 rfl (lv_at hl 0 rfl) ?_
          refine va_iald hx hb hK hP 6 0 rfl rfl (i := (nI i)) (vp_in_nI (N := 1000) (by omega) (by decide)) d_Md_authenticator_31 ?_
          refine lv_topi (fun x136 e_x136 => ?_)
          clear e_x136
          have hPc := hP.sub (ws' := [(mo, .inr (12, mdG r cd tm (nI sn) (nI i) (nI lz) (nI az) (nI na) (nI nt) (nI nr) mw ml mk dq)), (r 9, .inl ((cT 0), 1400, .inl g9_123))]) [0, 1] rfl
          have hDc := hD.sub (ws' := [(mo, .inr (12, mdG r cd tm (nI sn) (nI i) (nI lz) (nI az) (nI na) (nI nt) (nI nr) mw ml mk dq)), (r 9, .inl ((cT 0), 1400, .inl g9_123))]) [0, 1] (by decide) rfl
          have hFc := va_free (wc := [(mo, .inr (12, mdG r cd tm (nI sn) (nI i) (nI lz) (nI az) (nI na) (nI nt) (nI nr) mw ml mk dq)), (r 9, .inl ((cT 0), 1400, .inl g9_123))]) hD hS hA [0, 1] rfl
          refine va_callv (va_runV (C := "DoorServerModel") (As := [.int x136]) (rest := []) ⟨hx, hb, hml, hown, hg⟩ (m_say l dC dI cT H.size mo r cd tm sn i lz az na nt nr mw ml mk dq g9_123 x136 (by first | assumption | omega)) (cwV 1 hg (gI (List.forall_mem_append.mpr ⟨List.forall_mem_cons.mpr ⟨k_1220, List.forall_mem_cons.mpr ⟨k_1222, List.forall_mem_cons.mpr ⟨(big_sel (q := y_Md_say) (n := 45) (by decide +kernel)), List.forall_mem_cons.mpr ⟨k_13, fun _ h => absurd h List.not_mem_nil⟩⟩⟩⟩, List.forall_mem_cons.mpr ⟨k_1223, fun _ h => h⟩⟩)) rfl rfl rfl (by decide +kernel) ⟨Nat.le_of_ble_eq_true rfl, Nat.le_of_ble_eq_true rfl⟩) ⟨fun a U g mk q => by obtain ⟨q0, q1, qP, qK, qD⟩ := q; exact ⟨q0, q1, qP, va_K.moved (u := U) (U := U.calling g mk a) (Vm.Alike.refl U.vm) qK, qD⟩, va_recv (q0 := 0) (ci := 12) hK hP rfl rfl, fun U hU hW => ⟨rfl, by rw [hU], by rw [hU]; exact hPc, va_K.moved hW.alike hK, hDc.weaken (fun _ _ _ _ => trivial)⟩⟩ rfl rfl hl.1 rfl (lv_room (Nat.le_of_ble_eq_true rfl)) d_Md_authenticator_32 ⟨Nat.le_of_ble_eq_true rfl, Nat.le_of_ble_eq_true rfl⟩) hS (fun q _ h => hFc q h) hFc (fun u t H1 locs ht hvm hw hB hz1 hk1 hS => ?_)
          obtain ⟨g9_137, rfl⟩ : ∃ z, z = u := ⟨_, rfl⟩
          try dsimp only at hw hB
          obtain ⟨hP1, hK1, hD1⟩ := hB
          rw [ht] at hP1
          obtain ⟨hP, hD⟩ := va_join (wr := [(r 3, .inl ((cT 0), 160, .inl f3)), (r 4, .inl ((cT 0), 4, .inl f4)), (r 0, .inl ((cT 1), 64, .inr (.inl f0))), (r 11, .inl ((cT 0), 16, .inl f11)), (r 7, .inl ((cT 0), 1000, .inl f7))]) (w1 := [(mo, .inr (12, mdG r cd tm (nI sn) (nI (i + 1)) (nI lz) (nI az) (nI na) (nI nt) (nI nr) mw ml mk dq)), (r 9, .inl ((cT 0), 1400, .inl g9_137))]) hP hD [0, 1] [2, 3, 4, 5, 6] rfl rfl (by decide) (by decide) hk1 hFc hP1 hD1
          have hw138 := hw
          clear hPc hDc hFc hz1 hk1 hP1 hK1 hD1
          generalize H1 = H at hP hS ⊢
          have hP : va_P (dC, dI) vcl [(r 3, .inl ((cT 0), 160, .inl f3)), (r 4, .inl ((cT 0), 4, .inl f4)), (r 0, .inl ((cT 1), 64, .inr (.inl f0))), (r 11, .inl ((cT 0), 16, .inl f11)), (r 7, .inl ((cT 0), 1000, .inl f7)), (mo, .inr (12, mdG r cd tm (nI sn) (nI (i + 1)) (nI lz) (nI az) (nI na) (nI nt) (nI nr) mw ml mk dq)), (r 9, .inl ((cT 0), 1400, .inl g9_137))] H := hP
          have hD : va_D A [(r 3, .inl ((cT 0), 160, .inl f3)), (r 4, .inl ((cT 0), 4, .inl f4)), (r 0, .inl ((cT 1), 64, .inr (.inl f0))), (r 11, .inl ((cT 0), 16, .inl f11)), (r 7, .inl ((cT 0), 1000, .inl f7)), (mo, .inr (12, mdG r cd tm (nI sn) (nI (i + 1)) (nI lz) (nI az) (nI na) (nI nt) (nI nr) mw ml mk dq)), (r 9, .inl ((cT 0), 1400, .inl g9_137))] := hD
          refine lv_iinc (k := 0) (v := nI (i + 1)) (lv' := [(2, .int (nI (i + 1))), (0, .ref mo), (1, .int (nI st))]) hx hb d_Md_authenticator_35 hl rfl (nI_1 i) (by decide) rfl (fun ls hl => ?_)
          refine lv_goto (tgt := 2) hx hb d_Md_authenticator_38 (by decide) ?_
          have hl := lv_sub hl [0, 1, 2] (show _ = [(2, .int (nI (i + 1))), (0, .ref mo), (1, .int (nI st))] from rfl)
          have hP := hP.sub (ws' := [(mo, .inr (12, mdG r cd tm (nI sn) (nI (i + 1)) (nI lz) (nI az) (nI na) (nI nt) (nI nr) mw ml mk dq)), (r 9, .inl ((cT 0), 1400, .inl g9_137)), (r 3, .inl ((cT 0), 160, .inl f3)), (r 4, .inl ((cT 0), 4, .inl f4)), (r 0, .inl ((cT 1), 64, .inr (.inl f0))), (r 11, .inl ((cT 0), 16, .inl f11)), (r 7, .inl ((cT 0), 1000, .inl f7))]) [5, 6, 0, 1, 2, 3, 4] rfl
          have hD := hD.sub (ws' := [(mo, .inr (12, mdG r cd tm (nI sn) (nI (i + 1)) (nI lz) (nI az) (nI na) (nI nt) (nI nr) mw ml mk dq)), (r 9, .inl ((cT 0), 1400, .inl g9_137)), (r 3, .inl ((cT 0), 160, .inl f3)), (r 4, .inl ((cT 0), 4, .inl f4)), (r 0, .inl ((cT 1), 64, .inr (.inl f0))), (r 11, .inl ((cT 0), 16, .inl f11)), (r 7, .inl ((cT 0), 1000, .inl f7))]) [5, 6, 0, 1, 2, 3, 4] (by decide) rfl
          exact ih (i + 1) _ _ _ _ (by omega)  hP hD hS hl
        · skip
          have n135 : i < 20 := Nat.not_le.mp (fun h7 => hc133 ((nI_leI (a := 20) (b := i) (by omega) (by omega)).mpr h7))
          refine lv_iconst (v := 0) hx hb d_Md_authenticator_22 (by decide) ?_
          refine lv_goto (tgt := 32) hx hb d_Md_authenticator_23 (by decide) ?_
          have hPc := hP.sub (ws' := [(mo, .inr (12, mdG r cd tm (nI sn) (nI i) (nI lz) (nI az) (nI na) (nI nt) (nI nr) mw ml mk dq)), (r 9, .inl ((cT 0), 1400, .inl g9_123))]) [0, 1] rfl
          have hDc := hD.sub (ws' := [(mo, .inr (12, mdG r cd tm (nI sn) (nI i) (nI lz) (nI az) (nI na) (nI nt) (nI nr) mw ml mk dq)), (r 9, .inl ((cT 0), 1400, .inl g9_123))]) [0, 1] (by decide) rfl
          have hFc := va_free (wc := [(mo, .inr (12, mdG r cd tm (nI sn) (nI i) (nI lz) (nI az) (nI na) (nI nt) (nI nr) mw ml mk dq)), (r 9, .inl ((cT 0), 1400, .inl g9_123))]) hD hS hA [0, 1] rfl
          refine va_callv (va_runV (C := "DoorServerModel") (As := [.int 0]) (rest := []) ⟨hx, hb, hml, hown, hg⟩ (m_say l dC dI cT H.size mo r cd tm sn i lz az na nt nr mw ml mk dq g9_123 0 (by first | assumption | omega)) (cwV 1 hg (gI (List.forall_mem_append.mpr ⟨List.forall_mem_cons.mpr ⟨k_1220, List.forall_mem_cons.mpr ⟨k_1222, List.forall_mem_cons.mpr ⟨(big_sel (q := y_Md_say) (n := 45) (by decide +kernel)), List.forall_mem_cons.mpr ⟨k_13, fun _ h => absurd h List.not_mem_nil⟩⟩⟩⟩, List.forall_mem_cons.mpr ⟨k_1223, fun _ h => h⟩⟩)) rfl rfl rfl (by decide +kernel) ⟨Nat.le_of_ble_eq_true rfl, Nat.le_of_ble_eq_true rfl⟩) ⟨fun a U g mk q => by obtain ⟨q0, q1, qP, qK, qD⟩ := q; exact ⟨q0, q1, qP, va_K.moved (u := U) (U := U.calling g mk a) (Vm.Alike.refl U.vm) qK, qD⟩, va_recv (q0 := 0) (ci := 12) hK hP rfl rfl, fun U hU hW => ⟨rfl, by rw [hU], by rw [hU]; exact hPc, va_K.moved hW.alike hK, hDc.weaken (fun _ _ _ _ => trivial)⟩⟩ rfl rfl hl.1 rfl (lv_room (Nat.le_of_ble_eq_true rfl)) d_Md_authenticator_32 ⟨Nat.le_of_ble_eq_true rfl, Nat.le_of_ble_eq_true rfl⟩) hS (fun q _ h => hFc q h) hFc (fun u t H1 locs ht hvm hw hB hz1 hk1 hS => ?_)
          obtain ⟨g9_139, rfl⟩ : ∃ z, z = u := ⟨_, rfl⟩
          try dsimp only at hw hB
          obtain ⟨hP1, hK1, hD1⟩ := hB
          rw [ht] at hP1
          obtain ⟨hP, hD⟩ := va_join (wr := [(r 3, .inl ((cT 0), 160, .inl f3)), (r 4, .inl ((cT 0), 4, .inl f4)), (r 0, .inl ((cT 1), 64, .inr (.inl f0))), (r 11, .inl ((cT 0), 16, .inl f11)), (r 7, .inl ((cT 0), 1000, .inl f7))]) (w1 := [(mo, .inr (12, mdG r cd tm (nI sn) (nI (i + 1)) (nI lz) (nI az) (nI na) (nI nt) (nI nr) mw ml mk dq)), (r 9, .inl ((cT 0), 1400, .inl g9_139))]) hP hD [0, 1] [2, 3, 4, 5, 6] rfl rfl (by decide) (by decide) hk1 hFc hP1 hD1
          have hw140 := hw
          clear hPc hDc hFc hz1 hk1 hP1 hK1 hD1
          generalize H1 = H at hP hS ⊢
          have hP : va_P (dC, dI) vcl [(r 3, .inl ((cT 0), 160, .inl f3)), (r 4, .inl ((cT 0), 4, .inl f4)), (r 0, .inl ((cT 1), 64, .inr (.inl f0))), (r 11, .inl ((cT 0), 16, .inl f11)), (r 7, .inl ((cT 0), 1000, .inl f7)), (mo, .inr (12, mdG r cd tm (nI sn) (nI (i + 1)) (nI lz) (nI az) (nI na) (nI nt) (nI nr) mw ml mk dq)), (r 9, .inl ((cT 0), 1400, .inl g9_139))] H := hP
          have hD : va_D A [(r 3, .inl ((cT 0), 160, .inl f3)), (r 4, .inl ((cT 0), 4, .inl f4)), (r 0, .inl ((cT 1), 64, .inr (.inl f0))), (r 11, .inl ((cT 0), 16, .inl f11)), (r 7, .inl ((cT 0), 1000, .inl f7)), (mo, .inr (12, mdG r cd tm (nI sn) (nI (i + 1)) (nI lz) (nI az) (nI na) (nI nt) (nI nr) mw ml mk dq)), (r 9, .inl ((cT 0), 1400, .inl g9_139))] := hD
          refine lv_iinc (k := 0) (v := nI (i + 1)) (lv' := [(2, .int (nI (i + 1))), (0, .ref mo), (1, .int (nI st))]) hx hb d_Md_authenticator_35 hl rfl (nI_1 i) (by decide) rfl (fun ls hl => ?_)
          refine lv_goto (tgt := 2) hx hb d_Md_authenticator_38 (by decide) ?_
          have hl := lv_sub hl [0, 1, 2] (show _ = [(2, .int (nI (i + 1))), (0, .ref mo), (1, .int (nI st))] from rfl)
          have hP := hP.sub (ws' := [(mo, .inr (12, mdG r cd tm (nI sn) (nI (i + 1)) (nI lz) (nI az) (nI na) (nI nt) (nI nr) mw ml mk dq)), (r 9, .inl ((cT 0), 1400, .inl g9_139)), (r 3, .inl ((cT 0), 160, .inl f3)), (r 4, .inl ((cT 0), 4, .inl f4)), (r 0, .inl ((cT 1), 64, .inr (.inl f0))), (r 11, .inl ((cT 0), 16, .inl f11)), (r 7, .inl ((cT 0), 1000, .inl f7))]) [5, 6, 0, 1, 2, 3, 4] rfl
          have hD := hD.sub (ws' := [(mo, .inr (12, mdG r cd tm (nI sn) (nI (i + 1)) (nI lz) (nI az) (nI na) (nI nt) (nI nr) mw ml mk dq)), (r 9, .inl ((cT 0), 1400, .inl g9_139)), (r 3, .inl ((cT 0), 160, .inl f3)), (r 4, .inl ((cT 0), 4, .inl f4)), (r 0, .inl ((cT 1), 64, .inr (.inl f0))), (r 11, .inl ((cT 0), 16, .inl f11)), (r 7, .inl ((cT 0), 1000, .inl f7))]) [5, 6, 0, 1, 2, 3, 4] (by decide) rfl
          exact ih (i + 1) _ _ _ _ (by omega)  hP hD hS hl
  refine L124 _ (fun g9_123 H locs ls  hP hD hS hl => ?_) (sn - 0) 0 f9 s.heap _ ls (by omega)  hP hD hS hl
  refine lv_aload_n hx hb d_Md_authenticator_41 rfl (lv_at hl 1 rfl) ?_
  refine lv_iload_n hx hb d_Md_authenticator_42 rfl (lv_at hl 2 rfl) ?_
  have hPc := hP.sub (ws' := [(mo, .inr (12, mdG r cd tm (nI sn) (nI sn) (nI lz) (nI az) (nI na) (nI nt) (nI nr) mw ml mk dq)), (r 3, .inl ((cT 0), 160, .inl f3)), (r 4, .inl ((cT 0), 4, .inl f4)), (r 9, .inl ((cT 0), 1400, .inl g9_123))]) [0, 2, 3, 1] rfl
  have hDc := hD.sub (ws' := [(mo, .inr (12, mdG r cd tm (nI sn) (nI sn) (nI lz) (nI az) (nI na) (nI nt) (nI nr) mw ml mk dq)), (r 3, .inl ((cT 0), 160, .inl f3)), (r 4, .inl ((cT 0), 4, .inl f4)), (r 9, .inl ((cT 0), 1400, .inl g9_123))]) [0, 2, 3, 1] (by decide) rfl
  have hFc := va_free (wc := [(mo, .inr (12, mdG r cd tm (nI sn) (nI sn) (nI lz) (nI az) (nI na) (nI nt) (nI nr) mw ml mk dq)), (r 3, .inl ((cT 0), 160, .inl f3)), (r 4, .inl ((cT 0), 4, .inl f4)), (r 9, .inl ((cT 0), 1400, .inl g9_123))]) hD hS hA [0, 2, 3, 1] rfl
  refine va_callv (va_runV (C := "DoorServerModel") (As := [.int (nI st)]) (rest := []) ⟨hx, hb, hml, hown, hg⟩ (m_saySecret l dC dI cT H.size mo r cd tm sn sn lz az na nt nr mw ml mk dq f3 f4 g9_123 st sl (by first | assumption | omega) (by first | assumption | omega) (by first | assumption | omega) (by first | assumption | omega)) (cwV 1 hg (gI (List.forall_mem_append.mpr ⟨List.forall_mem_cons.mpr ⟨k_1216, List.forall_mem_cons.mpr ⟨k_1218, List.forall_mem_cons.mpr ⟨(big_sel (q := y_Md_saySecret) (n := 45) (by decide +kernel)), List.forall_mem_cons.mpr ⟨k_13, fun _ h => absurd h List.not_mem_nil⟩⟩⟩⟩, List.forall_mem_cons.mpr ⟨k_1219, fun _ h => h⟩⟩)) rfl rfl rfl (by decide +kernel) ⟨Nat.le_of_ble_eq_true rfl, Nat.le_of_ble_eq_true rfl⟩) ⟨fun a U g mk q => by obtain ⟨q0, q1, qP, qK, qD⟩ := q; exact ⟨q0, q1, qP, va_K.moved (u := U) (U := U.calling g mk a) (Vm.Alike.refl U.vm) qK, qD⟩, va_recv (q0 := 0) (ci := 12) hK hP rfl rfl, fun U hU hW => ⟨rfl, by rw [hU], by rw [hU]; exact hPc, va_K.moved hW.alike hK, hDc.weaken (fun _ _ _ _ => trivial)⟩⟩ rfl rfl hl.1 rfl (lv_room (Nat.le_of_ble_eq_true rfl)) d_Md_authenticator_43 ⟨Nat.le_of_ble_eq_true rfl, Nat.le_of_ble_eq_true rfl⟩) hS (fun q _ h => hFc q h) hFc (fun u t H1 locs ht hvm hw hB hz1 hk1 hS => ?_)
  obtain ⟨g9_141, rfl⟩ : ∃ z, z = u := ⟨_, rfl⟩
  try dsimp only at hw hB
  obtain ⟨hP1, hK1, hD1⟩ := hB
  rw [ht] at hP1
  obtain ⟨hP, hD⟩ := va_join (wr := [(r 0, .inl ((cT 1), 64, .inr (.inl f0))), (r 11, .inl ((cT 0), 16, .inl f11)), (r 7, .inl ((cT 0), 1000, .inl f7))]) (w1 := [(mo, .inr (12, mdG r cd tm (nI sn) (nI (sn + sl)) (nI lz) (nI az) (nI na) (nI nt) (nI nr) mw ml mk dq)), (r 3, .inl ((cT 0), 160, .inl f3)), (r 4, .inl ((cT 0), 4, .inl f4)), (r 9, .inl ((cT 0), 1400, .inl g9_141))]) hP hD [0, 2, 3, 1] [4, 5, 6] rfl rfl (by decide) (by decide) hk1 hFc hP1 hD1
  have hw142 := hw
  clear hPc hDc hFc hz1 hk1 hP1 hK1 hD1
  generalize H1 = H at hP hS ⊢
  have hP : va_P (dC, dI) vcl [(r 0, .inl ((cT 1), 64, .inr (.inl f0))), (r 11, .inl ((cT 0), 16, .inl f11)), (r 7, .inl ((cT 0), 1000, .inl f7)), (mo, .inr (12, mdG r cd tm (nI sn) (nI (sn + sl)) (nI lz) (nI az) (nI na) (nI nt) (nI nr) mw ml mk dq)), (r 3, .inl ((cT 0), 160, .inl f3)), (r 4, .inl ((cT 0), 4, .inl f4)), (r 9, .inl ((cT 0), 1400, .inl g9_141))] H := hP
  have hD : va_D A [(r 0, .inl ((cT 1), 64, .inr (.inl f0))), (r 11, .inl ((cT 0), 16, .inl f11)), (r 7, .inl ((cT 0), 1000, .inl f7)), (mo, .inr (12, mdG r cd tm (nI sn) (nI (sn + sl)) (nI lz) (nI az) (nI na) (nI nt) (nI nr) mw ml mk dq)), (r 3, .inl ((cT 0), 160, .inl f3)), (r 4, .inl ((cT 0), 4, .inl f4)), (r 9, .inl ((cT 0), 1400, .inl g9_141))] := hD
  refine lv_aload_n hx hb d_Md_authenticator_46 rfl (lv_at hl 1 rfl) ?_
  have hPc := hP.sub (ws' := [(mo, .inr (12, mdG r cd tm (nI sn) (nI (sn + sl)) (nI lz) (nI az) (nI na) (nI nt) (nI nr) mw ml mk dq)), (r 9, .inl ((cT 0), 1400, .inl g9_141)), (r 0, .inl ((cT 1), 64, .inr (.inl f0))), (r 11, .inl ((cT 0), 16, .inl f11))]) [3, 6, 0, 1] rfl
  have hDc := hD.sub (ws' := [(mo, .inr (12, mdG r cd tm (nI sn) (nI (sn + sl)) (nI lz) (nI az) (nI na) (nI nt) (nI nr) mw ml mk dq)), (r 9, .inl ((cT 0), 1400, .inl g9_141)), (r 0, .inl ((cT 1), 64, .inr (.inl f0))), (r 11, .inl ((cT 0), 16, .inl f11))]) [3, 6, 0, 1] (by decide) rfl
  have hFc := va_free (wc := [(mo, .inr (12, mdG r cd tm (nI sn) (nI (sn + sl)) (nI lz) (nI az) (nI na) (nI nt) (nI nr) mw ml mk dq)), (r 9, .inl ((cT 0), 1400, .inl g9_141)), (r 0, .inl ((cT 1), 64, .inr (.inl f0))), (r 11, .inl ((cT 0), 16, .inl f11))]) hD hS hA [3, 6, 0, 1] rfl
  refine va_callv (va_runV (C := "DoorServerModel") (As := []) (rest := []) ⟨hx, hb, hml, hown, hg⟩ (m_md5 l dC dI cT H.size mo r cd tm sn (sn + sl) lz az na nt nr mw ml mk dq g9_141 f0 f11 (by first | assumption | omega) (by first | assumption | omega)) (cwV 0 hg (gI (List.forall_mem_append.mpr ⟨List.forall_mem_cons.mpr ⟨k_1224, List.forall_mem_cons.mpr ⟨k_1226, List.forall_mem_cons.mpr ⟨(big_sel (q := y_Md_md5) (n := 45) (by decide +kernel)), List.forall_mem_cons.mpr ⟨k_13, fun _ h => absurd h List.not_mem_nil⟩⟩⟩⟩, List.forall_mem_cons.mpr ⟨k_1227, fun _ h => h⟩⟩)) rfl rfl rfl (by decide +kernel) ⟨Nat.le_of_ble_eq_true rfl, Nat.le_of_ble_eq_true rfl⟩) ⟨fun a U g mk q => by obtain ⟨q0, q1, qP, qK, qD⟩ := q; exact ⟨q0, q1, qP, va_K.moved (u := U) (U := U.calling g mk a) (Vm.Alike.refl U.vm) qK, qD⟩, va_recv (q0 := 3) (ci := 12) hK hP rfl rfl, fun U hU hW => ⟨rfl, by rw [hU], by rw [hU]; exact hPc, va_K.moved hW.alike hK, hDc.weaken (fun _ _ _ _ => trivial)⟩⟩ rfl rfl hl.1 rfl (lv_room (Nat.le_of_ble_eq_true rfl)) d_Md_authenticator_47 ⟨Nat.le_of_ble_eq_true rfl, Nat.le_of_ble_eq_true rfl⟩) hS (fun q _ h => hFc q h) hFc (fun u t H1 locs ht hvm hw hB hz1 hk1 hS => ?_)
  obtain ⟨g9_143, g11_144⟩ := u
  try dsimp only at hw hB
  obtain ⟨hP1, hK1, hD1⟩ := hB
  rw [ht] at hP1
  obtain ⟨hP, hD⟩ := va_join (wr := [(r 7, .inl ((cT 0), 1000, .inl f7)), (r 3, .inl ((cT 0), 160, .inl f3)), (r 4, .inl ((cT 0), 4, .inl f4))]) (w1 := [(mo, .inr (12, mdG r cd tm (nI sn) (nI 0) (nI lz) (nI az) (nI na) (nI nt) (nI nr) mw ml mk dq)), (r 9, .inl ((cT 0), 1400, .inl g9_143)), (r 0, .inl ((cT 1), 64, .inr (.inl f0))), (r 11, .inl ((cT 0), 16, .inl g11_144))]) hP hD [3, 6, 0, 1] [2, 4, 5] rfl rfl (by decide) (by decide) hk1 hFc hP1 hD1
  have hw145 := hw
  clear hPc hDc hFc hz1 hk1 hP1 hK1 hD1
  generalize H1 = H at hP hS ⊢
  have hP : va_P (dC, dI) vcl [(r 7, .inl ((cT 0), 1000, .inl f7)), (r 3, .inl ((cT 0), 160, .inl f3)), (r 4, .inl ((cT 0), 4, .inl f4)), (mo, .inr (12, mdG r cd tm (nI sn) (nI 0) (nI lz) (nI az) (nI na) (nI nt) (nI nr) mw ml mk dq)), (r 9, .inl ((cT 0), 1400, .inl g9_143)), (r 0, .inl ((cT 1), 64, .inr (.inl f0))), (r 11, .inl ((cT 0), 16, .inl g11_144))] H := hP
  have hD : va_D A [(r 7, .inl ((cT 0), 1000, .inl f7)), (r 3, .inl ((cT 0), 160, .inl f3)), (r 4, .inl ((cT 0), 4, .inl f4)), (mo, .inr (12, mdG r cd tm (nI sn) (nI 0) (nI lz) (nI az) (nI na) (nI nt) (nI nr) mw ml mk dq)), (r 9, .inl ((cT 0), 1400, .inl g9_143)), (r 0, .inl ((cT 1), 64, .inr (.inl f0))), (r 11, .inl ((cT 0), 16, .inl g11_144))] := hD
  have k146 := hw145
  have hP9 := hP.sub (ws' := [(mo, .inr (12, mdG r cd tm (nI sn) (nI 0) (nI lz) (nI az) (nI na) (nI nt) (nI nr) mw ml mk dq)), (r 9, .inl ((cT 0), 1400, .inl g9_143)), (r 3, .inl ((cT 0), 160, .inl f3)), (r 4, .inl ((cT 0), 4, .inl f4)), (r 0, .inl ((cT 1), 64, .inr (.inl f0))), (r 11, .inl ((cT 0), 16, .inl g11_144)), (r 7, .inl ((cT 0), 1000, .inl f7))]) [3, 4, 1, 2, 5, 6, 0] rfl
  have hD9 := hD.sub (ws' := [(mo, .inr (12, mdG r cd tm (nI sn) (nI 0) (nI lz) (nI az) (nI na) (nI nt) (nI nr) mw ml mk dq)), (r 9, .inl ((cT 0), 1400, .inl g9_143)), (r 3, .inl ((cT 0), 160, .inl f3)), (r 4, .inl ((cT 0), 4, .inl f4)), (r 0, .inl ((cT 1), 64, .inr (.inl f0))), (r 11, .inl ((cT 0), 16, .inl g11_144)), (r 7, .inl ((cT 0), 1000, .inl f7))]) [3, 4, 1, 2, 5, 6, 0] (by decide) rfl
  exact W.vret hx hb hr (fun t ht hW => ⟨⟨⟨g9_143, g11_144⟩, rfl, by first | assumption | omega, by rw [ht]; exact hP9, va_K.moved hW.alike hK, hD9⟩, hS.F ht⟩) hS.2.2 d_Md_authenticator_50
