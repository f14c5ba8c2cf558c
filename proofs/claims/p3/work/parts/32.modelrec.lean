theorem d_Md_isBefore_0 : decode b_Md_isBefore 0 = .ok (.aload_n 0, 1) := by decide +kernel
theorem d_Md_isBefore_1 : decode b_Md_isBefore 1 = .ok (.getfield 212, 3) := by decide +kernel
theorem d_Md_isBefore_4 : decode b_Md_isBefore 4 = .ok (.iload_n 1, 1) := by decide +kernel
theorem d_Md_isBefore_5 : decode b_Md_isBefore 5 = .ok (.iaload, 1) := by decide +kernel
theorem d_Md_isBefore_6 : decode b_Md_isBefore 6 = .ok (.aload_n 0, 1) := by decide +kernel
theorem d_Md_isBefore_7 : decode b_Md_isBefore 7 = .ok (.getfield 212, 3) := by decide +kernel
theorem d_Md_isBefore_10 : decode b_Md_isBefore 10 = .ok (.iload_n 2, 1) := by decide +kernel
theorem d_Md_isBefore_11 : decode b_Md_isBefore 11 = .ok (.iaload, 1) := by decide +kernel
theorem d_Md_isBefore_12 : decode b_Md_isBefore 12 = .ok (.if_icmp .eq 24, 3) := by decide +kernel
theorem d_Md_isBefore_36 : decode b_Md_isBefore 36 = .ok (.aload_n 0, 1) := by decide +kernel
theorem d_Md_isBefore_37 : decode b_Md_isBefore 37 = .ok (.getfield 215, 3) := by decide +kernel
theorem d_Md_isBefore_40 : decode b_Md_isBefore 40 = .ok (.iload_n 1, 1) := by decide +kernel
theorem d_Md_isBefore_41 : decode b_Md_isBefore 41 = .ok (.iaload, 1) := by decide +kernel
theorem d_Md_isBefore_42 : decode b_Md_isBefore 42 = .ok (.aload_n 0, 1) := by decide +kernel
theorem d_Md_isBefore_43 : decode b_Md_isBefore 43 = .ok (.getfield 215, 3) := by decide +kernel
theorem d_Md_isBefore_46 : decode b_Md_isBefore 46 = .ok (.iload_n 2, 1) := by decide +kernel
theorem d_Md_isBefore_47 : decode b_Md_isBefore 47 = .ok (.iaload, 1) := by decide +kernel
theorem d_Md_isBefore_48 : decode b_Md_isBefore 48 = .ok (.if_icmp .ge 12, 3) := by decide +kernel
theorem d_Md_isBefore_60 : decode b_Md_isBefore 60 = .ok (.aload_n 0, 1) := by decide +kernel
theorem d_Md_isBefore_61 : decode b_Md_isBefore 61 = .ok (.getfield 215, 3) := by decide +kernel
theorem d_Md_isBefore_64 : decode b_Md_isBefore 64 = .ok (.iload_n 2, 1) := by decide +kernel
theorem d_Md_isBefore_65 : decode b_Md_isBefore 65 = .ok (.iaload, 1) := by decide +kernel
theorem d_Md_isBefore_66 : decode b_Md_isBefore 66 = .ok (.istore_n 3, 1) := by decide +kernel
theorem d_Md_isBefore_67 : decode b_Md_isBefore 67 = .ok (.iconst 0, 1) := by decide +kernel
theorem d_Md_isBefore_68 : decode b_Md_isBefore 68 = .ok (.istore 4, 2) := by decide +kernel
theorem d_Md_isBefore_70 : decode b_Md_isBefore 70 = .ok (.iload 4, 2) := by decide +kernel
theorem d_Md_isBefore_72 : decode b_Md_isBefore 72 = .ok (.iload_n 3, 1) := by decide +kernel
theorem d_Md_isBefore_73 : decode b_Md_isBefore 73 = .ok (.if_icmp .ge 69, 3) := by decide +kernel
theorem d_Md_isBefore_76 : decode b_Md_isBefore 76 = .ok (.aload_n 0, 1) := by decide +kernel
theorem d_Md_isBefore_77 : decode b_Md_isBefore 77 = .ok (.getfield 218, 3) := by decide +kernel
theorem d_Md_isBefore_80 : decode b_Md_isBefore 80 = .ok (.bipush 16, 2) := by decide +kernel
theorem d_Md_isBefore_82 : decode b_Md_isBefore 82 = .ok (.iload_n 1, 1) := by decide +kernel
theorem d_Md_isBefore_83 : decode b_Md_isBefore 83 = .ok (.imul, 1) := by decide +kernel
theorem d_Md_isBefore_84 : decode b_Md_isBefore 84 = .ok (.iload 4, 2) := by decide +kernel
theorem d_Md_isBefore_86 : decode b_Md_isBefore 86 = .ok (.iadd, 1) := by decide +kernel
theorem d_Md_isBefore_87 : decode b_Md_isBefore 87 = .ok (.iaload, 1) := by decide +kernel
theorem d_Md_isBefore_88 : decode b_Md_isBefore 88 = .ok (.aload_n 0, 1) := by decide +kernel
theorem d_Md_isBefore_89 : decode b_Md_isBefore 89 = .ok (.getfield 218, 3) := by decide +kernel
theorem d_Md_isBefore_92 : decode b_Md_isBefore 92 = .ok (.bipush 16, 2) := by decide +kernel
theorem d_Md_isBefore_94 : decode b_Md_isBefore 94 = .ok (.iload_n 2, 1) := by decide +kernel
theorem d_Md_isBefore_95 : decode b_Md_isBefore 95 = .ok (.imul, 1) := by decide +kernel
theorem d_Md_isBefore_96 : decode b_Md_isBefore 96 = .ok (.iload 4, 2) := by decide +kernel
theorem d_Md_isBefore_98 : decode b_Md_isBefore 98 = .ok (.iadd, 1) := by decide +kernel
theorem d_Md_isBefore_99 : decode b_Md_isBefore 99 = .ok (.iaload, 1) := by decide +kernel
theorem d_Md_isBefore_100 : decode b_Md_isBefore 100 = .ok (.if_icmp .eq 36, 3) := by decide +kernel
theorem d_Md_isBefore_136 : decode b_Md_isBefore 136 = .ok (.iinc 4 1, 3) := by decide +kernel
theorem d_Md_isBefore_139 : decode b_Md_isBefore 139 = .ok (.goto (-69), 3) := by decide +kernel
theorem d_Md_isBefore_103 : decode b_Md_isBefore 103 = .ok (.aload_n 0, 1) := by decide +kernel
theorem d_Md_isBefore_104 : decode b_Md_isBefore 104 = .ok (.getfield 218, 3) := by decide +kernel
theorem d_Md_isBefore_107 : decode b_Md_isBefore 107 = .ok (.bipush 16, 2) := by decide +kernel
theorem d_Md_isBefore_109 : decode b_Md_isBefore 109 = .ok (.iload_n 1, 1) := by decide +kernel
theorem d_Md_isBefore_110 : decode b_Md_isBefore 110 = .ok (.imul, 1) := by decide +kernel
theorem d_Md_isBefore_111 : decode b_Md_isBefore 111 = .ok (.iload 4, 2) := by decide +kernel
theorem d_Md_isBefore_113 : decode b_Md_isBefore 113 = .ok (.iadd, 1) := by decide +kernel
theorem d_Md_isBefore_114 : decode b_Md_isBefore 114 = .ok (.iaload, 1) := by decide +kernel
theorem d_Md_isBefore_115 : decode b_Md_isBefore 115 = .ok (.aload_n 0, 1) := by decide +kernel
theorem d_Md_isBefore_116 : decode b_Md_isBefore 116 = .ok (.getfield 218, 3) := by decide +kernel
theorem d_Md_isBefore_119 : decode b_Md_isBefore 119 = .ok (.bipush 16, 2) := by decide +kernel
theorem d_Md_isBefore_121 : decode b_Md_isBefore 121 = .ok (.iload_n 2, 1) := by decide +kernel
theorem d_Md_isBefore_122 : decode b_Md_isBefore 122 = .ok (.imul, 1) := by decide +kernel
theorem d_Md_isBefore_123 : decode b_Md_isBefore 123 = .ok (.iload 4, 2) := by decide +kernel
theorem d_Md_isBefore_125 : decode b_Md_isBefore 125 = .ok (.iadd, 1) := by decide +kernel
theorem d_Md_isBefore_126 : decode b_Md_isBefore 126 = .ok (.iaload, 1) := by decide +kernel
theorem d_Md_isBefore_127 : decode b_Md_isBefore 127 = .ok (.if_icmp .ge 7, 3) := by decide +kernel
theorem d_Md_isBefore_134 : decode b_Md_isBefore 134 = .ok (.iconst 0, 1) := by decide +kernel
theorem d_Md_isBefore_130 : decode b_Md_isBefore 130 = .ok (.iconst 1, 1) := by decide +kernel
theorem d_Md_isBefore_131 : decode b_Md_isBefore 131 = .ok (.goto 4, 3) := by decide +kernel
theorem d_Md_isBefore_142 : decode b_Md_isBefore 142 = .ok (.aload_n 0, 1) := by decide +kernel
theorem d_Md_isBefore_143 : decode b_Md_isBefore 143 = .ok (.getfield 215, 3) := by decide +kernel
theorem d_Md_isBefore_146 : decode b_Md_isBefore 146 = .ok (.iload_n 1, 1) := by decide +kernel
theorem d_Md_isBefore_147 : decode b_Md_isBefore 147 = .ok (.iaload, 1) := by decide +kernel
theorem d_Md_isBefore_148 : decode b_Md_isBefore 148 = .ok (.aload_n 0, 1) := by decide +kernel
theorem d_Md_isBefore_149 : decode b_Md_isBefore 149 = .ok (.getfield 215, 3) := by decide +kernel
theorem d_Md_isBefore_152 : decode b_Md_isBefore 152 = .ok (.iload_n 2, 1) := by decide +kernel
theorem d_Md_isBefore_153 : decode b_Md_isBefore 153 = .ok (.iaload, 1) := by decide +kernel
theorem d_Md_isBefore_154 : decode b_Md_isBefore 154 = .ok (.if_icmp .ge 7, 3) := by decide +kernel
theorem d_Md_isBefore_161 : decode b_Md_isBefore 161 = .ok (.iconst 0, 1) := by decide +kernel
theorem d_Md_isBefore_162 : decode b_Md_isBefore 162 = .ok (.ireturn, 1) := by decide +kernel
theorem d_Md_isBefore_157 : decode b_Md_isBefore 157 = .ok (.iconst 1, 1) := by decide +kernel
theorem d_Md_isBefore_158 : decode b_Md_isBefore 158 = .ok (.goto 4, 3) := by decide +kernel
theorem d_Md_isBefore_135 : decode b_Md_isBefore 135 = .ok (.ireturn, 1) := by decide +kernel
theorem d_Md_isBefore_51 : decode b_Md_isBefore 51 = .ok (.aload_n 0, 1) := by decide +kernel
theorem d_Md_isBefore_52 : decode b_Md_isBefore 52 = .ok (.getfield 215, 3) := by decide +kernel
theorem d_Md_isBefore_55 : decode b_Md_isBefore 55 = .ok (.iload_n 1, 1) := by decide +kernel
theorem d_Md_isBefore_56 : decode b_Md_isBefore 56 = .ok (.iaload, 1) := by decide +kernel
theorem d_Md_isBefore_57 : decode b_Md_isBefore 57 = .ok (.goto 9, 3) := by decide +kernel
theorem d_Md_isBefore_15 : decode b_Md_isBefore 15 = .ok (.aload_n 0, 1) := by decide +kernel
theorem d_Md_isBefore_16 : decode b_Md_isBefore 16 = .ok (.getfield 212, 3) := by decide +kernel
theorem d_Md_isBefore_19 : decode b_Md_isBefore 19 = .ok (.iload_n 1, 1) := by decide +kernel
theorem d_Md_isBefore_20 : decode b_Md_isBefore 20 = .ok (.iaload, 1) := by decide +kernel
theorem d_Md_isBefore_21 : decode b_Md_isBefore 21 = .ok (.aload_n 0, 1) := by decide +kernel
theorem d_Md_isBefore_22 : decode b_Md_isBefore 22 = .ok (.getfield 212, 3) := by decide +kernel
theorem d_Md_isBefore_25 : decode b_Md_isBefore 25 = .ok (.iload_n 2, 1) := by decide +kernel
theorem d_Md_isBefore_26 : decode b_Md_isBefore 26 = .ok (.iaload, 1) := by decide +kernel
theorem d_Md_isBefore_27 : decode b_Md_isBefore 27 = .ok (.if_icmp .ge 7, 3) := by decide +kernel
theorem d_Md_isBefore_34 : decode b_Md_isBefore 34 = .ok (.iconst 0, 1) := by decide +kernel
theorem d_Md_isBefore_35 : decode b_Md_isBefore 35 = .ok (.ireturn, 1) := by decide +kernel
theorem d_Md_isBefore_30 : decode b_Md_isBefore 30 = .ok (.iconst 1, 1) := by decide +kernel
theorem d_Md_isBefore_31 : decode b_Md_isBefore 31 = .ok (.goto 4, 3) := by decide +kernel
theorem d_Md_record_0 : decode b_Md_record 0 = .ok (.iconst (-1), 1) := by decide +kernel
theorem d_Md_record_1 : decode b_Md_record 1 = .ok (.istore_n 3, 1) := by decide +kernel
theorem d_Md_record_2 : decode b_Md_record 2 = .ok (.iconst 0, 1) := by decide +kernel
theorem d_Md_record_3 : decode b_Md_record 3 = .ok (.istore 4, 2) := by decide +kernel
theorem d_Md_record_5 : decode b_Md_record 5 = .ok (.iload 4, 2) := by decide +kernel
theorem d_Md_record_7 : decode b_Md_record 7 = .ok (.aload_n 0, 1) := by decide +kernel
theorem d_Md_record_8 : decode b_Md_record 8 = .ok (.getfield 440, 3) := by decide +kernel
theorem d_Md_record_11 : decode b_Md_record 11 = .ok (.if_icmp .ge 64, 3) := by decide +kernel
theorem d_Md_record_14 : decode b_Md_record 14 = .ok (.iconst 0, 1) := by decide +kernel
theorem d_Md_record_15 : decode b_Md_record 15 = .ok (.istore 5, 2) := by decide +kernel
theorem d_Md_record_17 : decode b_Md_record 17 = .ok (.iconst 0, 1) := by decide +kernel
theorem d_Md_record_18 : decode b_Md_record 18 = .ok (.istore 6, 2) := by decide +kernel
theorem d_Md_record_20 : decode b_Md_record 20 = .ok (.iload 6, 2) := by decide +kernel
theorem d_Md_record_22 : decode b_Md_record 22 = .ok (.aload_n 0, 1) := by decide +kernel
theorem d_Md_record_23 : decode b_Md_record 23 = .ok (.getfield 440, 3) := by decide +kernel
theorem d_Md_record_26 : decode b_Md_record 26 = .ok (.if_icmp .ge 30, 3) := by decide +kernel
theorem d_Md_record_29 : decode b_Md_record 29 = .ok (.iload 5, 2) := by decide +kernel
theorem d_Md_record_31 : decode b_Md_record 31 = .ok (.aload_n 0, 1) := by decide +kernel
theorem d_Md_record_32 : decode b_Md_record 32 = .ok (.iload 6, 2) := by decide +kernel
theorem d_Md_record_34 : decode b_Md_record 34 = .ok (.iload 4, 2) := by decide +kernel
theorem d_Md_record_36 : decode b_Md_record 36 = .ok (.invokevirtual 455, 3) := by decide +kernel
theorem d_Md_record_39 : decode b_Md_record 39 = .ok (.ifCond .eq 7, 3) := by decide +kernel
theorem d_Md_record_46 : decode b_Md_record 46 = .ok (.iconst 0, 1) := by decide +kernel
theorem d_Md_record_47 : decode b_Md_record 47 = .ok (.iadd, 1) := by decide +kernel
theorem d_Md_record_48 : decode b_Md_record 48 = .ok (.istore 5, 2) := by decide +kernel
theorem d_Md_record_50 : decode b_Md_record 50 = .ok (.iinc 6 1, 3) := by decide +kernel
theorem d_Md_record_53 : decode b_Md_record 53 = .ok (.goto (-33), 3) := by decide +kernel
theorem d_Md_record_42 : decode b_Md_record 42 = .ok (.iconst 1, 1) := by decide +kernel
theorem d_Md_record_43 : decode b_Md_record 43 = .ok (.goto 4, 3) := by decide +kernel
theorem d_Md_record_56 : decode b_Md_record 56 = .ok (.iload 5, 2) := by decide +kernel
theorem d_Md_record_58 : decode b_Md_record 58 = .ok (.iload_n 1, 1) := by decide +kernel
theorem d_Md_record_59 : decode b_Md_record 59 = .ok (.if_icmp .ne 8, 3) := by decide +kernel
theorem d_Md_record_67 : decode b_Md_record 67 = .ok (.iload_n 3, 1) := by decide +kernel
theorem d_Md_record_68 : decode b_Md_record 68 = .ok (.istore_n 3, 1) := by decide +kernel
theorem d_Md_record_69 : decode b_Md_record 69 = .ok (.iinc 4 1, 3) := by decide +kernel
theorem d_Md_record_72 : decode b_Md_record 72 = .ok (.goto (-67), 3) := by decide +kernel
theorem d_Md_record_62 : decode b_Md_record 62 = .ok (.iload 4, 2) := by decide +kernel
theorem d_Md_record_64 : decode b_Md_record 64 = .ok (.goto 4, 3) := by decide +kernel
theorem d_Md_record_75 : decode b_Md_record 75 = .ok (.aload_n 0, 1) := by decide +kernel
theorem d_Md_record_76 : decode b_Md_record 76 = .ok (.iload_n 3, 1) := by decide +kernel
theorem d_Md_record_77 : decode b_Md_record 77 = .ok (.ifCond .lt 17, 3) := by decide +kernel
theorem d_Md_record_94 : decode b_Md_record 94 = .ok (.iconst 0, 1) := by decide +kernel
theorem d_Md_record_95 : decode b_Md_record 95 = .ok (.invokevirtual 289, 3) := by decide +kernel
theorem d_Md_record_98 : decode b_Md_record 98 = .ok (.ifCond .ne 5, 3) := by decide +kernel
theorem d_Md_record_101 : decode b_Md_record 101 = .ok (.lconst 0, 1) := by decide +kernel
theorem d_Md_record_102 : decode b_Md_record 102 = .ok (.lreturn, 1) := by decide +kernel
theorem d_Md_record_80 : decode b_Md_record 80 = .ok (.iload_n 2, 1) := by decide +kernel
theorem d_Md_record_81 : decode b_Md_record 81 = .ok (.ifCond .lt 13, 3) := by decide +kernel
theorem d_Md_record_84 : decode b_Md_record 84 = .ok (.iload_n 2, 1) := by decide +kernel
theorem d_Md_record_85 : decode b_Md_record 85 = .ok (.bipush 8, 2) := by decide +kernel
theorem d_Md_record_87 : decode b_Md_record 87 = .ok (.if_icmp .gt 7, 3) := by decide +kernel
theorem d_Md_record_90 : decode b_Md_record 90 = .ok (.iconst 1, 1) := by decide +kernel
theorem d_Md_record_91 : decode b_Md_record 91 = .ok (.goto 4, 3) := by decide +kernel
theorem d_Md_record_103 : decode b_Md_record 103 = .ok (.iload_n 2, 1) := by decide +kernel
theorem d_Md_record_104 : decode b_Md_record 104 = .ok (.tableswitch 113 0 7 #[48, 56, 64, 72, 80, 87, 94, 102], 48) := by decide +kernel
theorem d_Md_record_152 : decode b_Md_record 152 = .ok (.aload_n 0, 1) := by decide +kernel
theorem d_Md_record_153 : decode b_Md_record 153 = .ok (.getfield 212, 3) := by decide +kernel
theorem d_Md_record_156 : decode b_Md_record 156 = .ok (.iload_n 3, 1) := by decide +kernel
theorem d_Md_record_157 : decode b_Md_record 157 = .ok (.iaload, 1) := by decide +kernel
theorem d_Md_record_158 : decode b_Md_record 158 = .ok (.i2l, 1) := by decide +kernel
theorem d_Md_record_159 : decode b_Md_record 159 = .ok (.lreturn, 1) := by decide +kernel
theorem d_Md_record_160 : decode b_Md_record 160 = .ok (.aload_n 0, 1) := by decide +kernel
theorem d_Md_record_161 : decode b_Md_record 161 = .ok (.getfield 224, 3) := by decide +kernel
theorem d_Md_record_164 : decode b_Md_record 164 = .ok (.iload_n 3, 1) := by decide +kernel
theorem d_Md_record_165 : decode b_Md_record 165 = .ok (.iaload, 1) := by decide +kernel
theorem d_Md_record_166 : decode b_Md_record 166 = .ok (.i2l, 1) := by decide +kernel
theorem d_Md_record_167 : decode b_Md_record 167 = .ok (.lreturn, 1) := by decide +kernel
theorem d_Md_record_168 : decode b_Md_record 168 = .ok (.aload_n 0, 1) := by decide +kernel
theorem d_Md_record_169 : decode b_Md_record 169 = .ok (.getfield 227, 3) := by decide +kernel
theorem d_Md_record_172 : decode b_Md_record 172 = .ok (.iload_n 3, 1) := by decide +kernel
theorem d_Md_record_173 : decode b_Md_record 173 = .ok (.iaload, 1) := by decide +kernel
theorem d_Md_record_174 : decode b_Md_record 174 = .ok (.i2l, 1) := by decide +kernel
theorem d_Md_record_175 : decode b_Md_record 175 = .ok (.lreturn, 1) := by decide +kernel
theorem d_Md_record_176 : decode b_Md_record 176 = .ok (.aload_n 0, 1) := by decide +kernel
theorem d_Md_record_177 : decode b_Md_record 177 = .ok (.getfield 230, 3) := by decide +kernel
theorem d_Md_record_180 : decode b_Md_record 180 = .ok (.iload_n 3, 1) := by decide +kernel
theorem d_Md_record_181 : decode b_Md_record 181 = .ok (.iaload, 1) := by decide +kernel
theorem d_Md_record_182 : decode b_Md_record 182 = .ok (.i2l, 1) := by decide +kernel
theorem d_Md_record_183 : decode b_Md_record 183 = .ok (.lreturn, 1) := by decide +kernel
theorem d_Md_record_184 : decode b_Md_record 184 = .ok (.aload_n 0, 1) := by decide +kernel
theorem d_Md_record_185 : decode b_Md_record 185 = .ok (.getfield 233, 3) := by decide +kernel
theorem d_Md_record_188 : decode b_Md_record 188 = .ok (.iload_n 3, 1) := by decide +kernel
theorem d_Md_record_189 : decode b_Md_record 189 = .ok (.laload, 1) := by decide +kernel
theorem d_Md_record_190 : decode b_Md_record 190 = .ok (.lreturn, 1) := by decide +kernel
theorem d_Md_record_191 : decode b_Md_record 191 = .ok (.aload_n 0, 1) := by decide +kernel
theorem d_Md_record_192 : decode b_Md_record 192 = .ok (.getfield 236, 3) := by decide +kernel
theorem d_Md_record_195 : decode b_Md_record 195 = .ok (.iload_n 3, 1) := by decide +kernel
theorem d_Md_record_196 : decode b_Md_record 196 = .ok (.laload, 1) := by decide +kernel
theorem d_Md_record_197 : decode b_Md_record 197 = .ok (.lreturn, 1) := by decide +kernel
theorem d_Md_record_198 : decode b_Md_record 198 = .ok (.aload_n 0, 1) := by decide +kernel
theorem d_Md_record_199 : decode b_Md_record 199 = .ok (.getfield 215, 3) := by decide +kernel
theorem d_Md_record_202 : decode b_Md_record 202 = .ok (.iload_n 3, 1) := by decide +kernel
theorem d_Md_record_203 : decode b_Md_record 203 = .ok (.iaload, 1) := by decide +kernel
theorem d_Md_record_204 : decode b_Md_record 204 = .ok (.i2l, 1) := by decide +kernel
theorem d_Md_record_205 : decode b_Md_record 205 = .ok (.lreturn, 1) := by decide +kernel
theorem d_Md_record_206 : decode b_Md_record 206 = .ok (.aload_n 0, 1) := by decide +kernel
theorem d_Md_record_207 : decode b_Md_record 207 = .ok (.getfield 218, 3) := by decide +kernel
theorem d_Md_record_210 : decode b_Md_record 210 = .ok (.bipush 16, 2) := by decide +kernel
theorem d_Md_record_212 : decode b_Md_record 212 = .ok (.iload_n 3, 1) := by decide +kernel
theorem d_Md_record_213 : decode b_Md_record 213 = .ok (.imul, 1) := by decide +kernel
theorem d_Md_record_214 : decode b_Md_record 214 = .ok (.iaload, 1) := by decide +kernel
theorem d_Md_record_215 : decode b_Md_record 215 = .ok (.i2l, 1) := by decide +kernel
theorem d_Md_record_216 : decode b_Md_record 216 = .ok (.lreturn, 1) := by decide +kernel
theorem d_Md_record_217 : decode b_Md_record 217 = .ok (.aload_n 0, 1) := by decide +kernel
theorem d_Md_record_218 : decode b_Md_record 218 = .ok (.getfield 221, 3) := by decide +kernel
theorem d_Md_record_221 : decode b_Md_record 221 = .ok (.iload_n 3, 1) := by decide +kernel
theorem d_Md_record_222 : decode b_Md_record 222 = .ok (.iaload, 1) := by decide +kernel
theorem d_Md_record_223 : decode b_Md_record 223 = .ok (.i2l, 1) := by decide +kernel
theorem d_Md_record_224 : decode b_Md_record 224 = .ok (.lreturn, 1) := by decide +kernel
set_option maxHeartbeats 4000000 in
set_option maxRecDepth 100000 in
/-- isBefore -/
theorem m_isBefore (l : Launch) (dC : Nat → ClassId) (dI : Nat → Nat → Nat) (cT : Nat → ClassId) (sz : Nat) (mo : Nat) (r : Nat → Nat) (cd : Int32) (tm : Int32) (sn : Nat) (tx : Nat) (lz : Nat) (az : Nat) (na : Nat) (nt : Nat) (nr : Nat) (mw : Int32) (ml : Int32) (mk : Int64) (dq : Int64) (f34 : Nat → Int32) (f35 : Nat → Int32) (f36 : Nat → Int32) (a : Nat) (b : Nat) (ha : a < 50) (hb9 : b < 50) (h35 : BD 16 50 f35) : Met l y_Md_isBefore (Cond.code y_Md_isBefore b_Md_isBefore 5 (Option.some Jvm.ClassFile.FieldType.boolean) :: BIG) ({ frames := 0, cells := 0, slots := 0, locals := 0 }) (va_Pc [.ref mo, .int (nI a), .int (nI b)] (fun U => U.heap.size = sz ∧ va_P (dC, dI) vcl [(mo, .inr (12, mdG r cd tm (nI sn) (nI tx) (nI lz) (nI az) (nI na) (nI nt) (nI nr) mw ml mk dq)), (r 34, .inl ((cT 0), 50, .inl f34)), (r 35, .inl ((cT 0), 50, .inl f35)), (r 36, .inl ((cT 0), 800, .inl f36))] U.heap ∧ va_K (dC, dI) vcl (tyL cT) U ∧ va_D (fun _ => True) [(mo, .inr (12, mdG r cd tm (nI sn) (nI tx) (nI lz) (nI az) (nI na) (nI nt) (nI nr) mw ml mk dq)), (r 34, .inl ((cT 0), 50, .inl f34)), (r 35, .inl ((cT 0), 50, .inl f35)), (r 36, .inl ((cT 0), 800, .inl f36))])) (va_Qi (S := Unit) (fun rv9 u => rv9 = 0 ∨ rv9 = 1) (fun u t => va_P (dC, dI) vcl [(mo, .inr (12, mdG r cd tm (nI sn) (nI tx) (nI lz) (nI az) (nI na) (nI nt) (nI nr) mw ml mk dq)), (r 34, .inl ((cT 0), 50, .inl f34)), (r 35, .inl ((cT 0), 50, .inl f35)), (r 36, .inl ((cT 0), 800, .inl f36))] t.heap ∧ va_K (dC, dI) vcl (tyL cT) t ∧ va_D (va_A [(mo, .inr (12, mdG r cd tm (nI sn) (nI tx) (nI lz) (nI az) (nI na) (nI nt) (nI nr) mw ml mk dq)), (r 34, .inl ((cT 0), 50, .inl f34)), (r 35, .inl ((cT 0), 50, .inl f35)), (r 36, .inl ((cT 0), 800, .inl f36))] sz) [(mo, .inr (12, mdG r cd tm (nI sn) (nI tx) (nI lz) (nI az) (nI na) (nI nt) (nI nr) mw ml mk dq)), (r 34, .inl ((cT 0), 50, .inl f34)), (r 35, .inl ((cT 0), 50, .inl f35)), (r 36, .inl ((cT 0), 800, .inl f36))]) (va_A [(mo, .inr (12, mdG r cd tm (nI sn) (nI tx) (nI lz) (nI az) (nI na) (nI nt) (nI nr) mw ml mk dq)), (r 34, .inl ((cT 0), 50, .inl f34)), (r 35, .inl ((cT 0), 50, .inl f35)), (r 36, .inl ((cT 0), 800, .inl f36))] sz)) 0 0 (va_A [(mo, .inr (12, mdG r cd tm (nI sn) (nI tx) (nI lz) (nI az) (nI na) (nI nt) (nI nr) mw ml mk dq)), (r 34, .inl ((cT 0), 50, .inl f34)), (r 35, .inl ((cT 0), 50, .inl f35)), (r 36, .inl ((cT 0), 800, .inl f36))] sz) := by
  refine Met.ofW (cc := b_Md_isBefore) (maxL := 5) (ret := (Option.some Jvm.ClassFile.FieldType.boolean)) (by decide) rfl ?_
  intro p e s m args below meth c s₁ B hml hv
  obtain ⟨hargs, hsz, hP, hK, hD0⟩ := hv
  have hx := B.exec
  have hb := B.bytes
  have hr := B.returns
  have hts := atoms_spec (ws := (Cond.code y_Md_isBefore b_Md_isBefore 5 (Option.some Jvm.ClassFile.FieldType.boolean) :: BIG)) B.pre
  have hg : ∀ w ∈ BIG, w.before _ s = true := fun w h => hts w (List.mem_cons_of_mem _ h)
  have hown : s.vm.findClass "DoorServerModel" = some m.cls := findClass_of_methodNamed B.named
  have hlocks := B.notSynchronized
  subst hsz
  have hD := hD0.self (sz := s.heap.size)
  generalize hAe : va_A [(mo, .inr (12, mdG r cd tm (nI sn) (nI tx) (nI lz) (nI az) (nI na) (nI nt) (nI nr) mw ml mk dq)), (r 34, .inl ((cT 0), 50, .inl f34)), (r 35, .inl ((cT 0), 50, .inl f35)), (r 36, .inl ((cT 0), 800, .inl f36))] s.heap.size = A at hD ⊢
  have hA : ∀ q : Nat, s.heap.size ≤ q → A q := fun q h => by rw [← hAe]; exact Or.inr h
  have hS : va_S A s.heap s.heap [] := va_S.rf
  have hl := lv_entry ([.ref mo, .int (nI a), .int (nI b)]) (n := 5) (Nat.le_of_ble_eq_true rfl)
  refine W.eq (g2 := entryFrame m (List.toArray [.ref mo, .int (nI a), .int (nI b)]) 5) (by rw [hargs]) ?_
  rw [lg_entry_eq]
  generalize (lg_sl ([.ref mo, .int (nI a), .int (nI b)]) ++ List.replicate (5 - (lg_sl ([.ref mo, .int (nI a), .int (nI b)])).length) Slot.unset).toArray = ls at hl ⊢
  have hl : lv_has ls 5 [(0, .ref mo), (1, .int (nI a)), (2, .int (nI b))] := hl
  change W p l e ({ frames := 0, cells := 0, slots := 0, locals := 0 } : Room) s m args below meth c s.heap [] 0 0 _ _
  have hP : va_P (dC, dI) vcl [(mo, .inr (12, mdG r cd tm (nI sn) (nI tx) (nI lz) (nI az) (nI na) (nI nt) (nI nr) mw ml mk dq)), (r 34, .inl ((cT 0), 50, .inl f34)), (r 35, .inl ((cT 0), 50, .inl f35)), (r 36, .inl ((cT 0), 800, .inl f36))] s.heap := hP
  refine lv_aload_n hx hb d_Md_isBefore_0 rfl (lv_at hl 0 rfl) ?_
  refine va_get (D := (dC, dI)) (ci := 12) (v := (.ref (r 34))) (C := R_Md) (T := F_Md) (N := 45) hx hb hg in_Md hown hK hP 0 rfl rfl 34 (by decide) (hg _ k_1054) (fun _ h9 => h9) rfl d_Md_isBefore_1 ?_
  refine lv_iload_n hx hb d_Md_isBefore_4 rfl (lv_at hl 1 rfl) ?_
  refine va_iald hx hb hK hP 1 0 rfl rfl (i := (nI a)) (vp_in_nI (N := 50) (by omega) (by decide)) d_Md_isBefore_5 ?_
  refine lv_topi (fun x1 e_x1 => ?_)
  clear e_x1
  refine lv_aload_n hx hb d_Md_isBefore_6 rfl (lv_at hl 0 rfl) ?_
  refine va_get (D := (dC, dI)) (ci := 12) (v := (.ref (r 34))) (C := R_Md) (T := F_Md) (N := 45) hx hb hg in_Md hown hK hP 0 rfl rfl 34 (by decide) (hg _ k_1054) (fun _ h9 => h9) rfl d_Md_isBefore_7 ?_
  refine lv_iload_n hx hb d_Md_isBefore_10 rfl (lv_at hl 2 rfl) ?_
  refine va_iald hx hb hK hP 1 0 rfl rfl (i := (nI b)) (vp_in_nI (N := 50) (by omega) (by decide)) d_Md_isBefore_11 ?_
  refine lv_topi (fun x2 e_x2 => ?_)
  clear e_x2
  refine lv_icmp_eq (tgt := 36) hx hb d_Md_isBefore_12 (by decide) (fun hc3 => ?_) (fun hc3 => ?_)
  · skip
    refine lv_aload_n hx hb d_Md_isBefore_36 rfl (lv_at hl 0 rfl) ?_
    refine va_get (D := (dC, dI)) (ci := 12) (v := (.ref (r 35))) (C := R_Md) (T := F_Md) (N := 45) hx hb hg in_Md hown hK hP 0 rfl rfl 35 (by decide) (hg _ k_1055) (fun _ h9 => h9) rfl d_Md_isBefore_37 ?_
    refine lv_iload_n hx hb d_Md_isBefore_40 rfl (lv_at hl 1 rfl) ?_
    obtain ⟨t4, ht4, xt4⟩ := h35 a (by omega)
    refine va_iald hx hb hK hP 2 0 rfl rfl (i := (nI a)) (vp_in_nI (N := 50) (by omega) (by decide)) d_Md_isBefore_41 ?_
    refine lv_topi (fun x6 e5 => ?_)
    obtain rfl : x6 = nI t4 := by rw [e5]; rw [nI_clamp (by omega)]; exact xt4
    refine lv_aload_n hx hb d_Md_isBefore_42 rfl (lv_at hl 0 rfl) ?_
    refine va_get (D := (dC, dI)) (ci := 12) (v := (.ref (r 35))) (C := R_Md) (T := F_Md) (N := 45) hx hb hg in_Md hown hK hP 0 rfl rfl 35 (by decide) (hg _ k_1055) (fun _ h9 => h9) rfl d_Md_isBefore_43 ?_
    refine lv_iload_n hx hb d_Md_isBefore_46 rfl (lv_at hl 2 rfl) ?_
    obtain ⟨t7, ht7, xt7⟩ := h35 b (by omega)
    refine va_iald hx hb hK hP 2 0 rfl rfl (i := (nI b)) (vp_in_nI (N := 50) (by omega) (by decide)) d_Md_isBefore_47 ?_
    refine lv_topi (fun x9 e8 => ?_)
    obtain rfl : x9 = nI t7 := by rw [e8]; rw [nI_clamp (by omega)]; exact xt7
    refine lv_icmp_ge (tgt := 60) hx hb d_Md_isBefore_48 (by decide) (fun hc10 => ?_) (fun hc10 => ?_)
    · skip
      have n11 : t7 ≤ t4 := (nI_leI (a := t7) (b := t4) (by omega) (by omega)).mp hc10
      refine lv_aload_n hx hb d_Md_isBefore_60 rfl (lv_at hl 0 rfl) ?_
      refine va_get (D := (dC, dI)) (ci := 12) (v := (.ref (r 35))) (C := R_Md) (T := F_Md) (N := 45) hx hb hg in_Md hown hK hP 0 rfl rfl 35 (by decide) (hg _ k_1055) (fun _ h9 => h9) rfl d_Md_isBefore_61 ?_
      refine lv_iload_n hx hb d_Md_isBefore_64 rfl (lv_at hl 2 rfl) ?_
      refine va_iald hx hb hK hP 2 0 rfl rfl (i := (nI b)) (vp_in_nI (N := 50) (by omega) (by decide)) d_Md_isBefore_65 ?_
      refine lv_topi (fun x14 e13 => ?_)
      obtain rfl : x14 = nI t7 := by rw [e13]; rw [nI_clamp (by omega)]; exact xt7
      refine lv_istore_n (lv' := [(3, .int (nI t7)), (0, .ref mo), (1, .int (nI a)), (2, .int (nI b))]) hx hb d_Md_isBefore_66 rfl hl (by decide) rfl (fun ls hl => ?_)
      refine lv_iconst (v := 0) hx hb d_Md_isBefore_67 (by decide) ?_
      refine lv_istore (lv' := [(4, .int 0), (3, .int (nI t7)), (0, .ref mo), (1, .int (nI a)), (2, .int (nI b))]) hx hb d_Md_isBefore_68 hl (by decide) rfl (fun ls hl => ?_)
      have hl := lv_sub hl [0, 1, 2, 3, 4] (show _ = [(4, .int 0), (3, .int (nI t7)), (0, .ref mo), (1, .int (nI a)), (2, .int (nI b))] from rfl)
      have L15 : ∀ (Q : State → Prop) (ex0 : ∀ (i : Nat) (H : Heap) (locs : List Loc) (ls : Array Slot), va_P (dC, dI) vcl [(mo, .inr (12, mdG r cd tm (nI sn) (nI tx) (nI lz) (nI az) (nI na) (nI nt) (nI nr) mw ml mk dq)), (r 34, .inl ((cT 0), 50, .inl f34)), (r 35, .inl ((cT 0), 50, .inl f35)), (r 36, .inl ((cT 0), 800, .inl f36))] H → va_D A [(mo, .inr (12, mdG r cd tm (nI sn) (nI tx) (nI lz) (nI az) (nI na) (nI nt) (nI nr) mw ml mk dq)), (r 34, .inl ((cT 0), 50, .inl f34)), (r 35, .inl ((cT 0), 50, .inl f35)), (r 36, .inl ((cT 0), 800, .inl f36))] → va_S A s.heap H locs → lv_has ls 5 [(0, .ref mo), (1, .int (nI a)), (2, .int (nI b))] → W p l e ({ frames := 0, cells := 0, slots := 0, locals := 0 } : Room) s m args below meth c H locs 0 0 Q (F0 m 142 ls [])) (ex1 : ∀ (i : Nat) (bx : Int32) (H : Heap) (locs : List Loc) (ls : Array Slot), (bx = 0 ∨ bx = 1) → va_P (dC, dI) vcl [(mo, .inr (12, mdG r cd tm (nI sn) (nI tx) (nI lz) (nI az) (nI na) (nI nt) (nI nr) mw ml mk dq)), (r 34, .inl ((cT 0), 50, .inl f34)), (r 35, .inl ((cT 0), 50, .inl f35)), (r 36, .inl ((cT 0), 800, .inl f36))] H → va_D A [(mo, .inr (12, mdG r cd tm (nI sn) (nI tx) (nI lz) (nI az) (nI na) (nI nt) (nI nr) mw ml mk dq)), (r 34, .inl ((cT 0), 50, .inl f34)), (r 35, .inl ((cT 0), 50, .inl f35)), (r 36, .inl ((cT 0), 800, .inl f36))] → va_S A s.heap H locs → lv_has ls 5 [(0, .ref mo)] → W p l e ({ frames := 0, cells := 0, slots := 0, locals := 0 } : Room) s m args below meth c H locs 0 0 Q (F0 m 135 ls [.int bx])) (jj16 : Nat) (i : Nat) (H : Heap) (locs : List Loc) (ls : Array Slot), t7 - i ≤ jj16 → (i ≤ t7) → va_P (dC, dI) vcl [(mo, .inr (12, mdG r cd tm (nI sn) (nI tx) (nI lz) (nI az) (nI na) (nI nt) (nI nr) mw ml mk dq)), (r 34, .inl ((cT 0), 50, .inl f34)), (r 35, .inl ((cT 0), 50, .inl f35)), (r 36, .inl ((cT 0), 800, .inl f36))] H → va_D A [(mo, .inr (12, mdG r cd tm (nI sn) (nI tx) (nI lz) (nI az) (nI na) (nI nt) (nI nr) mw ml mk dq)), (r 34, .inl ((cT 0), 50, .inl f34)), (r 35, .inl ((cT 0), 50, .inl f35)), (r 36, .inl ((cT 0), 800, .inl f36))] → va_S A s.heap H locs → lv_has ls 5 [(4, .int (nI i)), (3, .int (nI t7)), (0, .ref mo), (1, .int (nI a)), (2, .int (nI b))] → W p l e ({ frames := 0, cells := 0, slots := 0, locals := 0 } : Room) s m args below meth c H locs 0 0 Q (F0 m 70 ls []) := by
        intro Q ex0 ex1 jj16
        induction jj16 with
        | zero => 
          intro i H locs ls hm9 hi hP hD hS hl
          refine lv_iload hx hb d_Md_isBefore_70 (lv_at hl 0 rfl) ?_
          refine lv_iload_n hx hb d_Md_isBefore_72 rfl (lv_at hl 1 rfl) ?_
          refine lv_icmp_ge (tgt := 142) hx hb d_Md_isBefore_73 (by decide) (fun hc17 => ?_) (fun hc17 => ?_)
          · skip
            have n18 : t7 ≤ i := (nI_leI (a := t7) (b := i) (by omega) (by omega)).mp hc17
            have hl := lv_sub hl [2, 3, 4] (show _ = [(0, .ref mo), (1, .int (nI a)), (2, .int (nI b))] from rfl)
            exact ex0 i _ _ _  hP hD hS hl
          · skip
            have n19 : i < t7 := Nat.not_le.mp (fun h7 => hc17 ((nI_leI (a := t7) (b := i) (by omega) (by omega)).mpr h7))
            refine lv_aload_n hx hb d_Md_isBefore_76 rfl (lv_at hl 2 rfl) ?_
            refine va_get (D := (dC, dI)) (ci := 12) (v := (.ref (r 36))) (C := R_Md) (T := F_Md) (N := 45) hx hb hg in_Md hown hK hP 0 rfl rfl 36 (by decide) (hg _ k_1056) (fun _ h9 => h9) rfl d_Md_isBefore_77 ?_
            refine lv_bipush (v := 16) hx hb d_Md_isBefore_80 (by decide) ?_
            refine lv_iload_n hx hb d_Md_isBefore_82 rfl (lv_at hl 3 rfl) ?_
            refine lv_imul hx hb d_Md_isBefore_83 ?_
            refine lv_topi (fun x21 e20 => ?_)
            obtain rfl : x21 = nI (16 * a) := by rw [e20]; exact pk_mul 16 a
            refine lv_iload hx hb d_Md_isBefore_84 (lv_at hl 0 rfl) ?_
            refine lv_iadd hx hb d_Md_isBefore_86 ?_
            refine lv_topi (fun x23 e22 => ?_)
            obtain rfl : x23 = nI ((16 * a) + i) := by rw [e22]; exact nI_add (16 * a) i
            refine va_iald hx hb hK hP 3 0 rfl rfl (i := (nI ((16 * a) + i))) (vp_in_nI (N := 800) (by omega) (by decide)) d_Md_isBefore_87 ?_
            refine lv_topi (fun x24 e_x24 => ?_)
            clear e_x24
            refine lv_aload_n hx hb d_Md_isBefore_88 rfl (lv_at hl 2 rfl) ?_
            refine va_get (D := (dC, dI)) (ci := 12) (v := (.ref (r 36))) (C := R_Md) (T := F_Md) (N := 45) hx hb hg in_Md hown hK hP 0 rfl rfl 36 (by decide) (hg _ k_1056) (fun _ h9 => h9) rfl d_Md_isBefore_89 ?_
            refine lv_bipush (v := 16) hx hb d_Md_isBefore_92 (by decide) ?_
            refine lv_iload_n hx hb d_Md_isBefore_94 rfl (lv_at hl 4 rfl) ?_
            refine lv_imul hx hb d_Md_isBefore_95 ?_
            refine lv_topi (fun x26 e25 => ?_)
            obtain rfl : x26 = nI (16 * b) := by rw [e25]; exact pk_mul 16 b
            refine lv_iload hx hb d_Md_isBefore_96 (lv_at hl 0 rfl) ?_
            refine lv_iadd hx hb d_Md_isBefore_98 ?_
            refine lv_topi (fun x28 e27 => ?_)
            obtain rfl : x28 = nI ((16 * b) + i) := by rw [e27]; exact nI_add (16 * b) i
            refine va_iald hx hb hK hP 3 0 rfl rfl (i := (nI ((16 * b) + i))) (vp_in_nI (N := 800) (by omega) (by decide)) d_Md_isBefore_99 ?_
            refine lv_topi (fun x29 e_x29 => ?_)
            clear e_x29
            refine lv_icmp_eq (tgt := 136) hx hb d_Md_isBefore_100 (by decide) (fun hc30 => ?_) (fun hc30 => ?_)
            · skip
              refine lv_iinc (k := 0) (v := nI (i + 1)) (lv' := [(4, .int (nI (i + 1))), (3, .int (nI t7)), (0, .ref mo), (1, .int (nI a)), (2, .int (nI b))]) hx hb d_Md_isBefore_136 hl rfl (nI_1 i) (by decide) rfl (fun ls hl => ?_)
              refine lv_goto (tgt := 70) hx hb d_Md_isBefore_139 (by decide) ?_
              have hl := lv_sub hl [0, 1, 2, 3, 4] (show _ = [(4, .int (nI (i + 1))), (3, .int (nI t7)), (0, .ref mo), (1, .int (nI a)), (2, .int (nI b))] from rfl)
              exfalso; omega
            · skip
              refine lv_aload_n hx hb d_Md_isBefore_103 rfl (lv_at hl 2 rfl) ?_
              refine va_get (D := (dC, dI)) (ci := 12) (v := (.ref (r 36))) (C := R_Md) (T := F_Md) (N := 45) hx hb hg in_Md hown hK hP 0 rfl rfl 36 (by decide) (hg _ k_1056) (fun _ h9 => h9) rfl d_Md_isBefore_104 ?_
              refine lv_bipush (v := 16) hx hb d_Md_isBefore_107 (by decide) ?_
              refine lv_iload_n hx hb d_Md_isBefore_109 rfl (lv_at hl 3 rfl) ?_
              refine lv_imul hx hb d_Md_isBefore_110 ?_
              refine lv_topi (fun x32 e31 => ?_)
              obtain rfl : x32 = nI (16 * a) := by rw [e31]; exact pk_mul 16 a
              refine lv_iload hx hb d_Md_isBefore_111 (lv_at hl 0 rfl) ?_
              refine lv_iadd hx hb d_Md_isBefore_113 ?_
              refine lv_topi (fun x34 e33 => ?_)
              obtain rfl : x34 = nI ((16 * a) + i) := by rw [e33]; exact nI_add (16 * a) i
              refine va_iald hx hb hK hP 3 0 rfl rfl (i := (nI ((16 * a) + i))) (vp_in_nI (N := 800) (by omega) (by decide)) d_Md_isBefore_114 ?_
              refine lv_topi (fun x35 e_x35 => ?_)
              clear e_x35
              refine lv_aload_n hx hb d_Md_isBefore_115 rfl (lv_at hl 2 rfl) ?_
              refine va_get (D := (dC, dI)) (ci := 12) (v := (.ref (r 36))) (C := R_Md) (T := F_Md) (N := 45) hx hb hg in_Md hown hK hP 0 rfl rfl 36 (by decide) (hg _ k_1056) (fun _ h9 => h9) rfl d_Md_isBefore_116 ?_
              refine lv_bipush (v := 16) hx hb d_Md_isBefore_119 (by decide) ?_
              refine lv_iload_n hx hb d_Md_isBefore_121 rfl (lv_at hl 4 rfl) ?_
              refine lv_imul hx hb d_Md_isBefore_122 ?_
              refine lv_topi (fun x37 e36 => ?_)
              obtain rfl : x37 = nI (16 * b) := by rw [e36]; exact pk_mul 16 b
              refine lv_iload hx hb d_Md_isBefore_123 (lv_at hl 0 rfl) ?_
              refine lv_iadd hx hb d_Md_isBefore_125 ?_
              refine lv_topi (fun x39 e38 => ?_)
              obtain rfl : x39 = nI ((16 * b) + i) := by rw [e38]; exact nI_add (16 * b) i
              refine va_iald hx hb hK hP 3 0 rfl rfl (i := (nI ((16 * b) + i))) (vp_in_nI (N := 800) (by omega) (by decide)) d_Md_isBefore_126 ?_
              refine lv_topi (fun x40 e_x40 => ?_)
              clear e_x40
              refine lv_icmp_ge (tgt := 134) hx hb d_Md_isBefore_127 (by decide) (fun hc41 => ?_) (fun hc41 => ?_)
              · skip
                refine lv_iconst (v := 0) hx hb d_Md_isBefore_134 (by decide) ?_
                have hl := lv_sub hl [2] (show _ = [(0, .ref mo)] from rfl)
                exact ex1 i 0 _ _ _ (Or.inl rfl) hP hD hS hl
              · skip
                refine lv_iconst (v := 1) hx hb d_Md_isBefore_130 (by decide) ?_
                refine lv_goto (tgt := 135) hx hb d_Md_isBefore_131 (by decide) ?_
                have hl := lv_sub hl [2] (show _ = [(0, .ref mo)] from rfl)
                exact ex1 i 1 _ _ _ (Or.inr rfl) hP hD hS hl
        | succ jj16 ih => 
          intro i H locs ls hm9 hi hP hD hS hl
          refine lv_iload hx hb d_Md_isBefore_70 (lv_at hl 0 rfl) ?_
          refine lv_iload_n hx hb d_Md_isBefore_72 rfl (lv_at hl 1 rfl) ?_
          refine lv_icmp_ge (tgt := 142) hx hb d_Md_isBefore_73 (by decide) (fun hc42 => ?_) (fun hc42 => ?_)
          · skip
            have n43 : t7 ≤ i := (nI_leI (a := t7) (b := i) (by omega) (by omega)).mp hc42
            have hl := lv_sub hl [2, 3, 4] (show _ = [(0, .ref mo), (1, .int (nI a)), (2, .int (nI b))] from rfl)
            exact ex0 i _ _ _  hP hD hS hl
          · skip
            have n44 : i < t7 := Nat.not_le.mp (fun h7 => hc42 ((nI_leI (a := t7) (b := i) (by omega) (by omega)).mpr h7))
            refine lv_aload_n hx hb d_Md_isBefore_76 rfl (lv_at hl 2 rfl) ?_
            refine va_get (D := (dC, dI)) (ci := 12) (v := (.ref (r 36))) (C := R_Md) (T := F_Md) (N := 45) hx hb hg in_Md hown hK hP 0 rfl rfl 36 (by decide) (hg _ k_1056) (fun _ h9 => h9) rfl d_Md_isBefore_77 ?_
            refine lv_bipush (v := 16) hx hb d_Md_isBefore_80 (by decide) ?_
            refine lv_iload_n hx hb d_Md_isBefore_82 rfl (lv_at hl 3 rfl) ?_
            refine lv_imul hx hb d_Md_isBefore_83 ?_
            refine lv_topi (fun x46 e45 => ?_)
            obtain rfl : x46 = nI (16 * a) := by rw [e45]; exact pk_mul 16 a
            refine lv_iload hx hb d_Md_isBefore_84 (lv_at hl 0 rfl) ?_
            refine lv_iadd hx hb d_Md_isBefore_86 ?_
            refine lv_topi (fun x48 e47 => ?_)
            obtain rfl : x48 = nI ((16 * a) + i) := by rw [e47]; exact nI_add (16 * a) i
            refine va_iald hx hb hK hP 3 0 rfl rfl (i := (nI ((16 * a) + i))) (vp_in_nI (N := 800) (by omega) (by decide)) d_Md_isBefore_87 ?_
            refine lv_topi (fun x49 e_x49 => ?_)
            clear e_x49
            refine lv_aload_n hx hb d_Md_isBefore_88 rfl (lv_at hl 2 rfl) ?_
            refine va_get (D := (dC, dI)) (ci := 12) (v := (.ref (r 36))) (C := R_Md) (T := F_Md) (N := 45) hx hb hg in_Md hown hK hP 0 rfl rfl 36 (by decide) (hg _ k_1056) (fun _ h9 => h9) rfl d_Md_isBefore_89 ?_
            refine lv_bipush (v := 16) hx hb d_Md_isBefore_92 (by decide) ?_
            refine lv_iload_n hx hb d_Md_isBefore_94 rfl (lv_at hl 4 rfl) ?_
            refine lv_imul hx hb d_Md_isBefore_95 ?_
            refine lv_topi (fun x51 e50 => ?_)
            obtain rfl : x51 = nI (16 * b) := by rw [e50]; exact pk_mul 16 b
            refine lv_iload hx hb d_Md_isBefore_96 (lv_at hl 0 rfl) ?_
            refine lv_iadd hx hb d_Md_isBefore_98 ?_
            refine lv_topi (fun x53 e52 => ?_)
            obtain rfl : x53 = nI ((16 * b) + i) := by rw [e52]; exact nI_add (16 * b) i
            refine va_iald hx hb hK hP 3 0 rfl rfl (i := (nI ((16 * b) + i))) (vp_in_nI (N := 800) (by omega) (by decide)) d_Md_isBefore_99 ?_
            refine lv_topi (fun x54 e_x54 => ?_)
            clear e_x54
            refine lv_icmp_eq (tgt := 136) hx hb d_Md_isBefore_100 (by decide) (fun hc55 => ?_) (fun hc55 => ?_)
            · skip
              refine lv_iinc (k := 0) (v := nI (i + 1)) (lv' := [(4, .int (nI (i + 1))), (3, .int (nI t7)), (0, .ref mo), (1, .int (nI a)), (2, .int (nI b))]) hx hb d_Md_isBefore_136 hl rfl (nI_1 i) (by decide) rfl (fun ls hl => ?_)
              refine lv_goto (tgt := 70) hx hb d_Md_isBefore_139 (by decide) ?_
              have hl := lv_sub hl [0, 1, 2, 3, 4] (show _ = [(4, .int (nI (i + 1))), (3, .int (nI t7)), (0, .ref mo), (1, .int (nI a)), (2, .int (nI b))] from rfl)
              exact ih (i + 1) _ _ _ (by omega) (by omega) hP hD hS hl
            · skip
              refine lv_aload_n hx hb d_Md_isBefore_103 rfl (lv_at hl 2 rfl) ?_
              refine va_get (D := (dC, dI)) (ci := 12) (v := (.ref (r 36))) (C := R_Md) (T := F_Md) (N := 45) hx hb hg in_Md hown hK hP 0 rfl rfl 36 (by decide) (hg _ k_1056) (fun _ h9 => h9) rfl d_Md_isBefore_104 ?_
              refine lv_bipush (v := 16) hx hb d_Md_isBefore_107 (by decide) ?_
              refine lv_iload_n hx hb d_Md_isBefore_109 rfl (lv_at hl 3 rfl) ?_
              refine lv_imul hx hb d_Md_isBefore_110 ?_
              refine lv_topi (fun x57 e56 => ?_)
              obtain rfl : x57 = nI (16 * a) := by rw [e56]; exact pk_mul 16 a
              refine lv_iload hx hb d_Md_isBefore_111 (lv_at hl 0 rfl) ?_
              refine lv_iadd hx hb d_Md_isBefore_113 ?_
              refine lv_topi (fun x59 e58 => ?_)
              obtain rfl : x59 = nI ((16 * a) + i) := by rw [e58]; exact nI_add (16 * a) i
              refine va_iald hx hb hK hP 3 0 rfl rfl (i := (nI ((16 * a) + i))) (vp_in_nI (N := 800) (by omega) (by decide)) d_Md_isBefore_114 ?_
              refine lv_topi (fun x60 e_x60 => ?_)
              clear e_x60
              refine lv_aload_n hx hb d_Md_isBefore_115 rfl (lv_at hl 2 rfl) ?_
              refine va_get (D := (dC, dI)) (ci := 12) (v := (.ref (r 36))) (C := R_Md) (T := F_Md) (N := 45) hx hb hg in_Md hown hK hP 0 rfl rfl 36 (by decide) (hg _ k_1056) (fun _ h9 => h9) rfl d_Md_isBefore_116 ?_
              refine lv_bipush (v := 16) hx hb d_Md_isBefore_119 (by decide) ?_
              refine lv_iload_n hx hb d_Md_isBefore_121 rfl (lv_at hl 4 rfl) ?_
              refine lv_imul hx hb d_Md_isBefore_122 ?_
              refine lv_topi (fun x62 e61 => ?_)
              obtain rfl : x62 = nI (16 * b) := by rw [e61]; exact pk_mul 16 b
              refine lv_iload hx hb d_Md_isBefore_123 (lv_at hl 0 rfl) ?_
              refine lv_iadd hx hb d_Md_isBefore_125 ?_
              refine lv_topi (fun x64 e63 => ?_)
              obtain rfl : x64 = nI ((16 * b) + i) := by rw [e63]; exact nI_add (16 * b) i
              refine va_iald hx hb hK hP 3 0 rfl rfl (i := (nI ((16 * b) + i))) (vp_in_nI (N := 800) (by omega) (by decide)) d_Md_isBefore_126 ?_
              refine lv_topi (fun x65 e_x65 => ?_)
              clear e_x65
              refine lv_icmp_ge (tgt := 134) hx hb d_Md_isBefore_127 (by decide) (fun hc66 => ?_) (fun hc66 => ?_)
              · skip
                refine lv_iconst (v := 0) hx hb d_Md_isBefore_134 (by decide) ?_
                have hl := lv_sub hl [2] (show _ = [(0, .ref mo)] from rfl)
                exact ex1 i 0 _ _ _ (Or.inl rfl) hP hD hS hl
              · skip
                refine lv_iconst (v := 1) hx hb d_Md_isBefore_130 (by decide) ?_
                refine lv_goto (tgt := 135) hx hb d_Md_isBefore_131 (by decide) ?_
                have hl := lv_sub hl [2] (show _ = [(0, .ref mo)] from rfl)
                exact ex1 i 1 _ _ _ (Or.inr rfl) hP hD hS hl
      refine L15 _ (fun i H locs ls  hP hD hS hl => ?_) (fun i bx H locs ls hbx hP hD hS hl => ?_) (t7 - 0) 0 s.heap _ ls (Nat.le_refl _) (by omega) hP hD hS hl
      · skip
        refine lv_aload_n hx hb d_Md_isBefore_142 rfl (lv_at hl 0 rfl) ?_
        refine va_get (D := (dC, dI)) (ci := 12) (v := (.ref (r 35))) (C := R_Md) (T := F_Md) (N := 45) hx hb hg in_Md hown hK hP 0 rfl rfl 35 (by decide) (hg _ k_1055) (fun _ h9 => h9) rfl d_Md_isBefore_143 ?_
        refine lv_iload_n hx hb d_Md_isBefore_146 rfl (lv_at hl 1 rfl) ?_
        refine va_iald hx hb hK hP 2 0 rfl rfl (i := (nI a)) (vp_in_nI (N := 50) (by omega) (by decide)) d_Md_isBefore_147 ?_
        refine lv_topi (fun x68 e67 => ?_)
        obtain rfl : x68 = nI t4 := by rw [e67]; rw [nI_clamp (by omega)]; exact xt4
        refine lv_aload_n hx hb d_Md_isBefore_148 rfl (lv_at hl 0 rfl) ?_
        refine va_get (D := (dC, dI)) (ci := 12) (v := (.ref (r 35))) (C := R_Md) (T := F_Md) (N := 45) hx hb hg in_Md hown hK hP 0 rfl rfl 35 (by decide) (hg _ k_1055) (fun _ h9 => h9) rfl d_Md_isBefore_149 ?_
        refine lv_iload_n hx hb d_Md_isBefore_152 rfl (lv_at hl 2 rfl) ?_
        refine va_iald hx hb hK hP 2 0 rfl rfl (i := (nI b)) (vp_in_nI (N := 50) (by omega) (by decide)) d_Md_isBefore_153 ?_
        refine lv_topi (fun x70 e69 => ?_)
        obtain rfl : x70 = nI t7 := by rw [e69]; rw [nI_clamp (by omega)]; exact xt7
        refine lv_icmp_ge (tgt := 161) hx hb d_Md_isBefore_154 (by decide) (fun hc71 => ?_) (fun hc71 => ?_)
        · skip
          have n72 : t7 ≤ t4 := (nI_leI (a := t7) (b := t4) (by omega) (by omega)).mp hc71
          refine lv_iconst (v := 0) hx hb d_Md_isBefore_161 (by decide) ?_
          have hP9 := hP.sub (ws' := [(mo, .inr (12, mdG r cd tm (nI sn) (nI tx) (nI lz) (nI az) (nI na) (nI nt) (nI nr) mw ml mk dq)), (r 34, .inl ((cT 0), 50, .inl f34)), (r 35, .inl ((cT 0), 50, .inl f35)), (r 36, .inl ((cT 0), 800, .inl f36))]) [0, 1, 2, 3] rfl
          have hD9 := hD.sub (ws' := [(mo, .inr (12, mdG r cd tm (nI sn) (nI tx) (nI lz) (nI az) (nI na) (nI nt) (nI nr) mw ml mk dq)), (r 34, .inl ((cT 0), 50, .inl f34)), (r 35, .inl ((cT 0), 50, .inl f35)), (r 36, .inl ((cT 0), 800, .inl f36))]) [0, 1, 2, 3] (by decide) rfl
          exact W.zret (v := 0) hx hb hr (by first | rfl | decide) (fun t ht hW => ⟨⟨_, (), rfl, Or.inl rfl, by rw [ht]; exact hP9, va_K.moved hW.alike hK, hD9⟩, hS.F ht⟩) hS.2.2 d_Md_isBefore_162
        · skip
          have n73 : t4 < t7 := Nat.not_le.mp (fun h7 => hc71 ((nI_leI (a := t7) (b := t4) (by omega) (by omega)).mpr h7))
          refine lv_iconst (v := 1) hx hb d_Md_isBefore_157 (by decide) ?_
          refine lv_goto (tgt := 162) hx hb d_Md_isBefore_158 (by decide) ?_
          have hP9 := hP.sub (ws' := [(mo, .inr (12, mdG r cd tm (nI sn) (nI tx) (nI lz) (nI az) (nI na) (nI nt) (nI nr) mw ml mk dq)), (r 34, .inl ((cT 0), 50, .inl f34)), (r 35, .inl ((cT 0), 50, .inl f35)), (r 36, .inl ((cT 0), 800, .inl f36))]) [0, 1, 2, 3] rfl
          have hD9 := hD.sub (ws' := [(mo, .inr (12, mdG r cd tm (nI sn) (nI tx) (nI lz) (nI az) (nI na) (nI nt) (nI nr) mw ml mk dq)), (r 34, .inl ((cT 0), 50, .inl f34)), (r 35, .inl ((cT 0), 50, .inl f35)), (r 36, .inl ((cT 0), 800, .inl f36))]) [0, 1, 2, 3] (by decide) rfl
          exact W.zret (v := 1) hx hb hr (by first | rfl | decide) (fun t ht hW => ⟨⟨_, (), rfl, Or.inr rfl, by rw [ht]; exact hP9, va_K.moved hW.alike hK, hD9⟩, hS.F ht⟩) hS.2.2 d_Md_isBefore_162
      · skip
        rcases hbx with h7s | h7s
        · skip
          refine lv_topi (fun x75 e74 => ?_)
          obtain rfl : x75 = 0 := by rw [e74]; exact h7s
          have hP9 := hP.sub (ws' := [(mo, .inr (12, mdG r cd tm (nI sn) (nI tx) (nI lz) (nI az) (nI na) (nI nt) (nI nr) mw ml mk dq)), (r 34, .inl ((cT 0), 50, .inl f34)), (r 35, .inl ((cT 0), 50, .inl f35)), (r 36, .inl ((cT 0), 800, .inl f36))]) [0, 1, 2, 3] rfl
          have hD9 := hD.sub (ws' := [(mo, .inr (12, mdG r cd tm (nI sn) (nI tx) (nI lz) (nI az) (nI na) (nI nt) (nI nr) mw ml mk dq)), (r 34, .inl ((cT 0), 50, .inl f34)), (r 35, .inl ((cT 0), 50, .inl f35)), (r 36, .inl ((cT 0), 800, .inl f36))]) [0, 1, 2, 3] (by decide) rfl
          exact W.zret (v := 0) hx hb hr (by first | rfl | decide) (fun t ht hW => ⟨⟨_, (), rfl, Or.inl rfl, by rw [ht]; exact hP9, va_K.moved hW.alike hK, hD9⟩, hS.F ht⟩) hS.2.2 d_Md_isBefore_135
        · skip
          refine lv_topi (fun x77 e76 => ?_)
          obtain rfl : x77 = 1 := by rw [e76]; exact h7s
          have hP9 := hP.sub (ws' := [(mo, .inr (12, mdG r cd tm (nI sn) (nI tx) (nI lz) (nI az) (nI na) (nI nt) (nI nr) mw ml mk dq)), (r 34, .inl ((cT 0), 50, .inl f34)), (r 35, .inl ((cT 0), 50, .inl f35)), (r 36, .inl ((cT 0), 800, .inl f36))]) [0, 1, 2, 3] rfl
          have hD9 := hD.sub (ws' := [(mo, .inr (12, mdG r cd tm (nI sn) (nI tx) (nI lz) (nI az) (nI na) (nI nt) (nI nr) mw ml mk dq)), (r 34, .inl ((cT 0), 50, .inl f34)), (r 35, .inl ((cT 0), 50, .inl f35)), (r 36, .inl ((cT 0), 800, .inl f36))]) [0, 1, 2, 3] (by decide) rfl
          exact W.zret (v := 1) hx hb hr (by first | rfl | decide) (fun t ht hW => ⟨⟨_, (), rfl, Or.inr rfl, by rw [ht]; exact hP9, va_K.moved hW.alike hK, hD9⟩, hS.F ht⟩) hS.2.2 d_Md_isBefore_135
    · skip
      have n12 : t4 < t7 := Nat.not_le.mp (fun h7 => hc10 ((nI_leI (a := t7) (b := t4) (by omega) (by omega)).mpr h7))
      refine lv_aload_n hx hb d_Md_isBefore_51 rfl (lv_at hl 0 rfl) ?_
      refine va_get (D := (dC, dI)) (ci := 12) (v := (.ref (r 35))) (C := R_Md) (T := F_Md) (N := 45) hx hb hg in_Md hown hK hP 0 rfl rfl 35 (by decide) (hg _ k_1055) (fun _ h9 => h9) rfl d_Md_isBefore_52 ?_
      refine lv_iload_n hx hb d_Md_isBefore_55 rfl (lv_at hl 1 rfl) ?_
      refine va_iald hx hb hK hP 2 0 rfl rfl (i := (nI a)) (vp_in_nI (N := 50) (by omega) (by decide)) d_Md_isBefore_56 ?_
      refine lv_topi (fun x79 e78 => ?_)
      obtain rfl : x79 = nI t4 := by rw [e78]; rw [nI_clamp (by omega)]; exact xt4
      refine lv_goto (tgt := 66) hx hb d_Md_isBefore_57 (by decide) ?_
      refine lv_istore_n (lv' := [(3, .int (nI t4)), (0, .ref mo), (1, .int (nI a)), (2, .int (nI b))]) hx hb d_Md_isBefore_66 rfl hl (by decide) rfl (fun ls hl => ?_)
      refine lv_iconst (v := 0) hx hb d_Md_isBefore_67 (by decide) ?_
      refine lv_istore (lv' := [(4, .int 0), (3, .int (nI t4)), (0, .ref mo), (1, .int (nI a)), (2, .int (nI b))]) hx hb d_Md_isBefore_68 hl (by decide) rfl (fun ls hl => ?_)
      have hl := lv_sub hl [0, 1, 2, 3, 4] (show _ = [(4, .int 0), (3, .int (nI t4)), (0, .ref mo), (1, .int (nI a)), (2, .int (nI b))] from rfl)
      have L80 : ∀ (Q : State → Prop) (ex0 : ∀ (i : Nat) (H : Heap) (locs : List Loc) (ls : Array Slot), va_P (dC, dI) vcl [(mo, .inr (12, mdG r cd tm (nI sn) (nI tx) (nI lz) (nI az) (nI na) (nI nt) (nI nr) mw ml mk dq)), (r 34, .inl ((cT 0), 50, .inl f34)), (r 35, .inl ((cT 0), 50, .inl f35)), (r 36, .inl ((cT 0), 800, .inl f36))] H → va_D A [(mo, .inr (12, mdG r cd tm (nI sn) (nI tx) (nI lz) (nI az) (nI na) (nI nt) (nI nr) mw ml mk dq)), (r 34, .inl ((cT 0), 50, .inl f34)), (r 35, .inl ((cT 0), 50, .inl f35)), (r 36, .inl ((cT 0), 800, .inl f36))] → va_S A s.heap H locs → lv_has ls 5 [(0, .ref mo), (1, .int (nI a)), (2, .int (nI b))] → W p l e ({ frames := 0, cells := 0, slots := 0, locals := 0 } : Room) s m args below meth c H locs 0 0 Q (F0 m 142 ls [])) (ex1 : ∀ (i : Nat) (bx : Int32) (H : Heap) (locs : List Loc) (ls : Array Slot), (bx = 0 ∨ bx = 1) → va_P (dC, dI) vcl [(mo, .inr (12, mdG r cd tm (nI sn) (nI tx) (nI lz) (nI az) (nI na) (nI nt) (nI nr) mw ml mk dq)), (r 34, .inl ((cT 0), 50, .inl f34)), (r 35, .inl ((cT 0), 50, .inl f35)), (r 36, .inl ((cT 0), 800, .inl f36))] H → va_D A [(mo, .inr (12, mdG r cd tm (nI sn) (nI tx) (nI lz) (nI az) (nI na) (nI nt) (nI nr) mw ml mk dq)), (r 34, .inl ((cT 0), 50, .inl f34)), (r 35, .inl ((cT 0), 50, .inl f35)), (r 36, .inl ((cT 0), 800, .inl f36))] → va_S A s.heap H locs → lv_has ls 5 [(0, .ref mo)] → W p l e ({ frames := 0, cells := 0, slots := 0, locals := 0 } : Room) s m args below meth c H locs 0 0 Q (F0 m 135 ls [.int bx])) (jj81 : Nat) (i : Nat) (H : Heap) (locs : List Loc) (ls : Array Slot), t4 - i ≤ jj81 → (i ≤ t4) → va_P (dC, dI) vcl [(mo, .inr (12, mdG r cd tm (nI sn) (nI tx) (nI lz) (nI az) (nI na) (nI nt) (nI nr) mw ml mk dq)), (r 34, .inl ((cT 0), 50, .inl f34)), (r 35, .inl ((cT 0), 50, .inl f35)), (r 36, .inl ((cT 0), 800, .inl f36))] H → va_D A [(mo, .inr (12, mdG r cd tm (nI sn) (nI tx) (nI lz) (nI az) (nI na) (nI nt) (nI nr) mw ml mk dq)), (r 34, .inl ((cT 0), 50, .inl f34)), (r 35, .inl ((cT 0), 50, .inl f35)), (r 36, .inl ((cT 0), 800, .inl f36))] → va_S A s.heap H locs → lv_has ls 5 [(4, .int (nI i)), (3, .int (nI t4)), (0, .ref mo), (1, .int (nI a)), (2, .int (nI b))] → W p l e ({ frames := 0, cells := 0, slots := 0, locals := 0 } : Room) s m args below meth c H locs 0 0 Q (F0 m 70 ls []) := by
        intro Q ex0 ex1 jj81
        induction jj81 with
        | zero => 
          intro i H locs ls hm9 hi hP hD hS hl
          refine lv_iload hx hb d_Md_isBefore_70 (lv_at hl 0 rfl) ?_
          refine lv_iload_n hx hb d_Md_isBefore_72 rfl (lv_at hl 1 rfl) ?_
          refine lv_icmp_ge (tgt := 142) hx hb d_Md_isBefore_73 (by decide) (fun hc82 => ?_) (fun hc82 => ?_)
          · skip
            have n83 : t4 ≤ i := (nI_leI (a := t4) (b := i) (by omega) (by omega)).mp hc82
            have hl := lv_sub hl [2, 3, 4] (show _ = [(0, .ref mo), (1, .int (nI a)), (2, .int (nI b))] from rfl)
            exact ex0 i _ _ _  hP hD hS hl
          · skip
            have n84 : i < t4 := Nat.not_le.mp (fun h7 => hc82 ((nI_leI (a := t4) (b := i) (by omega) (by omega)).mpr h7))
            refine lv_aload_n hx hb d_Md_isBefore_76 rfl (lv_at hl 2 rfl) ?_
            refine va_get (D := (dC, dI)) (ci := 12) (v := (.ref (r 36))) (C := R_Md) (T := F_Md) (N := 45) hx hb hg in_Md hown hK hP 0 rfl rfl 36 (by decide) (hg _ k_1056) (fun _ h9 => h9) rfl d_Md_isBefore_77 ?_
            refine lv_bipush (v := 16) hx hb d_Md_isBefore_80 (by decide) ?_
            refine lv_iload_n hx hb d_Md_isBefore_82 rfl (lv_at hl 3 rfl) ?_
            refine lv_imul hx hb d_Md_isBefore_83 ?_
            refine lv_topi (fun x86 e85 => ?_)
            obtain rfl : x86 = nI (16 * a) := by rw [e85]; exact pk_mul 16 a
            refine lv_iload hx hb d_Md_isBefore_84 (lv_at hl 0 rfl) ?_
            refine lv_iadd hx hb d_Md_isBefore_86 ?_
            refine lv_topi (fun x88 e87 => ?_)
            obtain rfl : x88 = nI ((16 * a) + i) := by rw [e87]; exact nI_add (16 * a) i
            refine va_iald hx hb hK hP 3 0 rfl rfl (i := (nI ((16 * a) + i))) (vp_in_nI (N := 800) (by omega) (by decide)) d_Md_isBefore_87 ?_
            refine lv_topi (fun x89 e_x89 => ?_)
            clear e_x89
            refine lv_aload_n hx hb d_Md_isBefore_88 rfl (lv_at hl 2 rfl) ?_
            refine va_get (D := (dC, dI)) (ci := 12) (v := (.ref (r 36))) (C := R_Md) (T := F_Md) (N := 45) hx hb hg in_Md hown hK hP 0 rfl rfl 36 (by decide) (hg _ k_1056) (fun _ h9 => h9) rfl d_Md_isBefore_89 ?_
            refine lv_bipush (v := 16) hx hb d_Md_isBefore_92 (by decide) ?_
            refine lv_iload_n hx hb d_Md_isBefore_94 rfl (lv_at hl 4 rfl) ?_
            refine lv_imul hx hb d_Md_isBefore_95 ?_
            refine lv_topi (fun x91 e90 => ?_)
            obtain rfl : x91 = nI (16 * b) := by rw [e90]; exact pk_mul 16 b
            refine lv_iload hx hb d_Md_isBefore_96 (lv_at hl 0 rfl) ?_
            refine lv_iadd hx hb d_Md_isBefore_98 ?_
            refine lv_topi (fun x93 e92 => ?_)
            obtain rfl : x93 = nI ((16 * b) + i) := by rw [e92]; exact nI_add (16 * b) i
            refine va_iald hx hb hK hP 3 0 rfl rfl (i := (nI ((16 * b) + i))) (vp_in_nI (N := 800) (by omega) (by decide)) d_Md_isBefore_99 ?_
            refine lv_topi (fun x94 e_x94 => ?_)
            clear e_x94
            refine lv_icmp_eq (tgt := 136) hx hb d_Md_isBefore_100 (by decide) (fun hc95 => ?_) (fun hc95 => ?_)
            · skip
              refine lv_iinc (k := 0) (v := nI (i + 1)) (lv' := [(4, .int (nI (i + 1))), (3, .int (nI t4)), (0, .ref mo), (1, .int (nI a)), (2, .int (nI b))]) hx hb d_Md_isBefore_136 hl rfl (nI_1 i) (by decide) rfl (fun ls hl => ?_)
              refine lv_goto (tgt := 70) hx hb d_Md_isBefore_139 (by decide) ?_
              have hl := lv_sub hl [0, 1, 2, 3, 4] (show _ = [(4, .int (nI (i + 1))), (3, .int (nI t4)), (0, .ref mo), (1, .int (nI a)), (2, .int (nI b))] from rfl)
              exfalso; omega
            · skip
              refine lv_aload_n hx hb d_Md_isBefore_103 rfl (lv_at hl 2 rfl) ?_
              refine va_get (D := (dC, dI)) (ci := 12) (v := (.ref (r 36))) (C := R_Md) (T := F_Md) (N := 45) hx hb hg in_Md hown hK hP 0 rfl rfl 36 (by decide) (hg _ k_1056) (fun _ h9 => h9) rfl d_Md_isBefore_104 ?_
              refine lv_bipush (v := 16) hx hb d_Md_isBefore_107 (by decide) ?_
              refine lv_iload_n hx hb d_Md_isBefore_109 rfl (lv_at hl 3 rfl) ?_
              refine lv_imul hx hb d_Md_isBefore_110 ?_
              refine lv_topi (fun x97 e96 => ?_)
              obtain rfl : x97 = nI (16 * a) := by rw [e96]; exact pk_mul 16 a
              refine lv_iload hx hb d_Md_isBefore_111 (lv_at hl 0 rfl) ?_
              refine lv_iadd hx hb d_Md_isBefore_113 ?_
              refine lv_topi (fun x99 e98 => ?_)
              obtain rfl : x99 = nI ((16 * a) + i) := by rw [e98]; exact nI_add (16 * a) i
              refine va_iald hx hb hK hP 3 0 rfl rfl (i := (nI ((16 * a) + i))) (vp_in_nI (N := 800) (by omega) (by decide)) d_Md_isBefore_114 ?_
              refine lv_topi (fun x100 e_x100 => ?_)
              clear e_x100
              refine lv_aload_n hx hb d_Md_isBefore_115 rfl (lv_at hl 2 rfl) ?_
              refine va_get (D := (dC, dI)) (ci := 12) (v := (.ref (r 36))) (C := R_Md) (T := F_Md) (N := 45) hx hb hg in_Md hown hK hP 0 rfl rfl 36 (by decide) (hg _ k_1056) (fun _ h9 => h9) rfl d_Md_isBefore_116 ?_
              refine lv_bipush (v := 16) hx hb d_Md_isBefore_119 (by decide) ?_
              refine lv_iload_n hx hb d_Md_isBefore_121 rfl (lv_at hl 4 rfl) ?_
              refine lv_imul hx hb d_Md_isBefore_122 ?_
              refine lv_topi (fun x102 e101 => ?_)
              obtain rfl : x102 = nI (16 * b) := by rw [e101]; exact pk_mul 16 b
              refine lv_iload hx hb d_Md_isBefore_123 (lv_at hl 0 rfl) ?_
              refine lv_iadd hx hb d_Md_isBefore_125 ?_
              refine lv_topi (fun x104 e103 => ?_)
              obtain rfl : x104 = nI ((16 * b) + i) := by rw [e103]; exact nI_add (16 * b) i
              refine va_iald hx hb hK hP 3 0 rfl rfl (i := (nI ((16 * b) + i))) (vp_in_nI (N := 800) (by omega) (by decide)) d_Md_isBefore_126 ?_
              refine lv_topi (fun x105 e_x105 => ?_)
              clear e_x105
              refine lv_icmp_ge (tgt := 134) hx hb d_Md_isBefore_127 (by decide) (fun hc106 => ?_) (fun hc106 => ?_)
              · skip
                refine lv_iconst (v := 0) hx hb d_Md_isBefore_134 (by decide) ?_
                have hl := lv_sub hl [2] (show _ = [(0, .ref mo)] from rfl)
                exact ex1 i 0 _ _ _ (Or.inl rfl) hP hD hS hl
              · skip
                refine lv_iconst (v := 1) hx hb d_Md_isBefore_130 (by decide) ?_
                refine lv_goto (tgt := 135) hx hb d_Md_isBefore_131 (by decide) ?_
                have hl := lv_sub hl [2] (show _ = [(0, .ref mo)] from rfl)
                exact ex1 i 1 _ _ _ (Or.inr rfl) hP hD hS hl
        | succ jj81 ih => 
          intro i H locs ls hm9 hi hP hD hS hl
          refine lv_iload hx hb d_Md_isBefore_70 (lv_at hl 0 rfl) ?_
          refine lv_iload_n hx hb d_Md_isBefore_72 rfl (lv_at hl 1 rfl) ?_
          refine lv_icmp_ge (tgt := 142) hx hb d_Md_isBefore_73 (by decide) (fun hc107 => ?_) (fun hc107 => ?_)
          · skip
            have n108 : t4 ≤ i := (nI_leI (a := t4) (b := i) (by omega) (by omega)).mp hc107
            have hl := lv_sub hl [2, 3, 4] (show _ = [(0, .ref mo), (1, .int (nI a)), (2, .int (nI b))] from rfl)
            exact ex0 i _ _ _  hP hD hS hl
          · skip
            have n109 : i < t4 := Nat.not_le.mp (fun h7 => hc107 ((nI_leI (a := t4) (b := i) (by omega) (by omega)).mpr h7))
            refine lv_aload_n hx hb d_Md_isBefore_76 rfl (lv_at hl 2 rfl) ?_
            refine va_get (D := (dC, dI)) (ci := 12) (v := (.ref (r 36))) (C := R_Md) (T := F_Md) (N := 45) hx hb hg in_Md hown hK hP 0 rfl rfl 36 (by decide) (hg _ k_1056) (fun _ h9 => h9) rfl d_Md_isBefore_77 ?_
            refine lv_bipush (v := 16) hx hb d_Md_isBefore_80 (by decide) ?_
            refine lv_iload_n hx hb d_Md_isBefore_82 rfl (lv_at hl 3 rfl) ?_
            refine lv_imul hx hb d_Md_isBefore_83 ?_
            refine lv_topi (fun x111 e110 => ?_)
            obtain rfl : x111 = nI (16 * a) := by rw [e110]; exact pk_mul 16 a
            refine lv_iload hx hb d_Md_isBefore_84 (lv_at hl 0 rfl) ?_
            refine lv_iadd hx hb d_Md_isBefore_86 ?_
            refine lv_topi (fun x113 e112 => ?_)
            obtain rfl : x113 = nI ((16 * a) + i) := by rw [e112]; exact nI_add (16 * a) i
            refine va_iald hx hb hK hP 3 0 rfl rfl (i := (nI ((16 * a) + i))) (vp_in_nI (N := 800) (by omega) (by decide)) d_Md_isBefore_87 ?_
            refine lv_topi (fun x114 e_x114 => ?_)
            clear e_x114
            refine lv_aload_n hx hb d_Md_isBefore_88 rfl (lv_at hl 2 rfl) ?_
            refine va_get (D := (dC, dI)) (ci := 12) (v := (.ref (r 36))) (C := R_Md) (T := F_Md) (N := 45) hx hb hg in_Md hown hK hP 0 rfl rfl 36 (by decide) (hg _ k_1056) (fun _ h9 => h9) rfl d_Md_isBefore_89 ?_
            refine lv_bipush (v := 16) hx hb d_Md_isBefore_92 (by decide) ?_
            refine lv_iload_n hx hb d_Md_isBefore_94 rfl (lv_at hl 4 rfl) ?_
            refine lv_imul hx hb d_Md_isBefore_95 ?_
            refine lv_topi (fun x116 e115 => ?_)
            obtain rfl : x116 = nI (16 * b) := by rw [e115]; exact pk_mul 16 b
            refine lv_iload hx hb d_Md_isBefore_96 (lv_at hl 0 rfl) ?_
            refine lv_iadd hx hb d_Md_isBefore_98 ?_
            refine lv_topi (fun x118 e117 => ?_)
            obtain rfl : x118 = nI ((16 * b) + i) := by rw [e117]; exact nI_add (16 * b) i
            refine va_iald hx hb hK hP 3 0 rfl rfl (i := (nI ((16 * b) + i))) (vp_in_nI (N := 800) (by omega) (by decide)) d_Md_isBefore_99 ?_
            refine lv_topi (fun x119 e_x119 => ?_)
            clear e_x119
            refine lv_icmp_eq (tgt := 136) hx hb d_Md_isBefore_100 (by decide) (fun hc120 => ?_) (fun hc120 => ?_)
            · skip
              refine lv_iinc (k := 0) (v := nI (i + 1)) (lv' := [(4, .int (nI (i + 1))), (3, .int (nI t4)), (0, .ref mo), (1, .int (nI a)), (2, .int (nI b))]) hx hb d_Md_isBefore_136 hl rfl (nI_1 i) (by decide) rfl (fun ls hl => ?_)
              refine lv_goto (tgt := 70) hx hb d_Md_isBefore_139 (by decide) ?_
              have hl := lv_sub hl [0, 1, 2, 3, 4] (show _ = [(4, .int (nI (i + 1))), (3, .int (nI t4)), (0, .ref mo), (1, .int (nI a)), (2, .int (nI b))] from rfl)
              exact ih (i + 1) _ _ _ (by omega) (by omega) hP hD hS hl
            · skip
              refine lv_aload_n hx hb d_Md_isBefore_103 rfl (lv_at hl 2 rfl) ?_
              refine va_get (D := (dC, dI)) (ci := 12) (v := (.ref (r 36))) (C := R_Md) (T := F_Md) (N := 45) hx hb hg in_Md hown hK hP 0 rfl rfl 36 (by decide) (hg _ k_1056) (fun _ h9 => h9) rfl d_Md_isBefore_104 ?_
              refine lv_bipush (v := 16) hx hb d_Md_isBefore_107 (by decide) ?_
              refine lv_iload_n hx hb d_Md_isBefore_109 rfl (lv_at hl 3 rfl) ?_
              refine lv_imul hx hb d_Md_isBefore_110 ?_
              refine lv_topi (fun x122 e121 => ?_)
              obtain rfl : x122 = nI (16 * a) := by rw [e121]; exact pk_mul 16 a
              refine lv_iload hx hb d_Md_isBefore_111 (lv_at hl 0 rfl) ?_
              refine lv_iadd hx hb d_Md_isBefore_113 ?_
              refine lv_topi (fun x124 e123 => ?_)
              obtain rfl : x124 = nI ((16 * a) + i) := by rw [e123]; exact nI_add (16 * a) i
              refine va_iald hx hb hK hP 3 0 rfl rfl (i := (nI ((16 * a) + i))) (vp_in_nI (N := 800) (by omega) (by decide)) d_Md_isBefore_114 ?_
              refine lv_topi (fun x125 e_x125 => ?_)
              clear e_x125
              refine lv_aload_n hx hb d_Md_isBefore_115 rfl (lv_at hl 2 rfl) ?_
              refine va_get (D := (dC, dI)) (ci := 12) (v := (.ref (r 36))) (C := R_Md) (T := F_Md) (N := 45) hx hb hg in_Md hown hK hP 0 rfl rfl 36 (by decide) (hg _ k_1056) (fun _ h9 => h9) rfl d_Md_isBefore_116 ?_
              refine lv_bipush (v := 16) hx hb d_Md_isBefore_119 (by decide) ?_
              refine lv_iload_n hx hb d_Md_isBefore_121 rfl (lv_at hl 4 rfl) ?_
              refine lv_imul hx hb d_Md_isBefore_122 ?_
              refine lv_topi (fun x127 e126 => ?_)
              obtain rfl : x127 = nI (16 * b) := by rw [e126]; exact pk_mul 16 b
              refine lv_iload hx hb d_Md_isBefore_123 (lv_at hl 0 rfl) ?_
              refine lv_iadd hx hb d_Md_isBefore_125 ?_
              refine lv_topi (fun x129 e128 => ?_)
              obtain rfl : x129 = nI ((16 * b) + i) := by rw [e128]; exact nI_add (16 * b) i
              refine va_iald hx hb hK hP 3 0 rfl rfl (i := (nI ((16 * b) + i))) (vp_in_nI (N := 800) (by omega) (by decide)) d_Md_isBefore_126 ?_
              refine lv_topi (fun x130 e_x130 => ?_)
              clear e_x130
              refine lv_icmp_ge (tgt := 134) hx hb d_Md_isBefore_127 (by decide) (fun hc131 => ?_) (fun hc131 => ?_)
              · skip
                refine lv_iconst (v := 0) hx hb d_Md_isBefore_134 (by decide) ?_
                have hl := lv_sub hl [2] (show _ = [(0, .ref mo)] from rfl)
                exact ex1 i 0 _ _ _ (Or.inl rfl) hP hD hS hl
              · skip
                refine lv_iconst (v := 1) hx hb d_Md_isBefore_130 (by decide) ?_
                refine lv_goto (tgt := 135) hx hb d_Md_isBefore_131 (by decide) ?_
                have hl := lv_sub hl [2] (show _ = [(0, .ref mo)] from rfl)
                exact ex1 i 1 _ _ _ (Or.inr rfl) hP hD hS hl
      refine L80 _ (fun i H locs ls  hP hD hS hl => ?_) (fun i bx H locs ls hbx hP hD hS hl => ?_) (t4 - 0) 0 s.heap _ ls (Nat.le_refl _) (by omega) hP hD hS hl
      · skip
        refine lv_aload_n hx hb d_Md_isBefore_142 rfl (lv_at hl 0 rfl) ?_
        refine va_get (D := (dC, dI)) (ci := 12) (v := (.ref (r 35))) (C := R_Md) (T := F_Md) (N := 45) hx hb hg in_Md hown hK hP 0 rfl rfl 35 (by decide) (hg _ k_1055) (fun _ h9 => h9) rfl d_Md_isBefore_143 ?_
        refine lv_iload_n hx hb d_Md_isBefore_146 rfl (lv_at hl 1 rfl) ?_
        refine va_iald hx hb hK hP 2 0 rfl rfl (i := (nI a)) (vp_in_nI (N := 50) (by omega) (by decide)) d_Md_isBefore_147 ?_
        refine lv_topi (fun x133 e132 => ?_)
        obtain rfl : x133 = nI t4 := by rw [e132]; rw [nI_clamp (by omega)]; exact xt4
        refine lv_aload_n hx hb d_Md_isBefore_148 rfl (lv_at hl 0 rfl) ?_
        refine va_get (D := (dC, dI)) (ci := 12) (v := (.ref (r 35))) (C := R_Md) (T := F_Md) (N := 45) hx hb hg in_Md hown hK hP 0 rfl rfl 35 (by decide) (hg _ k_1055) (fun _ h9 => h9) rfl d_Md_isBefore_149 ?_
        refine lv_iload_n hx hb d_Md_isBefore_152 rfl (lv_at hl 2 rfl) ?_
        refine va_iald hx hb hK hP 2 0 rfl rfl (i := (nI b)) (vp_in_nI (N := 50) (by omega) (by decide)) d_Md_isBefore_153 ?_
        refine lv_topi (fun x135 e134 => ?_)
        obtain rfl : x135 = nI t7 := by rw [e134]; rw [nI_clamp (by omega)]; exact xt7
        refine lv_icmp_ge (tgt := 161) hx hb d_Md_isBefore_154 (by decide) (fun hc136 => ?_) (fun hc136 => ?_)
        · skip
          have n137 : t7 ≤ t4 := (nI_leI (a := t7) (b := t4) (by omega) (by omega)).mp hc136
          refine lv_iconst (v := 0) hx hb d_Md_isBefore_161 (by decide) ?_
          have hP9 := hP.sub (ws' := [(mo, .inr (12, mdG r cd tm (nI sn) (nI tx) (nI lz) (nI az) (nI na) (nI nt) (nI nr) mw ml mk dq)), (r 34, .inl ((cT 0), 50, .inl f34)), (r 35, .inl ((cT 0), 50, .inl f35)), (r 36, .inl ((cT 0), 800, .inl f36))]) [0, 1, 2, 3] rfl
          have hD9 := hD.sub (ws' := [(mo, .inr (12, mdG r cd tm (nI sn) (nI tx) (nI lz) (nI az) (nI na) (nI nt) (nI nr) mw ml mk dq)), (r 34, .inl ((cT 0), 50, .inl f34)), (r 35, .inl ((cT 0), 50, .inl f35)), (r 36, .inl ((cT 0), 800, .inl f36))]) [0, 1, 2, 3] (by decide) rfl
          exact W.zret (v := 0) hx hb hr (by first | rfl | decide) (fun t ht hW => ⟨⟨_, (), rfl, Or.inl rfl, by rw [ht]; exact hP9, va_K.moved hW.alike hK, hD9⟩, hS.F ht⟩) hS.2.2 d_Md_isBefore_162
        · skip
          have n138 : t4 < t7 := Nat.not_le.mp (fun h7 => hc136 ((nI_leI (a := t7) (b := t4) (by omega) (by omega)).mpr h7))
          refine lv_iconst (v := 1) hx hb d_Md_isBefore_157 (by decide) ?_
          refine lv_goto (tgt := 162) hx hb d_Md_isBefore_158 (by decide) ?_
          have hP9 := hP.sub (ws' := [(mo, .inr (12, mdG r cd tm (nI sn) (nI tx) (nI lz) (nI az) (nI na) (nI nt) (nI nr) mw ml mk dq)), (r 34, .inl ((cT 0), 50, .inl f34)), (r 35, .inl ((cT 0), 50, .inl f35)), (r 36, .inl ((cT 0), 800, .inl f36))]) [0, 1, 2, 3] rfl
          have hD9 := hD.sub (ws' := [(mo, .inr (12, mdG r cd tm (nI sn) (nI tx) (nI lz) (nI az) (nI na) (nI nt) (nI nr) mw ml mk dq)), (r 34, .inl ((cT 0), 50, .inl f34)), (r 35, .inl ((cT 0), 50, .inl f35)), (r 36, .inl ((cT 0), 800, .inl f36))]) [0, 1, 2, 3] (by decide) rfl
          exact W.zret (v := 1) hx hb hr (by first | rfl | decide) (fun t ht hW => ⟨⟨_, (), rfl, Or.inr rfl, by rw [ht]; exact hP9, va_K.moved hW.alike hK, hD9⟩, hS.F ht⟩) hS.2.2 d_Md_isBefore_162
      · skip
        rcases hbx with h7s | h7s
        · skip
          refine lv_topi (fun x140 e139 => ?_)
          obtain rfl : x140 = 0 := by rw [e139]; exact h7s
          have hP9 := hP.sub (ws' := [(mo, .inr (12, mdG r cd tm (nI sn) (nI tx) (nI lz) (nI az) (nI na) (nI nt) (nI nr) mw ml mk dq)), (r 34, .inl ((cT 0), 50, .inl f34)), (r 35, .inl ((cT 0), 50, .inl f35)), (r 36, .inl ((cT 0), 800, .inl f36))]) [0, 1, 2, 3] rfl
          have hD9 := hD.sub (ws' := [(mo, .inr (12, mdG r cd tm (nI sn) (nI tx) (nI lz) (nI az) (nI na) (nI nt) (nI nr) mw ml mk dq)), (r 34, .inl ((cT 0), 50, .inl f34)), (r 35, .inl ((cT 0), 50, .inl f35)), (r 36, .inl ((cT 0), 800, .inl f36))]) [0, 1, 2, 3] (by decide) rfl
          exact W.zret (v := 0) hx hb hr (by first | rfl | decide) (fun t ht hW => ⟨⟨_, (), rfl, Or.inl rfl, by rw [ht]; exact hP9, va_K.moved hW.alike hK, hD9⟩, hS.F ht⟩) hS.2.2 d_Md_isBefore_135
        · skip
          refine lv_topi (fun x142 e141 => ?_)
          obtain rfl : x142 = 1 := by rw [e141]; exact h7s
          have hP9 := hP.sub (ws' := [(mo, .inr (12, mdG r cd tm (nI sn) (nI tx) (nI lz) (nI az) (nI na) (nI nt) (nI nr) mw ml mk dq)), (r 34, .inl ((cT 0), 50, .inl f34)), (r 35, .inl ((cT 0), 50, .inl f35)), (r 36, .inl ((cT 0), 800, .inl f36))]) [0, 1, 2, 3] rfl
          have hD9 := hD.sub (ws' := [(mo, .inr (12, mdG r cd tm (nI sn) (nI tx) (nI lz) (nI az) (nI na) (nI nt) (nI nr) mw ml mk dq)), (r 34, .inl ((cT 0), 50, .inl f34)), (r 35, .inl ((cT 0), 50, .inl f35)), (r 36, .inl ((cT 0), 800, .inl f36))]) [0, 1, 2, 3] (by decide) rfl
          exact W.zret (v := 1) hx hb hr (by first | rfl | decide) (fun t ht hW => ⟨⟨_, (), rfl, Or.inr rfl, by rw [ht]; exact hP9, va_K.moved hW.alike hK, hD9⟩, hS.F ht⟩) hS.2.2 d_Md_isBefore_135
  · skip
    refine lv_aload_n hx hb d_Md_isBefore_15 rfl (lv_at hl 0 rfl) ?_
    refine va_get (D := (dC, dI)) (ci := 12) (v := (.ref (r 34))) (C := R_Md) (T := F_Md) (N := 45) hx hb hg in_Md hown hK hP 0 rfl rfl 34 (by decide) (hg _ k_1054) (fun _ h9 => h9) rfl d_Md_isBefore_16 ?_
    refine lv_iload_n hx hb d_Md_isBefore_19 rfl (lv_at hl 1 rfl) ?_
    refine va_iald hx hb hK hP 1 0 rfl rfl (i := (nI a)) (vp_in_nI (N := 50) (by omega) (by decide)) d_Md_isBefore_20 ?_
    refine lv_topi (fun x143 e_x143 => ?_)
    clear e_x143
    refine lv_aload_n hx hb d_Md_isBefore_21 rfl (lv_at hl 0 rfl) ?_
    refine va_get (D := (dC, dI)) (ci := 12) (v := (.ref (r 34))) (C := R_Md) (T := F_Md) (N := 45) hx hb hg in_Md hown hK hP 0 rfl rfl 34 (by decide) (hg _ k_1054) (fun _ h9 => h9) rfl d_Md_isBefore_22 ?_
    refine lv_iload_n hx hb d_Md_isBefore_25 rfl (lv_at hl 2 rfl) ?_
    refine va_iald hx hb hK hP 1 0 rfl rfl (i := (nI b)) (vp_in_nI (N := 50) (by omega) (by decide)) d_Md_isBefore_26 ?_
    refine lv_topi (fun x144 e_x144 => ?_)
    clear e_x144
    refine lv_icmp_ge (tgt := 34) hx hb d_Md_isBefore_27 (by decide) (fun hc145 => ?_) (fun hc145 => ?_)
    · skip
      refine lv_iconst (v := 0) hx hb d_Md_isBefore_34 (by decide) ?_
      have hP9 := hP.sub (ws' := [(mo, .inr (12, mdG r cd tm (nI sn) (nI tx) (nI lz) (nI az) (nI na) (nI nt) (nI nr) mw ml mk dq)), (r 34, .inl ((cT 0), 50, .inl f34)), (r 35, .inl ((cT 0), 50, .inl f35)), (r 36, .inl ((cT 0), 800, .inl f36))]) [0, 1, 2, 3] rfl
      have hD9 := hD.sub (ws' := [(mo, .inr (12, mdG r cd tm (nI sn) (nI tx) (nI lz) (nI az) (nI na) (nI nt) (nI nr) mw ml mk dq)), (r 34, .inl ((cT 0), 50, .inl f34)), (r 35, .inl ((cT 0), 50, .inl f35)), (r 36, .inl ((cT 0), 800, .inl f36))]) [0, 1, 2, 3] (by decide) rfl
      exact W.zret (v := 0) hx hb hr (by first | rfl | decide) (fun t ht hW => ⟨⟨_, (), rfl, Or.inl rfl, by rw [ht]; exact hP9, va_K.moved hW.alike hK, hD9⟩, hS.F ht⟩) hS.2.2 d_Md_isBefore_35
    · skip
      refine lv_iconst (v := 1) hx hb d_Md_isBefore_30 (by decide) ?_
      refine lv_goto (tgt := 35) hx hb d_Md_isBefore_31 (by decide) ?_
      have hP9 := hP.sub (ws' := [(mo, .inr (12, mdG r cd tm (nI sn) (nI tx) (nI lz) (nI az) (nI na) (nI nt) (nI nr) mw ml mk dq)), (r 34, .inl ((cT 0), 50, .inl f34)), (r 35, .inl ((cT 0), 50, .inl f35)), (r 36, .inl ((cT 0), 800, .inl f36))]) [0, 1, 2, 3] rfl
      have hD9 := hD.sub (ws' := [(mo, .inr (12, mdG r cd tm (nI sn) (nI tx) (nI lz) (nI az) (nI na) (nI nt) (nI nr) mw ml mk dq)), (r 34, .inl ((cT 0), 50, .inl f34)), (r 35, .inl ((cT 0), 50, .inl f35)), (r 36, .inl ((cT 0), 800, .inl f36))]) [0, 1, 2, 3] (by decide) rfl
      exact W.zret (v := 1) hx hb hr (by first | rfl | decide) (fun t ht hW => ⟨⟨_, (), rfl, Or.inr rfl, by rw [ht]; exact hP9, va_K.moved hW.alike hK, hD9⟩, hS.F ht⟩) hS.2.2 d_Md_isBefore_35
set_option maxHeartbeats 4000000 in
set_option maxRecDepth 100000 in
/-- record -/
theorem u_record (l : Launch) (dC : Nat → ClassId) (dI : Nat → Nat → Nat) (cT : Nat → ClassId) (sz : Nat) (mo : Nat) (r : Nat → Nat) (cd : Int32) (tm : Int32) (sn : Nat) (tx : Nat) (lz : Nat) (az : Nat) (na : Nat) (nt : Nat) (nr : Nat) (mw : Int32) (ml : Int32) (mk : Int64) (dq : Int64) (f34 : Nat → Int32) (f35 : Nat → Int32) (f36 : Nat → Int32) (f37 : Nat → Int32) (f38 : Nat → Int32) (f39 : Nat → Int32) (f40 : Nat → Int32) (f41 : Nat → Int64) (f42 : Nat → Int64) (x : Int32) (y : Int32) (h35 : BD 16 50 f35) (hnr : nr ≤ 50) : Met l y_Md_record (Cond.code y_Md_record b_Md_record 7 (Option.some Jvm.ClassFile.FieldType.long) :: BIG) ({ frames := 2, cells := 0, slots := 0, locals := 45 }) (va_Pc [.ref mo, .int x, .int y] (fun U => U.heap.size = sz ∧ va_P (dC, dI) vcl [(mo, .inr (12, mdG r cd tm (nI sn) (nI tx) (nI lz) (nI az) (nI na) (nI nt) (nI nr) mw ml mk dq)), (r 34, .inl ((cT 0), 50, .inl f34)), (r 35, .inl ((cT 0), 50, .inl f35)), (r 36, .inl ((cT 0), 800, .inl f36)), (r 37, .inl ((cT 0), 50, .inl f37)), (r 38, .inl ((cT 0), 50, .inl f38)), (r 39, .inl ((cT 0), 50, .inl f39)), (r 40, .inl ((cT 0), 50, .inl f40)), (r 41, .inl ((cT 1), 50, .inr (.inl f41))), (r 42, .inl ((cT 1), 50, .inr (.inl f42)))] U.heap ∧ va_K (dC, dI) vcl (tyL cT) U ∧ va_D (fun _ => True) [(mo, .inr (12, mdG r cd tm (nI sn) (nI tx) (nI lz) (nI az) (nI na) (nI nt) (nI nr) mw ml mk dq)), (r 34, .inl ((cT 0), 50, .inl f34)), (r 35, .inl ((cT 0), 50, .inl f35)), (r 36, .inl ((cT 0), 800, .inl f36)), (r 37, .inl ((cT 0), 50, .inl f37)), (r 38, .inl ((cT 0), 50, .inl f38)), (r 39, .inl ((cT 0), 50, .inl f39)), (r 40, .inl ((cT 0), 50, .inl f40)), (r 41, .inl ((cT 1), 50, .inr (.inl f41))), (r 42, .inl ((cT 1), 50, .inr (.inl f42)))])) (va_Ql (S := Int32) (fun rv9 u => match u with | cd2 => True) (fun u t => match u with | cd2 => va_P (dC, dI) vcl [(mo, .inr (12, mdG r cd2 tm (nI sn) (nI tx) (nI lz) (nI az) (nI na) (nI nt) (nI nr) mw ml mk dq)), (r 34, .inl ((cT 0), 50, .inl f34)), (r 35, .inl ((cT 0), 50, .inl f35)), (r 36, .inl ((cT 0), 800, .inl f36)), (r 37, .inl ((cT 0), 50, .inl f37)), (r 38, .inl ((cT 0), 50, .inl f38)), (r 39, .inl ((cT 0), 50, .inl f39)), (r 40, .inl ((cT 0), 50, .inl f40)), (r 41, .inl ((cT 1), 50, .inr (.inl f41))), (r 42, .inl ((cT 1), 50, .inr (.inl f42)))] t.heap ∧ va_K (dC, dI) vcl (tyL cT) t ∧ va_D (va_A [(mo, .inr (12, mdG r cd tm (nI sn) (nI tx) (nI lz) (nI az) (nI na) (nI nt) (nI nr) mw ml mk dq)), (r 34, .inl ((cT 0), 50, .inl f34)), (r 35, .inl ((cT 0), 50, .inl f35)), (r 36, .inl ((cT 0), 800, .inl f36)), (r 37, .inl ((cT 0), 50, .inl f37)), (r 38, .inl ((cT 0), 50, .inl f38)), (r 39, .inl ((cT 0), 50, .inl f39)), (r 40, .inl ((cT 0), 50, .inl f40)), (r 41, .inl ((cT 1), 50, .inr (.inl f41))), (r 42, .inl ((cT 1), 50, .inr (.inl f42)))] sz) [(mo, .inr (12, mdG r cd2 tm (nI sn) (nI tx) (nI lz) (nI az) (nI na) (nI nt) (nI nr) mw ml mk dq)), (r 34, .inl ((cT 0), 50, .inl f34)), (r 35, .inl ((cT 0), 50, .inl f35)), (r 36, .inl ((cT 0), 800, .inl f36)), (r 37, .inl ((cT 0), 50, .inl f37)), (r 38, .inl ((cT 0), 50, .inl f38)), (r 39, .inl ((cT 0), 50, .inl f39)), (r 40, .inl ((cT 0), 50, .inl f40)), (r 41, .inl ((cT 1), 50, .inr (.inl f41))), (r 42, .inl ((cT 1), 50, .inr (.inl f42)))]) (va_A [(mo, .inr (12, mdG r cd tm (nI sn) (nI tx) (nI lz) (nI az) (nI na) (nI nt) (nI nr) mw ml mk dq)), (r 34, .inl ((cT 0), 50, .inl f34)), (r 35, .inl ((cT 0), 50, .inl f35)), (r 36, .inl ((cT 0), 800, .inl f36)), (r 37, .inl ((cT 0), 50, .inl f37)), (r 38, .inl ((cT 0), 50, .inl f38)), (r 39, .inl ((cT 0), 50, .inl f39)), (r 40, .inl ((cT 0), 50, .inl f40)), (r 41, .inl ((cT 1), 50, .inr (.inl f41))), (r 42, .inl ((cT 1), 50, .inr (.inl f42)))] sz)) 0 0 (va_A [(mo, .inr (12, mdG r cd tm (nI sn) (nI tx) (nI lz) (nI az) (nI na) (nI nt) (nI nr) mw ml mk dq)), (r 34, .inl ((cT 0), 50, .inl f34)), (r 35, .inl ((cT 0), 50, .inl f35)), (r 36, .inl ((cT 0), 800, .inl f36)), (r 37, .inl ((cT 0), 50, .inl f37)), (r 38, .inl ((cT 0), 50, .inl f38)), (r 39, .inl ((cT 0), 50, .inl f39)), (r 40, .inl ((cT 0), 50, .inl f40)), (r 41, .inl ((cT 1), 50, .inr (.inl f41))), (r 42, .inl ((cT 1), 50, .inr (.inl f42)))] sz) := by
  refine Met.ofW (cc := b_Md_record) (maxL := 7) (ret := (Option.some Jvm.ClassFile.FieldType.long)) (by decide) rfl ?_
  intro p e s m args below meth c s₁ B hml hv
  obtain ⟨hargs, hsz, hP, hK, hD0⟩ := hv
  have hx := B.exec
  have hb := B.bytes
  have hr := B.returns
  have hts := atoms_spec (ws := (Cond.code y_Md_record b_Md_record 7 (Option.some Jvm.ClassFile.FieldType.long) :: BIG)) B.pre
  have hg : ∀ w ∈ BIG, w.before _ s = true := fun w h => hts w (List.mem_cons_of_mem _ h)
  have hown : s.vm.findClass "DoorServerModel" = some m.cls := findClass_of_methodNamed B.named
  have hlocks := B.notSynchronized
  subst hsz
  have hD := hD0.self (sz := s.heap.size)
  generalize hAe : va_A [(mo, .inr (12, mdG r cd tm (nI sn) (nI tx) (nI lz) (nI az) (nI na) (nI nt) (nI nr) mw ml mk dq)), (r 34, .inl ((cT 0), 50, .inl f34)), (r 35, .inl ((cT 0), 50, .inl f35)), (r 36, .inl ((cT 0), 800, .inl f36)), (r 37, .inl ((cT 0), 50, .inl f37)), (r 38, .inl ((cT 0), 50, .inl f38)), (r 39, .inl ((cT 0), 50, .inl f39)), (r 40, .inl ((cT 0), 50, .inl f40)), (r 41, .inl ((cT 1), 50, .inr (.inl f41))), (r 42, .inl ((cT 1), 50, .inr (.inl f42)))] s.heap.size = A at hD ⊢
  have hA : ∀ q : Nat, s.heap.size ≤ q → A q := fun q h => by rw [← hAe]; exact Or.inr h
  have hS : va_S A s.heap s.heap [] := va_S.rf
  have hl := lv_entry ([.ref mo, .int x, .int y]) (n := 7) (Nat.le_of_ble_eq_true rfl)
  refine W.eq (g2 := entryFrame m (List.toArray [.ref mo, .int x, .int y]) 7) (by rw [hargs]) ?_
  rw [lg_entry_eq]
  generalize (lg_sl ([.ref mo, .int x, .int y]) ++ List.replicate (7 - (lg_sl ([.ref mo, .int x, .int y])).length) Slot.unset).toArray = ls at hl ⊢
  have hl : lv_has ls 7 [(0, .ref mo), (1, .int x), (2, .int y)] := hl
  change W p l e ({ frames := 2, cells := 0, slots := 0, locals := 45 } : Room) s m args below meth c s.heap [] 0 0 _ _
  have hP : va_P (dC, dI) vcl [(mo, .inr (12, mdG r cd tm (nI sn) (nI tx) (nI lz) (nI az) (nI na) (nI nt) (nI nr) mw ml mk dq)), (r 34, .inl ((cT 0), 50, .inl f34)), (r 35, .inl ((cT 0), 50, .inl f35)), (r 36, .inl ((cT 0), 800, .inl f36)), (r 37, .inl ((cT 0), 50, .inl f37)), (r 38, .inl ((cT 0), 50, .inl f38)), (r 39, .inl ((cT 0), 50, .inl f39)), (r 40, .inl ((cT 0), 50, .inl f40)), (r 41, .inl ((cT 1), 50, .inr (.inl f41))), (r 42, .inl ((cT 1), 50, .inr (.inl f42)))] s.heap := hP
  refine lv_iconst (v := (-1)) hx hb d_Md_record_0 (by decide) ?_
  refine lv_istore_n (lv' := [(3, .int (-1)), (0, .ref mo), (1, .int x), (2, .int y)]) hx hb d_Md_record_1 rfl hl (by decide) rfl (fun ls hl => ?_)
  refine lv_iconst (v := 0) hx hb d_Md_record_2 (by decide) ?_
  refine lv_istore (lv' := [(4, .int 0), (3, .int (-1)), (0, .ref mo), (1, .int x), (2, .int y)]) hx hb d_Md_record_3 hl (by decide) rfl (fun ls hl => ?_)
  have hl := lv_sub hl [0, 1, 2, 3, 4] (show _ = [(4, .int 0), (3, .int (-1)), (0, .ref mo), (1, .int x), (2, .int y)] from rfl)
  have L146 : ∀ (Q : State → Prop) (exit : ∀ (rv : Int32) (H : Heap) (locs : List Loc) (ls : Array Slot), (rv = -1 ∨ ∃ a : Nat, rv = nI a ∧ a < nr) → va_P (dC, dI) vcl [(mo, .inr (12, mdG r cd tm (nI sn) (nI tx) (nI lz) (nI az) (nI na) (nI nt) (nI nr) mw ml mk dq)), (r 34, .inl ((cT 0), 50, .inl f34)), (r 35, .inl ((cT 0), 50, .inl f35)), (r 36, .inl ((cT 0), 800, .inl f36)), (r 37, .inl ((cT 0), 50, .inl f37)), (r 38, .inl ((cT 0), 50, .inl f38)), (r 39, .inl ((cT 0), 50, .inl f39)), (r 40, .inl ((cT 0), 50, .inl f40)), (r 41, .inl ((cT 1), 50, .inr (.inl f41))), (r 42, .inl ((cT 1), 50, .inr (.inl f42)))] H → va_D A [(mo, .inr (12, mdG r cd tm (nI sn) (nI tx) (nI lz) (nI az) (nI na) (nI nt) (nI nr) mw ml mk dq)), (r 34, .inl ((cT 0), 50, .inl f34)), (r 35, .inl ((cT 0), 50, .inl f35)), (r 36, .inl ((cT 0), 800, .inl f36)), (r 37, .inl ((cT 0), 50, .inl f37)), (r 38, .inl ((cT 0), 50, .inl f38)), (r 39, .inl ((cT 0), 50, .inl f39)), (r 40, .inl ((cT 0), 50, .inl f40)), (r 41, .inl ((cT 1), 50, .inr (.inl f41))), (r 42, .inl ((cT 1), 50, .inr (.inl f42)))] → va_S A s.heap H locs → lv_has ls 7 [(4, .int (nI nr)), (3, .int rv), (0, .ref mo), (1, .int x), (2, .int y)] → W p l e ({ frames := 2, cells := 0, slots := 0, locals := 45 } : Room) s m args below meth c H locs 0 0 Q (F0 m 75 ls [])) (j8 i : Nat) (rv : Int32) (H : Heap) (locs : List Loc) (ls : Array Slot), i + j8 = nr → (rv = -1 ∨ ∃ a : Nat, rv = nI a ∧ a < nr) → va_P (dC, dI) vcl [(mo, .inr (12, mdG r cd tm (nI sn) (nI tx) (nI lz) (nI az) (nI na) (nI nt) (nI nr) mw ml mk dq)), (r 34, .inl ((cT 0), 50, .inl f34)), (r 35, .inl ((cT 0), 50, .inl f35)), (r 36, .inl ((cT 0), 800, .inl f36)), (r 37, .inl ((cT 0), 50, .inl f37)), (r 38, .inl ((cT 0), 50, .inl f38)), (r 39, .inl ((cT 0), 50, .inl f39)), (r 40, .inl ((cT 0), 50, .inl f40)), (r 41, .inl ((cT 1), 50, .inr (.inl f41))), (r 42, .inl ((cT 1), 50, .inr (.inl f42)))] H → va_D A [(mo, .inr (12, mdG r cd tm (nI sn) (nI tx) (nI lz) (nI az) (nI na) (nI nt) (nI nr) mw ml mk dq)), (r 34, .inl ((cT 0), 50, .inl f34)), (r 35, .inl ((cT 0), 50, .inl f35)), (r 36, .inl ((cT 0), 800, .inl f36)), (r 37, .inl ((cT 0), 50, .inl f37)), (r 38, .inl ((cT 0), 50, .inl f38)), (r 39, .inl ((cT 0), 50, .inl f39)), (r 40, .inl ((cT 0), 50, .inl f40)), (r 41, .inl ((cT 1), 50, .inr (.inl f41))), (r 42, .inl ((cT 1), 50, .inr (.inl f42)))] → va_S A s.heap H locs → lv_has ls 7 [(4, .int (nI i)), (3, .int rv), (0, .ref mo), (1, .int x), (2, .int y)] → W p l e ({ frames := 2, cells := 0, slots := 0, locals := 45 } : Room) s m args below meth c H locs 0 0 Q (F0 m 5 ls []) := by
    intro Q exit j8
    induction j8 with
    | zero => 
      intro i rv H locs ls hij hrv hP hD hS hl
      have hij : nr = i := by omega
      refine lv_iload hx hb d_Md_record_5 (lv_at hl 0 rfl) ?_
      refine lv_aload_n hx hb d_Md_record_7 rfl (lv_at hl 2 rfl) ?_
      refine va_get (D := (dC, dI)) (ci := 12) (v := (.int (nI nr))) (C := R_Md) (T := F_Md) (N := 45) hx hb hg in_Md hown hK hP 0 rfl rfl 33 (by decide) (hg _ k_1053) (fun _ h9 => h9) rfl d_Md_record_8 ?_
      refine lv_icmp_ge (tgt := 75) hx hb d_Md_record_11 (by decide) (fun hc147 => ?_) (fun hn9 => absurd (nI_le (by omega) (by omega)) hn9)
      subst hij
      exact exit rv _ _ _ hrv hP hD hS hl
    | succ j8 ih => 
      intro i rv H locs ls hij hrv hP hD hS hl
      have hlt : i < nr := by omega
      have hlti := hlt
      refine lv_iload hx hb d_Md_record_5 (lv_at hl 0 rfl) ?_
      refine lv_aload_n hx hb d_Md_record_7 rfl (lv_at hl 2 rfl) ?_
      refine va_get (D := (dC, dI)) (ci := 12) (v := (.int (nI nr))) (C := R_Md) (T := F_Md) (N := 45) hx hb hg in_Md hown hK hP 0 rfl rfl 33 (by decide) (hg _ k_1053) (fun _ h9 => h9) rfl d_Md_record_8 ?_
      refine lv_icmp_ge (tgt := 75) hx hb d_Md_record_11 (by decide) (fun hn9 => absurd hn9 (nI_ge (by omega) (by omega))) (fun hc148 => ?_)
      refine lv_iconst (v := 0) hx hb d_Md_record_14 (by decide) ?_
      refine lv_istore (lv' := [(5, .int 0), (4, .int (nI i)), (3, .int rv), (0, .ref mo), (1, .int x), (2, .int y)]) hx hb d_Md_record_15 hl (by decide) rfl (fun ls hl => ?_)
      refine lv_iconst (v := 0) hx hb d_Md_record_17 (by decide) ?_
      refine lv_istore (lv' := [(6, .int 0), (5, .int 0), (4, .int (nI i)), (3, .int rv), (0, .ref mo), (1, .int x), (2, .int y)]) hx hb d_Md_record_18 hl (by decide) rfl (fun ls hl => ?_)
      have hl := lv_sub hl [0, 1, 2, 3, 4, 5, 6] (show _ = [(6, .int 0), (5, .int 0), (4, .int (nI i)), (3, .int rv), (0, .ref mo), (1, .int x), (2, .int y)] from rfl)
      have L149 : ∀ (Q : State → Prop) (exit : ∀ (bv : Int32) (H : Heap) (locs : List Loc) (ls : Array Slot), va_P (dC, dI) vcl [(mo, .inr (12, mdG r cd tm (nI sn) (nI tx) (nI lz) (nI az) (nI na) (nI nt) (nI nr) mw ml mk dq)), (r 34, .inl ((cT 0), 50, .inl f34)), (r 35, .inl ((cT 0), 50, .inl f35)), (r 36, .inl ((cT 0), 800, .inl f36)), (r 37, .inl ((cT 0), 50, .inl f37)), (r 38, .inl ((cT 0), 50, .inl f38)), (r 39, .inl ((cT 0), 50, .inl f39)), (r 40, .inl ((cT 0), 50, .inl f40)), (r 41, .inl ((cT 1), 50, .inr (.inl f41))), (r 42, .inl ((cT 1), 50, .inr (.inl f42)))] H → va_D A [(mo, .inr (12, mdG r cd tm (nI sn) (nI tx) (nI lz) (nI az) (nI na) (nI nt) (nI nr) mw ml mk dq)), (r 34, .inl ((cT 0), 50, .inl f34)), (r 35, .inl ((cT 0), 50, .inl f35)), (r 36, .inl ((cT 0), 800, .inl f36)), (r 37, .inl ((cT 0), 50, .inl f37)), (r 38, .inl ((cT 0), 50, .inl f38)), (r 39, .inl ((cT 0), 50, .inl f39)), (r 40, .inl ((cT 0), 50, .inl f40)), (r 41, .inl ((cT 1), 50, .inr (.inl f41))), (r 42, .inl ((cT 1), 50, .inr (.inl f42)))] → va_S A s.heap H locs → lv_has ls 7 [(6, .int (nI nr)), (5, .int bv), (4, .int (nI i)), (3, .int rv), (0, .ref mo), (1, .int x), (2, .int y)] → W p l e ({ frames := 2, cells := 0, slots := 0, locals := 45 } : Room) s m args below meth c H locs 0 0 Q (F0 m 56 ls [])) (j8 q9 : Nat) (bv : Int32) (H : Heap) (locs : List Loc) (ls : Array Slot), q9 + j8 = nr → va_P (dC, dI) vcl [(mo, .inr (12, mdG r cd tm (nI sn) (nI tx) (nI lz) (nI az) (nI na) (nI nt) (nI nr) mw ml mk dq)), (r 34, .inl ((cT 0), 50, .inl f34)), (r 35, .inl ((cT 0), 50, .inl f35)), (r 36, .inl ((cT 0), 800, .inl f36)), (r 37, .inl ((cT 0), 50, .inl f37)), (r 38, .inl ((cT 0), 50, .inl f38)), (r 39, .inl ((cT 0), 50, .inl f39)), (r 40, .inl ((cT 0), 50, .inl f40)), (r 41, .inl ((cT 1), 50, .inr (.inl f41))), (r 42, .inl ((cT 1), 50, .inr (.inl f42)))] H → va_D A [(mo, .inr (12, mdG r cd tm (nI sn) (nI tx) (nI lz) (nI az) (nI na) (nI nt) (nI nr) mw ml mk dq)), (r 34, .inl ((cT 0), 50, .inl f34)), (r 35, .inl ((cT 0), 50, .inl f35)), (r 36, .inl ((cT 0), 800, .inl f36)), (r 37, .inl ((cT 0), 50, .inl f37)), (r 38, .inl ((cT 0), 50, .inl f38)), (r 39, .inl ((cT 0), 50, .inl f39)), (r 40, .inl ((cT 0), 50, .inl f40)), (r 41, .inl ((cT 1), 50, .inr (.inl f41))), (r 42, .inl ((cT 1), 50, .inr (.inl f42)))] → va_S A s.heap H locs → lv_has ls 7 [(6, .int (nI q9)), (5, .int bv), (4, .int (nI i)), (3, .int rv), (0, .ref mo), (1, .int x), (2, .int y)] → W p l e ({ frames := 2, cells := 0, slots := 0, locals := 45 } : Room) s m args below meth c H locs 0 0 Q (F0 m 20 ls []) := by
        intro Q exit j8
        induction j8 with
        | zero => 
          intro q9 bv H locs ls hij  hP hD hS hl
          have hij : nr = q9 := by omega
          refine lv_iload hx hb d_Md_record_20 (lv_at hl 0 rfl) ?_
          refine lv_aload_n hx hb d_Md_record_22 rfl (lv_at hl 4 rfl) ?_
          refine va_get (D := (dC, dI)) (ci := 12) (v := (.int (nI nr))) (C := R_Md) (T := F_Md) (N := 45) hx hb hg in_Md hown hK hP 0 rfl rfl 33 (by decide) (hg _ k_1053) (fun _ h9 => h9) rfl d_Md_record_23 ?_
          refine lv_icmp_ge (tgt := 56) hx hb d_Md_record_26 (by decide) (fun hc150 => ?_) (fun hn9 => absurd (nI_le (by omega) (by omega)) hn9)
          subst hij
          exact exit bv _ _ _  hP hD hS hl
        | succ j8 ih => 
          intro q9 bv H locs ls hij  hP hD hS hl
          have hlt : q9 < nr := by omega
          have hltq9 := hlt
          refine lv_iload hx hb d_Md_record_20 (lv_at hl 0 rfl) ?_
          refine lv_aload_n hx hb d_Md_record_22 rfl (lv_at hl 4 rfl) ?_
          refine va_get (D := (dC, dI)) (ci := 12) (v := (.int (nI nr))) (C := R_Md) (T := F_Md) (N := 45) hx hb hg in_Md hown hK hP 0 rfl rfl 33 (by decide) (hg _ k_1053) (fun _ h9 => h9) rfl d_Md_record_23 ?_
          refine lv_icmp_ge (tgt := 56) hx hb d_Md_record_26 (by decide) (fun hn9 => absurd hn9 (nI_ge (by omega) (by omega))) (fun hc151 => ?_)
          refine lv_iload hx hb d_Md_record_29 (lv_at hl 1 rfl) ?_
          refine lv_aload_n hx hb d_Md_record_31 rfl (lv_at hl 4 rfl) ?_
          refine lv_iload hx hb d_Md_record_32 (lv_at hl 0 rfl) ?_
          refine lv_iload hx hb d_Md_record_34 (lv_at hl 2 rfl) ?_
          have hPc := hP.sub (ws' := [(mo, .inr (12, mdG r cd tm (nI sn) (nI tx) (nI lz) (nI az) (nI na) (nI nt) (nI nr) mw ml mk dq)), (r 34, .inl ((cT 0), 50, .inl f34)), (r 35, .inl ((cT 0), 50, .inl f35)), (r 36, .inl ((cT 0), 800, .inl f36))]) [0, 1, 2, 3] rfl
          have hDc := hD.sub (ws' := [(mo, .inr (12, mdG r cd tm (nI sn) (nI tx) (nI lz) (nI az) (nI na) (nI nt) (nI nr) mw ml mk dq)), (r 34, .inl ((cT 0), 50, .inl f34)), (r 35, .inl ((cT 0), 50, .inl f35)), (r 36, .inl ((cT 0), 800, .inl f36))]) [0, 1, 2, 3] (by decide) rfl
          have hFc := va_free (wc := [(mo, .inr (12, mdG r cd tm (nI sn) (nI tx) (nI lz) (nI az) (nI na) (nI nt) (nI nr) mw ml mk dq)), (r 34, .inl ((cT 0), 50, .inl f34)), (r 35, .inl ((cT 0), 50, .inl f35)), (r 36, .inl ((cT 0), 800, .inl f36))]) hD hS hA [0, 1, 2, 3] rfl
          refine va_calli (va_runV (C := "DoorServerModel") (As := [.int (nI q9), .int (nI i)]) (rest := [.int bv]) ⟨hx, hb, hml, hown, hg⟩ (m_isBefore l dC dI cT H.size mo r cd tm sn tx lz az na nt nr mw ml mk dq f34 f35 f36 q9 i (by first | assumption | omega) (by first | assumption | omega) (by first | assumption | omega)) (cwV 2 hg (gI (List.forall_mem_append.mpr ⟨List.forall_mem_cons.mpr ⟨k_1414, List.forall_mem_cons.mpr ⟨k_1416, List.forall_mem_cons.mpr ⟨(big_sel (q := y_Md_isBefore) (n := 45) (by decide +kernel)), List.forall_mem_cons.mpr ⟨k_13, fun _ h => absurd h List.not_mem_nil⟩⟩⟩⟩, List.forall_mem_cons.mpr ⟨k_1417, fun _ h => h⟩⟩)) rfl rfl rfl (by decide +kernel) ⟨Nat.le_of_ble_eq_true rfl, Nat.le_of_ble_eq_true rfl⟩) ⟨fun a U g mk q => by obtain ⟨q0, q1, qP, qK, qD⟩ := q; exact ⟨q0, q1, qP, va_K.moved (u := U) (U := U.calling g mk a) (Vm.Alike.refl U.vm) qK, qD⟩, va_recv (q0 := 0) (ci := 12) hK hP rfl rfl, fun U hU hW => ⟨rfl, by rw [hU], by rw [hU]; exact hPc, va_K.moved hW.alike hK, hDc.weaken (fun _ _ _ _ => trivial)⟩⟩ rfl rfl hl.1 rfl (lv_room (Nat.le_of_ble_eq_true rfl)) d_Md_record_36 ⟨Nat.le_of_ble_eq_true rfl, Nat.le_of_ble_eq_true rfl⟩) hS (fun q _ h => hFc q h) hFc (fun rv9 u t H1 locs ht hvm hw hB hz1 hk1 hS => ?_)
          try dsimp only at hw hB
          obtain ⟨hP1, hK1, hD1⟩ := hB
          rw [ht] at hP1
          generalize rv9 = r152 at hw ⊢
          obtain ⟨hP, hD⟩ := va_join (wr := [(r 37, .inl ((cT 0), 50, .inl f37)), (r 38, .inl ((cT 0), 50, .inl f38)), (r 39, .inl ((cT 0), 50, .inl f39)), (r 40, .inl ((cT 0), 50, .inl f40)), (r 41, .inl ((cT 1), 50, .inr (.inl f41))), (r 42, .inl ((cT 1), 50, .inr (.inl f42)))]) (w1 := [(mo, .inr (12, mdG r cd tm (nI sn) (nI tx) (nI lz) (nI az) (nI na) (nI nt) (nI nr) mw ml mk dq)), (r 34, .inl ((cT 0), 50, .inl f34)), (r 35, .inl ((cT 0), 50, .inl f35)), (r 36, .inl ((cT 0), 800, .inl f36))]) hP hD [0, 1, 2, 3] [4, 5, 6, 7, 8, 9] rfl rfl (by decide) (by decide) hk1 hFc hP1 hD1
          have hw153 := hw
          clear hPc hDc hFc hz1 hk1 hP1 hK1 hD1
          generalize H1 = H at hP hS ⊢
          have hP : va_P (dC, dI) vcl [(r 37, .inl ((cT 0), 50, .inl f37)), (r 38, .inl ((cT 0), 50, .inl f38)), (r 39, .inl ((cT 0), 50, .inl f39)), (r 40, .inl ((cT 0), 50, .inl f40)), (r 41, .inl ((cT 1), 50, .inr (.inl f41))), (r 42, .inl ((cT 1), 50, .inr (.inl f42))), (mo, .inr (12, mdG r cd tm (nI sn) (nI tx) (nI lz) (nI az) (nI na) (nI nt) (nI nr) mw ml mk dq)), (r 34, .inl ((cT 0), 50, .inl f34)), (r 35, .inl ((cT 0), 50, .inl f35)), (r 36, .inl ((cT 0), 800, .inl f36))] H := hP
          have hD : va_D A [(r 37, .inl ((cT 0), 50, .inl f37)), (r 38, .inl ((cT 0), 50, .inl f38)), (r 39, .inl ((cT 0), 50, .inl f39)), (r 40, .inl ((cT 0), 50, .inl f40)), (r 41, .inl ((cT 1), 50, .inr (.inl f41))), (r 42, .inl ((cT 1), 50, .inr (.inl f42))), (mo, .inr (12, mdG r cd tm (nI sn) (nI tx) (nI lz) (nI az) (nI na) (nI nt) (nI nr) mw ml mk dq)), (r 34, .inl ((cT 0), 50, .inl f34)), (r 35, .inl ((cT 0), 50, .inl f35)), (r 36, .inl ((cT 0), 800, .inl f36))] := hD
          have k154 := hw153
          rcases k154 with h8z | h8z
          · skip
            refine lv_topi (fun x156 e155 => ?_)
            obtain rfl : x156 = 0 := by rw [e155]; exact h8z
            refine lv_if_eq (tgt := 46) hx hb d_Md_record_39 (by decide) (fun hc157 => ?_) (fun hn9 => absurd (by decide) hn9)
            refine lv_iconst (v := 0) hx hb d_Md_record_46 (by decide) ?_
            refine lv_iadd hx hb d_Md_record_47 ?_
            refine lv_istore (lv' := [(5, .int (bv + 0)), (6, .int (nI q9)), (4, .int (nI i)), (3, .int rv), (0, .ref mo), (1, .int x), (2, .int y)]) hx hb d_Md_record_48 hl (by decide) rfl (fun ls hl => ?_)
            refine lv_iinc (k := 1) (v := nI (q9 + 1)) (lv' := [(6, .int (nI (q9 + 1))), (5, .int (bv + 0)), (4, .int (nI i)), (3, .int rv), (0, .ref mo), (1, .int x), (2, .int y)]) hx hb d_Md_record_50 hl rfl (nI_1 q9) (by decide) rfl (fun ls hl => ?_)
            refine lv_goto (tgt := 20) hx hb d_Md_record_53 (by decide) ?_
            have hl := lv_sub hl [0, 1, 2, 3, 4, 5, 6] (show _ = [(6, .int (nI (q9 + 1))), (5, .int (bv + 0)), (4, .int (nI i)), (3, .int rv), (0, .ref mo), (1, .int x), (2, .int y)] from rfl)
            have hP := hP.sub (ws' := [(mo, .inr (12, mdG r cd tm (nI sn) (nI tx) (nI lz) (nI az) (nI na) (nI nt) (nI nr) mw ml mk dq)), (r 34, .inl ((cT 0), 50, .inl f34)), (r 35, .inl ((cT 0), 50, .inl f35)), (r 36, .inl ((cT 0), 800, .inl f36)), (r 37, .inl ((cT 0), 50, .inl f37)), (r 38, .inl ((cT 0), 50, .inl f38)), (r 39, .inl ((cT 0), 50, .inl f39)), (r 40, .inl ((cT 0), 50, .inl f40)), (r 41, .inl ((cT 1), 50, .inr (.inl f41))), (r 42, .inl ((cT 1), 50, .inr (.inl f42)))]) [6, 7, 8, 9, 0, 1, 2, 3, 4, 5] rfl
            have hD := hD.sub (ws' := [(mo, .inr (12, mdG r cd tm (nI sn) (nI tx) (nI lz) (nI az) (nI na) (nI nt) (nI nr) mw ml mk dq)), (r 34, .inl ((cT 0), 50, .inl f34)), (r 35, .inl ((cT 0), 50, .inl f35)), (r 36, .inl ((cT 0), 800, .inl f36)), (r 37, .inl ((cT 0), 50, .inl f37)), (r 38, .inl ((cT 0), 50, .inl f38)), (r 39, .inl ((cT 0), 50, .inl f39)), (r 40, .inl ((cT 0), 50, .inl f40)), (r 41, .inl ((cT 1), 50, .inr (.inl f41))), (r 42, .inl ((cT 1), 50, .inr (.inl f42)))]) [6, 7, 8, 9, 0, 1, 2, 3, 4, 5] (by decide) rfl
            exact ih (q9 + 1) _ _ _ _ (by omega)  hP hD hS hl
          · skip
            refine lv_topi (fun x159 e158 => ?_)
            obtain rfl : x159 = 1 := by rw [e158]; exact h8z
            refine lv_if_eq (tgt := 46) hx hb d_Md_record_39 (by decide) (fun hn9 => absurd hn9 (by decide)) (fun hc160 => ?_)
            refine lv_iconst (v := 1) hx hb d_Md_record_42 (by decide) ?_
            refine lv_goto (tgt := 47) hx hb d_Md_record_43 (by decide) ?_
            refine lv_iadd hx hb d_Md_record_47 ?_
            refine lv_istore (lv' := [(5, .int (bv + 1)), (6, .int (nI q9)), (4, .int (nI i)), (3, .int rv), (0, .ref mo), (1, .int x), (2, .int y)]) hx hb d_Md_record_48 hl (by decide) rfl (fun ls hl => ?_)
            refine lv_iinc (k := 1) (v := nI (q9 + 1)) (lv' := [(6, .int (nI (q9 + 1))), (5, .int (bv + 1)), (4, .int (nI i)), (3, .int rv), (0, .ref mo), (1, .int x), (2, .int y)]) hx hb d_Md_record_50 hl rfl (nI_1 q9) (by decide) rfl (fun ls hl => ?_)
            refine lv_goto (tgt := 20) hx hb d_Md_record_53 (by decide) ?_
            have hl := lv_sub hl [0, 1, 2, 3, 4, 5, 6] (show _ = [(6, .int (nI (q9 + 1))), (5, .int (bv + 1)), (4, .int (nI i)), (3, .int rv), (0, .ref mo), (1, .int x), (2, .int y)] from rfl)
            have hP := hP.sub (ws' := [(mo, .inr (12, mdG r cd tm (nI sn) (nI tx) (nI lz) (nI az) (nI na) (nI nt) (nI nr) mw ml mk dq)), (r 34, .inl ((cT 0), 50, .inl f34)), (r 35, .inl ((cT 0), 50, .inl f35)), (r 36, .inl ((cT 0), 800, .inl f36)), (r 37, .inl ((cT 0), 50, .inl f37)), (r 38, .inl ((cT 0), 50, .inl f38)), (r 39, .inl ((cT 0), 50, .inl f39)), (r 40, .inl ((cT 0), 50, .inl f40)), (r 41, .inl ((cT 1), 50, .inr (.inl f41))), (r 42, .inl ((cT 1), 50, .inr (.inl f42)))]) [6, 7, 8, 9, 0, 1, 2, 3, 4, 5] rfl
            have hD := hD.sub (ws' := [(mo, .inr (12, mdG r cd tm (nI sn) (nI tx) (nI lz) (nI az) (nI na) (nI nt) (nI nr) mw ml mk dq)), (r 34, .inl ((cT 0), 50, .inl f34)), (r 35, .inl ((cT 0), 50, .inl f35)), (r 36, .inl ((cT 0), 800, .inl f36)), (r 37, .inl ((cT 0), 50, .inl f37)), (r 38, .inl ((cT 0), 50, .inl f38)), (r 39, .inl ((cT 0), 50, .inl f39)), (r 40, .inl ((cT 0), 50, .inl f40)), (r 41, .inl ((cT 1), 50, .inr (.inl f41))), (r 42, .inl ((cT 1), 50, .inr (.inl f42)))]) [6, 7, 8, 9, 0, 1, 2, 3, 4, 5] (by decide) rfl
            exact ih (q9 + 1) _ _ _ _ (by omega)  hP hD hS hl
      refine L149 _ (fun bv H locs ls  hP hD hS hl => ?_) (nr - 0) 0 0 H _ ls (by omega)  hP hD hS hl
      refine lv_iload hx hb d_Md_record_56 (lv_at hl 1 rfl) ?_
      refine lv_iload_n hx hb d_Md_record_58 rfl (lv_at hl 5 rfl) ?_
      refine lv_icmp_ne (tgt := 67) hx hb d_Md_record_59 (by decide) (fun hc161 => ?_) (fun hc161 => ?_)
      · skip
        refine lv_iload_n hx hb d_Md_record_67 rfl (lv_at hl 3 rfl) ?_
        refine lv_istore_n (lv' := [(3, .int rv), (6, .int (nI nr)), (5, .int bv), (4, .int (nI i)), (0, .ref mo), (1, .int x), (2, .int y)]) hx hb d_Md_record_68 rfl hl (by decide) rfl (fun ls hl => ?_)
        refine lv_iinc (k := 3) (v := nI (i + 1)) (lv' := [(4, .int (nI (i + 1))), (3, .int rv), (6, .int (nI nr)), (5, .int bv), (0, .ref mo), (1, .int x), (2, .int y)]) hx hb d_Md_record_69 hl rfl (nI_1 i) (by decide) rfl (fun ls hl => ?_)
        refine lv_goto (tgt := 5) hx hb d_Md_record_72 (by decide) ?_
        have hl := lv_sub hl [0, 1, 4, 5, 6] (show _ = [(4, .int (nI (i + 1))), (3, .int rv), (0, .ref mo), (1, .int x), (2, .int y)] from rfl)
        exact ih (i + 1) _ _ _ _ (by omega) (hrv) hP hD hS hl
      · skip
        refine lv_iload hx hb d_Md_record_62 (lv_at hl 2 rfl) ?_
        refine lv_goto (tgt := 68) hx hb d_Md_record_64 (by decide) ?_
        refine lv_istore_n (lv' := [(3, .int (nI i)), (6, .int (nI nr)), (5, .int bv), (4, .int (nI i)), (0, .ref mo), (1, .int x), (2, .int y)]) hx hb d_Md_record_68 rfl hl (by decide) rfl (fun ls hl => ?_)
        refine lv_iinc (k := 3) (v := nI (i + 1)) (lv' := [(4, .int (nI (i + 1))), (3, .int (nI i)), (6, .int (nI nr)), (5, .int bv), (0, .ref mo), (1, .int x), (2, .int y)]) hx hb d_Md_record_69 hl rfl (nI_1 i) (by decide) rfl (fun ls hl => ?_)
        refine lv_goto (tgt := 5) hx hb d_Md_record_72 (by decide) ?_
        have hl := lv_sub hl [0, 1, 4, 5, 6] (show _ = [(4, .int (nI (i + 1))), (3, .int (nI i)), (0, .ref mo), (1, .int x), (2, .int y)] from rfl)
        exact ih (i + 1) _ _ _ _ (by omega) (Or.inr ⟨i, rfl, by omega⟩) hP hD hS hl
  refine L146 _ (fun rv H locs ls hrv hP hD hS hl => ?_) (nr - 0) 0 (-1) s.heap _ ls (by omega) (Or.inl rfl) hP hD hS hl
  refine lv_aload_n hx hb d_Md_record_75 rfl (lv_at hl 2 rfl) ?_
  refine lv_iload_n hx hb d_Md_record_76 rfl (lv_at hl 1 rfl) ?_
  rcases hrv with h7r | ⟨ra, h7r, hra⟩
  · skip
    refine lv_topi (fun x163 e162 => ?_)
    obtain rfl : x163 = (-1) := by rw [e162]; exact h7r
    refine lv_if_lt (tgt := 94) hx hb d_Md_record_77 (by decide) (fun hc164 => ?_) (fun hn9 => absurd (by decide) hn9)
    refine lv_iconst (v := 0) hx hb d_Md_record_94 (by decide) ?_
    have hPc := hP.sub (ws' := [(mo, .inr (12, mdG r cd tm (nI sn) (nI tx) (nI lz) (nI az) (nI na) (nI nt) (nI nr) mw ml mk dq))]) [0] rfl
    have hDc := hD.sub (ws' := [(mo, .inr (12, mdG r cd tm (nI sn) (nI tx) (nI lz) (nI az) (nI na) (nI nt) (nI nr) mw ml mk dq))]) [0] (by decide) rfl
    have hFc := va_free (wc := [(mo, .inr (12, mdG r cd tm (nI sn) (nI tx) (nI lz) (nI az) (nI na) (nI nt) (nI nr) mw ml mk dq))]) hD hS hA [0] rfl
    refine va_calli (va_runV (C := "DoorServerModel") (As := [.int 0]) (rest := []) ⟨hx, hb, hml, hown, hg⟩ (m_goes0 l dC dI cT H.size mo r cd tm sn tx lz az na nt nr mw ml mk dq ) (cwV 1 hg (gI (List.forall_mem_append.mpr ⟨List.forall_mem_cons.mpr ⟨k_1165, List.forall_mem_cons.mpr ⟨k_1167, List.forall_mem_cons.mpr ⟨(big_sel (q := y_Md_goes) (n := 45) (by decide +kernel)), List.forall_mem_cons.mpr ⟨k_13, fun _ h => absurd h List.not_mem_nil⟩⟩⟩⟩, List.forall_mem_cons.mpr ⟨k_1168, fun _ h => h⟩⟩)) rfl rfl rfl (by decide +kernel) ⟨Nat.le_of_ble_eq_true rfl, Nat.le_of_ble_eq_true rfl⟩) ⟨fun a U g mk q => by obtain ⟨q0, q1, qP, qK, qD⟩ := q; exact ⟨q0, q1, qP, va_K.moved (u := U) (U := U.calling g mk a) (Vm.Alike.refl U.vm) qK, qD⟩, va_recv (q0 := 0) (ci := 12) hK hP rfl rfl, fun U hU hW => ⟨rfl, by rw [hU], by rw [hU]; exact hPc, va_K.moved hW.alike hK, hDc.weaken (fun _ _ _ _ => trivial)⟩⟩ rfl rfl hl.1 rfl (lv_room (Nat.le_of_ble_eq_true rfl)) d_Md_record_95 ⟨Nat.le_of_ble_eq_true rfl, Nat.le_of_ble_eq_true rfl⟩) hS (fun q _ h => hFc q h) hFc (fun rv9 u t H1 locs ht hvm hw hB hz1 hk1 hS => ?_)
    try dsimp only at hw hB
    obtain ⟨hP1, hK1, hD1⟩ := hB
    rw [ht] at hP1
    obtain ⟨rfl, hw⟩ := hw
    obtain ⟨hP, hD⟩ := va_join (wr := [(r 34, .inl ((cT 0), 50, .inl f34)), (r 35, .inl ((cT 0), 50, .inl f35)), (r 36, .inl ((cT 0), 800, .inl f36)), (r 37, .inl ((cT 0), 50, .inl f37)), (r 38, .inl ((cT 0), 50, .inl f38)), (r 39, .inl ((cT 0), 50, .inl f39)), (r 40, .inl ((cT 0), 50, .inl f40)), (r 41, .inl ((cT 1), 50, .inr (.inl f41))), (r 42, .inl ((cT 1), 50, .inr (.inl f42)))]) (w1 := [(mo, .inr (12, mdG r 1 tm (nI sn) (nI tx) (nI lz) (nI az) (nI na) (nI nt) (nI nr) mw ml mk dq))]) hP hD [0] [1, 2, 3, 4, 5, 6, 7, 8, 9] rfl rfl (by decide) (by decide) hk1 hFc hP1 hD1
    have hw165 := hw
    clear hPc hDc hFc hz1 hk1 hP1 hK1 hD1
    generalize H1 = H at hP hS ⊢
    have hP : va_P (dC, dI) vcl [(r 34, .inl ((cT 0), 50, .inl f34)), (r 35, .inl ((cT 0), 50, .inl f35)), (r 36, .inl ((cT 0), 800, .inl f36)), (r 37, .inl ((cT 0), 50, .inl f37)), (r 38, .inl ((cT 0), 50, .inl f38)), (r 39, .inl ((cT 0), 50, .inl f39)), (r 40, .inl ((cT 0), 50, .inl f40)), (r 41, .inl ((cT 1), 50, .inr (.inl f41))), (r 42, .inl ((cT 1), 50, .inr (.inl f42))), (mo, .inr (12, mdG r 1 tm (nI sn) (nI tx) (nI lz) (nI az) (nI na) (nI nt) (nI nr) mw ml mk dq))] H := hP
    have hD : va_D A [(r 34, .inl ((cT 0), 50, .inl f34)), (r 35, .inl ((cT 0), 50, .inl f35)), (r 36, .inl ((cT 0), 800, .inl f36)), (r 37, .inl ((cT 0), 50, .inl f37)), (r 38, .inl ((cT 0), 50, .inl f38)), (r 39, .inl ((cT 0), 50, .inl f39)), (r 40, .inl ((cT 0), 50, .inl f40)), (r 41, .inl ((cT 1), 50, .inr (.inl f41))), (r 42, .inl ((cT 1), 50, .inr (.inl f42))), (mo, .inr (12, mdG r 1 tm (nI sn) (nI tx) (nI lz) (nI az) (nI na) (nI nt) (nI nr) mw ml mk dq))] := hD
    refine lv_if_ne (tgt := 103) hx hb d_Md_record_98 (by decide) (fun hn9 => absurd hn9 (by decide)) (fun hc166 => ?_)
    refine lv_lconst (v := 0) hx hb d_Md_record_101 (by decide) ?_
    have hP9 := hP.sub (ws' := [(mo, .inr (12, mdG r 1 tm (nI sn) (nI tx) (nI lz) (nI az) (nI na) (nI nt) (nI nr) mw ml mk dq)), (r 34, .inl ((cT 0), 50, .inl f34)), (r 35, .inl ((cT 0), 50, .inl f35)), (r 36, .inl ((cT 0), 800, .inl f36)), (r 37, .inl ((cT 0), 50, .inl f37)), (r 38, .inl ((cT 0), 50, .inl f38)), (r 39, .inl ((cT 0), 50, .inl f39)), (r 40, .inl ((cT 0), 50, .inl f40)), (r 41, .inl ((cT 1), 50, .inr (.inl f41))), (r 42, .inl ((cT 1), 50, .inr (.inl f42)))]) [9, 0, 1, 2, 3, 4, 5, 6, 7, 8] rfl
    have hD9 := hD.sub (ws' := [(mo, .inr (12, mdG r 1 tm (nI sn) (nI tx) (nI lz) (nI az) (nI na) (nI nt) (nI nr) mw ml mk dq)), (r 34, .inl ((cT 0), 50, .inl f34)), (r 35, .inl ((cT 0), 50, .inl f35)), (r 36, .inl ((cT 0), 800, .inl f36)), (r 37, .inl ((cT 0), 50, .inl f37)), (r 38, .inl ((cT 0), 50, .inl f38)), (r 39, .inl ((cT 0), 50, .inl f39)), (r 40, .inl ((cT 0), 50, .inl f40)), (r 41, .inl ((cT 1), 50, .inr (.inl f41))), (r 42, .inl ((cT 1), 50, .inr (.inl f42)))]) [9, 0, 1, 2, 3, 4, 5, 6, 7, 8] (by decide) rfl
    exact W.lret (v := 0) hx hb hr (fun t ht hW => ⟨⟨_, 1, rfl, trivial, by rw [ht]; exact hP9, va_K.moved hW.alike hK, hD9⟩, hS.F ht⟩) hS.2.2 d_Md_record_102
  · skip
    subst h7r
    refine lv_if_lt (tgt := 94) hx hb d_Md_record_77 (by decide) (fun hn9 => absurd hn9 (nI_pos (by omega))) (fun hc167 => ?_)
    refine lv_iload_n hx hb d_Md_record_80 rfl (lv_at hl 4 rfl) ?_
    refine lv_if_lt (tgt := 94) hx hb d_Md_record_81 (by decide) (fun hc168 => ?_) (fun hc168 => ?_)
    · skip
      refine lv_iconst (v := 0) hx hb d_Md_record_94 (by decide) ?_
      have hPc := hP.sub (ws' := [(mo, .inr (12, mdG r cd tm (nI sn) (nI tx) (nI lz) (nI az) (nI na) (nI nt) (nI nr) mw ml mk dq))]) [0] rfl
      have hDc := hD.sub (ws' := [(mo, .inr (12, mdG r cd tm (nI sn) (nI tx) (nI lz) (nI az) (nI na) (nI nt) (nI nr) mw ml mk dq))]) [0] (by decide) rfl
      have hFc := va_free (wc := [(mo, .inr (12, mdG r cd tm (nI sn) (nI tx) (nI lz) (nI az) (nI na) (nI nt) (nI nr) mw ml mk dq))]) hD hS hA [0] rfl
      refine va_calli (va_runV (C := "DoorServerModel") (As := [.int 0]) (rest := []) ⟨hx, hb, hml, hown, hg⟩ (m_goes0 l dC dI cT H.size mo r cd tm sn tx lz az na nt nr mw ml mk dq ) (cwV 1 hg (gI (List.forall_mem_append.mpr ⟨List.forall_mem_cons.mpr ⟨k_1165, List.forall_mem_cons.mpr ⟨k_1167, List.forall_mem_cons.mpr ⟨(big_sel (q := y_Md_goes) (n := 45) (by decide +kernel)), List.forall_mem_cons.mpr ⟨k_13, fun _ h => absurd h List.not_mem_nil⟩⟩⟩⟩, List.forall_mem_cons.mpr ⟨k_1168, fun _ h => h⟩⟩)) rfl rfl rfl (by decide +kernel) ⟨Nat.le_of_ble_eq_true rfl, Nat.le_of_ble_eq_true rfl⟩) ⟨fun a U g mk q => by obtain ⟨q0, q1, qP, qK, qD⟩ := q; exact ⟨q0, q1, qP, va_K.moved (u := U) (U := U.calling g mk a) (Vm.Alike.refl U.vm) qK, qD⟩, va_recv (q0 := 0) (ci := 12) hK hP rfl rfl, fun U hU hW => ⟨rfl, by rw [hU], by rw [hU]; exact hPc, va_K.moved hW.alike hK, hDc.weaken (fun _ _ _ _ => trivial)⟩⟩ rfl rfl hl.1 rfl (lv_room (Nat.le_of_ble_eq_true rfl)) d_Md_record_95 ⟨Nat.le_of_ble_eq_true rfl, Nat.le_of_ble_eq_true rfl⟩) hS (fun q _ h => hFc q h) hFc (fun rv9 u t H1 locs ht hvm hw hB hz1 hk1 hS => ?_)
      try dsimp only at hw hB
      obtain ⟨hP1, hK1, hD1⟩ := hB
      rw [ht] at hP1
      obtain ⟨rfl, hw⟩ := hw
      obtain ⟨hP, hD⟩ := va_join (wr := [(r 34, .inl ((cT 0), 50, .inl f34)), (r 35, .inl ((cT 0), 50, .inl f35)), (r 36, .inl ((cT 0), 800, .inl f36)), (r 37, .inl ((cT 0), 50, .inl f37)), (r 38, .inl ((cT 0), 50, .inl f38)), (r 39, .inl ((cT 0), 50, .inl f39)), (r 40, .inl ((cT 0), 50, .inl f40)), (r 41, .inl ((cT 1), 50, .inr (.inl f41))), (r 42, .inl ((cT 1), 50, .inr (.inl f42)))]) (w1 := [(mo, .inr (12, mdG r 1 tm (nI sn) (nI tx) (nI lz) (nI az) (nI na) (nI nt) (nI nr) mw ml mk dq))]) hP hD [0] [1, 2, 3, 4, 5, 6, 7, 8, 9] rfl rfl (by decide) (by decide) hk1 hFc hP1 hD1
      have hw169 := hw
      clear hPc hDc hFc hz1 hk1 hP1 hK1 hD1
      generalize H1 = H at hP hS ⊢
      have hP : va_P (dC, dI) vcl [(r 34, .inl ((cT 0), 50, .inl f34)), (r 35, .inl ((cT 0), 50, .inl f35)), (r 36, .inl ((cT 0), 800, .inl f36)), (r 37, .inl ((cT 0), 50, .inl f37)), (r 38, .inl ((cT 0), 50, .inl f38)), (r 39, .inl ((cT 0), 50, .inl f39)), (r 40, .inl ((cT 0), 50, .inl f40)), (r 41, .inl ((cT 1), 50, .inr (.inl f41))), (r 42, .inl ((cT 1), 50, .inr (.inl f42))), (mo, .inr (12, mdG r 1 tm (nI sn) (nI tx) (nI lz) (nI az) (nI na) (nI nt) (nI nr) mw ml mk dq))] H := hP
      have hD : va_D A [(r 34, .inl ((cT 0), 50, .inl f34)), (r 35, .inl ((cT 0), 50, .inl f35)), (r 36, .inl ((cT 0), 800, .inl f36)), (r 37, .inl ((cT 0), 50, .inl f37)), (r 38, .inl ((cT 0), 50, .inl f38)), (r 39, .inl ((cT 0), 50, .inl f39)), (r 40, .inl ((cT 0), 50, .inl f40)), (r 41, .inl ((cT 1), 50, .inr (.inl f41))), (r 42, .inl ((cT 1), 50, .inr (.inl f42))), (mo, .inr (12, mdG r 1 tm (nI sn) (nI tx) (nI lz) (nI az) (nI na) (nI nt) (nI nr) mw ml mk dq))] := hD
      refine lv_if_ne (tgt := 103) hx hb d_Md_record_98 (by decide) (fun hn9 => absurd hn9 (by decide)) (fun hc170 => ?_)
      refine lv_lconst (v := 0) hx hb d_Md_record_101 (by decide) ?_
      have hP9 := hP.sub (ws' := [(mo, .inr (12, mdG r 1 tm (nI sn) (nI tx) (nI lz) (nI az) (nI na) (nI nt) (nI nr) mw ml mk dq)), (r 34, .inl ((cT 0), 50, .inl f34)), (r 35, .inl ((cT 0), 50, .inl f35)), (r 36, .inl ((cT 0), 800, .inl f36)), (r 37, .inl ((cT 0), 50, .inl f37)), (r 38, .inl ((cT 0), 50, .inl f38)), (r 39, .inl ((cT 0), 50, .inl f39)), (r 40, .inl ((cT 0), 50, .inl f40)), (r 41, .inl ((cT 1), 50, .inr (.inl f41))), (r 42, .inl ((cT 1), 50, .inr (.inl f42)))]) [9, 0, 1, 2, 3, 4, 5, 6, 7, 8] rfl
      have hD9 := hD.sub (ws' := [(mo, .inr (12, mdG r 1 tm (nI sn) (nI tx) (nI lz) (nI az) (nI na) (nI nt) (nI nr) mw ml mk dq)), (r 34, .inl ((cT 0), 50, .inl f34)), (r 35, .inl ((cT 0), 50, .inl f35)), (r 36, .inl ((cT 0), 800, .inl f36)), (r 37, .inl ((cT 0), 50, .inl f37)), (r 38, .inl ((cT 0), 50, .inl f38)), (r 39, .inl ((cT 0), 50, .inl f39)), (r 40, .inl ((cT 0), 50, .inl f40)), (r 41, .inl ((cT 1), 50, .inr (.inl f41))), (r 42, .inl ((cT 1), 50, .inr (.inl f42)))]) [9, 0, 1, 2, 3, 4, 5, 6, 7, 8] (by decide) rfl
      exact W.lret (v := 0) hx hb hr (fun t ht hW => ⟨⟨_, 1, rfl, trivial, by rw [ht]; exact hP9, va_K.moved hW.alike hK, hD9⟩, hS.F ht⟩) hS.2.2 d_Md_record_102
    · skip
      have hy0 := hc168
      refine lv_iload_n hx hb d_Md_record_84 rfl (lv_at hl 4 rfl) ?_
      refine lv_bipush (v := 8) hx hb d_Md_record_85 (by decide) ?_
      refine lv_icmp_gt (tgt := 94) hx hb d_Md_record_87 (by decide) (fun hc171 => ?_) (fun hc171 => ?_)
      · skip
        refine lv_iconst (v := 0) hx hb d_Md_record_94 (by decide) ?_
        have hPc := hP.sub (ws' := [(mo, .inr (12, mdG r cd tm (nI sn) (nI tx) (nI lz) (nI az) (nI na) (nI nt) (nI nr) mw ml mk dq))]) [0] rfl
        have hDc := hD.sub (ws' := [(mo, .inr (12, mdG r cd tm (nI sn) (nI tx) (nI lz) (nI az) (nI na) (nI nt) (nI nr) mw ml mk dq))]) [0] (by decide) rfl
        have hFc := va_free (wc := [(mo, .inr (12, mdG r cd tm (nI sn) (nI tx) (nI lz) (nI az) (nI na) (nI nt) (nI nr) mw ml mk dq))]) hD hS hA [0] rfl
        refine va_calli (va_runV (C := "DoorServerModel") (As := [.int 0]) (rest := []) ⟨hx, hb, hml, hown, hg⟩ (m_goes0 l dC dI cT H.size mo r cd tm sn tx lz az na nt nr mw ml mk dq ) (cwV 1 hg (gI (List.forall_mem_append.mpr ⟨List.forall_mem_cons.mpr ⟨k_1165, List.forall_mem_cons.mpr ⟨k_1167, List.forall_mem_cons.mpr ⟨(big_sel (q := y_Md_goes) (n := 45) (by decide +kernel)), List.forall_mem_cons.mpr ⟨k_13, fun _ h => absurd h List.not_mem_nil⟩⟩⟩⟩, List.forall_mem_cons.mpr ⟨k_1168, fun _ h => h⟩⟩)) rfl rfl rfl (by decide +kernel) ⟨Nat.le_of_ble_eq_true rfl, Nat.le_of_ble_eq_true rfl⟩) ⟨fun a U g mk q => by obtain ⟨q0, q1, qP, qK, qD⟩ := q; exact ⟨q0, q1, qP, va_K.moved (u := U) (U := U.calling g mk a) (Vm.Alike.refl U.vm) qK, qD⟩, va_recv (q0 := 0) (ci := 12) hK hP rfl rfl, fun U hU hW => ⟨rfl, by rw [hU], by rw [hU]; exact hPc, va_K.moved hW.alike hK, hDc.weaken (fun _ _ _ _ => trivial)⟩⟩ rfl rfl hl.1 rfl (lv_room (Nat.le_of_ble_eq_true rfl)) d_Md_record_95 ⟨Nat.le_of_ble_eq_true rfl, Nat.le_of_ble_eq_true rfl⟩) hS (fun q _ h => hFc q h) hFc (fun rv9 u t H1 locs ht hvm hw hB hz1 hk1 hS => ?_)
        try dsimp only at hw hB
        obtain ⟨hP1, hK1, hD1⟩ := hB
        rw [ht] at hP1
        obtain ⟨rfl, hw⟩ := hw
        obtain ⟨hP, hD⟩ := va_join (wr := [(r 34, .inl ((cT 0), 50, .inl f34)), (r 35, .inl ((cT 0), 50, .inl f35)), (r 36, .inl ((cT 0), 800, .inl f36)), (r 37, .inl ((cT 0), 50, .inl f37)), (r 38, .inl ((cT 0), 50, .inl f38)), (r 39, .inl ((cT 0), 50, .inl f39)), (r 40, .inl ((cT 0), 50, .inl f40)), (r 41, .inl ((cT 1), 50, .inr (.inl f41))), (r 42, .inl ((cT 1), 50, .inr (.inl f42)))]) (w1 := [(mo, .inr (12, mdG r 1 tm (nI sn) (nI tx) (nI lz) (nI az) (nI na) (nI nt) (nI nr) mw ml mk dq))]) hP hD [0] [1, 2, 3, 4, 5, 6, 7, 8, 9] rfl rfl (by decide) (by decide) hk1 hFc hP1 hD1
        have hw172 := hw
        clear hPc hDc hFc hz1 hk1 hP1 hK1 hD1
        generalize H1 = H at hP hS ⊢
        have hP : va_P (dC, dI) vcl [(r 34, .inl ((cT 0), 50, .inl f34)), (r 35, .inl ((cT 0), 50, .inl f35)), (r 36, .inl ((cT 0), 800, .inl f36)), (r 37, .inl ((cT 0), 50, .inl f37)), (r 38, .inl ((cT 0), 50, .inl f38)), (r 39, .inl ((cT 0), 50, .inl f39)), (r 40, .inl ((cT 0), 50, .inl f40)), (r 41, .inl ((cT 1), 50, .inr (.inl f41))), (r 42, .inl ((cT 1), 50, .inr (.inl f42))), (mo, .inr (12, mdG r 1 tm (nI sn) (nI tx) (nI lz) (nI az) (nI na) (nI nt) (nI nr) mw ml mk dq))] H := hP
        have hD : va_D A [(r 34, .inl ((cT 0), 50, .inl f34)), (r 35, .inl ((cT 0), 50, .inl f35)), (r 36, .inl ((cT 0), 800, .inl f36)), (r 37, .inl ((cT 0), 50, .inl f37)), (r 38, .inl ((cT 0), 50, .inl f38)), (r 39, .inl ((cT 0), 50, .inl f39)), (r 40, .inl ((cT 0), 50, .inl f40)), (r 41, .inl ((cT 1), 50, .inr (.inl f41))), (r 42, .inl ((cT 1), 50, .inr (.inl f42))), (mo, .inr (12, mdG r 1 tm (nI sn) (nI tx) (nI lz) (nI az) (nI na) (nI nt) (nI nr) mw ml mk dq))] := hD
        refine lv_if_ne (tgt := 103) hx hb d_Md_record_98 (by decide) (fun hn9 => absurd hn9 (by decide)) (fun hc173 => ?_)
        refine lv_lconst (v := 0) hx hb d_Md_record_101 (by decide) ?_
        have hP9 := hP.sub (ws' := [(mo, .inr (12, mdG r 1 tm (nI sn) (nI tx) (nI lz) (nI az) (nI na) (nI nt) (nI nr) mw ml mk dq)), (r 34, .inl ((cT 0), 50, .inl f34)), (r 35, .inl ((cT 0), 50, .inl f35)), (r 36, .inl ((cT 0), 800, .inl f36)), (r 37, .inl ((cT 0), 50, .inl f37)), (r 38, .inl ((cT 0), 50, .inl f38)), (r 39, .inl ((cT 0), 50, .inl f39)), (r 40, .inl ((cT 0), 50, .inl f40)), (r 41, .inl ((cT 1), 50, .inr (.inl f41))), (r 42, .inl ((cT 1), 50, .inr (.inl f42)))]) [9, 0, 1, 2, 3, 4, 5, 6, 7, 8] rfl
        have hD9 := hD.sub (ws' := [(mo, .inr (12, mdG r 1 tm (nI sn) (nI tx) (nI lz) (nI az) (nI na) (nI nt) (nI nr) mw ml mk dq)), (r 34, .inl ((cT 0), 50, .inl f34)), (r 35, .inl ((cT 0), 50, .inl f35)), (r 36, .inl ((cT 0), 800, .inl f36)), (r 37, .inl ((cT 0), 50, .inl f37)), (r 38, .inl ((cT 0), 50, .inl f38)), (r 39, .inl ((cT 0), 50, .inl f39)), (r 40, .inl ((cT 0), 50, .inl f40)), (r 41, .inl ((cT 1), 50, .inr (.inl f41))), (r 42, .inl ((cT 1), 50, .inr (.inl f42)))]) [9, 0, 1, 2, 3, 4, 5, 6, 7, 8] (by decide) rfl
        exact W.lret (v := 0) hx hb hr (fun t ht hW => ⟨⟨_, 1, rfl, trivial, by rw [ht]; exact hP9, va_K.moved hW.alike hK, hD9⟩, hS.F ht⟩) hS.2.2 d_Md_record_102
      · skip
        have hy8 := hc171
        refine lv_iconst (v := 1) hx hb d_Md_record_90 (by decide) ?_
        refine lv_goto (tgt := 95) hx hb d_Md_record_91 (by decide) ?_
        have hPc := hP.sub (ws' := [(mo, .inr (12, mdG r cd tm (nI sn) (nI tx) (nI lz) (nI az) (nI na) (nI nt) (nI nr) mw ml mk dq))]) [0] rfl
        have hDc := hD.sub (ws' := [(mo, .inr (12, mdG r cd tm (nI sn) (nI tx) (nI lz) (nI az) (nI na) (nI nt) (nI nr) mw ml mk dq))]) [0] (by decide) rfl
        have hFc := va_free (wc := [(mo, .inr (12, mdG r cd tm (nI sn) (nI tx) (nI lz) (nI az) (nI na) (nI nt) (nI nr) mw ml mk dq))]) hD hS hA [0] rfl
        refine va_calli (va_runV (C := "DoorServerModel") (As := [.int 1]) (rest := []) ⟨hx, hb, hml, hown, hg⟩ (m_goes1 l dC dI cT H.size mo r cd tm sn tx lz az na nt nr mw ml mk dq ) (cwV 1 hg (gI (List.forall_mem_append.mpr ⟨List.forall_mem_cons.mpr ⟨k_1165, List.forall_mem_cons.mpr ⟨k_1167, List.forall_mem_cons.mpr ⟨(big_sel (q := y_Md_goes) (n := 45) (by decide +kernel)), List.forall_mem_cons.mpr ⟨k_13, fun _ h => absurd h List.not_mem_nil⟩⟩⟩⟩, List.forall_mem_cons.mpr ⟨k_1168, fun _ h => h⟩⟩)) rfl rfl rfl (by decide +kernel) ⟨Nat.le_of_ble_eq_true rfl, Nat.le_of_ble_eq_true rfl⟩) ⟨fun a U g mk q => by obtain ⟨q0, q1, qP, qK, qD⟩ := q; exact ⟨q0, q1, qP, va_K.moved (u := U) (U := U.calling g mk a) (Vm.Alike.refl U.vm) qK, qD⟩, va_recv (q0 := 0) (ci := 12) hK hP rfl rfl, fun U hU hW => ⟨rfl, by rw [hU], by rw [hU]; exact hPc, va_K.moved hW.alike hK, hDc.weaken (fun _ _ _ _ => trivial)⟩⟩ rfl rfl hl.1 rfl (lv_room (Nat.le_of_ble_eq_true rfl)) d_Md_record_95 ⟨Nat.le_of_ble_eq_true rfl, Nat.le_of_ble_eq_true rfl⟩) hS (fun q _ h => hFc q h) hFc (fun rv9 u t H1 locs ht hvm hw hB hz1 hk1 hS => ?_)
        try dsimp only at hw hB
        obtain ⟨hP1, hK1, hD1⟩ := hB
        rw [ht] at hP1
        obtain ⟨rfl, hw⟩ := hw
        obtain ⟨hP, hD⟩ := va_join (wr := [(r 34, .inl ((cT 0), 50, .inl f34)), (r 35, .inl ((cT 0), 50, .inl f35)), (r 36, .inl ((cT 0), 800, .inl f36)), (r 37, .inl ((cT 0), 50, .inl f37)), (r 38, .inl ((cT 0), 50, .inl f38)), (r 39, .inl ((cT 0), 50, .inl f39)), (r 40, .inl ((cT 0), 50, .inl f40)), (r 41, .inl ((cT 1), 50, .inr (.inl f41))), (r 42, .inl ((cT 1), 50, .inr (.inl f42)))]) (w1 := [(mo, .inr (12, mdG r 0 tm (nI sn) (nI tx) (nI lz) (nI az) (nI na) (nI nt) (nI nr) mw ml mk dq))]) hP hD [0] [1, 2, 3, 4, 5, 6, 7, 8, 9] rfl rfl (by decide) (by decide) hk1 hFc hP1 hD1
        have hw174 := hw
        clear hPc hDc hFc hz1 hk1 hP1 hK1 hD1
        generalize H1 = H at hP hS ⊢
        have hP : va_P (dC, dI) vcl [(r 34, .inl ((cT 0), 50, .inl f34)), (r 35, .inl ((cT 0), 50, .inl f35)), (r 36, .inl ((cT 0), 800, .inl f36)), (r 37, .inl ((cT 0), 50, .inl f37)), (r 38, .inl ((cT 0), 50, .inl f38)), (r 39, .inl ((cT 0), 50, .inl f39)), (r 40, .inl ((cT 0), 50, .inl f40)), (r 41, .inl ((cT 1), 50, .inr (.inl f41))), (r 42, .inl ((cT 1), 50, .inr (.inl f42))), (mo, .inr (12, mdG r 0 tm (nI sn) (nI tx) (nI lz) (nI az) (nI na) (nI nt) (nI nr) mw ml mk dq))] H := hP
        have hD : va_D A [(r 34, .inl ((cT 0), 50, .inl f34)), (r 35, .inl ((cT 0), 50, .inl f35)), (r 36, .inl ((cT 0), 800, .inl f36)), (r 37, .inl ((cT 0), 50, .inl f37)), (r 38, .inl ((cT 0), 50, .inl f38)), (r 39, .inl ((cT 0), 50, .inl f39)), (r 40, .inl ((cT 0), 50, .inl f40)), (r 41, .inl ((cT 1), 50, .inr (.inl f41))), (r 42, .inl ((cT 1), 50, .inr (.inl f42))), (mo, .inr (12, mdG r 0 tm (nI sn) (nI tx) (nI lz) (nI az) (nI na) (nI nt) (nI nr) mw ml mk dq))] := hD
        refine lv_if_ne (tgt := 103) hx hb d_Md_record_98 (by decide) (fun hc175 => ?_) (fun hn9 => absurd hn9 (by decide))
        refine lv_iload_n hx hb d_Md_record_103 rfl (lv_at hl 4 rfl) ?_
        rcases rng_o9 hy0 hy8 with rfl | rfl | rfl | rfl | rfl | rfl | rfl | rfl | rfl
        · skip
          refine lv_tableIn (tgt := 152) (off := 48) hx hb d_Md_record_104 (by decide) (by decide) (by decide) (by decide) ?_
          refine lv_aload_n hx hb d_Md_record_152 rfl (lv_at hl 2 rfl) ?_
          refine va_get (D := (dC, dI)) (ci := 12) (v := (.ref (r 34))) (C := R_Md) (T := F_Md) (N := 45) hx hb hg in_Md hown hK hP 9 rfl rfl 34 (by decide) (hg _ k_1054) (fun _ h9 => h9) rfl d_Md_record_153 ?_
          refine lv_iload_n hx hb d_Md_record_156 rfl (lv_at hl 1 rfl) ?_
          refine va_iald hx hb hK hP 0 0 rfl rfl (i := (nI ra)) (vp_in_nI (N := 50) (by omega) (by decide)) d_Md_record_157 ?_
          refine lv_topi (fun x176 e_x176 => ?_)
          clear e_x176
          refine lv_i2l (v := x176.toInt64) hx hb d_Md_record_158 rfl ?_
          have hP9 := hP.sub (ws' := [(mo, .inr (12, mdG r 0 tm (nI sn) (nI tx) (nI lz) (nI az) (nI na) (nI nt) (nI nr) mw ml mk dq)), (r 34, .inl ((cT 0), 50, .inl f34)), (r 35, .inl ((cT 0), 50, .inl f35)), (r 36, .inl ((cT 0), 800, .inl f36)), (r 37, .inl ((cT 0), 50, .inl f37)), (r 38, .inl ((cT 0), 50, .inl f38)), (r 39, .inl ((cT 0), 50, .inl f39)), (r 40, .inl ((cT 0), 50, .inl f40)), (r 41, .inl ((cT 1), 50, .inr (.inl f41))), (r 42, .inl ((cT 1), 50, .inr (.inl f42)))]) [9, 0, 1, 2, 3, 4, 5, 6, 7, 8] rfl
          have hD9 := hD.sub (ws' := [(mo, .inr (12, mdG r 0 tm (nI sn) (nI tx) (nI lz) (nI az) (nI na) (nI nt) (nI nr) mw ml mk dq)), (r 34, .inl ((cT 0), 50, .inl f34)), (r 35, .inl ((cT 0), 50, .inl f35)), (r 36, .inl ((cT 0), 800, .inl f36)), (r 37, .inl ((cT 0), 50, .inl f37)), (r 38, .inl ((cT 0), 50, .inl f38)), (r 39, .inl ((cT 0), 50, .inl f39)), (r 40, .inl ((cT 0), 50, .inl f40)), (r 41, .inl ((cT 1), 50, .inr (.inl f41))), (r 42, .inl ((cT 1), 50, .inr (.inl f42)))]) [9, 0, 1, 2, 3, 4, 5, 6, 7, 8] (by decide) rfl
          exact W.lret (v := x176.toInt64) hx hb hr (fun t ht hW => ⟨⟨_, 0, rfl, trivial, by rw [ht]; exact hP9, va_K.moved hW.alike hK, hD9⟩, hS.F ht⟩) hS.2.2 d_Md_record_159
        · skip
          refine lv_tableIn (tgt := 160) (off := 56) hx hb d_Md_record_104 (by decide) (by decide) (by decide) (by decide) ?_
          refine lv_aload_n hx hb d_Md_record_160 rfl (lv_at hl 2 rfl) ?_
          refine va_get (D := (dC, dI)) (ci := 12) (v := (.ref (r 38))) (C := R_Md) (T := F_Md) (N := 45) hx hb hg in_Md hown hK hP 9 rfl rfl 38 (by decide) (hg _ k_1058) (fun _ h9 => h9) rfl d_Md_record_161 ?_
          refine lv_iload_n hx hb d_Md_record_164 rfl (lv_at hl 1 rfl) ?_
          refine va_iald hx hb hK hP 4 0 rfl rfl (i := (nI ra)) (vp_in_nI (N := 50) (by omega) (by decide)) d_Md_record_165 ?_
          refine lv_topi (fun x177 e_x177 => ?_)
          clear e_x177
          refine lv_i2l (v := x177.toInt64) hx hb d_Md_record_166 rfl ?_
          have hP9 := hP.sub (ws' := [(mo, .inr (12, mdG r 0 tm (nI sn) (nI tx) (nI lz) (nI az) (nI na) (nI nt) (nI nr) mw ml mk dq)), (r 34, .inl ((cT 0), 50, .inl f34)), (r 35, .inl ((cT 0), 50, .inl f35)), (r 36, .inl ((cT 0), 800, .inl f36)), (r 37, .inl ((cT 0), 50, .inl f37)), (r 38, .inl ((cT 0), 50, .inl f38)), (r 39, .inl ((cT 0), 50, .inl f39)), (r 40, .inl ((cT 0), 50, .inl f40)), (r 41, .inl ((cT 1), 50, .inr (.inl f41))), (r 42, .inl ((cT 1), 50, .inr (.inl f42)))]) [9, 0, 1, 2, 3, 4, 5, 6, 7, 8] rfl
          have hD9 := hD.sub (ws' := [(mo, .inr (12, mdG r 0 tm (nI sn) (nI tx) (nI lz) (nI az) (nI na) (nI nt) (nI nr) mw ml mk dq)), (r 34, .inl ((cT 0), 50, .inl f34)), (r 35, .inl ((cT 0), 50, .inl f35)), (r 36, .inl ((cT 0), 800, .inl f36)), (r 37, .inl ((cT 0), 50, .inl f37)), (r 38, .inl ((cT 0), 50, .inl f38)), (r 39, .inl ((cT 0), 50, .inl f39)), (r 40, .inl ((cT 0), 50, .inl f40)), (r 41, .inl ((cT 1), 50, .inr (.inl f41))), (r 42, .inl ((cT 1), 50, .inr (.inl f42)))]) [9, 0, 1, 2, 3, 4, 5, 6, 7, 8] (by decide) rfl
          exact W.lret (v := x177.toInt64) hx hb hr (fun t ht hW => ⟨⟨_, 0, rfl, trivial, by rw [ht]; exact hP9, va_K.moved hW.alike hK, hD9⟩, hS.F ht⟩) hS.2.2 d_Md_record_167
        · skip
          refine lv_tableIn (tgt := 168) (off := 64) hx hb d_Md_record_104 (by decide) (by decide) (by decide) (by decide) ?_
          refine lv_aload_n hx hb d_Md_record_168 rfl (lv_at hl 2 rfl) ?_
          refine va_get (D := (dC, dI)) (ci := 12) (v := (.ref (r 39))) (C := R_Md) (T := F_Md) (N := 45) hx hb hg in_Md hown hK hP 9 rfl rfl 39 (by decide) (hg _ k_1059) (fun _ h9 => h9) rfl d_Md_record_169 ?_
          refine lv_iload_n hx hb d_Md_record_172 rfl (lv_at hl 1 rfl) ?_
          refine va_iald hx hb hK hP 5 0 rfl rfl (i := (nI ra)) (vp_in_nI (N := 50) (by omega) (by decide)) d_Md_record_173 ?_
          refine lv_topi (fun x178 e_x178 => ?_)
          clear e_x178
          refine lv_i2l (v := x178.toInt64) hx hb d_Md_record_174 rfl ?_
          have hP9 := hP.sub (ws' := [(mo, .inr (12, mdG r 0 tm (nI sn) (nI tx) (nI lz) (nI az) (nI na) (nI nt) (nI nr) mw ml mk dq)), (r 34, .inl ((cT 0), 50, .inl f34)), (r 35, .inl ((cT 0), 50, .inl f35)), (r 36, .inl ((cT 0), 800, .inl f36)), (r 37, .inl ((cT 0), 50, .inl f37)), (r 38, .inl ((cT 0), 50, .inl f38)), (r 39, .inl ((cT 0), 50, .inl f39)), (r 40, .inl ((cT 0), 50, .inl f40)), (r 41, .inl ((cT 1), 50, .inr (.inl f41))), (r 42, .inl ((cT 1), 50, .inr (.inl f42)))]) [9, 0, 1, 2, 3, 4, 5, 6, 7, 8] rfl
          have hD9 := hD.sub (ws' := [(mo, .inr (12, mdG r 0 tm (nI sn) (nI tx) (nI lz) (nI az) (nI na) (nI nt) (nI nr) mw ml mk dq)), (r 34, .inl ((cT 0), 50, .inl f34)), (r 35, .inl ((cT 0), 50, .inl f35)), (r 36, .inl ((cT 0), 800, .inl f36)), (r 37, .inl ((cT 0), 50, .inl f37)), (r 38, .inl ((cT 0), 50, .inl f38)), (r 39, .inl ((cT 0), 50, .inl f39)), (r 40, .inl ((cT 0), 50, .inl f40)), (r 41, .inl ((cT 1), 50, .inr (.inl f41))), (r 42, .inl ((cT 1), 50, .inr (.inl f42)))]) [9, 0, 1, 2, 3, 4, 5, 6, 7, 8] (by decide) rfl
          exact W.lret (v := x178.toInt64) hx hb hr (fun t ht hW => ⟨⟨_, 0, rfl, trivial, by rw [ht]; exact hP9, va_K.moved hW.alike hK, hD9⟩, hS.F ht⟩) hS.2.2 d_Md_record_175
        · skip
          refine lv_tableIn (tgt := 176) (off := 72) hx hb d_Md_record_104 (by decide) (by decide) (by decide) (by decide) ?_
          refine lv_aload_n hx hb d_Md_record_176 rfl (lv_at hl 2 rfl) ?_
          refine va_get (D := (dC, dI)) (ci := 12) (v := (.ref (r 40))) (C := R_Md) (T := F_Md) (N := 45) hx hb hg in_Md hown hK hP 9 rfl rfl 40 (by decide) (hg _ k_1060) (fun _ h9 => h9) rfl d_Md_record_177 ?_
          refine lv_iload_n hx hb d_Md_record_180 rfl (lv_at hl 1 rfl) ?_
          refine va_iald hx hb hK hP 6 0 rfl rfl (i := (nI ra)) (vp_in_nI (N := 50) (by omega) (by decide)) d_Md_record_181 ?_
          refine lv_topi (fun x179 e_x179 => ?_)
          clear e_x179
          refine lv_i2l (v := x179.toInt64) hx hb d_Md_record_182 rfl ?_
          have hP9 := hP.sub (ws' := [(mo, .inr (12, mdG r 0 tm (nI sn) (nI tx) (nI lz) (nI az) (nI na) (nI nt) (nI nr) mw ml mk dq)), (r 34, .inl ((cT 0), 50, .inl f34)), (r 35, .inl ((cT 0), 50, .inl f35)), (r 36, .inl ((cT 0), 800, .inl f36)), (r 37, .inl ((cT 0), 50, .inl f37)), (r 38, .inl ((cT 0), 50, .inl f38)), (r 39, .inl ((cT 0), 50, .inl f39)), (r 40, .inl ((cT 0), 50, .inl f40)), (r 41, .inl ((cT 1), 50, .inr (.inl f41))), (r 42, .inl ((cT 1), 50, .inr (.inl f42)))]) [9, 0, 1, 2, 3, 4, 5, 6, 7, 8] rfl
          have hD9 := hD.sub (ws' := [(mo, .inr (12, mdG r 0 tm (nI sn) (nI tx) (nI lz) (nI az) (nI na) (nI nt) (nI nr) mw ml mk dq)), (r 34, .inl ((cT 0), 50, .inl f34)), (r 35, .inl ((cT 0), 50, .inl f35)), (r 36, .inl ((cT 0), 800, .inl f36)), (r 37, .inl ((cT 0), 50, .inl f37)), (r 38, .inl ((cT 0), 50, .inl f38)), (r 39, .inl ((cT 0), 50, .inl f39)), (r 40, .inl ((cT 0), 50, .inl f40)), (r 41, .inl ((cT 1), 50, .inr (.inl f41))), (r 42, .inl ((cT 1), 50, .inr (.inl f42)))]) [9, 0, 1, 2, 3, 4, 5, 6, 7, 8] (by decide) rfl
          exact W.lret (v := x179.toInt64) hx hb hr (fun t ht hW => ⟨⟨_, 0, rfl, trivial, by rw [ht]; exact hP9, va_K.moved hW.alike hK, hD9⟩, hS.F ht⟩) hS.2.2 d_Md_record_183
        · skip
          refine lv_tableIn (tgt := 184) (off := 80) hx hb d_Md_record_104 (by decide) (by decide) (by decide) (by decide) ?_
          refine lv_aload_n hx hb d_Md_record_184 rfl (lv_at hl 2 rfl) ?_
          refine va_get (D := (dC, dI)) (ci := 12) (v := (.ref (r 41))) (C := R_Md) (T := F_Md) (N := 45) hx hb hg in_Md hown hK hP 9 rfl rfl 41 (by decide) (hg _ k_1061) (fun _ h9 => h9) rfl d_Md_record_185 ?_
          refine lv_iload_n hx hb d_Md_record_188 rfl (lv_at hl 1 rfl) ?_
          refine va_lald hx hb hK hP 7 1 rfl rfl (i := (nI ra)) (vp_in_nI (N := 50) (by omega) (by decide)) d_Md_record_189 ?_
          refine lv_topl (fun x180 e_x180 => ?_)
          clear e_x180
          have hP9 := hP.sub (ws' := [(mo, .inr (12, mdG r 0 tm (nI sn) (nI tx) (nI lz) (nI az) (nI na) (nI nt) (nI nr) mw ml mk dq)), (r 34, .inl ((cT 0), 50, .inl f34)), (r 35, .inl ((cT 0), 50, .inl f35)), (r 36, .inl ((cT 0), 800, .inl f36)), (r 37, .inl ((cT 0), 50, .inl f37)), (r 38, .inl ((cT 0), 50, .inl f38)), (r 39, .inl ((cT 0), 50, .inl f39)), (r 40, .inl ((cT 0), 50, .inl f40)), (r 41, .inl ((cT 1), 50, .inr (.inl f41))), (r 42, .inl ((cT 1), 50, .inr (.inl f42)))]) [9, 0, 1, 2, 3, 4, 5, 6, 7, 8] rfl
          have hD9 := hD.sub (ws' := [(mo, .inr (12, mdG r 0 tm (nI sn) (nI tx) (nI lz) (nI az) (nI na) (nI nt) (nI nr) mw ml mk dq)), (r 34, .inl ((cT 0), 50, .inl f34)), (r 35, .inl ((cT 0), 50, .inl f35)), (r 36, .inl ((cT 0), 800, .inl f36)), (r 37, .inl ((cT 0), 50, .inl f37)), (r 38, .inl ((cT 0), 50, .inl f38)), (r 39, .inl ((cT 0), 50, .inl f39)), (r 40, .inl ((cT 0), 50, .inl f40)), (r 41, .inl ((cT 1), 50, .inr (.inl f41))), (r 42, .inl ((cT 1), 50, .inr (.inl f42)))]) [9, 0, 1, 2, 3, 4, 5, 6, 7, 8] (by decide) rfl
          exact W.lret (v := x180) hx hb hr (fun t ht hW => ⟨⟨_, 0, rfl, trivial, by rw [ht]; exact hP9, va_K.moved hW.alike hK, hD9⟩, hS.F ht⟩) hS.2.2 d_Md_record_190
        · skip
          refine lv_tableIn (tgt := 191) (off := 87) hx hb d_Md_record_104 (by decide) (by decide) (by decide) (by decide) ?_
          refine lv_aload_n hx hb d_Md_record_191 rfl (lv_at hl 2 rfl) ?_
          refine va_get (D := (dC, dI)) (ci := 12) (v := (.ref (r 42))) (C := R_Md) (T := F_Md) (N := 45) hx hb hg in_Md hown hK hP 9 rfl rfl 42 (by decide) (hg _ k_1062) (fun _ h9 => h9) rfl d_Md_record_192 ?_
          refine lv_iload_n hx hb d_Md_record_195 rfl (lv_at hl 1 rfl) ?_
          refine va_lald hx hb hK hP 8 1 rfl rfl (i := (nI ra)) (vp_in_nI (N := 50) (by omega) (by decide)) d_Md_record_196 ?_
          refine lv_topl (fun x181 e_x181 => ?_)
          clear e_x181
          have hP9 := hP.sub (ws' := [(mo, .inr (12, mdG r 0 tm (nI sn) (nI tx) (nI lz) (nI az) (nI na) (nI nt) (nI nr) mw ml mk dq)), (r 34, .inl ((cT 0), 50, .inl f34)), (r 35, .inl ((cT 0), 50, .inl f35)), (r 36, .inl ((cT 0), 800, .inl f36)), (r 37, .inl ((cT 0), 50, .inl f37)), (r 38, .inl ((cT 0), 50, .inl f38)), (r 39, .inl ((cT 0), 50, .inl f39)), (r 40, .inl ((cT 0), 50, .inl f40)), (r 41, .inl ((cT 1), 50, .inr (.inl f41))), (r 42, .inl ((cT 1), 50, .inr (.inl f42)))]) [9, 0, 1, 2, 3, 4, 5, 6, 7, 8] rfl
          have hD9 := hD.sub (ws' := [(mo, .inr (12, mdG r 0 tm (nI sn) (nI tx) (nI lz) (nI az) (nI na) (nI nt) (nI nr) mw ml mk dq)), (r 34, .inl ((cT 0), 50, .inl f34)), (r 35, .inl ((cT 0), 50, .inl f35)), (r 36, .inl ((cT 0), 800, .inl f36)), (r 37, .inl ((cT 0), 50, .inl f37)), (r 38, .inl ((cT 0), 50, .inl f38)), (r 39, .inl ((cT 0), 50, .inl f39)), (r 40, .inl ((cT 0), 50, .inl f40)), (r 41, .inl ((cT 1), 50, .inr (.inl f41))), (r 42, .inl ((cT 1), 50, .inr (.inl f42)))]) [9, 0, 1, 2, 3, 4, 5, 6, 7, 8] (by decide) rfl
          exact W.lret (v := x181) hx hb hr (fun t ht hW => ⟨⟨_, 0, rfl, trivial, by rw [ht]; exact hP9, va_K.moved hW.alike hK, hD9⟩, hS.F ht⟩) hS.2.2 d_Md_record_197
        · skip
          refine lv_tableIn (tgt := 198) (off := 94) hx hb d_Md_record_104 (by decide) (by decide) (by decide) (by decide) ?_
          refine lv_aload_n hx hb d_Md_record_198 rfl (lv_at hl 2 rfl) ?_
          refine va_get (D := (dC, dI)) (ci := 12) (v := (.ref (r 35))) (C := R_Md) (T := F_Md) (N := 45) hx hb hg in_Md hown hK hP 9 rfl rfl 35 (by decide) (hg _ k_1055) (fun _ h9 => h9) rfl d_Md_record_199 ?_
          refine lv_iload_n hx hb d_Md_record_202 rfl (lv_at hl 1 rfl) ?_
          refine va_iald hx hb hK hP 1 0 rfl rfl (i := (nI ra)) (vp_in_nI (N := 50) (by omega) (by decide)) d_Md_record_203 ?_
          refine lv_topi (fun x182 e_x182 => ?_)
          clear e_x182
          refine lv_i2l (v := x182.toInt64) hx hb d_Md_record_204 rfl ?_
          have hP9 := hP.sub (ws' := [(mo, .inr (12, mdG r 0 tm (nI sn) (nI tx) (nI lz) (nI az) (nI na) (nI nt) (nI nr) mw ml mk dq)), (r 34, .inl ((cT 0), 50, .inl f34)), (r 35, .inl ((cT 0), 50, .inl f35)), (r 36, .inl ((cT 0), 800, .inl f36)), (r 37, .inl ((cT 0), 50, .inl f37)), (r 38, .inl ((cT 0), 50, .inl f38)), (r 39, .inl ((cT 0), 50, .inl f39)), (r 40, .inl ((cT 0), 50, .inl f40)), (r 41, .inl ((cT 1), 50, .inr (.inl f41))), (r 42, .inl ((cT 1), 50, .inr (.inl f42)))]) [9, 0, 1, 2, 3, 4, 5, 6, 7, 8] rfl
          have hD9 := hD.sub (ws' := [(mo, .inr (12, mdG r 0 tm (nI sn) (nI tx) (nI lz) (nI az) (nI na) (nI nt) (nI nr) mw ml mk dq)), (r 34, .inl ((cT 0), 50, .inl f34)), (r 35, .inl ((cT 0), 50, .inl f35)), (r 36, .inl ((cT 0), 800, .inl f36)), (r 37, .inl ((cT 0), 50, .inl f37)), (r 38, .inl ((cT 0), 50, .inl f38)), (r 39, .inl ((cT 0), 50, .inl f39)), (r 40, .inl ((cT 0), 50, .inl f40)), (r 41, .inl ((cT 1), 50, .inr (.inl f41))), (r 42, .inl ((cT 1), 50, .inr (.inl f42)))]) [9, 0, 1, 2, 3, 4, 5, 6, 7, 8] (by decide) rfl
          exact W.lret (v := x182.toInt64) hx hb hr (fun t ht hW => ⟨⟨_, 0, rfl, trivial, by rw [ht]; exact hP9, va_K.moved hW.alike hK, hD9⟩, hS.F ht⟩) hS.2.2 d_Md_record_205
        · skip
          refine lv_tableIn (tgt := 206) (off := 102) hx hb d_Md_record_104 (by decide) (by decide) (by decide) (by decide) ?_
          refine lv_aload_n hx hb d_Md_record_206 rfl (lv_at hl 2 rfl) ?_
          refine va_get (D := (dC, dI)) (ci := 12) (v := (.ref (r 36))) (C := R_Md) (T := F_Md) (N := 45) hx hb hg in_Md hown hK hP 9 rfl rfl 36 (by decide) (hg _ k_1056) (fun _ h9 => h9) rfl d_Md_record_207 ?_
          refine lv_bipush (v := 16) hx hb d_Md_record_210 (by decide) ?_
          refine lv_iload_n hx hb d_Md_record_212 rfl (lv_at hl 1 rfl) ?_
          refine lv_imul hx hb d_Md_record_213 ?_
          refine lv_topi (fun x184 e183 => ?_)
          obtain rfl : x184 = nI (16 * ra) := by rw [e183]; exact pk_mul 16 ra
          refine va_iald hx hb hK hP 2 0 rfl rfl (i := (nI (16 * ra))) (vp_in_nI (N := 800) (by omega) (by decide)) d_Md_record_214 ?_
          refine lv_topi (fun x185 e_x185 => ?_)
          clear e_x185
          refine lv_i2l (v := x185.toInt64) hx hb d_Md_record_215 rfl ?_
          have hP9 := hP.sub (ws' := [(mo, .inr (12, mdG r 0 tm (nI sn) (nI tx) (nI lz) (nI az) (nI na) (nI nt) (nI nr) mw ml mk dq)), (r 34, .inl ((cT 0), 50, .inl f34)), (r 35, .inl ((cT 0), 50, .inl f35)), (r 36, .inl ((cT 0), 800, .inl f36)), (r 37, .inl ((cT 0), 50, .inl f37)), (r 38, .inl ((cT 0), 50, .inl f38)), (r 39, .inl ((cT 0), 50, .inl f39)), (r 40, .inl ((cT 0), 50, .inl f40)), (r 41, .inl ((cT 1), 50, .inr (.inl f41))), (r 42, .inl ((cT 1), 50, .inr (.inl f42)))]) [9, 0, 1, 2, 3, 4, 5, 6, 7, 8] rfl
          have hD9 := hD.sub (ws' := [(mo, .inr (12, mdG r 0 tm (nI sn) (nI tx) (nI lz) (nI az) (nI na) (nI nt) (nI nr) mw ml mk dq)), (r 34, .inl ((cT 0), 50, .inl f34)), (r 35, .inl ((cT 0), 50, .inl f35)), (r 36, .inl ((cT 0), 800, .inl f36)), (r 37, .inl ((cT 0), 50, .inl f37)), (r 38, .inl ((cT 0), 50, .inl f38)), (r 39, .inl ((cT 0), 50, .inl f39)), (r 40, .inl ((cT 0), 50, .inl f40)), (r 41, .inl ((cT 1), 50, .inr (.inl f41))), (r 42, .inl ((cT 1), 50, .inr (.inl f42)))]) [9, 0, 1, 2, 3, 4, 5, 6, 7, 8] (by decide) rfl
          exact W.lret (v := x185.toInt64) hx hb hr (fun t ht hW => ⟨⟨_, 0, rfl, trivial, by rw [ht]; exact hP9, va_K.moved hW.alike hK, hD9⟩, hS.F ht⟩) hS.2.2 d_Md_record_216
        · skip
          refine lv_tableOut (tgt := 217) hx hb d_Md_record_104 (by decide) (by decide) ?_
          refine lv_aload_n hx hb d_Md_record_217 rfl (lv_at hl 2 rfl) ?_
          refine va_get (D := (dC, dI)) (ci := 12) (v := (.ref (r 37))) (C := R_Md) (T := F_Md) (N := 45) hx hb hg in_Md hown hK hP 9 rfl rfl 37 (by decide) (hg _ k_1057) (fun _ h9 => h9) rfl d_Md_record_218 ?_
          refine lv_iload_n hx hb d_Md_record_221 rfl (lv_at hl 1 rfl) ?_
          refine va_iald hx hb hK hP 3 0 rfl rfl (i := (nI ra)) (vp_in_nI (N := 50) (by omega) (by decide)) d_Md_record_222 ?_
          refine lv_topi (fun x186 e_x186 => ?_)
          clear e_x186
          refine lv_i2l (v := x186.toInt64) hx hb d_Md_record_223 rfl ?_
          have hP9 := hP.sub (ws' := [(mo, .inr (12, mdG r 0 tm (nI sn) (nI tx) (nI lz) (nI az) (nI na) (nI nt) (nI nr) mw ml mk dq)), (r 34, .inl ((cT 0), 50, .inl f34)), (r 35, .inl ((cT 0), 50, .inl f35)), (r 36, .inl ((cT 0), 800, .inl f36)), (r 37, .inl ((cT 0), 50, .inl f37)), (r 38, .inl ((cT 0), 50, .inl f38)), (r 39, .inl ((cT 0), 50, .inl f39)), (r 40, .inl ((cT 0), 50, .inl f40)), (r 41, .inl ((cT 1), 50, .inr (.inl f41))), (r 42, .inl ((cT 1), 50, .inr (.inl f42)))]) [9, 0, 1, 2, 3, 4, 5, 6, 7, 8] rfl
          have hD9 := hD.sub (ws' := [(mo, .inr (12, mdG r 0 tm (nI sn) (nI tx) (nI lz) (nI az) (nI na) (nI nt) (nI nr) mw ml mk dq)), (r 34, .inl ((cT 0), 50, .inl f34)), (r 35, .inl ((cT 0), 50, .inl f35)), (r 36, .inl ((cT 0), 800, .inl f36)), (r 37, .inl ((cT 0), 50, .inl f37)), (r 38, .inl ((cT 0), 50, .inl f38)), (r 39, .inl ((cT 0), 50, .inl f39)), (r 40, .inl ((cT 0), 50, .inl f40)), (r 41, .inl ((cT 1), 50, .inr (.inl f41))), (r 42, .inl ((cT 1), 50, .inr (.inl f42)))]) [9, 0, 1, 2, 3, 4, 5, 6, 7, 8] (by decide) rfl
          exact W.lret (v := x186.toInt64) hx hb hr (fun t ht hW => ⟨⟨_, 0, rfl, trivial, by rw [ht]; exact hP9, va_K.moved hW.alike hK, hD9⟩, hS.F ht⟩) hS.2.2 d_Md_record_224
