theorem d_Md_password_0 : decode b_Md_password 0 = .ok (.aload_n 0, 1) := by decide +kernel
theorem d_Md_password_1 : decode b_Md_password 1 = .ok (.iload_n 1, 1) := by decide +kernel
theorem d_Md_password_2 : decode b_Md_password 2 = .ok (.ifCond .lt 25, 3) := by decide +kernel
theorem d_Md_password_27 : decode b_Md_password 27 = .ok (.iconst 0, 1) := by decide +kernel
theorem d_Md_password_28 : decode b_Md_password 28 = .ok (.invokevirtual 289, 3) := by decide +kernel
theorem d_Md_password_31 : decode b_Md_password 31 = .ok (.ifCond .ne 5, 3) := by decide +kernel
theorem d_Md_password_34 : decode b_Md_password 34 = .ok (.iconst 0, 1) := by decide +kernel
theorem d_Md_password_35 : decode b_Md_password 35 = .ok (.ireturn, 1) := by decide +kernel
theorem d_Md_password_5 : decode b_Md_password 5 = .ok (.iload_n 1, 1) := by decide +kernel
theorem d_Md_password_6 : decode b_Md_password 6 = .ok (.iconst 4, 1) := by decide +kernel
theorem d_Md_password_7 : decode b_Md_password 7 = .ok (.if_icmp .ge 20, 3) := by decide +kernel
theorem d_Md_password_10 : decode b_Md_password 10 = .ok (.iload 4, 2) := by decide +kernel
theorem d_Md_password_12 : decode b_Md_password 12 = .ok (.iconst 1, 1) := by decide +kernel
theorem d_Md_password_13 : decode b_Md_password 13 = .ok (.if_icmp .lt 14, 3) := by decide +kernel
theorem d_Md_password_16 : decode b_Md_password 16 = .ok (.iload 4, 2) := by decide +kernel
theorem d_Md_password_18 : decode b_Md_password 18 = .ok (.bipush 60, 2) := by decide +kernel
theorem d_Md_password_20 : decode b_Md_password 20 = .ok (.if_icmp .gt 7, 3) := by decide +kernel
theorem d_Md_password_23 : decode b_Md_password 23 = .ok (.iconst 1, 1) := by decide +kernel
theorem d_Md_password_24 : decode b_Md_password 24 = .ok (.goto 4, 3) := by decide +kernel
theorem d_Md_password_36 : decode b_Md_password 36 = .ok (.iload 4, 2) := by decide +kernel
theorem d_Md_password_38 : decode b_Md_password 38 = .ok (.bipush 15, 2) := by decide +kernel
theorem d_Md_password_40 : decode b_Md_password 40 = .ok (.iadd, 1) := by decide +kernel
theorem d_Md_password_41 : decode b_Md_password 41 = .ok (.bipush 16, 2) := by decide +kernel
theorem d_Md_password_43 : decode b_Md_password 43 = .ok (.idiv, 1) := by decide +kernel
theorem d_Md_password_44 : decode b_Md_password 44 = .ok (.istore 5, 2) := by decide +kernel
theorem d_Md_password_46 : decode b_Md_password 46 = .ok (.aload_n 0, 1) := by decide +kernel
theorem d_Md_password_47 : decode b_Md_password 47 = .ok (.iconst 2, 1) := by decide +kernel
theorem d_Md_password_48 : decode b_Md_password 48 = .ok (.bipush 16, 2) := by decide +kernel
theorem d_Md_password_50 : decode b_Md_password 50 = .ok (.iload 5, 2) := by decide +kernel
theorem d_Md_password_52 : decode b_Md_password 52 = .ok (.imul, 1) := by decide +kernel
theorem d_Md_password_53 : decode b_Md_password 53 = .ok (.invokevirtual 310, 3) := by decide +kernel
theorem d_Md_password_56 : decode b_Md_password 56 = .ok (.ifCond .ne 5, 3) := by decide +kernel
theorem d_Md_password_61 : decode b_Md_password 61 = .ok (.iconst 0, 1) := by decide +kernel
theorem d_Md_password_62 : decode b_Md_password 62 = .ok (.istore 6, 2) := by decide +kernel
theorem d_Md_password_64 : decode b_Md_password 64 = .ok (.iload 6, 2) := by decide +kernel
theorem d_Md_password_66 : decode b_Md_password 66 = .ok (.iload 5, 2) := by decide +kernel
theorem d_Md_password_68 : decode b_Md_password 68 = .ok (.if_icmp .ge 88, 3) := by decide +kernel
theorem d_Md_password_71 : decode b_Md_password 71 = .ok (.aload_n 0, 1) := by decide +kernel
theorem d_Md_password_72 : decode b_Md_password 72 = .ok (.iload_n 1, 1) := by decide +kernel
theorem d_Md_password_73 : decode b_Md_password 73 = .ok (.iload 6, 2) := by decide +kernel
theorem d_Md_password_75 : decode b_Md_password 75 = .ok (.ifCond .ne 7, 3) := by decide +kernel
theorem d_Md_password_82 : decode b_Md_password 82 = .ok (.aload_n 0, 1) := by decide +kernel
theorem d_Md_password_83 : decode b_Md_password 83 = .ok (.getfield 297, 3) := by decide +kernel
theorem d_Md_password_86 : decode b_Md_password 86 = .ok (.bipush 16, 2) := by decide +kernel
theorem d_Md_password_88 : decode b_Md_password 88 = .ok (.isub, 1) := by decide +kernel
theorem d_Md_password_89 : decode b_Md_password 89 = .ok (.invokevirtual 321, 3) := by decide +kernel
theorem d_Md_password_92 : decode b_Md_password 92 = .ok (.bipush 16, 2) := by decide +kernel
theorem d_Md_password_94 : decode b_Md_password 94 = .ok (.iload 6, 2) := by decide +kernel
theorem d_Md_password_96 : decode b_Md_password 96 = .ok (.imul, 1) := by decide +kernel
theorem d_Md_password_97 : decode b_Md_password 97 = .ok (.istore 7, 2) := by decide +kernel
theorem d_Md_password_99 : decode b_Md_password 99 = .ok (.iload 7, 2) := by decide +kernel
theorem d_Md_password_101 : decode b_Md_password 101 = .ok (.bipush 16, 2) := by decide +kernel
theorem d_Md_password_103 : decode b_Md_password 103 = .ok (.iload 6, 2) := by decide +kernel
theorem d_Md_password_105 : decode b_Md_password 105 = .ok (.imul, 1) := by decide +kernel
theorem d_Md_password_106 : decode b_Md_password 106 = .ok (.bipush 16, 2) := by decide +kernel
theorem d_Md_password_108 : decode b_Md_password 108 = .ok (.iadd, 1) := by decide +kernel
theorem d_Md_password_109 : decode b_Md_password 109 = .ok (.if_icmp .ge 41, 3) := by decide +kernel
theorem d_Md_password_112 : decode b_Md_password 112 = .ok (.aload_n 0, 1) := by decide +kernel
theorem d_Md_password_113 : decode b_Md_password 113 = .ok (.iload 7, 2) := by decide +kernel
theorem d_Md_password_115 : decode b_Md_password 115 = .ok (.iload 4, 2) := by decide +kernel
theorem d_Md_password_117 : decode b_Md_password 117 = .ok (.if_icmp .ge 12, 3) := by decide +kernel
theorem d_Md_password_129 : decode b_Md_password 129 = .ok (.iconst 0, 1) := by decide +kernel
theorem d_Md_password_130 : decode b_Md_password 130 = .ok (.aload_n 0, 1) := by decide +kernel
theorem d_Md_password_131 : decode b_Md_password 131 = .ok (.getfield 160, 3) := by decide +kernel
theorem d_Md_password_134 : decode b_Md_password 134 = .ok (.iload 7, 2) := by decide +kernel
theorem d_Md_password_136 : decode b_Md_password 136 = .ok (.bipush 16, 2) := by decide +kernel
theorem d_Md_password_138 : decode b_Md_password 138 = .ok (.irem, 1) := by decide +kernel
theorem d_Md_password_139 : decode b_Md_password 139 = .ok (.iaload, 1) := by decide +kernel
theorem d_Md_password_140 : decode b_Md_password 140 = .ok (.ixor, 1) := by decide +kernel
theorem d_Md_password_141 : decode b_Md_password 141 = .ok (.invokevirtual 300, 3) := by decide +kernel
theorem d_Md_password_144 : decode b_Md_password 144 = .ok (.iinc 7 1, 3) := by decide +kernel
theorem d_Md_password_147 : decode b_Md_password 147 = .ok (.goto (-48), 3) := by decide +kernel
theorem d_Md_password_120 : decode b_Md_password 120 = .ok (.lload_n 2, 1) := by decide +kernel
theorem d_Md_password_121 : decode b_Md_password 121 = .ok (.iload 7, 2) := by decide +kernel
theorem d_Md_password_123 : decode b_Md_password 123 = .ok (.invokestatic 293, 3) := by decide +kernel
theorem d_Md_password_126 : decode b_Md_password 126 = .ok (.goto 4, 3) := by decide +kernel
theorem d_Md_password_150 : decode b_Md_password 150 = .ok (.iinc 6 1, 3) := by decide +kernel
theorem d_Md_password_153 : decode b_Md_password 153 = .ok (.goto (-89), 3) := by decide +kernel
theorem d_Md_password_78 : decode b_Md_password 78 = .ok (.iconst 4, 1) := by decide +kernel
theorem d_Md_password_79 : decode b_Md_password 79 = .ok (.goto 10, 3) := by decide +kernel
theorem d_Md_password_156 : decode b_Md_password 156 = .ok (.aload_n 0, 1) := by decide +kernel
theorem d_Md_password_157 : decode b_Md_password 157 = .ok (.invokevirtual 314, 3) := by decide +kernel
theorem d_Md_password_160 : decode b_Md_password 160 = .ok (.ireturn, 1) := by decide +kernel
theorem d_Md_password_59 : decode b_Md_password 59 = .ok (.iconst 0, 1) := by decide +kernel
theorem d_Md_password_60 : decode b_Md_password 60 = .ok (.ireturn, 1) := by decide +kernel
theorem d_Md_reply_0 : decode b_Md_reply 0 = .ok (.aload_n 0, 1) := by decide +kernel
theorem d_Md_reply_1 : decode b_Md_reply 1 = .ok (.iload_n 3, 1) := by decide +kernel
theorem d_Md_reply_2 : decode b_Md_reply 2 = .ok (.iconst 1, 1) := by decide +kernel
theorem d_Md_reply_3 : decode b_Md_reply 3 = .ok (.if_icmp .lt 13, 3) := by decide +kernel
theorem d_Md_reply_16 : decode b_Md_reply 16 = .ok (.iconst 0, 1) := by decide +kernel
theorem d_Md_reply_17 : decode b_Md_reply 17 = .ok (.invokevirtual 289, 3) := by decide +kernel
theorem d_Md_reply_20 : decode b_Md_reply 20 = .ok (.ifCond .eq 21, 3) := by decide +kernel
theorem d_Md_reply_41 : decode b_Md_reply 41 = .ok (.aload_n 0, 1) := by decide +kernel
theorem d_Md_reply_42 : decode b_Md_reply 42 = .ok (.getfield 243, 3) := by decide +kernel
theorem d_Md_reply_45 : decode b_Md_reply 45 = .ok (.ifCond .le 7, 3) := by decide +kernel
theorem d_Md_reply_48 : decode b_Md_reply 48 = .ok (.iconst 0, 1) := by decide +kernel
theorem d_Md_reply_49 : decode b_Md_reply 49 = .ok (.goto 4, 3) := by decide +kernel
theorem d_Md_reply_53 : decode b_Md_reply 53 = .ok (.ireturn, 1) := by decide +kernel
theorem d_Md_reply_6 : decode b_Md_reply 6 = .ok (.iload_n 3, 1) := by decide +kernel
theorem d_Md_reply_7 : decode b_Md_reply 7 = .ok (.bipush 60, 2) := by decide +kernel
theorem d_Md_reply_9 : decode b_Md_reply 9 = .ok (.if_icmp .gt 7, 3) := by decide +kernel
theorem d_Md_reply_12 : decode b_Md_reply 12 = .ok (.iconst 1, 1) := by decide +kernel
theorem d_Md_reply_13 : decode b_Md_reply 13 = .ok (.goto 4, 3) := by decide +kernel
theorem d_Md_reply_23 : decode b_Md_reply 23 = .ok (.aload_n 0, 1) := by decide +kernel
theorem d_Md_reply_24 : decode b_Md_reply 24 = .ok (.getfield 325, 3) := by decide +kernel
theorem d_Md_reply_27 : decode b_Md_reply 27 = .ok (.ifCond .eq 14, 3) := by decide +kernel
theorem d_Md_reply_52 : decode b_Md_reply 52 = .ok (.iconst (-1), 1) := by decide +kernel
theorem d_Md_reply_30 : decode b_Md_reply 30 = .ok (.aload_n 0, 1) := by decide +kernel
theorem d_Md_reply_31 : decode b_Md_reply 31 = .ok (.getfield 166, 3) := by decide +kernel
theorem d_Md_reply_34 : decode b_Md_reply 34 = .ok (.iconst 0, 1) := by decide +kernel
theorem d_Md_reply_35 : decode b_Md_reply 35 = .ok (.iaload, 1) := by decide +kernel
theorem d_Md_reply_36 : decode b_Md_reply 36 = .ok (.bipush 11, 2) := by decide +kernel
theorem d_Md_reply_38 : decode b_Md_reply 38 = .ok (.if_icmp .eq 16, 3) := by decide +kernel
theorem d_Md_reply_54 : decode b_Md_reply 54 = .ok (.aload_n 0, 1) := by decide +kernel
theorem d_Md_reply_55 : decode b_Md_reply 55 = .ok (.aload_n 0, 1) := by decide +kernel
theorem d_Md_reply_56 : decode b_Md_reply 56 = .ok (.getfield 297, 3) := by decide +kernel
theorem d_Md_reply_59 : decode b_Md_reply 59 = .ok (.bipush 34, 2) := by decide +kernel
theorem d_Md_reply_61 : decode b_Md_reply 61 = .ok (.iadd, 1) := by decide +kernel
theorem d_Md_reply_62 : decode b_Md_reply 62 = .ok (.sipush 1000, 3) := by decide +kernel
theorem d_Md_reply_65 : decode b_Md_reply 65 = .ok (.if_icmp .le 7, 3) := by decide +kernel
theorem d_Md_reply_72 : decode b_Md_reply 72 = .ok (.iconst 0, 1) := by decide +kernel
theorem d_Md_reply_73 : decode b_Md_reply 73 = .ok (.putfield 243, 3) := by decide +kernel
theorem d_Md_reply_76 : decode b_Md_reply 76 = .ok (.aload_n 0, 1) := by decide +kernel
theorem d_Md_reply_77 : decode b_Md_reply 77 = .ok (.getfield 243, 3) := by decide +kernel
theorem d_Md_reply_80 : decode b_Md_reply 80 = .ok (.ifCond .le 5, 3) := by decide +kernel
theorem d_Md_reply_85 : decode b_Md_reply 85 = .ok (.aload_n 0, 1) := by decide +kernel
theorem d_Md_reply_86 : decode b_Md_reply 86 = .ok (.bipush 24, 2) := by decide +kernel
theorem d_Md_reply_88 : decode b_Md_reply 88 = .ok (.bipush 8, 2) := by decide +kernel
theorem d_Md_reply_90 : decode b_Md_reply 90 = .ok (.invokevirtual 310, 3) := by decide +kernel
theorem d_Md_reply_93 : decode b_Md_reply 93 = .ok (.istore 4, 2) := by decide +kernel
theorem d_Md_reply_95 : decode b_Md_reply 95 = .ok (.iconst 0, 1) := by decide +kernel
theorem d_Md_reply_96 : decode b_Md_reply 96 = .ok (.istore 5, 2) := by decide +kernel
theorem d_Md_reply_98 : decode b_Md_reply 98 = .ok (.iload 5, 2) := by decide +kernel
theorem d_Md_reply_100 : decode b_Md_reply 100 = .ok (.bipush 8, 2) := by decide +kernel
theorem d_Md_reply_102 : decode b_Md_reply 102 = .ok (.if_icmp .ge 23, 3) := by decide +kernel
theorem d_Md_reply_105 : decode b_Md_reply 105 = .ok (.aload_n 0, 1) := by decide +kernel
theorem d_Md_reply_106 : decode b_Md_reply 106 = .ok (.aload_n 0, 1) := by decide +kernel
theorem d_Md_reply_107 : decode b_Md_reply 107 = .ok (.getfield 166, 3) := by decide +kernel
theorem d_Md_reply_110 : decode b_Md_reply 110 = .ok (.bipush 22, 2) := by decide +kernel
theorem d_Md_reply_112 : decode b_Md_reply 112 = .ok (.iload 5, 2) := by decide +kernel
theorem d_Md_reply_114 : decode b_Md_reply 114 = .ok (.iadd, 1) := by decide +kernel
theorem d_Md_reply_115 : decode b_Md_reply 115 = .ok (.iaload, 1) := by decide +kernel
theorem d_Md_reply_116 : decode b_Md_reply 116 = .ok (.invokevirtual 300, 3) := by decide +kernel
theorem d_Md_reply_119 : decode b_Md_reply 119 = .ok (.iinc 5 1, 3) := by decide +kernel
theorem d_Md_reply_122 : decode b_Md_reply 122 = .ok (.goto (-24), 3) := by decide +kernel
theorem d_Md_reply_125 : decode b_Md_reply 125 = .ok (.aload_n 0, 1) := by decide +kernel
theorem d_Md_reply_126 : decode b_Md_reply 126 = .ok (.aload_n 0, 1) := by decide +kernel
theorem d_Md_reply_127 : decode b_Md_reply 127 = .ok (.getfield 166, 3) := by decide +kernel
theorem d_Md_reply_130 : decode b_Md_reply 130 = .ok (.bipush 33, 2) := by decide +kernel
theorem d_Md_reply_132 : decode b_Md_reply 132 = .ok (.iaload, 1) := by decide +kernel
theorem d_Md_reply_133 : decode b_Md_reply 133 = .ok (.invokevirtual 250, 3) := by decide +kernel
theorem d_Md_reply_136 : decode b_Md_reply 136 = .ok (.iconst 0, 1) := by decide +kernel
theorem d_Md_reply_137 : decode b_Md_reply 137 = .ok (.istore 5, 2) := by decide +kernel
theorem d_Md_reply_139 : decode b_Md_reply 139 = .ok (.iload 5, 2) := by decide +kernel
theorem d_Md_reply_141 : decode b_Md_reply 141 = .ok (.iload_n 3, 1) := by decide +kernel
theorem d_Md_reply_142 : decode b_Md_reply 142 = .ok (.if_icmp .ge 19, 3) := by decide +kernel
theorem d_Md_reply_145 : decode b_Md_reply 145 = .ok (.aload_n 0, 1) := by decide +kernel
theorem d_Md_reply_146 : decode b_Md_reply 146 = .ok (.lload_n 1, 1) := by decide +kernel
theorem d_Md_reply_147 : decode b_Md_reply 147 = .ok (.iload 5, 2) := by decide +kernel
theorem d_Md_reply_149 : decode b_Md_reply 149 = .ok (.invokestatic 293, 3) := by decide +kernel
theorem d_Md_reply_152 : decode b_Md_reply 152 = .ok (.invokevirtual 250, 3) := by decide +kernel
theorem d_Md_reply_155 : decode b_Md_reply 155 = .ok (.iinc 5 1, 3) := by decide +kernel
theorem d_Md_reply_158 : decode b_Md_reply 158 = .ok (.goto (-19), 3) := by decide +kernel
theorem d_Md_reply_161 : decode b_Md_reply 161 = .ok (.iconst 0, 1) := by decide +kernel
theorem d_Md_reply_162 : decode b_Md_reply 162 = .ok (.istore 5, 2) := by decide +kernel
theorem d_Md_reply_164 : decode b_Md_reply 164 = .ok (.iload 5, 2) := by decide +kernel
theorem d_Md_reply_166 : decode b_Md_reply 166 = .ok (.bipush 16, 2) := by decide +kernel
theorem d_Md_reply_168 : decode b_Md_reply 168 = .ok (.if_icmp .ge 23, 3) := by decide +kernel
theorem d_Md_reply_171 : decode b_Md_reply 171 = .ok (.aload_n 0, 1) := by decide +kernel
theorem d_Md_reply_172 : decode b_Md_reply 172 = .ok (.aload_n 0, 1) := by decide +kernel
theorem d_Md_reply_173 : decode b_Md_reply 173 = .ok (.getfield 166, 3) := by decide +kernel
theorem d_Md_reply_176 : decode b_Md_reply 176 = .ok (.bipush 38, 2) := by decide +kernel
theorem d_Md_reply_178 : decode b_Md_reply 178 = .ok (.iload 5, 2) := by decide +kernel
theorem d_Md_reply_180 : decode b_Md_reply 180 = .ok (.iadd, 1) := by decide +kernel
theorem d_Md_reply_181 : decode b_Md_reply 181 = .ok (.iaload, 1) := by decide +kernel
theorem d_Md_reply_182 : decode b_Md_reply 182 = .ok (.invokevirtual 250, 3) := by decide +kernel
theorem d_Md_reply_185 : decode b_Md_reply 185 = .ok (.iinc 5 1, 3) := by decide +kernel
theorem d_Md_reply_188 : decode b_Md_reply 188 = .ok (.goto (-24), 3) := by decide +kernel
theorem d_Md_reply_191 : decode b_Md_reply 191 = .ok (.aload_n 0, 1) := by decide +kernel
theorem d_Md_reply_192 : decode b_Md_reply 192 = .ok (.invokevirtual 284, 3) := by decide +kernel
theorem d_Md_reply_195 : decode b_Md_reply 195 = .ok (.aload_n 0, 1) := by decide +kernel
theorem d_Md_reply_196 : decode b_Md_reply 196 = .ok (.bipush 79, 2) := by decide +kernel
theorem d_Md_reply_198 : decode b_Md_reply 198 = .ok (.bipush 22, 2) := by decide +kernel
theorem d_Md_reply_200 : decode b_Md_reply 200 = .ok (.invokevirtual 310, 3) := by decide +kernel
theorem d_Md_reply_203 : decode b_Md_reply 203 = .ok (.istore 4, 2) := by decide +kernel
theorem d_Md_reply_205 : decode b_Md_reply 205 = .ok (.aload_n 0, 1) := by decide +kernel
theorem d_Md_reply_206 : decode b_Md_reply 206 = .ok (.iconst 2, 1) := by decide +kernel
theorem d_Md_reply_207 : decode b_Md_reply 207 = .ok (.invokevirtual 300, 3) := by decide +kernel
theorem d_Md_reply_210 : decode b_Md_reply 210 = .ok (.aload_n 0, 1) := by decide +kernel
theorem d_Md_reply_211 : decode b_Md_reply 211 = .ok (.aload_n 0, 1) := by decide +kernel
theorem d_Md_reply_212 : decode b_Md_reply 212 = .ok (.getfield 166, 3) := by decide +kernel
theorem d_Md_reply_215 : decode b_Md_reply 215 = .ok (.bipush 33, 2) := by decide +kernel
theorem d_Md_reply_217 : decode b_Md_reply 217 = .ok (.iaload, 1) := by decide +kernel
theorem d_Md_reply_218 : decode b_Md_reply 218 = .ok (.invokevirtual 300, 3) := by decide +kernel
theorem d_Md_reply_221 : decode b_Md_reply 221 = .ok (.aload_n 0, 1) := by decide +kernel
theorem d_Md_reply_222 : decode b_Md_reply 222 = .ok (.iconst 0, 1) := by decide +kernel
theorem d_Md_reply_223 : decode b_Md_reply 223 = .ok (.invokevirtual 300, 3) := by decide +kernel
theorem d_Md_reply_226 : decode b_Md_reply 226 = .ok (.aload_n 0, 1) := by decide +kernel
theorem d_Md_reply_227 : decode b_Md_reply 227 = .ok (.bipush 22, 2) := by decide +kernel
theorem d_Md_reply_229 : decode b_Md_reply 229 = .ok (.invokevirtual 300, 3) := by decide +kernel
theorem d_Md_reply_232 : decode b_Md_reply 232 = .ok (.aload_n 0, 1) := by decide +kernel
theorem d_Md_reply_233 : decode b_Md_reply 233 = .ok (.iconst 4, 1) := by decide +kernel
theorem d_Md_reply_234 : decode b_Md_reply 234 = .ok (.invokevirtual 300, 3) := by decide +kernel
theorem d_Md_reply_237 : decode b_Md_reply 237 = .ok (.aload_n 0, 1) := by decide +kernel
theorem d_Md_reply_238 : decode b_Md_reply 238 = .ok (.bipush 16, 2) := by decide +kernel
theorem d_Md_reply_240 : decode b_Md_reply 240 = .ok (.invokevirtual 300, 3) := by decide +kernel
theorem d_Md_reply_243 : decode b_Md_reply 243 = .ok (.iconst 0, 1) := by decide +kernel
theorem d_Md_reply_244 : decode b_Md_reply 244 = .ok (.istore 5, 2) := by decide +kernel
theorem d_Md_reply_246 : decode b_Md_reply 246 = .ok (.iload 5, 2) := by decide +kernel
theorem d_Md_reply_248 : decode b_Md_reply 248 = .ok (.bipush 16, 2) := by decide +kernel
theorem d_Md_reply_250 : decode b_Md_reply 250 = .ok (.if_icmp .ge 20, 3) := by decide +kernel
theorem d_Md_reply_253 : decode b_Md_reply 253 = .ok (.aload_n 0, 1) := by decide +kernel
theorem d_Md_reply_254 : decode b_Md_reply 254 = .ok (.aload_n 0, 1) := by decide +kernel
theorem d_Md_reply_255 : decode b_Md_reply 255 = .ok (.getfield 160, 3) := by decide +kernel
theorem d_Md_reply_258 : decode b_Md_reply 258 = .ok (.iload 5, 2) := by decide +kernel
theorem d_Md_reply_260 : decode b_Md_reply 260 = .ok (.iaload, 1) := by decide +kernel
theorem d_Md_reply_261 : decode b_Md_reply 261 = .ok (.invokevirtual 300, 3) := by decide +kernel
theorem d_Md_reply_264 : decode b_Md_reply 264 = .ok (.iinc 5 1, 3) := by decide +kernel
theorem d_Md_reply_267 : decode b_Md_reply 267 = .ok (.goto (-21), 3) := by decide +kernel
theorem d_Md_reply_270 : decode b_Md_reply 270 = .ok (.aload_n 0, 1) := by decide +kernel
theorem d_Md_reply_271 : decode b_Md_reply 271 = .ok (.invokevirtual 314, 3) := by decide +kernel
theorem d_Md_reply_274 : decode b_Md_reply 274 = .ok (.ireturn, 1) := by decide +kernel
theorem d_Md_reply_68 : decode b_Md_reply 68 = .ok (.iconst 2, 1) := by decide +kernel
theorem d_Md_reply_69 : decode b_Md_reply 69 = .ok (.goto 4, 3) := by decide +kernel
theorem d_Md_reply_83 : decode b_Md_reply 83 = .ok (.iconst 0, 1) := by decide +kernel
theorem d_Md_reply_84 : decode b_Md_reply 84 = .ok (.ireturn, 1) := by decide +kernel
theorem d_Md_proofPlace_0 : decode b_Md_proofPlace 0 = .ok (.bipush 20, 2) := by decide +kernel
theorem d_Md_proofPlace_2 : decode b_Md_proofPlace 2 = .ok (.istore_n 1, 1) := by decide +kernel
theorem d_Md_proofPlace_3 : decode b_Md_proofPlace 3 = .ok (.iload_n 1, 1) := by decide +kernel
theorem d_Md_proofPlace_4 : decode b_Md_proofPlace 4 = .ok (.iconst 1, 1) := by decide +kernel
theorem d_Md_proofPlace_5 : decode b_Md_proofPlace 5 = .ok (.iadd, 1) := by decide +kernel
theorem d_Md_proofPlace_6 : decode b_Md_proofPlace 6 = .ok (.aload_n 0, 1) := by decide +kernel
theorem d_Md_proofPlace_7 : decode b_Md_proofPlace 7 = .ok (.getfield 297, 3) := by decide +kernel
theorem d_Md_proofPlace_10 : decode b_Md_proofPlace 10 = .ok (.if_icmp .ge 74, 3) := by decide +kernel
theorem d_Md_proofPlace_13 : decode b_Md_proofPlace 13 = .ok (.aload_n 0, 1) := by decide +kernel
theorem d_Md_proofPlace_14 : decode b_Md_proofPlace 14 = .ok (.getfield 154, 3) := by decide +kernel
theorem d_Md_proofPlace_17 : decode b_Md_proofPlace 17 = .ok (.iload_n 1, 1) := by decide +kernel
theorem d_Md_proofPlace_18 : decode b_Md_proofPlace 18 = .ok (.iconst 1, 1) := by decide +kernel
theorem d_Md_proofPlace_19 : decode b_Md_proofPlace 19 = .ok (.iadd, 1) := by decide +kernel
theorem d_Md_proofPlace_20 : decode b_Md_proofPlace 20 = .ok (.iaload, 1) := by decide +kernel
theorem d_Md_proofPlace_21 : decode b_Md_proofPlace 21 = .ok (.iconst 1, 1) := by decide +kernel
theorem d_Md_proofPlace_22 : decode b_Md_proofPlace 22 = .ok (.if_icmp .le 62, 3) := by decide +kernel
theorem d_Md_proofPlace_25 : decode b_Md_proofPlace 25 = .ok (.iload_n 1, 1) := by decide +kernel
theorem d_Md_proofPlace_26 : decode b_Md_proofPlace 26 = .ok (.aload_n 0, 1) := by decide +kernel
theorem d_Md_proofPlace_27 : decode b_Md_proofPlace 27 = .ok (.getfield 154, 3) := by decide +kernel
theorem d_Md_proofPlace_30 : decode b_Md_proofPlace 30 = .ok (.iload_n 1, 1) := by decide +kernel
theorem d_Md_proofPlace_31 : decode b_Md_proofPlace 31 = .ok (.iconst 1, 1) := by decide +kernel
theorem d_Md_proofPlace_32 : decode b_Md_proofPlace 32 = .ok (.iadd, 1) := by decide +kernel
theorem d_Md_proofPlace_33 : decode b_Md_proofPlace 33 = .ok (.iaload, 1) := by decide +kernel
theorem d_Md_proofPlace_34 : decode b_Md_proofPlace 34 = .ok (.iadd, 1) := by decide +kernel
theorem d_Md_proofPlace_35 : decode b_Md_proofPlace 35 = .ok (.aload_n 0, 1) := by decide +kernel
theorem d_Md_proofPlace_36 : decode b_Md_proofPlace 36 = .ok (.getfield 297, 3) := by decide +kernel
theorem d_Md_proofPlace_39 : decode b_Md_proofPlace 39 = .ok (.if_icmp .gt 45, 3) := by decide +kernel
theorem d_Md_proofPlace_42 : decode b_Md_proofPlace 42 = .ok (.aload_n 0, 1) := by decide +kernel
theorem d_Md_proofPlace_43 : decode b_Md_proofPlace 43 = .ok (.getfield 154, 3) := by decide +kernel
theorem d_Md_proofPlace_46 : decode b_Md_proofPlace 46 = .ok (.iload_n 1, 1) := by decide +kernel
theorem d_Md_proofPlace_47 : decode b_Md_proofPlace 47 = .ok (.iaload, 1) := by decide +kernel
theorem d_Md_proofPlace_48 : decode b_Md_proofPlace 48 = .ok (.bipush 80, 2) := by decide +kernel
theorem d_Md_proofPlace_50 : decode b_Md_proofPlace 50 = .ok (.if_icmp .ne 20, 3) := by decide +kernel
theorem d_Md_proofPlace_70 : decode b_Md_proofPlace 70 = .ok (.iload_n 1, 1) := by decide +kernel
theorem d_Md_proofPlace_71 : decode b_Md_proofPlace 71 = .ok (.aload_n 0, 1) := by decide +kernel
theorem d_Md_proofPlace_72 : decode b_Md_proofPlace 72 = .ok (.getfield 154, 3) := by decide +kernel
theorem d_Md_proofPlace_75 : decode b_Md_proofPlace 75 = .ok (.iload_n 1, 1) := by decide +kernel
theorem d_Md_proofPlace_76 : decode b_Md_proofPlace 76 = .ok (.iconst 1, 1) := by decide +kernel
theorem d_Md_proofPlace_77 : decode b_Md_proofPlace 77 = .ok (.iadd, 1) := by decide +kernel
theorem d_Md_proofPlace_78 : decode b_Md_proofPlace 78 = .ok (.iaload, 1) := by decide +kernel
theorem d_Md_proofPlace_79 : decode b_Md_proofPlace 79 = .ok (.iadd, 1) := by decide +kernel
theorem d_Md_proofPlace_80 : decode b_Md_proofPlace 80 = .ok (.istore_n 1, 1) := by decide +kernel
theorem d_Md_proofPlace_81 : decode b_Md_proofPlace 81 = .ok (.goto (-78), 3) := by decide +kernel
theorem d_Md_proofPlace_53 : decode b_Md_proofPlace 53 = .ok (.aload_n 0, 1) := by decide +kernel
theorem d_Md_proofPlace_54 : decode b_Md_proofPlace 54 = .ok (.getfield 154, 3) := by decide +kernel
theorem d_Md_proofPlace_57 : decode b_Md_proofPlace 57 = .ok (.iload_n 1, 1) := by decide +kernel
theorem d_Md_proofPlace_58 : decode b_Md_proofPlace 58 = .ok (.iconst 1, 1) := by decide +kernel
theorem d_Md_proofPlace_59 : decode b_Md_proofPlace 59 = .ok (.iadd, 1) := by decide +kernel
theorem d_Md_proofPlace_60 : decode b_Md_proofPlace 60 = .ok (.iaload, 1) := by decide +kernel
theorem d_Md_proofPlace_61 : decode b_Md_proofPlace 61 = .ok (.bipush 18, 2) := by decide +kernel
theorem d_Md_proofPlace_63 : decode b_Md_proofPlace 63 = .ok (.if_icmp .ne 7, 3) := by decide +kernel
theorem d_Md_proofPlace_66 : decode b_Md_proofPlace 66 = .ok (.iload_n 1, 1) := by decide +kernel
theorem d_Md_proofPlace_67 : decode b_Md_proofPlace 67 = .ok (.iconst 2, 1) := by decide +kernel
theorem d_Md_proofPlace_68 : decode b_Md_proofPlace 68 = .ok (.iadd, 1) := by decide +kernel
theorem d_Md_proofPlace_84 : decode b_Md_proofPlace 84 = .ok (.iconst (-1), 1) := by decide +kernel
theorem d_Md_proofPlace_85 : decode b_Md_proofPlace 85 = .ok (.ireturn, 1) := by decide +kernel
theorem d_Md_proofPlace_69 : decode b_Md_proofPlace 69 = .ok (.ireturn, 1) := by decide +kernel
theorem d_Md_prove_0 : decode b_Md_prove 0 = .ok (.aload_n 0, 1) := by decide +kernel
theorem d_Md_prove_1 : decode b_Md_prove 1 = .ok (.iload_n 1, 1) := by decide +kernel
theorem d_Md_prove_2 : decode b_Md_prove 2 = .ok (.ifCond .lt 12, 3) := by decide +kernel
theorem d_Md_prove_14 : decode b_Md_prove 14 = .ok (.iconst 0, 1) := by decide +kernel
theorem d_Md_prove_15 : decode b_Md_prove 15 = .ok (.invokevirtual 289, 3) := by decide +kernel
theorem d_Md_prove_18 : decode b_Md_prove 18 = .ok (.ifCond .ne 5, 3) := by decide +kernel
theorem d_Md_prove_21 : decode b_Md_prove 21 = .ok (.iconst 0, 1) := by decide +kernel
theorem d_Md_prove_22 : decode b_Md_prove 22 = .ok (.ireturn, 1) := by decide +kernel
theorem d_Md_prove_5 : decode b_Md_prove 5 = .ok (.iload_n 1, 1) := by decide +kernel
theorem d_Md_prove_6 : decode b_Md_prove 6 = .ok (.iconst 4, 1) := by decide +kernel
theorem d_Md_prove_7 : decode b_Md_prove 7 = .ok (.if_icmp .ge 7, 3) := by decide +kernel
theorem d_Md_prove_10 : decode b_Md_prove 10 = .ok (.iconst 1, 1) := by decide +kernel
theorem d_Md_prove_11 : decode b_Md_prove 11 = .ok (.goto 4, 3) := by decide +kernel
theorem d_Md_prove_23 : decode b_Md_prove 23 = .ok (.aload_n 0, 1) := by decide +kernel
theorem d_Md_prove_24 : decode b_Md_prove 24 = .ok (.invokevirtual 331, 3) := by decide +kernel
theorem d_Md_prove_27 : decode b_Md_prove 27 = .ok (.istore_n 2, 1) := by decide +kernel
theorem d_Md_prove_28 : decode b_Md_prove 28 = .ok (.iload_n 2, 1) := by decide +kernel
theorem d_Md_prove_29 : decode b_Md_prove 29 = .ok (.ifCond .ge 42, 3) := by decide +kernel
theorem d_Md_prove_32 : decode b_Md_prove 32 = .ok (.aload_n 0, 1) := by decide +kernel
theorem d_Md_prove_33 : decode b_Md_prove 33 = .ok (.getfield 297, 3) := by decide +kernel
theorem d_Md_prove_36 : decode b_Md_prove 36 = .ok (.iconst 2, 1) := by decide +kernel
theorem d_Md_prove_37 : decode b_Md_prove 37 = .ok (.iadd, 1) := by decide +kernel
theorem d_Md_prove_38 : decode b_Md_prove 38 = .ok (.istore_n 2, 1) := by decide +kernel
theorem d_Md_prove_39 : decode b_Md_prove 39 = .ok (.aload_n 0, 1) := by decide +kernel
theorem d_Md_prove_40 : decode b_Md_prove 40 = .ok (.bipush 80, 2) := by decide +kernel
theorem d_Md_prove_42 : decode b_Md_prove 42 = .ok (.bipush 16, 2) := by decide +kernel
theorem d_Md_prove_44 : decode b_Md_prove 44 = .ok (.invokevirtual 310, 3) := by decide +kernel
theorem d_Md_prove_47 : decode b_Md_prove 47 = .ok (.ifCond .ne 5, 3) := by decide +kernel
theorem d_Md_prove_52 : decode b_Md_prove 52 = .ok (.iconst 0, 1) := by decide +kernel
theorem d_Md_prove_53 : decode b_Md_prove 53 = .ok (.istore_n 3, 1) := by decide +kernel
theorem d_Md_prove_54 : decode b_Md_prove 54 = .ok (.iload_n 3, 1) := by decide +kernel
theorem d_Md_prove_55 : decode b_Md_prove 55 = .ok (.bipush 16, 2) := by decide +kernel
theorem d_Md_prove_57 : decode b_Md_prove 57 = .ok (.if_icmp .ge 14, 3) := by decide +kernel
theorem d_Md_prove_60 : decode b_Md_prove 60 = .ok (.aload_n 0, 1) := by decide +kernel
theorem d_Md_prove_61 : decode b_Md_prove 61 = .ok (.iconst 0, 1) := by decide +kernel
theorem d_Md_prove_62 : decode b_Md_prove 62 = .ok (.invokevirtual 300, 3) := by decide +kernel
theorem d_Md_prove_65 : decode b_Md_prove 65 = .ok (.iinc 3 1, 3) := by decide +kernel
theorem d_Md_prove_68 : decode b_Md_prove 68 = .ok (.goto (-14), 3) := by decide +kernel
theorem d_Md_prove_71 : decode b_Md_prove 71 = .ok (.aload_n 0, 1) := by decide +kernel
theorem d_Md_prove_72 : decode b_Md_prove 72 = .ok (.invokevirtual 307, 3) := by decide +kernel
theorem d_Md_prove_75 : decode b_Md_prove 75 = .ok (.aload_n 0, 1) := by decide +kernel
theorem d_Md_prove_76 : decode b_Md_prove 76 = .ok (.iload_n 1, 1) := by decide +kernel
theorem d_Md_prove_77 : decode b_Md_prove 77 = .ok (.iload_n 2, 1) := by decide +kernel
theorem d_Md_prove_78 : decode b_Md_prove 78 = .ok (.invokevirtual 334, 3) := by decide +kernel
theorem d_Md_prove_81 : decode b_Md_prove 81 = .ok (.iconst 0, 1) := by decide +kernel
theorem d_Md_prove_82 : decode b_Md_prove 82 = .ok (.istore_n 3, 1) := by decide +kernel
theorem d_Md_prove_83 : decode b_Md_prove 83 = .ok (.iload_n 3, 1) := by decide +kernel
theorem d_Md_prove_84 : decode b_Md_prove 84 = .ok (.bipush 16, 2) := by decide +kernel
theorem d_Md_prove_86 : decode b_Md_prove 86 = .ok (.if_icmp .ge 23, 3) := by decide +kernel
theorem d_Md_prove_89 : decode b_Md_prove 89 = .ok (.aload_n 0, 1) := by decide +kernel
theorem d_Md_prove_90 : decode b_Md_prove 90 = .ok (.getfield 154, 3) := by decide +kernel
theorem d_Md_prove_93 : decode b_Md_prove 93 = .ok (.iload_n 2, 1) := by decide +kernel
theorem d_Md_prove_94 : decode b_Md_prove 94 = .ok (.iload_n 3, 1) := by decide +kernel
theorem d_Md_prove_95 : decode b_Md_prove 95 = .ok (.iadd, 1) := by decide +kernel
theorem d_Md_prove_96 : decode b_Md_prove 96 = .ok (.aload_n 0, 1) := by decide +kernel
theorem d_Md_prove_97 : decode b_Md_prove 97 = .ok (.getfield 160, 3) := by decide +kernel
theorem d_Md_prove_100 : decode b_Md_prove 100 = .ok (.iload_n 3, 1) := by decide +kernel
theorem d_Md_prove_101 : decode b_Md_prove 101 = .ok (.iaload, 1) := by decide +kernel
theorem d_Md_prove_102 : decode b_Md_prove 102 = .ok (.iastore, 1) := by decide +kernel
theorem d_Md_prove_103 : decode b_Md_prove 103 = .ok (.iinc 3 1, 3) := by decide +kernel
theorem d_Md_prove_106 : decode b_Md_prove 106 = .ok (.goto (-23), 3) := by decide +kernel
theorem d_Md_prove_109 : decode b_Md_prove 109 = .ok (.aload_n 0, 1) := by decide +kernel
theorem d_Md_prove_110 : decode b_Md_prove 110 = .ok (.getfield 297, 3) := by decide +kernel
theorem d_Md_prove_113 : decode b_Md_prove 113 = .ok (.ireturn, 1) := by decide +kernel
theorem d_Md_prove_50 : decode b_Md_prove 50 = .ok (.iconst 0, 1) := by decide +kernel
theorem d_Md_prove_51 : decode b_Md_prove 51 = .ok (.ireturn, 1) := by decide +kernel
set_option maxHeartbeats 4000000 in
set_option maxRecDepth 100000 in
/-- password -/
theorem u_password (l : Launch) (dC : Nat → ClassId) (dI : Nat → Nat → Nat) (cT : Nat → ClassId) (sz : Nat) (mo : Nat) (r : Nat → Nat) (cd : Int32) (tm : Int32) (sn : Nat) (tx : Nat) (lz : Nat) (az : Nat) (na : Nat) (nt : Nat) (nr : Nat) (mw : Int32) (ml : Int32) (mk : Int64) (dq : Int64) (f7 : Nat → Int32) (f9 : Nat → Int32) (f3 : Nat → Int32) (f4 : Nat → Int32) (f0 : Nat → Int64) (f11 : Nat → Int32) (x : Int32) (v : Int64) (y : Int32) (h20 : 20 ≤ sn) (hsn : sn ≤ 1000) (h7 : AB f7) (h4 : BD 40 4 f4) (h11 : AB f11) : Met l y_Md_password (Cond.code y_Md_password b_Md_password 8 (Option.some Jvm.ClassFile.FieldType.int) :: BIG) ({ frames := 3, cells := 0, slots := 0, locals := 92 }) (va_Pc [.ref mo, .int x, .long v, .int y] (fun U => U.heap.size = sz ∧ va_P (dC, dI) vcl [(mo, .inr (12, mdG r cd tm (nI sn) (nI 0) (nI lz) (nI az) (nI na) (nI nt) (nI nr) mw ml mk dq)), (r 7, .inl ((cT 0), 1000, .inl f7)), (r 9, .inl ((cT 0), 1400, .inl f9)), (r 3, .inl ((cT 0), 160, .inl f3)), (r 4, .inl ((cT 0), 4, .inl f4)), (r 0, .inl ((cT 1), 64, .inr (.inl f0))), (r 11, .inl ((cT 0), 16, .inl f11))] U.heap ∧ va_K (dC, dI) vcl (tyL cT) U ∧ va_D (fun _ => True) [(mo, .inr (12, mdG r cd tm (nI sn) (nI 0) (nI lz) (nI az) (nI na) (nI nt) (nI nr) mw ml mk dq)), (r 7, .inl ((cT 0), 1000, .inl f7)), (r 9, .inl ((cT 0), 1400, .inl f9)), (r 3, .inl ((cT 0), 160, .inl f3)), (r 4, .inl ((cT 0), 4, .inl f4)), (r 0, .inl ((cT 1), 64, .inr (.inl f0))), (r 11, .inl ((cT 0), 16, .inl f11))])) (va_Qi (S := (Nat → Int32) × (Nat → Int32) × (Nat → Int32) × Int32 × Nat) (fun rv9 u => match u with | (g7, g9, g11, cd2, sn2) => (20 ≤ sn2) ∧ (sn2 ≤ 1000) ∧ (AB g7) ∧ (AB g11)) (fun u t => match u with | (g7, g9, g11, cd2, sn2) => va_P (dC, dI) vcl [(mo, .inr (12, mdG r cd2 tm (nI sn2) (nI 0) (nI lz) (nI az) (nI na) (nI nt) (nI nr) mw ml mk dq)), (r 7, .inl ((cT 0), 1000, .inl g7)), (r 9, .inl ((cT 0), 1400, .inl g9)), (r 3, .inl ((cT 0), 160, .inl f3)), (r 4, .inl ((cT 0), 4, .inl f4)), (r 0, .inl ((cT 1), 64, .inr (.inl f0))), (r 11, .inl ((cT 0), 16, .inl g11))] t.heap ∧ va_K (dC, dI) vcl (tyL cT) t ∧ va_D (va_A [(mo, .inr (12, mdG r cd tm (nI sn) (nI 0) (nI lz) (nI az) (nI na) (nI nt) (nI nr) mw ml mk dq)), (r 7, .inl ((cT 0), 1000, .inl f7)), (r 9, .inl ((cT 0), 1400, .inl f9)), (r 3, .inl ((cT 0), 160, .inl f3)), (r 4, .inl ((cT 0), 4, .inl f4)), (r 0, .inl ((cT 1), 64, .inr (.inl f0))), (r 11, .inl ((cT 0), 16, .inl f11))] sz) [(mo, .inr (12, mdG r cd2 tm (nI sn2) (nI 0) (nI lz) (nI az) (nI na) (nI nt) (nI nr) mw ml mk dq)), (r 7, .inl ((cT 0), 1000, .inl g7)), (r 9, .inl ((cT 0), 1400, .inl g9)), (r 3, .inl ((cT 0), 160, .inl f3)), (r 4, .inl ((cT 0), 4, .inl f4)), (r 0, .inl ((cT 1), 64, .inr (.inl f0))), (r 11, .inl ((cT 0), 16, .inl g11))]) (va_A [(mo, .inr (12, mdG r cd tm (nI sn) (nI 0) (nI lz) (nI az) (nI na) (nI nt) (nI nr) mw ml mk dq)), (r 7, .inl ((cT 0), 1000, .inl f7)), (r 9, .inl ((cT 0), 1400, .inl f9)), (r 3, .inl ((cT 0), 160, .inl f3)), (r 4, .inl ((cT 0), 4, .inl f4)), (r 0, .inl ((cT 1), 64, .inr (.inl f0))), (r 11, .inl ((cT 0), 16, .inl f11))] sz)) 0 0 (va_A [(mo, .inr (12, mdG r cd tm (nI sn) (nI 0) (nI lz) (nI az) (nI na) (nI nt) (nI nr) mw ml mk dq)), (r 7, .inl ((cT 0), 1000, .inl f7)), (r 9, .inl ((cT 0), 1400, .inl f9)), (r 3, .inl ((cT 0), 160, .inl f3)), (r 4, .inl ((cT 0), 4, .inl f4)), (r 0, .inl ((cT 1), 64, .inr (.inl f0))), (r 11, .inl ((cT 0), 16, .inl f11))] sz) := by
  refine Met.ofW (cc := b_Md_password) (maxL := 8) (ret := (Option.some Jvm.ClassFile.FieldType.int)) (by decide) rfl ?_
  intro p e s m args below meth c s₁ B hml hv
  obtain ⟨hargs, hsz, hP, hK, hD0⟩ := hv
  have hx := B.exec
  have hb := B.bytes
  have hr := B.returns
  have hts := atoms_spec (ws := (Cond.code y_Md_password b_Md_password 8 (Option.some Jvm.ClassFile.FieldType.int) :: BIG)) B.pre
  have hg : ∀ w ∈ BIG, w.before _ s = true := fun w h => hts w (List.mem_cons_of_mem _ h)
  have hown : s.vm.findClass "DoorServerModel" = some m.cls := findClass_of_methodNamed B.named
  have hlocks := B.notSynchronized
  subst hsz
  have hD := hD0.self (sz := s.heap.size)
  generalize hAe : va_A [(mo, .inr (12, mdG r cd tm (nI sn) (nI 0) (nI lz) (nI az) (nI na) (nI nt) (nI nr) mw ml mk dq)), (r 7, .inl ((cT 0), 1000, .inl f7)), (r 9, .inl ((cT 0), 1400, .inl f9)), (r 3, .inl ((cT 0), 160, .inl f3)), (r 4, .inl ((cT 0), 4, .inl f4)), (r 0, .inl ((cT 1), 64, .inr (.inl f0))), (r 11, .inl ((cT 0), 16, .inl f11))] s.heap.size = A at hD ⊢
  have hA : ∀ q : Nat, s.heap.size ≤ q → A q := fun q h => by rw [← hAe]; exact Or.inr h
  have hS : va_S A s.heap s.heap [] := va_S.rf
  have hl := lv_entry ([.ref mo, .int x, .long v, .int y]) (n := 8) (Nat.le_of_ble_eq_true rfl)
  refine W.eq (g2 := entryFrame m (List.toArray [.ref mo, .int x, .long v, .int y]) 8) (by rw [hargs]) ?_
  rw [lg_entry_eq]
  generalize (lg_sl ([.ref mo, .int x, .long v, .int y]) ++ List.replicate (8 - (lg_sl ([.ref mo, .int x, .long v, .int y])).length) Slot.unset).toArray = ls at hl ⊢
  have hl : lv_has ls 8 [(0, .ref mo), (1, .int x), (2, .long v), (4, .int y)] := hl
  change W p l e ({ frames := 3, cells := 0, slots := 0, locals := 92 } : Room) s m args below meth c s.heap [] 0 0 _ _
  have hP : va_P (dC, dI) vcl [(mo, .inr (12, mdG r cd tm (nI sn) (nI 0) (nI lz) (nI az) (nI na) (nI nt) (nI nr) mw ml mk dq)), (r 7, .inl ((cT 0), 1000, .inl f7)), (r 9, .inl ((cT 0), 1400, .inl f9)), (r 3, .inl ((cT 0), 160, .inl f3)), (r 4, .inl ((cT 0), 4, .inl f4)), (r 0, .inl ((cT 1), 64, .inr (.inl f0))), (r 11, .inl ((cT 0), 16, .inl f11))] s.heap := hP
  rcases pk_ix x (n := 4) (by decide) with h8x | h8x | ⟨xn, hxn, rfl⟩
  · skip
    refine lv_aload_n hx hb d_Md_password_0 rfl (lv_at hl 0 rfl) ?_
    refine lv_iload_n hx hb d_Md_password_1 rfl (lv_at hl 1 rfl) ?_
    refine lv_if_lt (tgt := 27) hx hb d_Md_password_2 (by decide) (fun hc1 => ?_) (fun hn9 => absurd (h8x) hn9)
    refine lv_iconst (v := 0) hx hb d_Md_password_27 (by decide) ?_
    have hPc := hP.sub (ws' := [(mo, .inr (12, mdG r cd tm (nI sn) (nI 0) (nI lz) (nI az) (nI na) (nI nt) (nI nr) mw ml mk dq))]) [0] rfl
    have hDc := hD.sub (ws' := [(mo, .inr (12, mdG r cd tm (nI sn) (nI 0) (nI lz) (nI az) (nI na) (nI nt) (nI nr) mw ml mk dq))]) [0] (by decide) rfl
    have hFc := va_free (wc := [(mo, .inr (12, mdG r cd tm (nI sn) (nI 0) (nI lz) (nI az) (nI na) (nI nt) (nI nr) mw ml mk dq))]) hD hS hA [0] rfl
    refine va_calli (va_runV (C := "DoorServerModel") (As := [.int 0]) (rest := []) ⟨hx, hb, hml, hown, hg⟩ (m_goes0 l dC dI cT s.heap.size mo r cd tm sn 0 lz az na nt nr mw ml mk dq ) (cwV 1 hg (gI (List.forall_mem_append.mpr ⟨List.forall_mem_cons.mpr ⟨k_1165, List.forall_mem_cons.mpr ⟨k_1167, List.forall_mem_cons.mpr ⟨(big_sel (q := y_Md_goes) (n := 45) (by decide +kernel)), List.forall_mem_cons.mpr ⟨k_13, fun _ h => absurd h List.not_mem_nil⟩⟩⟩⟩, List.forall_mem_cons.mpr ⟨k_1168, fun _ h => h⟩⟩)) rfl rfl rfl (by decide +kernel) ⟨Nat.le_of_ble_eq_true rfl, Nat.le_of_ble_eq_true rfl⟩) ⟨fun a U g mk q => by obtain ⟨q0, q1, qP, qK, qD⟩ := q; exact ⟨q0, q1, qP, va_K.moved (u := U) (U := U.calling g mk a) (Vm.Alike.refl U.vm) qK, qD⟩, va_recv (q0 := 0) (ci := 12) hK hP rfl rfl, fun U hU hW => ⟨rfl, by rw [hU], by rw [hU]; exact hPc, va_K.moved hW.alike hK, hDc.weaken (fun _ _ _ _ => trivial)⟩⟩ rfl rfl hl.1 rfl (lv_room (Nat.le_of_ble_eq_true rfl)) d_Md_password_28 ⟨Nat.le_of_ble_eq_true rfl, Nat.le_of_ble_eq_true rfl⟩) hS (fun q _ h => hFc q h) hFc (fun rv9 u t H1 locs ht hvm hw hB hz1 hk1 hS => ?_)
    try dsimp only at hw hB
    obtain ⟨hP1, hK1, hD1⟩ := hB
    rw [ht] at hP1
    obtain ⟨rfl, hw⟩ := hw
    obtain ⟨hP, hD⟩ := va_join (wr := [(r 7, .inl ((cT 0), 1000, .inl f7)), (r 9, .inl ((cT 0), 1400, .inl f9)), (r 3, .inl ((cT 0), 160, .inl f3)), (r 4, .inl ((cT 0), 4, .inl f4)), (r 0, .inl ((cT 1), 64, .inr (.inl f0))), (r 11, .inl ((cT 0), 16, .inl f11))]) (w1 := [(mo, .inr (12, mdG r 1 tm (nI sn) (nI 0) (nI lz) (nI az) (nI na) (nI nt) (nI nr) mw ml mk dq))]) hP hD [0] [1, 2, 3, 4, 5, 6] rfl rfl (by decide) (by decide) hk1 hFc hP1 hD1
    have hw2 := hw
    clear hPc hDc hFc hz1 hk1 hP1 hK1 hD1
    generalize H1 = H at hP hS ⊢
    have hP : va_P (dC, dI) vcl [(r 7, .inl ((cT 0), 1000, .inl f7)), (r 9, .inl ((cT 0), 1400, .inl f9)), (r 3, .inl ((cT 0), 160, .inl f3)), (r 4, .inl ((cT 0), 4, .inl f4)), (r 0, .inl ((cT 1), 64, .inr (.inl f0))), (r 11, .inl ((cT 0), 16, .inl f11)), (mo, .inr (12, mdG r 1 tm (nI sn) (nI 0) (nI lz) (nI az) (nI na) (nI nt) (nI nr) mw ml mk dq))] H := hP
    have hD : va_D A [(r 7, .inl ((cT 0), 1000, .inl f7)), (r 9, .inl ((cT 0), 1400, .inl f9)), (r 3, .inl ((cT 0), 160, .inl f3)), (r 4, .inl ((cT 0), 4, .inl f4)), (r 0, .inl ((cT 1), 64, .inr (.inl f0))), (r 11, .inl ((cT 0), 16, .inl f11)), (mo, .inr (12, mdG r 1 tm (nI sn) (nI 0) (nI lz) (nI az) (nI na) (nI nt) (nI nr) mw ml mk dq))] := hD
    refine lv_if_ne (tgt := 36) hx hb d_Md_password_31 (by decide) (fun hn9 => absurd hn9 (by decide)) (fun hc3 => ?_)
    refine lv_iconst (v := 0) hx hb d_Md_password_34 (by decide) ?_
    have hP9 := hP.sub (ws' := [(mo, .inr (12, mdG r 1 tm (nI sn) (nI 0) (nI lz) (nI az) (nI na) (nI nt) (nI nr) mw ml mk dq)), (r 7, .inl ((cT 0), 1000, .inl f7)), (r 9, .inl ((cT 0), 1400, .inl f9)), (r 3, .inl ((cT 0), 160, .inl f3)), (r 4, .inl ((cT 0), 4, .inl f4)), (r 0, .inl ((cT 1), 64, .inr (.inl f0))), (r 11, .inl ((cT 0), 16, .inl f11))]) [6, 0, 1, 2, 3, 4, 5] rfl
    have hD9 := hD.sub (ws' := [(mo, .inr (12, mdG r 1 tm (nI sn) (nI 0) (nI lz) (nI az) (nI na) (nI nt) (nI nr) mw ml mk dq)), (r 7, .inl ((cT 0), 1000, .inl f7)), (r 9, .inl ((cT 0), 1400, .inl f9)), (r 3, .inl ((cT 0), 160, .inl f3)), (r 4, .inl ((cT 0), 4, .inl f4)), (r 0, .inl ((cT 1), 64, .inr (.inl f0))), (r 11, .inl ((cT 0), 16, .inl f11))]) [6, 0, 1, 2, 3, 4, 5] (by decide) rfl
    exact W.iret (v := 0) hx hb hr (fun t ht hW => ⟨⟨_, ⟨f7, f9, f11, 1, sn⟩, rfl, ⟨by first | assumption | omega, by first | assumption | omega, by first | assumption | omega, by first | assumption | omega⟩, by rw [ht]; exact hP9, va_K.moved hW.alike hK, hD9⟩, hS.F ht⟩) hS.2.2 d_Md_password_35
  · skip
    refine lv_aload_n hx hb d_Md_password_0 rfl (lv_at hl 0 rfl) ?_
    refine lv_iload_n hx hb d_Md_password_1 rfl (lv_at hl 1 rfl) ?_
    refine lv_if_lt (tgt := 27) hx hb d_Md_password_2 (by decide) (fun hc4 => ?_) (fun hc4 => ?_)
    · skip
      refine lv_iconst (v := 0) hx hb d_Md_password_27 (by decide) ?_
      have hPc := hP.sub (ws' := [(mo, .inr (12, mdG r cd tm (nI sn) (nI 0) (nI lz) (nI az) (nI na) (nI nt) (nI nr) mw ml mk dq))]) [0] rfl
      have hDc := hD.sub (ws' := [(mo, .inr (12, mdG r cd tm (nI sn) (nI 0) (nI lz) (nI az) (nI na) (nI nt) (nI nr) mw ml mk dq))]) [0] (by decide) rfl
      have hFc := va_free (wc := [(mo, .inr (12, mdG r cd tm (nI sn) (nI 0) (nI lz) (nI az) (nI na) (nI nt) (nI nr) mw ml mk dq))]) hD hS hA [0] rfl
      refine va_calli (va_runV (C := "DoorServerModel") (As := [.int 0]) (rest := []) ⟨hx, hb, hml, hown, hg⟩ (m_goes0 l dC dI cT s.heap.size mo r cd tm sn 0 lz az na nt nr mw ml mk dq ) (cwV 1 hg (gI (List.forall_mem_append.mpr ⟨List.forall_mem_cons.mpr ⟨k_1165, List.forall_mem_cons.mpr ⟨k_1167, List.forall_mem_cons.mpr ⟨(big_sel (q := y_Md_goes) (n := 45) (by decide +kernel)), List.forall_mem_cons.mpr ⟨k_13, fun _ h => absurd h List.not_mem_nil⟩⟩⟩⟩, List.forall_mem_cons.mpr ⟨k_1168, fun _ h => h⟩⟩)) rfl rfl rfl (by decide +kernel) ⟨Nat.le_of_ble_eq_true rfl, Nat.le_of_ble_eq_true rfl⟩) ⟨fun a U g mk q => by obtain ⟨q0, q1, qP, qK, qD⟩ := q; exact ⟨q0, q1, qP, va_K.moved (u := U) (U := U.calling g mk a) (Vm.Alike.refl U.vm) qK, qD⟩, va_recv (q0 := 0) (ci := 12) hK hP rfl rfl, fun U hU hW => ⟨rfl, by rw [hU], by rw [hU]; exact hPc, va_K.moved hW.alike hK, hDc.weaken (fun _ _ _ _ => trivial)⟩⟩ rfl rfl hl.1 rfl (lv_room (Nat.le_of_ble_eq_true rfl)) d_Md_password_28 ⟨Nat.le_of_ble_eq_true rfl, Nat.le_of_ble_eq_true rfl⟩) hS (fun q _ h => hFc q h) hFc (fun rv9 u t H1 locs ht hvm hw hB hz1 hk1 hS => ?_)
      try dsimp only at hw hB
      obtain ⟨hP1, hK1, hD1⟩ := hB
      rw [ht] at hP1
      obtain ⟨rfl, hw⟩ := hw
      obtain ⟨hP, hD⟩ := va_join (wr := [(r 7, .inl ((cT 0), 1000, .inl f7)), (r 9, .inl ((cT 0), 1400, .inl f9)), (r 3, .inl ((cT 0), 160, .inl f3)), (r 4, .inl ((cT 0), 4, .inl f4)), (r 0, .inl ((cT 1), 64, .inr (.inl f0))), (r 11, .inl ((cT 0), 16, .inl f11))]) (w1 := [(mo, .inr (12, mdG r 1 tm (nI sn) (nI 0) (nI lz) (nI az) (nI na) (nI nt) (nI nr) mw ml mk dq))]) hP hD [0] [1, 2, 3, 4, 5, 6] rfl rfl (by decide) (by decide) hk1 hFc hP1 hD1
      have hw5 := hw
      clear hPc hDc hFc hz1 hk1 hP1 hK1 hD1
      generalize H1 = H at hP hS ⊢
      have hP : va_P (dC, dI) vcl [(r 7, .inl ((cT 0), 1000, .inl f7)), (r 9, .inl ((cT 0), 1400, .inl f9)), (r 3, .inl ((cT 0), 160, .inl f3)), (r 4, .inl ((cT 0), 4, .inl f4)), (r 0, .inl ((cT 1), 64, .inr (.inl f0))), (r 11, .inl ((cT 0), 16, .inl f11)), (mo, .inr (12, mdG r 1 tm (nI sn) (nI 0) (nI lz) (nI az) (nI na) (nI nt) (nI nr) mw ml mk dq))] H := hP
      have hD : va_D A [(r 7, .inl ((cT 0), 1000, .inl f7)), (r 9, .inl ((cT 0), 1400, .inl f9)), (r 3, .inl ((cT 0), 160, .inl f3)), (r 4, .inl ((cT 0), 4, .inl f4)), (r 0, .inl ((cT 1), 64, .inr (.inl f0))), (r 11, .inl ((cT 0), 16, .inl f11)), (mo, .inr (12, mdG r 1 tm (nI sn) (nI 0) (nI lz) (nI az) (nI na) (nI nt) (nI nr) mw ml mk dq))] := hD
      refine lv_if_ne (tgt := 36) hx hb d_Md_password_31 (by decide) (fun hn9 => absurd hn9 (by decide)) (fun hc6 => ?_)
      refine lv_iconst (v := 0) hx hb d_Md_password_34 (by decide) ?_
      have hP9 := hP.sub (ws' := [(mo, .inr (12, mdG r 1 tm (nI sn) (nI 0) (nI lz) (nI az) (nI na) (nI nt) (nI nr) mw ml mk dq)), (r 7, .inl ((cT 0), 1000, .inl f7)), (r 9, .inl ((cT 0), 1400, .inl f9)), (r 3, .inl ((cT 0), 160, .inl f3)), (r 4, .inl ((cT 0), 4, .inl f4)), (r 0, .inl ((cT 1), 64, .inr (.inl f0))), (r 11, .inl ((cT 0), 16, .inl f11))]) [6, 0, 1, 2, 3, 4, 5] rfl
      have hD9 := hD.sub (ws' := [(mo, .inr (12, mdG r 1 tm (nI sn) (nI 0) (nI lz) (nI az) (nI na) (nI nt) (nI nr) mw ml mk dq)), (r 7, .inl ((cT 0), 1000, .inl f7)), (r 9, .inl ((cT 0), 1400, .inl f9)), (r 3, .inl ((cT 0), 160, .inl f3)), (r 4, .inl ((cT 0), 4, .inl f4)), (r 0, .inl ((cT 1), 64, .inr (.inl f0))), (r 11, .inl ((cT 0), 16, .inl f11))]) [6, 0, 1, 2, 3, 4, 5] (by decide) rfl
      exact W.iret (v := 0) hx hb hr (fun t ht hW => ⟨⟨_, ⟨f7, f9, f11, 1, sn⟩, rfl, ⟨by first | assumption | omega, by first | assumption | omega, by first | assumption | omega, by first | assumption | omega⟩, by rw [ht]; exact hP9, va_K.moved hW.alike hK, hD9⟩, hS.F ht⟩) hS.2.2 d_Md_password_35
    · skip
      refine lv_iload_n hx hb d_Md_password_5 rfl (lv_at hl 1 rfl) ?_
      refine lv_iconst (v := 4) hx hb d_Md_password_6 (by decide) ?_
      refine lv_icmp_ge (tgt := 27) hx hb d_Md_password_7 (by decide) (fun hc7 => ?_) (fun hn9 => absurd (h8x) hn9)
      refine lv_iconst (v := 0) hx hb d_Md_password_27 (by decide) ?_
      have hPc := hP.sub (ws' := [(mo, .inr (12, mdG r cd tm (nI sn) (nI 0) (nI lz) (nI az) (nI na) (nI nt) (nI nr) mw ml mk dq))]) [0] rfl
      have hDc := hD.sub (ws' := [(mo, .inr (12, mdG r cd tm (nI sn) (nI 0) (nI lz) (nI az) (nI na) (nI nt) (nI nr) mw ml mk dq))]) [0] (by decide) rfl
      have hFc := va_free (wc := [(mo, .inr (12, mdG r cd tm (nI sn) (nI 0) (nI lz) (nI az) (nI na) (nI nt) (nI nr) mw ml mk dq))]) hD hS hA [0] rfl
      refine va_calli (va_runV (C := "DoorServerModel") (As := [.int 0]) (rest := []) ⟨hx, hb, hml, hown, hg⟩ (m_goes0 l dC dI cT s.heap.size mo r cd tm sn 0 lz az na nt nr mw ml mk dq ) (cwV 1 hg (gI (List.forall_mem_append.mpr ⟨List.forall_mem_cons.mpr ⟨k_1165, List.forall_mem_cons.mpr ⟨k_1167, List.forall_mem_cons.mpr ⟨(big_sel (q := y_Md_goes) (n := 45) (by decide +kernel)), List.forall_mem_cons.mpr ⟨k_13, fun _ h => absurd h List.not_mem_nil⟩⟩⟩⟩, List.forall_mem_cons.mpr ⟨k_1168, fun _ h => h⟩⟩)) rfl rfl rfl (by decide +kernel) ⟨Nat.le_of_ble_eq_true rfl, Nat.le_of_ble_eq_true rfl⟩) ⟨fun a U g mk q => by obtain ⟨q0, q1, qP, qK, qD⟩ := q; exact ⟨q0, q1, qP, va_K.moved (u := U) (U := U.calling g mk a) (Vm.Alike.refl U.vm) qK, qD⟩, va_recv (q0 := 0) (ci := 12) hK hP rfl rfl, fun U hU hW => ⟨rfl, by rw [hU], by rw [hU]; exact hPc, va_K.moved hW.alike hK, hDc.weaken (fun _ _ _ _ => trivial)⟩⟩ rfl rfl hl.1 rfl (lv_room (Nat.le_of_ble_eq_true rfl)) d_Md_password_28 ⟨Nat.le_of_ble_eq_true rfl, Nat.le_of_ble_eq_true rfl⟩) hS (fun q _ h => hFc q h) hFc (fun rv9 u t H1 locs ht hvm hw hB hz1 hk1 hS => ?_)
      try dsimp only at hw hB
      obtain ⟨hP1, hK1, hD1⟩ := hB
      rw [ht] at hP1
      obtain ⟨rfl, hw⟩ := hw
      obtain ⟨hP, hD⟩ := va_join (wr := [(r 7, .inl ((cT 0), 1000, .inl f7)), (r 9, .inl ((cT 0), 1400, .inl f9)), (r 3, .inl ((cT 0), 160, .inl f3)), (r 4, .inl ((cT 0), 4, .inl f4)), (r 0, .inl ((cT 1), 64, .inr (.inl f0))), (r 11, .inl ((cT 0), 16, .inl f11))]) (w1 := [(mo, .inr (12, mdG r 1 tm (nI sn) (nI 0) (nI lz) (nI az) (nI na) (nI nt) (nI nr) mw ml mk dq))]) hP hD [0] [1, 2, 3, 4, 5, 6] rfl rfl (by decide) (by decide) hk1 hFc hP1 hD1
      have hw8 := hw
      clear hPc hDc hFc hz1 hk1 hP1 hK1 hD1
      generalize H1 = H at hP hS ⊢
      have hP : va_P (dC, dI) vcl [(r 7, .inl ((cT 0), 1000, .inl f7)), (r 9, .inl ((cT 0), 1400, .inl f9)), (r 3, .inl ((cT 0), 160, .inl f3)), (r 4, .inl ((cT 0), 4, .inl f4)), (r 0, .inl ((cT 1), 64, .inr (.inl f0))), (r 11, .inl ((cT 0), 16, .inl f11)), (mo, .inr (12, mdG r 1 tm (nI sn) (nI 0) (nI lz) (nI az) (nI na) (nI nt) (nI nr) mw ml mk dq))] H := hP
      have hD : va_D A [(r 7, .inl ((cT 0), 1000, .inl f7)), (r 9, .inl ((cT 0), 1400, .inl f9)), (r 3, .inl ((cT 0), 160, .inl f3)), (r 4, .inl ((cT 0), 4, .inl f4)), (r 0, .inl ((cT 1), 64, .inr (.inl f0))), (r 11, .inl ((cT 0), 16, .inl f11)), (mo, .inr (12, mdG r 1 tm (nI sn) (nI 0) (nI lz) (nI az) (nI na) (nI nt) (nI nr) mw ml mk dq))] := hD
      refine lv_if_ne (tgt := 36) hx hb d_Md_password_31 (by decide) (fun hn9 => absurd hn9 (by decide)) (fun hc9 => ?_)
      refine lv_iconst (v := 0) hx hb d_Md_password_34 (by decide) ?_
      have hP9 := hP.sub (ws' := [(mo, .inr (12, mdG r 1 tm (nI sn) (nI 0) (nI lz) (nI az) (nI na) (nI nt) (nI nr) mw ml mk dq)), (r 7, .inl ((cT 0), 1000, .inl f7)), (r 9, .inl ((cT 0), 1400, .inl f9)), (r 3, .inl ((cT 0), 160, .inl f3)), (r 4, .inl ((cT 0), 4, .inl f4)), (r 0, .inl ((cT 1), 64, .inr (.inl f0))), (r 11, .inl ((cT 0), 16, .inl f11))]) [6, 0, 1, 2, 3, 4, 5] rfl
      have hD9 := hD.sub (ws' := [(mo, .inr (12, mdG r 1 tm (nI sn) (nI 0) (nI lz) (nI az) (nI na) (nI nt) (nI nr) mw ml mk dq)), (r 7, .inl ((cT 0), 1000, .inl f7)), (r 9, .inl ((cT 0), 1400, .inl f9)), (r 3, .inl ((cT 0), 160, .inl f3)), (r 4, .inl ((cT 0), 4, .inl f4)), (r 0, .inl ((cT 1), 64, .inr (.inl f0))), (r 11, .inl ((cT 0), 16, .inl f11))]) [6, 0, 1, 2, 3, 4, 5] (by decide) rfl
      exact W.iret (v := 0) hx hb hr (fun t ht hW => ⟨⟨_, ⟨f7, f9, f11, 1, sn⟩, rfl, ⟨by first | assumption | omega, by first | assumption | omega, by first | assumption | omega, by first | assumption | omega⟩, by rw [ht]; exact hP9, va_K.moved hW.alike hK, hD9⟩, hS.F ht⟩) hS.2.2 d_Md_password_35
  · skip
    obtain ⟨sl, hsl, hfz⟩ := h4 xn hxn
    rcases pk_ix y (n := 61) (by decide) with h8y | h8y | ⟨yn, hyn, rfl⟩
    · skip
      refine lv_aload_n hx hb d_Md_password_0 rfl (lv_at hl 0 rfl) ?_
      refine lv_iload_n hx hb d_Md_password_1 rfl (lv_at hl 1 rfl) ?_
      refine lv_if_lt (tgt := 27) hx hb d_Md_password_2 (by decide) (fun hn9 => absurd hn9 (nI_pos (by omega))) (fun hc10 => ?_)
      refine lv_iload_n hx hb d_Md_password_5 rfl (lv_at hl 1 rfl) ?_
      refine lv_iconst (v := 4) hx hb d_Md_password_6 (by decide) ?_
      refine lv_icmp_ge (tgt := 27) hx hb d_Md_password_7 (by decide) (fun hc11 => ?_) (fun hc11 => ?_)
      · skip
        have n12 : 4 ≤ xn := (nI_leI (a := 4) (b := xn) (by omega) (by omega)).mp hc11
        refine lv_iconst (v := 0) hx hb d_Md_password_27 (by decide) ?_
        have hPc := hP.sub (ws' := [(mo, .inr (12, mdG r cd tm (nI sn) (nI 0) (nI lz) (nI az) (nI na) (nI nt) (nI nr) mw ml mk dq))]) [0] rfl
        have hDc := hD.sub (ws' := [(mo, .inr (12, mdG r cd tm (nI sn) (nI 0) (nI lz) (nI az) (nI na) (nI nt) (nI nr) mw ml mk dq))]) [0] (by decide) rfl
        have hFc := va_free (wc := [(mo, .inr (12, mdG r cd tm (nI sn) (nI 0) (nI lz) (nI az) (nI na) (nI nt) (nI nr) mw ml mk dq))]) hD hS hA [0] rfl
        refine va_calli (va_runV (C := "DoorServerModel") (As := [.int 0]) (rest := []) ⟨hx, hb, hml, hown, hg⟩ (m_goes0 l dC dI cT s.heap.size mo r cd tm sn 0 lz az na nt nr mw ml mk dq ) (cwV 1 hg (gI (List.forall_mem_append.mpr ⟨List.forall_mem_cons.mpr ⟨k_1165, List.forall_mem_cons.mpr ⟨k_1167, List.forall_mem_cons.mpr ⟨(big_sel (q := y_Md_goes) (n := 45) (by decide +kernel)), List.forall_mem_cons.mpr ⟨k_13, fun _ h => absurd h List.not_mem_nil⟩⟩⟩⟩, List.forall_mem_cons.mpr ⟨k_1168, fun _ h => h⟩⟩)) rfl rfl rfl (by decide +kernel) ⟨Nat.le_of_ble_eq_true rfl, Nat.le_of_ble_eq_true rfl⟩) ⟨fun a U g mk q => by obtain ⟨q0, q1, qP, qK, qD⟩ := q; exact ⟨q0, q1, qP, va_K.moved (u := U) (U := U.calling g mk a) (Vm.Alike.refl U.vm) qK, qD⟩, va_recv (q0 := 0) (ci := 12) hK hP rfl rfl, fun U hU hW => ⟨rfl, by rw [hU], by rw [hU]; exact hPc, va_K.moved hW.alike hK, hDc.weaken (fun _ _ _ _ => trivial)⟩⟩ rfl rfl hl.1 rfl (lv_room (Nat.le_of_ble_eq_true rfl)) d_Md_password_28 ⟨Nat.le_of_ble_eq_true rfl, Nat.le_of_ble_eq_true rfl⟩) hS (fun q _ h => hFc q h) hFc (fun rv9 u t H1 locs ht hvm hw hB hz1 hk1 hS => ?_)
        try dsimp only at hw hB
        obtain ⟨hP1, hK1, hD1⟩ := hB
        rw [ht] at hP1
        obtain ⟨rfl, hw⟩ := hw
        obtain ⟨hP, hD⟩ := va_join (wr := [(r 7, .inl ((cT 0), 1000, .inl f7)), (r 9, .inl ((cT 0), 1400, .inl f9)), (r 3, .inl ((cT 0), 160, .inl f3)), (r 4, .inl ((cT 0), 4, .inl f4)), (r 0, .inl ((cT 1), 64, .inr (.inl f0))), (r 11, .inl ((cT 0), 16, .inl f11))]) (w1 := [(mo, .inr (12, mdG r 1 tm (nI sn) (nI 0) (nI lz) (nI az) (nI na) (nI nt) (nI nr) mw ml mk dq))]) hP hD [0] [1, 2, 3, 4, 5, 6] rfl rfl (by decide) (by decide) hk1 hFc hP1 hD1
        have hw14 := hw
        clear hPc hDc hFc hz1 hk1 hP1 hK1 hD1
        generalize H1 = H at hP hS ⊢
        have hP : va_P (dC, dI) vcl [(r 7, .inl ((cT 0), 1000, .inl f7)), (r 9, .inl ((cT 0), 1400, .inl f9)), (r 3, .inl ((cT 0), 160, .inl f3)), (r 4, .inl ((cT 0), 4, .inl f4)), (r 0, .inl ((cT 1), 64, .inr (.inl f0))), (r 11, .inl ((cT 0), 16, .inl f11)), (mo, .inr (12, mdG r 1 tm (nI sn) (nI 0) (nI lz) (nI az) (nI na) (nI nt) (nI nr) mw ml mk dq))] H := hP
        have hD : va_D A [(r 7, .inl ((cT 0), 1000, .inl f7)), (r 9, .inl ((cT 0), 1400, .inl f9)), (r 3, .inl ((cT 0), 160, .inl f3)), (r 4, .inl ((cT 0), 4, .inl f4)), (r 0, .inl ((cT 1), 64, .inr (.inl f0))), (r 11, .inl ((cT 0), 16, .inl f11)), (mo, .inr (12, mdG r 1 tm (nI sn) (nI 0) (nI lz) (nI az) (nI na) (nI nt) (nI nr) mw ml mk dq))] := hD
        refine lv_if_ne (tgt := 36) hx hb d_Md_password_31 (by decide) (fun hn9 => absurd hn9 (by decide)) (fun hc15 => ?_)
        refine lv_iconst (v := 0) hx hb d_Md_password_34 (by decide) ?_
        have hP9 := hP.sub (ws' := [(mo, .inr (12, mdG r 1 tm (nI sn) (nI 0) (nI lz) (nI az) (nI na) (nI nt) (nI nr) mw ml mk dq)), (r 7, .inl ((cT 0), 1000, .inl f7)), (r 9, .inl ((cT 0), 1400, .inl f9)), (r 3, .inl ((cT 0), 160, .inl f3)), (r 4, .inl ((cT 0), 4, .inl f4)), (r 0, .inl ((cT 1), 64, .inr (.inl f0))), (r 11, .inl ((cT 0), 16, .inl f11))]) [6, 0, 1, 2, 3, 4, 5] rfl
        have hD9 := hD.sub (ws' := [(mo, .inr (12, mdG r 1 tm (nI sn) (nI 0) (nI lz) (nI az) (nI na) (nI nt) (nI nr) mw ml mk dq)), (r 7, .inl ((cT 0), 1000, .inl f7)), (r 9, .inl ((cT 0), 1400, .inl f9)), (r 3, .inl ((cT 0), 160, .inl f3)), (r 4, .inl ((cT 0), 4, .inl f4)), (r 0, .inl ((cT 1), 64, .inr (.inl f0))), (r 11, .inl ((cT 0), 16, .inl f11))]) [6, 0, 1, 2, 3, 4, 5] (by decide) rfl
        exact W.iret (v := 0) hx hb hr (fun t ht hW => ⟨⟨_, ⟨f7, f9, f11, 1, sn⟩, rfl, ⟨by first | assumption | omega, by first | assumption | omega, by first | assumption | omega, by first | assumption | omega⟩, by rw [ht]; exact hP9, va_K.moved hW.alike hK, hD9⟩, hS.F ht⟩) hS.2.2 d_Md_password_35
      · skip
        have n13 : xn < 4 := Nat.not_le.mp (fun h7 => hc11 ((nI_leI (a := 4) (b := xn) (by omega) (by omega)).mpr h7))
        refine lv_iload hx hb d_Md_password_10 (lv_at hl 3 rfl) ?_
        refine lv_iconst (v := 1) hx hb d_Md_password_12 (by decide) ?_
        refine lv_icmp_lt (tgt := 27) hx hb d_Md_password_13 (by decide) (fun hc16 => ?_) (fun hn9 => absurd (lt_01 h8y) hn9)
        refine lv_iconst (v := 0) hx hb d_Md_password_27 (by decide) ?_
        have hPc := hP.sub (ws' := [(mo, .inr (12, mdG r cd tm (nI sn) (nI 0) (nI lz) (nI az) (nI na) (nI nt) (nI nr) mw ml mk dq))]) [0] rfl
        have hDc := hD.sub (ws' := [(mo, .inr (12, mdG r cd tm (nI sn) (nI 0) (nI lz) (nI az) (nI na) (nI nt) (nI nr) mw ml mk dq))]) [0] (by decide) rfl
        have hFc := va_free (wc := [(mo, .inr (12, mdG r cd tm (nI sn) (nI 0) (nI lz) (nI az) (nI na) (nI nt) (nI nr) mw ml mk dq))]) hD hS hA [0] rfl
        refine va_calli (va_runV (C := "DoorServerModel") (As := [.int 0]) (rest := []) ⟨hx, hb, hml, hown, hg⟩ (m_goes0 l dC dI cT s.heap.size mo r cd tm sn 0 lz az na nt nr mw ml mk dq ) (cwV 1 hg (gI (List.forall_mem_append.mpr ⟨List.forall_mem_cons.mpr ⟨k_1165, List.forall_mem_cons.mpr ⟨k_1167, List.forall_mem_cons.mpr ⟨(big_sel (q := y_Md_goes) (n := 45) (by decide +kernel)), List.forall_mem_cons.mpr ⟨k_13, fun _ h => absurd h List.not_mem_nil⟩⟩⟩⟩, List.forall_mem_cons.mpr ⟨k_1168, fun _ h => h⟩⟩)) rfl rfl rfl (by decide +kernel) ⟨Nat.le_of_ble_eq_true rfl, Nat.le_of_ble_eq_true rfl⟩) ⟨fun a U g mk q => by obtain ⟨q0, q1, qP, qK, qD⟩ := q; exact ⟨q0, q1, qP, va_K.moved (u := U) (U := U.calling g mk a) (Vm.Alike.refl U.vm) qK, qD⟩, va_recv (q0 := 0) (ci := 12) hK hP rfl rfl, fun U hU hW => ⟨rfl, by rw [hU], by rw [hU]; exact hPc, va_K.moved hW.alike hK, hDc.weaken (fun _ _ _ _ => trivial)⟩⟩ rfl rfl hl.1 rfl (lv_room (Nat.le_of_ble_eq_true rfl)) d_Md_password_28 ⟨Nat.le_of_ble_eq_true rfl, Nat.le_of_ble_eq_true rfl⟩) hS (fun q _ h => hFc q h) hFc (fun rv9 u t H1 locs ht hvm hw hB hz1 hk1 hS => ?_)
        try dsimp only at hw hB
        obtain ⟨hP1, hK1, hD1⟩ := hB
        rw [ht] at hP1
        obtain ⟨rfl, hw⟩ := hw
        obtain ⟨hP, hD⟩ := va_join (wr := [(r 7, .inl ((cT 0), 1000, .inl f7)), (r 9, .inl ((cT 0), 1400, .inl f9)), (r 3, .inl ((cT 0), 160, .inl f3)), (r 4, .inl ((cT 0), 4, .inl f4)), (r 0, .inl ((cT 1), 64, .inr (.inl f0))), (r 11, .inl ((cT 0), 16, .inl f11))]) (w1 := [(mo, .inr (12, mdG r 1 tm (nI sn) (nI 0) (nI lz) (nI az) (nI na) (nI nt) (nI nr) mw ml mk dq))]) hP hD [0] [1, 2, 3, 4, 5, 6] rfl rfl (by decide) (by decide) hk1 hFc hP1 hD1
        have hw17 := hw
        clear hPc hDc hFc hz1 hk1 hP1 hK1 hD1
        generalize H1 = H at hP hS ⊢
        have hP : va_P (dC, dI) vcl [(r 7, .inl ((cT 0), 1000, .inl f7)), (r 9, .inl ((cT 0), 1400, .inl f9)), (r 3, .inl ((cT 0), 160, .inl f3)), (r 4, .inl ((cT 0), 4, .inl f4)), (r 0, .inl ((cT 1), 64, .inr (.inl f0))), (r 11, .inl ((cT 0), 16, .inl f11)), (mo, .inr (12, mdG r 1 tm (nI sn) (nI 0) (nI lz) (nI az) (nI na) (nI nt) (nI nr) mw ml mk dq))] H := hP
        have hD : va_D A [(r 7, .inl ((cT 0), 1000, .inl f7)), (r 9, .inl ((cT 0), 1400, .inl f9)), (r 3, .inl ((cT 0), 160, .inl f3)), (r 4, .inl ((cT 0), 4, .inl f4)), (r 0, .inl ((cT 1), 64, .inr (.inl f0))), (r 11, .inl ((cT 0), 16, .inl f11)), (mo, .inr (12, mdG r 1 tm (nI sn) (nI 0) (nI lz) (nI az) (nI na) (nI nt) (nI nr) mw ml mk dq))] := hD
        refine lv_if_ne (tgt := 36) hx hb d_Md_password_31 (by decide) (fun hn9 => absurd hn9 (by decide)) (fun hc18 => ?_)
        refine lv_iconst (v := 0) hx hb d_Md_password_34 (by decide) ?_
        have hP9 := hP.sub (ws' := [(mo, .inr (12, mdG r 1 tm (nI sn) (nI 0) (nI lz) (nI az) (nI na) (nI nt) (nI nr) mw ml mk dq)), (r 7, .inl ((cT 0), 1000, .inl f7)), (r 9, .inl ((cT 0), 1400, .inl f9)), (r 3, .inl ((cT 0), 160, .inl f3)), (r 4, .inl ((cT 0), 4, .inl f4)), (r 0, .inl ((cT 1), 64, .inr (.inl f0))), (r 11, .inl ((cT 0), 16, .inl f11))]) [6, 0, 1, 2, 3, 4, 5] rfl
        have hD9 := hD.sub (ws' := [(mo, .inr (12, mdG r 1 tm (nI sn) (nI 0) (nI lz) (nI az) (nI na) (nI nt) (nI nr) mw ml mk dq)), (r 7, .inl ((cT 0), 1000, .inl f7)), (r 9, .inl ((cT 0), 1400, .inl f9)), (r 3, .inl ((cT 0), 160, .inl f3)), (r 4, .inl ((cT 0), 4, .inl f4)), (r 0, .inl ((cT 1), 64, .inr (.inl f0))), (r 11, .inl ((cT 0), 16, .inl f11))]) [6, 0, 1, 2, 3, 4, 5] (by decide) rfl
        exact W.iret (v := 0) hx hb hr (fun t ht hW => ⟨⟨_, ⟨f7, f9, f11, 1, sn⟩, rfl, ⟨by first | assumption | omega, by first | assumption | omega, by first | assumption | omega, by first | assumption | omega⟩, by rw [ht]; exact hP9, va_K.moved hW.alike hK, hD9⟩, hS.F ht⟩) hS.2.2 d_Md_password_35
    · skip
      refine lv_aload_n hx hb d_Md_password_0 rfl (lv_at hl 0 rfl) ?_
      refine lv_iload_n hx hb d_Md_password_1 rfl (lv_at hl 1 rfl) ?_
      refine lv_if_lt (tgt := 27) hx hb d_Md_password_2 (by decide) (fun hn9 => absurd hn9 (nI_pos (by omega))) (fun hc19 => ?_)
      refine lv_iload_n hx hb d_Md_password_5 rfl (lv_at hl 1 rfl) ?_
      refine lv_iconst (v := 4) hx hb d_Md_password_6 (by decide) ?_
      refine lv_icmp_ge (tgt := 27) hx hb d_Md_password_7 (by decide) (fun hc20 => ?_) (fun hc20 => ?_)
      · skip
        have n21 : 4 ≤ xn := (nI_leI (a := 4) (b := xn) (by omega) (by omega)).mp hc20
        refine lv_iconst (v := 0) hx hb d_Md_password_27 (by decide) ?_
        have hPc := hP.sub (ws' := [(mo, .inr (12, mdG r cd tm (nI sn) (nI 0) (nI lz) (nI az) (nI na) (nI nt) (nI nr) mw ml mk dq))]) [0] rfl
        have hDc := hD.sub (ws' := [(mo, .inr (12, mdG r cd tm (nI sn) (nI 0) (nI lz) (nI az) (nI na) (nI nt) (nI nr) mw ml mk dq))]) [0] (by decide) rfl
        have hFc := va_free (wc := [(mo, .inr (12, mdG r cd tm (nI sn) (nI 0) (nI lz) (nI az) (nI na) (nI nt) (nI nr) mw ml mk dq))]) hD hS hA [0] rfl
        refine va_calli (va_runV (C := "DoorServerModel") (As := [.int 0]) (rest := []) ⟨hx, hb, hml, hown, hg⟩ (m_goes0 l dC dI cT s.heap.size mo r cd tm sn 0 lz az na nt nr mw ml mk dq ) (cwV 1 hg (gI (List.forall_mem_append.mpr ⟨List.forall_mem_cons.mpr ⟨k_1165, List.forall_mem_cons.mpr ⟨k_1167, List.forall_mem_cons.mpr ⟨(big_sel (q := y_Md_goes) (n := 45) (by decide +kernel)), List.forall_mem_cons.mpr ⟨k_13, fun _ h => absurd h List.not_mem_nil⟩⟩⟩⟩, List.forall_mem_cons.mpr ⟨k_1168, fun _ h => h⟩⟩)) rfl rfl rfl (by decide +kernel) ⟨Nat.le_of_ble_eq_true rfl, Nat.le_of_ble_eq_true rfl⟩) ⟨fun a U g mk q => by obtain ⟨q0, q1, qP, qK, qD⟩ := q; exact ⟨q0, q1, qP, va_K.moved (u := U) (U := U.calling g mk a) (Vm.Alike.refl U.vm) qK, qD⟩, va_recv (q0 := 0) (ci := 12) hK hP rfl rfl, fun U hU hW => ⟨rfl, by rw [hU], by rw [hU]; exact hPc, va_K.moved hW.alike hK, hDc.weaken (fun _ _ _ _ => trivial)⟩⟩ rfl rfl hl.1 rfl (lv_room (Nat.le_of_ble_eq_true rfl)) d_Md_password_28 ⟨Nat.le_of_ble_eq_true rfl, Nat.le_of_ble_eq_true rfl⟩) hS (fun q _ h => hFc q h) hFc (fun rv9 u t H1 locs ht hvm hw hB hz1 hk1 hS => ?_)
        try dsimp only at hw hB
        obtain ⟨hP1, hK1, hD1⟩ := hB
        rw [ht] at hP1
        obtain ⟨rfl, hw⟩ := hw
        obtain ⟨hP, hD⟩ := va_join (wr := [(r 7, .inl ((cT 0), 1000, .inl f7)), (r 9, .inl ((cT 0), 1400, .inl f9)), (r 3, .inl ((cT 0), 160, .inl f3)), (r 4, .inl ((cT 0), 4, .inl f4)), (r 0, .inl ((cT 1), 64, .inr (.inl f0))), (r 11, .inl ((cT 0), 16, .inl f11))]) (w1 := [(mo, .inr (12, mdG r 1 tm (nI sn) (nI 0) (nI lz) (nI az) (nI na) (nI nt) (nI nr) mw ml mk dq))]) hP hD [0] [1, 2, 3, 4, 5, 6] rfl rfl (by decide) (by decide) hk1 hFc hP1 hD1
        have hw23 := hw
        clear hPc hDc hFc hz1 hk1 hP1 hK1 hD1
        generalize H1 = H at hP hS ⊢
        have hP : va_P (dC, dI) vcl [(r 7, .inl ((cT 0), 1000, .inl f7)), (r 9, .inl ((cT 0), 1400, .inl f9)), (r 3, .inl ((cT 0), 160, .inl f3)), (r 4, .inl ((cT 0), 4, .inl f4)), (r 0, .inl ((cT 1), 64, .inr (.inl f0))), (r 11, .inl ((cT 0), 16, .inl f11)), (mo, .inr (12, mdG r 1 tm (nI sn) (nI 0) (nI lz) (nI az) (nI na) (nI nt) (nI nr) mw ml mk dq))] H := hP
        have hD : va_D A [(r 7, .inl ((cT 0), 1000, .inl f7)), (r 9, .inl ((cT 0), 1400, .inl f9)), (r 3, .inl ((cT 0), 160, .inl f3)), (r 4, .inl ((cT 0), 4, .inl f4)), (r 0, .inl ((cT 1), 64, .inr (.inl f0))), (r 11, .inl ((cT 0), 16, .inl f11)), (mo, .inr (12, mdG r 1 tm (nI sn) (nI 0) (nI lz) (nI az) (nI na) (nI nt) (nI nr) mw ml mk dq))] := hD
        refine lv_if_ne (tgt := 36) hx hb d_Md_password_31 (by decide) (fun hn9 => absurd hn9 (by decide)) (fun hc24 => ?_)
        refine lv_iconst (v := 0) hx hb d_Md_password_34 (by decide) ?_
        have hP9 := hP.sub (ws' := [(mo, .inr (12, mdG r 1 tm (nI sn) (nI 0) (nI lz) (nI az) (nI na) (nI nt) (nI nr) mw ml mk dq)), (r 7, .inl ((cT 0), 1000, .inl f7)), (r 9, .inl ((cT 0), 1400, .inl f9)), (r 3, .inl ((cT 0), 160, .inl f3)), (r 4, .inl ((cT 0), 4, .inl f4)), (r 0, .inl ((cT 1), 64, .inr (.inl f0))), (r 11, .inl ((cT 0), 16, .inl f11))]) [6, 0, 1, 2, 3, 4, 5] rfl
        have hD9 := hD.sub (ws' := [(mo, .inr (12, mdG r 1 tm (nI sn) (nI 0) (nI lz) (nI az) (nI na) (nI nt) (nI nr) mw ml mk dq)), (r 7, .inl ((cT 0), 1000, .inl f7)), (r 9, .inl ((cT 0), 1400, .inl f9)), (r 3, .inl ((cT 0), 160, .inl f3)), (r 4, .inl ((cT 0), 4, .inl f4)), (r 0, .inl ((cT 1), 64, .inr (.inl f0))), (r 11, .inl ((cT 0), 16, .inl f11))]) [6, 0, 1, 2, 3, 4, 5] (by decide) rfl
        exact W.iret (v := 0) hx hb hr (fun t ht hW => ⟨⟨_, ⟨f7, f9, f11, 1, sn⟩, rfl, ⟨by first | assumption | omega, by first | assumption | omega, by first | assumption | omega, by first | assumption | omega⟩, by rw [ht]; exact hP9, va_K.moved hW.alike hK, hD9⟩, hS.F ht⟩) hS.2.2 d_Md_password_35
      · skip
        have n22 : xn < 4 := Nat.not_le.mp (fun h7 => hc20 ((nI_leI (a := 4) (b := xn) (by omega) (by omega)).mpr h7))
        refine lv_iload hx hb d_Md_password_10 (lv_at hl 3 rfl) ?_
        refine lv_iconst (v := 1) hx hb d_Md_password_12 (by decide) ?_
        refine lv_icmp_lt (tgt := 27) hx hb d_Md_password_13 (by decide) (fun hc25 => ?_) (fun hc25 => ?_)
        · skip
          refine lv_iconst (v := 0) hx hb d_Md_password_27 (by decide) ?_
          have hPc := hP.sub (ws' := [(mo, .inr (12, mdG r cd tm (nI sn) (nI 0) (nI lz) (nI az) (nI na) (nI nt) (nI nr) mw ml mk dq))]) [0] rfl
          have hDc := hD.sub (ws' := [(mo, .inr (12, mdG r cd tm (nI sn) (nI 0) (nI lz) (nI az) (nI na) (nI nt) (nI nr) mw ml mk dq))]) [0] (by decide) rfl
          have hFc := va_free (wc := [(mo, .inr (12, mdG r cd tm (nI sn) (nI 0) (nI lz) (nI az) (nI na) (nI nt) (nI nr) mw ml mk dq))]) hD hS hA [0] rfl
          refine va_calli (va_runV (C := "DoorServerModel") (As := [.int 0]) (rest := []) ⟨hx, hb, hml, hown, hg⟩ (m_goes0 l dC dI cT s.heap.size mo r cd tm sn 0 lz az na nt nr mw ml mk dq ) (cwV 1 hg (gI (List.forall_mem_append.mpr ⟨List.forall_mem_cons.mpr ⟨k_1165, List.forall_mem_cons.mpr ⟨k_1167, List.forall_mem_cons.mpr ⟨(big_sel (q := y_Md_goes) (n := 45) (by decide +kernel)), List.forall_mem_cons.mpr ⟨k_13, fun _ h => absurd h List.not_mem_nil⟩⟩⟩⟩, List.forall_mem_cons.mpr ⟨k_1168, fun _ h => h⟩⟩)) rfl rfl rfl (by decide +kernel) ⟨Nat.le_of_ble_eq_true rfl, Nat.le_of_ble_eq_true rfl⟩) ⟨fun a U g mk q => by obtain ⟨q0, q1, qP, qK, qD⟩ := q; exact ⟨q0, q1, qP, va_K.moved (u := U) (U := U.calling g mk a) (Vm.Alike.refl U.vm) qK, qD⟩, va_recv (q0 := 0) (ci := 12) hK hP rfl rfl, fun U hU hW => ⟨rfl, by rw [hU], by rw [hU]; exact hPc, va_K.moved hW.alike hK, hDc.weaken (fun _ _ _ _ => trivial)⟩⟩ rfl rfl hl.1 rfl (lv_room (Nat.le_of_ble_eq_true rfl)) d_Md_password_28 ⟨Nat.le_of_ble_eq_true rfl, Nat.le_of_ble_eq_true rfl⟩) hS (fun q _ h => hFc q h) hFc (fun rv9 u t H1 locs ht hvm hw hB hz1 hk1 hS => ?_)
          try dsimp only at hw hB
          obtain ⟨hP1, hK1, hD1⟩ := hB
          rw [ht] at hP1
          obtain ⟨rfl, hw⟩ := hw
          obtain ⟨hP, hD⟩ := va_join (wr := [(r 7, .inl ((cT 0), 1000, .inl f7)), (r 9, .inl ((cT 0), 1400, .inl f9)), (r 3, .inl ((cT 0), 160, .inl f3)), (r 4, .inl ((cT 0), 4, .inl f4)), (r 0, .inl ((cT 1), 64, .inr (.inl f0))), (r 11, .inl ((cT 0), 16, .inl f11))]) (w1 := [(mo, .inr (12, mdG r 1 tm (nI sn) (nI 0) (nI lz) (nI az) (nI na) (nI nt) (nI nr) mw ml mk dq))]) hP hD [0] [1, 2, 3, 4, 5, 6] rfl rfl (by decide) (by decide) hk1 hFc hP1 hD1
          have hw26 := hw
          clear hPc hDc hFc hz1 hk1 hP1 hK1 hD1
          generalize H1 = H at hP hS ⊢
          have hP : va_P (dC, dI) vcl [(r 7, .inl ((cT 0), 1000, .inl f7)), (r 9, .inl ((cT 0), 1400, .inl f9)), (r 3, .inl ((cT 0), 160, .inl f3)), (r 4, .inl ((cT 0), 4, .inl f4)), (r 0, .inl ((cT 1), 64, .inr (.inl f0))), (r 11, .inl ((cT 0), 16, .inl f11)), (mo, .inr (12, mdG r 1 tm (nI sn) (nI 0) (nI lz) (nI az) (nI na) (nI nt) (nI nr) mw ml mk dq))] H := hP
          have hD : va_D A [(r 7, .inl ((cT 0), 1000, .inl f7)), (r 9, .inl ((cT 0), 1400, .inl f9)), (r 3, .inl ((cT 0), 160, .inl f3)), (r 4, .inl ((cT 0), 4, .inl f4)), (r 0, .inl ((cT 1), 64, .inr (.inl f0))), (r 11, .inl ((cT 0), 16, .inl f11)), (mo, .inr (12, mdG r 1 tm (nI sn) (nI 0) (nI lz) (nI az) (nI na) (nI nt) (nI nr) mw ml mk dq))] := hD
          refine lv_if_ne (tgt := 36) hx hb d_Md_password_31 (by decide) (fun hn9 => absurd hn9 (by decide)) (fun hc27 => ?_)
          refine lv_iconst (v := 0) hx hb d_Md_password_34 (by decide) ?_
          have hP9 := hP.sub (ws' := [(mo, .inr (12, mdG r 1 tm (nI sn) (nI 0) (nI lz) (nI az) (nI na) (nI nt) (nI nr) mw ml mk dq)), (r 7, .inl ((cT 0), 1000, .inl f7)), (r 9, .inl ((cT 0), 1400, .inl f9)), (r 3, .inl ((cT 0), 160, .inl f3)), (r 4, .inl ((cT 0), 4, .inl f4)), (r 0, .inl ((cT 1), 64, .inr (.inl f0))), (r 11, .inl ((cT 0), 16, .inl f11))]) [6, 0, 1, 2, 3, 4, 5] rfl
          have hD9 := hD.sub (ws' := [(mo, .inr (12, mdG r 1 tm (nI sn) (nI 0) (nI lz) (nI az) (nI na) (nI nt) (nI nr) mw ml mk dq)), (r 7, .inl ((cT 0), 1000, .inl f7)), (r 9, .inl ((cT 0), 1400, .inl f9)), (r 3, .inl ((cT 0), 160, .inl f3)), (r 4, .inl ((cT 0), 4, .inl f4)), (r 0, .inl ((cT 1), 64, .inr (.inl f0))), (r 11, .inl ((cT 0), 16, .inl f11))]) [6, 0, 1, 2, 3, 4, 5] (by decide) rfl
          exact W.iret (v := 0) hx hb hr (fun t ht hW => ⟨⟨_, ⟨f7, f9, f11, 1, sn⟩, rfl, ⟨by first | assumption | omega, by first | assumption | omega, by first | assumption | omega, by first | assumption | omega⟩, by rw [ht]; exact hP9, va_K.moved hW.alike hK, hD9⟩, hS.F ht⟩) hS.2.2 d_Md_password_35
        · skip
          refine lv_iload hx hb d_Md_password_16 (lv_at hl 3 rfl) ?_
          refine lv_bipush (v := 60) hx hb d_Md_password_18 (by decide) ?_
          refine lv_icmp_gt (tgt := 27) hx hb d_Md_password_20 (by decide) (fun hc28 => ?_) (fun hn9 => absurd ((lt_le1 (a := 60) (b := nI 61) (by decide)).mpr h8y) hn9)
          refine lv_iconst (v := 0) hx hb d_Md_password_27 (by decide) ?_
          have hPc := hP.sub (ws' := [(mo, .inr (12, mdG r cd tm (nI sn) (nI 0) (nI lz) (nI az) (nI na) (nI nt) (nI nr) mw ml mk dq))]) [0] rfl
          have hDc := hD.sub (ws' := [(mo, .inr (12, mdG r cd tm (nI sn) (nI 0) (nI lz) (nI az) (nI na) (nI nt) (nI nr) mw ml mk dq))]) [0] (by decide) rfl
          have hFc := va_free (wc := [(mo, .inr (12, mdG r cd tm (nI sn) (nI 0) (nI lz) (nI az) (nI na) (nI nt) (nI nr) mw ml mk dq))]) hD hS hA [0] rfl
          refine va_calli (va_runV (C := "DoorServerModel") (As := [.int 0]) (rest := []) ⟨hx, hb, hml, hown, hg⟩ (m_goes0 l dC dI cT s.heap.size mo r cd tm sn 0 lz az na nt nr mw ml mk dq ) (cwV 1 hg (gI (List.forall_mem_append.mpr ⟨List.forall_mem_cons.mpr ⟨k_1165, List.forall_mem_cons.mpr ⟨k_1167, List.forall_mem_cons.mpr ⟨(big_sel (q := y_Md_goes) (n := 45) (by decide +kernel)), List.forall_mem_cons.mpr ⟨k_13, fun _ h => absurd h List.not_mem_nil⟩⟩⟩⟩, List.forall_mem_cons.mpr ⟨k_1168, fun _ h => h⟩⟩)) rfl rfl rfl (by decide +kernel) ⟨Nat.le_of_ble_eq_true rfl, Nat.le_of_ble_eq_true rfl⟩) ⟨fun a U g mk q => by obtain ⟨q0, q1, qP, qK, qD⟩ := q; exact ⟨q0, q1, qP, va_K.moved (u := U) (U := U.calling g mk a) (Vm.Alike.refl U.vm) qK, qD⟩, va_recv (q0 := 0) (ci := 12) hK hP rfl rfl, fun U hU hW => ⟨rfl, by rw [hU], by rw [hU]; exact hPc, va_K.moved hW.alike hK, hDc.weaken (fun _ _ _ _ => trivial)⟩⟩ rfl rfl hl.1 rfl (lv_room (Nat.le_of_ble_eq_true rfl)) d_Md_password_28 ⟨Nat.le_of_ble_eq_true rfl, Nat.le_of_ble_eq_true rfl⟩) hS (fun q _ h => hFc q h) hFc (fun rv9 u t H1 locs ht hvm hw hB hz1 hk1 hS => ?_)
          try dsimp only at hw hB
          obtain ⟨hP1, hK1, hD1⟩ := hB
          rw [ht] at hP1
          obtain ⟨rfl, hw⟩ := hw
          obtain ⟨hP, hD⟩ := va_join (wr := [(r 7, .inl ((cT 0), 1000, .inl f7)), (r 9, .inl ((cT 0), 1400, .inl f9)), (r 3, .inl ((cT 0), 160, .inl f3)), (r 4, .inl ((cT 0), 4, .inl f4)), (r 0, .inl ((cT 1), 64, .inr (.inl f0))), (r 11, .inl ((cT 0), 16, .inl f11))]) (w1 := [(mo, .inr (12, mdG r 1 tm (nI sn) (nI 0) (nI lz) (nI az) (nI na) (nI nt) (nI nr) mw ml mk dq))]) hP hD [0] [1, 2, 3, 4, 5, 6] rfl rfl (by decide) (by decide) hk1 hFc hP1 hD1
          have hw29 := hw
          clear hPc hDc hFc hz1 hk1 hP1 hK1 hD1
          generalize H1 = H at hP hS ⊢
          have hP : va_P (dC, dI) vcl [(r 7, .inl ((cT 0), 1000, .inl f7)), (r 9, .inl ((cT 0), 1400, .inl f9)), (r 3, .inl ((cT 0), 160, .inl f3)), (r 4, .inl ((cT 0), 4, .inl f4)), (r 0, .inl ((cT 1), 64, .inr (.inl f0))), (r 11, .inl ((cT 0), 16, .inl f11)), (mo, .inr (12, mdG r 1 tm (nI sn) (nI 0) (nI lz) (nI az) (nI na) (nI nt) (nI nr) mw ml mk dq))] H := hP
          have hD : va_D A [(r 7, .inl ((cT 0), 1000, .inl f7)), (r 9, .inl ((cT 0), 1400, .inl f9)), (r 3, .inl ((cT 0), 160, .inl f3)), (r 4, .inl ((cT 0), 4, .inl f4)), (r 0, .inl ((cT 1), 64, .inr (.inl f0))), (r 11, .inl ((cT 0), 16, .inl f11)), (mo, .inr (12, mdG r 1 tm (nI sn) (nI 0) (nI lz) (nI az) (nI na) (nI nt) (nI nr) mw ml mk dq))] := hD
          refine lv_if_ne (tgt := 36) hx hb d_Md_password_31 (by decide) (fun hn9 => absurd hn9 (by decide)) (fun hc30 => ?_)
          refine lv_iconst (v := 0) hx hb d_Md_password_34 (by decide) ?_
          have hP9 := hP.sub (ws' := [(mo, .inr (12, mdG r 1 tm (nI sn) (nI 0) (nI lz) (nI az) (nI na) (nI nt) (nI nr) mw ml mk dq)), (r 7, .inl ((cT 0), 1000, .inl f7)), (r 9, .inl ((cT 0), 1400, .inl f9)), (r 3, .inl ((cT 0), 160, .inl f3)), (r 4, .inl ((cT 0), 4, .inl f4)), (r 0, .inl ((cT 1), 64, .inr (.inl f0))), (r 11, .inl ((cT 0), 16, .inl f11))]) [6, 0, 1, 2, 3, 4, 5] rfl
          have hD9 := hD.sub (ws' := [(mo, .inr (12, mdG r 1 tm (nI sn) (nI 0) (nI lz) (nI az) (nI na) (nI nt) (nI nr) mw ml mk dq)), (r 7, .inl ((cT 0), 1000, .inl f7)), (r 9, .inl ((cT 0), 1400, .inl f9)), (r 3, .inl ((cT 0), 160, .inl f3)), (r 4, .inl ((cT 0), 4, .inl f4)), (r 0, .inl ((cT 1), 64, .inr (.inl f0))), (r 11, .inl ((cT 0), 16, .inl f11))]) [6, 0, 1, 2, 3, 4, 5] (by decide) rfl
          exact W.iret (v := 0) hx hb hr (fun t ht hW => ⟨⟨_, ⟨f7, f9, f11, 1, sn⟩, rfl, ⟨by first | assumption | omega, by first | assumption | omega, by first | assumption | omega, by first | assumption | omega⟩, by rw [ht]; exact hP9, va_K.moved hW.alike hK, hD9⟩, hS.F ht⟩) hS.2.2 d_Md_password_35
    · skip
      refine lv_aload_n hx hb d_Md_password_0 rfl (lv_at hl 0 rfl) ?_
      refine lv_iload_n hx hb d_Md_password_1 rfl (lv_at hl 1 rfl) ?_
      refine lv_if_lt (tgt := 27) hx hb d_Md_password_2 (by decide) (fun hn9 => absurd hn9 (nI_pos (by omega))) (fun hc31 => ?_)
      refine lv_iload_n hx hb d_Md_password_5 rfl (lv_at hl 1 rfl) ?_
      refine lv_iconst (v := 4) hx hb d_Md_password_6 (by decide) ?_
      refine lv_icmp_ge (tgt := 27) hx hb d_Md_password_7 (by decide) (fun hc32 => ?_) (fun hc32 => ?_)
      · skip
        have n33 : 4 ≤ xn := (nI_leI (a := 4) (b := xn) (by omega) (by omega)).mp hc32
        refine lv_iconst (v := 0) hx hb d_Md_password_27 (by decide) ?_
        have hPc := hP.sub (ws' := [(mo, .inr (12, mdG r cd tm (nI sn) (nI 0) (nI lz) (nI az) (nI na) (nI nt) (nI nr) mw ml mk dq))]) [0] rfl
        have hDc := hD.sub (ws' := [(mo, .inr (12, mdG r cd tm (nI sn) (nI 0) (nI lz) (nI az) (nI na) (nI nt) (nI nr) mw ml mk dq))]) [0] (by decide) rfl
        have hFc := va_free (wc := [(mo, .inr (12, mdG r cd tm (nI sn) (nI 0) (nI lz) (nI az) (nI na) (nI nt) (nI nr) mw ml mk dq))]) hD hS hA [0] rfl
        refine va_calli (va_runV (C := "DoorServerModel") (As := [.int 0]) (rest := []) ⟨hx, hb, hml, hown, hg⟩ (m_goes0 l dC dI cT s.heap.size mo r cd tm sn 0 lz az na nt nr mw ml mk dq ) (cwV 1 hg (gI (List.forall_mem_append.mpr ⟨List.forall_mem_cons.mpr ⟨k_1165, List.forall_mem_cons.mpr ⟨k_1167, List.forall_mem_cons.mpr ⟨(big_sel (q := y_Md_goes) (n := 45) (by decide +kernel)), List.forall_mem_cons.mpr ⟨k_13, fun _ h => absurd h List.not_mem_nil⟩⟩⟩⟩, List.forall_mem_cons.mpr ⟨k_1168, fun _ h => h⟩⟩)) rfl rfl rfl (by decide +kernel) ⟨Nat.le_of_ble_eq_true rfl, Nat.le_of_ble_eq_true rfl⟩) ⟨fun a U g mk q => by obtain ⟨q0, q1, qP, qK, qD⟩ := q; exact ⟨q0, q1, qP, va_K.moved (u := U) (U := U.calling g mk a) (Vm.Alike.refl U.vm) qK, qD⟩, va_recv (q0 := 0) (ci := 12) hK hP rfl rfl, fun U hU hW => ⟨rfl, by rw [hU], by rw [hU]; exact hPc, va_K.moved hW.alike hK, hDc.weaken (fun _ _ _ _ => trivial)⟩⟩ rfl rfl hl.1 rfl (lv_room (Nat.le_of_ble_eq_true rfl)) d_Md_password_28 ⟨Nat.le_of_ble_eq_true rfl, Nat.le_of_ble_eq_true rfl⟩) hS (fun q _ h => hFc q h) hFc (fun rv9 u t H1 locs ht hvm hw hB hz1 hk1 hS => ?_)
        try dsimp only at hw hB
        obtain ⟨hP1, hK1, hD1⟩ := hB
        rw [ht] at hP1
        obtain ⟨rfl, hw⟩ := hw
        obtain ⟨hP, hD⟩ := va_join (wr := [(r 7, .inl ((cT 0), 1000, .inl f7)), (r 9, .inl ((cT 0), 1400, .inl f9)), (r 3, .inl ((cT 0), 160, .inl f3)), (r 4, .inl ((cT 0), 4, .inl f4)), (r 0, .inl ((cT 1), 64, .inr (.inl f0))), (r 11, .inl ((cT 0), 16, .inl f11))]) (w1 := [(mo, .inr (12, mdG r 1 tm (nI sn) (nI 0) (nI lz) (nI az) (nI na) (nI nt) (nI nr) mw ml mk dq))]) hP hD [0] [1, 2, 3, 4, 5, 6] rfl rfl (by decide) (by decide) hk1 hFc hP1 hD1
        have hw35 := hw
        clear hPc hDc hFc hz1 hk1 hP1 hK1 hD1
        generalize H1 = H at hP hS ⊢
        have hP : va_P (dC, dI) vcl [(r 7, .inl ((cT 0), 1000, .inl f7)), (r 9, .inl ((cT 0), 1400, .inl f9)), (r 3, .inl ((cT 0), 160, .inl f3)), (r 4, .inl ((cT 0), 4, .inl f4)), (r 0, .inl ((cT 1), 64, .inr (.inl f0))), (r 11, .inl ((cT 0), 16, .inl f11)), (mo, .inr (12, mdG r 1 tm (nI sn) (nI 0) (nI lz) (nI az) (nI na) (nI nt) (nI nr) mw ml mk dq))] H := hP
        have hD : va_D A [(r 7, .inl ((cT 0), 1000, .inl f7)), (r 9, .inl ((cT 0), 1400, .inl f9)), (r 3, .inl ((cT 0), 160, .inl f3)), (r 4, .inl ((cT 0), 4, .inl f4)), (r 0, .inl ((cT 1), 64, .inr (.inl f0))), (r 11, .inl ((cT 0), 16, .inl f11)), (mo, .inr (12, mdG r 1 tm (nI sn) (nI 0) (nI lz) (nI az) (nI na) (nI nt) (nI nr) mw ml mk dq))] := hD
        refine lv_if_ne (tgt := 36) hx hb d_Md_password_31 (by decide) (fun hn9 => absurd hn9 (by decide)) (fun hc36 => ?_)
        refine lv_iconst (v := 0) hx hb d_Md_password_34 (by decide) ?_
        have hP9 := hP.sub (ws' := [(mo, .inr (12, mdG r 1 tm (nI sn) (nI 0) (nI lz) (nI az) (nI na) (nI nt) (nI nr) mw ml mk dq)), (r 7, .inl ((cT 0), 1000, .inl f7)), (r 9, .inl ((cT 0), 1400, .inl f9)), (r 3, .inl ((cT 0), 160, .inl f3)), (r 4, .inl ((cT 0), 4, .inl f4)), (r 0, .inl ((cT 1), 64, .inr (.inl f0))), (r 11, .inl ((cT 0), 16, .inl f11))]) [6, 0, 1, 2, 3, 4, 5] rfl
        have hD9 := hD.sub (ws' := [(mo, .inr (12, mdG r 1 tm (nI sn) (nI 0) (nI lz) (nI az) (nI na) (nI nt) (nI nr) mw ml mk dq)), (r 7, .inl ((cT 0), 1000, .inl f7)), (r 9, .inl ((cT 0), 1400, .inl f9)), (r 3, .inl ((cT 0), 160, .inl f3)), (r 4, .inl ((cT 0), 4, .inl f4)), (r 0, .inl ((cT 1), 64, .inr (.inl f0))), (r 11, .inl ((cT 0), 16, .inl f11))]) [6, 0, 1, 2, 3, 4, 5] (by decide) rfl
        exact W.iret (v := 0) hx hb hr (fun t ht hW => ⟨⟨_, ⟨f7, f9, f11, 1, sn⟩, rfl, ⟨by first | assumption | omega, by first | assumption | omega, by first | assumption | omega, by first | assumption | omega⟩, by rw [ht]; exact hP9, va_K.moved hW.alike hK, hD9⟩, hS.F ht⟩) hS.2.2 d_Md_password_35
      · skip
        have n34 : xn < 4 := Nat.not_le.mp (fun h7 => hc32 ((nI_leI (a := 4) (b := xn) (by omega) (by omega)).mpr h7))
        refine lv_iload hx hb d_Md_password_10 (lv_at hl 3 rfl) ?_
        refine lv_iconst (v := 1) hx hb d_Md_password_12 (by decide) ?_
        refine lv_icmp_lt (tgt := 27) hx hb d_Md_password_13 (by decide) (fun hc37 => ?_) (fun hc37 => ?_)
        · skip
          have n38 : yn < 1 := (nI_ltI (a := yn) (b := 1) (by omega) (by omega)).mp hc37
          refine lv_iconst (v := 0) hx hb d_Md_password_27 (by decide) ?_
          have hPc := hP.sub (ws' := [(mo, .inr (12, mdG r cd tm (nI sn) (nI 0) (nI lz) (nI az) (nI na) (nI nt) (nI nr) mw ml mk dq))]) [0] rfl
          have hDc := hD.sub (ws' := [(mo, .inr (12, mdG r cd tm (nI sn) (nI 0) (nI lz) (nI az) (nI na) (nI nt) (nI nr) mw ml mk dq))]) [0] (by decide) rfl
          have hFc := va_free (wc := [(mo, .inr (12, mdG r cd tm (nI sn) (nI 0) (nI lz) (nI az) (nI na) (nI nt) (nI nr) mw ml mk dq))]) hD hS hA [0] rfl
          refine va_calli (va_runV (C := "DoorServerModel") (As := [.int 0]) (rest := []) ⟨hx, hb, hml, hown, hg⟩ (m_goes0 l dC dI cT s.heap.size mo r cd tm sn 0 lz az na nt nr mw ml mk dq ) (cwV 1 hg (gI (List.forall_mem_append.mpr ⟨List.forall_mem_cons.mpr ⟨k_1165, List.forall_mem_cons.mpr ⟨k_1167, List.forall_mem_cons.mpr ⟨(big_sel (q := y_Md_goes) (n := 45) (by decide +kernel)), List.forall_mem_cons.mpr ⟨k_13, fun _ h => absurd h List.not_mem_nil⟩⟩⟩⟩, List.forall_mem_cons.mpr ⟨k_1168, fun _ h => h⟩⟩)) rfl rfl rfl (by decide +kernel) ⟨Nat.le_of_ble_eq_true rfl, Nat.le_of_ble_eq_true rfl⟩) ⟨fun a U g mk q => by obtain ⟨q0, q1, qP, qK, qD⟩ := q; exact ⟨q0, q1, qP, va_K.moved (u := U) (U := U.calling g mk a) (Vm.Alike.refl U.vm) qK, qD⟩, va_recv (q0 := 0) (ci := 12) hK hP rfl rfl, fun U hU hW => ⟨rfl, by rw [hU], by rw [hU]; exact hPc, va_K.moved hW.alike hK, hDc.weaken (fun _ _ _ _ => trivial)⟩⟩ rfl rfl hl.1 rfl (lv_room (Nat.le_of_ble_eq_true rfl)) d_Md_password_28 ⟨Nat.le_of_ble_eq_true rfl, Nat.le_of_ble_eq_true rfl⟩) hS (fun q _ h => hFc q h) hFc (fun rv9 u t H1 locs ht hvm hw hB hz1 hk1 hS => ?_)
          try dsimp only at hw hB
          obtain ⟨hP1, hK1, hD1⟩ := hB
          rw [ht] at hP1
          obtain ⟨rfl, hw⟩ := hw
          obtain ⟨hP, hD⟩ := va_join (wr := [(r 7, .inl ((cT 0), 1000, .inl f7)), (r 9, .inl ((cT 0), 1400, .inl f9)), (r 3, .inl ((cT 0), 160, .inl f3)), (r 4, .inl ((cT 0), 4, .inl f4)), (r 0, .inl ((cT 1), 64, .inr (.inl f0))), (r 11, .inl ((cT 0), 16, .inl f11))]) (w1 := [(mo, .inr (12, mdG r 1 tm (nI sn) (nI 0) (nI lz) (nI az) (nI na) (nI nt) (nI nr) mw ml mk dq))]) hP hD [0] [1, 2, 3, 4, 5, 6] rfl rfl (by decide) (by decide) hk1 hFc hP1 hD1
          have hw40 := hw
          clear hPc hDc hFc hz1 hk1 hP1 hK1 hD1
          generalize H1 = H at hP hS ⊢
          have hP : va_P (dC, dI) vcl [(r 7, .inl ((cT 0), 1000, .inl f7)), (r 9, .inl ((cT 0), 1400, .inl f9)), (r 3, .inl ((cT 0), 160, .inl f3)), (r 4, .inl ((cT 0), 4, .inl f4)), (r 0, .inl ((cT 1), 64, .inr (.inl f0))), (r 11, .inl ((cT 0), 16, .inl f11)), (mo, .inr (12, mdG r 1 tm (nI sn) (nI 0) (nI lz) (nI az) (nI na) (nI nt) (nI nr) mw ml mk dq))] H := hP
          have hD : va_D A [(r 7, .inl ((cT 0), 1000, .inl f7)), (r 9, .inl ((cT 0), 1400, .inl f9)), (r 3, .inl ((cT 0), 160, .inl f3)), (r 4, .inl ((cT 0), 4, .inl f4)), (r 0, .inl ((cT 1), 64, .inr (.inl f0))), (r 11, .inl ((cT 0), 16, .inl f11)), (mo, .inr (12, mdG r 1 tm (nI sn) (nI 0) (nI lz) (nI az) (nI na) (nI nt) (nI nr) mw ml mk dq))] := hD
          refine lv_if_ne (tgt := 36) hx hb d_Md_password_31 (by decide) (fun hn9 => absurd hn9 (by decide)) (fun hc41 => ?_)
          refine lv_iconst (v := 0) hx hb d_Md_password_34 (by decide) ?_
          have hP9 := hP.sub (ws' := [(mo, .inr (12, mdG r 1 tm (nI sn) (nI 0) (nI lz) (nI az) (nI na) (nI nt) (nI nr) mw ml mk dq)), (r 7, .inl ((cT 0), 1000, .inl f7)), (r 9, .inl ((cT 0), 1400, .inl f9)), (r 3, .inl ((cT 0), 160, .inl f3)), (r 4, .inl ((cT 0), 4, .inl f4)), (r 0, .inl ((cT 1), 64, .inr (.inl f0))), (r 11, .inl ((cT 0), 16, .inl f11))]) [6, 0, 1, 2, 3, 4, 5] rfl
          have hD9 := hD.sub (ws' := [(mo, .inr (12, mdG r 1 tm (nI sn) (nI 0) (nI lz) (nI az) (nI na) (nI nt) (nI nr) mw ml mk dq)), (r 7, .inl ((cT 0), 1000, .inl f7)), (r 9, .inl ((cT 0), 1400, .inl f9)), (r 3, .inl ((cT 0), 160, .inl f3)), (r 4, .inl ((cT 0), 4, .inl f4)), (r 0, .inl ((cT 1), 64, .inr (.inl f0))), (r 11, .inl ((cT 0), 16, .inl f11))]) [6, 0, 1, 2, 3, 4, 5] (by decide) rfl
          exact W.iret (v := 0) hx hb hr (fun t ht hW => ⟨⟨_, ⟨f7, f9, f11, 1, sn⟩, rfl, ⟨by first | assumption | omega, by first | assumption | omega, by first | assumption | omega, by first | assumption | omega⟩, by rw [ht]; exact hP9, va_K.moved hW.alike hK, hD9⟩, hS.F ht⟩) hS.2.2 d_Md_password_35
        · skip
          have n39 : 1 ≤ yn := Nat.not_lt.mp (fun h7 => hc37 ((nI_ltI (a := yn) (b := 1) (by omega) (by omega)).mpr h7))
          refine lv_iload hx hb d_Md_password_16 (lv_at hl 3 rfl) ?_
          refine lv_bipush (v := 60) hx hb d_Md_password_18 (by decide) ?_
          refine lv_icmp_gt (tgt := 27) hx hb d_Md_password_20 (by decide) (fun hc42 => ?_) (fun hc42 => ?_)
          · skip
            have n43 : 60 < yn := (nI_ltI (a := 60) (b := yn) (by omega) (by omega)).mp hc42
            refine lv_iconst (v := 0) hx hb d_Md_password_27 (by decide) ?_
            have hPc := hP.sub (ws' := [(mo, .inr (12, mdG r cd tm (nI sn) (nI 0) (nI lz) (nI az) (nI na) (nI nt) (nI nr) mw ml mk dq))]) [0] rfl
            have hDc := hD.sub (ws' := [(mo, .inr (12, mdG r cd tm (nI sn) (nI 0) (nI lz) (nI az) (nI na) (nI nt) (nI nr) mw ml mk dq))]) [0] (by decide) rfl
            have hFc := va_free (wc := [(mo, .inr (12, mdG r cd tm (nI sn) (nI 0) (nI lz) (nI az) (nI na) (nI nt) (nI nr) mw ml mk dq))]) hD hS hA [0] rfl
            refine va_calli (va_runV (C := "DoorServerModel") (As := [.int 0]) (rest := []) ⟨hx, hb, hml, hown, hg⟩ (m_goes0 l dC dI cT s.heap.size mo r cd tm sn 0 lz az na nt nr mw ml mk dq ) (cwV 1 hg (gI (List.forall_mem_append.mpr ⟨List.forall_mem_cons.mpr ⟨k_1165, List.forall_mem_cons.mpr ⟨k_1167, List.forall_mem_cons.mpr ⟨(big_sel (q := y_Md_goes) (n := 45) (by decide +kernel)), List.forall_mem_cons.mpr ⟨k_13, fun _ h => absurd h List.not_mem_nil⟩⟩⟩⟩, List.forall_mem_cons.mpr ⟨k_1168, fun _ h => h⟩⟩)) rfl rfl rfl (by decide +kernel) ⟨Nat.le_of_ble_eq_true rfl, Nat.le_of_ble_eq_true rfl⟩) ⟨fun a U g mk q => by obtain ⟨q0, q1, qP, qK, qD⟩ := q; exact ⟨q0, q1, qP, va_K.moved (u := U) (U := U.calling g mk a) (Vm.Alike.refl U.vm) qK, qD⟩, va_recv (q0 := 0) (ci := 12) hK hP rfl rfl, fun U hU hW => ⟨rfl, by rw [hU], by rw [hU]; exact hPc, va_K.moved hW.alike hK, hDc.weaken (fun _ _ _ _ => trivial)⟩⟩ rfl rfl hl.1 rfl (lv_room (Nat.le_of_ble_eq_true rfl)) d_Md_password_28 ⟨Nat.le_of_ble_eq_true rfl, Nat.le_of_ble_eq_true rfl⟩) hS (fun q _ h => hFc q h) hFc (fun rv9 u t H1 locs ht hvm hw hB hz1 hk1 hS => ?_)
            try dsimp only at hw hB
            obtain ⟨hP1, hK1, hD1⟩ := hB
            rw [ht] at hP1
            obtain ⟨rfl, hw⟩ := hw
            obtain ⟨hP, hD⟩ := va_join (wr := [(r 7, .inl ((cT 0), 1000, .inl f7)), (r 9, .inl ((cT 0), 1400, .inl f9)), (r 3, .inl ((cT 0), 160, .inl f3)), (r 4, .inl ((cT 0), 4, .inl f4)), (r 0, .inl ((cT 1), 64, .inr (.inl f0))), (r 11, .inl ((cT 0), 16, .inl f11))]) (w1 := [(mo, .inr (12, mdG r 1 tm (nI sn) (nI 0) (nI lz) (nI az) (nI na) (nI nt) (nI nr) mw ml mk dq))]) hP hD [0] [1, 2, 3, 4, 5, 6] rfl rfl (by decide) (by decide) hk1 hFc hP1 hD1
            have hw45 := hw
            clear hPc hDc hFc hz1 hk1 hP1 hK1 hD1
            generalize H1 = H at hP hS ⊢
            have hP : va_P (dC, dI) vcl [(r 7, .inl ((cT 0), 1000, .inl f7)), (r 9, .inl ((cT 0), 1400, .inl f9)), (r 3, .inl ((cT 0), 160, .inl f3)), (r 4, .inl ((cT 0), 4, .inl f4)), (r 0, .inl ((cT 1), 64, .inr (.inl f0))), (r 11, .inl ((cT 0), 16, .inl f11)), (mo, .inr (12, mdG r 1 tm (nI sn) (nI 0) (nI lz) (nI az) (nI na) (nI nt) (nI nr) mw ml mk dq))] H := hP
            have hD : va_D A [(r 7, .inl ((cT 0), 1000, .inl f7)), (r 9, .inl ((cT 0), 1400, .inl f9)), (r 3, .inl ((cT 0), 160, .inl f3)), (r 4, .inl ((cT 0), 4, .inl f4)), (r 0, .inl ((cT 1), 64, .inr (.inl f0))), (r 11, .inl ((cT 0), 16, .inl f11)), (mo, .inr (12, mdG r 1 tm (nI sn) (nI 0) (nI lz) (nI az) (nI na) (nI nt) (nI nr) mw ml mk dq))] := hD
            refine lv_if_ne (tgt := 36) hx hb d_Md_password_31 (by decide) (fun hn9 => absurd hn9 (by decide)) (fun hc46 => ?_)
            refine lv_iconst (v := 0) hx hb d_Md_password_34 (by decide) ?_
            have hP9 := hP.sub (ws' := [(mo, .inr (12, mdG r 1 tm (nI sn) (nI 0) (nI lz) (nI az) (nI na) (nI nt) (nI nr) mw ml mk dq)), (r 7, .inl ((cT 0), 1000, .inl f7)), (r 9, .inl ((cT 0), 1400, .inl f9)), (r 3, .inl ((cT 0), 160, .inl f3)), (r 4, .inl ((cT 0), 4, .inl f4)), (r 0, .inl ((cT 1), 64, .inr (.inl f0))), (r 11, .inl ((cT 0), 16, .inl f11))]) [6, 0, 1, 2, 3, 4, 5] rfl
            have hD9 := hD.sub (ws' := [(mo, .inr (12, mdG r 1 tm (nI sn) (nI 0) (nI lz) (nI az) (nI na) (nI nt) (nI nr) mw ml mk dq)), (r 7, .inl ((cT 0), 1000, .inl f7)), (r 9, .inl ((cT 0), 1400, .inl f9)), (r 3, .inl ((cT 0), 160, .inl f3)), (r 4, .inl ((cT 0), 4, .inl f4)), (r 0, .inl ((cT 1), 64, .inr (.inl f0))), (r 11, .inl ((cT 0), 16, .inl f11))]) [6, 0, 1, 2, 3, 4, 5] (by decide) rfl
            exact W.iret (v := 0) hx hb hr (fun t ht hW => ⟨⟨_, ⟨f7, f9, f11, 1, sn⟩, rfl, ⟨by first | assumption | omega, by first | assumption | omega, by first | assumption | omega, by first | assumption | omega⟩, by rw [ht]; exact hP9, va_K.moved hW.alike hK, hD9⟩, hS.F ht⟩) hS.2.2 d_Md_password_35
          · skip
            have n44 : yn ≤ 60 := Nat.not_lt.mp (fun h7 => hc42 ((nI_ltI (a := 60) (b := yn) (by omega) (by omega)).mpr h7))
            refine lv_iconst (v := 1) hx hb d_Md_password_23 (by decide) ?_
            refine lv_goto (tgt := 28) hx hb d_Md_password_24 (by decide) ?_
            have hPc := hP.sub (ws' := [(mo, .inr (12, mdG r cd tm (nI sn) (nI 0) (nI lz) (nI az) (nI na) (nI nt) (nI nr) mw ml mk dq))]) [0] rfl
            have hDc := hD.sub (ws' := [(mo, .inr (12, mdG r cd tm (nI sn) (nI 0) (nI lz) (nI az) (nI na) (nI nt) (nI nr) mw ml mk dq))]) [0] (by decide) rfl
            have hFc := va_free (wc := [(mo, .inr (12, mdG r cd tm (nI sn) (nI 0) (nI lz) (nI az) (nI na) (nI nt) (nI nr) mw ml mk dq))]) hD hS hA [0] rfl
            refine va_calli (va_runV (C := "DoorServerModel") (As := [.int 1]) (rest := []) ⟨hx, hb, hml, hown, hg⟩ (m_goes1 l dC dI cT s.heap.size mo r cd tm sn 0 lz az na nt nr mw ml mk dq ) (cwV 1 hg (gI (List.forall_mem_append.mpr ⟨List.forall_mem_cons.mpr ⟨k_1165, List.forall_mem_cons.mpr ⟨k_1167, List.forall_mem_cons.mpr ⟨(big_sel (q := y_Md_goes) (n := 45) (by decide +kernel)), List.forall_mem_cons.mpr ⟨k_13, fun _ h => absurd h List.not_mem_nil⟩⟩⟩⟩, List.forall_mem_cons.mpr ⟨k_1168, fun _ h => h⟩⟩)) rfl rfl rfl (by decide +kernel) ⟨Nat.le_of_ble_eq_true rfl, Nat.le_of_ble_eq_true rfl⟩) ⟨fun a U g mk q => by obtain ⟨q0, q1, qP, qK, qD⟩ := q; exact ⟨q0, q1, qP, va_K.moved (u := U) (U := U.calling g mk a) (Vm.Alike.refl U.vm) qK, qD⟩, va_recv (q0 := 0) (ci := 12) hK hP rfl rfl, fun U hU hW => ⟨rfl, by rw [hU], by rw [hU]; exact hPc, va_K.moved hW.alike hK, hDc.weaken (fun _ _ _ _ => trivial)⟩⟩ rfl rfl hl.1 rfl (lv_room (Nat.le_of_ble_eq_true rfl)) d_Md_password_28 ⟨Nat.le_of_ble_eq_true rfl, Nat.le_of_ble_eq_true rfl⟩) hS (fun q _ h => hFc q h) hFc (fun rv9 u t H1 locs ht hvm hw hB hz1 hk1 hS => ?_)
            try dsimp only at hw hB
            obtain ⟨hP1, hK1, hD1⟩ := hB
            rw [ht] at hP1
            obtain ⟨rfl, hw⟩ := hw
            obtain ⟨hP, hD⟩ := va_join (wr := [(r 7, .inl ((cT 0), 1000, .inl f7)), (r 9, .inl ((cT 0), 1400, .inl f9)), (r 3, .inl ((cT 0), 160, .inl f3)), (r 4, .inl ((cT 0), 4, .inl f4)), (r 0, .inl ((cT 1), 64, .inr (.inl f0))), (r 11, .inl ((cT 0), 16, .inl f11))]) (w1 := [(mo, .inr (12, mdG r 0 tm (nI sn) (nI 0) (nI lz) (nI az) (nI na) (nI nt) (nI nr) mw ml mk dq))]) hP hD [0] [1, 2, 3, 4, 5, 6] rfl rfl (by decide) (by decide) hk1 hFc hP1 hD1
            have hw47 := hw
            clear hPc hDc hFc hz1 hk1 hP1 hK1 hD1
            generalize H1 = H at hP hS ⊢
            have hP : va_P (dC, dI) vcl [(r 7, .inl ((cT 0), 1000, .inl f7)), (r 9, .inl ((cT 0), 1400, .inl f9)), (r 3, .inl ((cT 0), 160, .inl f3)), (r 4, .inl ((cT 0), 4, .inl f4)), (r 0, .inl ((cT 1), 64, .inr (.inl f0))), (r 11, .inl ((cT 0), 16, .inl f11)), (mo, .inr (12, mdG r 0 tm (nI sn) (nI 0) (nI lz) (nI az) (nI na) (nI nt) (nI nr) mw ml mk dq))] H := hP
            have hD : va_D A [(r 7, .inl ((cT 0), 1000, .inl f7)), (r 9, .inl ((cT 0), 1400, .inl f9)), (r 3, .inl ((cT 0), 160, .inl f3)), (r 4, .inl ((cT 0), 4, .inl f4)), (r 0, .inl ((cT 1), 64, .inr (.inl f0))), (r 11, .inl ((cT 0), 16, .inl f11)), (mo, .inr (12, mdG r 0 tm (nI sn) (nI 0) (nI lz) (nI az) (nI na) (nI nt) (nI nr) mw ml mk dq))] := hD
            refine lv_if_ne (tgt := 36) hx hb d_Md_password_31 (by decide) (fun hc48 => ?_) (fun hn9 => absurd hn9 (by decide))
            refine lv_iload hx hb d_Md_password_36 (lv_at hl 3 rfl) ?_
            refine lv_bipush (v := 15) hx hb d_Md_password_38 (by decide) ?_
            refine lv_iadd hx hb d_Md_password_40 ?_
            refine lv_topi (fun x50 e49 => ?_)
            obtain rfl : x50 = nI (yn + 15) := by rw [e49]; exact nI_add yn 15
            refine lv_bipush (v := 16) hx hb d_Md_password_41 (by decide) ?_
            refine lv_idiv hx hb d_Md_password_43 (by decide) ?_
            refine lv_topi (fun x52 e51 => ?_)
            obtain rfl : x52 = nI ((yn + 15) / 16) := by rw [e51]; exact pk_div (d := 16) (by omega) (by decide) (by decide)
            obtain ⟨nb, hnb⟩ : ∃ nb, nb = (yn + 15) / 16 := ⟨_, rfl⟩
            rw [← hnb]
            refine lv_istore (lv' := [(5, .int (nI nb)), (0, .ref mo), (1, .int (nI xn)), (2, .long v), (4, .int (nI yn))]) hx hb d_Md_password_44 hl (by decide) rfl (fun ls hl => ?_)
            refine lv_aload_n hx hb d_Md_password_46 rfl (lv_at hl 1 rfl) ?_
            refine lv_iconst (v := 2) hx hb d_Md_password_47 (by decide) ?_
            refine lv_bipush (v := 16) hx hb d_Md_password_48 (by decide) ?_
            refine lv_iload hx hb d_Md_password_50 (lv_at hl 0 rfl) ?_
            refine lv_imul hx hb d_Md_password_52 ?_
            refine lv_topi (fun x54 e53 => ?_)
            obtain rfl : x54 = nI (16 * nb) := by rw [e53]; exact pk_mul 16 nb
            by_cases hrm : sn + 16 * nb + 2 ≤ 1000
            · skip
              have hPc := hP.sub (ws' := [(mo, .inr (12, mdG r 0 tm (nI sn) (nI 0) (nI lz) (nI az) (nI na) (nI nt) (nI nr) mw ml mk dq)), (r 7, .inl ((cT 0), 1000, .inl f7))]) [6, 0] rfl
              have hDc := hD.sub (ws' := [(mo, .inr (12, mdG r 0 tm (nI sn) (nI 0) (nI lz) (nI az) (nI na) (nI nt) (nI nr) mw ml mk dq)), (r 7, .inl ((cT 0), 1000, .inl f7))]) [6, 0] (by decide) rfl
              have hFc := va_free (wc := [(mo, .inr (12, mdG r 0 tm (nI sn) (nI 0) (nI lz) (nI az) (nI na) (nI nt) (nI nr) mw ml mk dq)), (r 7, .inl ((cT 0), 1000, .inl f7))]) hD hS hA [6, 0] rfl
              refine va_calli (va_runV (C := "DoorServerModel") (As := [.int 2, .int (nI (16 * nb))]) (rest := []) ⟨hx, hb, hml, hown, hg⟩ (m_opens1 l dC dI cT H.size mo r 0 tm sn 0 lz az na nt nr mw ml mk dq f7 2 (16 * nb) (hrm) (by first | assumption | omega)) (cwV 2 hg (gI (List.forall_mem_append.mpr ⟨List.forall_mem_cons.mpr ⟨k_1188, List.forall_mem_cons.mpr ⟨k_1190, List.forall_mem_cons.mpr ⟨(big_sel (q := y_Md_opens) (n := 45) (by decide +kernel)), List.forall_mem_cons.mpr ⟨k_13, fun _ h => absurd h List.not_mem_nil⟩⟩⟩⟩, List.forall_mem_cons.mpr ⟨k_1191, fun _ h => h⟩⟩)) rfl rfl rfl (by decide +kernel) ⟨Nat.le_of_ble_eq_true rfl, Nat.le_of_ble_eq_true rfl⟩) ⟨fun a U g mk q => by obtain ⟨q0, q1, qP, qK, qD⟩ := q; exact ⟨q0, q1, qP, va_K.moved (u := U) (U := U.calling g mk a) (Vm.Alike.refl U.vm) qK, qD⟩, va_recv (q0 := 6) (ci := 12) hK hP rfl rfl, fun U hU hW => ⟨rfl, by rw [hU], by rw [hU]; exact hPc, va_K.moved hW.alike hK, hDc.weaken (fun _ _ _ _ => trivial)⟩⟩ rfl rfl hl.1 rfl (lv_room (Nat.le_of_ble_eq_true rfl)) d_Md_password_53 ⟨Nat.le_of_ble_eq_true rfl, Nat.le_of_ble_eq_true rfl⟩) hS (fun q _ h => hFc q h) hFc (fun rv9 u t H1 locs ht hvm hw hB hz1 hk1 hS => ?_)
              obtain ⟨g7_55, rfl⟩ : ∃ z, z = u := ⟨_, rfl⟩
              try dsimp only at hw hB
              obtain ⟨hP1, hK1, hD1⟩ := hB
              rw [ht] at hP1
              obtain ⟨rfl, hw⟩ := hw
              obtain ⟨hP, hD⟩ := va_join (wr := [(r 9, .inl ((cT 0), 1400, .inl f9)), (r 3, .inl ((cT 0), 160, .inl f3)), (r 4, .inl ((cT 0), 4, .inl f4)), (r 0, .inl ((cT 1), 64, .inr (.inl f0))), (r 11, .inl ((cT 0), 16, .inl f11))]) (w1 := [(mo, .inr (12, mdG r 0 tm (nI (sn + 2)) (nI 0) (nI lz) (nI az) (nI na) (nI nt) (nI nr) mw ml mk dq)), (r 7, .inl ((cT 0), 1000, .inl g7_55))]) hP hD [6, 0] [1, 2, 3, 4, 5] rfl rfl (by decide) (by decide) hk1 hFc hP1 hD1
              have hw56 := hw
              clear hPc hDc hFc hz1 hk1 hP1 hK1 hD1
              generalize H1 = H at hP hS ⊢
              have hP : va_P (dC, dI) vcl [(r 9, .inl ((cT 0), 1400, .inl f9)), (r 3, .inl ((cT 0), 160, .inl f3)), (r 4, .inl ((cT 0), 4, .inl f4)), (r 0, .inl ((cT 1), 64, .inr (.inl f0))), (r 11, .inl ((cT 0), 16, .inl f11)), (mo, .inr (12, mdG r 0 tm (nI (sn + 2)) (nI 0) (nI lz) (nI az) (nI na) (nI nt) (nI nr) mw ml mk dq)), (r 7, .inl ((cT 0), 1000, .inl g7_55))] H := hP
              have hD : va_D A [(r 9, .inl ((cT 0), 1400, .inl f9)), (r 3, .inl ((cT 0), 160, .inl f3)), (r 4, .inl ((cT 0), 4, .inl f4)), (r 0, .inl ((cT 1), 64, .inr (.inl f0))), (r 11, .inl ((cT 0), 16, .inl f11)), (mo, .inr (12, mdG r 0 tm (nI (sn + 2)) (nI 0) (nI lz) (nI az) (nI na) (nI nt) (nI nr) mw ml mk dq)), (r 7, .inl ((cT 0), 1000, .inl g7_55))] := hD
              have k57 := hw56
              refine lv_if_ne (tgt := 61) hx hb d_Md_password_56 (by decide) (fun hc58 => ?_) (fun hn9 => absurd hn9 (by decide))
              refine lv_iconst (v := 0) hx hb d_Md_password_61 (by decide) ?_
              refine lv_istore (lv' := [(6, .int 0), (5, .int (nI nb)), (0, .ref mo), (1, .int (nI xn)), (2, .long v), (4, .int (nI yn))]) hx hb d_Md_password_62 hl (by decide) rfl (fun ls hl => ?_)
              have hl := lv_sub hl [0, 1, 2, 3, 4, 5] (show _ = [(6, .int 0), (5, .int (nI nb)), (0, .ref mo), (1, .int (nI xn)), (2, .long v), (4, .int (nI yn))] from rfl)
              have L62 : ∀ (Q : State → Prop) (exit : ∀ (g7_59 : Nat → Int32) (g9_60 : Nat → Int32) (g11_61 : Nat → Int32) (H : Heap) (locs : List Loc) (ls : Array Slot), (AB g7_59) → (AB g11_61) → va_P (dC, dI) vcl [(r 9, .inl ((cT 0), 1400, .inl g9_60)), (r 3, .inl ((cT 0), 160, .inl f3)), (r 4, .inl ((cT 0), 4, .inl f4)), (r 0, .inl ((cT 1), 64, .inr (.inl f0))), (r 11, .inl ((cT 0), 16, .inl g11_61)), (mo, .inr (12, mdG r 0 tm (nI (sn + 2 + 16 * nb)) (nI 0) (nI lz) (nI az) (nI na) (nI nt) (nI nr) mw ml mk dq)), (r 7, .inl ((cT 0), 1000, .inl g7_59))] H → va_D A [(r 9, .inl ((cT 0), 1400, .inl g9_60)), (r 3, .inl ((cT 0), 160, .inl f3)), (r 4, .inl ((cT 0), 4, .inl f4)), (r 0, .inl ((cT 1), 64, .inr (.inl f0))), (r 11, .inl ((cT 0), 16, .inl g11_61)), (mo, .inr (12, mdG r 0 tm (nI (sn + 2 + 16 * nb)) (nI 0) (nI lz) (nI az) (nI na) (nI nt) (nI nr) mw ml mk dq)), (r 7, .inl ((cT 0), 1000, .inl g7_59))] → va_S A s.heap H locs → lv_has ls 8 [(6, .int (nI nb)), (5, .int (nI nb)), (0, .ref mo), (1, .int (nI xn)), (2, .long v), (4, .int (nI yn))] → W p l e ({ frames := 3, cells := 0, slots := 0, locals := 92 } : Room) s m args below meth c H locs 0 0 Q (F0 m 156 ls [])) (j8 i : Nat) (g7_59 : Nat → Int32) (g9_60 : Nat → Int32) (g11_61 : Nat → Int32) (H : Heap) (locs : List Loc) (ls : Array Slot), i + j8 = nb → (AB g7_59) → (AB g11_61) → va_P (dC, dI) vcl [(r 9, .inl ((cT 0), 1400, .inl g9_60)), (r 3, .inl ((cT 0), 160, .inl f3)), (r 4, .inl ((cT 0), 4, .inl f4)), (r 0, .inl ((cT 1), 64, .inr (.inl f0))), (r 11, .inl ((cT 0), 16, .inl g11_61)), (mo, .inr (12, mdG r 0 tm (nI (sn + 2 + 16 * i)) (nI 0) (nI lz) (nI az) (nI na) (nI nt) (nI nr) mw ml mk dq)), (r 7, .inl ((cT 0), 1000, .inl g7_59))] H → va_D A [(r 9, .inl ((cT 0), 1400, .inl g9_60)), (r 3, .inl ((cT 0), 160, .inl f3)), (r 4, .inl ((cT 0), 4, .inl f4)), (r 0, .inl ((cT 1), 64, .inr (.inl f0))), (r 11, .inl ((cT 0), 16, .inl g11_61)), (mo, .inr (12, mdG r 0 tm (nI (sn + 2 + 16 * i)) (nI 0) (nI lz) (nI az) (nI na) (nI nt) (nI nr) mw ml mk dq)), (r 7, .inl ((cT 0), 1000, .inl g7_59))] → va_S A s.heap H locs → lv_has ls 8 [(6, .int (nI i)), (5, .int (nI nb)), (0, .ref mo), (1, .int (nI xn)), (2, .long v), (4, .int (nI yn))] → W p l e ({ frames := 3, cells := 0, slots := 0, locals := 92 } : Room) s m args below meth c H locs 0 0 Q (F0 m 64 ls []) := by
                intro Q exit j8
                induction j8 with
                | zero => 
                  intro i g7_59 g9_60 g11_61 H locs ls hij hab hdb hP hD hS hl
                  have hij : nb = i := by omega
                  refine lv_iload hx hb d_Md_password_64 (lv_at hl 0 rfl) ?_
                  refine lv_iload hx hb d_Md_password_66 (lv_at hl 1 rfl) ?_
                  refine lv_icmp_ge (tgt := 156) hx hb d_Md_password_68 (by decide) (fun hc63 => ?_) (fun hn9 => absurd (nI_le (by omega) (by omega)) hn9)
                  subst hij
                  exact exit g7_59 g9_60 g11_61 _ _ _ hab hdb hP hD hS hl
                | succ j8 ih => 
                  intro i g7_59 g9_60 g11_61 H locs ls hij hab hdb hP hD hS hl
                  have hlt : i < nb := by omega
                  have hlti := hlt
                  refine lv_iload hx hb d_Md_password_64 (lv_at hl 0 rfl) ?_
                  refine lv_iload hx hb d_Md_password_66 (lv_at hl 1 rfl) ?_
                  refine lv_icmp_ge (tgt := 156) hx hb d_Md_password_68 (by decide) (fun hn9 => absurd hn9 (nI_ge (by omega) (by omega))) (fun hc64 => ?_)
                  refine lv_aload_n hx hb d_Md_password_71 rfl (lv_at hl 2 rfl) ?_
                  refine lv_iload_n hx hb d_Md_password_72 rfl (lv_at hl 3 rfl) ?_
                  refine lv_iload hx hb d_Md_password_73 (lv_at hl 0 rfl) ?_
                  refine lv_if_ne (tgt := 82) hx hb d_Md_password_75 (by decide) (fun hc65 => ?_) (fun hc65 => ?_)
                  · skip
                    have n66 : ¬ i = 0 := fun h7 => hc65 ((nI_eq (a := i) (b := 0) (by omega) (by omega)).mpr h7)
                    refine lv_aload_n hx hb d_Md_password_82 rfl (lv_at hl 2 rfl) ?_
                    refine va_get (D := (dC, dI)) (ci := 12) (v := (.int (nI (sn + 2 + 16 * i)))) (C := R_Md) (T := F_Md) (N := 45) hx hb hg in_Md hown hK hP 5 rfl rfl 8 (by decide) (hg _ k_1028) (fun _ h9 => h9) rfl d_Md_password_83 ?_
                    refine lv_bipush (v := 16) hx hb d_Md_password_86 (by decide) ?_
                    refine lv_isub hx hb d_Md_password_88 ?_
                    refine lv_topi (fun x69 e68 => ?_)
                    obtain rfl : x69 = nI ((sn + 2 + 16 * i) - 16) := by rw [e68]; exact pk_sub (a := sn + 2 + 16 * i) (b := 16) (by omega)
                    have hPc := hP.sub (ws' := [(mo, .inr (12, mdG r 0 tm (nI (sn + 2 + 16 * i)) (nI 0) (nI lz) (nI az) (nI na) (nI nt) (nI nr) mw ml mk dq)), (r 9, .inl ((cT 0), 1400, .inl g9_60)), (r 3, .inl ((cT 0), 160, .inl f3)), (r 4, .inl ((cT 0), 4, .inl f4)), (r 7, .inl ((cT 0), 1000, .inl g7_59)), (r 0, .inl ((cT 1), 64, .inr (.inl f0))), (r 11, .inl ((cT 0), 16, .inl g11_61))]) [5, 0, 1, 2, 6, 3, 4] rfl
                    have hDc := hD.sub (ws' := [(mo, .inr (12, mdG r 0 tm (nI (sn + 2 + 16 * i)) (nI 0) (nI lz) (nI az) (nI na) (nI nt) (nI nr) mw ml mk dq)), (r 9, .inl ((cT 0), 1400, .inl g9_60)), (r 3, .inl ((cT 0), 160, .inl f3)), (r 4, .inl ((cT 0), 4, .inl f4)), (r 7, .inl ((cT 0), 1000, .inl g7_59)), (r 0, .inl ((cT 1), 64, .inr (.inl f0))), (r 11, .inl ((cT 0), 16, .inl g11_61))]) [5, 0, 1, 2, 6, 3, 4] (by decide) rfl
                    have hFc := va_free (wc := [(mo, .inr (12, mdG r 0 tm (nI (sn + 2 + 16 * i)) (nI 0) (nI lz) (nI az) (nI na) (nI nt) (nI nr) mw ml mk dq)), (r 9, .inl ((cT 0), 1400, .inl g9_60)), (r 3, .inl ((cT 0), 160, .inl f3)), (r 4, .inl ((cT 0), 4, .inl f4)), (r 7, .inl ((cT 0), 1000, .inl g7_59)), (r 0, .inl ((cT 1), 64, .inr (.inl f0))), (r 11, .inl ((cT 0), 16, .inl g11_61))]) hD hS hA [5, 0, 1, 2, 6, 3, 4] rfl
                    refine va_callv (va_runV (C := "DoorServerModel") (As := [.int (nI xn), .int (nI ((sn + 2 + 16 * i) - 16))]) (rest := []) ⟨hx, hb, hml, hown, hg⟩ (m_cover l dC dI cT H.size mo r 0 tm (sn + 2 + 16 * i) 0 lz az na nt nr mw ml mk dq g9_60 f3 f4 g7_59 f0 g11_61 xn sl ((sn + 2 + 16 * i) - 16) (by first | assumption | omega) (by first | assumption | omega) (by first | assumption | omega) (by first | assumption | omega) (by first | assumption | omega) (by first | assumption | omega)) (cwV 2 hg (gI (List.forall_mem_append.mpr ⟨List.forall_mem_cons.mpr ⟨k_1212, List.forall_mem_cons.mpr ⟨k_1214, List.forall_mem_cons.mpr ⟨(big_sel (q := y_Md_cover) (n := 45) (by decide +kernel)), List.forall_mem_cons.mpr ⟨k_13, fun _ h => absurd h List.not_mem_nil⟩⟩⟩⟩, List.forall_mem_cons.mpr ⟨k_1215, fun _ h => h⟩⟩)) rfl rfl rfl (by decide +kernel) ⟨Nat.le_of_ble_eq_true rfl, Nat.le_of_ble_eq_true rfl⟩) ⟨fun a U g mk q => by obtain ⟨q0, q1, qP, qK, qD⟩ := q; exact ⟨q0, q1, qP, va_K.moved (u := U) (U := U.calling g mk a) (Vm.Alike.refl U.vm) qK, qD⟩, va_recv (q0 := 5) (ci := 12) hK hP rfl rfl, fun U hU hW => ⟨rfl, by rw [hU], by rw [hU]; exact hPc, va_K.moved hW.alike hK, hDc.weaken (fun _ _ _ _ => trivial)⟩⟩ rfl rfl hl.1 rfl (lv_room (Nat.le_of_ble_eq_true rfl)) d_Md_password_89 ⟨Nat.le_of_ble_eq_true rfl, Nat.le_of_ble_eq_true rfl⟩) hS (fun q _ h => hFc q h) hFc (fun u t H1 locs ht hvm hw hB hz1 hk1 hS => ?_)
                    obtain ⟨g9_70, g11_71⟩ := u
                    try dsimp only at hw hB
                    obtain ⟨hP1, hK1, hD1⟩ := hB
                    rw [ht] at hP1
                    obtain ⟨hP, hD⟩ := va_join (wr := []) (w1 := [(mo, .inr (12, mdG r 0 tm (nI (sn + 2 + 16 * i)) (nI 0) (nI lz) (nI az) (nI na) (nI nt) (nI nr) mw ml mk dq)), (r 9, .inl ((cT 0), 1400, .inl g9_70)), (r 3, .inl ((cT 0), 160, .inl f3)), (r 4, .inl ((cT 0), 4, .inl f4)), (r 7, .inl ((cT 0), 1000, .inl g7_59)), (r 0, .inl ((cT 1), 64, .inr (.inl f0))), (r 11, .inl ((cT 0), 16, .inl g11_71))]) hP hD [5, 0, 1, 2, 6, 3, 4] [] rfl rfl (by decide) (by decide) hk1 hFc hP1 hD1
                    have hw72 := hw
                    clear hPc hDc hFc hz1 hk1 hP1 hK1 hD1
                    generalize H1 = H at hP hS ⊢
                    have hP : va_P (dC, dI) vcl [(mo, .inr (12, mdG r 0 tm (nI (sn + 2 + 16 * i)) (nI 0) (nI lz) (nI az) (nI na) (nI nt) (nI nr) mw ml mk dq)), (r 9, .inl ((cT 0), 1400, .inl g9_70)), (r 3, .inl ((cT 0), 160, .inl f3)), (r 4, .inl ((cT 0), 4, .inl f4)), (r 7, .inl ((cT 0), 1000, .inl g7_59)), (r 0, .inl ((cT 1), 64, .inr (.inl f0))), (r 11, .inl ((cT 0), 16, .inl g11_71))] H := hP
                    have hD : va_D A [(mo, .inr (12, mdG r 0 tm (nI (sn + 2 + 16 * i)) (nI 0) (nI lz) (nI az) (nI na) (nI nt) (nI nr) mw ml mk dq)), (r 9, .inl ((cT 0), 1400, .inl g9_70)), (r 3, .inl ((cT 0), 160, .inl f3)), (r 4, .inl ((cT 0), 4, .inl f4)), (r 7, .inl ((cT 0), 1000, .inl g7_59)), (r 0, .inl ((cT 1), 64, .inr (.inl f0))), (r 11, .inl ((cT 0), 16, .inl g11_71))] := hD
                    have k73 := hw72
                    refine lv_bipush (v := 16) hx hb d_Md_password_92 (by decide) ?_
                    refine lv_iload hx hb d_Md_password_94 (lv_at hl 0 rfl) ?_
                    refine lv_imul hx hb d_Md_password_96 ?_
                    refine lv_topi (fun x75 e74 => ?_)
                    obtain rfl : x75 = nI (16 * i) := by rw [e74]; exact pk_mul 16 i
                    refine lv_istore (lv' := [(7, .int (nI (16 * i))), (6, .int (nI i)), (5, .int (nI nb)), (0, .ref mo), (1, .int (nI xn)), (2, .long v), (4, .int (nI yn))]) hx hb d_Md_password_97 hl (by decide) rfl (fun ls hl => ?_)
                    have hl := lv_sub hl [0, 1, 2, 3, 4, 5, 6] (show _ = [(7, .int (nI (16 * i))), (6, .int (nI i)), (5, .int (nI nb)), (0, .ref mo), (1, .int (nI xn)), (2, .long v), (4, .int (nI yn))] from rfl)
                    have L77 : ∀ (Q : State → Prop) (exit : ∀ (g7_76 : Nat → Int32) (H : Heap) (locs : List Loc) (ls : Array Slot), (AB g7_76) → va_P (dC, dI) vcl [(mo, .inr (12, mdG r 0 tm (nI (sn + 2 + (16 * i + 16))) (nI 0) (nI lz) (nI az) (nI na) (nI nt) (nI nr) mw ml mk dq)), (r 9, .inl ((cT 0), 1400, .inl g9_70)), (r 3, .inl ((cT 0), 160, .inl f3)), (r 4, .inl ((cT 0), 4, .inl f4)), (r 7, .inl ((cT 0), 1000, .inl g7_76)), (r 0, .inl ((cT 1), 64, .inr (.inl f0))), (r 11, .inl ((cT 0), 16, .inl g11_71))] H → va_D A [(mo, .inr (12, mdG r 0 tm (nI (sn + 2 + (16 * i + 16))) (nI 0) (nI lz) (nI az) (nI na) (nI nt) (nI nr) mw ml mk dq)), (r 9, .inl ((cT 0), 1400, .inl g9_70)), (r 3, .inl ((cT 0), 160, .inl f3)), (r 4, .inl ((cT 0), 4, .inl f4)), (r 7, .inl ((cT 0), 1000, .inl g7_76)), (r 0, .inl ((cT 1), 64, .inr (.inl f0))), (r 11, .inl ((cT 0), 16, .inl g11_71))] → va_S A s.heap H locs → lv_has ls 8 [(7, .int (nI (16 * i + 16))), (6, .int (nI i)), (5, .int (nI nb)), (0, .ref mo), (1, .int (nI xn)), (2, .long v), (4, .int (nI yn))] → W p l e ({ frames := 3, cells := 0, slots := 0, locals := 92 } : Room) s m args below meth c H locs 0 0 Q (F0 m 150 ls [])) (j8 q9 : Nat) (g7_76 : Nat → Int32) (H : Heap) (locs : List Loc) (ls : Array Slot), q9 + j8 = 16 * i + 16 → (AB g7_76) → va_P (dC, dI) vcl [(mo, .inr (12, mdG r 0 tm (nI (sn + 2 + q9)) (nI 0) (nI lz) (nI az) (nI na) (nI nt) (nI nr) mw ml mk dq)), (r 9, .inl ((cT 0), 1400, .inl g9_70)), (r 3, .inl ((cT 0), 160, .inl f3)), (r 4, .inl ((cT 0), 4, .inl f4)), (r 7, .inl ((cT 0), 1000, .inl g7_76)), (r 0, .inl ((cT 1), 64, .inr (.inl f0))), (r 11, .inl ((cT 0), 16, .inl g11_71))] H → va_D A [(mo, .inr (12, mdG r 0 tm (nI (sn + 2 + q9)) (nI 0) (nI lz) (nI az) (nI na) (nI nt) (nI nr) mw ml mk dq)), (r 9, .inl ((cT 0), 1400, .inl g9_70)), (r 3, .inl ((cT 0), 160, .inl f3)), (r 4, .inl ((cT 0), 4, .inl f4)), (r 7, .inl ((cT 0), 1000, .inl g7_76)), (r 0, .inl ((cT 1), 64, .inr (.inl f0))), (r 11, .inl ((cT 0), 16, .inl g11_71))] → va_S A s.heap H locs → lv_has ls 8 [(7, .int (nI q9)), (6, .int (nI i)), (5, .int (nI nb)), (0, .ref mo), (1, .int (nI xn)), (2, .long v), (4, .int (nI yn))] → W p l e ({ frames := 3, cells := 0, slots := 0, locals := 92 } : Room) s m args below meth c H locs 0 0 Q (F0 m 99 ls []) := by
                      intro Q exit j8
                      induction j8 with
                      | zero => 
                        intro q9 g7_76 H locs ls hij hab hP hD hS hl
                        have hij : 16 * i + 16 = q9 := by omega
                        refine lv_iload hx hb d_Md_password_99 (lv_at hl 0 rfl) ?_
                        refine lv_bipush (v := 16) hx hb d_Md_password_101 (by decide) ?_
                        refine lv_iload hx hb d_Md_password_103 (lv_at hl 1 rfl) ?_
                        refine lv_imul hx hb d_Md_password_105 ?_
                        refine lv_topi (fun x79 e78 => ?_)
                        obtain rfl : x79 = nI (16 * i) := by rw [e78]; exact pk_mul 16 i
                        refine lv_bipush (v := 16) hx hb d_Md_password_106 (by decide) ?_
                        refine lv_iadd hx hb d_Md_password_108 ?_
                        refine lv_topi (fun x81 e80 => ?_)
                        obtain rfl : x81 = nI ((16 * i) + 16) := by rw [e80]; exact nI_add (16 * i) 16
                        refine lv_icmp_ge (tgt := 150) hx hb d_Md_password_109 (by decide) (fun hc82 => ?_) (fun hn9 => absurd (nI_le (by omega) (by omega)) hn9)
                        subst hij
                        exact exit g7_76 _ _ _ hab hP hD hS hl
                      | succ j8 ih => 
                        intro q9 g7_76 H locs ls hij hab hP hD hS hl
                        have hlt : q9 < 16 * i + 16 := by omega
                        have hltq9 := hlt
                        refine lv_iload hx hb d_Md_password_99 (lv_at hl 0 rfl) ?_
                        refine lv_bipush (v := 16) hx hb d_Md_password_101 (by decide) ?_
                        refine lv_iload hx hb d_Md_password_103 (lv_at hl 1 rfl) ?_
                        refine lv_imul hx hb d_Md_password_105 ?_
                        refine lv_topi (fun x84 e83 => ?_)
                        obtain rfl : x84 = nI (16 * i) := by rw [e83]; exact pk_mul 16 i
                        refine lv_bipush (v := 16) hx hb d_Md_password_106 (by decide) ?_
                        refine lv_iadd hx hb d_Md_password_108 ?_
                        refine lv_topi (fun x86 e85 => ?_)
                        obtain rfl : x86 = nI ((16 * i) + 16) := by rw [e85]; exact nI_add (16 * i) 16
                        refine lv_icmp_ge (tgt := 150) hx hb d_Md_password_109 (by decide) (fun hn9 => absurd hn9 (nI_ge (by omega) (by omega))) (fun hc87 => ?_)
                        refine lv_aload_n hx hb d_Md_password_112 rfl (lv_at hl 3 rfl) ?_
                        refine lv_iload hx hb d_Md_password_113 (lv_at hl 0 rfl) ?_
                        refine lv_iload hx hb d_Md_password_115 (lv_at hl 6 rfl) ?_
                        refine lv_icmp_ge (tgt := 129) hx hb d_Md_password_117 (by decide) (fun hc88 => ?_) (fun hc88 => ?_)
                        · skip
                          have n89 : yn ≤ q9 := (nI_leI (a := yn) (b := q9) (by omega) (by omega)).mp hc88
                          refine lv_iconst (v := 0) hx hb d_Md_password_129 (by decide) ?_
                          refine lv_aload_n hx hb d_Md_password_130 rfl (lv_at hl 3 rfl) ?_
                          refine va_get (D := (dC, dI)) (ci := 12) (v := (.ref (r 11))) (C := R_Md) (T := F_Md) (N := 45) hx hb hg in_Md hown hK hP 0 rfl rfl 11 (by decide) (hg _ k_1031) (fun _ h9 => h9) rfl d_Md_password_131 ?_
                          refine lv_iload hx hb d_Md_password_134 (lv_at hl 0 rfl) ?_
                          refine lv_bipush (v := 16) hx hb d_Md_password_136 (by decide) ?_
                          refine lv_irem hx hb d_Md_password_138 (by decide) ?_
                          refine lv_topi (fun x92 e91 => ?_)
                          obtain rfl : x92 = nI (q9 % 16) := by rw [e91]; exact pk_rem (d := 16) (by omega) (by decide) (by decide)
                          refine va_iald hx hb hK hP 6 0 rfl rfl (i := (nI (q9 % 16))) (vp_in_nI (N := 16) (by omega) (by decide)) d_Md_password_139 ?_
                          refine lv_topi (fun x93 e_x93 => ?_)
                          clear e_x93
                          refine lv_ixor hx hb d_Md_password_140 ?_
                          have hPc := hP.sub (ws' := [(mo, .inr (12, mdG r 0 tm (nI (sn + 2 + q9)) (nI 0) (nI lz) (nI az) (nI na) (nI nt) (nI nr) mw ml mk dq)), (r 7, .inl ((cT 0), 1000, .inl g7_76))]) [0, 4] rfl
                          have hDc := hD.sub (ws' := [(mo, .inr (12, mdG r 0 tm (nI (sn + 2 + q9)) (nI 0) (nI lz) (nI az) (nI na) (nI nt) (nI nr) mw ml mk dq)), (r 7, .inl ((cT 0), 1000, .inl g7_76))]) [0, 4] (by decide) rfl
                          have hFc := va_free (wc := [(mo, .inr (12, mdG r 0 tm (nI (sn + 2 + q9)) (nI 0) (nI lz) (nI az) (nI na) (nI nt) (nI nr) mw ml mk dq)), (r 7, .inl ((cT 0), 1000, .inl g7_76))]) hD hS hA [0, 4] rfl
                          refine va_callv (va_runV (C := "DoorServerModel") (As := [.int (0 ^^^ x93)]) (rest := []) ⟨hx, hb, hml, hown, hg⟩ (m_add l dC dI cT H.size mo r 0 tm (sn + 2 + q9) 0 lz az na nt nr mw ml mk dq g7_76 (0 ^^^ x93) (by first | assumption | omega) (by first | assumption | omega)) (cwV 1 hg (gI (List.forall_mem_append.mpr ⟨List.forall_mem_cons.mpr ⟨k_1015, List.forall_mem_cons.mpr ⟨k_1017, List.forall_mem_cons.mpr ⟨(big_sel (q := y_Md_add) (n := 45) (by decide +kernel)), List.forall_mem_cons.mpr ⟨k_13, fun _ h => absurd h List.not_mem_nil⟩⟩⟩⟩, List.forall_mem_cons.mpr ⟨k_1018, fun _ h => h⟩⟩)) rfl rfl rfl (by decide +kernel) ⟨Nat.le_of_ble_eq_true rfl, Nat.le_of_ble_eq_true rfl⟩) ⟨fun a U g mk q => by obtain ⟨q0, q1, qP, qK, qD⟩ := q; exact ⟨q0, q1, qP, va_K.moved (u := U) (U := U.calling g mk a) (Vm.Alike.refl U.vm) qK, qD⟩, va_recv (q0 := 0) (ci := 12) hK hP rfl rfl, fun U hU hW => ⟨rfl, by rw [hU], by rw [hU]; exact hPc, va_K.moved hW.alike hK, hDc.weaken (fun _ _ _ _ => trivial)⟩⟩ rfl rfl hl.1 rfl (lv_room (Nat.le_of_ble_eq_true rfl)) d_Md_password_141 ⟨Nat.le_of_ble_eq_true rfl, Nat.le_of_ble_eq_true rfl⟩) hS (fun q _ h => hFc q h) hFc (fun u t H1 locs ht hvm hw hB hz1 hk1 hS => ?_)
                          obtain ⟨g7_94, rfl⟩ : ∃ z, z = u := ⟨_, rfl⟩
                          try dsimp only at hw hB
                          obtain ⟨hP1, hK1, hD1⟩ := hB
                          rw [ht] at hP1
                          obtain ⟨hP, hD⟩ := va_join (wr := [(r 9, .inl ((cT 0), 1400, .inl g9_70)), (r 3, .inl ((cT 0), 160, .inl f3)), (r 4, .inl ((cT 0), 4, .inl f4)), (r 0, .inl ((cT 1), 64, .inr (.inl f0))), (r 11, .inl ((cT 0), 16, .inl g11_71))]) (w1 := [(mo, .inr (12, mdG r 0 tm (nI ((sn + 2 + q9) + 1)) (nI 0) (nI lz) (nI az) (nI na) (nI nt) (nI nr) mw ml mk dq)), (r 7, .inl ((cT 0), 1000, .inl g7_94))]) hP hD [0, 4] [1, 2, 3, 5, 6] rfl rfl (by decide) (by decide) hk1 hFc hP1 hD1
                          have hw95 := hw
                          clear hPc hDc hFc hz1 hk1 hP1 hK1 hD1
                          generalize H1 = H at hP hS ⊢
                          have hP : va_P (dC, dI) vcl [(r 9, .inl ((cT 0), 1400, .inl g9_70)), (r 3, .inl ((cT 0), 160, .inl f3)), (r 4, .inl ((cT 0), 4, .inl f4)), (r 0, .inl ((cT 1), 64, .inr (.inl f0))), (r 11, .inl ((cT 0), 16, .inl g11_71)), (mo, .inr (12, mdG r 0 tm (nI ((sn + 2 + q9) + 1)) (nI 0) (nI lz) (nI az) (nI na) (nI nt) (nI nr) mw ml mk dq)), (r 7, .inl ((cT 0), 1000, .inl g7_94))] H := hP
                          have hD : va_D A [(r 9, .inl ((cT 0), 1400, .inl g9_70)), (r 3, .inl ((cT 0), 160, .inl f3)), (r 4, .inl ((cT 0), 4, .inl f4)), (r 0, .inl ((cT 1), 64, .inr (.inl f0))), (r 11, .inl ((cT 0), 16, .inl g11_71)), (mo, .inr (12, mdG r 0 tm (nI ((sn + 2 + q9) + 1)) (nI 0) (nI lz) (nI az) (nI na) (nI nt) (nI nr) mw ml mk dq)), (r 7, .inl ((cT 0), 1000, .inl g7_94))] := hD
                          have k96 := hw95
                          refine lv_iinc (k := 0) (v := nI (q9 + 1)) (lv' := [(7, .int (nI (q9 + 1))), (6, .int (nI i)), (5, .int (nI nb)), (0, .ref mo), (1, .int (nI xn)), (2, .long v), (4, .int (nI yn))]) hx hb d_Md_password_144 hl rfl (nI_1 q9) (by decide) rfl (fun ls hl => ?_)
                          refine lv_goto (tgt := 99) hx hb d_Md_password_147 (by decide) ?_
                          have hl := lv_sub hl [0, 1, 2, 3, 4, 5, 6] (show _ = [(7, .int (nI (q9 + 1))), (6, .int (nI i)), (5, .int (nI nb)), (0, .ref mo), (1, .int (nI xn)), (2, .long v), (4, .int (nI yn))] from rfl)
                          have hP := hP.sub (ws' := [(mo, .inr (12, mdG r 0 tm (nI ((sn + 2 + q9) + 1)) (nI 0) (nI lz) (nI az) (nI na) (nI nt) (nI nr) mw ml mk dq)), (r 9, .inl ((cT 0), 1400, .inl g9_70)), (r 3, .inl ((cT 0), 160, .inl f3)), (r 4, .inl ((cT 0), 4, .inl f4)), (r 7, .inl ((cT 0), 1000, .inl g7_94)), (r 0, .inl ((cT 1), 64, .inr (.inl f0))), (r 11, .inl ((cT 0), 16, .inl g11_71))]) [5, 0, 1, 2, 6, 3, 4] rfl
                          have hD := hD.sub (ws' := [(mo, .inr (12, mdG r 0 tm (nI ((sn + 2 + q9) + 1)) (nI 0) (nI lz) (nI az) (nI na) (nI nt) (nI nr) mw ml mk dq)), (r 9, .inl ((cT 0), 1400, .inl g9_70)), (r 3, .inl ((cT 0), 160, .inl f3)), (r 4, .inl ((cT 0), 4, .inl f4)), (r 7, .inl ((cT 0), 1000, .inl g7_94)), (r 0, .inl ((cT 1), 64, .inr (.inl f0))), (r 11, .inl ((cT 0), 16, .inl g11_71))]) [5, 0, 1, 2, 6, 3, 4] (by decide) rfl
                          exact ih (q9 + 1) _ _ _ _ (by omega) (by first | assumption | omega) hP hD hS hl
                        · skip
                          have n90 : q9 < yn := Nat.not_le.mp (fun h7 => hc88 ((nI_leI (a := yn) (b := q9) (by omega) (by omega)).mpr h7))
                          refine lv_lload_n hx hb d_Md_password_120 rfl (lv_at hl 5 rfl) ?_
                          refine lv_iload hx hb d_Md_password_121 (lv_at hl 0 rfl) ?_
                          have hPc := hP.sub (ws' := []) [] rfl
                          have hDc := hD.sub (ws' := []) [] (by decide) rfl
                          have hFc := va_free (wc := []) hD hS hA [] rfl
                          refine va_calli (va_runS (As := [.long v, .int (nI q9)]) (rest := [.ref mo]) ⟨hx, hb, hml, hown, hg⟩ (m_letter l dC dI cT H.size v (nI q9) ) (va_cwS 2 hg (gI (List.forall_mem_append.mpr ⟨List.forall_mem_cons.mpr ⟨k_1169, List.forall_mem_cons.mpr ⟨k_1170, List.forall_mem_cons.mpr ⟨k_13, fun _ h => absurd h List.not_mem_nil⟩⟩⟩, List.forall_mem_cons.mpr ⟨k_1171, fun _ h => h⟩⟩)) rfl rfl rfl (by decide +kernel) ⟨Nat.le_of_ble_eq_true rfl, Nat.le_of_ble_eq_true rfl⟩) ⟨fun a U g mk q => by obtain ⟨q0, q1, qP, qK, qD⟩ := q; exact ⟨q0, q1, qP, va_K.moved (u := U) (U := U.calling g mk a) (Vm.Alike.refl U.vm) qK, qD⟩, fun U hU hW => ⟨rfl, by rw [hU], by rw [hU]; exact hPc, va_K.moved hW.alike hK, hDc.weaken (fun _ _ _ _ => trivial)⟩⟩ rfl rfl hl.1 rfl (lv_room (Nat.le_of_ble_eq_true rfl)) d_Md_password_123 ⟨Nat.le_of_ble_eq_true rfl, Nat.le_of_ble_eq_true rfl⟩) hS (fun q _ h => hFc q h) hFc (fun rv9 u t H1 locs ht hvm hw hB hz1 hk1 hS => ?_)
                          try dsimp only at hw hB
                          obtain ⟨hP1, hK1, hD1⟩ := hB
                          rw [ht] at hP1
                          generalize rv9 = r97 at hw ⊢
                          obtain ⟨hP, hD⟩ := va_join (wr := [(mo, .inr (12, mdG r 0 tm (nI (sn + 2 + q9)) (nI 0) (nI lz) (nI az) (nI na) (nI nt) (nI nr) mw ml mk dq)), (r 9, .inl ((cT 0), 1400, .inl g9_70)), (r 3, .inl ((cT 0), 160, .inl f3)), (r 4, .inl ((cT 0), 4, .inl f4)), (r 7, .inl ((cT 0), 1000, .inl g7_76)), (r 0, .inl ((cT 1), 64, .inr (.inl f0))), (r 11, .inl ((cT 0), 16, .inl g11_71))]) (w1 := []) hP hD [] [0, 1, 2, 3, 4, 5, 6] rfl rfl (by decide) (by decide) hk1 hFc hP1 hD1
                          have hw98 := hw
                          clear hPc hDc hFc hz1 hk1 hP1 hK1 hD1
                          generalize H1 = H at hP hS ⊢
                          have hP : va_P (dC, dI) vcl [(mo, .inr (12, mdG r 0 tm (nI (sn + 2 + q9)) (nI 0) (nI lz) (nI az) (nI na) (nI nt) (nI nr) mw ml mk dq)), (r 9, .inl ((cT 0), 1400, .inl g9_70)), (r 3, .inl ((cT 0), 160, .inl f3)), (r 4, .inl ((cT 0), 4, .inl f4)), (r 7, .inl ((cT 0), 1000, .inl g7_76)), (r 0, .inl ((cT 1), 64, .inr (.inl f0))), (r 11, .inl ((cT 0), 16, .inl g11_71))] H := hP
                          have hD : va_D A [(mo, .inr (12, mdG r 0 tm (nI (sn + 2 + q9)) (nI 0) (nI lz) (nI az) (nI na) (nI nt) (nI nr) mw ml mk dq)), (r 9, .inl ((cT 0), 1400, .inl g9_70)), (r 3, .inl ((cT 0), 160, .inl f3)), (r 4, .inl ((cT 0), 4, .inl f4)), (r 7, .inl ((cT 0), 1000, .inl g7_76)), (r 0, .inl ((cT 1), 64, .inr (.inl f0))), (r 11, .inl ((cT 0), 16, .inl g11_71))] := hD
                          refine lv_goto (tgt := 130) hx hb d_Md_password_126 (by decide) ?_
                          refine lv_aload_n hx hb d_Md_password_130 rfl (lv_at hl 3 rfl) ?_
                          refine va_get (D := (dC, dI)) (ci := 12) (v := (.ref (r 11))) (C := R_Md) (T := F_Md) (N := 45) hx hb hg in_Md hown hK hP 0 rfl rfl 11 (by decide) (hg _ k_1031) (fun _ h9 => h9) rfl d_Md_password_131 ?_
                          refine lv_iload hx hb d_Md_password_134 (lv_at hl 0 rfl) ?_
                          refine lv_bipush (v := 16) hx hb d_Md_password_136 (by decide) ?_
                          refine lv_irem hx hb d_Md_password_138 (by decide) ?_
                          refine lv_topi (fun x100 e99 => ?_)
                          obtain rfl : x100 = nI (q9 % 16) := by rw [e99]; exact pk_rem (d := 16) (by omega) (by decide) (by decide)
                          refine va_iald hx hb hK hP 6 0 rfl rfl (i := (nI (q9 % 16))) (vp_in_nI (N := 16) (by omega) (by decide)) d_Md_password_139 ?_
                          refine lv_topi (fun x101 e_x101 => ?_)
                          clear e_x101
                          refine lv_ixor hx hb d_Md_password_140 ?_
                          have hPc := hP.sub (ws' := [(mo, .inr (12, mdG r 0 tm (nI (sn + 2 + q9)) (nI 0) (nI lz) (nI az) (nI na) (nI nt) (nI nr) mw ml mk dq)), (r 7, .inl ((cT 0), 1000, .inl g7_76))]) [0, 4] rfl
                          have hDc := hD.sub (ws' := [(mo, .inr (12, mdG r 0 tm (nI (sn + 2 + q9)) (nI 0) (nI lz) (nI az) (nI na) (nI nt) (nI nr) mw ml mk dq)), (r 7, .inl ((cT 0), 1000, .inl g7_76))]) [0, 4] (by decide) rfl
                          have hFc := va_free (wc := [(mo, .inr (12, mdG r 0 tm (nI (sn + 2 + q9)) (nI 0) (nI lz) (nI az) (nI na) (nI nt) (nI nr) mw ml mk dq)), (r 7, .inl ((cT 0), 1000, .inl g7_76))]) hD hS hA [0, 4] rfl
                          refine va_callv (va_runV (C := "DoorServerModel") (As := [.int (r97 ^^^ x101)]) (rest := []) ⟨hx, hb, hml, hown, hg⟩ (m_add l dC dI cT H.size mo r 0 tm (sn + 2 + q9) 0 lz az na nt nr mw ml mk dq g7_76 (r97 ^^^ x101) (by first | assumption | omega) (by first | assumption | omega)) (cwV 1 hg (gI (List.forall_mem_append.mpr ⟨List.forall_mem_cons.mpr ⟨k_1015, List.forall_mem_cons.mpr ⟨k_1017, List.forall_mem_cons.mpr ⟨(big_sel (q := y_Md_add) (n := 45) (by decide +kernel)), List.forall_mem_cons.mpr ⟨k_13, fun _ h => absurd h List.not_mem_nil⟩⟩⟩⟩, List.forall_mem_cons.mpr ⟨k_1018, fun _ h => h⟩⟩)) rfl rfl rfl (by decide +kernel) ⟨Nat.le_of_ble_eq_true rfl, Nat.le_of_ble_eq_true rfl⟩) ⟨fun a U g mk q => by obtain ⟨q0, q1, qP, qK, qD⟩ := q; exact ⟨q0, q1, qP, va_K.moved (u := U) (U := U.calling g mk a) (Vm.Alike.refl U.vm) qK, qD⟩, va_recv (q0 := 0) (ci := 12) hK hP rfl rfl, fun U hU hW => ⟨rfl, by rw [hU], by rw [hU]; exact hPc, va_K.moved hW.alike hK, hDc.weaken (fun _ _ _ _ => trivial)⟩⟩ rfl rfl hl.1 rfl (lv_room (Nat.le_of_ble_eq_true rfl)) d_Md_password_141 ⟨Nat.le_of_ble_eq_true rfl, Nat.le_of_ble_eq_true rfl⟩) hS (fun q _ h => hFc q h) hFc (fun u t H1 locs ht hvm hw hB hz1 hk1 hS => ?_)
                          obtain ⟨g7_102, rfl⟩ : ∃ z, z = u := ⟨_, rfl⟩
                          try dsimp only at hw hB
                          obtain ⟨hP1, hK1, hD1⟩ := hB
                          rw [ht] at hP1
                          obtain ⟨hP, hD⟩ := va_join (wr := [(r 9, .inl ((cT 0), 1400, .inl g9_70)), (r 3, .inl ((cT 0), 160, .inl f3)), (r 4, .inl ((cT 0), 4, .inl f4)), (r 0, .inl ((cT 1), 64, .inr (.inl f0))), (r 11, .inl ((cT 0), 16, .inl g11_71))]) (w1 := [(mo, .inr (12, mdG r 0 tm (nI ((sn + 2 + q9) + 1)) (nI 0) (nI lz) (nI az) (nI na) (nI nt) (nI nr) mw ml mk dq)), (r 7, .inl ((cT 0), 1000, .inl g7_102))]) hP hD [0, 4] [1, 2, 3, 5, 6] rfl rfl (by decide) (by decide) hk1 hFc hP1 hD1
                          have hw103 := hw
                          clear hPc hDc hFc hz1 hk1 hP1 hK1 hD1
                          generalize H1 = H at hP hS ⊢
                          have hP : va_P (dC, dI) vcl [(r 9, .inl ((cT 0), 1400, .inl g9_70)), (r 3, .inl ((cT 0), 160, .inl f3)), (r 4, .inl ((cT 0), 4, .inl f4)), (r 0, .inl ((cT 1), 64, .inr (.inl f0))), (r 11, .inl ((cT 0), 16, .inl g11_71)), (mo, .inr (12, mdG r 0 tm (nI ((sn + 2 + q9) + 1)) (nI 0) (nI lz) (nI az) (nI na) (nI nt) (nI nr) mw ml mk dq)), (r 7, .inl ((cT 0), 1000, .inl g7_102))] H := hP
                          have hD : va_D A [(r 9, .inl ((cT 0), 1400, .inl g9_70)), (r 3, .inl ((cT 0), 160, .inl f3)), (r 4, .inl ((cT 0), 4, .inl f4)), (r 0, .inl ((cT 1), 64, .inr (.inl f0))), (r 11, .inl ((cT 0), 16, .inl g11_71)), (mo, .inr (12, mdG r 0 tm (nI ((sn + 2 + q9) + 1)) (nI 0) (nI lz) (nI az) (nI na) (nI nt) (nI nr) mw ml mk dq)), (r 7, .inl ((cT 0), 1000, .inl g7_102))] := hD
                          have k104 := hw103
                          refine lv_iinc (k := 0) (v := nI (q9 + 1)) (lv' := [(7, .int (nI (q9 + 1))), (6, .int (nI i)), (5, .int (nI nb)), (0, .ref mo), (1, .int (nI xn)), (2, .long v), (4, .int (nI yn))]) hx hb d_Md_password_144 hl rfl (nI_1 q9) (by decide) rfl (fun ls hl => ?_)
                          refine lv_goto (tgt := 99) hx hb d_Md_password_147 (by decide) ?_
                          have hl := lv_sub hl [0, 1, 2, 3, 4, 5, 6] (show _ = [(7, .int (nI (q9 + 1))), (6, .int (nI i)), (5, .int (nI nb)), (0, .ref mo), (1, .int (nI xn)), (2, .long v), (4, .int (nI yn))] from rfl)
                          have hP := hP.sub (ws' := [(mo, .inr (12, mdG r 0 tm (nI ((sn + 2 + q9) + 1)) (nI 0) (nI lz) (nI az) (nI na) (nI nt) (nI nr) mw ml mk dq)), (r 9, .inl ((cT 0), 1400, .inl g9_70)), (r 3, .inl ((cT 0), 160, .inl f3)), (r 4, .inl ((cT 0), 4, .inl f4)), (r 7, .inl ((cT 0), 1000, .inl g7_102)), (r 0, .inl ((cT 1), 64, .inr (.inl f0))), (r 11, .inl ((cT 0), 16, .inl g11_71))]) [5, 0, 1, 2, 6, 3, 4] rfl
                          have hD := hD.sub (ws' := [(mo, .inr (12, mdG r 0 tm (nI ((sn + 2 + q9) + 1)) (nI 0) (nI lz) (nI az) (nI na) (nI nt) (nI nr) mw ml mk dq)), (r 9, .inl ((cT 0), 1400, .inl g9_70)), (r 3, .inl ((cT 0), 160, .inl f3)), (r 4, .inl ((cT 0), 4, .inl f4)), (r 7, .inl ((cT 0), 1000, .inl g7_102)), (r 0, .inl ((cT 1), 64, .inr (.inl f0))), (r 11, .inl ((cT 0), 16, .inl g11_71))]) [5, 0, 1, 2, 6, 3, 4] (by decide) rfl
                          exact ih (q9 + 1) _ _ _ _ (by omega) (by first | assumption | omega) hP hD hS hl
                    refine L77 _ (fun g7_76 H locs ls hab hP hD hS hl => ?_) (16 * i + 16 - (16 * i)) (16 * i) g7_59 H _ ls (by omega) (by first | assumption | omega) hP hD hS hl
                    refine lv_iinc (k := 1) (v := nI (i + 1)) (lv' := [(6, .int (nI (i + 1))), (7, .int (nI (16 * i + 16))), (5, .int (nI nb)), (0, .ref mo), (1, .int (nI xn)), (2, .long v), (4, .int (nI yn))]) hx hb d_Md_password_150 hl rfl (nI_1 i) (by decide) rfl (fun ls hl => ?_)
                    refine lv_goto (tgt := 64) hx hb d_Md_password_153 (by decide) ?_
                    have hl := lv_sub hl [0, 2, 3, 4, 5, 6] (show _ = [(6, .int (nI (i + 1))), (5, .int (nI nb)), (0, .ref mo), (1, .int (nI xn)), (2, .long v), (4, .int (nI yn))] from rfl)
                    have hP := hP.sub (ws' := [(r 9, .inl ((cT 0), 1400, .inl g9_70)), (r 3, .inl ((cT 0), 160, .inl f3)), (r 4, .inl ((cT 0), 4, .inl f4)), (r 0, .inl ((cT 1), 64, .inr (.inl f0))), (r 11, .inl ((cT 0), 16, .inl g11_71)), (mo, .inr (12, mdG r 0 tm (nI (sn + 2 + (16 * i + 16))) (nI 0) (nI lz) (nI az) (nI na) (nI nt) (nI nr) mw ml mk dq)), (r 7, .inl ((cT 0), 1000, .inl g7_76))]) [1, 2, 3, 5, 6, 0, 4] rfl
                    have hD := hD.sub (ws' := [(r 9, .inl ((cT 0), 1400, .inl g9_70)), (r 3, .inl ((cT 0), 160, .inl f3)), (r 4, .inl ((cT 0), 4, .inl f4)), (r 0, .inl ((cT 1), 64, .inr (.inl f0))), (r 11, .inl ((cT 0), 16, .inl g11_71)), (mo, .inr (12, mdG r 0 tm (nI (sn + 2 + (16 * i + 16))) (nI 0) (nI lz) (nI az) (nI na) (nI nt) (nI nr) mw ml mk dq)), (r 7, .inl ((cT 0), 1000, .inl g7_76))]) [1, 2, 3, 5, 6, 0, 4] (by decide) rfl
                    rw [show sn + 2 + (16 * i + 16) = sn + 2 + 16 * (i + 1) by omega] at hP hD
                    exact ih (i + 1) _ _ _ _ _ _ (by omega) (by first | assumption | omega) (by first | assumption | omega) hP hD hS hl
                  · skip
                    have n67 : i = 0 := (nI_eq (a := i) (b := 0) (by omega) (by omega)).mp hc65
                    refine lv_iconst (v := 4) hx hb d_Md_password_78 (by decide) ?_
                    refine lv_goto (tgt := 89) hx hb d_Md_password_79 (by decide) ?_
                    refine lv_topi (fun x106 e105 => ?_)
                    obtain rfl : x106 = nI 4 := by rw [e105]; rfl
                    have hPc := hP.sub (ws' := [(mo, .inr (12, mdG r 0 tm (nI (sn + 2 + 16 * i)) (nI 0) (nI lz) (nI az) (nI na) (nI nt) (nI nr) mw ml mk dq)), (r 9, .inl ((cT 0), 1400, .inl g9_60)), (r 3, .inl ((cT 0), 160, .inl f3)), (r 4, .inl ((cT 0), 4, .inl f4)), (r 7, .inl ((cT 0), 1000, .inl g7_59)), (r 0, .inl ((cT 1), 64, .inr (.inl f0))), (r 11, .inl ((cT 0), 16, .inl g11_61))]) [5, 0, 1, 2, 6, 3, 4] rfl
                    have hDc := hD.sub (ws' := [(mo, .inr (12, mdG r 0 tm (nI (sn + 2 + 16 * i)) (nI 0) (nI lz) (nI az) (nI na) (nI nt) (nI nr) mw ml mk dq)), (r 9, .inl ((cT 0), 1400, .inl g9_60)), (r 3, .inl ((cT 0), 160, .inl f3)), (r 4, .inl ((cT 0), 4, .inl f4)), (r 7, .inl ((cT 0), 1000, .inl g7_59)), (r 0, .inl ((cT 1), 64, .inr (.inl f0))), (r 11, .inl ((cT 0), 16, .inl g11_61))]) [5, 0, 1, 2, 6, 3, 4] (by decide) rfl
                    have hFc := va_free (wc := [(mo, .inr (12, mdG r 0 tm (nI (sn + 2 + 16 * i)) (nI 0) (nI lz) (nI az) (nI na) (nI nt) (nI nr) mw ml mk dq)), (r 9, .inl ((cT 0), 1400, .inl g9_60)), (r 3, .inl ((cT 0), 160, .inl f3)), (r 4, .inl ((cT 0), 4, .inl f4)), (r 7, .inl ((cT 0), 1000, .inl g7_59)), (r 0, .inl ((cT 1), 64, .inr (.inl f0))), (r 11, .inl ((cT 0), 16, .inl g11_61))]) hD hS hA [5, 0, 1, 2, 6, 3, 4] rfl
                    refine va_callv (va_runV (C := "DoorServerModel") (As := [.int (nI xn), .int (nI 4)]) (rest := []) ⟨hx, hb, hml, hown, hg⟩ (m_cover l dC dI cT H.size mo r 0 tm (sn + 2 + 16 * i) 0 lz az na nt nr mw ml mk dq g9_60 f3 f4 g7_59 f0 g11_61 xn sl 4 (by first | assumption | omega) (by first | assumption | omega) (by first | assumption | omega) (by first | assumption | omega) (by first | assumption | omega) (by first | assumption | omega)) (cwV 2 hg (gI (List.forall_mem_append.mpr ⟨List.forall_mem_cons.mpr ⟨k_1212, List.forall_mem_cons.mpr ⟨k_1214, List.forall_mem_cons.mpr ⟨(big_sel (q := y_Md_cover) (n := 45) (by decide +kernel)), List.forall_mem_cons.mpr ⟨k_13, fun _ h => absurd h List.not_mem_nil⟩⟩⟩⟩, List.forall_mem_cons.mpr ⟨k_1215, fun _ h => h⟩⟩)) rfl rfl rfl (by decide +kernel) ⟨Nat.le_of_ble_eq_true rfl, Nat.le_of_ble_eq_true rfl⟩) ⟨fun a U g mk q => by obtain ⟨q0, q1, qP, qK, qD⟩ := q; exact ⟨q0, q1, qP, va_K.moved (u := U) (U := U.calling g mk a) (Vm.Alike.refl U.vm) qK, qD⟩, va_recv (q0 := 5) (ci := 12) hK hP rfl rfl, fun U hU hW => ⟨rfl, by rw [hU], by rw [hU]; exact hPc, va_K.moved hW.alike hK, hDc.weaken (fun _ _ _ _ => trivial)⟩⟩ rfl rfl hl.1 rfl (lv_room (Nat.le_of_ble_eq_true rfl)) d_Md_password_89 ⟨Nat.le_of_ble_eq_true rfl, Nat.le_of_ble_eq_true rfl⟩) hS (fun q _ h => hFc q h) hFc (fun u t H1 locs ht hvm hw hB hz1 hk1 hS => ?_)
                    obtain ⟨g9_107, g11_108⟩ := u
                    try dsimp only at hw hB
                    obtain ⟨hP1, hK1, hD1⟩ := hB
                    rw [ht] at hP1
                    obtain ⟨hP, hD⟩ := va_join (wr := []) (w1 := [(mo, .inr (12, mdG r 0 tm (nI (sn + 2 + 16 * i)) (nI 0) (nI lz) (nI az) (nI na) (nI nt) (nI nr) mw ml mk dq)), (r 9, .inl ((cT 0), 1400, .inl g9_107)), (r 3, .inl ((cT 0), 160, .inl f3)), (r 4, .inl ((cT 0), 4, .inl f4)), (r 7, .inl ((cT 0), 1000, .inl g7_59)), (r 0, .inl ((cT 1), 64, .inr (.inl f0))), (r 11, .inl ((cT 0), 16, .inl g11_108))]) hP hD [5, 0, 1, 2, 6, 3, 4] [] rfl rfl (by decide) (by decide) hk1 hFc hP1 hD1
                    have hw109 := hw
                    clear hPc hDc hFc hz1 hk1 hP1 hK1 hD1
                    generalize H1 = H at hP hS ⊢
                    have hP : va_P (dC, dI) vcl [(mo, .inr (12, mdG r 0 tm (nI (sn + 2 + 16 * i)) (nI 0) (nI lz) (nI az) (nI na) (nI nt) (nI nr) mw ml mk dq)), (r 9, .inl ((cT 0), 1400, .inl g9_107)), (r 3, .inl ((cT 0), 160, .inl f3)), (r 4, .inl ((cT 0), 4, .inl f4)), (r 7, .inl ((cT 0), 1000, .inl g7_59)), (r 0, .inl ((cT 1), 64, .inr (.inl f0))), (r 11, .inl ((cT 0), 16, .inl g11_108))] H := hP
                    have hD : va_D A [(mo, .inr (12, mdG r 0 tm (nI (sn + 2 + 16 * i)) (nI 0) (nI lz) (nI az) (nI na) (nI nt) (nI nr) mw ml mk dq)), (r 9, .inl ((cT 0), 1400, .inl g9_107)), (r 3, .inl ((cT 0), 160, .inl f3)), (r 4, .inl ((cT 0), 4, .inl f4)), (r 7, .inl ((cT 0), 1000, .inl g7_59)), (r 0, .inl ((cT 1), 64, .inr (.inl f0))), (r 11, .inl ((cT 0), 16, .inl g11_108))] := hD
                    have k110 := hw109
                    refine lv_bipush (v := 16) hx hb d_Md_password_92 (by decide) ?_
                    refine lv_iload hx hb d_Md_password_94 (lv_at hl 0 rfl) ?_
                    refine lv_imul hx hb d_Md_password_96 ?_
                    refine lv_topi (fun x112 e111 => ?_)
                    obtain rfl : x112 = nI (16 * i) := by rw [e111]; exact pk_mul 16 i
                    refine lv_istore (lv' := [(7, .int (nI (16 * i))), (6, .int (nI i)), (5, .int (nI nb)), (0, .ref mo), (1, .int (nI xn)), (2, .long v), (4, .int (nI yn))]) hx hb d_Md_password_97 hl (by decide) rfl (fun ls hl => ?_)
                    have hl := lv_sub hl [0, 1, 2, 3, 4, 5, 6] (show _ = [(7, .int (nI (16 * i))), (6, .int (nI i)), (5, .int (nI nb)), (0, .ref mo), (1, .int (nI xn)), (2, .long v), (4, .int (nI yn))] from rfl)
                    have L114 : ∀ (Q : State → Prop) (exit : ∀ (g7_113 : Nat → Int32) (H : Heap) (locs : List Loc) (ls : Array Slot), (AB g7_113) → va_P (dC, dI) vcl [(mo, .inr (12, mdG r 0 tm (nI (sn + 2 + (16 * i + 16))) (nI 0) (nI lz) (nI az) (nI na) (nI nt) (nI nr) mw ml mk dq)), (r 9, .inl ((cT 0), 1400, .inl g9_107)), (r 3, .inl ((cT 0), 160, .inl f3)), (r 4, .inl ((cT 0), 4, .inl f4)), (r 7, .inl ((cT 0), 1000, .inl g7_113)), (r 0, .inl ((cT 1), 64, .inr (.inl f0))), (r 11, .inl ((cT 0), 16, .inl g11_108))] H → va_D A [(mo, .inr (12, mdG r 0 tm (nI (sn + 2 + (16 * i + 16))) (nI 0) (nI lz) (nI az) (nI na) (nI nt) (nI nr) mw ml mk dq)), (r 9, .inl ((cT 0), 1400, .inl g9_107)), (r 3, .inl ((cT 0), 160, .inl f3)), (r 4, .inl ((cT 0), 4, .inl f4)), (r 7, .inl ((cT 0), 1000, .inl g7_113)), (r 0, .inl ((cT 1), 64, .inr (.inl f0))), (r 11, .inl ((cT 0), 16, .inl g11_108))] → va_S A s.heap H locs → lv_has ls 8 [(7, .int (nI (16 * i + 16))), (6, .int (nI i)), (5, .int (nI nb)), (0, .ref mo), (1, .int (nI xn)), (2, .long v), (4, .int (nI yn))] → W p l e ({ frames := 3, cells := 0, slots := 0, locals := 92 } : Room) s m args below meth c H locs 0 0 Q (F0 m 150 ls [])) (j8 q9 : Nat) (g7_113 : Nat → Int32) (H : Heap) (locs : List Loc) (ls : Array Slot), q9 + j8 = 16 * i + 16 → (AB g7_113) → va_P (dC, dI) vcl [(mo, .inr (12, mdG r 0 tm (nI (sn + 2 + q9)) (nI 0) (nI lz) (nI az) (nI na) (nI nt) (nI nr) mw ml mk dq)), (r 9, .inl ((cT 0), 1400, .inl g9_107)), (r 3, .inl ((cT 0), 160, .inl f3)), (r 4, .inl ((cT 0), 4, .inl f4)), (r 7, .inl ((cT 0), 1000, .inl g7_113)), (r 0, .inl ((cT 1), 64, .inr (.inl f0))), (r 11, .inl ((cT 0), 16, .inl g11_108))] H → va_D A [(mo, .inr (12, mdG r 0 tm (nI (sn + 2 + q9)) (nI 0) (nI lz) (nI az) (nI na) (nI nt) (nI nr) mw ml mk dq)), (r 9, .inl ((cT 0), 1400, .inl g9_107)), (r 3, .inl ((cT 0), 160, .inl f3)), (r 4, .inl ((cT 0), 4, .inl f4)), (r 7, .inl ((cT 0), 1000, .inl g7_113)), (r 0, .inl ((cT 1), 64, .inr (.inl f0))), (r 11, .inl ((cT 0), 16, .inl g11_108))] → va_S A s.heap H locs → lv_has ls 8 [(7, .int (nI q9)), (6, .int (nI i)), (5, .int (nI nb)), (0, .ref mo), (1, .int (nI xn)), (2, .long v), (4, .int (nI yn))] → W p l e ({ frames := 3, cells := 0, slots := 0, locals := 92 } : Room) s m args below meth c H locs 0 0 Q (F0 m 99 ls []) := by
                      intro Q exit j8
                      induction j8 with
                      | zero => 
                        intro q9 g7_113 H locs ls hij hab hP hD hS hl
                        have hij : 16 * i + 16 = q9 := by omega
                        refine lv_iload hx hb d_Md_password_99 (lv_at hl 0 rfl) ?_
                        refine lv_bipush (v := 16) hx hb d_Md_password_101 (by decide) ?_
                        refine lv_iload hx hb d_Md_password_103 (lv_at hl 1 rfl) ?_
                        refine lv_imul hx hb d_Md_password_105 ?_
                        refine lv_topi (fun x116 e115 => ?_)
                        obtain rfl : x116 = nI (16 * i) := by rw [e115]; exact pk_mul 16 i
                        refine lv_bipush (v := 16) hx hb d_Md_password_106 (by decide) ?_
                        refine lv_iadd hx hb d_Md_password_108 ?_
                        refine lv_topi (fun x118 e117 => ?_)
                        obtain rfl : x118 = nI ((16 * i) + 16) := by rw [e117]; exact nI_add (16 * i) 16
                        refine lv_icmp_ge (tgt := 150) hx hb d_Md_password_109 (by decide) (fun hc119 => ?_) (fun hn9 => absurd (nI_le (by omega) (by omega)) hn9)
                        subst hij
                        exact exit g7_113 _ _ _ hab hP hD hS hl
                      | succ j8 ih => 
                        intro q9 g7_113 H locs ls hij hab hP hD hS hl
                        have hlt : q9 < 16 * i + 16 := by omega
                        have hltq9 := hlt
                        refine lv_iload hx hb d_Md_password_99 (lv_at hl 0 rfl) ?_
                        refine lv_bipush (v := 16) hx hb d_Md_password_101 (by decide) ?_
                        refine lv_iload hx hb d_Md_password_103 (lv_at hl 1 rfl) ?_
                        refine lv_imul hx hb d_Md_password_105 ?_
                        refine lv_topi (fun x121 e120 => ?_)
                        obtain rfl : x121 = nI (16 * i) := by rw [e120]; exact pk_mul 16 i
                        refine lv_bipush (v := 16) hx hb d_Md_password_106 (by decide) ?_
                        refine lv_iadd hx hb d_Md_password_108 ?_
                        refine lv_topi (fun x123 e122 => ?_)
                        obtain rfl : x123 = nI ((16 * i) + 16) := by rw [e122]; exact nI_add (16 * i) 16
                        refine lv_icmp_ge (tgt := 150) hx hb d_Md_password_109 (by decide) (fun hn9 => absurd hn9 (nI_ge (by omega) (by omega))) (fun hc124 => ?_)
                        refine lv_aload_n hx hb d_Md_password_112 rfl (lv_at hl 3 rfl) ?_
                        refine lv_iload hx hb d_Md_password_113 (lv_at hl 0 rfl) ?_
                        refine lv_iload hx hb d_Md_password_115 (lv_at hl 6 rfl) ?_
                        refine lv_icmp_ge (tgt := 129) hx hb d_Md_password_117 (by decide) (fun hc125 => ?_) (fun hc125 => ?_)
                        · skip
                          have n126 : yn ≤ q9 := (nI_leI (a := yn) (b := q9) (by omega) (by omega)).mp hc125
                          refine lv_iconst (v := 0) hx hb d_Md_password_129 (by decide) ?_
                          refine lv_aload_n hx hb d_Md_password_130 rfl (lv_at hl 3 rfl) ?_
                          refine va_get (D := (dC, dI)) (ci := 12) (v := (.ref (r 11))) (C := R_Md) (T := F_Md) (N := 45) hx hb hg in_Md hown hK hP 0 rfl rfl 11 (by decide) (hg _ k_1031) (fun _ h9 => h9) rfl d_Md_password_131 ?_
                          refine lv_iload hx hb d_Md_password_134 (lv_at hl 0 rfl) ?_
                          refine lv_bipush (v := 16) hx hb d_Md_password_136 (by decide) ?_
                          refine lv_irem hx hb d_Md_password_138 (by decide) ?_
                          refine lv_topi (fun x129 e128 => ?_)
                          obtain rfl : x129 = nI (q9 % 16) := by rw [e128]; exact pk_rem (d := 16) (by omega) (by decide) (by decide)
                          refine va_iald hx hb hK hP 6 0 rfl rfl (i := (nI (q9 % 16))) (vp_in_nI (N := 16) (by omega) (by decide)) d_Md_password_139 ?_
                          refine lv_topi (fun x130 e_x130 => ?_)
                          clear e_x130
                          refine lv_ixor hx hb d_Md_password_140 ?_
                          have hPc := hP.sub (ws' := [(mo, .inr (12, mdG r 0 tm (nI (sn + 2 + q9)) (nI 0) (nI lz) (nI az) (nI na) (nI nt) (nI nr) mw ml mk dq)), (r 7, .inl ((cT 0), 1000, .inl g7_113))]) [0, 4] rfl
                          have hDc := hD.sub (ws' := [(mo, .inr (12, mdG r 0 tm (nI (sn + 2 + q9)) (nI 0) (nI lz) (nI az) (nI na) (nI nt) (nI nr) mw ml mk dq)), (r 7, .inl ((cT 0), 1000, .inl g7_113))]) [0, 4] (by decide) rfl
                          have hFc := va_free (wc := [(mo, .inr (12, mdG r 0 tm (nI (sn + 2 + q9)) (nI 0) (nI lz) (nI az) (nI na) (nI nt) (nI nr) mw ml mk dq)), (r 7, .inl ((cT 0), 1000, .inl g7_113))]) hD hS hA [0, 4] rfl
                          refine va_callv (va_runV (C := "DoorServerModel") (As := [.int (0 ^^^ x130)]) (rest := []) ⟨hx, hb, hml, hown, hg⟩ (m_add l dC dI cT H.size mo r 0 tm (sn + 2 + q9) 0 lz az na nt nr mw ml mk dq g7_113 (0 ^^^ x130) (by first | assumption | omega) (by first | assumption | omega)) (cwV 1 hg (gI (List.forall_mem_append.mpr ⟨List.forall_mem_cons.mpr ⟨k_1015, List.forall_mem_cons.mpr ⟨k_1017, List.forall_mem_cons.mpr ⟨(big_sel (q := y_Md_add) (n := 45) (by decide +kernel)), List.forall_mem_cons.mpr ⟨k_13, fun _ h => absurd h List.not_mem_nil⟩⟩⟩⟩, List.forall_mem_cons.mpr ⟨k_1018, fun _ h => h⟩⟩)) rfl rfl rfl (by decide +kernel) ⟨Nat.le_of_ble_eq_true rfl, Nat.le_of_ble_eq_true rfl⟩) ⟨fun a U g mk q => by obtain ⟨q0, q1, qP, qK, qD⟩ := q; exact ⟨q0, q1, qP, va_K.moved (u := U) (U := U.calling g mk a) (Vm.Alike.refl U.vm) qK, qD⟩, va_recv (q0 := 0) (ci := 12) hK hP rfl rfl, fun U hU hW => ⟨rfl, by rw [hU], by rw [hU]; exact hPc, va_K.moved hW.alike hK, hDc.weaken (fun _ _ _ _ => trivial)⟩⟩ rfl rfl hl.1 rfl (lv_room (Nat.le_of_ble_eq_true rfl)) d_Md_password_141 ⟨Nat.le_of_ble_eq_true rfl, Nat.le_of_ble_eq_true rfl⟩) hS (fun q _ h => hFc q h) hFc (fun u t H1 locs ht hvm hw hB hz1 hk1 hS => ?_)
                          obtain ⟨g7_131, rfl⟩ : ∃ z, z = u := ⟨_, rfl⟩
                          try dsimp only at hw hB
                          obtain ⟨hP1, hK1, hD1⟩ := hB
                          rw [ht] at hP1
                          obtain ⟨hP, hD⟩ := va_join (wr := [(r 9, .inl ((cT 0), 1400, .inl g9_107)), (r 3, .inl ((cT 0), 160, .inl f3)), (r 4, .inl ((cT 0), 4, .inl f4)), (r 0, .inl ((cT 1), 64, .inr (.inl f0))), (r 11, .inl ((cT 0), 16, .inl g11_108))]) (w1 := [(mo, .inr (12, mdG r 0 tm (nI ((sn + 2 + q9) + 1)) (nI 0) (nI lz) (nI az) (nI na) (nI nt) (nI nr) mw ml mk dq)), (r 7, .inl ((cT 0), 1000, .inl g7_131))]) hP hD [0, 4] [1, 2, 3, 5, 6] rfl rfl (by decide) (by decide) hk1 hFc hP1 hD1
                          have hw132 := hw
                          clear hPc hDc hFc hz1 hk1 hP1 hK1 hD1
                          generalize H1 = H at hP hS ⊢
                          have hP : va_P (dC, dI) vcl [(r 9, .inl ((cT 0), 1400, .inl g9_107)), (r 3, .inl ((cT 0), 160, .inl f3)), (r 4, .inl ((cT 0), 4, .inl f4)), (r 0, .inl ((cT 1), 64, .inr (.inl f0))), (r 11, .inl ((cT 0), 16, .inl g11_108)), (mo, .inr (12, mdG r 0 tm (nI ((sn + 2 + q9) + 1)) (nI 0) (nI lz) (nI az) (nI na) (nI nt) (nI nr) mw ml mk dq)), (r 7, .inl ((cT 0), 1000, .inl g7_131))] H := hP
                          have hD : va_D A [(r 9, .inl ((cT 0), 1400, .inl g9_107)), (r 3, .inl ((cT 0), 160, .inl f3)), (r 4, .inl ((cT 0), 4, .inl f4)), (r 0, .inl ((cT 1), 64, .inr (.inl f0))), (r 11, .inl ((cT 0), 16, .inl g11_108)), (mo, .inr (12, mdG r 0 tm (nI ((sn + 2 + q9) + 1)) (nI 0) (nI lz) (nI az) (nI na) (nI nt) (nI nr) mw ml mk dq)), (r 7, .inl ((cT 0), 1000, .inl g7_131))] := hD
                          have k133 := hw132
                          refine lv_iinc (k := 0) (v := nI (q9 + 1)) (lv' := [(7, .int (nI (q9 + 1))), (6, .int (nI i)), (5, .int (nI nb)), (0, .ref mo), (1, .int (nI xn)), (2, .long v), (4, .int (nI yn))]) hx hb d_Md_password_144 hl rfl (nI_1 q9) (by decide) rfl (fun ls hl => ?_)
                          refine lv_goto (tgt := 99) hx hb d_Md_password_147 (by decide) ?_
                          have hl := lv_sub hl [0, 1, 2, 3, 4, 5, 6] (show _ = [(7, .int (nI (q9 + 1))), (6, .int (nI i)), (5, .int (nI nb)), (0, .ref mo), (1, .int (nI xn)), (2, .long v), (4, .int (nI yn))] from rfl)
                          have hP := hP.sub (ws' := [(mo, .inr (12, mdG r 0 tm (nI ((sn + 2 + q9) + 1)) (nI 0) (nI lz) (nI az) (nI na) (nI nt) (nI nr) mw ml mk dq)), (r 9, .inl ((cT 0), 1400, .inl g9_107)), (r 3, .inl ((cT 0), 160, .inl f3)), (r 4, .inl ((cT 0), 4, .inl f4)), (r 7, .inl ((cT 0), 1000, .inl g7_131)), (r 0, .inl ((cT 1), 64, .inr (.inl f0))), (r 11, .inl ((cT 0), 16, .inl g11_108))]) [5, 0, 1, 2, 6, 3, 4] rfl
                          have hD := hD.sub (ws' := [(mo, .inr (12, mdG r 0 tm (nI ((sn + 2 + q9) + 1)) (nI 0) (nI lz) (nI az) (nI na) (nI nt) (nI nr) mw ml mk dq)), (r 9, .inl ((cT 0), 1400, .inl g9_107)), (r 3, .inl ((cT 0), 160, .inl f3)), (r 4, .inl ((cT 0), 4, .inl f4)), (r 7, .inl ((cT 0), 1000, .inl g7_131)), (r 0, .inl ((cT 1), 64, .inr (.inl f0))), (r 11, .inl ((cT 0), 16, .inl g11_108))]) [5, 0, 1, 2, 6, 3, 4] (by decide) rfl
                          exact ih (q9 + 1) _ _ _ _ (by omega) (by first | assumption | omega) hP hD hS hl
                        · skip
                          have n127 : q9 < yn := Nat.not_le.mp (fun h7 => hc125 ((nI_leI (a := yn) (b := q9) (by omega) (by omega)).mpr h7))
                          refine lv_lload_n hx hb d_Md_password_120 rfl (lv_at hl 5 rfl) ?_
                          refine lv_iload hx hb d_Md_password_121 (lv_at hl 0 rfl) ?_
                          have hPc := hP.sub (ws' := []) [] rfl
                          have hDc := hD.sub (ws' := []) [] (by decide) rfl
                          have hFc := va_free (wc := []) hD hS hA [] rfl
                          refine va_calli (va_runS (As := [.long v, .int (nI q9)]) (rest := [.ref mo]) ⟨hx, hb, hml, hown, hg⟩ (m_letter l dC dI cT H.size v (nI q9) ) (va_cwS 2 hg (gI (List.forall_mem_append.mpr ⟨List.forall_mem_cons.mpr ⟨k_1169, List.forall_mem_cons.mpr ⟨k_1170, List.forall_mem_cons.mpr ⟨k_13, fun _ h => absurd h List.not_mem_nil⟩⟩⟩, List.forall_mem_cons.mpr ⟨k_1171, fun _ h => h⟩⟩)) rfl rfl rfl (by decide +kernel) ⟨Nat.le_of_ble_eq_true rfl, Nat.le_of_ble_eq_true rfl⟩) ⟨fun a U g mk q => by obtain ⟨q0, q1, qP, qK, qD⟩ := q; exact ⟨q0, q1, qP, va_K.moved (u := U) (U := U.calling g mk a) (Vm.Alike.refl U.vm) qK, qD⟩, fun U hU hW => ⟨rfl, by rw [hU], by rw [hU]; exact hPc, va_K.moved hW.alike hK, hDc.weaken (fun _ _ _ _ => trivial)⟩⟩ rfl rfl hl.1 rfl (lv_room (Nat.le_of_ble_eq_true rfl)) d_Md_password_123 ⟨Nat.le_of_ble_eq_true rfl, Nat.le_of_ble_eq_true rfl⟩) hS (fun q _ h => hFc q h) hFc (fun rv9 u t H1 locs ht hvm hw hB hz1 hk1 hS => ?_)
                          try dsimp only at hw hB
                          obtain ⟨hP1, hK1, hD1⟩ := hB
                          rw [ht] at hP1
                          generalize rv9 = r134 at hw ⊢
                          obtain ⟨hP, hD⟩ := va_join (wr := [(mo, .inr (12, mdG r 0 tm (nI (sn + 2 + q9)) (nI 0) (nI lz) (nI az) (nI na) (nI nt) (nI nr) mw ml mk dq)), (r 9, .inl ((cT 0), 1400, .inl g9_107)), (r 3, .inl ((cT 0), 160, .inl f3)), (r 4, .inl ((cT 0), 4, .inl f4)), (r 7, .inl ((cT 0), 1000, .inl g7_113)), (r 0, .inl ((cT 1), 64, .inr (.inl f0))), (r 11, .inl ((cT 0), 16, .inl g11_108))]) (w1 := []) hP hD [] [0, 1, 2, 3, 4, 5, 6] rfl rfl (by decide) (by decide) hk1 hFc hP1 hD1
                          have hw135 := hw
                          clear hPc hDc hFc hz1 hk1 hP1 hK1 hD1
                          generalize H1 = H at hP hS ⊢
                          have hP : va_P (dC, dI) vcl [(mo, .inr (12, mdG r 0 tm (nI (sn + 2 + q9)) (nI 0) (nI lz) (nI az) (nI na) (nI nt) (nI nr) mw ml mk dq)), (r 9, .inl ((cT 0), 1400, .inl g9_107)), (r 3, .inl ((cT 0), 160, .inl f3)), (r 4, .inl ((cT 0), 4, .inl f4)), (r 7, .inl ((cT 0), 1000, .inl g7_113)), (r 0, .inl ((cT 1), 64, .inr (.inl f0))), (r 11, .inl ((cT 0), 16, .inl g11_108))] H := hP
                          have hD : va_D A [(mo, .inr (12, mdG r 0 tm (nI (sn + 2 + q9)) (nI 0) (nI lz) (nI az) (nI na) (nI nt) (nI nr) mw ml mk dq)), (r 9, .inl ((cT 0), 1400, .inl g9_107)), (r 3, .inl ((cT 0), 160, .inl f3)), (r 4, .inl ((cT 0), 4, .inl f4)), (r 7, .inl ((cT 0), 1000, .inl g7_113)), (r 0, .inl ((cT 1), 64, .inr (.inl f0))), (r 11, .inl ((cT 0), 16, .inl g11_108))] := hD
                          refine lv_goto (tgt := 130) hx hb d_Md_password_126 (by decide) ?_
                          refine lv_aload_n hx hb d_Md_password_130 rfl (lv_at hl 3 rfl) ?_
                          refine va_get (D := (dC, dI)) (ci := 12) (v := (.ref (r 11))) (C := R_Md) (T := F_Md) (N := 45) hx hb hg in_Md hown hK hP 0 rfl rfl 11 (by decide) (hg _ k_1031) (fun _ h9 => h9) rfl d_Md_password_131 ?_
                          refine lv_iload hx hb d_Md_password_134 (lv_at hl 0 rfl) ?_
                          refine lv_bipush (v := 16) hx hb d_Md_password_136 (by decide) ?_
                          refine lv_irem hx hb d_Md_password_138 (by decide) ?_
                          refine lv_topi (fun x137 e136 => ?_)
                          obtain rfl : x137 = nI (q9 % 16) := by rw [e136]; exact pk_rem (d := 16) (by omega) (by decide) (by decide)
                          refine va_iald hx hb hK hP 6 0 rfl rfl (i := (nI (q9 % 16))) (vp_in_nI (N := 16) (by omega) (by decide)) d_Md_password_139 ?_
                          refine lv_topi (fun x138 e_x138 => ?_)
                          clear e_x138
                          refine lv_ixor hx hb d_Md_password_140 ?_
                          have hPc := hP.sub (ws' := [(mo, .inr (12, mdG r 0 tm (nI (sn + 2 + q9)) (nI 0) (nI lz) (nI az) (nI na) (nI nt) (nI nr) mw ml mk dq)), (r 7, .inl ((cT 0), 1000, .inl g7_113))]) [0, 4] rfl
                          have hDc := hD.sub (ws' := [(mo, .inr (12, mdG r 0 tm (nI (sn + 2 + q9)) (nI 0) (nI lz) (nI az) (nI na) (nI nt) (nI nr) mw ml mk dq)), (r 7, .inl ((cT 0), 1000, .inl g7_113))]) [0, 4] (by decide) rfl
                          have hFc := va_free (wc := [(mo, .inr (12, mdG r 0 tm (nI (sn + 2 + q9)) (nI 0) (nI lz) (nI az) (nI na) (nI nt) (nI nr) mw ml mk dq)), (r 7, .inl ((cT 0), 1000, .inl g7_113))]) hD hS hA [0, 4] rfl
                          refine va_callv (va_runV (C := "DoorServerModel") (As := [.int (r134 ^^^ x138)]) (rest := []) ⟨hx, hb, hml, hown, hg⟩ (m_add l dC dI cT H.size mo r 0 tm (sn + 2 + q9) 0 lz az na nt nr mw ml mk dq g7_113 (r134 ^^^ x138) (by first | assumption | omega) (by first | assumption | omega)) (cwV 1 hg (gI (List.forall_mem_append.mpr ⟨List.forall_mem_cons.mpr ⟨k_1015, List.forall_mem_cons.mpr ⟨k_1017, List.forall_mem_cons.mpr ⟨(big_sel (q := y_Md_add) (n := 45) (by decide +kernel)), List.forall_mem_cons.mpr ⟨k_13, fun _ h => absurd h List.not_mem_nil⟩⟩⟩⟩, List.forall_mem_cons.mpr ⟨k_1018, fun _ h => h⟩⟩)) rfl rfl rfl (by decide +kernel) ⟨Nat.le_of_ble_eq_true rfl, Nat.le_of_ble_eq_true rfl⟩) ⟨fun a U g mk q => by obtain ⟨q0, q1, qP, qK, qD⟩ := q; exact ⟨q0, q1, qP, va_K.moved (u := U) (U := U.calling g mk a) (Vm.Alike.refl U.vm) qK, qD⟩, va_recv (q0 := 0) (ci := 12) hK hP rfl rfl, fun U hU hW => ⟨rfl, by rw [hU], by rw [hU]; exact hPc, va_K.moved hW.alike hK, hDc.weaken (fun _ _ _ _ => trivial)⟩⟩ rfl rfl hl.1 rfl (lv_room (Nat.le_of_ble_eq_true rfl)) d_Md_password_141 ⟨Nat.le_of_ble_eq_true rfl, Nat.le_of_ble_eq_true rfl⟩) hS (fun q _ h => hFc q h) hFc (fun u t H1 locs ht hvm hw hB hz1 hk1 hS => ?_)
                          obtain ⟨g7_139, rfl⟩ : ∃ z, z = u := ⟨_, rfl⟩
                          try dsimp only at hw hB
                          obtain ⟨hP1, hK1, hD1⟩ := hB
                          rw [ht] at hP1
                          obtain ⟨hP, hD⟩ := va_join (wr := [(r 9, .inl ((cT 0), 1400, .inl g9_107)), (r 3, .inl ((cT 0), 160, .inl f3)), (r 4, .inl ((cT 0), 4, .inl f4)), (r 0, .inl ((cT 1), 64, .inr (.inl f0))), (r 11, .inl ((cT 0), 16, .inl g11_108))]) (w1 := [(mo, .inr (12, mdG r 0 tm (nI ((sn + 2 + q9) + 1)) (nI 0) (nI lz) (nI az) (nI na) (nI nt) (nI nr) mw ml mk dq)), (r 7, .inl ((cT 0), 1000, .inl g7_139))]) hP hD [0, 4] [1, 2, 3, 5, 6] rfl rfl (by decide) (by decide) hk1 hFc hP1 hD1
                          have hw140 := hw
                          clear hPc hDc hFc hz1 hk1 hP1 hK1 hD1
                          generalize H1 = H at hP hS ⊢
                          have hP : va_P (dC, dI) vcl [(r 9, .inl ((cT 0), 1400, .inl g9_107)), (r 3, .inl ((cT 0), 160, .inl f3)), (r 4, .inl ((cT 0), 4, .inl f4)), (r 0, .inl ((cT 1), 64, .inr (.inl f0))), (r 11, .inl ((cT 0), 16, .inl g11_108)), (mo, .inr (12, mdG r 0 tm (nI ((sn + 2 + q9) + 1)) (nI 0) (nI lz) (nI az) (nI na) (nI nt) (nI nr) mw ml mk dq)), (r 7, .inl ((cT 0), 1000, .inl g7_139))] H := hP
                          have hD : va_D A [(r 9, .inl ((cT 0), 1400, .inl g9_107)), (r 3, .inl ((cT 0), 160, .inl f3)), (r 4, .inl ((cT 0), 4, .inl f4)), (r 0, .inl ((cT 1), 64, .inr (.inl f0))), (r 11, .inl ((cT 0), 16, .inl g11_108)), (mo, .inr (12, mdG r 0 tm (nI ((sn + 2 + q9) + 1)) (nI 0) (nI lz) (nI az) (nI na) (nI nt) (nI nr) mw ml mk dq)), (r 7, .inl ((cT 0), 1000, .inl g7_139))] := hD
                          have k141 := hw140
                          refine lv_iinc (k := 0) (v := nI (q9 + 1)) (lv' := [(7, .int (nI (q9 + 1))), (6, .int (nI i)), (5, .int (nI nb)), (0, .ref mo), (1, .int (nI xn)), (2, .long v), (4, .int (nI yn))]) hx hb d_Md_password_144 hl rfl (nI_1 q9) (by decide) rfl (fun ls hl => ?_)
                          refine lv_goto (tgt := 99) hx hb d_Md_password_147 (by decide) ?_
                          have hl := lv_sub hl [0, 1, 2, 3, 4, 5, 6] (show _ = [(7, .int (nI (q9 + 1))), (6, .int (nI i)), (5, .int (nI nb)), (0, .ref mo), (1, .int (nI xn)), (2, .long v), (4, .int (nI yn))] from rfl)
                          have hP := hP.sub (ws' := [(mo, .inr (12, mdG r 0 tm (nI ((sn + 2 + q9) + 1)) (nI 0) (nI lz) (nI az) (nI na) (nI nt) (nI nr) mw ml mk dq)), (r 9, .inl ((cT 0), 1400, .inl g9_107)), (r 3, .inl ((cT 0), 160, .inl f3)), (r 4, .inl ((cT 0), 4, .inl f4)), (r 7, .inl ((cT 0), 1000, .inl g7_139)), (r 0, .inl ((cT 1), 64, .inr (.inl f0))), (r 11, .inl ((cT 0), 16, .inl g11_108))]) [5, 0, 1, 2, 6, 3, 4] rfl
                          have hD := hD.sub (ws' := [(mo, .inr (12, mdG r 0 tm (nI ((sn + 2 + q9) + 1)) (nI 0) (nI lz) (nI az) (nI na) (nI nt) (nI nr) mw ml mk dq)), (r 9, .inl ((cT 0), 1400, .inl g9_107)), (r 3, .inl ((cT 0), 160, .inl f3)), (r 4, .inl ((cT 0), 4, .inl f4)), (r 7, .inl ((cT 0), 1000, .inl g7_139)), (r 0, .inl ((cT 1), 64, .inr (.inl f0))), (r 11, .inl ((cT 0), 16, .inl g11_108))]) [5, 0, 1, 2, 6, 3, 4] (by decide) rfl
                          exact ih (q9 + 1) _ _ _ _ (by omega) (by first | assumption | omega) hP hD hS hl
                    refine L114 _ (fun g7_113 H locs ls hab hP hD hS hl => ?_) (16 * i + 16 - (16 * i)) (16 * i) g7_59 H _ ls (by omega) (by first | assumption | omega) hP hD hS hl
                    refine lv_iinc (k := 1) (v := nI (i + 1)) (lv' := [(6, .int (nI (i + 1))), (7, .int (nI (16 * i + 16))), (5, .int (nI nb)), (0, .ref mo), (1, .int (nI xn)), (2, .long v), (4, .int (nI yn))]) hx hb d_Md_password_150 hl rfl (nI_1 i) (by decide) rfl (fun ls hl => ?_)
                    refine lv_goto (tgt := 64) hx hb d_Md_password_153 (by decide) ?_
                    have hl := lv_sub hl [0, 2, 3, 4, 5, 6] (show _ = [(6, .int (nI (i + 1))), (5, .int (nI nb)), (0, .ref mo), (1, .int (nI xn)), (2, .long v), (4, .int (nI yn))] from rfl)
                    have hP := hP.sub (ws' := [(r 9, .inl ((cT 0), 1400, .inl g9_107)), (r 3, .inl ((cT 0), 160, .inl f3)), (r 4, .inl ((cT 0), 4, .inl f4)), (r 0, .inl ((cT 1), 64, .inr (.inl f0))), (r 11, .inl ((cT 0), 16, .inl g11_108)), (mo, .inr (12, mdG r 0 tm (nI (sn + 2 + (16 * i + 16))) (nI 0) (nI lz) (nI az) (nI na) (nI nt) (nI nr) mw ml mk dq)), (r 7, .inl ((cT 0), 1000, .inl g7_113))]) [1, 2, 3, 5, 6, 0, 4] rfl
                    have hD := hD.sub (ws' := [(r 9, .inl ((cT 0), 1400, .inl g9_107)), (r 3, .inl ((cT 0), 160, .inl f3)), (r 4, .inl ((cT 0), 4, .inl f4)), (r 0, .inl ((cT 1), 64, .inr (.inl f0))), (r 11, .inl ((cT 0), 16, .inl g11_108)), (mo, .inr (12, mdG r 0 tm (nI (sn + 2 + (16 * i + 16))) (nI 0) (nI lz) (nI az) (nI na) (nI nt) (nI nr) mw ml mk dq)), (r 7, .inl ((cT 0), 1000, .inl g7_113))]) [1, 2, 3, 5, 6, 0, 4] (by decide) rfl
                    rw [show sn + 2 + (16 * i + 16) = sn + 2 + 16 * (i + 1) by omega] at hP hD
                    exact ih (i + 1) _ _ _ _ _ _ (by omega) (by first | assumption | omega) (by first | assumption | omega) hP hD hS hl
              refine L62 _ (fun g7_59 g9_60 g11_61 H locs ls hab hdb hP hD hS hl => ?_) (nb - 0) 0 g7_55 f9 f11 H _ ls (by omega) (by first | assumption | omega) (by first | assumption | omega) hP hD hS hl
              refine lv_aload_n hx hb d_Md_password_156 rfl (lv_at hl 2 rfl) ?_
              have hPc := hP.sub (ws' := [(mo, .inr (12, mdG r 0 tm (nI (sn + 2 + 16 * nb)) (nI 0) (nI lz) (nI az) (nI na) (nI nt) (nI nr) mw ml mk dq)), (r 7, .inl ((cT 0), 1000, .inl g7_59))]) [5, 6] rfl
              have hDc := hD.sub (ws' := [(mo, .inr (12, mdG r 0 tm (nI (sn + 2 + 16 * nb)) (nI 0) (nI lz) (nI az) (nI na) (nI nt) (nI nr) mw ml mk dq)), (r 7, .inl ((cT 0), 1000, .inl g7_59))]) [5, 6] (by decide) rfl
              have hFc := va_free (wc := [(mo, .inr (12, mdG r 0 tm (nI (sn + 2 + 16 * nb)) (nI 0) (nI lz) (nI az) (nI na) (nI nt) (nI nr) mw ml mk dq)), (r 7, .inl ((cT 0), 1000, .inl g7_59))]) hD hS hA [5, 6] rfl
              refine va_calli (va_runV (C := "DoorServerModel") (As := []) (rest := []) ⟨hx, hb, hml, hown, hg⟩ (m_closes l dC dI cT H.size mo r 0 tm (sn + 2 + 16 * nb) 0 lz az na nt nr mw ml mk dq g7_59 (by first | assumption | omega) (by first | assumption | omega)) (cwV 0 hg (gI (List.forall_mem_append.mpr ⟨List.forall_mem_cons.mpr ⟨k_1192, List.forall_mem_cons.mpr ⟨k_1194, List.forall_mem_cons.mpr ⟨(big_sel (q := y_Md_closes) (n := 45) (by decide +kernel)), List.forall_mem_cons.mpr ⟨k_13, fun _ h => absurd h List.not_mem_nil⟩⟩⟩⟩, List.forall_mem_cons.mpr ⟨k_1195, fun _ h => h⟩⟩)) rfl rfl rfl (by decide +kernel) ⟨Nat.le_of_ble_eq_true rfl, Nat.le_of_ble_eq_true rfl⟩) ⟨fun a U g mk q => by obtain ⟨q0, q1, qP, qK, qD⟩ := q; exact ⟨q0, q1, qP, va_K.moved (u := U) (U := U.calling g mk a) (Vm.Alike.refl U.vm) qK, qD⟩, va_recv (q0 := 5) (ci := 12) hK hP rfl rfl, fun U hU hW => ⟨rfl, by rw [hU], by rw [hU]; exact hPc, va_K.moved hW.alike hK, hDc.weaken (fun _ _ _ _ => trivial)⟩⟩ rfl rfl hl.1 rfl (lv_room (Nat.le_of_ble_eq_true rfl)) d_Md_password_157 ⟨Nat.le_of_ble_eq_true rfl, Nat.le_of_ble_eq_true rfl⟩) hS (fun q _ h => hFc q h) hFc (fun rv9 u t H1 locs ht hvm hw hB hz1 hk1 hS => ?_)
              obtain ⟨g7_142, rfl⟩ : ∃ z, z = u := ⟨_, rfl⟩
              try dsimp only at hw hB
              obtain ⟨hP1, hK1, hD1⟩ := hB
              rw [ht] at hP1
              obtain ⟨rfl, hw⟩ := hw
              obtain ⟨hP, hD⟩ := va_join (wr := [(r 9, .inl ((cT 0), 1400, .inl g9_60)), (r 3, .inl ((cT 0), 160, .inl f3)), (r 4, .inl ((cT 0), 4, .inl f4)), (r 0, .inl ((cT 1), 64, .inr (.inl f0))), (r 11, .inl ((cT 0), 16, .inl g11_61))]) (w1 := [(mo, .inr (12, mdG r 0 tm (nI (sn + 2 + 16 * nb)) (nI 0) (nI lz) (nI az) (nI na) (nI nt) (nI nr) mw ml mk dq)), (r 7, .inl ((cT 0), 1000, .inl g7_142))]) hP hD [5, 6] [0, 1, 2, 3, 4] rfl rfl (by decide) (by decide) hk1 hFc hP1 hD1
              have hw143 := hw
              clear hPc hDc hFc hz1 hk1 hP1 hK1 hD1
              generalize H1 = H at hP hS ⊢
              have hP : va_P (dC, dI) vcl [(r 9, .inl ((cT 0), 1400, .inl g9_60)), (r 3, .inl ((cT 0), 160, .inl f3)), (r 4, .inl ((cT 0), 4, .inl f4)), (r 0, .inl ((cT 1), 64, .inr (.inl f0))), (r 11, .inl ((cT 0), 16, .inl g11_61)), (mo, .inr (12, mdG r 0 tm (nI (sn + 2 + 16 * nb)) (nI 0) (nI lz) (nI az) (nI na) (nI nt) (nI nr) mw ml mk dq)), (r 7, .inl ((cT 0), 1000, .inl g7_142))] H := hP
              have hD : va_D A [(r 9, .inl ((cT 0), 1400, .inl g9_60)), (r 3, .inl ((cT 0), 160, .inl f3)), (r 4, .inl ((cT 0), 4, .inl f4)), (r 0, .inl ((cT 1), 64, .inr (.inl f0))), (r 11, .inl ((cT 0), 16, .inl g11_61)), (mo, .inr (12, mdG r 0 tm (nI (sn + 2 + 16 * nb)) (nI 0) (nI lz) (nI az) (nI na) (nI nt) (nI nr) mw ml mk dq)), (r 7, .inl ((cT 0), 1000, .inl g7_142))] := hD
              have k144 := hw143
              have hP9 := hP.sub (ws' := [(mo, .inr (12, mdG r 0 tm (nI (sn + 2 + 16 * nb)) (nI 0) (nI lz) (nI az) (nI na) (nI nt) (nI nr) mw ml mk dq)), (r 7, .inl ((cT 0), 1000, .inl g7_142)), (r 9, .inl ((cT 0), 1400, .inl g9_60)), (r 3, .inl ((cT 0), 160, .inl f3)), (r 4, .inl ((cT 0), 4, .inl f4)), (r 0, .inl ((cT 1), 64, .inr (.inl f0))), (r 11, .inl ((cT 0), 16, .inl g11_61))]) [5, 6, 0, 1, 2, 3, 4] rfl
              have hD9 := hD.sub (ws' := [(mo, .inr (12, mdG r 0 tm (nI (sn + 2 + 16 * nb)) (nI 0) (nI lz) (nI az) (nI na) (nI nt) (nI nr) mw ml mk dq)), (r 7, .inl ((cT 0), 1000, .inl g7_142)), (r 9, .inl ((cT 0), 1400, .inl g9_60)), (r 3, .inl ((cT 0), 160, .inl f3)), (r 4, .inl ((cT 0), 4, .inl f4)), (r 0, .inl ((cT 1), 64, .inr (.inl f0))), (r 11, .inl ((cT 0), 16, .inl g11_61))]) [5, 6, 0, 1, 2, 3, 4] (by decide) rfl
              exact W.iret (v := nI (sn + 2 + 16 * nb)) hx hb hr (fun t ht hW => ⟨⟨_, ⟨g7_142, g9_60, g11_61, 0, sn + 2 + 16 * nb⟩, rfl, ⟨by first | assumption | omega, by first | assumption | omega, by first | assumption | omega, by first | assumption | omega⟩, by rw [ht]; exact hP9, va_K.moved hW.alike hK, hD9⟩, hS.F ht⟩) hS.2.2 d_Md_password_160
            · skip
              have hrn : 1000 < sn + 16 * nb + 2 := by omega
              have hPc := hP.sub (ws' := [(mo, .inr (12, mdG r 0 tm (nI sn) (nI 0) (nI lz) (nI az) (nI na) (nI nt) (nI nr) mw ml mk dq))]) [6] rfl
              have hDc := hD.sub (ws' := [(mo, .inr (12, mdG r 0 tm (nI sn) (nI 0) (nI lz) (nI az) (nI na) (nI nt) (nI nr) mw ml mk dq))]) [6] (by decide) rfl
              have hFc := va_free (wc := [(mo, .inr (12, mdG r 0 tm (nI sn) (nI 0) (nI lz) (nI az) (nI na) (nI nt) (nI nr) mw ml mk dq))]) hD hS hA [6] rfl
              refine va_calli (va_runV (C := "DoorServerModel") (As := [.int 2, .int (nI (16 * nb))]) (rest := []) ⟨hx, hb, hml, hown, hg⟩ (m_opens0 l dC dI cT H.size mo r 0 tm sn 0 lz az na nt nr mw ml mk dq 2 (16 * nb) (by first | assumption | omega) (by first | assumption | omega) (by first | assumption | omega)) (cwV 2 hg (gI (List.forall_mem_append.mpr ⟨List.forall_mem_cons.mpr ⟨k_1188, List.forall_mem_cons.mpr ⟨k_1190, List.forall_mem_cons.mpr ⟨(big_sel (q := y_Md_opens) (n := 45) (by decide +kernel)), List.forall_mem_cons.mpr ⟨k_13, fun _ h => absurd h List.not_mem_nil⟩⟩⟩⟩, List.forall_mem_cons.mpr ⟨k_1191, fun _ h => h⟩⟩)) rfl rfl rfl (by decide +kernel) ⟨Nat.le_of_ble_eq_true rfl, Nat.le_of_ble_eq_true rfl⟩) ⟨fun a U g mk q => by obtain ⟨q0, q1, qP, qK, qD⟩ := q; exact ⟨q0, q1, qP, va_K.moved (u := U) (U := U.calling g mk a) (Vm.Alike.refl U.vm) qK, qD⟩, va_recv (q0 := 6) (ci := 12) hK hP rfl rfl, fun U hU hW => ⟨rfl, by rw [hU], by rw [hU]; exact hPc, va_K.moved hW.alike hK, hDc.weaken (fun _ _ _ _ => trivial)⟩⟩ rfl rfl hl.1 rfl (lv_room (Nat.le_of_ble_eq_true rfl)) d_Md_password_53 ⟨Nat.le_of_ble_eq_true rfl, Nat.le_of_ble_eq_true rfl⟩) hS (fun q _ h => hFc q h) hFc (fun rv9 u t H1 locs ht hvm hw hB hz1 hk1 hS => ?_)
              try dsimp only at hw hB
              obtain ⟨hP1, hK1, hD1⟩ := hB
              rw [ht] at hP1
              obtain ⟨rfl, hw⟩ := hw
              obtain ⟨hP, hD⟩ := va_join (wr := [(r 7, .inl ((cT 0), 1000, .inl f7)), (r 9, .inl ((cT 0), 1400, .inl f9)), (r 3, .inl ((cT 0), 160, .inl f3)), (r 4, .inl ((cT 0), 4, .inl f4)), (r 0, .inl ((cT 1), 64, .inr (.inl f0))), (r 11, .inl ((cT 0), 16, .inl f11))]) (w1 := [(mo, .inr (12, mdG r 2 tm (nI sn) (nI 0) (nI lz) (nI az) (nI na) (nI nt) (nI nr) mw ml mk dq))]) hP hD [6] [0, 1, 2, 3, 4, 5] rfl rfl (by decide) (by decide) hk1 hFc hP1 hD1
              have hw145 := hw
              clear hPc hDc hFc hz1 hk1 hP1 hK1 hD1
              generalize H1 = H at hP hS ⊢
              have hP : va_P (dC, dI) vcl [(r 7, .inl ((cT 0), 1000, .inl f7)), (r 9, .inl ((cT 0), 1400, .inl f9)), (r 3, .inl ((cT 0), 160, .inl f3)), (r 4, .inl ((cT 0), 4, .inl f4)), (r 0, .inl ((cT 1), 64, .inr (.inl f0))), (r 11, .inl ((cT 0), 16, .inl f11)), (mo, .inr (12, mdG r 2 tm (nI sn) (nI 0) (nI lz) (nI az) (nI na) (nI nt) (nI nr) mw ml mk dq))] H := hP
              have hD : va_D A [(r 7, .inl ((cT 0), 1000, .inl f7)), (r 9, .inl ((cT 0), 1400, .inl f9)), (r 3, .inl ((cT 0), 160, .inl f3)), (r 4, .inl ((cT 0), 4, .inl f4)), (r 0, .inl ((cT 1), 64, .inr (.inl f0))), (r 11, .inl ((cT 0), 16, .inl f11)), (mo, .inr (12, mdG r 2 tm (nI sn) (nI 0) (nI lz) (nI az) (nI na) (nI nt) (nI nr) mw ml mk dq))] := hD
              refine lv_if_ne (tgt := 61) hx hb d_Md_password_56 (by decide) (fun hn9 => absurd hn9 (by decide)) (fun hc146 => ?_)
              refine lv_iconst (v := 0) hx hb d_Md_password_59 (by decide) ?_
              have hP9 := hP.sub (ws' := [(mo, .inr (12, mdG r 2 tm (nI sn) (nI 0) (nI lz) (nI az) (nI na) (nI nt) (nI nr) mw ml mk dq)), (r 7, .inl ((cT 0), 1000, .inl f7)), (r 9, .inl ((cT 0), 1400, .inl f9)), (r 3, .inl ((cT 0), 160, .inl f3)), (r 4, .inl ((cT 0), 4, .inl f4)), (r 0, .inl ((cT 1), 64, .inr (.inl f0))), (r 11, .inl ((cT 0), 16, .inl f11))]) [6, 0, 1, 2, 3, 4, 5] rfl
              have hD9 := hD.sub (ws' := [(mo, .inr (12, mdG r 2 tm (nI sn) (nI 0) (nI lz) (nI az) (nI na) (nI nt) (nI nr) mw ml mk dq)), (r 7, .inl ((cT 0), 1000, .inl f7)), (r 9, .inl ((cT 0), 1400, .inl f9)), (r 3, .inl ((cT 0), 160, .inl f3)), (r 4, .inl ((cT 0), 4, .inl f4)), (r 0, .inl ((cT 1), 64, .inr (.inl f0))), (r 11, .inl ((cT 0), 16, .inl f11))]) [6, 0, 1, 2, 3, 4, 5] (by decide) rfl
              exact W.iret (v := 0) hx hb hr (fun t ht hW => ⟨⟨_, ⟨f7, f9, f11, 2, sn⟩, rfl, ⟨by first | assumption | omega, by first | assumption | omega, by first | assumption | omega, by first | assumption | omega⟩, by rw [ht]; exact hP9, va_K.moved hW.alike hK, hD9⟩, hS.F ht⟩) hS.2.2 d_Md_password_60
set_option maxHeartbeats 4000000 in
set_option maxRecDepth 100000 in
/-- reply -/
theorem u_reply (l : Launch) (dC : Nat → ClassId) (dI : Nat → Nat → Nat) (cT : Nat → ClassId) (sz : Nat) (mo : Nat) (r : Nat → Nat) (cd : Int32) (tm : Int32) (sn : Nat) (tx : Nat) (lz : Nat) (az : Nat) (na : Nat) (nt : Nat) (nr : Nat) (mw : Int32) (ml : Int32) (mk : Int64) (dq : Int64) (f7 : Nat → Int32) (f13 : Nat → Int32) (f9 : Nat → Int32) (f0 : Nat → Int64) (f11 : Nat → Int32) (v : Int64) (y : Int32) (h20 : 20 ≤ sn) (hsn : sn ≤ 1000) (h7 : AB f7) (h11 : AB f11) (hlz : lz ≤ 200) : Met l y_Md_reply (Cond.code y_Md_reply b_Md_reply 6 (Option.some Jvm.ClassFile.FieldType.int) :: BIG) ({ frames := 2, cells := 0, slots := 0, locals := 69 }) (va_Pc [.ref mo, .long v, .int y] (fun U => U.heap.size = sz ∧ va_P (dC, dI) vcl [(mo, .inr (12, mdG r cd tm (nI sn) (nI 0) (nI lz) (nI az) (nI na) (nI nt) (nI nr) mw ml mk dq)), (r 7, .inl ((cT 0), 1000, .inl f7)), (r 13, .inl ((cT 0), 200, .inl f13)), (r 9, .inl ((cT 0), 1400, .inl f9)), (r 0, .inl ((cT 1), 64, .inr (.inl f0))), (r 11, .inl ((cT 0), 16, .inl f11))] U.heap ∧ va_K (dC, dI) vcl (tyL cT) U ∧ va_D (fun _ => True) [(mo, .inr (12, mdG r cd tm (nI sn) (nI 0) (nI lz) (nI az) (nI na) (nI nt) (nI nr) mw ml mk dq)), (r 7, .inl ((cT 0), 1000, .inl f7)), (r 13, .inl ((cT 0), 200, .inl f13)), (r 9, .inl ((cT 0), 1400, .inl f9)), (r 0, .inl ((cT 1), 64, .inr (.inl f0))), (r 11, .inl ((cT 0), 16, .inl f11))])) (va_Qi (S := (Nat → Int32) × (Nat → Int32) × (Nat → Int32) × Int32 × Nat) (fun rv9 u => match u with | (g7, g9, g11, cd2, sn2) => (20 ≤ sn2) ∧ (sn2 ≤ 1000) ∧ (AB g7) ∧ (AB g11)) (fun u t => match u with | (g7, g9, g11, cd2, sn2) => va_P (dC, dI) vcl [(mo, .inr (12, mdG r cd2 tm (nI sn2) (nI 0) (nI lz) (nI az) (nI na) (nI nt) (nI nr) mw ml mk dq)), (r 7, .inl ((cT 0), 1000, .inl g7)), (r 13, .inl ((cT 0), 200, .inl f13)), (r 9, .inl ((cT 0), 1400, .inl g9)), (r 0, .inl ((cT 1), 64, .inr (.inl f0))), (r 11, .inl ((cT 0), 16, .inl g11))] t.heap ∧ va_K (dC, dI) vcl (tyL cT) t ∧ va_D (va_A [(mo, .inr (12, mdG r cd tm (nI sn) (nI 0) (nI lz) (nI az) (nI na) (nI nt) (nI nr) mw ml mk dq)), (r 7, .inl ((cT 0), 1000, .inl f7)), (r 13, .inl ((cT 0), 200, .inl f13)), (r 9, .inl ((cT 0), 1400, .inl f9)), (r 0, .inl ((cT 1), 64, .inr (.inl f0))), (r 11, .inl ((cT 0), 16, .inl f11))] sz) [(mo, .inr (12, mdG r cd2 tm (nI sn2) (nI 0) (nI lz) (nI az) (nI na) (nI nt) (nI nr) mw ml mk dq)), (r 7, .inl ((cT 0), 1000, .inl g7)), (r 13, .inl ((cT 0), 200, .inl f13)), (r 9, .inl ((cT 0), 1400, .inl g9)), (r 0, .inl ((cT 1), 64, .inr (.inl f0))), (r 11, .inl ((cT 0), 16, .inl g11))]) (va_A [(mo, .inr (12, mdG r cd tm (nI sn) (nI 0) (nI lz) (nI az) (nI na) (nI nt) (nI nr) mw ml mk dq)), (r 7, .inl ((cT 0), 1000, .inl f7)), (r 13, .inl ((cT 0), 200, .inl f13)), (r 9, .inl ((cT 0), 1400, .inl f9)), (r 0, .inl ((cT 1), 64, .inr (.inl f0))), (r 11, .inl ((cT 0), 16, .inl f11))] sz)) 0 0 (va_A [(mo, .inr (12, mdG r cd tm (nI sn) (nI 0) (nI lz) (nI az) (nI na) (nI nt) (nI nr) mw ml mk dq)), (r 7, .inl ((cT 0), 1000, .inl f7)), (r 13, .inl ((cT 0), 200, .inl f13)), (r 9, .inl ((cT 0), 1400, .inl f9)), (r 0, .inl ((cT 1), 64, .inr (.inl f0))), (r 11, .inl ((cT 0), 16, .inl f11))] sz) := by
  refine Met.ofW (cc := b_Md_reply) (maxL := 6) (ret := (Option.some Jvm.ClassFile.FieldType.int)) (by decide) rfl ?_
  intro p e s m args below meth c s₁ B hml hv
  obtain ⟨hargs, hsz, hP, hK, hD0⟩ := hv
  have hx := B.exec
  have hb := B.bytes
  have hr := B.returns
  have hts := atoms_spec (ws := (Cond.code y_Md_reply b_Md_reply 6 (Option.some Jvm.ClassFile.FieldType.int) :: BIG)) B.pre
  have hg : ∀ w ∈ BIG, w.before _ s = true := fun w h => hts w (List.mem_cons_of_mem _ h)
  have hown : s.vm.findClass "DoorServerModel" = some m.cls := findClass_of_methodNamed B.named
  have hlocks := B.notSynchronized
  subst hsz
  have hD := hD0.self (sz := s.heap.size)
  generalize hAe : va_A [(mo, .inr (12, mdG r cd tm (nI sn) (nI 0) (nI lz) (nI az) (nI na) (nI nt) (nI nr) mw ml mk dq)), (r 7, .inl ((cT 0), 1000, .inl f7)), (r 13, .inl ((cT 0), 200, .inl f13)), (r 9, .inl ((cT 0), 1400, .inl f9)), (r 0, .inl ((cT 1), 64, .inr (.inl f0))), (r 11, .inl ((cT 0), 16, .inl f11))] s.heap.size = A at hD ⊢
  have hA : ∀ q : Nat, s.heap.size ≤ q → A q := fun q h => by rw [← hAe]; exact Or.inr h
  have hS : va_S A s.heap s.heap [] := va_S.rf
  have hl := lv_entry ([.ref mo, .long v, .int y]) (n := 6) (Nat.le_of_ble_eq_true rfl)
  refine W.eq (g2 := entryFrame m (List.toArray [.ref mo, .long v, .int y]) 6) (by rw [hargs]) ?_
  rw [lg_entry_eq]
  generalize (lg_sl ([.ref mo, .long v, .int y]) ++ List.replicate (6 - (lg_sl ([.ref mo, .long v, .int y])).length) Slot.unset).toArray = ls at hl ⊢
  have hl : lv_has ls 6 [(0, .ref mo), (1, .long v), (3, .int y)] := hl
  change W p l e ({ frames := 2, cells := 0, slots := 0, locals := 69 } : Room) s m args below meth c s.heap [] 0 0 _ _
  have hP : va_P (dC, dI) vcl [(mo, .inr (12, mdG r cd tm (nI sn) (nI 0) (nI lz) (nI az) (nI na) (nI nt) (nI nr) mw ml mk dq)), (r 7, .inl ((cT 0), 1000, .inl f7)), (r 13, .inl ((cT 0), 200, .inl f13)), (r 9, .inl ((cT 0), 1400, .inl f9)), (r 0, .inl ((cT 1), 64, .inr (.inl f0))), (r 11, .inl ((cT 0), 16, .inl f11))] s.heap := hP
  rcases pk_ix y (n := 61) (by decide) with h8y | h8y | ⟨yn, hyn, rfl⟩
  · skip
    refine lv_aload_n hx hb d_Md_reply_0 rfl (lv_at hl 0 rfl) ?_
    refine lv_iload_n hx hb d_Md_reply_1 rfl (lv_at hl 2 rfl) ?_
    refine lv_iconst (v := 1) hx hb d_Md_reply_2 (by decide) ?_
    refine lv_icmp_lt (tgt := 16) hx hb d_Md_reply_3 (by decide) (fun hc147 => ?_) (fun hn9 => absurd (lt_01 h8y) hn9)
    refine lv_iconst (v := 0) hx hb d_Md_reply_16 (by decide) ?_
    have hPc := hP.sub (ws' := [(mo, .inr (12, mdG r cd tm (nI sn) (nI 0) (nI lz) (nI az) (nI na) (nI nt) (nI nr) mw ml mk dq))]) [0] rfl
    have hDc := hD.sub (ws' := [(mo, .inr (12, mdG r cd tm (nI sn) (nI 0) (nI lz) (nI az) (nI na) (nI nt) (nI nr) mw ml mk dq))]) [0] (by decide) rfl
    have hFc := va_free (wc := [(mo, .inr (12, mdG r cd tm (nI sn) (nI 0) (nI lz) (nI az) (nI na) (nI nt) (nI nr) mw ml mk dq))]) hD hS hA [0] rfl
    refine va_calli (va_runV (C := "DoorServerModel") (As := [.int 0]) (rest := []) ⟨hx, hb, hml, hown, hg⟩ (m_goes0 l dC dI cT s.heap.size mo r cd tm sn 0 lz az na nt nr mw ml mk dq ) (cwV 1 hg (gI (List.forall_mem_append.mpr ⟨List.forall_mem_cons.mpr ⟨k_1165, List.forall_mem_cons.mpr ⟨k_1167, List.forall_mem_cons.mpr ⟨(big_sel (q := y_Md_goes) (n := 45) (by decide +kernel)), List.forall_mem_cons.mpr ⟨k_13, fun _ h => absurd h List.not_mem_nil⟩⟩⟩⟩, List.forall_mem_cons.mpr ⟨k_1168, fun _ h => h⟩⟩)) rfl rfl rfl (by decide +kernel) ⟨Nat.le_of_ble_eq_true rfl, Nat.le_of_ble_eq_true rfl⟩) ⟨fun a U g mk q => by obtain ⟨q0, q1, qP, qK, qD⟩ := q; exact ⟨q0, q1, qP, va_K.moved (u := U) (U := U.calling g mk a) (Vm.Alike.refl U.vm) qK, qD⟩, va_recv (q0 := 0) (ci := 12) hK hP rfl rfl, fun U hU hW => ⟨rfl, by rw [hU], by rw [hU]; exact hPc, va_K.moved hW.alike hK, hDc.weaken (fun _ _ _ _ => trivial)⟩⟩ rfl rfl hl.1 rfl (lv_room (Nat.le_of_ble_eq_true rfl)) d_Md_reply_17 ⟨Nat.le_of_ble_eq_true rfl, Nat.le_of_ble_eq_true rfl⟩) hS (fun q _ h => hFc q h) hFc (fun rv9 u t H1 locs ht hvm hw hB hz1 hk1 hS => ?_)
    try dsimp only at hw hB
    obtain ⟨hP1, hK1, hD1⟩ := hB
    rw [ht] at hP1
    obtain ⟨rfl, hw⟩ := hw
    obtain ⟨hP, hD⟩ := va_join (wr := [(r 7, .inl ((cT 0), 1000, .inl f7)), (r 13, .inl ((cT 0), 200, .inl f13)), (r 9, .inl ((cT 0), 1400, .inl f9)), (r 0, .inl ((cT 1), 64, .inr (.inl f0))), (r 11, .inl ((cT 0), 16, .inl f11))]) (w1 := [(mo, .inr (12, mdG r 1 tm (nI sn) (nI 0) (nI lz) (nI az) (nI na) (nI nt) (nI nr) mw ml mk dq))]) hP hD [0] [1, 2, 3, 4, 5] rfl rfl (by decide) (by decide) hk1 hFc hP1 hD1
    have hw148 := hw
    clear hPc hDc hFc hz1 hk1 hP1 hK1 hD1
    generalize H1 = H at hP hS ⊢
    have hP : va_P (dC, dI) vcl [(r 7, .inl ((cT 0), 1000, .inl f7)), (r 13, .inl ((cT 0), 200, .inl f13)), (r 9, .inl ((cT 0), 1400, .inl f9)), (r 0, .inl ((cT 1), 64, .inr (.inl f0))), (r 11, .inl ((cT 0), 16, .inl f11)), (mo, .inr (12, mdG r 1 tm (nI sn) (nI 0) (nI lz) (nI az) (nI na) (nI nt) (nI nr) mw ml mk dq))] H := hP
    have hD : va_D A [(r 7, .inl ((cT 0), 1000, .inl f7)), (r 13, .inl ((cT 0), 200, .inl f13)), (r 9, .inl ((cT 0), 1400, .inl f9)), (r 0, .inl ((cT 1), 64, .inr (.inl f0))), (r 11, .inl ((cT 0), 16, .inl f11)), (mo, .inr (12, mdG r 1 tm (nI sn) (nI 0) (nI lz) (nI az) (nI na) (nI nt) (nI nr) mw ml mk dq))] := hD
    refine lv_if_eq (tgt := 41) hx hb d_Md_reply_20 (by decide) (fun hc149 => ?_) (fun hn9 => absurd (by decide) hn9)
    refine lv_aload_n hx hb d_Md_reply_41 rfl (lv_at hl 0 rfl) ?_
    refine va_get (D := (dC, dI)) (ci := 12) (v := (.int 1)) (C := R_Md) (T := F_Md) (N := 45) hx hb hg in_Md hown hK hP 5 rfl rfl 1 (by decide) (hg _ k_1021) (fun _ h9 => h9) rfl d_Md_reply_42 ?_
    refine lv_if_le (tgt := 52) hx hb d_Md_reply_45 (by decide) (fun hn9 => absurd hn9 (by decide)) (fun hc150 => ?_)
    refine lv_iconst (v := 0) hx hb d_Md_reply_48 (by decide) ?_
    refine lv_goto (tgt := 53) hx hb d_Md_reply_49 (by decide) ?_
    have hP9 := hP.sub (ws' := [(mo, .inr (12, mdG r 1 tm (nI sn) (nI 0) (nI lz) (nI az) (nI na) (nI nt) (nI nr) mw ml mk dq)), (r 7, .inl ((cT 0), 1000, .inl f7)), (r 13, .inl ((cT 0), 200, .inl f13)), (r 9, .inl ((cT 0), 1400, .inl f9)), (r 0, .inl ((cT 1), 64, .inr (.inl f0))), (r 11, .inl ((cT 0), 16, .inl f11))]) [5, 0, 1, 2, 3, 4] rfl
    have hD9 := hD.sub (ws' := [(mo, .inr (12, mdG r 1 tm (nI sn) (nI 0) (nI lz) (nI az) (nI na) (nI nt) (nI nr) mw ml mk dq)), (r 7, .inl ((cT 0), 1000, .inl f7)), (r 13, .inl ((cT 0), 200, .inl f13)), (r 9, .inl ((cT 0), 1400, .inl f9)), (r 0, .inl ((cT 1), 64, .inr (.inl f0))), (r 11, .inl ((cT 0), 16, .inl f11))]) [5, 0, 1, 2, 3, 4] (by decide) rfl
    exact W.iret (v := 0) hx hb hr (fun t ht hW => ⟨⟨_, ⟨f7, f9, f11, 1, sn⟩, rfl, ⟨by first | assumption | omega, by first | assumption | omega, by first | assumption | omega, by first | assumption | omega⟩, by rw [ht]; exact hP9, va_K.moved hW.alike hK, hD9⟩, hS.F ht⟩) hS.2.2 d_Md_reply_53
  · skip
    refine lv_aload_n hx hb d_Md_reply_0 rfl (lv_at hl 0 rfl) ?_
    refine lv_iload_n hx hb d_Md_reply_1 rfl (lv_at hl 2 rfl) ?_
    refine lv_iconst (v := 1) hx hb d_Md_reply_2 (by decide) ?_
    refine lv_icmp_lt (tgt := 16) hx hb d_Md_reply_3 (by decide) (fun hc151 => ?_) (fun hc151 => ?_)
    · skip
      refine lv_iconst (v := 0) hx hb d_Md_reply_16 (by decide) ?_
      have hPc := hP.sub (ws' := [(mo, .inr (12, mdG r cd tm (nI sn) (nI 0) (nI lz) (nI az) (nI na) (nI nt) (nI nr) mw ml mk dq))]) [0] rfl
      have hDc := hD.sub (ws' := [(mo, .inr (12, mdG r cd tm (nI sn) (nI 0) (nI lz) (nI az) (nI na) (nI nt) (nI nr) mw ml mk dq))]) [0] (by decide) rfl
      have hFc := va_free (wc := [(mo, .inr (12, mdG r cd tm (nI sn) (nI 0) (nI lz) (nI az) (nI na) (nI nt) (nI nr) mw ml mk dq))]) hD hS hA [0] rfl
      refine va_calli (va_runV (C := "DoorServerModel") (As := [.int 0]) (rest := []) ⟨hx, hb, hml, hown, hg⟩ (m_goes0 l dC dI cT s.heap.size mo r cd tm sn 0 lz az na nt nr mw ml mk dq ) (cwV 1 hg (gI (List.forall_mem_append.mpr ⟨List.forall_mem_cons.mpr ⟨k_1165, List.forall_mem_cons.mpr ⟨k_1167, List.forall_mem_cons.mpr ⟨(big_sel (q := y_Md_goes) (n := 45) (by decide +kernel)), List.forall_mem_cons.mpr ⟨k_13, fun _ h => absurd h List.not_mem_nil⟩⟩⟩⟩, List.forall_mem_cons.mpr ⟨k_1168, fun _ h => h⟩⟩)) rfl rfl rfl (by decide +kernel) ⟨Nat.le_of_ble_eq_true rfl, Nat.le_of_ble_eq_true rfl⟩) ⟨fun a U g mk q => by obtain ⟨q0, q1, qP, qK, qD⟩ := q; exact ⟨q0, q1, qP, va_K.moved (u := U) (U := U.calling g mk a) (Vm.Alike.refl U.vm) qK, qD⟩, va_recv (q0 := 0) (ci := 12) hK hP rfl rfl, fun U hU hW => ⟨rfl, by rw [hU], by rw [hU]; exact hPc, va_K.moved hW.alike hK, hDc.weaken (fun _ _ _ _ => trivial)⟩⟩ rfl rfl hl.1 rfl (lv_room (Nat.le_of_ble_eq_true rfl)) d_Md_reply_17 ⟨Nat.le_of_ble_eq_true rfl, Nat.le_of_ble_eq_true rfl⟩) hS (fun q _ h => hFc q h) hFc (fun rv9 u t H1 locs ht hvm hw hB hz1 hk1 hS => ?_)
      try dsimp only at hw hB
      obtain ⟨hP1, hK1, hD1⟩ := hB
      rw [ht] at hP1
      obtain ⟨rfl, hw⟩ := hw
      obtain ⟨hP, hD⟩ := va_join (wr := [(r 7, .inl ((cT 0), 1000, .inl f7)), (r 13, .inl ((cT 0), 200, .inl f13)), (r 9, .inl ((cT 0), 1400, .inl f9)), (r 0, .inl ((cT 1), 64, .inr (.inl f0))), (r 11, .inl ((cT 0), 16, .inl f11))]) (w1 := [(mo, .inr (12, mdG r 1 tm (nI sn) (nI 0) (nI lz) (nI az) (nI na) (nI nt) (nI nr) mw ml mk dq))]) hP hD [0] [1, 2, 3, 4, 5] rfl rfl (by decide) (by decide) hk1 hFc hP1 hD1
      have hw152 := hw
      clear hPc hDc hFc hz1 hk1 hP1 hK1 hD1
      generalize H1 = H at hP hS ⊢
      have hP : va_P (dC, dI) vcl [(r 7, .inl ((cT 0), 1000, .inl f7)), (r 13, .inl ((cT 0), 200, .inl f13)), (r 9, .inl ((cT 0), 1400, .inl f9)), (r 0, .inl ((cT 1), 64, .inr (.inl f0))), (r 11, .inl ((cT 0), 16, .inl f11)), (mo, .inr (12, mdG r 1 tm (nI sn) (nI 0) (nI lz) (nI az) (nI na) (nI nt) (nI nr) mw ml mk dq))] H := hP
      have hD : va_D A [(r 7, .inl ((cT 0), 1000, .inl f7)), (r 13, .inl ((cT 0), 200, .inl f13)), (r 9, .inl ((cT 0), 1400, .inl f9)), (r 0, .inl ((cT 1), 64, .inr (.inl f0))), (r 11, .inl ((cT 0), 16, .inl f11)), (mo, .inr (12, mdG r 1 tm (nI sn) (nI 0) (nI lz) (nI az) (nI na) (nI nt) (nI nr) mw ml mk dq))] := hD
      refine lv_if_eq (tgt := 41) hx hb d_Md_reply_20 (by decide) (fun hc153 => ?_) (fun hn9 => absurd (by decide) hn9)
      refine lv_aload_n hx hb d_Md_reply_41 rfl (lv_at hl 0 rfl) ?_
      refine va_get (D := (dC, dI)) (ci := 12) (v := (.int 1)) (C := R_Md) (T := F_Md) (N := 45) hx hb hg in_Md hown hK hP 5 rfl rfl 1 (by decide) (hg _ k_1021) (fun _ h9 => h9) rfl d_Md_reply_42 ?_
      refine lv_if_le (tgt := 52) hx hb d_Md_reply_45 (by decide) (fun hn9 => absurd hn9 (by decide)) (fun hc154 => ?_)
      refine lv_iconst (v := 0) hx hb d_Md_reply_48 (by decide) ?_
      refine lv_goto (tgt := 53) hx hb d_Md_reply_49 (by decide) ?_
      have hP9 := hP.sub (ws' := [(mo, .inr (12, mdG r 1 tm (nI sn) (nI 0) (nI lz) (nI az) (nI na) (nI nt) (nI nr) mw ml mk dq)), (r 7, .inl ((cT 0), 1000, .inl f7)), (r 13, .inl ((cT 0), 200, .inl f13)), (r 9, .inl ((cT 0), 1400, .inl f9)), (r 0, .inl ((cT 1), 64, .inr (.inl f0))), (r 11, .inl ((cT 0), 16, .inl f11))]) [5, 0, 1, 2, 3, 4] rfl
      have hD9 := hD.sub (ws' := [(mo, .inr (12, mdG r 1 tm (nI sn) (nI 0) (nI lz) (nI az) (nI na) (nI nt) (nI nr) mw ml mk dq)), (r 7, .inl ((cT 0), 1000, .inl f7)), (r 13, .inl ((cT 0), 200, .inl f13)), (r 9, .inl ((cT 0), 1400, .inl f9)), (r 0, .inl ((cT 1), 64, .inr (.inl f0))), (r 11, .inl ((cT 0), 16, .inl f11))]) [5, 0, 1, 2, 3, 4] (by decide) rfl
      exact W.iret (v := 0) hx hb hr (fun t ht hW => ⟨⟨_, ⟨f7, f9, f11, 1, sn⟩, rfl, ⟨by first | assumption | omega, by first | assumption | omega, by first | assumption | omega, by first | assumption | omega⟩, by rw [ht]; exact hP9, va_K.moved hW.alike hK, hD9⟩, hS.F ht⟩) hS.2.2 d_Md_reply_53
    · skip
      refine lv_iload_n hx hb d_Md_reply_6 rfl (lv_at hl 2 rfl) ?_
      refine lv_bipush (v := 60) hx hb d_Md_reply_7 (by decide) ?_
      refine lv_icmp_gt (tgt := 16) hx hb d_Md_reply_9 (by decide) (fun hc155 => ?_) (fun hn9 => absurd ((lt_le1 (a := 60) (b := nI 61) (by decide)).mpr h8y) hn9)
      refine lv_iconst (v := 0) hx hb d_Md_reply_16 (by decide) ?_
      have hPc := hP.sub (ws' := [(mo, .inr (12, mdG r cd tm (nI sn) (nI 0) (nI lz) (nI az) (nI na) (nI nt) (nI nr) mw ml mk dq))]) [0] rfl
      have hDc := hD.sub (ws' := [(mo, .inr (12, mdG r cd tm (nI sn) (nI 0) (nI lz) (nI az) (nI na) (nI nt) (nI nr) mw ml mk dq))]) [0] (by decide) rfl
      have hFc := va_free (wc := [(mo, .inr (12, mdG r cd tm (nI sn) (nI 0) (nI lz) (nI az) (nI na) (nI nt) (nI nr) mw ml mk dq))]) hD hS hA [0] rfl
      refine va_calli (va_runV (C := "DoorServerModel") (As := [.int 0]) (rest := []) ⟨hx, hb, hml, hown, hg⟩ (m_goes0 l dC dI cT s.heap.size mo r cd tm sn 0 lz az na nt nr mw ml mk dq ) (cwV 1 hg (gI (List.forall_mem_append.mpr ⟨List.forall_mem_cons.mpr ⟨k_1165, List.forall_mem_cons.mpr ⟨k_1167, List.forall_mem_cons.mpr ⟨(big_sel (q := y_Md_goes) (n := 45) (by decide +kernel)), List.forall_mem_cons.mpr ⟨k_13, fun _ h => absurd h List.not_mem_nil⟩⟩⟩⟩, List.forall_mem_cons.mpr ⟨k_1168, fun _ h => h⟩⟩)) rfl rfl rfl (by decide +kernel) ⟨Nat.le_of_ble_eq_true rfl, Nat.le_of_ble_eq_true rfl⟩) ⟨fun a U g mk q => by obtain ⟨q0, q1, qP, qK, qD⟩ := q; exact ⟨q0, q1, qP, va_K.moved (u := U) (U := U.calling g mk a) (Vm.Alike.refl U.vm) qK, qD⟩, va_recv (q0 := 0) (ci := 12) hK hP rfl rfl, fun U hU hW => ⟨rfl, by rw [hU], by rw [hU]; exact hPc, va_K.moved hW.alike hK, hDc.weaken (fun _ _ _ _ => trivial)⟩⟩ rfl rfl hl.1 rfl (lv_room (Nat.le_of_ble_eq_true rfl)) d_Md_reply_17 ⟨Nat.le_of_ble_eq_true rfl, Nat.le_of_ble_eq_true rfl⟩) hS (fun q _ h => hFc q h) hFc (fun rv9 u t H1 locs ht hvm hw hB hz1 hk1 hS => ?_)
      try dsimp only at hw hB
      obtain ⟨hP1, hK1, hD1⟩ := hB
      rw [ht] at hP1
      obtain ⟨rfl, hw⟩ := hw
      obtain ⟨hP, hD⟩ := va_join (wr := [(r 7, .inl ((cT 0), 1000, .inl f7)), (r 13, .inl ((cT 0), 200, .inl f13)), (r 9, .inl ((cT 0), 1400, .inl f9)), (r 0, .inl ((cT 1), 64, .inr (.inl f0))), (r 11, .inl ((cT 0), 16, .inl f11))]) (w1 := [(mo, .inr (12, mdG r 1 tm (nI sn) (nI 0) (nI lz) (nI az) (nI na) (nI nt) (nI nr) mw ml mk dq))]) hP hD [0] [1, 2, 3, 4, 5] rfl rfl (by decide) (by decide) hk1 hFc hP1 hD1
      have hw156 := hw
      clear hPc hDc hFc hz1 hk1 hP1 hK1 hD1
      generalize H1 = H at hP hS ⊢
      have hP : va_P (dC, dI) vcl [(r 7, .inl ((cT 0), 1000, .inl f7)), (r 13, .inl ((cT 0), 200, .inl f13)), (r 9, .inl ((cT 0), 1400, .inl f9)), (r 0, .inl ((cT 1), 64, .inr (.inl f0))), (r 11, .inl ((cT 0), 16, .inl f11)), (mo, .inr (12, mdG r 1 tm (nI sn) (nI 0) (nI lz) (nI az) (nI na) (nI nt) (nI nr) mw ml mk dq))] H := hP
      have hD : va_D A [(r 7, .inl ((cT 0), 1000, .inl f7)), (r 13, .inl ((cT 0), 200, .inl f13)), (r 9, .inl ((cT 0), 1400, .inl f9)), (r 0, .inl ((cT 1), 64, .inr (.inl f0))), (r 11, .inl ((cT 0), 16, .inl f11)), (mo, .inr (12, mdG r 1 tm (nI sn) (nI 0) (nI lz) (nI az) (nI na) (nI nt) (nI nr) mw ml mk dq))] := hD
      refine lv_if_eq (tgt := 41) hx hb d_Md_reply_20 (by decide) (fun hc157 => ?_) (fun hn9 => absurd (by decide) hn9)
      refine lv_aload_n hx hb d_Md_reply_41 rfl (lv_at hl 0 rfl) ?_
      refine va_get (D := (dC, dI)) (ci := 12) (v := (.int 1)) (C := R_Md) (T := F_Md) (N := 45) hx hb hg in_Md hown hK hP 5 rfl rfl 1 (by decide) (hg _ k_1021) (fun _ h9 => h9) rfl d_Md_reply_42 ?_
      refine lv_if_le (tgt := 52) hx hb d_Md_reply_45 (by decide) (fun hn9 => absurd hn9 (by decide)) (fun hc158 => ?_)
      refine lv_iconst (v := 0) hx hb d_Md_reply_48 (by decide) ?_
      refine lv_goto (tgt := 53) hx hb d_Md_reply_49 (by decide) ?_
      have hP9 := hP.sub (ws' := [(mo, .inr (12, mdG r 1 tm (nI sn) (nI 0) (nI lz) (nI az) (nI na) (nI nt) (nI nr) mw ml mk dq)), (r 7, .inl ((cT 0), 1000, .inl f7)), (r 13, .inl ((cT 0), 200, .inl f13)), (r 9, .inl ((cT 0), 1400, .inl f9)), (r 0, .inl ((cT 1), 64, .inr (.inl f0))), (r 11, .inl ((cT 0), 16, .inl f11))]) [5, 0, 1, 2, 3, 4] rfl
      have hD9 := hD.sub (ws' := [(mo, .inr (12, mdG r 1 tm (nI sn) (nI 0) (nI lz) (nI az) (nI na) (nI nt) (nI nr) mw ml mk dq)), (r 7, .inl ((cT 0), 1000, .inl f7)), (r 13, .inl ((cT 0), 200, .inl f13)), (r 9, .inl ((cT 0), 1400, .inl f9)), (r 0, .inl ((cT 1), 64, .inr (.inl f0))), (r 11, .inl ((cT 0), 16, .inl f11))]) [5, 0, 1, 2, 3, 4] (by decide) rfl
      exact W.iret (v := 0) hx hb hr (fun t ht hW => ⟨⟨_, ⟨f7, f9, f11, 1, sn⟩, rfl, ⟨by first | assumption | omega, by first | assumption | omega, by first | assumption | omega, by first | assumption | omega⟩, by rw [ht]; exact hP9, va_K.moved hW.alike hK, hD9⟩, hS.F ht⟩) hS.2.2 d_Md_reply_53
  · skip
    refine lv_aload_n hx hb d_Md_reply_0 rfl (lv_at hl 0 rfl) ?_
    refine lv_iload_n hx hb d_Md_reply_1 rfl (lv_at hl 2 rfl) ?_
    refine lv_iconst (v := 1) hx hb d_Md_reply_2 (by decide) ?_
    refine lv_icmp_lt (tgt := 16) hx hb d_Md_reply_3 (by decide) (fun hc159 => ?_) (fun hc159 => ?_)
    · skip
      have n160 : yn < 1 := (nI_ltI (a := yn) (b := 1) (by omega) (by omega)).mp hc159
      refine lv_iconst (v := 0) hx hb d_Md_reply_16 (by decide) ?_
      have hPc := hP.sub (ws' := [(mo, .inr (12, mdG r cd tm (nI sn) (nI 0) (nI lz) (nI az) (nI na) (nI nt) (nI nr) mw ml mk dq))]) [0] rfl
      have hDc := hD.sub (ws' := [(mo, .inr (12, mdG r cd tm (nI sn) (nI 0) (nI lz) (nI az) (nI na) (nI nt) (nI nr) mw ml mk dq))]) [0] (by decide) rfl
      have hFc := va_free (wc := [(mo, .inr (12, mdG r cd tm (nI sn) (nI 0) (nI lz) (nI az) (nI na) (nI nt) (nI nr) mw ml mk dq))]) hD hS hA [0] rfl
      refine va_calli (va_runV (C := "DoorServerModel") (As := [.int 0]) (rest := []) ⟨hx, hb, hml, hown, hg⟩ (m_goes0 l dC dI cT s.heap.size mo r cd tm sn 0 lz az na nt nr mw ml mk dq ) (cwV 1 hg (gI (List.forall_mem_append.mpr ⟨List.forall_mem_cons.mpr ⟨k_1165, List.forall_mem_cons.mpr ⟨k_1167, List.forall_mem_cons.mpr ⟨(big_sel (q := y_Md_goes) (n := 45) (by decide +kernel)), List.forall_mem_cons.mpr ⟨k_13, fun _ h => absurd h List.not_mem_nil⟩⟩⟩⟩, List.forall_mem_cons.mpr ⟨k_1168, fun _ h => h⟩⟩)) rfl rfl rfl (by decide +kernel) ⟨Nat.le_of_ble_eq_true rfl, Nat.le_of_ble_eq_true rfl⟩) ⟨fun a U g mk q => by obtain ⟨q0, q1, qP, qK, qD⟩ := q; exact ⟨q0, q1, qP, va_K.moved (u := U) (U := U.calling g mk a) (Vm.Alike.refl U.vm) qK, qD⟩, va_recv (q0 := 0) (ci := 12) hK hP rfl rfl, fun U hU hW => ⟨rfl, by rw [hU], by rw [hU]; exact hPc, va_K.moved hW.alike hK, hDc.weaken (fun _ _ _ _ => trivial)⟩⟩ rfl rfl hl.1 rfl (lv_room (Nat.le_of_ble_eq_true rfl)) d_Md_reply_17 ⟨Nat.le_of_ble_eq_true rfl, Nat.le_of_ble_eq_true rfl⟩) hS (fun q _ h => hFc q h) hFc (fun rv9 u t H1 locs ht hvm hw hB hz1 hk1 hS => ?_)
      try dsimp only at hw hB
      obtain ⟨hP1, hK1, hD1⟩ := hB
      rw [ht] at hP1
      obtain ⟨rfl, hw⟩ := hw
      obtain ⟨hP, hD⟩ := va_join (wr := [(r 7, .inl ((cT 0), 1000, .inl f7)), (r 13, .inl ((cT 0), 200, .inl f13)), (r 9, .inl ((cT 0), 1400, .inl f9)), (r 0, .inl ((cT 1), 64, .inr (.inl f0))), (r 11, .inl ((cT 0), 16, .inl f11))]) (w1 := [(mo, .inr (12, mdG r 1 tm (nI sn) (nI 0) (nI lz) (nI az) (nI na) (nI nt) (nI nr) mw ml mk dq))]) hP hD [0] [1, 2, 3, 4, 5] rfl rfl (by decide) (by decide) hk1 hFc hP1 hD1
      have hw162 := hw
      clear hPc hDc hFc hz1 hk1 hP1 hK1 hD1
      generalize H1 = H at hP hS ⊢
      have hP : va_P (dC, dI) vcl [(r 7, .inl ((cT 0), 1000, .inl f7)), (r 13, .inl ((cT 0), 200, .inl f13)), (r 9, .inl ((cT 0), 1400, .inl f9)), (r 0, .inl ((cT 1), 64, .inr (.inl f0))), (r 11, .inl ((cT 0), 16, .inl f11)), (mo, .inr (12, mdG r 1 tm (nI sn) (nI 0) (nI lz) (nI az) (nI na) (nI nt) (nI nr) mw ml mk dq))] H := hP
      have hD : va_D A [(r 7, .inl ((cT 0), 1000, .inl f7)), (r 13, .inl ((cT 0), 200, .inl f13)), (r 9, .inl ((cT 0), 1400, .inl f9)), (r 0, .inl ((cT 1), 64, .inr (.inl f0))), (r 11, .inl ((cT 0), 16, .inl f11)), (mo, .inr (12, mdG r 1 tm (nI sn) (nI 0) (nI lz) (nI az) (nI na) (nI nt) (nI nr) mw ml mk dq))] := hD
      refine lv_if_eq (tgt := 41) hx hb d_Md_reply_20 (by decide) (fun hc163 => ?_) (fun hn9 => absurd (by decide) hn9)
      refine lv_aload_n hx hb d_Md_reply_41 rfl (lv_at hl 0 rfl) ?_
      refine va_get (D := (dC, dI)) (ci := 12) (v := (.int 1)) (C := R_Md) (T := F_Md) (N := 45) hx hb hg in_Md hown hK hP 5 rfl rfl 1 (by decide) (hg _ k_1021) (fun _ h9 => h9) rfl d_Md_reply_42 ?_
      refine lv_if_le (tgt := 52) hx hb d_Md_reply_45 (by decide) (fun hn9 => absurd hn9 (by decide)) (fun hc164 => ?_)
      refine lv_iconst (v := 0) hx hb d_Md_reply_48 (by decide) ?_
      refine lv_goto (tgt := 53) hx hb d_Md_reply_49 (by decide) ?_
      have hP9 := hP.sub (ws' := [(mo, .inr (12, mdG r 1 tm (nI sn) (nI 0) (nI lz) (nI az) (nI na) (nI nt) (nI nr) mw ml mk dq)), (r 7, .inl ((cT 0), 1000, .inl f7)), (r 13, .inl ((cT 0), 200, .inl f13)), (r 9, .inl ((cT 0), 1400, .inl f9)), (r 0, .inl ((cT 1), 64, .inr (.inl f0))), (r 11, .inl ((cT 0), 16, .inl f11))]) [5, 0, 1, 2, 3, 4] rfl
      have hD9 := hD.sub (ws' := [(mo, .inr (12, mdG r 1 tm (nI sn) (nI 0) (nI lz) (nI az) (nI na) (nI nt) (nI nr) mw ml mk dq)), (r 7, .inl ((cT 0), 1000, .inl f7)), (r 13, .inl ((cT 0), 200, .inl f13)), (r 9, .inl ((cT 0), 1400, .inl f9)), (r 0, .inl ((cT 1), 64, .inr (.inl f0))), (r 11, .inl ((cT 0), 16, .inl f11))]) [5, 0, 1, 2, 3, 4] (by decide) rfl
      exact W.iret (v := 0) hx hb hr (fun t ht hW => ⟨⟨_, ⟨f7, f9, f11, 1, sn⟩, rfl, ⟨by first | assumption | omega, by first | assumption | omega, by first | assumption | omega, by first | assumption | omega⟩, by rw [ht]; exact hP9, va_K.moved hW.alike hK, hD9⟩, hS.F ht⟩) hS.2.2 d_Md_reply_53
    · skip
      have n161 : 1 ≤ yn := Nat.not_lt.mp (fun h7 => hc159 ((nI_ltI (a := yn) (b := 1) (by omega) (by omega)).mpr h7))
      refine lv_iload_n hx hb d_Md_reply_6 rfl (lv_at hl 2 rfl) ?_
      refine lv_bipush (v := 60) hx hb d_Md_reply_7 (by decide) ?_
      refine lv_icmp_gt (tgt := 16) hx hb d_Md_reply_9 (by decide) (fun hc165 => ?_) (fun hc165 => ?_)
      · skip
        have n166 : 60 < yn := (nI_ltI (a := 60) (b := yn) (by omega) (by omega)).mp hc165
        refine lv_iconst (v := 0) hx hb d_Md_reply_16 (by decide) ?_
        have hPc := hP.sub (ws' := [(mo, .inr (12, mdG r cd tm (nI sn) (nI 0) (nI lz) (nI az) (nI na) (nI nt) (nI nr) mw ml mk dq))]) [0] rfl
        have hDc := hD.sub (ws' := [(mo, .inr (12, mdG r cd tm (nI sn) (nI 0) (nI lz) (nI az) (nI na) (nI nt) (nI nr) mw ml mk dq))]) [0] (by decide) rfl
        have hFc := va_free (wc := [(mo, .inr (12, mdG r cd tm (nI sn) (nI 0) (nI lz) (nI az) (nI na) (nI nt) (nI nr) mw ml mk dq))]) hD hS hA [0] rfl
        refine va_calli (va_runV (C := "DoorServerModel") (As := [.int 0]) (rest := []) ⟨hx, hb, hml, hown, hg⟩ (m_goes0 l dC dI cT s.heap.size mo r cd tm sn 0 lz az na nt nr mw ml mk dq ) (cwV 1 hg (gI (List.forall_mem_append.mpr ⟨List.forall_mem_cons.mpr ⟨k_1165, List.forall_mem_cons.mpr ⟨k_1167, List.forall_mem_cons.mpr ⟨(big_sel (q := y_Md_goes) (n := 45) (by decide +kernel)), List.forall_mem_cons.mpr ⟨k_13, fun _ h => absurd h List.not_mem_nil⟩⟩⟩⟩, List.forall_mem_cons.mpr ⟨k_1168, fun _ h => h⟩⟩)) rfl rfl rfl (by decide +kernel) ⟨Nat.le_of_ble_eq_true rfl, Nat.le_of_ble_eq_true rfl⟩) ⟨fun a U g mk q => by obtain ⟨q0, q1, qP, qK, qD⟩ := q; exact ⟨q0, q1, qP, va_K.moved (u := U) (U := U.calling g mk a) (Vm.Alike.refl U.vm) qK, qD⟩, va_recv (q0 := 0) (ci := 12) hK hP rfl rfl, fun U hU hW => ⟨rfl, by rw [hU], by rw [hU]; exact hPc, va_K.moved hW.alike hK, hDc.weaken (fun _ _ _ _ => trivial)⟩⟩ rfl rfl hl.1 rfl (lv_room (Nat.le_of_ble_eq_true rfl)) d_Md_reply_17 ⟨Nat.le_of_ble_eq_true rfl, Nat.le_of_ble_eq_true rfl⟩) hS (fun q _ h => hFc q h) hFc (fun rv9 u t H1 locs ht hvm hw hB hz1 hk1 hS => ?_)
        try dsimp only at hw hB
        obtain ⟨hP1, hK1, hD1⟩ := hB
        rw [ht] at hP1
        obtain ⟨rfl, hw⟩ := hw
        obtain ⟨hP, hD⟩ := va_join (wr := [(r 7, .inl ((cT 0), 1000, .inl f7)), (r 13, .inl ((cT 0), 200, .inl f13)), (r 9, .inl ((cT 0), 1400, .inl f9)), (r 0, .inl ((cT 1), 64, .inr (.inl f0))), (r 11, .inl ((cT 0), 16, .inl f11))]) (w1 := [(mo, .inr (12, mdG r 1 tm (nI sn) (nI 0) (nI lz) (nI az) (nI na) (nI nt) (nI nr) mw ml mk dq))]) hP hD [0] [1, 2, 3, 4, 5] rfl rfl (by decide) (by decide) hk1 hFc hP1 hD1
        have hw168 := hw
        clear hPc hDc hFc hz1 hk1 hP1 hK1 hD1
        generalize H1 = H at hP hS ⊢
        have hP : va_P (dC, dI) vcl [(r 7, .inl ((cT 0), 1000, .inl f7)), (r 13, .inl ((cT 0), 200, .inl f13)), (r 9, .inl ((cT 0), 1400, .inl f9)), (r 0, .inl ((cT 1), 64, .inr (.inl f0))), (r 11, .inl ((cT 0), 16, .inl f11)), (mo, .inr (12, mdG r 1 tm (nI sn) (nI 0) (nI lz) (nI az) (nI na) (nI nt) (nI nr) mw ml mk dq))] H := hP
        have hD : va_D A [(r 7, .inl ((cT 0), 1000, .inl f7)), (r 13, .inl ((cT 0), 200, .inl f13)), (r 9, .inl ((cT 0), 1400, .inl f9)), (r 0, .inl ((cT 1), 64, .inr (.inl f0))), (r 11, .inl ((cT 0), 16, .inl f11)), (mo, .inr (12, mdG r 1 tm (nI sn) (nI 0) (nI lz) (nI az) (nI na) (nI nt) (nI nr) mw ml mk dq))] := hD
        refine lv_if_eq (tgt := 41) hx hb d_Md_reply_20 (by decide) (fun hc169 => ?_) (fun hn9 => absurd (by decide) hn9)
        refine lv_aload_n hx hb d_Md_reply_41 rfl (lv_at hl 0 rfl) ?_
        refine va_get (D := (dC, dI)) (ci := 12) (v := (.int 1)) (C := R_Md) (T := F_Md) (N := 45) hx hb hg in_Md hown hK hP 5 rfl rfl 1 (by decide) (hg _ k_1021) (fun _ h9 => h9) rfl d_Md_reply_42 ?_
        refine lv_if_le (tgt := 52) hx hb d_Md_reply_45 (by decide) (fun hn9 => absurd hn9 (by decide)) (fun hc170 => ?_)
        refine lv_iconst (v := 0) hx hb d_Md_reply_48 (by decide) ?_
        refine lv_goto (tgt := 53) hx hb d_Md_reply_49 (by decide) ?_
        have hP9 := hP.sub (ws' := [(mo, .inr (12, mdG r 1 tm (nI sn) (nI 0) (nI lz) (nI az) (nI na) (nI nt) (nI nr) mw ml mk dq)), (r 7, .inl ((cT 0), 1000, .inl f7)), (r 13, .inl ((cT 0), 200, .inl f13)), (r 9, .inl ((cT 0), 1400, .inl f9)), (r 0, .inl ((cT 1), 64, .inr (.inl f0))), (r 11, .inl ((cT 0), 16, .inl f11))]) [5, 0, 1, 2, 3, 4] rfl
        have hD9 := hD.sub (ws' := [(mo, .inr (12, mdG r 1 tm (nI sn) (nI 0) (nI lz) (nI az) (nI na) (nI nt) (nI nr) mw ml mk dq)), (r 7, .inl ((cT 0), 1000, .inl f7)), (r 13, .inl ((cT 0), 200, .inl f13)), (r 9, .inl ((cT 0), 1400, .inl f9)), (r 0, .inl ((cT 1), 64, .inr (.inl f0))), (r 11, .inl ((cT 0), 16, .inl f11))]) [5, 0, 1, 2, 3, 4] (by decide) rfl
        exact W.iret (v := 0) hx hb hr (fun t ht hW => ⟨⟨_, ⟨f7, f9, f11, 1, sn⟩, rfl, ⟨by first | assumption | omega, by first | assumption | omega, by first | assumption | omega, by first | assumption | omega⟩, by rw [ht]; exact hP9, va_K.moved hW.alike hK, hD9⟩, hS.F ht⟩) hS.2.2 d_Md_reply_53
      · skip
        have n167 : yn ≤ 60 := Nat.not_lt.mp (fun h7 => hc165 ((nI_ltI (a := 60) (b := yn) (by omega) (by omega)).mpr h7))
        refine lv_iconst (v := 1) hx hb d_Md_reply_12 (by decide) ?_
        refine lv_goto (tgt := 17) hx hb d_Md_reply_13 (by decide) ?_
        have hPc := hP.sub (ws' := [(mo, .inr (12, mdG r cd tm (nI sn) (nI 0) (nI lz) (nI az) (nI na) (nI nt) (nI nr) mw ml mk dq))]) [0] rfl
        have hDc := hD.sub (ws' := [(mo, .inr (12, mdG r cd tm (nI sn) (nI 0) (nI lz) (nI az) (nI na) (nI nt) (nI nr) mw ml mk dq))]) [0] (by decide) rfl
        have hFc := va_free (wc := [(mo, .inr (12, mdG r cd tm (nI sn) (nI 0) (nI lz) (nI az) (nI na) (nI nt) (nI nr) mw ml mk dq))]) hD hS hA [0] rfl
        refine va_calli (va_runV (C := "DoorServerModel") (As := [.int 1]) (rest := []) ⟨hx, hb, hml, hown, hg⟩ (m_goes1 l dC dI cT s.heap.size mo r cd tm sn 0 lz az na nt nr mw ml mk dq ) (cwV 1 hg (gI (List.forall_mem_append.mpr ⟨List.forall_mem_cons.mpr ⟨k_1165, List.forall_mem_cons.mpr ⟨k_1167, List.forall_mem_cons.mpr ⟨(big_sel (q := y_Md_goes) (n := 45) (by decide +kernel)), List.forall_mem_cons.mpr ⟨k_13, fun _ h => absurd h List.not_mem_nil⟩⟩⟩⟩, List.forall_mem_cons.mpr ⟨k_1168, fun _ h => h⟩⟩)) rfl rfl rfl (by decide +kernel) ⟨Nat.le_of_ble_eq_true rfl, Nat.le_of_ble_eq_true rfl⟩) ⟨fun a U g mk q => by obtain ⟨q0, q1, qP, qK, qD⟩ := q; exact ⟨q0, q1, qP, va_K.moved (u := U) (U := U.calling g mk a) (Vm.Alike.refl U.vm) qK, qD⟩, va_recv (q0 := 0) (ci := 12) hK hP rfl rfl, fun U hU hW => ⟨rfl, by rw [hU], by rw [hU]; exact hPc, va_K.moved hW.alike hK, hDc.weaken (fun _ _ _ _ => trivial)⟩⟩ rfl rfl hl.1 rfl (lv_room (Nat.le_of_ble_eq_true rfl)) d_Md_reply_17 ⟨Nat.le_of_ble_eq_true rfl, Nat.le_of_ble_eq_true rfl⟩) hS (fun q _ h => hFc q h) hFc (fun rv9 u t H1 locs ht hvm hw hB hz1 hk1 hS => ?_)
        try dsimp only at hw hB
        obtain ⟨hP1, hK1, hD1⟩ := hB
        rw [ht] at hP1
        obtain ⟨rfl, hw⟩ := hw
        obtain ⟨hP, hD⟩ := va_join (wr := [(r 7, .inl ((cT 0), 1000, .inl f7)), (r 13, .inl ((cT 0), 200, .inl f13)), (r 9, .inl ((cT 0), 1400, .inl f9)), (r 0, .inl ((cT 1), 64, .inr (.inl f0))), (r 11, .inl ((cT 0), 16, .inl f11))]) (w1 := [(mo, .inr (12, mdG r 0 tm (nI sn) (nI 0) (nI lz) (nI az) (nI na) (nI nt) (nI nr) mw ml mk dq))]) hP hD [0] [1, 2, 3, 4, 5] rfl rfl (by decide) (by decide) hk1 hFc hP1 hD1
        have hw171 := hw
        clear hPc hDc hFc hz1 hk1 hP1 hK1 hD1
        generalize H1 = H at hP hS ⊢
        have hP : va_P (dC, dI) vcl [(r 7, .inl ((cT 0), 1000, .inl f7)), (r 13, .inl ((cT 0), 200, .inl f13)), (r 9, .inl ((cT 0), 1400, .inl f9)), (r 0, .inl ((cT 1), 64, .inr (.inl f0))), (r 11, .inl ((cT 0), 16, .inl f11)), (mo, .inr (12, mdG r 0 tm (nI sn) (nI 0) (nI lz) (nI az) (nI na) (nI nt) (nI nr) mw ml mk dq))] H := hP
        have hD : va_D A [(r 7, .inl ((cT 0), 1000, .inl f7)), (r 13, .inl ((cT 0), 200, .inl f13)), (r 9, .inl ((cT 0), 1400, .inl f9)), (r 0, .inl ((cT 1), 64, .inr (.inl f0))), (r 11, .inl ((cT 0), 16, .inl f11)), (mo, .inr (12, mdG r 0 tm (nI sn) (nI 0) (nI lz) (nI az) (nI na) (nI nt) (nI nr) mw ml mk dq))] := hD
        refine lv_if_eq (tgt := 41) hx hb d_Md_reply_20 (by decide) (fun hn9 => absurd hn9 (by decide)) (fun hc172 => ?_)
        refine lv_aload_n hx hb d_Md_reply_23 rfl (lv_at hl 0 rfl) ?_
        refine va_get (D := (dC, dI)) (ci := 12) (v := (.int (nI lz))) (C := R_Md) (T := F_Md) (N := 45) hx hb hg in_Md hown hK hP 5 rfl rfl 14 (by decide) (hg _ k_1034) (fun _ h9 => h9) rfl d_Md_reply_24 ?_
        refine lv_if_eq (tgt := 41) hx hb d_Md_reply_27 (by decide) (fun hc173 => ?_) (fun hc173 => ?_)
        · skip
          have n174 : lz = 0 := (nI_eq (a := lz) (b := 0) (by omega) (by omega)).mp hc173
          refine lv_aload_n hx hb d_Md_reply_41 rfl (lv_at hl 0 rfl) ?_
          refine va_get (D := (dC, dI)) (ci := 12) (v := (.int 0)) (C := R_Md) (T := F_Md) (N := 45) hx hb hg in_Md hown hK hP 5 rfl rfl 1 (by decide) (hg _ k_1021) (fun _ h9 => h9) rfl d_Md_reply_42 ?_
          refine lv_if_le (tgt := 52) hx hb d_Md_reply_45 (by decide) (fun hc176 => ?_) (fun hn9 => absurd (by decide) hn9)
          refine lv_iconst (v := (-1)) hx hb d_Md_reply_52 (by decide) ?_
          have hP9 := hP.sub (ws' := [(mo, .inr (12, mdG r 0 tm (nI sn) (nI 0) (nI lz) (nI az) (nI na) (nI nt) (nI nr) mw ml mk dq)), (r 7, .inl ((cT 0), 1000, .inl f7)), (r 13, .inl ((cT 0), 200, .inl f13)), (r 9, .inl ((cT 0), 1400, .inl f9)), (r 0, .inl ((cT 1), 64, .inr (.inl f0))), (r 11, .inl ((cT 0), 16, .inl f11))]) [5, 0, 1, 2, 3, 4] rfl
          have hD9 := hD.sub (ws' := [(mo, .inr (12, mdG r 0 tm (nI sn) (nI 0) (nI lz) (nI az) (nI na) (nI nt) (nI nr) mw ml mk dq)), (r 7, .inl ((cT 0), 1000, .inl f7)), (r 13, .inl ((cT 0), 200, .inl f13)), (r 9, .inl ((cT 0), 1400, .inl f9)), (r 0, .inl ((cT 1), 64, .inr (.inl f0))), (r 11, .inl ((cT 0), 16, .inl f11))]) [5, 0, 1, 2, 3, 4] (by decide) rfl
          exact W.iret (v := (-1)) hx hb hr (fun t ht hW => ⟨⟨_, ⟨f7, f9, f11, 0, sn⟩, rfl, ⟨by first | assumption | omega, by first | assumption | omega, by first | assumption | omega, by first | assumption | omega⟩, by rw [ht]; exact hP9, va_K.moved hW.alike hK, hD9⟩, hS.F ht⟩) hS.2.2 d_Md_reply_53
        · skip
          have n175 : ¬ lz = 0 := fun h7 => hc173 ((nI_eq (a := lz) (b := 0) (by omega) (by omega)).mpr h7)
          refine lv_aload_n hx hb d_Md_reply_30 rfl (lv_at hl 0 rfl) ?_
          refine va_get (D := (dC, dI)) (ci := 12) (v := (.ref (r 13))) (C := R_Md) (T := F_Md) (N := 45) hx hb hg in_Md hown hK hP 5 rfl rfl 13 (by decide) (hg _ k_1033) (fun _ h9 => h9) rfl d_Md_reply_31 ?_
          refine lv_iconst (v := 0) hx hb d_Md_reply_34 (by decide) ?_
          refine lv_topi (fun x178 e177 => ?_)
          obtain rfl : x178 = nI 0 := by rw [e177]; rfl
          refine va_iald hx hb hK hP 1 0 rfl rfl (i := (nI 0)) (vp_in_nI (N := 200) (by omega) (by decide)) d_Md_reply_35 ?_
          refine lv_topi (fun x179 e_x179 => ?_)
          clear e_x179
          refine lv_bipush (v := 11) hx hb d_Md_reply_36 (by decide) ?_
          refine lv_icmp_eq (tgt := 54) hx hb d_Md_reply_38 (by decide) (fun hc180 => ?_) (fun hc180 => ?_)
          · skip
            refine lv_aload_n hx hb d_Md_reply_54 rfl (lv_at hl 0 rfl) ?_
            refine lv_aload_n hx hb d_Md_reply_55 rfl (lv_at hl 0 rfl) ?_
            refine va_get (D := (dC, dI)) (ci := 12) (v := (.int (nI sn))) (C := R_Md) (T := F_Md) (N := 45) hx hb hg in_Md hown hK hP 5 rfl rfl 8 (by decide) (hg _ k_1028) (fun _ h9 => h9) rfl d_Md_reply_56 ?_
            refine lv_bipush (v := 34) hx hb d_Md_reply_59 (by decide) ?_
            refine lv_iadd hx hb d_Md_reply_61 ?_
            refine lv_topi (fun x182 e181 => ?_)
            obtain rfl : x182 = nI (sn + 34) := by rw [e181]; exact nI_add sn 34
            refine lv_sipush (v := 1000) hx hb d_Md_reply_62 (by decide) ?_
            refine lv_icmp_le (tgt := 72) hx hb d_Md_reply_65 (by decide) (fun hc183 => ?_) (fun hc183 => ?_)
            · skip
              have n184 : sn + 34 ≤ 1000 := (nI_leI (a := sn + 34) (b := 1000) (by omega) (by omega)).mp hc183
              refine lv_iconst (v := 0) hx hb d_Md_reply_72 (by decide) ?_
              refine va_put (D := (dC, dI)) (ci := 12) (v := (.int 0)) (ty := .int) (C := R_Md) (T := F_Md) (N := 45) hx hb hg in_Md t_Md tok_Md nm_Md hown hK hP hD hS 5 rfl rfl 1 (by decide) (hg _ k_1021) (fun _ h9 => h9) rfl (by decide +kernel) rfl rfl (Nat.le_of_ble_eq_true rfl) d_Md_reply_73 (fun H locs hP hD hS => ?_)
              have hP : va_P (dC, dI) vcl [(r 7, .inl ((cT 0), 1000, .inl f7)), (r 13, .inl ((cT 0), 200, .inl f13)), (r 9, .inl ((cT 0), 1400, .inl f9)), (r 0, .inl ((cT 1), 64, .inr (.inl f0))), (r 11, .inl ((cT 0), 16, .inl f11)), (mo, .inr (12, mdG r 0 tm (nI sn) (nI 0) (nI lz) (nI az) (nI na) (nI nt) (nI nr) mw ml mk dq))] H := hP
              have hD : va_D A [(r 7, .inl ((cT 0), 1000, .inl f7)), (r 13, .inl ((cT 0), 200, .inl f13)), (r 9, .inl ((cT 0), 1400, .inl f9)), (r 0, .inl ((cT 1), 64, .inr (.inl f0))), (r 11, .inl ((cT 0), 16, .inl f11)), (mo, .inr (12, mdG r 0 tm (nI sn) (nI 0) (nI lz) (nI az) (nI na) (nI nt) (nI nr) mw ml mk dq))] := hD
              refine lv_aload_n hx hb d_Md_reply_76 rfl (lv_at hl 0 rfl) ?_
              refine va_get (D := (dC, dI)) (ci := 12) (v := (.int 0)) (C := R_Md) (T := F_Md) (N := 45) hx hb hg in_Md hown hK hP 5 rfl rfl 1 (by decide) (hg _ k_1021) (fun _ h9 => h9) rfl d_Md_reply_77 ?_
              refine lv_if_le (tgt := 85) hx hb d_Md_reply_80 (by decide) (fun hc186 => ?_) (fun hn9 => absurd (by decide) hn9)
              refine lv_aload_n hx hb d_Md_reply_85 rfl (lv_at hl 0 rfl) ?_
              refine lv_bipush (v := 24) hx hb d_Md_reply_86 (by decide) ?_
              refine lv_bipush (v := 8) hx hb d_Md_reply_88 (by decide) ?_
              refine lv_topi (fun x188 e187 => ?_)
              obtain rfl : x188 = nI 8 := by rw [e187]; rfl
              have hPc := hP.sub (ws' := [(mo, .inr (12, mdG r 0 tm (nI sn) (nI 0) (nI lz) (nI az) (nI na) (nI nt) (nI nr) mw ml mk dq)), (r 7, .inl ((cT 0), 1000, .inl f7))]) [5, 0] rfl
              have hDc := hD.sub (ws' := [(mo, .inr (12, mdG r 0 tm (nI sn) (nI 0) (nI lz) (nI az) (nI na) (nI nt) (nI nr) mw ml mk dq)), (r 7, .inl ((cT 0), 1000, .inl f7))]) [5, 0] (by decide) rfl
              have hFc := va_free (wc := [(mo, .inr (12, mdG r 0 tm (nI sn) (nI 0) (nI lz) (nI az) (nI na) (nI nt) (nI nr) mw ml mk dq)), (r 7, .inl ((cT 0), 1000, .inl f7))]) hD hS hA [5, 0] rfl
              refine va_calli (va_runV (C := "DoorServerModel") (As := [.int 24, .int (nI 8)]) (rest := []) ⟨hx, hb, hml, hown, hg⟩ (m_opens1 l dC dI cT H.size mo r 0 tm sn 0 lz az na nt nr mw ml mk dq f7 24 8 (by first | assumption | omega) (by first | assumption | omega)) (cwV 2 hg (gI (List.forall_mem_append.mpr ⟨List.forall_mem_cons.mpr ⟨k_1188, List.forall_mem_cons.mpr ⟨k_1190, List.forall_mem_cons.mpr ⟨(big_sel (q := y_Md_opens) (n := 45) (by decide +kernel)), List.forall_mem_cons.mpr ⟨k_13, fun _ h => absurd h List.not_mem_nil⟩⟩⟩⟩, List.forall_mem_cons.mpr ⟨k_1191, fun _ h => h⟩⟩)) rfl rfl rfl (by decide +kernel) ⟨Nat.le_of_ble_eq_true rfl, Nat.le_of_ble_eq_true rfl⟩) ⟨fun a U g mk q => by obtain ⟨q0, q1, qP, qK, qD⟩ := q; exact ⟨q0, q1, qP, va_K.moved (u := U) (U := U.calling g mk a) (Vm.Alike.refl U.vm) qK, qD⟩, va_recv (q0 := 5) (ci := 12) hK hP rfl rfl, fun U hU hW => ⟨rfl, by rw [hU], by rw [hU]; exact hPc, va_K.moved hW.alike hK, hDc.weaken (fun _ _ _ _ => trivial)⟩⟩ rfl rfl hl.1 rfl (lv_room (Nat.le_of_ble_eq_true rfl)) d_Md_reply_90 ⟨Nat.le_of_ble_eq_true rfl, Nat.le_of_ble_eq_true rfl⟩) hS (fun q _ h => hFc q h) hFc (fun rv9 u t H1 locs ht hvm hw hB hz1 hk1 hS => ?_)
              obtain ⟨g7_189, rfl⟩ : ∃ z, z = u := ⟨_, rfl⟩
              try dsimp only at hw hB
              obtain ⟨hP1, hK1, hD1⟩ := hB
              rw [ht] at hP1
              obtain ⟨rfl, hw⟩ := hw
              obtain ⟨hP, hD⟩ := va_join (wr := [(r 13, .inl ((cT 0), 200, .inl f13)), (r 9, .inl ((cT 0), 1400, .inl f9)), (r 0, .inl ((cT 1), 64, .inr (.inl f0))), (r 11, .inl ((cT 0), 16, .inl f11))]) (w1 := [(mo, .inr (12, mdG r 0 tm (nI (sn + 2)) (nI 0) (nI lz) (nI az) (nI na) (nI nt) (nI nr) mw ml mk dq)), (r 7, .inl ((cT 0), 1000, .inl g7_189))]) hP hD [5, 0] [1, 2, 3, 4] rfl rfl (by decide) (by decide) hk1 hFc hP1 hD1
              have hw190 := hw
              clear hPc hDc hFc hz1 hk1 hP1 hK1 hD1
              generalize H1 = H at hP hS ⊢
              have hP : va_P (dC, dI) vcl [(r 13, .inl ((cT 0), 200, .inl f13)), (r 9, .inl ((cT 0), 1400, .inl f9)), (r 0, .inl ((cT 1), 64, .inr (.inl f0))), (r 11, .inl ((cT 0), 16, .inl f11)), (mo, .inr (12, mdG r 0 tm (nI (sn + 2)) (nI 0) (nI lz) (nI az) (nI na) (nI nt) (nI nr) mw ml mk dq)), (r 7, .inl ((cT 0), 1000, .inl g7_189))] H := hP
              have hD : va_D A [(r 13, .inl ((cT 0), 200, .inl f13)), (r 9, .inl ((cT 0), 1400, .inl f9)), (r 0, .inl ((cT 1), 64, .inr (.inl f0))), (r 11, .inl ((cT 0), 16, .inl f11)), (mo, .inr (12, mdG r 0 tm (nI (sn + 2)) (nI 0) (nI lz) (nI az) (nI na) (nI nt) (nI nr) mw ml mk dq)), (r 7, .inl ((cT 0), 1000, .inl g7_189))] := hD
              have k191 := hw190
              refine lv_istore (lv' := [(4, .int 1), (0, .ref mo), (1, .long v), (3, .int (nI yn))]) hx hb d_Md_reply_93 hl (by decide) rfl (fun ls hl => ?_)
              refine lv_iconst (v := 0) hx hb d_Md_reply_95 (by decide) ?_
              refine lv_istore (lv' := [(5, .int 0), (4, .int 1), (0, .ref mo), (1, .long v), (3, .int (nI yn))]) hx hb d_Md_reply_96 hl (by decide) rfl (fun ls hl => ?_)
              have hl := lv_sub hl [0, 1, 2, 3, 4] (show _ = [(5, .int 0), (4, .int 1), (0, .ref mo), (1, .long v), (3, .int (nI yn))] from rfl)
              have L193 : ∀ (Q : State → Prop) (exit : ∀ (g7_192 : Nat → Int32) (H : Heap) (locs : List Loc) (ls : Array Slot), (AB g7_192) → va_P (dC, dI) vcl [(r 13, .inl ((cT 0), 200, .inl f13)), (r 9, .inl ((cT 0), 1400, .inl f9)), (r 0, .inl ((cT 1), 64, .inr (.inl f0))), (r 11, .inl ((cT 0), 16, .inl f11)), (mo, .inr (12, mdG r 0 tm (nI (sn + 2 + 8)) (nI 0) (nI lz) (nI az) (nI na) (nI nt) (nI nr) mw ml mk dq)), (r 7, .inl ((cT 0), 1000, .inl g7_192))] H → va_D A [(r 13, .inl ((cT 0), 200, .inl f13)), (r 9, .inl ((cT 0), 1400, .inl f9)), (r 0, .inl ((cT 1), 64, .inr (.inl f0))), (r 11, .inl ((cT 0), 16, .inl f11)), (mo, .inr (12, mdG r 0 tm (nI (sn + 2 + 8)) (nI 0) (nI lz) (nI az) (nI na) (nI nt) (nI nr) mw ml mk dq)), (r 7, .inl ((cT 0), 1000, .inl g7_192))] → va_S A s.heap H locs → lv_has ls 6 [(5, .int (nI 8)), (4, .int 1), (0, .ref mo), (1, .long v), (3, .int (nI yn))] → W p l e ({ frames := 2, cells := 0, slots := 0, locals := 69 } : Room) s m args below meth c H locs 0 0 Q (F0 m 125 ls [])) (j8 i : Nat) (g7_192 : Nat → Int32) (H : Heap) (locs : List Loc) (ls : Array Slot), i + j8 = 8 → (AB g7_192) → va_P (dC, dI) vcl [(r 13, .inl ((cT 0), 200, .inl f13)), (r 9, .inl ((cT 0), 1400, .inl f9)), (r 0, .inl ((cT 1), 64, .inr (.inl f0))), (r 11, .inl ((cT 0), 16, .inl f11)), (mo, .inr (12, mdG r 0 tm (nI (sn + 2 + i)) (nI 0) (nI lz) (nI az) (nI na) (nI nt) (nI nr) mw ml mk dq)), (r 7, .inl ((cT 0), 1000, .inl g7_192))] H → va_D A [(r 13, .inl ((cT 0), 200, .inl f13)), (r 9, .inl ((cT 0), 1400, .inl f9)), (r 0, .inl ((cT 1), 64, .inr (.inl f0))), (r 11, .inl ((cT 0), 16, .inl f11)), (mo, .inr (12, mdG r 0 tm (nI (sn + 2 + i)) (nI 0) (nI lz) (nI az) (nI na) (nI nt) (nI nr) mw ml mk dq)), (r 7, .inl ((cT 0), 1000, .inl g7_192))] → va_S A s.heap H locs → lv_has ls 6 [(5, .int (nI i)), (4, .int 1), (0, .ref mo), (1, .long v), (3, .int (nI yn))] → W p l e ({ frames := 2, cells := 0, slots := 0, locals := 69 } : Room) s m args below meth c H locs 0 0 Q (F0 m 98 ls []) := by
                intro Q exit j8
                induction j8 with
                | zero => 
                  intro i g7_192 H locs ls hij hab hP hD hS hl
                  have hij : 8 = i := by omega
                  refine lv_iload hx hb d_Md_reply_98 (lv_at hl 0 rfl) ?_
                  refine lv_bipush (v := 8) hx hb d_Md_reply_100 (by decide) ?_
                  refine lv_topi (fun x195 e194 => ?_)
                  obtain rfl : x195 = nI 8 := by rw [e194]; rfl
                  refine lv_icmp_ge (tgt := 125) hx hb d_Md_reply_102 (by decide) (fun hc196 => ?_) (fun hn9 => absurd (nI_le (by omega) (by omega)) hn9)
                  subst hij
                  exact exit g7_192 _ _ _ hab hP hD hS hl
                | succ j8 ih => 
                  intro i g7_192 H locs ls hij hab hP hD hS hl
                  have hlt : i < 8 := by omega
                  have hlti := hlt
                  refine lv_iload hx hb d_Md_reply_98 (lv_at hl 0 rfl) ?_
                  refine lv_bipush (v := 8) hx hb d_Md_reply_100 (by decide) ?_
                  refine lv_topi (fun x198 e197 => ?_)
                  obtain rfl : x198 = nI 8 := by rw [e197]; rfl
                  refine lv_icmp_ge (tgt := 125) hx hb d_Md_reply_102 (by decide) (fun hn9 => absurd hn9 (nI_ge (by omega) (by omega))) (fun hc199 => ?_)
                  refine lv_aload_n hx hb d_Md_reply_105 rfl (lv_at hl 2 rfl) ?_
                  refine lv_aload_n hx hb d_Md_reply_106 rfl (lv_at hl 2 rfl) ?_
                  refine va_get (D := (dC, dI)) (ci := 12) (v := (.ref (r 13))) (C := R_Md) (T := F_Md) (N := 45) hx hb hg in_Md hown hK hP 4 rfl rfl 13 (by decide) (hg _ k_1033) (fun _ h9 => h9) rfl d_Md_reply_107 ?_
                  refine lv_bipush (v := 22) hx hb d_Md_reply_110 (by decide) ?_
                  refine lv_iload hx hb d_Md_reply_112 (lv_at hl 0 rfl) ?_
                  refine lv_iadd hx hb d_Md_reply_114 ?_
                  refine lv_topi (fun x201 e200 => ?_)
                  obtain rfl : x201 = nI (22 + i) := by rw [e200]; exact nI_add 22 i
                  refine va_iald hx hb hK hP 0 0 rfl rfl (i := (nI (22 + i))) (vp_in_nI (N := 200) (by omega) (by decide)) d_Md_reply_115 ?_
                  refine lv_topi (fun x202 e_x202 => ?_)
                  clear e_x202
                  have hPc := hP.sub (ws' := [(mo, .inr (12, mdG r 0 tm (nI (sn + 2 + i)) (nI 0) (nI lz) (nI az) (nI na) (nI nt) (nI nr) mw ml mk dq)), (r 7, .inl ((cT 0), 1000, .inl g7_192))]) [4, 5] rfl
                  have hDc := hD.sub (ws' := [(mo, .inr (12, mdG r 0 tm (nI (sn + 2 + i)) (nI 0) (nI lz) (nI az) (nI na) (nI nt) (nI nr) mw ml mk dq)), (r 7, .inl ((cT 0), 1000, .inl g7_192))]) [4, 5] (by decide) rfl
                  have hFc := va_free (wc := [(mo, .inr (12, mdG r 0 tm (nI (sn + 2 + i)) (nI 0) (nI lz) (nI az) (nI na) (nI nt) (nI nr) mw ml mk dq)), (r 7, .inl ((cT 0), 1000, .inl g7_192))]) hD hS hA [4, 5] rfl
                  refine va_callv (va_runV (C := "DoorServerModel") (As := [.int x202]) (rest := []) ⟨hx, hb, hml, hown, hg⟩ (m_add l dC dI cT H.size mo r 0 tm (sn + 2 + i) 0 lz az na nt nr mw ml mk dq g7_192 x202 (by first | assumption | omega) (by first | assumption | omega)) (cwV 1 hg (gI (List.forall_mem_append.mpr ⟨List.forall_mem_cons.mpr ⟨k_1015, List.forall_mem_cons.mpr ⟨k_1017, List.forall_mem_cons.mpr ⟨(big_sel (q := y_Md_add) (n := 45) (by decide +kernel)), List.forall_mem_cons.mpr ⟨k_13, fun _ h => absurd h List.not_mem_nil⟩⟩⟩⟩, List.forall_mem_cons.mpr ⟨k_1018, fun _ h => h⟩⟩)) rfl rfl rfl (by decide +kernel) ⟨Nat.le_of_ble_eq_true rfl, Nat.le_of_ble_eq_true rfl⟩) ⟨fun a U g mk q => by obtain ⟨q0, q1, qP, qK, qD⟩ := q; exact ⟨q0, q1, qP, va_K.moved (u := U) (U := U.calling g mk a) (Vm.Alike.refl U.vm) qK, qD⟩, va_recv (q0 := 4) (ci := 12) hK hP rfl rfl, fun U hU hW => ⟨rfl, by rw [hU], by rw [hU]; exact hPc, va_K.moved hW.alike hK, hDc.weaken (fun _ _ _ _ => trivial)⟩⟩ rfl rfl hl.1 rfl (lv_room (Nat.le_of_ble_eq_true rfl)) d_Md_reply_116 ⟨Nat.le_of_ble_eq_true rfl, Nat.le_of_ble_eq_true rfl⟩) hS (fun q _ h => hFc q h) hFc (fun u t H1 locs ht hvm hw hB hz1 hk1 hS => ?_)
                  obtain ⟨g7_203, rfl⟩ : ∃ z, z = u := ⟨_, rfl⟩
                  try dsimp only at hw hB
                  obtain ⟨hP1, hK1, hD1⟩ := hB
                  rw [ht] at hP1
                  obtain ⟨hP, hD⟩ := va_join (wr := [(r 13, .inl ((cT 0), 200, .inl f13)), (r 9, .inl ((cT 0), 1400, .inl f9)), (r 0, .inl ((cT 1), 64, .inr (.inl f0))), (r 11, .inl ((cT 0), 16, .inl f11))]) (w1 := [(mo, .inr (12, mdG r 0 tm (nI ((sn + 2 + i) + 1)) (nI 0) (nI lz) (nI az) (nI na) (nI nt) (nI nr) mw ml mk dq)), (r 7, .inl ((cT 0), 1000, .inl g7_203))]) hP hD [4, 5] [0, 1, 2, 3] rfl rfl (by decide) (by decide) hk1 hFc hP1 hD1
                  have hw204 := hw
                  clear hPc hDc hFc hz1 hk1 hP1 hK1 hD1
                  generalize H1 = H at hP hS ⊢
                  have hP : va_P (dC, dI) vcl [(r 13, .inl ((cT 0), 200, .inl f13)), (r 9, .inl ((cT 0), 1400, .inl f9)), (r 0, .inl ((cT 1), 64, .inr (.inl f0))), (r 11, .inl ((cT 0), 16, .inl f11)), (mo, .inr (12, mdG r 0 tm (nI ((sn + 2 + i) + 1)) (nI 0) (nI lz) (nI az) (nI na) (nI nt) (nI nr) mw ml mk dq)), (r 7, .inl ((cT 0), 1000, .inl g7_203))] H := hP
                  have hD : va_D A [(r 13, .inl ((cT 0), 200, .inl f13)), (r 9, .inl ((cT 0), 1400, .inl f9)), (r 0, .inl ((cT 1), 64, .inr (.inl f0))), (r 11, .inl ((cT 0), 16, .inl f11)), (mo, .inr (12, mdG r 0 tm (nI ((sn + 2 + i) + 1)) (nI 0) (nI lz) (nI az) (nI na) (nI nt) (nI nr) mw ml mk dq)), (r 7, .inl ((cT 0), 1000, .inl g7_203))] := hD
                  have k205 := hw204
                  refine lv_iinc (k := 0) (v := nI (i + 1)) (lv' := [(5, .int (nI (i + 1))), (4, .int 1), (0, .ref mo), (1, .long v), (3, .int (nI yn))]) hx hb d_Md_reply_119 hl rfl (nI_1 i) (by decide) rfl (fun ls hl => ?_)
                  refine lv_goto (tgt := 98) hx hb d_Md_reply_122 (by decide) ?_
                  have hl := lv_sub hl [0, 1, 2, 3, 4] (show _ = [(5, .int (nI (i + 1))), (4, .int 1), (0, .ref mo), (1, .long v), (3, .int (nI yn))] from rfl)
                  exact ih (i + 1) _ _ _ _ (by omega) (by first | assumption | omega) hP hD hS hl
              refine L193 _ (fun g7_192 H locs ls hab hP hD hS hl => ?_) (8 - 0) 0 g7_189 H _ ls (by omega) (by first | assumption | omega) hP hD hS hl
              refine lv_aload_n hx hb d_Md_reply_125 rfl (lv_at hl 2 rfl) ?_
              refine lv_aload_n hx hb d_Md_reply_126 rfl (lv_at hl 2 rfl) ?_
              refine va_get (D := (dC, dI)) (ci := 12) (v := (.ref (r 13))) (C := R_Md) (T := F_Md) (N := 45) hx hb hg in_Md hown hK hP 4 rfl rfl 13 (by decide) (hg _ k_1033) (fun _ h9 => h9) rfl d_Md_reply_127 ?_
              refine lv_bipush (v := 33) hx hb d_Md_reply_130 (by decide) ?_
              refine lv_topi (fun x207 e206 => ?_)
              obtain rfl : x207 = nI 33 := by rw [e206]; rfl
              refine va_iald hx hb hK hP 0 0 rfl rfl (i := (nI 33)) (vp_in_nI (N := 200) (by omega) (by decide)) d_Md_reply_132 ?_
              refine lv_topi (fun x208 e_x208 => ?_)
              clear e_x208
              have hPc := hP.sub (ws' := [(mo, .inr (12, mdG r 0 tm (nI (sn + 2 + 8)) (nI 0) (nI lz) (nI az) (nI na) (nI nt) (nI nr) mw ml mk dq)), (r 9, .inl ((cT 0), 1400, .inl f9))]) [4, 1] rfl
              have hDc := hD.sub (ws' := [(mo, .inr (12, mdG r 0 tm (nI (sn + 2 + 8)) (nI 0) (nI lz) (nI az) (nI na) (nI nt) (nI nr) mw ml mk dq)), (r 9, .inl ((cT 0), 1400, .inl f9))]) [4, 1] (by decide) rfl
              have hFc := va_free (wc := [(mo, .inr (12, mdG r 0 tm (nI (sn + 2 + 8)) (nI 0) (nI lz) (nI az) (nI na) (nI nt) (nI nr) mw ml mk dq)), (r 9, .inl ((cT 0), 1400, .inl f9))]) hD hS hA [4, 1] rfl
              refine va_callv (va_runV (C := "DoorServerModel") (As := [.int x208]) (rest := []) ⟨hx, hb, hml, hown, hg⟩ (m_say l dC dI cT H.size mo r 0 tm (sn + 2 + 8) 0 lz az na nt nr mw ml mk dq f9 x208 (by first | assumption | omega)) (cwV 1 hg (gI (List.forall_mem_append.mpr ⟨List.forall_mem_cons.mpr ⟨k_1220, List.forall_mem_cons.mpr ⟨k_1222, List.forall_mem_cons.mpr ⟨(big_sel (q := y_Md_say) (n := 45) (by decide +kernel)), List.forall_mem_cons.mpr ⟨k_13, fun _ h => absurd h List.not_mem_nil⟩⟩⟩⟩, List.forall_mem_cons.mpr ⟨k_1223, fun _ h => h⟩⟩)) rfl rfl rfl (by decide +kernel) ⟨Nat.le_of_ble_eq_true rfl, Nat.le_of_ble_eq_true rfl⟩) ⟨fun a U g mk q => by obtain ⟨q0, q1, qP, qK, qD⟩ := q; exact ⟨q0, q1, qP, va_K.moved (u := U) (U := U.calling g mk a) (Vm.Alike.refl U.vm) qK, qD⟩, va_recv (q0 := 4) (ci := 12) hK hP rfl rfl, fun U hU hW => ⟨rfl, by rw [hU], by rw [hU]; exact hPc, va_K.moved hW.alike hK, hDc.weaken (fun _ _ _ _ => trivial)⟩⟩ rfl rfl hl.1 rfl (lv_room (Nat.le_of_ble_eq_true rfl)) d_Md_reply_133 ⟨Nat.le_of_ble_eq_true rfl, Nat.le_of_ble_eq_true rfl⟩) hS (fun q _ h => hFc q h) hFc (fun u t H1 locs ht hvm hw hB hz1 hk1 hS => ?_)
              obtain ⟨g9_209, rfl⟩ : ∃ z, z = u := ⟨_, rfl⟩
              try dsimp only at hw hB
              obtain ⟨hP1, hK1, hD1⟩ := hB
              rw [ht] at hP1
              obtain ⟨hP, hD⟩ := va_join (wr := [(r 13, .inl ((cT 0), 200, .inl f13)), (r 0, .inl ((cT 1), 64, .inr (.inl f0))), (r 11, .inl ((cT 0), 16, .inl f11)), (r 7, .inl ((cT 0), 1000, .inl g7_192))]) (w1 := [(mo, .inr (12, mdG r 0 tm (nI (sn + 2 + 8)) (nI (0 + 1)) (nI lz) (nI az) (nI na) (nI nt) (nI nr) mw ml mk dq)), (r 9, .inl ((cT 0), 1400, .inl g9_209))]) hP hD [4, 1] [0, 2, 3, 5] rfl rfl (by decide) (by decide) hk1 hFc hP1 hD1
              have hw210 := hw
              clear hPc hDc hFc hz1 hk1 hP1 hK1 hD1
              generalize H1 = H at hP hS ⊢
              have hP : va_P (dC, dI) vcl [(r 13, .inl ((cT 0), 200, .inl f13)), (r 0, .inl ((cT 1), 64, .inr (.inl f0))), (r 11, .inl ((cT 0), 16, .inl f11)), (r 7, .inl ((cT 0), 1000, .inl g7_192)), (mo, .inr (12, mdG r 0 tm (nI (sn + 2 + 8)) (nI (0 + 1)) (nI lz) (nI az) (nI na) (nI nt) (nI nr) mw ml mk dq)), (r 9, .inl ((cT 0), 1400, .inl g9_209))] H := hP
              have hD : va_D A [(r 13, .inl ((cT 0), 200, .inl f13)), (r 0, .inl ((cT 1), 64, .inr (.inl f0))), (r 11, .inl ((cT 0), 16, .inl f11)), (r 7, .inl ((cT 0), 1000, .inl g7_192)), (mo, .inr (12, mdG r 0 tm (nI (sn + 2 + 8)) (nI (0 + 1)) (nI lz) (nI az) (nI na) (nI nt) (nI nr) mw ml mk dq)), (r 9, .inl ((cT 0), 1400, .inl g9_209))] := hD
              refine lv_iconst (v := 0) hx hb d_Md_reply_136 (by decide) ?_
              refine lv_istore (lv' := [(5, .int 0), (4, .int 1), (0, .ref mo), (1, .long v), (3, .int (nI yn))]) hx hb d_Md_reply_137 hl (by decide) rfl (fun ls hl => ?_)
              have hl := lv_sub hl [0, 1, 2, 3, 4] (show _ = [(5, .int 0), (4, .int 1), (0, .ref mo), (1, .long v), (3, .int (nI yn))] from rfl)
              have L212 : ∀ (Q : State → Prop) (exit : ∀ (g9_211 : Nat → Int32) (H : Heap) (locs : List Loc) (ls : Array Slot), va_P (dC, dI) vcl [(r 13, .inl ((cT 0), 200, .inl f13)), (r 0, .inl ((cT 1), 64, .inr (.inl f0))), (r 11, .inl ((cT 0), 16, .inl f11)), (r 7, .inl ((cT 0), 1000, .inl g7_192)), (mo, .inr (12, mdG r 0 tm (nI (sn + 2 + 8)) (nI (0 + 1 + yn)) (nI lz) (nI az) (nI na) (nI nt) (nI nr) mw ml mk dq)), (r 9, .inl ((cT 0), 1400, .inl g9_211))] H → va_D A [(r 13, .inl ((cT 0), 200, .inl f13)), (r 0, .inl ((cT 1), 64, .inr (.inl f0))), (r 11, .inl ((cT 0), 16, .inl f11)), (r 7, .inl ((cT 0), 1000, .inl g7_192)), (mo, .inr (12, mdG r 0 tm (nI (sn + 2 + 8)) (nI (0 + 1 + yn)) (nI lz) (nI az) (nI na) (nI nt) (nI nr) mw ml mk dq)), (r 9, .inl ((cT 0), 1400, .inl g9_211))] → va_S A s.heap H locs → lv_has ls 6 [(5, .int (nI yn)), (4, .int 1), (0, .ref mo), (1, .long v), (3, .int (nI yn))] → W p l e ({ frames := 2, cells := 0, slots := 0, locals := 69 } : Room) s m args below meth c H locs 0 0 Q (F0 m 161 ls [])) (j8 i : Nat) (g9_211 : Nat → Int32) (H : Heap) (locs : List Loc) (ls : Array Slot), i + j8 = yn → va_P (dC, dI) vcl [(r 13, .inl ((cT 0), 200, .inl f13)), (r 0, .inl ((cT 1), 64, .inr (.inl f0))), (r 11, .inl ((cT 0), 16, .inl f11)), (r 7, .inl ((cT 0), 1000, .inl g7_192)), (mo, .inr (12, mdG r 0 tm (nI (sn + 2 + 8)) (nI (0 + 1 + i)) (nI lz) (nI az) (nI na) (nI nt) (nI nr) mw ml mk dq)), (r 9, .inl ((cT 0), 1400, .inl g9_211))] H → va_D A [(r 13, .inl ((cT 0), 200, .inl f13)), (r 0, .inl ((cT 1), 64, .inr (.inl f0))), (r 11, .inl ((cT 0), 16, .inl f11)), (r 7, .inl ((cT 0), 1000, .inl g7_192)), (mo, .inr (12, mdG r 0 tm (nI (sn + 2 + 8)) (nI (0 + 1 + i)) (nI lz) (nI az) (nI na) (nI nt) (nI nr) mw ml mk dq)), (r 9, .inl ((cT 0), 1400, .inl g9_211))] → va_S A s.heap H locs → lv_has ls 6 [(5, .int (nI i)), (4, .int 1), (0, .ref mo), (1, .long v), (3, .int (nI yn))] → W p l e ({ frames := 2, cells := 0, slots := 0, locals := 69 } : Room) s m args below meth c H locs 0 0 Q (F0 m 139 ls []) := by
                intro Q exit j8
                induction j8 with
                | zero => 
                  intro i g9_211 H locs ls hij  hP hD hS hl
                  have hij : yn = i := by omega
                  refine lv_iload hx hb d_Md_reply_139 (lv_at hl 0 rfl) ?_
                  refine lv_iload_n hx hb d_Md_reply_141 rfl (lv_at hl 4 rfl) ?_
                  refine lv_icmp_ge (tgt := 161) hx hb d_Md_reply_142 (by decide) (fun hc213 => ?_) (fun hn9 => absurd (nI_le (by omega) (by omega)) hn9)
                  subst hij
                  exact exit g9_211 _ _ _  hP hD hS hl
                | succ j8 ih => 
                  intro i g9_211 H locs ls hij  hP hD hS hl
                  have hlt : i < yn := by omega
                  have hlti := hlt
                  refine lv_iload hx hb d_Md_reply_139 (lv_at hl 0 rfl) ?_
                  refine lv_iload_n hx hb d_Md_reply_141 rfl (lv_at hl 4 rfl) ?_
                  refine lv_icmp_ge (tgt := 161) hx hb d_Md_reply_142 (by decide) (fun hn9 => absurd hn9 (nI_ge (by omega) (by omega))) (fun hc214 => ?_)
                  refine lv_aload_n hx hb d_Md_reply_145 rfl (lv_at hl 2 rfl) ?_
                  refine lv_lload_n hx hb d_Md_reply_146 rfl (lv_at hl 3 rfl) ?_
                  refine lv_iload hx hb d_Md_reply_147 (lv_at hl 0 rfl) ?_
                  have hPc := hP.sub (ws' := []) [] rfl
                  have hDc := hD.sub (ws' := []) [] (by decide) rfl
                  have hFc := va_free (wc := []) hD hS hA [] rfl
                  refine va_calli (va_runS (As := [.long v, .int (nI i)]) (rest := [.ref mo]) ⟨hx, hb, hml, hown, hg⟩ (m_letter l dC dI cT H.size v (nI i) ) (va_cwS 2 hg (gI (List.forall_mem_append.mpr ⟨List.forall_mem_cons.mpr ⟨k_1169, List.forall_mem_cons.mpr ⟨k_1170, List.forall_mem_cons.mpr ⟨k_13, fun _ h => absurd h List.not_mem_nil⟩⟩⟩, List.forall_mem_cons.mpr ⟨k_1171, fun _ h => h⟩⟩)) rfl rfl rfl (by decide +kernel) ⟨Nat.le_of_ble_eq_true rfl, Nat.le_of_ble_eq_true rfl⟩) ⟨fun a U g mk q => by obtain ⟨q0, q1, qP, qK, qD⟩ := q; exact ⟨q0, q1, qP, va_K.moved (u := U) (U := U.calling g mk a) (Vm.Alike.refl U.vm) qK, qD⟩, fun U hU hW => ⟨rfl, by rw [hU], by rw [hU]; exact hPc, va_K.moved hW.alike hK, hDc.weaken (fun _ _ _ _ => trivial)⟩⟩ rfl rfl hl.1 rfl (lv_room (Nat.le_of_ble_eq_true rfl)) d_Md_reply_149 ⟨Nat.le_of_ble_eq_true rfl, Nat.le_of_ble_eq_true rfl⟩) hS (fun q _ h => hFc q h) hFc (fun rv9 u t H1 locs ht hvm hw hB hz1 hk1 hS => ?_)
                  try dsimp only at hw hB
                  obtain ⟨hP1, hK1, hD1⟩ := hB
                  rw [ht] at hP1
                  generalize rv9 = r215 at hw ⊢
                  obtain ⟨hP, hD⟩ := va_join (wr := [(r 13, .inl ((cT 0), 200, .inl f13)), (r 0, .inl ((cT 1), 64, .inr (.inl f0))), (r 11, .inl ((cT 0), 16, .inl f11)), (r 7, .inl ((cT 0), 1000, .inl g7_192)), (mo, .inr (12, mdG r 0 tm (nI (sn + 2 + 8)) (nI (0 + 1 + i)) (nI lz) (nI az) (nI na) (nI nt) (nI nr) mw ml mk dq)), (r 9, .inl ((cT 0), 1400, .inl g9_211))]) (w1 := []) hP hD [] [0, 1, 2, 3, 4, 5] rfl rfl (by decide) (by decide) hk1 hFc hP1 hD1
                  have hw216 := hw
                  clear hPc hDc hFc hz1 hk1 hP1 hK1 hD1
                  generalize H1 = H at hP hS ⊢
                  have hP : va_P (dC, dI) vcl [(r 13, .inl ((cT 0), 200, .inl f13)), (r 0, .inl ((cT 1), 64, .inr (.inl f0))), (r 11, .inl ((cT 0), 16, .inl f11)), (r 7, .inl ((cT 0), 1000, .inl g7_192)), (mo, .inr (12, mdG r 0 tm (nI (sn + 2 + 8)) (nI (0 + 1 + i)) (nI lz) (nI az) (nI na) (nI nt) (nI nr) mw ml mk dq)), (r 9, .inl ((cT 0), 1400, .inl g9_211))] H := hP
                  have hD : va_D A [(r 13, .inl ((cT 0), 200, .inl f13)), (r 0, .inl ((cT 1), 64, .inr (.inl f0))), (r 11, .inl ((cT 0), 16, .inl f11)), (r 7, .inl ((cT 0), 1000, .inl g7_192)), (mo, .inr (12, mdG r 0 tm (nI (sn + 2 + 8)) (nI (0 + 1 + i)) (nI lz) (nI az) (nI na) (nI nt) (nI nr) mw ml mk dq)), (r 9, .inl ((cT 0), 1400, .inl g9_211))] := hD
                  have hPc := hP.sub (ws' := [(mo, .inr (12, mdG r 0 tm (nI (sn + 2 + 8)) (nI (0 + 1 + i)) (nI lz) (nI az) (nI na) (nI nt) (nI nr) mw ml mk dq)), (r 9, .inl ((cT 0), 1400, .inl g9_211))]) [4, 5] rfl
                  have hDc := hD.sub (ws' := [(mo, .inr (12, mdG r 0 tm (nI (sn + 2 + 8)) (nI (0 + 1 + i)) (nI lz) (nI az) (nI na) (nI nt) (nI nr) mw ml mk dq)), (r 9, .inl ((cT 0), 1400, .inl g9_211))]) [4, 5] (by decide) rfl
                  have hFc := va_free (wc := [(mo, .inr (12, mdG r 0 tm (nI (sn + 2 + 8)) (nI (0 + 1 + i)) (nI lz) (nI az) (nI na) (nI nt) (nI nr) mw ml mk dq)), (r 9, .inl ((cT 0), 1400, .inl g9_211))]) hD hS hA [4, 5] rfl
                  refine va_callv (va_runV (C := "DoorServerModel") (As := [.int r215]) (rest := []) ⟨hx, hb, hml, hown, hg⟩ (m_say l dC dI cT H.size mo r 0 tm (sn + 2 + 8) (0 + 1 + i) lz az na nt nr mw ml mk dq g9_211 r215 (by first | assumption | omega)) (cwV 1 hg (gI (List.forall_mem_append.mpr ⟨List.forall_mem_cons.mpr ⟨k_1220, List.forall_mem_cons.mpr ⟨k_1222, List.forall_mem_cons.mpr ⟨(big_sel (q := y_Md_say) (n := 45) (by decide +kernel)), List.forall_mem_cons.mpr ⟨k_13, fun _ h => absurd h List.not_mem_nil⟩⟩⟩⟩, List.forall_mem_cons.mpr ⟨k_1223, fun _ h => h⟩⟩)) rfl rfl rfl (by decide +kernel) ⟨Nat.le_of_ble_eq_true rfl, Nat.le_of_ble_eq_true rfl⟩) ⟨fun a U g mk q => by obtain ⟨q0, q1, qP, qK, qD⟩ := q; exact ⟨q0, q1, qP, va_K.moved (u := U) (U := U.calling g mk a) (Vm.Alike.refl U.vm) qK, qD⟩, va_recv (q0 := 4) (ci := 12) hK hP rfl rfl, fun U hU hW => ⟨rfl, by rw [hU], by rw [hU]; exact hPc, va_K.moved hW.alike hK, hDc.weaken (fun _ _ _ _ => trivial)⟩⟩ rfl rfl hl.1 rfl (lv_room (Nat.le_of_ble_eq_true rfl)) d_Md_reply_152 ⟨Nat.le_of_ble_eq_true rfl, Nat.le_of_ble_eq_true rfl⟩) hS (fun q _ h => hFc q h) hFc (fun u t H1 locs ht hvm hw hB hz1 hk1 hS => ?_)
                  obtain ⟨g9_217, rfl⟩ : ∃ z, z = u := ⟨_, rfl⟩
                  try dsimp only at hw hB
                  obtain ⟨hP1, hK1, hD1⟩ := hB
                  rw [ht] at hP1
                  obtain ⟨hP, hD⟩ := va_join (wr := [(r 13, .inl ((cT 0), 200, .inl f13)), (r 0, .inl ((cT 1), 64, .inr (.inl f0))), (r 11, .inl ((cT 0), 16, .inl f11)), (r 7, .inl ((cT 0), 1000, .inl g7_192))]) (w1 := [(mo, .inr (12, mdG r 0 tm (nI (sn + 2 + 8)) (nI ((0 + 1 + i) + 1)) (nI lz) (nI az) (nI na) (nI nt) (nI nr) mw ml mk dq)), (r 9, .inl ((cT 0), 1400, .inl g9_217))]) hP hD [4, 5] [0, 1, 2, 3] rfl rfl (by decide) (by decide) hk1 hFc hP1 hD1
                  have hw218 := hw
                  clear hPc hDc hFc hz1 hk1 hP1 hK1 hD1
                  generalize H1 = H at hP hS ⊢
                  have hP : va_P (dC, dI) vcl [(r 13, .inl ((cT 0), 200, .inl f13)), (r 0, .inl ((cT 1), 64, .inr (.inl f0))), (r 11, .inl ((cT 0), 16, .inl f11)), (r 7, .inl ((cT 0), 1000, .inl g7_192)), (mo, .inr (12, mdG r 0 tm (nI (sn + 2 + 8)) (nI ((0 + 1 + i) + 1)) (nI lz) (nI az) (nI na) (nI nt) (nI nr) mw ml mk dq)), (r 9, .inl ((cT 0), 1400, .inl g9_217))] H := hP
                  have hD : va_D A [(r 13, .inl ((cT 0), 200, .inl f13)), (r 0, .inl ((cT 1), 64, .inr (.inl f0))), (r 11, .inl ((cT 0), 16, .inl f11)), (r 7, .inl ((cT 0), 1000, .inl g7_192)), (mo, .inr (12, mdG r 0 tm (nI (sn + 2 + 8)) (nI ((0 + 1 + i) + 1)) (nI lz) (nI az) (nI na) (nI nt) (nI nr) mw ml mk dq)), (r 9, .inl ((cT 0), 1400, .inl g9_217))] := hD
                  refine lv_iinc (k := 0) (v := nI (i + 1)) (lv' := [(5, .int (nI (i + 1))), (4, .int 1), (0, .ref mo), (1, .long v), (3, .int (nI yn))]) hx hb d_Md_reply_155 hl rfl (nI_1 i) (by decide) rfl (fun ls hl => ?_)
                  refine lv_goto (tgt := 139) hx hb d_Md_reply_158 (by decide) ?_
                  have hl := lv_sub hl [0, 1, 2, 3, 4] (show _ = [(5, .int (nI (i + 1))), (4, .int 1), (0, .ref mo), (1, .long v), (3, .int (nI yn))] from rfl)
                  exact ih (i + 1) _ _ _ _ (by omega)  hP hD hS hl
              refine L212 _ (fun g9_211 H locs ls  hP hD hS hl => ?_) (yn - 0) 0 g9_209 H _ ls (by omega)  hP hD hS hl
              refine lv_iconst (v := 0) hx hb d_Md_reply_161 (by decide) ?_
              refine lv_istore (lv' := [(5, .int 0), (4, .int 1), (0, .ref mo), (1, .long v), (3, .int (nI yn))]) hx hb d_Md_reply_162 hl (by decide) rfl (fun ls hl => ?_)
              have hl := lv_sub hl [0, 1, 2, 3, 4] (show _ = [(5, .int 0), (4, .int 1), (0, .ref mo), (1, .long v), (3, .int (nI yn))] from rfl)
              have L220 : ∀ (Q : State → Prop) (exit : ∀ (g9_219 : Nat → Int32) (H : Heap) (locs : List Loc) (ls : Array Slot), va_P (dC, dI) vcl [(r 13, .inl ((cT 0), 200, .inl f13)), (r 0, .inl ((cT 1), 64, .inr (.inl f0))), (r 11, .inl ((cT 0), 16, .inl f11)), (r 7, .inl ((cT 0), 1000, .inl g7_192)), (mo, .inr (12, mdG r 0 tm (nI (sn + 2 + 8)) (nI (0 + 1 + yn + 16)) (nI lz) (nI az) (nI na) (nI nt) (nI nr) mw ml mk dq)), (r 9, .inl ((cT 0), 1400, .inl g9_219))] H → va_D A [(r 13, .inl ((cT 0), 200, .inl f13)), (r 0, .inl ((cT 1), 64, .inr (.inl f0))), (r 11, .inl ((cT 0), 16, .inl f11)), (r 7, .inl ((cT 0), 1000, .inl g7_192)), (mo, .inr (12, mdG r 0 tm (nI (sn + 2 + 8)) (nI (0 + 1 + yn + 16)) (nI lz) (nI az) (nI na) (nI nt) (nI nr) mw ml mk dq)), (r 9, .inl ((cT 0), 1400, .inl g9_219))] → va_S A s.heap H locs → lv_has ls 6 [(5, .int (nI 16)), (4, .int 1), (0, .ref mo), (1, .long v), (3, .int (nI yn))] → W p l e ({ frames := 2, cells := 0, slots := 0, locals := 69 } : Room) s m args below meth c H locs 0 0 Q (F0 m 191 ls [])) (j8 i : Nat) (g9_219 : Nat → Int32) (H : Heap) (locs : List Loc) (ls : Array Slot), i + j8 = 16 → va_P (dC, dI) vcl [(r 13, .inl ((cT 0), 200, .inl f13)), (r 0, .inl ((cT 1), 64, .inr (.inl f0))), (r 11, .inl ((cT 0), 16, .inl f11)), (r 7, .inl ((cT 0), 1000, .inl g7_192)), (mo, .inr (12, mdG r 0 tm (nI (sn + 2 + 8)) (nI (0 + 1 + yn + i)) (nI lz) (nI az) (nI na) (nI nt) (nI nr) mw ml mk dq)), (r 9, .inl ((cT 0), 1400, .inl g9_219))] H → va_D A [(r 13, .inl ((cT 0), 200, .inl f13)), (r 0, .inl ((cT 1), 64, .inr (.inl f0))), (r 11, .inl ((cT 0), 16, .inl f11)), (r 7, .inl ((cT 0), 1000, .inl g7_192)), (mo, .inr (12, mdG r 0 tm (nI (sn + 2 + 8)) (nI (0 + 1 + yn + i)) (nI lz) (nI az) (nI na) (nI nt) (nI nr) mw ml mk dq)), (r 9, .inl ((cT 0), 1400, .inl g9_219))] → va_S A s.heap H locs → lv_has ls 6 [(5, .int (nI i)), (4, .int 1), (0, .ref mo), (1, .long v), (3, .int (nI yn))] → W p l e ({ frames := 2, cells := 0, slots := 0, locals := 69 } : Room) s m args below meth c H locs 0 0 Q (F0 m 164 ls []) := by
                intro Q exit j8
                induction j8 with
                | zero => 
                  intro i g9_219 H locs ls hij  hP hD hS hl
                  have hij : 16 = i := by omega
                  refine lv_iload hx hb d_Md_reply_164 (lv_at hl 0 rfl) ?_
                  refine lv_bipush (v := 16) hx hb d_Md_reply_166 (by decide) ?_
                  refine lv_topi (fun x222 e221 => ?_)
                  obtain rfl : x222 = nI 16 := by rw [e221]; rfl
                  refine lv_icmp_ge (tgt := 191) hx hb d_Md_reply_168 (by decide) (fun hc223 => ?_) (fun hn9 => absurd (nI_le (by omega) (by omega)) hn9)
                  subst hij
                  exact exit g9_219 _ _ _  hP hD hS hl
                | succ j8 ih => 
                  intro i g9_219 H locs ls hij  hP hD hS hl
                  have hlt : i < 16 := by omega
                  have hlti := hlt
                  refine lv_iload hx hb d_Md_reply_164 (lv_at hl 0 rfl) ?_
                  refine lv_bipush (v := 16) hx hb d_Md_reply_166 (by decide) ?_
                  refine lv_topi (fun x225 e224 => ?_)
                  obtain rfl : x225 = nI 16 := by rw [e224]; rfl
                  refine lv_icmp_ge (tgt := 191) hx hb d_Md_reply_168 (by decide) (fun hn9 => absurd hn9 (nI_ge (by omega) (by omega))) (fun hc226 => ?_)
                  refine lv_aload_n hx hb d_Md_reply_171 rfl (lv_at hl 2 rfl) ?_
                  refine lv_aload_n hx hb d_Md_reply_172 rfl (lv_at hl 2 rfl) ?_
                  refine va_get (D := (dC, dI)) (ci := 12) (v := (.ref (r 13))) (C := R_Md) (T := F_Md) (N := 45) hx hb hg in_Md hown hK hP 4 rfl rfl 13 (by decide) (hg _ k_1033) (fun _ h9 => h9) rfl d_Md_reply_173 ?_
                  refine lv_bipush (v := 38) hx hb d_Md_reply_176 (by decide) ?_
                  refine lv_iload hx hb d_Md_reply_178 (lv_at hl 0 rfl) ?_
                  refine lv_iadd hx hb d_Md_reply_180 ?_
                  refine lv_topi (fun x228 e227 => ?_)
                  obtain rfl : x228 = nI (38 + i) := by rw [e227]; exact nI_add 38 i
                  refine va_iald hx hb hK hP 0 0 rfl rfl (i := (nI (38 + i))) (vp_in_nI (N := 200) (by omega) (by decide)) d_Md_reply_181 ?_
                  refine lv_topi (fun x229 e_x229 => ?_)
                  clear e_x229
                  have hPc := hP.sub (ws' := [(mo, .inr (12, mdG r 0 tm (nI (sn + 2 + 8)) (nI (0 + 1 + yn + i)) (nI lz) (nI az) (nI na) (nI nt) (nI nr) mw ml mk dq)), (r 9, .inl ((cT 0), 1400, .inl g9_219))]) [4, 5] rfl
                  have hDc := hD.sub (ws' := [(mo, .inr (12, mdG r 0 tm (nI (sn + 2 + 8)) (nI (0 + 1 + yn + i)) (nI lz) (nI az) (nI na) (nI nt) (nI nr) mw ml mk dq)), (r 9, .inl ((cT 0), 1400, .inl g9_219))]) [4, 5] (by decide) rfl
                  have hFc := va_free (wc := [(mo, .inr (12, mdG r 0 tm (nI (sn + 2 + 8)) (nI (0 + 1 + yn + i)) (nI lz) (nI az) (nI na) (nI nt) (nI nr) mw ml mk dq)), (r 9, .inl ((cT 0), 1400, .inl g9_219))]) hD hS hA [4, 5] rfl
                  refine va_callv (va_runV (C := "DoorServerModel") (As := [.int x229]) (rest := []) ⟨hx, hb, hml, hown, hg⟩ (m_say l dC dI cT H.size mo r 0 tm (sn + 2 + 8) (0 + 1 + yn + i) lz az na nt nr mw ml mk dq g9_219 x229 (by first | assumption | omega)) (cwV 1 hg (gI (List.forall_mem_append.mpr ⟨List.forall_mem_cons.mpr ⟨k_1220, List.forall_mem_cons.mpr ⟨k_1222, List.forall_mem_cons.mpr ⟨(big_sel (q := y_Md_say) (n := 45) (by decide +kernel)), List.forall_mem_cons.mpr ⟨k_13, fun _ h => absurd h List.not_mem_nil⟩⟩⟩⟩, List.forall_mem_cons.mpr ⟨k_1223, fun _ h => h⟩⟩)) rfl rfl rfl (by decide +kernel) ⟨Nat.le_of_ble_eq_true rfl, Nat.le_of_ble_eq_true rfl⟩) ⟨fun a U g mk q => by obtain ⟨q0, q1, qP, qK, qD⟩ := q; exact ⟨q0, q1, qP, va_K.moved (u := U) (U := U.calling g mk a) (Vm.Alike.refl U.vm) qK, qD⟩, va_recv (q0 := 4) (ci := 12) hK hP rfl rfl, fun U hU hW => ⟨rfl, by rw [hU], by rw [hU]; exact hPc, va_K.moved hW.alike hK, hDc.weaken (fun _ _ _ _ => trivial)⟩⟩ rfl rfl hl.1 rfl (lv_room (Nat.le_of_ble_eq_true rfl)) d_Md_reply_182 ⟨Nat.le_of_ble_eq_true rfl, Nat.le_of_ble_eq_true rfl⟩) hS (fun q _ h => hFc q h) hFc (fun u t H1 locs ht hvm hw hB hz1 hk1 hS => ?_)
                  obtain ⟨g9_230, rfl⟩ : ∃ z, z = u := ⟨_, rfl⟩
                  try dsimp only at hw hB
                  obtain ⟨hP1, hK1, hD1⟩ := hB
                  rw [ht] at hP1
                  obtain ⟨hP, hD⟩ := va_join (wr := [(r 13, .inl ((cT 0), 200, .inl f13)), (r 0, .inl ((cT 1), 64, .inr (.inl f0))), (r 11, .inl ((cT 0), 16, .inl f11)), (r 7, .inl ((cT 0), 1000, .inl g7_192))]) (w1 := [(mo, .inr (12, mdG r 0 tm (nI (sn + 2 + 8)) (nI ((0 + 1 + yn + i) + 1)) (nI lz) (nI az) (nI na) (nI nt) (nI nr) mw ml mk dq)), (r 9, .inl ((cT 0), 1400, .inl g9_230))]) hP hD [4, 5] [0, 1, 2, 3] rfl rfl (by decide) (by decide) hk1 hFc hP1 hD1
                  have hw231 := hw
                  clear hPc hDc hFc hz1 hk1 hP1 hK1 hD1
                  generalize H1 = H at hP hS ⊢
                  have hP : va_P (dC, dI) vcl [(r 13, .inl ((cT 0), 200, .inl f13)), (r 0, .inl ((cT 1), 64, .inr (.inl f0))), (r 11, .inl ((cT 0), 16, .inl f11)), (r 7, .inl ((cT 0), 1000, .inl g7_192)), (mo, .inr (12, mdG r 0 tm (nI (sn + 2 + 8)) (nI ((0 + 1 + yn + i) + 1)) (nI lz) (nI az) (nI na) (nI nt) (nI nr) mw ml mk dq)), (r 9, .inl ((cT 0), 1400, .inl g9_230))] H := hP
                  have hD : va_D A [(r 13, .inl ((cT 0), 200, .inl f13)), (r 0, .inl ((cT 1), 64, .inr (.inl f0))), (r 11, .inl ((cT 0), 16, .inl f11)), (r 7, .inl ((cT 0), 1000, .inl g7_192)), (mo, .inr (12, mdG r 0 tm (nI (sn + 2 + 8)) (nI ((0 + 1 + yn + i) + 1)) (nI lz) (nI az) (nI na) (nI nt) (nI nr) mw ml mk dq)), (r 9, .inl ((cT 0), 1400, .inl g9_230))] := hD
                  refine lv_iinc (k := 0) (v := nI (i + 1)) (lv' := [(5, .int (nI (i + 1))), (4, .int 1), (0, .ref mo), (1, .long v), (3, .int (nI yn))]) hx hb d_Md_reply_185 hl rfl (nI_1 i) (by decide) rfl (fun ls hl => ?_)
                  refine lv_goto (tgt := 164) hx hb d_Md_reply_188 (by decide) ?_
                  have hl := lv_sub hl [0, 1, 2, 3, 4] (show _ = [(5, .int (nI (i + 1))), (4, .int 1), (0, .ref mo), (1, .long v), (3, .int (nI yn))] from rfl)
                  exact ih (i + 1) _ _ _ _ (by omega)  hP hD hS hl
              refine L220 _ (fun g9_219 H locs ls  hP hD hS hl => ?_) (16 - 0) 0 g9_211 H _ ls (by omega)  hP hD hS hl
              refine lv_aload_n hx hb d_Md_reply_191 rfl (lv_at hl 2 rfl) ?_
              have hPc := hP.sub (ws' := [(mo, .inr (12, mdG r 0 tm (nI (sn + 2 + 8)) (nI (0 + 1 + yn + 16)) (nI lz) (nI az) (nI na) (nI nt) (nI nr) mw ml mk dq)), (r 9, .inl ((cT 0), 1400, .inl g9_219)), (r 0, .inl ((cT 1), 64, .inr (.inl f0))), (r 11, .inl ((cT 0), 16, .inl f11))]) [4, 5, 1, 2] rfl
              have hDc := hD.sub (ws' := [(mo, .inr (12, mdG r 0 tm (nI (sn + 2 + 8)) (nI (0 + 1 + yn + 16)) (nI lz) (nI az) (nI na) (nI nt) (nI nr) mw ml mk dq)), (r 9, .inl ((cT 0), 1400, .inl g9_219)), (r 0, .inl ((cT 1), 64, .inr (.inl f0))), (r 11, .inl ((cT 0), 16, .inl f11))]) [4, 5, 1, 2] (by decide) rfl
              have hFc := va_free (wc := [(mo, .inr (12, mdG r 0 tm (nI (sn + 2 + 8)) (nI (0 + 1 + yn + 16)) (nI lz) (nI az) (nI na) (nI nt) (nI nr) mw ml mk dq)), (r 9, .inl ((cT 0), 1400, .inl g9_219)), (r 0, .inl ((cT 1), 64, .inr (.inl f0))), (r 11, .inl ((cT 0), 16, .inl f11))]) hD hS hA [4, 5, 1, 2] rfl
              refine va_callv (va_runV (C := "DoorServerModel") (As := []) (rest := []) ⟨hx, hb, hml, hown, hg⟩ (m_md5 l dC dI cT H.size mo r 0 tm (sn + 2 + 8) (0 + 1 + yn + 16) lz az na nt nr mw ml mk dq g9_219 f0 f11 (by first | assumption | omega) (by first | assumption | omega)) (cwV 0 hg (gI (List.forall_mem_append.mpr ⟨List.forall_mem_cons.mpr ⟨k_1224, List.forall_mem_cons.mpr ⟨k_1226, List.forall_mem_cons.mpr ⟨(big_sel (q := y_Md_md5) (n := 45) (by decide +kernel)), List.forall_mem_cons.mpr ⟨k_13, fun _ h => absurd h List.not_mem_nil⟩⟩⟩⟩, List.forall_mem_cons.mpr ⟨k_1227, fun _ h => h⟩⟩)) rfl rfl rfl (by decide +kernel) ⟨Nat.le_of_ble_eq_true rfl, Nat.le_of_ble_eq_true rfl⟩) ⟨fun a U g mk q => by obtain ⟨q0, q1, qP, qK, qD⟩ := q; exact ⟨q0, q1, qP, va_K.moved (u := U) (U := U.calling g mk a) (Vm.Alike.refl U.vm) qK, qD⟩, va_recv (q0 := 4) (ci := 12) hK hP rfl rfl, fun U hU hW => ⟨rfl, by rw [hU], by rw [hU]; exact hPc, va_K.moved hW.alike hK, hDc.weaken (fun _ _ _ _ => trivial)⟩⟩ rfl rfl hl.1 rfl (lv_room (Nat.le_of_ble_eq_true rfl)) d_Md_reply_192 ⟨Nat.le_of_ble_eq_true rfl, Nat.le_of_ble_eq_true rfl⟩) hS (fun q _ h => hFc q h) hFc (fun u t H1 locs ht hvm hw hB hz1 hk1 hS => ?_)
              obtain ⟨g9_232, g11_233⟩ := u
              try dsimp only at hw hB
              obtain ⟨hP1, hK1, hD1⟩ := hB
              rw [ht] at hP1
              obtain ⟨hP, hD⟩ := va_join (wr := [(r 13, .inl ((cT 0), 200, .inl f13)), (r 7, .inl ((cT 0), 1000, .inl g7_192))]) (w1 := [(mo, .inr (12, mdG r 0 tm (nI (sn + 2 + 8)) (nI 0) (nI lz) (nI az) (nI na) (nI nt) (nI nr) mw ml mk dq)), (r 9, .inl ((cT 0), 1400, .inl g9_232)), (r 0, .inl ((cT 1), 64, .inr (.inl f0))), (r 11, .inl ((cT 0), 16, .inl g11_233))]) hP hD [4, 5, 1, 2] [0, 3] rfl rfl (by decide) (by decide) hk1 hFc hP1 hD1
              have hw234 := hw
              clear hPc hDc hFc hz1 hk1 hP1 hK1 hD1
              generalize H1 = H at hP hS ⊢
              have hP : va_P (dC, dI) vcl [(r 13, .inl ((cT 0), 200, .inl f13)), (r 7, .inl ((cT 0), 1000, .inl g7_192)), (mo, .inr (12, mdG r 0 tm (nI (sn + 2 + 8)) (nI 0) (nI lz) (nI az) (nI na) (nI nt) (nI nr) mw ml mk dq)), (r 9, .inl ((cT 0), 1400, .inl g9_232)), (r 0, .inl ((cT 1), 64, .inr (.inl f0))), (r 11, .inl ((cT 0), 16, .inl g11_233))] H := hP
              have hD : va_D A [(r 13, .inl ((cT 0), 200, .inl f13)), (r 7, .inl ((cT 0), 1000, .inl g7_192)), (mo, .inr (12, mdG r 0 tm (nI (sn + 2 + 8)) (nI 0) (nI lz) (nI az) (nI na) (nI nt) (nI nr) mw ml mk dq)), (r 9, .inl ((cT 0), 1400, .inl g9_232)), (r 0, .inl ((cT 1), 64, .inr (.inl f0))), (r 11, .inl ((cT 0), 16, .inl g11_233))] := hD
              have k235 := hw234
              refine lv_aload_n hx hb d_Md_reply_195 rfl (lv_at hl 2 rfl) ?_
              refine lv_bipush (v := 79) hx hb d_Md_reply_196 (by decide) ?_
              refine lv_bipush (v := 22) hx hb d_Md_reply_198 (by decide) ?_
              refine lv_topi (fun x237 e236 => ?_)
              obtain rfl : x237 = nI 22 := by rw [e236]; rfl
              have hPc := hP.sub (ws' := [(mo, .inr (12, mdG r 0 tm (nI (sn + 2 + 8)) (nI 0) (nI lz) (nI az) (nI na) (nI nt) (nI nr) mw ml mk dq)), (r 7, .inl ((cT 0), 1000, .inl g7_192))]) [2, 1] rfl
              have hDc := hD.sub (ws' := [(mo, .inr (12, mdG r 0 tm (nI (sn + 2 + 8)) (nI 0) (nI lz) (nI az) (nI na) (nI nt) (nI nr) mw ml mk dq)), (r 7, .inl ((cT 0), 1000, .inl g7_192))]) [2, 1] (by decide) rfl
              have hFc := va_free (wc := [(mo, .inr (12, mdG r 0 tm (nI (sn + 2 + 8)) (nI 0) (nI lz) (nI az) (nI na) (nI nt) (nI nr) mw ml mk dq)), (r 7, .inl ((cT 0), 1000, .inl g7_192))]) hD hS hA [2, 1] rfl
              refine va_calli (va_runV (C := "DoorServerModel") (As := [.int 79, .int (nI 22)]) (rest := []) ⟨hx, hb, hml, hown, hg⟩ (m_opens1 l dC dI cT H.size mo r 0 tm (sn + 2 + 8) 0 lz az na nt nr mw ml mk dq g7_192 79 22 (by first | assumption | omega) (by first | assumption | omega)) (cwV 2 hg (gI (List.forall_mem_append.mpr ⟨List.forall_mem_cons.mpr ⟨k_1188, List.forall_mem_cons.mpr ⟨k_1190, List.forall_mem_cons.mpr ⟨(big_sel (q := y_Md_opens) (n := 45) (by decide +kernel)), List.forall_mem_cons.mpr ⟨k_13, fun _ h => absurd h List.not_mem_nil⟩⟩⟩⟩, List.forall_mem_cons.mpr ⟨k_1191, fun _ h => h⟩⟩)) rfl rfl rfl (by decide +kernel) ⟨Nat.le_of_ble_eq_true rfl, Nat.le_of_ble_eq_true rfl⟩) ⟨fun a U g mk q => by obtain ⟨q0, q1, qP, qK, qD⟩ := q; exact ⟨q0, q1, qP, va_K.moved (u := U) (U := U.calling g mk a) (Vm.Alike.refl U.vm) qK, qD⟩, va_recv (q0 := 2) (ci := 12) hK hP rfl rfl, fun U hU hW => ⟨rfl, by rw [hU], by rw [hU]; exact hPc, va_K.moved hW.alike hK, hDc.weaken (fun _ _ _ _ => trivial)⟩⟩ rfl rfl hl.1 rfl (lv_room (Nat.le_of_ble_eq_true rfl)) d_Md_reply_200 ⟨Nat.le_of_ble_eq_true rfl, Nat.le_of_ble_eq_true rfl⟩) hS (fun q _ h => hFc q h) hFc (fun rv9 u t H1 locs ht hvm hw hB hz1 hk1 hS => ?_)
              obtain ⟨g7_238, rfl⟩ : ∃ z, z = u := ⟨_, rfl⟩
              try dsimp only at hw hB
              obtain ⟨hP1, hK1, hD1⟩ := hB
              rw [ht] at hP1
              obtain ⟨rfl, hw⟩ := hw
              obtain ⟨hP, hD⟩ := va_join (wr := [(r 13, .inl ((cT 0), 200, .inl f13)), (r 9, .inl ((cT 0), 1400, .inl g9_232)), (r 0, .inl ((cT 1), 64, .inr (.inl f0))), (r 11, .inl ((cT 0), 16, .inl g11_233))]) (w1 := [(mo, .inr (12, mdG r 0 tm (nI ((sn + 2 + 8) + 2)) (nI 0) (nI lz) (nI az) (nI na) (nI nt) (nI nr) mw ml mk dq)), (r 7, .inl ((cT 0), 1000, .inl g7_238))]) hP hD [2, 1] [0, 3, 4, 5] rfl rfl (by decide) (by decide) hk1 hFc hP1 hD1
              have hw239 := hw
              clear hPc hDc hFc hz1 hk1 hP1 hK1 hD1
              generalize H1 = H at hP hS ⊢
              have hP : va_P (dC, dI) vcl [(r 13, .inl ((cT 0), 200, .inl f13)), (r 9, .inl ((cT 0), 1400, .inl g9_232)), (r 0, .inl ((cT 1), 64, .inr (.inl f0))), (r 11, .inl ((cT 0), 16, .inl g11_233)), (mo, .inr (12, mdG r 0 tm (nI ((sn + 2 + 8) + 2)) (nI 0) (nI lz) (nI az) (nI na) (nI nt) (nI nr) mw ml mk dq)), (r 7, .inl ((cT 0), 1000, .inl g7_238))] H := hP
              have hD : va_D A [(r 13, .inl ((cT 0), 200, .inl f13)), (r 9, .inl ((cT 0), 1400, .inl g9_232)), (r 0, .inl ((cT 1), 64, .inr (.inl f0))), (r 11, .inl ((cT 0), 16, .inl g11_233)), (mo, .inr (12, mdG r 0 tm (nI ((sn + 2 + 8) + 2)) (nI 0) (nI lz) (nI az) (nI na) (nI nt) (nI nr) mw ml mk dq)), (r 7, .inl ((cT 0), 1000, .inl g7_238))] := hD
              have k240 := hw239
              refine lv_istore (lv' := [(4, .int 1), (5, .int (nI 16)), (0, .ref mo), (1, .long v), (3, .int (nI yn))]) hx hb d_Md_reply_203 hl (by decide) rfl (fun ls hl => ?_)
              refine lv_aload_n hx hb d_Md_reply_205 rfl (lv_at hl 2 rfl) ?_
              refine lv_iconst (v := 2) hx hb d_Md_reply_206 (by decide) ?_
              have hPc := hP.sub (ws' := [(mo, .inr (12, mdG r 0 tm (nI ((sn + 2 + 8) + 2)) (nI 0) (nI lz) (nI az) (nI na) (nI nt) (nI nr) mw ml mk dq)), (r 7, .inl ((cT 0), 1000, .inl g7_238))]) [4, 5] rfl
              have hDc := hD.sub (ws' := [(mo, .inr (12, mdG r 0 tm (nI ((sn + 2 + 8) + 2)) (nI 0) (nI lz) (nI az) (nI na) (nI nt) (nI nr) mw ml mk dq)), (r 7, .inl ((cT 0), 1000, .inl g7_238))]) [4, 5] (by decide) rfl
              have hFc := va_free (wc := [(mo, .inr (12, mdG r 0 tm (nI ((sn + 2 + 8) + 2)) (nI 0) (nI lz) (nI az) (nI na) (nI nt) (nI nr) mw ml mk dq)), (r 7, .inl ((cT 0), 1000, .inl g7_238))]) hD hS hA [4, 5] rfl
              refine va_callv (va_runV (C := "DoorServerModel") (As := [.int 2]) (rest := []) ⟨hx, hb, hml, hown, hg⟩ (m_add l dC dI cT H.size mo r 0 tm ((sn + 2 + 8) + 2) 0 lz az na nt nr mw ml mk dq g7_238 2 (by first | assumption | omega) (by first | assumption | omega)) (cwV 1 hg (gI (List.forall_mem_append.mpr ⟨List.forall_mem_cons.mpr ⟨k_1015, List.forall_mem_cons.mpr ⟨k_1017, List.forall_mem_cons.mpr ⟨(big_sel (q := y_Md_add) (n := 45) (by decide +kernel)), List.forall_mem_cons.mpr ⟨k_13, fun _ h => absurd h List.not_mem_nil⟩⟩⟩⟩, List.forall_mem_cons.mpr ⟨k_1018, fun _ h => h⟩⟩)) rfl rfl rfl (by decide +kernel) ⟨Nat.le_of_ble_eq_true rfl, Nat.le_of_ble_eq_true rfl⟩) ⟨fun a U g mk q => by obtain ⟨q0, q1, qP, qK, qD⟩ := q; exact ⟨q0, q1, qP, va_K.moved (u := U) (U := U.calling g mk a) (Vm.Alike.refl U.vm) qK, qD⟩, va_recv (q0 := 4) (ci := 12) hK hP rfl rfl, fun U hU hW => ⟨rfl, by rw [hU], by rw [hU]; exact hPc, va_K.moved hW.alike hK, hDc.weaken (fun _ _ _ _ => trivial)⟩⟩ rfl rfl hl.1 rfl (lv_room (Nat.le_of_ble_eq_true rfl)) d_Md_reply_207 ⟨Nat.le_of_ble_eq_true rfl, Nat.le_of_ble_eq_true rfl⟩) hS (fun q _ h => hFc q h) hFc (fun u t H1 locs ht hvm hw hB hz1 hk1 hS => ?_)
              obtain ⟨g7_241, rfl⟩ : ∃ z, z = u := ⟨_, rfl⟩
              try dsimp only at hw hB
              obtain ⟨hP1, hK1, hD1⟩ := hB
              rw [ht] at hP1
              obtain ⟨hP, hD⟩ := va_join (wr := [(r 13, .inl ((cT 0), 200, .inl f13)), (r 9, .inl ((cT 0), 1400, .inl g9_232)), (r 0, .inl ((cT 1), 64, .inr (.inl f0))), (r 11, .inl ((cT 0), 16, .inl g11_233))]) (w1 := [(mo, .inr (12, mdG r 0 tm (nI (((sn + 2 + 8) + 2) + 1)) (nI 0) (nI lz) (nI az) (nI na) (nI nt) (nI nr) mw ml mk dq)), (r 7, .inl ((cT 0), 1000, .inl g7_241))]) hP hD [4, 5] [0, 1, 2, 3] rfl rfl (by decide) (by decide) hk1 hFc hP1 hD1
              have hw242 := hw
              clear hPc hDc hFc hz1 hk1 hP1 hK1 hD1
              generalize H1 = H at hP hS ⊢
              have hP : va_P (dC, dI) vcl [(r 13, .inl ((cT 0), 200, .inl f13)), (r 9, .inl ((cT 0), 1400, .inl g9_232)), (r 0, .inl ((cT 1), 64, .inr (.inl f0))), (r 11, .inl ((cT 0), 16, .inl g11_233)), (mo, .inr (12, mdG r 0 tm (nI (((sn + 2 + 8) + 2) + 1)) (nI 0) (nI lz) (nI az) (nI na) (nI nt) (nI nr) mw ml mk dq)), (r 7, .inl ((cT 0), 1000, .inl g7_241))] H := hP
              have hD : va_D A [(r 13, .inl ((cT 0), 200, .inl f13)), (r 9, .inl ((cT 0), 1400, .inl g9_232)), (r 0, .inl ((cT 1), 64, .inr (.inl f0))), (r 11, .inl ((cT 0), 16, .inl g11_233)), (mo, .inr (12, mdG r 0 tm (nI (((sn + 2 + 8) + 2) + 1)) (nI 0) (nI lz) (nI az) (nI na) (nI nt) (nI nr) mw ml mk dq)), (r 7, .inl ((cT 0), 1000, .inl g7_241))] := hD
              have k243 := hw242
              refine lv_aload_n hx hb d_Md_reply_210 rfl (lv_at hl 2 rfl) ?_
              refine lv_aload_n hx hb d_Md_reply_211 rfl (lv_at hl 2 rfl) ?_
              refine va_get (D := (dC, dI)) (ci := 12) (v := (.ref (r 13))) (C := R_Md) (T := F_Md) (N := 45) hx hb hg in_Md hown hK hP 4 rfl rfl 13 (by decide) (hg _ k_1033) (fun _ h9 => h9) rfl d_Md_reply_212 ?_
              refine lv_bipush (v := 33) hx hb d_Md_reply_215 (by decide) ?_
              refine lv_topi (fun x245 e244 => ?_)
              obtain rfl : x245 = nI 33 := by rw [e244]; rfl
              refine va_iald hx hb hK hP 0 0 rfl rfl (i := (nI 33)) (vp_in_nI (N := 200) (by omega) (by decide)) d_Md_reply_217 ?_
              refine lv_topi (fun x246 e_x246 => ?_)
              clear e_x246
              have hPc := hP.sub (ws' := [(mo, .inr (12, mdG r 0 tm (nI (((sn + 2 + 8) + 2) + 1)) (nI 0) (nI lz) (nI az) (nI na) (nI nt) (nI nr) mw ml mk dq)), (r 7, .inl ((cT 0), 1000, .inl g7_241))]) [4, 5] rfl
              have hDc := hD.sub (ws' := [(mo, .inr (12, mdG r 0 tm (nI (((sn + 2 + 8) + 2) + 1)) (nI 0) (nI lz) (nI az) (nI na) (nI nt) (nI nr) mw ml mk dq)), (r 7, .inl ((cT 0), 1000, .inl g7_241))]) [4, 5] (by decide) rfl
              have hFc := va_free (wc := [(mo, .inr (12, mdG r 0 tm (nI (((sn + 2 + 8) + 2) + 1)) (nI 0) (nI lz) (nI az) (nI na) (nI nt) (nI nr) mw ml mk dq)), (r 7, .inl ((cT 0), 1000, .inl g7_241))]) hD hS hA [4, 5] rfl
              refine va_callv (va_runV (C := "DoorServerModel") (As := [.int x246]) (rest := []) ⟨hx, hb, hml, hown, hg⟩ (m_add l dC dI cT H.size mo r 0 tm (((sn + 2 + 8) + 2) + 1) 0 lz az na nt nr mw ml mk dq g7_241 x246 (by first | assumption | omega) (by first | assumption | omega)) (cwV 1 hg (gI (List.forall_mem_append.mpr ⟨List.forall_mem_cons.mpr ⟨k_1015, List.forall_mem_cons.mpr ⟨k_1017, List.forall_mem_cons.mpr ⟨(big_sel (q := y_Md_add) (n := 45) (by decide +kernel)), List.forall_mem_cons.mpr ⟨k_13, fun _ h => absurd h List.not_mem_nil⟩⟩⟩⟩, List.forall_mem_cons.mpr ⟨k_1018, fun _ h => h⟩⟩)) rfl rfl rfl (by decide +kernel) ⟨Nat.le_of_ble_eq_true rfl, Nat.le_of_ble_eq_true rfl⟩) ⟨fun a U g mk q => by obtain ⟨q0, q1, qP, qK, qD⟩ := q; exact ⟨q0, q1, qP, va_K.moved (u := U) (U := U.calling g mk a) (Vm.Alike.refl U.vm) qK, qD⟩, va_recv (q0 := 4) (ci := 12) hK hP rfl rfl, fun U hU hW => ⟨rfl, by rw [hU], by rw [hU]; exact hPc, va_K.moved hW.alike hK, hDc.weaken (fun _ _ _ _ => trivial)⟩⟩ rfl rfl hl.1 rfl (lv_room (Nat.le_of_ble_eq_true rfl)) d_Md_reply_218 ⟨Nat.le_of_ble_eq_true rfl, Nat.le_of_ble_eq_true rfl⟩) hS (fun q _ h => hFc q h) hFc (fun u t H1 locs ht hvm hw hB hz1 hk1 hS => ?_)
              obtain ⟨g7_247, rfl⟩ : ∃ z, z = u := ⟨_, rfl⟩
              try dsimp only at hw hB
              obtain ⟨hP1, hK1, hD1⟩ := hB
              rw [ht] at hP1
              obtain ⟨hP, hD⟩ := va_join (wr := [(r 13, .inl ((cT 0), 200, .inl f13)), (r 9, .inl ((cT 0), 1400, .inl g9_232)), (r 0, .inl ((cT 1), 64, .inr (.inl f0))), (r 11, .inl ((cT 0), 16, .inl g11_233))]) (w1 := [(mo, .inr (12, mdG r 0 tm (nI ((((sn + 2 + 8) + 2) + 1) + 1)) (nI 0) (nI lz) (nI az) (nI na) (nI nt) (nI nr) mw ml mk dq)), (r 7, .inl ((cT 0), 1000, .inl g7_247))]) hP hD [4, 5] [0, 1, 2, 3] rfl rfl (by decide) (by decide) hk1 hFc hP1 hD1
              have hw248 := hw
              clear hPc hDc hFc hz1 hk1 hP1 hK1 hD1
              generalize H1 = H at hP hS ⊢
              have hP : va_P (dC, dI) vcl [(r 13, .inl ((cT 0), 200, .inl f13)), (r 9, .inl ((cT 0), 1400, .inl g9_232)), (r 0, .inl ((cT 1), 64, .inr (.inl f0))), (r 11, .inl ((cT 0), 16, .inl g11_233)), (mo, .inr (12, mdG r 0 tm (nI ((((sn + 2 + 8) + 2) + 1) + 1)) (nI 0) (nI lz) (nI az) (nI na) (nI nt) (nI nr) mw ml mk dq)), (r 7, .inl ((cT 0), 1000, .inl g7_247))] H := hP
              have hD : va_D A [(r 13, .inl ((cT 0), 200, .inl f13)), (r 9, .inl ((cT 0), 1400, .inl g9_232)), (r 0, .inl ((cT 1), 64, .inr (.inl f0))), (r 11, .inl ((cT 0), 16, .inl g11_233)), (mo, .inr (12, mdG r 0 tm (nI ((((sn + 2 + 8) + 2) + 1) + 1)) (nI 0) (nI lz) (nI az) (nI na) (nI nt) (nI nr) mw ml mk dq)), (r 7, .inl ((cT 0), 1000, .inl g7_247))] := hD
              have k249 := hw248
              refine lv_aload_n hx hb d_Md_reply_221 rfl (lv_at hl 2 rfl) ?_
              refine lv_iconst (v := 0) hx hb d_Md_reply_222 (by decide) ?_
              have hPc := hP.sub (ws' := [(mo, .inr (12, mdG r 0 tm (nI ((((sn + 2 + 8) + 2) + 1) + 1)) (nI 0) (nI lz) (nI az) (nI na) (nI nt) (nI nr) mw ml mk dq)), (r 7, .inl ((cT 0), 1000, .inl g7_247))]) [4, 5] rfl
              have hDc := hD.sub (ws' := [(mo, .inr (12, mdG r 0 tm (nI ((((sn + 2 + 8) + 2) + 1) + 1)) (nI 0) (nI lz) (nI az) (nI na) (nI nt) (nI nr) mw ml mk dq)), (r 7, .inl ((cT 0), 1000, .inl g7_247))]) [4, 5] (by decide) rfl
              have hFc := va_free (wc := [(mo, .inr (12, mdG r 0 tm (nI ((((sn + 2 + 8) + 2) + 1) + 1)) (nI 0) (nI lz) (nI az) (nI na) (nI nt) (nI nr) mw ml mk dq)), (r 7, .inl ((cT 0), 1000, .inl g7_247))]) hD hS hA [4, 5] rfl
              refine va_callv (va_runV (C := "DoorServerModel") (As := [.int 0]) (rest := []) ⟨hx, hb, hml, hown, hg⟩ (m_add l dC dI cT H.size mo r 0 tm ((((sn + 2 + 8) + 2) + 1) + 1) 0 lz az na nt nr mw ml mk dq g7_247 0 (by first | assumption | omega) (by first | assumption | omega)) (cwV 1 hg (gI (List.forall_mem_append.mpr ⟨List.forall_mem_cons.mpr ⟨k_1015, List.forall_mem_cons.mpr ⟨k_1017, List.forall_mem_cons.mpr ⟨(big_sel (q := y_Md_add) (n := 45) (by decide +kernel)), List.forall_mem_cons.mpr ⟨k_13, fun _ h => absurd h List.not_mem_nil⟩⟩⟩⟩, List.forall_mem_cons.mpr ⟨k_1018, fun _ h => h⟩⟩)) rfl rfl rfl (by decide +kernel) ⟨Nat.le_of_ble_eq_true rfl, Nat.le_of_ble_eq_true rfl⟩) ⟨fun a U g mk q => by obtain ⟨q0, q1, qP, qK, qD⟩ := q; exact ⟨q0, q1, qP, va_K.moved (u := U) (U := U.calling g mk a) (Vm.Alike.refl U.vm) qK, qD⟩, va_recv (q0 := 4) (ci := 12) hK hP rfl rfl, fun U hU hW => ⟨rfl, by rw [hU], by rw [hU]; exact hPc, va_K.moved hW.alike hK, hDc.weaken (fun _ _ _ _ => trivial)⟩⟩ rfl rfl hl.1 rfl (lv_room (Nat.le_of_ble_eq_true rfl)) d_Md_reply_223 ⟨Nat.le_of_ble_eq_true rfl, Nat.le_of_ble_eq_true rfl⟩) hS (fun q _ h => hFc q h) hFc (fun u t H1 locs ht hvm hw hB hz1 hk1 hS => ?_)
              obtain ⟨g7_250, rfl⟩ : ∃ z, z = u := ⟨_, rfl⟩
              try dsimp only at hw hB
              obtain ⟨hP1, hK1, hD1⟩ := hB
              rw [ht] at hP1
              obtain ⟨hP, hD⟩ := va_join (wr := [(r 13, .inl ((cT 0), 200, .inl f13)), (r 9, .inl ((cT 0), 1400, .inl g9_232)), (r 0, .inl ((cT 1), 64, .inr (.inl f0))), (r 11, .inl ((cT 0), 16, .inl g11_233))]) (w1 := [(mo, .inr (12, mdG r 0 tm (nI (((((sn + 2 + 8) + 2) + 1) + 1) + 1)) (nI 0) (nI lz) (nI az) (nI na) (nI nt) (nI nr) mw ml mk dq)), (r 7, .inl ((cT 0), 1000, .inl g7_250))]) hP hD [4, 5] [0, 1, 2, 3] rfl rfl (by decide) (by decide) hk1 hFc hP1 hD1
              have hw251 := hw
              clear hPc hDc hFc hz1 hk1 hP1 hK1 hD1
              generalize H1 = H at hP hS ⊢
              have hP : va_P (dC, dI) vcl [(r 13, .inl ((cT 0), 200, .inl f13)), (r 9, .inl ((cT 0), 1400, .inl g9_232)), (r 0, .inl ((cT 1), 64, .inr (.inl f0))), (r 11, .inl ((cT 0), 16, .inl g11_233)), (mo, .inr (12, mdG r 0 tm (nI (((((sn + 2 + 8) + 2) + 1) + 1) + 1)) (nI 0) (nI lz) (nI az) (nI na) (nI nt) (nI nr) mw ml mk dq)), (r 7, .inl ((cT 0), 1000, .inl g7_250))] H := hP
              have hD : va_D A [(r 13, .inl ((cT 0), 200, .inl f13)), (r 9, .inl ((cT 0), 1400, .inl g9_232)), (r 0, .inl ((cT 1), 64, .inr (.inl f0))), (r 11, .inl ((cT 0), 16, .inl g11_233)), (mo, .inr (12, mdG r 0 tm (nI (((((sn + 2 + 8) + 2) + 1) + 1) + 1)) (nI 0) (nI lz) (nI az) (nI na) (nI nt) (nI nr) mw ml mk dq)), (r 7, .inl ((cT 0), 1000, .inl g7_250))] := hD
              have k252 := hw251
              refine lv_aload_n hx hb d_Md_reply_226 rfl (lv_at hl 2 rfl) ?_
              refine lv_bipush (v := 22) hx hb d_Md_reply_227 (by decide) ?_
              have hPc := hP.sub (ws' := [(mo, .inr (12, mdG r 0 tm (nI (((((sn + 2 + 8) + 2) + 1) + 1) + 1)) (nI 0) (nI lz) (nI az) (nI na) (nI nt) (nI nr) mw ml mk dq)), (r 7, .inl ((cT 0), 1000, .inl g7_250))]) [4, 5] rfl
              have hDc := hD.sub (ws' := [(mo, .inr (12, mdG r 0 tm (nI (((((sn + 2 + 8) + 2) + 1) + 1) + 1)) (nI 0) (nI lz) (nI az) (nI na) (nI nt) (nI nr) mw ml mk dq)), (r 7, .inl ((cT 0), 1000, .inl g7_250))]) [4, 5] (by decide) rfl
              have hFc := va_free (wc := [(mo, .inr (12, mdG r 0 tm (nI (((((sn + 2 + 8) + 2) + 1) + 1) + 1)) (nI 0) (nI lz) (nI az) (nI na) (nI nt) (nI nr) mw ml mk dq)), (r 7, .inl ((cT 0), 1000, .inl g7_250))]) hD hS hA [4, 5] rfl
              refine va_callv (va_runV (C := "DoorServerModel") (As := [.int 22]) (rest := []) ⟨hx, hb, hml, hown, hg⟩ (m_add l dC dI cT H.size mo r 0 tm (((((sn + 2 + 8) + 2) + 1) + 1) + 1) 0 lz az na nt nr mw ml mk dq g7_250 22 (by first | assumption | omega) (by first | assumption | omega)) (cwV 1 hg (gI (List.forall_mem_append.mpr ⟨List.forall_mem_cons.mpr ⟨k_1015, List.forall_mem_cons.mpr ⟨k_1017, List.forall_mem_cons.mpr ⟨(big_sel (q := y_Md_add) (n := 45) (by decide +kernel)), List.forall_mem_cons.mpr ⟨k_13, fun _ h => absurd h List.not_mem_nil⟩⟩⟩⟩, List.forall_mem_cons.mpr ⟨k_1018, fun _ h => h⟩⟩)) rfl rfl rfl (by decide +kernel) ⟨Nat.le_of_ble_eq_true rfl, Nat.le_of_ble_eq_true rfl⟩) ⟨fun a U g mk q => by obtain ⟨q0, q1, qP, qK, qD⟩ := q; exact ⟨q0, q1, qP, va_K.moved (u := U) (U := U.calling g mk a) (Vm.Alike.refl U.vm) qK, qD⟩, va_recv (q0 := 4) (ci := 12) hK hP rfl rfl, fun U hU hW => ⟨rfl, by rw [hU], by rw [hU]; exact hPc, va_K.moved hW.alike hK, hDc.weaken (fun _ _ _ _ => trivial)⟩⟩ rfl rfl hl.1 rfl (lv_room (Nat.le_of_ble_eq_true rfl)) d_Md_reply_229 ⟨Nat.le_of_ble_eq_true rfl, Nat.le_of_ble_eq_true rfl⟩) hS (fun q _ h => hFc q h) hFc (fun u t H1 locs ht hvm hw hB hz1 hk1 hS => ?_)
              obtain ⟨g7_253, rfl⟩ : ∃ z, z = u := ⟨_, rfl⟩
              try dsimp only at hw hB
              obtain ⟨hP1, hK1, hD1⟩ := hB
              rw [ht] at hP1
              obtain ⟨hP, hD⟩ := va_join (wr := [(r 13, .inl ((cT 0), 200, .inl f13)), (r 9, .inl ((cT 0), 1400, .inl g9_232)), (r 0, .inl ((cT 1), 64, .inr (.inl f0))), (r 11, .inl ((cT 0), 16, .inl g11_233))]) (w1 := [(mo, .inr (12, mdG r 0 tm (nI ((((((sn + 2 + 8) + 2) + 1) + 1) + 1) + 1)) (nI 0) (nI lz) (nI az) (nI na) (nI nt) (nI nr) mw ml mk dq)), (r 7, .inl ((cT 0), 1000, .inl g7_253))]) hP hD [4, 5] [0, 1, 2, 3] rfl rfl (by decide) (by decide) hk1 hFc hP1 hD1
              have hw254 := hw
              clear hPc hDc hFc hz1 hk1 hP1 hK1 hD1
              generalize H1 = H at hP hS ⊢
              have hP : va_P (dC, dI) vcl [(r 13, .inl ((cT 0), 200, .inl f13)), (r 9, .inl ((cT 0), 1400, .inl g9_232)), (r 0, .inl ((cT 1), 64, .inr (.inl f0))), (r 11, .inl ((cT 0), 16, .inl g11_233)), (mo, .inr (12, mdG r 0 tm (nI ((((((sn + 2 + 8) + 2) + 1) + 1) + 1) + 1)) (nI 0) (nI lz) (nI az) (nI na) (nI nt) (nI nr) mw ml mk dq)), (r 7, .inl ((cT 0), 1000, .inl g7_253))] H := hP
              have hD : va_D A [(r 13, .inl ((cT 0), 200, .inl f13)), (r 9, .inl ((cT 0), 1400, .inl g9_232)), (r 0, .inl ((cT 1), 64, .inr (.inl f0))), (r 11, .inl ((cT 0), 16, .inl g11_233)), (mo, .inr (12, mdG r 0 tm (nI ((((((sn + 2 + 8) + 2) + 1) + 1) + 1) + 1)) (nI 0) (nI lz) (nI az) (nI na) (nI nt) (nI nr) mw ml mk dq)), (r 7, .inl ((cT 0), 1000, .inl g7_253))] := hD
              have k255 := hw254
              refine lv_aload_n hx hb d_Md_reply_232 rfl (lv_at hl 2 rfl) ?_
              refine lv_iconst (v := 4) hx hb d_Md_reply_233 (by decide) ?_
              have hPc := hP.sub (ws' := [(mo, .inr (12, mdG r 0 tm (nI ((((((sn + 2 + 8) + 2) + 1) + 1) + 1) + 1)) (nI 0) (nI lz) (nI az) (nI na) (nI nt) (nI nr) mw ml mk dq)), (r 7, .inl ((cT 0), 1000, .inl g7_253))]) [4, 5] rfl
              have hDc := hD.sub (ws' := [(mo, .inr (12, mdG r 0 tm (nI ((((((sn + 2 + 8) + 2) + 1) + 1) + 1) + 1)) (nI 0) (nI lz) (nI az) (nI na) (nI nt) (nI nr) mw ml mk dq)), (r 7, .inl ((cT 0), 1000, .inl g7_253))]) [4, 5] (by decide) rfl
              have hFc := va_free (wc := [(mo, .inr (12, mdG r 0 tm (nI ((((((sn + 2 + 8) + 2) + 1) + 1) + 1) + 1)) (nI 0) (nI lz) (nI az) (nI na) (nI nt) (nI nr) mw ml mk dq)), (r 7, .inl ((cT 0), 1000, .inl g7_253))]) hD hS hA [4, 5] rfl
              refine va_callv (va_runV (C := "DoorServerModel") (As := [.int 4]) (rest := []) ⟨hx, hb, hml, hown, hg⟩ (m_add l dC dI cT H.size mo r 0 tm ((((((sn + 2 + 8) + 2) + 1) + 1) + 1) + 1) 0 lz az na nt nr mw ml mk dq g7_253 4 (by first | assumption | omega) (by first | assumption | omega)) (cwV 1 hg (gI (List.forall_mem_append.mpr ⟨List.forall_mem_cons.mpr ⟨k_1015, List.forall_mem_cons.mpr ⟨k_1017, List.forall_mem_cons.mpr ⟨(big_sel (q := y_Md_add) (n := 45) (by decide +kernel)), List.forall_mem_cons.mpr ⟨k_13, fun _ h => absurd h List.not_mem_nil⟩⟩⟩⟩, List.forall_mem_cons.mpr ⟨k_1018, fun _ h => h⟩⟩)) rfl rfl rfl (by decide +kernel) ⟨Nat.le_of_ble_eq_true rfl, Nat.le_of_ble_eq_true rfl⟩) ⟨fun a U g mk q => by obtain ⟨q0, q1, qP, qK, qD⟩ := q; exact ⟨q0, q1, qP, va_K.moved (u := U) (U := U.calling g mk a) (Vm.Alike.refl U.vm) qK, qD⟩, va_recv (q0 := 4) (ci := 12) hK hP rfl rfl, fun U hU hW => ⟨rfl, by rw [hU], by rw [hU]; exact hPc, va_K.moved hW.alike hK, hDc.weaken (fun _ _ _ _ => trivial)⟩⟩ rfl rfl hl.1 rfl (lv_room (Nat.le_of_ble_eq_true rfl)) d_Md_reply_234 ⟨Nat.le_of_ble_eq_true rfl, Nat.le_of_ble_eq_true rfl⟩) hS (fun q _ h => hFc q h) hFc (fun u t H1 locs ht hvm hw hB hz1 hk1 hS => ?_)
              obtain ⟨g7_256, rfl⟩ : ∃ z, z = u := ⟨_, rfl⟩
              try dsimp only at hw hB
              obtain ⟨hP1, hK1, hD1⟩ := hB
              rw [ht] at hP1
              obtain ⟨hP, hD⟩ := va_join (wr := [(r 13, .inl ((cT 0), 200, .inl f13)), (r 9, .inl ((cT 0), 1400, .inl g9_232)), (r 0, .inl ((cT 1), 64, .inr (.inl f0))), (r 11, .inl ((cT 0), 16, .inl g11_233))]) (w1 := [(mo, .inr (12, mdG r 0 tm (nI (((((((sn + 2 + 8) + 2) + 1) + 1) + 1) + 1) + 1)) (nI 0) (nI lz) (nI az) (nI na) (nI nt) (nI nr) mw ml mk dq)), (r 7, .inl ((cT 0), 1000, .inl g7_256))]) hP hD [4, 5] [0, 1, 2, 3] rfl rfl (by decide) (by decide) hk1 hFc hP1 hD1
              have hw257 := hw
              clear hPc hDc hFc hz1 hk1 hP1 hK1 hD1
              generalize H1 = H at hP hS ⊢
              have hP : va_P (dC, dI) vcl [(r 13, .inl ((cT 0), 200, .inl f13)), (r 9, .inl ((cT 0), 1400, .inl g9_232)), (r 0, .inl ((cT 1), 64, .inr (.inl f0))), (r 11, .inl ((cT 0), 16, .inl g11_233)), (mo, .inr (12, mdG r 0 tm (nI (((((((sn + 2 + 8) + 2) + 1) + 1) + 1) + 1) + 1)) (nI 0) (nI lz) (nI az) (nI na) (nI nt) (nI nr) mw ml mk dq)), (r 7, .inl ((cT 0), 1000, .inl g7_256))] H := hP
              have hD : va_D A [(r 13, .inl ((cT 0), 200, .inl f13)), (r 9, .inl ((cT 0), 1400, .inl g9_232)), (r 0, .inl ((cT 1), 64, .inr (.inl f0))), (r 11, .inl ((cT 0), 16, .inl g11_233)), (mo, .inr (12, mdG r 0 tm (nI (((((((sn + 2 + 8) + 2) + 1) + 1) + 1) + 1) + 1)) (nI 0) (nI lz) (nI az) (nI na) (nI nt) (nI nr) mw ml mk dq)), (r 7, .inl ((cT 0), 1000, .inl g7_256))] := hD
              have k258 := hw257
              refine lv_aload_n hx hb d_Md_reply_237 rfl (lv_at hl 2 rfl) ?_
              refine lv_bipush (v := 16) hx hb d_Md_reply_238 (by decide) ?_
              have hPc := hP.sub (ws' := [(mo, .inr (12, mdG r 0 tm (nI (((((((sn + 2 + 8) + 2) + 1) + 1) + 1) + 1) + 1)) (nI 0) (nI lz) (nI az) (nI na) (nI nt) (nI nr) mw ml mk dq)), (r 7, .inl ((cT 0), 1000, .inl g7_256))]) [4, 5] rfl
              have hDc := hD.sub (ws' := [(mo, .inr (12, mdG r 0 tm (nI (((((((sn + 2 + 8) + 2) + 1) + 1) + 1) + 1) + 1)) (nI 0) (nI lz) (nI az) (nI na) (nI nt) (nI nr) mw ml mk dq)), (r 7, .inl ((cT 0), 1000, .inl g7_256))]) [4, 5] (by decide) rfl
              have hFc := va_free (wc := [(mo, .inr (12, mdG r 0 tm (nI (((((((sn + 2 + 8) + 2) + 1) + 1) + 1) + 1) + 1)) (nI 0) (nI lz) (nI az) (nI na) (nI nt) (nI nr) mw ml mk dq)), (r 7, .inl ((cT 0), 1000, .inl g7_256))]) hD hS hA [4, 5] rfl
              refine va_callv (va_runV (C := "DoorServerModel") (As := [.int 16]) (rest := []) ⟨hx, hb, hml, hown, hg⟩ (m_add l dC dI cT H.size mo r 0 tm (((((((sn + 2 + 8) + 2) + 1) + 1) + 1) + 1) + 1) 0 lz az na nt nr mw ml mk dq g7_256 16 (by first | assumption | omega) (by first | assumption | omega)) (cwV 1 hg (gI (List.forall_mem_append.mpr ⟨List.forall_mem_cons.mpr ⟨k_1015, List.forall_mem_cons.mpr ⟨k_1017, List.forall_mem_cons.mpr ⟨(big_sel (q := y_Md_add) (n := 45) (by decide +kernel)), List.forall_mem_cons.mpr ⟨k_13, fun _ h => absurd h List.not_mem_nil⟩⟩⟩⟩, List.forall_mem_cons.mpr ⟨k_1018, fun _ h => h⟩⟩)) rfl rfl rfl (by decide +kernel) ⟨Nat.le_of_ble_eq_true rfl, Nat.le_of_ble_eq_true rfl⟩) ⟨fun a U g mk q => by obtain ⟨q0, q1, qP, qK, qD⟩ := q; exact ⟨q0, q1, qP, va_K.moved (u := U) (U := U.calling g mk a) (Vm.Alike.refl U.vm) qK, qD⟩, va_recv (q0 := 4) (ci := 12) hK hP rfl rfl, fun U hU hW => ⟨rfl, by rw [hU], by rw [hU]; exact hPc, va_K.moved hW.alike hK, hDc.weaken (fun _ _ _ _ => trivial)⟩⟩ rfl rfl hl.1 rfl (lv_room (Nat.le_of_ble_eq_true rfl)) d_Md_reply_240 ⟨Nat.le_of_ble_eq_true rfl, Nat.le_of_ble_eq_true rfl⟩) hS (fun q _ h => hFc q h) hFc (fun u t H1 locs ht hvm hw hB hz1 hk1 hS => ?_)
              obtain ⟨g7_259, rfl⟩ : ∃ z, z = u := ⟨_, rfl⟩
              try dsimp only at hw hB
              obtain ⟨hP1, hK1, hD1⟩ := hB
              rw [ht] at hP1
              obtain ⟨hP, hD⟩ := va_join (wr := [(r 13, .inl ((cT 0), 200, .inl f13)), (r 9, .inl ((cT 0), 1400, .inl g9_232)), (r 0, .inl ((cT 1), 64, .inr (.inl f0))), (r 11, .inl ((cT 0), 16, .inl g11_233))]) (w1 := [(mo, .inr (12, mdG r 0 tm (nI ((((((((sn + 2 + 8) + 2) + 1) + 1) + 1) + 1) + 1) + 1)) (nI 0) (nI lz) (nI az) (nI na) (nI nt) (nI nr) mw ml mk dq)), (r 7, .inl ((cT 0), 1000, .inl g7_259))]) hP hD [4, 5] [0, 1, 2, 3] rfl rfl (by decide) (by decide) hk1 hFc hP1 hD1
              have hw260 := hw
              clear hPc hDc hFc hz1 hk1 hP1 hK1 hD1
              generalize H1 = H at hP hS ⊢
              have hP : va_P (dC, dI) vcl [(r 13, .inl ((cT 0), 200, .inl f13)), (r 9, .inl ((cT 0), 1400, .inl g9_232)), (r 0, .inl ((cT 1), 64, .inr (.inl f0))), (r 11, .inl ((cT 0), 16, .inl g11_233)), (mo, .inr (12, mdG r 0 tm (nI ((((((((sn + 2 + 8) + 2) + 1) + 1) + 1) + 1) + 1) + 1)) (nI 0) (nI lz) (nI az) (nI na) (nI nt) (nI nr) mw ml mk dq)), (r 7, .inl ((cT 0), 1000, .inl g7_259))] H := hP
              have hD : va_D A [(r 13, .inl ((cT 0), 200, .inl f13)), (r 9, .inl ((cT 0), 1400, .inl g9_232)), (r 0, .inl ((cT 1), 64, .inr (.inl f0))), (r 11, .inl ((cT 0), 16, .inl g11_233)), (mo, .inr (12, mdG r 0 tm (nI ((((((((sn + 2 + 8) + 2) + 1) + 1) + 1) + 1) + 1) + 1)) (nI 0) (nI lz) (nI az) (nI na) (nI nt) (nI nr) mw ml mk dq)), (r 7, .inl ((cT 0), 1000, .inl g7_259))] := hD
              have k261 := hw260
              refine lv_iconst (v := 0) hx hb d_Md_reply_243 (by decide) ?_
              refine lv_istore (lv' := [(5, .int 0), (4, .int 1), (0, .ref mo), (1, .long v), (3, .int (nI yn))]) hx hb d_Md_reply_244 hl (by decide) rfl (fun ls hl => ?_)
              have hl := lv_sub hl [0, 1, 2, 3, 4] (show _ = [(5, .int 0), (4, .int 1), (0, .ref mo), (1, .long v), (3, .int (nI yn))] from rfl)
              have L263 : ∀ (Q : State → Prop) (exit : ∀ (g7_262 : Nat → Int32) (H : Heap) (locs : List Loc) (ls : Array Slot), (AB g7_262) → va_P (dC, dI) vcl [(r 13, .inl ((cT 0), 200, .inl f13)), (r 9, .inl ((cT 0), 1400, .inl g9_232)), (r 0, .inl ((cT 1), 64, .inr (.inl f0))), (r 11, .inl ((cT 0), 16, .inl g11_233)), (mo, .inr (12, mdG r 0 tm (nI ((((((((sn + 2 + 8) + 2) + 1) + 1) + 1) + 1) + 1) + 1 + 16)) (nI 0) (nI lz) (nI az) (nI na) (nI nt) (nI nr) mw ml mk dq)), (r 7, .inl ((cT 0), 1000, .inl g7_262))] H → va_D A [(r 13, .inl ((cT 0), 200, .inl f13)), (r 9, .inl ((cT 0), 1400, .inl g9_232)), (r 0, .inl ((cT 1), 64, .inr (.inl f0))), (r 11, .inl ((cT 0), 16, .inl g11_233)), (mo, .inr (12, mdG r 0 tm (nI ((((((((sn + 2 + 8) + 2) + 1) + 1) + 1) + 1) + 1) + 1 + 16)) (nI 0) (nI lz) (nI az) (nI na) (nI nt) (nI nr) mw ml mk dq)), (r 7, .inl ((cT 0), 1000, .inl g7_262))] → va_S A s.heap H locs → lv_has ls 6 [(5, .int (nI 16)), (4, .int 1), (0, .ref mo), (1, .long v), (3, .int (nI yn))] → W p l e ({ frames := 2, cells := 0, slots := 0, locals := 69 } : Room) s m args below meth c H locs 0 0 Q (F0 m 270 ls [])) (j8 i : Nat) (g7_262 : Nat → Int32) (H : Heap) (locs : List Loc) (ls : Array Slot), i + j8 = 16 → (AB g7_262) → va_P (dC, dI) vcl [(r 13, .inl ((cT 0), 200, .inl f13)), (r 9, .inl ((cT 0), 1400, .inl g9_232)), (r 0, .inl ((cT 1), 64, .inr (.inl f0))), (r 11, .inl ((cT 0), 16, .inl g11_233)), (mo, .inr (12, mdG r 0 tm (nI ((((((((sn + 2 + 8) + 2) + 1) + 1) + 1) + 1) + 1) + 1 + i)) (nI 0) (nI lz) (nI az) (nI na) (nI nt) (nI nr) mw ml mk dq)), (r 7, .inl ((cT 0), 1000, .inl g7_262))] H → va_D A [(r 13, .inl ((cT 0), 200, .inl f13)), (r 9, .inl ((cT 0), 1400, .inl g9_232)), (r 0, .inl ((cT 1), 64, .inr (.inl f0))), (r 11, .inl ((cT 0), 16, .inl g11_233)), (mo, .inr (12, mdG r 0 tm (nI ((((((((sn + 2 + 8) + 2) + 1) + 1) + 1) + 1) + 1) + 1 + i)) (nI 0) (nI lz) (nI az) (nI na) (nI nt) (nI nr) mw ml mk dq)), (r 7, .inl ((cT 0), 1000, .inl g7_262))] → va_S A s.heap H locs → lv_has ls 6 [(5, .int (nI i)), (4, .int 1), (0, .ref mo), (1, .long v), (3, .int (nI yn))] → W p l e ({ frames := 2, cells := 0, slots := 0, locals := 69 } : Room) s m args below meth c H locs 0 0 Q (F0 m 246 ls []) := by
                intro Q exit j8
                induction j8 with
                | zero => 
                  intro i g7_262 H locs ls hij hab hP hD hS hl
                  have hij : 16 = i := by omega
                  refine lv_iload hx hb d_Md_reply_246 (lv_at hl 0 rfl) ?_
                  refine lv_bipush (v := 16) hx hb d_Md_reply_248 (by decide) ?_
                  refine lv_topi (fun x265 e264 => ?_)
                  obtain rfl : x265 = nI 16 := by rw [e264]; rfl
                  refine lv_icmp_ge (tgt := 270) hx hb d_Md_reply_250 (by decide) (fun hc266 => ?_) (fun hn9 => absurd (nI_le (by omega) (by omega)) hn9)
                  subst hij
                  exact exit g7_262 _ _ _ hab hP hD hS hl
                | succ j8 ih => 
                  intro i g7_262 H locs ls hij hab hP hD hS hl
                  have hlt : i < 16 := by omega
                  have hlti := hlt
                  refine lv_iload hx hb d_Md_reply_246 (lv_at hl 0 rfl) ?_
                  refine lv_bipush (v := 16) hx hb d_Md_reply_248 (by decide) ?_
                  refine lv_topi (fun x268 e267 => ?_)
                  obtain rfl : x268 = nI 16 := by rw [e267]; rfl
                  refine lv_icmp_ge (tgt := 270) hx hb d_Md_reply_250 (by decide) (fun hn9 => absurd hn9 (nI_ge (by omega) (by omega))) (fun hc269 => ?_)
                  refine lv_aload_n hx hb d_Md_reply_253 rfl (lv_at hl 2 rfl) ?_
                  refine lv_aload_n hx hb d_Md_reply_254 rfl (lv_at hl 2 rfl) ?_
                  refine va_get (D := (dC, dI)) (ci := 12) (v := (.ref (r 11))) (C := R_Md) (T := F_Md) (N := 45) hx hb hg in_Md hown hK hP 4 rfl rfl 11 (by decide) (hg _ k_1031) (fun _ h9 => h9) rfl d_Md_reply_255 ?_
                  refine lv_iload hx hb d_Md_reply_258 (lv_at hl 0 rfl) ?_
                  refine va_iald hx hb hK hP 3 0 rfl rfl (i := (nI i)) (vp_in_nI (N := 16) (by omega) (by decide)) d_Md_reply_260 ?_
                  refine lv_topi (fun x270 e_x270 => ?_)
                  clear e_x270
                  have hPc := hP.sub (ws' := [(mo, .inr (12, mdG r 0 tm (nI ((((((((sn + 2 + 8) + 2) + 1) + 1) + 1) + 1) + 1) + 1 + i)) (nI 0) (nI lz) (nI az) (nI na) (nI nt) (nI nr) mw ml mk dq)), (r 7, .inl ((cT 0), 1000, .inl g7_262))]) [4, 5] rfl
                  have hDc := hD.sub (ws' := [(mo, .inr (12, mdG r 0 tm (nI ((((((((sn + 2 + 8) + 2) + 1) + 1) + 1) + 1) + 1) + 1 + i)) (nI 0) (nI lz) (nI az) (nI na) (nI nt) (nI nr) mw ml mk dq)), (r 7, .inl ((cT 0), 1000, .inl g7_262))]) [4, 5] (by decide) rfl
                  have hFc := va_free (wc := [(mo, .inr (12, mdG r 0 tm (nI ((((((((sn + 2 + 8) + 2) + 1) + 1) + 1) + 1) + 1) + 1 + i)) (nI 0) (nI lz) (nI az) (nI na) (nI nt) (nI nr) mw ml mk dq)), (r 7, .inl ((cT 0), 1000, .inl g7_262))]) hD hS hA [4, 5] rfl
                  refine va_callv (va_runV (C := "DoorServerModel") (As := [.int x270]) (rest := []) ⟨hx, hb, hml, hown, hg⟩ (m_add l dC dI cT H.size mo r 0 tm ((((((((sn + 2 + 8) + 2) + 1) + 1) + 1) + 1) + 1) + 1 + i) 0 lz az na nt nr mw ml mk dq g7_262 x270 (by first | assumption | omega) (by first | assumption | omega)) (cwV 1 hg (gI (List.forall_mem_append.mpr ⟨List.forall_mem_cons.mpr ⟨k_1015, List.forall_mem_cons.mpr ⟨k_1017, List.forall_mem_cons.mpr ⟨(big_sel (q := y_Md_add) (n := 45) (by decide +kernel)), List.forall_mem_cons.mpr ⟨k_13, fun _ h => absurd h List.not_mem_nil⟩⟩⟩⟩, List.forall_mem_cons.mpr ⟨k_1018, fun _ h => h⟩⟩)) rfl rfl rfl (by decide +kernel) ⟨Nat.le_of_ble_eq_true rfl, Nat.le_of_ble_eq_true rfl⟩) ⟨fun a U g mk q => by obtain ⟨q0, q1, qP, qK, qD⟩ := q; exact ⟨q0, q1, qP, va_K.moved (u := U) (U := U.calling g mk a) (Vm.Alike.refl U.vm) qK, qD⟩, va_recv (q0 := 4) (ci := 12) hK hP rfl rfl, fun U hU hW => ⟨rfl, by rw [hU], by rw [hU]; exact hPc, va_K.moved hW.alike hK, hDc.weaken (fun _ _ _ _ => trivial)⟩⟩ rfl rfl hl.1 rfl (lv_room (Nat.le_of_ble_eq_true rfl)) d_Md_reply_261 ⟨Nat.le_of_ble_eq_true rfl, Nat.le_of_ble_eq_true rfl⟩) hS (fun q _ h => hFc q h) hFc (fun u t H1 locs ht hvm hw hB hz1 hk1 hS => ?_)
                  obtain ⟨g7_271, rfl⟩ : ∃ z, z = u := ⟨_, rfl⟩
                  try dsimp only at hw hB
                  obtain ⟨hP1, hK1, hD1⟩ := hB
                  rw [ht] at hP1
                  obtain ⟨hP, hD⟩ := va_join (wr := [(r 13, .inl ((cT 0), 200, .inl f13)), (r 9, .inl ((cT 0), 1400, .inl g9_232)), (r 0, .inl ((cT 1), 64, .inr (.inl f0))), (r 11, .inl ((cT 0), 16, .inl g11_233))]) (w1 := [(mo, .inr (12, mdG r 0 tm (nI (((((((((sn + 2 + 8) + 2) + 1) + 1) + 1) + 1) + 1) + 1 + i) + 1)) (nI 0) (nI lz) (nI az) (nI na) (nI nt) (nI nr) mw ml mk dq)), (r 7, .inl ((cT 0), 1000, .inl g7_271))]) hP hD [4, 5] [0, 1, 2, 3] rfl rfl (by decide) (by decide) hk1 hFc hP1 hD1
                  have hw272 := hw
                  clear hPc hDc hFc hz1 hk1 hP1 hK1 hD1
                  generalize H1 = H at hP hS ⊢
                  have hP : va_P (dC, dI) vcl [(r 13, .inl ((cT 0), 200, .inl f13)), (r 9, .inl ((cT 0), 1400, .inl g9_232)), (r 0, .inl ((cT 1), 64, .inr (.inl f0))), (r 11, .inl ((cT 0), 16, .inl g11_233)), (mo, .inr (12, mdG r 0 tm (nI (((((((((sn + 2 + 8) + 2) + 1) + 1) + 1) + 1) + 1) + 1 + i) + 1)) (nI 0) (nI lz) (nI az) (nI na) (nI nt) (nI nr) mw ml mk dq)), (r 7, .inl ((cT 0), 1000, .inl g7_271))] H := hP
                  have hD : va_D A [(r 13, .inl ((cT 0), 200, .inl f13)), (r 9, .inl ((cT 0), 1400, .inl g9_232)), (r 0, .inl ((cT 1), 64, .inr (.inl f0))), (r 11, .inl ((cT 0), 16, .inl g11_233)), (mo, .inr (12, mdG r 0 tm (nI (((((((((sn + 2 + 8) + 2) + 1) + 1) + 1) + 1) + 1) + 1 + i) + 1)) (nI 0) (nI lz) (nI az) (nI na) (nI nt) (nI nr) mw ml mk dq)), (r 7, .inl ((cT 0), 1000, .inl g7_271))] := hD
                  have k273 := hw272
                  refine lv_iinc (k := 0) (v := nI (i + 1)) (lv' := [(5, .int (nI (i + 1))), (4, .int 1), (0, .ref mo), (1, .long v), (3, .int (nI yn))]) hx hb d_Md_reply_264 hl rfl (nI_1 i) (by decide) rfl (fun ls hl => ?_)
                  refine lv_goto (tgt := 246) hx hb d_Md_reply_267 (by decide) ?_
                  have hl := lv_sub hl [0, 1, 2, 3, 4] (show _ = [(5, .int (nI (i + 1))), (4, .int 1), (0, .ref mo), (1, .long v), (3, .int (nI yn))] from rfl)
                  exact ih (i + 1) _ _ _ _ (by omega) (by first | assumption | omega) hP hD hS hl
              refine L263 _ (fun g7_262 H locs ls hab hP hD hS hl => ?_) (16 - 0) 0 g7_259 H _ ls (by omega) (by first | assumption | omega) hP hD hS hl
              refine lv_aload_n hx hb d_Md_reply_270 rfl (lv_at hl 2 rfl) ?_
              have hPc := hP.sub (ws' := [(mo, .inr (12, mdG r 0 tm (nI ((((((((sn + 2 + 8) + 2) + 1) + 1) + 1) + 1) + 1) + 1 + 16)) (nI 0) (nI lz) (nI az) (nI na) (nI nt) (nI nr) mw ml mk dq)), (r 7, .inl ((cT 0), 1000, .inl g7_262))]) [4, 5] rfl
              have hDc := hD.sub (ws' := [(mo, .inr (12, mdG r 0 tm (nI ((((((((sn + 2 + 8) + 2) + 1) + 1) + 1) + 1) + 1) + 1 + 16)) (nI 0) (nI lz) (nI az) (nI na) (nI nt) (nI nr) mw ml mk dq)), (r 7, .inl ((cT 0), 1000, .inl g7_262))]) [4, 5] (by decide) rfl
              have hFc := va_free (wc := [(mo, .inr (12, mdG r 0 tm (nI ((((((((sn + 2 + 8) + 2) + 1) + 1) + 1) + 1) + 1) + 1 + 16)) (nI 0) (nI lz) (nI az) (nI na) (nI nt) (nI nr) mw ml mk dq)), (r 7, .inl ((cT 0), 1000, .inl g7_262))]) hD hS hA [4, 5] rfl
              refine va_calli (va_runV (C := "DoorServerModel") (As := []) (rest := []) ⟨hx, hb, hml, hown, hg⟩ (m_closes l dC dI cT H.size mo r 0 tm ((((((((sn + 2 + 8) + 2) + 1) + 1) + 1) + 1) + 1) + 1 + 16) 0 lz az na nt nr mw ml mk dq g7_262 (by first | assumption | omega) (by first | assumption | omega)) (cwV 0 hg (gI (List.forall_mem_append.mpr ⟨List.forall_mem_cons.mpr ⟨k_1192, List.forall_mem_cons.mpr ⟨k_1194, List.forall_mem_cons.mpr ⟨(big_sel (q := y_Md_closes) (n := 45) (by decide +kernel)), List.forall_mem_cons.mpr ⟨k_13, fun _ h => absurd h List.not_mem_nil⟩⟩⟩⟩, List.forall_mem_cons.mpr ⟨k_1195, fun _ h => h⟩⟩)) rfl rfl rfl (by decide +kernel) ⟨Nat.le_of_ble_eq_true rfl, Nat.le_of_ble_eq_true rfl⟩) ⟨fun a U g mk q => by obtain ⟨q0, q1, qP, qK, qD⟩ := q; exact ⟨q0, q1, qP, va_K.moved (u := U) (U := U.calling g mk a) (Vm.Alike.refl U.vm) qK, qD⟩, va_recv (q0 := 4) (ci := 12) hK hP rfl rfl, fun U hU hW => ⟨rfl, by rw [hU], by rw [hU]; exact hPc, va_K.moved hW.alike hK, hDc.weaken (fun _ _ _ _ => trivial)⟩⟩ rfl rfl hl.1 rfl (lv_room (Nat.le_of_ble_eq_true rfl)) d_Md_reply_271 ⟨Nat.le_of_ble_eq_true rfl, Nat.le_of_ble_eq_true rfl⟩) hS (fun q _ h => hFc q h) hFc (fun rv9 u t H1 locs ht hvm hw hB hz1 hk1 hS => ?_)
              obtain ⟨g7_274, rfl⟩ : ∃ z, z = u := ⟨_, rfl⟩
              try dsimp only at hw hB
              obtain ⟨hP1, hK1, hD1⟩ := hB
              rw [ht] at hP1
              obtain ⟨rfl, hw⟩ := hw
              obtain ⟨hP, hD⟩ := va_join (wr := [(r 13, .inl ((cT 0), 200, .inl f13)), (r 9, .inl ((cT 0), 1400, .inl g9_232)), (r 0, .inl ((cT 1), 64, .inr (.inl f0))), (r 11, .inl ((cT 0), 16, .inl g11_233))]) (w1 := [(mo, .inr (12, mdG r 0 tm (nI ((((((((sn + 2 + 8) + 2) + 1) + 1) + 1) + 1) + 1) + 1 + 16)) (nI 0) (nI lz) (nI az) (nI na) (nI nt) (nI nr) mw ml mk dq)), (r 7, .inl ((cT 0), 1000, .inl g7_274))]) hP hD [4, 5] [0, 1, 2, 3] rfl rfl (by decide) (by decide) hk1 hFc hP1 hD1
              have hw275 := hw
              clear hPc hDc hFc hz1 hk1 hP1 hK1 hD1
              generalize H1 = H at hP hS ⊢
              have hP : va_P (dC, dI) vcl [(r 13, .inl ((cT 0), 200, .inl f13)), (r 9, .inl ((cT 0), 1400, .inl g9_232)), (r 0, .inl ((cT 1), 64, .inr (.inl f0))), (r 11, .inl ((cT 0), 16, .inl g11_233)), (mo, .inr (12, mdG r 0 tm (nI ((((((((sn + 2 + 8) + 2) + 1) + 1) + 1) + 1) + 1) + 1 + 16)) (nI 0) (nI lz) (nI az) (nI na) (nI nt) (nI nr) mw ml mk dq)), (r 7, .inl ((cT 0), 1000, .inl g7_274))] H := hP
              have hD : va_D A [(r 13, .inl ((cT 0), 200, .inl f13)), (r 9, .inl ((cT 0), 1400, .inl g9_232)), (r 0, .inl ((cT 1), 64, .inr (.inl f0))), (r 11, .inl ((cT 0), 16, .inl g11_233)), (mo, .inr (12, mdG r 0 tm (nI ((((((((sn + 2 + 8) + 2) + 1) + 1) + 1) + 1) + 1) + 1 + 16)) (nI 0) (nI lz) (nI az) (nI na) (nI nt) (nI nr) mw ml mk dq)), (r 7, .inl ((cT 0), 1000, .inl g7_274))] := hD
              have k276 := hw275
              have hP9 := hP.sub (ws' := [(mo, .inr (12, mdG r 0 tm (nI ((((((((sn + 2 + 8) + 2) + 1) + 1) + 1) + 1) + 1) + 1 + 16)) (nI 0) (nI lz) (nI az) (nI na) (nI nt) (nI nr) mw ml mk dq)), (r 7, .inl ((cT 0), 1000, .inl g7_274)), (r 13, .inl ((cT 0), 200, .inl f13)), (r 9, .inl ((cT 0), 1400, .inl g9_232)), (r 0, .inl ((cT 1), 64, .inr (.inl f0))), (r 11, .inl ((cT 0), 16, .inl g11_233))]) [4, 5, 0, 1, 2, 3] rfl
              have hD9 := hD.sub (ws' := [(mo, .inr (12, mdG r 0 tm (nI ((((((((sn + 2 + 8) + 2) + 1) + 1) + 1) + 1) + 1) + 1 + 16)) (nI 0) (nI lz) (nI az) (nI na) (nI nt) (nI nr) mw ml mk dq)), (r 7, .inl ((cT 0), 1000, .inl g7_274)), (r 13, .inl ((cT 0), 200, .inl f13)), (r 9, .inl ((cT 0), 1400, .inl g9_232)), (r 0, .inl ((cT 1), 64, .inr (.inl f0))), (r 11, .inl ((cT 0), 16, .inl g11_233))]) [4, 5, 0, 1, 2, 3] (by decide) rfl
              exact W.iret (v := nI ((((((((sn + 2 + 8) + 2) + 1) + 1) + 1) + 1) + 1) + 1 + 16)) hx hb hr (fun t ht hW => ⟨⟨_, ⟨g7_274, g9_232, g11_233, 0, (((((((sn + 2 + 8) + 2) + 1) + 1) + 1) + 1) + 1) + 1 + 16⟩, rfl, ⟨by first | assumption | omega, by first | assumption | omega, by first | assumption | omega, by first | assumption | omega⟩, by rw [ht]; exact hP9, va_K.moved hW.alike hK, hD9⟩, hS.F ht⟩) hS.2.2 d_Md_reply_274
            · skip
              have n185 : 1000 < sn + 34 := Nat.not_le.mp (fun h7 => hc183 ((nI_leI (a := sn + 34) (b := 1000) (by omega) (by omega)).mpr h7))
              refine lv_iconst (v := 2) hx hb d_Md_reply_68 (by decide) ?_
              refine lv_goto (tgt := 73) hx hb d_Md_reply_69 (by decide) ?_
              refine va_put (D := (dC, dI)) (ci := 12) (v := (.int 2)) (ty := .int) (C := R_Md) (T := F_Md) (N := 45) hx hb hg in_Md t_Md tok_Md nm_Md hown hK hP hD hS 5 rfl rfl 1 (by decide) (hg _ k_1021) (fun _ h9 => h9) rfl (by decide +kernel) rfl rfl (Nat.le_of_ble_eq_true rfl) d_Md_reply_73 (fun H locs hP hD hS => ?_)
              have hP : va_P (dC, dI) vcl [(r 7, .inl ((cT 0), 1000, .inl f7)), (r 13, .inl ((cT 0), 200, .inl f13)), (r 9, .inl ((cT 0), 1400, .inl f9)), (r 0, .inl ((cT 1), 64, .inr (.inl f0))), (r 11, .inl ((cT 0), 16, .inl f11)), (mo, .inr (12, mdG r 2 tm (nI sn) (nI 0) (nI lz) (nI az) (nI na) (nI nt) (nI nr) mw ml mk dq))] H := hP
              have hD : va_D A [(r 7, .inl ((cT 0), 1000, .inl f7)), (r 13, .inl ((cT 0), 200, .inl f13)), (r 9, .inl ((cT 0), 1400, .inl f9)), (r 0, .inl ((cT 1), 64, .inr (.inl f0))), (r 11, .inl ((cT 0), 16, .inl f11)), (mo, .inr (12, mdG r 2 tm (nI sn) (nI 0) (nI lz) (nI az) (nI na) (nI nt) (nI nr) mw ml mk dq))] := hD
              refine lv_aload_n hx hb d_Md_reply_76 rfl (lv_at hl 0 rfl) ?_
              refine va_get (D := (dC, dI)) (ci := 12) (v := (.int 2)) (C := R_Md) (T := F_Md) (N := 45) hx hb hg in_Md hown hK hP 5 rfl rfl 1 (by decide) (hg _ k_1021) (fun _ h9 => h9) rfl d_Md_reply_77 ?_
              refine lv_if_le (tgt := 85) hx hb d_Md_reply_80 (by decide) (fun hn9 => absurd hn9 (by decide)) (fun hc277 => ?_)
              refine lv_iconst (v := 0) hx hb d_Md_reply_83 (by decide) ?_
              have hP9 := hP.sub (ws' := [(mo, .inr (12, mdG r 2 tm (nI sn) (nI 0) (nI lz) (nI az) (nI na) (nI nt) (nI nr) mw ml mk dq)), (r 7, .inl ((cT 0), 1000, .inl f7)), (r 13, .inl ((cT 0), 200, .inl f13)), (r 9, .inl ((cT 0), 1400, .inl f9)), (r 0, .inl ((cT 1), 64, .inr (.inl f0))), (r 11, .inl ((cT 0), 16, .inl f11))]) [5, 0, 1, 2, 3, 4] rfl
              have hD9 := hD.sub (ws' := [(mo, .inr (12, mdG r 2 tm (nI sn) (nI 0) (nI lz) (nI az) (nI na) (nI nt) (nI nr) mw ml mk dq)), (r 7, .inl ((cT 0), 1000, .inl f7)), (r 13, .inl ((cT 0), 200, .inl f13)), (r 9, .inl ((cT 0), 1400, .inl f9)), (r 0, .inl ((cT 1), 64, .inr (.inl f0))), (r 11, .inl ((cT 0), 16, .inl f11))]) [5, 0, 1, 2, 3, 4] (by decide) rfl
              exact W.iret (v := 0) hx hb hr (fun t ht hW => ⟨⟨_, ⟨f7, f9, f11, 2, sn⟩, rfl, ⟨by first | assumption | omega, by first | assumption | omega, by first | assumption | omega, by first | assumption | omega⟩, by rw [ht]; exact hP9, va_K.moved hW.alike hK, hD9⟩, hS.F ht⟩) hS.2.2 d_Md_reply_84
          · skip
            refine lv_aload_n hx hb d_Md_reply_41 rfl (lv_at hl 0 rfl) ?_
            refine va_get (D := (dC, dI)) (ci := 12) (v := (.int 0)) (C := R_Md) (T := F_Md) (N := 45) hx hb hg in_Md hown hK hP 5 rfl rfl 1 (by decide) (hg _ k_1021) (fun _ h9 => h9) rfl d_Md_reply_42 ?_
            refine lv_if_le (tgt := 52) hx hb d_Md_reply_45 (by decide) (fun hc278 => ?_) (fun hn9 => absurd (by decide) hn9)
            refine lv_iconst (v := (-1)) hx hb d_Md_reply_52 (by decide) ?_
            have hP9 := hP.sub (ws' := [(mo, .inr (12, mdG r 0 tm (nI sn) (nI 0) (nI lz) (nI az) (nI na) (nI nt) (nI nr) mw ml mk dq)), (r 7, .inl ((cT 0), 1000, .inl f7)), (r 13, .inl ((cT 0), 200, .inl f13)), (r 9, .inl ((cT 0), 1400, .inl f9)), (r 0, .inl ((cT 1), 64, .inr (.inl f0))), (r 11, .inl ((cT 0), 16, .inl f11))]) [5, 0, 1, 2, 3, 4] rfl
            have hD9 := hD.sub (ws' := [(mo, .inr (12, mdG r 0 tm (nI sn) (nI 0) (nI lz) (nI az) (nI na) (nI nt) (nI nr) mw ml mk dq)), (r 7, .inl ((cT 0), 1000, .inl f7)), (r 13, .inl ((cT 0), 200, .inl f13)), (r 9, .inl ((cT 0), 1400, .inl f9)), (r 0, .inl ((cT 1), 64, .inr (.inl f0))), (r 11, .inl ((cT 0), 16, .inl f11))]) [5, 0, 1, 2, 3, 4] (by decide) rfl
            exact W.iret (v := (-1)) hx hb hr (fun t ht hW => ⟨⟨_, ⟨f7, f9, f11, 0, sn⟩, rfl, ⟨by first | assumption | omega, by first | assumption | omega, by first | assumption | omega, by first | assumption | omega⟩, by rw [ht]; exact hP9, va_K.moved hW.alike hK, hD9⟩, hS.F ht⟩) hS.2.2 d_Md_reply_53
set_option maxHeartbeats 4000000 in
set_option maxRecDepth 100000 in
/-- proofPlace -/
theorem m_pplace (l : Launch) (dC : Nat → ClassId) (dI : Nat → Nat → Nat) (cT : Nat → ClassId) (sz : Nat) (mo : Nat) (r : Nat → Nat) (cd : Int32) (tm : Int32) (sn : Nat) (tx : Nat) (lz : Nat) (az : Nat) (na : Nat) (nt : Nat) (nr : Nat) (mw : Int32) (ml : Int32) (mk : Int64) (dq : Int64) (f7 : Nat → Int32) (h20 : 20 ≤ sn) (hsn : sn ≤ 1000) (h7 : AB f7) : Met l y_Md_proofPlace (Cond.code y_Md_proofPlace b_Md_proofPlace 2 (Option.some Jvm.ClassFile.FieldType.int) :: BIG) ({ frames := 0, cells := 0, slots := 0, locals := 0 }) (va_Pc [.ref mo] (fun U => U.heap.size = sz ∧ va_P (dC, dI) vcl [(mo, .inr (12, mdG r cd tm (nI sn) (nI tx) (nI lz) (nI az) (nI na) (nI nt) (nI nr) mw ml mk dq)), (r 7, .inl ((cT 0), 1000, .inl f7))] U.heap ∧ va_K (dC, dI) vcl (tyL cT) U ∧ va_D (fun _ => True) [(mo, .inr (12, mdG r cd tm (nI sn) (nI tx) (nI lz) (nI az) (nI na) (nI nt) (nI nr) mw ml mk dq)), (r 7, .inl ((cT 0), 1000, .inl f7))])) (va_Qi (S := Unit) (fun rv9 u => rv9 = -1 ∨ ∃ a : Nat, rv9 = nI a ∧ 22 ≤ a ∧ a + 16 ≤ sn) (fun u t => va_P (dC, dI) vcl [(mo, .inr (12, mdG r cd tm (nI sn) (nI tx) (nI lz) (nI az) (nI na) (nI nt) (nI nr) mw ml mk dq)), (r 7, .inl ((cT 0), 1000, .inl f7))] t.heap ∧ va_K (dC, dI) vcl (tyL cT) t ∧ va_D (va_A [(mo, .inr (12, mdG r cd tm (nI sn) (nI tx) (nI lz) (nI az) (nI na) (nI nt) (nI nr) mw ml mk dq)), (r 7, .inl ((cT 0), 1000, .inl f7))] sz) [(mo, .inr (12, mdG r cd tm (nI sn) (nI tx) (nI lz) (nI az) (nI na) (nI nt) (nI nr) mw ml mk dq)), (r 7, .inl ((cT 0), 1000, .inl f7))]) (va_A [(mo, .inr (12, mdG r cd tm (nI sn) (nI tx) (nI lz) (nI az) (nI na) (nI nt) (nI nr) mw ml mk dq)), (r 7, .inl ((cT 0), 1000, .inl f7))] sz)) 0 0 (va_A [(mo, .inr (12, mdG r cd tm (nI sn) (nI tx) (nI lz) (nI az) (nI na) (nI nt) (nI nr) mw ml mk dq)), (r 7, .inl ((cT 0), 1000, .inl f7))] sz) := by
  refine Met.ofW (cc := b_Md_proofPlace) (maxL := 2) (ret := (Option.some Jvm.ClassFile.FieldType.int)) (by decide) rfl ?_
  intro p e s m args below meth c s₁ B hml hv
  obtain ⟨hargs, hsz, hP, hK, hD0⟩ := hv
  have hx := B.exec
  have hb := B.bytes
  have hr := B.returns
  have hts := atoms_spec (ws := (Cond.code y_Md_proofPlace b_Md_proofPlace 2 (Option.some Jvm.ClassFile.FieldType.int) :: BIG)) B.pre
  have hg : ∀ w ∈ BIG, w.before _ s = true := fun w h => hts w (List.mem_cons_of_mem _ h)
  have hown : s.vm.findClass "DoorServerModel" = some m.cls := findClass_of_methodNamed B.named
  have hlocks := B.notSynchronized
  subst hsz
  have hD := hD0.self (sz := s.heap.size)
  generalize hAe : va_A [(mo, .inr (12, mdG r cd tm (nI sn) (nI tx) (nI lz) (nI az) (nI na) (nI nt) (nI nr) mw ml mk dq)), (r 7, .inl ((cT 0), 1000, .inl f7))] s.heap.size = A at hD ⊢
  have hA : ∀ q : Nat, s.heap.size ≤ q → A q := fun q h => by rw [← hAe]; exact Or.inr h
  have hS : va_S A s.heap s.heap [] := va_S.rf
  have hl := lv_entry ([.ref mo]) (n := 2) (Nat.le_of_ble_eq_true rfl)
  refine W.eq (g2 := entryFrame m (List.toArray [.ref mo]) 2) (by rw [hargs]) ?_
  rw [lg_entry_eq]
  generalize (lg_sl ([.ref mo]) ++ List.replicate (2 - (lg_sl ([.ref mo])).length) Slot.unset).toArray = ls at hl ⊢
  have hl : lv_has ls 2 [(0, .ref mo)] := hl
  change W p l e ({ frames := 0, cells := 0, slots := 0, locals := 0 } : Room) s m args below meth c s.heap [] 0 0 _ _
  have hP : va_P (dC, dI) vcl [(mo, .inr (12, mdG r cd tm (nI sn) (nI tx) (nI lz) (nI az) (nI na) (nI nt) (nI nr) mw ml mk dq)), (r 7, .inl ((cT 0), 1000, .inl f7))] s.heap := hP
  refine lv_bipush (v := 20) hx hb d_Md_proofPlace_0 (by decide) ?_
  refine lv_istore_n (lv' := [(1, .int 20), (0, .ref mo)]) hx hb d_Md_proofPlace_2 rfl hl (by decide) rfl (fun ls hl => ?_)
  have hl := lv_sub hl [0, 1] (show _ = [(1, .int 20), (0, .ref mo)] from rfl)
  have L279 : ∀ (Q : State → Prop) (ex0 : ∀ (i : Nat) (H : Heap) (locs : List Loc) (ls : Array Slot), va_P (dC, dI) vcl [(mo, .inr (12, mdG r cd tm (nI sn) (nI tx) (nI lz) (nI az) (nI na) (nI nt) (nI nr) mw ml mk dq)), (r 7, .inl ((cT 0), 1000, .inl f7))] H → va_D A [(mo, .inr (12, mdG r cd tm (nI sn) (nI tx) (nI lz) (nI az) (nI na) (nI nt) (nI nr) mw ml mk dq)), (r 7, .inl ((cT 0), 1000, .inl f7))] → va_S A s.heap H locs → lv_has ls 2 [(0, .ref mo)] → W p l e ({ frames := 0, cells := 0, slots := 0, locals := 0 } : Room) s m args below meth c H locs 0 0 Q (F0 m 84 ls [])) (ex1 : ∀ (i : Nat) (H : Heap) (locs : List Loc) (ls : Array Slot), (i + 18 ≤ sn) → (20 ≤ i) → va_P (dC, dI) vcl [(mo, .inr (12, mdG r cd tm (nI sn) (nI tx) (nI lz) (nI az) (nI na) (nI nt) (nI nr) mw ml mk dq)), (r 7, .inl ((cT 0), 1000, .inl f7))] H → va_D A [(mo, .inr (12, mdG r cd tm (nI sn) (nI tx) (nI lz) (nI az) (nI na) (nI nt) (nI nr) mw ml mk dq)), (r 7, .inl ((cT 0), 1000, .inl f7))] → va_S A s.heap H locs → lv_has ls 2 [(0, .ref mo)] → W p l e ({ frames := 0, cells := 0, slots := 0, locals := 0 } : Room) s m args below meth c H locs 0 0 Q (F0 m 69 ls [.int (nI (i + 2))])) (jj280 : Nat) (i : Nat) (H : Heap) (locs : List Loc) (ls : Array Slot), sn - i ≤ jj280 → (20 ≤ i ∧ i ≤ sn) → va_P (dC, dI) vcl [(mo, .inr (12, mdG r cd tm (nI sn) (nI tx) (nI lz) (nI az) (nI na) (nI nt) (nI nr) mw ml mk dq)), (r 7, .inl ((cT 0), 1000, .inl f7))] H → va_D A [(mo, .inr (12, mdG r cd tm (nI sn) (nI tx) (nI lz) (nI az) (nI na) (nI nt) (nI nr) mw ml mk dq)), (r 7, .inl ((cT 0), 1000, .inl f7))] → va_S A s.heap H locs → lv_has ls 2 [(1, .int (nI i)), (0, .ref mo)] → W p l e ({ frames := 0, cells := 0, slots := 0, locals := 0 } : Room) s m args below meth c H locs 0 0 Q (F0 m 3 ls []) := by
    intro Q ex0 ex1 jj280
    induction jj280 with
    | zero => 
      intro i H locs ls hm9 hi hP hD hS hl
      refine lv_iload_n hx hb d_Md_proofPlace_3 rfl (lv_at hl 0 rfl) ?_
      refine lv_iconst (v := 1) hx hb d_Md_proofPlace_4 (by decide) ?_
      refine lv_iadd hx hb d_Md_proofPlace_5 ?_
      refine lv_topi (fun x282 e281 => ?_)
      obtain rfl : x282 = nI (i + 1) := by rw [e281]; exact nI_add i 1
      refine lv_aload_n hx hb d_Md_proofPlace_6 rfl (lv_at hl 1 rfl) ?_
      refine va_get (D := (dC, dI)) (ci := 12) (v := (.int (nI sn))) (C := R_Md) (T := F_Md) (N := 45) hx hb hg in_Md hown hK hP 0 rfl rfl 8 (by decide) (hg _ k_1028) (fun _ h9 => h9) rfl d_Md_proofPlace_7 ?_
      refine lv_icmp_ge (tgt := 84) hx hb d_Md_proofPlace_10 (by decide) (fun hc283 => ?_) (fun hc283 => ?_)
      · skip
        have n284 : sn ≤ i + 1 := (nI_leI (a := sn) (b := i + 1) (by omega) (by omega)).mp hc283
        have hl := lv_sub hl [1] (show _ = [(0, .ref mo)] from rfl)
        exact ex0 i _ _ _  hP hD hS hl
      · skip
        have n285 : i + 1 < sn := Nat.not_le.mp (fun h7 => hc283 ((nI_leI (a := sn) (b := i + 1) (by omega) (by omega)).mpr h7))
        refine lv_aload_n hx hb d_Md_proofPlace_13 rfl (lv_at hl 1 rfl) ?_
        refine va_get (D := (dC, dI)) (ci := 12) (v := (.ref (r 7))) (C := R_Md) (T := F_Md) (N := 45) hx hb hg in_Md hown hK hP 0 rfl rfl 7 (by decide) (hg _ k_1027) (fun _ h9 => h9) rfl d_Md_proofPlace_14 ?_
        refine lv_iload_n hx hb d_Md_proofPlace_17 rfl (lv_at hl 0 rfl) ?_
        refine lv_iconst (v := 1) hx hb d_Md_proofPlace_18 (by decide) ?_
        refine lv_iadd hx hb d_Md_proofPlace_19 ?_
        refine lv_topi (fun x287 e286 => ?_)
        obtain rfl : x287 = nI (i + 1) := by rw [e286]; exact nI_add i 1
        obtain ⟨t288, ht288, xt288⟩ := h7 (i + 1)
        refine va_iald hx hb hK hP 1 0 rfl rfl (i := (nI (i + 1))) (vp_in_nI (N := 1000) (by omega) (by decide)) d_Md_proofPlace_20 ?_
        refine lv_topi (fun x290 e289 => ?_)
        obtain rfl : x290 = nI t288 := by rw [e289]; rw [nI_clamp (by omega)]; exact xt288
        refine lv_iconst (v := 1) hx hb d_Md_proofPlace_21 (by decide) ?_
        refine lv_icmp_le (tgt := 84) hx hb d_Md_proofPlace_22 (by decide) (fun hc291 => ?_) (fun hc291 => ?_)
        · skip
          have n292 : t288 ≤ 1 := (nI_leI (a := t288) (b := 1) (by omega) (by omega)).mp hc291
          have hl := lv_sub hl [1] (show _ = [(0, .ref mo)] from rfl)
          exact ex0 i _ _ _  hP hD hS hl
        · skip
          have n293 : 1 < t288 := Nat.not_le.mp (fun h7 => hc291 ((nI_leI (a := t288) (b := 1) (by omega) (by omega)).mpr h7))
          refine lv_iload_n hx hb d_Md_proofPlace_25 rfl (lv_at hl 0 rfl) ?_
          refine lv_aload_n hx hb d_Md_proofPlace_26 rfl (lv_at hl 1 rfl) ?_
          refine va_get (D := (dC, dI)) (ci := 12) (v := (.ref (r 7))) (C := R_Md) (T := F_Md) (N := 45) hx hb hg in_Md hown hK hP 0 rfl rfl 7 (by decide) (hg _ k_1027) (fun _ h9 => h9) rfl d_Md_proofPlace_27 ?_
          refine lv_iload_n hx hb d_Md_proofPlace_30 rfl (lv_at hl 0 rfl) ?_
          refine lv_iconst (v := 1) hx hb d_Md_proofPlace_31 (by decide) ?_
          refine lv_iadd hx hb d_Md_proofPlace_32 ?_
          refine lv_topi (fun x295 e294 => ?_)
          obtain rfl : x295 = nI (i + 1) := by rw [e294]; exact nI_add i 1
          refine va_iald hx hb hK hP 1 0 rfl rfl (i := (nI (i + 1))) (vp_in_nI (N := 1000) (by omega) (by decide)) d_Md_proofPlace_33 ?_
          refine lv_topi (fun x297 e296 => ?_)
          obtain rfl : x297 = nI t288 := by rw [e296]; rw [nI_clamp (by omega)]; exact xt288
          refine lv_iadd hx hb d_Md_proofPlace_34 ?_
          refine lv_topi (fun x299 e298 => ?_)
          obtain rfl : x299 = nI (i + t288) := by rw [e298]; exact nI_add i t288
          refine lv_aload_n hx hb d_Md_proofPlace_35 rfl (lv_at hl 1 rfl) ?_
          refine va_get (D := (dC, dI)) (ci := 12) (v := (.int (nI sn))) (C := R_Md) (T := F_Md) (N := 45) hx hb hg in_Md hown hK hP 0 rfl rfl 8 (by decide) (hg _ k_1028) (fun _ h9 => h9) rfl d_Md_proofPlace_36 ?_
          refine lv_icmp_gt (tgt := 84) hx hb d_Md_proofPlace_39 (by decide) (fun hc300 => ?_) (fun hc300 => ?_)
          · skip
            have n301 : sn < i + t288 := (nI_ltI (a := sn) (b := i + t288) (by omega) (by omega)).mp hc300
            have hl := lv_sub hl [1] (show _ = [(0, .ref mo)] from rfl)
            exact ex0 i _ _ _  hP hD hS hl
          · skip
            have n302 : i + t288 ≤ sn := Nat.not_lt.mp (fun h7 => hc300 ((nI_ltI (a := sn) (b := i + t288) (by omega) (by omega)).mpr h7))
            refine lv_aload_n hx hb d_Md_proofPlace_42 rfl (lv_at hl 1 rfl) ?_
            refine va_get (D := (dC, dI)) (ci := 12) (v := (.ref (r 7))) (C := R_Md) (T := F_Md) (N := 45) hx hb hg in_Md hown hK hP 0 rfl rfl 7 (by decide) (hg _ k_1027) (fun _ h9 => h9) rfl d_Md_proofPlace_43 ?_
            refine lv_iload_n hx hb d_Md_proofPlace_46 rfl (lv_at hl 0 rfl) ?_
            obtain ⟨t303, ht303, xt303⟩ := h7 i
            refine va_iald hx hb hK hP 1 0 rfl rfl (i := (nI i)) (vp_in_nI (N := 1000) (by omega) (by decide)) d_Md_proofPlace_47 ?_
            refine lv_topi (fun x305 e304 => ?_)
            obtain rfl : x305 = nI t303 := by rw [e304]; rw [nI_clamp (by omega)]; exact xt303
            refine lv_bipush (v := 80) hx hb d_Md_proofPlace_48 (by decide) ?_
            refine lv_icmp_ne (tgt := 70) hx hb d_Md_proofPlace_50 (by decide) (fun hc306 => ?_) (fun hc306 => ?_)
            · skip
              have n307 : ¬ t303 = 80 := fun h7 => hc306 ((nI_eq (a := t303) (b := 80) (by omega) (by omega)).mpr h7)
              refine lv_iload_n hx hb d_Md_proofPlace_70 rfl (lv_at hl 0 rfl) ?_
              refine lv_aload_n hx hb d_Md_proofPlace_71 rfl (lv_at hl 1 rfl) ?_
              refine va_get (D := (dC, dI)) (ci := 12) (v := (.ref (r 7))) (C := R_Md) (T := F_Md) (N := 45) hx hb hg in_Md hown hK hP 0 rfl rfl 7 (by decide) (hg _ k_1027) (fun _ h9 => h9) rfl d_Md_proofPlace_72 ?_
              refine lv_iload_n hx hb d_Md_proofPlace_75 rfl (lv_at hl 0 rfl) ?_
              refine lv_iconst (v := 1) hx hb d_Md_proofPlace_76 (by decide) ?_
              refine lv_iadd hx hb d_Md_proofPlace_77 ?_
              refine lv_topi (fun x310 e309 => ?_)
              obtain rfl : x310 = nI (i + 1) := by rw [e309]; exact nI_add i 1
              refine va_iald hx hb hK hP 1 0 rfl rfl (i := (nI (i + 1))) (vp_in_nI (N := 1000) (by omega) (by decide)) d_Md_proofPlace_78 ?_
              refine lv_topi (fun x312 e311 => ?_)
              obtain rfl : x312 = nI t288 := by rw [e311]; rw [nI_clamp (by omega)]; exact xt288
              refine lv_iadd hx hb d_Md_proofPlace_79 ?_
              refine lv_topi (fun x314 e313 => ?_)
              obtain rfl : x314 = nI (i + t288) := by rw [e313]; exact nI_add i t288
              refine lv_istore_n (lv' := [(1, .int (nI (i + t288))), (0, .ref mo)]) hx hb d_Md_proofPlace_80 rfl hl (by decide) rfl (fun ls hl => ?_)
              refine lv_goto (tgt := 3) hx hb d_Md_proofPlace_81 (by decide) ?_
              have hl := lv_sub hl [0, 1] (show _ = [(1, .int (nI (i + t288))), (0, .ref mo)] from rfl)
              exfalso; omega
            · skip
              have n308 : t303 = 80 := (nI_eq (a := t303) (b := 80) (by omega) (by omega)).mp hc306
              refine lv_aload_n hx hb d_Md_proofPlace_53 rfl (lv_at hl 1 rfl) ?_
              refine va_get (D := (dC, dI)) (ci := 12) (v := (.ref (r 7))) (C := R_Md) (T := F_Md) (N := 45) hx hb hg in_Md hown hK hP 0 rfl rfl 7 (by decide) (hg _ k_1027) (fun _ h9 => h9) rfl d_Md_proofPlace_54 ?_
              refine lv_iload_n hx hb d_Md_proofPlace_57 rfl (lv_at hl 0 rfl) ?_
              refine lv_iconst (v := 1) hx hb d_Md_proofPlace_58 (by decide) ?_
              refine lv_iadd hx hb d_Md_proofPlace_59 ?_
              refine lv_topi (fun x316 e315 => ?_)
              obtain rfl : x316 = nI (i + 1) := by rw [e315]; exact nI_add i 1
              refine va_iald hx hb hK hP 1 0 rfl rfl (i := (nI (i + 1))) (vp_in_nI (N := 1000) (by omega) (by decide)) d_Md_proofPlace_60 ?_
              refine lv_topi (fun x318 e317 => ?_)
              obtain rfl : x318 = nI t288 := by rw [e317]; rw [nI_clamp (by omega)]; exact xt288
              refine lv_bipush (v := 18) hx hb d_Md_proofPlace_61 (by decide) ?_
              refine lv_icmp_ne (tgt := 70) hx hb d_Md_proofPlace_63 (by decide) (fun hc319 => ?_) (fun hc319 => ?_)
              · skip
                have n320 : ¬ t288 = 18 := fun h7 => hc319 ((nI_eq (a := t288) (b := 18) (by omega) (by omega)).mpr h7)
                refine lv_iload_n hx hb d_Md_proofPlace_70 rfl (lv_at hl 0 rfl) ?_
                refine lv_aload_n hx hb d_Md_proofPlace_71 rfl (lv_at hl 1 rfl) ?_
                refine va_get (D := (dC, dI)) (ci := 12) (v := (.ref (r 7))) (C := R_Md) (T := F_Md) (N := 45) hx hb hg in_Md hown hK hP 0 rfl rfl 7 (by decide) (hg _ k_1027) (fun _ h9 => h9) rfl d_Md_proofPlace_72 ?_
                refine lv_iload_n hx hb d_Md_proofPlace_75 rfl (lv_at hl 0 rfl) ?_
                refine lv_iconst (v := 1) hx hb d_Md_proofPlace_76 (by decide) ?_
                refine lv_iadd hx hb d_Md_proofPlace_77 ?_
                refine lv_topi (fun x323 e322 => ?_)
                obtain rfl : x323 = nI (i + 1) := by rw [e322]; exact nI_add i 1
                refine va_iald hx hb hK hP 1 0 rfl rfl (i := (nI (i + 1))) (vp_in_nI (N := 1000) (by omega) (by decide)) d_Md_proofPlace_78 ?_
                refine lv_topi (fun x325 e324 => ?_)
                obtain rfl : x325 = nI t288 := by rw [e324]; rw [nI_clamp (by omega)]; exact xt288
                refine lv_iadd hx hb d_Md_proofPlace_79 ?_
                refine lv_topi (fun x327 e326 => ?_)
                obtain rfl : x327 = nI (i + t288) := by rw [e326]; exact nI_add i t288
                refine lv_istore_n (lv' := [(1, .int (nI (i + t288))), (0, .ref mo)]) hx hb d_Md_proofPlace_80 rfl hl (by decide) rfl (fun ls hl => ?_)
                refine lv_goto (tgt := 3) hx hb d_Md_proofPlace_81 (by decide) ?_
                have hl := lv_sub hl [0, 1] (show _ = [(1, .int (nI (i + t288))), (0, .ref mo)] from rfl)
                exfalso; omega
              · skip
                have n321 : t288 = 18 := (nI_eq (a := t288) (b := 18) (by omega) (by omega)).mp hc319
                refine lv_iload_n hx hb d_Md_proofPlace_66 rfl (lv_at hl 0 rfl) ?_
                refine lv_iconst (v := 2) hx hb d_Md_proofPlace_67 (by decide) ?_
                refine lv_iadd hx hb d_Md_proofPlace_68 ?_
                refine lv_topi (fun x329 e328 => ?_)
                obtain rfl : x329 = nI (i + 2) := by rw [e328]; exact nI_add i 2
                have hl := lv_sub hl [1] (show _ = [(0, .ref mo)] from rfl)
                exact ex1 i _ _ _ (by omega) (by omega) hP hD hS hl
    | succ jj280 ih => 
      intro i H locs ls hm9 hi hP hD hS hl
      refine lv_iload_n hx hb d_Md_proofPlace_3 rfl (lv_at hl 0 rfl) ?_
      refine lv_iconst (v := 1) hx hb d_Md_proofPlace_4 (by decide) ?_
      refine lv_iadd hx hb d_Md_proofPlace_5 ?_
      refine lv_topi (fun x331 e330 => ?_)
      obtain rfl : x331 = nI (i + 1) := by rw [e330]; exact nI_add i 1
      refine lv_aload_n hx hb d_Md_proofPlace_6 rfl (lv_at hl 1 rfl) ?_
      refine va_get (D := (dC, dI)) (ci := 12) (v := (.int (nI sn))) (C := R_Md) (T := F_Md) (N := 45) hx hb hg in_Md hown hK hP 0 rfl rfl 8 (by decide) (hg _ k_1028) (fun _ h9 => h9) rfl d_Md_proofPlace_7 ?_
      refine lv_icmp_ge (tgt := 84) hx hb d_Md_proofPlace_10 (by decide) (fun hc332 => ?_) (fun hc332 => ?_)
      · skip
        have n333 : sn ≤ i + 1 := (nI_leI (a := sn) (b := i + 1) (by omega) (by omega)).mp hc332
        have hl := lv_sub hl [1] (show _ = [(0, .ref mo)] from rfl)
        exact ex0 i _ _ _  hP hD hS hl
      · skip
        have n334 : i + 1 < sn := Nat.not_le.mp (fun h7 => hc332 ((nI_leI (a := sn) (b := i + 1) (by omega) (by omega)).mpr h7))
        refine lv_aload_n hx hb d_Md_proofPlace_13 rfl (lv_at hl 1 rfl) ?_
        refine va_get (D := (dC, dI)) (ci := 12) (v := (.ref (r 7))) (C := R_Md) (T := F_Md) (N := 45) hx hb hg in_Md hown hK hP 0 rfl rfl 7 (by decide) (hg _ k_1027) (fun _ h9 => h9) rfl d_Md_proofPlace_14 ?_
        refine lv_iload_n hx hb d_Md_proofPlace_17 rfl (lv_at hl 0 rfl) ?_
        refine lv_iconst (v := 1) hx hb d_Md_proofPlace_18 (by decide) ?_
        refine lv_iadd hx hb d_Md_proofPlace_19 ?_
        refine lv_topi (fun x336 e335 => ?_)
        obtain rfl : x336 = nI (i + 1) := by rw [e335]; exact nI_add i 1
        obtain ⟨t337, ht337, xt337⟩ := h7 (i + 1)
        refine va_iald hx hb hK hP 1 0 rfl rfl (i := (nI (i + 1))) (vp_in_nI (N := 1000) (by omega) (by decide)) d_Md_proofPlace_20 ?_
        refine lv_topi (fun x339 e338 => ?_)
        obtain rfl : x339 = nI t337 := by rw [e338]; rw [nI_clamp (by omega)]; exact xt337
        refine lv_iconst (v := 1) hx hb d_Md_proofPlace_21 (by decide) ?_
        refine lv_icmp_le (tgt := 84) hx hb d_Md_proofPlace_22 (by decide) (fun hc340 => ?_) (fun hc340 => ?_)
        · skip
          have n341 : t337 ≤ 1 := (nI_leI (a := t337) (b := 1) (by omega) (by omega)).mp hc340
          have hl := lv_sub hl [1] (show _ = [(0, .ref mo)] from rfl)
          exact ex0 i _ _ _  hP hD hS hl
        · skip
          have n342 : 1 < t337 := Nat.not_le.mp (fun h7 => hc340 ((nI_leI (a := t337) (b := 1) (by omega) (by omega)).mpr h7))
          refine lv_iload_n hx hb d_Md_proofPlace_25 rfl (lv_at hl 0 rfl) ?_
          refine lv_aload_n hx hb d_Md_proofPlace_26 rfl (lv_at hl 1 rfl) ?_
          refine va_get (D := (dC, dI)) (ci := 12) (v := (.ref (r 7))) (C := R_Md) (T := F_Md) (N := 45) hx hb hg in_Md hown hK hP 0 rfl rfl 7 (by decide) (hg _ k_1027) (fun _ h9 => h9) rfl d_Md_proofPlace_27 ?_
          refine lv_iload_n hx hb d_Md_proofPlace_30 rfl (lv_at hl 0 rfl) ?_
          refine lv_iconst (v := 1) hx hb d_Md_proofPlace_31 (by decide) ?_
          refine lv_iadd hx hb d_Md_proofPlace_32 ?_
          refine lv_topi (fun x344 e343 => ?_)
          obtain rfl : x344 = nI (i + 1) := by rw [e343]; exact nI_add i 1
          refine va_iald hx hb hK hP 1 0 rfl rfl (i := (nI (i + 1))) (vp_in_nI (N := 1000) (by omega) (by decide)) d_Md_proofPlace_33 ?_
          refine lv_topi (fun x346 e345 => ?_)
          obtain rfl : x346 = nI t337 := by rw [e345]; rw [nI_clamp (by omega)]; exact xt337
          refine lv_iadd hx hb d_Md_proofPlace_34 ?_
          refine lv_topi (fun x348 e347 => ?_)
          obtain rfl : x348 = nI (i + t337) := by rw [e347]; exact nI_add i t337
          refine lv_aload_n hx hb d_Md_proofPlace_35 rfl (lv_at hl 1 rfl) ?_
          refine va_get (D := (dC, dI)) (ci := 12) (v := (.int (nI sn))) (C := R_Md) (T := F_Md) (N := 45) hx hb hg in_Md hown hK hP 0 rfl rfl 8 (by decide) (hg _ k_1028) (fun _ h9 => h9) rfl d_Md_proofPlace_36 ?_
          refine lv_icmp_gt (tgt := 84) hx hb d_Md_proofPlace_39 (by decide) (fun hc349 => ?_) (fun hc349 => ?_)
          · skip
            have n350 : sn < i + t337 := (nI_ltI (a := sn) (b := i + t337) (by omega) (by omega)).mp hc349
            have hl := lv_sub hl [1] (show _ = [(0, .ref mo)] from rfl)
            exact ex0 i _ _ _  hP hD hS hl
          · skip
            have n351 : i + t337 ≤ sn := Nat.not_lt.mp (fun h7 => hc349 ((nI_ltI (a := sn) (b := i + t337) (by omega) (by omega)).mpr h7))
            refine lv_aload_n hx hb d_Md_proofPlace_42 rfl (lv_at hl 1 rfl) ?_
            refine va_get (D := (dC, dI)) (ci := 12) (v := (.ref (r 7))) (C := R_Md) (T := F_Md) (N := 45) hx hb hg in_Md hown hK hP 0 rfl rfl 7 (by decide) (hg _ k_1027) (fun _ h9 => h9) rfl d_Md_proofPlace_43 ?_
            refine lv_iload_n hx hb d_Md_proofPlace_46 rfl (lv_at hl 0 rfl) ?_
            obtain ⟨t352, ht352, xt352⟩ := h7 i
            refine va_iald hx hb hK hP 1 0 rfl rfl (i := (nI i)) (vp_in_nI (N := 1000) (by omega) (by decide)) d_Md_proofPlace_47 ?_
            refine lv_topi (fun x354 e353 => ?_)
            obtain rfl : x354 = nI t352 := by rw [e353]; rw [nI_clamp (by omega)]; exact xt352
            refine lv_bipush (v := 80) hx hb d_Md_proofPlace_48 (by decide) ?_
            refine lv_icmp_ne (tgt := 70) hx hb d_Md_proofPlace_50 (by decide) (fun hc355 => ?_) (fun hc355 => ?_)
            · skip
              have n356 : ¬ t352 = 80 := fun h7 => hc355 ((nI_eq (a := t352) (b := 80) (by omega) (by omega)).mpr h7)
              refine lv_iload_n hx hb d_Md_proofPlace_70 rfl (lv_at hl 0 rfl) ?_
              refine lv_aload_n hx hb d_Md_proofPlace_71 rfl (lv_at hl 1 rfl) ?_
              refine va_get (D := (dC, dI)) (ci := 12) (v := (.ref (r 7))) (C := R_Md) (T := F_Md) (N := 45) hx hb hg in_Md hown hK hP 0 rfl rfl 7 (by decide) (hg _ k_1027) (fun _ h9 => h9) rfl d_Md_proofPlace_72 ?_
              refine lv_iload_n hx hb d_Md_proofPlace_75 rfl (lv_at hl 0 rfl) ?_
              refine lv_iconst (v := 1) hx hb d_Md_proofPlace_76 (by decide) ?_
              refine lv_iadd hx hb d_Md_proofPlace_77 ?_
              refine lv_topi (fun x359 e358 => ?_)
              obtain rfl : x359 = nI (i + 1) := by rw [e358]; exact nI_add i 1
              refine va_iald hx hb hK hP 1 0 rfl rfl (i := (nI (i + 1))) (vp_in_nI (N := 1000) (by omega) (by decide)) d_Md_proofPlace_78 ?_
              refine lv_topi (fun x361 e360 => ?_)
              obtain rfl : x361 = nI t337 := by rw [e360]; rw [nI_clamp (by omega)]; exact xt337
              refine lv_iadd hx hb d_Md_proofPlace_79 ?_
              refine lv_topi (fun x363 e362 => ?_)
              obtain rfl : x363 = nI (i + t337) := by rw [e362]; exact nI_add i t337
              refine lv_istore_n (lv' := [(1, .int (nI (i + t337))), (0, .ref mo)]) hx hb d_Md_proofPlace_80 rfl hl (by decide) rfl (fun ls hl => ?_)
              refine lv_goto (tgt := 3) hx hb d_Md_proofPlace_81 (by decide) ?_
              have hl := lv_sub hl [0, 1] (show _ = [(1, .int (nI (i + t337))), (0, .ref mo)] from rfl)
              exact ih (i + t337) _ _ _ (by omega) (⟨by omega, by omega⟩) hP hD hS hl
            · skip
              have n357 : t352 = 80 := (nI_eq (a := t352) (b := 80) (by omega) (by omega)).mp hc355
              refine lv_aload_n hx hb d_Md_proofPlace_53 rfl (lv_at hl 1 rfl) ?_
              refine va_get (D := (dC, dI)) (ci := 12) (v := (.ref (r 7))) (C := R_Md) (T := F_Md) (N := 45) hx hb hg in_Md hown hK hP 0 rfl rfl 7 (by decide) (hg _ k_1027) (fun _ h9 => h9) rfl d_Md_proofPlace_54 ?_
              refine lv_iload_n hx hb d_Md_proofPlace_57 rfl (lv_at hl 0 rfl) ?_
              refine lv_iconst (v := 1) hx hb d_Md_proofPlace_58 (by decide) ?_
              refine lv_iadd hx hb d_Md_proofPlace_59 ?_
              refine lv_topi (fun x365 e364 => ?_)
              obtain rfl : x365 = nI (i + 1) := by rw [e364]; exact nI_add i 1
              refine va_iald hx hb hK hP 1 0 rfl rfl (i := (nI (i + 1))) (vp_in_nI (N := 1000) (by omega) (by decide)) d_Md_proofPlace_60 ?_
              refine lv_topi (fun x367 e366 => ?_)
              obtain rfl : x367 = nI t337 := by rw [e366]; rw [nI_clamp (by omega)]; exact xt337
              refine lv_bipush (v := 18) hx hb d_Md_proofPlace_61 (by decide) ?_
              refine lv_icmp_ne (tgt := 70) hx hb d_Md_proofPlace_63 (by decide) (fun hc368 => ?_) (fun hc368 => ?_)
              · skip
                have n369 : ¬ t337 = 18 := fun h7 => hc368 ((nI_eq (a := t337) (b := 18) (by omega) (by omega)).mpr h7)
                refine lv_iload_n hx hb d_Md_proofPlace_70 rfl (lv_at hl 0 rfl) ?_
                refine lv_aload_n hx hb d_Md_proofPlace_71 rfl (lv_at hl 1 rfl) ?_
                refine va_get (D := (dC, dI)) (ci := 12) (v := (.ref (r 7))) (C := R_Md) (T := F_Md) (N := 45) hx hb hg in_Md hown hK hP 0 rfl rfl 7 (by decide) (hg _ k_1027) (fun _ h9 => h9) rfl d_Md_proofPlace_72 ?_
                refine lv_iload_n hx hb d_Md_proofPlace_75 rfl (lv_at hl 0 rfl) ?_
                refine lv_iconst (v := 1) hx hb d_Md_proofPlace_76 (by decide) ?_
                refine lv_iadd hx hb d_Md_proofPlace_77 ?_
                refine lv_topi (fun x372 e371 => ?_)
                obtain rfl : x372 = nI (i + 1) := by rw [e371]; exact nI_add i 1
                refine va_iald hx hb hK hP 1 0 rfl rfl (i := (nI (i + 1))) (vp_in_nI (N := 1000) (by omega) (by decide)) d_Md_proofPlace_78 ?_
                refine lv_topi (fun x374 e373 => ?_)
                obtain rfl : x374 = nI t337 := by rw [e373]; rw [nI_clamp (by omega)]; exact xt337
                refine lv_iadd hx hb d_Md_proofPlace_79 ?_
                refine lv_topi (fun x376 e375 => ?_)
                obtain rfl : x376 = nI (i + t337) := by rw [e375]; exact nI_add i t337
                refine lv_istore_n (lv' := [(1, .int (nI (i + t337))), (0, .ref mo)]) hx hb d_Md_proofPlace_80 rfl hl (by decide) rfl (fun ls hl => ?_)
                refine lv_goto (tgt := 3) hx hb d_Md_proofPlace_81 (by decide) ?_
                have hl := lv_sub hl [0, 1] (show _ = [(1, .int (nI (i + t337))), (0, .ref mo)] from rfl)
                exact ih (i + t337) _ _ _ (by omega) (⟨by omega, by omega⟩) hP hD hS hl
              · skip
                have n370 : t337 = 18 := (nI_eq (a := t337) (b := 18) (by omega) (by omega)).mp hc368
                refine lv_iload_n hx hb d_Md_proofPlace_66 rfl (lv_at hl 0 rfl) ?_
                refine lv_iconst (v := 2) hx hb d_Md_proofPlace_67 (by decide) ?_
                refine lv_iadd hx hb d_Md_proofPlace_68 ?_
                refine lv_topi (fun x378 e377 => ?_)
                obtain rfl : x378 = nI (i + 2) := by rw [e377]; exact nI_add i 2
                have hl := lv_sub hl [1] (show _ = [(0, .ref mo)] from rfl)
                exact ex1 i _ _ _ (by omega) (by omega) hP hD hS hl
  refine L279 _ (fun i H locs ls  hP hD hS hl => ?_) (fun i H locs ls hx18 hx20 hP hD hS hl => ?_) (sn - 20) 20 s.heap _ ls (Nat.le_refl _) (⟨by omega, by omega⟩) hP hD hS hl
  · skip
    refine lv_iconst (v := (-1)) hx hb d_Md_proofPlace_84 (by decide) ?_
    have hP9 := hP.sub (ws' := [(mo, .inr (12, mdG r cd tm (nI sn) (nI tx) (nI lz) (nI az) (nI na) (nI nt) (nI nr) mw ml mk dq)), (r 7, .inl ((cT 0), 1000, .inl f7))]) [0, 1] rfl
    have hD9 := hD.sub (ws' := [(mo, .inr (12, mdG r cd tm (nI sn) (nI tx) (nI lz) (nI az) (nI na) (nI nt) (nI nr) mw ml mk dq)), (r 7, .inl ((cT 0), 1000, .inl f7))]) [0, 1] (by decide) rfl
    exact W.iret (v := (-1)) hx hb hr (fun t ht hW => ⟨⟨_, (), rfl, Or.inl rfl, by rw [ht]; exact hP9, va_K.moved hW.alike hK, hD9⟩, hS.F ht⟩) hS.2.2 d_Md_proofPlace_85
  · skip
    have hP9 := hP.sub (ws' := [(mo, .inr (12, mdG r cd tm (nI sn) (nI tx) (nI lz) (nI az) (nI na) (nI nt) (nI nr) mw ml mk dq)), (r 7, .inl ((cT 0), 1000, .inl f7))]) [0, 1] rfl
    have hD9 := hD.sub (ws' := [(mo, .inr (12, mdG r cd tm (nI sn) (nI tx) (nI lz) (nI az) (nI na) (nI nt) (nI nr) mw ml mk dq)), (r 7, .inl ((cT 0), 1000, .inl f7))]) [0, 1] (by decide) rfl
    exact W.iret (v := nI (i + 2)) hx hb hr (fun t ht hW => ⟨⟨_, (), rfl, Or.inr ⟨i + 2, rfl, by omega, by omega⟩, by rw [ht]; exact hP9, va_K.moved hW.alike hK, hD9⟩, hS.F ht⟩) hS.2.2 d_Md_proofPlace_69
set_option maxHeartbeats 4000000 in
set_option maxRecDepth 100000 in
/-- prove -/
theorem u_prove (l : Launch) (dC : Nat → ClassId) (dI : Nat → Nat → Nat) (cT : Nat → ClassId) (sz : Nat) (mo : Nat) (r : Nat → Nat) (cd : Int32) (tm : Int32) (sn : Nat) (tx : Nat) (lz : Nat) (az : Nat) (na : Nat) (nt : Nat) (nr : Nat) (mw : Int32) (ml : Int32) (mk : Int64) (dq : Int64) (f7 : Nat → Int32) (f9 : Nat → Int32) (f12 : Nat → Int32) (f3 : Nat → Int32) (f4 : Nat → Int32) (f0 : Nat → Int64) (f11 : Nat → Int32) (x : Int32) (h20 : 20 ≤ sn) (hsn : sn ≤ 1000) (h7 : AB f7) (h4 : BD 40 4 f4) (h11 : AB f11) : Met l y_Md_prove (Cond.code y_Md_prove b_Md_prove 4 (Option.some Jvm.ClassFile.FieldType.int) :: BIG) ({ frames := 4, cells := 0, slots := 0, locals := 115 }) (va_Pc [.ref mo, .int x] (fun U => U.heap.size = sz ∧ va_P (dC, dI) vcl [(mo, .inr (12, mdG r cd tm (nI sn) (nI 0) (nI lz) (nI az) (nI na) (nI nt) (nI nr) mw ml mk dq)), (r 7, .inl ((cT 0), 1000, .inl f7)), (r 9, .inl ((cT 0), 1400, .inl f9)), (r 12, .inl ((cT 0), 1200, .inl f12)), (r 3, .inl ((cT 0), 160, .inl f3)), (r 4, .inl ((cT 0), 4, .inl f4)), (r 0, .inl ((cT 1), 64, .inr (.inl f0))), (r 11, .inl ((cT 0), 16, .inl f11))] U.heap ∧ va_K (dC, dI) vcl (tyL cT) U ∧ va_D (fun _ => True) [(mo, .inr (12, mdG r cd tm (nI sn) (nI 0) (nI lz) (nI az) (nI na) (nI nt) (nI nr) mw ml mk dq)), (r 7, .inl ((cT 0), 1000, .inl f7)), (r 9, .inl ((cT 0), 1400, .inl f9)), (r 12, .inl ((cT 0), 1200, .inl f12)), (r 3, .inl ((cT 0), 160, .inl f3)), (r 4, .inl ((cT 0), 4, .inl f4)), (r 0, .inl ((cT 1), 64, .inr (.inl f0))), (r 11, .inl ((cT 0), 16, .inl f11))])) (va_Qi (S := (Nat → Int32) × (Nat → Int32) × (Nat → Int32) × (Nat → Int32) × Int32 × Nat) (fun rv9 u => match u with | (g7, g9, g12, g11, cd2, sn2) => (20 ≤ sn2) ∧ (sn2 ≤ 1000) ∧ (AB g7) ∧ (AB g11)) (fun u t => match u with | (g7, g9, g12, g11, cd2, sn2) => va_P (dC, dI) vcl [(mo, .inr (12, mdG r cd2 tm (nI sn2) (nI 0) (nI lz) (nI az) (nI na) (nI nt) (nI nr) mw ml mk dq)), (r 7, .inl ((cT 0), 1000, .inl g7)), (r 9, .inl ((cT 0), 1400, .inl g9)), (r 12, .inl ((cT 0), 1200, .inl g12)), (r 3, .inl ((cT 0), 160, .inl f3)), (r 4, .inl ((cT 0), 4, .inl f4)), (r 0, .inl ((cT 1), 64, .inr (.inl f0))), (r 11, .inl ((cT 0), 16, .inl g11))] t.heap ∧ va_K (dC, dI) vcl (tyL cT) t ∧ va_D (va_A [(mo, .inr (12, mdG r cd tm (nI sn) (nI 0) (nI lz) (nI az) (nI na) (nI nt) (nI nr) mw ml mk dq)), (r 7, .inl ((cT 0), 1000, .inl f7)), (r 9, .inl ((cT 0), 1400, .inl f9)), (r 12, .inl ((cT 0), 1200, .inl f12)), (r 3, .inl ((cT 0), 160, .inl f3)), (r 4, .inl ((cT 0), 4, .inl f4)), (r 0, .inl ((cT 1), 64, .inr (.inl f0))), (r 11, .inl ((cT 0), 16, .inl f11))] sz) [(mo, .inr (12, mdG r cd2 tm (nI sn2) (nI 0) (nI lz) (nI az) (nI na) (nI nt) (nI nr) mw ml mk dq)), (r 7, .inl ((cT 0), 1000, .inl g7)), (r 9, .inl ((cT 0), 1400, .inl g9)), (r 12, .inl ((cT 0), 1200, .inl g12)), (r 3, .inl ((cT 0), 160, .inl f3)), (r 4, .inl ((cT 0), 4, .inl f4)), (r 0, .inl ((cT 1), 64, .inr (.inl f0))), (r 11, .inl ((cT 0), 16, .inl g11))]) (va_A [(mo, .inr (12, mdG r cd tm (nI sn) (nI 0) (nI lz) (nI az) (nI na) (nI nt) (nI nr) mw ml mk dq)), (r 7, .inl ((cT 0), 1000, .inl f7)), (r 9, .inl ((cT 0), 1400, .inl f9)), (r 12, .inl ((cT 0), 1200, .inl f12)), (r 3, .inl ((cT 0), 160, .inl f3)), (r 4, .inl ((cT 0), 4, .inl f4)), (r 0, .inl ((cT 1), 64, .inr (.inl f0))), (r 11, .inl ((cT 0), 16, .inl f11))] sz)) 0 0 (va_A [(mo, .inr (12, mdG r cd tm (nI sn) (nI 0) (nI lz) (nI az) (nI na) (nI nt) (nI nr) mw ml mk dq)), (r 7, .inl ((cT 0), 1000, .inl f7)), (r 9, .inl ((cT 0), 1400, .inl f9)), (r 12, .inl ((cT 0), 1200, .inl f12)), (r 3, .inl ((cT 0), 160, .inl f3)), (r 4, .inl ((cT 0), 4, .inl f4)), (r 0, .inl ((cT 1), 64, .inr (.inl f0))), (r 11, .inl ((cT 0), 16, .inl f11))] sz) := by
  refine Met.ofW (cc := b_Md_prove) (maxL := 4) (ret := (Option.some Jvm.ClassFile.FieldType.int)) (by decide) rfl ?_
  intro p e s m args below meth c s₁ B hml hv
  obtain ⟨hargs, hsz, hP, hK, hD0⟩ := hv
  have hx := B.exec
  have hb := B.bytes
  have hr := B.returns
  have hts := atoms_spec (ws := (Cond.code y_Md_prove b_Md_prove 4 (Option.some Jvm.ClassFile.FieldType.int) :: BIG)) B.pre
  have hg : ∀ w ∈ BIG, w.before _ s = true := fun w h => hts w (List.mem_cons_of_mem _ h)
  have hown : s.vm.findClass "DoorServerModel" = some m.cls := findClass_of_methodNamed B.named
  have hlocks := B.notSynchronized
  subst hsz
  have hD := hD0.self (sz := s.heap.size)
  generalize hAe : va_A [(mo, .inr (12, mdG r cd tm (nI sn) (nI 0) (nI lz) (nI az) (nI na) (nI nt) (nI nr) mw ml mk dq)), (r 7, .inl ((cT 0), 1000, .inl f7)), (r 9, .inl ((cT 0), 1400, .inl f9)), (r 12, .inl ((cT 0), 1200, .inl f12)), (r 3, .inl ((cT 0), 160, .inl f3)), (r 4, .inl ((cT 0), 4, .inl f4)), (r 0, .inl ((cT 1), 64, .inr (.inl f0))), (r 11, .inl ((cT 0), 16, .inl f11))] s.heap.size = A at hD ⊢
  have hA : ∀ q : Nat, s.heap.size ≤ q → A q := fun q h => by rw [← hAe]; exact Or.inr h
  have hS : va_S A s.heap s.heap [] := va_S.rf
  have hl := lv_entry ([.ref mo, .int x]) (n := 4) (Nat.le_of_ble_eq_true rfl)
  refine W.eq (g2 := entryFrame m (List.toArray [.ref mo, .int x]) 4) (by rw [hargs]) ?_
  rw [lg_entry_eq]
  generalize (lg_sl ([.ref mo, .int x]) ++ List.replicate (4 - (lg_sl ([.ref mo, .int x])).length) Slot.unset).toArray = ls at hl ⊢
  have hl : lv_has ls 4 [(0, .ref mo), (1, .int x)] := hl
  change W p l e ({ frames := 4, cells := 0, slots := 0, locals := 115 } : Room) s m args below meth c s.heap [] 0 0 _ _
  have hP : va_P (dC, dI) vcl [(mo, .inr (12, mdG r cd tm (nI sn) (nI 0) (nI lz) (nI az) (nI na) (nI nt) (nI nr) mw ml mk dq)), (r 7, .inl ((cT 0), 1000, .inl f7)), (r 9, .inl ((cT 0), 1400, .inl f9)), (r 12, .inl ((cT 0), 1200, .inl f12)), (r 3, .inl ((cT 0), 160, .inl f3)), (r 4, .inl ((cT 0), 4, .inl f4)), (r 0, .inl ((cT 1), 64, .inr (.inl f0))), (r 11, .inl ((cT 0), 16, .inl f11))] s.heap := hP
  rcases pk_ix x (n := 4) (by decide) with h8x | h8x | ⟨xn, hxn, rfl⟩
  · skip
    refine lv_aload_n hx hb d_Md_prove_0 rfl (lv_at hl 0 rfl) ?_
    refine lv_iload_n hx hb d_Md_prove_1 rfl (lv_at hl 1 rfl) ?_
    refine lv_if_lt (tgt := 14) hx hb d_Md_prove_2 (by decide) (fun hc379 => ?_) (fun hn9 => absurd (h8x) hn9)
    refine lv_iconst (v := 0) hx hb d_Md_prove_14 (by decide) ?_
    have hPc := hP.sub (ws' := [(mo, .inr (12, mdG r cd tm (nI sn) (nI 0) (nI lz) (nI az) (nI na) (nI nt) (nI nr) mw ml mk dq))]) [0] rfl
    have hDc := hD.sub (ws' := [(mo, .inr (12, mdG r cd tm (nI sn) (nI 0) (nI lz) (nI az) (nI na) (nI nt) (nI nr) mw ml mk dq))]) [0] (by decide) rfl
    have hFc := va_free (wc := [(mo, .inr (12, mdG r cd tm (nI sn) (nI 0) (nI lz) (nI az) (nI na) (nI nt) (nI nr) mw ml mk dq))]) hD hS hA [0] rfl
    refine va_calli (va_runV (C := "DoorServerModel") (As := [.int 0]) (rest := []) ⟨hx, hb, hml, hown, hg⟩ (m_goes0 l dC dI cT s.heap.size mo r cd tm sn 0 lz az na nt nr mw ml mk dq ) (cwV 1 hg (gI (List.forall_mem_append.mpr ⟨List.forall_mem_cons.mpr ⟨k_1165, List.forall_mem_cons.mpr ⟨k_1167, List.forall_mem_cons.mpr ⟨(big_sel (q := y_Md_goes) (n := 45) (by decide +kernel)), List.forall_mem_cons.mpr ⟨k_13, fun _ h => absurd h List.not_mem_nil⟩⟩⟩⟩, List.forall_mem_cons.mpr ⟨k_1168, fun _ h => h⟩⟩)) rfl rfl rfl (by decide +kernel) ⟨Nat.le_of_ble_eq_true rfl, Nat.le_of_ble_eq_true rfl⟩) ⟨fun a U g mk q => by obtain ⟨q0, q1, qP, qK, qD⟩ := q; exact ⟨q0, q1, qP, va_K.moved (u := U) (U := U.calling g mk a) (Vm.Alike.refl U.vm) qK, qD⟩, va_recv (q0 := 0) (ci := 12) hK hP rfl rfl, fun U hU hW => ⟨rfl, by rw [hU], by rw [hU]; exact hPc, va_K.moved hW.alike hK, hDc.weaken (fun _ _ _ _ => trivial)⟩⟩ rfl rfl hl.1 rfl (lv_room (Nat.le_of_ble_eq_true rfl)) d_Md_prove_15 ⟨Nat.le_of_ble_eq_true rfl, Nat.le_of_ble_eq_true rfl⟩) hS (fun q _ h => hFc q h) hFc (fun rv9 u t H1 locs ht hvm hw hB hz1 hk1 hS => ?_)
    try dsimp only at hw hB
    obtain ⟨hP1, hK1, hD1⟩ := hB
    rw [ht] at hP1
    obtain ⟨rfl, hw⟩ := hw
    obtain ⟨hP, hD⟩ := va_join (wr := [(r 7, .inl ((cT 0), 1000, .inl f7)), (r 9, .inl ((cT 0), 1400, .inl f9)), (r 12, .inl ((cT 0), 1200, .inl f12)), (r 3, .inl ((cT 0), 160, .inl f3)), (r 4, .inl ((cT 0), 4, .inl f4)), (r 0, .inl ((cT 1), 64, .inr (.inl f0))), (r 11, .inl ((cT 0), 16, .inl f11))]) (w1 := [(mo, .inr (12, mdG r 1 tm (nI sn) (nI 0) (nI lz) (nI az) (nI na) (nI nt) (nI nr) mw ml mk dq))]) hP hD [0] [1, 2, 3, 4, 5, 6, 7] rfl rfl (by decide) (by decide) hk1 hFc hP1 hD1
    have hw380 := hw
    clear hPc hDc hFc hz1 hk1 hP1 hK1 hD1
    generalize H1 = H at hP hS ⊢
    have hP : va_P (dC, dI) vcl [(r 7, .inl ((cT 0), 1000, .inl f7)), (r 9, .inl ((cT 0), 1400, .inl f9)), (r 12, .inl ((cT 0), 1200, .inl f12)), (r 3, .inl ((cT 0), 160, .inl f3)), (r 4, .inl ((cT 0), 4, .inl f4)), (r 0, .inl ((cT 1), 64, .inr (.inl f0))), (r 11, .inl ((cT 0), 16, .inl f11)), (mo, .inr (12, mdG r 1 tm (nI sn) (nI 0) (nI lz) (nI az) (nI na) (nI nt) (nI nr) mw ml mk dq))] H := hP
    have hD : va_D A [(r 7, .inl ((cT 0), 1000, .inl f7)), (r 9, .inl ((cT 0), 1400, .inl f9)), (r 12, .inl ((cT 0), 1200, .inl f12)), (r 3, .inl ((cT 0), 160, .inl f3)), (r 4, .inl ((cT 0), 4, .inl f4)), (r 0, .inl ((cT 1), 64, .inr (.inl f0))), (r 11, .inl ((cT 0), 16, .inl f11)), (mo, .inr (12, mdG r 1 tm (nI sn) (nI 0) (nI lz) (nI az) (nI na) (nI nt) (nI nr) mw ml mk dq))] := hD
    refine lv_if_ne (tgt := 23) hx hb d_Md_prove_18 (by decide) (fun hn9 => absurd hn9 (by decide)) (fun hc381 => ?_)
    refine lv_iconst (v := 0) hx hb d_Md_prove_21 (by decide) ?_
    have hP9 := hP.sub (ws' := [(mo, .inr (12, mdG r 1 tm (nI sn) (nI 0) (nI lz) (nI az) (nI na) (nI nt) (nI nr) mw ml mk dq)), (r 7, .inl ((cT 0), 1000, .inl f7)), (r 9, .inl ((cT 0), 1400, .inl f9)), (r 12, .inl ((cT 0), 1200, .inl f12)), (r 3, .inl ((cT 0), 160, .inl f3)), (r 4, .inl ((cT 0), 4, .inl f4)), (r 0, .inl ((cT 1), 64, .inr (.inl f0))), (r 11, .inl ((cT 0), 16, .inl f11))]) [7, 0, 1, 2, 3, 4, 5, 6] rfl
    have hD9 := hD.sub (ws' := [(mo, .inr (12, mdG r 1 tm (nI sn) (nI 0) (nI lz) (nI az) (nI na) (nI nt) (nI nr) mw ml mk dq)), (r 7, .inl ((cT 0), 1000, .inl f7)), (r 9, .inl ((cT 0), 1400, .inl f9)), (r 12, .inl ((cT 0), 1200, .inl f12)), (r 3, .inl ((cT 0), 160, .inl f3)), (r 4, .inl ((cT 0), 4, .inl f4)), (r 0, .inl ((cT 1), 64, .inr (.inl f0))), (r 11, .inl ((cT 0), 16, .inl f11))]) [7, 0, 1, 2, 3, 4, 5, 6] (by decide) rfl
    exact W.iret (v := 0) hx hb hr (fun t ht hW => ⟨⟨_, ⟨f7, f9, f12, f11, 1, sn⟩, rfl, ⟨by first | assumption | omega, by first | assumption | omega, by first | assumption | omega, by first | assumption | omega⟩, by rw [ht]; exact hP9, va_K.moved hW.alike hK, hD9⟩, hS.F ht⟩) hS.2.2 d_Md_prove_22
  · skip
    refine lv_aload_n hx hb d_Md_prove_0 rfl (lv_at hl 0 rfl) ?_
    refine lv_iload_n hx hb d_Md_prove_1 rfl (lv_at hl 1 rfl) ?_
    refine lv_if_lt (tgt := 14) hx hb d_Md_prove_2 (by decide) (fun hc382 => ?_) (fun hc382 => ?_)
    · skip
      refine lv_iconst (v := 0) hx hb d_Md_prove_14 (by decide) ?_
      have hPc := hP.sub (ws' := [(mo, .inr (12, mdG r cd tm (nI sn) (nI 0) (nI lz) (nI az) (nI na) (nI nt) (nI nr) mw ml mk dq))]) [0] rfl
      have hDc := hD.sub (ws' := [(mo, .inr (12, mdG r cd tm (nI sn) (nI 0) (nI lz) (nI az) (nI na) (nI nt) (nI nr) mw ml mk dq))]) [0] (by decide) rfl
      have hFc := va_free (wc := [(mo, .inr (12, mdG r cd tm (nI sn) (nI 0) (nI lz) (nI az) (nI na) (nI nt) (nI nr) mw ml mk dq))]) hD hS hA [0] rfl
      refine va_calli (va_runV (C := "DoorServerModel") (As := [.int 0]) (rest := []) ⟨hx, hb, hml, hown, hg⟩ (m_goes0 l dC dI cT s.heap.size mo r cd tm sn 0 lz az na nt nr mw ml mk dq ) (cwV 1 hg (gI (List.forall_mem_append.mpr ⟨List.forall_mem_cons.mpr ⟨k_1165, List.forall_mem_cons.mpr ⟨k_1167, List.forall_mem_cons.mpr ⟨(big_sel (q := y_Md_goes) (n := 45) (by decide +kernel)), List.forall_mem_cons.mpr ⟨k_13, fun _ h => absurd h List.not_mem_nil⟩⟩⟩⟩, List.forall_mem_cons.mpr ⟨k_1168, fun _ h => h⟩⟩)) rfl rfl rfl (by decide +kernel) ⟨Nat.le_of_ble_eq_true rfl, Nat.le_of_ble_eq_true rfl⟩) ⟨fun a U g mk q => by obtain ⟨q0, q1, qP, qK, qD⟩ := q; exact ⟨q0, q1, qP, va_K.moved (u := U) (U := U.calling g mk a) (Vm.Alike.refl U.vm) qK, qD⟩, va_recv (q0 := 0) (ci := 12) hK hP rfl rfl, fun U hU hW => ⟨rfl, by rw [hU], by rw [hU]; exact hPc, va_K.moved hW.alike hK, hDc.weaken (fun _ _ _ _ => trivial)⟩⟩ rfl rfl hl.1 rfl (lv_room (Nat.le_of_ble_eq_true rfl)) d_Md_prove_15 ⟨Nat.le_of_ble_eq_true rfl, Nat.le_of_ble_eq_true rfl⟩) hS (fun q _ h => hFc q h) hFc (fun rv9 u t H1 locs ht hvm hw hB hz1 hk1 hS => ?_)
      try dsimp only at hw hB
      obtain ⟨hP1, hK1, hD1⟩ := hB
      rw [ht] at hP1
      obtain ⟨rfl, hw⟩ := hw
      obtain ⟨hP, hD⟩ := va_join (wr := [(r 7, .inl ((cT 0), 1000, .inl f7)), (r 9, .inl ((cT 0), 1400, .inl f9)), (r 12, .inl ((cT 0), 1200, .inl f12)), (r 3, .inl ((cT 0), 160, .inl f3)), (r 4, .inl ((cT 0), 4, .inl f4)), (r 0, .inl ((cT 1), 64, .inr (.inl f0))), (r 11, .inl ((cT 0), 16, .inl f11))]) (w1 := [(mo, .inr (12, mdG r 1 tm (nI sn) (nI 0) (nI lz) (nI az) (nI na) (nI nt) (nI nr) mw ml mk dq))]) hP hD [0] [1, 2, 3, 4, 5, 6, 7] rfl rfl (by decide) (by decide) hk1 hFc hP1 hD1
      have hw383 := hw
      clear hPc hDc hFc hz1 hk1 hP1 hK1 hD1
      generalize H1 = H at hP hS ⊢
      have hP : va_P (dC, dI) vcl [(r 7, .inl ((cT 0), 1000, .inl f7)), (r 9, .inl ((cT 0), 1400, .inl f9)), (r 12, .inl ((cT 0), 1200, .inl f12)), (r 3, .inl ((cT 0), 160, .inl f3)), (r 4, .inl ((cT 0), 4, .inl f4)), (r 0, .inl ((cT 1), 64, .inr (.inl f0))), (r 11, .inl ((cT 0), 16, .inl f11)), (mo, .inr (12, mdG r 1 tm (nI sn) (nI 0) (nI lz) (nI az) (nI na) (nI nt) (nI nr) mw ml mk dq))] H := hP
      have hD : va_D A [(r 7, .inl ((cT 0), 1000, .inl f7)), (r 9, .inl ((cT 0), 1400, .inl f9)), (r 12, .inl ((cT 0), 1200, .inl f12)), (r 3, .inl ((cT 0), 160, .inl f3)), (r 4, .inl ((cT 0), 4, .inl f4)), (r 0, .inl ((cT 1), 64, .inr (.inl f0))), (r 11, .inl ((cT 0), 16, .inl f11)), (mo, .inr (12, mdG r 1 tm (nI sn) (nI 0) (nI lz) (nI az) (nI na) (nI nt) (nI nr) mw ml mk dq))] := hD
      refine lv_if_ne (tgt := 23) hx hb d_Md_prove_18 (by decide) (fun hn9 => absurd hn9 (by decide)) (fun hc384 => ?_)
      refine lv_iconst (v := 0) hx hb d_Md_prove_21 (by decide) ?_
      have hP9 := hP.sub (ws' := [(mo, .inr (12, mdG r 1 tm (nI sn) (nI 0) (nI lz) (nI az) (nI na) (nI nt) (nI nr) mw ml mk dq)), (r 7, .inl ((cT 0), 1000, .inl f7)), (r 9, .inl ((cT 0), 1400, .inl f9)), (r 12, .inl ((cT 0), 1200, .inl f12)), (r 3, .inl ((cT 0), 160, .inl f3)), (r 4, .inl ((cT 0), 4, .inl f4)), (r 0, .inl ((cT 1), 64, .inr (.inl f0))), (r 11, .inl ((cT 0), 16, .inl f11))]) [7, 0, 1, 2, 3, 4, 5, 6] rfl
      have hD9 := hD.sub (ws' := [(mo, .inr (12, mdG r 1 tm (nI sn) (nI 0) (nI lz) (nI az) (nI na) (nI nt) (nI nr) mw ml mk dq)), (r 7, .inl ((cT 0), 1000, .inl f7)), (r 9, .inl ((cT 0), 1400, .inl f9)), (r 12, .inl ((cT 0), 1200, .inl f12)), (r 3, .inl ((cT 0), 160, .inl f3)), (r 4, .inl ((cT 0), 4, .inl f4)), (r 0, .inl ((cT 1), 64, .inr (.inl f0))), (r 11, .inl ((cT 0), 16, .inl f11))]) [7, 0, 1, 2, 3, 4, 5, 6] (by decide) rfl
      exact W.iret (v := 0) hx hb hr (fun t ht hW => ⟨⟨_, ⟨f7, f9, f12, f11, 1, sn⟩, rfl, ⟨by first | assumption | omega, by first | assumption | omega, by first | assumption | omega, by first | assumption | omega⟩, by rw [ht]; exact hP9, va_K.moved hW.alike hK, hD9⟩, hS.F ht⟩) hS.2.2 d_Md_prove_22
    · skip
      refine lv_iload_n hx hb d_Md_prove_5 rfl (lv_at hl 1 rfl) ?_
      refine lv_iconst (v := 4) hx hb d_Md_prove_6 (by decide) ?_
      refine lv_icmp_ge (tgt := 14) hx hb d_Md_prove_7 (by decide) (fun hc385 => ?_) (fun hn9 => absurd (h8x) hn9)
      refine lv_iconst (v := 0) hx hb d_Md_prove_14 (by decide) ?_
      have hPc := hP.sub (ws' := [(mo, .inr (12, mdG r cd tm (nI sn) (nI 0) (nI lz) (nI az) (nI na) (nI nt) (nI nr) mw ml mk dq))]) [0] rfl
      have hDc := hD.sub (ws' := [(mo, .inr (12, mdG r cd tm (nI sn) (nI 0) (nI lz) (nI az) (nI na) (nI nt) (nI nr) mw ml mk dq))]) [0] (by decide) rfl
      have hFc := va_free (wc := [(mo, .inr (12, mdG r cd tm (nI sn) (nI 0) (nI lz) (nI az) (nI na) (nI nt) (nI nr) mw ml mk dq))]) hD hS hA [0] rfl
      refine va_calli (va_runV (C := "DoorServerModel") (As := [.int 0]) (rest := []) ⟨hx, hb, hml, hown, hg⟩ (m_goes0 l dC dI cT s.heap.size mo r cd tm sn 0 lz az na nt nr mw ml mk dq ) (cwV 1 hg (gI (List.forall_mem_append.mpr ⟨List.forall_mem_cons.mpr ⟨k_1165, List.forall_mem_cons.mpr ⟨k_1167, List.forall_mem_cons.mpr ⟨(big_sel (q := y_Md_goes) (n := 45) (by decide +kernel)), List.forall_mem_cons.mpr ⟨k_13, fun _ h => absurd h List.not_mem_nil⟩⟩⟩⟩, List.forall_mem_cons.mpr ⟨k_1168, fun _ h => h⟩⟩)) rfl rfl rfl (by decide +kernel) ⟨Nat.le_of_ble_eq_true rfl, Nat.le_of_ble_eq_true rfl⟩) ⟨fun a U g mk q => by obtain ⟨q0, q1, qP, qK, qD⟩ := q; exact ⟨q0, q1, qP, va_K.moved (u := U) (U := U.calling g mk a) (Vm.Alike.refl U.vm) qK, qD⟩, va_recv (q0 := 0) (ci := 12) hK hP rfl rfl, fun U hU hW => ⟨rfl, by rw [hU], by rw [hU]; exact hPc, va_K.moved hW.alike hK, hDc.weaken (fun _ _ _ _ => trivial)⟩⟩ rfl rfl hl.1 rfl (lv_room (Nat.le_of_ble_eq_true rfl)) d_Md_prove_15 ⟨Nat.le_of_ble_eq_true rfl, Nat.le_of_ble_eq_true rfl⟩) hS (fun q _ h => hFc q h) hFc (fun rv9 u t H1 locs ht hvm hw hB hz1 hk1 hS => ?_)
      try dsimp only at hw hB
      obtain ⟨hP1, hK1, hD1⟩ := hB
      rw [ht] at hP1
      obtain ⟨rfl, hw⟩ := hw
      obtain ⟨hP, hD⟩ := va_join (wr := [(r 7, .inl ((cT 0), 1000, .inl f7)), (r 9, .inl ((cT 0), 1400, .inl f9)), (r 12, .inl ((cT 0), 1200, .inl f12)), (r 3, .inl ((cT 0), 160, .inl f3)), (r 4, .inl ((cT 0), 4, .inl f4)), (r 0, .inl ((cT 1), 64, .inr (.inl f0))), (r 11, .inl ((cT 0), 16, .inl f11))]) (w1 := [(mo, .inr (12, mdG r 1 tm (nI sn) (nI 0) (nI lz) (nI az) (nI na) (nI nt) (nI nr) mw ml mk dq))]) hP hD [0] [1, 2, 3, 4, 5, 6, 7] rfl rfl (by decide) (by decide) hk1 hFc hP1 hD1
      have hw386 := hw
      clear hPc hDc hFc hz1 hk1 hP1 hK1 hD1
      generalize H1 = H at hP hS ⊢
      have hP : va_P (dC, dI) vcl [(r 7, .inl ((cT 0), 1000, .inl f7)), (r 9, .inl ((cT 0), 1400, .inl f9)), (r 12, .inl ((cT 0), 1200, .inl f12)), (r 3, .inl ((cT 0), 160, .inl f3)), (r 4, .inl ((cT 0), 4, .inl f4)), (r 0, .inl ((cT 1), 64, .inr (.inl f0))), (r 11, .inl ((cT 0), 16, .inl f11)), (mo, .inr (12, mdG r 1 tm (nI sn) (nI 0) (nI lz) (nI az) (nI na) (nI nt) (nI nr) mw ml mk dq))] H := hP
      have hD : va_D A [(r 7, .inl ((cT 0), 1000, .inl f7)), (r 9, .inl ((cT 0), 1400, .inl f9)), (r 12, .inl ((cT 0), 1200, .inl f12)), (r 3, .inl ((cT 0), 160, .inl f3)), (r 4, .inl ((cT 0), 4, .inl f4)), (r 0, .inl ((cT 1), 64, .inr (.inl f0))), (r 11, .inl ((cT 0), 16, .inl f11)), (mo, .inr (12, mdG r 1 tm (nI sn) (nI 0) (nI lz) (nI az) (nI na) (nI nt) (nI nr) mw ml mk dq))] := hD
      refine lv_if_ne (tgt := 23) hx hb d_Md_prove_18 (by decide) (fun hn9 => absurd hn9 (by decide)) (fun hc387 => ?_)
      refine lv_iconst (v := 0) hx hb d_Md_prove_21 (by decide) ?_
      have hP9 := hP.sub (ws' := [(mo, .inr (12, mdG r 1 tm (nI sn) (nI 0) (nI lz) (nI az) (nI na) (nI nt) (nI nr) mw ml mk dq)), (r 7, .inl ((cT 0), 1000, .inl f7)), (r 9, .inl ((cT 0), 1400, .inl f9)), (r 12, .inl ((cT 0), 1200, .inl f12)), (r 3, .inl ((cT 0), 160, .inl f3)), (r 4, .inl ((cT 0), 4, .inl f4)), (r 0, .inl ((cT 1), 64, .inr (.inl f0))), (r 11, .inl ((cT 0), 16, .inl f11))]) [7, 0, 1, 2, 3, 4, 5, 6] rfl
      have hD9 := hD.sub (ws' := [(mo, .inr (12, mdG r 1 tm (nI sn) (nI 0) (nI lz) (nI az) (nI na) (nI nt) (nI nr) mw ml mk dq)), (r 7, .inl ((cT 0), 1000, .inl f7)), (r 9, .inl ((cT 0), 1400, .inl f9)), (r 12, .inl ((cT 0), 1200, .inl f12)), (r 3, .inl ((cT 0), 160, .inl f3)), (r 4, .inl ((cT 0), 4, .inl f4)), (r 0, .inl ((cT 1), 64, .inr (.inl f0))), (r 11, .inl ((cT 0), 16, .inl f11))]) [7, 0, 1, 2, 3, 4, 5, 6] (by decide) rfl
      exact W.iret (v := 0) hx hb hr (fun t ht hW => ⟨⟨_, ⟨f7, f9, f12, f11, 1, sn⟩, rfl, ⟨by first | assumption | omega, by first | assumption | omega, by first | assumption | omega, by first | assumption | omega⟩, by rw [ht]; exact hP9, va_K.moved hW.alike hK, hD9⟩, hS.F ht⟩) hS.2.2 d_Md_prove_22
  · skip
    obtain ⟨sl, hsl, hfz⟩ := h4 xn hxn
    refine lv_aload_n hx hb d_Md_prove_0 rfl (lv_at hl 0 rfl) ?_
    refine lv_iload_n hx hb d_Md_prove_1 rfl (lv_at hl 1 rfl) ?_
    refine lv_if_lt (tgt := 14) hx hb d_Md_prove_2 (by decide) (fun hn9 => absurd hn9 (nI_pos (by omega))) (fun hc388 => ?_)
    refine lv_iload_n hx hb d_Md_prove_5 rfl (lv_at hl 1 rfl) ?_
    refine lv_iconst (v := 4) hx hb d_Md_prove_6 (by decide) ?_
    refine lv_icmp_ge (tgt := 14) hx hb d_Md_prove_7 (by decide) (fun hc389 => ?_) (fun hc389 => ?_)
    · skip
      have n390 : 4 ≤ xn := (nI_leI (a := 4) (b := xn) (by omega) (by omega)).mp hc389
      refine lv_iconst (v := 0) hx hb d_Md_prove_14 (by decide) ?_
      have hPc := hP.sub (ws' := [(mo, .inr (12, mdG r cd tm (nI sn) (nI 0) (nI lz) (nI az) (nI na) (nI nt) (nI nr) mw ml mk dq))]) [0] rfl
      have hDc := hD.sub (ws' := [(mo, .inr (12, mdG r cd tm (nI sn) (nI 0) (nI lz) (nI az) (nI na) (nI nt) (nI nr) mw ml mk dq))]) [0] (by decide) rfl
      have hFc := va_free (wc := [(mo, .inr (12, mdG r cd tm (nI sn) (nI 0) (nI lz) (nI az) (nI na) (nI nt) (nI nr) mw ml mk dq))]) hD hS hA [0] rfl
      refine va_calli (va_runV (C := "DoorServerModel") (As := [.int 0]) (rest := []) ⟨hx, hb, hml, hown, hg⟩ (m_goes0 l dC dI cT s.heap.size mo r cd tm sn 0 lz az na nt nr mw ml mk dq ) (cwV 1 hg (gI (List.forall_mem_append.mpr ⟨List.forall_mem_cons.mpr ⟨k_1165, List.forall_mem_cons.mpr ⟨k_1167, List.forall_mem_cons.mpr ⟨(big_sel (q := y_Md_goes) (n := 45) (by decide +kernel)), List.forall_mem_cons.mpr ⟨k_13, fun _ h => absurd h List.not_mem_nil⟩⟩⟩⟩, List.forall_mem_cons.mpr ⟨k_1168, fun _ h => h⟩⟩)) rfl rfl rfl (by decide +kernel) ⟨Nat.le_of_ble_eq_true rfl, Nat.le_of_ble_eq_true rfl⟩) ⟨fun a U g mk q => by obtain ⟨q0, q1, qP, qK, qD⟩ := q; exact ⟨q0, q1, qP, va_K.moved (u := U) (U := U.calling g mk a) (Vm.Alike.refl U.vm) qK, qD⟩, va_recv (q0 := 0) (ci := 12) hK hP rfl rfl, fun U hU hW => ⟨rfl, by rw [hU], by rw [hU]; exact hPc, va_K.moved hW.alike hK, hDc.weaken (fun _ _ _ _ => trivial)⟩⟩ rfl rfl hl.1 rfl (lv_room (Nat.le_of_ble_eq_true rfl)) d_Md_prove_15 ⟨Nat.le_of_ble_eq_true rfl, Nat.le_of_ble_eq_true rfl⟩) hS (fun q _ h => hFc q h) hFc (fun rv9 u t H1 locs ht hvm hw hB hz1 hk1 hS => ?_)
      try dsimp only at hw hB
      obtain ⟨hP1, hK1, hD1⟩ := hB
      rw [ht] at hP1
      obtain ⟨rfl, hw⟩ := hw
      obtain ⟨hP, hD⟩ := va_join (wr := [(r 7, .inl ((cT 0), 1000, .inl f7)), (r 9, .inl ((cT 0), 1400, .inl f9)), (r 12, .inl ((cT 0), 1200, .inl f12)), (r 3, .inl ((cT 0), 160, .inl f3)), (r 4, .inl ((cT 0), 4, .inl f4)), (r 0, .inl ((cT 1), 64, .inr (.inl f0))), (r 11, .inl ((cT 0), 16, .inl f11))]) (w1 := [(mo, .inr (12, mdG r 1 tm (nI sn) (nI 0) (nI lz) (nI az) (nI na) (nI nt) (nI nr) mw ml mk dq))]) hP hD [0] [1, 2, 3, 4, 5, 6, 7] rfl rfl (by decide) (by decide) hk1 hFc hP1 hD1
      have hw392 := hw
      clear hPc hDc hFc hz1 hk1 hP1 hK1 hD1
      generalize H1 = H at hP hS ⊢
      have hP : va_P (dC, dI) vcl [(r 7, .inl ((cT 0), 1000, .inl f7)), (r 9, .inl ((cT 0), 1400, .inl f9)), (r 12, .inl ((cT 0), 1200, .inl f12)), (r 3, .inl ((cT 0), 160, .inl f3)), (r 4, .inl ((cT 0), 4, .inl f4)), (r 0, .inl ((cT 1), 64, .inr (.inl f0))), (r 11, .inl ((cT 0), 16, .inl f11)), (mo, .inr (12, mdG r 1 tm (nI sn) (nI 0) (nI lz) (nI az) (nI na) (nI nt) (nI nr) mw ml mk dq))] H := hP
      have hD : va_D A [(r 7, .inl ((cT 0), 1000, .inl f7)), (r 9, .inl ((cT 0), 1400, .inl f9)), (r 12, .inl ((cT 0), 1200, .inl f12)), (r 3, .inl ((cT 0), 160, .inl f3)), (r 4, .inl ((cT 0), 4, .inl f4)), (r 0, .inl ((cT 1), 64, .inr (.inl f0))), (r 11, .inl ((cT 0), 16, .inl f11)), (mo, .inr (12, mdG r 1 tm (nI sn) (nI 0) (nI lz) (nI az) (nI na) (nI nt) (nI nr) mw ml mk dq))] := hD
      refine lv_if_ne (tgt := 23) hx hb d_Md_prove_18 (by decide) (fun hn9 => absurd hn9 (by decide)) (fun hc393 => ?_)
      refine lv_iconst (v := 0) hx hb d_Md_prove_21 (by decide) ?_
      have hP9 := hP.sub (ws' := [(mo, .inr (12, mdG r 1 tm (nI sn) (nI 0) (nI lz) (nI az) (nI na) (nI nt) (nI nr) mw ml mk dq)), (r 7, .inl ((cT 0), 1000, .inl f7)), (r 9, .inl ((cT 0), 1400, .inl f9)), (r 12, .inl ((cT 0), 1200, .inl f12)), (r 3, .inl ((cT 0), 160, .inl f3)), (r 4, .inl ((cT 0), 4, .inl f4)), (r 0, .inl ((cT 1), 64, .inr (.inl f0))), (r 11, .inl ((cT 0), 16, .inl f11))]) [7, 0, 1, 2, 3, 4, 5, 6] rfl
      have hD9 := hD.sub (ws' := [(mo, .inr (12, mdG r 1 tm (nI sn) (nI 0) (nI lz) (nI az) (nI na) (nI nt) (nI nr) mw ml mk dq)), (r 7, .inl ((cT 0), 1000, .inl f7)), (r 9, .inl ((cT 0), 1400, .inl f9)), (r 12, .inl ((cT 0), 1200, .inl f12)), (r 3, .inl ((cT 0), 160, .inl f3)), (r 4, .inl ((cT 0), 4, .inl f4)), (r 0, .inl ((cT 1), 64, .inr (.inl f0))), (r 11, .inl ((cT 0), 16, .inl f11))]) [7, 0, 1, 2, 3, 4, 5, 6] (by decide) rfl
      exact W.iret (v := 0) hx hb hr (fun t ht hW => ⟨⟨_, ⟨f7, f9, f12, f11, 1, sn⟩, rfl, ⟨by first | assumption | omega, by first | assumption | omega, by first | assumption | omega, by first | assumption | omega⟩, by rw [ht]; exact hP9, va_K.moved hW.alike hK, hD9⟩, hS.F ht⟩) hS.2.2 d_Md_prove_22
    · skip
      have n391 : xn < 4 := Nat.not_le.mp (fun h7 => hc389 ((nI_leI (a := 4) (b := xn) (by omega) (by omega)).mpr h7))
      refine lv_iconst (v := 1) hx hb d_Md_prove_10 (by decide) ?_
      refine lv_goto (tgt := 15) hx hb d_Md_prove_11 (by decide) ?_
      have hPc := hP.sub (ws' := [(mo, .inr (12, mdG r cd tm (nI sn) (nI 0) (nI lz) (nI az) (nI na) (nI nt) (nI nr) mw ml mk dq))]) [0] rfl
      have hDc := hD.sub (ws' := [(mo, .inr (12, mdG r cd tm (nI sn) (nI 0) (nI lz) (nI az) (nI na) (nI nt) (nI nr) mw ml mk dq))]) [0] (by decide) rfl
      have hFc := va_free (wc := [(mo, .inr (12, mdG r cd tm (nI sn) (nI 0) (nI lz) (nI az) (nI na) (nI nt) (nI nr) mw ml mk dq))]) hD hS hA [0] rfl
      refine va_calli (va_runV (C := "DoorServerModel") (As := [.int 1]) (rest := []) ⟨hx, hb, hml, hown, hg⟩ (m_goes1 l dC dI cT s.heap.size mo r cd tm sn 0 lz az na nt nr mw ml mk dq ) (cwV 1 hg (gI (List.forall_mem_append.mpr ⟨List.forall_mem_cons.mpr ⟨k_1165, List.forall_mem_cons.mpr ⟨k_1167, List.forall_mem_cons.mpr ⟨(big_sel (q := y_Md_goes) (n := 45) (by decide +kernel)), List.forall_mem_cons.mpr ⟨k_13, fun _ h => absurd h List.not_mem_nil⟩⟩⟩⟩, List.forall_mem_cons.mpr ⟨k_1168, fun _ h => h⟩⟩)) rfl rfl rfl (by decide +kernel) ⟨Nat.le_of_ble_eq_true rfl, Nat.le_of_ble_eq_true rfl⟩) ⟨fun a U g mk q => by obtain ⟨q0, q1, qP, qK, qD⟩ := q; exact ⟨q0, q1, qP, va_K.moved (u := U) (U := U.calling g mk a) (Vm.Alike.refl U.vm) qK, qD⟩, va_recv (q0 := 0) (ci := 12) hK hP rfl rfl, fun U hU hW => ⟨rfl, by rw [hU], by rw [hU]; exact hPc, va_K.moved hW.alike hK, hDc.weaken (fun _ _ _ _ => trivial)⟩⟩ rfl rfl hl.1 rfl (lv_room (Nat.le_of_ble_eq_true rfl)) d_Md_prove_15 ⟨Nat.le_of_ble_eq_true rfl, Nat.le_of_ble_eq_true rfl⟩) hS (fun q _ h => hFc q h) hFc (fun rv9 u t H1 locs ht hvm hw hB hz1 hk1 hS => ?_)
      try dsimp only at hw hB
      obtain ⟨hP1, hK1, hD1⟩ := hB
      rw [ht] at hP1
      obtain ⟨rfl, hw⟩ := hw
      obtain ⟨hP, hD⟩ := va_join (wr := [(r 7, .inl ((cT 0), 1000, .inl f7)), (r 9, .inl ((cT 0), 1400, .inl f9)), (r 12, .inl ((cT 0), 1200, .inl f12)), (r 3, .inl ((cT 0), 160, .inl f3)), (r 4, .inl ((cT 0), 4, .inl f4)), (r 0, .inl ((cT 1), 64, .inr (.inl f0))), (r 11, .inl ((cT 0), 16, .inl f11))]) (w1 := [(mo, .inr (12, mdG r 0 tm (nI sn) (nI 0) (nI lz) (nI az) (nI na) (nI nt) (nI nr) mw ml mk dq))]) hP hD [0] [1, 2, 3, 4, 5, 6, 7] rfl rfl (by decide) (by decide) hk1 hFc hP1 hD1
      have hw394 := hw
      clear hPc hDc hFc hz1 hk1 hP1 hK1 hD1
      generalize H1 = H at hP hS ⊢
      have hP : va_P (dC, dI) vcl [(r 7, .inl ((cT 0), 1000, .inl f7)), (r 9, .inl ((cT 0), 1400, .inl f9)), (r 12, .inl ((cT 0), 1200, .inl f12)), (r 3, .inl ((cT 0), 160, .inl f3)), (r 4, .inl ((cT 0), 4, .inl f4)), (r 0, .inl ((cT 1), 64, .inr (.inl f0))), (r 11, .inl ((cT 0), 16, .inl f11)), (mo, .inr (12, mdG r 0 tm (nI sn) (nI 0) (nI lz) (nI az) (nI na) (nI nt) (nI nr) mw ml mk dq))] H := hP
      have hD : va_D A [(r 7, .inl ((cT 0), 1000, .inl f7)), (r 9, .inl ((cT 0), 1400, .inl f9)), (r 12, .inl ((cT 0), 1200, .inl f12)), (r 3, .inl ((cT 0), 160, .inl f3)), (r 4, .inl ((cT 0), 4, .inl f4)), (r 0, .inl ((cT 1), 64, .inr (.inl f0))), (r 11, .inl ((cT 0), 16, .inl f11)), (mo, .inr (12, mdG r 0 tm (nI sn) (nI 0) (nI lz) (nI az) (nI na) (nI nt) (nI nr) mw ml mk dq))] := hD
      refine lv_if_ne (tgt := 23) hx hb d_Md_prove_18 (by decide) (fun hc395 => ?_) (fun hn9 => absurd hn9 (by decide))
      refine lv_aload_n hx hb d_Md_prove_23 rfl (lv_at hl 0 rfl) ?_
      have hPc := hP.sub (ws' := [(mo, .inr (12, mdG r 0 tm (nI sn) (nI 0) (nI lz) (nI az) (nI na) (nI nt) (nI nr) mw ml mk dq)), (r 7, .inl ((cT 0), 1000, .inl f7))]) [7, 0] rfl
      have hDc := hD.sub (ws' := [(mo, .inr (12, mdG r 0 tm (nI sn) (nI 0) (nI lz) (nI az) (nI na) (nI nt) (nI nr) mw ml mk dq)), (r 7, .inl ((cT 0), 1000, .inl f7))]) [7, 0] (by decide) rfl
      have hFc := va_free (wc := [(mo, .inr (12, mdG r 0 tm (nI sn) (nI 0) (nI lz) (nI az) (nI na) (nI nt) (nI nr) mw ml mk dq)), (r 7, .inl ((cT 0), 1000, .inl f7))]) hD hS hA [7, 0] rfl
      refine va_calli (va_runV (C := "DoorServerModel") (As := []) (rest := []) ⟨hx, hb, hml, hown, hg⟩ (m_pplace l dC dI cT H.size mo r 0 tm sn 0 lz az na nt nr mw ml mk dq f7 (by first | assumption | omega) (by first | assumption | omega) (by first | assumption | omega)) (cwV 0 hg (gI (List.forall_mem_append.mpr ⟨List.forall_mem_cons.mpr ⟨k_1259, List.forall_mem_cons.mpr ⟨k_1261, List.forall_mem_cons.mpr ⟨(big_sel (q := y_Md_proofPlace) (n := 45) (by decide +kernel)), List.forall_mem_cons.mpr ⟨k_13, fun _ h => absurd h List.not_mem_nil⟩⟩⟩⟩, List.forall_mem_cons.mpr ⟨k_1262, fun _ h => h⟩⟩)) rfl rfl rfl (by decide +kernel) ⟨Nat.le_of_ble_eq_true rfl, Nat.le_of_ble_eq_true rfl⟩) ⟨fun a U g mk q => by obtain ⟨q0, q1, qP, qK, qD⟩ := q; exact ⟨q0, q1, qP, va_K.moved (u := U) (U := U.calling g mk a) (Vm.Alike.refl U.vm) qK, qD⟩, va_recv (q0 := 7) (ci := 12) hK hP rfl rfl, fun U hU hW => ⟨rfl, by rw [hU], by rw [hU]; exact hPc, va_K.moved hW.alike hK, hDc.weaken (fun _ _ _ _ => trivial)⟩⟩ rfl rfl hl.1 rfl (lv_room (Nat.le_of_ble_eq_true rfl)) d_Md_prove_24 ⟨Nat.le_of_ble_eq_true rfl, Nat.le_of_ble_eq_true rfl⟩) hS (fun q _ h => hFc q h) hFc (fun rv9 u t H1 locs ht hvm hw hB hz1 hk1 hS => ?_)
      try dsimp only at hw hB
      obtain ⟨hP1, hK1, hD1⟩ := hB
      rw [ht] at hP1
      generalize rv9 = r396 at hw ⊢
      obtain ⟨hP, hD⟩ := va_join (wr := [(r 9, .inl ((cT 0), 1400, .inl f9)), (r 12, .inl ((cT 0), 1200, .inl f12)), (r 3, .inl ((cT 0), 160, .inl f3)), (r 4, .inl ((cT 0), 4, .inl f4)), (r 0, .inl ((cT 1), 64, .inr (.inl f0))), (r 11, .inl ((cT 0), 16, .inl f11))]) (w1 := [(mo, .inr (12, mdG r 0 tm (nI sn) (nI 0) (nI lz) (nI az) (nI na) (nI nt) (nI nr) mw ml mk dq)), (r 7, .inl ((cT 0), 1000, .inl f7))]) hP hD [7, 0] [1, 2, 3, 4, 5, 6] rfl rfl (by decide) (by decide) hk1 hFc hP1 hD1
      have hw397 := hw
      clear hPc hDc hFc hz1 hk1 hP1 hK1 hD1
      generalize H1 = H at hP hS ⊢
      have hP : va_P (dC, dI) vcl [(r 9, .inl ((cT 0), 1400, .inl f9)), (r 12, .inl ((cT 0), 1200, .inl f12)), (r 3, .inl ((cT 0), 160, .inl f3)), (r 4, .inl ((cT 0), 4, .inl f4)), (r 0, .inl ((cT 1), 64, .inr (.inl f0))), (r 11, .inl ((cT 0), 16, .inl f11)), (mo, .inr (12, mdG r 0 tm (nI sn) (nI 0) (nI lz) (nI az) (nI na) (nI nt) (nI nr) mw ml mk dq)), (r 7, .inl ((cT 0), 1000, .inl f7))] H := hP
      have hD : va_D A [(r 9, .inl ((cT 0), 1400, .inl f9)), (r 12, .inl ((cT 0), 1200, .inl f12)), (r 3, .inl ((cT 0), 160, .inl f3)), (r 4, .inl ((cT 0), 4, .inl f4)), (r 0, .inl ((cT 1), 64, .inr (.inl f0))), (r 11, .inl ((cT 0), 16, .inl f11)), (mo, .inr (12, mdG r 0 tm (nI sn) (nI 0) (nI lz) (nI az) (nI na) (nI nt) (nI nr) mw ml mk dq)), (r 7, .inl ((cT 0), 1000, .inl f7))] := hD
      have k398 := hw397
      rcases k398 with h8p | ⟨pa, h8p, hpa1, hpa2⟩
      · skip
        refine lv_topi (fun x400 e399 => ?_)
        obtain rfl : x400 = (-1) := by rw [e399]; exact h8p
        refine lv_istore_n (lv' := [(2, .int (-1)), (0, .ref mo), (1, .int (nI xn))]) hx hb d_Md_prove_27 rfl hl (by decide) rfl (fun ls hl => ?_)
        refine lv_iload_n hx hb d_Md_prove_28 rfl (lv_at hl 0 rfl) ?_
        refine lv_if_ge (tgt := 71) hx hb d_Md_prove_29 (by decide) (fun hn9 => absurd hn9 (by decide)) (fun hc401 => ?_)
        refine lv_aload_n hx hb d_Md_prove_32 rfl (lv_at hl 1 rfl) ?_
        refine va_get (D := (dC, dI)) (ci := 12) (v := (.int (nI sn))) (C := R_Md) (T := F_Md) (N := 45) hx hb hg in_Md hown hK hP 6 rfl rfl 8 (by decide) (hg _ k_1028) (fun _ h9 => h9) rfl d_Md_prove_33 ?_
        refine lv_iconst (v := 2) hx hb d_Md_prove_36 (by decide) ?_
        refine lv_iadd hx hb d_Md_prove_37 ?_
        refine lv_topi (fun x403 e402 => ?_)
        obtain rfl : x403 = nI (sn + 2) := by rw [e402]; exact nI_add sn 2
        refine lv_istore_n (lv' := [(2, .int (nI (sn + 2))), (0, .ref mo), (1, .int (nI xn))]) hx hb d_Md_prove_38 rfl hl (by decide) rfl (fun ls hl => ?_)
        refine lv_aload_n hx hb d_Md_prove_39 rfl (lv_at hl 1 rfl) ?_
        refine lv_bipush (v := 80) hx hb d_Md_prove_40 (by decide) ?_
        refine lv_bipush (v := 16) hx hb d_Md_prove_42 (by decide) ?_
        by_cases hrm : sn + 16 + 2 ≤ 1000
        refine lv_topi (fun x405 e404 => ?_)
        obtain rfl : x405 = nI 16 := by rw [e404]; rfl
        · skip
          have hPc := hP.sub (ws' := [(mo, .inr (12, mdG r 0 tm (nI sn) (nI 0) (nI lz) (nI az) (nI na) (nI nt) (nI nr) mw ml mk dq)), (r 7, .inl ((cT 0), 1000, .inl f7))]) [6, 7] rfl
          have hDc := hD.sub (ws' := [(mo, .inr (12, mdG r 0 tm (nI sn) (nI 0) (nI lz) (nI az) (nI na) (nI nt) (nI nr) mw ml mk dq)), (r 7, .inl ((cT 0), 1000, .inl f7))]) [6, 7] (by decide) rfl
          have hFc := va_free (wc := [(mo, .inr (12, mdG r 0 tm (nI sn) (nI 0) (nI lz) (nI az) (nI na) (nI nt) (nI nr) mw ml mk dq)), (r 7, .inl ((cT 0), 1000, .inl f7))]) hD hS hA [6, 7] rfl
          refine va_calli (va_runV (C := "DoorServerModel") (As := [.int 80, .int (nI 16)]) (rest := []) ⟨hx, hb, hml, hown, hg⟩ (m_opens1 l dC dI cT H.size mo r 0 tm sn 0 lz az na nt nr mw ml mk dq f7 80 16 (hrm) (by first | assumption | omega)) (cwV 2 hg (gI (List.forall_mem_append.mpr ⟨List.forall_mem_cons.mpr ⟨k_1188, List.forall_mem_cons.mpr ⟨k_1190, List.forall_mem_cons.mpr ⟨(big_sel (q := y_Md_opens) (n := 45) (by decide +kernel)), List.forall_mem_cons.mpr ⟨k_13, fun _ h => absurd h List.not_mem_nil⟩⟩⟩⟩, List.forall_mem_cons.mpr ⟨k_1191, fun _ h => h⟩⟩)) rfl rfl rfl (by decide +kernel) ⟨Nat.le_of_ble_eq_true rfl, Nat.le_of_ble_eq_true rfl⟩) ⟨fun a U g mk q => by obtain ⟨q0, q1, qP, qK, qD⟩ := q; exact ⟨q0, q1, qP, va_K.moved (u := U) (U := U.calling g mk a) (Vm.Alike.refl U.vm) qK, qD⟩, va_recv (q0 := 6) (ci := 12) hK hP rfl rfl, fun U hU hW => ⟨rfl, by rw [hU], by rw [hU]; exact hPc, va_K.moved hW.alike hK, hDc.weaken (fun _ _ _ _ => trivial)⟩⟩ rfl rfl hl.1 rfl (lv_room (Nat.le_of_ble_eq_true rfl)) d_Md_prove_44 ⟨Nat.le_of_ble_eq_true rfl, Nat.le_of_ble_eq_true rfl⟩) hS (fun q _ h => hFc q h) hFc (fun rv9 u t H1 locs ht hvm hw hB hz1 hk1 hS => ?_)
          obtain ⟨g7_406, rfl⟩ : ∃ z, z = u := ⟨_, rfl⟩
          try dsimp only at hw hB
          obtain ⟨hP1, hK1, hD1⟩ := hB
          rw [ht] at hP1
          obtain ⟨rfl, hw⟩ := hw
          obtain ⟨hP, hD⟩ := va_join (wr := [(r 9, .inl ((cT 0), 1400, .inl f9)), (r 12, .inl ((cT 0), 1200, .inl f12)), (r 3, .inl ((cT 0), 160, .inl f3)), (r 4, .inl ((cT 0), 4, .inl f4)), (r 0, .inl ((cT 1), 64, .inr (.inl f0))), (r 11, .inl ((cT 0), 16, .inl f11))]) (w1 := [(mo, .inr (12, mdG r 0 tm (nI (sn + 2)) (nI 0) (nI lz) (nI az) (nI na) (nI nt) (nI nr) mw ml mk dq)), (r 7, .inl ((cT 0), 1000, .inl g7_406))]) hP hD [6, 7] [0, 1, 2, 3, 4, 5] rfl rfl (by decide) (by decide) hk1 hFc hP1 hD1
          have hw407 := hw
          clear hPc hDc hFc hz1 hk1 hP1 hK1 hD1
          generalize H1 = H at hP hS ⊢
          have hP : va_P (dC, dI) vcl [(r 9, .inl ((cT 0), 1400, .inl f9)), (r 12, .inl ((cT 0), 1200, .inl f12)), (r 3, .inl ((cT 0), 160, .inl f3)), (r 4, .inl ((cT 0), 4, .inl f4)), (r 0, .inl ((cT 1), 64, .inr (.inl f0))), (r 11, .inl ((cT 0), 16, .inl f11)), (mo, .inr (12, mdG r 0 tm (nI (sn + 2)) (nI 0) (nI lz) (nI az) (nI na) (nI nt) (nI nr) mw ml mk dq)), (r 7, .inl ((cT 0), 1000, .inl g7_406))] H := hP
          have hD : va_D A [(r 9, .inl ((cT 0), 1400, .inl f9)), (r 12, .inl ((cT 0), 1200, .inl f12)), (r 3, .inl ((cT 0), 160, .inl f3)), (r 4, .inl ((cT 0), 4, .inl f4)), (r 0, .inl ((cT 1), 64, .inr (.inl f0))), (r 11, .inl ((cT 0), 16, .inl f11)), (mo, .inr (12, mdG r 0 tm (nI (sn + 2)) (nI 0) (nI lz) (nI az) (nI na) (nI nt) (nI nr) mw ml mk dq)), (r 7, .inl ((cT 0), 1000, .inl g7_406))] := hD
          have k408 := hw407
          refine lv_if_ne (tgt := 52) hx hb d_Md_prove_47 (by decide) (fun hc409 => ?_) (fun hn9 => absurd hn9 (by decide))
          refine lv_iconst (v := 0) hx hb d_Md_prove_52 (by decide) ?_
          refine lv_istore_n (lv' := [(3, .int 0), (2, .int (nI (sn + 2))), (0, .ref mo), (1, .int (nI xn))]) hx hb d_Md_prove_53 rfl hl (by decide) rfl (fun ls hl => ?_)
          have hl := lv_sub hl [0, 1, 2, 3] (show _ = [(3, .int 0), (2, .int (nI (sn + 2))), (0, .ref mo), (1, .int (nI xn))] from rfl)
          have L411 : ∀ (Q : State → Prop) (exit : ∀ (g7_410 : Nat → Int32) (H : Heap) (locs : List Loc) (ls : Array Slot), (AB g7_410) → va_P (dC, dI) vcl [(r 9, .inl ((cT 0), 1400, .inl f9)), (r 12, .inl ((cT 0), 1200, .inl f12)), (r 3, .inl ((cT 0), 160, .inl f3)), (r 4, .inl ((cT 0), 4, .inl f4)), (r 0, .inl ((cT 1), 64, .inr (.inl f0))), (r 11, .inl ((cT 0), 16, .inl f11)), (mo, .inr (12, mdG r 0 tm (nI (sn + 2 + 16)) (nI 0) (nI lz) (nI az) (nI na) (nI nt) (nI nr) mw ml mk dq)), (r 7, .inl ((cT 0), 1000, .inl g7_410))] H → va_D A [(r 9, .inl ((cT 0), 1400, .inl f9)), (r 12, .inl ((cT 0), 1200, .inl f12)), (r 3, .inl ((cT 0), 160, .inl f3)), (r 4, .inl ((cT 0), 4, .inl f4)), (r 0, .inl ((cT 1), 64, .inr (.inl f0))), (r 11, .inl ((cT 0), 16, .inl f11)), (mo, .inr (12, mdG r 0 tm (nI (sn + 2 + 16)) (nI 0) (nI lz) (nI az) (nI na) (nI nt) (nI nr) mw ml mk dq)), (r 7, .inl ((cT 0), 1000, .inl g7_410))] → va_S A s.heap H locs → lv_has ls 4 [(3, .int (nI 16)), (2, .int (nI (sn + 2))), (0, .ref mo), (1, .int (nI xn))] → W p l e ({ frames := 4, cells := 0, slots := 0, locals := 115 } : Room) s m args below meth c H locs 0 0 Q (F0 m 71 ls [])) (j8 i : Nat) (g7_410 : Nat → Int32) (H : Heap) (locs : List Loc) (ls : Array Slot), i + j8 = 16 → (AB g7_410) → va_P (dC, dI) vcl [(r 9, .inl ((cT 0), 1400, .inl f9)), (r 12, .inl ((cT 0), 1200, .inl f12)), (r 3, .inl ((cT 0), 160, .inl f3)), (r 4, .inl ((cT 0), 4, .inl f4)), (r 0, .inl ((cT 1), 64, .inr (.inl f0))), (r 11, .inl ((cT 0), 16, .inl f11)), (mo, .inr (12, mdG r 0 tm (nI (sn + 2 + i)) (nI 0) (nI lz) (nI az) (nI na) (nI nt) (nI nr) mw ml mk dq)), (r 7, .inl ((cT 0), 1000, .inl g7_410))] H → va_D A [(r 9, .inl ((cT 0), 1400, .inl f9)), (r 12, .inl ((cT 0), 1200, .inl f12)), (r 3, .inl ((cT 0), 160, .inl f3)), (r 4, .inl ((cT 0), 4, .inl f4)), (r 0, .inl ((cT 1), 64, .inr (.inl f0))), (r 11, .inl ((cT 0), 16, .inl f11)), (mo, .inr (12, mdG r 0 tm (nI (sn + 2 + i)) (nI 0) (nI lz) (nI az) (nI na) (nI nt) (nI nr) mw ml mk dq)), (r 7, .inl ((cT 0), 1000, .inl g7_410))] → va_S A s.heap H locs → lv_has ls 4 [(3, .int (nI i)), (2, .int (nI (sn + 2))), (0, .ref mo), (1, .int (nI xn))] → W p l e ({ frames := 4, cells := 0, slots := 0, locals := 115 } : Room) s m args below meth c H locs 0 0 Q (F0 m 54 ls []) := by
            intro Q exit j8
            induction j8 with
            | zero => 
              intro i g7_410 H locs ls hij hab hP hD hS hl
              have hij : 16 = i := by omega
              refine lv_iload_n hx hb d_Md_prove_54 rfl (lv_at hl 0 rfl) ?_
              refine lv_bipush (v := 16) hx hb d_Md_prove_55 (by decide) ?_
              refine lv_topi (fun x413 e412 => ?_)
              obtain rfl : x413 = nI 16 := by rw [e412]; rfl
              refine lv_icmp_ge (tgt := 71) hx hb d_Md_prove_57 (by decide) (fun hc414 => ?_) (fun hn9 => absurd (nI_le (by omega) (by omega)) hn9)
              subst hij
              exact exit g7_410 _ _ _ hab hP hD hS hl
            | succ j8 ih => 
              intro i g7_410 H locs ls hij hab hP hD hS hl
              have hlt : i < 16 := by omega
              have hlti := hlt
              refine lv_iload_n hx hb d_Md_prove_54 rfl (lv_at hl 0 rfl) ?_
              refine lv_bipush (v := 16) hx hb d_Md_prove_55 (by decide) ?_
              refine lv_topi (fun x416 e415 => ?_)
              obtain rfl : x416 = nI 16 := by rw [e415]; rfl
              refine lv_icmp_ge (tgt := 71) hx hb d_Md_prove_57 (by decide) (fun hn9 => absurd hn9 (nI_ge (by omega) (by omega))) (fun hc417 => ?_)
              refine lv_aload_n hx hb d_Md_prove_60 rfl (lv_at hl 2 rfl) ?_
              refine lv_iconst (v := 0) hx hb d_Md_prove_61 (by decide) ?_
              have hPc := hP.sub (ws' := [(mo, .inr (12, mdG r 0 tm (nI (sn + 2 + i)) (nI 0) (nI lz) (nI az) (nI na) (nI nt) (nI nr) mw ml mk dq)), (r 7, .inl ((cT 0), 1000, .inl g7_410))]) [6, 7] rfl
              have hDc := hD.sub (ws' := [(mo, .inr (12, mdG r 0 tm (nI (sn + 2 + i)) (nI 0) (nI lz) (nI az) (nI na) (nI nt) (nI nr) mw ml mk dq)), (r 7, .inl ((cT 0), 1000, .inl g7_410))]) [6, 7] (by decide) rfl
              have hFc := va_free (wc := [(mo, .inr (12, mdG r 0 tm (nI (sn + 2 + i)) (nI 0) (nI lz) (nI az) (nI na) (nI nt) (nI nr) mw ml mk dq)), (r 7, .inl ((cT 0), 1000, .inl g7_410))]) hD hS hA [6, 7] rfl
              refine va_callv (va_runV (C := "DoorServerModel") (As := [.int 0]) (rest := []) ⟨hx, hb, hml, hown, hg⟩ (m_add l dC dI cT H.size mo r 0 tm (sn + 2 + i) 0 lz az na nt nr mw ml mk dq g7_410 0 (by first | assumption | omega) (by first | assumption | omega)) (cwV 1 hg (gI (List.forall_mem_append.mpr ⟨List.forall_mem_cons.mpr ⟨k_1015, List.forall_mem_cons.mpr ⟨k_1017, List.forall_mem_cons.mpr ⟨(big_sel (q := y_Md_add) (n := 45) (by decide +kernel)), List.forall_mem_cons.mpr ⟨k_13, fun _ h => absurd h List.not_mem_nil⟩⟩⟩⟩, List.forall_mem_cons.mpr ⟨k_1018, fun _ h => h⟩⟩)) rfl rfl rfl (by decide +kernel) ⟨Nat.le_of_ble_eq_true rfl, Nat.le_of_ble_eq_true rfl⟩) ⟨fun a U g mk q => by obtain ⟨q0, q1, qP, qK, qD⟩ := q; exact ⟨q0, q1, qP, va_K.moved (u := U) (U := U.calling g mk a) (Vm.Alike.refl U.vm) qK, qD⟩, va_recv (q0 := 6) (ci := 12) hK hP rfl rfl, fun U hU hW => ⟨rfl, by rw [hU], by rw [hU]; exact hPc, va_K.moved hW.alike hK, hDc.weaken (fun _ _ _ _ => trivial)⟩⟩ rfl rfl hl.1 rfl (lv_room (Nat.le_of_ble_eq_true rfl)) d_Md_prove_62 ⟨Nat.le_of_ble_eq_true rfl, Nat.le_of_ble_eq_true rfl⟩) hS (fun q _ h => hFc q h) hFc (fun u t H1 locs ht hvm hw hB hz1 hk1 hS => ?_)
              obtain ⟨g7_418, rfl⟩ : ∃ z, z = u := ⟨_, rfl⟩
              try dsimp only at hw hB
              obtain ⟨hP1, hK1, hD1⟩ := hB
              rw [ht] at hP1
              obtain ⟨hP, hD⟩ := va_join (wr := [(r 9, .inl ((cT 0), 1400, .inl f9)), (r 12, .inl ((cT 0), 1200, .inl f12)), (r 3, .inl ((cT 0), 160, .inl f3)), (r 4, .inl ((cT 0), 4, .inl f4)), (r 0, .inl ((cT 1), 64, .inr (.inl f0))), (r 11, .inl ((cT 0), 16, .inl f11))]) (w1 := [(mo, .inr (12, mdG r 0 tm (nI ((sn + 2 + i) + 1)) (nI 0) (nI lz) (nI az) (nI na) (nI nt) (nI nr) mw ml mk dq)), (r 7, .inl ((cT 0), 1000, .inl g7_418))]) hP hD [6, 7] [0, 1, 2, 3, 4, 5] rfl rfl (by decide) (by decide) hk1 hFc hP1 hD1
              have hw419 := hw
              clear hPc hDc hFc hz1 hk1 hP1 hK1 hD1
              generalize H1 = H at hP hS ⊢
              have hP : va_P (dC, dI) vcl [(r 9, .inl ((cT 0), 1400, .inl f9)), (r 12, .inl ((cT 0), 1200, .inl f12)), (r 3, .inl ((cT 0), 160, .inl f3)), (r 4, .inl ((cT 0), 4, .inl f4)), (r 0, .inl ((cT 1), 64, .inr (.inl f0))), (r 11, .inl ((cT 0), 16, .inl f11)), (mo, .inr (12, mdG r 0 tm (nI ((sn + 2 + i) + 1)) (nI 0) (nI lz) (nI az) (nI na) (nI nt) (nI nr) mw ml mk dq)), (r 7, .inl ((cT 0), 1000, .inl g7_418))] H := hP
              have hD : va_D A [(r 9, .inl ((cT 0), 1400, .inl f9)), (r 12, .inl ((cT 0), 1200, .inl f12)), (r 3, .inl ((cT 0), 160, .inl f3)), (r 4, .inl ((cT 0), 4, .inl f4)), (r 0, .inl ((cT 1), 64, .inr (.inl f0))), (r 11, .inl ((cT 0), 16, .inl f11)), (mo, .inr (12, mdG r 0 tm (nI ((sn + 2 + i) + 1)) (nI 0) (nI lz) (nI az) (nI na) (nI nt) (nI nr) mw ml mk dq)), (r 7, .inl ((cT 0), 1000, .inl g7_418))] := hD
              have k420 := hw419
              refine lv_iinc (k := 0) (v := nI (i + 1)) (lv' := [(3, .int (nI (i + 1))), (2, .int (nI (sn + 2))), (0, .ref mo), (1, .int (nI xn))]) hx hb d_Md_prove_65 hl rfl (nI_1 i) (by decide) rfl (fun ls hl => ?_)
              refine lv_goto (tgt := 54) hx hb d_Md_prove_68 (by decide) ?_
              have hl := lv_sub hl [0, 1, 2, 3] (show _ = [(3, .int (nI (i + 1))), (2, .int (nI (sn + 2))), (0, .ref mo), (1, .int (nI xn))] from rfl)
              exact ih (i + 1) _ _ _ _ (by omega) (by first | assumption | omega) hP hD hS hl
          refine L411 _ (fun g7_410 H locs ls hab hP hD hS hl => ?_) (16 - 0) 0 g7_406 H _ ls (by omega) (by first | assumption | omega) hP hD hS hl
          refine lv_aload_n hx hb d_Md_prove_71 rfl (lv_at hl 2 rfl) ?_
          have hPc := hP.sub (ws' := [(mo, .inr (12, mdG r 0 tm (nI (sn + 2 + 16)) (nI 0) (nI lz) (nI az) (nI na) (nI nt) (nI nr) mw ml mk dq)), (r 7, .inl ((cT 0), 1000, .inl g7_410))]) [6, 7] rfl
          have hDc := hD.sub (ws' := [(mo, .inr (12, mdG r 0 tm (nI (sn + 2 + 16)) (nI 0) (nI lz) (nI az) (nI na) (nI nt) (nI nr) mw ml mk dq)), (r 7, .inl ((cT 0), 1000, .inl g7_410))]) [6, 7] (by decide) rfl
          have hFc := va_free (wc := [(mo, .inr (12, mdG r 0 tm (nI (sn + 2 + 16)) (nI 0) (nI lz) (nI az) (nI na) (nI nt) (nI nr) mw ml mk dq)), (r 7, .inl ((cT 0), 1000, .inl g7_410))]) hD hS hA [6, 7] rfl
          refine va_callv (va_runV (C := "DoorServerModel") (As := []) (rest := []) ⟨hx, hb, hml, hown, hg⟩ (m_length l dC dI cT H.size mo r 0 tm (sn + 2 + 16) 0 lz az na nt nr mw ml mk dq g7_410 (by first | assumption | omega) (by first | assumption | omega)) (cwV 0 hg (gI (List.forall_mem_append.mpr ⟨List.forall_mem_cons.mpr ⟨k_1196, List.forall_mem_cons.mpr ⟨k_1198, List.forall_mem_cons.mpr ⟨(big_sel (q := y_Md_length) (n := 45) (by decide +kernel)), List.forall_mem_cons.mpr ⟨k_13, fun _ h => absurd h List.not_mem_nil⟩⟩⟩⟩, List.forall_mem_cons.mpr ⟨k_1199, fun _ h => h⟩⟩)) rfl rfl rfl (by decide +kernel) ⟨Nat.le_of_ble_eq_true rfl, Nat.le_of_ble_eq_true rfl⟩) ⟨fun a U g mk q => by obtain ⟨q0, q1, qP, qK, qD⟩ := q; exact ⟨q0, q1, qP, va_K.moved (u := U) (U := U.calling g mk a) (Vm.Alike.refl U.vm) qK, qD⟩, va_recv (q0 := 6) (ci := 12) hK hP rfl rfl, fun U hU hW => ⟨rfl, by rw [hU], by rw [hU]; exact hPc, va_K.moved hW.alike hK, hDc.weaken (fun _ _ _ _ => trivial)⟩⟩ rfl rfl hl.1 rfl (lv_room (Nat.le_of_ble_eq_true rfl)) d_Md_prove_72 ⟨Nat.le_of_ble_eq_true rfl, Nat.le_of_ble_eq_true rfl⟩) hS (fun q _ h => hFc q h) hFc (fun u t H1 locs ht hvm hw hB hz1 hk1 hS => ?_)
          obtain ⟨g7_421, rfl⟩ : ∃ z, z = u := ⟨_, rfl⟩
          try dsimp only at hw hB
          obtain ⟨hP1, hK1, hD1⟩ := hB
          rw [ht] at hP1
          obtain ⟨hP, hD⟩ := va_join (wr := [(r 9, .inl ((cT 0), 1400, .inl f9)), (r 12, .inl ((cT 0), 1200, .inl f12)), (r 3, .inl ((cT 0), 160, .inl f3)), (r 4, .inl ((cT 0), 4, .inl f4)), (r 0, .inl ((cT 1), 64, .inr (.inl f0))), (r 11, .inl ((cT 0), 16, .inl f11))]) (w1 := [(mo, .inr (12, mdG r 0 tm (nI (sn + 2 + 16)) (nI 0) (nI lz) (nI az) (nI na) (nI nt) (nI nr) mw ml mk dq)), (r 7, .inl ((cT 0), 1000, .inl g7_421))]) hP hD [6, 7] [0, 1, 2, 3, 4, 5] rfl rfl (by decide) (by decide) hk1 hFc hP1 hD1
          have hw422 := hw
          clear hPc hDc hFc hz1 hk1 hP1 hK1 hD1
          generalize H1 = H at hP hS ⊢
          have hP : va_P (dC, dI) vcl [(r 9, .inl ((cT 0), 1400, .inl f9)), (r 12, .inl ((cT 0), 1200, .inl f12)), (r 3, .inl ((cT 0), 160, .inl f3)), (r 4, .inl ((cT 0), 4, .inl f4)), (r 0, .inl ((cT 1), 64, .inr (.inl f0))), (r 11, .inl ((cT 0), 16, .inl f11)), (mo, .inr (12, mdG r 0 tm (nI (sn + 2 + 16)) (nI 0) (nI lz) (nI az) (nI na) (nI nt) (nI nr) mw ml mk dq)), (r 7, .inl ((cT 0), 1000, .inl g7_421))] H := hP
          have hD : va_D A [(r 9, .inl ((cT 0), 1400, .inl f9)), (r 12, .inl ((cT 0), 1200, .inl f12)), (r 3, .inl ((cT 0), 160, .inl f3)), (r 4, .inl ((cT 0), 4, .inl f4)), (r 0, .inl ((cT 1), 64, .inr (.inl f0))), (r 11, .inl ((cT 0), 16, .inl f11)), (mo, .inr (12, mdG r 0 tm (nI (sn + 2 + 16)) (nI 0) (nI lz) (nI az) (nI na) (nI nt) (nI nr) mw ml mk dq)), (r 7, .inl ((cT 0), 1000, .inl g7_421))] := hD
          have k423 := hw422
          refine lv_aload_n hx hb d_Md_prove_75 rfl (lv_at hl 2 rfl) ?_
          refine lv_iload_n hx hb d_Md_prove_76 rfl (lv_at hl 3 rfl) ?_
          refine lv_iload_n hx hb d_Md_prove_77 rfl (lv_at hl 1 rfl) ?_
          have hPc := hP.sub (ws' := [(mo, .inr (12, mdG r 0 tm (nI (sn + 2 + 16)) (nI 0) (nI lz) (nI az) (nI na) (nI nt) (nI nr) mw ml mk dq)), (r 9, .inl ((cT 0), 1400, .inl f9)), (r 12, .inl ((cT 0), 1200, .inl f12)), (r 3, .inl ((cT 0), 160, .inl f3)), (r 4, .inl ((cT 0), 4, .inl f4)), (r 0, .inl ((cT 1), 64, .inr (.inl f0))), (r 11, .inl ((cT 0), 16, .inl f11)), (r 7, .inl ((cT 0), 1000, .inl g7_421))]) [6, 0, 1, 2, 3, 4, 5, 7] rfl
          have hDc := hD.sub (ws' := [(mo, .inr (12, mdG r 0 tm (nI (sn + 2 + 16)) (nI 0) (nI lz) (nI az) (nI na) (nI nt) (nI nr) mw ml mk dq)), (r 9, .inl ((cT 0), 1400, .inl f9)), (r 12, .inl ((cT 0), 1200, .inl f12)), (r 3, .inl ((cT 0), 160, .inl f3)), (r 4, .inl ((cT 0), 4, .inl f4)), (r 0, .inl ((cT 1), 64, .inr (.inl f0))), (r 11, .inl ((cT 0), 16, .inl f11)), (r 7, .inl ((cT 0), 1000, .inl g7_421))]) [6, 0, 1, 2, 3, 4, 5, 7] (by decide) rfl
          have hFc := va_free (wc := [(mo, .inr (12, mdG r 0 tm (nI (sn + 2 + 16)) (nI 0) (nI lz) (nI az) (nI na) (nI nt) (nI nr) mw ml mk dq)), (r 9, .inl ((cT 0), 1400, .inl f9)), (r 12, .inl ((cT 0), 1200, .inl f12)), (r 3, .inl ((cT 0), 160, .inl f3)), (r 4, .inl ((cT 0), 4, .inl f4)), (r 0, .inl ((cT 1), 64, .inr (.inl f0))), (r 11, .inl ((cT 0), 16, .inl f11)), (r 7, .inl ((cT 0), 1000, .inl g7_421))]) hD hS hA [6, 0, 1, 2, 3, 4, 5, 7] rfl
          refine va_callv (va_runV (C := "DoorServerModel") (As := [.int (nI xn), .int (nI (sn + 2))]) (rest := []) ⟨hx, hb, hml, hown, hg⟩ (m_proof l dC dI cT H.size mo r 0 tm (sn + 2 + 16) 0 lz az na nt nr mw ml mk dq f9 f12 f3 f4 f0 f11 g7_421 xn sl (sn + 2) (by first | assumption | omega) (by first | assumption | omega) (by first | assumption | omega) (by first | assumption | omega) (by first | assumption | omega) (by first | assumption | omega)) (cwV 2 hg (gI (List.forall_mem_append.mpr ⟨List.forall_mem_cons.mpr ⟨k_1263, List.forall_mem_cons.mpr ⟨k_1265, List.forall_mem_cons.mpr ⟨(big_sel (q := y_Md_proof) (n := 45) (by decide +kernel)), List.forall_mem_cons.mpr ⟨k_13, fun _ h => absurd h List.not_mem_nil⟩⟩⟩⟩, List.forall_mem_cons.mpr ⟨k_1266, fun _ h => h⟩⟩)) rfl rfl rfl (by decide +kernel) ⟨Nat.le_of_ble_eq_true rfl, Nat.le_of_ble_eq_true rfl⟩) ⟨fun a U g mk q => by obtain ⟨q0, q1, qP, qK, qD⟩ := q; exact ⟨q0, q1, qP, va_K.moved (u := U) (U := U.calling g mk a) (Vm.Alike.refl U.vm) qK, qD⟩, va_recv (q0 := 6) (ci := 12) hK hP rfl rfl, fun U hU hW => ⟨rfl, by rw [hU], by rw [hU]; exact hPc, va_K.moved hW.alike hK, hDc.weaken (fun _ _ _ _ => trivial)⟩⟩ rfl rfl hl.1 rfl (lv_room (Nat.le_of_ble_eq_true rfl)) d_Md_prove_78 ⟨Nat.le_of_ble_eq_true rfl, Nat.le_of_ble_eq_true rfl⟩) hS (fun q _ h => hFc q h) hFc (fun u t H1 locs ht hvm hw hB hz1 hk1 hS => ?_)
          obtain ⟨g9_424, g12_425, g11_426⟩ := u
          try dsimp only at hw hB
          obtain ⟨hP1, hK1, hD1⟩ := hB
          rw [ht] at hP1
          obtain ⟨hP, hD⟩ := va_join (wr := []) (w1 := [(mo, .inr (12, mdG r 0 tm (nI (sn + 2 + 16)) (nI 0) (nI lz) (nI az) (nI na) (nI nt) (nI nr) mw ml mk dq)), (r 9, .inl ((cT 0), 1400, .inl g9_424)), (r 12, .inl ((cT 0), 1200, .inl g12_425)), (r 3, .inl ((cT 0), 160, .inl f3)), (r 4, .inl ((cT 0), 4, .inl f4)), (r 0, .inl ((cT 1), 64, .inr (.inl f0))), (r 11, .inl ((cT 0), 16, .inl g11_426)), (r 7, .inl ((cT 0), 1000, .inl g7_421))]) hP hD [6, 0, 1, 2, 3, 4, 5, 7] [] rfl rfl (by decide) (by decide) hk1 hFc hP1 hD1
          have hw427 := hw
          clear hPc hDc hFc hz1 hk1 hP1 hK1 hD1
          generalize H1 = H at hP hS ⊢
          have hP : va_P (dC, dI) vcl [(mo, .inr (12, mdG r 0 tm (nI (sn + 2 + 16)) (nI 0) (nI lz) (nI az) (nI na) (nI nt) (nI nr) mw ml mk dq)), (r 9, .inl ((cT 0), 1400, .inl g9_424)), (r 12, .inl ((cT 0), 1200, .inl g12_425)), (r 3, .inl ((cT 0), 160, .inl f3)), (r 4, .inl ((cT 0), 4, .inl f4)), (r 0, .inl ((cT 1), 64, .inr (.inl f0))), (r 11, .inl ((cT 0), 16, .inl g11_426)), (r 7, .inl ((cT 0), 1000, .inl g7_421))] H := hP
          have hD : va_D A [(mo, .inr (12, mdG r 0 tm (nI (sn + 2 + 16)) (nI 0) (nI lz) (nI az) (nI na) (nI nt) (nI nr) mw ml mk dq)), (r 9, .inl ((cT 0), 1400, .inl g9_424)), (r 12, .inl ((cT 0), 1200, .inl g12_425)), (r 3, .inl ((cT 0), 160, .inl f3)), (r 4, .inl ((cT 0), 4, .inl f4)), (r 0, .inl ((cT 1), 64, .inr (.inl f0))), (r 11, .inl ((cT 0), 16, .inl g11_426)), (r 7, .inl ((cT 0), 1000, .inl g7_421))] := hD
          have k428 := hw427
          refine lv_iconst (v := 0) hx hb d_Md_prove_81 (by decide) ?_
          refine lv_istore_n (lv' := [(3, .int 0), (2, .int (nI (sn + 2))), (0, .ref mo), (1, .int (nI xn))]) hx hb d_Md_prove_82 rfl hl (by decide) rfl (fun ls hl => ?_)
          have hl := lv_sub hl [0, 1, 2, 3] (show _ = [(3, .int 0), (2, .int (nI (sn + 2))), (0, .ref mo), (1, .int (nI xn))] from rfl)
          have L430 : ∀ (Q : State → Prop) (exit : ∀ (g7_429 : Nat → Int32) (H : Heap) (locs : List Loc) (ls : Array Slot), (AB g7_429) → va_P (dC, dI) vcl [(mo, .inr (12, mdG r 0 tm (nI (sn + 2 + 16)) (nI 0) (nI lz) (nI az) (nI na) (nI nt) (nI nr) mw ml mk dq)), (r 9, .inl ((cT 0), 1400, .inl g9_424)), (r 12, .inl ((cT 0), 1200, .inl g12_425)), (r 3, .inl ((cT 0), 160, .inl f3)), (r 4, .inl ((cT 0), 4, .inl f4)), (r 0, .inl ((cT 1), 64, .inr (.inl f0))), (r 11, .inl ((cT 0), 16, .inl g11_426)), (r 7, .inl ((cT 0), 1000, .inl g7_429))] H → va_D A [(mo, .inr (12, mdG r 0 tm (nI (sn + 2 + 16)) (nI 0) (nI lz) (nI az) (nI na) (nI nt) (nI nr) mw ml mk dq)), (r 9, .inl ((cT 0), 1400, .inl g9_424)), (r 12, .inl ((cT 0), 1200, .inl g12_425)), (r 3, .inl ((cT 0), 160, .inl f3)), (r 4, .inl ((cT 0), 4, .inl f4)), (r 0, .inl ((cT 1), 64, .inr (.inl f0))), (r 11, .inl ((cT 0), 16, .inl g11_426)), (r 7, .inl ((cT 0), 1000, .inl g7_429))] → va_S A s.heap H locs → lv_has ls 4 [(3, .int (nI 16)), (2, .int (nI (sn + 2))), (0, .ref mo), (1, .int (nI xn))] → W p l e ({ frames := 4, cells := 0, slots := 0, locals := 115 } : Room) s m args below meth c H locs 0 0 Q (F0 m 109 ls [])) (j8 i : Nat) (g7_429 : Nat → Int32) (H : Heap) (locs : List Loc) (ls : Array Slot), i + j8 = 16 → (AB g7_429) → va_P (dC, dI) vcl [(mo, .inr (12, mdG r 0 tm (nI (sn + 2 + 16)) (nI 0) (nI lz) (nI az) (nI na) (nI nt) (nI nr) mw ml mk dq)), (r 9, .inl ((cT 0), 1400, .inl g9_424)), (r 12, .inl ((cT 0), 1200, .inl g12_425)), (r 3, .inl ((cT 0), 160, .inl f3)), (r 4, .inl ((cT 0), 4, .inl f4)), (r 0, .inl ((cT 1), 64, .inr (.inl f0))), (r 11, .inl ((cT 0), 16, .inl g11_426)), (r 7, .inl ((cT 0), 1000, .inl g7_429))] H → va_D A [(mo, .inr (12, mdG r 0 tm (nI (sn + 2 + 16)) (nI 0) (nI lz) (nI az) (nI na) (nI nt) (nI nr) mw ml mk dq)), (r 9, .inl ((cT 0), 1400, .inl g9_424)), (r 12, .inl ((cT 0), 1200, .inl g12_425)), (r 3, .inl ((cT 0), 160, .inl f3)), (r 4, .inl ((cT 0), 4, .inl f4)), (r 0, .inl ((cT 1), 64, .inr (.inl f0))), (r 11, .inl ((cT 0), 16, .inl g11_426)), (r 7, .inl ((cT 0), 1000, .inl g7_429))] → va_S A s.heap H locs → lv_has ls 4 [(3, .int (nI i)), (2, .int (nI (sn + 2))), (0, .ref mo), (1, .int (nI xn))] → W p l e ({ frames := 4, cells := 0, slots := 0, locals := 115 } : Room) s m args below meth c H locs 0 0 Q (F0 m 83 ls []) := by
            intro Q exit j8
            induction j8 with
            | zero => 
              intro i g7_429 H locs ls hij hab hP hD hS hl
              have hij : 16 = i := by omega
              refine lv_iload_n hx hb d_Md_prove_83 rfl (lv_at hl 0 rfl) ?_
              refine lv_bipush (v := 16) hx hb d_Md_prove_84 (by decide) ?_
              refine lv_topi (fun x432 e431 => ?_)
              obtain rfl : x432 = nI 16 := by rw [e431]; rfl
              refine lv_icmp_ge (tgt := 109) hx hb d_Md_prove_86 (by decide) (fun hc433 => ?_) (fun hn9 => absurd (nI_le (by omega) (by omega)) hn9)
              subst hij
              exact exit g7_429 _ _ _ hab hP hD hS hl
            | succ j8 ih => 
              intro i g7_429 H locs ls hij hab hP hD hS hl
              have hlt : i < 16 := by omega
              have hlti := hlt
              refine lv_iload_n hx hb d_Md_prove_83 rfl (lv_at hl 0 rfl) ?_
              refine lv_bipush (v := 16) hx hb d_Md_prove_84 (by decide) ?_
              refine lv_topi (fun x435 e434 => ?_)
              obtain rfl : x435 = nI 16 := by rw [e434]; rfl
              refine lv_icmp_ge (tgt := 109) hx hb d_Md_prove_86 (by decide) (fun hn9 => absurd hn9 (nI_ge (by omega) (by omega))) (fun hc436 => ?_)
              refine lv_aload_n hx hb d_Md_prove_89 rfl (lv_at hl 2 rfl) ?_
              refine va_get (D := (dC, dI)) (ci := 12) (v := (.ref (r 7))) (C := R_Md) (T := F_Md) (N := 45) hx hb hg in_Md hown hK hP 0 rfl rfl 7 (by decide) (hg _ k_1027) (fun _ h9 => h9) rfl d_Md_prove_90 ?_
              refine lv_iload_n hx hb d_Md_prove_93 rfl (lv_at hl 1 rfl) ?_
              refine lv_iload_n hx hb d_Md_prove_94 rfl (lv_at hl 0 rfl) ?_
              refine lv_iadd hx hb d_Md_prove_95 ?_
              refine lv_topi (fun x438 e437 => ?_)
              obtain rfl : x438 = nI (sn + 2 + i) := by rw [e437]; exact nI_add (sn + 2) i
              refine lv_aload_n hx hb d_Md_prove_96 rfl (lv_at hl 2 rfl) ?_
              refine va_get (D := (dC, dI)) (ci := 12) (v := (.ref (r 11))) (C := R_Md) (T := F_Md) (N := 45) hx hb hg in_Md hown hK hP 0 rfl rfl 11 (by decide) (hg _ k_1031) (fun _ h9 => h9) rfl d_Md_prove_97 ?_
              refine lv_iload_n hx hb d_Md_prove_100 rfl (lv_at hl 0 rfl) ?_
              obtain ⟨t439, ht439, xt439⟩ := k428 i
              refine va_iald hx hb hK hP 6 0 rfl rfl (i := (nI i)) (vp_in_nI (N := 16) (by omega) (by decide)) d_Md_prove_101 ?_
              refine lv_topi (fun x441 e440 => ?_)
              obtain rfl : x441 = nI t439 := by rw [e440]; rw [nI_clamp (by omega)]; exact xt439
              refine va_iast hx hb hK hP hD hS 7 0 rfl rfl (i := (nI (sn + 2 + i))) (vp_in_nI (n := sn + 2 + i) (N := 1000) (by omega) (by decide)) d_Md_prove_102 (fun H locs hP hD hS => ?_)
              have ef442 : upd g7_429 (nI (sn + 2 + i)).toNatClampNeg (nI t439) = upd g7_429 (sn + 2 + i) (nI t439) := by rw [show (nI (sn + 2 + i)).toNatClampNeg = sn + 2 + i from nI_clamp (by omega)]
              rw [ef442] at hP hD
              have hP : va_P (dC, dI) vcl [(mo, .inr (12, mdG r 0 tm (nI (sn + 2 + 16)) (nI 0) (nI lz) (nI az) (nI na) (nI nt) (nI nr) mw ml mk dq)), (r 9, .inl ((cT 0), 1400, .inl g9_424)), (r 12, .inl ((cT 0), 1200, .inl g12_425)), (r 3, .inl ((cT 0), 160, .inl f3)), (r 4, .inl ((cT 0), 4, .inl f4)), (r 0, .inl ((cT 1), 64, .inr (.inl f0))), (r 11, .inl ((cT 0), 16, .inl g11_426)), (r 7, .inl ((cT 0), 1000, .inl (upd g7_429 (sn + 2 + i) (nI t439))))] H := hP
              have hD : va_D A [(mo, .inr (12, mdG r 0 tm (nI (sn + 2 + 16)) (nI 0) (nI lz) (nI az) (nI na) (nI nt) (nI nr) mw ml mk dq)), (r 9, .inl ((cT 0), 1400, .inl g9_424)), (r 12, .inl ((cT 0), 1200, .inl g12_425)), (r 3, .inl ((cT 0), 160, .inl f3)), (r 4, .inl ((cT 0), 4, .inl f4)), (r 0, .inl ((cT 1), 64, .inr (.inl f0))), (r 11, .inl ((cT 0), 16, .inl g11_426)), (r 7, .inl ((cT 0), 1000, .inl (upd g7_429 (sn + 2 + i) (nI t439))))] := hD
              refine lv_iinc (k := 0) (v := nI (i + 1)) (lv' := [(3, .int (nI (i + 1))), (2, .int (nI (sn + 2))), (0, .ref mo), (1, .int (nI xn))]) hx hb d_Md_prove_103 hl rfl (nI_1 i) (by decide) rfl (fun ls hl => ?_)
              refine lv_goto (tgt := 83) hx hb d_Md_prove_106 (by decide) ?_
              have hl := lv_sub hl [0, 1, 2, 3] (show _ = [(3, .int (nI (i + 1))), (2, .int (nI (sn + 2))), (0, .ref mo), (1, .int (nI xn))] from rfl)
              exact ih (i + 1) _ _ _ _ (by omega) (AB_upd hab (BY_n (by omega))) hP hD hS hl
          refine L430 _ (fun g7_429 H locs ls hab hP hD hS hl => ?_) (16 - 0) 0 g7_421 H _ ls (by omega) (by first | assumption | omega) hP hD hS hl
          refine lv_aload_n hx hb d_Md_prove_109 rfl (lv_at hl 2 rfl) ?_
          refine va_get (D := (dC, dI)) (ci := 12) (v := (.int (nI (sn + 2 + 16)))) (C := R_Md) (T := F_Md) (N := 45) hx hb hg in_Md hown hK hP 0 rfl rfl 8 (by decide) (hg _ k_1028) (fun _ h9 => h9) rfl d_Md_prove_110 ?_
          have hP9 := hP.sub (ws' := [(mo, .inr (12, mdG r 0 tm (nI (sn + 2 + 16)) (nI 0) (nI lz) (nI az) (nI na) (nI nt) (nI nr) mw ml mk dq)), (r 7, .inl ((cT 0), 1000, .inl g7_429)), (r 9, .inl ((cT 0), 1400, .inl g9_424)), (r 12, .inl ((cT 0), 1200, .inl g12_425)), (r 3, .inl ((cT 0), 160, .inl f3)), (r 4, .inl ((cT 0), 4, .inl f4)), (r 0, .inl ((cT 1), 64, .inr (.inl f0))), (r 11, .inl ((cT 0), 16, .inl g11_426))]) [0, 7, 1, 2, 3, 4, 5, 6] rfl
          have hD9 := hD.sub (ws' := [(mo, .inr (12, mdG r 0 tm (nI (sn + 2 + 16)) (nI 0) (nI lz) (nI az) (nI na) (nI nt) (nI nr) mw ml mk dq)), (r 7, .inl ((cT 0), 1000, .inl g7_429)), (r 9, .inl ((cT 0), 1400, .inl g9_424)), (r 12, .inl ((cT 0), 1200, .inl g12_425)), (r 3, .inl ((cT 0), 160, .inl f3)), (r 4, .inl ((cT 0), 4, .inl f4)), (r 0, .inl ((cT 1), 64, .inr (.inl f0))), (r 11, .inl ((cT 0), 16, .inl g11_426))]) [0, 7, 1, 2, 3, 4, 5, 6] (by decide) rfl
          exact W.iret (v := nI (sn + 2 + 16)) hx hb hr (fun t ht hW => ⟨⟨_, ⟨g7_429, g9_424, g12_425, g11_426, 0, sn + 2 + 16⟩, rfl, ⟨by first | assumption | omega, by first | assumption | omega, by first | assumption | omega, by first | assumption | omega⟩, by rw [ht]; exact hP9, va_K.moved hW.alike hK, hD9⟩, hS.F ht⟩) hS.2.2 d_Md_prove_113
        · skip
          have hrn : 1000 < sn + 16 + 2 := by omega
          have hPc := hP.sub (ws' := [(mo, .inr (12, mdG r 0 tm (nI sn) (nI 0) (nI lz) (nI az) (nI na) (nI nt) (nI nr) mw ml mk dq))]) [6] rfl
          have hDc := hD.sub (ws' := [(mo, .inr (12, mdG r 0 tm (nI sn) (nI 0) (nI lz) (nI az) (nI na) (nI nt) (nI nr) mw ml mk dq))]) [6] (by decide) rfl
          have hFc := va_free (wc := [(mo, .inr (12, mdG r 0 tm (nI sn) (nI 0) (nI lz) (nI az) (nI na) (nI nt) (nI nr) mw ml mk dq))]) hD hS hA [6] rfl
          refine va_calli (va_runV (C := "DoorServerModel") (As := [.int 80, .int (nI 16)]) (rest := []) ⟨hx, hb, hml, hown, hg⟩ (m_opens0 l dC dI cT H.size mo r 0 tm sn 0 lz az na nt nr mw ml mk dq 80 16 (by first | assumption | omega) (by first | assumption | omega) (by first | assumption | omega)) (cwV 2 hg (gI (List.forall_mem_append.mpr ⟨List.forall_mem_cons.mpr ⟨k_1188, List.forall_mem_cons.mpr ⟨k_1190, List.forall_mem_cons.mpr ⟨(big_sel (q := y_Md_opens) (n := 45) (by decide +kernel)), List.forall_mem_cons.mpr ⟨k_13, fun _ h => absurd h List.not_mem_nil⟩⟩⟩⟩, List.forall_mem_cons.mpr ⟨k_1191, fun _ h => h⟩⟩)) rfl rfl rfl (by decide +kernel) ⟨Nat.le_of_ble_eq_true rfl, Nat.le_of_ble_eq_true rfl⟩) ⟨fun a U g mk q => by obtain ⟨q0, q1, qP, qK, qD⟩ := q; exact ⟨q0, q1, qP, va_K.moved (u := U) (U := U.calling g mk a) (Vm.Alike.refl U.vm) qK, qD⟩, va_recv (q0 := 6) (ci := 12) hK hP rfl rfl, fun U hU hW => ⟨rfl, by rw [hU], by rw [hU]; exact hPc, va_K.moved hW.alike hK, hDc.weaken (fun _ _ _ _ => trivial)⟩⟩ rfl rfl hl.1 rfl (lv_room (Nat.le_of_ble_eq_true rfl)) d_Md_prove_44 ⟨Nat.le_of_ble_eq_true rfl, Nat.le_of_ble_eq_true rfl⟩) hS (fun q _ h => hFc q h) hFc (fun rv9 u t H1 locs ht hvm hw hB hz1 hk1 hS => ?_)
          try dsimp only at hw hB
          obtain ⟨hP1, hK1, hD1⟩ := hB
          rw [ht] at hP1
          obtain ⟨rfl, hw⟩ := hw
          obtain ⟨hP, hD⟩ := va_join (wr := [(r 9, .inl ((cT 0), 1400, .inl f9)), (r 12, .inl ((cT 0), 1200, .inl f12)), (r 3, .inl ((cT 0), 160, .inl f3)), (r 4, .inl ((cT 0), 4, .inl f4)), (r 0, .inl ((cT 1), 64, .inr (.inl f0))), (r 11, .inl ((cT 0), 16, .inl f11)), (r 7, .inl ((cT 0), 1000, .inl f7))]) (w1 := [(mo, .inr (12, mdG r 2 tm (nI sn) (nI 0) (nI lz) (nI az) (nI na) (nI nt) (nI nr) mw ml mk dq))]) hP hD [6] [0, 1, 2, 3, 4, 5, 7] rfl rfl (by decide) (by decide) hk1 hFc hP1 hD1
          have hw443 := hw
          clear hPc hDc hFc hz1 hk1 hP1 hK1 hD1
          generalize H1 = H at hP hS ⊢
          have hP : va_P (dC, dI) vcl [(r 9, .inl ((cT 0), 1400, .inl f9)), (r 12, .inl ((cT 0), 1200, .inl f12)), (r 3, .inl ((cT 0), 160, .inl f3)), (r 4, .inl ((cT 0), 4, .inl f4)), (r 0, .inl ((cT 1), 64, .inr (.inl f0))), (r 11, .inl ((cT 0), 16, .inl f11)), (r 7, .inl ((cT 0), 1000, .inl f7)), (mo, .inr (12, mdG r 2 tm (nI sn) (nI 0) (nI lz) (nI az) (nI na) (nI nt) (nI nr) mw ml mk dq))] H := hP
          have hD : va_D A [(r 9, .inl ((cT 0), 1400, .inl f9)), (r 12, .inl ((cT 0), 1200, .inl f12)), (r 3, .inl ((cT 0), 160, .inl f3)), (r 4, .inl ((cT 0), 4, .inl f4)), (r 0, .inl ((cT 1), 64, .inr (.inl f0))), (r 11, .inl ((cT 0), 16, .inl f11)), (r 7, .inl ((cT 0), 1000, .inl f7)), (mo, .inr (12, mdG r 2 tm (nI sn) (nI 0) (nI lz) (nI az) (nI na) (nI nt) (nI nr) mw ml mk dq))] := hD
          refine lv_if_ne (tgt := 52) hx hb d_Md_prove_47 (by decide) (fun hn9 => absurd hn9 (by decide)) (fun hc444 => ?_)
          refine lv_iconst (v := 0) hx hb d_Md_prove_50 (by decide) ?_
          have hP9 := hP.sub (ws' := [(mo, .inr (12, mdG r 2 tm (nI sn) (nI 0) (nI lz) (nI az) (nI na) (nI nt) (nI nr) mw ml mk dq)), (r 7, .inl ((cT 0), 1000, .inl f7)), (r 9, .inl ((cT 0), 1400, .inl f9)), (r 12, .inl ((cT 0), 1200, .inl f12)), (r 3, .inl ((cT 0), 160, .inl f3)), (r 4, .inl ((cT 0), 4, .inl f4)), (r 0, .inl ((cT 1), 64, .inr (.inl f0))), (r 11, .inl ((cT 0), 16, .inl f11))]) [7, 6, 0, 1, 2, 3, 4, 5] rfl
          have hD9 := hD.sub (ws' := [(mo, .inr (12, mdG r 2 tm (nI sn) (nI 0) (nI lz) (nI az) (nI na) (nI nt) (nI nr) mw ml mk dq)), (r 7, .inl ((cT 0), 1000, .inl f7)), (r 9, .inl ((cT 0), 1400, .inl f9)), (r 12, .inl ((cT 0), 1200, .inl f12)), (r 3, .inl ((cT 0), 160, .inl f3)), (r 4, .inl ((cT 0), 4, .inl f4)), (r 0, .inl ((cT 1), 64, .inr (.inl f0))), (r 11, .inl ((cT 0), 16, .inl f11))]) [7, 6, 0, 1, 2, 3, 4, 5] (by decide) rfl
          exact W.iret (v := 0) hx hb hr (fun t ht hW => ⟨⟨_, ⟨f7, f9, f12, f11, 2, sn⟩, rfl, ⟨by first | assumption | omega, by first | assumption | omega, by first | assumption | omega, by first | assumption | omega⟩, by rw [ht]; exact hP9, va_K.moved hW.alike hK, hD9⟩, hS.F ht⟩) hS.2.2 d_Md_prove_51
      · skip
        refine lv_topi (fun x446 e445 => ?_)
        obtain rfl : x446 = nI pa := by rw [e445]; exact h8p
        refine lv_istore_n (lv' := [(2, .int (nI pa)), (0, .ref mo), (1, .int (nI xn))]) hx hb d_Md_prove_27 rfl hl (by decide) rfl (fun ls hl => ?_)
        refine lv_iload_n hx hb d_Md_prove_28 rfl (lv_at hl 0 rfl) ?_
        refine lv_if_ge (tgt := 71) hx hb d_Md_prove_29 (by decide) (fun hc447 => ?_) (fun hn9 => absurd (nI_pos' (by omega)) hn9)
        refine lv_aload_n hx hb d_Md_prove_71 rfl (lv_at hl 1 rfl) ?_
        have hPc := hP.sub (ws' := [(mo, .inr (12, mdG r 0 tm (nI sn) (nI 0) (nI lz) (nI az) (nI na) (nI nt) (nI nr) mw ml mk dq)), (r 7, .inl ((cT 0), 1000, .inl f7))]) [6, 7] rfl
        have hDc := hD.sub (ws' := [(mo, .inr (12, mdG r 0 tm (nI sn) (nI 0) (nI lz) (nI az) (nI na) (nI nt) (nI nr) mw ml mk dq)), (r 7, .inl ((cT 0), 1000, .inl f7))]) [6, 7] (by decide) rfl
        have hFc := va_free (wc := [(mo, .inr (12, mdG r 0 tm (nI sn) (nI 0) (nI lz) (nI az) (nI na) (nI nt) (nI nr) mw ml mk dq)), (r 7, .inl ((cT 0), 1000, .inl f7))]) hD hS hA [6, 7] rfl
        refine va_callv (va_runV (C := "DoorServerModel") (As := []) (rest := []) ⟨hx, hb, hml, hown, hg⟩ (m_length l dC dI cT H.size mo r 0 tm sn 0 lz az na nt nr mw ml mk dq f7 (by first | assumption | omega) (by first | assumption | omega)) (cwV 0 hg (gI (List.forall_mem_append.mpr ⟨List.forall_mem_cons.mpr ⟨k_1196, List.forall_mem_cons.mpr ⟨k_1198, List.forall_mem_cons.mpr ⟨(big_sel (q := y_Md_length) (n := 45) (by decide +kernel)), List.forall_mem_cons.mpr ⟨k_13, fun _ h => absurd h List.not_mem_nil⟩⟩⟩⟩, List.forall_mem_cons.mpr ⟨k_1199, fun _ h => h⟩⟩)) rfl rfl rfl (by decide +kernel) ⟨Nat.le_of_ble_eq_true rfl, Nat.le_of_ble_eq_true rfl⟩) ⟨fun a U g mk q => by obtain ⟨q0, q1, qP, qK, qD⟩ := q; exact ⟨q0, q1, qP, va_K.moved (u := U) (U := U.calling g mk a) (Vm.Alike.refl U.vm) qK, qD⟩, va_recv (q0 := 6) (ci := 12) hK hP rfl rfl, fun U hU hW => ⟨rfl, by rw [hU], by rw [hU]; exact hPc, va_K.moved hW.alike hK, hDc.weaken (fun _ _ _ _ => trivial)⟩⟩ rfl rfl hl.1 rfl (lv_room (Nat.le_of_ble_eq_true rfl)) d_Md_prove_72 ⟨Nat.le_of_ble_eq_true rfl, Nat.le_of_ble_eq_true rfl⟩) hS (fun q _ h => hFc q h) hFc (fun u t H1 locs ht hvm hw hB hz1 hk1 hS => ?_)
        obtain ⟨g7_448, rfl⟩ : ∃ z, z = u := ⟨_, rfl⟩
        try dsimp only at hw hB
        obtain ⟨hP1, hK1, hD1⟩ := hB
        rw [ht] at hP1
        obtain ⟨hP, hD⟩ := va_join (wr := [(r 9, .inl ((cT 0), 1400, .inl f9)), (r 12, .inl ((cT 0), 1200, .inl f12)), (r 3, .inl ((cT 0), 160, .inl f3)), (r 4, .inl ((cT 0), 4, .inl f4)), (r 0, .inl ((cT 1), 64, .inr (.inl f0))), (r 11, .inl ((cT 0), 16, .inl f11))]) (w1 := [(mo, .inr (12, mdG r 0 tm (nI sn) (nI 0) (nI lz) (nI az) (nI na) (nI nt) (nI nr) mw ml mk dq)), (r 7, .inl ((cT 0), 1000, .inl g7_448))]) hP hD [6, 7] [0, 1, 2, 3, 4, 5] rfl rfl (by decide) (by decide) hk1 hFc hP1 hD1
        have hw449 := hw
        clear hPc hDc hFc hz1 hk1 hP1 hK1 hD1
        generalize H1 = H at hP hS ⊢
        have hP : va_P (dC, dI) vcl [(r 9, .inl ((cT 0), 1400, .inl f9)), (r 12, .inl ((cT 0), 1200, .inl f12)), (r 3, .inl ((cT 0), 160, .inl f3)), (r 4, .inl ((cT 0), 4, .inl f4)), (r 0, .inl ((cT 1), 64, .inr (.inl f0))), (r 11, .inl ((cT 0), 16, .inl f11)), (mo, .inr (12, mdG r 0 tm (nI sn) (nI 0) (nI lz) (nI az) (nI na) (nI nt) (nI nr) mw ml mk dq)), (r 7, .inl ((cT 0), 1000, .inl g7_448))] H := hP
        have hD : va_D A [(r 9, .inl ((cT 0), 1400, .inl f9)), (r 12, .inl ((cT 0), 1200, .inl f12)), (r 3, .inl ((cT 0), 160, .inl f3)), (r 4, .inl ((cT 0), 4, .inl f4)), (r 0, .inl ((cT 1), 64, .inr (.inl f0))), (r 11, .inl ((cT 0), 16, .inl f11)), (mo, .inr (12, mdG r 0 tm (nI sn) (nI 0) (nI lz) (nI az) (nI na) (nI nt) (nI nr) mw ml mk dq)), (r 7, .inl ((cT 0), 1000, .inl g7_448))] := hD
        have k450 := hw449
        refine lv_aload_n hx hb d_Md_prove_75 rfl (lv_at hl 1 rfl) ?_
        refine lv_iload_n hx hb d_Md_prove_76 rfl (lv_at hl 2 rfl) ?_
        refine lv_iload_n hx hb d_Md_prove_77 rfl (lv_at hl 0 rfl) ?_
        have hPc := hP.sub (ws' := [(mo, .inr (12, mdG r 0 tm (nI sn) (nI 0) (nI lz) (nI az) (nI na) (nI nt) (nI nr) mw ml mk dq)), (r 9, .inl ((cT 0), 1400, .inl f9)), (r 12, .inl ((cT 0), 1200, .inl f12)), (r 3, .inl ((cT 0), 160, .inl f3)), (r 4, .inl ((cT 0), 4, .inl f4)), (r 0, .inl ((cT 1), 64, .inr (.inl f0))), (r 11, .inl ((cT 0), 16, .inl f11)), (r 7, .inl ((cT 0), 1000, .inl g7_448))]) [6, 0, 1, 2, 3, 4, 5, 7] rfl
        have hDc := hD.sub (ws' := [(mo, .inr (12, mdG r 0 tm (nI sn) (nI 0) (nI lz) (nI az) (nI na) (nI nt) (nI nr) mw ml mk dq)), (r 9, .inl ((cT 0), 1400, .inl f9)), (r 12, .inl ((cT 0), 1200, .inl f12)), (r 3, .inl ((cT 0), 160, .inl f3)), (r 4, .inl ((cT 0), 4, .inl f4)), (r 0, .inl ((cT 1), 64, .inr (.inl f0))), (r 11, .inl ((cT 0), 16, .inl f11)), (r 7, .inl ((cT 0), 1000, .inl g7_448))]) [6, 0, 1, 2, 3, 4, 5, 7] (by decide) rfl
        have hFc := va_free (wc := [(mo, .inr (12, mdG r 0 tm (nI sn) (nI 0) (nI lz) (nI az) (nI na) (nI nt) (nI nr) mw ml mk dq)), (r 9, .inl ((cT 0), 1400, .inl f9)), (r 12, .inl ((cT 0), 1200, .inl f12)), (r 3, .inl ((cT 0), 160, .inl f3)), (r 4, .inl ((cT 0), 4, .inl f4)), (r 0, .inl ((cT 1), 64, .inr (.inl f0))), (r 11, .inl ((cT 0), 16, .inl f11)), (r 7, .inl ((cT 0), 1000, .inl g7_448))]) hD hS hA [6, 0, 1, 2, 3, 4, 5, 7] rfl
        refine va_callv (va_runV (C := "DoorServerModel") (As := [.int (nI xn), .int (nI pa)]) (rest := []) ⟨hx, hb, hml, hown, hg⟩ (m_proof l dC dI cT H.size mo r 0 tm sn 0 lz az na nt nr mw ml mk dq f9 f12 f3 f4 f0 f11 g7_448 xn sl pa (by first | assumption | omega) (by first | assumption | omega) (by first | assumption | omega) (by first | assumption | omega) (by first | assumption | omega) (by first | assumption | omega)) (cwV 2 hg (gI (List.forall_mem_append.mpr ⟨List.forall_mem_cons.mpr ⟨k_1263, List.forall_mem_cons.mpr ⟨k_1265, List.forall_mem_cons.mpr ⟨(big_sel (q := y_Md_proof) (n := 45) (by decide +kernel)), List.forall_mem_cons.mpr ⟨k_13, fun _ h => absurd h List.not_mem_nil⟩⟩⟩⟩, List.forall_mem_cons.mpr ⟨k_1266, fun _ h => h⟩⟩)) rfl rfl rfl (by decide +kernel) ⟨Nat.le_of_ble_eq_true rfl, Nat.le_of_ble_eq_true rfl⟩) ⟨fun a U g mk q => by obtain ⟨q0, q1, qP, qK, qD⟩ := q; exact ⟨q0, q1, qP, va_K.moved (u := U) (U := U.calling g mk a) (Vm.Alike.refl U.vm) qK, qD⟩, va_recv (q0 := 6) (ci := 12) hK hP rfl rfl, fun U hU hW => ⟨rfl, by rw [hU], by rw [hU]; exact hPc, va_K.moved hW.alike hK, hDc.weaken (fun _ _ _ _ => trivial)⟩⟩ rfl rfl hl.1 rfl (lv_room (Nat.le_of_ble_eq_true rfl)) d_Md_prove_78 ⟨Nat.le_of_ble_eq_true rfl, Nat.le_of_ble_eq_true rfl⟩) hS (fun q _ h => hFc q h) hFc (fun u t H1 locs ht hvm hw hB hz1 hk1 hS => ?_)
        obtain ⟨g9_451, g12_452, g11_453⟩ := u
        try dsimp only at hw hB
        obtain ⟨hP1, hK1, hD1⟩ := hB
        rw [ht] at hP1
        obtain ⟨hP, hD⟩ := va_join (wr := []) (w1 := [(mo, .inr (12, mdG r 0 tm (nI sn) (nI 0) (nI lz) (nI az) (nI na) (nI nt) (nI nr) mw ml mk dq)), (r 9, .inl ((cT 0), 1400, .inl g9_451)), (r 12, .inl ((cT 0), 1200, .inl g12_452)), (r 3, .inl ((cT 0), 160, .inl f3)), (r 4, .inl ((cT 0), 4, .inl f4)), (r 0, .inl ((cT 1), 64, .inr (.inl f0))), (r 11, .inl ((cT 0), 16, .inl g11_453)), (r 7, .inl ((cT 0), 1000, .inl g7_448))]) hP hD [6, 0, 1, 2, 3, 4, 5, 7] [] rfl rfl (by decide) (by decide) hk1 hFc hP1 hD1
        have hw454 := hw
        clear hPc hDc hFc hz1 hk1 hP1 hK1 hD1
        generalize H1 = H at hP hS ⊢
        have hP : va_P (dC, dI) vcl [(mo, .inr (12, mdG r 0 tm (nI sn) (nI 0) (nI lz) (nI az) (nI na) (nI nt) (nI nr) mw ml mk dq)), (r 9, .inl ((cT 0), 1400, .inl g9_451)), (r 12, .inl ((cT 0), 1200, .inl g12_452)), (r 3, .inl ((cT 0), 160, .inl f3)), (r 4, .inl ((cT 0), 4, .inl f4)), (r 0, .inl ((cT 1), 64, .inr (.inl f0))), (r 11, .inl ((cT 0), 16, .inl g11_453)), (r 7, .inl ((cT 0), 1000, .inl g7_448))] H := hP
        have hD : va_D A [(mo, .inr (12, mdG r 0 tm (nI sn) (nI 0) (nI lz) (nI az) (nI na) (nI nt) (nI nr) mw ml mk dq)), (r 9, .inl ((cT 0), 1400, .inl g9_451)), (r 12, .inl ((cT 0), 1200, .inl g12_452)), (r 3, .inl ((cT 0), 160, .inl f3)), (r 4, .inl ((cT 0), 4, .inl f4)), (r 0, .inl ((cT 1), 64, .inr (.inl f0))), (r 11, .inl ((cT 0), 16, .inl g11_453)), (r 7, .inl ((cT 0), 1000, .inl g7_448))] := hD
        have k455 := hw454
        refine lv_iconst (v := 0) hx hb d_Md_prove_81 (by decide) ?_
        refine lv_istore_n (lv' := [(3, .int 0), (2, .int (nI pa)), (0, .ref mo), (1, .int (nI xn))]) hx hb d_Md_prove_82 rfl hl (by decide) rfl (fun ls hl => ?_)
        have hl := lv_sub hl [0, 1, 2, 3] (show _ = [(3, .int 0), (2, .int (nI pa)), (0, .ref mo), (1, .int (nI xn))] from rfl)
        have L457 : ∀ (Q : State → Prop) (exit : ∀ (g7_456 : Nat → Int32) (H : Heap) (locs : List Loc) (ls : Array Slot), (AB g7_456) → va_P (dC, dI) vcl [(mo, .inr (12, mdG r 0 tm (nI sn) (nI 0) (nI lz) (nI az) (nI na) (nI nt) (nI nr) mw ml mk dq)), (r 9, .inl ((cT 0), 1400, .inl g9_451)), (r 12, .inl ((cT 0), 1200, .inl g12_452)), (r 3, .inl ((cT 0), 160, .inl f3)), (r 4, .inl ((cT 0), 4, .inl f4)), (r 0, .inl ((cT 1), 64, .inr (.inl f0))), (r 11, .inl ((cT 0), 16, .inl g11_453)), (r 7, .inl ((cT 0), 1000, .inl g7_456))] H → va_D A [(mo, .inr (12, mdG r 0 tm (nI sn) (nI 0) (nI lz) (nI az) (nI na) (nI nt) (nI nr) mw ml mk dq)), (r 9, .inl ((cT 0), 1400, .inl g9_451)), (r 12, .inl ((cT 0), 1200, .inl g12_452)), (r 3, .inl ((cT 0), 160, .inl f3)), (r 4, .inl ((cT 0), 4, .inl f4)), (r 0, .inl ((cT 1), 64, .inr (.inl f0))), (r 11, .inl ((cT 0), 16, .inl g11_453)), (r 7, .inl ((cT 0), 1000, .inl g7_456))] → va_S A s.heap H locs → lv_has ls 4 [(3, .int (nI 16)), (2, .int (nI pa)), (0, .ref mo), (1, .int (nI xn))] → W p l e ({ frames := 4, cells := 0, slots := 0, locals := 115 } : Room) s m args below meth c H locs 0 0 Q (F0 m 109 ls [])) (j8 i : Nat) (g7_456 : Nat → Int32) (H : Heap) (locs : List Loc) (ls : Array Slot), i + j8 = 16 → (AB g7_456) → va_P (dC, dI) vcl [(mo, .inr (12, mdG r 0 tm (nI sn) (nI 0) (nI lz) (nI az) (nI na) (nI nt) (nI nr) mw ml mk dq)), (r 9, .inl ((cT 0), 1400, .inl g9_451)), (r 12, .inl ((cT 0), 1200, .inl g12_452)), (r 3, .inl ((cT 0), 160, .inl f3)), (r 4, .inl ((cT 0), 4, .inl f4)), (r 0, .inl ((cT 1), 64, .inr (.inl f0))), (r 11, .inl ((cT 0), 16, .inl g11_453)), (r 7, .inl ((cT 0), 1000, .inl g7_456))] H → va_D A [(mo, .inr (12, mdG r 0 tm (nI sn) (nI 0) (nI lz) (nI az) (nI na) (nI nt) (nI nr) mw ml mk dq)), (r 9, .inl ((cT 0), 1400, .inl g9_451)), (r 12, .inl ((cT 0), 1200, .inl g12_452)), (r 3, .inl ((cT 0), 160, .inl f3)), (r 4, .inl ((cT 0), 4, .inl f4)), (r 0, .inl ((cT 1), 64, .inr (.inl f0))), (r 11, .inl ((cT 0), 16, .inl g11_453)), (r 7, .inl ((cT 0), 1000, .inl g7_456))] → va_S A s.heap H locs → lv_has ls 4 [(3, .int (nI i)), (2, .int (nI pa)), (0, .ref mo), (1, .int (nI xn))] → W p l e ({ frames := 4, cells := 0, slots := 0, locals := 115 } : Room) s m args below meth c H locs 0 0 Q (F0 m 83 ls []) := by
          intro Q exit j8
          induction j8 with
          | zero => 
            intro i g7_456 H locs ls hij hab hP hD hS hl
            have hij : 16 = i := by omega
            refine lv_iload_n hx hb d_Md_prove_83 rfl (lv_at hl 0 rfl) ?_
            refine lv_bipush (v := 16) hx hb d_Md_prove_84 (by decide) ?_
            refine lv_topi (fun x459 e458 => ?_)
            obtain rfl : x459 = nI 16 := by rw [e458]; rfl
            refine lv_icmp_ge (tgt := 109) hx hb d_Md_prove_86 (by decide) (fun hc460 => ?_) (fun hn9 => absurd (nI_le (by omega) (by omega)) hn9)
            subst hij
            exact exit g7_456 _ _ _ hab hP hD hS hl
          | succ j8 ih => 
            intro i g7_456 H locs ls hij hab hP hD hS hl
            have hlt : i < 16 := by omega
            have hlti := hlt
            refine lv_iload_n hx hb d_Md_prove_83 rfl (lv_at hl 0 rfl) ?_
            refine lv_bipush (v := 16) hx hb d_Md_prove_84 (by decide) ?_
            refine lv_topi (fun x462 e461 => ?_)
            obtain rfl : x462 = nI 16 := by rw [e461]; rfl
            refine lv_icmp_ge (tgt := 109) hx hb d_Md_prove_86 (by decide) (fun hn9 => absurd hn9 (nI_ge (by omega) (by omega))) (fun hc463 => ?_)
            refine lv_aload_n hx hb d_Md_prove_89 rfl (lv_at hl 2 rfl) ?_
            refine va_get (D := (dC, dI)) (ci := 12) (v := (.ref (r 7))) (C := R_Md) (T := F_Md) (N := 45) hx hb hg in_Md hown hK hP 0 rfl rfl 7 (by decide) (hg _ k_1027) (fun _ h9 => h9) rfl d_Md_prove_90 ?_
            refine lv_iload_n hx hb d_Md_prove_93 rfl (lv_at hl 1 rfl) ?_
            refine lv_iload_n hx hb d_Md_prove_94 rfl (lv_at hl 0 rfl) ?_
            refine lv_iadd hx hb d_Md_prove_95 ?_
            refine lv_topi (fun x465 e464 => ?_)
            obtain rfl : x465 = nI (pa + i) := by rw [e464]; exact nI_add pa i
            refine lv_aload_n hx hb d_Md_prove_96 rfl (lv_at hl 2 rfl) ?_
            refine va_get (D := (dC, dI)) (ci := 12) (v := (.ref (r 11))) (C := R_Md) (T := F_Md) (N := 45) hx hb hg in_Md hown hK hP 0 rfl rfl 11 (by decide) (hg _ k_1031) (fun _ h9 => h9) rfl d_Md_prove_97 ?_
            refine lv_iload_n hx hb d_Md_prove_100 rfl (lv_at hl 0 rfl) ?_
            obtain ⟨t466, ht466, xt466⟩ := k455 i
            refine va_iald hx hb hK hP 6 0 rfl rfl (i := (nI i)) (vp_in_nI (N := 16) (by omega) (by decide)) d_Md_prove_101 ?_
            refine lv_topi (fun x468 e467 => ?_)
            obtain rfl : x468 = nI t466 := by rw [e467]; rw [nI_clamp (by omega)]; exact xt466
            refine va_iast hx hb hK hP hD hS 7 0 rfl rfl (i := (nI (pa + i))) (vp_in_nI (n := pa + i) (N := 1000) (by omega) (by decide)) d_Md_prove_102 (fun H locs hP hD hS => ?_)
            have ef469 : upd g7_456 (nI (pa + i)).toNatClampNeg (nI t466) = upd g7_456 (pa + i) (nI t466) := by rw [show (nI (pa + i)).toNatClampNeg = pa + i from nI_clamp (by omega)]
            rw [ef469] at hP hD
            have hP : va_P (dC, dI) vcl [(mo, .inr (12, mdG r 0 tm (nI sn) (nI 0) (nI lz) (nI az) (nI na) (nI nt) (nI nr) mw ml mk dq)), (r 9, .inl ((cT 0), 1400, .inl g9_451)), (r 12, .inl ((cT 0), 1200, .inl g12_452)), (r 3, .inl ((cT 0), 160, .inl f3)), (r 4, .inl ((cT 0), 4, .inl f4)), (r 0, .inl ((cT 1), 64, .inr (.inl f0))), (r 11, .inl ((cT 0), 16, .inl g11_453)), (r 7, .inl ((cT 0), 1000, .inl (upd g7_456 (pa + i) (nI t466))))] H := hP
            have hD : va_D A [(mo, .inr (12, mdG r 0 tm (nI sn) (nI 0) (nI lz) (nI az) (nI na) (nI nt) (nI nr) mw ml mk dq)), (r 9, .inl ((cT 0), 1400, .inl g9_451)), (r 12, .inl ((cT 0), 1200, .inl g12_452)), (r 3, .inl ((cT 0), 160, .inl f3)), (r 4, .inl ((cT 0), 4, .inl f4)), (r 0, .inl ((cT 1), 64, .inr (.inl f0))), (r 11, .inl ((cT 0), 16, .inl g11_453)), (r 7, .inl ((cT 0), 1000, .inl (upd g7_456 (pa + i) (nI t466))))] := hD
            refine lv_iinc (k := 0) (v := nI (i + 1)) (lv' := [(3, .int (nI (i + 1))), (2, .int (nI pa)), (0, .ref mo), (1, .int (nI xn))]) hx hb d_Md_prove_103 hl rfl (nI_1 i) (by decide) rfl (fun ls hl => ?_)
            refine lv_goto (tgt := 83) hx hb d_Md_prove_106 (by decide) ?_
            have hl := lv_sub hl [0, 1, 2, 3] (show _ = [(3, .int (nI (i + 1))), (2, .int (nI pa)), (0, .ref mo), (1, .int (nI xn))] from rfl)
            exact ih (i + 1) _ _ _ _ (by omega) (AB_upd hab (BY_n (by omega))) hP hD hS hl
        refine L457 _ (fun g7_456 H locs ls hab hP hD hS hl => ?_) (16 - 0) 0 g7_448 H _ ls (by omega) (by first | assumption | omega) hP hD hS hl
        refine lv_aload_n hx hb d_Md_prove_109 rfl (lv_at hl 2 rfl) ?_
        refine va_get (D := (dC, dI)) (ci := 12) (v := (.int (nI sn))) (C := R_Md) (T := F_Md) (N := 45) hx hb hg in_Md hown hK hP 0 rfl rfl 8 (by decide) (hg _ k_1028) (fun _ h9 => h9) rfl d_Md_prove_110 ?_
        have hP9 := hP.sub (ws' := [(mo, .inr (12, mdG r 0 tm (nI sn) (nI 0) (nI lz) (nI az) (nI na) (nI nt) (nI nr) mw ml mk dq)), (r 7, .inl ((cT 0), 1000, .inl g7_456)), (r 9, .inl ((cT 0), 1400, .inl g9_451)), (r 12, .inl ((cT 0), 1200, .inl g12_452)), (r 3, .inl ((cT 0), 160, .inl f3)), (r 4, .inl ((cT 0), 4, .inl f4)), (r 0, .inl ((cT 1), 64, .inr (.inl f0))), (r 11, .inl ((cT 0), 16, .inl g11_453))]) [0, 7, 1, 2, 3, 4, 5, 6] rfl
        have hD9 := hD.sub (ws' := [(mo, .inr (12, mdG r 0 tm (nI sn) (nI 0) (nI lz) (nI az) (nI na) (nI nt) (nI nr) mw ml mk dq)), (r 7, .inl ((cT 0), 1000, .inl g7_456)), (r 9, .inl ((cT 0), 1400, .inl g9_451)), (r 12, .inl ((cT 0), 1200, .inl g12_452)), (r 3, .inl ((cT 0), 160, .inl f3)), (r 4, .inl ((cT 0), 4, .inl f4)), (r 0, .inl ((cT 1), 64, .inr (.inl f0))), (r 11, .inl ((cT 0), 16, .inl g11_453))]) [0, 7, 1, 2, 3, 4, 5, 6] (by decide) rfl
        exact W.iret (v := nI sn) hx hb hr (fun t ht hW => ⟨⟨_, ⟨g7_456, g9_451, g12_452, g11_453, 0, sn⟩, rfl, ⟨by first | assumption | omega, by first | assumption | omega, by first | assumption | omega, by first | assumption | omega⟩, by rw [ht]; exact hP9, va_K.moved hW.alike hK, hD9⟩, hS.F ht⟩) hS.2.2 d_Md_prove_113
