theorem d_Dg_digestText_0 : decode b_Dg_digestText 0 = .ok (.aload_n 0, 1) := by decide +kernel
theorem d_Dg_digestText_1 : decode b_Dg_digestText 1 = .ok (.getfield 16, 3) := by decide +kernel
theorem d_Dg_digestText_4 : decode b_Dg_digestText 4 = .ok (.getfield 42, 3) := by decide +kernel
theorem d_Dg_digestText_7 : decode b_Dg_digestText 7 = .ok (.istore_n 1, 1) := by decide +kernel
theorem d_Dg_digestText_8 : decode b_Dg_digestText 8 = .ok (.iload_n 1, 1) := by decide +kernel
theorem d_Dg_digestText_9 : decode b_Dg_digestText 9 = .ok (.bipush 9, 2) := by decide +kernel
theorem d_Dg_digestText_11 : decode b_Dg_digestText 11 = .ok (.iadd, 1) := by decide +kernel
theorem d_Dg_digestText_12 : decode b_Dg_digestText 12 = .ok (.bipush 64, 2) := by decide +kernel
theorem d_Dg_digestText_14 : decode b_Dg_digestText 14 = .ok (.iadd, 1) := by decide +kernel
theorem d_Dg_digestText_15 : decode b_Dg_digestText 15 = .ok (.iconst 1, 1) := by decide +kernel
theorem d_Dg_digestText_16 : decode b_Dg_digestText 16 = .ok (.isub, 1) := by decide +kernel
theorem d_Dg_digestText_17 : decode b_Dg_digestText 17 = .ok (.bipush 64, 2) := by decide +kernel
theorem d_Dg_digestText_19 : decode b_Dg_digestText 19 = .ok (.idiv, 1) := by decide +kernel
theorem d_Dg_digestText_20 : decode b_Dg_digestText 20 = .ok (.bipush 64, 2) := by decide +kernel
theorem d_Dg_digestText_22 : decode b_Dg_digestText 22 = .ok (.imul, 1) := by decide +kernel
theorem d_Dg_digestText_23 : decode b_Dg_digestText 23 = .ok (.istore_n 2, 1) := by decide +kernel
theorem d_Dg_digestText_24 : decode b_Dg_digestText 24 = .ok (.aload_n 0, 1) := by decide +kernel
theorem d_Dg_digestText_25 : decode b_Dg_digestText 25 = .ok (.getfield 16, 3) := by decide +kernel
theorem d_Dg_digestText_28 : decode b_Dg_digestText 28 = .ok (.getfield 46, 3) := by decide +kernel
theorem d_Dg_digestText_31 : decode b_Dg_digestText 31 = .ok (.iload_n 1, 1) := by decide +kernel
theorem d_Dg_digestText_32 : decode b_Dg_digestText 32 = .ok (.iload_n 2, 1) := by decide +kernel
theorem d_Dg_digestText_33 : decode b_Dg_digestText 33 = .ok (.iconst 0, 1) := by decide +kernel
theorem d_Dg_digestText_34 : decode b_Dg_digestText 34 = .ok (.invokestatic 59, 3) := by decide +kernel
theorem d_Dg_digestText_37 : decode b_Dg_digestText 37 = .ok (.aload_n 0, 1) := by decide +kernel
theorem d_Dg_digestText_38 : decode b_Dg_digestText 38 = .ok (.getfield 16, 3) := by decide +kernel
theorem d_Dg_digestText_41 : decode b_Dg_digestText 41 = .ok (.getfield 46, 3) := by decide +kernel
theorem d_Dg_digestText_44 : decode b_Dg_digestText 44 = .ok (.iload_n 1, 1) := by decide +kernel
theorem d_Dg_digestText_45 : decode b_Dg_digestText 45 = .ok (.sipush 128, 3) := by decide +kernel
theorem d_Dg_digestText_48 : decode b_Dg_digestText 48 = .ok (.iastore, 1) := by decide +kernel
theorem d_Dg_digestText_49 : decode b_Dg_digestText 49 = .ok (.aload_n 0, 1) := by decide +kernel
theorem d_Dg_digestText_50 : decode b_Dg_digestText 50 = .ok (.getfield 16, 3) := by decide +kernel
theorem d_Dg_digestText_53 : decode b_Dg_digestText 53 = .ok (.getfield 46, 3) := by decide +kernel
theorem d_Dg_digestText_56 : decode b_Dg_digestText 56 = .ok (.iload_n 2, 1) := by decide +kernel
theorem d_Dg_digestText_57 : decode b_Dg_digestText 57 = .ok (.bipush 8, 2) := by decide +kernel
theorem d_Dg_digestText_59 : decode b_Dg_digestText 59 = .ok (.isub, 1) := by decide +kernel
theorem d_Dg_digestText_60 : decode b_Dg_digestText 60 = .ok (.iload_n 1, 1) := by decide +kernel
theorem d_Dg_digestText_61 : decode b_Dg_digestText 61 = .ok (.bipush 8, 2) := by decide +kernel
theorem d_Dg_digestText_63 : decode b_Dg_digestText 63 = .ok (.imul, 1) := by decide +kernel
theorem d_Dg_digestText_64 : decode b_Dg_digestText 64 = .ok (.sipush 255, 3) := by decide +kernel
theorem d_Dg_digestText_67 : decode b_Dg_digestText 67 = .ok (.iand, 1) := by decide +kernel
theorem d_Dg_digestText_68 : decode b_Dg_digestText 68 = .ok (.iastore, 1) := by decide +kernel
theorem d_Dg_digestText_69 : decode b_Dg_digestText 69 = .ok (.aload_n 0, 1) := by decide +kernel
theorem d_Dg_digestText_70 : decode b_Dg_digestText 70 = .ok (.getfield 16, 3) := by decide +kernel
theorem d_Dg_digestText_73 : decode b_Dg_digestText 73 = .ok (.getfield 46, 3) := by decide +kernel
theorem d_Dg_digestText_76 : decode b_Dg_digestText 76 = .ok (.iload_n 2, 1) := by decide +kernel
theorem d_Dg_digestText_77 : decode b_Dg_digestText 77 = .ok (.bipush 7, 2) := by decide +kernel
theorem d_Dg_digestText_79 : decode b_Dg_digestText 79 = .ok (.isub, 1) := by decide +kernel
theorem d_Dg_digestText_80 : decode b_Dg_digestText 80 = .ok (.iload_n 1, 1) := by decide +kernel
theorem d_Dg_digestText_81 : decode b_Dg_digestText 81 = .ok (.bipush 8, 2) := by decide +kernel
theorem d_Dg_digestText_83 : decode b_Dg_digestText 83 = .ok (.imul, 1) := by decide +kernel
theorem d_Dg_digestText_84 : decode b_Dg_digestText 84 = .ok (.bipush 8, 2) := by decide +kernel
theorem d_Dg_digestText_86 : decode b_Dg_digestText 86 = .ok (.ishr, 1) := by decide +kernel
theorem d_Dg_digestText_87 : decode b_Dg_digestText 87 = .ok (.iastore, 1) := by decide +kernel
theorem d_Dg_digestText_88 : decode b_Dg_digestText 88 = .ok (.aload_n 0, 1) := by decide +kernel
theorem d_Dg_digestText_89 : decode b_Dg_digestText 89 = .ok (.ldc 65, 2) := by decide +kernel
theorem d_Dg_digestText_91 : decode b_Dg_digestText 91 = .ok (.putfield 66, 3) := by decide +kernel
theorem d_Dg_digestText_94 : decode b_Dg_digestText 94 = .ok (.aload_n 0, 1) := by decide +kernel
theorem d_Dg_digestText_95 : decode b_Dg_digestText 95 = .ok (.ldc 69, 2) := by decide +kernel
theorem d_Dg_digestText_97 : decode b_Dg_digestText 97 = .ok (.putfield 70, 3) := by decide +kernel
theorem d_Dg_digestText_100 : decode b_Dg_digestText 100 = .ok (.aload_n 0, 1) := by decide +kernel
theorem d_Dg_digestText_101 : decode b_Dg_digestText 101 = .ok (.ldc 73, 2) := by decide +kernel
theorem d_Dg_digestText_103 : decode b_Dg_digestText 103 = .ok (.putfield 74, 3) := by decide +kernel
theorem d_Dg_digestText_106 : decode b_Dg_digestText 106 = .ok (.aload_n 0, 1) := by decide +kernel
theorem d_Dg_digestText_107 : decode b_Dg_digestText 107 = .ok (.ldc 77, 2) := by decide +kernel
theorem d_Dg_digestText_109 : decode b_Dg_digestText 109 = .ok (.putfield 78, 3) := by decide +kernel
theorem d_Dg_digestText_112 : decode b_Dg_digestText 112 = .ok (.iconst 0, 1) := by decide +kernel
theorem d_Dg_digestText_113 : decode b_Dg_digestText 113 = .ok (.istore_n 3, 1) := by decide +kernel
theorem d_Dg_digestText_114 : decode b_Dg_digestText 114 = .ok (.iload_n 3, 1) := by decide +kernel
theorem d_Dg_digestText_115 : decode b_Dg_digestText 115 = .ok (.iload_n 2, 1) := by decide +kernel
theorem d_Dg_digestText_116 : decode b_Dg_digestText 116 = .ok (.if_icmp .ge 14, 3) := by decide +kernel
theorem d_Dg_digestText_119 : decode b_Dg_digestText 119 = .ok (.aload_n 0, 1) := by decide +kernel
theorem d_Dg_digestText_120 : decode b_Dg_digestText 120 = .ok (.iload_n 3, 1) := by decide +kernel
theorem d_Dg_digestText_121 : decode b_Dg_digestText 121 = .ok (.invokevirtual 81, 3) := by decide +kernel
theorem d_Dg_digestText_124 : decode b_Dg_digestText 124 = .ok (.iinc 3 64, 3) := by decide +kernel
theorem d_Dg_digestText_127 : decode b_Dg_digestText 127 = .ok (.goto (-13), 3) := by decide +kernel
theorem d_Dg_digestText_130 : decode b_Dg_digestText 130 = .ok (.iconst 0, 1) := by decide +kernel
theorem d_Dg_digestText_131 : decode b_Dg_digestText 131 = .ok (.istore_n 3, 1) := by decide +kernel
theorem d_Dg_digestText_132 : decode b_Dg_digestText 132 = .ok (.iload_n 3, 1) := by decide +kernel
theorem d_Dg_digestText_133 : decode b_Dg_digestText 133 = .ok (.iconst 4, 1) := by decide +kernel
theorem d_Dg_digestText_134 : decode b_Dg_digestText 134 = .ok (.if_icmp .ge 93, 3) := by decide +kernel
theorem d_Dg_digestText_137 : decode b_Dg_digestText 137 = .ok (.aload_n 0, 1) := by decide +kernel
theorem d_Dg_digestText_138 : decode b_Dg_digestText 138 = .ok (.getfield 24, 3) := by decide +kernel
theorem d_Dg_digestText_141 : decode b_Dg_digestText 141 = .ok (.iload_n 3, 1) := by decide +kernel
theorem d_Dg_digestText_142 : decode b_Dg_digestText 142 = .ok (.aload_n 0, 1) := by decide +kernel
theorem d_Dg_digestText_143 : decode b_Dg_digestText 143 = .ok (.getfield 66, 3) := by decide +kernel
theorem d_Dg_digestText_146 : decode b_Dg_digestText 146 = .ok (.bipush 8, 2) := by decide +kernel
theorem d_Dg_digestText_148 : decode b_Dg_digestText 148 = .ok (.iload_n 3, 1) := by decide +kernel
theorem d_Dg_digestText_149 : decode b_Dg_digestText 149 = .ok (.imul, 1) := by decide +kernel
theorem d_Dg_digestText_150 : decode b_Dg_digestText 150 = .ok (.iushr, 1) := by decide +kernel
theorem d_Dg_digestText_151 : decode b_Dg_digestText 151 = .ok (.sipush 255, 3) := by decide +kernel
theorem d_Dg_digestText_154 : decode b_Dg_digestText 154 = .ok (.iand, 1) := by decide +kernel
theorem d_Dg_digestText_155 : decode b_Dg_digestText 155 = .ok (.iastore, 1) := by decide +kernel
theorem d_Dg_digestText_156 : decode b_Dg_digestText 156 = .ok (.aload_n 0, 1) := by decide +kernel
theorem d_Dg_digestText_157 : decode b_Dg_digestText 157 = .ok (.getfield 24, 3) := by decide +kernel
theorem d_Dg_digestText_160 : decode b_Dg_digestText 160 = .ok (.iconst 4, 1) := by decide +kernel
theorem d_Dg_digestText_161 : decode b_Dg_digestText 161 = .ok (.iload_n 3, 1) := by decide +kernel
theorem d_Dg_digestText_162 : decode b_Dg_digestText 162 = .ok (.iadd, 1) := by decide +kernel
theorem d_Dg_digestText_163 : decode b_Dg_digestText 163 = .ok (.aload_n 0, 1) := by decide +kernel
theorem d_Dg_digestText_164 : decode b_Dg_digestText 164 = .ok (.getfield 70, 3) := by decide +kernel
theorem d_Dg_digestText_167 : decode b_Dg_digestText 167 = .ok (.bipush 8, 2) := by decide +kernel
theorem d_Dg_digestText_169 : decode b_Dg_digestText 169 = .ok (.iload_n 3, 1) := by decide +kernel
theorem d_Dg_digestText_170 : decode b_Dg_digestText 170 = .ok (.imul, 1) := by decide +kernel
theorem d_Dg_digestText_171 : decode b_Dg_digestText 171 = .ok (.iushr, 1) := by decide +kernel
theorem d_Dg_digestText_172 : decode b_Dg_digestText 172 = .ok (.sipush 255, 3) := by decide +kernel
theorem d_Dg_digestText_175 : decode b_Dg_digestText 175 = .ok (.iand, 1) := by decide +kernel
theorem d_Dg_digestText_176 : decode b_Dg_digestText 176 = .ok (.iastore, 1) := by decide +kernel
theorem d_Dg_digestText_177 : decode b_Dg_digestText 177 = .ok (.aload_n 0, 1) := by decide +kernel
theorem d_Dg_digestText_178 : decode b_Dg_digestText 178 = .ok (.getfield 24, 3) := by decide +kernel
theorem d_Dg_digestText_181 : decode b_Dg_digestText 181 = .ok (.bipush 8, 2) := by decide +kernel
theorem d_Dg_digestText_183 : decode b_Dg_digestText 183 = .ok (.iload_n 3, 1) := by decide +kernel
theorem d_Dg_digestText_184 : decode b_Dg_digestText 184 = .ok (.iadd, 1) := by decide +kernel
theorem d_Dg_digestText_185 : decode b_Dg_digestText 185 = .ok (.aload_n 0, 1) := by decide +kernel
theorem d_Dg_digestText_186 : decode b_Dg_digestText 186 = .ok (.getfield 74, 3) := by decide +kernel
theorem d_Dg_digestText_189 : decode b_Dg_digestText 189 = .ok (.bipush 8, 2) := by decide +kernel
theorem d_Dg_digestText_191 : decode b_Dg_digestText 191 = .ok (.iload_n 3, 1) := by decide +kernel
theorem d_Dg_digestText_192 : decode b_Dg_digestText 192 = .ok (.imul, 1) := by decide +kernel
theorem d_Dg_digestText_193 : decode b_Dg_digestText 193 = .ok (.iushr, 1) := by decide +kernel
theorem d_Dg_digestText_194 : decode b_Dg_digestText 194 = .ok (.sipush 255, 3) := by decide +kernel
theorem d_Dg_digestText_197 : decode b_Dg_digestText 197 = .ok (.iand, 1) := by decide +kernel
theorem d_Dg_digestText_198 : decode b_Dg_digestText 198 = .ok (.iastore, 1) := by decide +kernel
theorem d_Dg_digestText_199 : decode b_Dg_digestText 199 = .ok (.aload_n 0, 1) := by decide +kernel
theorem d_Dg_digestText_200 : decode b_Dg_digestText 200 = .ok (.getfield 24, 3) := by decide +kernel
theorem d_Dg_digestText_203 : decode b_Dg_digestText 203 = .ok (.bipush 12, 2) := by decide +kernel
theorem d_Dg_digestText_205 : decode b_Dg_digestText 205 = .ok (.iload_n 3, 1) := by decide +kernel
theorem d_Dg_digestText_206 : decode b_Dg_digestText 206 = .ok (.iadd, 1) := by decide +kernel
theorem d_Dg_digestText_207 : decode b_Dg_digestText 207 = .ok (.aload_n 0, 1) := by decide +kernel
theorem d_Dg_digestText_208 : decode b_Dg_digestText 208 = .ok (.getfield 78, 3) := by decide +kernel
theorem d_Dg_digestText_211 : decode b_Dg_digestText 211 = .ok (.bipush 8, 2) := by decide +kernel
theorem d_Dg_digestText_213 : decode b_Dg_digestText 213 = .ok (.iload_n 3, 1) := by decide +kernel
theorem d_Dg_digestText_214 : decode b_Dg_digestText 214 = .ok (.imul, 1) := by decide +kernel
theorem d_Dg_digestText_215 : decode b_Dg_digestText 215 = .ok (.iushr, 1) := by decide +kernel
theorem d_Dg_digestText_216 : decode b_Dg_digestText 216 = .ok (.sipush 255, 3) := by decide +kernel
theorem d_Dg_digestText_219 : decode b_Dg_digestText 219 = .ok (.iand, 1) := by decide +kernel
theorem d_Dg_digestText_220 : decode b_Dg_digestText 220 = .ok (.iastore, 1) := by decide +kernel
theorem d_Dg_digestText_221 : decode b_Dg_digestText 221 = .ok (.iinc 3 1, 3) := by decide +kernel
theorem d_Dg_digestText_224 : decode b_Dg_digestText 224 = .ok (.goto (-92), 3) := by decide +kernel
theorem d_Dg_digestText_227 : decode b_Dg_digestText 227 = .ok (.aload_n 0, 1) := by decide +kernel
theorem d_Dg_digestText_228 : decode b_Dg_digestText 228 = .ok (.getfield 24, 3) := by decide +kernel
theorem d_Dg_digestText_231 : decode b_Dg_digestText 231 = .ok (.areturn, 1) := by decide +kernel
set_option maxHeartbeats 4000000 in
set_option maxRecDepth 100000 in
/-- digestText -/
theorem c_Dg_text (l : Launch) (dC : Nat → ClassId) (dI : Nat → Nat → Nat) (cT : Nat → ClassId) (sz : Nat) (g0 : Nat) (tx : Nat) (tr : Nat) (wo : Nat) (di : Nat) (va : Int32) (vb : Int32) (vc : Int32) (vd : Int32) (len : Nat) (f : Nat → Int32) (fw : Nat → Int32) (fd : Nat → Int32) (hlen : len ≤ 1119) : Met l y_Dg_digestText (Cond.code y_Dg_digestText b_Dg_digestText 4 (Option.some (Jvm.ClassFile.FieldType.array Jvm.ClassFile.FieldType.int)) :: BIG) ({ frames := 2, cells := 0, slots := 0, locals := 50 }) (va_Pc [.ref g0] (fun U => U.heap.size = sz ∧ va_P (dC, dI) vcl [(g0, .inr (3, [.ref tx, .ref wo, .ref di, .int va, .int vb, .int vc, .int vd])), (tx, .inr (1, [.ref tr, .int (nI len)])), (tr, .inl ((cT 0), 1192, .inl f)), (wo, .inl ((cT 0), 16, .inl fw)), (di, .inl ((cT 0), 16, .inl fd))] U.heap ∧ va_K (dC, dI) vcl (tyL cT) U ∧ va_D (fun _ => True) [(g0, .inr (3, [.ref tx, .ref wo, .ref di, .int va, .int vb, .int vc, .int vd])), (tx, .inr (1, [.ref tr, .int (nI len)])), (tr, .inl ((cT 0), 1192, .inl f)), (wo, .inl ((cT 0), 16, .inl fw)), (di, .inl ((cT 0), 16, .inl fd))] ∧ xm (va_A [(g0, .inr (3, [.ref tx, .ref wo, .ref di, .int va, .int vb, .int vc, .int vd])), (tx, .inr (1, [.ref tr, .int (nI len)])), (tr, .inl ((cT 0), 1192, .inl f)), (wo, .inl ((cT 0), 16, .inl fw)), (di, .inl ((cT 0), 16, .inl fd))] sz) U U.heap)) (va_Qr (S := (Nat → Int32) × (Nat → Int32) × Int32 × Int32 × Int32 × Int32 × (Nat → Int32)) (fun u => match u with | (fw2, fd2, a2, b2, c2, d2, f2) => AB fd → AB fd2) (fun u a t => match u with | (fw2, fd2, a2, b2, c2, d2, f2) => di = a ∧ va_P (dC, dI) vcl [(g0, .inr (3, [.ref tx, .ref wo, .ref di, .int a2, .int b2, .int c2, .int d2])), (tx, .inr (1, [.ref tr, .int (nI len)])), (tr, .inl ((cT 0), 1192, .inl f2)), (wo, .inl ((cT 0), 16, .inl fw2)), (di, .inl ((cT 0), 16, .inl fd2))] t.heap ∧ va_K (dC, dI) vcl (tyL cT) t ∧ va_D (va_A [(g0, .inr (3, [.ref tx, .ref wo, .ref di, .int va, .int vb, .int vc, .int vd])), (tx, .inr (1, [.ref tr, .int (nI len)])), (tr, .inl ((cT 0), 1192, .inl f)), (wo, .inl ((cT 0), 16, .inl fw)), (di, .inl ((cT 0), 16, .inl fd))] sz) [(g0, .inr (3, [.ref tx, .ref wo, .ref di, .int a2, .int b2, .int c2, .int d2])), (tx, .inr (1, [.ref tr, .int (nI len)])), (tr, .inl ((cT 0), 1192, .inl f2)), (wo, .inl ((cT 0), 16, .inl fw2)), (di, .inl ((cT 0), 16, .inl fd2))]) (va_A [(g0, .inr (3, [.ref tx, .ref wo, .ref di, .int va, .int vb, .int vc, .int vd])), (tx, .inr (1, [.ref tr, .int (nI len)])), (tr, .inl ((cT 0), 1192, .inl f)), (wo, .inl ((cT 0), 16, .inl fw)), (di, .inl ((cT 0), 16, .inl fd))] sz)) 0 0 (va_A [(g0, .inr (3, [.ref tx, .ref wo, .ref di, .int va, .int vb, .int vc, .int vd])), (tx, .inr (1, [.ref tr, .int (nI len)])), (tr, .inl ((cT 0), 1192, .inl f)), (wo, .inl ((cT 0), 16, .inl fw)), (di, .inl ((cT 0), 16, .inl fd))] sz) := by
  refine Met.ofW (cc := b_Dg_digestText) (maxL := 4) (ret := (Option.some (Jvm.ClassFile.FieldType.array Jvm.ClassFile.FieldType.int))) (by decide) rfl ?_
  intro p e s m args below meth c s₁ B hml hv
  obtain ⟨hargs, hsz, hP, hK, hD0, hE⟩ := hv
  have hx := B.exec
  have hb := B.bytes
  have hr := B.returns
  have hts := atoms_spec (ws := (Cond.code y_Dg_digestText b_Dg_digestText 4 (Option.some (Jvm.ClassFile.FieldType.array Jvm.ClassFile.FieldType.int)) :: BIG)) B.pre
  have hg : ∀ w ∈ BIG, w.before _ s = true := fun w h => hts w (List.mem_cons_of_mem _ h)
  have hown : s.vm.findClass "DoorServer$Digests" = some m.cls := findClass_of_methodNamed B.named
  have hlocks := B.notSynchronized
  subst hsz
  have hD := hD0.self (sz := s.heap.size)
  generalize hAe : va_A [(g0, .inr (3, [.ref tx, .ref wo, .ref di, .int va, .int vb, .int vc, .int vd])), (tx, .inr (1, [.ref tr, .int (nI len)])), (tr, .inl ((cT 0), 1192, .inl f)), (wo, .inl ((cT 0), 16, .inl fw)), (di, .inl ((cT 0), 16, .inl fd))] s.heap.size = A at hD hE ⊢
  have hA : ∀ q : Nat, s.heap.size ≤ q → A q := fun q h => by rw [← hAe]; exact Or.inr h
  have hS : va_S A s.heap s.heap [] := va_S.rf
  have hl := lv_entry ([.ref g0]) (n := 4) (Nat.le_of_ble_eq_true rfl)
  refine W.eq (g2 := entryFrame m (List.toArray [.ref g0]) 4) (by rw [hargs]) ?_
  rw [lg_entry_eq]
  generalize (lg_sl ([.ref g0]) ++ List.replicate (4 - (lg_sl ([.ref g0])).length) Slot.unset).toArray = ls at hl ⊢
  have hl : lv_has ls 4 [(0, .ref g0)] := hl
  change W p l e ({ frames := 2, cells := 0, slots := 0, locals := 50 } : Room) s m args below meth c s.heap [] 0 0 _ _
  have hP : va_P (dC, dI) vcl [(g0, .inr (3, [.ref tx, .ref wo, .ref di, .int va, .int vb, .int vc, .int vd])), (tx, .inr (1, [.ref tr, .int (nI len)])), (tr, .inl ((cT 0), 1192, .inl f)), (wo, .inl ((cT 0), 16, .inl fw)), (di, .inl ((cT 0), 16, .inl fd))] s.heap := hP
  refine lv_aload_n hx hb d_Dg_digestText_0 rfl (lv_at hl 0 rfl) ?_
  refine va_get (D := (dC, dI)) (ci := 3) (v := (.ref tx)) (C := R_Dg) (T := F_Dg) (N := 7) hx hb hg in_Dg hown hK hP 0 rfl rfl 0 (by decide) (hg _ k_116) (fun _ h9 => h9) rfl d_Dg_digestText_1 ?_
  refine va_get (D := (dC, dI)) (ci := 1) (v := (.int (nI len))) (C := R_By) (T := F_By) (N := 2) hx hb hg in_By hown hK hP 1 rfl rfl 1 (by decide) (hg _ k_57) (fun _ h9 => h9) rfl d_Dg_digestText_4 ?_
  refine lv_istore_n (lv' := [(1, .int (nI len)), (0, .ref g0)]) hx hb d_Dg_digestText_7 rfl hl (by decide) rfl (fun ls hl => ?_)
  refine lv_iload_n hx hb d_Dg_digestText_8 rfl (lv_at hl 0 rfl) ?_
  refine lv_bipush (v := 9) hx hb d_Dg_digestText_9 (by decide) ?_
  refine lv_iadd hx hb d_Dg_digestText_11 ?_
  refine lv_topi (fun x2 e1 => ?_)
  obtain rfl : x2 = nI (len + 9) := by rw [e1]; exact nI_add len 9
  refine lv_bipush (v := 64) hx hb d_Dg_digestText_12 (by decide) ?_
  refine lv_iadd hx hb d_Dg_digestText_14 ?_
  refine lv_topi (fun x4 e3 => ?_)
  obtain rfl : x4 = nI (len + 9 + 64) := by rw [e3]; exact nI_add _ 64
  refine lv_iconst (v := 1) hx hb d_Dg_digestText_15 (by decide) ?_
  refine lv_isub hx hb d_Dg_digestText_16 ?_
  refine lv_topi (fun x6 e5 => ?_)
  obtain rfl : x6 = nI (len + 72) := by rw [e5]; exact pk_sub (a := len + 9 + 64) (b := 1) (by omega)
  refine lv_bipush (v := 64) hx hb d_Dg_digestText_17 (by decide) ?_
  refine lv_idiv hx hb d_Dg_digestText_19 (by decide) ?_
  refine lv_topi (fun x8 e7 => ?_)
  obtain rfl : x8 = nI ((len + 72) / 64) := by rw [e7]; exact pk_div (d := 64) (by omega) (by decide) (by decide)
  refine lv_bipush (v := 64) hx hb d_Dg_digestText_20 (by decide) ?_
  refine lv_imul hx hb d_Dg_digestText_22 ?_
  refine lv_topi (fun x10 e9 => ?_)
  obtain rfl : x10 = nI ((len + 72) / 64 * 64) := by rw [e9]; exact pk_mul _ 64
  obtain ⟨en, hen⟩ : ∃ en, en = (len + 72) / 64 := ⟨_, rfl⟩
  rw [← hen]
  have hen1 : len + 9 ≤ en * 64 := by omega
  have hen2 : en * 64 ≤ 1192 := by omega
  refine lv_istore_n (lv' := [(2, .int (nI (en * 64))), (1, .int (nI len)), (0, .ref g0)]) hx hb d_Dg_digestText_23 rfl hl (by decide) rfl (fun ls hl => ?_)
  refine lv_aload_n hx hb d_Dg_digestText_24 rfl (lv_at hl 2 rfl) ?_
  refine va_get (D := (dC, dI)) (ci := 3) (v := (.ref tx)) (C := R_Dg) (T := F_Dg) (N := 7) hx hb hg in_Dg hown hK hP 0 rfl rfl 0 (by decide) (hg _ k_116) (fun _ h9 => h9) rfl d_Dg_digestText_25 ?_
  refine va_get (D := (dC, dI)) (ci := 1) (v := (.ref tr)) (C := R_By) (T := F_By) (N := 2) hx hb hg in_By hown hK hP 1 rfl rfl 0 (by decide) (hg _ k_44) (fun _ h9 => h9) rfl d_Dg_digestText_28 ?_
  refine lv_iload_n hx hb d_Dg_digestText_31 rfl (lv_at hl 1 rfl) ?_
  refine lv_iload_n hx hb d_Dg_digestText_32 rfl (lv_at hl 0 rfl) ?_
  refine lv_iconst (v := 0) hx hb d_Dg_digestText_33 (by decide) ?_
  have hPc := hP.sub (ws' := [(tr, .inl ((cT 0), 1192, .inl f))]) [2] rfl
  have hDc := hD.sub (ws' := [(tr, .inl ((cT 0), 1192, .inl f))]) [2] (by decide) rfl
  have hFc := va_free (wc := [(tr, .inl ((cT 0), 1192, .inl f))]) hD hS hA [2] rfl
  refine va_callv (va_runS (As := [.ref tr, .int (nI len), .int (nI (en * 64)), .int 0]) (rest := []) ⟨hx, hb, hml, hown, hg⟩ (c_Ar_fill l dC dI cT s.heap.size tr 1192 f len (en * 64) 0 (by omega) (by omega) (by decide)) (va_cwS 4 hg (gI (List.forall_mem_append.mpr ⟨List.forall_mem_cons.mpr ⟨k_587, List.forall_mem_cons.mpr ⟨k_588, List.forall_mem_cons.mpr ⟨k_20, fun _ h => absurd h List.not_mem_nil⟩⟩⟩, List.forall_mem_cons.mpr ⟨k_589, fun _ h => h⟩⟩)) rfl rfl rfl (by decide +kernel) ⟨Nat.le_of_ble_eq_true rfl, Nat.le_of_ble_eq_true rfl⟩) ⟨fun a U g mk q => by obtain ⟨q0, q1, qP, qK, qD⟩ := q; exact ⟨q0, q1, qP, va_K.moved (u := U) (U := U.calling g mk a) (Vm.Alike.refl U.vm) qK, qD⟩, fun U hU hW => ⟨rfl, by rw [hU], by rw [hU]; exact hPc, va_K.moved hW.alike hK, hDc.weaken (fun _ _ _ _ => trivial)⟩⟩ rfl rfl hl.1 rfl (lv_room (Nat.le_of_ble_eq_true rfl)) d_Dg_digestText_34 ⟨Nat.le_of_ble_eq_true rfl, Nat.le_of_ble_eq_true rfl⟩) hS (fun q _ h => hFc q h) hFc (fun u t H1 locs ht hvm hw hB hz1 hk1 hS => ?_)
  obtain ⟨g_11, rfl⟩ : ∃ z, z = u := ⟨_, rfl⟩
  try dsimp only at hw hB
  obtain ⟨hP1, hK1, hD1⟩ := hB
  rw [ht] at hP1
  obtain ⟨hP, hD⟩ := va_join (wr := [(g0, .inr (3, [.ref tx, .ref wo, .ref di, .int va, .int vb, .int vc, .int vd])), (tx, .inr (1, [.ref tr, .int (nI len)])), (wo, .inl ((cT 0), 16, .inl fw)), (di, .inl ((cT 0), 16, .inl fd))]) (w1 := [(tr, .inl ((cT 0), 1192, .inl g_11))]) hP hD [2] [0, 1, 3, 4] rfl rfl (by decide) (by decide) hk1 hFc hP1 hD1
  have hw12 := hw
  clear hPc hDc hFc hz1 hk1 hP1 hK1 hD1
  generalize H1 = H at hP hS ⊢
  have hP : va_P (dC, dI) vcl [(g0, .inr (3, [.ref tx, .ref wo, .ref di, .int va, .int vb, .int vc, .int vd])), (tx, .inr (1, [.ref tr, .int (nI len)])), (wo, .inl ((cT 0), 16, .inl fw)), (di, .inl ((cT 0), 16, .inl fd)), (tr, .inl ((cT 0), 1192, .inl g_11))] H := hP
  have hD : va_D A [(g0, .inr (3, [.ref tx, .ref wo, .ref di, .int va, .int vb, .int vc, .int vd])), (tx, .inr (1, [.ref tr, .int (nI len)])), (wo, .inl ((cT 0), 16, .inl fw)), (di, .inl ((cT 0), 16, .inl fd)), (tr, .inl ((cT 0), 1192, .inl g_11))] := hD
  refine lv_aload_n hx hb d_Dg_digestText_37 rfl (lv_at hl 2 rfl) ?_
  refine va_get (D := (dC, dI)) (ci := 3) (v := (.ref tx)) (C := R_Dg) (T := F_Dg) (N := 7) hx hb hg in_Dg hown hK hP 0 rfl rfl 0 (by decide) (hg _ k_116) (fun _ h9 => h9) rfl d_Dg_digestText_38 ?_
  refine va_get (D := (dC, dI)) (ci := 1) (v := (.ref tr)) (C := R_By) (T := F_By) (N := 2) hx hb hg in_By hown hK hP 1 rfl rfl 0 (by decide) (hg _ k_44) (fun _ h9 => h9) rfl d_Dg_digestText_41 ?_
  refine lv_iload_n hx hb d_Dg_digestText_44 rfl (lv_at hl 1 rfl) ?_
  refine lv_sipush (v := 128) hx hb d_Dg_digestText_45 (by decide) ?_
  refine va_iast hx hb hK hP hD hS 4 0 rfl rfl (i := (nI len)) (vp_in_nI (by omega) (by decide)) d_Dg_digestText_48 (fun H locs hP hD hS => ?_)
  have hP : va_P (dC, dI) vcl [(g0, .inr (3, [.ref tx, .ref wo, .ref di, .int va, .int vb, .int vc, .int vd])), (tx, .inr (1, [.ref tr, .int (nI len)])), (wo, .inl ((cT 0), 16, .inl fw)), (di, .inl ((cT 0), 16, .inl fd)), (tr, .inl ((cT 0), 1192, .inl (upd g_11 (nI len).toNatClampNeg 128)))] H := hP
  have hD : va_D A [(g0, .inr (3, [.ref tx, .ref wo, .ref di, .int va, .int vb, .int vc, .int vd])), (tx, .inr (1, [.ref tr, .int (nI len)])), (wo, .inl ((cT 0), 16, .inl fw)), (di, .inl ((cT 0), 16, .inl fd)), (tr, .inl ((cT 0), 1192, .inl (upd g_11 (nI len).toNatClampNeg 128)))] := hD
  refine lv_aload_n hx hb d_Dg_digestText_49 rfl (lv_at hl 2 rfl) ?_
  refine va_get (D := (dC, dI)) (ci := 3) (v := (.ref tx)) (C := R_Dg) (T := F_Dg) (N := 7) hx hb hg in_Dg hown hK hP 0 rfl rfl 0 (by decide) (hg _ k_116) (fun _ h9 => h9) rfl d_Dg_digestText_50 ?_
  refine va_get (D := (dC, dI)) (ci := 1) (v := (.ref tr)) (C := R_By) (T := F_By) (N := 2) hx hb hg in_By hown hK hP 1 rfl rfl 0 (by decide) (hg _ k_44) (fun _ h9 => h9) rfl d_Dg_digestText_53 ?_
  refine lv_iload_n hx hb d_Dg_digestText_56 rfl (lv_at hl 0 rfl) ?_
  refine lv_bipush (v := 8) hx hb d_Dg_digestText_57 (by decide) ?_
  refine lv_isub hx hb d_Dg_digestText_59 ?_
  refine lv_topi (fun x14 e13 => ?_)
  obtain rfl : x14 = nI (en * 64 - 8) := by rw [e13]; exact pk_sub (b := 8) (by omega)
  refine lv_iload_n hx hb d_Dg_digestText_60 rfl (lv_at hl 1 rfl) ?_
  refine lv_bipush (v := 8) hx hb d_Dg_digestText_61 (by decide) ?_
  refine lv_imul hx hb d_Dg_digestText_63 ?_
  refine lv_sipush (v := 255) hx hb d_Dg_digestText_64 (by decide) ?_
  refine lv_iand hx hb d_Dg_digestText_67 ?_
  refine va_iast hx hb hK hP hD hS 4 0 rfl rfl (i := (nI (en * 64 - 8))) (vp_in_nI (by omega) (by decide)) d_Dg_digestText_68 (fun H locs hP hD hS => ?_)
  have hP : va_P (dC, dI) vcl [(g0, .inr (3, [.ref tx, .ref wo, .ref di, .int va, .int vb, .int vc, .int vd])), (tx, .inr (1, [.ref tr, .int (nI len)])), (wo, .inl ((cT 0), 16, .inl fw)), (di, .inl ((cT 0), 16, .inl fd)), (tr, .inl ((cT 0), 1192, .inl (upd (upd g_11 (nI len).toNatClampNeg 128) (nI (en * 64 - 8)).toNatClampNeg (((nI len) * 8) &&& 255))))] H := hP
  have hD : va_D A [(g0, .inr (3, [.ref tx, .ref wo, .ref di, .int va, .int vb, .int vc, .int vd])), (tx, .inr (1, [.ref tr, .int (nI len)])), (wo, .inl ((cT 0), 16, .inl fw)), (di, .inl ((cT 0), 16, .inl fd)), (tr, .inl ((cT 0), 1192, .inl (upd (upd g_11 (nI len).toNatClampNeg 128) (nI (en * 64 - 8)).toNatClampNeg (((nI len) * 8) &&& 255))))] := hD
  refine lv_aload_n hx hb d_Dg_digestText_69 rfl (lv_at hl 2 rfl) ?_
  refine va_get (D := (dC, dI)) (ci := 3) (v := (.ref tx)) (C := R_Dg) (T := F_Dg) (N := 7) hx hb hg in_Dg hown hK hP 0 rfl rfl 0 (by decide) (hg _ k_116) (fun _ h9 => h9) rfl d_Dg_digestText_70 ?_
  refine va_get (D := (dC, dI)) (ci := 1) (v := (.ref tr)) (C := R_By) (T := F_By) (N := 2) hx hb hg in_By hown hK hP 1 rfl rfl 0 (by decide) (hg _ k_44) (fun _ h9 => h9) rfl d_Dg_digestText_73 ?_
  refine lv_iload_n hx hb d_Dg_digestText_76 rfl (lv_at hl 0 rfl) ?_
  refine lv_bipush (v := 7) hx hb d_Dg_digestText_77 (by decide) ?_
  refine lv_isub hx hb d_Dg_digestText_79 ?_
  refine lv_topi (fun x16 e15 => ?_)
  obtain rfl : x16 = nI (en * 64 - 7) := by rw [e15]; exact pk_sub (b := 7) (by omega)
  refine lv_iload_n hx hb d_Dg_digestText_80 rfl (lv_at hl 1 rfl) ?_
  refine lv_bipush (v := 8) hx hb d_Dg_digestText_81 (by decide) ?_
  refine lv_imul hx hb d_Dg_digestText_83 ?_
  refine lv_bipush (v := 8) hx hb d_Dg_digestText_84 (by decide) ?_
  refine lv_ishr hx hb d_Dg_digestText_86 ?_
  refine va_iast hx hb hK hP hD hS 4 0 rfl rfl (i := (nI (en * 64 - 7))) (vp_in_nI (by omega) (by decide)) d_Dg_digestText_87 (fun H locs hP hD hS => ?_)
  have hP : va_P (dC, dI) vcl [(g0, .inr (3, [.ref tx, .ref wo, .ref di, .int va, .int vb, .int vc, .int vd])), (tx, .inr (1, [.ref tr, .int (nI len)])), (wo, .inl ((cT 0), 16, .inl fw)), (di, .inl ((cT 0), 16, .inl fd)), (tr, .inl ((cT 0), 1192, .inl (upd (upd (upd g_11 (nI len).toNatClampNeg 128) (nI (en * 64 - 8)).toNatClampNeg (((nI len) * 8) &&& 255)) (nI (en * 64 - 7)).toNatClampNeg (((nI len) * 8) >>> (8 &&& 31)))))] H := hP
  have hD : va_D A [(g0, .inr (3, [.ref tx, .ref wo, .ref di, .int va, .int vb, .int vc, .int vd])), (tx, .inr (1, [.ref tr, .int (nI len)])), (wo, .inl ((cT 0), 16, .inl fw)), (di, .inl ((cT 0), 16, .inl fd)), (tr, .inl ((cT 0), 1192, .inl (upd (upd (upd g_11 (nI len).toNatClampNeg 128) (nI (en * 64 - 8)).toNatClampNeg (((nI len) * 8) &&& 255)) (nI (en * 64 - 7)).toNatClampNeg (((nI len) * 8) >>> (8 &&& 31)))))] := hD
  refine lv_aload_n hx hb d_Dg_digestText_88 rfl (lv_at hl 2 rfl) ?_
  refine lv_ldc (v := 1732584193) hx hb hown (hg _ k_593) d_Dg_digestText_89 ?_
  refine va_put (D := (dC, dI)) (ci := 3) (v := (.int 1732584193)) (ty := .int) (C := R_Dg) (T := F_Dg) (N := 7) hx hb hg in_Dg t_Dg tok_Dg nm_Dg hown hK hP hD hS 0 rfl rfl 3 (by decide) (hg _ k_119) (fun _ h9 => h9) rfl (by decide +kernel) rfl rfl (Nat.le_of_ble_eq_true rfl) d_Dg_digestText_91 (fun H locs hP hD hS => ?_)
  have hP : va_P (dC, dI) vcl [(g0, .inr (3, [.ref tx, .ref wo, .ref di, .int 1732584193, .int vb, .int vc, .int vd])), (tx, .inr (1, [.ref tr, .int (nI len)])), (wo, .inl ((cT 0), 16, .inl fw)), (di, .inl ((cT 0), 16, .inl fd)), (tr, .inl ((cT 0), 1192, .inl (upd (upd (upd g_11 (nI len).toNatClampNeg 128) (nI (en * 64 - 8)).toNatClampNeg (((nI len) * 8) &&& 255)) (nI (en * 64 - 7)).toNatClampNeg (((nI len) * 8) >>> (8 &&& 31)))))] H := hP
  have hD : va_D A [(g0, .inr (3, [.ref tx, .ref wo, .ref di, .int 1732584193, .int vb, .int vc, .int vd])), (tx, .inr (1, [.ref tr, .int (nI len)])), (wo, .inl ((cT 0), 16, .inl fw)), (di, .inl ((cT 0), 16, .inl fd)), (tr, .inl ((cT 0), 1192, .inl (upd (upd (upd g_11 (nI len).toNatClampNeg 128) (nI (en * 64 - 8)).toNatClampNeg (((nI len) * 8) &&& 255)) (nI (en * 64 - 7)).toNatClampNeg (((nI len) * 8) >>> (8 &&& 31)))))] := hD
  refine lv_aload_n hx hb d_Dg_digestText_94 rfl (lv_at hl 2 rfl) ?_
  refine lv_ldc (v := (-271733879)) hx hb hown (hg _ k_594) d_Dg_digestText_95 ?_
  refine va_put (D := (dC, dI)) (ci := 3) (v := (.int (-271733879))) (ty := .int) (C := R_Dg) (T := F_Dg) (N := 7) hx hb hg in_Dg t_Dg tok_Dg nm_Dg hown hK hP hD hS 0 rfl rfl 4 (by decide) (hg _ k_120) (fun _ h9 => h9) rfl (by decide +kernel) rfl rfl (Nat.le_of_ble_eq_true rfl) d_Dg_digestText_97 (fun H locs hP hD hS => ?_)
  have hP : va_P (dC, dI) vcl [(g0, .inr (3, [.ref tx, .ref wo, .ref di, .int 1732584193, .int (-271733879), .int vc, .int vd])), (tx, .inr (1, [.ref tr, .int (nI len)])), (wo, .inl ((cT 0), 16, .inl fw)), (di, .inl ((cT 0), 16, .inl fd)), (tr, .inl ((cT 0), 1192, .inl (upd (upd (upd g_11 (nI len).toNatClampNeg 128) (nI (en * 64 - 8)).toNatClampNeg (((nI len) * 8) &&& 255)) (nI (en * 64 - 7)).toNatClampNeg (((nI len) * 8) >>> (8 &&& 31)))))] H := hP
  have hD : va_D A [(g0, .inr (3, [.ref tx, .ref wo, .ref di, .int 1732584193, .int (-271733879), .int vc, .int vd])), (tx, .inr (1, [.ref tr, .int (nI len)])), (wo, .inl ((cT 0), 16, .inl fw)), (di, .inl ((cT 0), 16, .inl fd)), (tr, .inl ((cT 0), 1192, .inl (upd (upd (upd g_11 (nI len).toNatClampNeg 128) (nI (en * 64 - 8)).toNatClampNeg (((nI len) * 8) &&& 255)) (nI (en * 64 - 7)).toNatClampNeg (((nI len) * 8) >>> (8 &&& 31)))))] := hD
  refine lv_aload_n hx hb d_Dg_digestText_100 rfl (lv_at hl 2 rfl) ?_
  refine lv_ldc (v := (-1732584194)) hx hb hown (hg _ k_595) d_Dg_digestText_101 ?_
  refine va_put (D := (dC, dI)) (ci := 3) (v := (.int (-1732584194))) (ty := .int) (C := R_Dg) (T := F_Dg) (N := 7) hx hb hg in_Dg t_Dg tok_Dg nm_Dg hown hK hP hD hS 0 rfl rfl 5 (by decide) (hg _ k_121) (fun _ h9 => h9) rfl (by decide +kernel) rfl rfl (Nat.le_of_ble_eq_true rfl) d_Dg_digestText_103 (fun H locs hP hD hS => ?_)
  have hP : va_P (dC, dI) vcl [(g0, .inr (3, [.ref tx, .ref wo, .ref di, .int 1732584193, .int (-271733879), .int (-1732584194), .int vd])), (tx, .inr (1, [.ref tr, .int (nI len)])), (wo, .inl ((cT 0), 16, .inl fw)), (di, .inl ((cT 0), 16, .inl fd)), (tr, .inl ((cT 0), 1192, .inl (upd (upd (upd g_11 (nI len).toNatClampNeg 128) (nI (en * 64 - 8)).toNatClampNeg (((nI len) * 8) &&& 255)) (nI (en * 64 - 7)).toNatClampNeg (((nI len) * 8) >>> (8 &&& 31)))))] H := hP
  have hD : va_D A [(g0, .inr (3, [.ref tx, .ref wo, .ref di, .int 1732584193, .int (-271733879), .int (-1732584194), .int vd])), (tx, .inr (1, [.ref tr, .int (nI len)])), (wo, .inl ((cT 0), 16, .inl fw)), (di, .inl ((cT 0), 16, .inl fd)), (tr, .inl ((cT 0), 1192, .inl (upd (upd (upd g_11 (nI len).toNatClampNeg 128) (nI (en * 64 - 8)).toNatClampNeg (((nI len) * 8) &&& 255)) (nI (en * 64 - 7)).toNatClampNeg (((nI len) * 8) >>> (8 &&& 31)))))] := hD
  refine lv_aload_n hx hb d_Dg_digestText_106 rfl (lv_at hl 2 rfl) ?_
  refine lv_ldc (v := 271733878) hx hb hown (hg _ k_596) d_Dg_digestText_107 ?_
  refine va_put (D := (dC, dI)) (ci := 3) (v := (.int 271733878)) (ty := .int) (C := R_Dg) (T := F_Dg) (N := 7) hx hb hg in_Dg t_Dg tok_Dg nm_Dg hown hK hP hD hS 0 rfl rfl 6 (by decide) (hg _ k_122) (fun _ h9 => h9) rfl (by decide +kernel) rfl rfl (Nat.le_of_ble_eq_true rfl) d_Dg_digestText_109 (fun H locs hP hD hS => ?_)
  have hP : va_P (dC, dI) vcl [(g0, .inr (3, [.ref tx, .ref wo, .ref di, .int 1732584193, .int (-271733879), .int (-1732584194), .int 271733878])), (tx, .inr (1, [.ref tr, .int (nI len)])), (wo, .inl ((cT 0), 16, .inl fw)), (di, .inl ((cT 0), 16, .inl fd)), (tr, .inl ((cT 0), 1192, .inl (upd (upd (upd g_11 (nI len).toNatClampNeg 128) (nI (en * 64 - 8)).toNatClampNeg (((nI len) * 8) &&& 255)) (nI (en * 64 - 7)).toNatClampNeg (((nI len) * 8) >>> (8 &&& 31)))))] H := hP
  have hD : va_D A [(g0, .inr (3, [.ref tx, .ref wo, .ref di, .int 1732584193, .int (-271733879), .int (-1732584194), .int 271733878])), (tx, .inr (1, [.ref tr, .int (nI len)])), (wo, .inl ((cT 0), 16, .inl fw)), (di, .inl ((cT 0), 16, .inl fd)), (tr, .inl ((cT 0), 1192, .inl (upd (upd (upd g_11 (nI len).toNatClampNeg 128) (nI (en * 64 - 8)).toNatClampNeg (((nI len) * 8) &&& 255)) (nI (en * 64 - 7)).toNatClampNeg (((nI len) * 8) >>> (8 &&& 31)))))] := hD
  refine lv_iconst (v := 0) hx hb d_Dg_digestText_112 (by decide) ?_
  refine lv_istore_n (lv' := [(3, .int 0), (2, .int (nI (en * 64))), (1, .int (nI len)), (0, .ref g0)]) hx hb d_Dg_digestText_113 rfl hl (by decide) rfl (fun ls hl => ?_)
  have hP := hP.sub (ws' := [(g0, .inr (3, [.ref tx, .ref wo, .ref di, .int 1732584193, .int (-271733879), .int (-1732584194), .int 271733878])), (tx, .inr (1, [.ref tr, .int (nI len)])), (tr, .inl ((cT 0), 1192, .inl (upd (upd (upd g_11 (nI len).toNatClampNeg 128) (nI (en * 64 - 8)).toNatClampNeg (((nI len) * 8) &&& 255)) (nI (en * 64 - 7)).toNatClampNeg (((nI len) * 8) >>> (8 &&& 31))))), (wo, .inl ((cT 0), 16, .inl fw)), (di, .inl ((cT 0), 16, .inl fd))]) [0, 1, 4, 2, 3] rfl
  have hD := hD.sub (ws' := [(g0, .inr (3, [.ref tx, .ref wo, .ref di, .int 1732584193, .int (-271733879), .int (-1732584194), .int 271733878])), (tx, .inr (1, [.ref tr, .int (nI len)])), (tr, .inl ((cT 0), 1192, .inl (upd (upd (upd g_11 (nI len).toNatClampNeg 128) (nI (en * 64 - 8)).toNatClampNeg (((nI len) * 8) &&& 255)) (nI (en * 64 - 7)).toNatClampNeg (((nI len) * 8) >>> (8 &&& 31))))), (wo, .inl ((cT 0), 16, .inl fw)), (di, .inl ((cT 0), 16, .inl fd))]) [0, 1, 4, 2, 3] (by decide) rfl
  generalize upd (upd (upd g_11 (nI len).toNatClampNeg 128) (nI (en * 64 - 8)).toNatClampNeg (((nI len) * 8) &&& 255)) (nI (en * 64 - 7)).toNatClampNeg (((nI len) * 8) >>> (8 &&& 31)) = f1 at hP hD
  have hP : va_P (dC, dI) vcl [(g0, .inr (3, [.ref tx, .ref wo, .ref di, .int 1732584193, .int (-271733879), .int (-1732584194), .int 271733878])), (tx, .inr (1, [.ref tr, .int (nI len)])), (tr, .inl ((cT 0), 1192, .inl f1)), (wo, .inl ((cT 0), 16, .inl fw)), (di, .inl ((cT 0), 16, .inl fd))] H := hP
  have hD : va_D A [(g0, .inr (3, [.ref tx, .ref wo, .ref di, .int 1732584193, .int (-271733879), .int (-1732584194), .int 271733878])), (tx, .inr (1, [.ref tr, .int (nI len)])), (tr, .inl ((cT 0), 1192, .inl f1)), (wo, .inl ((cT 0), 16, .inl fw)), (di, .inl ((cT 0), 16, .inl fd))] := hD
  have hl := lv_sub hl [0, 1, 3, 2] (show _ = [(3, .int 0), (2, .int (nI (en * 64))), (0, .ref g0), (1, .int (nI len))] from rfl)
  have L17 : ∀ (Q : State → Prop) (exit : ∀ (fw : Nat → Int32) (va : Int32) (vb : Int32) (vc : Int32) (vd : Int32) (H : Heap) (locs : List Loc) (ls : Array Slot), va_P (dC, dI) vcl [(g0, .inr (3, [.ref tx, .ref wo, .ref di, .int va, .int vb, .int vc, .int vd])), (tx, .inr (1, [.ref tr, .int (nI len)])), (tr, .inl ((cT 0), 1192, .inl f1)), (wo, .inl ((cT 0), 16, .inl fw)), (di, .inl ((cT 0), 16, .inl fd))] H → va_D A [(g0, .inr (3, [.ref tx, .ref wo, .ref di, .int va, .int vb, .int vc, .int vd])), (tx, .inr (1, [.ref tr, .int (nI len)])), (tr, .inl ((cT 0), 1192, .inl f1)), (wo, .inl ((cT 0), 16, .inl fw)), (di, .inl ((cT 0), 16, .inl fd))] → va_S A s.heap H locs → lv_has ls 4 [(3, .int (nI (en * 64))), (2, .int (nI (en * 64))), (0, .ref g0), (1, .int (nI len))] → W p l e ({ frames := 2, cells := 0, slots := 0, locals := 50 } : Room) s m args below meth c H locs 0 0 Q (F0 m 130 ls [])) (j8 i : Nat) (fw : Nat → Int32) (va : Int32) (vb : Int32) (vc : Int32) (vd : Int32) (H : Heap) (locs : List Loc) (ls : Array Slot), i + j8 = en → va_P (dC, dI) vcl [(g0, .inr (3, [.ref tx, .ref wo, .ref di, .int va, .int vb, .int vc, .int vd])), (tx, .inr (1, [.ref tr, .int (nI len)])), (tr, .inl ((cT 0), 1192, .inl f1)), (wo, .inl ((cT 0), 16, .inl fw)), (di, .inl ((cT 0), 16, .inl fd))] H → va_D A [(g0, .inr (3, [.ref tx, .ref wo, .ref di, .int va, .int vb, .int vc, .int vd])), (tx, .inr (1, [.ref tr, .int (nI len)])), (tr, .inl ((cT 0), 1192, .inl f1)), (wo, .inl ((cT 0), 16, .inl fw)), (di, .inl ((cT 0), 16, .inl fd))] → va_S A s.heap H locs → lv_has ls 4 [(3, .int (nI (i * 64))), (2, .int (nI (en * 64))), (0, .ref g0), (1, .int (nI len))] → W p l e ({ frames := 2, cells := 0, slots := 0, locals := 50 } : Room) s m args below meth c H locs 0 0 Q (F0 m 114 ls []) := by
    intro Q exit j8
    induction j8 with
    | zero => 
      intro i fw va vb vc vd H locs ls hij  hP hD hS hl
      have hij : en = i := by omega
      refine lv_iload_n hx hb d_Dg_digestText_114 rfl (lv_at hl 0 rfl) ?_
      refine lv_iload_n hx hb d_Dg_digestText_115 rfl (lv_at hl 1 rfl) ?_
      refine lv_icmp_ge (tgt := 130) hx hb d_Dg_digestText_116 (by decide) (fun hc18 => ?_) (fun hn9 => absurd (nI_le (by omega) (by omega)) hn9)
      subst hij
      exact exit fw va vb vc vd _ _ _  hP hD hS hl
    | succ j8 ih => 
      intro i fw va vb vc vd H locs ls hij  hP hD hS hl
      have hlt : i < en := by omega
      refine lv_iload_n hx hb d_Dg_digestText_114 rfl (lv_at hl 0 rfl) ?_
      refine lv_iload_n hx hb d_Dg_digestText_115 rfl (lv_at hl 1 rfl) ?_
      refine lv_icmp_ge (tgt := 130) hx hb d_Dg_digestText_116 (by decide) (fun hn9 => absurd hn9 (nI_ge (show i * 64 < en * 64 by omega) (by omega))) (fun hc19 => ?_)
      refine lv_aload_n hx hb d_Dg_digestText_119 rfl (lv_at hl 2 rfl) ?_
      refine lv_iload_n hx hb d_Dg_digestText_120 rfl (lv_at hl 0 rfl) ?_
      have hPc := hP.sub (ws' := [(g0, .inr (3, [.ref tx, .ref wo, .ref di, .int va, .int vb, .int vc, .int vd])), (tx, .inr (1, [.ref tr, .int (nI len)])), (tr, .inl ((cT 0), 1192, .inl f1)), (wo, .inl ((cT 0), 16, .inl fw))]) [0, 1, 2, 3] rfl
      have hDc := hD.sub (ws' := [(g0, .inr (3, [.ref tx, .ref wo, .ref di, .int va, .int vb, .int vc, .int vd])), (tx, .inr (1, [.ref tr, .int (nI len)])), (tr, .inl ((cT 0), 1192, .inl f1)), (wo, .inl ((cT 0), 16, .inl fw))]) [0, 1, 2, 3] (by decide) rfl
      have hFc := va_free (wc := [(g0, .inr (3, [.ref tx, .ref wo, .ref di, .int va, .int vb, .int vc, .int vd])), (tx, .inr (1, [.ref tr, .int (nI len)])), (tr, .inl ((cT 0), 1192, .inl f1)), (wo, .inl ((cT 0), 16, .inl fw))]) hD hS hA [0, 1, 2, 3] rfl
      refine va_callv (va_runV (C := "DoorServer$Digests") (As := [.int (nI (i * 64))]) (rest := []) ⟨hx, hb, hml, hown, hg⟩ (c_Dg_mix l dC dI cT H.size g0 tx tr wo di va vb vc vd len f1 fw (i * 64) (by omega)) (cwV 1 hg (gI (List.forall_mem_append.mpr ⟨List.forall_mem_cons.mpr ⟨k_597, List.forall_mem_cons.mpr ⟨k_599, List.forall_mem_cons.mpr ⟨(big_sel (q := y_Dg_mixBlock) (n := 7) (by decide +kernel)), List.forall_mem_cons.mpr ⟨k_5, fun _ h => absurd h List.not_mem_nil⟩⟩⟩⟩, List.forall_mem_cons.mpr ⟨k_600, fun _ h => h⟩⟩)) rfl rfl rfl (by decide +kernel) ⟨Nat.le_of_ble_eq_true rfl, Nat.le_of_ble_eq_true rfl⟩) ⟨fun a U g mk q => by obtain ⟨q0, q1, qP, qK, qD, qE⟩ := q; exact ⟨q0, q1, qP, va_K.moved (u := U) (U := U.calling g mk a) (Vm.Alike.refl U.vm) qK, qD, qE.at (State.WarmedH.refl _) (fun _ _ _ => rfl) (fun _ h => h)⟩, va_recv (q0 := 0) (ci := 3) hK hP rfl rfl, fun U hU hW => ⟨rfl, by rw [hU], by rw [hU]; exact hPc, va_K.moved hW.alike hK, hDc.weaken (fun _ _ _ _ => trivial), by rw [hU]; exact hE.at hW hS.2.1 hFc⟩⟩ rfl rfl hl.1 rfl (lv_room (Nat.le_of_ble_eq_true rfl)) d_Dg_digestText_121 ⟨Nat.le_of_ble_eq_true rfl, Nat.le_of_ble_eq_true rfl⟩) hS (fun q _ h => hFc q h) hFc (fun u t H1 locs ht hvm hw hB hz1 hk1 hS => ?_)
      obtain ⟨fw2_20, a2_21, b2_22, c2_23, d2_24⟩ := u
      try dsimp only at hw hB
      obtain ⟨hP1, hK1, hD1⟩ := hB
      rw [ht] at hP1
      obtain ⟨hP, hD⟩ := va_join (wr := [(di, .inl ((cT 0), 16, .inl fd))]) (w1 := [(g0, .inr (3, [.ref tx, .ref wo, .ref di, .int a2_21, .int b2_22, .int c2_23, .int d2_24])), (tx, .inr (1, [.ref tr, .int (nI len)])), (tr, .inl ((cT 0), 1192, .inl f1)), (wo, .inl ((cT 0), 16, .inl fw2_20))]) hP hD [0, 1, 2, 3] [4] rfl rfl (by decide) (by decide) hk1 hFc hP1 hD1
      have hw25 := hw
      clear hPc hDc hFc hz1 hk1 hP1 hK1 hD1
      generalize H1 = H at hP hS ⊢
      have hP : va_P (dC, dI) vcl [(di, .inl ((cT 0), 16, .inl fd)), (g0, .inr (3, [.ref tx, .ref wo, .ref di, .int a2_21, .int b2_22, .int c2_23, .int d2_24])), (tx, .inr (1, [.ref tr, .int (nI len)])), (tr, .inl ((cT 0), 1192, .inl f1)), (wo, .inl ((cT 0), 16, .inl fw2_20))] H := hP
      have hD : va_D A [(di, .inl ((cT 0), 16, .inl fd)), (g0, .inr (3, [.ref tx, .ref wo, .ref di, .int a2_21, .int b2_22, .int c2_23, .int d2_24])), (tx, .inr (1, [.ref tr, .int (nI len)])), (tr, .inl ((cT 0), 1192, .inl f1)), (wo, .inl ((cT 0), 16, .inl fw2_20))] := hD
      refine lv_iinc (k := 0) (v := nI ((i + 1) * 64)) (lv' := [(3, .int (nI ((i + 1) * 64))), (2, .int (nI (en * 64))), (0, .ref g0), (1, .int (nI len))]) hx hb d_Dg_digestText_124 hl rfl (by rw [Nat.add_mul]; exact nI_add _ 64) (by decide) rfl (fun ls hl => ?_)
      refine lv_goto (tgt := 114) hx hb d_Dg_digestText_127 (by decide) ?_
      have hP := hP.sub (ws' := [(g0, .inr (3, [.ref tx, .ref wo, .ref di, .int a2_21, .int b2_22, .int c2_23, .int d2_24])), (tx, .inr (1, [.ref tr, .int (nI len)])), (tr, .inl ((cT 0), 1192, .inl f1)), (wo, .inl ((cT 0), 16, .inl fw2_20)), (di, .inl ((cT 0), 16, .inl fd))]) [1, 2, 3, 4, 0] rfl
      have hD := hD.sub (ws' := [(g0, .inr (3, [.ref tx, .ref wo, .ref di, .int a2_21, .int b2_22, .int c2_23, .int d2_24])), (tx, .inr (1, [.ref tr, .int (nI len)])), (tr, .inl ((cT 0), 1192, .inl f1)), (wo, .inl ((cT 0), 16, .inl fw2_20)), (di, .inl ((cT 0), 16, .inl fd))]) [1, 2, 3, 4, 0] (by decide) rfl
      exact ih (i + 1) fw2_20 a2_21 b2_22 c2_23 d2_24 _ _ _ (by omega)  hP hD hS hl
  refine L17 _ (fun fw va vb vc vd H locs ls  hP hD hS hl => ?_) (en - 0) 0 fw 1732584193 (-271733879) (-1732584194) 271733878 H _ ls (by omega)  hP hD hS hl
  refine lv_iconst (v := 0) hx hb d_Dg_digestText_130 (by decide) ?_
  refine lv_istore_n (lv' := [(3, .int 0), (2, .int (nI (en * 64))), (0, .ref g0), (1, .int (nI len))]) hx hb d_Dg_digestText_131 rfl hl (by decide) rfl (fun ls hl => ?_)
  have hl := lv_sub hl [0, 1, 2, 3] (show _ = [(3, .int 0), (2, .int (nI (en * 64))), (0, .ref g0), (1, .int (nI len))] from rfl)
  have L26 : ∀ (Q : State → Prop) (exit : ∀ (fd1 : Nat → Int32) (H : Heap) (locs : List Loc) (ls : Array Slot), (AB fd → AB fd1) → va_P (dC, dI) vcl [(g0, .inr (3, [.ref tx, .ref wo, .ref di, .int va, .int vb, .int vc, .int vd])), (tx, .inr (1, [.ref tr, .int (nI len)])), (tr, .inl ((cT 0), 1192, .inl f1)), (wo, .inl ((cT 0), 16, .inl fw)), (di, .inl ((cT 0), 16, .inl fd1))] H → va_D A [(g0, .inr (3, [.ref tx, .ref wo, .ref di, .int va, .int vb, .int vc, .int vd])), (tx, .inr (1, [.ref tr, .int (nI len)])), (tr, .inl ((cT 0), 1192, .inl f1)), (wo, .inl ((cT 0), 16, .inl fw)), (di, .inl ((cT 0), 16, .inl fd1))] → va_S A s.heap H locs → lv_has ls 4 [(3, .int (nI 4)), (2, .int (nI (en * 64))), (0, .ref g0), (1, .int (nI len))] → W p l e ({ frames := 2, cells := 0, slots := 0, locals := 50 } : Room) s m args below meth c H locs 0 0 Q (F0 m 227 ls [])) (j8 i : Nat) (fd1 : Nat → Int32) (H : Heap) (locs : List Loc) (ls : Array Slot), i + j8 = 4 → (AB fd → AB fd1) → va_P (dC, dI) vcl [(g0, .inr (3, [.ref tx, .ref wo, .ref di, .int va, .int vb, .int vc, .int vd])), (tx, .inr (1, [.ref tr, .int (nI len)])), (tr, .inl ((cT 0), 1192, .inl f1)), (wo, .inl ((cT 0), 16, .inl fw)), (di, .inl ((cT 0), 16, .inl fd1))] H → va_D A [(g0, .inr (3, [.ref tx, .ref wo, .ref di, .int va, .int vb, .int vc, .int vd])), (tx, .inr (1, [.ref tr, .int (nI len)])), (tr, .inl ((cT 0), 1192, .inl f1)), (wo, .inl ((cT 0), 16, .inl fw)), (di, .inl ((cT 0), 16, .inl fd1))] → va_S A s.heap H locs → lv_has ls 4 [(3, .int (nI i)), (2, .int (nI (en * 64))), (0, .ref g0), (1, .int (nI len))] → W p l e ({ frames := 2, cells := 0, slots := 0, locals := 50 } : Room) s m args below meth c H locs 0 0 Q (F0 m 132 ls []) := by
    intro Q exit j8
    induction j8 with
    | zero => 
      intro i fd1 H locs ls hij hab hP hD hS hl
      have hij : 4 = i := by omega
      refine lv_iload_n hx hb d_Dg_digestText_132 rfl (lv_at hl 0 rfl) ?_
      refine lv_iconst (v := 4) hx hb d_Dg_digestText_133 (by decide) ?_
      refine lv_topi (fun x28 e27 => ?_)
      obtain rfl : x28 = nI 4 := by rw [e27]; rfl
      refine lv_icmp_ge (tgt := 227) hx hb d_Dg_digestText_134 (by decide) (fun hc29 => ?_) (fun hn9 => absurd (nI_le (by omega) (by omega)) hn9)
      subst hij
      exact exit fd1 _ _ _ hab hP hD hS hl
    | succ j8 ih => 
      intro i fd1 H locs ls hij hab hP hD hS hl
      have hlt : i < 4 := by omega
      refine lv_iload_n hx hb d_Dg_digestText_132 rfl (lv_at hl 0 rfl) ?_
      refine lv_iconst (v := 4) hx hb d_Dg_digestText_133 (by decide) ?_
      refine lv_topi (fun x31 e30 => ?_)
      obtain rfl : x31 = nI 4 := by rw [e30]; rfl
      refine lv_icmp_ge (tgt := 227) hx hb d_Dg_digestText_134 (by decide) (fun hn9 => absurd hn9 (nI_ge hlt (by omega))) (fun hc32 => ?_)
      refine lv_aload_n hx hb d_Dg_digestText_137 rfl (lv_at hl 2 rfl) ?_
      refine va_get (D := (dC, dI)) (ci := 3) (v := (.ref di)) (C := R_Dg) (T := F_Dg) (N := 7) hx hb hg in_Dg hown hK hP 0 rfl rfl 2 (by decide) (hg _ k_118) (fun _ h9 => h9) rfl d_Dg_digestText_138 ?_
      refine lv_iload_n hx hb d_Dg_digestText_141 rfl (lv_at hl 0 rfl) ?_
      refine lv_aload_n hx hb d_Dg_digestText_142 rfl (lv_at hl 2 rfl) ?_
      refine va_get (D := (dC, dI)) (ci := 3) (v := (.int va)) (C := R_Dg) (T := F_Dg) (N := 7) hx hb hg in_Dg hown hK hP 0 rfl rfl 3 (by decide) (hg _ k_119) (fun _ h9 => h9) rfl d_Dg_digestText_143 ?_
      refine lv_bipush (v := 8) hx hb d_Dg_digestText_146 (by decide) ?_
      refine lv_iload_n hx hb d_Dg_digestText_148 rfl (lv_at hl 0 rfl) ?_
      refine lv_imul hx hb d_Dg_digestText_149 ?_
      refine lv_iushr (v := (va.toUInt32 >>> ((8 * (nI i)).toUInt32 &&& Int32.toUInt32 31)).toInt32) hx hb d_Dg_digestText_150 rfl ?_
      refine lv_sipush (v := 255) hx hb d_Dg_digestText_151 (by decide) ?_
      refine lv_iand hx hb d_Dg_digestText_154 ?_
      refine va_iast hx hb hK hP hD hS 4 0 rfl rfl (i := (nI i)) (vp_in_nI (by omega) (by decide)) d_Dg_digestText_155 (fun H locs hP hD hS => ?_)
      have hP : va_P (dC, dI) vcl [(g0, .inr (3, [.ref tx, .ref wo, .ref di, .int va, .int vb, .int vc, .int vd])), (tx, .inr (1, [.ref tr, .int (nI len)])), (tr, .inl ((cT 0), 1192, .inl f1)), (wo, .inl ((cT 0), 16, .inl fw)), (di, .inl ((cT 0), 16, .inl (upd fd1 (nI i).toNatClampNeg (((va.toUInt32 >>> ((8 * (nI i)).toUInt32 &&& Int32.toUInt32 31)).toInt32) &&& 255))))] H := hP
      have hD : va_D A [(g0, .inr (3, [.ref tx, .ref wo, .ref di, .int va, .int vb, .int vc, .int vd])), (tx, .inr (1, [.ref tr, .int (nI len)])), (tr, .inl ((cT 0), 1192, .inl f1)), (wo, .inl ((cT 0), 16, .inl fw)), (di, .inl ((cT 0), 16, .inl (upd fd1 (nI i).toNatClampNeg (((va.toUInt32 >>> ((8 * (nI i)).toUInt32 &&& Int32.toUInt32 31)).toInt32) &&& 255))))] := hD
      refine lv_aload_n hx hb d_Dg_digestText_156 rfl (lv_at hl 2 rfl) ?_
      refine va_get (D := (dC, dI)) (ci := 3) (v := (.ref di)) (C := R_Dg) (T := F_Dg) (N := 7) hx hb hg in_Dg hown hK hP 0 rfl rfl 2 (by decide) (hg _ k_118) (fun _ h9 => h9) rfl d_Dg_digestText_157 ?_
      refine lv_iconst (v := 4) hx hb d_Dg_digestText_160 (by decide) ?_
      refine lv_iload_n hx hb d_Dg_digestText_161 rfl (lv_at hl 0 rfl) ?_
      refine lv_iadd hx hb d_Dg_digestText_162 ?_
      refine lv_topi (fun x34 e33 => ?_)
      obtain rfl : x34 = nI (4 + i) := by rw [e33]; exact nI_add 4 i
      refine lv_aload_n hx hb d_Dg_digestText_163 rfl (lv_at hl 2 rfl) ?_
      refine va_get (D := (dC, dI)) (ci := 3) (v := (.int vb)) (C := R_Dg) (T := F_Dg) (N := 7) hx hb hg in_Dg hown hK hP 0 rfl rfl 4 (by decide) (hg _ k_120) (fun _ h9 => h9) rfl d_Dg_digestText_164 ?_
      refine lv_bipush (v := 8) hx hb d_Dg_digestText_167 (by decide) ?_
      refine lv_iload_n hx hb d_Dg_digestText_169 rfl (lv_at hl 0 rfl) ?_
      refine lv_imul hx hb d_Dg_digestText_170 ?_
      refine lv_iushr (v := (vb.toUInt32 >>> ((8 * (nI i)).toUInt32 &&& Int32.toUInt32 31)).toInt32) hx hb d_Dg_digestText_171 rfl ?_
      refine lv_sipush (v := 255) hx hb d_Dg_digestText_172 (by decide) ?_
      refine lv_iand hx hb d_Dg_digestText_175 ?_
      refine va_iast hx hb hK hP hD hS 4 0 rfl rfl (i := (nI (4 + i))) (vp_in_nI (by omega) (by decide)) d_Dg_digestText_176 (fun H locs hP hD hS => ?_)
      have hP : va_P (dC, dI) vcl [(g0, .inr (3, [.ref tx, .ref wo, .ref di, .int va, .int vb, .int vc, .int vd])), (tx, .inr (1, [.ref tr, .int (nI len)])), (tr, .inl ((cT 0), 1192, .inl f1)), (wo, .inl ((cT 0), 16, .inl fw)), (di, .inl ((cT 0), 16, .inl (upd (upd fd1 (nI i).toNatClampNeg (((va.toUInt32 >>> ((8 * (nI i)).toUInt32 &&& Int32.toUInt32 31)).toInt32) &&& 255)) (nI (4 + i)).toNatClampNeg (((vb.toUInt32 >>> ((8 * (nI i)).toUInt32 &&& Int32.toUInt32 31)).toInt32) &&& 255))))] H := hP
      have hD : va_D A [(g0, .inr (3, [.ref tx, .ref wo, .ref di, .int va, .int vb, .int vc, .int vd])), (tx, .inr (1, [.ref tr, .int (nI len)])), (tr, .inl ((cT 0), 1192, .inl f1)), (wo, .inl ((cT 0), 16, .inl fw)), (di, .inl ((cT 0), 16, .inl (upd (upd fd1 (nI i).toNatClampNeg (((va.toUInt32 >>> ((8 * (nI i)).toUInt32 &&& Int32.toUInt32 31)).toInt32) &&& 255)) (nI (4 + i)).toNatClampNeg (((vb.toUInt32 >>> ((8 * (nI i)).toUInt32 &&& Int32.toUInt32 31)).toInt32) &&& 255))))] := hD
      refine lv_aload_n hx hb d_Dg_digestText_177 rfl (lv_at hl 2 rfl) ?_
      refine va_get (D := (dC, dI)) (ci := 3) (v := (.ref di)) (C := R_Dg) (T := F_Dg) (N := 7) hx hb hg in_Dg hown hK hP 0 rfl rfl 2 (by decide) (hg _ k_118) (fun _ h9 => h9) rfl d_Dg_digestText_178 ?_
      refine lv_bipush (v := 8) hx hb d_Dg_digestText_181 (by decide) ?_
      refine lv_iload_n hx hb d_Dg_digestText_183 rfl (lv_at hl 0 rfl) ?_
      refine lv_iadd hx hb d_Dg_digestText_184 ?_
      refine lv_topi (fun x36 e35 => ?_)
      obtain rfl : x36 = nI (8 + i) := by rw [e35]; exact nI_add 8 i
      refine lv_aload_n hx hb d_Dg_digestText_185 rfl (lv_at hl 2 rfl) ?_
      refine va_get (D := (dC, dI)) (ci := 3) (v := (.int vc)) (C := R_Dg) (T := F_Dg) (N := 7) hx hb hg in_Dg hown hK hP 0 rfl rfl 5 (by decide) (hg _ k_121) (fun _ h9 => h9) rfl d_Dg_digestText_186 ?_
      refine lv_bipush (v := 8) hx hb d_Dg_digestText_189 (by decide) ?_
      refine lv_iload_n hx hb d_Dg_digestText_191 rfl (lv_at hl 0 rfl) ?_
      refine lv_imul hx hb d_Dg_digestText_192 ?_
      refine lv_iushr (v := (vc.toUInt32 >>> ((8 * (nI i)).toUInt32 &&& Int32.toUInt32 31)).toInt32) hx hb d_Dg_digestText_193 rfl ?_
      refine lv_sipush (v := 255) hx hb d_Dg_digestText_194 (by decide) ?_
      refine lv_iand hx hb d_Dg_digestText_197 ?_
      refine va_iast hx hb hK hP hD hS 4 0 rfl rfl (i := (nI (8 + i))) (vp_in_nI (by omega) (by decide)) d_Dg_digestText_198 (fun H locs hP hD hS => ?_)
      have hP : va_P (dC, dI) vcl [(g0, .inr (3, [.ref tx, .ref wo, .ref di, .int va, .int vb, .int vc, .int vd])), (tx, .inr (1, [.ref tr, .int (nI len)])), (tr, .inl ((cT 0), 1192, .inl f1)), (wo, .inl ((cT 0), 16, .inl fw)), (di, .inl ((cT 0), 16, .inl (upd (upd (upd fd1 (nI i).toNatClampNeg (((va.toUInt32 >>> ((8 * (nI i)).toUInt32 &&& Int32.toUInt32 31)).toInt32) &&& 255)) (nI (4 + i)).toNatClampNeg (((vb.toUInt32 >>> ((8 * (nI i)).toUInt32 &&& Int32.toUInt32 31)).toInt32) &&& 255)) (nI (8 + i)).toNatClampNeg (((vc.toUInt32 >>> ((8 * (nI i)).toUInt32 &&& Int32.toUInt32 31)).toInt32) &&& 255))))] H := hP
      have hD : va_D A [(g0, .inr (3, [.ref tx, .ref wo, .ref di, .int va, .int vb, .int vc, .int vd])), (tx, .inr (1, [.ref tr, .int (nI len)])), (tr, .inl ((cT 0), 1192, .inl f1)), (wo, .inl ((cT 0), 16, .inl fw)), (di, .inl ((cT 0), 16, .inl (upd (upd (upd fd1 (nI i).toNatClampNeg (((va.toUInt32 >>> ((8 * (nI i)).toUInt32 &&& Int32.toUInt32 31)).toInt32) &&& 255)) (nI (4 + i)).toNatClampNeg (((vb.toUInt32 >>> ((8 * (nI i)).toUInt32 &&& Int32.toUInt32 31)).toInt32) &&& 255)) (nI (8 + i)).toNatClampNeg (((vc.toUInt32 >>> ((8 * (nI i)).toUInt32 &&& Int32.toUInt32 31)).toInt32) &&& 255))))] := hD
      refine lv_aload_n hx hb d_Dg_digestText_199 rfl (lv_at hl 2 rfl) ?_
      refine va_get (D := (dC, dI)) (ci := 3) (v := (.ref di)) (C := R_Dg) (T := F_Dg) (N := 7) hx hb hg in_Dg hown hK hP 0 rfl rfl 2 (by decide) (hg _ k_118) (fun _ h9 => h9) rfl d_Dg_digestText_200 ?_
      refine lv_bipush (v := 12) hx hb d_Dg_digestText_203 (by decide) ?_
      refine lv_iload_n hx hb d_Dg_digestText_205 rfl (lv_at hl 0 rfl) ?_
      refine lv_iadd hx hb d_Dg_digestText_206 ?_
      refine lv_topi (fun x38 e37 => ?_)
      obtain rfl : x38 = nI (12 + i) := by rw [e37]; exact nI_add 12 i
      refine lv_aload_n hx hb d_Dg_digestText_207 rfl (lv_at hl 2 rfl) ?_
      refine va_get (D := (dC, dI)) (ci := 3) (v := (.int vd)) (C := R_Dg) (T := F_Dg) (N := 7) hx hb hg in_Dg hown hK hP 0 rfl rfl 6 (by decide) (hg _ k_122) (fun _ h9 => h9) rfl d_Dg_digestText_208 ?_
      refine lv_bipush (v := 8) hx hb d_Dg_digestText_211 (by decide) ?_
      refine lv_iload_n hx hb d_Dg_digestText_213 rfl (lv_at hl 0 rfl) ?_
      refine lv_imul hx hb d_Dg_digestText_214 ?_
      refine lv_iushr (v := (vd.toUInt32 >>> ((8 * (nI i)).toUInt32 &&& Int32.toUInt32 31)).toInt32) hx hb d_Dg_digestText_215 rfl ?_
      refine lv_sipush (v := 255) hx hb d_Dg_digestText_216 (by decide) ?_
      refine lv_iand hx hb d_Dg_digestText_219 ?_
      refine va_iast hx hb hK hP hD hS 4 0 rfl rfl (i := (nI (12 + i))) (vp_in_nI (by omega) (by decide)) d_Dg_digestText_220 (fun H locs hP hD hS => ?_)
      have hP : va_P (dC, dI) vcl [(g0, .inr (3, [.ref tx, .ref wo, .ref di, .int va, .int vb, .int vc, .int vd])), (tx, .inr (1, [.ref tr, .int (nI len)])), (tr, .inl ((cT 0), 1192, .inl f1)), (wo, .inl ((cT 0), 16, .inl fw)), (di, .inl ((cT 0), 16, .inl (upd (upd (upd (upd fd1 (nI i).toNatClampNeg (((va.toUInt32 >>> ((8 * (nI i)).toUInt32 &&& Int32.toUInt32 31)).toInt32) &&& 255)) (nI (4 + i)).toNatClampNeg (((vb.toUInt32 >>> ((8 * (nI i)).toUInt32 &&& Int32.toUInt32 31)).toInt32) &&& 255)) (nI (8 + i)).toNatClampNeg (((vc.toUInt32 >>> ((8 * (nI i)).toUInt32 &&& Int32.toUInt32 31)).toInt32) &&& 255)) (nI (12 + i)).toNatClampNeg (((vd.toUInt32 >>> ((8 * (nI i)).toUInt32 &&& Int32.toUInt32 31)).toInt32) &&& 255))))] H := hP
      have hD : va_D A [(g0, .inr (3, [.ref tx, .ref wo, .ref di, .int va, .int vb, .int vc, .int vd])), (tx, .inr (1, [.ref tr, .int (nI len)])), (tr, .inl ((cT 0), 1192, .inl f1)), (wo, .inl ((cT 0), 16, .inl fw)), (di, .inl ((cT 0), 16, .inl (upd (upd (upd (upd fd1 (nI i).toNatClampNeg (((va.toUInt32 >>> ((8 * (nI i)).toUInt32 &&& Int32.toUInt32 31)).toInt32) &&& 255)) (nI (4 + i)).toNatClampNeg (((vb.toUInt32 >>> ((8 * (nI i)).toUInt32 &&& Int32.toUInt32 31)).toInt32) &&& 255)) (nI (8 + i)).toNatClampNeg (((vc.toUInt32 >>> ((8 * (nI i)).toUInt32 &&& Int32.toUInt32 31)).toInt32) &&& 255)) (nI (12 + i)).toNatClampNeg (((vd.toUInt32 >>> ((8 * (nI i)).toUInt32 &&& Int32.toUInt32 31)).toInt32) &&& 255))))] := hD
      refine lv_iinc (k := 0) (v := nI (i + 1)) (lv' := [(3, .int (nI (i + 1))), (2, .int (nI (en * 64))), (0, .ref g0), (1, .int (nI len))]) hx hb d_Dg_digestText_221 hl rfl (nI_1 i) (by decide) rfl (fun ls hl => ?_)
      refine lv_goto (tgt := 132) hx hb d_Dg_digestText_224 (by decide) ?_
      exact ih (i + 1) _ _ _ _ (by omega) (fun h9 => AB_upd (AB_upd (AB_upd (AB_upd (hab h9) (BY_and _)) (BY_and _)) (BY_and _)) (BY_and _)) hP hD hS hl
  refine L26 _ (fun fd1 H locs ls hab hP hD hS hl => ?_) (4 - 0) 0 fd H _ ls (by omega) (fun h9 => h9) hP hD hS hl
  refine lv_aload_n hx hb d_Dg_digestText_227 rfl (lv_at hl 2 rfl) ?_
  refine va_get (D := (dC, dI)) (ci := 3) (v := (.ref di)) (C := R_Dg) (T := F_Dg) (N := 7) hx hb hg in_Dg hown hK hP 0 rfl rfl 2 (by decide) (hg _ k_118) (fun _ h9 => h9) rfl d_Dg_digestText_228 ?_
  have hP9 := hP.sub (ws' := [(g0, .inr (3, [.ref tx, .ref wo, .ref di, .int va, .int vb, .int vc, .int vd])), (tx, .inr (1, [.ref tr, .int (nI len)])), (tr, .inl ((cT 0), 1192, .inl f1)), (wo, .inl ((cT 0), 16, .inl fw)), (di, .inl ((cT 0), 16, .inl fd1))]) [0, 1, 2, 3, 4] rfl
  have hD9 := hD.sub (ws' := [(g0, .inr (3, [.ref tx, .ref wo, .ref di, .int va, .int vb, .int vc, .int vd])), (tx, .inr (1, [.ref tr, .int (nI len)])), (tr, .inl ((cT 0), 1192, .inl f1)), (wo, .inl ((cT 0), 16, .inl fw)), (di, .inl ((cT 0), 16, .inl fd1))]) [0, 1, 2, 3, 4] (by decide) rfl
  exact W.aret (v := .ref di) hx hb hr (by first | exact Or.inr ⟨_, rfl⟩ | exact Or.inl ⟨_, rfl⟩) (Or.inr ⟨_, rfl⟩) (fun t ht hW => ⟨⟨⟨fw, fd1, va, vb, vc, vd, f1⟩, _, rfl, hab, rfl, by rw [ht]; exact hP9, va_K.moved hW.alike hK, hD9⟩, hS.F ht⟩) hS.2.2 d_Dg_digestText_231
