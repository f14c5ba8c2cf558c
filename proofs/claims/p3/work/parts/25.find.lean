theorem d_Md_isRightSize_0 : decode b_Md_isRightSize 0 = .ok (.iload_n 0, 1) := by decide +kernel
theorem d_Md_isRightSize_1 : decode b_Md_isRightSize 1 = .ok (.bipush 40, 2) := by decide +kernel
theorem d_Md_isRightSize_3 : decode b_Md_isRightSize 3 = .ok (.if_icmp .eq 15, 3) := by decide +kernel
theorem d_Md_isRightSize_18 : decode b_Md_isRightSize 18 = .ok (.iload_n 1, 1) := by decide +kernel
theorem d_Md_isRightSize_19 : decode b_Md_isRightSize 19 = .ok (.iconst 4, 1) := by decide +kernel
theorem d_Md_isRightSize_20 : decode b_Md_isRightSize 20 = .ok (.if_icmp .ne 7, 3) := by decide +kernel
theorem d_Md_isRightSize_27 : decode b_Md_isRightSize 27 = .ok (.iconst 0, 1) := by decide +kernel
theorem d_Md_isRightSize_23 : decode b_Md_isRightSize 23 = .ok (.iconst 1, 1) := by decide +kernel
theorem d_Md_isRightSize_24 : decode b_Md_isRightSize 24 = .ok (.goto 4, 3) := by decide +kernel
theorem d_Md_isRightSize_6 : decode b_Md_isRightSize 6 = .ok (.iload_n 0, 1) := by decide +kernel
theorem d_Md_isRightSize_7 : decode b_Md_isRightSize 7 = .ok (.bipush 42, 2) := by decide +kernel
theorem d_Md_isRightSize_9 : decode b_Md_isRightSize 9 = .ok (.if_icmp .eq 9, 3) := by decide +kernel
theorem d_Md_isRightSize_12 : decode b_Md_isRightSize 12 = .ok (.iload_n 0, 1) := by decide +kernel
theorem d_Md_isRightSize_13 : decode b_Md_isRightSize 13 = .ok (.bipush 43, 2) := by decide +kernel
theorem d_Md_isRightSize_15 : decode b_Md_isRightSize 15 = .ok (.if_icmp .ne 14, 3) := by decide +kernel
theorem d_Md_isRightSize_29 : decode b_Md_isRightSize 29 = .ok (.iload_n 0, 1) := by decide +kernel
theorem d_Md_isRightSize_30 : decode b_Md_isRightSize 30 = .ok (.iconst 1, 1) := by decide +kernel
theorem d_Md_isRightSize_31 : decode b_Md_isRightSize 31 = .ok (.if_icmp .eq 9, 3) := by decide +kernel
theorem d_Md_isRightSize_40 : decode b_Md_isRightSize 40 = .ok (.iload_n 1, 1) := by decide +kernel
theorem d_Md_isRightSize_41 : decode b_Md_isRightSize 41 = .ok (.ifCond .le 23, 3) := by decide +kernel
theorem d_Md_isRightSize_64 : decode b_Md_isRightSize 64 = .ok (.iconst 0, 1) := by decide +kernel
theorem d_Md_isRightSize_44 : decode b_Md_isRightSize 44 = .ok (.iload_n 1, 1) := by decide +kernel
theorem d_Md_isRightSize_45 : decode b_Md_isRightSize 45 = .ok (.iload_n 0, 1) := by decide +kernel
theorem d_Md_isRightSize_46 : decode b_Md_isRightSize 46 = .ok (.iconst 1, 1) := by decide +kernel
theorem d_Md_isRightSize_47 : decode b_Md_isRightSize 47 = .ok (.if_icmp .ne 8, 3) := by decide +kernel
theorem d_Md_isRightSize_55 : decode b_Md_isRightSize 55 = .ok (.bipush 16, 2) := by decide +kernel
theorem d_Md_isRightSize_57 : decode b_Md_isRightSize 57 = .ok (.if_icmp .gt 7, 3) := by decide +kernel
theorem d_Md_isRightSize_60 : decode b_Md_isRightSize 60 = .ok (.iconst 1, 1) := by decide +kernel
theorem d_Md_isRightSize_61 : decode b_Md_isRightSize 61 = .ok (.goto 4, 3) := by decide +kernel
theorem d_Md_isRightSize_50 : decode b_Md_isRightSize 50 = .ok (.bipush 20, 2) := by decide +kernel
theorem d_Md_isRightSize_52 : decode b_Md_isRightSize 52 = .ok (.goto 5, 3) := by decide +kernel
theorem d_Md_isRightSize_34 : decode b_Md_isRightSize 34 = .ok (.iload_n 0, 1) := by decide +kernel
theorem d_Md_isRightSize_35 : decode b_Md_isRightSize 35 = .ok (.bipush 44, 2) := by decide +kernel
theorem d_Md_isRightSize_37 : decode b_Md_isRightSize 37 = .ok (.if_icmp .ne 29, 3) := by decide +kernel
theorem d_Md_isRightSize_66 : decode b_Md_isRightSize 66 = .ok (.iload_n 0, 1) := by decide +kernel
theorem d_Md_isRightSize_67 : decode b_Md_isRightSize 67 = .ok (.iconst 2, 1) := by decide +kernel
theorem d_Md_isRightSize_68 : decode b_Md_isRightSize 68 = .ok (.if_icmp .ne 33, 3) := by decide +kernel
theorem d_Md_isRightSize_101 : decode b_Md_isRightSize 101 = .ok (.iload_n 0, 1) := by decide +kernel
theorem d_Md_isRightSize_102 : decode b_Md_isRightSize 102 = .ok (.bipush 24, 2) := by decide +kernel
theorem d_Md_isRightSize_104 : decode b_Md_isRightSize 104 = .ok (.if_icmp .ne 17, 3) := by decide +kernel
theorem d_Md_isRightSize_121 : decode b_Md_isRightSize 121 = .ok (.iload_n 0, 1) := by decide +kernel
theorem d_Md_isRightSize_122 : decode b_Md_isRightSize 122 = .ok (.bipush 79, 2) := by decide +kernel
theorem d_Md_isRightSize_124 : decode b_Md_isRightSize 124 = .ok (.if_icmp .ne 22, 3) := by decide +kernel
theorem d_Md_isRightSize_146 : decode b_Md_isRightSize 146 = .ok (.iload_n 0, 1) := by decide +kernel
theorem d_Md_isRightSize_147 : decode b_Md_isRightSize 147 = .ok (.bipush 80, 2) := by decide +kernel
theorem d_Md_isRightSize_149 : decode b_Md_isRightSize 149 = .ok (.if_icmp .ne 9, 3) := by decide +kernel
theorem d_Md_isRightSize_158 : decode b_Md_isRightSize 158 = .ok (.iconst 1, 1) := by decide +kernel
theorem d_Md_isRightSize_159 : decode b_Md_isRightSize 159 = .ok (.goto 4, 3) := by decide +kernel
theorem d_Md_isRightSize_152 : decode b_Md_isRightSize 152 = .ok (.iload_n 1, 1) := by decide +kernel
theorem d_Md_isRightSize_153 : decode b_Md_isRightSize 153 = .ok (.bipush 16, 2) := by decide +kernel
theorem d_Md_isRightSize_155 : decode b_Md_isRightSize 155 = .ok (.if_icmp .ne 7, 3) := by decide +kernel
theorem d_Md_isRightSize_162 : decode b_Md_isRightSize 162 = .ok (.iconst 0, 1) := by decide +kernel
theorem d_Md_isRightSize_127 : decode b_Md_isRightSize 127 = .ok (.iload_n 1, 1) := by decide +kernel
theorem d_Md_isRightSize_128 : decode b_Md_isRightSize 128 = .ok (.iconst 4, 1) := by decide +kernel
theorem d_Md_isRightSize_129 : decode b_Md_isRightSize 129 = .ok (.if_icmp .lt 13, 3) := by decide +kernel
theorem d_Md_isRightSize_142 : decode b_Md_isRightSize 142 = .ok (.iconst 0, 1) := by decide +kernel
theorem d_Md_isRightSize_143 : decode b_Md_isRightSize 143 = .ok (.goto 20, 3) := by decide +kernel
theorem d_Md_isRightSize_132 : decode b_Md_isRightSize 132 = .ok (.iload_n 1, 1) := by decide +kernel
theorem d_Md_isRightSize_133 : decode b_Md_isRightSize 133 = .ok (.bipush 100, 2) := by decide +kernel
theorem d_Md_isRightSize_135 : decode b_Md_isRightSize 135 = .ok (.if_icmp .gt 7, 3) := by decide +kernel
theorem d_Md_isRightSize_138 : decode b_Md_isRightSize 138 = .ok (.iconst 1, 1) := by decide +kernel
theorem d_Md_isRightSize_139 : decode b_Md_isRightSize 139 = .ok (.goto 24, 3) := by decide +kernel
theorem d_Md_isRightSize_107 : decode b_Md_isRightSize 107 = .ok (.iload_n 1, 1) := by decide +kernel
theorem d_Md_isRightSize_108 : decode b_Md_isRightSize 108 = .ok (.bipush 8, 2) := by decide +kernel
theorem d_Md_isRightSize_110 : decode b_Md_isRightSize 110 = .ok (.if_icmp .ne 7, 3) := by decide +kernel
theorem d_Md_isRightSize_117 : decode b_Md_isRightSize 117 = .ok (.iconst 0, 1) := by decide +kernel
theorem d_Md_isRightSize_118 : decode b_Md_isRightSize 118 = .ok (.goto 45, 3) := by decide +kernel
theorem d_Md_isRightSize_113 : decode b_Md_isRightSize 113 = .ok (.iconst 1, 1) := by decide +kernel
theorem d_Md_isRightSize_114 : decode b_Md_isRightSize 114 = .ok (.goto 49, 3) := by decide +kernel
theorem d_Md_isRightSize_71 : decode b_Md_isRightSize 71 = .ok (.iload_n 1, 1) := by decide +kernel
theorem d_Md_isRightSize_72 : decode b_Md_isRightSize 72 = .ok (.bipush 16, 2) := by decide +kernel
theorem d_Md_isRightSize_74 : decode b_Md_isRightSize 74 = .ok (.if_icmp .eq 21, 3) := by decide +kernel
theorem d_Md_isRightSize_95 : decode b_Md_isRightSize 95 = .ok (.iconst 1, 1) := by decide +kernel
theorem d_Md_isRightSize_96 : decode b_Md_isRightSize 96 = .ok (.goto 4, 3) := by decide +kernel
theorem d_Md_isRightSize_77 : decode b_Md_isRightSize 77 = .ok (.iload_n 1, 1) := by decide +kernel
theorem d_Md_isRightSize_78 : decode b_Md_isRightSize 78 = .ok (.bipush 32, 2) := by decide +kernel
theorem d_Md_isRightSize_80 : decode b_Md_isRightSize 80 = .ok (.if_icmp .eq 15, 3) := by decide +kernel
theorem d_Md_isRightSize_83 : decode b_Md_isRightSize 83 = .ok (.iload_n 1, 1) := by decide +kernel
theorem d_Md_isRightSize_84 : decode b_Md_isRightSize 84 = .ok (.bipush 48, 2) := by decide +kernel
theorem d_Md_isRightSize_86 : decode b_Md_isRightSize 86 = .ok (.if_icmp .eq 9, 3) := by decide +kernel
theorem d_Md_isRightSize_89 : decode b_Md_isRightSize 89 = .ok (.iload_n 1, 1) := by decide +kernel
theorem d_Md_isRightSize_90 : decode b_Md_isRightSize 90 = .ok (.bipush 64, 2) := by decide +kernel
theorem d_Md_isRightSize_92 : decode b_Md_isRightSize 92 = .ok (.if_icmp .ne 7, 3) := by decide +kernel
theorem d_Md_isRightSize_99 : decode b_Md_isRightSize 99 = .ok (.iconst 0, 1) := by decide +kernel
theorem d_Md_isRightSize_28 : decode b_Md_isRightSize 28 = .ok (.ireturn, 1) := by decide +kernel
theorem d_Md_isRightSize_65 : decode b_Md_isRightSize 65 = .ok (.ireturn, 1) := by decide +kernel
theorem d_Md_isRightSize_163 : decode b_Md_isRightSize 163 = .ok (.ireturn, 1) := by decide +kernel
theorem d_Md_isRightSize_100 : decode b_Md_isRightSize 100 = .ok (.ireturn, 1) := by decide +kernel
theorem d_Md_find_0 : decode b_Md_find 0 = .ok (.iconst (-1), 1) := by decide +kernel
theorem d_Md_find_1 : decode b_Md_find 1 = .ok (.istore_n 2, 1) := by decide +kernel
theorem d_Md_find_2 : decode b_Md_find 2 = .ok (.bipush 20, 2) := by decide +kernel
theorem d_Md_find_4 : decode b_Md_find 4 = .ok (.istore_n 3, 1) := by decide +kernel
theorem d_Md_find_5 : decode b_Md_find 5 = .ok (.iload_n 3, 1) := by decide +kernel
theorem d_Md_find_6 : decode b_Md_find 6 = .ok (.aload_n 0, 1) := by decide +kernel
theorem d_Md_find_7 : decode b_Md_find 7 = .ok (.getfield 297, 3) := by decide +kernel
theorem d_Md_find_10 : decode b_Md_find 10 = .ok (.if_icmp .ge 95, 3) := by decide +kernel
theorem d_Md_find_13 : decode b_Md_find 13 = .ok (.iload_n 3, 1) := by decide +kernel
theorem d_Md_find_14 : decode b_Md_find 14 = .ok (.iconst 1, 1) := by decide +kernel
theorem d_Md_find_15 : decode b_Md_find 15 = .ok (.iadd, 1) := by decide +kernel
theorem d_Md_find_16 : decode b_Md_find 16 = .ok (.aload_n 0, 1) := by decide +kernel
theorem d_Md_find_17 : decode b_Md_find 17 = .ok (.getfield 297, 3) := by decide +kernel
theorem d_Md_find_20 : decode b_Md_find 20 = .ok (.if_icmp .ge 32, 3) := by decide +kernel
theorem d_Md_find_52 : decode b_Md_find 52 = .ok (.bipush (-2), 2) := by decide +kernel
theorem d_Md_find_23 : decode b_Md_find 23 = .ok (.aload_n 0, 1) := by decide +kernel
theorem d_Md_find_24 : decode b_Md_find 24 = .ok (.getfield 154, 3) := by decide +kernel
theorem d_Md_find_27 : decode b_Md_find 27 = .ok (.iload_n 3, 1) := by decide +kernel
theorem d_Md_find_28 : decode b_Md_find 28 = .ok (.iconst 1, 1) := by decide +kernel
theorem d_Md_find_29 : decode b_Md_find 29 = .ok (.iadd, 1) := by decide +kernel
theorem d_Md_find_30 : decode b_Md_find 30 = .ok (.iaload, 1) := by decide +kernel
theorem d_Md_find_31 : decode b_Md_find 31 = .ok (.iconst 3, 1) := by decide +kernel
theorem d_Md_find_32 : decode b_Md_find 32 = .ok (.if_icmp .lt 20, 3) := by decide +kernel
theorem d_Md_find_35 : decode b_Md_find 35 = .ok (.iload_n 3, 1) := by decide +kernel
theorem d_Md_find_36 : decode b_Md_find 36 = .ok (.aload_n 0, 1) := by decide +kernel
theorem d_Md_find_37 : decode b_Md_find 37 = .ok (.getfield 154, 3) := by decide +kernel
theorem d_Md_find_40 : decode b_Md_find 40 = .ok (.iload_n 3, 1) := by decide +kernel
theorem d_Md_find_41 : decode b_Md_find 41 = .ok (.iconst 1, 1) := by decide +kernel
theorem d_Md_find_42 : decode b_Md_find 42 = .ok (.iadd, 1) := by decide +kernel
theorem d_Md_find_43 : decode b_Md_find 43 = .ok (.iaload, 1) := by decide +kernel
theorem d_Md_find_44 : decode b_Md_find 44 = .ok (.iadd, 1) := by decide +kernel
theorem d_Md_find_45 : decode b_Md_find 45 = .ok (.aload_n 0, 1) := by decide +kernel
theorem d_Md_find_46 : decode b_Md_find 46 = .ok (.getfield 297, 3) := by decide +kernel
theorem d_Md_find_49 : decode b_Md_find 49 = .ok (.if_icmp .le 6, 3) := by decide +kernel
theorem d_Md_find_55 : decode b_Md_find 55 = .ok (.aload_n 0, 1) := by decide +kernel
theorem d_Md_find_56 : decode b_Md_find 56 = .ok (.getfield 154, 3) := by decide +kernel
theorem d_Md_find_59 : decode b_Md_find 59 = .ok (.iload_n 3, 1) := by decide +kernel
theorem d_Md_find_60 : decode b_Md_find 60 = .ok (.iaload, 1) := by decide +kernel
theorem d_Md_find_61 : decode b_Md_find 61 = .ok (.iload_n 1, 1) := by decide +kernel
theorem d_Md_find_62 : decode b_Md_find 62 = .ok (.if_icmp .ne 29, 3) := by decide +kernel
theorem d_Md_find_91 : decode b_Md_find 91 = .ok (.iload_n 3, 1) := by decide +kernel
theorem d_Md_find_92 : decode b_Md_find 92 = .ok (.aload_n 0, 1) := by decide +kernel
theorem d_Md_find_93 : decode b_Md_find 93 = .ok (.getfield 154, 3) := by decide +kernel
theorem d_Md_find_96 : decode b_Md_find 96 = .ok (.iload_n 3, 1) := by decide +kernel
theorem d_Md_find_97 : decode b_Md_find 97 = .ok (.iconst 1, 1) := by decide +kernel
theorem d_Md_find_98 : decode b_Md_find 98 = .ok (.iadd, 1) := by decide +kernel
theorem d_Md_find_99 : decode b_Md_find 99 = .ok (.iaload, 1) := by decide +kernel
theorem d_Md_find_100 : decode b_Md_find 100 = .ok (.iadd, 1) := by decide +kernel
theorem d_Md_find_101 : decode b_Md_find 101 = .ok (.istore_n 3, 1) := by decide +kernel
theorem d_Md_find_102 : decode b_Md_find 102 = .ok (.goto (-97), 3) := by decide +kernel
theorem d_Md_find_65 : decode b_Md_find 65 = .ok (.iload_n 2, 1) := by decide +kernel
theorem d_Md_find_66 : decode b_Md_find 66 = .ok (.ifCond .ge 20, 3) := by decide +kernel
theorem d_Md_find_86 : decode b_Md_find 86 = .ok (.bipush (-2), 2) := by decide +kernel
theorem d_Md_find_69 : decode b_Md_find 69 = .ok (.iload_n 1, 1) := by decide +kernel
theorem d_Md_find_70 : decode b_Md_find 70 = .ok (.aload_n 0, 1) := by decide +kernel
theorem d_Md_find_71 : decode b_Md_find 71 = .ok (.getfield 154, 3) := by decide +kernel
theorem d_Md_find_74 : decode b_Md_find 74 = .ok (.iload_n 3, 1) := by decide +kernel
theorem d_Md_find_75 : decode b_Md_find 75 = .ok (.iconst 1, 1) := by decide +kernel
theorem d_Md_find_76 : decode b_Md_find 76 = .ok (.iadd, 1) := by decide +kernel
theorem d_Md_find_77 : decode b_Md_find 77 = .ok (.iaload, 1) := by decide +kernel
theorem d_Md_find_78 : decode b_Md_find 78 = .ok (.iconst 2, 1) := by decide +kernel
theorem d_Md_find_79 : decode b_Md_find 79 = .ok (.isub, 1) := by decide +kernel
theorem d_Md_find_80 : decode b_Md_find 80 = .ok (.invokestatic 340, 3) := by decide +kernel
theorem d_Md_find_83 : decode b_Md_find 83 = .ok (.ifCond .ne 6, 3) := by decide +kernel
theorem d_Md_find_89 : decode b_Md_find 89 = .ok (.iload_n 3, 1) := by decide +kernel
theorem d_Md_find_90 : decode b_Md_find 90 = .ok (.istore_n 2, 1) := by decide +kernel
theorem d_Md_find_54 : decode b_Md_find 54 = .ok (.ireturn, 1) := by decide +kernel
theorem d_Md_find_88 : decode b_Md_find 88 = .ok (.ireturn, 1) := by decide +kernel
theorem d_Md_find_105 : decode b_Md_find 105 = .ok (.iload_n 2, 1) := by decide +kernel
theorem d_Md_find_106 : decode b_Md_find 106 = .ok (.ireturn, 1) := by decide +kernel
/-- what isRightSize answers -/
def rsb (x y : Int32) : Int32 := (if x = 40 then (if y = 4 then 1 else 0) else (if x = 42 then (if y = 4 then 1 else 0) else (if x = 43 then (if y = 4 then 1 else 0) else (if x = 1 then (if y ≤ 0 then 0 else (if x = 1 then (if 20 < y then 0 else 1) else (if 16 < y then 0 else 1))) else (if x = 44 then (if y ≤ 0 then 0 else (if x = 1 then (if 20 < y then 0 else 1) else (if 16 < y then 0 else 1))) else (if x = 2 then (if y = 16 then 1 else (if y = 32 then 1 else (if y = 48 then 1 else (if y = 64 then 1 else 0)))) else (if x = 24 then (if y = 8 then 1 else 0) else (if x = 79 then (if y < 4 then 0 else (if 100 < y then 0 else 1)) else (if x = 80 then (if y = 16 then 1 else 0) else 1)))))))))
set_option maxHeartbeats 4000000 in
set_option maxRecDepth 100000 in
/-- isRightSize -/
theorem m_right (l : Launch) (dC : Nat → ClassId) (dI : Nat → Nat → Nat) (cT : Nat → ClassId) (sz : Nat) (x : Int32) (y : Int32)  : Met l y_Md_isRightSize (Cond.code y_Md_isRightSize b_Md_isRightSize 2 (Option.some Jvm.ClassFile.FieldType.boolean) :: BIG) ({ frames := 0, cells := 0, slots := 0, locals := 0 }) (va_Pc [.int x, .int y] (fun U => U.heap.size = sz ∧ va_P (dC, dI) vcl [] U.heap ∧ va_K (dC, dI) vcl (tyL cT) U ∧ va_D (fun _ => True) [])) (va_Qi (S := Unit) (fun rv9 u => rv9 = rsb x y ∧ (True)) (fun u t => va_P (dC, dI) vcl [] t.heap ∧ va_K (dC, dI) vcl (tyL cT) t ∧ va_D (va_A [] sz) []) (va_A [] sz)) 0 0 (va_A [] sz) := by
  refine Met.ofW (cc := b_Md_isRightSize) (maxL := 2) (ret := (Option.some Jvm.ClassFile.FieldType.boolean)) (by decide) rfl ?_
  intro p e s m args below meth c s₁ B hml hv
  obtain ⟨hargs, hsz, hP, hK, hD0⟩ := hv
  have hx := B.exec
  have hb := B.bytes
  have hr := B.returns
  have hts := atoms_spec (ws := (Cond.code y_Md_isRightSize b_Md_isRightSize 2 (Option.some Jvm.ClassFile.FieldType.boolean) :: BIG)) B.pre
  have hg : ∀ w ∈ BIG, w.before _ s = true := fun w h => hts w (List.mem_cons_of_mem _ h)
  have hown : s.vm.findClass "DoorServerModel" = some m.cls := findClass_of_methodNamed B.named
  have hlocks := B.notSynchronized
  subst hsz
  have hD := hD0.self (sz := s.heap.size)
  generalize hAe : va_A [] s.heap.size = A at hD ⊢
  have hA : ∀ q : Nat, s.heap.size ≤ q → A q := fun q h => by rw [← hAe]; exact Or.inr h
  have hS : va_S A s.heap s.heap [] := va_S.rf
  have hl := lv_entry ([.int x, .int y]) (n := 2) (Nat.le_of_ble_eq_true rfl)
  refine W.eq (g2 := entryFrame m (List.toArray [.int x, .int y]) 2) (by rw [hargs]) ?_
  rw [lg_entry_eq]
  generalize (lg_sl ([.int x, .int y]) ++ List.replicate (2 - (lg_sl ([.int x, .int y])).length) Slot.unset).toArray = ls at hl ⊢
  have hl : lv_has ls 2 [(0, .int x), (1, .int y)] := hl
  change W p l e ({ frames := 0, cells := 0, slots := 0, locals := 0 } : Room) s m args below meth c s.heap [] 0 0 _ _
  have hP : va_P (dC, dI) vcl [] s.heap := hP
  refine lv_iload_n hx hb d_Md_isRightSize_0 rfl (lv_at hl 0 rfl) ?_
  refine lv_bipush (v := 40) hx hb d_Md_isRightSize_1 (by decide) ?_
  refine lv_icmp_eq (tgt := 18) hx hb d_Md_isRightSize_3 (by decide) (fun hc29 => ?_) (fun hc29 => ?_)
  · skip
    refine lv_iload_n hx hb d_Md_isRightSize_18 rfl (lv_at hl 1 rfl) ?_
    refine lv_iconst (v := 4) hx hb d_Md_isRightSize_19 (by decide) ?_
    refine lv_icmp_ne (tgt := 27) hx hb d_Md_isRightSize_20 (by decide) (fun hc30 => ?_) (fun hc30 => ?_)
    · skip
      refine lv_iconst (v := 0) hx hb d_Md_isRightSize_27 (by decide) ?_
      have hrs : 0 = rsb x y := (show rsb x y = 0 by rw [rsb, if_pos hc29, if_neg hc30]).symm
      have hP9 := hP.sub (ws' := []) [] rfl
      have hD9 := hD.sub (ws' := []) [] (by decide) rfl
      exact W.zret (v := 0) hx hb hr (by first | rfl | decide) (fun t ht hW => ⟨⟨_, (), rfl, ⟨hrs, trivial⟩, by rw [ht]; exact hP9, va_K.moved hW.alike hK, hD9⟩, hS.F ht⟩) hS.2.2 d_Md_isRightSize_28
    · skip
      refine lv_iconst (v := 1) hx hb d_Md_isRightSize_23 (by decide) ?_
      refine lv_goto (tgt := 28) hx hb d_Md_isRightSize_24 (by decide) ?_
      have hrs : 1 = rsb x y := (show rsb x y = 1 by rw [rsb, if_pos hc29, if_pos hc30]).symm
      have hP9 := hP.sub (ws' := []) [] rfl
      have hD9 := hD.sub (ws' := []) [] (by decide) rfl
      exact W.zret (v := 1) hx hb hr (by first | rfl | decide) (fun t ht hW => ⟨⟨_, (), rfl, ⟨hrs, trivial⟩, by rw [ht]; exact hP9, va_K.moved hW.alike hK, hD9⟩, hS.F ht⟩) hS.2.2 d_Md_isRightSize_28
  · skip
    refine lv_iload_n hx hb d_Md_isRightSize_6 rfl (lv_at hl 0 rfl) ?_
    refine lv_bipush (v := 42) hx hb d_Md_isRightSize_7 (by decide) ?_
    refine lv_icmp_eq (tgt := 18) hx hb d_Md_isRightSize_9 (by decide) (fun hc31 => ?_) (fun hc31 => ?_)
    · skip
      refine lv_iload_n hx hb d_Md_isRightSize_18 rfl (lv_at hl 1 rfl) ?_
      refine lv_iconst (v := 4) hx hb d_Md_isRightSize_19 (by decide) ?_
      refine lv_icmp_ne (tgt := 27) hx hb d_Md_isRightSize_20 (by decide) (fun hc32 => ?_) (fun hc32 => ?_)
      · skip
        refine lv_iconst (v := 0) hx hb d_Md_isRightSize_27 (by decide) ?_
        have hrs : 0 = rsb x y := (show rsb x y = 0 by rw [rsb, if_neg hc29, if_pos hc31, if_neg hc32]).symm
        have hP9 := hP.sub (ws' := []) [] rfl
        have hD9 := hD.sub (ws' := []) [] (by decide) rfl
        exact W.zret (v := 0) hx hb hr (by first | rfl | decide) (fun t ht hW => ⟨⟨_, (), rfl, ⟨hrs, trivial⟩, by rw [ht]; exact hP9, va_K.moved hW.alike hK, hD9⟩, hS.F ht⟩) hS.2.2 d_Md_isRightSize_28
      · skip
        refine lv_iconst (v := 1) hx hb d_Md_isRightSize_23 (by decide) ?_
        refine lv_goto (tgt := 28) hx hb d_Md_isRightSize_24 (by decide) ?_
        have hrs : 1 = rsb x y := (show rsb x y = 1 by rw [rsb, if_neg hc29, if_pos hc31, if_pos hc32]).symm
        have hP9 := hP.sub (ws' := []) [] rfl
        have hD9 := hD.sub (ws' := []) [] (by decide) rfl
        exact W.zret (v := 1) hx hb hr (by first | rfl | decide) (fun t ht hW => ⟨⟨_, (), rfl, ⟨hrs, trivial⟩, by rw [ht]; exact hP9, va_K.moved hW.alike hK, hD9⟩, hS.F ht⟩) hS.2.2 d_Md_isRightSize_28
    · skip
      refine lv_iload_n hx hb d_Md_isRightSize_12 rfl (lv_at hl 0 rfl) ?_
      refine lv_bipush (v := 43) hx hb d_Md_isRightSize_13 (by decide) ?_
      refine lv_icmp_ne (tgt := 29) hx hb d_Md_isRightSize_15 (by decide) (fun hc33 => ?_) (fun hc33 => ?_)
      · skip
        refine lv_iload_n hx hb d_Md_isRightSize_29 rfl (lv_at hl 0 rfl) ?_
        refine lv_iconst (v := 1) hx hb d_Md_isRightSize_30 (by decide) ?_
        refine lv_icmp_eq (tgt := 40) hx hb d_Md_isRightSize_31 (by decide) (fun hc34 => ?_) (fun hc34 => ?_)
        · skip
          refine lv_iload_n hx hb d_Md_isRightSize_40 rfl (lv_at hl 1 rfl) ?_
          refine lv_if_le (tgt := 64) hx hb d_Md_isRightSize_41 (by decide) (fun hc35 => ?_) (fun hc35 => ?_)
          · skip
            refine lv_iconst (v := 0) hx hb d_Md_isRightSize_64 (by decide) ?_
            have hrs : 0 = rsb x y := (show rsb x y = 0 by rw [rsb, if_neg hc29, if_neg hc31, if_neg hc33, if_pos hc34, if_pos hc35]).symm
            have hP9 := hP.sub (ws' := []) [] rfl
            have hD9 := hD.sub (ws' := []) [] (by decide) rfl
            exact W.zret (v := 0) hx hb hr (by first | rfl | decide) (fun t ht hW => ⟨⟨_, (), rfl, ⟨hrs, trivial⟩, by rw [ht]; exact hP9, va_K.moved hW.alike hK, hD9⟩, hS.F ht⟩) hS.2.2 d_Md_isRightSize_65
          · skip
            refine lv_iload_n hx hb d_Md_isRightSize_44 rfl (lv_at hl 1 rfl) ?_
            refine lv_iload_n hx hb d_Md_isRightSize_45 rfl (lv_at hl 0 rfl) ?_
            refine lv_iconst (v := 1) hx hb d_Md_isRightSize_46 (by decide) ?_
            refine lv_icmp_ne (tgt := 55) hx hb d_Md_isRightSize_47 (by decide) (fun hc36 => ?_) (fun hc36 => ?_)
            · skip
              refine lv_bipush (v := 16) hx hb d_Md_isRightSize_55 (by decide) ?_
              refine lv_icmp_gt (tgt := 64) hx hb d_Md_isRightSize_57 (by decide) (fun hc37 => ?_) (fun hc37 => ?_)
              · skip
                refine lv_iconst (v := 0) hx hb d_Md_isRightSize_64 (by decide) ?_
                have hrs : 0 = rsb x y := (show rsb x y = 0 by rw [rsb, if_neg hc29, if_neg hc31, if_neg hc33, if_pos hc34, if_neg hc35, if_neg hc36, if_pos hc37]).symm
                have hP9 := hP.sub (ws' := []) [] rfl
                have hD9 := hD.sub (ws' := []) [] (by decide) rfl
                exact W.zret (v := 0) hx hb hr (by first | rfl | decide) (fun t ht hW => ⟨⟨_, (), rfl, ⟨hrs, trivial⟩, by rw [ht]; exact hP9, va_K.moved hW.alike hK, hD9⟩, hS.F ht⟩) hS.2.2 d_Md_isRightSize_65
              · skip
                refine lv_iconst (v := 1) hx hb d_Md_isRightSize_60 (by decide) ?_
                refine lv_goto (tgt := 65) hx hb d_Md_isRightSize_61 (by decide) ?_
                have hrs : 1 = rsb x y := (show rsb x y = 1 by rw [rsb, if_neg hc29, if_neg hc31, if_neg hc33, if_pos hc34, if_neg hc35, if_neg hc36, if_neg hc37]).symm
                have hP9 := hP.sub (ws' := []) [] rfl
                have hD9 := hD.sub (ws' := []) [] (by decide) rfl
                exact W.zret (v := 1) hx hb hr (by first | rfl | decide) (fun t ht hW => ⟨⟨_, (), rfl, ⟨hrs, trivial⟩, by rw [ht]; exact hP9, va_K.moved hW.alike hK, hD9⟩, hS.F ht⟩) hS.2.2 d_Md_isRightSize_65
            · skip
              refine lv_bipush (v := 20) hx hb d_Md_isRightSize_50 (by decide) ?_
              refine lv_goto (tgt := 57) hx hb d_Md_isRightSize_52 (by decide) ?_
              refine lv_icmp_gt (tgt := 64) hx hb d_Md_isRightSize_57 (by decide) (fun hc38 => ?_) (fun hc38 => ?_)
              · skip
                refine lv_iconst (v := 0) hx hb d_Md_isRightSize_64 (by decide) ?_
                have hrs : 0 = rsb x y := (show rsb x y = 0 by rw [rsb, if_neg hc29, if_neg hc31, if_neg hc33, if_pos hc34, if_neg hc35, if_pos hc36, if_pos hc38]).symm
                have hP9 := hP.sub (ws' := []) [] rfl
                have hD9 := hD.sub (ws' := []) [] (by decide) rfl
                exact W.zret (v := 0) hx hb hr (by first | rfl | decide) (fun t ht hW => ⟨⟨_, (), rfl, ⟨hrs, trivial⟩, by rw [ht]; exact hP9, va_K.moved hW.alike hK, hD9⟩, hS.F ht⟩) hS.2.2 d_Md_isRightSize_65
              · skip
                refine lv_iconst (v := 1) hx hb d_Md_isRightSize_60 (by decide) ?_
                refine lv_goto (tgt := 65) hx hb d_Md_isRightSize_61 (by decide) ?_
                have hrs : 1 = rsb x y := (show rsb x y = 1 by rw [rsb, if_neg hc29, if_neg hc31, if_neg hc33, if_pos hc34, if_neg hc35, if_pos hc36, if_neg hc38]).symm
                have hP9 := hP.sub (ws' := []) [] rfl
                have hD9 := hD.sub (ws' := []) [] (by decide) rfl
                exact W.zret (v := 1) hx hb hr (by first | rfl | decide) (fun t ht hW => ⟨⟨_, (), rfl, ⟨hrs, trivial⟩, by rw [ht]; exact hP9, va_K.moved hW.alike hK, hD9⟩, hS.F ht⟩) hS.2.2 d_Md_isRightSize_65
        · skip
          refine lv_iload_n hx hb d_Md_isRightSize_34 rfl (lv_at hl 0 rfl) ?_
          refine lv_bipush (v := 44) hx hb d_Md_isRightSize_35 (by decide) ?_
          refine lv_icmp_ne (tgt := 66) hx hb d_Md_isRightSize_37 (by decide) (fun hc39 => ?_) (fun hc39 => ?_)
          · skip
            refine lv_iload_n hx hb d_Md_isRightSize_66 rfl (lv_at hl 0 rfl) ?_
            refine lv_iconst (v := 2) hx hb d_Md_isRightSize_67 (by decide) ?_
            refine lv_icmp_ne (tgt := 101) hx hb d_Md_isRightSize_68 (by decide) (fun hc40 => ?_) (fun hc40 => ?_)
            · skip
              refine lv_iload_n hx hb d_Md_isRightSize_101 rfl (lv_at hl 0 rfl) ?_
              refine lv_bipush (v := 24) hx hb d_Md_isRightSize_102 (by decide) ?_
              refine lv_icmp_ne (tgt := 121) hx hb d_Md_isRightSize_104 (by decide) (fun hc41 => ?_) (fun hc41 => ?_)
              · skip
                refine lv_iload_n hx hb d_Md_isRightSize_121 rfl (lv_at hl 0 rfl) ?_
                refine lv_bipush (v := 79) hx hb d_Md_isRightSize_122 (by decide) ?_
                refine lv_icmp_ne (tgt := 146) hx hb d_Md_isRightSize_124 (by decide) (fun hc42 => ?_) (fun hc42 => ?_)
                · skip
                  refine lv_iload_n hx hb d_Md_isRightSize_146 rfl (lv_at hl 0 rfl) ?_
                  refine lv_bipush (v := 80) hx hb d_Md_isRightSize_147 (by decide) ?_
                  refine lv_icmp_ne (tgt := 158) hx hb d_Md_isRightSize_149 (by decide) (fun hc43 => ?_) (fun hc43 => ?_)
                  · skip
                    refine lv_iconst (v := 1) hx hb d_Md_isRightSize_158 (by decide) ?_
                    refine lv_goto (tgt := 163) hx hb d_Md_isRightSize_159 (by decide) ?_
                    have hrs : 1 = rsb x y := (show rsb x y = 1 by rw [rsb, if_neg hc29, if_neg hc31, if_neg hc33, if_neg hc34, if_neg hc39, if_neg hc40, if_neg hc41, if_neg hc42, if_neg hc43]).symm
                    have hP9 := hP.sub (ws' := []) [] rfl
                    have hD9 := hD.sub (ws' := []) [] (by decide) rfl
                    exact W.zret (v := 1) hx hb hr (by first | rfl | decide) (fun t ht hW => ⟨⟨_, (), rfl, ⟨hrs, trivial⟩, by rw [ht]; exact hP9, va_K.moved hW.alike hK, hD9⟩, hS.F ht⟩) hS.2.2 d_Md_isRightSize_163
                  · skip
                    refine lv_iload_n hx hb d_Md_isRightSize_152 rfl (lv_at hl 1 rfl) ?_
                    refine lv_bipush (v := 16) hx hb d_Md_isRightSize_153 (by decide) ?_
                    refine lv_icmp_ne (tgt := 162) hx hb d_Md_isRightSize_155 (by decide) (fun hc44 => ?_) (fun hc44 => ?_)
                    · skip
                      refine lv_iconst (v := 0) hx hb d_Md_isRightSize_162 (by decide) ?_
                      have hrs : 0 = rsb x y := (show rsb x y = 0 by rw [rsb, if_neg hc29, if_neg hc31, if_neg hc33, if_neg hc34, if_neg hc39, if_neg hc40, if_neg hc41, if_neg hc42, if_pos hc43, if_neg hc44]).symm
                      have hP9 := hP.sub (ws' := []) [] rfl
                      have hD9 := hD.sub (ws' := []) [] (by decide) rfl
                      exact W.zret (v := 0) hx hb hr (by first | rfl | decide) (fun t ht hW => ⟨⟨_, (), rfl, ⟨hrs, trivial⟩, by rw [ht]; exact hP9, va_K.moved hW.alike hK, hD9⟩, hS.F ht⟩) hS.2.2 d_Md_isRightSize_163
                    · skip
                      refine lv_iconst (v := 1) hx hb d_Md_isRightSize_158 (by decide) ?_
                      refine lv_goto (tgt := 163) hx hb d_Md_isRightSize_159 (by decide) ?_
                      have hrs : 1 = rsb x y := (show rsb x y = 1 by rw [rsb, if_neg hc29, if_neg hc31, if_neg hc33, if_neg hc34, if_neg hc39, if_neg hc40, if_neg hc41, if_neg hc42, if_pos hc43, if_pos hc44]).symm
                      have hP9 := hP.sub (ws' := []) [] rfl
                      have hD9 := hD.sub (ws' := []) [] (by decide) rfl
                      exact W.zret (v := 1) hx hb hr (by first | rfl | decide) (fun t ht hW => ⟨⟨_, (), rfl, ⟨hrs, trivial⟩, by rw [ht]; exact hP9, va_K.moved hW.alike hK, hD9⟩, hS.F ht⟩) hS.2.2 d_Md_isRightSize_163
                · skip
                  refine lv_iload_n hx hb d_Md_isRightSize_127 rfl (lv_at hl 1 rfl) ?_
                  refine lv_iconst (v := 4) hx hb d_Md_isRightSize_128 (by decide) ?_
                  refine lv_icmp_lt (tgt := 142) hx hb d_Md_isRightSize_129 (by decide) (fun hc45 => ?_) (fun hc45 => ?_)
                  · skip
                    refine lv_iconst (v := 0) hx hb d_Md_isRightSize_142 (by decide) ?_
                    refine lv_goto (tgt := 163) hx hb d_Md_isRightSize_143 (by decide) ?_
                    have hrs : 0 = rsb x y := (show rsb x y = 0 by rw [rsb, if_neg hc29, if_neg hc31, if_neg hc33, if_neg hc34, if_neg hc39, if_neg hc40, if_neg hc41, if_pos hc42, if_pos hc45]).symm
                    have hP9 := hP.sub (ws' := []) [] rfl
                    have hD9 := hD.sub (ws' := []) [] (by decide) rfl
                    exact W.zret (v := 0) hx hb hr (by first | rfl | decide) (fun t ht hW => ⟨⟨_, (), rfl, ⟨hrs, trivial⟩, by rw [ht]; exact hP9, va_K.moved hW.alike hK, hD9⟩, hS.F ht⟩) hS.2.2 d_Md_isRightSize_163
                  · skip
                    refine lv_iload_n hx hb d_Md_isRightSize_132 rfl (lv_at hl 1 rfl) ?_
                    refine lv_bipush (v := 100) hx hb d_Md_isRightSize_133 (by decide) ?_
                    refine lv_icmp_gt (tgt := 142) hx hb d_Md_isRightSize_135 (by decide) (fun hc46 => ?_) (fun hc46 => ?_)
                    · skip
                      refine lv_iconst (v := 0) hx hb d_Md_isRightSize_142 (by decide) ?_
                      refine lv_goto (tgt := 163) hx hb d_Md_isRightSize_143 (by decide) ?_
                      have hrs : 0 = rsb x y := (show rsb x y = 0 by rw [rsb, if_neg hc29, if_neg hc31, if_neg hc33, if_neg hc34, if_neg hc39, if_neg hc40, if_neg hc41, if_pos hc42, if_neg hc45, if_pos hc46]).symm
                      have hP9 := hP.sub (ws' := []) [] rfl
                      have hD9 := hD.sub (ws' := []) [] (by decide) rfl
                      exact W.zret (v := 0) hx hb hr (by first | rfl | decide) (fun t ht hW => ⟨⟨_, (), rfl, ⟨hrs, trivial⟩, by rw [ht]; exact hP9, va_K.moved hW.alike hK, hD9⟩, hS.F ht⟩) hS.2.2 d_Md_isRightSize_163
                    · skip
                      refine lv_iconst (v := 1) hx hb d_Md_isRightSize_138 (by decide) ?_
                      refine lv_goto (tgt := 163) hx hb d_Md_isRightSize_139 (by decide) ?_
                      have hrs : 1 = rsb x y := (show rsb x y = 1 by rw [rsb, if_neg hc29, if_neg hc31, if_neg hc33, if_neg hc34, if_neg hc39, if_neg hc40, if_neg hc41, if_pos hc42, if_neg hc45, if_neg hc46]).symm
                      have hP9 := hP.sub (ws' := []) [] rfl
                      have hD9 := hD.sub (ws' := []) [] (by decide) rfl
                      exact W.zret (v := 1) hx hb hr (by first | rfl | decide) (fun t ht hW => ⟨⟨_, (), rfl, ⟨hrs, trivial⟩, by rw [ht]; exact hP9, va_K.moved hW.alike hK, hD9⟩, hS.F ht⟩) hS.2.2 d_Md_isRightSize_163
              · skip
                refine lv_iload_n hx hb d_Md_isRightSize_107 rfl (lv_at hl 1 rfl) ?_
                refine lv_bipush (v := 8) hx hb d_Md_isRightSize_108 (by decide) ?_
                refine lv_icmp_ne (tgt := 117) hx hb d_Md_isRightSize_110 (by decide) (fun hc47 => ?_) (fun hc47 => ?_)
                · skip
                  refine lv_iconst (v := 0) hx hb d_Md_isRightSize_117 (by decide) ?_
                  refine lv_goto (tgt := 163) hx hb d_Md_isRightSize_118 (by decide) ?_
                  have hrs : 0 = rsb x y := (show rsb x y = 0 by rw [rsb, if_neg hc29, if_neg hc31, if_neg hc33, if_neg hc34, if_neg hc39, if_neg hc40, if_pos hc41, if_neg hc47]).symm
                  have hP9 := hP.sub (ws' := []) [] rfl
                  have hD9 := hD.sub (ws' := []) [] (by decide) rfl
                  exact W.zret (v := 0) hx hb hr (by first | rfl | decide) (fun t ht hW => ⟨⟨_, (), rfl, ⟨hrs, trivial⟩, by rw [ht]; exact hP9, va_K.moved hW.alike hK, hD9⟩, hS.F ht⟩) hS.2.2 d_Md_isRightSize_163
                · skip
                  refine lv_iconst (v := 1) hx hb d_Md_isRightSize_113 (by decide) ?_
                  refine lv_goto (tgt := 163) hx hb d_Md_isRightSize_114 (by decide) ?_
                  have hrs : 1 = rsb x y := (show rsb x y = 1 by rw [rsb, if_neg hc29, if_neg hc31, if_neg hc33, if_neg hc34, if_neg hc39, if_neg hc40, if_pos hc41, if_pos hc47]).symm
                  have hP9 := hP.sub (ws' := []) [] rfl
                  have hD9 := hD.sub (ws' := []) [] (by decide) rfl
                  exact W.zret (v := 1) hx hb hr (by first | rfl | decide) (fun t ht hW => ⟨⟨_, (), rfl, ⟨hrs, trivial⟩, by rw [ht]; exact hP9, va_K.moved hW.alike hK, hD9⟩, hS.F ht⟩) hS.2.2 d_Md_isRightSize_163
            · skip
              refine lv_iload_n hx hb d_Md_isRightSize_71 rfl (lv_at hl 1 rfl) ?_
              refine lv_bipush (v := 16) hx hb d_Md_isRightSize_72 (by decide) ?_
              refine lv_icmp_eq (tgt := 95) hx hb d_Md_isRightSize_74 (by decide) (fun hc48 => ?_) (fun hc48 => ?_)
              · skip
                refine lv_iconst (v := 1) hx hb d_Md_isRightSize_95 (by decide) ?_
                refine lv_goto (tgt := 100) hx hb d_Md_isRightSize_96 (by decide) ?_
                have hrs : 1 = rsb x y := (show rsb x y = 1 by rw [rsb, if_neg hc29, if_neg hc31, if_neg hc33, if_neg hc34, if_neg hc39, if_pos hc40, if_pos hc48]).symm
                have hP9 := hP.sub (ws' := []) [] rfl
                have hD9 := hD.sub (ws' := []) [] (by decide) rfl
                exact W.zret (v := 1) hx hb hr (by first | rfl | decide) (fun t ht hW => ⟨⟨_, (), rfl, ⟨hrs, trivial⟩, by rw [ht]; exact hP9, va_K.moved hW.alike hK, hD9⟩, hS.F ht⟩) hS.2.2 d_Md_isRightSize_100
              · skip
                refine lv_iload_n hx hb d_Md_isRightSize_77 rfl (lv_at hl 1 rfl) ?_
                refine lv_bipush (v := 32) hx hb d_Md_isRightSize_78 (by decide) ?_
                refine lv_icmp_eq (tgt := 95) hx hb d_Md_isRightSize_80 (by decide) (fun hc49 => ?_) (fun hc49 => ?_)
                · skip
                  refine lv_iconst (v := 1) hx hb d_Md_isRightSize_95 (by decide) ?_
                  refine lv_goto (tgt := 100) hx hb d_Md_isRightSize_96 (by decide) ?_
                  have hrs : 1 = rsb x y := (show rsb x y = 1 by rw [rsb, if_neg hc29, if_neg hc31, if_neg hc33, if_neg hc34, if_neg hc39, if_pos hc40, if_neg hc48, if_pos hc49]).symm
                  have hP9 := hP.sub (ws' := []) [] rfl
                  have hD9 := hD.sub (ws' := []) [] (by decide) rfl
                  exact W.zret (v := 1) hx hb hr (by first | rfl | decide) (fun t ht hW => ⟨⟨_, (), rfl, ⟨hrs, trivial⟩, by rw [ht]; exact hP9, va_K.moved hW.alike hK, hD9⟩, hS.F ht⟩) hS.2.2 d_Md_isRightSize_100
                · skip
                  refine lv_iload_n hx hb d_Md_isRightSize_83 rfl (lv_at hl 1 rfl) ?_
                  refine lv_bipush (v := 48) hx hb d_Md_isRightSize_84 (by decide) ?_
                  refine lv_icmp_eq (tgt := 95) hx hb d_Md_isRightSize_86 (by decide) (fun hc50 => ?_) (fun hc50 => ?_)
                  · skip
                    refine lv_iconst (v := 1) hx hb d_Md_isRightSize_95 (by decide) ?_
                    refine lv_goto (tgt := 100) hx hb d_Md_isRightSize_96 (by decide) ?_
                    have hrs : 1 = rsb x y := (show rsb x y = 1 by rw [rsb, if_neg hc29, if_neg hc31, if_neg hc33, if_neg hc34, if_neg hc39, if_pos hc40, if_neg hc48, if_neg hc49, if_pos hc50]).symm
                    have hP9 := hP.sub (ws' := []) [] rfl
                    have hD9 := hD.sub (ws' := []) [] (by decide) rfl
                    exact W.zret (v := 1) hx hb hr (by first | rfl | decide) (fun t ht hW => ⟨⟨_, (), rfl, ⟨hrs, trivial⟩, by rw [ht]; exact hP9, va_K.moved hW.alike hK, hD9⟩, hS.F ht⟩) hS.2.2 d_Md_isRightSize_100
                  · skip
                    refine lv_iload_n hx hb d_Md_isRightSize_89 rfl (lv_at hl 1 rfl) ?_
                    refine lv_bipush (v := 64) hx hb d_Md_isRightSize_90 (by decide) ?_
                    refine lv_icmp_ne (tgt := 99) hx hb d_Md_isRightSize_92 (by decide) (fun hc51 => ?_) (fun hc51 => ?_)
                    · skip
                      refine lv_iconst (v := 0) hx hb d_Md_isRightSize_99 (by decide) ?_
                      have hrs : 0 = rsb x y := (show rsb x y = 0 by rw [rsb, if_neg hc29, if_neg hc31, if_neg hc33, if_neg hc34, if_neg hc39, if_pos hc40, if_neg hc48, if_neg hc49, if_neg hc50, if_neg hc51]).symm
                      have hP9 := hP.sub (ws' := []) [] rfl
                      have hD9 := hD.sub (ws' := []) [] (by decide) rfl
                      exact W.zret (v := 0) hx hb hr (by first | rfl | decide) (fun t ht hW => ⟨⟨_, (), rfl, ⟨hrs, trivial⟩, by rw [ht]; exact hP9, va_K.moved hW.alike hK, hD9⟩, hS.F ht⟩) hS.2.2 d_Md_isRightSize_100
                    · skip
                      refine lv_iconst (v := 1) hx hb d_Md_isRightSize_95 (by decide) ?_
                      refine lv_goto (tgt := 100) hx hb d_Md_isRightSize_96 (by decide) ?_
                      have hrs : 1 = rsb x y := (show rsb x y = 1 by rw [rsb, if_neg hc29, if_neg hc31, if_neg hc33, if_neg hc34, if_neg hc39, if_pos hc40, if_neg hc48, if_neg hc49, if_neg hc50, if_pos hc51]).symm
                      have hP9 := hP.sub (ws' := []) [] rfl
                      have hD9 := hD.sub (ws' := []) [] (by decide) rfl
                      exact W.zret (v := 1) hx hb hr (by first | rfl | decide) (fun t ht hW => ⟨⟨_, (), rfl, ⟨hrs, trivial⟩, by rw [ht]; exact hP9, va_K.moved hW.alike hK, hD9⟩, hS.F ht⟩) hS.2.2 d_Md_isRightSize_100
          · skip
            refine lv_iload_n hx hb d_Md_isRightSize_40 rfl (lv_at hl 1 rfl) ?_
            refine lv_if_le (tgt := 64) hx hb d_Md_isRightSize_41 (by decide) (fun hc52 => ?_) (fun hc52 => ?_)
            · skip
              refine lv_iconst (v := 0) hx hb d_Md_isRightSize_64 (by decide) ?_
              have hrs : 0 = rsb x y := (show rsb x y = 0 by rw [rsb, if_neg hc29, if_neg hc31, if_neg hc33, if_neg hc34, if_pos hc39, if_pos hc52]).symm
              have hP9 := hP.sub (ws' := []) [] rfl
              have hD9 := hD.sub (ws' := []) [] (by decide) rfl
              exact W.zret (v := 0) hx hb hr (by first | rfl | decide) (fun t ht hW => ⟨⟨_, (), rfl, ⟨hrs, trivial⟩, by rw [ht]; exact hP9, va_K.moved hW.alike hK, hD9⟩, hS.F ht⟩) hS.2.2 d_Md_isRightSize_65
            · skip
              refine lv_iload_n hx hb d_Md_isRightSize_44 rfl (lv_at hl 1 rfl) ?_
              refine lv_iload_n hx hb d_Md_isRightSize_45 rfl (lv_at hl 0 rfl) ?_
              refine lv_iconst (v := 1) hx hb d_Md_isRightSize_46 (by decide) ?_
              refine lv_icmp_ne (tgt := 55) hx hb d_Md_isRightSize_47 (by decide) (fun hc53 => ?_) (fun hc53 => ?_)
              · skip
                refine lv_bipush (v := 16) hx hb d_Md_isRightSize_55 (by decide) ?_
                refine lv_icmp_gt (tgt := 64) hx hb d_Md_isRightSize_57 (by decide) (fun hc54 => ?_) (fun hc54 => ?_)
                · skip
                  refine lv_iconst (v := 0) hx hb d_Md_isRightSize_64 (by decide) ?_
                  have hrs : 0 = rsb x y := (show rsb x y = 0 by rw [rsb, if_neg hc29, if_neg hc31, if_neg hc33, if_neg hc34, if_pos hc39, if_neg hc52, if_neg hc53, if_pos hc54]).symm
                  have hP9 := hP.sub (ws' := []) [] rfl
                  have hD9 := hD.sub (ws' := []) [] (by decide) rfl
                  exact W.zret (v := 0) hx hb hr (by first | rfl | decide) (fun t ht hW => ⟨⟨_, (), rfl, ⟨hrs, trivial⟩, by rw [ht]; exact hP9, va_K.moved hW.alike hK, hD9⟩, hS.F ht⟩) hS.2.2 d_Md_isRightSize_65
                · skip
                  refine lv_iconst (v := 1) hx hb d_Md_isRightSize_60 (by decide) ?_
                  refine lv_goto (tgt := 65) hx hb d_Md_isRightSize_61 (by decide) ?_
                  have hrs : 1 = rsb x y := (show rsb x y = 1 by rw [rsb, if_neg hc29, if_neg hc31, if_neg hc33, if_neg hc34, if_pos hc39, if_neg hc52, if_neg hc53, if_neg hc54]).symm
                  have hP9 := hP.sub (ws' := []) [] rfl
                  have hD9 := hD.sub (ws' := []) [] (by decide) rfl
                  exact W.zret (v := 1) hx hb hr (by first | rfl | decide) (fun t ht hW => ⟨⟨_, (), rfl, ⟨hrs, trivial⟩, by rw [ht]; exact hP9, va_K.moved hW.alike hK, hD9⟩, hS.F ht⟩) hS.2.2 d_Md_isRightSize_65
              · skip
                refine lv_bipush (v := 20) hx hb d_Md_isRightSize_50 (by decide) ?_
                refine lv_goto (tgt := 57) hx hb d_Md_isRightSize_52 (by decide) ?_
                refine lv_icmp_gt (tgt := 64) hx hb d_Md_isRightSize_57 (by decide) (fun hc55 => ?_) (fun hc55 => ?_)
                · skip
                  refine lv_iconst (v := 0) hx hb d_Md_isRightSize_64 (by decide) ?_
                  have hrs : 0 = rsb x y := (show rsb x y = 0 by rw [rsb, if_neg hc29, if_neg hc31, if_neg hc33, if_neg hc34, if_pos hc39, if_neg hc52, if_pos hc53, if_pos hc55]).symm
                  have hP9 := hP.sub (ws' := []) [] rfl
                  have hD9 := hD.sub (ws' := []) [] (by decide) rfl
                  exact W.zret (v := 0) hx hb hr (by first | rfl | decide) (fun t ht hW => ⟨⟨_, (), rfl, ⟨hrs, trivial⟩, by rw [ht]; exact hP9, va_K.moved hW.alike hK, hD9⟩, hS.F ht⟩) hS.2.2 d_Md_isRightSize_65
                · skip
                  refine lv_iconst (v := 1) hx hb d_Md_isRightSize_60 (by decide) ?_
                  refine lv_goto (tgt := 65) hx hb d_Md_isRightSize_61 (by decide) ?_
                  have hrs : 1 = rsb x y := (show rsb x y = 1 by rw [rsb, if_neg hc29, if_neg hc31, if_neg hc33, if_neg hc34, if_pos hc39, if_neg hc52, if_pos hc53, if_neg hc55]).symm
                  have hP9 := hP.sub (ws' := []) [] rfl
                  have hD9 := hD.sub (ws' := []) [] (by decide) rfl
                  exact W.zret (v := 1) hx hb hr (by first | rfl | decide) (fun t ht hW => ⟨⟨_, (), rfl, ⟨hrs, trivial⟩, by rw [ht]; exact hP9, va_K.moved hW.alike hK, hD9⟩, hS.F ht⟩) hS.2.2 d_Md_isRightSize_65
      · skip
        refine lv_iload_n hx hb d_Md_isRightSize_18 rfl (lv_at hl 1 rfl) ?_
        refine lv_iconst (v := 4) hx hb d_Md_isRightSize_19 (by decide) ?_
        refine lv_icmp_ne (tgt := 27) hx hb d_Md_isRightSize_20 (by decide) (fun hc56 => ?_) (fun hc56 => ?_)
        · skip
          refine lv_iconst (v := 0) hx hb d_Md_isRightSize_27 (by decide) ?_
          have hrs : 0 = rsb x y := (show rsb x y = 0 by rw [rsb, if_neg hc29, if_neg hc31, if_pos hc33, if_neg hc56]).symm
          have hP9 := hP.sub (ws' := []) [] rfl
          have hD9 := hD.sub (ws' := []) [] (by decide) rfl
          exact W.zret (v := 0) hx hb hr (by first | rfl | decide) (fun t ht hW => ⟨⟨_, (), rfl, ⟨hrs, trivial⟩, by rw [ht]; exact hP9, va_K.moved hW.alike hK, hD9⟩, hS.F ht⟩) hS.2.2 d_Md_isRightSize_28
        · skip
          refine lv_iconst (v := 1) hx hb d_Md_isRightSize_23 (by decide) ?_
          refine lv_goto (tgt := 28) hx hb d_Md_isRightSize_24 (by decide) ?_
          have hrs : 1 = rsb x y := (show rsb x y = 1 by rw [rsb, if_neg hc29, if_neg hc31, if_pos hc33, if_pos hc56]).symm
          have hP9 := hP.sub (ws' := []) [] rfl
          have hD9 := hD.sub (ws' := []) [] (by decide) rfl
          exact W.zret (v := 1) hx hb hr (by first | rfl | decide) (fun t ht hW => ⟨⟨_, (), rfl, ⟨hrs, trivial⟩, by rw [ht]; exact hP9, va_K.moved hW.alike hK, hD9⟩, hS.F ht⟩) hS.2.2 d_Md_isRightSize_28
theorem rsb_1 {n : Nat} (hn : n < 2 ^ 31) (h : ¬ rsb 1 (nI n) = 0) : 1 ≤ n ∧ n ≤ 20 := by
  rw [rsb, if_neg (by decide), if_neg (by decide), if_neg (by decide), if_pos (by decide)] at h
  by_cases c1 : (nI n) ≤ 0
  · rw [if_pos c1] at h
    have d1 := (nI_leI (a := n) (b := 0) (by omega) (by omega)).mp c1
    exact absurd rfl h
  · rw [if_neg c1] at h
    have d1 : ¬ _ := fun h9 => c1 ((nI_leI (a := n) (b := 0) (by omega) (by omega)).mpr h9)
    rw [if_pos (by decide)] at h
    by_cases c2 : 20 < (nI n)
    · rw [if_pos c2] at h
      have d2 := (nI_ltI (a := 20) (b := n) (by omega) (by omega)).mp c2
      exact absurd rfl h
    · rw [if_neg c2] at h
      have d2 : ¬ _ := fun h9 => c2 ((nI_ltI (a := 20) (b := n) (by omega) (by omega)).mpr h9)
      omega
theorem rsb_2 {n : Nat} (hn : n < 2 ^ 31) (h : ¬ rsb 2 (nI n) = 0) : n = 16 ∨ n = 32 ∨ n = 48 ∨ n = 64 := by
  rw [rsb, if_neg (by decide), if_neg (by decide), if_neg (by decide), if_neg (by decide), if_neg (by decide), if_pos (by decide)] at h
  by_cases c1 : (nI n) = 16
  · rw [if_pos c1] at h
    have d1 := (nI_eq (a := n) (b := 16) (by omega) (by omega)).mp c1
    omega
  · rw [if_neg c1] at h
    have d1 : ¬ _ := fun h9 => c1 ((nI_eq (a := n) (b := 16) (by omega) (by omega)).mpr h9)
    by_cases c2 : (nI n) = 32
    · rw [if_pos c2] at h
      have d2 := (nI_eq (a := n) (b := 32) (by omega) (by omega)).mp c2
      omega
    · rw [if_neg c2] at h
      have d2 : ¬ _ := fun h9 => c2 ((nI_eq (a := n) (b := 32) (by omega) (by omega)).mpr h9)
      by_cases c3 : (nI n) = 48
      · rw [if_pos c3] at h
        have d3 := (nI_eq (a := n) (b := 48) (by omega) (by omega)).mp c3
        omega
      · rw [if_neg c3] at h
        have d3 : ¬ _ := fun h9 => c3 ((nI_eq (a := n) (b := 48) (by omega) (by omega)).mpr h9)
        by_cases c4 : (nI n) = 64
        · rw [if_pos c4] at h
          have d4 := (nI_eq (a := n) (b := 64) (by omega) (by omega)).mp c4
          omega
        · rw [if_neg c4] at h
          have d4 : ¬ _ := fun h9 => c4 ((nI_eq (a := n) (b := 64) (by omega) (by omega)).mpr h9)
          exact absurd rfl h
theorem rsb_24 {n : Nat} (hn : n < 2 ^ 31) (h : ¬ rsb 24 (nI n) = 0) : n = 8 := by
  rw [rsb, if_neg (by decide), if_neg (by decide), if_neg (by decide), if_neg (by decide), if_neg (by decide), if_neg (by decide), if_pos (by decide)] at h
  by_cases c1 : (nI n) = 8
  · rw [if_pos c1] at h
    have d1 := (nI_eq (a := n) (b := 8) (by omega) (by omega)).mp c1
    omega
  · rw [if_neg c1] at h
    have d1 : ¬ _ := fun h9 => c1 ((nI_eq (a := n) (b := 8) (by omega) (by omega)).mpr h9)
    exact absurd rfl h
theorem rsb_40 {n : Nat} (hn : n < 2 ^ 31) (h : ¬ rsb 40 (nI n) = 0) : n = 4 := by
  rw [rsb, if_pos (by decide)] at h
  by_cases c1 : (nI n) = 4
  · rw [if_pos c1] at h
    have d1 := (nI_eq (a := n) (b := 4) (by omega) (by omega)).mp c1
    omega
  · rw [if_neg c1] at h
    have d1 : ¬ _ := fun h9 => c1 ((nI_eq (a := n) (b := 4) (by omega) (by omega)).mpr h9)
    exact absurd rfl h
theorem rsb_42 {n : Nat} (hn : n < 2 ^ 31) (h : ¬ rsb 42 (nI n) = 0) : n = 4 := by
  rw [rsb, if_neg (by decide), if_pos (by decide)] at h
  by_cases c1 : (nI n) = 4
  · rw [if_pos c1] at h
    have d1 := (nI_eq (a := n) (b := 4) (by omega) (by omega)).mp c1
    omega
  · rw [if_neg c1] at h
    have d1 : ¬ _ := fun h9 => c1 ((nI_eq (a := n) (b := 4) (by omega) (by omega)).mpr h9)
    exact absurd rfl h
theorem rsb_43 {n : Nat} (hn : n < 2 ^ 31) (h : ¬ rsb 43 (nI n) = 0) : n = 4 := by
  rw [rsb, if_neg (by decide), if_neg (by decide), if_pos (by decide)] at h
  by_cases c1 : (nI n) = 4
  · rw [if_pos c1] at h
    have d1 := (nI_eq (a := n) (b := 4) (by omega) (by omega)).mp c1
    omega
  · rw [if_neg c1] at h
    have d1 : ¬ _ := fun h9 => c1 ((nI_eq (a := n) (b := 4) (by omega) (by omega)).mpr h9)
    exact absurd rfl h
theorem rsb_44 {n : Nat} (hn : n < 2 ^ 31) (h : ¬ rsb 44 (nI n) = 0) : 1 ≤ n ∧ n ≤ 16 := by
  rw [rsb, if_neg (by decide), if_neg (by decide), if_neg (by decide), if_neg (by decide), if_pos (by decide)] at h
  by_cases c1 : (nI n) ≤ 0
  · rw [if_pos c1] at h
    have d1 := (nI_leI (a := n) (b := 0) (by omega) (by omega)).mp c1
    exact absurd rfl h
  · rw [if_neg c1] at h
    have d1 : ¬ _ := fun h9 => c1 ((nI_leI (a := n) (b := 0) (by omega) (by omega)).mpr h9)
    rw [if_neg (by decide)] at h
    by_cases c2 : 16 < (nI n)
    · rw [if_pos c2] at h
      have d2 := (nI_ltI (a := 16) (b := n) (by omega) (by omega)).mp c2
      exact absurd rfl h
    · rw [if_neg c2] at h
      have d2 : ¬ _ := fun h9 => c2 ((nI_ltI (a := 16) (b := n) (by omega) (by omega)).mpr h9)
      omega
theorem rsb_79 {n : Nat} (hn : n < 2 ^ 31) (h : ¬ rsb 79 (nI n) = 0) : 4 ≤ n ∧ n ≤ 100 := by
  rw [rsb, if_neg (by decide), if_neg (by decide), if_neg (by decide), if_neg (by decide), if_neg (by decide), if_neg (by decide), if_neg (by decide), if_pos (by decide)] at h
  by_cases c1 : (nI n) < 4
  · rw [if_pos c1] at h
    have d1 := (nI_ltI (a := n) (b := 4) (by omega) (by omega)).mp c1
    exact absurd rfl h
  · rw [if_neg c1] at h
    have d1 : ¬ _ := fun h9 => c1 ((nI_ltI (a := n) (b := 4) (by omega) (by omega)).mpr h9)
    by_cases c2 : 100 < (nI n)
    · rw [if_pos c2] at h
      have d2 := (nI_ltI (a := 100) (b := n) (by omega) (by omega)).mp c2
      exact absurd rfl h
    · rw [if_neg c2] at h
      have d2 : ¬ _ := fun h9 => c2 ((nI_ltI (a := 100) (b := n) (by omega) (by omega)).mpr h9)
      omega
theorem rsb_80 {n : Nat} (hn : n < 2 ^ 31) (h : ¬ rsb 80 (nI n) = 0) : n = 16 := by
  rw [rsb, if_neg (by decide), if_neg (by decide), if_neg (by decide), if_neg (by decide), if_neg (by decide), if_neg (by decide), if_neg (by decide), if_neg (by decide), if_pos (by decide)] at h
  by_cases c1 : (nI n) = 16
  · rw [if_pos c1] at h
    have d1 := (nI_eq (a := n) (b := 16) (by omega) (by omega)).mp c1
    omega
  · rw [if_neg c1] at h
    have d1 : ¬ _ := fun h9 => c1 ((nI_eq (a := n) (b := 16) (by omega) (by omega)).mpr h9)
    exact absurd rfl h
/-- what find answers: i where it looks, v what it has found -/
def mfd (f : Nat → Int32) (sn : Nat) (x : Int32) (i : Nat) (v : Int32) : Int32 :=
  if h : i < sn ∧ i + 1 < sn ∧ 3 ≤ (f (i + 1)).toNatClampNeg ∧ i + (f (i + 1)).toNatClampNeg ≤ sn then
    (if f i = x then (if v < 0 ∧ ¬ rsb x (nI ((f (i + 1)).toNatClampNeg - 2)) = 0 then mfd f sn x (i + (f (i + 1)).toNatClampNeg) (nI i) else -2)
     else mfd f sn x (i + (f (i + 1)).toNatClampNeg) v)
  else if i < sn then -2 else v
termination_by sn - i
decreasing_by all_goals omega
section MF
variable {f : Nat → Int32} {sn : Nat} {x : Int32} {i : Nat} {v : Int32} {k : Nat}
theorem mfd_end (h : ¬ i < sn) : mfd f sn x i v = v := by rw [mfd, dif_neg (by omega), if_neg h]
theorem mfd_bad (h : i < sn) (ht : (f (i + 1)).toNatClampNeg = k) (h2 : ¬ (i + 1 < sn ∧ 3 ≤ k ∧ i + k ≤ sn)) : mfd f sn x i v = -2 := by rw [mfd, dif_neg (by omega), if_pos h]
theorem mfd_dup (h : i + 1 < sn) (ht : (f (i + 1)).toNatClampNeg = k) (h3 : 3 ≤ k) (h4 : i + k ≤ sn) (h5 : f i = x) (h6 : ¬ (v < 0 ∧ ¬ rsb x (nI (k - 2)) = 0)) : mfd f sn x i v = -2 := by rw [mfd, dif_pos (by omega), if_pos h5, ht, if_neg h6]
theorem mfd_hit (h : i + 1 < sn) (ht : (f (i + 1)).toNatClampNeg = k) (h3 : 3 ≤ k) (h4 : i + k ≤ sn) (h5 : f i = x) (h6 : v < 0 ∧ ¬ rsb x (nI (k - 2)) = 0) : mfd f sn x i v = mfd f sn x (i + k) (nI i) := by rw [mfd, dif_pos (by omega), if_pos h5, ht, if_pos h6]
theorem mfd_on (h : i + 1 < sn) (ht : (f (i + 1)).toNatClampNeg = k) (h3 : 3 ≤ k) (h4 : i + k ≤ sn) (h5 : ¬ f i = x) : mfd f sn x i v = mfd f sn x (i + k) v := by rw [mfd, dif_pos (by omega), if_neg h5, ht]
end MF
abbrev MFV (f : Nat → Int32) (sn : Nat) (x : Int32) : Int32 := mfd f sn x 20 (-1)
/-- an attribute of type x is at a, with a value of n bytes -/
def HA (f : Nat → Int32) (sn : Nat) (x v : Int32) (a n : Nat) : Prop := v = nI a ∧ 20 ≤ a ∧ 1 ≤ n ∧ a + 2 + n ≤ sn ∧ f (a + 1) = nI (n + 2) ∧ ¬ rsb x (nI n) = 0
theorem nI_tk {x : Int32} {k : Nat} (h : x = nI k) (hk : k < 256) : x.toNatClampNeg = k := by rw [h]; exact nI_clamp (by omega)
set_option maxHeartbeats 4000000 in
set_option maxRecDepth 100000 in
/-- find -/
theorem m_find (l : Launch) (dC : Nat → ClassId) (dI : Nat → Nat → Nat) (cT : Nat → ClassId) (sz : Nat) (mo : Nat) (r : Nat → Nat) (cd : Int32) (tm : Int32) (sn : Nat) (tx : Nat) (lz : Nat) (az : Nat) (na : Nat) (nt : Nat) (nr : Nat) (mw : Int32) (ml : Int32) (mk : Int64) (dq : Int64) (f7 : Nat → Int32) (x : Int32) (h20 : 20 ≤ sn) (hsn : sn ≤ 1000) (h7 : AB f7) : Met l y_Md_find (Cond.code y_Md_find b_Md_find 4 (Option.some Jvm.ClassFile.FieldType.int) :: BIG) ({ frames := 1, cells := 0, slots := 0, locals := 21 }) (va_Pc [.ref mo, .int x] (fun U => U.heap.size = sz ∧ va_P (dC, dI) vcl [(mo, .inr (12, mdG r cd tm (nI sn) (nI tx) (nI lz) (nI az) (nI na) (nI nt) (nI nr) mw ml mk dq)), (r 7, .inl ((cT 0), 1000, .inl f7))] U.heap ∧ va_K (dC, dI) vcl (tyL cT) U ∧ va_D (fun _ => True) [(mo, .inr (12, mdG r cd tm (nI sn) (nI tx) (nI lz) (nI az) (nI na) (nI nt) (nI nr) mw ml mk dq)), (r 7, .inl ((cT 0), 1000, .inl f7))])) (va_Qi (S := Unit) (fun rv9 u => (rv9 = MFV f7 sn x) ∧ (rv9 = -2 ∨ (rv9 = -1 ∨ ∃ a n : Nat, HA f7 sn x rv9 a n))) (fun u t => va_P (dC, dI) vcl [(mo, .inr (12, mdG r cd tm (nI sn) (nI tx) (nI lz) (nI az) (nI na) (nI nt) (nI nr) mw ml mk dq)), (r 7, .inl ((cT 0), 1000, .inl f7))] t.heap ∧ va_K (dC, dI) vcl (tyL cT) t ∧ va_D (va_A [(mo, .inr (12, mdG r cd tm (nI sn) (nI tx) (nI lz) (nI az) (nI na) (nI nt) (nI nr) mw ml mk dq)), (r 7, .inl ((cT 0), 1000, .inl f7))] sz) [(mo, .inr (12, mdG r cd tm (nI sn) (nI tx) (nI lz) (nI az) (nI na) (nI nt) (nI nr) mw ml mk dq)), (r 7, .inl ((cT 0), 1000, .inl f7))]) (va_A [(mo, .inr (12, mdG r cd tm (nI sn) (nI tx) (nI lz) (nI az) (nI na) (nI nt) (nI nr) mw ml mk dq)), (r 7, .inl ((cT 0), 1000, .inl f7))] sz)) 0 0 (va_A [(mo, .inr (12, mdG r cd tm (nI sn) (nI tx) (nI lz) (nI az) (nI na) (nI nt) (nI nr) mw ml mk dq)), (r 7, .inl ((cT 0), 1000, .inl f7))] sz) := by
  refine Met.ofW (cc := b_Md_find) (maxL := 4) (ret := (Option.some Jvm.ClassFile.FieldType.int)) (by decide) rfl ?_
  intro p e s m args below meth c s₁ B hml hv
  obtain ⟨hargs, hsz, hP, hK, hD0⟩ := hv
  have hx := B.exec
  have hb := B.bytes
  have hr := B.returns
  have hts := atoms_spec (ws := (Cond.code y_Md_find b_Md_find 4 (Option.some Jvm.ClassFile.FieldType.int) :: BIG)) B.pre
  have hg : ∀ w ∈ BIG, w.before _ s = true := fun w h => hts w (List.mem_cons_of_mem _ h)
  have hown : s.vm.findClass "DoorServerModel" = some m.cls := findClass_of_methodNamed B.named
  have hlocks := B.notSynchronized
  subst hsz
  have hD := hD0.self (sz := s.heap.size)
  generalize hAe : va_A [(mo, .inr (12, mdG r cd tm (nI sn) (nI tx) (nI lz) (nI az) (nI na) (nI nt) (nI nr) mw ml mk dq)), (r 7, .inl ((cT 0), 1000, .inl f7))] s.heap.size = A at hD ⊢
  have hA : ∀ q : Nat, s.heap.size ≤ q → A q := fun q h => by rw [← hAe]; exact Or.inr h
  have hS : va_S A s.heap s.heap [] := va_S.rf
  have hl := lv_entry ([.ref mo, .int x]) (n := 4) (Nat.le_of_ble_eq_true rfl)
  refine W.eq (g2 := entryFrame m (List.toArray [.ref mo, .int x]) 4) (by rw [hargs]) ?_
  rw [lg_entry_eq]
  generalize (lg_sl ([.ref mo, .int x]) ++ List.replicate (4 - (lg_sl ([.ref mo, .int x])).length) Slot.unset).toArray = ls at hl ⊢
  have hl : lv_has ls 4 [(0, .ref mo), (1, .int x)] := hl
  change W p l e ({ frames := 1, cells := 0, slots := 0, locals := 21 } : Room) s m args below meth c s.heap [] 0 0 _ _
  have hP : va_P (dC, dI) vcl [(mo, .inr (12, mdG r cd tm (nI sn) (nI tx) (nI lz) (nI az) (nI na) (nI nt) (nI nr) mw ml mk dq)), (r 7, .inl ((cT 0), 1000, .inl f7))] s.heap := hP
  refine lv_iconst (v := (-1)) hx hb d_Md_find_0 (by decide) ?_
  refine lv_istore_n (lv' := [(2, .int (-1)), (0, .ref mo), (1, .int x)]) hx hb d_Md_find_1 rfl hl (by decide) rfl (fun ls hl => ?_)
  refine lv_bipush (v := 20) hx hb d_Md_find_2 (by decide) ?_
  refine lv_istore_n (lv' := [(3, .int 20), (2, .int (-1)), (0, .ref mo), (1, .int x)]) hx hb d_Md_find_4 rfl hl (by decide) rfl (fun ls hl => ?_)
  have hl := lv_sub hl [0, 1, 2, 3] (show _ = [(3, .int 20), (2, .int (-1)), (0, .ref mo), (1, .int x)] from rfl)
  have L57 : ∀ (Q : State → Prop) (ex0 : ∀ (i : Nat) (v : Int32) (H : Heap) (locs : List Loc) (ls : Array Slot), (-2 = MFV f7 sn x) → va_P (dC, dI) vcl [(mo, .inr (12, mdG r cd tm (nI sn) (nI tx) (nI lz) (nI az) (nI na) (nI nt) (nI nr) mw ml mk dq)), (r 7, .inl ((cT 0), 1000, .inl f7))] H → va_D A [(mo, .inr (12, mdG r cd tm (nI sn) (nI tx) (nI lz) (nI az) (nI na) (nI nt) (nI nr) mw ml mk dq)), (r 7, .inl ((cT 0), 1000, .inl f7))] → va_S A s.heap H locs → lv_has ls 4 [(0, .ref mo)] → W p l e ({ frames := 1, cells := 0, slots := 0, locals := 21 } : Room) s m args below meth c H locs 0 0 Q (F0 m 54 ls [.int (-2)])) (ex1 : ∀ (i : Nat) (v : Int32) (H : Heap) (locs : List Loc) (ls : Array Slot), (-2 = MFV f7 sn x) → va_P (dC, dI) vcl [(mo, .inr (12, mdG r cd tm (nI sn) (nI tx) (nI lz) (nI az) (nI na) (nI nt) (nI nr) mw ml mk dq)), (r 7, .inl ((cT 0), 1000, .inl f7))] H → va_D A [(mo, .inr (12, mdG r cd tm (nI sn) (nI tx) (nI lz) (nI az) (nI na) (nI nt) (nI nr) mw ml mk dq)), (r 7, .inl ((cT 0), 1000, .inl f7))] → va_S A s.heap H locs → lv_has ls 4 [(0, .ref mo)] → W p l e ({ frames := 1, cells := 0, slots := 0, locals := 21 } : Room) s m args below meth c H locs 0 0 Q (F0 m 88 ls [.int (-2)])) (ex2 : ∀ (i : Nat) (v : Int32) (H : Heap) (locs : List Loc) (ls : Array Slot), (v = MFV f7 sn x) → (v = -1 ∨ ∃ a n : Nat, HA f7 sn x v a n) → va_P (dC, dI) vcl [(mo, .inr (12, mdG r cd tm (nI sn) (nI tx) (nI lz) (nI az) (nI na) (nI nt) (nI nr) mw ml mk dq)), (r 7, .inl ((cT 0), 1000, .inl f7))] H → va_D A [(mo, .inr (12, mdG r cd tm (nI sn) (nI tx) (nI lz) (nI az) (nI na) (nI nt) (nI nr) mw ml mk dq)), (r 7, .inl ((cT 0), 1000, .inl f7))] → va_S A s.heap H locs → lv_has ls 4 [(2, .int v), (0, .ref mo)] → W p l e ({ frames := 1, cells := 0, slots := 0, locals := 21 } : Room) s m args below meth c H locs 0 0 Q (F0 m 105 ls [])) (jj58 : Nat) (i : Nat) (v : Int32) (H : Heap) (locs : List Loc) (ls : Array Slot), sn - i ≤ jj58 → (20 ≤ i ∧ i ≤ sn) → (mfd f7 sn x i v = MFV f7 sn x) → (v = -1 ∨ ∃ a n : Nat, HA f7 sn x v a n) → va_P (dC, dI) vcl [(mo, .inr (12, mdG r cd tm (nI sn) (nI tx) (nI lz) (nI az) (nI na) (nI nt) (nI nr) mw ml mk dq)), (r 7, .inl ((cT 0), 1000, .inl f7))] H → va_D A [(mo, .inr (12, mdG r cd tm (nI sn) (nI tx) (nI lz) (nI az) (nI na) (nI nt) (nI nr) mw ml mk dq)), (r 7, .inl ((cT 0), 1000, .inl f7))] → va_S A s.heap H locs → lv_has ls 4 [(3, .int (nI i)), (2, .int v), (0, .ref mo), (1, .int x)] → W p l e ({ frames := 1, cells := 0, slots := 0, locals := 21 } : Room) s m args below meth c H locs 0 0 Q (F0 m 5 ls []) := by
    intro Q ex0 ex1 ex2 jj58
    induction jj58 with
    | zero => 
      intro i v H locs ls hm9 hi hv hvv hP hD hS hl
      refine lv_iload_n hx hb d_Md_find_5 rfl (lv_at hl 0 rfl) ?_
      refine lv_aload_n hx hb d_Md_find_6 rfl (lv_at hl 2 rfl) ?_
      refine va_get (D := (dC, dI)) (ci := 12) (v := (.int (nI sn))) (C := R_Md) (T := F_Md) (N := 45) hx hb hg in_Md hown hK hP 0 rfl rfl 8 (by decide) (hg _ k_1028) (fun _ h9 => h9) rfl d_Md_find_7 ?_
      refine lv_icmp_ge (tgt := 105) hx hb d_Md_find_10 (by decide) (fun hc59 => ?_) (fun hc59 => ?_)
      · skip
        have n60 : sn ≤ i := (nI_leI (a := sn) (b := i) (by omega) (by omega)).mp hc59
        have hl := lv_sub hl [1, 2] (show _ = [(2, .int v), (0, .ref mo)] from rfl)
        exact ex2 i v _ _ _ ((mfd_end (by omega)).symm.trans hv) (hvv) hP hD hS hl
      · skip
        have n61 : i < sn := Nat.not_le.mp (fun h7 => hc59 ((nI_leI (a := sn) (b := i) (by omega) (by omega)).mpr h7))
        refine lv_iload_n hx hb d_Md_find_13 rfl (lv_at hl 0 rfl) ?_
        refine lv_iconst (v := 1) hx hb d_Md_find_14 (by decide) ?_
        refine lv_iadd hx hb d_Md_find_15 ?_
        refine lv_topi (fun x63 e62 => ?_)
        obtain rfl : x63 = nI (i + 1) := by rw [e62]; exact nI_add i 1
        refine lv_aload_n hx hb d_Md_find_16 rfl (lv_at hl 2 rfl) ?_
        refine va_get (D := (dC, dI)) (ci := 12) (v := (.int (nI sn))) (C := R_Md) (T := F_Md) (N := 45) hx hb hg in_Md hown hK hP 0 rfl rfl 8 (by decide) (hg _ k_1028) (fun _ h9 => h9) rfl d_Md_find_17 ?_
        refine lv_icmp_ge (tgt := 52) hx hb d_Md_find_20 (by decide) (fun hc64 => ?_) (fun hc64 => ?_)
        · skip
          have n65 : sn ≤ i + 1 := (nI_leI (a := sn) (b := i + 1) (by omega) (by omega)).mp hc64
          refine lv_bipush (v := (-2)) hx hb d_Md_find_52 (by decide) ?_
          have hl := lv_sub hl [2] (show _ = [(0, .ref mo)] from rfl)
          exact ex0 i v _ _ _ (((hv.symm.trans (mfd_bad (by omega) (rfl) (by omega)))).symm) hP hD hS hl
        · skip
          have n66 : i + 1 < sn := Nat.not_le.mp (fun h7 => hc64 ((nI_leI (a := sn) (b := i + 1) (by omega) (by omega)).mpr h7))
          refine lv_aload_n hx hb d_Md_find_23 rfl (lv_at hl 2 rfl) ?_
          refine va_get (D := (dC, dI)) (ci := 12) (v := (.ref (r 7))) (C := R_Md) (T := F_Md) (N := 45) hx hb hg in_Md hown hK hP 0 rfl rfl 7 (by decide) (hg _ k_1027) (fun _ h9 => h9) rfl d_Md_find_24 ?_
          refine lv_iload_n hx hb d_Md_find_27 rfl (lv_at hl 0 rfl) ?_
          refine lv_iconst (v := 1) hx hb d_Md_find_28 (by decide) ?_
          refine lv_iadd hx hb d_Md_find_29 ?_
          refine lv_topi (fun x68 e67 => ?_)
          obtain rfl : x68 = nI (i + 1) := by rw [e67]; exact nI_add i 1
          obtain ⟨t69, ht69, xt69⟩ := h7 (i + 1)
          refine va_iald hx hb hK hP 1 0 rfl rfl (i := (nI (i + 1))) (vp_in_nI (N := 1000) (by omega) (by decide)) d_Md_find_30 ?_
          refine lv_topi (fun x71 e70 => ?_)
          obtain rfl : x71 = nI t69 := by rw [e70]; rw [nI_clamp (by omega)]; exact xt69
          refine lv_iconst (v := 3) hx hb d_Md_find_31 (by decide) ?_
          refine lv_icmp_lt (tgt := 52) hx hb d_Md_find_32 (by decide) (fun hc72 => ?_) (fun hc72 => ?_)
          · skip
            have n73 : t69 < 3 := (nI_ltI (a := t69) (b := 3) (by omega) (by omega)).mp hc72
            refine lv_bipush (v := (-2)) hx hb d_Md_find_52 (by decide) ?_
            have hl := lv_sub hl [2] (show _ = [(0, .ref mo)] from rfl)
            exact ex0 i v _ _ _ (((hv.symm.trans (mfd_bad (by omega) (nI_tk xt69 ht69) (by omega)))).symm) hP hD hS hl
          · skip
            have n74 : 3 ≤ t69 := Nat.not_lt.mp (fun h7 => hc72 ((nI_ltI (a := t69) (b := 3) (by omega) (by omega)).mpr h7))
            refine lv_iload_n hx hb d_Md_find_35 rfl (lv_at hl 0 rfl) ?_
            refine lv_aload_n hx hb d_Md_find_36 rfl (lv_at hl 2 rfl) ?_
            refine va_get (D := (dC, dI)) (ci := 12) (v := (.ref (r 7))) (C := R_Md) (T := F_Md) (N := 45) hx hb hg in_Md hown hK hP 0 rfl rfl 7 (by decide) (hg _ k_1027) (fun _ h9 => h9) rfl d_Md_find_37 ?_
            refine lv_iload_n hx hb d_Md_find_40 rfl (lv_at hl 0 rfl) ?_
            refine lv_iconst (v := 1) hx hb d_Md_find_41 (by decide) ?_
            refine lv_iadd hx hb d_Md_find_42 ?_
            refine lv_topi (fun x76 e75 => ?_)
            obtain rfl : x76 = nI (i + 1) := by rw [e75]; exact nI_add i 1
            refine va_iald hx hb hK hP 1 0 rfl rfl (i := (nI (i + 1))) (vp_in_nI (N := 1000) (by omega) (by decide)) d_Md_find_43 ?_
            refine lv_topi (fun x78 e77 => ?_)
            obtain rfl : x78 = nI t69 := by rw [e77]; rw [nI_clamp (by omega)]; exact xt69
            refine lv_iadd hx hb d_Md_find_44 ?_
            refine lv_topi (fun x80 e79 => ?_)
            obtain rfl : x80 = nI (i + t69) := by rw [e79]; exact nI_add i t69
            refine lv_aload_n hx hb d_Md_find_45 rfl (lv_at hl 2 rfl) ?_
            refine va_get (D := (dC, dI)) (ci := 12) (v := (.int (nI sn))) (C := R_Md) (T := F_Md) (N := 45) hx hb hg in_Md hown hK hP 0 rfl rfl 8 (by decide) (hg _ k_1028) (fun _ h9 => h9) rfl d_Md_find_46 ?_
            refine lv_icmp_le (tgt := 55) hx hb d_Md_find_49 (by decide) (fun hc81 => ?_) (fun hc81 => ?_)
            · skip
              have n82 : i + t69 ≤ sn := (nI_leI (a := i + t69) (b := sn) (by omega) (by omega)).mp hc81
              refine lv_aload_n hx hb d_Md_find_55 rfl (lv_at hl 2 rfl) ?_
              refine va_get (D := (dC, dI)) (ci := 12) (v := (.ref (r 7))) (C := R_Md) (T := F_Md) (N := 45) hx hb hg in_Md hown hK hP 0 rfl rfl 7 (by decide) (hg _ k_1027) (fun _ h9 => h9) rfl d_Md_find_56 ?_
              refine lv_iload_n hx hb d_Md_find_59 rfl (lv_at hl 0 rfl) ?_
              obtain ⟨t84, ht84, xt84⟩ := h7 i
              refine va_iald hx hb hK hP 1 0 rfl rfl (i := (nI i)) (vp_in_nI (N := 1000) (by omega) (by decide)) d_Md_find_60 ?_
              refine lv_topi (fun x86 e85 => ?_)
              obtain rfl : x86 = nI t84 := by rw [e85]; rw [nI_clamp (by omega)]; exact xt84
              refine lv_iload_n hx hb d_Md_find_61 rfl (lv_at hl 3 rfl) ?_
              refine lv_icmp_ne (tgt := 91) hx hb d_Md_find_62 (by decide) (fun hc87 => ?_) (fun hc87 => ?_)
              · skip
                have hne9 : ¬ f7 i = x := fun h9 => hc87 (by rw [← h9, xt84])
                refine lv_iload_n hx hb d_Md_find_91 rfl (lv_at hl 0 rfl) ?_
                refine lv_aload_n hx hb d_Md_find_92 rfl (lv_at hl 2 rfl) ?_
                refine va_get (D := (dC, dI)) (ci := 12) (v := (.ref (r 7))) (C := R_Md) (T := F_Md) (N := 45) hx hb hg in_Md hown hK hP 0 rfl rfl 7 (by decide) (hg _ k_1027) (fun _ h9 => h9) rfl d_Md_find_93 ?_
                refine lv_iload_n hx hb d_Md_find_96 rfl (lv_at hl 0 rfl) ?_
                refine lv_iconst (v := 1) hx hb d_Md_find_97 (by decide) ?_
                refine lv_iadd hx hb d_Md_find_98 ?_
                refine lv_topi (fun x89 e88 => ?_)
                obtain rfl : x89 = nI (i + 1) := by rw [e88]; exact nI_add i 1
                refine va_iald hx hb hK hP 1 0 rfl rfl (i := (nI (i + 1))) (vp_in_nI (N := 1000) (by omega) (by decide)) d_Md_find_99 ?_
                refine lv_topi (fun x91 e90 => ?_)
                obtain rfl : x91 = nI t69 := by rw [e90]; rw [nI_clamp (by omega)]; exact xt69
                refine lv_iadd hx hb d_Md_find_100 ?_
                refine lv_topi (fun x93 e92 => ?_)
                obtain rfl : x93 = nI (i + t69) := by rw [e92]; exact nI_add i t69
                refine lv_istore_n (lv' := [(3, .int (nI (i + t69))), (2, .int v), (0, .ref mo), (1, .int x)]) hx hb d_Md_find_101 rfl hl (by decide) rfl (fun ls hl => ?_)
                refine lv_goto (tgt := 5) hx hb d_Md_find_102 (by decide) ?_
                have hl := lv_sub hl [0, 1, 2, 3] (show _ = [(3, .int (nI (i + t69))), (2, .int v), (0, .ref mo), (1, .int x)] from rfl)
                exfalso; omega
              · skip
                have heq9 : f7 i = x := by rw [xt84]; exact hc87
                refine lv_iload_n hx hb d_Md_find_65 rfl (lv_at hl 1 rfl) ?_
                refine lv_if_ge (tgt := 86) hx hb d_Md_find_66 (by decide) (fun hc94 => ?_) (fun hc94 => ?_)
                · skip
                  refine lv_bipush (v := (-2)) hx hb d_Md_find_86 (by decide) ?_
                  have hl := lv_sub hl [2] (show _ = [(0, .ref mo)] from rfl)
                  exact ex1 i v _ _ _ (((hv.symm.trans (mfd_dup (by omega) (nI_tk xt69 ht69) (by omega) (by omega) heq9 (fun h9 => absurd h9.1 (Int32.not_lt.mpr hc94))))).symm) hP hD hS hl
                · skip
                  have hv0 : v < 0 := Int32.not_le.mp hc94
                  refine lv_iload_n hx hb d_Md_find_69 rfl (lv_at hl 3 rfl) ?_
                  refine lv_aload_n hx hb d_Md_find_70 rfl (lv_at hl 2 rfl) ?_
                  refine va_get (D := (dC, dI)) (ci := 12) (v := (.ref (r 7))) (C := R_Md) (T := F_Md) (N := 45) hx hb hg in_Md hown hK hP 0 rfl rfl 7 (by decide) (hg _ k_1027) (fun _ h9 => h9) rfl d_Md_find_71 ?_
                  refine lv_iload_n hx hb d_Md_find_74 rfl (lv_at hl 0 rfl) ?_
                  refine lv_iconst (v := 1) hx hb d_Md_find_75 (by decide) ?_
                  refine lv_iadd hx hb d_Md_find_76 ?_
                  refine lv_topi (fun x96 e95 => ?_)
                  obtain rfl : x96 = nI (i + 1) := by rw [e95]; exact nI_add i 1
                  refine va_iald hx hb hK hP 1 0 rfl rfl (i := (nI (i + 1))) (vp_in_nI (N := 1000) (by omega) (by decide)) d_Md_find_77 ?_
                  refine lv_topi (fun x98 e97 => ?_)
                  obtain rfl : x98 = nI t69 := by rw [e97]; rw [nI_clamp (by omega)]; exact xt69
                  refine lv_iconst (v := 2) hx hb d_Md_find_78 (by decide) ?_
                  refine lv_isub hx hb d_Md_find_79 ?_
                  refine lv_topi (fun x100 e99 => ?_)
                  obtain rfl : x100 = nI (t69 - 2) := by rw [e99]; exact pk_sub (a := t69) (b := 2) (by omega)
                  have hPc := hP.sub (ws' := []) [] rfl
                  have hDc := hD.sub (ws' := []) [] (by decide) rfl
                  have hFc := va_free (wc := []) hD hS hA [] rfl
                  refine va_calli (va_runS (As := [.int x, .int (nI (t69 - 2))]) (rest := []) ⟨hx, hb, hml, hown, hg⟩ (m_right l dC dI cT H.size x (nI (t69 - 2)) ) (va_cwS 2 hg (gI (List.forall_mem_append.mpr ⟨List.forall_mem_cons.mpr ⟨k_1298, List.forall_mem_cons.mpr ⟨k_1299, List.forall_mem_cons.mpr ⟨k_13, fun _ h => absurd h List.not_mem_nil⟩⟩⟩, List.forall_mem_cons.mpr ⟨k_1300, fun _ h => h⟩⟩)) rfl rfl rfl (by decide +kernel) ⟨Nat.le_of_ble_eq_true rfl, Nat.le_of_ble_eq_true rfl⟩) ⟨fun a U g mk q => by obtain ⟨q0, q1, qP, qK, qD⟩ := q; exact ⟨q0, q1, qP, va_K.moved (u := U) (U := U.calling g mk a) (Vm.Alike.refl U.vm) qK, qD⟩, fun U hU hW => ⟨rfl, by rw [hU], by rw [hU]; exact hPc, va_K.moved hW.alike hK, hDc.weaken (fun _ _ _ _ => trivial)⟩⟩ rfl rfl hl.1 rfl (lv_room (Nat.le_of_ble_eq_true rfl)) d_Md_find_80 ⟨Nat.le_of_ble_eq_true rfl, Nat.le_of_ble_eq_true rfl⟩) hS (fun q _ h => hFc q h) hFc (fun rv9 u t H1 locs ht hvm hw hB hz1 hk1 hS => ?_)
                  try dsimp only at hw hB
                  obtain ⟨hP1, hK1, hD1⟩ := hB
                  rw [ht] at hP1
                  obtain ⟨rfl, hw⟩ := hw
                  obtain ⟨hP, hD⟩ := va_join (wr := [(mo, .inr (12, mdG r cd tm (nI sn) (nI tx) (nI lz) (nI az) (nI na) (nI nt) (nI nr) mw ml mk dq)), (r 7, .inl ((cT 0), 1000, .inl f7))]) (w1 := []) hP hD [] [0, 1] rfl rfl (by decide) (by decide) hk1 hFc hP1 hD1
                  have hw101 := hw
                  clear hPc hDc hFc hz1 hk1 hP1 hK1 hD1
                  generalize H1 = H at hP hS ⊢
                  have hP : va_P (dC, dI) vcl [(mo, .inr (12, mdG r cd tm (nI sn) (nI tx) (nI lz) (nI az) (nI na) (nI nt) (nI nr) mw ml mk dq)), (r 7, .inl ((cT 0), 1000, .inl f7))] H := hP
                  have hD : va_D A [(mo, .inr (12, mdG r cd tm (nI sn) (nI tx) (nI lz) (nI az) (nI na) (nI nt) (nI nr) mw ml mk dq)), (r 7, .inl ((cT 0), 1000, .inl f7))] := hD
                  refine lv_if_ne (tgt := 89) hx hb d_Md_find_83 (by decide) (fun hc102 => ?_) (fun hc102 => ?_)
                  · skip
                    have hrs0 := hc102
                    refine lv_iload_n hx hb d_Md_find_89 rfl (lv_at hl 0 rfl) ?_
                    refine lv_istore_n (lv' := [(2, .int (nI i)), (3, .int (nI i)), (0, .ref mo), (1, .int x)]) hx hb d_Md_find_90 rfl hl (by decide) rfl (fun ls hl => ?_)
                    refine lv_iload_n hx hb d_Md_find_91 rfl (lv_at hl 1 rfl) ?_
                    refine lv_aload_n hx hb d_Md_find_92 rfl (lv_at hl 2 rfl) ?_
                    refine va_get (D := (dC, dI)) (ci := 12) (v := (.ref (r 7))) (C := R_Md) (T := F_Md) (N := 45) hx hb hg in_Md hown hK hP 0 rfl rfl 7 (by decide) (hg _ k_1027) (fun _ h9 => h9) rfl d_Md_find_93 ?_
                    refine lv_iload_n hx hb d_Md_find_96 rfl (lv_at hl 1 rfl) ?_
                    refine lv_iconst (v := 1) hx hb d_Md_find_97 (by decide) ?_
                    refine lv_iadd hx hb d_Md_find_98 ?_
                    refine lv_topi (fun x104 e103 => ?_)
                    obtain rfl : x104 = nI (i + 1) := by rw [e103]; exact nI_add i 1
                    refine va_iald hx hb hK hP 1 0 rfl rfl (i := (nI (i + 1))) (vp_in_nI (N := 1000) (by omega) (by decide)) d_Md_find_99 ?_
                    refine lv_topi (fun x106 e105 => ?_)
                    obtain rfl : x106 = nI t69 := by rw [e105]; rw [nI_clamp (by omega)]; exact xt69
                    refine lv_iadd hx hb d_Md_find_100 ?_
                    refine lv_topi (fun x108 e107 => ?_)
                    obtain rfl : x108 = nI (i + t69) := by rw [e107]; exact nI_add i t69
                    refine lv_istore_n (lv' := [(3, .int (nI (i + t69))), (2, .int (nI i)), (0, .ref mo), (1, .int x)]) hx hb d_Md_find_101 rfl hl (by decide) rfl (fun ls hl => ?_)
                    refine lv_goto (tgt := 5) hx hb d_Md_find_102 (by decide) ?_
                    have hl := lv_sub hl [0, 1, 2, 3] (show _ = [(3, .int (nI (i + t69))), (2, .int (nI i)), (0, .ref mo), (1, .int x)] from rfl)
                    exfalso; omega
                  · skip
                    refine lv_bipush (v := (-2)) hx hb d_Md_find_86 (by decide) ?_
                    have hl := lv_sub hl [2] (show _ = [(0, .ref mo)] from rfl)
                    exact ex1 i v _ _ _ (((hv.symm.trans (mfd_dup (by omega) (nI_tk xt69 ht69) (by omega) (by omega) heq9 (fun h9 => h9.2 hc102)))).symm) hP hD hS hl
            · skip
              have n83 : sn < i + t69 := Nat.not_le.mp (fun h7 => hc81 ((nI_leI (a := i + t69) (b := sn) (by omega) (by omega)).mpr h7))
              refine lv_bipush (v := (-2)) hx hb d_Md_find_52 (by decide) ?_
              have hl := lv_sub hl [2] (show _ = [(0, .ref mo)] from rfl)
              exact ex0 i v _ _ _ (((hv.symm.trans (mfd_bad (by omega) (nI_tk xt69 ht69) (by omega)))).symm) hP hD hS hl
    | succ jj58 ih => 
      intro i v H locs ls hm9 hi hv hvv hP hD hS hl
      refine lv_iload_n hx hb d_Md_find_5 rfl (lv_at hl 0 rfl) ?_
      refine lv_aload_n hx hb d_Md_find_6 rfl (lv_at hl 2 rfl) ?_
      refine va_get (D := (dC, dI)) (ci := 12) (v := (.int (nI sn))) (C := R_Md) (T := F_Md) (N := 45) hx hb hg in_Md hown hK hP 0 rfl rfl 8 (by decide) (hg _ k_1028) (fun _ h9 => h9) rfl d_Md_find_7 ?_
      refine lv_icmp_ge (tgt := 105) hx hb d_Md_find_10 (by decide) (fun hc109 => ?_) (fun hc109 => ?_)
      · skip
        have n110 : sn ≤ i := (nI_leI (a := sn) (b := i) (by omega) (by omega)).mp hc109
        have hl := lv_sub hl [1, 2] (show _ = [(2, .int v), (0, .ref mo)] from rfl)
        exact ex2 i v _ _ _ ((mfd_end (by omega)).symm.trans hv) (hvv) hP hD hS hl
      · skip
        have n111 : i < sn := Nat.not_le.mp (fun h7 => hc109 ((nI_leI (a := sn) (b := i) (by omega) (by omega)).mpr h7))
        refine lv_iload_n hx hb d_Md_find_13 rfl (lv_at hl 0 rfl) ?_
        refine lv_iconst (v := 1) hx hb d_Md_find_14 (by decide) ?_
        refine lv_iadd hx hb d_Md_find_15 ?_
        refine lv_topi (fun x113 e112 => ?_)
        obtain rfl : x113 = nI (i + 1) := by rw [e112]; exact nI_add i 1
        refine lv_aload_n hx hb d_Md_find_16 rfl (lv_at hl 2 rfl) ?_
        refine va_get (D := (dC, dI)) (ci := 12) (v := (.int (nI sn))) (C := R_Md) (T := F_Md) (N := 45) hx hb hg in_Md hown hK hP 0 rfl rfl 8 (by decide) (hg _ k_1028) (fun _ h9 => h9) rfl d_Md_find_17 ?_
        refine lv_icmp_ge (tgt := 52) hx hb d_Md_find_20 (by decide) (fun hc114 => ?_) (fun hc114 => ?_)
        · skip
          have n115 : sn ≤ i + 1 := (nI_leI (a := sn) (b := i + 1) (by omega) (by omega)).mp hc114
          refine lv_bipush (v := (-2)) hx hb d_Md_find_52 (by decide) ?_
          have hl := lv_sub hl [2] (show _ = [(0, .ref mo)] from rfl)
          exact ex0 i v _ _ _ (((hv.symm.trans (mfd_bad (by omega) (rfl) (by omega)))).symm) hP hD hS hl
        · skip
          have n116 : i + 1 < sn := Nat.not_le.mp (fun h7 => hc114 ((nI_leI (a := sn) (b := i + 1) (by omega) (by omega)).mpr h7))
          refine lv_aload_n hx hb d_Md_find_23 rfl (lv_at hl 2 rfl) ?_
          refine va_get (D := (dC, dI)) (ci := 12) (v := (.ref (r 7))) (C := R_Md) (T := F_Md) (N := 45) hx hb hg in_Md hown hK hP 0 rfl rfl 7 (by decide) (hg _ k_1027) (fun _ h9 => h9) rfl d_Md_find_24 ?_
          refine lv_iload_n hx hb d_Md_find_27 rfl (lv_at hl 0 rfl) ?_
          refine lv_iconst (v := 1) hx hb d_Md_find_28 (by decide) ?_
          refine lv_iadd hx hb d_Md_find_29 ?_
          refine lv_topi (fun x118 e117 => ?_)
          obtain rfl : x118 = nI (i + 1) := by rw [e117]; exact nI_add i 1
          obtain ⟨t119, ht119, xt119⟩ := h7 (i + 1)
          refine va_iald hx hb hK hP 1 0 rfl rfl (i := (nI (i + 1))) (vp_in_nI (N := 1000) (by omega) (by decide)) d_Md_find_30 ?_
          refine lv_topi (fun x121 e120 => ?_)
          obtain rfl : x121 = nI t119 := by rw [e120]; rw [nI_clamp (by omega)]; exact xt119
          refine lv_iconst (v := 3) hx hb d_Md_find_31 (by decide) ?_
          refine lv_icmp_lt (tgt := 52) hx hb d_Md_find_32 (by decide) (fun hc122 => ?_) (fun hc122 => ?_)
          · skip
            have n123 : t119 < 3 := (nI_ltI (a := t119) (b := 3) (by omega) (by omega)).mp hc122
            refine lv_bipush (v := (-2)) hx hb d_Md_find_52 (by decide) ?_
            have hl := lv_sub hl [2] (show _ = [(0, .ref mo)] from rfl)
            exact ex0 i v _ _ _ (((hv.symm.trans (mfd_bad (by omega) (nI_tk xt119 ht119) (by omega)))).symm) hP hD hS hl
          · skip
            have n124 : 3 ≤ t119 := Nat.not_lt.mp (fun h7 => hc122 ((nI_ltI (a := t119) (b := 3) (by omega) (by omega)).mpr h7))
            refine lv_iload_n hx hb d_Md_find_35 rfl (lv_at hl 0 rfl) ?_
            refine lv_aload_n hx hb d_Md_find_36 rfl (lv_at hl 2 rfl) ?_
            refine va_get (D := (dC, dI)) (ci := 12) (v := (.ref (r 7))) (C := R_Md) (T := F_Md) (N := 45) hx hb hg in_Md hown hK hP 0 rfl rfl 7 (by decide) (hg _ k_1027) (fun _ h9 => h9) rfl d_Md_find_37 ?_
            refine lv_iload_n hx hb d_Md_find_40 rfl (lv_at hl 0 rfl) ?_
            refine lv_iconst (v := 1) hx hb d_Md_find_41 (by decide) ?_
            refine lv_iadd hx hb d_Md_find_42 ?_
            refine lv_topi (fun x126 e125 => ?_)
            obtain rfl : x126 = nI (i + 1) := by rw [e125]; exact nI_add i 1
            refine va_iald hx hb hK hP 1 0 rfl rfl (i := (nI (i + 1))) (vp_in_nI (N := 1000) (by omega) (by decide)) d_Md_find_43 ?_
            refine lv_topi (fun x128 e127 => ?_)
            obtain rfl : x128 = nI t119 := by rw [e127]; rw [nI_clamp (by omega)]; exact xt119
            refine lv_iadd hx hb d_Md_find_44 ?_
            refine lv_topi (fun x130 e129 => ?_)
            obtain rfl : x130 = nI (i + t119) := by rw [e129]; exact nI_add i t119
            refine lv_aload_n hx hb d_Md_find_45 rfl (lv_at hl 2 rfl) ?_
            refine va_get (D := (dC, dI)) (ci := 12) (v := (.int (nI sn))) (C := R_Md) (T := F_Md) (N := 45) hx hb hg in_Md hown hK hP 0 rfl rfl 8 (by decide) (hg _ k_1028) (fun _ h9 => h9) rfl d_Md_find_46 ?_
            refine lv_icmp_le (tgt := 55) hx hb d_Md_find_49 (by decide) (fun hc131 => ?_) (fun hc131 => ?_)
            · skip
              have n132 : i + t119 ≤ sn := (nI_leI (a := i + t119) (b := sn) (by omega) (by omega)).mp hc131
              refine lv_aload_n hx hb d_Md_find_55 rfl (lv_at hl 2 rfl) ?_
              refine va_get (D := (dC, dI)) (ci := 12) (v := (.ref (r 7))) (C := R_Md) (T := F_Md) (N := 45) hx hb hg in_Md hown hK hP 0 rfl rfl 7 (by decide) (hg _ k_1027) (fun _ h9 => h9) rfl d_Md_find_56 ?_
              refine lv_iload_n hx hb d_Md_find_59 rfl (lv_at hl 0 rfl) ?_
              obtain ⟨t134, ht134, xt134⟩ := h7 i
              refine va_iald hx hb hK hP 1 0 rfl rfl (i := (nI i)) (vp_in_nI (N := 1000) (by omega) (by decide)) d_Md_find_60 ?_
              refine lv_topi (fun x136 e135 => ?_)
              obtain rfl : x136 = nI t134 := by rw [e135]; rw [nI_clamp (by omega)]; exact xt134
              refine lv_iload_n hx hb d_Md_find_61 rfl (lv_at hl 3 rfl) ?_
              refine lv_icmp_ne (tgt := 91) hx hb d_Md_find_62 (by decide) (fun hc137 => ?_) (fun hc137 => ?_)
              · skip
                have hne9 : ¬ f7 i = x := fun h9 => hc137 (by rw [← h9, xt134])
                refine lv_iload_n hx hb d_Md_find_91 rfl (lv_at hl 0 rfl) ?_
                refine lv_aload_n hx hb d_Md_find_92 rfl (lv_at hl 2 rfl) ?_
                refine va_get (D := (dC, dI)) (ci := 12) (v := (.ref (r 7))) (C := R_Md) (T := F_Md) (N := 45) hx hb hg in_Md hown hK hP 0 rfl rfl 7 (by decide) (hg _ k_1027) (fun _ h9 => h9) rfl d_Md_find_93 ?_
                refine lv_iload_n hx hb d_Md_find_96 rfl (lv_at hl 0 rfl) ?_
                refine lv_iconst (v := 1) hx hb d_Md_find_97 (by decide) ?_
                refine lv_iadd hx hb d_Md_find_98 ?_
                refine lv_topi (fun x139 e138 => ?_)
                obtain rfl : x139 = nI (i + 1) := by rw [e138]; exact nI_add i 1
                refine va_iald hx hb hK hP 1 0 rfl rfl (i := (nI (i + 1))) (vp_in_nI (N := 1000) (by omega) (by decide)) d_Md_find_99 ?_
                refine lv_topi (fun x141 e140 => ?_)
                obtain rfl : x141 = nI t119 := by rw [e140]; rw [nI_clamp (by omega)]; exact xt119
                refine lv_iadd hx hb d_Md_find_100 ?_
                refine lv_topi (fun x143 e142 => ?_)
                obtain rfl : x143 = nI (i + t119) := by rw [e142]; exact nI_add i t119
                refine lv_istore_n (lv' := [(3, .int (nI (i + t119))), (2, .int v), (0, .ref mo), (1, .int x)]) hx hb d_Md_find_101 rfl hl (by decide) rfl (fun ls hl => ?_)
                refine lv_goto (tgt := 5) hx hb d_Md_find_102 (by decide) ?_
                have hl := lv_sub hl [0, 1, 2, 3] (show _ = [(3, .int (nI (i + t119))), (2, .int v), (0, .ref mo), (1, .int x)] from rfl)
                exact ih (i + t119) v _ _ _ (by omega) (⟨by omega, by omega⟩) ((mfd_on (by omega) (nI_tk xt119 ht119) (by omega) (by omega) hne9).symm.trans hv) (hvv) hP hD hS hl
              · skip
                have heq9 : f7 i = x := by rw [xt134]; exact hc137
                refine lv_iload_n hx hb d_Md_find_65 rfl (lv_at hl 1 rfl) ?_
                refine lv_if_ge (tgt := 86) hx hb d_Md_find_66 (by decide) (fun hc144 => ?_) (fun hc144 => ?_)
                · skip
                  refine lv_bipush (v := (-2)) hx hb d_Md_find_86 (by decide) ?_
                  have hl := lv_sub hl [2] (show _ = [(0, .ref mo)] from rfl)
                  exact ex1 i v _ _ _ (((hv.symm.trans (mfd_dup (by omega) (nI_tk xt119 ht119) (by omega) (by omega) heq9 (fun h9 => absurd h9.1 (Int32.not_lt.mpr hc144))))).symm) hP hD hS hl
                · skip
                  have hv0 : v < 0 := Int32.not_le.mp hc144
                  refine lv_iload_n hx hb d_Md_find_69 rfl (lv_at hl 3 rfl) ?_
                  refine lv_aload_n hx hb d_Md_find_70 rfl (lv_at hl 2 rfl) ?_
                  refine va_get (D := (dC, dI)) (ci := 12) (v := (.ref (r 7))) (C := R_Md) (T := F_Md) (N := 45) hx hb hg in_Md hown hK hP 0 rfl rfl 7 (by decide) (hg _ k_1027) (fun _ h9 => h9) rfl d_Md_find_71 ?_
                  refine lv_iload_n hx hb d_Md_find_74 rfl (lv_at hl 0 rfl) ?_
                  refine lv_iconst (v := 1) hx hb d_Md_find_75 (by decide) ?_
                  refine lv_iadd hx hb d_Md_find_76 ?_
                  refine lv_topi (fun x146 e145 => ?_)
                  obtain rfl : x146 = nI (i + 1) := by rw [e145]; exact nI_add i 1
                  refine va_iald hx hb hK hP 1 0 rfl rfl (i := (nI (i + 1))) (vp_in_nI (N := 1000) (by omega) (by decide)) d_Md_find_77 ?_
                  refine lv_topi (fun x148 e147 => ?_)
                  obtain rfl : x148 = nI t119 := by rw [e147]; rw [nI_clamp (by omega)]; exact xt119
                  refine lv_iconst (v := 2) hx hb d_Md_find_78 (by decide) ?_
                  refine lv_isub hx hb d_Md_find_79 ?_
                  refine lv_topi (fun x150 e149 => ?_)
                  obtain rfl : x150 = nI (t119 - 2) := by rw [e149]; exact pk_sub (a := t119) (b := 2) (by omega)
                  have hPc := hP.sub (ws' := []) [] rfl
                  have hDc := hD.sub (ws' := []) [] (by decide) rfl
                  have hFc := va_free (wc := []) hD hS hA [] rfl
                  refine va_calli (va_runS (As := [.int x, .int (nI (t119 - 2))]) (rest := []) ⟨hx, hb, hml, hown, hg⟩ (m_right l dC dI cT H.size x (nI (t119 - 2)) ) (va_cwS 2 hg (gI (List.forall_mem_append.mpr ⟨List.forall_mem_cons.mpr ⟨k_1298, List.forall_mem_cons.mpr ⟨k_1299, List.forall_mem_cons.mpr ⟨k_13, fun _ h => absurd h List.not_mem_nil⟩⟩⟩, List.forall_mem_cons.mpr ⟨k_1300, fun _ h => h⟩⟩)) rfl rfl rfl (by decide +kernel) ⟨Nat.le_of_ble_eq_true rfl, Nat.le_of_ble_eq_true rfl⟩) ⟨fun a U g mk q => by obtain ⟨q0, q1, qP, qK, qD⟩ := q; exact ⟨q0, q1, qP, va_K.moved (u := U) (U := U.calling g mk a) (Vm.Alike.refl U.vm) qK, qD⟩, fun U hU hW => ⟨rfl, by rw [hU], by rw [hU]; exact hPc, va_K.moved hW.alike hK, hDc.weaken (fun _ _ _ _ => trivial)⟩⟩ rfl rfl hl.1 rfl (lv_room (Nat.le_of_ble_eq_true rfl)) d_Md_find_80 ⟨Nat.le_of_ble_eq_true rfl, Nat.le_of_ble_eq_true rfl⟩) hS (fun q _ h => hFc q h) hFc (fun rv9 u t H1 locs ht hvm hw hB hz1 hk1 hS => ?_)
                  try dsimp only at hw hB
                  obtain ⟨hP1, hK1, hD1⟩ := hB
                  rw [ht] at hP1
                  obtain ⟨rfl, hw⟩ := hw
                  obtain ⟨hP, hD⟩ := va_join (wr := [(mo, .inr (12, mdG r cd tm (nI sn) (nI tx) (nI lz) (nI az) (nI na) (nI nt) (nI nr) mw ml mk dq)), (r 7, .inl ((cT 0), 1000, .inl f7))]) (w1 := []) hP hD [] [0, 1] rfl rfl (by decide) (by decide) hk1 hFc hP1 hD1
                  have hw151 := hw
                  clear hPc hDc hFc hz1 hk1 hP1 hK1 hD1
                  generalize H1 = H at hP hS ⊢
                  have hP : va_P (dC, dI) vcl [(mo, .inr (12, mdG r cd tm (nI sn) (nI tx) (nI lz) (nI az) (nI na) (nI nt) (nI nr) mw ml mk dq)), (r 7, .inl ((cT 0), 1000, .inl f7))] H := hP
                  have hD : va_D A [(mo, .inr (12, mdG r cd tm (nI sn) (nI tx) (nI lz) (nI az) (nI na) (nI nt) (nI nr) mw ml mk dq)), (r 7, .inl ((cT 0), 1000, .inl f7))] := hD
                  refine lv_if_ne (tgt := 89) hx hb d_Md_find_83 (by decide) (fun hc152 => ?_) (fun hc152 => ?_)
                  · skip
                    have hrs0 := hc152
                    refine lv_iload_n hx hb d_Md_find_89 rfl (lv_at hl 0 rfl) ?_
                    refine lv_istore_n (lv' := [(2, .int (nI i)), (3, .int (nI i)), (0, .ref mo), (1, .int x)]) hx hb d_Md_find_90 rfl hl (by decide) rfl (fun ls hl => ?_)
                    refine lv_iload_n hx hb d_Md_find_91 rfl (lv_at hl 1 rfl) ?_
                    refine lv_aload_n hx hb d_Md_find_92 rfl (lv_at hl 2 rfl) ?_
                    refine va_get (D := (dC, dI)) (ci := 12) (v := (.ref (r 7))) (C := R_Md) (T := F_Md) (N := 45) hx hb hg in_Md hown hK hP 0 rfl rfl 7 (by decide) (hg _ k_1027) (fun _ h9 => h9) rfl d_Md_find_93 ?_
                    refine lv_iload_n hx hb d_Md_find_96 rfl (lv_at hl 1 rfl) ?_
                    refine lv_iconst (v := 1) hx hb d_Md_find_97 (by decide) ?_
                    refine lv_iadd hx hb d_Md_find_98 ?_
                    refine lv_topi (fun x154 e153 => ?_)
                    obtain rfl : x154 = nI (i + 1) := by rw [e153]; exact nI_add i 1
                    refine va_iald hx hb hK hP 1 0 rfl rfl (i := (nI (i + 1))) (vp_in_nI (N := 1000) (by omega) (by decide)) d_Md_find_99 ?_
                    refine lv_topi (fun x156 e155 => ?_)
                    obtain rfl : x156 = nI t119 := by rw [e155]; rw [nI_clamp (by omega)]; exact xt119
                    refine lv_iadd hx hb d_Md_find_100 ?_
                    refine lv_topi (fun x158 e157 => ?_)
                    obtain rfl : x158 = nI (i + t119) := by rw [e157]; exact nI_add i t119
                    refine lv_istore_n (lv' := [(3, .int (nI (i + t119))), (2, .int (nI i)), (0, .ref mo), (1, .int x)]) hx hb d_Md_find_101 rfl hl (by decide) rfl (fun ls hl => ?_)
                    refine lv_goto (tgt := 5) hx hb d_Md_find_102 (by decide) ?_
                    have hl := lv_sub hl [0, 1, 2, 3] (show _ = [(3, .int (nI (i + t119))), (2, .int (nI i)), (0, .ref mo), (1, .int x)] from rfl)
                    exact ih (i + t119) (nI i) _ _ _ (by omega) (⟨by omega, by omega⟩) ((mfd_hit (by omega) (nI_tk xt119 ht119) (by omega) (by omega) heq9 ⟨hv0, hrs0⟩).symm.trans hv) (Or.inr ⟨i, t119 - 2, rfl, by omega, by omega, by omega, by rw [xt119]; exact congrArg nI (by omega), hrs0⟩) hP hD hS hl
                  · skip
                    refine lv_bipush (v := (-2)) hx hb d_Md_find_86 (by decide) ?_
                    have hl := lv_sub hl [2] (show _ = [(0, .ref mo)] from rfl)
                    exact ex1 i v _ _ _ (((hv.symm.trans (mfd_dup (by omega) (nI_tk xt119 ht119) (by omega) (by omega) heq9 (fun h9 => h9.2 hc152)))).symm) hP hD hS hl
            · skip
              have n133 : sn < i + t119 := Nat.not_le.mp (fun h7 => hc131 ((nI_leI (a := i + t119) (b := sn) (by omega) (by omega)).mpr h7))
              refine lv_bipush (v := (-2)) hx hb d_Md_find_52 (by decide) ?_
              have hl := lv_sub hl [2] (show _ = [(0, .ref mo)] from rfl)
              exact ex0 i v _ _ _ (((hv.symm.trans (mfd_bad (by omega) (nI_tk xt119 ht119) (by omega)))).symm) hP hD hS hl
  refine L57 _ (fun i v H locs ls hr2 hP hD hS hl => ?_) (fun i v H locs ls hr2 hP hD hS hl => ?_) (fun i v H locs ls hr2 hvv hP hD hS hl => ?_) (sn - 20) 20 (-1) s.heap _ ls (Nat.le_refl _) (⟨by omega, by omega⟩) (rfl) (Or.inl rfl) hP hD hS hl
  · skip
    have hP9 := hP.sub (ws' := [(mo, .inr (12, mdG r cd tm (nI sn) (nI tx) (nI lz) (nI az) (nI na) (nI nt) (nI nr) mw ml mk dq)), (r 7, .inl ((cT 0), 1000, .inl f7))]) [0, 1] rfl
    have hD9 := hD.sub (ws' := [(mo, .inr (12, mdG r cd tm (nI sn) (nI tx) (nI lz) (nI az) (nI na) (nI nt) (nI nr) mw ml mk dq)), (r 7, .inl ((cT 0), 1000, .inl f7))]) [0, 1] (by decide) rfl
    exact W.iret (v := (-2)) hx hb hr (fun t ht hW => ⟨⟨_, (), rfl, ⟨hr2, Or.inl rfl⟩, by rw [ht]; exact hP9, va_K.moved hW.alike hK, hD9⟩, hS.F ht⟩) hS.2.2 d_Md_find_54
  · skip
    have hP9 := hP.sub (ws' := [(mo, .inr (12, mdG r cd tm (nI sn) (nI tx) (nI lz) (nI az) (nI na) (nI nt) (nI nr) mw ml mk dq)), (r 7, .inl ((cT 0), 1000, .inl f7))]) [0, 1] rfl
    have hD9 := hD.sub (ws' := [(mo, .inr (12, mdG r cd tm (nI sn) (nI tx) (nI lz) (nI az) (nI na) (nI nt) (nI nr) mw ml mk dq)), (r 7, .inl ((cT 0), 1000, .inl f7))]) [0, 1] (by decide) rfl
    exact W.iret (v := (-2)) hx hb hr (fun t ht hW => ⟨⟨_, (), rfl, ⟨hr2, Or.inl rfl⟩, by rw [ht]; exact hP9, va_K.moved hW.alike hK, hD9⟩, hS.F ht⟩) hS.2.2 d_Md_find_88
  · skip
    refine lv_iload_n hx hb d_Md_find_105 rfl (lv_at hl 0 rfl) ?_
    have hP9 := hP.sub (ws' := [(mo, .inr (12, mdG r cd tm (nI sn) (nI tx) (nI lz) (nI az) (nI na) (nI nt) (nI nr) mw ml mk dq)), (r 7, .inl ((cT 0), 1000, .inl f7))]) [0, 1] rfl
    have hD9 := hD.sub (ws' := [(mo, .inr (12, mdG r cd tm (nI sn) (nI tx) (nI lz) (nI az) (nI na) (nI nt) (nI nr) mw ml mk dq)), (r 7, .inl ((cT 0), 1000, .inl f7))]) [0, 1] (by decide) rfl
    exact W.iret (v := v) hx hb hr (fun t ht hW => ⟨⟨_, (), rfl, ⟨hr2, Or.inr hvv⟩, by rw [ht]; exact hP9, va_K.moved hW.alike hK, hD9⟩, hS.F ht⟩) hS.2.2 d_Md_find_106
