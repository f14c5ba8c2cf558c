theorem d_Rq_isKnown_0 : decode b_Rq_isKnown 0 = .ok (.iload_n 0, 1) := by decide +kernel
theorem d_Rq_isKnown_1 : decode b_Rq_isKnown 1 = .ok (.iconst 1, 1) := by decide +kernel
theorem d_Rq_isKnown_2 : decode b_Rq_isKnown 2 = .ok (.if_icmp .eq 50, 3) := by decide +kernel
theorem d_Rq_isKnown_52 : decode b_Rq_isKnown 52 = .ok (.iconst 1, 1) := by decide +kernel
theorem d_Rq_isKnown_53 : decode b_Rq_isKnown 53 = .ok (.goto 4, 3) := by decide +kernel
theorem d_Rq_isKnown_57 : decode b_Rq_isKnown 57 = .ok (.ireturn, 1) := by decide +kernel
theorem d_Rq_isKnown_5 : decode b_Rq_isKnown 5 = .ok (.iload_n 0, 1) := by decide +kernel
theorem d_Rq_isKnown_6 : decode b_Rq_isKnown 6 = .ok (.iconst 2, 1) := by decide +kernel
theorem d_Rq_isKnown_7 : decode b_Rq_isKnown 7 = .ok (.if_icmp .eq 45, 3) := by decide +kernel
theorem d_Rq_isKnown_10 : decode b_Rq_isKnown 10 = .ok (.iload_n 0, 1) := by decide +kernel
theorem d_Rq_isKnown_11 : decode b_Rq_isKnown 11 = .ok (.bipush 24, 2) := by decide +kernel
theorem d_Rq_isKnown_13 : decode b_Rq_isKnown 13 = .ok (.if_icmp .eq 39, 3) := by decide +kernel
theorem d_Rq_isKnown_16 : decode b_Rq_isKnown 16 = .ok (.iload_n 0, 1) := by decide +kernel
theorem d_Rq_isKnown_17 : decode b_Rq_isKnown 17 = .ok (.bipush 40, 2) := by decide +kernel
theorem d_Rq_isKnown_19 : decode b_Rq_isKnown 19 = .ok (.if_icmp .eq 33, 3) := by decide +kernel
theorem d_Rq_isKnown_22 : decode b_Rq_isKnown 22 = .ok (.iload_n 0, 1) := by decide +kernel
theorem d_Rq_isKnown_23 : decode b_Rq_isKnown 23 = .ok (.bipush 42, 2) := by decide +kernel
theorem d_Rq_isKnown_25 : decode b_Rq_isKnown 25 = .ok (.if_icmp .eq 27, 3) := by decide +kernel
theorem d_Rq_isKnown_28 : decode b_Rq_isKnown 28 = .ok (.iload_n 0, 1) := by decide +kernel
theorem d_Rq_isKnown_29 : decode b_Rq_isKnown 29 = .ok (.bipush 43, 2) := by decide +kernel
theorem d_Rq_isKnown_31 : decode b_Rq_isKnown 31 = .ok (.if_icmp .eq 21, 3) := by decide +kernel
theorem d_Rq_isKnown_34 : decode b_Rq_isKnown 34 = .ok (.iload_n 0, 1) := by decide +kernel
theorem d_Rq_isKnown_35 : decode b_Rq_isKnown 35 = .ok (.bipush 44, 2) := by decide +kernel
theorem d_Rq_isKnown_37 : decode b_Rq_isKnown 37 = .ok (.if_icmp .eq 15, 3) := by decide +kernel
theorem d_Rq_isKnown_40 : decode b_Rq_isKnown 40 = .ok (.iload_n 0, 1) := by decide +kernel
theorem d_Rq_isKnown_41 : decode b_Rq_isKnown 41 = .ok (.bipush 79, 2) := by decide +kernel
theorem d_Rq_isKnown_43 : decode b_Rq_isKnown 43 = .ok (.if_icmp .eq 9, 3) := by decide +kernel
theorem d_Rq_isKnown_46 : decode b_Rq_isKnown 46 = .ok (.iload_n 0, 1) := by decide +kernel
theorem d_Rq_isKnown_47 : decode b_Rq_isKnown 47 = .ok (.bipush 80, 2) := by decide +kernel
theorem d_Rq_isKnown_49 : decode b_Rq_isKnown 49 = .ok (.if_icmp .ne 7, 3) := by decide +kernel
theorem d_Rq_isKnown_56 : decode b_Rq_isKnown 56 = .ok (.iconst 0, 1) := by decide +kernel
theorem d_Rq_fits_0 : decode b_Rq_fits 0 = .ok (.iload_n 0, 1) := by decide +kernel
theorem d_Rq_fits_1 : decode b_Rq_fits 1 = .ok (.lookupswitch 164 #[(1, 59), (2, 76), (24, 106), (44, 118), (79, 135), (80, 152)], 59) := by decide +kernel
theorem d_Rq_fits_60 : decode b_Rq_fits 60 = .ok (.iload_n 1, 1) := by decide +kernel
theorem d_Rq_fits_61 : decode b_Rq_fits 61 = .ok (.iconst 1, 1) := by decide +kernel
theorem d_Rq_fits_62 : decode b_Rq_fits 62 = .ok (.if_icmp .lt 13, 3) := by decide +kernel
theorem d_Rq_fits_75 : decode b_Rq_fits 75 = .ok (.iconst 0, 1) := by decide +kernel
theorem d_Rq_fits_76 : decode b_Rq_fits 76 = .ok (.ireturn, 1) := by decide +kernel
theorem d_Rq_fits_65 : decode b_Rq_fits 65 = .ok (.iload_n 1, 1) := by decide +kernel
theorem d_Rq_fits_66 : decode b_Rq_fits 66 = .ok (.bipush 20, 2) := by decide +kernel
theorem d_Rq_fits_68 : decode b_Rq_fits 68 = .ok (.if_icmp .gt 7, 3) := by decide +kernel
theorem d_Rq_fits_71 : decode b_Rq_fits 71 = .ok (.iconst 1, 1) := by decide +kernel
theorem d_Rq_fits_72 : decode b_Rq_fits 72 = .ok (.goto 4, 3) := by decide +kernel
theorem d_Rq_fits_77 : decode b_Rq_fits 77 = .ok (.iload_n 1, 1) := by decide +kernel
theorem d_Rq_fits_78 : decode b_Rq_fits 78 = .ok (.bipush 16, 2) := by decide +kernel
theorem d_Rq_fits_80 : decode b_Rq_fits 80 = .ok (.if_icmp .eq 21, 3) := by decide +kernel
theorem d_Rq_fits_101 : decode b_Rq_fits 101 = .ok (.iconst 1, 1) := by decide +kernel
theorem d_Rq_fits_102 : decode b_Rq_fits 102 = .ok (.goto 4, 3) := by decide +kernel
theorem d_Rq_fits_106 : decode b_Rq_fits 106 = .ok (.ireturn, 1) := by decide +kernel
theorem d_Rq_fits_83 : decode b_Rq_fits 83 = .ok (.iload_n 1, 1) := by decide +kernel
theorem d_Rq_fits_84 : decode b_Rq_fits 84 = .ok (.bipush 32, 2) := by decide +kernel
theorem d_Rq_fits_86 : decode b_Rq_fits 86 = .ok (.if_icmp .eq 15, 3) := by decide +kernel
theorem d_Rq_fits_89 : decode b_Rq_fits 89 = .ok (.iload_n 1, 1) := by decide +kernel
theorem d_Rq_fits_90 : decode b_Rq_fits 90 = .ok (.bipush 48, 2) := by decide +kernel
theorem d_Rq_fits_92 : decode b_Rq_fits 92 = .ok (.if_icmp .eq 9, 3) := by decide +kernel
theorem d_Rq_fits_95 : decode b_Rq_fits 95 = .ok (.iload_n 1, 1) := by decide +kernel
theorem d_Rq_fits_96 : decode b_Rq_fits 96 = .ok (.bipush 64, 2) := by decide +kernel
theorem d_Rq_fits_98 : decode b_Rq_fits 98 = .ok (.if_icmp .ne 7, 3) := by decide +kernel
theorem d_Rq_fits_105 : decode b_Rq_fits 105 = .ok (.iconst 0, 1) := by decide +kernel
theorem d_Rq_fits_107 : decode b_Rq_fits 107 = .ok (.iload_n 1, 1) := by decide +kernel
theorem d_Rq_fits_108 : decode b_Rq_fits 108 = .ok (.bipush 8, 2) := by decide +kernel
theorem d_Rq_fits_110 : decode b_Rq_fits 110 = .ok (.if_icmp .ne 7, 3) := by decide +kernel
theorem d_Rq_fits_117 : decode b_Rq_fits 117 = .ok (.iconst 0, 1) := by decide +kernel
theorem d_Rq_fits_118 : decode b_Rq_fits 118 = .ok (.ireturn, 1) := by decide +kernel
theorem d_Rq_fits_113 : decode b_Rq_fits 113 = .ok (.iconst 1, 1) := by decide +kernel
theorem d_Rq_fits_114 : decode b_Rq_fits 114 = .ok (.goto 4, 3) := by decide +kernel
theorem d_Rq_fits_165 : decode b_Rq_fits 165 = .ok (.iload_n 1, 1) := by decide +kernel
theorem d_Rq_fits_166 : decode b_Rq_fits 166 = .ok (.iconst 4, 1) := by decide +kernel
theorem d_Rq_fits_167 : decode b_Rq_fits 167 = .ok (.if_icmp .ne 7, 3) := by decide +kernel
theorem d_Rq_fits_174 : decode b_Rq_fits 174 = .ok (.iconst 0, 1) := by decide +kernel
theorem d_Rq_fits_175 : decode b_Rq_fits 175 = .ok (.ireturn, 1) := by decide +kernel
theorem d_Rq_fits_170 : decode b_Rq_fits 170 = .ok (.iconst 1, 1) := by decide +kernel
theorem d_Rq_fits_171 : decode b_Rq_fits 171 = .ok (.goto 4, 3) := by decide +kernel
theorem d_Rq_fits_119 : decode b_Rq_fits 119 = .ok (.iload_n 1, 1) := by decide +kernel
theorem d_Rq_fits_120 : decode b_Rq_fits 120 = .ok (.iconst 1, 1) := by decide +kernel
theorem d_Rq_fits_121 : decode b_Rq_fits 121 = .ok (.if_icmp .lt 13, 3) := by decide +kernel
theorem d_Rq_fits_134 : decode b_Rq_fits 134 = .ok (.iconst 0, 1) := by decide +kernel
theorem d_Rq_fits_135 : decode b_Rq_fits 135 = .ok (.ireturn, 1) := by decide +kernel
theorem d_Rq_fits_124 : decode b_Rq_fits 124 = .ok (.iload_n 1, 1) := by decide +kernel
theorem d_Rq_fits_125 : decode b_Rq_fits 125 = .ok (.bipush 16, 2) := by decide +kernel
theorem d_Rq_fits_127 : decode b_Rq_fits 127 = .ok (.if_icmp .gt 7, 3) := by decide +kernel
theorem d_Rq_fits_130 : decode b_Rq_fits 130 = .ok (.iconst 1, 1) := by decide +kernel
theorem d_Rq_fits_131 : decode b_Rq_fits 131 = .ok (.goto 4, 3) := by decide +kernel
theorem d_Rq_fits_136 : decode b_Rq_fits 136 = .ok (.iload_n 1, 1) := by decide +kernel
theorem d_Rq_fits_137 : decode b_Rq_fits 137 = .ok (.iconst 4, 1) := by decide +kernel
theorem d_Rq_fits_138 : decode b_Rq_fits 138 = .ok (.if_icmp .lt 13, 3) := by decide +kernel
theorem d_Rq_fits_151 : decode b_Rq_fits 151 = .ok (.iconst 0, 1) := by decide +kernel
theorem d_Rq_fits_152 : decode b_Rq_fits 152 = .ok (.ireturn, 1) := by decide +kernel
theorem d_Rq_fits_141 : decode b_Rq_fits 141 = .ok (.iload_n 1, 1) := by decide +kernel
theorem d_Rq_fits_142 : decode b_Rq_fits 142 = .ok (.bipush 100, 2) := by decide +kernel
theorem d_Rq_fits_144 : decode b_Rq_fits 144 = .ok (.if_icmp .gt 7, 3) := by decide +kernel
theorem d_Rq_fits_147 : decode b_Rq_fits 147 = .ok (.iconst 1, 1) := by decide +kernel
theorem d_Rq_fits_148 : decode b_Rq_fits 148 = .ok (.goto 4, 3) := by decide +kernel
theorem d_Rq_fits_153 : decode b_Rq_fits 153 = .ok (.iload_n 1, 1) := by decide +kernel
theorem d_Rq_fits_154 : decode b_Rq_fits 154 = .ok (.bipush 16, 2) := by decide +kernel
theorem d_Rq_fits_156 : decode b_Rq_fits 156 = .ok (.if_icmp .ne 7, 3) := by decide +kernel
theorem d_Rq_fits_163 : decode b_Rq_fits 163 = .ok (.iconst 0, 1) := by decide +kernel
theorem d_Rq_fits_164 : decode b_Rq_fits 164 = .ok (.ireturn, 1) := by decide +kernel
theorem d_Rq_fits_159 : decode b_Rq_fits 159 = .ok (.iconst 1, 1) := by decide +kernel
theorem d_Rq_fits_160 : decode b_Rq_fits 160 = .ok (.goto 4, 3) := by decide +kernel
theorem d_Rq_takes_0 : decode b_Rq_takes 0 = .ok (.iload_n 1, 1) := by decide +kernel
theorem d_Rq_takes_1 : decode b_Rq_takes 1 = .ok (.invokestatic 38, 3) := by decide +kernel
theorem d_Rq_takes_4 : decode b_Rq_takes 4 = .ok (.ifCond .ne 5, 3) := by decide +kernel
theorem d_Rq_takes_9 : decode b_Rq_takes 9 = .ok (.aload_n 0, 1) := by decide +kernel
theorem d_Rq_takes_10 : decode b_Rq_takes 10 = .ok (.getfield 9, 3) := by decide +kernel
theorem d_Rq_takes_13 : decode b_Rq_takes 13 = .ok (.iload_n 1, 1) := by decide +kernel
theorem d_Rq_takes_14 : decode b_Rq_takes 14 = .ok (.iaload, 1) := by decide +kernel
theorem d_Rq_takes_15 : decode b_Rq_takes 15 = .ok (.ifCond .gt 11, 3) := by decide +kernel
theorem d_Rq_takes_26 : decode b_Rq_takes 26 = .ok (.iconst 0, 1) := by decide +kernel
theorem d_Rq_takes_27 : decode b_Rq_takes 27 = .ok (.ireturn, 1) := by decide +kernel
theorem d_Rq_takes_18 : decode b_Rq_takes 18 = .ok (.iload_n 1, 1) := by decide +kernel
theorem d_Rq_takes_19 : decode b_Rq_takes 19 = .ok (.iload_n 3, 1) := by decide +kernel
theorem d_Rq_takes_20 : decode b_Rq_takes 20 = .ok (.invokestatic 42, 3) := by decide +kernel
theorem d_Rq_takes_23 : decode b_Rq_takes 23 = .ok (.ifCond .ne 5, 3) := by decide +kernel
theorem d_Rq_takes_28 : decode b_Rq_takes 28 = .ok (.aload_n 0, 1) := by decide +kernel
theorem d_Rq_takes_29 : decode b_Rq_takes 29 = .ok (.getfield 9, 3) := by decide +kernel
theorem d_Rq_takes_32 : decode b_Rq_takes 32 = .ok (.iload_n 1, 1) := by decide +kernel
theorem d_Rq_takes_33 : decode b_Rq_takes 33 = .ok (.iload_n 2, 1) := by decide +kernel
theorem d_Rq_takes_34 : decode b_Rq_takes 34 = .ok (.iastore, 1) := by decide +kernel
theorem d_Rq_takes_35 : decode b_Rq_takes 35 = .ok (.iconst 1, 1) := by decide +kernel
theorem d_Rq_takes_36 : decode b_Rq_takes 36 = .ok (.ireturn, 1) := by decide +kernel
theorem d_Rq_takes_7 : decode b_Rq_takes 7 = .ok (.iconst 1, 1) := by decide +kernel
theorem d_Rq_takes_8 : decode b_Rq_takes 8 = .ok (.ireturn, 1) := by decide +kernel
/-- the types that the document names; how long their values may be -/
def KT (c : Nat) : Prop := c = 1 ∨ c = 2 ∨ c = 24 ∨ c = 40 ∨ c = 42 ∨ c = 43 ∨ c = 44 ∨ c = 79 ∨ c = 80
def FT (c n : Nat) : Prop := (c = 1 → 1 ≤ n ∧ n ≤ 20) ∧ (c = 2 → n = 16 ∨ n = 32 ∨ n = 48 ∨ n = 64) ∧ (c = 24 → n = 8) ∧ (c = 44 → 1 ≤ n ∧ n ≤ 16) ∧ (c = 79 → 4 ≤ n ∧ n ≤ 100) ∧ (c = 80 → n = 16) ∧ (c = 40 ∨ c = 42 ∨ c = 43 → n = 4)
/-- what the rows of a packet that was found whole say: f its bytes, len its length, g the starts by type -/
def RQW (g f : Nat → Int32) (len : Nat) : Prop := ∀ c : Nat, KT c → g c = 0 ∨ ∃ a n : Nat, g c = nI a ∧ 22 ≤ a ∧ f (a - 1) = nI (n + 2) ∧ a + n ≤ len ∧ FT c n
theorem KT_lt {c : Nat} (h : KT c) : c < 256 := by unfold KT at h; omega
set_option maxHeartbeats 4000000 in
set_option maxRecDepth 100000 in
/-- isKnown -/
theorem c_known (l : Launch) (dC : Nat → ClassId) (dI : Nat → Nat → Nat) (cT : Nat → ClassId) (sz : Nat) (c9 : Nat) (hc9 : c9 < 256) : Met l y_Rq_isKnown (Cond.code y_Rq_isKnown b_Rq_isKnown 1 (Option.some Jvm.ClassFile.FieldType.boolean) :: BIG) ({ frames := 0, cells := 0, slots := 0, locals := 0 }) (va_Pc [.int (nI c9)] (fun U => U.heap.size = sz ∧ va_P (dC, dI) vcl [] U.heap ∧ va_K (dC, dI) vcl (tyL cT) U ∧ va_D (fun _ => True) [])) (va_Qi (S := Unit) (fun rv9 u => (rv9 = 0 ∨ rv9 = 1) ∧ (rv9 = 1 → KT c9)) (fun u t => va_P (dC, dI) vcl [] t.heap ∧ va_K (dC, dI) vcl (tyL cT) t ∧ va_D (va_A [] sz) []) (va_A [] sz)) 0 0 (va_A [] sz) := by
  refine Met.ofW (cc := b_Rq_isKnown) (maxL := 1) (ret := (Option.some Jvm.ClassFile.FieldType.boolean)) (by decide) rfl ?_
  intro p e s m args below meth c s₁ B hml hv
  obtain ⟨hargs, hsz, hP, hK, hD0⟩ := hv
  have hx := B.exec
  have hb := B.bytes
  have hr := B.returns
  have hts := atoms_spec (ws := (Cond.code y_Rq_isKnown b_Rq_isKnown 1 (Option.some Jvm.ClassFile.FieldType.boolean) :: BIG)) B.pre
  have hg : ∀ w ∈ BIG, w.before _ s = true := fun w h => hts w (List.mem_cons_of_mem _ h)
  have hown : s.vm.findClass "DoorServer$Request" = some m.cls := findClass_of_methodNamed B.named
  have hlocks := B.notSynchronized
  subst hsz
  have hD := hD0.self (sz := s.heap.size)
  generalize hAe : va_A [] s.heap.size = A at hD ⊢
  have hA : ∀ q : Nat, s.heap.size ≤ q → A q := fun q h => by rw [← hAe]; exact Or.inr h
  have hS : va_S A s.heap s.heap [] := va_S.rf
  have hl := lv_entry ([.int (nI c9)]) (n := 1) (Nat.le_of_ble_eq_true rfl)
  refine W.eq (g2 := entryFrame m (List.toArray [.int (nI c9)]) 1) (by rw [hargs]) ?_
  rw [lg_entry_eq]
  generalize (lg_sl ([.int (nI c9)]) ++ List.replicate (1 - (lg_sl ([.int (nI c9)])).length) Slot.unset).toArray = ls at hl ⊢
  have hl : lv_has ls 1 [(0, .int (nI c9))] := hl
  change W p l e ({ frames := 0, cells := 0, slots := 0, locals := 0 } : Room) s m args below meth c s.heap [] 0 0 _ _
  have hP : va_P (dC, dI) vcl [] s.heap := hP
  refine lv_iload_n hx hb d_Rq_isKnown_0 rfl (lv_at hl 0 rfl) ?_
  refine lv_iconst (v := 1) hx hb d_Rq_isKnown_1 (by decide) ?_
  refine lv_icmp_eq (tgt := 52) hx hb d_Rq_isKnown_2 (by decide) (fun hc1 => ?_) (fun hc1 => ?_)
  · skip
    have hq2 := hc1
    first | rw [Int32.lt_iff_toInt_lt] at hq2 | rw [Int32.le_iff_toInt_le] at hq2 | rw [← Int32.toInt_inj] at hq2
    rw [nI_toInt (n := c9) (by omega), show (1 : Int32).toInt = 1 from by decide] at hq2
    refine lv_iconst (v := 1) hx hb d_Rq_isKnown_52 (by decide) ?_
    refine lv_goto (tgt := 57) hx hb d_Rq_isKnown_53 (by decide) ?_
    have hP9 := hP.sub (ws' := []) [] rfl
    have hD9 := hD.sub (ws' := []) [] (by decide) rfl
    exact W.zret (v := 1) hx hb hr (by first | rfl | decide) (fun t ht hW => ⟨⟨_, (), rfl, ⟨Or.inr rfl, fun _ => by unfold KT; omega⟩, by rw [ht]; exact hP9, va_K.moved hW.alike hK, hD9⟩, hS.F ht⟩) hS.2.2 d_Rq_isKnown_57
  · skip
    have hq2 := hc1
    first | rw [Int32.lt_iff_toInt_lt] at hq2 | rw [Int32.le_iff_toInt_le] at hq2 | rw [← Int32.toInt_inj] at hq2
    rw [nI_toInt (n := c9) (by omega), show (1 : Int32).toInt = 1 from by decide] at hq2
    refine lv_iload_n hx hb d_Rq_isKnown_5 rfl (lv_at hl 0 rfl) ?_
    refine lv_iconst (v := 2) hx hb d_Rq_isKnown_6 (by decide) ?_
    refine lv_icmp_eq (tgt := 52) hx hb d_Rq_isKnown_7 (by decide) (fun hc3 => ?_) (fun hc3 => ?_)
    · skip
      have hq4 := hc3
      first | rw [Int32.lt_iff_toInt_lt] at hq4 | rw [Int32.le_iff_toInt_le] at hq4 | rw [← Int32.toInt_inj] at hq4
      rw [nI_toInt (n := c9) (by omega), show (2 : Int32).toInt = 2 from by decide] at hq4
      refine lv_iconst (v := 1) hx hb d_Rq_isKnown_52 (by decide) ?_
      refine lv_goto (tgt := 57) hx hb d_Rq_isKnown_53 (by decide) ?_
      have hP9 := hP.sub (ws' := []) [] rfl
      have hD9 := hD.sub (ws' := []) [] (by decide) rfl
      exact W.zret (v := 1) hx hb hr (by first | rfl | decide) (fun t ht hW => ⟨⟨_, (), rfl, ⟨Or.inr rfl, fun _ => by unfold KT; omega⟩, by rw [ht]; exact hP9, va_K.moved hW.alike hK, hD9⟩, hS.F ht⟩) hS.2.2 d_Rq_isKnown_57
    · skip
      have hq4 := hc3
      first | rw [Int32.lt_iff_toInt_lt] at hq4 | rw [Int32.le_iff_toInt_le] at hq4 | rw [← Int32.toInt_inj] at hq4
      rw [nI_toInt (n := c9) (by omega), show (2 : Int32).toInt = 2 from by decide] at hq4
      refine lv_iload_n hx hb d_Rq_isKnown_10 rfl (lv_at hl 0 rfl) ?_
      refine lv_bipush (v := 24) hx hb d_Rq_isKnown_11 (by decide) ?_
      refine lv_icmp_eq (tgt := 52) hx hb d_Rq_isKnown_13 (by decide) (fun hc5 => ?_) (fun hc5 => ?_)
      · skip
        have hq6 := hc5
        first | rw [Int32.lt_iff_toInt_lt] at hq6 | rw [Int32.le_iff_toInt_le] at hq6 | rw [← Int32.toInt_inj] at hq6
        rw [nI_toInt (n := c9) (by omega), show (24 : Int32).toInt = 24 from by decide] at hq6
        refine lv_iconst (v := 1) hx hb d_Rq_isKnown_52 (by decide) ?_
        refine lv_goto (tgt := 57) hx hb d_Rq_isKnown_53 (by decide) ?_
        have hP9 := hP.sub (ws' := []) [] rfl
        have hD9 := hD.sub (ws' := []) [] (by decide) rfl
        exact W.zret (v := 1) hx hb hr (by first | rfl | decide) (fun t ht hW => ⟨⟨_, (), rfl, ⟨Or.inr rfl, fun _ => by unfold KT; omega⟩, by rw [ht]; exact hP9, va_K.moved hW.alike hK, hD9⟩, hS.F ht⟩) hS.2.2 d_Rq_isKnown_57
      · skip
        have hq6 := hc5
        first | rw [Int32.lt_iff_toInt_lt] at hq6 | rw [Int32.le_iff_toInt_le] at hq6 | rw [← Int32.toInt_inj] at hq6
        rw [nI_toInt (n := c9) (by omega), show (24 : Int32).toInt = 24 from by decide] at hq6
        refine lv_iload_n hx hb d_Rq_isKnown_16 rfl (lv_at hl 0 rfl) ?_
        refine lv_bipush (v := 40) hx hb d_Rq_isKnown_17 (by decide) ?_
        refine lv_icmp_eq (tgt := 52) hx hb d_Rq_isKnown_19 (by decide) (fun hc7 => ?_) (fun hc7 => ?_)
        · skip
          have hq8 := hc7
          first | rw [Int32.lt_iff_toInt_lt] at hq8 | rw [Int32.le_iff_toInt_le] at hq8 | rw [← Int32.toInt_inj] at hq8
          rw [nI_toInt (n := c9) (by omega), show (40 : Int32).toInt = 40 from by decide] at hq8
          refine lv_iconst (v := 1) hx hb d_Rq_isKnown_52 (by decide) ?_
          refine lv_goto (tgt := 57) hx hb d_Rq_isKnown_53 (by decide) ?_
          have hP9 := hP.sub (ws' := []) [] rfl
          have hD9 := hD.sub (ws' := []) [] (by decide) rfl
          exact W.zret (v := 1) hx hb hr (by first | rfl | decide) (fun t ht hW => ⟨⟨_, (), rfl, ⟨Or.inr rfl, fun _ => by unfold KT; omega⟩, by rw [ht]; exact hP9, va_K.moved hW.alike hK, hD9⟩, hS.F ht⟩) hS.2.2 d_Rq_isKnown_57
        · skip
          have hq8 := hc7
          first | rw [Int32.lt_iff_toInt_lt] at hq8 | rw [Int32.le_iff_toInt_le] at hq8 | rw [← Int32.toInt_inj] at hq8
          rw [nI_toInt (n := c9) (by omega), show (40 : Int32).toInt = 40 from by decide] at hq8
          refine lv_iload_n hx hb d_Rq_isKnown_22 rfl (lv_at hl 0 rfl) ?_
          refine lv_bipush (v := 42) hx hb d_Rq_isKnown_23 (by decide) ?_
          refine lv_icmp_eq (tgt := 52) hx hb d_Rq_isKnown_25 (by decide) (fun hc9 => ?_) (fun hc9 => ?_)
          · skip
            have hq10 := hc9
            first | rw [Int32.lt_iff_toInt_lt] at hq10 | rw [Int32.le_iff_toInt_le] at hq10 | rw [← Int32.toInt_inj] at hq10
            rw [nI_toInt (n := c9) (by omega), show (42 : Int32).toInt = 42 from by decide] at hq10
            refine lv_iconst (v := 1) hx hb d_Rq_isKnown_52 (by decide) ?_
            refine lv_goto (tgt := 57) hx hb d_Rq_isKnown_53 (by decide) ?_
            have hP9 := hP.sub (ws' := []) [] rfl
            have hD9 := hD.sub (ws' := []) [] (by decide) rfl
            exact W.zret (v := 1) hx hb hr (by first | rfl | decide) (fun t ht hW => ⟨⟨_, (), rfl, ⟨Or.inr rfl, fun _ => by unfold KT; omega⟩, by rw [ht]; exact hP9, va_K.moved hW.alike hK, hD9⟩, hS.F ht⟩) hS.2.2 d_Rq_isKnown_57
          · skip
            have hq10 := hc9
            first | rw [Int32.lt_iff_toInt_lt] at hq10 | rw [Int32.le_iff_toInt_le] at hq10 | rw [← Int32.toInt_inj] at hq10
            rw [nI_toInt (n := c9) (by omega), show (42 : Int32).toInt = 42 from by decide] at hq10
            refine lv_iload_n hx hb d_Rq_isKnown_28 rfl (lv_at hl 0 rfl) ?_
            refine lv_bipush (v := 43) hx hb d_Rq_isKnown_29 (by decide) ?_
            refine lv_icmp_eq (tgt := 52) hx hb d_Rq_isKnown_31 (by decide) (fun hc11 => ?_) (fun hc11 => ?_)
            · skip
              have hq12 := hc11
              first | rw [Int32.lt_iff_toInt_lt] at hq12 | rw [Int32.le_iff_toInt_le] at hq12 | rw [← Int32.toInt_inj] at hq12
              rw [nI_toInt (n := c9) (by omega), show (43 : Int32).toInt = 43 from by decide] at hq12
              refine lv_iconst (v := 1) hx hb d_Rq_isKnown_52 (by decide) ?_
              refine lv_goto (tgt := 57) hx hb d_Rq_isKnown_53 (by decide) ?_
              have hP9 := hP.sub (ws' := []) [] rfl
              have hD9 := hD.sub (ws' := []) [] (by decide) rfl
              exact W.zret (v := 1) hx hb hr (by first | rfl | decide) (fun t ht hW => ⟨⟨_, (), rfl, ⟨Or.inr rfl, fun _ => by unfold KT; omega⟩, by rw [ht]; exact hP9, va_K.moved hW.alike hK, hD9⟩, hS.F ht⟩) hS.2.2 d_Rq_isKnown_57
            · skip
              have hq12 := hc11
              first | rw [Int32.lt_iff_toInt_lt] at hq12 | rw [Int32.le_iff_toInt_le] at hq12 | rw [← Int32.toInt_inj] at hq12
              rw [nI_toInt (n := c9) (by omega), show (43 : Int32).toInt = 43 from by decide] at hq12
              refine lv_iload_n hx hb d_Rq_isKnown_34 rfl (lv_at hl 0 rfl) ?_
              refine lv_bipush (v := 44) hx hb d_Rq_isKnown_35 (by decide) ?_
              refine lv_icmp_eq (tgt := 52) hx hb d_Rq_isKnown_37 (by decide) (fun hc13 => ?_) (fun hc13 => ?_)
              · skip
                have hq14 := hc13
                first | rw [Int32.lt_iff_toInt_lt] at hq14 | rw [Int32.le_iff_toInt_le] at hq14 | rw [← Int32.toInt_inj] at hq14
                rw [nI_toInt (n := c9) (by omega), show (44 : Int32).toInt = 44 from by decide] at hq14
                refine lv_iconst (v := 1) hx hb d_Rq_isKnown_52 (by decide) ?_
                refine lv_goto (tgt := 57) hx hb d_Rq_isKnown_53 (by decide) ?_
                have hP9 := hP.sub (ws' := []) [] rfl
                have hD9 := hD.sub (ws' := []) [] (by decide) rfl
                exact W.zret (v := 1) hx hb hr (by first | rfl | decide) (fun t ht hW => ⟨⟨_, (), rfl, ⟨Or.inr rfl, fun _ => by unfold KT; omega⟩, by rw [ht]; exact hP9, va_K.moved hW.alike hK, hD9⟩, hS.F ht⟩) hS.2.2 d_Rq_isKnown_57
              · skip
                have hq14 := hc13
                first | rw [Int32.lt_iff_toInt_lt] at hq14 | rw [Int32.le_iff_toInt_le] at hq14 | rw [← Int32.toInt_inj] at hq14
                rw [nI_toInt (n := c9) (by omega), show (44 : Int32).toInt = 44 from by decide] at hq14
                refine lv_iload_n hx hb d_Rq_isKnown_40 rfl (lv_at hl 0 rfl) ?_
                refine lv_bipush (v := 79) hx hb d_Rq_isKnown_41 (by decide) ?_
                refine lv_icmp_eq (tgt := 52) hx hb d_Rq_isKnown_43 (by decide) (fun hc15 => ?_) (fun hc15 => ?_)
                · skip
                  have hq16 := hc15
                  first | rw [Int32.lt_iff_toInt_lt] at hq16 | rw [Int32.le_iff_toInt_le] at hq16 | rw [← Int32.toInt_inj] at hq16
                  rw [nI_toInt (n := c9) (by omega), show (79 : Int32).toInt = 79 from by decide] at hq16
                  refine lv_iconst (v := 1) hx hb d_Rq_isKnown_52 (by decide) ?_
                  refine lv_goto (tgt := 57) hx hb d_Rq_isKnown_53 (by decide) ?_
                  have hP9 := hP.sub (ws' := []) [] rfl
                  have hD9 := hD.sub (ws' := []) [] (by decide) rfl
                  exact W.zret (v := 1) hx hb hr (by first | rfl | decide) (fun t ht hW => ⟨⟨_, (), rfl, ⟨Or.inr rfl, fun _ => by unfold KT; omega⟩, by rw [ht]; exact hP9, va_K.moved hW.alike hK, hD9⟩, hS.F ht⟩) hS.2.2 d_Rq_isKnown_57
                · skip
                  have hq16 := hc15
                  first | rw [Int32.lt_iff_toInt_lt] at hq16 | rw [Int32.le_iff_toInt_le] at hq16 | rw [← Int32.toInt_inj] at hq16
                  rw [nI_toInt (n := c9) (by omega), show (79 : Int32).toInt = 79 from by decide] at hq16
                  refine lv_iload_n hx hb d_Rq_isKnown_46 rfl (lv_at hl 0 rfl) ?_
                  refine lv_bipush (v := 80) hx hb d_Rq_isKnown_47 (by decide) ?_
                  refine lv_icmp_ne (tgt := 56) hx hb d_Rq_isKnown_49 (by decide) (fun hc17 => ?_) (fun hc17 => ?_)
                  · skip
                    have hq18 := hc17
                    first | rw [Int32.lt_iff_toInt_lt] at hq18 | rw [Int32.le_iff_toInt_le] at hq18 | rw [← Int32.toInt_inj] at hq18
                    rw [nI_toInt (n := c9) (by omega), show (80 : Int32).toInt = 80 from by decide] at hq18
                    refine lv_iconst (v := 0) hx hb d_Rq_isKnown_56 (by decide) ?_
                    have hP9 := hP.sub (ws' := []) [] rfl
                    have hD9 := hD.sub (ws' := []) [] (by decide) rfl
                    exact W.zret (v := 0) hx hb hr (by first | rfl | decide) (fun t ht hW => ⟨⟨_, (), rfl, ⟨Or.inl rfl, fun h9 => absurd h9 (by decide)⟩, by rw [ht]; exact hP9, va_K.moved hW.alike hK, hD9⟩, hS.F ht⟩) hS.2.2 d_Rq_isKnown_57
                  · skip
                    have hq18 := hc17
                    first | rw [Int32.lt_iff_toInt_lt] at hq18 | rw [Int32.le_iff_toInt_le] at hq18 | rw [← Int32.toInt_inj] at hq18
                    rw [nI_toInt (n := c9) (by omega), show (80 : Int32).toInt = 80 from by decide] at hq18
                    refine lv_iconst (v := 1) hx hb d_Rq_isKnown_52 (by decide) ?_
                    refine lv_goto (tgt := 57) hx hb d_Rq_isKnown_53 (by decide) ?_
                    have hP9 := hP.sub (ws' := []) [] rfl
                    have hD9 := hD.sub (ws' := []) [] (by decide) rfl
                    exact W.zret (v := 1) hx hb hr (by first | rfl | decide) (fun t ht hW => ⟨⟨_, (), rfl, ⟨Or.inr rfl, fun _ => by unfold KT; omega⟩, by rw [ht]; exact hP9, va_K.moved hW.alike hK, hD9⟩, hS.F ht⟩) hS.2.2 d_Rq_isKnown_57
set_option maxHeartbeats 4000000 in
set_option maxRecDepth 100000 in
/-- fits -/
theorem c_fits (l : Launch) (dC : Nat → ClassId) (dI : Nat → Nat → Nat) (cT : Nat → ClassId) (sz : Nat) (c9 : Nat) (n : Nat) (hk : KT c9) (hn : n < 2 ^ 31) : Met l y_Rq_fits (Cond.code y_Rq_fits b_Rq_fits 2 (Option.some Jvm.ClassFile.FieldType.boolean) :: BIG) ({ frames := 0, cells := 0, slots := 0, locals := 0 }) (va_Pc [.int (nI c9), .int (nI n)] (fun U => U.heap.size = sz ∧ va_P (dC, dI) vcl [] U.heap ∧ va_K (dC, dI) vcl (tyL cT) U ∧ va_D (fun _ => True) [])) (va_Qi (S := Unit) (fun rv9 u => (rv9 = 0 ∨ rv9 = 1) ∧ (rv9 = 1 → FT c9 n)) (fun u t => va_P (dC, dI) vcl [] t.heap ∧ va_K (dC, dI) vcl (tyL cT) t ∧ va_D (va_A [] sz) []) (va_A [] sz)) 0 0 (va_A [] sz) := by
  refine Met.ofW (cc := b_Rq_fits) (maxL := 2) (ret := (Option.some Jvm.ClassFile.FieldType.boolean)) (by decide) rfl ?_
  intro p e s m args below meth c s₁ B hml hv
  obtain ⟨hargs, hsz, hP, hK, hD0⟩ := hv
  have hx := B.exec
  have hb := B.bytes
  have hr := B.returns
  have hts := atoms_spec (ws := (Cond.code y_Rq_fits b_Rq_fits 2 (Option.some Jvm.ClassFile.FieldType.boolean) :: BIG)) B.pre
  have hg : ∀ w ∈ BIG, w.before _ s = true := fun w h => hts w (List.mem_cons_of_mem _ h)
  have hown : s.vm.findClass "DoorServer$Request" = some m.cls := findClass_of_methodNamed B.named
  have hlocks := B.notSynchronized
  subst hsz
  have hD := hD0.self (sz := s.heap.size)
  generalize hAe : va_A [] s.heap.size = A at hD ⊢
  have hA : ∀ q : Nat, s.heap.size ≤ q → A q := fun q h => by rw [← hAe]; exact Or.inr h
  have hS : va_S A s.heap s.heap [] := va_S.rf
  have hl := lv_entry ([.int (nI c9), .int (nI n)]) (n := 2) (Nat.le_of_ble_eq_true rfl)
  refine W.eq (g2 := entryFrame m (List.toArray [.int (nI c9), .int (nI n)]) 2) (by rw [hargs]) ?_
  rw [lg_entry_eq]
  generalize (lg_sl ([.int (nI c9), .int (nI n)]) ++ List.replicate (2 - (lg_sl ([.int (nI c9), .int (nI n)])).length) Slot.unset).toArray = ls at hl ⊢
  have hl : lv_has ls 2 [(0, .int (nI c9)), (1, .int (nI n))] := hl
  change W p l e ({ frames := 0, cells := 0, slots := 0, locals := 0 } : Room) s m args below meth c s.heap [] 0 0 _ _
  have hP : va_P (dC, dI) vcl [] s.heap := hP
  refine lv_iload_n hx hb d_Rq_fits_0 rfl (lv_at hl 0 rfl) ?_
  rcases hk with h8 | h8 | h8 | h8 | h8 | h8 | h8 | h8 | h8
  · subst h8
    refine lv_lookup (tgt := 60) (off := 59) hx hb d_Rq_fits_1 (by decide) (by decide) (by decide) ?_
    refine lv_iload_n hx hb d_Rq_fits_60 rfl (lv_at hl 1 rfl) ?_
    refine lv_iconst (v := 1) hx hb d_Rq_fits_61 (by decide) ?_
    refine lv_icmp_lt (tgt := 75) hx hb d_Rq_fits_62 (by decide) (fun hc19 => ?_) (fun hc19 => ?_)
    · skip
      have hq20 := hc19
      first | rw [Int32.lt_iff_toInt_lt] at hq20 | rw [Int32.le_iff_toInt_le] at hq20 | rw [← Int32.toInt_inj] at hq20
      rw [nI_toInt (n := n) (by omega), show (1 : Int32).toInt = 1 from by decide] at hq20
      refine lv_iconst (v := 0) hx hb d_Rq_fits_75 (by decide) ?_
      have hP9 := hP.sub (ws' := []) [] rfl
      have hD9 := hD.sub (ws' := []) [] (by decide) rfl
      exact W.zret (v := 0) hx hb hr (by first | rfl | decide) (fun t ht hW => ⟨⟨_, (), rfl, ⟨Or.inl rfl, fun h9 => absurd h9 (by decide)⟩, by rw [ht]; exact hP9, va_K.moved hW.alike hK, hD9⟩, hS.F ht⟩) hS.2.2 d_Rq_fits_76
    · skip
      have hq20 := hc19
      first | rw [Int32.lt_iff_toInt_lt] at hq20 | rw [Int32.le_iff_toInt_le] at hq20 | rw [← Int32.toInt_inj] at hq20
      rw [nI_toInt (n := n) (by omega), show (1 : Int32).toInt = 1 from by decide] at hq20
      refine lv_iload_n hx hb d_Rq_fits_65 rfl (lv_at hl 1 rfl) ?_
      refine lv_bipush (v := 20) hx hb d_Rq_fits_66 (by decide) ?_
      refine lv_icmp_gt (tgt := 75) hx hb d_Rq_fits_68 (by decide) (fun hc21 => ?_) (fun hc21 => ?_)
      · skip
        have hq22 := hc21
        first | rw [Int32.lt_iff_toInt_lt] at hq22 | rw [Int32.le_iff_toInt_le] at hq22 | rw [← Int32.toInt_inj] at hq22
        rw [nI_toInt (n := n) (by omega), show (20 : Int32).toInt = 20 from by decide] at hq22
        refine lv_iconst (v := 0) hx hb d_Rq_fits_75 (by decide) ?_
        have hP9 := hP.sub (ws' := []) [] rfl
        have hD9 := hD.sub (ws' := []) [] (by decide) rfl
        exact W.zret (v := 0) hx hb hr (by first | rfl | decide) (fun t ht hW => ⟨⟨_, (), rfl, ⟨Or.inl rfl, fun h9 => absurd h9 (by decide)⟩, by rw [ht]; exact hP9, va_K.moved hW.alike hK, hD9⟩, hS.F ht⟩) hS.2.2 d_Rq_fits_76
      · skip
        have hq22 := hc21
        first | rw [Int32.lt_iff_toInt_lt] at hq22 | rw [Int32.le_iff_toInt_le] at hq22 | rw [← Int32.toInt_inj] at hq22
        rw [nI_toInt (n := n) (by omega), show (20 : Int32).toInt = 20 from by decide] at hq22
        refine lv_iconst (v := 1) hx hb d_Rq_fits_71 (by decide) ?_
        refine lv_goto (tgt := 76) hx hb d_Rq_fits_72 (by decide) ?_
        have hP9 := hP.sub (ws' := []) [] rfl
        have hD9 := hD.sub (ws' := []) [] (by decide) rfl
        exact W.zret (v := 1) hx hb hr (by first | rfl | decide) (fun t ht hW => ⟨⟨_, (), rfl, ⟨Or.inr rfl, fun _ => by unfold FT; omega⟩, by rw [ht]; exact hP9, va_K.moved hW.alike hK, hD9⟩, hS.F ht⟩) hS.2.2 d_Rq_fits_76
  · subst h8
    refine lv_lookup (tgt := 77) (off := 76) hx hb d_Rq_fits_1 (by decide) (by decide) (by decide) ?_
    refine lv_iload_n hx hb d_Rq_fits_77 rfl (lv_at hl 1 rfl) ?_
    refine lv_bipush (v := 16) hx hb d_Rq_fits_78 (by decide) ?_
    refine lv_icmp_eq (tgt := 101) hx hb d_Rq_fits_80 (by decide) (fun hc23 => ?_) (fun hc23 => ?_)
    · skip
      have hq24 := hc23
      first | rw [Int32.lt_iff_toInt_lt] at hq24 | rw [Int32.le_iff_toInt_le] at hq24 | rw [← Int32.toInt_inj] at hq24
      rw [nI_toInt (n := n) (by omega), show (16 : Int32).toInt = 16 from by decide] at hq24
      refine lv_iconst (v := 1) hx hb d_Rq_fits_101 (by decide) ?_
      refine lv_goto (tgt := 106) hx hb d_Rq_fits_102 (by decide) ?_
      have hP9 := hP.sub (ws' := []) [] rfl
      have hD9 := hD.sub (ws' := []) [] (by decide) rfl
      exact W.zret (v := 1) hx hb hr (by first | rfl | decide) (fun t ht hW => ⟨⟨_, (), rfl, ⟨Or.inr rfl, fun _ => by unfold FT; omega⟩, by rw [ht]; exact hP9, va_K.moved hW.alike hK, hD9⟩, hS.F ht⟩) hS.2.2 d_Rq_fits_106
    · skip
      have hq24 := hc23
      first | rw [Int32.lt_iff_toInt_lt] at hq24 | rw [Int32.le_iff_toInt_le] at hq24 | rw [← Int32.toInt_inj] at hq24
      rw [nI_toInt (n := n) (by omega), show (16 : Int32).toInt = 16 from by decide] at hq24
      refine lv_iload_n hx hb d_Rq_fits_83 rfl (lv_at hl 1 rfl) ?_
      refine lv_bipush (v := 32) hx hb d_Rq_fits_84 (by decide) ?_
      refine lv_icmp_eq (tgt := 101) hx hb d_Rq_fits_86 (by decide) (fun hc25 => ?_) (fun hc25 => ?_)
      · skip
        have hq26 := hc25
        first | rw [Int32.lt_iff_toInt_lt] at hq26 | rw [Int32.le_iff_toInt_le] at hq26 | rw [← Int32.toInt_inj] at hq26
        rw [nI_toInt (n := n) (by omega), show (32 : Int32).toInt = 32 from by decide] at hq26
        refine lv_iconst (v := 1) hx hb d_Rq_fits_101 (by decide) ?_
        refine lv_goto (tgt := 106) hx hb d_Rq_fits_102 (by decide) ?_
        have hP9 := hP.sub (ws' := []) [] rfl
        have hD9 := hD.sub (ws' := []) [] (by decide) rfl
        exact W.zret (v := 1) hx hb hr (by first | rfl | decide) (fun t ht hW => ⟨⟨_, (), rfl, ⟨Or.inr rfl, fun _ => by unfold FT; omega⟩, by rw [ht]; exact hP9, va_K.moved hW.alike hK, hD9⟩, hS.F ht⟩) hS.2.2 d_Rq_fits_106
      · skip
        have hq26 := hc25
        first | rw [Int32.lt_iff_toInt_lt] at hq26 | rw [Int32.le_iff_toInt_le] at hq26 | rw [← Int32.toInt_inj] at hq26
        rw [nI_toInt (n := n) (by omega), show (32 : Int32).toInt = 32 from by decide] at hq26
        refine lv_iload_n hx hb d_Rq_fits_89 rfl (lv_at hl 1 rfl) ?_
        refine lv_bipush (v := 48) hx hb d_Rq_fits_90 (by decide) ?_
        refine lv_icmp_eq (tgt := 101) hx hb d_Rq_fits_92 (by decide) (fun hc27 => ?_) (fun hc27 => ?_)
        · skip
          have hq28 := hc27
          first | rw [Int32.lt_iff_toInt_lt] at hq28 | rw [Int32.le_iff_toInt_le] at hq28 | rw [← Int32.toInt_inj] at hq28
          rw [nI_toInt (n := n) (by omega), show (48 : Int32).toInt = 48 from by decide] at hq28
          refine lv_iconst (v := 1) hx hb d_Rq_fits_101 (by decide) ?_
          refine lv_goto (tgt := 106) hx hb d_Rq_fits_102 (by decide) ?_
          have hP9 := hP.sub (ws' := []) [] rfl
          have hD9 := hD.sub (ws' := []) [] (by decide) rfl
          exact W.zret (v := 1) hx hb hr (by first | rfl | decide) (fun t ht hW => ⟨⟨_, (), rfl, ⟨Or.inr rfl, fun _ => by unfold FT; omega⟩, by rw [ht]; exact hP9, va_K.moved hW.alike hK, hD9⟩, hS.F ht⟩) hS.2.2 d_Rq_fits_106
        · skip
          have hq28 := hc27
          first | rw [Int32.lt_iff_toInt_lt] at hq28 | rw [Int32.le_iff_toInt_le] at hq28 | rw [← Int32.toInt_inj] at hq28
          rw [nI_toInt (n := n) (by omega), show (48 : Int32).toInt = 48 from by decide] at hq28
          refine lv_iload_n hx hb d_Rq_fits_95 rfl (lv_at hl 1 rfl) ?_
          refine lv_bipush (v := 64) hx hb d_Rq_fits_96 (by decide) ?_
          refine lv_icmp_ne (tgt := 105) hx hb d_Rq_fits_98 (by decide) (fun hc29 => ?_) (fun hc29 => ?_)
          · skip
            have hq30 := hc29
            first | rw [Int32.lt_iff_toInt_lt] at hq30 | rw [Int32.le_iff_toInt_le] at hq30 | rw [← Int32.toInt_inj] at hq30
            rw [nI_toInt (n := n) (by omega), show (64 : Int32).toInt = 64 from by decide] at hq30
            refine lv_iconst (v := 0) hx hb d_Rq_fits_105 (by decide) ?_
            have hP9 := hP.sub (ws' := []) [] rfl
            have hD9 := hD.sub (ws' := []) [] (by decide) rfl
            exact W.zret (v := 0) hx hb hr (by first | rfl | decide) (fun t ht hW => ⟨⟨_, (), rfl, ⟨Or.inl rfl, fun h9 => absurd h9 (by decide)⟩, by rw [ht]; exact hP9, va_K.moved hW.alike hK, hD9⟩, hS.F ht⟩) hS.2.2 d_Rq_fits_106
          · skip
            have hq30 := hc29
            first | rw [Int32.lt_iff_toInt_lt] at hq30 | rw [Int32.le_iff_toInt_le] at hq30 | rw [← Int32.toInt_inj] at hq30
            rw [nI_toInt (n := n) (by omega), show (64 : Int32).toInt = 64 from by decide] at hq30
            refine lv_iconst (v := 1) hx hb d_Rq_fits_101 (by decide) ?_
            refine lv_goto (tgt := 106) hx hb d_Rq_fits_102 (by decide) ?_
            have hP9 := hP.sub (ws' := []) [] rfl
            have hD9 := hD.sub (ws' := []) [] (by decide) rfl
            exact W.zret (v := 1) hx hb hr (by first | rfl | decide) (fun t ht hW => ⟨⟨_, (), rfl, ⟨Or.inr rfl, fun _ => by unfold FT; omega⟩, by rw [ht]; exact hP9, va_K.moved hW.alike hK, hD9⟩, hS.F ht⟩) hS.2.2 d_Rq_fits_106
  · subst h8
    refine lv_lookup (tgt := 107) (off := 106) hx hb d_Rq_fits_1 (by decide) (by decide) (by decide) ?_
    refine lv_iload_n hx hb d_Rq_fits_107 rfl (lv_at hl 1 rfl) ?_
    refine lv_bipush (v := 8) hx hb d_Rq_fits_108 (by decide) ?_
    refine lv_icmp_ne (tgt := 117) hx hb d_Rq_fits_110 (by decide) (fun hc31 => ?_) (fun hc31 => ?_)
    · skip
      have hq32 := hc31
      first | rw [Int32.lt_iff_toInt_lt] at hq32 | rw [Int32.le_iff_toInt_le] at hq32 | rw [← Int32.toInt_inj] at hq32
      rw [nI_toInt (n := n) (by omega), show (8 : Int32).toInt = 8 from by decide] at hq32
      refine lv_iconst (v := 0) hx hb d_Rq_fits_117 (by decide) ?_
      have hP9 := hP.sub (ws' := []) [] rfl
      have hD9 := hD.sub (ws' := []) [] (by decide) rfl
      exact W.zret (v := 0) hx hb hr (by first | rfl | decide) (fun t ht hW => ⟨⟨_, (), rfl, ⟨Or.inl rfl, fun h9 => absurd h9 (by decide)⟩, by rw [ht]; exact hP9, va_K.moved hW.alike hK, hD9⟩, hS.F ht⟩) hS.2.2 d_Rq_fits_118
    · skip
      have hq32 := hc31
      first | rw [Int32.lt_iff_toInt_lt] at hq32 | rw [Int32.le_iff_toInt_le] at hq32 | rw [← Int32.toInt_inj] at hq32
      rw [nI_toInt (n := n) (by omega), show (8 : Int32).toInt = 8 from by decide] at hq32
      refine lv_iconst (v := 1) hx hb d_Rq_fits_113 (by decide) ?_
      refine lv_goto (tgt := 118) hx hb d_Rq_fits_114 (by decide) ?_
      have hP9 := hP.sub (ws' := []) [] rfl
      have hD9 := hD.sub (ws' := []) [] (by decide) rfl
      exact W.zret (v := 1) hx hb hr (by first | rfl | decide) (fun t ht hW => ⟨⟨_, (), rfl, ⟨Or.inr rfl, fun _ => by unfold FT; omega⟩, by rw [ht]; exact hP9, va_K.moved hW.alike hK, hD9⟩, hS.F ht⟩) hS.2.2 d_Rq_fits_118
  · subst h8
    refine lv_lookup (tgt := 165) (off := 164) hx hb d_Rq_fits_1 (by decide) (by decide) (by decide) ?_
    refine lv_iload_n hx hb d_Rq_fits_165 rfl (lv_at hl 1 rfl) ?_
    refine lv_iconst (v := 4) hx hb d_Rq_fits_166 (by decide) ?_
    refine lv_icmp_ne (tgt := 174) hx hb d_Rq_fits_167 (by decide) (fun hc33 => ?_) (fun hc33 => ?_)
    · skip
      have hq34 := hc33
      first | rw [Int32.lt_iff_toInt_lt] at hq34 | rw [Int32.le_iff_toInt_le] at hq34 | rw [← Int32.toInt_inj] at hq34
      rw [nI_toInt (n := n) (by omega), show (4 : Int32).toInt = 4 from by decide] at hq34
      refine lv_iconst (v := 0) hx hb d_Rq_fits_174 (by decide) ?_
      have hP9 := hP.sub (ws' := []) [] rfl
      have hD9 := hD.sub (ws' := []) [] (by decide) rfl
      exact W.zret (v := 0) hx hb hr (by first | rfl | decide) (fun t ht hW => ⟨⟨_, (), rfl, ⟨Or.inl rfl, fun h9 => absurd h9 (by decide)⟩, by rw [ht]; exact hP9, va_K.moved hW.alike hK, hD9⟩, hS.F ht⟩) hS.2.2 d_Rq_fits_175
    · skip
      have hq34 := hc33
      first | rw [Int32.lt_iff_toInt_lt] at hq34 | rw [Int32.le_iff_toInt_le] at hq34 | rw [← Int32.toInt_inj] at hq34
      rw [nI_toInt (n := n) (by omega), show (4 : Int32).toInt = 4 from by decide] at hq34
      refine lv_iconst (v := 1) hx hb d_Rq_fits_170 (by decide) ?_
      refine lv_goto (tgt := 175) hx hb d_Rq_fits_171 (by decide) ?_
      have hP9 := hP.sub (ws' := []) [] rfl
      have hD9 := hD.sub (ws' := []) [] (by decide) rfl
      exact W.zret (v := 1) hx hb hr (by first | rfl | decide) (fun t ht hW => ⟨⟨_, (), rfl, ⟨Or.inr rfl, fun _ => by unfold FT; omega⟩, by rw [ht]; exact hP9, va_K.moved hW.alike hK, hD9⟩, hS.F ht⟩) hS.2.2 d_Rq_fits_175
  · subst h8
    refine lv_lookup (tgt := 165) (off := 164) hx hb d_Rq_fits_1 (by decide) (by decide) (by decide) ?_
    refine lv_iload_n hx hb d_Rq_fits_165 rfl (lv_at hl 1 rfl) ?_
    refine lv_iconst (v := 4) hx hb d_Rq_fits_166 (by decide) ?_
    refine lv_icmp_ne (tgt := 174) hx hb d_Rq_fits_167 (by decide) (fun hc35 => ?_) (fun hc35 => ?_)
    · skip
      have hq36 := hc35
      first | rw [Int32.lt_iff_toInt_lt] at hq36 | rw [Int32.le_iff_toInt_le] at hq36 | rw [← Int32.toInt_inj] at hq36
      rw [nI_toInt (n := n) (by omega), show (4 : Int32).toInt = 4 from by decide] at hq36
      refine lv_iconst (v := 0) hx hb d_Rq_fits_174 (by decide) ?_
      have hP9 := hP.sub (ws' := []) [] rfl
      have hD9 := hD.sub (ws' := []) [] (by decide) rfl
      exact W.zret (v := 0) hx hb hr (by first | rfl | decide) (fun t ht hW => ⟨⟨_, (), rfl, ⟨Or.inl rfl, fun h9 => absurd h9 (by decide)⟩, by rw [ht]; exact hP9, va_K.moved hW.alike hK, hD9⟩, hS.F ht⟩) hS.2.2 d_Rq_fits_175
    · skip
      have hq36 := hc35
      first | rw [Int32.lt_iff_toInt_lt] at hq36 | rw [Int32.le_iff_toInt_le] at hq36 | rw [← Int32.toInt_inj] at hq36
      rw [nI_toInt (n := n) (by omega), show (4 : Int32).toInt = 4 from by decide] at hq36
      refine lv_iconst (v := 1) hx hb d_Rq_fits_170 (by decide) ?_
      refine lv_goto (tgt := 175) hx hb d_Rq_fits_171 (by decide) ?_
      have hP9 := hP.sub (ws' := []) [] rfl
      have hD9 := hD.sub (ws' := []) [] (by decide) rfl
      exact W.zret (v := 1) hx hb hr (by first | rfl | decide) (fun t ht hW => ⟨⟨_, (), rfl, ⟨Or.inr rfl, fun _ => by unfold FT; omega⟩, by rw [ht]; exact hP9, va_K.moved hW.alike hK, hD9⟩, hS.F ht⟩) hS.2.2 d_Rq_fits_175
  · subst h8
    refine lv_lookup (tgt := 165) (off := 164) hx hb d_Rq_fits_1 (by decide) (by decide) (by decide) ?_
    refine lv_iload_n hx hb d_Rq_fits_165 rfl (lv_at hl 1 rfl) ?_
    refine lv_iconst (v := 4) hx hb d_Rq_fits_166 (by decide) ?_
    refine lv_icmp_ne (tgt := 174) hx hb d_Rq_fits_167 (by decide) (fun hc37 => ?_) (fun hc37 => ?_)
    · skip
      have hq38 := hc37
      first | rw [Int32.lt_iff_toInt_lt] at hq38 | rw [Int32.le_iff_toInt_le] at hq38 | rw [← Int32.toInt_inj] at hq38
      rw [nI_toInt (n := n) (by omega), show (4 : Int32).toInt = 4 from by decide] at hq38
      refine lv_iconst (v := 0) hx hb d_Rq_fits_174 (by decide) ?_
      have hP9 := hP.sub (ws' := []) [] rfl
      have hD9 := hD.sub (ws' := []) [] (by decide) rfl
      exact W.zret (v := 0) hx hb hr (by first | rfl | decide) (fun t ht hW => ⟨⟨_, (), rfl, ⟨Or.inl rfl, fun h9 => absurd h9 (by decide)⟩, by rw [ht]; exact hP9, va_K.moved hW.alike hK, hD9⟩, hS.F ht⟩) hS.2.2 d_Rq_fits_175
    · skip
      have hq38 := hc37
      first | rw [Int32.lt_iff_toInt_lt] at hq38 | rw [Int32.le_iff_toInt_le] at hq38 | rw [← Int32.toInt_inj] at hq38
      rw [nI_toInt (n := n) (by omega), show (4 : Int32).toInt = 4 from by decide] at hq38
      refine lv_iconst (v := 1) hx hb d_Rq_fits_170 (by decide) ?_
      refine lv_goto (tgt := 175) hx hb d_Rq_fits_171 (by decide) ?_
      have hP9 := hP.sub (ws' := []) [] rfl
      have hD9 := hD.sub (ws' := []) [] (by decide) rfl
      exact W.zret (v := 1) hx hb hr (by first | rfl | decide) (fun t ht hW => ⟨⟨_, (), rfl, ⟨Or.inr rfl, fun _ => by unfold FT; omega⟩, by rw [ht]; exact hP9, va_K.moved hW.alike hK, hD9⟩, hS.F ht⟩) hS.2.2 d_Rq_fits_175
  · subst h8
    refine lv_lookup (tgt := 119) (off := 118) hx hb d_Rq_fits_1 (by decide) (by decide) (by decide) ?_
    refine lv_iload_n hx hb d_Rq_fits_119 rfl (lv_at hl 1 rfl) ?_
    refine lv_iconst (v := 1) hx hb d_Rq_fits_120 (by decide) ?_
    refine lv_icmp_lt (tgt := 134) hx hb d_Rq_fits_121 (by decide) (fun hc39 => ?_) (fun hc39 => ?_)
    · skip
      have hq40 := hc39
      first | rw [Int32.lt_iff_toInt_lt] at hq40 | rw [Int32.le_iff_toInt_le] at hq40 | rw [← Int32.toInt_inj] at hq40
      rw [nI_toInt (n := n) (by omega), show (1 : Int32).toInt = 1 from by decide] at hq40
      refine lv_iconst (v := 0) hx hb d_Rq_fits_134 (by decide) ?_
      have hP9 := hP.sub (ws' := []) [] rfl
      have hD9 := hD.sub (ws' := []) [] (by decide) rfl
      exact W.zret (v := 0) hx hb hr (by first | rfl | decide) (fun t ht hW => ⟨⟨_, (), rfl, ⟨Or.inl rfl, fun h9 => absurd h9 (by decide)⟩, by rw [ht]; exact hP9, va_K.moved hW.alike hK, hD9⟩, hS.F ht⟩) hS.2.2 d_Rq_fits_135
    · skip
      have hq40 := hc39
      first | rw [Int32.lt_iff_toInt_lt] at hq40 | rw [Int32.le_iff_toInt_le] at hq40 | rw [← Int32.toInt_inj] at hq40
      rw [nI_toInt (n := n) (by omega), show (1 : Int32).toInt = 1 from by decide] at hq40
      refine lv_iload_n hx hb d_Rq_fits_124 rfl (lv_at hl 1 rfl) ?_
      refine lv_bipush (v := 16) hx hb d_Rq_fits_125 (by decide) ?_
      refine lv_icmp_gt (tgt := 134) hx hb d_Rq_fits_127 (by decide) (fun hc41 => ?_) (fun hc41 => ?_)
      · skip
        have hq42 := hc41
        first | rw [Int32.lt_iff_toInt_lt] at hq42 | rw [Int32.le_iff_toInt_le] at hq42 | rw [← Int32.toInt_inj] at hq42
        rw [nI_toInt (n := n) (by omega), show (16 : Int32).toInt = 16 from by decide] at hq42
        refine lv_iconst (v := 0) hx hb d_Rq_fits_134 (by decide) ?_
        have hP9 := hP.sub (ws' := []) [] rfl
        have hD9 := hD.sub (ws' := []) [] (by decide) rfl
        exact W.zret (v := 0) hx hb hr (by first | rfl | decide) (fun t ht hW => ⟨⟨_, (), rfl, ⟨Or.inl rfl, fun h9 => absurd h9 (by decide)⟩, by rw [ht]; exact hP9, va_K.moved hW.alike hK, hD9⟩, hS.F ht⟩) hS.2.2 d_Rq_fits_135
      · skip
        have hq42 := hc41
        first | rw [Int32.lt_iff_toInt_lt] at hq42 | rw [Int32.le_iff_toInt_le] at hq42 | rw [← Int32.toInt_inj] at hq42
        rw [nI_toInt (n := n) (by omega), show (16 : Int32).toInt = 16 from by decide] at hq42
        refine lv_iconst (v := 1) hx hb d_Rq_fits_130 (by decide) ?_
        refine lv_goto (tgt := 135) hx hb d_Rq_fits_131 (by decide) ?_
        have hP9 := hP.sub (ws' := []) [] rfl
        have hD9 := hD.sub (ws' := []) [] (by decide) rfl
        exact W.zret (v := 1) hx hb hr (by first | rfl | decide) (fun t ht hW => ⟨⟨_, (), rfl, ⟨Or.inr rfl, fun _ => by unfold FT; omega⟩, by rw [ht]; exact hP9, va_K.moved hW.alike hK, hD9⟩, hS.F ht⟩) hS.2.2 d_Rq_fits_135
  · subst h8
    refine lv_lookup (tgt := 136) (off := 135) hx hb d_Rq_fits_1 (by decide) (by decide) (by decide) ?_
    refine lv_iload_n hx hb d_Rq_fits_136 rfl (lv_at hl 1 rfl) ?_
    refine lv_iconst (v := 4) hx hb d_Rq_fits_137 (by decide) ?_
    refine lv_icmp_lt (tgt := 151) hx hb d_Rq_fits_138 (by decide) (fun hc43 => ?_) (fun hc43 => ?_)
    · skip
      have hq44 := hc43
      first | rw [Int32.lt_iff_toInt_lt] at hq44 | rw [Int32.le_iff_toInt_le] at hq44 | rw [← Int32.toInt_inj] at hq44
      rw [nI_toInt (n := n) (by omega), show (4 : Int32).toInt = 4 from by decide] at hq44
      refine lv_iconst (v := 0) hx hb d_Rq_fits_151 (by decide) ?_
      have hP9 := hP.sub (ws' := []) [] rfl
      have hD9 := hD.sub (ws' := []) [] (by decide) rfl
      exact W.zret (v := 0) hx hb hr (by first | rfl | decide) (fun t ht hW => ⟨⟨_, (), rfl, ⟨Or.inl rfl, fun h9 => absurd h9 (by decide)⟩, by rw [ht]; exact hP9, va_K.moved hW.alike hK, hD9⟩, hS.F ht⟩) hS.2.2 d_Rq_fits_152
    · skip
      have hq44 := hc43
      first | rw [Int32.lt_iff_toInt_lt] at hq44 | rw [Int32.le_iff_toInt_le] at hq44 | rw [← Int32.toInt_inj] at hq44
      rw [nI_toInt (n := n) (by omega), show (4 : Int32).toInt = 4 from by decide] at hq44
      refine lv_iload_n hx hb d_Rq_fits_141 rfl (lv_at hl 1 rfl) ?_
      refine lv_bipush (v := 100) hx hb d_Rq_fits_142 (by decide) ?_
      refine lv_icmp_gt (tgt := 151) hx hb d_Rq_fits_144 (by decide) (fun hc45 => ?_) (fun hc45 => ?_)
      · skip
        have hq46 := hc45
        first | rw [Int32.lt_iff_toInt_lt] at hq46 | rw [Int32.le_iff_toInt_le] at hq46 | rw [← Int32.toInt_inj] at hq46
        rw [nI_toInt (n := n) (by omega), show (100 : Int32).toInt = 100 from by decide] at hq46
        refine lv_iconst (v := 0) hx hb d_Rq_fits_151 (by decide) ?_
        have hP9 := hP.sub (ws' := []) [] rfl
        have hD9 := hD.sub (ws' := []) [] (by decide) rfl
        exact W.zret (v := 0) hx hb hr (by first | rfl | decide) (fun t ht hW => ⟨⟨_, (), rfl, ⟨Or.inl rfl, fun h9 => absurd h9 (by decide)⟩, by rw [ht]; exact hP9, va_K.moved hW.alike hK, hD9⟩, hS.F ht⟩) hS.2.2 d_Rq_fits_152
      · skip
        have hq46 := hc45
        first | rw [Int32.lt_iff_toInt_lt] at hq46 | rw [Int32.le_iff_toInt_le] at hq46 | rw [← Int32.toInt_inj] at hq46
        rw [nI_toInt (n := n) (by omega), show (100 : Int32).toInt = 100 from by decide] at hq46
        refine lv_iconst (v := 1) hx hb d_Rq_fits_147 (by decide) ?_
        refine lv_goto (tgt := 152) hx hb d_Rq_fits_148 (by decide) ?_
        have hP9 := hP.sub (ws' := []) [] rfl
        have hD9 := hD.sub (ws' := []) [] (by decide) rfl
        exact W.zret (v := 1) hx hb hr (by first | rfl | decide) (fun t ht hW => ⟨⟨_, (), rfl, ⟨Or.inr rfl, fun _ => by unfold FT; omega⟩, by rw [ht]; exact hP9, va_K.moved hW.alike hK, hD9⟩, hS.F ht⟩) hS.2.2 d_Rq_fits_152
  · subst h8
    refine lv_lookup (tgt := 153) (off := 152) hx hb d_Rq_fits_1 (by decide) (by decide) (by decide) ?_
    refine lv_iload_n hx hb d_Rq_fits_153 rfl (lv_at hl 1 rfl) ?_
    refine lv_bipush (v := 16) hx hb d_Rq_fits_154 (by decide) ?_
    refine lv_icmp_ne (tgt := 163) hx hb d_Rq_fits_156 (by decide) (fun hc47 => ?_) (fun hc47 => ?_)
    · skip
      have hq48 := hc47
      first | rw [Int32.lt_iff_toInt_lt] at hq48 | rw [Int32.le_iff_toInt_le] at hq48 | rw [← Int32.toInt_inj] at hq48
      rw [nI_toInt (n := n) (by omega), show (16 : Int32).toInt = 16 from by decide] at hq48
      refine lv_iconst (v := 0) hx hb d_Rq_fits_163 (by decide) ?_
      have hP9 := hP.sub (ws' := []) [] rfl
      have hD9 := hD.sub (ws' := []) [] (by decide) rfl
      exact W.zret (v := 0) hx hb hr (by first | rfl | decide) (fun t ht hW => ⟨⟨_, (), rfl, ⟨Or.inl rfl, fun h9 => absurd h9 (by decide)⟩, by rw [ht]; exact hP9, va_K.moved hW.alike hK, hD9⟩, hS.F ht⟩) hS.2.2 d_Rq_fits_164
    · skip
      have hq48 := hc47
      first | rw [Int32.lt_iff_toInt_lt] at hq48 | rw [Int32.le_iff_toInt_le] at hq48 | rw [← Int32.toInt_inj] at hq48
      rw [nI_toInt (n := n) (by omega), show (16 : Int32).toInt = 16 from by decide] at hq48
      refine lv_iconst (v := 1) hx hb d_Rq_fits_159 (by decide) ?_
      refine lv_goto (tgt := 164) hx hb d_Rq_fits_160 (by decide) ?_
      have hP9 := hP.sub (ws' := []) [] rfl
      have hD9 := hD.sub (ws' := []) [] (by decide) rfl
      exact W.zret (v := 1) hx hb hr (by first | rfl | decide) (fun t ht hW => ⟨⟨_, (), rfl, ⟨Or.inr rfl, fun _ => by unfold FT; omega⟩, by rw [ht]; exact hP9, va_K.moved hW.alike hK, hD9⟩, hS.F ht⟩) hS.2.2 d_Rq_fits_164
set_option maxHeartbeats 4000000 in
set_option maxRecDepth 100000 in
/-- takes -/
theorem c_takes (l : Launch) (dC : Nat → ClassId) (dI : Nat → Nat → Nat) (cT : Nat → ClassId) (sz : Nat) (rq : Nat) (dr : Nat) (sa : Nat) (ga : Nat → Int32) (c9 : Nat) (a : Nat) (n : Nat) (hc9 : c9 < 256) (hn : n < 2 ^ 31) : Met l y_Rq_takes (Cond.code y_Rq_takes b_Rq_takes 4 (Option.some Jvm.ClassFile.FieldType.boolean) :: BIG) ({ frames := 1, cells := 0, slots := 0, locals := 22 }) (va_Pc [.ref rq, .int (nI c9), .int (nI a), .int (nI n)] (fun U => U.heap.size = sz ∧ va_P (dC, dI) vcl [(rq, .inr (4, [.ref dr, .ref sa])), (sa, .inl ((cT 0), 256, .inl ga))] U.heap ∧ va_K (dC, dI) vcl (tyL cT) U ∧ va_D (fun _ => True) [(rq, .inr (4, [.ref dr, .ref sa])), (sa, .inl ((cT 0), 256, .inl ga))])) (va_Qi (S := (Nat → Int32)) (fun rv9 u => match u with | g => (rv9 = 0 ∨ rv9 = 1) ∧ (rv9 = 1 → g = ga ∨ KT c9 ∧ FT c9 n ∧ g = upd ga c9 (nI a))) (fun u t => match u with | g => va_P (dC, dI) vcl [(rq, .inr (4, [.ref dr, .ref sa])), (sa, .inl ((cT 0), 256, .inl g))] t.heap ∧ va_K (dC, dI) vcl (tyL cT) t ∧ va_D (va_A [(rq, .inr (4, [.ref dr, .ref sa])), (sa, .inl ((cT 0), 256, .inl ga))] sz) [(rq, .inr (4, [.ref dr, .ref sa])), (sa, .inl ((cT 0), 256, .inl g))]) (va_A [(rq, .inr (4, [.ref dr, .ref sa])), (sa, .inl ((cT 0), 256, .inl ga))] sz)) 0 0 (va_A [(rq, .inr (4, [.ref dr, .ref sa])), (sa, .inl ((cT 0), 256, .inl ga))] sz) := by
  refine Met.ofW (cc := b_Rq_takes) (maxL := 4) (ret := (Option.some Jvm.ClassFile.FieldType.boolean)) (by decide) rfl ?_
  intro p e s m args below meth c s₁ B hml hv
  obtain ⟨hargs, hsz, hP, hK, hD0⟩ := hv
  have hx := B.exec
  have hb := B.bytes
  have hr := B.returns
  have hts := atoms_spec (ws := (Cond.code y_Rq_takes b_Rq_takes 4 (Option.some Jvm.ClassFile.FieldType.boolean) :: BIG)) B.pre
  have hg : ∀ w ∈ BIG, w.before _ s = true := fun w h => hts w (List.mem_cons_of_mem _ h)
  have hown : s.vm.findClass "DoorServer$Request" = some m.cls := findClass_of_methodNamed B.named
  have hlocks := B.notSynchronized
  subst hsz
  have hD := hD0.self (sz := s.heap.size)
  generalize hAe : va_A [(rq, .inr (4, [.ref dr, .ref sa])), (sa, .inl ((cT 0), 256, .inl ga))] s.heap.size = A at hD ⊢
  have hA : ∀ q : Nat, s.heap.size ≤ q → A q := fun q h => by rw [← hAe]; exact Or.inr h
  have hS : va_S A s.heap s.heap [] := va_S.rf
  have hl := lv_entry ([.ref rq, .int (nI c9), .int (nI a), .int (nI n)]) (n := 4) (Nat.le_of_ble_eq_true rfl)
  refine W.eq (g2 := entryFrame m (List.toArray [.ref rq, .int (nI c9), .int (nI a), .int (nI n)]) 4) (by rw [hargs]) ?_
  rw [lg_entry_eq]
  generalize (lg_sl ([.ref rq, .int (nI c9), .int (nI a), .int (nI n)]) ++ List.replicate (4 - (lg_sl ([.ref rq, .int (nI c9), .int (nI a), .int (nI n)])).length) Slot.unset).toArray = ls at hl ⊢
  have hl : lv_has ls 4 [(0, .ref rq), (1, .int (nI c9)), (2, .int (nI a)), (3, .int (nI n))] := hl
  change W p l e ({ frames := 1, cells := 0, slots := 0, locals := 22 } : Room) s m args below meth c s.heap [] 0 0 _ _
  have hP : va_P (dC, dI) vcl [(rq, .inr (4, [.ref dr, .ref sa])), (sa, .inl ((cT 0), 256, .inl ga))] s.heap := hP
  refine lv_iload_n hx hb d_Rq_takes_0 rfl (lv_at hl 1 rfl) ?_
  have hPc := hP.sub (ws' := []) [] rfl
  have hDc := hD.sub (ws' := []) [] (by decide) rfl
  have hFc := va_free (wc := []) hD hS hA [] rfl
  refine va_calli (va_runS (As := [.int (nI c9)]) (rest := []) ⟨hx, hb, hml, hown, hg⟩ (c_known l dC dI cT s.heap.size c9 (hc9)) (va_cwS 1 hg (gI (List.forall_mem_append.mpr ⟨List.forall_mem_cons.mpr ⟨k_705, List.forall_mem_cons.mpr ⟨k_706, List.forall_mem_cons.mpr ⟨k_12, fun _ h => absurd h List.not_mem_nil⟩⟩⟩, List.forall_mem_cons.mpr ⟨k_707, fun _ h => h⟩⟩)) rfl rfl rfl (by decide +kernel) ⟨Nat.le_of_ble_eq_true rfl, Nat.le_of_ble_eq_true rfl⟩) ⟨fun a U g mk q => by obtain ⟨q0, q1, qP, qK, qD⟩ := q; exact ⟨q0, q1, qP, va_K.moved (u := U) (U := U.calling g mk a) (Vm.Alike.refl U.vm) qK, qD⟩, fun U hU hW => ⟨rfl, by rw [hU], by rw [hU]; exact hPc, va_K.moved hW.alike hK, hDc.weaken (fun _ _ _ _ => trivial)⟩⟩ rfl rfl hl.1 rfl (lv_room (Nat.le_of_ble_eq_true rfl)) d_Rq_takes_1 ⟨Nat.le_of_ble_eq_true rfl, Nat.le_of_ble_eq_true rfl⟩) hS (fun q _ h => hFc q h) hFc (fun rv9 u t H1 locs ht hvm hw hB hz1 hk1 hS => ?_)
  try dsimp only at hw hB
  obtain ⟨hP1, hK1, hD1⟩ := hB
  rw [ht] at hP1
  generalize rv9 = r49 at hw ⊢
  obtain ⟨hP, hD⟩ := va_join (wr := [(rq, .inr (4, [.ref dr, .ref sa])), (sa, .inl ((cT 0), 256, .inl ga))]) (w1 := []) hP hD [] [0, 1] rfl rfl (by decide) (by decide) hk1 hFc hP1 hD1
  have hw50 := hw
  clear hPc hDc hFc hz1 hk1 hP1 hK1 hD1
  generalize H1 = H at hP hS ⊢
  have hP : va_P (dC, dI) vcl [(rq, .inr (4, [.ref dr, .ref sa])), (sa, .inl ((cT 0), 256, .inl ga))] H := hP
  have hD : va_D A [(rq, .inr (4, [.ref dr, .ref sa])), (sa, .inl ((cT 0), 256, .inl ga))] := hD
  refine lv_if_ne (tgt := 9) hx hb d_Rq_takes_4 (by decide) (fun hc51 => ?_) (fun hc51 => ?_)
  · skip
    have hkt : KT c9 := hw50.2 (hw50.1.resolve_left hc51)
    refine lv_aload_n hx hb d_Rq_takes_9 rfl (lv_at hl 0 rfl) ?_
    refine va_get (D := (dC, dI)) (ci := 4) (v := (.ref sa)) (C := R_Rq) (T := F_Rq) (N := 2) hx hb hg in_Rq hown hK hP 0 rfl rfl 1 (by decide) (hg _ k_313) (fun _ h9 => h9) rfl d_Rq_takes_10 ?_
    refine lv_iload_n hx hb d_Rq_takes_13 rfl (lv_at hl 1 rfl) ?_
    refine va_iald hx hb hK hP 1 0 rfl rfl (i := (nI c9)) (vp_in_nI hc9 (by decide)) d_Rq_takes_14 ?_
    refine lv_if_gt (tgt := 26) hx hb d_Rq_takes_15 (by decide) (fun hc52 => ?_) (fun hc52 => ?_)
    · skip
      refine lv_iconst (v := 0) hx hb d_Rq_takes_26 (by decide) ?_
      have hP9 := hP.sub (ws' := [(rq, .inr (4, [.ref dr, .ref sa])), (sa, .inl ((cT 0), 256, .inl ga))]) [0, 1] rfl
      have hD9 := hD.sub (ws' := [(rq, .inr (4, [.ref dr, .ref sa])), (sa, .inl ((cT 0), 256, .inl ga))]) [0, 1] (by decide) rfl
      exact W.zret (v := 0) hx hb hr (by first | rfl | decide) (fun t ht hW => ⟨⟨_, ga, rfl, ⟨Or.inl rfl, fun h9 => absurd h9 (by decide)⟩, by rw [ht]; exact hP9, va_K.moved hW.alike hK, hD9⟩, hS.F ht⟩) hS.2.2 d_Rq_takes_27
    · skip
      refine lv_iload_n hx hb d_Rq_takes_18 rfl (lv_at hl 1 rfl) ?_
      refine lv_iload_n hx hb d_Rq_takes_19 rfl (lv_at hl 3 rfl) ?_
      have hPc := hP.sub (ws' := []) [] rfl
      have hDc := hD.sub (ws' := []) [] (by decide) rfl
      have hFc := va_free (wc := []) hD hS hA [] rfl
      refine va_calli (va_runS (As := [.int (nI c9), .int (nI n)]) (rest := []) ⟨hx, hb, hml, hown, hg⟩ (c_fits l dC dI cT H.size c9 n (hkt) (hn)) (va_cwS 2 hg (gI (List.forall_mem_append.mpr ⟨List.forall_mem_cons.mpr ⟨k_708, List.forall_mem_cons.mpr ⟨k_709, List.forall_mem_cons.mpr ⟨k_12, fun _ h => absurd h List.not_mem_nil⟩⟩⟩, List.forall_mem_cons.mpr ⟨k_710, fun _ h => h⟩⟩)) rfl rfl rfl (by decide +kernel) ⟨Nat.le_of_ble_eq_true rfl, Nat.le_of_ble_eq_true rfl⟩) ⟨fun a U g mk q => by obtain ⟨q0, q1, qP, qK, qD⟩ := q; exact ⟨q0, q1, qP, va_K.moved (u := U) (U := U.calling g mk a) (Vm.Alike.refl U.vm) qK, qD⟩, fun U hU hW => ⟨rfl, by rw [hU], by rw [hU]; exact hPc, va_K.moved hW.alike hK, hDc.weaken (fun _ _ _ _ => trivial)⟩⟩ rfl rfl hl.1 rfl (lv_room (Nat.le_of_ble_eq_true rfl)) d_Rq_takes_20 ⟨Nat.le_of_ble_eq_true rfl, Nat.le_of_ble_eq_true rfl⟩) hS (fun q _ h => hFc q h) hFc (fun rv9 u t H1 locs ht hvm hw hB hz1 hk1 hS => ?_)
      try dsimp only at hw hB
      obtain ⟨hP1, hK1, hD1⟩ := hB
      rw [ht] at hP1
      generalize rv9 = r53 at hw ⊢
      obtain ⟨hP, hD⟩ := va_join (wr := [(rq, .inr (4, [.ref dr, .ref sa])), (sa, .inl ((cT 0), 256, .inl ga))]) (w1 := []) hP hD [] [0, 1] rfl rfl (by decide) (by decide) hk1 hFc hP1 hD1
      have hw54 := hw
      clear hPc hDc hFc hz1 hk1 hP1 hK1 hD1
      generalize H1 = H at hP hS ⊢
      have hP : va_P (dC, dI) vcl [(rq, .inr (4, [.ref dr, .ref sa])), (sa, .inl ((cT 0), 256, .inl ga))] H := hP
      have hD : va_D A [(rq, .inr (4, [.ref dr, .ref sa])), (sa, .inl ((cT 0), 256, .inl ga))] := hD
      refine lv_if_ne (tgt := 28) hx hb d_Rq_takes_23 (by decide) (fun hc55 => ?_) (fun hc55 => ?_)
      · skip
        have hft : FT c9 n := hw54.2 (hw54.1.resolve_left hc55)
        refine lv_aload_n hx hb d_Rq_takes_28 rfl (lv_at hl 0 rfl) ?_
        refine va_get (D := (dC, dI)) (ci := 4) (v := (.ref sa)) (C := R_Rq) (T := F_Rq) (N := 2) hx hb hg in_Rq hown hK hP 0 rfl rfl 1 (by decide) (hg _ k_313) (fun _ h9 => h9) rfl d_Rq_takes_29 ?_
        refine lv_iload_n hx hb d_Rq_takes_32 rfl (lv_at hl 1 rfl) ?_
        refine lv_iload_n hx hb d_Rq_takes_33 rfl (lv_at hl 2 rfl) ?_
        refine va_iast hx hb hK hP hD hS 1 0 rfl rfl (i := (nI c9)) (vp_in_nI hc9 (by decide)) d_Rq_takes_34 (fun H locs hP hD hS => ?_)
        have ef56 : upd ga (nI c9).toNatClampNeg (nI a) = upd ga c9 (nI a) := by rw [nI_clamp (by omega)]
        rw [ef56] at hP hD
        have hP : va_P (dC, dI) vcl [(rq, .inr (4, [.ref dr, .ref sa])), (sa, .inl ((cT 0), 256, .inl (upd ga c9 (nI a))))] H := hP
        have hD : va_D A [(rq, .inr (4, [.ref dr, .ref sa])), (sa, .inl ((cT 0), 256, .inl (upd ga c9 (nI a))))] := hD
        refine lv_iconst (v := 1) hx hb d_Rq_takes_35 (by decide) ?_
        have hP9 := hP.sub (ws' := [(rq, .inr (4, [.ref dr, .ref sa])), (sa, .inl ((cT 0), 256, .inl (upd ga c9 (nI a))))]) [0, 1] rfl
        have hD9 := hD.sub (ws' := [(rq, .inr (4, [.ref dr, .ref sa])), (sa, .inl ((cT 0), 256, .inl (upd ga c9 (nI a))))]) [0, 1] (by decide) rfl
        exact W.zret (v := 1) hx hb hr (by first | rfl | decide) (fun t ht hW => ⟨⟨_, upd ga c9 (nI a), rfl, ⟨Or.inr rfl, fun _ => Or.inr ⟨hkt, hft, rfl⟩⟩, by rw [ht]; exact hP9, va_K.moved hW.alike hK, hD9⟩, hS.F ht⟩) hS.2.2 d_Rq_takes_36
      · skip
        refine lv_iconst (v := 0) hx hb d_Rq_takes_26 (by decide) ?_
        have hP9 := hP.sub (ws' := [(rq, .inr (4, [.ref dr, .ref sa])), (sa, .inl ((cT 0), 256, .inl ga))]) [0, 1] rfl
        have hD9 := hD.sub (ws' := [(rq, .inr (4, [.ref dr, .ref sa])), (sa, .inl ((cT 0), 256, .inl ga))]) [0, 1] (by decide) rfl
        exact W.zret (v := 0) hx hb hr (by first | rfl | decide) (fun t ht hW => ⟨⟨_, ga, rfl, ⟨Or.inl rfl, fun h9 => absurd h9 (by decide)⟩, by rw [ht]; exact hP9, va_K.moved hW.alike hK, hD9⟩, hS.F ht⟩) hS.2.2 d_Rq_takes_27
  · skip
    refine lv_iconst (v := 1) hx hb d_Rq_takes_7 (by decide) ?_
    have hP9 := hP.sub (ws' := [(rq, .inr (4, [.ref dr, .ref sa])), (sa, .inl ((cT 0), 256, .inl ga))]) [0, 1] rfl
    have hD9 := hD.sub (ws' := [(rq, .inr (4, [.ref dr, .ref sa])), (sa, .inl ((cT 0), 256, .inl ga))]) [0, 1] (by decide) rfl
    exact W.zret (v := 1) hx hb hr (by first | rfl | decide) (fun t ht hW => ⟨⟨_, ga, rfl, ⟨Or.inr rfl, fun _ => Or.inl rfl⟩, by rw [ht]; exact hP9, va_K.moved hW.alike hK, hD9⟩, hS.F ht⟩) hS.2.2 d_Rq_takes_8
