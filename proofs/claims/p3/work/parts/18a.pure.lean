set_option maxHeartbeats 4000000 in
set_option maxRecDepth 100000 in
/-- findValue -/
theorem p_Pk_find (l : Launch) (dC : Nat → ClassId) (dI : Nat → Nat → Nat) (cT : Nat → ClassId) (sz : Nat) (h : Nat) (r : Nat) (n : Nat) (len : Nat) (f : Nat → Int32) (x : Int32) (k : Nat) (hlen : len ≤ n) (hn : n ≤ 1000) (h20 : 20 ≤ len) (hk : k ≤ 100) (hab : AB f) : Met l y_Pk_findValue (Cond.code y_Pk_findValue b_Pk_findValue 5 (Option.some Jvm.ClassFile.FieldType.int) :: BIG) ({ frames := 0, cells := 0, slots := 0, locals := 0 }) (va_Pc [.ref h, .int x, .int (nI k)] (fun U => U.heap.size = sz ∧ va_P (dC, dI) vcl [(h, .inr (2, [.ref r, .int (nI len)])), (r, .inl ((cT 0), n, .inl f))] U.heap ∧ va_K (dC, dI) vcl (tyL cT) U ∧ va_D (fun _ => True) [(h, .inr (2, [.ref r, .int (nI len)])), (r, .inl ((cT 0), n, .inl f))])) (va_Qi (S := Unit) (fun rv9 u => rv9 = fv f len x k (len - 20) 20 ∧ (fv f len x k (len - 20) 20 = -1 ∨ ∃ a : Nat, fv f len x k (len - 20) 20 = nI a ∧ 22 ≤ a ∧ a + k ≤ len)) (fun u t => va_P (dC, dI) vcl [(h, .inr (2, [.ref r, .int (nI len)])), (r, .inl ((cT 0), n, .inl f))] t.heap ∧ va_K (dC, dI) vcl (tyL cT) t ∧ va_D (va_A [] sz) []) (va_A [] sz)) 0 0 (va_A [] sz) := by
  refine Met.ofW (cc := b_Pk_findValue) (maxL := 5) (ret := (Option.some Jvm.ClassFile.FieldType.int)) (by decide) rfl ?_
  intro p e s m args below meth c s₁ B hml hv
  obtain ⟨hargs, hsz, hP, hK, hD0⟩ := hv
  have hx := B.exec
  have hb := B.bytes
  have hr := B.returns
  have hts := atoms_spec (ws := (Cond.code y_Pk_findValue b_Pk_findValue 5 (Option.some Jvm.ClassFile.FieldType.int) :: BIG)) B.pre
  have hg : ∀ w ∈ BIG, w.before _ s = true := fun w h => hts w (List.mem_cons_of_mem _ h)
  have hown : s.vm.findClass "DoorServer$Packet" = some m.cls := findClass_of_methodNamed B.named
  have hlocks := B.notSynchronized
  subst hsz
  have hD : va_D (va_A [] s.heap.size) [] := ⟨fun i j p q h => by simp at h, fun k q h => by simp at h⟩
  generalize hAe : va_A [] s.heap.size = A at hD ⊢
  have hA : ∀ q : Nat, s.heap.size ≤ q → A q := fun q h => by rw [← hAe]; exact Or.inr h
  have hS : va_S A s.heap s.heap [] := va_S.rf
  have hl := lv_entry ([.ref h, .int x, .int (nI k)]) (n := 5) (Nat.le_of_ble_eq_true rfl)
  refine W.eq (g2 := entryFrame m (List.toArray [.ref h, .int x, .int (nI k)]) 5) (by rw [hargs]) ?_
  rw [lg_entry_eq]
  generalize (lg_sl ([.ref h, .int x, .int (nI k)]) ++ List.replicate (5 - (lg_sl ([.ref h, .int x, .int (nI k)])).length) Slot.unset).toArray = ls at hl ⊢
  have hl : lv_has ls 5 [(0, .ref h), (1, .int x), (2, .int (nI k))] := hl
  change W p l e ({ frames := 0, cells := 0, slots := 0, locals := 0 } : Room) s m args below meth c s.heap [] 0 0 _ _
  have hP : va_P (dC, dI) vcl [(h, .inr (2, [.ref r, .int (nI len)])), (r, .inl ((cT 0), n, .inl f))] s.heap := hP
  refine lv_bipush (v := 20) hx hb d_Pk_findValue_0 (by decide) ?_
  refine lv_istore_n (lv' := [(3, .int 20), (0, .ref h), (1, .int x), (2, .int (nI k))]) hx hb d_Pk_findValue_2 rfl hl (by decide) rfl (fun ls hl => ?_)
  have hl := lv_sub hl [0, 1, 2, 3] (show _ = [(3, .int 20), (0, .ref h), (1, .int x), (2, .int (nI k))] from rfl)
  have L95 : ∀ (Q : State → Prop) (ex0 : ∀  (H : Heap) (locs : List Loc) (ls : Array Slot), (fv f len x k (len - 20) 20 = -1) → va_P (dC, dI) vcl [(h, .inr (2, [.ref r, .int (nI len)])), (r, .inl ((cT 0), n, .inl f))] H → va_D A [] → va_S A s.heap H locs → lv_has ls 5 [(0, .ref h)] → W p l e ({ frames := 0, cells := 0, slots := 0, locals := 0 } : Room) s m args below meth c H locs 0 0 Q (F0 m 72 ls [])) (ex1 : ∀  (H : Heap) (locs : List Loc) (ls : Array Slot), (fv f len x k (len - 20) 20 = -1) → va_P (dC, dI) vcl [(h, .inr (2, [.ref r, .int (nI len)])), (r, .inl ((cT 0), n, .inl f))] H → va_D A [] → va_S A s.heap H locs → lv_has ls 5 [(0, .ref h)] → W p l e ({ frames := 0, cells := 0, slots := 0, locals := 0 } : Room) s m args below meth c H locs 0 0 Q (F0 m 40 ls [])) (ex2 : ∀ (i : Nat) (H : Heap) (locs : List Loc) (ls : Array Slot), (20 ≤ i ∧ i + 2 + k ≤ len ∧ fv f len x k (len - 20) 20 = nI (i + 2)) → va_P (dC, dI) vcl [(h, .inr (2, [.ref r, .int (nI len)])), (r, .inl ((cT 0), n, .inl f))] H → va_D A [] → va_S A s.heap H locs → lv_has ls 5 [(0, .ref h)] → W p l e ({ frames := 0, cells := 0, slots := 0, locals := 0 } : Room) s m args below meth c H locs 0 0 Q (F0 m 63 ls [.int (nI (i + 2))])) (jj96 : Nat) (i : Nat) (H : Heap) (locs : List Loc) (ls : Array Slot), len - i ≤ jj96 → (20 ≤ i ∧ i ≤ len) → (∀ n9, len - i ≤ n9 → fv f len x k n9 i = fv f len x k (len - 20) 20) → va_P (dC, dI) vcl [(h, .inr (2, [.ref r, .int (nI len)])), (r, .inl ((cT 0), n, .inl f))] H → va_D A [] → va_S A s.heap H locs → lv_has ls 5 [(3, .int (nI i)), (0, .ref h), (1, .int x), (2, .int (nI k))] → W p l e ({ frames := 0, cells := 0, slots := 0, locals := 0 } : Room) s m args below meth c H locs 0 0 Q (F0 m 3 ls []) := by
    intro Q ex0 ex1 ex2 jj96
    induction jj96 with
    | zero => 
      intro i H locs ls hm9 hi hv hP hD hS hl
      refine lv_iload_n hx hb d_Pk_findValue_3 rfl (lv_at hl 0 rfl) ?_
      refine lv_iconst (v := 2) hx hb d_Pk_findValue_4 (by decide) ?_
      refine lv_iadd hx hb d_Pk_findValue_5 ?_
      refine lv_topi (fun x98 e97 => ?_)
      obtain rfl : x98 = nI (i + 2) := by rw [e97]; exact nI_add i 2
      refine lv_aload_n hx hb d_Pk_findValue_6 rfl (lv_at hl 1 rfl) ?_
      refine va_get (D := (dC, dI)) (ci := 2) (v := (.int (nI len))) (C := R_Pk) (T := F_Pk) (N := 2) hx hb hg in_Pk hown hK hP 0 rfl rfl 1 (by decide) (hg _ k_52) (fun x9 h9 => u_same (hg _ k_53) x9 h9) rfl d_Pk_findValue_7 ?_
      refine lv_icmp_gt (tgt := 72) hx hb d_Pk_findValue_10 (by decide) (fun hc99 => ?_) (fun hc99 => ?_)
      · skip
        have hl := lv_sub hl [1] (show _ = [(0, .ref h)] from rfl)
        have h8 := (nI_ltI (by omega) (by omega)).mp hc99
        exact ex0  _ _ _ ((hv (len - i) (Nat.le_refl _)).symm.trans (fv_no (by omega))) hP hD hS hl
      · skip
        have hle : i + 2 ≤ len := by rw [nI_ltI (by omega) (by omega)] at hc99; omega
        obtain ⟨t, ht, he⟩ := hab (i + 1)
        have hx9 : (f (i + 1)).toNatClampNeg = t := by rw [he, nI_clamp (by omega)]
        refine lv_aload_n hx hb d_Pk_findValue_13 rfl (lv_at hl 1 rfl) ?_
        refine va_get (D := (dC, dI)) (ci := 2) (v := (.ref r)) (C := R_Pk) (T := F_Pk) (N := 2) hx hb hg in_Pk hown hK hP 0 rfl rfl 0 (by decide) (hg _ k_45) (fun x9 h9 => u_same (hg _ k_41) x9 h9) rfl d_Pk_findValue_14 ?_
        refine lv_iload_n hx hb d_Pk_findValue_17 rfl (lv_at hl 0 rfl) ?_
        refine lv_iconst (v := 1) hx hb d_Pk_findValue_18 (by decide) ?_
        refine lv_iadd hx hb d_Pk_findValue_19 ?_
        refine lv_topi (fun x101 e100 => ?_)
        obtain rfl : x101 = nI (i + 1) := by rw [e100]; exact nI_1 i
        refine va_iald hx hb hK hP 1 0 rfl rfl (i := (nI (i + 1))) (vp_in_nI (by omega) (by omega)) d_Pk_findValue_20 ?_
        refine lv_topi (fun x103 e102 => ?_)
        obtain rfl : x103 = nI t := by rw [e102]; rw [nI_clamp (by omega)]; exact he
        refine lv_istore (lv' := [(4, .int (nI t)), (3, .int (nI i)), (0, .ref h), (1, .int x), (2, .int (nI k))]) hx hb d_Pk_findValue_21 hl (by decide) rfl (fun ls hl => ?_)
        refine lv_iload hx hb d_Pk_findValue_23 (lv_at hl 0 rfl) ?_
        refine lv_iconst (v := 2) hx hb d_Pk_findValue_25 (by decide) ?_
        refine lv_icmp_lt (tgt := 40) hx hb d_Pk_findValue_26 (by decide) (fun hc104 => ?_) (fun hc104 => ?_)
        · skip
          have hl := lv_sub hl [2] (show _ = [(0, .ref h)] from rfl)
          have h8 : t < 2 := (nI_ltI (b := 2) (by omega) (by decide)).mp hc104
          exact ex1  _ _ _ ((hv (len - i) (Nat.le_refl _)).symm.trans (fv_bad hle hx9 (Or.inl h8))) hP hD hS hl
        · skip
          have h2 : 2 ≤ t := Nat.not_lt.mp (fun hq => hc104 (nI_lt (b := 2) hq (by decide)))
          refine lv_iload_n hx hb d_Pk_findValue_29 rfl (lv_at hl 1 rfl) ?_
          refine lv_iload hx hb d_Pk_findValue_30 (lv_at hl 0 rfl) ?_
          refine lv_iadd hx hb d_Pk_findValue_32 ?_
          refine lv_topi (fun x106 e105 => ?_)
          obtain rfl : x106 = nI (i + t) := by rw [e105]; exact nI_add i t
          refine lv_aload_n hx hb d_Pk_findValue_33 rfl (lv_at hl 2 rfl) ?_
          refine va_get (D := (dC, dI)) (ci := 2) (v := (.int (nI len))) (C := R_Pk) (T := F_Pk) (N := 2) hx hb hg in_Pk hown hK hP 0 rfl rfl 1 (by decide) (hg _ k_52) (fun x9 h9 => u_same (hg _ k_53) x9 h9) rfl d_Pk_findValue_34 ?_
          refine lv_icmp_le (tgt := 42) hx hb d_Pk_findValue_37 (by decide) (fun hc107 => ?_) (fun hc107 => ?_)
          · skip
            have h3 : i + t ≤ len := (nI_leI (by omega) (by omega)).mp hc107
            refine lv_aload_n hx hb d_Pk_findValue_42 rfl (lv_at hl 2 rfl) ?_
            refine va_get (D := (dC, dI)) (ci := 2) (v := (.ref r)) (C := R_Pk) (T := F_Pk) (N := 2) hx hb hg in_Pk hown hK hP 0 rfl rfl 0 (by decide) (hg _ k_45) (fun x9 h9 => u_same (hg _ k_41) x9 h9) rfl d_Pk_findValue_43 ?_
            refine lv_iload_n hx hb d_Pk_findValue_46 rfl (lv_at hl 1 rfl) ?_
            refine va_iald hx hb hK hP 1 0 rfl rfl (i := (nI i)) (vp_in_nI (by omega) (by omega)) d_Pk_findValue_47 ?_
            refine lv_topi (fun x109 e108 => ?_)
            obtain rfl : x109 = f i := by rw [e108]; rw [nI_clamp (by omega)]
            refine lv_iload_n hx hb d_Pk_findValue_48 rfl (lv_at hl 3 rfl) ?_
            refine lv_icmp_ne (tgt := 64) hx hb d_Pk_findValue_49 (by decide) (fun hc110 => ?_) (fun hc110 => ?_)
            · skip
              refine lv_iload_n hx hb d_Pk_findValue_64 rfl (lv_at hl 1 rfl) ?_
              refine lv_iload hx hb d_Pk_findValue_65 (lv_at hl 0 rfl) ?_
              refine lv_iadd hx hb d_Pk_findValue_67 ?_
              refine lv_topi (fun x112 e111 => ?_)
              obtain rfl : x112 = nI (i + t) := by rw [e111]; exact nI_add i t
              refine lv_istore_n (lv' := [(3, .int (nI (i + t))), (4, .int (nI t)), (0, .ref h), (1, .int x), (2, .int (nI k))]) hx hb d_Pk_findValue_68 rfl hl (by decide) rfl (fun ls hl => ?_)
              refine lv_goto (tgt := 3) hx hb d_Pk_findValue_69 (by decide) ?_
              have hl := lv_sub hl [0, 2, 3, 4] (show _ = [(3, .int (nI (i + t))), (0, .ref h), (1, .int x), (2, .int (nI k))] from rfl)
              exfalso; omega
            · skip
              have h5 := hc110
              refine lv_iload hx hb d_Pk_findValue_52 (lv_at hl 0 rfl) ?_
              refine lv_iload_n hx hb d_Pk_findValue_54 rfl (lv_at hl 4 rfl) ?_
              refine lv_iconst (v := 2) hx hb d_Pk_findValue_55 (by decide) ?_
              refine lv_iadd hx hb d_Pk_findValue_56 ?_
              refine lv_topi (fun x114 e113 => ?_)
              obtain rfl : x114 = nI (k + 2) := by rw [e113]; exact nI_add k 2
              refine lv_icmp_ne (tgt := 64) hx hb d_Pk_findValue_57 (by decide) (fun hc115 => ?_) (fun hc115 => ?_)
              · skip
                refine lv_iload_n hx hb d_Pk_findValue_64 rfl (lv_at hl 1 rfl) ?_
                refine lv_iload hx hb d_Pk_findValue_65 (lv_at hl 0 rfl) ?_
                refine lv_iadd hx hb d_Pk_findValue_67 ?_
                refine lv_topi (fun x117 e116 => ?_)
                obtain rfl : x117 = nI (i + t) := by rw [e116]; exact nI_add i t
                refine lv_istore_n (lv' := [(3, .int (nI (i + t))), (4, .int (nI t)), (0, .ref h), (1, .int x), (2, .int (nI k))]) hx hb d_Pk_findValue_68 rfl hl (by decide) rfl (fun ls hl => ?_)
                refine lv_goto (tgt := 3) hx hb d_Pk_findValue_69 (by decide) ?_
                have hl := lv_sub hl [0, 2, 3, 4] (show _ = [(3, .int (nI (i + t))), (0, .ref h), (1, .int x), (2, .int (nI k))] from rfl)
                exfalso; omega
              · skip
                have h4 : t = k + 2 := (nI_eq (by omega) (by omega)).mp hc115
                refine lv_iload_n hx hb d_Pk_findValue_60 rfl (lv_at hl 1 rfl) ?_
                refine lv_iconst (v := 2) hx hb d_Pk_findValue_61 (by decide) ?_
                refine lv_iadd hx hb d_Pk_findValue_62 ?_
                refine lv_topi (fun x119 e118 => ?_)
                obtain rfl : x119 = nI (i + 2) := by rw [e118]; exact nI_add i 2
                have hl := lv_sub hl [2] (show _ = [(0, .ref h)] from rfl)
                exact ex2 i _ _ _ (⟨by omega, by omega, (hv (len - i + 1) (by omega)).symm.trans (fv_hit hle hx9 (by omega) ⟨h5, h4⟩)⟩) hP hD hS hl
          · skip
            have hl := lv_sub hl [2] (show _ = [(0, .ref h)] from rfl)
            have h8 : len < i + t := by
              apply Nat.not_le.mp; intro h7; exact hc107 (nI_le h7 (by omega))
            exact ex1  _ _ _ ((hv (len - i) (Nat.le_refl _)).symm.trans (fv_bad hle hx9 (Or.inr h8))) hP hD hS hl
    | succ jj96 ih => 
      intro i H locs ls hm9 hi hv hP hD hS hl
      refine lv_iload_n hx hb d_Pk_findValue_3 rfl (lv_at hl 0 rfl) ?_
      refine lv_iconst (v := 2) hx hb d_Pk_findValue_4 (by decide) ?_
      refine lv_iadd hx hb d_Pk_findValue_5 ?_
      refine lv_topi (fun x121 e120 => ?_)
      obtain rfl : x121 = nI (i + 2) := by rw [e120]; exact nI_add i 2
      refine lv_aload_n hx hb d_Pk_findValue_6 rfl (lv_at hl 1 rfl) ?_
      refine va_get (D := (dC, dI)) (ci := 2) (v := (.int (nI len))) (C := R_Pk) (T := F_Pk) (N := 2) hx hb hg in_Pk hown hK hP 0 rfl rfl 1 (by decide) (hg _ k_52) (fun x9 h9 => u_same (hg _ k_53) x9 h9) rfl d_Pk_findValue_7 ?_
      refine lv_icmp_gt (tgt := 72) hx hb d_Pk_findValue_10 (by decide) (fun hc122 => ?_) (fun hc122 => ?_)
      · skip
        have hl := lv_sub hl [1] (show _ = [(0, .ref h)] from rfl)
        have h8 := (nI_ltI (by omega) (by omega)).mp hc122
        exact ex0  _ _ _ ((hv (len - i) (Nat.le_refl _)).symm.trans (fv_no (by omega))) hP hD hS hl
      · skip
        have hle : i + 2 ≤ len := by rw [nI_ltI (by omega) (by omega)] at hc122; omega
        obtain ⟨t, ht, he⟩ := hab (i + 1)
        have hx9 : (f (i + 1)).toNatClampNeg = t := by rw [he, nI_clamp (by omega)]
        refine lv_aload_n hx hb d_Pk_findValue_13 rfl (lv_at hl 1 rfl) ?_
        refine va_get (D := (dC, dI)) (ci := 2) (v := (.ref r)) (C := R_Pk) (T := F_Pk) (N := 2) hx hb hg in_Pk hown hK hP 0 rfl rfl 0 (by decide) (hg _ k_45) (fun x9 h9 => u_same (hg _ k_41) x9 h9) rfl d_Pk_findValue_14 ?_
        refine lv_iload_n hx hb d_Pk_findValue_17 rfl (lv_at hl 0 rfl) ?_
        refine lv_iconst (v := 1) hx hb d_Pk_findValue_18 (by decide) ?_
        refine lv_iadd hx hb d_Pk_findValue_19 ?_
        refine lv_topi (fun x124 e123 => ?_)
        obtain rfl : x124 = nI (i + 1) := by rw [e123]; exact nI_1 i
        refine va_iald hx hb hK hP 1 0 rfl rfl (i := (nI (i + 1))) (vp_in_nI (by omega) (by omega)) d_Pk_findValue_20 ?_
        refine lv_topi (fun x126 e125 => ?_)
        obtain rfl : x126 = nI t := by rw [e125]; rw [nI_clamp (by omega)]; exact he
        refine lv_istore (lv' := [(4, .int (nI t)), (3, .int (nI i)), (0, .ref h), (1, .int x), (2, .int (nI k))]) hx hb d_Pk_findValue_21 hl (by decide) rfl (fun ls hl => ?_)
        refine lv_iload hx hb d_Pk_findValue_23 (lv_at hl 0 rfl) ?_
        refine lv_iconst (v := 2) hx hb d_Pk_findValue_25 (by decide) ?_
        refine lv_icmp_lt (tgt := 40) hx hb d_Pk_findValue_26 (by decide) (fun hc127 => ?_) (fun hc127 => ?_)
        · skip
          have hl := lv_sub hl [2] (show _ = [(0, .ref h)] from rfl)
          have h8 : t < 2 := (nI_ltI (b := 2) (by omega) (by decide)).mp hc127
          exact ex1  _ _ _ ((hv (len - i) (Nat.le_refl _)).symm.trans (fv_bad hle hx9 (Or.inl h8))) hP hD hS hl
        · skip
          have h2 : 2 ≤ t := Nat.not_lt.mp (fun hq => hc127 (nI_lt (b := 2) hq (by decide)))
          refine lv_iload_n hx hb d_Pk_findValue_29 rfl (lv_at hl 1 rfl) ?_
          refine lv_iload hx hb d_Pk_findValue_30 (lv_at hl 0 rfl) ?_
          refine lv_iadd hx hb d_Pk_findValue_32 ?_
          refine lv_topi (fun x129 e128 => ?_)
          obtain rfl : x129 = nI (i + t) := by rw [e128]; exact nI_add i t
          refine lv_aload_n hx hb d_Pk_findValue_33 rfl (lv_at hl 2 rfl) ?_
          refine va_get (D := (dC, dI)) (ci := 2) (v := (.int (nI len))) (C := R_Pk) (T := F_Pk) (N := 2) hx hb hg in_Pk hown hK hP 0 rfl rfl 1 (by decide) (hg _ k_52) (fun x9 h9 => u_same (hg _ k_53) x9 h9) rfl d_Pk_findValue_34 ?_
          refine lv_icmp_le (tgt := 42) hx hb d_Pk_findValue_37 (by decide) (fun hc130 => ?_) (fun hc130 => ?_)
          · skip
            have h3 : i + t ≤ len := (nI_leI (by omega) (by omega)).mp hc130
            refine lv_aload_n hx hb d_Pk_findValue_42 rfl (lv_at hl 2 rfl) ?_
            refine va_get (D := (dC, dI)) (ci := 2) (v := (.ref r)) (C := R_Pk) (T := F_Pk) (N := 2) hx hb hg in_Pk hown hK hP 0 rfl rfl 0 (by decide) (hg _ k_45) (fun x9 h9 => u_same (hg _ k_41) x9 h9) rfl d_Pk_findValue_43 ?_
            refine lv_iload_n hx hb d_Pk_findValue_46 rfl (lv_at hl 1 rfl) ?_
            refine va_iald hx hb hK hP 1 0 rfl rfl (i := (nI i)) (vp_in_nI (by omega) (by omega)) d_Pk_findValue_47 ?_
            refine lv_topi (fun x132 e131 => ?_)
            obtain rfl : x132 = f i := by rw [e131]; rw [nI_clamp (by omega)]
            refine lv_iload_n hx hb d_Pk_findValue_48 rfl (lv_at hl 3 rfl) ?_
            refine lv_icmp_ne (tgt := 64) hx hb d_Pk_findValue_49 (by decide) (fun hc133 => ?_) (fun hc133 => ?_)
            · skip
              refine lv_iload_n hx hb d_Pk_findValue_64 rfl (lv_at hl 1 rfl) ?_
              refine lv_iload hx hb d_Pk_findValue_65 (lv_at hl 0 rfl) ?_
              refine lv_iadd hx hb d_Pk_findValue_67 ?_
              refine lv_topi (fun x135 e134 => ?_)
              obtain rfl : x135 = nI (i + t) := by rw [e134]; exact nI_add i t
              refine lv_istore_n (lv' := [(3, .int (nI (i + t))), (4, .int (nI t)), (0, .ref h), (1, .int x), (2, .int (nI k))]) hx hb d_Pk_findValue_68 rfl hl (by decide) rfl (fun ls hl => ?_)
              refine lv_goto (tgt := 3) hx hb d_Pk_findValue_69 (by decide) ?_
              have hl := lv_sub hl [0, 2, 3, 4] (show _ = [(3, .int (nI (i + t))), (0, .ref h), (1, .int x), (2, .int (nI k))] from rfl)
              exact ih (i + t) _ _ _ (by omega) (⟨by omega, by omega⟩) (fun n9 h9 => (fv_ind n9 (n9 + t) (i + t) h9 (by omega)).trans ((fv_on (n := n9 + t) hle hx9 (by omega) (fun h8 => hc133 h8.1)).symm.trans (hv (n9 + t + 1) (by omega)))) hP hD hS hl
            · skip
              have h5 := hc133
              refine lv_iload hx hb d_Pk_findValue_52 (lv_at hl 0 rfl) ?_
              refine lv_iload_n hx hb d_Pk_findValue_54 rfl (lv_at hl 4 rfl) ?_
              refine lv_iconst (v := 2) hx hb d_Pk_findValue_55 (by decide) ?_
              refine lv_iadd hx hb d_Pk_findValue_56 ?_
              refine lv_topi (fun x137 e136 => ?_)
              obtain rfl : x137 = nI (k + 2) := by rw [e136]; exact nI_add k 2
              refine lv_icmp_ne (tgt := 64) hx hb d_Pk_findValue_57 (by decide) (fun hc138 => ?_) (fun hc138 => ?_)
              · skip
                refine lv_iload_n hx hb d_Pk_findValue_64 rfl (lv_at hl 1 rfl) ?_
                refine lv_iload hx hb d_Pk_findValue_65 (lv_at hl 0 rfl) ?_
                refine lv_iadd hx hb d_Pk_findValue_67 ?_
                refine lv_topi (fun x140 e139 => ?_)
                obtain rfl : x140 = nI (i + t) := by rw [e139]; exact nI_add i t
                refine lv_istore_n (lv' := [(3, .int (nI (i + t))), (4, .int (nI t)), (0, .ref h), (1, .int x), (2, .int (nI k))]) hx hb d_Pk_findValue_68 rfl hl (by decide) rfl (fun ls hl => ?_)
                refine lv_goto (tgt := 3) hx hb d_Pk_findValue_69 (by decide) ?_
                have hl := lv_sub hl [0, 2, 3, 4] (show _ = [(3, .int (nI (i + t))), (0, .ref h), (1, .int x), (2, .int (nI k))] from rfl)
                exact ih (i + t) _ _ _ (by omega) (⟨by omega, by omega⟩) (fun n9 h9 => (fv_ind n9 (n9 + t) (i + t) h9 (by omega)).trans ((fv_on (n := n9 + t) hle hx9 (by omega) (fun h8 => hc138 (by rw [h8.2]))).symm.trans (hv (n9 + t + 1) (by omega)))) hP hD hS hl
              · skip
                have h4 : t = k + 2 := (nI_eq (by omega) (by omega)).mp hc138
                refine lv_iload_n hx hb d_Pk_findValue_60 rfl (lv_at hl 1 rfl) ?_
                refine lv_iconst (v := 2) hx hb d_Pk_findValue_61 (by decide) ?_
                refine lv_iadd hx hb d_Pk_findValue_62 ?_
                refine lv_topi (fun x142 e141 => ?_)
                obtain rfl : x142 = nI (i + 2) := by rw [e141]; exact nI_add i 2
                have hl := lv_sub hl [2] (show _ = [(0, .ref h)] from rfl)
                exact ex2 i _ _ _ (⟨by omega, by omega, (hv (len - i + 1) (by omega)).symm.trans (fv_hit hle hx9 (by omega) ⟨h5, h4⟩)⟩) hP hD hS hl
          · skip
            have hl := lv_sub hl [2] (show _ = [(0, .ref h)] from rfl)
            have h8 : len < i + t := by
              apply Nat.not_le.mp; intro h7; exact hc130 (nI_le h7 (by omega))
            exact ex1  _ _ _ ((hv (len - i) (Nat.le_refl _)).symm.trans (fv_bad hle hx9 (Or.inr h8))) hP hD hS hl
  refine L95 _ (fun  H locs ls hR hP hD hS hl => ?_) (fun  H locs ls hR hP hD hS hl => ?_) (fun i H locs ls hf hP hD hS hl => ?_) (len - 20) 20 s.heap _ ls (Nat.le_refl _) (⟨by omega, h20⟩) (fun n9 h9 => fv_ind n9 (len - 20) 20 h9 (Nat.le_refl _)) hP hD hS hl
  · skip
    refine lv_iconst (v := (-1)) hx hb d_Pk_findValue_72 (by decide) ?_
    refine lv_topi (fun x144 e143 => ?_)
    obtain rfl : x144 = fv f len x k (len - 20) 20 := by rw [e143]; exact hR.symm
    have hP9 := hP.sub (ws' := [(h, .inr (2, [.ref r, .int (nI len)])), (r, .inl ((cT 0), n, .inl f))]) [0, 1] rfl
    have hD9 := hD
    exact W.iret (v := fv f len x k (len - 20) 20) hx hb hr (fun t ht hW => ⟨⟨_, (), rfl, ⟨rfl, Or.inl hR⟩, by rw [ht]; exact hP9, va_K.moved hW.alike hK, hD9⟩, hS.F ht⟩) hS.2.2 d_Pk_findValue_73
  · skip
    refine lv_iconst (v := (-1)) hx hb d_Pk_findValue_40 (by decide) ?_
    refine lv_topi (fun x146 e145 => ?_)
    obtain rfl : x146 = fv f len x k (len - 20) 20 := by rw [e145]; exact hR.symm
    have hP9 := hP.sub (ws' := [(h, .inr (2, [.ref r, .int (nI len)])), (r, .inl ((cT 0), n, .inl f))]) [0, 1] rfl
    have hD9 := hD
    exact W.iret (v := fv f len x k (len - 20) 20) hx hb hr (fun t ht hW => ⟨⟨_, (), rfl, ⟨rfl, Or.inl hR⟩, by rw [ht]; exact hP9, va_K.moved hW.alike hK, hD9⟩, hS.F ht⟩) hS.2.2 d_Pk_findValue_41
  · skip
    refine lv_topi (fun x148 e147 => ?_)
    obtain rfl : x148 = fv f len x k (len - 20) 20 := by rw [e147]; exact hf.2.2.symm
    have hP9 := hP.sub (ws' := [(h, .inr (2, [.ref r, .int (nI len)])), (r, .inl ((cT 0), n, .inl f))]) [0, 1] rfl
    have hD9 := hD
    exact W.iret (v := fv f len x k (len - 20) 20) hx hb hr (fun t ht hW => ⟨⟨_, (), rfl, ⟨rfl, Or.inr ⟨i + 2, hf.2.2, by omega, by omega⟩⟩, by rw [ht]; exact hP9, va_K.moved hW.alike hK, hD9⟩, hS.F ht⟩) hS.2.2 d_Pk_findValue_63
