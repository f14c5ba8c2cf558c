theorem d_Dg_cover_0 : decode b_Dg_cover 0 = .ok (.iconst 0, 1) := by decide +kernel
theorem d_Dg_cover_1 : decode b_Dg_cover 1 = .ok (.istore 5, 2) := by decide +kernel
theorem d_Dg_cover_3 : decode b_Dg_cover 3 = .ok (.iload 5, 2) := by decide +kernel
theorem d_Dg_cover_5 : decode b_Dg_cover 5 = .ok (.iload 4, 2) := by decide +kernel
theorem d_Dg_cover_7 : decode b_Dg_cover 7 = .ok (.if_icmp .ge 56, 3) := by decide +kernel
theorem d_Dg_cover_10 : decode b_Dg_cover 10 = .ok (.aload_n 0, 1) := by decide +kernel
theorem d_Dg_cover_11 : decode b_Dg_cover 11 = .ok (.aload_n 1, 1) := by decide +kernel
theorem d_Dg_cover_12 : decode b_Dg_cover 12 = .ok (.aload_n 2, 1) := by decide +kernel
theorem d_Dg_cover_13 : decode b_Dg_cover 13 = .ok (.iload_n 3, 1) := by decide +kernel
theorem d_Dg_cover_14 : decode b_Dg_cover 14 = .ok (.iload 5, 2) := by decide +kernel
theorem d_Dg_cover_16 : decode b_Dg_cover 16 = .ok (.invokevirtual 55, 3) := by decide +kernel
theorem d_Dg_cover_19 : decode b_Dg_cover 19 = .ok (.astore 6, 2) := by decide +kernel
theorem d_Dg_cover_21 : decode b_Dg_cover 21 = .ok (.iconst 0, 1) := by decide +kernel
theorem d_Dg_cover_22 : decode b_Dg_cover 22 = .ok (.istore 7, 2) := by decide +kernel
theorem d_Dg_cover_24 : decode b_Dg_cover 24 = .ok (.iload 7, 2) := by decide +kernel
theorem d_Dg_cover_26 : decode b_Dg_cover 26 = .ok (.bipush 16, 2) := by decide +kernel
theorem d_Dg_cover_28 : decode b_Dg_cover 28 = .ok (.if_icmp .ge 29, 3) := by decide +kernel
theorem d_Dg_cover_31 : decode b_Dg_cover 31 = .ok (.aload_n 2, 1) := by decide +kernel
theorem d_Dg_cover_32 : decode b_Dg_cover 32 = .ok (.getfield 46, 3) := by decide +kernel
theorem d_Dg_cover_35 : decode b_Dg_cover 35 = .ok (.iload_n 3, 1) := by decide +kernel
theorem d_Dg_cover_36 : decode b_Dg_cover 36 = .ok (.iload 5, 2) := by decide +kernel
theorem d_Dg_cover_38 : decode b_Dg_cover 38 = .ok (.iadd, 1) := by decide +kernel
theorem d_Dg_cover_39 : decode b_Dg_cover 39 = .ok (.iload 7, 2) := by decide +kernel
theorem d_Dg_cover_41 : decode b_Dg_cover 41 = .ok (.iadd, 1) := by decide +kernel
theorem d_Dg_cover_42 : decode b_Dg_cover 42 = .ok (.dup2, 1) := by decide +kernel
theorem d_Dg_cover_43 : decode b_Dg_cover 43 = .ok (.iaload, 1) := by decide +kernel
theorem d_Dg_cover_44 : decode b_Dg_cover 44 = .ok (.aload 6, 2) := by decide +kernel
theorem d_Dg_cover_46 : decode b_Dg_cover 46 = .ok (.iload 7, 2) := by decide +kernel
theorem d_Dg_cover_48 : decode b_Dg_cover 48 = .ok (.iaload, 1) := by decide +kernel
theorem d_Dg_cover_49 : decode b_Dg_cover 49 = .ok (.ixor, 1) := by decide +kernel
theorem d_Dg_cover_50 : decode b_Dg_cover 50 = .ok (.iastore, 1) := by decide +kernel
theorem d_Dg_cover_51 : decode b_Dg_cover 51 = .ok (.iinc 7 1, 3) := by decide +kernel
theorem d_Dg_cover_54 : decode b_Dg_cover 54 = .ok (.goto (-30), 3) := by decide +kernel
theorem d_Dg_cover_57 : decode b_Dg_cover 57 = .ok (.iinc 5 16, 3) := by decide +kernel
theorem d_Dg_cover_60 : decode b_Dg_cover 60 = .ok (.goto (-57), 3) := by decide +kernel
theorem d_Dg_cover_63 : decode b_Dg_cover 63 = .ok (.return_, 1) := by decide +kernel
set_option maxHeartbeats 4000000 in
set_option maxRecDepth 100000 in
/-- cover -/
theorem c_Dg_cover (l : Launch) (dC : Nat → ClassId) (dI : Nat → Nat → Nat) (cT : Nat → ClassId) (sz : Nat) (g0 : Nat) (tx : Nat) (tr : Nat) (wo : Nat) (di : Nat) (va : Int32) (vb : Int32) (vc : Int32) (vd : Int32) (len : Nat) (f : Nat → Int32) (fw : Nat → Int32) (fd : Nat → Int32) (sh : Nat) (sr : Nat) (ns : Nat) (sl : Nat) (fs : Nat → Int32) (ph : Nat) (pr : Nat) (np : Nat) (pl : Nat) (fp : Nat → Int32) (at_ : Nat) (nb : Nat) (hsl : sl ≤ ns) (hns : ns < 2 ^ 31) (hpl : pl ≤ np) (hnp : np < 2 ^ 31) (hat : at_ + nb * 16 ≤ np) (hp : 20 ≤ np) (hs40 : sl ≤ 64) : Met l y_Dg_cover (Cond.code y_Dg_cover b_Dg_cover 8 (Option.none : Option Jvm.ClassFile.FieldType) :: BIG) ({ frames := 4, cells := 0, slots := 0, locals := 137 }) (va_Pc [.ref g0, .ref sh, .ref ph, .int (nI at_), .int (nI (nb * 16))] (fun U => U.heap.size = sz ∧ va_P (dC, dI) vcl [(g0, .inr (3, [.ref tx, .ref wo, .ref di, .int va, .int vb, .int vc, .int vd])), (tx, .inr (1, [.ref tr, .int (nI len)])), (tr, .inl ((cT 0), 1192, .inl f)), (wo, .inl ((cT 0), 16, .inl fw)), (di, .inl ((cT 0), 16, .inl fd)), (sh, .inr (1, [.ref sr, .int (nI sl)])), (sr, .inl ((cT 0), ns, .inl fs)), (ph, .inr (2, [.ref pr, .int (nI pl)])), (pr, .inl ((cT 0), np, .inl fp))] U.heap ∧ va_K (dC, dI) vcl (tyL cT) U ∧ va_D (fun _ => True) [(g0, .inr (3, [.ref tx, .ref wo, .ref di, .int va, .int vb, .int vc, .int vd])), (tx, .inr (1, [.ref tr, .int (nI len)])), (tr, .inl ((cT 0), 1192, .inl f)), (wo, .inl ((cT 0), 16, .inl fw)), (di, .inl ((cT 0), 16, .inl fd)), (sh, .inr (1, [.ref sr, .int (nI sl)])), (sr, .inl ((cT 0), ns, .inl fs)), (ph, .inr (2, [.ref pr, .int (nI pl)])), (pr, .inl ((cT 0), np, .inl fp))] ∧ xm (va_A [(g0, .inr (3, [.ref tx, .ref wo, .ref di, .int va, .int vb, .int vc, .int vd])), (tx, .inr (1, [.ref tr, .int (nI len)])), (tr, .inl ((cT 0), 1192, .inl f)), (wo, .inl ((cT 0), 16, .inl fw)), (di, .inl ((cT 0), 16, .inl fd)), (sh, .inr (1, [.ref sr, .int (nI sl)])), (sr, .inl ((cT 0), ns, .inl fs)), (ph, .inr (2, [.ref pr, .int (nI pl)])), (pr, .inl ((cT 0), np, .inl fp))] sz) U U.heap)) (va_Qv (S := Nat × (Nat → Int32) × (Nat → Int32) × Int32 × Int32 × Int32 × Int32 × (Nat → Int32) × (Nat → Int32)) (fun u => match u with | (len2, fw2, fd2, a2, b2, c2, d2, f2, fp2) => AB fd → AB fp → AB fd2 ∧ AB fp2) (fun u t => match u with | (len2, fw2, fd2, a2, b2, c2, d2, f2, fp2) => va_P (dC, dI) vcl [(g0, .inr (3, [.ref tx, .ref wo, .ref di, .int a2, .int b2, .int c2, .int d2])), (tx, .inr (1, [.ref tr, .int (nI len2)])), (tr, .inl ((cT 0), 1192, .inl f2)), (wo, .inl ((cT 0), 16, .inl fw2)), (di, .inl ((cT 0), 16, .inl fd2)), (sh, .inr (1, [.ref sr, .int (nI sl)])), (sr, .inl ((cT 0), ns, .inl fs)), (ph, .inr (2, [.ref pr, .int (nI pl)])), (pr, .inl ((cT 0), np, .inl fp2))] t.heap ∧ va_K (dC, dI) vcl (tyL cT) t ∧ va_D (va_A [(g0, .inr (3, [.ref tx, .ref wo, .ref di, .int va, .int vb, .int vc, .int vd])), (tx, .inr (1, [.ref tr, .int (nI len)])), (tr, .inl ((cT 0), 1192, .inl f)), (wo, .inl ((cT 0), 16, .inl fw)), (di, .inl ((cT 0), 16, .inl fd)), (sh, .inr (1, [.ref sr, .int (nI sl)])), (sr, .inl ((cT 0), ns, .inl fs)), (ph, .inr (2, [.ref pr, .int (nI pl)])), (pr, .inl ((cT 0), np, .inl fp))] sz) [(g0, .inr (3, [.ref tx, .ref wo, .ref di, .int a2, .int b2, .int c2, .int d2])), (tx, .inr (1, [.ref tr, .int (nI len2)])), (tr, .inl ((cT 0), 1192, .inl f2)), (wo, .inl ((cT 0), 16, .inl fw2)), (di, .inl ((cT 0), 16, .inl fd2)), (sh, .inr (1, [.ref sr, .int (nI sl)])), (sr, .inl ((cT 0), ns, .inl fs)), (ph, .inr (2, [.ref pr, .int (nI pl)])), (pr, .inl ((cT 0), np, .inl fp2))]) (va_A [(g0, .inr (3, [.ref tx, .ref wo, .ref di, .int va, .int vb, .int vc, .int vd])), (tx, .inr (1, [.ref tr, .int (nI len)])), (tr, .inl ((cT 0), 1192, .inl f)), (wo, .inl ((cT 0), 16, .inl fw)), (di, .inl ((cT 0), 16, .inl fd)), (sh, .inr (1, [.ref sr, .int (nI sl)])), (sr, .inl ((cT 0), ns, .inl fs)), (ph, .inr (2, [.ref pr, .int (nI pl)])), (pr, .inl ((cT 0), np, .inl fp))] sz)) 0 0 (va_A [(g0, .inr (3, [.ref tx, .ref wo, .ref di, .int va, .int vb, .int vc, .int vd])), (tx, .inr (1, [.ref tr, .int (nI len)])), (tr, .inl ((cT 0), 1192, .inl f)), (wo, .inl ((cT 0), 16, .inl fw)), (di, .inl ((cT 0), 16, .inl fd)), (sh, .inr (1, [.ref sr, .int (nI sl)])), (sr, .inl ((cT 0), ns, .inl fs)), (ph, .inr (2, [.ref pr, .int (nI pl)])), (pr, .inl ((cT 0), np, .inl fp))] sz) := by
  refine Met.ofW (cc := b_Dg_cover) (maxL := 8) (ret := (Option.none : Option Jvm.ClassFile.FieldType)) (by decide) rfl ?_
  intro p e s m args below meth c s₁ B hml hv
  obtain ⟨hargs, hsz, hP, hK, hD0, hE⟩ := hv
  have hx := B.exec
  have hb := B.bytes
  have hr := B.returns
  have hts := atoms_spec (ws := (Cond.code y_Dg_cover b_Dg_cover 8 (Option.none : Option Jvm.ClassFile.FieldType) :: BIG)) B.pre
  have hg : ∀ w ∈ BIG, w.before _ s = true := fun w h => hts w (List.mem_cons_of_mem _ h)
  have hown : s.vm.findClass "DoorServer$Digests" = some m.cls := findClass_of_methodNamed B.named
  have hlocks := B.notSynchronized
  subst hsz
  have hD := hD0.self (sz := s.heap.size)
  generalize hAe : va_A [(g0, .inr (3, [.ref tx, .ref wo, .ref di, .int va, .int vb, .int vc, .int vd])), (tx, .inr (1, [.ref tr, .int (nI len)])), (tr, .inl ((cT 0), 1192, .inl f)), (wo, .inl ((cT 0), 16, .inl fw)), (di, .inl ((cT 0), 16, .inl fd)), (sh, .inr (1, [.ref sr, .int (nI sl)])), (sr, .inl ((cT 0), ns, .inl fs)), (ph, .inr (2, [.ref pr, .int (nI pl)])), (pr, .inl ((cT 0), np, .inl fp))] s.heap.size = A at hD hE ⊢
  have hA : ∀ q : Nat, s.heap.size ≤ q → A q := fun q h => by rw [← hAe]; exact Or.inr h
  have hS : va_S A s.heap s.heap [] := va_S.rf
  have hl := lv_entry ([.ref g0, .ref sh, .ref ph, .int (nI at_), .int (nI (nb * 16))]) (n := 8) (Nat.le_of_ble_eq_true rfl)
  refine W.eq (g2 := entryFrame m (List.toArray [.ref g0, .ref sh, .ref ph, .int (nI at_), .int (nI (nb * 16))]) 8) (by rw [hargs]) ?_
  rw [lg_entry_eq]
  generalize (lg_sl ([.ref g0, .ref sh, .ref ph, .int (nI at_), .int (nI (nb * 16))]) ++ List.replicate (8 - (lg_sl ([.ref g0, .ref sh, .ref ph, .int (nI at_), .int (nI (nb * 16))])).length) Slot.unset).toArray = ls at hl ⊢
  have hl : lv_has ls 8 [(0, .ref g0), (1, .ref sh), (2, .ref ph), (3, .int (nI at_)), (4, .int (nI (nb * 16)))] := hl
  change W p l e ({ frames := 4, cells := 0, slots := 0, locals := 137 } : Room) s m args below meth c s.heap [] 0 0 _ _
  have hP : va_P (dC, dI) vcl [(g0, .inr (3, [.ref tx, .ref wo, .ref di, .int va, .int vb, .int vc, .int vd])), (tx, .inr (1, [.ref tr, .int (nI len)])), (tr, .inl ((cT 0), 1192, .inl f)), (wo, .inl ((cT 0), 16, .inl fw)), (di, .inl ((cT 0), 16, .inl fd)), (sh, .inr (1, [.ref sr, .int (nI sl)])), (sr, .inl ((cT 0), ns, .inl fs)), (ph, .inr (2, [.ref pr, .int (nI pl)])), (pr, .inl ((cT 0), np, .inl fp))] s.heap := hP
  refine lv_iconst (v := 0) hx hb d_Dg_cover_0 (by decide) ?_
  refine lv_istore (lv' := [(5, .int 0), (0, .ref g0), (1, .ref sh), (2, .ref ph), (3, .int (nI at_)), (4, .int (nI (nb * 16)))]) hx hb d_Dg_cover_1 hl (by decide) rfl (fun ls hl => ?_)
  have hl := lv_sub hl [0, 1, 2, 3, 4, 5] (show _ = [(5, .int 0), (0, .ref g0), (1, .ref sh), (2, .ref ph), (3, .int (nI at_)), (4, .int (nI (nb * 16)))] from rfl)
  have L1 : ∀ (Q : State → Prop) (exit : ∀ (len : Nat) (f : Nat → Int32) (fw : Nat → Int32) (fd1 : Nat → Int32) (va : Int32) (vb : Int32) (vc : Int32) (vd : Int32) (fp1 : Nat → Int32) (H : Heap) (locs : List Loc) (ls : Array Slot), (AB fd → AB fp → AB fd1 ∧ AB fp1) → va_P (dC, dI) vcl [(g0, .inr (3, [.ref tx, .ref wo, .ref di, .int va, .int vb, .int vc, .int vd])), (tx, .inr (1, [.ref tr, .int (nI len)])), (tr, .inl ((cT 0), 1192, .inl f)), (wo, .inl ((cT 0), 16, .inl fw)), (di, .inl ((cT 0), 16, .inl fd1)), (sh, .inr (1, [.ref sr, .int (nI sl)])), (sr, .inl ((cT 0), ns, .inl fs)), (ph, .inr (2, [.ref pr, .int (nI pl)])), (pr, .inl ((cT 0), np, .inl fp1))] H → va_D A [(g0, .inr (3, [.ref tx, .ref wo, .ref di, .int va, .int vb, .int vc, .int vd])), (tx, .inr (1, [.ref tr, .int (nI len)])), (tr, .inl ((cT 0), 1192, .inl f)), (wo, .inl ((cT 0), 16, .inl fw)), (di, .inl ((cT 0), 16, .inl fd1)), (sh, .inr (1, [.ref sr, .int (nI sl)])), (sr, .inl ((cT 0), ns, .inl fs)), (ph, .inr (2, [.ref pr, .int (nI pl)])), (pr, .inl ((cT 0), np, .inl fp1))] → va_S A s.heap H locs → lv_has ls 8 [(5, .int (nI (nb * 16))), (0, .ref g0), (1, .ref sh), (2, .ref ph), (3, .int (nI at_)), (4, .int (nI (nb * 16)))] → W p l e ({ frames := 4, cells := 0, slots := 0, locals := 137 } : Room) s m args below meth c H locs 0 0 Q (F0 m 63 ls [])) (j8 i : Nat) (len : Nat) (f : Nat → Int32) (fw : Nat → Int32) (fd1 : Nat → Int32) (va : Int32) (vb : Int32) (vc : Int32) (vd : Int32) (fp1 : Nat → Int32) (H : Heap) (locs : List Loc) (ls : Array Slot), i + j8 = nb → (AB fd → AB fp → AB fd1 ∧ AB fp1) → va_P (dC, dI) vcl [(g0, .inr (3, [.ref tx, .ref wo, .ref di, .int va, .int vb, .int vc, .int vd])), (tx, .inr (1, [.ref tr, .int (nI len)])), (tr, .inl ((cT 0), 1192, .inl f)), (wo, .inl ((cT 0), 16, .inl fw)), (di, .inl ((cT 0), 16, .inl fd1)), (sh, .inr (1, [.ref sr, .int (nI sl)])), (sr, .inl ((cT 0), ns, .inl fs)), (ph, .inr (2, [.ref pr, .int (nI pl)])), (pr, .inl ((cT 0), np, .inl fp1))] H → va_D A [(g0, .inr (3, [.ref tx, .ref wo, .ref di, .int va, .int vb, .int vc, .int vd])), (tx, .inr (1, [.ref tr, .int (nI len)])), (tr, .inl ((cT 0), 1192, .inl f)), (wo, .inl ((cT 0), 16, .inl fw)), (di, .inl ((cT 0), 16, .inl fd1)), (sh, .inr (1, [.ref sr, .int (nI sl)])), (sr, .inl ((cT 0), ns, .inl fs)), (ph, .inr (2, [.ref pr, .int (nI pl)])), (pr, .inl ((cT 0), np, .inl fp1))] → va_S A s.heap H locs → lv_has ls 8 [(5, .int (nI (i * 16))), (0, .ref g0), (1, .ref sh), (2, .ref ph), (3, .int (nI at_)), (4, .int (nI (nb * 16)))] → W p l e ({ frames := 4, cells := 0, slots := 0, locals := 137 } : Room) s m args below meth c H locs 0 0 Q (F0 m 3 ls []) := by
    intro Q exit j8
    induction j8 with
    | zero => 
      intro i len f fw fd1 va vb vc vd fp1 H locs ls hij hab hP hD hS hl
      have hij : nb = i := by omega
      refine lv_iload hx hb d_Dg_cover_3 (lv_at hl 0 rfl) ?_
      refine lv_iload hx hb d_Dg_cover_5 (lv_at hl 5 rfl) ?_
      refine lv_icmp_ge (tgt := 63) hx hb d_Dg_cover_7 (by decide) (fun hc2 => ?_) (fun hn9 => absurd (nI_le (by omega) (by omega)) hn9)
      subst hij
      exact exit len f fw fd1 va vb vc vd fp1 _ _ _ hab hP hD hS hl
    | succ j8 ih => 
      intro i len f fw fd1 va vb vc vd fp1 H locs ls hij hab hP hD hS hl
      have hlt : i < nb := by omega
      refine lv_iload hx hb d_Dg_cover_3 (lv_at hl 0 rfl) ?_
      refine lv_iload hx hb d_Dg_cover_5 (lv_at hl 5 rfl) ?_
      refine lv_icmp_ge (tgt := 63) hx hb d_Dg_cover_7 (by decide) (fun hn9 => absurd hn9 (nI_ge (show i * 16 < nb * 16 by omega) (by omega))) (fun hc3 => ?_)
      refine lv_aload_n hx hb d_Dg_cover_10 rfl (lv_at hl 1 rfl) ?_
      refine lv_aload_n hx hb d_Dg_cover_11 rfl (lv_at hl 2 rfl) ?_
      refine lv_aload_n hx hb d_Dg_cover_12 rfl (lv_at hl 3 rfl) ?_
      refine lv_iload_n hx hb d_Dg_cover_13 rfl (lv_at hl 4 rfl) ?_
      refine lv_iload hx hb d_Dg_cover_14 (lv_at hl 0 rfl) ?_
      have hlo := hlt
      have hPc := hP.sub (ws' := [(g0, .inr (3, [.ref tx, .ref wo, .ref di, .int va, .int vb, .int vc, .int vd])), (tx, .inr (1, [.ref tr, .int (nI len)])), (tr, .inl ((cT 0), 1192, .inl f)), (wo, .inl ((cT 0), 16, .inl fw)), (di, .inl ((cT 0), 16, .inl fd1)), (sh, .inr (1, [.ref sr, .int (nI sl)])), (sr, .inl ((cT 0), ns, .inl fs)), (ph, .inr (2, [.ref pr, .int (nI pl)])), (pr, .inl ((cT 0), np, .inl fp1))]) [0, 1, 2, 3, 4, 5, 6, 7, 8] rfl
      have hDc := hD.sub (ws' := [(g0, .inr (3, [.ref tx, .ref wo, .ref di, .int va, .int vb, .int vc, .int vd])), (tx, .inr (1, [.ref tr, .int (nI len)])), (tr, .inl ((cT 0), 1192, .inl f)), (wo, .inl ((cT 0), 16, .inl fw)), (di, .inl ((cT 0), 16, .inl fd1)), (sh, .inr (1, [.ref sr, .int (nI sl)])), (sr, .inl ((cT 0), ns, .inl fs)), (ph, .inr (2, [.ref pr, .int (nI pl)])), (pr, .inl ((cT 0), np, .inl fp1))]) [0, 1, 2, 3, 4, 5, 6, 7, 8] (by decide) rfl
      have hFc := va_free (wc := [(g0, .inr (3, [.ref tx, .ref wo, .ref di, .int va, .int vb, .int vc, .int vd])), (tx, .inr (1, [.ref tr, .int (nI len)])), (tr, .inl ((cT 0), 1192, .inl f)), (wo, .inl ((cT 0), 16, .inl fw)), (di, .inl ((cT 0), 16, .inl fd1)), (sh, .inr (1, [.ref sr, .int (nI sl)])), (sr, .inl ((cT 0), ns, .inl fs)), (ph, .inr (2, [.ref pr, .int (nI pl)])), (pr, .inl ((cT 0), np, .inl fp1))]) hD hS hA [0, 1, 2, 3, 4, 5, 6, 7, 8] rfl
      refine va_callr (va_runV (C := "DoorServer$Digests") (As := [.ref sh, .ref ph, .int (nI at_), .int (nI (i * 16))]) (rest := []) ⟨hx, hb, hml, hown, hg⟩ (c_Dg_mask l dC dI cT H.size g0 tx tr wo di va vb vc vd len f fw fd1 sh sr ns sl fs ph pr np pl fp1 at_ (i * 16) (hsl) (hns) (hpl) (hnp) (by omega) (by omega) (hp) (hs40)) (cwV 4 hg (gI (List.forall_mem_append.mpr ⟨List.forall_mem_cons.mpr ⟨k_563, List.forall_mem_cons.mpr ⟨k_564, List.forall_mem_cons.mpr ⟨k_565, List.forall_mem_cons.mpr ⟨k_5, fun _ h => absurd h List.not_mem_nil⟩⟩⟩⟩, List.forall_mem_cons.mpr ⟨k_566, fun _ h => h⟩⟩)) rfl rfl rfl (by decide +kernel) ⟨Nat.le_of_ble_eq_true rfl, Nat.le_of_ble_eq_true rfl⟩) ⟨fun a U g mk q => by obtain ⟨q0, q1, qP, qK, qD, qE⟩ := q; exact ⟨q0, q1, qP, va_K.moved (u := U) (U := U.calling g mk a) (Vm.Alike.refl U.vm) qK, qD, qE.at (State.WarmedH.refl _) (fun _ _ _ => rfl) (fun _ h => h)⟩, va_recv (q0 := 0) (ci := 3) hK hP rfl rfl, fun U hU hW => ⟨rfl, by rw [hU], by rw [hU]; exact hPc, va_K.moved hW.alike hK, hDc.weaken (fun _ _ _ _ => trivial), by rw [hU]; exact hE.at hW hS.2.1 hFc⟩⟩ rfl rfl hl.1 rfl (lv_room (Nat.le_of_ble_eq_true rfl)) d_Dg_cover_16 ⟨Nat.le_of_ble_eq_true rfl, Nat.le_of_ble_eq_true rfl⟩) hS (fun q _ h => hFc q h) hFc (fun u a9 t H1 locs ht hvm hw hB hz1 hk1 hS => ?_)
      obtain ⟨fw2_4, fd2_5, a2_6, b2_7, c2_8, d2_9, f2_10⟩ := u
      try dsimp only at hw hB
      obtain ⟨rfl, hP1, hK1, hD1⟩ := hB
      rw [ht] at hP1
      obtain ⟨hP, hD⟩ := va_join (wr := []) (w1 := [(g0, .inr (3, [.ref tx, .ref wo, .ref di, .int a2_6, .int b2_7, .int c2_8, .int d2_9])), (tx, .inr (1, [.ref tr, .int (nI (sl + 16))])), (tr, .inl ((cT 0), 1192, .inl f2_10)), (wo, .inl ((cT 0), 16, .inl fw2_4)), (di, .inl ((cT 0), 16, .inl fd2_5)), (sh, .inr (1, [.ref sr, .int (nI sl)])), (sr, .inl ((cT 0), ns, .inl fs)), (ph, .inr (2, [.ref pr, .int (nI pl)])), (pr, .inl ((cT 0), np, .inl fp1))]) hP hD [0, 1, 2, 3, 4, 5, 6, 7, 8] [] rfl rfl (by decide) (by decide) hk1 hFc hP1 hD1
      have hw11 := hw
      clear hPc hDc hFc hz1 hk1 hP1 hK1 hD1
      generalize H1 = H at hP hS ⊢
      have hP : va_P (dC, dI) vcl [(g0, .inr (3, [.ref tx, .ref wo, .ref di, .int a2_6, .int b2_7, .int c2_8, .int d2_9])), (tx, .inr (1, [.ref tr, .int (nI (sl + 16))])), (tr, .inl ((cT 0), 1192, .inl f2_10)), (wo, .inl ((cT 0), 16, .inl fw2_4)), (di, .inl ((cT 0), 16, .inl fd2_5)), (sh, .inr (1, [.ref sr, .int (nI sl)])), (sr, .inl ((cT 0), ns, .inl fs)), (ph, .inr (2, [.ref pr, .int (nI pl)])), (pr, .inl ((cT 0), np, .inl fp1))] H := hP
      have hD : va_D A [(g0, .inr (3, [.ref tx, .ref wo, .ref di, .int a2_6, .int b2_7, .int c2_8, .int d2_9])), (tx, .inr (1, [.ref tr, .int (nI (sl + 16))])), (tr, .inl ((cT 0), 1192, .inl f2_10)), (wo, .inl ((cT 0), 16, .inl fw2_4)), (di, .inl ((cT 0), 16, .inl fd2_5)), (sh, .inr (1, [.ref sr, .int (nI sl)])), (sr, .inl ((cT 0), ns, .inl fs)), (ph, .inr (2, [.ref pr, .int (nI pl)])), (pr, .inl ((cT 0), np, .inl fp1))] := hD
      refine lv_astore (lv' := [(6, .ref di), (5, .int (nI (i * 16))), (0, .ref g0), (1, .ref sh), (2, .ref ph), (3, .int (nI at_)), (4, .int (nI (nb * 16)))]) hx hb d_Dg_cover_19 hl (by decide) rfl (fun ls hl => ?_)
      refine lv_iconst (v := 0) hx hb d_Dg_cover_21 (by decide) ?_
      refine lv_istore (lv' := [(7, .int 0), (6, .ref di), (5, .int (nI (i * 16))), (0, .ref g0), (1, .ref sh), (2, .ref ph), (3, .int (nI at_)), (4, .int (nI (nb * 16)))]) hx hb d_Dg_cover_22 hl (by decide) rfl (fun ls hl => ?_)
      have hl := lv_sub hl [0, 1, 2, 3, 4, 5, 6, 7] (show _ = [(7, .int 0), (6, .ref di), (5, .int (nI (i * 16))), (0, .ref g0), (1, .ref sh), (2, .ref ph), (3, .int (nI at_)), (4, .int (nI (nb * 16)))] from rfl)
      have L12 : ∀ (Q : State → Prop) (exit : ∀ (fp9 : Nat → Int32) (H : Heap) (locs : List Loc) (ls : Array Slot), (AB fd → AB fp → AB fp9) → va_P (dC, dI) vcl [(g0, .inr (3, [.ref tx, .ref wo, .ref di, .int a2_6, .int b2_7, .int c2_8, .int d2_9])), (tx, .inr (1, [.ref tr, .int (nI (sl + 16))])), (tr, .inl ((cT 0), 1192, .inl f2_10)), (wo, .inl ((cT 0), 16, .inl fw2_4)), (di, .inl ((cT 0), 16, .inl fd2_5)), (sh, .inr (1, [.ref sr, .int (nI sl)])), (sr, .inl ((cT 0), ns, .inl fs)), (ph, .inr (2, [.ref pr, .int (nI pl)])), (pr, .inl ((cT 0), np, .inl fp9))] H → va_D A [(g0, .inr (3, [.ref tx, .ref wo, .ref di, .int a2_6, .int b2_7, .int c2_8, .int d2_9])), (tx, .inr (1, [.ref tr, .int (nI (sl + 16))])), (tr, .inl ((cT 0), 1192, .inl f2_10)), (wo, .inl ((cT 0), 16, .inl fw2_4)), (di, .inl ((cT 0), 16, .inl fd2_5)), (sh, .inr (1, [.ref sr, .int (nI sl)])), (sr, .inl ((cT 0), ns, .inl fs)), (ph, .inr (2, [.ref pr, .int (nI pl)])), (pr, .inl ((cT 0), np, .inl fp9))] → va_S A s.heap H locs → lv_has ls 8 [(7, .int (nI 16)), (6, .ref di), (5, .int (nI (i * 16))), (0, .ref g0), (1, .ref sh), (2, .ref ph), (3, .int (nI at_)), (4, .int (nI (nb * 16)))] → W p l e ({ frames := 4, cells := 0, slots := 0, locals := 137 } : Room) s m args below meth c H locs 0 0 Q (F0 m 57 ls [])) (j8 q9 : Nat) (fp9 : Nat → Int32) (H : Heap) (locs : List Loc) (ls : Array Slot), q9 + j8 = 16 → (AB fd → AB fp → AB fp9) → va_P (dC, dI) vcl [(g0, .inr (3, [.ref tx, .ref wo, .ref di, .int a2_6, .int b2_7, .int c2_8, .int d2_9])), (tx, .inr (1, [.ref tr, .int (nI (sl + 16))])), (tr, .inl ((cT 0), 1192, .inl f2_10)), (wo, .inl ((cT 0), 16, .inl fw2_4)), (di, .inl ((cT 0), 16, .inl fd2_5)), (sh, .inr (1, [.ref sr, .int (nI sl)])), (sr, .inl ((cT 0), ns, .inl fs)), (ph, .inr (2, [.ref pr, .int (nI pl)])), (pr, .inl ((cT 0), np, .inl fp9))] H → va_D A [(g0, .inr (3, [.ref tx, .ref wo, .ref di, .int a2_6, .int b2_7, .int c2_8, .int d2_9])), (tx, .inr (1, [.ref tr, .int (nI (sl + 16))])), (tr, .inl ((cT 0), 1192, .inl f2_10)), (wo, .inl ((cT 0), 16, .inl fw2_4)), (di, .inl ((cT 0), 16, .inl fd2_5)), (sh, .inr (1, [.ref sr, .int (nI sl)])), (sr, .inl ((cT 0), ns, .inl fs)), (ph, .inr (2, [.ref pr, .int (nI pl)])), (pr, .inl ((cT 0), np, .inl fp9))] → va_S A s.heap H locs → lv_has ls 8 [(7, .int (nI q9)), (6, .ref di), (5, .int (nI (i * 16))), (0, .ref g0), (1, .ref sh), (2, .ref ph), (3, .int (nI at_)), (4, .int (nI (nb * 16)))] → W p l e ({ frames := 4, cells := 0, slots := 0, locals := 137 } : Room) s m args below meth c H locs 0 0 Q (F0 m 24 ls []) := by
        intro Q exit j8
        induction j8 with
        | zero => 
          intro q9 fp9 H locs ls hij hab9 hP hD hS hl
          have hij : 16 = q9 := by omega
          refine lv_iload hx hb d_Dg_cover_24 (lv_at hl 0 rfl) ?_
          refine lv_bipush (v := 16) hx hb d_Dg_cover_26 (by decide) ?_
          refine lv_topi (fun x14 e13 => ?_)
          obtain rfl : x14 = nI 16 := by rw [e13]; rfl
          refine lv_icmp_ge (tgt := 57) hx hb d_Dg_cover_28 (by decide) (fun hc15 => ?_) (fun hn9 => absurd (nI_le (by omega) (by omega)) hn9)
          subst hij
          exact exit fp9 _ _ _ hab9 hP hD hS hl
        | succ j8 ih => 
          intro q9 fp9 H locs ls hij hab9 hP hD hS hl
          have hlt : q9 < 16 := by omega
          refine lv_iload hx hb d_Dg_cover_24 (lv_at hl 0 rfl) ?_
          refine lv_bipush (v := 16) hx hb d_Dg_cover_26 (by decide) ?_
          refine lv_topi (fun x17 e16 => ?_)
          obtain rfl : x17 = nI 16 := by rw [e16]; rfl
          refine lv_icmp_ge (tgt := 57) hx hb d_Dg_cover_28 (by decide) (fun hn9 => absurd hn9 (nI_ge hlt (by omega))) (fun hc18 => ?_)
          refine lv_aload_n hx hb d_Dg_cover_31 rfl (lv_at hl 5 rfl) ?_
          refine va_get (D := (dC, dI)) (ci := 2) (v := (.ref pr)) (C := R_Pk) (T := F_Pk) (N := 2) hx hb hg in_Pk hown hK hP 7 rfl rfl 0 (by decide) (hg _ k_44) (fun _ h9 => h9) rfl d_Dg_cover_32 ?_
          refine lv_iload_n hx hb d_Dg_cover_35 rfl (lv_at hl 6 rfl) ?_
          refine lv_iload hx hb d_Dg_cover_36 (lv_at hl 2 rfl) ?_
          refine lv_iadd hx hb d_Dg_cover_38 ?_
          refine lv_topi (fun x20 e19 => ?_)
          obtain rfl : x20 = nI (at_ + i * 16) := by rw [e19]; exact nI_add _ _
          refine lv_iload hx hb d_Dg_cover_39 (lv_at hl 0 rfl) ?_
          refine lv_iadd hx hb d_Dg_cover_41 ?_
          refine lv_topi (fun x22 e21 => ?_)
          obtain rfl : x22 = nI (at_ + i * 16 + q9) := by rw [e21]; exact nI_add _ _
          refine lv_dup2_11 hx hb d_Dg_cover_42 rfl rfl ?_
          refine va_iald hx hb hK hP 8 0 rfl rfl (i := (nI (at_ + i * 16 + q9))) (vp_in_nI (by omega) hnp) d_Dg_cover_43 ?_
          refine lv_aload hx hb d_Dg_cover_44 (lv_at hl 1 rfl) ?_
          refine lv_iload hx hb d_Dg_cover_46 (lv_at hl 0 rfl) ?_
          refine va_iald hx hb hK hP 4 0 rfl rfl (i := (nI q9)) (vp_in_nI (by omega) (by decide)) d_Dg_cover_48 ?_
          refine lv_ixor hx hb d_Dg_cover_49 ?_
          refine va_iast hx hb hK hP hD hS 8 0 rfl rfl (i := (nI (at_ + i * 16 + q9))) (vp_in_nI (by omega) hnp) d_Dg_cover_50 (fun H locs hP hD hS => ?_)
          have hP : va_P (dC, dI) vcl [(g0, .inr (3, [.ref tx, .ref wo, .ref di, .int a2_6, .int b2_7, .int c2_8, .int d2_9])), (tx, .inr (1, [.ref tr, .int (nI (sl + 16))])), (tr, .inl ((cT 0), 1192, .inl f2_10)), (wo, .inl ((cT 0), 16, .inl fw2_4)), (di, .inl ((cT 0), 16, .inl fd2_5)), (sh, .inr (1, [.ref sr, .int (nI sl)])), (sr, .inl ((cT 0), ns, .inl fs)), (ph, .inr (2, [.ref pr, .int (nI pl)])), (pr, .inl ((cT 0), np, .inl (upd fp9 (nI (at_ + i * 16 + q9)).toNatClampNeg ((fp9 (nI (at_ + i * 16 + q9)).toNatClampNeg) ^^^ (fd2_5 (nI q9).toNatClampNeg)))))] H := hP
          have hD : va_D A [(g0, .inr (3, [.ref tx, .ref wo, .ref di, .int a2_6, .int b2_7, .int c2_8, .int d2_9])), (tx, .inr (1, [.ref tr, .int (nI (sl + 16))])), (tr, .inl ((cT 0), 1192, .inl f2_10)), (wo, .inl ((cT 0), 16, .inl fw2_4)), (di, .inl ((cT 0), 16, .inl fd2_5)), (sh, .inr (1, [.ref sr, .int (nI sl)])), (sr, .inl ((cT 0), ns, .inl fs)), (ph, .inr (2, [.ref pr, .int (nI pl)])), (pr, .inl ((cT 0), np, .inl (upd fp9 (nI (at_ + i * 16 + q9)).toNatClampNeg ((fp9 (nI (at_ + i * 16 + q9)).toNatClampNeg) ^^^ (fd2_5 (nI q9).toNatClampNeg)))))] := hD
          refine lv_iinc (k := 0) (v := nI (q9 + 1)) (lv' := [(7, .int (nI (q9 + 1))), (6, .ref di), (5, .int (nI (i * 16))), (0, .ref g0), (1, .ref sh), (2, .ref ph), (3, .int (nI at_)), (4, .int (nI (nb * 16)))]) hx hb d_Dg_cover_51 hl rfl (nI_1 q9) (by decide) rfl (fun ls hl => ?_)
          refine lv_goto (tgt := 24) hx hb d_Dg_cover_54 (by decide) ?_
          exact ih (q9 + 1) _ _ _ _ (by omega) (fun h8 h9 => AB_upd (hab9 h8 h9) (BY_xor (hab9 h8 h9 _) (hw11 (hab h8 h9).1 _))) hP hD hS hl
      refine L12 _ (fun fp9 H locs ls hab9 hP hD hS hl => ?_) (16 - 0) 0 fp1 H _ ls (by omega) (fun h8 h9 => (hab h8 h9).2) hP hD hS hl
      refine lv_iinc (k := 2) (v := nI ((i + 1) * 16)) (lv' := [(5, .int (nI ((i + 1) * 16))), (7, .int (nI 16)), (6, .ref di), (0, .ref g0), (1, .ref sh), (2, .ref ph), (3, .int (nI at_)), (4, .int (nI (nb * 16)))]) hx hb d_Dg_cover_57 hl rfl (by rw [Nat.add_mul]; exact nI_add _ 16) (by decide) rfl (fun ls hl => ?_)
      refine lv_goto (tgt := 3) hx hb d_Dg_cover_60 (by decide) ?_
      have hl := lv_sub hl [0, 3, 4, 5, 6, 7] (show _ = [(5, .int (nI ((i + 1) * 16))), (0, .ref g0), (1, .ref sh), (2, .ref ph), (3, .int (nI at_)), (4, .int (nI (nb * 16)))] from rfl)
      exact ih (i + 1) (sl + 16) _ _ fd2_5 _ _ _ _ fp9 _ _ _ (by omega) (fun h8 h9 => ⟨hw11 (hab h8 h9).1, hab9 h8 h9⟩) hP hD hS hl
  refine L1 _ (fun len f fw fd1 va vb vc vd fp1 H locs ls hab hP hD hS hl => ?_) (nb - 0) 0 len f fw fd va vb vc vd fp s.heap _ ls (by omega) (fun h8 h9 => ⟨h8, h9⟩) hP hD hS hl
  have hP9 := hP.sub (ws' := [(g0, .inr (3, [.ref tx, .ref wo, .ref di, .int va, .int vb, .int vc, .int vd])), (tx, .inr (1, [.ref tr, .int (nI len)])), (tr, .inl ((cT 0), 1192, .inl f)), (wo, .inl ((cT 0), 16, .inl fw)), (di, .inl ((cT 0), 16, .inl fd1)), (sh, .inr (1, [.ref sr, .int (nI sl)])), (sr, .inl ((cT 0), ns, .inl fs)), (ph, .inr (2, [.ref pr, .int (nI pl)])), (pr, .inl ((cT 0), np, .inl fp1))]) [0, 1, 2, 3, 4, 5, 6, 7, 8] rfl
  have hD9 := hD.sub (ws' := [(g0, .inr (3, [.ref tx, .ref wo, .ref di, .int va, .int vb, .int vc, .int vd])), (tx, .inr (1, [.ref tr, .int (nI len)])), (tr, .inl ((cT 0), 1192, .inl f)), (wo, .inl ((cT 0), 16, .inl fw)), (di, .inl ((cT 0), 16, .inl fd1)), (sh, .inr (1, [.ref sr, .int (nI sl)])), (sr, .inl ((cT 0), ns, .inl fs)), (ph, .inr (2, [.ref pr, .int (nI pl)])), (pr, .inl ((cT 0), np, .inl fp1))]) [0, 1, 2, 3, 4, 5, 6, 7, 8] (by decide) rfl
  exact W.vret hx hb hr (fun t ht hW => ⟨⟨⟨len, fw, fd1, va, vb, vc, vd, f, fp1⟩, rfl, hab, by rw [ht]; exact hP9, va_K.moved hW.alike hK, hD9⟩, hS.F ht⟩) hS.2.2 d_Dg_cover_63
