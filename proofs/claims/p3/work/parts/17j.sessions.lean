theorem d_Ss_placeOf_0 : decode b_Ss_placeOf 0 = .ok (.iconst 0, 1) := by decide +kernel
theorem d_Ss_placeOf_1 : decode b_Ss_placeOf 1 = .ok (.istore_n 3, 1) := by decide +kernel
theorem d_Ss_placeOf_2 : decode b_Ss_placeOf 2 = .ok (.iload_n 3, 1) := by decide +kernel
theorem d_Ss_placeOf_3 : decode b_Ss_placeOf 3 = .ok (.aload_n 0, 1) := by decide +kernel
theorem d_Ss_placeOf_4 : decode b_Ss_placeOf 4 = .ok (.getfield 22, 3) := by decide +kernel
theorem d_Ss_placeOf_7 : decode b_Ss_placeOf 7 = .ok (.if_icmp .ge 23, 3) := by decide +kernel
theorem d_Ss_placeOf_10 : decode b_Ss_placeOf 10 = .ok (.aload_n 0, 1) := by decide +kernel
theorem d_Ss_placeOf_11 : decode b_Ss_placeOf 11 = .ok (.getfield 13, 3) := by decide +kernel
theorem d_Ss_placeOf_14 : decode b_Ss_placeOf 14 = .ok (.iload_n 3, 1) := by decide +kernel
theorem d_Ss_placeOf_15 : decode b_Ss_placeOf 15 = .ok (.aaload, 1) := by decide +kernel
theorem d_Ss_placeOf_16 : decode b_Ss_placeOf 16 = .ok (.iload_n 1, 1) := by decide +kernel
theorem d_Ss_placeOf_17 : decode b_Ss_placeOf 17 = .ok (.aload_n 2, 1) := by decide +kernel
theorem d_Ss_placeOf_18 : decode b_Ss_placeOf 18 = .ok (.invokevirtual 26, 3) := by decide +kernel
theorem d_Ss_placeOf_21 : decode b_Ss_placeOf 21 = .ok (.ifCond .ge 9, 3) := by decide +kernel
theorem d_Ss_placeOf_24 : decode b_Ss_placeOf 24 = .ok (.iinc 3 1, 3) := by decide +kernel
theorem d_Ss_placeOf_27 : decode b_Ss_placeOf 27 = .ok (.goto (-25), 3) := by decide +kernel
theorem d_Ss_placeOf_30 : decode b_Ss_placeOf 30 = .ok (.iload_n 3, 1) := by decide +kernel
theorem d_Ss_placeOf_31 : decode b_Ss_placeOf 31 = .ok (.ireturn, 1) := by decide +kernel
theorem d_Ss_makeRoom_0 : decode b_Ss_makeRoom 0 = .ok (.aload_n 0, 1) := by decide +kernel
theorem d_Ss_makeRoom_1 : decode b_Ss_makeRoom 1 = .ok (.getfield 13, 3) := by decide +kernel
theorem d_Ss_makeRoom_4 : decode b_Ss_makeRoom 4 = .ok (.aload_n 0, 1) := by decide +kernel
theorem d_Ss_makeRoom_5 : decode b_Ss_makeRoom 5 = .ok (.getfield 22, 3) := by decide +kernel
theorem d_Ss_makeRoom_8 : decode b_Ss_makeRoom 8 = .ok (.aaload, 1) := by decide +kernel
theorem d_Ss_makeRoom_9 : decode b_Ss_makeRoom 9 = .ok (.astore_n 2, 1) := by decide +kernel
theorem d_Ss_makeRoom_10 : decode b_Ss_makeRoom 10 = .ok (.aload_n 0, 1) := by decide +kernel
theorem d_Ss_makeRoom_11 : decode b_Ss_makeRoom 11 = .ok (.getfield 22, 3) := by decide +kernel
theorem d_Ss_makeRoom_14 : decode b_Ss_makeRoom 14 = .ok (.istore_n 3, 1) := by decide +kernel
theorem d_Ss_makeRoom_15 : decode b_Ss_makeRoom 15 = .ok (.iload_n 3, 1) := by decide +kernel
theorem d_Ss_makeRoom_16 : decode b_Ss_makeRoom 16 = .ok (.iload_n 1, 1) := by decide +kernel
theorem d_Ss_makeRoom_17 : decode b_Ss_makeRoom 17 = .ok (.if_icmp .le 23, 3) := by decide +kernel
theorem d_Ss_makeRoom_20 : decode b_Ss_makeRoom 20 = .ok (.aload_n 0, 1) := by decide +kernel
theorem d_Ss_makeRoom_21 : decode b_Ss_makeRoom 21 = .ok (.getfield 13, 3) := by decide +kernel
theorem d_Ss_makeRoom_24 : decode b_Ss_makeRoom 24 = .ok (.iload_n 3, 1) := by decide +kernel
theorem d_Ss_makeRoom_25 : decode b_Ss_makeRoom 25 = .ok (.aload_n 0, 1) := by decide +kernel
theorem d_Ss_makeRoom_26 : decode b_Ss_makeRoom 26 = .ok (.getfield 13, 3) := by decide +kernel
theorem d_Ss_makeRoom_29 : decode b_Ss_makeRoom 29 = .ok (.iload_n 3, 1) := by decide +kernel
theorem d_Ss_makeRoom_30 : decode b_Ss_makeRoom 30 = .ok (.iconst 1, 1) := by decide +kernel
theorem d_Ss_makeRoom_31 : decode b_Ss_makeRoom 31 = .ok (.isub, 1) := by decide +kernel
theorem d_Ss_makeRoom_32 : decode b_Ss_makeRoom 32 = .ok (.aaload, 1) := by decide +kernel
theorem d_Ss_makeRoom_33 : decode b_Ss_makeRoom 33 = .ok (.aastore, 1) := by decide +kernel
theorem d_Ss_makeRoom_34 : decode b_Ss_makeRoom 34 = .ok (.iinc 3 (-1), 3) := by decide +kernel
theorem d_Ss_makeRoom_37 : decode b_Ss_makeRoom 37 = .ok (.goto (-22), 3) := by decide +kernel
theorem d_Ss_makeRoom_40 : decode b_Ss_makeRoom 40 = .ok (.aload_n 0, 1) := by decide +kernel
theorem d_Ss_makeRoom_41 : decode b_Ss_makeRoom 41 = .ok (.getfield 13, 3) := by decide +kernel
theorem d_Ss_makeRoom_44 : decode b_Ss_makeRoom 44 = .ok (.iload_n 1, 1) := by decide +kernel
theorem d_Ss_makeRoom_45 : decode b_Ss_makeRoom 45 = .ok (.aload_n 2, 1) := by decide +kernel
theorem d_Ss_makeRoom_46 : decode b_Ss_makeRoom 46 = .ok (.aastore, 1) := by decide +kernel
theorem d_Ss_makeRoom_47 : decode b_Ss_makeRoom 47 = .ok (.aload_n 0, 1) := by decide +kernel
theorem d_Ss_makeRoom_48 : decode b_Ss_makeRoom 48 = .ok (.dup, 1) := by decide +kernel
theorem d_Ss_makeRoom_49 : decode b_Ss_makeRoom 49 = .ok (.getfield 22, 3) := by decide +kernel
theorem d_Ss_makeRoom_52 : decode b_Ss_makeRoom 52 = .ok (.iconst 1, 1) := by decide +kernel
theorem d_Ss_makeRoom_53 : decode b_Ss_makeRoom 53 = .ok (.iadd, 1) := by decide +kernel
theorem d_Ss_makeRoom_54 : decode b_Ss_makeRoom 54 = .ok (.putfield 22, 3) := by decide +kernel
theorem d_Ss_makeRoom_57 : decode b_Ss_makeRoom 57 = .ok (.return_, 1) := by decide +kernel
set_option maxHeartbeats 4000000 in
set_option maxRecDepth 100000 in
/-- placeOf -/
theorem c_Ss_place (l : Launch) (dC : Nat → ClassId) (dI : Nat → Nat → Nat) (cT : Nat → ClassId) (sz : Nat) (ss : Nat) (sp : Nat) (ks : Nat) (go : Nat → Option Nat) (rq : Nat) (dr : Nat) (rr : Nat) (sa : Nat) (len : Nat) (f : Nat → Int32) (ga : Nat → Int32) (a : Nat) (n : Nat) (L : List Nat) (F : Nat → va_E) (kd : Nat → Nat) (si : Nat → Nat) (ro : Nat → Nat) (rb : Nat → Nat) (x : Int32) (hga : ga 44 = nI a) (ha : 22 ≤ a) (hfa : f (a - 1) = nI (n + 2)) (hal : a + n ≤ len) (hn16 : 1 ≤ n ∧ n ≤ 16) (hlen : len ≤ 1000) (hks : ks ≤ 50) (hg10 : ∀ i9, i9 < 50 → ∃ q9, go i9 = some q9 ∧ q9 ∈ L ∧ kd q9 = 10) (hnd : L.Nodup) (hsh : SHP L kd si ro rb) (hF : PLS cT kd si ro rb L F) : Met l y_Ss_placeOf (Cond.code y_Ss_placeOf b_Ss_placeOf 4 (Option.some Jvm.ClassFile.FieldType.int) :: BIG) ({ frames := 2, cells := 0, slots := 0, locals := 50 }) (va_Pc [.ref ss, .int x, .ref rq] (fun U => U.heap.size = sz ∧ va_P (dC, dI) vcl ([(ss, .inr (11, [.ref sp, .int (nI ks)])), (sp, .inl ((cT 5), 50, .inr (.inr (.inr (.inr go))))), (rq, .inr (4, [.ref dr, .ref sa])), (sa, .inl ((cT 0), 256, .inl ga)), (dr, .inr (2, [.ref rr, .int (nI len)])), (rr, .inl ((cT 0), 1000, .inl f))] ++ va_pl L F) U.heap ∧ va_K (dC, dI) vcl (tyL cT) U ∧ va_D (fun _ => True) ([(ss, .inr (11, [.ref sp, .int (nI ks)])), (sp, .inl ((cT 5), 50, .inr (.inr (.inr (.inr go))))), (rq, .inr (4, [.ref dr, .ref sa])), (sa, .inl ((cT 0), 256, .inl ga)), (dr, .inr (2, [.ref rr, .int (nI len)])), (rr, .inl ((cT 0), 1000, .inl f))] ++ va_pl L F))) (va_Qi (S := Unit) (fun rv9 u => ∃ i : Nat, rv9 = nI i ∧ i ≤ ks) (fun u t => va_P (dC, dI) vcl ([(ss, .inr (11, [.ref sp, .int (nI ks)])), (sp, .inl ((cT 5), 50, .inr (.inr (.inr (.inr go))))), (rq, .inr (4, [.ref dr, .ref sa])), (sa, .inl ((cT 0), 256, .inl ga)), (dr, .inr (2, [.ref rr, .int (nI len)])), (rr, .inl ((cT 0), 1000, .inl f))] ++ va_pl L F) t.heap ∧ va_K (dC, dI) vcl (tyL cT) t ∧ va_D (va_A ([(ss, .inr (11, [.ref sp, .int (nI ks)])), (sp, .inl ((cT 5), 50, .inr (.inr (.inr (.inr go))))), (rq, .inr (4, [.ref dr, .ref sa])), (sa, .inl ((cT 0), 256, .inl ga)), (dr, .inr (2, [.ref rr, .int (nI len)])), (rr, .inl ((cT 0), 1000, .inl f))] ++ va_pl L F) sz) ([(ss, .inr (11, [.ref sp, .int (nI ks)])), (sp, .inl ((cT 5), 50, .inr (.inr (.inr (.inr go))))), (rq, .inr (4, [.ref dr, .ref sa])), (sa, .inl ((cT 0), 256, .inl ga)), (dr, .inr (2, [.ref rr, .int (nI len)])), (rr, .inl ((cT 0), 1000, .inl f))] ++ va_pl L F)) (va_A ([(ss, .inr (11, [.ref sp, .int (nI ks)])), (sp, .inl ((cT 5), 50, .inr (.inr (.inr (.inr go))))), (rq, .inr (4, [.ref dr, .ref sa])), (sa, .inl ((cT 0), 256, .inl ga)), (dr, .inr (2, [.ref rr, .int (nI len)])), (rr, .inl ((cT 0), 1000, .inl f))] ++ va_pl L F) sz)) 0 0 (va_A ([(ss, .inr (11, [.ref sp, .int (nI ks)])), (sp, .inl ((cT 5), 50, .inr (.inr (.inr (.inr go))))), (rq, .inr (4, [.ref dr, .ref sa])), (sa, .inl ((cT 0), 256, .inl ga)), (dr, .inr (2, [.ref rr, .int (nI len)])), (rr, .inl ((cT 0), 1000, .inl f))] ++ va_pl L F) sz) := by
  refine Met.ofW (cc := b_Ss_placeOf) (maxL := 4) (ret := (Option.some Jvm.ClassFile.FieldType.int)) (by decide) rfl ?_
  intro p e s m args below meth c s₁ B hml hv
  obtain ⟨hargs, hsz, hP, hK, hD0⟩ := hv
  have hx := B.exec
  have hb := B.bytes
  have hr := B.returns
  have hts := atoms_spec (ws := (Cond.code y_Ss_placeOf b_Ss_placeOf 4 (Option.some Jvm.ClassFile.FieldType.int) :: BIG)) B.pre
  have hg : ∀ w ∈ BIG, w.before _ s = true := fun w h => hts w (List.mem_cons_of_mem _ h)
  have hown : s.vm.findClass "DoorServer$Sessions" = some m.cls := findClass_of_methodNamed B.named
  have hlocks := B.notSynchronized
  subst hsz
  have hD := hD0.self (sz := s.heap.size)
  generalize hAe : va_A ([(ss, .inr (11, [.ref sp, .int (nI ks)])), (sp, .inl ((cT 5), 50, .inr (.inr (.inr (.inr go))))), (rq, .inr (4, [.ref dr, .ref sa])), (sa, .inl ((cT 0), 256, .inl ga)), (dr, .inr (2, [.ref rr, .int (nI len)])), (rr, .inl ((cT 0), 1000, .inl f))] ++ va_pl L F) s.heap.size = A at hD ⊢
  have hA : ∀ q : Nat, s.heap.size ≤ q → A q := fun q h => by rw [← hAe]; exact Or.inr h
  have hS : va_S A s.heap s.heap [] := va_S.rf
  have hl := lv_entry ([.ref ss, .int x, .ref rq]) (n := 4) (Nat.le_of_ble_eq_true rfl)
  refine W.eq (g2 := entryFrame m (List.toArray [.ref ss, .int x, .ref rq]) 4) (by rw [hargs]) ?_
  rw [lg_entry_eq]
  generalize (lg_sl ([.ref ss, .int x, .ref rq]) ++ List.replicate (4 - (lg_sl ([.ref ss, .int x, .ref rq])).length) Slot.unset).toArray = ls at hl ⊢
  have hl : lv_has ls 4 [(0, .ref ss), (1, .int x), (2, .ref rq)] := hl
  change W p l e ({ frames := 2, cells := 0, slots := 0, locals := 50 } : Room) s m args below meth c s.heap [] 0 0 _ _
  have hP : va_P (dC, dI) vcl ([(ss, .inr (11, [.ref sp, .int (nI ks)])), (sp, .inl ((cT 5), 50, .inr (.inr (.inr (.inr go))))), (rq, .inr (4, [.ref dr, .ref sa])), (sa, .inl ((cT 0), 256, .inl ga)), (dr, .inr (2, [.ref rr, .int (nI len)])), (rr, .inl ((cT 0), 1000, .inl f))] ++ va_pl L F) s.heap := hP
  refine lv_iconst (v := 0) hx hb d_Ss_placeOf_0 (by decide) ?_
  refine lv_istore_n (lv' := [(3, .int 0), (0, .ref ss), (1, .int x), (2, .ref rq)]) hx hb d_Ss_placeOf_1 rfl hl (by decide) rfl (fun ls hl => ?_)
  have hl := lv_sub hl [0, 1, 2, 3] (show _ = [(3, .int 0), (0, .ref ss), (1, .int x), (2, .ref rq)] from rfl)
  have L1 : ∀ (Q : State → Prop) (ex0 : ∀ (i : Nat) (H : Heap) (locs : List Loc) (ls : Array Slot), (i ≤ ks) → va_P (dC, dI) vcl ([(ss, .inr (11, [.ref sp, .int (nI ks)])), (sp, .inl ((cT 5), 50, .inr (.inr (.inr (.inr go))))), (rq, .inr (4, [.ref dr, .ref sa])), (sa, .inl ((cT 0), 256, .inl ga)), (dr, .inr (2, [.ref rr, .int (nI len)])), (rr, .inl ((cT 0), 1000, .inl f))] ++ va_pl L F) H → va_D A ([(ss, .inr (11, [.ref sp, .int (nI ks)])), (sp, .inl ((cT 5), 50, .inr (.inr (.inr (.inr go))))), (rq, .inr (4, [.ref dr, .ref sa])), (sa, .inl ((cT 0), 256, .inl ga)), (dr, .inr (2, [.ref rr, .int (nI len)])), (rr, .inl ((cT 0), 1000, .inl f))] ++ va_pl L F) → va_S A s.heap H locs → lv_has ls 4 [(3, .int (nI i)), (0, .ref ss)] → W p l e ({ frames := 2, cells := 0, slots := 0, locals := 50 } : Room) s m args below meth c H locs 0 0 Q (F0 m 30 ls [])) (jj2 : Nat) (i : Nat) (H : Heap) (locs : List Loc) (ls : Array Slot), ks - i ≤ jj2 → (i ≤ ks) → va_P (dC, dI) vcl ([(ss, .inr (11, [.ref sp, .int (nI ks)])), (sp, .inl ((cT 5), 50, .inr (.inr (.inr (.inr go))))), (rq, .inr (4, [.ref dr, .ref sa])), (sa, .inl ((cT 0), 256, .inl ga)), (dr, .inr (2, [.ref rr, .int (nI len)])), (rr, .inl ((cT 0), 1000, .inl f))] ++ va_pl L F) H → va_D A ([(ss, .inr (11, [.ref sp, .int (nI ks)])), (sp, .inl ((cT 5), 50, .inr (.inr (.inr (.inr go))))), (rq, .inr (4, [.ref dr, .ref sa])), (sa, .inl ((cT 0), 256, .inl ga)), (dr, .inr (2, [.ref rr, .int (nI len)])), (rr, .inl ((cT 0), 1000, .inl f))] ++ va_pl L F) → va_S A s.heap H locs → lv_has ls 4 [(3, .int (nI i)), (0, .ref ss), (1, .int x), (2, .ref rq)] → W p l e ({ frames := 2, cells := 0, slots := 0, locals := 50 } : Room) s m args below meth c H locs 0 0 Q (F0 m 2 ls []) := by
    intro Q ex0 jj2
    induction jj2 with
    | zero => 
      intro i H locs ls hm9 hi hP hD hS hl
      refine lv_iload_n hx hb d_Ss_placeOf_2 rfl (lv_at hl 0 rfl) ?_
      refine lv_aload_n hx hb d_Ss_placeOf_3 rfl (lv_at hl 1 rfl) ?_
      refine va_get (D := (dC, dI)) (ci := 11) (v := (.int (nI ks))) (C := R_Ss) (T := F_Ss) (N := 2) hx hb hg in_Ss hown hK hP 0 rfl rfl 1 (by decide) (hg _ k_296) (fun _ h9 => h9) rfl d_Ss_placeOf_4 ?_
      refine lv_icmp_ge (tgt := 30) hx hb d_Ss_placeOf_7 (by decide) (fun hc3 => ?_) (fun hc3 => ?_)
      · skip
        have hl := lv_sub hl [0, 1] (show _ = [(3, .int (nI i)), (0, .ref ss)] from rfl)
        exact ex0 i _ _ _ (hi) hP hD hS hl
      · skip
        have h1 : i < ks := Nat.not_le.mp (fun h7 => hc3 (nI_le h7 (by omega)))
        obtain ⟨q, hq1, hq2, hq3⟩ := hg10 i (by omega)
        refine lv_aload_n hx hb d_Ss_placeOf_10 rfl (lv_at hl 1 rfl) ?_
        refine va_get (D := (dC, dI)) (ci := 11) (v := (.ref sp)) (C := R_Ss) (T := F_Ss) (N := 2) hx hb hg in_Ss hown hK hP 0 rfl rfl 0 (by decide) (hg _ k_294) (fun _ h9 => h9) rfl d_Ss_placeOf_11 ?_
        refine lv_iload_n hx hb d_Ss_placeOf_14 rfl (lv_at hl 0 rfl) ?_
        refine va_aldq hx hb hK hP 1 5 rfl rfl (i := (nI i)) (vp_in_nI (N := 50) (by omega) (by decide)) d_Ss_placeOf_15 ?_
        rw [show va_rf (go (nI i).toNatClampNeg) = .ref q from by rw [nI_clamp (by omega), hq1]; rfl]
        obtain ⟨x1, x2, x3, x4, x5, y1, y2, hFq⟩ := (hF q hq2).2.2.2.2.1 hq3
        obtain ⟨a1, a2, a3⟩ := (hsh q hq2).2.2.2 hq3
        obtain ⟨c1, c2, -⟩ := (hsh (ro q) a1).1 a2
        obtain ⟨n1, hFb, hn1⟩ := (hF (ro q) a1).2.1 a2
        obtain ⟨f1, hFr, hbr⟩ := (hF (ro (ro q)) c1).1 c2
        have ne1 : ro q ≠ q := kd_ne (kd := kd) (by omega)
        have ne2 : ro (ro q) ≠ q := kd_ne (kd := kd) (by omega)
        have ne3 : ro (ro q) ≠ ro q := kd_ne (kd := kd) (by omega)
        obtain ⟨hP, hD⟩ := pl_out (X := [(ss, .inr (11, [.ref sp, .int (nI ks)])), (sp, .inl ((cT 5), 50, .inr (.inr (.inr (.inr go))))), (rq, .inr (4, [.ref dr, .ref sa])), (sa, .inl ((cT 0), 256, .inl ga)), (dr, .inr (2, [.ref rr, .int (nI len)])), (rr, .inl ((cT 0), 1000, .inl f))]) hP hD (hq2) (hFq)
        have hP : va_P (dC, dI) vcl ([(ss, .inr (11, [.ref sp, .int (nI ks)])), (sp, .inl ((cT 5), 50, .inr (.inr (.inr (.inr go))))), (rq, .inr (4, [.ref dr, .ref sa])), (sa, .inl ((cT 0), 256, .inl ga)), (dr, .inr (2, [.ref rr, .int (nI len)])), (rr, .inl ((cT 0), 1000, .inl f)), (q, .inr (10, [.int x1, .ref (ro q), .int x2, .int x3, .int x4, .int x5, .long y1, .long y2]))] ++ va_pl (L.erase q) F) H := hP
        have hD : va_D A ([(ss, .inr (11, [.ref sp, .int (nI ks)])), (sp, .inl ((cT 5), 50, .inr (.inr (.inr (.inr go))))), (rq, .inr (4, [.ref dr, .ref sa])), (sa, .inl ((cT 0), 256, .inl ga)), (dr, .inr (2, [.ref rr, .int (nI len)])), (rr, .inl ((cT 0), 1000, .inl f)), (q, .inr (10, [.int x1, .ref (ro q), .int x2, .int x3, .int x4, .int x5, .long y1, .long y2]))] ++ va_pl (L.erase q) F) := hD
        obtain ⟨hP, hD⟩ := pl_out (X := [(ss, .inr (11, [.ref sp, .int (nI ks)])), (sp, .inl ((cT 5), 50, .inr (.inr (.inr (.inr go))))), (rq, .inr (4, [.ref dr, .ref sa])), (sa, .inl ((cT 0), 256, .inl ga)), (dr, .inr (2, [.ref rr, .int (nI len)])), (rr, .inl ((cT 0), 1000, .inl f)), (q, .inr (10, [.int x1, .ref (ro q), .int x2, .int x3, .int x4, .int x5, .long y1, .long y2]))]) hP hD ((List.mem_erase_of_ne ne1).mpr a1) (hFb)
        have hP : va_P (dC, dI) vcl ([(ss, .inr (11, [.ref sp, .int (nI ks)])), (sp, .inl ((cT 5), 50, .inr (.inr (.inr (.inr go))))), (rq, .inr (4, [.ref dr, .ref sa])), (sa, .inl ((cT 0), 256, .inl ga)), (dr, .inr (2, [.ref rr, .int (nI len)])), (rr, .inl ((cT 0), 1000, .inl f)), (q, .inr (10, [.int x1, .ref (ro q), .int x2, .int x3, .int x4, .int x5, .long y1, .long y2])), (ro q, .inr (1, [.ref (ro (ro q)), .int (nI n1)]))] ++ va_pl ((L.erase q).erase (ro q)) F) H := hP
        have hD : va_D A ([(ss, .inr (11, [.ref sp, .int (nI ks)])), (sp, .inl ((cT 5), 50, .inr (.inr (.inr (.inr go))))), (rq, .inr (4, [.ref dr, .ref sa])), (sa, .inl ((cT 0), 256, .inl ga)), (dr, .inr (2, [.ref rr, .int (nI len)])), (rr, .inl ((cT 0), 1000, .inl f)), (q, .inr (10, [.int x1, .ref (ro q), .int x2, .int x3, .int x4, .int x5, .long y1, .long y2])), (ro q, .inr (1, [.ref (ro (ro q)), .int (nI n1)]))] ++ va_pl ((L.erase q).erase (ro q)) F) := hD
        obtain ⟨hP, hD⟩ := pl_out (X := [(ss, .inr (11, [.ref sp, .int (nI ks)])), (sp, .inl ((cT 5), 50, .inr (.inr (.inr (.inr go))))), (rq, .inr (4, [.ref dr, .ref sa])), (sa, .inl ((cT 0), 256, .inl ga)), (dr, .inr (2, [.ref rr, .int (nI len)])), (rr, .inl ((cT 0), 1000, .inl f)), (q, .inr (10, [.int x1, .ref (ro q), .int x2, .int x3, .int x4, .int x5, .long y1, .long y2])), (ro q, .inr (1, [.ref (ro (ro q)), .int (nI n1)]))]) hP hD ((List.mem_erase_of_ne ne3).mpr ((List.mem_erase_of_ne ne2).mpr c1)) (hFr)
        have hP : va_P (dC, dI) vcl ([(ss, .inr (11, [.ref sp, .int (nI ks)])), (sp, .inl ((cT 5), 50, .inr (.inr (.inr (.inr go))))), (rq, .inr (4, [.ref dr, .ref sa])), (sa, .inl ((cT 0), 256, .inl ga)), (dr, .inr (2, [.ref rr, .int (nI len)])), (rr, .inl ((cT 0), 1000, .inl f)), (q, .inr (10, [.int x1, .ref (ro q), .int x2, .int x3, .int x4, .int x5, .long y1, .long y2])), (ro q, .inr (1, [.ref (ro (ro q)), .int (nI n1)])), (ro (ro q), .inl ((cT 0), si (ro (ro q)), .inl f1))] ++ va_pl (((L.erase q).erase (ro q)).erase (ro (ro q))) F) H := hP
        have hD : va_D A ([(ss, .inr (11, [.ref sp, .int (nI ks)])), (sp, .inl ((cT 5), 50, .inr (.inr (.inr (.inr go))))), (rq, .inr (4, [.ref dr, .ref sa])), (sa, .inl ((cT 0), 256, .inl ga)), (dr, .inr (2, [.ref rr, .int (nI len)])), (rr, .inl ((cT 0), 1000, .inl f)), (q, .inr (10, [.int x1, .ref (ro q), .int x2, .int x3, .int x4, .int x5, .long y1, .long y2])), (ro q, .inr (1, [.ref (ro (ro q)), .int (nI n1)])), (ro (ro q), .inl ((cT 0), si (ro (ro q)), .inl f1))] ++ va_pl (((L.erase q).erase (ro q)).erase (ro (ro q))) F) := hD
        refine lv_iload_n hx hb d_Ss_placeOf_16 rfl (lv_at hl 2 rfl) ?_
        refine lv_aload_n hx hb d_Ss_placeOf_17 rfl (lv_at hl 3 rfl) ?_
        have hPc := hP.sub (ws' := [(q, .inr (10, [.int x1, .ref (ro q), .int x2, .int x3, .int x4, .int x5, .long y1, .long y2])), (ro q, .inr (1, [.ref (ro (ro q)), .int (nI n1)])), (ro (ro q), .inl ((cT 0), (si (ro (ro q))), .inl f1)), (rq, .inr (4, [.ref dr, .ref sa])), (sa, .inl ((cT 0), 256, .inl ga)), (dr, .inr (2, [.ref rr, .int (nI len)])), (rr, .inl ((cT 0), 1000, .inl f))]) [6, 7, 8, 2, 3, 4, 5] rfl
        have hDc := hD.sub (ws' := [(q, .inr (10, [.int x1, .ref (ro q), .int x2, .int x3, .int x4, .int x5, .long y1, .long y2])), (ro q, .inr (1, [.ref (ro (ro q)), .int (nI n1)])), (ro (ro q), .inl ((cT 0), (si (ro (ro q))), .inl f1)), (rq, .inr (4, [.ref dr, .ref sa])), (sa, .inl ((cT 0), 256, .inl ga)), (dr, .inr (2, [.ref rr, .int (nI len)])), (rr, .inl ((cT 0), 1000, .inl f))]) [6, 7, 8, 2, 3, 4, 5] (by decide) rfl
        have hFc := va_free (wc := [(q, .inr (10, [.int x1, .ref (ro q), .int x2, .int x3, .int x4, .int x5, .long y1, .long y2])), (ro q, .inr (1, [.ref (ro (ro q)), .int (nI n1)])), (ro (ro q), .inl ((cT 0), (si (ro (ro q))), .inl f1)), (rq, .inr (4, [.ref dr, .ref sa])), (sa, .inl ((cT 0), 256, .inl ga)), (dr, .inr (2, [.ref rr, .int (nI len)])), (rr, .inl ((cT 0), 1000, .inl f))]) hD hS hA [6, 7, 8, 2, 3, 4, 5] rfl
        refine va_calli (va_runV (C := "DoorServer$Session") (As := [.int x, .ref rq]) (rest := []) ⟨hx, hb, hml, hown, hg⟩ (c_Se_compare l dC dI cT H.size q (ro q) (ro (ro q)) (si (ro (ro q))) n1 f1 x1 x2 x3 x4 x5 y1 y2 rq dr rr sa len f ga a n x (hga) (ha) (hfa) (hal) (hn16) (hlen) (hn1) (a3)) (cwV 2 hg (gI (List.forall_mem_append.mpr ⟨List.forall_mem_cons.mpr ⟨k_778, List.forall_mem_cons.mpr ⟨k_779, List.forall_mem_cons.mpr ⟨k_780, List.forall_mem_cons.mpr ⟨k_11, fun _ h => absurd h List.not_mem_nil⟩⟩⟩⟩, List.forall_mem_cons.mpr ⟨k_781, fun _ h => h⟩⟩)) rfl rfl rfl (by decide +kernel) ⟨Nat.le_of_ble_eq_true rfl, Nat.le_of_ble_eq_true rfl⟩) ⟨fun a U g mk q => by obtain ⟨q0, q1, qP, qK, qD⟩ := q; exact ⟨q0, q1, qP, va_K.moved (u := U) (U := U.calling g mk a) (Vm.Alike.refl U.vm) qK, qD⟩, va_recv (q0 := 6) (ci := 10) hK hP rfl rfl, fun U hU hW => ⟨rfl, by rw [hU], by rw [hU]; exact hPc, va_K.moved hW.alike hK, hDc.weaken (fun _ _ _ _ => trivial)⟩⟩ rfl rfl hl.1 rfl (lv_room (Nat.le_of_ble_eq_true rfl)) d_Ss_placeOf_18 ⟨Nat.le_of_ble_eq_true rfl, Nat.le_of_ble_eq_true rfl⟩) hS (fun q _ h => hFc q h) hFc (fun rv9 u t H1 locs ht hvm hw hB hz1 hk1 hS => ?_)
        try dsimp only at hw hB
        obtain ⟨hP1, hK1, hD1⟩ := hB
        rw [ht] at hP1
        generalize rv9 = r4 at hw ⊢
        obtain ⟨hP, hD⟩ := va_joinQ (X := [(ss, .inr (11, [.ref sp, .int (nI ks)])), (sp, .inl ((cT 5), 50, .inr (.inr (.inr (.inr go))))), (rq, .inr (4, [.ref dr, .ref sa])), (sa, .inl ((cT 0), 256, .inl ga)), (dr, .inr (2, [.ref rr, .int (nI len)])), (rr, .inl ((cT 0), 1000, .inl f)), (q, .inr (10, [.int x1, .ref (ro q), .int x2, .int x3, .int x4, .int x5, .long y1, .long y2])), (ro q, .inr (1, [.ref (ro (ro q)), .int (nI n1)])), (ro (ro q), .inl ((cT 0), si (ro (ro q)), .inl f1))]) (cx := [(q, .inr (10, [.int x1, .ref (ro q), .int x2, .int x3, .int x4, .int x5, .long y1, .long y2])), (ro q, .inr (1, [.ref (ro (ro q)), .int (nI n1)])), (ro (ro q), .inl ((cT 0), (si (ro (ro q))), .inl f1)), (rq, .inr (4, [.ref dr, .ref sa])), (sa, .inl ((cT 0), 256, .inl ga)), (dr, .inr (2, [.ref rr, .int (nI len)])), (rr, .inl ((cT 0), 1000, .inl f))]) (wr := [(ss, .inr (11, [.ref sp, .int (nI ks)])), (sp, .inl ((cT 5), 50, .inr (.inr (.inr (.inr go)))))]) (w1 := [(q, .inr (10, [.int x1, .ref (ro q), .int x2, .int x3, .int x4, .int x5, .long y1, .long y2])), (ro q, .inr (1, [.ref (ro (ro q)), .int (nI n1)])), (ro (ro q), .inl ((cT 0), (si (ro (ro q))), .inl f1)), (rq, .inr (4, [.ref dr, .ref sa])), (sa, .inl ((cT 0), 256, .inl ga)), (dr, .inr (2, [.ref rr, .int (nI len)])), (rr, .inl ((cT 0), 1000, .inl f))]) hP hD [6, 7, 8, 2, 3, 4, 5] [0, 1] rfl rfl (by decide) (by decide) hk1 hFc hP1 hD1
        have hw5 := hw
        clear hPc hDc hFc hz1 hk1 hP1 hK1 hD1
        generalize H1 = H at hP hS ⊢
        have hP : va_P (dC, dI) vcl ([(ss, .inr (11, [.ref sp, .int (nI ks)])), (sp, .inl ((cT 5), 50, .inr (.inr (.inr (.inr go))))), (q, .inr (10, [.int x1, .ref (ro q), .int x2, .int x3, .int x4, .int x5, .long y1, .long y2])), (ro q, .inr (1, [.ref (ro (ro q)), .int (nI n1)])), (ro (ro q), .inl ((cT 0), (si (ro (ro q))), .inl f1)), (rq, .inr (4, [.ref dr, .ref sa])), (sa, .inl ((cT 0), 256, .inl ga)), (dr, .inr (2, [.ref rr, .int (nI len)])), (rr, .inl ((cT 0), 1000, .inl f))] ++ va_pl (((L.erase q).erase (ro q)).erase (ro (ro q))) F) H := hP
        have hD : va_D A ([(ss, .inr (11, [.ref sp, .int (nI ks)])), (sp, .inl ((cT 5), 50, .inr (.inr (.inr (.inr go))))), (q, .inr (10, [.int x1, .ref (ro q), .int x2, .int x3, .int x4, .int x5, .long y1, .long y2])), (ro q, .inr (1, [.ref (ro (ro q)), .int (nI n1)])), (ro (ro q), .inl ((cT 0), (si (ro (ro q))), .inl f1)), (rq, .inr (4, [.ref dr, .ref sa])), (sa, .inl ((cT 0), 256, .inl ga)), (dr, .inr (2, [.ref rr, .int (nI len)])), (rr, .inl ((cT 0), 1000, .inl f))] ++ va_pl (((L.erase q).erase (ro q)).erase (ro (ro q))) F) := hD
        have hP := hP.part (cx := [(ss, .inr (11, [.ref sp, .int (nI ks)])), (sp, .inl ((cT 5), 50, .inr (.inr (.inr (.inr go))))), (q, .inr (10, [.int x1, .ref (ro q), .int x2, .int x3, .int x4, .int x5, .long y1, .long y2])), (ro q, .inr (1, [.ref (ro (ro q)), .int (nI n1)])), (rq, .inr (4, [.ref dr, .ref sa])), (sa, .inl ((cT 0), 256, .inl ga)), (dr, .inr (2, [.ref rr, .int (nI len)])), (rr, .inl ((cT 0), 1000, .inl f)), (ro (ro q), .inl ((cT 0), (si (ro (ro q))), .inl f1))]) [0, 1, 2, 3, 5, 6, 7, 8, 4] rfl
        have hD := hD.part (cx := [(ss, .inr (11, [.ref sp, .int (nI ks)])), (sp, .inl ((cT 5), 50, .inr (.inr (.inr (.inr go))))), (q, .inr (10, [.int x1, .ref (ro q), .int x2, .int x3, .int x4, .int x5, .long y1, .long y2])), (ro q, .inr (1, [.ref (ro (ro q)), .int (nI n1)])), (rq, .inr (4, [.ref dr, .ref sa])), (sa, .inl ((cT 0), 256, .inl ga)), (dr, .inr (2, [.ref rr, .int (nI len)])), (rr, .inl ((cT 0), 1000, .inl f)), (ro (ro q), .inl ((cT 0), (si (ro (ro q))), .inl f1))]) [0, 1, 2, 3, 5, 6, 7, 8, 4] (by decide) rfl
        obtain ⟨hP, hD⟩ := pl_in (X := [(ss, .inr (11, [.ref sp, .int (nI ks)])), (sp, .inl ((cT 5), 50, .inr (.inr (.inr (.inr go))))), (q, .inr (10, [.int x1, .ref (ro q), .int x2, .int x3, .int x4, .int x5, .long y1, .long y2])), (ro q, .inr (1, [.ref (ro (ro q)), .int (nI n1)])), (rq, .inr (4, [.ref dr, .ref sa])), (sa, .inl ((cT 0), 256, .inl ga)), (dr, .inr (2, [.ref rr, .int (nI len)])), (rr, .inl ((cT 0), 1000, .inl f))]) hP hD ((List.mem_erase_of_ne ne3).mpr ((List.mem_erase_of_ne ne2).mpr c1)) ((hnd.erase q).erase (ro q))
        have hP : va_P (dC, dI) vcl ([(ss, .inr (11, [.ref sp, .int (nI ks)])), (sp, .inl ((cT 5), 50, .inr (.inr (.inr (.inr go))))), (q, .inr (10, [.int x1, .ref (ro q), .int x2, .int x3, .int x4, .int x5, .long y1, .long y2])), (ro q, .inr (1, [.ref (ro (ro q)), .int (nI n1)])), (rq, .inr (4, [.ref dr, .ref sa])), (sa, .inl ((cT 0), 256, .inl ga)), (dr, .inr (2, [.ref rr, .int (nI len)])), (rr, .inl ((cT 0), 1000, .inl f))] ++ va_pl ((L.erase q).erase (ro q)) (va_up F (ro (ro q)) (.inl ((cT 0), (si (ro (ro q))), .inl f1)))) H := hP
        have hD : va_D A ([(ss, .inr (11, [.ref sp, .int (nI ks)])), (sp, .inl ((cT 5), 50, .inr (.inr (.inr (.inr go))))), (q, .inr (10, [.int x1, .ref (ro q), .int x2, .int x3, .int x4, .int x5, .long y1, .long y2])), (ro q, .inr (1, [.ref (ro (ro q)), .int (nI n1)])), (rq, .inr (4, [.ref dr, .ref sa])), (sa, .inl ((cT 0), 256, .inl ga)), (dr, .inr (2, [.ref rr, .int (nI len)])), (rr, .inl ((cT 0), 1000, .inl f))] ++ va_pl ((L.erase q).erase (ro q)) (va_up F (ro (ro q)) (.inl ((cT 0), (si (ro (ro q))), .inl f1)))) := hD
        rw [up_id hFr] at hP hD
        have hP : va_P (dC, dI) vcl ([(ss, .inr (11, [.ref sp, .int (nI ks)])), (sp, .inl ((cT 5), 50, .inr (.inr (.inr (.inr go))))), (q, .inr (10, [.int x1, .ref (ro q), .int x2, .int x3, .int x4, .int x5, .long y1, .long y2])), (ro q, .inr (1, [.ref (ro (ro q)), .int (nI n1)])), (rq, .inr (4, [.ref dr, .ref sa])), (sa, .inl ((cT 0), 256, .inl ga)), (dr, .inr (2, [.ref rr, .int (nI len)])), (rr, .inl ((cT 0), 1000, .inl f))] ++ va_pl ((L.erase q).erase (ro q)) F) H := hP
        have hD : va_D A ([(ss, .inr (11, [.ref sp, .int (nI ks)])), (sp, .inl ((cT 5), 50, .inr (.inr (.inr (.inr go))))), (q, .inr (10, [.int x1, .ref (ro q), .int x2, .int x3, .int x4, .int x5, .long y1, .long y2])), (ro q, .inr (1, [.ref (ro (ro q)), .int (nI n1)])), (rq, .inr (4, [.ref dr, .ref sa])), (sa, .inl ((cT 0), 256, .inl ga)), (dr, .inr (2, [.ref rr, .int (nI len)])), (rr, .inl ((cT 0), 1000, .inl f))] ++ va_pl ((L.erase q).erase (ro q)) F) := hD
        have hP := hP.part (cx := [(ss, .inr (11, [.ref sp, .int (nI ks)])), (sp, .inl ((cT 5), 50, .inr (.inr (.inr (.inr go))))), (q, .inr (10, [.int x1, .ref (ro q), .int x2, .int x3, .int x4, .int x5, .long y1, .long y2])), (rq, .inr (4, [.ref dr, .ref sa])), (sa, .inl ((cT 0), 256, .inl ga)), (dr, .inr (2, [.ref rr, .int (nI len)])), (rr, .inl ((cT 0), 1000, .inl f)), (ro q, .inr (1, [.ref (ro (ro q)), .int (nI n1)]))]) [0, 1, 2, 4, 5, 6, 7, 3] rfl
        have hD := hD.part (cx := [(ss, .inr (11, [.ref sp, .int (nI ks)])), (sp, .inl ((cT 5), 50, .inr (.inr (.inr (.inr go))))), (q, .inr (10, [.int x1, .ref (ro q), .int x2, .int x3, .int x4, .int x5, .long y1, .long y2])), (rq, .inr (4, [.ref dr, .ref sa])), (sa, .inl ((cT 0), 256, .inl ga)), (dr, .inr (2, [.ref rr, .int (nI len)])), (rr, .inl ((cT 0), 1000, .inl f)), (ro q, .inr (1, [.ref (ro (ro q)), .int (nI n1)]))]) [0, 1, 2, 4, 5, 6, 7, 3] (by decide) rfl
        obtain ⟨hP, hD⟩ := pl_in (X := [(ss, .inr (11, [.ref sp, .int (nI ks)])), (sp, .inl ((cT 5), 50, .inr (.inr (.inr (.inr go))))), (q, .inr (10, [.int x1, .ref (ro q), .int x2, .int x3, .int x4, .int x5, .long y1, .long y2])), (rq, .inr (4, [.ref dr, .ref sa])), (sa, .inl ((cT 0), 256, .inl ga)), (dr, .inr (2, [.ref rr, .int (nI len)])), (rr, .inl ((cT 0), 1000, .inl f))]) hP hD ((List.mem_erase_of_ne ne1).mpr a1) (hnd.erase q)
        have hP : va_P (dC, dI) vcl ([(ss, .inr (11, [.ref sp, .int (nI ks)])), (sp, .inl ((cT 5), 50, .inr (.inr (.inr (.inr go))))), (q, .inr (10, [.int x1, .ref (ro q), .int x2, .int x3, .int x4, .int x5, .long y1, .long y2])), (rq, .inr (4, [.ref dr, .ref sa])), (sa, .inl ((cT 0), 256, .inl ga)), (dr, .inr (2, [.ref rr, .int (nI len)])), (rr, .inl ((cT 0), 1000, .inl f))] ++ va_pl (L.erase q) (va_up F (ro q) (.inr (1, [.ref (ro (ro q)), .int (nI n1)])))) H := hP
        have hD : va_D A ([(ss, .inr (11, [.ref sp, .int (nI ks)])), (sp, .inl ((cT 5), 50, .inr (.inr (.inr (.inr go))))), (q, .inr (10, [.int x1, .ref (ro q), .int x2, .int x3, .int x4, .int x5, .long y1, .long y2])), (rq, .inr (4, [.ref dr, .ref sa])), (sa, .inl ((cT 0), 256, .inl ga)), (dr, .inr (2, [.ref rr, .int (nI len)])), (rr, .inl ((cT 0), 1000, .inl f))] ++ va_pl (L.erase q) (va_up F (ro q) (.inr (1, [.ref (ro (ro q)), .int (nI n1)])))) := hD
        rw [up_id hFb] at hP hD
        have hP : va_P (dC, dI) vcl ([(ss, .inr (11, [.ref sp, .int (nI ks)])), (sp, .inl ((cT 5), 50, .inr (.inr (.inr (.inr go))))), (q, .inr (10, [.int x1, .ref (ro q), .int x2, .int x3, .int x4, .int x5, .long y1, .long y2])), (rq, .inr (4, [.ref dr, .ref sa])), (sa, .inl ((cT 0), 256, .inl ga)), (dr, .inr (2, [.ref rr, .int (nI len)])), (rr, .inl ((cT 0), 1000, .inl f))] ++ va_pl (L.erase q) F) H := hP
        have hD : va_D A ([(ss, .inr (11, [.ref sp, .int (nI ks)])), (sp, .inl ((cT 5), 50, .inr (.inr (.inr (.inr go))))), (q, .inr (10, [.int x1, .ref (ro q), .int x2, .int x3, .int x4, .int x5, .long y1, .long y2])), (rq, .inr (4, [.ref dr, .ref sa])), (sa, .inl ((cT 0), 256, .inl ga)), (dr, .inr (2, [.ref rr, .int (nI len)])), (rr, .inl ((cT 0), 1000, .inl f))] ++ va_pl (L.erase q) F) := hD
        have hP := hP.part (cx := [(ss, .inr (11, [.ref sp, .int (nI ks)])), (sp, .inl ((cT 5), 50, .inr (.inr (.inr (.inr go))))), (rq, .inr (4, [.ref dr, .ref sa])), (sa, .inl ((cT 0), 256, .inl ga)), (dr, .inr (2, [.ref rr, .int (nI len)])), (rr, .inl ((cT 0), 1000, .inl f)), (q, .inr (10, [.int x1, .ref (ro q), .int x2, .int x3, .int x4, .int x5, .long y1, .long y2]))]) [0, 1, 3, 4, 5, 6, 2] rfl
        have hD := hD.part (cx := [(ss, .inr (11, [.ref sp, .int (nI ks)])), (sp, .inl ((cT 5), 50, .inr (.inr (.inr (.inr go))))), (rq, .inr (4, [.ref dr, .ref sa])), (sa, .inl ((cT 0), 256, .inl ga)), (dr, .inr (2, [.ref rr, .int (nI len)])), (rr, .inl ((cT 0), 1000, .inl f)), (q, .inr (10, [.int x1, .ref (ro q), .int x2, .int x3, .int x4, .int x5, .long y1, .long y2]))]) [0, 1, 3, 4, 5, 6, 2] (by decide) rfl
        obtain ⟨hP, hD⟩ := pl_in (X := [(ss, .inr (11, [.ref sp, .int (nI ks)])), (sp, .inl ((cT 5), 50, .inr (.inr (.inr (.inr go))))), (rq, .inr (4, [.ref dr, .ref sa])), (sa, .inl ((cT 0), 256, .inl ga)), (dr, .inr (2, [.ref rr, .int (nI len)])), (rr, .inl ((cT 0), 1000, .inl f))]) hP hD (hq2) (hnd)
        have hP : va_P (dC, dI) vcl ([(ss, .inr (11, [.ref sp, .int (nI ks)])), (sp, .inl ((cT 5), 50, .inr (.inr (.inr (.inr go))))), (rq, .inr (4, [.ref dr, .ref sa])), (sa, .inl ((cT 0), 256, .inl ga)), (dr, .inr (2, [.ref rr, .int (nI len)])), (rr, .inl ((cT 0), 1000, .inl f))] ++ va_pl L (va_up F q (.inr (10, [.int x1, .ref (ro q), .int x2, .int x3, .int x4, .int x5, .long y1, .long y2])))) H := hP
        have hD : va_D A ([(ss, .inr (11, [.ref sp, .int (nI ks)])), (sp, .inl ((cT 5), 50, .inr (.inr (.inr (.inr go))))), (rq, .inr (4, [.ref dr, .ref sa])), (sa, .inl ((cT 0), 256, .inl ga)), (dr, .inr (2, [.ref rr, .int (nI len)])), (rr, .inl ((cT 0), 1000, .inl f))] ++ va_pl L (va_up F q (.inr (10, [.int x1, .ref (ro q), .int x2, .int x3, .int x4, .int x5, .long y1, .long y2])))) := hD
        rw [up_id hFq] at hP hD
        have hP : va_P (dC, dI) vcl ([(ss, .inr (11, [.ref sp, .int (nI ks)])), (sp, .inl ((cT 5), 50, .inr (.inr (.inr (.inr go))))), (rq, .inr (4, [.ref dr, .ref sa])), (sa, .inl ((cT 0), 256, .inl ga)), (dr, .inr (2, [.ref rr, .int (nI len)])), (rr, .inl ((cT 0), 1000, .inl f))] ++ va_pl L F) H := hP
        have hD : va_D A ([(ss, .inr (11, [.ref sp, .int (nI ks)])), (sp, .inl ((cT 5), 50, .inr (.inr (.inr (.inr go))))), (rq, .inr (4, [.ref dr, .ref sa])), (sa, .inl ((cT 0), 256, .inl ga)), (dr, .inr (2, [.ref rr, .int (nI len)])), (rr, .inl ((cT 0), 1000, .inl f))] ++ va_pl L F) := hD
        refine lv_if_ge (tgt := 30) hx hb d_Ss_placeOf_21 (by decide) (fun hc6 => ?_) (fun hc6 => ?_)
        · skip
          have hl := lv_sub hl [0, 1] (show _ = [(3, .int (nI i)), (0, .ref ss)] from rfl)
          exact ex0 i _ _ _ (hi) hP hD hS hl
        · skip
          refine lv_iinc (k := 0) (v := nI (i + 1)) (lv' := [(3, .int (nI (i + 1))), (0, .ref ss), (1, .int x), (2, .ref rq)]) hx hb d_Ss_placeOf_24 hl rfl (nI_1 i) (by decide) rfl (fun ls hl => ?_)
          refine lv_goto (tgt := 2) hx hb d_Ss_placeOf_27 (by decide) ?_
          exfalso; omega
    | succ jj2 ih => 
      intro i H locs ls hm9 hi hP hD hS hl
      refine lv_iload_n hx hb d_Ss_placeOf_2 rfl (lv_at hl 0 rfl) ?_
      refine lv_aload_n hx hb d_Ss_placeOf_3 rfl (lv_at hl 1 rfl) ?_
      refine va_get (D := (dC, dI)) (ci := 11) (v := (.int (nI ks))) (C := R_Ss) (T := F_Ss) (N := 2) hx hb hg in_Ss hown hK hP 0 rfl rfl 1 (by decide) (hg _ k_296) (fun _ h9 => h9) rfl d_Ss_placeOf_4 ?_
      refine lv_icmp_ge (tgt := 30) hx hb d_Ss_placeOf_7 (by decide) (fun hc7 => ?_) (fun hc7 => ?_)
      · skip
        have hl := lv_sub hl [0, 1] (show _ = [(3, .int (nI i)), (0, .ref ss)] from rfl)
        exact ex0 i _ _ _ (hi) hP hD hS hl
      · skip
        have h1 : i < ks := Nat.not_le.mp (fun h7 => hc7 (nI_le h7 (by omega)))
        obtain ⟨q, hq1, hq2, hq3⟩ := hg10 i (by omega)
        refine lv_aload_n hx hb d_Ss_placeOf_10 rfl (lv_at hl 1 rfl) ?_
        refine va_get (D := (dC, dI)) (ci := 11) (v := (.ref sp)) (C := R_Ss) (T := F_Ss) (N := 2) hx hb hg in_Ss hown hK hP 0 rfl rfl 0 (by decide) (hg _ k_294) (fun _ h9 => h9) rfl d_Ss_placeOf_11 ?_
        refine lv_iload_n hx hb d_Ss_placeOf_14 rfl (lv_at hl 0 rfl) ?_
        refine va_aldq hx hb hK hP 1 5 rfl rfl (i := (nI i)) (vp_in_nI (N := 50) (by omega) (by decide)) d_Ss_placeOf_15 ?_
        rw [show va_rf (go (nI i).toNatClampNeg) = .ref q from by rw [nI_clamp (by omega), hq1]; rfl]
        obtain ⟨x1, x2, x3, x4, x5, y1, y2, hFq⟩ := (hF q hq2).2.2.2.2.1 hq3
        obtain ⟨a1, a2, a3⟩ := (hsh q hq2).2.2.2 hq3
        obtain ⟨c1, c2, -⟩ := (hsh (ro q) a1).1 a2
        obtain ⟨n1, hFb, hn1⟩ := (hF (ro q) a1).2.1 a2
        obtain ⟨f1, hFr, hbr⟩ := (hF (ro (ro q)) c1).1 c2
        have ne1 : ro q ≠ q := kd_ne (kd := kd) (by omega)
        have ne2 : ro (ro q) ≠ q := kd_ne (kd := kd) (by omega)
        have ne3 : ro (ro q) ≠ ro q := kd_ne (kd := kd) (by omega)
        obtain ⟨hP, hD⟩ := pl_out (X := [(ss, .inr (11, [.ref sp, .int (nI ks)])), (sp, .inl ((cT 5), 50, .inr (.inr (.inr (.inr go))))), (rq, .inr (4, [.ref dr, .ref sa])), (sa, .inl ((cT 0), 256, .inl ga)), (dr, .inr (2, [.ref rr, .int (nI len)])), (rr, .inl ((cT 0), 1000, .inl f))]) hP hD (hq2) (hFq)
        have hP : va_P (dC, dI) vcl ([(ss, .inr (11, [.ref sp, .int (nI ks)])), (sp, .inl ((cT 5), 50, .inr (.inr (.inr (.inr go))))), (rq, .inr (4, [.ref dr, .ref sa])), (sa, .inl ((cT 0), 256, .inl ga)), (dr, .inr (2, [.ref rr, .int (nI len)])), (rr, .inl ((cT 0), 1000, .inl f)), (q, .inr (10, [.int x1, .ref (ro q), .int x2, .int x3, .int x4, .int x5, .long y1, .long y2]))] ++ va_pl (L.erase q) F) H := hP
        have hD : va_D A ([(ss, .inr (11, [.ref sp, .int (nI ks)])), (sp, .inl ((cT 5), 50, .inr (.inr (.inr (.inr go))))), (rq, .inr (4, [.ref dr, .ref sa])), (sa, .inl ((cT 0), 256, .inl ga)), (dr, .inr (2, [.ref rr, .int (nI len)])), (rr, .inl ((cT 0), 1000, .inl f)), (q, .inr (10, [.int x1, .ref (ro q), .int x2, .int x3, .int x4, .int x5, .long y1, .long y2]))] ++ va_pl (L.erase q) F) := hD
        obtain ⟨hP, hD⟩ := pl_out (X := [(ss, .inr (11, [.ref sp, .int (nI ks)])), (sp, .inl ((cT 5), 50, .inr (.inr (.inr (.inr go))))), (rq, .inr (4, [.ref dr, .ref sa])), (sa, .inl ((cT 0), 256, .inl ga)), (dr, .inr (2, [.ref rr, .int (nI len)])), (rr, .inl ((cT 0), 1000, .inl f)), (q, .inr (10, [.int x1, .ref (ro q), .int x2, .int x3, .int x4, .int x5, .long y1, .long y2]))]) hP hD ((List.mem_erase_of_ne ne1).mpr a1) (hFb)
        have hP : va_P (dC, dI) vcl ([(ss, .inr (11, [.ref sp, .int (nI ks)])), (sp, .inl ((cT 5), 50, .inr (.inr (.inr (.inr go))))), (rq, .inr (4, [.ref dr, .ref sa])), (sa, .inl ((cT 0), 256, .inl ga)), (dr, .inr (2, [.ref rr, .int (nI len)])), (rr, .inl ((cT 0), 1000, .inl f)), (q, .inr (10, [.int x1, .ref (ro q), .int x2, .int x3, .int x4, .int x5, .long y1, .long y2])), (ro q, .inr (1, [.ref (ro (ro q)), .int (nI n1)]))] ++ va_pl ((L.erase q).erase (ro q)) F) H := hP
        have hD : va_D A ([(ss, .inr (11, [.ref sp, .int (nI ks)])), (sp, .inl ((cT 5), 50, .inr (.inr (.inr (.inr go))))), (rq, .inr (4, [.ref dr, .ref sa])), (sa, .inl ((cT 0), 256, .inl ga)), (dr, .inr (2, [.ref rr, .int (nI len)])), (rr, .inl ((cT 0), 1000, .inl f)), (q, .inr (10, [.int x1, .ref (ro q), .int x2, .int x3, .int x4, .int x5, .long y1, .long y2])), (ro q, .inr (1, [.ref (ro (ro q)), .int (nI n1)]))] ++ va_pl ((L.erase q).erase (ro q)) F) := hD
        obtain ⟨hP, hD⟩ := pl_out (X := [(ss, .inr (11, [.ref sp, .int (nI ks)])), (sp, .inl ((cT 5), 50, .inr (.inr (.inr (.inr go))))), (rq, .inr (4, [.ref dr, .ref sa])), (sa, .inl ((cT 0), 256, .inl ga)), (dr, .inr (2, [.ref rr, .int (nI len)])), (rr, .inl ((cT 0), 1000, .inl f)), (q, .inr (10, [.int x1, .ref (ro q), .int x2, .int x3, .int x4, .int x5, .long y1, .long y2])), (ro q, .inr (1, [.ref (ro (ro q)), .int (nI n1)]))]) hP hD ((List.mem_erase_of_ne ne3).mpr ((List.mem_erase_of_ne ne2).mpr c1)) (hFr)
        have hP : va_P (dC, dI) vcl ([(ss, .inr (11, [.ref sp, .int (nI ks)])), (sp, .inl ((cT 5), 50, .inr (.inr (.inr (.inr go))))), (rq, .inr (4, [.ref dr, .ref sa])), (sa, .inl ((cT 0), 256, .inl ga)), (dr, .inr (2, [.ref rr, .int (nI len)])), (rr, .inl ((cT 0), 1000, .inl f)), (q, .inr (10, [.int x1, .ref (ro q), .int x2, .int x3, .int x4, .int x5, .long y1, .long y2])), (ro q, .inr (1, [.ref (ro (ro q)), .int (nI n1)])), (ro (ro q), .inl ((cT 0), si (ro (ro q)), .inl f1))] ++ va_pl (((L.erase q).erase (ro q)).erase (ro (ro q))) F) H := hP
        have hD : va_D A ([(ss, .inr (11, [.ref sp, .int (nI ks)])), (sp, .inl ((cT 5), 50, .inr (.inr (.inr (.inr go))))), (rq, .inr (4, [.ref dr, .ref sa])), (sa, .inl ((cT 0), 256, .inl ga)), (dr, .inr (2, [.ref rr, .int (nI len)])), (rr, .inl ((cT 0), 1000, .inl f)), (q, .inr (10, [.int x1, .ref (ro q), .int x2, .int x3, .int x4, .int x5, .long y1, .long y2])), (ro q, .inr (1, [.ref (ro (ro q)), .int (nI n1)])), (ro (ro q), .inl ((cT 0), si (ro (ro q)), .inl f1))] ++ va_pl (((L.erase q).erase (ro q)).erase (ro (ro q))) F) := hD
        refine lv_iload_n hx hb d_Ss_placeOf_16 rfl (lv_at hl 2 rfl) ?_
        refine lv_aload_n hx hb d_Ss_placeOf_17 rfl (lv_at hl 3 rfl) ?_
        have hPc := hP.sub (ws' := [(q, .inr (10, [.int x1, .ref (ro q), .int x2, .int x3, .int x4, .int x5, .long y1, .long y2])), (ro q, .inr (1, [.ref (ro (ro q)), .int (nI n1)])), (ro (ro q), .inl ((cT 0), (si (ro (ro q))), .inl f1)), (rq, .inr (4, [.ref dr, .ref sa])), (sa, .inl ((cT 0), 256, .inl ga)), (dr, .inr (2, [.ref rr, .int (nI len)])), (rr, .inl ((cT 0), 1000, .inl f))]) [6, 7, 8, 2, 3, 4, 5] rfl
        have hDc := hD.sub (ws' := [(q, .inr (10, [.int x1, .ref (ro q), .int x2, .int x3, .int x4, .int x5, .long y1, .long y2])), (ro q, .inr (1, [.ref (ro (ro q)), .int (nI n1)])), (ro (ro q), .inl ((cT 0), (si (ro (ro q))), .inl f1)), (rq, .inr (4, [.ref dr, .ref sa])), (sa, .inl ((cT 0), 256, .inl ga)), (dr, .inr (2, [.ref rr, .int (nI len)])), (rr, .inl ((cT 0), 1000, .inl f))]) [6, 7, 8, 2, 3, 4, 5] (by decide) rfl
        have hFc := va_free (wc := [(q, .inr (10, [.int x1, .ref (ro q), .int x2, .int x3, .int x4, .int x5, .long y1, .long y2])), (ro q, .inr (1, [.ref (ro (ro q)), .int (nI n1)])), (ro (ro q), .inl ((cT 0), (si (ro (ro q))), .inl f1)), (rq, .inr (4, [.ref dr, .ref sa])), (sa, .inl ((cT 0), 256, .inl ga)), (dr, .inr (2, [.ref rr, .int (nI len)])), (rr, .inl ((cT 0), 1000, .inl f))]) hD hS hA [6, 7, 8, 2, 3, 4, 5] rfl
        refine va_calli (va_runV (C := "DoorServer$Session") (As := [.int x, .ref rq]) (rest := []) ⟨hx, hb, hml, hown, hg⟩ (c_Se_compare l dC dI cT H.size q (ro q) (ro (ro q)) (si (ro (ro q))) n1 f1 x1 x2 x3 x4 x5 y1 y2 rq dr rr sa len f ga a n x (hga) (ha) (hfa) (hal) (hn16) (hlen) (hn1) (a3)) (cwV 2 hg (gI (List.forall_mem_append.mpr ⟨List.forall_mem_cons.mpr ⟨k_778, List.forall_mem_cons.mpr ⟨k_779, List.forall_mem_cons.mpr ⟨k_780, List.forall_mem_cons.mpr ⟨k_11, fun _ h => absurd h List.not_mem_nil⟩⟩⟩⟩, List.forall_mem_cons.mpr ⟨k_781, fun _ h => h⟩⟩)) rfl rfl rfl (by decide +kernel) ⟨Nat.le_of_ble_eq_true rfl, Nat.le_of_ble_eq_true rfl⟩) ⟨fun a U g mk q => by obtain ⟨q0, q1, qP, qK, qD⟩ := q; exact ⟨q0, q1, qP, va_K.moved (u := U) (U := U.calling g mk a) (Vm.Alike.refl U.vm) qK, qD⟩, va_recv (q0 := 6) (ci := 10) hK hP rfl rfl, fun U hU hW => ⟨rfl, by rw [hU], by rw [hU]; exact hPc, va_K.moved hW.alike hK, hDc.weaken (fun _ _ _ _ => trivial)⟩⟩ rfl rfl hl.1 rfl (lv_room (Nat.le_of_ble_eq_true rfl)) d_Ss_placeOf_18 ⟨Nat.le_of_ble_eq_true rfl, Nat.le_of_ble_eq_true rfl⟩) hS (fun q _ h => hFc q h) hFc (fun rv9 u t H1 locs ht hvm hw hB hz1 hk1 hS => ?_)
        try dsimp only at hw hB
        obtain ⟨hP1, hK1, hD1⟩ := hB
        rw [ht] at hP1
        generalize rv9 = r8 at hw ⊢
        obtain ⟨hP, hD⟩ := va_joinQ (X := [(ss, .inr (11, [.ref sp, .int (nI ks)])), (sp, .inl ((cT 5), 50, .inr (.inr (.inr (.inr go))))), (rq, .inr (4, [.ref dr, .ref sa])), (sa, .inl ((cT 0), 256, .inl ga)), (dr, .inr (2, [.ref rr, .int (nI len)])), (rr, .inl ((cT 0), 1000, .inl f)), (q, .inr (10, [.int x1, .ref (ro q), .int x2, .int x3, .int x4, .int x5, .long y1, .long y2])), (ro q, .inr (1, [.ref (ro (ro q)), .int (nI n1)])), (ro (ro q), .inl ((cT 0), si (ro (ro q)), .inl f1))]) (cx := [(q, .inr (10, [.int x1, .ref (ro q), .int x2, .int x3, .int x4, .int x5, .long y1, .long y2])), (ro q, .inr (1, [.ref (ro (ro q)), .int (nI n1)])), (ro (ro q), .inl ((cT 0), (si (ro (ro q))), .inl f1)), (rq, .inr (4, [.ref dr, .ref sa])), (sa, .inl ((cT 0), 256, .inl ga)), (dr, .inr (2, [.ref rr, .int (nI len)])), (rr, .inl ((cT 0), 1000, .inl f))]) (wr := [(ss, .inr (11, [.ref sp, .int (nI ks)])), (sp, .inl ((cT 5), 50, .inr (.inr (.inr (.inr go)))))]) (w1 := [(q, .inr (10, [.int x1, .ref (ro q), .int x2, .int x3, .int x4, .int x5, .long y1, .long y2])), (ro q, .inr (1, [.ref (ro (ro q)), .int (nI n1)])), (ro (ro q), .inl ((cT 0), (si (ro (ro q))), .inl f1)), (rq, .inr (4, [.ref dr, .ref sa])), (sa, .inl ((cT 0), 256, .inl ga)), (dr, .inr (2, [.ref rr, .int (nI len)])), (rr, .inl ((cT 0), 1000, .inl f))]) hP hD [6, 7, 8, 2, 3, 4, 5] [0, 1] rfl rfl (by decide) (by decide) hk1 hFc hP1 hD1
        have hw9 := hw
        clear hPc hDc hFc hz1 hk1 hP1 hK1 hD1
        generalize H1 = H at hP hS ⊢
        have hP : va_P (dC, dI) vcl ([(ss, .inr (11, [.ref sp, .int (nI ks)])), (sp, .inl ((cT 5), 50, .inr (.inr (.inr (.inr go))))), (q, .inr (10, [.int x1, .ref (ro q), .int x2, .int x3, .int x4, .int x5, .long y1, .long y2])), (ro q, .inr (1, [.ref (ro (ro q)), .int (nI n1)])), (ro (ro q), .inl ((cT 0), (si (ro (ro q))), .inl f1)), (rq, .inr (4, [.ref dr, .ref sa])), (sa, .inl ((cT 0), 256, .inl ga)), (dr, .inr (2, [.ref rr, .int (nI len)])), (rr, .inl ((cT 0), 1000, .inl f))] ++ va_pl (((L.erase q).erase (ro q)).erase (ro (ro q))) F) H := hP
        have hD : va_D A ([(ss, .inr (11, [.ref sp, .int (nI ks)])), (sp, .inl ((cT 5), 50, .inr (.inr (.inr (.inr go))))), (q, .inr (10, [.int x1, .ref (ro q), .int x2, .int x3, .int x4, .int x5, .long y1, .long y2])), (ro q, .inr (1, [.ref (ro (ro q)), .int (nI n1)])), (ro (ro q), .inl ((cT 0), (si (ro (ro q))), .inl f1)), (rq, .inr (4, [.ref dr, .ref sa])), (sa, .inl ((cT 0), 256, .inl ga)), (dr, .inr (2, [.ref rr, .int (nI len)])), (rr, .inl ((cT 0), 1000, .inl f))] ++ va_pl (((L.erase q).erase (ro q)).erase (ro (ro q))) F) := hD
        have hP := hP.part (cx := [(ss, .inr (11, [.ref sp, .int (nI ks)])), (sp, .inl ((cT 5), 50, .inr (.inr (.inr (.inr go))))), (q, .inr (10, [.int x1, .ref (ro q), .int x2, .int x3, .int x4, .int x5, .long y1, .long y2])), (ro q, .inr (1, [.ref (ro (ro q)), .int (nI n1)])), (rq, .inr (4, [.ref dr, .ref sa])), (sa, .inl ((cT 0), 256, .inl ga)), (dr, .inr (2, [.ref rr, .int (nI len)])), (rr, .inl ((cT 0), 1000, .inl f)), (ro (ro q), .inl ((cT 0), (si (ro (ro q))), .inl f1))]) [0, 1, 2, 3, 5, 6, 7, 8, 4] rfl
        have hD := hD.part (cx := [(ss, .inr (11, [.ref sp, .int (nI ks)])), (sp, .inl ((cT 5), 50, .inr (.inr (.inr (.inr go))))), (q, .inr (10, [.int x1, .ref (ro q), .int x2, .int x3, .int x4, .int x5, .long y1, .long y2])), (ro q, .inr (1, [.ref (ro (ro q)), .int (nI n1)])), (rq, .inr (4, [.ref dr, .ref sa])), (sa, .inl ((cT 0), 256, .inl ga)), (dr, .inr (2, [.ref rr, .int (nI len)])), (rr, .inl ((cT 0), 1000, .inl f)), (ro (ro q), .inl ((cT 0), (si (ro (ro q))), .inl f1))]) [0, 1, 2, 3, 5, 6, 7, 8, 4] (by decide) rfl
        obtain ⟨hP, hD⟩ := pl_in (X := [(ss, .inr (11, [.ref sp, .int (nI ks)])), (sp, .inl ((cT 5), 50, .inr (.inr (.inr (.inr go))))), (q, .inr (10, [.int x1, .ref (ro q), .int x2, .int x3, .int x4, .int x5, .long y1, .long y2])), (ro q, .inr (1, [.ref (ro (ro q)), .int (nI n1)])), (rq, .inr (4, [.ref dr, .ref sa])), (sa, .inl ((cT 0), 256, .inl ga)), (dr, .inr (2, [.ref rr, .int (nI len)])), (rr, .inl ((cT 0), 1000, .inl f))]) hP hD ((List.mem_erase_of_ne ne3).mpr ((List.mem_erase_of_ne ne2).mpr c1)) ((hnd.erase q).erase (ro q))
        have hP : va_P (dC, dI) vcl ([(ss, .inr (11, [.ref sp, .int (nI ks)])), (sp, .inl ((cT 5), 50, .inr (.inr (.inr (.inr go))))), (q, .inr (10, [.int x1, .ref (ro q), .int x2, .int x3, .int x4, .int x5, .long y1, .long y2])), (ro q, .inr (1, [.ref (ro (ro q)), .int (nI n1)])), (rq, .inr (4, [.ref dr, .ref sa])), (sa, .inl ((cT 0), 256, .inl ga)), (dr, .inr (2, [.ref rr, .int (nI len)])), (rr, .inl ((cT 0), 1000, .inl f))] ++ va_pl ((L.erase q).erase (ro q)) (va_up F (ro (ro q)) (.inl ((cT 0), (si (ro (ro q))), .inl f1)))) H := hP
        have hD : va_D A ([(ss, .inr (11, [.ref sp, .int (nI ks)])), (sp, .inl ((cT 5), 50, .inr (.inr (.inr (.inr go))))), (q, .inr (10, [.int x1, .ref (ro q), .int x2, .int x3, .int x4, .int x5, .long y1, .long y2])), (ro q, .inr (1, [.ref (ro (ro q)), .int (nI n1)])), (rq, .inr (4, [.ref dr, .ref sa])), (sa, .inl ((cT 0), 256, .inl ga)), (dr, .inr (2, [.ref rr, .int (nI len)])), (rr, .inl ((cT 0), 1000, .inl f))] ++ va_pl ((L.erase q).erase (ro q)) (va_up F (ro (ro q)) (.inl ((cT 0), (si (ro (ro q))), .inl f1)))) := hD
        rw [up_id hFr] at hP hD
        have hP : va_P (dC, dI) vcl ([(ss, .inr (11, [.ref sp, .int (nI ks)])), (sp, .inl ((cT 5), 50, .inr (.inr (.inr (.inr go))))), (q, .inr (10, [.int x1, .ref (ro q), .int x2, .int x3, .int x4, .int x5, .long y1, .long y2])), (ro q, .inr (1, [.ref (ro (ro q)), .int (nI n1)])), (rq, .inr (4, [.ref dr, .ref sa])), (sa, .inl ((cT 0), 256, .inl ga)), (dr, .inr (2, [.ref rr, .int (nI len)])), (rr, .inl ((cT 0), 1000, .inl f))] ++ va_pl ((L.erase q).erase (ro q)) F) H := hP
        have hD : va_D A ([(ss, .inr (11, [.ref sp, .int (nI ks)])), (sp, .inl ((cT 5), 50, .inr (.inr (.inr (.inr go))))), (q, .inr (10, [.int x1, .ref (ro q), .int x2, .int x3, .int x4, .int x5, .long y1, .long y2])), (ro q, .inr (1, [.ref (ro (ro q)), .int (nI n1)])), (rq, .inr (4, [.ref dr, .ref sa])), (sa, .inl ((cT 0), 256, .inl ga)), (dr, .inr (2, [.ref rr, .int (nI len)])), (rr, .inl ((cT 0), 1000, .inl f))] ++ va_pl ((L.erase q).erase (ro q)) F) := hD
        have hP := hP.part (cx := [(ss, .inr (11, [.ref sp, .int (nI ks)])), (sp, .inl ((cT 5), 50, .inr (.inr (.inr (.inr go))))), (q, .inr (10, [.int x1, .ref (ro q), .int x2, .int x3, .int x4, .int x5, .long y1, .long y2])), (rq, .inr (4, [.ref dr, .ref sa])), (sa, .inl ((cT 0), 256, .inl ga)), (dr, .inr (2, [.ref rr, .int (nI len)])), (rr, .inl ((cT 0), 1000, .inl f)), (ro q, .inr (1, [.ref (ro (ro q)), .int (nI n1)]))]) [0, 1, 2, 4, 5, 6, 7, 3] rfl
        have hD := hD.part (cx := [(ss, .inr (11, [.ref sp, .int (nI ks)])), (sp, .inl ((cT 5), 50, .inr (.inr (.inr (.inr go))))), (q, .inr (10, [.int x1, .ref (ro q), .int x2, .int x3, .int x4, .int x5, .long y1, .long y2])), (rq, .inr (4, [.ref dr, .ref sa])), (sa, .inl ((cT 0), 256, .inl ga)), (dr, .inr (2, [.ref rr, .int (nI len)])), (rr, .inl ((cT 0), 1000, .inl f)), (ro q, .inr (1, [.ref (ro (ro q)), .int (nI n1)]))]) [0, 1, 2, 4, 5, 6, 7, 3] (by decide) rfl
        obtain ⟨hP, hD⟩ := pl_in (X := [(ss, .inr (11, [.ref sp, .int (nI ks)])), (sp, .inl ((cT 5), 50, .inr (.inr (.inr (.inr go))))), (q, .inr (10, [.int x1, .ref (ro q), .int x2, .int x3, .int x4, .int x5, .long y1, .long y2])), (rq, .inr (4, [.ref dr, .ref sa])), (sa, .inl ((cT 0), 256, .inl ga)), (dr, .inr (2, [.ref rr, .int (nI len)])), (rr, .inl ((cT 0), 1000, .inl f))]) hP hD ((List.mem_erase_of_ne ne1).mpr a1) (hnd.erase q)
        have hP : va_P (dC, dI) vcl ([(ss, .inr (11, [.ref sp, .int (nI ks)])), (sp, .inl ((cT 5), 50, .inr (.inr (.inr (.inr go))))), (q, .inr (10, [.int x1, .ref (ro q), .int x2, .int x3, .int x4, .int x5, .long y1, .long y2])), (rq, .inr (4, [.ref dr, .ref sa])), (sa, .inl ((cT 0), 256, .inl ga)), (dr, .inr (2, [.ref rr, .int (nI len)])), (rr, .inl ((cT 0), 1000, .inl f))] ++ va_pl (L.erase q) (va_up F (ro q) (.inr (1, [.ref (ro (ro q)), .int (nI n1)])))) H := hP
        have hD : va_D A ([(ss, .inr (11, [.ref sp, .int (nI ks)])), (sp, .inl ((cT 5), 50, .inr (.inr (.inr (.inr go))))), (q, .inr (10, [.int x1, .ref (ro q), .int x2, .int x3, .int x4, .int x5, .long y1, .long y2])), (rq, .inr (4, [.ref dr, .ref sa])), (sa, .inl ((cT 0), 256, .inl ga)), (dr, .inr (2, [.ref rr, .int (nI len)])), (rr, .inl ((cT 0), 1000, .inl f))] ++ va_pl (L.erase q) (va_up F (ro q) (.inr (1, [.ref (ro (ro q)), .int (nI n1)])))) := hD
        rw [up_id hFb] at hP hD
        have hP : va_P (dC, dI) vcl ([(ss, .inr (11, [.ref sp, .int (nI ks)])), (sp, .inl ((cT 5), 50, .inr (.inr (.inr (.inr go))))), (q, .inr (10, [.int x1, .ref (ro q), .int x2, .int x3, .int x4, .int x5, .long y1, .long y2])), (rq, .inr (4, [.ref dr, .ref sa])), (sa, .inl ((cT 0), 256, .inl ga)), (dr, .inr (2, [.ref rr, .int (nI len)])), (rr, .inl ((cT 0), 1000, .inl f))] ++ va_pl (L.erase q) F) H := hP
        have hD : va_D A ([(ss, .inr (11, [.ref sp, .int (nI ks)])), (sp, .inl ((cT 5), 50, .inr (.inr (.inr (.inr go))))), (q, .inr (10, [.int x1, .ref (ro q), .int x2, .int x3, .int x4, .int x5, .long y1, .long y2])), (rq, .inr (4, [.ref dr, .ref sa])), (sa, .inl ((cT 0), 256, .inl ga)), (dr, .inr (2, [.ref rr, .int (nI len)])), (rr, .inl ((cT 0), 1000, .inl f))] ++ va_pl (L.erase q) F) := hD
        have hP := hP.part (cx := [(ss, .inr (11, [.ref sp, .int (nI ks)])), (sp, .inl ((cT 5), 50, .inr (.inr (.inr (.inr go))))), (rq, .inr (4, [.ref dr, .ref sa])), (sa, .inl ((cT 0), 256, .inl ga)), (dr, .inr (2, [.ref rr, .int (nI len)])), (rr, .inl ((cT 0), 1000, .inl f)), (q, .inr (10, [.int x1, .ref (ro q), .int x2, .int x3, .int x4, .int x5, .long y1, .long y2]))]) [0, 1, 3, 4, 5, 6, 2] rfl
        have hD := hD.part (cx := [(ss, .inr (11, [.ref sp, .int (nI ks)])), (sp, .inl ((cT 5), 50, .inr (.inr (.inr (.inr go))))), (rq, .inr (4, [.ref dr, .ref sa])), (sa, .inl ((cT 0), 256, .inl ga)), (dr, .inr (2, [.ref rr, .int (nI len)])), (rr, .inl ((cT 0), 1000, .inl f)), (q, .inr (10, [.int x1, .ref (ro q), .int x2, .int x3, .int x4, .int x5, .long y1, .long y2]))]) [0, 1, 3, 4, 5, 6, 2] (by decide) rfl
        obtain ⟨hP, hD⟩ := pl_in (X := [(ss, .inr (11, [.ref sp, .int (nI ks)])), (sp, .inl ((cT 5), 50, .inr (.inr (.inr (.inr go))))), (rq, .inr (4, [.ref dr, .ref sa])), (sa, .inl ((cT 0), 256, .inl ga)), (dr, .inr (2, [.ref rr, .int (nI len)])), (rr, .inl ((cT 0), 1000, .inl f))]) hP hD (hq2) (hnd)
        have hP : va_P (dC, dI) vcl ([(ss, .inr (11, [.ref sp, .int (nI ks)])), (sp, .inl ((cT 5), 50, .inr (.inr (.inr (.inr go))))), (rq, .inr (4, [.ref dr, .ref sa])), (sa, .inl ((cT 0), 256, .inl ga)), (dr, .inr (2, [.ref rr, .int (nI len)])), (rr, .inl ((cT 0), 1000, .inl f))] ++ va_pl L (va_up F q (.inr (10, [.int x1, .ref (ro q), .int x2, .int x3, .int x4, .int x5, .long y1, .long y2])))) H := hP
        have hD : va_D A ([(ss, .inr (11, [.ref sp, .int (nI ks)])), (sp, .inl ((cT 5), 50, .inr (.inr (.inr (.inr go))))), (rq, .inr (4, [.ref dr, .ref sa])), (sa, .inl ((cT 0), 256, .inl ga)), (dr, .inr (2, [.ref rr, .int (nI len)])), (rr, .inl ((cT 0), 1000, .inl f))] ++ va_pl L (va_up F q (.inr (10, [.int x1, .ref (ro q), .int x2, .int x3, .int x4, .int x5, .long y1, .long y2])))) := hD
        rw [up_id hFq] at hP hD
        have hP : va_P (dC, dI) vcl ([(ss, .inr (11, [.ref sp, .int (nI ks)])), (sp, .inl ((cT 5), 50, .inr (.inr (.inr (.inr go))))), (rq, .inr (4, [.ref dr, .ref sa])), (sa, .inl ((cT 0), 256, .inl ga)), (dr, .inr (2, [.ref rr, .int (nI len)])), (rr, .inl ((cT 0), 1000, .inl f))] ++ va_pl L F) H := hP
        have hD : va_D A ([(ss, .inr (11, [.ref sp, .int (nI ks)])), (sp, .inl ((cT 5), 50, .inr (.inr (.inr (.inr go))))), (rq, .inr (4, [.ref dr, .ref sa])), (sa, .inl ((cT 0), 256, .inl ga)), (dr, .inr (2, [.ref rr, .int (nI len)])), (rr, .inl ((cT 0), 1000, .inl f))] ++ va_pl L F) := hD
        refine lv_if_ge (tgt := 30) hx hb d_Ss_placeOf_21 (by decide) (fun hc10 => ?_) (fun hc10 => ?_)
        · skip
          have hl := lv_sub hl [0, 1] (show _ = [(3, .int (nI i)), (0, .ref ss)] from rfl)
          exact ex0 i _ _ _ (hi) hP hD hS hl
        · skip
          refine lv_iinc (k := 0) (v := nI (i + 1)) (lv' := [(3, .int (nI (i + 1))), (0, .ref ss), (1, .int x), (2, .ref rq)]) hx hb d_Ss_placeOf_24 hl rfl (nI_1 i) (by decide) rfl (fun ls hl => ?_)
          refine lv_goto (tgt := 2) hx hb d_Ss_placeOf_27 (by decide) ?_
          exact ih (i + 1) _ _ _ (by omega) (by omega) hP hD hS hl
  refine L1 _ (fun i H locs ls hi hP hD hS hl => ?_) (ks - 0) 0 s.heap _ ls (Nat.le_refl _) (Nat.zero_le _) hP hD hS hl
  · skip
    refine lv_iload_n hx hb d_Ss_placeOf_30 rfl (lv_at hl 0 rfl) ?_
    have hP9 := hP.part (cx := [(ss, .inr (11, [.ref sp, .int (nI ks)])), (sp, .inl ((cT 5), 50, .inr (.inr (.inr (.inr go))))), (rq, .inr (4, [.ref dr, .ref sa])), (sa, .inl ((cT 0), 256, .inl ga)), (dr, .inr (2, [.ref rr, .int (nI len)])), (rr, .inl ((cT 0), 1000, .inl f))]) [0, 1, 2, 3, 4, 5] rfl
    have hD9 := hD.part (cx := [(ss, .inr (11, [.ref sp, .int (nI ks)])), (sp, .inl ((cT 5), 50, .inr (.inr (.inr (.inr go))))), (rq, .inr (4, [.ref dr, .ref sa])), (sa, .inl ((cT 0), 256, .inl ga)), (dr, .inr (2, [.ref rr, .int (nI len)])), (rr, .inl ((cT 0), 1000, .inl f))]) [0, 1, 2, 3, 4, 5] (by decide) rfl
    exact W.iret (v := nI i) hx hb hr (fun t ht hW => ⟨⟨_, (), rfl, ⟨i, rfl, hi⟩, by rw [ht]; exact hP9, va_K.moved hW.alike hK, hD9⟩, hS.F ht⟩) hS.2.2 d_Ss_placeOf_31
theorem up_place {L : List Nat} {kd : Nat → Nat} {g : Nat → Option Nat} {j q : Nat} (h : ∀ i9, i9 < 50 → ∃ q9, g i9 = some q9 ∧ q9 ∈ L ∧ kd q9 = 10) (h2 : q ∈ L) (h3 : kd q = 10) : ∀ i9, i9 < 50 → ∃ q9, va_up g j (some q) i9 = some q9 ∧ q9 ∈ L ∧ kd q9 = 10 := fun i9 h9 => by
  by_cases hj : i9 = j
  · subst hj; exact ⟨q, va_up_self _ _ _, h2, h3⟩
  · rw [va_up_ne _ _ hj]; exact h i9 h9
theorem pk_dec {i : Nat} (h : 1 ≤ i) : nI i + (-1) = nI (i - 1) := by
  have h1 : nI i = nI ((i - 1) + 1) := by rw [Nat.sub_add_cancel h]
  rw [h1, ← Int32.sub_eq_add_neg, nI_pred]
set_option maxHeartbeats 4000000 in
set_option maxRecDepth 100000 in
/-- makeRoom -/
theorem c_Ss_room (l : Launch) (dC : Nat → ClassId) (dI : Nat → Nat → Nat) (cT : Nat → ClassId) (sz : Nat) (ss : Nat) (sp : Nat) (ks : Nat) (go : Nat → Option Nat) (L : List Nat) (F : Nat → va_E) (kd : Nat → Nat) (si : Nat → Nat) (ro : Nat → Nat) (rb : Nat → Nat) (k : Nat) (hk : k ≤ ks) (hks : ks < 50) (hg10 : ∀ i9, i9 < 50 → ∃ q9, go i9 = some q9 ∧ q9 ∈ L ∧ kd q9 = 10) (hnd : L.Nodup) (hsh : SHP L kd si ro rb) (hF : PLS cT kd si ro rb L F) : Met l y_Ss_makeRoom (Cond.code y_Ss_makeRoom b_Ss_makeRoom 4 (Option.none : Option Jvm.ClassFile.FieldType) :: BIG) ({ frames := 0, cells := 0, slots := 0, locals := 0 }) (va_Pc [.ref ss, .int (nI k)] (fun U => U.heap.size = sz ∧ va_P (dC, dI) vcl ([(ss, .inr (11, [.ref sp, .int (nI ks)])), (sp, .inl ((cT 5), 50, .inr (.inr (.inr (.inr go)))))] ++ va_pl L F) U.heap ∧ va_K (dC, dI) vcl (tyL cT) U ∧ va_D (fun _ => True) ([(ss, .inr (11, [.ref sp, .int (nI ks)])), (sp, .inl ((cT 5), 50, .inr (.inr (.inr (.inr go)))))] ++ va_pl L F))) (va_Qv (S := (Nat → Option Nat)) (fun u => match u with | g2 => ∀ i9, i9 < 50 → ∃ q9, g2 i9 = some q9 ∧ q9 ∈ L ∧ kd q9 = 10) (fun u t => match u with | g2 => va_P (dC, dI) vcl ([(ss, .inr (11, [.ref sp, .int (nI (ks + 1))])), (sp, .inl ((cT 5), 50, .inr (.inr (.inr (.inr g2)))))] ++ va_pl L F) t.heap ∧ va_K (dC, dI) vcl (tyL cT) t ∧ va_D (va_A ([(ss, .inr (11, [.ref sp, .int (nI ks)])), (sp, .inl ((cT 5), 50, .inr (.inr (.inr (.inr go)))))] ++ va_pl L F) sz) ([(ss, .inr (11, [.ref sp, .int (nI (ks + 1))])), (sp, .inl ((cT 5), 50, .inr (.inr (.inr (.inr g2)))))] ++ va_pl L F)) (va_A ([(ss, .inr (11, [.ref sp, .int (nI ks)])), (sp, .inl ((cT 5), 50, .inr (.inr (.inr (.inr go)))))] ++ va_pl L F) sz)) 0 0 (va_A ([(ss, .inr (11, [.ref sp, .int (nI ks)])), (sp, .inl ((cT 5), 50, .inr (.inr (.inr (.inr go)))))] ++ va_pl L F) sz) := by
  refine Met.ofW (cc := b_Ss_makeRoom) (maxL := 4) (ret := (Option.none : Option Jvm.ClassFile.FieldType)) (by decide) rfl ?_
  intro p e s m args below meth c s₁ B hml hv
  obtain ⟨hargs, hsz, hP, hK, hD0⟩ := hv
  have hx := B.exec
  have hb := B.bytes
  have hr := B.returns
  have hts := atoms_spec (ws := (Cond.code y_Ss_makeRoom b_Ss_makeRoom 4 (Option.none : Option Jvm.ClassFile.FieldType) :: BIG)) B.pre
  have hg : ∀ w ∈ BIG, w.before _ s = true := fun w h => hts w (List.mem_cons_of_mem _ h)
  have hown : s.vm.findClass "DoorServer$Sessions" = some m.cls := findClass_of_methodNamed B.named
  have hlocks := B.notSynchronized
  subst hsz
  have hD := hD0.self (sz := s.heap.size)
  generalize hAe : va_A ([(ss, .inr (11, [.ref sp, .int (nI ks)])), (sp, .inl ((cT 5), 50, .inr (.inr (.inr (.inr go)))))] ++ va_pl L F) s.heap.size = A at hD ⊢
  have hA : ∀ q : Nat, s.heap.size ≤ q → A q := fun q h => by rw [← hAe]; exact Or.inr h
  have hS : va_S A s.heap s.heap [] := va_S.rf
  have hl := lv_entry ([.ref ss, .int (nI k)]) (n := 4) (Nat.le_of_ble_eq_true rfl)
  refine W.eq (g2 := entryFrame m (List.toArray [.ref ss, .int (nI k)]) 4) (by rw [hargs]) ?_
  rw [lg_entry_eq]
  generalize (lg_sl ([.ref ss, .int (nI k)]) ++ List.replicate (4 - (lg_sl ([.ref ss, .int (nI k)])).length) Slot.unset).toArray = ls at hl ⊢
  have hl : lv_has ls 4 [(0, .ref ss), (1, .int (nI k))] := hl
  change W p l e ({ frames := 0, cells := 0, slots := 0, locals := 0 } : Room) s m args below meth c s.heap [] 0 0 _ _
  have hP : va_P (dC, dI) vcl ([(ss, .inr (11, [.ref sp, .int (nI ks)])), (sp, .inl ((cT 5), 50, .inr (.inr (.inr (.inr go)))))] ++ va_pl L F) s.heap := hP
  obtain ⟨q0, hq01, hq02, hq03⟩ := hg10 ks hks
  refine lv_aload_n hx hb d_Ss_makeRoom_0 rfl (lv_at hl 0 rfl) ?_
  refine va_get (D := (dC, dI)) (ci := 11) (v := (.ref sp)) (C := R_Ss) (T := F_Ss) (N := 2) hx hb hg in_Ss hown hK hP 0 rfl rfl 0 (by decide) (hg _ k_294) (fun _ h9 => h9) rfl d_Ss_makeRoom_1 ?_
  refine lv_aload_n hx hb d_Ss_makeRoom_4 rfl (lv_at hl 0 rfl) ?_
  refine va_get (D := (dC, dI)) (ci := 11) (v := (.int (nI ks))) (C := R_Ss) (T := F_Ss) (N := 2) hx hb hg in_Ss hown hK hP 0 rfl rfl 1 (by decide) (hg _ k_296) (fun _ h9 => h9) rfl d_Ss_makeRoom_5 ?_
  refine va_aldq hx hb hK hP 1 5 rfl rfl (i := (nI ks)) (vp_in_nI (N := 50) (by omega) (by decide)) d_Ss_makeRoom_8 ?_
  rw [show va_rf (go (nI ks).toNatClampNeg) = .ref q0 from by rw [nI_clamp (by omega), hq01]; rfl]
  refine lv_astore_n (lv' := [(2, .ref q0), (0, .ref ss), (1, .int (nI k))]) hx hb d_Ss_makeRoom_9 rfl hl (by decide) rfl (fun ls hl => ?_)
  refine lv_aload_n hx hb d_Ss_makeRoom_10 rfl (lv_at hl 1 rfl) ?_
  refine va_get (D := (dC, dI)) (ci := 11) (v := (.int (nI ks))) (C := R_Ss) (T := F_Ss) (N := 2) hx hb hg in_Ss hown hK hP 0 rfl rfl 1 (by decide) (hg _ k_296) (fun _ h9 => h9) rfl d_Ss_makeRoom_11 ?_
  refine lv_istore_n (lv' := [(3, .int (nI ks)), (2, .ref q0), (0, .ref ss), (1, .int (nI k))]) hx hb d_Ss_makeRoom_14 rfl hl (by decide) rfl (fun ls hl => ?_)
  have hl := lv_sub hl [0, 1, 2, 3] (show _ = [(3, .int (nI ks)), (2, .ref q0), (0, .ref ss), (1, .int (nI k))] from rfl)
  have L11 : ∀ (Q : State → Prop) (ex0 : ∀ (g : Nat → Option Nat) (H : Heap) (locs : List Loc) (ls : Array Slot), (∀ i9, i9 < 50 → ∃ q9, g i9 = some q9 ∧ q9 ∈ L ∧ kd q9 = 10) → va_P (dC, dI) vcl ([(ss, .inr (11, [.ref sp, .int (nI ks)])), (sp, .inl ((cT 5), 50, .inr (.inr (.inr (.inr g)))))] ++ va_pl L F) H → va_D A ([(ss, .inr (11, [.ref sp, .int (nI ks)])), (sp, .inl ((cT 5), 50, .inr (.inr (.inr (.inr g)))))] ++ va_pl L F) → va_S A s.heap H locs → lv_has ls 4 [(2, .ref q0), (0, .ref ss), (1, .int (nI k))] → W p l e ({ frames := 0, cells := 0, slots := 0, locals := 0 } : Room) s m args below meth c H locs 0 0 Q (F0 m 40 ls [])) (jj12 : Nat) (i : Nat) (g : Nat → Option Nat) (H : Heap) (locs : List Loc) (ls : Array Slot), i - k ≤ jj12 → (k ≤ i ∧ i ≤ ks) → (∀ i9, i9 < 50 → ∃ q9, g i9 = some q9 ∧ q9 ∈ L ∧ kd q9 = 10) → va_P (dC, dI) vcl ([(ss, .inr (11, [.ref sp, .int (nI ks)])), (sp, .inl ((cT 5), 50, .inr (.inr (.inr (.inr g)))))] ++ va_pl L F) H → va_D A ([(ss, .inr (11, [.ref sp, .int (nI ks)])), (sp, .inl ((cT 5), 50, .inr (.inr (.inr (.inr g)))))] ++ va_pl L F) → va_S A s.heap H locs → lv_has ls 4 [(3, .int (nI i)), (2, .ref q0), (0, .ref ss), (1, .int (nI k))] → W p l e ({ frames := 0, cells := 0, slots := 0, locals := 0 } : Room) s m args below meth c H locs 0 0 Q (F0 m 15 ls []) := by
    intro Q ex0 jj12
    induction jj12 with
    | zero => 
      intro i g H locs ls hm9 hi hgg hP hD hS hl
      refine lv_iload_n hx hb d_Ss_makeRoom_15 rfl (lv_at hl 0 rfl) ?_
      refine lv_iload_n hx hb d_Ss_makeRoom_16 rfl (lv_at hl 3 rfl) ?_
      refine lv_icmp_le (tgt := 40) hx hb d_Ss_makeRoom_17 (by decide) (fun hc13 => ?_) (fun hc13 => ?_)
      · skip
        have hl := lv_sub hl [1, 2, 3] (show _ = [(2, .ref q0), (0, .ref ss), (1, .int (nI k))] from rfl)
        exact ex0 g _ _ _ (hgg) hP hD hS hl
      · skip
        have h1 : k < i := Nat.not_le.mp (fun h7 => hc13 (nI_le h7 (by omega)))
        obtain ⟨q, hq1, hq2, hq3⟩ := hgg (i - 1) (by omega)
        refine lv_aload_n hx hb d_Ss_makeRoom_20 rfl (lv_at hl 2 rfl) ?_
        refine va_get (D := (dC, dI)) (ci := 11) (v := (.ref sp)) (C := R_Ss) (T := F_Ss) (N := 2) hx hb hg in_Ss hown hK hP 0 rfl rfl 0 (by decide) (hg _ k_294) (fun _ h9 => h9) rfl d_Ss_makeRoom_21 ?_
        refine lv_iload_n hx hb d_Ss_makeRoom_24 rfl (lv_at hl 0 rfl) ?_
        refine lv_aload_n hx hb d_Ss_makeRoom_25 rfl (lv_at hl 2 rfl) ?_
        refine va_get (D := (dC, dI)) (ci := 11) (v := (.ref sp)) (C := R_Ss) (T := F_Ss) (N := 2) hx hb hg in_Ss hown hK hP 0 rfl rfl 0 (by decide) (hg _ k_294) (fun _ h9 => h9) rfl d_Ss_makeRoom_26 ?_
        refine lv_iload_n hx hb d_Ss_makeRoom_29 rfl (lv_at hl 0 rfl) ?_
        refine lv_iconst (v := 1) hx hb d_Ss_makeRoom_30 (by decide) ?_
        refine lv_isub hx hb d_Ss_makeRoom_31 ?_
        refine lv_topi (fun x15 e14 => ?_)
        obtain rfl : x15 = nI (i - 1) := by rw [e14]; exact pk_sub (b := 1) (by omega)
        refine va_aldq hx hb hK hP 1 5 rfl rfl (i := (nI (i - 1))) (vp_in_nI (N := 50) (by omega) (by decide)) d_Ss_makeRoom_32 ?_
        rw [show va_rf (g (nI (i - 1)).toNatClampNeg) = .ref q from by rw [nI_clamp (by omega), hq1]; rfl]
        obtain ⟨x1, x2, x3, x4, x5, y1, y2, hFq⟩ := (hF q hq2).2.2.2.2.1 hq3
        obtain ⟨hP, hD⟩ := pl_out (X := [(ss, .inr (11, [.ref sp, .int (nI ks)])), (sp, .inl ((cT 5), 50, .inr (.inr (.inr (.inr g)))))]) hP hD (hq2) (hFq)
        have hP : va_P (dC, dI) vcl ([(ss, .inr (11, [.ref sp, .int (nI ks)])), (sp, .inl ((cT 5), 50, .inr (.inr (.inr (.inr g))))), (q, .inr (10, [.int x1, .ref (ro q), .int x2, .int x3, .int x4, .int x5, .long y1, .long y2]))] ++ va_pl (L.erase q) F) H := hP
        have hD : va_D A ([(ss, .inr (11, [.ref sp, .int (nI ks)])), (sp, .inl ((cT 5), 50, .inr (.inr (.inr (.inr g))))), (q, .inr (10, [.int x1, .ref (ro q), .int x2, .int x3, .int x4, .int x5, .long y1, .long y2]))] ++ va_pl (L.erase q) F) := hD
        refine va_astq hx hb hK hP hD hS 1 5 2 10 rfl rfl rfl rfl (i := (nI i)) (vp_in_nI (N := 50) (by omega) (by decide)) d_Ss_makeRoom_33 (fun H locs hP hD hS => ?_)
        have hP : va_P (dC, dI) vcl ([(ss, .inr (11, [.ref sp, .int (nI ks)])), (sp, .inl ((cT 5), 50, .inr (.inr (.inr (.inr (va_up g (nI i).toNatClampNeg (some q))))))), (q, .inr (10, [.int x1, .ref (ro q), .int x2, .int x3, .int x4, .int x5, .long y1, .long y2]))] ++ va_pl (L.erase q) F) H := hP
        have hD : va_D A ([(ss, .inr (11, [.ref sp, .int (nI ks)])), (sp, .inl ((cT 5), 50, .inr (.inr (.inr (.inr (va_up g (nI i).toNatClampNeg (some q))))))), (q, .inr (10, [.int x1, .ref (ro q), .int x2, .int x3, .int x4, .int x5, .long y1, .long y2]))] ++ va_pl (L.erase q) F) := hD
        obtain ⟨hP, hD⟩ := pl_in (X := [(ss, .inr (11, [.ref sp, .int (nI ks)])), (sp, .inl ((cT 5), 50, .inr (.inr (.inr (.inr (va_up g (nI i).toNatClampNeg (some q)))))))]) hP hD (hq2) (hnd)
        have hP : va_P (dC, dI) vcl ([(ss, .inr (11, [.ref sp, .int (nI ks)])), (sp, .inl ((cT 5), 50, .inr (.inr (.inr (.inr (va_up g (nI i).toNatClampNeg (some q)))))))] ++ va_pl L (va_up F q (.inr (10, [.int x1, .ref (ro q), .int x2, .int x3, .int x4, .int x5, .long y1, .long y2])))) H := hP
        have hD : va_D A ([(ss, .inr (11, [.ref sp, .int (nI ks)])), (sp, .inl ((cT 5), 50, .inr (.inr (.inr (.inr (va_up g (nI i).toNatClampNeg (some q)))))))] ++ va_pl L (va_up F q (.inr (10, [.int x1, .ref (ro q), .int x2, .int x3, .int x4, .int x5, .long y1, .long y2])))) := hD
        rw [up_id hFq] at hP hD
        have hP : va_P (dC, dI) vcl ([(ss, .inr (11, [.ref sp, .int (nI ks)])), (sp, .inl ((cT 5), 50, .inr (.inr (.inr (.inr (va_up g (nI i).toNatClampNeg (some q)))))))] ++ va_pl L F) H := hP
        have hD : va_D A ([(ss, .inr (11, [.ref sp, .int (nI ks)])), (sp, .inl ((cT 5), 50, .inr (.inr (.inr (.inr (va_up g (nI i).toNatClampNeg (some q)))))))] ++ va_pl L F) := hD
        refine lv_iinc (k := 0) (v := nI (i - 1)) (lv' := [(3, .int (nI (i - 1))), (2, .ref q0), (0, .ref ss), (1, .int (nI k))]) hx hb d_Ss_makeRoom_34 hl rfl (pk_dec (by omega)) (by decide) rfl (fun ls hl => ?_)
        refine lv_goto (tgt := 15) hx hb d_Ss_makeRoom_37 (by decide) ?_
        exfalso; omega
    | succ jj12 ih => 
      intro i g H locs ls hm9 hi hgg hP hD hS hl
      refine lv_iload_n hx hb d_Ss_makeRoom_15 rfl (lv_at hl 0 rfl) ?_
      refine lv_iload_n hx hb d_Ss_makeRoom_16 rfl (lv_at hl 3 rfl) ?_
      refine lv_icmp_le (tgt := 40) hx hb d_Ss_makeRoom_17 (by decide) (fun hc16 => ?_) (fun hc16 => ?_)
      · skip
        have hl := lv_sub hl [1, 2, 3] (show _ = [(2, .ref q0), (0, .ref ss), (1, .int (nI k))] from rfl)
        exact ex0 g _ _ _ (hgg) hP hD hS hl
      · skip
        have h1 : k < i := Nat.not_le.mp (fun h7 => hc16 (nI_le h7 (by omega)))
        obtain ⟨q, hq1, hq2, hq3⟩ := hgg (i - 1) (by omega)
        refine lv_aload_n hx hb d_Ss_makeRoom_20 rfl (lv_at hl 2 rfl) ?_
        refine va_get (D := (dC, dI)) (ci := 11) (v := (.ref sp)) (C := R_Ss) (T := F_Ss) (N := 2) hx hb hg in_Ss hown hK hP 0 rfl rfl 0 (by decide) (hg _ k_294) (fun _ h9 => h9) rfl d_Ss_makeRoom_21 ?_
        refine lv_iload_n hx hb d_Ss_makeRoom_24 rfl (lv_at hl 0 rfl) ?_
        refine lv_aload_n hx hb d_Ss_makeRoom_25 rfl (lv_at hl 2 rfl) ?_
        refine va_get (D := (dC, dI)) (ci := 11) (v := (.ref sp)) (C := R_Ss) (T := F_Ss) (N := 2) hx hb hg in_Ss hown hK hP 0 rfl rfl 0 (by decide) (hg _ k_294) (fun _ h9 => h9) rfl d_Ss_makeRoom_26 ?_
        refine lv_iload_n hx hb d_Ss_makeRoom_29 rfl (lv_at hl 0 rfl) ?_
        refine lv_iconst (v := 1) hx hb d_Ss_makeRoom_30 (by decide) ?_
        refine lv_isub hx hb d_Ss_makeRoom_31 ?_
        refine lv_topi (fun x18 e17 => ?_)
        obtain rfl : x18 = nI (i - 1) := by rw [e17]; exact pk_sub (b := 1) (by omega)
        refine va_aldq hx hb hK hP 1 5 rfl rfl (i := (nI (i - 1))) (vp_in_nI (N := 50) (by omega) (by decide)) d_Ss_makeRoom_32 ?_
        rw [show va_rf (g (nI (i - 1)).toNatClampNeg) = .ref q from by rw [nI_clamp (by omega), hq1]; rfl]
        obtain ⟨x1, x2, x3, x4, x5, y1, y2, hFq⟩ := (hF q hq2).2.2.2.2.1 hq3
        obtain ⟨hP, hD⟩ := pl_out (X := [(ss, .inr (11, [.ref sp, .int (nI ks)])), (sp, .inl ((cT 5), 50, .inr (.inr (.inr (.inr g)))))]) hP hD (hq2) (hFq)
        have hP : va_P (dC, dI) vcl ([(ss, .inr (11, [.ref sp, .int (nI ks)])), (sp, .inl ((cT 5), 50, .inr (.inr (.inr (.inr g))))), (q, .inr (10, [.int x1, .ref (ro q), .int x2, .int x3, .int x4, .int x5, .long y1, .long y2]))] ++ va_pl (L.erase q) F) H := hP
        have hD : va_D A ([(ss, .inr (11, [.ref sp, .int (nI ks)])), (sp, .inl ((cT 5), 50, .inr (.inr (.inr (.inr g))))), (q, .inr (10, [.int x1, .ref (ro q), .int x2, .int x3, .int x4, .int x5, .long y1, .long y2]))] ++ va_pl (L.erase q) F) := hD
        refine va_astq hx hb hK hP hD hS 1 5 2 10 rfl rfl rfl rfl (i := (nI i)) (vp_in_nI (N := 50) (by omega) (by decide)) d_Ss_makeRoom_33 (fun H locs hP hD hS => ?_)
        have hP : va_P (dC, dI) vcl ([(ss, .inr (11, [.ref sp, .int (nI ks)])), (sp, .inl ((cT 5), 50, .inr (.inr (.inr (.inr (va_up g (nI i).toNatClampNeg (some q))))))), (q, .inr (10, [.int x1, .ref (ro q), .int x2, .int x3, .int x4, .int x5, .long y1, .long y2]))] ++ va_pl (L.erase q) F) H := hP
        have hD : va_D A ([(ss, .inr (11, [.ref sp, .int (nI ks)])), (sp, .inl ((cT 5), 50, .inr (.inr (.inr (.inr (va_up g (nI i).toNatClampNeg (some q))))))), (q, .inr (10, [.int x1, .ref (ro q), .int x2, .int x3, .int x4, .int x5, .long y1, .long y2]))] ++ va_pl (L.erase q) F) := hD
        obtain ⟨hP, hD⟩ := pl_in (X := [(ss, .inr (11, [.ref sp, .int (nI ks)])), (sp, .inl ((cT 5), 50, .inr (.inr (.inr (.inr (va_up g (nI i).toNatClampNeg (some q)))))))]) hP hD (hq2) (hnd)
        have hP : va_P (dC, dI) vcl ([(ss, .inr (11, [.ref sp, .int (nI ks)])), (sp, .inl ((cT 5), 50, .inr (.inr (.inr (.inr (va_up g (nI i).toNatClampNeg (some q)))))))] ++ va_pl L (va_up F q (.inr (10, [.int x1, .ref (ro q), .int x2, .int x3, .int x4, .int x5, .long y1, .long y2])))) H := hP
        have hD : va_D A ([(ss, .inr (11, [.ref sp, .int (nI ks)])), (sp, .inl ((cT 5), 50, .inr (.inr (.inr (.inr (va_up g (nI i).toNatClampNeg (some q)))))))] ++ va_pl L (va_up F q (.inr (10, [.int x1, .ref (ro q), .int x2, .int x3, .int x4, .int x5, .long y1, .long y2])))) := hD
        rw [up_id hFq] at hP hD
        have hP : va_P (dC, dI) vcl ([(ss, .inr (11, [.ref sp, .int (nI ks)])), (sp, .inl ((cT 5), 50, .inr (.inr (.inr (.inr (va_up g (nI i).toNatClampNeg (some q)))))))] ++ va_pl L F) H := hP
        have hD : va_D A ([(ss, .inr (11, [.ref sp, .int (nI ks)])), (sp, .inl ((cT 5), 50, .inr (.inr (.inr (.inr (va_up g (nI i).toNatClampNeg (some q)))))))] ++ va_pl L F) := hD
        refine lv_iinc (k := 0) (v := nI (i - 1)) (lv' := [(3, .int (nI (i - 1))), (2, .ref q0), (0, .ref ss), (1, .int (nI k))]) hx hb d_Ss_makeRoom_34 hl rfl (pk_dec (by omega)) (by decide) rfl (fun ls hl => ?_)
        refine lv_goto (tgt := 15) hx hb d_Ss_makeRoom_37 (by decide) ?_
        exact ih (i - 1) (va_up g (nI i).toNatClampNeg (some q)) _ _ _ (by omega) (⟨by omega, by omega⟩) (up_place hgg hq2 hq3) hP hD hS hl
  refine L11 _ (fun g H locs ls hgg hP hD hS hl => ?_) (ks - k) ks go s.heap _ ls (Nat.le_refl _) (⟨hk, Nat.le_refl _⟩) (hg10) hP hD hS hl
  · skip
    refine lv_aload_n hx hb d_Ss_makeRoom_40 rfl (lv_at hl 1 rfl) ?_
    refine va_get (D := (dC, dI)) (ci := 11) (v := (.ref sp)) (C := R_Ss) (T := F_Ss) (N := 2) hx hb hg in_Ss hown hK hP 0 rfl rfl 0 (by decide) (hg _ k_294) (fun _ h9 => h9) rfl d_Ss_makeRoom_41 ?_
    refine lv_iload_n hx hb d_Ss_makeRoom_44 rfl (lv_at hl 2 rfl) ?_
    refine lv_aload_n hx hb d_Ss_makeRoom_45 rfl (lv_at hl 0 rfl) ?_
    obtain ⟨x1, x2, x3, x4, x5, y1, y2, hFq⟩ := (hF q0 hq02).2.2.2.2.1 hq03
    obtain ⟨hP, hD⟩ := pl_out (X := [(ss, .inr (11, [.ref sp, .int (nI ks)])), (sp, .inl ((cT 5), 50, .inr (.inr (.inr (.inr g)))))]) hP hD (hq02) (hFq)
    have hP : va_P (dC, dI) vcl ([(ss, .inr (11, [.ref sp, .int (nI ks)])), (sp, .inl ((cT 5), 50, .inr (.inr (.inr (.inr g))))), (q0, .inr (10, [.int x1, .ref (ro q0), .int x2, .int x3, .int x4, .int x5, .long y1, .long y2]))] ++ va_pl (L.erase q0) F) H := hP
    have hD : va_D A ([(ss, .inr (11, [.ref sp, .int (nI ks)])), (sp, .inl ((cT 5), 50, .inr (.inr (.inr (.inr g))))), (q0, .inr (10, [.int x1, .ref (ro q0), .int x2, .int x3, .int x4, .int x5, .long y1, .long y2]))] ++ va_pl (L.erase q0) F) := hD
    refine va_astq hx hb hK hP hD hS 1 5 2 10 rfl rfl rfl rfl (i := (nI k)) (vp_in_nI (N := 50) (by omega) (by decide)) d_Ss_makeRoom_46 (fun H locs hP hD hS => ?_)
    have hP : va_P (dC, dI) vcl ([(ss, .inr (11, [.ref sp, .int (nI ks)])), (sp, .inl ((cT 5), 50, .inr (.inr (.inr (.inr (va_up g (nI k).toNatClampNeg (some q0))))))), (q0, .inr (10, [.int x1, .ref (ro q0), .int x2, .int x3, .int x4, .int x5, .long y1, .long y2]))] ++ va_pl (L.erase q0) F) H := hP
    have hD : va_D A ([(ss, .inr (11, [.ref sp, .int (nI ks)])), (sp, .inl ((cT 5), 50, .inr (.inr (.inr (.inr (va_up g (nI k).toNatClampNeg (some q0))))))), (q0, .inr (10, [.int x1, .ref (ro q0), .int x2, .int x3, .int x4, .int x5, .long y1, .long y2]))] ++ va_pl (L.erase q0) F) := hD
    obtain ⟨hP, hD⟩ := pl_in (X := [(ss, .inr (11, [.ref sp, .int (nI ks)])), (sp, .inl ((cT 5), 50, .inr (.inr (.inr (.inr (va_up g (nI k).toNatClampNeg (some q0)))))))]) hP hD (hq02) (hnd)
    have hP : va_P (dC, dI) vcl ([(ss, .inr (11, [.ref sp, .int (nI ks)])), (sp, .inl ((cT 5), 50, .inr (.inr (.inr (.inr (va_up g (nI k).toNatClampNeg (some q0)))))))] ++ va_pl L (va_up F q0 (.inr (10, [.int x1, .ref (ro q0), .int x2, .int x3, .int x4, .int x5, .long y1, .long y2])))) H := hP
    have hD : va_D A ([(ss, .inr (11, [.ref sp, .int (nI ks)])), (sp, .inl ((cT 5), 50, .inr (.inr (.inr (.inr (va_up g (nI k).toNatClampNeg (some q0)))))))] ++ va_pl L (va_up F q0 (.inr (10, [.int x1, .ref (ro q0), .int x2, .int x3, .int x4, .int x5, .long y1, .long y2])))) := hD
    rw [up_id hFq] at hP hD
    have hP : va_P (dC, dI) vcl ([(ss, .inr (11, [.ref sp, .int (nI ks)])), (sp, .inl ((cT 5), 50, .inr (.inr (.inr (.inr (va_up g (nI k).toNatClampNeg (some q0)))))))] ++ va_pl L F) H := hP
    have hD : va_D A ([(ss, .inr (11, [.ref sp, .int (nI ks)])), (sp, .inl ((cT 5), 50, .inr (.inr (.inr (.inr (va_up g (nI k).toNatClampNeg (some q0)))))))] ++ va_pl L F) := hD
    refine lv_aload_n hx hb d_Ss_makeRoom_47 rfl (lv_at hl 1 rfl) ?_
    refine lv_dup hx hb d_Ss_makeRoom_48 rfl ?_
    refine va_get (D := (dC, dI)) (ci := 11) (v := (.int (nI ks))) (C := R_Ss) (T := F_Ss) (N := 2) hx hb hg in_Ss hown hK hP 0 rfl rfl 1 (by decide) (hg _ k_296) (fun _ h9 => h9) rfl d_Ss_makeRoom_49 ?_
    refine lv_iconst (v := 1) hx hb d_Ss_makeRoom_52 (by decide) ?_
    refine lv_iadd hx hb d_Ss_makeRoom_53 ?_
    refine lv_topi (fun x20 e19 => ?_)
    obtain rfl : x20 = nI (ks + 1) := by rw [e19]; exact nI_1 ks
    refine va_put (D := (dC, dI)) (ci := 11) (v := (.int (nI (ks + 1)))) (ty := .int) (C := R_Ss) (T := F_Ss) (N := 2) hx hb hg in_Ss t_Ss tok_Ss nm_Ss hown hK hP hD hS 0 rfl rfl 1 (by decide) (hg _ k_296) (fun _ h9 => h9) rfl (by decide +kernel) rfl rfl (Nat.le_of_ble_eq_true rfl) d_Ss_makeRoom_54 (fun H locs hP hD hS => ?_)
    have hP : va_P (dC, dI) vcl ([(ss, .inr (11, [.ref sp, .int (nI (ks + 1))])), (sp, .inl ((cT 5), 50, .inr (.inr (.inr (.inr (va_up g (nI k).toNatClampNeg (some q0)))))))] ++ va_pl L F) H := hP
    have hD : va_D A ([(ss, .inr (11, [.ref sp, .int (nI (ks + 1))])), (sp, .inl ((cT 5), 50, .inr (.inr (.inr (.inr (va_up g (nI k).toNatClampNeg (some q0)))))))] ++ va_pl L F) := hD
    have hP9 := hP.part (cx := [(ss, .inr (11, [.ref sp, .int (nI (ks + 1))])), (sp, .inl ((cT 5), 50, .inr (.inr (.inr (.inr (va_up g (nI k).toNatClampNeg (some q0)))))))]) [0, 1] rfl
    have hD9 := hD.part (cx := [(ss, .inr (11, [.ref sp, .int (nI (ks + 1))])), (sp, .inl ((cT 5), 50, .inr (.inr (.inr (.inr (va_up g (nI k).toNatClampNeg (some q0)))))))]) [0, 1] (by decide) rfl
    exact W.vret hx hb hr (fun t ht hW => ⟨⟨va_up g (nI k).toNatClampNeg (some q0), rfl, up_place hgg hq02 hq03, by rw [ht]; exact hP9, va_K.moved hW.alike hK, hD9⟩, hS.F ht⟩) hS.2.2 d_Ss_makeRoom_57
