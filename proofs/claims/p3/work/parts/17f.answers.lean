theorem d_An_find_0 : decode b_An_find 0 = .ok (.iconst 0, 1) := by decide +kernel
theorem d_An_find_1 : decode b_An_find 1 = .ok (.istore_n 3, 1) := by decide +kernel
theorem d_An_find_2 : decode b_An_find 2 = .ok (.iload_n 3, 1) := by decide +kernel
theorem d_An_find_3 : decode b_An_find 3 = .ok (.aload_n 0, 1) := by decide +kernel
theorem d_An_find_4 : decode b_An_find 4 = .ok (.getfield 18, 3) := by decide +kernel
theorem d_An_find_7 : decode b_An_find 7 = .ok (.if_icmp .ge 42, 3) := by decide +kernel
theorem d_An_find_10 : decode b_An_find 10 = .ok (.aload_n 0, 1) := by decide +kernel
theorem d_An_find_11 : decode b_An_find 11 = .ok (.getfield 13, 3) := by decide +kernel
theorem d_An_find_14 : decode b_An_find 14 = .ok (.iload_n 3, 1) := by decide +kernel
theorem d_An_find_15 : decode b_An_find 15 = .ok (.aaload, 1) := by decide +kernel
theorem d_An_find_16 : decode b_An_find 16 = .ok (.getfield 22, 3) := by decide +kernel
theorem d_An_find_19 : decode b_An_find 19 = .ok (.iload_n 1, 1) := by decide +kernel
theorem d_An_find_20 : decode b_An_find 20 = .ok (.if_icmp .ne 23, 3) := by decide +kernel
theorem d_An_find_43 : decode b_An_find 43 = .ok (.iinc 3 1, 3) := by decide +kernel
theorem d_An_find_46 : decode b_An_find 46 = .ok (.goto (-44), 3) := by decide +kernel
theorem d_An_find_23 : decode b_An_find 23 = .ok (.aload_n 0, 1) := by decide +kernel
theorem d_An_find_24 : decode b_An_find 24 = .ok (.getfield 13, 3) := by decide +kernel
theorem d_An_find_27 : decode b_An_find 27 = .ok (.iload_n 3, 1) := by decide +kernel
theorem d_An_find_28 : decode b_An_find 28 = .ok (.aaload, 1) := by decide +kernel
theorem d_An_find_29 : decode b_An_find 29 = .ok (.getfield 25, 3) := by decide +kernel
theorem d_An_find_32 : decode b_An_find 32 = .ok (.iload_n 2, 1) := by decide +kernel
theorem d_An_find_33 : decode b_An_find 33 = .ok (.if_icmp .ne 10, 3) := by decide +kernel
theorem d_An_find_36 : decode b_An_find 36 = .ok (.aload_n 0, 1) := by decide +kernel
theorem d_An_find_37 : decode b_An_find 37 = .ok (.getfield 13, 3) := by decide +kernel
theorem d_An_find_40 : decode b_An_find 40 = .ok (.iload_n 3, 1) := by decide +kernel
theorem d_An_find_41 : decode b_An_find 41 = .ok (.aaload, 1) := by decide +kernel
theorem d_An_find_49 : decode b_An_find 49 = .ok (.aconst_null, 1) := by decide +kernel
theorem d_An_find_50 : decode b_An_find 50 = .ok (.areturn, 1) := by decide +kernel
theorem d_An_find_42 : decode b_An_find 42 = .ok (.areturn, 1) := by decide +kernel
theorem d_An_freePlace_0 : decode b_An_freePlace 0 = .ok (.aload_n 0, 1) := by decide +kernel
theorem d_An_freePlace_1 : decode b_An_freePlace 1 = .ok (.getfield 18, 3) := by decide +kernel
theorem d_An_freePlace_4 : decode b_An_freePlace 4 = .ok (.bipush 40, 2) := by decide +kernel
theorem d_An_freePlace_6 : decode b_An_freePlace 6 = .ok (.if_icmp .ge 25, 3) := by decide +kernel
theorem d_An_freePlace_31 : decode b_An_freePlace 31 = .ok (.aload_n 0, 1) := by decide +kernel
theorem d_An_freePlace_32 : decode b_An_freePlace 32 = .ok (.getfield 13, 3) := by decide +kernel
theorem d_An_freePlace_35 : decode b_An_freePlace 35 = .ok (.iconst 0, 1) := by decide +kernel
theorem d_An_freePlace_36 : decode b_An_freePlace 36 = .ok (.aaload, 1) := by decide +kernel
theorem d_An_freePlace_37 : decode b_An_freePlace 37 = .ok (.astore_n 1, 1) := by decide +kernel
theorem d_An_freePlace_38 : decode b_An_freePlace 38 = .ok (.iconst 1, 1) := by decide +kernel
theorem d_An_freePlace_39 : decode b_An_freePlace 39 = .ok (.istore_n 2, 1) := by decide +kernel
theorem d_An_freePlace_40 : decode b_An_freePlace 40 = .ok (.iload_n 2, 1) := by decide +kernel
theorem d_An_freePlace_41 : decode b_An_freePlace 41 = .ok (.bipush 40, 2) := by decide +kernel
theorem d_An_freePlace_43 : decode b_An_freePlace 43 = .ok (.if_icmp .ge 32, 3) := by decide +kernel
theorem d_An_freePlace_46 : decode b_An_freePlace 46 = .ok (.aload_n 0, 1) := by decide +kernel
theorem d_An_freePlace_47 : decode b_An_freePlace 47 = .ok (.getfield 13, 3) := by decide +kernel
theorem d_An_freePlace_50 : decode b_An_freePlace 50 = .ok (.iload_n 2, 1) := by decide +kernel
theorem d_An_freePlace_51 : decode b_An_freePlace 51 = .ok (.aaload, 1) := by decide +kernel
theorem d_An_freePlace_52 : decode b_An_freePlace 52 = .ok (.getfield 44, 3) := by decide +kernel
theorem d_An_freePlace_55 : decode b_An_freePlace 55 = .ok (.aload_n 1, 1) := by decide +kernel
theorem d_An_freePlace_56 : decode b_An_freePlace 56 = .ok (.getfield 44, 3) := by decide +kernel
theorem d_An_freePlace_59 : decode b_An_freePlace 59 = .ok (.if_icmp .ge 10, 3) := by decide +kernel
theorem d_An_freePlace_69 : decode b_An_freePlace 69 = .ok (.iinc 2 1, 3) := by decide +kernel
theorem d_An_freePlace_72 : decode b_An_freePlace 72 = .ok (.goto (-32), 3) := by decide +kernel
theorem d_An_freePlace_62 : decode b_An_freePlace 62 = .ok (.aload_n 0, 1) := by decide +kernel
theorem d_An_freePlace_63 : decode b_An_freePlace 63 = .ok (.getfield 13, 3) := by decide +kernel
theorem d_An_freePlace_66 : decode b_An_freePlace 66 = .ok (.iload_n 2, 1) := by decide +kernel
theorem d_An_freePlace_67 : decode b_An_freePlace 67 = .ok (.aaload, 1) := by decide +kernel
theorem d_An_freePlace_68 : decode b_An_freePlace 68 = .ok (.astore_n 1, 1) := by decide +kernel
theorem d_An_freePlace_75 : decode b_An_freePlace 75 = .ok (.aload_n 1, 1) := by decide +kernel
theorem d_An_freePlace_76 : decode b_An_freePlace 76 = .ok (.areturn, 1) := by decide +kernel
theorem d_An_freePlace_9 : decode b_An_freePlace 9 = .ok (.aload_n 0, 1) := by decide +kernel
theorem d_An_freePlace_10 : decode b_An_freePlace 10 = .ok (.dup, 1) := by decide +kernel
theorem d_An_freePlace_11 : decode b_An_freePlace 11 = .ok (.getfield 18, 3) := by decide +kernel
theorem d_An_freePlace_14 : decode b_An_freePlace 14 = .ok (.iconst 1, 1) := by decide +kernel
theorem d_An_freePlace_15 : decode b_An_freePlace 15 = .ok (.iadd, 1) := by decide +kernel
theorem d_An_freePlace_16 : decode b_An_freePlace 16 = .ok (.putfield 18, 3) := by decide +kernel
theorem d_An_freePlace_19 : decode b_An_freePlace 19 = .ok (.aload_n 0, 1) := by decide +kernel
theorem d_An_freePlace_20 : decode b_An_freePlace 20 = .ok (.getfield 13, 3) := by decide +kernel
theorem d_An_freePlace_23 : decode b_An_freePlace 23 = .ok (.aload_n 0, 1) := by decide +kernel
theorem d_An_freePlace_24 : decode b_An_freePlace 24 = .ok (.getfield 18, 3) := by decide +kernel
theorem d_An_freePlace_27 : decode b_An_freePlace 27 = .ok (.iconst 1, 1) := by decide +kernel
theorem d_An_freePlace_28 : decode b_An_freePlace 28 = .ok (.isub, 1) := by decide +kernel
theorem d_An_freePlace_29 : decode b_An_freePlace 29 = .ok (.aaload, 1) := by decide +kernel
theorem d_An_freePlace_30 : decode b_An_freePlace 30 = .ok (.areturn, 1) := by decide +kernel
/-- what the pool's cells hold: kd an address's kind, si an array's size, ro and rb the references of an object: these never change -/
def PLC (cT : Nat → ClassId) (kd si ro rb : Nat → Nat) (a : Nat) (e : va_E) : Prop :=
  (kd a = 0 → ∃ f : Nat → Int32, e = .inl (cT 0, si a, .inl f) ∧ AB f) ∧ (kd a = 1 → ∃ n : Nat, e = .inr (1, [.ref (ro a), .int (nI n)]) ∧ n ≤ si (ro a)) ∧
  (kd a = 7 → ∃ x1 x2 x3 x4 : Int32, e = .inr (7, [.int x1, .int x2, .int x3, .int x4, .ref (ro a), .ref (rb a)])) ∧
  (kd a = 8 → ∃ (x1 : Int32) (mk : Int64) (x2 x3 x4 x5 : Int32), e = .inr (8, [.int x1, .long mk, .int x2, .int x3, .int x4, .int x5, .ref (ro a)])) ∧
  (kd a = 10 → ∃ (x1 x2 x3 x4 x5 : Int32) (y1 y2 : Int64), e = .inr (10, [.int x1, .ref (ro a), .int x2, .int x3, .int x4, .int x5, .long y1, .long y2])) ∧
  (kd a = 1 → si (ro a) = 60 → e = .inr (1, [.ref (ro a), .int (nI (rb a))]) ∧ rb a ≤ 60)
def SHP (L : List Nat) (kd si ro rb : Nat → Nat) : Prop := ∀ a ∈ L, (kd a = 1 → ro a ∈ L ∧ kd (ro a) = 0 ∧ si (ro a) ≤ 72) ∧ (kd a = 7 → ro a ∈ L ∧ kd (ro a) = 0 ∧ si (ro a) = 16 ∧ rb a ∈ L ∧ kd (rb a) = 1 ∧ si (ro (rb a)) = 72) ∧ (kd a = 8 → ro a ∈ L ∧ kd (ro a) = 0 ∧ si (ro a) = 16) ∧ (kd a = 10 → ro a ∈ L ∧ kd (ro a) = 1 ∧ si (ro (ro a)) = 16)
def PLS (cT : Nat → ClassId) (kd si ro rb : Nat → Nat) (L : List Nat) (F : Nat → va_E) : Prop := ∀ a ∈ L, PLC cT kd si ro rb a (F a)
theorem PLS_up {cT : Nat → ClassId} {kd si ro rb : Nat → Nat} {L : List Nat} {F : Nat → va_E} {a : Nat} {e : va_E} (h : PLS cT kd si ro rb L F) (he : PLC cT kd si ro rb a e) : PLS cT kd si ro rb L (va_up F a e) := fun b hb => by
  by_cases hba : b = a
  · subst hba; rw [va_up_self]; exact he
  · rw [va_up_ne F e hba]; exact h b hb
theorem up_id {F : Nat → va_E} {a : Nat} {e : va_E} (h : F a = e) : va_up F a e = F := by
  funext b
  by_cases hb : b = a
  · subst hb; rw [va_up_self, h]
  · rw [va_up_ne F e hb]
theorem PLC0 {cT : Nat → ClassId} {kd si ro rb : Nat → Nat} {a : Nat} {f : Nat → Int32} (h : kd a = 0) (hf : AB f) : PLC cT kd si ro rb a (.inl (cT 0, si a, .inl f)) := ⟨fun _ => ⟨f, rfl, hf⟩, fun h9 => absurd h9 (by omega), fun h9 => absurd h9 (by omega), fun h9 => absurd h9 (by omega), fun h9 => absurd h9 (by omega), fun h9 => absurd h9 (by omega)⟩
theorem PLC1 {cT : Nat → ClassId} {kd si ro rb : Nat → Nat} {a n : Nat} (h : kd a = 1) (hn : n ≤ si (ro a)) (hp : si (ro a) = 60 → n = rb a := by intro h; omega) : PLC cT kd si ro rb a (.inr (1, [.ref (ro a), .int (nI n)])) := ⟨fun h9 => absurd h9 (by omega), fun _ => ⟨n, rfl, hn⟩, fun h9 => absurd h9 (by omega), fun h9 => absurd h9 (by omega), fun h9 => absurd h9 (by omega), fun _ h9 => ⟨by rw [hp h9], by have h8 := hp h9; omega⟩⟩
theorem PLC7 {cT : Nat → ClassId} {kd si ro rb : Nat → Nat} {a : Nat} {x1 x2 x3 x4 : Int32} (h : kd a = 7) : PLC cT kd si ro rb a (.inr (7, [.int x1, .int x2, .int x3, .int x4, .ref (ro a), .ref (rb a)])) := ⟨fun h9 => absurd h9 (by omega), fun h9 => absurd h9 (by omega), fun _ => ⟨_, _, _, _, rfl⟩, fun h9 => absurd h9 (by omega), fun h9 => absurd h9 (by omega), fun h9 => absurd h9 (by omega)⟩
theorem PLC8 {cT : Nat → ClassId} {kd si ro rb : Nat → Nat} {a : Nat} {x1 x2 x3 x4 x5 : Int32} {mk : Int64} (h : kd a = 8) : PLC cT kd si ro rb a (.inr (8, [.int x1, .long mk, .int x2, .int x3, .int x4, .int x5, .ref (ro a)])) := ⟨fun h9 => absurd h9 (by omega), fun h9 => absurd h9 (by omega), fun h9 => absurd h9 (by omega), fun _ => ⟨_, _, _, _, _, _, rfl⟩, fun h9 => absurd h9 (by omega), fun h9 => absurd h9 (by omega)⟩
theorem PLC10 {cT : Nat → ClassId} {kd si ro rb : Nat → Nat} {a : Nat} {x1 x2 x3 x4 x5 : Int32} {y1 y2 : Int64} (h : kd a = 10) : PLC cT kd si ro rb a (.inr (10, [.int x1, .ref (ro a), .int x2, .int x3, .int x4, .int x5, .long y1, .long y2])) := ⟨fun h9 => absurd h9 (by omega), fun h9 => absurd h9 (by omega), fun h9 => absurd h9 (by omega), fun h9 => absurd h9 (by omega), fun _ => ⟨_, _, _, _, _, _, _, rfl⟩, fun h9 => absurd h9 (by omega)⟩
theorem PLC_rb {cT : Nat → ClassId} {kd si ro rb : Nat → Nat} {a q k : Nat} {e : va_E} (h : PLC cT kd si ro rb a e) (hq : a ≠ q) : PLC cT kd si ro (va_up rb q k) a e := by
  unfold PLC at h ⊢
  rw [va_up_ne rb k hq]
  exact h
theorem PLS_rb {cT : Nat → ClassId} {kd si ro rb : Nat → Nat} {L : List Nat} {F : Nat → va_E} {q k : Nat} {e : va_E} (h : PLS cT kd si ro rb L F) (he : PLC cT kd si ro (va_up rb q k) q e) : PLS cT kd si ro (va_up rb q k) L (va_up F q e) := fun b hb => by
  by_cases hbq : b = q
  · subst hbq; rw [va_up_self]; exact he
  · rw [va_up_ne F e hbq]; exact PLC_rb (h b hb) hbq
theorem SHP_rb {L : List Nat} {kd si ro rb : Nat → Nat} {q k : Nat} (h : SHP L kd si ro rb) (hq : kd q = 1) : SHP L kd si ro (va_up rb q k) := fun a ha => by
  refine ⟨(h a ha).1, fun h7 => ?_, (h a ha).2.2.1, (h a ha).2.2.2⟩
  have hne : a ≠ q := fun h9 => by rw [h9, hq] at h7; exact absurd h7 (by decide)
  rw [va_up_ne rb k hne]
  exact (h a ha).2.1 h7
theorem kd_ne {kd : Nat → Nat} {a b : Nat} (h : kd a ≠ kd b) : a ≠ b := fun h9 => h (by rw [h9])
set_option maxHeartbeats 4000000 in
set_option maxRecDepth 100000 in
/-- find -/
theorem c_An_find (l : Launch) (dC : Nat → ClassId) (dI : Nat → Nat → Nat) (cT : Nat → ClassId) (sz : Nat) (aw : Nat) (ap : Nat) (tu : Int32) (kk : Nat) (gk : Nat → Option Nat) (L : List Nat) (F : Nat → va_E) (kd : Nat → Nat) (si : Nat → Nat) (ro : Nat → Nat) (rb : Nat → Nat) (x : Int32) (y : Int32) (hkk : kk ≤ 40) (hg7 : ∀ i9, i9 < 40 → ∃ q9, gk i9 = some q9 ∧ q9 ∈ L ∧ kd q9 = 7) (hnd : L.Nodup) (hsh : SHP L kd si ro rb) (hF : PLS cT kd si ro rb L F) : Met l y_An_find (Cond.code y_An_find b_An_find 4 (Option.some (Jvm.ClassFile.FieldType.object "DoorServer$Kept")) :: BIG) ({ frames := 0, cells := 0, slots := 0, locals := 0 }) (va_Pc [.ref aw, .int x, .int y] (fun U => U.heap.size = sz ∧ va_P (dC, dI) vcl ([(aw, .inr (6, [.ref ap, .int tu, .int (nI kk)])), (ap, .inl ((cT 3), 40, .inr (.inr (.inr (.inr gk)))))] ++ va_pl L F) U.heap ∧ va_K (dC, dI) vcl (tyL cT) U ∧ va_D (fun _ => True) ([(aw, .inr (6, [.ref ap, .int tu, .int (nI kk)])), (ap, .inl ((cT 3), 40, .inr (.inr (.inr (.inr gk)))))] ++ va_pl L F))) (va_Qq (S := Unit) (fun rv9 u => rv9 = none ∨ ∃ q9, rv9 = some q9 ∧ q9 ∈ L ∧ kd q9 = 7) (fun u t => va_P (dC, dI) vcl ([(aw, .inr (6, [.ref ap, .int tu, .int (nI kk)])), (ap, .inl ((cT 3), 40, .inr (.inr (.inr (.inr gk)))))] ++ va_pl L F) t.heap ∧ va_K (dC, dI) vcl (tyL cT) t ∧ va_D (va_A ([(aw, .inr (6, [.ref ap, .int tu, .int (nI kk)])), (ap, .inl ((cT 3), 40, .inr (.inr (.inr (.inr gk)))))] ++ va_pl L F) sz) ([(aw, .inr (6, [.ref ap, .int tu, .int (nI kk)])), (ap, .inl ((cT 3), 40, .inr (.inr (.inr (.inr gk)))))] ++ va_pl L F)) (va_A ([(aw, .inr (6, [.ref ap, .int tu, .int (nI kk)])), (ap, .inl ((cT 3), 40, .inr (.inr (.inr (.inr gk)))))] ++ va_pl L F) sz)) 0 0 (va_A ([(aw, .inr (6, [.ref ap, .int tu, .int (nI kk)])), (ap, .inl ((cT 3), 40, .inr (.inr (.inr (.inr gk)))))] ++ va_pl L F) sz) := by
  refine Met.ofW (cc := b_An_find) (maxL := 4) (ret := (Option.some (Jvm.ClassFile.FieldType.object "DoorServer$Kept"))) (by decide) rfl ?_
  intro p e s m args below meth c s₁ B hml hv
  obtain ⟨hargs, hsz, hP, hK, hD0⟩ := hv
  have hx := B.exec
  have hb := B.bytes
  have hr := B.returns
  have hts := atoms_spec (ws := (Cond.code y_An_find b_An_find 4 (Option.some (Jvm.ClassFile.FieldType.object "DoorServer$Kept")) :: BIG)) B.pre
  have hg : ∀ w ∈ BIG, w.before _ s = true := fun w h => hts w (List.mem_cons_of_mem _ h)
  have hown : s.vm.findClass "DoorServer$Answers" = some m.cls := findClass_of_methodNamed B.named
  have hlocks := B.notSynchronized
  subst hsz
  have hD := hD0.self (sz := s.heap.size)
  generalize hAe : va_A ([(aw, .inr (6, [.ref ap, .int tu, .int (nI kk)])), (ap, .inl ((cT 3), 40, .inr (.inr (.inr (.inr gk)))))] ++ va_pl L F) s.heap.size = A at hD ⊢
  have hA : ∀ q : Nat, s.heap.size ≤ q → A q := fun q h => by rw [← hAe]; exact Or.inr h
  have hS : va_S A s.heap s.heap [] := va_S.rf
  have hl := lv_entry ([.ref aw, .int x, .int y]) (n := 4) (Nat.le_of_ble_eq_true rfl)
  refine W.eq (g2 := entryFrame m (List.toArray [.ref aw, .int x, .int y]) 4) (by rw [hargs]) ?_
  rw [lg_entry_eq]
  generalize (lg_sl ([.ref aw, .int x, .int y]) ++ List.replicate (4 - (lg_sl ([.ref aw, .int x, .int y])).length) Slot.unset).toArray = ls at hl ⊢
  have hl : lv_has ls 4 [(0, .ref aw), (1, .int x), (2, .int y)] := hl
  change W p l e ({ frames := 0, cells := 0, slots := 0, locals := 0 } : Room) s m args below meth c s.heap [] 0 0 _ _
  have hP : va_P (dC, dI) vcl ([(aw, .inr (6, [.ref ap, .int tu, .int (nI kk)])), (ap, .inl ((cT 3), 40, .inr (.inr (.inr (.inr gk)))))] ++ va_pl L F) s.heap := hP
  refine lv_iconst (v := 0) hx hb d_An_find_0 (by decide) ?_
  refine lv_istore_n (lv' := [(3, .int 0), (0, .ref aw), (1, .int x), (2, .int y)]) hx hb d_An_find_1 rfl hl (by decide) rfl (fun ls hl => ?_)
  have hl := lv_sub hl [0, 1, 2, 3] (show _ = [(3, .int 0), (0, .ref aw), (1, .int x), (2, .int y)] from rfl)
  have L1 : ∀ (Q : State → Prop) (ex0 : ∀  (H : Heap) (locs : List Loc) (ls : Array Slot), va_P (dC, dI) vcl ([(aw, .inr (6, [.ref ap, .int tu, .int (nI kk)])), (ap, .inl ((cT 3), 40, .inr (.inr (.inr (.inr gk)))))] ++ va_pl L F) H → va_D A ([(aw, .inr (6, [.ref ap, .int tu, .int (nI kk)])), (ap, .inl ((cT 3), 40, .inr (.inr (.inr (.inr gk)))))] ++ va_pl L F) → va_S A s.heap H locs → lv_has ls 4 [(0, .ref aw)] → W p l e ({ frames := 0, cells := 0, slots := 0, locals := 0 } : Room) s m args below meth c H locs 0 0 Q (F0 m 49 ls [])) (ex1 : ∀ (q : Nat) (H : Heap) (locs : List Loc) (ls : Array Slot), (q ∈ L ∧ kd q = 7) → va_P (dC, dI) vcl ([(aw, .inr (6, [.ref ap, .int tu, .int (nI kk)])), (ap, .inl ((cT 3), 40, .inr (.inr (.inr (.inr gk)))))] ++ va_pl L F) H → va_D A ([(aw, .inr (6, [.ref ap, .int tu, .int (nI kk)])), (ap, .inl ((cT 3), 40, .inr (.inr (.inr (.inr gk)))))] ++ va_pl L F) → va_S A s.heap H locs → lv_has ls 4 [(0, .ref aw)] → W p l e ({ frames := 0, cells := 0, slots := 0, locals := 0 } : Room) s m args below meth c H locs 0 0 Q (F0 m 42 ls [.ref q])) (jj2 : Nat) (i : Nat) (H : Heap) (locs : List Loc) (ls : Array Slot), kk - i ≤ jj2 → (i ≤ kk) → va_P (dC, dI) vcl ([(aw, .inr (6, [.ref ap, .int tu, .int (nI kk)])), (ap, .inl ((cT 3), 40, .inr (.inr (.inr (.inr gk)))))] ++ va_pl L F) H → va_D A ([(aw, .inr (6, [.ref ap, .int tu, .int (nI kk)])), (ap, .inl ((cT 3), 40, .inr (.inr (.inr (.inr gk)))))] ++ va_pl L F) → va_S A s.heap H locs → lv_has ls 4 [(3, .int (nI i)), (0, .ref aw), (1, .int x), (2, .int y)] → W p l e ({ frames := 0, cells := 0, slots := 0, locals := 0 } : Room) s m args below meth c H locs 0 0 Q (F0 m 2 ls []) := by
    intro Q ex0 ex1 jj2
    induction jj2 with
    | zero => 
      intro i H locs ls hm9 hi hP hD hS hl
      refine lv_iload_n hx hb d_An_find_2 rfl (lv_at hl 0 rfl) ?_
      refine lv_aload_n hx hb d_An_find_3 rfl (lv_at hl 1 rfl) ?_
      refine va_get (D := (dC, dI)) (ci := 6) (v := (.int (nI kk))) (C := R_An) (T := F_An) (N := 3) hx hb hg in_An hown hK hP 0 rfl rfl 2 (by decide) (hg _ k_182) (fun _ h9 => h9) rfl d_An_find_4 ?_
      refine lv_icmp_ge (tgt := 49) hx hb d_An_find_7 (by decide) (fun hc3 => ?_) (fun hc3 => ?_)
      · skip
        have hl := lv_sub hl [1] (show _ = [(0, .ref aw)] from rfl)
        exact ex0  _ _ _  hP hD hS hl
      · skip
        have h1 : i < kk := Nat.not_le.mp (fun h7 => hc3 (nI_le h7 (by omega)))
        obtain ⟨q, hq1, hq2, hq3⟩ := hg7 i (by omega)
        obtain ⟨x1, x2, x3, x4, hFq⟩ := (hF q hq2).2.2.1 hq3
        refine lv_aload_n hx hb d_An_find_10 rfl (lv_at hl 1 rfl) ?_
        refine va_get (D := (dC, dI)) (ci := 6) (v := (.ref ap)) (C := R_An) (T := F_An) (N := 3) hx hb hg in_An hown hK hP 0 rfl rfl 0 (by decide) (hg _ k_180) (fun _ h9 => h9) rfl d_An_find_11 ?_
        refine lv_iload_n hx hb d_An_find_14 rfl (lv_at hl 0 rfl) ?_
        refine va_aldq hx hb hK hP 1 3 rfl rfl (i := (nI i)) (vp_in_nI (N := 40) (by omega) (by decide)) d_An_find_15 ?_
        rw [show va_rf (gk (nI i).toNatClampNeg) = .ref q from by rw [nI_clamp (by omega), hq1]; rfl]
        obtain ⟨hP, hD⟩ := pl_out (X := [(aw, .inr (6, [.ref ap, .int tu, .int (nI kk)])), (ap, .inl ((cT 3), 40, .inr (.inr (.inr (.inr gk)))))]) hP hD (hq2) (hFq)
        have hP : va_P (dC, dI) vcl ([(aw, .inr (6, [.ref ap, .int tu, .int (nI kk)])), (ap, .inl ((cT 3), 40, .inr (.inr (.inr (.inr gk))))), (q, .inr (7, [.int x1, .int x2, .int x3, .int x4, .ref (ro q), .ref (rb q)]))] ++ va_pl (L.erase q) F) H := hP
        have hD : va_D A ([(aw, .inr (6, [.ref ap, .int tu, .int (nI kk)])), (ap, .inl ((cT 3), 40, .inr (.inr (.inr (.inr gk))))), (q, .inr (7, [.int x1, .int x2, .int x3, .int x4, .ref (ro q), .ref (rb q)]))] ++ va_pl (L.erase q) F) := hD
        refine va_get (D := (dC, dI)) (ci := 7) (v := (.int x1)) (C := R_Ke) (T := F_Ke) (N := 6) hx hb hg in_Ke hown hK hP 2 rfl rfl 0 (by decide) (hg _ k_156) (fun _ h9 => h9) rfl d_An_find_16 ?_
        refine lv_iload_n hx hb d_An_find_19 rfl (lv_at hl 2 rfl) ?_
        refine lv_icmp_ne (tgt := 43) hx hb d_An_find_20 (by decide) (fun hc4 => ?_) (fun hc4 => ?_)
        · skip
          obtain ⟨hP, hD⟩ := pl_in (X := [(aw, .inr (6, [.ref ap, .int tu, .int (nI kk)])), (ap, .inl ((cT 3), 40, .inr (.inr (.inr (.inr gk)))))]) hP hD (hq2) (hnd)
          have hP : va_P (dC, dI) vcl ([(aw, .inr (6, [.ref ap, .int tu, .int (nI kk)])), (ap, .inl ((cT 3), 40, .inr (.inr (.inr (.inr gk)))))] ++ va_pl L (va_up F q (.inr (7, [.int x1, .int x2, .int x3, .int x4, .ref (ro q), .ref (rb q)])))) H := hP
          have hD : va_D A ([(aw, .inr (6, [.ref ap, .int tu, .int (nI kk)])), (ap, .inl ((cT 3), 40, .inr (.inr (.inr (.inr gk)))))] ++ va_pl L (va_up F q (.inr (7, [.int x1, .int x2, .int x3, .int x4, .ref (ro q), .ref (rb q)])))) := hD
          rw [up_id hFq] at hP hD
          have hP : va_P (dC, dI) vcl ([(aw, .inr (6, [.ref ap, .int tu, .int (nI kk)])), (ap, .inl ((cT 3), 40, .inr (.inr (.inr (.inr gk)))))] ++ va_pl L F) H := hP
          have hD : va_D A ([(aw, .inr (6, [.ref ap, .int tu, .int (nI kk)])), (ap, .inl ((cT 3), 40, .inr (.inr (.inr (.inr gk)))))] ++ va_pl L F) := hD
          refine lv_iinc (k := 0) (v := nI (i + 1)) (lv' := [(3, .int (nI (i + 1))), (0, .ref aw), (1, .int x), (2, .int y)]) hx hb d_An_find_43 hl rfl (nI_1 i) (by decide) rfl (fun ls hl => ?_)
          refine lv_goto (tgt := 2) hx hb d_An_find_46 (by decide) ?_
          exfalso; omega
        · skip
          refine lv_aload_n hx hb d_An_find_23 rfl (lv_at hl 1 rfl) ?_
          refine va_get (D := (dC, dI)) (ci := 6) (v := (.ref ap)) (C := R_An) (T := F_An) (N := 3) hx hb hg in_An hown hK hP 0 rfl rfl 0 (by decide) (hg _ k_180) (fun _ h9 => h9) rfl d_An_find_24 ?_
          refine lv_iload_n hx hb d_An_find_27 rfl (lv_at hl 0 rfl) ?_
          refine va_aldq hx hb hK hP 1 3 rfl rfl (i := (nI i)) (vp_in_nI (N := 40) (by omega) (by decide)) d_An_find_28 ?_
          rw [show va_rf (gk (nI i).toNatClampNeg) = .ref q from by rw [nI_clamp (by omega), hq1]; rfl]
          refine va_get (D := (dC, dI)) (ci := 7) (v := (.int x2)) (C := R_Ke) (T := F_Ke) (N := 6) hx hb hg in_Ke hown hK hP 2 rfl rfl 1 (by decide) (hg _ k_157) (fun _ h9 => h9) rfl d_An_find_29 ?_
          refine lv_iload_n hx hb d_An_find_32 rfl (lv_at hl 3 rfl) ?_
          refine lv_icmp_ne (tgt := 43) hx hb d_An_find_33 (by decide) (fun hc5 => ?_) (fun hc5 => ?_)
          · skip
            obtain ⟨hP, hD⟩ := pl_in (X := [(aw, .inr (6, [.ref ap, .int tu, .int (nI kk)])), (ap, .inl ((cT 3), 40, .inr (.inr (.inr (.inr gk)))))]) hP hD (hq2) (hnd)
            have hP : va_P (dC, dI) vcl ([(aw, .inr (6, [.ref ap, .int tu, .int (nI kk)])), (ap, .inl ((cT 3), 40, .inr (.inr (.inr (.inr gk)))))] ++ va_pl L (va_up F q (.inr (7, [.int x1, .int x2, .int x3, .int x4, .ref (ro q), .ref (rb q)])))) H := hP
            have hD : va_D A ([(aw, .inr (6, [.ref ap, .int tu, .int (nI kk)])), (ap, .inl ((cT 3), 40, .inr (.inr (.inr (.inr gk)))))] ++ va_pl L (va_up F q (.inr (7, [.int x1, .int x2, .int x3, .int x4, .ref (ro q), .ref (rb q)])))) := hD
            rw [up_id hFq] at hP hD
            have hP : va_P (dC, dI) vcl ([(aw, .inr (6, [.ref ap, .int tu, .int (nI kk)])), (ap, .inl ((cT 3), 40, .inr (.inr (.inr (.inr gk)))))] ++ va_pl L F) H := hP
            have hD : va_D A ([(aw, .inr (6, [.ref ap, .int tu, .int (nI kk)])), (ap, .inl ((cT 3), 40, .inr (.inr (.inr (.inr gk)))))] ++ va_pl L F) := hD
            refine lv_iinc (k := 0) (v := nI (i + 1)) (lv' := [(3, .int (nI (i + 1))), (0, .ref aw), (1, .int x), (2, .int y)]) hx hb d_An_find_43 hl rfl (nI_1 i) (by decide) rfl (fun ls hl => ?_)
            refine lv_goto (tgt := 2) hx hb d_An_find_46 (by decide) ?_
            exfalso; omega
          · skip
            refine lv_aload_n hx hb d_An_find_36 rfl (lv_at hl 1 rfl) ?_
            refine va_get (D := (dC, dI)) (ci := 6) (v := (.ref ap)) (C := R_An) (T := F_An) (N := 3) hx hb hg in_An hown hK hP 0 rfl rfl 0 (by decide) (hg _ k_180) (fun _ h9 => h9) rfl d_An_find_37 ?_
            refine lv_iload_n hx hb d_An_find_40 rfl (lv_at hl 0 rfl) ?_
            refine va_aldq hx hb hK hP 1 3 rfl rfl (i := (nI i)) (vp_in_nI (N := 40) (by omega) (by decide)) d_An_find_41 ?_
            rw [show va_rf (gk (nI i).toNatClampNeg) = .ref q from by rw [nI_clamp (by omega), hq1]; rfl]
            obtain ⟨hP, hD⟩ := pl_in (X := [(aw, .inr (6, [.ref ap, .int tu, .int (nI kk)])), (ap, .inl ((cT 3), 40, .inr (.inr (.inr (.inr gk)))))]) hP hD (hq2) (hnd)
            have hP : va_P (dC, dI) vcl ([(aw, .inr (6, [.ref ap, .int tu, .int (nI kk)])), (ap, .inl ((cT 3), 40, .inr (.inr (.inr (.inr gk)))))] ++ va_pl L (va_up F q (.inr (7, [.int x1, .int x2, .int x3, .int x4, .ref (ro q), .ref (rb q)])))) H := hP
            have hD : va_D A ([(aw, .inr (6, [.ref ap, .int tu, .int (nI kk)])), (ap, .inl ((cT 3), 40, .inr (.inr (.inr (.inr gk)))))] ++ va_pl L (va_up F q (.inr (7, [.int x1, .int x2, .int x3, .int x4, .ref (ro q), .ref (rb q)])))) := hD
            rw [up_id hFq] at hP hD
            have hP : va_P (dC, dI) vcl ([(aw, .inr (6, [.ref ap, .int tu, .int (nI kk)])), (ap, .inl ((cT 3), 40, .inr (.inr (.inr (.inr gk)))))] ++ va_pl L F) H := hP
            have hD : va_D A ([(aw, .inr (6, [.ref ap, .int tu, .int (nI kk)])), (ap, .inl ((cT 3), 40, .inr (.inr (.inr (.inr gk)))))] ++ va_pl L F) := hD
            have hl := lv_sub hl [1] (show _ = [(0, .ref aw)] from rfl)
            exact ex1 q _ _ _ (⟨hq2, hq3⟩) hP hD hS hl
    | succ jj2 ih => 
      intro i H locs ls hm9 hi hP hD hS hl
      refine lv_iload_n hx hb d_An_find_2 rfl (lv_at hl 0 rfl) ?_
      refine lv_aload_n hx hb d_An_find_3 rfl (lv_at hl 1 rfl) ?_
      refine va_get (D := (dC, dI)) (ci := 6) (v := (.int (nI kk))) (C := R_An) (T := F_An) (N := 3) hx hb hg in_An hown hK hP 0 rfl rfl 2 (by decide) (hg _ k_182) (fun _ h9 => h9) rfl d_An_find_4 ?_
      refine lv_icmp_ge (tgt := 49) hx hb d_An_find_7 (by decide) (fun hc6 => ?_) (fun hc6 => ?_)
      · skip
        have hl := lv_sub hl [1] (show _ = [(0, .ref aw)] from rfl)
        exact ex0  _ _ _  hP hD hS hl
      · skip
        have h1 : i < kk := Nat.not_le.mp (fun h7 => hc6 (nI_le h7 (by omega)))
        obtain ⟨q, hq1, hq2, hq3⟩ := hg7 i (by omega)
        obtain ⟨x1, x2, x3, x4, hFq⟩ := (hF q hq2).2.2.1 hq3
        refine lv_aload_n hx hb d_An_find_10 rfl (lv_at hl 1 rfl) ?_
        refine va_get (D := (dC, dI)) (ci := 6) (v := (.ref ap)) (C := R_An) (T := F_An) (N := 3) hx hb hg in_An hown hK hP 0 rfl rfl 0 (by decide) (hg _ k_180) (fun _ h9 => h9) rfl d_An_find_11 ?_
        refine lv_iload_n hx hb d_An_find_14 rfl (lv_at hl 0 rfl) ?_
        refine va_aldq hx hb hK hP 1 3 rfl rfl (i := (nI i)) (vp_in_nI (N := 40) (by omega) (by decide)) d_An_find_15 ?_
        rw [show va_rf (gk (nI i).toNatClampNeg) = .ref q from by rw [nI_clamp (by omega), hq1]; rfl]
        obtain ⟨hP, hD⟩ := pl_out (X := [(aw, .inr (6, [.ref ap, .int tu, .int (nI kk)])), (ap, .inl ((cT 3), 40, .inr (.inr (.inr (.inr gk)))))]) hP hD (hq2) (hFq)
        have hP : va_P (dC, dI) vcl ([(aw, .inr (6, [.ref ap, .int tu, .int (nI kk)])), (ap, .inl ((cT 3), 40, .inr (.inr (.inr (.inr gk))))), (q, .inr (7, [.int x1, .int x2, .int x3, .int x4, .ref (ro q), .ref (rb q)]))] ++ va_pl (L.erase q) F) H := hP
        have hD : va_D A ([(aw, .inr (6, [.ref ap, .int tu, .int (nI kk)])), (ap, .inl ((cT 3), 40, .inr (.inr (.inr (.inr gk))))), (q, .inr (7, [.int x1, .int x2, .int x3, .int x4, .ref (ro q), .ref (rb q)]))] ++ va_pl (L.erase q) F) := hD
        refine va_get (D := (dC, dI)) (ci := 7) (v := (.int x1)) (C := R_Ke) (T := F_Ke) (N := 6) hx hb hg in_Ke hown hK hP 2 rfl rfl 0 (by decide) (hg _ k_156) (fun _ h9 => h9) rfl d_An_find_16 ?_
        refine lv_iload_n hx hb d_An_find_19 rfl (lv_at hl 2 rfl) ?_
        refine lv_icmp_ne (tgt := 43) hx hb d_An_find_20 (by decide) (fun hc7 => ?_) (fun hc7 => ?_)
        · skip
          obtain ⟨hP, hD⟩ := pl_in (X := [(aw, .inr (6, [.ref ap, .int tu, .int (nI kk)])), (ap, .inl ((cT 3), 40, .inr (.inr (.inr (.inr gk)))))]) hP hD (hq2) (hnd)
          have hP : va_P (dC, dI) vcl ([(aw, .inr (6, [.ref ap, .int tu, .int (nI kk)])), (ap, .inl ((cT 3), 40, .inr (.inr (.inr (.inr gk)))))] ++ va_pl L (va_up F q (.inr (7, [.int x1, .int x2, .int x3, .int x4, .ref (ro q), .ref (rb q)])))) H := hP
          have hD : va_D A ([(aw, .inr (6, [.ref ap, .int tu, .int (nI kk)])), (ap, .inl ((cT 3), 40, .inr (.inr (.inr (.inr gk)))))] ++ va_pl L (va_up F q (.inr (7, [.int x1, .int x2, .int x3, .int x4, .ref (ro q), .ref (rb q)])))) := hD
          rw [up_id hFq] at hP hD
          have hP : va_P (dC, dI) vcl ([(aw, .inr (6, [.ref ap, .int tu, .int (nI kk)])), (ap, .inl ((cT 3), 40, .inr (.inr (.inr (.inr gk)))))] ++ va_pl L F) H := hP
          have hD : va_D A ([(aw, .inr (6, [.ref ap, .int tu, .int (nI kk)])), (ap, .inl ((cT 3), 40, .inr (.inr (.inr (.inr gk)))))] ++ va_pl L F) := hD
          refine lv_iinc (k := 0) (v := nI (i + 1)) (lv' := [(3, .int (nI (i + 1))), (0, .ref aw), (1, .int x), (2, .int y)]) hx hb d_An_find_43 hl rfl (nI_1 i) (by decide) rfl (fun ls hl => ?_)
          refine lv_goto (tgt := 2) hx hb d_An_find_46 (by decide) ?_
          exact ih (i + 1) _ _ _ (by omega) (by omega) hP hD hS hl
        · skip
          refine lv_aload_n hx hb d_An_find_23 rfl (lv_at hl 1 rfl) ?_
          refine va_get (D := (dC, dI)) (ci := 6) (v := (.ref ap)) (C := R_An) (T := F_An) (N := 3) hx hb hg in_An hown hK hP 0 rfl rfl 0 (by decide) (hg _ k_180) (fun _ h9 => h9) rfl d_An_find_24 ?_
          refine lv_iload_n hx hb d_An_find_27 rfl (lv_at hl 0 rfl) ?_
          refine va_aldq hx hb hK hP 1 3 rfl rfl (i := (nI i)) (vp_in_nI (N := 40) (by omega) (by decide)) d_An_find_28 ?_
          rw [show va_rf (gk (nI i).toNatClampNeg) = .ref q from by rw [nI_clamp (by omega), hq1]; rfl]
          refine va_get (D := (dC, dI)) (ci := 7) (v := (.int x2)) (C := R_Ke) (T := F_Ke) (N := 6) hx hb hg in_Ke hown hK hP 2 rfl rfl 1 (by decide) (hg _ k_157) (fun _ h9 => h9) rfl d_An_find_29 ?_
          refine lv_iload_n hx hb d_An_find_32 rfl (lv_at hl 3 rfl) ?_
          refine lv_icmp_ne (tgt := 43) hx hb d_An_find_33 (by decide) (fun hc8 => ?_) (fun hc8 => ?_)
          · skip
            obtain ⟨hP, hD⟩ := pl_in (X := [(aw, .inr (6, [.ref ap, .int tu, .int (nI kk)])), (ap, .inl ((cT 3), 40, .inr (.inr (.inr (.inr gk)))))]) hP hD (hq2) (hnd)
            have hP : va_P (dC, dI) vcl ([(aw, .inr (6, [.ref ap, .int tu, .int (nI kk)])), (ap, .inl ((cT 3), 40, .inr (.inr (.inr (.inr gk)))))] ++ va_pl L (va_up F q (.inr (7, [.int x1, .int x2, .int x3, .int x4, .ref (ro q), .ref (rb q)])))) H := hP
            have hD : va_D A ([(aw, .inr (6, [.ref ap, .int tu, .int (nI kk)])), (ap, .inl ((cT 3), 40, .inr (.inr (.inr (.inr gk)))))] ++ va_pl L (va_up F q (.inr (7, [.int x1, .int x2, .int x3, .int x4, .ref (ro q), .ref (rb q)])))) := hD
            rw [up_id hFq] at hP hD
            have hP : va_P (dC, dI) vcl ([(aw, .inr (6, [.ref ap, .int tu, .int (nI kk)])), (ap, .inl ((cT 3), 40, .inr (.inr (.inr (.inr gk)))))] ++ va_pl L F) H := hP
            have hD : va_D A ([(aw, .inr (6, [.ref ap, .int tu, .int (nI kk)])), (ap, .inl ((cT 3), 40, .inr (.inr (.inr (.inr gk)))))] ++ va_pl L F) := hD
            refine lv_iinc (k := 0) (v := nI (i + 1)) (lv' := [(3, .int (nI (i + 1))), (0, .ref aw), (1, .int x), (2, .int y)]) hx hb d_An_find_43 hl rfl (nI_1 i) (by decide) rfl (fun ls hl => ?_)
            refine lv_goto (tgt := 2) hx hb d_An_find_46 (by decide) ?_
            exact ih (i + 1) _ _ _ (by omega) (by omega) hP hD hS hl
          · skip
            refine lv_aload_n hx hb d_An_find_36 rfl (lv_at hl 1 rfl) ?_
            refine va_get (D := (dC, dI)) (ci := 6) (v := (.ref ap)) (C := R_An) (T := F_An) (N := 3) hx hb hg in_An hown hK hP 0 rfl rfl 0 (by decide) (hg _ k_180) (fun _ h9 => h9) rfl d_An_find_37 ?_
            refine lv_iload_n hx hb d_An_find_40 rfl (lv_at hl 0 rfl) ?_
            refine va_aldq hx hb hK hP 1 3 rfl rfl (i := (nI i)) (vp_in_nI (N := 40) (by omega) (by decide)) d_An_find_41 ?_
            rw [show va_rf (gk (nI i).toNatClampNeg) = .ref q from by rw [nI_clamp (by omega), hq1]; rfl]
            obtain ⟨hP, hD⟩ := pl_in (X := [(aw, .inr (6, [.ref ap, .int tu, .int (nI kk)])), (ap, .inl ((cT 3), 40, .inr (.inr (.inr (.inr gk)))))]) hP hD (hq2) (hnd)
            have hP : va_P (dC, dI) vcl ([(aw, .inr (6, [.ref ap, .int tu, .int (nI kk)])), (ap, .inl ((cT 3), 40, .inr (.inr (.inr (.inr gk)))))] ++ va_pl L (va_up F q (.inr (7, [.int x1, .int x2, .int x3, .int x4, .ref (ro q), .ref (rb q)])))) H := hP
            have hD : va_D A ([(aw, .inr (6, [.ref ap, .int tu, .int (nI kk)])), (ap, .inl ((cT 3), 40, .inr (.inr (.inr (.inr gk)))))] ++ va_pl L (va_up F q (.inr (7, [.int x1, .int x2, .int x3, .int x4, .ref (ro q), .ref (rb q)])))) := hD
            rw [up_id hFq] at hP hD
            have hP : va_P (dC, dI) vcl ([(aw, .inr (6, [.ref ap, .int tu, .int (nI kk)])), (ap, .inl ((cT 3), 40, .inr (.inr (.inr (.inr gk)))))] ++ va_pl L F) H := hP
            have hD : va_D A ([(aw, .inr (6, [.ref ap, .int tu, .int (nI kk)])), (ap, .inl ((cT 3), 40, .inr (.inr (.inr (.inr gk)))))] ++ va_pl L F) := hD
            have hl := lv_sub hl [1] (show _ = [(0, .ref aw)] from rfl)
            exact ex1 q _ _ _ (⟨hq2, hq3⟩) hP hD hS hl
  refine L1 _ (fun  H locs ls  hP hD hS hl => ?_) (fun q H locs ls hq hP hD hS hl => ?_) (kk - 0) 0 s.heap _ ls (Nat.le_refl _) (Nat.zero_le _) hP hD hS hl
  · skip
    refine lv_null hx hb d_An_find_49 ?_
    have hP9 := hP.part (cx := [(aw, .inr (6, [.ref ap, .int tu, .int (nI kk)])), (ap, .inl ((cT 3), 40, .inr (.inr (.inr (.inr gk)))))]) [0, 1] rfl
    have hD9 := hD.part (cx := [(aw, .inr (6, [.ref ap, .int tu, .int (nI kk)])), (ap, .inl ((cT 3), 40, .inr (.inr (.inr (.inr gk)))))]) [0, 1] (by decide) rfl
    exact W.aret (v := .null) hx hb hr (by first | exact Or.inr ⟨_, rfl⟩ | exact Or.inl ⟨_, rfl⟩) (Or.inl rfl) (fun t ht hW => ⟨⟨none, (), rfl, Or.inl rfl, by rw [ht]; exact hP9, va_K.moved hW.alike hK, hD9⟩, hS.F ht⟩) hS.2.2 d_An_find_50
  · skip
    have hP9 := hP.part (cx := [(aw, .inr (6, [.ref ap, .int tu, .int (nI kk)])), (ap, .inl ((cT 3), 40, .inr (.inr (.inr (.inr gk)))))]) [0, 1] rfl
    have hD9 := hD.part (cx := [(aw, .inr (6, [.ref ap, .int tu, .int (nI kk)])), (ap, .inl ((cT 3), 40, .inr (.inr (.inr (.inr gk)))))]) [0, 1] (by decide) rfl
    exact W.aret (v := .ref q) hx hb hr (by first | exact Or.inr ⟨_, rfl⟩ | exact Or.inl ⟨_, rfl⟩) (Or.inr ⟨_, rfl⟩) (fun t ht hW => ⟨⟨(some q), (), rfl, Or.inr ⟨q, rfl, hq.1, hq.2⟩, by rw [ht]; exact hP9, va_K.moved hW.alike hK, hD9⟩, hS.F ht⟩) hS.2.2 d_An_find_42
set_option maxHeartbeats 4000000 in
set_option maxRecDepth 100000 in
/-- freePlace -/
theorem c_An_free (l : Launch) (dC : Nat → ClassId) (dI : Nat → Nat → Nat) (cT : Nat → ClassId) (sz : Nat) (aw : Nat) (ap : Nat) (tu : Int32) (kk : Nat) (gk : Nat → Option Nat) (L : List Nat) (F : Nat → va_E) (kd : Nat → Nat) (si : Nat → Nat) (ro : Nat → Nat) (rb : Nat → Nat) (hkk : kk ≤ 40) (hg7 : ∀ i9, i9 < 40 → ∃ q9, gk i9 = some q9 ∧ q9 ∈ L ∧ kd q9 = 7) (hnd : L.Nodup) (hsh : SHP L kd si ro rb) (hF : PLS cT kd si ro rb L F) : Met l y_An_freePlace (Cond.code y_An_freePlace b_An_freePlace 3 (Option.some (Jvm.ClassFile.FieldType.object "DoorServer$Kept")) :: BIG) ({ frames := 0, cells := 0, slots := 0, locals := 0 }) (va_Pc [.ref aw] (fun U => U.heap.size = sz ∧ va_P (dC, dI) vcl ([(aw, .inr (6, [.ref ap, .int tu, .int (nI kk)])), (ap, .inl ((cT 3), 40, .inr (.inr (.inr (.inr gk)))))] ++ va_pl L F) U.heap ∧ va_K (dC, dI) vcl (tyL cT) U ∧ va_D (fun _ => True) ([(aw, .inr (6, [.ref ap, .int tu, .int (nI kk)])), (ap, .inl ((cT 3), 40, .inr (.inr (.inr (.inr gk)))))] ++ va_pl L F))) (va_Qq (S := Nat) (fun rv9 u => match u with | kk2 => kk2 ≤ 40 ∧ ∃ q9, rv9 = some q9 ∧ q9 ∈ L ∧ kd q9 = 7) (fun u t => match u with | kk2 => va_P (dC, dI) vcl ([(aw, .inr (6, [.ref ap, .int tu, .int (nI kk2)])), (ap, .inl ((cT 3), 40, .inr (.inr (.inr (.inr gk)))))] ++ va_pl L F) t.heap ∧ va_K (dC, dI) vcl (tyL cT) t ∧ va_D (va_A ([(aw, .inr (6, [.ref ap, .int tu, .int (nI kk)])), (ap, .inl ((cT 3), 40, .inr (.inr (.inr (.inr gk)))))] ++ va_pl L F) sz) ([(aw, .inr (6, [.ref ap, .int tu, .int (nI kk2)])), (ap, .inl ((cT 3), 40, .inr (.inr (.inr (.inr gk)))))] ++ va_pl L F)) (va_A ([(aw, .inr (6, [.ref ap, .int tu, .int (nI kk)])), (ap, .inl ((cT 3), 40, .inr (.inr (.inr (.inr gk)))))] ++ va_pl L F) sz)) 0 0 (va_A ([(aw, .inr (6, [.ref ap, .int tu, .int (nI kk)])), (ap, .inl ((cT 3), 40, .inr (.inr (.inr (.inr gk)))))] ++ va_pl L F) sz) := by
  refine Met.ofW (cc := b_An_freePlace) (maxL := 3) (ret := (Option.some (Jvm.ClassFile.FieldType.object "DoorServer$Kept"))) (by decide) rfl ?_
  intro p e s m args below meth c s₁ B hml hv
  obtain ⟨hargs, hsz, hP, hK, hD0⟩ := hv
  have hx := B.exec
  have hb := B.bytes
  have hr := B.returns
  have hts := atoms_spec (ws := (Cond.code y_An_freePlace b_An_freePlace 3 (Option.some (Jvm.ClassFile.FieldType.object "DoorServer$Kept")) :: BIG)) B.pre
  have hg : ∀ w ∈ BIG, w.before _ s = true := fun w h => hts w (List.mem_cons_of_mem _ h)
  have hown : s.vm.findClass "DoorServer$Answers" = some m.cls := findClass_of_methodNamed B.named
  have hlocks := B.notSynchronized
  subst hsz
  have hD := hD0.self (sz := s.heap.size)
  generalize hAe : va_A ([(aw, .inr (6, [.ref ap, .int tu, .int (nI kk)])), (ap, .inl ((cT 3), 40, .inr (.inr (.inr (.inr gk)))))] ++ va_pl L F) s.heap.size = A at hD ⊢
  have hA : ∀ q : Nat, s.heap.size ≤ q → A q := fun q h => by rw [← hAe]; exact Or.inr h
  have hS : va_S A s.heap s.heap [] := va_S.rf
  have hl := lv_entry ([.ref aw]) (n := 3) (Nat.le_of_ble_eq_true rfl)
  refine W.eq (g2 := entryFrame m (List.toArray [.ref aw]) 3) (by rw [hargs]) ?_
  rw [lg_entry_eq]
  generalize (lg_sl ([.ref aw]) ++ List.replicate (3 - (lg_sl ([.ref aw])).length) Slot.unset).toArray = ls at hl ⊢
  have hl : lv_has ls 3 [(0, .ref aw)] := hl
  change W p l e ({ frames := 0, cells := 0, slots := 0, locals := 0 } : Room) s m args below meth c s.heap [] 0 0 _ _
  have hP : va_P (dC, dI) vcl ([(aw, .inr (6, [.ref ap, .int tu, .int (nI kk)])), (ap, .inl ((cT 3), 40, .inr (.inr (.inr (.inr gk)))))] ++ va_pl L F) s.heap := hP
  refine lv_aload_n hx hb d_An_freePlace_0 rfl (lv_at hl 0 rfl) ?_
  refine va_get (D := (dC, dI)) (ci := 6) (v := (.int (nI kk))) (C := R_An) (T := F_An) (N := 3) hx hb hg in_An hown hK hP 0 rfl rfl 2 (by decide) (hg _ k_182) (fun _ h9 => h9) rfl d_An_freePlace_1 ?_
  refine lv_bipush (v := 40) hx hb d_An_freePlace_4 (by decide) ?_
  refine lv_icmp_ge (tgt := 31) hx hb d_An_freePlace_6 (by decide) (fun hc9 => ?_) (fun hc9 => ?_)
  · skip
    obtain ⟨q, hq1, hq2, hq3⟩ := hg7 0 (by decide)
    refine lv_aload_n hx hb d_An_freePlace_31 rfl (lv_at hl 0 rfl) ?_
    refine va_get (D := (dC, dI)) (ci := 6) (v := (.ref ap)) (C := R_An) (T := F_An) (N := 3) hx hb hg in_An hown hK hP 0 rfl rfl 0 (by decide) (hg _ k_180) (fun _ h9 => h9) rfl d_An_freePlace_32 ?_
    refine lv_iconst (v := 0) hx hb d_An_freePlace_35 (by decide) ?_
    refine lv_topi (fun x11 e10 => ?_)
    obtain rfl : x11 = nI 0 := by rw [e10]; rfl
    refine va_aldq hx hb hK hP 1 3 rfl rfl (i := (nI 0)) (vp_in_nI (N := 40) (by omega) (by decide)) d_An_freePlace_36 ?_
    rw [show va_rf (gk (nI 0).toNatClampNeg) = .ref q from by rw [nI_clamp (by omega), hq1]; rfl]
    refine lv_astore_n (lv' := [(1, .ref q), (0, .ref aw)]) hx hb d_An_freePlace_37 rfl hl (by decide) rfl (fun ls hl => ?_)
    refine lv_iconst (v := 1) hx hb d_An_freePlace_38 (by decide) ?_
    refine lv_istore_n (lv' := [(2, .int 1), (1, .ref q), (0, .ref aw)]) hx hb d_An_freePlace_39 rfl hl (by decide) rfl (fun ls hl => ?_)
    have hl := lv_sub hl [0, 1, 2] (show _ = [(2, .int 1), (1, .ref q), (0, .ref aw)] from rfl)
    have L12 : ∀ (Q : State → Prop) (ex0 : ∀ (q : Nat) (H : Heap) (locs : List Loc) (ls : Array Slot), (q ∈ L ∧ kd q = 7) → va_P (dC, dI) vcl ([(aw, .inr (6, [.ref ap, .int tu, .int (nI kk)])), (ap, .inl ((cT 3), 40, .inr (.inr (.inr (.inr gk)))))] ++ va_pl L F) H → va_D A ([(aw, .inr (6, [.ref ap, .int tu, .int (nI kk)])), (ap, .inl ((cT 3), 40, .inr (.inr (.inr (.inr gk)))))] ++ va_pl L F) → va_S A s.heap H locs → lv_has ls 3 [(1, .ref q), (0, .ref aw)] → W p l e ({ frames := 0, cells := 0, slots := 0, locals := 0 } : Room) s m args below meth c H locs 0 0 Q (F0 m 75 ls [])) (jj13 : Nat) (i : Nat) (q : Nat) (H : Heap) (locs : List Loc) (ls : Array Slot), 40 - i ≤ jj13 → (i ≤ 40) → (q ∈ L ∧ kd q = 7) → va_P (dC, dI) vcl ([(aw, .inr (6, [.ref ap, .int tu, .int (nI kk)])), (ap, .inl ((cT 3), 40, .inr (.inr (.inr (.inr gk)))))] ++ va_pl L F) H → va_D A ([(aw, .inr (6, [.ref ap, .int tu, .int (nI kk)])), (ap, .inl ((cT 3), 40, .inr (.inr (.inr (.inr gk)))))] ++ va_pl L F) → va_S A s.heap H locs → lv_has ls 3 [(2, .int (nI i)), (1, .ref q), (0, .ref aw)] → W p l e ({ frames := 0, cells := 0, slots := 0, locals := 0 } : Room) s m args below meth c H locs 0 0 Q (F0 m 40 ls []) := by
      intro Q ex0 jj13
      induction jj13 with
      | zero => 
        intro i q H locs ls hm9 hi hq hP hD hS hl
        refine lv_iload_n hx hb d_An_freePlace_40 rfl (lv_at hl 0 rfl) ?_
        refine lv_bipush (v := 40) hx hb d_An_freePlace_41 (by decide) ?_
        refine lv_icmp_ge (tgt := 75) hx hb d_An_freePlace_43 (by decide) (fun hc14 => ?_) (fun hc14 => ?_)
        · skip
          have hl := lv_sub hl [1, 2] (show _ = [(1, .ref q), (0, .ref aw)] from rfl)
          exact ex0 q _ _ _ (hq) hP hD hS hl
        · skip
          have h1 : i < 40 := Nat.not_le.mp (fun h7 => hc14 (nI_le (a := 40) h7 (by omega)))
          obtain ⟨q2, hq1, hq2, hq3⟩ := hg7 i (by omega)
          obtain ⟨x1, x2, x3, x4, hFq⟩ := (hF q2 hq2).2.2.1 hq3
          refine lv_aload_n hx hb d_An_freePlace_46 rfl (lv_at hl 2 rfl) ?_
          refine va_get (D := (dC, dI)) (ci := 6) (v := (.ref ap)) (C := R_An) (T := F_An) (N := 3) hx hb hg in_An hown hK hP 0 rfl rfl 0 (by decide) (hg _ k_180) (fun _ h9 => h9) rfl d_An_freePlace_47 ?_
          refine lv_iload_n hx hb d_An_freePlace_50 rfl (lv_at hl 0 rfl) ?_
          refine va_aldq hx hb hK hP 1 3 rfl rfl (i := (nI i)) (vp_in_nI (N := 40) (by omega) (by decide)) d_An_freePlace_51 ?_
          rw [show va_rf (gk (nI i).toNatClampNeg) = .ref q2 from by rw [nI_clamp (by omega), hq1]; rfl]
          obtain ⟨hP, hD⟩ := pl_out (X := [(aw, .inr (6, [.ref ap, .int tu, .int (nI kk)])), (ap, .inl ((cT 3), 40, .inr (.inr (.inr (.inr gk)))))]) hP hD (hq2) (hFq)
          have hP : va_P (dC, dI) vcl ([(aw, .inr (6, [.ref ap, .int tu, .int (nI kk)])), (ap, .inl ((cT 3), 40, .inr (.inr (.inr (.inr gk))))), (q2, .inr (7, [.int x1, .int x2, .int x3, .int x4, .ref (ro q2), .ref (rb q2)]))] ++ va_pl (L.erase q2) F) H := hP
          have hD : va_D A ([(aw, .inr (6, [.ref ap, .int tu, .int (nI kk)])), (ap, .inl ((cT 3), 40, .inr (.inr (.inr (.inr gk))))), (q2, .inr (7, [.int x1, .int x2, .int x3, .int x4, .ref (ro q2), .ref (rb q2)]))] ++ va_pl (L.erase q2) F) := hD
          refine va_get (D := (dC, dI)) (ci := 7) (v := (.int x4)) (C := R_Ke) (T := F_Ke) (N := 6) hx hb hg in_Ke hown hK hP 2 rfl rfl 3 (by decide) (hg _ k_160) (fun _ h9 => h9) rfl d_An_freePlace_52 ?_
          by_cases hqq : q2 = q
          · skip
            subst hqq
            refine lv_aload_n hx hb d_An_freePlace_55 rfl (lv_at hl 1 rfl) ?_
            refine va_get (D := (dC, dI)) (ci := 7) (v := (.int x4)) (C := R_Ke) (T := F_Ke) (N := 6) hx hb hg in_Ke hown hK hP 2 rfl rfl 3 (by decide) (hg _ k_160) (fun _ h9 => h9) rfl d_An_freePlace_56 ?_
            refine lv_icmp_ge (tgt := 69) hx hb d_An_freePlace_59 (by decide) (fun hc15 => ?_) (fun hc15 => ?_)
            · skip
              obtain ⟨hP, hD⟩ := pl_in (X := [(aw, .inr (6, [.ref ap, .int tu, .int (nI kk)])), (ap, .inl ((cT 3), 40, .inr (.inr (.inr (.inr gk)))))]) hP hD (hq2) (hnd)
              have hP : va_P (dC, dI) vcl ([(aw, .inr (6, [.ref ap, .int tu, .int (nI kk)])), (ap, .inl ((cT 3), 40, .inr (.inr (.inr (.inr gk)))))] ++ va_pl L (va_up F q2 (.inr (7, [.int x1, .int x2, .int x3, .int x4, .ref (ro q2), .ref (rb q2)])))) H := hP
              have hD : va_D A ([(aw, .inr (6, [.ref ap, .int tu, .int (nI kk)])), (ap, .inl ((cT 3), 40, .inr (.inr (.inr (.inr gk)))))] ++ va_pl L (va_up F q2 (.inr (7, [.int x1, .int x2, .int x3, .int x4, .ref (ro q2), .ref (rb q2)])))) := hD
              rw [up_id hFq] at hP hD
              have hP : va_P (dC, dI) vcl ([(aw, .inr (6, [.ref ap, .int tu, .int (nI kk)])), (ap, .inl ((cT 3), 40, .inr (.inr (.inr (.inr gk)))))] ++ va_pl L F) H := hP
              have hD : va_D A ([(aw, .inr (6, [.ref ap, .int tu, .int (nI kk)])), (ap, .inl ((cT 3), 40, .inr (.inr (.inr (.inr gk)))))] ++ va_pl L F) := hD
              refine lv_iinc (k := 0) (v := nI (i + 1)) (lv' := [(2, .int (nI (i + 1))), (1, .ref q2), (0, .ref aw)]) hx hb d_An_freePlace_69 hl rfl (nI_1 i) (by decide) rfl (fun ls hl => ?_)
              refine lv_goto (tgt := 40) hx hb d_An_freePlace_72 (by decide) ?_
              have hl := lv_sub hl [0, 1, 2] (show _ = [(2, .int (nI (i + 1))), (1, .ref q2), (0, .ref aw)] from rfl)
              exfalso; omega
            · skip
              refine lv_aload_n hx hb d_An_freePlace_62 rfl (lv_at hl 2 rfl) ?_
              refine va_get (D := (dC, dI)) (ci := 6) (v := (.ref ap)) (C := R_An) (T := F_An) (N := 3) hx hb hg in_An hown hK hP 0 rfl rfl 0 (by decide) (hg _ k_180) (fun _ h9 => h9) rfl d_An_freePlace_63 ?_
              refine lv_iload_n hx hb d_An_freePlace_66 rfl (lv_at hl 0 rfl) ?_
              refine va_aldq hx hb hK hP 1 3 rfl rfl (i := (nI i)) (vp_in_nI (N := 40) (by omega) (by decide)) d_An_freePlace_67 ?_
              rw [show va_rf (gk (nI i).toNatClampNeg) = .ref q2 from by rw [nI_clamp (by omega), hq1]; rfl]
              refine lv_astore_n (lv' := [(1, .ref q2), (2, .int (nI i)), (0, .ref aw)]) hx hb d_An_freePlace_68 rfl hl (by decide) rfl (fun ls hl => ?_)
              obtain ⟨hP, hD⟩ := pl_in (X := [(aw, .inr (6, [.ref ap, .int tu, .int (nI kk)])), (ap, .inl ((cT 3), 40, .inr (.inr (.inr (.inr gk)))))]) hP hD (hq2) (hnd)
              have hP : va_P (dC, dI) vcl ([(aw, .inr (6, [.ref ap, .int tu, .int (nI kk)])), (ap, .inl ((cT 3), 40, .inr (.inr (.inr (.inr gk)))))] ++ va_pl L (va_up F q2 (.inr (7, [.int x1, .int x2, .int x3, .int x4, .ref (ro q2), .ref (rb q2)])))) H := hP
              have hD : va_D A ([(aw, .inr (6, [.ref ap, .int tu, .int (nI kk)])), (ap, .inl ((cT 3), 40, .inr (.inr (.inr (.inr gk)))))] ++ va_pl L (va_up F q2 (.inr (7, [.int x1, .int x2, .int x3, .int x4, .ref (ro q2), .ref (rb q2)])))) := hD
              rw [up_id hFq] at hP hD
              have hP : va_P (dC, dI) vcl ([(aw, .inr (6, [.ref ap, .int tu, .int (nI kk)])), (ap, .inl ((cT 3), 40, .inr (.inr (.inr (.inr gk)))))] ++ va_pl L F) H := hP
              have hD : va_D A ([(aw, .inr (6, [.ref ap, .int tu, .int (nI kk)])), (ap, .inl ((cT 3), 40, .inr (.inr (.inr (.inr gk)))))] ++ va_pl L F) := hD
              refine lv_iinc (k := 1) (v := nI (i + 1)) (lv' := [(2, .int (nI (i + 1))), (1, .ref q2), (0, .ref aw)]) hx hb d_An_freePlace_69 hl rfl (nI_1 i) (by decide) rfl (fun ls hl => ?_)
              refine lv_goto (tgt := 40) hx hb d_An_freePlace_72 (by decide) ?_
              have hl := lv_sub hl [0, 1, 2] (show _ = [(2, .int (nI (i + 1))), (1, .ref q2), (0, .ref aw)] from rfl)
              exfalso; omega
          · skip
            obtain ⟨o1, o2, o3, o4, hFo⟩ := (hF q hq.1).2.2.1 hq.2
            obtain ⟨hP, hD⟩ := pl_out (X := [(aw, .inr (6, [.ref ap, .int tu, .int (nI kk)])), (ap, .inl ((cT 3), 40, .inr (.inr (.inr (.inr gk))))), (q2, .inr (7, [.int x1, .int x2, .int x3, .int x4, .ref (ro q2), .ref (rb q2)]))]) hP hD ((List.mem_erase_of_ne (fun h9 => hqq h9.symm)).mpr hq.1) (hFo)
            have hP : va_P (dC, dI) vcl ([(aw, .inr (6, [.ref ap, .int tu, .int (nI kk)])), (ap, .inl ((cT 3), 40, .inr (.inr (.inr (.inr gk))))), (q2, .inr (7, [.int x1, .int x2, .int x3, .int x4, .ref (ro q2), .ref (rb q2)])), (q, .inr (7, [.int o1, .int o2, .int o3, .int o4, .ref (ro q), .ref (rb q)]))] ++ va_pl ((L.erase q2).erase q) F) H := hP
            have hD : va_D A ([(aw, .inr (6, [.ref ap, .int tu, .int (nI kk)])), (ap, .inl ((cT 3), 40, .inr (.inr (.inr (.inr gk))))), (q2, .inr (7, [.int x1, .int x2, .int x3, .int x4, .ref (ro q2), .ref (rb q2)])), (q, .inr (7, [.int o1, .int o2, .int o3, .int o4, .ref (ro q), .ref (rb q)]))] ++ va_pl ((L.erase q2).erase q) F) := hD
            refine lv_aload_n hx hb d_An_freePlace_55 rfl (lv_at hl 1 rfl) ?_
            refine va_get (D := (dC, dI)) (ci := 7) (v := (.int o4)) (C := R_Ke) (T := F_Ke) (N := 6) hx hb hg in_Ke hown hK hP 3 rfl rfl 3 (by decide) (hg _ k_160) (fun _ h9 => h9) rfl d_An_freePlace_56 ?_
            refine lv_icmp_ge (tgt := 69) hx hb d_An_freePlace_59 (by decide) (fun hc16 => ?_) (fun hc16 => ?_)
            · skip
              obtain ⟨hP, hD⟩ := pl_in (X := [(aw, .inr (6, [.ref ap, .int tu, .int (nI kk)])), (ap, .inl ((cT 3), 40, .inr (.inr (.inr (.inr gk))))), (q2, .inr (7, [.int x1, .int x2, .int x3, .int x4, .ref (ro q2), .ref (rb q2)]))]) hP hD ((List.mem_erase_of_ne (fun h9 => hqq h9.symm)).mpr hq.1) (hnd.erase q2)
              have hP : va_P (dC, dI) vcl ([(aw, .inr (6, [.ref ap, .int tu, .int (nI kk)])), (ap, .inl ((cT 3), 40, .inr (.inr (.inr (.inr gk))))), (q2, .inr (7, [.int x1, .int x2, .int x3, .int x4, .ref (ro q2), .ref (rb q2)]))] ++ va_pl (L.erase q2) (va_up F q (.inr (7, [.int o1, .int o2, .int o3, .int o4, .ref (ro q), .ref (rb q)])))) H := hP
              have hD : va_D A ([(aw, .inr (6, [.ref ap, .int tu, .int (nI kk)])), (ap, .inl ((cT 3), 40, .inr (.inr (.inr (.inr gk))))), (q2, .inr (7, [.int x1, .int x2, .int x3, .int x4, .ref (ro q2), .ref (rb q2)]))] ++ va_pl (L.erase q2) (va_up F q (.inr (7, [.int o1, .int o2, .int o3, .int o4, .ref (ro q), .ref (rb q)])))) := hD
              rw [up_id hFo] at hP hD
              have hP : va_P (dC, dI) vcl ([(aw, .inr (6, [.ref ap, .int tu, .int (nI kk)])), (ap, .inl ((cT 3), 40, .inr (.inr (.inr (.inr gk))))), (q2, .inr (7, [.int x1, .int x2, .int x3, .int x4, .ref (ro q2), .ref (rb q2)]))] ++ va_pl (L.erase q2) F) H := hP
              have hD : va_D A ([(aw, .inr (6, [.ref ap, .int tu, .int (nI kk)])), (ap, .inl ((cT 3), 40, .inr (.inr (.inr (.inr gk))))), (q2, .inr (7, [.int x1, .int x2, .int x3, .int x4, .ref (ro q2), .ref (rb q2)]))] ++ va_pl (L.erase q2) F) := hD
              obtain ⟨hP, hD⟩ := pl_in (X := [(aw, .inr (6, [.ref ap, .int tu, .int (nI kk)])), (ap, .inl ((cT 3), 40, .inr (.inr (.inr (.inr gk)))))]) hP hD (hq2) (hnd)
              have hP : va_P (dC, dI) vcl ([(aw, .inr (6, [.ref ap, .int tu, .int (nI kk)])), (ap, .inl ((cT 3), 40, .inr (.inr (.inr (.inr gk)))))] ++ va_pl L (va_up F q2 (.inr (7, [.int x1, .int x2, .int x3, .int x4, .ref (ro q2), .ref (rb q2)])))) H := hP
              have hD : va_D A ([(aw, .inr (6, [.ref ap, .int tu, .int (nI kk)])), (ap, .inl ((cT 3), 40, .inr (.inr (.inr (.inr gk)))))] ++ va_pl L (va_up F q2 (.inr (7, [.int x1, .int x2, .int x3, .int x4, .ref (ro q2), .ref (rb q2)])))) := hD
              rw [up_id hFq] at hP hD
              have hP : va_P (dC, dI) vcl ([(aw, .inr (6, [.ref ap, .int tu, .int (nI kk)])), (ap, .inl ((cT 3), 40, .inr (.inr (.inr (.inr gk)))))] ++ va_pl L F) H := hP
              have hD : va_D A ([(aw, .inr (6, [.ref ap, .int tu, .int (nI kk)])), (ap, .inl ((cT 3), 40, .inr (.inr (.inr (.inr gk)))))] ++ va_pl L F) := hD
              refine lv_iinc (k := 0) (v := nI (i + 1)) (lv' := [(2, .int (nI (i + 1))), (1, .ref q), (0, .ref aw)]) hx hb d_An_freePlace_69 hl rfl (nI_1 i) (by decide) rfl (fun ls hl => ?_)
              refine lv_goto (tgt := 40) hx hb d_An_freePlace_72 (by decide) ?_
              have hl := lv_sub hl [0, 1, 2] (show _ = [(2, .int (nI (i + 1))), (1, .ref q), (0, .ref aw)] from rfl)
              exfalso; omega
            · skip
              refine lv_aload_n hx hb d_An_freePlace_62 rfl (lv_at hl 2 rfl) ?_
              refine va_get (D := (dC, dI)) (ci := 6) (v := (.ref ap)) (C := R_An) (T := F_An) (N := 3) hx hb hg in_An hown hK hP 0 rfl rfl 0 (by decide) (hg _ k_180) (fun _ h9 => h9) rfl d_An_freePlace_63 ?_
              refine lv_iload_n hx hb d_An_freePlace_66 rfl (lv_at hl 0 rfl) ?_
              refine va_aldq hx hb hK hP 1 3 rfl rfl (i := (nI i)) (vp_in_nI (N := 40) (by omega) (by decide)) d_An_freePlace_67 ?_
              rw [show va_rf (gk (nI i).toNatClampNeg) = .ref q2 from by rw [nI_clamp (by omega), hq1]; rfl]
              refine lv_astore_n (lv' := [(1, .ref q2), (2, .int (nI i)), (0, .ref aw)]) hx hb d_An_freePlace_68 rfl hl (by decide) rfl (fun ls hl => ?_)
              obtain ⟨hP, hD⟩ := pl_in (X := [(aw, .inr (6, [.ref ap, .int tu, .int (nI kk)])), (ap, .inl ((cT 3), 40, .inr (.inr (.inr (.inr gk))))), (q2, .inr (7, [.int x1, .int x2, .int x3, .int x4, .ref (ro q2), .ref (rb q2)]))]) hP hD ((List.mem_erase_of_ne (fun h9 => hqq h9.symm)).mpr hq.1) (hnd.erase q2)
              have hP : va_P (dC, dI) vcl ([(aw, .inr (6, [.ref ap, .int tu, .int (nI kk)])), (ap, .inl ((cT 3), 40, .inr (.inr (.inr (.inr gk))))), (q2, .inr (7, [.int x1, .int x2, .int x3, .int x4, .ref (ro q2), .ref (rb q2)]))] ++ va_pl (L.erase q2) (va_up F q (.inr (7, [.int o1, .int o2, .int o3, .int o4, .ref (ro q), .ref (rb q)])))) H := hP
              have hD : va_D A ([(aw, .inr (6, [.ref ap, .int tu, .int (nI kk)])), (ap, .inl ((cT 3), 40, .inr (.inr (.inr (.inr gk))))), (q2, .inr (7, [.int x1, .int x2, .int x3, .int x4, .ref (ro q2), .ref (rb q2)]))] ++ va_pl (L.erase q2) (va_up F q (.inr (7, [.int o1, .int o2, .int o3, .int o4, .ref (ro q), .ref (rb q)])))) := hD
              rw [up_id hFo] at hP hD
              have hP : va_P (dC, dI) vcl ([(aw, .inr (6, [.ref ap, .int tu, .int (nI kk)])), (ap, .inl ((cT 3), 40, .inr (.inr (.inr (.inr gk))))), (q2, .inr (7, [.int x1, .int x2, .int x3, .int x4, .ref (ro q2), .ref (rb q2)]))] ++ va_pl (L.erase q2) F) H := hP
              have hD : va_D A ([(aw, .inr (6, [.ref ap, .int tu, .int (nI kk)])), (ap, .inl ((cT 3), 40, .inr (.inr (.inr (.inr gk))))), (q2, .inr (7, [.int x1, .int x2, .int x3, .int x4, .ref (ro q2), .ref (rb q2)]))] ++ va_pl (L.erase q2) F) := hD
              obtain ⟨hP, hD⟩ := pl_in (X := [(aw, .inr (6, [.ref ap, .int tu, .int (nI kk)])), (ap, .inl ((cT 3), 40, .inr (.inr (.inr (.inr gk)))))]) hP hD (hq2) (hnd)
              have hP : va_P (dC, dI) vcl ([(aw, .inr (6, [.ref ap, .int tu, .int (nI kk)])), (ap, .inl ((cT 3), 40, .inr (.inr (.inr (.inr gk)))))] ++ va_pl L (va_up F q2 (.inr (7, [.int x1, .int x2, .int x3, .int x4, .ref (ro q2), .ref (rb q2)])))) H := hP
              have hD : va_D A ([(aw, .inr (6, [.ref ap, .int tu, .int (nI kk)])), (ap, .inl ((cT 3), 40, .inr (.inr (.inr (.inr gk)))))] ++ va_pl L (va_up F q2 (.inr (7, [.int x1, .int x2, .int x3, .int x4, .ref (ro q2), .ref (rb q2)])))) := hD
              rw [up_id hFq] at hP hD
              have hP : va_P (dC, dI) vcl ([(aw, .inr (6, [.ref ap, .int tu, .int (nI kk)])), (ap, .inl ((cT 3), 40, .inr (.inr (.inr (.inr gk)))))] ++ va_pl L F) H := hP
              have hD : va_D A ([(aw, .inr (6, [.ref ap, .int tu, .int (nI kk)])), (ap, .inl ((cT 3), 40, .inr (.inr (.inr (.inr gk)))))] ++ va_pl L F) := hD
              refine lv_iinc (k := 1) (v := nI (i + 1)) (lv' := [(2, .int (nI (i + 1))), (1, .ref q2), (0, .ref aw)]) hx hb d_An_freePlace_69 hl rfl (nI_1 i) (by decide) rfl (fun ls hl => ?_)
              refine lv_goto (tgt := 40) hx hb d_An_freePlace_72 (by decide) ?_
              have hl := lv_sub hl [0, 1, 2] (show _ = [(2, .int (nI (i + 1))), (1, .ref q2), (0, .ref aw)] from rfl)
              exfalso; omega
      | succ jj13 ih => 
        intro i q H locs ls hm9 hi hq hP hD hS hl
        refine lv_iload_n hx hb d_An_freePlace_40 rfl (lv_at hl 0 rfl) ?_
        refine lv_bipush (v := 40) hx hb d_An_freePlace_41 (by decide) ?_
        refine lv_icmp_ge (tgt := 75) hx hb d_An_freePlace_43 (by decide) (fun hc17 => ?_) (fun hc17 => ?_)
        · skip
          have hl := lv_sub hl [1, 2] (show _ = [(1, .ref q), (0, .ref aw)] from rfl)
          exact ex0 q _ _ _ (hq) hP hD hS hl
        · skip
          have h1 : i < 40 := Nat.not_le.mp (fun h7 => hc17 (nI_le (a := 40) h7 (by omega)))
          obtain ⟨q2, hq1, hq2, hq3⟩ := hg7 i (by omega)
          obtain ⟨x1, x2, x3, x4, hFq⟩ := (hF q2 hq2).2.2.1 hq3
          refine lv_aload_n hx hb d_An_freePlace_46 rfl (lv_at hl 2 rfl) ?_
          refine va_get (D := (dC, dI)) (ci := 6) (v := (.ref ap)) (C := R_An) (T := F_An) (N := 3) hx hb hg in_An hown hK hP 0 rfl rfl 0 (by decide) (hg _ k_180) (fun _ h9 => h9) rfl d_An_freePlace_47 ?_
          refine lv_iload_n hx hb d_An_freePlace_50 rfl (lv_at hl 0 rfl) ?_
          refine va_aldq hx hb hK hP 1 3 rfl rfl (i := (nI i)) (vp_in_nI (N := 40) (by omega) (by decide)) d_An_freePlace_51 ?_
          rw [show va_rf (gk (nI i).toNatClampNeg) = .ref q2 from by rw [nI_clamp (by omega), hq1]; rfl]
          obtain ⟨hP, hD⟩ := pl_out (X := [(aw, .inr (6, [.ref ap, .int tu, .int (nI kk)])), (ap, .inl ((cT 3), 40, .inr (.inr (.inr (.inr gk)))))]) hP hD (hq2) (hFq)
          have hP : va_P (dC, dI) vcl ([(aw, .inr (6, [.ref ap, .int tu, .int (nI kk)])), (ap, .inl ((cT 3), 40, .inr (.inr (.inr (.inr gk))))), (q2, .inr (7, [.int x1, .int x2, .int x3, .int x4, .ref (ro q2), .ref (rb q2)]))] ++ va_pl (L.erase q2) F) H := hP
          have hD : va_D A ([(aw, .inr (6, [.ref ap, .int tu, .int (nI kk)])), (ap, .inl ((cT 3), 40, .inr (.inr (.inr (.inr gk))))), (q2, .inr (7, [.int x1, .int x2, .int x3, .int x4, .ref (ro q2), .ref (rb q2)]))] ++ va_pl (L.erase q2) F) := hD
          refine va_get (D := (dC, dI)) (ci := 7) (v := (.int x4)) (C := R_Ke) (T := F_Ke) (N := 6) hx hb hg in_Ke hown hK hP 2 rfl rfl 3 (by decide) (hg _ k_160) (fun _ h9 => h9) rfl d_An_freePlace_52 ?_
          by_cases hqq : q2 = q
          · skip
            subst hqq
            refine lv_aload_n hx hb d_An_freePlace_55 rfl (lv_at hl 1 rfl) ?_
            refine va_get (D := (dC, dI)) (ci := 7) (v := (.int x4)) (C := R_Ke) (T := F_Ke) (N := 6) hx hb hg in_Ke hown hK hP 2 rfl rfl 3 (by decide) (hg _ k_160) (fun _ h9 => h9) rfl d_An_freePlace_56 ?_
            refine lv_icmp_ge (tgt := 69) hx hb d_An_freePlace_59 (by decide) (fun hc18 => ?_) (fun hc18 => ?_)
            · skip
              obtain ⟨hP, hD⟩ := pl_in (X := [(aw, .inr (6, [.ref ap, .int tu, .int (nI kk)])), (ap, .inl ((cT 3), 40, .inr (.inr (.inr (.inr gk)))))]) hP hD (hq2) (hnd)
              have hP : va_P (dC, dI) vcl ([(aw, .inr (6, [.ref ap, .int tu, .int (nI kk)])), (ap, .inl ((cT 3), 40, .inr (.inr (.inr (.inr gk)))))] ++ va_pl L (va_up F q2 (.inr (7, [.int x1, .int x2, .int x3, .int x4, .ref (ro q2), .ref (rb q2)])))) H := hP
              have hD : va_D A ([(aw, .inr (6, [.ref ap, .int tu, .int (nI kk)])), (ap, .inl ((cT 3), 40, .inr (.inr (.inr (.inr gk)))))] ++ va_pl L (va_up F q2 (.inr (7, [.int x1, .int x2, .int x3, .int x4, .ref (ro q2), .ref (rb q2)])))) := hD
              rw [up_id hFq] at hP hD
              have hP : va_P (dC, dI) vcl ([(aw, .inr (6, [.ref ap, .int tu, .int (nI kk)])), (ap, .inl ((cT 3), 40, .inr (.inr (.inr (.inr gk)))))] ++ va_pl L F) H := hP
              have hD : va_D A ([(aw, .inr (6, [.ref ap, .int tu, .int (nI kk)])), (ap, .inl ((cT 3), 40, .inr (.inr (.inr (.inr gk)))))] ++ va_pl L F) := hD
              refine lv_iinc (k := 0) (v := nI (i + 1)) (lv' := [(2, .int (nI (i + 1))), (1, .ref q2), (0, .ref aw)]) hx hb d_An_freePlace_69 hl rfl (nI_1 i) (by decide) rfl (fun ls hl => ?_)
              refine lv_goto (tgt := 40) hx hb d_An_freePlace_72 (by decide) ?_
              have hl := lv_sub hl [0, 1, 2] (show _ = [(2, .int (nI (i + 1))), (1, .ref q2), (0, .ref aw)] from rfl)
              exact ih (i + 1) q2 _ _ _ (by omega) (by omega) (⟨hq2, hq3⟩) hP hD hS hl
            · skip
              refine lv_aload_n hx hb d_An_freePlace_62 rfl (lv_at hl 2 rfl) ?_
              refine va_get (D := (dC, dI)) (ci := 6) (v := (.ref ap)) (C := R_An) (T := F_An) (N := 3) hx hb hg in_An hown hK hP 0 rfl rfl 0 (by decide) (hg _ k_180) (fun _ h9 => h9) rfl d_An_freePlace_63 ?_
              refine lv_iload_n hx hb d_An_freePlace_66 rfl (lv_at hl 0 rfl) ?_
              refine va_aldq hx hb hK hP 1 3 rfl rfl (i := (nI i)) (vp_in_nI (N := 40) (by omega) (by decide)) d_An_freePlace_67 ?_
              rw [show va_rf (gk (nI i).toNatClampNeg) = .ref q2 from by rw [nI_clamp (by omega), hq1]; rfl]
              refine lv_astore_n (lv' := [(1, .ref q2), (2, .int (nI i)), (0, .ref aw)]) hx hb d_An_freePlace_68 rfl hl (by decide) rfl (fun ls hl => ?_)
              obtain ⟨hP, hD⟩ := pl_in (X := [(aw, .inr (6, [.ref ap, .int tu, .int (nI kk)])), (ap, .inl ((cT 3), 40, .inr (.inr (.inr (.inr gk)))))]) hP hD (hq2) (hnd)
              have hP : va_P (dC, dI) vcl ([(aw, .inr (6, [.ref ap, .int tu, .int (nI kk)])), (ap, .inl ((cT 3), 40, .inr (.inr (.inr (.inr gk)))))] ++ va_pl L (va_up F q2 (.inr (7, [.int x1, .int x2, .int x3, .int x4, .ref (ro q2), .ref (rb q2)])))) H := hP
              have hD : va_D A ([(aw, .inr (6, [.ref ap, .int tu, .int (nI kk)])), (ap, .inl ((cT 3), 40, .inr (.inr (.inr (.inr gk)))))] ++ va_pl L (va_up F q2 (.inr (7, [.int x1, .int x2, .int x3, .int x4, .ref (ro q2), .ref (rb q2)])))) := hD
              rw [up_id hFq] at hP hD
              have hP : va_P (dC, dI) vcl ([(aw, .inr (6, [.ref ap, .int tu, .int (nI kk)])), (ap, .inl ((cT 3), 40, .inr (.inr (.inr (.inr gk)))))] ++ va_pl L F) H := hP
              have hD : va_D A ([(aw, .inr (6, [.ref ap, .int tu, .int (nI kk)])), (ap, .inl ((cT 3), 40, .inr (.inr (.inr (.inr gk)))))] ++ va_pl L F) := hD
              refine lv_iinc (k := 1) (v := nI (i + 1)) (lv' := [(2, .int (nI (i + 1))), (1, .ref q2), (0, .ref aw)]) hx hb d_An_freePlace_69 hl rfl (nI_1 i) (by decide) rfl (fun ls hl => ?_)
              refine lv_goto (tgt := 40) hx hb d_An_freePlace_72 (by decide) ?_
              have hl := lv_sub hl [0, 1, 2] (show _ = [(2, .int (nI (i + 1))), (1, .ref q2), (0, .ref aw)] from rfl)
              exact ih (i + 1) q2 _ _ _ (by omega) (by omega) (⟨hq2, hq3⟩) hP hD hS hl
          · skip
            obtain ⟨o1, o2, o3, o4, hFo⟩ := (hF q hq.1).2.2.1 hq.2
            obtain ⟨hP, hD⟩ := pl_out (X := [(aw, .inr (6, [.ref ap, .int tu, .int (nI kk)])), (ap, .inl ((cT 3), 40, .inr (.inr (.inr (.inr gk))))), (q2, .inr (7, [.int x1, .int x2, .int x3, .int x4, .ref (ro q2), .ref (rb q2)]))]) hP hD ((List.mem_erase_of_ne (fun h9 => hqq h9.symm)).mpr hq.1) (hFo)
            have hP : va_P (dC, dI) vcl ([(aw, .inr (6, [.ref ap, .int tu, .int (nI kk)])), (ap, .inl ((cT 3), 40, .inr (.inr (.inr (.inr gk))))), (q2, .inr (7, [.int x1, .int x2, .int x3, .int x4, .ref (ro q2), .ref (rb q2)])), (q, .inr (7, [.int o1, .int o2, .int o3, .int o4, .ref (ro q), .ref (rb q)]))] ++ va_pl ((L.erase q2).erase q) F) H := hP
            have hD : va_D A ([(aw, .inr (6, [.ref ap, .int tu, .int (nI kk)])), (ap, .inl ((cT 3), 40, .inr (.inr (.inr (.inr gk))))), (q2, .inr (7, [.int x1, .int x2, .int x3, .int x4, .ref (ro q2), .ref (rb q2)])), (q, .inr (7, [.int o1, .int o2, .int o3, .int o4, .ref (ro q), .ref (rb q)]))] ++ va_pl ((L.erase q2).erase q) F) := hD
            refine lv_aload_n hx hb d_An_freePlace_55 rfl (lv_at hl 1 rfl) ?_
            refine va_get (D := (dC, dI)) (ci := 7) (v := (.int o4)) (C := R_Ke) (T := F_Ke) (N := 6) hx hb hg in_Ke hown hK hP 3 rfl rfl 3 (by decide) (hg _ k_160) (fun _ h9 => h9) rfl d_An_freePlace_56 ?_
            refine lv_icmp_ge (tgt := 69) hx hb d_An_freePlace_59 (by decide) (fun hc19 => ?_) (fun hc19 => ?_)
            · skip
              obtain ⟨hP, hD⟩ := pl_in (X := [(aw, .inr (6, [.ref ap, .int tu, .int (nI kk)])), (ap, .inl ((cT 3), 40, .inr (.inr (.inr (.inr gk))))), (q2, .inr (7, [.int x1, .int x2, .int x3, .int x4, .ref (ro q2), .ref (rb q2)]))]) hP hD ((List.mem_erase_of_ne (fun h9 => hqq h9.symm)).mpr hq.1) (hnd.erase q2)
              have hP : va_P (dC, dI) vcl ([(aw, .inr (6, [.ref ap, .int tu, .int (nI kk)])), (ap, .inl ((cT 3), 40, .inr (.inr (.inr (.inr gk))))), (q2, .inr (7, [.int x1, .int x2, .int x3, .int x4, .ref (ro q2), .ref (rb q2)]))] ++ va_pl (L.erase q2) (va_up F q (.inr (7, [.int o1, .int o2, .int o3, .int o4, .ref (ro q), .ref (rb q)])))) H := hP
              have hD : va_D A ([(aw, .inr (6, [.ref ap, .int tu, .int (nI kk)])), (ap, .inl ((cT 3), 40, .inr (.inr (.inr (.inr gk))))), (q2, .inr (7, [.int x1, .int x2, .int x3, .int x4, .ref (ro q2), .ref (rb q2)]))] ++ va_pl (L.erase q2) (va_up F q (.inr (7, [.int o1, .int o2, .int o3, .int o4, .ref (ro q), .ref (rb q)])))) := hD
              rw [up_id hFo] at hP hD
              have hP : va_P (dC, dI) vcl ([(aw, .inr (6, [.ref ap, .int tu, .int (nI kk)])), (ap, .inl ((cT 3), 40, .inr (.inr (.inr (.inr gk))))), (q2, .inr (7, [.int x1, .int x2, .int x3, .int x4, .ref (ro q2), .ref (rb q2)]))] ++ va_pl (L.erase q2) F) H := hP
              have hD : va_D A ([(aw, .inr (6, [.ref ap, .int tu, .int (nI kk)])), (ap, .inl ((cT 3), 40, .inr (.inr (.inr (.inr gk))))), (q2, .inr (7, [.int x1, .int x2, .int x3, .int x4, .ref (ro q2), .ref (rb q2)]))] ++ va_pl (L.erase q2) F) := hD
              obtain ⟨hP, hD⟩ := pl_in (X := [(aw, .inr (6, [.ref ap, .int tu, .int (nI kk)])), (ap, .inl ((cT 3), 40, .inr (.inr (.inr (.inr gk)))))]) hP hD (hq2) (hnd)
              have hP : va_P (dC, dI) vcl ([(aw, .inr (6, [.ref ap, .int tu, .int (nI kk)])), (ap, .inl ((cT 3), 40, .inr (.inr (.inr (.inr gk)))))] ++ va_pl L (va_up F q2 (.inr (7, [.int x1, .int x2, .int x3, .int x4, .ref (ro q2), .ref (rb q2)])))) H := hP
              have hD : va_D A ([(aw, .inr (6, [.ref ap, .int tu, .int (nI kk)])), (ap, .inl ((cT 3), 40, .inr (.inr (.inr (.inr gk)))))] ++ va_pl L (va_up F q2 (.inr (7, [.int x1, .int x2, .int x3, .int x4, .ref (ro q2), .ref (rb q2)])))) := hD
              rw [up_id hFq] at hP hD
              have hP : va_P (dC, dI) vcl ([(aw, .inr (6, [.ref ap, .int tu, .int (nI kk)])), (ap, .inl ((cT 3), 40, .inr (.inr (.inr (.inr gk)))))] ++ va_pl L F) H := hP
              have hD : va_D A ([(aw, .inr (6, [.ref ap, .int tu, .int (nI kk)])), (ap, .inl ((cT 3), 40, .inr (.inr (.inr (.inr gk)))))] ++ va_pl L F) := hD
              refine lv_iinc (k := 0) (v := nI (i + 1)) (lv' := [(2, .int (nI (i + 1))), (1, .ref q), (0, .ref aw)]) hx hb d_An_freePlace_69 hl rfl (nI_1 i) (by decide) rfl (fun ls hl => ?_)
              refine lv_goto (tgt := 40) hx hb d_An_freePlace_72 (by decide) ?_
              have hl := lv_sub hl [0, 1, 2] (show _ = [(2, .int (nI (i + 1))), (1, .ref q), (0, .ref aw)] from rfl)
              exact ih (i + 1) q _ _ _ (by omega) (by omega) (hq) hP hD hS hl
            · skip
              refine lv_aload_n hx hb d_An_freePlace_62 rfl (lv_at hl 2 rfl) ?_
              refine va_get (D := (dC, dI)) (ci := 6) (v := (.ref ap)) (C := R_An) (T := F_An) (N := 3) hx hb hg in_An hown hK hP 0 rfl rfl 0 (by decide) (hg _ k_180) (fun _ h9 => h9) rfl d_An_freePlace_63 ?_
              refine lv_iload_n hx hb d_An_freePlace_66 rfl (lv_at hl 0 rfl) ?_
              refine va_aldq hx hb hK hP 1 3 rfl rfl (i := (nI i)) (vp_in_nI (N := 40) (by omega) (by decide)) d_An_freePlace_67 ?_
              rw [show va_rf (gk (nI i).toNatClampNeg) = .ref q2 from by rw [nI_clamp (by omega), hq1]; rfl]
              refine lv_astore_n (lv' := [(1, .ref q2), (2, .int (nI i)), (0, .ref aw)]) hx hb d_An_freePlace_68 rfl hl (by decide) rfl (fun ls hl => ?_)
              obtain ⟨hP, hD⟩ := pl_in (X := [(aw, .inr (6, [.ref ap, .int tu, .int (nI kk)])), (ap, .inl ((cT 3), 40, .inr (.inr (.inr (.inr gk))))), (q2, .inr (7, [.int x1, .int x2, .int x3, .int x4, .ref (ro q2), .ref (rb q2)]))]) hP hD ((List.mem_erase_of_ne (fun h9 => hqq h9.symm)).mpr hq.1) (hnd.erase q2)
              have hP : va_P (dC, dI) vcl ([(aw, .inr (6, [.ref ap, .int tu, .int (nI kk)])), (ap, .inl ((cT 3), 40, .inr (.inr (.inr (.inr gk))))), (q2, .inr (7, [.int x1, .int x2, .int x3, .int x4, .ref (ro q2), .ref (rb q2)]))] ++ va_pl (L.erase q2) (va_up F q (.inr (7, [.int o1, .int o2, .int o3, .int o4, .ref (ro q), .ref (rb q)])))) H := hP
              have hD : va_D A ([(aw, .inr (6, [.ref ap, .int tu, .int (nI kk)])), (ap, .inl ((cT 3), 40, .inr (.inr (.inr (.inr gk))))), (q2, .inr (7, [.int x1, .int x2, .int x3, .int x4, .ref (ro q2), .ref (rb q2)]))] ++ va_pl (L.erase q2) (va_up F q (.inr (7, [.int o1, .int o2, .int o3, .int o4, .ref (ro q), .ref (rb q)])))) := hD
              rw [up_id hFo] at hP hD
              have hP : va_P (dC, dI) vcl ([(aw, .inr (6, [.ref ap, .int tu, .int (nI kk)])), (ap, .inl ((cT 3), 40, .inr (.inr (.inr (.inr gk))))), (q2, .inr (7, [.int x1, .int x2, .int x3, .int x4, .ref (ro q2), .ref (rb q2)]))] ++ va_pl (L.erase q2) F) H := hP
              have hD : va_D A ([(aw, .inr (6, [.ref ap, .int tu, .int (nI kk)])), (ap, .inl ((cT 3), 40, .inr (.inr (.inr (.inr gk))))), (q2, .inr (7, [.int x1, .int x2, .int x3, .int x4, .ref (ro q2), .ref (rb q2)]))] ++ va_pl (L.erase q2) F) := hD
              obtain ⟨hP, hD⟩ := pl_in (X := [(aw, .inr (6, [.ref ap, .int tu, .int (nI kk)])), (ap, .inl ((cT 3), 40, .inr (.inr (.inr (.inr gk)))))]) hP hD (hq2) (hnd)
              have hP : va_P (dC, dI) vcl ([(aw, .inr (6, [.ref ap, .int tu, .int (nI kk)])), (ap, .inl ((cT 3), 40, .inr (.inr (.inr (.inr gk)))))] ++ va_pl L (va_up F q2 (.inr (7, [.int x1, .int x2, .int x3, .int x4, .ref (ro q2), .ref (rb q2)])))) H := hP
              have hD : va_D A ([(aw, .inr (6, [.ref ap, .int tu, .int (nI kk)])), (ap, .inl ((cT 3), 40, .inr (.inr (.inr (.inr gk)))))] ++ va_pl L (va_up F q2 (.inr (7, [.int x1, .int x2, .int x3, .int x4, .ref (ro q2), .ref (rb q2)])))) := hD
              rw [up_id hFq] at hP hD
              have hP : va_P (dC, dI) vcl ([(aw, .inr (6, [.ref ap, .int tu, .int (nI kk)])), (ap, .inl ((cT 3), 40, .inr (.inr (.inr (.inr gk)))))] ++ va_pl L F) H := hP
              have hD : va_D A ([(aw, .inr (6, [.ref ap, .int tu, .int (nI kk)])), (ap, .inl ((cT 3), 40, .inr (.inr (.inr (.inr gk)))))] ++ va_pl L F) := hD
              refine lv_iinc (k := 1) (v := nI (i + 1)) (lv' := [(2, .int (nI (i + 1))), (1, .ref q2), (0, .ref aw)]) hx hb d_An_freePlace_69 hl rfl (nI_1 i) (by decide) rfl (fun ls hl => ?_)
              refine lv_goto (tgt := 40) hx hb d_An_freePlace_72 (by decide) ?_
              have hl := lv_sub hl [0, 1, 2] (show _ = [(2, .int (nI (i + 1))), (1, .ref q2), (0, .ref aw)] from rfl)
              exact ih (i + 1) q2 _ _ _ (by omega) (by omega) (⟨hq2, hq3⟩) hP hD hS hl
    refine L12 _ (fun q H locs ls hq hP hD hS hl => ?_) (40 - 1) 1 q s.heap _ ls (Nat.le_refl _) (by decide) (⟨hq2, hq3⟩) hP hD hS hl
    · skip
      refine lv_aload_n hx hb d_An_freePlace_75 rfl (lv_at hl 0 rfl) ?_
      have hP9 := hP.part (cx := [(aw, .inr (6, [.ref ap, .int tu, .int (nI kk)])), (ap, .inl ((cT 3), 40, .inr (.inr (.inr (.inr gk)))))]) [0, 1] rfl
      have hD9 := hD.part (cx := [(aw, .inr (6, [.ref ap, .int tu, .int (nI kk)])), (ap, .inl ((cT 3), 40, .inr (.inr (.inr (.inr gk)))))]) [0, 1] (by decide) rfl
      exact W.aret (v := .ref q) hx hb hr (by first | exact Or.inr ⟨_, rfl⟩ | exact Or.inl ⟨_, rfl⟩) (Or.inr ⟨_, rfl⟩) (fun t ht hW => ⟨⟨(some q), kk, rfl, ⟨hkk, q, rfl, hq.1, hq.2⟩, by rw [ht]; exact hP9, va_K.moved hW.alike hK, hD9⟩, hS.F ht⟩) hS.2.2 d_An_freePlace_76
  · skip
    have h1 : kk < 40 := Nat.not_le.mp (fun h7 => hc9 (nI_le (a := 40) h7 (by omega)))
    obtain ⟨q, hq1, hq2, hq3⟩ := hg7 kk h1
    refine lv_aload_n hx hb d_An_freePlace_9 rfl (lv_at hl 0 rfl) ?_
    refine lv_dup hx hb d_An_freePlace_10 rfl ?_
    refine va_get (D := (dC, dI)) (ci := 6) (v := (.int (nI kk))) (C := R_An) (T := F_An) (N := 3) hx hb hg in_An hown hK hP 0 rfl rfl 2 (by decide) (hg _ k_182) (fun _ h9 => h9) rfl d_An_freePlace_11 ?_
    refine lv_iconst (v := 1) hx hb d_An_freePlace_14 (by decide) ?_
    refine lv_iadd hx hb d_An_freePlace_15 ?_
    refine lv_topi (fun x21 e20 => ?_)
    obtain rfl : x21 = nI (kk + 1) := by rw [e20]; exact nI_1 kk
    refine va_put (D := (dC, dI)) (ci := 6) (v := (.int (nI (kk + 1)))) (ty := .int) (C := R_An) (T := F_An) (N := 3) hx hb hg in_An t_An tok_An nm_An hown hK hP hD hS 0 rfl rfl 2 (by decide) (hg _ k_182) (fun _ h9 => h9) rfl (by decide +kernel) rfl rfl (Nat.le_of_ble_eq_true rfl) d_An_freePlace_16 (fun H locs hP hD hS => ?_)
    have hP : va_P (dC, dI) vcl ([(aw, .inr (6, [.ref ap, .int tu, .int (nI (kk + 1))])), (ap, .inl ((cT 3), 40, .inr (.inr (.inr (.inr gk)))))] ++ va_pl L F) H := hP
    have hD : va_D A ([(aw, .inr (6, [.ref ap, .int tu, .int (nI (kk + 1))])), (ap, .inl ((cT 3), 40, .inr (.inr (.inr (.inr gk)))))] ++ va_pl L F) := hD
    refine lv_aload_n hx hb d_An_freePlace_19 rfl (lv_at hl 0 rfl) ?_
    refine va_get (D := (dC, dI)) (ci := 6) (v := (.ref ap)) (C := R_An) (T := F_An) (N := 3) hx hb hg in_An hown hK hP 0 rfl rfl 0 (by decide) (hg _ k_180) (fun _ h9 => h9) rfl d_An_freePlace_20 ?_
    refine lv_aload_n hx hb d_An_freePlace_23 rfl (lv_at hl 0 rfl) ?_
    refine va_get (D := (dC, dI)) (ci := 6) (v := (.int (nI (kk + 1)))) (C := R_An) (T := F_An) (N := 3) hx hb hg in_An hown hK hP 0 rfl rfl 2 (by decide) (hg _ k_182) (fun _ h9 => h9) rfl d_An_freePlace_24 ?_
    refine lv_iconst (v := 1) hx hb d_An_freePlace_27 (by decide) ?_
    refine lv_isub hx hb d_An_freePlace_28 ?_
    refine lv_topi (fun x23 e22 => ?_)
    obtain rfl : x23 = nI kk := by rw [e22]; exact pk_sub (a := kk + 1) (b := 1) (by omega)
    refine va_aldq hx hb hK hP 1 3 rfl rfl (i := (nI kk)) (vp_in_nI (N := 40) (by omega) (by decide)) d_An_freePlace_29 ?_
    rw [show va_rf (gk (nI kk).toNatClampNeg) = .ref q from by rw [nI_clamp (by omega), hq1]; rfl]
    have hP9 := hP.part (cx := [(aw, .inr (6, [.ref ap, .int tu, .int (nI (kk + 1))])), (ap, .inl ((cT 3), 40, .inr (.inr (.inr (.inr gk)))))]) [0, 1] rfl
    have hD9 := hD.part (cx := [(aw, .inr (6, [.ref ap, .int tu, .int (nI (kk + 1))])), (ap, .inl ((cT 3), 40, .inr (.inr (.inr (.inr gk)))))]) [0, 1] (by decide) rfl
    exact W.aret (v := .ref q) hx hb hr (by first | exact Or.inr ⟨_, rfl⟩ | exact Or.inl ⟨_, rfl⟩) (Or.inr ⟨_, rfl⟩) (fun t ht hW => ⟨⟨(some q), kk + 1, rfl, ⟨h1, q, rfl, hq2, hq3⟩, by rw [ht]; exact hP9, va_K.moved hW.alike hK, hD9⟩, hS.F ht⟩) hS.2.2 d_An_freePlace_30
