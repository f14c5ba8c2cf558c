theorem ws_cl {args : Array Value} {s : State} (hg : ∀ w ∈ BIG, w.before args s = true) : ∃ (dC : Nat → ClassId) (dI : Nat → Nat → Nat), ∀ (c : Nat) (q : vw_C), vcl[c]? = some q → u_Kn s q.1 q.2.1 q.2.2 (dC c) (dI c) := by
  obtain ⟨c0, i0, h0⟩ := u_known (C := R_DS) (T := F_DS) (N := 2) hg in_DS (hg _ k_23)
  obtain ⟨c1, i1, h1⟩ := u_known (C := R_By) (T := F_By) (N := 2) hg in_By (hg _ k_111)
  obtain ⟨c2, i2, h2⟩ := u_known (C := R_Pk) (T := F_Pk) (N := 2) hg in_Pk (hg _ k_31)
  obtain ⟨c3, i3, h3⟩ := u_known (C := R_Dg) (T := F_Dg) (N := 7) hg in_Dg (hg _ k_105)
  obtain ⟨c4, i4, h4⟩ := u_known (C := R_Rq) (T := F_Rq) (N := 2) hg in_Rq (hg _ k_304)
  obtain ⟨c5, i5, h5⟩ := u_known (C := R_Sv) (T := F_Sv) (N := 12) hg in_Sv (hg _ k_97)
  obtain ⟨c6, i6, h6⟩ := u_known (C := R_An) (T := F_An) (N := 3) hg in_An (hg _ k_142)
  obtain ⟨c7, i7, h7⟩ := u_known (C := R_Ke) (T := F_Ke) (N := 6) hg in_Ke (hg _ k_149)
  obtain ⟨c8, i8, h8⟩ := u_known (C := R_Tl) (T := F_Tl) (N := 7) hg in_Tl (hg _ k_199)
  obtain ⟨c9, i9, h9⟩ := u_known (C := R_Ts) (T := F_Ts) (N := 4) hg in_Ts (hg _ k_192)
  obtain ⟨c10, i10, h10⟩ := u_known (C := R_Se) (T := F_Se) (N := 8) hg in_Se (hg _ k_253)
  obtain ⟨c11, i11, h11⟩ := u_known (C := R_Ss) (T := F_Ss) (N := 2) hg in_Ss (hg _ k_246)
  obtain ⟨c12, i12, h12⟩ := u_known (C := R_Md) (T := F_Md) (N := 45) hg in_Md (hg _ k_942)
  refine ⟨fun c => match c with | 0 => c0 | 1 => c1 | 2 => c2 | 3 => c3 | 4 => c4 | 5 => c5 | 6 => c6 | 7 => c7 | 8 => c8 | 9 => c9 | 10 => c10 | 11 => c11 | _ => c12, fun c => match c with | 0 => i0 | 1 => i1 | 2 => i2 | 3 => i3 | 4 => i4 | 5 => i5 | 6 => i6 | 7 => i7 | 8 => i8 | 9 => i9 | 10 => i10 | 11 => i11 | _ => i12, fun c q hq => ?_⟩
  have hlt : c < 13 := (List.getElem?_eq_some_iff.mp hq).1
  match c, hlt, hq with
  | 0, _, hq => obtain rfl : (R_DS, F_DS, 2) = q := Option.some.inj (show some (R_DS, F_DS, 2) = some q from hq); exact h0
  | 1, _, hq => obtain rfl : (R_By, F_By, 2) = q := Option.some.inj (show some (R_By, F_By, 2) = some q from hq); exact h1
  | 2, _, hq => obtain rfl : (R_Pk, F_Pk, 2) = q := Option.some.inj (show some (R_Pk, F_Pk, 2) = some q from hq); exact h2
  | 3, _, hq => obtain rfl : (R_Dg, F_Dg, 7) = q := Option.some.inj (show some (R_Dg, F_Dg, 7) = some q from hq); exact h3
  | 4, _, hq => obtain rfl : (R_Rq, F_Rq, 2) = q := Option.some.inj (show some (R_Rq, F_Rq, 2) = some q from hq); exact h4
  | 5, _, hq => obtain rfl : (R_Sv, F_Sv, 12) = q := Option.some.inj (show some (R_Sv, F_Sv, 12) = some q from hq); exact h5
  | 6, _, hq => obtain rfl : (R_An, F_An, 3) = q := Option.some.inj (show some (R_An, F_An, 3) = some q from hq); exact h6
  | 7, _, hq => obtain rfl : (R_Ke, F_Ke, 6) = q := Option.some.inj (show some (R_Ke, F_Ke, 6) = some q from hq); exact h7
  | 8, _, hq => obtain rfl : (R_Tl, F_Tl, 7) = q := Option.some.inj (show some (R_Tl, F_Tl, 7) = some q from hq); exact h8
  | 9, _, hq => obtain rfl : (R_Ts, F_Ts, 4) = q := Option.some.inj (show some (R_Ts, F_Ts, 4) = some q from hq); exact h9
  | 10, _, hq => obtain rfl : (R_Se, F_Se, 8) = q := Option.some.inj (show some (R_Se, F_Se, 8) = some q from hq); exact h10
  | 11, _, hq => obtain rfl : (R_Ss, F_Ss, 2) = q := Option.some.inj (show some (R_Ss, F_Ss, 2) = some q from hq); exact h11
  | 12, _, hq => obtain rfl : (R_Md, F_Md, 45) = q := Option.some.inj (show some (R_Md, F_Md, 45) = some q from hq); exact h12
  | (n9 + 13), h9, _ => exact absurd h9 (by omega)
theorem ws_ar {args : Array Value} {s : State} (hg : ∀ w ∈ BIG, w.before args s = true) (h2 : va_AO "DoorServer$Bytes" s) (h3 : va_AO "DoorServer$Kept" s) (h4 : va_AO "DoorServer$Trial" s) (h5 : va_AO "DoorServer$Session" s) : ∃ cT : Nat → ClassId, ∀ (k : Nat) (q : ClassId × FieldType), (tyL cT)[k]? = some q → ArrOfT s q.1 q.2 ∧ va_RA s q.1 q.2 := by
  obtain ⟨a0, k0, m0, p0, q0, r0⟩ := Cond.arrayClass_spec (hg _ k_67)
  obtain ⟨a1, k1, m1, p1, q1, r1⟩ := Cond.arrayClass_spec (hg _ k_1156)
  obtain ⟨m2, a2, k2, p2, -, q2, r2, s2⟩ := Cond.arrayOver_spec h2
  obtain ⟨m3, a3, k3, p3, -, q3, r3, s3⟩ := Cond.arrayOver_spec h3
  obtain ⟨m4, a4, k4, p4, -, q4, r4, s4⟩ := Cond.arrayOver_spec h4
  obtain ⟨m5, a5, k5, p5, -, q5, r5, s5⟩ := Cond.arrayOver_spec h5
  refine ⟨fun c => match c with | 0 => a0 | 1 => a1 | 2 => a2 | 3 => a3 | 4 => a4 | _ => a5, fun k q hq => ?_⟩
  have hlt : k < 6 := (List.getElem?_eq_some_iff.mp hq).1
  match k, hlt, hq with
  | 0, _, hq => obtain rfl : (a0, FieldType.int) = q := Option.some.inj (show some (a0, FieldType.int) = some q from hq); exact ⟨fun n z => ⟨fun k h => (by cases h), k0, q0, m0, r0⟩, p0⟩
  | 1, _, hq => obtain rfl : (a1, FieldType.long) = q := Option.some.inj (show some (a1, FieldType.long) = some q from hq); exact ⟨fun n z => ⟨fun k h => (by cases h), k1, q1, m1, r1⟩, p1⟩
  | 2, _, hq => obtain rfl : (a2, FieldType.object "DoorServer$Bytes") = q := Option.some.inj (show some (a2, FieldType.object "DoorServer$Bytes") = some q from hq); exact ⟨fun n z => ⟨fun k h => (by cases h), k2, q2, m2, r2⟩, k2, m2, q2, r2, p2, s2⟩
  | 3, _, hq => obtain rfl : (a3, FieldType.object "DoorServer$Kept") = q := Option.some.inj (show some (a3, FieldType.object "DoorServer$Kept") = some q from hq); exact ⟨fun n z => ⟨fun k h => (by cases h), k3, q3, m3, r3⟩, k3, m3, q3, r3, p3, s3⟩
  | 4, _, hq => obtain rfl : (a4, FieldType.object "DoorServer$Trial") = q := Option.some.inj (show some (a4, FieldType.object "DoorServer$Trial") = some q from hq); exact ⟨fun n z => ⟨fun k h => (by cases h), k4, q4, m4, r4⟩, k4, m4, q4, r4, p4, s4⟩
  | 5, _, hq => obtain rfl : (a5, FieldType.object "DoorServer$Session") = q := Option.some.inj (show some (a5, FieldType.object "DoorServer$Session") = some q from hq); exact ⟨fun n z => ⟨fun k h => (by cases h), k5, q5, m5, r5⟩, k5, m5, q5, r5, p5, s5⟩
  | (n9 + 6), h9, _ => exact absurd h9 (by omega)
