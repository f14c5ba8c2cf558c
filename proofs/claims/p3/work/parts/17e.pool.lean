/-! A pool behind the world: cells may be taken out of it by their address, and put back. -/
theorem va_P_mem {D : va_G} {cl : List vw_C} {ws : va_W} {H : Heap} : va_P D cl ws H ↔ ∀ q ∈ ws, va_at D cl q H := ⟨fun h q hq => by
  obtain ⟨k, hk⟩ := List.getElem?_of_mem hq
  exact h k q hk, fun h k q hk => h q (List.mem_of_getElem? hk)⟩
theorem va_P_perm {D : va_G} {cl : List vw_C} {ws ws' : va_W} {H : Heap} (hp : ws.Perm ws') (h : va_P D cl ws H) : va_P D cl ws' H := va_P_mem.mpr fun q hq => va_P_mem.mp h q (hp.mem_iff.mpr hq)
theorem va_D_iff {A : Nat → Prop} {ws : va_W} : va_D A ws ↔ (ws.map Prod.fst).Nodup ∧ ∀ q ∈ ws, A q.1 := by
  constructor
  · intro h
    refine ⟨List.pairwise_iff_getElem.mpr (fun i j hi hj hij he => ?_), fun q hq => ?_⟩
    · rw [List.getElem_map, List.getElem_map] at he
      rw [List.length_map] at hi hj
      have h3 := h.1 i j _ _ (List.getElem?_eq_getElem hi) (List.getElem?_eq_getElem hj) he
      omega
    · obtain ⟨k, hk⟩ := List.getElem?_of_mem hq
      exact h.2 k q hk
  · intro h
    refine ⟨fun i j p q hi hj hpq => ?_, fun k q hk => h.2 q (List.mem_of_getElem? hk)⟩
    have key : ∀ a b : Nat, ∀ x y : Nat × va_E, ws[a]? = some x → ws[b]? = some y → x.1 = y.1 → ¬ a < b := by
      intro a b x y ha hb hxy hab
      obtain ⟨la, ea⟩ := List.getElem?_eq_some_iff.mp ha
      obtain ⟨lb, eb⟩ := List.getElem?_eq_some_iff.mp hb
      refine List.pairwise_iff_getElem.mp h.1 a b (by rw [List.length_map]; exact la) (by rw [List.length_map]; exact lb) hab ?_
      rw [List.getElem_map, List.getElem_map, ea, eb]
      exact hxy
    have k1 := key i j p q hi hj hpq
    have k2 := key j i q p hj hi hpq.symm
    omega
theorem va_D_perm {A : Nat → Prop} {ws ws' : va_W} (hp : ws.Perm ws') (h : va_D A ws) : va_D A ws' := va_D_iff.mpr ⟨((hp.map Prod.fst).nodup_iff).mp (va_D_iff.mp h).1, fun q hq => (va_D_iff.mp h).2 q (hp.mem_iff.mpr hq)⟩
theorem pl_perm {X : va_W} {L : List Nat} {F : Nat → va_E} {a : Nat} {e : va_E} (ha : a ∈ L) (he : F a = e) : (X ++ va_pl L F).Perm ((X ++ [(a, e)]) ++ va_pl (L.erase a) F) := by
  rw [List.append_assoc]
  refine List.Perm.append_left X ?_
  have h1 : (va_pl L F).Perm (va_pl (a :: L.erase a) F) := (List.perm_cons_erase ha).map _
  rw [← he]
  exact h1
theorem pl_same {L : List Nat} {F : Nat → va_E} {a : Nat} {e : va_E} (h : a ∉ L) : va_pl L (va_up F a e) = va_pl L F := by
  unfold va_pl
  apply List.map_congr_left
  intro b hb
  have h1 : b ≠ a := fun h2 => h (h2 ▸ hb)
  rw [va_up_ne F e h1]
theorem pl_out {D : va_G} {cl : List vw_C} {A : Nat → Prop} {X : va_W} {L : List Nat} {F : Nat → va_E} {H : Heap} {a : Nat} {e : va_E} (hP : va_P D cl (X ++ va_pl L F) H) (hD : va_D A (X ++ va_pl L F)) (ha : a ∈ L) (he : F a = e) : va_P D cl ((X ++ [(a, e)]) ++ va_pl (L.erase a) F) H ∧ va_D A ((X ++ [(a, e)]) ++ va_pl (L.erase a) F) := ⟨va_P_perm (pl_perm ha he) hP, va_D_perm (pl_perm ha he) hD⟩
theorem pl_in {D : va_G} {cl : List vw_C} {A : Nat → Prop} {X : va_W} {L : List Nat} {F : Nat → va_E} {H : Heap} {a : Nat} {e : va_E} (hP : va_P D cl ((X ++ [(a, e)]) ++ va_pl (L.erase a) F) H) (hD : va_D A ((X ++ [(a, e)]) ++ va_pl (L.erase a) F)) (ha : a ∈ L) (hn : L.Nodup) : va_P D cl (X ++ va_pl L (va_up F a e)) H ∧ va_D A (X ++ va_pl L (va_up F a e)) := by
  have h0 : va_pl (L.erase a) F = va_pl (L.erase a) (va_up F a e) := (pl_same (List.Nodup.not_mem_erase hn)).symm
  rw [h0] at hP hD
  have hp := (pl_perm (X := X) (F := va_up F a e) ha (va_up_self F a e)).symm
  exact ⟨va_P_perm hp hP, va_D_perm hp hD⟩
theorem pl_nodup {A : Nat → Prop} {X : va_W} {L : List Nat} {F : Nat → va_E} (hD : va_D A (X ++ va_pl L F)) : L.Nodup := by
  have h := (va_D_iff.mp hD).1
  rw [List.map_append] at h
  have h2 := (List.nodup_append.mp h).2.1
  have e : (va_pl L F).map Prod.fst = L := by
    unfold va_pl
    rw [List.map_map]
    exact List.map_id' L
  rw [e] at h2
  exact h2
