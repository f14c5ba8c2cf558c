/-! The pool as the constructors fill it: what its cells hold, read off the cells themselves. -/
theorem pl_add {D : va_G} {cl : List vw_C} {A : Nat → Prop} {X : va_W} {L : List Nat} {F : Nat → va_E} {H : Heap} {a : Nat} {e : va_E} (hP : va_P D cl ((X ++ [(a, e)]) ++ va_pl L F) H) (hD : va_D A ((X ++ [(a, e)]) ++ va_pl L F)) : va_P D cl (X ++ va_pl (a :: L) (va_up F a e)) H ∧ va_D A (X ++ va_pl (a :: L) (va_up F a e)) ∧ a ∉ L := by
  have hn : a ∉ L := by
    have h := (va_D_iff.mp hD).1
    rw [List.map_append] at h
    intro ha
    have h2 := (List.nodup_append.mp h).2.2
    refine h2 a ?_ a ?_ rfl
    · rw [List.map_append]; exact List.mem_append_right _ List.mem_cons_self
    · unfold va_pl
      rw [List.map_map]
      exact List.mem_map.mpr ⟨a, ha, rfl⟩
  have e1 : X ++ va_pl (a :: L) (va_up F a e) = (X ++ [(a, e)]) ++ va_pl L F := by
    have e2 : va_pl (a :: L) (va_up F a e) = (a, e) :: va_pl L F := by
      show (a, va_up F a e a) :: va_pl L (va_up F a e) = _
      rw [va_up_self, pl_same hn]
    rw [e2, List.append_assoc]
    rfl
  rw [e1]
  exact ⟨hP, hD, hn⟩
def kdE (e : va_E) : Nat := match e with | .inl _ => 0 | .inr (c, _) => c
def siE (e : va_E) : Nat := match e with | .inl (_, n, _) => n | .inr _ => 0
def rfE (v : Option Value) : Nat := match v with | some (.ref a) => a | _ => 0
def roE (e : va_E) : Nat := match e with | .inl _ => 0 | .inr (c, fs) => rfE (fs[if c = 1 then 0 else if c = 7 then 4 else if c = 8 then 6 else 1]?)
def rbE (e : va_E) : Nat := match e with | .inl _ => 0 | .inr (_, fs) => rfE (fs[5]?)
def SH (cT : Nat → ClassId) (L : List Nat) (F : Nat → va_E) (e : va_E) : Prop :=
  (∃ (n : Nat) (f : Nat → Int32), e = .inl (cT 0, n, .inl f) ∧ AB f) ∨
  (∃ (r n k : Nat) (f : Nat → Int32), e = .inr (1, [.ref r, .int (nI k)]) ∧ r ∈ L ∧ F r = .inl (cT 0, n, .inl f) ∧ k ≤ n ∧ n ≤ 72 ∧ (n = 60 → k = 0)) ∨
  (∃ (x1 x2 x3 x4 : Int32) (a b r k : Nat) (f g : Nat → Int32), e = .inr (7, [.int x1, .int x2, .int x3, .int x4, .ref a, .ref b]) ∧ a ∈ L ∧ F a = .inl (cT 0, 16, .inl f) ∧ b ∈ L ∧ F b = .inr (1, [.ref r, .int (nI k)]) ∧ r ∈ L ∧ F r = .inl (cT 0, 72, .inl g)) ∨
  (∃ (x1 : Int32) (mk : Int64) (x2 x3 x4 x5 : Int32) (a : Nat) (f : Nat → Int32), e = .inr (8, [.int x1, .long mk, .int x2, .int x3, .int x4, .int x5, .ref a]) ∧ a ∈ L ∧ F a = .inl (cT 0, 16, .inl f)) ∨
  (∃ (x1 x2 x3 x4 x5 : Int32) (y1 y2 : Int64) (b r k : Nat) (g : Nat → Int32), e = .inr (10, [.int x1, .ref b, .int x2, .int x3, .int x4, .int x5, .long y1, .long y2]) ∧ b ∈ L ∧ F b = .inr (1, [.ref r, .int (nI k)]) ∧ r ∈ L ∧ F r = .inl (cT 0, 16, .inl g))
def PF (cT : Nat → ClassId) (L : List Nat) (F : Nat → va_E) : Prop := ∀ c ∈ L, SH cT L F (F c)
def EXF (L : List Nat) (F : Nat → va_E) (L2 : List Nat) (F2 : Nat → va_E) : Prop := ∀ c ∈ L, c ∈ L2 ∧ F2 c = F c
theorem EXF_rfl {L : List Nat} {F : Nat → va_E} : EXF L F L F := fun _ h => ⟨h, rfl⟩
theorem EXF_trans {L L2 L3 : List Nat} {F F2 F3 : Nat → va_E} (h : EXF L F L2 F2) (h2 : EXF L2 F2 L3 F3) : EXF L F L3 F3 := fun c hc => ⟨(h2 c (h c hc).1).1, (h2 c (h c hc).1).2.trans (h c hc).2⟩
theorem EXF_add {L : List Nat} {F : Nat → va_E} {a : Nat} {e : va_E} (ha : a ∉ L) : EXF L F (a :: L) (va_up F a e) := fun _ hc => ⟨List.mem_cons_of_mem _ hc, va_up_ne F e (fun h => ha (h ▸ hc))⟩
theorem SH_mono {cT : Nat → ClassId} {L L2 : List Nat} {F F2 : Nat → va_E} {e : va_E} (hx : EXF L F L2 F2) (h : SH cT L F e) : SH cT L2 F2 e := by
  rcases h with ⟨n, f, h1, h2⟩ | ⟨r, n, k, f, h1, h2, h3, h4, h5⟩ | ⟨x1, x2, x3, x4, a, b, r, k, f, g, h1, h2, h3, h4, h5, h6, h7⟩ | ⟨x1, mk, x2, x3, x4, x5, a, f, h1, h2, h3⟩ | ⟨x1, x2, x3, x4, x5, y1, y2, b, r, k, g, h1, h2, h3, h4, h5⟩
  · exact Or.inl ⟨n, f, h1, h2⟩
  · exact Or.inr (Or.inl ⟨r, n, k, f, h1, (hx r h2).1, (hx r h2).2.trans h3, h4, h5⟩)
  · exact Or.inr (Or.inr (Or.inl ⟨x1, x2, x3, x4, a, b, r, k, f, g, h1, (hx a h2).1, (hx a h2).2.trans h3, (hx b h4).1, (hx b h4).2.trans h5, (hx r h6).1, (hx r h6).2.trans h7⟩))
  · exact Or.inr (Or.inr (Or.inr (Or.inl ⟨x1, mk, x2, x3, x4, x5, a, f, h1, (hx a h2).1, (hx a h2).2.trans h3⟩)))
  · exact Or.inr (Or.inr (Or.inr (Or.inr ⟨x1, x2, x3, x4, x5, y1, y2, b, r, k, g, h1, (hx b h2).1, (hx b h2).2.trans h3, (hx r h4).1, (hx r h4).2.trans h5⟩)))
theorem PF_nil {cT : Nat → ClassId} {F : Nat → va_E} : PF cT [] F := fun _ h => by cases h
theorem PF_add {cT : Nat → ClassId} {L : List Nat} {F : Nat → va_E} {a : Nat} {e : va_E} (h : PF cT L F) (ha : a ∉ L) (he : SH cT L F e) : PF cT (a :: L) (va_up F a e) := fun c hc => by
  by_cases hca : c = a
  · subst hca; rw [va_up_self]; exact SH_mono (EXF_add ha) he
  · rw [va_up_ne F e hca]
    exact SH_mono (EXF_add ha) (h c ((List.mem_cons.mp hc).resolve_left hca))
theorem PF_bytes {cT : Nat → ClassId} {L : List Nat} {F : Nat → va_E} {r b n k : Nat} {f : Nat → Int32} (h : PF cT L F) (hr : r ∉ L) (hb : b ∉ r :: L) (hf : AB f) (hk : k ≤ n) (hn : n ≤ 72) (h60 : n = 60 → k = 0 := by decide) :
    PF cT (b :: r :: L) (va_up (va_up F r (.inl (cT 0, n, .inl f))) b (.inr (1, [.ref r, .int (nI k)]))) ∧ EXF L F (b :: r :: L) (va_up (va_up F r (.inl (cT 0, n, .inl f))) b (.inr (1, [.ref r, .int (nI k)]))) ∧
    va_up (va_up F r (.inl (cT 0, n, .inl f))) b (.inr (1, [.ref r, .int (nI k)])) b = .inr (1, [.ref r, .int (nI k)]) ∧ va_up (va_up F r (.inl (cT 0, n, .inl f))) b (.inr (1, [.ref r, .int (nI k)])) r = .inl (cT 0, n, .inl f) := by
  have h1 := PF_add h hr (Or.inl ⟨n, f, rfl, hf⟩ : SH cT L F (.inl (cT 0, n, .inl f)))
  have hrb : r ≠ b := fun h9 => hb (by rw [← h9]; exact List.mem_cons_self)
  have e1 : va_up (va_up F r (.inl (cT 0, n, .inl f))) b (.inr (1, [.ref r, .int (nI k)])) r = .inl (cT 0, n, .inl f) := by rw [va_up_ne _ _ hrb, va_up_self]
  exact ⟨PF_add h1 hb (Or.inr (Or.inl ⟨r, n, k, f, rfl, List.mem_cons_self, va_up_self _ _ _, hk, hn, h60⟩)), EXF_trans (EXF_add hr) (EXF_add hb), va_up_self _ _ _, e1⟩
theorem PF_kept {cT : Nat → ClassId} {L : List Nat} {F : Nat → va_E} {a r b q : Nat} {f g : Nat → Int32} {x1 x2 x3 x4 : Int32} (h : PF cT L F) (ha : a ∉ L) (hr : r ∉ a :: L) (hb : b ∉ r :: a :: L) (hq : q ∉ b :: r :: a :: L) (hf : AB f) (hg : AB g) :
    PF cT (q :: b :: r :: a :: L) (va_up (va_up (va_up (va_up F a (.inl (cT 0, 16, .inl f))) r (.inl (cT 0, 72, .inl g))) b (.inr (1, [.ref r, .int (nI 0)]))) q (.inr (7, [.int x1, .int x2, .int x3, .int x4, .ref a, .ref b]))) ∧
    EXF L F (q :: b :: r :: a :: L) (va_up (va_up (va_up (va_up F a (.inl (cT 0, 16, .inl f))) r (.inl (cT 0, 72, .inl g))) b (.inr (1, [.ref r, .int (nI 0)]))) q (.inr (7, [.int x1, .int x2, .int x3, .int x4, .ref a, .ref b]))) := by
  have h1 := PF_add h ha (Or.inl ⟨16, f, rfl, hf⟩ : SH cT L F (.inl (cT 0, 16, .inl f)))
  obtain ⟨h2, h3, h4, h5⟩ := PF_bytes (n := 72) (k := 0) h1 hr hb hg (by decide) (by decide)
  have e1 := (h3 a List.mem_cons_self).2.trans (va_up_self F a _)
  exact ⟨PF_add h2 hq (Or.inr (Or.inr (Or.inl ⟨x1, x2, x3, x4, a, b, r, 0, f, g, rfl, (h3 a List.mem_cons_self).1, e1, List.mem_cons_self, h4, List.mem_cons_of_mem _ List.mem_cons_self, h5⟩))), EXF_trans (EXF_add ha) (EXF_trans h3 (EXF_add hq))⟩
theorem PF_trial {cT : Nat → ClassId} {L : List Nat} {F : Nat → va_E} {a q : Nat} {f : Nat → Int32} {x1 x2 x3 x4 x5 : Int32} {mk : Int64} (h : PF cT L F) (ha : a ∉ L) (hq : q ∉ a :: L) (hf : AB f) :
    PF cT (q :: a :: L) (va_up (va_up F a (.inl (cT 0, 16, .inl f))) q (.inr (8, [.int x1, .long mk, .int x2, .int x3, .int x4, .int x5, .ref a]))) ∧ EXF L F (q :: a :: L) (va_up (va_up F a (.inl (cT 0, 16, .inl f))) q (.inr (8, [.int x1, .long mk, .int x2, .int x3, .int x4, .int x5, .ref a]))) := by
  have h1 := PF_add h ha (Or.inl ⟨16, f, rfl, hf⟩ : SH cT L F (.inl (cT 0, 16, .inl f)))
  exact ⟨PF_add h1 hq (Or.inr (Or.inr (Or.inr (Or.inl ⟨x1, mk, x2, x3, x4, x5, a, f, rfl, List.mem_cons_self, va_up_self _ _ _⟩)))), EXF_trans (EXF_add ha) (EXF_add hq)⟩
theorem PF_sess {cT : Nat → ClassId} {L : List Nat} {F : Nat → va_E} {r b q : Nat} {g : Nat → Int32} {x1 x2 x3 x4 x5 : Int32} {y1 y2 : Int64} (h : PF cT L F) (hr : r ∉ L) (hb : b ∉ r :: L) (hq : q ∉ b :: r :: L) (hg : AB g) :
    PF cT (q :: b :: r :: L) (va_up (va_up (va_up F r (.inl (cT 0, 16, .inl g))) b (.inr (1, [.ref r, .int (nI 0)]))) q (.inr (10, [.int x1, .ref b, .int x2, .int x3, .int x4, .int x5, .long y1, .long y2]))) ∧
    EXF L F (q :: b :: r :: L) (va_up (va_up (va_up F r (.inl (cT 0, 16, .inl g))) b (.inr (1, [.ref r, .int (nI 0)]))) q (.inr (10, [.int x1, .ref b, .int x2, .int x3, .int x4, .int x5, .long y1, .long y2]))) := by
  obtain ⟨h2, h3, h4, h5⟩ := PF_bytes (n := 16) (k := 0) h hr hb hg (by decide) (by decide)
  exact ⟨PF_add h2 hq (Or.inr (Or.inr (Or.inr (Or.inr ⟨x1, x2, x3, x4, x5, y1, y2, b, r, 0, g, rfl, List.mem_cons_self, h4, List.mem_cons_of_mem _ List.mem_cons_self, h5⟩)))), EXF_trans h3 (EXF_add hq)⟩
/-- the first i places of a row of references hold objects of kind k -/
def PLK (k : Nat) (g : Nat → Option Nat) (i : Nat) (L : List Nat) (F : Nat → va_E) : Prop := ∀ i9, i9 < i → ∃ q9, g i9 = some q9 ∧ q9 ∈ L ∧ kdE (F q9) = k
theorem PLK_ext {k i : Nat} {g : Nat → Option Nat} {L L2 : List Nat} {F F2 : Nat → va_E} (hx : EXF L F L2 F2) (h : PLK k g i L F) : PLK k g i L2 F2 := fun i9 h9 => by
  obtain ⟨q, h1, h2, h3⟩ := h i9 h9
  exact ⟨q, h1, (hx q h2).1, by rw [(hx q h2).2]; exact h3⟩
theorem PLK_up {k i : Nat} {g : Nat → Option Nat} {L L2 : List Nat} {F F2 : Nat → va_E} {q : Nat} (h : PLK k g i L F) (hx : EXF L F L2 F2) (h2 : q ∈ L2) (h3 : kdE (F2 q) = k) : PLK k (va_up g i (some q)) (i + 1) L2 F2 := fun i9 h9 => by
  by_cases hi : i9 = i
  · subst hi; exact ⟨q, va_up_self _ _ _, h2, h3⟩
  · rw [va_up_ne _ _ hi]; exact PLK_ext hx h i9 (by omega)
/-- the first i places hold rows of bytes, of n places each -/
def PLB (cT0 : ClassId) (n : Nat) (g : Nat → Option Nat) (i : Nat) (L : List Nat) (F : Nat → va_E) : Prop := ∀ i9, i9 < i → ∃ q9 r9 k9 : Nat, ∃ f9 : Nat → Int32, g i9 = some q9 ∧ q9 ∈ L ∧ r9 ∈ L ∧ F q9 = .inr (1, [.ref r9, .int (nI k9)]) ∧ F r9 = .inl (cT0, n, .inl f9)
theorem PLB_ext {c : ClassId} {n i : Nat} {g : Nat → Option Nat} {L L2 : List Nat} {F F2 : Nat → va_E} (hx : EXF L F L2 F2) (h : PLB c n g i L F) : PLB c n g i L2 F2 := fun i9 h9 => by
  obtain ⟨q, r, k, f, h1, h2, h3, h4, h5⟩ := h i9 h9
  exact ⟨q, r, k, f, h1, (hx q h2).1, (hx r h3).1, by rw [(hx q h2).2]; exact h4, by rw [(hx r h3).2]; exact h5⟩
theorem PLB_up {c : ClassId} {n i : Nat} {g : Nat → Option Nat} {L L2 : List Nat} {F F2 : Nat → va_E} {q r k : Nat} {f : Nat → Int32} (h : PLB c n g i L F) (hx : EXF L F L2 F2) (h2 : q ∈ L2) (h3 : r ∈ L2) (h4 : F2 q = .inr (1, [.ref r, .int (nI k)])) (h5 : F2 r = .inl (c, n, .inl f)) : PLB c n (va_up g i (some q)) (i + 1) L2 F2 := fun i9 h9 => by
  by_cases hi : i9 = i
  · subst hi; exact ⟨q, r, k, f, va_up_self _ _ _, h2, h3, h4, h5⟩
  · rw [va_up_ne _ _ hi]; exact PLB_ext hx h i9 (by omega)
/-- the pool's kinds, as its cells have them at first -/
theorem PF_PLS {cT : Nat → ClassId} {L : List Nat} {F : Nat → va_E} (h : PF cT L F) : PLS cT (fun a => kdE (F a)) (fun a => siE (F a)) (fun a => roE (F a)) (fun a => rbE (F a)) L F := fun a ha => by
  rcases h a ha with ⟨n, f, h1, h2⟩ | ⟨r, n, k, f, h1, h2, h3, h4, h5⟩ | ⟨x1, x2, x3, x4, a', b, r, k, f, g, h1, h2, h3, h4, h5, h6, h7⟩ | ⟨x1, mk, x2, x3, x4, x5, a', f, h1, h2, h3⟩ | ⟨x1, x2, x3, x4, x5, y1, y2, b, r, k, g, h1, h2, h3, h4, h5⟩
  · have e0 : kdE (F a) = 0 := by rw [h1]; rfl
    refine ⟨fun _ => ⟨f, ?_, h2⟩, fun h9 => absurd (e0.symm.trans h9) (by decide), fun h9 => absurd (e0.symm.trans h9) (by decide), fun h9 => absurd (e0.symm.trans h9) (by decide), fun h9 => absurd (e0.symm.trans h9) (by decide), fun h9 => absurd (e0.symm.trans h9) (by decide)⟩
    show F a = .inl (cT 0, siE (F a), .inl f)
    rw [h1]; rfl
  · have e0 : kdE (F a) = 1 := by rw [h1]; rfl
    have e1 : roE (F a) = r := by rw [h1]; rfl
    refine ⟨fun h9 => absurd (e0.symm.trans h9) (by decide), fun _ => ⟨k, ?_, ?_⟩, fun h9 => absurd (e0.symm.trans h9) (by decide), fun h9 => absurd (e0.symm.trans h9) (by decide), fun h9 => absurd (e0.symm.trans h9) (by decide), fun _ h60 => ?_⟩
    · show F a = .inr (1, [.ref (roE (F a)), .int (nI k)])
      rw [e1]; exact h1
    · show k ≤ siE (F (roE (F a)))
      rw [e1, h3]; exact h4
    · have e2 : rbE (F a) = 0 := by rw [h1]; rfl
      have h6 : siE (F (roE (F a))) = 60 := h60
      rw [e1, h3] at h6
      have h7 : k = 0 := h5.2 h6
      show F a = .inr (1, [.ref (roE (F a)), .int (nI (rbE (F a)))]) ∧ rbE (F a) ≤ 60
      rw [e1, e2]
      exact ⟨by rw [h1, h7], by decide⟩
  · have e0 : kdE (F a) = 7 := by rw [h1]; rfl
    have e1 : roE (F a) = a' := by rw [h1]; rfl
    have e2 : rbE (F a) = b := by rw [h1]; rfl
    refine ⟨fun h9 => absurd (e0.symm.trans h9) (by decide), fun h9 => absurd (e0.symm.trans h9) (by decide), fun _ => ⟨x1, x2, x3, x4, ?_⟩, fun h9 => absurd (e0.symm.trans h9) (by decide), fun h9 => absurd (e0.symm.trans h9) (by decide), fun h9 => absurd (e0.symm.trans h9) (by decide)⟩
    show F a = .inr (7, [.int x1, .int x2, .int x3, .int x4, .ref (roE (F a)), .ref (rbE (F a))])
    rw [e1, e2]; exact h1
  · have e0 : kdE (F a) = 8 := by rw [h1]; rfl
    have e1 : roE (F a) = a' := by rw [h1]; rfl
    refine ⟨fun h9 => absurd (e0.symm.trans h9) (by decide), fun h9 => absurd (e0.symm.trans h9) (by decide), fun h9 => absurd (e0.symm.trans h9) (by decide), fun _ => ⟨x1, mk, x2, x3, x4, x5, ?_⟩, fun h9 => absurd (e0.symm.trans h9) (by decide), fun h9 => absurd (e0.symm.trans h9) (by decide)⟩
    show F a = .inr (8, [.int x1, .long mk, .int x2, .int x3, .int x4, .int x5, .ref (roE (F a))])
    rw [e1]; exact h1
  · have e0 : kdE (F a) = 10 := by rw [h1]; rfl
    have e1 : roE (F a) = b := by rw [h1]; rfl
    refine ⟨fun h9 => absurd (e0.symm.trans h9) (by decide), fun h9 => absurd (e0.symm.trans h9) (by decide), fun h9 => absurd (e0.symm.trans h9) (by decide), fun h9 => absurd (e0.symm.trans h9) (by decide), fun _ => ⟨x1, x2, x3, x4, x5, y1, y2, ?_⟩, fun h9 => absurd (e0.symm.trans h9) (by decide)⟩
    show F a = .inr (10, [.int x1, .ref (roE (F a)), .int x2, .int x3, .int x4, .int x5, .long y1, .long y2])
    rw [e1]; exact h1
theorem PF_SHP {cT : Nat → ClassId} {L : List Nat} {F : Nat → va_E} (h : PF cT L F) : SHP L (fun a => kdE (F a)) (fun a => siE (F a)) (fun a => roE (F a)) (fun a => rbE (F a)) := fun a ha => by
  rcases h a ha with ⟨n, f, h1, h2⟩ | ⟨r, n, k, f, h1, h2, h3, h4, h5⟩ | ⟨x1, x2, x3, x4, a', b, r, k, f, g, h1, h2, h3, h4, h5, h6, h7⟩ | ⟨x1, mk, x2, x3, x4, x5, a', f, h1, h2, h3⟩ | ⟨x1, x2, x3, x4, x5, y1, y2, b, r, k, g, h1, h2, h3, h4, h5⟩
  · have e0 : kdE (F a) = 0 := by rw [h1]; rfl
    exact ⟨fun h9 => absurd (e0.symm.trans h9) (by decide), fun h9 => absurd (e0.symm.trans h9) (by decide), fun h9 => absurd (e0.symm.trans h9) (by decide), fun h9 => absurd (e0.symm.trans h9) (by decide)⟩
  · have e0 : kdE (F a) = 1 := by rw [h1]; rfl
    have e1 : roE (F a) = r := by rw [h1]; rfl
    refine ⟨fun _ => ?_, fun h9 => absurd (e0.symm.trans h9) (by decide), fun h9 => absurd (e0.symm.trans h9) (by decide), fun h9 => absurd (e0.symm.trans h9) (by decide)⟩
    show roE (F a) ∈ L ∧ kdE (F (roE (F a))) = 0 ∧ siE (F (roE (F a))) ≤ 72
    rw [e1, h3]; exact ⟨h2, rfl, h5.1⟩
  · have e0 : kdE (F a) = 7 := by rw [h1]; rfl
    have e1 : roE (F a) = a' := by rw [h1]; rfl
    have e2 : rbE (F a) = b := by rw [h1]; rfl
    have e3 : roE (F b) = r := by rw [h5]; rfl
    refine ⟨fun h9 => absurd (e0.symm.trans h9) (by decide), fun _ => ?_, fun h9 => absurd (e0.symm.trans h9) (by decide), fun h9 => absurd (e0.symm.trans h9) (by decide)⟩
    show roE (F a) ∈ L ∧ kdE (F (roE (F a))) = 0 ∧ siE (F (roE (F a))) = 16 ∧ rbE (F a) ∈ L ∧ kdE (F (rbE (F a))) = 1 ∧ siE (F (roE (F (rbE (F a))))) = 72
    rw [e1, e2, e3, h3, h7, h5]; exact ⟨h2, rfl, rfl, h4, rfl, rfl⟩
  · have e0 : kdE (F a) = 8 := by rw [h1]; rfl
    have e1 : roE (F a) = a' := by rw [h1]; rfl
    refine ⟨fun h9 => absurd (e0.symm.trans h9) (by decide), fun h9 => absurd (e0.symm.trans h9) (by decide), fun _ => ?_, fun h9 => absurd (e0.symm.trans h9) (by decide)⟩
    show roE (F a) ∈ L ∧ kdE (F (roE (F a))) = 0 ∧ siE (F (roE (F a))) = 16
    rw [e1, h3]; exact ⟨h2, rfl, rfl⟩
  · have e0 : kdE (F a) = 10 := by rw [h1]; rfl
    have e1 : roE (F a) = b := by rw [h1]; rfl
    have e3 : roE (F b) = r := by rw [h3]; rfl
    refine ⟨fun h9 => absurd (e0.symm.trans h9) (by decide), fun h9 => absurd (e0.symm.trans h9) (by decide), fun h9 => absurd (e0.symm.trans h9) (by decide), fun _ => ?_⟩
    show roE (F a) ∈ L ∧ kdE (F (roE (F a))) = 1 ∧ siE (F (roE (F (roE (F a))))) = 16
    rw [e1, e3, h5, h3]; exact ⟨h2, rfl, rfl⟩
theorem PLB_PS {c : ClassId} {n N : Nat} {g : Nat → Option Nat} {L : List Nat} {F : Nat → va_E} (h : PLB c n g N L F) : ∀ i9, i9 < N → ∃ q9, g i9 = some q9 ∧ q9 ∈ L ∧ kdE (F q9) = 1 ∧ siE (F (roE (F q9))) = n := fun i9 h9 => by
  obtain ⟨q, r, k, f, h1, h2, h3, h4, h5⟩ := h i9 h9
  have e1 : roE (F q) = r := by rw [h4]; rfl
  refine ⟨q, h1, h2, by rw [h4]; rfl, ?_⟩
  rw [e1, h5]; rfl
/-- no two places hold the same -/
def INJ (g : Nat → Option Nat) (i : Nat) : Prop := ∀ a b, a < i → b < i → g a = g b → a = b
theorem INJ_up {c : ClassId} {n i : Nat} {g : Nat → Option Nat} {L : List Nat} {F : Nat → va_E} {q r : Nat} (h : INJ g i) (hp : PLB c n g i L F) (hq : q ∉ r :: L) : INJ (va_up g i (some q)) (i + 1) := fun a b ha hb he => by
  have key : ∀ j, j < i → ¬ g j = some q := fun j hj h9 => by
    obtain ⟨q9, r9, k9, f9, h1, h2, -⟩ := hp j hj
    have h3 : q9 = q := Option.some.inj (h1.symm.trans h9)
    exact hq (List.mem_cons_of_mem _ (h3 ▸ h2))
  by_cases hai : a = i
  · by_cases hbi : b = i
    · omega
    · subst hai
      rw [va_up_self, va_up_ne _ _ hbi] at he
      exact absurd he.symm (key b (by omega))
  · by_cases hbi : b = i
    · subst hbi
      rw [va_up_self, va_up_ne _ _ hai] at he
      exact absurd he (key a (by omega))
    · rw [va_up_ne _ _ hai, va_up_ne _ _ hbi] at he
      exact h a b (by omega) (by omega) he
theorem PLB_rb {c : ClassId} {n N : Nat} {g : Nat → Option Nat} {L : List Nat} {F : Nat → va_E} (h : PLB c n g N L F) {i q : Nat} (hi : i < N) (hg : g i = some q) : rbE (F q) = 0 := by
  obtain ⟨q9, r9, k9, f9, h1, h2, h3, h4, -⟩ := h i hi
  have h5 : q9 = q := Option.some.inj (h1.symm.trans hg)
  subst h5
  rw [h4]; rfl
