/-! Methods that throw: a contract for them, and the rows by which a caller passes the exception on or catches it. -/
/-- the object at x is of class cls -/
def xk_Is (cls : String) (x : Addr) (t : State) : Prop := ∃ ce : Cell, t.heap[x]? = some ce ∧ ce.vm.isStatics = false ∧ t.vm.findClass cls = some ce.cls
/-- it threw a new object of class cls, and no old cell has changed -/
def xk_Q (cls : String) (st : State) (o : Outcome) (t : State) : Prop := ∃ x : Addr, o = .threw x ∧ st.heap.size ≤ x ∧ xk_Is cls x t ∧ FramedT st o t [] 1 6
def xk_T (l : Launch) (y : MethodName) (ws : List Cond) (rm : Room) (Pc : Array Value → State → Prop) (cls : String) : Prop :=
  MetFree l y (headSpec ws rm) Pc (fun _ _ _ _ _ => True) (fun _ st o t => xk_Q cls st o t)
def xk_MQ (below : List Frame) (cls : String) (s : State) : State → Prop := fun t => ∃ o, t.status = .running ∧ Ended t below o ∧ xk_Q cls s o t
theorem xk_T.ofW {l : Launch} {y : MethodName} {ws ws' : List Cond} {rm : Room} {Pc : Array Value → State → Prop} {cls : String} {cc : ByteArray} {maxL : Nat} {ret : Option FieldType}
    (hy : plainName y.cls = true) (hw : ws = Cond.code y cc maxL ret :: ws')
    (body : ∀ p e s m args below meth c s₁, BodyLoose p l y (headSpec ws rm) cc maxL ret e s m args below meth c s₁ → c.maxLocals = maxL → Pc args s → (∀ (pc : Nat), ∀ x ∈ c.exceptionTable.toList, covers x pc = false) →
      W p l e (headSpec ws rm).room s m args below meth c s.heap [] 0 0 (xk_MQ below cls s) (entryFrame m args maxL)) : xk_T l y ws rm Pc cls := by
  refine MetFree.of_bodyS (code := cc) (maxLocals := maxL) (ret := ret) hy ?_ ?_
  · intro args s m h hn
    obtain ⟨meth, c, h1, h2, h3, h4, h5, h6, -, -⟩ := Cond.code_spec hn (atoms_spec (ws := ws) h _ (by rw [hw]; exact List.mem_cons_self))
    exact ⟨meth, c, h1, h2, h3, h4, h5, h6⟩
  · intro p e s m args below meth c s₁ B hml hP _
    have hh0 : s₁.heap = s.heap := by rw [B.state]; rfl
    have hcode : (Cond.code y cc maxL ret).before args s = true := atoms_spec (ws := ws) B.pre _ (by rw [hw]; exact List.mem_cons_self)
    have hempty := B.noHandlers hcode
    have hno : ∀ (pc : Nat), ∀ x ∈ c.exceptionTable.toList, covers x pc = false := by
      intro pc x hx
      have h0 : c.exceptionTable.size = 0 := by simpa [Array.isEmpty] using hempty
      have h1 : c.exceptionTable.toList = [] := List.eq_nil_of_length_eq_zero (by simpa using h0)
      rw [h1] at hx
      cases hx
    obtain ⟨t, a1, o, b1, b2, b3⟩ := body p e s m args below meth c s₁ B hml hP hno s₁ hh0 (Stand.of_body B)
    exact ⟨t, o, a1, b1, b2, b3⟩
section XK
variable {p : Program} {l : Launch} {e : Env} {R : Room} {s : State} {m : MethodId} {args : Array Value} {below : List Frame} {meth : Method} {c : Code} {H : Heap} {locs : List Loc} {cells slots : Nat} {Q : State → Prop}
/-- from 'invokespecial X.<init>()' of a fresh exception, with athrow behind it, to the method's end -/
theorem xk_throw {cc : ByteArray} (hexec : p.tables.exec = Jvm.exec) (hb : c.code = cc) (htr : e.platform.stackTraces = false) {own cls : String} {names : List String} {ic : Nat} (hown : s.vm.findClass own = some m.cls)
    (hcls : Bundle.fit cls = true) (hnames : ∀ n ∈ names, Bundle.fit n = true) (h : ∀ a ∈ Bundle.ownAtoms0 own ic cls names, a.before args s = true)
    {a : Addr} {cX : ClassId} {kX : Class} (hfound : s.vm.findClass cls = some cX) (hkX : s.vm.classes[cX]? = some kX) (hcell : H[a]? = some (freshCell cX kX)) (hnew : s.heap.size ≤ a)
    {pc : Nat} {ls : Array Slot} (hsize : ls.size = c.maxLocals) (hd6 : decode cc pc = .ok (.invokespecial ic, 3)) (hd9 : decode cc (pc + 3) = .ok (.athrow, 1)) (hout : ∀ x ∈ c.exceptionTable.toList, covers x (pc + 3) = false)
    (hRframes : names.length + 3 < R.frames) (hRlocals : 1 + (13 * (names.length + 1) + 41) ≤ R.locals) (hlocks : meth.locks = false) :
    W p l e R s m args below meth c H [] 1 6 (xk_MQ below cls s) (F0 m pc ls [.ref a, .ref a]) := by
  intro T hT X
  obtain ⟨U, hs, hrun, hend, hW, hsame, ce, hce, hoc⟩ := X.ctorThrow0 hexec htr hown hcls hnames h (fun x hx => by cases hx) hfound hkX (by rw [hT]; exact hcell) hnew (g := F0 m pc ls [.ref a, .ref a]) rfl hsize rfl rfl (rest := []) rfl
    (by rw [hb]; exact hd6) (by rw [hb]; exact hd9) hout hRframes (by simpa [JFrame.monitorRoom, Value.category] using hRlocals)
  refine ⟨U, hs, .threw a, hrun, hend, a, rfl, hnew, ⟨ce, hce, ?_, ?_⟩, ⟨a, rfl⟩, hW, hsame⟩
  · rw [hoc.vm]; rfl
  · rw [hW.alike.findClass]; exact hoc.cls
/-- a call of a method that throws: where the caller stands then -/
theorem xk_called {y : MethodName} {ws : List Cond} {rm : Room} {Pc : Array Value → State → Prop} {cls : String} {bytes : ByteArray} {maxL : Nat} {ret : Option FieldType} {T : State}
    (X : Stand p l e R s m args below meth c T locs cells slots) (hM : xk_T l y ws rm Pc cls) (hblind : FrameBlind Pc) (hrc : rm.cells = 1) (hrs : rm.slots = 6) (hframes : rm.frames + 1 ≤ R.frames) (hlocals : 8 + (maxL + 11) + rm.locals ≤ R.locals)
    (hws : ∀ w ∈ ws, ∀ (a' : Array Value) (U : State), s.WarmedH U.vm → w.before a' U = true) (hcode : Cond.code y bytes maxL ret ∈ ws) (hini : (Cond.initialized y.cls).before args s = true)
    {g : JFrame} {ig : Instr} {len : Nat} {mk : MethodId} {a : Array Value} (hg : g.method = m) (hsize : g.locals.size = c.maxLocals) (hdg : decode c.code g.pc = .ok (ig, len)) (hW : 2 * g.monitorRoom + (g.stack.map fun v => v.category).sum ≤ 8)
    (hn : T.methodNamed? y = some mk) (hcells : cells + 1 ≤ R.cells) (hslots : slots + 6 ≤ R.slots) (hPc : Pc a T) :
    ∃ (x : Addr) (T' : State), Stand p l e R s m args below meth c T' locs (cells + 1) (slots + 6) ∧ T.heap.size ≤ x ∧ xk_Is cls x T' ∧ T.heap.size ≤ T'.heap.size ∧ (∀ q : Nat, q < T.heap.size → T'.heap[q]? = T.heap[q]?) ∧
      Steps p.tables e below (doInvoke e (T.setTop g) [] mk a).1 ((T'.setTop g).pushFrame (.throwing x)) := by
  have h1 : (headSpec ws rm).pre.before a T = true := atoms_intro fun w hw => hws w hw _ _ X.warmed
  have h2 : (Cond.code y bytes maxL ret).before a T = true := hws _ hcode _ _ X.warmed
  have h3 : (Cond.initialized y.cls).before a T = true := word_at X.warmed (Or.inl (by first | rfl | simp [Cond.onTables, Cond.keeps, Cond.steady])) hini
  obtain ⟨methY, cY, hmY, hcY, -, hlY, -, -, -, -⟩ := Cond.code_spec hn h2
  obtain ⟨kY, hkY, -⟩ := className_of_methodNamed hn
  have hinitY : kY.init = .initialized := Cond.initialized_spec (findClass_of_methodNamed hn) hkY h3
  have h : At T g.method c below := by rw [hg]; exact X.here
  have happ : (headSpec ws rm).appliesLoose y e.platform (T.calling g mk a) = true :=
    Spec.appliesLoose_calling (g := g) h hdg hn hkY hinitY
      (X.room_calling (g := g) (R' := rm) hsize hmY hcY hframes (by rw [hlY]; omega) (by rw [hrc]; exact hcells) (by rw [hrs]; exact hslots)) h1
  obtain ⟨mid, hmid⟩ := h.above
  have hfr : (T.setTop g).frames = (.java g :: mid) ++ below := by rw [State.frames_setTop' g h.top, hmid]; rfl
  obtain ⟨o, s₂, hsteps, -, hend, hq⟩ := Steps.callFree hM p X.admits X.cas X.clock (acts := []) hfr happ (hblind _ _ _ _ hPc) trivial
  rw [State.frames_setTop' g h.top, X.tail] at hend
  obtain ⟨x, rfl, hx, hIs, -, hW₂, hsame⟩ := hq
  obtain ⟨T', X', hWT, hsame', ht⟩ := X.outOfThrown hg hend hW₂ hsame
  rw [List.append_nil] at X'
  have hheap : s₂.heap = T'.heap := by rw [ht, Stand.throwing_heap]
  have hvm : s₂.vm = T'.vm := by rw [ht, Stand.throwing_vm]
  refine ⟨x, T', X', hx, ?_, hsame'.2.1, fun q hq => ?_, ht ▸ hsteps⟩
  · obtain ⟨ce, e1, e2, e3⟩ := hIs
    exact ⟨ce, by rw [← hheap]; exact e1, e2, by rw [← hvm]; exact e3⟩
  · obtain ⟨cell, hc⟩ : ∃ cell, T.heap[q]? = some cell := ⟨_, Array.getElem?_eq_getElem hq⟩
    rw [hc]
    exact hsame'.old_cell hc
/-- the state with the note 'x is thrown' over the frame g -/
def xk_W (p : Program) (l : Launch) (e : Env) (R : Room) (s : State) (m : MethodId) (args : Array Value) (below : List Frame) (meth : Method) (c : Code) (H : Heap) (locs : List Loc) (cells slots : Nat) (Q : State → Prop) (cls : String) (g : JFrame) : Prop :=
  ∀ (x : Addr) (T : State), Stand p l e R s m args below meth c T locs cells slots → H.size ≤ x → xk_Is cls x T → H.size ≤ T.heap.size → (∀ q : Nat, q < H.size → T.heap[q]? = H[q]?) → ∃ t, Steps p.tables e below ((T.setTop g).pushFrame (.throwing x)) t ∧ Q t
/-- out of a method that has changed nothing and has no handler there -/
theorem xk_out {cls : String} {pc : Nat} {ls : Array Slot} {st : List Value} (hout : ∀ x ∈ c.exceptionTable.toList, covers x pc = false) (hlocks : meth.locks = false) (hH : H = s.heap) :
    xk_W p l e R s m args below meth c H [] 1 6 (xk_MQ below cls s) cls (F0 m pc ls st) := by
  intro x T X hx hIs hle hq
  subst hH
  obtain ⟨h1, h2, h3, h4, h5⟩ := X.leaveThrown x (g := F0 m pc ls st) rfl rfl rfl hout hlocks
  refine ⟨_, h1, .threw x, h2, h3, x, rfl, hx, ?_, ⟨x, rfl⟩, h4, h5⟩
  exact hIs
section XKC
variable {y : MethodName} {bytes cc : ByteArray} {maxL nL n index : Nat} {ret : Option FieldType} {ws : List Cond} {rm : Room} {Pc : Array Value → State → Prop} {Ts : List Cond} {own C cls : String} {b : Addr} {As rest : List Value} {pc : Nat} {ls : Array Slot} {st0 : List Value}
theorem xk_callS (S : CallFix p m c cc nL s args Ts own) (hM : xk_T l y ws rm Pc cls) (cw : CallB R s args own index y bytes maxL ret ws rm 1 6 n ∧ (Cond.static y).before args s = true) (hp : PreS s H Pc As)
    (hn : As.length = n) (hsize : ls.size = nL) (hstack : st0 = As.reverse ++ rest) (hW : (rest.map fun v => v.category).sum ≤ 8) (hdg : decode cc pc = .ok (.invokestatic index, 3)) (hf : cells + 1 ≤ R.cells ∧ slots + 6 ≤ R.slots)
    (kk : xk_W p l e R s m args below meth c H locs (cells + 1) (slots + 6) Q cls (F0 m pc ls rest)) : W p l e R s m args below meth c H locs cells slots Q (F0 m pc ls st0) := by
  obtain ⟨⟨hrc, hrs, hfr, hlo, hws, hcw, hcode, hini, hy, hlen, hl⟩, hstt⟩ := cw
  obtain ⟨hx, hb, hml, ho, -⟩ := S
  intro T hT X
  obtain ⟨mk, hnamed⟩ := Cond.code_named hcode
  obtain ⟨methM, cM, hmethM, -, -, -, -, -, -, hsigM⟩ := Cond.code_spec hnamed hcode
  have hstatic : methM.isStatic = true := Cond.static_spec hnamed hmethM hstt
  obtain ⟨kP, hkP, -⟩ := className_of_methodNamed hnamed
  have hinitP : kP.init = .initialized := Cond.initialized_spec (findClass_of_methodNamed hnamed) hkP hini
  obtain ⟨vm₁, X₁, hstep₁⟩ := X.invokestatic hx ho hl hnamed hmethM hstatic hkP hinitP hy (g := F0 m pc ls st0) rfl (argsL := As) (rest := rest) (hn.trans (hlen _ hsigM)) hstack (by rw [hb]; exact hdg)
  obtain ⟨x, T', X', q1, q2, q3, q4, hsteps⟩ := xk_called (g := F0 m pc ls rest) (ig := .invokestatic index) (len := 3) X₁ hM hp.1 hrc hrs hfr hlo hws hcw hini rfl (hsize.trans hml.symm) (by rw [hb]; exact hdg) (by simpa [JFrame.monitorRoom] using hW) (X₁.named hnamed) hf.1 hf.2 (hp.2 (T.setVm vm₁) hT X₁.warmed)
  have hTh : (T.setVm vm₁).heap = H := hT
  rw [hTh] at q1 q3 q4
  obtain ⟨t, a1, b1⟩ := kk x T' X' q1 q2 q3 q4
  exact ⟨t, hstep₁ _ fun acts => by rw [doInvoke_state]; exact hsteps.trans a1, b1⟩
theorem xk_callV (S : CallFix p m c cc nL s args Ts own) (hM : xk_T l y ws rm Pc cls) (cw : CallW R s args own C index y bytes maxL ret ws rm 1 6 n) (hp : PreV s H C b Pc As)
    (hn : As.length = n) (hsize : ls.size = nL) (hstack : st0 = As.reverse ++ .ref b :: rest) (hW : (rest.map fun v => v.category).sum ≤ 8) (hdg : decode cc pc = .ok (.invokevirtual index, 3)) (hf : cells + 1 ≤ R.cells ∧ slots + 6 ≤ R.slots)
    (kk : xk_W p l e R s m args below meth c H locs (cells + 1) (slots + 6) Q cls (F0 m pc ls rest)) : W p l e R s m args below meth c H locs cells slots Q (F0 m pc ls st0) := by
  obtain ⟨⟨hrc, hrs, hfr, hlo, hws, hcw, hcode, hini, hy, hlen, hl⟩, hinst, hsel⟩ := cw
  obtain ⟨hx, hb, hml, ho, -⟩ := S
  obtain ⟨hbl, ⟨cellB, hcB, hoB, hclB⟩, hPc⟩ := hp
  intro T hT X
  obtain ⟨mk, methM, hnamed, hmethM, hstM, habM⟩ := Cond.instanceMethod_spec hinst
  obtain ⟨methM', cM, hmethM', -, -, -, -, -, -, hsigM⟩ := Cond.code_spec hnamed hcode
  cases hmethM.symm.trans hmethM'
  obtain ⟨c2, r2, m2, q1, q2, q3, q4, kP, hkP, hkPi⟩ := Cond.selects_spec hsel
  cases hclB.symm.trans q1
  cases (State.methodFound?_of_named hnamed hy).symm.trans q2
  cases hnamed.symm.trans q3
  have hselP : selectMethod e.platform s.vm cellB.cls mk = .method mk := by rw [Launch.admits_selectMethod X.admits]; exact q4
  obtain ⟨vm₁, X₁, hstep₁⟩ := X.invokevirtual hx ho hl hnamed hmethM hstM hkP hkPi hy (a := b) (cell := cellB) (by rw [hT]; exact hcB)
    (fun z h => by rw [h] at hoB; cases hoB) hselP hmethM habM hkP hkPi (g := F0 m pc ls st0) rfl (argsL := As) (rest := rest) (hn.trans (hlen _ hsigM)) hstack (by rw [hb]; exact hdg)
  obtain ⟨x, T', X', q1, q2, q3, q4, hsteps⟩ := xk_called (g := F0 m pc ls rest) (ig := .invokevirtual index) (len := 3) X₁ hM hbl hrc hrs hfr hlo hws hcw hini rfl (hsize.trans hml.symm) (by rw [hb]; exact hdg) (by simpa [JFrame.monitorRoom] using hW) (X₁.named hnamed) hf.1 hf.2 (hPc (T.setVm vm₁) hT X₁.warmed)
  have hTh : (T.setVm vm₁).heap = H := hT
  rw [hTh] at q1 q3 q4
  obtain ⟨t, a1, b1⟩ := kk x T' X' q1 q2 q3 q4
  exact ⟨t, hstep₁ _ fun acts => by rw [doInvoke_state]; exact hsteps.trans a1, b1⟩
end XKC
end XK
