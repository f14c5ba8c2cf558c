/-! Catching: the search through the handlers resolves the class that an entry names, the first time. -/
theorem xk_go {E : CtlPost} {e : Env} {d : Bool} {acts : List Action} {s : State} {f : JFrame} {a : Addr} {Q : Handler → Pre} {x : ExceptionTableEntry} {t : List ExceptionTableEntry} {c : ClassId} {cell : Cell} {vm' : Vm}
    (hx : covers x f.pc = true) (h0 : x.catchType ≠ 0) (hg : (Jvm.resolveClass f.method.cls x.catchType).Gives e.toSetting s.vm (.ok c) vm') (hsz : vm'.classes.size ≤ s.vm.classes.size)
    (hcell : s.heap[a]? = some cell) (hobj : ∀ k, cell.vm ≠ .statics k) (hk : ∃ k, vm'.classes[cell.cls]? = some k) (hc : ∃ k, vm'.classes[c]? = some k) :
    wp (findHandler.go f a (x :: t)) Q E e d acts s ↔ if vm'.assignable cell.cls c = true then Q (.found x.handlerPc) d acts (s.setVm vm') else wp (findHandler.go f a t) Q E e d acts (s.setVm vm') := by
  obtain ⟨ha, ht⟩ := hg.op (op := VmOp.resolveClass f.method.cls x.catchType) rfl
  simp only [covers] at hx
  cases hfit : vm'.assignable cell.cls c <;>
    simp [findHandler.go, hx, h0, ha, ht, hsz, hcell, hobj, hk, hc, hfit, VmOp.dirties, VmOp.acts, State.setVm]
theorem xk_found {e : Env} {s s' : State} {a : Addr} {f : JFrame} {r : List Frame} {pc : Nat} (hfind : ∀ (Q : Handler → Pre) (E : CtlPost) (d : Bool) (acts : List Action), wp (findHandler f a) Q E e d acts s ↔ Q (.found pc) d acts s') :
    (stepThrowing e s a (.java f :: r)).Is (s'.setFrames (.java { f with pc := pc, stack := [.ref a] } :: r)) [] := by
  simp only [stepThrowing, searchFrame, vmDo]
  generalize hr : Sem.go _ e false [] s = res
  obtain ⟨as, rfl, ha⟩ := Sem.eq_ok_of hr (a := Handler.found pc) (s' := s') (acts' := []) (by simp [hfind])
  exact ⟨rfl, ha⟩
section XC
variable {p : Program} {l : Launch} {e : Env} {R : Room} {s : State} {m : MethodId} {args : Array Value} {below : List Frame} {meth : Method} {c : Code} {H : Heap} {locs : List Loc} {cells slots : Nat} {Q : State → Prop}
theorem xk_caught {T : State} {vm' : Vm} {g : JFrame} {a : Addr} {pc : Nat} (h : At T g.method c below)
    (hfind : ∀ (Q : Handler → Pre) (E : CtlPost) (d : Bool) (acts : List Action), wp (findHandler g a) Q E e d acts ((T.setTop g).pushFrame (.throwing a)) ↔ Q (.found pc) d acts (((T.setTop g).pushFrame (.throwing a)).setVm vm'))
    {target : State} (hrest : Steps p.tables e below ((T.setVm vm').setTop { g with pc := pc, stack := [.ref a] }) target) :
    Steps p.tables e below ((T.setTop g).pushFrame (.throwing a)) target := by
  obtain ⟨hgo, hw⟩ := h.throwing a
  refine Steps.head hgo hw ?_
  rw [stepThread_throwing (frames_entered h.top _), (xk_found (s := (T.setTop g).pushFrame (.throwing a)) hfind).1]
  obtain ⟨g₀, hg⟩ := Option.isSome_iff_exists.mp h.top
  obtain ⟨r, hr⟩ := State.topJava?_eq_some.mp hg
  have hr' : (T.setVm vm').frames = .java g₀ :: r := hr
  rw [State.setTop_of_frames _ hr'] at hrest
  have e1 : (((T.setTop g).pushFrame (.throwing a)).setVm vm').setFrames (.java { g with pc := pc, stack := [.ref a] } :: T.frames.tail) = (T.setVm vm').setFrames (.java { g with pc := pc, stack := [.ref a] } :: r) := by
    rw [State.pushFrame, State.setTop_of_frames _ hr, State.setFrames_setFrames, hr]
    show ((T.setFrames _).setVm vm').setFrames _ = _
    rw [show (T.setFrames (Frame.throwing a :: (T.setFrames (Frame.java g :: r)).frames)).setVm vm' = (T.setVm vm').setFrames (Frame.throwing a :: (T.setFrames (Frame.java g :: r)).frames) from rfl, State.setFrames_setFrames]
    rfl
  rw [e1]
  exact hrest
/-- the first entry takes it -/
theorem xk_catch1 {own cls : String} {x0 : ExceptionTableEntry} {rest : List ExceptionTableEntry} {pc : Nat} {ls : Array Slot} {st : List Value} (htab : c.exceptionTable.toList = x0 :: rest) (hcov : covers x0 pc = true) (h0 : x0.catchType ≠ 0)
    (hown : s.vm.findClass own = some m.cls) (hcl : (Cond.classLink own x0.catchType cls).before args s = true) (hcast : (Cond.castable cls cls).before args s = true)
    (kk : ∀ (x : Addr) (H1 : Heap), H.size ≤ x → H.size ≤ H1.size → (∀ q : Nat, q < H.size → H1[q]? = H[q]?) → W p l e R s m args below meth c H1 locs cells slots Q (F0 m x0.handlerPc ls [.ref x])) :
    xk_W p l e R s m args below meth c H locs cells slots Q cls (F0 m pc ls st) := by
  intro x T X hx hIs hle hq
  have hpl : e.platform.magicAccessors = ({} : Platform).magicAccessors := by rw [X.admits.platform]
  obtain ⟨cC, hfc, hclk⟩ := Cond.classLink_spec hown hcl e.platform hpl
  obtain ⟨hg₁, hwarm₁, hready₁⟩ := State.classEntry (e := e) X.warmed hclk
  generalize T.vm.noted m.cls x0.catchType (.cls cC) = vm₁ at hg₁ hwarm₁ hready₁
  obtain ⟨c3, c4, hc3, hc4, hasg⟩ := Cond.castable_spec hcast
  cases hfc.symm.trans hc3
  cases hfc.symm.trans hc4
  obtain ⟨ce, hce, hst, hfce⟩ := hIs
  have hcls : ce.cls = cC := by
    rw [X.warmed.alike.findClass] at hfce
    exact Option.some.inj (hfce.symm.trans hfc)
  obtain ⟨kC, hkC⟩ := Vm.classAt_of_findClass hfc
  obtain ⟨k1, hk1, -⟩ := hwarm₁.alike.2.2 _ _ hkC
  have hsz : vm₁.classes.size ≤ T.vm.classes.size := by
    have a1 := hwarm₁.alike.2.1
    have a2 := X.warmed.alike.2.1
    omega
  have hasg1 : vm₁.assignable ce.cls cC = true := by rw [hcls, hwarm₁.alike.assignable]; exact hasg
  obtain ⟨t, a1, b1⟩ := kk x T.heap hx hle hq (T.setVm vm₁) rfl (X.noted hwarm₁)
  refine ⟨t, xk_caught (vm' := vm₁) (pc := x0.handlerPc) (g := F0 m pc ls st) X.here ?_ a1, b1⟩
  intro Q E d acts
  have hm' : ((T.setTop (F0 m pc ls st)).pushFrame (.throwing x)).vm.method? m = some meth := by rw [Stand.throwing_vm]; exact X.method'
  rw [W.findHandler_eq hm' X.code, htab]
  rw [xk_go (s := (T.setTop (F0 m pc ls st)).pushFrame (.throwing x)) (c := cC) (cell := ce) (vm' := vm₁) hcov h0 (by rw [Stand.throwing_vm]; exact hg₁) (by rw [Stand.throwing_vm]; exact hsz) (by rw [Stand.throwing_heap]; exact hce) (fun k => VmData.ne_statics_of hst k) ⟨k1, by rw [hcls]; exact hk1⟩ ⟨k1, hk1⟩, if_pos hasg1]
end XC
