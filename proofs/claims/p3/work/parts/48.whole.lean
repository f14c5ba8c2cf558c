theorem d_Lw_law_23 : decode b_Lw_law 23 = .ok (.iload 4, 2) := by decide +kernel
theorem d_Lw_law_25 : decode b_Lw_law 25 = .ok (.aload_n 0, 1) := by decide +kernel
theorem d_Lw_law_26 : decode b_Lw_law 26 = .ok (.arraylength, 1) := by decide +kernel
theorem d_Lw_law_27 : decode b_Lw_law 27 = .ok (.iconst 5, 1) := by decide +kernel
theorem d_Lw_law_28 : decode b_Lw_law 28 = .ok (.isub, 1) := by decide +kernel
theorem d_Lw_law_29 : decode b_Lw_law 29 = .ok (.if_icmp .gt 944, 3) := by decide +kernel
theorem d_Lw_law_973 : decode b_Lw_law 973 = .ok (.iconst 1, 1) := by decide +kernel
theorem d_Lw_law_974 : decode b_Lw_law 974 = .ok (.ireturn, 1) := by decide +kernel
theorem d_Lw_law_967 : decode b_Lw_law 967 = .ok (.iinc 4 5, 3) := by decide +kernel
theorem d_Lw_law_970 : decode b_Lw_law 970 = .ok (.goto (-947), 3) := by decide +kernel
theorem d_Lw_law_32 : decode b_Lw_law 32 = .ok (.aload_n 0, 1) := by decide +kernel
theorem d_Lw_law_33 : decode b_Lw_law 33 = .ok (.iload 4, 2) := by decide +kernel
theorem d_Lw_law_35 : decode b_Lw_law 35 = .ok (.iaload, 1) := by decide +kernel
theorem d_Lw_law_36 : decode b_Lw_law 36 = .ok (.bipush 31, 2) := by decide +kernel
theorem d_Lw_law_38 : decode b_Lw_law 38 = .ok (.iand, 1) := by decide +kernel
theorem d_Lw_law_39 : decode b_Lw_law 39 = .ok (.tableswitch 928 0 17 #[85, 166, 285, 366, 418, 458, 486, 570, 598, 670, 698, 723, 763, 791, 804, 832, 860, 888], 85) := by decide +kernel
theorem d_Lw_law_0 : decode b_Lw_law 0 = .ok (.new 8, 3) := by decide +kernel
theorem d_Lw_law_3 : decode b_Lw_law 3 = .ok (.dup, 1) := by decide +kernel
theorem d_Lw_law_4 : decode b_Lw_law 4 = .ok (.invokespecial 74, 3) := by decide +kernel
theorem d_Lw_law_7 : decode b_Lw_law 7 = .ok (.astore_n 1, 1) := by decide +kernel
theorem d_Lw_law_8 : decode b_Lw_law 8 = .ok (.new 75, 3) := by decide +kernel
theorem d_Lw_law_11 : decode b_Lw_law 11 = .ok (.dup, 1) := by decide +kernel
theorem d_Lw_law_12 : decode b_Lw_law 12 = .ok (.invokespecial 77, 3) := by decide +kernel
theorem d_Lw_law_15 : decode b_Lw_law 15 = .ok (.astore_n 2, 1) := by decide +kernel
theorem d_Lw_law_16 : decode b_Lw_law 16 = .ok (.iconst 1, 1) := by decide +kernel
theorem d_Lw_law_17 : decode b_Lw_law 17 = .ok (.newarray .long, 2) := by decide +kernel
theorem d_Lw_law_19 : decode b_Lw_law 19 = .ok (.astore_n 3, 1) := by decide +kernel
theorem d_Lw_law_20 : decode b_Lw_law 20 = .ok (.iconst 0, 1) := by decide +kernel
theorem d_Lw_law_21 : decode b_Lw_law 21 = .ok (.istore 4, 2) := by decide +kernel
/-! THE CLAIM OUT OF ONE WALK OF THE LAW'S BODY. Your part is whole_start (and what it stands on); all else here is the same for every law, but numbers. -/
def R_law : String := "DoorServerLaw"
def lw_P (b : Addr) (xs : List Int32) (args : Array Value) (s : State) : Prop := args = #[.ref b] ∧ s.IntsAt b xs ∧ xs.length ≤ 2560 ∧ (Jvm.Cond.and given_1 narrow_1).before args s = true
def lw_Q (_ : Array Value) (s : State) (o : Outcome) (t : State) : Prop := o = .returned (some (.int 1)) ∧ Framed s o t [] 601024 7293034
def lw_Z (below : List Frame) (a : Array Value) (s : State) : State → Prop := fun t => ∃ o, t.status = .running ∧ Ended t below o ∧ lw_Q a s o t
/-- the law's own end, with 1 on the stack, nothing written that was there before, its room as the claim has it -/
theorem lw_ret {p : Program} {l : Launch} {e : Env} {s : State} {m : MethodId} {below : List Frame} {meth : Method} {c : Code} {b : Nat} (hx : p.tables.exec = Jvm.exec) (hb : c.code = code) (hr : meth.sig.returnType = ret) (hlocks : meth.locks = false) {pc : Nat} {H : Heap} {ls : Array Slot} (hdg : decode code pc = .ok (.ireturn, 1)) : W p l e room_1 s m #[Value.ref b] below meth c H [] 601024 7293034 (lw_Z below #[Value.ref b] s) (F0 m pc ls [.int 1]) := by
  intro T hT X
  obtain ⟨fs, hret, hrun, hended, hW, hframe⟩ := X.leave (v := some (.int 1)) (hlocks := hlocks) (fun h => by rw [hr] at h; cases h)
  have hmeth' : T.vm.method? m = some meth := X.method'
  refine ⟨T.setFrames fs, ?_, .returned (some (.int 1)), hrun, hended, rfl, ⟨_, rfl⟩, hW, hframe⟩
  jvm_step X.here [X.here.top, hx, hb, hdg, hmeth', hr, ret, narrow_b1]
  (try refine ⟨rfl, ?_⟩); (try refine ⟨rfl, ?_⟩)
  first | (intro acts; rw [hret _ acts rfl rfl rfl]) | rw [hret _ _ rfl rfl rfl]
  exact Steps.refl _
/-- what holds at the law's entry: the machine, the code, the tables' words (any of lw_tbl by 'hts w (by decide +kernel)'), the script of L ints xs at the cell b, what the Statement gives of the start (any of its parts by flat_of_before) -/
def lw_At (p : Program) (s : State) (m : MethodId) (meth : Method) (c : Code) (b L : Nat) (xs : Nat → Int32) : Prop :=
  p.tables.exec = Jvm.exec ∧ c.code = code ∧ meth.sig.returnType = ret ∧ c.maxLocals = 8 ∧ s.vm.findClass R_law = some m.cls ∧ (∀ w ∈ lw_tbl, w.before #[Value.ref b] s = true) ∧ va_X b L xs s s.heap ∧ b < s.heap.size ∧ meth.locks = false ∧ (Jvm.Cond.and given_1 narrow_1).before #[Value.ref b] s = true

theorem ws_nw {b : Nat} {s : State} (hts : ∀ w ∈ lw_tbl, w.before #[Value.ref b] s = true) : nw_T s s.heap := ⟨va_Nw.of rfl (hts _ (List.mem_append_right _ (tb_1 (List.mem_of_getElem? (i := 106) rfl)) : (Jvm.Cond.methodLinkNest "DoorServer$Server" (22 : Nat) y_Dg_init "DoorServer") ∈ lw_tbl)), va_Nw.of rfl (hts _ (List.mem_append_right _ (tb_1 (List.mem_of_getElem? (i := 150) rfl)) : (Jvm.Cond.methodLinkNest "DoorServer$Answers" (17 : Nat) y_Ke_init "DoorServer") ∈ lw_tbl)), va_Nw.of rfl (hts _ (List.mem_append_right _ (tb_1 (List.mem_of_getElem? (i := 200) rfl)) : (Jvm.Cond.methodLinkNest "DoorServer$Trials" (21 : Nat) y_Tl_init "DoorServer") ∈ lw_tbl)), va_Nw.of rfl (hts _ (List.mem_append_right _ (tb_2 (List.mem_of_getElem? (i := 14) rfl)) : (Jvm.Cond.methodLinkNest "DoorServer$Sessions" (17 : Nat) y_Se_init "DoorServer") ∈ lw_tbl)), va_AO.of (hts _ (List.mem_append_right _ (tb_1 (List.mem_of_getElem? (i := 103) rfl)) : (Jvm.Cond.arrayOver (Jvm.ClassFile.FieldType.object "DoorServer$Bytes")) ∈ lw_tbl)), va_AO.of (hts _ (List.mem_append_right _ (tb_1 (List.mem_of_getElem? (i := 148) rfl)) : (Jvm.Cond.arrayOver (Jvm.ClassFile.FieldType.object "DoorServer$Kept")) ∈ lw_tbl)), va_AO.of (hts _ (List.mem_append_right _ (tb_1 (List.mem_of_getElem? (i := 198) rfl)) : (Jvm.Cond.arrayOver (Jvm.ClassFile.FieldType.object "DoorServer$Trial")) ∈ lw_tbl)), va_AO.of (hts _ (List.mem_append_right _ (tb_2 (List.mem_of_getElem? (i := 12) rfl)) : (Jvm.Cond.arrayOver (Jvm.ClassFile.FieldType.object "DoorServer$Session")) ∈ lw_tbl))⟩
theorem ws_s {args : Array Value} {s : State} {A : Nat → Prop} (hgv : (Jvm.Cond.and given_1 narrow_1).before args s = true) (hA3 : ∀ a : Nat, a < s.heap.size → ¬ A a) : ∃ (t : Nat) (f : Nat → Int32), (Jvm.Term.static "DoorServer$Digests" "SINES" "[I").eval args s none [] s = some (.ref t) ∧ va_T .int t 64 (fun j => .int (f j)) A s s.heap := by
  have hf := flat_of_before _ hgv
  have key : ∀ j : Nat, j < 64 → ∃ v : Int32, (Jvm.Term.elem (Jvm.Term.static "DoorServer$Digests" "SINES" "[I") (Jvm.Term.int (Int32.ofNat j))).eval args s none [] s = some (.int v) := fun j hj => match j, hj with
    | 0, _ => ⟨(-680876936), va_eqv (v := .int (-680876936)) (hf _ (List.mem_of_getElem? (i := 9) rfl)) rfl⟩
    | 1, _ => ⟨(-389564586), va_eqv (v := .int (-389564586)) (hf _ (List.mem_of_getElem? (i := 10) rfl)) rfl⟩
    | 2, _ => ⟨606105819, va_eqv (v := .int 606105819) (hf _ (List.mem_of_getElem? (i := 11) rfl)) rfl⟩
    | 3, _ => ⟨(-1044525330), va_eqv (v := .int (-1044525330)) (hf _ (List.mem_of_getElem? (i := 12) rfl)) rfl⟩
    | 4, _ => ⟨(-176418897), va_eqv (v := .int (-176418897)) (hf _ (List.mem_of_getElem? (i := 13) rfl)) rfl⟩
    | 5, _ => ⟨1200080426, va_eqv (v := .int 1200080426) (hf _ (List.mem_of_getElem? (i := 14) rfl)) rfl⟩
    | 6, _ => ⟨(-1473231341), va_eqv (v := .int (-1473231341)) (hf _ (List.mem_of_getElem? (i := 15) rfl)) rfl⟩
    | 7, _ => ⟨(-45705983), va_eqv (v := .int (-45705983)) (hf _ (List.mem_of_getElem? (i := 16) rfl)) rfl⟩
    | 8, _ => ⟨1770035416, va_eqv (v := .int 1770035416) (hf _ (List.mem_of_getElem? (i := 17) rfl)) rfl⟩
    | 9, _ => ⟨(-1958414417), va_eqv (v := .int (-1958414417)) (hf _ (List.mem_of_getElem? (i := 18) rfl)) rfl⟩
    | 10, _ => ⟨(-42063), va_eqv (v := .int (-42063)) (hf _ (List.mem_of_getElem? (i := 19) rfl)) rfl⟩
    | 11, _ => ⟨(-1990404162), va_eqv (v := .int (-1990404162)) (hf _ (List.mem_of_getElem? (i := 20) rfl)) rfl⟩
    | 12, _ => ⟨1804603682, va_eqv (v := .int 1804603682) (hf _ (List.mem_of_getElem? (i := 21) rfl)) rfl⟩
    | 13, _ => ⟨(-40341101), va_eqv (v := .int (-40341101)) (hf _ (List.mem_of_getElem? (i := 22) rfl)) rfl⟩
    | 14, _ => ⟨(-1502002290), va_eqv (v := .int (-1502002290)) (hf _ (List.mem_of_getElem? (i := 23) rfl)) rfl⟩
    | 15, _ => ⟨1236535329, va_eqv (v := .int 1236535329) (hf _ (List.mem_of_getElem? (i := 24) rfl)) rfl⟩
    | 16, _ => ⟨(-165796510), va_eqv (v := .int (-165796510)) (hf _ (List.mem_of_getElem? (i := 25) rfl)) rfl⟩
    | 17, _ => ⟨(-1069501632), va_eqv (v := .int (-1069501632)) (hf _ (List.mem_of_getElem? (i := 26) rfl)) rfl⟩
    | 18, _ => ⟨643717713, va_eqv (v := .int 643717713) (hf _ (List.mem_of_getElem? (i := 27) rfl)) rfl⟩
    | 19, _ => ⟨(-373897302), va_eqv (v := .int (-373897302)) (hf _ (List.mem_of_getElem? (i := 28) rfl)) rfl⟩
    | 20, _ => ⟨(-701558691), va_eqv (v := .int (-701558691)) (hf _ (List.mem_of_getElem? (i := 29) rfl)) rfl⟩
    | 21, _ => ⟨38016083, va_eqv (v := .int 38016083) (hf _ (List.mem_of_getElem? (i := 30) rfl)) rfl⟩
    | 22, _ => ⟨(-660478335), va_eqv (v := .int (-660478335)) (hf _ (List.mem_of_getElem? (i := 31) rfl)) rfl⟩
    | 23, _ => ⟨(-405537848), va_eqv (v := .int (-405537848)) (hf _ (List.mem_of_getElem? (i := 32) rfl)) rfl⟩
    | 24, _ => ⟨568446438, va_eqv (v := .int 568446438) (hf _ (List.mem_of_getElem? (i := 33) rfl)) rfl⟩
    | 25, _ => ⟨(-1019803690), va_eqv (v := .int (-1019803690)) (hf _ (List.mem_of_getElem? (i := 34) rfl)) rfl⟩
    | 26, _ => ⟨(-187363961), va_eqv (v := .int (-187363961)) (hf _ (List.mem_of_getElem? (i := 35) rfl)) rfl⟩
    | 27, _ => ⟨1163531501, va_eqv (v := .int 1163531501) (hf _ (List.mem_of_getElem? (i := 36) rfl)) rfl⟩
    | 28, _ => ⟨(-1444681467), va_eqv (v := .int (-1444681467)) (hf _ (List.mem_of_getElem? (i := 37) rfl)) rfl⟩
    | 29, _ => ⟨(-51403784), va_eqv (v := .int (-51403784)) (hf _ (List.mem_of_getElem? (i := 38) rfl)) rfl⟩
    | 30, _ => ⟨1735328473, va_eqv (v := .int 1735328473) (hf _ (List.mem_of_getElem? (i := 39) rfl)) rfl⟩
    | 31, _ => ⟨(-1926607734), va_eqv (v := .int (-1926607734)) (hf _ (List.mem_of_getElem? (i := 40) rfl)) rfl⟩
    | 32, _ => ⟨(-378558), va_eqv (v := .int (-378558)) (hf _ (List.mem_of_getElem? (i := 41) rfl)) rfl⟩
    | 33, _ => ⟨(-2022574463), va_eqv (v := .int (-2022574463)) (hf _ (List.mem_of_getElem? (i := 42) rfl)) rfl⟩
    | 34, _ => ⟨1839030562, va_eqv (v := .int 1839030562) (hf _ (List.mem_of_getElem? (i := 43) rfl)) rfl⟩
    | 35, _ => ⟨(-35309556), va_eqv (v := .int (-35309556)) (hf _ (List.mem_of_getElem? (i := 44) rfl)) rfl⟩
    | 36, _ => ⟨(-1530992060), va_eqv (v := .int (-1530992060)) (hf _ (List.mem_of_getElem? (i := 45) rfl)) rfl⟩
    | 37, _ => ⟨1272893353, va_eqv (v := .int 1272893353) (hf _ (List.mem_of_getElem? (i := 46) rfl)) rfl⟩
    | 38, _ => ⟨(-155497632), va_eqv (v := .int (-155497632)) (hf _ (List.mem_of_getElem? (i := 47) rfl)) rfl⟩
    | 39, _ => ⟨(-1094730640), va_eqv (v := .int (-1094730640)) (hf _ (List.mem_of_getElem? (i := 48) rfl)) rfl⟩
    | 40, _ => ⟨681279174, va_eqv (v := .int 681279174) (hf _ (List.mem_of_getElem? (i := 49) rfl)) rfl⟩
    | 41, _ => ⟨(-358537222), va_eqv (v := .int (-358537222)) (hf _ (List.mem_of_getElem? (i := 50) rfl)) rfl⟩
    | 42, _ => ⟨(-722521979), va_eqv (v := .int (-722521979)) (hf _ (List.mem_of_getElem? (i := 51) rfl)) rfl⟩
    | 43, _ => ⟨76029189, va_eqv (v := .int 76029189) (hf _ (List.mem_of_getElem? (i := 52) rfl)) rfl⟩
    | 44, _ => ⟨(-640364487), va_eqv (v := .int (-640364487)) (hf _ (List.mem_of_getElem? (i := 53) rfl)) rfl⟩
    | 45, _ => ⟨(-421815835), va_eqv (v := .int (-421815835)) (hf _ (List.mem_of_getElem? (i := 54) rfl)) rfl⟩
    | 46, _ => ⟨530742520, va_eqv (v := .int 530742520) (hf _ (List.mem_of_getElem? (i := 55) rfl)) rfl⟩
    | 47, _ => ⟨(-995338651), va_eqv (v := .int (-995338651)) (hf _ (List.mem_of_getElem? (i := 56) rfl)) rfl⟩
    | 48, _ => ⟨(-198630844), va_eqv (v := .int (-198630844)) (hf _ (List.mem_of_getElem? (i := 57) rfl)) rfl⟩
    | 49, _ => ⟨1126891415, va_eqv (v := .int 1126891415) (hf _ (List.mem_of_getElem? (i := 58) rfl)) rfl⟩
    | 50, _ => ⟨(-1416354905), va_eqv (v := .int (-1416354905)) (hf _ (List.mem_of_getElem? (i := 59) rfl)) rfl⟩
    | 51, _ => ⟨(-57434055), va_eqv (v := .int (-57434055)) (hf _ (List.mem_of_getElem? (i := 60) rfl)) rfl⟩
    | 52, _ => ⟨1700485571, va_eqv (v := .int 1700485571) (hf _ (List.mem_of_getElem? (i := 61) rfl)) rfl⟩
    | 53, _ => ⟨(-1894986606), va_eqv (v := .int (-1894986606)) (hf _ (List.mem_of_getElem? (i := 62) rfl)) rfl⟩
    | 54, _ => ⟨(-1051523), va_eqv (v := .int (-1051523)) (hf _ (List.mem_of_getElem? (i := 63) rfl)) rfl⟩
    | 55, _ => ⟨(-2054922799), va_eqv (v := .int (-2054922799)) (hf _ (List.mem_of_getElem? (i := 64) rfl)) rfl⟩
    | 56, _ => ⟨1873313359, va_eqv (v := .int 1873313359) (hf _ (List.mem_of_getElem? (i := 65) rfl)) rfl⟩
    | 57, _ => ⟨(-30611744), va_eqv (v := .int (-30611744)) (hf _ (List.mem_of_getElem? (i := 66) rfl)) rfl⟩
    | 58, _ => ⟨(-1560198380), va_eqv (v := .int (-1560198380)) (hf _ (List.mem_of_getElem? (i := 67) rfl)) rfl⟩
    | 59, _ => ⟨1309151649, va_eqv (v := .int 1309151649) (hf _ (List.mem_of_getElem? (i := 68) rfl)) rfl⟩
    | 60, _ => ⟨(-145523070), va_eqv (v := .int (-145523070)) (hf _ (List.mem_of_getElem? (i := 69) rfl)) rfl⟩
    | 61, _ => ⟨(-1120210379), va_eqv (v := .int (-1120210379)) (hf _ (List.mem_of_getElem? (i := 70) rfl)) rfl⟩
    | 62, _ => ⟨718787259, va_eqv (v := .int 718787259) (hf _ (List.mem_of_getElem? (i := 71) rfl)) rfl⟩
    | 63, _ => ⟨(-343485551), va_eqv (v := .int (-343485551)) (hf _ (List.mem_of_getElem? (i := 72) rfl)) rfl⟩
    | (n9 + 64), h9 => absurd h9 (by omega)
  obtain ⟨t, ht, hT⟩ := va_Tof (N := 64) (f := fun j => .int (if hj : j < 64 then Classical.choose (key j hj) else 0)) (by decide) (hf _ (List.mem_of_getElem? (i := 7) rfl)) (va_eqv (v := .int 64) (hf _ (List.mem_of_getElem? (i := 8) rfl)) rfl) (fun j hj => by rw [dif_pos hj]; exact Classical.choose_spec (key j hj)) hA3
  exact ⟨t, fun j => if hj : j < 64 then Classical.choose (key j hj) else 0, ht, hT⟩
theorem ws_t {args : Array Value} {s : State} {A : Nat → Prop} (hgv : (Jvm.Cond.and given_1 narrow_1).before args s = true) (hA3 : ∀ a : Nat, a < s.heap.size → ¬ A a) : ∃ (t : Nat) (f : Nat → Int32), (Jvm.Term.static "DoorServer$Digests" "TURNS" "[I").eval args s none [] s = some (.ref t) ∧ va_T .int t 16 (fun j => .int (f j)) A s s.heap := by
  have hf := flat_of_before _ hgv
  have key : ∀ j : Nat, j < 16 → ∃ v : Int32, (Jvm.Term.elem (Jvm.Term.static "DoorServer$Digests" "TURNS" "[I") (Jvm.Term.int (Int32.ofNat j))).eval args s none [] s = some (.int v) := fun j hj => match j, hj with
    | 0, _ => ⟨7, va_eqv (v := .int 7) (hf _ (List.mem_of_getElem? (i := 76) rfl)) rfl⟩
    | 1, _ => ⟨12, va_eqv (v := .int 12) (hf _ (List.mem_of_getElem? (i := 77) rfl)) rfl⟩
    | 2, _ => ⟨17, va_eqv (v := .int 17) (hf _ (List.mem_of_getElem? (i := 78) rfl)) rfl⟩
    | 3, _ => ⟨22, va_eqv (v := .int 22) (hf _ (List.mem_of_getElem? (i := 79) rfl)) rfl⟩
    | 4, _ => ⟨5, va_eqv (v := .int 5) (hf _ (List.mem_of_getElem? (i := 80) rfl)) rfl⟩
    | 5, _ => ⟨9, va_eqv (v := .int 9) (hf _ (List.mem_of_getElem? (i := 81) rfl)) rfl⟩
    | 6, _ => ⟨14, va_eqv (v := .int 14) (hf _ (List.mem_of_getElem? (i := 82) rfl)) rfl⟩
    | 7, _ => ⟨20, va_eqv (v := .int 20) (hf _ (List.mem_of_getElem? (i := 83) rfl)) rfl⟩
    | 8, _ => ⟨4, va_eqv (v := .int 4) (hf _ (List.mem_of_getElem? (i := 84) rfl)) rfl⟩
    | 9, _ => ⟨11, va_eqv (v := .int 11) (hf _ (List.mem_of_getElem? (i := 85) rfl)) rfl⟩
    | 10, _ => ⟨16, va_eqv (v := .int 16) (hf _ (List.mem_of_getElem? (i := 86) rfl)) rfl⟩
    | 11, _ => ⟨23, va_eqv (v := .int 23) (hf _ (List.mem_of_getElem? (i := 87) rfl)) rfl⟩
    | 12, _ => ⟨6, va_eqv (v := .int 6) (hf _ (List.mem_of_getElem? (i := 88) rfl)) rfl⟩
    | 13, _ => ⟨10, va_eqv (v := .int 10) (hf _ (List.mem_of_getElem? (i := 89) rfl)) rfl⟩
    | 14, _ => ⟨15, va_eqv (v := .int 15) (hf _ (List.mem_of_getElem? (i := 90) rfl)) rfl⟩
    | 15, _ => ⟨21, va_eqv (v := .int 21) (hf _ (List.mem_of_getElem? (i := 91) rfl)) rfl⟩
    | (n9 + 16), h9 => absurd h9 (by omega)
  obtain ⟨t, ht, hT⟩ := va_Tof (N := 16) (f := fun j => .int (if hj : j < 16 then Classical.choose (key j hj) else 0)) (by decide) (hf _ (List.mem_of_getElem? (i := 74) rfl)) (va_eqv (v := .int 16) (hf _ (List.mem_of_getElem? (i := 75) rfl)) rfl) (fun j hj => by rw [dif_pos hj]; exact Classical.choose_spec (key j hj)) hA3
  exact ⟨t, fun j => if hj : j < 16 then Classical.choose (key j hj) else 0, ht, hT⟩
theorem ws_xm {b : Nat} {s : State} {A : Nat → Prop} (hts : ∀ w ∈ lw_tbl, w.before #[Value.ref b] s = true) (hgv : (Jvm.Cond.and given_1 narrow_1).before #[Value.ref b] s = true) (hA3 : ∀ a : Nat, a < s.heap.size → ¬ A a) : xm A s s.heap := by
  obtain ⟨tS, fS, h1, h2⟩ := ws_s hgv hA3
  obtain ⟨tT, fT, h3, h4⟩ := ws_t hgv hA3
  have hi := hts _ (List.mem_filter.mp k_5).1
  exact ⟨tS, tT, fS, fT, va_Zof (hts _ (List.mem_append_right _ (tb_3 (List.mem_of_getElem? (i := 122) rfl)) : (Jvm.Cond.laysStatic "DoorServer$Digests" "SINES" "[I") ∈ lw_tbl)) hi h1 hA3, h2, va_Zof (hts _ (List.mem_append_right _ (tb_3 (List.mem_of_getElem? (i := 124) rfl)) : (Jvm.Cond.laysStatic "DoorServer$Digests" "TURNS" "[I") ∈ lw_tbl)) hi h3 hA3, h4⟩
theorem ws_xz {b : Nat} {s : State} {A : Nat → Prop} (hts : ∀ w ∈ lw_tbl, w.before #[Value.ref b] s = true) (hgv : (Jvm.Cond.and given_1 narrow_1).before #[Value.ref b] s = true) (hA3 : ∀ a : Nat, a < s.heap.size → ¬ A a) : xz_T A s s.heap := by
  have hf := flat_of_before _ hgv
  exact ⟨⟨va_Nw.of rfl (hts _ (List.mem_append_right _ (tb_2 (List.mem_of_getElem? (i := 155) rfl)) : (Jvm.Cond.castable "java/lang/IllegalArgumentException" "java/lang/IllegalArgumentException") ∈ lw_tbl)), va_Nw.of rfl (hts _ (List.mem_append_right _ (tb_2 (List.mem_of_getElem? (i := 156) rfl)) : (Jvm.Cond.declares y_Re_init) ∈ lw_tbl)), va_Nw.of rfl (hts _ (List.mem_append_right _ (tb_2 (List.mem_of_getElem? (i := 158) rfl)) : (Jvm.Cond.declares y_Ex_init) ∈ lw_tbl)), va_Nw.of rfl (hts _ (List.mem_append_right _ (tb_2 (List.mem_of_getElem? (i := 160) rfl)) : (Jvm.Cond.declares y_Th_init) ∈ lw_tbl)), va_Nw.of rfl (hts _ (List.mem_append_right _ (tb_2 (List.mem_of_getElem? (i := 187) rfl)) : (Jvm.Cond.codeSync y_Th_fillInStackTrace2 prog_21_method_18_code (1 : Nat) (Option.some (Jvm.ClassFile.FieldType.object "java/lang/Throwable"))) ∈ lw_tbl))⟩, xz_St.of (hts _ (List.mem_append_right _ (tb_2 (List.mem_of_getElem? (i := 180) rfl)) : (Jvm.Cond.laysStatic "java/lang/Throwable" "UNASSIGNED_STACK" "[Ljava/lang/StackTraceElement;") ∈ lw_tbl)) (hf _ (List.mem_of_getElem? (i := 4) rfl)) hA3, xz_St.of (hts _ (List.mem_append_right _ (tb_2 (List.mem_of_getElem? (i := 182) rfl)) : (Jvm.Cond.laysStatic "java/lang/Throwable" "SUPPRESSED_SENTINEL" "Ljava/util/List;") ∈ lw_tbl)) (hf _ (List.mem_of_getElem? (i := 5) rfl)) hA3⟩
theorem ws_xs {b : Nat} {s : State} {A : Nat → Prop} (hts : ∀ w ∈ lw_tbl, w.before #[Value.ref b] s = true) (hgv : (Jvm.Cond.and given_1 narrow_1).before #[Value.ref b] s = true) (hA3 : ∀ a : Nat, a < s.heap.size → ¬ A a) : xs_T A s s.heap := by
  have hf := flat_of_before _ hgv
  exact ⟨ws_xz hts hgv hA3, va_Nw.of rfl (hts _ (List.mem_append_right _ (tb_3 (List.mem_of_getElem? (i := 26) rfl)) : (Jvm.Cond.castable "java/lang/IllegalStateException" "java/lang/IllegalStateException") ∈ lw_tbl)), Cond.notCastable_moved (args' := #[]) (T := s) (vm₁ := s.vm) (Vm.Alike.refl s.vm) (hf _ (List.mem_of_getElem? (i := 105) rfl))⟩
set_option maxHeartbeats 4000000 in
set_option maxRecDepth 100000 in
theorem lw_loop {p : Program} {l : Launch} {e : Env} {s : State} {m : MethodId} {below : List Frame} {meth : Method} {c : Code} {A : Nat → Prop} {b Ln : Nat} {xs : Nat → Int32} (dC : Nat → ClassId) (dI : Nat → Nat → Nat) (cT : Nat → ClassId) (ds : Nat) (sv : Nat) (g0 : Nat) (se : Nat) (pw : Nat) (ty : Nat) (an : Nat) (aw : Nat) (ts : Nat) (ss : Nat) (rq : Nat) (tp : Nat) (sp : Nat) (ap : Nat) (yr : Nat) (ar : Nat) (dr : Nat) (rr : Nat) (sa : Nat) (tx : Nat) (tr : Nat) (wo : Nat) (di : Nat) (mo : Nat) (ou : Nat) (mr : Nat → Nat) (f0 : Nat → Int64) (gs : Nat → Option Nat) (gp : Nat → Option Nat) (gt : Nat → Option Nat) (gk : Nat → Option Nat) (L : List Nat) (kd : Nat → Nat) (si : Nat → Nat) (ro : Nat → Nat) (hx : p.tables.exec = Jvm.exec) (hb : c.code = b_Lw_law) (hml : c.maxLocals = 8) (hown : s.vm.findClass "DoorServerLaw" = some m.cls) (hg : ∀ w ∈ BIG, w.before #[Value.ref b] s = true) (hX : va_X b Ln xs s s.heap) (hbl : b < s.heap.size) (hbA : ¬ A b) (hA : ∀ q : Nat, s.heap.size ≤ q → A q) (hK : va_K (dC, dI) vcl (tyL cT) s) (hfl : l.flags = pinnedFlags ++ [noTraceFlag]) (hXm : xm A s s.heap) (hXz : xs_T A s s.heap) (hLn : Ln ≤ 2560) (hgs : ∀ i9, i9 < 4 → ∃ q9, gs i9 = some q9 ∧ q9 ∈ L ∧ kd q9 = 1 ∧ si (ro q9) = 40) (hgp : ∀ i9, i9 < 32 → ∃ q9, gp i9 = some q9 ∧ q9 ∈ L ∧ kd q9 = 1 ∧ si (ro q9) = 60) (hg8 : ∀ i9, i9 < 6 → ∃ q9, gt i9 = some q9 ∧ q9 ∈ L ∧ kd q9 = 8) (hg7 : ∀ i9, i9 < 40 → ∃ q9, gk i9 = some q9 ∧ q9 ∈ L ∧ kd q9 = 7) (hnd : L.Nodup) (hinj : ∀ a b : Nat, a < 32 → b < 32 → gp a = gp b → a = b) (hr : meth.sig.returnType = ret) (hlocks : meth.locks = false) (hA2 : ∀ q : Nat, A q → s.heap.size ≤ q) : ∀ (k j : Nat) (H : Heap) (locs : List Loc) (ls : Array Slot), Ln ≤ 5 * j + k → j ≤ 512 → LI dC dI cT A ds sv g0 se pw ty an aw ts ss rq tp sp ap yr ar dr rr sa tx tr wo di mo ou mr f0 gs gp gt gk L kd si ro H → va_S A s.heap H locs → lv_has ls 8 [(0, .ref b), (1, .ref ds), (2, .ref mo), (3, .ref ou), (4, .int (nI (5 * j)))] → W p l e room_1 s m #[Value.ref b] below meth c H locs (800 + j) (32000 + 6 * j) (lw_Z below #[Value.ref b] s) (F0 m 23 ls []) := by
  intro k
  induction k with
  | zero =>
    intro j H locs ls hk hj5 hI hS hl
    refine lv_iload hx hb d_Lw_law_23 (lv_at hl 4 rfl) ?_
    refine lv_aload_n hx hb d_Lw_law_25 rfl (lv_at hl 0 rfl) ?_
    refine va_slen hx hb hX hbl hbA hS d_Lw_law_26 ?_
    refine lv_iconst (v := 5) hx hb d_Lw_law_27 (by decide) ?_
    refine lv_isub hx hb d_Lw_law_28 ?_
    refine lv_icmp_gt (tgt := 973) hx hb d_Lw_law_29 (by decide) (fun hc1 => ?_) (fun hc1 => ?_)
    · skip
      refine lv_iconst (v := 1) hx hb d_Lw_law_973 (by decide) ?_
      refine va_forget (fun q h => hA2 _ (hS.2.2 q h)) ?_
      refine W.widen (k := 601024) (n := 7293034) (by omega) (by omega) ?_
      exact lw_ret hx hb hr hlocks d_Lw_law_974
    have h5 := lw_tst (L := Ln) (i := 5 * j) hLn (by omega) hc1
    exfalso; omega
  | succ k ih =>
    intro j H locs ls hk hj5 hI hS hl
    refine lv_iload hx hb d_Lw_law_23 (lv_at hl 4 rfl) ?_
    refine lv_aload_n hx hb d_Lw_law_25 rfl (lv_at hl 0 rfl) ?_
    refine va_slen hx hb hX hbl hbA hS d_Lw_law_26 ?_
    refine lv_iconst (v := 5) hx hb d_Lw_law_27 (by decide) ?_
    refine lv_isub hx hb d_Lw_law_28 ?_
    refine lv_icmp_gt (tgt := 973) hx hb d_Lw_law_29 (by decide) (fun hc2 => ?_) (fun hc2 => ?_)
    · skip
      refine lv_iconst (v := 1) hx hb d_Lw_law_973 (by decide) ?_
      refine va_forget (fun q h => hA2 _ (hS.2.2 q h)) ?_
      refine W.widen (k := 601024) (n := 7293034) (by omega) (by omega) ?_
      exact lw_ret hx hb hr hlocks d_Lw_law_974
    have h5 := lw_tst (L := Ln) (i := 5 * j) hLn (by omega) hc2
    have kk9 : ∀ (H : Heap) (locs : List Loc) (ls : Array Slot), LI dC dI cT A ds sv g0 se pw ty an aw ts ss rq tp sp ap yr ar dr rr sa tx tr wo di mo ou mr f0 gs gp gt gk L kd si ro H → va_S A s.heap H locs → lv_has ls 8 [(0, .ref b), (1, .ref ds), (2, .ref mo), (3, .ref ou), (4, .int (nI (5 * j)))] → W p l e room_1 s m #[Value.ref b] below meth c H locs (800 + j + 1) (32000 + 6 * j + 6) (lw_Z below #[Value.ref b] s) (F0 m 967 ls []) := by
      intro H locs ls hI hS hl
      refine lv_iinc (k := 4) (v := nI (5 * (j + 1))) (lv' := [(4, .int (nI (5 * (j + 1)))), (0, .ref b), (1, .ref ds), (2, .ref mo), (3, .ref ou)]) hx hb d_Lw_law_967 hl rfl (nI_add (5 * j) 5) (by decide) rfl (fun ls hl => ?_)
      refine lv_goto (tgt := 23) hx hb d_Lw_law_970 (by decide) ?_
      have hl := lv_sub hl [1, 2, 3, 4, 0] (show _ = [(0, .ref b), (1, .ref ds), (2, .ref mo), (3, .ref ou), (4, .int (nI (5 * (j + 1))))] from rfl)
      have h9 := ih (j + 1) H locs ls (by omega) (by omega) hI hS hl
      rw [show 800 + (j + 1) = 800 + j + 1 by omega, show 32000 + 6 * (j + 1) = 32000 + 6 * j + 6 by omega] at h9
      exact h9
    refine lv_aload_n hx hb d_Lw_law_32 rfl (lv_at hl 0 rfl) ?_
    refine lv_iload hx hb d_Lw_law_33 (lv_at hl 4 rfl) ?_
    refine va_sld hx hb hX hbl hbA hS (i := (nI (5 * j))) (vp_in_nI (by omega) (by omega)) d_Lw_law_35 ?_
    refine lv_topi (fun x4 e3 => ?_)
    obtain rfl : x4 = xs (5 * j) := by rw [e3]; rw [nI_clamp (by omega)]
    refine lv_bipush (v := 31) hx hb d_Lw_law_36 (by decide) ?_
    refine lv_iand hx hb d_Lw_law_38 ?_
    refine lv_topi (fun x0 e0 => ?_)
    clear e0
    by_cases h9 : x0.toInt < 0
    · refine lv_tableOut (tgt := 967) hx hb d_Lw_law_39 (Or.inl h9) (by decide) ?_
      refine W.widen (k := 800 + j + 1) (n := 32000 + 6 * j + 6) (by omega) (by omega) ?_
      exact kk9 _ _ _ hI hS hl
    have h10 := h9
    clear h9
    by_cases h9 : 17 < x0.toInt
    · refine lv_tableOut (tgt := 967) hx hb d_Lw_law_39 (Or.inr h9) (by decide) ?_
      refine W.widen (k := 800 + j + 1) (n := 32000 + 6 * j + 6) (by omega) (by omega) ?_
      exact kk9 _ _ _ hI hS hl
    have h11 := h9
    clear h9
    rcases rng_18 h10 h11 with h9 | h9 | h9 | h9 | h9 | h9 | h9 | h9 | h9 | h9 | h9 | h9 | h9 | h9 | h9 | h9 | h9 | h9
    · subst h9
      refine lv_tableIn (tgt := 124) (off := 85) hx hb d_Lw_law_39 (by decide) (by decide) (by decide) (by decide) ?_
      exact lw_case0 dC dI cT ds sv g0 se pw ty an aw ts ss rq tp sp ap yr ar dr rr sa tx tr wo di mo ou mr f0 gs gp gt gk L kd si ro hx hb hml hown hg hX hbl hbA hA hK hfl hXm hXz hLn hgs hgp hg8 hg7 hnd hinj j _ _ h5 (by omega) (by omega) kk9 hI hS hl
    · subst h9
      refine lv_tableIn (tgt := 205) (off := 166) hx hb d_Lw_law_39 (by decide) (by decide) (by decide) (by decide) ?_
      exact lw_case1 dC dI cT ds sv g0 se pw ty an aw ts ss rq tp sp ap yr ar dr rr sa tx tr wo di mo ou mr f0 gs gp gt gk L kd si ro hx hb hml hown hg hX hbl hbA hA hK hfl hXm hXz hLn hgs hgp hg8 hg7 hnd hinj j _ _ h5 (by omega) (by omega) kk9 hI hS hl
    · subst h9
      refine lv_tableIn (tgt := 324) (off := 285) hx hb d_Lw_law_39 (by decide) (by decide) (by decide) (by decide) ?_
      exact lw_case2 dC dI cT ds sv g0 se pw ty an aw ts ss rq tp sp ap yr ar dr rr sa tx tr wo di mo ou mr f0 gs gp gt gk L kd si ro hx hb hml hown hg hX hbl hbA hA hK hfl hXm hXz hLn hgs hgp hg8 hg7 hnd hinj j _ _ h5 (by omega) (by omega) kk9 hI hS hl
    · subst h9
      refine lv_tableIn (tgt := 405) (off := 366) hx hb d_Lw_law_39 (by decide) (by decide) (by decide) (by decide) ?_
      exact lw_case3 dC dI cT ds sv g0 se pw ty an aw ts ss rq tp sp ap yr ar dr rr sa tx tr wo di mo ou mr f0 gs gp gt gk L kd si ro hx hb hml hown hg hX hbl hbA hA hK hfl hXm hXz hLn hgs hgp hg8 hg7 hnd hinj j _ _ h5 (by omega) (by omega) kk9 hI hS hl
    · subst h9
      refine lv_tableIn (tgt := 457) (off := 418) hx hb d_Lw_law_39 (by decide) (by decide) (by decide) (by decide) ?_
      exact lw_case4 dC dI cT ds sv g0 se pw ty an aw ts ss rq tp sp ap yr ar dr rr sa tx tr wo di mo ou mr f0 gs gp gt gk L kd si ro hx hb hml hown hg hX hbl hbA hA hK hfl hXm hXz hLn hgs hgp hg8 hg7 hnd hinj j _ _ h5 (by omega) (by omega) kk9 hI hS hl
    · subst h9
      refine lv_tableIn (tgt := 497) (off := 458) hx hb d_Lw_law_39 (by decide) (by decide) (by decide) (by decide) ?_
      exact lw_case5 dC dI cT ds sv g0 se pw ty an aw ts ss rq tp sp ap yr ar dr rr sa tx tr wo di mo ou mr f0 gs gp gt gk L kd si ro hx hb hml hown hg hX hbl hbA hA hK hfl hXm hXz hLn hgs hgp hg8 hg7 hnd hinj j _ _ h5 (by omega) (by omega) kk9 hI hS hl
    · subst h9
      refine lv_tableIn (tgt := 525) (off := 486) hx hb d_Lw_law_39 (by decide) (by decide) (by decide) (by decide) ?_
      exact lw_case6 dC dI cT ds sv g0 se pw ty an aw ts ss rq tp sp ap yr ar dr rr sa tx tr wo di mo ou mr f0 gs gp gt gk L kd si ro hx hb hml hown hg hX hbl hbA hA hK hfl hXm hXz hLn hgs hgp hg8 hg7 hnd hinj j _ _ h5 (by omega) (by omega) kk9 hI hS hl
    · subst h9
      refine lv_tableIn (tgt := 609) (off := 570) hx hb d_Lw_law_39 (by decide) (by decide) (by decide) (by decide) ?_
      exact lw_case7 dC dI cT ds sv g0 se pw ty an aw ts ss rq tp sp ap yr ar dr rr sa tx tr wo di mo ou mr f0 gs gp gt gk L kd si ro hx hb hml hown hg hX hbl hbA hA hK hfl hXm hXz hLn hgs hgp hg8 hg7 hnd hinj j _ _ h5 (by omega) (by omega) kk9 hI hS hl
    · subst h9
      refine lv_tableIn (tgt := 637) (off := 598) hx hb d_Lw_law_39 (by decide) (by decide) (by decide) (by decide) ?_
      exact lw_case8 dC dI cT ds sv g0 se pw ty an aw ts ss rq tp sp ap yr ar dr rr sa tx tr wo di mo ou mr f0 gs gp gt gk L kd si ro hx hb hml hown hg hX hbl hbA hA hK hfl hXm hXz hLn hgs hgp hg8 hg7 hnd hinj j _ _ h5 (by omega) (by omega) kk9 hI hS hl
    · subst h9
      refine lv_tableIn (tgt := 709) (off := 670) hx hb d_Lw_law_39 (by decide) (by decide) (by decide) (by decide) ?_
      exact lw_case9 dC dI cT ds sv g0 se pw ty an aw ts ss rq tp sp ap yr ar dr rr sa tx tr wo di mo ou mr f0 gs gp gt gk L kd si ro hx hb hml hown hg hX hbl hbA hA hK hfl hXm hXz hLn hgs hgp hg8 hg7 hnd hinj j _ _ h5 (by omega) (by omega) kk9 hI hS hl
    · subst h9
      refine lv_tableIn (tgt := 737) (off := 698) hx hb d_Lw_law_39 (by decide) (by decide) (by decide) (by decide) ?_
      exact lw_case10 dC dI cT ds sv g0 se pw ty an aw ts ss rq tp sp ap yr ar dr rr sa tx tr wo di mo ou mr f0 gs gp gt gk L kd si ro hx hb hml hown hg hX hbl hbA hA hK hfl hXm hXz hLn hgs hgp hg8 hg7 hnd hinj j _ _ h5 (by omega) (by omega) kk9 hI hS hl
    · subst h9
      refine lv_tableIn (tgt := 762) (off := 723) hx hb d_Lw_law_39 (by decide) (by decide) (by decide) (by decide) ?_
      exact lw_case11 dC dI cT ds sv g0 se pw ty an aw ts ss rq tp sp ap yr ar dr rr sa tx tr wo di mo ou mr f0 gs gp gt gk L kd si ro hx hb hml hown hg hX hbl hbA hA hK hfl hXm hXz hLn hgs hgp hg8 hg7 hnd hinj j _ _ h5 (by omega) (by omega) kk9 hI hS hl
    · subst h9
      refine lv_tableIn (tgt := 802) (off := 763) hx hb d_Lw_law_39 (by decide) (by decide) (by decide) (by decide) ?_
      exact lw_case12 dC dI cT ds sv g0 se pw ty an aw ts ss rq tp sp ap yr ar dr rr sa tx tr wo di mo ou mr f0 gs gp gt gk L kd si ro hx hb hml hown hg hX hbl hbA hA hK hfl hXm hXz hLn hgs hgp hg8 hg7 hnd hinj j _ _ h5 (by omega) (by omega) kk9 hI hS hl
    · subst h9
      refine lv_tableIn (tgt := 830) (off := 791) hx hb d_Lw_law_39 (by decide) (by decide) (by decide) (by decide) ?_
      exact lw_case13 dC dI cT ds sv g0 se pw ty an aw ts ss rq tp sp ap yr ar dr rr sa tx tr wo di mo ou mr f0 gs gp gt gk L kd si ro hx hb hml hown hg hX hbl hbA hA hK hfl hXm hXz hLn hgs hgp hg8 hg7 hnd hinj j _ _ h5 (by omega) (by omega) kk9 hI hS hl
    · subst h9
      refine lv_tableIn (tgt := 843) (off := 804) hx hb d_Lw_law_39 (by decide) (by decide) (by decide) (by decide) ?_
      exact lw_case14 dC dI cT ds sv g0 se pw ty an aw ts ss rq tp sp ap yr ar dr rr sa tx tr wo di mo ou mr f0 gs gp gt gk L kd si ro hx hb hml hown hg hX hbl hbA hA hK hfl hXm hXz hLn hgs hgp hg8 hg7 hnd hinj j _ _ h5 (by omega) (by omega) kk9 hI hS hl
    · subst h9
      refine lv_tableIn (tgt := 871) (off := 832) hx hb d_Lw_law_39 (by decide) (by decide) (by decide) (by decide) ?_
      exact lw_case15 dC dI cT ds sv g0 se pw ty an aw ts ss rq tp sp ap yr ar dr rr sa tx tr wo di mo ou mr f0 gs gp gt gk L kd si ro hx hb hml hown hg hX hbl hbA hA hK hfl hXm hXz hLn hgs hgp hg8 hg7 hnd hinj j _ _ h5 (by omega) (by omega) kk9 hI hS hl
    · subst h9
      refine lv_tableIn (tgt := 899) (off := 860) hx hb d_Lw_law_39 (by decide) (by decide) (by decide) (by decide) ?_
      exact lw_case16 dC dI cT ds sv g0 se pw ty an aw ts ss rq tp sp ap yr ar dr rr sa tx tr wo di mo ou mr f0 gs gp gt gk L kd si ro hx hb hml hown hg hX hbl hbA hA hK hfl hXm hXz hLn hgs hgp hg8 hg7 hnd hinj j _ _ h5 (by omega) (by omega) kk9 hI hS hl
    · subst h9
      refine lv_tableIn (tgt := 927) (off := 888) hx hb d_Lw_law_39 (by decide) (by decide) (by decide) (by decide) ?_
      exact lw_case17 dC dI cT ds sv g0 se pw ty an aw ts ss rq tp sp ap yr ar dr rr sa tx tr wo di mo ou mr f0 gs gp gt gk L kd si ro hx hb hml hown hg hX hbl hbA hA hK hfl hXm hXz hLn hgs hgp hg8 hg7 hnd hinj j _ _ h5 (by omega) (by omega) kk9 hI hS hl
theorem BD_0 {b N : Nat} : BD b N (fun _ => 0) := fun _ _ => ⟨0, Nat.zero_le _, rfl⟩
set_option maxHeartbeats 4000000 in
set_option maxRecDepth 100000 in
theorem whole_start {p : Program} {e : Env} {s : State} {m : MethodId} {below : List Frame} {meth : Method} {c : Code} (l : Launch) (hfl : l.flags = pinnedFlags ++ [noTraceFlag]) {b L : Nat} {xs : Nat → Int32} (hL : L ≤ 2560) (C0 : lw_At p s m meth c b L xs) : W p l e room_1 s m #[Value.ref b] below meth c s.heap [] 0 0 (lw_Z below #[Value.ref b] s) (entryFrame m ([Value.ref b] : List Value).toArray 8) := by
  obtain ⟨hx, hb, hr, hml, hown, hts, hX, hbl, hlocks, hgv⟩ := C0
  have hown : s.vm.findClass "DoorServerLaw" = some m.cls := hown
  have hg : ∀ w ∈ BIG, w.before #[Value.ref b] s = true := fun w h => hts w (List.mem_filter.mp h).1
  have hE := ws_nw hts
  obtain ⟨A, hAq⟩ : ∃ A : Nat → Prop, A = fun q => s.heap.size ≤ q := ⟨_, rfl⟩
  have hA : ∀ q : Nat, s.heap.size ≤ q → A q := by rw [hAq]; exact fun _ h => h
  have hA2 : ∀ q : Nat, A q → s.heap.size ≤ q := by rw [hAq]; exact fun _ h => h
  have hA3 : ∀ a : Nat, a < s.heap.size → ¬ A a := fun a h h2 => absurd (hA2 a h2) (by omega)
  have hbA : ¬ A b := hA3 b hbl
  have hXm : xm A s s.heap := ws_xm hts hgv hA3
  have hXz : xs_T A s s.heap := ws_xs hts hgv hA3
  obtain ⟨dC, dI, hcl⟩ := ws_cl hg
  obtain ⟨cT, har⟩ := ws_ar hg hE.ao2 hE.ao3 hE.ao4 hE.ao5
  have hK : va_K (dC, dI) vcl (tyL cT) s := ⟨hcl, har⟩
  have hP : va_P (dC, dI) vcl ([] ++ va_pl [] (fun _ => .inr (0, []))) s.heap := fun k q h => by simp [va_pl] at h
  have hD : va_D A ([] ++ va_pl [] (fun _ => .inr (0, []))) := ⟨fun i j p q h => by simp [va_pl] at h, fun k q h => by simp [va_pl] at h⟩
  have hS : va_S A s.heap s.heap [] := va_S.rf
  have hl := lv_entry ([.ref b]) (n := 8) (Nat.le_of_ble_eq_true rfl)
  rw [lg_entry_eq]
  generalize (lg_sl ([.ref b]) ++ List.replicate (8 - (lg_sl ([.ref b])).length) Slot.unset).toArray = ls at hl ⊢
  have hl : lv_has ls 8 [(0, .ref b)] := hl
  refine va_new (ci := 0) (fs := [.null, .null]) (C := R_DS) (T := F_DS) (N := 2) hx hb hg in_DS t_DS tok_DS hown (hg _ k_22) (hg _ k_23) (hg _ k_1) hK hP hD hS hA rfl (fun j hj => match j, hj with | 0, _ => rfl | 1, _ => rfl | (n9 + 2), h9 => absurd h9 (by omega)) (Nat.le_of_ble_eq_true rfl) (Nat.le_of_ble_eq_true rfl) d_Lw_law_0 (fun q5 H hP hD hS => ?_)
  have hP := hP.swap
  have hD := hD.swap
  have hP : va_P (dC, dI) vcl (([(q5, .inr (0, [.null, .null]))] : va_W) ++ va_pl ([]) (fun _ => .inr (0, []))) H := hP
  have hD : va_D A (([(q5, .inr (0, [.null, .null]))] : va_W) ++ va_pl ([]) (fun _ => .inr (0, []))) := hD
  refine lv_dup hx hb d_Lw_law_3 rfl ?_
  have hPc := hP.part (cx := [(q5, .inr (0, [.null, .null]))]) [0] rfl
  have hDc := hD.part (cx := [(q5, .inr (0, [.null, .null]))]) [0] (by decide) rfl
  have hFc := va_freeP (cx := [(q5, .inr (0, [.null, .null]))]) hD hS hA [0] rfl
  refine va_callv (va_runI (As := []) (rest := [.ref q5]) ⟨hx, hb, hml, hown, hg⟩ (n_Ds l dC dI cT H.size q5 ([]) (fun _ => .inr (0, [])) (PF_nil)) (cwI 0 hg (gI (List.forall_mem_cons.mpr ⟨k_26, fun _ h => h⟩)) rfl rfl rfl (hg _ k_1) (hg _ k_24) (hg _ k_25) rfl (by decide +kernel) ⟨Nat.le_of_ble_eq_true rfl, Nat.le_of_ble_eq_true rfl⟩) ⟨fun a U g mk q => by obtain ⟨q0, q1, qP, qK, qD, qE⟩ := q; exact ⟨q0, q1, qP, va_K.moved (u := U) (U := U.calling g mk a) (Vm.Alike.refl U.vm) qK, qD, qE.at (State.WarmedH.refl _)⟩, fun U hU hW => ⟨rfl, by rw [hU], by rw [hU]; exact hPc, va_K.moved hW.alike hK, hDc.weaken (fun _ _ _ _ => trivial), by rw [hU]; exact hE.at hW⟩⟩ rfl rfl hl.1 rfl (lv_room (Nat.le_of_ble_eq_true rfl)) d_Lw_law_4 ⟨Nat.le_of_ble_eq_true rfl, Nat.le_of_ble_eq_true rfl⟩) hS (fun q _ h => hFc q h) hFc (fun u t H1 locs ht hvm hw hB hz1 hk1 hS => ?_)
  obtain ⟨dr_6, sv_7, rr_8, f_9, se_10, pw_11, g0_12, ty_13, an_14, aw_15, ts_16, ss_17, rq_18, gs_19, gp_20, gk_21, gt_22, go_23, tx_24, tr_25, wo_26, di_27, yr_28, ar_29, ap_30, tp_31, sp_32, sa_33, L2_34, F2_35⟩ := u
  try dsimp only at hw hB
  obtain ⟨hP1, hK1, hD1⟩ := hB
  rw [ht] at hP1
  obtain ⟨hP, hD⟩ := va_joinP (X := [(q5, .inr (0, [.null, .null]))]) (cx := [(q5, .inr (0, [.null, .null]))]) (wr := []) (rx := [(q5, .inr (0, [.ref dr_6, .ref sv_7])), (dr_6, .inr (2, [.ref rr_8, .int (nI 20)])), (rr_8, .inl ((cT 0), 1000, .inl f_9)), (sv_7, .inr (5, [.ref se_10, .ref pw_11, .ref g0_12, .ref ty_13, .ref an_14, .ref aw_15, .ref ts_16, .ref ss_17, .ref rq_18, .int 0, .int 0, .int 0])), (se_10, .inl ((cT 2), 4, .inr (.inr (.inr (.inr gs_19))))), (pw_11, .inl ((cT 2), 32, .inr (.inr (.inr (.inr gp_20))))), (ts_16, .inr (9, [.ref tp_31, .long 0, .long 1, .int 0])), (tp_31, .inl ((cT 4), 6, .inr (.inr (.inr (.inr gt_22))))), (ss_17, .inr (11, [.ref sp_32, .int 0])), (sp_32, .inl ((cT 5), 50, .inr (.inr (.inr (.inr go_23))))), (aw_15, .inr (6, [.ref ap_30, .int 0, .int 0])), (ap_30, .inl ((cT 3), 40, .inr (.inr (.inr (.inr gk_21))))), (ty_13, .inr (1, [.ref yr_28, .int 0])), (yr_28, .inl ((cT 0), 64, .inl (fun _ => 0))), (an_14, .inr (2, [.ref ar_29, .int 0])), (ar_29, .inl ((cT 0), 72, .inl (fun _ => 0))), (rq_18, .inr (4, [.ref dr_6, .ref sa_33])), (sa_33, .inl ((cT 0), 256, .inl (fun _ => 0))), (g0_12, .inr (3, [.ref tx_24, .ref wo_26, .ref di_27, .int 0, .int 0, .int 0, .int 0])), (tx_24, .inr (1, [.ref tr_25, .int 0])), (tr_25, .inl ((cT 0), 1192, .inl (fun _ => 0))), (wo_26, .inl ((cT 0), 16, .inl (fun _ => 0))), (di_27, .inl ((cT 0), 16, .inl (fun _ => 0)))]) hP hD [0] [] rfl rfl (by decide) (by decide) hk1 hFc hP1 hD1
  have hw36 := hw
  clear hPc hDc hFc hz1 hk1 hP1 hK1 hD1
  generalize H1 = H at hP hS ⊢
  have hP : va_P (dC, dI) vcl (([(q5, .inr (0, [.ref dr_6, .ref sv_7])), (dr_6, .inr (2, [.ref rr_8, .int (nI 20)])), (rr_8, .inl ((cT 0), 1000, .inl f_9)), (sv_7, .inr (5, [.ref se_10, .ref pw_11, .ref g0_12, .ref ty_13, .ref an_14, .ref aw_15, .ref ts_16, .ref ss_17, .ref rq_18, .int 0, .int 0, .int 0])), (se_10, .inl ((cT 2), 4, .inr (.inr (.inr (.inr gs_19))))), (pw_11, .inl ((cT 2), 32, .inr (.inr (.inr (.inr gp_20))))), (ts_16, .inr (9, [.ref tp_31, .long 0, .long 1, .int 0])), (tp_31, .inl ((cT 4), 6, .inr (.inr (.inr (.inr gt_22))))), (ss_17, .inr (11, [.ref sp_32, .int 0])), (sp_32, .inl ((cT 5), 50, .inr (.inr (.inr (.inr go_23))))), (aw_15, .inr (6, [.ref ap_30, .int 0, .int 0])), (ap_30, .inl ((cT 3), 40, .inr (.inr (.inr (.inr gk_21))))), (ty_13, .inr (1, [.ref yr_28, .int 0])), (yr_28, .inl ((cT 0), 64, .inl (fun _ => 0))), (an_14, .inr (2, [.ref ar_29, .int 0])), (ar_29, .inl ((cT 0), 72, .inl (fun _ => 0))), (rq_18, .inr (4, [.ref dr_6, .ref sa_33])), (sa_33, .inl ((cT 0), 256, .inl (fun _ => 0))), (g0_12, .inr (3, [.ref tx_24, .ref wo_26, .ref di_27, .int 0, .int 0, .int 0, .int 0])), (tx_24, .inr (1, [.ref tr_25, .int 0])), (tr_25, .inl ((cT 0), 1192, .inl (fun _ => 0))), (wo_26, .inl ((cT 0), 16, .inl (fun _ => 0))), (di_27, .inl ((cT 0), 16, .inl (fun _ => 0)))] : va_W) ++ va_pl L2_34 F2_35) H := hP
  have hD : va_D A (([(q5, .inr (0, [.ref dr_6, .ref sv_7])), (dr_6, .inr (2, [.ref rr_8, .int (nI 20)])), (rr_8, .inl ((cT 0), 1000, .inl f_9)), (sv_7, .inr (5, [.ref se_10, .ref pw_11, .ref g0_12, .ref ty_13, .ref an_14, .ref aw_15, .ref ts_16, .ref ss_17, .ref rq_18, .int 0, .int 0, .int 0])), (se_10, .inl ((cT 2), 4, .inr (.inr (.inr (.inr gs_19))))), (pw_11, .inl ((cT 2), 32, .inr (.inr (.inr (.inr gp_20))))), (ts_16, .inr (9, [.ref tp_31, .long 0, .long 1, .int 0])), (tp_31, .inl ((cT 4), 6, .inr (.inr (.inr (.inr gt_22))))), (ss_17, .inr (11, [.ref sp_32, .int 0])), (sp_32, .inl ((cT 5), 50, .inr (.inr (.inr (.inr go_23))))), (aw_15, .inr (6, [.ref ap_30, .int 0, .int 0])), (ap_30, .inl ((cT 3), 40, .inr (.inr (.inr (.inr gk_21))))), (ty_13, .inr (1, [.ref yr_28, .int 0])), (yr_28, .inl ((cT 0), 64, .inl (fun _ => 0))), (an_14, .inr (2, [.ref ar_29, .int 0])), (ar_29, .inl ((cT 0), 72, .inl (fun _ => 0))), (rq_18, .inr (4, [.ref dr_6, .ref sa_33])), (sa_33, .inl ((cT 0), 256, .inl (fun _ => 0))), (g0_12, .inr (3, [.ref tx_24, .ref wo_26, .ref di_27, .int 0, .int 0, .int 0, .int 0])), (tx_24, .inr (1, [.ref tr_25, .int 0])), (tr_25, .inl ((cT 0), 1192, .inl (fun _ => 0))), (wo_26, .inl ((cT 0), 16, .inl (fun _ => 0))), (di_27, .inl ((cT 0), 16, .inl (fun _ => 0)))] : va_W) ++ va_pl L2_34 F2_35) := hD
  obtain ⟨hab0, hpf, hpb1, hpb2, hk7, hk8, hk10, hinj⟩ := hw36
  refine lv_astore_n (lv' := [(1, .ref q5), (0, .ref b)]) hx hb d_Lw_law_7 rfl hl (by decide) rfl (fun ls hl => ?_)
  refine va_new (ci := 12) (fs := [.null, .int 0, .int 0, .null, .null, .null, .null, .null, .int 0, .null, .int 0, .null, .null, .null, .int 0, .null, .int 0, .int 0, .null, .null, .null, .null, .null, .null, .int 0, .null, .null, .null, .null, .null, .null, .long 0, .long 0, .int 0, .null, .null, .null, .null, .null, .null, .null, .null, .null, .int 0, .int 0]) (C := R_Md) (T := F_Md) (N := 45) hx hb hg in_Md t_Md tok_Md hown (hg _ k_941) (hg _ k_942) (hg _ k_13) hK hP hD hS hA rfl (fun j hj => match j, hj with | 0, _ => rfl | 1, _ => rfl | 2, _ => rfl | 3, _ => rfl | 4, _ => rfl | 5, _ => rfl | 6, _ => rfl | 7, _ => rfl | 8, _ => rfl | 9, _ => rfl | 10, _ => rfl | 11, _ => rfl | 12, _ => rfl | 13, _ => rfl | 14, _ => rfl | 15, _ => rfl | 16, _ => rfl | 17, _ => rfl | 18, _ => rfl | 19, _ => rfl | 20, _ => rfl | 21, _ => rfl | 22, _ => rfl | 23, _ => rfl | 24, _ => rfl | 25, _ => rfl | 26, _ => rfl | 27, _ => rfl | 28, _ => rfl | 29, _ => rfl | 30, _ => rfl | 31, _ => rfl | 32, _ => rfl | 33, _ => rfl | 34, _ => rfl | 35, _ => rfl | 36, _ => rfl | 37, _ => rfl | 38, _ => rfl | 39, _ => rfl | 40, _ => rfl | 41, _ => rfl | 42, _ => rfl | 43, _ => rfl | 44, _ => rfl | (n9 + 45), h9 => absurd h9 (by omega)) (Nat.le_of_ble_eq_true rfl) (Nat.le_of_ble_eq_true rfl) d_Lw_law_8 (fun q37 H hP hD hS => ?_)
  have hP := hP.swap
  have hD := hD.swap
  have hP : va_P (dC, dI) vcl (([(q5, .inr (0, [.ref dr_6, .ref sv_7])), (dr_6, .inr (2, [.ref rr_8, .int (nI 20)])), (rr_8, .inl ((cT 0), 1000, .inl f_9)), (sv_7, .inr (5, [.ref se_10, .ref pw_11, .ref g0_12, .ref ty_13, .ref an_14, .ref aw_15, .ref ts_16, .ref ss_17, .ref rq_18, .int 0, .int 0, .int 0])), (se_10, .inl ((cT 2), 4, .inr (.inr (.inr (.inr gs_19))))), (pw_11, .inl ((cT 2), 32, .inr (.inr (.inr (.inr gp_20))))), (ts_16, .inr (9, [.ref tp_31, .long 0, .long 1, .int 0])), (tp_31, .inl ((cT 4), 6, .inr (.inr (.inr (.inr gt_22))))), (ss_17, .inr (11, [.ref sp_32, .int 0])), (sp_32, .inl ((cT 5), 50, .inr (.inr (.inr (.inr go_23))))), (aw_15, .inr (6, [.ref ap_30, .int 0, .int 0])), (ap_30, .inl ((cT 3), 40, .inr (.inr (.inr (.inr gk_21))))), (ty_13, .inr (1, [.ref yr_28, .int 0])), (yr_28, .inl ((cT 0), 64, .inl (fun _ => 0))), (an_14, .inr (2, [.ref ar_29, .int 0])), (ar_29, .inl ((cT 0), 72, .inl (fun _ => 0))), (rq_18, .inr (4, [.ref dr_6, .ref sa_33])), (sa_33, .inl ((cT 0), 256, .inl (fun _ => 0))), (g0_12, .inr (3, [.ref tx_24, .ref wo_26, .ref di_27, .int 0, .int 0, .int 0, .int 0])), (tx_24, .inr (1, [.ref tr_25, .int 0])), (tr_25, .inl ((cT 0), 1192, .inl (fun _ => 0))), (wo_26, .inl ((cT 0), 16, .inl (fun _ => 0))), (di_27, .inl ((cT 0), 16, .inl (fun _ => 0))), (q37, .inr (12, [.null, .int 0, .int 0, .null, .null, .null, .null, .null, .int 0, .null, .int 0, .null, .null, .null, .int 0, .null, .int 0, .int 0, .null, .null, .null, .null, .null, .null, .int 0, .null, .null, .null, .null, .null, .null, .long 0, .long 0, .int 0, .null, .null, .null, .null, .null, .null, .null, .null, .null, .int 0, .int 0]))] : va_W) ++ va_pl L2_34 F2_35) H := hP
  have hD : va_D A (([(q5, .inr (0, [.ref dr_6, .ref sv_7])), (dr_6, .inr (2, [.ref rr_8, .int (nI 20)])), (rr_8, .inl ((cT 0), 1000, .inl f_9)), (sv_7, .inr (5, [.ref se_10, .ref pw_11, .ref g0_12, .ref ty_13, .ref an_14, .ref aw_15, .ref ts_16, .ref ss_17, .ref rq_18, .int 0, .int 0, .int 0])), (se_10, .inl ((cT 2), 4, .inr (.inr (.inr (.inr gs_19))))), (pw_11, .inl ((cT 2), 32, .inr (.inr (.inr (.inr gp_20))))), (ts_16, .inr (9, [.ref tp_31, .long 0, .long 1, .int 0])), (tp_31, .inl ((cT 4), 6, .inr (.inr (.inr (.inr gt_22))))), (ss_17, .inr (11, [.ref sp_32, .int 0])), (sp_32, .inl ((cT 5), 50, .inr (.inr (.inr (.inr go_23))))), (aw_15, .inr (6, [.ref ap_30, .int 0, .int 0])), (ap_30, .inl ((cT 3), 40, .inr (.inr (.inr (.inr gk_21))))), (ty_13, .inr (1, [.ref yr_28, .int 0])), (yr_28, .inl ((cT 0), 64, .inl (fun _ => 0))), (an_14, .inr (2, [.ref ar_29, .int 0])), (ar_29, .inl ((cT 0), 72, .inl (fun _ => 0))), (rq_18, .inr (4, [.ref dr_6, .ref sa_33])), (sa_33, .inl ((cT 0), 256, .inl (fun _ => 0))), (g0_12, .inr (3, [.ref tx_24, .ref wo_26, .ref di_27, .int 0, .int 0, .int 0, .int 0])), (tx_24, .inr (1, [.ref tr_25, .int 0])), (tr_25, .inl ((cT 0), 1192, .inl (fun _ => 0))), (wo_26, .inl ((cT 0), 16, .inl (fun _ => 0))), (di_27, .inl ((cT 0), 16, .inl (fun _ => 0))), (q37, .inr (12, [.null, .int 0, .int 0, .null, .null, .null, .null, .null, .int 0, .null, .int 0, .null, .null, .null, .int 0, .null, .int 0, .int 0, .null, .null, .null, .null, .null, .null, .int 0, .null, .null, .null, .null, .null, .null, .long 0, .long 0, .int 0, .null, .null, .null, .null, .null, .null, .null, .null, .null, .int 0, .int 0]))] : va_W) ++ va_pl L2_34 F2_35) := hD
  refine lv_dup hx hb d_Lw_law_11 rfl ?_
  have hPc := hP.sub (ws' := [(q37, .inr (12, [.null, .int 0, .int 0, .null, .null, .null, .null, .null, .int 0, .null, .int 0, .null, .null, .null, .int 0, .null, .int 0, .int 0, .null, .null, .null, .null, .null, .null, .int 0, .null, .null, .null, .null, .null, .null, .long 0, .long 0, .int 0, .null, .null, .null, .null, .null, .null, .null, .null, .null, .int 0, .int 0]))]) [23] rfl
  have hDc := hD.sub (ws' := [(q37, .inr (12, [.null, .int 0, .int 0, .null, .null, .null, .null, .null, .int 0, .null, .int 0, .null, .null, .null, .int 0, .null, .int 0, .int 0, .null, .null, .null, .null, .null, .null, .int 0, .null, .null, .null, .null, .null, .null, .long 0, .long 0, .int 0, .null, .null, .null, .null, .null, .null, .null, .null, .null, .int 0, .int 0]))]) [23] (by decide) rfl
  have hFc := va_free (wc := [(q37, .inr (12, [.null, .int 0, .int 0, .null, .null, .null, .null, .null, .int 0, .null, .int 0, .null, .null, .null, .int 0, .null, .int 0, .int 0, .null, .null, .null, .null, .null, .null, .int 0, .null, .null, .null, .null, .null, .null, .long 0, .long 0, .int 0, .null, .null, .null, .null, .null, .null, .null, .null, .null, .int 0, .int 0]))]) hD hS hA [23] rfl
  refine va_callv (va_runI (As := []) (rest := [.ref q37]) ⟨hx, hb, hml, hown, hg⟩ (n_Md l dC dI cT H.size q37 ) (cwI 0 hg (gI (List.forall_mem_cons.mpr ⟨k_945, fun _ h => h⟩)) rfl rfl rfl (hg _ k_13) (hg _ k_943) (hg _ k_944) rfl (by decide +kernel) ⟨Nat.le_of_ble_eq_true rfl, Nat.le_of_ble_eq_true rfl⟩) ⟨fun a U g mk q => by obtain ⟨q0, q1, qP, qK, qD⟩ := q; exact ⟨q0, q1, qP, va_K.moved (u := U) (U := U.calling g mk a) (Vm.Alike.refl U.vm) qK, qD⟩, fun U hU hW => ⟨rfl, by rw [hU], by rw [hU]; exact hPc, va_K.moved hW.alike hK, hDc.weaken (fun _ _ _ _ => trivial)⟩⟩ rfl rfl hl.1 rfl (lv_room (Nat.le_of_ble_eq_true rfl)) d_Lw_law_12 ⟨Nat.le_of_ble_eq_true rfl, Nat.le_of_ble_eq_true rfl⟩) hS (fun q _ h => hFc q h) hFc (fun u t H1 locs ht hvm hw hB hz1 hk1 hS => ?_)
  obtain ⟨r_38, f0_39, f3_40, f4_41, f7_42⟩ := u
  try dsimp only at hw hB
  obtain ⟨hP1, hK1, hD1⟩ := hB
  rw [ht] at hP1
  obtain ⟨hP, hD⟩ := va_joinQ (X := [(q5, .inr (0, [.ref dr_6, .ref sv_7])), (dr_6, .inr (2, [.ref rr_8, .int (nI 20)])), (rr_8, .inl ((cT 0), 1000, .inl f_9)), (sv_7, .inr (5, [.ref se_10, .ref pw_11, .ref g0_12, .ref ty_13, .ref an_14, .ref aw_15, .ref ts_16, .ref ss_17, .ref rq_18, .int 0, .int 0, .int 0])), (se_10, .inl ((cT 2), 4, .inr (.inr (.inr (.inr gs_19))))), (pw_11, .inl ((cT 2), 32, .inr (.inr (.inr (.inr gp_20))))), (ts_16, .inr (9, [.ref tp_31, .long 0, .long 1, .int 0])), (tp_31, .inl ((cT 4), 6, .inr (.inr (.inr (.inr gt_22))))), (ss_17, .inr (11, [.ref sp_32, .int 0])), (sp_32, .inl ((cT 5), 50, .inr (.inr (.inr (.inr go_23))))), (aw_15, .inr (6, [.ref ap_30, .int 0, .int 0])), (ap_30, .inl ((cT 3), 40, .inr (.inr (.inr (.inr gk_21))))), (ty_13, .inr (1, [.ref yr_28, .int 0])), (yr_28, .inl ((cT 0), 64, .inl (fun _ => 0))), (an_14, .inr (2, [.ref ar_29, .int 0])), (ar_29, .inl ((cT 0), 72, .inl (fun _ => 0))), (rq_18, .inr (4, [.ref dr_6, .ref sa_33])), (sa_33, .inl ((cT 0), 256, .inl (fun _ => 0))), (g0_12, .inr (3, [.ref tx_24, .ref wo_26, .ref di_27, .int 0, .int 0, .int 0, .int 0])), (tx_24, .inr (1, [.ref tr_25, .int 0])), (tr_25, .inl ((cT 0), 1192, .inl (fun _ => 0))), (wo_26, .inl ((cT 0), 16, .inl (fun _ => 0))), (di_27, .inl ((cT 0), 16, .inl (fun _ => 0))), (q37, .inr (12, [.null, .int 0, .int 0, .null, .null, .null, .null, .null, .int 0, .null, .int 0, .null, .null, .null, .int 0, .null, .int 0, .int 0, .null, .null, .null, .null, .null, .null, .int 0, .null, .null, .null, .null, .null, .null, .long 0, .long 0, .int 0, .null, .null, .null, .null, .null, .null, .null, .null, .null, .int 0, .int 0]))]) (cx := [(q37, .inr (12, [.null, .int 0, .int 0, .null, .null, .null, .null, .null, .int 0, .null, .int 0, .null, .null, .null, .int 0, .null, .int 0, .int 0, .null, .null, .null, .null, .null, .null, .int 0, .null, .null, .null, .null, .null, .null, .long 0, .long 0, .int 0, .null, .null, .null, .null, .null, .null, .null, .null, .null, .int 0, .int 0]))]) (wr := [(q5, .inr (0, [.ref dr_6, .ref sv_7])), (dr_6, .inr (2, [.ref rr_8, .int (nI 20)])), (rr_8, .inl ((cT 0), 1000, .inl f_9)), (sv_7, .inr (5, [.ref se_10, .ref pw_11, .ref g0_12, .ref ty_13, .ref an_14, .ref aw_15, .ref ts_16, .ref ss_17, .ref rq_18, .int 0, .int 0, .int 0])), (se_10, .inl ((cT 2), 4, .inr (.inr (.inr (.inr gs_19))))), (pw_11, .inl ((cT 2), 32, .inr (.inr (.inr (.inr gp_20))))), (ts_16, .inr (9, [.ref tp_31, .long 0, .long 1, .int 0])), (tp_31, .inl ((cT 4), 6, .inr (.inr (.inr (.inr gt_22))))), (ss_17, .inr (11, [.ref sp_32, .int 0])), (sp_32, .inl ((cT 5), 50, .inr (.inr (.inr (.inr go_23))))), (aw_15, .inr (6, [.ref ap_30, .int 0, .int 0])), (ap_30, .inl ((cT 3), 40, .inr (.inr (.inr (.inr gk_21))))), (ty_13, .inr (1, [.ref yr_28, .int 0])), (yr_28, .inl ((cT 0), 64, .inl (fun _ => 0))), (an_14, .inr (2, [.ref ar_29, .int 0])), (ar_29, .inl ((cT 0), 72, .inl (fun _ => 0))), (rq_18, .inr (4, [.ref dr_6, .ref sa_33])), (sa_33, .inl ((cT 0), 256, .inl (fun _ => 0))), (g0_12, .inr (3, [.ref tx_24, .ref wo_26, .ref di_27, .int 0, .int 0, .int 0, .int 0])), (tx_24, .inr (1, [.ref tr_25, .int 0])), (tr_25, .inl ((cT 0), 1192, .inl (fun _ => 0))), (wo_26, .inl ((cT 0), 16, .inl (fun _ => 0))), (di_27, .inl ((cT 0), 16, .inl (fun _ => 0)))]) (w1 := [(q37, .inr (12, mdG r_38 0 0 (nI 20) (nI 0) (nI 0) (nI 0) (nI 0) (nI 0) (nI 0) 0 0 0 1)), (r_38 0, .inl ((cT 1), 64, .inr (.inl f0_39))), (r_38 3, .inl ((cT 0), 160, .inl f3_40)), (r_38 4, .inl ((cT 0), 4, .inl f4_41)), (r_38 5, .inl ((cT 0), 1920, .inl (fun _ => 0))), (r_38 6, .inl ((cT 0), 32, .inl (fun _ => 0))), (r_38 7, .inl ((cT 0), 1000, .inl f7_42)), (r_38 9, .inl ((cT 0), 1400, .inl (fun _ => 0))), (r_38 11, .inl ((cT 0), 16, .inl (fun _ => 0))), (r_38 12, .inl ((cT 0), 1200, .inl (fun _ => 0))), (r_38 13, .inl ((cT 0), 200, .inl (fun _ => 0))), (r_38 15, .inl ((cT 0), 200, .inl (fun _ => 0))), (r_38 18, .inl ((cT 0), 41, .inl (fun _ => 0))), (r_38 19, .inl ((cT 0), 41, .inl (fun _ => 0))), (r_38 20, .inl ((cT 0), 41, .inl (fun _ => 0))), (r_38 21, .inl ((cT 0), 41, .inl (fun _ => 0))), (r_38 22, .inl ((cT 0), 8200, .inl (fun _ => 0))), (r_38 23, .inl ((cT 0), 656, .inl (fun _ => 0))), (r_38 25, .inl ((cT 1), 7, .inr (.inl (fun _ => 0)))), (r_38 26, .inl ((cT 0), 7, .inl (fun _ => 0))), (r_38 27, .inl ((cT 0), 7, .inl (fun _ => 0))), (r_38 28, .inl ((cT 0), 7, .inl (fun _ => 0))), (r_38 29, .inl ((cT 0), 7, .inl (fun _ => 0))), (r_38 30, .inl ((cT 0), 112, .inl (fun _ => 0))), (r_38 34, .inl ((cT 0), 50, .inl (fun _ => 0))), (r_38 35, .inl ((cT 0), 50, .inl (fun _ => 0))), (r_38 36, .inl ((cT 0), 800, .inl (fun _ => 0))), (r_38 37, .inl ((cT 0), 50, .inl (fun _ => 0))), (r_38 38, .inl ((cT 0), 50, .inl (fun _ => 0))), (r_38 39, .inl ((cT 0), 50, .inl (fun _ => 0))), (r_38 40, .inl ((cT 0), 50, .inl (fun _ => 0))), (r_38 41, .inl ((cT 1), 50, .inr (.inl (fun _ => 0)))), (r_38 42, .inl ((cT 1), 50, .inr (.inl (fun _ => 0))))]) hP hD [23] [0, 1, 2, 3, 4, 5, 6, 7, 8, 9, 10, 11, 12, 13, 14, 15, 16, 17, 18, 19, 20, 21, 22] rfl rfl (by decide) (by decide) hk1 hFc hP1 hD1
  have hw43 := hw
  clear hPc hDc hFc hz1 hk1 hP1 hK1 hD1
  generalize H1 = H at hP hS ⊢
  have hP : va_P (dC, dI) vcl (([(q5, .inr (0, [.ref dr_6, .ref sv_7])), (dr_6, .inr (2, [.ref rr_8, .int (nI 20)])), (rr_8, .inl ((cT 0), 1000, .inl f_9)), (sv_7, .inr (5, [.ref se_10, .ref pw_11, .ref g0_12, .ref ty_13, .ref an_14, .ref aw_15, .ref ts_16, .ref ss_17, .ref rq_18, .int 0, .int 0, .int 0])), (se_10, .inl ((cT 2), 4, .inr (.inr (.inr (.inr gs_19))))), (pw_11, .inl ((cT 2), 32, .inr (.inr (.inr (.inr gp_20))))), (ts_16, .inr (9, [.ref tp_31, .long 0, .long 1, .int 0])), (tp_31, .inl ((cT 4), 6, .inr (.inr (.inr (.inr gt_22))))), (ss_17, .inr (11, [.ref sp_32, .int 0])), (sp_32, .inl ((cT 5), 50, .inr (.inr (.inr (.inr go_23))))), (aw_15, .inr (6, [.ref ap_30, .int 0, .int 0])), (ap_30, .inl ((cT 3), 40, .inr (.inr (.inr (.inr gk_21))))), (ty_13, .inr (1, [.ref yr_28, .int 0])), (yr_28, .inl ((cT 0), 64, .inl (fun _ => 0))), (an_14, .inr (2, [.ref ar_29, .int 0])), (ar_29, .inl ((cT 0), 72, .inl (fun _ => 0))), (rq_18, .inr (4, [.ref dr_6, .ref sa_33])), (sa_33, .inl ((cT 0), 256, .inl (fun _ => 0))), (g0_12, .inr (3, [.ref tx_24, .ref wo_26, .ref di_27, .int 0, .int 0, .int 0, .int 0])), (tx_24, .inr (1, [.ref tr_25, .int 0])), (tr_25, .inl ((cT 0), 1192, .inl (fun _ => 0))), (wo_26, .inl ((cT 0), 16, .inl (fun _ => 0))), (di_27, .inl ((cT 0), 16, .inl (fun _ => 0))), (q37, .inr (12, mdG r_38 0 0 (nI 20) (nI 0) (nI 0) (nI 0) (nI 0) (nI 0) (nI 0) 0 0 0 1)), (r_38 0, .inl ((cT 1), 64, .inr (.inl f0_39))), (r_38 3, .inl ((cT 0), 160, .inl f3_40)), (r_38 4, .inl ((cT 0), 4, .inl f4_41)), (r_38 5, .inl ((cT 0), 1920, .inl (fun _ => 0))), (r_38 6, .inl ((cT 0), 32, .inl (fun _ => 0))), (r_38 7, .inl ((cT 0), 1000, .inl f7_42)), (r_38 9, .inl ((cT 0), 1400, .inl (fun _ => 0))), (r_38 11, .inl ((cT 0), 16, .inl (fun _ => 0))), (r_38 12, .inl ((cT 0), 1200, .inl (fun _ => 0))), (r_38 13, .inl ((cT 0), 200, .inl (fun _ => 0))), (r_38 15, .inl ((cT 0), 200, .inl (fun _ => 0))), (r_38 18, .inl ((cT 0), 41, .inl (fun _ => 0))), (r_38 19, .inl ((cT 0), 41, .inl (fun _ => 0))), (r_38 20, .inl ((cT 0), 41, .inl (fun _ => 0))), (r_38 21, .inl ((cT 0), 41, .inl (fun _ => 0))), (r_38 22, .inl ((cT 0), 8200, .inl (fun _ => 0))), (r_38 23, .inl ((cT 0), 656, .inl (fun _ => 0))), (r_38 25, .inl ((cT 1), 7, .inr (.inl (fun _ => 0)))), (r_38 26, .inl ((cT 0), 7, .inl (fun _ => 0))), (r_38 27, .inl ((cT 0), 7, .inl (fun _ => 0))), (r_38 28, .inl ((cT 0), 7, .inl (fun _ => 0))), (r_38 29, .inl ((cT 0), 7, .inl (fun _ => 0))), (r_38 30, .inl ((cT 0), 112, .inl (fun _ => 0))), (r_38 34, .inl ((cT 0), 50, .inl (fun _ => 0))), (r_38 35, .inl ((cT 0), 50, .inl (fun _ => 0))), (r_38 36, .inl ((cT 0), 800, .inl (fun _ => 0))), (r_38 37, .inl ((cT 0), 50, .inl (fun _ => 0))), (r_38 38, .inl ((cT 0), 50, .inl (fun _ => 0))), (r_38 39, .inl ((cT 0), 50, .inl (fun _ => 0))), (r_38 40, .inl ((cT 0), 50, .inl (fun _ => 0))), (r_38 41, .inl ((cT 1), 50, .inr (.inl (fun _ => 0)))), (r_38 42, .inl ((cT 1), 50, .inr (.inl (fun _ => 0))))] : va_W) ++ va_pl L2_34 F2_35) H := hP
  have hD : va_D A (([(q5, .inr (0, [.ref dr_6, .ref sv_7])), (dr_6, .inr (2, [.ref rr_8, .int (nI 20)])), (rr_8, .inl ((cT 0), 1000, .inl f_9)), (sv_7, .inr (5, [.ref se_10, .ref pw_11, .ref g0_12, .ref ty_13, .ref an_14, .ref aw_15, .ref ts_16, .ref ss_17, .ref rq_18, .int 0, .int 0, .int 0])), (se_10, .inl ((cT 2), 4, .inr (.inr (.inr (.inr gs_19))))), (pw_11, .inl ((cT 2), 32, .inr (.inr (.inr (.inr gp_20))))), (ts_16, .inr (9, [.ref tp_31, .long 0, .long 1, .int 0])), (tp_31, .inl ((cT 4), 6, .inr (.inr (.inr (.inr gt_22))))), (ss_17, .inr (11, [.ref sp_32, .int 0])), (sp_32, .inl ((cT 5), 50, .inr (.inr (.inr (.inr go_23))))), (aw_15, .inr (6, [.ref ap_30, .int 0, .int 0])), (ap_30, .inl ((cT 3), 40, .inr (.inr (.inr (.inr gk_21))))), (ty_13, .inr (1, [.ref yr_28, .int 0])), (yr_28, .inl ((cT 0), 64, .inl (fun _ => 0))), (an_14, .inr (2, [.ref ar_29, .int 0])), (ar_29, .inl ((cT 0), 72, .inl (fun _ => 0))), (rq_18, .inr (4, [.ref dr_6, .ref sa_33])), (sa_33, .inl ((cT 0), 256, .inl (fun _ => 0))), (g0_12, .inr (3, [.ref tx_24, .ref wo_26, .ref di_27, .int 0, .int 0, .int 0, .int 0])), (tx_24, .inr (1, [.ref tr_25, .int 0])), (tr_25, .inl ((cT 0), 1192, .inl (fun _ => 0))), (wo_26, .inl ((cT 0), 16, .inl (fun _ => 0))), (di_27, .inl ((cT 0), 16, .inl (fun _ => 0))), (q37, .inr (12, mdG r_38 0 0 (nI 20) (nI 0) (nI 0) (nI 0) (nI 0) (nI 0) (nI 0) 0 0 0 1)), (r_38 0, .inl ((cT 1), 64, .inr (.inl f0_39))), (r_38 3, .inl ((cT 0), 160, .inl f3_40)), (r_38 4, .inl ((cT 0), 4, .inl f4_41)), (r_38 5, .inl ((cT 0), 1920, .inl (fun _ => 0))), (r_38 6, .inl ((cT 0), 32, .inl (fun _ => 0))), (r_38 7, .inl ((cT 0), 1000, .inl f7_42)), (r_38 9, .inl ((cT 0), 1400, .inl (fun _ => 0))), (r_38 11, .inl ((cT 0), 16, .inl (fun _ => 0))), (r_38 12, .inl ((cT 0), 1200, .inl (fun _ => 0))), (r_38 13, .inl ((cT 0), 200, .inl (fun _ => 0))), (r_38 15, .inl ((cT 0), 200, .inl (fun _ => 0))), (r_38 18, .inl ((cT 0), 41, .inl (fun _ => 0))), (r_38 19, .inl ((cT 0), 41, .inl (fun _ => 0))), (r_38 20, .inl ((cT 0), 41, .inl (fun _ => 0))), (r_38 21, .inl ((cT 0), 41, .inl (fun _ => 0))), (r_38 22, .inl ((cT 0), 8200, .inl (fun _ => 0))), (r_38 23, .inl ((cT 0), 656, .inl (fun _ => 0))), (r_38 25, .inl ((cT 1), 7, .inr (.inl (fun _ => 0)))), (r_38 26, .inl ((cT 0), 7, .inl (fun _ => 0))), (r_38 27, .inl ((cT 0), 7, .inl (fun _ => 0))), (r_38 28, .inl ((cT 0), 7, .inl (fun _ => 0))), (r_38 29, .inl ((cT 0), 7, .inl (fun _ => 0))), (r_38 30, .inl ((cT 0), 112, .inl (fun _ => 0))), (r_38 34, .inl ((cT 0), 50, .inl (fun _ => 0))), (r_38 35, .inl ((cT 0), 50, .inl (fun _ => 0))), (r_38 36, .inl ((cT 0), 800, .inl (fun _ => 0))), (r_38 37, .inl ((cT 0), 50, .inl (fun _ => 0))), (r_38 38, .inl ((cT 0), 50, .inl (fun _ => 0))), (r_38 39, .inl ((cT 0), 50, .inl (fun _ => 0))), (r_38 40, .inl ((cT 0), 50, .inl (fun _ => 0))), (r_38 41, .inl ((cT 1), 50, .inr (.inl (fun _ => 0)))), (r_38 42, .inl ((cT 1), 50, .inr (.inl (fun _ => 0))))] : va_W) ++ va_pl L2_34 F2_35) := hD
  obtain ⟨hm4, hm7⟩ := hw43
  refine lv_astore_n (lv' := [(2, .ref q37), (1, .ref q5), (0, .ref b)]) hx hb d_Lw_law_15 rfl hl (by decide) rfl (fun ls hl => ?_)
  refine lv_iconst (v := 1) hx hb d_Lw_law_16 (by decide) ?_
  refine va_newa (atype := .long) (ty := .long) (n := 1) (N' := 1) (a0 := (1, .inr (.inl (fun _ => 0)))) hx hb (hg _ k_1156) rfl hK hP hD hS hA (fun _ => rfl) (by decide) (by decide) (by decide) (Nat.le_of_ble_eq_true rfl) (Nat.le_of_ble_eq_true rfl) d_Lw_law_17 (fun q44 cA9 H hK9 hP hD hS => ?_)
  obtain rfl := nk_long hK9
  clear hK9
  have hP := hP.swap
  have hD := hD.swap
  have hP : va_P (dC, dI) vcl (([(q5, .inr (0, [.ref dr_6, .ref sv_7])), (dr_6, .inr (2, [.ref rr_8, .int (nI 20)])), (rr_8, .inl ((cT 0), 1000, .inl f_9)), (sv_7, .inr (5, [.ref se_10, .ref pw_11, .ref g0_12, .ref ty_13, .ref an_14, .ref aw_15, .ref ts_16, .ref ss_17, .ref rq_18, .int 0, .int 0, .int 0])), (se_10, .inl ((cT 2), 4, .inr (.inr (.inr (.inr gs_19))))), (pw_11, .inl ((cT 2), 32, .inr (.inr (.inr (.inr gp_20))))), (ts_16, .inr (9, [.ref tp_31, .long 0, .long 1, .int 0])), (tp_31, .inl ((cT 4), 6, .inr (.inr (.inr (.inr gt_22))))), (ss_17, .inr (11, [.ref sp_32, .int 0])), (sp_32, .inl ((cT 5), 50, .inr (.inr (.inr (.inr go_23))))), (aw_15, .inr (6, [.ref ap_30, .int 0, .int 0])), (ap_30, .inl ((cT 3), 40, .inr (.inr (.inr (.inr gk_21))))), (ty_13, .inr (1, [.ref yr_28, .int 0])), (yr_28, .inl ((cT 0), 64, .inl (fun _ => 0))), (an_14, .inr (2, [.ref ar_29, .int 0])), (ar_29, .inl ((cT 0), 72, .inl (fun _ => 0))), (rq_18, .inr (4, [.ref dr_6, .ref sa_33])), (sa_33, .inl ((cT 0), 256, .inl (fun _ => 0))), (g0_12, .inr (3, [.ref tx_24, .ref wo_26, .ref di_27, .int 0, .int 0, .int 0, .int 0])), (tx_24, .inr (1, [.ref tr_25, .int 0])), (tr_25, .inl ((cT 0), 1192, .inl (fun _ => 0))), (wo_26, .inl ((cT 0), 16, .inl (fun _ => 0))), (di_27, .inl ((cT 0), 16, .inl (fun _ => 0))), (q37, .inr (12, mdG r_38 0 0 (nI 20) (nI 0) (nI 0) (nI 0) (nI 0) (nI 0) (nI 0) 0 0 0 1)), (r_38 0, .inl ((cT 1), 64, .inr (.inl f0_39))), (r_38 3, .inl ((cT 0), 160, .inl f3_40)), (r_38 4, .inl ((cT 0), 4, .inl f4_41)), (r_38 5, .inl ((cT 0), 1920, .inl (fun _ => 0))), (r_38 6, .inl ((cT 0), 32, .inl (fun _ => 0))), (r_38 7, .inl ((cT 0), 1000, .inl f7_42)), (r_38 9, .inl ((cT 0), 1400, .inl (fun _ => 0))), (r_38 11, .inl ((cT 0), 16, .inl (fun _ => 0))), (r_38 12, .inl ((cT 0), 1200, .inl (fun _ => 0))), (r_38 13, .inl ((cT 0), 200, .inl (fun _ => 0))), (r_38 15, .inl ((cT 0), 200, .inl (fun _ => 0))), (r_38 18, .inl ((cT 0), 41, .inl (fun _ => 0))), (r_38 19, .inl ((cT 0), 41, .inl (fun _ => 0))), (r_38 20, .inl ((cT 0), 41, .inl (fun _ => 0))), (r_38 21, .inl ((cT 0), 41, .inl (fun _ => 0))), (r_38 22, .inl ((cT 0), 8200, .inl (fun _ => 0))), (r_38 23, .inl ((cT 0), 656, .inl (fun _ => 0))), (r_38 25, .inl ((cT 1), 7, .inr (.inl (fun _ => 0)))), (r_38 26, .inl ((cT 0), 7, .inl (fun _ => 0))), (r_38 27, .inl ((cT 0), 7, .inl (fun _ => 0))), (r_38 28, .inl ((cT 0), 7, .inl (fun _ => 0))), (r_38 29, .inl ((cT 0), 7, .inl (fun _ => 0))), (r_38 30, .inl ((cT 0), 112, .inl (fun _ => 0))), (r_38 34, .inl ((cT 0), 50, .inl (fun _ => 0))), (r_38 35, .inl ((cT 0), 50, .inl (fun _ => 0))), (r_38 36, .inl ((cT 0), 800, .inl (fun _ => 0))), (r_38 37, .inl ((cT 0), 50, .inl (fun _ => 0))), (r_38 38, .inl ((cT 0), 50, .inl (fun _ => 0))), (r_38 39, .inl ((cT 0), 50, .inl (fun _ => 0))), (r_38 40, .inl ((cT 0), 50, .inl (fun _ => 0))), (r_38 41, .inl ((cT 1), 50, .inr (.inl (fun _ => 0)))), (r_38 42, .inl ((cT 1), 50, .inr (.inl (fun _ => 0)))), (q44, .inl ((cT 1), 1, .inr (.inl (fun _ => 0))))] : va_W) ++ va_pl L2_34 F2_35) H := hP
  have hD : va_D A (([(q5, .inr (0, [.ref dr_6, .ref sv_7])), (dr_6, .inr (2, [.ref rr_8, .int (nI 20)])), (rr_8, .inl ((cT 0), 1000, .inl f_9)), (sv_7, .inr (5, [.ref se_10, .ref pw_11, .ref g0_12, .ref ty_13, .ref an_14, .ref aw_15, .ref ts_16, .ref ss_17, .ref rq_18, .int 0, .int 0, .int 0])), (se_10, .inl ((cT 2), 4, .inr (.inr (.inr (.inr gs_19))))), (pw_11, .inl ((cT 2), 32, .inr (.inr (.inr (.inr gp_20))))), (ts_16, .inr (9, [.ref tp_31, .long 0, .long 1, .int 0])), (tp_31, .inl ((cT 4), 6, .inr (.inr (.inr (.inr gt_22))))), (ss_17, .inr (11, [.ref sp_32, .int 0])), (sp_32, .inl ((cT 5), 50, .inr (.inr (.inr (.inr go_23))))), (aw_15, .inr (6, [.ref ap_30, .int 0, .int 0])), (ap_30, .inl ((cT 3), 40, .inr (.inr (.inr (.inr gk_21))))), (ty_13, .inr (1, [.ref yr_28, .int 0])), (yr_28, .inl ((cT 0), 64, .inl (fun _ => 0))), (an_14, .inr (2, [.ref ar_29, .int 0])), (ar_29, .inl ((cT 0), 72, .inl (fun _ => 0))), (rq_18, .inr (4, [.ref dr_6, .ref sa_33])), (sa_33, .inl ((cT 0), 256, .inl (fun _ => 0))), (g0_12, .inr (3, [.ref tx_24, .ref wo_26, .ref di_27, .int 0, .int 0, .int 0, .int 0])), (tx_24, .inr (1, [.ref tr_25, .int 0])), (tr_25, .inl ((cT 0), 1192, .inl (fun _ => 0))), (wo_26, .inl ((cT 0), 16, .inl (fun _ => 0))), (di_27, .inl ((cT 0), 16, .inl (fun _ => 0))), (q37, .inr (12, mdG r_38 0 0 (nI 20) (nI 0) (nI 0) (nI 0) (nI 0) (nI 0) (nI 0) 0 0 0 1)), (r_38 0, .inl ((cT 1), 64, .inr (.inl f0_39))), (r_38 3, .inl ((cT 0), 160, .inl f3_40)), (r_38 4, .inl ((cT 0), 4, .inl f4_41)), (r_38 5, .inl ((cT 0), 1920, .inl (fun _ => 0))), (r_38 6, .inl ((cT 0), 32, .inl (fun _ => 0))), (r_38 7, .inl ((cT 0), 1000, .inl f7_42)), (r_38 9, .inl ((cT 0), 1400, .inl (fun _ => 0))), (r_38 11, .inl ((cT 0), 16, .inl (fun _ => 0))), (r_38 12, .inl ((cT 0), 1200, .inl (fun _ => 0))), (r_38 13, .inl ((cT 0), 200, .inl (fun _ => 0))), (r_38 15, .inl ((cT 0), 200, .inl (fun _ => 0))), (r_38 18, .inl ((cT 0), 41, .inl (fun _ => 0))), (r_38 19, .inl ((cT 0), 41, .inl (fun _ => 0))), (r_38 20, .inl ((cT 0), 41, .inl (fun _ => 0))), (r_38 21, .inl ((cT 0), 41, .inl (fun _ => 0))), (r_38 22, .inl ((cT 0), 8200, .inl (fun _ => 0))), (r_38 23, .inl ((cT 0), 656, .inl (fun _ => 0))), (r_38 25, .inl ((cT 1), 7, .inr (.inl (fun _ => 0)))), (r_38 26, .inl ((cT 0), 7, .inl (fun _ => 0))), (r_38 27, .inl ((cT 0), 7, .inl (fun _ => 0))), (r_38 28, .inl ((cT 0), 7, .inl (fun _ => 0))), (r_38 29, .inl ((cT 0), 7, .inl (fun _ => 0))), (r_38 30, .inl ((cT 0), 112, .inl (fun _ => 0))), (r_38 34, .inl ((cT 0), 50, .inl (fun _ => 0))), (r_38 35, .inl ((cT 0), 50, .inl (fun _ => 0))), (r_38 36, .inl ((cT 0), 800, .inl (fun _ => 0))), (r_38 37, .inl ((cT 0), 50, .inl (fun _ => 0))), (r_38 38, .inl ((cT 0), 50, .inl (fun _ => 0))), (r_38 39, .inl ((cT 0), 50, .inl (fun _ => 0))), (r_38 40, .inl ((cT 0), 50, .inl (fun _ => 0))), (r_38 41, .inl ((cT 1), 50, .inr (.inl (fun _ => 0)))), (r_38 42, .inl ((cT 1), 50, .inr (.inl (fun _ => 0)))), (q44, .inl ((cT 1), 1, .inr (.inl (fun _ => 0))))] : va_W) ++ va_pl L2_34 F2_35) := hD
  refine lv_astore_n (lv' := [(3, .ref q44), (2, .ref q37), (1, .ref q5), (0, .ref b)]) hx hb d_Lw_law_19 rfl hl (by decide) rfl (fun ls hl => ?_)
  refine lv_iconst (v := 0) hx hb d_Lw_law_20 (by decide) ?_
  refine lv_istore (lv' := [(4, .int 0), (3, .ref q44), (2, .ref q37), (1, .ref q5), (0, .ref b)]) hx hb d_Lw_law_21 hl (by decide) rfl (fun ls hl => ?_)
  refine W.widen (k := 800 + 0) (n := 32000 + 6 * 0) (Nat.le_of_ble_eq_true rfl) (Nat.le_of_ble_eq_true rfl) ?_
  have hP := hP.part (cx := [(q5, .inr (0, [.ref dr_6, .ref sv_7])), (sv_7, .inr (5, [.ref se_10, .ref pw_11, .ref g0_12, .ref ty_13, .ref an_14, .ref aw_15, .ref ts_16, .ref ss_17, .ref rq_18, .int 0, .int 0, .int 0])), (se_10, .inl ((cT 2), 4, .inr (.inr (.inr (.inr gs_19))))), (pw_11, .inl ((cT 2), 32, .inr (.inr (.inr (.inr gp_20))))), (ts_16, .inr (9, [.ref tp_31, .long 0, .long 1, .int 0])), (tp_31, .inl ((cT 4), 6, .inr (.inr (.inr (.inr gt_22))))), (ss_17, .inr (11, [.ref sp_32, .int 0])), (sp_32, .inl ((cT 5), 50, .inr (.inr (.inr (.inr go_23))))), (aw_15, .inr (6, [.ref ap_30, .int 0, .int 0])), (ap_30, .inl ((cT 3), 40, .inr (.inr (.inr (.inr gk_21))))), (ty_13, .inr (1, [.ref yr_28, .int 0])), (yr_28, .inl ((cT 0), 64, .inl (fun _ => 0))), (an_14, .inr (2, [.ref ar_29, .int 0])), (ar_29, .inl ((cT 0), 72, .inl (fun _ => 0))), (rq_18, .inr (4, [.ref dr_6, .ref sa_33])), (sa_33, .inl ((cT 0), 256, .inl (fun _ => 0))), (dr_6, .inr (2, [.ref rr_8, .int (nI 20)])), (rr_8, .inl ((cT 0), 1000, .inl f_9)), (g0_12, .inr (3, [.ref tx_24, .ref wo_26, .ref di_27, .int 0, .int 0, .int 0, .int 0])), (tx_24, .inr (1, [.ref tr_25, .int 0])), (tr_25, .inl ((cT 0), 1192, .inl (fun _ => 0))), (wo_26, .inl ((cT 0), 16, .inl (fun _ => 0))), (di_27, .inl ((cT 0), 16, .inl (fun _ => 0))), (q37, .inr (12, mdG r_38 0 0 (nI 20) (nI 0) (nI 0) (nI 0) (nI 0) (nI 0) (nI 0) 0 0 0 1)), (r_38 0, .inl ((cT 1), 64, .inr (.inl f0_39))), (r_38 3, .inl ((cT 0), 160, .inl f3_40)), (r_38 4, .inl ((cT 0), 4, .inl f4_41)), (r_38 5, .inl ((cT 0), 1920, .inl (fun _ => 0))), (r_38 6, .inl ((cT 0), 32, .inl (fun _ => 0))), (r_38 7, .inl ((cT 0), 1000, .inl f7_42)), (r_38 9, .inl ((cT 0), 1400, .inl (fun _ => 0))), (r_38 11, .inl ((cT 0), 16, .inl (fun _ => 0))), (r_38 12, .inl ((cT 0), 1200, .inl (fun _ => 0))), (r_38 13, .inl ((cT 0), 200, .inl (fun _ => 0))), (r_38 15, .inl ((cT 0), 200, .inl (fun _ => 0))), (r_38 18, .inl ((cT 0), 41, .inl (fun _ => 0))), (r_38 19, .inl ((cT 0), 41, .inl (fun _ => 0))), (r_38 20, .inl ((cT 0), 41, .inl (fun _ => 0))), (r_38 21, .inl ((cT 0), 41, .inl (fun _ => 0))), (r_38 22, .inl ((cT 0), 8200, .inl (fun _ => 0))), (r_38 23, .inl ((cT 0), 656, .inl (fun _ => 0))), (r_38 25, .inl ((cT 1), 7, .inr (.inl (fun _ => 0)))), (r_38 26, .inl ((cT 0), 7, .inl (fun _ => 0))), (r_38 27, .inl ((cT 0), 7, .inl (fun _ => 0))), (r_38 28, .inl ((cT 0), 7, .inl (fun _ => 0))), (r_38 29, .inl ((cT 0), 7, .inl (fun _ => 0))), (r_38 30, .inl ((cT 0), 112, .inl (fun _ => 0))), (r_38 34, .inl ((cT 0), 50, .inl (fun _ => 0))), (r_38 35, .inl ((cT 0), 50, .inl (fun _ => 0))), (r_38 36, .inl ((cT 0), 800, .inl (fun _ => 0))), (r_38 37, .inl ((cT 0), 50, .inl (fun _ => 0))), (r_38 38, .inl ((cT 0), 50, .inl (fun _ => 0))), (r_38 39, .inl ((cT 0), 50, .inl (fun _ => 0))), (r_38 40, .inl ((cT 0), 50, .inl (fun _ => 0))), (r_38 41, .inl ((cT 1), 50, .inr (.inl (fun _ => 0)))), (r_38 42, .inl ((cT 1), 50, .inr (.inl (fun _ => 0)))), (q44, .inl ((cT 1), 1, .inr (.inl (fun _ => 0))))]) [0, 3, 4, 5, 6, 7, 8, 9, 10, 11, 12, 13, 14, 15, 16, 17, 1, 2, 18, 19, 20, 21, 22, 23, 24, 25, 26, 27, 28, 29, 30, 31, 32, 33, 34, 35, 36, 37, 38, 39, 40, 41, 42, 43, 44, 45, 46, 47, 48, 49, 50, 51, 52, 53, 54, 55, 56] rfl
  have hD := hD.part (cx := [(q5, .inr (0, [.ref dr_6, .ref sv_7])), (sv_7, .inr (5, [.ref se_10, .ref pw_11, .ref g0_12, .ref ty_13, .ref an_14, .ref aw_15, .ref ts_16, .ref ss_17, .ref rq_18, .int 0, .int 0, .int 0])), (se_10, .inl ((cT 2), 4, .inr (.inr (.inr (.inr gs_19))))), (pw_11, .inl ((cT 2), 32, .inr (.inr (.inr (.inr gp_20))))), (ts_16, .inr (9, [.ref tp_31, .long 0, .long 1, .int 0])), (tp_31, .inl ((cT 4), 6, .inr (.inr (.inr (.inr gt_22))))), (ss_17, .inr (11, [.ref sp_32, .int 0])), (sp_32, .inl ((cT 5), 50, .inr (.inr (.inr (.inr go_23))))), (aw_15, .inr (6, [.ref ap_30, .int 0, .int 0])), (ap_30, .inl ((cT 3), 40, .inr (.inr (.inr (.inr gk_21))))), (ty_13, .inr (1, [.ref yr_28, .int 0])), (yr_28, .inl ((cT 0), 64, .inl (fun _ => 0))), (an_14, .inr (2, [.ref ar_29, .int 0])), (ar_29, .inl ((cT 0), 72, .inl (fun _ => 0))), (rq_18, .inr (4, [.ref dr_6, .ref sa_33])), (sa_33, .inl ((cT 0), 256, .inl (fun _ => 0))), (dr_6, .inr (2, [.ref rr_8, .int (nI 20)])), (rr_8, .inl ((cT 0), 1000, .inl f_9)), (g0_12, .inr (3, [.ref tx_24, .ref wo_26, .ref di_27, .int 0, .int 0, .int 0, .int 0])), (tx_24, .inr (1, [.ref tr_25, .int 0])), (tr_25, .inl ((cT 0), 1192, .inl (fun _ => 0))), (wo_26, .inl ((cT 0), 16, .inl (fun _ => 0))), (di_27, .inl ((cT 0), 16, .inl (fun _ => 0))), (q37, .inr (12, mdG r_38 0 0 (nI 20) (nI 0) (nI 0) (nI 0) (nI 0) (nI 0) (nI 0) 0 0 0 1)), (r_38 0, .inl ((cT 1), 64, .inr (.inl f0_39))), (r_38 3, .inl ((cT 0), 160, .inl f3_40)), (r_38 4, .inl ((cT 0), 4, .inl f4_41)), (r_38 5, .inl ((cT 0), 1920, .inl (fun _ => 0))), (r_38 6, .inl ((cT 0), 32, .inl (fun _ => 0))), (r_38 7, .inl ((cT 0), 1000, .inl f7_42)), (r_38 9, .inl ((cT 0), 1400, .inl (fun _ => 0))), (r_38 11, .inl ((cT 0), 16, .inl (fun _ => 0))), (r_38 12, .inl ((cT 0), 1200, .inl (fun _ => 0))), (r_38 13, .inl ((cT 0), 200, .inl (fun _ => 0))), (r_38 15, .inl ((cT 0), 200, .inl (fun _ => 0))), (r_38 18, .inl ((cT 0), 41, .inl (fun _ => 0))), (r_38 19, .inl ((cT 0), 41, .inl (fun _ => 0))), (r_38 20, .inl ((cT 0), 41, .inl (fun _ => 0))), (r_38 21, .inl ((cT 0), 41, .inl (fun _ => 0))), (r_38 22, .inl ((cT 0), 8200, .inl (fun _ => 0))), (r_38 23, .inl ((cT 0), 656, .inl (fun _ => 0))), (r_38 25, .inl ((cT 1), 7, .inr (.inl (fun _ => 0)))), (r_38 26, .inl ((cT 0), 7, .inl (fun _ => 0))), (r_38 27, .inl ((cT 0), 7, .inl (fun _ => 0))), (r_38 28, .inl ((cT 0), 7, .inl (fun _ => 0))), (r_38 29, .inl ((cT 0), 7, .inl (fun _ => 0))), (r_38 30, .inl ((cT 0), 112, .inl (fun _ => 0))), (r_38 34, .inl ((cT 0), 50, .inl (fun _ => 0))), (r_38 35, .inl ((cT 0), 50, .inl (fun _ => 0))), (r_38 36, .inl ((cT 0), 800, .inl (fun _ => 0))), (r_38 37, .inl ((cT 0), 50, .inl (fun _ => 0))), (r_38 38, .inl ((cT 0), 50, .inl (fun _ => 0))), (r_38 39, .inl ((cT 0), 50, .inl (fun _ => 0))), (r_38 40, .inl ((cT 0), 50, .inl (fun _ => 0))), (r_38 41, .inl ((cT 1), 50, .inr (.inl (fun _ => 0)))), (r_38 42, .inl ((cT 1), 50, .inr (.inl (fun _ => 0)))), (q44, .inl ((cT 1), 1, .inr (.inl (fun _ => 0))))]) [0, 3, 4, 5, 6, 7, 8, 9, 10, 11, 12, 13, 14, 15, 16, 17, 1, 2, 18, 19, 20, 21, 22, 23, 24, 25, 26, 27, 28, 29, 30, 31, 32, 33, 34, 35, 36, 37, 38, 39, 40, 41, 42, 43, 44, 45, 46, 47, 48, 49, 50, 51, 52, 53, 54, 55, 56] (by decide) rfl
  have hl := lv_sub hl [4, 3, 2, 1, 0] (show _ = [(0, .ref b), (1, .ref q5), (2, .ref q37), (3, .ref q44), (4, .int 0)] from rfl)
  have hI : LI dC dI cT A q5 sv_7 g0_12 se_10 pw_11 ty_13 an_14 aw_15 ts_16 ss_17 rq_18 tp_31 sp_32 ap_30 yr_28 ar_29 dr_6 rr_8 sa_33 tx_24 tr_25 wo_26 di_27 q37 q44 r_38 f0_39 gs_19 gp_20 gt_22 gk_21 L2_34 (fun a => kdE (F2_35 a)) (fun a => siE (F2_35 a)) (fun a => roE (F2_35 a)) H := ⟨(fun k => match k with | 0 => 0 | 1 => 0 | 2 => 0 | 3 => 0 | 4 => 0 | 5 => 20 | 6 => 0 | 7 => 20 | 8 => 0 | 9 => 0 | 10 => 0 | 11 => 0 | _ => 0), (fun k => match k with | 0 => 0 | 1 => 0 | 2 => 0 | 3 => 0 | 4 => 0 | 5 => 0 | 6 => 0 | 7 => 0 | 8 => 0 | 9 => 0 | 10 => 0 | _ => 0), (fun k => match k with | 0 => 0 | 1 => 1 | 2 => 0 | _ => 1), (fun k => match k with | 0 => fun _ => 0 | 1 => fun _ => 0 | 2 => fun _ => 0 | 3 => f_9 | 4 => fun _ => 0 | 5 => fun _ => 0 | 6 => fun _ => 0 | 7 => f3_40 | 8 => f4_41 | 9 => fun _ => 0 | 10 => fun _ => 0 | 11 => f7_42 | 12 => fun _ => 0 | 13 => fun _ => 0 | 14 => fun _ => 0 | 15 => fun _ => 0 | 16 => fun _ => 0 | 17 => fun _ => 0 | 18 => fun _ => 0 | 19 => fun _ => 0 | 20 => fun _ => 0 | 21 => fun _ => 0 | 22 => fun _ => 0 | 23 => fun _ => 0 | 24 => fun _ => 0 | 25 => fun _ => 0 | 26 => fun _ => 0 | 27 => fun _ => 0 | 28 => fun _ => 0 | 29 => fun _ => 0 | 30 => fun _ => 0 | 31 => fun _ => 0 | 32 => fun _ => 0 | 33 => fun _ => 0 | _ => fun _ => 0), (fun k => match k with | 0 => fun _ => 0 | 1 => fun _ => 0 | 2 => fun _ => 0 | _ => fun _ => 0), (fun k => match k with | _ => go_23), (fun k => match k with | _ => F2_35), (fun k => match k with | _ => (fun a => rbE (F2_35 a))), ⟨(show ∀ i9, i9 < 50 → ∃ q9, go_23 i9 = some q9 ∧ q9 ∈ L2_34 ∧ (fun a => kdE (F2_35 a)) q9 = 10 from hk10), (show 0 ≤ 64 from by decide), (show 0 ≤ 72 from by decide), (show 0 ≤ 40 from by decide), (show 0 ≤ 50 from by decide), (show AB f_9 from hab0), (show AB (fun _ => 0) from AB_0), (show AB (fun _ => 0) from AB_0), (show AB (fun _ => 0) from AB_0), (show 20 ≤ 20 from by decide), (show 20 ≤ 1000 from by decide), (show PLS cT (fun a => kdE (F2_35 a)) (fun a => siE (F2_35 a)) (fun a => roE (F2_35 a)) (fun a => rbE (F2_35 a)) L2_34 F2_35 from PF_PLS hpf), (show 0 ≤ 1000000 from by decide), (show 20 ≤ 20 from by decide), (show 20 ≤ 1000 from by decide), (show AB f7_42 from hm7), (show AB (fun _ => 0) from AB_0), (show BD 40 4 f4_41 from hm4), (show BD 60 32 (fun _ => 0) from BD_0), (show BD 200 41 (fun _ => 0) from BD_0), (show BD 16 50 (fun _ => 0) from BD_0), (show 0 ≤ 200 from by decide), (show 0 ≤ 200 from by decide), (show 0 ≤ 40 from by decide), (show 0 ≤ 6 from by decide), (show 0 ≤ 50 from by decide), (show SHP L2_34 (fun a => kdE (F2_35 a)) (fun a => siE (F2_35 a)) (fun a => roE (F2_35 a)) (fun a => rbE (F2_35 a)) from PF_SHP hpf), (show ∀ i9 q9 : Nat, i9 < 32 → gp_20 i9 = some q9 → ((fun a => rbE (F2_35 a)) q9 = 0 ↔ (fun _ => 0) i9 = 0) from fun i9 q9 h9 hq9 => ⟨fun _ => rfl, fun _ => PLB_rb hpb2 h9 hq9⟩)⟩, hP, hD⟩
  exact lw_loop dC dI cT q5 sv_7 g0_12 se_10 pw_11 ty_13 an_14 aw_15 ts_16 ss_17 rq_18 tp_31 sp_32 ap_30 yr_28 ar_29 dr_6 rr_8 sa_33 tx_24 tr_25 wo_26 di_27 q37 q44 r_38 f0_39 gs_19 gp_20 gt_22 gk_21 L2_34 (fun a => kdE (F2_35 a)) (fun a => siE (F2_35 a)) (fun a => roE (F2_35 a)) hx hb hml hown hg hX hbl hbA hA hK hfl hXm hXz hL (PLB_PS hpb1) (PLB_PS hpb2) hk8 hk7 (pl_nodup hD) hinj hr hlocks hA2 L 0 _ _ _ (by omega) (by decide) hI hS hl
set_option maxHeartbeats 4000000 in
theorem lw_walk (l : Launch) (hfl : l.flags = pinnedFlags ++ [noTraceFlag]) (b : Addr) (xs : List Int32) : MetFree l x (headSpec (Jvm.Cond.code x code maxLocals ret :: tables_1) room_1) (lw_P b xs) (fun _ _ _ _ _ => True) lw_Q := by
  refine MetFree.of_bodyS (code := code) (maxLocals := maxLocals) (ret := ret) (by decide) ?_ ?_
  · intro args s m h hn
    obtain ⟨meth, c, h1, h2, h3, h4, h5, h6, -, -⟩ := Cond.code_spec hn (atoms_spec (ws := Jvm.Cond.code x code maxLocals ret :: tables_1) h _ List.mem_cons_self)
    exact ⟨meth, c, h1, h2, h3, h4, h5, h6⟩
  · intro p e s m args below meth c s₁ B hml0 hP _
    obtain ⟨rfl, hx, hbd, hgv⟩ := hP
    obtain ⟨scr, harrAt, hlist, hof, hsmall⟩ := hx
    obtain ⟨hcb, hkn, -, -⟩ := State.arrayAt?_spec harrAt
    have hown : s.vm.findClass R_law = some m.cls := findClass_of_methodNamed B.named
    have hts0 : ∀ c ∈ (Jvm.Cond.code x code maxLocals ret :: tables_1), c.before #[Value.ref b] s = true := atoms_spec (ws := Jvm.Cond.code x code maxLocals ret :: tables_1) B.pre
    have hts : ∀ w ∈ lw_tbl, w.before #[Value.ref b] s = true := k2_hts_sels lw_privs (fun w hw => hts0 w (List.mem_cons_of_mem _ hw)) lw_privs_ok
    have hml : c.maxLocals = 8 := B.maxLocals_eq (hts0 _ List.mem_cons_self)
    have X₀ : Stand p l e room_1 s m #[Value.ref b] below meth c s₁ [] 0 0 := Stand.of_body B
    have hh0 : s₁.heap = s.heap := by rw [B.state]; rfl
    have hsz : scr.slots.size = xs.length := by rw [← Array.length_toList, hlist, List.length_map]
    have hval : ∀ j : Nat, j < xs.length → scr.slots[j]? = some (.int (xs.getD j 0)) := fun j hj => by
      rw [← Array.getElem?_toList, hlist]
      simp [hj]
    have hbl : b < s.heap.size := (Array.getElem?_eq_some_iff.mp hcb).1
    have hX : va_X b xs.length (fun j => xs.getD j 0) s s.heap := ⟨scr, hcb, hof, hkn, hsz, hval⟩
    have K : W p l e room_1 s m #[Value.ref b] below meth c s₁.heap [] 0 0 (lw_Z below #[Value.ref b] s) (entryFrame m ([Value.ref b] : List Value).toArray 8) := by
      rw [hh0]
      exact whole_start l hfl hbd ⟨B.exec, B.bytes, B.returns, hml, hown, hts, hX, hbl, B.notSynchronized, hgv⟩
    obtain ⟨t, a1, o, b1, b2, b3⟩ := K s₁ rfl X₀
    exact ⟨t, o, a1, b1, b2, b3⟩
theorem lw_pre_spec {args : Array Value} {s : State} (h : (Jvm.Cond.and given_1 narrow_1).before args s = true) (hr : rest_1_c.before args s = true) : ∃ (b : Addr) (xs : List Int32), lw_P b xs args s := by
  have hs := flat_of_before _ h
  have hq := flat_of_before _ hr
  have hc : (Cond.count 1).before args s = true := hs _ (by decide +kernel)
  have harr : (Cond.arrayOf (.arg 0) .int).before args s = true := hs _ (by decide +kernel)
  have hle : (Cond.le (.length (.arg 0)) (.int 2560)).before args s = true := hs _ (by decide +kernel)
  have hlen : (Cond.isInt (.length (.arg 0))).before args s = true := hq _ (by decide +kernel)
  have hall : (Cond.all (.arg 0) (.isInt (.elem (.arg 0) (.index 0)))).before args s = true := hq _ (by decide +kernel)
  obtain ⟨b, xs, hb, hx⟩ := State.ints_of_pre rfl harr hlen hall
  have hsm : xs.length < 2 ^ 31 := hx.choose_spec.2.2.2
  have hev : (Term.length (.arg 0)).eval args s none [] s = some (.int xs.length.toInt32) := hx.length_eval hb
  have hv := Cond.le_ints hev (show (Term.int 2560).eval args s none [] s = some (.int 2560) from rfl)
  have hd : xs.length.toInt32 ≤ 2560 := by
    simpa [Cond.before, Cond.holds, hv] using hle
  have hN : xs.length ≤ 2560 := (Int32.ofNat_le_ofNat hsm (by decide)).mp (show Int32.ofNat xs.length ≤ Int32.ofNat 2560 from hd)
  exact ⟨b, xs, Cond.one_arg hc (show args[0]? = some (.ref b) from hb), hx, hN, h⟩
theorem lw_comes (l : Launch) (hfl : l.flags = pinnedFlags ++ [noTraceFlag]) : Comes l x (Jvm.Cond.code x code maxLocals ret :: tables_1) room_1 (fun tb e args s => Calls_1 tb e args s ∧ rest_1 tb e args s ∧ Pre_1 tb e args s)
    (fun _ _ args s o t => lw_Q args s o t) := by
  intro p e ha hc hk s m args below hf hfit hheap happ hpre
  obtain ⟨b, xs, hP⟩ := lw_pre_spec hpre.2.2 hpre.2.1
  obtain ⟨k, o, h1, h2, h3, hQ⟩ := lw_walk l hfl b xs p e ha hc hk s m args below hf ((Spec.applies_iff_loose hf).mp happ).1 hP trivial
  exact ⟨k, o, h1, h2, h3, hQ⟩
theorem lw_frame {s t : State} {o : Outcome} {args : Array Value} (h : Framed s o t [] 601024 7293034) :
    Framed s o t (fieldLocs frame_1_writes args s ++ arrayLocs frame_1_arrays args s ++ staticLocs frame_1_statics s) 601024 7293034 := h
theorem lw_limb (L : Cond) (hL : ∀ (args : Array Value) (s t : State), L.after args s (.returned (some (.int 1))) t = true) :
    ArmFor flags0 classFile x code maxLocals ret World_1 tables_1 room_1 Calls_1 rest_1 Pre_1
      (fun tb e a s o t => postC L tb e a s o t ∧ Framed s o t (fieldLocs frame_1_writes a s ++ arrayLocs frame_1_arrays a s ++ staticLocs frame_1_statics s) 601024 7293034) := by
  intro l hfl _ _ p e ha hc hk s m args below hf hfit hheap happ hpre
  obtain ⟨k, o, h1, h2, h3, rfl, hF⟩ := lw_comes l hfl p e ha hc hk s m args below hf hfit hheap happ hpre
  exact ⟨k, _, h1, h2, h3, hL args s _, lw_frame hF⟩
theorem i_vc : Claimed_1_1 ∧ Claimed_1_2 := ⟨lw_limb limb_1_1 (fun args s t => by simp [limb_1_1, Cond.after, Cond.holds, Cond.value]), lw_limb limb_1_2 (fun args s t => Cond.after_iff.mpr (by
  first | (rw [show limb_1_2 = Cond.eq .result (.int 1) from rfl, Cond.eq_ints (x := 1) (y := 1) rfl rfl]; simp; done) | (simp [limb_1_2, Cond.value, Term.eval]; done)))⟩

