theorem d_Lw_law_0 : decode b_Lw_law 0 = .ok (.new 8, 3) := by decide +kernel
theorem d_Lw_law_3 : decode b_Lw_law 3 = .ok (.dup, 1) := by decide +kernel
theorem d_Lw_law_4 : decode b_Lw_law 4 = .ok (.invokespecial 74, 3) := by decide +kernel
theorem d_Lw_law_7 : decode b_Lw_law 7 = .ok (.astore_n 1, 1) := by decide +kernel
theorem d_Lw_law_8 : decode b_Lw_law 8 = .ok (.new 75, 3) := by decide +kernel
theorem d_Lw_law_11 : decode b_Lw_law 11 = .ok (.dup, 1) := by decide +kernel
theorem d_Lw_law_12 : decode b_Lw_law 12 = .ok (.invokespecial 77, 3) := by decide +kernel
theorem d_Lw_law_15 : decode b_Lw_law 15 = .ok (.astore_n 2, 1) := by decide +kernel
theorem d_Lw_law_16 : decode b_Lw_law 16 = .ok (.iconst 1, 1) := by decide +kernel
theorem d_Lw_law_17 : decode b_Lw_law 17 = .ok (.newarray .long, 2) := by decide +kernel
theorem d_Lw_law_19 : decode b_Lw_law 19 = .ok (.astore_n 3, 1) := by decide +kernel
theorem d_Lw_law_20 : decode b_Lw_law 20 = .ok (.iconst 0, 1) := by decide +kernel
theorem d_Lw_law_21 : decode b_Lw_law 21 = .ok (.istore 4, 2) := by decide +kernel
theorem d_Lw_law_23 : decode b_Lw_law 23 = .ok (.iload 4, 2) := by decide +kernel
theorem d_Lw_law_25 : decode b_Lw_law 25 = .ok (.aload_n 0, 1) := by decide +kernel
theorem d_Lw_law_26 : decode b_Lw_law 26 = .ok (.arraylength, 1) := by decide +kernel
theorem d_Lw_law_27 : decode b_Lw_law 27 = .ok (.iconst 5, 1) := by decide +kernel
theorem d_Lw_law_28 : decode b_Lw_law 28 = .ok (.isub, 1) := by decide +kernel
theorem d_Lw_law_29 : decode b_Lw_law 29 = .ok (.if_icmp .gt 1340, 3) := by decide +kernel
theorem d_Lw_law_1369 : decode b_Lw_law 1369 = .ok (.iconst 1, 1) := by decide +kernel
theorem d_Lw_law_1370 : decode b_Lw_law 1370 = .ok (.ireturn, 1) := by decide +kernel
theorem d_Lw_law_1363 : decode b_Lw_law 1363 = .ok (.iinc 4 5, 3) := by decide +kernel
theorem d_Lw_law_1366 : decode b_Lw_law 1366 = .ok (.goto (-1343), 3) := by decide +kernel
theorem d_Lw_law_32 : decode b_Lw_law 32 = .ok (.aload_n 0, 1) := by decide +kernel
theorem d_Lw_law_33 : decode b_Lw_law 33 = .ok (.iload 4, 2) := by decide +kernel
theorem d_Lw_law_35 : decode b_Lw_law 35 = .ok (.iaload, 1) := by decide +kernel
theorem d_Lw_law_36 : decode b_Lw_law 36 = .ok (.bipush 31, 2) := by decide +kernel
theorem d_Lw_law_38 : decode b_Lw_law 38 = .ok (.iand, 1) := by decide +kernel
theorem d_Lw_law_39 : decode b_Lw_law 39 = .ok (.tableswitch 1324 0 17 #[85, 177, 296, 388, 468, 536, 592, 704, 760, 860, 916, 952, 1020, 1076, 1089, 1145, 1201, 1257], 85) := by decide +kernel
/-! THE CLAIM OUT OF ONE WALK OF THE LAW'S BODY. Your part is whole_start (and what it stands on); all else here is the same for every law, but numbers. -/
def R_law : String := "DoorServerLaw"
def lw_P (b : Addr) (xs : List Int32) (args : Array Value) (s : State) : Prop := args = #[.ref b] ∧ s.IntsAt b xs ∧ xs.length ≤ 5 ∧ (Jvm.Cond.and given_1 narrow_1).before args s = true
def lw_Q (_ : Array Value) (s : State) (o : Outcome) (t : State) : Prop := o = .returned (some (.int 1)) ∧ Framed s o t [] 600002 7302232
def lw_Z (below : List Frame) (a : Array Value) (s : State) : State → Prop := fun t => ∃ o, t.status = .running ∧ Ended t below o ∧ lw_Q a s o t
/-- the law's own end, with 1 on the stack, nothing written that was there before, its room as the claim has it -/
theorem lw_ret {p : Program} {l : Launch} {e : Env} {s : State} {m : MethodId} {below : List Frame} {meth : Method} {c : Code} {b : Nat} (hx : p.tables.exec = Jvm.exec) (hb : c.code = code) (hr : meth.sig.returnType = ret) (hlocks : meth.locks = false) {pc : Nat} {H : Heap} {ls : Array Slot} (hdg : decode code pc = .ok (.ireturn, 1)) : W p l e room_1 s m #[Value.ref b] below meth c H [] 600002 7302232 (lw_Z below #[Value.ref b] s) (F0 m pc ls [.int 1]) := by
  intro T hT X
  obtain ⟨fs, hret, hrun, hended, hW, hframe⟩ := X.leave (v := some (.int 1)) (hlocks := hlocks) (fun h => by rw [hr] at h; cases h)
  have hmeth' : T.vm.method? m = some meth := X.method'
  refine ⟨T.setFrames fs, ?_, .returned (some (.int 1)), hrun, hended, rfl, ⟨_, rfl⟩, hW, hframe⟩
  jvm_step X.here [X.here.top, hx, hb, hdg, hmeth', hr, ret, narrow_b1]
  (try refine ⟨rfl, ?_⟩); (try refine ⟨rfl, ?_⟩)
  first | (intro acts; rw [hret _ acts rfl rfl rfl]) | rw [hret _ _ rfl rfl rfl]
  exact Steps.refl _
/-- what holds at the law's entry: the machine, the code, the tables' words (any of lw_tbl by 'hts w (by decide +kernel)'), the script of L ints xs at the cell b, what the Statement gives of the start (any of its parts by flat_of_before) -/
def lw_At (p : Program) (s : State) (m : MethodId) (meth : Method) (c : Code) (b L : Nat) (xs : Nat → Int32) : Prop :=
  p.tables.exec = Jvm.exec ∧ c.code = code ∧ meth.sig.returnType = ret ∧ c.maxLocals = 8 ∧ s.vm.findClass R_law = some m.cls ∧ (∀ w ∈ lw_tbl, w.before #[Value.ref b] s = true) ∧ va_X b L xs s s.heap ∧ b < s.heap.size ∧ meth.locks = false ∧ (Jvm.Cond.and given_1 narrow_1).before #[Value.ref b] s = true

theorem ws_nw {b : Nat} {s : State} (hts : ∀ w ∈ lw_tbl, w.before #[Value.ref b] s = true) : nw_T s s.heap := ⟨va_Nw.of rfl (hts _ (List.mem_append_right _ (tb_1 (List.mem_of_getElem? (i := 106) rfl)) : (Jvm.Cond.methodLinkNest "DoorServer$Server" (22 : Nat) y_Dg_init "DoorServer") ∈ lw_tbl)), va_Nw.of rfl (hts _ (List.mem_append_right _ (tb_1 (List.mem_of_getElem? (i := 150) rfl)) : (Jvm.Cond.methodLinkNest "DoorServer$Answers" (17 : Nat) y_Ke_init "DoorServer") ∈ lw_tbl)), va_Nw.of rfl (hts _ (List.mem_append_right _ (tb_1 (List.mem_of_getElem? (i := 200) rfl)) : (Jvm.Cond.methodLinkNest "DoorServer$Trials" (21 : Nat) y_Tl_init "DoorServer") ∈ lw_tbl)), va_Nw.of rfl (hts _ (List.mem_append_right _ (tb_2 (List.mem_of_getElem? (i := 14) rfl)) : (Jvm.Cond.methodLinkNest "DoorServer$Sessions" (17 : Nat) y_Se_init "DoorServer") ∈ lw_tbl)), va_AO.of (hts _ (List.mem_append_right _ (tb_1 (List.mem_of_getElem? (i := 103) rfl)) : (Jvm.Cond.arrayOver (Jvm.ClassFile.FieldType.object "DoorServer$Bytes")) ∈ lw_tbl)), va_AO.of (hts _ (List.mem_append_right _ (tb_1 (List.mem_of_getElem? (i := 148) rfl)) : (Jvm.Cond.arrayOver (Jvm.ClassFile.FieldType.object "DoorServer$Kept")) ∈ lw_tbl)), va_AO.of (hts _ (List.mem_append_right _ (tb_1 (List.mem_of_getElem? (i := 198) rfl)) : (Jvm.Cond.arrayOver (Jvm.ClassFile.FieldType.object "DoorServer$Trial")) ∈ lw_tbl)), va_AO.of (hts _ (List.mem_append_right _ (tb_2 (List.mem_of_getElem? (i := 12) rfl)) : (Jvm.Cond.arrayOver (Jvm.ClassFile.FieldType.object "DoorServer$Session")) ∈ lw_tbl))⟩
theorem ws_s {args : Array Value} {s : State} {A : Nat → Prop} (hgv : (Jvm.Cond.and given_1 narrow_1).before args s = true) (hA3 : ∀ a : Nat, a < s.heap.size → ¬ A a) : ∃ (t : Nat) (f : Nat → Int32), (Jvm.Term.static "DoorServer$Digests" "SINES" "[I").eval args s none [] s = some (.ref t) ∧ va_T .int t 64 (fun j => .int (f j)) A s s.heap := by
  have hf := flat_of_before _ hgv
  have key : ∀ j : Nat, j < 64 → ∃ v : Int32, (Jvm.Term.elem (Jvm.Term.static "DoorServer$Digests" "SINES" "[I") (Jvm.Term.int (Int32.ofNat j))).eval args s none [] s = some (.int v) := fun j hj => match j, hj with
    | 0, _ => ⟨(-680876936), va_eqv (v := .int (-680876936)) (hf _ (List.mem_of_getElem? (i := 9) rfl)) rfl⟩
    | 1, _ => ⟨(-389564586), va_eqv (v := .int (-389564586)) (hf _ (List.mem_of_getElem? (i := 10) rfl)) rfl⟩
    | 2, _ => ⟨606105819, va_eqv (v := .int 606105819) (hf _ (List.mem_of_getElem? (i := 11) rfl)) rfl⟩
    | 3, _ => ⟨(-1044525330), va_eqv (v := .int (-1044525330)) (hf _ (List.mem_of_getElem? (i := 12) rfl)) rfl⟩
    | 4, _ => ⟨(-176418897), va_eqv (v := .int (-176418897)) (hf _ (List.mem_of_getElem? (i := 13) rfl)) rfl⟩
    | 5, _ => ⟨1200080426, va_eqv (v := .int 1200080426) (hf _ (List.mem_of_getElem? (i := 14) rfl)) rfl⟩
    | 6, _ => ⟨(-1473231341), va_eqv (v := .int (-1473231341)) (hf _ (List.mem_of_getElem? (i := 15) rfl)) rfl⟩
    | 7, _ => ⟨(-45705983), va_eqv (v := .int (-45705983)) (hf _ (List.mem_of_getElem? (i := 16) rfl)) rfl⟩
    | 8, _ => ⟨1770035416, va_eqv (v := .int 1770035416) (hf _ (List.mem_of_getElem? (i := 17) rfl)) rfl⟩
    | 9, _ => ⟨(-1958414417), va_eqv (v := .int (-1958414417)) (hf _ (List.mem_of_getElem? (i := 18) rfl)) rfl⟩
    | 10, _ => ⟨(-42063), va_eqv (v := .int (-42063)) (hf _ (List.mem_of_getElem? (i := 19) rfl)) rfl⟩
    | 11, _ => ⟨(-1990404162), va_eqv (v := .int (-1990404162)) (hf _ (List.mem_of_getElem? (i := 20) rfl)) rfl⟩
    | 12, _ => ⟨1804603682, va_eqv (v := .int 1804603682) (hf _ (List.mem_of_getElem? (i := 21) rfl)) rfl⟩
    | 13, _ => ⟨(-40341101), va_eqv (v := .int (-40341101)) (hf _ (List.mem_of_getElem? (i := 22) rfl)) rfl⟩
    | 14, _ => ⟨(-1502002290), va_eqv (v := .int (-1502002290)) (hf _ (List.mem_of_getElem? (i := 23) rfl)) rfl⟩
    | 15, _ => ⟨1236535329, va_eqv (v := .int 1236535329) (hf _ (List.mem_of_getElem? (i := 24) rfl)) rfl⟩
    | 16, _ => ⟨(-165796510), va_eqv (v := .int (-165796510)) (hf _ (List.mem_of_getElem? (i := 25) rfl)) rfl⟩
    | 17, _ => ⟨(-1069501632), va_eqv (v := .int (-1069501632)) (hf _ (List.mem_of_getElem? (i := 26) rfl)) rfl⟩
    | 18, _ => ⟨643717713, va_eqv (v := .int 643717713) (hf _ (List.mem_of_getElem? (i := 27) rfl)) rfl⟩
    | 19, _ => ⟨(-373897302), va_eqv (v := .int (-373897302)) (hf _ (List.mem_of_getElem? (i := 28) rfl)) rfl⟩
    | 20, _ => ⟨(-701558691), va_eqv (v := .int (-701558691)) (hf _ (List.mem_of_getElem? (i := 29) rfl)) rfl⟩
    | 21, _ => ⟨38016083, va_eqv (v := .int 38016083) (hf _ (List.mem_of_getElem? (i := 30) rfl)) rfl⟩
    | 22, _ => ⟨(-660478335), va_eqv (v := .int (-660478335)) (hf _ (List.mem_of_getElem? (i := 31) rfl)) rfl⟩
    | 23, _ => ⟨(-405537848), va_eqv (v := .int (-405537848)) (hf _ (List.mem_of_getElem? (i := 32) rfl)) rfl⟩
    | 24, _ => ⟨568446438, va_eqv (v := .int 568446438) (hf _ (List.mem_of_getElem? (i := 33) rfl)) rfl⟩
    | 25, _ => ⟨(-1019803690), va_eqv (v := .int (-1019803690)) (hf _ (List.mem_of_getElem? (i := 34) rfl)) rfl⟩
    | 26, _ => ⟨(-187363961), va_eqv (v := .int (-187363961)) (hf _ (List.mem_of_getElem? (i := 35) rfl)) rfl⟩
    | 27, _ => ⟨1163531501, va_eqv (v := .int 1163531501) (hf _ (List.mem_of_getElem? (i := 36) rfl)) rfl⟩
    | 28, _ => ⟨(-1444681467), va_eqv (v := .int (-1444681467)) (hf _ (List.mem_of_getElem? (i := 37) rfl)) rfl⟩
    | 29, _ => ⟨(-51403784), va_eqv (v := .int (-51403784)) (hf _ (List.mem_of_getElem? (i := 38) rfl)) rfl⟩
    | 30, _ => ⟨1735328473, va_eqv (v := .int 1735328473) (hf _ (List.mem_of_getElem? (i := 39) rfl)) rfl⟩
    | 31, _ => ⟨(-1926607734), va_eqv (v := .int (-1926607734)) (hf _ (List.mem_of_getElem? (i := 40) rfl)) rfl⟩
    | 32, _ => ⟨(-378558), va_eqv (v := .int (-378558)) (hf _ (List.mem_of_getElem? (i := 41) rfl)) rfl⟩
    | 33, _ => ⟨(-2022574463), va_eqv (v := .int (-2022574463)) (hf _ (List.mem_of_getElem? (i := 42) rfl)) rfl⟩
    | 34, _ => ⟨1839030562, va_eqv (v := .int 1839030562) (hf _ (List.mem_of_getElem? (i := 43) rfl)) rfl⟩
    | 35, _ => ⟨(-35309556), va_eqv (v := .int (-35309556)) (hf _ (List.mem_of_getElem? (i := 44) rfl)) rfl⟩
    | 36, _ => ⟨(-1530992060), va_eqv (v := .int (-1530992060)) (hf _ (List.mem_of_getElem? (i := 45) rfl)) rfl⟩
    | 37, _ => ⟨1272893353, va_eqv (v := .int 1272893353) (hf _ (List.mem_of_getElem? (i := 46) rfl)) rfl⟩
    | 38, _ => ⟨(-155497632), va_eqv (v := .int (-155497632)) (hf _ (List.mem_of_getElem? (i := 47) rfl)) rfl⟩
    | 39, _ => ⟨(-1094730640), va_eqv (v := .int (-1094730640)) (hf _ (List.mem_of_getElem? (i := 48) rfl)) rfl⟩
    | 40, _ => ⟨681279174, va_eqv (v := .int 681279174) (hf _ (List.mem_of_getElem? (i := 49) rfl)) rfl⟩
    | 41, _ => ⟨(-358537222), va_eqv (v := .int (-358537222)) (hf _ (List.mem_of_getElem? (i := 50) rfl)) rfl⟩
    | 42, _ => ⟨(-722521979), va_eqv (v := .int (-722521979)) (hf _ (List.mem_of_getElem? (i := 51) rfl)) rfl⟩
    | 43, _ => ⟨76029189, va_eqv (v := .int 76029189) (hf _ (List.mem_of_getElem? (i := 52) rfl)) rfl⟩
    | 44, _ => ⟨(-640364487), va_eqv (v := .int (-640364487)) (hf _ (List.mem_of_getElem? (i := 53) rfl)) rfl⟩
    | 45, _ => ⟨(-421815835), va_eqv (v := .int (-421815835)) (hf _ (List.mem_of_getElem? (i := 54) rfl)) rfl⟩
    | 46, _ => ⟨530742520, va_eqv (v := .int 530742520) (hf _ (List.mem_of_getElem? (i := 55) rfl)) rfl⟩
    | 47, _ => ⟨(-995338651), va_eqv (v := .int (-995338651)) (hf _ (List.mem_of_getElem? (i := 56) rfl)) rfl⟩
    | 48, _ => ⟨(-198630844), va_eqv (v := .int (-198630844)) (hf _ (List.mem_of_getElem? (i := 57) rfl)) rfl⟩
    | 49, _ => ⟨1126891415, va_eqv (v := .int 1126891415) (hf _ (List.mem_of_getElem? (i := 58) rfl)) rfl⟩
    | 50, _ => ⟨(-1416354905), va_eqv (v := .int (-1416354905)) (hf _ (List.mem_of_getElem? (i := 59) rfl)) rfl⟩
    | 51, _ => ⟨(-57434055), va_eqv (v := .int (-57434055)) (hf _ (List.mem_of_getElem? (i := 60) rfl)) rfl⟩
    | 52, _ => ⟨1700485571, va_eqv (v := .int 1700485571) (hf _ (List.mem_of_getElem? (i := 61) rfl)) rfl⟩
    | 53, _ => ⟨(-1894986606), va_eqv (v := .int (-1894986606)) (hf _ (List.mem_of_getElem? (i := 62) rfl)) rfl⟩
    | 54, _ => ⟨(-1051523), va_eqv (v := .int (-1051523)) (hf _ (List.mem_of_getElem? (i := 63) rfl)) rfl⟩
    | 55, _ => ⟨(-2054922799), va_eqv (v := .int (-2054922799)) (hf _ (List.mem_of_getElem? (i := 64) rfl)) rfl⟩
    | 56, _ => ⟨1873313359, va_eqv (v := .int 1873313359) (hf _ (List.mem_of_getElem? (i := 65) rfl)) rfl⟩
    | 57, _ => ⟨(-30611744), va_eqv (v := .int (-30611744)) (hf _ (List.mem_of_getElem? (i := 66) rfl)) rfl⟩
    | 58, _ => ⟨(-1560198380), va_eqv (v := .int (-1560198380)) (hf _ (List.mem_of_getElem? (i := 67) rfl)) rfl⟩
    | 59, _ => ⟨1309151649, va_eqv (v := .int 1309151649) (hf _ (List.mem_of_getElem? (i := 68) rfl)) rfl⟩
    | 60, _ => ⟨(-145523070), va_eqv (v := .int (-145523070)) (hf _ (List.mem_of_getElem? (i := 69) rfl)) rfl⟩
    | 61, _ => ⟨(-1120210379), va_eqv (v := .int (-1120210379)) (hf _ (List.mem_of_getElem? (i := 70) rfl)) rfl⟩
    | 62, _ => ⟨718787259, va_eqv (v := .int 718787259) (hf _ (List.mem_of_getElem? (i := 71) rfl)) rfl⟩
    | 63, _ => ⟨(-343485551), va_eqv (v := .int (-343485551)) (hf _ (List.mem_of_getElem? (i := 72) rfl)) rfl⟩
    | (n9 + 64), h9 => absurd h9 (by omega)
  obtain ⟨t, ht, hT⟩ := va_Tof (N := 64) (f := fun j => .int (if hj : j < 64 then Classical.choose (key j hj) else 0)) (by decide) (hf _ (List.mem_of_getElem? (i := 7) rfl)) (va_eqv (v := .int 64) (hf _ (List.mem_of_getElem? (i := 8) rfl)) rfl) (fun j hj => by rw [dif_pos hj]; exact Classical.choose_spec (key j hj)) hA3
  exact ⟨t, fun j => if hj : j < 64 then Classical.choose (key j hj) else 0, ht, hT⟩
theorem ws_t {args : Array Value} {s : State} {A : Nat → Prop} (hgv : (Jvm.Cond.and given_1 narrow_1).before args s = true) (hA3 : ∀ a : Nat, a < s.heap.size → ¬ A a) : ∃ (t : Nat) (f : Nat → Int32), (Jvm.Term.static "DoorServer$Digests" "TURNS" "[I").eval args s none [] s = some (.ref t) ∧ va_T .int t 16 (fun j => .int (f j)) A s s.heap := by
  have hf := flat_of_before _ hgv
  have key : ∀ j : Nat, j < 16 → ∃ v : Int32, (Jvm.Term.elem (Jvm.Term.static "DoorServer$Digests" "TURNS" "[I") (Jvm.Term.int (Int32.ofNat j))).eval args s none [] s = some (.int v) := fun j hj => match j, hj with
    | 0, _ => ⟨7, va_eqv (v := .int 7) (hf _ (List.mem_of_getElem? (i := 76) rfl)) rfl⟩
    | 1, _ => ⟨12, va_eqv (v := .int 12) (hf _ (List.mem_of_getElem? (i := 77) rfl)) rfl⟩
    | 2, _ => ⟨17, va_eqv (v := .int 17) (hf _ (List.mem_of_getElem? (i := 78) rfl)) rfl⟩
    | 3, _ => ⟨22, va_eqv (v := .int 22) (hf _ (List.mem_of_getElem? (i := 79) rfl)) rfl⟩
    | 4, _ => ⟨5, va_eqv (v := .int 5) (hf _ (List.mem_of_getElem? (i := 80) rfl)) rfl⟩
    | 5, _ => ⟨9, va_eqv (v := .int 9) (hf _ (List.mem_of_getElem? (i := 81) rfl)) rfl⟩
    | 6, _ => ⟨14, va_eqv (v := .int 14) (hf _ (List.mem_of_getElem? (i := 82) rfl)) rfl⟩
    | 7, _ => ⟨20, va_eqv (v := .int 20) (hf _ (List.mem_of_getElem? (i := 83) rfl)) rfl⟩
    | 8, _ => ⟨4, va_eqv (v := .int 4) (hf _ (List.mem_of_getElem? (i := 84) rfl)) rfl⟩
    | 9, _ => ⟨11, va_eqv (v := .int 11) (hf _ (List.mem_of_getElem? (i := 85) rfl)) rfl⟩
    | 10, _ => ⟨16, va_eqv (v := .int 16) (hf _ (List.mem_of_getElem? (i := 86) rfl)) rfl⟩
    | 11, _ => ⟨23, va_eqv (v := .int 23) (hf _ (List.mem_of_getElem? (i := 87) rfl)) rfl⟩
    | 12, _ => ⟨6, va_eqv (v := .int 6) (hf _ (List.mem_of_getElem? (i := 88) rfl)) rfl⟩
    | 13, _ => ⟨10, va_eqv (v := .int 10) (hf _ (List.mem_of_getElem? (i := 89) rfl)) rfl⟩
    | 14, _ => ⟨15, va_eqv (v := .int 15) (hf _ (List.mem_of_getElem? (i := 90) rfl)) rfl⟩
    | 15, _ => ⟨21, va_eqv (v := .int 21) (hf _ (List.mem_of_getElem? (i := 91) rfl)) rfl⟩
    | (n9 + 16), h9 => absurd h9 (by omega)
  obtain ⟨t, ht, hT⟩ := va_Tof (N := 16) (f := fun j => .int (if hj : j < 16 then Classical.choose (key j hj) else 0)) (by decide) (hf _ (List.mem_of_getElem? (i := 74) rfl)) (va_eqv (v := .int 16) (hf _ (List.mem_of_getElem? (i := 75) rfl)) rfl) (fun j hj => by rw [dif_pos hj]; exact Classical.choose_spec (key j hj)) hA3
  exact ⟨t, fun j => if hj : j < 16 then Classical.choose (key j hj) else 0, ht, hT⟩
theorem ws_xm {b : Nat} {s : State} {A : Nat → Prop} (hts : ∀ w ∈ lw_tbl, w.before #[Value.ref b] s = true) (hgv : (Jvm.Cond.and given_1 narrow_1).before #[Value.ref b] s = true) (hA3 : ∀ a : Nat, a < s.heap.size → ¬ A a) : xm A s s.heap := by
  obtain ⟨tS, fS, h1, h2⟩ := ws_s hgv hA3
  obtain ⟨tT, fT, h3, h4⟩ := ws_t hgv hA3
  have hi := hts _ (List.mem_filter.mp k_5).1
  exact ⟨tS, tT, fS, fT, va_Zof (hts _ (List.mem_append_right _ (tb_3 (List.mem_of_getElem? (i := 122) rfl)) : (Jvm.Cond.laysStatic "DoorServer$Digests" "SINES" "[I") ∈ lw_tbl)) hi h1 hA3, h2, va_Zof (hts _ (List.mem_append_right _ (tb_3 (List.mem_of_getElem? (i := 124) rfl)) : (Jvm.Cond.laysStatic "DoorServer$Digests" "TURNS" "[I") ∈ lw_tbl)) hi h3 hA3, h4⟩
theorem ws_xz {b : Nat} {s : State} {A : Nat → Prop} (hts : ∀ w ∈ lw_tbl, w.before #[Value.ref b] s = true) (hgv : (Jvm.Cond.and given_1 narrow_1).before #[Value.ref b] s = true) (hA3 : ∀ a : Nat, a < s.heap.size → ¬ A a) : xz_T A s s.heap := by
  have hf := flat_of_before _ hgv
  exact ⟨⟨va_Nw.of rfl (hts _ (List.mem_append_right _ (tb_2 (List.mem_of_getElem? (i := 155) rfl)) : (Jvm.Cond.castable "java/lang/IllegalArgumentException" "java/lang/IllegalArgumentException") ∈ lw_tbl)), va_Nw.of rfl (hts _ (List.mem_append_right _ (tb_2 (List.mem_of_getElem? (i := 156) rfl)) : (Jvm.Cond.declares y_Re_init) ∈ lw_tbl)), va_Nw.of rfl (hts _ (List.mem_append_right _ (tb_2 (List.mem_of_getElem? (i := 158) rfl)) : (Jvm.Cond.declares y_Ex_init) ∈ lw_tbl)), va_Nw.of rfl (hts _ (List.mem_append_right _ (tb_2 (List.mem_of_getElem? (i := 160) rfl)) : (Jvm.Cond.declares y_Th_init) ∈ lw_tbl)), va_Nw.of rfl (hts _ (List.mem_append_right _ (tb_2 (List.mem_of_getElem? (i := 187) rfl)) : (Jvm.Cond.codeSync y_Th_fillInStackTrace2 prog_21_method_18_code (1 : Nat) (Option.some (Jvm.ClassFile.FieldType.object "java/lang/Throwable"))) ∈ lw_tbl))⟩, xz_St.of (hts _ (List.mem_append_right _ (tb_2 (List.mem_of_getElem? (i := 180) rfl)) : (Jvm.Cond.laysStatic "java/lang/Throwable" "UNASSIGNED_STACK" "[Ljava/lang/StackTraceElement;") ∈ lw_tbl)) (hf _ (List.mem_of_getElem? (i := 4) rfl)) hA3, xz_St.of (hts _ (List.mem_append_right _ (tb_2 (List.mem_of_getElem? (i := 182) rfl)) : (Jvm.Cond.laysStatic "java/lang/Throwable" "SUPPRESSED_SENTINEL" "Ljava/util/List;") ∈ lw_tbl)) (hf _ (List.mem_of_getElem? (i := 5) rfl)) hA3⟩
set_option maxHeartbeats 4000000 in
set_option maxRecDepth 100000 in
theorem whole_start {p : Program} {e : Env} {s : State} {m : MethodId} {below : List Frame} {meth : Method} {c : Code} (l : Launch) (hfl : l.flags = pinnedFlags ++ [noTraceFlag]) {b L : Nat} {xs : Nat → Int32} (hL : L ≤ 5) (C0 : lw_At p s m meth c b L xs) : W p l e room_1 s m #[Value.ref b] below meth c s.heap [] 0 0 (lw_Z below #[Value.ref b] s) (entryFrame m ([Value.ref b] : List Value).toArray 8) := by
  obtain ⟨hx, hb, hr, hml, hown, hts, hX, hbl, hlocks, hgv⟩ := C0
  have hown : s.vm.findClass "DoorServerLaw" = some m.cls := hown
  have hg : ∀ w ∈ BIG, w.before #[Value.ref b] s = true := fun w h => hts w (List.mem_filter.mp h).1
  have hE := ws_nw hts
  obtain ⟨A, hAq⟩ : ∃ A : Nat → Prop, A = fun q => s.heap.size ≤ q := ⟨_, rfl⟩
  have hA : ∀ q : Nat, s.heap.size ≤ q → A q := by rw [hAq]; exact fun _ h => h
  have hA2 : ∀ q : Nat, A q → s.heap.size ≤ q := by rw [hAq]; exact fun _ h => h
  have hA3 : ∀ a : Nat, a < s.heap.size → ¬ A a := fun a h h2 => absurd (hA2 a h2) (by omega)
  have hbA : ¬ A b := hA3 b hbl
  have hXm : xm A s s.heap := ws_xm hts hgv hA3
  have hXz : xz_T A s s.heap := ws_xz hts hgv hA3
  obtain ⟨dC, dI, hcl⟩ := ws_cl hg
  obtain ⟨cT, har⟩ := ws_ar hg hE.ao2 hE.ao3 hE.ao4 hE.ao5
  have hK : va_K (dC, dI) vcl (tyL cT) s := ⟨hcl, har⟩
  obtain ⟨st, hst, hst1⟩ : ∃ st : Nat, st < 4 ∧ (¬ xs 1 < 0 → ¬ 3 < xs 1 → xs 1 = nI st) := by
    by_cases h : ¬ xs 1 < 0 ∧ ¬ 3 < xs 1
    · obtain ⟨k, hk, he⟩ := rng_0 (M := 3) (n := 3) (by decide) h.1 h.2
      exact ⟨k, by omega, fun _ _ => he⟩
    · exact ⟨0, by decide, fun a b => absurd ⟨a, b⟩ h⟩
  obtain ⟨us, hus, hus1⟩ : ∃ us : Nat, us < 32 ∧ (¬ xs 1 < 0 → ¬ 31 < xs 1 → xs 1 = nI us) := by
    by_cases h : ¬ xs 1 < 0 ∧ ¬ 31 < xs 1
    · obtain ⟨k, hk, he⟩ := rng_0 (M := 31) (n := 31) (by decide) h.1 h.2
      exact ⟨k, by omega, fun _ _ => he⟩
    · exact ⟨0, by decide, fun a b => absurd ⟨a, b⟩ h⟩
  have hP : va_P (dC, dI) vcl [] s.heap := fun k q h => by simp at h
  have hD : va_D A [] := ⟨fun i j p q h => by simp at h, fun k q h => by simp at h⟩
  have hS : va_S A s.heap s.heap [] := va_S.rf
  have hl := lv_entry ([.ref b]) (n := 8) (Nat.le_of_ble_eq_true rfl)
  rw [lg_entry_eq]
  generalize (lg_sl ([.ref b]) ++ List.replicate (8 - (lg_sl ([.ref b])).length) Slot.unset).toArray = ls at hl ⊢
  have hl : lv_has ls 8 [(0, .ref b)] := hl
  refine va_new (ci := 0) (fs := [.null, .null]) (C := R_DS) (T := F_DS) (N := 2) hx hb hg in_DS t_DS tok_DS hown (hg _ k_22) (hg _ k_23) (hg _ k_1) hK hP hD hS hA rfl (fun j hj => match j, hj with | 0, _ => rfl | 1, _ => rfl | (n9 + 2), h9 => absurd h9 (by omega)) (Nat.le_of_ble_eq_true rfl) (Nat.le_of_ble_eq_true rfl) d_Lw_law_0 (fun q1 H hP hD hS => ?_)
  have hP : va_P (dC, dI) vcl [(q1, .inr (0, [.null, .null]))] H := hP
  have hD : va_D A [(q1, .inr (0, [.null, .null]))] := hD
  refine lv_dup hx hb d_Lw_law_3 rfl ?_
  have hPc := hP.sub (ws' := [(q1, .inr (0, [.null, .null]))]) [0] rfl
  have hDc := hD.sub (ws' := [(q1, .inr (0, [.null, .null]))]) [0] (by decide) rfl
  have hFc := va_free (wc := [(q1, .inr (0, [.null, .null]))]) hD hS hA [0] rfl
  refine va_callv (va_runI (As := []) (rest := [.ref q1]) ⟨hx, hb, hml, hown, hg⟩ (n_Ds l dC dI cT H.size q1 st us (hst) (hus)) (cwI 0 hg (gI (List.forall_mem_cons.mpr ⟨k_26, fun _ h => h⟩)) rfl rfl rfl (hg _ k_1) (hg _ k_24) (hg _ k_25) rfl (by decide +kernel) ⟨Nat.le_of_ble_eq_true rfl, Nat.le_of_ble_eq_true rfl⟩) ⟨fun a U g mk q => by obtain ⟨q0, q1, qP, qK, qD, qE⟩ := q; exact ⟨q0, q1, qP, va_K.moved (u := U) (U := U.calling g mk a) (Vm.Alike.refl U.vm) qK, qD, qE.at (State.WarmedH.refl _)⟩, fun U hU hW => ⟨rfl, by rw [hU], by rw [hU]; exact hPc, va_K.moved hW.alike hK, hDc.weaken (fun _ _ _ _ => trivial), by rw [hU]; exact hE.at hW⟩⟩ rfl rfl hl.1 rfl (lv_room (Nat.le_of_ble_eq_true rfl)) d_Lw_law_4 ⟨Nat.le_of_ble_eq_true rfl, Nat.le_of_ble_eq_true rfl⟩) hS (fun q _ h => hFc q h) hFc (fun u t H1 locs ht hvm hw hB hz1 hk1 hS => ?_)
  obtain ⟨dr_2, sv_3, rr_4, f_5, se_6, pw_7, g0_8, ty_9, an_10, aw_11, ts_12, ss_13, rq_14, gs_15, gp_16, sh_17, sr_18, fs_19, uh_20, ur_21, tx_22, tr_23, wo_24, di_25, ar_26, a1_27, t1_28, s1_29, sa_30⟩ := u
  try dsimp only at hw hB
  obtain ⟨hP1, hK1, hD1⟩ := hB
  rw [ht] at hP1
  obtain ⟨hP, hD⟩ := va_join (wr := []) (w1 := [(q1, .inr (0, [.ref dr_2, .ref sv_3])), (dr_2, .inr (2, [.ref rr_4, .int (nI 20)])), (rr_4, .inl ((cT 0), 1000, .inl f_5)), (sv_3, .inr (5, [.ref se_6, .ref pw_7, .ref g0_8, .ref ty_9, .ref an_10, .ref aw_11, .ref ts_12, .ref ss_13, .ref rq_14, .int 0, .int 0, .int 0])), (se_6, .inl ((cT 2), 4, .inr (.inr (.inr (.inr gs_15))))), (sh_17, .inr (1, [.ref sr_18, .int (nI 1)])), (sr_18, .inl ((cT 0), 40, .inl fs_19)), (pw_7, .inl ((cT 2), 32, .inr (.inr (.inr (.inr gp_16))))), (uh_20, .inr (1, [.ref ur_21, .int 0])), (ur_21, .inl ((cT 0), 60, .inl (fun _ => 0))), (g0_8, .inr (3, [.ref tx_22, .ref wo_24, .ref di_25, .int 0, .int 0, .int 0, .int 0])), (tx_22, .inr (1, [.ref tr_23, .int 0])), (tr_23, .inl ((cT 0), 1192, .inl (fun _ => 0))), (wo_24, .inl ((cT 0), 16, .inl (fun _ => 0))), (di_25, .inl ((cT 0), 16, .inl (fun _ => 0))), (an_10, .inr (2, [.ref ar_26, .int 0])), (ar_26, .inl ((cT 0), 72, .inl (fun _ => 0))), (aw_11, .inr (6, [.ref a1_27, .int 0, .int 0])), (ts_12, .inr (9, [.ref t1_28, .long 0, .long 1, .int 0])), (ss_13, .inr (11, [.ref s1_29, .int 0])), (rq_14, .inr (4, [.ref dr_2, .ref sa_30])), (sa_30, .inl ((cT 0), 256, .inl (fun _ => 0)))]) hP hD [0] [] rfl rfl (by decide) (by decide) hk1 hFc hP1 hD1
  have hw31 := hw
  clear hPc hDc hFc hz1 hk1 hP1 hK1 hD1
  generalize H1 = H at hP hS ⊢
  have hP : va_P (dC, dI) vcl [(q1, .inr (0, [.ref dr_2, .ref sv_3])), (dr_2, .inr (2, [.ref rr_4, .int (nI 20)])), (rr_4, .inl ((cT 0), 1000, .inl f_5)), (sv_3, .inr (5, [.ref se_6, .ref pw_7, .ref g0_8, .ref ty_9, .ref an_10, .ref aw_11, .ref ts_12, .ref ss_13, .ref rq_14, .int 0, .int 0, .int 0])), (se_6, .inl ((cT 2), 4, .inr (.inr (.inr (.inr gs_15))))), (sh_17, .inr (1, [.ref sr_18, .int (nI 1)])), (sr_18, .inl ((cT 0), 40, .inl fs_19)), (pw_7, .inl ((cT 2), 32, .inr (.inr (.inr (.inr gp_16))))), (uh_20, .inr (1, [.ref ur_21, .int 0])), (ur_21, .inl ((cT 0), 60, .inl (fun _ => 0))), (g0_8, .inr (3, [.ref tx_22, .ref wo_24, .ref di_25, .int 0, .int 0, .int 0, .int 0])), (tx_22, .inr (1, [.ref tr_23, .int 0])), (tr_23, .inl ((cT 0), 1192, .inl (fun _ => 0))), (wo_24, .inl ((cT 0), 16, .inl (fun _ => 0))), (di_25, .inl ((cT 0), 16, .inl (fun _ => 0))), (an_10, .inr (2, [.ref ar_26, .int 0])), (ar_26, .inl ((cT 0), 72, .inl (fun _ => 0))), (aw_11, .inr (6, [.ref a1_27, .int 0, .int 0])), (ts_12, .inr (9, [.ref t1_28, .long 0, .long 1, .int 0])), (ss_13, .inr (11, [.ref s1_29, .int 0])), (rq_14, .inr (4, [.ref dr_2, .ref sa_30])), (sa_30, .inl ((cT 0), 256, .inl (fun _ => 0)))] H := hP
  have hD : va_D A [(q1, .inr (0, [.ref dr_2, .ref sv_3])), (dr_2, .inr (2, [.ref rr_4, .int (nI 20)])), (rr_4, .inl ((cT 0), 1000, .inl f_5)), (sv_3, .inr (5, [.ref se_6, .ref pw_7, .ref g0_8, .ref ty_9, .ref an_10, .ref aw_11, .ref ts_12, .ref ss_13, .ref rq_14, .int 0, .int 0, .int 0])), (se_6, .inl ((cT 2), 4, .inr (.inr (.inr (.inr gs_15))))), (sh_17, .inr (1, [.ref sr_18, .int (nI 1)])), (sr_18, .inl ((cT 0), 40, .inl fs_19)), (pw_7, .inl ((cT 2), 32, .inr (.inr (.inr (.inr gp_16))))), (uh_20, .inr (1, [.ref ur_21, .int 0])), (ur_21, .inl ((cT 0), 60, .inl (fun _ => 0))), (g0_8, .inr (3, [.ref tx_22, .ref wo_24, .ref di_25, .int 0, .int 0, .int 0, .int 0])), (tx_22, .inr (1, [.ref tr_23, .int 0])), (tr_23, .inl ((cT 0), 1192, .inl (fun _ => 0))), (wo_24, .inl ((cT 0), 16, .inl (fun _ => 0))), (di_25, .inl ((cT 0), 16, .inl (fun _ => 0))), (an_10, .inr (2, [.ref ar_26, .int 0])), (ar_26, .inl ((cT 0), 72, .inl (fun _ => 0))), (aw_11, .inr (6, [.ref a1_27, .int 0, .int 0])), (ts_12, .inr (9, [.ref t1_28, .long 0, .long 1, .int 0])), (ss_13, .inr (11, [.ref s1_29, .int 0])), (rq_14, .inr (4, [.ref dr_2, .ref sa_30])), (sa_30, .inl ((cT 0), 256, .inl (fun _ => 0)))] := hD
  refine lv_astore_n (lv' := [(1, .ref q1), (0, .ref b)]) hx hb d_Lw_law_7 rfl hl (by decide) rfl (fun ls hl => ?_)
  refine va_new (ci := 12) (fs := [.null, .int 0, .int 0, .null, .null, .null, .null, .null, .int 0, .null, .int 0, .null, .null, .null, .int 0, .null, .int 0, .int 0, .null, .null, .null, .null, .null, .null, .int 0, .null, .null, .null, .null, .null, .null, .long 0, .long 0, .int 0, .null, .null, .null, .null, .null, .null, .null, .null, .null, .int 0, .int 0]) (C := R_Md) (T := F_Md) (N := 45) hx hb hg in_Md t_Md tok_Md hown (hg _ k_941) (hg _ k_942) (hg _ k_13) hK hP hD hS hA rfl (fun j hj => match j, hj with | 0, _ => rfl | 1, _ => rfl | 2, _ => rfl | 3, _ => rfl | 4, _ => rfl | 5, _ => rfl | 6, _ => rfl | 7, _ => rfl | 8, _ => rfl | 9, _ => rfl | 10, _ => rfl | 11, _ => rfl | 12, _ => rfl | 13, _ => rfl | 14, _ => rfl | 15, _ => rfl | 16, _ => rfl | 17, _ => rfl | 18, _ => rfl | 19, _ => rfl | 20, _ => rfl | 21, _ => rfl | 22, _ => rfl | 23, _ => rfl | 24, _ => rfl | 25, _ => rfl | 26, _ => rfl | 27, _ => rfl | 28, _ => rfl | 29, _ => rfl | 30, _ => rfl | 31, _ => rfl | 32, _ => rfl | 33, _ => rfl | 34, _ => rfl | 35, _ => rfl | 36, _ => rfl | 37, _ => rfl | 38, _ => rfl | 39, _ => rfl | 40, _ => rfl | 41, _ => rfl | 42, _ => rfl | 43, _ => rfl | 44, _ => rfl | (n9 + 45), h9 => absurd h9 (by omega)) (Nat.le_of_ble_eq_true rfl) (Nat.le_of_ble_eq_true rfl) d_Lw_law_8 (fun q32 H hP hD hS => ?_)
  have hP : va_P (dC, dI) vcl [(q1, .inr (0, [.ref dr_2, .ref sv_3])), (dr_2, .inr (2, [.ref rr_4, .int (nI 20)])), (rr_4, .inl ((cT 0), 1000, .inl f_5)), (sv_3, .inr (5, [.ref se_6, .ref pw_7, .ref g0_8, .ref ty_9, .ref an_10, .ref aw_11, .ref ts_12, .ref ss_13, .ref rq_14, .int 0, .int 0, .int 0])), (se_6, .inl ((cT 2), 4, .inr (.inr (.inr (.inr gs_15))))), (sh_17, .inr (1, [.ref sr_18, .int (nI 1)])), (sr_18, .inl ((cT 0), 40, .inl fs_19)), (pw_7, .inl ((cT 2), 32, .inr (.inr (.inr (.inr gp_16))))), (uh_20, .inr (1, [.ref ur_21, .int 0])), (ur_21, .inl ((cT 0), 60, .inl (fun _ => 0))), (g0_8, .inr (3, [.ref tx_22, .ref wo_24, .ref di_25, .int 0, .int 0, .int 0, .int 0])), (tx_22, .inr (1, [.ref tr_23, .int 0])), (tr_23, .inl ((cT 0), 1192, .inl (fun _ => 0))), (wo_24, .inl ((cT 0), 16, .inl (fun _ => 0))), (di_25, .inl ((cT 0), 16, .inl (fun _ => 0))), (an_10, .inr (2, [.ref ar_26, .int 0])), (ar_26, .inl ((cT 0), 72, .inl (fun _ => 0))), (aw_11, .inr (6, [.ref a1_27, .int 0, .int 0])), (ts_12, .inr (9, [.ref t1_28, .long 0, .long 1, .int 0])), (ss_13, .inr (11, [.ref s1_29, .int 0])), (rq_14, .inr (4, [.ref dr_2, .ref sa_30])), (sa_30, .inl ((cT 0), 256, .inl (fun _ => 0))), (q32, .inr (12, [.null, .int 0, .int 0, .null, .null, .null, .null, .null, .int 0, .null, .int 0, .null, .null, .null, .int 0, .null, .int 0, .int 0, .null, .null, .null, .null, .null, .null, .int 0, .null, .null, .null, .null, .null, .null, .long 0, .long 0, .int 0, .null, .null, .null, .null, .null, .null, .null, .null, .null, .int 0, .int 0]))] H := hP
  have hD : va_D A [(q1, .inr (0, [.ref dr_2, .ref sv_3])), (dr_2, .inr (2, [.ref rr_4, .int (nI 20)])), (rr_4, .inl ((cT 0), 1000, .inl f_5)), (sv_3, .inr (5, [.ref se_6, .ref pw_7, .ref g0_8, .ref ty_9, .ref an_10, .ref aw_11, .ref ts_12, .ref ss_13, .ref rq_14, .int 0, .int 0, .int 0])), (se_6, .inl ((cT 2), 4, .inr (.inr (.inr (.inr gs_15))))), (sh_17, .inr (1, [.ref sr_18, .int (nI 1)])), (sr_18, .inl ((cT 0), 40, .inl fs_19)), (pw_7, .inl ((cT 2), 32, .inr (.inr (.inr (.inr gp_16))))), (uh_20, .inr (1, [.ref ur_21, .int 0])), (ur_21, .inl ((cT 0), 60, .inl (fun _ => 0))), (g0_8, .inr (3, [.ref tx_22, .ref wo_24, .ref di_25, .int 0, .int 0, .int 0, .int 0])), (tx_22, .inr (1, [.ref tr_23, .int 0])), (tr_23, .inl ((cT 0), 1192, .inl (fun _ => 0))), (wo_24, .inl ((cT 0), 16, .inl (fun _ => 0))), (di_25, .inl ((cT 0), 16, .inl (fun _ => 0))), (an_10, .inr (2, [.ref ar_26, .int 0])), (ar_26, .inl ((cT 0), 72, .inl (fun _ => 0))), (aw_11, .inr (6, [.ref a1_27, .int 0, .int 0])), (ts_12, .inr (9, [.ref t1_28, .long 0, .long 1, .int 0])), (ss_13, .inr (11, [.ref s1_29, .int 0])), (rq_14, .inr (4, [.ref dr_2, .ref sa_30])), (sa_30, .inl ((cT 0), 256, .inl (fun _ => 0))), (q32, .inr (12, [.null, .int 0, .int 0, .null, .null, .null, .null, .null, .int 0, .null, .int 0, .null, .null, .null, .int 0, .null, .int 0, .int 0, .null, .null, .null, .null, .null, .null, .int 0, .null, .null, .null, .null, .null, .null, .long 0, .long 0, .int 0, .null, .null, .null, .null, .null, .null, .null, .null, .null, .int 0, .int 0]))] := hD
  refine lv_dup hx hb d_Lw_law_11 rfl ?_
  have hPc := hP.sub (ws' := [(q32, .inr (12, [.null, .int 0, .int 0, .null, .null, .null, .null, .null, .int 0, .null, .int 0, .null, .null, .null, .int 0, .null, .int 0, .int 0, .null, .null, .null, .null, .null, .null, .int 0, .null, .null, .null, .null, .null, .null, .long 0, .long 0, .int 0, .null, .null, .null, .null, .null, .null, .null, .null, .null, .int 0, .int 0]))]) [22] rfl
  have hDc := hD.sub (ws' := [(q32, .inr (12, [.null, .int 0, .int 0, .null, .null, .null, .null, .null, .int 0, .null, .int 0, .null, .null, .null, .int 0, .null, .int 0, .int 0, .null, .null, .null, .null, .null, .null, .int 0, .null, .null, .null, .null, .null, .null, .long 0, .long 0, .int 0, .null, .null, .null, .null, .null, .null, .null, .null, .null, .int 0, .int 0]))]) [22] (by decide) rfl
  have hFc := va_free (wc := [(q32, .inr (12, [.null, .int 0, .int 0, .null, .null, .null, .null, .null, .int 0, .null, .int 0, .null, .null, .null, .int 0, .null, .int 0, .int 0, .null, .null, .null, .null, .null, .null, .int 0, .null, .null, .null, .null, .null, .null, .long 0, .long 0, .int 0, .null, .null, .null, .null, .null, .null, .null, .null, .null, .int 0, .int 0]))]) hD hS hA [22] rfl
  refine va_callv (va_runI (As := []) (rest := [.ref q32]) ⟨hx, hb, hml, hown, hg⟩ (n_Md l dC dI cT H.size q32 ) (cwI 0 hg (gI (List.forall_mem_cons.mpr ⟨k_945, fun _ h => h⟩)) rfl rfl rfl (hg _ k_13) (hg _ k_943) (hg _ k_944) rfl (by decide +kernel) ⟨Nat.le_of_ble_eq_true rfl, Nat.le_of_ble_eq_true rfl⟩) ⟨fun a U g mk q => by obtain ⟨q0, q1, qP, qK, qD⟩ := q; exact ⟨q0, q1, qP, va_K.moved (u := U) (U := U.calling g mk a) (Vm.Alike.refl U.vm) qK, qD⟩, fun U hU hW => ⟨rfl, by rw [hU], by rw [hU]; exact hPc, va_K.moved hW.alike hK, hDc.weaken (fun _ _ _ _ => trivial)⟩⟩ rfl rfl hl.1 rfl (lv_room (Nat.le_of_ble_eq_true rfl)) d_Lw_law_12 ⟨Nat.le_of_ble_eq_true rfl, Nat.le_of_ble_eq_true rfl⟩) hS (fun q _ h => hFc q h) hFc (fun u t H1 locs ht hvm hw hB hz1 hk1 hS => ?_)
  obtain ⟨r_33, fs_34, fc_35, fz_36, f_37⟩ := u
  try dsimp only at hw hB
  obtain ⟨hP1, hK1, hD1⟩ := hB
  rw [ht] at hP1
  obtain ⟨hP, hD⟩ := va_join (wr := [(q1, .inr (0, [.ref dr_2, .ref sv_3])), (dr_2, .inr (2, [.ref rr_4, .int (nI 20)])), (rr_4, .inl ((cT 0), 1000, .inl f_5)), (sv_3, .inr (5, [.ref se_6, .ref pw_7, .ref g0_8, .ref ty_9, .ref an_10, .ref aw_11, .ref ts_12, .ref ss_13, .ref rq_14, .int 0, .int 0, .int 0])), (se_6, .inl ((cT 2), 4, .inr (.inr (.inr (.inr gs_15))))), (sh_17, .inr (1, [.ref sr_18, .int (nI 1)])), (sr_18, .inl ((cT 0), 40, .inl fs_19)), (pw_7, .inl ((cT 2), 32, .inr (.inr (.inr (.inr gp_16))))), (uh_20, .inr (1, [.ref ur_21, .int 0])), (ur_21, .inl ((cT 0), 60, .inl (fun _ => 0))), (g0_8, .inr (3, [.ref tx_22, .ref wo_24, .ref di_25, .int 0, .int 0, .int 0, .int 0])), (tx_22, .inr (1, [.ref tr_23, .int 0])), (tr_23, .inl ((cT 0), 1192, .inl (fun _ => 0))), (wo_24, .inl ((cT 0), 16, .inl (fun _ => 0))), (di_25, .inl ((cT 0), 16, .inl (fun _ => 0))), (an_10, .inr (2, [.ref ar_26, .int 0])), (ar_26, .inl ((cT 0), 72, .inl (fun _ => 0))), (aw_11, .inr (6, [.ref a1_27, .int 0, .int 0])), (ts_12, .inr (9, [.ref t1_28, .long 0, .long 1, .int 0])), (ss_13, .inr (11, [.ref s1_29, .int 0])), (rq_14, .inr (4, [.ref dr_2, .ref sa_30])), (sa_30, .inl ((cT 0), 256, .inl (fun _ => 0)))]) (w1 := [(q32, .inr (12, mdF r_33 (fun _ => 0) (fun k => match k with | 32 => 1 | _ => 0) 0 0 (nI 20) (nI 0))), (r_33 0, .inl ((cT 1), 64, .inr (.inl fs_34))), (r_33 3, .inl ((cT 0), 160, .inl fc_35)), (r_33 4, .inl ((cT 0), 4, .inl fz_36)), (r_33 5, .inl ((cT 0), 1920, .inl (fun _ => 0))), (r_33 6, .inl ((cT 0), 32, .inl (fun _ => 0))), (r_33 7, .inl ((cT 0), 1000, .inl f_37)), (r_33 9, .inl ((cT 0), 1400, .inl (fun _ => 0))), (r_33 11, .inl ((cT 0), 16, .inl (fun _ => 0))), (r_33 12, .inl ((cT 0), 1200, .inl (fun _ => 0)))]) hP hD [22] [0, 1, 2, 3, 4, 5, 6, 7, 8, 9, 10, 11, 12, 13, 14, 15, 16, 17, 18, 19, 20, 21] rfl rfl (by decide) (by decide) hk1 hFc hP1 hD1
  have hw38 := hw
  clear hPc hDc hFc hz1 hk1 hP1 hK1 hD1
  generalize H1 = H at hP hS ⊢
  have hP : va_P (dC, dI) vcl [(q1, .inr (0, [.ref dr_2, .ref sv_3])), (dr_2, .inr (2, [.ref rr_4, .int (nI 20)])), (rr_4, .inl ((cT 0), 1000, .inl f_5)), (sv_3, .inr (5, [.ref se_6, .ref pw_7, .ref g0_8, .ref ty_9, .ref an_10, .ref aw_11, .ref ts_12, .ref ss_13, .ref rq_14, .int 0, .int 0, .int 0])), (se_6, .inl ((cT 2), 4, .inr (.inr (.inr (.inr gs_15))))), (sh_17, .inr (1, [.ref sr_18, .int (nI 1)])), (sr_18, .inl ((cT 0), 40, .inl fs_19)), (pw_7, .inl ((cT 2), 32, .inr (.inr (.inr (.inr gp_16))))), (uh_20, .inr (1, [.ref ur_21, .int 0])), (ur_21, .inl ((cT 0), 60, .inl (fun _ => 0))), (g0_8, .inr (3, [.ref tx_22, .ref wo_24, .ref di_25, .int 0, .int 0, .int 0, .int 0])), (tx_22, .inr (1, [.ref tr_23, .int 0])), (tr_23, .inl ((cT 0), 1192, .inl (fun _ => 0))), (wo_24, .inl ((cT 0), 16, .inl (fun _ => 0))), (di_25, .inl ((cT 0), 16, .inl (fun _ => 0))), (an_10, .inr (2, [.ref ar_26, .int 0])), (ar_26, .inl ((cT 0), 72, .inl (fun _ => 0))), (aw_11, .inr (6, [.ref a1_27, .int 0, .int 0])), (ts_12, .inr (9, [.ref t1_28, .long 0, .long 1, .int 0])), (ss_13, .inr (11, [.ref s1_29, .int 0])), (rq_14, .inr (4, [.ref dr_2, .ref sa_30])), (sa_30, .inl ((cT 0), 256, .inl (fun _ => 0))), (q32, .inr (12, mdF r_33 (fun _ => 0) (fun k => match k with | 32 => 1 | _ => 0) 0 0 (nI 20) (nI 0))), (r_33 0, .inl ((cT 1), 64, .inr (.inl fs_34))), (r_33 3, .inl ((cT 0), 160, .inl fc_35)), (r_33 4, .inl ((cT 0), 4, .inl fz_36)), (r_33 5, .inl ((cT 0), 1920, .inl (fun _ => 0))), (r_33 6, .inl ((cT 0), 32, .inl (fun _ => 0))), (r_33 7, .inl ((cT 0), 1000, .inl f_37)), (r_33 9, .inl ((cT 0), 1400, .inl (fun _ => 0))), (r_33 11, .inl ((cT 0), 16, .inl (fun _ => 0))), (r_33 12, .inl ((cT 0), 1200, .inl (fun _ => 0)))] H := hP
  have hD : va_D A [(q1, .inr (0, [.ref dr_2, .ref sv_3])), (dr_2, .inr (2, [.ref rr_4, .int (nI 20)])), (rr_4, .inl ((cT 0), 1000, .inl f_5)), (sv_3, .inr (5, [.ref se_6, .ref pw_7, .ref g0_8, .ref ty_9, .ref an_10, .ref aw_11, .ref ts_12, .ref ss_13, .ref rq_14, .int 0, .int 0, .int 0])), (se_6, .inl ((cT 2), 4, .inr (.inr (.inr (.inr gs_15))))), (sh_17, .inr (1, [.ref sr_18, .int (nI 1)])), (sr_18, .inl ((cT 0), 40, .inl fs_19)), (pw_7, .inl ((cT 2), 32, .inr (.inr (.inr (.inr gp_16))))), (uh_20, .inr (1, [.ref ur_21, .int 0])), (ur_21, .inl ((cT 0), 60, .inl (fun _ => 0))), (g0_8, .inr (3, [.ref tx_22, .ref wo_24, .ref di_25, .int 0, .int 0, .int 0, .int 0])), (tx_22, .inr (1, [.ref tr_23, .int 0])), (tr_23, .inl ((cT 0), 1192, .inl (fun _ => 0))), (wo_24, .inl ((cT 0), 16, .inl (fun _ => 0))), (di_25, .inl ((cT 0), 16, .inl (fun _ => 0))), (an_10, .inr (2, [.ref ar_26, .int 0])), (ar_26, .inl ((cT 0), 72, .inl (fun _ => 0))), (aw_11, .inr (6, [.ref a1_27, .int 0, .int 0])), (ts_12, .inr (9, [.ref t1_28, .long 0, .long 1, .int 0])), (ss_13, .inr (11, [.ref s1_29, .int 0])), (rq_14, .inr (4, [.ref dr_2, .ref sa_30])), (sa_30, .inl ((cT 0), 256, .inl (fun _ => 0))), (q32, .inr (12, mdF r_33 (fun _ => 0) (fun k => match k with | 32 => 1 | _ => 0) 0 0 (nI 20) (nI 0))), (r_33 0, .inl ((cT 1), 64, .inr (.inl fs_34))), (r_33 3, .inl ((cT 0), 160, .inl fc_35)), (r_33 4, .inl ((cT 0), 4, .inl fz_36)), (r_33 5, .inl ((cT 0), 1920, .inl (fun _ => 0))), (r_33 6, .inl ((cT 0), 32, .inl (fun _ => 0))), (r_33 7, .inl ((cT 0), 1000, .inl f_37)), (r_33 9, .inl ((cT 0), 1400, .inl (fun _ => 0))), (r_33 11, .inl ((cT 0), 16, .inl (fun _ => 0))), (r_33 12, .inl ((cT 0), 1200, .inl (fun _ => 0)))] := hD
  refine lv_astore_n (lv' := [(2, .ref q32), (1, .ref q1), (0, .ref b)]) hx hb d_Lw_law_15 rfl hl (by decide) rfl (fun ls hl => ?_)
  refine lv_iconst (v := 1) hx hb d_Lw_law_16 (by decide) ?_
  refine va_newa (atype := .long) (ty := .long) (n := 1) (N' := 1) (a0 := (1, .inr (.inl (fun _ => 0)))) hx hb (hg _ k_1156) rfl hK hP hD hS hA (fun _ => rfl) (by decide) (by decide) (by decide) (Nat.le_of_ble_eq_true rfl) (Nat.le_of_ble_eq_true rfl) d_Lw_law_17 (fun q39 cA9 H hK9 hP hD hS => ?_)
  obtain rfl := nk_long hK9
  clear hK9
  have hP : va_P (dC, dI) vcl [(q1, .inr (0, [.ref dr_2, .ref sv_3])), (dr_2, .inr (2, [.ref rr_4, .int (nI 20)])), (rr_4, .inl ((cT 0), 1000, .inl f_5)), (sv_3, .inr (5, [.ref se_6, .ref pw_7, .ref g0_8, .ref ty_9, .ref an_10, .ref aw_11, .ref ts_12, .ref ss_13, .ref rq_14, .int 0, .int 0, .int 0])), (se_6, .inl ((cT 2), 4, .inr (.inr (.inr (.inr gs_15))))), (sh_17, .inr (1, [.ref sr_18, .int (nI 1)])), (sr_18, .inl ((cT 0), 40, .inl fs_19)), (pw_7, .inl ((cT 2), 32, .inr (.inr (.inr (.inr gp_16))))), (uh_20, .inr (1, [.ref ur_21, .int 0])), (ur_21, .inl ((cT 0), 60, .inl (fun _ => 0))), (g0_8, .inr (3, [.ref tx_22, .ref wo_24, .ref di_25, .int 0, .int 0, .int 0, .int 0])), (tx_22, .inr (1, [.ref tr_23, .int 0])), (tr_23, .inl ((cT 0), 1192, .inl (fun _ => 0))), (wo_24, .inl ((cT 0), 16, .inl (fun _ => 0))), (di_25, .inl ((cT 0), 16, .inl (fun _ => 0))), (an_10, .inr (2, [.ref ar_26, .int 0])), (ar_26, .inl ((cT 0), 72, .inl (fun _ => 0))), (aw_11, .inr (6, [.ref a1_27, .int 0, .int 0])), (ts_12, .inr (9, [.ref t1_28, .long 0, .long 1, .int 0])), (ss_13, .inr (11, [.ref s1_29, .int 0])), (rq_14, .inr (4, [.ref dr_2, .ref sa_30])), (sa_30, .inl ((cT 0), 256, .inl (fun _ => 0))), (q32, .inr (12, mdF r_33 (fun _ => 0) (fun k => match k with | 32 => 1 | _ => 0) 0 0 (nI 20) (nI 0))), (r_33 0, .inl ((cT 1), 64, .inr (.inl fs_34))), (r_33 3, .inl ((cT 0), 160, .inl fc_35)), (r_33 4, .inl ((cT 0), 4, .inl fz_36)), (r_33 5, .inl ((cT 0), 1920, .inl (fun _ => 0))), (r_33 6, .inl ((cT 0), 32, .inl (fun _ => 0))), (r_33 7, .inl ((cT 0), 1000, .inl f_37)), (r_33 9, .inl ((cT 0), 1400, .inl (fun _ => 0))), (r_33 11, .inl ((cT 0), 16, .inl (fun _ => 0))), (r_33 12, .inl ((cT 0), 1200, .inl (fun _ => 0))), (q39, .inl ((cT 1), 1, .inr (.inl (fun _ => 0))))] H := hP
  have hD : va_D A [(q1, .inr (0, [.ref dr_2, .ref sv_3])), (dr_2, .inr (2, [.ref rr_4, .int (nI 20)])), (rr_4, .inl ((cT 0), 1000, .inl f_5)), (sv_3, .inr (5, [.ref se_6, .ref pw_7, .ref g0_8, .ref ty_9, .ref an_10, .ref aw_11, .ref ts_12, .ref ss_13, .ref rq_14, .int 0, .int 0, .int 0])), (se_6, .inl ((cT 2), 4, .inr (.inr (.inr (.inr gs_15))))), (sh_17, .inr (1, [.ref sr_18, .int (nI 1)])), (sr_18, .inl ((cT 0), 40, .inl fs_19)), (pw_7, .inl ((cT 2), 32, .inr (.inr (.inr (.inr gp_16))))), (uh_20, .inr (1, [.ref ur_21, .int 0])), (ur_21, .inl ((cT 0), 60, .inl (fun _ => 0))), (g0_8, .inr (3, [.ref tx_22, .ref wo_24, .ref di_25, .int 0, .int 0, .int 0, .int 0])), (tx_22, .inr (1, [.ref tr_23, .int 0])), (tr_23, .inl ((cT 0), 1192, .inl (fun _ => 0))), (wo_24, .inl ((cT 0), 16, .inl (fun _ => 0))), (di_25, .inl ((cT 0), 16, .inl (fun _ => 0))), (an_10, .inr (2, [.ref ar_26, .int 0])), (ar_26, .inl ((cT 0), 72, .inl (fun _ => 0))), (aw_11, .inr (6, [.ref a1_27, .int 0, .int 0])), (ts_12, .inr (9, [.ref t1_28, .long 0, .long 1, .int 0])), (ss_13, .inr (11, [.ref s1_29, .int 0])), (rq_14, .inr (4, [.ref dr_2, .ref sa_30])), (sa_30, .inl ((cT 0), 256, .inl (fun _ => 0))), (q32, .inr (12, mdF r_33 (fun _ => 0) (fun k => match k with | 32 => 1 | _ => 0) 0 0 (nI 20) (nI 0))), (r_33 0, .inl ((cT 1), 64, .inr (.inl fs_34))), (r_33 3, .inl ((cT 0), 160, .inl fc_35)), (r_33 4, .inl ((cT 0), 4, .inl fz_36)), (r_33 5, .inl ((cT 0), 1920, .inl (fun _ => 0))), (r_33 6, .inl ((cT 0), 32, .inl (fun _ => 0))), (r_33 7, .inl ((cT 0), 1000, .inl f_37)), (r_33 9, .inl ((cT 0), 1400, .inl (fun _ => 0))), (r_33 11, .inl ((cT 0), 16, .inl (fun _ => 0))), (r_33 12, .inl ((cT 0), 1200, .inl (fun _ => 0))), (q39, .inl ((cT 1), 1, .inr (.inl (fun _ => 0))))] := hD
  refine lv_astore_n (lv' := [(3, .ref q39), (2, .ref q32), (1, .ref q1), (0, .ref b)]) hx hb d_Lw_law_19 rfl hl (by decide) rfl (fun ls hl => ?_)
  refine lv_iconst (v := 0) hx hb d_Lw_law_20 (by decide) ?_
  refine lv_istore (lv' := [(4, .int 0), (3, .ref q39), (2, .ref q32), (1, .ref q1), (0, .ref b)]) hx hb d_Lw_law_21 hl (by decide) rfl (fun ls hl => ?_)
  refine W.widen (k := 800) (n := 32000) (Nat.le_of_ble_eq_true rfl) (Nat.le_of_ble_eq_true rfl) ?_
  have hl := lv_sub hl [4, 3, 2, 1, 0] (show _ = [(0, .ref b), (1, .ref q1), (2, .ref q32), (3, .ref q39), (4, .int 0)] from rfl)
  have hP : va_P (dC, dI) vcl [(q1, .inr (0, [.ref dr_2, .ref sv_3])), (dr_2, .inr (2, [.ref rr_4, .int (nI 20)])), (rr_4, .inl ((cT 0), 1000, .inl f_5)), (sv_3, .inr (5, [.ref se_6, .ref pw_7, .ref g0_8, .ref ty_9, .ref an_10, .ref aw_11, .ref ts_12, .ref ss_13, .ref rq_14, .int 0, .int 0, .int 0])), (se_6, .inl ((cT 2), 4, .inr (.inr (.inr (.inr gs_15))))), (sh_17, .inr (1, [.ref sr_18, .int (nI 1)])), (sr_18, .inl ((cT 0), 40, .inl fs_19)), (pw_7, .inl ((cT 2), 32, .inr (.inr (.inr (.inr gp_16))))), (uh_20, .inr (1, [.ref ur_21, .int 0])), (ur_21, .inl ((cT 0), 60, .inl (fun _ => 0))), (g0_8, .inr (3, [.ref tx_22, .ref wo_24, .ref di_25, .int 0, .int 0, .int 0, .int 0])), (tx_22, .inr (1, [.ref tr_23, .int (nI 0)])), (tr_23, .inl ((cT 0), 1192, .inl (fun _ => 0))), (wo_24, .inl ((cT 0), 16, .inl (fun _ => 0))), (di_25, .inl ((cT 0), 16, .inl (fun _ => 0))), (an_10, .inr (2, [.ref ar_26, .int 0])), (ar_26, .inl ((cT 0), 72, .inl (fun _ => 0))), (aw_11, .inr (6, [.ref a1_27, .int 0, .int 0])), (ts_12, .inr (9, [.ref t1_28, .long 0, .long 1, .int 0])), (ss_13, .inr (11, [.ref s1_29, .int 0])), (rq_14, .inr (4, [.ref dr_2, .ref sa_30])), (sa_30, .inl ((cT 0), 256, .inl (fun _ => 0))), (q32, .inr (12, mdF r_33 (fun _ => 0) (fun k => match k with | 32 => 1 | _ => 0) 0 0 (nI 20) (nI 0))), (r_33 0, .inl ((cT 1), 64, .inr (.inl fs_34))), (r_33 3, .inl ((cT 0), 160, .inl fc_35)), (r_33 4, .inl ((cT 0), 4, .inl fz_36)), (r_33 5, .inl ((cT 0), 1920, .inl (fun _ => 0))), (r_33 6, .inl ((cT 0), 32, .inl (fun _ => 0))), (r_33 7, .inl ((cT 0), 1000, .inl f_37)), (r_33 9, .inl ((cT 0), 1400, .inl (fun _ => 0))), (r_33 11, .inl ((cT 0), 16, .inl (fun _ => 0))), (r_33 12, .inl ((cT 0), 1200, .inl (fun _ => 0))), (q39, .inl ((cT 1), 1, .inr (.inl (fun _ => 0))))] H := hP
  have hD : va_D A [(q1, .inr (0, [.ref dr_2, .ref sv_3])), (dr_2, .inr (2, [.ref rr_4, .int (nI 20)])), (rr_4, .inl ((cT 0), 1000, .inl f_5)), (sv_3, .inr (5, [.ref se_6, .ref pw_7, .ref g0_8, .ref ty_9, .ref an_10, .ref aw_11, .ref ts_12, .ref ss_13, .ref rq_14, .int 0, .int 0, .int 0])), (se_6, .inl ((cT 2), 4, .inr (.inr (.inr (.inr gs_15))))), (sh_17, .inr (1, [.ref sr_18, .int (nI 1)])), (sr_18, .inl ((cT 0), 40, .inl fs_19)), (pw_7, .inl ((cT 2), 32, .inr (.inr (.inr (.inr gp_16))))), (uh_20, .inr (1, [.ref ur_21, .int 0])), (ur_21, .inl ((cT 0), 60, .inl (fun _ => 0))), (g0_8, .inr (3, [.ref tx_22, .ref wo_24, .ref di_25, .int 0, .int 0, .int 0, .int 0])), (tx_22, .inr (1, [.ref tr_23, .int (nI 0)])), (tr_23, .inl ((cT 0), 1192, .inl (fun _ => 0))), (wo_24, .inl ((cT 0), 16, .inl (fun _ => 0))), (di_25, .inl ((cT 0), 16, .inl (fun _ => 0))), (an_10, .inr (2, [.ref ar_26, .int 0])), (ar_26, .inl ((cT 0), 72, .inl (fun _ => 0))), (aw_11, .inr (6, [.ref a1_27, .int 0, .int 0])), (ts_12, .inr (9, [.ref t1_28, .long 0, .long 1, .int 0])), (ss_13, .inr (11, [.ref s1_29, .int 0])), (rq_14, .inr (4, [.ref dr_2, .ref sa_30])), (sa_30, .inl ((cT 0), 256, .inl (fun _ => 0))), (q32, .inr (12, mdF r_33 (fun _ => 0) (fun k => match k with | 32 => 1 | _ => 0) 0 0 (nI 20) (nI 0))), (r_33 0, .inl ((cT 1), 64, .inr (.inl fs_34))), (r_33 3, .inl ((cT 0), 160, .inl fc_35)), (r_33 4, .inl ((cT 0), 4, .inl fz_36)), (r_33 5, .inl ((cT 0), 1920, .inl (fun _ => 0))), (r_33 6, .inl ((cT 0), 32, .inl (fun _ => 0))), (r_33 7, .inl ((cT 0), 1000, .inl f_37)), (r_33 9, .inl ((cT 0), 1400, .inl (fun _ => 0))), (r_33 11, .inl ((cT 0), 16, .inl (fun _ => 0))), (r_33 12, .inl ((cT 0), 1200, .inl (fun _ => 0))), (q39, .inl ((cT 1), 1, .inr (.inl (fun _ => 0))))] := hD
  refine lv_iload hx hb d_Lw_law_23 (lv_at hl 4 rfl) ?_
  refine lv_aload_n hx hb d_Lw_law_25 rfl (lv_at hl 0 rfl) ?_
  refine va_slen hx hb hX hbl hbA hS d_Lw_law_26 ?_
  refine lv_iconst (v := 5) hx hb d_Lw_law_27 (by decide) ?_
  refine lv_isub hx hb d_Lw_law_28 ?_
  refine lv_icmp_gt (tgt := 1369) hx hb d_Lw_law_29 (by decide) (fun hc40 => ?_) (fun hc40 => ?_)
  · skip
    refine lv_iconst (v := 1) hx hb d_Lw_law_1369 (by decide) ?_
    refine va_forget (fun q h => hA2 _ (hS.2.2 q h)) ?_
    refine W.widen (k := 600002) (n := 7302232) (Nat.le_of_ble_eq_true rfl) (Nat.le_of_ble_eq_true rfl) ?_
    exact lw_ret hx hb hr hlocks d_Lw_law_1370
  have h5 : L = 5 := by
    have h6 : L = 0 ∨ L = 1 ∨ L = 2 ∨ L = 3 ∨ L = 4 ∨ L = 5 := by omega
    rcases h6 with h | h | h | h | h | h
    · subst h; exact absurd (by decide) hc40
    · subst h; exact absurd (by decide) hc40
    · subst h; exact absurd (by decide) hc40
    · subst h; exact absurd (by decide) hc40
    · subst h; exact absurd (by decide) hc40
    · exact h
  subst h5
  clear hc40 hL
  have kk : ∀ (H : Heap) (locs : List Loc) (ls : Array Slot), va_S A s.heap H locs → lv_has ls 8 [(0, .ref b), (4, .int 0)] → W p l e room_1 s m #[Value.ref b] below meth c H locs 900 33000 (lw_Z below #[Value.ref b] s) (F0 m 1363 ls []) := by
    intro H locs ls hS hl
    refine lv_iinc (k := 1) (v := 0 + 5) (lv' := [(4, .int (0 + 5)), (0, .ref b)]) hx hb d_Lw_law_1363 hl rfl (rfl) (by decide) rfl (fun ls hl => ?_)
    refine lv_goto (tgt := 23) hx hb d_Lw_law_1366 (by decide) ?_
    refine lv_iload hx hb d_Lw_law_23 (lv_at hl 0 rfl) ?_
    refine lv_aload_n hx hb d_Lw_law_25 rfl (lv_at hl 1 rfl) ?_
    refine va_slen hx hb hX hbl hbA hS d_Lw_law_26 ?_
    refine lv_iconst (v := 5) hx hb d_Lw_law_27 (by decide) ?_
    refine lv_isub hx hb d_Lw_law_28 ?_
    refine lv_icmp_gt (tgt := 1369) hx hb d_Lw_law_29 (by decide) (fun hc41 => ?_) (fun hn9 => absurd (by decide) hn9)
    refine lv_iconst (v := 1) hx hb d_Lw_law_1369 (by decide) ?_
    refine va_forget (fun q h => hA2 _ (hS.2.2 q h)) ?_
    refine W.widen (k := 600002) (n := 7302232) (Nat.le_of_ble_eq_true rfl) (Nat.le_of_ble_eq_true rfl) ?_
    exact lw_ret hx hb hr hlocks d_Lw_law_1370
  refine lv_aload_n hx hb d_Lw_law_32 rfl (lv_at hl 0 rfl) ?_
  refine lv_iload hx hb d_Lw_law_33 (lv_at hl 4 rfl) ?_
  refine va_sld hx hb hX hbl hbA hS (i := 0) (vin (by decide)) d_Lw_law_35 ?_
  refine lv_topi (fun x43 e42 => ?_)
  obtain rfl : x43 = xs 0 := by rw [e42]; exact congrArg xs (by decide)
  refine lv_bipush (v := 31) hx hb d_Lw_law_36 (by decide) ?_
  refine lv_iand hx hb d_Lw_law_38 ?_
  refine lv_topi (fun x0 e0 => ?_)
  clear e0
  by_cases h9 : x0.toInt < 0
  · refine lv_tableOut (tgt := 1363) hx hb d_Lw_law_39 (Or.inl h9) (by decide) ?_
    refine W.widen (k := 900) (n := 33000) (Nat.le_of_ble_eq_true rfl) (Nat.le_of_ble_eq_true rfl) ?_
    have hl9 : lv_has ls 8 [(0, .ref b), (4, .int 0)] := lv_sub hl [0, 4] rfl
    exact kk _ _ _ hS hl9
  have h10 := h9
  clear h9
  by_cases h9 : 17 < x0.toInt
  · refine lv_tableOut (tgt := 1363) hx hb d_Lw_law_39 (Or.inr h9) (by decide) ?_
    refine W.widen (k := 900) (n := 33000) (Nat.le_of_ble_eq_true rfl) (Nat.le_of_ble_eq_true rfl) ?_
    have hl9 : lv_has ls 8 [(0, .ref b), (4, .int 0)] := lv_sub hl [0, 4] rfl
    exact kk _ _ _ hS hl9
  have h11 := h9
  clear h9
  rcases rng_18 h10 h11 with h9 | h9 | h9 | h9 | h9 | h9 | h9 | h9 | h9 | h9 | h9 | h9 | h9 | h9 | h9 | h9 | h9 | h9
  · subst h9
    refine lv_tableIn (tgt := 124) (off := 85) hx hb d_Lw_law_39 (by decide) (by decide) (by decide) (by decide) ?_
    exact lw_case0 dC dI cT q1 dr_2 sv_3 rr_4 se_6 pw_7 g0_8 ty_9 an_10 aw_11 ts_12 ss_13 rq_14 sh_17 sr_18 uh_20 ur_21 tx_22 tr_23 wo_24 di_25 ar_26 a1_27 t1_28 s1_29 sa_30 q32 q39 st us gs_15 gp_16 f_5 fs_19 fc_35 fz_36 f_37 (fun _ => 0) fs_34 (fun k => match k with | 32 => 1 | _ => 0) (fun _ => 0) r_33 hx hb hml hown hg hX hbl hbA hA hK hfl hXm hXz hst hus hw31.2.1 hw31.2.2 hst1 hus1 hw31.1 hw38.2 hw38.1 ⟨rfl, rfl, rfl, rfl, rfl, rfl⟩ kk hP hD hS hl
  · subst h9
    refine lv_tableIn (tgt := 216) (off := 177) hx hb d_Lw_law_39 (by decide) (by decide) (by decide) (by decide) ?_
    exact lw_case1 dC dI cT q1 dr_2 sv_3 rr_4 se_6 pw_7 g0_8 ty_9 an_10 aw_11 ts_12 ss_13 rq_14 sh_17 sr_18 uh_20 ur_21 tx_22 tr_23 wo_24 di_25 ar_26 a1_27 t1_28 s1_29 sa_30 q32 q39 st us gs_15 gp_16 f_5 fs_19 fc_35 fz_36 f_37 (fun _ => 0) fs_34 (fun k => match k with | 32 => 1 | _ => 0) (fun _ => 0) r_33 hx hb hml hown hg hX hbl hbA hA hK hfl hXm hXz hst hus hw31.2.1 hw31.2.2 hst1 hus1 hw31.1 hw38.2 hw38.1 ⟨rfl, rfl, rfl, rfl, rfl, rfl⟩ kk hP hD hS hl
  · subst h9
    refine lv_tableIn (tgt := 335) (off := 296) hx hb d_Lw_law_39 (by decide) (by decide) (by decide) (by decide) ?_
    exact lw_case2 dC dI cT q1 dr_2 sv_3 rr_4 se_6 pw_7 g0_8 ty_9 an_10 aw_11 ts_12 ss_13 rq_14 sh_17 sr_18 uh_20 ur_21 tx_22 tr_23 wo_24 di_25 ar_26 a1_27 t1_28 s1_29 sa_30 q32 q39 st us gs_15 gp_16 f_5 fs_19 fc_35 fz_36 f_37 (fun _ => 0) fs_34 (fun k => match k with | 32 => 1 | _ => 0) (fun _ => 0) r_33 hx hb hml hown hg hX hbl hbA hA hK hfl hXm hXz hst hus hw31.2.1 hw31.2.2 hst1 hus1 hw31.1 hw38.2 hw38.1 ⟨rfl, rfl, rfl, rfl, rfl, rfl⟩ kk hP hD hS hl
  · subst h9
    refine lv_tableIn (tgt := 427) (off := 388) hx hb d_Lw_law_39 (by decide) (by decide) (by decide) (by decide) ?_
    exact lw_case3 dC dI cT q1 dr_2 sv_3 rr_4 se_6 pw_7 g0_8 ty_9 an_10 aw_11 ts_12 ss_13 rq_14 sh_17 sr_18 uh_20 ur_21 tx_22 tr_23 wo_24 di_25 ar_26 a1_27 t1_28 s1_29 sa_30 q32 q39 st us gs_15 gp_16 f_5 fs_19 fc_35 fz_36 f_37 (fun _ => 0) fs_34 (fun k => match k with | 32 => 1 | _ => 0) (fun _ => 0) r_33 hx hb hml hown hg hX hbl hbA hA hK hfl hXm hXz hst hus hw31.2.1 hw31.2.2 hst1 hus1 hw31.1 hw38.2 hw38.1 ⟨rfl, rfl, rfl, rfl, rfl, rfl⟩ kk hP hD hS hl
  · subst h9
    refine lv_tableIn (tgt := 507) (off := 468) hx hb d_Lw_law_39 (by decide) (by decide) (by decide) (by decide) ?_
    exact lw_case4 dC dI cT q1 dr_2 sv_3 rr_4 se_6 pw_7 g0_8 ty_9 an_10 aw_11 ts_12 ss_13 rq_14 sh_17 sr_18 uh_20 ur_21 tx_22 tr_23 wo_24 di_25 ar_26 a1_27 t1_28 s1_29 sa_30 q32 q39 st us gs_15 gp_16 f_5 fs_19 fc_35 fz_36 f_37 (fun _ => 0) fs_34 (fun k => match k with | 32 => 1 | _ => 0) (fun _ => 0) r_33 hx hb hml hown hg hX hbl hbA hA hK hfl hXm hXz hst hus hw31.2.1 hw31.2.2 hst1 hus1 hw31.1 hw38.2 hw38.1 ⟨rfl, rfl, rfl, rfl, rfl, rfl⟩ kk hP hD hS hl
  · subst h9
    refine lv_tableIn (tgt := 575) (off := 536) hx hb d_Lw_law_39 (by decide) (by decide) (by decide) (by decide) ?_
    exact lw_case5 dC dI cT q1 dr_2 sv_3 rr_4 se_6 pw_7 g0_8 ty_9 an_10 aw_11 ts_12 ss_13 rq_14 sh_17 sr_18 uh_20 ur_21 tx_22 tr_23 wo_24 di_25 ar_26 a1_27 t1_28 s1_29 sa_30 q32 q39 st us gs_15 gp_16 f_5 fs_19 fc_35 fz_36 f_37 (fun _ => 0) fs_34 (fun k => match k with | 32 => 1 | _ => 0) (fun _ => 0) r_33 hx hb hml hown hg hX hbl hbA hA hK hfl hXm hXz hst hus hw31.2.1 hw31.2.2 hst1 hus1 hw31.1 hw38.2 hw38.1 ⟨rfl, rfl, rfl, rfl, rfl, rfl⟩ kk hP hD hS hl
  · subst h9
    refine lv_tableIn (tgt := 631) (off := 592) hx hb d_Lw_law_39 (by decide) (by decide) (by decide) (by decide) ?_
    exact lw_case6 dC dI cT q1 dr_2 sv_3 rr_4 se_6 pw_7 g0_8 ty_9 an_10 aw_11 ts_12 ss_13 rq_14 sh_17 sr_18 uh_20 ur_21 tx_22 tr_23 wo_24 di_25 ar_26 a1_27 t1_28 s1_29 sa_30 q32 q39 st us gs_15 gp_16 f_5 fs_19 fc_35 fz_36 f_37 (fun _ => 0) fs_34 (fun k => match k with | 32 => 1 | _ => 0) (fun _ => 0) r_33 hx hb hml hown hg hX hbl hbA hA hK hfl hXm hXz hst hus hw31.2.1 hw31.2.2 hst1 hus1 hw31.1 hw38.2 hw38.1 ⟨rfl, rfl, rfl, rfl, rfl, rfl⟩ kk hP hD hS hl
  · subst h9
    refine lv_tableIn (tgt := 743) (off := 704) hx hb d_Lw_law_39 (by decide) (by decide) (by decide) (by decide) ?_
    exact lw_case7 dC dI cT q1 dr_2 sv_3 rr_4 se_6 pw_7 g0_8 ty_9 an_10 aw_11 ts_12 ss_13 rq_14 sh_17 sr_18 uh_20 ur_21 tx_22 tr_23 wo_24 di_25 ar_26 a1_27 t1_28 s1_29 sa_30 q32 q39 st us gs_15 gp_16 f_5 fs_19 fc_35 fz_36 f_37 (fun _ => 0) fs_34 (fun k => match k with | 32 => 1 | _ => 0) (fun _ => 0) r_33 hx hb hml hown hg hX hbl hbA hA hK hfl hXm hXz hst hus hw31.2.1 hw31.2.2 hst1 hus1 hw31.1 hw38.2 hw38.1 ⟨rfl, rfl, rfl, rfl, rfl, rfl⟩ kk hP hD hS hl
  · subst h9
    refine lv_tableIn (tgt := 799) (off := 760) hx hb d_Lw_law_39 (by decide) (by decide) (by decide) (by decide) ?_
    exact lw_case8 dC dI cT q1 dr_2 sv_3 rr_4 se_6 pw_7 g0_8 ty_9 an_10 aw_11 ts_12 ss_13 rq_14 sh_17 sr_18 uh_20 ur_21 tx_22 tr_23 wo_24 di_25 ar_26 a1_27 t1_28 s1_29 sa_30 q32 q39 st us gs_15 gp_16 f_5 fs_19 fc_35 fz_36 f_37 (fun _ => 0) fs_34 (fun k => match k with | 32 => 1 | _ => 0) (fun _ => 0) r_33 hx hb hml hown hg hX hbl hbA hA hK hfl hXm hXz hst hus hw31.2.1 hw31.2.2 hst1 hus1 hw31.1 hw38.2 hw38.1 ⟨rfl, rfl, rfl, rfl, rfl, rfl⟩ kk hP hD hS hl
  · subst h9
    refine lv_tableIn (tgt := 899) (off := 860) hx hb d_Lw_law_39 (by decide) (by decide) (by decide) (by decide) ?_
    exact lw_case9 dC dI cT q1 dr_2 sv_3 rr_4 se_6 pw_7 g0_8 ty_9 an_10 aw_11 ts_12 ss_13 rq_14 sh_17 sr_18 uh_20 ur_21 tx_22 tr_23 wo_24 di_25 ar_26 a1_27 t1_28 s1_29 sa_30 q32 q39 st us gs_15 gp_16 f_5 fs_19 fc_35 fz_36 f_37 (fun _ => 0) fs_34 (fun k => match k with | 32 => 1 | _ => 0) (fun _ => 0) r_33 hx hb hml hown hg hX hbl hbA hA hK hfl hXm hXz hst hus hw31.2.1 hw31.2.2 hst1 hus1 hw31.1 hw38.2 hw38.1 ⟨rfl, rfl, rfl, rfl, rfl, rfl⟩ kk hP hD hS hl
  · subst h9
    refine lv_tableIn (tgt := 955) (off := 916) hx hb d_Lw_law_39 (by decide) (by decide) (by decide) (by decide) ?_
    exact lw_case10 dC dI cT q1 dr_2 sv_3 rr_4 se_6 pw_7 g0_8 ty_9 an_10 aw_11 ts_12 ss_13 rq_14 sh_17 sr_18 uh_20 ur_21 tx_22 tr_23 wo_24 di_25 ar_26 a1_27 t1_28 s1_29 sa_30 q32 q39 st us gs_15 gp_16 f_5 fs_19 fc_35 fz_36 f_37 (fun _ => 0) fs_34 (fun k => match k with | 32 => 1 | _ => 0) (fun _ => 0) r_33 hx hb hml hown hg hX hbl hbA hA hK hfl hXm hXz hst hus hw31.2.1 hw31.2.2 hst1 hus1 hw31.1 hw38.2 hw38.1 ⟨rfl, rfl, rfl, rfl, rfl, rfl⟩ kk hP hD hS hl
  · subst h9
    refine lv_tableIn (tgt := 991) (off := 952) hx hb d_Lw_law_39 (by decide) (by decide) (by decide) (by decide) ?_
    exact lw_case11 dC dI cT q1 dr_2 sv_3 rr_4 se_6 pw_7 g0_8 ty_9 an_10 aw_11 ts_12 ss_13 rq_14 sh_17 sr_18 uh_20 ur_21 tx_22 tr_23 wo_24 di_25 ar_26 a1_27 t1_28 s1_29 sa_30 q32 q39 st us gs_15 gp_16 f_5 fs_19 fc_35 fz_36 f_37 (fun _ => 0) fs_34 (fun k => match k with | 32 => 1 | _ => 0) (fun _ => 0) r_33 hx hb hml hown hg hX hbl hbA hA hK hfl hXm hXz hst hus hw31.2.1 hw31.2.2 hst1 hus1 hw31.1 hw38.2 hw38.1 ⟨rfl, rfl, rfl, rfl, rfl, rfl⟩ kk hP hD hS hl
  · subst h9
    refine lv_tableIn (tgt := 1059) (off := 1020) hx hb d_Lw_law_39 (by decide) (by decide) (by decide) (by decide) ?_
    exact lw_case12 dC dI cT q1 dr_2 sv_3 rr_4 se_6 pw_7 g0_8 ty_9 an_10 aw_11 ts_12 ss_13 rq_14 sh_17 sr_18 uh_20 ur_21 tx_22 tr_23 wo_24 di_25 ar_26 a1_27 t1_28 s1_29 sa_30 q32 q39 st us gs_15 gp_16 f_5 fs_19 fc_35 fz_36 f_37 (fun _ => 0) fs_34 (fun k => match k with | 32 => 1 | _ => 0) (fun _ => 0) r_33 hx hb hml hown hg hX hbl hbA hA hK hfl hXm hXz hst hus hw31.2.1 hw31.2.2 hst1 hus1 hw31.1 hw38.2 hw38.1 ⟨rfl, rfl, rfl, rfl, rfl, rfl⟩ kk hP hD hS hl
  · subst h9
    refine lv_tableIn (tgt := 1115) (off := 1076) hx hb d_Lw_law_39 (by decide) (by decide) (by decide) (by decide) ?_
    exact lw_case13 dC dI cT q1 dr_2 sv_3 rr_4 se_6 pw_7 g0_8 ty_9 an_10 aw_11 ts_12 ss_13 rq_14 sh_17 sr_18 uh_20 ur_21 tx_22 tr_23 wo_24 di_25 ar_26 a1_27 t1_28 s1_29 sa_30 q32 q39 st us gs_15 gp_16 f_5 fs_19 fc_35 fz_36 f_37 (fun _ => 0) fs_34 (fun k => match k with | 32 => 1 | _ => 0) (fun _ => 0) r_33 hx hb hml hown hg hX hbl hbA hA hK hfl hXm hXz hst hus hw31.2.1 hw31.2.2 hst1 hus1 hw31.1 hw38.2 hw38.1 ⟨rfl, rfl, rfl, rfl, rfl, rfl⟩ kk hP hD hS hl
  · subst h9
    refine lv_tableIn (tgt := 1128) (off := 1089) hx hb d_Lw_law_39 (by decide) (by decide) (by decide) (by decide) ?_
    exact lw_case14 dC dI cT q1 dr_2 sv_3 rr_4 se_6 pw_7 g0_8 ty_9 an_10 aw_11 ts_12 ss_13 rq_14 sh_17 sr_18 uh_20 ur_21 tx_22 tr_23 wo_24 di_25 ar_26 a1_27 t1_28 s1_29 sa_30 q32 q39 st us gs_15 gp_16 f_5 fs_19 fc_35 fz_36 f_37 (fun _ => 0) fs_34 (fun k => match k with | 32 => 1 | _ => 0) (fun _ => 0) r_33 hx hb hml hown hg hX hbl hbA hA hK hfl hXm hXz hst hus hw31.2.1 hw31.2.2 hst1 hus1 hw31.1 hw38.2 hw38.1 ⟨rfl, rfl, rfl, rfl, rfl, rfl⟩ kk hP hD hS hl
  · subst h9
    refine lv_tableIn (tgt := 1184) (off := 1145) hx hb d_Lw_law_39 (by decide) (by decide) (by decide) (by decide) ?_
    exact lw_case15 dC dI cT q1 dr_2 sv_3 rr_4 se_6 pw_7 g0_8 ty_9 an_10 aw_11 ts_12 ss_13 rq_14 sh_17 sr_18 uh_20 ur_21 tx_22 tr_23 wo_24 di_25 ar_26 a1_27 t1_28 s1_29 sa_30 q32 q39 st us gs_15 gp_16 f_5 fs_19 fc_35 fz_36 f_37 (fun _ => 0) fs_34 (fun k => match k with | 32 => 1 | _ => 0) (fun _ => 0) r_33 hx hb hml hown hg hX hbl hbA hA hK hfl hXm hXz hst hus hw31.2.1 hw31.2.2 hst1 hus1 hw31.1 hw38.2 hw38.1 ⟨rfl, rfl, rfl, rfl, rfl, rfl⟩ kk hP hD hS hl
  · subst h9
    refine lv_tableIn (tgt := 1240) (off := 1201) hx hb d_Lw_law_39 (by decide) (by decide) (by decide) (by decide) ?_
    exact lw_case16 dC dI cT q1 dr_2 sv_3 rr_4 se_6 pw_7 g0_8 ty_9 an_10 aw_11 ts_12 ss_13 rq_14 sh_17 sr_18 uh_20 ur_21 tx_22 tr_23 wo_24 di_25 ar_26 a1_27 t1_28 s1_29 sa_30 q32 q39 st us gs_15 gp_16 f_5 fs_19 fc_35 fz_36 f_37 (fun _ => 0) fs_34 (fun k => match k with | 32 => 1 | _ => 0) (fun _ => 0) r_33 hx hb hml hown hg hX hbl hbA hA hK hfl hXm hXz hst hus hw31.2.1 hw31.2.2 hst1 hus1 hw31.1 hw38.2 hw38.1 ⟨rfl, rfl, rfl, rfl, rfl, rfl⟩ kk hP hD hS hl
  · subst h9
    refine lv_tableIn (tgt := 1296) (off := 1257) hx hb d_Lw_law_39 (by decide) (by decide) (by decide) (by decide) ?_
    exact lw_case17 dC dI cT q1 dr_2 sv_3 rr_4 se_6 pw_7 g0_8 ty_9 an_10 aw_11 ts_12 ss_13 rq_14 sh_17 sr_18 uh_20 ur_21 tx_22 tr_23 wo_24 di_25 ar_26 a1_27 t1_28 s1_29 sa_30 q32 q39 st us gs_15 gp_16 f_5 fs_19 fc_35 fz_36 f_37 (fun _ => 0) fs_34 (fun k => match k with | 32 => 1 | _ => 0) (fun _ => 0) r_33 hx hb hml hown hg hX hbl hbA hA hK hfl hXm hXz hst hus hw31.2.1 hw31.2.2 hst1 hus1 hw31.1 hw38.2 hw38.1 ⟨rfl, rfl, rfl, rfl, rfl, rfl⟩ kk hP hD hS hl
set_option maxHeartbeats 4000000 in
theorem lw_walk (l : Launch) (hfl : l.flags = pinnedFlags ++ [noTraceFlag]) (b : Addr) (xs : List Int32) : MetFree l x (headSpec (Jvm.Cond.code x code maxLocals ret :: tables_1) room_1) (lw_P b xs) (fun _ _ _ _ _ => True) lw_Q := by
  refine MetFree.of_bodyS (code := code) (maxLocals := maxLocals) (ret := ret) (by decide) ?_ ?_
  · intro args s m h hn
    obtain ⟨meth, c, h1, h2, h3, h4, h5, h6, -, -⟩ := Cond.code_spec hn (atoms_spec (ws := Jvm.Cond.code x code maxLocals ret :: tables_1) h _ List.mem_cons_self)
    exact ⟨meth, c, h1, h2, h3, h4, h5, h6⟩
  · intro p e s m args below meth c s₁ B hml0 hP _
    obtain ⟨rfl, hx, hbd, hgv⟩ := hP
    obtain ⟨scr, harrAt, hlist, hof, hsmall⟩ := hx
    obtain ⟨hcb, hkn, -, -⟩ := State.arrayAt?_spec harrAt
    have hown : s.vm.findClass R_law = some m.cls := findClass_of_methodNamed B.named
    have hts0 : ∀ c ∈ (Jvm.Cond.code x code maxLocals ret :: tables_1), c.before #[Value.ref b] s = true := atoms_spec (ws := Jvm.Cond.code x code maxLocals ret :: tables_1) B.pre
    have hts : ∀ w ∈ lw_tbl, w.before #[Value.ref b] s = true := k2_hts_sels lw_privs (fun w hw => hts0 w (List.mem_cons_of_mem _ hw)) lw_privs_ok
    have hml : c.maxLocals = 8 := B.maxLocals_eq (hts0 _ List.mem_cons_self)
    have X₀ : Stand p l e room_1 s m #[Value.ref b] below meth c s₁ [] 0 0 := Stand.of_body B
    have hh0 : s₁.heap = s.heap := by rw [B.state]; rfl
    have hsz : scr.slots.size = xs.length := by rw [← Array.length_toList, hlist, List.length_map]
    have hval : ∀ j : Nat, j < xs.length → scr.slots[j]? = some (.int (xs.getD j 0)) := fun j hj => by
      rw [← Array.getElem?_toList, hlist]
      simp [hj]
    have hbl : b < s.heap.size := (Array.getElem?_eq_some_iff.mp hcb).1
    have hX : va_X b xs.length (fun j => xs.getD j 0) s s.heap := ⟨scr, hcb, hof, hkn, hsz, hval⟩
    have K : W p l e room_1 s m #[Value.ref b] below meth c s₁.heap [] 0 0 (lw_Z below #[Value.ref b] s) (entryFrame m ([Value.ref b] : List Value).toArray 8) := by
      rw [hh0]
      exact whole_start l hfl hbd ⟨B.exec, B.bytes, B.returns, hml, hown, hts, hX, hbl, B.notSynchronized, hgv⟩
    obtain ⟨t, a1, o, b1, b2, b3⟩ := K s₁ rfl X₀
    exact ⟨t, o, a1, b1, b2, b3⟩
theorem lw_pre_spec {args : Array Value} {s : State} (h : (Jvm.Cond.and given_1 narrow_1).before args s = true) (hr : rest_1_c.before args s = true) : ∃ (b : Addr) (xs : List Int32), lw_P b xs args s := by
  have hs := flat_of_before _ h
  have hq := flat_of_before _ hr
  have hc : (Cond.count 1).before args s = true := hs _ (by decide +kernel)
  have harr : (Cond.arrayOf (.arg 0) .int).before args s = true := hs _ (by decide +kernel)
  have hle : (Cond.le (.length (.arg 0)) (.int 5)).before args s = true := hs _ (by decide +kernel)
  have hlen : (Cond.isInt (.length (.arg 0))).before args s = true := hq _ (by decide +kernel)
  have hall : (Cond.all (.arg 0) (.isInt (.elem (.arg 0) (.index 0)))).before args s = true := hq _ (by decide +kernel)
  obtain ⟨b, xs, hb, hx⟩ := State.ints_of_pre rfl harr hlen hall
  have hsm : xs.length < 2 ^ 31 := hx.choose_spec.2.2.2
  have hev : (Term.length (.arg 0)).eval args s none [] s = some (.int xs.length.toInt32) := hx.length_eval hb
  have hv := Cond.le_ints hev (show (Term.int 5).eval args s none [] s = some (.int 5) from rfl)
  have hd : xs.length.toInt32 ≤ 5 := by
    simpa [Cond.before, Cond.holds, hv] using hle
  have hN : xs.length ≤ 5 := (Int32.ofNat_le_ofNat hsm (by decide)).mp (show Int32.ofNat xs.length ≤ Int32.ofNat 5 from hd)
  exact ⟨b, xs, Cond.one_arg hc (show args[0]? = some (.ref b) from hb), hx, hN, h⟩
theorem lw_comes (l : Launch) (hfl : l.flags = pinnedFlags ++ [noTraceFlag]) : Comes l x (Jvm.Cond.code x code maxLocals ret :: tables_1) room_1 (fun tb e args s => Calls_1 tb e args s ∧ rest_1 tb e args s ∧ Pre_1 tb e args s)
    (fun _ _ args s o t => lw_Q args s o t) := by
  intro p e ha hc hk s m args below hf hfit hheap happ hpre
  obtain ⟨b, xs, hP⟩ := lw_pre_spec hpre.2.2 hpre.2.1
  obtain ⟨k, o, h1, h2, h3, hQ⟩ := lw_walk l hfl b xs p e ha hc hk s m args below hf ((Spec.applies_iff_loose hf).mp happ).1 hP trivial
  exact ⟨k, o, h1, h2, h3, hQ⟩
theorem lw_frame {s t : State} {o : Outcome} {args : Array Value} (h : Framed s o t [] 600002 7302232) :
    Framed s o t (fieldLocs frame_1_writes args s ++ arrayLocs frame_1_arrays args s ++ staticLocs frame_1_statics s) 600002 7302232 := h
theorem lw_limb (L : Cond) (hL : ∀ (args : Array Value) (s t : State), L.after args s (.returned (some (.int 1))) t = true) :
    ArmFor flags0 classFile x code maxLocals ret World_1 tables_1 room_1 Calls_1 rest_1 Pre_1
      (fun tb e a s o t => postC L tb e a s o t ∧ Framed s o t (fieldLocs frame_1_writes a s ++ arrayLocs frame_1_arrays a s ++ staticLocs frame_1_statics s) 600002 7302232) := by
  intro l hfl _ _ p e ha hc hk s m args below hf hfit hheap happ hpre
  obtain ⟨k, o, h1, h2, h3, rfl, hF⟩ := lw_comes l hfl p e ha hc hk s m args below hf hfit hheap happ hpre
  exact ⟨k, _, h1, h2, h3, hL args s _, lw_frame hF⟩
theorem i_vc : Claimed_1_1 ∧ Claimed_1_2 := ⟨lw_limb limb_1_1 (fun args s t => by simp [limb_1_1, Cond.after, Cond.holds, Cond.value]), lw_limb limb_1_2 (fun args s t => Cond.after_iff.mpr (by
  first | (rw [show limb_1_2 = Cond.eq .result (.int 1) from rfl, Cond.eq_ints (x := 1) (y := 1) rfl rfl]; simp; done) | (simp [limb_1_2, Cond.value, Term.eval]; done)))⟩

