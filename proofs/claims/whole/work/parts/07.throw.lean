section GT
variable {g : gG} {M : gM} {n mc ms pc : Nat} {ls : List (Nat × Value)} {st : List Value} {es : va_W} {Phi : gR → va_W → Prop}
/-- a walk that stands in the middle of a method stands at its beginning, of a method that begins here -/
theorem gRebase {p : Program} {l : Launch} {e : Env} {R : Room} {s : State} {m : MethodId} {args : Array Value} {below : List Frame} {meth : Method} {c : Code} {T : State} {locs : List Loc} {cells slots : Nat} (X : Stand p l e R s m args below meth c T locs cells slots) (hc0 : cells ≤ R.cells) (hs0 : slots ≤ R.slots) :
    Stand p l e { frames := R.frames, cells := R.cells - cells, slots := R.slots - slots, locals := R.locals } (T.setFrames (.invoking m args :: below)) m args below meth c T [] 0 0 := by
  obtain ⟨g₀, hfr⟩ := X.frames_eq
  have hcur : T.cur < T.threads.size := State.cur_lt_of_frames hfr
  have hF : (T.setFrames (.invoking m args :: below)).frames = .invoking m args :: below := State.frames_setFrames _ hcur
  obtain ⟨th, hth, -⟩ := State.frames_cons hF
  obtain ⟨th0, hth0, -⟩ := State.frames_cons hfr
  have hal := X.warmed.alike
  refine ⟨X.admits, X.cas, X.clock, hF, ?_, ?_, X.method', X.code, X.here, X.tail, State.WarmedH.refl (T.setFrames (.invoking m args :: below)), (State.stackLimits_setFrames _ _ _).symm, (State.stackBytes_setFrames _ _).symm, ?_⟩
  · obtain ⟨r1, r2, r3, r4⟩ := State.hasRoom_stack X.room
    have r5 := State.hasRoom_real X.room
    have h := X.room
    simp only [State.hasRoom, Bool.and_eq_true, decide_eq_true_eq] at h
    rw [State.localsInUse_invoking X.frames X.method X.code] at r3 r4 r5
    rw [X.frames, List.length_cons] at r1 r2
    have hU : (T.setFrames (.invoking m args :: below)).localsInUse = stackWeight below + vmFrameWords + (c.maxLocals + 11) := State.localsInUse_invoking hF X.method' X.code
    have z1 := X.heapSize
    have z2 := X.used
    simp only [State.hasRoom, Bool.and_eq_true, decide_eq_true_eq, hF, hU, List.length_cons, State.stackLimits_setFrames, State.stackBytes_setFrames, X.limits, X.bytes]
    refine ⟨⟨⟨⟨by omega, by omega, by omega, by omega, by omega, h.1.1.1.2.2.2.2.2⟩, ?_⟩, ?_⟩, X.book⟩
    · have h9 := h.1.1.2
      show T.heap.size + (R.cells - cells) ≤ e.platform.maxCells
      omega
    · have h9 := h.1.2
      show T.slotsUsed + (R.slots - slots) ≤ e.platform.maxSlots
      omega
  · have h := X.hears
    cases below with
    | nil =>
      have h' : (s.vm.method? m).any (·.sig.returnType.isNone) = true := h
      show (T.vm.method? m).any (·.sig.returnType.isNone) = true
      rw [hal.method?]; exact h'
    | cons f r =>
      cases f with
      | java f0 =>
        have h' : ((s.code? f0.method).bind fun c => (decode c.code f0.pc).toOption).isSome = true := h
        show (((T.setFrames (.invoking m args :: .java f0 :: r)).code? f0.method).bind fun c => (decode c.code f0.pc).toOption).isSome = true
        have e1 : (T.setFrames (.invoking m args :: .java f0 :: r)).code? f0.method = s.code? f0.method := by
          rw [State.code?_eq, State.code?_eq]
          show (T.vm.method? f0.method).bind _ = _
          rw [hal.method?]
        rw [e1]; exact h'
      | native f0 => exact h
      | proc f0 => exact h
      | _ =>
        have h' : (s.vm.method? m).any (·.sig.returnType.isNone) = true := h
        show (T.vm.method? m).any (·.sig.returnType.isNone) = true
        rw [hal.method?]; exact h'
  · have h := (State.sameButNew.refl (T.setFrames (.invoking m args :: below)) hth).setFrames T.frames (State.cur_lt_of_frames hF)
    rw [State.setFrames_setFrames, State.setFrames_self hth0] at h
    exact h
theorem gZq {args : Array Value} {s : State} {C nm d : String} {A : Nat → Prop} (h : va_Zq C nm d A s s.heap) : (Cond.isRef (.static C nm d)).before args s = true := by
  rcases h with h | ⟨t, h⟩
  · obtain ⟨cf, kf, fi, f, a, cell, q1, q2, q3, q4, q5, q6, q7, q8⟩ := h
    have hv : (Term.static C nm d).eval args s none [] s = some .null := by
      simp [Term.eval, State.fieldNamed?, q1, q2, q4, q5, q6, q7]
    simp [Cond.before, Cond.holds, Cond.value, hv]
  · obtain ⟨cf, kf, fi, f, a, cell, q1, q2, q3, q4, q5, q6, q7, q8⟩ := h
    have hv : (Term.static C nm d).eval args s none [] s = some (.ref t) := by
      simp [Term.eval, State.fieldNamed?, q1, q2, q4, q5, q6, q7]
    simp [Cond.before, Cond.holds, Cond.value, hv]
/-- the four words of a throw that speak of the heap -/
def gTh : List Cond := [.isRef (.static Jvm.Bundle.tN "UNASSIGNED_STACK" Jvm.Bundle.steD), .isRef (.static Jvm.Bundle.tN "SUPPRESSED_SENTINEL" Jvm.Bundle.listD), .laysStatic Jvm.Bundle.tN "UNASSIGNED_STACK" Jvm.Bundle.steD, .laysStatic Jvm.Bundle.tN "SUPPRESSED_SENTINEL" Jvm.Bundle.listD]
theorem gTh_at {p : Program} {e : Env} {R : Room} {s : State} {m : MethodId} {args : Array Value} {meth : Method} {c : Code} {A : Nat → Prop} (C : gK g M n p e R s m args meth c A) : ∀ w ∈ gTh, w.before args s = true := by
  have z1 := C.2.1.2.2.2.2.2.2.2.1
  have z2 := C.2.1.2.2.2.2.2.2.2.2.1
  intro w hw
  simp only [gTh, List.mem_cons, List.not_mem_nil, or_false] at hw
  rcases hw with rfl | rfl | rfl | rfl
  · exact gZq z1.1
  · exact gZq z2.1
  · exact z1.lay
  · exact z2.lay
/-- the words of 'throw new X("text")' where X's constructor calls Y's by the entry k of its pool, and Y's go on as the library's chain has it -/
def gOwn (own : String) (ic : Nat) (X Y : String) (k : Nat) (bytes : ByteArray) (names : List String) : List Cond :=
  Jvm.Bundle.throwableAtoms ++ (Jvm.Bundle.throwableSAtoms ++ (Jvm.Bundle.passSAtoms X Y k bytes ++ (Jvm.Bundle.chainSAtoms Y names ++
  [.methodLink own ic (Jvm.Bundle.initS X), .instantiable X 6, .selects X Jvm.Bundle.tFill0 Jvm.Bundle.tFill0, .selects X Jvm.Bundle.tFill Jvm.Bundle.tFill,
   .lays X Jvm.Bundle.tN "cause" "Ljava/lang/Throwable;", .lays X Jvm.Bundle.tN "stackTrace" Jvm.Bundle.steD, .lays X Jvm.Bundle.tN "suppressedExceptions" Jvm.Bundle.listD, .lays X Jvm.Bundle.tN "detailMessage" "Ljava/lang/String;",
   .isRef (.static Jvm.Bundle.tN "UNASSIGNED_STACK" Jvm.Bundle.steD), .isRef (.static Jvm.Bundle.tN "SUPPRESSED_SENTINEL" Jvm.Bundle.listD),
   .fieldLink Jvm.Bundle.tN 198 Jvm.Bundle.tN "backtrace" "Ljava/lang/Object;", .lays Jvm.Bundle.tN Jvm.Bundle.tN "backtrace" "Ljava/lang/Object;", .lays X Jvm.Bundle.tN "backtrace" "Ljava/lang/Object;"])))
set_option maxHeartbeats 2000000 in
/-- from the constructor's call to the throw's end; the way is the library's own (ctorMessageOffV), with one link more ahead of the chain -/
theorem gCtor {p : Program} {l : Launch} {e : Env} {R : Room} {s : State} {m₀ : MethodId} {args : Array Value} {below : List Frame} {meth : Method} {c : Code} {W0 : State} {locs : List Loc} {cells slots : Nat}
    (X : Stand p l e R s m₀ args below meth c W0 locs cells slots) (hexec : p.tables.exec = Jvm.exec) (htr : e.platform.stackTraces = false) {own cls Y0 : String} {names : List String} {ic k0 : Nat} {bytes : ByteArray}
    (hown : s.vm.findClass own = some m₀.cls) (hcls : Jvm.Bundle.fit cls = true) (hY0 : Jvm.Bundle.fit Y0 = true) (hnames : ∀ n ∈ names, Jvm.Bundle.fit n = true)
    (b0 : decode bytes 0 = .ok (.aload_n 0, 1)) (b1 : decode bytes 1 = .ok (.aload_n 1, 1)) (b2 : decode bytes 2 = .ok (.invokespecial k0, 3)) (b5 : decode bytes 5 = .ok (.return_, 1))
    (h : ∀ a ∈ gOwn own ic cls Y0 k0 bytes names, a.before args s = true)
    (hlocs : ∀ x ∈ locs, ∀ cell, s.heap[x.base]? = some cell → cell.vm.isStatics = false)
    {a : Addr} {cX : ClassId} {kX : Class} (hfoundX : s.vm.findClass cls = some cX) (hkX : s.vm.classes[cX]? = some kX) (hcell : W0.heap[a]? = some (freshCell cX kX)) (hnew : s.heap.size ≤ a)
    {msg : Value} (hmsg : msg.isRef = true)
    {f : JFrame} (hg : f.method = m₀) (hsize : f.locals.size = c.maxLocals) (hlocked : f.locked = none) (hentered : f.entered = []) {rest : List Value} (hstack : f.stack = msg :: .ref a :: .ref a :: rest)
    (hd6 : decode c.code f.pc = .ok (.invokespecial ic, 3)) (hd9 : decode c.code (f.pc + 3) = .ok (.athrow, 1)) (hout : ∀ x ∈ c.exceptionTable.toList, covers x (f.pc + 3) = false)
    (hRframes : names.length + 4 < R.frames) (hRlocals : 2 * f.monitorRoom + ((Value.ref a :: rest).map fun v => v.category).sum + (13 * (names.length + 2) + 42) ≤ R.locals) (hlocks : meth.locks = false) :
    ∃ U : State, Steps p.tables e below (W0.setTop f) U ∧ U.status = .running ∧ Ended U below (.threw a) ∧ s.WarmedH U.vm ∧ s.sameButNew ({ U with vm := s.vm } : State) locs cells slots ∧
      ∃ ce : Cell, U.heap[a]? = some ce ∧ s.vm.findClass cls = some ce.cls ∧ ce.vm.isStatics = false := by
  have howns : e.platform.frameOwnsMonitors = true := by rw [X.admits.platform]
  have hfin : e.platform.finalization = false := by rw [X.admits.platform]
  have hpl : e.platform.magicAccessors = ({} : Platform).magicAccessors := by rw [X.admits.platform]
  have a' : ∀ x, x ∈ gOwn own ic cls Y0 k0 bytes names → x.holds args s none s [] = true := fun x hx => h x hx
  obtain ⟨T, Z0, L, -, Y⟩ := ThrowableC.of_atoms (args := args) howns hfin hpl (fun x hx => h x (by simp [gOwn, hx]))
  obtain ⟨Z, Mg, LZ, LM, hnZ⟩ := Init0T.ofS_atoms (args := args) hpl L Y (fun x hx => h x (by simp [gOwn, hx]))
  obtain ⟨P0, L0, hP0m, hP0s⟩ := PassC.ofS_atoms (args := args) (s := s) hpl (X := cls) (Y := Y0) (Jvm.Bundle.fit_spec hcls).1 (Jvm.Bundle.fit_spec hY0).2 b0 b1 b2 b5 (fun x hx => h x (by simp [gOwn, hx]))
  obtain ⟨P1, Ps, hlen, L1, hL, hP1m, hlink1, hlink⟩ := Jvm.Bundle.chainS (args := args) hpl hnZ names Y0 hY0 hnames (fun x hx => h x (by simp [gOwn, hx]))
  have hsup0 : P0.sup = P1.m := Option.some.inj (hP0s.symm.trans hP1m)
  have hfound : s.vm.findClass cls = some P0.m.cls := findClass_of_methodNamed hP0m
  cases Option.some.inj (hfoundX.symm.trans hfound)
  obtain ⟨c1, kX', hc1, hk, hord, -, -, hn6⟩ := Cond.instantiable_spec (a' (.instantiable cls 6) (by simp [gOwn]))
  cases Option.some.inj (hc1.symm.trans hfound)
  cases Option.some.inj (hkX.symm.trans hk)
  have hsel0 : selectMethod e.platform s.vm P0.m.cls T.fill0 = .method T.fill0 := by
    obtain ⟨c2, r2, m2, q1, q2, q3, q4, -⟩ := Cond.selects_spec (a' (.selects cls Jvm.Bundle.tFill0 Jvm.Bundle.tFill0) (by simp [gOwn]))
    cases Option.some.inj (q1.symm.trans hfound)
    cases Option.some.inj (q2.symm.trans (State.methodFound?_of_named Y.fill0 (by decide)))
    cases Option.some.inj (q3.symm.trans Y.fill0)
    rw [Launch.admits_selectMethod X.admits]; exact q4
  have hselF : selectMethod e.platform s.vm P0.m.cls T.fill = .method T.fill := by
    obtain ⟨c2, r2, m2, q1, q2, q3, q4, -⟩ := Cond.selects_spec (a' (.selects cls Jvm.Bundle.tFill Jvm.Bundle.tFill) (by simp [gOwn]))
    cases Option.some.inj (q1.symm.trans hfound)
    cases Option.some.inj (q2.symm.trans (State.methodFound?_of_named Y.fill (by decide)))
    cases Option.some.inj (q3.symm.trans Y.fill)
    rw [Launch.admits_selectMethod X.admits]; exact q4
  obtain ⟨cellS0, hcS0, hiss⟩ := Y.statics
  obtain ⟨u0, hu0⟩ := Cond.staticRefV Y.unassigned L.unassignedStatic L.statics hcS0 hiss (a' (.isRef (.static Jvm.Bundle.tN "UNASSIGNED_STACK" Jvm.Bundle.steD)) (by simp [gOwn]))
  obtain ⟨sen, hsen⟩ := Cond.staticRefV Y.sentinel L.sentinelStatic L.statics hcS0 hiss (a' (.isRef (.static Jvm.Bundle.tN "SUPPRESSED_SENTINEL" Jvm.Bundle.listD)) (by simp [gOwn]))
  obtain ⟨ci198, i198, fB, hk198, hg198, ha198, hsB, -, hnB, htB, hffB⟩ := Cond.ownField (t := .object "java/lang/Object") Y.found L.cls (by decide +kernel) (a' (.fieldLink Jvm.Bundle.tN 198 Jvm.Bundle.tN "backtrace" "Ljava/lang/Object;") (by simp [gOwn])) (a' (.lays Jvm.Bundle.tN Jvm.Bundle.tN "backtrace" "Ljava/lang/Object;") (by simp [gOwn])) e.platform hpl
  obtain ⟨cellS, hcS', heS, -, hkeep⟩ := X.same.2.2.2.2.2 T.aS cellS0 hcS0
  have hcellS : W0.heap[T.aS]? = some cellS := hcS'
  have hout' : ∀ i, (⟨T.aS, i⟩ : Loc) ∉ locs := fun i hmem => by
    have := hlocs _ hmem cellS0 hcS0
    rw [hiss] at this; cases this
  have hknownS : cellS.vm ≠ .unknown := by
    rw [heS]; intro hu
    rw [show cellS0.vm = .unknown from hu] at hiss
    cases hiss
  have hneS : T.aS ≠ a := Nat.ne_of_lt (Nat.lt_of_lt_of_le (Array.getElem?_eq_some_iff.mp hcS0).1 hnew)
  obtain ⟨iM, hffM⟩ := Y.msg
  obtain ⟨tyC, dC, hdC, hdnC⟩ := Cond.laysAt hfound hk Y.cause (a' (.lays cls Jvm.Bundle.tN "cause" "Ljava/lang/Throwable;") (by simp [gOwn]))
  obtain ⟨tyS, dS, hdS, hdnS⟩ := Cond.laysAt hfound hk Y.stack (a' (.lays cls Jvm.Bundle.tN "stackTrace" Jvm.Bundle.steD) (by simp [gOwn]))
  obtain ⟨tyP, dP, hdP, hdnP⟩ := Cond.laysAt hfound hk Y.supp (a' (.lays cls Jvm.Bundle.tN "suppressedExceptions" Jvm.Bundle.listD) (by simp [gOwn]))
  obtain ⟨tyM, dM, hdM, hdnM⟩ := Cond.laysAt hfound hk hffM (a' (.lays cls Jvm.Bundle.tN "detailMessage" "Ljava/lang/String;") (by simp [gOwn]))
  obtain ⟨tyB, dB, hdB, hdnB⟩ := Cond.laysAt hfound hk hffB (a' (.lays cls Jvm.Bundle.tN "backtrace" "Ljava/lang/Object;") (by simp [gOwn]))
  have bC := Cond.laysApart hdB hdC hdnB hdnC (by rw [hnB, Y.causeName]; decide)
  have bS := Cond.laysApart hdB hdS hdnB hdnS (by rw [hnB, Y.stackName]; decide)
  have bP := Cond.laysApart hdB hdP hdnB hdnP (by rw [hnB, Y.suppName]; decide)
  have hskip : SkipFacts T e.platform s (fun u => u) u0 ((preparedCellV T.toThrowableT (freshCell P0.m.cls kX) a u0 sen).withEntry W0.cur) :=
    ⟨{ ci198 := ci198, i198 := i198, fBack := fB }, ⟨hk198, hg198, ha198, hsB⟩, by
      have := fresh_default (c := P0.m.cls) tyB
      rw [htB] at this
      simpa [preparedCellV, Cell.setSlot, Cell.withEntry, Array.getElem?_setIfInBounds, bC, bS, bP, bC.symm, bS.symm, bP.symm, defaultValue] using this, fun _ _ => rfl⟩
  obtain ⟨tm, methC, cdC, kC, vm₁, hnC, -, -, -, -, -, -, -, hW₁, st1⟩ := Steps.initColdS (tb := p.tables) (e := e) (below := below) (s := s) (U := W0) X.here hexec X.warmed hpl hown (t := Jvm.Bundle.initS cls) rfl rfl (Jvm.Bundle.fit_spec hcls).2
    (a' (.methodLink own ic (Jvm.Bundle.initS cls)) (by simp [gOwn])) (h (.instanceMethod (Jvm.Bundle.initS cls)) (by simp [gOwn, Jvm.Bundle.passSAtoms])) (bytes := bytes) (maxL := 2) (h (.code (Jvm.Bundle.initS cls) bytes 2 none) (by simp [gOwn, Jvm.Bundle.passSAtoms]))
    (f := f) hg (a := a) (msg := msg) (rest := .ref a :: rest) hstack hd6
  cases Option.some.inj (hnC.symm.trans hP0m)
  have X₁ := X.noted hW₁
  obtain ⟨vm₂, X₂, st2⟩ := X₁.ctorMessageOffV hexec (g := { f with stack := .ref a :: rest }) hg hsize T L Z LZ Mg LM (P0 :: P1 :: Ps)
    (fun P hP => by
      rcases List.mem_cons.mp hP with rfl | hP
      · exact L0
      · rcases List.mem_cons.mp hP with rfl | hP
        · exact L1
        · exact hL P hP) ⟨hsup0, hlink1, hlink⟩ (u0 := u0) (sen := sen) (self := a) hmsg (cell := freshCell P0.m.cls kX) (cellS := cellS)
    hcell (fun _ => by simp) (by simp) rfl rfl hsel0 hselF hcellS hneS hknownS (by rw [hkeep _ (hout' _)]; exact hu0) (by rw [hkeep _ (hout' _)]; exact hsen)
    (Takes.of_laid hk hord tyC (by rw [Y.causeType]; rfl)) (Takes.of_laid hk hord tyS (by rw [Y.stackType]; exact fits_refV_array _ u0)) (Takes.of_laid hk hord tyP (by rw [Y.suppType]; exact fits_refV_object _ sen))
    (Takes.of_laid hk hord tyM (by rw [Y.msgType]; exact fits_refV_object _ ⟨msg, hmsg⟩)) Y.objLocals hskip htr [] hd6
    (by simp only [List.length_cons, hlen]; omega) (by simp only [List.length_cons, hlen]; exact hRlocals)
  obtain ⟨hwalk, hrun, hended, hWU, hsame⟩ := X₂.athrowLeaves hexec (g := { f with stack := .ref a :: rest, pc := f.pc + 3 }) hg hlocked hentered hout (a := a) (rest := rest) rfl hd9
  have hlt : a < ((W0.setVm vm₁).setVm vm₂).heap.size := (Array.getElem?_eq_some_iff.mp hcell).1
  have hU := heapAt_setCell_self (s := (W0.setVm vm₁).setVm vm₂) (plainBareV T.toThrowableT (freshCell P0.m.cls kX) a u0 sen msg) hlt
  refine ⟨_, st1 _ (fun acts => ?_), hrun, hended, hWU, hsame.weaken (fun y hy hlt' => ?_) (Nat.le_refl _) (Nat.le_refl _), _, hU, hfound, rfl⟩
  · rw [doInvoke_state]
    exact st2 _ hwalk
  · rcases List.mem_append.mp hy with h1 | h1
    · exact h1
    · exfalso
      have hb : y.base = a := by
        simp only [List.mem_cons, List.not_mem_nil, or_false] at h1
        rcases h1 with rfl | rfl | rfl | rfl | rfl <;> rfl
      rw [hb] at hlt'
      exact Nat.not_lt.mpr hnew hlt'
/-- all that a throw of an E out of the class own needs of the tables -/
def gExc (own : String) (ic : Nat) (E : String) : Prop := ∃ (Y0 : String) (k0 : Nat) (bytes : ByteArray) (names : List String), Jvm.Bundle.fit E = true ∧ Jvm.Bundle.fit Y0 = true ∧ (∀ x ∈ names, Jvm.Bundle.fit x = true) ∧ names.length ≤ 1 ∧
  decode bytes 0 = .ok (.aload_n 0, 1) ∧ decode bytes 1 = .ok (.aload_n 1, 1) ∧ decode bytes 2 = .ok (.invokespecial k0, 3) ∧ decode bytes 5 = .ok (.return_, 1) ∧ ∀ a ∈ gOwn own ic E Y0 k0 bytes names, gH a ∨ a ∈ gTh
/-- throw new E("text"), from a state that has just begun -/
theorem gThrow0 {E tx : String} {ik is ic : Nat} {p : Program} {l : Launch} {e : Env} {R : Room} {s : State} {m : MethodId} {args : Array Value} {below : List Frame} {meth : Method} {c : Code} {A : Nat → Prop} {arr : Array Slot}
    (C : gK g M (n + 1) p e R s m args meth c A) (hl : lv_has arr M.2.2.1 ls) (hstr : (M.1.cls, is, tx) ∈ gStr) (hcl : gH (.classLink M.1.cls ik E)) (hit : gH (.instantiable E 6)) (hini : gH (.initialized E)) (hex : gExc M.1.cls ic E) (h00 : M.2.2.2.2 = [])
    (h1 : 1 ≤ R.cells) (h2 : 6 ≤ R.slots) (h8 : (st.map fun v => v.category).sum ≤ 8)
    (d0 : decode M.2.1 pc = .ok (.new ik, 3)) (d1 : decode M.2.1 (pc + 3) = .ok (.dup, 1)) (d2 : decode M.2.1 (pc + 4) = .ok (.ldc is, 2)) (d3 : decode M.2.1 (pc + 6) = .ok (.invokespecial ic, 3)) (d4 : decode M.2.1 (pc + 9) = .ok (.athrow, 1)) :
    W p l e R s m args below meth c s.heap [] 0 0 (fun t => ∃ a : Addr, t.status = .running ∧ Ended t below (.threw a) ∧ s.WarmedH t.vm ∧ s.sameButNew ({ t with vm := s.vm } : State) [] 1 6 ∧ gX E a s t) (F0 m pc arr st) := by
  have hout : ∀ pc0, ∀ x ∈ c.exceptionTable.toList, covers x pc0 = false := by
    have h5 := C.hh
    rw [h00] at h5
    have h6 : c.exceptionTable.toList = [] := List.map_eq_nil_iff.mp h5
    intro pc0 x hx; rw [h6] at hx; cases hx
  obtain ⟨Y0, k0, bytes, names, x1, x2, x3, x4, b0, b1, b2, b5, hat⟩ := hex
  refine W.newc (n := 6) C.hx C.hb C.hown (C.hts _ hcl.1 hcl.2) (C.hts _ hit.1 hit.2) (C.hts _ hini.1 hini.2) (g := F0 m pc arr st) rfl d0 (by omega) (by omega) (fun cC kC hC hk hord hn6 => ?_)
  refine W.eq (g2 := F0 m (pc + 3) arr (.ref s.heap.size :: st)) rfl ?_
  refine lv_dup C.hx C.hb d1 rfl ?_
  obtain ⟨a, hR⟩ := C.2.1.2.2.2.2.2.2.2.2.2.2.1 _ hstr
  refine va_ldcS (tx := tx) (q := a) C.hx C.hb C.hown hR d2 ?_
  intro T hT X
  obtain ⟨U, u1, u2, u3, u4, u5, ce, u6, u7, u8⟩ := gCtor X C.hx C.2.1.2.2.2.2.2.2.2.2.2.1 (own := M.1.cls) (cls := E) (Y0 := Y0) (names := names) (ic := ic) (k0 := k0) (bytes := bytes) C.hown x1 x2 x3 b0 b1 b2 b5
    (fun w hw => by
      rcases hat w hw with h | h
      · exact C.hts _ h.1 h.2
      · exact gTh_at C w h)
    (fun x hx => by cases hx) (a := s.heap.size) (cX := cC) (kX := kC) hC hk (by rw [hT, Array.getElem?_push_size]) (Nat.le_refl _) (msg := .ref a) rfl (f := F0 m (pc + 6) arr (.ref a :: .ref s.heap.size :: .ref s.heap.size :: st)) rfl (hl.1.trans C.hml.symm) rfl rfl (rest := st) rfl (by rw [C.hb]; exact d3) (by rw [C.hb]; exact d4) (hout _)
    (by have := C.hfr; omega) (by have := C.hlo; show 2 * 0 + (1 + (st.map fun v => v.category).sum) + (13 * (names.length + 2) + 42) ≤ R.locals; omega) C.hlk
  exact ⟨U, u1, s.heap.size, u2, u3, u4, u5, ce, u6, u7, u8⟩
theorem gSame_keep {s t : State} {cells slots : Nat} (h : s.sameButNew ({ t with vm := s.vm } : State) [] cells slots) : s.heap.size ≤ t.heap.size ∧ ∀ q : Nat, q < s.heap.size → t.heap[q]? = s.heap[q]? := by
  obtain ⟨-, h2, -, -, -, h6⟩ := h
  refine ⟨h2, fun q hq => ?_⟩
  have hc : s.heap[q]? = some s.heap[q] := Array.getElem?_eq_getElem hq
  obtain ⟨c', h7, h8, h9, h10⟩ := h6 q _ hc
  have h7' : t.heap[q]? = some c' := h7
  rw [h7', hc]
  congr 1
  rw [h8]
  have : c'.slots = s.heap[q].slots := by
    apply Array.ext_getElem?
    intro i
    exact h10 i (by simp)
  rw [this]
/-- throw new E("text") -/
theorem go_throw {E tx : String} {ik is ic : Nat} (hstr : (M.1.cls, is, tx) ∈ gStr) (hcl : gH (.classLink M.1.cls ik E)) (hit : gH (.instantiable E 6)) (hini : gH (.initialized E)) (hex : gExc M.1.cls ic E) (h00 : M.2.2.2.2 = [])
    (hmc : 1 ≤ mc) (hms : 6 ≤ ms) (h8 : (st.map fun v => v.category).sum ≤ 8)
    (d0 : decode M.2.1 pc = .ok (.new ik, 3)) (d1 : decode M.2.1 (pc + 3) = .ok (.dup, 1)) (d2 : decode M.2.1 (pc + 4) = .ok (.ldc is, 2)) (d3 : decode M.2.1 (pc + 6) = .ok (.invokespecial ic, 3)) (d4 : decode M.2.1 (pc + 9) = .ok (.athrow, 1))
    (hf : Phi (.inr E) es) : Go g M (n + 1) mc ms pc ls st es Phi := by
  intro p l e R s m args below meth c A tc ts C h1 h2 H locs cells slots arr hP hD hS hl h3 h4 T hT X
  subst hT
  have Xb := gRebase X (by omega) (by omega)
  have hal := X.warmed.alike
  have C' : gK g M (n + 1) p e { frames := R.frames, cells := R.cells - cells, slots := R.slots - slots, locals := R.locals } (T.setFrames (.invoking m args :: below)) m args meth c (va_A es T.heap.size) := by
    refine ⟨⟨C.hx, C.hb, C.hml, C.hr, C.hlk, C.hnm, C.hh, ?_⟩, C.2.1.move (s2 := T.setFrames (.invoking m args :: below)) X.warmed rfl rfl hP hD hS, C.hfr, C.hlo⟩
    show T.vm.findClass _ = _
    rw [hal.findClass]; exact C.hown
  obtain ⟨t, q0, a, q1, q2, q3, q4, q5⟩ := gThrow0 (l := l) (below := below) C' hl hstr hcl hit hini hex h00 (by show 1 ≤ R.cells - cells; omega) (by show 6 ≤ R.slots - slots; omega) h8 d0 d1 d2 d3 d4 T rfl Xb
  obtain ⟨k1, k2⟩ := gSame_keep q4
  have k1' : T.heap.size ≤ t.heap.size := k1
  have k2' : ∀ q : Nat, q < T.heap.size → t.heap[q]? = T.heap[q]? := k2
  have hW : s.WarmedH t.vm := State.WarmedH.trans (t := T.setFrames (.invoking m args :: below)) X.warmed q3
  have hsame : s.sameButNew ({ t with vm := s.vm } : State) (locs ++ []) (cells + 1) (slots + 6) := by
    have z : (T.setVm s.vm).sameButNew ({ t with vm := s.vm } : State) [] 1 6 := by
      obtain ⟨y1, y2, y3, y4, y5, y6⟩ := q4
      refine ⟨?_, y2, y3, y4, y5, y6⟩
      have y0 : ({ t with vm := T.vm } : State) = { (T.setFrames (.invoking m args :: below)).setFrames t.frames with heap := t.heap, slotsUsed := t.slotsUsed } := y1
      rw [State.setFrames_setFrames] at y0
      exact congrArg (fun u : State => u.setVm s.vm) y0
    exact X.same.trans z
  rw [List.append_nil] at hsame
  have hP' : va_P g.1 vwCl es t.heap := fun k q hk => (hP k q hk).kept (k2' _ (hP k q hk).lt)
  obtain ⟨cell, x1, x2, x3⟩ := q5
  refine ⟨t, q0, .threw a, locs, es, q1, q2, hW, hsame.mono (by omega) (by omega), hS.2.2, ⟨Nat.le_trans hS.1 k1', fun q z1 z2 => ?_⟩, hP', hD, Or.inr ⟨a, E, rfl, ⟨cell, x1, ?_, x3⟩, hf⟩⟩
  · rw [k2' q (Nat.lt_of_lt_of_le z1 hS.1)]; exact hS.2.1 q z1 z2
  · have x2' : T.vm.findClass E = some cell.cls := x2
    rw [← hal.findClass]; exact x2'
end GT
