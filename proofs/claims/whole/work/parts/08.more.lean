section GU
theorem gAt {own : String} {ic : Nat} {E Y0 : String} {k0 : Nat} {bytes : ByteArray} {names : List String} (h : (gOwn own ic E Y0 k0 bytes names).all (fun w => decide (w ∈ gTh) || (decide (w ∈ lw_tbl) && gGood w)) = true) : ∀ a ∈ gOwn own ic E Y0 k0 bytes names, gH a ∨ a ∈ gTh := by
  intro a ha
  have h1 := List.all_eq_true.mp h a ha
  simp only [Bool.or_eq_true, Bool.and_eq_true, decide_eq_true_eq] at h1
  rcases h1 with h1 | h1
  · exact Or.inr h1
  · exact Or.inl h1
variable {g : gG} {M : gM} {n mc ms pc : Nat} {ls : List (Nat × Value)} {st : List Value} {es : va_W} {Phi : gR → va_W → Prop}
/-- which row of the handler table takes an object of class E that comes out of pc: every row before it covers pc and names a class that E is not of -/
def gN (E C : String) : Prop := (E, C) ∈ gNc
def gRows (own E : String) (pc hpc : Nat) : List (Nat × Nat × Nat × Nat) → Prop
  | [] => False
  | (a, b, h, k) :: r => a ≤ pc ∧ pc < b ∧ k ≠ 0 ∧ ∃ C : String, gH (.classLink own k C) ∧ ((gH (.castable E C) ∧ h = hpc) ∨ (gN E C ∧ gRows own E pc hpc r))
theorem gFind {e : Env} {s : State} {args : Array Value} {own E : String} {f : JFrame} {a : Addr} {cell : Cell} {hpc : Nat} (hpl : e.platform.magicAccessors = ({} : Platform).magicAccessors) (hown : s.vm.findClass own = some f.method.cls) (hts : ∀ w ∈ lw_tbl, gGood w = true → w.before args s = true)
    (hE : s.vm.findClass E = some cell.cls) (hst : cell.vm.isStatics = false) (hit : gH (.instantiable E 6)) (hnc : ∀ q ∈ gNc, va_Nc q.1 q.2 s) :
    ∀ (xs : List ExceptionTableEntry) (u : State), s.WarmedH u.vm → u.heap[a]? = some cell → gRows own E f.pc hpc (xs.map (fun h => (h.startPc, h.endPc, h.handlerPc, h.catchType))) →
      ∃ vm', s.WarmedH vm' ∧ ∀ (Q : Handler → Pre) (E' : CtlPost) (d : Bool) (acts : List Action), wp (findHandler.go f a xs) Q E' e d acts u ↔ Q (.found hpc) d acts (u.setVm vm') := by
  intro xs
  induction xs with
  | nil => intro u _ _ h; exact h.elim
  | cons x t ih =>
    intro u hW hcell h
    obtain ⟨h1, h2, h3, C, hlk, h4⟩ := h
    obtain ⟨cT, hcT, hcl⟩ := Cond.classLink_spec hown (hts _ hlk.1 hlk.2) e.platform hpl
    obtain ⟨dk, _, _, kt, hd, _, _, _, _, hkt, _, hop⟩ := hcl.here
    have hclu := hW.classLinks hcl
    have hW' : s.WarmedH (u.vm.noted f.method.cls x.catchType (.cls cT)) := hW.noted hd hop (State.rightAt_cls hcl)
    have hal : s.vm.Alike (u.vm.noted f.method.cls x.catchType (.cls cT)) := hW'.alike
    obtain ⟨kt', hkt', -⟩ := hal.2.2 _ _ hkt
    obtain ⟨ha, ht⟩ := (resolveClass_links e.toSetting hclu).op (op := VmOp.resolveClass f.method.cls x.catchType) rfl
    have hobj := VmData.ne_statics_of hst
    rcases h4 with ⟨hcast, h5⟩ | ⟨hno, h5⟩
    · obtain ⟨c3, c4, hc3, hc4, hasg⟩ := Cond.castable_spec (hts _ hcast.1 hcast.2)
      cases hE.symm.trans hc3
      cases hcT.symm.trans hc4
      have hfit : (u.vm.noted f.method.cls x.catchType (.cls cT)).assignable cell.cls cT = true := by rw [hal.assignable]; exact hasg
      obtain ⟨k1, hk1⟩ := Vm.classAt_of_assignable hfit ⟨kt', hkt'⟩
      refine ⟨_, hW', fun Q E' d acts => ?_⟩
      have h5' : x.handlerPc = hpc := h5
      have h1' : x.startPc ≤ f.pc := h1
      have h2' : f.pc < x.endPc := h2
      have h3' : x.catchType ≠ 0 := h3
      simp [findHandler.go, h1', h2', h3', ha, ht, hcell, hobj, hk1, hkt', hfit, h5', VmOp.dirties, VmOp.acts]
    · obtain ⟨c3, c4, hc3, hc4, hasg⟩ := hnc _ hno
      have hc3 : s.vm.findClass E = some c3 := hc3
      have hc4 : s.vm.findClass C = some c4 := hc4
      cases hE.symm.trans hc3
      cases hcT.symm.trans hc4
      have hfit : (u.vm.noted f.method.cls x.catchType (.cls cT)).assignable cell.cls cT = false := by rw [hal.assignable]; exact hasg
      obtain ⟨c5, k5, hc5, hk5, -⟩ := Cond.instantiable_spec (hts _ hit.1 hit.2)
      cases hE.symm.trans hc5
      obtain ⟨kc, hkc, -⟩ := hal.2.2 _ _ hk5
      obtain ⟨vm', hW2, hrest⟩ := ih (u.setVm (u.vm.noted f.method.cls x.catchType (.cls cT))) hW' hcell h5
      refine ⟨vm', hW2, fun Q E' d acts => ?_⟩
      have h1' : x.startPc ≤ f.pc := h1
      have h2' : f.pc < x.endPc := h2
      have h3' : x.catchType ≠ 0 := h3
      have e2 : (u.setVm (u.vm.noted f.method.cls x.catchType (.cls cT))).setVm vm' = u.setVm vm' := rfl
      rw [← e2, ← hrest Q E' d acts]
      simp [findHandler.go, h1', h2', h3', ha, ht, hcell, hobj, hkc, hkt', hfit, VmOp.dirties, VmOp.acts]
/-- an exception comes into a frame whose table takes it -/
theorem gCaught {p : Program} {l : Launch} {e : Env} {R : Room} {s : State} {m : MethodId} {args : Array Value} {below : List Frame} {meth : Method} {c : Code} {A : Nat → Prop} {T : State} {locs : List Loc} {cells slots hpc : Nat} {E : String} {a : Addr} {f : JFrame}
    (C : gK g M n p e R s m args meth c A) (X : Stand p l e R s m args below meth c T locs cells slots) (hf : f.method = m) (hE : gX E a s T) (hit : gH (.instantiable E 6)) (hr : gRows M.1.cls E f.pc hpc M.2.2.2.2) :
    ∃ vm', Stand p l e R s m args below meth c (T.setVm vm') locs cells slots ∧ ∀ target, Steps p.tables e below ((T.setVm vm').setTop { f with pc := hpc, stack := [.ref a] }) target → Steps p.tables e below ((T.setTop f).pushFrame (.throwing a)) target := by
  subst hf
  obtain ⟨cell, x1, x2, x3⟩ := hE
  have hpl : e.platform.magicAccessors = ({} : Platform).magicAccessors := by rw [X.admits.platform]
  have hr' : gRows M.1.cls E f.pc hpc (c.exceptionTable.toList.map (fun h => (h.startPc, h.endPc, h.handlerPc, h.catchType))) := by rw [C.hh]; exact hr
  obtain ⟨vm', hW', hw⟩ := gFind (a := a) (f := f) hpl C.hown C.hts x2 x3 hit C.2.1.2.2.2.2.2.2.2.2.2.2.2 c.exceptionTable.toList ((T.setTop f).pushFrame (.throwing a)) X.warmed (by show ((T.setTop f).pushFrame (.throwing a)).heap[a]? = _; simpa [State.pushFrame, State.setFrames] using x1) hr'
  refine ⟨vm', X.noted hW', fun target hrest => ?_⟩
  obtain ⟨hgo, hwi⟩ := X.here.throwing a (g := f)
  refine Steps.head hgo hwi ?_
  obtain ⟨g₀, hg⟩ := Option.isSome_iff_exists.mp X.here.top
  obtain ⟨r, hrr⟩ := State.topJava?_eq_some.mp hg
  have hfin : (stepThrowing e ((T.setTop f).pushFrame (.throwing a)) a (.java f :: T.frames.tail)).1 = ((((T.setTop f).pushFrame (.throwing a)).setVm vm').setFrames (.java { f with pc := hpc, stack := [.ref a] } :: T.frames.tail)) := by
    simp only [stepThrowing, searchFrame, vmDo]
    generalize hrz : Sem.go _ e false [] ((T.setTop f).pushFrame (.throwing a)) = res
    obtain ⟨as, rfl, ha⟩ := Sem.eq_ok_of hrz (a := Handler.found hpc) (s' := ((T.setTop f).pushFrame (.throwing a)).setVm vm') (acts' := []) (by simp [W.findHandler_eq (meth := meth) (code := c) (s := (T.setTop f).pushFrame (.throwing a)) X.method' X.code, hw _ _ _ _])
    rfl
  rw [stepThread_throwing (frames_entered X.here.top _), hfin]
  have hr2 : (T.setVm vm').frames = .java g₀ :: r := hrr
  have e9 : (((T.setTop f).pushFrame (.throwing a)).setVm vm').setFrames (.java { f with pc := hpc, stack := [.ref a] } :: T.frames.tail) = (T.setVm vm').setTop { f with pc := hpc, stack := [.ref a] } := by
    rw [State.setTop_of_frames _ hr2, hrr, List.tail_cons, State.pushFrame, State.setTop_of_frames _ hrr]
    have e1 : ∀ (F G : List Frame), ((T.setFrames F).setVm vm').setFrames G = (T.setVm vm').setFrames G := fun F G => State.setFrames_setFrames (T.setVm vm') F G
    rw [State.setFrames_setFrames, e1]
  rw [e9]
  exact hrest
/-- a virtual call out of a frame with handlers -/
theorem go_callVX {M' : gM} {mc' ms' mc'' ms'' : Nat} {As stk : List Value} {Psi : gR → va_W → Prop} {index b ci : Nat} {fs : List Value} {vc : vw_C} (q0 : Nat) (hst : stk = As.reverse ++ .ref b :: st) (he : es[q0]? = some (b, .inr (ci, fs))) (hvc : vwCl[ci]? = some vc) (hcl : vc.1 = M'.1.cls)
    (hlk : gH (.methodLink M.1.cls index M'.1)) (hin : gH (.instanceMethod M'.1)) (hse : gH (.selects M'.1.cls M'.1 M'.1)) (hco : gH (.code M'.1 M'.2.1 M'.2.2.1 M'.2.2.2.1)) (h0 : M'.2.2.2.2 = [])
    (hy : M'.1.cls ≠ "java/lang/invoke/MethodHandle" ∧ M'.1.cls ≠ "java/lang/invoke/VarHandle") (hpl : plainName M'.1.cls = true) (hlen : (parseMethodDescriptor M'.1.desc).map (fun d => d.parameters.length) = some As.length)
    (h13 : M'.2.2.1 ≤ 13) (hav : (lg_sl (.ref b :: As)).length ≤ M'.2.2.1) (h8 : (st.map fun v => v.category).sum ≤ 8) (hmc : mc' + mc'' ≤ mc) (hms : ms' + ms'' ≤ ms)
    (hd : decode M.2.1 pc = .ok (.invokevirtual index, 3)) (hc : Go g M' n mc' ms' 0 (lv_args 0 (.ref b :: As)) [] es Psi)
    (k : ∀ (v : Option Value) (es' : va_W), Psi (.inl v) es' → Go g M (n + 1) mc'' ms'' (pc + 3) ls (v.toList ++ st) es' Phi)
    (kt : ∀ (E : String) (es' : va_W), Psi (.inr E) es' → ∃ hpc, gH (.instantiable E 6) ∧ gRows M.1.cls E pc hpc M.2.2.2.2 ∧ ∀ a : Nat, Go g M (n + 1) mc'' ms'' hpc ls [.ref a] es' Phi) : Go g M (n + 1) mc ms pc ls stk es Phi := by
  intro p l e R s m args below meth c A tc ts C h1 h2 H locs cells slots arr hP hD hS hl h3 h4 T hT X
  subst hst; subst hT
  have d2 := C.hts
  obtain ⟨mk, methM, hnamed, hmethM, hstM, habM⟩ := Cond.instanceMethod_spec (d2 _ hin.1 hin.2)
  have hcd := gCode_c hnamed (d2 _ hco.1 hco.2) h0
  obtain ⟨c2, r2, m2, q1, q2, q3, q4, kP, hkP, hkPi⟩ := Cond.selects_spec (d2 _ hse.1 hse.2)
  obtain ⟨cellB, w1, w2, w3⟩ := va_recv C.hk hP hvc he
  rw [hcl] at w3
  cases w3.symm.trans q1
  cases (State.methodFound?_of_named hnamed hy).symm.trans q2
  cases hnamed.symm.trans q3
  have hselP : selectMethod e.platform s.vm cellB.cls mk = .method mk := by rw [Launch.admits_selectMethod X.admits]; exact q4
  have hsig : As.length = methM.sig.parameters.length := by
    obtain ⟨methk, ck, k1, -, -, -, -, -, -, k8⟩ := id hcd
    cases hmethM.symm.trans k1
    rw [k8] at hlen
    exact (Option.some.inj hlen).symm
  obtain ⟨vm₁, X₁, hstep₁⟩ := X.invokevirtual C.hx C.hown (d2 _ hlk.1 hlk.2) hnamed hmethM hstM hkP hkPi hy (a := b) (cell := cellB) w1
    (fun z h => by rw [h] at w2; cases w2) hselP hmethM habM hkP hkPi (g := F0 m pc arr (As.reverse ++ .ref b :: st)) rfl (argsL := As) (rest := st) hsig rfl (by rw [C.hb]; exact hd)
  obtain ⟨t, hgo, hB⟩ := go_back (M' := M') (av := .ref b :: As) (f := F0 m pc arr st) C hc X₁ hP hD hS rfl (hl.1.trans C.hml.symm) (by rw [C.hb]; exact hd) (by show 2 * 0 + (st.map fun v => v.category).sum ≤ 8; omega) hnamed hpl hcd h13 hav (by omega) (by omega)
  obtain ⟨T', locs', es', X', hP', hD', hS', ⟨v, rfl, hpsi⟩ | ⟨a, E, rfl, hx, hpsi⟩⟩ := hB
  · obtain ⟨t', z1, z2⟩ := k v es' hpsi p l e R s m args below meth c A tc ts C h1 h2 T'.heap locs' _ _ arr hP' hD' hS' hl (by omega) (by omega) T' rfl X'
    exact ⟨t', hstep₁ _ (fun acts => (hgo acts).trans z1), z2⟩
  · obtain ⟨hpc, hit, hrow, hk⟩ := kt E es' hpsi
    obtain ⟨vm', X2, st2⟩ := gCaught (f := F0 m pc arr st) C X' rfl hx hit hrow
    obtain ⟨t', z1, z2⟩ := hk a p l e R s m args below meth c A tc ts C h1 h2 T'.heap locs' _ _ arr hP' hD' hS' hl (by omega) (by omega) (T'.setVm vm') rfl X2
    exact ⟨t', hstep₁ _ (fun acts => (hgo acts).trans (st2 _ z1)), z2⟩
/-- a static call of a method with handlers -/
theorem go_callSW {M' : gM} {mc' ms' mc'' ms'' : Nat} {As stk : List Value} {Psi : gR → va_W → Prop} {index : Nat} (hst : stk = As.reverse ++ st)
    (hlk : gH (.methodLink M.1.cls index M'.1)) (hsta : gH (.static M'.1)) (hini : gH (.initialized M'.1.cls)) (hco : gH (.codeWith M'.1 M'.2.1 M'.2.2.1 M'.2.2.2.1 M'.2.2.2.2)) (h00 : M.2.2.2.2 = [])
    (hy : M'.1.cls ≠ "java/lang/invoke/MethodHandle" ∧ M'.1.cls ≠ "java/lang/invoke/VarHandle") (hpl : plainName M'.1.cls = true) (hlen : (parseMethodDescriptor M'.1.desc).map (fun d => d.parameters.length) = some As.length)
    (h13 : M'.2.2.1 ≤ 13) (hav : (lg_sl As).length ≤ M'.2.2.1) (h8 : (st.map fun v => v.category).sum ≤ 8) (hmc : mc' + mc'' ≤ mc) (hms : ms' + ms'' ≤ ms)
    (hd : decode M.2.1 pc = .ok (.invokestatic index, 3)) (hc : Go g M' n mc' ms' 0 (lv_args 0 As) [] es Psi)
    (k : ∀ (v : Option Value) (es' : va_W), Psi (.inl v) es' → Go g M (n + 1) mc'' ms'' (pc + 3) ls (v.toList ++ st) es' Phi) (kt : ∀ (E : String) (es' : va_W), Psi (.inr E) es' → Phi (.inr E) es') : Go g M (n + 1) mc ms pc ls stk es Phi := by
  intro p l e R s m args below meth c A tc ts C h1 h2 H locs cells slots arr hP hD hS hl h3 h4 T hT X
  subst hst; subst hT
  have d2 := C.hts
  obtain ⟨mk, meth0, c0, hnamed, -⟩ := Cond.codeWith_spec (d2 _ hco.1 hco.2)
  have hcd := gCode_w hnamed (d2 _ hco.1 hco.2)
  obtain ⟨methM, ck, hmethM, -, -, -, -, -, -, k8⟩ := id hcd
  have hstatic : methM.isStatic = true := Cond.static_spec hnamed hmethM (d2 _ hsta.1 hsta.2)
  obtain ⟨kP, hkP, -⟩ := className_of_methodNamed hnamed
  have hinitP : kP.init = .initialized := Cond.initialized_spec (findClass_of_methodNamed hnamed) hkP (d2 _ hini.1 hini.2)
  have hsig : As.length = methM.sig.parameters.length := by
    rw [k8] at hlen
    exact (Option.some.inj hlen).symm
  obtain ⟨vm₁, X₁, hstep₁⟩ := X.invokestatic C.hx C.hown (d2 _ hlk.1 hlk.2) hnamed hmethM hstatic hkP hinitP hy (g := F0 m pc arr (As.reverse ++ st)) rfl (argsL := As) (rest := st) hsig rfl (by rw [C.hb]; exact hd)
  obtain ⟨t, hgo, hB⟩ := go_back (M' := M') (av := As) (f := F0 m pc arr st) C hc X₁ hP hD hS rfl (hl.1.trans C.hml.symm) (by rw [C.hb]; exact hd) (by show 2 * 0 + (st.map fun v => v.category).sum ≤ 8; omega) hnamed hpl hcd h13 hav (by omega) (by omega)
  obtain ⟨t', q1', q2'⟩ := go_on (mc'' := mc'') (ms'' := ms'') C h1 h2 hl (by omega) (by omega) h00 k kt hB
  exact ⟨t', hstep₁ _ (fun acts => (hgo acts).trans q1'), q2'⟩
/-- a constructor -/
theorem go_callI {M' : gM} {mc' ms' mc'' ms'' : Nat} {As stk : List Value} {Psi : gR → va_W → Prop} {index b : Nat} (hst : stk = As.reverse ++ .ref b :: st)
    (hlk : gH (.methodLink M.1.cls index M'.1)) (hin : gH (.instanceMethod M'.1)) (hco : gH (.code M'.1 M'.2.1 M'.2.2.1 none)) (hr0 : M'.2.2.2.1 = none) (hy1 : M'.1.name = "<init>") (h0 : M'.2.2.2.2 = []) (h00 : M.2.2.2.2 = [])
    (hy : M'.1.cls ≠ "java/lang/invoke/MethodHandle" ∧ M'.1.cls ≠ "java/lang/invoke/VarHandle") (hpl : plainName M'.1.cls = true) (hlen : (parseMethodDescriptor M'.1.desc).map (fun d => d.parameters.length) = some As.length)
    (h13 : M'.2.2.1 ≤ 13) (hav : (lg_sl (.ref b :: As)).length ≤ M'.2.2.1) (h8 : (st.map fun v => v.category).sum ≤ 8) (hmc : mc' + mc'' ≤ mc) (hms : ms' + ms'' ≤ ms)
    (hd : decode M.2.1 pc = .ok (.invokespecial index, 3)) (hc : Go g M' n mc' ms' 0 (lv_args 0 (.ref b :: As)) [] es Psi)
    (k : ∀ (v : Option Value) (es' : va_W), Psi (.inl v) es' → Go g M (n + 1) mc'' ms'' (pc + 3) ls (v.toList ++ st) es' Phi) (kt : ∀ (E : String) (es' : va_W), Psi (.inr E) es' → Phi (.inr E) es') : Go g M (n + 1) mc ms pc ls stk es Phi := by
  intro p l e R s m args below meth c A tc ts C h1 h2 H locs cells slots arr hP hD hS hl h3 h4 T hT X
  subst hst; subst hT
  have d2 := C.hts
  have hpl0 : e.platform.magicAccessors = ({} : Platform).magicAccessors := by rw [X.admits.platform]
  have hlen' : ∀ sig, parseMethodDescriptor M'.1.desc = some sig → As.length = sig.parameters.length := by
    intro sig h
    rw [h] at hlen
    exact (Option.some.inj hlen).symm
  have X0 := X
  obtain ⟨g9, hfr9⟩ := X.frames_eq
  obtain ⟨mk, methM, cM, kP, vm₁, hnamed, hmethM, hcodeM, -, hlocalsM, -, hkP, -, hW₁, hstep₁⟩ := Steps.initColdArgs (e := e) (f := F0 m pc arr (As.reverse ++ .ref b :: st)) X.here C.hx X.warmed hpl0 C.hown hy1 hy (d2 _ hlk.1 hlk.2) (d2 _ hin.1 hin.2) (d2 _ hco.1 hco.2) rfl hlen' rfl (by rw [C.hb]; exact hd)
  have hcd := gCode_c hnamed (by rw [hr0]; exact d2 _ hco.1 hco.2) h0
  have X₁ := X.noted hW₁
  obtain ⟨t, hgo, hB⟩ := go_back (M' := M') (av := .ref b :: As) (f := F0 m pc arr st) C hc X₁ hP hD hS rfl (hl.1.trans C.hml.symm) (by rw [C.hb]; exact hd) (by show 2 * 0 + (st.map fun v => v.category).sum ≤ 8; omega) hnamed hpl hcd h13 hav (by omega) (by omega)
  obtain ⟨t', q1', q2'⟩ := go_on (mc'' := mc'') (ms'' := ms'') C h1 h2 hl (by omega) (by omega) h00 k kt hB
  exact ⟨t', hstep₁ _ (fun acts => (hgo acts).trans q1'), q2'⟩
/-- Object's own constructor -/
theorem go_obj {idx a : Nat} (hlk : gH (.methodLink M.1.cls idx Lib.objectInit)) (hin : gH (.instanceMethod Lib.objectInit)) (hco : gH (.code Lib.objectInit ⟨#[0xb1]⟩ 1 none)) (h8 : (st.map fun v => v.category).sum ≤ 8) (hd : decode M.2.1 pc = .ok (.invokespecial idx, 3)) (k : Go g M n mc ms (pc + 3) ls st es Phi) : Go g M n mc ms pc ls (.ref a :: st) es Phi := by
  intro p l e R s m args below meth c A tc ts C h1 h2 H locs cells slots arr hP hD hS hl h3 h4
  refine W.objInit C.hx C.hb C.hown (C.hts _ hlk.1 hlk.2) (C.hts _ hin.1 hin.2) (C.hts _ hco.1 hco.2) rfl (hl.1.trans C.hml.symm) rfl hd (by have := C.hfr; omega) (by have := C.hlo; show 2 * 0 + (st.map fun v => v.category).sum + 12 ≤ R.locals; omega) ?_
  exact k p l e R s m args below meth c A tc ts C h1 h2 H locs cells slots arr hP hD hS hl h3 h4
theorem gRA {U : State} {a b : ClassId} {ty : FieldType} (h1 : va_RA U a ty) (h2 : va_RA U b ty) : a = b := by
  cases ty with
  | object C =>
    obtain ⟨_, _, _, _, _, q1⟩ := h1
    obtain ⟨_, _, _, _, _, q2⟩ := h2
    exact Option.some.inj (q1.symm.trans q2)
  | _ => exact Option.some.inj ((show U.vm.findClass _ = some a from h1).symm.trans (show U.vm.findClass _ = some b from h2))
/-- a new array of a small type -/
theorem go_newa {mc' ms' : Nat} {atype : ArrayType} {ty : FieldType} {cA : ClassId} {z : Int32} {N : Nat} (a0 : vp_A) (t0 : Nat) (ht : g.2.1[t0]? = some (cA, ty)) (hty : newarray.typeOf atype = ty) (harr : gH (.arrayClass (newarray.typeOf atype))) (ha : ∀ cA : ClassId, vp_cell cA a0 = arrV cA N (fun _ => defaultValue ty))
    (hn : ¬ z < 0) (hN : z.toNatClampNeg = N) (hby : N * componentBytes ty ≤ 536870912) (hmc : mc' + 1 ≤ mc) (hms : ms' + N ≤ ms) (hd : decode M.2.1 pc = .ok (.newarray atype, 2))
    (k : ∀ q : Nat, Go g M n mc' ms' (pc + 2) ls (.ref q :: st) (es ++ [(q, .inl (cA, a0))]) Phi) : Go g M n mc ms pc ls (.int z :: st) es Phi := by
  intro p l e R s m args below meth c A tc ts C h1 h2 H locs cells slots arr hP hD hS hl h3 h4
  refine va_newa C.hx C.hb (C.hts _ harr.1 harr.2) hty C.hk hP hD hS C.hA ha hn hN hby (by omega) (by omega) hd (fun q cA' H1 hK1 hP1 hD1 hS1 => ?_)
  have e1 : cA' = cA := by
    have y1 := (C.hk.2 t0 _ ht).2
    have y2 := (hK1.2 g.2.1.length (cA', ty) (by simp)).2
    exact gRA y2 y1
  subst e1
  exact k q p l e R s m args below meth c A tc ts C h1 h2 H1 locs (cells + 1) (slots + N) arr hP1 hD1 hS1 hl (by omega) (by omega)
/-- a new object -/
theorem go_new {mc' ms' : Nat} {Cl : String} {T : u_T} {N ci index : Nat} (fs : List Value) (hw : ∀ w ∈ u_ws Cl T N, w ∈ lw_tbl ∧ gGood w = true) (ty : Nat → FieldType) (hty : ∀ k, k < N → parseFieldDescriptor (T k).2.2.1 = some (ty k)) (hcl : gH (.classLink M.1.cls index Cl)) (hit : gH (.instantiable Cl N)) (hini : gH (.initialized Cl))
    (hc : vwCl[ci]? = some (Cl, T, N)) (hfs : ∀ j, j < N → defaultValue (ty j) = vp_V fs j) (hmc : mc' + 1 ≤ mc) (hms : ms' + N ≤ ms) (hd : decode M.2.1 pc = .ok (.new index, 3))
    (k : ∀ q : Nat, Go g M n mc' ms' (pc + 3) ls (.ref q :: st) (es ++ [(q, .inr (ci, fs))]) Phi) : Go g M n mc ms pc ls st es Phi := by
  intro p l e R s m args below meth c A tc ts C h1 h2 H locs cells slots arr hP hD hS hl h3 h4
  refine va_new C.hx C.hb (gw C.hts hw) (fun _ h => h) ty hty C.hown (C.hts _ hcl.1 hcl.2) (C.hts _ hit.1 hit.2) (C.hts _ hini.1 hini.2) C.hk hP hD hS C.hA hc hfs (by omega) (by omega) hd (fun q H1 hP1 hD1 hS1 => ?_)
  exact k q p l e R s m args below meth c A tc ts C h1 h2 H1 locs (cells + 1) (slots + N) arr hP1 hD1 hS1 hl (by omega) (by omega)
theorem go_max {x y : Int32} {index : Nat} (hlk : gH (.methodLink M.1.cls index Lib.Math.max.name)) (hsta : gH (.static Lib.Math.max.name)) (hini : gH (.initialized "java/lang/Math")) (hco : gH (.code Lib.Math.max.name Lib.Math.max.code 2 (some .int))) (h8 : (st.map fun v => v.category).sum ≤ 8) (hd : decode M.2.1 pc = .ok (.invokestatic index, 3)) (k : Go g M n mc ms (pc + 3) ls (.int (if x < y then y else x) :: st) es Phi) : Go g M n mc ms pc ls (.int y :: .int x :: st) es Phi := by
  intro p l e R s m args below meth c A tc ts C h1 h2 H locs cells slots arr hP hD hS hl h3 h4
  exact va_mmax C.hx C.hb (C.hml.trans hl.1.symm) C.hown (C.hts _ hlk.1 hlk.2) (C.hts _ hsta.1 hsta.2) (C.hts _ hini.1 hini.2) (C.hts _ hco.1 hco.2) (by have := C.hfr; omega) (by have := C.hlo; omega) (by omega) (by omega) hd (k p l e R s m args below meth c A tc ts C h1 h2 H locs cells slots arr hP hD hS hl h3 h4)
theorem go_min {x y : Int32} {index : Nat} (hlk : gH (.methodLink M.1.cls index Lib.Math.min.name)) (hsta : gH (.static Lib.Math.min.name)) (hini : gH (.initialized "java/lang/Math")) (hco : gH (.code Lib.Math.min.name Lib.Math.min.code 2 (some .int))) (h8 : (st.map fun v => v.category).sum ≤ 8) (hd : decode M.2.1 pc = .ok (.invokestatic index, 3)) (k : Go g M n mc ms (pc + 3) ls (.int (if y < x then y else x) :: st) es Phi) : Go g M n mc ms pc ls (.int y :: .int x :: st) es Phi := by
  intro p l e R s m args below meth c A tc ts C h1 h2 H locs cells slots arr hP hD hS hl h3 h4
  exact va_mmin C.hx C.hb (C.hml.trans hl.1.symm) C.hown (C.hts _ hlk.1 hlk.2) (C.hts _ hsta.1 hsta.2) (C.hts _ hini.1 hini.2) (C.hts _ hco.1 hco.2) (by have := C.hfr; omega) (by have := C.hlo; omega) (by omega) (by omega) hd (k p l e R s m args below meth c A tc ts C h1 h2 H locs cells slots arr hP hD hS hl h3 h4)
theorem go_copyi {es' : va_W} {a0 a : Nat} {c0 c1 : ClassId} {n0 n1 : Nat} {f f' : Nat → Int32} {ty : FieldType} {sp dp z : Int32} {index : Nat} (hlk : gH (.methodLink M.1.cls index arraycopyName)) (hna : gH (.native arraycopyName)) (hsta : gH (.static arraycopyName)) (hini : gH (.initialized "java/lang/System"))
    (q0 q1 t0 t1 : Nat) (ha0 : es[q0]? = some (a0, .inl (c0, n0, .inl f))) (ha1 : es[q1]? = some (a, .inl (c1, n1, .inl f'))) (ht0 : g.2.1[t0]? = some (c0, ty)) (ht1 : g.2.1[t1]? = some (c1, ty)) (hprim : refKind ty = false)
    (h1 : ¬ sp < 0) (h2 : ¬ dp < 0) (h3 : ¬ z < 0) (h4 : sp.toNatClampNeg + z.toNatClampNeg ≤ n0) (h5 : dp.toNatClampNeg + z.toNatClampNeg ≤ n1) (hfit : ∀ i, i < z.toNatClampNeg → fits ty (.int (f (sp.toNatClampNeg + i))) = true)
    (h8 : (st.map fun v => v.category).sum ≤ 8) (hd : decode M.2.1 pc = .ok (.invokestatic index, 3)) (he : es.set q1 (a, .inl (c1, n1, .inl (va_cpy f f' sp.toNatClampNeg dp.toNatClampNeg z.toNatClampNeg))) = es') (k : Go g M n mc ms (pc + 3) ls st es' Phi) : Go g M n mc ms pc ls (.int z :: .int dp :: .ref a :: .int sp :: .ref a0 :: st) es Phi := by
  intro p l e R s m args below meth c A tc ts C y1 y2 H locs cells slots arr hP hD hS hl y3 y4
  subst he
  have hw : nativeFrameWords "java/lang/System" "arraycopy" 5 + 11 ≤ 150 := by decide +kernel
  exact va_copyi C.hx C.hb (C.hml.trans hl.1.symm) C.hown (C.hts _ hlk.1 hlk.2) (C.hts _ hna.1 hna.2) (C.hts _ hsta.1 hsta.2) (C.hts _ hini.1 hini.2) C.hk hP hD hS q0 q1 t0 t1 ha0 ha1 ht0 ht1 hprim h1 h2 h3 h4 h5 hfit (by have := C.hfr; omega) (by have := C.hlo; omega) hd (fun H1 locs1 hP1 hD1 hS1 => k p l e R s m args below meth c A tc ts C y1 y2 H1 locs1 cells slots arr hP1 hD1 hS1 hl y3 y4)
end GU
theorem at0X_131 : (gOwn "FrameSharer" 131 "java/util/NoSuchElementException" "java/lang/RuntimeException" 13 prog_13_method_4_code ["java/lang/Exception"]).all (fun w => decide (w ∈ gTh) || (decide (w ∈ lw_tbl) && gGood w)) = true := by decide +kernel
theorem atX_131 : gExc "FrameSharer" 131 "java/util/NoSuchElementException" := ⟨"java/lang/RuntimeException", 13, prog_13_method_4_code, ["java/lang/Exception"], by decide +kernel, by decide +kernel, by decide +kernel, by decide, by decide +kernel, by decide +kernel, by decide +kernel, by decide +kernel, gAt at0X_131⟩
theorem at0X_138 : (gOwn "FrameSharer" 138 "java/lang/IndexOutOfBoundsException" "java/lang/RuntimeException" 7 prog_6_method_2_code ["java/lang/Exception"]).all (fun w => decide (w ∈ gTh) || (decide (w ∈ lw_tbl) && gGood w)) = true := by decide +kernel
theorem atX_138 : gExc "FrameSharer" 138 "java/lang/IndexOutOfBoundsException" := ⟨"java/lang/RuntimeException", 7, prog_6_method_2_code, ["java/lang/Exception"], by decide +kernel, by decide +kernel, by decide +kernel, by decide, by decide +kernel, by decide +kernel, by decide +kernel, by decide +kernel, gAt at0X_138⟩
theorem at0X_149 : (gOwn "FrameSharer" 149 "java/lang/IllegalStateException" "java/lang/RuntimeException" 7 prog_5_method_2_code ["java/lang/Exception"]).all (fun w => decide (w ∈ gTh) || (decide (w ∈ lw_tbl) && gGood w)) = true := by decide +kernel
theorem atX_149 : gExc "FrameSharer" 149 "java/lang/IllegalStateException" := ⟨"java/lang/RuntimeException", 7, prog_5_method_2_code, ["java/lang/Exception"], by decide +kernel, by decide +kernel, by decide +kernel, by decide, by decide +kernel, by decide +kernel, by decide +kernel, by decide +kernel, gAt at0X_149⟩
