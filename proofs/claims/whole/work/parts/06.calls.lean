section GC
variable {g : gG} {M : gM} {n mc ms pc : Nat} {ls : List (Nat × Value)} {st : List Value} {es : va_W} {Phi : gR → va_W → Prop}
theorem gw_imp {p : Program} {l : Launch} {e : Env} {R : Room} {s : State} {m : MethodId} {args : Array Value} {below : List Frame} {meth : Method} {c : Code} {H : Heap} {locs : List Loc} {cells slots : Nat} {Q Q' : State → Prop} {f : JFrame}
    (h : W p l e R s m args below meth c H locs cells slots Q f) (i : ∀ t, Q t → Q' t) : W p l e R s m args below meth c H locs cells slots Q' f := by
  intro T hT X
  obtain ⟨t, a, b⟩ := h T hT X
  exact ⟨t, a, i t b⟩
theorem gEnd_of {s : State} {args : Array Value} {below : List Frame} {A : Nat → Prop} {H : Heap} {locs : List Loc} {cells slots tc ts : Nat} {v : Option Value} (hP : va_P g.1 vwCl es H) (hD : va_D A es) (hS : va_S A s.heap H locs) (h1 : cells ≤ tc) (h2 : slots ≤ ts) (hf : Phi (.inl v) es) :
    ∀ t, MQ below (fun _ _ o t => o = .returned v ∧ t.heap = H) args s cells slots A t → gEnd g A s below tc ts Phi t := by
  rintro t ⟨o, b1, b2, ⟨rfl, ht⟩, L, ⟨-, hW, hsame⟩, hL⟩
  exact ⟨_, L, es, b1, b2, hW, hsame.mono h1 h2, hL, hS.F ht, by rw [ht]; exact hP, hD, Or.inl ⟨v, rfl, hf⟩⟩
theorem go_iret {ty : FieldType} {v : Int32} (hr : M.2.2.2.1 = some ty) (hn : narrow ty (.int v) = .int v) (hd : decode M.2.1 pc = .ok (.ireturn, 1)) (hf : Phi (.inl (some (.int v))) es) : Go g M n mc ms pc ls [.int v] es Phi := by
  intro p l e R s m args below meth c A tc ts C h1 h2 H locs cells slots arr hP hD hS hl h3 h4
  exact gw_imp (W.zret (ty := ty) (Qc := fun _ _ o t => o = .returned (some (.int v)) ∧ t.heap = H) (free := A) C.hx C.hb (C.hr.trans hr) hn (fun t ht _ => ⟨rfl, ht⟩) hS.2.2 hd C.hlk) (gEnd_of hP hD hS (by omega) (by omega) hf)
theorem go_vret (hr : M.2.2.2.1 = none) (hd : decode M.2.1 pc = .ok (.return_, 1)) (hf : Phi (.inl none) es) : Go g M n mc ms pc ls [] es Phi := by
  intro p l e R s m args below meth c A tc ts C h1 h2 H locs cells slots arr hP hD hS hl h3 h4
  exact gw_imp (W.vret (Qc := fun _ _ o t => o = .returned none ∧ t.heap = H) (free := A) C.hx C.hb (C.hr.trans hr) (fun t ht _ => ⟨rfl, ht⟩) hS.2.2 hd C.hlk) (gEnd_of hP hD hS (by omega) (by omega) hf)
/-- the callee's code, as the tables have it -/
def gCode (M : gM) (s : State) (mk : MethodId) : Prop := ∃ (methk : Method) (ck : Code), s.vm.method? mk = some methk ∧ methk.code = some ck ∧ ck.code = M.2.1 ∧ ck.maxLocals = M.2.2.1 ∧ methk.sig.returnType = M.2.2.2.1 ∧ methk.locks = false ∧
  ck.exceptionTable.toList.map (fun h => (h.startPc, h.endPc, h.handlerPc, h.catchType)) = M.2.2.2.2 ∧ parseMethodDescriptor M.1.desc = some methk.sig
theorem gCode_c {M : gM} {args : Array Value} {s : State} {mk : MethodId} (hn : s.methodNamed? M.1 = some mk) (h : (Cond.code M.1 M.2.1 M.2.2.1 M.2.2.2.1).before args s = true) (h0 : M.2.2.2.2 = []) : gCode M s mk := by
  obtain ⟨meth, c, q1, q2, q3, q4, q5, q6, q7, q8⟩ := Cond.code_spec hn h
  refine ⟨meth, c, q1, q2, q3, q4, q5, q6, ?_, q8⟩
  have e0 : c.exceptionTable.size = 0 := by simpa [Array.isEmpty] using q7
  have e1 : c.exceptionTable.toList = [] := List.eq_nil_of_length_eq_zero (by simpa using e0)
  rw [e1, h0]; rfl
theorem gCode_w {M : gM} {args : Array Value} {s : State} {mk : MethodId} (hn : s.methodNamed? M.1 = some mk) (h : (Cond.codeWith M.1 M.2.1 M.2.2.1 M.2.2.2.1 M.2.2.2.2).before args s = true) : gCode M s mk := by
  obtain ⟨m9, meth, c, hn9, q1, q2, q3, q4, q5, q6, q7, q8⟩ := Cond.codeWith_spec h
  cases hn.symm.trans hn9
  exact ⟨meth, c, q1, q2, q3, q4, q6, q7, q5, q8⟩
/-- what a call comes back with -/
def gBack (g : gG) (p : Program) (l : Launch) (e : Env) (R : Room) (s : State) (m : MethodId) (args : Array Value) (below : List Frame) (meth : Method) (c : Code) (A : Nat → Prop) (cells slots len : Nat) (f : JFrame) (Psi : gR → va_W → Prop) (t : State) : Prop :=
  ∃ (T' : State) (locs' : List Loc) (es' : va_W), Stand p l e R s m args below meth c T' locs' cells slots ∧ va_P g.1 vwCl es' T'.heap ∧ va_D A es' ∧ va_S A s.heap T'.heap locs' ∧
    ((∃ v : Option Value, t = T'.setTop { f with pc := f.pc + len, stack := v.toList ++ f.stack } ∧ Psi (.inl v) es') ∨
      ∃ (a : Addr) (E : String), t = (T'.setTop f).pushFrame (.throwing a) ∧ gX E a s T' ∧ Psi (.inr E) es')
set_option maxHeartbeats 1000000 in
theorem go_back {M' : gM} {mc' ms' : Nat} {av : List Value} {Psi : gR → va_W → Prop} {p : Program} {l : Launch} {e : Env} {R : Room} {s : State} {m : MethodId} {args : Array Value} {below : List Frame} {meth : Method} {c : Code} {A : Nat → Prop} {T : State} {locs : List Loc} {cells slots : Nat}
    (C : gK g M (n + 1) p e R s m args meth c A) (hc : Go g M' n mc' ms' 0 (lv_args 0 av) [] es Psi)
    (X : Stand p l e R s m args below meth c T locs cells slots) (hP : va_P g.1 vwCl es T.heap) (hD : va_D A es) (hS : va_S A s.heap T.heap locs)
    {f : JFrame} (hf : f.method = m) (hsize : f.locals.size = c.maxLocals) {ig : Instr} {len : Nat} (hdg : decode c.code f.pc = .ok (ig, len)) (h8 : 2 * f.monitorRoom + (f.stack.map fun v => v.category).sum ≤ 8)
    {mk : MethodId} (hn : s.methodNamed? M'.1 = some mk) (hpl : plainName M'.1.cls = true) (hcd : gCode M' s mk)
    (h13 : M'.2.2.1 ≤ 13) (hav : (lg_sl av).length ≤ M'.2.2.1) (hrc : cells + mc' ≤ R.cells) (hrs : slots + ms' ≤ R.slots) :
    ∃ t, (∀ acts, Steps p.tables e below (doInvoke e (T.setTop f) acts mk av.toArray).1 t) ∧ gBack g p l e R s m args below meth c A (cells + mc') (slots + ms') len f Psi t := by
  obtain ⟨methk, ck, k1, k2, k3, k4, k5, k6, k7, -⟩ := hcd
  have r1 := C.hfr
  have r2 := C.hlo
  have hal := X.warmed.alike
  have hmk : T.vm.method? mk = some methk := by rw [hal.method?]; exact k1
  have hpk : T.plainMethod mk := by
    refine State.plainMethod.of_name ?_
    intro k hk
    obtain ⟨k', hk', hn'⟩ := className_of_methodNamed hn
    obtain ⟨k'', hk'', he⟩ := hal.2.2 _ _ hk'
    cases hk.symm.trans hk''
    rw [he]
    show plainName k'.name = true
    rw [hn']; exact hpl
  obtain ⟨Y, hin⟩ := X.into hf hsize hdg av.toArray (R' := { frames := n + 5, cells := mc', slots := ms', locals := 32 * n + 200 }) hmk k2 k6 hpk (by show n + 5 + 1 ≤ R.frames; omega) (by show _ + _ + (ck.maxLocals + 11) + (32 * n + 200) ≤ R.locals; omega) hrc hrs
  generalize hT1 : (T.setTop f).pushFrame (.java (entryFrame mk av.toArray ck.maxLocals)) = T1 at Y hin
  have hh : T1.heap = T.heap := by rw [← hT1]; rfl
  have hAB := gA_sub C.hA hD hS
  have C' : gK g M' n p e { frames := n + 5, cells := mc', slots := ms', locals := 32 * n + 200 } (T.calling f mk av.toArray) mk av.toArray methk ck (va_A es T.heap.size) := by
    refine ⟨⟨C.hx, k3, k4, k5, k6, (name_of_methodNamed hn k1).1, k7, ?_⟩, C.2.1.move (s2 := T.calling f mk av.toArray) X.warmed rfl rfl hP hD hS, Nat.le_refl _, Nat.le_refl _⟩
    show T.vm.findClass _ = _
    rw [hal.findClass]; exact findClass_of_methodNamed hn
  have hl := lv_entry av (n := M'.2.2.1) hav
  obtain ⟨t, hst, o, L, es', b1, b2, b3, b4, b5, b6, b7, b8, b9⟩ := hc p l e _ (T.calling f mk av.toArray) mk av.toArray (.java f :: below) methk ck (va_A es T.heap.size) mc' ms' C' (Nat.le_refl _) (Nat.le_refl _) T.heap [] 0 0 _ hP (hD.self (sz := T.heap.size)) va_S.rf hl (by omega) (by omega) T1 hh Y
  have hgo : ∀ acts, Steps p.tables e below (doInvoke e (T.setTop f) acts mk av.toArray).1 t := by
    intro acts
    rw [hin acts, k4, lg_entry_eq]
    exact Steps.weaken (mid := [.java f]) hst
  have hF : T.heap.size ≤ t.heap.size ∧ ∀ q : Nat, q < T.heap.size → ¬ va_A es T.heap.size q → t.heap[q]? = T.heap[q]? := b6
  have hS' : va_S A s.heap t.heap (locs ++ L) := by
    refine ⟨Nat.le_trans hS.1 hF.1, fun q h1 h2 => ?_, fun x hx => ?_⟩
    · rw [hF.2 q (Nat.lt_of_lt_of_le h1 hS.1) (fun h => h2 (hAB q h))]; exact hS.2.1 q h1 h2
    · rcases List.mem_append.mp hx with h | h
      · exact hS.2.2 x h
      · exact hAB _ (b5 x h)
  have hD' : va_D A es' := b8.weaken (fun _ _ _ h => hAB _ h)
  rcases b9 with ⟨v, rfl, hpsi⟩ | ⟨a, E, rfl, hx, hpsi⟩
  · obtain ⟨T', X', -, -, ht⟩ := X.outOf hf hdg b2 b3 b4
    have hh' : T'.heap = t.heap := by
      have h1 := congrArg State.heap ht
      simpa using h1.symm
    exact ⟨t, hgo, T', _, es', X', by rw [hh']; exact b7, hD', by rw [hh']; exact hS', Or.inl ⟨v, ht, hpsi⟩⟩
  · obtain ⟨T', X', -, -, ht⟩ := X.outOfThrown hf b2 b3 b4
    have hh' : T'.heap = t.heap := by
      have h1 := congrArg State.heap ht
      simpa [State.pushFrame, State.setFrames] using h1.symm
    obtain ⟨cell, x1, x2, x3⟩ := hx
    refine ⟨t, hgo, T', _, es', X', by rw [hh']; exact b7, hD', by rw [hh']; exact hS', Or.inr ⟨a, E, ht, ⟨cell, by rw [hh']; exact x1, ?_, x3⟩, hpsi⟩⟩
    have x2' : T.vm.findClass E = some cell.cls := x2
    rw [← hal.findClass]; exact x2'
/-- a call has come back to a frame without handlers -/
theorem go_on {mc' ms' mc'' ms'' len : Nat} {Psi : gR → va_W → Prop} {p : Program} {l : Launch} {e : Env} {R : Room} {s : State} {m : MethodId} {args : Array Value} {below : List Frame} {meth : Method} {c : Code} {A : Nat → Prop} {cells slots tc ts : Nat} {arr : Array Slot} {t : State}
    (C : gK g M n p e R s m args meth c A) (h1 : tc ≤ R.cells) (h2 : ts ≤ R.slots) (hl : lv_has arr M.2.2.1 ls) (h3 : cells + mc' + mc'' ≤ tc) (h4 : slots + ms' + ms'' ≤ ts) (h0 : M.2.2.2.2 = [])
    (hk : ∀ (v : Option Value) (es' : va_W), Psi (.inl v) es' → Go g M n mc'' ms'' (pc + len) ls (v.toList ++ st) es' Phi) (kt : ∀ (E : String) (es' : va_W), Psi (.inr E) es' → Phi (.inr E) es')
    (hB : gBack g p l e R s m args below meth c A (cells + mc') (slots + ms') len (F0 m pc arr st) Psi t) : ∃ t', Steps p.tables e below t t' ∧ gEnd g A s below tc ts Phi t' := by
  obtain ⟨T', locs', es', X', hP, hD, hS, ⟨v, rfl, hpsi⟩ | ⟨a, E, rfl, hx, hpsi⟩⟩ := hB
  · obtain ⟨t', q1, q2⟩ := hk v es' hpsi p l e R s m args below meth c A tc ts C h1 h2 T'.heap locs' _ _ arr hP hD hS hl h3 h4 T' rfl X'
    exact ⟨t', q1, q2⟩
  · have hout : ∀ x ∈ c.exceptionTable.toList, covers x (F0 m pc arr st).pc = false := by
      have h5 := C.hh
      rw [h0] at h5
      have h6 : c.exceptionTable.toList = [] := List.map_eq_nil_iff.mp h5
      intro x hx; rw [h6] at hx; cases hx
    obtain ⟨q1, q2, q3, q4, q5⟩ := X'.leaveThrown a (g := F0 m pc arr st) rfl rfl rfl hout C.hlk
    refine ⟨_, q1, .threw a, locs', es', q2, q3, q4, q5.mono (by omega) (by omega), hS.2.2, ?_, hP, hD, Or.inr ⟨a, E, rfl, hx, kt E es' hpsi⟩⟩
    exact ⟨hS.1, hS.2.1⟩
/-- a virtual call of a method of the receiver's own class -/
theorem go_callV {M' : gM} {mc' ms' mc'' ms'' : Nat} {As stk : List Value} {Psi : gR → va_W → Prop} {index b ci : Nat} {fs : List Value} {vc : vw_C} (q0 : Nat) (hst : stk = As.reverse ++ .ref b :: st) (he : es[q0]? = some (b, .inr (ci, fs))) (hvc : vwCl[ci]? = some vc) (hcl : vc.1 = M'.1.cls)
    (hlk : gH (.methodLink M.1.cls index M'.1)) (hin : gH (.instanceMethod M'.1)) (hse : gH (.selects M'.1.cls M'.1 M'.1)) (hco : gH (.code M'.1 M'.2.1 M'.2.2.1 M'.2.2.2.1)) (h0 : M'.2.2.2.2 = []) (h00 : M.2.2.2.2 = [])
    (hy : M'.1.cls ≠ "java/lang/invoke/MethodHandle" ∧ M'.1.cls ≠ "java/lang/invoke/VarHandle") (hpl : plainName M'.1.cls = true) (hlen : (parseMethodDescriptor M'.1.desc).map (fun d => d.parameters.length) = some As.length)
    (h13 : M'.2.2.1 ≤ 13) (hav : (lg_sl (.ref b :: As)).length ≤ M'.2.2.1) (h8 : (st.map fun v => v.category).sum ≤ 8) (hmc : mc' + mc'' ≤ mc) (hms : ms' + ms'' ≤ ms)
    (hd : decode M.2.1 pc = .ok (.invokevirtual index, 3)) (hc : Go g M' n mc' ms' 0 (lv_args 0 (.ref b :: As)) [] es Psi)
    (k : ∀ (v : Option Value) (es' : va_W), Psi (.inl v) es' → Go g M (n + 1) mc'' ms'' (pc + 3) ls (v.toList ++ st) es' Phi) (kt : ∀ (E : String) (es' : va_W), Psi (.inr E) es' → Phi (.inr E) es') : Go g M (n + 1) mc ms pc ls stk es Phi := by
  intro p l e R s m args below meth c A tc ts C h1 h2 H locs cells slots arr hP hD hS hl h3 h4 T hT X
  subst hst; subst hT
  have d2 := C.hts
  obtain ⟨mk, methM, hnamed, hmethM, hstM, habM⟩ := Cond.instanceMethod_spec (d2 _ hin.1 hin.2)
  have hcd := gCode_c hnamed (d2 _ hco.1 hco.2) h0
  obtain ⟨c2, r2, m2, q1, q2, q3, q4, kP, hkP, hkPi⟩ := Cond.selects_spec (d2 _ hse.1 hse.2)
  obtain ⟨cellB, w1, w2, w3⟩ := va_recv C.hk hP hvc he
  rw [hcl] at w3
  cases w3.symm.trans q1
  cases (State.methodFound?_of_named hnamed hy).symm.trans q2
  cases hnamed.symm.trans q3
  have hselP : selectMethod e.platform s.vm cellB.cls mk = .method mk := by rw [Launch.admits_selectMethod X.admits]; exact q4
  have hsig : As.length = methM.sig.parameters.length := by
    obtain ⟨methk, ck, k1, -, -, -, -, -, -, k8⟩ := id hcd
    cases hmethM.symm.trans k1
    rw [k8] at hlen
    exact (Option.some.inj hlen).symm
  obtain ⟨vm₁, X₁, hstep₁⟩ := X.invokevirtual C.hx C.hown (d2 _ hlk.1 hlk.2) hnamed hmethM hstM hkP hkPi hy (a := b) (cell := cellB) w1
    (fun z h => by rw [h] at w2; cases w2) hselP hmethM habM hkP hkPi (g := F0 m pc arr (As.reverse ++ .ref b :: st)) rfl (argsL := As) (rest := st) hsig rfl (by rw [C.hb]; exact hd)
  obtain ⟨t, hgo, hB⟩ := go_back (M' := M') (av := .ref b :: As) (f := F0 m pc arr st) C hc X₁ hP hD hS rfl (hl.1.trans C.hml.symm) (by rw [C.hb]; exact hd) (by show 2 * 0 + (st.map fun v => v.category).sum ≤ 8; omega) hnamed hpl hcd h13 hav (by omega) (by omega)
  obtain ⟨t', q1', q2'⟩ := go_on (mc'' := mc'') (ms'' := ms'') C h1 h2 hl (by omega) (by omega) h00 k kt hB
  exact ⟨t', hstep₁ _ (fun acts => (hgo acts).trans q1'), q2'⟩
/-- a static call -/
theorem go_callS {M' : gM} {mc' ms' mc'' ms'' : Nat} {As stk : List Value} {Psi : gR → va_W → Prop} {index : Nat} (hst : stk = As.reverse ++ st)
    (hlk : gH (.methodLink M.1.cls index M'.1)) (hsta : gH (.static M'.1)) (hini : gH (.initialized M'.1.cls)) (hco : gH (.code M'.1 M'.2.1 M'.2.2.1 M'.2.2.2.1)) (h0 : M'.2.2.2.2 = []) (h00 : M.2.2.2.2 = [])
    (hy : M'.1.cls ≠ "java/lang/invoke/MethodHandle" ∧ M'.1.cls ≠ "java/lang/invoke/VarHandle") (hpl : plainName M'.1.cls = true) (hlen : (parseMethodDescriptor M'.1.desc).map (fun d => d.parameters.length) = some As.length)
    (h13 : M'.2.2.1 ≤ 13) (hav : (lg_sl As).length ≤ M'.2.2.1) (h8 : (st.map fun v => v.category).sum ≤ 8) (hmc : mc' + mc'' ≤ mc) (hms : ms' + ms'' ≤ ms)
    (hd : decode M.2.1 pc = .ok (.invokestatic index, 3)) (hc : Go g M' n mc' ms' 0 (lv_args 0 As) [] es Psi)
    (k : ∀ (v : Option Value) (es' : va_W), Psi (.inl v) es' → Go g M (n + 1) mc'' ms'' (pc + 3) ls (v.toList ++ st) es' Phi) (kt : ∀ (E : String) (es' : va_W), Psi (.inr E) es' → Phi (.inr E) es') : Go g M (n + 1) mc ms pc ls stk es Phi := by
  intro p l e R s m args below meth c A tc ts C h1 h2 H locs cells slots arr hP hD hS hl h3 h4 T hT X
  subst hst; subst hT
  have d2 := C.hts
  obtain ⟨mk, hnamed⟩ := Cond.code_named (d2 _ hco.1 hco.2)
  have hcd := gCode_c hnamed (d2 _ hco.1 hco.2) h0
  obtain ⟨methM, ck, hmethM, -, -, -, -, -, -, k8⟩ := id hcd
  have hstatic : methM.isStatic = true := Cond.static_spec hnamed hmethM (d2 _ hsta.1 hsta.2)
  obtain ⟨kP, hkP, -⟩ := className_of_methodNamed hnamed
  have hinitP : kP.init = .initialized := Cond.initialized_spec (findClass_of_methodNamed hnamed) hkP (d2 _ hini.1 hini.2)
  have hsig : As.length = methM.sig.parameters.length := by
    rw [k8] at hlen
    exact (Option.some.inj hlen).symm
  obtain ⟨vm₁, X₁, hstep₁⟩ := X.invokestatic C.hx C.hown (d2 _ hlk.1 hlk.2) hnamed hmethM hstatic hkP hinitP hy (g := F0 m pc arr (As.reverse ++ st)) rfl (argsL := As) (rest := st) hsig rfl (by rw [C.hb]; exact hd)
  obtain ⟨t, hgo, hB⟩ := go_back (M' := M') (av := As) (f := F0 m pc arr st) C hc X₁ hP hD hS rfl (hl.1.trans C.hml.symm) (by rw [C.hb]; exact hd) (by show 2 * 0 + (st.map fun v => v.category).sum ≤ 8; omega) hnamed hpl hcd h13 hav (by omega) (by omega)
  obtain ⟨t', q1', q2'⟩ := go_on (mc'' := mc'') (ms'' := ms'') C h1 h2 hl (by omega) (by omega) h00 k kt hB
  exact ⟨t', hstep₁ _ (fun acts => (hgo acts).trans q1'), q2'⟩
end GC
