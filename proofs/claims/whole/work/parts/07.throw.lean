section GT
variable {g : gG} {M : gM} {n mc ms pc : Nat} {ls : List (Nat × Value)} {st : List Value} {es : va_W} {Phi : gR → va_W → Prop}
/-- a walk that stands in the middle of a method stands at its beginning, of a method that begins here -/
theorem gRebase {p : Program} {l : Launch} {e : Env} {R : Room} {s : State} {m : MethodId} {args : Array Value} {below : List Frame} {meth : Method} {c : Code} {T : State} {locs : List Loc} {cells slots : Nat} (X : Stand p l e R s m args below meth c T locs cells slots) (hc0 : cells ≤ R.cells) (hs0 : slots ≤ R.slots) :
    Stand p l e { frames := R.frames, cells := R.cells - cells, slots := R.slots - slots, locals := R.locals } (T.setFrames (.invoking m args :: below)) m args below meth c T [] 0 0 := by
  obtain ⟨g₀, hfr⟩ := X.frames_eq
  have hcur : T.cur < T.threads.size := State.cur_lt_of_frames hfr
  have hF : (T.setFrames (.invoking m args :: below)).frames = .invoking m args :: below := State.frames_setFrames _ hcur
  obtain ⟨th, hth, -⟩ := State.frames_cons hF
  obtain ⟨th0, hth0, -⟩ := State.frames_cons hfr
  have hal := X.warmed.alike
  refine ⟨X.admits, X.cas, X.clock, hF, ?_, ?_, X.method', X.code, X.here, X.tail, State.WarmedH.refl (T.setFrames (.invoking m args :: below)), (State.stackLimits_setFrames _ _ _).symm, (State.stackBytes_setFrames _ _).symm, ?_⟩
  · obtain ⟨r1, r2, r3, r4⟩ := State.hasRoom_stack X.room
    have r5 := State.hasRoom_real X.room
    have h := X.room
    simp only [State.hasRoom, Bool.and_eq_true, decide_eq_true_eq] at h
    rw [State.localsInUse_invoking X.frames X.method X.code] at r3 r4 r5
    rw [X.frames, List.length_cons] at r1 r2
    have hU : (T.setFrames (.invoking m args :: below)).localsInUse = stackWeight below + vmFrameWords + (c.maxLocals + 11) := State.localsInUse_invoking hF X.method' X.code
    have z1 := X.heapSize
    have z2 := X.used
    simp only [State.hasRoom, Bool.and_eq_true, decide_eq_true_eq, hF, hU, List.length_cons, State.stackLimits_setFrames, State.stackBytes_setFrames, X.limits, X.bytes]
    refine ⟨⟨⟨⟨by omega, by omega, by omega, by omega, by omega, h.1.1.1.2.2.2.2.2⟩, ?_⟩, ?_⟩, X.book⟩
    · have h9 := h.1.1.2
      show T.heap.size + (R.cells - cells) ≤ e.platform.maxCells
      omega
    · have h9 := h.1.2
      show T.slotsUsed + (R.slots - slots) ≤ e.platform.maxSlots
      omega
  · have h := X.hears
    cases below with
    | nil =>
      have h' : (s.vm.method? m).any (·.sig.returnType.isNone) = true := h
      show (T.vm.method? m).any (·.sig.returnType.isNone) = true
      rw [hal.method?]; exact h'
    | cons f r =>
      cases f with
      | java f0 =>
        have h' : ((s.code? f0.method).bind fun c => (decode c.code f0.pc).toOption).isSome = true := h
        show (((T.setFrames (.invoking m args :: .java f0 :: r)).code? f0.method).bind fun c => (decode c.code f0.pc).toOption).isSome = true
        have e1 : (T.setFrames (.invoking m args :: .java f0 :: r)).code? f0.method = s.code? f0.method := by
          rw [State.code?_eq, State.code?_eq]
          show (T.vm.method? f0.method).bind _ = _
          rw [hal.method?]
        rw [e1]; exact h'
      | native f0 => exact h
      | proc f0 => exact h
      | _ =>
        have h' : (s.vm.method? m).any (·.sig.returnType.isNone) = true := h
        show (T.vm.method? m).any (·.sig.returnType.isNone) = true
        rw [hal.method?]; exact h'
  · have h := (State.sameButNew.refl (T.setFrames (.invoking m args :: below)) hth).setFrames T.frames (State.cur_lt_of_frames hF)
    rw [State.setFrames_setFrames, State.setFrames_self hth0] at h
    exact h
/-- throw new E("text"), from a state that has just begun -/
theorem gThrow0 {E tx : String} {names : List String} {ik is ic : Nat} {p : Program} {l : Launch} {e : Env} {R : Room} {s : State} {m : MethodId} {args : Array Value} {below : List Frame} {meth : Method} {c : Code} {A : Nat → Prop} {arr : Array Slot}
    (C : gK g M (n + 1) p e R s m args meth c A) (hl : lv_has arr M.2.2.1 ls) (hstr : (M.1.cls, is, tx) ∈ gStr) (hcl : gH (.classLink M.1.cls ik E)) (hit : gH (.instantiable E 6)) (hini : gH (.initialized E)) (hfit : Jvm.Bundle.fit E = true) (hfn : ∀ x ∈ names, Jvm.Bundle.fit x = true) (hnl : names.length ≤ 2)
    (hat : ∀ a ∈ Jvm.Bundle.ownAtoms M.1.cls ic E names, gH a ∨ a = .isRef (.static Jvm.Bundle.tN "UNASSIGNED_STACK" Jvm.Bundle.steD) ∨ a = .isRef (.static Jvm.Bundle.tN "SUPPRESSED_SENTINEL" Jvm.Bundle.listD)) (h00 : M.2.2.2.2 = [])
    (hz1 : (Cond.isRef (.static Jvm.Bundle.tN "UNASSIGNED_STACK" Jvm.Bundle.steD)).before args s = true) (hz2 : (Cond.isRef (.static Jvm.Bundle.tN "SUPPRESSED_SENTINEL" Jvm.Bundle.listD)).before args s = true)
    (h1 : 1 ≤ R.cells) (h2 : 6 ≤ R.slots) (h8 : (st.map fun v => v.category).sum ≤ 8)
    (d0 : decode M.2.1 pc = .ok (.new ik, 3)) (d1 : decode M.2.1 (pc + 3) = .ok (.dup, 1)) (d2 : decode M.2.1 (pc + 4) = .ok (.ldc is, 2)) (d3 : decode M.2.1 (pc + 6) = .ok (.invokespecial ic, 3)) (d4 : decode M.2.1 (pc + 9) = .ok (.athrow, 1)) :
    W p l e R s m args below meth c s.heap [] 0 0 (fun t => ∃ a : Addr, t.status = .running ∧ Ended t below (.threw a) ∧ s.WarmedH t.vm ∧ s.sameButNew ({ t with vm := s.vm } : State) [] 1 6 ∧ gX E a s t) (F0 m pc arr st) := by
  have hout : ∀ pc0, ∀ x ∈ c.exceptionTable.toList, covers x pc0 = false := by
    have h5 := C.hh
    rw [h00] at h5
    have h6 : c.exceptionTable.toList = [] := List.map_eq_nil_iff.mp h5
    intro pc0 x hx; rw [h6] at hx; cases hx
  refine W.newc (n := 6) C.hx C.hb C.hown (C.hts _ hcl.1 hcl.2) (C.hts _ hit.1 hit.2) (C.hts _ hini.1 hini.2) (g := F0 m pc arr st) rfl d0 (by omega) (by omega) (fun cC kC hC hk hord hn6 => ?_)
  refine W.eq (g2 := F0 m (pc + 3) arr (.ref s.heap.size :: st)) rfl ?_
  refine lv_dup C.hx C.hb d1 rfl ?_
  obtain ⟨a, hR⟩ := C.2.1.2.2.2.2.2.2.2.2.2.2.1 _ hstr
  refine va_ldcS (tx := tx) (q := a) C.hx C.hb C.hown hR d2 ?_
  intro T hT X
  obtain ⟨U, u1, u2, u3, u4, u5, ce, u6, u7⟩ := X.ctorThrowS C.hx C.2.1.2.2.2.2.2.2.2.2.2.1 (own := M.1.cls) (cls := E) (names := names) (ic := ic) C.hown hfit hfn
    (fun w hw => by
      rcases hat w hw with h | h | h
      · exact C.hts _ h.1 h.2
      · rw [h]; exact hz1
      · rw [h]; exact hz2)
    (fun x hx => by cases hx) (a := s.heap.size) (cX := cC) (kX := kC) hC hk (by rw [hT, Array.getElem?_push_size]) (Nat.le_refl _) (msg := .ref a) rfl (g := F0 m (pc + 6) arr (.ref a :: .ref s.heap.size :: .ref s.heap.size :: st)) rfl (hl.1.trans C.hml.symm) rfl rfl (rest := st) rfl (by rw [C.hb]; exact d3) (by rw [C.hb]; exact d4) (hout _)
    (by have := C.hfr; omega) (by have := C.hlo; show 2 * 0 + (1 + (st.map fun v => v.category).sum) + (13 * (names.length + 1) + 42) ≤ R.locals; omega) C.hlk
  exact ⟨U, u1, s.heap.size, u2, u3, u4, u5, ce, u6, u7.cls, by rw [u7.vm]; rfl⟩
theorem gZq {args : Array Value} {s : State} {C nm d : String} {A : Nat → Prop} (h : va_Zq C nm d A s s.heap) : (Cond.isRef (.static C nm d)).before args s = true := by
  rcases h with h | ⟨t, h⟩
  · obtain ⟨cf, kf, fi, f, a, cell, q1, q2, q3, q4, q5, q6, q7, q8⟩ := h
    have hv : (Term.static C nm d).eval args s none [] s = some .null := by
      simp [Term.eval, State.fieldNamed?, q1, q2, q4, q5, q6, q7]
    simp [Cond.before, Cond.holds, Cond.value, hv]
  · obtain ⟨cf, kf, fi, f, a, cell, q1, q2, q3, q4, q5, q6, q7, q8⟩ := h
    have hv : (Term.static C nm d).eval args s none [] s = some (.ref t) := by
      simp [Term.eval, State.fieldNamed?, q1, q2, q4, q5, q6, q7]
    simp [Cond.before, Cond.holds, Cond.value, hv]
theorem gSame_keep {s t : State} {cells slots : Nat} (h : s.sameButNew ({ t with vm := s.vm } : State) [] cells slots) : s.heap.size ≤ t.heap.size ∧ ∀ q : Nat, q < s.heap.size → t.heap[q]? = s.heap[q]? := by
  obtain ⟨-, h2, -, -, -, h6⟩ := h
  refine ⟨h2, fun q hq => ?_⟩
  have hc : s.heap[q]? = some s.heap[q] := Array.getElem?_eq_getElem hq
  obtain ⟨c', h7, h8, h9, h10⟩ := h6 q _ hc
  have h7' : t.heap[q]? = some c' := h7
  rw [h7', hc]
  congr 1
  rw [h8]
  have : c'.slots = s.heap[q].slots := by
    apply Array.ext_getElem?
    intro i
    exact h10 i (by simp)
  rw [this]
/-- throw new E("text") -/
theorem go_throw {E tx : String} {names : List String} {ik is ic : Nat} (hstr : (M.1.cls, is, tx) ∈ gStr) (hcl : gH (.classLink M.1.cls ik E)) (hit : gH (.instantiable E 6)) (hini : gH (.initialized E)) (hfit : Jvm.Bundle.fit E = true) (hfn : ∀ x ∈ names, Jvm.Bundle.fit x = true) (hnl : names.length ≤ 2)
    (hat : ∀ a ∈ Jvm.Bundle.ownAtoms M.1.cls ic E names, gH a ∨ a = .isRef (.static Jvm.Bundle.tN "UNASSIGNED_STACK" Jvm.Bundle.steD) ∨ a = .isRef (.static Jvm.Bundle.tN "SUPPRESSED_SENTINEL" Jvm.Bundle.listD)) (h00 : M.2.2.2.2 = [])
    (hmc : 1 ≤ mc) (hms : 6 ≤ ms) (h8 : (st.map fun v => v.category).sum ≤ 8)
    (d0 : decode M.2.1 pc = .ok (.new ik, 3)) (d1 : decode M.2.1 (pc + 3) = .ok (.dup, 1)) (d2 : decode M.2.1 (pc + 4) = .ok (.ldc is, 2)) (d3 : decode M.2.1 (pc + 6) = .ok (.invokespecial ic, 3)) (d4 : decode M.2.1 (pc + 9) = .ok (.athrow, 1))
    (hf : Phi (.inr E) es) : Go g M (n + 1) mc ms pc ls st es Phi := by
  intro p l e R s m args below meth c A tc ts C h1 h2 H locs cells slots arr hP hD hS hl h3 h4 T hT X
  subst hT
  have Xb := gRebase X (by omega) (by omega)
  have hal := X.warmed.alike
  have C' : gK g M (n + 1) p e { frames := R.frames, cells := R.cells - cells, slots := R.slots - slots, locals := R.locals } (T.setFrames (.invoking m args :: below)) m args meth c (va_A es T.heap.size) := by
    refine ⟨⟨C.hx, C.hb, C.hml, C.hr, C.hlk, C.hnm, C.hh, ?_⟩, C.2.1.move (s2 := T.setFrames (.invoking m args :: below)) X.warmed rfl rfl hP hD hS, C.hfr, C.hlo⟩
    show T.vm.findClass _ = _
    rw [hal.findClass]; exact C.hown
  obtain ⟨t, q0, a, q1, q2, q3, q4, q5⟩ := gThrow0 (l := l) (below := below) C' hl hstr hcl hit hini hfit hfn hnl hat h00 (gZq C'.2.1.2.2.2.2.2.2.2.1) (gZq C'.2.1.2.2.2.2.2.2.2.2.1) (by show 1 ≤ R.cells - cells; omega) (by show 6 ≤ R.slots - slots; omega) h8 d0 d1 d2 d3 d4 T rfl Xb
  obtain ⟨k1, k2⟩ := gSame_keep q4
  have k1' : T.heap.size ≤ t.heap.size := k1
  have k2' : ∀ q : Nat, q < T.heap.size → t.heap[q]? = T.heap[q]? := k2
  have hW : s.WarmedH t.vm := State.WarmedH.trans (t := T.setFrames (.invoking m args :: below)) X.warmed q3
  have hsame : s.sameButNew ({ t with vm := s.vm } : State) (locs ++ []) (cells + 1) (slots + 6) := by
    have z : (T.setVm s.vm).sameButNew ({ t with vm := s.vm } : State) [] 1 6 := by
      obtain ⟨y1, y2, y3, y4, y5, y6⟩ := q4
      refine ⟨?_, y2, y3, y4, y5, y6⟩
      have y0 : ({ t with vm := T.vm } : State) = { (T.setFrames (.invoking m args :: below)).setFrames t.frames with heap := t.heap, slotsUsed := t.slotsUsed } := y1
      rw [State.setFrames_setFrames] at y0
      exact congrArg (fun u : State => u.setVm s.vm) y0
    exact X.same.trans z
  rw [List.append_nil] at hsame
  have hP' : va_P g.1 vwCl es t.heap := fun k q hk => (hP k q hk).kept (k2' _ (hP k q hk).lt)
  obtain ⟨cell, x1, x2, x3⟩ := q5
  refine ⟨t, q0, .threw a, locs, es, q1, q2, hW, hsame.mono (by omega) (by omega), hS.2.2, ⟨Nat.le_trans hS.1 k1', fun q z1 z2 => ?_⟩, hP', hD, Or.inr ⟨a, E, rfl, ⟨cell, x1, ?_, x3⟩, hf⟩⟩
  · rw [k2' q (Nat.lt_of_lt_of_le z1 hS.1)]; exact hS.2.1 q z1 z2
  · have x2' : T.vm.findClass E = some cell.cls := x2
    rw [← hal.findClass]; exact x2'
end GT
