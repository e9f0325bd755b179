/-! A plain logic over W: Go says that the method M, at pc with locals ls, operand stack st and the world es, comes to its end with Phi. Own work; every rule stands on a row of the kit. -/
/-- what is fixed through a run: class numbers and slots, array classes, the script (address, length, ints) -/
abbrev gG : Type := va_G × List (ClassId × FieldType) × Nat × Nat × (Nat → Int32)
def gX (E : String) (a : Nat) (s t : State) : Prop := ∃ cell : Cell, t.heap[a]? = some cell ∧ s.vm.findClass E = some cell.cls ∧ cell.vm.isStatics = false
def gEnd (g : gG) (A : Nat → Prop) (s : State) (below : List Frame) (mc ms : Nat) (Phi : gR → va_W → Prop) (t : State) : Prop :=
  ∃ (o : Outcome) (L : List Loc) (es : va_W), t.status = .running ∧ Ended t below o ∧ s.WarmedH t.vm ∧ s.sameButNew ({ t with vm := s.vm } : State) L mc ms ∧ (∀ q ∈ L, A q.base) ∧ va_F A s t ∧ va_P g.1 vwCl es t.heap ∧ va_D A es ∧
    ((∃ v : Option Value, o = .returned v ∧ Phi (.inl v) es) ∨ ∃ (a : Addr) (E : String), o = .threw a ∧ gX E a s t ∧ Phi (.inr E) es)
/-- the frame's own facts -/
def gF (M : gM) (p : Program) (s : State) (m : MethodId) (meth : Method) (c : Code) : Prop :=
  p.tables.exec = Jvm.exec ∧ c.code = M.2.1 ∧ c.maxLocals = M.2.2.1 ∧ meth.sig.returnType = M.2.2.2.1 ∧ meth.locks = false ∧ meth.name = M.1.name ∧
    c.exceptionTable.toList.map (fun h => (h.startPc, h.endPc, h.handlerPc, h.catchType)) = M.2.2.2.2 ∧ s.vm.findClass M.1.cls = some m.cls
/-- a static of a class: where it lies, and that it holds a reference or null -/
def gLs (C nm d : String) (A : Nat → Prop) (U : State) (H : Heap) : Prop := ∃ (c : ClassId) (k : Class) (i : Nat) (f : Field) (a : Nat) (cell : Cell), (U.vm.findClass C = some c ∧ U.fieldFound? C nm d = some (c, k, i, f) ∧ f.isStatic = true ∧ k.statics = some a ∧ k.staticTypes[f.slot]? = some f.type) ∧ H[a]? = some cell ∧ (cell.vm.isStatics = true ∧ cell.cls = c ∧ f.slot < cell.slots.size) ∧ ¬ A a
def gZs (C nm d : String) (A : Nat → Prop) (U : State) (H : Heap) : Prop := va_Zq C nm d A U H ∧ gLs C nm d A U H
theorem gZs.go {C nm d : String} {A B : Nat → Prop} {u U : State} {H H1 : Heap} (h : gZs C nm d A u H) (hvm : u.vm.Alike U.vm) (hq : ∀ a : Nat, a < H.size → ¬ A a → H1[a]? = H[a]?) (hAB : ∀ q, B q → A q) : gZs C nm d B U H1 := by
  refine ⟨va_Zq.moved hvm ((h.1.kept hq).narrow hAB), ?_⟩
  obtain ⟨c, k, i, f, a, cell, ⟨q1, q2, q3, q4, q5⟩, q6, q7, q8⟩ := h.2
  obtain ⟨k', hi', he⟩ := State.fieldFound?_setVm hvm q2
  exact ⟨c, k', i, f, a, cell, ⟨by rw [hvm.findClass]; exact q1, hi', q3, by rw [he]; exact q4, by rw [he]; exact q5⟩, by rw [hq a (Array.getElem?_eq_some_iff.mp q6).1 q8]; exact q6, q7, fun z => q8 (hAB _ z)⟩
theorem gZs.lay {C nm d : String} {A : Nat → Prop} {s : State} {args : Array Value} (h : gZs C nm d A s s.heap) : (Cond.laysStatic C nm d).before args s = true := by
  obtain ⟨c, k, i, f, a, cell, ⟨q1, q2, q3, q4, q5⟩, q6, ⟨q7, q8, q9⟩, -⟩ := h.2
  show (Cond.laysStatic C nm d).holds args s none s [] = true
  exact Cond.laysStatic_of q1 q2 q3 q4 q6 q7 q8 q9 q5
theorem gZs.of {args : Array Value} {s : State} {C nm d : String} {A : Nat → Prop} (hl : (Cond.laysStatic C nm d).before args s = true) (hini : (Cond.initialized C).before args s = true) (h : (Cond.isRef (.static C nm d)).before args s = true) (hA : ∀ a : Nat, a < s.heap.size → ¬ A a) : gZs C nm d A s s.heap := by
  refine ⟨va_Zqof hl hini h hA, ?_⟩
  obtain ⟨c, k, i, f, a, cell, q1, q2, q3, q4, q5, q6, q7, q8, q9⟩ := Cond.laysStatic_spec hl
  exact ⟨c, k, i, f, a, cell, ⟨q1, q2, q3, q4, q9⟩, q5, ⟨q6, q7, q8⟩, hA a (Array.getElem?_eq_some_iff.mp q5).1⟩
/-- what stands around it: the tables' words, the classes, which cells are free, the script, Throwable's two statics, no stack traces, the texts -/
def gE (g : gG) (e : Env) (s : State) (args : Array Value) (A : Nat → Prop) : Prop :=
  (∀ w ∈ lw_tbl, gGood w = true → w.before args s = true) ∧ va_K g.1 vwCl g.2.1 s ∧ (∀ q, s.heap.size ≤ q → A q) ∧ (∀ q cell, A q → s.heap[q]? = some cell → cell.vm.isStatics = false) ∧
    va_X g.2.2.1 g.2.2.2.1 g.2.2.2.2 s s.heap ∧ g.2.2.1 < s.heap.size ∧ ¬ A g.2.2.1 ∧
    gZs Jvm.Bundle.tN "UNASSIGNED_STACK" Jvm.Bundle.steD A s s.heap ∧ gZs Jvm.Bundle.tN "SUPPRESSED_SENTINEL" Jvm.Bundle.listD A s s.heap ∧ e.platform.stackTraces = false ∧
    (∀ q ∈ gStr, ∃ a : Nat, vk_R q.1 q.2.1 q.2.2 a s) ∧ ∀ q ∈ gNc, va_Nc q.1 q.2 s
def gK (g : gG) (M : gM) (n : Nat) (p : Program) (e : Env) (R : Room) (s : State) (m : MethodId) (args : Array Value) (meth : Method) (c : Code) (A : Nat → Prop) : Prop :=
  gF M p s m meth c ∧ gE g e s args A ∧ n + 5 ≤ R.frames ∧ 32 * n + 200 ≤ R.locals
section GKA
variable {g : gG} {M : gM} {n : Nat} {p : Program} {e : Env} {R : Room} {s : State} {m : MethodId} {args : Array Value} {meth : Method} {c : Code} {A : Nat → Prop}
theorem gK.hx (C : gK g M n p e R s m args meth c A) : p.tables.exec = Jvm.exec := C.1.1
theorem gK.hb (C : gK g M n p e R s m args meth c A) : c.code = M.2.1 := C.1.2.1
theorem gK.hml (C : gK g M n p e R s m args meth c A) : c.maxLocals = M.2.2.1 := C.1.2.2.1
theorem gK.hr (C : gK g M n p e R s m args meth c A) : meth.sig.returnType = M.2.2.2.1 := C.1.2.2.2.1
theorem gK.hlk (C : gK g M n p e R s m args meth c A) : meth.locks = false := C.1.2.2.2.2.1
theorem gK.hnm (C : gK g M n p e R s m args meth c A) : meth.name = M.1.name := C.1.2.2.2.2.2.1
theorem gK.hh (C : gK g M n p e R s m args meth c A) : c.exceptionTable.toList.map (fun h => (h.startPc, h.endPc, h.handlerPc, h.catchType)) = M.2.2.2.2 := C.1.2.2.2.2.2.2.1
theorem gK.hown (C : gK g M n p e R s m args meth c A) : s.vm.findClass M.1.cls = some m.cls := C.1.2.2.2.2.2.2.2
theorem gK.hts (C : gK g M n p e R s m args meth c A) : ∀ w ∈ lw_tbl, gGood w = true → w.before args s = true := C.2.1.1
theorem gK.hk (C : gK g M n p e R s m args meth c A) : va_K g.1 vwCl g.2.1 s := C.2.1.2.1
theorem gK.hA (C : gK g M n p e R s m args meth c A) : ∀ q, s.heap.size ≤ q → A q := C.2.1.2.2.1
theorem gK.hX (C : gK g M n p e R s m args meth c A) : va_X g.2.2.1 g.2.2.2.1 g.2.2.2.2 s s.heap := C.2.1.2.2.2.2.1
theorem gK.hXl (C : gK g M n p e R s m args meth c A) : g.2.2.1 < s.heap.size := C.2.1.2.2.2.2.2.1
theorem gK.hXA (C : gK g M n p e R s m args meth c A) : ¬ A g.2.2.1 := C.2.1.2.2.2.2.2.2.1
theorem gK.hfr (C : gK g M n p e R s m args meth c A) : n + 5 ≤ R.frames := C.2.2.1
theorem gK.hlo (C : gK g M n p e R s m args meth c A) : 32 * n + 200 ≤ R.locals := C.2.2.2
theorem gA_stat {es : va_W} {H : Heap} (hP : va_P g.1 vwCl es H) : ∀ (q : Nat) (cell : Cell), va_A es H.size q → H[q]? = some cell → cell.vm.isStatics = false := by
  intro q cell h hc
  rcases h with ⟨k, x, hk⟩ | h
  · have h1 := hP k (q, x) hk
    cases x with
    | inl a =>
      have h2 : H[q]? = some (vp_cell a.1 a.2) := h1
      rw [hc] at h2
      cases h2
      obtain ⟨a1, a2, a3⟩ := a
      rcases a3 with f | f | f | f | f <;> rfl
    | inr o =>
      obtain ⟨r, -, c2, h2, -, h4, -⟩ := h1
      have h2' : H[q]? = some c2 := h2
      rw [hc] at h2'
      cases h2'
      rw [h4]; rfl
  · rw [Array.getElem?_eq_none h] at hc; cases hc
theorem gA_sub {es : va_W} {H : Heap} {locs : List Loc} (hA : ∀ q, s.heap.size ≤ q → A q) (hD : va_D A es) (hS : va_S A s.heap H locs) : ∀ q, va_A es H.size q → A q := by
  intro q h
  rcases h with ⟨k, x, hk⟩ | h
  · exact hD.2 k (q, x) hk
  · exact hA q (Nat.le_trans hS.1 h)
/-- what stands around a frame stands around the next one, whose cells are the world's and the new ones -/
theorem gE.move {T s2 : State} {args2 : Array Value} {es : va_W} {locs : List Loc} (E : gE g e s args A) (hW : s.WarmedH T.vm) (hv : s2.vm = T.vm) (hh : s2.heap = T.heap) (hP : va_P g.1 vwCl es T.heap) (hD : va_D A es) (hS : va_S A s.heap T.heap locs) : gE g e s2 args2 (va_A es T.heap.size) := by
  obtain ⟨d2, d3, e1, e2, e3, e4, e5, f1, f2, f3, f4, f5⟩ := E
  have hW2 : s.WarmedH s2.vm := by rw [hv]; exact hW
  have hal : s.vm.Alike s2.vm := hW2.alike
  have hAB := gA_sub e1 hD hS
  refine ⟨?_, va_K.moved hal d3, ?_, ?_, ?_, ?_, fun h => e5 (hAB _ h), ?_, ?_, f3, ?_, fun q hq => va_Nc.moved hal (f5 q hq)⟩
  · intro w hw hg
    exact gWord_at (s := s) (U := s2) hW2 hg (d2 w hw hg)
  · intro q h; rw [hh] at h; exact Or.inr h
  · rw [hh]; exact gA_stat hP
  · rw [hh]; exact va_X.moved hal (e3.kept (H1 := T.heap) (hS.2.1 _ e4 e5))
  · rw [hh]; exact Nat.lt_of_lt_of_le e4 hS.1
  · rw [hh]; exact f1.go hal hS.2.1 hAB
  · rw [hh]; exact f2.go hal hS.2.1 hAB
  · intro q hq
    obtain ⟨a, ha⟩ := f4 q hq
    exact ⟨a, vk_R.warm hW2 ha⟩
end GKA
def Go (g : gG) (M : gM) (n mc ms pc : Nat) (ls : List (Nat × Value)) (st : List Value) (es : va_W) (Phi : gR → va_W → Prop) : Prop :=
  ∀ (p : Program) (l : Launch) (e : Env) (R : Room) (s : State) (m : MethodId) (args : Array Value) (below : List Frame) (meth : Method) (c : Code) (A : Nat → Prop) (tc ts : Nat), gK g M n p e R s m args meth c A → tc ≤ R.cells → ts ≤ R.slots →
    ∀ (H : Heap) (locs : List Loc) (cells slots : Nat) (arr : Array Slot), va_P g.1 vwCl es H → va_D A es → va_S A s.heap H locs → lv_has arr M.2.2.1 ls → cells + mc ≤ tc → slots + ms ≤ ts →
      W p l e R s m args below meth c H locs cells slots (gEnd g A s below tc ts Phi) (F0 m pc arr st)
section GO
variable {g : gG} {M : gM} {n mc ms pc : Nat} {ls : List (Nat × Value)} {st : List Value} {es : va_W} {Phi : gR → va_W → Prop}
/-- a step that changes pc and stack alone -/
theorem go_lift {pc' : Nat} {st' : List Value}
    (h : ∀ (p : Program) (l : Launch) (e : Env) (R : Room) (s : State) (m : MethodId) (args : Array Value) (below : List Frame) (meth : Method) (c : Code) (H : Heap) (locs : List Loc) (cells slots : Nat) (Q : State → Prop) (arr : Array Slot), p.tables.exec = Jvm.exec → c.code = M.2.1 → lv_has arr M.2.2.1 ls →
      W p l e R s m args below meth c H locs cells slots Q (F0 m pc' arr st') → W p l e R s m args below meth c H locs cells slots Q (F0 m pc arr st))
    (k : Go g M n mc ms pc' ls st' es Phi) : Go g M n mc ms pc ls st es Phi := by
  intro p l e R s m args below meth c A tc ts C h1 h2 H locs cells slots arr hP hD hS hl h3 h4
  exact h p l e R s m args below meth c H locs cells slots _ arr C.hx C.hb hl (k p l e R s m args below meth c A tc ts C h1 h2 H locs cells slots arr hP hD hS hl h3 h4)
/-- two ways on -/
theorem go_lift2 {pa pb : Nat} {sa : List Value} {P : Prop}
    (h : ∀ (p : Program) (l : Launch) (e : Env) (R : Room) (s : State) (m : MethodId) (args : Array Value) (below : List Frame) (meth : Method) (c : Code) (H : Heap) (locs : List Loc) (cells slots : Nat) (Q : State → Prop) (arr : Array Slot), p.tables.exec = Jvm.exec → c.code = M.2.1 → lv_has arr M.2.2.1 ls →
      (P → W p l e R s m args below meth c H locs cells slots Q (F0 m pa arr sa)) → (¬ P → W p l e R s m args below meth c H locs cells slots Q (F0 m pb arr sa)) → W p l e R s m args below meth c H locs cells slots Q (F0 m pc arr st))
    (ka : P → Go g M n mc ms pa ls sa es Phi) (kb : ¬ P → Go g M n mc ms pb ls sa es Phi) : Go g M n mc ms pc ls st es Phi := by
  intro p l e R s m args below meth c A tc ts C h1 h2 H locs cells slots arr hP hD hS hl h3 h4
  exact h p l e R s m args below meth c H locs cells slots _ arr C.hx C.hb hl (fun q => ka q p l e R s m args below meth c A tc ts C h1 h2 H locs cells slots arr hP hD hS hl h3 h4) (fun q => kb q p l e R s m args below meth c A tc ts C h1 h2 H locs cells slots arr hP hD hS hl h3 h4)
/-- a step that stores into a local -/
theorem go_lift3 {pc' : Nat} {st' : List Value} {ls' : List (Nat × Value)}
    (h : ∀ (p : Program) (l : Launch) (e : Env) (R : Room) (s : State) (m : MethodId) (args : Array Value) (below : List Frame) (meth : Method) (c : Code) (H : Heap) (locs : List Loc) (cells slots : Nat) (Q : State → Prop) (arr : Array Slot), p.tables.exec = Jvm.exec → c.code = M.2.1 → lv_has arr M.2.2.1 ls →
      (∀ arr' : Array Slot, lv_has arr' M.2.2.1 ls' → W p l e R s m args below meth c H locs cells slots Q (F0 m pc' arr' st')) → W p l e R s m args below meth c H locs cells slots Q (F0 m pc arr st))
    (k : Go g M n mc ms pc' ls' st' es Phi) : Go g M n mc ms pc ls st es Phi := by
  intro p l e R s m args below meth c A tc ts C h1 h2 H locs cells slots arr hP hD hS hl h3 h4
  exact h p l e R s m args below meth c H locs cells slots _ arr C.hx C.hb hl (fun arr' hl' => k p l e R s m args below meth c A tc ts C h1 h2 H locs cells slots arr' hP hD hS hl' h3 h4)
/-- fewer locals, in another order -/
theorem go_ls {ls' : List (Nat × Value)} (ks : List Nat) (hl : lv_pick ls ks = ls') (k : Go g M n mc ms pc ls' st es Phi) : Go g M n mc ms pc ls st es Phi := by
  intro p l e R s m args below meth c A tc ts C h1 h2 H locs cells slots arr hP hD hS hl' h3 h4
  exact k p l e R s m args below meth c A tc ts C h1 h2 H locs cells slots arr hP hD hS (lv_sub hl' ks hl) h3 h4
theorem go_es {es' : va_W} (h : es = es') (k : Go g M n mc ms pc ls st es' Phi) : Go g M n mc ms pc ls st es Phi := h ▸ k
theorem go_pc {pc' : Nat} (h : pc = pc') (k : Go g M n mc ms pc' ls st es Phi) : Go g M n mc ms pc ls st es Phi := h ▸ k
theorem go_st {st' : List Value} (h : st = st') (k : Go g M n mc ms pc ls st' es Phi) : Go g M n mc ms pc ls st es Phi := h ▸ k
theorem go_less {mc' ms' : Nat} (h1 : mc' ≤ mc) (h2 : ms' ≤ ms) (k : Go g M n mc' ms' pc ls st es Phi) : Go g M n mc ms pc ls st es Phi := by
  intro p l e R s m args below meth c A tc ts C q1 q2 H locs cells slots arr hP hD hS hl h3 h4
  exact k p l e R s m args below meth c A tc ts C q1 q2 H locs cells slots arr hP hD hS hl (by omega) (by omega)
theorem go_deep {n' : Nat} (h : n' ≤ n) (k : Go g M n' mc ms pc ls st es Phi) : Go g M n mc ms pc ls st es Phi := by
  intro p l e R s m args below meth c A tc ts C q1 q2 H locs cells slots arr hP hD hS hl h3 h4
  obtain ⟨c1, c2, c3, c4⟩ := C
  exact k p l e R s m args below meth c A tc ts ⟨c1, c2, by omega, by omega⟩ q1 q2 H locs cells slots arr hP hD hS hl h3 h4
theorem go_imp {Psi : gR → va_W → Prop} (h : ∀ r w, Psi r w → Phi r w) (k : Go g M n mc ms pc ls st es Psi) : Go g M n mc ms pc ls st es Phi := by
  intro p l e R s m args below meth c A tc ts C h1 h2 H locs cells slots arr hP hD hS hl h3 h4 T hT X
  obtain ⟨t, a, o, L, es', b1, b2, b3, b4, b5, b6, b7, b8, b9⟩ := k p l e R s m args below meth c A tc ts C h1 h2 H locs cells slots arr hP hD hS hl h3 h4 T hT X
  refine ⟨t, a, o, L, es', b1, b2, b3, b4, b5, b6, b7, b8, ?_⟩
  rcases b9 with ⟨v, q1, q2⟩ | ⟨x, E, q1, q2, q3⟩
  · exact Or.inl ⟨v, q1, h _ _ q2⟩
  · exact Or.inr ⟨x, E, q1, q2, h _ _ q3⟩
theorem go_iconst {z : Int} {v : Int32} (hv : Int32.ofInt z = v) (hd : decode M.2.1 pc = .ok (.iconst z, 1)) (k : Go g M n mc ms (pc + 1) ls (.int v :: st) es Phi) : Go g M n mc ms pc ls (st) es Phi := go_lift (fun _ _ _ _ _ _ _ _ _ _ _ _ _ _ _ _ hx hb hl k => lv_iconst hx hb hd hv k) k
theorem go_bipush {z : Int} {v : Int32} (hv : (Int8.ofInt z).toInt32 = v) (hd : decode M.2.1 pc = .ok (.bipush z, 2)) (k : Go g M n mc ms (pc + 2) ls (.int v :: st) es Phi) : Go g M n mc ms pc ls (st) es Phi := go_lift (fun _ _ _ _ _ _ _ _ _ _ _ _ _ _ _ _ hx hb hl k => lv_bipush hx hb hd hv k) k
theorem go_sipush {z : Int} {v : Int32} (hv : (Int16.ofInt z).toInt32 = v) (hd : decode M.2.1 pc = .ok (.sipush z, 3)) (k : Go g M n mc ms (pc + 3) ls (.int v :: st) es Phi) : Go g M n mc ms pc ls (st) es Phi := go_lift (fun _ _ _ _ _ _ _ _ _ _ _ _ _ _ _ _ hx hb hl k => lv_sipush hx hb hd hv k) k
theorem go_lconst {z : Fin 2} {v : Int64} (hv : Int64.ofNat (z : Nat) = v) (hd : decode M.2.1 pc = .ok (.lconst z, 1)) (k : Go g M n mc ms (pc + 1) ls (.long v :: st) es Phi) : Go g M n mc ms pc ls (st) es Phi := go_lift (fun _ _ _ _ _ _ _ _ _ _ _ _ _ _ _ _ hx hb hl k => lv_lconst hx hb hd hv k) k
theorem go_iload_n {k0 : Fin 4} {x : Int32} (i q : Nat) (hi : (k0 : Nat) = i) (hq : ls[q]? = some (i, .int x)) (hd : decode M.2.1 pc = .ok (.iload_n k0, 1)) (k : Go g M n mc ms (pc + 1) ls (.int x :: st) es Phi) : Go g M n mc ms pc ls (st) es Phi := go_lift (fun _ _ _ _ _ _ _ _ _ _ _ _ _ _ _ _ hx hb hl k => lv_iload_n hx hb hd hi (lv_at hl q hq) k) k
theorem go_iload {x : Int32} (i q : Nat) (hq : ls[q]? = some (i, .int x)) (hd : decode M.2.1 pc = .ok (.iload i, 2)) (k : Go g M n mc ms (pc + 2) ls (.int x :: st) es Phi) : Go g M n mc ms pc ls (st) es Phi := go_lift (fun _ _ _ _ _ _ _ _ _ _ _ _ _ _ _ _ hx hb hl k => lv_iload hx hb hd (lv_at hl q hq) k) k
theorem go_aload_n {k0 : Fin 4} {x : Nat} (i q : Nat) (hi : (k0 : Nat) = i) (hq : ls[q]? = some (i, .ref x)) (hd : decode M.2.1 pc = .ok (.aload_n k0, 1)) (k : Go g M n mc ms (pc + 1) ls (.ref x :: st) es Phi) : Go g M n mc ms pc ls (st) es Phi := go_lift (fun _ _ _ _ _ _ _ _ _ _ _ _ _ _ _ _ hx hb hl k => lv_aload_n hx hb hd hi (lv_at hl q hq) k) k
theorem go_aload {x : Nat} (i q : Nat) (hq : ls[q]? = some (i, .ref x)) (hd : decode M.2.1 pc = .ok (.aload i, 2)) (k : Go g M n mc ms (pc + 2) ls (.ref x :: st) es Phi) : Go g M n mc ms pc ls (st) es Phi := go_lift (fun _ _ _ _ _ _ _ _ _ _ _ _ _ _ _ _ hx hb hl k => lv_aload hx hb hd (lv_at hl q hq) k) k
theorem go_iadd {x y : Int32} (hd : decode M.2.1 pc = .ok (.iadd, 1)) (k : Go g M n mc ms (pc + 1) ls (.int (x + y) :: st) es Phi) : Go g M n mc ms pc ls (.int y :: .int x :: st) es Phi := go_lift (fun _ _ _ _ _ _ _ _ _ _ _ _ _ _ _ _ hx hb hl k => lv_iadd hx hb hd k) k
theorem go_isub {x y : Int32} (hd : decode M.2.1 pc = .ok (.isub, 1)) (k : Go g M n mc ms (pc + 1) ls (.int (x - y) :: st) es Phi) : Go g M n mc ms pc ls (.int y :: .int x :: st) es Phi := go_lift (fun _ _ _ _ _ _ _ _ _ _ _ _ _ _ _ _ hx hb hl k => lv_isub hx hb hd k) k
theorem go_imul {x y : Int32} (hd : decode M.2.1 pc = .ok (.imul, 1)) (k : Go g M n mc ms (pc + 1) ls (.int (x * y) :: st) es Phi) : Go g M n mc ms pc ls (.int y :: .int x :: st) es Phi := go_lift (fun _ _ _ _ _ _ _ _ _ _ _ _ _ _ _ _ hx hb hl k => lv_imul hx hb hd k) k
theorem go_iand {x y : Int32} (hd : decode M.2.1 pc = .ok (.iand, 1)) (k : Go g M n mc ms (pc + 1) ls (.int (x &&& y) :: st) es Phi) : Go g M n mc ms pc ls (.int y :: .int x :: st) es Phi := go_lift (fun _ _ _ _ _ _ _ _ _ _ _ _ _ _ _ _ hx hb hl k => lv_iand hx hb hd k) k
theorem go_idiv {x y : Int32} (hne : ¬ y = 0) (hd : decode M.2.1 pc = .ok (.idiv, 1)) (k : Go g M n mc ms (pc + 1) ls (.int (x / y) :: st) es Phi) : Go g M n mc ms pc ls (.int y :: .int x :: st) es Phi := go_lift (fun _ _ _ _ _ _ _ _ _ _ _ _ _ _ _ _ hx hb hl k => lv_idiv hx hb hd hne k) k
theorem go_irem {x y : Int32} (hne : ¬ y = 0) (hd : decode M.2.1 pc = .ok (.irem, 1)) (k : Go g M n mc ms (pc + 1) ls (.int (x - x / y * y) :: st) es Phi) : Go g M n mc ms pc ls (.int y :: .int x :: st) es Phi := go_lift (fun _ _ _ _ _ _ _ _ _ _ _ _ _ _ _ _ hx hb hl k => lv_irem hx hb hd hne k) k
theorem go_i2l {x : Int32} (hd : decode M.2.1 pc = .ok (.i2l, 1)) (k : Go g M n mc ms (pc + 1) ls (.long x.toInt64 :: st) es Phi) : Go g M n mc ms pc ls (.int x :: st) es Phi := go_lift (fun _ _ _ _ _ _ _ _ _ _ _ _ _ _ _ _ hx hb hl k => lv_i2l hx hb hd rfl k) k
theorem go_lcmp {x y : Int64} (hd : decode M.2.1 pc = .ok (.lcmp, 1)) (k : Go g M n mc ms (pc + 1) ls (.int (lg_cmp x y) :: st) es Phi) : Go g M n mc ms pc ls (.long y :: .long x :: st) es Phi := go_lift (fun _ _ _ _ _ _ _ _ _ _ _ _ _ _ _ _ hx hb hl k => W.lcmp hx hb hd k) k
theorem go_dup {va : Value} (hva : va.category = 1) (hd : decode M.2.1 pc = .ok (.dup, 1)) (k : Go g M n mc ms (pc + 1) ls (va :: va :: st) es Phi) : Go g M n mc ms pc ls (va :: st) es Phi := go_lift (fun _ _ _ _ _ _ _ _ _ _ _ _ _ _ _ _ hx hb hl k => lv_dup hx hb hd hva k) k
theorem go_pop {va : Value} (hva : va.category = 1) (hd : decode M.2.1 pc = .ok (.pop, 1)) (k : Go g M n mc ms (pc + 1) ls (st) es Phi) : Go g M n mc ms pc ls (va :: st) es Phi := go_lift (fun _ _ _ _ _ _ _ _ _ _ _ _ _ _ _ _ hx hb hl k => lv_pop hx hb hd hva k) k
theorem go_dup2 {va vb : Value} (hva : va.category = 1) (hvb : vb.category = 1) (hd : decode M.2.1 pc = .ok (.dup2, 1)) (k : Go g M n mc ms (pc + 1) ls (va :: vb :: va :: vb :: st) es Phi) : Go g M n mc ms pc ls (va :: vb :: st) es Phi := go_lift (fun _ _ _ _ _ _ _ _ _ _ _ _ _ _ _ _ hx hb hl k => lv_dup2_11 hx hb hd hva hvb k) k
theorem go_goto {off : Int} (tgt : Nat) (ht : (pc : Int) + off = (tgt : Int)) (hd : decode M.2.1 pc = .ok (.goto off, 3)) (k : Go g M n mc ms tgt ls st es Phi) : Go g M n mc ms pc ls st es Phi := go_lift (fun _ _ _ _ _ _ _ _ _ _ _ _ _ _ _ _ hx hb hl k => lv_goto hx hb hd ht k) k
theorem go_if_eq {x : Int32} {off : Int} (tgt : Nat) (ht : (pc : Int) + off = (tgt : Int)) (hd : decode M.2.1 pc = .ok (.ifCond .eq off, 3)) (ka : x = 0 → Go g M n mc ms tgt ls st es Phi) (kb : ¬ x = 0 → Go g M n mc ms (pc + 3) ls st es Phi) : Go g M n mc ms pc ls (.int x :: st) es Phi := go_lift2 (P := x = 0) (fun _ _ _ _ _ _ _ _ _ _ _ _ _ _ _ _ hx hb hl ka kb => lv_if_eq hx hb hd ht ka kb) ka kb
theorem go_icmp_eq {x y : Int32} {off : Int} (tgt : Nat) (ht : (pc : Int) + off = (tgt : Int)) (hd : decode M.2.1 pc = .ok (.if_icmp .eq off, 3)) (ka : x = y → Go g M n mc ms tgt ls st es Phi) (kb : ¬ x = y → Go g M n mc ms (pc + 3) ls st es Phi) : Go g M n mc ms pc ls (.int y :: .int x :: st) es Phi := go_lift2 (P := x = y) (fun _ _ _ _ _ _ _ _ _ _ _ _ _ _ _ _ hx hb hl ka kb => lv_icmp_eq hx hb hd ht ka kb) ka kb
theorem go_if_ne {x : Int32} {off : Int} (tgt : Nat) (ht : (pc : Int) + off = (tgt : Int)) (hd : decode M.2.1 pc = .ok (.ifCond .ne off, 3)) (ka : ¬ x = 0 → Go g M n mc ms tgt ls st es Phi) (kb : x = 0 → Go g M n mc ms (pc + 3) ls st es Phi) : Go g M n mc ms pc ls (.int x :: st) es Phi := go_lift2 (P := ¬ x = 0) (fun _ _ _ _ _ _ _ _ _ _ _ _ _ _ _ _ hx hb hl ka kb => lv_if_ne hx hb hd ht ka (fun h => kb (fun q => q h))) ka (fun h => kb (Classical.not_not.mp h))
theorem go_icmp_ne {x y : Int32} {off : Int} (tgt : Nat) (ht : (pc : Int) + off = (tgt : Int)) (hd : decode M.2.1 pc = .ok (.if_icmp .ne off, 3)) (ka : ¬ x = y → Go g M n mc ms tgt ls st es Phi) (kb : x = y → Go g M n mc ms (pc + 3) ls st es Phi) : Go g M n mc ms pc ls (.int y :: .int x :: st) es Phi := go_lift2 (P := ¬ x = y) (fun _ _ _ _ _ _ _ _ _ _ _ _ _ _ _ _ hx hb hl ka kb => lv_icmp_ne hx hb hd ht ka (fun h => kb (fun q => q h))) ka (fun h => kb (Classical.not_not.mp h))
theorem go_if_lt {x : Int32} {off : Int} (tgt : Nat) (ht : (pc : Int) + off = (tgt : Int)) (hd : decode M.2.1 pc = .ok (.ifCond .lt off, 3)) (ka : x < 0 → Go g M n mc ms tgt ls st es Phi) (kb : ¬ x < 0 → Go g M n mc ms (pc + 3) ls st es Phi) : Go g M n mc ms pc ls (.int x :: st) es Phi := go_lift2 (P := x < 0) (fun _ _ _ _ _ _ _ _ _ _ _ _ _ _ _ _ hx hb hl ka kb => lv_if_lt hx hb hd ht ka kb) ka kb
theorem go_icmp_lt {x y : Int32} {off : Int} (tgt : Nat) (ht : (pc : Int) + off = (tgt : Int)) (hd : decode M.2.1 pc = .ok (.if_icmp .lt off, 3)) (ka : x < y → Go g M n mc ms tgt ls st es Phi) (kb : ¬ x < y → Go g M n mc ms (pc + 3) ls st es Phi) : Go g M n mc ms pc ls (.int y :: .int x :: st) es Phi := go_lift2 (P := x < y) (fun _ _ _ _ _ _ _ _ _ _ _ _ _ _ _ _ hx hb hl ka kb => lv_icmp_lt hx hb hd ht ka kb) ka kb
theorem go_if_ge {x : Int32} {off : Int} (tgt : Nat) (ht : (pc : Int) + off = (tgt : Int)) (hd : decode M.2.1 pc = .ok (.ifCond .ge off, 3)) (ka : 0 ≤ x → Go g M n mc ms tgt ls st es Phi) (kb : ¬ 0 ≤ x → Go g M n mc ms (pc + 3) ls st es Phi) : Go g M n mc ms pc ls (.int x :: st) es Phi := go_lift2 (P := 0 ≤ x) (fun _ _ _ _ _ _ _ _ _ _ _ _ _ _ _ _ hx hb hl ka kb => lv_if_ge hx hb hd ht ka kb) ka kb
theorem go_icmp_ge {x y : Int32} {off : Int} (tgt : Nat) (ht : (pc : Int) + off = (tgt : Int)) (hd : decode M.2.1 pc = .ok (.if_icmp .ge off, 3)) (ka : y ≤ x → Go g M n mc ms tgt ls st es Phi) (kb : ¬ y ≤ x → Go g M n mc ms (pc + 3) ls st es Phi) : Go g M n mc ms pc ls (.int y :: .int x :: st) es Phi := go_lift2 (P := y ≤ x) (fun _ _ _ _ _ _ _ _ _ _ _ _ _ _ _ _ hx hb hl ka kb => lv_icmp_ge hx hb hd ht ka kb) ka kb
theorem go_if_gt {x : Int32} {off : Int} (tgt : Nat) (ht : (pc : Int) + off = (tgt : Int)) (hd : decode M.2.1 pc = .ok (.ifCond .gt off, 3)) (ka : 0 < x → Go g M n mc ms tgt ls st es Phi) (kb : ¬ 0 < x → Go g M n mc ms (pc + 3) ls st es Phi) : Go g M n mc ms pc ls (.int x :: st) es Phi := go_lift2 (P := 0 < x) (fun _ _ _ _ _ _ _ _ _ _ _ _ _ _ _ _ hx hb hl ka kb => lv_if_gt hx hb hd ht ka kb) ka kb
theorem go_icmp_gt {x y : Int32} {off : Int} (tgt : Nat) (ht : (pc : Int) + off = (tgt : Int)) (hd : decode M.2.1 pc = .ok (.if_icmp .gt off, 3)) (ka : y < x → Go g M n mc ms tgt ls st es Phi) (kb : ¬ y < x → Go g M n mc ms (pc + 3) ls st es Phi) : Go g M n mc ms pc ls (.int y :: .int x :: st) es Phi := go_lift2 (P := y < x) (fun _ _ _ _ _ _ _ _ _ _ _ _ _ _ _ _ hx hb hl ka kb => lv_icmp_gt hx hb hd ht ka kb) ka kb
theorem go_if_le {x : Int32} {off : Int} (tgt : Nat) (ht : (pc : Int) + off = (tgt : Int)) (hd : decode M.2.1 pc = .ok (.ifCond .le off, 3)) (ka : x ≤ 0 → Go g M n mc ms tgt ls st es Phi) (kb : ¬ x ≤ 0 → Go g M n mc ms (pc + 3) ls st es Phi) : Go g M n mc ms pc ls (.int x :: st) es Phi := go_lift2 (P := x ≤ 0) (fun _ _ _ _ _ _ _ _ _ _ _ _ _ _ _ _ hx hb hl ka kb => lv_if_le hx hb hd ht ka kb) ka kb
theorem go_icmp_le {x y : Int32} {off : Int} (tgt : Nat) (ht : (pc : Int) + off = (tgt : Int)) (hd : decode M.2.1 pc = .ok (.if_icmp .le off, 3)) (ka : x ≤ y → Go g M n mc ms tgt ls st es Phi) (kb : ¬ x ≤ y → Go g M n mc ms (pc + 3) ls st es Phi) : Go g M n mc ms pc ls (.int y :: .int x :: st) es Phi := go_lift2 (P := x ≤ y) (fun _ _ _ _ _ _ _ _ _ _ _ _ _ _ _ _ hx hb hl ka kb => lv_icmp_le hx hb hd ht ka kb) ka kb
theorem go_istore_n {k0 : Fin 4} {x : Int32} {ls' : List (Nat × Value)} (i : Nat) (hi : (k0 : Nat) = i) (hn : i < M.2.2.1) (hd : decode M.2.1 pc = .ok (.istore_n k0, 1)) (hl' : (i, Value.int x) :: ls.filter (fun q => !(q.1 == i) && !(q.1 + 1 == i && q.2.category == 2)) = ls') (k : Go g M n mc ms (pc + 1) ls' st es Phi) : Go g M n mc ms pc ls (.int x :: st) es Phi := go_lift3 (fun _ _ _ _ _ _ _ _ _ _ _ _ _ _ _ _ hx hb hl kk => lv_istore_n hx hb hd hi hl hn hl' kk) k
theorem go_istore {x : Int32} {ls' : List (Nat × Value)} (i : Nat) (hn : i < M.2.2.1) (hd : decode M.2.1 pc = .ok (.istore i, 2)) (hl' : (i, Value.int x) :: ls.filter (fun q => !(q.1 == i) && !(q.1 + 1 == i && q.2.category == 2)) = ls') (k : Go g M n mc ms (pc + 2) ls' st es Phi) : Go g M n mc ms pc ls (.int x :: st) es Phi := go_lift3 (fun _ _ _ _ _ _ _ _ _ _ _ _ _ _ _ _ hx hb hl kk => lv_istore hx hb hd hl hn hl' kk) k
theorem go_astore_n {k0 : Fin 4} {x : Nat} {ls' : List (Nat × Value)} (i : Nat) (hi : (k0 : Nat) = i) (hn : i < M.2.2.1) (hd : decode M.2.1 pc = .ok (.astore_n k0, 1)) (hl' : (i, Value.ref x) :: ls.filter (fun q => !(q.1 == i) && !(q.1 + 1 == i && q.2.category == 2)) = ls') (k : Go g M n mc ms (pc + 1) ls' st es Phi) : Go g M n mc ms pc ls (.ref x :: st) es Phi := go_lift3 (fun _ _ _ _ _ _ _ _ _ _ _ _ _ _ _ _ hx hb hl kk => lv_astore_n hx hb hd hi hl hn hl' kk) k
theorem go_astore {x : Nat} {ls' : List (Nat × Value)} (i : Nat) (hn : i < M.2.2.1) (hd : decode M.2.1 pc = .ok (.astore i, 2)) (hl' : (i, Value.ref x) :: ls.filter (fun q => !(q.1 == i) && !(q.1 + 1 == i && q.2.category == 2)) = ls') (k : Go g M n mc ms (pc + 2) ls' st es Phi) : Go g M n mc ms pc ls (.ref x :: st) es Phi := go_lift3 (fun _ _ _ _ _ _ _ _ _ _ _ _ _ _ _ _ hx hb hl kk => lv_astore hx hb hd hl hn hl' kk) k
theorem go_iinc {x v : Int32} {z : Int} {ls' : List (Nat × Value)} (i q : Nat) (hq : ls[q]? = some (i, .int x)) (hv : x + Int32.ofInt z = v) (hn : i < M.2.2.1) (hd : decode M.2.1 pc = .ok (.iinc i z, 3)) (hl' : (i, Value.int v) :: ls.filter (fun q => !(q.1 == i) && !(q.1 + 1 == i && q.2.category == 2)) = ls') (k : Go g M n mc ms (pc + 3) ls' st es Phi) : Go g M n mc ms pc ls st es Phi := go_lift3 (fun _ _ _ _ _ _ _ _ _ _ _ _ _ _ _ _ hx hb hl kk => lv_iinc hx hb hd hl hq hv hn hl' kk) k
theorem go_tin {dflt lo hi : Int} {offs : Array Int} {len : Nat} {x : Int32} {off : Int} (tgt : Nat) (h1 : ¬ x.toInt < lo) (h2 : ¬ hi < x.toInt) (ho : offs[(x.toInt - lo).toNat]? = some off) (ht : (pc : Int) + off = (tgt : Int)) (hd : decode M.2.1 pc = .ok (.tableswitch dflt lo hi offs, len)) (k : Go g M n mc ms tgt ls st es Phi) : Go g M n mc ms pc ls (.int x :: st) es Phi := go_lift (fun _ _ _ _ _ _ _ _ _ _ _ _ _ _ _ _ hx hb hl k => lv_tableIn hx hb hd h1 h2 ho ht k) k
theorem go_tout {dflt lo hi : Int} {offs : Array Int} {len : Nat} {x : Int32} (tgt : Nat) (h : x.toInt < lo ∨ hi < x.toInt) (ht : (pc : Int) + dflt = (tgt : Int)) (hd : decode M.2.1 pc = .ok (.tableswitch dflt lo hi offs, len)) (k : Go g M n mc ms tgt ls st es Phi) : Go g M n mc ms pc ls (.int x :: st) es Phi := go_lift (fun _ _ _ _ _ _ _ _ _ _ _ _ _ _ _ _ hx hb hl k => lv_tableOut hx hb hd h ht k) k
theorem go_iald {cA : ClassId} {len : Nat} {f : Nat → Int32} {i : Int32} {a : Nat} (q0 t0 : Nat) (ha : es[q0]? = some (a, .inl (cA, len, .inl f))) (ht : g.2.1[t0]? = some (cA, .int)) (hin : vp_in i len) (hd : decode M.2.1 pc = .ok (.iaload, 1)) (k : Go g M n mc ms (pc + 1) ls (.int (f i.toNatClampNeg) :: st) es Phi) : Go g M n mc ms pc ls (.int i :: .ref a :: st) es Phi := by
  intro p l e R s m args below meth c A tc ts C h1 h2 H locs cells slots arr hP hD hS hl h3 h4
  exact va_iald C.hx C.hb C.hk hP q0 t0 ha ht hin hd (k p l e R s m args below meth c A tc ts C h1 h2 H locs cells slots arr hP hD hS hl h3 h4)
theorem go_zald {cA : ClassId} {len : Nat} {f : Nat → Int32} {i : Int32} {a : Nat} (q0 t0 : Nat) (ha : es[q0]? = some (a, .inl (cA, len, .inl f))) (ht : g.2.1[t0]? = some (cA, .boolean)) (hin : vp_in i len) (hd : decode M.2.1 pc = .ok (.baload, 1)) (k : Go g M n mc ms (pc + 1) ls (.int (f i.toNatClampNeg) :: st) es Phi) : Go g M n mc ms pc ls (.int i :: .ref a :: st) es Phi := by
  intro p l e R s m args below meth c A tc ts C h1 h2 H locs cells slots arr hP hD hS hl h3 h4
  exact va_zald C.hx C.hb C.hk hP q0 t0 ha ht hin hd (k p l e R s m args below meth c A tc ts C h1 h2 H locs cells slots arr hP hD hS hl h3 h4)
theorem go_lald {cA : ClassId} {len : Nat} {f : Nat → Int64} {i : Int32} {a : Nat} (q0 t0 : Nat) (ha : es[q0]? = some (a, .inl (cA, len, .inr (.inl f)))) (ht : g.2.1[t0]? = some (cA, .long)) (hin : vp_in i len) (hd : decode M.2.1 pc = .ok (.laload, 1)) (k : Go g M n mc ms (pc + 1) ls (.long (f i.toNatClampNeg) :: st) es Phi) : Go g M n mc ms pc ls (.int i :: .ref a :: st) es Phi := by
  intro p l e R s m args below meth c A tc ts C h1 h2 H locs cells slots arr hP hD hS hl h3 h4
  exact va_lald C.hx C.hb C.hk hP q0 t0 ha ht hin hd (k p l e R s m args below meth c A tc ts C h1 h2 H locs cells slots arr hP hD hS hl h3 h4)
theorem go_iast {es' : va_W} {cA : ClassId} {len : Nat} {f : Nat → Int32} {i : Int32} {x : Int32} {a : Nat} (q0 t0 : Nat) (ha : es[q0]? = some (a, .inl (cA, len, .inl f))) (ht : g.2.1[t0]? = some (cA, .int)) (hin : vp_in i len) (hd : decode M.2.1 pc = .ok (.iastore, 1)) (he : es.set q0 (a, .inl (cA, len, .inl (upd f i.toNatClampNeg x))) = es') (k : Go g M n mc ms (pc + 1) ls st es' Phi) : Go g M n mc ms pc ls (.int x :: .int i :: .ref a :: st) es Phi := by
  intro p l e R s m args below meth c A tc ts C h1 h2 H locs cells slots arr hP hD hS hl h3 h4
  subst he
  exact va_iast C.hx C.hb C.hk hP hD hS q0 t0 ha ht hin hd (fun H1 locs1 hP1 hD1 hS1 => k p l e R s m args below meth c A tc ts C h1 h2 H1 locs1 cells slots arr hP1 hD1 hS1 hl h3 h4)
theorem go_zast {es' : va_W} {cA : ClassId} {len : Nat} {f : Nat → Int32} {i : Int32} {x : Int32} {a : Nat} (q0 t0 : Nat) (ha : es[q0]? = some (a, .inl (cA, len, .inl f))) (ht : g.2.1[t0]? = some (cA, .boolean)) (hin : vp_in i len) (hd : decode M.2.1 pc = .ok (.bastore, 1)) (he : es.set q0 (a, .inl (cA, len, .inl (upd f i.toNatClampNeg (vp_nar .boolean x)))) = es') (k : Go g M n mc ms (pc + 1) ls st es' Phi) : Go g M n mc ms pc ls (.int x :: .int i :: .ref a :: st) es Phi := by
  intro p l e R s m args below meth c A tc ts C h1 h2 H locs cells slots arr hP hD hS hl h3 h4
  subst he
  exact va_zast C.hx C.hb C.hk hP hD hS q0 t0 ha ht hin hd (fun H1 locs1 hP1 hD1 hS1 => k p l e R s m args below meth c A tc ts C h1 h2 H1 locs1 cells slots arr hP1 hD1 hS1 hl h3 h4)
theorem go_last {es' : va_W} {cA : ClassId} {len : Nat} {f : Nat → Int64} {i : Int32} {x : Int64} {a : Nat} (q0 t0 : Nat) (ha : es[q0]? = some (a, .inl (cA, len, .inr (.inl f)))) (ht : g.2.1[t0]? = some (cA, .long)) (hin : vp_in i len) (hd : decode M.2.1 pc = .ok (.lastore, 1)) (he : es.set q0 (a, .inl (cA, len, .inr (.inl (vp_updL f i.toNatClampNeg x)))) = es') (k : Go g M n mc ms (pc + 1) ls st es' Phi) : Go g M n mc ms pc ls (.long x :: .int i :: .ref a :: st) es Phi := by
  intro p l e R s m args below meth c A tc ts C h1 h2 H locs cells slots arr hP hD hS hl h3 h4
  subst he
  exact va_last C.hx C.hb C.hk hP hD hS q0 t0 ha ht hin hd (fun H1 locs1 hP1 hD1 hS1 => k p l e R s m args below meth c A tc ts C h1 h2 H1 locs1 cells slots arr hP1 hD1 hS1 hl h3 h4)
theorem go_sld {i : Int32} (hin : vp_in i g.2.2.2.1) (hd : decode M.2.1 pc = .ok (.iaload, 1)) (k : Go g M n mc ms (pc + 1) ls (.int (g.2.2.2.2 i.toNatClampNeg) :: st) es Phi) : Go g M n mc ms pc ls (.int i :: .ref g.2.2.1 :: st) es Phi := by
  intro p l e R s m args below meth c A tc ts C h1 h2 H locs cells slots arr hP hD hS hl h3 h4
  exact va_sld C.hx C.hb C.hX C.hXl C.hXA hS hin hd (k p l e R s m args below meth c A tc ts C h1 h2 H locs cells slots arr hP hD hS hl h3 h4)
theorem go_slen (hd : decode M.2.1 pc = .ok (.arraylength, 1)) (k : Go g M n mc ms (pc + 1) ls (.int (Int32.ofNat g.2.2.2.1) :: st) es Phi) : Go g M n mc ms pc ls (.ref g.2.2.1 :: st) es Phi := by
  intro p l e R s m args below meth c A tc ts C h1 h2 H locs cells slots arr hP hD hS hl h3 h4
  exact va_slen C.hx C.hb C.hX C.hXl C.hXA hS hd (k p l e R s m args below meth c A tc ts C h1 h2 H locs cells slots arr hP hD hS hl h3 h4)
theorem gw {Cl : String} {T : u_T} {N : Nat} {args : Array Value} {s : State} (hts : ∀ w ∈ lw_tbl, gGood w = true → w.before args s = true) (hw : ∀ w ∈ u_ws Cl T N, w ∈ lw_tbl ∧ gGood w = true) : ∀ w ∈ u_ws Cl T N, w.before args s = true := fun w h => hts w (hw w h).1 (hw w h).2
theorem go_get {Cl : String} {T : u_T} {N ci index a : Nat} {fs : List Value} {v : Value} (hw : ∀ w ∈ u_ws Cl T N, w ∈ lw_tbl ∧ gGood w = true) (q0 : Nat) (he : es[q0]? = some (a, .inr (ci, fs))) (hc : vwCl[ci]? = some (Cl, T, N)) (k0 : Nat) (hk : k0 < N) (hlk : Cond.fieldLink M.1.cls index (T k0).1 (T k0).2.1 (T k0).2.2.1 ∈ lw_tbl ∧ gGood (Cond.fieldLink M.1.cls index (T k0).1 (T k0).2.1 (T k0).2.2.1) = true) (hv : fs[k0]? = some v) (hd : decode M.2.1 pc = .ok (.getfield index, 3)) (k : Go g M n mc ms (pc + 3) ls (v :: st) es Phi) : Go g M n mc ms pc ls (.ref a :: st) es Phi := by
  intro p l e R s m args below meth c A tc ts C h1 h2 H locs cells slots arr hP hD hS hl h3 h4
  exact va_get C.hx C.hb (gw C.hts hw) (fun _ h => h) C.hown C.hk hP q0 he hc k0 hk (C.hts _ hlk.1 hlk.2) (fun _ h9 => h9) hv hd (k p l e R s m args below meth c A tc ts C h1 h2 H locs cells slots arr hP hD hS hl h3 h4)
theorem go_put {es' : va_W} {Cl : String} {T : u_T} {N ci index a : Nat} {fs : List Value} {v : Value} {ty : FieldType} (hw : ∀ w ∈ u_ws Cl T N, w ∈ lw_tbl ∧ gGood w = true) (ty0 : Nat → FieldType) (hty : ∀ k, k < N → parseFieldDescriptor (T k).2.2.1 = some (ty0 k)) (hnm : ∀ a, a < N → ∀ b, b < N → a ≠ b → (T a).2.1 ≠ (T b).2.1) (q0 : Nat) (he : es[q0]? = some (a, .inr (ci, fs))) (hc : vwCl[ci]? = some (Cl, T, N)) (k0 : Nat) (hk : k0 < N) (hlk : Cond.fieldLink M.1.cls index (T k0).1 (T k0).2.1 (T k0).2.2.1 ∈ lw_tbl ∧ gGood (Cond.fieldLink M.1.cls index (T k0).1 (T k0).2.1 (T k0).2.2.1) = true) (hfin : (T k0).2.2.2 = false) (hdp : parseFieldDescriptor (T k0).2.2.1 = some ty) (hnr : narrow ty v = v) (hfit : fits ty v = true) (hlen : k0 < fs.length) (hd : decode M.2.1 pc = .ok (.putfield index, 3)) (hes : es.set q0 (a, .inr (ci, fs.set k0 v)) = es') (k : Go g M n mc ms (pc + 3) ls st es' Phi) : Go g M n mc ms pc ls (v :: .ref a :: st) es Phi := by
  intro p l e R s m args below meth c A tc ts C h1 h2 H locs cells slots arr hP hD hS hl h3 h4
  subst hes
  exact va_put C.hx C.hb (gw C.hts hw) (fun _ h => h) ty0 hty hnm C.hown C.hk hP hD hS q0 he hc k0 hk (C.hts _ hlk.1 hlk.2) (fun _ h9 => h9) hfin hdp hnr hfit hlen hd (fun H1 locs1 hP1 hD1 hS1 => k p l e R s m args below meth c A tc ts C h1 h2 H1 locs1 cells slots arr hP1 hD1 hS1 hl h3 h4)
theorem go_putF {es' : va_W} {Cl : String} {T : u_T} {N ci index a : Nat} {fs : List Value} {v : Value} {ty : FieldType} (hw : ∀ w ∈ u_ws Cl T N, w ∈ lw_tbl ∧ gGood w = true) (ty0 : Nat → FieldType) (hty : ∀ k, k < N → parseFieldDescriptor (T k).2.2.1 = some (ty0 k)) (hnm : ∀ a, a < N → ∀ b, b < N → a ≠ b → (T a).2.1 ≠ (T b).2.1) (q0 : Nat) (he : es[q0]? = some (a, .inr (ci, fs))) (hc : vwCl[ci]? = some (Cl, T, N)) (k0 : Nat) (hk : k0 < N) (hlk : Cond.fieldLink M.1.cls index (T k0).1 (T k0).2.1 (T k0).2.2.1 ∈ lw_tbl ∧ gGood (Cond.fieldLink M.1.cls index (T k0).1 (T k0).2.1 (T k0).2.2.1) = true) (hfin : (T k0).2.2.2 = true) (hini : M.1.name = "<init>") (hdecl : (T k0).1 = M.1.cls) (hdp : parseFieldDescriptor (T k0).2.2.1 = some ty) (hnr : narrow ty v = v) (hfit : fits ty v = true) (hlen : k0 < fs.length) (hd : decode M.2.1 pc = .ok (.putfield index, 3)) (hes : es.set q0 (a, .inr (ci, fs.set k0 v)) = es') (k : Go g M n mc ms (pc + 3) ls st es' Phi) : Go g M n mc ms pc ls (v :: .ref a :: st) es Phi := by
  intro p l e R s m args below meth c A tc ts C h1 h2 H locs cells slots arr hP hD hS hl h3 h4
  subst hes
  exact va_putF C.hx C.hb (gw C.hts hw) (fun _ h => h) ty0 hty hnm C.hown C.hk hP hD hS q0 he hc k0 hk (C.hts _ hlk.1 hlk.2) (fun _ h9 => h9) hfin (C.hnm.trans hini) hdecl hdp hnr hfit hlen hd (fun H1 locs1 hP1 hD1 hS1 => k p l e R s m args below meth c A tc ts C h1 h2 H1 locs1 cells slots arr hP1 hD1 hS1 hl h3 h4)
end GO
