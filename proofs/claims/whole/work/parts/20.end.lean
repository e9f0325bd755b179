/-! THE CLAIM OUT OF ONE WALK OF THE LAW'S BODY. Your part is whole_start (and what it stands on); all else here is the same for every law, but numbers. -/
def R_law : String := "FrameSharerLaw"
def lw_P (b : Addr) (xs : List Int32) (args : Array Value) (s : State) : Prop := args = #[.ref b] ∧ s.IntsAt b xs ∧ xs.length ≤ 2561 ∧ (Jvm.Cond.and given_1 narrow_1).before args s = true
def lw_Q (_ : Array Value) (s : State) (o : Outcome) (t : State) : Prop := o = .returned (some (.int 1)) ∧ Framed s o t [] 601024 7293000
def lw_Z (below : List Frame) (a : Array Value) (s : State) : State → Prop := fun t => ∃ o, t.status = .running ∧ Ended t below o ∧ lw_Q a s o t
/-- what holds at the law's entry: the machine, the code, the tables' words (any of lw_tbl by 'hts w (by decide +kernel)'), the script of L ints xs at the cell b, what the Statement gives of the start (any of its parts by flat_of_before) -/
def lw_At (p : Program) (s : State) (m : MethodId) (meth : Method) (c : Code) (b L : Nat) (xs : Nat → Int32) : Prop :=
  p.tables.exec = Jvm.exec ∧ c.code = code ∧ meth.sig.returnType = ret ∧ c.maxLocals = 7 ∧ s.vm.findClass R_law = some m.cls ∧ (∀ w ∈ lw_tbl, w.before #[Value.ref b] s = true) ∧ va_X b L xs s s.heap ∧ b < s.heap.size ∧ meth.locks = false ∧ (Jvm.Cond.and given_1 narrow_1).before #[Value.ref b] s = true ∧ meth.name = "law" ∧ c.exceptionTable.toList.map (fun h => (h.startPc, h.endPc, h.handlerPc, h.catchType)) = []
theorem lw_lay1 : Cond.laysStatic Jvm.Bundle.tN "UNASSIGNED_STACK" Jvm.Bundle.steD ∈ lw_tbl := by decide +kernel
theorem lw_lay2 : Cond.laysStatic Jvm.Bundle.tN "SUPPRESSED_SENTINEL" Jvm.Bundle.listD ∈ lw_tbl := by decide +kernel
theorem lw_ref1 : Cond.isRef (.static Jvm.Bundle.tN "UNASSIGNED_STACK" Jvm.Bundle.steD) ∈ flatC (Jvm.Cond.and given_1 narrow_1) := by decide +kernel
theorem lw_ref2 : Cond.isRef (.static Jvm.Bundle.tN "SUPPRESSED_SENTINEL" Jvm.Bundle.listD) ∈ flatC (Jvm.Cond.and given_1 narrow_1) := by decide +kernel
theorem lw_str : ∀ q ∈ gStr, q.1 = "FrameSharer" ∧ Cond.stringRef q.1 q.2.1 q.2.2 ∈ lw_tbl := by decide +kernel
theorem lw_ncs : ∀ q ∈ gNc, Cond.not (.castable q.1 q.2) ∈ flatC (Jvm.Cond.and given_1 narrow_1) := by decide +kernel
theorem lw_arr {s : State} {args : Array Value} {ty : FieldType} (h : (Cond.arrayClass ty).before args s = true) (ho : ∀ C, ty ≠ .object C) : ∃ cA : ClassId, ArrOfT s cA ty ∧ va_RA s cA ty := by
  obtain ⟨cA, kA, comp, h1, h2, h3⟩ := Cond.arrayClass_spec h
  refine ⟨cA, fun n z => ⟨fun k h => (by cases h), kA, h2, comp, h3⟩, ?_⟩
  cases ty with
  | object C => exact absurd rfl (ho C)
  | _ => exact h1
/-- from the entry, for every script of at most 2561 ints, the law comes to its end with true -/
theorem whole_start {p : Program} {e : Env} {s : State} {m : MethodId} {below : List Frame} {meth : Method} {c : Code} (l : Launch) {b L : Nat} {xs : Nat → Int32} (hL : L ≤ 2561) (hnt : e.platform.stackTraces = false) (C0 : lw_At p s m meth c b L xs) : W p l e room_1 s m #[Value.ref b] below meth c s.heap [] 0 0 (lw_Z below #[Value.ref b] s) (entryFrame m ([Value.ref b] : List Value).toArray 7) := by
  obtain ⟨hx, hb, hr, hml, hown, hts, hX, hbl, hlk, hgv, hnm, hh⟩ := C0
  have hs := flat_of_before _ hgv
  obtain ⟨cX, iX, hkX⟩ := u_known (C := "FrameSharer") (T := TX) (N := 6) (n := 6) hts (fun w hw => (hwX w hw).1) (hts _ it_X.1)
  obtain ⟨cY, iY, hkY⟩ := u_known (C := "FrameSharerModel") (T := TY) (N := 7) (n := 7) hts (fun w hw => (hwY w hw).1) (hts _ it_Y.1)
  obtain ⟨cI, hI⟩ := lw_arr (ty := .int) (hts _ ar_int.1) (fun C h => by cases h)
  obtain ⟨cB, hB⟩ := lw_arr (ty := .boolean) (hts _ ar_boolean.1) (fun C h => by cases h)
  obtain ⟨cL, hLl⟩ := lw_arr (ty := .long) (hts _ ar_long.1) (fun C h => by cases h)
  have hA : ∀ a : Nat, a < s.heap.size → ¬ s.heap.size ≤ a := fun a h => by omega
  have E : gE (gg (fun k => if k = 0 then cX else cY, fun k => if k = 0 then iX else iY) cI cB cL b L xs) e s #[Value.ref b] (fun q => s.heap.size ≤ q) := by
    refine ⟨fun w hw _ => hts w hw, ⟨fun k q hk => ?_, fun k q hk => ?_⟩, fun q h => h, fun q cell h1 h2 => ?_, hX, hbl, hA b hbl, ?_, ?_, hnt, fun q hq => ?_, fun q hq => ?_⟩
    · rcases k with _ | _ | k
      · cases hk; exact hkX
      · cases hk; exact hkY
      · cases hk
    · rcases k with _ | _ | _ | k
      · cases hk; exact hI
      · cases hk; exact hB
      · cases hk; exact hLl
      · cases hk
    · exact absurd (Array.getElem?_eq_some_iff.mp h2).1 (by omega)
    · exact gZs.of (hts _ lw_lay1) (hts _ gh_40.1) (hs _ lw_ref1) hA
    · exact gZs.of (hts _ lw_lay2) (hts _ gh_40.1) (hs _ lw_ref2) hA
    · obtain ⟨q1, q2⟩ := lw_str q hq
      have h1 := hts _ q2
      have hc : s.vm.findClass q.1 = some cX := by rw [q1]; exact hkX.2.1
      obtain ⟨_, _, _, a, _, _, _, _, _, h2⟩ := Cond.stringRef_spec hc h1
      exact ⟨a, vk_R.of h1 h2⟩
    · exact va_Nc.of (hs _ (lw_ncs q hq))
  have C : gK (gg (fun k => if k = 0 then cX else cY, fun k => if k = 0 then iX else iY) cI cB cL b L xs) mL_law 7 p e room_1 s m #[Value.ref b] meth c (fun q => s.heap.size ≤ q) := ⟨⟨hx, hb, hml, hr, hlk, hnm, hh, hown⟩, E, by decide, by decide⟩
  have hgo := law_all (D := (fun k => if k = 0 then cX else cY, fun k => if k = 0 then iX else iY)) (cI := cI) (cB := cB) (cL := cL) (bb := b) (xs := xs) (L := L) (Psi := fun r _ => r = .inl (some (.int 1))) (by omega) (fun w => rfl)
  have hw := hgo p l e room_1 s m #[Value.ref b] below meth c (fun q => s.heap.size ≤ q) (12 + L / 5) (8936 + 6 * (L / 5)) C (by show _ ≤ 601024; omega) (by show _ ≤ 7293000; omega) s.heap [] 0 0 _ (fun k q h => by cases h) ⟨fun i j p0 q h => (by cases h), fun k q h => (by cases h)⟩ va_S.rf (lv_entry [Value.ref b] (n := 7) (Nat.le_of_ble_eq_true rfl)) (by omega) (by omega)
  refine gw_imp (W.eq (by rw [lg_entry_eq]) hw) ?_
  rintro t ⟨o, L', es, b1, b2, b3, ⟨q1, q2, q3, q4, q5, q6⟩, b5, b6, b7, b8, b9⟩
  rcases b9 with ⟨v, rfl, h⟩ | ⟨a, E', rfl, -, h⟩
  · cases h
    refine ⟨_, b1, b2, rfl, ⟨_, rfl⟩, b3, q1, q2, Nat.le_trans q3 (by omega), q4, Nat.le_trans q5 (by omega), fun a c1 hc => ?_⟩
    obtain ⟨c2, r1, r2, r3, r4⟩ := q6 a c1 hc
    refine ⟨c2, r1, r2, r3, fun i _ => r4 i (fun hm => ?_)⟩
    exact hA a (Array.getElem?_eq_some_iff.mp hc).1 (b5 _ hm)
  · cases h
set_option maxHeartbeats 4000000 in
theorem lw_walk (l : Launch) (hfl : l.flags = flags0) (b : Addr) (xs : List Int32) : MetFree l x (headSpec (Jvm.Cond.code x code maxLocals ret :: tables_1) room_1) (lw_P b xs) (fun _ _ _ _ _ => True) lw_Q := by
  refine MetFree.of_bodyS (code := code) (maxLocals := maxLocals) (ret := ret) (by decide) ?_ ?_
  · intro args s m h hn
    obtain ⟨meth, c, h1, h2, h3, h4, h5, h6, -, -⟩ := Cond.code_spec hn (atoms_spec (ws := Jvm.Cond.code x code maxLocals ret :: tables_1) h _ List.mem_cons_self)
    exact ⟨meth, c, h1, h2, h3, h4, h5, h6⟩
  · intro p e s m args below meth c s₁ B hml0 hP _
    obtain ⟨rfl, hx, hbd, hgv⟩ := hP
    obtain ⟨scr, harrAt, hlist, hof, hsmall⟩ := hx
    obtain ⟨hcb, hkn, -, -⟩ := State.arrayAt?_spec harrAt
    have hown : s.vm.findClass R_law = some m.cls := findClass_of_methodNamed B.named
    have hts0 : ∀ c ∈ (Jvm.Cond.code x code maxLocals ret :: tables_1), c.before #[Value.ref b] s = true := atoms_spec (ws := Jvm.Cond.code x code maxLocals ret :: tables_1) B.pre
    have hts : ∀ w ∈ lw_tbl, w.before #[Value.ref b] s = true := k2_hts_sels lw_privs (fun w hw => hts0 w (List.mem_cons_of_mem _ hw)) lw_privs_ok
    have hml : c.maxLocals = 7 := B.maxLocals_eq (hts0 _ List.mem_cons_self)
    have X₀ : Stand p l e room_1 s m #[Value.ref b] below meth c s₁ [] 0 0 := Stand.of_body B
    obtain ⟨methk, ck, k1, k2, -, -, -, -, k7, -⟩ := gCode_c (M := mL_law) (args := #[Value.ref b]) (s := s) (mk := m) B.named (hts0 _ List.mem_cons_self) rfl
    cases X₀.method.symm.trans k1
    cases X₀.code.symm.trans k2
    have hh0 : s₁.heap = s.heap := by rw [B.state]; rfl
    have hsz : scr.slots.size = xs.length := by rw [← Array.length_toList, hlist, List.length_map]
    have hval : ∀ j : Nat, j < xs.length → scr.slots[j]? = some (.int (xs.getD j 0)) := fun j hj => by
      rw [← Array.getElem?_toList, hlist]
      simp [hj]
    have hbl : b < s.heap.size := (Array.getElem?_eq_some_iff.mp hcb).1
    have hX : va_X b xs.length (fun j => xs.getD j 0) s s.heap := ⟨scr, hcb, hof, hkn, hsz, hval⟩
    have K : W p l e room_1 s m #[Value.ref b] below meth c s₁.heap [] 0 0 (lw_Z below #[Value.ref b] s) (entryFrame m ([Value.ref b] : List Value).toArray 7) := by
      rw [hh0]
      exact whole_start l hbd (Launch.traces_off hfl X₀.admits) ⟨B.exec, B.bytes, B.returns, hml, hown, hts, hX, hbl, B.notSynchronized, hgv, (name_of_methodNamed B.named X₀.method).1, k7⟩
    obtain ⟨t, a1, o, b1, b2, b3⟩ := K s₁ rfl X₀
    exact ⟨t, o, a1, b1, b2, b3⟩
theorem lw_pre_spec {args : Array Value} {s : State} (h : (Jvm.Cond.and given_1 narrow_1).before args s = true) (hr : rest_1_c.before args s = true) : ∃ (b : Addr) (xs : List Int32), lw_P b xs args s := by
  have hs := flat_of_before _ h
  have hq := flat_of_before _ hr
  have hc : (Cond.count 1).before args s = true := hs _ (by decide +kernel)
  have harr : (Cond.arrayOf (.arg 0) .int).before args s = true := hs _ (by decide +kernel)
  have hle : (Cond.le (.length (.arg 0)) (.int 2561)).before args s = true := hs _ (by decide +kernel)
  have hlen : (Cond.isInt (.length (.arg 0))).before args s = true := hq _ (by decide +kernel)
  have hall : (Cond.all (.arg 0) (.isInt (.elem (.arg 0) (.index 0)))).before args s = true := hq _ (by decide +kernel)
  obtain ⟨b, xs, hb, hx⟩ := State.ints_of_pre rfl harr hlen hall
  have hsm : xs.length < 2 ^ 31 := hx.choose_spec.2.2.2
  have hev : (Term.length (.arg 0)).eval args s none [] s = some (.int xs.length.toInt32) := hx.length_eval hb
  have hv := Cond.le_ints hev (show (Term.int 2561).eval args s none [] s = some (.int 2561) from rfl)
  have hd : xs.length.toInt32 ≤ 2561 := by
    simpa [Cond.before, Cond.holds, hv] using hle
  have hN : xs.length ≤ 2561 := (Int32.ofNat_le_ofNat hsm (by decide)).mp (show Int32.ofNat xs.length ≤ Int32.ofNat 2561 from hd)
  exact ⟨b, xs, Cond.one_arg hc (show args[0]? = some (.ref b) from hb), hx, hN, h⟩
theorem lw_comes (l : Launch) (hfl : l.flags = flags0) : Comes l x (Jvm.Cond.code x code maxLocals ret :: tables_1) room_1 (fun tb e args s => Calls_1 tb e args s ∧ rest_1 tb e args s ∧ Pre_1 tb e args s)
    (fun _ _ args s o t => lw_Q args s o t) := by
  intro p e ha hc hk s m args below hf hfit hheap happ hpre
  obtain ⟨b, xs, hP⟩ := lw_pre_spec hpre.2.2 hpre.2.1
  obtain ⟨k, o, h1, h2, h3, hQ⟩   := lw_walk l hfl b xs p e ha hc hk s m args below hf ((Spec.applies_iff_loose hf).mp happ).1 hP trivial
  exact ⟨k, o, h1, h2, h3, hQ⟩
theorem lw_frame {s t : State} {o : Outcome} {args : Array Value} (h : Framed s o t [] 601024 7293000) :
    Framed s o t (fieldLocs frame_1_writes args s ++ arrayLocs frame_1_arrays args s ++ staticLocs frame_1_statics s) 601024 7293000 := h
theorem lw_limb (L : Cond) (hL : ∀ (args : Array Value) (s t : State), L.after args s (.returned (some (.int 1))) t = true) :
    ArmFor flags0 classFile x code maxLocals ret World_1 tables_1 room_1 Calls_1 rest_1 Pre_1
      (fun tb e a s o t => postC L tb e a s o t ∧ Framed s o t (fieldLocs frame_1_writes a s ++ arrayLocs frame_1_arrays a s ++ staticLocs frame_1_statics s) 601024 7293000) := by
  intro l hfl _ _ p e ha hc hk s m args below hf hfit hheap happ hpre
  obtain ⟨k, o, h1, h2, h3, rfl, hF⟩ := lw_comes l hfl p e ha hc hk s m args below hf hfit hheap happ hpre
  exact ⟨k, _, h1, h2, h3, hL args s _, lw_frame hF⟩
theorem i_vc : Claimed_1_1 ∧ Claimed_1_2 := ⟨lw_limb limb_1_1 (fun args s t => by simp [limb_1_1, Cond.after, Cond.holds, Cond.value]), lw_limb limb_1_2 (fun args s t => Cond.after_iff.mpr (by
  first | (rw [show limb_1_2 = Cond.eq .result (.int 1) from rfl, Cond.eq_ints (x := 1) (y := 1) rfl rfl]; simp; done) | (simp [limb_1_2, Cond.value, Term.eval]; done)))⟩
