/-- the world of the law: the class's six, the reference's five, the law's own array -/
abbrev wW (cI cB cL : ClassId) (A : Nat → Nat) (F : Nat) (c : Nat → Int32) (fo : Nat → Option Nat) (sp pi : Nat → Bool) (cd : Int32) (sx : Nat) (pd th : Nat → Bool) (sm : Nat → Nat) (u : Nat → Int32) (o : Nat → Int64) : va_W :=
  xW cI cB (A 0) (A 1) (A 2) (A 3) (A 4) (A 5) F c fo sp pi ((A 6, .inr (1, [.int cd, .int (nI F), .int (nI sx), .ref (A 7), .ref (A 8), .ref (A 9), .ref (A 10)])) :: (A 7, .inl (cB, 9, .inl (fun k => bI (pd k)))) :: (A 8, .inl (cB, 54, .inl (fun k => bI (th k)))) :: (A 9, .inl (cI, 432, .inl (fun k => nI (sm k)))) :: (A 10, .inl (cI, 6912, .inl u)) :: [(A 11, .inl (cL, 1, .inr (.inl o)))])
def St (cI cB cL : ClassId) (A : Nat → Nat) (cd : Int32) (o : Nat → Int64) (N : Nat) (es : va_W) : Prop :=
  ∃ (F : Nat) (c : Nat → Int32) (fo : Nat → Option Nat) (sp pi : Nat → Bool) (sx : Nat) (pd th : Nat → Bool) (sm : Nat → Nat) (u : Nat → Int32), es = wW cI cB cL A F c fo sp pi cd sx pd th sm u o ∧ Rel F c fo sp pi N sx pd th sm u
/-- one call to both: both answer the same, or the class throws what the reference names -/
def Sim (D : va_G) (cI cB cL : ClassId) (bb L : Nat) (xs : Nat → Int32) (A : Nat → Nat) (mx my : gM) (xa : List Value) (kp : List (String × Int32)) (N : Nat) (es : (Nat → Int64) → va_W) : Prop :=
  (∃ (r : Int32) (es1 : (Nat → Int64) → va_W), (∀ o, Ret (gg D cI cB cL bb L xs) mx 5 0 0 (.ref (A 0) :: xa) (es o) (some (.int r)) (es1 o)) ∧ (∀ o, (es1 o)[11]? = some (A 11, .inl (cL, 1, .inr (.inl o)))) ∧ (∀ o o', (es1 o).set 11 (A 11, .inl (cL, 1, .inr (.inl o'))) = es1 o') ∧ (∀ o, ∃ fs, (es1 o)[6]? = some (A 6, .inr (1, fs))) ∧
    ∀ o, ∃ es2, Ret (gg D cI cB cL bb L xs) my 6 0 0 (.ref (A 6) :: xa) (es1 o) (some (.int r)) es2 ∧ St cI cB cL A 0 o N es2) ∨
  (∃ (E : String) (k b : Int32), (E, k) ∈ kp ∧ k ≠ 0 ∧ (∀ o, Thr (gg D cI cB cL bb L xs) mx 5 1 6 (.ref (A 0) :: xa) (es o) E) ∧ ∀ o, ∃ es2, Ret (gg D cI cB cL bb L xs) my 6 0 0 (.ref (A 6) :: xa) (es o) (some (.int b)) es2 ∧ St cI cB cL A k o N es2)
section SIM
variable {D : va_G} {cI cB cL : ClassId} {bb L : Nat} {xs : Nat → Int32} {A : Nat → Nat} {F N sx sx' : Nat} {cd : Int32} {c c' u u' : Nat → Int32} {fo fo' : Nat → Option Nat} {sp sp' pi pi' pd pd' th th' : Nat → Bool} {sm sm' : Nat → Nat} {mx my : gM} {xa : List Value} {kp : List (String × Int32)}
theorem sim_ok {r r' : Int32} (er : r = r') (hx : ∀ rest, Ret (gg D cI cB cL bb L xs) mx 5 0 0 (.ref (A 0) :: xa) (xW cI cB (A 0) (A 1) (A 2) (A 3) (A 4) (A 5) F c fo sp pi rest) (some (.int r)) (xW cI cB (A 0) (A 1) (A 2) (A 3) (A 4) (A 5) F c' fo' sp' pi' rest))
    (hy : ∀ z0 z1 z2 z3 z4 z5 rest, Ret (gg D cI cB cL bb L xs) my 6 0 0 (.ref (A 6) :: xa) (zW z0 z1 z2 z3 z4 z5 cI cB (A 6) (A 7) (A 8) (A 9) (A 10) cd F sx pd th sm u rest) (some (.int r')) (zW z0 z1 z2 z3 z4 z5 cI cB (A 6) (A 7) (A 8) (A 9) (A 10) 0 F sx' pd' th' sm' u' rest)) (R : Rel F c' fo' sp' pi' N sx' pd' th' sm' u') : Sim D cI cB cL bb L xs A mx my xa kp N (wW cI cB cL A F c fo sp pi cd sx pd th sm u) := by
  subst er
  refine Or.inl ⟨r, wW cI cB cL A F c' fo' sp' pi' cd sx pd th sm u, fun o => hx _, fun o => rfl, fun o o' => rfl, fun o => ⟨_, rfl⟩, fun o => ⟨wW cI cB cL A F c' fo' sp' pi' 0 sx' pd' th' sm' u' o, hy _ _ _ _ _ _ _, F, c', fo', sp', pi', sx', pd', th', sm', u', rfl, R⟩⟩
theorem sim_th {E : String} {k b : Int32} (hk : (E, k) ∈ kp) (h0 : k ≠ 0) (hx : ∀ rest, Thr (gg D cI cB cL bb L xs) mx 5 1 6 (.ref (A 0) :: xa) (xW cI cB (A 0) (A 1) (A 2) (A 3) (A 4) (A 5) F c fo sp pi rest) E)
    (hy : ∀ z0 z1 z2 z3 z4 z5 rest, Ret (gg D cI cB cL bb L xs) my 6 0 0 (.ref (A 6) :: xa) (zW z0 z1 z2 z3 z4 z5 cI cB (A 6) (A 7) (A 8) (A 9) (A 10) cd F sx pd th sm u rest) (some (.int b)) (zW z0 z1 z2 z3 z4 z5 cI cB (A 6) (A 7) (A 8) (A 9) (A 10) k F sx pd th sm u rest)) (R : Rel F c fo sp pi N sx pd th sm u) : Sim D cI cB cL bb L xs A mx my xa kp N (wW cI cB cL A F c fo sp pi cd sx pd th sm u) := by
  refine Or.inr ⟨E, k, b, hk, h0, fun o => hx _, fun o => ⟨wW cI cB cL A F c fo sp pi k sx pd th sm u o, hy _ _ _ _ _ _ _, F, c, fo, sp, pi, sx, pd, th, sm, u, rfl, R⟩⟩
/-- a space that is there, or none -/
theorem sp_or (sp : Nat → Bool) (x : Int32) : (∃ s, s < 6 ∧ x = nI s ∧ sp (48 + s) = true) ∨ ∀ j, j < 6 → x = nI j → sp (48 + j) = false := by
  by_cases h : ∃ s, s < 6 ∧ x = nI s ∧ sp (48 + s) = true
  · exact Or.inl h
  · refine Or.inr (fun j hj e => ?_)
    cases b : sp (48 + j) with
    | false => rfl
    | true => exact absurd ⟨j, hj, e, b⟩ h
theorem pi_or (pi : Nat → Bool) (x : Int32) : (∃ s, s < 8 ∧ x = nI s ∧ pi s = true) ∨ ∀ j, j < 8 → x = nI j → pi j = false := by
  by_cases h : ∃ s, s < 8 ∧ x = nI s ∧ pi s = true
  · exact Or.inl h
  · refine Or.inr (fun j hj e => ?_)
    cases b : pi j with
    | false => rfl
    | true => exact absurd ⟨j, hj, e, b⟩ h
theorem ix_or (n : Nat) (x : Int32) : (∃ p, p < n ∧ x = nI p) ∨ ∀ j, j < n → x ≠ nI j := by
  by_cases h : ∃ p, p < n ∧ x = nI p
  · exact Or.inl h
  · exact Or.inr (fun j hj e => h ⟨j, hj, e⟩)
theorem Rel.nth (R : Rel F c fo sp pi N sx pd th sm u) {x : Int32} (h : ∀ j, j < 6 → x = nI j → sp (48 + j) = false) : ∀ j, j < 6 → x = nI j → th j = false := fun j hj e => by rw [R.th j hj]; exact h j hj e
theorem Rel.npd (R : Rel F c fo sp pi N sx pd th sm u) {x : Int32} (h : ∀ j, j < 8 → x = nI j → pi j = false) : ∀ j, j < 8 → x = nI j → pd (1 + j) = false := fun j hj e => by rw [R.pd j hj]; exact h j hj e
theorem ems_is (sm : Nat → Nat) (r : Nat) : ∀ i k, ems sm r i k = if 48 * r ≤ k ∧ k < 48 * r + 8 * i then 0 else sm k := by
  intro i
  induction i with
  | zero => intro k; show sm k = _; rw [if_neg (by omega)]
  | succ i ih =>
    intro k
    show va_cpy (fun _ => 0) (ems sm r i) 0 (8 * (6 * r + i)) 8 k = _
    simp only [va_cpy]
    split
    · rw [if_pos (by omega)]
    · rw [ih k]
      split
      · rw [if_pos (by omega)]
      · rw [if_neg (by omega)]
theorem emt_is (th : Nat → Bool) (r : Nat) : ∀ i k, emt th r i k = if 6 * r ≤ k ∧ k < 6 * r + i then false else th k := by
  intro i
  induction i with
  | zero => intro k; show th k = _; rw [if_neg (by omega)]
  | succ i ih =>
    intro k
    show va_up (emt th r i) (6 * r + i) false k = _
    simp only [va_up]
    split
    · rw [if_pos (by omega)]
    · rw [ih k]
      split
      · rw [if_pos (by omega)]
      · rw [if_neg (by omega)]
set_option maxRecDepth 100000 in
set_option maxHeartbeats 1000000 in
theorem s_open (R : Rel F c fo sp pi N sx pd th sm u) (hN : N < 2 ^ 30) : Sim D cI cB cL bb L xs A mX_open mY_open [] [] (N + 1) (wW cI cB cL A F c fo sp pi cd sx pd th sm u) := by
  have hs30 := R.sm30 hN
  rcases least (fun q => sp (48 + q)) 6 with h | ⟨j, hj, h0, hlt⟩
  · have h' : ∀ q, q < 6 → th q = true := fun q hq => (R.th q hq).trans (h q hq)
    refine sim_ok rfl (fun _ => c_open0 h) (fun _ _ _ _ _ _ _ => d_open0 h') ?_
    exact R.up (by omega)
  · have h0' : th j = false := (R.th j hj).trans h0
    have hlt' : ∀ q, q < j → th q = true := fun q hq => (R.th q (by omega)).trans (hlt q hq)
    refine sim_ok rfl (fun _ => c_open1 j hj h0 hlt) (fun _ _ _ _ _ _ _ => d_open1 j hj h0' hlt') ?_
    refine ⟨R.F1, R.F60, ?_, ?_, ?_, ?_, ?_, ?_, ?_⟩
    · exact R.fo
    · have := R.sx; omega
    · exact R.sm
    · exact R.core
    · exact R.pd
    · intro s0 hs0; simp only [va_up, va_cpy]; repeat' split
      all_goals first | rfl | (exfalso; omega) | exact R.th s0 hs0
    · intro p0 hp0 hpi0 s0 hs0; simp only [va_up, va_cpy]; repeat' split
      all_goals first | rfl | (exfalso; omega) | exact R.tp p0 hp0 hpi0 s0 hs0
set_option maxRecDepth 100000 in
set_option maxHeartbeats 1000000 in
theorem s_fork (R : Rel F c fo sp pi N sx pd th sm u) (hN : N < 2 ^ 30) (x : Int32) : Sim D cI cB cL bb L xs A mX_fork mY_fork [.int x] [("java/util/NoSuchElementException", 1)] (N + 1) (wW cI cB cL A F c fo sp pi cd sx pd th sm u) := by
  have hs30 := R.sm30 hN
  rcases sp_or sp x with ⟨s, hs, rfl, hsp⟩ | hx
  · have hth : th s = true := (R.th s hs).trans hsp
    rcases least (fun q => sp (48 + q)) 6 with h | ⟨j, hj, h0, hlt⟩
    · have h' : ∀ q, q < 6 → th q = true := fun q hq => (R.th q hq).trans (h q hq)
      refine sim_ok rfl (fun _ => c_fork0 s hs hsp h) (fun _ _ _ _ _ _ _ => d_fork0 s hs hth h') ?_
      exact R.up (by omega)
    · have h0' : th j = false := (R.th j hj).trans h0
      have hlt' : ∀ q, q < j → th q = true := fun q hq => (R.th q (by omega)).trans (hlt q hq)
      refine sim_ok rfl (fun _ => c_fork1 R.F60 R.fo s hs hsp j hj h0 hlt) (fun _ _ _ _ _ _ _ => d_fork1 s hs hth j hj h0' hlt') ?_
      refine ⟨R.F1, R.F60, ?_, ?_, ?_, ?_, ?_, ?_, ?_⟩
      · exact cpy_fo (P := fun o => ∀ j, o = some j → j < F) R.fo R.fo
      · have := R.sx; omega
      · exact cpy_fo (P := fun q => q ≤ sx) R.sm R.sm
      · refine R.core.cpy (S := 8 * s) (T := 8 * j) (w := 8) (by omega) (fun k hk => ?_) (fun k hk => ?_) (fun k hk i hi => ?_)
        · first | rfl | (simp only [va_up, va_cpy]; split <;> split <;> (first | rfl | (exfalso; omega) | exact congrArg fo (by omega) | exact congrArg u (by omega) | exact congrArg sm (by omega)))
        · by_cases z : k < 48
          · simp only [va_up, va_cpy, pH_lo z]; split <;> split <;> (first | rfl | (exfalso; omega) | exact congrArg fo (by omega) | exact congrArg u (by omega) | exact congrArg sm (by omega) | (rw [pH_lo (by omega)]; exact congrArg fo (by omega)) | (rw [pH_ge (by omega)]; exact congrArg fo (by omega)))
          · simp only [va_up, va_cpy, pH_ge z]; split <;> split <;> (first | rfl | (exfalso; omega) | exact congrArg fo (by omega) | exact congrArg u (by omega) | exact congrArg sm (by omega) | (rw [pH_lo (by omega)]; exact congrArg fo (by omega)) | (rw [pH_ge (by omega)]; exact congrArg fo (by omega)))
        · simp only [va_up, va_cpy]; split <;> split <;> (first | rfl | (exfalso; omega) | exact congrArg fo (by omega) | exact congrArg u (by omega) | exact congrArg sm (by omega))
      · exact R.pd
      · intro s0 hs0; simp only [va_up, va_cpy]; repeat' split
        all_goals first | rfl | (exfalso; omega) | exact R.th s0 hs0
      · intro p0 hp0 hpi0 s0 hs0; simp only [va_up, va_cpy]; repeat' split
        all_goals first | rfl | (exfalso; omega) | exact R.tp p0 hp0 hpi0 s0 hs0
  · have hy := R.nth hx
    exact sim_th (List.mem_cons_self) (by decide) (fun _ => t_fork x hx) (fun _ _ _ _ _ _ _ => e_fork x hy) (R.up (by omega))
set_option maxRecDepth 100000 in
set_option maxHeartbeats 1000000 in
theorem s_close (R : Rel F c fo sp pi N sx pd th sm u) (hN : N < 2 ^ 30) (x : Int32) : Sim D cI cB cL bb L xs A mX_close mY_close [.int x] [("java/util/NoSuchElementException", 1)] (N + 1) (wW cI cB cL A F c fo sp pi cd sx pd th sm u) := by
  have hs30 := R.sm30 hN
  rcases sp_or sp x with ⟨s, hs, rfl, hsp⟩ | hx
  · have hth : th s = true := (R.th s hs).trans hsp
    refine sim_ok (congrArg nI (gcnt_congr (fun p hp => (R.pgb hs hp).symm))) (fun _ => c_close R.F60 R.fo s hs hsp) (fun _ _ _ _ _ _ _ => d_close hs30 s hs hth) ?_
    refine ⟨R.F1, R.F60, ?_, ?_, ?_, ?_, ?_, ?_, ?_⟩
    · exact cpy_fo (P := fun o => ∀ j, o = some j → j < F) (fun _ j h => by cases h) R.fo
    · have := R.sx; omega
    · exact cpy_fo (P := fun q => q ≤ sx) (fun _ => Nat.zero_le _) R.sm
    · refine R.core.clr (T := 8 * s) (w := 8) (fun k hk => ?_) (fun k hk => ?_)
      · first | rfl | exact ems_is _ _ _ _ | (simp only [va_up, va_cpy]; split <;> split <;> (first | rfl | (exfalso; omega) | exact congrArg fo (by omega) | exact congrArg u (by omega) | exact congrArg sm (by omega)))
      · by_cases z : k < 48
        · simp only [va_up, va_cpy, pH_lo z]; split <;> split <;> (first | rfl | (exfalso; omega) | exact congrArg fo (by omega) | exact congrArg u (by omega) | exact congrArg sm (by omega) | (rw [pH_lo (by omega)]; exact congrArg fo (by omega)) | (rw [pH_ge (by omega)]; exact congrArg fo (by omega)))
        · simp only [va_up, va_cpy, pH_ge z]; split <;> split <;> (first | rfl | (exfalso; omega) | exact congrArg fo (by omega) | exact congrArg u (by omega) | exact congrArg sm (by omega) | (rw [pH_lo (by omega)]; exact congrArg fo (by omega)) | (rw [pH_ge (by omega)]; exact congrArg fo (by omega)))
    · exact R.pd
    · intro s0 hs0; simp only [va_up, va_cpy]; repeat' split
      all_goals first | rfl | (exfalso; omega) | exact R.th s0 hs0
    · intro p0 hp0 hpi0 s0 hs0; simp only [va_up, va_cpy]; repeat' split
      all_goals first | rfl | (exfalso; omega) | exact R.tp p0 hp0 hpi0 s0 hs0
  · have hy := R.nth hx
    exact sim_th (List.mem_cons_self) (by decide) (fun _ => t_close x hx) (fun _ _ _ _ _ _ _ => e_close x hy) (R.up (by omega))
set_option maxRecDepth 100000 in
set_option maxHeartbeats 1000000 in
theorem s_unmap (R : Rel F c fo sp pi N sx pd th sm u) (hN : N < 2 ^ 30) (x y : Int32) : Sim D cI cB cL bb L xs A mX_unmap mY_unmap [.int x, .int y] [("java/util/NoSuchElementException", 1), ("java/lang/IndexOutOfBoundsException", 2)] (N + 1) (wW cI cB cL A F c fo sp pi cd sx pd th sm u) := by
  have hs30 := R.sm30 hN
  rcases sp_or sp x with ⟨s, hs, rfl, hsp⟩ | hx
  · have hth : th s = true := (R.th s hs).trans hsp
    rcases ix_or 8 y with ⟨p, hp, rfl⟩ | hy
    · skip
      refine sim_ok (congrArg bI (R.pgb hs hp).symm) (fun _ => c_unmap R.F60 R.fo s hs hsp p hp) (fun _ _ _ _ _ _ _ => d_unmap hs30 s hs hth p hp) ?_
      refine ⟨R.F1, R.F60, ?_, ?_, ?_, ?_, ?_, ?_, ?_⟩
      · exact up_fo (P := fun o => ∀ j, o = some j → j < F) R.fo (fun j h => by cases h)
      · have := R.sx; omega
      · exact up_fo (P := fun q => q ≤ sx) R.sm (Nat.zero_le _)
      · refine R.core.clr (T := 8 * s + p) (w := 1) (fun k hk => ?_) (fun k hk => ?_)
        · first | rfl | exact ems_is _ _ _ _ | (simp only [va_up, va_cpy]; split <;> split <;> (first | rfl | (exfalso; omega) | exact congrArg fo (by omega) | exact congrArg u (by omega) | exact congrArg sm (by omega)))
        · by_cases z : k < 48
          · simp only [va_up, va_cpy, pH_lo z]; split <;> split <;> (first | rfl | (exfalso; omega) | exact congrArg fo (by omega) | exact congrArg u (by omega) | exact congrArg sm (by omega) | (rw [pH_lo (by omega)]; exact congrArg fo (by omega)) | (rw [pH_ge (by omega)]; exact congrArg fo (by omega)))
          · simp only [va_up, va_cpy, pH_ge z]; split <;> split <;> (first | rfl | (exfalso; omega) | exact congrArg fo (by omega) | exact congrArg u (by omega) | exact congrArg sm (by omega) | (rw [pH_lo (by omega)]; exact congrArg fo (by omega)) | (rw [pH_ge (by omega)]; exact congrArg fo (by omega)))
      · exact R.pd
      · exact R.th
      · exact R.tp
    · skip
      exact sim_th (List.mem_cons_of_mem _ List.mem_cons_self) (by decide) (fun _ => t_unmap2 s hs hsp y hy) (fun _ _ _ _ _ _ _ => e_unmap2 s hs hth y hy) (R.up (by omega))
  · have hy := R.nth hx
    exact sim_th (List.mem_cons_self) (by decide) (fun _ => t_unmap1 x hx y) (fun _ _ _ _ _ _ _ => e_unmap1 x hy y) (R.up (by omega))
set_option maxRecDepth 100000 in
set_option maxHeartbeats 1000000 in
theorem s_holders (R : Rel F c fo sp pi N sx pd th sm u) (hN : N < 2 ^ 30) (x y : Int32) : Sim D cI cB cL bb L xs A mX_holders mY_holders [.int x, .int y] [("java/util/NoSuchElementException", 1), ("java/lang/IndexOutOfBoundsException", 2)] (N + 1) (wW cI cB cL A F c fo sp pi cd sx pd th sm u) := by
  have hs30 := R.sm30 hN
  rcases sp_or sp x with ⟨s, hs, rfl, hsp⟩ | hx
  · have hth : th s = true := (R.th s hs).trans hsp
    rcases ix_or 8 y with ⟨p, hp, rfl⟩ | hy
    · cases hb : fo (384 + s * 8 + p) with
      | none =>
        refine sim_ok rfl (fun _ => c_holders0 R.F60 R.fo s hs hsp p hp hb) (fun _ _ _ _ _ _ _ => d_holdersB hs30 s hs hth p hp ((R.pg hs hp).mpr hb)) ?_
        exact R.up (by omega)
      | some b =>
        have h0 : sm (8 * s + p) ≠ 0 := fun z => by have := (R.pg hs hp).mp z; rw [hb] at this; cases this
        have hb' : fo (pH (8 * s + p)) = some b := by rw [pH_lo (by omega), show 384 + (8 * s + p) = 384 + s * 8 + p from by omega]; exact hb
        refine sim_ok (congrArg nI (R.cnt (k0 := 8 * s + p) (by omega) hb').symm) (fun _ => c_holders1 R.F60 R.fo s hs hsp p hp b hb) (fun _ _ _ _ _ _ _ => d_holdersA hs30 s hs hth p hp h0) ?_
        exact R.up (by omega)
    · skip
      exact sim_th (List.mem_cons_of_mem _ List.mem_cons_self) (by decide) (fun _ => t_holders2 s hs hsp y hy) (fun _ _ _ _ _ _ _ => e_holders2 s hs hth y hy) (R.up (by omega))
  · have hy := R.nth hx
    exact sim_th (List.mem_cons_self) (by decide) (fun _ => t_holders1 x hx y) (fun _ _ _ _ _ _ _ => e_holders1 x hy y) (R.up (by omega))
set_option maxRecDepth 100000 in
set_option maxHeartbeats 1000000 in
theorem s_map (R : Rel F c fo sp pi N sx pd th sm u) (hN : N < 2 ^ 30) (x y v : Int32) : Sim D cI cB cL bb L xs A mX_map mY_map [.int x, .int y, .int v] [("java/util/NoSuchElementException", 1), ("java/lang/IndexOutOfBoundsException", 2), ("java/lang/IllegalStateException", 3)] (N + 1) (wW cI cB cL A F c fo sp pi cd sx pd th sm u) := by
  have hs30 := R.sm30 hN
  rcases sp_or sp x with ⟨s, hs, rfl, hsp⟩ | hx
  · have hth : th s = true := (R.th s hs).trans hsp
    rcases ix_or 8 y with ⟨p, hp, rfl⟩ | hy
    · cases hb : fo (384 + s * 8 + p) with
      | none =>
        have hz := (R.pg hs hp).mpr hb
        have hi0 : (fo (384 + s * 8 + p)).isSome = false := by rw [hb]; rfl
        rcases R.free with ⟨hu, hall⟩ | ⟨hu, j, hj, h0, hlt⟩
        · skip
          exact sim_th (List.mem_cons_of_mem _ (List.mem_cons_of_mem _ List.mem_cons_self)) (by decide) (fun _ => t_map3 R.F60 R.fo s hs hsp p hp v hi0 hall) (fun _ _ _ _ _ _ _ => e_map3 hs30 s hs hth p hp v R.F60 hz hu) (R.up (by omega))
        · skip
          refine sim_ok rfl (fun _ => c_map1 R.F60 R.fo s hs hsp p hp v hi0 j hj h0 hlt) (fun _ _ _ _ _ _ _ => d_map1 hs30 s hs hth p hp v R.F60 hz hu) ?_
          refine ⟨R.F1, R.F60, ?_, ?_, ?_, ?_, ?_, ?_, ?_⟩
          · exact up_fo (P := fun o => ∀ j, o = some j → j < F) R.fo (fun q h => by cases h; exact hj)
          · have := R.sx; omega
          · exact up_fo (P := fun q => q ≤ sx + 1) (fun k => by have := R.sm k; omega) (Nat.le_refl _)
          · refine R.core.new (k0 := 8 * s + p) (j := j) (x := sx + 1) (R.nofree h0) (fun k => by have := R.sm k; omega) (fun k hk => rfl) (fun k hk => ?_) (fun f hf i hi => ?_) (fun k hk i hi => ?_) (fun i hi => ?_)
            · by_cases z : k < 48
              · simp only [va_up, pH_lo z]; split <;> split <;> (first | rfl | (exfalso; omega) | exact congrArg fo (by omega) | exact congrArg u (by omega) | exact congrArg sm (by omega))
              · simp only [va_up, pH_ge z]; split <;> split <;> (first | rfl | (exfalso; omega) | exact congrArg fo (by omega) | exact congrArg u (by omega) | exact congrArg sm (by omega))
            · simp only [va_cpy]; split <;> (first | rfl | (exfalso; omega) | exact congrArg fo (by omega) | exact congrArg u (by omega) | exact congrArg sm (by omega))
            · simp only [va_cpy]; split <;> (first | rfl | (exfalso; omega) | exact congrArg fo (by omega) | exact congrArg u (by omega) | exact congrArg sm (by omega))
            · simp only [va_cpy]; rw [if_pos (by omega), if_pos (by omega)]
          · exact R.pd
          · exact R.th
          · exact R.tp
      | some b =>
        have h0 : sm (8 * s + p) ≠ 0 := fun z => by have := (R.pg hs hp).mp z; rw [hb] at this; cases this
        refine sim_ok rfl (fun _ => c_map0 R.F60 R.fo s hs hsp p hp v (by rw [hb]; rfl)) (fun _ _ _ _ _ _ _ => d_map0 hs30 s hs hth p hp v h0) ?_
        exact R.up (by omega)
    · skip
      exact sim_th (List.mem_cons_of_mem _ List.mem_cons_self) (by decide) (fun _ => t_map2 s hs hsp y hy v) (fun _ _ _ _ _ _ _ => e_map2 s hs hth y hy v) (R.up (by omega))
  · have hy := R.nth hx
    exact sim_th (List.mem_cons_self) (by decide) (fun _ => t_map1 x hx y v) (fun _ _ _ _ _ _ _ => e_map1 x hy y v) (R.up (by omega))
set_option maxRecDepth 100000 in
set_option maxHeartbeats 1000000 in
theorem s_read (R : Rel F c fo sp pi N sx pd th sm u) (hN : N < 2 ^ 30) (x y : Int32) : Sim D cI cB cL bb L xs A mX_read mY_read [.int x, .int y] [("java/lang/IndexOutOfBoundsException", 1), ("java/util/NoSuchElementException", 2)] (N + 1) (wW cI cB cL A F c fo sp pi cd sx pd th sm u) := by
  have hs30 := R.sm30 hN
  rcases ix_or 128 y with ⟨a, ha, rfl⟩ | hy
  · rcases sp_or sp x with ⟨s, hs, rfl, hsp⟩ | hx
    · have hth : th s = true := (R.th s hs).trans hsp
      cases hb : fo (384 + s * 8 + a / 16) with
      | none =>
        exact sim_th (List.mem_cons_of_mem _ List.mem_cons_self) (by decide) (fun _ => t_read3 R.F60 R.fo s hs hsp a ha (by rw [hb]; rfl)) (fun _ _ _ _ _ _ _ => e_read3 hs30 s hs hth a ha ((R.pg hs (p := a / 16) (by omega)).mpr hb)) (R.up (by omega))
      | some b =>
        have h0 : sm (8 * s + a / 16) ≠ 0 := fun z => by have := (R.pg hs (p := a / 16) (by omega)).mp z; rw [hb] at this; cases this
        have hb' : fo (pH (8 * s + a / 16)) = some b := by rw [pH_lo (by omega), show 384 + (8 * s + a / 16) = 384 + s * 8 + a / 16 from by omega]; exact hb
        have hcu := R.core.u (8 * s + a / 16) (by omega) b hb'
        refine sim_ok (hcu (a % 16) (by omega)).symm (fun _ => c_read R.F60 R.fo s hs hsp a ha b hb) (fun _ _ _ _ _ _ _ => d_read hs30 s hs hth a ha h0) ?_
        exact R.up (by omega)
    · have hy := R.nth hx
      exact sim_th (List.mem_cons_of_mem _ List.mem_cons_self) (by decide) (fun _ => t_read2 x hx a ha) (fun _ _ _ _ _ _ _ => e_read2 x hy a ha) (R.up (by omega))
  · skip
    exact sim_th (List.mem_cons_self) (by decide) (fun _ => t_read1 x y hy) (fun _ _ _ _ _ _ _ => e_read1 x y hy) (R.up (by omega))
set_option maxRecDepth 100000 in
set_option maxHeartbeats 1000000 in
theorem s_write (R : Rel F c fo sp pi N sx pd th sm u) (hN : N < 2 ^ 30) (x y v : Int32) : Sim D cI cB cL bb L xs A mX_write mY_write [.int x, .int y, .int v] [("java/lang/IndexOutOfBoundsException", 1), ("java/util/NoSuchElementException", 2), ("java/lang/IllegalStateException", 3)] (N + 1) (wW cI cB cL A F c fo sp pi cd sx pd th sm u) := by
  have hs30 := R.sm30 hN
  rcases ix_or 128 y with ⟨a, ha, rfl⟩ | hy
  · rcases sp_or sp x with ⟨s, hs, rfl, hsp⟩ | hx
    · have hth : th s = true := (R.th s hs).trans hsp
      cases hb : fo (384 + s * 8 + a / 16) with
      | none =>
        exact sim_th (List.mem_cons_of_mem _ List.mem_cons_self) (by decide) (fun _ => t_write3 R.F60 R.fo s hs hsp a ha (by rw [hb]; rfl) v) (fun _ _ _ _ _ _ _ => e_write3 hs30 s hs hth a ha ((R.pg hs (p := a / 16) (by omega)).mpr hb) v) (R.up (by omega))
      | some b =>
        have h0 : sm (8 * s + a / 16) ≠ 0 := fun z => by have := (R.pg hs (p := a / 16) (by omega)).mp z; rw [hb] at this; cases this
        have hb' : fo (pH (8 * s + a / 16)) = some b := by rw [pH_lo (by omega), show 384 + (8 * s + a / 16) = 384 + s * 8 + a / 16 from by omega]; exact hb
        have hcu := R.core.u (8 * s + a / 16) (by omega) b hb'
        have hcn := R.cnt (k0 := 8 * s + a / 16) (by omega) hb'
        have hps : 1 ≤ hcnt fo b := hcnt_pos (k := 384 + s * 8 + a / 16) (by omega) hb
        by_cases h1 : hcnt fo b = 1
        · skip
          refine sim_ok (hcu (a % 16) (by omega)).symm (fun _ => c_write1 R.F60 R.fo s hs hsp a ha b hb v h1) (fun _ _ _ _ _ _ _ => d_write1 hs30 R.F60 s hs hth a ha v h0 (by rw [hcn, h1]; exact Nat.le_refl 1)) ?_
          refine ⟨R.F1, R.F60, ?_, ?_, ?_, ?_, ?_, ?_, ?_⟩
          · exact R.fo
          · have := R.sx; omega
          · exact R.sm
          · refine R.core.wr (k0 := 8 * s + a / 16) (b := b) (R.one (by omega) hb' h1) hb' (fun f hf i hi => ?_) (fun k hk i hi => ?_) (fun i hi => ?_)
            · simp only [va_up]; split <;> (first | rfl | (exfalso; omega) | exact congrArg fo (by omega) | exact congrArg u (by omega) | exact congrArg sm (by omega))
            · simp only [va_up]; split <;> (first | rfl | (exfalso; omega) | exact congrArg fo (by omega) | exact congrArg u (by omega) | exact congrArg sm (by omega))
            · simp only [va_up]; split <;> split <;> first | rfl | (exfalso; omega) | exact hcu i hi
          · exact R.pd
          · exact R.th
          · exact R.tp
        · have h1' : ¬ gcnt (fun k => decide (sm k = sm (8 * s + a / 16))) 432 ≤ 1 := by rw [hcn]; omega
          rcases R.free with ⟨hu, hall⟩ | ⟨hu, j, hj, h0', hlt⟩
          · skip
            exact sim_th (List.mem_cons_of_mem _ (List.mem_cons_of_mem _ List.mem_cons_self)) (by decide) (fun _ => t_write4 R.F60 R.fo s hs hsp a ha b hb v h1 hall) (fun _ _ _ _ _ _ _ => e_write4 hs30 R.F60 s hs hth a ha v h0 h1' hu) (R.up (by omega))
          · have hjb : j ≠ b := fun z => by rw [z] at h0'; omega
            refine sim_ok (by simp only [va_cpy]; rw [if_pos (by omega), show b * 16 + (j * 16 + a % 16 - j * 16) = b * 16 + a % 16 from by omega]; exact (hcu (a % 16) (by omega)).symm) (fun _ => c_write2 R.F60 R.fo s hs hsp a ha b hb v h1 j hj h0' hlt) (fun _ _ _ _ _ _ _ => d_write2 hs30 R.F60 s hs hth a ha v h0 h1' hu) ?_
            refine ⟨R.F1, R.F60, ?_, ?_, ?_, ?_, ?_, ?_, ?_⟩
            · exact up_fo (P := fun o => ∀ j, o = some j → j < F) R.fo (fun q h => by cases h; exact hj)
            · have := R.sx; omega
            · exact up_fo (P := fun q => q ≤ sx + 1) (fun k => by have := R.sm k; omega) (Nat.le_refl _)
            · refine R.core.new (k0 := 8 * s + a / 16) (j := j) (x := sx + 1) (R.nofree h0') (fun k => by have := R.sm k; omega) (fun k hk => rfl) (fun k hk => ?_) (fun f hf i hi => ?_) (fun k hk i hi => ?_) (fun i hi => ?_)
              · by_cases z : k < 48
                · simp only [va_up, pH_lo z]; split <;> split <;> (first | rfl | (exfalso; omega) | exact congrArg fo (by omega) | exact congrArg u (by omega) | exact congrArg sm (by omega))
                · simp only [va_up, pH_ge z]; split <;> split <;> (first | rfl | (exfalso; omega) | exact congrArg fo (by omega) | exact congrArg u (by omega) | exact congrArg sm (by omega))
              · simp only [va_up, va_cpy]; split <;> (try split) <;> (first | rfl | (exfalso; omega) | exact congrArg fo (by omega) | exact congrArg u (by omega) | exact congrArg sm (by omega))
              · simp only [va_up]; split <;> (first | rfl | (exfalso; omega) | exact congrArg fo (by omega) | exact congrArg u (by omega) | exact congrArg sm (by omega))
              · simp only [va_up, va_cpy]
                by_cases w : i = a % 16
                · rw [if_pos (by omega), if_pos (by omega)]
                · rw [if_neg (by omega), if_neg (by omega), if_pos (by omega), show b * 16 + (j * 16 + i - j * 16) = b * 16 + i from by omega]; exact hcu i hi
            · exact R.pd
            · exact R.th
            · exact R.tp
    · have hy := R.nth hx
      exact sim_th (List.mem_cons_of_mem _ List.mem_cons_self) (by decide) (fun _ => t_write2 x hx a ha v) (fun _ _ _ _ _ _ _ => e_write2 x hy a ha v) (R.up (by omega))
  · skip
    exact sim_th (List.mem_cons_self) (by decide) (fun _ => t_write1 x y hy v) (fun _ _ _ _ _ _ _ => e_write1 x y hy v) (R.up (by omega))
set_option maxRecDepth 100000 in
set_option maxHeartbeats 1000000 in
theorem s_lend (R : Rel F c fo sp pi N sx pd th sm u) (hN : N < 2 ^ 30) (x y z w : Int32) : Sim D cI cB cL bb L xs A mX_lend mY_lend [.int x, .int y, .int z, .int w] [("java/util/NoSuchElementException", 1), ("java/lang/IndexOutOfBoundsException", 2)] (N + 1) (wW cI cB cL A F c fo sp pi cd sx pd th sm u) := by
  have hs30 := R.sm30 hN
  rcases sp_or sp x with ⟨s, hs, rfl, hsp⟩ | hx
  · have hth : th s = true := (R.th s hs).trans hsp
    rcases sp_or sp z with ⟨t, ht, rfl, htp⟩ | hz
    · have htt : th t = true := (R.th t ht).trans htp
      rcases ix_or 8 y with ⟨p, hp, rfl⟩ | hy
      · rcases ix_or 8 w with ⟨q, hq, rfl⟩ | hw
        · skip
          have he0 := R.core.e (8 * s + p) (by omega) (8 * t + q) (by omega)
          simp only [pH_lo (show 8 * s + p < 48 by omega), pH_lo (show 8 * t + q < 48 by omega), show 384 + (8 * s + p) = 384 + s * 8 + p from by omega, show 384 + (8 * t + q) = 384 + t * 8 + q from by omega] at he0
          refine sim_ok (congrArg bI (decide_eq_decide.mpr (not_congr ⟨fun h => he0.mpr h.symm, fun h => (he0.mp h).symm⟩))) (fun _ => c_lend R.F60 R.fo s hs hsp t ht htp p q hp hq) (fun _ _ _ _ _ _ _ => d_lend hs30 s hs hth t ht htt p q hp hq) ?_
          refine ⟨R.F1, R.F60, ?_, ?_, ?_, ?_, ?_, ?_, ?_⟩
          · exact up_fo (P := fun o => ∀ j, o = some j → j < F) R.fo (R.fo _)
          · have := R.sx; omega
          · exact up_fo (P := fun q => q ≤ sx) R.sm (R.sm _)
          · refine R.core.cpy (S := 8 * s + p) (T := 8 * t + q) (w := 1) (by omega) (fun k hk => ?_) (fun k hk => ?_) (fun k hk i hi => ?_)
            · first | rfl | (simp only [va_up, va_cpy]; split <;> split <;> (first | rfl | (exfalso; omega) | exact congrArg fo (by omega) | exact congrArg u (by omega) | exact congrArg sm (by omega)))
            · by_cases z : k < 48
              · simp only [va_up, va_cpy, pH_lo z]; split <;> split <;> (first | rfl | (exfalso; omega) | exact congrArg fo (by omega) | exact congrArg u (by omega) | exact congrArg sm (by omega) | (rw [pH_lo (by omega)]; exact congrArg fo (by omega)) | (rw [pH_ge (by omega)]; exact congrArg fo (by omega)))
              · simp only [va_up, va_cpy, pH_ge z]; split <;> split <;> (first | rfl | (exfalso; omega) | exact congrArg fo (by omega) | exact congrArg u (by omega) | exact congrArg sm (by omega) | (rw [pH_lo (by omega)]; exact congrArg fo (by omega)) | (rw [pH_ge (by omega)]; exact congrArg fo (by omega)))
            · simp only [va_up, va_cpy]; split <;> split <;> (first | rfl | (exfalso; omega) | exact congrArg fo (by omega) | exact congrArg u (by omega) | exact congrArg sm (by omega))
          · exact R.pd
          · exact R.th
          · exact R.tp
        · skip
          exact sim_th (List.mem_cons_of_mem _ List.mem_cons_self) (by decide) (fun _ => t_lend4 s hs hsp t ht htp p hp w hw) (fun _ _ _ _ _ _ _ => e_lend4 s hs hth t ht htt p hp w hw) (R.up (by omega))
      · skip
        exact sim_th (List.mem_cons_of_mem _ List.mem_cons_self) (by decide) (fun _ => t_lend3 s hs hsp t ht htp y hy w) (fun _ _ _ _ _ _ _ => e_lend3 s hs hth t ht htt y hy w) (R.up (by omega))
    · have hy := R.nth hz
      exact sim_th (List.mem_cons_self) (by decide) (fun _ => t_lend2 s hs hsp z hz y w) (fun _ _ _ _ _ _ _ => e_lend2 s hs hth z hy y w) (R.up (by omega))
  · have hy := R.nth hx
    exact sim_th (List.mem_cons_self) (by decide) (fun _ => t_lend1 x hx z y w) (fun _ _ _ _ _ _ _ => e_lend1 x hy y z w) (R.up (by omega))
set_option maxRecDepth 100000 in
set_option maxHeartbeats 1000000 in
theorem s_join (R : Rel F c fo sp pi N sx pd th sm u) (hN : N < 2 ^ 30) (x y z w : Int32) : Sim D cI cB cL bb L xs A mX_join mY_join [.int x, .int y, .int z, .int w] [("java/util/NoSuchElementException", 1), ("java/lang/IndexOutOfBoundsException", 2)] (N + 1) (wW cI cB cL A F c fo sp pi cd sx pd th sm u) := by
  have hs30 := R.sm30 hN
  rcases sp_or sp x with ⟨s, hs, rfl, hsp⟩ | hx
  · have hth : th s = true := (R.th s hs).trans hsp
    rcases sp_or sp z with ⟨t, ht, rfl, htp⟩ | hz
    · have htt : th t = true := (R.th t ht).trans htp
      rcases ix_or 8 y with ⟨p, hp, rfl⟩ | hy
      · rcases ix_or 8 w with ⟨q, hq, rfl⟩ | hw
        · skip
          have he0 := R.core.e (8 * s + p) (by omega) (8 * t + q) (by omega)
          simp only [pH_lo (show 8 * s + p < 48 by omega), pH_lo (show 8 * t + q < 48 by omega), show 384 + (8 * s + p) = 384 + s * 8 + p from by omega, show 384 + (8 * t + q) = 384 + t * 8 + q from by omega] at he0
          cases hb : fo (384 + s * 8 + p) with
          | none =>
            refine sim_ok rfl (fun _ => c_join0b R.F60 R.fo s hs hsp t ht htp p q hp hq (by rw [hb]; rfl)) (fun _ _ _ _ _ _ _ => d_join0a hs30 s hs hth t ht htt p q hp hq ((R.pg hs hp).mpr hb)) ?_
            exact R.up (by omega)
          | some b =>
            have h1 : sm (8 * s + p) ≠ 0 := fun z => by have := (R.pg hs hp).mp z; rw [hb] at this; cases this
            have hb' : fo (pH (8 * s + p)) = some b := by rw [pH_lo (by omega), show 384 + (8 * s + p) = 384 + s * 8 + p from by omega]; exact hb
            cases he : fo (384 + t * 8 + q) with
            | none =>
              refine sim_ok rfl (fun _ => c_join0c R.F60 R.fo s hs hsp t ht htp p q hp hq (by rw [hb]; rfl) (by rw [he]; rfl)) (fun _ _ _ _ _ _ _ => d_join0b hs30 s hs hth t ht htt p q hp hq h1 ((R.pg ht hq).mpr he)) ?_
              exact R.up (by omega)
            | some e =>
              have h2 : sm (8 * t + q) ≠ 0 := fun z => by have := (R.pg ht hq).mp z; rw [he] at this; cases this
              have he' : fo (pH (8 * t + q)) = some e := by rw [pH_lo (by omega), show 384 + (8 * t + q) = 384 + t * 8 + q from by omega]; exact he
              by_cases hbe : b = e
              · have h0 : fo (384 + s * 8 + p) = fo (384 + t * 8 + q) := by rw [hb, he, hbe]
                refine sim_ok rfl (fun _ => c_join0a R.F60 R.fo s hs hsp t ht htp p q hp hq h0) (fun _ _ _ _ _ _ _ => d_join0c hs30 s hs hth t ht htt p q hp hq h1 h2 (he0.mpr h0)) ?_
                exact R.up (by omega)
              · have h3 : ¬ sm (8 * s + p) = sm (8 * t + q) := fun z => by have := he0.mp z; rw [hb, he] at this; cases this; exact hbe rfl
                have hcb := R.core.u (8 * s + p) (by omega) b hb'
                have hce := R.core.u (8 * t + q) (by omega) e he'
                have hg : gcnt (fun k => decide (¬ u (16 * (8 * s + p) + k) = u (16 * (8 * t + q) + k))) 16 = gcnt (fun k => decide (¬ c (b * 16 + k) = c (e * 16 + k))) 16 := gcnt_congr (fun k hk => by rw [hcb k hk, hce k hk])
                by_cases hd : gcnt (fun k => decide (¬ c (b * 16 + k) = c (e * 16 + k))) 16 = 0
                · have hsame : ∀ k, k < 16 → c (b * 16 + k) = c (e * 16 + k) := fun k hk => by
                    apply Classical.byContradiction
                    intro hne
                    have := gcnt_pos (p := fun k => decide (¬ c (b * 16 + k) = c (e * 16 + k))) hk (decide_eq_true hne)
                    omega
                  refine sim_ok (congrArg nI (R.cnt (k0 := 8 * t + q) (by omega) he').symm) (fun _ => c_join1 R.F60 R.fo s hs hsp t ht htp p q hp hq b e hb he hbe hd) (fun _ _ _ _ _ _ _ => d_join1 hs30 s hs hth t ht htt p q hp hq h1 h2 h3 (hg.trans hd)) ?_
                  refine ⟨R.F1, R.F60, ?_, ?_, ?_, ?_, ?_, ?_, ?_⟩
                  · exact fun k j h => by simp only [mvf] at h; split at h; cases h; exact R.fo _ _ hb; exact R.fo k j h
                  · have := R.sx; omega
                  · exact fun k => by simp only [mvs]; split; exact R.sm _; exact R.sm k
                  · refine R.core.re (fun k hk => Or.inr ?_)
                    have hkt := R.core.e k hk (8 * t + q) (by omega)
                    simp only [he'] at hkt
                    by_cases w : sm k = sm (8 * t + q)
                    · refine ⟨8 * s + p, by omega, ?_, ?_, fun i hi => ?_⟩
                      · simp only [mvs]; rw [if_pos ⟨hk, w⟩]
                      · simp only [mvf]; rw [if_pos ⟨pH_lt hk, hkt.mp w⟩, hb']
                      · rw [R.core.u k hk e (hkt.mp w) i hi, hcb i hi, hsame i hi]
                    · refine ⟨k, hk, ?_, ?_, fun i hi => rfl⟩
                      · simp only [mvs]; rw [if_neg (fun z => w z.2)]
                      · simp only [mvf]; rw [if_neg (fun z => w (hkt.mpr z.2))]
                  · exact R.pd
                  · exact R.th
                  · exact R.tp
                · skip
                  refine sim_ok rfl (fun _ => c_join0d R.F60 R.fo s hs hsp t ht htp p q hp hq b e hb he hbe hd) (fun _ _ _ _ _ _ _ => d_join0d hs30 s hs hth t ht htt p q hp hq h1 h2 h3 (by rw [hg]; exact hd)) ?_
                  exact R.up (by omega)
        · skip
          exact sim_th (List.mem_cons_of_mem _ List.mem_cons_self) (by decide) (fun _ => t_join4 s hs hsp t ht htp p hp w hw) (fun _ _ _ _ _ _ _ => e_join4 s hs hth t ht htt p hp w hw) (R.up (by omega))
      · skip
        exact sim_th (List.mem_cons_of_mem _ List.mem_cons_self) (by decide) (fun _ => t_join3 s hs hsp t ht htp y hy w) (fun _ _ _ _ _ _ _ => e_join3 s hs hth t ht htt y hy w) (R.up (by omega))
    · have hy := R.nth hz
      exact sim_th (List.mem_cons_self) (by decide) (fun _ => t_join2 s hs hsp z hz y w) (fun _ _ _ _ _ _ _ => e_join2 s hs hth z hy y w) (R.up (by omega))
  · have hy := R.nth hx
    exact sim_th (List.mem_cons_self) (by decide) (fun _ => t_join1 x hx z y w) (fun _ _ _ _ _ _ _ => e_join1 x hy y z w) (R.up (by omega))
set_option maxRecDepth 100000 in
set_option maxHeartbeats 1000000 in
theorem s_take (R : Rel F c fo sp pi N sx pd th sm u) (hN : N < 2 ^ 30) : Sim D cI cB cL bb L xs A mX_take mY_take [] [] (N + 1) (wW cI cB cL A F c fo sp pi cd sx pd th sm u) := by
  have hs30 := R.sm30 hN
  rcases least pi 8 with h | ⟨j, hj, h0, hlt⟩
  · have h' : ∀ q, q < 8 → pd (1 + q) = true := fun q hq => (R.pd q hq).trans (h q hq)
    refine sim_ok rfl (fun _ => c_take0 h) (fun _ _ _ _ _ _ _ => d_take0 h') ?_
    exact R.up (by omega)
  · have h0' : pd (1 + j) = false := (R.pd j hj).trans h0
    have hlt' : ∀ q, q < j → pd (1 + q) = true := fun q hq => (R.pd q (by omega)).trans (hlt q hq)
    refine sim_ok rfl (fun _ => c_take1 R.F60 R.fo j hj h0 hlt) (fun _ _ _ _ _ _ _ => d_take1 j hj h0' hlt') ?_
    refine ⟨R.F1, R.F60, ?_, ?_, ?_, ?_, ?_, ?_, ?_⟩
    · exact cpy_fo (P := fun o => ∀ j, o = some j → j < F) R.fo R.fo
    · have := R.sx; omega
    · exact cpy_fo (P := fun q => q ≤ sx) R.sm R.sm
    · refine R.core.cpy (S := 48 * 0) (T := 48 * (1 + j)) (w := 48) (by omega) (fun k hk => ?_) (fun k hk => ?_) (fun k hk i hi => ?_)
      · first | rfl | (simp only [va_up, va_cpy]; split <;> split <;> (first | rfl | (exfalso; omega) | exact congrArg fo (by omega) | exact congrArg u (by omega) | exact congrArg sm (by omega)))
      · by_cases z : k < 48
        · simp only [va_up, va_cpy, pH_lo z]; split <;> split <;> (first | rfl | (exfalso; omega) | exact congrArg fo (by omega) | exact congrArg u (by omega) | exact congrArg sm (by omega) | (rw [pH_lo (by omega)]; exact congrArg fo (by omega)) | (rw [pH_ge (by omega)]; exact congrArg fo (by omega)))
        · simp only [va_up, va_cpy, pH_ge z]; split <;> split <;> (first | rfl | (exfalso; omega) | exact congrArg fo (by omega) | exact congrArg u (by omega) | exact congrArg sm (by omega) | (rw [pH_lo (by omega)]; exact congrArg fo (by omega)) | (rw [pH_ge (by omega)]; exact congrArg fo (by omega)))
      · simp only [va_up, va_cpy]; split <;> split <;> (first | rfl | (exfalso; omega) | exact congrArg fo (by omega) | exact congrArg u (by omega) | exact congrArg sm (by omega))
    · intro p0 hp0; simp only [va_up]; split <;> split <;> first | rfl | (exfalso; omega) | exact R.pd p0 hp0
    · intro s0 hs0; simp only [va_up, va_cpy]; repeat' split
      all_goals first | rfl | (exfalso; omega) | exact R.th s0 hs0
    · intro p0 hp0 hpi0 s0 hs0
      by_cases e : p0 = j
      · subst e
        simp only [va_cpy]
        rw [if_pos (by omega), if_pos (by omega), show 6 * 0 + (6 * (1 + p0) + s0 - 6 * (1 + p0)) = s0 from by omega, show 8 * 6 + (p0 * 6 + s0 - p0 * 6) = 48 + s0 from by omega]
        exact R.th s0 hs0
      · simp only [va_up, if_neg e] at hpi0
        simp only [va_cpy]
        rw [if_neg (by omega), if_neg (by omega)]
        exact R.tp p0 hp0 hpi0 s0 hs0
set_option maxRecDepth 100000 in
set_option maxHeartbeats 1000000 in
theorem s_back (R : Rel F c fo sp pi N sx pd th sm u) (hN : N < 2 ^ 30) (x : Int32) : Sim D cI cB cL bb L xs A mX_back mY_back [.int x] [("java/util/NoSuchElementException", 1)] (N + 1) (wW cI cB cL A F c fo sp pi cd sx pd th sm u) := by
  have hs30 := R.sm30 hN
  rcases pi_or pi x with ⟨p, hp, rfl, hpi⟩ | hx
  · have hpd : pd (1 + p) = true := (R.pd p hp).trans hpi
    have hb9 : ∀ s0, s0 < 6 → va_cpy th th (6 * (1 + p)) (6 * 0) 6 s0 = va_cpy sp sp (p * 6) (8 * 6) 6 (48 + s0) := by
      intro s0 hs0; simp only [va_cpy]; rw [if_pos (by omega), if_pos (by omega), show 6 * (1 + p) + (s0 - 6 * 0) = 6 * (1 + p) + s0 from by omega, show p * 6 + (48 + s0 - 8 * 6) = p * 6 + s0 from by omega]; exact R.tp p hp hpi s0 hs0
    refine sim_ok (congrArg nI (gcnt_congr (fun s0 hs0 => (hb9 s0 hs0).symm))) (fun _ => c_back R.F60 R.fo p hp hpi) (fun _ _ _ _ _ _ _ => d_back p hp hpd) ?_
    refine ⟨R.F1, R.F60, ?_, ?_, ?_, ?_, ?_, ?_, ?_⟩
    · exact cpy_fo (P := fun o => ∀ j, o = some j → j < F) R.fo R.fo
    · have := R.sx; omega
    · exact cpy_fo (P := fun q => q ≤ sx) R.sm R.sm
    · refine R.core.cpy (S := 48 * (1 + p)) (T := 48 * 0) (w := 48) (by omega) (fun k hk => ?_) (fun k hk => ?_) (fun k hk i hi => ?_)
      · first | rfl | (simp only [va_up, va_cpy]; split <;> split <;> (first | rfl | (exfalso; omega) | exact congrArg fo (by omega) | exact congrArg u (by omega) | exact congrArg sm (by omega)))
      · by_cases z : k < 48
        · simp only [va_up, va_cpy, pH_lo z]; split <;> split <;> (first | rfl | (exfalso; omega) | exact congrArg fo (by omega) | exact congrArg u (by omega) | exact congrArg sm (by omega) | (rw [pH_lo (by omega)]; exact congrArg fo (by omega)) | (rw [pH_ge (by omega)]; exact congrArg fo (by omega)))
        · simp only [va_up, va_cpy, pH_ge z]; split <;> split <;> (first | rfl | (exfalso; omega) | exact congrArg fo (by omega) | exact congrArg u (by omega) | exact congrArg sm (by omega) | (rw [pH_lo (by omega)]; exact congrArg fo (by omega)) | (rw [pH_ge (by omega)]; exact congrArg fo (by omega)))
      · simp only [va_up, va_cpy]; split <;> split <;> (first | rfl | (exfalso; omega) | exact congrArg fo (by omega) | exact congrArg u (by omega) | exact congrArg sm (by omega))
    · exact R.pd
    · exact hb9
    · intro p0 hp0 hpi0 s0 hs0
      simp only [va_cpy]
      rw [if_neg (by omega), if_neg (by omega)]
      exact R.tp p0 hp0 hpi0 s0 hs0
  · have hy := R.npd hx
    exact sim_th (List.mem_cons_self) (by decide) (fun _ => t_back x hx) (fun _ _ _ _ _ _ _ => e_back x hy) (R.up (by omega))
set_option maxRecDepth 100000 in
set_option maxHeartbeats 1000000 in
theorem s_drop (R : Rel F c fo sp pi N sx pd th sm u) (hN : N < 2 ^ 30) (x : Int32) : Sim D cI cB cL bb L xs A mX_drop mY_drop [.int x] [("java/util/NoSuchElementException", 1)] (N + 1) (wW cI cB cL A F c fo sp pi cd sx pd th sm u) := by
  have hs30 := R.sm30 hN
  rcases pi_or pi x with ⟨p, hp, rfl, hpi⟩ | hx
  · have hpd : pd (1 + p) = true := (R.pd p hp).trans hpi
    have R2 : Rel F c (va_cpy (fun _ => none) fo 0 (p * 48) 48) sp (va_up pi p false) (N + 1) sx (va_up pd (1 + p) false) (emt th (1 + p) 6) (ems sm (1 + p) 6) u := by
      refine ⟨R.F1, R.F60, ?_, ?_, ?_, ?_, ?_, ?_, ?_⟩
      · exact cpy_fo (P := fun o => ∀ j, o = some j → j < F) (fun _ j h => by cases h) R.fo
      · have := R.sx; omega
      · exact fun k => by rw [ems_is]; split; exact Nat.zero_le _; exact R.sm k
      · refine R.core.clr (T := 48 * (1 + p)) (w := 48) (fun k hk => ?_) (fun k hk => ?_)
        · first | rfl | exact ems_is _ _ _ _ | (rw [ems_is]; split <;> split <;> (first | rfl | (exfalso; omega) | exact congrArg fo (by omega) | exact congrArg u (by omega) | exact congrArg sm (by omega)))
        · by_cases z : k < 48
          · simp only [va_up, va_cpy, pH_lo z]; split <;> split <;> (first | rfl | (exfalso; omega) | exact congrArg fo (by omega) | exact congrArg u (by omega) | exact congrArg sm (by omega) | (rw [pH_lo (by omega)]; exact congrArg fo (by omega)) | (rw [pH_ge (by omega)]; exact congrArg fo (by omega)))
          · simp only [va_up, va_cpy, pH_ge z]; split <;> split <;> (first | rfl | (exfalso; omega) | exact congrArg fo (by omega) | exact congrArg u (by omega) | exact congrArg sm (by omega) | (rw [pH_lo (by omega)]; exact congrArg fo (by omega)) | (rw [pH_ge (by omega)]; exact congrArg fo (by omega)))
      · intro p0 hp0; simp only [va_up]; split <;> split <;> first | rfl | (exfalso; omega) | exact R.pd p0 hp0
      · intro s0 hs0; rw [emt_is, if_neg (by omega)]; exact R.th s0 hs0
      · intro p0 hp0 hpi0 s0 hs0
        have e : p0 ≠ p := fun z => by subst z; simp [va_up] at hpi0
        simp only [va_up, if_neg e] at hpi0
        rw [emt_is, if_neg (by omega)]
        exact R.tp p0 hp0 hpi0 s0 hs0
    refine sim_ok (by rw [R.used, R2.used]) (fun _ => c_drop R.F60 R.fo p hp hpi) (fun _ _ _ _ _ _ _ => d_drop hs30 p hp hpd) ?_
    exact R2
  · have hy := R.npd hx
    exact sim_th (List.mem_cons_self) (by decide) (fun _ => t_drop x hx) (fun _ _ _ _ _ _ _ => e_drop x hy) (R.up (by omega))
set_option maxRecDepth 100000 in
set_option maxHeartbeats 1000000 in
theorem s_changed (R : Rel F c fo sp pi N sx pd th sm u) (hN : N < 2 ^ 30) (x : Int32) : Sim D cI cB cL bb L xs A mX_changed mY_changed [.int x] [("java/util/NoSuchElementException", 1)] (N + 1) (wW cI cB cL A F c fo sp pi cd sx pd th sm u) := by
  have hs30 := R.sm30 hN
  rcases pi_or pi x with ⟨p, hp, rfl, hpi⟩ | hx
  · have hpd : pd (1 + p) = true := (R.pd p hp).trans hpi
    have hg : gcnt (fun i => decide (fo (384 + i) ≠ fo (p * 48 + i))) 48 = gcnt (fun i => decide (¬ sm i = sm (48 * (1 + p) + i))) 48 := gcnt_congr (fun i hi => by
      have := R.core.e i (by omega) (48 * (1 + p) + i) (by omega)
      simp only [pH_lo hi, pH_ge (show ¬ 48 * (1 + p) + i < 48 by omega), show 48 * (1 + p) + i - 48 = p * 48 + i from by omega] at this
      exact decide_eq_decide.mpr (not_congr ⟨fun h => this.mpr h, fun h => this.mp h⟩))
    refine sim_ok (congrArg nI hg) (fun _ => c_chg R.F60 R.fo p hp hpi) (fun _ _ _ _ _ _ _ => d_chg hs30 p hp hpd) ?_
    exact R.up (by omega)
  · have hy := R.npd hx
    exact sim_th (List.mem_cons_self) (by decide) (fun _ => t_chg x hx) (fun _ _ _ _ _ _ _ => e_chg x hy) (R.up (by omega))
set_option maxRecDepth 100000 in
set_option maxHeartbeats 1000000 in
theorem s_count (R : Rel F c fo sp pi N sx pd th sm u) (hN : N < 2 ^ 30) (x : Int32) : Sim D cI cB cL bb L xs A mX_count mY_count [.int x] [] (N + 1) (wW cI cB cL A F c fo sp pi cd sx pd th sm u) := by
  have hs30 := R.sm30 hN
  rcases ix_or 5 x with ⟨k, hk, rfl⟩ | hx
  · rcases k with _ | _ | _ | _ | _ | k
    · skip
      refine sim_ok (congrArg nI R.used.symm) (fun _ => c_count0 R.F60) (fun _ _ _ _ _ _ _ => d_count0 hs30) ?_
      exact R.up (by omega)
    · skip
      refine sim_ok rfl (fun _ => c_count1) (fun _ _ _ _ _ _ _ => d_count1) ?_
      exact R.up (by omega)
    · skip
      refine sim_ok (congrArg nI (gcnt_congr (fun s hs => (R.th s hs).symm))) (fun _ => c_count2) (fun _ _ _ _ _ _ _ => d_count2) ?_
      exact R.up (by omega)
    · skip
      refine sim_ok (congrArg nI (gcnt_congr (fun p hp => (R.pd p hp).symm))) (fun _ => c_count3) (fun _ _ _ _ _ _ _ => d_count3) ?_
      exact R.up (by omega)
    · skip
      refine sim_ok (congrArg nI (R.pages 6 (Nat.le_refl 6))) (fun _ => c_count4 R.F60 R.fo) (fun _ _ _ _ _ _ _ => d_count4 hs30) ?_
      exact R.up (by omega)
    · omega
  · skip
    refine sim_ok rfl (fun _ => c_count5 x hx) (fun _ _ _ _ _ _ _ => d_count5 x hx) ?_
    exact R.up (by omega)
set_option maxRecDepth 100000 in
set_option maxHeartbeats 1000000 in
theorem s_isThere (R : Rel F c fo sp pi N sx pd th sm u) (hN : N < 2 ^ 30) (x : Int32) : Sim D cI cB cL bb L xs A mX_isThere mY_isThere [.int x] [] (N + 1) (wW cI cB cL A F c fo sp pi cd sx pd th sm u) := by
  have hs30 := R.sm30 hN
  rcases sp_or sp x with ⟨s, hs, rfl, hsp⟩ | hx
  · skip
    refine sim_ok (congrArg bI (R.th s hs).symm) (fun _ => c_isThereA s hs) (fun _ _ _ _ _ _ _ => d_isThereA s hs) ?_
    exact R.up (by omega)
  · have hy := R.nth hx
    refine sim_ok rfl (fun _ => c_isThereB x hx) (fun _ _ _ _ _ _ _ => d_isThereB x hy) ?_
    exact R.up (by omega)
end SIM
