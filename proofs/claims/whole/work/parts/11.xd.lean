section Sxd
variable {D : va_G} {cI cB cL : ClassId} {bb L : Nat} {xs : Nat → Int32} {n h a1 a2 a3 a4 a5 F : Nat} {c : Nat → Int32} {fo : Nat → Option Nat} {sp pi : Nat → Bool} {rest es : va_W} {f1 f2 f3 f4 f5 : Nat → Int32}
theorem cpy_up {α : Type} {f g : Nat → α} {s d i : Nat} : va_up (va_cpy f g s d i) (d + i) (f (s + i)) = va_cpy f g s d (i + 1) := by
  funext q
  by_cases e : q = d + i
  · subst e
    simp only [va_up, va_cpy, if_true]
    rw [if_pos (by omega)]
    congr 1
    omega
  · simp only [va_up, va_cpy, if_neg e]
    by_cases h : d ≤ q ∧ q < d + i
    · rw [if_pos h, if_pos (by omega)]
    · rw [if_neg h, if_neg (by omega)]
theorem cpy_0 {α : Type} {f g : Nat → α} {s d : Nat} : va_cpy f g s d 0 = g := by
  funext q
  simp only [va_cpy]
  rw [if_neg (by omega)]
theorem upd_up (f : Nat → Int32) (k : Nat) (x : Int32) : upd f k x = va_up f k x := rfl
theorem hfo_cpy {fo f : Nat → Option Nat} {F s d i : Nat} (hfo : ∀ k j, fo k = some j → j < F) (hf : ∀ k j, f k = some j → j < F) : ∀ k j, va_cpy f fo s d i k = some j → j < F := by
  intro k j h
  simp only [va_cpy] at h
  split at h
  · exact hf _ _ h
  · exact hfo _ _ h
theorem hfo_up {fo : Nat → Option Nat} {F k : Nat} {o : Option Nat} (hfo : ∀ k j, fo k = some j → j < F) (ho : ∀ j, o = some j → j < F) : ∀ q j, va_up fo k o q = some j → j < F := by
  intro q j h
  simp only [va_up] at h
  split at h
  · exact ho _ h
  · exact hfo _ _ h
/-- every holder of frame b among the first i comes into frame e -/
def mvf (fo : Nat → Option Nat) (b e i : Nat) : Nat → Option Nat := fun q => if q < i ∧ fo q = some b then some e else fo q
theorem mvf_0 {fo : Nat → Option Nat} {b e : Nat} : mvf fo b e 0 = fo := by
  funext q; simp [mvf]
theorem mvf_at {fo : Nat → Option Nat} {b e i : Nat} : mvf fo b e i i = fo i := by simp [mvf]
theorem mvf_n {fo : Nat → Option Nat} {b e i : Nat} (h : ¬ fo i = some b) : mvf fo b e (i + 1) = mvf fo b e i := by
  funext q
  simp only [mvf]
  by_cases z : q = i
  · subst z; simp [h]
  · have : (q < i + 1) = (q < i) := by apply propext; omega
    simp only [this]
theorem mvf_s {fo : Nat → Option Nat} {b e i : Nat} (h : fo i = some b) : va_up (mvf fo b e i) i (some e) = mvf fo b e (i + 1) := by
  funext q
  simp only [mvf, va_up]
  by_cases z : q = i
  · subst z; simp [h]
  · have : (q < i + 1) = (q < i) := by apply propext; omega
    simp only [this, if_neg z]
theorem hfo_mvf {fo : Nat → Option Nat} {F b e i : Nat} (hfo : ∀ k j, fo k = some j → j < F) (he : e < F) : ∀ q j, mvf fo b e i q = some j → j < F := by
  intro q j h
  simp only [mvf] at h
  split at h
  · cases h; exact he
  · exact hfo _ _ h
theorem m16 (a i : Nat) : nI a * 16 + nI i = nI (a * 16 + i) := by rw [show (16 : Int32) = nI 16 from rfl, pk_mul, nI_add]
theorem m48 (a i : Nat) : nI a * 48 + nI i = nI (a * 48 + i) := by rw [show (48 : Int32) = nI 48 from rfl, pk_mul, nI_add]
set_option maxRecDepth 100000 in
set_option maxHeartbeats 1000000 in
theorem l_fill (hF : F ≤ 60) (j : Nat) (hj : j < F) (v : Int32) {Psi : gR → va_W → Prop} (hf : Psi (.inl none) (xW cI cB h a1 a2 a3 a4 a5 F (va_cpy (fun _ => v) c 0 (j * 16) 16) fo sp pi rest)) : ∀ (m i : Nat), i + m = 16 → Go (gg D cI cB cL bb L xs) mX_fillFrame n 0 0 2 [(3, .int (nI i)), (0, .ref h), (1, .int (nI j)), (2, .int (v))] [] (xW cI cB h a1 a2 a3 a4 a5 F (va_cpy (fun _ => v) c 0 (j * 16) i) fo sp pi rest) Psi := by
  intro m
  induction m with
  | zero =>
    intro i hi
    obtain rfl : i = 16 := by omega
    refine go_iload_n (pc := 2) 3 0 rfl rfl eX_fillFrame_2 ?_
    refine go_bipush (pc := 3) (v := 16) (by decide) eX_fillFrame_3 ?_
    refine go_icmp_ge (pc := 5) 26 (by decide) eX_fillFrame_5 (fun c5 => ?_) (fun c5 => ?_)
    · exact go_vret (pc := 26) rfl eX_fillFrame_26 (hf)
    · exact absurd (show (16 : Int32) ≤ nI 16 by decide) c5
  | succ m ih =>
    intro i hi
    refine go_iload_n (pc := 2) 3 0 rfl rfl eX_fillFrame_2 ?_
    refine go_bipush (pc := 3) (v := 16) (by decide) eX_fillFrame_3 ?_
    refine go_icmp_ge (pc := 5) 26 (by decide) eX_fillFrame_5 (fun c5 => ?_) (fun c5 => ?_)
    · exact absurd c5 (nI_ge (b := 16) (by omega) (by omega))
    · refine go_aload_n (pc := 8) 0 1 rfl rfl eX_fillFrame_8 ?_
      refine go_get (pc := 9) hwX 0 rfl rfl 1 (by decide) lkX_22 rfl eX_fillFrame_9 ?_
      refine go_iload_n (pc := 12) 1 2 rfl rfl eX_fillFrame_12 ?_
      refine go_bipush (pc := 13) (v := 16) (by decide) eX_fillFrame_13 ?_
      refine go_imul (pc := 15) eX_fillFrame_15 ?_
      refine go_iload_n (pc := 16) 3 0 rfl rfl eX_fillFrame_16 ?_
      refine go_iadd (pc := 17) eX_fillFrame_17 ?_
      refine go_iload_n (pc := 18) 2 3 rfl rfl eX_fillFrame_18 ?_
      refine go_iastN (pc := 19) (es' := (xW cI cB h a1 a2 a3 a4 a5 F (va_cpy (fun _ => v) c 0 (j * 16) (i + 1)) fo sp pi rest)) 1 0 (j * 16 + i) eX_fillFrame_19 rfl rfl (m16 j i) (by omega) (by omega) (xs1 cpy_up) ?_
      refine go_iinc (pc := 20) (z := 1) (v := nI (i + 1)) (ls' := [(3, _), (0, _), (1, _), (2, _)]) 3 0 rfl (nI_1 i) (by decide) eX_fillFrame_20 rfl ?_
      refine go_goto (pc := 23) 2 (by decide) eX_fillFrame_23 ?_
      exact ih (i + 1) (by omega)
set_option maxRecDepth 100000 in
set_option maxHeartbeats 1000000 in
theorem c_fill (hF : F ≤ 60) (j : Nat) (hj : j < F) (v : Int32) : Ret (gg D cI cB cL bb L xs) mX_fillFrame n 0 0 [.ref h, .int (nI j), .int (v)] (xW cI cB h a1 a2 a3 a4 a5 F c fo sp pi rest) none (xW cI cB h a1 a2 a3 a4 a5 F (va_cpy (fun _ => v) c 0 (j * 16) 16) fo sp pi rest) := by
  intro Psi hf
  show Go _ _ _ _ _ 0 [(0, .ref h), (1, .int (nI j)), (2, .int (v))] [] _ Psi
  refine go_iconst (pc := 0) (v := 0) (by decide) eX_fillFrame_0 ?_
  refine go_istore_n (pc := 1) (ls' := [(3, _), (0, _), (1, _), (2, _)]) 3 rfl (by decide) eX_fillFrame_1 rfl ?_
  refine go_es (es' := (xW cI cB h a1 a2 a3 a4 a5 F (va_cpy (fun _ => v) c 0 (j * 16) 0) fo sp pi rest)) (by rw [cpy_0]) ?_
  exact l_fill hF j hj v hf 16 0 (by omega)
set_option maxRecDepth 100000 in
set_option maxHeartbeats 1000000 in
theorem l_same (hF : F ≤ 60) (f e : Nat) (hff : f < F) (he : e < F) {Psi : gR → va_W → Prop} (hf : Psi (.inl (some (.int (bI (decide (gcnt (fun q => decide (¬ c (f * 16 + q) = c (e * 16 + q))) 16 = 0)))))) (xW cI cB h a1 a2 a3 a4 a5 F c fo sp pi rest)) : ∀ (m i : Nat) (hq : ∀ q, q < i → c (f * 16 + q) = c (e * 16 + q)), i + m = 16 → Go (gg D cI cB cL bb L xs) mX_haveSameCells n 0 0 2 [(3, .int (nI i)), (0, .ref h), (1, .int (nI f)), (2, .int (nI e))] [] (xW cI cB h a1 a2 a3 a4 a5 F c fo sp pi rest) Psi := by
  intro m
  induction m with
  | zero =>
    intro i hq hi
    obtain rfl : i = 16 := by omega
    refine go_iload_n (pc := 2) 3 0 rfl rfl eX_haveSameCells_2 ?_
    refine go_bipush (pc := 3) (v := 16) (by decide) eX_haveSameCells_3 ?_
    refine go_icmp_ge (pc := 5) 41 (by decide) eX_haveSameCells_5 (fun c5 => ?_) (fun c5 => ?_)
    · rw [show decide (gcnt (fun q => decide (¬ c (f * 16 + q) = c (e * 16 + q))) 16 = 0) = true from decide_eq_true (gcnt_zero (fun q z => decide_eq_false (fun y => y (hq q z))))] at hf
      refine go_iconst (pc := 41) (v := 1) (by decide) eX_haveSameCells_41 ?_
      exact go_iret (pc := 42) rfl rfl eX_haveSameCells_42 (hf)
    · exact absurd (show (16 : Int32) ≤ nI 16 by decide) c5
  | succ m ih =>
    intro i hq hi
    refine go_iload_n (pc := 2) 3 0 rfl rfl eX_haveSameCells_2 ?_
    refine go_bipush (pc := 3) (v := 16) (by decide) eX_haveSameCells_3 ?_
    refine go_icmp_ge (pc := 5) 41 (by decide) eX_haveSameCells_5 (fun c5 => ?_) (fun c5 => ?_)
    · exact absurd c5 (nI_ge (b := 16) (by omega) (by omega))
    · refine go_aload_n (pc := 8) 0 1 rfl rfl eX_haveSameCells_8 ?_
      refine go_get (pc := 9) hwX 0 rfl rfl 1 (by decide) lkX_22 rfl eX_haveSameCells_9 ?_
      refine go_iload_n (pc := 12) 1 2 rfl rfl eX_haveSameCells_12 ?_
      refine go_bipush (pc := 13) (v := 16) (by decide) eX_haveSameCells_13 ?_
      refine go_imul (pc := 15) eX_haveSameCells_15 ?_
      refine go_iload_n (pc := 16) 3 0 rfl rfl eX_haveSameCells_16 ?_
      refine go_iadd (pc := 17) eX_haveSameCells_17 ?_
      refine go_ialdN (pc := 18) 1 0 (f * 16 + i) eX_haveSameCells_18 rfl rfl (m16 f i) (by omega) (by omega) ?_
      refine go_aload_n (pc := 19) 0 1 rfl rfl eX_haveSameCells_19 ?_
      refine go_get (pc := 20) hwX 0 rfl rfl 1 (by decide) lkX_22 rfl eX_haveSameCells_20 ?_
      refine go_iload_n (pc := 23) 2 3 rfl rfl eX_haveSameCells_23 ?_
      refine go_bipush (pc := 24) (v := 16) (by decide) eX_haveSameCells_24 ?_
      refine go_imul (pc := 26) eX_haveSameCells_26 ?_
      refine go_iload_n (pc := 27) 3 0 rfl rfl eX_haveSameCells_27 ?_
      refine go_iadd (pc := 28) eX_haveSameCells_28 ?_
      refine go_ialdN (pc := 29) 1 0 (e * 16 + i) eX_haveSameCells_29 rfl rfl (m16 e i) (by omega) (by omega) ?_
      refine go_icmp_eq (pc := 30) 35 (by decide) eX_haveSameCells_30 (fun c30 => ?_) (fun c30 => ?_)
      · refine go_iinc (pc := 35) (z := 1) (v := nI (i + 1)) (ls' := [(3, _), (0, _), (1, _), (2, _)]) 3 0 rfl (nI_1 i) (by decide) eX_haveSameCells_35 rfl ?_
        refine go_goto (pc := 38) 2 (by decide) eX_haveSameCells_38 ?_
        exact ih (i + 1) (fun q z => by
          by_cases y : q = i
          · rw [y]; exact c30
          · exact hq q (by omega)) (by omega)
      · rw [show decide (gcnt (fun q => decide (¬ c (f * 16 + q) = c (e * 16 + q))) 16 = 0) = false from decide_eq_false (by have := gcnt_pos (p := (fun q => decide (¬ c (f * 16 + q) = c (e * 16 + q)))) (k := i) (n := 16) (by omega) (decide_eq_true c30); omega)] at hf
        refine go_iconst (pc := 33) (v := 0) (by decide) eX_haveSameCells_33 ?_
        exact go_iret (pc := 34) rfl rfl eX_haveSameCells_34 (hf)
set_option maxRecDepth 100000 in
set_option maxHeartbeats 1000000 in
theorem c_same (hF : F ≤ 60) (f e : Nat) (hff : f < F) (he : e < F) : Ret (gg D cI cB cL bb L xs) mX_haveSameCells n 0 0 [.ref h, .int (nI f), .int (nI e)] (xW cI cB h a1 a2 a3 a4 a5 F c fo sp pi rest) (some (.int (bI (decide (gcnt (fun q => decide (¬ c (f * 16 + q) = c (e * 16 + q))) 16 = 0))))) (xW cI cB h a1 a2 a3 a4 a5 F c fo sp pi rest) := by
  intro Psi hf
  show Go _ _ _ _ _ 0 [(0, .ref h), (1, .int (nI f)), (2, .int (nI e))] [] _ Psi
  refine go_iconst (pc := 0) (v := 0) (by decide) eX_haveSameCells_0 ?_
  refine go_istore_n (pc := 1) (ls' := [(3, _), (0, _), (1, _), (2, _)]) 3 rfl (by decide) eX_haveSameCells_1 rfl ?_
  exact l_same hF f e hff he hf 16 0 (fun q z => absurd z (Nat.not_lt_zero q)) (by omega)
set_option maxRecDepth 100000 in
set_option maxHeartbeats 1000000 in
theorem l_mv (hF : F ≤ 60) (hfo : ∀ k j, fo k = some j → j < F) (b e : Nat) (hb : b < F) (he : e < F) {Psi : gR → va_W → Prop} (hf : Psi (.inl none) (xW cI cB h a1 a2 a3 a4 a5 F c (mvf fo b e 432) sp pi rest)) : ∀ (m i : Nat), i + m = 432 → Go (gg D cI cB cL bb L xs) mX_moveHolders (n + 2) 0 0 2 [(3, .int (nI i)), (0, .ref h), (1, .int (nI b)), (2, .int (nI e))] [] (xW cI cB h a1 a2 a3 a4 a5 F c (mvf fo b e i) sp pi rest) Psi := by
  intro m
  induction m with
  | zero =>
    intro i hi
    obtain rfl : i = 432 := by omega
    refine go_iload_n (pc := 2) 3 0 rfl rfl eX_moveHolders_2 ?_
    refine go_sipush (pc := 3) (v := 432) (by decide) eX_moveHolders_3 ?_
    refine go_icmp_ge (pc := 6) 31 (by decide) eX_moveHolders_6 (fun c6 => ?_) (fun c6 => ?_)
    · exact go_vret (pc := 31) rfl eX_moveHolders_31 (hf)
    · exact absurd (show (432 : Int32) ≤ nI 432 by decide) c6
  | succ m ih =>
    intro i hi
    refine go_iload_n (pc := 2) 3 0 rfl rfl eX_moveHolders_2 ?_
    refine go_sipush (pc := 3) (v := 432) (by decide) eX_moveHolders_3 ?_
    refine go_icmp_ge (pc := 6) 31 (by decide) eX_moveHolders_6 (fun c6 => ?_) (fun c6 => ?_)
    · exact absurd c6 (nI_ge (b := 432) (by omega) (by omega))
    · refine go_aload_n (pc := 9) 0 1 rfl rfl eX_moveHolders_9 ?_
      refine go_get (pc := 10) hwX 0 rfl rfl 3 (by decide) lkX_29 rfl eX_moveHolders_10 ?_
      refine go_iload_n (pc := 13) 3 0 rfl rfl eX_moveHolders_13 ?_
      refine go_ialdN (pc := 14) 3 0 (i) eX_moveHolders_14 rfl rfl (rfl) (by omega) (by omega) ?_
      rw [mvf_at]
      refine go_iload_n (pc := 15) 1 2 rfl rfl eX_moveHolders_15 ?_
      refine go_icmp_ne (pc := 16) 25 (by decide) eX_moveHolders_16 (fun c16 => ?_) (fun c16 => ?_)
      · have hne : ¬ fo i = some b := fun z => c16 (by rw [z]; rfl)
        rw [← mvf_n (e := e) hne]
        try rw [mvf_s heq]
        refine go_iinc (pc := 25) (z := 1) (v := nI (i + 1)) (ls' := [(3, _), (0, _), (1, _), (2, _)]) 3 0 rfl (nI_1 i) (by decide) eX_moveHolders_25 rfl ?_
        refine go_goto (pc := 28) 2 (by decide) eX_moveHolders_28 ?_
        exact ih (i + 1) (by omega)
      · have heq : fo i = some b := (oI_inj (fun j z => by have := hfo i j z; omega) (fun j z => by cases z; omega)).mp c16
        refine go_aload_n (pc := 19) 0 1 rfl rfl eX_moveHolders_19 ?_
        refine go_iload_n (pc := 20) 3 0 rfl rfl eX_moveHolders_20 ?_
        refine go_iload_n (pc := 21) 2 3 rfl rfl eX_moveHolders_21 ?_
        refine go_rV0 (pc := 22) 0 (c_standIn hF (hfo_mvf hfo he) i (by omega) (some e) (fun j z => by cases z; exact he)) okX_standIn lmX_59 eX_moveHolders_22 rfl rfl rfl rfl rfl (Nat.le_of_ble_eq_true rfl) (Nat.le_of_ble_eq_true rfl) ?_
        try rw [mvf_s heq]
        refine go_iinc (pc := 25) (z := 1) (v := nI (i + 1)) (ls' := [(3, _), (0, _), (1, _), (2, _)]) 3 0 rfl (nI_1 i) (by decide) eX_moveHolders_25 rfl ?_
        refine go_goto (pc := 28) 2 (by decide) eX_moveHolders_28 ?_
        exact ih (i + 1) (by omega)
set_option maxRecDepth 100000 in
set_option maxHeartbeats 1000000 in
theorem c_mv (hF : F ≤ 60) (hfo : ∀ k j, fo k = some j → j < F) (b e : Nat) (hb : b < F) (he : e < F) : Ret (gg D cI cB cL bb L xs) mX_moveHolders (n + 2) 0 0 [.ref h, .int (nI b), .int (nI e)] (xW cI cB h a1 a2 a3 a4 a5 F c fo sp pi rest) none (xW cI cB h a1 a2 a3 a4 a5 F c (mvf fo b e 432) sp pi rest) := by
  intro Psi hf
  show Go _ _ _ _ _ 0 [(0, .ref h), (1, .int (nI b)), (2, .int (nI e))] [] _ Psi
  refine go_iconst (pc := 0) (v := 0) (by decide) eX_moveHolders_0 ?_
  refine go_istore_n (pc := 1) (ls' := [(3, _), (0, _), (1, _), (2, _)]) 3 rfl (by decide) eX_moveHolders_1 rfl ?_
  refine go_es (es' := (xW cI cB h a1 a2 a3 a4 a5 F c (mvf fo b e 0) sp pi rest)) (by rw [mvf_0]) ?_
  exact l_mv hF hfo b e hb he hf 432 0 (by omega)
set_option maxRecDepth 100000 in
set_option maxHeartbeats 1000000 in
theorem l_cr2 (hF : F ≤ 60) (hfo : ∀ k j, fo k = some j → j < F) (r w : Nat) (hr : r < 9) (hw : w < 9) (hrw : r ≠ w) {sp' : Nat → Bool} {Psi : gR → va_W → Prop} (hf : Psi (.inl none) (xW cI cB h a1 a2 a3 a4 a5 F c (va_cpy fo fo (r * 48) (w * 48) 48) sp' pi rest)) : ∀ (m i : Nat), i + m = 48 → Go (gg D cI cB cL bb L xs) mX_copyRow (n + 2) 0 0 36 [(3, .int (nI i)), (0, .ref h), (1, .int (nI r)), (2, .int (nI w))] [] (xW cI cB h a1 a2 a3 a4 a5 F c (va_cpy fo fo (r * 48) (w * 48) i) sp' pi rest) Psi := by
  intro m
  induction m with
  | zero =>
    intro i hi
    obtain rfl : i = 48 := by omega
    refine go_iload_n (pc := 36) 3 0 rfl rfl eX_copyRow_36 ?_
    refine go_bipush (pc := 37) (v := 48) (by decide) eX_copyRow_37 ?_
    refine go_icmp_ge (pc := 39) 69 (by decide) eX_copyRow_39 (fun c39 => ?_) (fun c39 => ?_)
    · exact go_vret (pc := 69) rfl eX_copyRow_69 (hf)
    · exact absurd (show (48 : Int32) ≤ nI 48 by decide) c39
  | succ m ih =>
    intro i hi
    refine go_iload_n (pc := 36) 3 0 rfl rfl eX_copyRow_36 ?_
    refine go_bipush (pc := 37) (v := 48) (by decide) eX_copyRow_37 ?_
    refine go_icmp_ge (pc := 39) 69 (by decide) eX_copyRow_39 (fun c39 => ?_) (fun c39 => ?_)
    · exact absurd c39 (nI_ge (b := 48) (by omega) (by omega))
    · refine go_aload_n (pc := 42) 0 1 rfl rfl eX_copyRow_42 ?_
      refine go_iload_n (pc := 43) 2 3 rfl rfl eX_copyRow_43 ?_
      refine go_bipush (pc := 44) (v := 48) (by decide) eX_copyRow_44 ?_
      refine go_imul (pc := 46) eX_copyRow_46 ?_
      refine go_iload_n (pc := 47) 3 0 rfl rfl eX_copyRow_47 ?_
      refine go_iadd (pc := 48) eX_copyRow_48 ?_
      rw [m48]
      refine go_aload_n (pc := 49) 0 1 rfl rfl eX_copyRow_49 ?_
      refine go_get (pc := 50) hwX 0 rfl rfl 3 (by decide) lkX_29 rfl eX_copyRow_50 ?_
      refine go_iload_n (pc := 53) 1 2 rfl rfl eX_copyRow_53 ?_
      refine go_bipush (pc := 54) (v := 48) (by decide) eX_copyRow_54 ?_
      refine go_imul (pc := 56) eX_copyRow_56 ?_
      refine go_iload_n (pc := 57) 3 0 rfl rfl eX_copyRow_57 ?_
      refine go_iadd (pc := 58) eX_copyRow_58 ?_
      refine go_ialdN (pc := 59) 3 0 (r * 48 + i) eX_copyRow_59 rfl rfl (m48 r i) (by omega) (by omega) ?_
      rw [pk_cpy_out (by omega)]
      refine go_rV0 (pc := 60) 0 (c_standIn hF (hfo_cpy hfo hfo) (w * 48 + i) (by omega) (fo (r * 48 + i)) (hfo _)) okX_standIn lmX_59 eX_copyRow_60 rfl rfl rfl rfl rfl (Nat.le_of_ble_eq_true rfl) (Nat.le_of_ble_eq_true rfl) ?_
      rw [cpy_up]
      refine go_iinc (pc := 63) (z := 1) (v := nI (i + 1)) (ls' := [(3, _), (0, _), (1, _), (2, _)]) 3 0 rfl (nI_1 i) (by decide) eX_copyRow_63 rfl ?_
      refine go_goto (pc := 66) 36 (by decide) eX_copyRow_66 ?_
      exact ih (i + 1) (by omega)
set_option maxRecDepth 100000 in
set_option maxHeartbeats 1000000 in
theorem l_cr1 (hF : F ≤ 60) (hfo : ∀ k j, fo k = some j → j < F) (r w : Nat) (hr : r < 9) (hw : w < 9) (hrw : r ≠ w) {Psi : gR → va_W → Prop} (hf : Psi (.inl none) (xW cI cB h a1 a2 a3 a4 a5 F c (va_cpy fo fo (r * 48) (w * 48) 48) (va_cpy sp sp (r * 6) (w * 6) 6) pi rest)) : ∀ (m i : Nat), i + m = 6 → Go (gg D cI cB cL bb L xs) mX_copyRow (n + 2) 0 0 2 [(3, .int (nI i)), (0, .ref h), (1, .int (nI r)), (2, .int (nI w))] [] (xW cI cB h a1 a2 a3 a4 a5 F c fo (va_cpy sp sp (r * 6) (w * 6) i) pi rest) Psi := by
  intro m
  induction m with
  | zero =>
    intro i hi
    obtain rfl : i = 6 := by omega
    refine go_iload_n (pc := 2) 3 0 rfl rfl eX_copyRow_2 ?_
    refine go_bipush (pc := 3) (v := 6) (by decide) eX_copyRow_3 ?_
    refine go_icmp_ge (pc := 5) 34 (by decide) eX_copyRow_5 (fun c5 => ?_) (fun c5 => ?_)
    · refine go_iconst (pc := 34) (v := 0) (by decide) eX_copyRow_34 ?_
      refine go_istore_n (pc := 35) (ls' := [(3, _), (0, _), (1, _), (2, _)]) 3 rfl (by decide) eX_copyRow_35 rfl ?_
      refine go_es (es' := (xW cI cB h a1 a2 a3 a4 a5 F c (va_cpy fo fo (r * 48) (w * 48) 0) (va_cpy sp sp (r * 6) (w * 6) 6) pi rest)) (by rw [cpy_0]) ?_
      exact l_cr2 hF hfo r w hr hw hrw hf 48 0 (by omega)
    · exact absurd (show (6 : Int32) ≤ nI 6 by decide) c5
  | succ m ih =>
    intro i hi
    refine go_iload_n (pc := 2) 3 0 rfl rfl eX_copyRow_2 ?_
    refine go_bipush (pc := 3) (v := 6) (by decide) eX_copyRow_3 ?_
    refine go_icmp_ge (pc := 5) 34 (by decide) eX_copyRow_5 (fun c5 => ?_) (fun c5 => ?_)
    · exact absurd c5 (nI_ge (b := 6) (by omega) (by omega))
    · refine go_aload_n (pc := 8) 0 1 rfl rfl eX_copyRow_8 ?_
      refine go_get (pc := 9) hwX 0 rfl rfl 4 (by decide) lkX_38 rfl eX_copyRow_9 ?_
      refine go_iload_n (pc := 12) 2 3 rfl rfl eX_copyRow_12 ?_
      refine go_iload_n (pc := 13) 3 0 rfl rfl eX_copyRow_13 ?_
      refine go_rS (pc := 14) (c_spaceIndex w i) okX_spaceIndex lmX_49 eX_copyRow_14 rfl rfl (Nat.le_of_ble_eq_true rfl) (Nat.le_of_ble_eq_true rfl) ?_
      refine go_aload_n (pc := 17) 0 1 rfl rfl eX_copyRow_17 ?_
      refine go_get (pc := 18) hwX 0 rfl rfl 4 (by decide) lkX_38 rfl eX_copyRow_18 ?_
      refine go_iload_n (pc := 21) 1 2 rfl rfl eX_copyRow_21 ?_
      refine go_iload_n (pc := 22) 3 0 rfl rfl eX_copyRow_22 ?_
      refine go_rS (pc := 23) (c_spaceIndex r i) okX_spaceIndex lmX_49 eX_copyRow_23 rfl rfl (Nat.le_of_ble_eq_true rfl) (Nat.le_of_ble_eq_true rfl) ?_
      refine go_zaldN (pc := 26) 4 1 (r * 6 + i) eX_copyRow_26 rfl rfl (rfl) (by omega) (by omega) ?_
      rw [pk_cpy_out (by omega)]
      refine go_zastN (pc := 27) (es' := (xW cI cB h a1 a2 a3 a4 a5 F c fo (va_cpy sp sp (r * 6) (w * 6) (i + 1)) pi rest)) 4 1 (w * 6 + i) eX_copyRow_27 rfl rfl rfl (by omega) (by omega) (xs4 ((upd_b rfl).trans (by rw [cpy_up]))) ?_
      refine go_iinc (pc := 28) (z := 1) (v := nI (i + 1)) (ls' := [(3, _), (0, _), (1, _), (2, _)]) 3 0 rfl (nI_1 i) (by decide) eX_copyRow_28 rfl ?_
      refine go_goto (pc := 31) 2 (by decide) eX_copyRow_31 ?_
      exact ih (i + 1) (by omega)
set_option maxRecDepth 100000 in
set_option maxHeartbeats 1000000 in
theorem c_cr (hF : F ≤ 60) (hfo : ∀ k j, fo k = some j → j < F) (r w : Nat) (hr : r < 9) (hw : w < 9) (hrw : r ≠ w) : Ret (gg D cI cB cL bb L xs) mX_copyRow (n + 2) 0 0 [.ref h, .int (nI r), .int (nI w)] (xW cI cB h a1 a2 a3 a4 a5 F c fo sp pi rest) none (xW cI cB h a1 a2 a3 a4 a5 F c (va_cpy fo fo (r * 48) (w * 48) 48) (va_cpy sp sp (r * 6) (w * 6) 6) pi rest) := by
  intro Psi hf
  show Go _ _ _ _ _ 0 [(0, .ref h), (1, .int (nI r)), (2, .int (nI w))] [] _ Psi
  refine go_iconst (pc := 0) (v := 0) (by decide) eX_copyRow_0 ?_
  refine go_istore_n (pc := 1) (ls' := [(3, _), (0, _), (1, _), (2, _)]) 3 rfl (by decide) eX_copyRow_1 rfl ?_
  refine go_es (es' := (xW cI cB h a1 a2 a3 a4 a5 F c fo (va_cpy sp sp (r * 6) (w * 6) 0) pi rest)) (by rw [cpy_0]) ?_
  exact l_cr1 hF hfo r w hr hw hrw hf 6 0 (by omega)
set_option maxRecDepth 100000 in
set_option maxHeartbeats 1000000 in
theorem l_cl (hF : F ≤ 60) (hfo : ∀ k j, fo k = some j → j < F) (r : Nat) (hr : r < 9) {Psi : gR → va_W → Prop} (hf : Psi (.inl none) (xW cI cB h a1 a2 a3 a4 a5 F c (va_cpy (fun _ => none) fo 0 (r * 48) 48) sp pi rest)) : ∀ (m i : Nat), i + m = 48 → Go (gg D cI cB cL bb L xs) mX_clearRow (n + 2) 0 0 2 [(2, .int (nI i)), (0, .ref h), (1, .int (nI r))] [] (xW cI cB h a1 a2 a3 a4 a5 F c (va_cpy (fun _ => none) fo 0 (r * 48) i) sp pi rest) Psi := by
  intro m
  induction m with
  | zero =>
    intro i hi
    obtain rfl : i = 48 := by omega
    refine go_iload_n (pc := 2) 2 0 rfl rfl eX_clearRow_2 ?_
    refine go_bipush (pc := 3) (v := 48) (by decide) eX_clearRow_3 ?_
    refine go_icmp_ge (pc := 5) 25 (by decide) eX_clearRow_5 (fun c5 => ?_) (fun c5 => ?_)
    · exact go_vret (pc := 25) rfl eX_clearRow_25 (hf)
    · exact absurd (show (48 : Int32) ≤ nI 48 by decide) c5
  | succ m ih =>
    intro i hi
    refine go_iload_n (pc := 2) 2 0 rfl rfl eX_clearRow_2 ?_
    refine go_bipush (pc := 3) (v := 48) (by decide) eX_clearRow_3 ?_
    refine go_icmp_ge (pc := 5) 25 (by decide) eX_clearRow_5 (fun c5 => ?_) (fun c5 => ?_)
    · exact absurd c5 (nI_ge (b := 48) (by omega) (by omega))
    · refine go_aload_n (pc := 8) 0 1 rfl rfl eX_clearRow_8 ?_
      refine go_iload_n (pc := 9) 1 2 rfl rfl eX_clearRow_9 ?_
      refine go_bipush (pc := 10) (v := 48) (by decide) eX_clearRow_10 ?_
      refine go_imul (pc := 12) eX_clearRow_12 ?_
      refine go_iload_n (pc := 13) 2 0 rfl rfl eX_clearRow_13 ?_
      refine go_iadd (pc := 14) eX_clearRow_14 ?_
      rw [m48]
      refine go_iconst (pc := 15) (v := (-1)) (by decide) eX_clearRow_15 ?_
      refine go_rV0 (pc := 16) 0 (c_standIn hF (hfo_cpy hfo (fun _ _ z => by cases z)) (r * 48 + i) (by omega) none (fun _ z => by cases z)) okX_standIn lmX_59 eX_clearRow_16 rfl rfl rfl rfl rfl (Nat.le_of_ble_eq_true rfl) (Nat.le_of_ble_eq_true rfl) ?_
      rw [cpy_up (f := fun _ => none) (s := 0)]
      refine go_iinc (pc := 19) (z := 1) (v := nI (i + 1)) (ls' := [(2, _), (0, _), (1, _)]) 2 0 rfl (nI_1 i) (by decide) eX_clearRow_19 rfl ?_
      refine go_goto (pc := 22) 2 (by decide) eX_clearRow_22 ?_
      exact ih (i + 1) (by omega)
set_option maxRecDepth 100000 in
set_option maxHeartbeats 1000000 in
theorem c_cl (hF : F ≤ 60) (hfo : ∀ k j, fo k = some j → j < F) (r : Nat) (hr : r < 9) : Ret (gg D cI cB cL bb L xs) mX_clearRow (n + 2) 0 0 [.ref h, .int (nI r)] (xW cI cB h a1 a2 a3 a4 a5 F c fo sp pi rest) none (xW cI cB h a1 a2 a3 a4 a5 F c (va_cpy (fun _ => none) fo 0 (r * 48) 48) sp pi rest) := by
  intro Psi hf
  show Go _ _ _ _ _ 0 [(0, .ref h), (1, .int (nI r))] [] _ Psi
  refine go_iconst (pc := 0) (v := 0) (by decide) eX_clearRow_0 ?_
  refine go_istore_n (pc := 1) (ls' := [(2, _), (0, _), (1, _)]) 2 rfl (by decide) eX_clearRow_1 rfl ?_
  refine go_es (es' := (xW cI cB h a1 a2 a3 a4 a5 F c (va_cpy (fun _ => none) fo 0 (r * 48) 0) sp pi rest)) (by rw [cpy_0]) ?_
  exact l_cl hF hfo r hr hf 48 0 (by omega)
set_option maxRecDepth 100000 in
set_option maxHeartbeats 1000000 in
theorem c_own1 (hF : F ≤ 60) (hfo : ∀ k j, fo k = some j → j < F) (k b : Nat) (hk : k < 432) (hb : fo k = some b) (h1 : hcnt fo b = 1) : Ret (gg D cI cB cL bb L xs) mX_needOwnFrame (n + 2) 0 0 [.ref h, .int (nI k)] (xW cI cB h a1 a2 a3 a4 a5 F c fo sp pi rest) (some (.int (nI b))) (xW cI cB h a1 a2 a3 a4 a5 F c fo sp pi rest) := by
  intro Psi hf
  show Go _ _ _ _ _ 0 [(0, .ref h), (1, .int (nI k))] [] _ Psi
  refine go_aload_n (pc := 0) 0 0 rfl rfl eX_needOwnFrame_0 ?_
  refine go_get (pc := 1) hwX 0 rfl rfl 3 (by decide) lkX_29 rfl eX_needOwnFrame_1 ?_
  refine go_iload_n (pc := 4) 1 1 rfl rfl eX_needOwnFrame_4 ?_
  refine go_ialdN (pc := 5) 3 0 (k) eX_needOwnFrame_5 rfl rfl (rfl) (hk) (by omega) ?_
  rw [hb]
  refine go_istore_n (pc := 6) (ls' := [(2, _), (0, _), (1, _)]) 2 rfl (by decide) eX_needOwnFrame_6 rfl ?_
  refine go_aload_n (pc := 7) 0 1 rfl rfl eX_needOwnFrame_7 ?_
  refine go_get (pc := 8) hwX 0 rfl rfl 2 (by decide) lkX_26 rfl eX_needOwnFrame_8 ?_
  refine go_iload_n (pc := 11) 2 0 rfl rfl eX_needOwnFrame_11 ?_
  refine go_ialdN (pc := 12) 2 0 (b) eX_needOwnFrame_12 rfl rfl (rfl) (hfo k b hb) (by omega) ?_
  refine go_iconst (pc := 13) (v := 1) (by decide) eX_needOwnFrame_13 ?_
  refine go_icmp_ne (pc := 14) 19 (by decide) eX_needOwnFrame_14 (fun c14 => ?_) (fun c14 => ?_)
  · exact absurd ((nI_z1 (hc31 fo b)).mpr h1) c14
  · refine go_iload_n (pc := 17) 2 0 rfl rfl eX_needOwnFrame_17 ?_
    exact go_iret (pc := 18) rfl rfl eX_needOwnFrame_18 (hf)
set_option maxRecDepth 100000 in
set_option maxHeartbeats 1000000 in
theorem c_own2 (hF : F ≤ 60) (hfo : ∀ k j, fo k = some j → j < F) (k b : Nat) (hk : k < 432) (hb : fo k = some b) (h1 : hcnt fo b ≠ 1) (j : Nat) (hj : j < F) (hj0 : hcnt fo j = 0) (hlt : ∀ q, q < j → hcnt fo q ≠ 0) : Ret (gg D cI cB cL bb L xs) mX_needOwnFrame (n + 2) 0 0 [.ref h, .int (nI k)] (xW cI cB h a1 a2 a3 a4 a5 F c fo sp pi rest) (some (.int (nI j))) (xW cI cB h a1 a2 a3 a4 a5 F (va_cpy c c (b * 16) (j * 16) 16) (va_up fo k (some j)) sp pi rest) := by
  intro Psi hf
  show Go _ _ _ _ _ 0 [(0, .ref h), (1, .int (nI k))] [] _ Psi
  refine go_aload_n (pc := 0) 0 0 rfl rfl eX_needOwnFrame_0 ?_
  refine go_get (pc := 1) hwX 0 rfl rfl 3 (by decide) lkX_29 rfl eX_needOwnFrame_1 ?_
  refine go_iload_n (pc := 4) 1 1 rfl rfl eX_needOwnFrame_4 ?_
  refine go_ialdN (pc := 5) 3 0 (k) eX_needOwnFrame_5 rfl rfl (rfl) (hk) (by omega) ?_
  rw [hb]
  refine go_istore_n (pc := 6) (ls' := [(2, _), (0, _), (1, _)]) 2 rfl (by decide) eX_needOwnFrame_6 rfl ?_
  refine go_aload_n (pc := 7) 0 1 rfl rfl eX_needOwnFrame_7 ?_
  refine go_get (pc := 8) hwX 0 rfl rfl 2 (by decide) lkX_26 rfl eX_needOwnFrame_8 ?_
  refine go_iload_n (pc := 11) 2 0 rfl rfl eX_needOwnFrame_11 ?_
  refine go_ialdN (pc := 12) 2 0 (b) eX_needOwnFrame_12 rfl rfl (rfl) (hfo k b hb) (by omega) ?_
  refine go_iconst (pc := 13) (v := 1) (by decide) eX_needOwnFrame_13 ?_
  refine go_icmp_ne (pc := 14) 19 (by decide) eX_needOwnFrame_14 (fun c14 => ?_) (fun c14 => ?_)
  · refine go_aload_n (pc := 19) 0 1 rfl rfl eX_needOwnFrame_19 ?_
    refine go_rV (pc := 20) 0 (c_nffA hF j hj hj0 hlt) okX_needFreeFrame lmX_74 eX_needOwnFrame_20 rfl rfl rfl rfl rfl (Nat.le_of_ble_eq_true rfl) (Nat.le_of_ble_eq_true rfl) ?_
    refine go_istore_n (pc := 23) (ls' := [(3, _), (2, _), (0, _), (1, _)]) 3 rfl (by decide) eX_needOwnFrame_23 rfl ?_
    refine go_aload_n (pc := 24) 0 2 rfl rfl eX_needOwnFrame_24 ?_
    refine go_get (pc := 25) hwX 0 rfl rfl 1 (by decide) lkX_22 rfl eX_needOwnFrame_25 ?_
    refine go_iload_n (pc := 28) 2 1 rfl rfl eX_needOwnFrame_28 ?_
    refine go_bipush (pc := 29) (v := 16) (by decide) eX_needOwnFrame_29 ?_
    refine go_imul (pc := 31) eX_needOwnFrame_31 ?_
    rw [show oI (some b) * 16 = nI (b * 16) from by show nI b * 16 = _; rw [show (16 : Int32) = nI 16 from rfl, pk_mul]]
    refine go_aload_n (pc := 32) 0 2 rfl rfl eX_needOwnFrame_32 ?_
    refine go_get (pc := 33) hwX 0 rfl rfl 1 (by decide) lkX_22 rfl eX_needOwnFrame_33 ?_
    refine go_iload_n (pc := 36) 3 0 rfl rfl eX_needOwnFrame_36 ?_
    refine go_bipush (pc := 37) (v := 16) (by decide) eX_needOwnFrame_37 ?_
    refine go_imul (pc := 39) eX_needOwnFrame_39 ?_
    rw [show nI j * 16 = nI (j * 16) from by rw [show (16 : Int32) = nI 16 from rfl, pk_mul]]
    refine go_bipush (pc := 40) (v := 16) (by decide) eX_needOwnFrame_40 ?_
    have hbF := hfo k b hb
    refine go_copyi (pc := 42) (es' := (xW cI cB h a1 a2 a3 a4 a5 F (va_cpy c c (b * 16) (j * 16) 16) fo sp pi rest)) lmX_150 naS stS inS 1 1 0 0 rfl rfl rfl rfl rfl (nI_pos (by omega)) (nI_pos (by omega)) (by decide) ?_ ?_ (fun _ _ => rfl) (Nat.le_of_ble_eq_true rfl) eX_needOwnFrame_42 ?_ ?_
    · rw [nI_clamp (by omega)]; show b * 16 + 16 ≤ F * 16; omega
    · rw [nI_clamp (by omega)]; show j * 16 + 16 ≤ F * 16; omega
    · rw [nI_clamp (by omega), nI_clamp (by omega)]; rfl
    refine go_aload_n (pc := 45) 0 2 rfl rfl eX_needOwnFrame_45 ?_
    refine go_iload_n (pc := 46) 1 3 rfl rfl eX_needOwnFrame_46 ?_
    refine go_iload_n (pc := 47) 3 0 rfl rfl eX_needOwnFrame_47 ?_
    refine go_rV0 (pc := 48) 0 (c_standIn hF hfo k hk (some j) (fun q z => by cases z; exact hj)) okX_standIn lmX_59 eX_needOwnFrame_48 rfl rfl rfl rfl rfl (Nat.le_of_ble_eq_true rfl) (Nat.le_of_ble_eq_true rfl) ?_
    refine go_iload_n (pc := 51) 3 0 rfl rfl eX_needOwnFrame_51 ?_
    exact go_iret (pc := 52) rfl rfl eX_needOwnFrame_52 (hf)
  · exact absurd ((nI_z1 (hc31 fo b)).mp c14) h1
set_option maxRecDepth 100000 in
set_option maxHeartbeats 1000000 in
theorem t_own (hF : F ≤ 60) (hfo : ∀ k j, fo k = some j → j < F) (k b : Nat) (hk : k < 432) (hb : fo k = some b) (h1 : hcnt fo b ≠ 1) (hlt : ∀ q, q < F → hcnt fo q ≠ 0) : Thr (gg D cI cB cL bb L xs) mX_needOwnFrame (n + 2) 1 6 [.ref h, .int (nI k)] (xW cI cB h a1 a2 a3 a4 a5 F c fo sp pi rest) "java/lang/IllegalStateException" := by
  intro Psi hf
  show Go _ _ _ _ _ 0 [(0, .ref h), (1, .int (nI k))] [] _ Psi
  refine go_aload_n (pc := 0) 0 0 rfl rfl eX_needOwnFrame_0 ?_
  refine go_get (pc := 1) hwX 0 rfl rfl 3 (by decide) lkX_29 rfl eX_needOwnFrame_1 ?_
  refine go_iload_n (pc := 4) 1 1 rfl rfl eX_needOwnFrame_4 ?_
  refine go_ialdN (pc := 5) 3 0 (k) eX_needOwnFrame_5 rfl rfl (rfl) (hk) (by omega) ?_
  rw [hb]
  refine go_istore_n (pc := 6) (ls' := [(2, _), (0, _), (1, _)]) 2 rfl (by decide) eX_needOwnFrame_6 rfl ?_
  refine go_aload_n (pc := 7) 0 1 rfl rfl eX_needOwnFrame_7 ?_
  refine go_get (pc := 8) hwX 0 rfl rfl 2 (by decide) lkX_26 rfl eX_needOwnFrame_8 ?_
  refine go_iload_n (pc := 11) 2 0 rfl rfl eX_needOwnFrame_11 ?_
  refine go_ialdN (pc := 12) 2 0 (b) eX_needOwnFrame_12 rfl rfl (rfl) (hfo k b hb) (by omega) ?_
  refine go_iconst (pc := 13) (v := 1) (by decide) eX_needOwnFrame_13 ?_
  refine go_icmp_ne (pc := 14) 19 (by decide) eX_needOwnFrame_14 (fun c14 => ?_) (fun c14 => ?_)
  · refine go_aload_n (pc := 19) 0 1 rfl rfl eX_needOwnFrame_19 ?_
    exact go_tV (pc := 20) 0 (t_nff hF hlt) okX_needFreeFrame lmX_74 eX_needOwnFrame_20 rfl rfl rfl rfl rfl (Nat.le_of_ble_eq_true rfl) (Nat.le_of_ble_eq_true rfl) (by omega) (by omega) hf
  · exact absurd ((nI_z1 (hc31 fo b)).mp c14) h1
theorem nI_nm1 {a : Nat} (h : a < 2 ^ 31) : ¬ nI a = -1 := fun z => nI_pos h (by rw [z]; decide)
end Sxd
