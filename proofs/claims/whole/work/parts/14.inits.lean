section GX14
variable {g : gG} {M : gM} {n mc ms pc : Nat} {ls : List (Nat × Value)} {st : List Value} {es es' : va_W} {Phi : gR → va_W → Prop}
theorem go_alen {cA : ClassId} {x : vp_A} {a : Nat} {ty : FieldType} {v : Int32} (q0 t0 : Nat) (hd : decode M.2.1 pc = .ok (.arraylength, 1)) (ha : es[q0]? = some (a, .inl (cA, x))) (ht : g.2.1[t0]? = some (cA, ty)) (hv : Int32.ofNat x.1 = v) (k : Go g M n mc ms (pc + 1) ls (.int v :: st) es Phi) : Go g M n mc ms pc ls (.ref a :: st) es Phi := by
  intro p l e R s m args below meth c A tc ts C h1 h2 H locs cells slots arr hP hD hS hl h3 h4
  exact va_alen C.hx C.hb C.hk hP q0 t0 ha ht hv hd (k p l e R s m args below meth c A tc ts C h1 h2 H locs cells slots arr hP hD hS hl h3 h4)
/-- an array is what its places hold -/
theorem go_ext {cA : ClassId} {len : Nat} {f f' : Nat → Int32} {a : Nat} (q0 : Nat) (ha : es[q0]? = some (a, .inl (cA, len, .inl f))) (hff : ∀ j, j < len → f j = f' j) (he : es.set q0 (a, .inl (cA, len, .inl f')) = es') (k : Go g M n mc ms pc ls st es' Phi) : Go g M n mc ms pc ls st es Phi := by
  intro p l e R s m args below meth c A tc ts C h1 h2 H locs cells slots arr hP hD hS hl h3 h4
  subst he
  have hc : vp_cell cA (len, .inl f) = vp_cell cA (len, .inl f') := by
    show arrV cA len (fun j => .int (f j)) = arrV cA len (fun j => .int (f' j))
    unfold arrV
    congr 2
    funext j
    show Value.int (f j.val) = Value.int (f' j.val)
    rw [hff j.val j.isLt]
  have hq : q0 < es.length := (List.getElem?_eq_some_iff.mp ha).1
  have hget : ∀ (k : Nat) (q : Nat × va_E), (es.set q0 (a, .inl (cA, len, .inl f')))[k]? = some q → ∃ q', es[k]? = some q' ∧ q'.1 = q.1 ∧ (k ≠ q0 → q' = q) ∧ (k = q0 → q = (a, .inl (cA, len, .inl f'))) := by
    intro k q hk
    rw [List.getElem?_set] at hk
    by_cases e : q0 = k
    · rw [if_pos e, if_pos hq] at hk
      cases hk
      subst e
      exact ⟨_, ha, rfl, fun z => absurd rfl z, fun _ => rfl⟩
    · rw [if_neg e] at hk
      exact ⟨q, hk, rfl, fun _ => rfl, fun z => absurd z.symm e⟩
  refine k p l e R s m args below meth c A tc ts C h1 h2 H locs cells slots arr ?_ ?_ hS hl h3 h4
  · intro k q hk
    obtain ⟨q', r1, r2, r3, r4⟩ := hget k q hk
    by_cases e : k = q0
    · rw [r4 e]
      have h9 : H[a]? = some (vp_cell cA (len, .inl f)) := hP q0 _ ha
      show H[a]? = some (vp_cell cA (len, .inl f'))
      rw [h9, hc]
    · rw [← r3 e]; exact hP k q' r1
  · refine ⟨fun i j p0 q hi hj hpq => ?_, fun k q hk => ?_⟩
    · obtain ⟨p', r1, r2, -, -⟩ := hget i p0 hi
      obtain ⟨q', t1, t2, -, -⟩ := hget j q hj
      exact hD.1 i j p' q' r1 t1 (by rw [r2, t2]; exact hpq)
    · obtain ⟨q', r1, r2, -, -⟩ := hget k q hk
      rw [← r2]; exact hD.2 k q' r1
end GX14
section S14
variable {D : va_G} {cI cB cL : ClassId} {bb L : Nat} {xs : Nat → Int32} {n h a1 a2 a3 a4 a5 F : Nat} {c : Nat → Int32} {fo : Nat → Option Nat} {sp pi : Nat → Bool} {rest es : va_W}
variable {hm b1 b2 b3 b4 sx : Nat} {cd : Int32} {pd th : Nat → Bool} {sm : Nat → Nat} {u : Nat → Int32} {z0 z1 z2 z3 z4 z5 : Nat × va_E}
set_option maxRecDepth 100000 in
set_option maxHeartbeats 1000000 in
theorem c_count0 (hF : F ≤ 60) : Ret (gg D cI cB cL bb L xs) mX_count (n + 1) 0 0 [.ref h, .int (nI 0)] (xW cI cB h a1 a2 a3 a4 a5 F c fo sp pi rest) (some (.int (nI (gcnt (fun j => decide (0 < hcnt fo j)) F)))) (xW cI cB h a1 a2 a3 a4 a5 F c fo sp pi rest) := by
  intro Psi hf
  show Go _ _ _ _ _ 0 [(0, .ref h), (1, .int (nI 0))] [] _ Psi
  refine go_iload_n (pc := 0) 1 1 rfl rfl eX_count_0 ?_
  refine go_tin (pc := 1) (off := 35) 36 (by decide) (by decide) (by decide) (by decide) eX_count_1 ?_
  refine go_aload_n (pc := 36) 0 0 rfl rfl eX_count_36 ?_
  refine go_rV (pc := 37) 0 (c_fiu hF) okX_framesInUse lmX_112 eX_count_37 rfl rfl rfl rfl rfl (Nat.le_of_ble_eq_true rfl) (Nat.le_of_ble_eq_true rfl) ?_
  exact go_iret (pc := 40) rfl rfl eX_count_40 (hf)
set_option maxRecDepth 100000 in
set_option maxHeartbeats 1000000 in
theorem c_count1  : Ret (gg D cI cB cL bb L xs) mX_count n 0 0 [.ref h, .int (nI 1)] (xW cI cB h a1 a2 a3 a4 a5 F c fo sp pi rest) (some (.int (nI F))) (xW cI cB h a1 a2 a3 a4 a5 F c fo sp pi rest) := by
  intro Psi hf
  show Go _ _ _ _ _ 0 [(0, .ref h), (1, .int (nI 1))] [] _ Psi
  refine go_iload_n (pc := 0) 1 1 rfl rfl eX_count_0 ?_
  refine go_tin (pc := 1) (off := 40) 41 (by decide) (by decide) (by decide) (by decide) eX_count_1 ?_
  refine go_aload_n (pc := 41) 0 0 rfl rfl eX_count_41 ?_
  refine go_get (pc := 42) hwX 0 rfl rfl 0 (by decide) lkX_18 rfl eX_count_42 ?_
  exact go_iret (pc := 45) rfl rfl eX_count_45 (hf)
set_option maxRecDepth 100000 in
set_option maxHeartbeats 1000000 in
theorem c_count2  : Ret (gg D cI cB cL bb L xs) mX_count (n + 2) 0 0 [.ref h, .int (nI 2)] (xW cI cB h a1 a2 a3 a4 a5 F c fo sp pi rest) (some (.int (nI (gcnt (fun s => sp (48 + s)) 6)))) (xW cI cB h a1 a2 a3 a4 a5 F c fo sp pi rest) := by
  intro Psi hf
  show Go _ _ _ _ _ 0 [(0, .ref h), (1, .int (nI 2))] [] _ Psi
  refine go_iload_n (pc := 0) 1 1 rfl rfl eX_count_0 ?_
  refine go_tin (pc := 1) (off := 45) 46 (by decide) (by decide) (by decide) (by decide) eX_count_1 ?_
  refine go_aload_n (pc := 46) 0 0 rfl rfl eX_count_46 ?_
  refine go_rV (pc := 47) 0 (c_spn) okX_spacesNow lmX_109 eX_count_47 rfl rfl rfl rfl rfl (Nat.le_of_ble_eq_true rfl) (Nat.le_of_ble_eq_true rfl) ?_
  exact go_iret (pc := 50) rfl rfl eX_count_50 (hf)
set_option maxRecDepth 100000 in
set_option maxHeartbeats 1000000 in
theorem c_count3  : Ret (gg D cI cB cL bb L xs) mX_count (n + 1) 0 0 [.ref h, .int (nI 3)] (xW cI cB h a1 a2 a3 a4 a5 F c fo sp pi rest) (some (.int (nI (gcnt pi 8)))) (xW cI cB h a1 a2 a3 a4 a5 F c fo sp pi rest) := by
  intro Psi hf
  show Go _ _ _ _ _ 0 [(0, .ref h), (1, .int (nI 3))] [] _ Psi
  refine go_iload_n (pc := 0) 1 1 rfl rfl eX_count_0 ?_
  refine go_tin (pc := 1) (off := 50) 51 (by decide) (by decide) (by decide) (by decide) eX_count_1 ?_
  refine go_aload_n (pc := 51) 0 0 rfl rfl eX_count_51 ?_
  refine go_rV (pc := 52) 0 (c_pcn) okX_picturesNow lmX_118 eX_count_52 rfl rfl rfl rfl rfl (Nat.le_of_ble_eq_true rfl) (Nat.le_of_ble_eq_true rfl) ?_
  exact go_iret (pc := 55) rfl rfl eX_count_55 (hf)
set_option maxRecDepth 100000 in
set_option maxHeartbeats 1000000 in
theorem c_count4 (hF : F ≤ 60) (hfo : ∀ k j, fo k = some j → j < F) : Ret (gg D cI cB cL bb L xs) mX_count (n + 3) 0 0 [.ref h, .int (nI 4)] (xW cI cB h a1 a2 a3 a4 a5 F c fo sp pi rest) (some (.int (nI (pgsum fo 6)))) (xW cI cB h a1 a2 a3 a4 a5 F c fo sp pi rest) := by
  intro Psi hf
  show Go _ _ _ _ _ 0 [(0, .ref h), (1, .int (nI 4))] [] _ Psi
  refine go_iload_n (pc := 0) 1 1 rfl rfl eX_count_0 ?_
  refine go_tin (pc := 1) (off := 55) 56 (by decide) (by decide) (by decide) (by decide) eX_count_1 ?_
  refine go_aload_n (pc := 56) 0 0 rfl rfl eX_count_56 ?_
  refine go_rV (pc := 57) 0 (c_pgn hF hfo) okX_pagesNow lmX_121 eX_count_57 rfl rfl rfl rfl rfl (Nat.le_of_ble_eq_true rfl) (Nat.le_of_ble_eq_true rfl) ?_
  exact go_iret (pc := 60) rfl rfl eX_count_60 (hf)
theorem tsw_out {x : Int32} (hx : ∀ j, j < 5 → x ≠ nI j) : x.toInt < 0 ∨ 4 < x.toInt := by
  rcases pk_ix x (n := 5) (by omega) with q | q | ⟨j, hj, q⟩
  · left
    have := Int32.lt_iff_toInt_lt.mp q
    simpa using this
  · right
    have h1 := Int32.le_iff_toInt_le.mp q
    rw [nI_toInt (by omega)] at h1
    omega
  · exact absurd q (hx j hj)
set_option maxRecDepth 100000 in
set_option maxHeartbeats 1000000 in
theorem c_count5 (x : Int32) (hx : ∀ j, j < 5 → x ≠ nI j) : Ret (gg D cI cB cL bb L xs) mX_count n 0 0 [.ref h, .int x] (xW cI cB h a1 a2 a3 a4 a5 F c fo sp pi rest) (some (.int (-1))) (xW cI cB h a1 a2 a3 a4 a5 F c fo sp pi rest) := by
  intro Psi hf
  show Go _ _ _ _ _ 0 [(0, .ref h), (1, .int x)] [] _ Psi
  refine go_iload_n (pc := 0) 1 1 rfl rfl eX_count_0 ?_
  refine go_tout (pc := 1) 61 (tsw_out hx) (by decide) eX_count_1 ?_
  refine go_iconst (pc := 61) (v := (-1)) (by decide) eX_count_61 ?_
  exact go_iret (pc := 62) rfl rfl eX_count_62 (hf)
/-- the pages of the first spaces, by their stamps -/
def ypg (sm : Nat → Nat) : Nat → Nat
  | 0 => 0
  | s + 1 => ypg sm s + gcnt (fun p => decide (¬ sm (8 * s + p) = 0)) 8
set_option maxRecDepth 100000 in
set_option maxHeartbeats 1000000 in
theorem d_count0 (hsm : ∀ k, sm k < 2 ^ 30) : Ret (gg D cI cB cL bb L xs) mY_count (n + 1) 0 0 [.ref hm, .int (nI 0)] (zW z0 z1 z2 z3 z4 z5 cI cB hm b1 b2 b3 b4 cd F sx pd th sm u rest) (some (.int (nI (gcnt (usf sm) 432)))) (zW z0 z1 z2 z3 z4 z5 cI cB hm b1 b2 b3 b4 0 F sx pd th sm u rest) := by
  intro Psi hf
  show Go _ _ _ _ _ 0 [(0, .ref hm), (1, .int (nI 0))] [] _ Psi
  refine go_aload_n (pc := 0) 0 0 rfl rfl eY_count_0 ?_
  refine go_iconst (pc := 1) (v := 0) (by decide) eY_count_1 ?_
  refine go_put (pc := 2) (ty := .int) (es' := (zW z0 z1 z2 z3 z4 z5 cI cB hm b1 b2 b3 b4 0 F sx pd th sm u rest)) hwY tyY tyY_ok nmY 6 rfl rfl 0 (by decide) lkY_27 rfl (by decide +kernel) rfl rfl (Nat.le_of_ble_eq_true rfl) eY_count_2 rfl ?_
  refine go_iconst (pc := 5) (v := 0) (by decide) eY_count_5 ?_
  refine go_istore_n (pc := 6) (ls' := [(2, _), (0, _), (1, _)]) 2 rfl (by decide) eY_count_6 rfl ?_
  refine go_iconst (pc := 7) (v := 1) (by decide) eY_count_7 ?_
  refine go_istore_n (pc := 8) (ls' := [(3, _), (2, _), (0, _), (1, _)]) 3 rfl (by decide) eY_count_8 rfl ?_
  refine go_iload_n (pc := 9) 3 0 rfl rfl eY_count_9 ?_
  refine go_bipush (pc := 10) (v := 8) (by decide) eY_count_10 ?_
  refine go_icmp_gt (pc := 12) 43 (by decide) eY_count_12 (fun c12 => ?_) (fun c12 => ?_)
  · exact absurd c12 (by decide)
  · refine go_iload_n (pc := 15) 1 3 rfl rfl eY_count_15 ?_
    refine go_iconst (pc := 16) (v := 3) (by decide) eY_count_16 ?_
    refine go_icmp_ne (pc := 17) 43 (by decide) eY_count_17 (fun c17 => ?_) (fun c17 => ?_)
    · refine go_iconst (pc := 43) (v := 0) (by decide) eY_count_43 ?_
      refine go_istore_n (pc := 44) (ls' := [(3, _), (2, _), (0, _), (1, _)]) 3 rfl (by decide) eY_count_44 rfl ?_
      refine go_iload_n (pc := 45) 3 0 rfl rfl eY_count_45 ?_
      refine go_bipush (pc := 46) (v := 6) (by decide) eY_count_46 ?_
      refine go_icmp_ge (pc := 48) 70 (by decide) eY_count_48 (fun c48 => ?_) (fun c48 => ?_)
      · exact absurd c48 (by decide)
      · refine go_iload_n (pc := 51) 1 3 rfl rfl eY_count_51 ?_
        refine go_iconst (pc := 52) (v := 4) (by decide) eY_count_52 ?_
        refine go_icmp_ne (pc := 53) 70 (by decide) eY_count_53 (fun c53 => ?_) (fun c53 => ?_)
        · refine go_iload_n (pc := 70) 1 3 rfl rfl eY_count_70 ?_
          refine go_tin (pc := 71) (off := 33) 104 (by decide) (by decide) (by decide) (by decide) eY_count_71 ?_
          refine go_aload_n (pc := 104) 0 2 rfl rfl eY_count_104 ?_
          refine go_rV (pc := 105) 6 (d_used hsm) okY_used lmY_60 eY_count_105 rfl rfl rfl rfl rfl (Nat.le_of_ble_eq_true rfl) (Nat.le_of_ble_eq_true rfl) ?_
          exact go_iret (pc := 108) rfl rfl eY_count_108 (hf)
        · exact absurd c53 (by decide)
    · exact absurd c17 (by decide)
set_option maxRecDepth 100000 in
set_option maxHeartbeats 1000000 in
theorem d_count1  : Ret (gg D cI cB cL bb L xs) mY_count n 0 0 [.ref hm, .int (nI 1)] (zW z0 z1 z2 z3 z4 z5 cI cB hm b1 b2 b3 b4 cd F sx pd th sm u rest) (some (.int (nI F))) (zW z0 z1 z2 z3 z4 z5 cI cB hm b1 b2 b3 b4 0 F sx pd th sm u rest) := by
  intro Psi hf
  show Go _ _ _ _ _ 0 [(0, .ref hm), (1, .int (nI 1))] [] _ Psi
  refine go_aload_n (pc := 0) 0 0 rfl rfl eY_count_0 ?_
  refine go_iconst (pc := 1) (v := 0) (by decide) eY_count_1 ?_
  refine go_put (pc := 2) (ty := .int) (es' := (zW z0 z1 z2 z3 z4 z5 cI cB hm b1 b2 b3 b4 0 F sx pd th sm u rest)) hwY tyY tyY_ok nmY 6 rfl rfl 0 (by decide) lkY_27 rfl (by decide +kernel) rfl rfl (Nat.le_of_ble_eq_true rfl) eY_count_2 rfl ?_
  refine go_iconst (pc := 5) (v := 0) (by decide) eY_count_5 ?_
  refine go_istore_n (pc := 6) (ls' := [(2, _), (0, _), (1, _)]) 2 rfl (by decide) eY_count_6 rfl ?_
  refine go_iconst (pc := 7) (v := 1) (by decide) eY_count_7 ?_
  refine go_istore_n (pc := 8) (ls' := [(3, _), (2, _), (0, _), (1, _)]) 3 rfl (by decide) eY_count_8 rfl ?_
  refine go_iload_n (pc := 9) 3 0 rfl rfl eY_count_9 ?_
  refine go_bipush (pc := 10) (v := 8) (by decide) eY_count_10 ?_
  refine go_icmp_gt (pc := 12) 43 (by decide) eY_count_12 (fun c12 => ?_) (fun c12 => ?_)
  · exact absurd c12 (by decide)
  · refine go_iload_n (pc := 15) 1 3 rfl rfl eY_count_15 ?_
    refine go_iconst (pc := 16) (v := 3) (by decide) eY_count_16 ?_
    refine go_icmp_ne (pc := 17) 43 (by decide) eY_count_17 (fun c17 => ?_) (fun c17 => ?_)
    · refine go_iconst (pc := 43) (v := 0) (by decide) eY_count_43 ?_
      refine go_istore_n (pc := 44) (ls' := [(3, _), (2, _), (0, _), (1, _)]) 3 rfl (by decide) eY_count_44 rfl ?_
      refine go_iload_n (pc := 45) 3 0 rfl rfl eY_count_45 ?_
      refine go_bipush (pc := 46) (v := 6) (by decide) eY_count_46 ?_
      refine go_icmp_ge (pc := 48) 70 (by decide) eY_count_48 (fun c48 => ?_) (fun c48 => ?_)
      · exact absurd c48 (by decide)
      · refine go_iload_n (pc := 51) 1 3 rfl rfl eY_count_51 ?_
        refine go_iconst (pc := 52) (v := 4) (by decide) eY_count_52 ?_
        refine go_icmp_ne (pc := 53) 70 (by decide) eY_count_53 (fun c53 => ?_) (fun c53 => ?_)
        · refine go_iload_n (pc := 70) 1 3 rfl rfl eY_count_70 ?_
          refine go_tin (pc := 71) (off := 38) 109 (by decide) (by decide) (by decide) (by decide) eY_count_71 ?_
          refine go_aload_n (pc := 109) 0 2 rfl rfl eY_count_109 ?_
          refine go_get (pc := 110) hwY 6 rfl rfl 1 (by decide) lkY_23 rfl eY_count_110 ?_
          exact go_iret (pc := 113) rfl rfl eY_count_113 (hf)
        · exact absurd c53 (by decide)
    · exact absurd c17 (by decide)
set_option maxRecDepth 100000 in
set_option maxHeartbeats 1000000 in
theorem d_count2  : Ret (gg D cI cB cL bb L xs) mY_count (n + 1) 0 0 [.ref hm, .int (nI 2)] (zW z0 z1 z2 z3 z4 z5 cI cB hm b1 b2 b3 b4 cd F sx pd th sm u rest) (some (.int (nI (gcnt th 6)))) (zW z0 z1 z2 z3 z4 z5 cI cB hm b1 b2 b3 b4 0 F sx pd th sm u rest) := by
  intro Psi hf
  show Go _ _ _ _ _ 0 [(0, .ref hm), (1, .int (nI 2))] [] _ Psi
  refine go_aload_n (pc := 0) 0 0 rfl rfl eY_count_0 ?_
  refine go_iconst (pc := 1) (v := 0) (by decide) eY_count_1 ?_
  refine go_put (pc := 2) (ty := .int) (es' := (zW z0 z1 z2 z3 z4 z5 cI cB hm b1 b2 b3 b4 0 F sx pd th sm u rest)) hwY tyY tyY_ok nmY 6 rfl rfl 0 (by decide) lkY_27 rfl (by decide +kernel) rfl rfl (Nat.le_of_ble_eq_true rfl) eY_count_2 rfl ?_
  refine go_iconst (pc := 5) (v := 0) (by decide) eY_count_5 ?_
  refine go_istore_n (pc := 6) (ls' := [(2, _), (0, _), (1, _)]) 2 rfl (by decide) eY_count_6 rfl ?_
  refine go_iconst (pc := 7) (v := 1) (by decide) eY_count_7 ?_
  refine go_istore_n (pc := 8) (ls' := [(3, _), (2, _), (0, _), (1, _)]) 3 rfl (by decide) eY_count_8 rfl ?_
  refine go_iload_n (pc := 9) 3 0 rfl rfl eY_count_9 ?_
  refine go_bipush (pc := 10) (v := 8) (by decide) eY_count_10 ?_
  refine go_icmp_gt (pc := 12) 43 (by decide) eY_count_12 (fun c12 => ?_) (fun c12 => ?_)
  · exact absurd c12 (by decide)
  · refine go_iload_n (pc := 15) 1 3 rfl rfl eY_count_15 ?_
    refine go_iconst (pc := 16) (v := 3) (by decide) eY_count_16 ?_
    refine go_icmp_ne (pc := 17) 43 (by decide) eY_count_17 (fun c17 => ?_) (fun c17 => ?_)
    · refine go_iconst (pc := 43) (v := 0) (by decide) eY_count_43 ?_
      refine go_istore_n (pc := 44) (ls' := [(3, _), (2, _), (0, _), (1, _)]) 3 rfl (by decide) eY_count_44 rfl ?_
      refine go_iload_n (pc := 45) 3 0 rfl rfl eY_count_45 ?_
      refine go_bipush (pc := 46) (v := 6) (by decide) eY_count_46 ?_
      refine go_icmp_ge (pc := 48) 70 (by decide) eY_count_48 (fun c48 => ?_) (fun c48 => ?_)
      · exact absurd c48 (by decide)
      · refine go_iload_n (pc := 51) 1 3 rfl rfl eY_count_51 ?_
        refine go_iconst (pc := 52) (v := 4) (by decide) eY_count_52 ?_
        refine go_icmp_ne (pc := 53) 70 (by decide) eY_count_53 (fun c53 => ?_) (fun c53 => ?_)
        · refine go_iload_n (pc := 70) 1 3 rfl rfl eY_count_70 ?_
          refine go_tin (pc := 71) (off := 43) 114 (by decide) (by decide) (by decide) (by decide) eY_count_71 ?_
          refine go_aload_n (pc := 114) 0 2 rfl rfl eY_count_114 ?_
          refine go_rV (pc := 115) 6 (d_spaces) okY_spaces lmY_83 eY_count_115 rfl rfl rfl rfl rfl (Nat.le_of_ble_eq_true rfl) (Nat.le_of_ble_eq_true rfl) ?_
          exact go_iret (pc := 118) rfl rfl eY_count_118 (hf)
        · exact absurd c53 (by decide)
    · exact absurd c17 (by decide)
set_option maxRecDepth 100000 in
set_option maxHeartbeats 1000000 in
theorem k_cnt3 {Psi : gR → va_W → Prop} (hf : Psi (.inl (some (.int (nI (gcnt (fun i => pd (1 + i)) 8))))) (zW z0 z1 z2 z3 z4 z5 cI cB hm b1 b2 b3 b4 cd F sx pd th sm u rest)) : ∀ (m i : Nat), i + m = 8 → Go (gg D cI cB cL bb L xs) mY_count n 0 0 9 [(3, .int (nI (1 + i))), (2, .int (nI (gcnt (fun i => pd (1 + i)) i))), (0, .ref hm), (1, .int (nI 3))] [] (zW z0 z1 z2 z3 z4 z5 cI cB hm b1 b2 b3 b4 cd F sx pd th sm u rest) Psi := by
  intro m
  induction m with
  | zero =>
    intro i hi
    obtain rfl : i = 8 := by omega
    refine go_iload_n (pc := 9) 3 0 rfl rfl eY_count_9 ?_
    refine go_bipush (pc := 10) (v := 8) (by decide) eY_count_10 ?_
    refine go_icmp_gt (pc := 12) 43 (by decide) eY_count_12 (fun c12 => ?_) (fun c12 => ?_)
    · refine go_iconst (pc := 43) (v := 0) (by decide) eY_count_43 ?_
      refine go_istore_n (pc := 44) (ls' := [(3, _), (2, _), (0, _), (1, _)]) 3 rfl (by decide) eY_count_44 rfl ?_
      refine go_iload_n (pc := 45) 3 0 rfl rfl eY_count_45 ?_
      refine go_bipush (pc := 46) (v := 6) (by decide) eY_count_46 ?_
      refine go_icmp_ge (pc := 48) 70 (by decide) eY_count_48 (fun c48 => ?_) (fun c48 => ?_)
      · exact absurd c48 (by decide)
      · refine go_iload_n (pc := 51) 1 3 rfl rfl eY_count_51 ?_
        refine go_iconst (pc := 52) (v := 4) (by decide) eY_count_52 ?_
        refine go_icmp_ne (pc := 53) 70 (by decide) eY_count_53 (fun c53 => ?_) (fun c53 => ?_)
        · refine go_iload_n (pc := 70) 1 3 rfl rfl eY_count_70 ?_
          refine go_tin (pc := 71) (off := 48) 119 (by decide) (by decide) (by decide) (by decide) eY_count_71 ?_
          refine go_iload_n (pc := 119) 2 1 rfl rfl eY_count_119 ?_
          exact go_iret (pc := 120) rfl rfl eY_count_120 (hf)
        · exact absurd c53 (by decide)
    · exact absurd (show (8 : Int32) < nI (1 + 8) by decide) c12
  | succ m ih =>
    intro i hi
    refine go_iload_n (pc := 9) 3 0 rfl rfl eY_count_9 ?_
    refine go_bipush (pc := 10) (v := 8) (by decide) eY_count_10 ?_
    refine go_icmp_gt (pc := 12) 43 (by decide) eY_count_12 (fun c12 => ?_) (fun c12 => ?_)
    · exact absurd c12 (nI_nlt (a := 8) (b := 1 + i) (by omega) (by omega))
    · refine go_iload_n (pc := 15) 1 3 rfl rfl eY_count_15 ?_
      refine go_iconst (pc := 16) (v := 3) (by decide) eY_count_16 ?_
      refine go_icmp_ne (pc := 17) 43 (by decide) eY_count_17 (fun c17 => ?_) (fun c17 => ?_)
      · exact absurd rfl c17
      · refine go_aload_n (pc := 20) 0 2 rfl rfl eY_count_20 ?_
        refine go_get (pc := 21) hwY 6 rfl rfl 3 (by decide) lkY_7 rfl eY_count_21 ?_
        refine go_iload_n (pc := 24) 3 0 rfl rfl eY_count_24 ?_
        refine go_zaldN (pc := 25) 7 1 (1 + i) eY_count_25 rfl rfl (rfl) (by omega) (by omega) ?_
        refine go_if_eq (pc := 26) 35 (by decide) eY_count_26 (fun c26 => ?_) (fun c26 => ?_)
        · have e9 : gcnt (fun i => pd (1 + i)) (i + 1) = gcnt (fun i => pd (1 + i)) i := gcnt_n (bI0.mp c26)
          rw [← e9]
          refine go_iload_n (pc := 35) 2 1 rfl rfl eY_count_35 ?_
          refine go_istore_n (pc := 36) (ls' := [(2, _), (3, _), (0, _), (1, _)]) 2 rfl (by decide) eY_count_36 rfl ?_
          refine go_iinc (pc := 37) (z := 1) (v := nI (1 + (i + 1))) (ls' := [(3, _), (2, _), (0, _), (1, _)]) 3 1 rfl (by rw [show 1 + (i + 1) = (1 + i) + 1 from by omega]; exact nI_1 (1 + i)) (by decide) eY_count_37 rfl ?_
          refine go_goto (pc := 40) 9 (by decide) eY_count_40 ?_
          exact ih (i + 1) (by omega)
        · have e9 : gcnt (fun i => pd (1 + i)) (i + 1) = gcnt (fun i => pd (1 + i)) i + 1 := gcnt_s (bI1 c26)
          refine go_iload_n (pc := 29) 2 1 rfl rfl eY_count_29 ?_
          refine go_iconst (pc := 30) (v := 1) (by decide) eY_count_30 ?_
          refine go_iadd (pc := 31) eY_count_31 ?_
          rw [nI_1, ← e9]
          refine go_goto (pc := 32) 36 (by decide) eY_count_32 ?_
          refine go_istore_n (pc := 36) (ls' := [(2, _), (3, _), (0, _), (1, _)]) 2 rfl (by decide) eY_count_36 rfl ?_
          refine go_iinc (pc := 37) (z := 1) (v := nI (1 + (i + 1))) (ls' := [(3, _), (2, _), (0, _), (1, _)]) 3 1 rfl (by rw [show 1 + (i + 1) = (1 + i) + 1 from by omega]; exact nI_1 (1 + i)) (by decide) eY_count_37 rfl ?_
          refine go_goto (pc := 40) 9 (by decide) eY_count_40 ?_
          exact ih (i + 1) (by omega)
set_option maxRecDepth 100000 in
set_option maxHeartbeats 1000000 in
theorem d_count3  : Ret (gg D cI cB cL bb L xs) mY_count n 0 0 [.ref hm, .int (nI 3)] (zW z0 z1 z2 z3 z4 z5 cI cB hm b1 b2 b3 b4 cd F sx pd th sm u rest) (some (.int (nI (gcnt (fun i => pd (1 + i)) 8)))) (zW z0 z1 z2 z3 z4 z5 cI cB hm b1 b2 b3 b4 0 F sx pd th sm u rest) := by
  intro Psi hf
  show Go _ _ _ _ _ 0 [(0, .ref hm), (1, .int (nI 3))] [] _ Psi
  refine go_aload_n (pc := 0) 0 0 rfl rfl eY_count_0 ?_
  refine go_iconst (pc := 1) (v := 0) (by decide) eY_count_1 ?_
  refine go_put (pc := 2) (ty := .int) (es' := (zW z0 z1 z2 z3 z4 z5 cI cB hm b1 b2 b3 b4 0 F sx pd th sm u rest)) hwY tyY tyY_ok nmY 6 rfl rfl 0 (by decide) lkY_27 rfl (by decide +kernel) rfl rfl (Nat.le_of_ble_eq_true rfl) eY_count_2 rfl ?_
  refine go_iconst (pc := 5) (v := 0) (by decide) eY_count_5 ?_
  refine go_istore_n (pc := 6) (ls' := [(2, _), (0, _), (1, _)]) 2 rfl (by decide) eY_count_6 rfl ?_
  refine go_iconst (pc := 7) (v := 1) (by decide) eY_count_7 ?_
  refine go_istore_n (pc := 8) (ls' := [(3, _), (2, _), (0, _), (1, _)]) 3 rfl (by decide) eY_count_8 rfl ?_
  exact k_cnt3 hf 8 0 (by omega)
set_option maxRecDepth 100000 in
set_option maxHeartbeats 1000000 in
theorem k_cnt4 (hsm : ∀ k, sm k < 2 ^ 30) {Psi : gR → va_W → Prop} (hf : Psi (.inl (some (.int (nI (ypg sm 6))))) (zW z0 z1 z2 z3 z4 z5 cI cB hm b1 b2 b3 b4 cd F sx pd th sm u rest)) : ∀ (m i : Nat), i + m = 6 → Go (gg D cI cB cL bb L xs) mY_count (n + 2) 0 0 45 [(3, .int (nI i)), (2, .int (nI (ypg sm i))), (0, .ref hm), (1, .int (nI 4))] [] (zW z0 z1 z2 z3 z4 z5 cI cB hm b1 b2 b3 b4 cd F sx pd th sm u rest) Psi := by
  intro m
  induction m with
  | zero =>
    intro i hi
    obtain rfl : i = 6 := by omega
    refine go_iload_n (pc := 45) 3 0 rfl rfl eY_count_45 ?_
    refine go_bipush (pc := 46) (v := 6) (by decide) eY_count_46 ?_
    refine go_icmp_ge (pc := 48) 70 (by decide) eY_count_48 (fun c48 => ?_) (fun c48 => ?_)
    · refine go_iload_n (pc := 70) 1 3 rfl rfl eY_count_70 ?_
      refine go_tin (pc := 71) (off := 48) 119 (by decide) (by decide) (by decide) (by decide) eY_count_71 ?_
      refine go_iload_n (pc := 119) 2 1 rfl rfl eY_count_119 ?_
      exact go_iret (pc := 120) rfl rfl eY_count_120 (hf)
    · exact absurd (show (6 : Int32) ≤ nI 6 by decide) c48
  | succ m ih =>
    intro i hi
    refine go_iload_n (pc := 45) 3 0 rfl rfl eY_count_45 ?_
    refine go_bipush (pc := 46) (v := 6) (by decide) eY_count_46 ?_
    refine go_icmp_ge (pc := 48) 70 (by decide) eY_count_48 (fun c48 => ?_) (fun c48 => ?_)
    · exact absurd c48 (nI_ge (b := 6) (by omega) (by omega))
    · refine go_iload_n (pc := 51) 1 3 rfl rfl eY_count_51 ?_
      refine go_iconst (pc := 52) (v := 4) (by decide) eY_count_52 ?_
      refine go_icmp_ne (pc := 53) 70 (by decide) eY_count_53 (fun c53 => ?_) (fun c53 => ?_)
      · exact absurd rfl c53
      · refine go_iload_n (pc := 56) 2 1 rfl rfl eY_count_56 ?_
        refine go_aload_n (pc := 57) 0 2 rfl rfl eY_count_57 ?_
        refine go_iload_n (pc := 58) 3 0 rfl rfl eY_count_58 ?_
        refine go_rV (pc := 59) 6 (d_pagesOf hsm i (by omega)) okY_pagesOf lmY_50 eY_count_59 rfl rfl rfl rfl rfl (Nat.le_of_ble_eq_true rfl) (Nat.le_of_ble_eq_true rfl) ?_
        refine go_iadd (pc := 62) eY_count_62 ?_
        rw [nI_add]
        refine go_istore_n (pc := 63) (ls' := [(2, _), (3, _), (0, _), (1, _)]) 2 rfl (by decide) eY_count_63 rfl ?_
        refine go_iinc (pc := 64) (z := 1) (v := nI (i + 1)) (ls' := [(3, _), (2, _), (0, _), (1, _)]) 3 1 rfl (nI_1 i) (by decide) eY_count_64 rfl ?_
        refine go_goto (pc := 67) 45 (by decide) eY_count_67 ?_
        exact ih (i + 1) (by omega)
set_option maxRecDepth 100000 in
set_option maxHeartbeats 1000000 in
theorem d_count4 (hsm : ∀ k, sm k < 2 ^ 30) : Ret (gg D cI cB cL bb L xs) mY_count (n + 2) 0 0 [.ref hm, .int (nI 4)] (zW z0 z1 z2 z3 z4 z5 cI cB hm b1 b2 b3 b4 cd F sx pd th sm u rest) (some (.int (nI (ypg sm 6)))) (zW z0 z1 z2 z3 z4 z5 cI cB hm b1 b2 b3 b4 0 F sx pd th sm u rest) := by
  intro Psi hf
  show Go _ _ _ _ _ 0 [(0, .ref hm), (1, .int (nI 4))] [] _ Psi
  refine go_aload_n (pc := 0) 0 0 rfl rfl eY_count_0 ?_
  refine go_iconst (pc := 1) (v := 0) (by decide) eY_count_1 ?_
  refine go_put (pc := 2) (ty := .int) (es' := (zW z0 z1 z2 z3 z4 z5 cI cB hm b1 b2 b3 b4 0 F sx pd th sm u rest)) hwY tyY tyY_ok nmY 6 rfl rfl 0 (by decide) lkY_27 rfl (by decide +kernel) rfl rfl (Nat.le_of_ble_eq_true rfl) eY_count_2 rfl ?_
  refine go_iconst (pc := 5) (v := 0) (by decide) eY_count_5 ?_
  refine go_istore_n (pc := 6) (ls' := [(2, _), (0, _), (1, _)]) 2 rfl (by decide) eY_count_6 rfl ?_
  refine go_iconst (pc := 7) (v := 1) (by decide) eY_count_7 ?_
  refine go_istore_n (pc := 8) (ls' := [(3, _), (2, _), (0, _), (1, _)]) 3 rfl (by decide) eY_count_8 rfl ?_
  refine go_iload_n (pc := 9) 3 0 rfl rfl eY_count_9 ?_
  refine go_bipush (pc := 10) (v := 8) (by decide) eY_count_10 ?_
  refine go_icmp_gt (pc := 12) 43 (by decide) eY_count_12 (fun c12 => ?_) (fun c12 => ?_)
  · exact absurd c12 (by decide)
  · refine go_iload_n (pc := 15) 1 3 rfl rfl eY_count_15 ?_
    refine go_iconst (pc := 16) (v := 3) (by decide) eY_count_16 ?_
    refine go_icmp_ne (pc := 17) 43 (by decide) eY_count_17 (fun c17 => ?_) (fun c17 => ?_)
    · refine go_iconst (pc := 43) (v := 0) (by decide) eY_count_43 ?_
      refine go_istore_n (pc := 44) (ls' := [(3, _), (2, _), (0, _), (1, _)]) 3 rfl (by decide) eY_count_44 rfl ?_
      exact k_cnt4 hsm hf 6 0 (by omega)
    · exact absurd c17 (by decide)
set_option maxRecDepth 100000 in
set_option maxHeartbeats 1000000 in
theorem d_count5 (x : Int32) (hx : ∀ j, j < 5 → x ≠ nI j) : Ret (gg D cI cB cL bb L xs) mY_count n 0 0 [.ref hm, .int (x)] (zW z0 z1 z2 z3 z4 z5 cI cB hm b1 b2 b3 b4 cd F sx pd th sm u rest) (some (.int (-1))) (zW z0 z1 z2 z3 z4 z5 cI cB hm b1 b2 b3 b4 0 F sx pd th sm u rest) := by
  intro Psi hf
  show Go _ _ _ _ _ 0 [(0, .ref hm), (1, .int (x))] [] _ Psi
  refine go_aload_n (pc := 0) 0 0 rfl rfl eY_count_0 ?_
  refine go_iconst (pc := 1) (v := 0) (by decide) eY_count_1 ?_
  refine go_put (pc := 2) (ty := .int) (es' := (zW z0 z1 z2 z3 z4 z5 cI cB hm b1 b2 b3 b4 0 F sx pd th sm u rest)) hwY tyY tyY_ok nmY 6 rfl rfl 0 (by decide) lkY_27 rfl (by decide +kernel) rfl rfl (Nat.le_of_ble_eq_true rfl) eY_count_2 rfl ?_
  refine go_iconst (pc := 5) (v := 0) (by decide) eY_count_5 ?_
  refine go_istore_n (pc := 6) (ls' := [(2, _), (0, _), (1, _)]) 2 rfl (by decide) eY_count_6 rfl ?_
  refine go_iconst (pc := 7) (v := 1) (by decide) eY_count_7 ?_
  refine go_istore_n (pc := 8) (ls' := [(3, _), (2, _), (0, _), (1, _)]) 3 rfl (by decide) eY_count_8 rfl ?_
  refine go_iload_n (pc := 9) 3 0 rfl rfl eY_count_9 ?_
  refine go_bipush (pc := 10) (v := 8) (by decide) eY_count_10 ?_
  refine go_icmp_gt (pc := 12) 43 (by decide) eY_count_12 (fun c12 => ?_) (fun c12 => ?_)
  · exact absurd c12 (by decide)
  · refine go_iload_n (pc := 15) 1 3 rfl rfl eY_count_15 ?_
    refine go_iconst (pc := 16) (v := 3) (by decide) eY_count_16 ?_
    refine go_icmp_ne (pc := 17) 43 (by decide) eY_count_17 (fun c17 => ?_) (fun c17 => ?_)
    · refine go_iconst (pc := 43) (v := 0) (by decide) eY_count_43 ?_
      refine go_istore_n (pc := 44) (ls' := [(3, _), (2, _), (0, _), (1, _)]) 3 rfl (by decide) eY_count_44 rfl ?_
      refine go_iload_n (pc := 45) 3 0 rfl rfl eY_count_45 ?_
      refine go_bipush (pc := 46) (v := 6) (by decide) eY_count_46 ?_
      refine go_icmp_ge (pc := 48) 70 (by decide) eY_count_48 (fun c48 => ?_) (fun c48 => ?_)
      · exact absurd c48 (by decide)
      · refine go_iload_n (pc := 51) 1 3 rfl rfl eY_count_51 ?_
        refine go_iconst (pc := 52) (v := 4) (by decide) eY_count_52 ?_
        refine go_icmp_ne (pc := 53) 70 (by decide) eY_count_53 (fun c53 => ?_) (fun c53 => ?_)
        · refine go_iload_n (pc := 70) 1 3 rfl rfl eY_count_70 ?_
          refine go_tout (pc := 71) 121 (tsw_out hx) (by decide) eY_count_71 ?_
          refine go_iconst (pc := 121) (v := (-1)) (by decide) eY_count_121 ?_
          exact go_iret (pc := 122) rfl rfl eY_count_122 (hf)
        · exact absurd c53 (hx 4 (by omega))
    · exact absurd c17 (hx 3 (by omega))
set_option maxRecDepth 100000 in
set_option maxHeartbeats 1000000 in
theorem k_af {f : Nat → Int32} (v : Int32) {Psi : gR → va_W → Prop} (hf : Psi (.inl none) (z0 :: z1 :: z2 :: (a3, .inl (cI, 432, .inl (va_cpy (fun _ => v) f 0 0 432))) :: rest)) : ∀ (m i : Nat), i + m = 432 → Go (gg D cI cB cL bb L xs) mJ_fill n 0 0 5 [(3, .int (nI 432)), (2, .int (nI i)), (0, .ref a3), (1, .int v)] [] (z0 :: z1 :: z2 :: (a3, .inl (cI, 432, .inl (va_cpy (fun _ => v) f 0 0 i))) :: rest) Psi := by
  intro m
  induction m with
  | zero =>
    intro i hi
    obtain rfl : i = 432 := by omega
    refine go_iload_n (pc := 5) 2 1 rfl rfl eJ_fill_5 ?_
    refine go_iload_n (pc := 6) 3 0 rfl rfl eJ_fill_6 ?_
    refine go_icmp_ge (pc := 7) 20 (by decide) eJ_fill_7 (fun c7 => ?_) (fun c7 => ?_)
    · exact go_vret (pc := 20) rfl eJ_fill_20 (hf)
    · exact absurd (nI_le (Nat.le_refl 432) (by omega)) c7
  | succ m ih =>
    intro i hi
    refine go_iload_n (pc := 5) 2 1 rfl rfl eJ_fill_5 ?_
    refine go_iload_n (pc := 6) 3 0 rfl rfl eJ_fill_6 ?_
    refine go_icmp_ge (pc := 7) 20 (by decide) eJ_fill_7 (fun c7 => ?_) (fun c7 => ?_)
    · exact absurd c7 (nI_ge (by omega) (by omega))
    · refine go_aload_n (pc := 10) 0 2 rfl rfl eJ_fill_10 ?_
      refine go_iload_n (pc := 11) 2 1 rfl rfl eJ_fill_11 ?_
      refine go_iload_n (pc := 12) 1 3 rfl rfl eJ_fill_12 ?_
      refine go_iastN (pc := 13) (es' := (z0 :: z1 :: z2 :: (a3, .inl (cI, 432, .inl (va_cpy (fun _ => v) f 0 0 (i + 1)))) :: rest)) 3 0 i eJ_fill_13 rfl rfl rfl (by omega) (by omega) (by rw [← cpy_up (f := fun _ => v) (d := 0), show 0 + i = i from by omega]; rfl) ?_
      refine go_iinc (pc := 14) (z := 1) (v := nI (i + 1)) (ls' := [(2, _), (3, _), (0, _), (1, _)]) 2 1 rfl (nI_1 i) (by decide) eJ_fill_14 rfl ?_
      refine go_goto (pc := 17) 5 (by decide) eJ_fill_17 ?_
      refine go_ls [1, 0, 2, 3] rfl ?_
      exact ih (i + 1) (by omega)
set_option maxRecDepth 100000 in
set_option maxHeartbeats 1000000 in
theorem c_af {f : Nat → Int32} (v : Int32) : Ret (gg D cI cB cL bb L xs) mJ_fill n 0 0 [.ref a3, .int v] (z0 :: z1 :: z2 :: (a3, .inl (cI, 432, .inl f)) :: rest) none (z0 :: z1 :: z2 :: (a3, .inl (cI, 432, .inl (va_cpy (fun _ => v) f 0 0 432))) :: rest) := by
  intro Psi hf
  show Go _ _ _ _ _ 0 [(0, .ref a3), (1, .int v)] [] _ Psi
  refine go_iconst (pc := 0) (v := 0) (by decide) eJ_fill_0 ?_
  refine go_istore_n (pc := 1) (ls' := [(2, _), (0, _), (1, _)]) 2 rfl (by decide) eJ_fill_1 rfl ?_
  refine go_aload_n (pc := 2) 0 1 rfl rfl eJ_fill_2 ?_
  refine go_alen (pc := 3) 3 0 eJ_fill_3 rfl rfl (v := nI 432) rfl ?_
  refine go_istore_n (pc := 4) (ls' := [(3, _), (2, _), (0, _), (1, _)]) 3 rfl (by decide) eJ_fill_4 rfl ?_
  refine go_es (es' := (z0 :: z1 :: z2 :: (a3, .inl (cI, 432, .inl (va_cpy (fun _ => v) f 0 0 0))) :: rest)) (by rw [cpy_0]) ?_
  exact k_af v hf 432 0 (by omega)
/-- both keep the same number of frames -/
theorem clampF (x : Int32) : ∃ F : Nat, 1 ≤ F ∧ F ≤ 60 ∧ (if (1 : Int32) < (if x < 60 then x else 60) then (if x < 60 then x else 60) else 1) = nI F ∧ ((x < 1 ∧ F = 1) ∨ (¬ x < 1 ∧ 60 < x ∧ F = 60) ∨ (¬ x < 1 ∧ ¬ 60 < x ∧ x = nI F)) := by
  rcases pk_ix x (n := 61) (by omega) with q | q | ⟨j, hj, q⟩
  · have h1 : x < 60 := Int32.lt_trans q (by decide)
    have h2 : ¬ (1 : Int32) < x := fun z => absurd (Int32.lt_trans q (by decide : (0 : Int32) < 1)) (Int32.lt_asymm z)
    exact ⟨1, by omega, by omega, by rw [if_pos h1, if_neg h2]; rfl, Or.inl ⟨Int32.lt_trans q (by decide), rfl⟩⟩
  · have h0 : (60 : Int32) < x := Int32.lt_of_lt_of_le (by decide : (60 : Int32) < nI 61) q
    have h1 : ¬ x < 60 := Int32.lt_asymm h0
    exact ⟨60, by omega, by omega, by rw [if_neg h1, if_pos (by decide)]; rfl, Or.inr (Or.inl ⟨fun z => h1 (Int32.lt_trans z (by decide)), h0, rfl⟩)⟩
  · subst q
    by_cases h1 : j = 0
    · subst h1
      exact ⟨1, by omega, by omega, by decide, Or.inl ⟨by decide, rfl⟩⟩
    · have e1 : ¬ nI j < 1 := fun z => by have := (nI_ltI (b := 1) (by omega) (by omega)).mp z; omega
      by_cases h2 : j = 60
      · subst h2
        exact ⟨60, by omega, by omega, by decide, Or.inr (Or.inr ⟨e1, by decide, rfl⟩)⟩
      · have h3 : nI j < 60 := (nI_ltI (b := 60) (by omega) (by omega)).mpr (by omega)
        have h4 : ¬ (60 : Int32) < nI j := Int32.lt_asymm h3
        refine ⟨j, by omega, by omega, ?_, Or.inr (Or.inr ⟨e1, h4, rfl⟩)⟩
        rw [if_pos h3]
        by_cases h5 : j = 1
        · subst h5; decide
        · rw [if_pos (show (1 : Int32) < nI j from (nI_ltI (a := 1) (b := j) (by omega) (by omega)).mpr (by omega))]
theorem hcnt_none (j : Nat) : hcnt (fun _ => none) j = 0 := gcnt_zero (fun k _ => rfl)
set_option maxRecDepth 100000 in
set_option maxHeartbeats 1000000 in
theorem c_init (x : Int32) (h1 : 1 ≤ F) (hF : F ≤ 60) (hx : (if (1 : Int32) < (if x < 60 then x else 60) then (if x < 60 then x else 60) else 1) = nI F) {Psi : gR → va_W → Prop} (hf : ∀ q1 q2 q3 q4 q5 : Nat, Psi (.inl none) (xW cI cB h q1 q2 q3 q4 q5 F (fun _ => 0) (fun _ => none) (fun _ => false) (fun _ => false) [])) : Go (gg D cI cB cL bb L xs) mX_init (n + 1) 5 1514 0 [(0, .ref h), (1, .int x)] [] [(h, .inr (0, [.int 0, .null, .null, .null, .null, .null]))] Psi := by
  refine go_aload_n (pc := 0) 0 0 rfl rfl eX_init_0 ?_
  refine go_obj (pc := 1) lmX_3 ob_in ob_co (Nat.le_of_ble_eq_true rfl) eX_init_1 ?_
  refine go_aload_n (pc := 4) 0 0 rfl rfl eX_init_4 ?_
  refine go_iconst (pc := 5) (v := 1) (by decide) eX_init_5 ?_
  refine go_bipush (pc := 6) (v := 60) (by decide) eX_init_6 ?_
  refine go_iload_n (pc := 8) 1 1 rfl rfl eX_init_8 ?_
  refine go_min (pc := 9) lmX_9 mmin_s ma_in mmin_c (Nat.le_of_ble_eq_true rfl) eX_init_9 ?_
  refine go_max (pc := 12) lmX_15 mmax_s ma_in mmax_c (Nat.le_of_ble_eq_true rfl) eX_init_12 ?_
  rw [hx]
  refine go_putF (pc := 15) (ty := .int) (es' := [(h, .inr (0, [.int (nI F), .null, .null, .null, .null, .null]))]) hwX tyX tyX_ok nmX 0 rfl rfl 0 (by decide) lkX_18 rfl rfl rfl (by decide +kernel) rfl rfl (Nat.le_of_ble_eq_true rfl) eX_init_15 rfl ?_
  refine go_aload_n (pc := 18) 0 0 rfl rfl eX_init_18 ?_
  refine go_aload_n (pc := 19) 0 0 rfl rfl eX_init_19 ?_
  refine go_get (pc := 20) hwX 0 rfl rfl 0 (by decide) lkX_18 rfl eX_init_20 ?_
  refine go_bipush (pc := 23) (v := 16) (by decide) eX_init_23 ?_
  refine go_imul (pc := 25) eX_init_25 ?_
  rw [show nI F * 16 = nI (F * 16) from by rw [show (16 : Int32) = nI 16 from rfl, pk_mul]]
  refine go_newa (pc := 26) (mc' := 4) (ms' := 554) (N := F * 16) (F * 16, .inl (fun _ => 0)) 0 rfl rfl ar_int (fun _ => rfl) (nI_pos (by omega)) (nI_clamp (by omega)) (by show F * 16 * _ ≤ _; simp only [componentBytes]; omega) (by omega) (by omega) eX_init_26 (fun q1 => ?_)
  refine go_putF (pc := 28) (ty := .array .int) (es' := [(h, .inr (0, [.int (nI F), .ref q1, .null, .null, .null, .null])), (q1, .inl (cI, F * 16, .inl (fun _ => 0)))]) hwX tyX tyX_ok nmX 0 rfl rfl 1 (by decide) lkX_22 rfl rfl rfl (by decide +kernel) rfl rfl (Nat.le_of_ble_eq_true rfl) eX_init_28 rfl ?_
  refine go_aload_n (pc := 31) 0 0 rfl rfl eX_init_31 ?_
  refine go_aload_n (pc := 32) 0 0 rfl rfl eX_init_32 ?_
  refine go_get (pc := 33) hwX 0 rfl rfl 0 (by decide) lkX_18 rfl eX_init_33 ?_
  refine go_newa (pc := 36) (mc' := 3) (ms' := 494) (N := F) (F, .inl (fun _ => 0)) 0 rfl rfl ar_int (fun _ => rfl) (nI_pos (by omega)) (nI_clamp (by omega)) (by show F * _ ≤ _; simp only [componentBytes]; omega) (by omega) (by omega) eX_init_36 (fun q2 => ?_)
  refine go_putF (pc := 38) (ty := .array .int) (es' := [(h, .inr (0, [.int (nI F), .ref q1, .ref q2, .null, .null, .null])), (q1, .inl (cI, F * 16, .inl (fun _ => 0))), (q2, .inl (cI, F, .inl (fun _ => 0)))]) hwX tyX tyX_ok nmX 0 rfl rfl 2 (by decide) lkX_26 rfl rfl rfl (by decide +kernel) rfl rfl (Nat.le_of_ble_eq_true rfl) eX_init_38 rfl ?_
  refine go_aload_n (pc := 41) 0 0 rfl rfl eX_init_41 ?_
  refine go_sipush (pc := 42) (v := 432) (by decide) eX_init_42 ?_
  refine go_newa (pc := 45) (mc' := 2) (ms' := 62) (N := 432) (432, .inl (fun _ => 0)) 0 rfl rfl ar_int (fun _ => rfl) (by decide) (by decide) (by show 432 * _ ≤ _; simp only [componentBytes]; omega) (by omega) (by omega) eX_init_45 (fun q3 => ?_)
  refine go_putF (pc := 47) (ty := .array .int) (es' := [(h, .inr (0, [.int (nI F), .ref q1, .ref q2, .ref q3, .null, .null])), (q1, .inl (cI, F * 16, .inl (fun _ => 0))), (q2, .inl (cI, F, .inl (fun _ => 0))), (q3, .inl (cI, 432, .inl (fun _ => 0)))]) hwX tyX tyX_ok nmX 0 rfl rfl 3 (by decide) lkX_29 rfl rfl rfl (by decide +kernel) rfl rfl (Nat.le_of_ble_eq_true rfl) eX_init_47 rfl ?_
  refine go_aload_n (pc := 50) 0 0 rfl rfl eX_init_50 ?_
  refine go_get (pc := 51) hwX 0 rfl rfl 3 (by decide) lkX_29 rfl eX_init_51 ?_
  refine go_iconst (pc := 54) (v := (-1)) (by decide) eX_init_54 ?_
  refine go_rS0 (pc := 55) (c_af (-1)) okJ_fill lmX_32 eX_init_55 rfl rfl (Nat.le_of_ble_eq_true rfl) (Nat.le_of_ble_eq_true rfl) ?_
  refine go_less (mc' := 2) (ms' := 62) (by omega) (by omega) ?_
  refine go_aload_n (pc := 58) 0 0 rfl rfl eX_init_58 ?_
  refine go_bipush (pc := 59) (v := 54) (by decide) eX_init_59 ?_
  refine go_newa (pc := 61) (mc' := 1) (ms' := 8) (N := 54) (54, .inl (fun _ => 0)) 1 rfl rfl ar_boolean (fun _ => rfl) (by decide) (by decide) (by show 54 * _ ≤ _; simp only [componentBytes]; omega) (by omega) (by omega) eX_init_61 (fun q4 => ?_)
  refine go_putF (pc := 63) (ty := .array .boolean) (es' := [(h, .inr (0, [.int (nI F), .ref q1, .ref q2, .ref q3, .ref q4, .null])), (q1, .inl (cI, F * 16, .inl (fun _ => 0))), (q2, .inl (cI, F, .inl (fun _ => 0))), (q3, .inl (cI, 432, .inl (va_cpy (fun _ => -1) (fun _ => 0) 0 0 432))), (q4, .inl (cB, 54, .inl (fun _ => 0)))]) hwX tyX tyX_ok nmX 0 rfl rfl 4 (by decide) lkX_38 rfl rfl rfl (by decide +kernel) rfl rfl (Nat.le_of_ble_eq_true rfl) eX_init_63 rfl ?_
  refine go_aload_n (pc := 66) 0 0 rfl rfl eX_init_66 ?_
  refine go_bipush (pc := 67) (v := 8) (by decide) eX_init_67 ?_
  refine go_newa (pc := 69) (mc' := 0) (ms' := 0) (N := 8) (8, .inl (fun _ => 0)) 1 rfl rfl ar_boolean (fun _ => rfl) (by decide) (by decide) (by show 8 * _ ≤ _; simp only [componentBytes]; omega) (by omega) (by omega) eX_init_69 (fun q5 => ?_)
  refine go_putF (pc := 71) (ty := .array .boolean) (es' := [(h, .inr (0, [.int (nI F), .ref q1, .ref q2, .ref q3, .ref q4, .ref q5])), (q1, .inl (cI, F * 16, .inl (fun _ => 0))), (q2, .inl (cI, F, .inl (fun _ => 0))), (q3, .inl (cI, 432, .inl (va_cpy (fun _ => -1) (fun _ => 0) 0 0 432))), (q4, .inl (cB, 54, .inl (fun _ => 0))), (q5, .inl (cB, 8, .inl (fun _ => 0)))]) hwX tyX tyX_ok nmX 0 rfl rfl 5 (by decide) lkX_42 rfl rfl rfl (by decide +kernel) rfl rfl (Nat.le_of_ble_eq_true rfl) eX_init_71 rfl ?_
  refine go_ext (f' := fun k => oI ((fun _ => none : Nat → Option Nat) k)) 3 rfl (fun j hj => by simp only [va_cpy]; rw [if_pos (by omega)]; rfl) rfl ?_
  refine go_ext (f' := fun j => nI (hcnt (fun _ => none) j)) 2 rfl (fun j hj => by rw [hcnt_none]; rfl) rfl ?_
  exact go_vret (pc := 74) rfl eX_init_74 (hf q1 q2 q3 q4 q5)
set_option maxRecDepth 100000 in
set_option maxHeartbeats 1000000 in
theorem d_init (x : Int32) (h1 : 1 ≤ F) (hF : F ≤ 60) (hx : (x < 1 ∧ F = 1) ∨ (¬ x < 1 ∧ 60 < x ∧ F = 60) ∨ (¬ x < 1 ∧ ¬ 60 < x ∧ x = nI F)) {Psi : gR → va_W → Prop} (hf : ∀ q1 q2 q3 q4 : Nat, Psi (.inl none) (zW z0 z1 z2 z3 z4 z5 cI cB hm q1 q2 q3 q4 0 F 0 (va_up (fun _ => false) 0 true) (fun _ => false) (fun _ => 0) (fun _ => 0) [])) : Go (gg D cI cB cL bb L xs) mY_init (n + 1) 4 7407 0 [(0, .ref hm), (1, .int x)] [] (z0 :: z1 :: z2 :: z3 :: z4 :: z5 :: [(hm, .inr (1, [.int 0, .int 0, .int 0, .null, .null, .null, .null]))]) Psi := by
  refine go_aload_n (pc := 0) 0 0 rfl rfl eY_init_0 ?_
  refine go_obj (pc := 1) lmY_1 ob_in ob_co (Nat.le_of_ble_eq_true rfl) eY_init_1 ?_
  refine go_aload_n (pc := 4) 0 0 rfl rfl eY_init_4 ?_
  refine go_bipush (pc := 5) (v := 9) (by decide) eY_init_5 ?_
  refine go_newa (pc := 7) (mc' := 3) (ms' := 7398) (N := 9) (9, .inl (fun _ => 0)) 1 rfl rfl ar_boolean (fun _ => rfl) (by decide) (by decide) (by show 9 * _ ≤ _; simp only [componentBytes]; omega) (by omega) (by omega) eY_init_7 (fun q1 => ?_)
  refine go_putF (pc := 9) (ty := .array .boolean) (es' := (z0 :: z1 :: z2 :: z3 :: z4 :: z5 :: [(hm, .inr (1, [.int 0, .int 0, .int 0, .ref q1, .null, .null, .null])), (q1, .inl (cB, 9, .inl (fun _ => 0)))])) hwY tyY tyY_ok nmY 6 rfl rfl 3 (by decide) lkY_7 rfl rfl rfl (by decide +kernel) rfl rfl (Nat.le_of_ble_eq_true rfl) eY_init_9 rfl ?_
  refine go_aload_n (pc := 12) 0 0 rfl rfl eY_init_12 ?_
  refine go_bipush (pc := 13) (v := 54) (by decide) eY_init_13 ?_
  refine go_newa (pc := 15) (mc' := 2) (ms' := 7344) (N := 54) (54, .inl (fun _ => 0)) 1 rfl rfl ar_boolean (fun _ => rfl) (by decide) (by decide) (by show 54 * _ ≤ _; simp only [componentBytes]; omega) (by omega) (by omega) eY_init_15 (fun q2 => ?_)
  refine go_putF (pc := 17) (ty := .array .boolean) (es' := (z0 :: z1 :: z2 :: z3 :: z4 :: z5 :: [(hm, .inr (1, [.int 0, .int 0, .int 0, .ref q1, .ref q2, .null, .null])), (q1, .inl (cB, 9, .inl (fun _ => 0))), (q2, .inl (cB, 54, .inl (fun _ => 0)))])) hwY tyY tyY_ok nmY 6 rfl rfl 4 (by decide) lkY_13 rfl rfl rfl (by decide +kernel) rfl rfl (Nat.le_of_ble_eq_true rfl) eY_init_17 rfl ?_
  refine go_aload_n (pc := 20) 0 0 rfl rfl eY_init_20 ?_
  refine go_sipush (pc := 21) (v := 432) (by decide) eY_init_21 ?_
  refine go_newa (pc := 24) (mc' := 1) (ms' := 6912) (N := 432) (432, .inl (fun _ => 0)) 0 rfl rfl ar_int (fun _ => rfl) (by decide) (by decide) (by show 432 * _ ≤ _; simp only [componentBytes]; omega) (by omega) (by omega) eY_init_24 (fun q3 => ?_)
  refine go_putF (pc := 26) (ty := .array .int) (es' := (z0 :: z1 :: z2 :: z3 :: z4 :: z5 :: [(hm, .inr (1, [.int 0, .int 0, .int 0, .ref q1, .ref q2, .ref q3, .null])), (q1, .inl (cB, 9, .inl (fun _ => 0))), (q2, .inl (cB, 54, .inl (fun _ => 0))), (q3, .inl (cI, 432, .inl (fun _ => 0)))])) hwY tyY tyY_ok nmY 6 rfl rfl 5 (by decide) lkY_16 rfl rfl rfl (by decide +kernel) rfl rfl (Nat.le_of_ble_eq_true rfl) eY_init_26 rfl ?_
  refine go_aload_n (pc := 29) 0 0 rfl rfl eY_init_29 ?_
  refine go_sipush (pc := 30) (v := 6912) (by decide) eY_init_30 ?_
  refine go_newa (pc := 33) (mc' := 0) (ms' := 0) (N := 6912) (6912, .inl (fun _ => 0)) 0 rfl rfl ar_int (fun _ => rfl) (by decide) (by decide) (by show 6912 * _ ≤ _; simp only [componentBytes]; omega) (by omega) (by omega) eY_init_33 (fun q4 => ?_)
  refine go_putF (pc := 35) (ty := .array .int) (es' := (z0 :: z1 :: z2 :: z3 :: z4 :: z5 :: [(hm, .inr (1, [.int 0, .int 0, .int 0, .ref q1, .ref q2, .ref q3, .ref q4])), (q1, .inl (cB, 9, .inl (fun _ => 0))), (q2, .inl (cB, 54, .inl (fun _ => 0))), (q3, .inl (cI, 432, .inl (fun _ => 0))), (q4, .inl (cI, 6912, .inl (fun _ => 0)))])) hwY tyY tyY_ok nmY 6 rfl rfl 6 (by decide) lkY_20 rfl rfl rfl (by decide +kernel) rfl rfl (Nat.le_of_ble_eq_true rfl) eY_init_35 rfl ?_
  refine go_aload_n (pc := 38) 0 0 rfl rfl eY_init_38 ?_
  refine go_iload_n (pc := 39) 1 1 rfl rfl eY_init_39 ?_
  refine go_iconst (pc := 40) (v := 1) (by decide) eY_init_40 ?_
  refine go_icmp_ge (pc := 41) 48 (by decide) eY_init_41 (fun c41 => ?_) (fun c41 => ?_)
  · refine go_iload_n (pc := 48) 1 1 rfl rfl eY_init_48 ?_
    refine go_bipush (pc := 49) (v := 60) (by decide) eY_init_49 ?_
    refine go_icmp_le (pc := 51) 59 (by decide) eY_init_51 (fun c51 => ?_) (fun c51 => ?_)
    · refine go_iload_n (pc := 59) 1 1 rfl rfl eY_init_59 ?_
      rw [show x = nI F from by rcases hx with ⟨q, -⟩ | ⟨-, q, -⟩ | ⟨-, -, q⟩; exact absurd q (Int32.not_lt.mpr c41); exact absurd q (Int32.not_lt.mpr c51); exact q]
      refine go_putF (pc := 60) (ty := .int) (es' := (z0 :: z1 :: z2 :: z3 :: z4 :: z5 :: [(hm, .inr (1, [.int 0, .int (nI F), .int 0, .ref q1, .ref q2, .ref q3, .ref q4])), (q1, .inl (cB, 9, .inl (fun _ => 0))), (q2, .inl (cB, 54, .inl (fun _ => 0))), (q3, .inl (cI, 432, .inl (fun _ => 0))), (q4, .inl (cI, 6912, .inl (fun _ => 0)))])) hwY tyY tyY_ok nmY 6 rfl rfl 1 (by decide) lkY_23 rfl rfl rfl (by decide +kernel) rfl rfl (Nat.le_of_ble_eq_true rfl) eY_init_60 rfl ?_
      refine go_aload_n (pc := 63) 0 0 rfl rfl eY_init_63 ?_
      refine go_get (pc := 64) hwY 6 rfl rfl 3 (by decide) lkY_7 rfl eY_init_64 ?_
      refine go_iconst (pc := 67) (v := 0) (by decide) eY_init_67 ?_
      refine go_iconst (pc := 68) (v := 1) (by decide) eY_init_68 ?_
      refine go_zastN (pc := 69) (es' := zW z0 z1 z2 z3 z4 z5 cI cB hm q1 q2 q3 q4 0 F 0 (va_up (fun _ => false) 0 true) (fun _ => false) (fun _ => 0) (fun _ => 0) []) 7 1 0 eY_init_69 rfl rfl rfl (by omega) (by omega) (ys7 (upd_b (sp := fun _ => false) (b := true) rfl)) ?_
      exact go_vret (pc := 70) rfl eY_init_70 (hf q1 q2 q3 q4)
    · refine go_bipush (pc := 54) (v := 60) (by decide) eY_init_54 ?_
      refine go_goto (pc := 56) 60 (by decide) eY_init_56 ?_
      rw [show (60 : Int32) = nI F from by rcases hx with ⟨q, -⟩ | ⟨-, -, q⟩ | ⟨-, q, -⟩; exact absurd q (Int32.not_lt.mpr c41); rw [q]; rfl; exact absurd (Int32.not_le.mp c51) q]
      refine go_putF (pc := 60) (ty := .int) (es' := (z0 :: z1 :: z2 :: z3 :: z4 :: z5 :: [(hm, .inr (1, [.int 0, .int (nI F), .int 0, .ref q1, .ref q2, .ref q3, .ref q4])), (q1, .inl (cB, 9, .inl (fun _ => 0))), (q2, .inl (cB, 54, .inl (fun _ => 0))), (q3, .inl (cI, 432, .inl (fun _ => 0))), (q4, .inl (cI, 6912, .inl (fun _ => 0)))])) hwY tyY tyY_ok nmY 6 rfl rfl 1 (by decide) lkY_23 rfl rfl rfl (by decide +kernel) rfl rfl (Nat.le_of_ble_eq_true rfl) eY_init_60 rfl ?_
      refine go_aload_n (pc := 63) 0 0 rfl rfl eY_init_63 ?_
      refine go_get (pc := 64) hwY 6 rfl rfl 3 (by decide) lkY_7 rfl eY_init_64 ?_
      refine go_iconst (pc := 67) (v := 0) (by decide) eY_init_67 ?_
      refine go_iconst (pc := 68) (v := 1) (by decide) eY_init_68 ?_
      refine go_zastN (pc := 69) (es' := zW z0 z1 z2 z3 z4 z5 cI cB hm q1 q2 q3 q4 0 F 0 (va_up (fun _ => false) 0 true) (fun _ => false) (fun _ => 0) (fun _ => 0) []) 7 1 0 eY_init_69 rfl rfl rfl (by omega) (by omega) (ys7 (upd_b (sp := fun _ => false) (b := true) rfl)) ?_
      exact go_vret (pc := 70) rfl eY_init_70 (hf q1 q2 q3 q4)
  · refine go_iconst (pc := 44) (v := 1) (by decide) eY_init_44 ?_
    refine go_goto (pc := 45) 60 (by decide) eY_init_45 ?_
    rw [show (1 : Int32) = nI F from by rcases hx with ⟨-, q⟩ | ⟨q, -⟩ | ⟨q, -⟩; rw [q]; rfl; exact absurd (Int32.not_le.mp c41) q; exact absurd (Int32.not_le.mp c41) q]
    refine go_putF (pc := 60) (ty := .int) (es' := (z0 :: z1 :: z2 :: z3 :: z4 :: z5 :: [(hm, .inr (1, [.int 0, .int (nI F), .int 0, .ref q1, .ref q2, .ref q3, .ref q4])), (q1, .inl (cB, 9, .inl (fun _ => 0))), (q2, .inl (cB, 54, .inl (fun _ => 0))), (q3, .inl (cI, 432, .inl (fun _ => 0))), (q4, .inl (cI, 6912, .inl (fun _ => 0)))])) hwY tyY tyY_ok nmY 6 rfl rfl 1 (by decide) lkY_23 rfl rfl rfl (by decide +kernel) rfl rfl (Nat.le_of_ble_eq_true rfl) eY_init_60 rfl ?_
    refine go_aload_n (pc := 63) 0 0 rfl rfl eY_init_63 ?_
    refine go_get (pc := 64) hwY 6 rfl rfl 3 (by decide) lkY_7 rfl eY_init_64 ?_
    refine go_iconst (pc := 67) (v := 0) (by decide) eY_init_67 ?_
    refine go_iconst (pc := 68) (v := 1) (by decide) eY_init_68 ?_
    refine go_zastN (pc := 69) (es' := zW z0 z1 z2 z3 z4 z5 cI cB hm q1 q2 q3 q4 0 F 0 (va_up (fun _ => false) 0 true) (fun _ => false) (fun _ => 0) (fun _ => 0) []) 7 1 0 eY_init_69 rfl rfl rfl (by omega) (by omega) (ys7 (upd_b (sp := fun _ => false) (b := true) rfl)) ?_
    exact go_vret (pc := 70) rfl eY_init_70 (hf q1 q2 q3 q4)
end S14
