section Sya
variable {D : va_G} {cI cB cL : ClassId} {bb L : Nat} {xs : Nat → Int32} {n hm b1 b2 b3 b4 F sx : Nat} {cd : Int32} {pd th : Nat → Bool} {sm : Nat → Nat} {u : Nat → Int32} {z0 z1 z2 z3 z4 z5 : Nat × va_E} {rest es : va_W}
set_option maxRecDepth 100000 in
set_option maxHeartbeats 1000000 in
theorem d_thrown  : Ret (gg D cI cB cL bb L xs) mY_thrown n 0 0 [.ref hm] (zW z0 z1 z2 z3 z4 z5 cI cB hm b1 b2 b3 b4 cd F sx pd th sm u rest) (some (.int (cd))) (zW z0 z1 z2 z3 z4 z5 cI cB hm b1 b2 b3 b4 cd F sx pd th sm u rest) := by
  intro Psi hf
  show Go _ _ _ _ _ 0 [(0, .ref hm)] [] _ Psi
  refine go_aload_n (pc := 0) 0 0 rfl rfl eY_thrown_0 ?_
  refine go_get (pc := 1) hwY 6 rfl rfl 0 (by decide) lkY_27 rfl eY_thrown_1 ?_
  exact go_iret (pc := 4) rfl rfl eY_thrown_4 (hf)
set_option maxRecDepth 100000 in
set_option maxHeartbeats 1000000 in
theorem d_page (r s p : Nat) : Ret (gg D cI cB cL bb L xs) mY_page n 0 0 [.int (nI r), .int (nI s), .int (nI p)] es (some (.int (nI (8 * (6 * r + s) + p)))) es := by
  intro Psi hf
  show Go _ _ _ _ _ 0 [(0, .int (nI r)), (1, .int (nI s)), (2, .int (nI p))] [] _ Psi
  refine go_bipush (pc := 0) (v := 8) (by decide) eY_page_0 ?_
  refine go_bipush (pc := 2) (v := 6) (by decide) eY_page_2 ?_
  refine go_iload_n (pc := 4) 0 0 rfl rfl eY_page_4 ?_
  refine go_imul (pc := 5) eY_page_5 ?_
  refine go_iload_n (pc := 6) 1 1 rfl rfl eY_page_6 ?_
  refine go_iadd (pc := 7) eY_page_7 ?_
  refine go_imul (pc := 8) eY_page_8 ?_
  refine go_iload_n (pc := 9) 2 2 rfl rfl eY_page_9 ?_
  refine go_iadd (pc := 10) eY_page_10 ?_
  exact go_iret (pc := 11) rfl rfl eY_page_11 (by rw [← nI_add, ← pk_mul, ← nI_add, ← pk_mul] at hf; exact hf)
theorem d_page0 (s p : Nat) : Ret (gg D cI cB cL bb L xs) mY_page n 0 0 [.int 0, .int (nI s), .int (nI p)] es (some (.int (nI (8 * s + p)))) es := by
  have h := d_page (D := D) (cI := cI) (cB := cB) (cL := cL) (bb := bb) (L := L) (xs := xs) (n := n) (es := es) 0 s p
  rw [show 8 * (6 * 0 + s) + p = 8 * s + p from by omega] at h
  exact h
set_option maxRecDepth 100000 in
set_option maxHeartbeats 1000000 in
theorem d_isSpaceA (s : Nat) (hs : s < 6) : Ret (gg D cI cB cL bb L xs) mY_isSpace n 0 0 [.ref hm, .int (nI s)] (zW z0 z1 z2 z3 z4 z5 cI cB hm b1 b2 b3 b4 cd F sx pd th sm u rest) (some (.int (bI (th s)))) (zW z0 z1 z2 z3 z4 z5 cI cB hm b1 b2 b3 b4 cd F sx pd th sm u rest) := by
  intro Psi hf
  show Go _ _ _ _ _ 0 [(0, .ref hm), (1, .int (nI s))] [] _ Psi
  refine go_iload_n (pc := 0) 1 1 rfl rfl eY_isSpace_0 ?_
  refine go_if_lt (pc := 1) 23 (by decide) eY_isSpace_1 (fun c1 => ?_) (fun c1 => ?_)
  · exact absurd c1 (nI_pos (by omega))
  · refine go_iload_n (pc := 4) 1 1 rfl rfl eY_isSpace_4 ?_
    refine go_bipush (pc := 5) (v := 6) (by decide) eY_isSpace_5 ?_
    refine go_icmp_ge (pc := 7) 23 (by decide) eY_isSpace_7 (fun c7 => ?_) (fun c7 => ?_)
    · exact absurd c7 (nI_ge (b := 6) (by omega) (by omega))
    · refine go_aload_n (pc := 10) 0 0 rfl rfl eY_isSpace_10 ?_
      refine go_get (pc := 11) hwY 6 rfl rfl 4 (by decide) lkY_13 rfl eY_isSpace_11 ?_
      refine go_iload_n (pc := 14) 1 1 rfl rfl eY_isSpace_14 ?_
      refine go_zaldN (pc := 15) 8 1 (s) eY_isSpace_15 rfl rfl (rfl) (by omega) (by omega) ?_
      refine go_if_eq (pc := 16) 23 (by decide) eY_isSpace_16 (fun c16 => ?_) (fun c16 => ?_)
      · rw [bI0.mp c16] at hf
        refine go_iconst (pc := 23) (v := 0) (by decide) eY_isSpace_23 ?_
        exact go_iret (pc := 24) rfl rfl eY_isSpace_24 (hf)
      · rw [bI1 c16] at hf
        refine go_iconst (pc := 19) (v := 1) (by decide) eY_isSpace_19 ?_
        refine go_goto (pc := 20) 24 (by decide) eY_isSpace_20 ?_
        exact go_iret (pc := 24) rfl rfl eY_isSpace_24 (hf)
theorem d_isSpaceT (s : Nat) (hs : s < 6) (hth : th s = true) : Ret (gg D cI cB cL bb L xs) mY_isSpace n 0 0 [.ref hm, .int (nI s)] (zW z0 z1 z2 z3 z4 z5 cI cB hm b1 b2 b3 b4 cd F sx pd th sm u rest) (some (.int 1)) (zW z0 z1 z2 z3 z4 z5 cI cB hm b1 b2 b3 b4 cd F sx pd th sm u rest) := by
  have h := d_isSpaceA (D := D) (cI := cI) (cB := cB) (cL := cL) (bb := bb) (L := L) (xs := xs) (n := n) (hm := hm) (b1 := b1) (b2 := b2) (b3 := b3) (b4 := b4) (F := F) (sx := sx) (cd := cd) (pd := pd) (th := th) (sm := sm) (u := u) (z0 := z0) (z1 := z1) (z2 := z2) (z3 := z3) (z4 := z4) (z5 := z5) (rest := rest) s hs
  rw [hth] at h
  exact h
set_option maxRecDepth 100000 in
set_option maxHeartbeats 1000000 in
theorem d_isSpaceF (x : Int32) (hx : ∀ j, j < 6 → x = nI j → th j = false) : Ret (gg D cI cB cL bb L xs) mY_isSpace n 0 0 [.ref hm, .int (x)] (zW z0 z1 z2 z3 z4 z5 cI cB hm b1 b2 b3 b4 cd F sx pd th sm u rest) (some (.int (0))) (zW z0 z1 z2 z3 z4 z5 cI cB hm b1 b2 b3 b4 cd F sx pd th sm u rest) := by
  intro Psi hf
  show Go _ _ _ _ _ 0 [(0, .ref hm), (1, .int (x))] [] _ Psi
  refine go_iload_n (pc := 0) 1 1 rfl rfl eY_isSpace_0 ?_
  refine go_if_lt (pc := 1) 23 (by decide) eY_isSpace_1 (fun c1 => ?_) (fun c1 => ?_)
  · refine go_iconst (pc := 23) (v := 0) (by decide) eY_isSpace_23 ?_
    exact go_iret (pc := 24) rfl rfl eY_isSpace_24 (hf)
  · refine go_iload_n (pc := 4) 1 1 rfl rfl eY_isSpace_4 ?_
    refine go_bipush (pc := 5) (v := 6) (by decide) eY_isSpace_5 ?_
    refine go_icmp_ge (pc := 7) 23 (by decide) eY_isSpace_7 (fun c7 => ?_) (fun c7 => ?_)
    · refine go_iconst (pc := 23) (v := 0) (by decide) eY_isSpace_23 ?_
      exact go_iret (pc := 24) rfl rfl eY_isSpace_24 (hf)
    · obtain ⟨j, hj, rfl⟩ : ∃ j, j < 6 ∧ x = nI j := by
        rcases pk_ix x (n := 6) (by omega) with q | q | q
        · exact absurd q c1
        · exact absurd q c7
        · exact q
      refine go_aload_n (pc := 10) 0 0 rfl rfl eY_isSpace_10 ?_
      refine go_get (pc := 11) hwY 6 rfl rfl 4 (by decide) lkY_13 rfl eY_isSpace_11 ?_
      refine go_iload_n (pc := 14) 1 1 rfl rfl eY_isSpace_14 ?_
      refine go_zaldN (pc := 15) 8 1 (j) eY_isSpace_15 rfl rfl (rfl) (by omega) (by omega) ?_
      refine go_if_eq (pc := 16) 23 (by decide) eY_isSpace_16 (fun c16 => ?_) (fun c16 => ?_)
      · refine go_iconst (pc := 23) (v := 0) (by decide) eY_isSpace_23 ?_
        exact go_iret (pc := 24) rfl rfl eY_isSpace_24 (hf)
      · exact absurd (bI0.mpr (hx j hj rfl)) c16
set_option maxRecDepth 100000 in
set_option maxHeartbeats 1000000 in
theorem d_isPageT (p : Nat) (hp : p < 8) : Ret (gg D cI cB cL bb L xs) mY_isPage n 0 0 [.int (nI p)] es (some (.int (1))) es := by
  intro Psi hf
  show Go _ _ _ _ _ 0 [(0, .int (nI p))] [] _ Psi
  refine go_iload_n (pc := 0) 0 0 rfl rfl eY_isPage_0 ?_
  refine go_if_lt (pc := 1) 14 (by decide) eY_isPage_1 (fun c1 => ?_) (fun c1 => ?_)
  · exact absurd c1 (nI_pos (by omega))
  · refine go_iload_n (pc := 4) 0 0 rfl rfl eY_isPage_4 ?_
    refine go_bipush (pc := 5) (v := 8) (by decide) eY_isPage_5 ?_
    refine go_icmp_ge (pc := 7) 14 (by decide) eY_isPage_7 (fun c7 => ?_) (fun c7 => ?_)
    · exact absurd c7 (nI_ge (b := 8) (by omega) (by omega))
    · refine go_iconst (pc := 10) (v := 1) (by decide) eY_isPage_10 ?_
      refine go_goto (pc := 11) 15 (by decide) eY_isPage_11 ?_
      exact go_iret (pc := 15) rfl rfl eY_isPage_15 (hf)
set_option maxRecDepth 100000 in
set_option maxHeartbeats 1000000 in
theorem d_isPageF (y : Int32) (hy : ∀ j, j < 8 → y ≠ nI j) : Ret (gg D cI cB cL bb L xs) mY_isPage n 0 0 [.int (y)] es (some (.int (0))) es := by
  intro Psi hf
  show Go _ _ _ _ _ 0 [(0, .int (y))] [] _ Psi
  refine go_iload_n (pc := 0) 0 0 rfl rfl eY_isPage_0 ?_
  refine go_if_lt (pc := 1) 14 (by decide) eY_isPage_1 (fun c1 => ?_) (fun c1 => ?_)
  · refine go_iconst (pc := 14) (v := 0) (by decide) eY_isPage_14 ?_
    exact go_iret (pc := 15) rfl rfl eY_isPage_15 (hf)
  · refine go_iload_n (pc := 4) 0 0 rfl rfl eY_isPage_4 ?_
    refine go_bipush (pc := 5) (v := 8) (by decide) eY_isPage_5 ?_
    refine go_icmp_ge (pc := 7) 14 (by decide) eY_isPage_7 (fun c7 => ?_) (fun c7 => ?_)
    · refine go_iconst (pc := 14) (v := 0) (by decide) eY_isPage_14 ?_
      exact go_iret (pc := 15) rfl rfl eY_isPage_15 (hf)
    · rcases pk_ix y (n := 8) (by omega) with q | q | ⟨j, hj, q⟩
      · exact absurd q c1
      · exact absurd q c7
      · exact absurd q (hy j hj)
theorem d_isPage (y : Int32) : ∃ b : Int32, (b = 0 ∨ b = 1) ∧ ∀ (n : Nat) (es : va_W), Ret (gg D cI cB cL bb L xs) mY_isPage n 0 0 [.int y] es (some (.int b)) es := by
  rcases pk_ix y (n := 8) (by omega) with q | q | ⟨j, hj, q⟩
  · exact ⟨0, Or.inl rfl, fun n es => d_isPageF y (fun j hj e => nI_pos (n := j) (by omega) (e ▸ q))⟩
  · exact ⟨0, Or.inl rfl, fun n es => d_isPageF y (fun j hj e => nI_ge (a := j) (b := 8) hj (by omega) (e ▸ q))⟩
  · exact ⟨1, Or.inr rfl, fun n es => by rw [q]; exact d_isPageT j hj⟩
set_option maxRecDepth 100000 in
set_option maxHeartbeats 1000000 in
theorem d_fails1 (y z : Int32) : Ret (gg D cI cB cL bb L xs) mY_fails n 0 0 [.ref hm, .int (1), .int (y), .int (z)] (zW z0 z1 z2 z3 z4 z5 cI cB hm b1 b2 b3 b4 cd F sx pd th sm u rest) (some (.int (1))) (zW z0 z1 z2 z3 z4 z5 cI cB hm b1 b2 b3 b4 1 F sx pd th sm u rest) := by
  intro Psi hf
  show Go _ _ _ _ _ 0 [(0, .ref hm), (1, .int (1)), (2, .int (y)), (3, .int (z))] [] _ Psi
  refine go_aload_n (pc := 0) 0 0 rfl rfl eY_fails_0 ?_
  refine go_iload_n (pc := 1) 1 1 rfl rfl eY_fails_1 ?_
  refine go_if_eq (pc := 2) 9 (by decide) eY_fails_2 (fun c2 => ?_) (fun c2 => ?_)
  · exact absurd c2 (by decide)
  · refine go_iconst (pc := 5) (v := 1) (by decide) eY_fails_5 ?_
    refine go_goto (pc := 6) 26 (by decide) eY_fails_6 ?_
    refine go_put (pc := 26) (ty := .int) (es' := (zW z0 z1 z2 z3 z4 z5 cI cB hm b1 b2 b3 b4 1 F sx pd th sm u rest)) hwY tyY tyY_ok nmY 6 rfl rfl 0 (by decide) lkY_27 rfl (by decide +kernel) rfl rfl (Nat.le_of_ble_eq_true rfl) eY_fails_26 rfl ?_
    refine go_aload_n (pc := 29) 0 0 rfl rfl eY_fails_29 ?_
    refine go_get (pc := 30) hwY 6 rfl rfl 0 (by decide) lkY_27 rfl eY_fails_30 ?_
    refine go_if_le (pc := 33) 40 (by decide) eY_fails_33 (fun c33 => ?_) (fun c33 => ?_)
    · exact absurd c33 (by decide)
    · refine go_iconst (pc := 36) (v := 1) (by decide) eY_fails_36 ?_
      refine go_goto (pc := 37) 41 (by decide) eY_fails_37 ?_
      exact go_iret (pc := 41) rfl rfl eY_fails_41 (hf)
set_option maxRecDepth 100000 in
set_option maxHeartbeats 1000000 in
theorem d_fails2 (z : Int32) : Ret (gg D cI cB cL bb L xs) mY_fails n 0 0 [.ref hm, .int (0), .int (1), .int (z)] (zW z0 z1 z2 z3 z4 z5 cI cB hm b1 b2 b3 b4 cd F sx pd th sm u rest) (some (.int (1))) (zW z0 z1 z2 z3 z4 z5 cI cB hm b1 b2 b3 b4 2 F sx pd th sm u rest) := by
  intro Psi hf
  show Go _ _ _ _ _ 0 [(0, .ref hm), (1, .int (0)), (2, .int (1)), (3, .int (z))] [] _ Psi
  refine go_aload_n (pc := 0) 0 0 rfl rfl eY_fails_0 ?_
  refine go_iload_n (pc := 1) 1 1 rfl rfl eY_fails_1 ?_
  refine go_if_eq (pc := 2) 9 (by decide) eY_fails_2 (fun c2 => ?_) (fun c2 => ?_)
  · refine go_iload_n (pc := 9) 2 2 rfl rfl eY_fails_9 ?_
    refine go_if_eq (pc := 10) 17 (by decide) eY_fails_10 (fun c10 => ?_) (fun c10 => ?_)
    · exact absurd c10 (by decide)
    · refine go_iconst (pc := 13) (v := 2) (by decide) eY_fails_13 ?_
      refine go_goto (pc := 14) 26 (by decide) eY_fails_14 ?_
      refine go_put (pc := 26) (ty := .int) (es' := (zW z0 z1 z2 z3 z4 z5 cI cB hm b1 b2 b3 b4 2 F sx pd th sm u rest)) hwY tyY tyY_ok nmY 6 rfl rfl 0 (by decide) lkY_27 rfl (by decide +kernel) rfl rfl (Nat.le_of_ble_eq_true rfl) eY_fails_26 rfl ?_
      refine go_aload_n (pc := 29) 0 0 rfl rfl eY_fails_29 ?_
      refine go_get (pc := 30) hwY 6 rfl rfl 0 (by decide) lkY_27 rfl eY_fails_30 ?_
      refine go_if_le (pc := 33) 40 (by decide) eY_fails_33 (fun c33 => ?_) (fun c33 => ?_)
      · exact absurd c33 (by decide)
      · refine go_iconst (pc := 36) (v := 1) (by decide) eY_fails_36 ?_
        refine go_goto (pc := 37) 41 (by decide) eY_fails_37 ?_
        exact go_iret (pc := 41) rfl rfl eY_fails_41 (hf)
  · exact absurd rfl c2
set_option maxRecDepth 100000 in
set_option maxHeartbeats 1000000 in
theorem d_fails3  : Ret (gg D cI cB cL bb L xs) mY_fails n 0 0 [.ref hm, .int (0), .int (0), .int (1)] (zW z0 z1 z2 z3 z4 z5 cI cB hm b1 b2 b3 b4 cd F sx pd th sm u rest) (some (.int (1))) (zW z0 z1 z2 z3 z4 z5 cI cB hm b1 b2 b3 b4 3 F sx pd th sm u rest) := by
  intro Psi hf
  show Go _ _ _ _ _ 0 [(0, .ref hm), (1, .int (0)), (2, .int (0)), (3, .int (1))] [] _ Psi
  refine go_aload_n (pc := 0) 0 0 rfl rfl eY_fails_0 ?_
  refine go_iload_n (pc := 1) 1 1 rfl rfl eY_fails_1 ?_
  refine go_if_eq (pc := 2) 9 (by decide) eY_fails_2 (fun c2 => ?_) (fun c2 => ?_)
  · refine go_iload_n (pc := 9) 2 2 rfl rfl eY_fails_9 ?_
    refine go_if_eq (pc := 10) 17 (by decide) eY_fails_10 (fun c10 => ?_) (fun c10 => ?_)
    · refine go_iload_n (pc := 17) 3 3 rfl rfl eY_fails_17 ?_
      refine go_if_eq (pc := 18) 25 (by decide) eY_fails_18 (fun c18 => ?_) (fun c18 => ?_)
      · exact absurd c18 (by decide)
      · refine go_iconst (pc := 21) (v := 3) (by decide) eY_fails_21 ?_
        refine go_goto (pc := 22) 26 (by decide) eY_fails_22 ?_
        refine go_put (pc := 26) (ty := .int) (es' := (zW z0 z1 z2 z3 z4 z5 cI cB hm b1 b2 b3 b4 3 F sx pd th sm u rest)) hwY tyY tyY_ok nmY 6 rfl rfl 0 (by decide) lkY_27 rfl (by decide +kernel) rfl rfl (Nat.le_of_ble_eq_true rfl) eY_fails_26 rfl ?_
        refine go_aload_n (pc := 29) 0 0 rfl rfl eY_fails_29 ?_
        refine go_get (pc := 30) hwY 6 rfl rfl 0 (by decide) lkY_27 rfl eY_fails_30 ?_
        refine go_if_le (pc := 33) 40 (by decide) eY_fails_33 (fun c33 => ?_) (fun c33 => ?_)
        · exact absurd c33 (by decide)
        · refine go_iconst (pc := 36) (v := 1) (by decide) eY_fails_36 ?_
          refine go_goto (pc := 37) 41 (by decide) eY_fails_37 ?_
          exact go_iret (pc := 41) rfl rfl eY_fails_41 (hf)
    · exact absurd rfl c10
  · exact absurd rfl c2
set_option maxRecDepth 100000 in
set_option maxHeartbeats 1000000 in
theorem d_fails0  : Ret (gg D cI cB cL bb L xs) mY_fails n 0 0 [.ref hm, .int (0), .int (0), .int (0)] (zW z0 z1 z2 z3 z4 z5 cI cB hm b1 b2 b3 b4 cd F sx pd th sm u rest) (some (.int (0))) (zW z0 z1 z2 z3 z4 z5 cI cB hm b1 b2 b3 b4 0 F sx pd th sm u rest) := by
  intro Psi hf
  show Go _ _ _ _ _ 0 [(0, .ref hm), (1, .int (0)), (2, .int (0)), (3, .int (0))] [] _ Psi
  refine go_aload_n (pc := 0) 0 0 rfl rfl eY_fails_0 ?_
  refine go_iload_n (pc := 1) 1 1 rfl rfl eY_fails_1 ?_
  refine go_if_eq (pc := 2) 9 (by decide) eY_fails_2 (fun c2 => ?_) (fun c2 => ?_)
  · refine go_iload_n (pc := 9) 2 2 rfl rfl eY_fails_9 ?_
    refine go_if_eq (pc := 10) 17 (by decide) eY_fails_10 (fun c10 => ?_) (fun c10 => ?_)
    · refine go_iload_n (pc := 17) 3 3 rfl rfl eY_fails_17 ?_
      refine go_if_eq (pc := 18) 25 (by decide) eY_fails_18 (fun c18 => ?_) (fun c18 => ?_)
      · refine go_iconst (pc := 25) (v := 0) (by decide) eY_fails_25 ?_
        refine go_put (pc := 26) (ty := .int) (es' := (zW z0 z1 z2 z3 z4 z5 cI cB hm b1 b2 b3 b4 0 F sx pd th sm u rest)) hwY tyY tyY_ok nmY 6 rfl rfl 0 (by decide) lkY_27 rfl (by decide +kernel) rfl rfl (Nat.le_of_ble_eq_true rfl) eY_fails_26 rfl ?_
        refine go_aload_n (pc := 29) 0 0 rfl rfl eY_fails_29 ?_
        refine go_get (pc := 30) hwY 6 rfl rfl 0 (by decide) lkY_27 rfl eY_fails_30 ?_
        refine go_if_le (pc := 33) 40 (by decide) eY_fails_33 (fun c33 => ?_) (fun c33 => ?_)
        · refine go_iconst (pc := 40) (v := 0) (by decide) eY_fails_40 ?_
          exact go_iret (pc := 41) rfl rfl eY_fails_41 (hf)
        · exact absurd c33 (by decide)
      · exact absurd rfl c18
    · exact absurd rfl c10
  · exact absurd rfl c2
set_option maxRecDepth 100000 in
set_option maxHeartbeats 1000000 in
theorem k_holdersOf (hsm : ∀ k, sm k < 2 ^ 30) (v : Nat) (hv : v < 2 ^ 30) (h0 : v ≠ 0) {Psi : gR → va_W → Prop} (hf : Psi (.inl (some (.int (nI (gcnt (fun k => decide (sm k = v)) 432))))) (zW z0 z1 z2 z3 z4 z5 cI cB hm b1 b2 b3 b4 cd F sx pd th sm u rest)) : ∀ (m i : Nat), i + m = 432 → Go (gg D cI cB cL bb L xs) mY_holdersOf n 0 0 4 [(3, .int (nI i)), (2, .int (nI (gcnt (fun k => decide (sm k = v)) i))), (0, .ref hm), (1, .int (nI v))] [] (zW z0 z1 z2 z3 z4 z5 cI cB hm b1 b2 b3 b4 cd F sx pd th sm u rest) Psi := by
  intro m
  induction m with
  | zero =>
    intro i hi
    obtain rfl : i = 432 := by omega
    refine go_iload_n (pc := 4) 3 0 rfl rfl eY_holdersOf_4 ?_
    refine go_sipush (pc := 5) (v := 432) (by decide) eY_holdersOf_5 ?_
    refine go_icmp_ge (pc := 8) 35 (by decide) eY_holdersOf_8 (fun c8 => ?_) (fun c8 => ?_)
    · refine go_iload_n (pc := 35) 1 3 rfl rfl eY_holdersOf_35 ?_
      refine go_if_ne (pc := 36) 43 (by decide) eY_holdersOf_36 (fun c36 => ?_) (fun c36 => ?_)
      · refine go_iload_n (pc := 43) 2 1 rfl rfl eY_holdersOf_43 ?_
        exact go_iret (pc := 44) rfl rfl eY_holdersOf_44 (hf)
      · exact absurd ((nI_z (by omega)).mp c36) h0
    · exact absurd (show (432 : Int32) ≤ nI 432 by decide) c8
  | succ m ih =>
    intro i hi
    refine go_iload_n (pc := 4) 3 0 rfl rfl eY_holdersOf_4 ?_
    refine go_sipush (pc := 5) (v := 432) (by decide) eY_holdersOf_5 ?_
    refine go_icmp_ge (pc := 8) 35 (by decide) eY_holdersOf_8 (fun c8 => ?_) (fun c8 => ?_)
    · exact absurd c8 (nI_ge (b := 432) (by omega) (by omega))
    · refine go_aload_n (pc := 11) 0 2 rfl rfl eY_holdersOf_11 ?_
      refine go_get (pc := 12) hwY 6 rfl rfl 5 (by decide) lkY_16 rfl eY_holdersOf_12 ?_
      refine go_iload_n (pc := 15) 3 0 rfl rfl eY_holdersOf_15 ?_
      refine go_ialdN (pc := 16) 9 0 (i) eY_holdersOf_16 rfl rfl (rfl) (by omega) (by omega) ?_
      refine go_iload_n (pc := 17) 1 3 rfl rfl eY_holdersOf_17 ?_
      refine go_icmp_ne (pc := 18) 27 (by decide) eY_holdersOf_18 (fun c18 => ?_) (fun c18 => ?_)
      · have e9 : gcnt (fun k => decide (sm k = v)) (i + 1) = gcnt (fun k => decide (sm k = v)) i := gcnt_n (decide_eq_false (fun z => c18 (by rw [z])))
        rw [← e9]
        refine go_iload_n (pc := 27) 2 1 rfl rfl eY_holdersOf_27 ?_
        refine go_istore_n (pc := 28) (ls' := [(2, _), (3, _), (0, _), (1, _)]) 2 rfl (by decide) eY_holdersOf_28 rfl ?_
        refine go_iinc (pc := 29) (z := 1) (v := nI (i + 1)) (ls' := [(3, _), (2, _), (0, _), (1, _)]) 3 1 rfl (nI_1 i) (by decide) eY_holdersOf_29 rfl ?_
        refine go_goto (pc := 32) 4 (by decide) eY_holdersOf_32 ?_
        exact ih (i + 1) (by omega)
      · have e9 : gcnt (fun k => decide (sm k = v)) (i + 1) = gcnt (fun k => decide (sm k = v)) i + 1 := gcnt_s (decide_eq_true ((nI_eq (by have := hsm i; omega) (by omega)).mp c18))
        refine go_iload_n (pc := 21) 2 1 rfl rfl eY_holdersOf_21 ?_
        refine go_iconst (pc := 22) (v := 1) (by decide) eY_holdersOf_22 ?_
        refine go_iadd (pc := 23) eY_holdersOf_23 ?_
        rw [nI_1, ← e9]
        refine go_goto (pc := 24) 28 (by decide) eY_holdersOf_24 ?_
        refine go_istore_n (pc := 28) (ls' := [(2, _), (3, _), (0, _), (1, _)]) 2 rfl (by decide) eY_holdersOf_28 rfl ?_
        refine go_iinc (pc := 29) (z := 1) (v := nI (i + 1)) (ls' := [(3, _), (2, _), (0, _), (1, _)]) 3 1 rfl (nI_1 i) (by decide) eY_holdersOf_29 rfl ?_
        refine go_goto (pc := 32) 4 (by decide) eY_holdersOf_32 ?_
        exact ih (i + 1) (by omega)
set_option maxRecDepth 100000 in
set_option maxHeartbeats 1000000 in
theorem d_holdersOf (hsm : ∀ k, sm k < 2 ^ 30) (v : Nat) (hv : v < 2 ^ 30) (h0 : v ≠ 0) : Ret (gg D cI cB cL bb L xs) mY_holdersOf n 0 0 [.ref hm, .int (nI v)] (zW z0 z1 z2 z3 z4 z5 cI cB hm b1 b2 b3 b4 cd F sx pd th sm u rest) (some (.int (nI (gcnt (fun k => decide (sm k = v)) 432)))) (zW z0 z1 z2 z3 z4 z5 cI cB hm b1 b2 b3 b4 cd F sx pd th sm u rest) := by
  intro Psi hf
  show Go _ _ _ _ _ 0 [(0, .ref hm), (1, .int (nI v))] [] _ Psi
  refine go_iconst (pc := 0) (v := 0) (by decide) eY_holdersOf_0 ?_
  refine go_istore_n (pc := 1) (ls' := [(2, _), (0, _), (1, _)]) 2 rfl (by decide) eY_holdersOf_1 rfl ?_
  refine go_iconst (pc := 2) (v := 0) (by decide) eY_holdersOf_2 ?_
  refine go_istore_n (pc := 3) (ls' := [(3, _), (2, _), (0, _), (1, _)]) 3 rfl (by decide) eY_holdersOf_3 rfl ?_
  refine go_ls [0, 1, 2, 3] rfl ?_
  exact k_holdersOf hsm v hv h0 hf 432 0 (by omega)
set_option maxRecDepth 100000 in
set_option maxHeartbeats 1000000 in
theorem k_holders0 (hsm : ∀ k, sm k < 2 ^ 30) {Psi : gR → va_W → Prop} (hf : Psi (.inl (some (.int 0))) (zW z0 z1 z2 z3 z4 z5 cI cB hm b1 b2 b3 b4 cd F sx pd th sm u rest)) : ∀ (m i : Nat) (w : Int32), i + m = 432 → Go (gg D cI cB cL bb L xs) mY_holdersOf n 0 0 4 [(3, .int (nI i)), (2, .int (w)), (0, .ref hm), (1, .int (0))] [] (zW z0 z1 z2 z3 z4 z5 cI cB hm b1 b2 b3 b4 cd F sx pd th sm u rest) Psi := by
  intro m
  induction m with
  | zero =>
    intro i w hi
    obtain rfl : i = 432 := by omega
    refine go_iload_n (pc := 4) 3 0 rfl rfl eY_holdersOf_4 ?_
    refine go_sipush (pc := 5) (v := 432) (by decide) eY_holdersOf_5 ?_
    refine go_icmp_ge (pc := 8) 35 (by decide) eY_holdersOf_8 (fun c8 => ?_) (fun c8 => ?_)
    · refine go_iload_n (pc := 35) 1 3 rfl rfl eY_holdersOf_35 ?_
      refine go_if_ne (pc := 36) 43 (by decide) eY_holdersOf_36 (fun c36 => ?_) (fun c36 => ?_)
      · exact absurd rfl c36
      · refine go_iconst (pc := 39) (v := 0) (by decide) eY_holdersOf_39 ?_
        refine go_goto (pc := 40) 44 (by decide) eY_holdersOf_40 ?_
        exact go_iret (pc := 44) rfl rfl eY_holdersOf_44 (hf)
    · exact absurd (show (432 : Int32) ≤ nI 432 by decide) c8
  | succ m ih =>
    intro i w hi
    refine go_iload_n (pc := 4) 3 0 rfl rfl eY_holdersOf_4 ?_
    refine go_sipush (pc := 5) (v := 432) (by decide) eY_holdersOf_5 ?_
    refine go_icmp_ge (pc := 8) 35 (by decide) eY_holdersOf_8 (fun c8 => ?_) (fun c8 => ?_)
    · exact absurd c8 (nI_ge (b := 432) (by omega) (by omega))
    · refine go_aload_n (pc := 11) 0 2 rfl rfl eY_holdersOf_11 ?_
      refine go_get (pc := 12) hwY 6 rfl rfl 5 (by decide) lkY_16 rfl eY_holdersOf_12 ?_
      refine go_iload_n (pc := 15) 3 0 rfl rfl eY_holdersOf_15 ?_
      refine go_ialdN (pc := 16) 9 0 (i) eY_holdersOf_16 rfl rfl (rfl) (by omega) (by omega) ?_
      refine go_iload_n (pc := 17) 1 3 rfl rfl eY_holdersOf_17 ?_
      refine go_icmp_ne (pc := 18) 27 (by decide) eY_holdersOf_18 (fun c18 => ?_) (fun c18 => ?_)
      · refine go_iload_n (pc := 27) 2 1 rfl rfl eY_holdersOf_27 ?_
        refine go_istore_n (pc := 28) (ls' := [(2, _), (3, _), (0, _), (1, _)]) 2 rfl (by decide) eY_holdersOf_28 rfl ?_
        refine go_iinc (pc := 29) (z := 1) (v := nI (i + 1)) (ls' := [(3, _), (2, _), (0, _), (1, _)]) 3 1 rfl (nI_1 i) (by decide) eY_holdersOf_29 rfl ?_
        refine go_goto (pc := 32) 4 (by decide) eY_holdersOf_32 ?_
        exact ih (i + 1) _ (by omega)
      · refine go_iload_n (pc := 21) 2 1 rfl rfl eY_holdersOf_21 ?_
        refine go_iconst (pc := 22) (v := 1) (by decide) eY_holdersOf_22 ?_
        refine go_iadd (pc := 23) eY_holdersOf_23 ?_
        refine go_goto (pc := 24) 28 (by decide) eY_holdersOf_24 ?_
        refine go_istore_n (pc := 28) (ls' := [(2, _), (3, _), (0, _), (1, _)]) 2 rfl (by decide) eY_holdersOf_28 rfl ?_
        refine go_iinc (pc := 29) (z := 1) (v := nI (i + 1)) (ls' := [(3, _), (2, _), (0, _), (1, _)]) 3 1 rfl (nI_1 i) (by decide) eY_holdersOf_29 rfl ?_
        refine go_goto (pc := 32) 4 (by decide) eY_holdersOf_32 ?_
        exact ih (i + 1) _ (by omega)
set_option maxRecDepth 100000 in
set_option maxHeartbeats 1000000 in
theorem d_holders0 (hsm : ∀ k, sm k < 2 ^ 30) : Ret (gg D cI cB cL bb L xs) mY_holdersOf n 0 0 [.ref hm, .int (0)] (zW z0 z1 z2 z3 z4 z5 cI cB hm b1 b2 b3 b4 cd F sx pd th sm u rest) (some (.int (0))) (zW z0 z1 z2 z3 z4 z5 cI cB hm b1 b2 b3 b4 cd F sx pd th sm u rest) := by
  intro Psi hf
  show Go _ _ _ _ _ 0 [(0, .ref hm), (1, .int (0))] [] _ Psi
  refine go_iconst (pc := 0) (v := 0) (by decide) eY_holdersOf_0 ?_
  refine go_istore_n (pc := 1) (ls' := [(2, _), (0, _), (1, _)]) 2 rfl (by decide) eY_holdersOf_1 rfl ?_
  refine go_iconst (pc := 2) (v := 0) (by decide) eY_holdersOf_2 ?_
  refine go_istore_n (pc := 3) (ls' := [(3, _), (2, _), (0, _), (1, _)]) 3 rfl (by decide) eY_holdersOf_3 rfl ?_
  exact k_holders0 hsm hf 432 0 _ (by omega)
set_option maxRecDepth 100000 in
set_option maxHeartbeats 1000000 in
theorem k_us2 (hsm : ∀ k, sm k < 2 ^ 30) (k w : Nat) (hk0 : k < 432) {Psi : gR → va_W → Prop} (hk : Go (gg D cI cB cL bb L xs) mY_used n 0 0 66 [(3, .int (bI (fstn sm k))), (2, .int (nI k)), (1, .int (nI w)), (0, .ref hm)] [] (zW z0 z1 z2 z3 z4 z5 cI cB hm b1 b2 b3 b4 cd F sx pd th sm u rest) Psi) : ∀ (m i : Nat) (hq : gcnt (fun j => decide (sm j = sm k)) i = 0), i + m = k → Go (gg D cI cB cL bb L xs) mY_used n 0 0 28 [(4, .int (nI i)), (3, .int (1)), (2, .int (nI k)), (1, .int (nI w)), (0, .ref hm)] [] (zW z0 z1 z2 z3 z4 z5 cI cB hm b1 b2 b3 b4 cd F sx pd th sm u rest) Psi := by
  intro m
  induction m with
  | zero =>
    intro i hq hi
    obtain rfl : i = k := by omega
    refine go_iload (pc := 28) 4 0 rfl eY_used_28 ?_
    refine go_iload_n (pc := 30) 2 2 rfl rfl eY_used_30 ?_
    refine go_icmp_ge (pc := 31) 66 (by decide) eY_used_31 (fun c31 => ?_) (fun c31 => ?_)
    · refine go_ls [1, 2, 3, 4] rfl ?_
      rw [show fstn sm i = true from decide_eq_true hq] at hk
      exact hk
    · exact absurd (nI_le (Nat.le_refl i) (by omega)) c31
  | succ m ih =>
    intro i hq hi
    refine go_iload (pc := 28) 4 0 rfl eY_used_28 ?_
    refine go_iload_n (pc := 30) 2 2 rfl rfl eY_used_30 ?_
    refine go_icmp_ge (pc := 31) 66 (by decide) eY_used_31 (fun c31 => ?_) (fun c31 => ?_)
    · exact absurd c31 (nI_ge (by omega) (by omega))
    · refine go_iload_n (pc := 34) 3 1 rfl rfl eY_used_34 ?_
      refine go_if_eq (pc := 35) 66 (by decide) eY_used_35 (fun c35 => ?_) (fun c35 => ?_)
      · exact absurd c35 (by decide)
      · refine go_aload_n (pc := 38) 0 4 rfl rfl eY_used_38 ?_
        refine go_get (pc := 39) hwY 6 rfl rfl 5 (by decide) lkY_16 rfl eY_used_39 ?_
        refine go_iload (pc := 42) 4 0 rfl eY_used_42 ?_
        refine go_ialdN (pc := 44) 9 0 (i) eY_used_44 rfl rfl (rfl) (by omega) (by omega) ?_
        refine go_aload_n (pc := 45) 0 4 rfl rfl eY_used_45 ?_
        refine go_get (pc := 46) hwY 6 rfl rfl 5 (by decide) lkY_16 rfl eY_used_46 ?_
        refine go_iload_n (pc := 49) 2 2 rfl rfl eY_used_49 ?_
        refine go_ialdN (pc := 50) 9 0 (k) eY_used_50 rfl rfl (rfl) (hk0) (by omega) ?_
        refine go_icmp_eq (pc := 51) 58 (by decide) eY_used_51 (fun c51 => ?_) (fun c51 => ?_)
        · have hfz : fstn sm k = false := decide_eq_false (by have := gcnt_pos (p := (fun j => decide (sm j = sm k))) (k := i) (n := k) (by omega) (decide_eq_true ((nI_eq (by have := hsm i; omega) (by have := hsm k; omega)).mp c51)); omega)
          refine go_iconst (pc := 58) (v := 0) (by decide) eY_used_58 ?_
          refine go_istore_n (pc := 59) (ls' := [(3, _), (4, _), (2, _), (1, _), (0, _)]) 3 rfl (by decide) eY_used_59 rfl ?_
          refine go_iinc (pc := 60) (z := 1) (v := nI (i + 1)) (ls' := [(4, _), (3, _), (2, _), (1, _), (0, _)]) 4 1 rfl (nI_1 i) (by decide) eY_used_60 rfl ?_
          refine go_goto (pc := 63) 28 (by decide) eY_used_63 ?_
          refine go_iload (pc := 28) 4 0 rfl eY_used_28 ?_
          refine go_iload_n (pc := 30) 2 2 rfl rfl eY_used_30 ?_
          refine go_icmp_ge (pc := 31) 66 (by decide) eY_used_31 (fun c31 => ?_) (fun c31 => ?_)
          · refine go_ls [1, 2, 3, 4] rfl ?_
            rw [hfz] at hk
            exact hk
          · refine go_iload_n (pc := 34) 3 1 rfl rfl eY_used_34 ?_
            refine go_if_eq (pc := 35) 66 (by decide) eY_used_35 (fun c35 => ?_) (fun c35 => ?_)
            · refine go_ls [1, 2, 3, 4] rfl ?_
              rw [hfz] at hk
              exact hk
            · exact absurd c35 (by decide)
        · have e9 : gcnt (fun j => decide (sm j = sm k)) (i + 1) = 0 := by rw [gcnt_n (decide_eq_false (fun z => c51 (by rw [z])))]; exact hq
          refine go_iconst (pc := 54) (v := 1) (by decide) eY_used_54 ?_
          refine go_goto (pc := 55) 59 (by decide) eY_used_55 ?_
          refine go_istore_n (pc := 59) (ls' := [(3, _), (4, _), (2, _), (1, _), (0, _)]) 3 rfl (by decide) eY_used_59 rfl ?_
          refine go_iinc (pc := 60) (z := 1) (v := nI (i + 1)) (ls' := [(4, _), (3, _), (2, _), (1, _), (0, _)]) 4 1 rfl (nI_1 i) (by decide) eY_used_60 rfl ?_
          refine go_goto (pc := 63) 28 (by decide) eY_used_63 ?_
          exact ih (i + 1) e9 (by omega)
set_option maxRecDepth 100000 in
set_option maxHeartbeats 1000000 in
theorem k_used (hsm : ∀ k, sm k < 2 ^ 30) {Psi : gR → va_W → Prop} (hf : Psi (.inl (some (.int (nI (gcnt (usf sm) 432))))) (zW z0 z1 z2 z3 z4 z5 cI cB hm b1 b2 b3 b4 cd F sx pd th sm u rest)) : ∀ (m i : Nat), i + m = 432 → Go (gg D cI cB cL bb L xs) mY_used n 0 0 4 [(2, .int (nI i)), (1, .int (nI (gcnt (usf sm) i))), (0, .ref hm)] [] (zW z0 z1 z2 z3 z4 z5 cI cB hm b1 b2 b3 b4 cd F sx pd th sm u rest) Psi := by
  intro m
  induction m with
  | zero =>
    intro i hi
    obtain rfl : i = 432 := by omega
    refine go_iload_n (pc := 4) 2 0 rfl rfl eY_used_4 ?_
    refine go_sipush (pc := 5) (v := 432) (by decide) eY_used_5 ?_
    refine go_icmp_ge (pc := 8) 84 (by decide) eY_used_8 (fun c8 => ?_) (fun c8 => ?_)
    · refine go_iload_n (pc := 84) 1 1 rfl rfl eY_used_84 ?_
      exact go_iret (pc := 85) rfl rfl eY_used_85 (hf)
    · exact absurd (show (432 : Int32) ≤ nI 432 by decide) c8
  | succ m ih =>
    intro i hi
    refine go_iload_n (pc := 4) 2 0 rfl rfl eY_used_4 ?_
    refine go_sipush (pc := 5) (v := 432) (by decide) eY_used_5 ?_
    refine go_icmp_ge (pc := 8) 84 (by decide) eY_used_8 (fun c8 => ?_) (fun c8 => ?_)
    · exact absurd c8 (nI_ge (b := 432) (by omega) (by omega))
    · refine go_aload_n (pc := 11) 0 2 rfl rfl eY_used_11 ?_
      refine go_get (pc := 12) hwY 6 rfl rfl 5 (by decide) lkY_16 rfl eY_used_12 ?_
      refine go_iload_n (pc := 15) 2 0 rfl rfl eY_used_15 ?_
      refine go_ialdN (pc := 16) 9 0 (i) eY_used_16 rfl rfl (rfl) (by omega) (by omega) ?_
      refine go_if_ne (pc := 17) 23 (by decide) eY_used_17 (fun c17 => ?_) (fun c17 => ?_)
      · have hne : ¬ sm i = 0 := fun z => c17 (by rw [z]; rfl)
        refine go_iconst (pc := 23) (v := 1) (by decide) eY_used_23 ?_
        refine go_istore_n (pc := 24) (ls' := [(3, _), (2, _), (1, _), (0, _)]) 3 rfl (by decide) eY_used_24 rfl ?_
        refine go_iconst (pc := 25) (v := 0) (by decide) eY_used_25 ?_
        refine go_istore (pc := 26) (ls' := [(4, _), (3, _), (2, _), (1, _), (0, _)]) 4 (by decide) eY_used_26 rfl ?_
        refine go_ls (ls' := [(4, _), (3, _), (2, _), (1, _), (0, _)]) [0, 1, 2, 3, 4] rfl ?_
        refine k_us2 hsm i (gcnt (usf sm) i) (by omega) ?_ i 0 rfl (by omega)
        refine go_iload_n (pc := 66) 3 0 rfl rfl eY_used_66 ?_
        refine go_if_eq (pc := 67) 76 (by decide) eY_used_67 (fun c67 => ?_) (fun c67 => ?_)
        · have e9 : gcnt (usf sm) (i + 1) = gcnt (usf sm) i := gcnt_n (by simp only [usf, bI0.mp c67, Bool.and_false])
          rw [← e9]
          refine go_iload_n (pc := 76) 1 2 rfl rfl eY_used_76 ?_
          refine go_istore_n (pc := 77) (ls' := [(1, _), (3, _), (2, _), (0, _)]) 1 rfl (by decide) eY_used_77 rfl ?_
          refine go_iinc (pc := 78) (z := 1) (v := nI (i + 1)) (ls' := [(2, _), (1, _), (3, _), (0, _)]) 2 2 rfl (nI_1 i) (by decide) eY_used_78 rfl ?_
          refine go_goto (pc := 81) 4 (by decide) eY_used_81 ?_
          refine go_ls [0, 1, 3] rfl ?_
          exact ih (i + 1) (by omega)
        · have e9 : gcnt (usf sm) (i + 1) = gcnt (usf sm) i + 1 := gcnt_s (by simp only [usf, bI1 c67, Bool.and_true]; exact decide_eq_true hne)
          refine go_iload_n (pc := 70) 1 2 rfl rfl eY_used_70 ?_
          refine go_iconst (pc := 71) (v := 1) (by decide) eY_used_71 ?_
          refine go_iadd (pc := 72) eY_used_72 ?_
          rw [nI_1, ← e9]
          refine go_goto (pc := 73) 77 (by decide) eY_used_73 ?_
          refine go_istore_n (pc := 77) (ls' := [(1, _), (3, _), (2, _), (0, _)]) 1 rfl (by decide) eY_used_77 rfl ?_
          refine go_iinc (pc := 78) (z := 1) (v := nI (i + 1)) (ls' := [(2, _), (1, _), (3, _), (0, _)]) 2 2 rfl (nI_1 i) (by decide) eY_used_78 rfl ?_
          refine go_goto (pc := 81) 4 (by decide) eY_used_81 ?_
          refine go_ls [0, 1, 3] rfl ?_
          exact ih (i + 1) (by omega)
      · have e9 : gcnt (usf sm) (i + 1) = gcnt (usf sm) i := gcnt_n (by simp only [usf, (nI_z (by have := hsm i; omega)).mp c17]; rfl)
        rw [← e9]
        refine go_goto (pc := 20) 78 (by decide) eY_used_20 ?_
        refine go_iinc (pc := 78) (z := 1) (v := nI (i + 1)) (ls' := [(2, _), (1, _), (0, _)]) 2 0 rfl (nI_1 i) (by decide) eY_used_78 rfl ?_
        refine go_goto (pc := 81) 4 (by decide) eY_used_81 ?_
        exact ih (i + 1) (by omega)
set_option maxRecDepth 100000 in
set_option maxHeartbeats 1000000 in
theorem d_used (hsm : ∀ k, sm k < 2 ^ 30) : Ret (gg D cI cB cL bb L xs) mY_used n 0 0 [.ref hm] (zW z0 z1 z2 z3 z4 z5 cI cB hm b1 b2 b3 b4 cd F sx pd th sm u rest) (some (.int (nI (gcnt (usf sm) 432)))) (zW z0 z1 z2 z3 z4 z5 cI cB hm b1 b2 b3 b4 cd F sx pd th sm u rest) := by
  intro Psi hf
  show Go _ _ _ _ _ 0 [(0, .ref hm)] [] _ Psi
  refine go_iconst (pc := 0) (v := 0) (by decide) eY_used_0 ?_
  refine go_istore_n (pc := 1) (ls' := [(1, _), (0, _)]) 1 rfl (by decide) eY_used_1 rfl ?_
  refine go_iconst (pc := 2) (v := 0) (by decide) eY_used_2 ?_
  refine go_istore_n (pc := 3) (ls' := [(2, _), (1, _), (0, _)]) 2 rfl (by decide) eY_used_3 rfl ?_
  exact k_used hsm hf 432 0 (by omega)
set_option maxRecDepth 100000 in
set_option maxHeartbeats 1000000 in
theorem k_spaces  {Psi : gR → va_W → Prop} (hf : Psi (.inl (some (.int (nI (gcnt th 6))))) (zW z0 z1 z2 z3 z4 z5 cI cB hm b1 b2 b3 b4 cd F sx pd th sm u rest)) : ∀ (m i : Nat), i + m = 6 → Go (gg D cI cB cL bb L xs) mY_spaces n 0 0 4 [(2, .int (nI i)), (1, .int (nI (gcnt th i))), (0, .ref hm)] [] (zW z0 z1 z2 z3 z4 z5 cI cB hm b1 b2 b3 b4 cd F sx pd th sm u rest) Psi := by
  intro m
  induction m with
  | zero =>
    intro i hi
    obtain rfl : i = 6 := by omega
    refine go_iload_n (pc := 4) 2 0 rfl rfl eY_spaces_4 ?_
    refine go_bipush (pc := 5) (v := 6) (by decide) eY_spaces_5 ?_
    refine go_icmp_ge (pc := 7) 33 (by decide) eY_spaces_7 (fun c7 => ?_) (fun c7 => ?_)
    · refine go_iload_n (pc := 33) 1 1 rfl rfl eY_spaces_33 ?_
      exact go_iret (pc := 34) rfl rfl eY_spaces_34 (hf)
    · exact absurd (show (6 : Int32) ≤ nI 6 by decide) c7
  | succ m ih =>
    intro i hi
    refine go_iload_n (pc := 4) 2 0 rfl rfl eY_spaces_4 ?_
    refine go_bipush (pc := 5) (v := 6) (by decide) eY_spaces_5 ?_
    refine go_icmp_ge (pc := 7) 33 (by decide) eY_spaces_7 (fun c7 => ?_) (fun c7 => ?_)
    · exact absurd c7 (nI_ge (b := 6) (by omega) (by omega))
    · refine go_aload_n (pc := 10) 0 2 rfl rfl eY_spaces_10 ?_
      refine go_get (pc := 11) hwY 6 rfl rfl 4 (by decide) lkY_13 rfl eY_spaces_11 ?_
      refine go_iload_n (pc := 14) 2 0 rfl rfl eY_spaces_14 ?_
      refine go_zaldN (pc := 15) 8 1 (i) eY_spaces_15 rfl rfl (rfl) (by omega) (by omega) ?_
      refine go_if_eq (pc := 16) 25 (by decide) eY_spaces_16 (fun c16 => ?_) (fun c16 => ?_)
      · have e9 : gcnt th (i + 1) = gcnt th i := gcnt_n (bI0.mp c16)
        rw [← e9]
        refine go_iload_n (pc := 25) 1 1 rfl rfl eY_spaces_25 ?_
        refine go_istore_n (pc := 26) (ls' := [(1, _), (2, _), (0, _)]) 1 rfl (by decide) eY_spaces_26 rfl ?_
        refine go_iinc (pc := 27) (z := 1) (v := nI (i + 1)) (ls' := [(2, _), (1, _), (0, _)]) 2 1 rfl (nI_1 i) (by decide) eY_spaces_27 rfl ?_
        refine go_goto (pc := 30) 4 (by decide) eY_spaces_30 ?_
        exact ih (i + 1) (by omega)
      · have e9 : gcnt th (i + 1) = gcnt th i + 1 := gcnt_s (bI1 c16)
        refine go_iload_n (pc := 19) 1 1 rfl rfl eY_spaces_19 ?_
        refine go_iconst (pc := 20) (v := 1) (by decide) eY_spaces_20 ?_
        refine go_iadd (pc := 21) eY_spaces_21 ?_
        rw [nI_1, ← e9]
        refine go_goto (pc := 22) 26 (by decide) eY_spaces_22 ?_
        refine go_istore_n (pc := 26) (ls' := [(1, _), (2, _), (0, _)]) 1 rfl (by decide) eY_spaces_26 rfl ?_
        refine go_iinc (pc := 27) (z := 1) (v := nI (i + 1)) (ls' := [(2, _), (1, _), (0, _)]) 2 1 rfl (nI_1 i) (by decide) eY_spaces_27 rfl ?_
        refine go_goto (pc := 30) 4 (by decide) eY_spaces_30 ?_
        exact ih (i + 1) (by omega)
set_option maxRecDepth 100000 in
set_option maxHeartbeats 1000000 in
theorem d_spaces  : Ret (gg D cI cB cL bb L xs) mY_spaces n 0 0 [.ref hm] (zW z0 z1 z2 z3 z4 z5 cI cB hm b1 b2 b3 b4 cd F sx pd th sm u rest) (some (.int (nI (gcnt th 6)))) (zW z0 z1 z2 z3 z4 z5 cI cB hm b1 b2 b3 b4 cd F sx pd th sm u rest) := by
  intro Psi hf
  show Go _ _ _ _ _ 0 [(0, .ref hm)] [] _ Psi
  refine go_iconst (pc := 0) (v := 0) (by decide) eY_spaces_0 ?_
  refine go_istore_n (pc := 1) (ls' := [(1, _), (0, _)]) 1 rfl (by decide) eY_spaces_1 rfl ?_
  refine go_iconst (pc := 2) (v := 0) (by decide) eY_spaces_2 ?_
  refine go_istore_n (pc := 3) (ls' := [(2, _), (1, _), (0, _)]) 2 rfl (by decide) eY_spaces_3 rfl ?_
  refine go_ls [0, 1, 2] rfl ?_
  exact k_spaces  hf 6 0 (by omega)
set_option maxRecDepth 100000 in
set_option maxHeartbeats 1000000 in
theorem k_pagesOf (hsm : ∀ k, sm k < 2 ^ 30) (s : Nat) (hs : s < 6) {Psi : gR → va_W → Prop} (hf : Psi (.inl (some (.int (nI (gcnt (fun p => decide (¬ sm (8 * s + p) = 0)) 8))))) (zW z0 z1 z2 z3 z4 z5 cI cB hm b1 b2 b3 b4 cd F sx pd th sm u rest)) : ∀ (m i : Nat), i + m = 8 → Go (gg D cI cB cL bb L xs) mY_pagesOf (n + 1) 0 0 4 [(3, .int (nI i)), (2, .int (nI (gcnt (fun p => decide (¬ sm (8 * s + p) = 0)) i))), (0, .ref hm), (1, .int (nI s))] [] (zW z0 z1 z2 z3 z4 z5 cI cB hm b1 b2 b3 b4 cd F sx pd th sm u rest) Psi := by
  intro m
  induction m with
  | zero =>
    intro i hi
    obtain rfl : i = 8 := by omega
    refine go_iload_n (pc := 4) 3 0 rfl rfl eY_pagesOf_4 ?_
    refine go_bipush (pc := 5) (v := 8) (by decide) eY_pagesOf_5 ?_
    refine go_icmp_ge (pc := 7) 38 (by decide) eY_pagesOf_7 (fun c7 => ?_) (fun c7 => ?_)
    · refine go_iload_n (pc := 38) 2 1 rfl rfl eY_pagesOf_38 ?_
      exact go_iret (pc := 39) rfl rfl eY_pagesOf_39 (hf)
    · exact absurd (show (8 : Int32) ≤ nI 8 by decide) c7
  | succ m ih =>
    intro i hi
    refine go_iload_n (pc := 4) 3 0 rfl rfl eY_pagesOf_4 ?_
    refine go_bipush (pc := 5) (v := 8) (by decide) eY_pagesOf_5 ?_
    refine go_icmp_ge (pc := 7) 38 (by decide) eY_pagesOf_7 (fun c7 => ?_) (fun c7 => ?_)
    · exact absurd c7 (nI_ge (b := 8) (by omega) (by omega))
    · refine go_aload_n (pc := 10) 0 2 rfl rfl eY_pagesOf_10 ?_
      refine go_get (pc := 11) hwY 6 rfl rfl 5 (by decide) lkY_16 rfl eY_pagesOf_11 ?_
      refine go_iconst (pc := 14) (v := 0) (by decide) eY_pagesOf_14 ?_
      refine go_iload_n (pc := 15) 1 3 rfl rfl eY_pagesOf_15 ?_
      refine go_iload_n (pc := 16) 3 0 rfl rfl eY_pagesOf_16 ?_
      refine go_rS (pc := 17) (d_page0 s i) okY_page lmY_34 eY_pagesOf_17 rfl rfl (Nat.le_of_ble_eq_true rfl) (Nat.le_of_ble_eq_true rfl) ?_
      refine go_ialdN (pc := 20) 9 0 (8 * s + i) eY_pagesOf_20 rfl rfl (rfl) (by omega) (by omega) ?_
      refine go_if_le (pc := 21) 30 (by decide) eY_pagesOf_21 (fun c21 => ?_) (fun c21 => ?_)
      · have e9 : gcnt (fun p => decide (¬ sm (8 * s + p) = 0)) (i + 1) = gcnt (fun p => decide (¬ sm (8 * s + p) = 0)) i := gcnt_n (decide_eq_false (fun z => z ((nI_lz (by have := hsm (8 * s + i); omega)).mp c21)))
        rw [← e9]
        refine go_iload_n (pc := 30) 2 1 rfl rfl eY_pagesOf_30 ?_
        refine go_istore_n (pc := 31) (ls' := [(2, _), (3, _), (0, _), (1, _)]) 2 rfl (by decide) eY_pagesOf_31 rfl ?_
        refine go_iinc (pc := 32) (z := 1) (v := nI (i + 1)) (ls' := [(3, _), (2, _), (0, _), (1, _)]) 3 1 rfl (nI_1 i) (by decide) eY_pagesOf_32 rfl ?_
        refine go_goto (pc := 35) 4 (by decide) eY_pagesOf_35 ?_
        exact ih (i + 1) (by omega)
      · have e9 : gcnt (fun p => decide (¬ sm (8 * s + p) = 0)) (i + 1) = gcnt (fun p => decide (¬ sm (8 * s + p) = 0)) i + 1 := gcnt_s (decide_eq_true (fun z => c21 ((nI_lz (by have := hsm (8 * s + i); omega)).mpr z)))
        refine go_iload_n (pc := 24) 2 1 rfl rfl eY_pagesOf_24 ?_
        refine go_iconst (pc := 25) (v := 1) (by decide) eY_pagesOf_25 ?_
        refine go_iadd (pc := 26) eY_pagesOf_26 ?_
        rw [nI_1, ← e9]
        refine go_goto (pc := 27) 31 (by decide) eY_pagesOf_27 ?_
        refine go_istore_n (pc := 31) (ls' := [(2, _), (3, _), (0, _), (1, _)]) 2 rfl (by decide) eY_pagesOf_31 rfl ?_
        refine go_iinc (pc := 32) (z := 1) (v := nI (i + 1)) (ls' := [(3, _), (2, _), (0, _), (1, _)]) 3 1 rfl (nI_1 i) (by decide) eY_pagesOf_32 rfl ?_
        refine go_goto (pc := 35) 4 (by decide) eY_pagesOf_35 ?_
        exact ih (i + 1) (by omega)
set_option maxRecDepth 100000 in
set_option maxHeartbeats 1000000 in
theorem d_pagesOf (hsm : ∀ k, sm k < 2 ^ 30) (s : Nat) (hs : s < 6) : Ret (gg D cI cB cL bb L xs) mY_pagesOf (n + 1) 0 0 [.ref hm, .int (nI s)] (zW z0 z1 z2 z3 z4 z5 cI cB hm b1 b2 b3 b4 cd F sx pd th sm u rest) (some (.int (nI (gcnt (fun p => decide (¬ sm (8 * s + p) = 0)) 8)))) (zW z0 z1 z2 z3 z4 z5 cI cB hm b1 b2 b3 b4 cd F sx pd th sm u rest) := by
  intro Psi hf
  show Go _ _ _ _ _ 0 [(0, .ref hm), (1, .int (nI s))] [] _ Psi
  refine go_iconst (pc := 0) (v := 0) (by decide) eY_pagesOf_0 ?_
  refine go_istore_n (pc := 1) (ls' := [(2, _), (0, _), (1, _)]) 2 rfl (by decide) eY_pagesOf_1 rfl ?_
  refine go_iconst (pc := 2) (v := 0) (by decide) eY_pagesOf_2 ?_
  refine go_istore_n (pc := 3) (ls' := [(3, _), (2, _), (0, _), (1, _)]) 3 rfl (by decide) eY_pagesOf_3 rfl ?_
  refine go_ls [0, 1, 2, 3] rfl ?_
  exact k_pagesOf hsm s hs hf 8 0 (by omega)
set_option maxRecDepth 100000 in
set_option maxHeartbeats 1000000 in
theorem k_freeA (j : Nat) (hj : j < 6) (hj0 : th j = false) (hlt : ∀ q, q < j → th q = true) {Psi : gR → va_W → Prop} (hf : Psi (.inl (some (.int (nI j)))) (zW z0 z1 z2 z3 z4 z5 cI cB hm b1 b2 b3 b4 cd F sx pd th sm u rest)) : ∀ (m i : Nat), i + m = j → Go (gg D cI cB cL bb L xs) mY_free n 0 0 2 [(1, .int (nI i)), (0, .ref hm)] [] (zW z0 z1 z2 z3 z4 z5 cI cB hm b1 b2 b3 b4 cd F sx pd th sm u rest) Psi := by
  intro m
  induction m with
  | zero =>
    intro i hi
    obtain rfl : i = j := by omega
    refine go_iload_n (pc := 2) 1 0 rfl rfl eY_free_2 ?_
    refine go_bipush (pc := 3) (v := 6) (by decide) eY_free_3 ?_
    refine go_icmp_ge (pc := 5) 23 (by decide) eY_free_5 (fun c5 => ?_) (fun c5 => ?_)
    · exact absurd c5 (nI_ge (b := 6) (by omega) (by omega))
    · refine go_aload_n (pc := 8) 0 1 rfl rfl eY_free_8 ?_
      refine go_get (pc := 9) hwY 6 rfl rfl 4 (by decide) lkY_13 rfl eY_free_9 ?_
      refine go_iload_n (pc := 12) 1 0 rfl rfl eY_free_12 ?_
      refine go_zaldN (pc := 13) 8 1 (i) eY_free_13 rfl rfl (rfl) (by omega) (by omega) ?_
      refine go_if_eq (pc := 14) 23 (by decide) eY_free_14 (fun c14 => ?_) (fun c14 => ?_)
      · refine go_iload_n (pc := 23) 1 0 rfl rfl eY_free_23 ?_
        refine go_bipush (pc := 24) (v := 6) (by decide) eY_free_24 ?_
        refine go_icmp_ge (pc := 26) 33 (by decide) eY_free_26 (fun c26 => ?_) (fun c26 => ?_)
        · exact absurd c26 (nI_ge (b := 6) (by omega) (by omega))
        · refine go_iload_n (pc := 29) 1 0 rfl rfl eY_free_29 ?_
          refine go_goto (pc := 30) 34 (by decide) eY_free_30 ?_
          exact go_iret (pc := 34) rfl rfl eY_free_34 (hf)
      · exact absurd (bI0.mpr hj0) c14
  | succ m ih =>
    intro i hi
    refine go_iload_n (pc := 2) 1 0 rfl rfl eY_free_2 ?_
    refine go_bipush (pc := 3) (v := 6) (by decide) eY_free_3 ?_
    refine go_icmp_ge (pc := 5) 23 (by decide) eY_free_5 (fun c5 => ?_) (fun c5 => ?_)
    · exact absurd c5 (nI_ge (b := 6) (by omega) (by omega))
    · refine go_aload_n (pc := 8) 0 1 rfl rfl eY_free_8 ?_
      refine go_get (pc := 9) hwY 6 rfl rfl 4 (by decide) lkY_13 rfl eY_free_9 ?_
      refine go_iload_n (pc := 12) 1 0 rfl rfl eY_free_12 ?_
      refine go_zaldN (pc := 13) 8 1 (i) eY_free_13 rfl rfl (rfl) (by omega) (by omega) ?_
      refine go_if_eq (pc := 14) 23 (by decide) eY_free_14 (fun c14 => ?_) (fun c14 => ?_)
      · exact absurd (bI0.mp c14) (by rw [hlt i (by omega)]; decide)
      · refine go_iinc (pc := 17) (z := 1) (v := nI (i + 1)) (ls' := [(1, _), (0, _)]) 1 0 rfl (nI_1 i) (by decide) eY_free_17 rfl ?_
        refine go_goto (pc := 20) 2 (by decide) eY_free_20 ?_
        exact ih (i + 1) (by omega)
set_option maxRecDepth 100000 in
set_option maxHeartbeats 1000000 in
theorem d_freeA (j : Nat) (hj : j < 6) (hj0 : th j = false) (hlt : ∀ q, q < j → th q = true) : Ret (gg D cI cB cL bb L xs) mY_free n 0 0 [.ref hm] (zW z0 z1 z2 z3 z4 z5 cI cB hm b1 b2 b3 b4 cd F sx pd th sm u rest) (some (.int (nI j))) (zW z0 z1 z2 z3 z4 z5 cI cB hm b1 b2 b3 b4 cd F sx pd th sm u rest) := by
  intro Psi hf
  show Go _ _ _ _ _ 0 [(0, .ref hm)] [] _ Psi
  refine go_iconst (pc := 0) (v := 0) (by decide) eY_free_0 ?_
  refine go_istore_n (pc := 1) (ls' := [(1, _), (0, _)]) 1 rfl (by decide) eY_free_1 rfl ?_
  exact k_freeA j hj hj0 hlt hf j 0 (by omega)
set_option maxRecDepth 100000 in
set_option maxHeartbeats 1000000 in
theorem k_freeB (hlt : ∀ q, q < 6 → th q = true) {Psi : gR → va_W → Prop} (hf : Psi (.inl (some (.int (-1)))) (zW z0 z1 z2 z3 z4 z5 cI cB hm b1 b2 b3 b4 cd F sx pd th sm u rest)) : ∀ (m i : Nat), i + m = 6 → Go (gg D cI cB cL bb L xs) mY_free n 0 0 2 [(1, .int (nI i)), (0, .ref hm)] [] (zW z0 z1 z2 z3 z4 z5 cI cB hm b1 b2 b3 b4 cd F sx pd th sm u rest) Psi := by
  intro m
  induction m with
  | zero =>
    intro i hi
    obtain rfl : i = 6 := by omega
    refine go_iload_n (pc := 2) 1 0 rfl rfl eY_free_2 ?_
    refine go_bipush (pc := 3) (v := 6) (by decide) eY_free_3 ?_
    refine go_icmp_ge (pc := 5) 23 (by decide) eY_free_5 (fun c5 => ?_) (fun c5 => ?_)
    · refine go_iload_n (pc := 23) 1 0 rfl rfl eY_free_23 ?_
      refine go_bipush (pc := 24) (v := 6) (by decide) eY_free_24 ?_
      refine go_icmp_ge (pc := 26) 33 (by decide) eY_free_26 (fun c26 => ?_) (fun c26 => ?_)
      · refine go_iconst (pc := 33) (v := (-1)) (by decide) eY_free_33 ?_
        exact go_iret (pc := 34) rfl rfl eY_free_34 (hf)
      · exact absurd (show (6 : Int32) ≤ nI 6 by decide) c26
    · exact absurd (show (6 : Int32) ≤ nI 6 by decide) c5
  | succ m ih =>
    intro i hi
    refine go_iload_n (pc := 2) 1 0 rfl rfl eY_free_2 ?_
    refine go_bipush (pc := 3) (v := 6) (by decide) eY_free_3 ?_
    refine go_icmp_ge (pc := 5) 23 (by decide) eY_free_5 (fun c5 => ?_) (fun c5 => ?_)
    · exact absurd c5 (nI_ge (b := 6) (by omega) (by omega))
    · refine go_aload_n (pc := 8) 0 1 rfl rfl eY_free_8 ?_
      refine go_get (pc := 9) hwY 6 rfl rfl 4 (by decide) lkY_13 rfl eY_free_9 ?_
      refine go_iload_n (pc := 12) 1 0 rfl rfl eY_free_12 ?_
      refine go_zaldN (pc := 13) 8 1 (i) eY_free_13 rfl rfl (rfl) (by omega) (by omega) ?_
      refine go_if_eq (pc := 14) 23 (by decide) eY_free_14 (fun c14 => ?_) (fun c14 => ?_)
      · exact absurd (bI0.mp c14) (by rw [hlt i (by omega)]; decide)
      · refine go_iinc (pc := 17) (z := 1) (v := nI (i + 1)) (ls' := [(1, _), (0, _)]) 1 0 rfl (nI_1 i) (by decide) eY_free_17 rfl ?_
        refine go_goto (pc := 20) 2 (by decide) eY_free_20 ?_
        exact ih (i + 1) (by omega)
set_option maxRecDepth 100000 in
set_option maxHeartbeats 1000000 in
theorem d_freeB (hlt : ∀ q, q < 6 → th q = true) : Ret (gg D cI cB cL bb L xs) mY_free n 0 0 [.ref hm] (zW z0 z1 z2 z3 z4 z5 cI cB hm b1 b2 b3 b4 cd F sx pd th sm u rest) (some (.int (-1))) (zW z0 z1 z2 z3 z4 z5 cI cB hm b1 b2 b3 b4 cd F sx pd th sm u rest) := by
  intro Psi hf
  show Go _ _ _ _ _ 0 [(0, .ref hm)] [] _ Psi
  refine go_iconst (pc := 0) (v := 0) (by decide) eY_free_0 ?_
  refine go_istore_n (pc := 1) (ls' := [(1, _), (0, _)]) 1 rfl (by decide) eY_free_1 rfl ?_
  exact k_freeB hlt hf 6 0 (by omega)
set_option maxRecDepth 100000 in
set_option maxHeartbeats 1000000 in
theorem k_cp (f t : Nat) (hf0 : f < 432) (ht0 : t < 432) {Psi : gR → va_W → Prop} (hf : Psi (.inl none) (zW z0 z1 z2 z3 z4 z5 cI cB hm b1 b2 b3 b4 cd F sx pd th sm (va_cpy u u (16 * f) (16 * t) 16) rest)) : ∀ (m i : Nat), i + m = 16 → Go (gg D cI cB cL bb L xs) mY_copyPage n 0 0 14 [(3, .int (nI i)), (0, .ref hm), (1, .int (nI f)), (2, .int (nI t))] [] (zW z0 z1 z2 z3 z4 z5 cI cB hm b1 b2 b3 b4 cd F sx pd th sm (va_cpy u u (16 * f) (16 * t) i) rest) Psi := by
  intro m
  induction m with
  | zero =>
    intro i hi
    obtain rfl : i = 16 := by omega
    refine go_iload_n (pc := 14) 3 0 rfl rfl eY_copyPage_14 ?_
    refine go_bipush (pc := 15) (v := 16) (by decide) eY_copyPage_15 ?_
    refine go_icmp_ge (pc := 17) 48 (by decide) eY_copyPage_17 (fun c17 => ?_) (fun c17 => ?_)
    · exact go_vret (pc := 48) rfl eY_copyPage_48 (hf)
    · exact absurd (show (16 : Int32) ≤ nI 16 by decide) c17
  | succ m ih =>
    intro i hi
    refine go_iload_n (pc := 14) 3 0 rfl rfl eY_copyPage_14 ?_
    refine go_bipush (pc := 15) (v := 16) (by decide) eY_copyPage_15 ?_
    refine go_icmp_ge (pc := 17) 48 (by decide) eY_copyPage_17 (fun c17 => ?_) (fun c17 => ?_)
    · exact absurd c17 (nI_ge (b := 16) (by omega) (by omega))
    · refine go_aload_n (pc := 20) 0 1 rfl rfl eY_copyPage_20 ?_
      refine go_get (pc := 21) hwY 6 rfl rfl 6 (by decide) lkY_20 rfl eY_copyPage_21 ?_
      refine go_bipush (pc := 24) (v := 16) (by decide) eY_copyPage_24 ?_
      refine go_iload_n (pc := 26) 2 3 rfl rfl eY_copyPage_26 ?_
      refine go_imul (pc := 27) eY_copyPage_27 ?_
      refine go_iload_n (pc := 28) 3 0 rfl rfl eY_copyPage_28 ?_
      refine go_iadd (pc := 29) eY_copyPage_29 ?_
      refine go_aload_n (pc := 30) 0 1 rfl rfl eY_copyPage_30 ?_
      refine go_get (pc := 31) hwY 6 rfl rfl 6 (by decide) lkY_20 rfl eY_copyPage_31 ?_
      refine go_bipush (pc := 34) (v := 16) (by decide) eY_copyPage_34 ?_
      refine go_iload_n (pc := 36) 1 2 rfl rfl eY_copyPage_36 ?_
      refine go_imul (pc := 37) eY_copyPage_37 ?_
      refine go_iload_n (pc := 38) 3 0 rfl rfl eY_copyPage_38 ?_
      refine go_iadd (pc := 39) eY_copyPage_39 ?_
      refine go_ialdN (pc := 40) 10 0 (16 * f + i) eY_copyPage_40 rfl rfl (n16 f i) (by omega) (by omega) ?_
      rw [pk_cpy_out (by omega)]
      refine go_iastN (pc := 41) (es' := (zW z0 z1 z2 z3 z4 z5 cI cB hm b1 b2 b3 b4 cd F sx pd th sm (va_cpy u u (16 * f) (16 * t) (i + 1)) rest)) 10 0 (16 * t + i) eY_copyPage_41 rfl rfl (n16 t i) (by omega) (by omega) (ys10 cpy_up) ?_
      refine go_iinc (pc := 42) (z := 1) (v := nI (i + 1)) (ls' := [(3, _), (0, _), (1, _), (2, _)]) 3 0 rfl (nI_1 i) (by decide) eY_copyPage_42 rfl ?_
      refine go_goto (pc := 45) 14 (by decide) eY_copyPage_45 ?_
      exact ih (i + 1) (by omega)
set_option maxRecDepth 100000 in
set_option maxHeartbeats 1000000 in
theorem d_cp (f t : Nat) (hf0 : f < 432) (ht0 : t < 432) : Ret (gg D cI cB cL bb L xs) mY_copyPage n 0 0 [.ref hm, .int (nI f), .int (nI t)] (zW z0 z1 z2 z3 z4 z5 cI cB hm b1 b2 b3 b4 cd F sx pd th sm u rest) none (zW z0 z1 z2 z3 z4 z5 cI cB hm b1 b2 b3 b4 cd F sx pd th (va_up sm t (sm f)) (va_cpy u u (16 * f) (16 * t) 16) rest) := by
  intro Psi hf
  show Go _ _ _ _ _ 0 [(0, .ref hm), (1, .int (nI f)), (2, .int (nI t))] [] _ Psi
  refine go_aload_n (pc := 0) 0 0 rfl rfl eY_copyPage_0 ?_
  refine go_get (pc := 1) hwY 6 rfl rfl 5 (by decide) lkY_16 rfl eY_copyPage_1 ?_
  refine go_iload_n (pc := 4) 2 2 rfl rfl eY_copyPage_4 ?_
  refine go_aload_n (pc := 5) 0 0 rfl rfl eY_copyPage_5 ?_
  refine go_get (pc := 6) hwY 6 rfl rfl 5 (by decide) lkY_16 rfl eY_copyPage_6 ?_
  refine go_iload_n (pc := 9) 1 1 rfl rfl eY_copyPage_9 ?_
  refine go_ialdN (pc := 10) 9 0 (f) eY_copyPage_10 rfl rfl (rfl) (hf0) (by omega) ?_
  refine go_iastN (pc := 11) (es' := (zW z0 z1 z2 z3 z4 z5 cI cB hm b1 b2 b3 b4 cd F sx pd th (va_up sm t (sm f)) u rest)) 9 0 t eY_copyPage_11 rfl rfl rfl ht0 (by omega) (ys9 upd_n) ?_
  refine go_iconst (pc := 12) (v := 0) (by decide) eY_copyPage_12 ?_
  refine go_istore_n (pc := 13) (ls' := [(3, _), (0, _), (1, _), (2, _)]) 3 rfl (by decide) eY_copyPage_13 rfl ?_
  refine go_es (es' := (zW z0 z1 z2 z3 z4 z5 cI cB hm b1 b2 b3 b4 cd F sx pd th (va_up sm t (sm f)) (va_cpy u u (16 * f) (16 * t) 0) rest)) (by rw [cpy_0]) ?_
  exact k_cp f t hf0 ht0 hf 16 0 (by omega)
set_option maxRecDepth 100000 in
set_option maxHeartbeats 1000000 in
theorem k_cr2 (f t : Nat) (hf0 : f < 9) (ht0 : t < 9) (hft : f ≠ t) {th' : Nat → Bool} {Psi : gR → va_W → Prop} (hf : Psi (.inl none) (zW z0 z1 z2 z3 z4 z5 cI cB hm b1 b2 b3 b4 cd F sx pd th' (va_cpy sm sm (48 * f) (48 * t) 48) (va_cpy u u (768 * f) (768 * t) (16 * 48)) rest)) : ∀ (m i : Nat), i + m = 48 → Go (gg D cI cB cL bb L xs) mY_copyRow (n + 1) 0 0 38 [(3, .int (nI i)), (0, .ref hm), (1, .int (nI f)), (2, .int (nI t))] [] (zW z0 z1 z2 z3 z4 z5 cI cB hm b1 b2 b3 b4 cd F sx pd th' (va_cpy sm sm (48 * f) (48 * t) i) (va_cpy u u (768 * f) (768 * t) (16 * i)) rest) Psi := by
  intro m
  induction m with
  | zero =>
    intro i hi
    obtain rfl : i = 48 := by omega
    refine go_iload_n (pc := 38) 3 0 rfl rfl eY_copyRow_38 ?_
    refine go_bipush (pc := 39) (v := 48) (by decide) eY_copyRow_39 ?_
    refine go_icmp_ge (pc := 41) 66 (by decide) eY_copyRow_41 (fun c41 => ?_) (fun c41 => ?_)
    · exact go_vret (pc := 66) rfl eY_copyRow_66 (hf)
    · exact absurd (show (48 : Int32) ≤ nI 48 by decide) c41
  | succ m ih =>
    intro i hi
    refine go_iload_n (pc := 38) 3 0 rfl rfl eY_copyRow_38 ?_
    refine go_bipush (pc := 39) (v := 48) (by decide) eY_copyRow_39 ?_
    refine go_icmp_ge (pc := 41) 66 (by decide) eY_copyRow_41 (fun c41 => ?_) (fun c41 => ?_)
    · exact absurd c41 (nI_ge (b := 48) (by omega) (by omega))
    · refine go_aload_n (pc := 44) 0 1 rfl rfl eY_copyRow_44 ?_
      refine go_bipush (pc := 45) (v := 48) (by decide) eY_copyRow_45 ?_
      refine go_iload_n (pc := 47) 1 2 rfl rfl eY_copyRow_47 ?_
      refine go_imul (pc := 48) eY_copyRow_48 ?_
      refine go_iload_n (pc := 49) 3 0 rfl rfl eY_copyRow_49 ?_
      refine go_iadd (pc := 50) eY_copyRow_50 ?_
      rw [n48]
      refine go_bipush (pc := 51) (v := 48) (by decide) eY_copyRow_51 ?_
      refine go_iload_n (pc := 53) 2 3 rfl rfl eY_copyRow_53 ?_
      refine go_imul (pc := 54) eY_copyRow_54 ?_
      refine go_iload_n (pc := 55) 3 0 rfl rfl eY_copyRow_55 ?_
      refine go_iadd (pc := 56) eY_copyRow_56 ?_
      rw [n48]
      refine go_rV0 (pc := 57) 6 (d_cp (48 * f + i) (48 * t + i) (by omega) (by omega)) okY_copyPage lmY_30 eY_copyRow_57 rfl rfl rfl rfl rfl (Nat.le_of_ble_eq_true rfl) (Nat.le_of_ble_eq_true rfl) ?_
      rw [pk_cpy_out (show _ from by omega), cpy_up, show 16 * (48 * f + i) = 768 * f + 16 * i from by omega, show 16 * (48 * t + i) = 768 * t + 16 * i from by omega, cpy_blk (by omega) (by omega)]
      refine go_iinc (pc := 60) (z := 1) (v := nI (i + 1)) (ls' := [(3, _), (0, _), (1, _), (2, _)]) 3 0 rfl (nI_1 i) (by decide) eY_copyRow_60 rfl ?_
      refine go_goto (pc := 63) 38 (by decide) eY_copyRow_63 ?_
      exact ih (i + 1) (by omega)
set_option maxRecDepth 100000 in
set_option maxHeartbeats 1000000 in
theorem k_cr1 (f t : Nat) (hf0 : f < 9) (ht0 : t < 9) (hft : f ≠ t) {Psi : gR → va_W → Prop} (hf : Psi (.inl none) (zW z0 z1 z2 z3 z4 z5 cI cB hm b1 b2 b3 b4 cd F sx pd (va_cpy th th (6 * f) (6 * t) 6) (va_cpy sm sm (48 * f) (48 * t) 48) (va_cpy u u (768 * f) (768 * t) (16 * 48)) rest)) : ∀ (m i : Nat), i + m = 6 → Go (gg D cI cB cL bb L xs) mY_copyRow (n + 1) 0 0 2 [(3, .int (nI i)), (0, .ref hm), (1, .int (nI f)), (2, .int (nI t))] [] (zW z0 z1 z2 z3 z4 z5 cI cB hm b1 b2 b3 b4 cd F sx pd (va_cpy th th (6 * f) (6 * t) i) sm u rest) Psi := by
  intro m
  induction m with
  | zero =>
    intro i hi
    obtain rfl : i = 6 := by omega
    refine go_iload_n (pc := 2) 3 0 rfl rfl eY_copyRow_2 ?_
    refine go_bipush (pc := 3) (v := 6) (by decide) eY_copyRow_3 ?_
    refine go_icmp_ge (pc := 5) 36 (by decide) eY_copyRow_5 (fun c5 => ?_) (fun c5 => ?_)
    · refine go_iconst (pc := 36) (v := 0) (by decide) eY_copyRow_36 ?_
      refine go_istore_n (pc := 37) (ls' := [(3, _), (0, _), (1, _), (2, _)]) 3 rfl (by decide) eY_copyRow_37 rfl ?_
      refine go_es (es' := (zW z0 z1 z2 z3 z4 z5 cI cB hm b1 b2 b3 b4 cd F sx pd (va_cpy th th (6 * f) (6 * t) 6) (va_cpy sm sm (48 * f) (48 * t) 0) (va_cpy u u (768 * f) (768 * t) (16 * 0)) rest)) (by rw [cpy_0, show 16 * 0 = 0 from rfl, cpy_0]) ?_
      exact k_cr2 f t hf0 ht0 hft hf 48 0 (by omega)
    · exact absurd (show (6 : Int32) ≤ nI 6 by decide) c5
  | succ m ih =>
    intro i hi
    refine go_iload_n (pc := 2) 3 0 rfl rfl eY_copyRow_2 ?_
    refine go_bipush (pc := 3) (v := 6) (by decide) eY_copyRow_3 ?_
    refine go_icmp_ge (pc := 5) 36 (by decide) eY_copyRow_5 (fun c5 => ?_) (fun c5 => ?_)
    · exact absurd c5 (nI_ge (b := 6) (by omega) (by omega))
    · refine go_aload_n (pc := 8) 0 1 rfl rfl eY_copyRow_8 ?_
      refine go_get (pc := 9) hwY 6 rfl rfl 4 (by decide) lkY_13 rfl eY_copyRow_9 ?_
      refine go_bipush (pc := 12) (v := 6) (by decide) eY_copyRow_12 ?_
      refine go_iload_n (pc := 14) 2 3 rfl rfl eY_copyRow_14 ?_
      refine go_imul (pc := 15) eY_copyRow_15 ?_
      refine go_iload_n (pc := 16) 3 0 rfl rfl eY_copyRow_16 ?_
      refine go_iadd (pc := 17) eY_copyRow_17 ?_
      rw [n6]
      refine go_aload_n (pc := 18) 0 1 rfl rfl eY_copyRow_18 ?_
      refine go_get (pc := 19) hwY 6 rfl rfl 4 (by decide) lkY_13 rfl eY_copyRow_19 ?_
      refine go_bipush (pc := 22) (v := 6) (by decide) eY_copyRow_22 ?_
      refine go_iload_n (pc := 24) 1 2 rfl rfl eY_copyRow_24 ?_
      refine go_imul (pc := 25) eY_copyRow_25 ?_
      refine go_iload_n (pc := 26) 3 0 rfl rfl eY_copyRow_26 ?_
      refine go_iadd (pc := 27) eY_copyRow_27 ?_
      refine go_zaldN (pc := 28) 8 1 (6 * f + i) eY_copyRow_28 rfl rfl (n6 f i) (by omega) (by omega) ?_
      rw [pk_cpy_out (by omega)]
      refine go_zastN (pc := 29) (es' := (zW z0 z1 z2 z3 z4 z5 cI cB hm b1 b2 b3 b4 cd F sx pd (va_cpy th th (6 * f) (6 * t) (i + 1)) sm u rest)) 8 1 (6 * t + i) eY_copyRow_29 rfl rfl rfl (by omega) (by omega) (ys8 ((upd_b rfl).trans (by rw [cpy_up]))) ?_
      refine go_iinc (pc := 30) (z := 1) (v := nI (i + 1)) (ls' := [(3, _), (0, _), (1, _), (2, _)]) 3 0 rfl (nI_1 i) (by decide) eY_copyRow_30 rfl ?_
      refine go_goto (pc := 33) 2 (by decide) eY_copyRow_33 ?_
      exact ih (i + 1) (by omega)
set_option maxRecDepth 100000 in
set_option maxHeartbeats 1000000 in
theorem d_cr (f t : Nat) (hf0 : f < 9) (ht0 : t < 9) (hft : f ≠ t) : Ret (gg D cI cB cL bb L xs) mY_copyRow (n + 1) 0 0 [.ref hm, .int (nI f), .int (nI t)] (zW z0 z1 z2 z3 z4 z5 cI cB hm b1 b2 b3 b4 cd F sx pd th sm u rest) none (zW z0 z1 z2 z3 z4 z5 cI cB hm b1 b2 b3 b4 cd F sx pd (va_cpy th th (6 * f) (6 * t) 6) (va_cpy sm sm (48 * f) (48 * t) 48) (va_cpy u u (768 * f) (768 * t) (16 * 48)) rest) := by
  intro Psi hf
  show Go _ _ _ _ _ 0 [(0, .ref hm), (1, .int (nI f)), (2, .int (nI t))] [] _ Psi
  refine go_iconst (pc := 0) (v := 0) (by decide) eY_copyRow_0 ?_
  refine go_istore_n (pc := 1) (ls' := [(3, _), (0, _), (1, _), (2, _)]) 3 rfl (by decide) eY_copyRow_1 rfl ?_
  refine go_es (es' := (zW z0 z1 z2 z3 z4 z5 cI cB hm b1 b2 b3 b4 cd F sx pd (va_cpy th th (6 * f) (6 * t) 0) sm u rest)) (by rw [cpy_0]) ?_
  exact k_cr1 f t hf0 ht0 hft hf 6 0 (by omega)
set_option maxRecDepth 100000 in
set_option maxHeartbeats 1000000 in
theorem k_em (r s : Nat) (hr : r < 9) (hs : s < 6) {Psi : gR → va_W → Prop} (hf : Psi (.inl none) (zW z0 z1 z2 z3 z4 z5 cI cB hm b1 b2 b3 b4 cd F sx pd th (va_cpy (fun _ => 0) sm 0 (8 * (6 * r + s)) 8) u rest)) : ∀ (m i : Nat), i + m = 8 → Go (gg D cI cB cL bb L xs) mY_empty (n + 1) 0 0 14 [(3, .int (nI i)), (0, .ref hm), (1, .int (nI r)), (2, .int (nI s))] [] (zW z0 z1 z2 z3 z4 z5 cI cB hm b1 b2 b3 b4 cd F sx pd th (va_cpy (fun _ => 0) sm 0 (8 * (6 * r + s)) i) u rest) Psi := by
  intro m
  induction m with
  | zero =>
    intro i hi
    obtain rfl : i = 8 := by omega
    refine go_iload_n (pc := 14) 3 0 rfl rfl eY_empty_14 ?_
    refine go_bipush (pc := 15) (v := 8) (by decide) eY_empty_15 ?_
    refine go_icmp_ge (pc := 17) 38 (by decide) eY_empty_17 (fun c17 => ?_) (fun c17 => ?_)
    · exact go_vret (pc := 38) rfl eY_empty_38 (hf)
    · exact absurd (show (8 : Int32) ≤ nI 8 by decide) c17
  | succ m ih =>
    intro i hi
    refine go_iload_n (pc := 14) 3 0 rfl rfl eY_empty_14 ?_
    refine go_bipush (pc := 15) (v := 8) (by decide) eY_empty_15 ?_
    refine go_icmp_ge (pc := 17) 38 (by decide) eY_empty_17 (fun c17 => ?_) (fun c17 => ?_)
    · exact absurd c17 (nI_ge (b := 8) (by omega) (by omega))
    · refine go_aload_n (pc := 20) 0 1 rfl rfl eY_empty_20 ?_
      refine go_get (pc := 21) hwY 6 rfl rfl 5 (by decide) lkY_16 rfl eY_empty_21 ?_
      refine go_iload_n (pc := 24) 1 2 rfl rfl eY_empty_24 ?_
      refine go_iload_n (pc := 25) 2 3 rfl rfl eY_empty_25 ?_
      refine go_iload_n (pc := 26) 3 0 rfl rfl eY_empty_26 ?_
      refine go_rS (pc := 27) (d_page r s i) okY_page lmY_34 eY_empty_27 rfl rfl (Nat.le_of_ble_eq_true rfl) (Nat.le_of_ble_eq_true rfl) ?_
      refine go_iconst (pc := 30) (v := 0) (by decide) eY_empty_30 ?_
      refine go_iastN (pc := 31) (es' := (zW z0 z1 z2 z3 z4 z5 cI cB hm b1 b2 b3 b4 cd F sx pd th (va_cpy (fun _ => 0) sm 0 (8 * (6 * r + s)) (i + 1)) u rest)) 9 0 (8 * (6 * r + s) + i) eY_empty_31 rfl rfl rfl (by omega) (by omega) (ys9 ((upd_n (x := 0)).trans (by rw [← cpy_up]))) ?_
      refine go_iinc (pc := 32) (z := 1) (v := nI (i + 1)) (ls' := [(3, _), (0, _), (1, _), (2, _)]) 3 0 rfl (nI_1 i) (by decide) eY_empty_32 rfl ?_
      refine go_goto (pc := 35) 14 (by decide) eY_empty_35 ?_
      exact ih (i + 1) (by omega)
set_option maxRecDepth 100000 in
set_option maxHeartbeats 1000000 in
theorem d_em (r s : Nat) (hr : r < 9) (hs : s < 6) : Ret (gg D cI cB cL bb L xs) mY_empty (n + 1) 0 0 [.ref hm, .int (nI r), .int (nI s)] (zW z0 z1 z2 z3 z4 z5 cI cB hm b1 b2 b3 b4 cd F sx pd th sm u rest) none (zW z0 z1 z2 z3 z4 z5 cI cB hm b1 b2 b3 b4 cd F sx pd (va_up th (6 * r + s) false) (va_cpy (fun _ => 0) sm 0 (8 * (6 * r + s)) 8) u rest) := by
  intro Psi hf
  show Go _ _ _ _ _ 0 [(0, .ref hm), (1, .int (nI r)), (2, .int (nI s))] [] _ Psi
  refine go_aload_n (pc := 0) 0 0 rfl rfl eY_empty_0 ?_
  refine go_get (pc := 1) hwY 6 rfl rfl 4 (by decide) lkY_13 rfl eY_empty_1 ?_
  refine go_bipush (pc := 4) (v := 6) (by decide) eY_empty_4 ?_
  refine go_iload_n (pc := 6) 1 1 rfl rfl eY_empty_6 ?_
  refine go_imul (pc := 7) eY_empty_7 ?_
  refine go_iload_n (pc := 8) 2 2 rfl rfl eY_empty_8 ?_
  refine go_iadd (pc := 9) eY_empty_9 ?_
  rw [n6]
  refine go_iconst (pc := 10) (v := 0) (by decide) eY_empty_10 ?_
  refine go_zastN (pc := 11) (es' := (zW z0 z1 z2 z3 z4 z5 cI cB hm b1 b2 b3 b4 cd F sx pd (va_up th (6 * r + s) false) sm u rest)) 8 1 (6 * r + s) eY_empty_11 rfl rfl rfl (by omega) (by omega) (ys8 (upd_b (b := false) rfl)) ?_
  refine go_iconst (pc := 12) (v := 0) (by decide) eY_empty_12 ?_
  refine go_istore_n (pc := 13) (ls' := [(3, _), (0, _), (1, _), (2, _)]) 3 rfl (by decide) eY_empty_13 rfl ?_
  refine go_es (es' := (zW z0 z1 z2 z3 z4 z5 cI cB hm b1 b2 b3 b4 cd F sx pd (va_up th (6 * r + s) false) (va_cpy (fun _ => 0) sm 0 (8 * (6 * r + s)) 0) u rest)) (by rw [cpy_0]) ?_
  exact k_em r s hr hs hf 8 0 (by omega)
end Sya
