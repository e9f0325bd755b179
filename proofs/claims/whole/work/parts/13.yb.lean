section Syb
variable {D : va_G} {cI cB cL : ClassId} {bb L : Nat} {xs : Nat → Int32} {n hm b1 b2 b3 b4 F sx : Nat} {cd : Int32} {pd th : Nat → Bool} {sm : Nat → Nat} {u : Nat → Int32} {z0 z1 z2 z3 z4 z5 : Nat × va_E} {rest es : va_W}
set_option maxRecDepth 100000 in
set_option maxHeartbeats 1000000 in
theorem d_open1 (j : Nat) (hj : j < 6) (hj0 : th j = false) (hlt : ∀ q, q < j → th q = true) : Ret (gg D cI cB cL bb L xs) mY_open (n + 1) 0 0 [.ref hm] (zW z0 z1 z2 z3 z4 z5 cI cB hm b1 b2 b3 b4 cd F sx pd th sm u rest) (some (.int (nI j))) (zW z0 z1 z2 z3 z4 z5 cI cB hm b1 b2 b3 b4 0 F sx pd (va_up th j true) sm u rest) := by
  intro Psi hf
  show Go _ _ _ _ _ 0 [(0, .ref hm)] [] _ Psi
  refine go_aload_n (pc := 0) 0 0 rfl rfl eY_open_0 ?_
  refine go_iconst (pc := 1) (v := 0) (by decide) eY_open_1 ?_
  refine go_put (pc := 2) (ty := .int) (es' := (zW z0 z1 z2 z3 z4 z5 cI cB hm b1 b2 b3 b4 0 F sx pd th sm u rest)) hwY tyY tyY_ok nmY 6 rfl rfl 0 (by decide) lkY_27 rfl (by decide +kernel) rfl rfl (Nat.le_of_ble_eq_true rfl) eY_open_2 rfl ?_
  refine go_aload_n (pc := 5) 0 0 rfl rfl eY_open_5 ?_
  refine go_rV (pc := 6) 6 (d_freeA j hj hj0 hlt) okY_free lmY_38 eY_open_6 rfl rfl rfl rfl rfl (Nat.le_of_ble_eq_true rfl) (Nat.le_of_ble_eq_true rfl) ?_
  refine go_istore_n (pc := 9) (ls' := [(1, _), (0, _)]) 1 rfl (by decide) eY_open_9 rfl ?_
  refine go_iload_n (pc := 10) 1 0 rfl rfl eY_open_10 ?_
  refine go_if_lt (pc := 11) 21 (by decide) eY_open_11 (fun c11 => ?_) (fun c11 => ?_)
  · exact absurd c11 (nI_pos (by omega))
  · refine go_aload_n (pc := 14) 0 1 rfl rfl eY_open_14 ?_
    refine go_get (pc := 15) hwY 6 rfl rfl 4 (by decide) lkY_13 rfl eY_open_15 ?_
    refine go_iload_n (pc := 18) 1 0 rfl rfl eY_open_18 ?_
    refine go_iconst (pc := 19) (v := 1) (by decide) eY_open_19 ?_
    refine go_zastN (pc := 20) (es' := (zW z0 z1 z2 z3 z4 z5 cI cB hm b1 b2 b3 b4 0 F sx pd (va_up th j true) sm u rest)) 8 1 j eY_open_20 rfl rfl rfl (by omega) (by omega) (ys8 (upd_b (b := true) rfl)) ?_
    refine go_iload_n (pc := 21) 1 0 rfl rfl eY_open_21 ?_
    exact go_iret (pc := 22) rfl rfl eY_open_22 (hf)
set_option maxRecDepth 100000 in
set_option maxHeartbeats 1000000 in
theorem d_open0 (hlt : ∀ q, q < 6 → th q = true) : Ret (gg D cI cB cL bb L xs) mY_open (n + 1) 0 0 [.ref hm] (zW z0 z1 z2 z3 z4 z5 cI cB hm b1 b2 b3 b4 cd F sx pd th sm u rest) (some (.int (-1))) (zW z0 z1 z2 z3 z4 z5 cI cB hm b1 b2 b3 b4 0 F sx pd th sm u rest) := by
  intro Psi hf
  show Go _ _ _ _ _ 0 [(0, .ref hm)] [] _ Psi
  refine go_aload_n (pc := 0) 0 0 rfl rfl eY_open_0 ?_
  refine go_iconst (pc := 1) (v := 0) (by decide) eY_open_1 ?_
  refine go_put (pc := 2) (ty := .int) (es' := (zW z0 z1 z2 z3 z4 z5 cI cB hm b1 b2 b3 b4 0 F sx pd th sm u rest)) hwY tyY tyY_ok nmY 6 rfl rfl 0 (by decide) lkY_27 rfl (by decide +kernel) rfl rfl (Nat.le_of_ble_eq_true rfl) eY_open_2 rfl ?_
  refine go_aload_n (pc := 5) 0 0 rfl rfl eY_open_5 ?_
  refine go_rV (pc := 6) 6 (d_freeB hlt) okY_free lmY_38 eY_open_6 rfl rfl rfl rfl rfl (Nat.le_of_ble_eq_true rfl) (Nat.le_of_ble_eq_true rfl) ?_
  refine go_istore_n (pc := 9) (ls' := [(1, _), (0, _)]) 1 rfl (by decide) eY_open_9 rfl ?_
  refine go_iload_n (pc := 10) 1 0 rfl rfl eY_open_10 ?_
  refine go_if_lt (pc := 11) 21 (by decide) eY_open_11 (fun c11 => ?_) (fun c11 => ?_)
  · refine go_iload_n (pc := 21) 1 0 rfl rfl eY_open_21 ?_
    exact go_iret (pc := 22) rfl rfl eY_open_22 (hf)
  · exact absurd c11 (by decide)
theorem cpy_blk8 {α : Type} {f : Nat → α} {s d w i : Nat} (h : s + w * 8 ≤ d ∨ d + w * 8 ≤ s) (hi : i < 8) : va_cpy (va_cpy f f s d (w * i)) (va_cpy f f s d (w * i)) (s + w * i) (d + w * i) w = va_cpy f f s d (w * (i + 1)) := by
  have h2 : w * i + w ≤ w * 8 := by
    have : w * i + w = w * (i + 1) := rfl
    rw [this]; exact Nat.mul_le_mul_left w (by omega)
  have h3 : w * (i + 1) = w * i + w := rfl
  rw [h3]
  generalize w * i = v at *
  generalize w * 8 = w8 at *
  funext q
  simp only [va_cpy]
  by_cases y : d + v ≤ q ∧ q < d + v + w
  · rw [if_pos y, if_neg (by omega), if_pos (by omega)]
    congr 1
    omega
  · rw [if_neg y]
    by_cases z : d ≤ q ∧ q < d + v
    · rw [if_pos z, if_pos (by omega)]
    · rw [if_neg z, if_neg (by omega)]
set_option maxRecDepth 100000 in
set_option maxHeartbeats 1000000 in
theorem k_fork (s j : Nat) (hs : s < 6) (hj : j < 6) (hsj : s ≠ j) {Psi : gR → va_W → Prop} (hf : Psi (.inl (some (.int (nI j)))) (zW z0 z1 z2 z3 z4 z5 cI cB hm b1 b2 b3 b4 cd F sx pd th (va_cpy sm sm (8 * s) (8 * j) 8) (va_cpy u u (128 * s) (128 * j) (16 * 8)) rest)) : ∀ (m i : Nat), i + m = 8 → Go (gg D cI cB cL bb L xs) mY_fork (n + 1) 0 0 44 [(3, .int (nI i)), (2, .int (nI j)), (0, .ref hm), (1, .int (nI s))] [] (zW z0 z1 z2 z3 z4 z5 cI cB hm b1 b2 b3 b4 cd F sx pd th (va_cpy sm sm (8 * s) (8 * j) i) (va_cpy u u (128 * s) (128 * j) (16 * i)) rest) Psi := by
  intro m
  induction m with
  | zero =>
    intro i hi
    obtain rfl : i = 8 := by omega
    refine go_iload_n (pc := 44) 3 0 rfl rfl eY_fork_44 ?_
    refine go_bipush (pc := 45) (v := 8) (by decide) eY_fork_45 ?_
    refine go_icmp_ge (pc := 47) 72 (by decide) eY_fork_47 (fun c47 => ?_) (fun c47 => ?_)
    · refine go_iload_n (pc := 72) 2 1 rfl rfl eY_fork_72 ?_
      exact go_iret (pc := 73) rfl rfl eY_fork_73 (hf)
    · exact absurd (show (8 : Int32) ≤ nI 8 by decide) c47
  | succ m ih =>
    intro i hi
    refine go_iload_n (pc := 44) 3 0 rfl rfl eY_fork_44 ?_
    refine go_bipush (pc := 45) (v := 8) (by decide) eY_fork_45 ?_
    refine go_icmp_ge (pc := 47) 72 (by decide) eY_fork_47 (fun c47 => ?_) (fun c47 => ?_)
    · exact absurd c47 (nI_ge (b := 8) (by omega) (by omega))
    · refine go_aload_n (pc := 50) 0 2 rfl rfl eY_fork_50 ?_
      refine go_iconst (pc := 51) (v := 0) (by decide) eY_fork_51 ?_
      refine go_iload_n (pc := 52) 1 3 rfl rfl eY_fork_52 ?_
      refine go_iload_n (pc := 53) 3 0 rfl rfl eY_fork_53 ?_
      refine go_rS (pc := 54) (d_page0 s i) okY_page lmY_34 eY_fork_54 rfl rfl (Nat.le_of_ble_eq_true rfl) (Nat.le_of_ble_eq_true rfl) ?_
      refine go_iconst (pc := 57) (v := 0) (by decide) eY_fork_57 ?_
      refine go_iload_n (pc := 58) 2 1 rfl rfl eY_fork_58 ?_
      refine go_iload_n (pc := 59) 3 0 rfl rfl eY_fork_59 ?_
      refine go_rS (pc := 60) (d_page0 j i) okY_page lmY_34 eY_fork_60 rfl rfl (Nat.le_of_ble_eq_true rfl) (Nat.le_of_ble_eq_true rfl) ?_
      refine go_rV0 (pc := 63) 6 (d_cp (8 * s + i) (8 * j + i) (by omega) (by omega)) okY_copyPage lmY_30 eY_fork_63 rfl rfl rfl rfl rfl (Nat.le_of_ble_eq_true rfl) (Nat.le_of_ble_eq_true rfl) ?_
      rw [pk_cpy_out (show _ from by omega), cpy_up, show 16 * (8 * s + i) = 128 * s + 16 * i from by omega, show 16 * (8 * j + i) = 128 * j + 16 * i from by omega, cpy_blk8 (by omega) (by omega)]
      refine go_iinc (pc := 66) (z := 1) (v := nI (i + 1)) (ls' := [(3, _), (2, _), (0, _), (1, _)]) 3 0 rfl (nI_1 i) (by decide) eY_fork_66 rfl ?_
      refine go_goto (pc := 69) 44 (by decide) eY_fork_69 ?_
      exact ih (i + 1) (by omega)
set_option maxRecDepth 100000 in
set_option maxHeartbeats 1000000 in
theorem d_fork1 (s : Nat) (hs : s < 6) (hth : th s = true) (j : Nat) (hj : j < 6) (hj0 : th j = false) (hlt : ∀ q, q < j → th q = true) : Ret (gg D cI cB cL bb L xs) mY_fork (n + 1) 0 0 [.ref hm, .int (nI s)] (zW z0 z1 z2 z3 z4 z5 cI cB hm b1 b2 b3 b4 cd F sx pd th sm u rest) (some (.int (nI j))) (zW z0 z1 z2 z3 z4 z5 cI cB hm b1 b2 b3 b4 0 F sx pd (va_up th j true) (va_cpy sm sm (8 * s) (8 * j) 8) (va_cpy u u (128 * s) (128 * j) (16 * 8)) rest) := by
  intro Psi hf
  show Go _ _ _ _ _ 0 [(0, .ref hm), (1, .int (nI s))] [] _ Psi
  refine go_aload_n (pc := 0) 0 0 rfl rfl eY_fork_0 ?_
  refine go_aload_n (pc := 1) 0 0 rfl rfl eY_fork_1 ?_
  refine go_iload_n (pc := 2) 1 1 rfl rfl eY_fork_2 ?_
  refine go_rV (pc := 3) 6 (d_isSpaceT s hs hth) okY_isSpace lmY_42 eY_fork_3 rfl rfl rfl rfl rfl (Nat.le_of_ble_eq_true rfl) (Nat.le_of_ble_eq_true rfl) ?_
  refine go_if_ne (pc := 6) 13 (by decide) eY_fork_6 (fun c6 => ?_) (fun c6 => ?_)
  · refine go_iconst (pc := 13) (v := 0) (by decide) eY_fork_13 ?_
    refine go_iconst (pc := 14) (v := 0) (by decide) eY_fork_14 ?_
    refine go_iconst (pc := 15) (v := 0) (by decide) eY_fork_15 ?_
    refine go_rV (pc := 16) 6 (d_fails0) okY_fails lmY_46 eY_fork_16 rfl rfl rfl rfl rfl (Nat.le_of_ble_eq_true rfl) (Nat.le_of_ble_eq_true rfl) ?_
    refine go_if_eq (pc := 19) 24 (by decide) eY_fork_19 (fun c19 => ?_) (fun c19 => ?_)
    · refine go_aload_n (pc := 24) 0 0 rfl rfl eY_fork_24 ?_
      refine go_rV (pc := 25) 6 (d_freeA j hj hj0 hlt) okY_free lmY_38 eY_fork_25 rfl rfl rfl rfl rfl (Nat.le_of_ble_eq_true rfl) (Nat.le_of_ble_eq_true rfl) ?_
      refine go_istore_n (pc := 28) (ls' := [(2, _), (0, _), (1, _)]) 2 rfl (by decide) eY_fork_28 rfl ?_
      refine go_iload_n (pc := 29) 2 0 rfl rfl eY_fork_29 ?_
      refine go_if_ge (pc := 30) 35 (by decide) eY_fork_30 (fun c30 => ?_) (fun c30 => ?_)
      · refine go_aload_n (pc := 35) 0 1 rfl rfl eY_fork_35 ?_
        refine go_get (pc := 36) hwY 6 rfl rfl 4 (by decide) lkY_13 rfl eY_fork_36 ?_
        refine go_iload_n (pc := 39) 2 0 rfl rfl eY_fork_39 ?_
        refine go_iconst (pc := 40) (v := 1) (by decide) eY_fork_40 ?_
        refine go_zastN (pc := 41) (es' := (zW z0 z1 z2 z3 z4 z5 cI cB hm b1 b2 b3 b4 0 F sx pd (va_up th j true) sm u rest)) 8 1 j eY_fork_41 rfl rfl rfl (by omega) (by omega) (ys8 (upd_b (b := true) rfl)) ?_
        refine go_iconst (pc := 42) (v := 0) (by decide) eY_fork_42 ?_
        refine go_istore_n (pc := 43) (ls' := [(3, _), (2, _), (0, _), (1, _)]) 3 rfl (by decide) eY_fork_43 rfl ?_
        have hsj : s ≠ j := fun z => by rw [z, hj0] at hth; cases hth
        refine go_es (es' := (zW z0 z1 z2 z3 z4 z5 cI cB hm b1 b2 b3 b4 0 F sx pd (va_up th j true) (va_cpy sm sm (8 * s) (8 * j) 0) (va_cpy u u (128 * s) (128 * j) (16 * 0)) rest)) (by rw [cpy_0, show 16 * 0 = 0 from rfl, cpy_0]) ?_
        exact k_fork s j hs hj hsj hf 8 0 (by omega)
      · exact absurd (nI_pos' (by omega)) c30
    · exact absurd c19 (by decide)
  · exact absurd c6 (by decide)
set_option maxRecDepth 100000 in
set_option maxHeartbeats 1000000 in
theorem d_fork0 (s : Nat) (hs : s < 6) (hth : th s = true) (hlt : ∀ q, q < 6 → th q = true) : Ret (gg D cI cB cL bb L xs) mY_fork (n + 1) 0 0 [.ref hm, .int (nI s)] (zW z0 z1 z2 z3 z4 z5 cI cB hm b1 b2 b3 b4 cd F sx pd th sm u rest) (some (.int (-1))) (zW z0 z1 z2 z3 z4 z5 cI cB hm b1 b2 b3 b4 0 F sx pd th sm u rest) := by
  intro Psi hf
  show Go _ _ _ _ _ 0 [(0, .ref hm), (1, .int (nI s))] [] _ Psi
  refine go_aload_n (pc := 0) 0 0 rfl rfl eY_fork_0 ?_
  refine go_aload_n (pc := 1) 0 0 rfl rfl eY_fork_1 ?_
  refine go_iload_n (pc := 2) 1 1 rfl rfl eY_fork_2 ?_
  refine go_rV (pc := 3) 6 (d_isSpaceT s hs hth) okY_isSpace lmY_42 eY_fork_3 rfl rfl rfl rfl rfl (Nat.le_of_ble_eq_true rfl) (Nat.le_of_ble_eq_true rfl) ?_
  refine go_if_ne (pc := 6) 13 (by decide) eY_fork_6 (fun c6 => ?_) (fun c6 => ?_)
  · refine go_iconst (pc := 13) (v := 0) (by decide) eY_fork_13 ?_
    refine go_iconst (pc := 14) (v := 0) (by decide) eY_fork_14 ?_
    refine go_iconst (pc := 15) (v := 0) (by decide) eY_fork_15 ?_
    refine go_rV (pc := 16) 6 (d_fails0) okY_fails lmY_46 eY_fork_16 rfl rfl rfl rfl rfl (Nat.le_of_ble_eq_true rfl) (Nat.le_of_ble_eq_true rfl) ?_
    refine go_if_eq (pc := 19) 24 (by decide) eY_fork_19 (fun c19 => ?_) (fun c19 => ?_)
    · refine go_aload_n (pc := 24) 0 0 rfl rfl eY_fork_24 ?_
      refine go_rV (pc := 25) 6 (d_freeB hlt) okY_free lmY_38 eY_fork_25 rfl rfl rfl rfl rfl (Nat.le_of_ble_eq_true rfl) (Nat.le_of_ble_eq_true rfl) ?_
      refine go_istore_n (pc := 28) (ls' := [(2, _), (0, _), (1, _)]) 2 rfl (by decide) eY_fork_28 rfl ?_
      refine go_iload_n (pc := 29) 2 0 rfl rfl eY_fork_29 ?_
      refine go_if_ge (pc := 30) 35 (by decide) eY_fork_30 (fun c30 => ?_) (fun c30 => ?_)
      · exact absurd c30 (by decide)
      · refine go_iconst (pc := 33) (v := (-1)) (by decide) eY_fork_33 ?_
        exact go_iret (pc := 34) rfl rfl eY_fork_34 (hf)
    · exact absurd c19 (by decide)
  · exact absurd c6 (by decide)
set_option maxRecDepth 100000 in
set_option maxHeartbeats 1000000 in
theorem e_fork (x : Int32) (hx : ∀ j, j < 6 → x = nI j → th j = false) : Ret (gg D cI cB cL bb L xs) mY_fork (n + 1) 0 0 [.ref hm, .int (x)] (zW z0 z1 z2 z3 z4 z5 cI cB hm b1 b2 b3 b4 cd F sx pd th sm u rest) (some (.int (0))) (zW z0 z1 z2 z3 z4 z5 cI cB hm b1 b2 b3 b4 1 F sx pd th sm u rest) := by
  intro Psi hf
  show Go _ _ _ _ _ 0 [(0, .ref hm), (1, .int (x))] [] _ Psi
  refine go_aload_n (pc := 0) 0 0 rfl rfl eY_fork_0 ?_
  refine go_aload_n (pc := 1) 0 0 rfl rfl eY_fork_1 ?_
  refine go_iload_n (pc := 2) 1 1 rfl rfl eY_fork_2 ?_
  refine go_rV (pc := 3) 6 (d_isSpaceF x hx) okY_isSpace lmY_42 eY_fork_3 rfl rfl rfl rfl rfl (Nat.le_of_ble_eq_true rfl) (Nat.le_of_ble_eq_true rfl) ?_
  refine go_if_ne (pc := 6) 13 (by decide) eY_fork_6 (fun c6 => ?_) (fun c6 => ?_)
  · exact absurd rfl c6
  · refine go_iconst (pc := 9) (v := 1) (by decide) eY_fork_9 ?_
    refine go_goto (pc := 10) 14 (by decide) eY_fork_10 ?_
    refine go_iconst (pc := 14) (v := 0) (by decide) eY_fork_14 ?_
    refine go_iconst (pc := 15) (v := 0) (by decide) eY_fork_15 ?_
    refine go_rV (pc := 16) 6 (d_fails1 0 0) okY_fails lmY_46 eY_fork_16 rfl rfl rfl rfl rfl (Nat.le_of_ble_eq_true rfl) (Nat.le_of_ble_eq_true rfl) ?_
    refine go_if_eq (pc := 19) 24 (by decide) eY_fork_19 (fun c19 => ?_) (fun c19 => ?_)
    · exact absurd c19 (by decide)
    · refine go_iconst (pc := 22) (v := 0) (by decide) eY_fork_22 ?_
      exact go_iret (pc := 23) rfl rfl eY_fork_23 (hf)
theorem d_em0 (s : Nat) (hs : s < 6) : Ret (gg D cI cB cL bb L xs) mY_empty (n + 1) 0 0 [.ref hm, .int 0, .int (nI s)] (zW z0 z1 z2 z3 z4 z5 cI cB hm b1 b2 b3 b4 cd F sx pd th sm u rest) none (zW z0 z1 z2 z3 z4 z5 cI cB hm b1 b2 b3 b4 cd F sx pd (va_up th s false) (va_cpy (fun _ => 0) sm 0 (8 * s) 8) u rest) := by
  have h := d_em (D := D) (cI := cI) (cB := cB) (cL := cL) (bb := bb) (L := L) (xs := xs) (n := n) (hm := hm) (b1 := b1) (b2 := b2) (b3 := b3) (b4 := b4) (F := F) (sx := sx) (cd := cd) (pd := pd) (th := th) (sm := sm) (u := u) (z0 := z0) (z1 := z1) (z2 := z2) (z3 := z3) (z4 := z4) (z5 := z5) (rest := rest) 0 s (by omega) hs
  rw [show 6 * 0 + s = s from by omega] at h
  exact h
set_option maxRecDepth 100000 in
set_option maxHeartbeats 1000000 in
theorem d_close (hsm : ∀ k, sm k < 2 ^ 30) (s : Nat) (hs : s < 6) (hth : th s = true) : Ret (gg D cI cB cL bb L xs) mY_close (n + 2) 0 0 [.ref hm, .int (nI s)] (zW z0 z1 z2 z3 z4 z5 cI cB hm b1 b2 b3 b4 cd F sx pd th sm u rest) (some (.int (nI (gcnt (fun p => decide (¬ sm (8 * s + p) = 0)) 8)))) (zW z0 z1 z2 z3 z4 z5 cI cB hm b1 b2 b3 b4 0 F sx pd (va_up th s false) (va_cpy (fun _ => 0) sm 0 (8 * s) 8) u rest) := by
  intro Psi hf
  show Go _ _ _ _ _ 0 [(0, .ref hm), (1, .int (nI s))] [] _ Psi
  refine go_aload_n (pc := 0) 0 0 rfl rfl eY_close_0 ?_
  refine go_aload_n (pc := 1) 0 0 rfl rfl eY_close_1 ?_
  refine go_iload_n (pc := 2) 1 1 rfl rfl eY_close_2 ?_
  refine go_rV (pc := 3) 6 (d_isSpaceT s hs hth) okY_isSpace lmY_42 eY_close_3 rfl rfl rfl rfl rfl (Nat.le_of_ble_eq_true rfl) (Nat.le_of_ble_eq_true rfl) ?_
  refine go_if_ne (pc := 6) 13 (by decide) eY_close_6 (fun c6 => ?_) (fun c6 => ?_)
  · refine go_iconst (pc := 13) (v := 0) (by decide) eY_close_13 ?_
    refine go_iconst (pc := 14) (v := 0) (by decide) eY_close_14 ?_
    refine go_iconst (pc := 15) (v := 0) (by decide) eY_close_15 ?_
    refine go_rV (pc := 16) 6 (d_fails0) okY_fails lmY_46 eY_close_16 rfl rfl rfl rfl rfl (Nat.le_of_ble_eq_true rfl) (Nat.le_of_ble_eq_true rfl) ?_
    refine go_if_eq (pc := 19) 24 (by decide) eY_close_19 (fun c19 => ?_) (fun c19 => ?_)
    · refine go_aload_n (pc := 24) 0 0 rfl rfl eY_close_24 ?_
      refine go_iload_n (pc := 25) 1 1 rfl rfl eY_close_25 ?_
      refine go_rV (pc := 26) 6 (d_pagesOf hsm s hs) okY_pagesOf lmY_50 eY_close_26 rfl rfl rfl rfl rfl (Nat.le_of_ble_eq_true rfl) (Nat.le_of_ble_eq_true rfl) ?_
      refine go_istore_n (pc := 29) (ls' := [(2, _), (0, _), (1, _)]) 2 rfl (by decide) eY_close_29 rfl ?_
      refine go_aload_n (pc := 30) 0 1 rfl rfl eY_close_30 ?_
      refine go_iconst (pc := 31) (v := 0) (by decide) eY_close_31 ?_
      refine go_iload_n (pc := 32) 1 2 rfl rfl eY_close_32 ?_
      refine go_rV0 (pc := 33) 6 (d_em0 s hs) okY_empty lmY_54 eY_close_33 rfl rfl rfl rfl rfl (Nat.le_of_ble_eq_true rfl) (Nat.le_of_ble_eq_true rfl) ?_
      refine go_iload_n (pc := 36) 2 0 rfl rfl eY_close_36 ?_
      exact go_iret (pc := 37) rfl rfl eY_close_37 (hf)
    · exact absurd c19 (by decide)
  · exact absurd c6 (by decide)
set_option maxRecDepth 100000 in
set_option maxHeartbeats 1000000 in
theorem e_close (x : Int32) (hx : ∀ j, j < 6 → x = nI j → th j = false) : Ret (gg D cI cB cL bb L xs) mY_close (n + 2) 0 0 [.ref hm, .int (x)] (zW z0 z1 z2 z3 z4 z5 cI cB hm b1 b2 b3 b4 cd F sx pd th sm u rest) (some (.int (0))) (zW z0 z1 z2 z3 z4 z5 cI cB hm b1 b2 b3 b4 1 F sx pd th sm u rest) := by
  intro Psi hf
  show Go _ _ _ _ _ 0 [(0, .ref hm), (1, .int (x))] [] _ Psi
  refine go_aload_n (pc := 0) 0 0 rfl rfl eY_close_0 ?_
  refine go_aload_n (pc := 1) 0 0 rfl rfl eY_close_1 ?_
  refine go_iload_n (pc := 2) 1 1 rfl rfl eY_close_2 ?_
  refine go_rV (pc := 3) 6 (d_isSpaceF x hx) okY_isSpace lmY_42 eY_close_3 rfl rfl rfl rfl rfl (Nat.le_of_ble_eq_true rfl) (Nat.le_of_ble_eq_true rfl) ?_
  refine go_if_ne (pc := 6) 13 (by decide) eY_close_6 (fun c6 => ?_) (fun c6 => ?_)
  · exact absurd rfl c6
  · refine go_iconst (pc := 9) (v := 1) (by decide) eY_close_9 ?_
    refine go_goto (pc := 10) 14 (by decide) eY_close_10 ?_
    refine go_iconst (pc := 14) (v := 0) (by decide) eY_close_14 ?_
    refine go_iconst (pc := 15) (v := 0) (by decide) eY_close_15 ?_
    refine go_rV (pc := 16) 6 (d_fails1 0 0) okY_fails lmY_46 eY_close_16 rfl rfl rfl rfl rfl (Nat.le_of_ble_eq_true rfl) (Nat.le_of_ble_eq_true rfl) ?_
    refine go_if_eq (pc := 19) 24 (by decide) eY_close_19 (fun c19 => ?_) (fun c19 => ?_)
    · exact absurd c19 (by decide)
    · refine go_iconst (pc := 22) (v := 0) (by decide) eY_close_22 ?_
      exact go_iret (pc := 23) rfl rfl eY_close_23 (hf)
set_option maxRecDepth 100000 in
set_option maxHeartbeats 1000000 in
theorem d_unmap (hsm : ∀ k, sm k < 2 ^ 30) (s : Nat) (hs : s < 6) (hth : th s = true) (p : Nat) (hp : p < 8) : Ret (gg D cI cB cL bb L xs) mY_unmap (n + 1) 0 0 [.ref hm, .int (nI s), .int (nI p)] (zW z0 z1 z2 z3 z4 z5 cI cB hm b1 b2 b3 b4 cd F sx pd th sm u rest) (some (.int (bI (decide (¬ sm (8 * s + p) = 0))))) (zW z0 z1 z2 z3 z4 z5 cI cB hm b1 b2 b3 b4 0 F sx pd th (va_up sm (8 * s + p) 0) u rest) := by
  intro Psi hf
  show Go _ _ _ _ _ 0 [(0, .ref hm), (1, .int (nI s)), (2, .int (nI p))] [] _ Psi
  refine go_aload_n (pc := 0) 0 0 rfl rfl eY_unmap_0 ?_
  refine go_aload_n (pc := 1) 0 0 rfl rfl eY_unmap_1 ?_
  refine go_iload_n (pc := 2) 1 1 rfl rfl eY_unmap_2 ?_
  refine go_rV (pc := 3) 6 (d_isSpaceT s hs hth) okY_isSpace lmY_42 eY_unmap_3 rfl rfl rfl rfl rfl (Nat.le_of_ble_eq_true rfl) (Nat.le_of_ble_eq_true rfl) ?_
  refine go_if_ne (pc := 6) 13 (by decide) eY_unmap_6 (fun c6 => ?_) (fun c6 => ?_)
  · refine go_iconst (pc := 13) (v := 0) (by decide) eY_unmap_13 ?_
    refine go_iload_n (pc := 14) 2 2 rfl rfl eY_unmap_14 ?_
    refine go_rS (pc := 15) (d_isPageT p hp) okY_isPage lmY_57 eY_unmap_15 rfl rfl (Nat.le_of_ble_eq_true rfl) (Nat.le_of_ble_eq_true rfl) ?_
    refine go_if_ne (pc := 18) 25 (by decide) eY_unmap_18 (fun c18 => ?_) (fun c18 => ?_)
    · refine go_iconst (pc := 25) (v := 0) (by decide) eY_unmap_25 ?_
      refine go_iconst (pc := 26) (v := 0) (by decide) eY_unmap_26 ?_
      refine go_rV (pc := 27) 6 (d_fails0) okY_fails lmY_46 eY_unmap_27 rfl rfl rfl rfl rfl (Nat.le_of_ble_eq_true rfl) (Nat.le_of_ble_eq_true rfl) ?_
      refine go_if_eq (pc := 30) 35 (by decide) eY_unmap_30 (fun c30 => ?_) (fun c30 => ?_)
      · refine go_iconst (pc := 35) (v := 0) (by decide) eY_unmap_35 ?_
        refine go_iload_n (pc := 36) 1 1 rfl rfl eY_unmap_36 ?_
        refine go_iload_n (pc := 37) 2 2 rfl rfl eY_unmap_37 ?_
        refine go_rS (pc := 38) (d_page0 s p) okY_page lmY_34 eY_unmap_38 rfl rfl (Nat.le_of_ble_eq_true rfl) (Nat.le_of_ble_eq_true rfl) ?_
        refine go_istore_n (pc := 41) (ls' := [(3, _), (0, _), (1, _), (2, _)]) 3 rfl (by decide) eY_unmap_41 rfl ?_
        refine go_aload_n (pc := 42) 0 1 rfl rfl eY_unmap_42 ?_
        refine go_get (pc := 43) hwY 6 rfl rfl 5 (by decide) lkY_16 rfl eY_unmap_43 ?_
        refine go_iload_n (pc := 46) 3 0 rfl rfl eY_unmap_46 ?_
        refine go_ialdN (pc := 47) 9 0 (8 * s + p) eY_unmap_47 rfl rfl (rfl) (by omega) (by omega) ?_
        refine go_if_le (pc := 48) 55 (by decide) eY_unmap_48 (fun c48 => ?_) (fun c48 => ?_)
        · rw [show decide (¬ sm (8 * s + p) = 0) = false from decide_eq_false (fun z => z ((nI_lz (by have := hsm (8 * s + p); omega)).mp c48))] at hf
          refine go_iconst (pc := 55) (v := 0) (by decide) eY_unmap_55 ?_
          refine go_istore (pc := 56) (ls' := [(4, _), (3, _), (0, _), (1, _), (2, _)]) 4 (by decide) eY_unmap_56 rfl ?_
          refine go_aload_n (pc := 58) 0 2 rfl rfl eY_unmap_58 ?_
          refine go_get (pc := 59) hwY 6 rfl rfl 5 (by decide) lkY_16 rfl eY_unmap_59 ?_
          refine go_iload_n (pc := 62) 3 1 rfl rfl eY_unmap_62 ?_
          refine go_iconst (pc := 63) (v := 0) (by decide) eY_unmap_63 ?_
          refine go_iastN (pc := 64) (es' := (zW z0 z1 z2 z3 z4 z5 cI cB hm b1 b2 b3 b4 0 F sx pd th (va_up sm (8 * s + p) 0) u rest)) 9 0 (8 * s + p) eY_unmap_64 rfl rfl rfl (by omega) (by omega) (ys9 (upd_n (x := 0))) ?_
          refine go_iload (pc := 65) 4 0 rfl eY_unmap_65 ?_
          exact go_iret (pc := 67) rfl rfl eY_unmap_67 (hf)
        · rw [show decide (¬ sm (8 * s + p) = 0) = true from decide_eq_true (fun z => c48 ((nI_lz (by have := hsm (8 * s + p); omega)).mpr z))] at hf
          refine go_iconst (pc := 51) (v := 1) (by decide) eY_unmap_51 ?_
          refine go_goto (pc := 52) 56 (by decide) eY_unmap_52 ?_
          refine go_istore (pc := 56) (ls' := [(4, _), (3, _), (0, _), (1, _), (2, _)]) 4 (by decide) eY_unmap_56 rfl ?_
          refine go_aload_n (pc := 58) 0 2 rfl rfl eY_unmap_58 ?_
          refine go_get (pc := 59) hwY 6 rfl rfl 5 (by decide) lkY_16 rfl eY_unmap_59 ?_
          refine go_iload_n (pc := 62) 3 1 rfl rfl eY_unmap_62 ?_
          refine go_iconst (pc := 63) (v := 0) (by decide) eY_unmap_63 ?_
          refine go_iastN (pc := 64) (es' := (zW z0 z1 z2 z3 z4 z5 cI cB hm b1 b2 b3 b4 0 F sx pd th (va_up sm (8 * s + p) 0) u rest)) 9 0 (8 * s + p) eY_unmap_64 rfl rfl rfl (by omega) (by omega) (ys9 (upd_n (x := 0))) ?_
          refine go_iload (pc := 65) 4 0 rfl eY_unmap_65 ?_
          exact go_iret (pc := 67) rfl rfl eY_unmap_67 (hf)
      · exact absurd c30 (by decide)
    · exact absurd c18 (by decide)
  · exact absurd c6 (by decide)
set_option maxRecDepth 100000 in
set_option maxHeartbeats 1000000 in
theorem d_holdersA (hsm : ∀ k, sm k < 2 ^ 30) (s : Nat) (hs : s < 6) (hth : th s = true) (p : Nat) (hp : p < 8) (h0 : sm (8 * s + p) ≠ 0) : Ret (gg D cI cB cL bb L xs) mY_holders (n + 1) 0 0 [.ref hm, .int (nI s), .int (nI p)] (zW z0 z1 z2 z3 z4 z5 cI cB hm b1 b2 b3 b4 cd F sx pd th sm u rest) (some (.int (nI (gcnt (fun k => decide (sm k = sm (8 * s + p))) 432)))) (zW z0 z1 z2 z3 z4 z5 cI cB hm b1 b2 b3 b4 0 F sx pd th sm u rest) := by
  intro Psi hf
  show Go _ _ _ _ _ 0 [(0, .ref hm), (1, .int (nI s)), (2, .int (nI p))] [] _ Psi
  refine go_aload_n (pc := 0) 0 0 rfl rfl eY_holders_0 ?_
  refine go_aload_n (pc := 1) 0 0 rfl rfl eY_holders_1 ?_
  refine go_iload_n (pc := 2) 1 1 rfl rfl eY_holders_2 ?_
  refine go_rV (pc := 3) 6 (d_isSpaceT s hs hth) okY_isSpace lmY_42 eY_holders_3 rfl rfl rfl rfl rfl (Nat.le_of_ble_eq_true rfl) (Nat.le_of_ble_eq_true rfl) ?_
  refine go_if_ne (pc := 6) 13 (by decide) eY_holders_6 (fun c6 => ?_) (fun c6 => ?_)
  · refine go_iconst (pc := 13) (v := 0) (by decide) eY_holders_13 ?_
    refine go_iload_n (pc := 14) 2 2 rfl rfl eY_holders_14 ?_
    refine go_rS (pc := 15) (d_isPageT p hp) okY_isPage lmY_57 eY_holders_15 rfl rfl (Nat.le_of_ble_eq_true rfl) (Nat.le_of_ble_eq_true rfl) ?_
    refine go_if_ne (pc := 18) 25 (by decide) eY_holders_18 (fun c18 => ?_) (fun c18 => ?_)
    · refine go_iconst (pc := 25) (v := 0) (by decide) eY_holders_25 ?_
      refine go_iconst (pc := 26) (v := 0) (by decide) eY_holders_26 ?_
      refine go_rV (pc := 27) 6 (d_fails0) okY_fails lmY_46 eY_holders_27 rfl rfl rfl rfl rfl (Nat.le_of_ble_eq_true rfl) (Nat.le_of_ble_eq_true rfl) ?_
      refine go_if_eq (pc := 30) 35 (by decide) eY_holders_30 (fun c30 => ?_) (fun c30 => ?_)
      · refine go_aload_n (pc := 35) 0 0 rfl rfl eY_holders_35 ?_
        refine go_aload_n (pc := 36) 0 0 rfl rfl eY_holders_36 ?_
        refine go_get (pc := 37) hwY 6 rfl rfl 5 (by decide) lkY_16 rfl eY_holders_37 ?_
        refine go_iconst (pc := 40) (v := 0) (by decide) eY_holders_40 ?_
        refine go_iload_n (pc := 41) 1 1 rfl rfl eY_holders_41 ?_
        refine go_iload_n (pc := 42) 2 2 rfl rfl eY_holders_42 ?_
        refine go_rS (pc := 43) (d_page0 s p) okY_page lmY_34 eY_holders_43 rfl rfl (Nat.le_of_ble_eq_true rfl) (Nat.le_of_ble_eq_true rfl) ?_
        refine go_ialdN (pc := 46) 9 0 (8 * s + p) eY_holders_46 rfl rfl (rfl) (by omega) (by omega) ?_
        refine go_rV (pc := 47) 6 (d_holdersOf hsm (sm (8 * s + p)) (hsm _) h0) okY_holdersOf lmY_70 eY_holders_47 rfl rfl rfl rfl rfl (Nat.le_of_ble_eq_true rfl) (Nat.le_of_ble_eq_true rfl) ?_
        exact go_iret (pc := 50) rfl rfl eY_holders_50 (hf)
      · exact absurd c30 (by decide)
    · exact absurd c18 (by decide)
  · exact absurd c6 (by decide)
set_option maxRecDepth 100000 in
set_option maxHeartbeats 1000000 in
theorem d_holdersB (hsm : ∀ k, sm k < 2 ^ 30) (s : Nat) (hs : s < 6) (hth : th s = true) (p : Nat) (hp : p < 8) (h0 : sm (8 * s + p) = 0) : Ret (gg D cI cB cL bb L xs) mY_holders (n + 1) 0 0 [.ref hm, .int (nI s), .int (nI p)] (zW z0 z1 z2 z3 z4 z5 cI cB hm b1 b2 b3 b4 cd F sx pd th sm u rest) (some (.int (0))) (zW z0 z1 z2 z3 z4 z5 cI cB hm b1 b2 b3 b4 0 F sx pd th sm u rest) := by
  intro Psi hf
  show Go _ _ _ _ _ 0 [(0, .ref hm), (1, .int (nI s)), (2, .int (nI p))] [] _ Psi
  refine go_aload_n (pc := 0) 0 0 rfl rfl eY_holders_0 ?_
  refine go_aload_n (pc := 1) 0 0 rfl rfl eY_holders_1 ?_
  refine go_iload_n (pc := 2) 1 1 rfl rfl eY_holders_2 ?_
  refine go_rV (pc := 3) 6 (d_isSpaceT s hs hth) okY_isSpace lmY_42 eY_holders_3 rfl rfl rfl rfl rfl (Nat.le_of_ble_eq_true rfl) (Nat.le_of_ble_eq_true rfl) ?_
  refine go_if_ne (pc := 6) 13 (by decide) eY_holders_6 (fun c6 => ?_) (fun c6 => ?_)
  · refine go_iconst (pc := 13) (v := 0) (by decide) eY_holders_13 ?_
    refine go_iload_n (pc := 14) 2 2 rfl rfl eY_holders_14 ?_
    refine go_rS (pc := 15) (d_isPageT p hp) okY_isPage lmY_57 eY_holders_15 rfl rfl (Nat.le_of_ble_eq_true rfl) (Nat.le_of_ble_eq_true rfl) ?_
    refine go_if_ne (pc := 18) 25 (by decide) eY_holders_18 (fun c18 => ?_) (fun c18 => ?_)
    · refine go_iconst (pc := 25) (v := 0) (by decide) eY_holders_25 ?_
      refine go_iconst (pc := 26) (v := 0) (by decide) eY_holders_26 ?_
      refine go_rV (pc := 27) 6 (d_fails0) okY_fails lmY_46 eY_holders_27 rfl rfl rfl rfl rfl (Nat.le_of_ble_eq_true rfl) (Nat.le_of_ble_eq_true rfl) ?_
      refine go_if_eq (pc := 30) 35 (by decide) eY_holders_30 (fun c30 => ?_) (fun c30 => ?_)
      · refine go_aload_n (pc := 35) 0 0 rfl rfl eY_holders_35 ?_
        refine go_aload_n (pc := 36) 0 0 rfl rfl eY_holders_36 ?_
        refine go_get (pc := 37) hwY 6 rfl rfl 5 (by decide) lkY_16 rfl eY_holders_37 ?_
        refine go_iconst (pc := 40) (v := 0) (by decide) eY_holders_40 ?_
        refine go_iload_n (pc := 41) 1 1 rfl rfl eY_holders_41 ?_
        refine go_iload_n (pc := 42) 2 2 rfl rfl eY_holders_42 ?_
        refine go_rS (pc := 43) (d_page0 s p) okY_page lmY_34 eY_holders_43 rfl rfl (Nat.le_of_ble_eq_true rfl) (Nat.le_of_ble_eq_true rfl) ?_
        refine go_ialdN (pc := 46) 9 0 (8 * s + p) eY_holders_46 rfl rfl (rfl) (by omega) (by omega) ?_
        rw [h0]
        refine go_rV (pc := 47) 6 (d_holders0 hsm) okY_holdersOf lmY_70 eY_holders_47 rfl rfl rfl rfl rfl (Nat.le_of_ble_eq_true rfl) (Nat.le_of_ble_eq_true rfl) ?_
        exact go_iret (pc := 50) rfl rfl eY_holders_50 (hf)
      · exact absurd c30 (by decide)
    · exact absurd c18 (by decide)
  · exact absurd c6 (by decide)
set_option maxRecDepth 100000 in
set_option maxHeartbeats 1000000 in
theorem e_unmap1 (x : Int32) (hx : ∀ j, j < 6 → x = nI j → th j = false) (y : Int32) : Ret (gg D cI cB cL bb L xs) mY_unmap (n + 1) 0 0 [.ref hm, .int (x), .int (y)] (zW z0 z1 z2 z3 z4 z5 cI cB hm b1 b2 b3 b4 cd F sx pd th sm u rest) (some (.int (0))) (zW z0 z1 z2 z3 z4 z5 cI cB hm b1 b2 b3 b4 1 F sx pd th sm u rest) := by
  intro Psi hf
  show Go _ _ _ _ _ 0 [(0, .ref hm), (1, .int (x)), (2, .int (y))] [] _ Psi
  refine go_aload_n (pc := 0) 0 0 rfl rfl eY_unmap_0 ?_
  refine go_aload_n (pc := 1) 0 0 rfl rfl eY_unmap_1 ?_
  refine go_iload_n (pc := 2) 1 1 rfl rfl eY_unmap_2 ?_
  refine go_rV (pc := 3) 6 (d_isSpaceF x hx) okY_isSpace lmY_42 eY_unmap_3 rfl rfl rfl rfl rfl (Nat.le_of_ble_eq_true rfl) (Nat.le_of_ble_eq_true rfl) ?_
  refine go_if_ne (pc := 6) 13 (by decide) eY_unmap_6 (fun c6 => ?_) (fun c6 => ?_)
  · exact absurd rfl c6
  · refine go_iconst (pc := 9) (v := 1) (by decide) eY_unmap_9 ?_
    refine go_goto (pc := 10) 14 (by decide) eY_unmap_10 ?_
    obtain ⟨b, -, hpg⟩ := d_isPage (D := D) (cI := cI) (cB := cB) (cL := cL) (bb := bb) (L := L) (xs := xs) y
    refine go_iload_n (pc := 14) 2 2 rfl rfl eY_unmap_14 ?_
    refine go_rS (pc := 15) (hpg _ _) okY_isPage lmY_57 eY_unmap_15 rfl rfl (Nat.le_of_ble_eq_true rfl) (Nat.le_of_ble_eq_true rfl) ?_
    refine go_if_ne (pc := 18) 25 (by decide) eY_unmap_18 (fun c18 => ?_) (fun c18 => ?_)
    · refine go_iconst (pc := 25) (v := 0) (by decide) eY_unmap_25 ?_
      refine go_iconst (pc := 26) (v := 0) (by decide) eY_unmap_26 ?_
      refine go_rV (pc := 27) 6 (d_fails1 _ 0) okY_fails lmY_46 eY_unmap_27 rfl rfl rfl rfl rfl (Nat.le_of_ble_eq_true rfl) (Nat.le_of_ble_eq_true rfl) ?_
      refine go_if_eq (pc := 30) 35 (by decide) eY_unmap_30 (fun c30 => ?_) (fun c30 => ?_)
      · exact absurd c30 (by decide)
      · refine go_iconst (pc := 33) (v := 0) (by decide) eY_unmap_33 ?_
        exact go_iret (pc := 34) rfl rfl eY_unmap_34 (hf)
    · refine go_iconst (pc := 21) (v := 1) (by decide) eY_unmap_21 ?_
      refine go_goto (pc := 22) 26 (by decide) eY_unmap_22 ?_
      refine go_iconst (pc := 26) (v := 0) (by decide) eY_unmap_26 ?_
      refine go_rV (pc := 27) 6 (d_fails1 _ 0) okY_fails lmY_46 eY_unmap_27 rfl rfl rfl rfl rfl (Nat.le_of_ble_eq_true rfl) (Nat.le_of_ble_eq_true rfl) ?_
      refine go_if_eq (pc := 30) 35 (by decide) eY_unmap_30 (fun c30 => ?_) (fun c30 => ?_)
      · exact absurd c30 (by decide)
      · refine go_iconst (pc := 33) (v := 0) (by decide) eY_unmap_33 ?_
        exact go_iret (pc := 34) rfl rfl eY_unmap_34 (hf)
set_option maxRecDepth 100000 in
set_option maxHeartbeats 1000000 in
theorem e_unmap2 (s : Nat) (hs : s < 6) (hth : th s = true) (y : Int32) (hy : ∀ j, j < 8 → y ≠ nI j) : Ret (gg D cI cB cL bb L xs) mY_unmap (n + 1) 0 0 [.ref hm, .int (nI s), .int (y)] (zW z0 z1 z2 z3 z4 z5 cI cB hm b1 b2 b3 b4 cd F sx pd th sm u rest) (some (.int (0))) (zW z0 z1 z2 z3 z4 z5 cI cB hm b1 b2 b3 b4 2 F sx pd th sm u rest) := by
  intro Psi hf
  show Go _ _ _ _ _ 0 [(0, .ref hm), (1, .int (nI s)), (2, .int (y))] [] _ Psi
  refine go_aload_n (pc := 0) 0 0 rfl rfl eY_unmap_0 ?_
  refine go_aload_n (pc := 1) 0 0 rfl rfl eY_unmap_1 ?_
  refine go_iload_n (pc := 2) 1 1 rfl rfl eY_unmap_2 ?_
  refine go_rV (pc := 3) 6 (d_isSpaceT s hs hth) okY_isSpace lmY_42 eY_unmap_3 rfl rfl rfl rfl rfl (Nat.le_of_ble_eq_true rfl) (Nat.le_of_ble_eq_true rfl) ?_
  refine go_if_ne (pc := 6) 13 (by decide) eY_unmap_6 (fun c6 => ?_) (fun c6 => ?_)
  · refine go_iconst (pc := 13) (v := 0) (by decide) eY_unmap_13 ?_
    refine go_iload_n (pc := 14) 2 2 rfl rfl eY_unmap_14 ?_
    refine go_rS (pc := 15) (d_isPageF y hy) okY_isPage lmY_57 eY_unmap_15 rfl rfl (Nat.le_of_ble_eq_true rfl) (Nat.le_of_ble_eq_true rfl) ?_
    refine go_if_ne (pc := 18) 25 (by decide) eY_unmap_18 (fun c18 => ?_) (fun c18 => ?_)
    · exact absurd rfl c18
    · refine go_iconst (pc := 21) (v := 1) (by decide) eY_unmap_21 ?_
      refine go_goto (pc := 22) 26 (by decide) eY_unmap_22 ?_
      refine go_iconst (pc := 26) (v := 0) (by decide) eY_unmap_26 ?_
      refine go_rV (pc := 27) 6 (d_fails2 0) okY_fails lmY_46 eY_unmap_27 rfl rfl rfl rfl rfl (Nat.le_of_ble_eq_true rfl) (Nat.le_of_ble_eq_true rfl) ?_
      refine go_if_eq (pc := 30) 35 (by decide) eY_unmap_30 (fun c30 => ?_) (fun c30 => ?_)
      · exact absurd c30 (by decide)
      · refine go_iconst (pc := 33) (v := 0) (by decide) eY_unmap_33 ?_
        exact go_iret (pc := 34) rfl rfl eY_unmap_34 (hf)
  · exact absurd c6 (by decide)
set_option maxRecDepth 100000 in
set_option maxHeartbeats 1000000 in
theorem e_holders1 (x : Int32) (hx : ∀ j, j < 6 → x = nI j → th j = false) (y : Int32) : Ret (gg D cI cB cL bb L xs) mY_holders (n + 1) 0 0 [.ref hm, .int (x), .int (y)] (zW z0 z1 z2 z3 z4 z5 cI cB hm b1 b2 b3 b4 cd F sx pd th sm u rest) (some (.int (0))) (zW z0 z1 z2 z3 z4 z5 cI cB hm b1 b2 b3 b4 1 F sx pd th sm u rest) := by
  intro Psi hf
  show Go _ _ _ _ _ 0 [(0, .ref hm), (1, .int (x)), (2, .int (y))] [] _ Psi
  refine go_aload_n (pc := 0) 0 0 rfl rfl eY_holders_0 ?_
  refine go_aload_n (pc := 1) 0 0 rfl rfl eY_holders_1 ?_
  refine go_iload_n (pc := 2) 1 1 rfl rfl eY_holders_2 ?_
  refine go_rV (pc := 3) 6 (d_isSpaceF x hx) okY_isSpace lmY_42 eY_holders_3 rfl rfl rfl rfl rfl (Nat.le_of_ble_eq_true rfl) (Nat.le_of_ble_eq_true rfl) ?_
  refine go_if_ne (pc := 6) 13 (by decide) eY_holders_6 (fun c6 => ?_) (fun c6 => ?_)
  · exact absurd rfl c6
  · refine go_iconst (pc := 9) (v := 1) (by decide) eY_holders_9 ?_
    refine go_goto (pc := 10) 14 (by decide) eY_holders_10 ?_
    obtain ⟨b, -, hpg⟩ := d_isPage (D := D) (cI := cI) (cB := cB) (cL := cL) (bb := bb) (L := L) (xs := xs) y
    refine go_iload_n (pc := 14) 2 2 rfl rfl eY_holders_14 ?_
    refine go_rS (pc := 15) (hpg _ _) okY_isPage lmY_57 eY_holders_15 rfl rfl (Nat.le_of_ble_eq_true rfl) (Nat.le_of_ble_eq_true rfl) ?_
    refine go_if_ne (pc := 18) 25 (by decide) eY_holders_18 (fun c18 => ?_) (fun c18 => ?_)
    · refine go_iconst (pc := 25) (v := 0) (by decide) eY_holders_25 ?_
      refine go_iconst (pc := 26) (v := 0) (by decide) eY_holders_26 ?_
      refine go_rV (pc := 27) 6 (d_fails1 _ 0) okY_fails lmY_46 eY_holders_27 rfl rfl rfl rfl rfl (Nat.le_of_ble_eq_true rfl) (Nat.le_of_ble_eq_true rfl) ?_
      refine go_if_eq (pc := 30) 35 (by decide) eY_holders_30 (fun c30 => ?_) (fun c30 => ?_)
      · exact absurd c30 (by decide)
      · refine go_iconst (pc := 33) (v := 0) (by decide) eY_holders_33 ?_
        exact go_iret (pc := 34) rfl rfl eY_holders_34 (hf)
    · refine go_iconst (pc := 21) (v := 1) (by decide) eY_holders_21 ?_
      refine go_goto (pc := 22) 26 (by decide) eY_holders_22 ?_
      refine go_iconst (pc := 26) (v := 0) (by decide) eY_holders_26 ?_
      refine go_rV (pc := 27) 6 (d_fails1 _ 0) okY_fails lmY_46 eY_holders_27 rfl rfl rfl rfl rfl (Nat.le_of_ble_eq_true rfl) (Nat.le_of_ble_eq_true rfl) ?_
      refine go_if_eq (pc := 30) 35 (by decide) eY_holders_30 (fun c30 => ?_) (fun c30 => ?_)
      · exact absurd c30 (by decide)
      · refine go_iconst (pc := 33) (v := 0) (by decide) eY_holders_33 ?_
        exact go_iret (pc := 34) rfl rfl eY_holders_34 (hf)
set_option maxRecDepth 100000 in
set_option maxHeartbeats 1000000 in
theorem e_holders2 (s : Nat) (hs : s < 6) (hth : th s = true) (y : Int32) (hy : ∀ j, j < 8 → y ≠ nI j) : Ret (gg D cI cB cL bb L xs) mY_holders (n + 1) 0 0 [.ref hm, .int (nI s), .int (y)] (zW z0 z1 z2 z3 z4 z5 cI cB hm b1 b2 b3 b4 cd F sx pd th sm u rest) (some (.int (0))) (zW z0 z1 z2 z3 z4 z5 cI cB hm b1 b2 b3 b4 2 F sx pd th sm u rest) := by
  intro Psi hf
  show Go _ _ _ _ _ 0 [(0, .ref hm), (1, .int (nI s)), (2, .int (y))] [] _ Psi
  refine go_aload_n (pc := 0) 0 0 rfl rfl eY_holders_0 ?_
  refine go_aload_n (pc := 1) 0 0 rfl rfl eY_holders_1 ?_
  refine go_iload_n (pc := 2) 1 1 rfl rfl eY_holders_2 ?_
  refine go_rV (pc := 3) 6 (d_isSpaceT s hs hth) okY_isSpace lmY_42 eY_holders_3 rfl rfl rfl rfl rfl (Nat.le_of_ble_eq_true rfl) (Nat.le_of_ble_eq_true rfl) ?_
  refine go_if_ne (pc := 6) 13 (by decide) eY_holders_6 (fun c6 => ?_) (fun c6 => ?_)
  · refine go_iconst (pc := 13) (v := 0) (by decide) eY_holders_13 ?_
    refine go_iload_n (pc := 14) 2 2 rfl rfl eY_holders_14 ?_
    refine go_rS (pc := 15) (d_isPageF y hy) okY_isPage lmY_57 eY_holders_15 rfl rfl (Nat.le_of_ble_eq_true rfl) (Nat.le_of_ble_eq_true rfl) ?_
    refine go_if_ne (pc := 18) 25 (by decide) eY_holders_18 (fun c18 => ?_) (fun c18 => ?_)
    · exact absurd rfl c18
    · refine go_iconst (pc := 21) (v := 1) (by decide) eY_holders_21 ?_
      refine go_goto (pc := 22) 26 (by decide) eY_holders_22 ?_
      refine go_iconst (pc := 26) (v := 0) (by decide) eY_holders_26 ?_
      refine go_rV (pc := 27) 6 (d_fails2 0) okY_fails lmY_46 eY_holders_27 rfl rfl rfl rfl rfl (Nat.le_of_ble_eq_true rfl) (Nat.le_of_ble_eq_true rfl) ?_
      refine go_if_eq (pc := 30) 35 (by decide) eY_holders_30 (fun c30 => ?_) (fun c30 => ?_)
      · exact absurd c30 (by decide)
      · refine go_iconst (pc := 33) (v := 0) (by decide) eY_holders_33 ?_
        exact go_iret (pc := 34) rfl rfl eY_holders_34 (hf)
  · exact absurd c6 (by decide)
theorem us31 (sm : Nat → Nat) : gcnt (usf sm) 432 < 2 ^ 31 := Nat.lt_of_le_of_lt (gcnt_le _ _) (by decide)
set_option maxRecDepth 100000 in
set_option maxHeartbeats 1000000 in
theorem d_map0 (hsm : ∀ k, sm k < 2 ^ 30) (s : Nat) (hs : s < 6) (hth : th s = true) (p : Nat) (hp : p < 8) (v : Int32) (h0 : sm (8 * s + p) ≠ 0) : Ret (gg D cI cB cL bb L xs) mY_map (n + 1) 0 0 [.ref hm, .int (nI s), .int (nI p), .int (v)] (zW z0 z1 z2 z3 z4 z5 cI cB hm b1 b2 b3 b4 cd F sx pd th sm u rest) (some (.int (0))) (zW z0 z1 z2 z3 z4 z5 cI cB hm b1 b2 b3 b4 0 F sx pd th sm u rest) := by
  intro Psi hf
  show Go _ _ _ _ _ 0 [(0, .ref hm), (1, .int (nI s)), (2, .int (nI p)), (3, .int (v))] [] _ Psi
  refine go_aload_n (pc := 0) 0 0 rfl rfl eY_map_0 ?_
  refine go_iload_n (pc := 1) 1 1 rfl rfl eY_map_1 ?_
  refine go_rV (pc := 2) 6 (d_isSpaceT s hs hth) okY_isSpace lmY_42 eY_map_2 rfl rfl rfl rfl rfl (Nat.le_of_ble_eq_true rfl) (Nat.le_of_ble_eq_true rfl) ?_
  refine go_if_eq (pc := 5) 19 (by decide) eY_map_5 (fun c5 => ?_) (fun c5 => ?_)
  · exact absurd c5 (by decide)
  · refine go_iload_n (pc := 8) 2 2 rfl rfl eY_map_8 ?_
    refine go_rS (pc := 9) (d_isPageT p hp) okY_isPage lmY_57 eY_map_9 rfl rfl (Nat.le_of_ble_eq_true rfl) (Nat.le_of_ble_eq_true rfl) ?_
    refine go_if_eq (pc := 12) 19 (by decide) eY_map_12 (fun c12 => ?_) (fun c12 => ?_)
    · exact absurd c12 (by decide)
    · refine go_iconst (pc := 15) (v := 1) (by decide) eY_map_15 ?_
      refine go_goto (pc := 16) 20 (by decide) eY_map_16 ?_
      refine go_istore (pc := 20) (ls' := [(4, _), (0, _), (1, _), (2, _), (3, _)]) 4 (by decide) eY_map_20 rfl ?_
      refine go_aload_n (pc := 22) 0 1 rfl rfl eY_map_22 ?_
      refine go_aload_n (pc := 23) 0 1 rfl rfl eY_map_23 ?_
      refine go_iload_n (pc := 24) 1 2 rfl rfl eY_map_24 ?_
      refine go_rV (pc := 25) 6 (d_isSpaceT s hs hth) okY_isSpace lmY_42 eY_map_25 rfl rfl rfl rfl rfl (Nat.le_of_ble_eq_true rfl) (Nat.le_of_ble_eq_true rfl) ?_
      refine go_if_ne (pc := 28) 35 (by decide) eY_map_28 (fun c28 => ?_) (fun c28 => ?_)
      · refine go_iconst (pc := 35) (v := 0) (by decide) eY_map_35 ?_
        refine go_iload_n (pc := 36) 2 3 rfl rfl eY_map_36 ?_
        refine go_rS (pc := 37) (d_isPageT p hp) okY_isPage lmY_57 eY_map_37 rfl rfl (Nat.le_of_ble_eq_true rfl) (Nat.le_of_ble_eq_true rfl) ?_
        refine go_if_ne (pc := 40) 47 (by decide) eY_map_40 (fun c40 => ?_) (fun c40 => ?_)
        · refine go_iconst (pc := 47) (v := 0) (by decide) eY_map_47 ?_
          refine go_iload (pc := 48) 4 0 rfl eY_map_48 ?_
          refine go_if_eq (pc := 50) 91 (by decide) eY_map_50 (fun c50 => ?_) (fun c50 => ?_)
          · exact absurd c50 (by decide)
          · refine go_aload_n (pc := 53) 0 1 rfl rfl eY_map_53 ?_
            refine go_get (pc := 54) hwY 6 rfl rfl 5 (by decide) lkY_16 rfl eY_map_54 ?_
            refine go_iconst (pc := 57) (v := 0) (by decide) eY_map_57 ?_
            refine go_iload_n (pc := 58) 1 2 rfl rfl eY_map_58 ?_
            refine go_iload (pc := 59) 4 0 rfl eY_map_59 ?_
            refine go_if_eq (pc := 61) 68 (by decide) eY_map_61 (fun c61 => ?_) (fun c61 => ?_)
            · exact absurd c61 (by decide)
            · refine go_iload_n (pc := 64) 2 3 rfl rfl eY_map_64 ?_
              refine go_goto (pc := 65) 69 (by decide) eY_map_65 ?_
              refine go_rS (pc := 69) (d_page0 s p) okY_page lmY_34 eY_map_69 rfl rfl (Nat.le_of_ble_eq_true rfl) (Nat.le_of_ble_eq_true rfl) ?_
              refine go_ialdN (pc := 72) 9 0 (8 * s + p) eY_map_72 rfl rfl (rfl) (by omega) (by omega) ?_
              refine go_if_ne (pc := 73) 91 (by decide) eY_map_73 (fun c73 => ?_) (fun c73 => ?_)
              · refine go_iconst (pc := 91) (v := 0) (by decide) eY_map_91 ?_
                refine go_rV (pc := 92) 6 (d_fails0) okY_fails lmY_46 eY_map_92 rfl rfl rfl rfl rfl (Nat.le_of_ble_eq_true rfl) (Nat.le_of_ble_eq_true rfl) ?_
                refine go_if_eq (pc := 95) 100 (by decide) eY_map_95 (fun c95 => ?_) (fun c95 => ?_)
                · refine go_iconst (pc := 100) (v := 0) (by decide) eY_map_100 ?_
                  refine go_iload_n (pc := 101) 1 2 rfl rfl eY_map_101 ?_
                  refine go_iload_n (pc := 102) 2 3 rfl rfl eY_map_102 ?_
                  refine go_rS (pc := 103) (d_page0 s p) okY_page lmY_34 eY_map_103 rfl rfl (Nat.le_of_ble_eq_true rfl) (Nat.le_of_ble_eq_true rfl) ?_
                  refine go_istore (pc := 106) (ls' := [(5, _), (4, _), (0, _), (1, _), (2, _), (3, _)]) 5 (by decide) eY_map_106 rfl ?_
                  refine go_aload_n (pc := 108) 0 2 rfl rfl eY_map_108 ?_
                  refine go_get (pc := 109) hwY 6 rfl rfl 5 (by decide) lkY_16 rfl eY_map_109 ?_
                  refine go_iload (pc := 112) 5 0 rfl eY_map_112 ?_
                  refine go_ialdN (pc := 114) 9 0 (8 * s + p) eY_map_114 rfl rfl (rfl) (by omega) (by omega) ?_
                  refine go_if_le (pc := 115) 120 (by decide) eY_map_115 (fun c115 => ?_) (fun c115 => ?_)
                  · exact absurd ((nI_lz (by have := hsm (8 * s + p); omega)).mp c115) h0
                  · refine go_iconst (pc := 118) (v := 0) (by decide) eY_map_118 ?_
                    exact go_iret (pc := 119) rfl rfl eY_map_119 (hf)
                · exact absurd c95 (by decide)
              · exact absurd ((nI_z (by have := hsm (8 * s + p); omega)).mp c73) h0
        · exact absurd c40 (by decide)
      · exact absurd c28 (by decide)
set_option maxRecDepth 100000 in
set_option maxHeartbeats 1000000 in
theorem e_map3 (hsm : ∀ k, sm k < 2 ^ 30) (s : Nat) (hs : s < 6) (hth : th s = true) (p : Nat) (hp : p < 8) (v : Int32) (hF : F ≤ 60) (h0 : sm (8 * s + p) = 0) (hu : gcnt (usf sm) 432 = F) : Ret (gg D cI cB cL bb L xs) mY_map (n + 1) 0 0 [.ref hm, .int (nI s), .int (nI p), .int (v)] (zW z0 z1 z2 z3 z4 z5 cI cB hm b1 b2 b3 b4 cd F sx pd th sm u rest) (some (.int (0))) (zW z0 z1 z2 z3 z4 z5 cI cB hm b1 b2 b3 b4 3 F sx pd th sm u rest) := by
  intro Psi hf
  show Go _ _ _ _ _ 0 [(0, .ref hm), (1, .int (nI s)), (2, .int (nI p)), (3, .int (v))] [] _ Psi
  refine go_aload_n (pc := 0) 0 0 rfl rfl eY_map_0 ?_
  refine go_iload_n (pc := 1) 1 1 rfl rfl eY_map_1 ?_
  refine go_rV (pc := 2) 6 (d_isSpaceT s hs hth) okY_isSpace lmY_42 eY_map_2 rfl rfl rfl rfl rfl (Nat.le_of_ble_eq_true rfl) (Nat.le_of_ble_eq_true rfl) ?_
  refine go_if_eq (pc := 5) 19 (by decide) eY_map_5 (fun c5 => ?_) (fun c5 => ?_)
  · exact absurd c5 (by decide)
  · refine go_iload_n (pc := 8) 2 2 rfl rfl eY_map_8 ?_
    refine go_rS (pc := 9) (d_isPageT p hp) okY_isPage lmY_57 eY_map_9 rfl rfl (Nat.le_of_ble_eq_true rfl) (Nat.le_of_ble_eq_true rfl) ?_
    refine go_if_eq (pc := 12) 19 (by decide) eY_map_12 (fun c12 => ?_) (fun c12 => ?_)
    · exact absurd c12 (by decide)
    · refine go_iconst (pc := 15) (v := 1) (by decide) eY_map_15 ?_
      refine go_goto (pc := 16) 20 (by decide) eY_map_16 ?_
      refine go_istore (pc := 20) (ls' := [(4, _), (0, _), (1, _), (2, _), (3, _)]) 4 (by decide) eY_map_20 rfl ?_
      refine go_aload_n (pc := 22) 0 1 rfl rfl eY_map_22 ?_
      refine go_aload_n (pc := 23) 0 1 rfl rfl eY_map_23 ?_
      refine go_iload_n (pc := 24) 1 2 rfl rfl eY_map_24 ?_
      refine go_rV (pc := 25) 6 (d_isSpaceT s hs hth) okY_isSpace lmY_42 eY_map_25 rfl rfl rfl rfl rfl (Nat.le_of_ble_eq_true rfl) (Nat.le_of_ble_eq_true rfl) ?_
      refine go_if_ne (pc := 28) 35 (by decide) eY_map_28 (fun c28 => ?_) (fun c28 => ?_)
      · refine go_iconst (pc := 35) (v := 0) (by decide) eY_map_35 ?_
        refine go_iload_n (pc := 36) 2 3 rfl rfl eY_map_36 ?_
        refine go_rS (pc := 37) (d_isPageT p hp) okY_isPage lmY_57 eY_map_37 rfl rfl (Nat.le_of_ble_eq_true rfl) (Nat.le_of_ble_eq_true rfl) ?_
        refine go_if_ne (pc := 40) 47 (by decide) eY_map_40 (fun c40 => ?_) (fun c40 => ?_)
        · refine go_iconst (pc := 47) (v := 0) (by decide) eY_map_47 ?_
          refine go_iload (pc := 48) 4 0 rfl eY_map_48 ?_
          refine go_if_eq (pc := 50) 91 (by decide) eY_map_50 (fun c50 => ?_) (fun c50 => ?_)
          · exact absurd c50 (by decide)
          · refine go_aload_n (pc := 53) 0 1 rfl rfl eY_map_53 ?_
            refine go_get (pc := 54) hwY 6 rfl rfl 5 (by decide) lkY_16 rfl eY_map_54 ?_
            refine go_iconst (pc := 57) (v := 0) (by decide) eY_map_57 ?_
            refine go_iload_n (pc := 58) 1 2 rfl rfl eY_map_58 ?_
            refine go_iload (pc := 59) 4 0 rfl eY_map_59 ?_
            refine go_if_eq (pc := 61) 68 (by decide) eY_map_61 (fun c61 => ?_) (fun c61 => ?_)
            · exact absurd c61 (by decide)
            · refine go_iload_n (pc := 64) 2 3 rfl rfl eY_map_64 ?_
              refine go_goto (pc := 65) 69 (by decide) eY_map_65 ?_
              refine go_rS (pc := 69) (d_page0 s p) okY_page lmY_34 eY_map_69 rfl rfl (Nat.le_of_ble_eq_true rfl) (Nat.le_of_ble_eq_true rfl) ?_
              refine go_ialdN (pc := 72) 9 0 (8 * s + p) eY_map_72 rfl rfl (rfl) (by omega) (by omega) ?_
              refine go_if_ne (pc := 73) 91 (by decide) eY_map_73 (fun c73 => ?_) (fun c73 => ?_)
              · exact absurd ((nI_z (by have := hsm (8 * s + p); omega)).mpr h0) c73
              · refine go_aload_n (pc := 76) 0 1 rfl rfl eY_map_76 ?_
                refine go_rV (pc := 77) 6 (d_used hsm) okY_used lmY_60 eY_map_77 rfl rfl rfl rfl rfl (Nat.le_of_ble_eq_true rfl) (Nat.le_of_ble_eq_true rfl) ?_
                refine go_aload_n (pc := 80) 0 1 rfl rfl eY_map_80 ?_
                refine go_get (pc := 81) hwY 6 rfl rfl 1 (by decide) lkY_23 rfl eY_map_81 ?_
                rw [hu]
                refine go_icmp_ne (pc := 84) 91 (by decide) eY_map_84 (fun c84 => ?_) (fun c84 => ?_)
                · exact absurd rfl c84
                · refine go_iconst (pc := 87) (v := 1) (by decide) eY_map_87 ?_
                  refine go_goto (pc := 88) 92 (by decide) eY_map_88 ?_
                  refine go_rV (pc := 92) 6 (d_fails3) okY_fails lmY_46 eY_map_92 rfl rfl rfl rfl rfl (Nat.le_of_ble_eq_true rfl) (Nat.le_of_ble_eq_true rfl) ?_
                  refine go_if_eq (pc := 95) 100 (by decide) eY_map_95 (fun c95 => ?_) (fun c95 => ?_)
                  · exact absurd c95 (by decide)
                  · refine go_iconst (pc := 98) (v := 0) (by decide) eY_map_98 ?_
                    exact go_iret (pc := 99) rfl rfl eY_map_99 (hf)
        · exact absurd c40 (by decide)
      · exact absurd c28 (by decide)
set_option maxRecDepth 100000 in
set_option maxHeartbeats 1000000 in
theorem k_map (s : Nat) (hs : s < 6) (p : Nat) (hp : p < 8) (v : Int32) {Psi : gR → va_W → Prop} (hf : Psi (.inl (some (.int 1))) (zW z0 z1 z2 z3 z4 z5 cI cB hm b1 b2 b3 b4 cd F sx pd th sm (va_cpy (fun _ => v) u 0 (16 * (8 * s + p)) 16) rest)) : ∀ (m i : Nat), i + m = 16 → Go (gg D cI cB cL bb L xs) mY_map (n + 1) 0 0 144 [(6, .int (nI i)), (5, .int (nI (8 * s + p))), (0, .ref hm), (3, .int (v))] [] (zW z0 z1 z2 z3 z4 z5 cI cB hm b1 b2 b3 b4 cd F sx pd th sm (va_cpy (fun _ => v) u 0 (16 * (8 * s + p)) i) rest) Psi := by
  intro m
  induction m with
  | zero =>
    intro i hi
    obtain rfl : i = 16 := by omega
    refine go_iload (pc := 144) 6 0 rfl eY_map_144 ?_
    refine go_bipush (pc := 146) (v := 16) (by decide) eY_map_146 ?_
    refine go_icmp_ge (pc := 148) 171 (by decide) eY_map_148 (fun c148 => ?_) (fun c148 => ?_)
    · refine go_iconst (pc := 171) (v := 1) (by decide) eY_map_171 ?_
      exact go_iret (pc := 172) rfl rfl eY_map_172 (hf)
    · exact absurd (show (16 : Int32) ≤ nI 16 by decide) c148
  | succ m ih =>
    intro i hi
    refine go_iload (pc := 144) 6 0 rfl eY_map_144 ?_
    refine go_bipush (pc := 146) (v := 16) (by decide) eY_map_146 ?_
    refine go_icmp_ge (pc := 148) 171 (by decide) eY_map_148 (fun c148 => ?_) (fun c148 => ?_)
    · exact absurd c148 (nI_ge (b := 16) (by omega) (by omega))
    · refine go_aload_n (pc := 151) 0 2 rfl rfl eY_map_151 ?_
      refine go_get (pc := 152) hwY 6 rfl rfl 6 (by decide) lkY_20 rfl eY_map_152 ?_
      refine go_bipush (pc := 155) (v := 16) (by decide) eY_map_155 ?_
      refine go_iload (pc := 157) 5 1 rfl eY_map_157 ?_
      refine go_imul (pc := 159) eY_map_159 ?_
      refine go_iload (pc := 160) 6 0 rfl eY_map_160 ?_
      refine go_iadd (pc := 162) eY_map_162 ?_
      refine go_iload_n (pc := 163) 3 3 rfl rfl eY_map_163 ?_
      refine go_iastN (pc := 164) (es' := (zW z0 z1 z2 z3 z4 z5 cI cB hm b1 b2 b3 b4 cd F sx pd th sm (va_cpy (fun _ => v) u 0 (16 * (8 * s + p)) (i + 1)) rest)) 10 0 (16 * (8 * s + p) + i) eY_map_164 rfl rfl (n16 (8 * s + p) i) (by omega) (by omega) (ys10 cpy_up) ?_
      refine go_iinc (pc := 165) (z := 1) (v := nI (i + 1)) (ls' := [(6, _), (5, _), (0, _), (3, _)]) 6 0 rfl (nI_1 i) (by decide) eY_map_165 rfl ?_
      refine go_goto (pc := 168) 144 (by decide) eY_map_168 ?_
      exact ih (i + 1) (by omega)
set_option maxRecDepth 100000 in
set_option maxHeartbeats 1000000 in
theorem d_map1 (hsm : ∀ k, sm k < 2 ^ 30) (s : Nat) (hs : s < 6) (hth : th s = true) (p : Nat) (hp : p < 8) (v : Int32) (hF : F ≤ 60) (h0 : sm (8 * s + p) = 0) (hu : gcnt (usf sm) 432 ≠ F) : Ret (gg D cI cB cL bb L xs) mY_map (n + 1) 0 0 [.ref hm, .int (nI s), .int (nI p), .int (v)] (zW z0 z1 z2 z3 z4 z5 cI cB hm b1 b2 b3 b4 cd F sx pd th sm u rest) (some (.int (1))) (zW z0 z1 z2 z3 z4 z5 cI cB hm b1 b2 b3 b4 0 F (sx + 1) pd th (va_up sm (8 * s + p) (sx + 1)) (va_cpy (fun _ => v) u 0 (16 * (8 * s + p)) 16) rest) := by
  intro Psi hf
  show Go _ _ _ _ _ 0 [(0, .ref hm), (1, .int (nI s)), (2, .int (nI p)), (3, .int (v))] [] _ Psi
  refine go_aload_n (pc := 0) 0 0 rfl rfl eY_map_0 ?_
  refine go_iload_n (pc := 1) 1 1 rfl rfl eY_map_1 ?_
  refine go_rV (pc := 2) 6 (d_isSpaceT s hs hth) okY_isSpace lmY_42 eY_map_2 rfl rfl rfl rfl rfl (Nat.le_of_ble_eq_true rfl) (Nat.le_of_ble_eq_true rfl) ?_
  refine go_if_eq (pc := 5) 19 (by decide) eY_map_5 (fun c5 => ?_) (fun c5 => ?_)
  · exact absurd c5 (by decide)
  · refine go_iload_n (pc := 8) 2 2 rfl rfl eY_map_8 ?_
    refine go_rS (pc := 9) (d_isPageT p hp) okY_isPage lmY_57 eY_map_9 rfl rfl (Nat.le_of_ble_eq_true rfl) (Nat.le_of_ble_eq_true rfl) ?_
    refine go_if_eq (pc := 12) 19 (by decide) eY_map_12 (fun c12 => ?_) (fun c12 => ?_)
    · exact absurd c12 (by decide)
    · refine go_iconst (pc := 15) (v := 1) (by decide) eY_map_15 ?_
      refine go_goto (pc := 16) 20 (by decide) eY_map_16 ?_
      refine go_istore (pc := 20) (ls' := [(4, _), (0, _), (1, _), (2, _), (3, _)]) 4 (by decide) eY_map_20 rfl ?_
      refine go_aload_n (pc := 22) 0 1 rfl rfl eY_map_22 ?_
      refine go_aload_n (pc := 23) 0 1 rfl rfl eY_map_23 ?_
      refine go_iload_n (pc := 24) 1 2 rfl rfl eY_map_24 ?_
      refine go_rV (pc := 25) 6 (d_isSpaceT s hs hth) okY_isSpace lmY_42 eY_map_25 rfl rfl rfl rfl rfl (Nat.le_of_ble_eq_true rfl) (Nat.le_of_ble_eq_true rfl) ?_
      refine go_if_ne (pc := 28) 35 (by decide) eY_map_28 (fun c28 => ?_) (fun c28 => ?_)
      · refine go_iconst (pc := 35) (v := 0) (by decide) eY_map_35 ?_
        refine go_iload_n (pc := 36) 2 3 rfl rfl eY_map_36 ?_
        refine go_rS (pc := 37) (d_isPageT p hp) okY_isPage lmY_57 eY_map_37 rfl rfl (Nat.le_of_ble_eq_true rfl) (Nat.le_of_ble_eq_true rfl) ?_
        refine go_if_ne (pc := 40) 47 (by decide) eY_map_40 (fun c40 => ?_) (fun c40 => ?_)
        · refine go_iconst (pc := 47) (v := 0) (by decide) eY_map_47 ?_
          refine go_iload (pc := 48) 4 0 rfl eY_map_48 ?_
          refine go_if_eq (pc := 50) 91 (by decide) eY_map_50 (fun c50 => ?_) (fun c50 => ?_)
          · exact absurd c50 (by decide)
          · refine go_aload_n (pc := 53) 0 1 rfl rfl eY_map_53 ?_
            refine go_get (pc := 54) hwY 6 rfl rfl 5 (by decide) lkY_16 rfl eY_map_54 ?_
            refine go_iconst (pc := 57) (v := 0) (by decide) eY_map_57 ?_
            refine go_iload_n (pc := 58) 1 2 rfl rfl eY_map_58 ?_
            refine go_iload (pc := 59) 4 0 rfl eY_map_59 ?_
            refine go_if_eq (pc := 61) 68 (by decide) eY_map_61 (fun c61 => ?_) (fun c61 => ?_)
            · exact absurd c61 (by decide)
            · refine go_iload_n (pc := 64) 2 3 rfl rfl eY_map_64 ?_
              refine go_goto (pc := 65) 69 (by decide) eY_map_65 ?_
              refine go_rS (pc := 69) (d_page0 s p) okY_page lmY_34 eY_map_69 rfl rfl (Nat.le_of_ble_eq_true rfl) (Nat.le_of_ble_eq_true rfl) ?_
              refine go_ialdN (pc := 72) 9 0 (8 * s + p) eY_map_72 rfl rfl (rfl) (by omega) (by omega) ?_
              refine go_if_ne (pc := 73) 91 (by decide) eY_map_73 (fun c73 => ?_) (fun c73 => ?_)
              · exact absurd ((nI_z (by have := hsm (8 * s + p); omega)).mpr h0) c73
              · refine go_aload_n (pc := 76) 0 1 rfl rfl eY_map_76 ?_
                refine go_rV (pc := 77) 6 (d_used hsm) okY_used lmY_60 eY_map_77 rfl rfl rfl rfl rfl (Nat.le_of_ble_eq_true rfl) (Nat.le_of_ble_eq_true rfl) ?_
                refine go_aload_n (pc := 80) 0 1 rfl rfl eY_map_80 ?_
                refine go_get (pc := 81) hwY 6 rfl rfl 1 (by decide) lkY_23 rfl eY_map_81 ?_
                refine go_icmp_ne (pc := 84) 91 (by decide) eY_map_84 (fun c84 => ?_) (fun c84 => ?_)
                · refine go_iconst (pc := 91) (v := 0) (by decide) eY_map_91 ?_
                  refine go_rV (pc := 92) 6 (d_fails0) okY_fails lmY_46 eY_map_92 rfl rfl rfl rfl rfl (Nat.le_of_ble_eq_true rfl) (Nat.le_of_ble_eq_true rfl) ?_
                  refine go_if_eq (pc := 95) 100 (by decide) eY_map_95 (fun c95 => ?_) (fun c95 => ?_)
                  · refine go_iconst (pc := 100) (v := 0) (by decide) eY_map_100 ?_
                    refine go_iload_n (pc := 101) 1 2 rfl rfl eY_map_101 ?_
                    refine go_iload_n (pc := 102) 2 3 rfl rfl eY_map_102 ?_
                    refine go_rS (pc := 103) (d_page0 s p) okY_page lmY_34 eY_map_103 rfl rfl (Nat.le_of_ble_eq_true rfl) (Nat.le_of_ble_eq_true rfl) ?_
                    refine go_istore (pc := 106) (ls' := [(5, _), (4, _), (0, _), (1, _), (2, _), (3, _)]) 5 (by decide) eY_map_106 rfl ?_
                    refine go_aload_n (pc := 108) 0 2 rfl rfl eY_map_108 ?_
                    refine go_get (pc := 109) hwY 6 rfl rfl 5 (by decide) lkY_16 rfl eY_map_109 ?_
                    refine go_iload (pc := 112) 5 0 rfl eY_map_112 ?_
                    refine go_ialdN (pc := 114) 9 0 (8 * s + p) eY_map_114 rfl rfl (rfl) (by omega) (by omega) ?_
                    refine go_if_le (pc := 115) 120 (by decide) eY_map_115 (fun c115 => ?_) (fun c115 => ?_)
                    · refine go_aload_n (pc := 120) 0 2 rfl rfl eY_map_120 ?_
                      refine go_dup (pc := 121) rfl eY_map_121 ?_
                      refine go_get (pc := 122) hwY 6 rfl rfl 2 (by decide) lkY_63 rfl eY_map_122 ?_
                      refine go_iconst (pc := 125) (v := 1) (by decide) eY_map_125 ?_
                      refine go_iadd (pc := 126) eY_map_126 ?_
                      rw [nI_1]
                      refine go_put (pc := 127) (ty := .int) (es' := (zW z0 z1 z2 z3 z4 z5 cI cB hm b1 b2 b3 b4 0 F (sx + 1) pd th sm u rest)) hwY tyY tyY_ok nmY 6 rfl rfl 2 (by decide) lkY_63 rfl (by decide +kernel) rfl rfl (Nat.le_of_ble_eq_true rfl) eY_map_127 rfl ?_
                      refine go_aload_n (pc := 130) 0 2 rfl rfl eY_map_130 ?_
                      refine go_get (pc := 131) hwY 6 rfl rfl 5 (by decide) lkY_16 rfl eY_map_131 ?_
                      refine go_iload (pc := 134) 5 0 rfl eY_map_134 ?_
                      refine go_aload_n (pc := 136) 0 2 rfl rfl eY_map_136 ?_
                      refine go_get (pc := 137) hwY 6 rfl rfl 2 (by decide) lkY_63 rfl eY_map_137 ?_
                      refine go_iastN (pc := 140) (es' := (zW z0 z1 z2 z3 z4 z5 cI cB hm b1 b2 b3 b4 0 F (sx + 1) pd th (va_up sm (8 * s + p) (sx + 1)) u rest)) 9 0 (8 * s + p) eY_map_140 rfl rfl rfl (by omega) (by omega) (ys9 upd_n) ?_
                      refine go_iconst (pc := 141) (v := 0) (by decide) eY_map_141 ?_
                      refine go_istore (pc := 142) (ls' := [(6, _), (5, _), (4, _), (0, _), (1, _), (2, _), (3, _)]) 6 (by decide) eY_map_142 rfl ?_
                      refine go_ls (ls' := [(6, _), (5, _), (0, _), (3, _)]) [0, 1, 3, 6] rfl ?_
                      refine go_es (es' := (zW z0 z1 z2 z3 z4 z5 cI cB hm b1 b2 b3 b4 0 F (sx + 1) pd th (va_up sm (8 * s + p) (sx + 1)) (va_cpy (fun _ => v) u 0 (16 * (8 * s + p)) 0) rest)) (by rw [cpy_0]) ?_
                      exact k_map s hs p hp v hf 16 0 (by omega)
                    · exact absurd ((nI_lz (by have := hsm (8 * s + p); omega)).mpr h0) c115
                  · exact absurd c95 (by decide)
                · exact absurd ((nI_eq (us31 sm) (by omega)).mp c84) hu
        · exact absurd c40 (by decide)
      · exact absurd c28 (by decide)
set_option maxRecDepth 100000 in
set_option maxHeartbeats 1000000 in
theorem e_map1 (x : Int32) (hx : ∀ j, j < 6 → x = nI j → th j = false) (y v : Int32) : Ret (gg D cI cB cL bb L xs) mY_map (n + 1) 0 0 [.ref hm, .int (x), .int (y), .int (v)] (zW z0 z1 z2 z3 z4 z5 cI cB hm b1 b2 b3 b4 cd F sx pd th sm u rest) (some (.int (0))) (zW z0 z1 z2 z3 z4 z5 cI cB hm b1 b2 b3 b4 1 F sx pd th sm u rest) := by
  intro Psi hf
  show Go _ _ _ _ _ 0 [(0, .ref hm), (1, .int (x)), (2, .int (y)), (3, .int (v))] [] _ Psi
  refine go_aload_n (pc := 0) 0 0 rfl rfl eY_map_0 ?_
  refine go_iload_n (pc := 1) 1 1 rfl rfl eY_map_1 ?_
  refine go_rV (pc := 2) 6 (d_isSpaceF x hx) okY_isSpace lmY_42 eY_map_2 rfl rfl rfl rfl rfl (Nat.le_of_ble_eq_true rfl) (Nat.le_of_ble_eq_true rfl) ?_
  refine go_if_eq (pc := 5) 19 (by decide) eY_map_5 (fun c5 => ?_) (fun c5 => ?_)
  · refine go_iconst (pc := 19) (v := 0) (by decide) eY_map_19 ?_
    refine go_istore (pc := 20) (ls' := [(4, _), (0, _), (1, _), (2, _), (3, _)]) 4 (by decide) eY_map_20 rfl ?_
    refine go_aload_n (pc := 22) 0 1 rfl rfl eY_map_22 ?_
    refine go_aload_n (pc := 23) 0 1 rfl rfl eY_map_23 ?_
    refine go_iload_n (pc := 24) 1 2 rfl rfl eY_map_24 ?_
    refine go_rV (pc := 25) 6 (d_isSpaceF x hx) okY_isSpace lmY_42 eY_map_25 rfl rfl rfl rfl rfl (Nat.le_of_ble_eq_true rfl) (Nat.le_of_ble_eq_true rfl) ?_
    refine go_if_ne (pc := 28) 35 (by decide) eY_map_28 (fun c28 => ?_) (fun c28 => ?_)
    · exact absurd rfl c28
    · refine go_iconst (pc := 31) (v := 1) (by decide) eY_map_31 ?_
      refine go_goto (pc := 32) 36 (by decide) eY_map_32 ?_
      obtain ⟨b, hb01, hpg⟩ := d_isPage (D := D) (cI := cI) (cB := cB) (cL := cL) (bb := bb) (L := L) (xs := xs) y
      refine go_iload_n (pc := 36) 2 3 rfl rfl eY_map_36 ?_
      refine go_rS (pc := 37) (hpg _ _) okY_isPage lmY_57 eY_map_37 rfl rfl (Nat.le_of_ble_eq_true rfl) (Nat.le_of_ble_eq_true rfl) ?_
      refine go_if_ne (pc := 40) 47 (by decide) eY_map_40 (fun c40 => ?_) (fun c40 => ?_)
      · refine go_iconst (pc := 47) (v := 0) (by decide) eY_map_47 ?_
        refine go_iload (pc := 48) 4 0 rfl eY_map_48 ?_
        refine go_if_eq (pc := 50) 91 (by decide) eY_map_50 (fun c50 => ?_) (fun c50 => ?_)
        · refine go_iconst (pc := 91) (v := 0) (by decide) eY_map_91 ?_
          refine go_rV (pc := 92) 6 (d_fails1 _ 0) okY_fails lmY_46 eY_map_92 rfl rfl rfl rfl rfl (Nat.le_of_ble_eq_true rfl) (Nat.le_of_ble_eq_true rfl) ?_
          refine go_if_eq (pc := 95) 100 (by decide) eY_map_95 (fun c95 => ?_) (fun c95 => ?_)
          · exact absurd c95 (by decide)
          · refine go_iconst (pc := 98) (v := 0) (by decide) eY_map_98 ?_
            exact go_iret (pc := 99) rfl rfl eY_map_99 (hf)
        · exact absurd rfl c50
      · refine go_iconst (pc := 43) (v := 1) (by decide) eY_map_43 ?_
        refine go_goto (pc := 44) 48 (by decide) eY_map_44 ?_
        refine go_iload (pc := 48) 4 0 rfl eY_map_48 ?_
        refine go_if_eq (pc := 50) 91 (by decide) eY_map_50 (fun c50 => ?_) (fun c50 => ?_)
        · refine go_iconst (pc := 91) (v := 0) (by decide) eY_map_91 ?_
          refine go_rV (pc := 92) 6 (d_fails1 _ 0) okY_fails lmY_46 eY_map_92 rfl rfl rfl rfl rfl (Nat.le_of_ble_eq_true rfl) (Nat.le_of_ble_eq_true rfl) ?_
          refine go_if_eq (pc := 95) 100 (by decide) eY_map_95 (fun c95 => ?_) (fun c95 => ?_)
          · exact absurd c95 (by decide)
          · refine go_iconst (pc := 98) (v := 0) (by decide) eY_map_98 ?_
            exact go_iret (pc := 99) rfl rfl eY_map_99 (hf)
        · exact absurd rfl c50
  · exact absurd rfl c5
set_option maxRecDepth 100000 in
set_option maxHeartbeats 1000000 in
theorem e_map2 (s : Nat) (hs : s < 6) (hth : th s = true) (y : Int32) (hy : ∀ j, j < 8 → y ≠ nI j) (v : Int32) : Ret (gg D cI cB cL bb L xs) mY_map (n + 1) 0 0 [.ref hm, .int (nI s), .int (y), .int (v)] (zW z0 z1 z2 z3 z4 z5 cI cB hm b1 b2 b3 b4 cd F sx pd th sm u rest) (some (.int (0))) (zW z0 z1 z2 z3 z4 z5 cI cB hm b1 b2 b3 b4 2 F sx pd th sm u rest) := by
  intro Psi hf
  show Go _ _ _ _ _ 0 [(0, .ref hm), (1, .int (nI s)), (2, .int (y)), (3, .int (v))] [] _ Psi
  refine go_aload_n (pc := 0) 0 0 rfl rfl eY_map_0 ?_
  refine go_iload_n (pc := 1) 1 1 rfl rfl eY_map_1 ?_
  refine go_rV (pc := 2) 6 (d_isSpaceT s hs hth) okY_isSpace lmY_42 eY_map_2 rfl rfl rfl rfl rfl (Nat.le_of_ble_eq_true rfl) (Nat.le_of_ble_eq_true rfl) ?_
  refine go_if_eq (pc := 5) 19 (by decide) eY_map_5 (fun c5 => ?_) (fun c5 => ?_)
  · exact absurd c5 (by decide)
  · refine go_iload_n (pc := 8) 2 2 rfl rfl eY_map_8 ?_
    refine go_rS (pc := 9) (d_isPageF y hy) okY_isPage lmY_57 eY_map_9 rfl rfl (Nat.le_of_ble_eq_true rfl) (Nat.le_of_ble_eq_true rfl) ?_
    refine go_if_eq (pc := 12) 19 (by decide) eY_map_12 (fun c12 => ?_) (fun c12 => ?_)
    · refine go_iconst (pc := 19) (v := 0) (by decide) eY_map_19 ?_
      refine go_istore (pc := 20) (ls' := [(4, _), (0, _), (1, _), (2, _), (3, _)]) 4 (by decide) eY_map_20 rfl ?_
      refine go_aload_n (pc := 22) 0 1 rfl rfl eY_map_22 ?_
      refine go_aload_n (pc := 23) 0 1 rfl rfl eY_map_23 ?_
      refine go_iload_n (pc := 24) 1 2 rfl rfl eY_map_24 ?_
      refine go_rV (pc := 25) 6 (d_isSpaceT s hs hth) okY_isSpace lmY_42 eY_map_25 rfl rfl rfl rfl rfl (Nat.le_of_ble_eq_true rfl) (Nat.le_of_ble_eq_true rfl) ?_
      refine go_if_ne (pc := 28) 35 (by decide) eY_map_28 (fun c28 => ?_) (fun c28 => ?_)
      · refine go_iconst (pc := 35) (v := 0) (by decide) eY_map_35 ?_
        refine go_iload_n (pc := 36) 2 3 rfl rfl eY_map_36 ?_
        refine go_rS (pc := 37) (d_isPageF y hy) okY_isPage lmY_57 eY_map_37 rfl rfl (Nat.le_of_ble_eq_true rfl) (Nat.le_of_ble_eq_true rfl) ?_
        refine go_if_ne (pc := 40) 47 (by decide) eY_map_40 (fun c40 => ?_) (fun c40 => ?_)
        · exact absurd rfl c40
        · refine go_iconst (pc := 43) (v := 1) (by decide) eY_map_43 ?_
          refine go_goto (pc := 44) 48 (by decide) eY_map_44 ?_
          refine go_iload (pc := 48) 4 0 rfl eY_map_48 ?_
          refine go_if_eq (pc := 50) 91 (by decide) eY_map_50 (fun c50 => ?_) (fun c50 => ?_)
          · refine go_iconst (pc := 91) (v := 0) (by decide) eY_map_91 ?_
            refine go_rV (pc := 92) 6 (d_fails2 0) okY_fails lmY_46 eY_map_92 rfl rfl rfl rfl rfl (Nat.le_of_ble_eq_true rfl) (Nat.le_of_ble_eq_true rfl) ?_
            refine go_if_eq (pc := 95) 100 (by decide) eY_map_95 (fun c95 => ?_) (fun c95 => ?_)
            · exact absurd c95 (by decide)
            · refine go_iconst (pc := 98) (v := 0) (by decide) eY_map_98 ?_
              exact go_iret (pc := 99) rfl rfl eY_map_99 (hf)
          · exact absurd rfl c50
      · exact absurd c28 (by decide)
    · exact absurd rfl c12
set_option maxRecDepth 100000 in
set_option maxHeartbeats 1000000 in
theorem d_cell (hsm : ∀ k, sm k < 2 ^ 30) (s : Nat) (hs : s < 6) (hth : th s = true) (a : Nat) (ha : a < 128) (h0 : sm (8 * s + a / 16) ≠ 0) : Ret (gg D cI cB cL bb L xs) mY_cell (n + 1) 0 0 [.ref hm, .int (nI s), .int (nI a)] (zW z0 z1 z2 z3 z4 z5 cI cB hm b1 b2 b3 b4 cd F sx pd th sm u rest) (some (.int (nI (16 * (8 * s + a / 16) + a % 16)))) (zW z0 z1 z2 z3 z4 z5 cI cB hm b1 b2 b3 b4 0 F sx pd th sm u rest) := by
  intro Psi hf
  show Go _ _ _ _ _ 0 [(0, .ref hm), (1, .int (nI s)), (2, .int (nI a))] [] _ Psi
  refine go_iload_n (pc := 0) 2 2 rfl rfl eY_cell_0 ?_
  refine go_if_lt (pc := 1) 15 (by decide) eY_cell_1 (fun c1 => ?_) (fun c1 => ?_)
  · exact absurd c1 (nI_pos (by omega))
  · refine go_iload_n (pc := 4) 2 2 rfl rfl eY_cell_4 ?_
    refine go_sipush (pc := 5) (v := 128) (by decide) eY_cell_5 ?_
    refine go_icmp_ge (pc := 8) 15 (by decide) eY_cell_8 (fun c8 => ?_) (fun c8 => ?_)
    · exact absurd c8 (nI_ge (b := 128) (by omega) (by omega))
    · refine go_iconst (pc := 11) (v := 1) (by decide) eY_cell_11 ?_
      refine go_goto (pc := 12) 16 (by decide) eY_cell_12 ?_
      refine go_istore_n (pc := 16) (ls' := [(3, _), (0, _), (1, _), (2, _)]) 3 rfl (by decide) eY_cell_16 rfl ?_
      refine go_iload_n (pc := 17) 3 0 rfl rfl eY_cell_17 ?_
      refine go_if_eq (pc := 18) 41 (by decide) eY_cell_18 (fun c18 => ?_) (fun c18 => ?_)
      · exact absurd c18 (by decide)
      · refine go_aload_n (pc := 21) 0 1 rfl rfl eY_cell_21 ?_
        refine go_iload_n (pc := 22) 1 2 rfl rfl eY_cell_22 ?_
        refine go_rV (pc := 23) 6 (d_isSpaceT s hs hth) okY_isSpace lmY_42 eY_cell_23 rfl rfl rfl rfl rfl (Nat.le_of_ble_eq_true rfl) (Nat.le_of_ble_eq_true rfl) ?_
        refine go_if_eq (pc := 26) 41 (by decide) eY_cell_26 (fun c26 => ?_) (fun c26 => ?_)
        · exact absurd c26 (by decide)
        · refine go_iconst (pc := 29) (v := 0) (by decide) eY_cell_29 ?_
          refine go_iload_n (pc := 30) 1 2 rfl rfl eY_cell_30 ?_
          refine go_iload_n (pc := 31) 2 3 rfl rfl eY_cell_31 ?_
          refine go_bipush (pc := 32) (v := 16) (by decide) eY_cell_32 ?_
          refine go_idiv (pc := 34) (by decide) eY_cell_34 ?_
          rw [show (16 : Int32) = nI 16 from rfl, pk_div (a := a) (d := 16) (by omega) (by omega) (by omega)]
          refine go_rS (pc := 35) (d_page0 s (a / 16)) okY_page lmY_34 eY_cell_35 rfl rfl (Nat.le_of_ble_eq_true rfl) (Nat.le_of_ble_eq_true rfl) ?_
          refine go_goto (pc := 38) 42 (by decide) eY_cell_38 ?_
          refine go_istore (pc := 42) (ls' := [(4, _), (3, _), (0, _), (1, _), (2, _)]) 4 (by decide) eY_cell_42 rfl ?_
          refine go_iload (pc := 44) 4 0 rfl eY_cell_44 ?_
          refine go_if_lt (pc := 46) 72 (by decide) eY_cell_46 (fun c46 => ?_) (fun c46 => ?_)
          · exact absurd c46 (nI_pos (by omega))
          · refine go_aload_n (pc := 49) 0 2 rfl rfl eY_cell_49 ?_
            refine go_get (pc := 50) hwY 6 rfl rfl 5 (by decide) lkY_16 rfl eY_cell_50 ?_
            refine go_iload (pc := 53) 4 0 rfl eY_cell_53 ?_
            refine go_if_ge (pc := 55) 62 (by decide) eY_cell_55 (fun c55 => ?_) (fun c55 => ?_)
            · refine go_iload (pc := 62) 4 0 rfl eY_cell_62 ?_
              refine go_ialdN (pc := 64) 9 0 (8 * s + a / 16) eY_cell_64 rfl rfl (rfl) (by omega) (by omega) ?_
              refine go_if_le (pc := 65) 72 (by decide) eY_cell_65 (fun c65 => ?_) (fun c65 => ?_)
              · exact absurd ((nI_lz (by have := hsm (8 * s + a / 16); omega)).mp c65) h0
              · refine go_iconst (pc := 68) (v := 1) (by decide) eY_cell_68 ?_
                refine go_goto (pc := 69) 73 (by decide) eY_cell_69 ?_
                refine go_istore (pc := 73) (ls' := [(5, _), (4, _), (3, _), (0, _), (1, _), (2, _)]) 5 (by decide) eY_cell_73 rfl ?_
                refine go_aload_n (pc := 75) 0 3 rfl rfl eY_cell_75 ?_
                refine go_iload_n (pc := 76) 3 2 rfl rfl eY_cell_76 ?_
                refine go_if_ne (pc := 77) 84 (by decide) eY_cell_77 (fun c77 => ?_) (fun c77 => ?_)
                · refine go_iconst (pc := 84) (v := 0) (by decide) eY_cell_84 ?_
                  refine go_iload (pc := 85) 5 0 rfl eY_cell_85 ?_
                  refine go_if_ne (pc := 87) 94 (by decide) eY_cell_87 (fun c87 => ?_) (fun c87 => ?_)
                  · refine go_iconst (pc := 94) (v := 0) (by decide) eY_cell_94 ?_
                    refine go_iconst (pc := 95) (v := 0) (by decide) eY_cell_95 ?_
                    refine go_rV (pc := 96) 6 (d_fails0) okY_fails lmY_46 eY_cell_96 rfl rfl rfl rfl rfl (Nat.le_of_ble_eq_true rfl) (Nat.le_of_ble_eq_true rfl) ?_
                    refine go_pop (pc := 99) rfl eY_cell_99 ?_
                    refine go_iload (pc := 100) 5 0 rfl eY_cell_100 ?_
                    refine go_if_eq (pc := 102) 118 (by decide) eY_cell_102 (fun c102 => ?_) (fun c102 => ?_)
                    · exact absurd c102 (by decide)
                    · refine go_bipush (pc := 105) (v := 16) (by decide) eY_cell_105 ?_
                      refine go_iload (pc := 107) 4 1 rfl eY_cell_107 ?_
                      refine go_imul (pc := 109) eY_cell_109 ?_
                      refine go_iload_n (pc := 110) 2 5 rfl rfl eY_cell_110 ?_
                      refine go_bipush (pc := 111) (v := 16) (by decide) eY_cell_111 ?_
                      refine go_irem (pc := 113) (by decide) eY_cell_113 ?_
                      refine go_iadd (pc := 114) eY_cell_114 ?_
                      rw [show (16 : Int32) = nI 16 from rfl, pk_rem (a := a) (d := 16) (by omega) (by omega) (by omega), pk_mul, nI_add]
                      refine go_goto (pc := 115) 119 (by decide) eY_cell_115 ?_
                      exact go_iret (pc := 119) rfl rfl eY_cell_119 (hf)
                  · exact absurd c87 (by decide)
                · exact absurd c77 (by decide)
            · exact absurd (nI_pos' (by omega)) c55
set_option maxRecDepth 100000 in
set_option maxHeartbeats 1000000 in
theorem e_cell3 (hsm : ∀ k, sm k < 2 ^ 30) (s : Nat) (hs : s < 6) (hth : th s = true) (a : Nat) (ha : a < 128) (h0 : sm (8 * s + a / 16) = 0) : Ret (gg D cI cB cL bb L xs) mY_cell (n + 1) 0 0 [.ref hm, .int (nI s), .int (nI a)] (zW z0 z1 z2 z3 z4 z5 cI cB hm b1 b2 b3 b4 cd F sx pd th sm u rest) (some (.int (-1))) (zW z0 z1 z2 z3 z4 z5 cI cB hm b1 b2 b3 b4 2 F sx pd th sm u rest) := by
  intro Psi hf
  show Go _ _ _ _ _ 0 [(0, .ref hm), (1, .int (nI s)), (2, .int (nI a))] [] _ Psi
  refine go_iload_n (pc := 0) 2 2 rfl rfl eY_cell_0 ?_
  refine go_if_lt (pc := 1) 15 (by decide) eY_cell_1 (fun c1 => ?_) (fun c1 => ?_)
  · exact absurd c1 (nI_pos (by omega))
  · refine go_iload_n (pc := 4) 2 2 rfl rfl eY_cell_4 ?_
    refine go_sipush (pc := 5) (v := 128) (by decide) eY_cell_5 ?_
    refine go_icmp_ge (pc := 8) 15 (by decide) eY_cell_8 (fun c8 => ?_) (fun c8 => ?_)
    · exact absurd c8 (nI_ge (b := 128) (by omega) (by omega))
    · refine go_iconst (pc := 11) (v := 1) (by decide) eY_cell_11 ?_
      refine go_goto (pc := 12) 16 (by decide) eY_cell_12 ?_
      refine go_istore_n (pc := 16) (ls' := [(3, _), (0, _), (1, _), (2, _)]) 3 rfl (by decide) eY_cell_16 rfl ?_
      refine go_iload_n (pc := 17) 3 0 rfl rfl eY_cell_17 ?_
      refine go_if_eq (pc := 18) 41 (by decide) eY_cell_18 (fun c18 => ?_) (fun c18 => ?_)
      · exact absurd c18 (by decide)
      · refine go_aload_n (pc := 21) 0 1 rfl rfl eY_cell_21 ?_
        refine go_iload_n (pc := 22) 1 2 rfl rfl eY_cell_22 ?_
        refine go_rV (pc := 23) 6 (d_isSpaceT s hs hth) okY_isSpace lmY_42 eY_cell_23 rfl rfl rfl rfl rfl (Nat.le_of_ble_eq_true rfl) (Nat.le_of_ble_eq_true rfl) ?_
        refine go_if_eq (pc := 26) 41 (by decide) eY_cell_26 (fun c26 => ?_) (fun c26 => ?_)
        · exact absurd c26 (by decide)
        · refine go_iconst (pc := 29) (v := 0) (by decide) eY_cell_29 ?_
          refine go_iload_n (pc := 30) 1 2 rfl rfl eY_cell_30 ?_
          refine go_iload_n (pc := 31) 2 3 rfl rfl eY_cell_31 ?_
          refine go_bipush (pc := 32) (v := 16) (by decide) eY_cell_32 ?_
          refine go_idiv (pc := 34) (by decide) eY_cell_34 ?_
          rw [show (16 : Int32) = nI 16 from rfl, pk_div (a := a) (d := 16) (by omega) (by omega) (by omega)]
          refine go_rS (pc := 35) (d_page0 s (a / 16)) okY_page lmY_34 eY_cell_35 rfl rfl (Nat.le_of_ble_eq_true rfl) (Nat.le_of_ble_eq_true rfl) ?_
          refine go_goto (pc := 38) 42 (by decide) eY_cell_38 ?_
          refine go_istore (pc := 42) (ls' := [(4, _), (3, _), (0, _), (1, _), (2, _)]) 4 (by decide) eY_cell_42 rfl ?_
          refine go_iload (pc := 44) 4 0 rfl eY_cell_44 ?_
          refine go_if_lt (pc := 46) 72 (by decide) eY_cell_46 (fun c46 => ?_) (fun c46 => ?_)
          · exact absurd c46 (nI_pos (by omega))
          · refine go_aload_n (pc := 49) 0 2 rfl rfl eY_cell_49 ?_
            refine go_get (pc := 50) hwY 6 rfl rfl 5 (by decide) lkY_16 rfl eY_cell_50 ?_
            refine go_iload (pc := 53) 4 0 rfl eY_cell_53 ?_
            refine go_if_ge (pc := 55) 62 (by decide) eY_cell_55 (fun c55 => ?_) (fun c55 => ?_)
            · refine go_iload (pc := 62) 4 0 rfl eY_cell_62 ?_
              refine go_ialdN (pc := 64) 9 0 (8 * s + a / 16) eY_cell_64 rfl rfl (rfl) (by omega) (by omega) ?_
              refine go_if_le (pc := 65) 72 (by decide) eY_cell_65 (fun c65 => ?_) (fun c65 => ?_)
              · refine go_iconst (pc := 72) (v := 0) (by decide) eY_cell_72 ?_
                refine go_istore (pc := 73) (ls' := [(5, _), (4, _), (3, _), (0, _), (1, _), (2, _)]) 5 (by decide) eY_cell_73 rfl ?_
                refine go_aload_n (pc := 75) 0 3 rfl rfl eY_cell_75 ?_
                refine go_iload_n (pc := 76) 3 2 rfl rfl eY_cell_76 ?_
                refine go_if_ne (pc := 77) 84 (by decide) eY_cell_77 (fun c77 => ?_) (fun c77 => ?_)
                · refine go_iconst (pc := 84) (v := 0) (by decide) eY_cell_84 ?_
                  refine go_iload (pc := 85) 5 0 rfl eY_cell_85 ?_
                  refine go_if_ne (pc := 87) 94 (by decide) eY_cell_87 (fun c87 => ?_) (fun c87 => ?_)
                  · exact absurd rfl c87
                  · refine go_iconst (pc := 90) (v := 1) (by decide) eY_cell_90 ?_
                    refine go_goto (pc := 91) 95 (by decide) eY_cell_91 ?_
                    refine go_iconst (pc := 95) (v := 0) (by decide) eY_cell_95 ?_
                    refine go_rV (pc := 96) 6 (d_fails2 0) okY_fails lmY_46 eY_cell_96 rfl rfl rfl rfl rfl (Nat.le_of_ble_eq_true rfl) (Nat.le_of_ble_eq_true rfl) ?_
                    refine go_pop (pc := 99) rfl eY_cell_99 ?_
                    refine go_iload (pc := 100) 5 0 rfl eY_cell_100 ?_
                    refine go_if_eq (pc := 102) 118 (by decide) eY_cell_102 (fun c102 => ?_) (fun c102 => ?_)
                    · refine go_iconst (pc := 118) (v := (-1)) (by decide) eY_cell_118 ?_
                      exact go_iret (pc := 119) rfl rfl eY_cell_119 (hf)
                    · exact absurd rfl c102
                · exact absurd c77 (by decide)
              · exact absurd ((nI_lz (by have := hsm (8 * s + a / 16); omega)).mpr h0) c65
            · exact absurd (nI_pos' (by omega)) c55
set_option maxRecDepth 100000 in
set_option maxHeartbeats 1000000 in
theorem e_cell2 (x : Int32) (hx : ∀ j, j < 6 → x = nI j → th j = false) (a : Nat) (ha : a < 128) : Ret (gg D cI cB cL bb L xs) mY_cell (n + 1) 0 0 [.ref hm, .int (x), .int (nI a)] (zW z0 z1 z2 z3 z4 z5 cI cB hm b1 b2 b3 b4 cd F sx pd th sm u rest) (some (.int (-1))) (zW z0 z1 z2 z3 z4 z5 cI cB hm b1 b2 b3 b4 2 F sx pd th sm u rest) := by
  intro Psi hf
  show Go _ _ _ _ _ 0 [(0, .ref hm), (1, .int (x)), (2, .int (nI a))] [] _ Psi
  refine go_iload_n (pc := 0) 2 2 rfl rfl eY_cell_0 ?_
  refine go_if_lt (pc := 1) 15 (by decide) eY_cell_1 (fun c1 => ?_) (fun c1 => ?_)
  · exact absurd c1 (nI_pos (by omega))
  · refine go_iload_n (pc := 4) 2 2 rfl rfl eY_cell_4 ?_
    refine go_sipush (pc := 5) (v := 128) (by decide) eY_cell_5 ?_
    refine go_icmp_ge (pc := 8) 15 (by decide) eY_cell_8 (fun c8 => ?_) (fun c8 => ?_)
    · exact absurd c8 (nI_ge (b := 128) (by omega) (by omega))
    · refine go_iconst (pc := 11) (v := 1) (by decide) eY_cell_11 ?_
      refine go_goto (pc := 12) 16 (by decide) eY_cell_12 ?_
      refine go_istore_n (pc := 16) (ls' := [(3, _), (0, _), (1, _), (2, _)]) 3 rfl (by decide) eY_cell_16 rfl ?_
      refine go_iload_n (pc := 17) 3 0 rfl rfl eY_cell_17 ?_
      refine go_if_eq (pc := 18) 41 (by decide) eY_cell_18 (fun c18 => ?_) (fun c18 => ?_)
      · exact absurd c18 (by decide)
      · refine go_aload_n (pc := 21) 0 1 rfl rfl eY_cell_21 ?_
        refine go_iload_n (pc := 22) 1 2 rfl rfl eY_cell_22 ?_
        refine go_rV (pc := 23) 6 (d_isSpaceF x hx) okY_isSpace lmY_42 eY_cell_23 rfl rfl rfl rfl rfl (Nat.le_of_ble_eq_true rfl) (Nat.le_of_ble_eq_true rfl) ?_
        refine go_if_eq (pc := 26) 41 (by decide) eY_cell_26 (fun c26 => ?_) (fun c26 => ?_)
        · refine go_iconst (pc := 41) (v := (-1)) (by decide) eY_cell_41 ?_
          refine go_istore (pc := 42) (ls' := [(4, _), (3, _), (0, _), (1, _), (2, _)]) 4 (by decide) eY_cell_42 rfl ?_
          refine go_iload (pc := 44) 4 0 rfl eY_cell_44 ?_
          refine go_if_lt (pc := 46) 72 (by decide) eY_cell_46 (fun c46 => ?_) (fun c46 => ?_)
          · refine go_iconst (pc := 72) (v := 0) (by decide) eY_cell_72 ?_
            refine go_istore (pc := 73) (ls' := [(5, _), (4, _), (3, _), (0, _), (1, _), (2, _)]) 5 (by decide) eY_cell_73 rfl ?_
            refine go_aload_n (pc := 75) 0 3 rfl rfl eY_cell_75 ?_
            refine go_iload_n (pc := 76) 3 2 rfl rfl eY_cell_76 ?_
            refine go_if_ne (pc := 77) 84 (by decide) eY_cell_77 (fun c77 => ?_) (fun c77 => ?_)
            · refine go_iconst (pc := 84) (v := 0) (by decide) eY_cell_84 ?_
              refine go_iload (pc := 85) 5 0 rfl eY_cell_85 ?_
              refine go_if_ne (pc := 87) 94 (by decide) eY_cell_87 (fun c87 => ?_) (fun c87 => ?_)
              · exact absurd rfl c87
              · refine go_iconst (pc := 90) (v := 1) (by decide) eY_cell_90 ?_
                refine go_goto (pc := 91) 95 (by decide) eY_cell_91 ?_
                refine go_iconst (pc := 95) (v := 0) (by decide) eY_cell_95 ?_
                refine go_rV (pc := 96) 6 (d_fails2 0) okY_fails lmY_46 eY_cell_96 rfl rfl rfl rfl rfl (Nat.le_of_ble_eq_true rfl) (Nat.le_of_ble_eq_true rfl) ?_
                refine go_pop (pc := 99) rfl eY_cell_99 ?_
                refine go_iload (pc := 100) 5 0 rfl eY_cell_100 ?_
                refine go_if_eq (pc := 102) 118 (by decide) eY_cell_102 (fun c102 => ?_) (fun c102 => ?_)
                · refine go_iconst (pc := 118) (v := (-1)) (by decide) eY_cell_118 ?_
                  exact go_iret (pc := 119) rfl rfl eY_cell_119 (hf)
                · exact absurd rfl c102
            · exact absurd c77 (by decide)
          · exact absurd c46 (by decide)
        · exact absurd rfl c26
set_option maxRecDepth 100000 in
set_option maxHeartbeats 1000000 in
theorem e_cell1 (x y : Int32) (hy : ∀ j, j < 128 → y ≠ nI j) : Ret (gg D cI cB cL bb L xs) mY_cell (n + 1) 0 0 [.ref hm, .int (x), .int (y)] (zW z0 z1 z2 z3 z4 z5 cI cB hm b1 b2 b3 b4 cd F sx pd th sm u rest) (some (.int (-1))) (zW z0 z1 z2 z3 z4 z5 cI cB hm b1 b2 b3 b4 1 F sx pd th sm u rest) := by
  intro Psi hf
  show Go _ _ _ _ _ 0 [(0, .ref hm), (1, .int (x)), (2, .int (y))] [] _ Psi
  refine go_iload_n (pc := 0) 2 2 rfl rfl eY_cell_0 ?_
  refine go_if_lt (pc := 1) 15 (by decide) eY_cell_1 (fun c1 => ?_) (fun c1 => ?_)
  · refine go_iconst (pc := 15) (v := 0) (by decide) eY_cell_15 ?_
    refine go_istore_n (pc := 16) (ls' := [(3, _), (0, _), (1, _), (2, _)]) 3 rfl (by decide) eY_cell_16 rfl ?_
    refine go_iload_n (pc := 17) 3 0 rfl rfl eY_cell_17 ?_
    refine go_if_eq (pc := 18) 41 (by decide) eY_cell_18 (fun c18 => ?_) (fun c18 => ?_)
    · refine go_iconst (pc := 41) (v := (-1)) (by decide) eY_cell_41 ?_
      refine go_istore (pc := 42) (ls' := [(4, _), (3, _), (0, _), (1, _), (2, _)]) 4 (by decide) eY_cell_42 rfl ?_
      refine go_iload (pc := 44) 4 0 rfl eY_cell_44 ?_
      refine go_if_lt (pc := 46) 72 (by decide) eY_cell_46 (fun c46 => ?_) (fun c46 => ?_)
      · refine go_iconst (pc := 72) (v := 0) (by decide) eY_cell_72 ?_
        refine go_istore (pc := 73) (ls' := [(5, _), (4, _), (3, _), (0, _), (1, _), (2, _)]) 5 (by decide) eY_cell_73 rfl ?_
        refine go_aload_n (pc := 75) 0 3 rfl rfl eY_cell_75 ?_
        refine go_iload_n (pc := 76) 3 2 rfl rfl eY_cell_76 ?_
        refine go_if_ne (pc := 77) 84 (by decide) eY_cell_77 (fun c77 => ?_) (fun c77 => ?_)
        · exact absurd rfl c77
        · refine go_iconst (pc := 80) (v := 1) (by decide) eY_cell_80 ?_
          refine go_goto (pc := 81) 85 (by decide) eY_cell_81 ?_
          refine go_iload (pc := 85) 5 0 rfl eY_cell_85 ?_
          refine go_if_ne (pc := 87) 94 (by decide) eY_cell_87 (fun c87 => ?_) (fun c87 => ?_)
          · exact absurd rfl c87
          · refine go_iconst (pc := 90) (v := 1) (by decide) eY_cell_90 ?_
            refine go_goto (pc := 91) 95 (by decide) eY_cell_91 ?_
            refine go_iconst (pc := 95) (v := 0) (by decide) eY_cell_95 ?_
            refine go_rV (pc := 96) 6 (d_fails1 1 0) okY_fails lmY_46 eY_cell_96 rfl rfl rfl rfl rfl (Nat.le_of_ble_eq_true rfl) (Nat.le_of_ble_eq_true rfl) ?_
            refine go_pop (pc := 99) rfl eY_cell_99 ?_
            refine go_iload (pc := 100) 5 0 rfl eY_cell_100 ?_
            refine go_if_eq (pc := 102) 118 (by decide) eY_cell_102 (fun c102 => ?_) (fun c102 => ?_)
            · refine go_iconst (pc := 118) (v := (-1)) (by decide) eY_cell_118 ?_
              exact go_iret (pc := 119) rfl rfl eY_cell_119 (hf)
            · exact absurd rfl c102
      · exact absurd c46 (by decide)
    · exact absurd rfl c18
  · refine go_iload_n (pc := 4) 2 2 rfl rfl eY_cell_4 ?_
    refine go_sipush (pc := 5) (v := 128) (by decide) eY_cell_5 ?_
    refine go_icmp_ge (pc := 8) 15 (by decide) eY_cell_8 (fun c8 => ?_) (fun c8 => ?_)
    · refine go_iconst (pc := 15) (v := 0) (by decide) eY_cell_15 ?_
      refine go_istore_n (pc := 16) (ls' := [(3, _), (0, _), (1, _), (2, _)]) 3 rfl (by decide) eY_cell_16 rfl ?_
      refine go_iload_n (pc := 17) 3 0 rfl rfl eY_cell_17 ?_
      refine go_if_eq (pc := 18) 41 (by decide) eY_cell_18 (fun c18 => ?_) (fun c18 => ?_)
      · refine go_iconst (pc := 41) (v := (-1)) (by decide) eY_cell_41 ?_
        refine go_istore (pc := 42) (ls' := [(4, _), (3, _), (0, _), (1, _), (2, _)]) 4 (by decide) eY_cell_42 rfl ?_
        refine go_iload (pc := 44) 4 0 rfl eY_cell_44 ?_
        refine go_if_lt (pc := 46) 72 (by decide) eY_cell_46 (fun c46 => ?_) (fun c46 => ?_)
        · refine go_iconst (pc := 72) (v := 0) (by decide) eY_cell_72 ?_
          refine go_istore (pc := 73) (ls' := [(5, _), (4, _), (3, _), (0, _), (1, _), (2, _)]) 5 (by decide) eY_cell_73 rfl ?_
          refine go_aload_n (pc := 75) 0 3 rfl rfl eY_cell_75 ?_
          refine go_iload_n (pc := 76) 3 2 rfl rfl eY_cell_76 ?_
          refine go_if_ne (pc := 77) 84 (by decide) eY_cell_77 (fun c77 => ?_) (fun c77 => ?_)
          · exact absurd rfl c77
          · refine go_iconst (pc := 80) (v := 1) (by decide) eY_cell_80 ?_
            refine go_goto (pc := 81) 85 (by decide) eY_cell_81 ?_
            refine go_iload (pc := 85) 5 0 rfl eY_cell_85 ?_
            refine go_if_ne (pc := 87) 94 (by decide) eY_cell_87 (fun c87 => ?_) (fun c87 => ?_)
            · exact absurd rfl c87
            · refine go_iconst (pc := 90) (v := 1) (by decide) eY_cell_90 ?_
              refine go_goto (pc := 91) 95 (by decide) eY_cell_91 ?_
              refine go_iconst (pc := 95) (v := 0) (by decide) eY_cell_95 ?_
              refine go_rV (pc := 96) 6 (d_fails1 1 0) okY_fails lmY_46 eY_cell_96 rfl rfl rfl rfl rfl (Nat.le_of_ble_eq_true rfl) (Nat.le_of_ble_eq_true rfl) ?_
              refine go_pop (pc := 99) rfl eY_cell_99 ?_
              refine go_iload (pc := 100) 5 0 rfl eY_cell_100 ?_
              refine go_if_eq (pc := 102) 118 (by decide) eY_cell_102 (fun c102 => ?_) (fun c102 => ?_)
              · refine go_iconst (pc := 118) (v := (-1)) (by decide) eY_cell_118 ?_
                exact go_iret (pc := 119) rfl rfl eY_cell_119 (hf)
              · exact absurd rfl c102
        · exact absurd c46 (by decide)
      · exact absurd rfl c18
    · rcases pk_ix y (n := 128) (by omega) with q | q | ⟨j, hj, q⟩
      · exact absurd q c1
      · exact absurd q c8
      · exact absurd q (hy j hj)
set_option maxRecDepth 100000 in
set_option maxHeartbeats 1000000 in
theorem d_read (hsm : ∀ k, sm k < 2 ^ 30) (s : Nat) (hs : s < 6) (hth : th s = true) (a : Nat) (ha : a < 128) (h0 : sm (8 * s + a / 16) ≠ 0) : Ret (gg D cI cB cL bb L xs) mY_read (n + 2) 0 0 [.ref hm, .int (nI s), .int (nI a)] (zW z0 z1 z2 z3 z4 z5 cI cB hm b1 b2 b3 b4 cd F sx pd th sm u rest) (some (.int (u (16 * (8 * s + a / 16) + a % 16)))) (zW z0 z1 z2 z3 z4 z5 cI cB hm b1 b2 b3 b4 0 F sx pd th sm u rest) := by
  intro Psi hf
  show Go _ _ _ _ _ 0 [(0, .ref hm), (1, .int (nI s)), (2, .int (nI a))] [] _ Psi
  refine go_aload_n (pc := 0) 0 0 rfl rfl eY_read_0 ?_
  refine go_iload_n (pc := 1) 1 1 rfl rfl eY_read_1 ?_
  refine go_iload_n (pc := 2) 2 2 rfl rfl eY_read_2 ?_
  refine go_rV (pc := 3) 6 (d_cell hsm s hs hth a ha h0) okY_cell lmY_66 eY_read_3 rfl rfl rfl rfl rfl (Nat.le_of_ble_eq_true rfl) (Nat.le_of_ble_eq_true rfl) ?_
  refine go_istore_n (pc := 6) (ls' := [(3, _), (0, _), (1, _), (2, _)]) 3 rfl (by decide) eY_read_6 rfl ?_
  refine go_iload_n (pc := 7) 3 0 rfl rfl eY_read_7 ?_
  refine go_if_ge (pc := 8) 15 (by decide) eY_read_8 (fun c8 => ?_) (fun c8 => ?_)
  · refine go_aload_n (pc := 15) 0 1 rfl rfl eY_read_15 ?_
    refine go_get (pc := 16) hwY 6 rfl rfl 6 (by decide) lkY_20 rfl eY_read_16 ?_
    refine go_iload_n (pc := 19) 3 0 rfl rfl eY_read_19 ?_
    refine go_ialdN (pc := 20) 10 0 (16 * (8 * s + a / 16) + a % 16) eY_read_20 rfl rfl (rfl) (by omega) (by omega) ?_
    exact go_iret (pc := 21) rfl rfl eY_read_21 (hf)
  · exact absurd (nI_pos' (by omega)) c8
set_option maxRecDepth 100000 in
set_option maxHeartbeats 1000000 in
theorem e_read1 (x y : Int32) (hy : ∀ j, j < 128 → y ≠ nI j) : Ret (gg D cI cB cL bb L xs) mY_read (n + 2) 0 0 [.ref hm, .int (x), .int (y)] (zW z0 z1 z2 z3 z4 z5 cI cB hm b1 b2 b3 b4 cd F sx pd th sm u rest) (some (.int (0))) (zW z0 z1 z2 z3 z4 z5 cI cB hm b1 b2 b3 b4 1 F sx pd th sm u rest) := by
  intro Psi hf
  show Go _ _ _ _ _ 0 [(0, .ref hm), (1, .int (x)), (2, .int (y))] [] _ Psi
  refine go_aload_n (pc := 0) 0 0 rfl rfl eY_read_0 ?_
  refine go_iload_n (pc := 1) 1 1 rfl rfl eY_read_1 ?_
  refine go_iload_n (pc := 2) 2 2 rfl rfl eY_read_2 ?_
  refine go_rV (pc := 3) 6 (e_cell1 x y hy) okY_cell lmY_66 eY_read_3 rfl rfl rfl rfl rfl (Nat.le_of_ble_eq_true rfl) (Nat.le_of_ble_eq_true rfl) ?_
  refine go_istore_n (pc := 6) (ls' := [(3, _), (0, _), (1, _), (2, _)]) 3 rfl (by decide) eY_read_6 rfl ?_
  refine go_iload_n (pc := 7) 3 0 rfl rfl eY_read_7 ?_
  refine go_if_ge (pc := 8) 15 (by decide) eY_read_8 (fun c8 => ?_) (fun c8 => ?_)
  · exact absurd c8 (by decide)
  · refine go_iconst (pc := 11) (v := 0) (by decide) eY_read_11 ?_
    refine go_goto (pc := 12) 21 (by decide) eY_read_12 ?_
    exact go_iret (pc := 21) rfl rfl eY_read_21 (hf)
set_option maxRecDepth 100000 in
set_option maxHeartbeats 1000000 in
theorem e_write1 (x y : Int32) (hy : ∀ j, j < 128 → y ≠ nI j) (v : Int32) : Ret (gg D cI cB cL bb L xs) mY_write (n + 2) 0 0 [.ref hm, .int (x), .int (y), .int (v)] (zW z0 z1 z2 z3 z4 z5 cI cB hm b1 b2 b3 b4 cd F sx pd th sm u rest) (some (.int (0))) (zW z0 z1 z2 z3 z4 z5 cI cB hm b1 b2 b3 b4 1 F sx pd th sm u rest) := by
  intro Psi hf
  show Go _ _ _ _ _ 0 [(0, .ref hm), (1, .int (x)), (2, .int (y)), (3, .int (v))] [] _ Psi
  refine go_aload_n (pc := 0) 0 0 rfl rfl eY_write_0 ?_
  refine go_iload_n (pc := 1) 1 1 rfl rfl eY_write_1 ?_
  refine go_iload_n (pc := 2) 2 2 rfl rfl eY_write_2 ?_
  refine go_rV (pc := 3) 6 (e_cell1 x y hy) okY_cell lmY_66 eY_write_3 rfl rfl rfl rfl rfl (Nat.le_of_ble_eq_true rfl) (Nat.le_of_ble_eq_true rfl) ?_
  refine go_istore (pc := 6) (ls' := [(4, _), (0, _), (1, _), (2, _), (3, _)]) 4 (by decide) eY_write_6 rfl ?_
  refine go_iload (pc := 8) 4 0 rfl eY_write_8 ?_
  refine go_if_ge (pc := 10) 15 (by decide) eY_write_10 (fun c10 => ?_) (fun c10 => ?_)
  · exact absurd c10 (by decide)
  · refine go_iconst (pc := 13) (v := 0) (by decide) eY_write_13 ?_
    exact go_iret (pc := 14) rfl rfl eY_write_14 (hf)
set_option maxRecDepth 100000 in
set_option maxHeartbeats 1000000 in
theorem e_read2 (x : Int32) (hx : ∀ j, j < 6 → x = nI j → th j = false) (a : Nat) (ha : a < 128) : Ret (gg D cI cB cL bb L xs) mY_read (n + 2) 0 0 [.ref hm, .int (x), .int (nI a)] (zW z0 z1 z2 z3 z4 z5 cI cB hm b1 b2 b3 b4 cd F sx pd th sm u rest) (some (.int (0))) (zW z0 z1 z2 z3 z4 z5 cI cB hm b1 b2 b3 b4 2 F sx pd th sm u rest) := by
  intro Psi hf
  show Go _ _ _ _ _ 0 [(0, .ref hm), (1, .int (x)), (2, .int (nI a))] [] _ Psi
  refine go_aload_n (pc := 0) 0 0 rfl rfl eY_read_0 ?_
  refine go_iload_n (pc := 1) 1 1 rfl rfl eY_read_1 ?_
  refine go_iload_n (pc := 2) 2 2 rfl rfl eY_read_2 ?_
  refine go_rV (pc := 3) 6 (e_cell2 x hx a ha) okY_cell lmY_66 eY_read_3 rfl rfl rfl rfl rfl (Nat.le_of_ble_eq_true rfl) (Nat.le_of_ble_eq_true rfl) ?_
  refine go_istore_n (pc := 6) (ls' := [(3, _), (0, _), (1, _), (2, _)]) 3 rfl (by decide) eY_read_6 rfl ?_
  refine go_iload_n (pc := 7) 3 0 rfl rfl eY_read_7 ?_
  refine go_if_ge (pc := 8) 15 (by decide) eY_read_8 (fun c8 => ?_) (fun c8 => ?_)
  · exact absurd c8 (by decide)
  · refine go_iconst (pc := 11) (v := 0) (by decide) eY_read_11 ?_
    refine go_goto (pc := 12) 21 (by decide) eY_read_12 ?_
    exact go_iret (pc := 21) rfl rfl eY_read_21 (hf)
set_option maxRecDepth 100000 in
set_option maxHeartbeats 1000000 in
theorem e_write2 (x : Int32) (hx : ∀ j, j < 6 → x = nI j → th j = false) (a : Nat) (ha : a < 128) (v : Int32) : Ret (gg D cI cB cL bb L xs) mY_write (n + 2) 0 0 [.ref hm, .int (x), .int (nI a), .int (v)] (zW z0 z1 z2 z3 z4 z5 cI cB hm b1 b2 b3 b4 cd F sx pd th sm u rest) (some (.int (0))) (zW z0 z1 z2 z3 z4 z5 cI cB hm b1 b2 b3 b4 2 F sx pd th sm u rest) := by
  intro Psi hf
  show Go _ _ _ _ _ 0 [(0, .ref hm), (1, .int (x)), (2, .int (nI a)), (3, .int (v))] [] _ Psi
  refine go_aload_n (pc := 0) 0 0 rfl rfl eY_write_0 ?_
  refine go_iload_n (pc := 1) 1 1 rfl rfl eY_write_1 ?_
  refine go_iload_n (pc := 2) 2 2 rfl rfl eY_write_2 ?_
  refine go_rV (pc := 3) 6 (e_cell2 x hx a ha) okY_cell lmY_66 eY_write_3 rfl rfl rfl rfl rfl (Nat.le_of_ble_eq_true rfl) (Nat.le_of_ble_eq_true rfl) ?_
  refine go_istore (pc := 6) (ls' := [(4, _), (0, _), (1, _), (2, _), (3, _)]) 4 (by decide) eY_write_6 rfl ?_
  refine go_iload (pc := 8) 4 0 rfl eY_write_8 ?_
  refine go_if_ge (pc := 10) 15 (by decide) eY_write_10 (fun c10 => ?_) (fun c10 => ?_)
  · exact absurd c10 (by decide)
  · refine go_iconst (pc := 13) (v := 0) (by decide) eY_write_13 ?_
    exact go_iret (pc := 14) rfl rfl eY_write_14 (hf)
set_option maxRecDepth 100000 in
set_option maxHeartbeats 1000000 in
theorem e_read3 (hsm : ∀ k, sm k < 2 ^ 30) (s : Nat) (hs : s < 6) (hth : th s = true) (a : Nat) (ha : a < 128) (h0 : sm (8 * s + a / 16) = 0) : Ret (gg D cI cB cL bb L xs) mY_read (n + 2) 0 0 [.ref hm, .int (nI s), .int (nI a)] (zW z0 z1 z2 z3 z4 z5 cI cB hm b1 b2 b3 b4 cd F sx pd th sm u rest) (some (.int (0))) (zW z0 z1 z2 z3 z4 z5 cI cB hm b1 b2 b3 b4 2 F sx pd th sm u rest) := by
  intro Psi hf
  show Go _ _ _ _ _ 0 [(0, .ref hm), (1, .int (nI s)), (2, .int (nI a))] [] _ Psi
  refine go_aload_n (pc := 0) 0 0 rfl rfl eY_read_0 ?_
  refine go_iload_n (pc := 1) 1 1 rfl rfl eY_read_1 ?_
  refine go_iload_n (pc := 2) 2 2 rfl rfl eY_read_2 ?_
  refine go_rV (pc := 3) 6 (e_cell3 hsm s hs hth a ha h0) okY_cell lmY_66 eY_read_3 rfl rfl rfl rfl rfl (Nat.le_of_ble_eq_true rfl) (Nat.le_of_ble_eq_true rfl) ?_
  refine go_istore_n (pc := 6) (ls' := [(3, _), (0, _), (1, _), (2, _)]) 3 rfl (by decide) eY_read_6 rfl ?_
  refine go_iload_n (pc := 7) 3 0 rfl rfl eY_read_7 ?_
  refine go_if_ge (pc := 8) 15 (by decide) eY_read_8 (fun c8 => ?_) (fun c8 => ?_)
  · exact absurd c8 (by decide)
  · refine go_iconst (pc := 11) (v := 0) (by decide) eY_read_11 ?_
    refine go_goto (pc := 12) 21 (by decide) eY_read_12 ?_
    exact go_iret (pc := 21) rfl rfl eY_read_21 (hf)
set_option maxRecDepth 100000 in
set_option maxHeartbeats 1000000 in
theorem e_write3 (hsm : ∀ k, sm k < 2 ^ 30) (s : Nat) (hs : s < 6) (hth : th s = true) (a : Nat) (ha : a < 128) (h0 : sm (8 * s + a / 16) = 0) (v : Int32) : Ret (gg D cI cB cL bb L xs) mY_write (n + 2) 0 0 [.ref hm, .int (nI s), .int (nI a), .int (v)] (zW z0 z1 z2 z3 z4 z5 cI cB hm b1 b2 b3 b4 cd F sx pd th sm u rest) (some (.int (0))) (zW z0 z1 z2 z3 z4 z5 cI cB hm b1 b2 b3 b4 2 F sx pd th sm u rest) := by
  intro Psi hf
  show Go _ _ _ _ _ 0 [(0, .ref hm), (1, .int (nI s)), (2, .int (nI a)), (3, .int (v))] [] _ Psi
  refine go_aload_n (pc := 0) 0 0 rfl rfl eY_write_0 ?_
  refine go_iload_n (pc := 1) 1 1 rfl rfl eY_write_1 ?_
  refine go_iload_n (pc := 2) 2 2 rfl rfl eY_write_2 ?_
  refine go_rV (pc := 3) 6 (e_cell3 hsm s hs hth a ha h0) okY_cell lmY_66 eY_write_3 rfl rfl rfl rfl rfl (Nat.le_of_ble_eq_true rfl) (Nat.le_of_ble_eq_true rfl) ?_
  refine go_istore (pc := 6) (ls' := [(4, _), (0, _), (1, _), (2, _), (3, _)]) 4 (by decide) eY_write_6 rfl ?_
  refine go_iload (pc := 8) 4 0 rfl eY_write_8 ?_
  refine go_if_ge (pc := 10) 15 (by decide) eY_write_10 (fun c10 => ?_) (fun c10 => ?_)
  · exact absurd c10 (by decide)
  · refine go_iconst (pc := 13) (v := 0) (by decide) eY_write_13 ?_
    exact go_iret (pc := 14) rfl rfl eY_write_14 (hf)
theorem gc31 (p : Nat → Bool) : gcnt p 432 < 2 ^ 31 := Nat.lt_of_le_of_lt (gcnt_le _ _) (by decide)
set_option maxRecDepth 100000 in
set_option maxHeartbeats 1000000 in
theorem d_write1 (hsm : ∀ k, sm k < 2 ^ 30) (hF : F ≤ 60) (s : Nat) (hs : s < 6) (hth : th s = true) (a : Nat) (ha : a < 128) (v : Int32) (h0 : sm (8 * s + a / 16) ≠ 0) (h1 : gcnt (fun k => decide (sm k = sm (8 * s + a / 16))) 432 ≤ 1) : Ret (gg D cI cB cL bb L xs) mY_write (n + 2) 0 0 [.ref hm, .int (nI s), .int (nI a), .int (v)] (zW z0 z1 z2 z3 z4 z5 cI cB hm b1 b2 b3 b4 cd F sx pd th sm u rest) (some (.int (u (16 * (8 * s + a / 16) + a % 16)))) (zW z0 z1 z2 z3 z4 z5 cI cB hm b1 b2 b3 b4 0 F sx pd th sm (va_up u (16 * (8 * s + a / 16) + a % 16) v) rest) := by
  intro Psi hf
  show Go _ _ _ _ _ 0 [(0, .ref hm), (1, .int (nI s)), (2, .int (nI a)), (3, .int (v))] [] _ Psi
  refine go_aload_n (pc := 0) 0 0 rfl rfl eY_write_0 ?_
  refine go_iload_n (pc := 1) 1 1 rfl rfl eY_write_1 ?_
  refine go_iload_n (pc := 2) 2 2 rfl rfl eY_write_2 ?_
  refine go_rV (pc := 3) 6 (d_cell hsm s hs hth a ha h0) okY_cell lmY_66 eY_write_3 rfl rfl rfl rfl rfl (Nat.le_of_ble_eq_true rfl) (Nat.le_of_ble_eq_true rfl) ?_
  refine go_istore (pc := 6) (ls' := [(4, _), (0, _), (1, _), (2, _), (3, _)]) 4 (by decide) eY_write_6 rfl ?_
  refine go_iload (pc := 8) 4 0 rfl eY_write_8 ?_
  refine go_if_ge (pc := 10) 15 (by decide) eY_write_10 (fun c10 => ?_) (fun c10 => ?_)
  · refine go_iload (pc := 15) 4 0 rfl eY_write_15 ?_
    refine go_bipush (pc := 17) (v := 16) (by decide) eY_write_17 ?_
    refine go_idiv (pc := 19) (by decide) eY_write_19 ?_
    rw [show (16 : Int32) = nI 16 from rfl, pk_div (by omega) (by omega) (by omega), show (16 * (8 * s + a / 16) + a % 16) / 16 = 8 * s + a / 16 from by omega]
    refine go_istore (pc := 20) (ls' := [(5, _), (4, _), (0, _), (1, _), (2, _), (3, _)]) 5 (by decide) eY_write_20 rfl ?_
    refine go_aload_n (pc := 22) 0 2 rfl rfl eY_write_22 ?_
    refine go_aload_n (pc := 23) 0 2 rfl rfl eY_write_23 ?_
    refine go_get (pc := 24) hwY 6 rfl rfl 5 (by decide) lkY_16 rfl eY_write_24 ?_
    refine go_iload (pc := 27) 5 0 rfl eY_write_27 ?_
    refine go_ialdN (pc := 29) 9 0 (8 * s + a / 16) eY_write_29 rfl rfl (rfl) (by omega) (by omega) ?_
    refine go_rV (pc := 30) 6 (d_holdersOf hsm (sm (8 * s + a / 16)) (hsm _) h0) okY_holdersOf lmY_70 eY_write_30 rfl rfl rfl rfl rfl (Nat.le_of_ble_eq_true rfl) (Nat.le_of_ble_eq_true rfl) ?_
    refine go_iconst (pc := 33) (v := 1) (by decide) eY_write_33 ?_
    refine go_icmp_le (pc := 34) 41 (by decide) eY_write_34 (fun c34 => ?_) (fun c34 => ?_)
    · refine go_iconst (pc := 41) (v := 0) (by decide) eY_write_41 ?_
      refine go_istore (pc := 42) (ls' := [(6, _), (5, _), (4, _), (0, _), (1, _), (2, _), (3, _)]) 6 (by decide) eY_write_42 rfl ?_
      refine go_aload_n (pc := 44) 0 3 rfl rfl eY_write_44 ?_
      refine go_iconst (pc := 45) (v := 0) (by decide) eY_write_45 ?_
      refine go_iconst (pc := 46) (v := 0) (by decide) eY_write_46 ?_
      refine go_iload (pc := 47) 6 0 rfl eY_write_47 ?_
      refine go_if_eq (pc := 49) 67 (by decide) eY_write_49 (fun c49 => ?_) (fun c49 => ?_)
      · refine go_iconst (pc := 67) (v := 0) (by decide) eY_write_67 ?_
        refine go_rV (pc := 68) 6 (d_fails0) okY_fails lmY_46 eY_write_68 rfl rfl rfl rfl rfl (Nat.le_of_ble_eq_true rfl) (Nat.le_of_ble_eq_true rfl) ?_
        refine go_if_eq (pc := 71) 76 (by decide) eY_write_71 (fun c71 => ?_) (fun c71 => ?_)
        · refine go_iload (pc := 76) 6 0 rfl eY_write_76 ?_
          refine go_if_eq (pc := 78) 102 (by decide) eY_write_78 (fun c78 => ?_) (fun c78 => ?_)
          · refine go_aload_n (pc := 102) 0 3 rfl rfl eY_write_102 ?_
            refine go_get (pc := 103) hwY 6 rfl rfl 6 (by decide) lkY_20 rfl eY_write_103 ?_
            refine go_iload (pc := 106) 4 2 rfl eY_write_106 ?_
            refine go_ialdN (pc := 108) 10 0 (16 * (8 * s + a / 16) + a % 16) eY_write_108 rfl rfl (rfl) (by omega) (by omega) ?_
            refine go_istore (pc := 109) (ls' := [(7, _), (6, _), (5, _), (4, _), (0, _), (1, _), (2, _), (3, _)]) 7 (by decide) eY_write_109 rfl ?_
            refine go_aload_n (pc := 111) 0 4 rfl rfl eY_write_111 ?_
            refine go_get (pc := 112) hwY 6 rfl rfl 6 (by decide) lkY_20 rfl eY_write_112 ?_
            refine go_iload (pc := 115) 4 3 rfl eY_write_115 ?_
            refine go_iload_n (pc := 117) 3 7 rfl rfl eY_write_117 ?_
            refine go_iastN (pc := 118) (es' := (zW z0 z1 z2 z3 z4 z5 cI cB hm b1 b2 b3 b4 0 F sx pd th sm (va_up u (16 * (8 * s + a / 16) + a % 16) v) rest)) 10 0 (16 * (8 * s + a / 16) + a % 16) eY_write_118 rfl rfl rfl (by omega) (by omega) (ys10 (upd_up _ _ _)) ?_
            refine go_iload (pc := 119) 7 0 rfl eY_write_119 ?_
            exact go_iret (pc := 121) rfl rfl eY_write_121 (hf)
          · exact absurd rfl c78
        · exact absurd c71 (by decide)
      · exact absurd rfl c49
    · exact absurd ((nI_leI (b := 1) (gc31 _) (by omega)).mpr h1) c34
  · exact absurd (nI_pos' (by omega)) c10
set_option maxRecDepth 100000 in
set_option maxHeartbeats 1000000 in
theorem d_write2 (hsm : ∀ k, sm k < 2 ^ 30) (hF : F ≤ 60) (s : Nat) (hs : s < 6) (hth : th s = true) (a : Nat) (ha : a < 128) (v : Int32) (h0 : sm (8 * s + a / 16) ≠ 0) (h1 : ¬ gcnt (fun k => decide (sm k = sm (8 * s + a / 16))) 432 ≤ 1) (hu : gcnt (usf sm) 432 ≠ F) : Ret (gg D cI cB cL bb L xs) mY_write (n + 2) 0 0 [.ref hm, .int (nI s), .int (nI a), .int (v)] (zW z0 z1 z2 z3 z4 z5 cI cB hm b1 b2 b3 b4 cd F sx pd th sm u rest) (some (.int (u (16 * (8 * s + a / 16) + a % 16)))) (zW z0 z1 z2 z3 z4 z5 cI cB hm b1 b2 b3 b4 0 F (sx + 1) pd th (va_up sm (8 * s + a / 16) (sx + 1)) (va_up u (16 * (8 * s + a / 16) + a % 16) v) rest) := by
  intro Psi hf
  show Go _ _ _ _ _ 0 [(0, .ref hm), (1, .int (nI s)), (2, .int (nI a)), (3, .int (v))] [] _ Psi
  refine go_aload_n (pc := 0) 0 0 rfl rfl eY_write_0 ?_
  refine go_iload_n (pc := 1) 1 1 rfl rfl eY_write_1 ?_
  refine go_iload_n (pc := 2) 2 2 rfl rfl eY_write_2 ?_
  refine go_rV (pc := 3) 6 (d_cell hsm s hs hth a ha h0) okY_cell lmY_66 eY_write_3 rfl rfl rfl rfl rfl (Nat.le_of_ble_eq_true rfl) (Nat.le_of_ble_eq_true rfl) ?_
  refine go_istore (pc := 6) (ls' := [(4, _), (0, _), (1, _), (2, _), (3, _)]) 4 (by decide) eY_write_6 rfl ?_
  refine go_iload (pc := 8) 4 0 rfl eY_write_8 ?_
  refine go_if_ge (pc := 10) 15 (by decide) eY_write_10 (fun c10 => ?_) (fun c10 => ?_)
  · refine go_iload (pc := 15) 4 0 rfl eY_write_15 ?_
    refine go_bipush (pc := 17) (v := 16) (by decide) eY_write_17 ?_
    refine go_idiv (pc := 19) (by decide) eY_write_19 ?_
    rw [show (16 : Int32) = nI 16 from rfl, pk_div (by omega) (by omega) (by omega), show (16 * (8 * s + a / 16) + a % 16) / 16 = 8 * s + a / 16 from by omega]
    refine go_istore (pc := 20) (ls' := [(5, _), (4, _), (0, _), (1, _), (2, _), (3, _)]) 5 (by decide) eY_write_20 rfl ?_
    refine go_aload_n (pc := 22) 0 2 rfl rfl eY_write_22 ?_
    refine go_aload_n (pc := 23) 0 2 rfl rfl eY_write_23 ?_
    refine go_get (pc := 24) hwY 6 rfl rfl 5 (by decide) lkY_16 rfl eY_write_24 ?_
    refine go_iload (pc := 27) 5 0 rfl eY_write_27 ?_
    refine go_ialdN (pc := 29) 9 0 (8 * s + a / 16) eY_write_29 rfl rfl (rfl) (by omega) (by omega) ?_
    refine go_rV (pc := 30) 6 (d_holdersOf hsm (sm (8 * s + a / 16)) (hsm _) h0) okY_holdersOf lmY_70 eY_write_30 rfl rfl rfl rfl rfl (Nat.le_of_ble_eq_true rfl) (Nat.le_of_ble_eq_true rfl) ?_
    refine go_iconst (pc := 33) (v := 1) (by decide) eY_write_33 ?_
    refine go_icmp_le (pc := 34) 41 (by decide) eY_write_34 (fun c34 => ?_) (fun c34 => ?_)
    · exact absurd ((nI_leI (b := 1) (gc31 _) (by omega)).mp c34) h1
    · refine go_iconst (pc := 37) (v := 1) (by decide) eY_write_37 ?_
      refine go_goto (pc := 38) 42 (by decide) eY_write_38 ?_
      refine go_istore (pc := 42) (ls' := [(6, _), (5, _), (4, _), (0, _), (1, _), (2, _), (3, _)]) 6 (by decide) eY_write_42 rfl ?_
      refine go_aload_n (pc := 44) 0 3 rfl rfl eY_write_44 ?_
      refine go_iconst (pc := 45) (v := 0) (by decide) eY_write_45 ?_
      refine go_iconst (pc := 46) (v := 0) (by decide) eY_write_46 ?_
      refine go_iload (pc := 47) 6 0 rfl eY_write_47 ?_
      refine go_if_eq (pc := 49) 67 (by decide) eY_write_49 (fun c49 => ?_) (fun c49 => ?_)
      · exact absurd c49 (by decide)
      · refine go_aload_n (pc := 52) 0 3 rfl rfl eY_write_52 ?_
        refine go_rV (pc := 53) 6 (d_used hsm) okY_used lmY_60 eY_write_53 rfl rfl rfl rfl rfl (Nat.le_of_ble_eq_true rfl) (Nat.le_of_ble_eq_true rfl) ?_
        refine go_aload_n (pc := 56) 0 3 rfl rfl eY_write_56 ?_
        refine go_get (pc := 57) hwY 6 rfl rfl 1 (by decide) lkY_23 rfl eY_write_57 ?_
        refine go_icmp_ne (pc := 60) 67 (by decide) eY_write_60 (fun c60 => ?_) (fun c60 => ?_)
        · refine go_iconst (pc := 67) (v := 0) (by decide) eY_write_67 ?_
          refine go_rV (pc := 68) 6 (d_fails0) okY_fails lmY_46 eY_write_68 rfl rfl rfl rfl rfl (Nat.le_of_ble_eq_true rfl) (Nat.le_of_ble_eq_true rfl) ?_
          refine go_if_eq (pc := 71) 76 (by decide) eY_write_71 (fun c71 => ?_) (fun c71 => ?_)
          · refine go_iload (pc := 76) 6 0 rfl eY_write_76 ?_
            refine go_if_eq (pc := 78) 102 (by decide) eY_write_78 (fun c78 => ?_) (fun c78 => ?_)
            · exact absurd c78 (by decide)
            · refine go_aload_n (pc := 81) 0 3 rfl rfl eY_write_81 ?_
              refine go_dup (pc := 82) rfl eY_write_82 ?_
              refine go_get (pc := 83) hwY 6 rfl rfl 2 (by decide) lkY_63 rfl eY_write_83 ?_
              refine go_iconst (pc := 86) (v := 1) (by decide) eY_write_86 ?_
              refine go_iadd (pc := 87) eY_write_87 ?_
              rw [nI_1]
              refine go_put (pc := 88) (ty := .int) (es' := (zW z0 z1 z2 z3 z4 z5 cI cB hm b1 b2 b3 b4 0 F (sx + 1) pd th sm u rest)) hwY tyY tyY_ok nmY 6 rfl rfl 2 (by decide) lkY_63 rfl (by decide +kernel) rfl rfl (Nat.le_of_ble_eq_true rfl) eY_write_88 rfl ?_
              refine go_aload_n (pc := 91) 0 3 rfl rfl eY_write_91 ?_
              refine go_get (pc := 92) hwY 6 rfl rfl 5 (by decide) lkY_16 rfl eY_write_92 ?_
              refine go_iload (pc := 95) 5 1 rfl eY_write_95 ?_
              refine go_aload_n (pc := 97) 0 3 rfl rfl eY_write_97 ?_
              refine go_get (pc := 98) hwY 6 rfl rfl 2 (by decide) lkY_63 rfl eY_write_98 ?_
              refine go_iastN (pc := 101) (es' := (zW z0 z1 z2 z3 z4 z5 cI cB hm b1 b2 b3 b4 0 F (sx + 1) pd th (va_up sm (8 * s + a / 16) (sx + 1)) u rest)) 9 0 (8 * s + a / 16) eY_write_101 rfl rfl rfl (by omega) (by omega) (ys9 upd_n) ?_
              refine go_aload_n (pc := 102) 0 3 rfl rfl eY_write_102 ?_
              refine go_get (pc := 103) hwY 6 rfl rfl 6 (by decide) lkY_20 rfl eY_write_103 ?_
              refine go_iload (pc := 106) 4 2 rfl eY_write_106 ?_
              refine go_ialdN (pc := 108) 10 0 (16 * (8 * s + a / 16) + a % 16) eY_write_108 rfl rfl (rfl) (by omega) (by omega) ?_
              refine go_istore (pc := 109) (ls' := [(7, _), (6, _), (5, _), (4, _), (0, _), (1, _), (2, _), (3, _)]) 7 (by decide) eY_write_109 rfl ?_
              refine go_aload_n (pc := 111) 0 4 rfl rfl eY_write_111 ?_
              refine go_get (pc := 112) hwY 6 rfl rfl 6 (by decide) lkY_20 rfl eY_write_112 ?_
              refine go_iload (pc := 115) 4 3 rfl eY_write_115 ?_
              refine go_iload_n (pc := 117) 3 7 rfl rfl eY_write_117 ?_
              refine go_iastN (pc := 118) (es' := (zW z0 z1 z2 z3 z4 z5 cI cB hm b1 b2 b3 b4 0 F (sx + 1) pd th (va_up sm (8 * s + a / 16) (sx + 1)) (va_up u (16 * (8 * s + a / 16) + a % 16) v) rest)) 10 0 (16 * (8 * s + a / 16) + a % 16) eY_write_118 rfl rfl rfl (by omega) (by omega) (ys10 (upd_up _ _ _)) ?_
              refine go_iload (pc := 119) 7 0 rfl eY_write_119 ?_
              exact go_iret (pc := 121) rfl rfl eY_write_121 (hf)
          · exact absurd c71 (by decide)
        · exact absurd ((nI_eq (us31 sm) (by omega)).mp c60) hu
  · exact absurd (nI_pos' (by omega)) c10
set_option maxRecDepth 100000 in
set_option maxHeartbeats 1000000 in
theorem e_write4 (hsm : ∀ k, sm k < 2 ^ 30) (hF : F ≤ 60) (s : Nat) (hs : s < 6) (hth : th s = true) (a : Nat) (ha : a < 128) (v : Int32) (h0 : sm (8 * s + a / 16) ≠ 0) (h1 : ¬ gcnt (fun k => decide (sm k = sm (8 * s + a / 16))) 432 ≤ 1) (hu : gcnt (usf sm) 432 = F) : Ret (gg D cI cB cL bb L xs) mY_write (n + 2) 0 0 [.ref hm, .int (nI s), .int (nI a), .int (v)] (zW z0 z1 z2 z3 z4 z5 cI cB hm b1 b2 b3 b4 cd F sx pd th sm u rest) (some (.int (0))) (zW z0 z1 z2 z3 z4 z5 cI cB hm b1 b2 b3 b4 3 F sx pd th sm u rest) := by
  intro Psi hf
  show Go _ _ _ _ _ 0 [(0, .ref hm), (1, .int (nI s)), (2, .int (nI a)), (3, .int (v))] [] _ Psi
  refine go_aload_n (pc := 0) 0 0 rfl rfl eY_write_0 ?_
  refine go_iload_n (pc := 1) 1 1 rfl rfl eY_write_1 ?_
  refine go_iload_n (pc := 2) 2 2 rfl rfl eY_write_2 ?_
  refine go_rV (pc := 3) 6 (d_cell hsm s hs hth a ha h0) okY_cell lmY_66 eY_write_3 rfl rfl rfl rfl rfl (Nat.le_of_ble_eq_true rfl) (Nat.le_of_ble_eq_true rfl) ?_
  refine go_istore (pc := 6) (ls' := [(4, _), (0, _), (1, _), (2, _), (3, _)]) 4 (by decide) eY_write_6 rfl ?_
  refine go_iload (pc := 8) 4 0 rfl eY_write_8 ?_
  refine go_if_ge (pc := 10) 15 (by decide) eY_write_10 (fun c10 => ?_) (fun c10 => ?_)
  · refine go_iload (pc := 15) 4 0 rfl eY_write_15 ?_
    refine go_bipush (pc := 17) (v := 16) (by decide) eY_write_17 ?_
    refine go_idiv (pc := 19) (by decide) eY_write_19 ?_
    rw [show (16 : Int32) = nI 16 from rfl, pk_div (by omega) (by omega) (by omega), show (16 * (8 * s + a / 16) + a % 16) / 16 = 8 * s + a / 16 from by omega]
    refine go_istore (pc := 20) (ls' := [(5, _), (4, _), (0, _), (1, _), (2, _), (3, _)]) 5 (by decide) eY_write_20 rfl ?_
    refine go_aload_n (pc := 22) 0 2 rfl rfl eY_write_22 ?_
    refine go_aload_n (pc := 23) 0 2 rfl rfl eY_write_23 ?_
    refine go_get (pc := 24) hwY 6 rfl rfl 5 (by decide) lkY_16 rfl eY_write_24 ?_
    refine go_iload (pc := 27) 5 0 rfl eY_write_27 ?_
    refine go_ialdN (pc := 29) 9 0 (8 * s + a / 16) eY_write_29 rfl rfl (rfl) (by omega) (by omega) ?_
    refine go_rV (pc := 30) 6 (d_holdersOf hsm (sm (8 * s + a / 16)) (hsm _) h0) okY_holdersOf lmY_70 eY_write_30 rfl rfl rfl rfl rfl (Nat.le_of_ble_eq_true rfl) (Nat.le_of_ble_eq_true rfl) ?_
    refine go_iconst (pc := 33) (v := 1) (by decide) eY_write_33 ?_
    refine go_icmp_le (pc := 34) 41 (by decide) eY_write_34 (fun c34 => ?_) (fun c34 => ?_)
    · exact absurd ((nI_leI (b := 1) (gc31 _) (by omega)).mp c34) h1
    · refine go_iconst (pc := 37) (v := 1) (by decide) eY_write_37 ?_
      refine go_goto (pc := 38) 42 (by decide) eY_write_38 ?_
      refine go_istore (pc := 42) (ls' := [(6, _), (5, _), (4, _), (0, _), (1, _), (2, _), (3, _)]) 6 (by decide) eY_write_42 rfl ?_
      refine go_aload_n (pc := 44) 0 3 rfl rfl eY_write_44 ?_
      refine go_iconst (pc := 45) (v := 0) (by decide) eY_write_45 ?_
      refine go_iconst (pc := 46) (v := 0) (by decide) eY_write_46 ?_
      refine go_iload (pc := 47) 6 0 rfl eY_write_47 ?_
      refine go_if_eq (pc := 49) 67 (by decide) eY_write_49 (fun c49 => ?_) (fun c49 => ?_)
      · exact absurd c49 (by decide)
      · refine go_aload_n (pc := 52) 0 3 rfl rfl eY_write_52 ?_
        refine go_rV (pc := 53) 6 (d_used hsm) okY_used lmY_60 eY_write_53 rfl rfl rfl rfl rfl (Nat.le_of_ble_eq_true rfl) (Nat.le_of_ble_eq_true rfl) ?_
        refine go_aload_n (pc := 56) 0 3 rfl rfl eY_write_56 ?_
        refine go_get (pc := 57) hwY 6 rfl rfl 1 (by decide) lkY_23 rfl eY_write_57 ?_
        rw [hu]
        refine go_icmp_ne (pc := 60) 67 (by decide) eY_write_60 (fun c60 => ?_) (fun c60 => ?_)
        · exact absurd rfl c60
        · refine go_iconst (pc := 63) (v := 1) (by decide) eY_write_63 ?_
          refine go_goto (pc := 64) 68 (by decide) eY_write_64 ?_
          refine go_rV (pc := 68) 6 (d_fails3) okY_fails lmY_46 eY_write_68 rfl rfl rfl rfl rfl (Nat.le_of_ble_eq_true rfl) (Nat.le_of_ble_eq_true rfl) ?_
          refine go_if_eq (pc := 71) 76 (by decide) eY_write_71 (fun c71 => ?_) (fun c71 => ?_)
          · exact absurd c71 (by decide)
          · refine go_iconst (pc := 74) (v := 0) (by decide) eY_write_74 ?_
            exact go_iret (pc := 75) rfl rfl eY_write_75 (hf)
  · exact absurd (nI_pos' (by omega)) c10
set_option maxRecDepth 100000 in
set_option maxHeartbeats 1000000 in
theorem d_af0 (s : Nat) (hs : s < 6) (hth : th s = true) (t : Nat) (ht : t < 6) (htt : th t = true) (p q : Nat) (hp : p < 8) (hq : q < 8) : Ret (gg D cI cB cL bb L xs) mY_areFaulty (n + 1) 0 0 [.ref hm, .int (nI s), .int (nI p), .int (nI t), .int (nI q)] (zW z0 z1 z2 z3 z4 z5 cI cB hm b1 b2 b3 b4 cd F sx pd th sm u rest) (some (.int (0))) (zW z0 z1 z2 z3 z4 z5 cI cB hm b1 b2 b3 b4 0 F sx pd th sm u rest) := by
  intro Psi hf
  show Go _ _ _ _ _ 0 [(0, .ref hm), (1, .int (nI s)), (2, .int (nI p)), (3, .int (nI t)), (4, .int (nI q))] [] _ Psi
  refine go_aload_n (pc := 0) 0 0 rfl rfl eY_areFaulty_0 ?_
  refine go_aload_n (pc := 1) 0 0 rfl rfl eY_areFaulty_1 ?_
  refine go_iload_n (pc := 2) 1 1 rfl rfl eY_areFaulty_2 ?_
  refine go_rV (pc := 3) 6 (d_isSpaceT s hs hth) okY_isSpace lmY_42 eY_areFaulty_3 rfl rfl rfl rfl rfl (Nat.le_of_ble_eq_true rfl) (Nat.le_of_ble_eq_true rfl) ?_
  refine go_if_eq (pc := 6) 17 (by decide) eY_areFaulty_6 (fun c6 => ?_) (fun c6 => ?_)
  · exact absurd c6 (by decide)
  · refine go_aload_n (pc := 9) 0 0 rfl rfl eY_areFaulty_9 ?_
    refine go_iload_n (pc := 10) 3 3 rfl rfl eY_areFaulty_10 ?_
    refine go_rV (pc := 11) 6 (d_isSpaceT t ht htt) okY_isSpace lmY_42 eY_areFaulty_11 rfl rfl rfl rfl rfl (Nat.le_of_ble_eq_true rfl) (Nat.le_of_ble_eq_true rfl) ?_
    refine go_if_ne (pc := 14) 21 (by decide) eY_areFaulty_14 (fun c14 => ?_) (fun c14 => ?_)
    · refine go_iconst (pc := 21) (v := 0) (by decide) eY_areFaulty_21 ?_
      refine go_iload_n (pc := 22) 2 2 rfl rfl eY_areFaulty_22 ?_
      refine go_rS (pc := 23) (d_isPageT p hp) okY_isPage lmY_57 eY_areFaulty_23 rfl rfl (Nat.le_of_ble_eq_true rfl) (Nat.le_of_ble_eq_true rfl) ?_
      refine go_if_eq (pc := 26) 37 (by decide) eY_areFaulty_26 (fun c26 => ?_) (fun c26 => ?_)
      · exact absurd c26 (by decide)
      · refine go_iload (pc := 29) 4 4 rfl eY_areFaulty_29 ?_
        refine go_rS (pc := 31) (d_isPageT q hq) okY_isPage lmY_57 eY_areFaulty_31 rfl rfl (Nat.le_of_ble_eq_true rfl) (Nat.le_of_ble_eq_true rfl) ?_
        refine go_if_ne (pc := 34) 41 (by decide) eY_areFaulty_34 (fun c34 => ?_) (fun c34 => ?_)
        · refine go_iconst (pc := 41) (v := 0) (by decide) eY_areFaulty_41 ?_
          refine go_iconst (pc := 42) (v := 0) (by decide) eY_areFaulty_42 ?_
          refine go_rV (pc := 43) 6 (d_fails0) okY_fails lmY_46 eY_areFaulty_43 rfl rfl rfl rfl rfl (Nat.le_of_ble_eq_true rfl) (Nat.le_of_ble_eq_true rfl) ?_
          exact go_iret (pc := 46) rfl rfl eY_areFaulty_46 (hf)
        · exact absurd c34 (by decide)
    · exact absurd c14 (by decide)
set_option maxRecDepth 100000 in
set_option maxHeartbeats 1000000 in
theorem d_af1 (x : Int32) (hx : ∀ j, j < 6 → x = nI j → th j = false) (y z w : Int32) : Ret (gg D cI cB cL bb L xs) mY_areFaulty (n + 1) 0 0 [.ref hm, .int (x), .int (y), .int (z), .int (w)] (zW z0 z1 z2 z3 z4 z5 cI cB hm b1 b2 b3 b4 cd F sx pd th sm u rest) (some (.int (1))) (zW z0 z1 z2 z3 z4 z5 cI cB hm b1 b2 b3 b4 1 F sx pd th sm u rest) := by
  intro Psi hf
  show Go _ _ _ _ _ 0 [(0, .ref hm), (1, .int (x)), (2, .int (y)), (3, .int (z)), (4, .int (w))] [] _ Psi
  refine go_aload_n (pc := 0) 0 0 rfl rfl eY_areFaulty_0 ?_
  refine go_aload_n (pc := 1) 0 0 rfl rfl eY_areFaulty_1 ?_
  refine go_iload_n (pc := 2) 1 1 rfl rfl eY_areFaulty_2 ?_
  refine go_rV (pc := 3) 6 (d_isSpaceF x hx) okY_isSpace lmY_42 eY_areFaulty_3 rfl rfl rfl rfl rfl (Nat.le_of_ble_eq_true rfl) (Nat.le_of_ble_eq_true rfl) ?_
  refine go_if_eq (pc := 6) 17 (by decide) eY_areFaulty_6 (fun c6 => ?_) (fun c6 => ?_)
  · refine go_iconst (pc := 17) (v := 1) (by decide) eY_areFaulty_17 ?_
    refine go_goto (pc := 18) 22 (by decide) eY_areFaulty_18 ?_
    obtain ⟨b, -, hpg⟩ := d_isPage (D := D) (cI := cI) (cB := cB) (cL := cL) (bb := bb) (L := L) (xs := xs) y
    refine go_iload_n (pc := 22) 2 2 rfl rfl eY_areFaulty_22 ?_
    refine go_rS (pc := 23) (hpg _ _) okY_isPage lmY_57 eY_areFaulty_23 rfl rfl (Nat.le_of_ble_eq_true rfl) (Nat.le_of_ble_eq_true rfl) ?_
    refine go_if_eq (pc := 26) 37 (by decide) eY_areFaulty_26 (fun c26 => ?_) (fun c26 => ?_)
    · refine go_iconst (pc := 37) (v := 1) (by decide) eY_areFaulty_37 ?_
      refine go_goto (pc := 38) 42 (by decide) eY_areFaulty_38 ?_
      refine go_iconst (pc := 42) (v := 0) (by decide) eY_areFaulty_42 ?_
      refine go_rV (pc := 43) 6 (d_fails1 _ 0) okY_fails lmY_46 eY_areFaulty_43 rfl rfl rfl rfl rfl (Nat.le_of_ble_eq_true rfl) (Nat.le_of_ble_eq_true rfl) ?_
      exact go_iret (pc := 46) rfl rfl eY_areFaulty_46 (hf)
    · obtain ⟨b', -, hpg'⟩ := d_isPage (D := D) (cI := cI) (cB := cB) (cL := cL) (bb := bb) (L := L) (xs := xs) w
      refine go_iload (pc := 29) 4 4 rfl eY_areFaulty_29 ?_
      refine go_rS (pc := 31) (hpg' _ _) okY_isPage lmY_57 eY_areFaulty_31 rfl rfl (Nat.le_of_ble_eq_true rfl) (Nat.le_of_ble_eq_true rfl) ?_
      refine go_if_ne (pc := 34) 41 (by decide) eY_areFaulty_34 (fun c34 => ?_) (fun c34 => ?_)
      · refine go_iconst (pc := 41) (v := 0) (by decide) eY_areFaulty_41 ?_
        refine go_iconst (pc := 42) (v := 0) (by decide) eY_areFaulty_42 ?_
        refine go_rV (pc := 43) 6 (d_fails1 _ 0) okY_fails lmY_46 eY_areFaulty_43 rfl rfl rfl rfl rfl (Nat.le_of_ble_eq_true rfl) (Nat.le_of_ble_eq_true rfl) ?_
        exact go_iret (pc := 46) rfl rfl eY_areFaulty_46 (hf)
      · refine go_iconst (pc := 37) (v := 1) (by decide) eY_areFaulty_37 ?_
        refine go_goto (pc := 38) 42 (by decide) eY_areFaulty_38 ?_
        refine go_iconst (pc := 42) (v := 0) (by decide) eY_areFaulty_42 ?_
        refine go_rV (pc := 43) 6 (d_fails1 _ 0) okY_fails lmY_46 eY_areFaulty_43 rfl rfl rfl rfl rfl (Nat.le_of_ble_eq_true rfl) (Nat.le_of_ble_eq_true rfl) ?_
        exact go_iret (pc := 46) rfl rfl eY_areFaulty_46 (hf)
  · exact absurd rfl c6
set_option maxRecDepth 100000 in
set_option maxHeartbeats 1000000 in
theorem d_af2 (s : Nat) (hs : s < 6) (hth : th s = true) (x : Int32) (hx : ∀ j, j < 6 → x = nI j → th j = false) (y w : Int32) : Ret (gg D cI cB cL bb L xs) mY_areFaulty (n + 1) 0 0 [.ref hm, .int (nI s), .int (y), .int (x), .int (w)] (zW z0 z1 z2 z3 z4 z5 cI cB hm b1 b2 b3 b4 cd F sx pd th sm u rest) (some (.int (1))) (zW z0 z1 z2 z3 z4 z5 cI cB hm b1 b2 b3 b4 1 F sx pd th sm u rest) := by
  intro Psi hf
  show Go _ _ _ _ _ 0 [(0, .ref hm), (1, .int (nI s)), (2, .int (y)), (3, .int (x)), (4, .int (w))] [] _ Psi
  refine go_aload_n (pc := 0) 0 0 rfl rfl eY_areFaulty_0 ?_
  refine go_aload_n (pc := 1) 0 0 rfl rfl eY_areFaulty_1 ?_
  refine go_iload_n (pc := 2) 1 1 rfl rfl eY_areFaulty_2 ?_
  refine go_rV (pc := 3) 6 (d_isSpaceT s hs hth) okY_isSpace lmY_42 eY_areFaulty_3 rfl rfl rfl rfl rfl (Nat.le_of_ble_eq_true rfl) (Nat.le_of_ble_eq_true rfl) ?_
  refine go_if_eq (pc := 6) 17 (by decide) eY_areFaulty_6 (fun c6 => ?_) (fun c6 => ?_)
  · exact absurd c6 (by decide)
  · refine go_aload_n (pc := 9) 0 0 rfl rfl eY_areFaulty_9 ?_
    refine go_iload_n (pc := 10) 3 3 rfl rfl eY_areFaulty_10 ?_
    refine go_rV (pc := 11) 6 (d_isSpaceF x hx) okY_isSpace lmY_42 eY_areFaulty_11 rfl rfl rfl rfl rfl (Nat.le_of_ble_eq_true rfl) (Nat.le_of_ble_eq_true rfl) ?_
    refine go_if_ne (pc := 14) 21 (by decide) eY_areFaulty_14 (fun c14 => ?_) (fun c14 => ?_)
    · exact absurd rfl c14
    · refine go_iconst (pc := 17) (v := 1) (by decide) eY_areFaulty_17 ?_
      refine go_goto (pc := 18) 22 (by decide) eY_areFaulty_18 ?_
      obtain ⟨b, -, hpg⟩ := d_isPage (D := D) (cI := cI) (cB := cB) (cL := cL) (bb := bb) (L := L) (xs := xs) y
      refine go_iload_n (pc := 22) 2 2 rfl rfl eY_areFaulty_22 ?_
      refine go_rS (pc := 23) (hpg _ _) okY_isPage lmY_57 eY_areFaulty_23 rfl rfl (Nat.le_of_ble_eq_true rfl) (Nat.le_of_ble_eq_true rfl) ?_
      refine go_if_eq (pc := 26) 37 (by decide) eY_areFaulty_26 (fun c26 => ?_) (fun c26 => ?_)
      · refine go_iconst (pc := 37) (v := 1) (by decide) eY_areFaulty_37 ?_
        refine go_goto (pc := 38) 42 (by decide) eY_areFaulty_38 ?_
        refine go_iconst (pc := 42) (v := 0) (by decide) eY_areFaulty_42 ?_
        refine go_rV (pc := 43) 6 (d_fails1 _ 0) okY_fails lmY_46 eY_areFaulty_43 rfl rfl rfl rfl rfl (Nat.le_of_ble_eq_true rfl) (Nat.le_of_ble_eq_true rfl) ?_
        exact go_iret (pc := 46) rfl rfl eY_areFaulty_46 (hf)
      · obtain ⟨b', -, hpg'⟩ := d_isPage (D := D) (cI := cI) (cB := cB) (cL := cL) (bb := bb) (L := L) (xs := xs) w
        refine go_iload (pc := 29) 4 4 rfl eY_areFaulty_29 ?_
        refine go_rS (pc := 31) (hpg' _ _) okY_isPage lmY_57 eY_areFaulty_31 rfl rfl (Nat.le_of_ble_eq_true rfl) (Nat.le_of_ble_eq_true rfl) ?_
        refine go_if_ne (pc := 34) 41 (by decide) eY_areFaulty_34 (fun c34 => ?_) (fun c34 => ?_)
        · refine go_iconst (pc := 41) (v := 0) (by decide) eY_areFaulty_41 ?_
          refine go_iconst (pc := 42) (v := 0) (by decide) eY_areFaulty_42 ?_
          refine go_rV (pc := 43) 6 (d_fails1 _ 0) okY_fails lmY_46 eY_areFaulty_43 rfl rfl rfl rfl rfl (Nat.le_of_ble_eq_true rfl) (Nat.le_of_ble_eq_true rfl) ?_
          exact go_iret (pc := 46) rfl rfl eY_areFaulty_46 (hf)
        · refine go_iconst (pc := 37) (v := 1) (by decide) eY_areFaulty_37 ?_
          refine go_goto (pc := 38) 42 (by decide) eY_areFaulty_38 ?_
          refine go_iconst (pc := 42) (v := 0) (by decide) eY_areFaulty_42 ?_
          refine go_rV (pc := 43) 6 (d_fails1 _ 0) okY_fails lmY_46 eY_areFaulty_43 rfl rfl rfl rfl rfl (Nat.le_of_ble_eq_true rfl) (Nat.le_of_ble_eq_true rfl) ?_
          exact go_iret (pc := 46) rfl rfl eY_areFaulty_46 (hf)
set_option maxRecDepth 100000 in
set_option maxHeartbeats 1000000 in
theorem d_af3 (s : Nat) (hs : s < 6) (hth : th s = true) (t : Nat) (ht : t < 6) (htt : th t = true) (y : Int32) (hy : ∀ j, j < 8 → y ≠ nI j) (w : Int32) : Ret (gg D cI cB cL bb L xs) mY_areFaulty (n + 1) 0 0 [.ref hm, .int (nI s), .int (y), .int (nI t), .int (w)] (zW z0 z1 z2 z3 z4 z5 cI cB hm b1 b2 b3 b4 cd F sx pd th sm u rest) (some (.int (1))) (zW z0 z1 z2 z3 z4 z5 cI cB hm b1 b2 b3 b4 2 F sx pd th sm u rest) := by
  intro Psi hf
  show Go _ _ _ _ _ 0 [(0, .ref hm), (1, .int (nI s)), (2, .int (y)), (3, .int (nI t)), (4, .int (w))] [] _ Psi
  refine go_aload_n (pc := 0) 0 0 rfl rfl eY_areFaulty_0 ?_
  refine go_aload_n (pc := 1) 0 0 rfl rfl eY_areFaulty_1 ?_
  refine go_iload_n (pc := 2) 1 1 rfl rfl eY_areFaulty_2 ?_
  refine go_rV (pc := 3) 6 (d_isSpaceT s hs hth) okY_isSpace lmY_42 eY_areFaulty_3 rfl rfl rfl rfl rfl (Nat.le_of_ble_eq_true rfl) (Nat.le_of_ble_eq_true rfl) ?_
  refine go_if_eq (pc := 6) 17 (by decide) eY_areFaulty_6 (fun c6 => ?_) (fun c6 => ?_)
  · exact absurd c6 (by decide)
  · refine go_aload_n (pc := 9) 0 0 rfl rfl eY_areFaulty_9 ?_
    refine go_iload_n (pc := 10) 3 3 rfl rfl eY_areFaulty_10 ?_
    refine go_rV (pc := 11) 6 (d_isSpaceT t ht htt) okY_isSpace lmY_42 eY_areFaulty_11 rfl rfl rfl rfl rfl (Nat.le_of_ble_eq_true rfl) (Nat.le_of_ble_eq_true rfl) ?_
    refine go_if_ne (pc := 14) 21 (by decide) eY_areFaulty_14 (fun c14 => ?_) (fun c14 => ?_)
    · refine go_iconst (pc := 21) (v := 0) (by decide) eY_areFaulty_21 ?_
      refine go_iload_n (pc := 22) 2 2 rfl rfl eY_areFaulty_22 ?_
      refine go_rS (pc := 23) (d_isPageF y hy) okY_isPage lmY_57 eY_areFaulty_23 rfl rfl (Nat.le_of_ble_eq_true rfl) (Nat.le_of_ble_eq_true rfl) ?_
      refine go_if_eq (pc := 26) 37 (by decide) eY_areFaulty_26 (fun c26 => ?_) (fun c26 => ?_)
      · refine go_iconst (pc := 37) (v := 1) (by decide) eY_areFaulty_37 ?_
        refine go_goto (pc := 38) 42 (by decide) eY_areFaulty_38 ?_
        refine go_iconst (pc := 42) (v := 0) (by decide) eY_areFaulty_42 ?_
        refine go_rV (pc := 43) 6 (d_fails2 0) okY_fails lmY_46 eY_areFaulty_43 rfl rfl rfl rfl rfl (Nat.le_of_ble_eq_true rfl) (Nat.le_of_ble_eq_true rfl) ?_
        exact go_iret (pc := 46) rfl rfl eY_areFaulty_46 (hf)
      · exact absurd rfl c26
    · exact absurd c14 (by decide)
set_option maxRecDepth 100000 in
set_option maxHeartbeats 1000000 in
theorem d_af4 (s : Nat) (hs : s < 6) (hth : th s = true) (t : Nat) (ht : t < 6) (htt : th t = true) (p : Nat) (hp : p < 8) (y : Int32) (hy : ∀ j, j < 8 → y ≠ nI j) : Ret (gg D cI cB cL bb L xs) mY_areFaulty (n + 1) 0 0 [.ref hm, .int (nI s), .int (nI p), .int (nI t), .int (y)] (zW z0 z1 z2 z3 z4 z5 cI cB hm b1 b2 b3 b4 cd F sx pd th sm u rest) (some (.int (1))) (zW z0 z1 z2 z3 z4 z5 cI cB hm b1 b2 b3 b4 2 F sx pd th sm u rest) := by
  intro Psi hf
  show Go _ _ _ _ _ 0 [(0, .ref hm), (1, .int (nI s)), (2, .int (nI p)), (3, .int (nI t)), (4, .int (y))] [] _ Psi
  refine go_aload_n (pc := 0) 0 0 rfl rfl eY_areFaulty_0 ?_
  refine go_aload_n (pc := 1) 0 0 rfl rfl eY_areFaulty_1 ?_
  refine go_iload_n (pc := 2) 1 1 rfl rfl eY_areFaulty_2 ?_
  refine go_rV (pc := 3) 6 (d_isSpaceT s hs hth) okY_isSpace lmY_42 eY_areFaulty_3 rfl rfl rfl rfl rfl (Nat.le_of_ble_eq_true rfl) (Nat.le_of_ble_eq_true rfl) ?_
  refine go_if_eq (pc := 6) 17 (by decide) eY_areFaulty_6 (fun c6 => ?_) (fun c6 => ?_)
  · exact absurd c6 (by decide)
  · refine go_aload_n (pc := 9) 0 0 rfl rfl eY_areFaulty_9 ?_
    refine go_iload_n (pc := 10) 3 3 rfl rfl eY_areFaulty_10 ?_
    refine go_rV (pc := 11) 6 (d_isSpaceT t ht htt) okY_isSpace lmY_42 eY_areFaulty_11 rfl rfl rfl rfl rfl (Nat.le_of_ble_eq_true rfl) (Nat.le_of_ble_eq_true rfl) ?_
    refine go_if_ne (pc := 14) 21 (by decide) eY_areFaulty_14 (fun c14 => ?_) (fun c14 => ?_)
    · refine go_iconst (pc := 21) (v := 0) (by decide) eY_areFaulty_21 ?_
      refine go_iload_n (pc := 22) 2 2 rfl rfl eY_areFaulty_22 ?_
      refine go_rS (pc := 23) (d_isPageT p hp) okY_isPage lmY_57 eY_areFaulty_23 rfl rfl (Nat.le_of_ble_eq_true rfl) (Nat.le_of_ble_eq_true rfl) ?_
      refine go_if_eq (pc := 26) 37 (by decide) eY_areFaulty_26 (fun c26 => ?_) (fun c26 => ?_)
      · exact absurd c26 (by decide)
      · refine go_iload (pc := 29) 4 4 rfl eY_areFaulty_29 ?_
        refine go_rS (pc := 31) (d_isPageF y hy) okY_isPage lmY_57 eY_areFaulty_31 rfl rfl (Nat.le_of_ble_eq_true rfl) (Nat.le_of_ble_eq_true rfl) ?_
        refine go_if_ne (pc := 34) 41 (by decide) eY_areFaulty_34 (fun c34 => ?_) (fun c34 => ?_)
        · exact absurd rfl c34
        · refine go_iconst (pc := 37) (v := 1) (by decide) eY_areFaulty_37 ?_
          refine go_goto (pc := 38) 42 (by decide) eY_areFaulty_38 ?_
          refine go_iconst (pc := 42) (v := 0) (by decide) eY_areFaulty_42 ?_
          refine go_rV (pc := 43) 6 (d_fails2 0) okY_fails lmY_46 eY_areFaulty_43 rfl rfl rfl rfl rfl (Nat.le_of_ble_eq_true rfl) (Nat.le_of_ble_eq_true rfl) ?_
          exact go_iret (pc := 46) rfl rfl eY_areFaulty_46 (hf)
    · exact absurd c14 (by decide)
set_option maxRecDepth 100000 in
set_option maxHeartbeats 1000000 in
theorem e_lend1 (x : Int32) (hx : ∀ j, j < 6 → x = nI j → th j = false) (y z w : Int32) : Ret (gg D cI cB cL bb L xs) mY_lend (n + 2) 0 0 [.ref hm, .int (x), .int (y), .int (z), .int (w)] (zW z0 z1 z2 z3 z4 z5 cI cB hm b1 b2 b3 b4 cd F sx pd th sm u rest) (some (.int (0))) (zW z0 z1 z2 z3 z4 z5 cI cB hm b1 b2 b3 b4 1 F sx pd th sm u rest) := by
  intro Psi hf
  show Go _ _ _ _ _ 0 [(0, .ref hm), (1, .int (x)), (2, .int (y)), (3, .int (z)), (4, .int (w))] [] _ Psi
  refine go_aload_n (pc := 0) 0 0 rfl rfl eY_lend_0 ?_
  refine go_iload_n (pc := 1) 1 1 rfl rfl eY_lend_1 ?_
  refine go_iload_n (pc := 2) 2 2 rfl rfl eY_lend_2 ?_
  refine go_iload_n (pc := 3) 3 3 rfl rfl eY_lend_3 ?_
  refine go_iload (pc := 4) 4 4 rfl eY_lend_4 ?_
  refine go_rV (pc := 6) 6 (d_af1 x hx y z w) okY_areFaulty lmY_73 eY_lend_6 rfl rfl rfl rfl rfl (Nat.le_of_ble_eq_true rfl) (Nat.le_of_ble_eq_true rfl) ?_
  refine go_if_eq (pc := 9) 14 (by decide) eY_lend_9 (fun c9 => ?_) (fun c9 => ?_)
  · exact absurd c9 (by decide)
  · refine go_iconst (pc := 12) (v := 0) (by decide) eY_lend_12 ?_
    exact go_iret (pc := 13) rfl rfl eY_lend_13 (hf)
set_option maxRecDepth 100000 in
set_option maxHeartbeats 1000000 in
theorem e_lend2 (s : Nat) (hs : s < 6) (hth : th s = true) (x : Int32) (hx : ∀ j, j < 6 → x = nI j → th j = false) (y w : Int32) : Ret (gg D cI cB cL bb L xs) mY_lend (n + 2) 0 0 [.ref hm, .int (nI s), .int (y), .int (x), .int (w)] (zW z0 z1 z2 z3 z4 z5 cI cB hm b1 b2 b3 b4 cd F sx pd th sm u rest) (some (.int (0))) (zW z0 z1 z2 z3 z4 z5 cI cB hm b1 b2 b3 b4 1 F sx pd th sm u rest) := by
  intro Psi hf
  show Go _ _ _ _ _ 0 [(0, .ref hm), (1, .int (nI s)), (2, .int (y)), (3, .int (x)), (4, .int (w))] [] _ Psi
  refine go_aload_n (pc := 0) 0 0 rfl rfl eY_lend_0 ?_
  refine go_iload_n (pc := 1) 1 1 rfl rfl eY_lend_1 ?_
  refine go_iload_n (pc := 2) 2 2 rfl rfl eY_lend_2 ?_
  refine go_iload_n (pc := 3) 3 3 rfl rfl eY_lend_3 ?_
  refine go_iload (pc := 4) 4 4 rfl eY_lend_4 ?_
  refine go_rV (pc := 6) 6 (d_af2 s hs hth x hx y w) okY_areFaulty lmY_73 eY_lend_6 rfl rfl rfl rfl rfl (Nat.le_of_ble_eq_true rfl) (Nat.le_of_ble_eq_true rfl) ?_
  refine go_if_eq (pc := 9) 14 (by decide) eY_lend_9 (fun c9 => ?_) (fun c9 => ?_)
  · exact absurd c9 (by decide)
  · refine go_iconst (pc := 12) (v := 0) (by decide) eY_lend_12 ?_
    exact go_iret (pc := 13) rfl rfl eY_lend_13 (hf)
set_option maxRecDepth 100000 in
set_option maxHeartbeats 1000000 in
theorem e_lend3 (s : Nat) (hs : s < 6) (hth : th s = true) (t : Nat) (ht : t < 6) (htt : th t = true) (y : Int32) (hy : ∀ j, j < 8 → y ≠ nI j) (w : Int32) : Ret (gg D cI cB cL bb L xs) mY_lend (n + 2) 0 0 [.ref hm, .int (nI s), .int (y), .int (nI t), .int (w)] (zW z0 z1 z2 z3 z4 z5 cI cB hm b1 b2 b3 b4 cd F sx pd th sm u rest) (some (.int (0))) (zW z0 z1 z2 z3 z4 z5 cI cB hm b1 b2 b3 b4 2 F sx pd th sm u rest) := by
  intro Psi hf
  show Go _ _ _ _ _ 0 [(0, .ref hm), (1, .int (nI s)), (2, .int (y)), (3, .int (nI t)), (4, .int (w))] [] _ Psi
  refine go_aload_n (pc := 0) 0 0 rfl rfl eY_lend_0 ?_
  refine go_iload_n (pc := 1) 1 1 rfl rfl eY_lend_1 ?_
  refine go_iload_n (pc := 2) 2 2 rfl rfl eY_lend_2 ?_
  refine go_iload_n (pc := 3) 3 3 rfl rfl eY_lend_3 ?_
  refine go_iload (pc := 4) 4 4 rfl eY_lend_4 ?_
  refine go_rV (pc := 6) 6 (d_af3 s hs hth t ht htt y hy w) okY_areFaulty lmY_73 eY_lend_6 rfl rfl rfl rfl rfl (Nat.le_of_ble_eq_true rfl) (Nat.le_of_ble_eq_true rfl) ?_
  refine go_if_eq (pc := 9) 14 (by decide) eY_lend_9 (fun c9 => ?_) (fun c9 => ?_)
  · exact absurd c9 (by decide)
  · refine go_iconst (pc := 12) (v := 0) (by decide) eY_lend_12 ?_
    exact go_iret (pc := 13) rfl rfl eY_lend_13 (hf)
set_option maxRecDepth 100000 in
set_option maxHeartbeats 1000000 in
theorem e_lend4 (s : Nat) (hs : s < 6) (hth : th s = true) (t : Nat) (ht : t < 6) (htt : th t = true) (p : Nat) (hp : p < 8) (y : Int32) (hy : ∀ j, j < 8 → y ≠ nI j) : Ret (gg D cI cB cL bb L xs) mY_lend (n + 2) 0 0 [.ref hm, .int (nI s), .int (nI p), .int (nI t), .int (y)] (zW z0 z1 z2 z3 z4 z5 cI cB hm b1 b2 b3 b4 cd F sx pd th sm u rest) (some (.int (0))) (zW z0 z1 z2 z3 z4 z5 cI cB hm b1 b2 b3 b4 2 F sx pd th sm u rest) := by
  intro Psi hf
  show Go _ _ _ _ _ 0 [(0, .ref hm), (1, .int (nI s)), (2, .int (nI p)), (3, .int (nI t)), (4, .int (y))] [] _ Psi
  refine go_aload_n (pc := 0) 0 0 rfl rfl eY_lend_0 ?_
  refine go_iload_n (pc := 1) 1 1 rfl rfl eY_lend_1 ?_
  refine go_iload_n (pc := 2) 2 2 rfl rfl eY_lend_2 ?_
  refine go_iload_n (pc := 3) 3 3 rfl rfl eY_lend_3 ?_
  refine go_iload (pc := 4) 4 4 rfl eY_lend_4 ?_
  refine go_rV (pc := 6) 6 (d_af4 s hs hth t ht htt p hp y hy) okY_areFaulty lmY_73 eY_lend_6 rfl rfl rfl rfl rfl (Nat.le_of_ble_eq_true rfl) (Nat.le_of_ble_eq_true rfl) ?_
  refine go_if_eq (pc := 9) 14 (by decide) eY_lend_9 (fun c9 => ?_) (fun c9 => ?_)
  · exact absurd c9 (by decide)
  · refine go_iconst (pc := 12) (v := 0) (by decide) eY_lend_12 ?_
    exact go_iret (pc := 13) rfl rfl eY_lend_13 (hf)
set_option maxRecDepth 100000 in
set_option maxHeartbeats 1000000 in
theorem e_join1 (x : Int32) (hx : ∀ j, j < 6 → x = nI j → th j = false) (y z w : Int32) : Ret (gg D cI cB cL bb L xs) mY_join (n + 2) 0 0 [.ref hm, .int (x), .int (y), .int (z), .int (w)] (zW z0 z1 z2 z3 z4 z5 cI cB hm b1 b2 b3 b4 cd F sx pd th sm u rest) (some (.int (0))) (zW z0 z1 z2 z3 z4 z5 cI cB hm b1 b2 b3 b4 1 F sx pd th sm u rest) := by
  intro Psi hf
  show Go _ _ _ _ _ 0 [(0, .ref hm), (1, .int (x)), (2, .int (y)), (3, .int (z)), (4, .int (w))] [] _ Psi
  refine go_aload_n (pc := 0) 0 0 rfl rfl eY_join_0 ?_
  refine go_iload_n (pc := 1) 1 1 rfl rfl eY_join_1 ?_
  refine go_iload_n (pc := 2) 2 2 rfl rfl eY_join_2 ?_
  refine go_iload_n (pc := 3) 3 3 rfl rfl eY_join_3 ?_
  refine go_iload (pc := 4) 4 4 rfl eY_join_4 ?_
  refine go_rV (pc := 6) 6 (d_af1 x hx y z w) okY_areFaulty lmY_73 eY_join_6 rfl rfl rfl rfl rfl (Nat.le_of_ble_eq_true rfl) (Nat.le_of_ble_eq_true rfl) ?_
  refine go_if_eq (pc := 9) 14 (by decide) eY_join_9 (fun c9 => ?_) (fun c9 => ?_)
  · exact absurd c9 (by decide)
  · refine go_iconst (pc := 12) (v := 0) (by decide) eY_join_12 ?_
    exact go_iret (pc := 13) rfl rfl eY_join_13 (hf)
set_option maxRecDepth 100000 in
set_option maxHeartbeats 1000000 in
theorem e_join2 (s : Nat) (hs : s < 6) (hth : th s = true) (x : Int32) (hx : ∀ j, j < 6 → x = nI j → th j = false) (y w : Int32) : Ret (gg D cI cB cL bb L xs) mY_join (n + 2) 0 0 [.ref hm, .int (nI s), .int (y), .int (x), .int (w)] (zW z0 z1 z2 z3 z4 z5 cI cB hm b1 b2 b3 b4 cd F sx pd th sm u rest) (some (.int (0))) (zW z0 z1 z2 z3 z4 z5 cI cB hm b1 b2 b3 b4 1 F sx pd th sm u rest) := by
  intro Psi hf
  show Go _ _ _ _ _ 0 [(0, .ref hm), (1, .int (nI s)), (2, .int (y)), (3, .int (x)), (4, .int (w))] [] _ Psi
  refine go_aload_n (pc := 0) 0 0 rfl rfl eY_join_0 ?_
  refine go_iload_n (pc := 1) 1 1 rfl rfl eY_join_1 ?_
  refine go_iload_n (pc := 2) 2 2 rfl rfl eY_join_2 ?_
  refine go_iload_n (pc := 3) 3 3 rfl rfl eY_join_3 ?_
  refine go_iload (pc := 4) 4 4 rfl eY_join_4 ?_
  refine go_rV (pc := 6) 6 (d_af2 s hs hth x hx y w) okY_areFaulty lmY_73 eY_join_6 rfl rfl rfl rfl rfl (Nat.le_of_ble_eq_true rfl) (Nat.le_of_ble_eq_true rfl) ?_
  refine go_if_eq (pc := 9) 14 (by decide) eY_join_9 (fun c9 => ?_) (fun c9 => ?_)
  · exact absurd c9 (by decide)
  · refine go_iconst (pc := 12) (v := 0) (by decide) eY_join_12 ?_
    exact go_iret (pc := 13) rfl rfl eY_join_13 (hf)
set_option maxRecDepth 100000 in
set_option maxHeartbeats 1000000 in
theorem e_join3 (s : Nat) (hs : s < 6) (hth : th s = true) (t : Nat) (ht : t < 6) (htt : th t = true) (y : Int32) (hy : ∀ j, j < 8 → y ≠ nI j) (w : Int32) : Ret (gg D cI cB cL bb L xs) mY_join (n + 2) 0 0 [.ref hm, .int (nI s), .int (y), .int (nI t), .int (w)] (zW z0 z1 z2 z3 z4 z5 cI cB hm b1 b2 b3 b4 cd F sx pd th sm u rest) (some (.int (0))) (zW z0 z1 z2 z3 z4 z5 cI cB hm b1 b2 b3 b4 2 F sx pd th sm u rest) := by
  intro Psi hf
  show Go _ _ _ _ _ 0 [(0, .ref hm), (1, .int (nI s)), (2, .int (y)), (3, .int (nI t)), (4, .int (w))] [] _ Psi
  refine go_aload_n (pc := 0) 0 0 rfl rfl eY_join_0 ?_
  refine go_iload_n (pc := 1) 1 1 rfl rfl eY_join_1 ?_
  refine go_iload_n (pc := 2) 2 2 rfl rfl eY_join_2 ?_
  refine go_iload_n (pc := 3) 3 3 rfl rfl eY_join_3 ?_
  refine go_iload (pc := 4) 4 4 rfl eY_join_4 ?_
  refine go_rV (pc := 6) 6 (d_af3 s hs hth t ht htt y hy w) okY_areFaulty lmY_73 eY_join_6 rfl rfl rfl rfl rfl (Nat.le_of_ble_eq_true rfl) (Nat.le_of_ble_eq_true rfl) ?_
  refine go_if_eq (pc := 9) 14 (by decide) eY_join_9 (fun c9 => ?_) (fun c9 => ?_)
  · exact absurd c9 (by decide)
  · refine go_iconst (pc := 12) (v := 0) (by decide) eY_join_12 ?_
    exact go_iret (pc := 13) rfl rfl eY_join_13 (hf)
set_option maxRecDepth 100000 in
set_option maxHeartbeats 1000000 in
theorem e_join4 (s : Nat) (hs : s < 6) (hth : th s = true) (t : Nat) (ht : t < 6) (htt : th t = true) (p : Nat) (hp : p < 8) (y : Int32) (hy : ∀ j, j < 8 → y ≠ nI j) : Ret (gg D cI cB cL bb L xs) mY_join (n + 2) 0 0 [.ref hm, .int (nI s), .int (nI p), .int (nI t), .int (y)] (zW z0 z1 z2 z3 z4 z5 cI cB hm b1 b2 b3 b4 cd F sx pd th sm u rest) (some (.int (0))) (zW z0 z1 z2 z3 z4 z5 cI cB hm b1 b2 b3 b4 2 F sx pd th sm u rest) := by
  intro Psi hf
  show Go _ _ _ _ _ 0 [(0, .ref hm), (1, .int (nI s)), (2, .int (nI p)), (3, .int (nI t)), (4, .int (y))] [] _ Psi
  refine go_aload_n (pc := 0) 0 0 rfl rfl eY_join_0 ?_
  refine go_iload_n (pc := 1) 1 1 rfl rfl eY_join_1 ?_
  refine go_iload_n (pc := 2) 2 2 rfl rfl eY_join_2 ?_
  refine go_iload_n (pc := 3) 3 3 rfl rfl eY_join_3 ?_
  refine go_iload (pc := 4) 4 4 rfl eY_join_4 ?_
  refine go_rV (pc := 6) 6 (d_af4 s hs hth t ht htt p hp y hy) okY_areFaulty lmY_73 eY_join_6 rfl rfl rfl rfl rfl (Nat.le_of_ble_eq_true rfl) (Nat.le_of_ble_eq_true rfl) ?_
  refine go_if_eq (pc := 9) 14 (by decide) eY_join_9 (fun c9 => ?_) (fun c9 => ?_)
  · exact absurd c9 (by decide)
  · refine go_iconst (pc := 12) (v := 0) (by decide) eY_join_12 ?_
    exact go_iret (pc := 13) rfl rfl eY_join_13 (hf)
set_option maxRecDepth 100000 in
set_option maxHeartbeats 1000000 in
theorem d_lend (hsm : ∀ k, sm k < 2 ^ 30) (s : Nat) (hs : s < 6) (hth : th s = true) (t : Nat) (ht : t < 6) (htt : th t = true) (p q : Nat) (hp : p < 8) (hq : q < 8) : Ret (gg D cI cB cL bb L xs) mY_lend (n + 2) 0 0 [.ref hm, .int (nI s), .int (nI p), .int (nI t), .int (nI q)] (zW z0 z1 z2 z3 z4 z5 cI cB hm b1 b2 b3 b4 cd F sx pd th sm u rest) (some (.int (bI (decide (¬ sm (8 * s + p) = sm (8 * t + q)))))) (zW z0 z1 z2 z3 z4 z5 cI cB hm b1 b2 b3 b4 0 F sx pd th (va_up sm (8 * t + q) (sm (8 * s + p))) (va_cpy u u (16 * (8 * s + p)) (16 * (8 * t + q)) 16) rest) := by
  intro Psi hf
  show Go _ _ _ _ _ 0 [(0, .ref hm), (1, .int (nI s)), (2, .int (nI p)), (3, .int (nI t)), (4, .int (nI q))] [] _ Psi
  refine go_aload_n (pc := 0) 0 0 rfl rfl eY_lend_0 ?_
  refine go_iload_n (pc := 1) 1 1 rfl rfl eY_lend_1 ?_
  refine go_iload_n (pc := 2) 2 2 rfl rfl eY_lend_2 ?_
  refine go_iload_n (pc := 3) 3 3 rfl rfl eY_lend_3 ?_
  refine go_iload (pc := 4) 4 4 rfl eY_lend_4 ?_
  refine go_rV (pc := 6) 6 (d_af0 s hs hth t ht htt p q hp hq) okY_areFaulty lmY_73 eY_lend_6 rfl rfl rfl rfl rfl (Nat.le_of_ble_eq_true rfl) (Nat.le_of_ble_eq_true rfl) ?_
  refine go_if_eq (pc := 9) 14 (by decide) eY_lend_9 (fun c9 => ?_) (fun c9 => ?_)
  · refine go_iconst (pc := 14) (v := 0) (by decide) eY_lend_14 ?_
    refine go_iload_n (pc := 15) 3 3 rfl rfl eY_lend_15 ?_
    refine go_iload (pc := 16) 4 4 rfl eY_lend_16 ?_
    refine go_rS (pc := 18) (d_page0 t q) okY_page lmY_34 eY_lend_18 rfl rfl (Nat.le_of_ble_eq_true rfl) (Nat.le_of_ble_eq_true rfl) ?_
    refine go_istore (pc := 21) (ls' := [(5, _), (0, _), (1, _), (2, _), (3, _), (4, _)]) 5 (by decide) eY_lend_21 rfl ?_
    refine go_aload_n (pc := 23) 0 1 rfl rfl eY_lend_23 ?_
    refine go_get (pc := 24) hwY 6 rfl rfl 5 (by decide) lkY_16 rfl eY_lend_24 ?_
    refine go_iload (pc := 27) 5 0 rfl eY_lend_27 ?_
    refine go_ialdN (pc := 29) 9 0 (8 * t + q) eY_lend_29 rfl rfl (rfl) (by omega) (by omega) ?_
    refine go_istore (pc := 30) (ls' := [(6, _), (5, _), (0, _), (1, _), (2, _), (3, _), (4, _)]) 6 (by decide) eY_lend_30 rfl ?_
    refine go_aload_n (pc := 32) 0 2 rfl rfl eY_lend_32 ?_
    refine go_iconst (pc := 33) (v := 0) (by decide) eY_lend_33 ?_
    refine go_iload_n (pc := 34) 1 3 rfl rfl eY_lend_34 ?_
    refine go_iload_n (pc := 35) 2 4 rfl rfl eY_lend_35 ?_
    refine go_rS (pc := 36) (d_page0 s p) okY_page lmY_34 eY_lend_36 rfl rfl (Nat.le_of_ble_eq_true rfl) (Nat.le_of_ble_eq_true rfl) ?_
    refine go_iload (pc := 39) 5 1 rfl eY_lend_39 ?_
    refine go_rV0 (pc := 41) 6 (d_cp (8 * s + p) (8 * t + q) (by omega) (by omega)) okY_copyPage lmY_30 eY_lend_41 rfl rfl rfl rfl rfl (Nat.le_of_ble_eq_true rfl) (Nat.le_of_ble_eq_true rfl) ?_
    refine go_aload_n (pc := 44) 0 2 rfl rfl eY_lend_44 ?_
    refine go_get (pc := 45) hwY 6 rfl rfl 5 (by decide) lkY_16 rfl eY_lend_45 ?_
    refine go_iload (pc := 48) 5 1 rfl eY_lend_48 ?_
    refine go_ialdN (pc := 50) 9 0 (8 * t + q) eY_lend_50 rfl rfl (rfl) (by omega) (by omega) ?_
    rw [va_upat]
    refine go_iload (pc := 51) 6 0 rfl eY_lend_51 ?_
    refine go_icmp_eq (pc := 53) 60 (by decide) eY_lend_53 (fun c53 => ?_) (fun c53 => ?_)
    · rw [show decide (¬ sm (8 * s + p) = sm (8 * t + q)) = false from decide_eq_false (fun z => z ((nI_eq (by have := hsm (8 * s + p); omega) (by have := hsm (8 * t + q); omega)).mp c53))] at hf
      refine go_iconst (pc := 60) (v := 0) (by decide) eY_lend_60 ?_
      exact go_iret (pc := 61) rfl rfl eY_lend_61 (hf)
    · rw [show decide (¬ sm (8 * s + p) = sm (8 * t + q)) = true from decide_eq_true (fun z => c53 (by rw [z]))] at hf
      refine go_iconst (pc := 56) (v := 1) (by decide) eY_lend_56 ?_
      refine go_goto (pc := 57) 61 (by decide) eY_lend_57 ?_
      exact go_iret (pc := 61) rfl rfl eY_lend_61 (hf)
  · exact absurd rfl c9
end Syb
