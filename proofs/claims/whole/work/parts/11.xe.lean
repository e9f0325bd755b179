section Sxe
variable {D : va_G} {cI cB cL : ClassId} {bb L : Nat} {xs : Nat → Int32} {n h a1 a2 a3 a4 a5 F : Nat} {c : Nat → Int32} {fo : Nat → Option Nat} {sp pi : Nat → Bool} {rest es : va_W} {f1 f2 f3 f4 f5 : Nat → Int32}
set_option maxRecDepth 100000 in
set_option maxHeartbeats 1000000 in
theorem c_open1 (j : Nat) (hj : j < 6) (hj0 : sp (48 + j) = false) (hlt : ∀ q, q < j → sp (48 + q) = true) : Ret (gg D cI cB cL bb L xs) mX_open (n + 2) 0 0 [.ref h] (xW cI cB h a1 a2 a3 a4 a5 F c fo sp pi rest) (some (.int (nI j))) (xW cI cB h a1 a2 a3 a4 a5 F c fo (va_up sp (48 + j) true) pi rest) := by
  intro Psi hf
  show Go _ _ _ _ _ 0 [(0, .ref h)] [] _ Psi
  refine go_aload_n (pc := 0) 0 0 rfl rfl eX_open_0 ?_
  refine go_rV (pc := 1) 0 (c_lmsA j hj hj0 hlt) okX_leastMissingSpace lmX_45 eX_open_1 rfl rfl rfl rfl rfl (Nat.le_of_ble_eq_true rfl) (Nat.le_of_ble_eq_true rfl) ?_
  refine go_istore_n (pc := 4) (ls' := [(1, _), (0, _)]) 1 rfl (by decide) eX_open_4 rfl ?_
  refine go_iload_n (pc := 5) 1 0 rfl rfl eX_open_5 ?_
  refine go_iconst (pc := 6) (v := (-1)) (by decide) eX_open_6 ?_
  refine go_icmp_eq (pc := 7) 22 (by decide) eX_open_7 (fun c7 => ?_) (fun c7 => ?_)
  · exact absurd c7 (nI_nm1 (by omega))
  · refine go_aload_n (pc := 10) 0 1 rfl rfl eX_open_10 ?_
    refine go_get (pc := 11) hwX 0 rfl rfl 4 (by decide) lkX_38 rfl eX_open_11 ?_
    refine go_bipush (pc := 14) (v := 8) (by decide) eX_open_14 ?_
    refine go_iload_n (pc := 16) 1 0 rfl rfl eX_open_16 ?_
    refine go_rS (pc := 17) (c_spaceIndex 8 j) okX_spaceIndex lmX_49 eX_open_17 rfl rfl (Nat.le_of_ble_eq_true rfl) (Nat.le_of_ble_eq_true rfl) ?_
    refine go_iconst (pc := 20) (v := 1) (by decide) eX_open_20 ?_
    refine go_zastN (pc := 21) (es' := (xW cI cB h a1 a2 a3 a4 a5 F c fo (va_up sp (48 + j) true) pi rest)) 4 1 (48 + j) eX_open_21 rfl rfl rfl (by omega) (by omega) (xs4 (upd_b (b := true) rfl)) ?_
    refine go_iload_n (pc := 22) 1 0 rfl rfl eX_open_22 ?_
    exact go_iret (pc := 23) rfl rfl eX_open_23 (hf)
set_option maxRecDepth 100000 in
set_option maxHeartbeats 1000000 in
theorem c_open0 (hlt : ∀ q, q < 6 → sp (48 + q) = true) : Ret (gg D cI cB cL bb L xs) mX_open (n + 2) 0 0 [.ref h] (xW cI cB h a1 a2 a3 a4 a5 F c fo sp pi rest) (some (.int (-1))) (xW cI cB h a1 a2 a3 a4 a5 F c fo sp pi rest) := by
  intro Psi hf
  show Go _ _ _ _ _ 0 [(0, .ref h)] [] _ Psi
  refine go_aload_n (pc := 0) 0 0 rfl rfl eX_open_0 ?_
  refine go_rV (pc := 1) 0 (c_lmsB hlt) okX_leastMissingSpace lmX_45 eX_open_1 rfl rfl rfl rfl rfl (Nat.le_of_ble_eq_true rfl) (Nat.le_of_ble_eq_true rfl) ?_
  refine go_istore_n (pc := 4) (ls' := [(1, _), (0, _)]) 1 rfl (by decide) eX_open_4 rfl ?_
  refine go_iload_n (pc := 5) 1 0 rfl rfl eX_open_5 ?_
  refine go_iconst (pc := 6) (v := (-1)) (by decide) eX_open_6 ?_
  refine go_icmp_eq (pc := 7) 22 (by decide) eX_open_7 (fun c7 => ?_) (fun c7 => ?_)
  · refine go_iload_n (pc := 22) 1 0 rfl rfl eX_open_22 ?_
    exact go_iret (pc := 23) rfl rfl eX_open_23 (hf)
  · exact absurd rfl c7
set_option maxRecDepth 100000 in
set_option maxHeartbeats 1000000 in
theorem l_fork (hF : F ≤ 60) (hfo : ∀ k j, fo k = some j → j < F) (s j : Nat) (hs : s < 6) (hj : j < 6) (hsj : s ≠ j) {Psi : gR → va_W → Prop} (hf : Psi (.inl (some (.int (nI j)))) (xW cI cB h a1 a2 a3 a4 a5 F c (va_cpy fo fo (384 + s * 8) (384 + j * 8) 8) sp pi rest)) : ∀ (m i : Nat), i + m = 8 → Go (gg D cI cB cL bb L xs) mX_fork (n + 3) 0 0 31 [(3, .int (nI i)), (2, .int (nI j)), (0, .ref h), (1, .int (nI s))] [] (xW cI cB h a1 a2 a3 a4 a5 F c (va_cpy fo fo (384 + s * 8) (384 + j * 8) i) sp pi rest) Psi := by
  intro m
  induction m with
  | zero =>
    intro i hi
    obtain rfl : i = 8 := by omega
    refine go_iload_n (pc := 31) 3 0 rfl rfl eX_fork_31 ?_
    refine go_bipush (pc := 32) (v := 8) (by decide) eX_fork_32 ?_
    refine go_icmp_ge (pc := 34) 62 (by decide) eX_fork_34 (fun c34 => ?_) (fun c34 => ?_)
    · refine go_iload_n (pc := 62) 2 1 rfl rfl eX_fork_62 ?_
      exact go_iret (pc := 63) rfl rfl eX_fork_63 (hf)
    · exact absurd (show (8 : Int32) ≤ nI 8 by decide) c34
  | succ m ih =>
    intro i hi
    refine go_iload_n (pc := 31) 3 0 rfl rfl eX_fork_31 ?_
    refine go_bipush (pc := 32) (v := 8) (by decide) eX_fork_32 ?_
    refine go_icmp_ge (pc := 34) 62 (by decide) eX_fork_34 (fun c34 => ?_) (fun c34 => ?_)
    · exact absurd c34 (nI_ge (b := 8) (by omega) (by omega))
    · refine go_aload_n (pc := 37) 0 2 rfl rfl eX_fork_37 ?_
      refine go_iload_n (pc := 38) 2 1 rfl rfl eX_fork_38 ?_
      refine go_iload_n (pc := 39) 3 0 rfl rfl eX_fork_39 ?_
      refine go_rS (pc := 40) (c_pageNow j i) okX_pageNow lmX_56 eX_fork_40 rfl rfl (Nat.le_of_ble_eq_true rfl) (Nat.le_of_ble_eq_true rfl) ?_
      refine go_aload_n (pc := 43) 0 2 rfl rfl eX_fork_43 ?_
      refine go_get (pc := 44) hwX 0 rfl rfl 3 (by decide) lkX_29 rfl eX_fork_44 ?_
      refine go_iload_n (pc := 47) 1 3 rfl rfl eX_fork_47 ?_
      refine go_iload_n (pc := 48) 3 0 rfl rfl eX_fork_48 ?_
      refine go_rS (pc := 49) (c_pageNow s i) okX_pageNow lmX_56 eX_fork_49 rfl rfl (Nat.le_of_ble_eq_true rfl) (Nat.le_of_ble_eq_true rfl) ?_
      refine go_ialdN (pc := 52) 3 0 (384 + s * 8 + i) eX_fork_52 rfl rfl (rfl) (by omega) (by omega) ?_
      rw [pk_cpy_out (by omega)]
      refine go_rV0 (pc := 53) 0 (c_standIn hF (hfo_cpy hfo hfo) (384 + j * 8 + i) (by omega) (fo (384 + s * 8 + i)) (hfo _)) okX_standIn lmX_59 eX_fork_53 rfl rfl rfl rfl rfl (Nat.le_of_ble_eq_true rfl) (Nat.le_of_ble_eq_true rfl) ?_
      rw [cpy_up]
      refine go_iinc (pc := 56) (z := 1) (v := nI (i + 1)) (ls' := [(3, _), (2, _), (0, _), (1, _)]) 3 0 rfl (nI_1 i) (by decide) eX_fork_56 rfl ?_
      refine go_goto (pc := 59) 31 (by decide) eX_fork_59 ?_
      exact ih (i + 1) (by omega)
set_option maxRecDepth 100000 in
set_option maxHeartbeats 1000000 in
theorem c_fork1 (hF : F ≤ 60) (hfo : ∀ k j, fo k = some j → j < F) (s : Nat) (hs : s < 6) (hsp : sp (48 + s) = true) (j : Nat) (hj : j < 6) (hj0 : sp (48 + j) = false) (hlt : ∀ q, q < j → sp (48 + q) = true) : Ret (gg D cI cB cL bb L xs) mX_fork (n + 3) 0 0 [.ref h, .int (nI s)] (xW cI cB h a1 a2 a3 a4 a5 F c fo sp pi rest) (some (.int (nI j))) (xW cI cB h a1 a2 a3 a4 a5 F c (va_cpy fo fo (384 + s * 8) (384 + j * 8) 8) (va_up sp (48 + j) true) pi rest) := by
  intro Psi hf
  show Go _ _ _ _ _ 0 [(0, .ref h), (1, .int (nI s))] [] _ Psi
  refine go_aload_n (pc := 0) 0 0 rfl rfl eX_fork_0 ?_
  refine go_iload_n (pc := 1) 1 1 rfl rfl eX_fork_1 ?_
  refine go_rV0 (pc := 2) 0 (c_needSpace s hs hsp) okX_needSpace lmX_52 eX_fork_2 rfl rfl rfl rfl rfl (Nat.le_of_ble_eq_true rfl) (Nat.le_of_ble_eq_true rfl) ?_
  refine go_aload_n (pc := 5) 0 0 rfl rfl eX_fork_5 ?_
  refine go_rV (pc := 6) 0 (c_lmsA j hj hj0 hlt) okX_leastMissingSpace lmX_45 eX_fork_6 rfl rfl rfl rfl rfl (Nat.le_of_ble_eq_true rfl) (Nat.le_of_ble_eq_true rfl) ?_
  refine go_istore_n (pc := 9) (ls' := [(2, _), (0, _), (1, _)]) 2 rfl (by decide) eX_fork_9 rfl ?_
  refine go_iload_n (pc := 10) 2 0 rfl rfl eX_fork_10 ?_
  refine go_iconst (pc := 11) (v := (-1)) (by decide) eX_fork_11 ?_
  refine go_icmp_ne (pc := 12) 17 (by decide) eX_fork_12 (fun c12 => ?_) (fun c12 => ?_)
  · refine go_aload_n (pc := 17) 0 1 rfl rfl eX_fork_17 ?_
    refine go_get (pc := 18) hwX 0 rfl rfl 4 (by decide) lkX_38 rfl eX_fork_18 ?_
    refine go_bipush (pc := 21) (v := 8) (by decide) eX_fork_21 ?_
    refine go_iload_n (pc := 23) 2 0 rfl rfl eX_fork_23 ?_
    refine go_rS (pc := 24) (c_spaceIndex 8 j) okX_spaceIndex lmX_49 eX_fork_24 rfl rfl (Nat.le_of_ble_eq_true rfl) (Nat.le_of_ble_eq_true rfl) ?_
    refine go_iconst (pc := 27) (v := 1) (by decide) eX_fork_27 ?_
    refine go_zastN (pc := 28) (es' := (xW cI cB h a1 a2 a3 a4 a5 F c fo (va_up sp (48 + j) true) pi rest)) 4 1 (48 + j) eX_fork_28 rfl rfl rfl (by omega) (by omega) (xs4 (upd_b (b := true) rfl)) ?_
    refine go_iconst (pc := 29) (v := 0) (by decide) eX_fork_29 ?_
    refine go_istore_n (pc := 30) (ls' := [(3, _), (2, _), (0, _), (1, _)]) 3 rfl (by decide) eX_fork_30 rfl ?_
    have hsj : s ≠ j := fun z => by rw [z, hj0] at hsp; cases hsp
    refine go_es (es' := (xW cI cB h a1 a2 a3 a4 a5 F c (va_cpy fo fo (384 + s * 8) (384 + j * 8) 0) (va_up sp (48 + j) true) pi rest)) (by rw [cpy_0]) ?_
    exact l_fork hF hfo s j hs hj hsj hf 8 0 (by omega)
  · exact absurd c12 (nI_nm1 (by omega))
set_option maxRecDepth 100000 in
set_option maxHeartbeats 1000000 in
theorem c_fork0 (s : Nat) (hs : s < 6) (hsp : sp (48 + s) = true) (hlt : ∀ q, q < 6 → sp (48 + q) = true) : Ret (gg D cI cB cL bb L xs) mX_fork (n + 3) 0 0 [.ref h, .int (nI s)] (xW cI cB h a1 a2 a3 a4 a5 F c fo sp pi rest) (some (.int (-1))) (xW cI cB h a1 a2 a3 a4 a5 F c fo sp pi rest) := by
  intro Psi hf
  show Go _ _ _ _ _ 0 [(0, .ref h), (1, .int (nI s))] [] _ Psi
  refine go_aload_n (pc := 0) 0 0 rfl rfl eX_fork_0 ?_
  refine go_iload_n (pc := 1) 1 1 rfl rfl eX_fork_1 ?_
  refine go_rV0 (pc := 2) 0 (c_needSpace s hs hsp) okX_needSpace lmX_52 eX_fork_2 rfl rfl rfl rfl rfl (Nat.le_of_ble_eq_true rfl) (Nat.le_of_ble_eq_true rfl) ?_
  refine go_aload_n (pc := 5) 0 0 rfl rfl eX_fork_5 ?_
  refine go_rV (pc := 6) 0 (c_lmsB hlt) okX_leastMissingSpace lmX_45 eX_fork_6 rfl rfl rfl rfl rfl (Nat.le_of_ble_eq_true rfl) (Nat.le_of_ble_eq_true rfl) ?_
  refine go_istore_n (pc := 9) (ls' := [(2, _), (0, _), (1, _)]) 2 rfl (by decide) eX_fork_9 rfl ?_
  refine go_iload_n (pc := 10) 2 0 rfl rfl eX_fork_10 ?_
  refine go_iconst (pc := 11) (v := (-1)) (by decide) eX_fork_11 ?_
  refine go_icmp_ne (pc := 12) 17 (by decide) eX_fork_12 (fun c12 => ?_) (fun c12 => ?_)
  · exact absurd rfl c12
  · refine go_iconst (pc := 15) (v := (-1)) (by decide) eX_fork_15 ?_
    exact go_iret (pc := 16) rfl rfl eX_fork_16 (hf)
set_option maxRecDepth 100000 in
set_option maxHeartbeats 1000000 in
theorem t_fork (x : Int32) (hx : ∀ j, j < 6 → x = nI j → sp (48 + j) = false) : Thr (gg D cI cB cL bb L xs) mX_fork (n + 3) 1 6 [.ref h, .int (x)] (xW cI cB h a1 a2 a3 a4 a5 F c fo sp pi rest) "java/util/NoSuchElementException" := by
  intro Psi hf
  show Go _ _ _ _ _ 0 [(0, .ref h), (1, .int (x))] [] _ Psi
  refine go_aload_n (pc := 0) 0 0 rfl rfl eX_fork_0 ?_
  refine go_iload_n (pc := 1) 1 1 rfl rfl eX_fork_1 ?_
  exact go_tV (pc := 2) 0 (t_needSpace x hx) okX_needSpace lmX_52 eX_fork_2 rfl rfl rfl rfl rfl (Nat.le_of_ble_eq_true rfl) (Nat.le_of_ble_eq_true rfl) (by omega) (by omega) hf
set_option maxRecDepth 100000 in
set_option maxHeartbeats 1000000 in
theorem l_close (hF : F ≤ 60) (hfo : ∀ k j, fo k = some j → j < F) (s : Nat) (hs : s < 6) (v : Int32) {Psi : gR → va_W → Prop} (hf : Psi (.inl (some (.int v))) (xW cI cB h a1 a2 a3 a4 a5 F c (va_cpy (fun _ => none) fo 0 (384 + s * 8) 8) (va_up sp (48 + s) false) pi rest)) : ∀ (m i : Nat), i + m = 8 → Go (gg D cI cB cL bb L xs) mX_close (n + 3) 0 0 13 [(3, .int (nI i)), (2, .int (v)), (0, .ref h), (1, .int (nI s))] [] (xW cI cB h a1 a2 a3 a4 a5 F c (va_cpy (fun _ => none) fo 0 (384 + s * 8) i) sp pi rest) Psi := by
  intro m
  induction m with
  | zero =>
    intro i hi
    obtain rfl : i = 8 := by omega
    refine go_iload_n (pc := 13) 3 0 rfl rfl eX_close_13 ?_
    refine go_bipush (pc := 14) (v := 8) (by decide) eX_close_14 ?_
    refine go_icmp_ge (pc := 16) 35 (by decide) eX_close_16 (fun c16 => ?_) (fun c16 => ?_)
    · refine go_aload_n (pc := 35) 0 2 rfl rfl eX_close_35 ?_
      refine go_get (pc := 36) hwX 0 rfl rfl 4 (by decide) lkX_38 rfl eX_close_36 ?_
      refine go_bipush (pc := 39) (v := 8) (by decide) eX_close_39 ?_
      refine go_iload_n (pc := 41) 1 3 rfl rfl eX_close_41 ?_
      refine go_rS (pc := 42) (c_spaceIndex 8 s) okX_spaceIndex lmX_49 eX_close_42 rfl rfl (Nat.le_of_ble_eq_true rfl) (Nat.le_of_ble_eq_true rfl) ?_
      refine go_iconst (pc := 45) (v := 0) (by decide) eX_close_45 ?_
      refine go_zastN (pc := 46) (es' := (xW cI cB h a1 a2 a3 a4 a5 F c (va_cpy (fun _ => none) fo 0 (384 + s * 8) 8) (va_up sp (48 + s) false) pi rest)) 4 1 (48 + s) eX_close_46 rfl rfl rfl (by omega) (by omega) (xs4 (upd_b (b := false) rfl)) ?_
      refine go_iload_n (pc := 47) 2 1 rfl rfl eX_close_47 ?_
      exact go_iret (pc := 48) rfl rfl eX_close_48 (hf)
    · exact absurd (show (8 : Int32) ≤ nI 8 by decide) c16
  | succ m ih =>
    intro i hi
    refine go_iload_n (pc := 13) 3 0 rfl rfl eX_close_13 ?_
    refine go_bipush (pc := 14) (v := 8) (by decide) eX_close_14 ?_
    refine go_icmp_ge (pc := 16) 35 (by decide) eX_close_16 (fun c16 => ?_) (fun c16 => ?_)
    · exact absurd c16 (nI_ge (b := 8) (by omega) (by omega))
    · refine go_aload_n (pc := 19) 0 2 rfl rfl eX_close_19 ?_
      refine go_iload_n (pc := 20) 1 3 rfl rfl eX_close_20 ?_
      refine go_iload_n (pc := 21) 3 0 rfl rfl eX_close_21 ?_
      refine go_rS (pc := 22) (c_pageNow s i) okX_pageNow lmX_56 eX_close_22 rfl rfl (Nat.le_of_ble_eq_true rfl) (Nat.le_of_ble_eq_true rfl) ?_
      refine go_iconst (pc := 25) (v := (-1)) (by decide) eX_close_25 ?_
      refine go_rV0 (pc := 26) 0 (c_standIn hF (hfo_cpy hfo (fun _ _ z => by cases z)) (384 + s * 8 + i) (by omega) none (fun _ z => by cases z)) okX_standIn lmX_59 eX_close_26 rfl rfl rfl rfl rfl (Nat.le_of_ble_eq_true rfl) (Nat.le_of_ble_eq_true rfl) ?_
      rw [cpy_up (f := fun _ => none) (s := 0)]
      refine go_iinc (pc := 29) (z := 1) (v := nI (i + 1)) (ls' := [(3, _), (2, _), (0, _), (1, _)]) 3 0 rfl (nI_1 i) (by decide) eX_close_29 rfl ?_
      refine go_goto (pc := 32) 13 (by decide) eX_close_32 ?_
      exact ih (i + 1) (by omega)
set_option maxRecDepth 100000 in
set_option maxHeartbeats 1000000 in
theorem c_close (hF : F ≤ 60) (hfo : ∀ k j, fo k = some j → j < F) (s : Nat) (hs : s < 6) (hsp : sp (48 + s) = true) : Ret (gg D cI cB cL bb L xs) mX_close (n + 3) 0 0 [.ref h, .int (nI s)] (xW cI cB h a1 a2 a3 a4 a5 F c fo sp pi rest) (some (.int (nI (gcnt (fun p => (fo (384 + s * 8 + p)).isSome) 8)))) (xW cI cB h a1 a2 a3 a4 a5 F c (va_cpy (fun _ => none) fo 0 (384 + s * 8) 8) (va_up sp (48 + s) false) pi rest) := by
  intro Psi hf
  show Go _ _ _ _ _ 0 [(0, .ref h), (1, .int (nI s))] [] _ Psi
  refine go_aload_n (pc := 0) 0 0 rfl rfl eX_close_0 ?_
  refine go_iload_n (pc := 1) 1 1 rfl rfl eX_close_1 ?_
  refine go_rV0 (pc := 2) 0 (c_needSpace s hs hsp) okX_needSpace lmX_52 eX_close_2 rfl rfl rfl rfl rfl (Nat.le_of_ble_eq_true rfl) (Nat.le_of_ble_eq_true rfl) ?_
  refine go_aload_n (pc := 5) 0 0 rfl rfl eX_close_5 ?_
  refine go_iload_n (pc := 6) 1 1 rfl rfl eX_close_6 ?_
  refine go_rV (pc := 7) 0 (c_pgs hF hfo s hs) okX_pagesOfSpace lmX_63 eX_close_7 rfl rfl rfl rfl rfl (Nat.le_of_ble_eq_true rfl) (Nat.le_of_ble_eq_true rfl) ?_
  refine go_istore_n (pc := 10) (ls' := [(2, _), (0, _), (1, _)]) 2 rfl (by decide) eX_close_10 rfl ?_
  refine go_iconst (pc := 11) (v := 0) (by decide) eX_close_11 ?_
  refine go_istore_n (pc := 12) (ls' := [(3, _), (2, _), (0, _), (1, _)]) 3 rfl (by decide) eX_close_12 rfl ?_
  refine go_es (es' := (xW cI cB h a1 a2 a3 a4 a5 F c (va_cpy (fun _ => none) fo 0 (384 + s * 8) 0) sp pi rest)) (by rw [cpy_0]) ?_
  exact l_close hF hfo s hs _ hf 8 0 (by omega)
set_option maxRecDepth 100000 in
set_option maxHeartbeats 1000000 in
theorem t_close (x : Int32) (hx : ∀ j, j < 6 → x = nI j → sp (48 + j) = false) : Thr (gg D cI cB cL bb L xs) mX_close (n + 3) 1 6 [.ref h, .int (x)] (xW cI cB h a1 a2 a3 a4 a5 F c fo sp pi rest) "java/util/NoSuchElementException" := by
  intro Psi hf
  show Go _ _ _ _ _ 0 [(0, .ref h), (1, .int (x))] [] _ Psi
  refine go_aload_n (pc := 0) 0 0 rfl rfl eX_close_0 ?_
  refine go_iload_n (pc := 1) 1 1 rfl rfl eX_close_1 ?_
  exact go_tV (pc := 2) 0 (t_needSpace x hx) okX_needSpace lmX_52 eX_close_2 rfl rfl rfl rfl rfl (Nat.le_of_ble_eq_true rfl) (Nat.le_of_ble_eq_true rfl) (by omega) (by omega) hf
set_option maxRecDepth 100000 in
set_option maxHeartbeats 1000000 in
theorem c_map0 (hF : F ≤ 60) (hfo : ∀ k j, fo k = some j → j < F) (s : Nat) (hs : s < 6) (hsp : sp (48 + s) = true) (p : Nat) (hp : p < 8) (v : Int32) (hfr : (fo (384 + s * 8 + p)).isSome = true) : Ret (gg D cI cB cL bb L xs) mX_map (n + 3) 0 0 [.ref h, .int (nI s), .int (nI p), .int (v)] (xW cI cB h a1 a2 a3 a4 a5 F c fo sp pi rest) (some (.int (0))) (xW cI cB h a1 a2 a3 a4 a5 F c fo sp pi rest) := by
  intro Psi hf
  show Go _ _ _ _ _ 0 [(0, .ref h), (1, .int (nI s)), (2, .int (nI p)), (3, .int (v))] [] _ Psi
  refine go_aload_n (pc := 0) 0 0 rfl rfl eX_map_0 ?_
  refine go_iload_n (pc := 1) 1 1 rfl rfl eX_map_1 ?_
  refine go_rV0 (pc := 2) 0 (c_needSpace s hs hsp) okX_needSpace lmX_52 eX_map_2 rfl rfl rfl rfl rfl (Nat.le_of_ble_eq_true rfl) (Nat.le_of_ble_eq_true rfl) ?_
  refine go_aload_n (pc := 5) 0 0 rfl rfl eX_map_5 ?_
  refine go_iload_n (pc := 6) 2 2 rfl rfl eX_map_6 ?_
  refine go_rV0 (pc := 7) 0 (c_needPage p hp) okX_needPage lmX_67 eX_map_7 rfl rfl rfl rfl rfl (Nat.le_of_ble_eq_true rfl) (Nat.le_of_ble_eq_true rfl) ?_
  refine go_iload_n (pc := 10) 1 1 rfl rfl eX_map_10 ?_
  refine go_iload_n (pc := 11) 2 2 rfl rfl eX_map_11 ?_
  refine go_rS (pc := 12) (c_pageNow s p) okX_pageNow lmX_56 eX_map_12 rfl rfl (Nat.le_of_ble_eq_true rfl) (Nat.le_of_ble_eq_true rfl) ?_
  refine go_istore (pc := 15) (ls' := [(4, _), (0, _), (1, _), (2, _), (3, _)]) 4 (by decide) eX_map_15 rfl ?_
  refine go_aload_n (pc := 17) 0 1 rfl rfl eX_map_17 ?_
  refine go_aload_n (pc := 18) 0 1 rfl rfl eX_map_18 ?_
  refine go_get (pc := 19) hwX 0 rfl rfl 3 (by decide) lkX_29 rfl eX_map_19 ?_
  refine go_iload (pc := 22) 4 0 rfl eX_map_22 ?_
  refine go_ialdN (pc := 24) 3 0 (384 + s * 8 + p) eX_map_24 rfl rfl (rfl) (by omega) (by omega) ?_
  refine go_rV (pc := 25) 0 (c_isFrame hF _ (hfo _)) okX_isFrame lmX_70 eX_map_25 rfl rfl rfl rfl rfl (Nat.le_of_ble_eq_true rfl) (Nat.le_of_ble_eq_true rfl) ?_
  refine go_if_eq (pc := 28) 33 (by decide) eX_map_28 (fun c28 => ?_) (fun c28 => ?_)
  · exact absurd (bI0.mp c28) (by rw [hfr]; decide)
  · refine go_iconst (pc := 31) (v := 0) (by decide) eX_map_31 ?_
    exact go_iret (pc := 32) rfl rfl eX_map_32 (hf)
set_option maxRecDepth 100000 in
set_option maxHeartbeats 1000000 in
theorem c_map1 (hF : F ≤ 60) (hfo : ∀ k j, fo k = some j → j < F) (s : Nat) (hs : s < 6) (hsp : sp (48 + s) = true) (p : Nat) (hp : p < 8) (v : Int32) (hfr : (fo (384 + s * 8 + p)).isSome = false) (j : Nat) (hj : j < F) (hj0 : hcnt fo j = 0) (hlt : ∀ q, q < j → hcnt fo q ≠ 0) : Ret (gg D cI cB cL bb L xs) mX_map (n + 3) 0 0 [.ref h, .int (nI s), .int (nI p), .int (v)] (xW cI cB h a1 a2 a3 a4 a5 F c fo sp pi rest) (some (.int (1))) (xW cI cB h a1 a2 a3 a4 a5 F (va_cpy (fun _ => v) c 0 (j * 16) 16) (va_up fo (384 + s * 8 + p) (some j)) sp pi rest) := by
  intro Psi hf
  show Go _ _ _ _ _ 0 [(0, .ref h), (1, .int (nI s)), (2, .int (nI p)), (3, .int (v))] [] _ Psi
  refine go_aload_n (pc := 0) 0 0 rfl rfl eX_map_0 ?_
  refine go_iload_n (pc := 1) 1 1 rfl rfl eX_map_1 ?_
  refine go_rV0 (pc := 2) 0 (c_needSpace s hs hsp) okX_needSpace lmX_52 eX_map_2 rfl rfl rfl rfl rfl (Nat.le_of_ble_eq_true rfl) (Nat.le_of_ble_eq_true rfl) ?_
  refine go_aload_n (pc := 5) 0 0 rfl rfl eX_map_5 ?_
  refine go_iload_n (pc := 6) 2 2 rfl rfl eX_map_6 ?_
  refine go_rV0 (pc := 7) 0 (c_needPage p hp) okX_needPage lmX_67 eX_map_7 rfl rfl rfl rfl rfl (Nat.le_of_ble_eq_true rfl) (Nat.le_of_ble_eq_true rfl) ?_
  refine go_iload_n (pc := 10) 1 1 rfl rfl eX_map_10 ?_
  refine go_iload_n (pc := 11) 2 2 rfl rfl eX_map_11 ?_
  refine go_rS (pc := 12) (c_pageNow s p) okX_pageNow lmX_56 eX_map_12 rfl rfl (Nat.le_of_ble_eq_true rfl) (Nat.le_of_ble_eq_true rfl) ?_
  refine go_istore (pc := 15) (ls' := [(4, _), (0, _), (1, _), (2, _), (3, _)]) 4 (by decide) eX_map_15 rfl ?_
  refine go_aload_n (pc := 17) 0 1 rfl rfl eX_map_17 ?_
  refine go_aload_n (pc := 18) 0 1 rfl rfl eX_map_18 ?_
  refine go_get (pc := 19) hwX 0 rfl rfl 3 (by decide) lkX_29 rfl eX_map_19 ?_
  refine go_iload (pc := 22) 4 0 rfl eX_map_22 ?_
  refine go_ialdN (pc := 24) 3 0 (384 + s * 8 + p) eX_map_24 rfl rfl (rfl) (by omega) (by omega) ?_
  refine go_rV (pc := 25) 0 (c_isFrame hF _ (hfo _)) okX_isFrame lmX_70 eX_map_25 rfl rfl rfl rfl rfl (Nat.le_of_ble_eq_true rfl) (Nat.le_of_ble_eq_true rfl) ?_
  refine go_if_eq (pc := 28) 33 (by decide) eX_map_28 (fun c28 => ?_) (fun c28 => ?_)
  · refine go_aload_n (pc := 33) 0 1 rfl rfl eX_map_33 ?_
    refine go_rV (pc := 34) 0 (c_nffA hF j hj hj0 hlt) okX_needFreeFrame lmX_74 eX_map_34 rfl rfl rfl rfl rfl (Nat.le_of_ble_eq_true rfl) (Nat.le_of_ble_eq_true rfl) ?_
    refine go_istore (pc := 37) (ls' := [(5, _), (4, _), (0, _), (1, _), (2, _), (3, _)]) 5 (by decide) eX_map_37 rfl ?_
    refine go_aload_n (pc := 39) 0 2 rfl rfl eX_map_39 ?_
    refine go_iload (pc := 40) 5 0 rfl eX_map_40 ?_
    refine go_iload_n (pc := 42) 3 5 rfl rfl eX_map_42 ?_
    refine go_rV0 (pc := 43) 0 (c_fill hF j hj v) okX_fillFrame lmX_77 eX_map_43 rfl rfl rfl rfl rfl (Nat.le_of_ble_eq_true rfl) (Nat.le_of_ble_eq_true rfl) ?_
    refine go_aload_n (pc := 46) 0 2 rfl rfl eX_map_46 ?_
    refine go_iload (pc := 47) 4 1 rfl eX_map_47 ?_
    refine go_iload (pc := 49) 5 0 rfl eX_map_49 ?_
    refine go_rV0 (pc := 51) 0 (c_standIn hF hfo (384 + s * 8 + p) (by omega) (some j) (fun q z => by cases z; exact hj)) okX_standIn lmX_59 eX_map_51 rfl rfl rfl rfl rfl (Nat.le_of_ble_eq_true rfl) (Nat.le_of_ble_eq_true rfl) ?_
    refine go_iconst (pc := 54) (v := 1) (by decide) eX_map_54 ?_
    exact go_iret (pc := 55) rfl rfl eX_map_55 (hf)
  · exact absurd (bI0.mpr hfr) c28
set_option maxRecDepth 100000 in
set_option maxHeartbeats 1000000 in
theorem t_map3 (hF : F ≤ 60) (hfo : ∀ k j, fo k = some j → j < F) (s : Nat) (hs : s < 6) (hsp : sp (48 + s) = true) (p : Nat) (hp : p < 8) (v : Int32) (hfr : (fo (384 + s * 8 + p)).isSome = false) (hlt : ∀ q, q < F → hcnt fo q ≠ 0) : Thr (gg D cI cB cL bb L xs) mX_map (n + 3) 1 6 [.ref h, .int (nI s), .int (nI p), .int (v)] (xW cI cB h a1 a2 a3 a4 a5 F c fo sp pi rest) "java/lang/IllegalStateException" := by
  intro Psi hf
  show Go _ _ _ _ _ 0 [(0, .ref h), (1, .int (nI s)), (2, .int (nI p)), (3, .int (v))] [] _ Psi
  refine go_aload_n (pc := 0) 0 0 rfl rfl eX_map_0 ?_
  refine go_iload_n (pc := 1) 1 1 rfl rfl eX_map_1 ?_
  refine go_rV0 (pc := 2) 0 (c_needSpace s hs hsp) okX_needSpace lmX_52 eX_map_2 rfl rfl rfl rfl rfl (Nat.le_of_ble_eq_true rfl) (Nat.le_of_ble_eq_true rfl) ?_
  refine go_aload_n (pc := 5) 0 0 rfl rfl eX_map_5 ?_
  refine go_iload_n (pc := 6) 2 2 rfl rfl eX_map_6 ?_
  refine go_rV0 (pc := 7) 0 (c_needPage p hp) okX_needPage lmX_67 eX_map_7 rfl rfl rfl rfl rfl (Nat.le_of_ble_eq_true rfl) (Nat.le_of_ble_eq_true rfl) ?_
  refine go_iload_n (pc := 10) 1 1 rfl rfl eX_map_10 ?_
  refine go_iload_n (pc := 11) 2 2 rfl rfl eX_map_11 ?_
  refine go_rS (pc := 12) (c_pageNow s p) okX_pageNow lmX_56 eX_map_12 rfl rfl (Nat.le_of_ble_eq_true rfl) (Nat.le_of_ble_eq_true rfl) ?_
  refine go_istore (pc := 15) (ls' := [(4, _), (0, _), (1, _), (2, _), (3, _)]) 4 (by decide) eX_map_15 rfl ?_
  refine go_aload_n (pc := 17) 0 1 rfl rfl eX_map_17 ?_
  refine go_aload_n (pc := 18) 0 1 rfl rfl eX_map_18 ?_
  refine go_get (pc := 19) hwX 0 rfl rfl 3 (by decide) lkX_29 rfl eX_map_19 ?_
  refine go_iload (pc := 22) 4 0 rfl eX_map_22 ?_
  refine go_ialdN (pc := 24) 3 0 (384 + s * 8 + p) eX_map_24 rfl rfl (rfl) (by omega) (by omega) ?_
  refine go_rV (pc := 25) 0 (c_isFrame hF _ (hfo _)) okX_isFrame lmX_70 eX_map_25 rfl rfl rfl rfl rfl (Nat.le_of_ble_eq_true rfl) (Nat.le_of_ble_eq_true rfl) ?_
  refine go_if_eq (pc := 28) 33 (by decide) eX_map_28 (fun c28 => ?_) (fun c28 => ?_)
  · refine go_aload_n (pc := 33) 0 1 rfl rfl eX_map_33 ?_
    exact go_tV (pc := 34) 0 (t_nff hF hlt) okX_needFreeFrame lmX_74 eX_map_34 rfl rfl rfl rfl rfl (Nat.le_of_ble_eq_true rfl) (Nat.le_of_ble_eq_true rfl) (by omega) (by omega) hf
  · exact absurd (bI0.mpr hfr) c28
set_option maxRecDepth 100000 in
set_option maxHeartbeats 1000000 in
theorem t_map1 (x : Int32) (hx : ∀ j, j < 6 → x = nI j → sp (48 + j) = false) (u v : Int32) : Thr (gg D cI cB cL bb L xs) mX_map (n + 3) 1 6 [.ref h, .int (x), .int (u), .int (v)] (xW cI cB h a1 a2 a3 a4 a5 F c fo sp pi rest) "java/util/NoSuchElementException" := by
  intro Psi hf
  show Go _ _ _ _ _ 0 [(0, .ref h), (1, .int (x)), (2, .int (u)), (3, .int (v))] [] _ Psi
  refine go_aload_n (pc := 0) 0 0 rfl rfl eX_map_0 ?_
  refine go_iload_n (pc := 1) 1 1 rfl rfl eX_map_1 ?_
  exact go_tV (pc := 2) 0 (t_needSpace x hx) okX_needSpace lmX_52 eX_map_2 rfl rfl rfl rfl rfl (Nat.le_of_ble_eq_true rfl) (Nat.le_of_ble_eq_true rfl) (by omega) (by omega) hf
set_option maxRecDepth 100000 in
set_option maxHeartbeats 1000000 in
theorem t_map2 (s : Nat) (hs : s < 6) (hsp : sp (48 + s) = true) (x : Int32) (hx : ∀ j, j < 8 → x ≠ nI j) (v : Int32) : Thr (gg D cI cB cL bb L xs) mX_map (n + 3) 1 6 [.ref h, .int (nI s), .int (x), .int (v)] (xW cI cB h a1 a2 a3 a4 a5 F c fo sp pi rest) "java/lang/IndexOutOfBoundsException" := by
  intro Psi hf
  show Go _ _ _ _ _ 0 [(0, .ref h), (1, .int (nI s)), (2, .int (x)), (3, .int (v))] [] _ Psi
  refine go_aload_n (pc := 0) 0 0 rfl rfl eX_map_0 ?_
  refine go_iload_n (pc := 1) 1 1 rfl rfl eX_map_1 ?_
  refine go_rV0 (pc := 2) 0 (c_needSpace s hs hsp) okX_needSpace lmX_52 eX_map_2 rfl rfl rfl rfl rfl (Nat.le_of_ble_eq_true rfl) (Nat.le_of_ble_eq_true rfl) ?_
  refine go_aload_n (pc := 5) 0 0 rfl rfl eX_map_5 ?_
  refine go_iload_n (pc := 6) 2 2 rfl rfl eX_map_6 ?_
  exact go_tV (pc := 7) 0 (t_needPage x hx) okX_needPage lmX_67 eX_map_7 rfl rfl rfl rfl rfl (Nat.le_of_ble_eq_true rfl) (Nat.le_of_ble_eq_true rfl) (by omega) (by omega) hf
theorem narB (b : Bool) : narrow .boolean (.int (bI b)) = .int (bI b) := by cases b <;> rfl
set_option maxRecDepth 100000 in
set_option maxHeartbeats 1000000 in
theorem c_unmap (hF : F ≤ 60) (hfo : ∀ k j, fo k = some j → j < F) (s : Nat) (hs : s < 6) (hsp : sp (48 + s) = true) (p : Nat) (hp : p < 8) : Ret (gg D cI cB cL bb L xs) mX_unmap (n + 3) 0 0 [.ref h, .int (nI s), .int (nI p)] (xW cI cB h a1 a2 a3 a4 a5 F c fo sp pi rest) (some (.int (bI (fo (384 + s * 8 + p)).isSome))) (xW cI cB h a1 a2 a3 a4 a5 F c (va_up fo (384 + s * 8 + p) none) sp pi rest) := by
  intro Psi hf
  show Go _ _ _ _ _ 0 [(0, .ref h), (1, .int (nI s)), (2, .int (nI p))] [] _ Psi
  refine go_aload_n (pc := 0) 0 0 rfl rfl eX_unmap_0 ?_
  refine go_iload_n (pc := 1) 1 1 rfl rfl eX_unmap_1 ?_
  refine go_rV0 (pc := 2) 0 (c_needSpace s hs hsp) okX_needSpace lmX_52 eX_unmap_2 rfl rfl rfl rfl rfl (Nat.le_of_ble_eq_true rfl) (Nat.le_of_ble_eq_true rfl) ?_
  refine go_aload_n (pc := 5) 0 0 rfl rfl eX_unmap_5 ?_
  refine go_iload_n (pc := 6) 2 2 rfl rfl eX_unmap_6 ?_
  refine go_rV0 (pc := 7) 0 (c_needPage p hp) okX_needPage lmX_67 eX_unmap_7 rfl rfl rfl rfl rfl (Nat.le_of_ble_eq_true rfl) (Nat.le_of_ble_eq_true rfl) ?_
  refine go_iload_n (pc := 10) 1 1 rfl rfl eX_unmap_10 ?_
  refine go_iload_n (pc := 11) 2 2 rfl rfl eX_unmap_11 ?_
  refine go_rS (pc := 12) (c_pageNow s p) okX_pageNow lmX_56 eX_unmap_12 rfl rfl (Nat.le_of_ble_eq_true rfl) (Nat.le_of_ble_eq_true rfl) ?_
  refine go_istore_n (pc := 15) (ls' := [(3, _), (0, _), (1, _), (2, _)]) 3 rfl (by decide) eX_unmap_15 rfl ?_
  refine go_aload_n (pc := 16) 0 1 rfl rfl eX_unmap_16 ?_
  refine go_aload_n (pc := 17) 0 1 rfl rfl eX_unmap_17 ?_
  refine go_get (pc := 18) hwX 0 rfl rfl 3 (by decide) lkX_29 rfl eX_unmap_18 ?_
  refine go_iload_n (pc := 21) 3 0 rfl rfl eX_unmap_21 ?_
  refine go_ialdN (pc := 22) 3 0 (384 + s * 8 + p) eX_unmap_22 rfl rfl (rfl) (by omega) (by omega) ?_
  refine go_rV (pc := 23) 0 (c_isFrame hF _ (hfo _)) okX_isFrame lmX_70 eX_unmap_23 rfl rfl rfl rfl rfl (Nat.le_of_ble_eq_true rfl) (Nat.le_of_ble_eq_true rfl) ?_
  refine go_istore (pc := 26) (ls' := [(4, _), (3, _), (0, _), (1, _), (2, _)]) 4 (by decide) eX_unmap_26 rfl ?_
  refine go_aload_n (pc := 28) 0 2 rfl rfl eX_unmap_28 ?_
  refine go_iload_n (pc := 29) 3 1 rfl rfl eX_unmap_29 ?_
  refine go_iconst (pc := 30) (v := (-1)) (by decide) eX_unmap_30 ?_
  refine go_rV0 (pc := 31) 0 (c_standIn hF hfo (384 + s * 8 + p) (by omega) none (fun _ z => by cases z)) okX_standIn lmX_59 eX_unmap_31 rfl rfl rfl rfl rfl (Nat.le_of_ble_eq_true rfl) (Nat.le_of_ble_eq_true rfl) ?_
  refine go_iload (pc := 34) 4 0 rfl eX_unmap_34 ?_
  exact go_iret (pc := 36) rfl (narB _) eX_unmap_36 hf
set_option maxRecDepth 100000 in
set_option maxHeartbeats 1000000 in
theorem t_unmap1 (x : Int32) (hx : ∀ j, j < 6 → x = nI j → sp (48 + j) = false) (u : Int32) : Thr (gg D cI cB cL bb L xs) mX_unmap (n + 3) 1 6 [.ref h, .int (x), .int (u)] (xW cI cB h a1 a2 a3 a4 a5 F c fo sp pi rest) "java/util/NoSuchElementException" := by
  intro Psi hf
  show Go _ _ _ _ _ 0 [(0, .ref h), (1, .int (x)), (2, .int (u))] [] _ Psi
  refine go_aload_n (pc := 0) 0 0 rfl rfl eX_unmap_0 ?_
  refine go_iload_n (pc := 1) 1 1 rfl rfl eX_unmap_1 ?_
  exact go_tV (pc := 2) 0 (t_needSpace x hx) okX_needSpace lmX_52 eX_unmap_2 rfl rfl rfl rfl rfl (Nat.le_of_ble_eq_true rfl) (Nat.le_of_ble_eq_true rfl) (by omega) (by omega) hf
set_option maxRecDepth 100000 in
set_option maxHeartbeats 1000000 in
theorem t_unmap2 (s : Nat) (hs : s < 6) (hsp : sp (48 + s) = true) (x : Int32) (hx : ∀ j, j < 8 → x ≠ nI j) : Thr (gg D cI cB cL bb L xs) mX_unmap (n + 3) 1 6 [.ref h, .int (nI s), .int (x)] (xW cI cB h a1 a2 a3 a4 a5 F c fo sp pi rest) "java/lang/IndexOutOfBoundsException" := by
  intro Psi hf
  show Go _ _ _ _ _ 0 [(0, .ref h), (1, .int (nI s)), (2, .int (x))] [] _ Psi
  refine go_aload_n (pc := 0) 0 0 rfl rfl eX_unmap_0 ?_
  refine go_iload_n (pc := 1) 1 1 rfl rfl eX_unmap_1 ?_
  refine go_rV0 (pc := 2) 0 (c_needSpace s hs hsp) okX_needSpace lmX_52 eX_unmap_2 rfl rfl rfl rfl rfl (Nat.le_of_ble_eq_true rfl) (Nat.le_of_ble_eq_true rfl) ?_
  refine go_aload_n (pc := 5) 0 0 rfl rfl eX_unmap_5 ?_
  refine go_iload_n (pc := 6) 2 2 rfl rfl eX_unmap_6 ?_
  exact go_tV (pc := 7) 0 (t_needPage x hx) okX_needPage lmX_67 eX_unmap_7 rfl rfl rfl rfl rfl (Nat.le_of_ble_eq_true rfl) (Nat.le_of_ble_eq_true rfl) (by omega) (by omega) hf
set_option maxRecDepth 100000 in
set_option maxHeartbeats 1000000 in
theorem c_read (hF : F ≤ 60) (hfo : ∀ k j, fo k = some j → j < F) (s : Nat) (hs : s < 6) (hsp : sp (48 + s) = true) (a : Nat) (ha : a < 128) (b : Nat) (hb : fo (384 + s * 8 + a / 16) = some b) : Ret (gg D cI cB cL bb L xs) mX_read (n + 4) 0 0 [.ref h, .int (nI s), .int (nI a)] (xW cI cB h a1 a2 a3 a4 a5 F c fo sp pi rest) (some (.int (c (b * 16 + a % 16)))) (xW cI cB h a1 a2 a3 a4 a5 F c fo sp pi rest) := by
  intro Psi hf
  show Go _ _ _ _ _ 0 [(0, .ref h), (1, .int (nI s)), (2, .int (nI a))] [] _ Psi
  refine go_aload_n (pc := 0) 0 0 rfl rfl eX_read_0 ?_
  refine go_get (pc := 1) hwX 0 rfl rfl 3 (by decide) lkX_29 rfl eX_read_1 ?_
  refine go_aload_n (pc := 4) 0 0 rfl rfl eX_read_4 ?_
  refine go_iload_n (pc := 5) 1 1 rfl rfl eX_read_5 ?_
  refine go_iload_n (pc := 6) 2 2 rfl rfl eX_read_6 ?_
  refine go_rV (pc := 7) 0 (c_nha hF hfo s hs hsp a ha (by rw [hb]; rfl)) okX_needHolderAt lmX_80 eX_read_7 rfl rfl rfl rfl rfl (Nat.le_of_ble_eq_true rfl) (Nat.le_of_ble_eq_true rfl) ?_
  refine go_ialdN (pc := 10) 3 0 (384 + s * 8 + a / 16) eX_read_10 rfl rfl (rfl) (by omega) (by omega) ?_
  rw [hb]
  have hbF := hfo _ _ hb
  refine go_istore_n (pc := 11) (ls' := [(3, _), (0, _), (1, _), (2, _)]) 3 rfl (by decide) eX_read_11 rfl ?_
  refine go_aload_n (pc := 12) 0 1 rfl rfl eX_read_12 ?_
  refine go_get (pc := 13) hwX 0 rfl rfl 1 (by decide) lkX_22 rfl eX_read_13 ?_
  refine go_iload_n (pc := 16) 3 0 rfl rfl eX_read_16 ?_
  refine go_iload_n (pc := 17) 2 3 rfl rfl eX_read_17 ?_
  refine go_rS (pc := 18) (c_cellIndex b a ha) okX_cellIndex lmX_83 eX_read_18 rfl rfl (Nat.le_of_ble_eq_true rfl) (Nat.le_of_ble_eq_true rfl) ?_
  refine go_ialdN (pc := 21) 1 0 (b * 16 + a % 16) eX_read_21 rfl rfl (rfl) (by omega) (by omega) ?_
  exact go_iret (pc := 22) rfl rfl eX_read_22 (hf)
set_option maxRecDepth 100000 in
set_option maxHeartbeats 1000000 in
theorem t_read1 (y x : Int32) (hx : ∀ j, j < 128 → x ≠ nI j) : Thr (gg D cI cB cL bb L xs) mX_read (n + 4) 1 6 [.ref h, .int (y), .int (x)] (xW cI cB h a1 a2 a3 a4 a5 F c fo sp pi rest) "java/lang/IndexOutOfBoundsException" := by
  intro Psi hf
  show Go _ _ _ _ _ 0 [(0, .ref h), (1, .int (y)), (2, .int (x))] [] _ Psi
  refine go_aload_n (pc := 0) 0 0 rfl rfl eX_read_0 ?_
  refine go_get (pc := 1) hwX 0 rfl rfl 3 (by decide) lkX_29 rfl eX_read_1 ?_
  refine go_aload_n (pc := 4) 0 0 rfl rfl eX_read_4 ?_
  refine go_iload_n (pc := 5) 1 1 rfl rfl eX_read_5 ?_
  refine go_iload_n (pc := 6) 2 2 rfl rfl eX_read_6 ?_
  exact go_tV (pc := 7) 0 (t_nha1 y x hx) okX_needHolderAt lmX_80 eX_read_7 rfl rfl rfl rfl rfl (Nat.le_of_ble_eq_true rfl) (Nat.le_of_ble_eq_true rfl) (by omega) (by omega) hf
set_option maxRecDepth 100000 in
set_option maxHeartbeats 1000000 in
theorem t_write1 (y x : Int32) (hx : ∀ j, j < 128 → x ≠ nI j) (v : Int32) : Thr (gg D cI cB cL bb L xs) mX_write (n + 4) 1 6 [.ref h, .int (y), .int (x), .int (v)] (xW cI cB h a1 a2 a3 a4 a5 F c fo sp pi rest) "java/lang/IndexOutOfBoundsException" := by
  intro Psi hf
  show Go _ _ _ _ _ 0 [(0, .ref h), (1, .int (y)), (2, .int (x)), (3, .int (v))] [] _ Psi
  refine go_aload_n (pc := 0) 0 0 rfl rfl eX_write_0 ?_
  refine go_aload_n (pc := 1) 0 0 rfl rfl eX_write_1 ?_
  refine go_iload_n (pc := 2) 1 1 rfl rfl eX_write_2 ?_
  refine go_iload_n (pc := 3) 2 2 rfl rfl eX_write_3 ?_
  exact go_tV (pc := 4) 0 (t_nha1 y x hx) okX_needHolderAt lmX_80 eX_write_4 rfl rfl rfl rfl rfl (Nat.le_of_ble_eq_true rfl) (Nat.le_of_ble_eq_true rfl) (by omega) (by omega) hf
set_option maxRecDepth 100000 in
set_option maxHeartbeats 1000000 in
theorem t_read2 (x : Int32) (hx : ∀ j, j < 6 → x = nI j → sp (48 + j) = false) (a : Nat) (ha : a < 128) : Thr (gg D cI cB cL bb L xs) mX_read (n + 4) 1 6 [.ref h, .int (x), .int (nI a)] (xW cI cB h a1 a2 a3 a4 a5 F c fo sp pi rest) "java/util/NoSuchElementException" := by
  intro Psi hf
  show Go _ _ _ _ _ 0 [(0, .ref h), (1, .int (x)), (2, .int (nI a))] [] _ Psi
  refine go_aload_n (pc := 0) 0 0 rfl rfl eX_read_0 ?_
  refine go_get (pc := 1) hwX 0 rfl rfl 3 (by decide) lkX_29 rfl eX_read_1 ?_
  refine go_aload_n (pc := 4) 0 0 rfl rfl eX_read_4 ?_
  refine go_iload_n (pc := 5) 1 1 rfl rfl eX_read_5 ?_
  refine go_iload_n (pc := 6) 2 2 rfl rfl eX_read_6 ?_
  exact go_tV (pc := 7) 0 (t_nha2 x hx a ha) okX_needHolderAt lmX_80 eX_read_7 rfl rfl rfl rfl rfl (Nat.le_of_ble_eq_true rfl) (Nat.le_of_ble_eq_true rfl) (by omega) (by omega) hf
set_option maxRecDepth 100000 in
set_option maxHeartbeats 1000000 in
theorem t_write2 (x : Int32) (hx : ∀ j, j < 6 → x = nI j → sp (48 + j) = false) (a : Nat) (ha : a < 128) (v : Int32) : Thr (gg D cI cB cL bb L xs) mX_write (n + 4) 1 6 [.ref h, .int (x), .int (nI a), .int (v)] (xW cI cB h a1 a2 a3 a4 a5 F c fo sp pi rest) "java/util/NoSuchElementException" := by
  intro Psi hf
  show Go _ _ _ _ _ 0 [(0, .ref h), (1, .int (x)), (2, .int (nI a)), (3, .int (v))] [] _ Psi
  refine go_aload_n (pc := 0) 0 0 rfl rfl eX_write_0 ?_
  refine go_aload_n (pc := 1) 0 0 rfl rfl eX_write_1 ?_
  refine go_iload_n (pc := 2) 1 1 rfl rfl eX_write_2 ?_
  refine go_iload_n (pc := 3) 2 2 rfl rfl eX_write_3 ?_
  exact go_tV (pc := 4) 0 (t_nha2 x hx a ha) okX_needHolderAt lmX_80 eX_write_4 rfl rfl rfl rfl rfl (Nat.le_of_ble_eq_true rfl) (Nat.le_of_ble_eq_true rfl) (by omega) (by omega) hf
set_option maxRecDepth 100000 in
set_option maxHeartbeats 1000000 in
theorem t_read3 (hF : F ≤ 60) (hfo : ∀ k j, fo k = some j → j < F) (s : Nat) (hs : s < 6) (hsp : sp (48 + s) = true) (a : Nat) (ha : a < 128) (hfr : (fo (384 + s * 8 + a / 16)).isSome = false) : Thr (gg D cI cB cL bb L xs) mX_read (n + 4) 1 6 [.ref h, .int (nI s), .int (nI a)] (xW cI cB h a1 a2 a3 a4 a5 F c fo sp pi rest) "java/util/NoSuchElementException" := by
  intro Psi hf
  show Go _ _ _ _ _ 0 [(0, .ref h), (1, .int (nI s)), (2, .int (nI a))] [] _ Psi
  refine go_aload_n (pc := 0) 0 0 rfl rfl eX_read_0 ?_
  refine go_get (pc := 1) hwX 0 rfl rfl 3 (by decide) lkX_29 rfl eX_read_1 ?_
  refine go_aload_n (pc := 4) 0 0 rfl rfl eX_read_4 ?_
  refine go_iload_n (pc := 5) 1 1 rfl rfl eX_read_5 ?_
  refine go_iload_n (pc := 6) 2 2 rfl rfl eX_read_6 ?_
  exact go_tV (pc := 7) 0 (t_nha3 hF hfo s hs hsp a ha hfr) okX_needHolderAt lmX_80 eX_read_7 rfl rfl rfl rfl rfl (Nat.le_of_ble_eq_true rfl) (Nat.le_of_ble_eq_true rfl) (by omega) (by omega) hf
set_option maxRecDepth 100000 in
set_option maxHeartbeats 1000000 in
theorem t_write3 (hF : F ≤ 60) (hfo : ∀ k j, fo k = some j → j < F) (s : Nat) (hs : s < 6) (hsp : sp (48 + s) = true) (a : Nat) (ha : a < 128) (hfr : (fo (384 + s * 8 + a / 16)).isSome = false) (v : Int32) : Thr (gg D cI cB cL bb L xs) mX_write (n + 4) 1 6 [.ref h, .int (nI s), .int (nI a), .int (v)] (xW cI cB h a1 a2 a3 a4 a5 F c fo sp pi rest) "java/util/NoSuchElementException" := by
  intro Psi hf
  show Go _ _ _ _ _ 0 [(0, .ref h), (1, .int (nI s)), (2, .int (nI a)), (3, .int (v))] [] _ Psi
  refine go_aload_n (pc := 0) 0 0 rfl rfl eX_write_0 ?_
  refine go_aload_n (pc := 1) 0 0 rfl rfl eX_write_1 ?_
  refine go_iload_n (pc := 2) 1 1 rfl rfl eX_write_2 ?_
  refine go_iload_n (pc := 3) 2 2 rfl rfl eX_write_3 ?_
  exact go_tV (pc := 4) 0 (t_nha3 hF hfo s hs hsp a ha hfr) okX_needHolderAt lmX_80 eX_write_4 rfl rfl rfl rfl rfl (Nat.le_of_ble_eq_true rfl) (Nat.le_of_ble_eq_true rfl) (by omega) (by omega) hf
set_option maxRecDepth 100000 in
set_option maxHeartbeats 1000000 in
theorem c_write1 (hF : F ≤ 60) (hfo : ∀ k j, fo k = some j → j < F) (s : Nat) (hs : s < 6) (hsp : sp (48 + s) = true) (a : Nat) (ha : a < 128) (b : Nat) (hb : fo (384 + s * 8 + a / 16) = some b) (v : Int32) (h1 : hcnt fo b = 1) : Ret (gg D cI cB cL bb L xs) mX_write (n + 4) 0 0 [.ref h, .int (nI s), .int (nI a), .int (v)] (xW cI cB h a1 a2 a3 a4 a5 F c fo sp pi rest) (some (.int (c (b * 16 + a % 16)))) (xW cI cB h a1 a2 a3 a4 a5 F (va_up c (b * 16 + a % 16) v) fo sp pi rest) := by
  intro Psi hf
  show Go _ _ _ _ _ 0 [(0, .ref h), (1, .int (nI s)), (2, .int (nI a)), (3, .int (v))] [] _ Psi
  refine go_aload_n (pc := 0) 0 0 rfl rfl eX_write_0 ?_
  refine go_aload_n (pc := 1) 0 0 rfl rfl eX_write_1 ?_
  refine go_iload_n (pc := 2) 1 1 rfl rfl eX_write_2 ?_
  refine go_iload_n (pc := 3) 2 2 rfl rfl eX_write_3 ?_
  refine go_rV (pc := 4) 0 (c_nha hF hfo s hs hsp a ha (by rw [hb]; rfl)) okX_needHolderAt lmX_80 eX_write_4 rfl rfl rfl rfl rfl (Nat.le_of_ble_eq_true rfl) (Nat.le_of_ble_eq_true rfl) ?_
  refine go_rV (pc := 7) 0 (c_own1 hF hfo (384 + s * 8 + a / 16) b (by omega) hb h1) okX_needOwnFrame lmX_86 eX_write_7 rfl rfl rfl rfl rfl (Nat.le_of_ble_eq_true rfl) (Nat.le_of_ble_eq_true rfl) ?_
  have hbF := hfo _ _ hb
  refine go_istore (pc := 10) (ls' := [(4, _), (0, _), (1, _), (2, _), (3, _)]) 4 (by decide) eX_write_10 rfl ?_
  refine go_iload (pc := 12) 4 0 rfl eX_write_12 ?_
  refine go_iload_n (pc := 14) 2 3 rfl rfl eX_write_14 ?_
  refine go_rS (pc := 15) (c_cellIndex b a ha) okX_cellIndex lmX_83 eX_write_15 rfl rfl (Nat.le_of_ble_eq_true rfl) (Nat.le_of_ble_eq_true rfl) ?_
  refine go_istore (pc := 18) (ls' := [(5, _), (4, _), (0, _), (1, _), (2, _), (3, _)]) 5 (by decide) eX_write_18 rfl ?_
  refine go_aload_n (pc := 20) 0 2 rfl rfl eX_write_20 ?_
  refine go_get (pc := 21) hwX 0 rfl rfl 1 (by decide) lkX_22 rfl eX_write_21 ?_
  refine go_iload (pc := 24) 5 0 rfl eX_write_24 ?_
  refine go_ialdN (pc := 26) 1 0 (b * 16 + a % 16) eX_write_26 rfl rfl (rfl) (by omega) (by omega) ?_
  refine go_istore (pc := 27) (ls' := [(6, _), (5, _), (4, _), (0, _), (1, _), (2, _), (3, _)]) 6 (by decide) eX_write_27 rfl ?_
  refine go_aload_n (pc := 29) 0 3 rfl rfl eX_write_29 ?_
  refine go_get (pc := 30) hwX 0 rfl rfl 1 (by decide) lkX_22 rfl eX_write_30 ?_
  refine go_iload (pc := 33) 5 1 rfl eX_write_33 ?_
  refine go_iload_n (pc := 35) 3 6 rfl rfl eX_write_35 ?_
  refine go_iastN (pc := 36) (es' := (xW cI cB h a1 a2 a3 a4 a5 F (va_up c (b * 16 + a % 16) v) fo sp pi rest)) 1 0 (b * 16 + a % 16) eX_write_36 rfl rfl rfl (by omega) (by omega) (xs1 (upd_up _ _ _)) ?_
  refine go_iload (pc := 37) 6 0 rfl eX_write_37 ?_
  exact go_iret (pc := 39) rfl rfl eX_write_39 (hf)
set_option maxRecDepth 100000 in
set_option maxHeartbeats 1000000 in
theorem c_write2 (hF : F ≤ 60) (hfo : ∀ k j, fo k = some j → j < F) (s : Nat) (hs : s < 6) (hsp : sp (48 + s) = true) (a : Nat) (ha : a < 128) (b : Nat) (hb : fo (384 + s * 8 + a / 16) = some b) (v : Int32) (h1 : hcnt fo b ≠ 1) (j : Nat) (hj : j < F) (hj0 : hcnt fo j = 0) (hlt : ∀ q, q < j → hcnt fo q ≠ 0) : Ret (gg D cI cB cL bb L xs) mX_write (n + 4) 0 0 [.ref h, .int (nI s), .int (nI a), .int (v)] (xW cI cB h a1 a2 a3 a4 a5 F c fo sp pi rest) (some (.int ((va_cpy c c (b * 16) (j * 16) 16) (j * 16 + a % 16)))) (xW cI cB h a1 a2 a3 a4 a5 F (va_up (va_cpy c c (b * 16) (j * 16) 16) (j * 16 + a % 16) v) (va_up fo (384 + s * 8 + a / 16) (some j)) sp pi rest) := by
  intro Psi hf
  show Go _ _ _ _ _ 0 [(0, .ref h), (1, .int (nI s)), (2, .int (nI a)), (3, .int (v))] [] _ Psi
  refine go_aload_n (pc := 0) 0 0 rfl rfl eX_write_0 ?_
  refine go_aload_n (pc := 1) 0 0 rfl rfl eX_write_1 ?_
  refine go_iload_n (pc := 2) 1 1 rfl rfl eX_write_2 ?_
  refine go_iload_n (pc := 3) 2 2 rfl rfl eX_write_3 ?_
  refine go_rV (pc := 4) 0 (c_nha hF hfo s hs hsp a ha (by rw [hb]; rfl)) okX_needHolderAt lmX_80 eX_write_4 rfl rfl rfl rfl rfl (Nat.le_of_ble_eq_true rfl) (Nat.le_of_ble_eq_true rfl) ?_
  refine go_rV (pc := 7) 0 (c_own2 hF hfo (384 + s * 8 + a / 16) b (by omega) hb h1 j hj hj0 hlt) okX_needOwnFrame lmX_86 eX_write_7 rfl rfl rfl rfl rfl (Nat.le_of_ble_eq_true rfl) (Nat.le_of_ble_eq_true rfl) ?_
  refine go_istore (pc := 10) (ls' := [(4, _), (0, _), (1, _), (2, _), (3, _)]) 4 (by decide) eX_write_10 rfl ?_
  refine go_iload (pc := 12) 4 0 rfl eX_write_12 ?_
  refine go_iload_n (pc := 14) 2 3 rfl rfl eX_write_14 ?_
  refine go_rS (pc := 15) (c_cellIndex j a ha) okX_cellIndex lmX_83 eX_write_15 rfl rfl (Nat.le_of_ble_eq_true rfl) (Nat.le_of_ble_eq_true rfl) ?_
  refine go_istore (pc := 18) (ls' := [(5, _), (4, _), (0, _), (1, _), (2, _), (3, _)]) 5 (by decide) eX_write_18 rfl ?_
  refine go_aload_n (pc := 20) 0 2 rfl rfl eX_write_20 ?_
  refine go_get (pc := 21) hwX 0 rfl rfl 1 (by decide) lkX_22 rfl eX_write_21 ?_
  refine go_iload (pc := 24) 5 0 rfl eX_write_24 ?_
  refine go_ialdN (pc := 26) 1 0 (j * 16 + a % 16) eX_write_26 rfl rfl (rfl) (by omega) (by omega) ?_
  refine go_istore (pc := 27) (ls' := [(6, _), (5, _), (4, _), (0, _), (1, _), (2, _), (3, _)]) 6 (by decide) eX_write_27 rfl ?_
  refine go_aload_n (pc := 29) 0 3 rfl rfl eX_write_29 ?_
  refine go_get (pc := 30) hwX 0 rfl rfl 1 (by decide) lkX_22 rfl eX_write_30 ?_
  refine go_iload (pc := 33) 5 1 rfl eX_write_33 ?_
  refine go_iload_n (pc := 35) 3 6 rfl rfl eX_write_35 ?_
  refine go_iastN (pc := 36) (es' := (xW cI cB h a1 a2 a3 a4 a5 F (va_up (va_cpy c c (b * 16) (j * 16) 16) (j * 16 + a % 16) v) (va_up fo (384 + s * 8 + a / 16) (some j)) sp pi rest)) 1 0 (j * 16 + a % 16) eX_write_36 rfl rfl rfl (by omega) (by omega) (xs1 (upd_up _ _ _)) ?_
  refine go_iload (pc := 37) 6 0 rfl eX_write_37 ?_
  exact go_iret (pc := 39) rfl rfl eX_write_39 (hf)
set_option maxRecDepth 100000 in
set_option maxHeartbeats 1000000 in
theorem t_write4 (hF : F ≤ 60) (hfo : ∀ k j, fo k = some j → j < F) (s : Nat) (hs : s < 6) (hsp : sp (48 + s) = true) (a : Nat) (ha : a < 128) (b : Nat) (hb : fo (384 + s * 8 + a / 16) = some b) (v : Int32) (h1 : hcnt fo b ≠ 1) (hlt : ∀ q, q < F → hcnt fo q ≠ 0) : Thr (gg D cI cB cL bb L xs) mX_write (n + 4) 1 6 [.ref h, .int (nI s), .int (nI a), .int (v)] (xW cI cB h a1 a2 a3 a4 a5 F c fo sp pi rest) "java/lang/IllegalStateException" := by
  intro Psi hf
  show Go _ _ _ _ _ 0 [(0, .ref h), (1, .int (nI s)), (2, .int (nI a)), (3, .int (v))] [] _ Psi
  refine go_aload_n (pc := 0) 0 0 rfl rfl eX_write_0 ?_
  refine go_aload_n (pc := 1) 0 0 rfl rfl eX_write_1 ?_
  refine go_iload_n (pc := 2) 1 1 rfl rfl eX_write_2 ?_
  refine go_iload_n (pc := 3) 2 2 rfl rfl eX_write_3 ?_
  refine go_rV (pc := 4) 0 (c_nha hF hfo s hs hsp a ha (by rw [hb]; rfl)) okX_needHolderAt lmX_80 eX_write_4 rfl rfl rfl rfl rfl (Nat.le_of_ble_eq_true rfl) (Nat.le_of_ble_eq_true rfl) ?_
  exact go_tV (pc := 7) 0 (t_own hF hfo (384 + s * 8 + a / 16) b (by omega) hb h1 hlt) okX_needOwnFrame lmX_86 eX_write_7 rfl rfl rfl rfl rfl (Nat.le_of_ble_eq_true rfl) (Nat.le_of_ble_eq_true rfl) (by omega) (by omega) hf
set_option maxRecDepth 100000 in
set_option maxHeartbeats 1000000 in
theorem c_lend (hF : F ≤ 60) (hfo : ∀ k j, fo k = some j → j < F) (s : Nat) (hs : s < 6) (hsp : sp (48 + s) = true) (t : Nat) (ht : t < 6) (htp : sp (48 + t) = true) (p q : Nat) (hp : p < 8) (hq : q < 8) : Ret (gg D cI cB cL bb L xs) mX_lend (n + 4) 0 0 [.ref h, .int (nI s), .int (nI p), .int (nI t), .int (nI q)] (xW cI cB h a1 a2 a3 a4 a5 F c fo sp pi rest) (some (.int (bI (decide (fo (384 + t * 8 + q) ≠ fo (384 + s * 8 + p)))))) (xW cI cB h a1 a2 a3 a4 a5 F c (va_up fo (384 + t * 8 + q) (fo (384 + s * 8 + p))) sp pi rest) := by
  intro Psi hf
  show Go _ _ _ _ _ 0 [(0, .ref h), (1, .int (nI s)), (2, .int (nI p)), (3, .int (nI t)), (4, .int (nI q))] [] _ Psi
  refine go_aload_n (pc := 0) 0 0 rfl rfl eX_lend_0 ?_
  refine go_iload_n (pc := 1) 1 1 rfl rfl eX_lend_1 ?_
  refine go_iload_n (pc := 2) 2 2 rfl rfl eX_lend_2 ?_
  refine go_iload_n (pc := 3) 3 3 rfl rfl eX_lend_3 ?_
  refine go_iload (pc := 4) 4 4 rfl eX_lend_4 ?_
  refine go_rV0 (pc := 6) 0 (c_needTwo s hs hsp t ht htp p q hp hq) okX_needTwoPages lmX_89 eX_lend_6 rfl rfl rfl rfl rfl (Nat.le_of_ble_eq_true rfl) (Nat.le_of_ble_eq_true rfl) ?_
  refine go_aload_n (pc := 9) 0 0 rfl rfl eX_lend_9 ?_
  refine go_get (pc := 10) hwX 0 rfl rfl 3 (by decide) lkX_29 rfl eX_lend_10 ?_
  refine go_iload_n (pc := 13) 1 1 rfl rfl eX_lend_13 ?_
  refine go_iload_n (pc := 14) 2 2 rfl rfl eX_lend_14 ?_
  refine go_rS (pc := 15) (c_pageNow s p) okX_pageNow lmX_56 eX_lend_15 rfl rfl (Nat.le_of_ble_eq_true rfl) (Nat.le_of_ble_eq_true rfl) ?_
  refine go_ialdN (pc := 18) 3 0 (384 + s * 8 + p) eX_lend_18 rfl rfl (rfl) (by omega) (by omega) ?_
  refine go_istore (pc := 19) (ls' := [(5, _), (0, _), (1, _), (2, _), (3, _), (4, _)]) 5 (by decide) eX_lend_19 rfl ?_
  refine go_iload_n (pc := 21) 3 4 rfl rfl eX_lend_21 ?_
  refine go_iload (pc := 22) 4 5 rfl eX_lend_22 ?_
  refine go_rS (pc := 24) (c_pageNow t q) okX_pageNow lmX_56 eX_lend_24 rfl rfl (Nat.le_of_ble_eq_true rfl) (Nat.le_of_ble_eq_true rfl) ?_
  refine go_istore (pc := 27) (ls' := [(6, _), (5, _), (0, _), (1, _), (2, _), (3, _), (4, _)]) 6 (by decide) eX_lend_27 rfl ?_
  refine go_aload_n (pc := 29) 0 2 rfl rfl eX_lend_29 ?_
  refine go_get (pc := 30) hwX 0 rfl rfl 3 (by decide) lkX_29 rfl eX_lend_30 ?_
  refine go_iload (pc := 33) 6 0 rfl eX_lend_33 ?_
  refine go_ialdN (pc := 35) 3 0 (384 + t * 8 + q) eX_lend_35 rfl rfl (rfl) (by omega) (by omega) ?_
  refine go_iload (pc := 36) 5 1 rfl eX_lend_36 ?_
  refine go_icmp_eq (pc := 38) 45 (by decide) eX_lend_38 (fun c38 => ?_) (fun c38 => ?_)
  · have hd : decide (fo (384 + t * 8 + q) ≠ fo (384 + s * 8 + p)) = false := decide_eq_false (fun z => z ((oI_inj (fun j y => by have := hfo _ _ y; omega) (fun j y => by have := hfo _ _ y; omega)).mp c38))
    rw [hd] at hf
    refine go_iconst (pc := 45) (v := 0) (by decide) eX_lend_45 ?_
    refine go_istore (pc := 46) (ls' := [(7, _), (6, _), (5, _), (0, _), (1, _), (2, _), (3, _), (4, _)]) 7 (by decide) eX_lend_46 rfl ?_
    refine go_aload_n (pc := 48) 0 3 rfl rfl eX_lend_48 ?_
    refine go_iload (pc := 49) 6 1 rfl eX_lend_49 ?_
    refine go_iload (pc := 51) 5 2 rfl eX_lend_51 ?_
    refine go_rV0 (pc := 53) 0 (c_standIn hF hfo (384 + t * 8 + q) (by omega) (fo (384 + s * 8 + p)) (hfo _)) okX_standIn lmX_59 eX_lend_53 rfl rfl rfl rfl rfl (Nat.le_of_ble_eq_true rfl) (Nat.le_of_ble_eq_true rfl) ?_
    refine go_iload (pc := 56) 7 0 rfl eX_lend_56 ?_
    exact go_iret (pc := 58) rfl rfl eX_lend_58 (hf)
  · have hd : decide (fo (384 + t * 8 + q) ≠ fo (384 + s * 8 + p)) = true := decide_eq_true (fun z => c38 (by rw [z]))
    rw [hd] at hf
    refine go_iconst (pc := 41) (v := 1) (by decide) eX_lend_41 ?_
    refine go_goto (pc := 42) 46 (by decide) eX_lend_42 ?_
    refine go_istore (pc := 46) (ls' := [(7, _), (6, _), (5, _), (0, _), (1, _), (2, _), (3, _), (4, _)]) 7 (by decide) eX_lend_46 rfl ?_
    refine go_aload_n (pc := 48) 0 3 rfl rfl eX_lend_48 ?_
    refine go_iload (pc := 49) 6 1 rfl eX_lend_49 ?_
    refine go_iload (pc := 51) 5 2 rfl eX_lend_51 ?_
    refine go_rV0 (pc := 53) 0 (c_standIn hF hfo (384 + t * 8 + q) (by omega) (fo (384 + s * 8 + p)) (hfo _)) okX_standIn lmX_59 eX_lend_53 rfl rfl rfl rfl rfl (Nat.le_of_ble_eq_true rfl) (Nat.le_of_ble_eq_true rfl) ?_
    refine go_iload (pc := 56) 7 0 rfl eX_lend_56 ?_
    exact go_iret (pc := 58) rfl rfl eX_lend_58 (hf)
set_option maxRecDepth 100000 in
set_option maxHeartbeats 1000000 in
theorem t_lend1 (x : Int32) (hx : ∀ j, j < 6 → x = nI j → sp (48 + j) = false) (y u v : Int32) : Thr (gg D cI cB cL bb L xs) mX_lend (n + 4) 1 6 [.ref h, .int (x), .int (u), .int (y), .int (v)] (xW cI cB h a1 a2 a3 a4 a5 F c fo sp pi rest) "java/util/NoSuchElementException" := by
  intro Psi hf
  show Go _ _ _ _ _ 0 [(0, .ref h), (1, .int (x)), (2, .int (u)), (3, .int (y)), (4, .int (v))] [] _ Psi
  refine go_aload_n (pc := 0) 0 0 rfl rfl eX_lend_0 ?_
  refine go_iload_n (pc := 1) 1 1 rfl rfl eX_lend_1 ?_
  refine go_iload_n (pc := 2) 2 2 rfl rfl eX_lend_2 ?_
  refine go_iload_n (pc := 3) 3 3 rfl rfl eX_lend_3 ?_
  refine go_iload (pc := 4) 4 4 rfl eX_lend_4 ?_
  exact go_tV (pc := 6) 0 (t_needTwo1 x hx y u v) okX_needTwoPages lmX_89 eX_lend_6 rfl rfl rfl rfl rfl (Nat.le_of_ble_eq_true rfl) (Nat.le_of_ble_eq_true rfl) (by omega) (by omega) hf
set_option maxRecDepth 100000 in
set_option maxHeartbeats 1000000 in
theorem t_lend2 (s : Nat) (hs : s < 6) (hsp : sp (48 + s) = true) (x : Int32) (hx : ∀ j, j < 6 → x = nI j → sp (48 + j) = false) (u v : Int32) : Thr (gg D cI cB cL bb L xs) mX_lend (n + 4) 1 6 [.ref h, .int (nI s), .int (u), .int (x), .int (v)] (xW cI cB h a1 a2 a3 a4 a5 F c fo sp pi rest) "java/util/NoSuchElementException" := by
  intro Psi hf
  show Go _ _ _ _ _ 0 [(0, .ref h), (1, .int (nI s)), (2, .int (u)), (3, .int (x)), (4, .int (v))] [] _ Psi
  refine go_aload_n (pc := 0) 0 0 rfl rfl eX_lend_0 ?_
  refine go_iload_n (pc := 1) 1 1 rfl rfl eX_lend_1 ?_
  refine go_iload_n (pc := 2) 2 2 rfl rfl eX_lend_2 ?_
  refine go_iload_n (pc := 3) 3 3 rfl rfl eX_lend_3 ?_
  refine go_iload (pc := 4) 4 4 rfl eX_lend_4 ?_
  exact go_tV (pc := 6) 0 (t_needTwo2 s hs hsp x hx u v) okX_needTwoPages lmX_89 eX_lend_6 rfl rfl rfl rfl rfl (Nat.le_of_ble_eq_true rfl) (Nat.le_of_ble_eq_true rfl) (by omega) (by omega) hf
set_option maxRecDepth 100000 in
set_option maxHeartbeats 1000000 in
theorem t_lend3 (s : Nat) (hs : s < 6) (hsp : sp (48 + s) = true) (t : Nat) (ht : t < 6) (htp : sp (48 + t) = true) (x : Int32) (hx : ∀ j, j < 8 → x ≠ nI j) (v : Int32) : Thr (gg D cI cB cL bb L xs) mX_lend (n + 4) 1 6 [.ref h, .int (nI s), .int (x), .int (nI t), .int (v)] (xW cI cB h a1 a2 a3 a4 a5 F c fo sp pi rest) "java/lang/IndexOutOfBoundsException" := by
  intro Psi hf
  show Go _ _ _ _ _ 0 [(0, .ref h), (1, .int (nI s)), (2, .int (x)), (3, .int (nI t)), (4, .int (v))] [] _ Psi
  refine go_aload_n (pc := 0) 0 0 rfl rfl eX_lend_0 ?_
  refine go_iload_n (pc := 1) 1 1 rfl rfl eX_lend_1 ?_
  refine go_iload_n (pc := 2) 2 2 rfl rfl eX_lend_2 ?_
  refine go_iload_n (pc := 3) 3 3 rfl rfl eX_lend_3 ?_
  refine go_iload (pc := 4) 4 4 rfl eX_lend_4 ?_
  exact go_tV (pc := 6) 0 (t_needTwo3 s hs hsp t ht htp x hx v) okX_needTwoPages lmX_89 eX_lend_6 rfl rfl rfl rfl rfl (Nat.le_of_ble_eq_true rfl) (Nat.le_of_ble_eq_true rfl) (by omega) (by omega) hf
set_option maxRecDepth 100000 in
set_option maxHeartbeats 1000000 in
theorem t_lend4 (s : Nat) (hs : s < 6) (hsp : sp (48 + s) = true) (t : Nat) (ht : t < 6) (htp : sp (48 + t) = true) (p : Nat) (hp : p < 8) (x : Int32) (hx : ∀ j, j < 8 → x ≠ nI j) : Thr (gg D cI cB cL bb L xs) mX_lend (n + 4) 1 6 [.ref h, .int (nI s), .int (nI p), .int (nI t), .int (x)] (xW cI cB h a1 a2 a3 a4 a5 F c fo sp pi rest) "java/lang/IndexOutOfBoundsException" := by
  intro Psi hf
  show Go _ _ _ _ _ 0 [(0, .ref h), (1, .int (nI s)), (2, .int (nI p)), (3, .int (nI t)), (4, .int (x))] [] _ Psi
  refine go_aload_n (pc := 0) 0 0 rfl rfl eX_lend_0 ?_
  refine go_iload_n (pc := 1) 1 1 rfl rfl eX_lend_1 ?_
  refine go_iload_n (pc := 2) 2 2 rfl rfl eX_lend_2 ?_
  refine go_iload_n (pc := 3) 3 3 rfl rfl eX_lend_3 ?_
  refine go_iload (pc := 4) 4 4 rfl eX_lend_4 ?_
  exact go_tV (pc := 6) 0 (t_needTwo4 s hs hsp t ht htp p hp x hx) okX_needTwoPages lmX_89 eX_lend_6 rfl rfl rfl rfl rfl (Nat.le_of_ble_eq_true rfl) (Nat.le_of_ble_eq_true rfl) (by omega) (by omega) hf
set_option maxRecDepth 100000 in
set_option maxHeartbeats 1000000 in
theorem t_join1 (x : Int32) (hx : ∀ j, j < 6 → x = nI j → sp (48 + j) = false) (y u v : Int32) : Thr (gg D cI cB cL bb L xs) mX_join (n + 4) 1 6 [.ref h, .int (x), .int (u), .int (y), .int (v)] (xW cI cB h a1 a2 a3 a4 a5 F c fo sp pi rest) "java/util/NoSuchElementException" := by
  intro Psi hf
  show Go _ _ _ _ _ 0 [(0, .ref h), (1, .int (x)), (2, .int (u)), (3, .int (y)), (4, .int (v))] [] _ Psi
  refine go_aload_n (pc := 0) 0 0 rfl rfl eX_join_0 ?_
  refine go_iload_n (pc := 1) 1 1 rfl rfl eX_join_1 ?_
  refine go_iload_n (pc := 2) 2 2 rfl rfl eX_join_2 ?_
  refine go_iload_n (pc := 3) 3 3 rfl rfl eX_join_3 ?_
  refine go_iload (pc := 4) 4 4 rfl eX_join_4 ?_
  exact go_tV (pc := 6) 0 (t_needTwo1 x hx y u v) okX_needTwoPages lmX_89 eX_join_6 rfl rfl rfl rfl rfl (Nat.le_of_ble_eq_true rfl) (Nat.le_of_ble_eq_true rfl) (by omega) (by omega) hf
set_option maxRecDepth 100000 in
set_option maxHeartbeats 1000000 in
theorem t_join2 (s : Nat) (hs : s < 6) (hsp : sp (48 + s) = true) (x : Int32) (hx : ∀ j, j < 6 → x = nI j → sp (48 + j) = false) (u v : Int32) : Thr (gg D cI cB cL bb L xs) mX_join (n + 4) 1 6 [.ref h, .int (nI s), .int (u), .int (x), .int (v)] (xW cI cB h a1 a2 a3 a4 a5 F c fo sp pi rest) "java/util/NoSuchElementException" := by
  intro Psi hf
  show Go _ _ _ _ _ 0 [(0, .ref h), (1, .int (nI s)), (2, .int (u)), (3, .int (x)), (4, .int (v))] [] _ Psi
  refine go_aload_n (pc := 0) 0 0 rfl rfl eX_join_0 ?_
  refine go_iload_n (pc := 1) 1 1 rfl rfl eX_join_1 ?_
  refine go_iload_n (pc := 2) 2 2 rfl rfl eX_join_2 ?_
  refine go_iload_n (pc := 3) 3 3 rfl rfl eX_join_3 ?_
  refine go_iload (pc := 4) 4 4 rfl eX_join_4 ?_
  exact go_tV (pc := 6) 0 (t_needTwo2 s hs hsp x hx u v) okX_needTwoPages lmX_89 eX_join_6 rfl rfl rfl rfl rfl (Nat.le_of_ble_eq_true rfl) (Nat.le_of_ble_eq_true rfl) (by omega) (by omega) hf
set_option maxRecDepth 100000 in
set_option maxHeartbeats 1000000 in
theorem t_join3 (s : Nat) (hs : s < 6) (hsp : sp (48 + s) = true) (t : Nat) (ht : t < 6) (htp : sp (48 + t) = true) (x : Int32) (hx : ∀ j, j < 8 → x ≠ nI j) (v : Int32) : Thr (gg D cI cB cL bb L xs) mX_join (n + 4) 1 6 [.ref h, .int (nI s), .int (x), .int (nI t), .int (v)] (xW cI cB h a1 a2 a3 a4 a5 F c fo sp pi rest) "java/lang/IndexOutOfBoundsException" := by
  intro Psi hf
  show Go _ _ _ _ _ 0 [(0, .ref h), (1, .int (nI s)), (2, .int (x)), (3, .int (nI t)), (4, .int (v))] [] _ Psi
  refine go_aload_n (pc := 0) 0 0 rfl rfl eX_join_0 ?_
  refine go_iload_n (pc := 1) 1 1 rfl rfl eX_join_1 ?_
  refine go_iload_n (pc := 2) 2 2 rfl rfl eX_join_2 ?_
  refine go_iload_n (pc := 3) 3 3 rfl rfl eX_join_3 ?_
  refine go_iload (pc := 4) 4 4 rfl eX_join_4 ?_
  exact go_tV (pc := 6) 0 (t_needTwo3 s hs hsp t ht htp x hx v) okX_needTwoPages lmX_89 eX_join_6 rfl rfl rfl rfl rfl (Nat.le_of_ble_eq_true rfl) (Nat.le_of_ble_eq_true rfl) (by omega) (by omega) hf
set_option maxRecDepth 100000 in
set_option maxHeartbeats 1000000 in
theorem t_join4 (s : Nat) (hs : s < 6) (hsp : sp (48 + s) = true) (t : Nat) (ht : t < 6) (htp : sp (48 + t) = true) (p : Nat) (hp : p < 8) (x : Int32) (hx : ∀ j, j < 8 → x ≠ nI j) : Thr (gg D cI cB cL bb L xs) mX_join (n + 4) 1 6 [.ref h, .int (nI s), .int (nI p), .int (nI t), .int (x)] (xW cI cB h a1 a2 a3 a4 a5 F c fo sp pi rest) "java/lang/IndexOutOfBoundsException" := by
  intro Psi hf
  show Go _ _ _ _ _ 0 [(0, .ref h), (1, .int (nI s)), (2, .int (nI p)), (3, .int (nI t)), (4, .int (x))] [] _ Psi
  refine go_aload_n (pc := 0) 0 0 rfl rfl eX_join_0 ?_
  refine go_iload_n (pc := 1) 1 1 rfl rfl eX_join_1 ?_
  refine go_iload_n (pc := 2) 2 2 rfl rfl eX_join_2 ?_
  refine go_iload_n (pc := 3) 3 3 rfl rfl eX_join_3 ?_
  refine go_iload (pc := 4) 4 4 rfl eX_join_4 ?_
  exact go_tV (pc := 6) 0 (t_needTwo4 s hs hsp t ht htp p hp x hx) okX_needTwoPages lmX_89 eX_join_6 rfl rfl rfl rfl rfl (Nat.le_of_ble_eq_true rfl) (Nat.le_of_ble_eq_true rfl) (by omega) (by omega) hf
set_option maxRecDepth 100000 in
set_option maxHeartbeats 1000000 in
theorem c_join0a (hF : F ≤ 60) (hfo : ∀ k j, fo k = some j → j < F) (s : Nat) (hs : s < 6) (hsp : sp (48 + s) = true) (t : Nat) (ht : t < 6) (htp : sp (48 + t) = true) (p q : Nat) (hp : p < 8) (hq : q < 8) (h0 : fo (384 + s * 8 + p) = fo (384 + t * 8 + q)) : Ret (gg D cI cB cL bb L xs) mX_join (n + 4) 0 0 [.ref h, .int (nI s), .int (nI p), .int (nI t), .int (nI q)] (xW cI cB h a1 a2 a3 a4 a5 F c fo sp pi rest) (some (.int (0))) (xW cI cB h a1 a2 a3 a4 a5 F c fo sp pi rest) := by
  intro Psi hf
  show Go _ _ _ _ _ 0 [(0, .ref h), (1, .int (nI s)), (2, .int (nI p)), (3, .int (nI t)), (4, .int (nI q))] [] _ Psi
  refine go_aload_n (pc := 0) 0 0 rfl rfl eX_join_0 ?_
  refine go_iload_n (pc := 1) 1 1 rfl rfl eX_join_1 ?_
  refine go_iload_n (pc := 2) 2 2 rfl rfl eX_join_2 ?_
  refine go_iload_n (pc := 3) 3 3 rfl rfl eX_join_3 ?_
  refine go_iload (pc := 4) 4 4 rfl eX_join_4 ?_
  refine go_rV0 (pc := 6) 0 (c_needTwo s hs hsp t ht htp p q hp hq) okX_needTwoPages lmX_89 eX_join_6 rfl rfl rfl rfl rfl (Nat.le_of_ble_eq_true rfl) (Nat.le_of_ble_eq_true rfl) ?_
  refine go_aload_n (pc := 9) 0 0 rfl rfl eX_join_9 ?_
  refine go_get (pc := 10) hwX 0 rfl rfl 3 (by decide) lkX_29 rfl eX_join_10 ?_
  refine go_iload_n (pc := 13) 1 1 rfl rfl eX_join_13 ?_
  refine go_iload_n (pc := 14) 2 2 rfl rfl eX_join_14 ?_
  refine go_rS (pc := 15) (c_pageNow s p) okX_pageNow lmX_56 eX_join_15 rfl rfl (Nat.le_of_ble_eq_true rfl) (Nat.le_of_ble_eq_true rfl) ?_
  refine go_ialdN (pc := 18) 3 0 (384 + s * 8 + p) eX_join_18 rfl rfl (rfl) (by omega) (by omega) ?_
  refine go_istore (pc := 19) (ls' := [(5, _), (0, _), (1, _), (2, _), (3, _), (4, _)]) 5 (by decide) eX_join_19 rfl ?_
  refine go_aload_n (pc := 21) 0 1 rfl rfl eX_join_21 ?_
  refine go_get (pc := 22) hwX 0 rfl rfl 3 (by decide) lkX_29 rfl eX_join_22 ?_
  refine go_iload_n (pc := 25) 3 4 rfl rfl eX_join_25 ?_
  refine go_iload (pc := 26) 4 5 rfl eX_join_26 ?_
  refine go_rS (pc := 28) (c_pageNow t q) okX_pageNow lmX_56 eX_join_28 rfl rfl (Nat.le_of_ble_eq_true rfl) (Nat.le_of_ble_eq_true rfl) ?_
  refine go_ialdN (pc := 31) 3 0 (384 + t * 8 + q) eX_join_31 rfl rfl (rfl) (by omega) (by omega) ?_
  refine go_istore (pc := 32) (ls' := [(6, _), (5, _), (0, _), (1, _), (2, _), (3, _), (4, _)]) 6 (by decide) eX_join_32 rfl ?_
  refine go_iload (pc := 34) 5 1 rfl eX_join_34 ?_
  refine go_iload (pc := 36) 6 0 rfl eX_join_36 ?_
  refine go_icmp_eq (pc := 38) 70 (by decide) eX_join_38 (fun c38 => ?_) (fun c38 => ?_)
  · refine go_iconst (pc := 70) (v := 0) (by decide) eX_join_70 ?_
    exact go_iret (pc := 71) rfl rfl eX_join_71 (hf)
  · exact absurd (by rw [h0]) c38
set_option maxRecDepth 100000 in
set_option maxHeartbeats 1000000 in
theorem c_join0b (hF : F ≤ 60) (hfo : ∀ k j, fo k = some j → j < F) (s : Nat) (hs : s < 6) (hsp : sp (48 + s) = true) (t : Nat) (ht : t < 6) (htp : sp (48 + t) = true) (p q : Nat) (hp : p < 8) (hq : q < 8) (h0 : (fo (384 + s * 8 + p)).isSome = false) : Ret (gg D cI cB cL bb L xs) mX_join (n + 4) 0 0 [.ref h, .int (nI s), .int (nI p), .int (nI t), .int (nI q)] (xW cI cB h a1 a2 a3 a4 a5 F c fo sp pi rest) (some (.int (0))) (xW cI cB h a1 a2 a3 a4 a5 F c fo sp pi rest) := by
  intro Psi hf
  show Go _ _ _ _ _ 0 [(0, .ref h), (1, .int (nI s)), (2, .int (nI p)), (3, .int (nI t)), (4, .int (nI q))] [] _ Psi
  refine go_aload_n (pc := 0) 0 0 rfl rfl eX_join_0 ?_
  refine go_iload_n (pc := 1) 1 1 rfl rfl eX_join_1 ?_
  refine go_iload_n (pc := 2) 2 2 rfl rfl eX_join_2 ?_
  refine go_iload_n (pc := 3) 3 3 rfl rfl eX_join_3 ?_
  refine go_iload (pc := 4) 4 4 rfl eX_join_4 ?_
  refine go_rV0 (pc := 6) 0 (c_needTwo s hs hsp t ht htp p q hp hq) okX_needTwoPages lmX_89 eX_join_6 rfl rfl rfl rfl rfl (Nat.le_of_ble_eq_true rfl) (Nat.le_of_ble_eq_true rfl) ?_
  refine go_aload_n (pc := 9) 0 0 rfl rfl eX_join_9 ?_
  refine go_get (pc := 10) hwX 0 rfl rfl 3 (by decide) lkX_29 rfl eX_join_10 ?_
  refine go_iload_n (pc := 13) 1 1 rfl rfl eX_join_13 ?_
  refine go_iload_n (pc := 14) 2 2 rfl rfl eX_join_14 ?_
  refine go_rS (pc := 15) (c_pageNow s p) okX_pageNow lmX_56 eX_join_15 rfl rfl (Nat.le_of_ble_eq_true rfl) (Nat.le_of_ble_eq_true rfl) ?_
  refine go_ialdN (pc := 18) 3 0 (384 + s * 8 + p) eX_join_18 rfl rfl (rfl) (by omega) (by omega) ?_
  refine go_istore (pc := 19) (ls' := [(5, _), (0, _), (1, _), (2, _), (3, _), (4, _)]) 5 (by decide) eX_join_19 rfl ?_
  refine go_aload_n (pc := 21) 0 1 rfl rfl eX_join_21 ?_
  refine go_get (pc := 22) hwX 0 rfl rfl 3 (by decide) lkX_29 rfl eX_join_22 ?_
  refine go_iload_n (pc := 25) 3 4 rfl rfl eX_join_25 ?_
  refine go_iload (pc := 26) 4 5 rfl eX_join_26 ?_
  refine go_rS (pc := 28) (c_pageNow t q) okX_pageNow lmX_56 eX_join_28 rfl rfl (Nat.le_of_ble_eq_true rfl) (Nat.le_of_ble_eq_true rfl) ?_
  refine go_ialdN (pc := 31) 3 0 (384 + t * 8 + q) eX_join_31 rfl rfl (rfl) (by omega) (by omega) ?_
  refine go_istore (pc := 32) (ls' := [(6, _), (5, _), (0, _), (1, _), (2, _), (3, _), (4, _)]) 6 (by decide) eX_join_32 rfl ?_
  refine go_iload (pc := 34) 5 1 rfl eX_join_34 ?_
  refine go_iload (pc := 36) 6 0 rfl eX_join_36 ?_
  refine go_icmp_eq (pc := 38) 70 (by decide) eX_join_38 (fun c38 => ?_) (fun c38 => ?_)
  · refine go_iconst (pc := 70) (v := 0) (by decide) eX_join_70 ?_
    exact go_iret (pc := 71) rfl rfl eX_join_71 (hf)
  · refine go_aload_n (pc := 41) 0 2 rfl rfl eX_join_41 ?_
    refine go_iload (pc := 42) 5 1 rfl eX_join_42 ?_
    refine go_rV (pc := 44) 0 (c_isFrame hF _ (hfo _)) okX_isFrame lmX_70 eX_join_44 rfl rfl rfl rfl rfl (Nat.le_of_ble_eq_true rfl) (Nat.le_of_ble_eq_true rfl) ?_
    refine go_if_eq (pc := 47) 70 (by decide) eX_join_47 (fun c47 => ?_) (fun c47 => ?_)
    · refine go_iconst (pc := 70) (v := 0) (by decide) eX_join_70 ?_
      exact go_iret (pc := 71) rfl rfl eX_join_71 (hf)
    · exact absurd (bI0.mpr h0) c47
set_option maxRecDepth 100000 in
set_option maxHeartbeats 1000000 in
theorem c_join0c (hF : F ≤ 60) (hfo : ∀ k j, fo k = some j → j < F) (s : Nat) (hs : s < 6) (hsp : sp (48 + s) = true) (t : Nat) (ht : t < 6) (htp : sp (48 + t) = true) (p q : Nat) (hp : p < 8) (hq : q < 8) (h1 : (fo (384 + s * 8 + p)).isSome = true) (h0 : (fo (384 + t * 8 + q)).isSome = false) : Ret (gg D cI cB cL bb L xs) mX_join (n + 4) 0 0 [.ref h, .int (nI s), .int (nI p), .int (nI t), .int (nI q)] (xW cI cB h a1 a2 a3 a4 a5 F c fo sp pi rest) (some (.int (0))) (xW cI cB h a1 a2 a3 a4 a5 F c fo sp pi rest) := by
  intro Psi hf
  show Go _ _ _ _ _ 0 [(0, .ref h), (1, .int (nI s)), (2, .int (nI p)), (3, .int (nI t)), (4, .int (nI q))] [] _ Psi
  refine go_aload_n (pc := 0) 0 0 rfl rfl eX_join_0 ?_
  refine go_iload_n (pc := 1) 1 1 rfl rfl eX_join_1 ?_
  refine go_iload_n (pc := 2) 2 2 rfl rfl eX_join_2 ?_
  refine go_iload_n (pc := 3) 3 3 rfl rfl eX_join_3 ?_
  refine go_iload (pc := 4) 4 4 rfl eX_join_4 ?_
  refine go_rV0 (pc := 6) 0 (c_needTwo s hs hsp t ht htp p q hp hq) okX_needTwoPages lmX_89 eX_join_6 rfl rfl rfl rfl rfl (Nat.le_of_ble_eq_true rfl) (Nat.le_of_ble_eq_true rfl) ?_
  refine go_aload_n (pc := 9) 0 0 rfl rfl eX_join_9 ?_
  refine go_get (pc := 10) hwX 0 rfl rfl 3 (by decide) lkX_29 rfl eX_join_10 ?_
  refine go_iload_n (pc := 13) 1 1 rfl rfl eX_join_13 ?_
  refine go_iload_n (pc := 14) 2 2 rfl rfl eX_join_14 ?_
  refine go_rS (pc := 15) (c_pageNow s p) okX_pageNow lmX_56 eX_join_15 rfl rfl (Nat.le_of_ble_eq_true rfl) (Nat.le_of_ble_eq_true rfl) ?_
  refine go_ialdN (pc := 18) 3 0 (384 + s * 8 + p) eX_join_18 rfl rfl (rfl) (by omega) (by omega) ?_
  refine go_istore (pc := 19) (ls' := [(5, _), (0, _), (1, _), (2, _), (3, _), (4, _)]) 5 (by decide) eX_join_19 rfl ?_
  refine go_aload_n (pc := 21) 0 1 rfl rfl eX_join_21 ?_
  refine go_get (pc := 22) hwX 0 rfl rfl 3 (by decide) lkX_29 rfl eX_join_22 ?_
  refine go_iload_n (pc := 25) 3 4 rfl rfl eX_join_25 ?_
  refine go_iload (pc := 26) 4 5 rfl eX_join_26 ?_
  refine go_rS (pc := 28) (c_pageNow t q) okX_pageNow lmX_56 eX_join_28 rfl rfl (Nat.le_of_ble_eq_true rfl) (Nat.le_of_ble_eq_true rfl) ?_
  refine go_ialdN (pc := 31) 3 0 (384 + t * 8 + q) eX_join_31 rfl rfl (rfl) (by omega) (by omega) ?_
  refine go_istore (pc := 32) (ls' := [(6, _), (5, _), (0, _), (1, _), (2, _), (3, _), (4, _)]) 6 (by decide) eX_join_32 rfl ?_
  refine go_iload (pc := 34) 5 1 rfl eX_join_34 ?_
  refine go_iload (pc := 36) 6 0 rfl eX_join_36 ?_
  refine go_icmp_eq (pc := 38) 70 (by decide) eX_join_38 (fun c38 => ?_) (fun c38 => ?_)
  · refine go_iconst (pc := 70) (v := 0) (by decide) eX_join_70 ?_
    exact go_iret (pc := 71) rfl rfl eX_join_71 (hf)
  · refine go_aload_n (pc := 41) 0 2 rfl rfl eX_join_41 ?_
    refine go_iload (pc := 42) 5 1 rfl eX_join_42 ?_
    refine go_rV (pc := 44) 0 (c_isFrame hF _ (hfo _)) okX_isFrame lmX_70 eX_join_44 rfl rfl rfl rfl rfl (Nat.le_of_ble_eq_true rfl) (Nat.le_of_ble_eq_true rfl) ?_
    refine go_if_eq (pc := 47) 70 (by decide) eX_join_47 (fun c47 => ?_) (fun c47 => ?_)
    · exact absurd (bI0.mp c47) (by rw [h1]; decide)
    · refine go_aload_n (pc := 50) 0 2 rfl rfl eX_join_50 ?_
      refine go_iload (pc := 51) 6 0 rfl eX_join_51 ?_
      refine go_rV (pc := 53) 0 (c_isFrame hF _ (hfo _)) okX_isFrame lmX_70 eX_join_53 rfl rfl rfl rfl rfl (Nat.le_of_ble_eq_true rfl) (Nat.le_of_ble_eq_true rfl) ?_
      refine go_if_eq (pc := 56) 70 (by decide) eX_join_56 (fun c56 => ?_) (fun c56 => ?_)
      · refine go_iconst (pc := 70) (v := 0) (by decide) eX_join_70 ?_
        exact go_iret (pc := 71) rfl rfl eX_join_71 (hf)
      · exact absurd (bI0.mpr h0) c56
set_option maxRecDepth 100000 in
set_option maxHeartbeats 1000000 in
theorem c_join0d (hF : F ≤ 60) (hfo : ∀ k j, fo k = some j → j < F) (s : Nat) (hs : s < 6) (hsp : sp (48 + s) = true) (t : Nat) (ht : t < 6) (htp : sp (48 + t) = true) (p q : Nat) (hp : p < 8) (hq : q < 8) (b e : Nat) (hb : fo (384 + s * 8 + p) = some b) (he : fo (384 + t * 8 + q) = some e) (hbe : b ≠ e) (hne : ¬ (gcnt (fun q => decide (¬ c (b * 16 + q) = c (e * 16 + q))) 16 = 0)) : Ret (gg D cI cB cL bb L xs) mX_join (n + 4) 0 0 [.ref h, .int (nI s), .int (nI p), .int (nI t), .int (nI q)] (xW cI cB h a1 a2 a3 a4 a5 F c fo sp pi rest) (some (.int (0))) (xW cI cB h a1 a2 a3 a4 a5 F c fo sp pi rest) := by
  intro Psi hf
  show Go _ _ _ _ _ 0 [(0, .ref h), (1, .int (nI s)), (2, .int (nI p)), (3, .int (nI t)), (4, .int (nI q))] [] _ Psi
  refine go_aload_n (pc := 0) 0 0 rfl rfl eX_join_0 ?_
  refine go_iload_n (pc := 1) 1 1 rfl rfl eX_join_1 ?_
  refine go_iload_n (pc := 2) 2 2 rfl rfl eX_join_2 ?_
  refine go_iload_n (pc := 3) 3 3 rfl rfl eX_join_3 ?_
  refine go_iload (pc := 4) 4 4 rfl eX_join_4 ?_
  refine go_rV0 (pc := 6) 0 (c_needTwo s hs hsp t ht htp p q hp hq) okX_needTwoPages lmX_89 eX_join_6 rfl rfl rfl rfl rfl (Nat.le_of_ble_eq_true rfl) (Nat.le_of_ble_eq_true rfl) ?_
  refine go_aload_n (pc := 9) 0 0 rfl rfl eX_join_9 ?_
  refine go_get (pc := 10) hwX 0 rfl rfl 3 (by decide) lkX_29 rfl eX_join_10 ?_
  refine go_iload_n (pc := 13) 1 1 rfl rfl eX_join_13 ?_
  refine go_iload_n (pc := 14) 2 2 rfl rfl eX_join_14 ?_
  refine go_rS (pc := 15) (c_pageNow s p) okX_pageNow lmX_56 eX_join_15 rfl rfl (Nat.le_of_ble_eq_true rfl) (Nat.le_of_ble_eq_true rfl) ?_
  refine go_ialdN (pc := 18) 3 0 (384 + s * 8 + p) eX_join_18 rfl rfl (rfl) (by omega) (by omega) ?_
  refine go_istore (pc := 19) (ls' := [(5, _), (0, _), (1, _), (2, _), (3, _), (4, _)]) 5 (by decide) eX_join_19 rfl ?_
  refine go_aload_n (pc := 21) 0 1 rfl rfl eX_join_21 ?_
  refine go_get (pc := 22) hwX 0 rfl rfl 3 (by decide) lkX_29 rfl eX_join_22 ?_
  refine go_iload_n (pc := 25) 3 4 rfl rfl eX_join_25 ?_
  refine go_iload (pc := 26) 4 5 rfl eX_join_26 ?_
  refine go_rS (pc := 28) (c_pageNow t q) okX_pageNow lmX_56 eX_join_28 rfl rfl (Nat.le_of_ble_eq_true rfl) (Nat.le_of_ble_eq_true rfl) ?_
  refine go_ialdN (pc := 31) 3 0 (384 + t * 8 + q) eX_join_31 rfl rfl (rfl) (by omega) (by omega) ?_
  refine go_istore (pc := 32) (ls' := [(6, _), (5, _), (0, _), (1, _), (2, _), (3, _), (4, _)]) 6 (by decide) eX_join_32 rfl ?_
  rw [hb, he]
  refine go_iload (pc := 34) 5 1 rfl eX_join_34 ?_
  refine go_iload (pc := 36) 6 0 rfl eX_join_36 ?_
  refine go_icmp_eq (pc := 38) 70 (by decide) eX_join_38 (fun c38 => ?_) (fun c38 => ?_)
  · exact absurd ((nI_eq (by have := hfo _ _ hb; omega) (by have := hfo _ _ he; omega)).mp c38) hbe
  · refine go_aload_n (pc := 41) 0 2 rfl rfl eX_join_41 ?_
    refine go_iload (pc := 42) 5 1 rfl eX_join_42 ?_
    refine go_rV (pc := 44) 0 (c_isFrame1 hF b (hfo _ _ hb)) okX_isFrame lmX_70 eX_join_44 rfl rfl rfl rfl rfl (Nat.le_of_ble_eq_true rfl) (Nat.le_of_ble_eq_true rfl) ?_
    refine go_if_eq (pc := 47) 70 (by decide) eX_join_47 (fun c47 => ?_) (fun c47 => ?_)
    · exact absurd c47 (by decide)
    · refine go_aload_n (pc := 50) 0 2 rfl rfl eX_join_50 ?_
      refine go_iload (pc := 51) 6 0 rfl eX_join_51 ?_
      refine go_rV (pc := 53) 0 (c_isFrame1 hF e (hfo _ _ he)) okX_isFrame lmX_70 eX_join_53 rfl rfl rfl rfl rfl (Nat.le_of_ble_eq_true rfl) (Nat.le_of_ble_eq_true rfl) ?_
      refine go_if_eq (pc := 56) 70 (by decide) eX_join_56 (fun c56 => ?_) (fun c56 => ?_)
      · exact absurd c56 (by decide)
      · refine go_aload_n (pc := 59) 0 2 rfl rfl eX_join_59 ?_
        refine go_iload (pc := 60) 5 1 rfl eX_join_60 ?_
        refine go_iload (pc := 62) 6 0 rfl eX_join_62 ?_
        refine go_rV (pc := 64) 0 (c_same hF b e (hfo _ _ hb) (hfo _ _ he)) okX_haveSameCells lmX_93 eX_join_64 rfl rfl rfl rfl rfl (Nat.le_of_ble_eq_true rfl) (Nat.le_of_ble_eq_true rfl) ?_
        refine go_if_ne (pc := 67) 72 (by decide) eX_join_67 (fun c67 => ?_) (fun c67 => ?_)
        · exact absurd (bI0.mpr (decide_eq_false hne)) c67
        · refine go_iconst (pc := 70) (v := 0) (by decide) eX_join_70 ?_
          exact go_iret (pc := 71) rfl rfl eX_join_71 (hf)
set_option maxRecDepth 100000 in
set_option maxHeartbeats 1000000 in
theorem c_join1 (hF : F ≤ 60) (hfo : ∀ k j, fo k = some j → j < F) (s : Nat) (hs : s < 6) (hsp : sp (48 + s) = true) (t : Nat) (ht : t < 6) (htp : sp (48 + t) = true) (p q : Nat) (hp : p < 8) (hq : q < 8) (b e : Nat) (hb : fo (384 + s * 8 + p) = some b) (he : fo (384 + t * 8 + q) = some e) (hbe : b ≠ e) (heq : (gcnt (fun q => decide (¬ c (b * 16 + q) = c (e * 16 + q))) 16 = 0)) : Ret (gg D cI cB cL bb L xs) mX_join (n + 4) 0 0 [.ref h, .int (nI s), .int (nI p), .int (nI t), .int (nI q)] (xW cI cB h a1 a2 a3 a4 a5 F c fo sp pi rest) (some (.int (nI (hcnt fo e)))) (xW cI cB h a1 a2 a3 a4 a5 F c (mvf fo e b 432) sp pi rest) := by
  intro Psi hf
  show Go _ _ _ _ _ 0 [(0, .ref h), (1, .int (nI s)), (2, .int (nI p)), (3, .int (nI t)), (4, .int (nI q))] [] _ Psi
  refine go_aload_n (pc := 0) 0 0 rfl rfl eX_join_0 ?_
  refine go_iload_n (pc := 1) 1 1 rfl rfl eX_join_1 ?_
  refine go_iload_n (pc := 2) 2 2 rfl rfl eX_join_2 ?_
  refine go_iload_n (pc := 3) 3 3 rfl rfl eX_join_3 ?_
  refine go_iload (pc := 4) 4 4 rfl eX_join_4 ?_
  refine go_rV0 (pc := 6) 0 (c_needTwo s hs hsp t ht htp p q hp hq) okX_needTwoPages lmX_89 eX_join_6 rfl rfl rfl rfl rfl (Nat.le_of_ble_eq_true rfl) (Nat.le_of_ble_eq_true rfl) ?_
  refine go_aload_n (pc := 9) 0 0 rfl rfl eX_join_9 ?_
  refine go_get (pc := 10) hwX 0 rfl rfl 3 (by decide) lkX_29 rfl eX_join_10 ?_
  refine go_iload_n (pc := 13) 1 1 rfl rfl eX_join_13 ?_
  refine go_iload_n (pc := 14) 2 2 rfl rfl eX_join_14 ?_
  refine go_rS (pc := 15) (c_pageNow s p) okX_pageNow lmX_56 eX_join_15 rfl rfl (Nat.le_of_ble_eq_true rfl) (Nat.le_of_ble_eq_true rfl) ?_
  refine go_ialdN (pc := 18) 3 0 (384 + s * 8 + p) eX_join_18 rfl rfl (rfl) (by omega) (by omega) ?_
  refine go_istore (pc := 19) (ls' := [(5, _), (0, _), (1, _), (2, _), (3, _), (4, _)]) 5 (by decide) eX_join_19 rfl ?_
  refine go_aload_n (pc := 21) 0 1 rfl rfl eX_join_21 ?_
  refine go_get (pc := 22) hwX 0 rfl rfl 3 (by decide) lkX_29 rfl eX_join_22 ?_
  refine go_iload_n (pc := 25) 3 4 rfl rfl eX_join_25 ?_
  refine go_iload (pc := 26) 4 5 rfl eX_join_26 ?_
  refine go_rS (pc := 28) (c_pageNow t q) okX_pageNow lmX_56 eX_join_28 rfl rfl (Nat.le_of_ble_eq_true rfl) (Nat.le_of_ble_eq_true rfl) ?_
  refine go_ialdN (pc := 31) 3 0 (384 + t * 8 + q) eX_join_31 rfl rfl (rfl) (by omega) (by omega) ?_
  refine go_istore (pc := 32) (ls' := [(6, _), (5, _), (0, _), (1, _), (2, _), (3, _), (4, _)]) 6 (by decide) eX_join_32 rfl ?_
  rw [hb, he]
  refine go_iload (pc := 34) 5 1 rfl eX_join_34 ?_
  refine go_iload (pc := 36) 6 0 rfl eX_join_36 ?_
  refine go_icmp_eq (pc := 38) 70 (by decide) eX_join_38 (fun c38 => ?_) (fun c38 => ?_)
  · exact absurd ((nI_eq (by have := hfo _ _ hb; omega) (by have := hfo _ _ he; omega)).mp c38) hbe
  · refine go_aload_n (pc := 41) 0 2 rfl rfl eX_join_41 ?_
    refine go_iload (pc := 42) 5 1 rfl eX_join_42 ?_
    refine go_rV (pc := 44) 0 (c_isFrame1 hF b (hfo _ _ hb)) okX_isFrame lmX_70 eX_join_44 rfl rfl rfl rfl rfl (Nat.le_of_ble_eq_true rfl) (Nat.le_of_ble_eq_true rfl) ?_
    refine go_if_eq (pc := 47) 70 (by decide) eX_join_47 (fun c47 => ?_) (fun c47 => ?_)
    · exact absurd c47 (by decide)
    · refine go_aload_n (pc := 50) 0 2 rfl rfl eX_join_50 ?_
      refine go_iload (pc := 51) 6 0 rfl eX_join_51 ?_
      refine go_rV (pc := 53) 0 (c_isFrame1 hF e (hfo _ _ he)) okX_isFrame lmX_70 eX_join_53 rfl rfl rfl rfl rfl (Nat.le_of_ble_eq_true rfl) (Nat.le_of_ble_eq_true rfl) ?_
      refine go_if_eq (pc := 56) 70 (by decide) eX_join_56 (fun c56 => ?_) (fun c56 => ?_)
      · exact absurd c56 (by decide)
      · refine go_aload_n (pc := 59) 0 2 rfl rfl eX_join_59 ?_
        refine go_iload (pc := 60) 5 1 rfl eX_join_60 ?_
        refine go_iload (pc := 62) 6 0 rfl eX_join_62 ?_
        refine go_rV (pc := 64) 0 (c_same hF b e (hfo _ _ hb) (hfo _ _ he)) okX_haveSameCells lmX_93 eX_join_64 rfl rfl rfl rfl rfl (Nat.le_of_ble_eq_true rfl) (Nat.le_of_ble_eq_true rfl) ?_
        refine go_if_ne (pc := 67) 72 (by decide) eX_join_67 (fun c67 => ?_) (fun c67 => ?_)
        · refine go_aload_n (pc := 72) 0 2 rfl rfl eX_join_72 ?_
          refine go_get (pc := 73) hwX 0 rfl rfl 2 (by decide) lkX_26 rfl eX_join_73 ?_
          refine go_iload (pc := 76) 6 0 rfl eX_join_76 ?_
          refine go_ialdN (pc := 78) 2 0 (e) eX_join_78 rfl rfl (rfl) (hfo _ _ he) (by omega) ?_
          refine go_istore (pc := 79) (ls' := [(7, _), (6, _), (5, _), (0, _), (1, _), (2, _), (3, _), (4, _)]) 7 (by decide) eX_join_79 rfl ?_
          refine go_aload_n (pc := 81) 0 3 rfl rfl eX_join_81 ?_
          refine go_iload (pc := 82) 6 1 rfl eX_join_82 ?_
          refine go_iload (pc := 84) 5 2 rfl eX_join_84 ?_
          refine go_rV0 (pc := 86) 0 (c_mv hF hfo e b (hfo _ _ he) (hfo _ _ hb)) okX_moveHolders lmX_97 eX_join_86 rfl rfl rfl rfl rfl (Nat.le_of_ble_eq_true rfl) (Nat.le_of_ble_eq_true rfl) ?_
          refine go_iload (pc := 89) 7 0 rfl eX_join_89 ?_
          exact go_iret (pc := 91) rfl rfl eX_join_91 (hf)
        · exact absurd (bI0.mp c67) (by rw [decide_eq_true heq]; decide)
set_option maxRecDepth 100000 in
set_option maxHeartbeats 1000000 in
theorem c_take1 (hF : F ≤ 60) (hfo : ∀ k j, fo k = some j → j < F) (j : Nat) (hj : j < 8) (hj0 : pi j = false) (hlt : ∀ q, q < j → pi q = true) : Ret (gg D cI cB cL bb L xs) mX_take (n + 3) 0 0 [.ref h] (xW cI cB h a1 a2 a3 a4 a5 F c fo sp pi rest) (some (.int (nI j))) (xW cI cB h a1 a2 a3 a4 a5 F c (va_cpy fo fo (8 * 48) (j * 48) 48) (va_cpy sp sp (8 * 6) (j * 6) 6) (va_up pi j true) rest) := by
  intro Psi hf
  show Go _ _ _ _ _ 0 [(0, .ref h)] [] _ Psi
  refine go_aload_n (pc := 0) 0 0 rfl rfl eX_take_0 ?_
  refine go_rV (pc := 1) 0 (c_lmpA j hj hj0 hlt) okX_leastMissingPicture lmX_100 eX_take_1 rfl rfl rfl rfl rfl (Nat.le_of_ble_eq_true rfl) (Nat.le_of_ble_eq_true rfl) ?_
  refine go_istore_n (pc := 4) (ls' := [(1, _), (0, _)]) 1 rfl (by decide) eX_take_4 rfl ?_
  refine go_iload_n (pc := 5) 1 0 rfl rfl eX_take_5 ?_
  refine go_iconst (pc := 6) (v := (-1)) (by decide) eX_take_6 ?_
  refine go_icmp_eq (pc := 7) 24 (by decide) eX_take_7 (fun c7 => ?_) (fun c7 => ?_)
  · exact absurd c7 (nI_nm1 (by omega))
  · refine go_aload_n (pc := 10) 0 1 rfl rfl eX_take_10 ?_
    refine go_get (pc := 11) hwX 0 rfl rfl 5 (by decide) lkX_42 rfl eX_take_11 ?_
    refine go_iload_n (pc := 14) 1 0 rfl rfl eX_take_14 ?_
    refine go_iconst (pc := 15) (v := 1) (by decide) eX_take_15 ?_
    refine go_zastN (pc := 16) (es' := (xW cI cB h a1 a2 a3 a4 a5 F c fo sp (va_up pi j true) rest)) 5 1 j eX_take_16 rfl rfl rfl hj (by omega) (xs5 (upd_b (b := true) rfl)) ?_
    refine go_aload_n (pc := 17) 0 1 rfl rfl eX_take_17 ?_
    refine go_bipush (pc := 18) (v := 8) (by decide) eX_take_18 ?_
    refine go_iload_n (pc := 20) 1 0 rfl rfl eX_take_20 ?_
    refine go_rV0 (pc := 21) 0 (c_cr hF hfo 8 j (by omega) (by omega) (by omega)) okX_copyRow lmX_103 eX_take_21 rfl rfl rfl rfl rfl (Nat.le_of_ble_eq_true rfl) (Nat.le_of_ble_eq_true rfl) ?_
    refine go_iload_n (pc := 24) 1 0 rfl rfl eX_take_24 ?_
    exact go_iret (pc := 25) rfl rfl eX_take_25 (hf)
set_option maxRecDepth 100000 in
set_option maxHeartbeats 1000000 in
theorem c_take0 (hlt : ∀ q, q < 8 → pi q = true) : Ret (gg D cI cB cL bb L xs) mX_take (n + 3) 0 0 [.ref h] (xW cI cB h a1 a2 a3 a4 a5 F c fo sp pi rest) (some (.int (-1))) (xW cI cB h a1 a2 a3 a4 a5 F c fo sp pi rest) := by
  intro Psi hf
  show Go _ _ _ _ _ 0 [(0, .ref h)] [] _ Psi
  refine go_aload_n (pc := 0) 0 0 rfl rfl eX_take_0 ?_
  refine go_rV (pc := 1) 0 (c_lmpB hlt) okX_leastMissingPicture lmX_100 eX_take_1 rfl rfl rfl rfl rfl (Nat.le_of_ble_eq_true rfl) (Nat.le_of_ble_eq_true rfl) ?_
  refine go_istore_n (pc := 4) (ls' := [(1, _), (0, _)]) 1 rfl (by decide) eX_take_4 rfl ?_
  refine go_iload_n (pc := 5) 1 0 rfl rfl eX_take_5 ?_
  refine go_iconst (pc := 6) (v := (-1)) (by decide) eX_take_6 ?_
  refine go_icmp_eq (pc := 7) 24 (by decide) eX_take_7 (fun c7 => ?_) (fun c7 => ?_)
  · refine go_iload_n (pc := 24) 1 0 rfl rfl eX_take_24 ?_
    exact go_iret (pc := 25) rfl rfl eX_take_25 (hf)
  · exact absurd rfl c7
set_option maxRecDepth 100000 in
set_option maxHeartbeats 1000000 in
theorem c_back (hF : F ≤ 60) (hfo : ∀ k j, fo k = some j → j < F) (p : Nat) (hp : p < 8) (hpi : pi p = true) : Ret (gg D cI cB cL bb L xs) mX_back (n + 3) 0 0 [.ref h, .int (nI p)] (xW cI cB h a1 a2 a3 a4 a5 F c fo sp pi rest) (some (.int (nI (gcnt (fun s => (va_cpy sp sp (p * 6) (8 * 6) 6) (48 + s)) 6)))) (xW cI cB h a1 a2 a3 a4 a5 F c (va_cpy fo fo (p * 48) (8 * 48) 48) (va_cpy sp sp (p * 6) (8 * 6) 6) pi rest) := by
  intro Psi hf
  show Go _ _ _ _ _ 0 [(0, .ref h), (1, .int (nI p))] [] _ Psi
  refine go_aload_n (pc := 0) 0 0 rfl rfl eX_back_0 ?_
  refine go_iload_n (pc := 1) 1 1 rfl rfl eX_back_1 ?_
  refine go_rV0 (pc := 2) 0 (c_needPicture p hp hpi) okX_needPicture lmX_106 eX_back_2 rfl rfl rfl rfl rfl (Nat.le_of_ble_eq_true rfl) (Nat.le_of_ble_eq_true rfl) ?_
  refine go_aload_n (pc := 5) 0 0 rfl rfl eX_back_5 ?_
  refine go_iload_n (pc := 6) 1 1 rfl rfl eX_back_6 ?_
  refine go_bipush (pc := 7) (v := 8) (by decide) eX_back_7 ?_
  refine go_rV0 (pc := 9) 0 (c_cr hF hfo p 8 (by omega) (by omega) (by omega)) okX_copyRow lmX_103 eX_back_9 rfl rfl rfl rfl rfl (Nat.le_of_ble_eq_true rfl) (Nat.le_of_ble_eq_true rfl) ?_
  refine go_aload_n (pc := 12) 0 0 rfl rfl eX_back_12 ?_
  refine go_rV (pc := 13) 0 (c_spn) okX_spacesNow lmX_109 eX_back_13 rfl rfl rfl rfl rfl (Nat.le_of_ble_eq_true rfl) (Nat.le_of_ble_eq_true rfl) ?_
  exact go_iret (pc := 16) rfl rfl eX_back_16 (hf)
set_option maxRecDepth 100000 in
set_option maxHeartbeats 1000000 in
theorem t_back (x : Int32) (hx : ∀ j, j < 8 → x = nI j → pi j = false) : Thr (gg D cI cB cL bb L xs) mX_back (n + 3) 1 6 [.ref h, .int (x)] (xW cI cB h a1 a2 a3 a4 a5 F c fo sp pi rest) "java/util/NoSuchElementException" := by
  intro Psi hf
  show Go _ _ _ _ _ 0 [(0, .ref h), (1, .int (x))] [] _ Psi
  refine go_aload_n (pc := 0) 0 0 rfl rfl eX_back_0 ?_
  refine go_iload_n (pc := 1) 1 1 rfl rfl eX_back_1 ?_
  exact go_tV (pc := 2) 0 (t_needPicture x hx) okX_needPicture lmX_106 eX_back_2 rfl rfl rfl rfl rfl (Nat.le_of_ble_eq_true rfl) (Nat.le_of_ble_eq_true rfl) (by omega) (by omega) hf
set_option maxRecDepth 100000 in
set_option maxHeartbeats 1000000 in
theorem c_drop (hF : F ≤ 60) (hfo : ∀ k j, fo k = some j → j < F) (p : Nat) (hp : p < 8) (hpi : pi p = true) : Ret (gg D cI cB cL bb L xs) mX_drop (n + 3) 0 0 [.ref h, .int (nI p)] (xW cI cB h a1 a2 a3 a4 a5 F c fo sp pi rest) (some (.int (nI (gcnt (fun j => decide (0 < hcnt fo j)) F) - nI (gcnt (fun j => decide (0 < hcnt (va_cpy (fun _ => none) fo 0 (p * 48) 48) j)) F)))) (xW cI cB h a1 a2 a3 a4 a5 F c (va_cpy (fun _ => none) fo 0 (p * 48) 48) sp (va_up pi p false) rest) := by
  intro Psi hf
  show Go _ _ _ _ _ 0 [(0, .ref h), (1, .int (nI p))] [] _ Psi
  refine go_aload_n (pc := 0) 0 0 rfl rfl eX_drop_0 ?_
  refine go_iload_n (pc := 1) 1 1 rfl rfl eX_drop_1 ?_
  refine go_rV0 (pc := 2) 0 (c_needPicture p hp hpi) okX_needPicture lmX_106 eX_drop_2 rfl rfl rfl rfl rfl (Nat.le_of_ble_eq_true rfl) (Nat.le_of_ble_eq_true rfl) ?_
  refine go_aload_n (pc := 5) 0 0 rfl rfl eX_drop_5 ?_
  refine go_rV (pc := 6) 0 (c_fiu hF) okX_framesInUse lmX_112 eX_drop_6 rfl rfl rfl rfl rfl (Nat.le_of_ble_eq_true rfl) (Nat.le_of_ble_eq_true rfl) ?_
  refine go_istore_n (pc := 9) (ls' := [(2, _), (0, _), (1, _)]) 2 rfl (by decide) eX_drop_9 rfl ?_
  refine go_aload_n (pc := 10) 0 1 rfl rfl eX_drop_10 ?_
  refine go_iload_n (pc := 11) 1 2 rfl rfl eX_drop_11 ?_
  refine go_rV0 (pc := 12) 0 (c_cl hF hfo p (by omega)) okX_clearRow lmX_115 eX_drop_12 rfl rfl rfl rfl rfl (Nat.le_of_ble_eq_true rfl) (Nat.le_of_ble_eq_true rfl) ?_
  refine go_aload_n (pc := 15) 0 1 rfl rfl eX_drop_15 ?_
  refine go_get (pc := 16) hwX 0 rfl rfl 5 (by decide) lkX_42 rfl eX_drop_16 ?_
  refine go_iload_n (pc := 19) 1 2 rfl rfl eX_drop_19 ?_
  refine go_iconst (pc := 20) (v := 0) (by decide) eX_drop_20 ?_
  refine go_zastN (pc := 21) (es' := (xW cI cB h a1 a2 a3 a4 a5 F c (va_cpy (fun _ => none) fo 0 (p * 48) 48) sp (va_up pi p false) rest)) 5 1 p eX_drop_21 rfl rfl rfl hp (by omega) (xs5 (upd_b (b := false) rfl)) ?_
  refine go_iload_n (pc := 22) 2 0 rfl rfl eX_drop_22 ?_
  refine go_aload_n (pc := 23) 0 1 rfl rfl eX_drop_23 ?_
  refine go_rV (pc := 24) 0 (c_fiu hF) okX_framesInUse lmX_112 eX_drop_24 rfl rfl rfl rfl rfl (Nat.le_of_ble_eq_true rfl) (Nat.le_of_ble_eq_true rfl) ?_
  refine go_isub (pc := 27) eX_drop_27 ?_
  exact go_iret (pc := 28) rfl rfl eX_drop_28 (hf)
set_option maxRecDepth 100000 in
set_option maxHeartbeats 1000000 in
theorem t_drop (x : Int32) (hx : ∀ j, j < 8 → x = nI j → pi j = false) : Thr (gg D cI cB cL bb L xs) mX_drop (n + 3) 1 6 [.ref h, .int (x)] (xW cI cB h a1 a2 a3 a4 a5 F c fo sp pi rest) "java/util/NoSuchElementException" := by
  intro Psi hf
  show Go _ _ _ _ _ 0 [(0, .ref h), (1, .int (x))] [] _ Psi
  refine go_aload_n (pc := 0) 0 0 rfl rfl eX_drop_0 ?_
  refine go_iload_n (pc := 1) 1 1 rfl rfl eX_drop_1 ?_
  exact go_tV (pc := 2) 0 (t_needPicture x hx) okX_needPicture lmX_106 eX_drop_2 rfl rfl rfl rfl rfl (Nat.le_of_ble_eq_true rfl) (Nat.le_of_ble_eq_true rfl) (by omega) (by omega) hf
set_option maxRecDepth 100000 in
set_option maxHeartbeats 1000000 in
theorem c_holders0 (hF : F ≤ 60) (hfo : ∀ k j, fo k = some j → j < F) (s : Nat) (hs : s < 6) (hsp : sp (48 + s) = true) (p : Nat) (hp : p < 8) (hb : fo (384 + s * 8 + p) = none) : Ret (gg D cI cB cL bb L xs) mX_holders (n + 3) 0 0 [.ref h, .int (nI s), .int (nI p)] (xW cI cB h a1 a2 a3 a4 a5 F c fo sp pi rest) (some (.int (0))) (xW cI cB h a1 a2 a3 a4 a5 F c fo sp pi rest) := by
  intro Psi hf
  show Go _ _ _ _ _ 0 [(0, .ref h), (1, .int (nI s)), (2, .int (nI p))] [] _ Psi
  refine go_aload_n (pc := 0) 0 0 rfl rfl eX_holders_0 ?_
  refine go_iload_n (pc := 1) 1 1 rfl rfl eX_holders_1 ?_
  refine go_rV0 (pc := 2) 0 (c_needSpace s hs hsp) okX_needSpace lmX_52 eX_holders_2 rfl rfl rfl rfl rfl (Nat.le_of_ble_eq_true rfl) (Nat.le_of_ble_eq_true rfl) ?_
  refine go_aload_n (pc := 5) 0 0 rfl rfl eX_holders_5 ?_
  refine go_iload_n (pc := 6) 2 2 rfl rfl eX_holders_6 ?_
  refine go_rV0 (pc := 7) 0 (c_needPage p hp) okX_needPage lmX_67 eX_holders_7 rfl rfl rfl rfl rfl (Nat.le_of_ble_eq_true rfl) (Nat.le_of_ble_eq_true rfl) ?_
  refine go_aload_n (pc := 10) 0 0 rfl rfl eX_holders_10 ?_
  refine go_get (pc := 11) hwX 0 rfl rfl 3 (by decide) lkX_29 rfl eX_holders_11 ?_
  refine go_iload_n (pc := 14) 1 1 rfl rfl eX_holders_14 ?_
  refine go_iload_n (pc := 15) 2 2 rfl rfl eX_holders_15 ?_
  refine go_rS (pc := 16) (c_pageNow s p) okX_pageNow lmX_56 eX_holders_16 rfl rfl (Nat.le_of_ble_eq_true rfl) (Nat.le_of_ble_eq_true rfl) ?_
  refine go_ialdN (pc := 19) 3 0 (384 + s * 8 + p) eX_holders_19 rfl rfl (rfl) (by omega) (by omega) ?_
  rw [hb]
  refine go_istore_n (pc := 20) (ls' := [(3, _), (0, _), (1, _), (2, _)]) 3 rfl (by decide) eX_holders_20 rfl ?_
  refine go_aload_n (pc := 21) 0 1 rfl rfl eX_holders_21 ?_
  refine go_iload_n (pc := 22) 3 0 rfl rfl eX_holders_22 ?_
  refine go_rV (pc := 23) 0 (c_isFrame0) okX_isFrame lmX_70 eX_holders_23 rfl rfl rfl rfl rfl (Nat.le_of_ble_eq_true rfl) (Nat.le_of_ble_eq_true rfl) ?_
  refine go_if_eq (pc := 26) 38 (by decide) eX_holders_26 (fun c26 => ?_) (fun c26 => ?_)
  · refine go_iconst (pc := 38) (v := 0) (by decide) eX_holders_38 ?_
    exact go_iret (pc := 39) rfl rfl eX_holders_39 (hf)
  · exact absurd rfl c26
set_option maxRecDepth 100000 in
set_option maxHeartbeats 1000000 in
theorem c_holders1 (hF : F ≤ 60) (hfo : ∀ k j, fo k = some j → j < F) (s : Nat) (hs : s < 6) (hsp : sp (48 + s) = true) (p : Nat) (hp : p < 8) (b : Nat) (hb : fo (384 + s * 8 + p) = some b) : Ret (gg D cI cB cL bb L xs) mX_holders (n + 3) 0 0 [.ref h, .int (nI s), .int (nI p)] (xW cI cB h a1 a2 a3 a4 a5 F c fo sp pi rest) (some (.int (nI (hcnt fo b)))) (xW cI cB h a1 a2 a3 a4 a5 F c fo sp pi rest) := by
  intro Psi hf
  show Go _ _ _ _ _ 0 [(0, .ref h), (1, .int (nI s)), (2, .int (nI p))] [] _ Psi
  refine go_aload_n (pc := 0) 0 0 rfl rfl eX_holders_0 ?_
  refine go_iload_n (pc := 1) 1 1 rfl rfl eX_holders_1 ?_
  refine go_rV0 (pc := 2) 0 (c_needSpace s hs hsp) okX_needSpace lmX_52 eX_holders_2 rfl rfl rfl rfl rfl (Nat.le_of_ble_eq_true rfl) (Nat.le_of_ble_eq_true rfl) ?_
  refine go_aload_n (pc := 5) 0 0 rfl rfl eX_holders_5 ?_
  refine go_iload_n (pc := 6) 2 2 rfl rfl eX_holders_6 ?_
  refine go_rV0 (pc := 7) 0 (c_needPage p hp) okX_needPage lmX_67 eX_holders_7 rfl rfl rfl rfl rfl (Nat.le_of_ble_eq_true rfl) (Nat.le_of_ble_eq_true rfl) ?_
  refine go_aload_n (pc := 10) 0 0 rfl rfl eX_holders_10 ?_
  refine go_get (pc := 11) hwX 0 rfl rfl 3 (by decide) lkX_29 rfl eX_holders_11 ?_
  refine go_iload_n (pc := 14) 1 1 rfl rfl eX_holders_14 ?_
  refine go_iload_n (pc := 15) 2 2 rfl rfl eX_holders_15 ?_
  refine go_rS (pc := 16) (c_pageNow s p) okX_pageNow lmX_56 eX_holders_16 rfl rfl (Nat.le_of_ble_eq_true rfl) (Nat.le_of_ble_eq_true rfl) ?_
  refine go_ialdN (pc := 19) 3 0 (384 + s * 8 + p) eX_holders_19 rfl rfl (rfl) (by omega) (by omega) ?_
  rw [hb]
  refine go_istore_n (pc := 20) (ls' := [(3, _), (0, _), (1, _), (2, _)]) 3 rfl (by decide) eX_holders_20 rfl ?_
  refine go_aload_n (pc := 21) 0 1 rfl rfl eX_holders_21 ?_
  refine go_iload_n (pc := 22) 3 0 rfl rfl eX_holders_22 ?_
  refine go_rV (pc := 23) 0 (c_isFrame1 hF b (hfo _ _ hb)) okX_isFrame lmX_70 eX_holders_23 rfl rfl rfl rfl rfl (Nat.le_of_ble_eq_true rfl) (Nat.le_of_ble_eq_true rfl) ?_
  refine go_if_eq (pc := 26) 38 (by decide) eX_holders_26 (fun c26 => ?_) (fun c26 => ?_)
  · exact absurd c26 (by decide)
  · refine go_aload_n (pc := 29) 0 1 rfl rfl eX_holders_29 ?_
    refine go_get (pc := 30) hwX 0 rfl rfl 2 (by decide) lkX_26 rfl eX_holders_30 ?_
    refine go_iload_n (pc := 33) 3 0 rfl rfl eX_holders_33 ?_
    refine go_ialdN (pc := 34) 2 0 (b) eX_holders_34 rfl rfl (rfl) (hfo _ _ hb) (by omega) ?_
    refine go_goto (pc := 35) 39 (by decide) eX_holders_35 ?_
    exact go_iret (pc := 39) rfl rfl eX_holders_39 (hf)
set_option maxRecDepth 100000 in
set_option maxHeartbeats 1000000 in
theorem t_holders1 (x : Int32) (hx : ∀ j, j < 6 → x = nI j → sp (48 + j) = false) (u : Int32) : Thr (gg D cI cB cL bb L xs) mX_holders (n + 3) 1 6 [.ref h, .int (x), .int (u)] (xW cI cB h a1 a2 a3 a4 a5 F c fo sp pi rest) "java/util/NoSuchElementException" := by
  intro Psi hf
  show Go _ _ _ _ _ 0 [(0, .ref h), (1, .int (x)), (2, .int (u))] [] _ Psi
  refine go_aload_n (pc := 0) 0 0 rfl rfl eX_holders_0 ?_
  refine go_iload_n (pc := 1) 1 1 rfl rfl eX_holders_1 ?_
  exact go_tV (pc := 2) 0 (t_needSpace x hx) okX_needSpace lmX_52 eX_holders_2 rfl rfl rfl rfl rfl (Nat.le_of_ble_eq_true rfl) (Nat.le_of_ble_eq_true rfl) (by omega) (by omega) hf
set_option maxRecDepth 100000 in
set_option maxHeartbeats 1000000 in
theorem t_holders2 (s : Nat) (hs : s < 6) (hsp : sp (48 + s) = true) (x : Int32) (hx : ∀ j, j < 8 → x ≠ nI j) : Thr (gg D cI cB cL bb L xs) mX_holders (n + 3) 1 6 [.ref h, .int (nI s), .int (x)] (xW cI cB h a1 a2 a3 a4 a5 F c fo sp pi rest) "java/lang/IndexOutOfBoundsException" := by
  intro Psi hf
  show Go _ _ _ _ _ 0 [(0, .ref h), (1, .int (nI s)), (2, .int (x))] [] _ Psi
  refine go_aload_n (pc := 0) 0 0 rfl rfl eX_holders_0 ?_
  refine go_iload_n (pc := 1) 1 1 rfl rfl eX_holders_1 ?_
  refine go_rV0 (pc := 2) 0 (c_needSpace s hs hsp) okX_needSpace lmX_52 eX_holders_2 rfl rfl rfl rfl rfl (Nat.le_of_ble_eq_true rfl) (Nat.le_of_ble_eq_true rfl) ?_
  refine go_aload_n (pc := 5) 0 0 rfl rfl eX_holders_5 ?_
  refine go_iload_n (pc := 6) 2 2 rfl rfl eX_holders_6 ?_
  exact go_tV (pc := 7) 0 (t_needPage x hx) okX_needPage lmX_67 eX_holders_7 rfl rfl rfl rfl rfl (Nat.le_of_ble_eq_true rfl) (Nat.le_of_ble_eq_true rfl) (by omega) (by omega) hf
set_option maxRecDepth 100000 in
set_option maxHeartbeats 1000000 in
theorem l_chg (hF : F ≤ 60) (hfo : ∀ k j, fo k = some j → j < F) (p : Nat) (hp : p < 8) {Psi : gR → va_W → Prop} (hf : Psi (.inl (some (.int (nI (gcnt (fun i => decide (fo (384 + i) ≠ fo (p * 48 + i))) 48))))) (xW cI cB h a1 a2 a3 a4 a5 F c fo sp pi rest)) : ∀ (m i : Nat), i + m = 48 → Go (gg D cI cB cL bb L xs) mX_changed (n + 1) 0 0 9 [(3, .int (nI i)), (2, .int (nI (gcnt (fun i => decide (fo (384 + i) ≠ fo (p * 48 + i))) i))), (0, .ref h), (1, .int (nI p))] [] (xW cI cB h a1 a2 a3 a4 a5 F c fo sp pi rest) Psi := by
  intro m
  induction m with
  | zero =>
    intro i hi
    obtain rfl : i = 48 := by omega
    refine go_iload_n (pc := 9) 3 0 rfl rfl eX_changed_9 ?_
    refine go_bipush (pc := 10) (v := 48) (by decide) eX_changed_10 ?_
    refine go_icmp_ge (pc := 12) 48 (by decide) eX_changed_12 (fun c12 => ?_) (fun c12 => ?_)
    · refine go_iload_n (pc := 48) 2 1 rfl rfl eX_changed_48 ?_
      exact go_iret (pc := 49) rfl rfl eX_changed_49 (hf)
    · exact absurd (show (48 : Int32) ≤ nI 48 by decide) c12
  | succ m ih =>
    intro i hi
    refine go_iload_n (pc := 9) 3 0 rfl rfl eX_changed_9 ?_
    refine go_bipush (pc := 10) (v := 48) (by decide) eX_changed_10 ?_
    refine go_icmp_ge (pc := 12) 48 (by decide) eX_changed_12 (fun c12 => ?_) (fun c12 => ?_)
    · exact absurd c12 (nI_ge (b := 48) (by omega) (by omega))
    · refine go_aload_n (pc := 15) 0 2 rfl rfl eX_changed_15 ?_
      refine go_get (pc := 16) hwX 0 rfl rfl 3 (by decide) lkX_29 rfl eX_changed_16 ?_
      refine go_sipush (pc := 19) (v := 384) (by decide) eX_changed_19 ?_
      refine go_iload_n (pc := 22) 3 0 rfl rfl eX_changed_22 ?_
      refine go_iadd (pc := 23) eX_changed_23 ?_
      refine go_ialdN (pc := 24) 3 0 (384 + i) eX_changed_24 rfl rfl (nI_add 384 i) (by omega) (by omega) ?_
      refine go_aload_n (pc := 25) 0 2 rfl rfl eX_changed_25 ?_
      refine go_get (pc := 26) hwX 0 rfl rfl 3 (by decide) lkX_29 rfl eX_changed_26 ?_
      refine go_iload_n (pc := 29) 1 3 rfl rfl eX_changed_29 ?_
      refine go_bipush (pc := 30) (v := 48) (by decide) eX_changed_30 ?_
      refine go_imul (pc := 32) eX_changed_32 ?_
      refine go_iload_n (pc := 33) 3 0 rfl rfl eX_changed_33 ?_
      refine go_iadd (pc := 34) eX_changed_34 ?_
      refine go_ialdN (pc := 35) 3 0 (p * 48 + i) eX_changed_35 rfl rfl (m48 p i) (by omega) (by omega) ?_
      refine go_icmp_eq (pc := 36) 42 (by decide) eX_changed_36 (fun c36 => ?_) (fun c36 => ?_)
      · have e9 : gcnt (fun i => decide (fo (384 + i) ≠ fo (p * 48 + i))) (i + 1) = gcnt (fun i => decide (fo (384 + i) ≠ fo (p * 48 + i))) i := gcnt_n (decide_eq_false (fun z => z ((oI_inj (fun j y => by have := hfo _ _ y; omega) (fun j y => by have := hfo _ _ y; omega)).mp c36)))
        refine go_iinc (pc := 42) (z := 1) (v := nI (i + 1)) (ls' := [(3, _), (2, _), (0, _), (1, _)]) 3 0 rfl (nI_1 i) (by decide) eX_changed_42 rfl ?_
        refine go_goto (pc := 45) 9 (by decide) eX_changed_45 ?_
        rw [← e9]
        exact ih (i + 1) (by omega)
      · have e9 : gcnt (fun i => decide (fo (384 + i) ≠ fo (p * 48 + i))) (i + 1) = gcnt (fun i => decide (fo (384 + i) ≠ fo (p * 48 + i))) i + 1 := gcnt_s (decide_eq_true (fun z => c36 (by rw [z])))
        refine go_iinc (pc := 39) (z := 1) (v := nI (gcnt (fun i => decide (fo (384 + i) ≠ fo (p * 48 + i))) i + 1)) (ls' := [(2, _), (3, _), (0, _), (1, _)]) 2 1 rfl (nI_1 _) (by decide) eX_changed_39 rfl ?_
        refine go_iinc (pc := 42) (z := 1) (v := nI (i + 1)) (ls' := [(3, _), (2, _), (0, _), (1, _)]) 3 1 rfl (nI_1 i) (by decide) eX_changed_42 rfl ?_
        refine go_goto (pc := 45) 9 (by decide) eX_changed_45 ?_
        rw [← e9]
        exact ih (i + 1) (by omega)
set_option maxRecDepth 100000 in
set_option maxHeartbeats 1000000 in
theorem c_chg (hF : F ≤ 60) (hfo : ∀ k j, fo k = some j → j < F) (p : Nat) (hp : p < 8) (hpi : pi p = true) : Ret (gg D cI cB cL bb L xs) mX_changed (n + 1) 0 0 [.ref h, .int (nI p)] (xW cI cB h a1 a2 a3 a4 a5 F c fo sp pi rest) (some (.int (nI (gcnt (fun i => decide (fo (384 + i) ≠ fo (p * 48 + i))) 48)))) (xW cI cB h a1 a2 a3 a4 a5 F c fo sp pi rest) := by
  intro Psi hf
  show Go _ _ _ _ _ 0 [(0, .ref h), (1, .int (nI p))] [] _ Psi
  refine go_aload_n (pc := 0) 0 0 rfl rfl eX_changed_0 ?_
  refine go_iload_n (pc := 1) 1 1 rfl rfl eX_changed_1 ?_
  refine go_rV0 (pc := 2) 0 (c_needPicture p hp hpi) okX_needPicture lmX_106 eX_changed_2 rfl rfl rfl rfl rfl (Nat.le_of_ble_eq_true rfl) (Nat.le_of_ble_eq_true rfl) ?_
  refine go_iconst (pc := 5) (v := 0) (by decide) eX_changed_5 ?_
  refine go_istore_n (pc := 6) (ls' := [(2, _), (0, _), (1, _)]) 2 rfl (by decide) eX_changed_6 rfl ?_
  refine go_iconst (pc := 7) (v := 0) (by decide) eX_changed_7 ?_
  refine go_istore_n (pc := 8) (ls' := [(3, _), (2, _), (0, _), (1, _)]) 3 rfl (by decide) eX_changed_8 rfl ?_
  exact l_chg hF hfo p hp hf 48 0 (by omega)
set_option maxRecDepth 100000 in
set_option maxHeartbeats 1000000 in
theorem t_chg (x : Int32) (hx : ∀ j, j < 8 → x = nI j → pi j = false) : Thr (gg D cI cB cL bb L xs) mX_changed (n + 2) 1 6 [.ref h, .int (x)] (xW cI cB h a1 a2 a3 a4 a5 F c fo sp pi rest) "java/util/NoSuchElementException" := by
  intro Psi hf
  show Go _ _ _ _ _ 0 [(0, .ref h), (1, .int (x))] [] _ Psi
  refine go_aload_n (pc := 0) 0 0 rfl rfl eX_changed_0 ?_
  refine go_iload_n (pc := 1) 1 1 rfl rfl eX_changed_1 ?_
  exact go_tV (pc := 2) 0 (t_needPicture x hx) okX_needPicture lmX_106 eX_changed_2 rfl rfl rfl rfl rfl (Nat.le_of_ble_eq_true rfl) (Nat.le_of_ble_eq_true rfl) (by omega) (by omega) hf
end Sxe
