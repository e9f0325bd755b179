section Sxc
variable {D : va_G} {cI cB cL : ClassId} {bb L : Nat} {xs : Nat → Int32} {n h a1 a2 a3 a4 a5 F : Nat} {c : Nat → Int32} {fo : Nat → Option Nat} {sp pi : Nat → Bool} {rest es : va_W} {f1 f2 f3 f4 f5 : Nat → Int32}
set_option maxRecDepth 100000 in
set_option maxHeartbeats 1000000 in
theorem c_isThereA (s : Nat) (hs : s < 6) : Ret (gg D cI cB cL bb L xs) mX_isThere (n + 1) 0 0 [.ref h, .int (nI s)] (xW cI cB h a1 a2 a3 a4 a5 F c fo sp pi rest) (some (.int (bI (sp (48 + s))))) (xW cI cB h a1 a2 a3 a4 a5 F c fo sp pi rest) := by
  intro Psi hf
  show Go _ _ _ _ _ 0 [(0, .ref h), (1, .int (nI s))] [] _ Psi
  refine go_iload_n (pc := 0) 1 1 rfl rfl eX_isThere_0 ?_
  refine go_if_lt (pc := 1) 28 (by decide) eX_isThere_1 (fun c1 => ?_) (fun c1 => ?_)
  · exact absurd c1 (nI_pos (by omega))
  · refine go_iload_n (pc := 4) 1 1 rfl rfl eX_isThere_4 ?_
    refine go_bipush (pc := 5) (v := 6) (by decide) eX_isThere_5 ?_
    refine go_icmp_ge (pc := 7) 28 (by decide) eX_isThere_7 (fun c7 => ?_) (fun c7 => ?_)
    · exact absurd c7 (nI_ge (b := 6) (by omega) (by omega))
    · refine go_aload_n (pc := 10) 0 0 rfl rfl eX_isThere_10 ?_
      refine go_get (pc := 11) hwX 0 rfl rfl 4 (by decide) lkX_38 rfl eX_isThere_11 ?_
      refine go_bipush (pc := 14) (v := 8) (by decide) eX_isThere_14 ?_
      refine go_iload_n (pc := 16) 1 1 rfl rfl eX_isThere_16 ?_
      refine go_rS (pc := 17) (c_spaceIndex 8 s) okX_spaceIndex lmX_49 eX_isThere_17 rfl rfl (Nat.le_of_ble_eq_true rfl) (Nat.le_of_ble_eq_true rfl) ?_
      refine go_zaldN (pc := 20) 4 1 (48 + s) eX_isThere_20 rfl rfl (rfl) (by omega) (by omega) ?_
      refine go_if_eq (pc := 21) 28 (by decide) eX_isThere_21 (fun c21 => ?_) (fun c21 => ?_)
      · rw [bI0.mp c21] at hf
        refine go_iconst (pc := 28) (v := 0) (by decide) eX_isThere_28 ?_
        exact go_iret (pc := 29) rfl rfl eX_isThere_29 (hf)
      · rw [bI1 c21] at hf
        refine go_iconst (pc := 24) (v := 1) (by decide) eX_isThere_24 ?_
        refine go_goto (pc := 25) 29 (by decide) eX_isThere_25 ?_
        exact go_iret (pc := 29) rfl rfl eX_isThere_29 (hf)
set_option maxRecDepth 100000 in
set_option maxHeartbeats 1000000 in
theorem c_isThereB (x : Int32) (hx : ∀ j, j < 6 → x = nI j → sp (48 + j) = false) : Ret (gg D cI cB cL bb L xs) mX_isThere (n + 1) 0 0 [.ref h, .int (x)] (xW cI cB h a1 a2 a3 a4 a5 F c fo sp pi rest) (some (.int (bI false))) (xW cI cB h a1 a2 a3 a4 a5 F c fo sp pi rest) := by
  intro Psi hf
  show Go _ _ _ _ _ 0 [(0, .ref h), (1, .int (x))] [] _ Psi
  refine go_iload_n (pc := 0) 1 1 rfl rfl eX_isThere_0 ?_
  refine go_if_lt (pc := 1) 28 (by decide) eX_isThere_1 (fun c1 => ?_) (fun c1 => ?_)
  · refine go_iconst (pc := 28) (v := 0) (by decide) eX_isThere_28 ?_
    exact go_iret (pc := 29) rfl rfl eX_isThere_29 (hf)
  · refine go_iload_n (pc := 4) 1 1 rfl rfl eX_isThere_4 ?_
    refine go_bipush (pc := 5) (v := 6) (by decide) eX_isThere_5 ?_
    refine go_icmp_ge (pc := 7) 28 (by decide) eX_isThere_7 (fun c7 => ?_) (fun c7 => ?_)
    · refine go_iconst (pc := 28) (v := 0) (by decide) eX_isThere_28 ?_
      exact go_iret (pc := 29) rfl rfl eX_isThere_29 (hf)
    · obtain ⟨j, hj, rfl⟩ : ∃ j, j < 6 ∧ x = nI j := by
        rcases pk_ix x (n := 6) (by omega) with q | q | q
        · exact absurd q c1
        · exact absurd q c7
        · exact q
      refine go_aload_n (pc := 10) 0 0 rfl rfl eX_isThere_10 ?_
      refine go_get (pc := 11) hwX 0 rfl rfl 4 (by decide) lkX_38 rfl eX_isThere_11 ?_
      refine go_bipush (pc := 14) (v := 8) (by decide) eX_isThere_14 ?_
      refine go_iload_n (pc := 16) 1 1 rfl rfl eX_isThere_16 ?_
      refine go_rS (pc := 17) (c_spaceIndex 8 j) okX_spaceIndex lmX_49 eX_isThere_17 rfl rfl (Nat.le_of_ble_eq_true rfl) (Nat.le_of_ble_eq_true rfl) ?_
      refine go_zaldN (pc := 20) 4 1 (48 + j) eX_isThere_20 rfl rfl (rfl) (by omega) (by omega) ?_
      refine go_if_eq (pc := 21) 28 (by decide) eX_isThere_21 (fun c21 => ?_) (fun c21 => ?_)
      · refine go_iconst (pc := 28) (v := 0) (by decide) eX_isThere_28 ?_
        exact go_iret (pc := 29) rfl rfl eX_isThere_29 (hf)
      · exact absurd (bI0.mpr (hx j hj rfl)) c21
set_option maxRecDepth 100000 in
set_option maxHeartbeats 1000000 in
theorem c_needSpace (s : Nat) (hs : s < 6) (hsp : sp (48 + s) = true) : Ret (gg D cI cB cL bb L xs) mX_needSpace (n + 2) 0 0 [.ref h, .int (nI s)] (xW cI cB h a1 a2 a3 a4 a5 F c fo sp pi rest) none (xW cI cB h a1 a2 a3 a4 a5 F c fo sp pi rest) := by
  intro Psi hf
  show Go _ _ _ _ _ 0 [(0, .ref h), (1, .int (nI s))] [] _ Psi
  refine go_aload_n (pc := 0) 0 0 rfl rfl eX_needSpace_0 ?_
  refine go_iload_n (pc := 1) 1 1 rfl rfl eX_needSpace_1 ?_
  refine go_rV (pc := 2) 0 (c_isThereA s hs) okX_isThere lmX_124 eX_needSpace_2 rfl rfl rfl rfl rfl (Nat.le_of_ble_eq_true rfl) (Nat.le_of_ble_eq_true rfl) ?_
  rw [hsp]
  refine go_if_ne (pc := 5) 18 (by decide) eX_needSpace_5 (fun c5 => ?_) (fun c5 => ?_)
  · exact go_vret (pc := 18) rfl eX_needSpace_18 (hf)
  · exact absurd c5 (by decide)
set_option maxRecDepth 100000 in
set_option maxHeartbeats 1000000 in
theorem t_needSpace (x : Int32) (hx : ∀ j, j < 6 → x = nI j → sp (48 + j) = false) : Thr (gg D cI cB cL bb L xs) mX_needSpace (n + 2) 1 6 [.ref h, .int (x)] (xW cI cB h a1 a2 a3 a4 a5 F c fo sp pi rest) "java/util/NoSuchElementException" := by
  intro Psi hf
  show Go _ _ _ _ _ 0 [(0, .ref h), (1, .int (x))] [] _ Psi
  refine go_aload_n (pc := 0) 0 0 rfl rfl eX_needSpace_0 ?_
  refine go_iload_n (pc := 1) 1 1 rfl rfl eX_needSpace_1 ?_
  refine go_rV (pc := 2) 0 (c_isThereB x hx) okX_isThere lmX_124 eX_needSpace_2 rfl rfl rfl rfl rfl (Nat.le_of_ble_eq_true rfl) (Nat.le_of_ble_eq_true rfl) ?_
  refine go_if_ne (pc := 5) 18 (by decide) eX_needSpace_5 (fun c5 => ?_) (fun c5 => ?_)
  · exact absurd rfl c5
  · exact go_throw (pc := 8) (E := "java/util/NoSuchElementException") (tx := "this space is not there") (by decide) clX_127 it_NoSuchElementException in_NoSuchElementException atX_131 rfl (by omega) (by omega) (Nat.le_of_ble_eq_true rfl) eX_needSpace_8 eX_needSpace_11 eX_needSpace_12 eX_needSpace_14 eX_needSpace_17 hf
set_option maxRecDepth 100000 in
set_option maxHeartbeats 1000000 in
theorem c_needPage (p : Nat) (hp : p < 8) : Ret (gg D cI cB cL bb L xs) mX_needPage n 0 0 [.ref h, .int (nI p)] (xW cI cB h a1 a2 a3 a4 a5 F c fo sp pi rest) none (xW cI cB h a1 a2 a3 a4 a5 F c fo sp pi rest) := by
  intro Psi hf
  show Go _ _ _ _ _ 0 [(0, .ref h), (1, .int (nI p))] [] _ Psi
  refine go_iload_n (pc := 0) 1 1 rfl rfl eX_needPage_0 ?_
  refine go_if_lt (pc := 1) 10 (by decide) eX_needPage_1 (fun c1 => ?_) (fun c1 => ?_)
  · exact absurd c1 (nI_pos (by omega))
  · refine go_iload_n (pc := 4) 1 1 rfl rfl eX_needPage_4 ?_
    refine go_bipush (pc := 5) (v := 8) (by decide) eX_needPage_5 ?_
    refine go_icmp_lt (pc := 7) 20 (by decide) eX_needPage_7 (fun c7 => ?_) (fun c7 => ?_)
    · exact go_vret (pc := 20) rfl eX_needPage_20 (hf)
    · exact absurd (nI_lt (b := 8) hp (by omega)) c7
set_option maxRecDepth 100000 in
set_option maxHeartbeats 1000000 in
theorem t_needPage (x : Int32) (hx : ∀ j, j < 8 → x ≠ nI j) : Thr (gg D cI cB cL bb L xs) mX_needPage (n + 1) 1 6 [.ref h, .int (x)] (xW cI cB h a1 a2 a3 a4 a5 F c fo sp pi rest) "java/lang/IndexOutOfBoundsException" := by
  intro Psi hf
  show Go _ _ _ _ _ 0 [(0, .ref h), (1, .int (x))] [] _ Psi
  refine go_iload_n (pc := 0) 1 1 rfl rfl eX_needPage_0 ?_
  refine go_if_lt (pc := 1) 10 (by decide) eX_needPage_1 (fun c1 => ?_) (fun c1 => ?_)
  · exact go_throw (pc := 10) (E := "java/lang/IndexOutOfBoundsException") (tx := "a page is 0 to 7") (by decide) clX_134 it_IndexOutOfBoundsException in_IndexOutOfBoundsException atX_138 rfl (by omega) (by omega) (Nat.le_of_ble_eq_true rfl) eX_needPage_10 eX_needPage_13 eX_needPage_14 eX_needPage_16 eX_needPage_19 hf
  · refine go_iload_n (pc := 4) 1 1 rfl rfl eX_needPage_4 ?_
    refine go_bipush (pc := 5) (v := 8) (by decide) eX_needPage_5 ?_
    refine go_icmp_lt (pc := 7) 20 (by decide) eX_needPage_7 (fun c7 => ?_) (fun c7 => ?_)
    · rcases pk_ix x (n := 8) (by omega) with q | q | ⟨j, hj, q⟩
      · exact absurd q c1
      · exact absurd c7 (Int32.not_lt.mpr q)
      · exact absurd q (hx j hj)
    · exact go_throw (pc := 10) (E := "java/lang/IndexOutOfBoundsException") (tx := "a page is 0 to 7") (by decide) clX_134 it_IndexOutOfBoundsException in_IndexOutOfBoundsException atX_138 rfl (by omega) (by omega) (Nat.le_of_ble_eq_true rfl) eX_needPage_10 eX_needPage_13 eX_needPage_14 eX_needPage_16 eX_needPage_19 hf
set_option maxRecDepth 100000 in
set_option maxHeartbeats 1000000 in
theorem c_needPicture (p : Nat) (hp : p < 8) (hpi : pi p = true) : Ret (gg D cI cB cL bb L xs) mX_needPicture n 0 0 [.ref h, .int (nI p)] (xW cI cB h a1 a2 a3 a4 a5 F c fo sp pi rest) none (xW cI cB h a1 a2 a3 a4 a5 F c fo sp pi rest) := by
  intro Psi hf
  show Go _ _ _ _ _ 0 [(0, .ref h), (1, .int (nI p))] [] _ Psi
  refine go_iload_n (pc := 0) 1 1 rfl rfl eX_needPicture_0 ?_
  refine go_if_lt (pc := 1) 19 (by decide) eX_needPicture_1 (fun c1 => ?_) (fun c1 => ?_)
  · exact absurd c1 (nI_pos (by omega))
  · refine go_iload_n (pc := 4) 1 1 rfl rfl eX_needPicture_4 ?_
    refine go_bipush (pc := 5) (v := 8) (by decide) eX_needPicture_5 ?_
    refine go_icmp_ge (pc := 7) 19 (by decide) eX_needPicture_7 (fun c7 => ?_) (fun c7 => ?_)
    · exact absurd c7 (nI_ge (b := 8) (by omega) (by omega))
    · refine go_aload_n (pc := 10) 0 0 rfl rfl eX_needPicture_10 ?_
      refine go_get (pc := 11) hwX 0 rfl rfl 5 (by decide) lkX_42 rfl eX_needPicture_11 ?_
      refine go_iload_n (pc := 14) 1 1 rfl rfl eX_needPicture_14 ?_
      refine go_zaldN (pc := 15) 5 1 (p) eX_needPicture_15 rfl rfl (rfl) (hp) (by omega) ?_
      refine go_if_ne (pc := 16) 29 (by decide) eX_needPicture_16 (fun c16 => ?_) (fun c16 => ?_)
      · exact go_vret (pc := 29) rfl eX_needPicture_29 (hf)
      · exact absurd (bI0.mp c16) (by rw [hpi]; decide)
set_option maxRecDepth 100000 in
set_option maxHeartbeats 1000000 in
theorem t_needPicture (x : Int32) (hx : ∀ j, j < 8 → x = nI j → pi j = false) : Thr (gg D cI cB cL bb L xs) mX_needPicture (n + 1) 1 6 [.ref h, .int (x)] (xW cI cB h a1 a2 a3 a4 a5 F c fo sp pi rest) "java/util/NoSuchElementException" := by
  intro Psi hf
  show Go _ _ _ _ _ 0 [(0, .ref h), (1, .int (x))] [] _ Psi
  refine go_iload_n (pc := 0) 1 1 rfl rfl eX_needPicture_0 ?_
  refine go_if_lt (pc := 1) 19 (by decide) eX_needPicture_1 (fun c1 => ?_) (fun c1 => ?_)
  · exact go_throw (pc := 19) (E := "java/util/NoSuchElementException") (tx := "this picture is not there") (by decide) clX_127 it_NoSuchElementException in_NoSuchElementException atX_131 rfl (by omega) (by omega) (Nat.le_of_ble_eq_true rfl) eX_needPicture_19 eX_needPicture_22 eX_needPicture_23 eX_needPicture_25 eX_needPicture_28 hf
  · refine go_iload_n (pc := 4) 1 1 rfl rfl eX_needPicture_4 ?_
    refine go_bipush (pc := 5) (v := 8) (by decide) eX_needPicture_5 ?_
    refine go_icmp_ge (pc := 7) 19 (by decide) eX_needPicture_7 (fun c7 => ?_) (fun c7 => ?_)
    · exact go_throw (pc := 19) (E := "java/util/NoSuchElementException") (tx := "this picture is not there") (by decide) clX_127 it_NoSuchElementException in_NoSuchElementException atX_131 rfl (by omega) (by omega) (Nat.le_of_ble_eq_true rfl) eX_needPicture_19 eX_needPicture_22 eX_needPicture_23 eX_needPicture_25 eX_needPicture_28 hf
    · obtain ⟨j, hj, rfl⟩ : ∃ j, j < 8 ∧ x = nI j := by
        rcases pk_ix x (n := 8) (by omega) with q | q | q
        · exact absurd q c1
        · exact absurd q c7
        · exact q
      refine go_aload_n (pc := 10) 0 0 rfl rfl eX_needPicture_10 ?_
      refine go_get (pc := 11) hwX 0 rfl rfl 5 (by decide) lkX_42 rfl eX_needPicture_11 ?_
      refine go_iload_n (pc := 14) 1 1 rfl rfl eX_needPicture_14 ?_
      refine go_zaldN (pc := 15) 5 1 (j) eX_needPicture_15 rfl rfl (rfl) (hj) (by omega) ?_
      refine go_if_ne (pc := 16) 29 (by decide) eX_needPicture_16 (fun c16 => ?_) (fun c16 => ?_)
      · exact absurd (bI0.mpr (hx j hj rfl)) c16
      · exact go_throw (pc := 19) (E := "java/util/NoSuchElementException") (tx := "this picture is not there") (by decide) clX_127 it_NoSuchElementException in_NoSuchElementException atX_131 rfl (by omega) (by omega) (Nat.le_of_ble_eq_true rfl) eX_needPicture_19 eX_needPicture_22 eX_needPicture_23 eX_needPicture_25 eX_needPicture_28 hf
set_option maxRecDepth 100000 in
set_option maxHeartbeats 1000000 in
theorem c_needTwo (s : Nat) (hs : s < 6) (hsp : sp (48 + s) = true) (t : Nat) (ht : t < 6) (htp : sp (48 + t) = true) (p q : Nat) (hp : p < 8) (hq : q < 8) : Ret (gg D cI cB cL bb L xs) mX_needTwoPages (n + 3) 0 0 [.ref h, .int (nI s), .int (nI p), .int (nI t), .int (nI q)] (xW cI cB h a1 a2 a3 a4 a5 F c fo sp pi rest) none (xW cI cB h a1 a2 a3 a4 a5 F c fo sp pi rest) := by
  intro Psi hf
  show Go _ _ _ _ _ 0 [(0, .ref h), (1, .int (nI s)), (2, .int (nI p)), (3, .int (nI t)), (4, .int (nI q))] [] _ Psi
  refine go_aload_n (pc := 0) 0 0 rfl rfl eX_needTwoPages_0 ?_
  refine go_iload_n (pc := 1) 1 1 rfl rfl eX_needTwoPages_1 ?_
  refine go_rV0 (pc := 2) 0 (c_needSpace s hs hsp) okX_needSpace lmX_52 eX_needTwoPages_2 rfl rfl rfl rfl rfl (Nat.le_of_ble_eq_true rfl) (Nat.le_of_ble_eq_true rfl) ?_
  refine go_aload_n (pc := 5) 0 0 rfl rfl eX_needTwoPages_5 ?_
  refine go_iload_n (pc := 6) 3 3 rfl rfl eX_needTwoPages_6 ?_
  refine go_rV0 (pc := 7) 0 (c_needSpace t ht htp) okX_needSpace lmX_52 eX_needTwoPages_7 rfl rfl rfl rfl rfl (Nat.le_of_ble_eq_true rfl) (Nat.le_of_ble_eq_true rfl) ?_
  refine go_aload_n (pc := 10) 0 0 rfl rfl eX_needTwoPages_10 ?_
  refine go_iload_n (pc := 11) 2 2 rfl rfl eX_needTwoPages_11 ?_
  refine go_rV0 (pc := 12) 0 (c_needPage p hp) okX_needPage lmX_67 eX_needTwoPages_12 rfl rfl rfl rfl rfl (Nat.le_of_ble_eq_true rfl) (Nat.le_of_ble_eq_true rfl) ?_
  refine go_aload_n (pc := 15) 0 0 rfl rfl eX_needTwoPages_15 ?_
  refine go_iload (pc := 16) 4 4 rfl eX_needTwoPages_16 ?_
  refine go_rV0 (pc := 18) 0 (c_needPage q hq) okX_needPage lmX_67 eX_needTwoPages_18 rfl rfl rfl rfl rfl (Nat.le_of_ble_eq_true rfl) (Nat.le_of_ble_eq_true rfl) ?_
  exact go_vret (pc := 21) rfl eX_needTwoPages_21 (hf)
set_option maxRecDepth 100000 in
set_option maxHeartbeats 1000000 in
theorem t_needTwo1 (x : Int32) (hx : ∀ j, j < 6 → x = nI j → sp (48 + j) = false) (y u v : Int32) : Thr (gg D cI cB cL bb L xs) mX_needTwoPages (n + 3) 1 6 [.ref h, .int (x), .int (u), .int (y), .int (v)] (xW cI cB h a1 a2 a3 a4 a5 F c fo sp pi rest) "java/util/NoSuchElementException" := by
  intro Psi hf
  show Go _ _ _ _ _ 0 [(0, .ref h), (1, .int (x)), (2, .int (u)), (3, .int (y)), (4, .int (v))] [] _ Psi
  refine go_aload_n (pc := 0) 0 0 rfl rfl eX_needTwoPages_0 ?_
  refine go_iload_n (pc := 1) 1 1 rfl rfl eX_needTwoPages_1 ?_
  exact go_tV (pc := 2) 0 (t_needSpace x hx) okX_needSpace lmX_52 eX_needTwoPages_2 rfl rfl rfl rfl rfl (Nat.le_of_ble_eq_true rfl) (Nat.le_of_ble_eq_true rfl) (by omega) (by omega) hf
set_option maxRecDepth 100000 in
set_option maxHeartbeats 1000000 in
theorem t_needTwo2 (s : Nat) (hs : s < 6) (hsp : sp (48 + s) = true) (x : Int32) (hx : ∀ j, j < 6 → x = nI j → sp (48 + j) = false) (u v : Int32) : Thr (gg D cI cB cL bb L xs) mX_needTwoPages (n + 3) 1 6 [.ref h, .int (nI s), .int (u), .int (x), .int (v)] (xW cI cB h a1 a2 a3 a4 a5 F c fo sp pi rest) "java/util/NoSuchElementException" := by
  intro Psi hf
  show Go _ _ _ _ _ 0 [(0, .ref h), (1, .int (nI s)), (2, .int (u)), (3, .int (x)), (4, .int (v))] [] _ Psi
  refine go_aload_n (pc := 0) 0 0 rfl rfl eX_needTwoPages_0 ?_
  refine go_iload_n (pc := 1) 1 1 rfl rfl eX_needTwoPages_1 ?_
  refine go_rV0 (pc := 2) 0 (c_needSpace s hs hsp) okX_needSpace lmX_52 eX_needTwoPages_2 rfl rfl rfl rfl rfl (Nat.le_of_ble_eq_true rfl) (Nat.le_of_ble_eq_true rfl) ?_
  refine go_aload_n (pc := 5) 0 0 rfl rfl eX_needTwoPages_5 ?_
  refine go_iload_n (pc := 6) 3 3 rfl rfl eX_needTwoPages_6 ?_
  exact go_tV (pc := 7) 0 (t_needSpace x hx) okX_needSpace lmX_52 eX_needTwoPages_7 rfl rfl rfl rfl rfl (Nat.le_of_ble_eq_true rfl) (Nat.le_of_ble_eq_true rfl) (by omega) (by omega) hf
set_option maxRecDepth 100000 in
set_option maxHeartbeats 1000000 in
theorem t_needTwo3 (s : Nat) (hs : s < 6) (hsp : sp (48 + s) = true) (t : Nat) (ht : t < 6) (htp : sp (48 + t) = true) (x : Int32) (hx : ∀ j, j < 8 → x ≠ nI j) (v : Int32) : Thr (gg D cI cB cL bb L xs) mX_needTwoPages (n + 3) 1 6 [.ref h, .int (nI s), .int (x), .int (nI t), .int (v)] (xW cI cB h a1 a2 a3 a4 a5 F c fo sp pi rest) "java/lang/IndexOutOfBoundsException" := by
  intro Psi hf
  show Go _ _ _ _ _ 0 [(0, .ref h), (1, .int (nI s)), (2, .int (x)), (3, .int (nI t)), (4, .int (v))] [] _ Psi
  refine go_aload_n (pc := 0) 0 0 rfl rfl eX_needTwoPages_0 ?_
  refine go_iload_n (pc := 1) 1 1 rfl rfl eX_needTwoPages_1 ?_
  refine go_rV0 (pc := 2) 0 (c_needSpace s hs hsp) okX_needSpace lmX_52 eX_needTwoPages_2 rfl rfl rfl rfl rfl (Nat.le_of_ble_eq_true rfl) (Nat.le_of_ble_eq_true rfl) ?_
  refine go_aload_n (pc := 5) 0 0 rfl rfl eX_needTwoPages_5 ?_
  refine go_iload_n (pc := 6) 3 3 rfl rfl eX_needTwoPages_6 ?_
  refine go_rV0 (pc := 7) 0 (c_needSpace t ht htp) okX_needSpace lmX_52 eX_needTwoPages_7 rfl rfl rfl rfl rfl (Nat.le_of_ble_eq_true rfl) (Nat.le_of_ble_eq_true rfl) ?_
  refine go_aload_n (pc := 10) 0 0 rfl rfl eX_needTwoPages_10 ?_
  refine go_iload_n (pc := 11) 2 2 rfl rfl eX_needTwoPages_11 ?_
  exact go_tV (pc := 12) 0 (t_needPage x hx) okX_needPage lmX_67 eX_needTwoPages_12 rfl rfl rfl rfl rfl (Nat.le_of_ble_eq_true rfl) (Nat.le_of_ble_eq_true rfl) (by omega) (by omega) hf
set_option maxRecDepth 100000 in
set_option maxHeartbeats 1000000 in
theorem t_needTwo4 (s : Nat) (hs : s < 6) (hsp : sp (48 + s) = true) (t : Nat) (ht : t < 6) (htp : sp (48 + t) = true) (p : Nat) (hp : p < 8) (x : Int32) (hx : ∀ j, j < 8 → x ≠ nI j) : Thr (gg D cI cB cL bb L xs) mX_needTwoPages (n + 3) 1 6 [.ref h, .int (nI s), .int (nI p), .int (nI t), .int (x)] (xW cI cB h a1 a2 a3 a4 a5 F c fo sp pi rest) "java/lang/IndexOutOfBoundsException" := by
  intro Psi hf
  show Go _ _ _ _ _ 0 [(0, .ref h), (1, .int (nI s)), (2, .int (nI p)), (3, .int (nI t)), (4, .int (x))] [] _ Psi
  refine go_aload_n (pc := 0) 0 0 rfl rfl eX_needTwoPages_0 ?_
  refine go_iload_n (pc := 1) 1 1 rfl rfl eX_needTwoPages_1 ?_
  refine go_rV0 (pc := 2) 0 (c_needSpace s hs hsp) okX_needSpace lmX_52 eX_needTwoPages_2 rfl rfl rfl rfl rfl (Nat.le_of_ble_eq_true rfl) (Nat.le_of_ble_eq_true rfl) ?_
  refine go_aload_n (pc := 5) 0 0 rfl rfl eX_needTwoPages_5 ?_
  refine go_iload_n (pc := 6) 3 3 rfl rfl eX_needTwoPages_6 ?_
  refine go_rV0 (pc := 7) 0 (c_needSpace t ht htp) okX_needSpace lmX_52 eX_needTwoPages_7 rfl rfl rfl rfl rfl (Nat.le_of_ble_eq_true rfl) (Nat.le_of_ble_eq_true rfl) ?_
  refine go_aload_n (pc := 10) 0 0 rfl rfl eX_needTwoPages_10 ?_
  refine go_iload_n (pc := 11) 2 2 rfl rfl eX_needTwoPages_11 ?_
  refine go_rV0 (pc := 12) 0 (c_needPage p hp) okX_needPage lmX_67 eX_needTwoPages_12 rfl rfl rfl rfl rfl (Nat.le_of_ble_eq_true rfl) (Nat.le_of_ble_eq_true rfl) ?_
  refine go_aload_n (pc := 15) 0 0 rfl rfl eX_needTwoPages_15 ?_
  refine go_iload (pc := 16) 4 4 rfl eX_needTwoPages_16 ?_
  exact go_tV (pc := 18) 0 (t_needPage x hx) okX_needPage lmX_67 eX_needTwoPages_18 rfl rfl rfl rfl rfl (Nat.le_of_ble_eq_true rfl) (Nat.le_of_ble_eq_true rfl) (by omega) (by omega) hf
set_option maxRecDepth 100000 in
set_option maxHeartbeats 1000000 in
theorem c_nha (hF : F ≤ 60) (hfo : ∀ k j, fo k = some j → j < F) (s : Nat) (hs : s < 6) (hsp : sp (48 + s) = true) (a : Nat) (ha : a < 128) (hfr : (fo (384 + s * 8 + a / 16)).isSome = true) : Ret (gg D cI cB cL bb L xs) mX_needHolderAt (n + 3) 0 0 [.ref h, .int (nI s), .int (nI a)] (xW cI cB h a1 a2 a3 a4 a5 F c fo sp pi rest) (some (.int (nI (384 + s * 8 + a / 16)))) (xW cI cB h a1 a2 a3 a4 a5 F c fo sp pi rest) := by
  intro Psi hf
  show Go _ _ _ _ _ 0 [(0, .ref h), (1, .int (nI s)), (2, .int (nI a))] [] _ Psi
  refine go_iload_n (pc := 0) 2 2 rfl rfl eX_needHolderAt_0 ?_
  refine go_if_lt (pc := 1) 11 (by decide) eX_needHolderAt_1 (fun c1 => ?_) (fun c1 => ?_)
  · exact absurd c1 (nI_pos (by omega))
  · refine go_iload_n (pc := 4) 2 2 rfl rfl eX_needHolderAt_4 ?_
    refine go_sipush (pc := 5) (v := 128) (by decide) eX_needHolderAt_5 ?_
    refine go_icmp_lt (pc := 8) 21 (by decide) eX_needHolderAt_8 (fun c8 => ?_) (fun c8 => ?_)
    · refine go_aload_n (pc := 21) 0 0 rfl rfl eX_needHolderAt_21 ?_
      refine go_iload_n (pc := 22) 1 1 rfl rfl eX_needHolderAt_22 ?_
      refine go_rV0 (pc := 23) 0 (c_needSpace s hs hsp) okX_needSpace lmX_52 eX_needHolderAt_23 rfl rfl rfl rfl rfl (Nat.le_of_ble_eq_true rfl) (Nat.le_of_ble_eq_true rfl) ?_
      refine go_iload_n (pc := 26) 1 1 rfl rfl eX_needHolderAt_26 ?_
      refine go_iload_n (pc := 27) 2 2 rfl rfl eX_needHolderAt_27 ?_
      refine go_bipush (pc := 28) (v := 16) (by decide) eX_needHolderAt_28 ?_
      refine go_idiv (pc := 30) (by decide) eX_needHolderAt_30 ?_
      rw [show (16 : Int32) = nI 16 from rfl, pk_div (a := a) (d := 16) (by omega) (by omega) (by omega)]
      refine go_rS (pc := 31) (c_pageNow s (a / 16)) okX_pageNow lmX_56 eX_needHolderAt_31 rfl rfl (Nat.le_of_ble_eq_true rfl) (Nat.le_of_ble_eq_true rfl) ?_
      refine go_istore_n (pc := 34) (ls' := [(3, _), (0, _), (1, _), (2, _)]) 3 rfl (by decide) eX_needHolderAt_34 rfl ?_
      refine go_aload_n (pc := 35) 0 1 rfl rfl eX_needHolderAt_35 ?_
      refine go_aload_n (pc := 36) 0 1 rfl rfl eX_needHolderAt_36 ?_
      refine go_get (pc := 37) hwX 0 rfl rfl 3 (by decide) lkX_29 rfl eX_needHolderAt_37 ?_
      refine go_iload_n (pc := 40) 3 0 rfl rfl eX_needHolderAt_40 ?_
      refine go_ialdN (pc := 41) 3 0 (384 + s * 8 + a / 16) eX_needHolderAt_41 rfl rfl (rfl) (by omega) (by omega) ?_
      refine go_rV (pc := 42) 0 (c_isFrame hF _ (hfo _)) okX_isFrame lmX_70 eX_needHolderAt_42 rfl rfl rfl rfl rfl (Nat.le_of_ble_eq_true rfl) (Nat.le_of_ble_eq_true rfl) ?_
      refine go_if_ne (pc := 45) 58 (by decide) eX_needHolderAt_45 (fun c45 => ?_) (fun c45 => ?_)
      · refine go_iload_n (pc := 58) 3 0 rfl rfl eX_needHolderAt_58 ?_
        exact go_iret (pc := 59) rfl rfl eX_needHolderAt_59 (hf)
      · exact absurd (bI0.mp c45) (by rw [hfr]; decide)
    · exact absurd (nI_lt (b := 128) ha (by omega)) c8
set_option maxRecDepth 100000 in
set_option maxHeartbeats 1000000 in
theorem t_nha3 (hF : F ≤ 60) (hfo : ∀ k j, fo k = some j → j < F) (s : Nat) (hs : s < 6) (hsp : sp (48 + s) = true) (a : Nat) (ha : a < 128) (hfr : (fo (384 + s * 8 + a / 16)).isSome = false) : Thr (gg D cI cB cL bb L xs) mX_needHolderAt (n + 3) 1 6 [.ref h, .int (nI s), .int (nI a)] (xW cI cB h a1 a2 a3 a4 a5 F c fo sp pi rest) "java/util/NoSuchElementException" := by
  intro Psi hf
  show Go _ _ _ _ _ 0 [(0, .ref h), (1, .int (nI s)), (2, .int (nI a))] [] _ Psi
  refine go_iload_n (pc := 0) 2 2 rfl rfl eX_needHolderAt_0 ?_
  refine go_if_lt (pc := 1) 11 (by decide) eX_needHolderAt_1 (fun c1 => ?_) (fun c1 => ?_)
  · exact absurd c1 (nI_pos (by omega))
  · refine go_iload_n (pc := 4) 2 2 rfl rfl eX_needHolderAt_4 ?_
    refine go_sipush (pc := 5) (v := 128) (by decide) eX_needHolderAt_5 ?_
    refine go_icmp_lt (pc := 8) 21 (by decide) eX_needHolderAt_8 (fun c8 => ?_) (fun c8 => ?_)
    · refine go_aload_n (pc := 21) 0 0 rfl rfl eX_needHolderAt_21 ?_
      refine go_iload_n (pc := 22) 1 1 rfl rfl eX_needHolderAt_22 ?_
      refine go_rV0 (pc := 23) 0 (c_needSpace s hs hsp) okX_needSpace lmX_52 eX_needHolderAt_23 rfl rfl rfl rfl rfl (Nat.le_of_ble_eq_true rfl) (Nat.le_of_ble_eq_true rfl) ?_
      refine go_iload_n (pc := 26) 1 1 rfl rfl eX_needHolderAt_26 ?_
      refine go_iload_n (pc := 27) 2 2 rfl rfl eX_needHolderAt_27 ?_
      refine go_bipush (pc := 28) (v := 16) (by decide) eX_needHolderAt_28 ?_
      refine go_idiv (pc := 30) (by decide) eX_needHolderAt_30 ?_
      rw [show (16 : Int32) = nI 16 from rfl, pk_div (a := a) (d := 16) (by omega) (by omega) (by omega)]
      refine go_rS (pc := 31) (c_pageNow s (a / 16)) okX_pageNow lmX_56 eX_needHolderAt_31 rfl rfl (Nat.le_of_ble_eq_true rfl) (Nat.le_of_ble_eq_true rfl) ?_
      refine go_istore_n (pc := 34) (ls' := [(3, _), (0, _), (1, _), (2, _)]) 3 rfl (by decide) eX_needHolderAt_34 rfl ?_
      refine go_aload_n (pc := 35) 0 1 rfl rfl eX_needHolderAt_35 ?_
      refine go_aload_n (pc := 36) 0 1 rfl rfl eX_needHolderAt_36 ?_
      refine go_get (pc := 37) hwX 0 rfl rfl 3 (by decide) lkX_29 rfl eX_needHolderAt_37 ?_
      refine go_iload_n (pc := 40) 3 0 rfl rfl eX_needHolderAt_40 ?_
      refine go_ialdN (pc := 41) 3 0 (384 + s * 8 + a / 16) eX_needHolderAt_41 rfl rfl (rfl) (by omega) (by omega) ?_
      refine go_rV (pc := 42) 0 (c_isFrame hF _ (hfo _)) okX_isFrame lmX_70 eX_needHolderAt_42 rfl rfl rfl rfl rfl (Nat.le_of_ble_eq_true rfl) (Nat.le_of_ble_eq_true rfl) ?_
      refine go_if_ne (pc := 45) 58 (by decide) eX_needHolderAt_45 (fun c45 => ?_) (fun c45 => ?_)
      · exact absurd (bI0.mpr hfr) c45
      · exact go_throw (pc := 48) (E := "java/util/NoSuchElementException") (tx := "this page is absent") (by decide) clX_127 it_NoSuchElementException in_NoSuchElementException atX_131 rfl (by omega) (by omega) (Nat.le_of_ble_eq_true rfl) eX_needHolderAt_48 eX_needHolderAt_51 eX_needHolderAt_52 eX_needHolderAt_54 eX_needHolderAt_57 hf
    · exact absurd (nI_lt (b := 128) ha (by omega)) c8
set_option maxRecDepth 100000 in
set_option maxHeartbeats 1000000 in
theorem t_nha2 (x : Int32) (hx : ∀ j, j < 6 → x = nI j → sp (48 + j) = false) (a : Nat) (ha : a < 128) : Thr (gg D cI cB cL bb L xs) mX_needHolderAt (n + 3) 1 6 [.ref h, .int (x), .int (nI a)] (xW cI cB h a1 a2 a3 a4 a5 F c fo sp pi rest) "java/util/NoSuchElementException" := by
  intro Psi hf
  show Go _ _ _ _ _ 0 [(0, .ref h), (1, .int (x)), (2, .int (nI a))] [] _ Psi
  refine go_iload_n (pc := 0) 2 2 rfl rfl eX_needHolderAt_0 ?_
  refine go_if_lt (pc := 1) 11 (by decide) eX_needHolderAt_1 (fun c1 => ?_) (fun c1 => ?_)
  · exact absurd c1 (nI_pos (by omega))
  · refine go_iload_n (pc := 4) 2 2 rfl rfl eX_needHolderAt_4 ?_
    refine go_sipush (pc := 5) (v := 128) (by decide) eX_needHolderAt_5 ?_
    refine go_icmp_lt (pc := 8) 21 (by decide) eX_needHolderAt_8 (fun c8 => ?_) (fun c8 => ?_)
    · refine go_aload_n (pc := 21) 0 0 rfl rfl eX_needHolderAt_21 ?_
      refine go_iload_n (pc := 22) 1 1 rfl rfl eX_needHolderAt_22 ?_
      exact go_tV (pc := 23) 0 (t_needSpace x hx) okX_needSpace lmX_52 eX_needHolderAt_23 rfl rfl rfl rfl rfl (Nat.le_of_ble_eq_true rfl) (Nat.le_of_ble_eq_true rfl) (by omega) (by omega) hf
    · exact absurd (nI_lt (b := 128) ha (by omega)) c8
set_option maxRecDepth 100000 in
set_option maxHeartbeats 1000000 in
theorem t_nha1 (y x : Int32) (hx : ∀ j, j < 128 → x ≠ nI j) : Thr (gg D cI cB cL bb L xs) mX_needHolderAt (n + 3) 1 6 [.ref h, .int (y), .int (x)] (xW cI cB h a1 a2 a3 a4 a5 F c fo sp pi rest) "java/lang/IndexOutOfBoundsException" := by
  intro Psi hf
  show Go _ _ _ _ _ 0 [(0, .ref h), (1, .int (y)), (2, .int (x))] [] _ Psi
  refine go_iload_n (pc := 0) 2 2 rfl rfl eX_needHolderAt_0 ?_
  refine go_if_lt (pc := 1) 11 (by decide) eX_needHolderAt_1 (fun c1 => ?_) (fun c1 => ?_)
  · exact go_throw (pc := 11) (E := "java/lang/IndexOutOfBoundsException") (tx := "an address is 0 to 127") (by decide) clX_134 it_IndexOutOfBoundsException in_IndexOutOfBoundsException atX_138 rfl (by omega) (by omega) (Nat.le_of_ble_eq_true rfl) eX_needHolderAt_11 eX_needHolderAt_14 eX_needHolderAt_15 eX_needHolderAt_17 eX_needHolderAt_20 hf
  · refine go_iload_n (pc := 4) 2 2 rfl rfl eX_needHolderAt_4 ?_
    refine go_sipush (pc := 5) (v := 128) (by decide) eX_needHolderAt_5 ?_
    refine go_icmp_lt (pc := 8) 21 (by decide) eX_needHolderAt_8 (fun c8 => ?_) (fun c8 => ?_)
    · rcases pk_ix x (n := 128) (by omega) with q | q | ⟨j, hj, q⟩
      · exact absurd q c1
      · exact absurd c8 (Int32.not_lt.mpr q)
      · exact absurd q (hx j hj)
    · exact go_throw (pc := 11) (E := "java/lang/IndexOutOfBoundsException") (tx := "an address is 0 to 127") (by decide) clX_134 it_IndexOutOfBoundsException in_IndexOutOfBoundsException atX_138 rfl (by omega) (by omega) (Nat.le_of_ble_eq_true rfl) eX_needHolderAt_11 eX_needHolderAt_14 eX_needHolderAt_15 eX_needHolderAt_17 eX_needHolderAt_20 hf
end Sxc
