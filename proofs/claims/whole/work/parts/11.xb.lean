section Sxb
variable {D : va_G} {cI cB cL : ClassId} {bb L : Nat} {xs : Nat → Int32} {n h a1 a2 a3 a4 a5 F : Nat} {c : Nat → Int32} {fo : Nat → Option Nat} {sp pi : Nat → Bool} {rest es : va_W} {f1 f2 f3 f4 f5 : Nat → Int32}
theorem bI0 {b : Bool} : bI b = 0 ↔ b = false := by cases b <;> decide
theorem bI1 {b : Bool} (h : ¬ bI b = 0) : b = true := by cases b with
  | true => rfl
  | false => exact absurd rfl h
theorem nI_z {a : Nat} (h : a < 2 ^ 31) : nI a = 0 ↔ a = 0 := by
  rw [← nI_0]; exact nI_eq h (by omega)
theorem nI_z1 {a : Nat} (h : a < 2 ^ 31) : nI a = 1 ↔ a = 1 := by
  rw [show (1 : Int32) = nI 1 from rfl]; exact nI_eq h (by omega)
theorem nI_lz {a : Nat} (h : a < 2 ^ 31) : nI a ≤ 0 ↔ a = 0 := by
  rw [← nI_0, nI_leI h (by omega)]; omega
theorem hc31 (fo : Nat → Option Nat) (j : Nat) : hcnt fo j < 2 ^ 31 := Nat.lt_of_le_of_lt (hcnt_le fo j) (by decide)
theorem gcnt_s {p : Nat → Bool} {i : Nat} (h : p i = true) : gcnt p (i + 1) = gcnt p i + 1 := by
  show gcnt p i + (if p i then 1 else 0) = _
  rw [h]; rfl
theorem gcnt_n {p : Nat → Bool} {i : Nat} (h : p i = false) : gcnt p (i + 1) = gcnt p i := by
  show gcnt p i + (if p i then 1 else 0) = _
  rw [h]; rfl
set_option maxRecDepth 100000 in
set_option maxHeartbeats 1000000 in
theorem l_lmsA (j : Nat) (hj : j < 6) (hj0 : sp (48 + j) = false) (hlt : ∀ q, q < j → sp (48 + q) = true) {Psi : gR → va_W → Prop} (hf : Psi (.inl (some (.int (nI j)))) (xW cI cB h a1 a2 a3 a4 a5 F c fo sp pi rest)) : ∀ (m i : Nat), i + m = j → Go (gg D cI cB cL bb L xs) mX_leastMissingSpace (n + 1) 0 0 2 [(1, .int (nI i)), (0, .ref h)] [] (xW cI cB h a1 a2 a3 a4 a5 F c fo sp pi rest) Psi := by
  intro m
  induction m with
  | zero =>
    intro i hi
    obtain rfl : i = j := by omega
    refine go_iload_n (pc := 2) 1 0 rfl rfl eX_leastMissingSpace_2 ?_
    refine go_bipush (pc := 3) (v := 6) (by decide) eX_leastMissingSpace_3 ?_
    refine go_icmp_ge (pc := 5) 30 (by decide) eX_leastMissingSpace_5 (fun c5 => ?_) (fun c5 => ?_)
    · exact absurd c5 (nI_ge (b := 6) (by omega) (by omega))
    · refine go_aload_n (pc := 8) 0 1 rfl rfl eX_leastMissingSpace_8 ?_
      refine go_get (pc := 9) hwX 0 rfl rfl 4 (by decide) lkX_38 rfl eX_leastMissingSpace_9 ?_
      refine go_bipush (pc := 12) (v := 8) (by decide) eX_leastMissingSpace_12 ?_
      refine go_iload_n (pc := 14) 1 0 rfl rfl eX_leastMissingSpace_14 ?_
      refine go_rS (pc := 15) (c_spaceIndex 8 i) okX_spaceIndex lmX_49 eX_leastMissingSpace_15 rfl rfl (Nat.le_of_ble_eq_true rfl) (Nat.le_of_ble_eq_true rfl) ?_
      refine go_zaldN (pc := 18) 4 1 (48 + i) eX_leastMissingSpace_18 rfl rfl (rfl) (by omega) (by omega) ?_
      refine go_if_ne (pc := 19) 24 (by decide) eX_leastMissingSpace_19 (fun c19 => ?_) (fun c19 => ?_)
      · exact absurd (bI0.mpr hj0) c19
      · refine go_iload_n (pc := 22) 1 0 rfl rfl eX_leastMissingSpace_22 ?_
        exact go_iret (pc := 23) rfl rfl eX_leastMissingSpace_23 (hf)
  | succ m ih =>
    intro i hi
    refine go_iload_n (pc := 2) 1 0 rfl rfl eX_leastMissingSpace_2 ?_
    refine go_bipush (pc := 3) (v := 6) (by decide) eX_leastMissingSpace_3 ?_
    refine go_icmp_ge (pc := 5) 30 (by decide) eX_leastMissingSpace_5 (fun c5 => ?_) (fun c5 => ?_)
    · exact absurd c5 (nI_ge (b := 6) (by omega) (by omega))
    · refine go_aload_n (pc := 8) 0 1 rfl rfl eX_leastMissingSpace_8 ?_
      refine go_get (pc := 9) hwX 0 rfl rfl 4 (by decide) lkX_38 rfl eX_leastMissingSpace_9 ?_
      refine go_bipush (pc := 12) (v := 8) (by decide) eX_leastMissingSpace_12 ?_
      refine go_iload_n (pc := 14) 1 0 rfl rfl eX_leastMissingSpace_14 ?_
      refine go_rS (pc := 15) (c_spaceIndex 8 i) okX_spaceIndex lmX_49 eX_leastMissingSpace_15 rfl rfl (Nat.le_of_ble_eq_true rfl) (Nat.le_of_ble_eq_true rfl) ?_
      refine go_zaldN (pc := 18) 4 1 (48 + i) eX_leastMissingSpace_18 rfl rfl (rfl) (by omega) (by omega) ?_
      refine go_if_ne (pc := 19) 24 (by decide) eX_leastMissingSpace_19 (fun c19 => ?_) (fun c19 => ?_)
      · refine go_iinc (pc := 24) (z := 1) (v := nI (i + 1)) (ls' := [(1, _), (0, _)]) 1 0 rfl (nI_1 i) (by decide) eX_leastMissingSpace_24 rfl ?_
        refine go_goto (pc := 27) 2 (by decide) eX_leastMissingSpace_27 ?_
        exact ih (i + 1) (by omega)
      · exact absurd (bI0.mp c19) (by rw [hlt i (by omega)]; decide)
set_option maxRecDepth 100000 in
set_option maxHeartbeats 1000000 in
theorem c_lmsA (j : Nat) (hj : j < 6) (hj0 : sp (48 + j) = false) (hlt : ∀ q, q < j → sp (48 + q) = true) : Ret (gg D cI cB cL bb L xs) mX_leastMissingSpace (n + 1) 0 0 [.ref h] (xW cI cB h a1 a2 a3 a4 a5 F c fo sp pi rest) (some (.int (nI j))) (xW cI cB h a1 a2 a3 a4 a5 F c fo sp pi rest) := by
  intro Psi hf
  show Go _ _ _ _ _ 0 [(0, .ref h)] [] _ Psi
  refine go_iconst (pc := 0) (v := 0) (by decide) eX_leastMissingSpace_0 ?_
  refine go_istore_n (pc := 1) (ls' := [(1, _), (0, _)]) 1 rfl (by decide) eX_leastMissingSpace_1 rfl ?_
  exact l_lmsA j hj hj0 hlt hf j 0 (by omega)
set_option maxRecDepth 100000 in
set_option maxHeartbeats 1000000 in
theorem l_lmsB (hlt : ∀ q, q < 6 → sp (48 + q) = true) {Psi : gR → va_W → Prop} (hf : Psi (.inl (some (.int (-1)))) (xW cI cB h a1 a2 a3 a4 a5 F c fo sp pi rest)) : ∀ (m i : Nat), i + m = 6 → Go (gg D cI cB cL bb L xs) mX_leastMissingSpace (n + 1) 0 0 2 [(1, .int (nI i)), (0, .ref h)] [] (xW cI cB h a1 a2 a3 a4 a5 F c fo sp pi rest) Psi := by
  intro m
  induction m with
  | zero =>
    intro i hi
    obtain rfl : i = 6 := by omega
    refine go_iload_n (pc := 2) 1 0 rfl rfl eX_leastMissingSpace_2 ?_
    refine go_bipush (pc := 3) (v := 6) (by decide) eX_leastMissingSpace_3 ?_
    refine go_icmp_ge (pc := 5) 30 (by decide) eX_leastMissingSpace_5 (fun c5 => ?_) (fun c5 => ?_)
    · refine go_iconst (pc := 30) (v := (-1)) (by decide) eX_leastMissingSpace_30 ?_
      exact go_iret (pc := 31) rfl rfl eX_leastMissingSpace_31 (hf)
    · exact absurd (show (6 : Int32) ≤ nI 6 by decide) c5
  | succ m ih =>
    intro i hi
    refine go_iload_n (pc := 2) 1 0 rfl rfl eX_leastMissingSpace_2 ?_
    refine go_bipush (pc := 3) (v := 6) (by decide) eX_leastMissingSpace_3 ?_
    refine go_icmp_ge (pc := 5) 30 (by decide) eX_leastMissingSpace_5 (fun c5 => ?_) (fun c5 => ?_)
    · exact absurd c5 (nI_ge (b := 6) (by omega) (by omega))
    · refine go_aload_n (pc := 8) 0 1 rfl rfl eX_leastMissingSpace_8 ?_
      refine go_get (pc := 9) hwX 0 rfl rfl 4 (by decide) lkX_38 rfl eX_leastMissingSpace_9 ?_
      refine go_bipush (pc := 12) (v := 8) (by decide) eX_leastMissingSpace_12 ?_
      refine go_iload_n (pc := 14) 1 0 rfl rfl eX_leastMissingSpace_14 ?_
      refine go_rS (pc := 15) (c_spaceIndex 8 i) okX_spaceIndex lmX_49 eX_leastMissingSpace_15 rfl rfl (Nat.le_of_ble_eq_true rfl) (Nat.le_of_ble_eq_true rfl) ?_
      refine go_zaldN (pc := 18) 4 1 (48 + i) eX_leastMissingSpace_18 rfl rfl (rfl) (by omega) (by omega) ?_
      refine go_if_ne (pc := 19) 24 (by decide) eX_leastMissingSpace_19 (fun c19 => ?_) (fun c19 => ?_)
      · refine go_iinc (pc := 24) (z := 1) (v := nI (i + 1)) (ls' := [(1, _), (0, _)]) 1 0 rfl (nI_1 i) (by decide) eX_leastMissingSpace_24 rfl ?_
        refine go_goto (pc := 27) 2 (by decide) eX_leastMissingSpace_27 ?_
        exact ih (i + 1) (by omega)
      · exact absurd (bI0.mp c19) (by rw [hlt i (by omega)]; decide)
set_option maxRecDepth 100000 in
set_option maxHeartbeats 1000000 in
theorem c_lmsB (hlt : ∀ q, q < 6 → sp (48 + q) = true) : Ret (gg D cI cB cL bb L xs) mX_leastMissingSpace (n + 1) 0 0 [.ref h] (xW cI cB h a1 a2 a3 a4 a5 F c fo sp pi rest) (some (.int (-1))) (xW cI cB h a1 a2 a3 a4 a5 F c fo sp pi rest) := by
  intro Psi hf
  show Go _ _ _ _ _ 0 [(0, .ref h)] [] _ Psi
  refine go_iconst (pc := 0) (v := 0) (by decide) eX_leastMissingSpace_0 ?_
  refine go_istore_n (pc := 1) (ls' := [(1, _), (0, _)]) 1 rfl (by decide) eX_leastMissingSpace_1 rfl ?_
  exact l_lmsB hlt hf 6 0 (by omega)
set_option maxRecDepth 100000 in
set_option maxHeartbeats 1000000 in
theorem l_lmpA (j : Nat) (hj : j < 8) (hj0 : pi j = false) (hlt : ∀ q, q < j → pi q = true) {Psi : gR → va_W → Prop} (hf : Psi (.inl (some (.int (nI j)))) (xW cI cB h a1 a2 a3 a4 a5 F c fo sp pi rest)) : ∀ (m i : Nat), i + m = j → Go (gg D cI cB cL bb L xs) mX_leastMissingPicture n 0 0 2 [(1, .int (nI i)), (0, .ref h)] [] (xW cI cB h a1 a2 a3 a4 a5 F c fo sp pi rest) Psi := by
  intro m
  induction m with
  | zero =>
    intro i hi
    obtain rfl : i = j := by omega
    refine go_iload_n (pc := 2) 1 0 rfl rfl eX_leastMissingPicture_2 ?_
    refine go_bipush (pc := 3) (v := 8) (by decide) eX_leastMissingPicture_3 ?_
    refine go_icmp_ge (pc := 5) 25 (by decide) eX_leastMissingPicture_5 (fun c5 => ?_) (fun c5 => ?_)
    · exact absurd c5 (nI_ge (b := 8) (by omega) (by omega))
    · refine go_aload_n (pc := 8) 0 1 rfl rfl eX_leastMissingPicture_8 ?_
      refine go_get (pc := 9) hwX 0 rfl rfl 5 (by decide) lkX_42 rfl eX_leastMissingPicture_9 ?_
      refine go_iload_n (pc := 12) 1 0 rfl rfl eX_leastMissingPicture_12 ?_
      refine go_zaldN (pc := 13) 5 1 (i) eX_leastMissingPicture_13 rfl rfl (rfl) (by omega) (by omega) ?_
      refine go_if_ne (pc := 14) 19 (by decide) eX_leastMissingPicture_14 (fun c14 => ?_) (fun c14 => ?_)
      · exact absurd (bI0.mpr hj0) c14
      · refine go_iload_n (pc := 17) 1 0 rfl rfl eX_leastMissingPicture_17 ?_
        exact go_iret (pc := 18) rfl rfl eX_leastMissingPicture_18 (hf)
  | succ m ih =>
    intro i hi
    refine go_iload_n (pc := 2) 1 0 rfl rfl eX_leastMissingPicture_2 ?_
    refine go_bipush (pc := 3) (v := 8) (by decide) eX_leastMissingPicture_3 ?_
    refine go_icmp_ge (pc := 5) 25 (by decide) eX_leastMissingPicture_5 (fun c5 => ?_) (fun c5 => ?_)
    · exact absurd c5 (nI_ge (b := 8) (by omega) (by omega))
    · refine go_aload_n (pc := 8) 0 1 rfl rfl eX_leastMissingPicture_8 ?_
      refine go_get (pc := 9) hwX 0 rfl rfl 5 (by decide) lkX_42 rfl eX_leastMissingPicture_9 ?_
      refine go_iload_n (pc := 12) 1 0 rfl rfl eX_leastMissingPicture_12 ?_
      refine go_zaldN (pc := 13) 5 1 (i) eX_leastMissingPicture_13 rfl rfl (rfl) (by omega) (by omega) ?_
      refine go_if_ne (pc := 14) 19 (by decide) eX_leastMissingPicture_14 (fun c14 => ?_) (fun c14 => ?_)
      · refine go_iinc (pc := 19) (z := 1) (v := nI (i + 1)) (ls' := [(1, _), (0, _)]) 1 0 rfl (nI_1 i) (by decide) eX_leastMissingPicture_19 rfl ?_
        refine go_goto (pc := 22) 2 (by decide) eX_leastMissingPicture_22 ?_
        exact ih (i + 1) (by omega)
      · exact absurd (bI0.mp c14) (by rw [hlt i (by omega)]; decide)
set_option maxRecDepth 100000 in
set_option maxHeartbeats 1000000 in
theorem c_lmpA (j : Nat) (hj : j < 8) (hj0 : pi j = false) (hlt : ∀ q, q < j → pi q = true) : Ret (gg D cI cB cL bb L xs) mX_leastMissingPicture n 0 0 [.ref h] (xW cI cB h a1 a2 a3 a4 a5 F c fo sp pi rest) (some (.int (nI j))) (xW cI cB h a1 a2 a3 a4 a5 F c fo sp pi rest) := by
  intro Psi hf
  show Go _ _ _ _ _ 0 [(0, .ref h)] [] _ Psi
  refine go_iconst (pc := 0) (v := 0) (by decide) eX_leastMissingPicture_0 ?_
  refine go_istore_n (pc := 1) (ls' := [(1, _), (0, _)]) 1 rfl (by decide) eX_leastMissingPicture_1 rfl ?_
  exact l_lmpA j hj hj0 hlt hf j 0 (by omega)
set_option maxRecDepth 100000 in
set_option maxHeartbeats 1000000 in
theorem l_lmpB (hlt : ∀ q, q < 8 → pi q = true) {Psi : gR → va_W → Prop} (hf : Psi (.inl (some (.int (-1)))) (xW cI cB h a1 a2 a3 a4 a5 F c fo sp pi rest)) : ∀ (m i : Nat), i + m = 8 → Go (gg D cI cB cL bb L xs) mX_leastMissingPicture n 0 0 2 [(1, .int (nI i)), (0, .ref h)] [] (xW cI cB h a1 a2 a3 a4 a5 F c fo sp pi rest) Psi := by
  intro m
  induction m with
  | zero =>
    intro i hi
    obtain rfl : i = 8 := by omega
    refine go_iload_n (pc := 2) 1 0 rfl rfl eX_leastMissingPicture_2 ?_
    refine go_bipush (pc := 3) (v := 8) (by decide) eX_leastMissingPicture_3 ?_
    refine go_icmp_ge (pc := 5) 25 (by decide) eX_leastMissingPicture_5 (fun c5 => ?_) (fun c5 => ?_)
    · refine go_iconst (pc := 25) (v := (-1)) (by decide) eX_leastMissingPicture_25 ?_
      exact go_iret (pc := 26) rfl rfl eX_leastMissingPicture_26 (hf)
    · exact absurd (show (8 : Int32) ≤ nI 8 by decide) c5
  | succ m ih =>
    intro i hi
    refine go_iload_n (pc := 2) 1 0 rfl rfl eX_leastMissingPicture_2 ?_
    refine go_bipush (pc := 3) (v := 8) (by decide) eX_leastMissingPicture_3 ?_
    refine go_icmp_ge (pc := 5) 25 (by decide) eX_leastMissingPicture_5 (fun c5 => ?_) (fun c5 => ?_)
    · exact absurd c5 (nI_ge (b := 8) (by omega) (by omega))
    · refine go_aload_n (pc := 8) 0 1 rfl rfl eX_leastMissingPicture_8 ?_
      refine go_get (pc := 9) hwX 0 rfl rfl 5 (by decide) lkX_42 rfl eX_leastMissingPicture_9 ?_
      refine go_iload_n (pc := 12) 1 0 rfl rfl eX_leastMissingPicture_12 ?_
      refine go_zaldN (pc := 13) 5 1 (i) eX_leastMissingPicture_13 rfl rfl (rfl) (by omega) (by omega) ?_
      refine go_if_ne (pc := 14) 19 (by decide) eX_leastMissingPicture_14 (fun c14 => ?_) (fun c14 => ?_)
      · refine go_iinc (pc := 19) (z := 1) (v := nI (i + 1)) (ls' := [(1, _), (0, _)]) 1 0 rfl (nI_1 i) (by decide) eX_leastMissingPicture_19 rfl ?_
        refine go_goto (pc := 22) 2 (by decide) eX_leastMissingPicture_22 ?_
        exact ih (i + 1) (by omega)
      · exact absurd (bI0.mp c14) (by rw [hlt i (by omega)]; decide)
set_option maxRecDepth 100000 in
set_option maxHeartbeats 1000000 in
theorem c_lmpB (hlt : ∀ q, q < 8 → pi q = true) : Ret (gg D cI cB cL bb L xs) mX_leastMissingPicture n 0 0 [.ref h] (xW cI cB h a1 a2 a3 a4 a5 F c fo sp pi rest) (some (.int (-1))) (xW cI cB h a1 a2 a3 a4 a5 F c fo sp pi rest) := by
  intro Psi hf
  show Go _ _ _ _ _ 0 [(0, .ref h)] [] _ Psi
  refine go_iconst (pc := 0) (v := 0) (by decide) eX_leastMissingPicture_0 ?_
  refine go_istore_n (pc := 1) (ls' := [(1, _), (0, _)]) 1 rfl (by decide) eX_leastMissingPicture_1 rfl ?_
  exact l_lmpB hlt hf 8 0 (by omega)
set_option maxRecDepth 100000 in
set_option maxHeartbeats 1000000 in
theorem l_nffA (hF : F ≤ 60) (j : Nat) (hj : j < F) (hj0 : hcnt fo j = 0) (hlt : ∀ q, q < j → hcnt fo q ≠ 0) {Psi : gR → va_W → Prop} (hf : Psi (.inl (some (.int (nI j)))) (xW cI cB h a1 a2 a3 a4 a5 F c fo sp pi rest)) : ∀ (m i : Nat), i + m = j → Go (gg D cI cB cL bb L xs) mX_needFreeFrame n 0 0 2 [(1, .int (nI i)), (0, .ref h)] [] (xW cI cB h a1 a2 a3 a4 a5 F c fo sp pi rest) Psi := by
  intro m
  induction m with
  | zero =>
    intro i hi
    obtain rfl : i = j := by omega
    refine go_iload_n (pc := 2) 1 0 rfl rfl eX_needFreeFrame_2 ?_
    refine go_aload_n (pc := 3) 0 1 rfl rfl eX_needFreeFrame_3 ?_
    refine go_get (pc := 4) hwX 0 rfl rfl 0 (by decide) lkX_18 rfl eX_needFreeFrame_4 ?_
    refine go_icmp_ge (pc := 7) 27 (by decide) eX_needFreeFrame_7 (fun c7 => ?_) (fun c7 => ?_)
    · exact absurd c7 (nI_ge (by omega) (by omega))
    · refine go_aload_n (pc := 10) 0 1 rfl rfl eX_needFreeFrame_10 ?_
      refine go_get (pc := 11) hwX 0 rfl rfl 2 (by decide) lkX_26 rfl eX_needFreeFrame_11 ?_
      refine go_iload_n (pc := 14) 1 0 rfl rfl eX_needFreeFrame_14 ?_
      refine go_ialdN (pc := 15) 2 0 (i) eX_needFreeFrame_15 rfl rfl (rfl) (by omega) (by omega) ?_
      refine go_if_ne (pc := 16) 21 (by decide) eX_needFreeFrame_16 (fun c16 => ?_) (fun c16 => ?_)
      · exact absurd ((nI_z (hc31 fo i)).mpr hj0) c16
      · refine go_iload_n (pc := 19) 1 0 rfl rfl eX_needFreeFrame_19 ?_
        exact go_iret (pc := 20) rfl rfl eX_needFreeFrame_20 (hf)
  | succ m ih =>
    intro i hi
    refine go_iload_n (pc := 2) 1 0 rfl rfl eX_needFreeFrame_2 ?_
    refine go_aload_n (pc := 3) 0 1 rfl rfl eX_needFreeFrame_3 ?_
    refine go_get (pc := 4) hwX 0 rfl rfl 0 (by decide) lkX_18 rfl eX_needFreeFrame_4 ?_
    refine go_icmp_ge (pc := 7) 27 (by decide) eX_needFreeFrame_7 (fun c7 => ?_) (fun c7 => ?_)
    · exact absurd c7 (nI_ge (by omega) (by omega))
    · refine go_aload_n (pc := 10) 0 1 rfl rfl eX_needFreeFrame_10 ?_
      refine go_get (pc := 11) hwX 0 rfl rfl 2 (by decide) lkX_26 rfl eX_needFreeFrame_11 ?_
      refine go_iload_n (pc := 14) 1 0 rfl rfl eX_needFreeFrame_14 ?_
      refine go_ialdN (pc := 15) 2 0 (i) eX_needFreeFrame_15 rfl rfl (rfl) (by omega) (by omega) ?_
      refine go_if_ne (pc := 16) 21 (by decide) eX_needFreeFrame_16 (fun c16 => ?_) (fun c16 => ?_)
      · refine go_iinc (pc := 21) (z := 1) (v := nI (i + 1)) (ls' := [(1, _), (0, _)]) 1 0 rfl (nI_1 i) (by decide) eX_needFreeFrame_21 rfl ?_
        refine go_goto (pc := 24) 2 (by decide) eX_needFreeFrame_24 ?_
        exact ih (i + 1) (by omega)
      · exact absurd ((nI_z (hc31 fo i)).mp c16) (hlt i (by omega))
set_option maxRecDepth 100000 in
set_option maxHeartbeats 1000000 in
theorem c_nffA (hF : F ≤ 60) (j : Nat) (hj : j < F) (hj0 : hcnt fo j = 0) (hlt : ∀ q, q < j → hcnt fo q ≠ 0) : Ret (gg D cI cB cL bb L xs) mX_needFreeFrame n 0 0 [.ref h] (xW cI cB h a1 a2 a3 a4 a5 F c fo sp pi rest) (some (.int (nI j))) (xW cI cB h a1 a2 a3 a4 a5 F c fo sp pi rest) := by
  intro Psi hf
  show Go _ _ _ _ _ 0 [(0, .ref h)] [] _ Psi
  refine go_iconst (pc := 0) (v := 0) (by decide) eX_needFreeFrame_0 ?_
  refine go_istore_n (pc := 1) (ls' := [(1, _), (0, _)]) 1 rfl (by decide) eX_needFreeFrame_1 rfl ?_
  exact l_nffA hF j hj hj0 hlt hf j 0 (by omega)
set_option maxRecDepth 100000 in
set_option maxHeartbeats 1000000 in
theorem l_nffB (hF : F ≤ 60) (hlt : ∀ q, q < F → hcnt fo q ≠ 0) {Psi : gR → va_W → Prop} (hf : Psi (.inr "java/lang/IllegalStateException") (xW cI cB h a1 a2 a3 a4 a5 F c fo sp pi rest)) : ∀ (m i : Nat), i + m = F → Go (gg D cI cB cL bb L xs) mX_needFreeFrame (n + 1) 1 6 2 [(1, .int (nI i)), (0, .ref h)] [] (xW cI cB h a1 a2 a3 a4 a5 F c fo sp pi rest) Psi := by
  intro m
  induction m with
  | zero =>
    intro i hi
    obtain rfl : i = F := by omega
    refine go_iload_n (pc := 2) 1 0 rfl rfl eX_needFreeFrame_2 ?_
    refine go_aload_n (pc := 3) 0 1 rfl rfl eX_needFreeFrame_3 ?_
    refine go_get (pc := 4) hwX 0 rfl rfl 0 (by decide) lkX_18 rfl eX_needFreeFrame_4 ?_
    refine go_icmp_ge (pc := 7) 27 (by decide) eX_needFreeFrame_7 (fun c7 => ?_) (fun c7 => ?_)
    · exact go_throw (pc := 27) (E := "java/lang/IllegalStateException") (tx := "all frames are in use") (by decide) clX_145 it_IllegalStateException in_IllegalStateException atX_149 rfl (by omega) (by omega) (Nat.le_of_ble_eq_true rfl) eX_needFreeFrame_27 eX_needFreeFrame_30 eX_needFreeFrame_31 eX_needFreeFrame_33 eX_needFreeFrame_36 hf
    · exact absurd (nI_le (Nat.le_refl i) (by omega)) c7
  | succ m ih =>
    intro i hi
    refine go_iload_n (pc := 2) 1 0 rfl rfl eX_needFreeFrame_2 ?_
    refine go_aload_n (pc := 3) 0 1 rfl rfl eX_needFreeFrame_3 ?_
    refine go_get (pc := 4) hwX 0 rfl rfl 0 (by decide) lkX_18 rfl eX_needFreeFrame_4 ?_
    refine go_icmp_ge (pc := 7) 27 (by decide) eX_needFreeFrame_7 (fun c7 => ?_) (fun c7 => ?_)
    · exact absurd c7 (nI_ge (by omega) (by omega))
    · refine go_aload_n (pc := 10) 0 1 rfl rfl eX_needFreeFrame_10 ?_
      refine go_get (pc := 11) hwX 0 rfl rfl 2 (by decide) lkX_26 rfl eX_needFreeFrame_11 ?_
      refine go_iload_n (pc := 14) 1 0 rfl rfl eX_needFreeFrame_14 ?_
      refine go_ialdN (pc := 15) 2 0 (i) eX_needFreeFrame_15 rfl rfl (rfl) (by omega) (by omega) ?_
      refine go_if_ne (pc := 16) 21 (by decide) eX_needFreeFrame_16 (fun c16 => ?_) (fun c16 => ?_)
      · refine go_iinc (pc := 21) (z := 1) (v := nI (i + 1)) (ls' := [(1, _), (0, _)]) 1 0 rfl (nI_1 i) (by decide) eX_needFreeFrame_21 rfl ?_
        refine go_goto (pc := 24) 2 (by decide) eX_needFreeFrame_24 ?_
        exact ih (i + 1) (by omega)
      · exact absurd ((nI_z (hc31 fo i)).mp c16) (hlt i (by omega))
set_option maxRecDepth 100000 in
set_option maxHeartbeats 1000000 in
theorem t_nff (hF : F ≤ 60) (hlt : ∀ q, q < F → hcnt fo q ≠ 0) : Thr (gg D cI cB cL bb L xs) mX_needFreeFrame (n + 1) 1 6 [.ref h] (xW cI cB h a1 a2 a3 a4 a5 F c fo sp pi rest) "java/lang/IllegalStateException" := by
  intro Psi hf
  show Go _ _ _ _ _ 0 [(0, .ref h)] [] _ Psi
  refine go_iconst (pc := 0) (v := 0) (by decide) eX_needFreeFrame_0 ?_
  refine go_istore_n (pc := 1) (ls' := [(1, _), (0, _)]) 1 rfl (by decide) eX_needFreeFrame_1 rfl ?_
  exact l_nffB hF hlt hf F 0 (by omega)
set_option maxRecDepth 100000 in
set_option maxHeartbeats 1000000 in
theorem l_fiu (hF : F ≤ 60) {Psi : gR → va_W → Prop} (hf : Psi (.inl (some (.int (nI (gcnt (fun j => decide (0 < hcnt fo j)) F))))) (xW cI cB h a1 a2 a3 a4 a5 F c fo sp pi rest)) : ∀ (m i : Nat), i + m = F → Go (gg D cI cB cL bb L xs) mX_framesInUse n 0 0 4 [(2, .int (nI i)), (1, .int (nI (gcnt (fun j => decide (0 < hcnt fo j)) i))), (0, .ref h)] [] (xW cI cB h a1 a2 a3 a4 a5 F c fo sp pi rest) Psi := by
  intro m
  induction m with
  | zero =>
    intro i hi
    obtain rfl : i = F := by omega
    refine go_iload_n (pc := 4) 2 0 rfl rfl eX_framesInUse_4 ?_
    refine go_aload_n (pc := 5) 0 2 rfl rfl eX_framesInUse_5 ?_
    refine go_get (pc := 6) hwX 0 rfl rfl 0 (by decide) lkX_18 rfl eX_framesInUse_6 ?_
    refine go_icmp_ge (pc := 9) 30 (by decide) eX_framesInUse_9 (fun c9 => ?_) (fun c9 => ?_)
    · refine go_iload_n (pc := 30) 1 1 rfl rfl eX_framesInUse_30 ?_
      exact go_iret (pc := 31) rfl rfl eX_framesInUse_31 (hf)
    · exact absurd (nI_le (Nat.le_refl i) (by omega)) c9
  | succ m ih =>
    intro i hi
    refine go_iload_n (pc := 4) 2 0 rfl rfl eX_framesInUse_4 ?_
    refine go_aload_n (pc := 5) 0 2 rfl rfl eX_framesInUse_5 ?_
    refine go_get (pc := 6) hwX 0 rfl rfl 0 (by decide) lkX_18 rfl eX_framesInUse_6 ?_
    refine go_icmp_ge (pc := 9) 30 (by decide) eX_framesInUse_9 (fun c9 => ?_) (fun c9 => ?_)
    · exact absurd c9 (nI_ge (by omega) (by omega))
    · refine go_aload_n (pc := 12) 0 2 rfl rfl eX_framesInUse_12 ?_
      refine go_get (pc := 13) hwX 0 rfl rfl 2 (by decide) lkX_26 rfl eX_framesInUse_13 ?_
      refine go_iload_n (pc := 16) 2 0 rfl rfl eX_framesInUse_16 ?_
      refine go_ialdN (pc := 17) 2 0 (i) eX_framesInUse_17 rfl rfl (rfl) (by omega) (by omega) ?_
      refine go_if_le (pc := 18) 24 (by decide) eX_framesInUse_18 (fun c18 => ?_) (fun c18 => ?_)
      · have e9 : gcnt (fun j => decide (0 < hcnt fo j)) (i + 1) = gcnt (fun j => decide (0 < hcnt fo j)) i := gcnt_n (by have := (nI_lz (hc31 fo i)).mp c18; simp [this])
        refine go_iinc (pc := 24) (z := 1) (v := nI (i + 1)) (ls' := [(2, _), (1, _), (0, _)]) 2 0 rfl (nI_1 i) (by decide) eX_framesInUse_24 rfl ?_
        refine go_goto (pc := 27) 4 (by decide) eX_framesInUse_27 ?_
        rw [← e9]
        exact ih (i + 1) (by omega)
      · have e9 : gcnt (fun j => decide (0 < hcnt fo j)) (i + 1) = gcnt (fun j => decide (0 < hcnt fo j)) i + 1 := gcnt_s (by have h0 : ¬ hcnt fo i = 0 := fun z => c18 ((nI_lz (hc31 fo i)).mpr z); simp; omega)
        refine go_iinc (pc := 21) (z := 1) (v := nI (gcnt (fun j => decide (0 < hcnt fo j)) i + 1)) (ls' := [(1, _), (2, _), (0, _)]) 1 1 rfl (nI_1 _) (by decide) eX_framesInUse_21 rfl ?_
        refine go_iinc (pc := 24) (z := 1) (v := nI (i + 1)) (ls' := [(2, _), (1, _), (0, _)]) 2 1 rfl (nI_1 i) (by decide) eX_framesInUse_24 rfl ?_
        refine go_goto (pc := 27) 4 (by decide) eX_framesInUse_27 ?_
        rw [← e9]
        exact ih (i + 1) (by omega)
set_option maxRecDepth 100000 in
set_option maxHeartbeats 1000000 in
theorem c_fiu (hF : F ≤ 60) : Ret (gg D cI cB cL bb L xs) mX_framesInUse n 0 0 [.ref h] (xW cI cB h a1 a2 a3 a4 a5 F c fo sp pi rest) (some (.int (nI (gcnt (fun j => decide (0 < hcnt fo j)) F)))) (xW cI cB h a1 a2 a3 a4 a5 F c fo sp pi rest) := by
  intro Psi hf
  show Go _ _ _ _ _ 0 [(0, .ref h)] [] _ Psi
  refine go_iconst (pc := 0) (v := 0) (by decide) eX_framesInUse_0 ?_
  refine go_istore_n (pc := 1) (ls' := [(1, _), (0, _)]) 1 rfl (by decide) eX_framesInUse_1 rfl ?_
  refine go_iconst (pc := 2) (v := 0) (by decide) eX_framesInUse_2 ?_
  refine go_istore_n (pc := 3) (ls' := [(2, _), (1, _), (0, _)]) 2 rfl (by decide) eX_framesInUse_3 rfl ?_
  refine go_ls [0, 1, 2] rfl ?_
  exact l_fiu hF hf F 0 (by omega)
set_option maxRecDepth 100000 in
set_option maxHeartbeats 1000000 in
theorem l_spn  {Psi : gR → va_W → Prop} (hf : Psi (.inl (some (.int (nI (gcnt (fun s => sp (48 + s)) 6))))) (xW cI cB h a1 a2 a3 a4 a5 F c fo sp pi rest)) : ∀ (m i : Nat), i + m = 6 → Go (gg D cI cB cL bb L xs) mX_spacesNow (n + 1) 0 0 4 [(2, .int (nI i)), (1, .int (nI (gcnt (fun s => sp (48 + s)) i))), (0, .ref h)] [] (xW cI cB h a1 a2 a3 a4 a5 F c fo sp pi rest) Psi := by
  intro m
  induction m with
  | zero =>
    intro i hi
    obtain rfl : i = 6 := by omega
    refine go_iload_n (pc := 4) 2 0 rfl rfl eX_spacesNow_4 ?_
    refine go_bipush (pc := 5) (v := 6) (by decide) eX_spacesNow_5 ?_
    refine go_icmp_ge (pc := 7) 33 (by decide) eX_spacesNow_7 (fun c7 => ?_) (fun c7 => ?_)
    · refine go_iload_n (pc := 33) 1 1 rfl rfl eX_spacesNow_33 ?_
      exact go_iret (pc := 34) rfl rfl eX_spacesNow_34 (hf)
    · exact absurd (nI_le (Nat.le_refl 6) (by omega)) c7
  | succ m ih =>
    intro i hi
    refine go_iload_n (pc := 4) 2 0 rfl rfl eX_spacesNow_4 ?_
    refine go_bipush (pc := 5) (v := 6) (by decide) eX_spacesNow_5 ?_
    refine go_icmp_ge (pc := 7) 33 (by decide) eX_spacesNow_7 (fun c7 => ?_) (fun c7 => ?_)
    · exact absurd c7 (nI_ge (b := 6) (by omega) (by omega))
    · refine go_aload_n (pc := 10) 0 2 rfl rfl eX_spacesNow_10 ?_
      refine go_get (pc := 11) hwX 0 rfl rfl 4 (by decide) lkX_38 rfl eX_spacesNow_11 ?_
      refine go_bipush (pc := 14) (v := 8) (by decide) eX_spacesNow_14 ?_
      refine go_iload_n (pc := 16) 2 0 rfl rfl eX_spacesNow_16 ?_
      refine go_rS (pc := 17) (c_spaceIndex 8 i) okX_spaceIndex lmX_49 eX_spacesNow_17 rfl rfl (Nat.le_of_ble_eq_true rfl) (Nat.le_of_ble_eq_true rfl) ?_
      refine go_zaldN (pc := 20) 4 1 (48 + i) eX_spacesNow_20 rfl rfl (rfl) (by omega) (by omega) ?_
      refine go_if_eq (pc := 21) 27 (by decide) eX_spacesNow_21 (fun c21 => ?_) (fun c21 => ?_)
      · have e9 : gcnt (fun s => sp (48 + s)) (i + 1) = gcnt (fun s => sp (48 + s)) i := gcnt_n (bI0.mp c21)
        refine go_iinc (pc := 27) (z := 1) (v := nI (i + 1)) (ls' := [(2, _), (1, _), (0, _)]) 2 0 rfl (nI_1 i) (by decide) eX_spacesNow_27 rfl ?_
        refine go_goto (pc := 30) 4 (by decide) eX_spacesNow_30 ?_
        rw [← e9]
        exact ih (i + 1) (by omega)
      · have e9 : gcnt (fun s => sp (48 + s)) (i + 1) = gcnt (fun s => sp (48 + s)) i + 1 := gcnt_s (bI1 c21)
        refine go_iinc (pc := 24) (z := 1) (v := nI (gcnt (fun s => sp (48 + s)) i + 1)) (ls' := [(1, _), (2, _), (0, _)]) 1 1 rfl (nI_1 _) (by decide) eX_spacesNow_24 rfl ?_
        refine go_iinc (pc := 27) (z := 1) (v := nI (i + 1)) (ls' := [(2, _), (1, _), (0, _)]) 2 1 rfl (nI_1 i) (by decide) eX_spacesNow_27 rfl ?_
        refine go_goto (pc := 30) 4 (by decide) eX_spacesNow_30 ?_
        rw [← e9]
        exact ih (i + 1) (by omega)
set_option maxRecDepth 100000 in
set_option maxHeartbeats 1000000 in
theorem c_spn  : Ret (gg D cI cB cL bb L xs) mX_spacesNow (n + 1) 0 0 [.ref h] (xW cI cB h a1 a2 a3 a4 a5 F c fo sp pi rest) (some (.int (nI (gcnt (fun s => sp (48 + s)) 6)))) (xW cI cB h a1 a2 a3 a4 a5 F c fo sp pi rest) := by
  intro Psi hf
  show Go _ _ _ _ _ 0 [(0, .ref h)] [] _ Psi
  refine go_iconst (pc := 0) (v := 0) (by decide) eX_spacesNow_0 ?_
  refine go_istore_n (pc := 1) (ls' := [(1, _), (0, _)]) 1 rfl (by decide) eX_spacesNow_1 rfl ?_
  refine go_iconst (pc := 2) (v := 0) (by decide) eX_spacesNow_2 ?_
  refine go_istore_n (pc := 3) (ls' := [(2, _), (1, _), (0, _)]) 2 rfl (by decide) eX_spacesNow_3 rfl ?_
  refine go_ls [0, 1, 2] rfl ?_
  exact l_spn  hf 6 0 (by omega)
set_option maxRecDepth 100000 in
set_option maxHeartbeats 1000000 in
theorem l_pcn  {Psi : gR → va_W → Prop} (hf : Psi (.inl (some (.int (nI (gcnt pi 8))))) (xW cI cB h a1 a2 a3 a4 a5 F c fo sp pi rest)) : ∀ (m i : Nat), i + m = 8 → Go (gg D cI cB cL bb L xs) mX_picturesNow n 0 0 4 [(2, .int (nI i)), (1, .int (nI (gcnt pi i))), (0, .ref h)] [] (xW cI cB h a1 a2 a3 a4 a5 F c fo sp pi rest) Psi := by
  intro m
  induction m with
  | zero =>
    intro i hi
    obtain rfl : i = 8 := by omega
    refine go_iload_n (pc := 4) 2 0 rfl rfl eX_picturesNow_4 ?_
    refine go_bipush (pc := 5) (v := 8) (by decide) eX_picturesNow_5 ?_
    refine go_icmp_ge (pc := 7) 28 (by decide) eX_picturesNow_7 (fun c7 => ?_) (fun c7 => ?_)
    · refine go_iload_n (pc := 28) 1 1 rfl rfl eX_picturesNow_28 ?_
      exact go_iret (pc := 29) rfl rfl eX_picturesNow_29 (hf)
    · exact absurd (nI_le (Nat.le_refl 8) (by omega)) c7
  | succ m ih =>
    intro i hi
    refine go_iload_n (pc := 4) 2 0 rfl rfl eX_picturesNow_4 ?_
    refine go_bipush (pc := 5) (v := 8) (by decide) eX_picturesNow_5 ?_
    refine go_icmp_ge (pc := 7) 28 (by decide) eX_picturesNow_7 (fun c7 => ?_) (fun c7 => ?_)
    · exact absurd c7 (nI_ge (b := 8) (by omega) (by omega))
    · refine go_aload_n (pc := 10) 0 2 rfl rfl eX_picturesNow_10 ?_
      refine go_get (pc := 11) hwX 0 rfl rfl 5 (by decide) lkX_42 rfl eX_picturesNow_11 ?_
      refine go_iload_n (pc := 14) 2 0 rfl rfl eX_picturesNow_14 ?_
      refine go_zaldN (pc := 15) 5 1 (i) eX_picturesNow_15 rfl rfl (rfl) (by omega) (by omega) ?_
      refine go_if_eq (pc := 16) 22 (by decide) eX_picturesNow_16 (fun c16 => ?_) (fun c16 => ?_)
      · have e9 : gcnt pi (i + 1) = gcnt pi i := gcnt_n (bI0.mp c16)
        refine go_iinc (pc := 22) (z := 1) (v := nI (i + 1)) (ls' := [(2, _), (1, _), (0, _)]) 2 0 rfl (nI_1 i) (by decide) eX_picturesNow_22 rfl ?_
        refine go_goto (pc := 25) 4 (by decide) eX_picturesNow_25 ?_
        rw [← e9]
        exact ih (i + 1) (by omega)
      · have e9 : gcnt pi (i + 1) = gcnt pi i + 1 := gcnt_s (bI1 c16)
        refine go_iinc (pc := 19) (z := 1) (v := nI (gcnt pi i + 1)) (ls' := [(1, _), (2, _), (0, _)]) 1 1 rfl (nI_1 _) (by decide) eX_picturesNow_19 rfl ?_
        refine go_iinc (pc := 22) (z := 1) (v := nI (i + 1)) (ls' := [(2, _), (1, _), (0, _)]) 2 1 rfl (nI_1 i) (by decide) eX_picturesNow_22 rfl ?_
        refine go_goto (pc := 25) 4 (by decide) eX_picturesNow_25 ?_
        rw [← e9]
        exact ih (i + 1) (by omega)
set_option maxRecDepth 100000 in
set_option maxHeartbeats 1000000 in
theorem c_pcn  : Ret (gg D cI cB cL bb L xs) mX_picturesNow n 0 0 [.ref h] (xW cI cB h a1 a2 a3 a4 a5 F c fo sp pi rest) (some (.int (nI (gcnt pi 8)))) (xW cI cB h a1 a2 a3 a4 a5 F c fo sp pi rest) := by
  intro Psi hf
  show Go _ _ _ _ _ 0 [(0, .ref h)] [] _ Psi
  refine go_iconst (pc := 0) (v := 0) (by decide) eX_picturesNow_0 ?_
  refine go_istore_n (pc := 1) (ls' := [(1, _), (0, _)]) 1 rfl (by decide) eX_picturesNow_1 rfl ?_
  refine go_iconst (pc := 2) (v := 0) (by decide) eX_picturesNow_2 ?_
  refine go_istore_n (pc := 3) (ls' := [(2, _), (1, _), (0, _)]) 2 rfl (by decide) eX_picturesNow_3 rfl ?_
  refine go_ls [0, 1, 2] rfl ?_
  exact l_pcn  hf 8 0 (by omega)
set_option maxRecDepth 100000 in
set_option maxHeartbeats 1000000 in
theorem l_pgs (hF : F ≤ 60) (hfo : ∀ k j, fo k = some j → j < F) (s : Nat) (hs : s < 6) {Psi : gR → va_W → Prop} (hf : Psi (.inl (some (.int (nI (gcnt (fun p => (fo (384 + s * 8 + p)).isSome) 8))))) (xW cI cB h a1 a2 a3 a4 a5 F c fo sp pi rest)) : ∀ (m i : Nat), i + m = 8 → Go (gg D cI cB cL bb L xs) mX_pagesOfSpace (n + 1) 0 0 4 [(3, .int (nI i)), (2, .int (nI (gcnt (fun p => (fo (384 + s * 8 + p)).isSome) i))), (0, .ref h), (1, .int (nI s))] [] (xW cI cB h a1 a2 a3 a4 a5 F c fo sp pi rest) Psi := by
  intro m
  induction m with
  | zero =>
    intro i hi
    obtain rfl : i = 8 := by omega
    refine go_iload_n (pc := 4) 3 0 rfl rfl eX_pagesOfSpace_4 ?_
    refine go_bipush (pc := 5) (v := 8) (by decide) eX_pagesOfSpace_5 ?_
    refine go_icmp_ge (pc := 7) 36 (by decide) eX_pagesOfSpace_7 (fun c7 => ?_) (fun c7 => ?_)
    · refine go_iload_n (pc := 36) 2 1 rfl rfl eX_pagesOfSpace_36 ?_
      exact go_iret (pc := 37) rfl rfl eX_pagesOfSpace_37 (hf)
    · exact absurd (nI_le (Nat.le_refl 8) (by omega)) c7
  | succ m ih =>
    intro i hi
    refine go_iload_n (pc := 4) 3 0 rfl rfl eX_pagesOfSpace_4 ?_
    refine go_bipush (pc := 5) (v := 8) (by decide) eX_pagesOfSpace_5 ?_
    refine go_icmp_ge (pc := 7) 36 (by decide) eX_pagesOfSpace_7 (fun c7 => ?_) (fun c7 => ?_)
    · exact absurd c7 (nI_ge (b := 8) (by omega) (by omega))
    · refine go_aload_n (pc := 10) 0 2 rfl rfl eX_pagesOfSpace_10 ?_
      refine go_aload_n (pc := 11) 0 2 rfl rfl eX_pagesOfSpace_11 ?_
      refine go_get (pc := 12) hwX 0 rfl rfl 3 (by decide) lkX_29 rfl eX_pagesOfSpace_12 ?_
      refine go_iload_n (pc := 15) 1 3 rfl rfl eX_pagesOfSpace_15 ?_
      refine go_iload_n (pc := 16) 3 0 rfl rfl eX_pagesOfSpace_16 ?_
      refine go_rS (pc := 17) (c_pageNow s i) okX_pageNow lmX_56 eX_pagesOfSpace_17 rfl rfl (Nat.le_of_ble_eq_true rfl) (Nat.le_of_ble_eq_true rfl) ?_
      refine go_ialdN (pc := 20) 3 0 (384 + s * 8 + i) eX_pagesOfSpace_20 rfl rfl (rfl) (by omega) (by omega) ?_
      refine go_rV (pc := 21) 0 (c_isFrame hF _ (hfo _)) okX_isFrame lmX_70 eX_pagesOfSpace_21 rfl rfl rfl rfl rfl (Nat.le_of_ble_eq_true rfl) (Nat.le_of_ble_eq_true rfl) ?_
      refine go_if_eq (pc := 24) 30 (by decide) eX_pagesOfSpace_24 (fun c24 => ?_) (fun c24 => ?_)
      · have e9 : gcnt (fun p => (fo (384 + s * 8 + p)).isSome) (i + 1) = gcnt (fun p => (fo (384 + s * 8 + p)).isSome) i := gcnt_n (bI0.mp c24)
        refine go_iinc (pc := 30) (z := 1) (v := nI (i + 1)) (ls' := [(3, _), (2, _), (0, _), (1, _)]) 3 0 rfl (nI_1 i) (by decide) eX_pagesOfSpace_30 rfl ?_
        refine go_goto (pc := 33) 4 (by decide) eX_pagesOfSpace_33 ?_
        rw [← e9]
        exact ih (i + 1) (by omega)
      · have e9 : gcnt (fun p => (fo (384 + s * 8 + p)).isSome) (i + 1) = gcnt (fun p => (fo (384 + s * 8 + p)).isSome) i + 1 := gcnt_s (bI1 c24)
        refine go_iinc (pc := 27) (z := 1) (v := nI (gcnt (fun p => (fo (384 + s * 8 + p)).isSome) i + 1)) (ls' := [(2, _), (3, _), (0, _), (1, _)]) 2 1 rfl (nI_1 _) (by decide) eX_pagesOfSpace_27 rfl ?_
        refine go_iinc (pc := 30) (z := 1) (v := nI (i + 1)) (ls' := [(3, _), (2, _), (0, _), (1, _)]) 3 1 rfl (nI_1 i) (by decide) eX_pagesOfSpace_30 rfl ?_
        refine go_goto (pc := 33) 4 (by decide) eX_pagesOfSpace_33 ?_
        rw [← e9]
        exact ih (i + 1) (by omega)
set_option maxRecDepth 100000 in
set_option maxHeartbeats 1000000 in
theorem c_pgs (hF : F ≤ 60) (hfo : ∀ k j, fo k = some j → j < F) (s : Nat) (hs : s < 6) : Ret (gg D cI cB cL bb L xs) mX_pagesOfSpace (n + 1) 0 0 [.ref h, .int (nI s)] (xW cI cB h a1 a2 a3 a4 a5 F c fo sp pi rest) (some (.int (nI (gcnt (fun p => (fo (384 + s * 8 + p)).isSome) 8)))) (xW cI cB h a1 a2 a3 a4 a5 F c fo sp pi rest) := by
  intro Psi hf
  show Go _ _ _ _ _ 0 [(0, .ref h), (1, .int (nI s))] [] _ Psi
  refine go_iconst (pc := 0) (v := 0) (by decide) eX_pagesOfSpace_0 ?_
  refine go_istore_n (pc := 1) (ls' := [(2, _), (0, _), (1, _)]) 2 rfl (by decide) eX_pagesOfSpace_1 rfl ?_
  refine go_iconst (pc := 2) (v := 0) (by decide) eX_pagesOfSpace_2 ?_
  refine go_istore_n (pc := 3) (ls' := [(3, _), (2, _), (0, _), (1, _)]) 3 rfl (by decide) eX_pagesOfSpace_3 rfl ?_
  refine go_ls [0, 1, 2, 3] rfl ?_
  exact l_pgs hF hfo s hs hf 8 0 (by omega)
/-- the pages of the first spaces -/
def pgsum (fo : Nat → Option Nat) : Nat → Nat
  | 0 => 0
  | s + 1 => pgsum fo s + gcnt (fun p => (fo (384 + s * 8 + p)).isSome) 8
set_option maxRecDepth 100000 in
set_option maxHeartbeats 1000000 in
theorem l_pgn (hF : F ≤ 60) (hfo : ∀ k j, fo k = some j → j < F) {Psi : gR → va_W → Prop} (hf : Psi (.inl (some (.int (nI (pgsum fo 6))))) (xW cI cB h a1 a2 a3 a4 a5 F c fo sp pi rest)) : ∀ (m i : Nat), i + m = 6 → Go (gg D cI cB cL bb L xs) mX_pagesNow (n + 2) 0 0 4 [(2, .int (nI i)), (1, .int (nI (pgsum fo i))), (0, .ref h)] [] (xW cI cB h a1 a2 a3 a4 a5 F c fo sp pi rest) Psi := by
  intro m
  induction m with
  | zero =>
    intro i hi
    obtain rfl : i = 6 := by omega
    refine go_iload_n (pc := 4) 2 0 rfl rfl eX_pagesNow_4 ?_
    refine go_bipush (pc := 5) (v := 6) (by decide) eX_pagesNow_5 ?_
    refine go_icmp_ge (pc := 7) 24 (by decide) eX_pagesNow_7 (fun c7 => ?_) (fun c7 => ?_)
    · refine go_iload_n (pc := 24) 1 1 rfl rfl eX_pagesNow_24 ?_
      exact go_iret (pc := 25) rfl rfl eX_pagesNow_25 (hf)
    · exact absurd (show (6 : Int32) ≤ nI 6 by decide) c7
  | succ m ih =>
    intro i hi
    refine go_iload_n (pc := 4) 2 0 rfl rfl eX_pagesNow_4 ?_
    refine go_bipush (pc := 5) (v := 6) (by decide) eX_pagesNow_5 ?_
    refine go_icmp_ge (pc := 7) 24 (by decide) eX_pagesNow_7 (fun c7 => ?_) (fun c7 => ?_)
    · exact absurd c7 (nI_ge (b := 6) (by omega) (by omega))
    · refine go_iload_n (pc := 10) 1 1 rfl rfl eX_pagesNow_10 ?_
      refine go_aload_n (pc := 11) 0 2 rfl rfl eX_pagesNow_11 ?_
      refine go_iload_n (pc := 12) 2 0 rfl rfl eX_pagesNow_12 ?_
      refine go_rV (pc := 13) 0 (c_pgs hF hfo i (by omega)) okX_pagesOfSpace lmX_63 eX_pagesNow_13 rfl rfl rfl rfl rfl (Nat.le_of_ble_eq_true rfl) (Nat.le_of_ble_eq_true rfl) ?_
      refine go_iadd (pc := 16) eX_pagesNow_16 ?_
      rw [nI_add]
      refine go_istore_n (pc := 17) (ls' := [(1, _), (2, _), (0, _)]) 1 rfl (by decide) eX_pagesNow_17 rfl ?_
      refine go_iinc (pc := 18) (z := 1) (v := nI (i + 1)) (ls' := [(2, _), (1, _), (0, _)]) 2 1 rfl (nI_1 i) (by decide) eX_pagesNow_18 rfl ?_
      refine go_goto (pc := 21) 4 (by decide) eX_pagesNow_21 ?_
      exact ih (i + 1) (by omega)
set_option maxRecDepth 100000 in
set_option maxHeartbeats 1000000 in
theorem c_pgn (hF : F ≤ 60) (hfo : ∀ k j, fo k = some j → j < F) : Ret (gg D cI cB cL bb L xs) mX_pagesNow (n + 2) 0 0 [.ref h] (xW cI cB h a1 a2 a3 a4 a5 F c fo sp pi rest) (some (.int (nI (pgsum fo 6)))) (xW cI cB h a1 a2 a3 a4 a5 F c fo sp pi rest) := by
  intro Psi hf
  show Go _ _ _ _ _ 0 [(0, .ref h)] [] _ Psi
  refine go_iconst (pc := 0) (v := 0) (by decide) eX_pagesNow_0 ?_
  refine go_istore_n (pc := 1) (ls' := [(1, _), (0, _)]) 1 rfl (by decide) eX_pagesNow_1 rfl ?_
  refine go_iconst (pc := 2) (v := 0) (by decide) eX_pagesNow_2 ?_
  refine go_istore_n (pc := 3) (ls' := [(2, _), (1, _), (0, _)]) 2 rfl (by decide) eX_pagesNow_3 rfl ?_
  exact l_pgn hF hfo hf 6 0 (by omega)
end Sxb
