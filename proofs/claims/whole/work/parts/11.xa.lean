section Sxa
variable {D : va_G} {cI cB cL : ClassId} {bb L : Nat} {xs : Nat → Int32} {n h a1 a2 a3 a4 a5 F : Nat} {c : Nat → Int32} {fo : Nat → Option Nat} {sp pi : Nat → Bool} {rest es : va_W} {f1 f2 f3 f4 f5 : Nat → Int32}
set_option maxRecDepth 100000 in
set_option maxHeartbeats 1000000 in
theorem c_spaceIndex (r s : Nat) : Ret (gg D cI cB cL bb L xs) mX_spaceIndex n 0 0 [.int (nI r), .int (nI s)] es (some (.int (nI (r * 6 + s)))) es := by
  intro Psi hf
  show Go _ _ _ _ _ 0 [(0, .int (nI r)), (1, .int (nI s))] [] _ Psi
  refine go_iload_n (pc := 0) 0 0 rfl rfl eX_spaceIndex_0 ?_
  refine go_bipush (pc := 1) (v := 6) (by decide) eX_spaceIndex_1 ?_
  refine go_imul (pc := 3) eX_spaceIndex_3 ?_
  refine go_iload_n (pc := 4) 1 1 rfl rfl eX_spaceIndex_4 ?_
  refine go_iadd (pc := 5) eX_spaceIndex_5 ?_
  exact go_iret (pc := 6) rfl rfl eX_spaceIndex_6 (by rw [← nI_add, ← pk_mul] at hf; exact hf)
set_option maxRecDepth 100000 in
set_option maxHeartbeats 1000000 in
theorem c_pageNow (s p : Nat) : Ret (gg D cI cB cL bb L xs) mX_pageNow n 0 0 [.int (nI s), .int (nI p)] es (some (.int (nI (384 + s * 8 + p)))) es := by
  intro Psi hf
  show Go _ _ _ _ _ 0 [(0, .int (nI s)), (1, .int (nI p))] [] _ Psi
  refine go_sipush (pc := 0) (v := 384) (by decide) eX_pageNow_0 ?_
  refine go_iload_n (pc := 3) 0 0 rfl rfl eX_pageNow_3 ?_
  refine go_bipush (pc := 4) (v := 8) (by decide) eX_pageNow_4 ?_
  refine go_imul (pc := 6) eX_pageNow_6 ?_
  refine go_iadd (pc := 7) eX_pageNow_7 ?_
  refine go_iload_n (pc := 8) 1 1 rfl rfl eX_pageNow_8 ?_
  refine go_iadd (pc := 9) eX_pageNow_9 ?_
  exact go_iret (pc := 10) rfl rfl eX_pageNow_10 (by rw [← nI_add, ← nI_add, ← pk_mul] at hf; exact hf)
set_option maxRecDepth 100000 in
set_option maxHeartbeats 1000000 in
theorem c_cellIndex (f a : Nat) (ha : a < 128) : Ret (gg D cI cB cL bb L xs) mX_cellIndex n 0 0 [.int (nI f), .int (nI a)] es (some (.int (nI (f * 16 + a % 16)))) es := by
  intro Psi hf
  show Go _ _ _ _ _ 0 [(0, .int (nI f)), (1, .int (nI a))] [] _ Psi
  refine go_iload_n (pc := 0) 0 0 rfl rfl eX_cellIndex_0 ?_
  refine go_bipush (pc := 1) (v := 16) (by decide) eX_cellIndex_1 ?_
  refine go_imul (pc := 3) eX_cellIndex_3 ?_
  refine go_iload_n (pc := 4) 1 1 rfl rfl eX_cellIndex_4 ?_
  refine go_bipush (pc := 5) (v := 16) (by decide) eX_cellIndex_5 ?_
  refine go_irem (pc := 7) (by decide) eX_cellIndex_7 ?_
  refine go_iadd (pc := 8) eX_cellIndex_8 ?_
  exact go_iret (pc := 9) rfl rfl eX_cellIndex_9 (by rw [← nI_add, ← pk_mul, ← pk_rem (a := a) (d := 16) (by omega) (by omega) (by omega)] at hf; exact hf)
set_option maxRecDepth 100000 in
set_option maxHeartbeats 1000000 in
theorem c_isFrame0  : Ret (gg D cI cB cL bb L xs) mX_isFrame n 0 0 [.ref h, .int (oI none)] (xV cI cB h a1 a2 a3 a4 a5 F f1 f2 f3 f4 f5 rest) (some (.int (bI false))) (xV cI cB h a1 a2 a3 a4 a5 F f1 f2 f3 f4 f5 rest) := by
  intro Psi hf
  show Go _ _ _ _ _ 0 [(0, .ref h), (1, .int (oI none))] [] _ Psi
  refine go_iload_n (pc := 0) 1 1 rfl rfl eX_isFrame_0 ?_
  refine go_if_lt (pc := 1) 16 (by decide) eX_isFrame_1 (fun c1 => ?_) (fun c1 => ?_)
  · refine go_iconst (pc := 16) (v := 0) (by decide) eX_isFrame_16 ?_
    exact go_iret (pc := 17) rfl rfl eX_isFrame_17 (hf)
  · exact absurd (show oI none < 0 by decide) c1
set_option maxRecDepth 100000 in
set_option maxHeartbeats 1000000 in
theorem c_isFrame1 (hF : F ≤ 60) (j : Nat) (hj : j < F) : Ret (gg D cI cB cL bb L xs) mX_isFrame n 0 0 [.ref h, .int (oI (some j))] (xV cI cB h a1 a2 a3 a4 a5 F f1 f2 f3 f4 f5 rest) (some (.int (bI true))) (xV cI cB h a1 a2 a3 a4 a5 F f1 f2 f3 f4 f5 rest) := by
  intro Psi hf
  show Go _ _ _ _ _ 0 [(0, .ref h), (1, .int (oI (some j)))] [] _ Psi
  refine go_iload_n (pc := 0) 1 1 rfl rfl eX_isFrame_0 ?_
  refine go_if_lt (pc := 1) 16 (by decide) eX_isFrame_1 (fun c1 => ?_) (fun c1 => ?_)
  · exact absurd c1 (nI_pos (by omega))
  · refine go_iload_n (pc := 4) 1 1 rfl rfl eX_isFrame_4 ?_
    refine go_aload_n (pc := 5) 0 0 rfl rfl eX_isFrame_5 ?_
    refine go_get (pc := 6) hwX 0 rfl rfl 0 (by decide) lkX_18 rfl eX_isFrame_6 ?_
    refine go_icmp_ge (pc := 9) 16 (by decide) eX_isFrame_9 (fun c9 => ?_) (fun c9 => ?_)
    · exact absurd c9 (nI_ge hj (by omega))
    · refine go_iconst (pc := 12) (v := 1) (by decide) eX_isFrame_12 ?_
      refine go_goto (pc := 13) 17 (by decide) eX_isFrame_13 ?_
      exact go_iret (pc := 17) rfl rfl eX_isFrame_17 (hf)
theorem c_isFrame (hF : F ≤ 60) (o : Option Nat) (ho : ∀ j, o = some j → j < F) : Ret (gg D cI cB cL bb L xs) mX_isFrame n 0 0 [.ref h, .int (oI o)] (xV cI cB h a1 a2 a3 a4 a5 F f1 f2 f3 f4 f5 rest) (some (.int (bI o.isSome))) (xV cI cB h a1 a2 a3 a4 a5 F f1 f2 f3 f4 f5 rest) := by
  cases o with
  | none => exact c_isFrame0
  | some j => exact c_isFrame1 hF j (ho j rfl)
theorem xs1 {z z' : Nat → Int32} (e : z = z') : (xV cI cB h a1 a2 a3 a4 a5 F f1 f2 f3 f4 f5 rest).set 1 (a1, .inl (cI, F * 16, .inl z)) = xV cI cB h a1 a2 a3 a4 a5 F z' f2 f3 f4 f5 rest := by subst e; rfl
theorem xs2 {z z' : Nat → Int32} (e : z = z') : (xV cI cB h a1 a2 a3 a4 a5 F f1 f2 f3 f4 f5 rest).set 2 (a2, .inl (cI, F, .inl z)) = xV cI cB h a1 a2 a3 a4 a5 F f1 z' f3 f4 f5 rest := by subst e; rfl
theorem xs3 {z z' : Nat → Int32} (e : z = z') : (xV cI cB h a1 a2 a3 a4 a5 F f1 f2 f3 f4 f5 rest).set 3 (a3, .inl (cI, 432, .inl z)) = xV cI cB h a1 a2 a3 a4 a5 F f1 f2 z' f4 f5 rest := by subst e; rfl
theorem xs4 {z z' : Nat → Int32} (e : z = z') : (xV cI cB h a1 a2 a3 a4 a5 F f1 f2 f3 f4 f5 rest).set 4 (a4, .inl (cB, 54, .inl z)) = xV cI cB h a1 a2 a3 a4 a5 F f1 f2 f3 z' f5 rest := by subst e; rfl
theorem xs5 {z z' : Nat → Int32} (e : z = z') : (xV cI cB h a1 a2 a3 a4 a5 F f1 f2 f3 f4 f5 rest).set 5 (a5, .inl (cB, 8, .inl z)) = xV cI cB h a1 a2 a3 a4 a5 F f1 f2 f3 f4 z' rest := by subst e; rfl
theorem nI_sub1 {a : Nat} (h : 1 ≤ a) : nI a - 1 = nI (a - 1) := by
  obtain ⟨b, rfl⟩ : ∃ b, a = b + 1 := ⟨a - 1, by omega⟩
  exact nI_pred b
theorem hc_dec {fo : Nat → Option Nat} {k b : Nat} (hk : k < 432) (hb : fo k = some b) : upd (fun j => nI (hcnt fo j)) b (nI (hcnt fo b) - 1) = fun j => nI (hcnt (va_up fo k none) j) := by
  funext j
  have h1 := hcnt_up (fo := fo) (o := none) hk j
  rw [hb] at h1
  by_cases e : j = b
  · subst e
    simp only [upd, if_true]
    rw [nI_sub1 (hcnt_pos hk hb)]
    refine congrArg nI ?_
    simp at h1
    omega
  · simp only [upd, if_neg e]
    refine congrArg nI ?_
    have : ¬ b = j := fun x => e x.symm
    simp [this] at h1
    omega
theorem hc_same {fo : Nat → Option Nat} {k : Nat} (hb : fo k = none) : va_up fo k none = fo := by
  funext j
  by_cases e : j = k
  · subst e; simp [va_up, hb]
  · simp [va_up, e]
theorem hc_inc {fo : Nat → Option Nat} {k b : Nat} (hk : k < 432) (hn : fo k = none) : upd (fun j => nI (hcnt fo j)) b (nI (hcnt fo b) + 1) = fun j => nI (hcnt (va_up fo k (some b)) j) := by
  funext j
  have h1 := hcnt_up (fo := fo) (o := some b) hk j
  rw [hn] at h1
  by_cases e : j = b
  · subst e
    simp only [upd, if_true]
    rw [nI_1]
    refine congrArg nI ?_
    simp at h1
    omega
  · simp only [upd, if_neg e]
    refine congrArg nI ?_
    have : ¬ b = j := fun x => e x.symm
    simp [this] at h1
    omega
theorem va_upup {α : Type} {f : Nat → α} {k : Nat} {a b : α} : va_up (va_up f k a) k b = va_up f k b := by
  funext j
  by_cases e : j = k <;> simp [va_up, e]
theorem va_upat {α : Type} {f : Nat → α} {k : Nat} {a : α} : va_up f k a k = a := by simp [va_up]
theorem va_upne {α : Type} {f : Nat → α} {k j : Nat} {a : α} (h : j ≠ k) : va_up f k a j = f j := by simp [va_up, h]
set_option maxRecDepth 100000 in
set_option maxHeartbeats 1000000 in
theorem c_standIn00 (hF : F ≤ 60) (hfo : ∀ k j, fo k = some j → j < F) (k : Nat) (hk : k < 432) (hb : fo k = none)  : Ret (gg D cI cB cL bb L xs) mX_standIn (n + 1) 0 0 [.ref h, .int (nI k), .int (oI (none))] (xW cI cB h a1 a2 a3 a4 a5 F c fo sp pi rest) none (xW cI cB h a1 a2 a3 a4 a5 F c (va_up fo k (none)) sp pi rest) := by
  intro Psi hf
  show Go _ _ _ _ _ 0 [(0, .ref h), (1, .int (nI k)), (2, .int (oI (none)))] [] _ Psi
  refine go_aload_n (pc := 0) 0 0 rfl rfl eX_standIn_0 ?_
  refine go_get (pc := 1) hwX 0 rfl rfl 3 (by decide) lkX_29 rfl eX_standIn_1 ?_
  refine go_iload_n (pc := 4) 1 1 rfl rfl eX_standIn_4 ?_
  refine go_ialdN (pc := 5) 3 0 (k) eX_standIn_5 rfl rfl (rfl) (hk) (by omega) ?_
  refine go_istore_n (pc := 6) (ls' := [(3, _), (0, _), (1, _), (2, _)]) 3 rfl (by decide) eX_standIn_6 rfl ?_
  rw [hb]
  refine go_aload_n (pc := 7) 0 1 rfl rfl eX_standIn_7 ?_
  refine go_iload_n (pc := 8) 3 0 rfl rfl eX_standIn_8 ?_
  refine go_rV (pc := 9) 0 (c_isFrame0) okX_isFrame lmX_70 eX_standIn_9 rfl rfl rfl rfl rfl (Nat.le_of_ble_eq_true rfl) (Nat.le_of_ble_eq_true rfl) ?_
  refine go_if_eq (pc := 12) 25 (by decide) eX_standIn_12 (fun c12 => ?_) (fun c12 => ?_)
  · refine go_es (es' := (xV cI cB h a1 a2 a3 a4 a5 F c (fun j => nI (hcnt (va_up fo k none) j)) (fun q => oI (fo q)) (fun q => bI (sp q)) (fun q => bI (pi q)) rest)) (by rw [hc_same hb]) ?_
    refine go_aload_n (pc := 25) 0 1 rfl rfl eX_standIn_25 ?_
    refine go_iload_n (pc := 26) 2 3 rfl rfl eX_standIn_26 ?_
    refine go_rV (pc := 27) 0 (c_isFrame0) okX_isFrame lmX_70 eX_standIn_27 rfl rfl rfl rfl rfl (Nat.le_of_ble_eq_true rfl) (Nat.le_of_ble_eq_true rfl) ?_
    refine go_if_eq (pc := 30) 43 (by decide) eX_standIn_30 (fun c30 => ?_) (fun c30 => ?_)
    · refine go_aload_n (pc := 43) 0 1 rfl rfl eX_standIn_43 ?_
      refine go_get (pc := 44) hwX 0 rfl rfl 3 (by decide) lkX_29 rfl eX_standIn_44 ?_
      refine go_iload_n (pc := 47) 1 2 rfl rfl eX_standIn_47 ?_
      refine go_iload_n (pc := 48) 2 3 rfl rfl eX_standIn_48 ?_
      refine go_iastN (pc := 49) (es' := (xW cI cB h a1 a2 a3 a4 a5 F c (va_up fo k (none)) sp pi rest)) 3 0 k eX_standIn_49 rfl rfl rfl hk (by omega) (xs3 upd_o) ?_
      exact go_vret (pc := 50) rfl eX_standIn_50 (hf)
    · exact absurd rfl c30
  · exact absurd rfl c12
set_option maxRecDepth 100000 in
set_option maxHeartbeats 1000000 in
theorem c_standIn01 (hF : F ≤ 60) (hfo : ∀ k j, fo k = some j → j < F) (k : Nat) (hk : k < 432) (hb : fo k = none) (e : Nat) (he : e < F) : Ret (gg D cI cB cL bb L xs) mX_standIn (n + 1) 0 0 [.ref h, .int (nI k), .int (oI (some e))] (xW cI cB h a1 a2 a3 a4 a5 F c fo sp pi rest) none (xW cI cB h a1 a2 a3 a4 a5 F c (va_up fo k (some e)) sp pi rest) := by
  intro Psi hf
  show Go _ _ _ _ _ 0 [(0, .ref h), (1, .int (nI k)), (2, .int (oI (some e)))] [] _ Psi
  refine go_aload_n (pc := 0) 0 0 rfl rfl eX_standIn_0 ?_
  refine go_get (pc := 1) hwX 0 rfl rfl 3 (by decide) lkX_29 rfl eX_standIn_1 ?_
  refine go_iload_n (pc := 4) 1 1 rfl rfl eX_standIn_4 ?_
  refine go_ialdN (pc := 5) 3 0 (k) eX_standIn_5 rfl rfl (rfl) (hk) (by omega) ?_
  refine go_istore_n (pc := 6) (ls' := [(3, _), (0, _), (1, _), (2, _)]) 3 rfl (by decide) eX_standIn_6 rfl ?_
  rw [hb]
  refine go_aload_n (pc := 7) 0 1 rfl rfl eX_standIn_7 ?_
  refine go_iload_n (pc := 8) 3 0 rfl rfl eX_standIn_8 ?_
  refine go_rV (pc := 9) 0 (c_isFrame0) okX_isFrame lmX_70 eX_standIn_9 rfl rfl rfl rfl rfl (Nat.le_of_ble_eq_true rfl) (Nat.le_of_ble_eq_true rfl) ?_
  refine go_if_eq (pc := 12) 25 (by decide) eX_standIn_12 (fun c12 => ?_) (fun c12 => ?_)
  · refine go_es (es' := (xV cI cB h a1 a2 a3 a4 a5 F c (fun j => nI (hcnt (va_up fo k none) j)) (fun q => oI (fo q)) (fun q => bI (sp q)) (fun q => bI (pi q)) rest)) (by rw [hc_same hb]) ?_
    refine go_aload_n (pc := 25) 0 1 rfl rfl eX_standIn_25 ?_
    refine go_iload_n (pc := 26) 2 3 rfl rfl eX_standIn_26 ?_
    refine go_rV (pc := 27) 0 (c_isFrame1 hF e he) okX_isFrame lmX_70 eX_standIn_27 rfl rfl rfl rfl rfl (Nat.le_of_ble_eq_true rfl) (Nat.le_of_ble_eq_true rfl) ?_
    refine go_if_eq (pc := 30) 43 (by decide) eX_standIn_30 (fun c30 => ?_) (fun c30 => ?_)
    · exact absurd c30 (by decide)
    · refine go_aload_n (pc := 33) 0 1 rfl rfl eX_standIn_33 ?_
      refine go_get (pc := 34) hwX 0 rfl rfl 2 (by decide) lkX_26 rfl eX_standIn_34 ?_
      refine go_iload_n (pc := 37) 2 3 rfl rfl eX_standIn_37 ?_
      refine go_dup2 (pc := 38) rfl rfl eX_standIn_38 ?_
      refine go_ialdN (pc := 39) 2 0 (e) eX_standIn_39 rfl rfl (rfl) (he) (by omega) ?_
      refine go_iconst (pc := 40) (v := 1) (by decide) eX_standIn_40 ?_
      refine go_iadd (pc := 41) eX_standIn_41 ?_
      refine go_iastN (pc := 42) (es' := (xV cI cB h a1 a2 a3 a4 a5 F c (fun j => nI (hcnt (va_up fo k (some e)) j)) (fun q => oI (fo q)) (fun q => bI (sp q)) (fun q => bI (pi q)) rest)) 2 0 e eX_standIn_42 rfl rfl rfl he (by omega) (xs2 ((hc_inc hk va_upat).trans (by rw [va_upup]))) ?_
      refine go_aload_n (pc := 43) 0 1 rfl rfl eX_standIn_43 ?_
      refine go_get (pc := 44) hwX 0 rfl rfl 3 (by decide) lkX_29 rfl eX_standIn_44 ?_
      refine go_iload_n (pc := 47) 1 2 rfl rfl eX_standIn_47 ?_
      refine go_iload_n (pc := 48) 2 3 rfl rfl eX_standIn_48 ?_
      refine go_iastN (pc := 49) (es' := (xW cI cB h a1 a2 a3 a4 a5 F c (va_up fo k (some e)) sp pi rest)) 3 0 k eX_standIn_49 rfl rfl rfl hk (by omega) (xs3 upd_o) ?_
      exact go_vret (pc := 50) rfl eX_standIn_50 (hf)
  · exact absurd rfl c12
set_option maxRecDepth 100000 in
set_option maxHeartbeats 1000000 in
theorem c_standIn10 (hF : F ≤ 60) (hfo : ∀ k j, fo k = some j → j < F) (k : Nat) (hk : k < 432) (b : Nat) (hb : fo k = some b)  : Ret (gg D cI cB cL bb L xs) mX_standIn (n + 1) 0 0 [.ref h, .int (nI k), .int (oI (none))] (xW cI cB h a1 a2 a3 a4 a5 F c fo sp pi rest) none (xW cI cB h a1 a2 a3 a4 a5 F c (va_up fo k (none)) sp pi rest) := by
  intro Psi hf
  show Go _ _ _ _ _ 0 [(0, .ref h), (1, .int (nI k)), (2, .int (oI (none)))] [] _ Psi
  refine go_aload_n (pc := 0) 0 0 rfl rfl eX_standIn_0 ?_
  refine go_get (pc := 1) hwX 0 rfl rfl 3 (by decide) lkX_29 rfl eX_standIn_1 ?_
  refine go_iload_n (pc := 4) 1 1 rfl rfl eX_standIn_4 ?_
  refine go_ialdN (pc := 5) 3 0 (k) eX_standIn_5 rfl rfl (rfl) (hk) (by omega) ?_
  refine go_istore_n (pc := 6) (ls' := [(3, _), (0, _), (1, _), (2, _)]) 3 rfl (by decide) eX_standIn_6 rfl ?_
  rw [hb]
  refine go_aload_n (pc := 7) 0 1 rfl rfl eX_standIn_7 ?_
  refine go_iload_n (pc := 8) 3 0 rfl rfl eX_standIn_8 ?_
  refine go_rV (pc := 9) 0 (c_isFrame1 hF b (hfo k b hb)) okX_isFrame lmX_70 eX_standIn_9 rfl rfl rfl rfl rfl (Nat.le_of_ble_eq_true rfl) (Nat.le_of_ble_eq_true rfl) ?_
  refine go_if_eq (pc := 12) 25 (by decide) eX_standIn_12 (fun c12 => ?_) (fun c12 => ?_)
  · exact absurd c12 (by decide)
  · refine go_aload_n (pc := 15) 0 1 rfl rfl eX_standIn_15 ?_
    refine go_get (pc := 16) hwX 0 rfl rfl 2 (by decide) lkX_26 rfl eX_standIn_16 ?_
    refine go_iload_n (pc := 19) 3 0 rfl rfl eX_standIn_19 ?_
    refine go_dup2 (pc := 20) rfl rfl eX_standIn_20 ?_
    refine go_ialdN (pc := 21) 2 0 (b) eX_standIn_21 rfl rfl (rfl) (hfo k b hb) (by omega) ?_
    refine go_iconst (pc := 22) (v := 1) (by decide) eX_standIn_22 ?_
    refine go_isub (pc := 23) eX_standIn_23 ?_
    refine go_iastN (pc := 24) (es' := (xV cI cB h a1 a2 a3 a4 a5 F c (fun j => nI (hcnt (va_up fo k none) j)) (fun q => oI (fo q)) (fun q => bI (sp q)) (fun q => bI (pi q)) rest)) 2 0 b eX_standIn_24 rfl rfl rfl (hfo k b hb) (by omega) (xs2 (hc_dec hk hb)) ?_
    refine go_aload_n (pc := 25) 0 1 rfl rfl eX_standIn_25 ?_
    refine go_iload_n (pc := 26) 2 3 rfl rfl eX_standIn_26 ?_
    refine go_rV (pc := 27) 0 (c_isFrame0) okX_isFrame lmX_70 eX_standIn_27 rfl rfl rfl rfl rfl (Nat.le_of_ble_eq_true rfl) (Nat.le_of_ble_eq_true rfl) ?_
    refine go_if_eq (pc := 30) 43 (by decide) eX_standIn_30 (fun c30 => ?_) (fun c30 => ?_)
    · refine go_aload_n (pc := 43) 0 1 rfl rfl eX_standIn_43 ?_
      refine go_get (pc := 44) hwX 0 rfl rfl 3 (by decide) lkX_29 rfl eX_standIn_44 ?_
      refine go_iload_n (pc := 47) 1 2 rfl rfl eX_standIn_47 ?_
      refine go_iload_n (pc := 48) 2 3 rfl rfl eX_standIn_48 ?_
      refine go_iastN (pc := 49) (es' := (xW cI cB h a1 a2 a3 a4 a5 F c (va_up fo k (none)) sp pi rest)) 3 0 k eX_standIn_49 rfl rfl rfl hk (by omega) (xs3 upd_o) ?_
      exact go_vret (pc := 50) rfl eX_standIn_50 (hf)
    · exact absurd rfl c30
set_option maxRecDepth 100000 in
set_option maxHeartbeats 1000000 in
theorem c_standIn11 (hF : F ≤ 60) (hfo : ∀ k j, fo k = some j → j < F) (k : Nat) (hk : k < 432) (b : Nat) (hb : fo k = some b) (e : Nat) (he : e < F) : Ret (gg D cI cB cL bb L xs) mX_standIn (n + 1) 0 0 [.ref h, .int (nI k), .int (oI (some e))] (xW cI cB h a1 a2 a3 a4 a5 F c fo sp pi rest) none (xW cI cB h a1 a2 a3 a4 a5 F c (va_up fo k (some e)) sp pi rest) := by
  intro Psi hf
  show Go _ _ _ _ _ 0 [(0, .ref h), (1, .int (nI k)), (2, .int (oI (some e)))] [] _ Psi
  refine go_aload_n (pc := 0) 0 0 rfl rfl eX_standIn_0 ?_
  refine go_get (pc := 1) hwX 0 rfl rfl 3 (by decide) lkX_29 rfl eX_standIn_1 ?_
  refine go_iload_n (pc := 4) 1 1 rfl rfl eX_standIn_4 ?_
  refine go_ialdN (pc := 5) 3 0 (k) eX_standIn_5 rfl rfl (rfl) (hk) (by omega) ?_
  refine go_istore_n (pc := 6) (ls' := [(3, _), (0, _), (1, _), (2, _)]) 3 rfl (by decide) eX_standIn_6 rfl ?_
  rw [hb]
  refine go_aload_n (pc := 7) 0 1 rfl rfl eX_standIn_7 ?_
  refine go_iload_n (pc := 8) 3 0 rfl rfl eX_standIn_8 ?_
  refine go_rV (pc := 9) 0 (c_isFrame1 hF b (hfo k b hb)) okX_isFrame lmX_70 eX_standIn_9 rfl rfl rfl rfl rfl (Nat.le_of_ble_eq_true rfl) (Nat.le_of_ble_eq_true rfl) ?_
  refine go_if_eq (pc := 12) 25 (by decide) eX_standIn_12 (fun c12 => ?_) (fun c12 => ?_)
  · exact absurd c12 (by decide)
  · refine go_aload_n (pc := 15) 0 1 rfl rfl eX_standIn_15 ?_
    refine go_get (pc := 16) hwX 0 rfl rfl 2 (by decide) lkX_26 rfl eX_standIn_16 ?_
    refine go_iload_n (pc := 19) 3 0 rfl rfl eX_standIn_19 ?_
    refine go_dup2 (pc := 20) rfl rfl eX_standIn_20 ?_
    refine go_ialdN (pc := 21) 2 0 (b) eX_standIn_21 rfl rfl (rfl) (hfo k b hb) (by omega) ?_
    refine go_iconst (pc := 22) (v := 1) (by decide) eX_standIn_22 ?_
    refine go_isub (pc := 23) eX_standIn_23 ?_
    refine go_iastN (pc := 24) (es' := (xV cI cB h a1 a2 a3 a4 a5 F c (fun j => nI (hcnt (va_up fo k none) j)) (fun q => oI (fo q)) (fun q => bI (sp q)) (fun q => bI (pi q)) rest)) 2 0 b eX_standIn_24 rfl rfl rfl (hfo k b hb) (by omega) (xs2 (hc_dec hk hb)) ?_
    refine go_aload_n (pc := 25) 0 1 rfl rfl eX_standIn_25 ?_
    refine go_iload_n (pc := 26) 2 3 rfl rfl eX_standIn_26 ?_
    refine go_rV (pc := 27) 0 (c_isFrame1 hF e he) okX_isFrame lmX_70 eX_standIn_27 rfl rfl rfl rfl rfl (Nat.le_of_ble_eq_true rfl) (Nat.le_of_ble_eq_true rfl) ?_
    refine go_if_eq (pc := 30) 43 (by decide) eX_standIn_30 (fun c30 => ?_) (fun c30 => ?_)
    · exact absurd c30 (by decide)
    · refine go_aload_n (pc := 33) 0 1 rfl rfl eX_standIn_33 ?_
      refine go_get (pc := 34) hwX 0 rfl rfl 2 (by decide) lkX_26 rfl eX_standIn_34 ?_
      refine go_iload_n (pc := 37) 2 3 rfl rfl eX_standIn_37 ?_
      refine go_dup2 (pc := 38) rfl rfl eX_standIn_38 ?_
      refine go_ialdN (pc := 39) 2 0 (e) eX_standIn_39 rfl rfl (rfl) (he) (by omega) ?_
      refine go_iconst (pc := 40) (v := 1) (by decide) eX_standIn_40 ?_
      refine go_iadd (pc := 41) eX_standIn_41 ?_
      refine go_iastN (pc := 42) (es' := (xV cI cB h a1 a2 a3 a4 a5 F c (fun j => nI (hcnt (va_up fo k (some e)) j)) (fun q => oI (fo q)) (fun q => bI (sp q)) (fun q => bI (pi q)) rest)) 2 0 e eX_standIn_42 rfl rfl rfl he (by omega) (xs2 ((hc_inc hk va_upat).trans (by rw [va_upup]))) ?_
      refine go_aload_n (pc := 43) 0 1 rfl rfl eX_standIn_43 ?_
      refine go_get (pc := 44) hwX 0 rfl rfl 3 (by decide) lkX_29 rfl eX_standIn_44 ?_
      refine go_iload_n (pc := 47) 1 2 rfl rfl eX_standIn_47 ?_
      refine go_iload_n (pc := 48) 2 3 rfl rfl eX_standIn_48 ?_
      refine go_iastN (pc := 49) (es' := (xW cI cB h a1 a2 a3 a4 a5 F c (va_up fo k (some e)) sp pi rest)) 3 0 k eX_standIn_49 rfl rfl rfl hk (by omega) (xs3 upd_o) ?_
      exact go_vret (pc := 50) rfl eX_standIn_50 (hf)
theorem c_standIn (hF : F ≤ 60) (hfo : ∀ k j, fo k = some j → j < F) (k : Nat) (hk : k < 432) (o : Option Nat) (ho : ∀ j, o = some j → j < F) : Ret (gg D cI cB cL bb L xs) mX_standIn (n + 1) 0 0 [.ref h, .int (nI k), .int (oI o)] (xW cI cB h a1 a2 a3 a4 a5 F c fo sp pi rest) none (xW cI cB h a1 a2 a3 a4 a5 F c (va_up fo k o) sp pi rest) := by
  cases hb : fo k with
  | none =>
    cases o with
    | none => exact c_standIn00 hF hfo k hk hb
    | some e => exact c_standIn01 hF hfo k hk hb e (ho e rfl)
  | some b =>
    cases o with
    | none => exact c_standIn10 hF hfo k hk b hb
    | some e => exact c_standIn11 hF hfo k hk b hb e (ho e rfl)
end Sxa
