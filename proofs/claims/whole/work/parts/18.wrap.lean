section WRAP
variable {D : va_G} {cI cB cL : ClassId} {bb L : Nat} {xs : Nat → Int32} {n b ao : Nat} {r : Int32} {es es1 : va_W} {fs : List Value} {o : Nat → Int64} {A : Nat → Nat}
def zL (r : Int32) : Int64 := if r = 0 then 0 else 1
theorem in01 : vp_in 0 1 := by unfold vp_in; decide
/-- the law's wrapper and the reference, one behind the other -/
def SimW (D : va_G) (cI cB cL : ClassId) (bb L : Nat) (xs : Nat → Int32) (A : Nat → Nat) (mw my : gM) (xa : List Value) (f : Int32 → Int64) (N : Nat) (es : va_W) : Prop :=
  ∃ (k b : Int32) (es1 es2 : va_W) (o' : Nat → Int64) (fs : List Value), Ret (gg D cI cB cL bb L xs) mw 6 1 6 (.ref (A 0) :: (xa ++ [.ref (A 11)])) es (some (.int k)) es1 ∧ es1[6]? = some (A 6, .inr (1, fs)) ∧ Ret (gg D cI cB cL bb L xs) my 6 0 0 (.ref (A 6) :: xa) es1 (some (.int b)) es2 ∧ (k = 0 → o' 0 = f b) ∧ St cI cB cL A k o' N es2
set_option maxRecDepth 100000 in
set_option maxHeartbeats 1000000 in
theorem w_fork (x : Int32) (hc : Ret (gg D cI cB cL bb L xs) mX_fork n 0 0 [.ref b, .int x] es (some (.int r)) es1) (h0 : es[0]? = some (b, .inr (0, fs))) (h11 : es1[11]? = some (ao, .inl (cL, 1, .inr (.inl o)))) : Ret (gg D cI cB cL bb L xs) mL_fork (n + 1) 0 0 [.ref b, .int x, .ref ao] es (some (.int 0)) (es1.set 11 (ao, .inl (cL, 1, .inr (.inl (vp_updL o 0 (r.toInt64)))))) := by
  intro Psi hf
  show Go _ _ _ _ _ 0 [(0, .ref b), (1, .int x), (2, .ref ao)] [] _ Psi
  refine go_aload_n (pc := 0) 2 2 rfl rfl eL_fork_0 ?_
  refine go_iconst (pc := 1) (v := 0) (by decide) eL_fork_1 ?_
  refine go_aload_n (pc := 2) 0 0 rfl rfl eL_fork_2 ?_
  refine go_iload_n (pc := 3) 1 1 rfl rfl eL_fork_3 ?_
  refine go_rVX (pc := 4) 0 hc okX_fork lmL_7 eL_fork_4 rfl h0 rfl rfl (Nat.le_of_ble_eq_true rfl) (Nat.le_of_ble_eq_true rfl) ?_
  refine go_i2l (pc := 7) eL_fork_7 ?_
  refine go_last (pc := 8) 11 2 h11 rfl in01 eL_fork_8 rfl ?_
  refine go_goto (pc := 9) 15 (by decide) eL_fork_9 ?_
  refine go_iconst (pc := 15) (v := 0) (by decide) eL_fork_15 ?_
  exact go_iret (pc := 16) rfl rfl eL_fork_16 (hf)
set_option maxRecDepth 100000 in
set_option maxHeartbeats 1000000 in
theorem w_fork_1 (x : Int32) (hc : Thr (gg D cI cB cL bb L xs) mX_fork n 1 6 [.ref b, .int x] es "java/util/NoSuchElementException") (h0 : es[0]? = some (b, .inr (0, fs))) : Ret (gg D cI cB cL bb L xs) mL_fork (n + 1) 1 6 [.ref b, .int x, .ref ao] es (some (.int 1)) es := by
  intro Psi hf
  show Go _ _ _ _ _ 0 [(0, .ref b), (1, .int x), (2, .ref ao)] [] _ Psi
  refine go_aload_n (pc := 0) 2 2 rfl rfl eL_fork_0 ?_
  refine go_iconst (pc := 1) (v := 0) (by decide) eL_fork_1 ?_
  refine go_aload_n (pc := 2) 0 0 rfl rfl eL_fork_2 ?_
  refine go_iload_n (pc := 3) 1 1 rfl rfl eL_fork_3 ?_
  refine go_tVX (pc := 4) 0 12 hc okX_fork lmL_7 eL_fork_4 it_NoSuchElementException ⟨by decide, by decide, by decide, _, clL_13, Or.inl ⟨gh_165, rfl⟩⟩ rfl h0 rfl rfl (Nat.le_of_ble_eq_true rfl) (Nat.le_of_ble_eq_true rfl) (by omega) (by omega) (fun a => ?_)
  refine go_astore_n (pc := 12) (ls' := [(3, _), (0, _), (1, _), (2, _)]) 3 rfl (by decide) eL_fork_12 rfl ?_
  refine go_iconst (pc := 13) (v := 1) (by decide) eL_fork_13 ?_
  exact go_iret (pc := 14) rfl rfl eL_fork_14 (hf)
theorem sw_fork (x : Int32) {N : Nat} {F : Nat} {c : Nat → Int32} {fo : Nat → Option Nat} {sp pi : Nat → Bool} {cd : Int32} {sx : Nat} {pd th : Nat → Bool} {sm : Nat → Nat} {u : Nat → Int32} (S : Sim D cI cB cL bb L xs A mX_fork mY_fork [.int x] [("java/util/NoSuchElementException", 1)] N (wW cI cB cL A F c fo sp pi cd sx pd th sm u)) : SimW D cI cB cL bb L xs A mL_fork mY_fork [.int x] Int32.toInt64 N (wW cI cB cL A F c fo sp pi cd sx pd th sm u o) := by
  rcases S with ⟨r, es1, h1, h2, h3, h4, h5⟩ | ⟨E, k, b, hk, hk0, h1, h2⟩
  · obtain ⟨fs, h6⟩ := h4 (vp_updL o 0 (r.toInt64))
    obtain ⟨es2, h7, h8⟩ := h5 (vp_updL o 0 (r.toInt64))
    have h9 := w_fork x (h1 o) rfl (h2 o)
    rw [h3 o] at h9
    exact ⟨0, r, _, es2, _, fs, (fun Psi hf => go_less (mc' := 0) (ms' := 0) (by omega) (by omega) (h9 Psi hf)), h6, h7, fun _ => rfl, h8⟩
  · obtain ⟨es2, h7, h8⟩ := h2 o
    simp only [List.mem_cons, List.not_mem_nil, or_false, Prod.mk.injEq] at hk
    obtain ⟨rfl, rfl⟩ := hk
    exact ⟨1, b, _, es2, o, _, w_fork_1 x (h1 o) rfl, rfl, h7, fun z => absurd z (by decide), h8⟩
set_option maxRecDepth 100000 in
set_option maxHeartbeats 1000000 in
theorem w_close (x : Int32) (hc : Ret (gg D cI cB cL bb L xs) mX_close n 0 0 [.ref b, .int x] es (some (.int r)) es1) (h0 : es[0]? = some (b, .inr (0, fs))) (h11 : es1[11]? = some (ao, .inl (cL, 1, .inr (.inl o)))) : Ret (gg D cI cB cL bb L xs) mL_close (n + 1) 0 0 [.ref b, .int x, .ref ao] es (some (.int 0)) (es1.set 11 (ao, .inl (cL, 1, .inr (.inl (vp_updL o 0 (r.toInt64)))))) := by
  intro Psi hf
  show Go _ _ _ _ _ 0 [(0, .ref b), (1, .int x), (2, .ref ao)] [] _ Psi
  refine go_aload_n (pc := 0) 2 2 rfl rfl eL_close_0 ?_
  refine go_iconst (pc := 1) (v := 0) (by decide) eL_close_1 ?_
  refine go_aload_n (pc := 2) 0 0 rfl rfl eL_close_2 ?_
  refine go_iload_n (pc := 3) 1 1 rfl rfl eL_close_3 ?_
  refine go_rVX (pc := 4) 0 hc okX_close lmL_15 eL_close_4 rfl h0 rfl rfl (Nat.le_of_ble_eq_true rfl) (Nat.le_of_ble_eq_true rfl) ?_
  refine go_i2l (pc := 7) eL_close_7 ?_
  refine go_last (pc := 8) 11 2 h11 rfl in01 eL_close_8 rfl ?_
  refine go_goto (pc := 9) 15 (by decide) eL_close_9 ?_
  refine go_iconst (pc := 15) (v := 0) (by decide) eL_close_15 ?_
  exact go_iret (pc := 16) rfl rfl eL_close_16 (hf)
set_option maxRecDepth 100000 in
set_option maxHeartbeats 1000000 in
theorem w_close_1 (x : Int32) (hc : Thr (gg D cI cB cL bb L xs) mX_close n 1 6 [.ref b, .int x] es "java/util/NoSuchElementException") (h0 : es[0]? = some (b, .inr (0, fs))) : Ret (gg D cI cB cL bb L xs) mL_close (n + 1) 1 6 [.ref b, .int x, .ref ao] es (some (.int 1)) es := by
  intro Psi hf
  show Go _ _ _ _ _ 0 [(0, .ref b), (1, .int x), (2, .ref ao)] [] _ Psi
  refine go_aload_n (pc := 0) 2 2 rfl rfl eL_close_0 ?_
  refine go_iconst (pc := 1) (v := 0) (by decide) eL_close_1 ?_
  refine go_aload_n (pc := 2) 0 0 rfl rfl eL_close_2 ?_
  refine go_iload_n (pc := 3) 1 1 rfl rfl eL_close_3 ?_
  refine go_tVX (pc := 4) 0 12 hc okX_close lmL_15 eL_close_4 it_NoSuchElementException ⟨by decide, by decide, by decide, _, clL_13, Or.inl ⟨gh_165, rfl⟩⟩ rfl h0 rfl rfl (Nat.le_of_ble_eq_true rfl) (Nat.le_of_ble_eq_true rfl) (by omega) (by omega) (fun a => ?_)
  refine go_astore_n (pc := 12) (ls' := [(3, _), (0, _), (1, _), (2, _)]) 3 rfl (by decide) eL_close_12 rfl ?_
  refine go_iconst (pc := 13) (v := 1) (by decide) eL_close_13 ?_
  exact go_iret (pc := 14) rfl rfl eL_close_14 (hf)
theorem sw_close (x : Int32) {N : Nat} {F : Nat} {c : Nat → Int32} {fo : Nat → Option Nat} {sp pi : Nat → Bool} {cd : Int32} {sx : Nat} {pd th : Nat → Bool} {sm : Nat → Nat} {u : Nat → Int32} (S : Sim D cI cB cL bb L xs A mX_close mY_close [.int x] [("java/util/NoSuchElementException", 1)] N (wW cI cB cL A F c fo sp pi cd sx pd th sm u)) : SimW D cI cB cL bb L xs A mL_close mY_close [.int x] Int32.toInt64 N (wW cI cB cL A F c fo sp pi cd sx pd th sm u o) := by
  rcases S with ⟨r, es1, h1, h2, h3, h4, h5⟩ | ⟨E, k, b, hk, hk0, h1, h2⟩
  · obtain ⟨fs, h6⟩ := h4 (vp_updL o 0 (r.toInt64))
    obtain ⟨es2, h7, h8⟩ := h5 (vp_updL o 0 (r.toInt64))
    have h9 := w_close x (h1 o) rfl (h2 o)
    rw [h3 o] at h9
    exact ⟨0, r, _, es2, _, fs, (fun Psi hf => go_less (mc' := 0) (ms' := 0) (by omega) (by omega) (h9 Psi hf)), h6, h7, fun _ => rfl, h8⟩
  · obtain ⟨es2, h7, h8⟩ := h2 o
    simp only [List.mem_cons, List.not_mem_nil, or_false, Prod.mk.injEq] at hk
    obtain ⟨rfl, rfl⟩ := hk
    exact ⟨1, b, _, es2, o, _, w_close_1 x (h1 o) rfl, rfl, h7, fun z => absurd z (by decide), h8⟩
set_option maxRecDepth 100000 in
set_option maxHeartbeats 1000000 in
theorem w_map (x y z : Int32) (hc : Ret (gg D cI cB cL bb L xs) mX_map n 0 0 [.ref b, .int x, .int y, .int z] es (some (.int r)) es1) (h0 : es[0]? = some (b, .inr (0, fs))) (h11 : es1[11]? = some (ao, .inl (cL, 1, .inr (.inl o)))) : Ret (gg D cI cB cL bb L xs) mL_map (n + 1) 0 0 [.ref b, .int x, .int y, .int z, .ref ao] es (some (.int 0)) (es1.set 11 (ao, .inl (cL, 1, .inr (.inl (vp_updL o 0 (zL r)))))) := by
  intro Psi hf
  show Go _ _ _ _ _ 0 [(0, .ref b), (1, .int x), (2, .int y), (3, .int z), (4, .ref ao)] [] _ Psi
  refine go_aload (pc := 0) 4 4 rfl eL_map_0 ?_
  refine go_iconst (pc := 2) (v := 0) (by decide) eL_map_2 ?_
  refine go_aload_n (pc := 3) 0 0 rfl rfl eL_map_3 ?_
  refine go_iload_n (pc := 4) 1 1 rfl rfl eL_map_4 ?_
  refine go_iload_n (pc := 5) 2 2 rfl rfl eL_map_5 ?_
  refine go_iload_n (pc := 6) 3 3 rfl rfl eL_map_6 ?_
  refine go_rVX (pc := 7) 0 hc okX_map lmL_18 eL_map_7 rfl h0 rfl rfl (Nat.le_of_ble_eq_true rfl) (Nat.le_of_ble_eq_true rfl) ?_
  refine go_if_eq (pc := 10) 17 (by decide) eL_map_10 (fun c10 => ?_) (fun c10 => ?_)
  · rw [show zL r = 0 from if_pos c10] at hf
    refine go_lconst (pc := 17) (v := 0) (by decide) eL_map_17 ?_
    refine go_last (pc := 18) 11 2 h11 rfl in01 eL_map_18 rfl ?_
    refine go_goto (pc := 19) 34 (by decide) eL_map_19 ?_
    refine go_iconst (pc := 34) (v := 0) (by decide) eL_map_34 ?_
    exact go_iret (pc := 35) rfl rfl eL_map_35 (hf)
  · rw [show zL r = 1 from if_neg c10] at hf
    refine go_lconst (pc := 13) (v := 1) (by decide) eL_map_13 ?_
    refine go_goto (pc := 14) 18 (by decide) eL_map_14 ?_
    refine go_last (pc := 18) 11 2 h11 rfl in01 eL_map_18 rfl ?_
    refine go_goto (pc := 19) 34 (by decide) eL_map_19 ?_
    refine go_iconst (pc := 34) (v := 0) (by decide) eL_map_34 ?_
    exact go_iret (pc := 35) rfl rfl eL_map_35 (hf)
set_option maxRecDepth 100000 in
set_option maxHeartbeats 1000000 in
theorem w_map_1 (x y z : Int32) (hc : Thr (gg D cI cB cL bb L xs) mX_map n 1 6 [.ref b, .int x, .int y, .int z] es "java/util/NoSuchElementException") (h0 : es[0]? = some (b, .inr (0, fs))) : Ret (gg D cI cB cL bb L xs) mL_map (n + 1) 1 6 [.ref b, .int x, .int y, .int z, .ref ao] es (some (.int 1)) es := by
  intro Psi hf
  show Go _ _ _ _ _ 0 [(0, .ref b), (1, .int x), (2, .int y), (3, .int z), (4, .ref ao)] [] _ Psi
  refine go_aload (pc := 0) 4 4 rfl eL_map_0 ?_
  refine go_iconst (pc := 2) (v := 0) (by decide) eL_map_2 ?_
  refine go_aload_n (pc := 3) 0 0 rfl rfl eL_map_3 ?_
  refine go_iload_n (pc := 4) 1 1 rfl rfl eL_map_4 ?_
  refine go_iload_n (pc := 5) 2 2 rfl rfl eL_map_5 ?_
  refine go_iload_n (pc := 6) 3 3 rfl rfl eL_map_6 ?_
  refine go_tVX (pc := 7) 0 22 hc okX_map lmL_18 eL_map_7 it_NoSuchElementException ⟨by decide, by decide, by decide, _, clL_13, Or.inl ⟨gh_165, rfl⟩⟩ rfl h0 rfl rfl (Nat.le_of_ble_eq_true rfl) (Nat.le_of_ble_eq_true rfl) (by omega) (by omega) (fun a => ?_)
  refine go_astore (pc := 22) (ls' := [(5, _), (0, _), (1, _), (2, _), (3, _), (4, _)]) 5 (by decide) eL_map_22 rfl ?_
  refine go_iconst (pc := 24) (v := 1) (by decide) eL_map_24 ?_
  exact go_iret (pc := 25) rfl rfl eL_map_25 (hf)
set_option maxRecDepth 100000 in
set_option maxHeartbeats 1000000 in
theorem w_map_2 (x y z : Int32) (hc : Thr (gg D cI cB cL bb L xs) mX_map n 1 6 [.ref b, .int x, .int y, .int z] es "java/lang/IndexOutOfBoundsException") (h0 : es[0]? = some (b, .inr (0, fs))) : Ret (gg D cI cB cL bb L xs) mL_map (n + 1) 1 6 [.ref b, .int x, .int y, .int z, .ref ao] es (some (.int 2)) es := by
  intro Psi hf
  show Go _ _ _ _ _ 0 [(0, .ref b), (1, .int x), (2, .int y), (3, .int z), (4, .ref ao)] [] _ Psi
  refine go_aload (pc := 0) 4 4 rfl eL_map_0 ?_
  refine go_iconst (pc := 2) (v := 0) (by decide) eL_map_2 ?_
  refine go_aload_n (pc := 3) 0 0 rfl rfl eL_map_3 ?_
  refine go_iload_n (pc := 4) 1 1 rfl rfl eL_map_4 ?_
  refine go_iload_n (pc := 5) 2 2 rfl rfl eL_map_5 ?_
  refine go_iload_n (pc := 6) 3 3 rfl rfl eL_map_6 ?_
  refine go_tVX (pc := 7) 0 26 hc okX_map lmL_18 eL_map_7 it_IndexOutOfBoundsException ⟨by decide, by decide, by decide, _, clL_13, Or.inr ⟨(by show (_, _) ∈ gNc; decide), ⟨by decide, by decide, by decide, _, clL_22, Or.inl ⟨gh_253, rfl⟩⟩⟩⟩ rfl h0 rfl rfl (Nat.le_of_ble_eq_true rfl) (Nat.le_of_ble_eq_true rfl) (by omega) (by omega) (fun a => ?_)
  refine go_astore (pc := 26) (ls' := [(5, _), (0, _), (1, _), (2, _), (3, _), (4, _)]) 5 (by decide) eL_map_26 rfl ?_
  refine go_iconst (pc := 28) (v := 2) (by decide) eL_map_28 ?_
  exact go_iret (pc := 29) rfl rfl eL_map_29 (hf)
set_option maxRecDepth 100000 in
set_option maxHeartbeats 1000000 in
theorem w_map_3 (x y z : Int32) (hc : Thr (gg D cI cB cL bb L xs) mX_map n 1 6 [.ref b, .int x, .int y, .int z] es "java/lang/IllegalStateException") (h0 : es[0]? = some (b, .inr (0, fs))) : Ret (gg D cI cB cL bb L xs) mL_map (n + 1) 1 6 [.ref b, .int x, .int y, .int z, .ref ao] es (some (.int 3)) es := by
  intro Psi hf
  show Go _ _ _ _ _ 0 [(0, .ref b), (1, .int x), (2, .int y), (3, .int z), (4, .ref ao)] [] _ Psi
  refine go_aload (pc := 0) 4 4 rfl eL_map_0 ?_
  refine go_iconst (pc := 2) (v := 0) (by decide) eL_map_2 ?_
  refine go_aload_n (pc := 3) 0 0 rfl rfl eL_map_3 ?_
  refine go_iload_n (pc := 4) 1 1 rfl rfl eL_map_4 ?_
  refine go_iload_n (pc := 5) 2 2 rfl rfl eL_map_5 ?_
  refine go_iload_n (pc := 6) 3 3 rfl rfl eL_map_6 ?_
  refine go_tVX (pc := 7) 0 30 hc okX_map lmL_18 eL_map_7 it_IllegalStateException ⟨by decide, by decide, by decide, _, clL_13, Or.inr ⟨(by show (_, _) ∈ gNc; decide), ⟨by decide, by decide, by decide, _, clL_22, Or.inr ⟨(by show (_, _) ∈ gNc; decide), ⟨by decide, by decide, by decide, _, clL_24, Or.inl ⟨gh_273, rfl⟩⟩⟩⟩⟩⟩ rfl h0 rfl rfl (Nat.le_of_ble_eq_true rfl) (Nat.le_of_ble_eq_true rfl) (by omega) (by omega) (fun a => ?_)
  refine go_astore (pc := 30) (ls' := [(5, _), (0, _), (1, _), (2, _), (3, _), (4, _)]) 5 (by decide) eL_map_30 rfl ?_
  refine go_iconst (pc := 32) (v := 3) (by decide) eL_map_32 ?_
  exact go_iret (pc := 33) rfl rfl eL_map_33 (hf)
theorem sw_map (x y z : Int32) {N : Nat} {F : Nat} {c : Nat → Int32} {fo : Nat → Option Nat} {sp pi : Nat → Bool} {cd : Int32} {sx : Nat} {pd th : Nat → Bool} {sm : Nat → Nat} {u : Nat → Int32} (S : Sim D cI cB cL bb L xs A mX_map mY_map [.int x, .int y, .int z] [("java/util/NoSuchElementException", 1), ("java/lang/IndexOutOfBoundsException", 2), ("java/lang/IllegalStateException", 3)] N (wW cI cB cL A F c fo sp pi cd sx pd th sm u)) : SimW D cI cB cL bb L xs A mL_map mY_map [.int x, .int y, .int z] zL N (wW cI cB cL A F c fo sp pi cd sx pd th sm u o) := by
  rcases S with ⟨r, es1, h1, h2, h3, h4, h5⟩ | ⟨E, k, b, hk, hk0, h1, h2⟩
  · obtain ⟨fs, h6⟩ := h4 (vp_updL o 0 (zL r))
    obtain ⟨es2, h7, h8⟩ := h5 (vp_updL o 0 (zL r))
    have h9 := w_map x y z (h1 o) rfl (h2 o)
    rw [h3 o] at h9
    exact ⟨0, r, _, es2, _, fs, (fun Psi hf => go_less (mc' := 0) (ms' := 0) (by omega) (by omega) (h9 Psi hf)), h6, h7, fun _ => rfl, h8⟩
  · obtain ⟨es2, h7, h8⟩ := h2 o
    simp only [List.mem_cons, List.not_mem_nil, or_false, Prod.mk.injEq] at hk
    rcases hk with ⟨rfl, rfl⟩ | ⟨rfl, rfl⟩ | ⟨rfl, rfl⟩
    · exact ⟨1, b, _, es2, o, _, w_map_1 x y z (h1 o) rfl, rfl, h7, fun z => absurd z (by decide), h8⟩
    · exact ⟨2, b, _, es2, o, _, w_map_2 x y z (h1 o) rfl, rfl, h7, fun z => absurd z (by decide), h8⟩
    · exact ⟨3, b, _, es2, o, _, w_map_3 x y z (h1 o) rfl, rfl, h7, fun z => absurd z (by decide), h8⟩
set_option maxRecDepth 100000 in
set_option maxHeartbeats 1000000 in
theorem w_unmap (x y : Int32) (hc : Ret (gg D cI cB cL bb L xs) mX_unmap n 0 0 [.ref b, .int x, .int y] es (some (.int r)) es1) (h0 : es[0]? = some (b, .inr (0, fs))) (h11 : es1[11]? = some (ao, .inl (cL, 1, .inr (.inl o)))) : Ret (gg D cI cB cL bb L xs) mL_unmap (n + 1) 0 0 [.ref b, .int x, .int y, .ref ao] es (some (.int 0)) (es1.set 11 (ao, .inl (cL, 1, .inr (.inl (vp_updL o 0 (zL r)))))) := by
  intro Psi hf
  show Go _ _ _ _ _ 0 [(0, .ref b), (1, .int x), (2, .int y), (3, .ref ao)] [] _ Psi
  refine go_aload_n (pc := 0) 3 3 rfl rfl eL_unmap_0 ?_
  refine go_iconst (pc := 1) (v := 0) (by decide) eL_unmap_1 ?_
  refine go_aload_n (pc := 2) 0 0 rfl rfl eL_unmap_2 ?_
  refine go_iload_n (pc := 3) 1 1 rfl rfl eL_unmap_3 ?_
  refine go_iload_n (pc := 4) 2 2 rfl rfl eL_unmap_4 ?_
  refine go_rVX (pc := 5) 0 hc okX_unmap lmL_26 eL_unmap_5 rfl h0 rfl rfl (Nat.le_of_ble_eq_true rfl) (Nat.le_of_ble_eq_true rfl) ?_
  refine go_if_eq (pc := 8) 15 (by decide) eL_unmap_8 (fun c8 => ?_) (fun c8 => ?_)
  · rw [show zL r = 0 from if_pos c8] at hf
    refine go_lconst (pc := 15) (v := 0) (by decide) eL_unmap_15 ?_
    refine go_last (pc := 16) 11 2 h11 rfl in01 eL_unmap_16 rfl ?_
    refine go_goto (pc := 17) 28 (by decide) eL_unmap_17 ?_
    refine go_iconst (pc := 28) (v := 0) (by decide) eL_unmap_28 ?_
    exact go_iret (pc := 29) rfl rfl eL_unmap_29 (hf)
  · rw [show zL r = 1 from if_neg c8] at hf
    refine go_lconst (pc := 11) (v := 1) (by decide) eL_unmap_11 ?_
    refine go_goto (pc := 12) 16 (by decide) eL_unmap_12 ?_
    refine go_last (pc := 16) 11 2 h11 rfl in01 eL_unmap_16 rfl ?_
    refine go_goto (pc := 17) 28 (by decide) eL_unmap_17 ?_
    refine go_iconst (pc := 28) (v := 0) (by decide) eL_unmap_28 ?_
    exact go_iret (pc := 29) rfl rfl eL_unmap_29 (hf)
set_option maxRecDepth 100000 in
set_option maxHeartbeats 1000000 in
theorem w_unmap_1 (x y : Int32) (hc : Thr (gg D cI cB cL bb L xs) mX_unmap n 1 6 [.ref b, .int x, .int y] es "java/util/NoSuchElementException") (h0 : es[0]? = some (b, .inr (0, fs))) : Ret (gg D cI cB cL bb L xs) mL_unmap (n + 1) 1 6 [.ref b, .int x, .int y, .ref ao] es (some (.int 1)) es := by
  intro Psi hf
  show Go _ _ _ _ _ 0 [(0, .ref b), (1, .int x), (2, .int y), (3, .ref ao)] [] _ Psi
  refine go_aload_n (pc := 0) 3 3 rfl rfl eL_unmap_0 ?_
  refine go_iconst (pc := 1) (v := 0) (by decide) eL_unmap_1 ?_
  refine go_aload_n (pc := 2) 0 0 rfl rfl eL_unmap_2 ?_
  refine go_iload_n (pc := 3) 1 1 rfl rfl eL_unmap_3 ?_
  refine go_iload_n (pc := 4) 2 2 rfl rfl eL_unmap_4 ?_
  refine go_tVX (pc := 5) 0 20 hc okX_unmap lmL_26 eL_unmap_5 it_NoSuchElementException ⟨by decide, by decide, by decide, _, clL_13, Or.inl ⟨gh_165, rfl⟩⟩ rfl h0 rfl rfl (Nat.le_of_ble_eq_true rfl) (Nat.le_of_ble_eq_true rfl) (by omega) (by omega) (fun a => ?_)
  refine go_astore (pc := 20) (ls' := [(4, _), (0, _), (1, _), (2, _), (3, _)]) 4 (by decide) eL_unmap_20 rfl ?_
  refine go_iconst (pc := 22) (v := 1) (by decide) eL_unmap_22 ?_
  exact go_iret (pc := 23) rfl rfl eL_unmap_23 (hf)
set_option maxRecDepth 100000 in
set_option maxHeartbeats 1000000 in
theorem w_unmap_2 (x y : Int32) (hc : Thr (gg D cI cB cL bb L xs) mX_unmap n 1 6 [.ref b, .int x, .int y] es "java/lang/IndexOutOfBoundsException") (h0 : es[0]? = some (b, .inr (0, fs))) : Ret (gg D cI cB cL bb L xs) mL_unmap (n + 1) 1 6 [.ref b, .int x, .int y, .ref ao] es (some (.int 2)) es := by
  intro Psi hf
  show Go _ _ _ _ _ 0 [(0, .ref b), (1, .int x), (2, .int y), (3, .ref ao)] [] _ Psi
  refine go_aload_n (pc := 0) 3 3 rfl rfl eL_unmap_0 ?_
  refine go_iconst (pc := 1) (v := 0) (by decide) eL_unmap_1 ?_
  refine go_aload_n (pc := 2) 0 0 rfl rfl eL_unmap_2 ?_
  refine go_iload_n (pc := 3) 1 1 rfl rfl eL_unmap_3 ?_
  refine go_iload_n (pc := 4) 2 2 rfl rfl eL_unmap_4 ?_
  refine go_tVX (pc := 5) 0 24 hc okX_unmap lmL_26 eL_unmap_5 it_IndexOutOfBoundsException ⟨by decide, by decide, by decide, _, clL_13, Or.inr ⟨(by show (_, _) ∈ gNc; decide), ⟨by decide, by decide, by decide, _, clL_22, Or.inl ⟨gh_253, rfl⟩⟩⟩⟩ rfl h0 rfl rfl (Nat.le_of_ble_eq_true rfl) (Nat.le_of_ble_eq_true rfl) (by omega) (by omega) (fun a => ?_)
  refine go_astore (pc := 24) (ls' := [(4, _), (0, _), (1, _), (2, _), (3, _)]) 4 (by decide) eL_unmap_24 rfl ?_
  refine go_iconst (pc := 26) (v := 2) (by decide) eL_unmap_26 ?_
  exact go_iret (pc := 27) rfl rfl eL_unmap_27 (hf)
theorem sw_unmap (x y : Int32) {N : Nat} {F : Nat} {c : Nat → Int32} {fo : Nat → Option Nat} {sp pi : Nat → Bool} {cd : Int32} {sx : Nat} {pd th : Nat → Bool} {sm : Nat → Nat} {u : Nat → Int32} (S : Sim D cI cB cL bb L xs A mX_unmap mY_unmap [.int x, .int y] [("java/util/NoSuchElementException", 1), ("java/lang/IndexOutOfBoundsException", 2)] N (wW cI cB cL A F c fo sp pi cd sx pd th sm u)) : SimW D cI cB cL bb L xs A mL_unmap mY_unmap [.int x, .int y] zL N (wW cI cB cL A F c fo sp pi cd sx pd th sm u o) := by
  rcases S with ⟨r, es1, h1, h2, h3, h4, h5⟩ | ⟨E, k, b, hk, hk0, h1, h2⟩
  · obtain ⟨fs, h6⟩ := h4 (vp_updL o 0 (zL r))
    obtain ⟨es2, h7, h8⟩ := h5 (vp_updL o 0 (zL r))
    have h9 := w_unmap x y (h1 o) rfl (h2 o)
    rw [h3 o] at h9
    exact ⟨0, r, _, es2, _, fs, (fun Psi hf => go_less (mc' := 0) (ms' := 0) (by omega) (by omega) (h9 Psi hf)), h6, h7, fun _ => rfl, h8⟩
  · obtain ⟨es2, h7, h8⟩ := h2 o
    simp only [List.mem_cons, List.not_mem_nil, or_false, Prod.mk.injEq] at hk
    rcases hk with ⟨rfl, rfl⟩ | ⟨rfl, rfl⟩
    · exact ⟨1, b, _, es2, o, _, w_unmap_1 x y (h1 o) rfl, rfl, h7, fun z => absurd z (by decide), h8⟩
    · exact ⟨2, b, _, es2, o, _, w_unmap_2 x y (h1 o) rfl, rfl, h7, fun z => absurd z (by decide), h8⟩
set_option maxRecDepth 100000 in
set_option maxHeartbeats 1000000 in
theorem w_read (x y : Int32) (hc : Ret (gg D cI cB cL bb L xs) mX_read n 0 0 [.ref b, .int x, .int y] es (some (.int r)) es1) (h0 : es[0]? = some (b, .inr (0, fs))) (h11 : es1[11]? = some (ao, .inl (cL, 1, .inr (.inl o)))) : Ret (gg D cI cB cL bb L xs) mL_read (n + 1) 0 0 [.ref b, .int x, .int y, .ref ao] es (some (.int 0)) (es1.set 11 (ao, .inl (cL, 1, .inr (.inl (vp_updL o 0 (r.toInt64)))))) := by
  intro Psi hf
  show Go _ _ _ _ _ 0 [(0, .ref b), (1, .int x), (2, .int y), (3, .ref ao)] [] _ Psi
  refine go_aload_n (pc := 0) 3 3 rfl rfl eL_read_0 ?_
  refine go_iconst (pc := 1) (v := 0) (by decide) eL_read_1 ?_
  refine go_aload_n (pc := 2) 0 0 rfl rfl eL_read_2 ?_
  refine go_iload_n (pc := 3) 1 1 rfl rfl eL_read_3 ?_
  refine go_iload_n (pc := 4) 2 2 rfl rfl eL_read_4 ?_
  refine go_rVX (pc := 5) 0 hc okX_read lmL_30 eL_read_5 rfl h0 rfl rfl (Nat.le_of_ble_eq_true rfl) (Nat.le_of_ble_eq_true rfl) ?_
  refine go_i2l (pc := 8) eL_read_8 ?_
  refine go_last (pc := 9) 11 2 h11 rfl in01 eL_read_9 rfl ?_
  refine go_goto (pc := 10) 21 (by decide) eL_read_10 ?_
  refine go_iconst (pc := 21) (v := 0) (by decide) eL_read_21 ?_
  exact go_iret (pc := 22) rfl rfl eL_read_22 (hf)
set_option maxRecDepth 100000 in
set_option maxHeartbeats 1000000 in
theorem w_read_1 (x y : Int32) (hc : Thr (gg D cI cB cL bb L xs) mX_read n 1 6 [.ref b, .int x, .int y] es "java/lang/IndexOutOfBoundsException") (h0 : es[0]? = some (b, .inr (0, fs))) : Ret (gg D cI cB cL bb L xs) mL_read (n + 1) 1 6 [.ref b, .int x, .int y, .ref ao] es (some (.int 1)) es := by
  intro Psi hf
  show Go _ _ _ _ _ 0 [(0, .ref b), (1, .int x), (2, .int y), (3, .ref ao)] [] _ Psi
  refine go_aload_n (pc := 0) 3 3 rfl rfl eL_read_0 ?_
  refine go_iconst (pc := 1) (v := 0) (by decide) eL_read_1 ?_
  refine go_aload_n (pc := 2) 0 0 rfl rfl eL_read_2 ?_
  refine go_iload_n (pc := 3) 1 1 rfl rfl eL_read_3 ?_
  refine go_iload_n (pc := 4) 2 2 rfl rfl eL_read_4 ?_
  refine go_tVX (pc := 5) 0 13 hc okX_read lmL_30 eL_read_5 it_IndexOutOfBoundsException ⟨by decide, by decide, by decide, _, clL_22, Or.inl ⟨gh_253, rfl⟩⟩ rfl h0 rfl rfl (Nat.le_of_ble_eq_true rfl) (Nat.le_of_ble_eq_true rfl) (by omega) (by omega) (fun a => ?_)
  refine go_astore (pc := 13) (ls' := [(4, _), (0, _), (1, _), (2, _), (3, _)]) 4 (by decide) eL_read_13 rfl ?_
  refine go_iconst (pc := 15) (v := 1) (by decide) eL_read_15 ?_
  exact go_iret (pc := 16) rfl rfl eL_read_16 (hf)
set_option maxRecDepth 100000 in
set_option maxHeartbeats 1000000 in
theorem w_read_2 (x y : Int32) (hc : Thr (gg D cI cB cL bb L xs) mX_read n 1 6 [.ref b, .int x, .int y] es "java/util/NoSuchElementException") (h0 : es[0]? = some (b, .inr (0, fs))) : Ret (gg D cI cB cL bb L xs) mL_read (n + 1) 1 6 [.ref b, .int x, .int y, .ref ao] es (some (.int 2)) es := by
  intro Psi hf
  show Go _ _ _ _ _ 0 [(0, .ref b), (1, .int x), (2, .int y), (3, .ref ao)] [] _ Psi
  refine go_aload_n (pc := 0) 3 3 rfl rfl eL_read_0 ?_
  refine go_iconst (pc := 1) (v := 0) (by decide) eL_read_1 ?_
  refine go_aload_n (pc := 2) 0 0 rfl rfl eL_read_2 ?_
  refine go_iload_n (pc := 3) 1 1 rfl rfl eL_read_3 ?_
  refine go_iload_n (pc := 4) 2 2 rfl rfl eL_read_4 ?_
  refine go_tVX (pc := 5) 0 17 hc okX_read lmL_30 eL_read_5 it_NoSuchElementException ⟨by decide, by decide, by decide, _, clL_22, Or.inr ⟨(by show (_, _) ∈ gNc; decide), ⟨by decide, by decide, by decide, _, clL_13, Or.inl ⟨gh_165, rfl⟩⟩⟩⟩ rfl h0 rfl rfl (Nat.le_of_ble_eq_true rfl) (Nat.le_of_ble_eq_true rfl) (by omega) (by omega) (fun a => ?_)
  refine go_astore (pc := 17) (ls' := [(4, _), (0, _), (1, _), (2, _), (3, _)]) 4 (by decide) eL_read_17 rfl ?_
  refine go_iconst (pc := 19) (v := 2) (by decide) eL_read_19 ?_
  exact go_iret (pc := 20) rfl rfl eL_read_20 (hf)
theorem sw_read (x y : Int32) {N : Nat} {F : Nat} {c : Nat → Int32} {fo : Nat → Option Nat} {sp pi : Nat → Bool} {cd : Int32} {sx : Nat} {pd th : Nat → Bool} {sm : Nat → Nat} {u : Nat → Int32} (S : Sim D cI cB cL bb L xs A mX_read mY_read [.int x, .int y] [("java/lang/IndexOutOfBoundsException", 1), ("java/util/NoSuchElementException", 2)] N (wW cI cB cL A F c fo sp pi cd sx pd th sm u)) : SimW D cI cB cL bb L xs A mL_read mY_read [.int x, .int y] Int32.toInt64 N (wW cI cB cL A F c fo sp pi cd sx pd th sm u o) := by
  rcases S with ⟨r, es1, h1, h2, h3, h4, h5⟩ | ⟨E, k, b, hk, hk0, h1, h2⟩
  · obtain ⟨fs, h6⟩ := h4 (vp_updL o 0 (r.toInt64))
    obtain ⟨es2, h7, h8⟩ := h5 (vp_updL o 0 (r.toInt64))
    have h9 := w_read x y (h1 o) rfl (h2 o)
    rw [h3 o] at h9
    exact ⟨0, r, _, es2, _, fs, (fun Psi hf => go_less (mc' := 0) (ms' := 0) (by omega) (by omega) (h9 Psi hf)), h6, h7, fun _ => rfl, h8⟩
  · obtain ⟨es2, h7, h8⟩ := h2 o
    simp only [List.mem_cons, List.not_mem_nil, or_false, Prod.mk.injEq] at hk
    rcases hk with ⟨rfl, rfl⟩ | ⟨rfl, rfl⟩
    · exact ⟨1, b, _, es2, o, _, w_read_1 x y (h1 o) rfl, rfl, h7, fun z => absurd z (by decide), h8⟩
    · exact ⟨2, b, _, es2, o, _, w_read_2 x y (h1 o) rfl, rfl, h7, fun z => absurd z (by decide), h8⟩
set_option maxRecDepth 100000 in
set_option maxHeartbeats 1000000 in
theorem w_write (x y z : Int32) (hc : Ret (gg D cI cB cL bb L xs) mX_write n 0 0 [.ref b, .int x, .int y, .int z] es (some (.int r)) es1) (h0 : es[0]? = some (b, .inr (0, fs))) (h11 : es1[11]? = some (ao, .inl (cL, 1, .inr (.inl o)))) : Ret (gg D cI cB cL bb L xs) mL_write (n + 1) 0 0 [.ref b, .int x, .int y, .int z, .ref ao] es (some (.int 0)) (es1.set 11 (ao, .inl (cL, 1, .inr (.inl (vp_updL o 0 (r.toInt64)))))) := by
  intro Psi hf
  show Go _ _ _ _ _ 0 [(0, .ref b), (1, .int x), (2, .int y), (3, .int z), (4, .ref ao)] [] _ Psi
  refine go_aload (pc := 0) 4 4 rfl eL_write_0 ?_
  refine go_iconst (pc := 2) (v := 0) (by decide) eL_write_2 ?_
  refine go_aload_n (pc := 3) 0 0 rfl rfl eL_write_3 ?_
  refine go_iload_n (pc := 4) 1 1 rfl rfl eL_write_4 ?_
  refine go_iload_n (pc := 5) 2 2 rfl rfl eL_write_5 ?_
  refine go_iload_n (pc := 6) 3 3 rfl rfl eL_write_6 ?_
  refine go_rVX (pc := 7) 0 hc okX_write lmL_34 eL_write_7 rfl h0 rfl rfl (Nat.le_of_ble_eq_true rfl) (Nat.le_of_ble_eq_true rfl) ?_
  refine go_i2l (pc := 10) eL_write_10 ?_
  refine go_last (pc := 11) 11 2 h11 rfl in01 eL_write_11 rfl ?_
  refine go_goto (pc := 12) 27 (by decide) eL_write_12 ?_
  refine go_iconst (pc := 27) (v := 0) (by decide) eL_write_27 ?_
  exact go_iret (pc := 28) rfl rfl eL_write_28 (hf)
set_option maxRecDepth 100000 in
set_option maxHeartbeats 1000000 in
theorem w_write_1 (x y z : Int32) (hc : Thr (gg D cI cB cL bb L xs) mX_write n 1 6 [.ref b, .int x, .int y, .int z] es "java/lang/IndexOutOfBoundsException") (h0 : es[0]? = some (b, .inr (0, fs))) : Ret (gg D cI cB cL bb L xs) mL_write (n + 1) 1 6 [.ref b, .int x, .int y, .int z, .ref ao] es (some (.int 1)) es := by
  intro Psi hf
  show Go _ _ _ _ _ 0 [(0, .ref b), (1, .int x), (2, .int y), (3, .int z), (4, .ref ao)] [] _ Psi
  refine go_aload (pc := 0) 4 4 rfl eL_write_0 ?_
  refine go_iconst (pc := 2) (v := 0) (by decide) eL_write_2 ?_
  refine go_aload_n (pc := 3) 0 0 rfl rfl eL_write_3 ?_
  refine go_iload_n (pc := 4) 1 1 rfl rfl eL_write_4 ?_
  refine go_iload_n (pc := 5) 2 2 rfl rfl eL_write_5 ?_
  refine go_iload_n (pc := 6) 3 3 rfl rfl eL_write_6 ?_
  refine go_tVX (pc := 7) 0 15 hc okX_write lmL_34 eL_write_7 it_IndexOutOfBoundsException ⟨by decide, by decide, by decide, _, clL_22, Or.inl ⟨gh_253, rfl⟩⟩ rfl h0 rfl rfl (Nat.le_of_ble_eq_true rfl) (Nat.le_of_ble_eq_true rfl) (by omega) (by omega) (fun a => ?_)
  refine go_astore (pc := 15) (ls' := [(5, _), (0, _), (1, _), (2, _), (3, _), (4, _)]) 5 (by decide) eL_write_15 rfl ?_
  refine go_iconst (pc := 17) (v := 1) (by decide) eL_write_17 ?_
  exact go_iret (pc := 18) rfl rfl eL_write_18 (hf)
set_option maxRecDepth 100000 in
set_option maxHeartbeats 1000000 in
theorem w_write_2 (x y z : Int32) (hc : Thr (gg D cI cB cL bb L xs) mX_write n 1 6 [.ref b, .int x, .int y, .int z] es "java/util/NoSuchElementException") (h0 : es[0]? = some (b, .inr (0, fs))) : Ret (gg D cI cB cL bb L xs) mL_write (n + 1) 1 6 [.ref b, .int x, .int y, .int z, .ref ao] es (some (.int 2)) es := by
  intro Psi hf
  show Go _ _ _ _ _ 0 [(0, .ref b), (1, .int x), (2, .int y), (3, .int z), (4, .ref ao)] [] _ Psi
  refine go_aload (pc := 0) 4 4 rfl eL_write_0 ?_
  refine go_iconst (pc := 2) (v := 0) (by decide) eL_write_2 ?_
  refine go_aload_n (pc := 3) 0 0 rfl rfl eL_write_3 ?_
  refine go_iload_n (pc := 4) 1 1 rfl rfl eL_write_4 ?_
  refine go_iload_n (pc := 5) 2 2 rfl rfl eL_write_5 ?_
  refine go_iload_n (pc := 6) 3 3 rfl rfl eL_write_6 ?_
  refine go_tVX (pc := 7) 0 19 hc okX_write lmL_34 eL_write_7 it_NoSuchElementException ⟨by decide, by decide, by decide, _, clL_22, Or.inr ⟨(by show (_, _) ∈ gNc; decide), ⟨by decide, by decide, by decide, _, clL_13, Or.inl ⟨gh_165, rfl⟩⟩⟩⟩ rfl h0 rfl rfl (Nat.le_of_ble_eq_true rfl) (Nat.le_of_ble_eq_true rfl) (by omega) (by omega) (fun a => ?_)
  refine go_astore (pc := 19) (ls' := [(5, _), (0, _), (1, _), (2, _), (3, _), (4, _)]) 5 (by decide) eL_write_19 rfl ?_
  refine go_iconst (pc := 21) (v := 2) (by decide) eL_write_21 ?_
  exact go_iret (pc := 22) rfl rfl eL_write_22 (hf)
set_option maxRecDepth 100000 in
set_option maxHeartbeats 1000000 in
theorem w_write_3 (x y z : Int32) (hc : Thr (gg D cI cB cL bb L xs) mX_write n 1 6 [.ref b, .int x, .int y, .int z] es "java/lang/IllegalStateException") (h0 : es[0]? = some (b, .inr (0, fs))) : Ret (gg D cI cB cL bb L xs) mL_write (n + 1) 1 6 [.ref b, .int x, .int y, .int z, .ref ao] es (some (.int 3)) es := by
  intro Psi hf
  show Go _ _ _ _ _ 0 [(0, .ref b), (1, .int x), (2, .int y), (3, .int z), (4, .ref ao)] [] _ Psi
  refine go_aload (pc := 0) 4 4 rfl eL_write_0 ?_
  refine go_iconst (pc := 2) (v := 0) (by decide) eL_write_2 ?_
  refine go_aload_n (pc := 3) 0 0 rfl rfl eL_write_3 ?_
  refine go_iload_n (pc := 4) 1 1 rfl rfl eL_write_4 ?_
  refine go_iload_n (pc := 5) 2 2 rfl rfl eL_write_5 ?_
  refine go_iload_n (pc := 6) 3 3 rfl rfl eL_write_6 ?_
  refine go_tVX (pc := 7) 0 23 hc okX_write lmL_34 eL_write_7 it_IllegalStateException ⟨by decide, by decide, by decide, _, clL_22, Or.inr ⟨(by show (_, _) ∈ gNc; decide), ⟨by decide, by decide, by decide, _, clL_13, Or.inr ⟨(by show (_, _) ∈ gNc; decide), ⟨by decide, by decide, by decide, _, clL_24, Or.inl ⟨gh_273, rfl⟩⟩⟩⟩⟩⟩ rfl h0 rfl rfl (Nat.le_of_ble_eq_true rfl) (Nat.le_of_ble_eq_true rfl) (by omega) (by omega) (fun a => ?_)
  refine go_astore (pc := 23) (ls' := [(5, _), (0, _), (1, _), (2, _), (3, _), (4, _)]) 5 (by decide) eL_write_23 rfl ?_
  refine go_iconst (pc := 25) (v := 3) (by decide) eL_write_25 ?_
  exact go_iret (pc := 26) rfl rfl eL_write_26 (hf)
theorem sw_write (x y z : Int32) {N : Nat} {F : Nat} {c : Nat → Int32} {fo : Nat → Option Nat} {sp pi : Nat → Bool} {cd : Int32} {sx : Nat} {pd th : Nat → Bool} {sm : Nat → Nat} {u : Nat → Int32} (S : Sim D cI cB cL bb L xs A mX_write mY_write [.int x, .int y, .int z] [("java/lang/IndexOutOfBoundsException", 1), ("java/util/NoSuchElementException", 2), ("java/lang/IllegalStateException", 3)] N (wW cI cB cL A F c fo sp pi cd sx pd th sm u)) : SimW D cI cB cL bb L xs A mL_write mY_write [.int x, .int y, .int z] Int32.toInt64 N (wW cI cB cL A F c fo sp pi cd sx pd th sm u o) := by
  rcases S with ⟨r, es1, h1, h2, h3, h4, h5⟩ | ⟨E, k, b, hk, hk0, h1, h2⟩
  · obtain ⟨fs, h6⟩ := h4 (vp_updL o 0 (r.toInt64))
    obtain ⟨es2, h7, h8⟩ := h5 (vp_updL o 0 (r.toInt64))
    have h9 := w_write x y z (h1 o) rfl (h2 o)
    rw [h3 o] at h9
    exact ⟨0, r, _, es2, _, fs, (fun Psi hf => go_less (mc' := 0) (ms' := 0) (by omega) (by omega) (h9 Psi hf)), h6, h7, fun _ => rfl, h8⟩
  · obtain ⟨es2, h7, h8⟩ := h2 o
    simp only [List.mem_cons, List.not_mem_nil, or_false, Prod.mk.injEq] at hk
    rcases hk with ⟨rfl, rfl⟩ | ⟨rfl, rfl⟩ | ⟨rfl, rfl⟩
    · exact ⟨1, b, _, es2, o, _, w_write_1 x y z (h1 o) rfl, rfl, h7, fun z => absurd z (by decide), h8⟩
    · exact ⟨2, b, _, es2, o, _, w_write_2 x y z (h1 o) rfl, rfl, h7, fun z => absurd z (by decide), h8⟩
    · exact ⟨3, b, _, es2, o, _, w_write_3 x y z (h1 o) rfl, rfl, h7, fun z => absurd z (by decide), h8⟩
set_option maxRecDepth 100000 in
set_option maxHeartbeats 1000000 in
theorem w_lend (x y z w : Int32) (hc : Ret (gg D cI cB cL bb L xs) mX_lend n 0 0 [.ref b, .int x, .int y, .int z, .int w] es (some (.int r)) es1) (h0 : es[0]? = some (b, .inr (0, fs))) (h11 : es1[11]? = some (ao, .inl (cL, 1, .inr (.inl o)))) : Ret (gg D cI cB cL bb L xs) mL_lend (n + 1) 0 0 [.ref b, .int x, .int y, .int z, .int w, .ref ao] es (some (.int 0)) (es1.set 11 (ao, .inl (cL, 1, .inr (.inl (vp_updL o 0 (zL r)))))) := by
  intro Psi hf
  show Go _ _ _ _ _ 0 [(0, .ref b), (1, .int x), (2, .int y), (3, .int z), (4, .int w), (5, .ref ao)] [] _ Psi
  refine go_aload (pc := 0) 5 5 rfl eL_lend_0 ?_
  refine go_iconst (pc := 2) (v := 0) (by decide) eL_lend_2 ?_
  refine go_aload_n (pc := 3) 0 0 rfl rfl eL_lend_3 ?_
  refine go_iload_n (pc := 4) 1 1 rfl rfl eL_lend_4 ?_
  refine go_iload_n (pc := 5) 2 2 rfl rfl eL_lend_5 ?_
  refine go_iload_n (pc := 6) 3 3 rfl rfl eL_lend_6 ?_
  refine go_iload (pc := 7) 4 4 rfl eL_lend_7 ?_
  refine go_rVX (pc := 9) 0 hc okX_lend lmL_38 eL_lend_9 rfl h0 rfl rfl (Nat.le_of_ble_eq_true rfl) (Nat.le_of_ble_eq_true rfl) ?_
  refine go_if_eq (pc := 12) 19 (by decide) eL_lend_12 (fun c12 => ?_) (fun c12 => ?_)
  · rw [show zL r = 0 from if_pos c12] at hf
    refine go_lconst (pc := 19) (v := 0) (by decide) eL_lend_19 ?_
    refine go_last (pc := 20) 11 2 h11 rfl in01 eL_lend_20 rfl ?_
    refine go_goto (pc := 21) 32 (by decide) eL_lend_21 ?_
    refine go_iconst (pc := 32) (v := 0) (by decide) eL_lend_32 ?_
    exact go_iret (pc := 33) rfl rfl eL_lend_33 (hf)
  · rw [show zL r = 1 from if_neg c12] at hf
    refine go_lconst (pc := 15) (v := 1) (by decide) eL_lend_15 ?_
    refine go_goto (pc := 16) 20 (by decide) eL_lend_16 ?_
    refine go_last (pc := 20) 11 2 h11 rfl in01 eL_lend_20 rfl ?_
    refine go_goto (pc := 21) 32 (by decide) eL_lend_21 ?_
    refine go_iconst (pc := 32) (v := 0) (by decide) eL_lend_32 ?_
    exact go_iret (pc := 33) rfl rfl eL_lend_33 (hf)
set_option maxRecDepth 100000 in
set_option maxHeartbeats 1000000 in
theorem w_lend_1 (x y z w : Int32) (hc : Thr (gg D cI cB cL bb L xs) mX_lend n 1 6 [.ref b, .int x, .int y, .int z, .int w] es "java/util/NoSuchElementException") (h0 : es[0]? = some (b, .inr (0, fs))) : Ret (gg D cI cB cL bb L xs) mL_lend (n + 1) 1 6 [.ref b, .int x, .int y, .int z, .int w, .ref ao] es (some (.int 1)) es := by
  intro Psi hf
  show Go _ _ _ _ _ 0 [(0, .ref b), (1, .int x), (2, .int y), (3, .int z), (4, .int w), (5, .ref ao)] [] _ Psi
  refine go_aload (pc := 0) 5 5 rfl eL_lend_0 ?_
  refine go_iconst (pc := 2) (v := 0) (by decide) eL_lend_2 ?_
  refine go_aload_n (pc := 3) 0 0 rfl rfl eL_lend_3 ?_
  refine go_iload_n (pc := 4) 1 1 rfl rfl eL_lend_4 ?_
  refine go_iload_n (pc := 5) 2 2 rfl rfl eL_lend_5 ?_
  refine go_iload_n (pc := 6) 3 3 rfl rfl eL_lend_6 ?_
  refine go_iload (pc := 7) 4 4 rfl eL_lend_7 ?_
  refine go_tVX (pc := 9) 0 24 hc okX_lend lmL_38 eL_lend_9 it_NoSuchElementException ⟨by decide, by decide, by decide, _, clL_13, Or.inl ⟨gh_165, rfl⟩⟩ rfl h0 rfl rfl (Nat.le_of_ble_eq_true rfl) (Nat.le_of_ble_eq_true rfl) (by omega) (by omega) (fun a => ?_)
  refine go_astore (pc := 24) (ls' := [(6, _), (0, _), (1, _), (2, _), (3, _), (4, _), (5, _)]) 6 (by decide) eL_lend_24 rfl ?_
  refine go_iconst (pc := 26) (v := 1) (by decide) eL_lend_26 ?_
  exact go_iret (pc := 27) rfl rfl eL_lend_27 (hf)
set_option maxRecDepth 100000 in
set_option maxHeartbeats 1000000 in
theorem w_lend_2 (x y z w : Int32) (hc : Thr (gg D cI cB cL bb L xs) mX_lend n 1 6 [.ref b, .int x, .int y, .int z, .int w] es "java/lang/IndexOutOfBoundsException") (h0 : es[0]? = some (b, .inr (0, fs))) : Ret (gg D cI cB cL bb L xs) mL_lend (n + 1) 1 6 [.ref b, .int x, .int y, .int z, .int w, .ref ao] es (some (.int 2)) es := by
  intro Psi hf
  show Go _ _ _ _ _ 0 [(0, .ref b), (1, .int x), (2, .int y), (3, .int z), (4, .int w), (5, .ref ao)] [] _ Psi
  refine go_aload (pc := 0) 5 5 rfl eL_lend_0 ?_
  refine go_iconst (pc := 2) (v := 0) (by decide) eL_lend_2 ?_
  refine go_aload_n (pc := 3) 0 0 rfl rfl eL_lend_3 ?_
  refine go_iload_n (pc := 4) 1 1 rfl rfl eL_lend_4 ?_
  refine go_iload_n (pc := 5) 2 2 rfl rfl eL_lend_5 ?_
  refine go_iload_n (pc := 6) 3 3 rfl rfl eL_lend_6 ?_
  refine go_iload (pc := 7) 4 4 rfl eL_lend_7 ?_
  refine go_tVX (pc := 9) 0 28 hc okX_lend lmL_38 eL_lend_9 it_IndexOutOfBoundsException ⟨by decide, by decide, by decide, _, clL_13, Or.inr ⟨(by show (_, _) ∈ gNc; decide), ⟨by decide, by decide, by decide, _, clL_22, Or.inl ⟨gh_253, rfl⟩⟩⟩⟩ rfl h0 rfl rfl (Nat.le_of_ble_eq_true rfl) (Nat.le_of_ble_eq_true rfl) (by omega) (by omega) (fun a => ?_)
  refine go_astore (pc := 28) (ls' := [(6, _), (0, _), (1, _), (2, _), (3, _), (4, _), (5, _)]) 6 (by decide) eL_lend_28 rfl ?_
  refine go_iconst (pc := 30) (v := 2) (by decide) eL_lend_30 ?_
  exact go_iret (pc := 31) rfl rfl eL_lend_31 (hf)
theorem sw_lend (x y z w : Int32) {N : Nat} {F : Nat} {c : Nat → Int32} {fo : Nat → Option Nat} {sp pi : Nat → Bool} {cd : Int32} {sx : Nat} {pd th : Nat → Bool} {sm : Nat → Nat} {u : Nat → Int32} (S : Sim D cI cB cL bb L xs A mX_lend mY_lend [.int x, .int y, .int z, .int w] [("java/util/NoSuchElementException", 1), ("java/lang/IndexOutOfBoundsException", 2)] N (wW cI cB cL A F c fo sp pi cd sx pd th sm u)) : SimW D cI cB cL bb L xs A mL_lend mY_lend [.int x, .int y, .int z, .int w] zL N (wW cI cB cL A F c fo sp pi cd sx pd th sm u o) := by
  rcases S with ⟨r, es1, h1, h2, h3, h4, h5⟩ | ⟨E, k, b, hk, hk0, h1, h2⟩
  · obtain ⟨fs, h6⟩ := h4 (vp_updL o 0 (zL r))
    obtain ⟨es2, h7, h8⟩ := h5 (vp_updL o 0 (zL r))
    have h9 := w_lend x y z w (h1 o) rfl (h2 o)
    rw [h3 o] at h9
    exact ⟨0, r, _, es2, _, fs, (fun Psi hf => go_less (mc' := 0) (ms' := 0) (by omega) (by omega) (h9 Psi hf)), h6, h7, fun _ => rfl, h8⟩
  · obtain ⟨es2, h7, h8⟩ := h2 o
    simp only [List.mem_cons, List.not_mem_nil, or_false, Prod.mk.injEq] at hk
    rcases hk with ⟨rfl, rfl⟩ | ⟨rfl, rfl⟩
    · exact ⟨1, b, _, es2, o, _, w_lend_1 x y z w (h1 o) rfl, rfl, h7, fun z => absurd z (by decide), h8⟩
    · exact ⟨2, b, _, es2, o, _, w_lend_2 x y z w (h1 o) rfl, rfl, h7, fun z => absurd z (by decide), h8⟩
set_option maxRecDepth 100000 in
set_option maxHeartbeats 1000000 in
theorem w_join (x y z w : Int32) (hc : Ret (gg D cI cB cL bb L xs) mX_join n 0 0 [.ref b, .int x, .int y, .int z, .int w] es (some (.int r)) es1) (h0 : es[0]? = some (b, .inr (0, fs))) (h11 : es1[11]? = some (ao, .inl (cL, 1, .inr (.inl o)))) : Ret (gg D cI cB cL bb L xs) mL_join (n + 1) 0 0 [.ref b, .int x, .int y, .int z, .int w, .ref ao] es (some (.int 0)) (es1.set 11 (ao, .inl (cL, 1, .inr (.inl (vp_updL o 0 (r.toInt64)))))) := by
  intro Psi hf
  show Go _ _ _ _ _ 0 [(0, .ref b), (1, .int x), (2, .int y), (3, .int z), (4, .int w), (5, .ref ao)] [] _ Psi
  refine go_aload (pc := 0) 5 5 rfl eL_join_0 ?_
  refine go_iconst (pc := 2) (v := 0) (by decide) eL_join_2 ?_
  refine go_aload_n (pc := 3) 0 0 rfl rfl eL_join_3 ?_
  refine go_iload_n (pc := 4) 1 1 rfl rfl eL_join_4 ?_
  refine go_iload_n (pc := 5) 2 2 rfl rfl eL_join_5 ?_
  refine go_iload_n (pc := 6) 3 3 rfl rfl eL_join_6 ?_
  refine go_iload (pc := 7) 4 4 rfl eL_join_7 ?_
  refine go_rVX (pc := 9) 0 hc okX_join lmL_42 eL_join_9 rfl h0 rfl rfl (Nat.le_of_ble_eq_true rfl) (Nat.le_of_ble_eq_true rfl) ?_
  refine go_i2l (pc := 12) eL_join_12 ?_
  refine go_last (pc := 13) 11 2 h11 rfl in01 eL_join_13 rfl ?_
  refine go_goto (pc := 14) 25 (by decide) eL_join_14 ?_
  refine go_iconst (pc := 25) (v := 0) (by decide) eL_join_25 ?_
  exact go_iret (pc := 26) rfl rfl eL_join_26 (hf)
set_option maxRecDepth 100000 in
set_option maxHeartbeats 1000000 in
theorem w_join_1 (x y z w : Int32) (hc : Thr (gg D cI cB cL bb L xs) mX_join n 1 6 [.ref b, .int x, .int y, .int z, .int w] es "java/util/NoSuchElementException") (h0 : es[0]? = some (b, .inr (0, fs))) : Ret (gg D cI cB cL bb L xs) mL_join (n + 1) 1 6 [.ref b, .int x, .int y, .int z, .int w, .ref ao] es (some (.int 1)) es := by
  intro Psi hf
  show Go _ _ _ _ _ 0 [(0, .ref b), (1, .int x), (2, .int y), (3, .int z), (4, .int w), (5, .ref ao)] [] _ Psi
  refine go_aload (pc := 0) 5 5 rfl eL_join_0 ?_
  refine go_iconst (pc := 2) (v := 0) (by decide) eL_join_2 ?_
  refine go_aload_n (pc := 3) 0 0 rfl rfl eL_join_3 ?_
  refine go_iload_n (pc := 4) 1 1 rfl rfl eL_join_4 ?_
  refine go_iload_n (pc := 5) 2 2 rfl rfl eL_join_5 ?_
  refine go_iload_n (pc := 6) 3 3 rfl rfl eL_join_6 ?_
  refine go_iload (pc := 7) 4 4 rfl eL_join_7 ?_
  refine go_tVX (pc := 9) 0 17 hc okX_join lmL_42 eL_join_9 it_NoSuchElementException ⟨by decide, by decide, by decide, _, clL_13, Or.inl ⟨gh_165, rfl⟩⟩ rfl h0 rfl rfl (Nat.le_of_ble_eq_true rfl) (Nat.le_of_ble_eq_true rfl) (by omega) (by omega) (fun a => ?_)
  refine go_astore (pc := 17) (ls' := [(6, _), (0, _), (1, _), (2, _), (3, _), (4, _), (5, _)]) 6 (by decide) eL_join_17 rfl ?_
  refine go_iconst (pc := 19) (v := 1) (by decide) eL_join_19 ?_
  exact go_iret (pc := 20) rfl rfl eL_join_20 (hf)
set_option maxRecDepth 100000 in
set_option maxHeartbeats 1000000 in
theorem w_join_2 (x y z w : Int32) (hc : Thr (gg D cI cB cL bb L xs) mX_join n 1 6 [.ref b, .int x, .int y, .int z, .int w] es "java/lang/IndexOutOfBoundsException") (h0 : es[0]? = some (b, .inr (0, fs))) : Ret (gg D cI cB cL bb L xs) mL_join (n + 1) 1 6 [.ref b, .int x, .int y, .int z, .int w, .ref ao] es (some (.int 2)) es := by
  intro Psi hf
  show Go _ _ _ _ _ 0 [(0, .ref b), (1, .int x), (2, .int y), (3, .int z), (4, .int w), (5, .ref ao)] [] _ Psi
  refine go_aload (pc := 0) 5 5 rfl eL_join_0 ?_
  refine go_iconst (pc := 2) (v := 0) (by decide) eL_join_2 ?_
  refine go_aload_n (pc := 3) 0 0 rfl rfl eL_join_3 ?_
  refine go_iload_n (pc := 4) 1 1 rfl rfl eL_join_4 ?_
  refine go_iload_n (pc := 5) 2 2 rfl rfl eL_join_5 ?_
  refine go_iload_n (pc := 6) 3 3 rfl rfl eL_join_6 ?_
  refine go_iload (pc := 7) 4 4 rfl eL_join_7 ?_
  refine go_tVX (pc := 9) 0 21 hc okX_join lmL_42 eL_join_9 it_IndexOutOfBoundsException ⟨by decide, by decide, by decide, _, clL_13, Or.inr ⟨(by show (_, _) ∈ gNc; decide), ⟨by decide, by decide, by decide, _, clL_22, Or.inl ⟨gh_253, rfl⟩⟩⟩⟩ rfl h0 rfl rfl (Nat.le_of_ble_eq_true rfl) (Nat.le_of_ble_eq_true rfl) (by omega) (by omega) (fun a => ?_)
  refine go_astore (pc := 21) (ls' := [(6, _), (0, _), (1, _), (2, _), (3, _), (4, _), (5, _)]) 6 (by decide) eL_join_21 rfl ?_
  refine go_iconst (pc := 23) (v := 2) (by decide) eL_join_23 ?_
  exact go_iret (pc := 24) rfl rfl eL_join_24 (hf)
theorem sw_join (x y z w : Int32) {N : Nat} {F : Nat} {c : Nat → Int32} {fo : Nat → Option Nat} {sp pi : Nat → Bool} {cd : Int32} {sx : Nat} {pd th : Nat → Bool} {sm : Nat → Nat} {u : Nat → Int32} (S : Sim D cI cB cL bb L xs A mX_join mY_join [.int x, .int y, .int z, .int w] [("java/util/NoSuchElementException", 1), ("java/lang/IndexOutOfBoundsException", 2)] N (wW cI cB cL A F c fo sp pi cd sx pd th sm u)) : SimW D cI cB cL bb L xs A mL_join mY_join [.int x, .int y, .int z, .int w] Int32.toInt64 N (wW cI cB cL A F c fo sp pi cd sx pd th sm u o) := by
  rcases S with ⟨r, es1, h1, h2, h3, h4, h5⟩ | ⟨E, k, b, hk, hk0, h1, h2⟩
  · obtain ⟨fs, h6⟩ := h4 (vp_updL o 0 (r.toInt64))
    obtain ⟨es2, h7, h8⟩ := h5 (vp_updL o 0 (r.toInt64))
    have h9 := w_join x y z w (h1 o) rfl (h2 o)
    rw [h3 o] at h9
    exact ⟨0, r, _, es2, _, fs, (fun Psi hf => go_less (mc' := 0) (ms' := 0) (by omega) (by omega) (h9 Psi hf)), h6, h7, fun _ => rfl, h8⟩
  · obtain ⟨es2, h7, h8⟩ := h2 o
    simp only [List.mem_cons, List.not_mem_nil, or_false, Prod.mk.injEq] at hk
    rcases hk with ⟨rfl, rfl⟩ | ⟨rfl, rfl⟩
    · exact ⟨1, b, _, es2, o, _, w_join_1 x y z w (h1 o) rfl, rfl, h7, fun z => absurd z (by decide), h8⟩
    · exact ⟨2, b, _, es2, o, _, w_join_2 x y z w (h1 o) rfl, rfl, h7, fun z => absurd z (by decide), h8⟩
set_option maxRecDepth 100000 in
set_option maxHeartbeats 1000000 in
theorem w_back (x : Int32) (hc : Ret (gg D cI cB cL bb L xs) mX_back n 0 0 [.ref b, .int x] es (some (.int r)) es1) (h0 : es[0]? = some (b, .inr (0, fs))) (h11 : es1[11]? = some (ao, .inl (cL, 1, .inr (.inl o)))) : Ret (gg D cI cB cL bb L xs) mL_back (n + 1) 0 0 [.ref b, .int x, .ref ao] es (some (.int 0)) (es1.set 11 (ao, .inl (cL, 1, .inr (.inl (vp_updL o 0 (r.toInt64)))))) := by
  intro Psi hf
  show Go _ _ _ _ _ 0 [(0, .ref b), (1, .int x), (2, .ref ao)] [] _ Psi
  refine go_aload_n (pc := 0) 2 2 rfl rfl eL_back_0 ?_
  refine go_iconst (pc := 1) (v := 0) (by decide) eL_back_1 ?_
  refine go_aload_n (pc := 2) 0 0 rfl rfl eL_back_2 ?_
  refine go_iload_n (pc := 3) 1 1 rfl rfl eL_back_3 ?_
  refine go_rVX (pc := 4) 0 hc okX_back lmL_46 eL_back_4 rfl h0 rfl rfl (Nat.le_of_ble_eq_true rfl) (Nat.le_of_ble_eq_true rfl) ?_
  refine go_i2l (pc := 7) eL_back_7 ?_
  refine go_last (pc := 8) 11 2 h11 rfl in01 eL_back_8 rfl ?_
  refine go_goto (pc := 9) 15 (by decide) eL_back_9 ?_
  refine go_iconst (pc := 15) (v := 0) (by decide) eL_back_15 ?_
  exact go_iret (pc := 16) rfl rfl eL_back_16 (hf)
set_option maxRecDepth 100000 in
set_option maxHeartbeats 1000000 in
theorem w_back_1 (x : Int32) (hc : Thr (gg D cI cB cL bb L xs) mX_back n 1 6 [.ref b, .int x] es "java/util/NoSuchElementException") (h0 : es[0]? = some (b, .inr (0, fs))) : Ret (gg D cI cB cL bb L xs) mL_back (n + 1) 1 6 [.ref b, .int x, .ref ao] es (some (.int 1)) es := by
  intro Psi hf
  show Go _ _ _ _ _ 0 [(0, .ref b), (1, .int x), (2, .ref ao)] [] _ Psi
  refine go_aload_n (pc := 0) 2 2 rfl rfl eL_back_0 ?_
  refine go_iconst (pc := 1) (v := 0) (by decide) eL_back_1 ?_
  refine go_aload_n (pc := 2) 0 0 rfl rfl eL_back_2 ?_
  refine go_iload_n (pc := 3) 1 1 rfl rfl eL_back_3 ?_
  refine go_tVX (pc := 4) 0 12 hc okX_back lmL_46 eL_back_4 it_NoSuchElementException ⟨by decide, by decide, by decide, _, clL_13, Or.inl ⟨gh_165, rfl⟩⟩ rfl h0 rfl rfl (Nat.le_of_ble_eq_true rfl) (Nat.le_of_ble_eq_true rfl) (by omega) (by omega) (fun a => ?_)
  refine go_astore_n (pc := 12) (ls' := [(3, _), (0, _), (1, _), (2, _)]) 3 rfl (by decide) eL_back_12 rfl ?_
  refine go_iconst (pc := 13) (v := 1) (by decide) eL_back_13 ?_
  exact go_iret (pc := 14) rfl rfl eL_back_14 (hf)
theorem sw_back (x : Int32) {N : Nat} {F : Nat} {c : Nat → Int32} {fo : Nat → Option Nat} {sp pi : Nat → Bool} {cd : Int32} {sx : Nat} {pd th : Nat → Bool} {sm : Nat → Nat} {u : Nat → Int32} (S : Sim D cI cB cL bb L xs A mX_back mY_back [.int x] [("java/util/NoSuchElementException", 1)] N (wW cI cB cL A F c fo sp pi cd sx pd th sm u)) : SimW D cI cB cL bb L xs A mL_back mY_back [.int x] Int32.toInt64 N (wW cI cB cL A F c fo sp pi cd sx pd th sm u o) := by
  rcases S with ⟨r, es1, h1, h2, h3, h4, h5⟩ | ⟨E, k, b, hk, hk0, h1, h2⟩
  · obtain ⟨fs, h6⟩ := h4 (vp_updL o 0 (r.toInt64))
    obtain ⟨es2, h7, h8⟩ := h5 (vp_updL o 0 (r.toInt64))
    have h9 := w_back x (h1 o) rfl (h2 o)
    rw [h3 o] at h9
    exact ⟨0, r, _, es2, _, fs, (fun Psi hf => go_less (mc' := 0) (ms' := 0) (by omega) (by omega) (h9 Psi hf)), h6, h7, fun _ => rfl, h8⟩
  · obtain ⟨es2, h7, h8⟩ := h2 o
    simp only [List.mem_cons, List.not_mem_nil, or_false, Prod.mk.injEq] at hk
    obtain ⟨rfl, rfl⟩ := hk
    exact ⟨1, b, _, es2, o, _, w_back_1 x (h1 o) rfl, rfl, h7, fun z => absurd z (by decide), h8⟩
set_option maxRecDepth 100000 in
set_option maxHeartbeats 1000000 in
theorem w_drop (x : Int32) (hc : Ret (gg D cI cB cL bb L xs) mX_drop n 0 0 [.ref b, .int x] es (some (.int r)) es1) (h0 : es[0]? = some (b, .inr (0, fs))) (h11 : es1[11]? = some (ao, .inl (cL, 1, .inr (.inl o)))) : Ret (gg D cI cB cL bb L xs) mL_drop (n + 1) 0 0 [.ref b, .int x, .ref ao] es (some (.int 0)) (es1.set 11 (ao, .inl (cL, 1, .inr (.inl (vp_updL o 0 (r.toInt64)))))) := by
  intro Psi hf
  show Go _ _ _ _ _ 0 [(0, .ref b), (1, .int x), (2, .ref ao)] [] _ Psi
  refine go_aload_n (pc := 0) 2 2 rfl rfl eL_drop_0 ?_
  refine go_iconst (pc := 1) (v := 0) (by decide) eL_drop_1 ?_
  refine go_aload_n (pc := 2) 0 0 rfl rfl eL_drop_2 ?_
  refine go_iload_n (pc := 3) 1 1 rfl rfl eL_drop_3 ?_
  refine go_rVX (pc := 4) 0 hc okX_drop lmL_49 eL_drop_4 rfl h0 rfl rfl (Nat.le_of_ble_eq_true rfl) (Nat.le_of_ble_eq_true rfl) ?_
  refine go_i2l (pc := 7) eL_drop_7 ?_
  refine go_last (pc := 8) 11 2 h11 rfl in01 eL_drop_8 rfl ?_
  refine go_goto (pc := 9) 15 (by decide) eL_drop_9 ?_
  refine go_iconst (pc := 15) (v := 0) (by decide) eL_drop_15 ?_
  exact go_iret (pc := 16) rfl rfl eL_drop_16 (hf)
set_option maxRecDepth 100000 in
set_option maxHeartbeats 1000000 in
theorem w_drop_1 (x : Int32) (hc : Thr (gg D cI cB cL bb L xs) mX_drop n 1 6 [.ref b, .int x] es "java/util/NoSuchElementException") (h0 : es[0]? = some (b, .inr (0, fs))) : Ret (gg D cI cB cL bb L xs) mL_drop (n + 1) 1 6 [.ref b, .int x, .ref ao] es (some (.int 1)) es := by
  intro Psi hf
  show Go _ _ _ _ _ 0 [(0, .ref b), (1, .int x), (2, .ref ao)] [] _ Psi
  refine go_aload_n (pc := 0) 2 2 rfl rfl eL_drop_0 ?_
  refine go_iconst (pc := 1) (v := 0) (by decide) eL_drop_1 ?_
  refine go_aload_n (pc := 2) 0 0 rfl rfl eL_drop_2 ?_
  refine go_iload_n (pc := 3) 1 1 rfl rfl eL_drop_3 ?_
  refine go_tVX (pc := 4) 0 12 hc okX_drop lmL_49 eL_drop_4 it_NoSuchElementException ⟨by decide, by decide, by decide, _, clL_13, Or.inl ⟨gh_165, rfl⟩⟩ rfl h0 rfl rfl (Nat.le_of_ble_eq_true rfl) (Nat.le_of_ble_eq_true rfl) (by omega) (by omega) (fun a => ?_)
  refine go_astore_n (pc := 12) (ls' := [(3, _), (0, _), (1, _), (2, _)]) 3 rfl (by decide) eL_drop_12 rfl ?_
  refine go_iconst (pc := 13) (v := 1) (by decide) eL_drop_13 ?_
  exact go_iret (pc := 14) rfl rfl eL_drop_14 (hf)
theorem sw_drop (x : Int32) {N : Nat} {F : Nat} {c : Nat → Int32} {fo : Nat → Option Nat} {sp pi : Nat → Bool} {cd : Int32} {sx : Nat} {pd th : Nat → Bool} {sm : Nat → Nat} {u : Nat → Int32} (S : Sim D cI cB cL bb L xs A mX_drop mY_drop [.int x] [("java/util/NoSuchElementException", 1)] N (wW cI cB cL A F c fo sp pi cd sx pd th sm u)) : SimW D cI cB cL bb L xs A mL_drop mY_drop [.int x] Int32.toInt64 N (wW cI cB cL A F c fo sp pi cd sx pd th sm u o) := by
  rcases S with ⟨r, es1, h1, h2, h3, h4, h5⟩ | ⟨E, k, b, hk, hk0, h1, h2⟩
  · obtain ⟨fs, h6⟩ := h4 (vp_updL o 0 (r.toInt64))
    obtain ⟨es2, h7, h8⟩ := h5 (vp_updL o 0 (r.toInt64))
    have h9 := w_drop x (h1 o) rfl (h2 o)
    rw [h3 o] at h9
    exact ⟨0, r, _, es2, _, fs, (fun Psi hf => go_less (mc' := 0) (ms' := 0) (by omega) (by omega) (h9 Psi hf)), h6, h7, fun _ => rfl, h8⟩
  · obtain ⟨es2, h7, h8⟩ := h2 o
    simp only [List.mem_cons, List.not_mem_nil, or_false, Prod.mk.injEq] at hk
    obtain ⟨rfl, rfl⟩ := hk
    exact ⟨1, b, _, es2, o, _, w_drop_1 x (h1 o) rfl, rfl, h7, fun z => absurd z (by decide), h8⟩
set_option maxRecDepth 100000 in
set_option maxHeartbeats 1000000 in
theorem w_holders (x y : Int32) (hc : Ret (gg D cI cB cL bb L xs) mX_holders n 0 0 [.ref b, .int x, .int y] es (some (.int r)) es1) (h0 : es[0]? = some (b, .inr (0, fs))) (h11 : es1[11]? = some (ao, .inl (cL, 1, .inr (.inl o)))) : Ret (gg D cI cB cL bb L xs) mL_holders (n + 1) 0 0 [.ref b, .int x, .int y, .ref ao] es (some (.int 0)) (es1.set 11 (ao, .inl (cL, 1, .inr (.inl (vp_updL o 0 (r.toInt64)))))) := by
  intro Psi hf
  show Go _ _ _ _ _ 0 [(0, .ref b), (1, .int x), (2, .int y), (3, .ref ao)] [] _ Psi
  refine go_aload_n (pc := 0) 3 3 rfl rfl eL_holders_0 ?_
  refine go_iconst (pc := 1) (v := 0) (by decide) eL_holders_1 ?_
  refine go_aload_n (pc := 2) 0 0 rfl rfl eL_holders_2 ?_
  refine go_iload_n (pc := 3) 1 1 rfl rfl eL_holders_3 ?_
  refine go_iload_n (pc := 4) 2 2 rfl rfl eL_holders_4 ?_
  refine go_rVX (pc := 5) 0 hc okX_holders lmL_52 eL_holders_5 rfl h0 rfl rfl (Nat.le_of_ble_eq_true rfl) (Nat.le_of_ble_eq_true rfl) ?_
  refine go_i2l (pc := 8) eL_holders_8 ?_
  refine go_last (pc := 9) 11 2 h11 rfl in01 eL_holders_9 rfl ?_
  refine go_goto (pc := 10) 21 (by decide) eL_holders_10 ?_
  refine go_iconst (pc := 21) (v := 0) (by decide) eL_holders_21 ?_
  exact go_iret (pc := 22) rfl rfl eL_holders_22 (hf)
set_option maxRecDepth 100000 in
set_option maxHeartbeats 1000000 in
theorem w_holders_1 (x y : Int32) (hc : Thr (gg D cI cB cL bb L xs) mX_holders n 1 6 [.ref b, .int x, .int y] es "java/util/NoSuchElementException") (h0 : es[0]? = some (b, .inr (0, fs))) : Ret (gg D cI cB cL bb L xs) mL_holders (n + 1) 1 6 [.ref b, .int x, .int y, .ref ao] es (some (.int 1)) es := by
  intro Psi hf
  show Go _ _ _ _ _ 0 [(0, .ref b), (1, .int x), (2, .int y), (3, .ref ao)] [] _ Psi
  refine go_aload_n (pc := 0) 3 3 rfl rfl eL_holders_0 ?_
  refine go_iconst (pc := 1) (v := 0) (by decide) eL_holders_1 ?_
  refine go_aload_n (pc := 2) 0 0 rfl rfl eL_holders_2 ?_
  refine go_iload_n (pc := 3) 1 1 rfl rfl eL_holders_3 ?_
  refine go_iload_n (pc := 4) 2 2 rfl rfl eL_holders_4 ?_
  refine go_tVX (pc := 5) 0 13 hc okX_holders lmL_52 eL_holders_5 it_NoSuchElementException ⟨by decide, by decide, by decide, _, clL_13, Or.inl ⟨gh_165, rfl⟩⟩ rfl h0 rfl rfl (Nat.le_of_ble_eq_true rfl) (Nat.le_of_ble_eq_true rfl) (by omega) (by omega) (fun a => ?_)
  refine go_astore (pc := 13) (ls' := [(4, _), (0, _), (1, _), (2, _), (3, _)]) 4 (by decide) eL_holders_13 rfl ?_
  refine go_iconst (pc := 15) (v := 1) (by decide) eL_holders_15 ?_
  exact go_iret (pc := 16) rfl rfl eL_holders_16 (hf)
set_option maxRecDepth 100000 in
set_option maxHeartbeats 1000000 in
theorem w_holders_2 (x y : Int32) (hc : Thr (gg D cI cB cL bb L xs) mX_holders n 1 6 [.ref b, .int x, .int y] es "java/lang/IndexOutOfBoundsException") (h0 : es[0]? = some (b, .inr (0, fs))) : Ret (gg D cI cB cL bb L xs) mL_holders (n + 1) 1 6 [.ref b, .int x, .int y, .ref ao] es (some (.int 2)) es := by
  intro Psi hf
  show Go _ _ _ _ _ 0 [(0, .ref b), (1, .int x), (2, .int y), (3, .ref ao)] [] _ Psi
  refine go_aload_n (pc := 0) 3 3 rfl rfl eL_holders_0 ?_
  refine go_iconst (pc := 1) (v := 0) (by decide) eL_holders_1 ?_
  refine go_aload_n (pc := 2) 0 0 rfl rfl eL_holders_2 ?_
  refine go_iload_n (pc := 3) 1 1 rfl rfl eL_holders_3 ?_
  refine go_iload_n (pc := 4) 2 2 rfl rfl eL_holders_4 ?_
  refine go_tVX (pc := 5) 0 17 hc okX_holders lmL_52 eL_holders_5 it_IndexOutOfBoundsException ⟨by decide, by decide, by decide, _, clL_13, Or.inr ⟨(by show (_, _) ∈ gNc; decide), ⟨by decide, by decide, by decide, _, clL_22, Or.inl ⟨gh_253, rfl⟩⟩⟩⟩ rfl h0 rfl rfl (Nat.le_of_ble_eq_true rfl) (Nat.le_of_ble_eq_true rfl) (by omega) (by omega) (fun a => ?_)
  refine go_astore (pc := 17) (ls' := [(4, _), (0, _), (1, _), (2, _), (3, _)]) 4 (by decide) eL_holders_17 rfl ?_
  refine go_iconst (pc := 19) (v := 2) (by decide) eL_holders_19 ?_
  exact go_iret (pc := 20) rfl rfl eL_holders_20 (hf)
theorem sw_holders (x y : Int32) {N : Nat} {F : Nat} {c : Nat → Int32} {fo : Nat → Option Nat} {sp pi : Nat → Bool} {cd : Int32} {sx : Nat} {pd th : Nat → Bool} {sm : Nat → Nat} {u : Nat → Int32} (S : Sim D cI cB cL bb L xs A mX_holders mY_holders [.int x, .int y] [("java/util/NoSuchElementException", 1), ("java/lang/IndexOutOfBoundsException", 2)] N (wW cI cB cL A F c fo sp pi cd sx pd th sm u)) : SimW D cI cB cL bb L xs A mL_holders mY_holders [.int x, .int y] Int32.toInt64 N (wW cI cB cL A F c fo sp pi cd sx pd th sm u o) := by
  rcases S with ⟨r, es1, h1, h2, h3, h4, h5⟩ | ⟨E, k, b, hk, hk0, h1, h2⟩
  · obtain ⟨fs, h6⟩ := h4 (vp_updL o 0 (r.toInt64))
    obtain ⟨es2, h7, h8⟩ := h5 (vp_updL o 0 (r.toInt64))
    have h9 := w_holders x y (h1 o) rfl (h2 o)
    rw [h3 o] at h9
    exact ⟨0, r, _, es2, _, fs, (fun Psi hf => go_less (mc' := 0) (ms' := 0) (by omega) (by omega) (h9 Psi hf)), h6, h7, fun _ => rfl, h8⟩
  · obtain ⟨es2, h7, h8⟩ := h2 o
    simp only [List.mem_cons, List.not_mem_nil, or_false, Prod.mk.injEq] at hk
    rcases hk with ⟨rfl, rfl⟩ | ⟨rfl, rfl⟩
    · exact ⟨1, b, _, es2, o, _, w_holders_1 x y (h1 o) rfl, rfl, h7, fun z => absurd z (by decide), h8⟩
    · exact ⟨2, b, _, es2, o, _, w_holders_2 x y (h1 o) rfl, rfl, h7, fun z => absurd z (by decide), h8⟩
set_option maxRecDepth 100000 in
set_option maxHeartbeats 1000000 in
theorem w_changed (x : Int32) (hc : Ret (gg D cI cB cL bb L xs) mX_changed n 0 0 [.ref b, .int x] es (some (.int r)) es1) (h0 : es[0]? = some (b, .inr (0, fs))) (h11 : es1[11]? = some (ao, .inl (cL, 1, .inr (.inl o)))) : Ret (gg D cI cB cL bb L xs) mL_changed (n + 1) 0 0 [.ref b, .int x, .ref ao] es (some (.int 0)) (es1.set 11 (ao, .inl (cL, 1, .inr (.inl (vp_updL o 0 (r.toInt64)))))) := by
  intro Psi hf
  show Go _ _ _ _ _ 0 [(0, .ref b), (1, .int x), (2, .ref ao)] [] _ Psi
  refine go_aload_n (pc := 0) 2 2 rfl rfl eL_changed_0 ?_
  refine go_iconst (pc := 1) (v := 0) (by decide) eL_changed_1 ?_
  refine go_aload_n (pc := 2) 0 0 rfl rfl eL_changed_2 ?_
  refine go_iload_n (pc := 3) 1 1 rfl rfl eL_changed_3 ?_
  refine go_rVX (pc := 4) 0 hc okX_changed lmL_55 eL_changed_4 rfl h0 rfl rfl (Nat.le_of_ble_eq_true rfl) (Nat.le_of_ble_eq_true rfl) ?_
  refine go_i2l (pc := 7) eL_changed_7 ?_
  refine go_last (pc := 8) 11 2 h11 rfl in01 eL_changed_8 rfl ?_
  refine go_goto (pc := 9) 15 (by decide) eL_changed_9 ?_
  refine go_iconst (pc := 15) (v := 0) (by decide) eL_changed_15 ?_
  exact go_iret (pc := 16) rfl rfl eL_changed_16 (hf)
set_option maxRecDepth 100000 in
set_option maxHeartbeats 1000000 in
theorem w_changed_1 (x : Int32) (hc : Thr (gg D cI cB cL bb L xs) mX_changed n 1 6 [.ref b, .int x] es "java/util/NoSuchElementException") (h0 : es[0]? = some (b, .inr (0, fs))) : Ret (gg D cI cB cL bb L xs) mL_changed (n + 1) 1 6 [.ref b, .int x, .ref ao] es (some (.int 1)) es := by
  intro Psi hf
  show Go _ _ _ _ _ 0 [(0, .ref b), (1, .int x), (2, .ref ao)] [] _ Psi
  refine go_aload_n (pc := 0) 2 2 rfl rfl eL_changed_0 ?_
  refine go_iconst (pc := 1) (v := 0) (by decide) eL_changed_1 ?_
  refine go_aload_n (pc := 2) 0 0 rfl rfl eL_changed_2 ?_
  refine go_iload_n (pc := 3) 1 1 rfl rfl eL_changed_3 ?_
  refine go_tVX (pc := 4) 0 12 hc okX_changed lmL_55 eL_changed_4 it_NoSuchElementException ⟨by decide, by decide, by decide, _, clL_13, Or.inl ⟨gh_165, rfl⟩⟩ rfl h0 rfl rfl (Nat.le_of_ble_eq_true rfl) (Nat.le_of_ble_eq_true rfl) (by omega) (by omega) (fun a => ?_)
  refine go_astore_n (pc := 12) (ls' := [(3, _), (0, _), (1, _), (2, _)]) 3 rfl (by decide) eL_changed_12 rfl ?_
  refine go_iconst (pc := 13) (v := 1) (by decide) eL_changed_13 ?_
  exact go_iret (pc := 14) rfl rfl eL_changed_14 (hf)
theorem sw_changed (x : Int32) {N : Nat} {F : Nat} {c : Nat → Int32} {fo : Nat → Option Nat} {sp pi : Nat → Bool} {cd : Int32} {sx : Nat} {pd th : Nat → Bool} {sm : Nat → Nat} {u : Nat → Int32} (S : Sim D cI cB cL bb L xs A mX_changed mY_changed [.int x] [("java/util/NoSuchElementException", 1)] N (wW cI cB cL A F c fo sp pi cd sx pd th sm u)) : SimW D cI cB cL bb L xs A mL_changed mY_changed [.int x] Int32.toInt64 N (wW cI cB cL A F c fo sp pi cd sx pd th sm u o) := by
  rcases S with ⟨r, es1, h1, h2, h3, h4, h5⟩ | ⟨E, k, b, hk, hk0, h1, h2⟩
  · obtain ⟨fs, h6⟩ := h4 (vp_updL o 0 (r.toInt64))
    obtain ⟨es2, h7, h8⟩ := h5 (vp_updL o 0 (r.toInt64))
    have h9 := w_changed x (h1 o) rfl (h2 o)
    rw [h3 o] at h9
    exact ⟨0, r, _, es2, _, fs, (fun Psi hf => go_less (mc' := 0) (ms' := 0) (by omega) (by omega) (h9 Psi hf)), h6, h7, fun _ => rfl, h8⟩
  · obtain ⟨es2, h7, h8⟩ := h2 o
    simp only [List.mem_cons, List.not_mem_nil, or_false, Prod.mk.injEq] at hk
    obtain ⟨rfl, rfl⟩ := hk
    exact ⟨1, b, _, es2, o, _, w_changed_1 x (h1 o) rfl, rfl, h7, fun z => absurd z (by decide), h8⟩
end WRAP
