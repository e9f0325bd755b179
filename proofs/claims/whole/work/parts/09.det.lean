section GD
variable {g : gG} {M M' : gM} {n mc ms pc : Nat} {ls : List (Nat × Value)} {st : List Value} {es es' : va_W} {Phi : gR → va_W → Prop} {av As stk : List Value} {v : Option Value} {E : String}
/-- the method, called with av in the world es, returns v, and the world is es' -/
def Ret (g : gG) (M : gM) (n mc ms : Nat) (av : List Value) (es : va_W) (v : Option Value) (es' : va_W) : Prop := ∀ Psi : gR → va_W → Prop, Psi (.inl v) es' → Go g M n mc ms 0 (lv_args 0 av) [] es Psi
/-- it throws an E, and the world is as it was -/
def Thr (g : gG) (M : gM) (n mc ms : Nat) (av : List Value) (es : va_W) (E : String) : Prop := ∀ Psi : gR → va_W → Prop, Psi (.inr E) es → Go g M n mc ms 0 (lv_args 0 av) [] es Psi
def gOkV (M : gM) (k : Nat) : Prop := gH (.instanceMethod M.1) ∧ gH (.selects M.1.cls M.1 M.1) ∧ gH (.code M.1 M.2.1 M.2.2.1 M.2.2.2.1) ∧ M.2.2.2.2 = [] ∧ (M.1.cls ≠ "java/lang/invoke/MethodHandle" ∧ M.1.cls ≠ "java/lang/invoke/VarHandle") ∧ plainName M.1.cls = true ∧ (parseMethodDescriptor M.1.desc).map (fun d => d.parameters.length) = some k ∧ M.2.2.1 ≤ 13
def gOkS (M : gM) (k : Nat) : Prop := gH (.static M.1) ∧ gH (.initialized M.1.cls) ∧ gH (.code M.1 M.2.1 M.2.2.1 M.2.2.2.1) ∧ M.2.2.2.2 = [] ∧ (M.1.cls ≠ "java/lang/invoke/MethodHandle" ∧ M.1.cls ≠ "java/lang/invoke/VarHandle") ∧ plainName M.1.cls = true ∧ (parseMethodDescriptor M.1.desc).map (fun d => d.parameters.length) = some k ∧ M.2.2.1 ≤ 13
def gOkW (M : gM) (k : Nat) : Prop := gH (.static M.1) ∧ gH (.initialized M.1.cls) ∧ gH (.codeWith M.1 M.2.1 M.2.2.1 M.2.2.2.1 M.2.2.2.2) ∧ (M.1.cls ≠ "java/lang/invoke/MethodHandle" ∧ M.1.cls ≠ "java/lang/invoke/VarHandle") ∧ plainName M.1.cls = true ∧ (parseMethodDescriptor M.1.desc).map (fun d => d.parameters.length) = some k ∧ M.2.2.1 ≤ 13
theorem go_rV {x : Value} {index b ci : Nat} {fs : List Value} {vc : vw_C} (q0 : Nat) (hc : Ret g M' n 0 0 (.ref b :: As) es (some x) es') (ok : gOkV M' As.length) (hlk : gH (.methodLink M.1.cls index M'.1)) (hd : decode M.2.1 pc = .ok (.invokevirtual index, 3)) (hst : stk = As.reverse ++ .ref b :: st) (he : es[q0]? = some (b, .inr (ci, fs))) (hvc : vwCl[ci]? = some vc) (hcl : vc.1 = M'.1.cls)
    (h00 : M.2.2.2.2 = []) (hav : (lg_sl (.ref b :: As)).length ≤ M'.2.2.1) (h8 : (st.map fun v => v.category).sum ≤ 8) (k : Go g M (n + 1) mc ms (pc + 3) ls (x :: st) es' Phi) : Go g M (n + 1) mc ms pc ls stk es Phi := by
  obtain ⟨o1, o2, o3, o4, o5, o6, o7, o8⟩ := ok
  refine go_callV (mc' := 0) (ms' := 0) (mc'' := mc) (ms'' := ms) (Psi := fun r w => r = .inl (some x) ∧ w = es') q0 hst he hvc hcl hlk o1 o2 o3 o4 h00 o5 o6 o7 o8 hav h8 (by omega) (by omega) hd (hc _ ⟨rfl, rfl⟩) ?_ ?_
  · rintro v' w ⟨h1, h2⟩
    cases h1
    subst h2
    exact k
  · rintro E w ⟨h1, -⟩
    cases h1
theorem go_rV0 {index b ci : Nat} {fs : List Value} {vc : vw_C} (q0 : Nat) (hc : Ret g M' n 0 0 (.ref b :: As) es none es') (ok : gOkV M' As.length) (hlk : gH (.methodLink M.1.cls index M'.1)) (hd : decode M.2.1 pc = .ok (.invokevirtual index, 3)) (hst : stk = As.reverse ++ .ref b :: st) (he : es[q0]? = some (b, .inr (ci, fs))) (hvc : vwCl[ci]? = some vc) (hcl : vc.1 = M'.1.cls)
    (h00 : M.2.2.2.2 = []) (hav : (lg_sl (.ref b :: As)).length ≤ M'.2.2.1) (h8 : (st.map fun v => v.category).sum ≤ 8) (k : Go g M (n + 1) mc ms (pc + 3) ls st es' Phi) : Go g M (n + 1) mc ms pc ls stk es Phi := by
  obtain ⟨o1, o2, o3, o4, o5, o6, o7, o8⟩ := ok
  refine go_callV (mc' := 0) (ms' := 0) (mc'' := mc) (ms'' := ms) (Psi := fun r w => r = .inl none ∧ w = es') q0 hst he hvc hcl hlk o1 o2 o3 o4 h00 o5 o6 o7 o8 hav h8 (by omega) (by omega) hd (hc _ ⟨rfl, rfl⟩) ?_ ?_
  · rintro v' w ⟨h1, h2⟩
    cases h1
    subst h2
    exact k
  · rintro E w ⟨h1, -⟩
    cases h1
theorem go_tV {index b ci : Nat} {fs : List Value} {vc : vw_C} (q0 : Nat) (hc : Thr g M' n 1 6 (.ref b :: As) es E) (ok : gOkV M' As.length) (hlk : gH (.methodLink M.1.cls index M'.1)) (hd : decode M.2.1 pc = .ok (.invokevirtual index, 3)) (hst : stk = As.reverse ++ .ref b :: st) (he : es[q0]? = some (b, .inr (ci, fs))) (hvc : vwCl[ci]? = some vc) (hcl : vc.1 = M'.1.cls)
    (h00 : M.2.2.2.2 = []) (hav : (lg_sl (.ref b :: As)).length ≤ M'.2.2.1) (h8 : (st.map fun v => v.category).sum ≤ 8) (hmc : 1 ≤ mc) (hms : 6 ≤ ms) (k : Phi (.inr E) es) : Go g M (n + 1) mc ms pc ls stk es Phi := by
  obtain ⟨o1, o2, o3, o4, o5, o6, o7, o8⟩ := ok
  refine go_callV (mc' := 1) (ms' := 6) (mc'' := 0) (ms'' := 0) (Psi := fun r w => r = .inr E ∧ w = es) q0 hst he hvc hcl hlk o1 o2 o3 o4 h00 o5 o6 o7 o8 hav h8 (by omega) (by omega) hd (hc _ ⟨rfl, rfl⟩) ?_ ?_
  · rintro v' w ⟨h1, h2⟩
    cases h1
  · rintro E' w ⟨h1, h2⟩
    cases h1
    subst h2
    exact k
theorem go_rS {x : Value} {index : Nat} (hc : Ret g M' n 0 0 As es (some x) es') (ok : gOkS M' As.length) (hlk : gH (.methodLink M.1.cls index M'.1)) (hd : decode M.2.1 pc = .ok (.invokestatic index, 3)) (hst : stk = As.reverse ++ st)
    (h00 : M.2.2.2.2 = []) (hav : (lg_sl As).length ≤ M'.2.2.1) (h8 : (st.map fun v => v.category).sum ≤ 8) (k : Go g M (n + 1) mc ms (pc + 3) ls (x :: st) es' Phi) : Go g M (n + 1) mc ms pc ls stk es Phi := by
  obtain ⟨o1, o2, o3, o4, o5, o6, o7, o8⟩ := ok
  refine go_callS (mc' := 0) (ms' := 0) (mc'' := mc) (ms'' := ms) (Psi := fun r w => r = .inl (some x) ∧ w = es') hst hlk o1 o2 o3 o4 h00 o5 o6 o7 o8 hav h8 (by omega) (by omega) hd (hc _ ⟨rfl, rfl⟩) ?_ ?_
  · rintro v' w ⟨h1, h2⟩
    cases h1
    subst h2
    exact k
  · rintro E w ⟨h1, -⟩
    cases h1
theorem go_rS0 {index : Nat} (hc : Ret g M' n 0 0 As es none es') (ok : gOkS M' As.length) (hlk : gH (.methodLink M.1.cls index M'.1)) (hd : decode M.2.1 pc = .ok (.invokestatic index, 3)) (hst : stk = As.reverse ++ st)
    (h00 : M.2.2.2.2 = []) (hav : (lg_sl As).length ≤ M'.2.2.1) (h8 : (st.map fun v => v.category).sum ≤ 8) (k : Go g M (n + 1) mc ms (pc + 3) ls st es' Phi) : Go g M (n + 1) mc ms pc ls stk es Phi := by
  obtain ⟨o1, o2, o3, o4, o5, o6, o7, o8⟩ := ok
  refine go_callS (mc' := 0) (ms' := 0) (mc'' := mc) (ms'' := ms) (Psi := fun r w => r = .inl none ∧ w = es') hst hlk o1 o2 o3 o4 h00 o5 o6 o7 o8 hav h8 (by omega) (by omega) hd (hc _ ⟨rfl, rfl⟩) ?_ ?_
  · rintro v' w ⟨h1, h2⟩
    cases h1
    subst h2
    exact k
  · rintro E w ⟨h1, -⟩
    cases h1
/-- a static call of a method with handlers, which returns v after at most mc' new cells of ms' slots -/
theorem go_rW {x : Value} {index mc' ms' mc'' ms'' : Nat} (hc : Ret g M' n mc' ms' As es (some x) es') (ok : gOkW M' As.length) (hlk : gH (.methodLink M.1.cls index M'.1)) (hd : decode M.2.1 pc = .ok (.invokestatic index, 3)) (hst : stk = As.reverse ++ st)
    (h00 : M.2.2.2.2 = []) (hav : (lg_sl As).length ≤ M'.2.2.1) (h8 : (st.map fun v => v.category).sum ≤ 8) (hmc : mc' + mc'' ≤ mc) (hms : ms' + ms'' ≤ ms) (k : Go g M (n + 1) mc'' ms'' (pc + 3) ls (x :: st) es' Phi) : Go g M (n + 1) mc ms pc ls stk es Phi := by
  obtain ⟨o1, o2, o3, o5, o6, o7, o8⟩ := ok
  refine go_callSW (mc' := mc') (ms' := ms') (mc'' := mc'') (ms'' := ms'') (Psi := fun r w => r = .inl (some x) ∧ w = es') hst hlk o1 o2 o3 h00 o5 o6 o7 o8 hav h8 hmc hms hd (hc _ ⟨rfl, rfl⟩) ?_ ?_
  · rintro v' w ⟨h1, h2⟩
    cases h1
    subst h2
    exact k
  · rintro E w ⟨h1, -⟩
    cases h1
theorem go_rW0 {index mc' ms' mc'' ms'' : Nat} (hc : Ret g M' n mc' ms' As es none es') (ok : gOkW M' As.length) (hlk : gH (.methodLink M.1.cls index M'.1)) (hd : decode M.2.1 pc = .ok (.invokestatic index, 3)) (hst : stk = As.reverse ++ st)
    (h00 : M.2.2.2.2 = []) (hav : (lg_sl As).length ≤ M'.2.2.1) (h8 : (st.map fun v => v.category).sum ≤ 8) (hmc : mc' + mc'' ≤ mc) (hms : ms' + ms'' ≤ ms) (k : Go g M (n + 1) mc'' ms'' (pc + 3) ls st es' Phi) : Go g M (n + 1) mc ms pc ls stk es Phi := by
  obtain ⟨o1, o2, o3, o5, o6, o7, o8⟩ := ok
  refine go_callSW (mc' := mc') (ms' := ms') (mc'' := mc'') (ms'' := ms'') (Psi := fun r w => r = .inl none ∧ w = es') hst hlk o1 o2 o3 h00 o5 o6 o7 o8 hav h8 hmc hms hd (hc _ ⟨rfl, rfl⟩) ?_ ?_
  · rintro v' w ⟨h1, h2⟩
    cases h1
    subst h2
    exact k
  · rintro E w ⟨h1, -⟩
    cases h1
theorem go_rVX {x : Value} {index b ci : Nat} {fs : List Value} {vc : vw_C} (q0 : Nat) (hc : Ret g M' n 0 0 (.ref b :: As) es (some x) es') (ok : gOkV M' As.length) (hlk : gH (.methodLink M.1.cls index M'.1)) (hd : decode M.2.1 pc = .ok (.invokevirtual index, 3)) (hst : stk = As.reverse ++ .ref b :: st) (he : es[q0]? = some (b, .inr (ci, fs))) (hvc : vwCl[ci]? = some vc) (hcl : vc.1 = M'.1.cls)
    (hav : (lg_sl (.ref b :: As)).length ≤ M'.2.2.1) (h8 : (st.map fun v => v.category).sum ≤ 8) (k : Go g M (n + 1) mc ms (pc + 3) ls (x :: st) es' Phi) : Go g M (n + 1) mc ms pc ls stk es Phi := by
  obtain ⟨o1, o2, o3, o4, o5, o6, o7, o8⟩ := ok
  refine go_callVX (mc' := 0) (ms' := 0) (mc'' := mc) (ms'' := ms) (Psi := fun r w => r = .inl (some x) ∧ w = es') q0 hst he hvc hcl hlk o1 o2 o3 o4 o5 o6 o7 o8 hav h8 (by omega) (by omega) hd (hc _ ⟨rfl, rfl⟩) ?_ ?_
  · rintro v' w ⟨h1, h2⟩
    cases h1
    subst h2
    exact k
  · rintro E w ⟨h1, -⟩
    cases h1
theorem go_rVX0 {index b ci : Nat} {fs : List Value} {vc : vw_C} (q0 : Nat) (hc : Ret g M' n 0 0 (.ref b :: As) es none es') (ok : gOkV M' As.length) (hlk : gH (.methodLink M.1.cls index M'.1)) (hd : decode M.2.1 pc = .ok (.invokevirtual index, 3)) (hst : stk = As.reverse ++ .ref b :: st) (he : es[q0]? = some (b, .inr (ci, fs))) (hvc : vwCl[ci]? = some vc) (hcl : vc.1 = M'.1.cls)
    (hav : (lg_sl (.ref b :: As)).length ≤ M'.2.2.1) (h8 : (st.map fun v => v.category).sum ≤ 8) (k : Go g M (n + 1) mc ms (pc + 3) ls st es' Phi) : Go g M (n + 1) mc ms pc ls stk es Phi := by
  obtain ⟨o1, o2, o3, o4, o5, o6, o7, o8⟩ := ok
  refine go_callVX (mc' := 0) (ms' := 0) (mc'' := mc) (ms'' := ms) (Psi := fun r w => r = .inl none ∧ w = es') q0 hst he hvc hcl hlk o1 o2 o3 o4 o5 o6 o7 o8 hav h8 (by omega) (by omega) hd (hc _ ⟨rfl, rfl⟩) ?_ ?_
  · rintro v' w ⟨h1, h2⟩
    cases h1
    subst h2
    exact k
  · rintro E w ⟨h1, -⟩
    cases h1
theorem go_tVX {index b ci : Nat} {fs : List Value} {vc : vw_C} (q0 hpc : Nat) (hc : Thr g M' n 1 6 (.ref b :: As) es E) (ok : gOkV M' As.length) (hlk : gH (.methodLink M.1.cls index M'.1)) (hd : decode M.2.1 pc = .ok (.invokevirtual index, 3)) (hit : gH (.instantiable E 6)) (hrow : gRows M.1.cls E pc hpc M.2.2.2.2) (hst : stk = As.reverse ++ .ref b :: st) (he : es[q0]? = some (b, .inr (ci, fs))) (hvc : vwCl[ci]? = some vc) (hcl : vc.1 = M'.1.cls)
    (hav : (lg_sl (.ref b :: As)).length ≤ M'.2.2.1) (h8 : (st.map fun v => v.category).sum ≤ 8) (hmc : 1 ≤ mc) (hms : 6 ≤ ms) (k : ∀ a : Nat, Go g M (n + 1) 0 0 hpc ls [.ref a] es Phi) : Go g M (n + 1) mc ms pc ls stk es Phi := by
  obtain ⟨o1, o2, o3, o4, o5, o6, o7, o8⟩ := ok
  refine go_callVX (mc' := 1) (ms' := 6) (mc'' := 0) (ms'' := 0) (Psi := fun r w => r = .inr E ∧ w = es) q0 hst he hvc hcl hlk o1 o2 o3 o4 o5 o6 o7 o8 hav h8 (by omega) (by omega) hd (hc _ ⟨rfl, rfl⟩) ?_ ?_
  · rintro v' w ⟨h1, h2⟩
    cases h1
  · rintro E' w ⟨h1, h2⟩
    cases h1
    subst h2
    exact ⟨hpc, hit, hrow, k⟩
/-- array places by a number -/
theorem go_ialdN {cA : ClassId} {len : Nat} {f : Nat → Int32} {i : Int32} {a : Nat} (q0 t0 j : Nat) (hd : decode M.2.1 pc = .ok (.iaload, 1)) (ha : es[q0]? = some (a, .inl (cA, len, .inl f))) (ht : g.2.1[t0]? = some (cA, .int)) (hi : i = nI j) (hj : j < len) (hlen : len < 2 ^ 31) (k : Go g M n mc ms (pc + 1) ls (.int (f j) :: st) es Phi) : Go g M n mc ms pc ls (.int i :: .ref a :: st) es Phi := by
  subst hi
  refine go_iald q0 t0 ha ht (vp_in_nI hj hlen) hd ?_
  rw [nI_clamp (by omega)]; exact k
theorem go_zaldN {cA : ClassId} {len : Nat} {f : Nat → Int32} {i : Int32} {a : Nat} (q0 t0 j : Nat) (hd : decode M.2.1 pc = .ok (.baload, 1)) (ha : es[q0]? = some (a, .inl (cA, len, .inl f))) (ht : g.2.1[t0]? = some (cA, .boolean)) (hi : i = nI j) (hj : j < len) (hlen : len < 2 ^ 31) (k : Go g M n mc ms (pc + 1) ls (.int (f j) :: st) es Phi) : Go g M n mc ms pc ls (.int i :: .ref a :: st) es Phi := by
  subst hi
  refine go_zald q0 t0 ha ht (vp_in_nI hj hlen) hd ?_
  rw [nI_clamp (by omega)]; exact k
theorem go_iastN {cA : ClassId} {len : Nat} {f : Nat → Int32} {i x : Int32} {a : Nat} (q0 t0 j : Nat) (hd : decode M.2.1 pc = .ok (.iastore, 1)) (ha : es[q0]? = some (a, .inl (cA, len, .inl f))) (ht : g.2.1[t0]? = some (cA, .int)) (hi : i = nI j) (hj : j < len) (hlen : len < 2 ^ 31) (he : es.set q0 (a, .inl (cA, len, .inl (upd f j x))) = es') (k : Go g M n mc ms (pc + 1) ls st es' Phi) : Go g M n mc ms pc ls (.int x :: .int i :: .ref a :: st) es Phi := by
  subst hi
  refine go_iast q0 t0 ha ht (vp_in_nI hj hlen) hd ?_ k
  rw [nI_clamp (by omega)]; exact he
theorem go_zastN {cA : ClassId} {len : Nat} {f : Nat → Int32} {i x : Int32} {a : Nat} (q0 t0 j : Nat) (hd : decode M.2.1 pc = .ok (.bastore, 1)) (ha : es[q0]? = some (a, .inl (cA, len, .inl f))) (ht : g.2.1[t0]? = some (cA, .boolean)) (hi : i = nI j) (hj : j < len) (hlen : len < 2 ^ 31) (he : es.set q0 (a, .inl (cA, len, .inl (upd f j (vp_nar .boolean x)))) = es') (k : Go g M n mc ms (pc + 1) ls st es' Phi) : Go g M n mc ms pc ls (.int x :: .int i :: .ref a :: st) es Phi := by
  subst hi
  refine go_zast q0 t0 ha ht (vp_in_nI hj hlen) hd ?_ k
  rw [nI_clamp (by omega)]; exact he
end GD
theorem okX_open : gOkV mX_open 0 := ⟨gh_86, gh_87, gh_88, rfl, ⟨by decide, by decide⟩, by decide +kernel, by decide +kernel, by decide⟩
theorem okX_leastMissingSpace : gOkV mX_leastMissingSpace 0 := ⟨gh_91, gh_0, gh_92, rfl, ⟨by decide, by decide⟩, by decide +kernel, by decide +kernel, by decide⟩
theorem okX_spaceIndex : gOkS mX_spaceIndex 2 := ⟨gh_94, gh_36, gh_95, rfl, ⟨by decide, by decide⟩, by decide +kernel, by decide +kernel, by decide⟩
theorem okX_take : gOkV mX_take 0 := ⟨gh_97, gh_98, gh_99, rfl, ⟨by decide, by decide⟩, by decide +kernel, by decide +kernel, by decide⟩
theorem okX_leastMissingPicture : gOkV mX_leastMissingPicture 0 := ⟨gh_102, gh_1, gh_103, rfl, ⟨by decide, by decide⟩, by decide +kernel, by decide +kernel, by decide⟩
theorem okX_copyRow : gOkV mX_copyRow 2 := ⟨gh_106, gh_2, gh_107, rfl, ⟨by decide, by decide⟩, by decide +kernel, by decide +kernel, by decide⟩
theorem okX_standIn : gOkV mX_standIn 2 := ⟨gh_110, gh_3, gh_111, rfl, ⟨by decide, by decide⟩, by decide +kernel, by decide +kernel, by decide⟩
theorem okX_isFrame : gOkV mX_isFrame 1 := ⟨gh_114, gh_4, gh_115, rfl, ⟨by decide, by decide⟩, by decide +kernel, by decide +kernel, by decide⟩
theorem okX_count : gOkV mX_count 1 := ⟨gh_117, gh_118, gh_119, rfl, ⟨by decide, by decide⟩, by decide +kernel, by decide +kernel, by decide⟩
theorem okX_framesInUse : gOkV mX_framesInUse 0 := ⟨gh_122, gh_5, gh_123, rfl, ⟨by decide, by decide⟩, by decide +kernel, by decide +kernel, by decide⟩
theorem okX_spacesNow : gOkV mX_spacesNow 0 := ⟨gh_126, gh_6, gh_127, rfl, ⟨by decide, by decide⟩, by decide +kernel, by decide +kernel, by decide⟩
theorem okX_picturesNow : gOkV mX_picturesNow 0 := ⟨gh_130, gh_7, gh_131, rfl, ⟨by decide, by decide⟩, by decide +kernel, by decide +kernel, by decide⟩
theorem okX_pagesNow : gOkV mX_pagesNow 0 := ⟨gh_134, gh_8, gh_135, rfl, ⟨by decide, by decide⟩, by decide +kernel, by decide +kernel, by decide⟩
theorem okX_pagesOfSpace : gOkV mX_pagesOfSpace 1 := ⟨gh_138, gh_9, gh_139, rfl, ⟨by decide, by decide⟩, by decide +kernel, by decide +kernel, by decide⟩
theorem okX_pageNow : gOkS mX_pageNow 2 := ⟨gh_141, gh_36, gh_142, rfl, ⟨by decide, by decide⟩, by decide +kernel, by decide +kernel, by decide⟩
theorem okX_isThere : gOkV mX_isThere 1 := ⟨gh_144, gh_145, gh_146, rfl, ⟨by decide, by decide⟩, by decide +kernel, by decide +kernel, by decide⟩
theorem okL_cell : gOkS mL_cell 2 := ⟨gh_148, gh_35, gh_149, rfl, ⟨by decide, by decide⟩, by decide +kernel, by decide +kernel, by decide⟩
theorem okL_fork : gOkW mL_fork 3 := ⟨gh_151, gh_35, gh_152, ⟨by decide, by decide⟩, by decide +kernel, by decide +kernel, by decide⟩
theorem okX_fork : gOkV mX_fork 1 := ⟨gh_155, gh_156, gh_157, rfl, ⟨by decide, by decide⟩, by decide +kernel, by decide +kernel, by decide⟩
theorem okX_needSpace : gOkV mX_needSpace 1 := ⟨gh_160, gh_10, gh_161, rfl, ⟨by decide, by decide⟩, by decide +kernel, by decide +kernel, by decide⟩
theorem okL_close : gOkW mL_close 3 := ⟨gh_232, gh_35, gh_233, ⟨by decide, by decide⟩, by decide +kernel, by decide +kernel, by decide⟩
theorem okX_close : gOkV mX_close 1 := ⟨gh_235, gh_236, gh_237, rfl, ⟨by decide, by decide⟩, by decide +kernel, by decide +kernel, by decide⟩
theorem okL_map : gOkW mL_map 5 := ⟨gh_239, gh_35, gh_240, ⟨by decide, by decide⟩, by decide +kernel, by decide +kernel, by decide⟩
theorem okX_map : gOkV mX_map 3 := ⟨gh_244, gh_245, gh_246, rfl, ⟨by decide, by decide⟩, by decide +kernel, by decide +kernel, by decide⟩
theorem okX_needPage : gOkV mX_needPage 1 := ⟨gh_249, gh_12, gh_250, rfl, ⟨by decide, by decide⟩, by decide +kernel, by decide +kernel, by decide⟩
theorem okX_needFreeFrame : gOkV mX_needFreeFrame 0 := ⟨gh_269, gh_13, gh_270, rfl, ⟨by decide, by decide⟩, by decide +kernel, by decide +kernel, by decide⟩
theorem okX_fillFrame : gOkV mX_fillFrame 2 := ⟨gh_289, gh_14, gh_290, rfl, ⟨by decide, by decide⟩, by decide +kernel, by decide +kernel, by decide⟩
theorem okL_unmap : gOkW mL_unmap 4 := ⟨gh_292, gh_35, gh_293, ⟨by decide, by decide⟩, by decide +kernel, by decide +kernel, by decide⟩
theorem okX_unmap : gOkV mX_unmap 2 := ⟨gh_295, gh_296, gh_297, rfl, ⟨by decide, by decide⟩, by decide +kernel, by decide +kernel, by decide⟩
theorem okL_read : gOkW mL_read 4 := ⟨gh_299, gh_35, gh_300, ⟨by decide, by decide⟩, by decide +kernel, by decide +kernel, by decide⟩
theorem okX_read : gOkV mX_read 2 := ⟨gh_302, gh_303, gh_304, rfl, ⟨by decide, by decide⟩, by decide +kernel, by decide +kernel, by decide⟩
theorem okX_needHolderAt : gOkV mX_needHolderAt 2 := ⟨gh_307, gh_15, gh_308, rfl, ⟨by decide, by decide⟩, by decide +kernel, by decide +kernel, by decide⟩
theorem okX_cellIndex : gOkS mX_cellIndex 2 := ⟨gh_312, gh_36, gh_313, rfl, ⟨by decide, by decide⟩, by decide +kernel, by decide +kernel, by decide⟩
theorem okL_write : gOkW mL_write 5 := ⟨gh_315, gh_35, gh_316, ⟨by decide, by decide⟩, by decide +kernel, by decide +kernel, by decide⟩
theorem okX_write : gOkV mX_write 3 := ⟨gh_318, gh_319, gh_320, rfl, ⟨by decide, by decide⟩, by decide +kernel, by decide +kernel, by decide⟩
theorem okX_needOwnFrame : gOkV mX_needOwnFrame 1 := ⟨gh_323, gh_16, gh_324, rfl, ⟨by decide, by decide⟩, by decide +kernel, by decide +kernel, by decide⟩
theorem okL_lend : gOkW mL_lend 6 := ⟨gh_329, gh_35, gh_330, ⟨by decide, by decide⟩, by decide +kernel, by decide +kernel, by decide⟩
theorem okX_lend : gOkV mX_lend 4 := ⟨gh_332, gh_333, gh_334, rfl, ⟨by decide, by decide⟩, by decide +kernel, by decide +kernel, by decide⟩
theorem okX_needTwoPages : gOkV mX_needTwoPages 4 := ⟨gh_337, gh_17, gh_338, rfl, ⟨by decide, by decide⟩, by decide +kernel, by decide +kernel, by decide⟩
theorem okL_join : gOkW mL_join 6 := ⟨gh_340, gh_35, gh_341, ⟨by decide, by decide⟩, by decide +kernel, by decide +kernel, by decide⟩
theorem okX_join : gOkV mX_join 4 := ⟨gh_343, gh_344, gh_345, rfl, ⟨by decide, by decide⟩, by decide +kernel, by decide +kernel, by decide⟩
theorem okX_haveSameCells : gOkV mX_haveSameCells 2 := ⟨gh_348, gh_18, gh_349, rfl, ⟨by decide, by decide⟩, by decide +kernel, by decide +kernel, by decide⟩
theorem okX_moveHolders : gOkV mX_moveHolders 2 := ⟨gh_352, gh_19, gh_353, rfl, ⟨by decide, by decide⟩, by decide +kernel, by decide +kernel, by decide⟩
theorem okL_back : gOkW mL_back 3 := ⟨gh_355, gh_35, gh_356, ⟨by decide, by decide⟩, by decide +kernel, by decide +kernel, by decide⟩
theorem okX_back : gOkV mX_back 1 := ⟨gh_358, gh_359, gh_360, rfl, ⟨by decide, by decide⟩, by decide +kernel, by decide +kernel, by decide⟩
theorem okX_needPicture : gOkV mX_needPicture 1 := ⟨gh_363, gh_20, gh_364, rfl, ⟨by decide, by decide⟩, by decide +kernel, by decide +kernel, by decide⟩
theorem okL_drop : gOkW mL_drop 3 := ⟨gh_367, gh_35, gh_368, ⟨by decide, by decide⟩, by decide +kernel, by decide +kernel, by decide⟩
theorem okX_drop : gOkV mX_drop 1 := ⟨gh_370, gh_371, gh_372, rfl, ⟨by decide, by decide⟩, by decide +kernel, by decide +kernel, by decide⟩
theorem okX_clearRow : gOkV mX_clearRow 1 := ⟨gh_375, gh_21, gh_376, rfl, ⟨by decide, by decide⟩, by decide +kernel, by decide +kernel, by decide⟩
theorem okL_holders : gOkW mL_holders 4 := ⟨gh_378, gh_35, gh_379, ⟨by decide, by decide⟩, by decide +kernel, by decide +kernel, by decide⟩
theorem okX_holders : gOkV mX_holders 2 := ⟨gh_381, gh_382, gh_383, rfl, ⟨by decide, by decide⟩, by decide +kernel, by decide +kernel, by decide⟩
theorem okL_changed : gOkW mL_changed 3 := ⟨gh_385, gh_35, gh_386, ⟨by decide, by decide⟩, by decide +kernel, by decide +kernel, by decide⟩
theorem okX_changed : gOkV mX_changed 1 := ⟨gh_388, gh_389, gh_390, rfl, ⟨by decide, by decide⟩, by decide +kernel, by decide +kernel, by decide⟩
theorem okY_thrown : gOkV mY_thrown 0 := ⟨gh_420, gh_421, gh_422, rfl, ⟨by decide, by decide⟩, by decide +kernel, by decide +kernel, by decide⟩
theorem okY_open : gOkV mY_open 0 := ⟨gh_424, gh_425, gh_426, rfl, ⟨by decide, by decide⟩, by decide +kernel, by decide +kernel, by decide⟩
theorem okY_free : gOkV mY_free 0 := ⟨gh_429, gh_22, gh_430, rfl, ⟨by decide, by decide⟩, by decide +kernel, by decide +kernel, by decide⟩
theorem okY_fork : gOkV mY_fork 1 := ⟨gh_432, gh_433, gh_434, rfl, ⟨by decide, by decide⟩, by decide +kernel, by decide +kernel, by decide⟩
theorem okY_isSpace : gOkV mY_isSpace 1 := ⟨gh_437, gh_23, gh_438, rfl, ⟨by decide, by decide⟩, by decide +kernel, by decide +kernel, by decide⟩
theorem okY_fails : gOkV mY_fails 3 := ⟨gh_441, gh_24, gh_442, rfl, ⟨by decide, by decide⟩, by decide +kernel, by decide +kernel, by decide⟩
theorem okY_page : gOkS mY_page 3 := ⟨gh_444, gh_39, gh_445, rfl, ⟨by decide, by decide⟩, by decide +kernel, by decide +kernel, by decide⟩
theorem okY_copyPage : gOkV mY_copyPage 2 := ⟨gh_448, gh_25, gh_449, rfl, ⟨by decide, by decide⟩, by decide +kernel, by decide +kernel, by decide⟩
theorem okY_close : gOkV mY_close 1 := ⟨gh_451, gh_452, gh_453, rfl, ⟨by decide, by decide⟩, by decide +kernel, by decide +kernel, by decide⟩
theorem okY_pagesOf : gOkV mY_pagesOf 1 := ⟨gh_456, gh_26, gh_457, rfl, ⟨by decide, by decide⟩, by decide +kernel, by decide +kernel, by decide⟩
theorem okY_empty : gOkV mY_empty 2 := ⟨gh_460, gh_27, gh_461, rfl, ⟨by decide, by decide⟩, by decide +kernel, by decide +kernel, by decide⟩
theorem okY_map : gOkV mY_map 3 := ⟨gh_463, gh_464, gh_465, rfl, ⟨by decide, by decide⟩, by decide +kernel, by decide +kernel, by decide⟩
theorem okY_isPage : gOkS mY_isPage 1 := ⟨gh_467, gh_39, gh_468, rfl, ⟨by decide, by decide⟩, by decide +kernel, by decide +kernel, by decide⟩
theorem okY_used : gOkV mY_used 0 := ⟨gh_471, gh_28, gh_472, rfl, ⟨by decide, by decide⟩, by decide +kernel, by decide +kernel, by decide⟩
theorem okY_unmap : gOkV mY_unmap 2 := ⟨gh_474, gh_475, gh_476, rfl, ⟨by decide, by decide⟩, by decide +kernel, by decide +kernel, by decide⟩
theorem okY_read : gOkV mY_read 2 := ⟨gh_478, gh_479, gh_480, rfl, ⟨by decide, by decide⟩, by decide +kernel, by decide +kernel, by decide⟩
theorem okY_cell : gOkV mY_cell 2 := ⟨gh_483, gh_29, gh_484, rfl, ⟨by decide, by decide⟩, by decide +kernel, by decide +kernel, by decide⟩
theorem okY_write : gOkV mY_write 3 := ⟨gh_486, gh_487, gh_488, rfl, ⟨by decide, by decide⟩, by decide +kernel, by decide +kernel, by decide⟩
theorem okY_holdersOf : gOkV mY_holdersOf 1 := ⟨gh_491, gh_30, gh_492, rfl, ⟨by decide, by decide⟩, by decide +kernel, by decide +kernel, by decide⟩
theorem okY_lend : gOkV mY_lend 4 := ⟨gh_494, gh_495, gh_496, rfl, ⟨by decide, by decide⟩, by decide +kernel, by decide +kernel, by decide⟩
theorem okY_areFaulty : gOkV mY_areFaulty 4 := ⟨gh_499, gh_31, gh_500, rfl, ⟨by decide, by decide⟩, by decide +kernel, by decide +kernel, by decide⟩
theorem okY_join : gOkV mY_join 4 := ⟨gh_502, gh_503, gh_504, rfl, ⟨by decide, by decide⟩, by decide +kernel, by decide +kernel, by decide⟩
theorem okY_take : gOkV mY_take 0 := ⟨gh_506, gh_507, gh_508, rfl, ⟨by decide, by decide⟩, by decide +kernel, by decide +kernel, by decide⟩
theorem okY_copyRow : gOkV mY_copyRow 2 := ⟨gh_511, gh_32, gh_512, rfl, ⟨by decide, by decide⟩, by decide +kernel, by decide +kernel, by decide⟩
theorem okY_back : gOkV mY_back 1 := ⟨gh_514, gh_515, gh_516, rfl, ⟨by decide, by decide⟩, by decide +kernel, by decide +kernel, by decide⟩
theorem okY_isPicture : gOkV mY_isPicture 1 := ⟨gh_519, gh_33, gh_520, rfl, ⟨by decide, by decide⟩, by decide +kernel, by decide +kernel, by decide⟩
theorem okY_spaces : gOkV mY_spaces 0 := ⟨gh_523, gh_34, gh_524, rfl, ⟨by decide, by decide⟩, by decide +kernel, by decide +kernel, by decide⟩
theorem okY_drop : gOkV mY_drop 1 := ⟨gh_526, gh_527, gh_528, rfl, ⟨by decide, by decide⟩, by decide +kernel, by decide +kernel, by decide⟩
theorem okY_holders : gOkV mY_holders 2 := ⟨gh_530, gh_531, gh_532, rfl, ⟨by decide, by decide⟩, by decide +kernel, by decide +kernel, by decide⟩
theorem okY_changed : gOkV mY_changed 1 := ⟨gh_534, gh_535, gh_536, rfl, ⟨by decide, by decide⟩, by decide +kernel, by decide +kernel, by decide⟩
theorem okY_count : gOkV mY_count 1 := ⟨gh_538, gh_539, gh_540, rfl, ⟨by decide, by decide⟩, by decide +kernel, by decide +kernel, by decide⟩
theorem okY_isThere : gOkV mY_isThere 1 := ⟨gh_542, gh_543, gh_544, rfl, ⟨by decide, by decide⟩, by decide +kernel, by decide +kernel, by decide⟩
theorem okJ_fill : gOkS mJ_fill 2 := ⟨af_s, af_i, af_c, rfl, ⟨by decide, by decide⟩, by decide +kernel, by decide +kernel, by decide⟩
