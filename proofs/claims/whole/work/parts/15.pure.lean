/-! The rows of the class and of the reference side by side. -/
theorem gcnt_add (p : Nat → Bool) (a b : Nat) : gcnt p (a + b) = gcnt p a + gcnt (fun k => p (a + k)) b := by
  induction b with
  | zero => rfl
  | succ b ih =>
    show gcnt p (a + b) + (if p (a + b) then 1 else 0) = gcnt p a + (gcnt (fun k => p (a + k)) b + (if p (a + b) then 1 else 0))
    rw [ih, Nat.add_assoc]
/-- where the class keeps the reference's page k -/
def pH (k : Nat) : Nat := if k < 48 then 384 + k else k - 48
theorem pH_lt {k : Nat} (h : k < 432) : pH k < 432 := by unfold pH; split <;> omega
theorem pH_lo {k : Nat} (h : k < 48) : pH k = 384 + k := if_pos h
theorem pH_ge {k : Nat} (h : ¬ k < 48) : pH k = k - 48 := if_neg h
theorem pH_hi (k : Nat) : pH (48 + k) = k := by rw [pH_ge (by omega)]; omega
theorem gcnt_rot (p : Nat → Bool) : gcnt p 432 = gcnt (fun k => p (pH k)) 432 := by
  have h1 := gcnt_add p 384 48
  have h2 := gcnt_add (fun k => p (pH k)) 48 384
  have h3 : gcnt (fun k => p (pH k)) 48 = gcnt (fun k => p (384 + k)) 48 := gcnt_congr (fun k hk => by rw [pH_lo hk])
  have h4 : gcnt (fun k => p (pH (48 + k))) 384 = gcnt p 384 := gcnt_congr (fun k _ => by rw [pH_hi])
  have e1 : 384 + 48 = 432 := by decide
  have e2 : 48 + 384 = 432 := by decide
  rw [e1] at h1
  rw [e2] at h2
  rw [h1, h2, h3, h4, Nat.add_comm]
theorem gcnt_two {p : Nat → Bool} {k q n : Nat} (hk : k < n) (hq : q < n) (hne : q ≠ k) (pk : p k = true) (pq : p q = true) : 2 ≤ gcnt p n := by
  have h := gcnt_up (p := p) (q := va_up p k false) hk (fun j hj => by simp [va_up, hj])
  have h2 : 1 ≤ gcnt (va_up p k false) n := gcnt_pos hq (by simp [va_up, hne, pq])
  rw [pk] at h
  simp [va_up] at h
  omega
theorem gcnt_full {p : Nat → Bool} {n : Nat} (h : ∀ j, j < n → p j = true) : gcnt p n = n := by
  induction n with
  | zero => rfl
  | succ n ih =>
    show gcnt p n + (if p n then 1 else 0) = n + 1
    rw [ih (fun j hj => h j (by omega)), h n (by omega)]; rfl
/-- all of the first n, or a least one that is not -/
theorem least (p : Nat → Bool) (n : Nat) : (∀ q, q < n → p q = true) ∨ ∃ j, j < n ∧ p j = false ∧ ∀ q, q < j → p q = true := by
  induction n with
  | zero => exact Or.inl (fun q h => by omega)
  | succ n ih =>
    rcases ih with h | ⟨j, h1, h2, h3⟩
    · cases e : p n with
      | false => exact Or.inr ⟨n, by omega, e, h⟩
      | true =>
        refine Or.inl (fun q hq => ?_)
        by_cases z : q = n
        · rw [z]; exact e
        · exact h q (by omega)
    · exact Or.inr ⟨j, by omega, h2, h3⟩
theorem gcnt_lt {p : Nat → Bool} {n j : Nat} (hj : j < n) (h : p j = false) : gcnt p n < n := by
  induction n with
  | zero => omega
  | succ n ih =>
    show gcnt p n + (if p n then 1 else 0) < n + 1
    by_cases e : j = n
    · subst e
      rw [h]
      have := gcnt_le p j
      simp
      omega
    · have := ih (by omega)
      split <;> omega
abbrev Core (c u : Nat → Int32) (Fo : Nat → Option Nat) (sm : Nat → Nat) : Prop :=
  (∀ k, k < 432 → (sm k = 0 ↔ Fo k = none)) ∧ (∀ k, k < 432 → ∀ q, q < 432 → (sm k = sm q ↔ Fo k = Fo q)) ∧ (∀ k, k < 432 → ∀ f, Fo k = some f → ∀ i, i < 16 → u (16 * k + i) = c (f * 16 + i))
theorem Core.z {c u : Nat → Int32} {Fo : Nat → Option Nat} {sm : Nat → Nat} (C : Core c u Fo sm) : ∀ k, k < 432 → (sm k = 0 ↔ Fo k = none) := C.1
theorem Core.e {c u : Nat → Int32} {Fo : Nat → Option Nat} {sm : Nat → Nat} (C : Core c u Fo sm) : ∀ k, k < 432 → ∀ q, q < 432 → (sm k = sm q ↔ Fo k = Fo q) := C.2.1
theorem Core.u {c u : Nat → Int32} {Fo : Nat → Option Nat} {sm : Nat → Nat} (C : Core c u Fo sm) : ∀ k, k < 432 → ∀ f, Fo k = some f → ∀ i, i < 16 → u (16 * k + i) = c (f * 16 + i) := C.2.2
section CORE
variable {c c' u u' : Nat → Int32} {Fo Fo' : Nat → Option Nat} {sm sm' : Nat → Nat} {fo fo' : Nat → Option Nat}
theorem Core.re (C : Core c u Fo sm) (h : ∀ k, k < 432 → (sm' k = 0 ∧ Fo' k = none) ∨ ∃ q, q < 432 ∧ sm' k = sm q ∧ Fo' k = Fo q ∧ ∀ i, i < 16 → u' (16 * k + i) = u (16 * q + i)) : Core c u' Fo' sm' := by
  refine ⟨fun k hk => ?_, fun k hk q hq => ?_, fun k hk f hf i hi => ?_⟩
  · rcases h k hk with ⟨h1, h2⟩ | ⟨r, hr, h1, h2, -⟩
    · rw [h1, h2]; exact ⟨fun _ => rfl, fun _ => rfl⟩
    · rw [h1, h2]; exact C.z r hr
  · rcases h k hk with ⟨h1, h2⟩ | ⟨r, hr, h1, h2, -⟩
    · rcases h q hq with ⟨h3, h4⟩ | ⟨t, ht, h3, h4, -⟩
      · rw [h1, h2, h3, h4]; exact ⟨fun _ => rfl, fun _ => rfl⟩
      · rw [h1, h2, h3, h4]
        exact ⟨fun w => ((C.z t ht).mp w.symm).symm, fun w => ((C.z t ht).mpr w.symm).symm⟩
    · rcases h q hq with ⟨h3, h4⟩ | ⟨t, ht, h3, h4, -⟩
      · rw [h1, h2, h3, h4]; exact C.z r hr
      · rw [h1, h2, h3, h4]; exact C.e r hr t ht
  · rcases h k hk with ⟨h1, h2⟩ | ⟨r, hr, h1, h2, h3⟩
    · rw [h2] at hf; cases hf
    · rw [h2] at hf
      rw [h3 i hi]; exact C.u r hr f hf i hi
theorem Core.cpy {S T w : Nat} (C : Core c u Fo sm) (hS : S + w ≤ 432) (hsm : ∀ k, k < 432 → sm' k = if T ≤ k ∧ k < T + w then sm (S + (k - T)) else sm k) (hfo : ∀ k, k < 432 → Fo' k = if T ≤ k ∧ k < T + w then Fo (S + (k - T)) else Fo k)
    (hu : ∀ k, k < 432 → ∀ i, i < 16 → u' (16 * k + i) = if T ≤ k ∧ k < T + w then u (16 * (S + (k - T)) + i) else u (16 * k + i)) : Core c u' Fo' sm' := by
  refine C.re (fun k hk => Or.inr ?_)
  by_cases r : T ≤ k ∧ k < T + w
  · refine ⟨S + (k - T), by omega, ?_, ?_, fun i hi => ?_⟩
    · rw [hsm k hk, if_pos r]
    · rw [hfo k hk, if_pos r]
    · rw [hu k hk i hi, if_pos r]
  · refine ⟨k, hk, ?_, ?_, fun i hi => ?_⟩
    · rw [hsm k hk, if_neg r]
    · rw [hfo k hk, if_neg r]
    · rw [hu k hk i hi, if_neg r]
theorem Core.clr {T w : Nat} (C : Core c u Fo sm) (hsm : ∀ k, k < 432 → sm' k = if T ≤ k ∧ k < T + w then 0 else sm k) (hfo : ∀ k, k < 432 → Fo' k = if T ≤ k ∧ k < T + w then none else Fo k) : Core c u Fo' sm' := by
  refine C.re (fun k hk => ?_)
  by_cases r : T ≤ k ∧ k < T + w
  · exact Or.inl ⟨by rw [hsm k hk, if_pos r], by rw [hfo k hk, if_pos r]⟩
  · exact Or.inr ⟨k, hk, by rw [hsm k hk, if_neg r], by rw [hfo k hk, if_neg r], fun i hi => rfl⟩
theorem Core.new {k0 j x : Nat} (C : Core c u Fo sm) (hj : ∀ k, k < 432 → Fo k ≠ some j) (hx : ∀ k, sm k < x) (hsm : ∀ k, k < 432 → sm' k = if k = k0 then x else sm k) (hfo : ∀ k, k < 432 → Fo' k = if k = k0 then some j else Fo k)
    (hc : ∀ f, f ≠ j → ∀ i, i < 16 → c' (f * 16 + i) = c (f * 16 + i)) (hu : ∀ k, k ≠ k0 → ∀ i, i < 16 → u' (16 * k + i) = u (16 * k + i)) (hn : ∀ i, i < 16 → u' (16 * k0 + i) = c' (j * 16 + i)) : Core c' u' Fo' sm' := by
  have hx0 : x ≠ 0 := by have := hx 0; omega
  refine ⟨fun k hk => ?_, fun k hk q hq => ?_, fun k hk f hf i hi => ?_⟩
  · rw [hsm k hk, hfo k hk]
    by_cases e : k = k0
    · rw [if_pos e, if_pos e]; exact ⟨fun w => absurd w hx0, fun w => by cases w⟩
    · rw [if_neg e, if_neg e]; exact C.z k hk
  · rw [hsm k hk, hfo k hk, hsm q hq, hfo q hq]
    by_cases e : k = k0
    · rw [if_pos e, if_pos e]
      by_cases d : q = k0
      · rw [if_pos d, if_pos d]; exact ⟨fun _ => rfl, fun _ => rfl⟩
      · rw [if_neg d, if_neg d]
        exact ⟨fun w => by have := hx q; omega, fun w => absurd w.symm (hj q hq)⟩
    · rw [if_neg e, if_neg e]
      by_cases d : q = k0
      · rw [if_pos d, if_pos d]
        exact ⟨fun w => by have := hx k; omega, fun w => absurd w (hj k hk)⟩
      · rw [if_neg d, if_neg d]; exact C.e k hk q hq
  · rw [hfo k hk] at hf
    by_cases e : k = k0
    · rw [if_pos e] at hf
      cases hf
      rw [e]; exact hn i hi
    · rw [if_neg e] at hf
      rw [hu k e i hi, hc f (fun z => hj k hk (z ▸ hf)) i hi]
      exact C.u k hk f hf i hi
theorem Core.wr {k0 b : Nat} (C : Core c u Fo sm) (h1 : ∀ k, k < 432 → Fo k = some b → k = k0) (hb : Fo k0 = some b)
    (hc : ∀ f, f ≠ b → ∀ i, i < 16 → c' (f * 16 + i) = c (f * 16 + i)) (hu : ∀ k, k ≠ k0 → ∀ i, i < 16 → u' (16 * k + i) = u (16 * k + i)) (hn : ∀ i, i < 16 → u' (16 * k0 + i) = c' (b * 16 + i)) : Core c' u' Fo sm := by
  refine ⟨C.z, C.e, fun k hk f hf i hi => ?_⟩
  by_cases e : k = k0
  · subst e
    rw [hb] at hf
    cases hf
    exact hn i hi
  · rw [hu k e i hi, hc f (fun z => e (h1 k hk (z ▸ hf))) i hi]
    exact C.u k hk f hf i hi
theorem Core.cnt {k0 b : Nat} (C : Core c u Fo sm) (hk : k0 < 432) (hb : Fo k0 = some b) : gcnt (fun k => decide (sm k = sm k0)) 432 = gcnt (fun k => Fo k == some b) 432 := by
  refine gcnt_congr (fun k hk' => ?_)
  have := C.e k hk' k0 hk
  rw [hb] at this
  by_cases e : Fo k = some b
  · rw [decide_eq_true (this.mpr e), e]; simp
  · rw [decide_eq_false (fun z => e (this.mp z))]
    symm; simpa using e
theorem hcnt_rot (fo : Nat → Option Nat) (b : Nat) : hcnt fo b = gcnt (fun k => fo (pH k) == some b) 432 := gcnt_rot _
theorem Core.use {F : Nat} (C : Core c u Fo sm) (hF : ∀ k, k < 432 → ∀ j, Fo k = some j → j < F) : ∀ n, n ≤ 432 → gcnt (usf sm) n = gcnt (fun j => decide (0 < gcnt (fun k => Fo k == some j) n)) F := by
  intro n
  induction n with
  | zero =>
    intro _
    symm
    exact gcnt_zero (fun j _ => rfl)
  | succ n ih =>
    intro hn
    have h0 := ih (by omega)
    show gcnt (usf sm) n + (if usf sm n then 1 else 0) = _
    have hn' : n < 432 := by omega
    cases hf : Fo n with
    | none =>
      have e0 : sm n = 0 := (C.z n hn').mpr hf
      have e1 : usf sm n = false := by simp [usf, e0]
      rw [e1, h0]
      show gcnt _ F + 0 = _
      refine gcnt_congr (fun j hj => ?_)
      show decide (0 < gcnt (fun k => Fo k == some j) n) = decide (0 < gcnt (fun k => Fo k == some j) n + (if Fo n == some j then 1 else 0))
      rw [hf]; rfl
    | some f =>
      have e0 : ¬ sm n = 0 := fun z => by have := (C.z n hn').mp z; rw [hf] at this; cases this
      have hfF := hF n hn' f hf
      have hsame : gcnt (fun j => decide (sm j = sm n)) n = gcnt (fun k => Fo k == some f) n := by
        refine gcnt_congr (fun k hk => ?_)
        have := C.e k (by omega) n hn'
        rw [hf] at this
        by_cases e : Fo k = some f
        · rw [decide_eq_true (this.mpr e), e]; simp
        · rw [decide_eq_false (fun z => e (this.mp z))]
          symm; simpa using e
      have hother : ∀ j, j ≠ f → decide (0 < gcnt (fun k => Fo k == some j) (n + 1)) = decide (0 < gcnt (fun k => Fo k == some j) n) := by
        intro j hj
        show decide (0 < gcnt (fun k => Fo k == some j) n + (if Fo n == some j then 1 else 0)) = _
        rw [hf]
        have : (some f == some j) = false := by simpa using fun z => hj z.symm
        rw [this]; rfl
      have hme : decide (0 < gcnt (fun k => Fo k == some f) (n + 1)) = true := by
        apply decide_eq_true
        show 0 < gcnt (fun k => Fo k == some f) n + (if Fo n == some f then 1 else 0)
        rw [hf]; simp
      have hup := gcnt_up (p := fun j => decide (0 < gcnt (fun k => Fo k == some j) n)) (q := fun j => decide (0 < gcnt (fun k => Fo k == some j) (n + 1))) hfF hother
      simp only [hme] at hup
      by_cases hz : gcnt (fun k => Fo k == some f) n = 0
      · have e1 : usf sm n = true := by simp [usf, fstn, e0, hsame, hz]
        have e2 : decide (0 < gcnt (fun k => Fo k == some f) n) = false := by rw [hz]; rfl
        simp only [e2] at hup
        rw [e1, h0]
        simp only [if_true, Bool.false_eq_true, if_false] at hup ⊢
        omega
      · have e1 : usf sm n = false := by simp [usf, fstn, e0, hsame, hz]
        have e2 : decide (0 < gcnt (fun k => Fo k == some f) n) = true := decide_eq_true (by omega)
        simp only [e2] at hup
        rw [e1, h0]
        simp only [if_true, Bool.false_eq_true, if_false] at hup ⊢
        omega
end CORE
abbrev Rel (F : Nat) (c : Nat → Int32) (fo : Nat → Option Nat) (sp pi : Nat → Bool) (N sx : Nat) (pd th : Nat → Bool) (sm : Nat → Nat) (u : Nat → Int32) : Prop :=
  (1 ≤ F) ∧ (F ≤ 60) ∧ (∀ k j, fo k = some j → j < F) ∧ (sx ≤ N) ∧ (∀ k, sm k ≤ sx) ∧ (Core c u (fun k => fo (pH k)) sm) ∧ (∀ p, p < 8 → pd (1 + p) = pi p) ∧ (∀ s, s < 6 → th s = sp (48 + s)) ∧ (∀ p, p < 8 → pi p = true → ∀ s, s < 6 → th (6 * (1 + p) + s) = sp (p * 6 + s))
theorem Rel.F1 {F N sx : Nat} {c u : Nat → Int32} {fo : Nat → Option Nat} {sp pi pd th : Nat → Bool} {sm : Nat → Nat} (R : Rel F c fo sp pi N sx pd th sm u) : 1 ≤ F := R.1
theorem Rel.F60 {F N sx : Nat} {c u : Nat → Int32} {fo : Nat → Option Nat} {sp pi pd th : Nat → Bool} {sm : Nat → Nat} (R : Rel F c fo sp pi N sx pd th sm u) : F ≤ 60 := R.2.1
theorem Rel.fo {F N sx : Nat} {c u : Nat → Int32} {fo : Nat → Option Nat} {sp pi pd th : Nat → Bool} {sm : Nat → Nat} (R : Rel F c fo sp pi N sx pd th sm u) : ∀ k j, fo k = some j → j < F := R.2.2.1
theorem Rel.sx {F N sx : Nat} {c u : Nat → Int32} {fo : Nat → Option Nat} {sp pi pd th : Nat → Bool} {sm : Nat → Nat} (R : Rel F c fo sp pi N sx pd th sm u) : sx ≤ N := R.2.2.2.1
theorem Rel.sm {F N sx : Nat} {c u : Nat → Int32} {fo : Nat → Option Nat} {sp pi pd th : Nat → Bool} {sm : Nat → Nat} (R : Rel F c fo sp pi N sx pd th sm u) : ∀ k, sm k ≤ sx := R.2.2.2.2.1
theorem Rel.core {F N sx : Nat} {c u : Nat → Int32} {fo : Nat → Option Nat} {sp pi pd th : Nat → Bool} {sm : Nat → Nat} (R : Rel F c fo sp pi N sx pd th sm u) : Core c u (fun k => fo (pH k)) sm := R.2.2.2.2.2.1
theorem Rel.pd {F N sx : Nat} {c u : Nat → Int32} {fo : Nat → Option Nat} {sp pi pd th : Nat → Bool} {sm : Nat → Nat} (R : Rel F c fo sp pi N sx pd th sm u) : ∀ p, p < 8 → pd (1 + p) = pi p := R.2.2.2.2.2.2.1
theorem Rel.th {F N sx : Nat} {c u : Nat → Int32} {fo : Nat → Option Nat} {sp pi pd th : Nat → Bool} {sm : Nat → Nat} (R : Rel F c fo sp pi N sx pd th sm u) : ∀ s, s < 6 → th s = sp (48 + s) := R.2.2.2.2.2.2.2.1
theorem Rel.tp {F N sx : Nat} {c u : Nat → Int32} {fo : Nat → Option Nat} {sp pi pd th : Nat → Bool} {sm : Nat → Nat} (R : Rel F c fo sp pi N sx pd th sm u) : ∀ p, p < 8 → pi p = true → ∀ s, s < 6 → th (6 * (1 + p) + s) = sp (p * 6 + s) := R.2.2.2.2.2.2.2.2
section REL
variable {F N sx : Nat} {c u : Nat → Int32} {fo : Nat → Option Nat} {sp pi pd th : Nat → Bool} {sm : Nat → Nat}
theorem Rel.sm30 (R : Rel F c fo sp pi N sx pd th sm u) (hN : N < 2 ^ 30) : ∀ k, sm k < 2 ^ 30 := fun k => by have := R.sm k; have := R.sx; omega
theorem Rel.used (R : Rel F c fo sp pi N sx pd th sm u) : gcnt (usf sm) 432 = gcnt (fun j => decide (0 < hcnt fo j)) F := by
  rw [R.core.use (fun k _ j h => R.fo _ j h) 432 (Nat.le_refl 432)]
  refine gcnt_congr (fun j _ => ?_)
  rw [hcnt_rot]
/-- a free frame, or none: and the reference counts the same -/
theorem Rel.free (R : Rel F c fo sp pi N sx pd th sm u) : (gcnt (usf sm) 432 = F ∧ ∀ q, q < F → hcnt fo q ≠ 0) ∨ (gcnt (usf sm) 432 ≠ F ∧ ∃ j, j < F ∧ hcnt fo j = 0 ∧ ∀ q, q < j → hcnt fo q ≠ 0) := by
  rw [R.used]
  rcases least (fun j => decide (0 < hcnt fo j)) F with h | ⟨j, h1, h2, h3⟩
  · exact Or.inl ⟨gcnt_full h, fun q hq => by have := of_decide_eq_true (h q hq); omega⟩
  · refine Or.inr ⟨by have := gcnt_lt (p := fun j => decide (0 < hcnt fo j)) h1 h2; omega, j, h1, ?_, fun q hq => ?_⟩
    · have := of_decide_eq_false h2; omega
    · have := of_decide_eq_true (h3 q hq); omega
theorem Rel.nofree (R : Rel F c fo sp pi N sx pd th sm u) {j : Nat} (h : hcnt fo j = 0) : ∀ k, k < 432 → fo (pH k) ≠ some j := fun k hk z => by
  have := hcnt_pos (pH_lt hk) z; omega
theorem Rel.one (R : Rel F c fo sp pi N sx pd th sm u) {k0 b : Nat} (hk0 : k0 < 432) (hb : fo (pH k0) = some b) (h : hcnt fo b = 1) : ∀ k, k < 432 → fo (pH k) = some b → k = k0 := by
  intro k hk hf
  apply Classical.byContradiction
  intro hne
  have := gcnt_two (p := fun k => fo (pH k) == some b) hk0 hk hne (by simp [hb]) (by simp [hf])
  rw [hcnt_rot] at h
  omega
theorem Rel.cnt (R : Rel F c fo sp pi N sx pd th sm u) {k0 b : Nat} (hk : k0 < 432) (hb : fo (pH k0) = some b) : gcnt (fun k => decide (sm k = sm k0)) 432 = hcnt fo b := by
  rw [R.core.cnt hk hb, hcnt_rot]
theorem Rel.pg (R : Rel F c fo sp pi N sx pd th sm u) {s p : Nat} (hs : s < 6) (hp : p < 8) : (sm (8 * s + p) = 0 ↔ fo (384 + s * 8 + p) = none) := by
  have := R.core.z (8 * s + p) (by omega)
  rw [pH_lo (by omega), show 384 + (8 * s + p) = 384 + s * 8 + p from by omega] at this
  exact this
theorem Rel.pgb (R : Rel F c fo sp pi N sx pd th sm u) {s p : Nat} (hs : s < 6) (hp : p < 8) : decide (¬ sm (8 * s + p) = 0) = (fo (384 + s * 8 + p)).isSome := by
  have := R.pg hs hp
  cases e : fo (384 + s * 8 + p) with
  | none => rw [e] at this; simp [this.mpr rfl]
  | some f =>
    rw [e] at this
    have h : ¬ sm (8 * s + p) = 0 := fun z => by have := this.mp z; cases this
    simp [h]
theorem Rel.pages (R : Rel F c fo sp pi N sx pd th sm u) : ∀ s, s ≤ 6 → pgsum fo s = ypg sm s := by
  intro s
  induction s with
  | zero => intro _; rfl
  | succ s ih =>
    intro hs
    show pgsum fo s + gcnt (fun p => (fo (384 + s * 8 + p)).isSome) 8 = ypg sm s + gcnt (fun p => decide (¬ sm (8 * s + p) = 0)) 8
    rw [ih (by omega), gcnt_congr (p := fun p => decide (¬ sm (8 * s + p) = 0)) (fun p hp => R.pgb (s := s) (by omega) hp)]
theorem Rel.up {N' : Nat} (R : Rel F c fo sp pi N sx pd th sm u) (h : N ≤ N') : Rel F c fo sp pi N' sx pd th sm u := ⟨R.F1, R.F60, R.fo, Nat.le_trans R.sx h, R.sm, R.core, R.pd, R.th, R.tp⟩
theorem cpy_fo {α : Type} {P : α → Prop} {f g : Nat → α} {s d w : Nat} (hf : ∀ k, P (f k)) (hg : ∀ k, P (g k)) : ∀ k, P (va_cpy f g s d w k) := fun k => by
  simp only [va_cpy]; split
  · exact hf _
  · exact hg _
theorem up_fo {α : Type} {P : α → Prop} {f : Nat → α} {d : Nat} {x : α} (hf : ∀ k, P (f k)) (hx : P x) : ∀ k, P (va_up f d x k) := fun k => by
  simp only [va_up]; split
  · exact hx
  · exact hf _
end REL
