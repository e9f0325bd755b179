/-! What a state of the class is. -/
def bI (b : Bool) : Int32 := if b then 1 else 0
def oI (o : Option Nat) : Int32 := match o with
  | none => -1
  | some j => nI j
/-- how many of the first n hold -/
def gcnt (p : Nat → Bool) : Nat → Nat
  | 0 => 0
  | n + 1 => gcnt p n + (if p n then 1 else 0)
/-- the holders of frame j -/
def hcnt (fo : Nat → Option Nat) (j : Nat) : Nat := gcnt (fun k => fo k == some j) 432
theorem gcnt_le (p : Nat → Bool) (n : Nat) : gcnt p n ≤ n := by
  induction n with
  | zero => exact Nat.le_refl 0
  | succ n ih =>
    show gcnt p n + (if p n then 1 else 0) ≤ n + 1
    split <;> omega
theorem gcnt_congr {p q : Nat → Bool} {n : Nat} (h : ∀ k, k < n → p k = q k) : gcnt p n = gcnt q n := by
  induction n with
  | zero => rfl
  | succ n ih =>
    show gcnt p n + (if p n then 1 else 0) = gcnt q n + (if q n then 1 else 0)
    rw [ih (fun k hk => h k (by omega)), h n (by omega)]
theorem gcnt_up {p q : Nat → Bool} {k n : Nat} (hk : k < n) (h : ∀ j, j ≠ k → q j = p j) : gcnt q n + (if p k then 1 else 0) = gcnt p n + (if q k then 1 else 0) := by
  induction n with
  | zero => omega
  | succ n ih =>
    show gcnt q n + (if q n then 1 else 0) + (if p k then 1 else 0) = gcnt p n + (if p n then 1 else 0) + (if q k then 1 else 0)
    by_cases e : k = n
    · subst e
      rw [gcnt_congr (p := q) (q := p) (n := k) (fun j hj => h j (by omega))]
      omega
    · have := ih (by omega)
      rw [h n (fun x => e x.symm)]
      omega
theorem gcnt_pos {p : Nat → Bool} {k n : Nat} (hk : k < n) (hp : p k = true) : 1 ≤ gcnt p n := by
  induction n with
  | zero => omega
  | succ n ih =>
    show 1 ≤ gcnt p n + (if p n then 1 else 0)
    by_cases e : k = n
    · subst e; rw [hp]; simp
    · have := ih (by omega); omega
theorem gcnt_zero {p : Nat → Bool} {n : Nat} (h : ∀ k, k < n → p k = false) : gcnt p n = 0 := by
  induction n with
  | zero => rfl
  | succ n ih =>
    show gcnt p n + (if p n then 1 else 0) = 0
    rw [ih (fun k hk => h k (by omega)), h n (by omega)]; rfl
theorem gcnt_ex {p : Nat → Bool} {n : Nat} (h : gcnt p n ≠ 0) : ∃ k, k < n ∧ p k = true := by
  apply Classical.byContradiction
  intro hn
  apply h
  apply gcnt_zero
  intro k hk
  cases e : p k with
  | false => rfl
  | true => exact absurd ⟨k, hk, e⟩ hn
theorem hcnt_up {fo : Nat → Option Nat} {k : Nat} {o : Option Nat} (hk : k < 432) (j : Nat) : hcnt (va_up fo k o) j + (if fo k == some j then 1 else 0) = hcnt fo j + (if o == some j then 1 else 0) := by
  have h := gcnt_up (p := fun q => fo q == some j) (q := fun q => va_up fo k o q == some j) hk (fun q hq => by simp [va_up, hq])
  simp only [va_up, if_true] at h
  exact h
theorem hcnt_pos {fo : Nat → Option Nat} {k j : Nat} (hk : k < 432) (h : fo k = some j) : 1 ≤ hcnt fo j := gcnt_pos hk (by simp [h])
theorem hcnt_le (fo : Nat → Option Nat) (j : Nat) : hcnt fo j ≤ 432 := gcnt_le _ _
/-- the world of the class's object; five arrays behind it -/
abbrev xV (cI cB : ClassId) (h a1 a2 a3 a4 a5 F : Nat) (f1 f2 f3 f4 f5 : Nat → Int32) (rest : va_W) : va_W :=
  (h, .inr (0, [.int (nI F), .ref a1, .ref a2, .ref a3, .ref a4, .ref a5])) :: (a1, .inl (cI, F * 16, .inl f1)) :: (a2, .inl (cI, F, .inl f2)) :: (a3, .inl (cI, 432, .inl f3)) :: (a4, .inl (cB, 54, .inl f4)) :: (a5, .inl (cB, 8, .inl f5)) :: rest
abbrev xW (cI cB : ClassId) (h a1 a2 a3 a4 a5 F : Nat) (c : Nat → Int32) (fo : Nat → Option Nat) (sp pi : Nat → Bool) (rest : va_W) : va_W :=
  xV cI cB h a1 a2 a3 a4 a5 F c (fun j => nI (hcnt fo j)) (fun k => oI (fo k)) (fun k => bI (sp k)) (fun k => bI (pi k)) rest
abbrev gg (D : va_G) (cI cB cL : ClassId) (b L : Nat) (xs : Nat → Int32) : gG := (D, [(cI, .int), (cB, .boolean), (cL, .long)], b, L, xs)
theorem oI_nonneg {o : Option Nat} {F : Nat} (hF : F < 2 ^ 31) (h : ∀ j, o = some j → j < F) : (0 ≤ oI o ↔ o.isSome = true) := by
  cases o with
  | none => simp [oI]
  | some j => simp [oI]; exact nI_pos' (by have := h j rfl; omega)
theorem upd_b {sp : Nat → Bool} {j : Nat} {b : Bool} {x : Int32} (hx : x = bI b) : upd (fun k => bI (sp k)) j (vp_nar .boolean x) = fun k => bI (va_up sp j b k) := by
  funext k
  subst hx
  by_cases e : k = j
  · subst e
    simp [upd, va_up]
    cases b <;> decide
  · simp [upd, va_up, e]
theorem upd_o {fo : Nat → Option Nat} {j : Nat} {o : Option Nat} : upd (fun k => oI (fo k)) j (oI o) = fun k => oI (va_up fo j o k) := by
  funext k
  by_cases e : k = j
  · subst e; simp [upd, va_up]
  · simp [upd, va_up, e]
theorem oI_inj {a b : Option Nat} (ha : ∀ j, a = some j → j < 2 ^ 31) (hb : ∀ j, b = some j → j < 2 ^ 31) : oI a = oI b ↔ a = b := by
  cases a with
  | none =>
    cases b with
    | none => simp
    | some j =>
      simp only [oI, reduceCtorEq, iff_false]
      intro h
      have := nI_pos (hb j rfl)
      rw [← h] at this
      exact this (by decide)
  | some i =>
    cases b with
    | none =>
      simp only [oI, reduceCtorEq, iff_false]
      intro h
      have := nI_pos (ha i rfl)
      rw [h] at this
      exact this (by decide)
    | some j =>
      simp only [oI, Option.some.injEq]
      exact nI_eq (ha i rfl) (hb j rfl)
