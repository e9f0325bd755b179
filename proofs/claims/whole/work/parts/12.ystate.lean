/-! What a state of the reference is. Its cells stand behind the six of the class. -/
abbrev zV (z0 z1 z2 z3 z4 z5 : Nat × va_E) (cI cB : ClassId) (hm b1 b2 b3 b4 : Nat) (cd : Int32) (F sx : Nat) (g7 g8 g9 g10 : Nat → Int32) (rest : va_W) : va_W :=
  z0 :: z1 :: z2 :: z3 :: z4 :: z5 :: (hm, .inr (1, [.int cd, .int (nI F), .int (nI sx), .ref b1, .ref b2, .ref b3, .ref b4])) :: (b1, .inl (cB, 9, .inl g7)) :: (b2, .inl (cB, 54, .inl g8)) :: (b3, .inl (cI, 432, .inl g9)) :: (b4, .inl (cI, 6912, .inl g10)) :: rest
abbrev zW (z0 z1 z2 z3 z4 z5 : Nat × va_E) (cI cB : ClassId) (hm b1 b2 b3 b4 : Nat) (cd : Int32) (F sx : Nat) (pd th : Nat → Bool) (sm : Nat → Nat) (u : Nat → Int32) (rest : va_W) : va_W :=
  zV z0 z1 z2 z3 z4 z5 cI cB hm b1 b2 b3 b4 cd F sx (fun k => bI (pd k)) (fun k => bI (th k)) (fun k => nI (sm k)) u rest
theorem ys7 {z0 z1 z2 z3 z4 z5 : Nat × va_E} {cI cB : ClassId} {hm b1 b2 b3 b4 : Nat} {cd : Int32} {F sx : Nat} {g7 g8 g9 g10 : Nat → Int32} {rest : va_W} {z z' : Nat → Int32} (e : z = z') : (zV z0 z1 z2 z3 z4 z5 cI cB hm b1 b2 b3 b4 cd F sx g7 g8 g9 g10 rest).set 7 (b1, .inl (cB, 9, .inl z)) = zV z0 z1 z2 z3 z4 z5 cI cB hm b1 b2 b3 b4 cd F sx z' g8 g9 g10 rest := by subst e; rfl
theorem ys8 {z0 z1 z2 z3 z4 z5 : Nat × va_E} {cI cB : ClassId} {hm b1 b2 b3 b4 : Nat} {cd : Int32} {F sx : Nat} {g7 g8 g9 g10 : Nat → Int32} {rest : va_W} {z z' : Nat → Int32} (e : z = z') : (zV z0 z1 z2 z3 z4 z5 cI cB hm b1 b2 b3 b4 cd F sx g7 g8 g9 g10 rest).set 8 (b2, .inl (cB, 54, .inl z)) = zV z0 z1 z2 z3 z4 z5 cI cB hm b1 b2 b3 b4 cd F sx g7 z' g9 g10 rest := by subst e; rfl
theorem ys9 {z0 z1 z2 z3 z4 z5 : Nat × va_E} {cI cB : ClassId} {hm b1 b2 b3 b4 : Nat} {cd : Int32} {F sx : Nat} {g7 g8 g9 g10 : Nat → Int32} {rest : va_W} {z z' : Nat → Int32} (e : z = z') : (zV z0 z1 z2 z3 z4 z5 cI cB hm b1 b2 b3 b4 cd F sx g7 g8 g9 g10 rest).set 9 (b3, .inl (cI, 432, .inl z)) = zV z0 z1 z2 z3 z4 z5 cI cB hm b1 b2 b3 b4 cd F sx g7 g8 z' g10 rest := by subst e; rfl
theorem ys10 {z0 z1 z2 z3 z4 z5 : Nat × va_E} {cI cB : ClassId} {hm b1 b2 b3 b4 : Nat} {cd : Int32} {F sx : Nat} {g7 g8 g9 g10 : Nat → Int32} {rest : va_W} {z z' : Nat → Int32} (e : z = z') : (zV z0 z1 z2 z3 z4 z5 cI cB hm b1 b2 b3 b4 cd F sx g7 g8 g9 g10 rest).set 10 (b4, .inl (cI, 6912, .inl z)) = zV z0 z1 z2 z3 z4 z5 cI cB hm b1 b2 b3 b4 cd F sx g7 g8 g9 z' rest := by subst e; rfl
theorem upd_n {sm : Nat → Nat} {j x : Nat} : upd (fun k => nI (sm k)) j (nI x) = fun k => nI (va_up sm j x k) := by
  funext k
  by_cases e : k = j
  · subst e; simp [upd, va_up]
  · simp [upd, va_up, e]
theorem n16 (a i : Nat) : (16 : Int32) * nI a + nI i = nI (16 * a + i) := by rw [show (16 : Int32) = nI 16 from rfl, pk_mul, nI_add]
theorem n48 (a i : Nat) : (48 : Int32) * nI a + nI i = nI (48 * a + i) := by rw [show (48 : Int32) = nI 48 from rfl, pk_mul, nI_add]
theorem n6 (a i : Nat) : (6 : Int32) * nI a + nI i = nI (6 * a + i) := by rw [show (6 : Int32) = nI 6 from rfl, pk_mul, nI_add]
/-- no page before k bears k's stamp -/
def fstn (sm : Nat → Nat) (k : Nat) : Bool := decide (gcnt (fun j => decide (sm j = sm k)) k = 0)
def usf (sm : Nat → Nat) : Nat → Bool := fun k => decide (¬ sm k = 0) && fstn sm k
/-- every page with stamp b among the first i gets stamp e -/
def mvs (sm : Nat → Nat) (b e i : Nat) : Nat → Nat := fun q => if q < i ∧ sm q = b then e else sm q
theorem mvs_0 {sm : Nat → Nat} {b e : Nat} : mvs sm b e 0 = sm := by funext q; simp [mvs]
theorem mvs_at {sm : Nat → Nat} {b e i : Nat} : mvs sm b e i i = sm i := by simp [mvs]
theorem mvs_n {sm : Nat → Nat} {b e i : Nat} (h : ¬ sm i = b) : va_up (mvs sm b e i) i (sm i) = mvs sm b e (i + 1) := by
  funext q
  simp only [mvs, va_up]
  by_cases z : q = i
  · subst z; simp [h]
  · have : (q < i + 1) = (q < i) := by apply propext; omega
    simp only [this, if_neg z]
theorem mvs_s {sm : Nat → Nat} {b e i : Nat} (h : sm i = b) : va_up (mvs sm b e i) i e = mvs sm b e (i + 1) := by
  funext q
  simp only [mvs, va_up]
  by_cases z : q = i
  · subst z; simp [h]
  · have : (q < i + 1) = (q < i) := by apply propext; omega
    simp only [this, if_neg z]
theorem mvs_one {sm : Nat → Nat} {b i k : Nat} (h : ¬ sm k = b) : mvs sm b (sm k) i k = sm k := by simp [mvs, h]
theorem cpy_blk {α : Type} {f : Nat → α} {s d w i : Nat} (h : s + w * 48 ≤ d ∨ d + w * 48 ≤ s) (hi : i < 48) : va_cpy (va_cpy f f s d (w * i)) (va_cpy f f s d (w * i)) (s + w * i) (d + w * i) w = va_cpy f f s d (w * (i + 1)) := by
  have h2 : w * i + w ≤ w * 48 := by
    have : w * i + w = w * (i + 1) := rfl
    rw [this]; exact Nat.mul_le_mul_left w (by omega)
  have h3 : w * (i + 1) = w * i + w := rfl
  have h4 : w * 48 = 48 * w := Nat.mul_comm _ _
  rw [h3]
  generalize w * i = v at *
  rw [Nat.mul_comm w 48] at h2
  funext q
  simp only [va_cpy]
  by_cases y : d + v ≤ q ∧ q < d + v + w
  · rw [if_pos y, if_neg (by omega), if_pos (by omega)]
    congr 1
    omega
  · rw [if_neg y]
    by_cases z : d ≤ q ∧ q < d + v
    · rw [if_pos z, if_pos (by omega)]
    · rw [if_neg z, if_neg (by omega)]
