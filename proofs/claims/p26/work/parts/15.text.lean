/-! the mathematics of the history and of the text -/
def svM (od hd k : Nat) (M : sv_M) : sv_M := sv_u (sv_u M 8 (upd (upd (M 8) 0 (nI od)) 1 (nI hd))) (2 + k) (M 0)
def rsM (hd k : Nat) (M : sv_M) : sv_M := sv_u (sv_u M 8 (upd (M 8) 1 (nI hd))) 0 (M (2 + k))
theorem sv_uc {M : sv_M} {p q : Nat} {x y : vX} (h : p ≠ q) : sv_u (sv_u M p x) q y = sv_u (sv_u M q y) p x := by
  funext r
  unfold sv_u
  by_cases h1 : r = q
  · have : r ≠ p := fun e => h (e.symm.trans h1)
    simp [h1, h.symm]
  · simp [h1]
/-- chars -/
def chr (v : Int32) : Prop := narrow .char (.int v) = .int v
def flI (c : Int32) : Int32 := if c < 48 then 0 else if 55 < c then 0 else 1
def fsI (s g t : Int32) : Int32 := if g = 62 then (if t ≤ s then 0 else 1) else (if s ≤ t then 0 else 1)
def ftI (cd : vX) (i : Nat) : Int32 :=
  if i % 4 = 0 then flI (cd i)
  else if i % 4 = 1 then (if (cd i = 62 ∧ cd (i - 1) < 55) ∨ (cd i = 60 ∧ 48 < cd (i - 1)) then 1 else 0)
  else if i % 4 = 2 then (if flI (cd i) = 0 then 0 else if fsI (cd (i - 2)) (cd (i - 1)) (cd i) = 0 then 0 else 1)
  else if cd i = 59 then 1 else 0
def epF (cd : vX) : Nat → Nat → Nat
  | 0, i => i
  | t + 1, i => if ftI cd i = 0 then i else epF cd t (i + 1)
theorem epF_step {cd : vX} {n i : Nat} (h : i < n) (hne : ¬ ftI cd i = 0) : epF cd (n - i) i = epF cd (n - (i + 1)) (i + 1) := by
  rw [show n - i = (n - (i + 1)) + 1 by omega]
  exact if_neg hne
theorem epF_hit {cd : vX} {n i : Nat} (h : i < n) (he : ftI cd i = 0) : epF cd (n - i) i = i := by
  rw [show n - i = (n - (i + 1)) + 1 by omega]
  exact if_pos he
theorem epF_end {cd : vX} {n i : Nat} (h : n ≤ i) : epF cd (n - i) i = i := by
  rw [show n - i = 0 by omega]
  rfl
theorem flI_b (c : Int32) : flI c = 0 ∨ flI c = 1 := by
  unfold flI
  split
  · exact Or.inl rfl
  · split
    · exact Or.inl rfl
    · exact Or.inr rfl
theorem fsI_b (s g t : Int32) : fsI s g t = 0 ∨ fsI s g t = 1 := by
  unfold fsI
  split <;> split
  · exact Or.inl rfl
  · exact Or.inr rfl
  · exact Or.inl rfl
  · exact Or.inr rfl
theorem ftI_b (cd : vX) (i : Nat) : ftI cd i = 0 ∨ ftI cd i = 1 := by
  unfold ftI
  split
  · exact flI_b _
  · split
    · split
      · exact Or.inr rfl
      · exact Or.inl rfl
    · split
      · split
        · exact Or.inl rfl
        · split
          · exact Or.inl rfl
          · exact Or.inr rfl
      · split
        · exact Or.inr rfl
        · exact Or.inl rfl
