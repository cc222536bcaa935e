/-! the reference's text -/
def atF (cd : vX) (n9 a : Nat) (lo hi : Int32) : Int32 := if a < n9 then inN (cd a) lo hi else 0
theorem atF_b (cd : vX) (n9 a : Nat) (lo hi : Int32) : atF cd n9 a lo hi = 0 ∨ atF cd n9 a lo hi = 1 := by
  unfold atF
  split
  · exact inN_b _ _ _
  · exact Or.inl rfl
theorem inN_one {v a b : Int32} : ¬ inN v a b = 0 ↔ a ≤ v ∧ v ≤ b := by
  unfold inN
  constructor
  · intro h
    split at h
    · assumption
    · exact absurd rfl h
  · intro h
    rw [if_pos h]
    decide
theorem inN_zero {v a b : Int32} : inN v a b = 0 ↔ ¬ (a ≤ v ∧ v ≤ b) := by
  unfold inN
  constructor
  · intro h
    split at h
    · exact absurd h (by decide)
    · assumption
  · intro h
    rw [if_neg h]
theorem flI_in (c : Int32) : inN c 48 55 = flI c := by
  unfold inN flI
  by_cases h1 : c < 48
  · rw [if_neg (fun h => absurd h.1 (Int32.not_le.mpr h1)), if_pos h1]
  · by_cases h2 : 55 < c
    · rw [if_neg (fun h => absurd h.2 (Int32.not_le.mpr h2)), if_neg h1, if_pos h2]
    · rw [if_pos ⟨Int32.not_lt.mp h1, Int32.not_lt.mp h2⟩, if_neg h1, if_neg h2]
theorem flI_N {c : Int32} (h : ¬ flI c = 0) : ∃ g, 48 ≤ g ∧ g < 56 ∧ c = nI g := by
  rw [← flI_in, inN_one] at h
  rcases pk_ix c (n := 56) (by decide) with h1 | h1 | ⟨g, hg, e⟩
  · exact absurd (Int32.lt_of_lt_of_le h1 (Int32.le_trans (by decide) h.1)) Int32.lt_irrefl
  · exact absurd (Int32.le_trans h1 h.2) (by decide)
  · refine ⟨g, ?_, hg, e⟩
    have h2 := h.1
    rw [e] at h2
    exact (nI_leI (a := 48) (b := g) (by decide) (by omega)).mp h2
/-- how far a part goes from a on -/
abbrev pok (cd : vX) (n9 i : Nat) : Prop := i < n9 ∧ ¬ ftI cd i = 0
def prE (cd : vX) (n9 a : Nat) : Nat := if pok cd n9 a then (if pok cd n9 (a + 1) then (if pok cd n9 (a + 2) then 3 else 2) else 1) else 0
theorem prE_le (cd : vX) (n9 a : Nat) : prE cd n9 a ≤ 3 := by
  unfold prE
  split
  · split
    · split <;> decide
    · decide
  · decide
theorem pok_0 {cd : vX} {n9 k : Nat} : pok cd n9 (4 * k) ↔ ¬ atF cd n9 (4 * k) 48 55 = 0 := by
  unfold pok atF
  have e : ftI cd (4 * k) = flI (cd (4 * k)) := by
    unfold ftI
    rw [if_pos (by omega)]
  by_cases h : 4 * k < n9
  · rw [if_pos h, e, flI_in]
    exact ⟨fun q => q.2, fun q => ⟨h, q⟩⟩
  · rw [if_neg h]
    exact ⟨fun q => absurd q.1 h, fun q => absurd rfl q⟩
theorem atF_c {cd : vX} {n9 a : Nat} {v : Int32} : ¬ atF cd n9 a v v = 0 ↔ a < n9 ∧ cd a = v := by
  unfold atF
  by_cases h : a < n9
  · rw [if_pos h, inN_one]
    exact ⟨fun q => ⟨h, Int32.le_antisymm q.2 q.1⟩, fun q => by rw [q.2]; exact ⟨Int32.le_refl _, Int32.le_refl _⟩⟩
  · rw [if_neg h]
    exact ⟨fun q => absurd rfl q, fun q => absurd q.1 h⟩
theorem pok_1 {cd : vX} {n9 k : Nat} : pok cd n9 (4 * k + 1) ↔ (¬ atF cd n9 (4 * k + 1) 62 62 = 0 ∧ cd (4 * k) < 55) ∨ (¬ atF cd n9 (4 * k + 1) 60 60 = 0 ∧ 48 < cd (4 * k)) := by
  rw [atF_c, atF_c]
  unfold pok
  have e : ftI cd (4 * k + 1) = if (cd (4 * k + 1) = 62 ∧ cd (4 * k) < 55) ∨ (cd (4 * k + 1) = 60 ∧ 48 < cd (4 * k)) then 1 else 0 := by
    unfold ftI
    rw [if_neg (by omega), if_pos (by omega)]
    rfl
  rw [e]
  constructor
  · rintro ⟨h1, h2⟩
    split at h2
    · rename_i h3
      rcases h3 with h3 | h3
      · exact Or.inl ⟨⟨h1, h3.1⟩, h3.2⟩
      · exact Or.inr ⟨⟨h1, h3.1⟩, h3.2⟩
    · exact absurd rfl h2
  · intro h
    refine ⟨h.elim (fun q => q.1.1) (fun q => q.1.1), ?_⟩
    rw [if_pos (h.imp (fun q => ⟨q.1.2, q.2⟩) (fun q => ⟨q.1.2, q.2⟩))]
    decide
theorem ftI_2 {cd : vX} {k : Nat} : ¬ ftI cd (4 * k + 2) = 0 ↔ ¬ flI (cd (4 * k + 2)) = 0 ∧ ¬ fsI (cd (4 * k)) (cd (4 * k + 1)) (cd (4 * k + 2)) = 0 := by
  unfold ftI
  rw [if_neg (by omega), if_neg (by omega), if_pos (by omega)]
  by_cases h1 : flI (cd (4 * k + 2)) = 0
  · rw [if_pos h1]
    exact ⟨fun q => absurd rfl q, fun q => absurd h1 q.1⟩
  · rw [if_neg h1]
    show ¬ (if fsI (cd (4 * k)) (cd (4 * k + 1)) (cd (4 * k + 2)) = 0 then (0 : Int32) else 1) = 0 ↔ _
    by_cases h2 : fsI (cd (4 * k)) (cd (4 * k + 1)) (cd (4 * k + 2)) = 0
    · rw [if_pos h2]
      exact ⟨fun q => absurd rfl q, fun q => absurd h2 q.2⟩
    · rw [if_neg h2]
      exact ⟨fun _ => ⟨h1, h2⟩, fun _ => by decide⟩
theorem pok_2u {cd : vX} {n9 k g : Nat} (hg : 48 ≤ g) (hg2 : g < 56) (e : cd (4 * k) = nI g) (h62 : cd (4 * k + 1) = 62) : pok cd n9 (4 * k + 2) ↔ ¬ atF cd n9 (4 * k + 2) (nI (g + 1)) 55 = 0 := by
  unfold pok atF
  by_cases h : 4 * k + 2 < n9
  · rw [if_pos h, inN_one, ftI_2, ← flI_in, inN_one, e, h62]
    unfold fsI
    rw [if_pos rfl]
    constructor
    · rintro ⟨_, h1, h2⟩
      refine ⟨?_, h1.2⟩
      obtain ⟨c, hc1, hc2, ec⟩ := flI_N (c := cd (4 * k + 2)) (by rw [← flI_in, inN_one]; exact h1)
      rw [ec] at h2 ⊢
      refine (nI_leI (by omega) (by omega)).mpr ?_
      split at h2
      · exact absurd rfl h2
      · rename_i h3
        have : ¬ c ≤ g := fun q => h3 ((nI_leI (by omega) (by omega)).mpr q)
        omega
    · rintro ⟨h1, h2⟩
      have h48 : 48 ≤ cd (4 * k + 2) := Int32.le_trans ((nI_leI (a := 48) (b := g + 1) (by decide) (by omega)).mpr (by omega)) h1
      refine ⟨h, ⟨h48, h2⟩, ?_⟩
      rw [if_neg (fun q => ?_)]
      · decide
      · have h3 := (nI_leI (a := g + 1) (b := g) (by omega) (by omega)).mp (Int32.le_trans h1 q)
        omega
  · rw [if_neg h]
    exact ⟨fun q => absurd q.1 h, fun q => absurd rfl q⟩
theorem pok_2d {cd : vX} {n9 k g : Nat} (hg : 48 < g) (hg2 : g < 56) (e : cd (4 * k) = nI g) (h60 : cd (4 * k + 1) = 60) : pok cd n9 (4 * k + 2) ↔ ¬ atF cd n9 (4 * k + 2) 48 (nI (g - 1)) = 0 := by
  unfold pok atF
  by_cases h : 4 * k + 2 < n9
  · rw [if_pos h, inN_one, ftI_2, ← flI_in, inN_one, e, h60]
    unfold fsI
    rw [if_neg (show ¬ (60 : Int32) = 62 by decide)]
    constructor
    · rintro ⟨_, h1, h2⟩
      refine ⟨h1.1, ?_⟩
      obtain ⟨c, hc1, hc2, ec⟩ := flI_N (c := cd (4 * k + 2)) (by rw [← flI_in, inN_one]; exact h1)
      rw [ec] at h2 ⊢
      refine (nI_leI (by omega) (by omega)).mpr ?_
      split at h2
      · exact absurd rfl h2
      · rename_i h3
        have : ¬ g ≤ c := fun q => h3 ((nI_leI (by omega) (by omega)).mpr q)
        omega
    · rintro ⟨h1, h2⟩
      have h55 : cd (4 * k + 2) ≤ 55 := Int32.le_trans h2 ((nI_leI (a := g - 1) (b := 55) (by omega) (by decide)).mpr (by omega))
      refine ⟨h, ⟨h1, h55⟩, ?_⟩
      rw [if_neg (fun q => ?_)]
      · decide
      · have h3 := (nI_leI (a := g) (b := g - 1) (by omega) (by omega)).mp (Int32.le_trans q h2)
        omega
  · rw [if_neg h]
    exact ⟨fun q => absurd q.1 h, fun q => absurd rfl q⟩
/-- the ints behind a part; the told ones -/
def prY (cd : vX) (n9 a : Nat) (x : vX) : vX := if prE cd n9 a = 3 then upd x 3 (nI (a + 3)) else upd (upd x 3 (nI (a + prE cd n9 a))) 4 (if a + prE cd n9 a < n9 then 1 else 0)
def prZ (cd : vX) (n9 k : Nat) (x : vX) : vX := if prE cd n9 (4 * k) = 3 then upd (upd x (2 * k) (cd (4 * k) - 48)) (2 * k + 1) (cd (4 * k + 2) - 48) else x
theorem prY_n {cd : vX} {n9 a e : Nat} {x : vX} (h : prE cd n9 a = e) (he : ¬ e = 3) : prY cd n9 a x = upd (upd x 3 (nI (a + e))) 4 (if a + e < n9 then 1 else 0) := by
  unfold prY
  rw [h, if_neg he]
theorem prZ_n {cd : vX} {n9 k e : Nat} {x : vX} (h : prE cd n9 (4 * k) = e) (he : ¬ e = 3) : prZ cd n9 k x = x := by
  unfold prZ
  rw [h, if_neg he]
theorem prY_3 {cd : vX} {n9 a : Nat} {x : vX} (h : prE cd n9 a = 3) : prY cd n9 a x = upd x 3 (nI (a + 3)) := if_pos h
theorem prZ_3 {cd : vX} {n9 k : Nat} {x : vX} (h : prE cd n9 (4 * k) = 3) : prZ cd n9 k x = upd (upd x (2 * k) (cd (4 * k) - 48)) (2 * k + 1) (cd (4 * k + 2) - 48) := if_pos h
theorem sv_ui2 {M : sv_M} {p q : Nat} {x : vX} (h : q ≠ p) : sv_u (sv_u M p x) q (M q) = sv_u M p x := by
  have e : sv_u M p x q = M q := sv_un h
  rw [← e, sv_ui]
theorem ite01 {p : Prop} [Decidable p] : (if p then (1 : Int32) else 0) = 0 ∨ (if p then (1 : Int32) else 0) = 1 := by
  by_cases h : p
  · rw [if_pos h]
    exact Or.inr rfl
  · rw [if_neg h]
    exact Or.inl rfl
