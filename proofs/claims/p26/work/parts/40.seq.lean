/-! a second: rows of people, who has how long to go -/
def rowq (X Y : vX) (a b : Nat) : Prop := ∀ i, i < 4 → X (4 * a + 58 + i) = Y (4 * b + 58 + i)
theorem rowq_r {X Y Y' : vX} {a b b' : Nat} (h : rowq X Y a b) (h2 : rowq Y Y' b b') : rowq X Y' a b' := fun i hi => (h i hi).trans (h2 i hi)
theorem wkv_rowo {T : Int32} {X : vX} {a j : Nat} (h : j ≠ a) : rowq (wkv T a X) X j j := fun i hi => wkv_o (by omega) (by omega)
theorem mvv_row {X : vX} {p s : Nat} : rowq (mvv p s X) X s p := fun i hi => by
  rcases (show i = 0 ∨ i = 1 ∨ i = 2 ∨ i = 3 by omega) with rfl | rfl | rfl | rfl
  · exact mvv_58
  · exact mvv_59
  · exact mvv_60
  · exact mvv_61
theorem mvv_rowo {X : vX} {p s j : Nat} (h : j ≠ s) : rowq (mvv p s X) X j j := fun i hi => mvv_o (by omega)
theorem sec_row {x : vX} (h : vd x) {p : Nat} (hp : p < many (begx x)) : rowq (secv x) (goS (x 3) (many x) x).1 p p := fun i hi => by
  have hmid := vd_mid h
  have hv : vfl (many (begx x)) (begx x) := vfl_of hmid.2.2.2.2
  exact (endv_o hv (Or.inr (by omega))).trans (beginv_hi (by omega))
theorem sec_many {x : vX} (h : vd x) : many (secv x) = many (begx x) ∧ many (begx x) = (goS (x 3) (many x) x).2 := by
  have hmid := vd_mid h
  have hv : vfl (many (begx x)) (begx x) := vfl_of hmid.2.2.2.2
  have hle := goS_le (x 3) x (many x)
  have hd := vd_many h
  constructor
  · unfold many
    rw [show secv x 57 = begx x 57 from endv_o hv (Or.inr (by decide))]
  · exact many_eq beginv_57 (by omega)
theorem sec_lo {x : vX} (h : vd x) {k : Nat} (hk : k < 8) (h4 : k ≠ 4) : secv x k = x k := by
  have hmid := vd_mid h
  exact (endv_o (vfl_of hmid.2.2.2.2) (Or.inl ⟨hk, h4⟩)).trans (beginv_lo (by omega))
theorem many_sec_le {x : vX} (h : vd x) : many (secv x) ≤ many x := by
  obtain ⟨m1, m2⟩ := sec_many h
  rw [m1, m2]
  exact goS_le _ _ _
theorem many_pass_le {x : vX} (h : vd x) : ∀ n, many (passv n x) ≤ many x
  | 0 => Nat.le_refl _
  | n + 1 => Nat.le_trans (many_sec_le (vd_pass h n)) (many_pass_le h n)
def tim (T : Int32) : Prop := ∃ t, 1 ≤ t ∧ t ≤ 60 ∧ T = nI t
/-- who is there has no second to go, another one has one at least -/
def lfz (x : vX) (p : Nat) : Prop := (x (4 * p + 59) = x (4 * p + 60) ∧ x (4 * p + 61) = nI 0) ∨ (¬ x (4 * p + 59) = x (4 * p + 60) ∧ ∃ t, 1 ≤ t ∧ t ≤ 60 ∧ x (4 * p + 61) = nI t)
theorem lfz_of {x y : vX} {p q : Nat} (h : lfz x p) (e : rowq y x q p) : lfz y q := by
  have e1 : y (4 * q + 59) = x (4 * p + 59) := e 1 (by decide)
  have e2 : y (4 * q + 60) = x (4 * p + 60) := e 2 (by decide)
  have e3 : y (4 * q + 61) = x (4 * p + 61) := e 3 (by decide)
  unfold lfz
  rw [e1, e2, e3]
  exact h
theorem lfz_wk {T : Int32} {x : vX} {p : Nat} (hT : tim T) (h : lfz x p) (hne : ¬ x (4 * p + 59) = x (4 * p + 60)) : lfz (wkv T p x) p := by
  obtain ⟨_, t, t1, t2, et⟩ := h.resolve_left (fun q => hne q.1)
  obtain ⟨u, rfl⟩ : ∃ u, t = u + 1 := ⟨t - 1, by omega⟩
  have c1 : x (4 * p + 61) + (-1) = nI u := by rw [et]; exact pk_m1 u
  unfold wkv
  rw [c1]
  by_cases hu : u = 0
  · rw [if_pos (by rw [hu]; decide)]
    unfold lfz
    rw [upd_n (by omega), upd_s, upd_n (by omega), upd_n (by omega), upd_n (by omega), upd_s]
    by_cases h9 : x (4 * p + 59) + (if x (4 * p + 60) ≤ x (4 * p + 59) then (-1) else 1) = x (4 * p + 60)
    · rw [if_pos h9]
      exact Or.inl ⟨h9, rfl⟩
    · rw [if_neg h9]
      exact Or.inr ⟨h9, hT⟩
  · rw [if_neg (nI_nle (by omega) (by omega))]
    unfold lfz
    rw [upd_n (by omega), upd_n (by omega), upd_s]
    exact Or.inr ⟨hne, u, by omega, by omega, rfl⟩
theorem goS_lfz {T : Int32} {x : vX} {m : Nat} (hT : tim T) (hv : ∀ p, p < m → lfz x p) : ∀ n, n ≤ m → ∀ q, q < m → (q < (goS T n x).2 ∨ n ≤ q) → lfz (goS T n x).1 q
  | 0, _ => fun q hq _ => hv q hq
  | n + 1, hn => by
    intro q hq hc
    have ih := goS_lfz hT hv n (by omega)
    have hle := goS_le T x n
    have e : goS T (n + 1) x = goB T n (goS T n x) := rfl
    rw [e] at hc ⊢
    unfold goB at hc ⊢
    by_cases ht : (goS T n x).1 (4 * n + 59) = (goS T n x).1 (4 * n + 60)
    · rw [if_pos ht] at hc ⊢
      exact ih q hq (by omega)
    · rw [if_neg ht] at hc ⊢
      dsimp only at hc ⊢
      by_cases hs : q = (goS T n x).2
      · rw [hs]
        exact lfz_of (lfz_wk hT (ih n (by omega) (Or.inr (Nat.le_refl _))) ht) mvv_row
      · have hq2 : q < (goS T n x).2 ∨ n < q := by omega
        exact lfz_of (ih q hq (by omega)) (rowq_r (mvv_rowo hs) (wkv_rowo (by omega)))
theorem lfz_sec {x : vX} (h : vd x) (hT : tim (x 3)) (hl : ∀ p, p < many x → lfz x p) : ∀ p, p < many (secv x) → lfz (secv x) p := fun p hp => by
  obtain ⟨m1, m2⟩ := sec_many h
  have hle := goS_le (x 3) x (many x)
  rw [m1] at hp
  have hp2 := hp
  rw [m2] at hp2
  exact lfz_of (goS_lfz hT hl (many x) (Nat.le_refl _) p (by omega) (Or.inl hp2)) (sec_row h hp)
