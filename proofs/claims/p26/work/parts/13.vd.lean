/-! what holds of stairs at every time: people on floors, going to floors; a second keeps it -/
def vrow (x : vX) (p : Nat) : Prop := (∃ f, f < 8 ∧ x (4 * p + 59) = nI f) ∧ ∃ g, g < 8 ∧ x (4 * p + 60) = nI g
def vd (x : vX) : Prop := ∃ m, m ≤ 7 ∧ x 57 = nI m ∧ (x 6 = 0 ∨ x 6 = 1) ∧ (x 7 = 0 ∨ x 7 = 1) ∧ ∀ p, p < m → vrow x p
def secv (x : vX) : vX := endv (many (beginv (many x) x)) (beginv (many x) x)
def passv (n : Nat) (x : vX) : vX := fo (fun _ => secv) n x
theorem many_eq {x : vX} {m : Nat} (h : x 57 = nI m) (hm : m ≤ 7) : many x = m := by
  unfold many
  rw [h, nI_clamp (by omega)]
theorem vrow_of {x y : vX} {p q : Nat} (h : vrow x p) (h1 : y (4 * q + 59) = x (4 * p + 59)) (h2 : y (4 * q + 60) = x (4 * p + 60)) : vrow y q := by
  unfold vrow
  rw [h1, h2]
  exact h
theorem wkv_row {T : Int32} {p : Nat} {x : vX} (h : vrow x p) (hne : ¬ x (4 * p + 59) = x (4 * p + 60)) : vrow (wkv T p x) p := by
  obtain ⟨⟨f, hf, ef⟩, g, hg, eg⟩ := h
  have e2 : wkv T p x (4 * p + 60) = nI g := by rw [wkv_o (by omega) (by omega), eg]
  refine ⟨?_, g, hg, e2⟩
  unfold wkv
  split
  · rw [upd_n (by omega), upd_s, ef, eg]
    have hfg : f ≠ g := fun e => hne (by rw [ef, eg, e])
    by_cases h3 : nI g ≤ nI f
    · have h4 := (nI_leI (by omega) (by omega)).mp h3
      obtain ⟨f', rfl⟩ : ∃ f', f = f' + 1 := ⟨f - 1, by omega⟩
      exact ⟨f', by omega, by rw [if_pos h3, pk_m1]⟩
    · have h4 : ¬ g ≤ f := fun h => h3 ((nI_leI (by omega) (by omega)).mpr h)
      exact ⟨f + 1, by omega, by rw [if_neg h3, nI_1]⟩
  · exact ⟨f, hf, by rw [upd_n (by omega), ef]⟩
theorem mvv_59 {p s : Nat} {x : vX} : mvv p s x (4 * s + 59) = x (4 * p + 59) := by
  unfold mvv
  rw [upd_n (by omega), upd_n (by omega), upd_s]
theorem mvv_60 {p s : Nat} {x : vX} : mvv p s x (4 * s + 60) = x (4 * p + 60) := by
  unfold mvv
  rw [upd_n (by omega), upd_s]
theorem mvv_58 {p s : Nat} {x : vX} : mvv p s x (4 * s + 58) = x (4 * p + 58) := by
  unfold mvv
  rw [upd_n (by omega), upd_n (by omega), upd_n (by omega), upd_s]
theorem mvv_61 {p s : Nat} {x : vX} : mvv p s x (4 * s + 61) = x (4 * p + 61) := by
  unfold mvv
  rw [upd_s]
theorem goS_vrow {T : Int32} {x : vX} {m : Nat} (hv : ∀ p, p < m → vrow x p) : ∀ n, n ≤ m → ∀ q, q < m → (q < (goS T n x).2 ∨ n ≤ q) → vrow (goS T n x).1 q
  | 0, _ => fun q hq _ => hv q hq
  | n + 1, hn => by
    intro q hq hc
    have ih := goS_vrow (T := T) hv n (by omega)
    have hle := goS_le T x n
    have e : goS T (n + 1) x = goB T n (goS T n x) := rfl
    rw [e] at hc ⊢
    unfold goB at hc ⊢
    by_cases ht : (goS T n x).1 (4 * n + 59) = (goS T n x).1 (4 * n + 60)
    · rw [if_pos ht] at hc ⊢
      exact ih q hq (by omega)
    · rw [if_neg ht] at hc ⊢
      dsimp only at hc ⊢
      by_cases hs : q = (goS T n x).2
      · rw [hs]
        exact vrow_of (wkv_row (T := T) (ih n (by omega) (Or.inr (Nat.le_refl _))) ht) mvv_59 mvv_60
      · have hq2 : q < (goS T n x).2 ∨ n < q := by omega
        refine vrow_of (ih q hq (by omega)) ?_ ?_
        · rw [mvv_o (by omega), wkv_o (by omega) (by omega)]
        · rw [mvv_o (by omega), wkv_o (by omega) (by omega)]
theorem beginv_57 {x : vX} {m : Nat} : beginv m x 57 = nI (goS (x 3) m x).2 := by
  unfold beginv
  rw [fola_o (Or.inr (by decide)) 8 (by decide)]
  exact upd_s _ _ _
theorem beginv_lo {x : vX} {m k : Nat} (h : k < 9) : beginv m x k = x k := by
  unfold beginv goOnv
  rw [fola_o (Or.inl h) 8 (by decide), upd_n (by omega), goS_o _ _ _ (by omega)]
theorem beginv_hi {x : vX} {m k : Nat} (h : 58 ≤ k) : beginv m x k = (goS (x 3) m x).1 k := by
  unfold beginv goOnv
  rw [fola_o (Or.inr (by omega)) 8 (by decide), upd_n (by omega)]
theorem vd_begin {x : vX} {m : Nat} (hm7 : m ≤ 7) (hv : ∀ p, p < m → vrow x p) : ∀ p, p < (goS (x 3) m x).2 → vrow (beginv m x) p := by
  intro p hp
  have hle := goS_le (x 3) x m
  exact vrow_of (goS_vrow (T := x 3) hv m (Nat.le_refl _) p (by omega) (Or.inl hp)) (beginv_hi (by omega)) (beginv_hi (by omega))
theorem vfl_of {x : vX} {m : Nat} (h : ∀ p, p < m → vrow x p) : vfl m x := fun p hp => (h p hp).1
theorem endv_o {x : vX} {m k : Nat} (hv : vfl m x) (h : (k < 8 ∧ k ≠ 4) ∨ 57 ≤ k) : endv m x k = x k := by
  unfold endv
  show upd _ 4 _ k = x k
  rw [upd_n (by omega), fofend_o (by omega) 8 (by decide), focnt_o hv (by omega) m (Nat.le_refl _)]
theorem vd_end {x : vX} {m : Nat} (h : m ≤ 7 ∧ x 57 = nI m ∧ (x 6 = 0 ∨ x 6 = 1) ∧ (x 7 = 0 ∨ x 7 = 1) ∧ ∀ p, p < m → vrow x p) : vd (endv m x) := by
  obtain ⟨h1, h2, h3, h4, h5⟩ := h
  have hv := vfl_of h5
  refine ⟨m, h1, by rw [endv_o hv (by omega)]; exact h2, by rw [endv_o hv (by omega)]; exact h3, by rw [endv_o hv (by omega)]; exact h4, fun p hp => vrow_of (h5 p hp) (endv_o hv (by omega)) (endv_o hv (by omega))⟩
theorem vd_mid {x : vX} (h : vd x) : many (beginv (many x) x) ≤ 7 ∧ beginv (many x) x 57 = nI (many (beginv (many x) x)) ∧ (beginv (many x) x 6 = 0 ∨ beginv (many x) x 6 = 1) ∧ (beginv (many x) x 7 = 0 ∨ beginv (many x) x 7 = 1) ∧ ∀ p, p < many (beginv (many x) x) → vrow (beginv (many x) x) p := by
  obtain ⟨m, h1, h2, h3, h4, h5⟩ := h
  have hm := many_eq h2 h1
  rw [hm]
  have hle := goS_le (x 3) x m
  have h9 : many (beginv m x) = (goS (x 3) m x).2 := many_eq beginv_57 (by omega)
  rw [h9]
  exact ⟨by omega, beginv_57, by rw [beginv_lo (by omega)]; exact h3, by rw [beginv_lo (by omega)]; exact h4, vd_begin h1 h5⟩
theorem vd_sec {x : vX} (h : vd x) : vd (secv x) := vd_end (vd_mid h)
theorem vd_pass {x : vX} (h : vd x) : ∀ n, vd (passv n x)
  | 0 => h
  | n + 1 => vd_sec (vd_pass h n)
theorem vd_many {x : vX} (h : vd x) : x 57 = nI (many x) ∧ many x ≤ 7 ∧ (x 6 = 0 ∨ x 6 = 1) ∧ (x 7 = 0 ∨ x 7 = 1) ∧ vfl (many x) x := by
  obtain ⟨m, h1, h2, h3, h4, h5⟩ := h
  rw [many_eq h2 h1]
  exact ⟨h2, h1, h3, h4, vfl_of h5⟩
def dks (x : vX) : Int32 := smI (fun f => x (6 * f + 11)) 8
def dms (x : vX) : Int32 := smI (fun f => x (6 * f + 12)) 8
def eng (x : vX) : Int32 := smI (fun f => x (6 * f + 13)) 8
def snd8 (x : vX) : Int32 := smI (fun f => x (6 * f + 10)) 8
