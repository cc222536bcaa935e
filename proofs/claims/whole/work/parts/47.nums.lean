/-! the numbers of people rise -/
def nums (x : vX) (c : Nat) : Prop := x 5 = nI c ∧ ∃ v : Nat → Nat, (∀ p, p < many x → x (4 * p + 58) = nI (v p) ∧ v p < c) ∧ ∀ p q, p < q → q < many x → v p < v q
theorem goS_sub {T : Int32} {x : vX} : ∀ k, ∃ σ : Nat → Nat, (∀ j, j < (goS T k x).2 → σ j < k ∧ (goS T k x).1 (4 * j + 58) = x (4 * σ j + 58)) ∧ (∀ i j, i < j → j < (goS T k x).2 → σ i < σ j) ∧ ∀ q, k ≤ q → (goS T k x).1 (4 * q + 58) = x (4 * q + 58)
  | 0 => ⟨fun j => j, fun j hj => absurd hj (Nat.not_lt_zero _), fun i j _ hj => absurd hj (Nat.not_lt_zero _), fun q _ => rfl⟩
  | k + 1 => by
    obtain ⟨σ, h1, h2, h3⟩ := goS_sub (T := T) (x := x) k
    have hle := goS_le T x k
    have e : goS T (k + 1) x = goB T k (goS T k x) := rfl
    rw [e]
    generalize goS T k x = A at h1 h2 h3 hle
    obtain ⟨X, s⟩ := A
    dsimp only at h1 h2 h3 hle
    unfold goB
    dsimp only
    by_cases ht : X (4 * k + 59) = X (4 * k + 60)
    · rw [if_pos ht]
      exact ⟨σ, fun j hj => ⟨by have := (h1 j hj).1; omega, (h1 j hj).2⟩, h2, fun q hq => h3 q (by omega)⟩
    · rw [if_neg ht]
      dsimp only
      refine ⟨fun j => if j = s then k else σ j, fun j hj => ?_, fun i j hij hj => ?_, fun q hq => ?_⟩
      · dsimp only
        by_cases hs : j = s
        · rw [if_pos hs, hs]
          refine ⟨Nat.lt_succ_self k, ?_⟩
          rw [mvv_58, wkv_o (by omega) (by omega)]
          exact h3 k (Nat.le_refl _)
        · rw [if_neg hs]
          have h9 := h1 j (by omega)
          refine ⟨by omega, ?_⟩
          rw [mvv_o (by omega), wkv_o (by omega) (by omega)]
          exact h9.2
      · dsimp only
        have hi : ¬ i = s := by omega
        rw [if_neg hi]
        by_cases hs : j = s
        · rw [if_pos hs]
          exact (h1 i (by omega)).1
        · rw [if_neg hs]
          exact h2 i j hij (by omega)
      · rw [mvv_o (by omega), wkv_o (by omega) (by omega)]
        exact h3 q (by omega)
theorem nums_sec {x : vX} {c : Nat} (h : vd x) (hn : nums x c) : nums (secv x) c := by
  obtain ⟨h5, v, hv, hr⟩ := hn
  obtain ⟨m1, m2⟩ := sec_many h
  obtain ⟨σ, s1, s2, s3⟩ := goS_sub (T := x 3) (x := x) (many x)
  refine ⟨(sec_lo h (by decide) (by decide)).trans h5, fun p => v (σ p), fun p hp => ?_, fun p q hpq hq => ?_⟩
  · rw [m1] at hp
    have e1 := sec_row h hp 0 (by decide)
    rw [m2] at hp
    have e2 := s1 p hp
    have e3 := hv (σ p) e2.1
    exact ⟨e1.trans (e2.2.trans e3.1), e3.2⟩
  · rw [m1, m2] at hq
    exact hr _ _ (s2 p q hpq hq) (s1 q hq).1
theorem nums_pass {x : vX} {c : Nat} (h : vd x) (hn : nums x c) : ∀ n, nums (passv n x) c
  | 0 => hn
  | n + 1 => nums_sec (vd_pass h n) (nums_pass h hn n)
