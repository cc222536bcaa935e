/-! numbers rise -/
def nums (x : vX) (c : Nat) : Prop := x 5 = nI c ∧ ∃ v : Nat → Nat, (∀ p, p < many x → x (4 * p + 58) = nI (v p) ∧ v p < c) ∧ ∀ p q, p < q → q < many x → v p < v q
theorem goS_sub {T : Int32} {x : vX} : ∀ k, ∃ σ : Nat → Nat, (∀ j, j < (goS T k x).2 → σ j < k ∧ (goS T k x).1 (4 * j + 58) = x (4 * σ j + 58)) ∧ (∀ i j, i < j → j < (goS T k x).2 → σ i < σ j) ∧ ∀ q, k ≤ q → (goS T k x).1 (4 * q + 58) = x (4 * q + 58)
  | 0 => ⟨fun j => j, fun j hj => absurd hj (Nat.not_lt_zero _), fun i j _ hj => absurd hj (Nat.not_lt_zero _), fun q _ => rfl⟩
  | k + 1 => by
    obtain ⟨σ, h1, h2, h3⟩ := goS_sub (T := T) (x := x) k
    have hle := goS_le T x k
    have e : goS T (k + 1) x = goB T k (goS T k x) := rfl
    rw [e]
    generalize goS T k x = A at h1 h2 h3 hle
    obtain ⟨X, s⟩ := A
    dsimp only at h1 h2 h3 hle
    unfold goB
    dsimp only
    by_cases ht : X (4 * k + 59) = X (4 * k + 60)
    · rw [if_pos ht]
      exact ⟨σ, fun j hj => ⟨by have := (h1 j hj).1; omega, (h1 j hj).2⟩, h2, fun q hq => h3 q (by omega)⟩
    · rw [if_neg ht]
      dsimp only
      refine ⟨fun j => if j = s then k else σ j, fun j hj => ?_, fun i j hij hj => ?_, fun q hq => ?_⟩
      · dsimp only
        by_cases hs : j = s
        · rw [if_pos hs, hs]
          refine ⟨Nat.lt_succ_self k, ?_⟩
          rw [mvv_58, wkv_o (by omega) (by omega)]
          exact h3 k (Nat.le_refl _)
        · rw [if_neg hs]
          have h9 := h1 j (by omega)
          refine ⟨by omega, ?_⟩
          rw [mvv_o (by omega), wkv_o (by omega) (by omega)]
          exact h9.2
      · dsimp only
        have hi : ¬ i = s := by omega
        rw [if_neg hi]
        by_cases hs : j = s
        · rw [if_pos hs]
          exact (h1 i (by omega)).1
        · rw [if_neg hs]
          exact h2 i j hij (by omega)
      · rw [mvv_o (by omega), wkv_o (by omega) (by omega)]
        exact h3 q (by omega)
theorem nums_sec {x : vX} {c : Nat} (h : vd x) (hn : nums x c) : nums (secv x) c := by
  obtain ⟨h5, v, hv, hr⟩ := hn
  obtain ⟨m1, m2⟩ := sec_many h
  obtain ⟨σ, s1, s2, s3⟩ := goS_sub (T := x 3) (x := x) (many x)
  refine ⟨(sec_lo h (by decide) (by decide)).trans h5, fun p => v (σ p), fun p hp => ?_, fun p q hpq hq => ?_⟩
  · rw [m1] at hp
    have e1 := sec_row h hp 0 (by decide)
    rw [m2] at hp
    have e2 := s1 p hp
    have e3 := hv (σ p) e2.1
    exact ⟨e1.trans (e2.2.trans e3.1), e3.2⟩
  · rw [m1, m2] at hq
    exact hr _ _ (s2 p q hpq hq) (s1 q hq).1
theorem nums_pass {x : vX} {c : Nat} (h : vd x) (hn : nums x c) : ∀ n, nums (passv n x) c
  | 0 => hn
  | n + 1 => nums_sec (vd_pass h n) (nums_pass h hn n)
theorem nums_of {x x' : vX} {c : Nat} (hn : nums x c) (h5 : x' 5 = x 5) (hm : many x' = many x) (hr : ∀ p, p < many x → x' (4 * p + 58) = x (4 * p + 58)) : nums x' c := by
  obtain ⟨a, v, b1, b2⟩ := hn
  refine ⟨h5.trans a, v, fun p hp => ?_, fun p q hpq hq => ?_⟩
  · rw [hm] at hp
    exact ⟨(hr p hp).trans (b1 p hp).1, (b1 p hp).2⟩
  · rw [hm] at hq
    exact b2 p q hpq hq
theorem nums_lo {x x' : vX} {c : Nat} (hn : nums x c) (hx : ∀ k, (k = 5 ∨ 57 ≤ k) → x' k = x k) : nums x' c :=
  nums_of hn (hx 5 (by omega)) (by unfold many; rw [hx 57 (by omega)]) (fun p hp => hx _ (by omega))
theorem nums_ent {x : vX} {c : Nat} {f t T : Int32} (hn : nums x c) (hm : many x < 7) : nums (entv (many x) f t T x) (c + 1) := by
  obtain ⟨a, v, b1, b2⟩ := hn
  have hme : many (entv (many x) f t T x) = many x + 1 := many_eq entv_57 (by omega)
  refine ⟨?_, fun p => if p < many x then v p else c, fun p hp => ?_, fun p q hpq hq => ?_⟩
  · show upd _ 5 _ 5 = _
    rw [upd_s, a]
    exact nI_1 c
  · rw [hme] at hp
    dsimp only
    by_cases h1 : p < many x
    · rw [if_pos h1]
      have h2 := b1 p h1
      exact ⟨(entv_row (i := 0) h1 (by decide)).trans h2.1, by omega⟩
    · rw [if_neg h1]
      obtain rfl : p = many x := by omega
      refine ⟨?_, by omega⟩
      unfold entv
      rw [upd_n (by omega), upd_n (by omega), upd_n (by omega), upd_n (by omega), upd_n (by omega), upd_s]
      exact a
  · rw [hme] at hq
    dsimp only
    rw [if_pos (by omega)]
    by_cases h1 : q < many x
    · rw [if_pos h1]
      exact b2 p q hpq h1
    · rw [if_neg h1]
      exact (b1 p (by omega)).2
theorem plF_no {x : vX} {v : Int32} : ∀ t i, i + t < 2147483648 → plF x v t i = (-1) → ∀ p, i ≤ p → p < i + t → ¬ x (4 * p + 58) = v
  | 0, i, _, _ => fun p h1 h2 => by omega
  | t + 1, i, hb, h => by
    unfold plF at h
    split at h
    · exact absurd h (nI_m1 (by omega))
    · rename_i h9
      intro p h1 h2
      by_cases hp : p = i
      · rw [hp]
        exact h9
      · exact plF_no t (i + 1) (by omega) h p (by omega) (by omega)
