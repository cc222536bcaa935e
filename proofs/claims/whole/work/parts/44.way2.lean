theorem sec_row {x : vX} (h : vd x) {p : Nat} (hp : p < many (begx x)) : rowq (secv x) (goS (x 3) (many x) x).1 p p := fun i hi => by
  have hmid := vd_mid h
  have hv : vfl (many (begx x)) (begx x) := vfl_of hmid.2.2.2.2
  exact (endv_o hv (Or.inr (by omega))).trans (beginv_hi (by omega))
theorem sec_many {x : vX} (h : vd x) : many (secv x) = many (begx x) ∧ many (begx x) = (goS (x 3) (many x) x).2 := by
  have hmid := vd_mid h
  have hv : vfl (many (begx x)) (begx x) := vfl_of hmid.2.2.2.2
  have hle := goS_le (x 3) x (many x)
  have hd := vd_many h
  constructor
  · unfold many
    rw [show secv x 57 = begx x 57 from endv_o hv (Or.inr (by decide))]
  · exact many_eq beginv_57 (by omega)
theorem sec_lo {x : vX} (h : vd x) {k : Nat} (hk : k < 8) (h4 : k ≠ 4) : secv x k = x k := by
  have hmid := vd_mid h
  exact (endv_o (vfl_of hmid.2.2.2.2) (Or.inl ⟨hk, h4⟩)).trans (beginv_lo (by omega))
theorem pot_sec {w n : Nat} {x : vX} (h1 : 1 ≤ w) (h2 : w ≤ 60) (h : vd x) (e3 : x 3 = nI w) (hv : ∀ p, p < many x → pot w x p (n + 1)) : ∀ p, p < many (secv x) → pot w (secv x) p n := fun p hp => by
  obtain ⟨m1, m2⟩ := sec_many h
  rw [m1] at hp
  refine pot_of ?_ (sec_row h hp)
  rw [m2, e3] at hp
  rw [e3]
  exact (goS_pot h1 h2 hv (many x) (Nat.le_refl _)).2 p hp
theorem pot_pass {w : Nat} {x : vX} (h1 : 1 ≤ w) (h2 : w ≤ 60) (h : vd x) (e3 : x 3 = nI w) : ∀ k n, (∀ p, p < many x → pot w x p (n + k)) → ∀ p, p < many (passv k x) → pot w (passv k x) p n
  | 0, n, hv => hv
  | k + 1, n, hv => by
    have e9 : passv k x 3 = nI w := by
      have key : ∀ j, passv j x 3 = x 3 := by
        intro j
        induction j with
        | zero => rfl
        | succ j ih =>
          have e : passv (j + 1) x = secv (passv j x) := rfl
          rw [e, sec_lo (vd_pass h j) (show 3 < 8 by decide) (show 3 ≠ 4 by decide)]
          exact ih
      rw [key, e3]
    exact pot_sec h1 h2 (vd_pass h k) e9 (pot_pass h1 h2 h e3 k (n + 1) (fun p hp => by rw [show n + 1 + k = n + (k + 1) by omega]; exact hv p hp))
theorem goS_all {T : Int32} {x : vX} {m : Nat} (hv : ∀ p, p < m → x (4 * p + 59) = x (4 * p + 60)) : ∀ k, k ≤ m → goS T k x = (x, 0)
  | 0, _ => rfl
  | k + 1, hk => by
    have ih := goS_all (T := T) hv k (by omega)
    show goB T k (goS T k x) = _
    rw [ih]
    unfold goB
    exact if_pos (hv k (by omega))
theorem pot_start {w : Nat} {x : vX} {p : Nat} (h1 : 1 ≤ w) (h2 : w ≤ 60) (hl : lft x p) (hr : vrow x p) : pot w x p 420 := by
  by_cases h : x (4 * p + 59) = x (4 * p + 60)
  · exact Or.inl h
  · obtain ⟨t, t1, t2, et⟩ := hl.resolve_left h
    obtain ⟨⟨a, ha, ea⟩, b, hb, eb⟩ := hr
    refine Or.inr ⟨a, b, t, ha, hb, fun q => h (by rw [ea, eb, q]), ea, eb, t1, t2, et, ?_⟩
    have hd : dst a b - 1 ≤ 6 := by unfold dst; omega
    have := Nat.mul_le_mul h2 hd
    omega
/-- after 421 seconds the stairs are empty -/
theorem all_gone {x y : vX} (h : rel x y) : many (passv 421 x) = 0 := by
  obtain ⟨w, w1, w2, e3⟩ := h.2.1
  obtain ⟨m, hm7, h57, _, _, hr⟩ := h.1
  have hme := many_eq h57 hm7
  have hp := pot_pass w1 w2 h.1 e3 420 0 (fun p hp => by
    rw [Nat.zero_add]
    exact pot_start w1 w2 (h.2.2.1 p hp) (hr p (by rw [← hme]; exact hp)))
  have hv := vd_pass h.1 420
  show many (secv (passv 420 x)) = 0
  obtain ⟨m1, m2⟩ := sec_many hv
  rw [m1, m2, goS_all (fun p hp9 => (hp p hp9).resolve_right (fun ⟨_, _, t, _, _, _, _, _, t1, _, _, hn⟩ => by omega)) (many (passv 420 x)) (Nat.le_refl _)]
theorem wt_room {x y : vX} (h : rel x y) : many (wtd x) < 6 ∧ wtF 480 x ≤ 421 := by
  have hg := all_gone h
  have hlo := wtF_lo 480 x
  have hle : wtF 480 x ≤ 421 := by
    rcases Nat.lt_or_ge 421 (wtF 480 x) with h1 | h1
    · have := hlo 421 h1
      omega
    · exact h1
  refine ⟨?_, hle⟩
  rcases wtF_hi 480 x with h1 | h1
  · exact h1
  · omega
