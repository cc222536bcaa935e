/-! nobody's way takes longer than 421 seconds -/
def dst (a b : Nat) : Nat := (a - b) + (b - a)
def pot (w : Nat) (x : vX) (p n : Nat) : Prop := x (4 * p + 59) = x (4 * p + 60) ∨ ∃ a b t, a < 8 ∧ b < 8 ∧ a ≠ b ∧ x (4 * p + 59) = nI a ∧ x (4 * p + 60) = nI b ∧ 1 ≤ t ∧ t ≤ 60 ∧ x (4 * p + 61) = nI t ∧ t + w * (dst a b - 1) ≤ n
theorem pot_of {w n : Nat} {x y : vX} {p q : Nat} (h : pot w x p n) (e : rowq y x q p) : pot w y q n := by
  have e1 : y (4 * q + 59) = x (4 * p + 59) := e 1 (by decide)
  have e2 : y (4 * q + 60) = x (4 * p + 60) := e 2 (by decide)
  have e3 : y (4 * q + 61) = x (4 * p + 61) := e 3 (by decide)
  unfold pot
  rw [e1, e2, e3]
  exact h
theorem pot_wk {w n : Nat} {x : vX} {p : Nat} (h1 : 1 ≤ w) (h2 : w ≤ 60) (h : pot w x p (n + 1)) (hne : ¬ x (4 * p + 59) = x (4 * p + 60)) : pot w (wkv (nI w) p x) p n := by
  obtain ⟨a, b, t, ha, hb, hab, ea, eb, t1, t2, et, hn⟩ := h.resolve_left hne
  obtain ⟨u, rfl⟩ : ∃ u, t = u + 1 := ⟨t - 1, by omega⟩
  have c1 : x (4 * p + 61) + (-1) = nI u := by rw [et]; exact pk_m1 u
  unfold wkv
  rw [c1]
  by_cases hu : u = 0
  · rw [if_pos (by rw [hu]; decide), ea, eb]
    have hmv : ∃ a', a' < 8 ∧ (nI a + if nI b ≤ nI a then (-1) else 1) = nI a' ∧ dst a' b + 1 = dst a b := by
      by_cases hle : b ≤ a
      · rw [if_pos ((nI_leI (by omega) (by omega)).mpr hle)]
        obtain ⟨c, rfl⟩ : ∃ c, a = c + 1 := ⟨a - 1, by omega⟩
        exact ⟨c, by omega, pk_m1 c, by unfold dst; omega⟩
      · rw [if_neg (fun q => hle ((nI_leI (by omega) (by omega)).mp q))]
        exact ⟨a + 1, by omega, nI_1 a, by unfold dst; omega⟩
    obtain ⟨a', ha', ea', hd⟩ := hmv
    rw [ea']
    unfold pot
    rw [upd_n (by omega), upd_s, upd_n (by omega), upd_n (by omega), upd_n (by omega), upd_s, eb]
    by_cases h9 : nI a' = nI b
    · exact Or.inl h9
    · rw [if_neg h9]
      have hab' : a' ≠ b := fun q => h9 (by rw [q])
      refine Or.inr ⟨a', b, w, ha', hb, hab', rfl, rfl, h1, h2, rfl, ?_⟩
      have hd2 : dst a b - 1 = (dst a' b - 1) + 1 := by
        have : 1 ≤ dst a' b := by unfold dst; omega
        omega
      rw [hd2, Nat.mul_add, Nat.mul_one] at hn
      omega
  · rw [if_neg (nI_nle (by omega) (by omega))]
    unfold pot
    rw [upd_n (by omega), upd_n (by omega), upd_s]
    exact Or.inr ⟨a, b, u, ha, hb, hab, ea, eb, by omega, by omega, rfl, by omega⟩
theorem goS_pot {w n : Nat} {x : vX} {m : Nat} (h1 : 1 ≤ w) (h2 : w ≤ 60) (hv : ∀ p, p < m → pot w x p (n + 1)) : ∀ k, k ≤ m → (∀ q, q < m → k ≤ q → pot w (goS (nI w) k x).1 q (n + 1)) ∧ ∀ q, q < (goS (nI w) k x).2 → pot w (goS (nI w) k x).1 q n
  | 0, _ => ⟨fun q hq _ => hv q hq, fun q hq => absurd hq (Nat.not_lt_zero _)⟩
  | k + 1, hk => by
    obtain ⟨i1, i2⟩ := goS_pot h1 h2 hv k (by omega)
    have hle := goS_le (nI w) x k
    have e : goS (nI w) (k + 1) x = goB (nI w) k (goS (nI w) k x) := rfl
    rw [e]
    unfold goB
    by_cases ht : (goS (nI w) k x).1 (4 * k + 59) = (goS (nI w) k x).1 (4 * k + 60)
    · rw [if_pos ht]
      exact ⟨fun q hq hc => i1 q hq (by omega), i2⟩
    · rw [if_neg ht]
      dsimp only
      refine ⟨fun q hq hc => pot_of (i1 q hq (by omega)) (rowq_r (mvv_rowo (by omega)) (wkv_rowo (by omega))), fun q hq => ?_⟩
      by_cases hs : q = (goS (nI w) k x).2
      · rw [hs]
        exact pot_of (pot_wk h1 h2 (i1 k (by omega) (Nat.le_refl _)) ht) mvv_row
      · exact pot_of (i2 q (by omega)) (rowq_r (mvv_rowo hs) (wkv_rowo (by omega)))
