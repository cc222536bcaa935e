/-! the first place of a number is the last -/
theorem plF_no {x : vX} {v : Int32} : ∀ t i, i + t < 2147483648 → plF x v t i = (-1) → ∀ p, i ≤ p → p < i + t → ¬ x (4 * p + 58) = v
  | 0, i, _, _ => fun p h1 h2 => by omega
  | t + 1, i, hb, h => by
    unfold plF at h
    split at h
    · exact absurd h (nI_m1 (by omega))
    · rename_i h9
      intro p h1 h2
      by_cases hp : p = i
      · rw [hp]
        exact h9
      · exact plF_no t (i + 1) (by omega) h p (by omega) (by omega)
theorem plL_no {x : vX} {v : Int32} : ∀ n, n < 2147483648 → plL x v n = (-1) → ∀ p, p < n → ¬ x (4 * p + 58) = v
  | 0, _, _ => fun p h => absurd h (Nat.not_lt_zero _)
  | n + 1, hb, h => by
    unfold plL at h
    split at h
    · exact absurd h (nI_m1 (by omega))
    · rename_i h9
      intro p hp
      by_cases he : p = n
      · rw [he]
        exact h9
      · exact plL_no n (by omega) h p (by omega)
theorem nums_uni {x : vX} {c : Nat} (hn : nums x c) (hc : c < 2147483648) {p q : Nat} (hp : p < many x) (hq : q < many x) (e : x (4 * p + 58) = x (4 * q + 58)) : p = q := by
  obtain ⟨_, v, hv, hr⟩ := hn
  obtain ⟨a1, a2⟩ := hv p hp
  obtain ⟨b1, b2⟩ := hv q hq
  have e2 : v p = v q := nI_inj (by omega) (by omega) (a1.symm.trans (e.trans b1))
  rcases Nat.lt_trichotomy p q with h | h | h
  · have := hr p q h hq
    omega
  · exact h
  · have := hr q p h hp
    omega
theorem plF_plL {x : vX} {c : Nat} (hn : nums x c) (hc : c < 2147483648) (hm : many x < 2147483648) (v : Int32) : plF x v (many x) 0 = plL x v (many x) := by
  rcases plF_in (x := x) (v := v) (many x) 0 with h | ⟨g, g1, g2, g3, g4⟩
  · rcases plL_in (x := x) (v := v) (many x) with h2 | ⟨k, k1, k2, k3⟩
    · rw [h, h2]
    · exact absurd k3 (plF_no (many x) 0 (by omega) h k (Nat.zero_le _) (by omega))
  · rcases plL_in (x := x) (v := v) (many x) with h2 | ⟨k, k1, k2, k3⟩
    · exact absurd g4 (plL_no (many x) hm h2 g (by omega))
    · rw [g3, k2, nums_uni hn hc (p := g) (q := k) (by omega) k1 (g4.trans k3.symm)]
