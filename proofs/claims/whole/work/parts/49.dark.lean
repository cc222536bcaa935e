/-! one who is watched: class and reference -/
def has (v : Int32) (x : vX) : Prop := ∃ p, p < many x ∧ x (4 * p + 58) = v
theorem itF_has {x : vX} {v : Int32} : ∀ n, itF x v n = 0 ↔ ¬ ∃ p, p < n ∧ x (4 * p + 58) = v
  | 0 => ⟨fun _ ⟨p, hp, _⟩ => absurd hp (Nat.not_lt_zero _), fun _ => rfl⟩
  | n + 1 => by
    have ih := itF_has (x := x) (v := v) n
    unfold itF
    constructor
    · intro h
      split at h
      · rename_i h1
        split at h
        · exact absurd h (by decide)
        · rename_i h2
          rintro ⟨p, hp, e⟩
          by_cases hpn : p = n
          · exact h2 (by rw [← hpn]; exact e)
          · exact (ih.mp h1) ⟨p, by omega, e⟩
      · exact absurd h (by decide)
    · intro h
      have h1 : itF x v n = 0 := ih.mpr (fun ⟨p, hp, e⟩ => h ⟨p, by omega, e⟩)
      rw [if_pos h1, if_neg (fun e => h ⟨n, Nat.lt_succ_self n, e⟩)]
theorem plF_has {x : vX} {v : Int32} (hm : many x ≤ 7) : plF x v (many x) 0 = (-1) ↔ ¬ has v x := by
  constructor
  · rintro h ⟨p, hp, e⟩
    exact plF_no (many x) 0 (by omega) h p (Nat.zero_le _) (by omega) e
  · intro h
    rcases plF_in (x := x) (v := v) (many x) 0 with h1 | ⟨g, g1, g2, g3, g4⟩
    · exact h1
    · exact absurd ⟨g, by omega, g4⟩ h
theorem sec_has {x : vX} (h : vd x) (v : Int32) : has v (secv x) ↔ has v (begx x) := by
  obtain ⟨m1, m2⟩ := sec_many h
  have hmid := vd_mid h
  have hv : vfl (many (begx x)) (begx x) := vfl_of hmid.2.2.2.2
  unfold has
  rw [m1]
  constructor
  · rintro ⟨p, hp, e⟩
    exact ⟨p, hp, (endv_o hv (Or.inr (by omega))).symm.trans e⟩
  · rintro ⟨p, hp, e⟩
    exact ⟨p, hp, (endv_o hv (Or.inr (by omega))).trans e⟩
theorem plx_has {x : vX} (h : vd x) (v : Int32) : plx v x = (-1) ↔ ¬ has v (secv x) := by
  rw [sec_has h]
  exact plF_has (vd_mid h).1
theorem rel_has {x y : vX} (h : rel x y) (v : Int32) : has v y ↔ has v x := by
  have hm := rel_many h
  unfold has
  rw [hm]
  constructor
  · rintro ⟨p, hp, e⟩
    exact ⟨p, hp, (h.2.2.2 _ (by omega)).trans e⟩
  · rintro ⟨p, hp, e⟩
    exact ⟨p, hp, (h.2.2.2 _ (by omega)).symm.trans e⟩
