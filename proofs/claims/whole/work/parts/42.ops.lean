/-! what is told of both is the same; what is done to both -/
theorem eqm_sm {m d : Nat} {x y : vX} (hd : d < 6) (h : eqm m x y) : ∀ n, n ≤ 8 → smI (fun f => x (6 * f + (9 + d))) n = smI (fun f => y (6 * f + (9 + d))) n
  | 0, _ => rfl
  | n + 1, hn => by
    show smI _ n + x (6 * n + (9 + d)) = smI _ n + y (6 * n + (9 + d))
    rw [eqm_sm hd h n (by omega), h (6 * n + (9 + d)) (by omega)]
theorem eqm_dks {m : Nat} {x y : vX} (h : eqm m x y) : dks x = dks y := eqm_sm (d := 2) (by decide) h 8 (by decide)
theorem eqm_dms {m : Nat} {x y : vX} (h : eqm m x y) : dms x = dms y := eqm_sm (d := 3) (by decide) h 8 (by decide)
theorem eqm_eng {m : Nat} {x y : vX} (h : eqm m x y) : eng x = eng y := eqm_sm (d := 4) (by decide) h 8 (by decide)
theorem eqm_snd {m : Nat} {x y : vX} (h : eqm m x y) : snd8 x = snd8 y := eqm_sm (d := 1) (by decide) h 8 (by decide)
theorem eqm_lit {m : Nat} {x y : vX} (h : eqm m x y) : ∀ n, n ≤ 8 → litI x n = litI y n
  | 0, _ => rfl
  | n + 1, hn => by
    unfold litI
    rw [eqm_lit h n (by omega), eqm_lamp (by omega) h]
theorem eqm_fnv {m f w : Nat} {x y : vX} (hf : f < 8) (h : eqm m x y) : fnv m x f w = fnv m y f w := by
  unfold fnv
  rw [eqm_lamp hf h, eqm_on h m (Nat.le_refl _), h (6 * f + 9) (by omega), h (6 * f + 10) (by omega), h (6 * f + 11) (by omega), h (6 * f + 12) (by omega), h (6 * f + 13) (by omega), h (6 * f + 14) (by omega)]
theorem eqm_couv {m hd w : Nat} {x y : vX} (h : eqm m x y) : couv x hd w = couv y hd w := by
  unfold couv
  rw [h 4 (by omega), h 57 (by omega), h 5 (by omega), eqm_lit h 8 (by decide), eqm_dks h, eqm_dms h, eqm_eng h, h 6 (by omega), h 7 (by omega), eqm_snd h]
theorem eqm_mm {m : Nat} {x y : vX} (h : eqm m x y) : ∀ n, n ≤ 8 → mm x n = mm y n
  | 0, _ => rfl
  | n + 1, hn => by
    have ih := eqm_mm h n (by omega)
    unfold mm
    rw [ih, h (6 * n + 10) (by omega), h (6 * n + 11) (by omega)]
    rcases mm_cases y n with h1 | ⟨g, hg, h1⟩
    · rw [h1]
      simp
    · rw [h1, nI_clamp (by omega), h (6 * g + 11) (by omega)]
theorem rel_cp {x y z : vX} (h : rel x y) : rel x (cpB 0 0 y 86 z) := by
  have hm := (vd_many h.1).2.1
  exact ⟨h.1, h.2.1, h.2.2.1, fun k hk => by rw [cpB_0 (by omega)]; exact h.2.2.2 k hk⟩
theorem rel_ent {x y : vX} {f t : Nat} (h : rel x y) (hm : many x < 7) (hf : f < 8) (ht : t < 8) : rel (entv (many x) (nI f) (nI t) (x 3) x) (entv (many x) (nI f) (nI t) (y 3) y) := by
  obtain ⟨hv, hT, hl, he⟩ := h
  have e3 : y 3 = x 3 := (he 3 (by omega)).symm
  have hmm : many (entv (many x) (nI f) (nI t) (x 3) x) = many x + 1 := many_eq entv_57 (by omega)
  refine ⟨vd_ent hv hm hf ht, ?_, ?_, ?_⟩
  · rw [entv_lo (by decide) (by decide)]
    exact hT
  · intro p hp
    rw [hmm] at hp
    rcases Nat.lt_or_ge p (many x) with h1 | h1
    · exact lft_of (hl p h1) (fun i hi => entv_row h1 hi)
    · obtain rfl : p = many x := by omega
      unfold lft entv
      rw [upd_n (by omega), upd_n (by omega), upd_n (by omega), upd_n (by omega), upd_s, upd_n (by omega), upd_n (by omega), upd_n (by omega), upd_s, upd_n (by omega), upd_n (by omega), upd_s]
      by_cases h2 : nI f = nI t
      · exact Or.inl h2
      · rw [if_neg h2]
        exact Or.inr hT
  · rw [hmm, e3]
    intro k hk
    unfold entv
    have e5 : x 5 = y 5 := he 5 (by omega)
    rw [e5]
    have key : ∀ (i : Nat) (v : Int32) (X Y : vX), (X k = Y k ∨ k = i) → upd X i v k = upd Y i v k := fun i v X Y hh => by
      by_cases h1 : k = i
      · rw [h1, upd_s, upd_s]
      · rw [upd_n h1, upd_n h1]
        exact hh.resolve_right h1
    rcases Nat.lt_or_ge k (58 + 4 * many x) with h1 | h1
    · exact key _ _ _ _ (Or.inl (key _ _ _ _ (Or.inl (key _ _ _ _ (Or.inl (key _ _ _ _ (Or.inl (key _ _ _ _ (Or.inl (key _ _ _ _ (Or.inl (he k h1))))))))))))
    · rcases (show k = 4 * many x + 58 ∨ k = 4 * many x + 59 ∨ k = 4 * many x + 60 ∨ k = 4 * many x + 61 by omega) with q | q | q | q
      · exact key _ _ _ _ (Or.inl (key _ _ _ _ (Or.inl (key _ _ _ _ (Or.inl (key _ _ _ _ (Or.inl (key _ _ _ _ (Or.inl (key _ _ _ _ (Or.inr q)))))))))))
      · exact key _ _ _ _ (Or.inl (key _ _ _ _ (Or.inl (key _ _ _ _ (Or.inl (key _ _ _ _ (Or.inl (key _ _ _ _ (Or.inr q)))))))))
      · exact key _ _ _ _ (Or.inl (key _ _ _ _ (Or.inl (key _ _ _ _ (Or.inl (key _ _ _ _ (Or.inr q)))))))
      · exact key _ _ _ _ (Or.inl (key _ _ _ _ (Or.inl (key _ _ _ _ (Or.inr q)))))
/-- ints that hold no people and no walk time -/
theorem rel_set {x y : vX} {i : Nat} {v : Int32} (h : rel x y) (hi : i < 57) (h3 : i ≠ 3) (h67 : (i ≠ 6 ∧ i ≠ 7) ∨ v = 0 ∨ v = 1) : rel (upd x i v) (upd y i v) := by
  obtain ⟨hv, hT, hl, he⟩ := h
  have hm : many (upd x i v) = many x := many_upd (by omega)
  refine ⟨?_, by rw [upd_n (by omega)]; exact hT, fun p hp => ?_, by rw [hm]; exact eqm_upd he rfl⟩
  · obtain ⟨m, h1, h57, h6, h7, hr⟩ := hv
    refine ⟨m, h1, by rw [upd_n (by omega)]; exact h57, ?_, ?_, fun p hp => vrow_of (hr p hp) (upd_n (by omega)) (upd_n (by omega))⟩
    · by_cases h8 : i = 6
      · rw [h8, upd_s]
        exact h67.resolve_left (fun q => q.1 h8)
      · rw [upd_n (by omega)]
        exact h6
    · by_cases h8 : i = 7
      · rw [h8, upd_s]
        exact h67.resolve_left (fun q => q.2 h8)
      · rw [upd_n (by omega)]
        exact h7
  · rw [hm] at hp
    exact lft_of (hl p hp) (fun j hj => upd_n (by omega))
