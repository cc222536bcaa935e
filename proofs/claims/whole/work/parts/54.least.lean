/-! the least time: halving and trying each tell the same -/
theorem bsS_ok {D : Nat → Int32} {d : Nat → Nat} (hD : ∀ T, 1 ≤ T → T ≤ 200 → D T = nI (d T) ∧ d T ≤ 420) (hm : ∀ T T2, 1 ≤ T → T ≤ T2 → T2 ≤ 200 → d T2 ≤ d T) : ∀ n, ((bsS D (D 200) n).2 - (bsS D (D 200) n).1 ≤ 199 - n) ∧ d (bsS D (D 200) n).2 = d 200 ∧ ∀ T, 1 ≤ T → T < (bsS D (D 200) n).1 → d 200 < d T
  | 0 => ⟨Nat.le_refl _, rfl, fun T h1 h2 => absurd h2 (by show ¬ T < 1; omega)⟩
  | n + 1 => by
    obtain ⟨h1, h2, h3⟩ := bsS_ok hD hm n
    obtain ⟨i1, i2, i3⟩ := bsS_in D (D 200) n
    show (bst D (D 200) (bsS D (D 200) n)).2 - (bst D (D 200) (bsS D (D 200) n)).1 ≤ 199 - (n + 1) ∧ d (bst D (D 200) (bsS D (D 200) n)).2 = d 200 ∧ ∀ T, 1 ≤ T → T < (bst D (D 200) (bsS D (D 200) n)).1 → d 200 < d T
    generalize bsS D (D 200) n = s at h1 h2 h3 i1 i2 i3
    obtain ⟨a, b⟩ := s
    dsimp only at h1 h2 h3 i1 i2 i3
    unfold bst
    dsimp only
    by_cases hlt : a < b
    · rw [if_pos hlt]
      by_cases he : D ((a + b) / 2) = D 200
      · rw [if_pos he]
        refine ⟨by dsimp only; omega, ?_, h3⟩
        rw [(hD _ (by omega) (by omega)).1, (hD 200 (by omega) (by omega)).1] at he
        show d ((a + b) / 2) = d 200
        exact nI_inj (by have := (hD ((a + b) / 2) (by omega) (by omega)).2; omega) (by have := (hD 200 (by omega) (by omega)).2; omega) he
      · rw [if_neg he]
        refine ⟨by dsimp only; omega, h2, fun T t1 t2 => ?_⟩
        dsimp only at t2
        have g1 := hm T ((a + b) / 2) t1 (by omega) (by omega)
        have g2 := hm ((a + b) / 2) 200 (by omega) (by omega) (by omega)
        have g3 : d ((a + b) / 2) ≠ d 200 := fun q => he (by rw [(hD _ (by omega) (by omega)).1, (hD 200 (by omega) (by omega)).1, q])
        omega
    · rw [if_neg hlt]
      exact ⟨by dsimp only; omega, h2, h3⟩
theorem lsN_ok {D : Nat → Int32} {d : Nat → Nat} (hD : ∀ T, 1 ≤ T → T ≤ 200 → D T = nI (d T) ∧ d T ≤ 420) : ∀ n, n ≤ 199 → 1 ≤ (lsN D n).1 ∧ (lsN D n).1 ≤ n + 1 ∧ (lsN D n).2 = nI (d (lsN D n).1) ∧ (∀ T, 1 ≤ T → T ≤ n + 1 → d (lsN D n).1 ≤ d T) ∧ ∀ T, 1 ≤ T → T < (lsN D n).1 → d (lsN D n).1 < d T
  | 0, _ => ⟨Nat.le_refl _, Nat.le_refl _, (hD 1 (by omega) (by omega)).1, fun T h1 h2 => by
      show d 1 ≤ d T
      rw [show T = 1 by omega]
      exact Nat.le_refl _, fun T h1 h2 => absurd h2 (by show ¬ T < 1; omega)⟩
  | n + 1, hn => by
    obtain ⟨h1, h2, h3, h4, h5⟩ := lsN_ok hD n (by omega)
    have hd := hD (n + 2) (by omega) (by omega)
    have hd2 := hD (lsN D n).1 h1 (by omega)
    have e : lsN D (n + 1) = if 0 < (lsN D n).2 then (if D (n + 2) < (lsN D n).2 then (n + 2, D (n + 2)) else lsN D n) else lsN D n := rfl
    rw [e]
    generalize lsN D n = s at h1 h2 h3 h4 h5 hd2
    obtain ⟨a, v⟩ := s
    dsimp only at h1 h2 h3 h4 h5 hd2 ⊢
    by_cases hz : 0 < v
    · rw [if_pos hz]
      by_cases hlt : D (n + 2) < v
      · rw [if_pos hlt]
        dsimp only
        rw [hd.1, h3] at hlt
        have g := (nI_ltI (by omega) (by omega)).mp hlt
        refine ⟨by omega, by omega, hd.1, fun T t1 t2 => ?_, fun T t1 t2 => ?_⟩
        · rcases Nat.lt_or_ge T (n + 2) with q | q
          · have := h4 T t1 (by omega)
            omega
          · rw [show T = n + 2 by omega]
            exact Nat.le_refl _
        · have := h4 T t1 (by omega)
          omega
      · rw [if_neg hlt]
        dsimp only
        rw [hd.1, h3] at hlt
        have g : ¬ d (n + 2) < d a := fun q => hlt ((nI_ltI (by omega) (by omega)).mpr q)
        refine ⟨h1, by omega, h3, fun T t1 t2 => ?_, h5⟩
        rcases Nat.lt_or_ge T (n + 2) with q | q
        · exact h4 T t1 (by omega)
        · rw [show T = n + 2 by omega]
          omega
    · rw [if_neg hz]
      dsimp only
      have g : d a = 0 := by
        rcases Nat.eq_zero_or_pos (d a) with q | q
        · exact q
        · refine absurd ?_ hz
          rw [h3]
          exact (nI_ltI (a := 0) (b := d a) (by omega) (by omega)).mpr q
      exact ⟨h1, by omega, h3, fun T t1 t2 => by omega, h5⟩
theorem bs_ls {D : Nat → Int32} {d : Nat → Nat} (hD : ∀ T, 1 ≤ T → T ≤ 200 → D T = nI (d T) ∧ d T ≤ 420) (hm : ∀ T T2, 1 ≤ T → T ≤ T2 → T2 ≤ 200 → d T2 ≤ d T) : (bsS D (D 200) 200).1 = (lsN D 199).1 := by
  obtain ⟨a1, a2, a3⟩ := bsS_ok hD hm 200
  obtain ⟨i1, i2, i3⟩ := bsS_in D (D 200) 200
  obtain ⟨b1, b2, b3, b4, b5⟩ := lsN_ok hD 199 (Nat.le_refl _)
  have e : (bsS D (D 200) 200).2 = (bsS D (D 200) 200).1 := by omega
  rw [e] at a2
  generalize (bsS D (D 200) 200).1 = u at a1 a2 a3 i1 i2 i3
  generalize (lsN D 199).1 = w at b1 b2 b3 b4 b5
  have c1 := b4 200 (by omega) (by omega)
  have c2 := hm w 200 b1 (by omega) (by omega)
  have c3 := b4 u i1 (by omega)
  rcases Nat.lt_trichotomy u w with q | q | q
  · have := b5 u i1 q
    omega
  · exact q
  · have := a3 w b1 q
    omega
theorem lbt_ls {x y : vX} {f t : Nat} (h : rel x y) (hn : nng x) (hm : many x ≤ 6) (hf : f < 8) (ht : t < 8) : lbt (nI f) (nI t) x = (lsN (fun T => dkw (nI f) (nI t) (nI T) x) 199).1 := by
  have hD : ∀ T, T < 2147483648 → dkw (nI f) (nI t) (nI T) x = nI (dkw (nI f) (nI t) (nI T) x).toNatClampNeg ∧ (dkw (nI f) (nI t) (nI T) x).toNatClampNeg ≤ 420 := fun T hT => by
    obtain ⟨a, b, e1, e2, h1, h2⟩ := dkw_mono h hn hm hf ht (Nat.le_refl T) hT
    rw [e1, nI_clamp (by omega)]
    exact ⟨rfl, h2⟩
  refine bs_ls (D := fun T => dkw (nI f) (nI t) (nI T) x) (d := fun T => (dkw (nI f) (nI t) (nI T) x).toNatClampNeg) (fun T _ h2 => hD T (by omega)) (fun T T2 h1 h2 h3 => ?_)
  obtain ⟨a, b, e1, e2, g1, g2⟩ := dkw_mono h hn hm hf ht h2 (by omega)
  rw [e1, e2, nI_clamp (by omega), nI_clamp (by omega)]
  exact g1
