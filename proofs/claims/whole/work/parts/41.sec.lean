/-! a second: class and reference -/
def tim (T : Int32) : Prop := ∃ t, 1 ≤ t ∧ t ≤ 60 ∧ T = nI t
theorem lft_of {x y : vX} {p q : Nat} (h : lft x p) (e : rowq y x q p) : lft y q := by
  have e1 : y (4 * q + 59) = x (4 * p + 59) := e 1 (by decide)
  have e2 : y (4 * q + 60) = x (4 * p + 60) := e 2 (by decide)
  have e3 : y (4 * q + 61) = x (4 * p + 61) := e 3 (by decide)
  unfold lft
  rw [e1, e2, e3]
  exact h
theorem lft_wk {T : Int32} {x : vX} {p : Nat} (hT : tim T) (h : lft x p) (hne : ¬ x (4 * p + 59) = x (4 * p + 60)) : lft (wkv T p x) p := by
  obtain ⟨t, t1, t2, et⟩ := h.resolve_left hne
  obtain ⟨u, rfl⟩ : ∃ u, t = u + 1 := ⟨t - 1, by omega⟩
  have c1 : x (4 * p + 61) + (-1) = nI u := by rw [et]; exact pk_m1 u
  unfold wkv
  rw [c1]
  by_cases hu : u = 0
  · rw [if_pos (by rw [hu]; decide)]
    unfold lft
    rw [upd_n (by omega), upd_s, upd_n (by omega), upd_n (by omega), upd_n (by omega), upd_s]
    by_cases h9 : x (4 * p + 59) + (if x (4 * p + 60) ≤ x (4 * p + 59) then (-1) else 1) = x (4 * p + 60)
    · exact Or.inl h9
    · rw [if_neg h9]
      exact Or.inr hT
  · rw [if_neg (nI_nle (by omega) (by omega))]
    unfold lft
    rw [upd_n (by omega), upd_n (by omega), upd_s]
    exact Or.inr ⟨u, by omega, by omega, rfl⟩
theorem goS_lft {T : Int32} {x : vX} {m : Nat} (hT : tim T) (hv : ∀ p, p < m → lft x p) : ∀ n, n ≤ m → ∀ q, q < m → (q < (goS T n x).2 ∨ n ≤ q) → lft (goS T n x).1 q
  | 0, _ => fun q hq _ => hv q hq
  | n + 1, hn => by
    intro q hq hc
    have ih := goS_lft hT hv n (by omega)
    have hle := goS_le T x n
    have e : goS T (n + 1) x = goB T n (goS T n x) := rfl
    rw [e] at hc ⊢
    unfold goB at hc ⊢
    by_cases ht : (goS T n x).1 (4 * n + 59) = (goS T n x).1 (4 * n + 60)
    · rw [if_pos ht] at hc ⊢
      exact ih q hq (by omega)
    · rw [if_neg ht] at hc ⊢
      dsimp only at hc ⊢
      by_cases hs : q = (goS T n x).2
      · rw [hs]
        exact lft_of (lft_wk hT (ih n (by omega) (Or.inr (Nat.le_refl _))) ht) mvv_row
      · have hq2 : q < (goS T n x).2 ∨ n < q := by omega
        exact lft_of (ih q hq (by omega)) (rowq_r (mvv_rowo hs) (wkv_rowo (by omega)))
/-- class x and reference y, after anything -/
def rel (x y : vX) : Prop := vd x ∧ tim (x 3) ∧ (∀ p, p < many x → lft x p) ∧ eqm (many x) x y
theorem rel_many {x y : vX} (h : rel x y) : many y = many x := by
  unfold many
  rw [h.2.2.2 57 (by omega)]
theorem rel_y {x y : vX} (h : rel x y) : y 57 = nI (many x) := (h.2.2.2 57 (by omega)).symm.trans (vd_many h.1).1
theorem rel_go {x y : vX} (h : rel x y) : (goS (x 3) (many x) x).2 = rwn (many y) y ∧ eqm (rwn (many y) y) (goOnv (x 3) (many x) x) (rwk (many y) y) := by
  have hm := rel_many h
  have hy := rel_y h
  obtain ⟨hv, hT, hl, he⟩ := h
  have h3 : y 3 = x 3 := (he 3 (by omega)).symm
  have hs := sim_go (T := x 3) (x := x) (y := y) (m := many x) h3 hl (fun p hp i hi => (he (4 * p + 58 + i) (by omega)).symm) (many x) (Nat.le_refl _)
  obtain ⟨s1, s2, s3, s4, s5, s6⟩ := hs
  rw [hm]
  have e2 : rwn (many x) y = (goS (x 3) (many x) x).2 := by
    show (rwS (many x) y (many x)).2.2 = _
    rw [s2, Nat.sub_self, Nat.add_zero]
  refine ⟨e2.symm, fun k hk => ?_⟩
  rw [e2] at hk
  rcases (show k < 57 ∨ k = 57 ∨ 58 ≤ k by omega) with h5 | rfl | h5
  · show upd _ 57 _ k = (rwS (many x) y (many x)).1 k
    rw [upd_n (by omega), goS_o _ _ _ (by omega), rwS_o h5, he k (by omega)]
  · show upd _ 57 _ 57 = _
    rw [upd_s, (rwk_57 hy).1, e2]
  · show upd _ 57 _ k = (rwS (many x) y (many x)).1 k
    rw [upd_n (by omega)]
    have h9 := s4 ((k - 58) / 4) (by omega) ((k - 58) % 4) (by omega)
    rw [show 4 * ((k - 58) / 4) + 58 + (k - 58) % 4 = k by omega] at h9
    exact h9
theorem rel_beg {x y : vX} (h : rel x y) : many (begx x) = rwn (many y) y ∧ eqm (rwn (many y) y) (begx x) (rbg (many y) y) := by
  have hd := vd_many h.1
  obtain ⟨g1, g2⟩ := rel_go h
  have hle := goS_le (x 3) x (many x)
  constructor
  · show many (beginv (many x) x) = _
    rw [many_eq beginv_57 (by omega), g1]
  · show eqm _ (fo (la (goS (x 3) (many x) x).2) 8 (goOnv (x 3) (many x) x)) (fo (la (rwn (many y) y)) 8 (rwk (many y) y))
    rw [g1]
    exact eqm_fo (N := 8) (fun i hi x y h => eqm_la hi h) g2 8 (Nat.le_refl _)
theorem rel_sec {x y : vX} (h : rel x y) : rel (secv x) (rsc y) ∧ rgd y := by
  have hd := vd_many h.1
  have hm := rel_many h
  obtain ⟨g1, g2⟩ := rel_beg h
  have hmid := vd_mid h.1
  have hv : vfl (many (begx x)) (begx x) := vfl_of hmid.2.2.2.2
  have hv2 : vfl (rwn (many y) y) (rbg (many y) y) := fun p hp => by
    obtain ⟨f, hf, ef⟩ := hv p (by rw [g1]; exact hp)
    exact ⟨f, hf, by rw [← g2 (4 * p + 59) (by omega)]; exact ef⟩
  have he : eqm (rwn (many y) y) (secv x) (rsc y) := by
    show eqm _ (endv (many (begx x)) (begx x)) (endv (rwn (many y) y) (rbg (many y) y))
    rw [g1] at hv ⊢
    exact eqm_end hv g2
  have hs57 : secv x 57 = begx x 57 := endv_o hv (Or.inr (by decide))
  have hsm : many (secv x) = rwn (many y) y := by
    rw [← g1]
    unfold many
    rw [hs57]
  refine ⟨⟨vd_sec h.1, ?_, ?_, ?_⟩, ?_, ?_, ?_, hv2⟩
  · have e3 : secv x 3 = x 3 := (endv_o hv (Or.inl (by decide))).trans (beginv_lo (by decide))
    rw [e3]
    exact h.2.1
  · intro p hp
    rw [hsm, ← g1] at hp
    have hle := goS_le (x 3) x (many x)
    have hp2 : p < (goS (x 3) (many x) x).2 := by rw [(rel_go h).1, ← g1]; exact hp
    refine lft_of (goS_lft (T := x 3) h.2.1 h.2.2.1 (many x) (Nat.le_refl _) p (by omega) (Or.inl hp2)) (fun i hi => ?_)
    exact (endv_o hv (Or.inr (by omega))).trans (beginv_hi (by omega))
  · rw [hsm]
    exact he
  · rw [rel_y h, hm]
  · rw [hm]
    exact hd.2.1
  · rw [← h.2.2.2 6 (by omega)]
    exact hd.2.2.1
theorem rel_pass {x y : vX} (h : rel x y) : ∀ n, rel (passv n x) (rpass n y)
  | 0 => h
  | n + 1 => (rel_sec (rel_pass h n)).1
theorem rel_rgd {x y : vX} (h : rel x y) (n : Nat) : rgd (rpass n y) := (rel_sec (rel_pass h n)).2
