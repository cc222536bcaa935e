/-! what else is done to both; the numbers of people behind it -/
theorem rel_mid {x y x' y' : vX} (h : rel x y) (hx : ∀ k, (k < 9 ∨ 57 ≤ k) → x' k = x k) (he : eqm (many x) x' y') : rel x' y' := by
  obtain ⟨hv, hT, hl, _⟩ := h
  have hm : many x' = many x := by
    unfold many
    rw [hx 57 (by omega)]
  refine ⟨?_, by rw [hx 3 (by omega)]; exact hT, fun p hp => ?_, by rw [hm]; exact he⟩
  · obtain ⟨m, h1, h57, h6, h7, hr⟩ := hv
    exact ⟨m, h1, by rw [hx 57 (by omega)]; exact h57, by rw [hx 6 (by omega)]; exact h6, by rw [hx 7 (by omega)]; exact h7, fun p hp => vrow_of (hr p hp) (hx _ (by omega)) (hx _ (by omega))⟩
  · rw [hm] at hp
    exact lft_of (hl p hp) (fun i hi => hx _ (by omega))
theorem rel_sw {x y : vX} {f : Nat} (h : rel x y) (hf : f < 8) : rel (sw (x 0) f x) (sw (y 0) f y) :=
  rel_mid h (fun k hk => sw_o (by omega) (by omega)) (eqm_sw hf (h.2.2.2 0 (by omega)) h.2.2.2)
theorem rel_fosw {x y : vX} (h : rel x y) : rel (fo (sw (x 0)) 8 x) (fo (sw (y 0)) 8 y) :=
  rel_mid h (fun k hk => fosw_o hk 8 (by decide)) (eqm_fo (N := 8) (fun i hi a b h9 => eqm_sw hi (h.2.2.2 0 (by omega)) h9) h.2.2.2 8 (by decide))
theorem rel_fire {x y : vX} {b : Int32} (h : rel x y) (hb : b = 0 ∨ b = 1) : rel (firv b x) (firR b y) := by
  rw [firR_eq]
  unfold firv
  rw [h.2.2.2 7 (by omega)]
  split
  · exact rel_set (rel_fosw h) (by decide) (by decide) (Or.inr hb)
  · exact rel_set h (by decide) (by decide) (Or.inr hb)
/-- a walk time is set -/
theorem rel_set3 {x y : vX} {v : Int32} (h : rel x y) (hv : tim v) : rel (upd x 3 v) (upd y 3 v) := by
  obtain ⟨hd, hT, hl, he⟩ := h
  have hm : many (upd x 3 v) = many x := many_upd (by omega)
  refine ⟨vd_upd hd (by decide), by rw [upd_s]; exact hv, fun p hp => ?_, by rw [hm]; exact eqm_upd he rfl⟩
  rw [hm] at hp
  exact lft_of (hl p hp) (fun j hj => upd_n (by omega))
theorem rel_turn {x y : vX} {p t : Nat} (h : rel x y) (hp : p < many x) (ht : t < 8) : rel (trnv p (nI t) x) (trnv p (nI t) y) := by
  have hm7 := (vd_many h.1).2.1
  obtain ⟨hd, hT, hl, he⟩ := h
  have hm : many (trnv p (nI t) x) = many x := by
    unfold trnv
    rw [many_upd (by omega), many_upd (by omega)]
  have hrow : ∀ q, q ≠ p → rowq (trnv p (nI t) x) x q q := fun q hq i hi => by
    unfold trnv
    rw [upd_n (by omega), upd_n (by omega)]
  refine ⟨?_, ?_, fun q hq => ?_, ?_⟩
  · obtain ⟨m, h1, h57, h6, h7, hr⟩ := hd
    refine ⟨m, h1, ?_, ?_, ?_, fun q hq => ?_⟩
    · unfold trnv
      rw [upd_n (by omega), upd_n (by omega)]
      exact h57
    · unfold trnv
      rw [upd_n (by omega), upd_n (by omega)]
      exact h6
    · unfold trnv
      rw [upd_n (by omega), upd_n (by omega)]
      exact h7
    · by_cases hqp : q = p
      · subst hqp
        obtain ⟨f, hf, ef⟩ := (hr q hq).1
        refine ⟨⟨f, hf, ?_⟩, t, ht, ?_⟩
        · unfold trnv
          rw [upd_n (by omega), upd_n (by omega)]
          exact ef
        · unfold trnv
          rw [upd_n (by omega), upd_s]
      · exact vrow_of (hr q hq) (hrow q hqp 1 (by decide)) (hrow q hqp 2 (by decide))
  · unfold trnv
    rw [upd_n (by omega), upd_n (by omega)]
    exact hT
  · rw [hm] at hq
    by_cases hqp : q = p
    · subst hqp
      unfold lft trnv
      rw [upd_n (by omega), upd_n (by omega), upd_n (by omega), upd_s, upd_s]
      by_cases h9 : x (4 * q + 59) = nI t
      · exact Or.inl h9
      · rw [if_neg h9]
        exact Or.inr hT
    · exact lft_of (hl q hq) (hrow q hqp)
  · rw [hm]
    unfold trnv
    rw [← he 3 (by omega), ← he (4 * p + 59) (by omega)]
    exact eqm_upd (eqm_upd he rfl) rfl
/-- what is equal below 86 is as good -/
theorem rel_y86 {x y y' : vX} (h : rel x y) (e : ∀ k, k < 86 → y' k = y k) : rel x y' := by
  have hm7 := (vd_many h.1).2.1
  exact ⟨h.1, h.2.1, h.2.2.1, fun k hk => by rw [e k (by omega)]; exact h.2.2.2 k hk⟩
theorem nums_of {x x' : vX} {c : Nat} (hn : nums x c) (h5 : x' 5 = x 5) (hm : many x' = many x) (hr : ∀ p, p < many x → x' (4 * p + 58) = x (4 * p + 58)) : nums x' c := by
  obtain ⟨a, v, b1, b2⟩ := hn
  refine ⟨h5.trans a, v, fun p hp => ?_, fun p q hpq hq => ?_⟩
  · rw [hm] at hp
    exact ⟨(hr p hp).trans (b1 p hp).1, (b1 p hp).2⟩
  · rw [hm] at hq
    exact b2 p q hpq hq
theorem nums_lo {x x' : vX} {c : Nat} (hn : nums x c) (hx : ∀ k, (k = 5 ∨ 57 ≤ k) → x' k = x k) : nums x' c :=
  nums_of hn (hx 5 (by omega)) (by unfold many; rw [hx 57 (by omega)]) (fun p hp => hx _ (by omega))
theorem nums_ent {x : vX} {c : Nat} {f t T : Int32} (hn : nums x c) (hm : many x < 7) : nums (entv (many x) f t T x) (c + 1) := by
  obtain ⟨a, v, b1, b2⟩ := hn
  have hme : many (entv (many x) f t T x) = many x + 1 := many_eq entv_57 (by omega)
  refine ⟨?_, fun p => if p < many x then v p else c, fun p hp => ?_, fun p q hpq hq => ?_⟩
  · show upd _ 5 _ 5 = _
    rw [upd_s, a]
    exact nI_1 c
  · rw [hme] at hp
    dsimp only
    by_cases h1 : p < many x
    · rw [if_pos h1]
      have h2 := b1 p h1
      exact ⟨(entv_row (i := 0) h1 (by decide)).trans h2.1, by omega⟩
    · rw [if_neg h1]
      obtain rfl : p = many x := by omega
      refine ⟨?_, by omega⟩
      unfold entv
      rw [upd_n (by omega), upd_n (by omega), upd_n (by omega), upd_n (by omega), upd_n (by omega), upd_s]
      exact a
  · rw [hme] at hq
    dsimp only
    rw [if_pos (by omega)]
    by_cases h1 : q < many x
    · rw [if_pos h1]
      exact b2 p q hpq h1
    · rw [if_neg h1]
      exact (b1 p (by omega)).2
theorem nums_cax {cd x y : vX} {P c : Nat} (h : rel x y) (hm : many x ≤ 6) (hn : nums x c) (hc : ∀ k, k < P → ∃ f t, f < 8 ∧ t < 8 ∧ f ≠ t ∧ cd (4 * k) - 48 = nI f ∧ cd (4 * k + 2) - 48 = nI t) : ∀ n, n ≤ P → nums (cax cd n x) (c + n)
  | 0, _ => hn
  | n + 1, hn1 => by
    have ih := nums_cax h hm hn hc n (by omega)
    obtain ⟨i1, i2⟩ := rel_cax h hm hc n (by omega)
    obtain ⟨r1, r2⟩ := wt_room i1
    have h9 : nums (wtd (cax cd n x)) (c + n) := nums_pass i1.1 ih _
    exact nums_ent h9 (by show many (wtd (cax cd n x)) < 7; omega)
