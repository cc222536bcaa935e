theorem cnt_9 {f g : Nat} {x : vX} : cnt f x (6 * g + 9) = x (6 * g + 9) := by
  unfold cnt
  rw [upd_n (by omega)]
  split
  · exact upd_n (by omega)
  · split
    · exact upd_n (by omega)
    · rfl
theorem focnt_9 {g : Nat} {x : vX} : ∀ n, fo cntp n x (6 * g + 9) = x (6 * g + 9)
  | 0 => rfl
  | n + 1 => cnt_9.trans (focnt_9 n)
theorem focnt_lamp {m f : Nat} {x : vX} (hv : vfl m x) {n : Nat} (hn : n ≤ m) : lampv (fo cntp n x) f = lampv x f := by
  unfold lampv
  rw [focnt_o hv (Or.inl (by decide)) n hn, focnt_9, focnt_o hv (Or.inl (by decide)) n hn, focnt_o hv (Or.inl (by decide)) n hn]
theorem smI_zero {f : Nat → Int32} : ∀ n, (∀ p, p < n → f p = 0) → smI f n = 0
  | 0, _ => rfl
  | n + 1, h => by
    show smI f n + f n = 0
    rw [smI_zero n (fun p hp => h p (by omega)), h n (Nat.lt_succ_self n)]
    rfl
theorem smI_one {f : Nat → Int32} {g : Nat} : ∀ n, g < n → (∀ p, p < n → p ≠ g → f p = 0) → smI f n = f g
  | 0, h, _ => absurd h (Nat.not_lt_zero _)
  | n + 1, h, hz => by
    show smI f n + f n = f g
    by_cases hg : g = n
    · rw [hg, smI_zero n (fun p hp => hz p (by omega) (by omega)), Int32.zero_add]
    · rw [smI_one n (by omega) (fun p hp => hz p (by omega)), hz n (Nat.lt_succ_self n) (fun e => hg e.symm), Int32.add_zero]
theorem nums_beg {x : vX} {c : Nat} (h : vd x) (hn : nums x c) {p q : Nat} (hc : c < 2147483648) (hp : p < many (begx x)) (hq : q < many (begx x)) (e : begx x (4 * p + 58) = begx x (4 * q + 58)) : p = q := by
  obtain ⟨m1, m2⟩ := sec_many h
  have hmid := vd_mid h
  have hv : vfl (many (begx x)) (begx x) := vfl_of hmid.2.2.2.2
  refine nums_uni (nums_sec h hn) hc (by rw [m1]; exact hp) (by rw [m1]; exact hq) ?_
  have e1 : secv x (4 * p + 58) = begx x (4 * p + 58) := endv_o hv (Or.inr (by omega))
  have e2 : secv x (4 * q + 58) = begx x (4 * q + 58) := endv_o hv (Or.inr (by omega))
  rw [e1, e2, e]
theorem rdks_eq {x y : vX} {c : Nat} (h : rel x y) (hn : nums x c) (hc : c < 2147483648) (v : Int32) : rdks v (many y) y = if plx v x = (-1) then 0 else dwd v x := by
  obtain ⟨g1, g2⟩ := rel_beg h
  have hmid := vd_mid h.1
  have hv2 := (rel_sec h).2.2.2.2
  have hm7 : many (begx x) ≤ 7 := hmid.1
  unfold rdks
  by_cases hp : plx v x = (-1)
  · rw [if_pos hp]
    have hp9 : plF (begx x) v (many (begx x)) 0 = (-1) := by unfold plx at hp; exact hp
    refine smI_zero _ (fun p hpl => if_neg (fun q => ?_))
    have h9 : ¬ has v (begx x) := (plF_has (x := begx x) (v := v) hm7).mp hp9
    exact h9 ⟨p, by rw [g1]; exact hpl, (g2 _ (by omega)).trans q.2⟩
  · rw [if_neg hp]
    obtain ⟨g, q1, q2, q3, q4⟩ := (plF_in (x := begx x) (v := v) (many (begx x)) 0).resolve_left (by unfold plx at hp; exact hp)
    have q3 : plx v x = nI g := by unfold plx; exact q3
    have hgl : g < rwn (many y) y := by rw [← g1]; omega
    have hz : ∀ p, p < rwn (many y) y → p ≠ g → rdk v (rbg (many y) y) p = 0 := fun p hpl hpg => if_neg (fun q => by
      refine hpg (nums_beg h.1 hn hc (by rw [g1]; exact hpl) (by omega) ?_)
      rw [q4]
      exact (g2 _ (by omega)).trans q.2)
    rw [smI_one _ hgl hz]
    unfold rdk dwd
    rw [q3, nI_clamp (by omega), focnt_lamp hv2 (Nat.le_of_lt hgl), ← g2 (4 * g + 59) (by omega), ← g2 (4 * g + 58) (by omega)]
    obtain ⟨⟨f, hf, ef⟩, _⟩ := hmid.2.2.2.2 g (by show g < many (begx x); omega)
    have ef : begx x (4 * g + 59) = nI f := ef
    rw [ef, nI_clamp (by omega), ← eqm_lamp hf g2]
    by_cases hl : lampv (begx x) f = 0
    · rw [if_pos hl, if_pos ⟨hl, q4⟩]
    · rw [if_neg hl, if_neg (fun q => hl q.1)]
