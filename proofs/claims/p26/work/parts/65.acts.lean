/-! what an act keeps, and what it tells -/
def acOK (C B od hd m s : Nat) (a b : Int32) (M M' : sv_M) (r : Int32) : Prop :=
  (∃ od' hd', inw (C + 1) (B + 140) od' hd' M') ∧ (¬ r < 0 ∨ M' = M) ∧ (5 ≤ s → s < 10 → r = dks (passv (1 + lo a 20) (M 0)) - dks (M 0) ∧ M' 0 = passv (1 + lo a 20) (M 0)) ∧ (s ≠ 19 → asd (M 0) → dks (M' 0) = dks (M 0) ∧ dms (M' 0) = dms (M 0)) ∧ (s < 5 → r = if m < 6 then M 0 5 else (-3)) ∧ (s = 11 ∨ s = 12 → M' 0 0 ≤ M' 0 (6 * lo a 8 + 9))
theorem ac_gen {C B od hd m s : Nat} {a b : Int32} {M : sv_M} {X : vX} {r : Int32} (h : inw C B od hd M) (hs : st (C + 1) (B + 140) X) (hr : ¬ r < 0) (h3 : 5 ≤ s → s < 10 → r = dks (passv (1 + lo a 20) (M 0)) - dks (M 0) ∧ X = passv (1 + lo a 20) (M 0)) (h4 : s ≠ 19 → asd (M 0) → dks X = dks (M 0) ∧ dms X = dms (M 0)) (h5 : s < 5 → r = if m < 6 then M 0 5 else (-3)) (h6 : s = 11 ∨ s = 12 → X 0 ≤ X (6 * lo a 8 + 9)) : acOK C B od hd m s a b M (sv_u (sav od hd M) 0 X) r := by
  refine ⟨⟨_, _, inw_save h (by omega) (by omega) hs⟩, Or.inl hr, ?_, ?_, h5, ?_⟩
  · rw [sv_us]
    exact h3
  · rw [sv_us]
    exact h4
  · rw [sv_us]
    exact h6
theorem ac_same {C B od hd m s : Nat} {a b : Int32} {M : sv_M} {r : Int32} (h : inw C B od hd M) (hs : s < 5 ∨ s = 10 ∨ s = 19) (h5 : s < 5 → r = if m < 6 then M 0 5 else (-3)) : acOK C B od hd m s a b M M r :=
  ⟨⟨od, hd, inw_mono h (by omega) (by omega)⟩, Or.inr rfl, fun q1 q2 => absurd hs (by omega), fun _ _ => ⟨rfl, rfl⟩, h5, fun q => absurd hs (by omega)⟩
theorem dd_of {x x' : vX} (h : ∀ k, 8 < k → k < 57 → (k % 6 = 5 ∨ k % 6 = 0) → x' k = x k) : dks x' = dks x ∧ dms x' = dms x :=
  ⟨smI_c 8 (fun f hf => h _ (by omega) (by omega) (by omega)), smI_c 8 (fun f hf => h _ (by omega) (by omega) (by omega))⟩
theorem nnI {x : Int32} {n : Nat} (h : x = nI n) (hn : n < 2147483648) : ¬ x < 0 := by
  rw [h]
  exact nI_pos hn
theorem nn01 {x : Int32} (h : x = 0 ∨ x = 1) : ¬ x < 0 := by
  rcases h with h | h <;> rw [h] <;> decide
theorem firv_d {b : Int32} {x : vX} {k : Nat} (h : k = 8 ∨ k % 6 = 5 ∧ 8 < k ∨ k % 6 = 0 ∧ 8 < k) : firv b x k = x k := by
  unfold firv
  rw [upd_n (by omega)]
  split
  · exact fosw_d h 8
  · rfl
theorem trn_in {x : vX} {m : Nat} {n t : Int32} (h : trnC x m n t = 0) : ∃ g, g < m ∧ plF x n m 0 = nI g := by
  unfold trnC at h
  split at h
  · omega
  · rename_i h1
    obtain ⟨g, _, g2, g3, _⟩ := (plF_in (x := x) (v := n) m 0).resolve_left h1
    exact ⟨g, by omega, g3⟩
set_option maxHeartbeats 4000000 in
theorem ac_ok {C B od hd s : Nat} {a b : Int32} {M : sv_M} (h : inw C B od hd M) (hC : C < 1000000) (hB : B < 1000000) (hs : s < 20) : acOK C B od hd (many (M 0)) s a b M (acM M od hd (many (M 0)) s a b) (acR M hd (many (M 0)) s a b) := by
  have l8 := lo_lt a (n := 8) (by decide)
  have l20 := lo_lt a (n := 20) (by decide)
  have l2 := lo_lt a (n := 2) (by decide)
  have m7 := lo_lt b (n := 7) (by decide)
  have m8 := lo_lt b (n := 8) (by decide)
  have m2 := lo_lt b (n := 2) (by decide)
  have m40 := lo_lt b (n := 40) (by decide)
  have m12 := lo_lt b (n := 12) (by decide)
  have hst := h.2.2.2.2.1
  obtain ⟨hv, hm6, ⟨⟨a1, a1h, e1⟩, ⟨a2, a2h, e2⟩, ⟨a3, a3l, a3h, e3⟩⟩, hlf, ⟨c9, hc9, e5, v9, hv9, hr9⟩, ⟨⟨a0, a0l, a0h, e0⟩, hbr⟩, hsn, hbd⟩ := id hst
  obtain ⟨hm, _, b6, b7, hvf⟩ := vd_many hv
  rcases Nat.lt_or_ge s 5 with q5 | q5
  · rw [acR_5 (by omega) q5, acM_5 (by omega) q5]
    by_cases hm5 : many (M 0) < 6
    · rw [if_pos hm5, if_pos hm5]
      exact ac_gen h (st_mono (st_come hst hm5 l8 (by omega) (by omega)) (by omega) (by omega)) (nnI e5 (by omega)) (fun q _ => absurd q5 (by omega)) (fun _ _ => dd_of (fun k _ hk _ => entv_lo hk (by omega))) (fun _ => (if_pos hm5).symm) (fun q => absurd q5 (by omega))
    · rw [if_neg hm5, if_neg hm5]
      exact ac_same h (Or.inl q5) (fun _ => (if_neg hm5).symm)
  rcases Nat.lt_or_ge s 10 with q10 | q10
  · rw [acR_10 q5 q10, acM_10 q5 q10]
    obtain ⟨d, d1, d2⟩ := dks_pass hv (1 + lo a 20)
    refine ac_gen h (st_mono (st_pass hst _) (by omega) (by omega)) ?_ (fun _ _ => ⟨rfl, rfl⟩) (fun _ ha => asd_pass hv hst.2.2.2.2.2.1 ha _) (fun q => absurd q (by omega)) (fun q => absurd q10 (by omega))
    rw [d2, Int32.add_comm, Int32.add_sub_cancel]
    exact nI_pos (by omega)
  rcases Nat.lt_or_ge s 11 with q11 | q11
  · rw [acR_11 q10 q11, acM_11 q10 q11]
    by_cases ht : trnC (M 0) (many (M 0)) (nI (lo a 12)) (nI (lo b 8)) = 0
    · rw [if_pos ht, if_pos ht]
      obtain ⟨g, hg, eg⟩ := trn_in ht
      rw [eg, nI_clamp (by omega)]
      obtain ⟨mm9, g1, g57, _, _, gr⟩ := id hv
      have emm := many_eq g57 g1
      obtain ⟨_, t9, ht9, et9⟩ := gr g (by omega)
      refine ac_gen h (st_mono (st_turn hst hg m8) (by omega) (by omega)) (nnI et9 (by omega)) (fun _ q => absurd q (by omega)) (fun _ _ => dd_of (fun k _ hk _ => ?_)) (fun q => absurd q (by omega)) (fun q => absurd q11 (by omega))
      unfold trnv
      rw [upd_n (by omega), upd_n (by omega)]
    · rw [if_neg ht, if_neg ht]
      exact ac_same h (by omega) (fun q => absurd q (by omega))
  rcases Nat.lt_or_ge s 13 with q13 | q13
  · rw [acR_13 q11 q13, acM_13 q11 q13]
    obtain ⟨b9, hb9, eb9⟩ := hbr (lo a 8) l8
    refine ac_gen h (st_mono (st_press hst l8) (by omega) (by omega)) (nnI eb9 (by omega)) (fun _ q => absurd q (by omega)) (fun _ _ => dd_of (fun k _ _ hk => sw_o (by omega) (by omega))) (fun q => absurd q (by omega)) (fun _ => ?_)
    rw [sw_o (by omega) (by omega), sw_9, if_pos rfl]
    split
    · rename_i q
      exact q
    · exact Int32.le_refl _
  rcases Nat.lt_or_ge s 15 with q15 | q15
  · rw [acR_15 q13 q15, acM_15 q13 q15]
    exact ac_gen h (st_mono (st_sensor hst l8 (b01 _)) (by omega) (by omega)) (nn01 (hsn _ l8)) (fun _ q => absurd q (by omega)) (fun _ _ => dd_of (fun k _ _ hk => upd_n (by omega))) (fun q => absurd q (by omega)) (fun q => absurd q13 (by omega))
  rcases Nat.lt_or_ge s 16 with q16 | q16
  · rw [acR_16 q15 q16, acM_16 q15 q16]
    exact ac_gen h (st_mono (st_night hst (b01 _)) (by omega) (by omega)) (nn01 b6) (fun _ q => absurd q (by omega)) (fun _ _ => dd_of (fun k _ _ hk => upd_n (by omega))) (fun q => absurd q (by omega)) (fun q => absurd q15 (by omega))
  rcases Nat.lt_or_ge s 17 with q17 | q17
  · rw [acR_17 q16 q17, acM_17 q16 q17]
    refine ac_gen h (st_mono (st_fire hst (b01 _)) (by omega) (by omega)) (nn01 b7) (fun _ q => absurd q (by omega)) (fun _ _ => dd_of (fun k k1 _ hk => firv_d (by omega))) (fun q => absurd q (by omega)) (fun q => absurd q16 (by omega))
  rcases Nat.lt_or_ge s 18 with q18 | q18
  · rw [acR_18 q17 q18, acM_18 q17 q18]
    refine ac_gen h (st_mono (st_set hst (i := lo a 2) (by omega) (fun _ => ⟨1 + lo b 40, by omega, by omega, rfl⟩) (fun _ => ⟨1 + lo b 40, by omega, rfl⟩) (fun q => absurd q (by omega)) (fun q => absurd q (by omega))) (by omega) (by omega)) ?_ (fun _ q => absurd q (by omega)) (fun _ _ => dd_of (fun k _ _ hk => upd_n (by omega))) (fun q => absurd q (by omega)) (fun q => absurd q17 (by omega))
    rcases (show lo a 2 = 0 ∨ lo a 2 = 1 by omega) with q | q <;> rw [q]
    · exact nnI e0 (by omega)
    · exact nnI e1 (by omega)
  rcases Nat.lt_or_ge s 19 with q19 | q19
  · rw [acR_19 q18 q19, acM_19 q18 q19]
    by_cases q0 : lo a 2 = 0
    · rw [if_pos q0, if_pos q0]
      exact ac_gen h (st_mono (st_set hst (i := 2) (by omega) (fun q => absurd q (by omega)) (fun q => absurd q (by omega)) (fun _ => ⟨lo b 2, by omega, rfl⟩) (fun q => absurd q (by omega))) (by omega) (by omega)) (nnI e2 (by omega)) (fun _ q => absurd q (by omega)) (fun _ _ => dd_of (fun k _ _ hk => upd_n (by omega))) (fun q => absurd q (by omega)) (fun q => absurd q18 (by omega))
    · rw [if_neg q0, if_neg q0]
      exact ac_gen h (st_mono (st_set hst (i := 3) (by omega) (fun q => absurd q (by omega)) (fun q => absurd q (by omega)) (fun q => absurd q (by omega)) (fun _ => ⟨1 + lo b 12, by omega, by omega, rfl⟩)) (by omega) (by omega)) (nnI e3 (by omega)) (fun _ q => absurd q (by omega)) (fun _ _ => dd_of (fun k _ _ hk => upd_n (by omega))) (fun q => absurd q (by omega)) (fun q => absurd q18 (by omega))
  · rw [acR_20 q19 hs, acM_20 q19 hs]
    have h6 := h.2.1
    by_cases q0 : 0 < hd
    · rw [if_pos q0, if_pos q0]
      exact ⟨⟨od, hd - 1, inw_mono (inw_undo h q0) (by omega) (by omega)⟩, Or.inl (nI_pos (by omega)), fun _ q => absurd q (by omega), fun q => absurd (show s = 19 by omega) q, fun q => absurd q (by omega), fun q => absurd q19 (by omega)⟩
    · rw [if_neg q0, if_neg q0]
      exact ac_same h (by omega) (fun q => absurd q (by omega))
