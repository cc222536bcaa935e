/-! what would be in the dark; the invariant of the law -/
theorem dwd_b (v : Int32) (x : vX) : ∃ b, b ≤ 1 ∧ dwd v x = nI b := by
  unfold dwd
  split
  · exact ⟨1, Nat.le_refl _, rfl⟩
  · exact ⟨0, by omega, rfl⟩
theorem dcF_N (v : Int32) (x : vX) : ∀ n, ∃ k, k ≤ n ∧ dcF v x n = nI k
  | 0 => ⟨0, Nat.le_refl _, rfl⟩
  | n + 1 => by
    obtain ⟨k, h1, h2⟩ := dcF_N v x n
    obtain ⟨b, h3, h4⟩ := dwd_b v (passv n x)
    refine ⟨k + b, by omega, ?_⟩
    show dcF v x n + dwd v (passv n x) = _
    rw [h2, h4, nI_add]
theorem dkw_nn (f t T : Int32) (x : vX) : ¬ dkw f t T x < 0 := by
  unfold dkw
  obtain ⟨k, h1, h2⟩ := dcF_N (x 5) (dwx f t T x) (dnF (x 5) 480 (dwx f t T x))
  have h3 := dnF_le (x 5) 480 (dwx f t T x)
  rw [h2]
  exact nI_pos (by omega)
theorem dwd_0 {v : Int32} {x : vX} (h : vd x) (hp : ¬ plx v x = (-1)) (hl : ∀ p f, p < many (begx x) → f < 8 → begx x (4 * p + 59) = nI f → ¬ lampv (begx x) f = 0) : dwd v x = 0 := by
  have hv : vfl (many (begx x)) (begx x) := vfl_of (vd_mid h).2.2.2.2
  have hm7 : many (begx x) ≤ 7 := (vd_mid h).1
  unfold dwd
  rcases plF_in (x := begx x) (v := v) (many (begx x)) 0 with q | ⟨g, g1, g2, g3, _⟩
  · exact absurd q hp
  · have e : plx v x = nI g := g3
    obtain ⟨f, hf, ef⟩ := hv g (by omega)
    rw [e, nI_clamp (by omega), ef, nI_clamp (by omega), if_neg (hl g f (by omega) hf ef)]
theorem dkw_0 {x : vX} {f t : Nat} (h : vd x) (hm : many x ≤ 6) (hb : brn x) (hf : f < 8) (ht : t < 8) (hc : asd x ∨ x 6 = 1 ∨ x 7 = 1) : dkw (nI f) (nI t) (x 0) x = 0 := by
  unfold dkw
  have hy : vd (dwx (nI f) (nI t) (x 0) x) := vd_dwx h (by omega) hf ht
  have hk : ∀ k, k < 57 → k ≠ 5 → dwx (nI f) (nI t) (x 0) x k = x k := fun k h1 h2 => by
    unfold dwx
    rw [entv_lo h1 h2, upd_i]
  have hby : brn (dwx (nI f) (nI t) (x 0) x) := brn_of hb (hk 0 (by decide) (by decide)) (fun g hg => hk _ (by omega) (by omega))
  refine smI_zero _ (fun i hi => dwd_0 (vd_pass hy i) (dnF_lo _ _ _ i hi) (fun p g hp hg e => ?_))
  have hlo : ∀ k, k < 8 → k ≠ 4 → k ≠ 5 → begx (passv i (dwx (nI f) (nI t) (x 0) x)) k = x k := fun k h1 h2 h3 => by
    show beginv _ _ k = _
    rw [beginv_lo (by omega), pass_lo hy h1 h2 i, hk k (by omega) h3]
  rcases hc with ha | h6 | h7
  · rcases on1_lamp (asd_beg (vd_pass hy i) (brn_pass hy hby i) (fun f9 hf9 => by rw [pass_10 hf9, hk _ (by omega) (by omega)]; exact ha f9 hf9) hp hg e) with q | q <;> rw [q] <;> decide
  · unfold lampv
    rw [hlo 6 (by decide) (by decide) (by decide), h6]
    split
    · decide
    · split
      · decide
      · split <;> decide
  · unfold lampv
    rw [hlo 7 (by decide) (by decide) (by decide), h7, if_pos rfl]
    decide
/-- the saved states -/
def hst (C B od hd : Nat) (M : sv_M) : Prop := ∀ i, i < hd → st C B (M (2 + (od + i) % 6))
def inw (C B od hd : Nat) (M : sv_M) : Prop := od < 6 ∧ hd ≤ 6 ∧ M 8 0 = nI od ∧ M 8 1 = nI hd ∧ st C B (M 0) ∧ hst C B od hd M
theorem inw_mono {C B C2 B2 od hd : Nat} {M : sv_M} (h : inw C B od hd M) (hC : C ≤ C2) (hB : B ≤ B2) : inw C2 B2 od hd M := by
  obtain ⟨h1, h2, h3, h4, h5, h6⟩ := h
  exact ⟨h1, h2, h3, h4, st_mono h5 hC hB, fun i hi => st_mono (h6 i hi) hC hB⟩
theorem inw_1 {C B od hd : Nat} {M : sv_M} {y : vX} (h : inw C B od hd M) : inw C B od hd (sv_u M 1 y) := by
  obtain ⟨h1, h2, h3, h4, h5, h6⟩ := h
  refine ⟨h1, h2, by rw [sv_un (by decide)]; exact h3, by rw [sv_un (by decide)]; exact h4, by rw [sv_un (by decide)]; exact h5, fun i hi => ?_⟩
  rw [sv_un (by omega)]
  exact h6 i hi
theorem sav_8 {od hd : Nat} {M : sv_M} (hod : od < 6) : sav od hd M 8 0 = nI (savO od hd) ∧ sav od hd M 8 1 = nI (savH hd) := by
  have hk : savK od hd < 6 := by
    unfold savK
    split <;> omega
  unfold sav svM
  rw [sv_un (show 8 ≠ 2 + savK od hd by omega), sv_us, upd_n (by omega), upd_s, upd_s]
  exact ⟨rfl, rfl⟩
theorem sav_O {od hd : Nat} (h : od < 6) : savO od hd < 6 := by
  unfold savO
  split <;> omega
theorem sav_H (hd : Nat) (h : hd ≤ 6) : savH hd ≤ 6 := by
  unfold savH
  split <;> omega
theorem hst_save {C B C2 B2 od hd : Nat} {M : sv_M} {X : vX} (h : hst C B od hd M) (hs : st C B (M 0)) (hod : od < 6) (hd6 : hd ≤ 6) (hC : C ≤ C2) (hB : B ≤ B2) : hst C2 B2 (savO od hd) (savH hd) (sv_u (sav od hd M) 0 X) := by
  intro i hi
  rw [sv_un (by omega)]
  rcases Nat.lt_or_ge hd 6 with q | q
  · have eO : savO od hd = od := if_pos q
    have eH : savH hd = hd + 1 := if_pos q
    have eK : savK od hd = (od + hd) % 6 := if_pos q
    rw [eH] at hi
    rw [eO]
    unfold sav svM
    rw [eK]
    rcases Nat.lt_or_ge i hd with q2 | q2
    · rw [sv_un (by omega), sv_un (by omega)]
      exact st_mono (h i q2) hC hB
    · obtain rfl : i = hd := by omega
      rw [sv_us]
      exact st_mono hs hC hB
  · obtain rfl : hd = 6 := by omega
    have eO : savO od 6 = (od + 1) % 6 := if_neg (by omega)
    have eH : savH 6 = 6 := if_neg (by omega)
    have eK : savK od 6 = od := if_neg (by omega)
    rw [eH] at hi
    rw [eO]
    unfold sav svM
    rw [eK]
    rcases Nat.lt_or_ge i 5 with q2 | q2
    · rw [sv_un (by omega), sv_un (by omega), show ((od + 1) % 6 + i) % 6 = (od + (i + 1)) % 6 by omega]
      exact st_mono (h (i + 1) (by omega)) hC hB
    · obtain rfl : i = 5 := by omega
      rw [show ((od + 1) % 6 + 5) % 6 = od by omega, sv_us]
      exact st_mono hs hC hB
theorem inw_save {C B C2 B2 od hd : Nat} {M : sv_M} {X : vX} (h : inw C B od hd M) (hC : C ≤ C2) (hB : B ≤ B2) (hs : st C2 B2 X) : inw C2 B2 (savO od hd) (savH hd) (sv_u (sav od hd M) 0 X) := by
  obtain ⟨h1, h2, h3, h4, h5, h6⟩ := h
  have h8 := sav_8 (od := od) (hd := hd) (M := M) h1
  exact ⟨sav_O h1, sav_H hd h2, by rw [sv_un (by decide)]; exact h8.1, by rw [sv_un (by decide)]; exact h8.2, by rw [sv_us]; exact hs, hst_save h6 h5 h1 h2 hC hB⟩
theorem inw_undo {C B od hd : Nat} {M : sv_M} (h : inw C B od hd M) (h0 : 0 < hd) : inw C B od (hd - 1) (rsM (hd - 1) ((od + (hd - 1)) % 6) M) := by
  obtain ⟨h1, h2, h3, h4, h5, h6⟩ := h
  unfold rsM
  refine ⟨h1, by omega, ?_, ?_, ?_, fun i hi => ?_⟩
  · rw [sv_un (by decide), sv_us, upd_n (by decide)]
    exact h3
  · rw [sv_un (by decide), sv_us, upd_s]
  · rw [sv_us]
    exact h6 (hd - 1) (by omega)
  · rw [sv_un (by omega), sv_un (by omega)]
    exact h6 i (by omega)
theorem st_0 : st 0 0 (nwF 8) := by
  have h57 : nwF 8 57 = nI 0 := by decide
  have hm : many (nwF 8) = 0 := many_eq h57 (by decide)
  refine ⟨⟨0, by decide, h57, Or.inl (by decide), Or.inl (by decide), fun p hp => absurd hp (Nat.not_lt_zero _)⟩, by omega, ⟨⟨5, by decide, by decide⟩, ⟨0, by decide, by decide⟩, ⟨8, by decide, by decide, by decide⟩⟩, fun p hp => absurd hp (by omega), ⟨0, Nat.le_refl _, by decide, fun _ => 0, fun p hp => absurd hp (by omega), fun p q _ hq => absurd hq (by omega)⟩, ⟨⟨20, by decide, by decide, by decide⟩, fun f hf => ⟨0, by decide, ?_⟩⟩, fun f hf => Or.inr ?_, ⟨0, fun _ => 0, fun _ => 0, by decide, Nat.le_refl _, fun f hf => ⟨?_, ?_⟩, Nat.le_refl _⟩⟩
  · exact nwF_0 (by omega) (by omega)
  · unfold nwF
    rw [if_neg (by omega), if_neg (by omega), if_neg (by omega), if_pos (by omega)]
  · exact nwF_0 (by omega) (by omega)
  · exact nwF_0 (by omega) (by omega)
theorem inw_0 : inw 0 0 0 0 M0 := by
  have e0 : M0 0 = nwF 8 := by
    funext i
    exact M0_c (by decide)
  exact ⟨by decide, by decide, rfl, rfl, by rw [e0]; exact st_0, fun i hi => absurd hi (Nat.not_lt_zero _)⟩
