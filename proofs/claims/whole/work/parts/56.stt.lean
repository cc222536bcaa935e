/-! a state of the class and one of the reference: all that is known of both; every call keeps it -/
def stt (C B : Nat) (x y : vX) : Prop := rel x y ∧ many x ≤ 6 ∧ (∃ c, c ≤ C ∧ nums x c) ∧ nng x ∧ bnd x B
theorem stt_mono {C B C2 B2 : Nat} {x y : vX} (h : stt C B x y) (hC : C ≤ C2) (hB : B ≤ B2) : stt C2 B2 x y := by
  obtain ⟨h1, h2, ⟨c, h3, h4⟩, h5, h6⟩ := h
  exact ⟨h1, h2, ⟨c, by omega, h4⟩, h5, bnd_mono h6 hB⟩
theorem stt_y86 {C B : Nat} {x y y' : vX} (h : stt C B x y) (e : ∀ k, k < 86 → y' k = y k) : stt C B x y' := ⟨rel_y86 h.1 e, h.2⟩
theorem stt_come {C B f t : Nat} {x y : vX} (h : stt C B x y) (hm : many x < 6) (hf : f < 8) (ht : t < 8) : stt (C + 1) B (entv (many x) (nI f) (nI t) (x 3) x) (entv (many x) (nI f) (nI t) (y 3) y) := by
  obtain ⟨h1, h2, ⟨c, h3, h4⟩, h5, h6⟩ := h
  exact ⟨rel_ent h1 (by omega) hf ht, by rw [many_eq entv_57 (by omega)]; omega, ⟨c + 1, by omega, nums_ent h4 (by omega)⟩, nng_ent h5, bnd_ent h6⟩
theorem stt_turn {C B p t : Nat} {x y : vX} (h : stt C B x y) (hp : p < many x) (ht : t < 8) : stt C B (trnv p (nI t) x) (trnv p (nI t) y) := by
  obtain ⟨h1, h2, ⟨c, h3, h4⟩, h5, h6⟩ := h
  have hm : many (trnv p (nI t) x) = many x := by
    unfold trnv
    rw [many_upd (by omega), many_upd (by omega)]
  refine ⟨rel_turn h1 hp ht, by rw [hm]; exact h2, ⟨c, h3, nums_of h4 ?_ hm (fun q hq => ?_)⟩, nng_of h5 (fun f hf => ?_), bnd_of h6 (fun k hk _ => ?_)⟩
  · unfold trnv
    rw [upd_n (by omega), upd_n (by omega)]
  · unfold trnv
    rw [upd_n (by omega), upd_n (by omega)]
  · unfold trnv
    rw [upd_n (by omega), upd_n (by omega)]
  · unfold trnv
    rw [upd_n (by omega), upd_n (by omega)]
theorem many_same {x x' : vX} (h : x' 57 = x 57) : many x' = many x := by
  unfold many
  rw [h]
theorem stt_press {C B f : Nat} {x y : vX} (h : stt C B x y) (hf : f < 8) : stt C B (sw (x 0) f x) (sw (y 0) f y) := by
  obtain ⟨h1, h2, ⟨c, h3, h4⟩, h5, h6⟩ := h
  exact ⟨rel_sw h1 hf, by rw [many_same (sw_o (by omega) (by omega))]; exact h2, ⟨c, h3, nums_lo h4 (fun k hk => sw_o (by omega) (by omega))⟩, nng_sw h5 hf, bnd_of h6 (fun k _ hk => sw_d hk)⟩
/-- an int is set that is no walk time, no number and none of the sums -/
theorem stt_set {C B i : Nat} {v : Int32} {x y : vX} (h : stt C B x y) (hi : i < 3 ∨ i = 6 ∨ i = 7 ∨ i % 6 = 4 ∧ 8 < i ∧ i < 57) (h67 : (i ≠ 6 ∧ i ≠ 7) ∨ v = 0 ∨ v = 1) : stt C B (upd x i v) (upd y i v) := by
  obtain ⟨h1, h2, ⟨c, h3, h4⟩, h5, h6⟩ := h
  exact ⟨rel_set h1 (by omega) (by omega) h67, by rw [many_upd (by omega)]; exact h2, ⟨c, h3, nums_lo h4 (fun k hk => upd_n (by omega))⟩, nng_of h5 (fun f hf => upd_n (by omega)), bnd_of h6 (fun k _ hk => upd_n (by omega))⟩
theorem stt_set3 {C B : Nat} {v : Int32} {x y : vX} (h : stt C B x y) (hv : tim v) : stt C B (upd x 3 v) (upd y 3 v) := by
  obtain ⟨h1, h2, ⟨c, h3, h4⟩, h5, h6⟩ := h
  exact ⟨rel_set3 h1 hv, by rw [many_upd (by omega)]; exact h2, ⟨c, h3, nums_lo h4 (fun k hk => upd_n (by omega))⟩, nng_of h5 (fun f hf => upd_n (by omega)), bnd_of h6 (fun k _ hk => upd_n (by omega))⟩
theorem fosw_d {T : Int32} {x : vX} {k : Nat} (h : k = 8 ∨ k % 6 = 5 ∧ 8 < k ∨ k % 6 = 0 ∧ 8 < k) : ∀ n, fo (sw T) n x k = x k
  | 0 => rfl
  | n + 1 => (sw_d h).trans (fosw_d h n)
theorem stt_fire {C B : Nat} {b : Int32} {x y : vX} (h : stt C B x y) (hb : b = 0 ∨ b = 1) : stt C B (firv b x) (firR b y) := by
  have hr := rel_fire h.1 hb
  obtain ⟨h1, h2, ⟨c, h3, h4⟩, h5, h6⟩ := h
  refine ⟨hr, ?_, ⟨c, h3, ?_⟩, ?_, ?_⟩
  · refine Nat.le_trans (Nat.le_of_eq (many_same ?_)) h2
    unfold firv
    rw [upd_n (by omega)]
    split
    · exact fosw_o (by omega) 8 (by decide)
    · rfl
  · refine nums_lo h4 (fun k hk => ?_)
    unfold firv
    rw [upd_n (by omega)]
    split
    · exact fosw_o (by omega) 8 (by decide)
    · rfl
  · unfold firv
    refine nng_of (x := if x 7 = 1 ∧ b = 0 then fo (sw (x 0)) 8 x else x) ?_ (fun f hf => upd_n (by omega))
    split
    · exact nng_fosw h5 8 (by decide)
    · exact h5
  · refine bnd_of h6 (fun k _ hk => ?_)
    unfold firv
    rw [upd_n (by omega)]
    split
    · exact fosw_d hk 8
    · rfl
theorem stt_pass {C B n : Nat} {x y : vX} (h : stt C B x y) (hn : n ≤ 300) : stt C (B + 2100) (passv n x) (rpass n y) := by
  obtain ⟨h1, h2, ⟨c, h3, h4⟩, h5, h6⟩ := h
  have hm := many_pass_le h1.1 n
  exact ⟨rel_pass h1 n, by omega, ⟨c, h3, nums_pass h1.1 h4 n⟩, nng_pass h5 n, bnd_mono (bnd_pass h1.1 h6 n) (by omega)⟩
/-- the text tells P ways -/
def wys (cd : vX) (P : Nat) : Prop := ∀ k, k < P → ∃ f t, f < 8 ∧ t < 8 ∧ f ≠ t ∧ cd (4 * k) - 48 = nI f ∧ cd (4 * k + 2) - 48 = nI t
theorem stt_all {C B P : Nat} {cd x y : vX} (h : stt C B x y) (hc : wys cd P) (hP : P ≤ 15) : stt (C + 15) (B + 50400) (cax cd P x) (rcx cd (cwk x cd) y P) := by
  obtain ⟨h1, h2, ⟨c, h3, h4⟩, h5, h6⟩ := h
  obtain ⟨i1, i2⟩ := rel_cax h1 h2 hc P (Nat.le_refl _)
  exact ⟨i1, i2, ⟨c + P, by omega, nums_cax h1 h2 h4 hc P (Nat.le_refl _)⟩, nng_cax h5 P, bnd_mono (bnd_cax h1 h2 h6 hc P (Nat.le_refl _)) (by omega)⟩
/-! what would be; what is told -/
theorem psO_out {x y : vX} {t w : Nat} (h : rel x y) : psO y t w (outv x t w) := fun z => by
  have h1 := rel_cp (z := z) h
  have h2 := rel_pass h1 t
  refine ⟨fun n _ => rel_rgd h1 n, ?_⟩
  unfold outR outv
  rw [← eqm_dks h2.2.2.2, ← eqm_dks h.2.2.2, ← eqm_eng h2.2.2.2, ← eqm_eng h.2.2.2, ← h2.2.2.2 57 (by omega), ← eqm_lit h2.2.2.2 8 (by decide)]
theorem sec_4 {x : vX} (h : vd x) : secv x 4 = x 4 + 1 := by
  have hv : vfl (many (begx x)) (begx x) := vfl_of (vd_mid h).2.2.2.2
  show endv (many (begx x)) (begx x) 4 = _
  unfold endv
  show upd _ 4 _ 4 = _
  rw [upd_s, fofend_o (by omega) 8 (by decide), focnt_o hv (by omega) _ (Nat.le_refl _)]
  show beginv (many x) x 4 + 1 = _
  rw [beginv_lo (by omega)]
theorem pass_4 {x : vX} (h : vd x) : ∀ n, passv n x 4 = x 4 + nI n
  | 0 => (Int32.add_zero _).symm
  | n + 1 => by
    show secv (passv n x) 4 = _
    rw [sec_4 (vd_pass h n), pass_4 h n, Int32.add_assoc, nI_1]
theorem cax_4 {cd x y : vX} {P : Nat} (h : rel x y) (hm : many x ≤ 6) (hc : wys cd P) : ∀ n, n ≤ P → cax cd n x 4 = x 4 + casI cd x n
  | 0, _ => (Int32.add_zero _).symm
  | n + 1, hn => by
    obtain ⟨i1, _⟩ := rel_cax h hm hc n (by omega)
    have e : cax cd (n + 1) x 4 = wtd (cax cd n x) 4 := by
      show entv (many (wtd (cax cd n x))) (cd (4 * n) - 48) (cd (4 * n + 2) - 48) (wtd (cax cd n x) 3) (wtd (cax cd n x)) 4 = _
      exact entv_lo (by omega) (by omega)
    rw [e]
    show passv (wtF 480 (cax cd n x)) (cax cd n x) 4 = x 4 + (casI cd x n + nI (wtF 480 (cax cd n x)))
    rw [pass_4 i1.1, cax_4 h hm hc n (by omega), Int32.add_assoc]
theorem rcx_4 {cd x y : vX} {P : Nat} (h : rel x y) (hm : many x ≤ 6) (hc : wys cd P) : rcx cd (cwk x cd) y P 4 - y 4 = casI cd x P := by
  obtain ⟨i1, _⟩ := rel_cax h hm hc P (Nat.le_refl _)
  rw [← i1.2.2.2 4 (by omega), ← h.2.2.2 4 (by omega), cax_4 h hm hc P (Nat.le_refl _), Int32.add_comm, Int32.add_sub_cancel]
/-! the text -/
theorem epF_all {cd : vX} : ∀ t i, epF cd t i = t + i → ∀ k, i ≤ k → k < t + i → ¬ ftI cd k = 0
  | 0, i, _, k, h1, h2 => absurd h2 (by omega)
  | t + 1, i, h, k, h1, h2 => by
    unfold epF at h
    split at h
    · omega
    · rename_i h9
      by_cases hk : k = i
      · rw [hk]
        exact h9
      · exact epF_all t (i + 1) (by omega) k (by omega) (by omega)
theorem wys_of {cd : vX} {n9 : Nat} (h : cmaC n9 cd = 0) : wys cd ((n9 + 1) / 4) := by
  unfold cmaC at h
  split at h
  · rename_i h1
    obtain ⟨h2, h3⟩ := h1
    have ha := epF_all (cd := cd) n9 0 (by omega)
    intro k hk
    have a0 := ha (4 * k) (by omega) (by omega)
    have a2 := ha (4 * k + 2) (by omega) (by omega)
    have e0 : ftI cd (4 * k) = flI (cd (4 * k)) := by
      unfold ftI
      rw [if_pos (by omega)]
    rw [e0] at a0
    obtain ⟨b1, b2⟩ := ftI_2.mp a2
    obtain ⟨f, f1, f2, ef⟩ := flI_N a0
    obtain ⟨t, t1, t2, et⟩ := flI_N b1
    refine ⟨f - 48, t - 48, by omega, by omega, fun q => b2 ?_, ?_, ?_⟩
    · have hft : f = t := by omega
      unfold fsI
      rw [ef, et, hft]
      split
      · rw [if_pos (Int32.le_refl _)]
      · rw [if_pos (Int32.le_refl _)]
    · rw [ef]
      exact pk_sub (a := f) (b := 48) f1
    · rw [et]
      exact pk_sub (a := t) (b := 48) t1
  · exact absurd h (by decide)
