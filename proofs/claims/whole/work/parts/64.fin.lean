/-! what both calls leave, call by call -/
theorem inw_m {C B od hd n9 : Nat} {M : sv_M} (h : inw C B od hd n9 M) : M 0 57 = nI (many (M 0)) ∧ many (M 0) ≤ 6 ∧ M 10 57 = nI (many (M 0)) ∧ (M 0 6 = 0 ∨ M 0 6 = 1) ∧ (M 0 7 = 0 ∨ M 0 7 = 1) ∧ vd (M 0) ∧ eqm (many (M 0)) (M 0) (M 10) ∧ rel (M 0) (M 10) := by
  obtain ⟨-, -, -, -, -, -, -, -, -, ha, -⟩ := h
  have hd := vd_many ha.1.1
  exact ⟨hd.1, ha.2.1, rel_y ha.1, hd.2.2.1, hd.2.2.2.1, ha.1.1, ha.1.2.2.2, ha.1⟩
theorem inw_hi {C B od hd n9 : Nat} {M : sv_M} (h : inw C B od hd n9 M) {X : vX} {q : Nat} (hq : 9 ≤ q) : sv_u (sav od hd M) 0 X q = M q := by
  have hk : savK od hd < 6 := by
    have h1 := h.1
    have h2 := h.2.1
    unfold savK
    split <;> omega
  unfold sav svM
  rw [sv_un (by omega), sv_un (by omega), sv_un (by omega)]
theorem fin_gen {C B C2 B2 od hd n9 : Nat} {M M1 M2 : sv_M} {X : vX} (h : inw C B od hd n9 M) (e1 : M1 = sv_u (sav od hd M) 0 X) (a : ∀ q, q < 10 → M2 q = M1 q) (c : M2 12 = rsP hd M1) (d : M2 13 = M1 13) (e : M2 15 0 = nI (rsk hd + 1)) (f : M2 15 1 = M1 15 1) (hC : C ≤ C2) (hB : B ≤ B2) (hs : stt C2 B2 X (M2 10)) : inv C2 B2 M2 := by
  have hi : ∀ q, 9 ≤ q → M1 q = M q := fun q hq => by rw [e1]; exact inw_hi h hq
  have h9 := h.2.2.1
  have h97 := h.2.2.2.2.2.2.1
  have h98 := h.2.2.2.2.2.2.2.1
  refine inv_call (n2 := n9) h hC hB ?_ ?_ (fun k hk => ?_) ?_ e h9 ?_ (fun i _ => ?_) ?_ ?_
  · rw [a 0 (by decide), e1, sv_us]
    exact hs
  · rw [a 8 (by decide), e1, sv_un (by decide)]
  · rw [a (2 + k) (by omega), e1, sv_un (by omega)]
  · rw [c]
    exact rsP_eq (hi 10 (by decide)) (hi 12 (by decide))
  · rw [a 9 (by decide), hi 9 (by decide)]
    exact h97
  · rw [a 9 (by decide), hi 9 (by decide)]
  · rw [d, hi 13 (by decide)]
  · rw [f, hi 15 (by decide)]
    exact h98
theorem fin_sav {C B C2 B2 od hd n9 : Nat} {M M1 M2 : sv_M} {X Y : vX} (h : inw C B od hd n9 M) (e1 : M1 = sv_u (sav od hd M) 0 X) (e2 : M2 = sv_u (rsav hd (thr 0 M1)) 10 Y) (hC : C ≤ C2) (hB : B ≤ B2) (hs : stt C2 B2 X Y) : inv C2 B2 M2 ∧ M2 15 2 = 0 := by
  have e15 : M2 15 = upd (thr 0 M1 15) 0 (nI (rsk hd + 1)) := by
    rw [e2, sv_un (by decide)]
    unfold rsav
    rw [sv_us]
  refine ⟨fin_gen h e1 (fun q hq => ?_) ?_ ?_ ?_ ?_ hC hB ?_, ?_⟩
  · rw [e2, sv_un (by omega)]
    unfold rsav
    rw [sv_un (by omega), sv_un (by omega), thr_n (by omega)]
  · rw [e2, sv_un (by decide)]
    unfold rsav
    rw [sv_un (by decide), sv_us]
    exact rsP_eq (thr_n (by decide)) (thr_n (by decide))
  · rw [e2, sv_un (by decide)]
    unfold rsav
    rw [sv_un (by decide), sv_un (by decide), thr_n (by decide)]
  · rw [e15, upd_s]
  · rw [e15, upd_n (by decide), thr_15 (by decide)]
  · rw [e2, sv_us]
    exact hs
  · rw [e15, upd_n (by decide), thr_2]
theorem fin_pas {C B C2 B2 od hd n9 : Nat} {M M1 M2 : sv_M} {X Y : vX} {d9 : Int32} (h : inw C B od hd n9 M) (e1 : M1 = sv_u (sav od hd M) 0 X) (e2 : M2 = sv_u (sv_u (rsav hd (thr 0 M1)) 15 (dkM (rsav hd (thr 0 M1)) d9)) 10 Y) (hC : C ≤ C2) (hB : B ≤ B2) (hs : stt C2 B2 X Y) : inv C2 B2 M2 ∧ M2 15 2 = 0 := by
  have e15 : M2 15 = upd (upd (thr 0 M1 15) 0 (nI (rsk hd + 1))) 7 (upd (thr 0 M1 15) 0 (nI (rsk hd + 1)) 7 + d9) := by
    rw [e2, sv_un (by decide), sv_us]
    unfold dkM rsav
    rw [sv_us]
  refine ⟨fin_gen h e1 (fun q hq => ?_) ?_ ?_ ?_ ?_ hC hB ?_, ?_⟩
  · rw [e2, sv_un (by omega), sv_un (by omega)]
    unfold rsav
    rw [sv_un (by omega), sv_un (by omega), thr_n (by omega)]
  · rw [e2, sv_un (by decide), sv_un (by decide)]
    unfold rsav
    rw [sv_un (by decide), sv_us]
    exact rsP_eq (thr_n (by decide)) (thr_n (by decide))
  · rw [e2, sv_un (by decide), sv_un (by decide)]
    unfold rsav
    rw [sv_un (by decide), sv_un (by decide), thr_n (by decide)]
  · rw [e15, upd_n (by decide), upd_s]
  · rw [e15, upd_n (by decide), upd_n (by decide), thr_15 (by decide)]
  · rw [e2, sv_us]
    exact hs
  · rw [e15, upd_n (by decide), upd_n (by decide), thr_2]
/-- nothing is changed that the invariant sees -/
def lk (M M' : sv_M) : Prop := (∀ q, q < 11 → q ≠ 1 → M' q = M q) ∧ M' 12 = M 12 ∧ M' 13 = M 13 ∧ M' 15 0 = M 15 0 ∧ M' 15 1 = M 15 1
theorem lk_r {M : sv_M} : lk M M := ⟨fun _ _ _ => rfl, rfl, rfl, rfl, rfl⟩
theorem lk_t {M M1 M2 : sv_M} (h : lk M M1) (h2 : lk M1 M2) : lk M M2 := ⟨fun q a b => (h2.1 q a b).trans (h.1 q a b), h2.2.1.trans h.2.1, h2.2.2.1.trans h.2.2.1, h2.2.2.2.1.trans h.2.2.2.1, h2.2.2.2.2.trans h.2.2.2.2⟩
theorem lk_1 {M : sv_M} {y : vX} : lk M (sv_u M 1 y) := ⟨fun q _ h => sv_un h, sv_un (by decide), sv_un (by decide), by rw [sv_un (by decide)], by rw [sv_un (by decide)]⟩
theorem lk_thr {M : sv_M} {k : Int32} : lk M (thr k M) := ⟨fun q _ _ => thr_n (by omega), thr_n (by decide), thr_n (by decide), thr_15 (by decide), thr_15 (by decide)⟩
theorem lk_W2 {M : sv_M} {y : vX} {a b : Int32} : lk M (sv_u (sv_u M 15 (upd (upd (M 15) 6 a) 7 b)) 11 y) := by
  refine ⟨fun q h1 _ => ?_, ?_, ?_, ?_, ?_⟩
  · rw [sv_un (by omega), sv_un (by omega)]
  · rw [sv_un (by decide), sv_un (by decide)]
  · rw [sv_un (by decide), sv_un (by decide)]
  · rw [sv_un (by decide), sv_us, upd_n (by decide), upd_n (by decide)]
  · rw [sv_un (by decide), sv_us, upd_n (by decide), upd_n (by decide)]
theorem W2_2 {M : sv_M} {y : vX} {a b : Int32} : sv_u (sv_u M 15 (upd (upd (M 15) 6 a) 7 b)) 11 y 15 2 = M 15 2 := by
  rw [sv_un (by decide), sv_us, upd_n (by decide), upd_n (by decide)]
theorem lk_W3 {M : sv_M} {n9 tk : Nat} {Z : vX} : lk M (sv_u (sv_u M 15 (txY (M 13) n9 tk (M 15))) 14 Z) := by
  refine ⟨fun q h1 _ => ?_, ?_, ?_, ?_, ?_⟩
  · rw [sv_un (by omega), sv_un (by omega)]
  · rw [sv_un (by decide), sv_un (by decide)]
  · rw [sv_un (by decide), sv_un (by decide)]
  · rw [sv_un (by decide), sv_us]
    unfold txY
    rw [upd_n (by decide), upd_n (by decide), upd_n (by decide)]
  · rw [sv_un (by decide), sv_us]
    unfold txY
    rw [upd_n (by decide), upd_n (by decide), upd_n (by decide)]
theorem lk_W5 {M : sv_M} {Y Z X : vX} (h : ag3 Y (M 15)) : lk M (sv_u (sv_u (sv_u M 15 Y) 14 Z) 11 X) ∧ sv_u (sv_u (sv_u M 15 Y) 14 Z) 11 X 15 2 = M 15 2 := by
  refine ⟨⟨fun q h1 _ => ?_, ?_, ?_, ?_, ?_⟩, ?_⟩
  · rw [sv_un (by omega), sv_un (by omega), sv_un (by omega)]
  · rw [sv_un (by decide), sv_un (by decide), sv_un (by decide)]
  · rw [sv_un (by decide), sv_un (by decide), sv_un (by decide)]
  · rw [sv_un (by decide), sv_un (by decide), sv_us]
    exact h.1
  · rw [sv_un (by decide), sv_un (by decide), sv_us]
    exact h.2.1
  · rw [sv_un (by decide), sv_un (by decide), sv_us]
    exact h.2.2
theorem inv_lk {C B C2 B2 : Nat} {M M' : sv_M} (h : inv C B M) (hl : lk M M') (hC : C ≤ C2) (hB : B ≤ B2) : inv C2 B2 M' :=
  inv_same h hC hB (fun q h1 h2 => hl.1 q (by omega) h2) (hl.1 9 (by decide) (by decide)) (hl.1 10 (by decide) (by decide)) hl.2.1 hl.2.2.1 hl.2.2.2.1 hl.2.2.2.2
/-! come, turn, press, sensor, night, fire, set, pass -/
theorem com_in {m : Nat} {f t : Int32} (h : comC m f t = 0) : ∃ f' t', f' < 8 ∧ t' < 8 ∧ f = nI f' ∧ t = nI t' ∧ m < 6 ∧ ¬ f = t := by
  unfold comC at h
  split at h
  · rename_i h1
    split at h
    · cases h
    · rename_i h2
      have hne := wayC_ne h1
      unfold wayC at h1
      split at h1
      · cases h1
      · rename_i h3
        obtain ⟨f', hf, ef⟩ := inC_0 (n := 8) (i := f) (by decide) ((inC_01 8 f).resolve_right (fun q => h3 (Or.inl q)))
        obtain ⟨t', ht, et⟩ := inC_0 (n := 8) (i := t) (by decide) ((inC_01 8 t).resolve_right (fun q => h3 (Or.inr q)))
        exact ⟨f', t', hf, ht, ef, et, by omega, hne⟩
  · rename_i h1
    exact absurd h h1
theorem way_in {f t : Int32} (h : wayC f t = 0) : ∃ f' t', f' < 8 ∧ t' < 8 ∧ f = nI f' ∧ t = nI t' ∧ ¬ f = t := by
  obtain ⟨f', t', a, b, c, d, _, e⟩ := com_in (m := 0) (f := f) (t := t) (by unfold comC; rw [if_pos h]; rfl)
  exact ⟨f', t', a, b, c, d, e⟩
theorem fc_come {C B od hd n9 : Nat} {M M1 M2 : sv_M} {f t : Int32} (h : inw C B od hd n9 M) (hc : comC (many (M 0)) f t = 0) (e1 : M1 = sv_u (sav od hd M) 0 (entv (many (M 0)) f t (M 0 3) (M 0))) (e2 : M2 = sv_u (rsav hd (thr 0 M1)) 10 (entv (many (M 0)) f t (M1 10 3) (M1 10))) : inv (C + 15) (B + 50400) M2 ∧ M2 15 2 = 0 ∧ M 0 5 = M1 10 5 := by
  obtain ⟨f', t', hf, ht, rfl, rfl, hm, _⟩ := com_in hc
  have e10 : M1 10 = M 10 := by rw [e1]; exact inw_hi h (by decide)
  have hs := h.2.2.2.2.2.2.2.2.2.1
  rw [e10] at e2 ⊢
  have h9 := fin_sav h e1 e2 (Nat.le_add_right C 15) (Nat.le_add_right B 50400) (stt_mono (stt_come hs hm hf ht) (by omega) (by omega))
  exact ⟨h9.1, h9.2, hs.1.2.2.2 5 (by omega)⟩
theorem plL_eq {x y : vX} {v : Int32} : ∀ m, (∀ p, p < m → x (4 * p + 58) = y (4 * p + 58)) → plL x v m = plL y v m
  | 0, _ => rfl
  | m + 1, h => by
    unfold plL
    rw [h m (Nat.lt_succ_self m), plL_eq m (fun p hp => h p (by omega))]
theorem trn_pl {C B od hd n9 : Nat} {M : sv_M} {n : Int32} (h : inw C B od hd n9 M) (hC : C < 2147483648) : plL (M 10) n (many (M 0)) = plF (M 0) n (many (M 0)) 0 := by
  have hs := h.2.2.2.2.2.2.2.2.2.1
  obtain ⟨h1, h2, ⟨c, h3, h4⟩, h5, h6⟩ := hs
  rw [plF_plL h4 (by omega) (by omega)]
  exact (plL_eq _ (fun p hp => h1.2.2.2 _ (by omega))).symm
theorem trn_code {C B od hd n9 : Nat} {M : sv_M} {n t : Int32} (h : inw C B od hd n9 M) (hC : C < 2147483648) : trnR (M 10) (many (M 0)) n t = trnC (M 0) (many (M 0)) n t := by
  unfold trnR trnC
  rw [trn_pl h hC]
theorem fc_turn {C B od hd n9 : Nat} {M M1 M2 : sv_M} {n t : Int32} (h : inw C B od hd n9 M) (hC : C < 2147483648) (hc : trnC (M 0) (many (M 0)) n t = 0) (e1 : M1 = sv_u (sav od hd M) 0 (trnv (plF (M 0) n (many (M 0)) 0).toNatClampNeg t (M 0))) (e2 : M2 = sv_u (rsav hd (thr 0 M1)) 10 (trnv (plL (M1 10) n (many (M 0))).toNatClampNeg t (M1 10))) : inv (C + 15) (B + 50400) M2 ∧ M2 15 2 = 0 ∧ M 0 (4 * (plF (M 0) n (many (M 0)) 0).toNatClampNeg + 60) = M1 10 (4 * (plL (M1 10) n (many (M 0))).toNatClampNeg + 60) := by
  have e10 : M1 10 = M 10 := by rw [e1]; exact inw_hi h (by decide)
  have hs := h.2.2.2.2.2.2.2.2.2.1
  have hm6 := hs.2.1
  rw [e10, trn_pl h hC] at e2
  rw [e10, trn_pl h hC]
  unfold trnC at hc
  split at hc
  · cases hc
  · rename_i h1
    obtain ⟨g, _, g2, g3, _⟩ := (plF_in (x := M 0) (v := n) (many (M 0)) 0).resolve_left h1
    obtain ⟨t', ht, rfl⟩ := inC_0 (by decide) hc
    rw [g3, nI_clamp (by omega)] at e1 e2 ⊢
    have h9 := fin_sav h e1 e2 (Nat.le_add_right C 15) (Nat.le_add_right B 50400) (stt_mono (stt_turn hs (by omega) ht) (by omega) (by omega))
    exact ⟨h9.1, h9.2, hs.1.2.2.2 _ (by omega)⟩
theorem fc_press {C B od hd n9 : Nat} {M M1 M2 : sv_M} {f : Int32} (h : inw C B od hd n9 M) (hc : inC 8 f = 0) (e1 : M1 = sv_u (sav od hd M) 0 (sw (M 0 0) f.toNatClampNeg (M 0))) (e2 : M2 = sv_u (rsav hd (thr 0 M1)) 10 (sw (M1 10 0) f.toNatClampNeg (M1 10))) : inv (C + 15) (B + 50400) M2 ∧ M2 15 2 = 0 ∧ M 0 (6 * f.toNatClampNeg + 9) = M1 10 (6 * f.toNatClampNeg + 9) := by
  have e10 : M1 10 = M 10 := by rw [e1]; exact inw_hi h (by decide)
  have hs := h.2.2.2.2.2.2.2.2.2.1
  obtain ⟨g, hg, rfl⟩ := inC_0 (by decide) hc
  rw [nI_clamp (by omega)] at e1 e2 ⊢
  rw [e10] at e2 ⊢
  have h9 := fin_sav h e1 e2 (Nat.le_add_right C 15) (Nat.le_add_right B 50400) (stt_mono (stt_press hs hg) (by omega) (by omega))
  exact ⟨h9.1, h9.2, hs.1.2.2.2 _ (by omega)⟩
theorem fc_sensor {C B od hd n9 : Nat} {M M1 M2 : sv_M} {f b : Int32} (h : inw C B od hd n9 M) (hc : inC 8 f = 0) (e1 : M1 = sv_u (sav od hd M) 0 (upd (M 0) (6 * f.toNatClampNeg + 10) b)) (e2 : M2 = sv_u (rsav hd (thr 0 M1)) 10 (upd (M1 10) (6 * f.toNatClampNeg + 10) b)) : inv (C + 15) (B + 50400) M2 ∧ M2 15 2 = 0 ∧ M 0 (6 * f.toNatClampNeg + 10) = M1 10 (6 * f.toNatClampNeg + 10) := by
  have e10 : M1 10 = M 10 := by rw [e1]; exact inw_hi h (by decide)
  have hs := h.2.2.2.2.2.2.2.2.2.1
  obtain ⟨g, hg, rfl⟩ := inC_0 (by decide) hc
  rw [nI_clamp (by omega)] at e1 e2 ⊢
  rw [e10] at e2 ⊢
  have h9 := fin_sav h e1 e2 (Nat.le_add_right C 15) (Nat.le_add_right B 50400) (stt_mono (stt_set (i := 6 * g + 10) (v := b) hs (by omega) (Or.inl ⟨by omega, by omega⟩)) (by omega) (by omega))
  exact ⟨h9.1, h9.2, hs.1.2.2.2 _ (by omega)⟩
theorem fc_night {C B od hd n9 : Nat} {M M1 M2 : sv_M} {b : Int32} (h : inw C B od hd n9 M) (hb : b = 0 ∨ b = 1) (e1 : M1 = sv_u (sav od hd M) 0 (upd (M 0) 6 b)) (e2 : M2 = sv_u (rsav hd (thr 0 M1)) 10 (upd (M1 10) 6 b)) : inv (C + 15) (B + 50400) M2 ∧ M2 15 2 = 0 ∧ M 0 6 = M1 10 6 := by
  have e10 : M1 10 = M 10 := by rw [e1]; exact inw_hi h (by decide)
  have hs := h.2.2.2.2.2.2.2.2.2.1
  rw [e10] at e2 ⊢
  have h9 := fin_sav h e1 e2 (Nat.le_add_right C 15) (Nat.le_add_right B 50400) (stt_mono (stt_set (i := 6) (v := b) hs (by omega) (Or.inr hb)) (by omega) (by omega))
  exact ⟨h9.1, h9.2, hs.1.2.2.2 _ (by omega)⟩
theorem fc_fire {C B od hd n9 : Nat} {M M1 M2 : sv_M} {b : Int32} (h : inw C B od hd n9 M) (hb : b = 0 ∨ b = 1) (e1 : M1 = sv_u (sav od hd M) 0 (firv b (M 0))) (e2 : M2 = sv_u (rsav hd (thr 0 M1)) 10 (firR b (M1 10))) : inv (C + 15) (B + 50400) M2 ∧ M2 15 2 = 0 ∧ M 0 7 = M1 10 7 := by
  have e10 : M1 10 = M 10 := by rw [e1]; exact inw_hi h (by decide)
  have hs := h.2.2.2.2.2.2.2.2.2.1
  rw [e10] at e2 ⊢
  have h9 := fin_sav h e1 e2 (Nat.le_add_right C 15) (Nat.le_add_right B 50400) (stt_mono (stt_fire hs hb) (by omega) (by omega))
  exact ⟨h9.1, h9.2, hs.1.2.2.2 _ (by omega)⟩
theorem fc_set {C B od hd n9 : Nat} {M M1 M2 : sv_M} {f v : Int32} (h : inw C B od hd n9 M) (hc : setC f v = 0) (e1 : M1 = sv_u (sav od hd M) 0 (upd (M 0) f.toNatClampNeg v)) (e2 : M2 = sv_u (rsav hd (thr 0 M1)) 10 (upd (M1 10) f.toNatClampNeg v)) : inv (C + 15) (B + 50400) M2 ∧ M2 15 2 = 0 ∧ M 0 f.toNatClampNeg = M1 10 f.toNatClampNeg := by
  have e10 : M1 10 = M 10 := by rw [e1]; exact inw_hi h (by decide)
  have hs := h.2.2.2.2.2.2.2.2.2.1
  unfold setC at hc
  split at hc
  · cases hc
  · rename_i h1
    obtain ⟨g, hg, rfl⟩ := inC_0 (by decide) ((inC_01 4 f).resolve_right h1)
    rw [nI_clamp (by omega)] at e1 e2 hc ⊢
    rw [e10] at e2 ⊢
    split at hc
    · cases hc
    · rename_i h2
      have hst : stt C B (upd (M 0) g v) (upd (M 10) g v) := by
        by_cases h3 : g = 3
        · subst h3
          refine stt_set3 hs ?_
          have a1 : ¬ v < 1 := fun q => h2 (Or.inl q)
          have a2 : ¬ 60 < v := fun q => h2 (Or.inr q)
          obtain ⟨j, hj, ej⟩ := nI_of2 (x := v) (M := 60) (n := 60) (by decide) (fun q => a1 (Int32.lt_trans q (by decide))) (Int32.not_lt.mp a2)
          refine ⟨j, ?_, hj, ej⟩
          rcases Nat.eq_zero_or_pos j with q | q
          · rw [ej, q] at a1
            exact absurd (by decide) a1
          · exact q
        · exact stt_set hs (by omega) (Or.inl ⟨by omega, by omega⟩)
      have h9 := fin_sav h e1 e2 (Nat.le_add_right C 15) (Nat.le_add_right B 50400) (stt_mono hst (by omega) (by omega))
      exact ⟨h9.1, h9.2, hs.1.2.2.2 _ (by omega)⟩
theorem fc_pass {C B od hd n9 : Nat} {M M1 M2 : sv_M} {t d9 : Int32} (h : inw C B od hd n9 M) (hc : secC t = 0) (e1 : M1 = sv_u (sav od hd M) 0 (passv t.toNatClampNeg (M 0))) (e2 : M2 = sv_u (sv_u (rsav hd (thr 0 M1)) 15 (dkM (rsav hd (thr 0 M1)) d9)) 10 (rpass t.toNatClampNeg (M1 10))) : inv (C + 15) (B + 50400) M2 ∧ M2 15 2 = 0 ∧ dks (passv t.toNatClampNeg (M 0)) - dks (M 0) = dks (rpass t.toNatClampNeg (M1 10)) - dks (M1 10) := by
  have e10 : M1 10 = M 10 := by rw [e1]; exact inw_hi h (by decide)
  have hs := h.2.2.2.2.2.2.2.2.2.1
  obtain ⟨n, _, hn, rfl⟩ := secC_0 hc
  rw [nI_clamp (by omega)] at e1 e2 ⊢
  rw [e10] at e2 ⊢
  have h9 := fin_pas h e1 e2 (Nat.le_add_right C 15) (Nat.le_add_right B 50400) (stt_mono (stt_pass hs hn) (by omega) (by omega))
  refine ⟨h9.1, h9.2, ?_⟩
  rw [eqm_dks (rel_pass hs.1 n).2.2.2, eqm_dks hs.1.2.2.2]
/-! texts -/
theorem fc_append {C B od hd n9 : Nat} {M M1 M2 : sv_M} {f : Int32} (h : inw C B od hd n9 M) (hc : appC f n9 = 0) (e1 : M1 = sv_u M 9 (upd (upd (M 9) n9 f) 60 (nI (n9 + 1)))) (e2 : M2 = sv_u (sv_u M1 13 (upd (M1 13) n9 f)) 15 (upd (upd (M1 15) 2 0) 1 (nI (n9 + 1)))) : inv (C + 15) (B + 50400) M2 ∧ M2 15 2 = 0 := by
  obtain ⟨⟨g, hg, hg2, rfl⟩, hn⟩ := app_in hc
  obtain ⟨h1, h2, h3, h4, h5, h6, h7, h8, h9, ha, hb⟩ := h
  have a0 : ∀ q, q ≠ 9 → M1 q = M q := fun q hq => by rw [e1]; exact sv_un hq
  have a1 : ∀ q, q ≠ 13 → q ≠ 15 → M2 q = M1 q := fun q hq hq2 => by rw [e2, sv_un hq2, sv_un hq]
  have a15 : M2 15 = upd (upd (M 15) 2 0) 1 (nI (n9 + 1)) := by rw [e2, sv_us, a0 15 (by decide)]
  refine ⟨⟨od, hd, n9 + 1, h1, h2, by omega, ?_, ?_, ?_, ?_, ?_, fun i hi => ?_, ?_, hst_same hb (by omega) (by omega) (fun k hk => ?_) ?_⟩, ?_⟩
  · rw [a1 8 (by decide) (by decide), a0 8 (by decide)]
    exact h4
  · rw [a1 8 (by decide) (by decide), a0 8 (by decide)]
    exact h5
  · rw [a15, upd_n (by decide), upd_n (by decide)]
    exact h6
  · rw [a1 9 (by decide) (by decide), e1, sv_us, upd_s]
  · rw [a15, upd_s]
  · rw [a1 9 (by decide) (by decide), e1, sv_us, upd_n (by omega), e2, sv_un (by decide), sv_us, a0 13 (by decide)]
    by_cases hin : i = n9
    · rw [hin, upd_s, upd_s]
      exact ⟨rfl, chr_nI hg⟩
    · rw [upd_n hin, upd_n hin]
      exact h9 i hi
  · rw [a1 0 (by decide) (by decide), a0 0 (by decide), a1 10 (by decide) (by decide), a0 10 (by decide)]
    exact stt_mono ha (by omega) (by omega)
  · rw [a1 (2 + k) (by omega) (by omega), a0 (2 + k) (by omega)]
  · rw [a1 12 (by decide) (by decide), a0 12 (by decide)]
  · rw [a15, upd_n (by decide), upd_s]
theorem fc_clear {C B od hd n9 : Nat} {M M1 M2 : sv_M} (h : inw C B od hd n9 M) (e1 : M1 = sv_u M 9 (upd (M 9) 60 0)) (e2 : M2 = sv_u M1 15 (upd (upd (M1 15) 2 0) 1 0)) : inv (C + 15) (B + 50400) M2 ∧ M 9 60 = M1 15 1 := by
  obtain ⟨h1, h2, h3, h4, h5, h6, h7, h8, h9, ha, hb⟩ := h
  have a0 : ∀ q, q ≠ 9 → M1 q = M q := fun q hq => by rw [e1]; exact sv_un hq
  have a1 : ∀ q, q ≠ 15 → M2 q = M1 q := fun q hq2 => by rw [e2, sv_un hq2]
  have a15 : M2 15 = upd (upd (M 15) 2 0) 1 0 := by rw [e2, sv_us, a0 15 (by decide)]
  refine ⟨⟨od, hd, 0, h1, h2, by omega, ?_, ?_, ?_, ?_, ?_, fun i hi => ?_, ?_, hst_same hb (by omega) (by omega) (fun k hk => ?_) ?_⟩, ?_⟩
  · rw [a1 8 (by decide), a0 8 (by decide)]
    exact h4
  · rw [a1 8 (by decide), a0 8 (by decide)]
    exact h5
  · rw [a15, upd_n (by decide), upd_n (by decide)]
    exact h6
  · rw [a1 9 (by decide), e1, sv_us, upd_s]
    rfl
  · rw [a15, upd_s]
    rfl
  · rw [a1 9 (by decide), e1, sv_us, upd_n (by omega), a1 13 (by decide), a0 13 (by decide)]
    exact h9 i hi
  · rw [a1 0 (by decide), a0 0 (by decide), a1 10 (by decide), a0 10 (by decide)]
    exact stt_mono ha (by omega) (by omega)
  · rw [a1 (2 + k) (by omega), a0 (2 + k) (by omega)]
  · rw [a1 12 (by decide), a0 12 (by decide)]
  · rw [a0 15 (by decide), h7, h8]
theorem epF_eq {cd cd2 : vX} {N : Nat} (h : ∀ i, i < N → cd i = cd2 i) : ∀ t i, t + i ≤ N → epF cd t i = epF cd2 t i
  | 0, _, _ => rfl
  | t + 1, i, hN => by
    have e : ftI cd i = ftI cd2 i := by
      unfold ftI
      rw [h i (by omega), h (i - 1) (by omega), h (i - 2) (by omega)]
    unfold epF
    rw [e, epF_eq h t (i + 1) (by omega)]
theorem txt_eq {C B od hd n9 : Nat} {M : sv_M} (h : inw C B od hd n9 M) : epF (M 13) n9 0 = epF (M 9) n9 0 ∧ cmaC n9 (M 13) = cmaC n9 (M 9) := by
  obtain ⟨h1, h2, h3, h4, h5, h6, h7, h8, h9, ha, hb⟩ := h
  have e : epF (M 13) n9 0 = epF (M 9) n9 0 := epF_eq (N := 60) (fun i hi => (h9 i hi).1) n9 0 (by omega)
  exact ⟨e, by unfold cmaC; rw [e]⟩
theorem rcx_eq {cd cd2 : vX} {w : Nat → Nat} {x : vX} : ∀ n, (∀ i, i < 4 * n → cd i = cd2 i) → rcx cd w x n = rcx cd2 w x n
  | 0, _ => rfl
  | n + 1, h => by
    have ih := rcx_eq (cd := cd) (cd2 := cd2) (w := w) (x := x) n (fun i hi => h i (by omega))
    show entv (many (rpass (w n) (rcx cd w x n))) (cd (4 * n) - 48) (cd (4 * n + 2) - 48) (rpass (w n) (rcx cd w x n) 3) (rpass (w n) (rcx cd w x n)) = entv (many (rpass (w n) (rcx cd2 w x n))) (cd2 (4 * n) - 48) (cd2 (4 * n + 2) - 48) (rpass (w n) (rcx cd2 w x n) 3) (rpass (w n) (rcx cd2 w x n))
    rw [ih, h (4 * n) (by omega), h (4 * n + 2) (by omega)]
/-- what comeAll asks of both -/
theorem all_ok {C B od hd n9 : Nat} {M : sv_M} (h : inw C B od hd n9 M) (hc : cmaC n9 (M 9) = 0) : (∀ k, k < (n9 + 1) / 4 → rok (M 13) (cwk (M 0) (M 9)) (M 10) k) ∧ rcx (M 13) (cwk (M 0) (M 9)) (M 10) ((n9 + 1) / 4) = rcx (M 9) (cwk (M 0) (M 9)) (M 10) ((n9 + 1) / 4) := by
  obtain ⟨h1, h2, h3, h4, h5, h6, h7, h8, h9, ha, hb⟩ := h
  have hw := wys_of hc
  refine ⟨fun k hk => ?_, rcx_eq _ (fun i hi => (h9 i (by omega)).1)⟩
  have r := rok_cax ha.1 ha.2.1 hw k hk
  obtain ⟨a, b, c, d⟩ := r
  have e := rcx_eq (cd := M 13) (cd2 := M 9) (w := cwk (M 0) (M 9)) (x := M 10) k (fun i hi => (h9 i (by omega)).1)
  unfold rok
  rw [e, (h9 (4 * k) (by omega)).1, (h9 (4 * k + 2) (by omega)).1]
  exact ⟨a, b, c, d⟩
theorem all_hro {C B od hd n9 : Nat} {M : sv_M} (h : inw C B od hd n9 M) (hc : cmaC n9 (M 9) = 0) : ∀ i, i < (n9 + 1) / 4 → vd (cax (M 9) i (M 0)) ∧ many (wtd (cax (M 9) i (M 0))) < 6 := by
  obtain ⟨h1, h2, h3, h4, h5, h6, h7, h8, h9, ha, hb⟩ := h
  intro i hi
  obtain ⟨r, _⟩ := rel_cax ha.1 ha.2.1 (wys_of hc) i (by omega)
  exact ⟨r.1, (wt_room r).1⟩
theorem fc_all {C B od hd n9 : Nat} {M M1 M2 : sv_M} (h : inw C B od hd n9 M) (hc : cmaC n9 (M 9) = 0) (e1 : M1 = sv_u (sv_u (sav od hd M) 0 (cax (M 9) ((n9 + 1) / 4) (M 0))) 9 (upd (M 9) 60 0)) (e2 : M2 = cmM hd (rcx (M1 13) (cwk (M 0) (M 9)) (M1 10) ((n9 + 1) / 4)) M1) : inv (C + 15) (B + 50400) M2 ∧ M2 15 2 = 0 ∧ casI (M 9) (M 0) ((n9 + 1) / 4) = rcx (M1 13) (cwk (M 0) (M 9)) (M1 10) ((n9 + 1) / 4) 4 - M1 10 4 := by
  have hi : ∀ q, 10 ≤ q → M1 q = M q := fun q hq => by
    rw [e1, sv_un (by omega)]
    exact inw_hi h (by omega)
  have hr := (all_ok h hc).2
  have hw := wys_of hc
  have hs := h.2.2.2.2.2.2.2.2.2.1
  have hn9 := h.2.2.1
  rw [hi 13 (by decide), hi 10 (by decide), hr] at e2 ⊢
  have hst := stt_all hs hw (by omega)
  have a15 : M2 15 = upd (rsav hd (thr 0 M1) 15) 1 0 := by
    rw [e2]
    unfold cmM
    rw [sv_us]
  have b15 : rsav hd (thr 0 M1) 15 = upd (thr 0 M1 15) 0 (nI (rsk hd + 1)) := by
    unfold rsav
    rw [sv_us]
  have alo : ∀ q, q < 10 → M2 q = M1 q := fun q hq => by
    rw [e2]
    unfold cmM rsav
    rw [sv_un (by omega), sv_un (by omega), sv_un (by omega), sv_un (by omega), thr_n (by omega)]
  refine ⟨inv_call (n2 := 0) h (Nat.le_add_right C 15) (Nat.le_add_right B 50400) ?_ ?_ (fun k hk => ?_) ?_ ?_ (by omega) ?_ (fun i hi9 => ?_) ?_ ?_, ?_, ?_⟩
  · rw [alo 0 (by decide), e1, sv_un (by decide), sv_us, e2]
    unfold cmM
    rw [sv_un (by decide), sv_us]
    exact hst
  · rw [alo 8 (by decide), e1, sv_un (by decide), sv_un (by decide)]
  · rw [alo (2 + k) (by omega), e1, sv_un (by omega), sv_un (by omega)]
  · rw [e2]
    unfold cmM rsav
    rw [sv_un (by decide), sv_un (by decide), sv_un (by decide), sv_us]
    exact rsP_eq ((thr_n (by decide)).trans (hi 10 (by decide))) ((thr_n (by decide)).trans (hi 12 (by decide)))
  · rw [a15, upd_n (by decide), b15, upd_s]
  · rw [alo 9 (by decide), e1, sv_us, upd_s]
    rfl
  · rw [alo 9 (by decide), e1, sv_us, upd_n (by omega)]
  · rw [e2]
    unfold cmM rsav
    rw [sv_un (by decide), sv_un (by decide), sv_un (by decide), sv_un (by decide), thr_n (by decide)]
    exact hi 13 (by decide)
  · rw [a15, upd_s]
    rfl
  · rw [a15, upd_n (by decide), b15, upd_n (by decide), thr_2]
  · exact (rcx_4 hs.1 hs.2.1 hw).symm
theorem fc_undo {C B od hd n9 k : Nat} {M M1 M2 : sv_M} (h : inw C B od hd n9 M) (hc : undC hd = 0) (hk : k = (od + (hd - 1)) % 6) (e1 : M1 = rsM (hd - 1) k M) (e2 : M2 = sv_u (sv_u M1 10 (cpB (86 * (hd - 1)) 0 (M1 12) 86 (M1 10))) 15 (upd (upd (M1 15) 2 0) 0 (nI (hd - 1)))) : inv (C + 15) (B + 50400) M2 ∧ M2 15 2 = 0 := by
  have h0 : 0 < hd := by
    unfold undC at hc
    split at hc
    · cases hc
    · omega
  have hi : ∀ q, q ≠ 8 → q ≠ 0 → M1 q = M q := fun q hq hq2 => by
    rw [e1]
    unfold rsM
    rw [sv_un hq2, sv_un hq]
  have a1 : ∀ q, q ≠ 10 → q ≠ 15 → M2 q = M1 q := fun q hq hq2 => by rw [e2, sv_un hq2, sv_un hq]
  have a15 : M2 15 = upd (upd (M 15) 2 0) 0 (nI (hd - 1)) := by rw [e2, sv_us, hi 15 (by decide) (by decide)]
  refine ⟨inv_lk (C := C) (B := B) (inv_undo h h0 ?_ ?_ (fun k9 hk9 => ?_) ?_ ?_ ?_ ?_ ?_ ?_) lk_r (by omega) (by omega), ?_⟩
  · rw [a1 0 (by decide) (by decide), e1, hk]
    unfold rsM
    rw [sv_us]
  · rw [e2, sv_un (by decide), sv_us, hi 12 (by decide) (by decide), hi 10 (by decide) (by decide)]
  · rw [a1 (2 + k9) (by omega) (by omega), hi (2 + k9) (by omega) (by omega)]
  · rw [a1 8 (by decide) (by decide), e1]
    unfold rsM
    rw [sv_un (by decide), sv_us]
  · rw [a1 12 (by decide) (by decide), hi 12 (by decide) (by decide)]
  · rw [a15, upd_s]
  · rw [a1 9 (by decide) (by decide), hi 9 (by decide) (by decide)]
  · rw [a1 13 (by decide) (by decide), hi 13 (by decide) (by decide)]
  · rw [a15, upd_n (by decide), upd_n (by decide)]
  · rw [a15, upd_n (by decide), upd_s]
