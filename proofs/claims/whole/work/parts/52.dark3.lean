/-! one who is watched: how long, and how many dark seconds -/
theorem has_sec {x : vX} (h : vd x) {v : Int32} (h2 : has v (secv x)) : has v x := by
  obtain ⟨m1, m2⟩ := sec_many h
  obtain ⟨p, hp, e⟩ := h2
  rw [m1] at hp
  have e1 := sec_row h hp 0 (by decide)
  rw [m2] at hp
  obtain ⟨σ, s1, s2, s3⟩ := goS_sub (T := x 3) (x := x) (many x)
  have e2 := s1 p hp
  exact ⟨σ p, e2.1, e2.2.symm.trans (e1.symm.trans e)⟩
theorem dnF_420 {x y : vX} (h : rel x y) (v : Int32) : dnF v 480 x ≤ 420 ∧ plx v (passv (dnF v 480 x) x) = (-1) := by
  have hle : dnF v 480 x ≤ 420 := by
    rcases Nat.lt_or_ge 420 (dnF v 480 x) with h1 | h1
    · exfalso
      have h2 := dnF_lo v 480 x 420 h1
      refine h2 ((plx_has (vd_pass h.1 420) v).mpr ?_)
      rintro ⟨p, hp, _⟩
      have h3 : many (secv (passv 420 x)) = 0 := all_gone h
      omega
    · exact h1
  refine ⟨hle, ?_⟩
  rcases dnF_hi v 480 x with h1 | h1
  · exact h1
  · omega
theorem rdn_dc {x y : vX} {c : Nat} (h : rel x y) (hn : nums x c) (hc : c < 2147483648) (v : Int32) : ∀ n, (∀ i, i < n → ¬ plx v (passv i x) = (-1)) → rdn v y n = dcF v x n
  | 0, _ => by
    show (0 : Int32) = 0
    rfl
  | n + 1, hi => by
    show rdn v y n + rdks v (many (rpass n y)) (rpass n y) = dcF v x n + dwd v (passv n x)
    rw [rdn_dc h hn hc v n (fun i h9 => hi i (by omega)), rdks_eq (rel_pass h n) (nums_pass h.1 hn n) hc v, if_neg (hi n (by omega))]
theorem wok_dn {x y : vX} {v : Int32} (h : rel x y) (hv : has v x) : wok v y (dnF v 480 x + 1) := by
  obtain ⟨d1, d2⟩ := dnF_420 h v
  have hit : ∀ i, itF (rpass i y) v (many (rpass i y)) = 0 ↔ ¬ has v (passv i x) := fun i => (itF_has _).trans (not_congr (rel_has (rel_pass h i) v))
  refine ⟨fun i _ => rel_rgd h i, fun i hi hz => ?_, ?_⟩
  · have h1 := (hit i).mp hz
    cases i with
    | zero => exact h1 hv
    | succ i =>
      have h2 := dnF_lo v 480 x i (by omega)
      exact h2 ((plx_has (vd_pass h.1 i) v).mpr h1)
  · refine (hit _).mpr ?_
    exact (plx_has (vd_pass h.1 _) v).mp d2
theorem rdn_dn {x y : vX} {c : Nat} {v : Int32} (h : rel x y) (hn : nums x c) (hc : c < 2147483648) : rdn v y (dnF v 480 x + 1) = dcF v x (dnF v 480 x) := by
  obtain ⟨d1, d2⟩ := dnF_420 h v
  show rdn v y (dnF v 480 x) + rdks v (many (rpass (dnF v 480 x) y)) (rpass (dnF v 480 x) y) = _
  rw [rdn_dc h hn hc v _ (fun i hi => dnF_lo v 480 x i hi), rdks_eq (rel_pass h _) (nums_pass h.1 hn _) hc v, if_pos d2, Int32.add_zero]
/-- a walk in thought: class and reference -/
theorem rel_dwx {x y z : vX} {f t : Nat} {T : Int32} (h : rel x y) (hm : many x ≤ 6) (hf : f < 8) (ht : t < 8) : rel (dwx (nI f) (nI t) T x) (wxy y z (many x) (nI f) (nI t) T) := by
  have h1 := rel_set (i := 0) (v := T) (rel_cp (z := z) h) (by decide) (by decide) (Or.inl ⟨by decide, by decide⟩)
  have h2 := rel_ent (f := f) (t := t) h1 (by rw [many_upd (by decide)]; omega) hf ht
  rw [many_upd (by decide), upd_n (by decide), upd_n (by decide), cpB_0 (by decide)] at h2
  exact h2
theorem nums_dwx {x : vX} {c : Nat} {f t T : Int32} (hn : nums x c) (hm : many x ≤ 6) : nums (dwx f t T x) (c + 1) := by
  have h1 : nums (upd x 0 T) c := nums_lo hn (fun k hk => upd_n (by omega))
  have h2 := nums_ent (f := f) (t := t) (T := x 3) h1 (by rw [many_upd (by decide)]; omega)
  rw [many_upd (by decide)] at h2
  exact h2
theorem has_dwx {x : vX} {f t T : Int32} (hm : many x ≤ 6) : has (x 5) (dwx f t T x) := by
  refine ⟨many x, ?_, ?_⟩
  · have : many (dwx f t T x) = many x + 1 := many_eq entv_57 (by omega)
    omega
  · unfold dwx entv
    rw [upd_n (by omega), upd_n (by omega), upd_n (by omega), upd_n (by omega), upd_n (by omega), upd_s, upd_n (by decide)]
theorem wkD_dkw {x y : vX} {c f t : Nat} {T : Int32} (h : rel x y) (hm : many x ≤ 6) (hn : nums x c) (hc : c + 1 < 2147483648) (hf : f < 8) (ht : t < 8) : wkD y (many x) (nI f) (nI t) T (dkw (nI f) (nI t) T x) := by
  have e5 : y 5 = x 5 := (h.2.2.2 5 (by omega)).symm
  refine ⟨dnF (x 5) 480 (dwx (nI f) (nI t) T x) + 1, fun z => ?_⟩
  rw [e5]
  have h1 := rel_dwx (z := z) (T := T) h hm hf ht
  exact ⟨wok_dn h1 (has_dwx hm), rdn_dn h1 (nums_dwx hn hm) hc⟩
