/-! what the stairs tell adds up -/
theorem i32_rc (a b c : Int32) : a + b + c = a + c + b := by rw [Int32.add_assoc, Int32.add_comm b c, ← Int32.add_assoc]
def onN (x : vX) (v : Int32) : Nat → Nat
  | 0 => 0
  | n + 1 => onN x v n + if x (4 * n + 59) = v then 1 else 0
theorem onI_N (x : vX) (v : Int32) : ∀ n, onI x v n = nI (onN x v n)
  | 0 => rfl
  | n + 1 => by
    show onI x v n + (if x (4 * n + 59) = v then 1 else 0) = nI (onN x v n + if x (4 * n + 59) = v then 1 else 0)
    rw [onI_N x v n]
    split
    · exact nI_1 _
    · exact Int32.add_zero _
theorem onN_le (x : vX) (v : Int32) : ∀ n, onN x v n ≤ n
  | 0 => Nat.le_refl _
  | n + 1 => by
    have := onN_le x v n
    show onN x v n + (if x (4 * n + 59) = v then 1 else 0) ≤ n + 1
    split <;> omega
theorem onN_pos {x : vX} {v : Int32} {p : Nat} (e : x (4 * p + 59) = v) : ∀ n, p < n → 1 ≤ onN x v n
  | 0, h => absurd h (Nat.not_lt_zero _)
  | n + 1, h => by
    show 1 ≤ onN x v n + (if x (4 * n + 59) = v then 1 else 0)
    by_cases hp : p = n
    · subst hp
      rw [if_pos e]
      omega
    · have := onN_pos e n (by omega)
      omega
theorem onI_pos {x : vX} {v : Int32} {p n : Nat} (e : x (4 * p + 59) = v) (h : p < n) (hn : n < 2147483648) : 0 < onI x v n := by
  rw [onI_N]
  have h1 := onN_pos e n h
  have h2 := onN_le x v n
  exact (nI_ltI (a := 0) (by omega) (by omega)).mpr (by omega)
theorem onI_eq {x y : vX} {v : Int32} : ∀ n, (∀ p, p < n → x (4 * p + 59) = y (4 * p + 59)) → onI x v n = onI y v n
  | 0, _ => rfl
  | n + 1, h => by
    show onI x v n + (if x (4 * n + 59) = v then 1 else 0) = onI y v n + (if y (4 * n + 59) = v then 1 else 0)
    rw [onI_eq n (fun p hp => h p (by omega)), h n (by omega)]
theorem smN_c {d e : Nat → Nat} : ∀ n, (∀ f, f < n → d f = e f) → smN d n = smN e n
  | 0, _ => rfl
  | n + 1, h => by
    show smN d n + d n = smN e n + e n
    rw [smN_c n (fun f hf => h f (by omega)), h n (by omega)]
theorem smN_0 : ∀ n, smN (fun _ => 0) n = 0
  | 0 => rfl
  | n + 1 => by
    show smN (fun _ => 0) n + 0 = 0
    rw [smN_0 n]
theorem onN_sum {x : vX} {m : Nat} (hv : vfl m x) : ∀ n, n ≤ m → smN (fun f => onN x (nI f) n) 8 = n
  | 0, _ => smN_0 8
  | n + 1, hn => by
    obtain ⟨g, hg, eg⟩ := hv n (by omega)
    have ih := onN_sum hv n (by omega)
    have e : smN (fun f => onN x (nI f) (n + 1)) 8 = smN (fun f => if f = g then onN x (nI f) n + 1 else onN x (nI f) n) 8 := smN_c 8 (fun f hf => by
      show onN x (nI f) n + (if x (4 * n + 59) = nI f then 1 else 0) = _
      rw [eg]
      by_cases h : f = g
      · rw [h, if_pos rfl, if_pos rfl]
      · rw [if_neg h, if_neg (fun q => h ((nI_eq (by omega) (by omega)).mp q).symm), Nat.add_zero])
    rw [e, smN_up 8 hg, ih]
theorem smI_c {F F' : Nat → Int32} : ∀ n, (∀ f, f < n → F f = F' f) → smI F n = smI F' n
  | 0, _ => rfl
  | n + 1, h => by
    show smI F n + F n = smI F' n + F' n
    rw [smI_c n (fun f hf => h f (by omega)), h n (by omega)]
theorem on_sum {x : vX} {m : Nat} (hv : vfl m x) : smI (fun f => onI x (nI f) m) 8 = nI m := by
  rw [smI_N (d := fun f => onN x (nI f) m) 8 (fun f _ => onI_N x (nI f) m), onN_sum hv m (Nat.le_refl _)]
/-- broken sensors among the first n -/
def bkN (x : vX) : Nat → Nat
  | 0 => 0
  | n + 1 => bkN x n + if x (6 * n + 10) = 0 then 1 else 0
theorem bkN_le (x : vX) : ∀ n, bkN x n ≤ n
  | 0 => Nat.le_refl _
  | n + 1 => by
    have := bkN_le x n
    show bkN x n + (if x (6 * n + 10) = 0 then 1 else 0) ≤ n + 1
    split <;> omega
theorem bkN_0 (x : vX) : ∀ n, bkN x n = 0 ↔ ∀ f, f < n → ¬ x (6 * f + 10) = 0
  | 0 => ⟨fun _ f hf => absurd hf (Nat.not_lt_zero _), fun _ => rfl⟩
  | n + 1 => by
    have ih := bkN_0 x n
    have e : bkN x (n + 1) = bkN x n + if x (6 * n + 10) = 0 then 1 else 0 := rfl
    rw [e]
    constructor
    · intro h f hf
      by_cases h1 : x (6 * n + 10) = 0
      · rw [if_pos h1] at h
        omega
      · rw [if_neg h1] at h
        by_cases hfn : f = n
        · rw [hfn]
          exact h1
        · exact ih.mp (by omega) f (by omega)
    · intro h
      rw [if_neg (h n (by omega)), ih.mpr (fun f hf => h f (by omega))]
theorem bk_sum {x : vX} (hs : snds x) : ∀ n, n ≤ 8 → nI (bkN x n) + smI (fun f => x (6 * f + 10)) n = nI n
  | 0, _ => rfl
  | n + 1, hn => by
    have ih := bk_sum hs n (by omega)
    show nI (bkN x n + if x (6 * n + 10) = 0 then 1 else 0) + (smI (fun f => x (6 * f + 10)) n + x (6 * n + 10)) = nI (n + 1)
    rcases hs n (by omega) with h | h
    · rw [h, if_pos rfl, Int32.add_zero, ← nI_1, ← nI_1, i32_rc, ih]
    · rw [h, if_neg (by decide), Nat.add_zero, ← Int32.add_assoc, ih]
      exact nI_1 n
theorem bk_eq {x : vX} (hs : snds x) : nI 8 - snd8 x = nI (bkN x 8) := by
  have h := bk_sum hs 8 (by decide)
  rw [← h]
  exact Int32.add_sub_cancel _ _
/-- the worst floor -/
theorem mm_no (x : vX) : ∀ n, n ≤ 8 → (mm x n = (-1) ↔ ∀ f, f < n → ¬ x (6 * f + 10) = 0)
  | 0, _ => ⟨fun _ f hf => absurd hf (Nat.not_lt_zero _), fun _ => rfl⟩
  | n + 1, hn => by
    have ih := mm_no x n (by omega)
    have e : mm x (n + 1) = if x (6 * n + 10) = 0 ∧ (mm x n = (-1) ∨ x (6 * (mm x n).toNatClampNeg + 11) < x (6 * n + 11)) then nI n else mm x n := rfl
    rw [e]
    by_cases h1 : x (6 * n + 10) = 0 ∧ (mm x n = (-1) ∨ x (6 * (mm x n).toNatClampNeg + 11) < x (6 * n + 11))
    · rw [if_pos h1]
      exact ⟨fun q => absurd q (nI_m1 (by omega)), fun q => absurd h1.1 (q n (by omega))⟩
    · rw [if_neg h1]
      constructor
      · intro h f hf
        by_cases hfn : f = n
        · rw [hfn]
          exact fun q => h1 ⟨q, Or.inl h⟩
        · exact ih.mp h f (by omega)
      · exact fun h => ih.mpr (fun f hf => h f (by omega))
theorem mm_in (x : vX) : ∀ n, mm x n = (-1) ∨ ∃ g, g < n ∧ mm x n = nI g ∧ x (6 * g + 10) = 0
  | 0 => Or.inl rfl
  | n + 1 => by
    have e : mm x (n + 1) = if x (6 * n + 10) = 0 ∧ (mm x n = (-1) ∨ x (6 * (mm x n).toNatClampNeg + 11) < x (6 * n + 11)) then nI n else mm x n := rfl
    rw [e]
    by_cases h1 : x (6 * n + 10) = 0 ∧ (mm x n = (-1) ∨ x (6 * (mm x n).toNatClampNeg + 11) < x (6 * n + 11))
    · rw [if_pos h1]
      exact Or.inr ⟨n, Nat.lt_succ_self n, rfl, h1.1⟩
    · rw [if_neg h1]
      rcases mm_in x n with h | ⟨g, hg, h⟩
      · exact Or.inl h
      · exact Or.inr ⟨g, by omega, h⟩
/-- sums: one number changes -/
theorem smI_add {F F' : Nat → Int32} {f : Nat} {v : Int32} (h1 : F' f = F f + v) (h2 : ∀ g, g ≠ f → F' g = F g) : ∀ n, smI F' n = if f < n then smI F n + v else smI F n
  | 0 => by rw [if_neg (Nat.not_lt_zero _)]; rfl
  | n + 1 => by
    have ih := smI_add h1 h2 n
    show smI F' n + F' n = if f < n + 1 then smI F n + F n + v else smI F n + F n
    rw [ih]
    by_cases h : f < n
    · rw [if_pos h, if_pos (by omega), h2 n (by omega), i32_rc]
    · rw [if_neg h]
      by_cases hn : f = n
      · rw [if_pos (by omega), ← hn, h1, Int32.add_assoc]
      · rw [if_neg (by omega), h2 n (fun q => hn q.symm)]
theorem smI_same {F F' : Nat → Int32} (h2 : ∀ g, F' g = F g) (n : Nat) : smI F' n = smI F n := smI_c n (fun g _ => h2 g)
theorem dks_cnt {x : vX} {f : Nat} (hf : f < 8) : ∃ d, d ≤ 1 ∧ dks (cnt f x) = dks x + nI d ∧ (¬ lampv x f = 0 → d = 0) := by
  unfold cnt dks
  by_cases l0 : lampv x f = 0
  · rw [if_pos l0]
    refine ⟨1, Nat.le_refl _, ?_, fun q => absurd l0 q⟩
    have h9 := smI_add (F := fun g => x (6 * g + 11)) (F' := fun g => upd (upd x (6 * f + 11) (x (6 * f + 11) + 1)) 8 (upd x (6 * f + 11) (x (6 * f + 11) + 1) 8 + 1) (6 * g + 11)) (f := f) (v := 1) (by rw [upd_n (by omega), upd_s]) (fun g hg => by rw [upd_n (by omega), upd_n (by omega)]) 8
    rw [if_pos hf] at h9
    exact h9
  · rw [if_neg l0]
    refine ⟨0, by omega, ?_, fun _ => rfl⟩
    rw [show nI 0 = 0 from rfl, Int32.add_zero]
    refine smI_same (fun g => ?_) 8
    show upd _ 8 _ (6 * g + 11) = _
    rw [upd_n (by omega)]
    split
    · exact upd_n (by omega)
    · rfl
theorem dms_cnt {x : vX} {f : Nat} (h : ¬ lampv x f = 1) : dms (cnt f x) = dms x := by
  unfold cnt dms
  refine smI_same (fun g => ?_) 8
  show upd _ 8 _ (6 * g + 12) = _
  rw [upd_n (by omega)]
  split
  · exact upd_n (by omega)
  · rfl
theorem dks_focnt {m : Nat} {x : vX} (hv : vfl m x) : ∀ n, n ≤ m → ∃ d, d ≤ n ∧ dks (fo cntp n x) = dks x + nI d ∧ ((∀ p, p < n → ¬ lampv x (x (4 * p + 59)).toNatClampNeg = 0) → d = 0)
  | 0, _ => ⟨0, Nat.le_refl _, (Int32.add_zero _).symm, fun _ => rfl⟩
  | n + 1, hn => by
    obtain ⟨d, d1, d2, d3⟩ := dks_focnt hv n (by omega)
    obtain ⟨f, hf, ef⟩ := hv n (by omega)
    have e1 : fo cntp n x (4 * n + 59) = nI f := by rw [focnt_o hv (Or.inr (by omega)) n (by omega), ef]
    obtain ⟨e, a1, a2, a3⟩ := dks_cnt (x := fo cntp n x) hf
    refine ⟨d + e, by omega, ?_, fun hp => ?_⟩
    · show dks (cnt (fo cntp n x (4 * n + 59)).toNatClampNeg (fo cntp n x)) = _
      rw [e1, nI_clamp (by omega), a2, d2, Int32.add_assoc, nI_add]
    · rw [d3 (fun p hp9 => hp p (by omega))]
      have h9 := hp n (by omega)
      rw [ef, nI_clamp (by omega)] at h9
      rw [a3 (by rw [focnt_lamp hv (by omega)]; exact h9)]
theorem dms_focnt {m : Nat} {x : vX} (hv : vfl m x) : ∀ n, n ≤ m → (∀ p, p < n → ¬ lampv x (x (4 * p + 59)).toNatClampNeg = 1) → dms (fo cntp n x) = dms x
  | 0, _, _ => rfl
  | n + 1, hn, hp => by
    have ih := dms_focnt hv n (by omega) (fun p hp9 => hp p (by omega))
    obtain ⟨f, hf, ef⟩ := hv n (by omega)
    have e1 : fo cntp n x (4 * n + 59) = nI f := by rw [focnt_o hv (Or.inr (by omega)) n (by omega), ef]
    show dms (cnt (fo cntp n x (4 * n + 59)).toNatClampNeg (fo cntp n x)) = _
    have h9 := hp n (by omega)
    rw [ef, nI_clamp (by omega)] at h9
    rw [e1, nI_clamp (by omega), dms_cnt (by rw [focnt_lamp hv (by omega)]; exact h9), ih]
theorem dks_beg (x : vX) : dks (begx x) = dks x := smI_c 8 (fun g hg => beg_k (by omega) (by omega))
theorem dms_beg (x : vX) : dms (begx x) = dms x := smI_c 8 (fun g hg => by
  show begx x (6 * g + 12) = x (6 * g + 12)
  show beginv (many x) x _ = _
  unfold beginv
  rw [fola_d (by omega)]
  unfold goOnv
  rw [upd_n (by omega), goS_o _ _ _ (by omega)])
theorem dks_end (x : vX) : dks (endv (many x) x) = dks (fo cntp (many x) x) := smI_c 8 (fun g hg => by
  show endv (many x) x (6 * g + 11) = _
  unfold endv
  show upd _ 4 _ _ = _
  rw [upd_n (by omega), fofend_d (by omega)])
theorem dms_end (x : vX) : dms (endv (many x) x) = dms (fo cntp (many x) x) := smI_c 8 (fun g hg => by
  show endv (many x) x (6 * g + 12) = _
  unfold endv
  show upd _ 4 _ _ = _
  rw [upd_n (by omega), fofend_d (by omega)])
theorem dks_sec {x : vX} (h : vd x) : ∃ d, d ≤ 7 ∧ dks (secv x) = dks x + nI d ∧ ((∀ p, p < many (begx x) → ¬ lampv (begx x) (begx x (4 * p + 59)).toNatClampNeg = 0) → d = 0) := by
  have hmid := vd_mid h
  have hv : vfl (many (begx x)) (begx x) := vfl_of hmid.2.2.2.2
  have hm7 : many (begx x) ≤ 7 := hmid.1
  obtain ⟨d, d1, d2, d3⟩ := dks_focnt hv _ (Nat.le_refl _)
  refine ⟨d, by omega, ?_, d3⟩
  show dks (endv (many (begx x)) (begx x)) = _
  rw [dks_end, d2, dks_beg]
theorem dms_sec {x : vX} (h : vd x) (hp : ∀ p, p < many (begx x) → ¬ lampv (begx x) (begx x (4 * p + 59)).toNatClampNeg = 1) : dms (secv x) = dms x := by
  have hv : vfl (many (begx x)) (begx x) := vfl_of (vd_mid h).2.2.2.2
  show dms (endv (many (begx x)) (begx x)) = _
  rw [dms_end, dms_focnt hv _ (Nat.le_refl _) hp, dms_beg]
theorem dks_pass {x : vX} (h : vd x) : ∀ n, ∃ d, d ≤ 7 * n ∧ dks (passv n x) = dks x + nI d
  | 0 => ⟨0, Nat.le_refl _, (Int32.add_zero _).symm⟩
  | n + 1 => by
    obtain ⟨d, d1, d2⟩ := dks_pass h n
    obtain ⟨e, e1, e2, _⟩ := dks_sec (vd_pass h n)
    refine ⟨d + e, by omega, ?_⟩
    show dks (secv (passv n x)) = _
    rw [e2, d2, Int32.add_assoc, nI_add]
/-- all sensors are sound -/
def asd (x : vX) : Prop := ∀ f, f < 8 → x (6 * f + 10) = 1
def on1 (x : vX) (f : Nat) : Prop := ∃ b, 1 ≤ b ∧ b ≤ 200 ∧ x (6 * f + 9) = nI b
theorem on1_sw {T : Int32} {f : Nat} {x : vX} (hn : brn x) (hT : t200 T) (hf : f < 8) : on1 (sw T f x) f := by
  unfold on1
  rw [sw_9, if_pos rfl]
  exact brn_mx hT (hn.2 f hf)
theorem on1_keep {T : Int32} {f g : Nat} {x : vX} (hn : brn x) (hT : t200 T) (hg : g < 8) (h : on1 x f) : on1 (sw T g x) f := by
  unfold on1
  rw [sw_9]
  by_cases q : f = g
  · rw [if_pos q]
    exact brn_mx hT (hn.2 g hg)
  · rw [if_neg q]
    exact h
theorem on1_arnd {f g : Nat} {x : vX} (hn : brn x) (hg : g < 8) (h : f = g ∨ on1 x f) : on1 (arnd g x) f := by
  have h1 : on1 (sw (x 0) g x) f := by
    rcases h with rfl | h
    · exact on1_sw hn hn.1 hg
    · exact on1_keep hn hn.1 hg h
  have b1 := brn_sw hn hn.1 hg
  unfold arnd
  split
  · have h2 : on1 ((if 0 < g then sw (x 0) (g - 1) else id) (sw (x 0) g x)) f ∧ brn ((if 0 < g then sw (x 0) (g - 1) else id) (sw (x 0) g x)) := by
      split
      · exact ⟨on1_keep b1 hn.1 (by omega) h1, brn_sw b1 hn.1 (by omega)⟩
      · exact ⟨h1, b1⟩
    split
    · exact on1_keep h2.2 hn.1 (by omega) h2.1
    · exact h2.1
  · exact h1
theorem on1_fola {m f : Nat} {x : vX} (hn : brn x) (h10 : x (6 * f + 10) = 1) (hon : 0 < onI x (nI f) m) : ∀ n, n ≤ 8 → f < n → on1 (fo (la m) n x) f
  | 0, _, h => absurd h (Nat.not_lt_zero _)
  | n + 1, hn8, hf => by
    have hb := brn_fola (m := m) hn n (by omega)
    have e : ∀ y, la m n y = if y (6 * n + 10) = 1 ∧ 0 < onI y (nI n) m then arnd n y else y := fun _ => rfl
    show on1 (la m n (fo (la m) n x)) f
    by_cases q : f = n
    · subst q
      rw [e, if_pos]
      · exact on1_arnd hb (by omega) (Or.inl rfl)
      · refine ⟨by rw [fola_k (by omega)]; exact h10, ?_⟩
        rw [onI_eq (y := x) m (fun p _ => fola_o (Or.inr (by omega)) f (by omega))]
        exact hon
    · have ih := on1_fola hn h10 hon n (by omega) (by omega)
      rw [e]
      split
      · exact on1_arnd hb (by omega) (Or.inr ih)
      · exact ih
theorem on1_lamp {x : vX} {f : Nat} (h : on1 x f) : lampv x f = 2 ∨ lampv x f = 3 := by
  obtain ⟨b, b1, b2, e⟩ := h
  unfold lampv
  split
  · exact Or.inr rfl
  · rw [if_neg (by rw [e]; exact nI_ne0 b1 (by omega))]
    split
    · exact Or.inl rfl
    · exact Or.inr rfl
theorem asd_beg {x : vX} (h : vd x) (hb : brn x) (ha : asd x) {p f : Nat} (hp : p < many (begx x)) (hf : f < 8) (e : begx x (4 * p + 59) = nI f) : on1 (begx x) f := by
  obtain ⟨m1, m2⟩ := sec_many h
  have hm7 : many (begx x) ≤ 7 := (vd_mid h).1
  have hg : brn (goOnv (x 3) (many x) x) := brn_go hb
  show on1 (fo (la (goS (x 3) (many x) x).2) 8 (goOnv (x 3) (many x) x)) f
  refine on1_fola hg ?_ ?_ 8 (by decide) hf
  · unfold goOnv
    rw [upd_n (by omega), goS_o _ _ _ (by omega)]
    exact ha f hf
  · rw [← m2]
    refine onI_pos (p := p) ?_ hp (by omega)
    rw [← e]
    show _ = fo (la (goS (x 3) (many x) x).2) 8 (goOnv (x 3) (many x) x) (4 * p + 59)
    rw [fola_o (Or.inr (by omega)) 8 (by decide)]
theorem asd_sec {x : vX} (h : vd x) (hb : brn x) (ha : asd x) : dks (secv x) = dks x ∧ dms (secv x) = dms x := by
  have hv : vfl (many (begx x)) (begx x) := vfl_of (vd_mid h).2.2.2.2
  have key : ∀ p, p < many (begx x) → lampv (begx x) (begx x (4 * p + 59)).toNatClampNeg = 2 ∨ lampv (begx x) (begx x (4 * p + 59)).toNatClampNeg = 3 := fun p hp => by
    obtain ⟨f, hf, e⟩ := hv p hp
    rw [e, nI_clamp (by omega)]
    exact on1_lamp (asd_beg h hb ha hp hf e)
  obtain ⟨d, _, d2, d3⟩ := dks_sec h
  refine ⟨?_, dms_sec h (fun p hp q => ?_)⟩
  · rw [d2, d3 (fun p hp q => ?_)]
    · exact Int32.add_zero _
    · rcases key p hp with e | e <;> rw [e] at q <;> exact absurd q (by decide)
  · rcases key p hp with e | e <;> rw [e] at q <;> exact absurd q (by decide)
theorem asd_of {x x' : vX} (h : asd x) (hx : ∀ f, f < 8 → x' (6 * f + 10) = x (6 * f + 10)) : asd x' := fun f hf => by
  rw [hx f hf]
  exact h f hf
theorem asd_pass {x : vX} (h : vd x) (hb : brn x) (ha : asd x) : ∀ n, dks (passv n x) = dks x ∧ dms (passv n x) = dms x
  | 0 => ⟨rfl, rfl⟩
  | n + 1 => by
    obtain ⟨i1, i2⟩ := asd_pass h hb ha n
    obtain ⟨s1, s2⟩ := asd_sec (vd_pass h n) (brn_pass h hb n) (asd_of ha (fun f hf => pass_10 hf n))
    exact ⟨s1.trans i1, s2.trans i2⟩
