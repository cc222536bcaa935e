/-! class vector against reference vector: equal below the stale rows -/
def eqm (m : Nat) (x y : vX) : Prop := ∀ k, k < 58 + 4 * m → x k = y k
theorem eqm_upd {m i : Nat} {v w : Int32} {x y : vX} (h : eqm m x y) (e : v = w) : eqm m (upd x i v) (upd y i w) := fun k hk => by
  subst e
  by_cases h1 : k = i
  · rw [h1, upd_s, upd_s]
  · rw [upd_n h1, upd_n h1, h k hk]
theorem eqm_fo {m : Nat} {g g2 : Nat → vX → vX} {N : Nat} (hg : ∀ i, i < N → ∀ x y, eqm m x y → eqm m (g i x) (g2 i y)) {x y : vX} (h : eqm m x y) : ∀ n, n ≤ N → eqm m (fo g n x) (fo g2 n y)
  | 0, _ => h
  | n + 1, hn => hg n (by omega) _ _ (eqm_fo hg h n (by omega))
theorem eqm_sw {m f : Nat} {T T2 : Int32} (hf : f < 8) (e : T = T2) {x y : vX} (h : eqm m x y) : eqm m (sw T f x) (sw T2 f y) := by
  subst e
  have h1 := h (6 * f + 9) (by omega)
  have h2 := h (6 * f + 14) (by omega)
  unfold sw
  rw [h1, h2]
  have h3 : eqm m (if y (6 * f + 9) = 0 then upd x (6 * f + 14) (y (6 * f + 14) + 1) else x) (if y (6 * f + 9) = 0 then upd y (6 * f + 14) (y (6 * f + 14) + 1) else y) := by
    split
    · exact eqm_upd h rfl
    · exact h
  split
  · exact h3
  · exact eqm_upd h3 rfl
theorem eqm_lamp {m f : Nat} (hf : f < 8) {x y : vX} (h : eqm m x y) : lampv x f = lampv y f := by
  unfold lampv
  rw [h 7 (by omega), h (6 * f + 9) (by omega), h 6 (by omega), h 1 (by omega)]
theorem eqm_arnd {m f : Nat} (hf : f < 8) {x y : vX} (h : eqm m x y) : eqm m (arnd f x) (arnd f y) := by
  unfold arnd
  have h0 := h 0 (by omega)
  rw [h 2 (by omega)]
  have h1 := eqm_sw hf h0 h
  split
  · have h2 : eqm m ((if 0 < f then sw (x 0) (f - 1) else id) (sw (x 0) f x)) ((if 0 < f then sw (y 0) (f - 1) else id) (sw (y 0) f y)) := by
      split
      · exact eqm_sw (by omega) h0 h1
      · exact h1
    split
    · exact eqm_sw (by omega) h0 h2
    · exact h2
  · exact h1
theorem eqm_on {m : Nat} {x y : vX} {v : Int32} (h : eqm m x y) : ∀ n, n ≤ m → onI x v n = onI y v n
  | 0, _ => rfl
  | n + 1, hn => by
    unfold onI
    rw [eqm_on h n (by omega), h (4 * n + 59) (by omega)]
theorem eqm_la {m f : Nat} (hf : f < 8) {x y : vX} (h : eqm m x y) : eqm m (la m f x) (la m f y) := by
  unfold la
  rw [h (6 * f + 10) (by omega), eqm_on h m (Nat.le_refl _)]
  split
  · exact eqm_arnd hf h
  · exact h
theorem eqm_cnt {m f : Nat} (hf : f < 8) {x y : vX} (h : eqm m x y) : eqm m (cnt f x) (cnt f y) := by
  unfold cnt
  rw [eqm_lamp hf h, h (6 * f + 11) (by omega), h (6 * f + 12) (by omega)]
  have h1 : eqm m (if lampv y f = 0 then upd x (6 * f + 11) (y (6 * f + 11) + 1) else if lampv y f = 1 then upd x (6 * f + 12) (y (6 * f + 12) + 1) else x) (if lampv y f = 0 then upd y (6 * f + 11) (y (6 * f + 11) + 1) else if lampv y f = 1 then upd y (6 * f + 12) (y (6 * f + 12) + 1) else y) := by
    split
    · exact eqm_upd h rfl
    · split
      · exact eqm_upd h rfl
      · exact h
  exact eqm_upd h1 (congrArg (· + 1) (h1 8 (by omega)))
theorem eqm_fend {m f : Nat} (hf : f < 8) {x y : vX} (h : eqm m x y) : eqm m (fend f x) (fend f y) := by
  unfold fend bdn
  rw [eqm_lamp hf h, h (6 * f + 13) (by omega)]
  have h1 : eqm m (upd x (6 * f + 13) (y (6 * f + 13) + powv (lampv y f))) (upd y (6 * f + 13) (y (6 * f + 13) + powv (lampv y f))) := eqm_upd h rfl
  rw [h1 (6 * f + 9) (by omega)]
  split
  · exact h1
  · exact eqm_upd h1 rfl
theorem eqm_cntp {m : Nat} {x y : vX} (hv : vfl m x) (h : eqm m x y) : ∀ n, n ≤ m → eqm m (fo cntp n x) (fo cntp n y)
  | 0, _ => h
  | n + 1, hn => by
    have ih := eqm_cntp hv h n (by omega)
    obtain ⟨f, hf, ef⟩ := hv n (by omega)
    have e1 : fo cntp n x (4 * n + 59) = nI f := by rw [focnt_o hv (Or.inr (by omega)) n (by omega), ef]
    have e2 : fo cntp n y (4 * n + 59) = nI f := by rw [← ih (4 * n + 59) (by omega), e1]
    show eqm m (cnt (fo cntp n x (4 * n + 59)).toNatClampNeg (fo cntp n x)) (cnt (fo cntp n y (4 * n + 59)).toNatClampNeg (fo cntp n y))
    rw [e1, e2, nI_clamp (by omega)]
    exact eqm_cnt hf ih
theorem eqm_end {m : Nat} {x y : vX} (hv : vfl m x) (h : eqm m x y) : eqm m (endv m x) (endv m y) := by
  unfold endv
  have h1 := eqm_fo (N := 8) (g := fend) (g2 := fend) (fun i hi x y h => eqm_fend hi h) (eqm_cntp hv h m (Nat.le_refl _)) 8 (Nat.le_refl _)
  exact eqm_upd h1 (congrArg (· + 1) (h1 4 (by omega)))
