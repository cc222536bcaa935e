/-! a second's walk: class and reference -/
def rowq (X Y : vX) (a b : Nat) : Prop := ∀ i, i < 4 → X (4 * a + 58 + i) = Y (4 * b + 58 + i)
theorem wk_row {T : Int32} {X Y : vX} {a b t : Nat} (h : rowq X Y a b) (h1 : 1 ≤ t) (h2 : t < 2147483648) (el : X (4 * a + 61) = nI t) (hT : Y 3 = T) : rowq (wkv T a X) (wkr b Y) a b := by
  have e0 : X (4 * a + 58) = Y (4 * b + 58) := h 0 (by decide)
  have e1 : X (4 * a + 59) = Y (4 * b + 59) := h 1 (by decide)
  have e2 : X (4 * a + 60) = Y (4 * b + 60) := h 2 (by decide)
  have e3 : Y (4 * b + 61) = nI t := (h 3 (by decide)).symm.trans el
  obtain ⟨u, rfl⟩ : ∃ u, t = u + 1 := ⟨t - 1, by omega⟩
  have c1 : X (4 * a + 61) + (-1) = nI u := by rw [el]; exact pk_m1 u
  have c2 : Y (4 * b + 61) - 1 = nI u := by rw [e3]; exact pk_sub (a := u + 1) (b := 1) (by omega)
  intro i hi
  unfold wkv wkr
  rw [c1, c2]
  by_cases hu : u = 0
  · have g1 : nI u ≤ 0 := by rw [hu]; decide
    have g2 : nI u = 0 := by rw [hu]; rfl
    rw [if_pos g1, if_pos g2, e1, e2, hT]
    rcases (show i = 0 ∨ i = 1 ∨ i = 2 ∨ i = 3 by omega) with rfl | rfl | rfl | rfl
    · rw [upd_n (by omega), upd_n (by omega), upd_n (by omega), upd_n (by omega), upd_n (by omega), upd_n (by omega)]
      exact e0
    · rw [upd_n (by omega), upd_s, upd_n (by omega), upd_s]
    · rw [upd_n (by omega), upd_n (by omega), upd_n (by omega), upd_n (by omega), upd_n (by omega), upd_n (by omega)]
      exact e2
    · rw [show 4 * a + 58 + 3 = 4 * a + 61 from rfl, show 4 * b + 58 + 3 = 4 * b + 61 from rfl, upd_s, upd_s]
  · have g1 : ¬ nI u ≤ 0 := nI_nle (by omega) (by omega)
    have g2 : ¬ nI u = 0 := fun h => hu (nI_eq0 (by omega) h)
    rw [if_neg g1, if_neg g2]
    rcases (show i = 0 ∨ i = 1 ∨ i = 2 ∨ i = 3 by omega) with rfl | rfl | rfl | rfl
    · rw [upd_n (by omega), upd_n (by omega)]
      exact e0
    · rw [upd_n (by omega), upd_n (by omega)]
      exact e1
    · rw [upd_n (by omega), upd_n (by omega)]
      exact e2
    · rw [show 4 * a + 58 + 3 = 4 * a + 61 from rfl, show 4 * b + 58 + 3 = 4 * b + 61 from rfl, upd_s, upd_s]
theorem rowq_r {X Y Y' : vX} {a b b' : Nat} (h : rowq X Y a b) (h2 : rowq Y Y' b b') : rowq X Y' a b' := fun i hi => (h i hi).trans (h2 i hi)
theorem rowq_s {X Y : vX} {a b : Nat} (h : rowq X Y a b) : rowq Y X b a := fun i hi => (h i hi).symm
theorem wkv_rowo {T : Int32} {X : vX} {a j : Nat} (h : j ≠ a) : rowq (wkv T a X) X j j := fun i hi => wkv_o (by omega) (by omega)
theorem wkr_rowo {Y : vX} {a j : Nat} (h : j ≠ a) : rowq (wkr a Y) Y j j := fun i hi => wkr_o (by omega) (by omega)
theorem mvv_row {X : vX} {p s : Nat} : rowq (mvv p s X) X s p := fun i hi => by
  rcases (show i = 0 ∨ i = 1 ∨ i = 2 ∨ i = 3 by omega) with rfl | rfl | rfl | rfl
  · exact mvv_58
  · exact mvv_59
  · exact mvv_60
  · exact mvv_61
theorem mvv_rowo {X : vX} {p s j : Nat} (h : j ≠ s) : rowq (mvv p s X) X j j := fun i hi => mvv_o (by omega)
theorem rlv_row {Y : vX} {p m j : Nat} (h : p ≤ j) (hj : j + 1 < m) : rowq (rlv p m Y) Y j (j + 1) := fun i hi => by
  unfold rlv
  have h9 := shl_i (a := 4 * p + 58) (x := upd Y 57 (nI (m - 1))) (k := 4 * (j - p) + i) (4 * (m - 1 - p)) (by omega)
  rw [show 4 * p + 58 + (4 * (j - p) + i) = 4 * j + 58 + i by omega] at h9
  rw [h9, upd_n (by omega), show 4 * j + 58 + i + 4 = 4 * (j + 1) + 58 + i by omega]
theorem rlv_rowo {Y : vX} {p m j : Nat} (h : j < p) : rowq (rlv p m Y) Y j j := fun i hi => by
  unfold rlv
  rw [shl_o _ (by omega), upd_n (by omega)]
/-- who is on the way has a second left to the next floor -/
def lft (x : vX) (p : Nat) : Prop := x (4 * p + 59) = x (4 * p + 60) ∨ ∃ t, 1 ≤ t ∧ t ≤ 60 ∧ x (4 * p + 61) = nI t
/-- after k of m people: class X with s kept, reference Y with p kept of n -/
def sim (x : vX) (m k : Nat) (a : vX × Nat) (b : vX × Nat × Nat) : Prop := b.2.1 = a.2 ∧ b.2.2 = a.2 + (m - k) ∧ a.2 ≤ k ∧ (∀ j, j < a.2 → rowq a.1 b.1 j j) ∧ (∀ j, k ≤ j → j < m → rowq a.1 x j j) ∧ ∀ j, k ≤ j → j < m → rowq b.1 x (a.2 + (j - k)) j
theorem sim_go {T : Int32} {x y : vX} {m : Nat} (hT : y 3 = T) (hl : ∀ p, p < m → lft x p) (h : ∀ p, p < m → rowq y x p p) : ∀ k, k ≤ m → sim x m k (goS T k x) (rwS m y k)
  | 0, _ => ⟨rfl, by show m = 0 + (m - 0); omega, Nat.le_refl _, fun j hj => absurd hj (Nat.not_lt_zero _), fun j _ _ i _ => rfl, fun j _ hj => by
      show rowq y x (0 + (j - 0)) j
      rw [show 0 + (j - 0) = j by omega]
      exact h j hj⟩
  | k + 1, hk => by
    obtain ⟨h1, h2, h3, h4, h5, h6⟩ := sim_go hT hl h k (by omega)
    have hy3 := rwS_o (m := m) (x := y) (k := 3) (by decide) k
    show sim x m (k + 1) (goB T k (goS T k x)) (rst (rwS m y k))
    generalize goS T k x = A at h1 h2 h3 h4 h5 h6
    generalize rwS m y k = B at h1 h2 h4 h6 hy3
    obtain ⟨X, s⟩ := A
    obtain ⟨Y, p, n⟩ := B
    dsimp only at h1 h2 h3 h4 h5 h6 hy3
    subst h1
    have rX := h5 k (Nat.le_refl _) (by omega)
    have rY := h6 k (Nat.le_refl _) (by omega)
    rw [Nat.sub_self, Nat.add_zero] at rY
    have rXY := rowq_r rX (rowq_s rY)
    have a1 : X (4 * k + 59) = Y (4 * p + 59) := rXY 1 (by decide)
    have a2 : X (4 * k + 60) = Y (4 * p + 60) := rXY 2 (by decide)
    unfold goB rst
    dsimp only
    by_cases ht : X (4 * k + 59) = X (4 * k + 60)
    · rw [if_pos ht, if_pos (by rw [← a1, ← a2]; exact ht)]
      refine ⟨rfl, by dsimp only; omega, by dsimp only; omega, fun j hj => ?_, fun j hj hm => h5 j (by omega) hm, fun j hj hm => ?_⟩
      · exact rowq_r (h4 j hj) (rowq_s (rlv_rowo hj))
      · dsimp only at hj ⊢
        have r9 := h6 j (by omega) hm
        rw [show p + (j - k) = p + (j - (k + 1)) + 1 by omega] at r9
        exact rowq_r (rlv_row (by omega) (by omega)) r9
    · rw [if_neg ht, if_neg (by rw [← a1, ← a2]; exact ht)]
      have b3 : X (4 * k + 61) = x (4 * k + 61) := rX 3 (by decide)
      have hlk : ∃ t, 1 ≤ t ∧ t ≤ 60 ∧ x (4 * k + 61) = nI t := (hl k (by omega)).resolve_left (fun q => ht (by
        have b1 : X (4 * k + 59) = x (4 * k + 59) := rX 1 (by decide)
        have b2 : X (4 * k + 60) = x (4 * k + 60) := rX 2 (by decide)
        rw [b1, b2]
        exact q))
      obtain ⟨t, t1, t2, et⟩ := hlk
      have w := wk_row (T := T) rXY t1 (by omega) (b3.trans et) (hy3.trans hT)
      refine ⟨rfl, by dsimp only; omega, by dsimp only; omega, fun j hj => ?_, fun j hj hm => ?_, fun j hj hm => ?_⟩
      · dsimp only at hj ⊢
        by_cases hjp : j = p
        · rw [hjp]
          exact rowq_r mvv_row w
        · exact rowq_r (mvv_rowo hjp) (rowq_r (wkv_rowo (by omega)) (rowq_r (h4 j (by omega)) (rowq_s (wkr_rowo hjp))))
      · exact rowq_r (mvv_rowo (by omega)) (rowq_r (wkv_rowo (by omega)) (h5 j (by omega) hm))
      · dsimp only at hj ⊢
        have r9 := h6 j (by omega) hm
        rw [show p + (j - k) = p + 1 + (j - (k + 1)) by omega] at r9
        exact rowq_r (wkr_rowo (by omega)) r9
