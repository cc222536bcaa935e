/-! the reference: its own ways, as functions of 86-vectors -/
theorem sel_ne {p : Prop} [Decidable p] {a b : Int32} : (if ¬ p then a else b) = (if p then b else a) := ite_not p a b
/-- n places from a on come 4 places nearer -/
def shl (a n : Nat) (x : vX) : vX := fo (fun k y => upd y (a + k) (y (a + k + 4))) n x
theorem shl_o {a : Nat} {x : vX} {k : Nat} : ∀ n, (k < a ∨ a + n ≤ k) → shl a n x k = x k
  | 0, _ => rfl
  | n + 1, h => by
    show upd (shl a n x) (a + n) (shl a n x (a + n + 4)) k = x k
    rw [upd_n (by omega), shl_o n (by omega)]
theorem shl_i {a : Nat} {x : vX} {k : Nat} : ∀ n, k < n → shl a n x (a + k) = x (a + k + 4)
  | 0, h => absurd h (Nat.not_lt_zero _)
  | n + 1, h => by
    show upd (shl a n x) (a + n) (shl a n x (a + n + 4)) (a + k) = x (a + k + 4)
    rcases Nat.lt_or_ge k n with h1 | h1
    · rw [upd_n (by omega), shl_i n h1]
    · obtain rfl : k = n := by omega
      rw [upd_s, shl_o k (by omega)]
/-- who stands at place p, of m, leaves -/
def rlv (p m : Nat) (x : vX) : vX := shl (4 * p + 58) (4 * (m - 1 - p)) (upd x 57 (nI (m - 1)))
def wkr (p : Nat) (x : vX) : vX :=
  if x (4 * p + 61) - 1 = 0 then
    upd (upd (upd x (4 * p + 61) (x (4 * p + 61) - 1)) (4 * p + 59) (x (4 * p + 59) + if x (4 * p + 60) ≤ x (4 * p + 59) then (-1) else 1)) (4 * p + 61) (if x (4 * p + 59) + (if x (4 * p + 60) ≤ x (4 * p + 59) then (-1) else 1) = x (4 * p + 60) then 0 else x 3)
  else upd x (4 * p + 61) (x (4 * p + 61) - 1)
theorem wkr_o {p : Nat} {x : vX} {k : Nat} (h : k ≠ 4 * p + 59) (h2 : k ≠ 4 * p + 61) : wkr p x k = x k := by
  unfold wkr
  split
  · rw [upd_n h2, upd_n h, upd_n h2]
  · rw [upd_n h2]
def rst (s : vX × Nat × Nat) : vX × Nat × Nat := if s.1 (4 * s.2.1 + 59) = s.1 (4 * s.2.1 + 60) then (rlv s.2.1 s.2.2 s.1, s.2.1, s.2.2 - 1) else (wkr s.2.1 s.1, s.2.1 + 1, s.2.2)
def rwS (m : Nat) (x : vX) (k : Nat) : vX × Nat × Nat := fo (fun _ => rst) k (x, 0, m)
theorem rwS_in {m : Nat} {x : vX} (hx : x 57 = nI m) : ∀ k, k ≤ m → (rwS m x k).2.1 + (m - k) = (rwS m x k).2.2 ∧ (rwS m x k).2.2 ≤ m ∧ (rwS m x k).1 57 = nI (rwS m x k).2.2
  | 0, _ => ⟨Nat.zero_add _, Nat.le_refl _, hx⟩
  | k + 1, hk => by
    obtain ⟨h1, h2, h3⟩ := rwS_in hx k (by omega)
    show (rst (rwS m x k)).2.1 + (m - (k + 1)) = (rst (rwS m x k)).2.2 ∧ (rst (rwS m x k)).2.2 ≤ m ∧ (rst (rwS m x k)).1 57 = nI (rst (rwS m x k)).2.2
    unfold rst
    split
    · dsimp only
      refine ⟨by omega, by omega, ?_⟩
      unfold rlv
      rw [shl_o _ (by omega), upd_s]
    · dsimp only
      refine ⟨by omega, by omega, ?_⟩
      rw [wkr_o (by omega) (by omega), h3]
theorem rwS_o {m : Nat} {x : vX} {k : Nat} (h : k < 57) : ∀ n, (rwS m x n).1 k = x k
  | 0 => rfl
  | n + 1 => by
    have ih := rwS_o (m := m) (x := x) h n
    show (rst (rwS m x n)).1 k = x k
    unfold rst
    split
    · show rlv _ _ _ k = x k
      unfold rlv
      rw [shl_o _ (by omega), upd_n (by omega), ih]
    · show wkr _ _ k = x k
      rw [wkr_o (by omega) (by omega), ih]
/-- all walk -/
def rwk (m : Nat) (x : vX) : vX := (rwS m x m).1
def rwn (m : Nat) (x : vX) : Nat := (rwS m x m).2.2
theorem rwk_57 {m : Nat} {x : vX} (hx : x 57 = nI m) : rwk m x 57 = nI (rwn m x) ∧ rwn m x ≤ m := ⟨(rwS_in hx m (Nat.le_refl _)).2.2, (rwS_in hx m (Nat.le_refl _)).2.1⟩
theorem swR_ge {T : Int32} {f : Nat} {x : vX} (h : T ≤ x (6 * f + 9)) : upd (upd x (6 * f + 14) (x (6 * f + 14) + if x (6 * f + 9) = 0 then 1 else 0)) (6 * f + 9) (x (6 * f + 9)) = sw T f x := by
  have e : ∀ v, upd (upd x (6 * f + 14) v) (6 * f + 9) (x (6 * f + 9)) = upd x (6 * f + 14) v := fun v => by
    have h9 : upd x (6 * f + 14) v (6 * f + 9) = x (6 * f + 9) := upd_n (by omega)
    rw [← h9, upd_i]
  rw [e]
  unfold sw
  rw [if_pos h]
  split
  · rfl
  · rw [Int32.add_zero, upd_i]
theorem swR_lt {T : Int32} {f : Nat} {x : vX} (h : ¬ T ≤ x (6 * f + 9)) : upd (upd x (6 * f + 14) (x (6 * f + 14) + if x (6 * f + 9) = 0 then 1 else 0)) (6 * f + 9) T = sw T f x := by
  unfold sw
  rw [if_neg h]
  split
  · rfl
  · rw [Int32.add_zero, upd_i]
/-- the begin of a second of the reference; what its watched one has in the dark -/
def rbg (m : Nat) (x : vX) : vX := fo (la (rwn m x)) 8 (rwk m x)
def rdk (v : Int32) (b : vX) (p : Nat) : Int32 := if lampv (fo cntp p b) (b (4 * p + 59)).toNatClampNeg = 0 ∧ b (4 * p + 58) = v then 1 else 0
def rsec (m : Nat) (x : vX) : vX := endv (rwn m x) (rbg m x)
def rdks (v : Int32) (m : Nat) (x : vX) : Int32 := smI (rdk v (rbg m x)) (rwn m x)
/-- copying between rows of the reference -/
def cpB (a b : Nat) (x : vX) (n : Nat) (y : vX) : vX := fo (fun k y => upd y (b + k) (x (a + k))) n y
def shf (n : Nat) (x : vX) : vX := fo (fun k y => upd y k (y (k + 86))) n x
/-- what a second of the reference asks -/
def rgd (x : vX) : Prop := x 57 = nI (many x) ∧ many x ≤ 7 ∧ (x 6 = 0 ∨ x 6 = 1) ∧ vfl (rwn (many x) x) (rbg (many x) x)
def rsc (x : vX) : vX := rsec (many x) x
def rpass (n : Nat) (x : vX) : vX := fo (fun _ => rsc) n x
def rdn (v : Int32) (x : vX) (n : Nat) : Int32 := smI (fun i => rdks v (many (rpass i x)) (rpass i x)) n
/-- the watched one's seconds in the dark -/
def dkM (M : sv_M) (d : Int32) : vX := upd (M 15) 7 (M 15 7 + d)
theorem dkM_0 (M : sv_M) : dkM M 0 = M 15 := by
  unfold dkM
  rw [Int32.add_zero, upd_i]
theorem sv_u3 {M : sv_M} {q : Nat} {X Y Z : vX} (h : q ≠ 15) : sv_u (sv_u (sv_u M 15 Y) q X) 15 Z = sv_u (sv_u M 15 Z) q X := by
  rw [sv_uc h, sv_uu]
theorem cntR (f : Nat) (x : vX) : upd (upd (upd x (6 * f + 11) (x (6 * f + 11) + if lampv x f = 0 then 1 else 0)) (6 * f + 12) (x (6 * f + 12) + if lampv x f = 1 then 1 else 0)) 8 (x 8 + 1) = cnt f x := by
  unfold cnt
  by_cases h0 : lampv x f = 0
  · have h1 : ¬ lampv x f = 1 := fun h => absurd (h0.symm.trans h) (by decide)
    simp only [if_pos h0, if_neg h1, Int32.add_zero]
    have e : upd x (6 * f + 11) (x (6 * f + 11) + 1) (6 * f + 12) = x (6 * f + 12) := upd_n (by omega)
    rw [← e, upd_i, upd_n (show 8 ≠ 6 * f + 11 by omega)]
  · simp only [if_neg h0, Int32.add_zero, upd_i]
    by_cases h1 : lampv x f = 1
    · simp only [if_pos h1]
      rw [upd_n (show 8 ≠ 6 * f + 12 by omega)]
    · simp only [if_neg h1, Int32.add_zero, upd_i]
theorem bdnR (f : Nat) (x : vX) : upd x (6 * f + 9) (x (6 * f + 9) - if x (6 * f + 9) ≤ 0 then 0 else 1) = bdn f x := by
  unfold bdn
  split
  · rw [Int32.sub_zero, upd_i]
  · rw [Int32.sub_eq_add_neg]
theorem powR {x : vX} {f : Nat} (b6 : x 6 = 0 ∨ x 6 = 1) (h : lampv x f < 2) : nI 3 * lampv x f = powv (lampv x f) := by
  have h9 : lampv x f = 0 ∨ lampv x f = 1 := by
    unfold lampv at h ⊢
    split at h
    · exact absurd h (by decide)
    · split at h
      · rw [if_neg ‹_›, if_pos ‹_›]
        exact b6
      · split at h
        · exact absurd h (by decide)
        · exact absurd h (by decide)
  rcases h9 with e | e <;> rw [e] <;> decide
theorem rbg_57 {x : vX} (hx : x 57 = nI (many x)) : rbg (many x) x 57 = nI (rwn (many x) x) := by
  unfold rbg
  rw [fola_o (Or.inr (by decide)) 8 (by decide)]
  exact (rwk_57 hx).1
theorem rbg_lo {m : Nat} {x : vX} {k : Nat} (h : k < 9) : rbg m x k = x k := by
  unfold rbg
  rw [fola_o (Or.inl h) 8 (by decide)]
  exact rwS_o (by omega) m
/-- a state is saved -/
def rsk (kp : Nat) : Nat := if kp = 6 then 5 else kp
def rsP (kp : Nat) (M : sv_M) : vX := cpB 0 (86 * rsk kp) (M 10) 86 (if kp = 6 then shf 430 (M 12) else M 12)
def rsav (kp : Nat) (M : sv_M) : sv_M := sv_u (sv_u M 12 (rsP kp M)) 15 (upd (M 15) 0 (nI (rsk kp + 1)))
theorem rsav_10 (kp : Nat) (M : sv_M) : rsav kp M 10 = M 10 := by
  unfold rsav
  rw [sv_un (by decide), sv_un (by decide)]
def thr (k : Int32) (M : sv_M) : sv_M := sv_u M 15 (upd (M 15) 2 k)
theorem thr_n {k : Int32} {M : sv_M} {q : Nat} (h : q ≠ 15) : thr k M q = M q := sv_un h
theorem thr_15 {k : Int32} {M : sv_M} {i : Nat} (h : i ≠ 2) : thr k M 15 i = M 15 i := by
  unfold thr
  rw [sv_us, upd_n h]
theorem thr_2 {k : Int32} {M : sv_M} : thr k M 15 2 = k := by
  unfold thr
  rw [sv_us, upd_s]
theorem thr_thr {k j : Int32} {M : sv_M} : thr j (thr k M) = thr j M := by
  unfold thr
  rw [sv_us, sv_uu, upd_u]
theorem thr_w {k : Int32} {M : sv_M} : sv_w M 15 2 k = thr k M := sv_wu _ _ _ _
