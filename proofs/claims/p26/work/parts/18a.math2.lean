/-! what the calls tell -/
theorem i32_nn {p : Int32} (h : 0 ≤ p) : ∃ g, g < 2147483648 ∧ p = nI g := by
  rcases pk_ix p (n := 2147483647) (by decide) with h1 | h1 | ⟨j, hj, e⟩
  · exact absurd h (Int32.not_le.mpr h1)
  · refine ⟨2147483647, by decide, Int32.le_antisymm (Int32.le_iff_toInt_le.mpr ?_) h1⟩
    have := Int32.toInt_lt p
    rw [nI_toInt (by decide)]
    omega
  · exact ⟨j, by omega, e⟩
theorem i2c_N : ∀ g, g < 127 → ((nI g).toUInt32 % 65536).toInt32 = nI g := by decide
theorem chr_N : ∀ g, g < 127 → (nI g).toUInt32.toUInt16.toUInt32.toInt32 = nI g := by decide
theorem chr_nI {g : Nat} (h : g < 127) : chr (nI g) := congrArg Value.int (chr_N g h)
def undC (hd : Nat) : Nat := if hd = 0 then 1 else 0
def cmaC (n9 : Nat) (x : vX) : Nat := if n9 % 4 = 3 ∧ epF x n9 0 = n9 then 0 else 1
def couv (x : vX) (hd w : Nat) : Int32 := if w = 0 then x 4 else if w = 1 then x 57 else if w = 2 then x 5 else if w = 3 then litI x 8 else if w = 4 then dks x else if w = 5 then dms x else if w = 6 then eng x else if w = 7 then x 6 else if w = 8 then x 7 else if w = 9 then nI 8 - snd8 x else nI hd
def outv (x : vX) (t w : Nat) : Int32 := if w = 0 then dks (passv t x) - dks x else if w = 1 then eng (passv t x) - eng x else if w = 2 then passv t x 57 else litI (passv t x) 8
/-- one more is imagined -/
def begx (x : vX) : vX := beginv (many x) x
def plx (v : Int32) (x : vX) : Int32 := plF (begx x) v (many (begx x)) 0
def dwd (v : Int32) (x : vX) : Int32 := if lampv (begx x) (begx x (4 * (plx v x).toNatClampNeg + 59)).toNatClampNeg = 0 then 1 else 0
def dnF (v : Int32) : Nat → vX → Nat
  | 0, _ => 0
  | t + 1, x => if plx v x = (-1) then 0 else dnF v t (secv x) + 1
def dcF (v : Int32) (x : vX) (n : Nat) : Int32 := smI (fun i => dwd v (passv i x)) n
def dwx (f t T : Int32) (x : vX) : vX := entv (many x) f t (x 3) (upd x 0 T)
def dkw (f t T : Int32) (x : vX) : Int32 := dcF (x 5) (dwx f t T x) (dnF (x 5) 480 (dwx f t T x))
/-- the halving, step by step -/
def bst (D : Nat → Int32) (least : Int32) (s : Nat × Nat) : Nat × Nat := if s.1 < s.2 then (if D ((s.1 + s.2) / 2) = least then (s.1, (s.1 + s.2) / 2) else ((s.1 + s.2) / 2 + 1, s.2)) else s
def bsS (D : Nat → Int32) (least : Int32) : Nat → Nat × Nat
  | 0 => (1, 200)
  | n + 1 => bst D least (bsS D least n)
def lbt (f t : Int32) (x : vX) : Nat := (bsS (fun T => dkw f t (nI T) x) (dkw f t (nI 200) x) 200).1
theorem bsS_in (D : Nat → Int32) (least : Int32) : ∀ n, 1 ≤ (bsS D least n).1 ∧ (bsS D least n).1 ≤ (bsS D least n).2 ∧ (bsS D least n).2 ≤ 200
  | 0 => ⟨Nat.le_refl _, (by decide : 1 ≤ 200), Nat.le_refl _⟩
  | n + 1 => by
    have ih := bsS_in D least n
    show 1 ≤ (bst D least (bsS D least n)).1 ∧ (bst D least (bsS D least n)).1 ≤ (bst D least (bsS D least n)).2 ∧ (bst D least (bsS D least n)).2 ≤ 200
    unfold bst
    split
    · split <;> dsimp only <;> omega
    · exact ih
theorem bsS_end (D : Nat → Int32) (least : Int32) (i : Nat) (h : ¬ (bsS D least i).1 < (bsS D least i).2) : ∀ k, bsS D least (i + k) = bsS D least i
  | 0 => rfl
  | k + 1 => by
    have ih := bsS_end D least i h k
    show bst D least (bsS D least (i + k)) = _
    rw [ih]
    exact if_neg h
theorem passv_sec (n : Nat) (x : vX) : passv n (secv x) = passv (n + 1) x := by
  induction n with
  | zero => rfl
  | succ n ih => show secv (passv n (secv x)) = secv (passv (n + 1) x); rw [ih]
theorem dnF_lo (v : Int32) : ∀ t x i, i < dnF v t x → ¬ plx v (passv i x) = (-1)
  | 0, _, _, h => absurd h (Nat.not_lt_zero _)
  | t + 1, x, i, h => by
    unfold dnF at h
    split at h
    · exact absurd h (Nat.not_lt_zero _)
    · rename_i h1
      cases i with
      | zero => exact h1
      | succ i =>
        rw [← passv_sec]
        exact dnF_lo v t (secv x) i (by omega)
theorem dnF_hi (v : Int32) : ∀ t x, plx v (passv (dnF v t x) x) = (-1) ∨ dnF v t x = t
  | 0, _ => Or.inr rfl
  | t + 1, x => by
    unfold dnF
    split
    · rename_i h1
      exact Or.inl h1
    · rcases dnF_hi v t (secv x) with h | h
      · rw [passv_sec] at h
        exact Or.inl h
      · exact Or.inr (by rw [h])
theorem dnF_le (v : Int32) : ∀ t x, dnF v t x ≤ t
  | 0, _ => Nat.le_refl _
  | t + 1, x => by
    unfold dnF
    split
    · omega
    · have := dnF_le v t (secv x)
      omega
/-- waiting for room -/
def wtF : Nat → vX → Nat
  | 0, _ => 0
  | t + 1, x => if many x < 6 then 0 else wtF t (secv x) + 1
theorem wtF_lo : ∀ t x i, i < wtF t x → 6 ≤ many (passv i x)
  | 0, _, _, h => absurd h (Nat.not_lt_zero _)
  | t + 1, x, i, h => by
    unfold wtF at h
    split at h
    · exact absurd h (Nat.not_lt_zero _)
    · rename_i h1
      cases i with
      | zero => show 6 ≤ many x; omega
      | succ i =>
        rw [← passv_sec]
        exact wtF_lo t (secv x) i (by omega)
theorem wtF_hi : ∀ t x, many (passv (wtF t x) x) < 6 ∨ wtF t x = t
  | 0, _ => Or.inr rfl
  | t + 1, x => by
    unfold wtF
    split
    · rename_i h1
      exact Or.inl h1
    · rcases wtF_hi t (secv x) with h | h
      · rw [passv_sec] at h
        exact Or.inl h
      · exact Or.inr (by rw [h])
theorem wtF_le : ∀ t x, wtF t x ≤ t
  | 0, _ => Nat.le_refl _
  | t + 1, x => by
    unfold wtF
    split
    · omega
    · have := wtF_le t (secv x)
      omega
def wtd (x : vX) : vX := passv (wtF 480 x) x
/-- all the walks of the text come -/
def cax1 (cd : vX) (p : Nat) (x : vX) : vX := entv (many (wtd x)) (cd (4 * p) - 48) (cd (4 * p + 2) - 48) (wtd x 3) (wtd x)
def cax (cd : vX) (n : Nat) (x : vX) : vX := fo (cax1 cd) n x
def casI (cd : vX) (x : vX) : Nat → Int32
  | 0 => 0
  | n + 1 => casI cd x n + nI (wtF 480 (cax cd n x))
/-- numbers into the hash -/
def mxI (f : Nat → Int32) : Nat → Int64 → Int64
  | 0, h => h
  | n + 1, h => 31 * mxI f n h + Int32.toInt64 (f n)
def mxF (m : Nat) (x : vX) : Nat → Int64 → Int64
  | 0, h => h
  | n + 1, h => mxI (fun w => fnv m x n w) 8 (mxF m x n h)
def mxP (x : vX) : Nat → Int64 → Int64
  | 0, h => h
  | n + 1, h => mxI (fun w => x (4 * n + 58 + w)) 4 (mxP x n h)
theorem many_upd {x : vX} {i : Nat} {v : Int32} (h : 57 ≠ i) : many (upd x i v) = many x := by
  unfold many
  rw [upd_n h]
theorem entv_57 {m : Nat} {f t T : Int32} {x : vX} : entv m f t T x 57 = nI (m + 1) := by
  unfold entv
  rw [upd_n (by decide), upd_s]
theorem entv_lo {m : Nat} {f t T : Int32} {x : vX} {k : Nat} (h : k < 57) (h5 : k ≠ 5) : entv m f t T x k = x k := by
  unfold entv
  rw [upd_n h5, upd_n (by omega), upd_n (by omega), upd_n (by omega), upd_n (by omega), upd_n (by omega)]
theorem entv_row {m p i : Nat} {f t T : Int32} {x : vX} (h : p < m) (hi : i < 4) : entv m f t T x (4 * p + 58 + i) = x (4 * p + 58 + i) := by
  unfold entv
  rw [upd_n (by omega), upd_n (by omega), upd_n (by omega), upd_n (by omega), upd_n (by omega), upd_n (by omega)]
theorem vd_ent {x : vX} {f t : Nat} {T : Int32} (h : vd x) (hm : many x < 7) (hf : f < 8) (ht : t < 8) : vd (entv (many x) (nI f) (nI t) T x) := by
  have h2 := vd_many h
  obtain ⟨m, h1, h57, h6, h7, hr⟩ := h
  have e := many_eq h57 h1
  rw [e] at hm ⊢
  refine ⟨m + 1, by omega, entv_57, by rw [entv_lo (by decide) (by decide)]; exact h6, by rw [entv_lo (by decide) (by decide)]; exact h7, fun p hp => ?_⟩
  rcases Nat.lt_or_ge p m with h3 | h3
  · exact vrow_of (hr p h3) (entv_row (i := 1) h3 (by decide)) (entv_row (i := 2) h3 (by decide))
  · obtain rfl : p = m := by omega
    unfold vrow entv
    refine ⟨⟨f, hf, ?_⟩, t, ht, ?_⟩
    · rw [upd_n (by omega), upd_n (by omega), upd_n (by omega), upd_n (by omega), upd_s]
    · rw [upd_n (by omega), upd_n (by omega), upd_n (by omega), upd_s]
theorem vd_upd {x : vX} {i : Nat} {v : Int32} (h : vd x) (hi : i < 6) : vd (upd x i v) := by
  obtain ⟨m, h1, h57, h6, h7, hr⟩ := h
  exact ⟨m, h1, by rw [upd_n (by omega)]; exact h57, by rw [upd_n (by omega)]; exact h6, by rw [upd_n (by omega)]; exact h7, fun p hp => vrow_of (hr p hp) (upd_n (by omega)) (upd_n (by omega))⟩
theorem vd_dwx {x : vX} {f t : Nat} {T : Int32} (h : vd x) (hm : many x < 7) (hf : f < 8) (ht : t < 8) : vd (dwx (nI f) (nI t) T x) := by
  unfold dwx
  have h9 := vd_ent (T := x 3) (vd_upd (i := 0) (v := T) h (by decide)) (by rw [many_upd (by decide)]; exact hm) hf ht
  rw [many_upd (by decide)] at h9
  exact h9
