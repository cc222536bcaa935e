/-! the reference's looks -/
theorem cpB_in {a : Nat} {x y : vX} {k : Nat} : ∀ n, k < n → cpB a 0 x n y k = x (a + k)
  | 0, h => absurd h (Nat.not_lt_zero _)
  | n + 1, h => by
    show upd (cpB a 0 x n y) (0 + n) (x (a + n)) k = x (a + k)
    rw [Nat.zero_add]
    by_cases h1 : k = n
    · rw [h1, upd_s]
    · rw [upd_n h1, cpB_in n (by omega)]
theorem cpB_0 {x y : vX} {k : Nat} (h : k < 86) : cpB 0 0 x 86 y k = x k := by rw [cpB_in 86 h, Nat.zero_add]
def outR (x y : vX) (t w : Nat) : Int32 := if w = 0 then dks (rpass t y) - dks x else if w = 1 then eng (rpass t y) - eng x else if w = 2 then rpass t y 57 else litI (rpass t y) 8
/-- passing n seconds in thought: what it tells does not hang on what lay there -/
def psO (x : vX) (t w : Nat) (O : Int32) : Prop := ∀ y, (∀ n, n ≤ t → rgd (rpass n (cpB 0 0 x 86 y))) ∧ outR x (cpB 0 0 x 86 y) t w = O
def itF (x : vX) (v : Int32) : Nat → Int32
  | 0 => 0
  | n + 1 => if itF x v n = 0 then (if x (4 * n + 58) = v then 1 else 0) else 1
theorem itF_b (x : vX) (v : Int32) : ∀ n, itF x v n = 0 ∨ itF x v n = 1
  | 0 => Or.inl rfl
  | n + 1 => by
    unfold itF
    split
    · split
      · exact Or.inr rfl
      · exact Or.inl rfl
    · exact Or.inr rfl
def wok (v : Int32) (x : vX) (N : Nat) : Prop := (∀ i, i ≤ N → rgd (rpass i x)) ∧ (∀ i, i < N → ¬ itF (rpass i x) v (many (rpass i x)) = 0) ∧ itF (rpass N x) v (many (rpass N x)) = 0
def wxy (x y : vX) (m : Nat) (f t T : Int32) : vX := entv m f t (x 3) (upd (cpB 0 0 x 86 y) 0 T)
/-- a walk in thought has D seconds in the dark -/
def wkD (x : vX) (m : Nat) (f t T : Int32) (D : Int32) : Prop := ∃ N, ∀ y, wok (x 5) (wxy x y m f t T) N ∧ rdn (x 5) (wxy x y m f t T) N = D
theorem sv_W2_dk {G : sv_G} {z : Nat} {M : sv_M} {o : Int64} {y : vX} {d : Int32} : ∀ H, sv_W G z (sv_u (sv_u M 15 (dkM M d)) 11 y) o H → sv_W2 G z M o H := fun H h => sv_W2_of (a := M 15 6) (b := M 15 7 + d) (y := y) H (by rw [upd_i]; exact h)
/-- the search for the least time -/
def lsN (D : Nat → Int32) : Nat → Nat × Int32
  | 0 => (1, D 1)
  | n + 1 => if 0 < (lsN D n).2 then (if D (n + 2) < (lsN D n).2 then (n + 2, D (n + 2)) else lsN D n) else lsN D n
theorem lsN_end (D : Nat → Int32) (i : Nat) (h : ¬ 0 < (lsN D i).2) : ∀ k, lsN D (i + k) = lsN D i
  | 0 => rfl
  | k + 1 => by
    have ih := lsN_end D i h k
    show (if 0 < (lsN D (i + k)).2 then (if D (i + k + 2) < (lsN D (i + k)).2 then (i + k + 2, D (i + k + 2)) else lsN D (i + k)) else lsN D (i + k)) = _
    rw [ih, if_neg h]
def rsh (x : vX) : UInt64 := if x 8 = 0 then FP.dconst1 else FP.ddiv (FP.i2d (x 8 - dks x - dms x)) (FP.i2d (x 8))
