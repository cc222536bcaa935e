/-! the mathematics of the stairs: vectors of 86 numbers -/
abbrev vX : Type := Nat → Int32
def sv_u (M : sv_M) (q : Nat) (x : vX) : sv_M := fun q' => if q' = q then x else M q'
theorem sv_us (M : sv_M) (q : Nat) (x : vX) : sv_u M q x q = x := if_pos rfl
theorem sv_un {M : sv_M} {q : Nat} {x : vX} {q' : Nat} (h : q' ≠ q) : sv_u M q x q' = M q' := if_neg h
theorem sv_uu (M : sv_M) (q : Nat) (x y : vX) : sv_u (sv_u M q x) q y = sv_u M q y := by
  funext q'
  unfold sv_u
  split <;> rfl
theorem sv_ui (M : sv_M) (q : Nat) : sv_u M q (M q) = M := by
  funext q'
  unfold sv_u
  split
  · rename_i h; rw [h]
  · rfl
theorem sv_wu (M : sv_M) (q i : Nat) (v : Int32) : sv_w M q i v = sv_u M q (upd (M q) i v) := by
  funext q' i'
  unfold sv_w sv_u upd
  by_cases h : q' = q
  · subst h
    by_cases h2 : i' = i
    · simp [h2]
    · simp [h2]
  · simp [h]
theorem sv_eqW {G : sv_G} {z : Nat} {M1 M2 : sv_M} {o : Int64} (e : M1 = M2) : ∀ H, sv_W G z M1 o H → sv_W G z M2 o H := fun _ h => e ▸ h
theorem upd_s (x : vX) (i : Nat) (v : Int32) : upd x i v i = v := if_pos rfl
theorem upd_n {x : vX} {i : Nat} {v : Int32} {k : Nat} (h : k ≠ i) : upd x i v k = x k := if_neg h
theorem upd_i (x : vX) (i : Nat) : upd x i (x i) = x := by
  funext k
  unfold upd
  split
  · rename_i h; rw [h]
  · rfl
theorem upd_u (x : vX) (i : Nat) (v w : Int32) : upd (upd x i v) i w = upd x i w := by
  funext k
  unfold upd
  split <;> rfl
theorem sv_vpin {i : Int32} {n : Nat} (h0 : ¬ i < 0) (h1 : ¬ nI n ≤ i) (hn : n < 2147483648) : vp_in i n := by
  rcases pk_ix i (n := n) hn with h | h | ⟨j, hj, rfl⟩
  · exact absurd h h0
  · exact absurd h h1
  · exact vp_in_nI hj hn
/-- at(row, place), put(row, place, value), raise(row, place, more) -/
def cAt (M : sv_M) (c j : Nat) (i : Int32) : Int32 := if i < 0 ∨ nI (sv_n c) ≤ i then 0 else M (sv_q c j) (sv_i c i.toNatClampNeg)
def cPut (M : sv_M) (c j : Nat) (i v : Int32) : sv_M := if i < 0 ∨ nI (sv_n c) ≤ i then M else sv_w M (sv_q c j) (sv_i c i.toNatClampNeg) v
theorem sv_inN {f n : Nat} (h : f < n) (hn : n < 2147483648) : ¬ (nI f < 0 ∨ nI n ≤ nI f) := by
  rintro (q | q)
  · exact nI_pos (by omega) q
  · exact nI_ge h hn q
theorem cAt_N {M : sv_M} {c j f : Nat} (h : f < sv_n c) : cAt M c j (nI f) = M (sv_q c j) (sv_i c f) := by
  have hs := sv_nlt c
  unfold cAt
  rw [if_neg (sv_inN h hs), nI_clamp (by omega)]
theorem cPut_N {M : sv_M} {c j f : Nat} {v : Int32} (h : f < sv_n c) : cPut M c j (nI f) v = sv_w M (sv_q c j) (sv_i c f) v := by
  have hs := sv_nlt c
  unfold cPut
  rw [if_neg (sv_inN h hs), nI_clamp (by omega)]
/-- a fold over 0, 1 .. n - 1 -/
def fo {α : Type} (g : Nat → α → α) : Nat → α → α
  | 0, x => x
  | n + 1, x => g n (fo g n x)
def smI (f : Nat → Int32) : Nat → Int32
  | 0 => 0
  | n + 1 => smI f n + f n
/-- lamp f is switched on for T seconds -/
def sw (T : Int32) (f : Nat) (x : vX) : vX :=
  if T ≤ x (6 * f + 9) then (if x (6 * f + 9) = 0 then upd x (6 * f + 14) (x (6 * f + 14) + 1) else x) else upd (if x (6 * f + 9) = 0 then upd x (6 * f + 14) (x (6 * f + 14) + 1) else x) (6 * f + 9) T
def lampv (x : vX) (f : Nat) : Int32 := if x 7 = 1 then 3 else if x (6 * f + 9) = 0 then x 6 else if x (6 * f + 9) ≤ x 1 then 2 else 3
/-- people on floor f, of the first n -/
def onI (x : vX) (f : Int32) : Nat → Int32
  | 0 => 0
  | n + 1 => onI x f n + if x (4 * n + 59) = f then 1 else 0
theorem fo_succ {α : Type} (g : Nat → α → α) (n : Nat) (x : α) : fo g (n + 1) x = g n (fo g n x) := rfl
/-- a row is copied -/
def cpR (c n : Nat) (x y : vX) : vX := fo (fun i y => upd y (sv_i c i) (x (sv_i c i))) n y
/-- the lamp burns down -/
def bdn (f : Nat) (x : vX) : vX := if x (6 * f + 9) ≤ 0 then x else upd x (6 * f + 9) (x (6 * f + 9) + (-1))
def powv (l : Int32) : Int32 := if l < 2 then (if l = 1 then 3 else 0) else 10
/-- a person walks for a second; closes up -/
def wkv (T : Int32) (p : Nat) (x : vX) : vX :=
  if x (4 * p + 61) + (-1) ≤ 0 then
    upd (upd (upd x (4 * p + 61) (x (4 * p + 61) + (-1))) (4 * p + 59) (x (4 * p + 59) + if x (4 * p + 60) ≤ x (4 * p + 59) then (-1) else 1)) (4 * p + 61) (if x (4 * p + 59) + (if x (4 * p + 60) ≤ x (4 * p + 59) then (-1) else 1) = x (4 * p + 60) then 0 else T)
  else upd x (4 * p + 61) (x (4 * p + 61) + (-1))
def mvv (p s : Nat) (x : vX) : vX := upd (upd (upd (upd x (4 * s + 58) (x (4 * p + 58))) (4 * s + 59) (x (4 * p + 59))) (4 * s + 60) (x (4 * p + 60))) (4 * s + 61) (x (4 * p + 61))
def goB (T : Int32) (p : Nat) (r : vX × Nat) : vX × Nat := if r.1 (4 * p + 59) = r.1 (4 * p + 60) then r else (mvv p r.2 (wkv T p r.1), r.2 + 1)
def goS (T : Int32) (n : Nat) (x : vX) : vX × Nat := fo (goB T) n (x, 0)
def goOnv (T : Int32) (m : Nat) (x : vX) : vX := upd (goS T m x).1 57 (nI (goS T m x).2)
/-- the sensor of floor f looks -/
def arnd (f : Nat) (x : vX) : vX := if x 2 = 1 then (if f < 7 then sw (x 0) (f + 1) else id) ((if 0 < f then sw (x 0) (f - 1) else id) (sw (x 0) f x)) else sw (x 0) f x
def la (m : Nat) (f : Nat) (x : vX) : vX := if x (6 * f + 10) = 1 ∧ 0 < onI x (nI f) m then arnd f x else x
/-- a second of a person on floor f is counted -/
def cnt (f : Nat) (x : vX) : vX :=
  let x1 := if lampv x f = 0 then upd x (6 * f + 11) (x (6 * f + 11) + 1) else if lampv x f = 1 then upd x (6 * f + 12) (x (6 * f + 12) + 1) else x
  upd x1 8 (x1 8 + 1)
def cntp (p : Nat) (x : vX) : vX := cnt (x (4 * p + 59)).toNatClampNeg x
def fend (f : Nat) (x : vX) : vX := bdn f (upd x (6 * f + 13) (x (6 * f + 13) + powv (lampv x f)))
def endv (m : Nat) (x : vX) : vX := let x2 := fo fend 8 (fo cntp m x); upd x2 4 (x2 4 + 1)
/-- somebody comes -/
def entv (m : Nat) (f t T : Int32) (x : vX) : vX := upd (upd (upd (upd (upd (upd x (4 * m + 58) (x 5)) (4 * m + 59) f) (4 * m + 60) t) (4 * m + 61) (if f = t then 0 else T)) 57 (nI (m + 1))) 5 (x 5 + 1)
/-- the place of a number, from place i on, t places -/
def plF (x : vX) (v : Int32) : Nat → Nat → Int32
  | 0, _ => (-1)
  | t + 1, i => if x (4 * i + 58) = v then nI i else plF x v t (i + 1)
def cpF (x y : vX) : vX := cpR 7 8 x (cpR 6 8 x (cpR 5 8 x (cpR 4 8 x (cpR 3 8 x (cpR 2 8 x y)))))
def cpP (x y : vX) : vX := upd (upd (cpR 12 7 x (cpR 11 7 x (cpR 10 7 x (cpR 9 7 x y)))) 57 (x 57)) 5 (x 5)
def cpS (x y : vX) : vX := upd (upd (upd (upd (cpR 13 4 x (cpP x (cpF x y))) 6 (x 6)) 7 (x 7)) 4 (x 4)) 8 (x 8)
/-- the broken sensor that is missed most, of the first n floors -/
def mm (x : vX) : Nat → Int32
  | 0 => (-1)
  | n + 1 => if x (6 * n + 10) = 0 ∧ (mm x n = (-1) ∨ x (6 * (mm x n).toNatClampNeg + 11) < x (6 * n + 11)) then nI n else mm x n
theorem mm_cases (x : vX) : ∀ n, mm x n = (-1) ∨ ∃ g, g < n ∧ mm x n = nI g
  | 0 => Or.inl rfl
  | n + 1 => by
    unfold mm
    split
    · exact Or.inr ⟨n, Nat.lt_succ_self n, rfl⟩
    · rcases mm_cases x n with h | ⟨g, hg, h⟩
      · exact Or.inl h
      · exact Or.inr ⟨g, Nat.lt_succ_of_lt hg, h⟩
/-- a lamp that may not be there is switched on -/
def swI (T f : Int32) (x : vX) : vX := if f < 0 ∨ nI 8 ≤ f then x else sw T f.toNatClampNeg x
theorem swI_N {T : Int32} {f : Nat} (h : f < 8) (x : vX) : swI T (nI f) x = sw T f x := by
  unfold swI
  rw [if_neg (sv_inN h (by decide)), nI_clamp (by omega)]
theorem swI_o {T f : Int32} (h : f < 0 ∨ nI 8 ≤ f) (x : vX) : swI T f x = x := if_pos h
theorem sw_o {T : Int32} {f : Nat} {x : vX} {k : Nat} (h : k ≠ 6 * f + 9) (h2 : k ≠ 6 * f + 14) : sw T f x k = x k := by
  unfold sw
  split
  · split
    · rw [upd_n h2]
    · rfl
  · rw [upd_n h]
    split
    · rw [upd_n h2]
    · rfl
theorem arnd_eq {f : Nat} (hf : f < 8) (x : vX) : arnd f x = if x 2 = 1 then swI (x 0) (nI f + 1) (swI (x 0) (nI f - 1) (sw (x 0) f x)) else sw (x 0) f x := by
  unfold arnd
  have h1 : ∀ y, swI (x 0) (nI f - 1) y = (if 0 < f then sw (x 0) (f - 1) else id) y := by
    intro y
    rcases Nat.eq_zero_or_pos f with rfl | h
    · rw [if_neg (by omega)]
      exact swI_o (Or.inl (by decide)) y
    · obtain ⟨g, rfl⟩ : ∃ g, f = g + 1 := ⟨f - 1, by omega⟩
      rw [if_pos h, nI_pred, swI_N (by omega)]
      rfl
  have h2 : ∀ y, swI (x 0) (nI f + 1) y = (if f < 7 then sw (x 0) (f + 1) else id) y := by
    intro y
    rw [nI_1]
    rcases Nat.lt_or_ge f 7 with h | h
    · rw [if_pos h, swI_N (by omega)]
    · rw [if_neg (by omega)]
      exact swI_o (Or.inr (nI_le (by omega) (by omega))) y
  rw [h1, h2]
theorem arnd_o {f : Nat} {x : vX} {k : Nat} (h : k < 9 ∨ 57 ≤ k) (hf : f < 8) : arnd f x k = x k := by
  unfold arnd
  have e : ∀ (T : Int32) (g : Nat) (y : vX), g < 8 → sw T g y k = y k := fun T g y hg => sw_o (by omega) (by omega)
  split
  · rcases Nat.lt_or_ge f 7 with h1 | h1
    · rw [if_pos h1, e _ _ _ (by omega)]
      rcases Nat.eq_zero_or_pos f with rfl | h2
      · rw [if_neg (by omega)]
        exact e _ _ _ (by omega)
      · rw [if_pos h2, e _ _ _ (by omega), e _ _ _ hf]
    · rw [if_neg (by omega)]
      show (if 0 < f then sw (x 0) (f - 1) else id) (sw (x 0) f x) k = x k
      rw [if_pos (by omega), e _ _ _ (by omega), e _ _ _ hf]
  · exact e _ _ _ hf
theorem la_o {m f : Nat} {x : vX} {k : Nat} (h : k < 9 ∨ 57 ≤ k) (hf : f < 8) : la m f x k = x k := by
  unfold la
  split
  · exact arnd_o h hf
  · rfl
theorem fola_o {m : Nat} {x : vX} {k : Nat} (h : k < 9 ∨ 57 ≤ k) : ∀ n, n ≤ 8 → fo (la m) n x k = x k
  | 0, _ => rfl
  | n + 1, hn => (la_o h (by omega)).trans (fola_o h n (by omega))
theorem cnt_o {f : Nat} {x : vX} {k : Nat} (h : k < 8 ∨ 57 ≤ k) (hf : f < 8) : cnt f x k = x k := by
  unfold cnt
  show upd _ 8 _ k = x k
  rw [upd_n (by omega)]
  split
  · rw [upd_n (by omega)]
  · split
    · rw [upd_n (by omega)]
    · rfl
theorem bdn_o {f : Nat} {x : vX} {k : Nat} (h : k ≠ 6 * f + 9) : bdn f x k = x k := by
  unfold bdn
  split
  · rfl
  · rw [upd_n h]
theorem fend_o {f : Nat} {x : vX} {k : Nat} (h : k < 9 ∨ 57 ≤ k) (hf : f < 8) : fend f x k = x k := by
  unfold fend
  rw [bdn_o (by omega), upd_n (by omega)]
theorem fofend_o {x : vX} {k : Nat} (h : k < 9 ∨ 57 ≤ k) : ∀ n, n ≤ 8 → fo fend n x k = x k
  | 0, _ => rfl
  | n + 1, hn => (fend_o h (by omega)).trans (fofend_o h n (by omega))
def many (x : vX) : Nat := (x 57).toNatClampNeg
/-- what holds of people on floors: so many, each on a floor -/
def vfl (m : Nat) (x : vX) : Prop := ∀ p, p < m → ∃ f, f < 8 ∧ x (4 * p + 59) = nI f
theorem focnt_o {m : Nat} {x : vX} (hv : vfl m x) {k : Nat} (h : k < 8 ∨ 57 ≤ k) : ∀ n, n ≤ m → fo cntp n x k = x k
  | 0, _ => rfl
  | n + 1, hn => by
    have ih := focnt_o hv h n (by omega)
    obtain ⟨f, hf, ef⟩ := hv n (by omega)
    have e := focnt_o hv (k := 4 * n + 59) (Or.inr (by omega)) n (by omega)
    show cnt (fo cntp n x (4 * n + 59)).toNatClampNeg (fo cntp n x) k = x k
    rw [e, ef, nI_clamp (by omega), cnt_o h hf, ih]
def beginv (m : Nat) (x : vX) : vX := fo (la (goS (x 3) m x).2) 8 (goOnv (x 3) m x)
/-- how many lamps are on or warn, of the first n -/
def litI (x : vX) : Nat → Int32
  | 0 => 0
  | n + 1 => litI x n + if lampv x n < 2 then 0 else 1
/-- floor(f, w) -/
def fnv (m : Nat) (x : vX) (f w : Nat) : Int32 := if w = 0 then lampv x f else if w = 1 then x (6 * f + 9) else if w = 2 then x (6 * f + 10) else if w = 3 then onI x (nI f) m else if w = 4 then x (6 * f + 11) else if w = 5 then x (6 * f + 12) else if w = 6 then x (6 * f + 13) else x (6 * f + 14)
