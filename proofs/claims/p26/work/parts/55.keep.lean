/-! burning, sums -/
theorem cnt_9 {f g : Nat} {x : vX} : cnt f x (6 * g + 9) = x (6 * g + 9) := by
  unfold cnt
  rw [upd_n (by omega)]
  split
  · exact upd_n (by omega)
  · split
    · exact upd_n (by omega)
    · rfl
theorem focnt_9 {g : Nat} {x : vX} : ∀ n, fo cntp n x (6 * g + 9) = x (6 * g + 9)
  | 0 => rfl
  | n + 1 => cnt_9.trans (focnt_9 n)
theorem focnt_lamp {m f : Nat} {x : vX} (hv : vfl m x) {n : Nat} (hn : n ≤ m) : lampv (fo cntp n x) f = lampv x f := by
  unfold lampv
  rw [focnt_o hv (Or.inl (by decide)) n hn, focnt_9, focnt_o hv (Or.inl (by decide)) n hn, focnt_o hv (Or.inl (by decide)) n hn]
theorem smI_zero {f : Nat → Int32} : ∀ n, (∀ p, p < n → f p = 0) → smI f n = 0
  | 0, _ => rfl
  | n + 1, h => by
    show smI f n + f n = 0
    rw [smI_zero n (fun p hp => h p (by omega)), h n (Nat.lt_succ_self n)]
    rfl
theorem sw_9 {T : Int32} {f g : Nat} {x : vX} : sw T f x (6 * g + 9) = if g = f then (if T ≤ x (6 * f + 9) then x (6 * f + 9) else T) else x (6 * g + 9) := by
  by_cases h : g = f
  · subst h
    rw [if_pos rfl]
    unfold sw
    by_cases h1 : T ≤ x (6 * g + 9)
    · rw [if_pos h1, if_pos h1]
      split
      · exact upd_n (by omega)
      · rfl
    · rw [if_neg h1, if_neg h1, upd_s]
  · rw [if_neg h]
    exact sw_o (by omega) (by omega)
theorem bdn_9 {f g : Nat} {x : vX} : bdn f x (6 * g + 9) = if g = f then (if x (6 * f + 9) ≤ 0 then x (6 * f + 9) else x (6 * f + 9) + (-1)) else x (6 * g + 9) := by
  by_cases h : g = f
  · subst h
    rw [if_pos rfl]
    unfold bdn
    split
    · rfl
    · exact upd_s _ _ _
  · rw [if_neg h]
    exact bdn_o (by omega)
def smN (d : Nat → Nat) : Nat → Nat
  | 0 => 0
  | n + 1 => smN d n + d n
theorem smN_o {d : Nat → Nat} {f : Nat} : ∀ n, n ≤ f → smN (fun g => if g = f then d g + 1 else d g) n = smN d n
  | 0, _ => rfl
  | n + 1, h => by
    show smN _ n + (if n = f then d n + 1 else d n) = smN d n + d n
    rw [smN_o n (by omega), if_neg (by omega)]
theorem smN_up {d : Nat → Nat} {f : Nat} : ∀ n, f < n → smN (fun g => if g = f then d g + 1 else d g) n = smN d n + 1
  | 0, h => absurd h (Nat.not_lt_zero _)
  | n + 1, h => by
    show smN _ n + (if n = f then d n + 1 else d n) = smN d n + d n + 1
    by_cases h1 : n = f
    · rw [if_pos h1, smN_o n (by omega)]
      omega
    · rw [if_neg h1, smN_up n (by omega)]
      omega
theorem smI_N {F : Nat → Int32} {d : Nat → Nat} : ∀ n, (∀ f, f < n → F f = nI (d f)) → smI F n = nI (smN d n)
  | 0, _ => rfl
  | n + 1, h => by
    show smI F n + F n = nI (smN d n + d n)
    rw [smI_N n (fun f hf => h f (by omega)), h n (Nat.lt_succ_self n), nI_add]
def bnd (x : vX) (B : Nat) : Prop := ∃ (a : Nat) (d e : Nat → Nat), x 8 = nI a ∧ a ≤ B ∧ (∀ f, f < 8 → x (6 * f + 11) = nI (d f) ∧ x (6 * f + 12) = nI (e f)) ∧ smN d 8 + smN e 8 ≤ a
theorem bnd_mono {x : vX} {B B2 : Nat} (h : bnd x B) (hB : B ≤ B2) : bnd x B2 := by
  obtain ⟨a, d, e, h1, h2, h3, h4⟩ := h
  exact ⟨a, d, e, h1, by omega, h3, h4⟩
theorem bnd_of {x x' : vX} {B : Nat} (h : bnd x B) (hx : ∀ k, k < 57 → (k = 8 ∨ k % 6 = 5 ∧ 8 < k ∨ k % 6 = 0 ∧ 8 < k) → x' k = x k) : bnd x' B := by
  obtain ⟨a, d, e, h1, h2, h3, h4⟩ := h
  exact ⟨a, d, e, by rw [hx 8 (by omega) (by omega)]; exact h1, h2, fun f hf => by rw [hx (6 * f + 11) (by omega) (by omega), hx (6 * f + 12) (by omega) (by omega)]; exact h3 f hf, h4⟩
theorem bnd_cnt {x : vX} {B f : Nat} (h : bnd x B) (hf : f < 8) : bnd (cnt f x) (B + 1) := by
  obtain ⟨a, d, e, h1, h2, h3, h4⟩ := h
  have hh := h3 f hf
  unfold cnt
  by_cases l0 : lampv x f = 0
  · rw [if_pos l0]
    refine ⟨a + 1, fun g => if g = f then d g + 1 else d g, e, ?_, by omega, fun g hg => ⟨?_, ?_⟩, ?_⟩
    · show upd _ 8 _ 8 = _
      rw [upd_s, upd_n (by omega), h1]
      exact nI_1 a
    · show upd _ 8 _ (6 * g + 11) = nI (if g = f then d g + 1 else d g)
      rw [upd_n (by omega)]
      by_cases hgf : g = f
      · rw [if_pos hgf, hgf, upd_s, hh.1]
        exact nI_1 _
      · rw [if_neg hgf, upd_n (by omega)]
        exact (h3 g hg).1
    · show upd _ 8 _ (6 * g + 12) = _
      rw [upd_n (by omega), upd_n (by omega)]
      exact (h3 g hg).2
    · rw [smN_up 8 hf]
      omega
  · rw [if_neg l0]
    by_cases l1 : lampv x f = 1
    · rw [if_pos l1]
      refine ⟨a + 1, d, fun g => if g = f then e g + 1 else e g, ?_, by omega, fun g hg => ⟨?_, ?_⟩, ?_⟩
      · show upd _ 8 _ 8 = _
        rw [upd_s, upd_n (by omega), h1]
        exact nI_1 a
      · show upd _ 8 _ (6 * g + 11) = _
        rw [upd_n (by omega), upd_n (by omega)]
        exact (h3 g hg).1
      · show upd _ 8 _ (6 * g + 12) = nI (if g = f then e g + 1 else e g)
        rw [upd_n (by omega)]
        by_cases hgf : g = f
        · rw [if_pos hgf, hgf, upd_s, hh.2]
          exact nI_1 _
        · rw [if_neg hgf, upd_n (by omega)]
          exact (h3 g hg).2
      · rw [smN_up 8 hf]
        omega
    · rw [if_neg l1]
      refine ⟨a + 1, d, e, ?_, by omega, fun g hg => ⟨?_, ?_⟩, by omega⟩
      · show upd _ 8 _ 8 = _
        rw [upd_s, h1]
        exact nI_1 a
      · show upd _ 8 _ (6 * g + 11) = _
        rw [upd_n (by omega)]
        exact (h3 g hg).1
      · show upd _ 8 _ (6 * g + 12) = _
        rw [upd_n (by omega)]
        exact (h3 g hg).2
theorem bnd_focnt {x : vX} {B m : Nat} (h : bnd x B) (hv : vfl m x) : ∀ n, n ≤ m → bnd (fo cntp n x) (B + n)
  | 0, _ => h
  | n + 1, hn => by
    have ih := bnd_focnt h hv n (by omega)
    obtain ⟨f, hf, ef⟩ := hv n (by omega)
    have e1 : fo cntp n x (4 * n + 59) = nI f := by rw [focnt_o hv (Or.inr (by omega)) n (by omega), ef]
    show bnd (cnt (fo cntp n x (4 * n + 59)).toNatClampNeg (fo cntp n x)) (B + n + 1)
    rw [e1, nI_clamp (by omega)]
    exact bnd_cnt ih hf
theorem sw_d {T : Int32} {f k : Nat} {x : vX} (h : k = 8 ∨ k % 6 = 5 ∧ 8 < k ∨ k % 6 = 0 ∧ 8 < k) : sw T f x k = x k := sw_o (by omega) (by omega)
theorem la_d {m f k : Nat} {x : vX} (h : k = 8 ∨ k % 6 = 5 ∧ 8 < k ∨ k % 6 = 0 ∧ 8 < k) : la m f x k = x k := by
  unfold la
  split
  · unfold arnd
    split
    · have h2 : (if 0 < f then sw (x 0) (f - 1) else id) (sw (x 0) f x) k = x k := by
        split
        · exact (sw_d h).trans (sw_d h)
        · exact sw_d h
      split
      · exact (sw_d h).trans h2
      · exact h2
    · exact sw_d h
  · rfl
theorem fola_d {m k : Nat} {x : vX} (h : k = 8 ∨ k % 6 = 5 ∧ 8 < k ∨ k % 6 = 0 ∧ 8 < k) : ∀ n, fo (la m) n x k = x k
  | 0 => rfl
  | n + 1 => (la_d h).trans (fola_d h n)
theorem fofend_d {k : Nat} {x : vX} (h : k = 8 ∨ k % 6 = 5 ∧ 8 < k ∨ k % 6 = 0 ∧ 8 < k) : ∀ n, fo fend n x k = x k
  | 0 => rfl
  | n + 1 => by
    show fend n (fo fend n x) k = x k
    unfold fend
    rw [bdn_o (by omega), upd_n (by omega)]
    exact fofend_d h n
theorem bnd_sec {x : vX} {B : Nat} (hd : vd x) (h : bnd x B) : bnd (secv x) (B + 7) := by
  have hmid := vd_mid hd
  have hb : bnd (begx x) B := bnd_of h (fun k hk hc => by
    show beginv (many x) x k = x k
    unfold beginv
    rw [fola_d hc]
    unfold goOnv
    rw [upd_n (by omega), goS_o _ _ _ (by omega)])
  have hv : vfl (many (begx x)) (begx x) := vfl_of hmid.2.2.2.2
  have hm7 : many (begx x) ≤ 7 := hmid.1
  have h1 := bnd_mono (bnd_focnt hb hv _ (Nat.le_refl _)) (show B + many (begx x) ≤ B + 7 by omega)
  show bnd (endv (many (begx x)) (begx x)) (B + 7)
  unfold endv
  exact bnd_of h1 (fun k hk hc => by
    show upd _ 4 _ k = _
    rw [upd_n (by omega), fofend_d hc])
theorem bnd_pass {x : vX} {B : Nat} (hd : vd x) (h : bnd x B) : ∀ n, bnd (passv n x) (B + 7 * n)
  | 0 => h
  | n + 1 => by
    have h1 := bnd_sec (vd_pass hd n) (bnd_pass hd h n)
    rw [show B + 7 * (n + 1) = B + 7 * n + 7 by omega]
    exact h1
theorem bnd_ent {m B : Nat} {f t T : Int32} {x : vX} (h : bnd x B) : bnd (entv m f t T x) B := bnd_of h (fun k hk hc => entv_lo hk (by omega))
/-- the share of light -/
theorem bnd_shr {x : vX} {B : Nat} (h : bnd x B) (hB : B < 2147483648) : shr (lsh x) ∧ (0 < x 8 → vf_n64 (FP.ddiv (FP.i2d (x 8 - dks x - dms x)) (FP.i2d (x 8)))) := by
  obtain ⟨a, d, e, h1, h2, h3, h4⟩ := h
  have e1 : dks x = nI (smN d 8) := smI_N 8 (fun f hf => (h3 f hf).1)
  have e2 : dms x = nI (smN e 8) := smI_N 8 (fun f hf => (h3 f hf).2)
  unfold lsh
  rw [h1, e1, e2, pk_sub (by omega), pk_sub (by omega)]
  rcases Nat.eq_zero_or_pos a with q | q
  · have n1 : ¬ (0 : Int32) < nI a := by rw [q]; decide
    rw [if_neg n1]
    exact ⟨fp_shr1, fun h9 => absurd h9 n1⟩
  · have p1 : (0 : Int32) < nI a := (nI_ltI (a := 0) (b := a) (by omega) (by omega)).mpr q
    rw [if_pos p1]
    have h9 := fp_shr (a := a - smN d 8 - smN e 8) (b := a) (by omega) q (by omega)
    exact ⟨h9.1, fun _ => h9.2⟩
theorem many_same {x x' : vX} (h : x' 57 = x 57) : many x' = many x := by
  unfold many
  rw [h]
theorem fosw_d {T : Int32} {x : vX} {k : Nat} (h : k = 8 ∨ k % 6 = 5 ∧ 8 < k ∨ k % 6 = 0 ∧ 8 < k) : ∀ n, fo (sw T) n x k = x k
  | 0 => rfl
  | n + 1 => (sw_d h).trans (fosw_d h n)
theorem sec_4 {x : vX} (h : vd x) : secv x 4 = x 4 + 1 := by
  have hv : vfl (many (begx x)) (begx x) := vfl_of (vd_mid h).2.2.2.2
  show endv (many (begx x)) (begx x) 4 = _
  unfold endv
  show upd _ 4 _ 4 = _
  rw [upd_s, fofend_o (by omega) 8 (by decide), focnt_o hv (by omega) _ (Nat.le_refl _)]
  show beginv (many x) x 4 + 1 = _
  rw [beginv_lo (by omega)]
theorem pass_4 {x : vX} (h : vd x) : ∀ n, passv n x 4 = x 4 + nI n
  | 0 => (Int32.add_zero _).symm
  | n + 1 => by
    show secv (passv n x) 4 = _
    rw [sec_4 (vd_pass h n), pass_4 h n, Int32.add_assoc, nI_1]
