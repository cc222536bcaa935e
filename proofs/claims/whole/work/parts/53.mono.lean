/-! lamps that burn longer: no more seconds in the dark -/
/-- y burns as x or longer; all else that a walk needs is the same -/
def ob (x y : vX) : Prop := x 0 ≤ y 0 ∧ (∀ k, ((1 ≤ k ∧ k < 4) ∨ k = 6 ∨ k = 7 ∨ 57 ≤ k) → x k = y k) ∧ ∀ f, f < 8 → x (6 * f + 10) = y (6 * f + 10) ∧ 0 ≤ x (6 * f + 9) ∧ x (6 * f + 9) ≤ y (6 * f + 9)
/-- no lamp burns for less than 0 seconds -/
def nng (x : vX) : Prop := ∀ f, f < 8 → 0 ≤ x (6 * f + 9)
theorem sw_9 {T : Int32} {f g : Nat} {x : vX} : sw T f x (6 * g + 9) = if g = f then (if T ≤ x (6 * f + 9) then x (6 * f + 9) else T) else x (6 * g + 9) := by
  by_cases h : g = f
  · subst h
    rw [if_pos rfl]
    unfold sw
    by_cases h1 : T ≤ x (6 * g + 9)
    · rw [if_pos h1, if_pos h1]
      split
      · exact upd_n (by omega)
      · rfl
    · rw [if_neg h1, if_neg h1, upd_s]
  · rw [if_neg h]
    exact sw_o (by omega) (by omega)
theorem i32_mx {T T2 a b : Int32} (h : T ≤ T2) (h2 : a ≤ b) (h3 : 0 ≤ a) : 0 ≤ (if T ≤ a then a else T) ∧ (if T ≤ a then a else T) ≤ if T2 ≤ b then b else T2 := by
  have e := @Int32.le_iff_toInt_le
  have z : (0 : Int32).toInt = 0 := rfl
  by_cases h4 : T ≤ a
  · rw [if_pos h4]
    refine ⟨h3, ?_⟩
    split
    · exact h2
    · rename_i h5
      rw [e] at *
      omega
  · rw [if_neg h4]
    rw [e] at h4 h3
    refine ⟨?_, ?_⟩
    · rw [e]
      omega
    · split
      · rename_i h5
        rw [e] at *
        omega
      · exact h
theorem ob_sw {T T2 : Int32} {x y : vX} {f : Nat} (h : ob x y) (hT : T ≤ T2) (hf : f < 8) : ob (sw T f x) (sw T2 f y) := by
  obtain ⟨h0, h1, h2⟩ := h
  refine ⟨by rw [sw_o (by omega) (by omega), sw_o (by omega) (by omega)]; exact h0, fun k hk => by rw [sw_o (by omega) (by omega), sw_o (by omega) (by omega)]; exact h1 k hk, fun g hg => ⟨by rw [sw_o (by omega) (by omega), sw_o (by omega) (by omega)]; exact (h2 g hg).1, ?_⟩⟩
  rw [sw_9, sw_9]
  by_cases hgf : g = f
  · rw [if_pos hgf, if_pos hgf]
    exact i32_mx hT (h2 f hf).2.2 (h2 f hf).2.1
  · rw [if_neg hgf, if_neg hgf]
    exact (h2 g hg).2
theorem ob_arnd {x y : vX} {f : Nat} (h : ob x y) (hf : f < 8) : ob (arnd f x) (arnd f y) := by
  have h0 := h.1
  unfold arnd
  rw [← h.2.1 2 (by omega)]
  have h1 := ob_sw h h0 hf
  split
  · have h2 : ob ((if 0 < f then sw (x 0) (f - 1) else id) (sw (x 0) f x)) ((if 0 < f then sw (y 0) (f - 1) else id) (sw (y 0) f y)) := by
      split
      · exact ob_sw h1 h0 (by omega)
      · exact h1
    split
    · exact ob_sw h2 h0 (by omega)
    · exact h2
  · exact h1
theorem ob_on {x y : vX} {v : Int32} (h : ob x y) : ∀ n, onI x v n = onI y v n
  | 0 => rfl
  | n + 1 => by
    unfold onI
    rw [ob_on h n, h.2.1 (4 * n + 59) (by omega)]
theorem ob_la {x y : vX} {m f : Nat} (h : ob x y) (hf : f < 8) : ob (la m f x) (la m f y) := by
  unfold la
  rw [← (h.2.2 f hf).1, ← ob_on h]
  split
  · exact ob_arnd h hf
  · exact h
theorem ob_fola {x y : vX} {m : Nat} (h : ob x y) : ∀ n, n ≤ 8 → ob (fo (la m) n x) (fo (la m) n y)
  | 0, _ => h
  | n + 1, hn => ob_la (ob_fola h n (by omega)) (by omega)
/-- rows alone decide who walks where -/
theorem wkv_hi {T : Int32} {p : Nat} {x y : vX} (h : ∀ k, 57 ≤ k → x k = y k) : ∀ k, 57 ≤ k → wkv T p x k = wkv T p y k := by
  intro k hk
  have key : ∀ (i : Nat) (v w : Int32) (X Y : vX), X k = Y k → v = w → upd X i v k = upd Y i w k := fun i v w X Y hh e => by
    subst e
    by_cases h1 : k = i
    · rw [h1, upd_s, upd_s]
    · rw [upd_n h1, upd_n h1]
      exact hh
  unfold wkv
  rw [h (4 * p + 59) (by omega), h (4 * p + 60) (by omega), h (4 * p + 61) (by omega)]
  split
  · exact key _ _ _ _ _ (key _ _ _ _ _ (key _ _ _ _ _ (h k hk) rfl) rfl) rfl
  · exact key _ _ _ _ _ (h k hk) rfl
theorem mvv_hi {p q : Nat} {x y : vX} (h : ∀ k, 57 ≤ k → x k = y k) : ∀ k, 57 ≤ k → mvv p q x k = mvv p q y k := by
  intro k hk
  have key : ∀ (i : Nat) (v : Int32) (X Y : vX), X k = Y k → upd X i v k = upd Y i v k := fun i v X Y hh => by
    by_cases h1 : k = i
    · rw [h1, upd_s, upd_s]
    · rw [upd_n h1, upd_n h1]
      exact hh
  unfold mvv
  rw [h (4 * p + 58) (by omega), h (4 * p + 59) (by omega), h (4 * p + 60) (by omega), h (4 * p + 61) (by omega)]
  exact key _ _ _ _ (key _ _ _ _ (key _ _ _ _ (key _ _ _ _ (h k hk))))
theorem goS_hi {T : Int32} {x y : vX} (h : ∀ k, 57 ≤ k → x k = y k) : ∀ n, (goS T n x).2 = (goS T n y).2 ∧ ∀ k, 57 ≤ k → (goS T n x).1 k = (goS T n y).1 k
  | 0 => ⟨rfl, h⟩
  | n + 1 => by
    obtain ⟨h1, h2⟩ := goS_hi (T := T) h n
    show (goB T n (goS T n x)).2 = (goB T n (goS T n y)).2 ∧ ∀ k, 57 ≤ k → (goB T n (goS T n x)).1 k = (goB T n (goS T n y)).1 k
    unfold goB
    rw [h2 (4 * n + 59) (by omega), h2 (4 * n + 60) (by omega), h1]
    split
    · exact ⟨h1, h2⟩
    · exact ⟨rfl, mvv_hi (wkv_hi h2)⟩
theorem ob_go {x y : vX} {T : Int32} {m : Nat} (h : ob x y) : ob (goOnv T m x) (goOnv T m y) ∧ (goS T m x).2 = (goS T m y).2 := by
  have hg := goS_hi (T := T) (fun k hk => h.2.1 k (by omega)) m
  refine ⟨⟨?_, fun k hk => ?_, fun f hf => ?_⟩, hg.1⟩
  · unfold goOnv
    rw [upd_n (by omega), upd_n (by omega), goS_o _ _ _ (by omega), goS_o _ _ _ (by omega)]
    exact h.1
  · unfold goOnv
    rw [hg.1]
    by_cases h57 : k = 57
    · rw [h57, upd_s, upd_s]
    · rw [upd_n h57, upd_n h57]
      rcases Nat.lt_or_ge k 58 with h1 | h1
      · rw [goS_o _ _ _ h1, goS_o _ _ _ h1]
        exact h.2.1 k hk
      · exact hg.2 k (by omega)
  · unfold goOnv
    rw [upd_n (by omega), upd_n (by omega), upd_n (by omega), upd_n (by omega), goS_o _ _ _ (by omega), goS_o _ _ _ (by omega), goS_o _ _ _ (by omega), goS_o _ _ _ (by omega)]
    exact h.2.2 f hf
theorem ob_many {x y : vX} (h : ob x y) : many x = many y := by
  unfold many
  rw [h.2.1 57 (by omega)]
theorem ob_beg {x y : vX} (h : ob x y) : ob (begx x) (begx y) := by
  show ob (beginv (many x) x) (beginv (many y) y)
  rw [ob_many h]
  unfold beginv
  rw [h.2.1 3 (by omega)]
  obtain ⟨g1, g2⟩ := ob_go (T := y 3) (m := many y) h
  rw [g2]
  exact ob_fola g1 8 (by decide)
theorem ob_cnt {x y : vX} {f g : Nat} (h : ob x y) (hf : f < 8) (hg : g < 8) : ob (cnt f x) (cnt g y) := by
  have e : ∀ (z : vX) (f : Nat) (k : Nat), f < 8 → (k < 8 ∨ 57 ≤ k ∨ ∃ g, g < 8 ∧ (k = 6 * g + 9 ∨ k = 6 * g + 10)) → cnt f z k = z k := by
    intro z f k hf hk
    have h8 : k ≠ 8 ∧ k ≠ 6 * f + 11 ∧ k ≠ 6 * f + 12 := by
      rcases hk with q | q | ⟨g, hg, q | q⟩
      all_goals omega
    unfold cnt
    show upd _ 8 _ k = z k
    rw [upd_n h8.1]
    split
    · rw [upd_n h8.2.1]
    · split
      · rw [upd_n h8.2.2]
      · rfl
  refine ⟨by rw [e x f 0 hf (by omega), e y g 0 hg (by omega)]; exact h.1, fun k hk => by rw [e x f k hf (by omega), e y g k hg (by omega)]; exact h.2.1 k hk, fun q hq => ?_⟩
  rw [e x f _ hf (Or.inr (Or.inr ⟨q, hq, Or.inl rfl⟩)), e x f _ hf (Or.inr (Or.inr ⟨q, hq, Or.inr rfl⟩)), e y g _ hg (Or.inr (Or.inr ⟨q, hq, Or.inl rfl⟩)), e y g _ hg (Or.inr (Or.inr ⟨q, hq, Or.inr rfl⟩))]
  exact h.2.2 q hq
theorem ob_focnt {x y : vX} {m : Nat} (h : ob x y) (hv : vfl m x) : ∀ n, n ≤ m → ob (fo cntp n x) (fo cntp n y)
  | 0, _ => h
  | n + 1, hn => by
    have ih := ob_focnt h hv n (by omega)
    obtain ⟨f, hf, ef⟩ := hv n (by omega)
    have e1 : fo cntp n x (4 * n + 59) = nI f := by rw [focnt_o hv (Or.inr (by omega)) n (by omega), ef]
    have e2 : fo cntp n y (4 * n + 59) = nI f := by rw [← ih.2.1 (4 * n + 59) (by omega), e1]
    show ob (cnt (fo cntp n x (4 * n + 59)).toNatClampNeg (fo cntp n x)) (cnt (fo cntp n y (4 * n + 59)).toNatClampNeg (fo cntp n y))
    rw [e1, e2, nI_clamp (by omega)]
    exact ob_cnt ih hf hf
theorem i32_dn {a b : Int32} (h : a ≤ b) (h0 : 0 ≤ a) : 0 ≤ (if a ≤ 0 then a else a + (-1)) ∧ (if a ≤ 0 then a else a + (-1)) ≤ if b ≤ 0 then b else b + (-1) := by
  obtain ⟨n, hn, rfl⟩ := i32_nn h0
  obtain ⟨k, hk, rfl⟩ := i32_nn (Int32.le_trans h0 h)
  have h1 := (nI_leI hn hk).mp h
  have key : ∀ j, j < 2147483648 → (if nI j ≤ 0 then nI j else nI j + (-1)) = nI (j - 1) := by
    intro j hj
    cases j with
    | zero => rw [if_pos (by decide)]
    | succ j => rw [if_neg (nI_nle (by omega) hj), pk_m1]; rfl
  rw [key n hn, key k hk]
  exact ⟨nI_pos' (by omega), (nI_leI (by omega) (by omega)).mpr (by omega)⟩
theorem bdn_9 {f g : Nat} {x : vX} : bdn f x (6 * g + 9) = if g = f then (if x (6 * f + 9) ≤ 0 then x (6 * f + 9) else x (6 * f + 9) + (-1)) else x (6 * g + 9) := by
  by_cases h : g = f
  · subst h
    rw [if_pos rfl]
    unfold bdn
    split
    · rfl
    · exact upd_s _ _ _
  · rw [if_neg h]
    exact bdn_o (by omega)
theorem ob_fend {x y : vX} {f : Nat} (h : ob x y) (hf : f < 8) : ob (fend f x) (fend f y) := by
  have e9 : ∀ z : vX, ∀ v : Int32, ∀ g : Nat, upd z (6 * f + 13) v (6 * g + 9) = z (6 * g + 9) := fun z v g => upd_n (by omega)
  unfold fend
  refine ⟨?_, fun k hk => ?_, fun g hg => ⟨?_, ?_⟩⟩
  · rw [bdn_o (by omega), bdn_o (by omega), upd_n (by omega), upd_n (by omega)]
    exact h.1
  · rw [bdn_o (by omega), bdn_o (by omega), upd_n (by omega), upd_n (by omega)]
    exact h.2.1 k hk
  · rw [bdn_o (by omega), bdn_o (by omega), upd_n (by omega), upd_n (by omega)]
    exact (h.2.2 g hg).1
  · rw [bdn_9, bdn_9, e9, e9, e9, e9]
    by_cases hgf : g = f
    · rw [if_pos hgf, if_pos hgf]
      exact i32_dn (h.2.2 f hf).2.2 (h.2.2 f hf).2.1
    · rw [if_neg hgf, if_neg hgf]
      exact (h.2.2 g hg).2
theorem ob_fofend {x y : vX} (h : ob x y) : ∀ n, n ≤ 8 → ob (fo fend n x) (fo fend n y)
  | 0, _ => h
  | n + 1, hn => ob_fend (ob_fofend h n (by omega)) (by omega)
theorem ob_4 {x y : vX} {v w : Int32} (h : ob x y) : ob (upd x 4 v) (upd y 4 w) :=
  ⟨by rw [upd_n (by omega), upd_n (by omega)]; exact h.1, fun k hk => by rw [upd_n (by omega), upd_n (by omega)]; exact h.2.1 k hk, fun f hf => by rw [upd_n (by omega), upd_n (by omega), upd_n (by omega), upd_n (by omega)]; exact h.2.2 f hf⟩
theorem ob_sec {x y : vX} (hd : vd x) (h : ob x y) : ob (secv x) (secv y) := by
  have hb := ob_beg h
  have hv : vfl (many (begx x)) (begx x) := vfl_of (vd_mid hd).2.2.2.2
  show ob (endv (many (begx x)) (begx x)) (endv (many (begx y)) (begx y))
  rw [← ob_many hb]
  unfold endv
  exact ob_4 (ob_fofend (ob_focnt hb hv _ (Nat.le_refl _)) 8 (by decide))
theorem ob_pass {x y : vX} (hd : vd x) (h : ob x y) : ∀ n, ob (passv n x) (passv n y)
  | 0 => h
  | n + 1 => ob_sec (vd_pass hd n) (ob_pass hd h n)
theorem plF_hi {x y : vX} {v : Int32} (h : ∀ k, 57 ≤ k → x k = y k) : ∀ t i, plF x v t i = plF y v t i
  | 0, _ => rfl
  | t + 1, i => by
    unfold plF
    rw [h (4 * i + 58) (by omega), plF_hi h t (i + 1)]
theorem ob_plx {x y : vX} {v : Int32} (h : ob x y) : plx v x = plx v y := by
  have hb := ob_beg h
  unfold plx
  rw [ob_many hb]
  exact plF_hi (fun k hk => hb.2.1 k (by omega)) _ _
theorem ob_lamp {x y : vX} {f : Nat} (h : ob x y) (hf : f < 8) (h0 : lampv y f = 0) : lampv x f = 0 := by
  obtain ⟨_, h1, h2⟩ := h
  unfold lampv at h0 ⊢
  rw [h1 7 (by omega), h1 6 (by omega)]
  split at h0
  · exact absurd h0 (by decide)
  · rename_i h7
    rw [if_neg h7]
    split at h0
    · rename_i h9
      have h3 := (h2 f hf).2
      rw [h9] at h3
      rw [if_pos (Int32.le_antisymm h3.2 h3.1)]
      exact h0
    · split at h0
      · exact absurd h0 (by decide)
      · exact absurd h0 (by decide)
theorem dwd_b (v : Int32) (x : vX) : ∃ b, b ≤ 1 ∧ dwd v x = nI b := by
  unfold dwd
  split
  · exact ⟨1, Nat.le_refl _, rfl⟩
  · exact ⟨0, Nat.zero_le _, rfl⟩
theorem ob_dwd {x y : vX} {v : Int32} (hd : vd x) (h : ob x y) (hp : ¬ plx v x = (-1)) (h1 : dwd v y = 1) : dwd v x = 1 := by
  have hb := ob_beg h
  have hmid := vd_mid hd
  have e := ob_plx (v := v) h
  unfold dwd at h1 ⊢
  rw [← e] at h1
  obtain ⟨g, q1, q2, q3, q4⟩ := (plF_in (x := begx x) (v := v) (many (begx x)) 0).resolve_left (by unfold plx at hp; exact hp)
  have q3 : plx v x = nI g := by unfold plx; exact q3
  have hm7 : many (begx x) ≤ 7 := hmid.1
  have hrow : vrow (begx x) g := hmid.2.2.2.2 g (by show g < many (begx x); omega)
  obtain ⟨f, hf, ef⟩ := hrow.1
  rw [q3, nI_clamp (by omega)] at h1 ⊢
  rw [← hb.2.1 (4 * g + 59) (by omega), ef, nI_clamp (by omega)] at h1
  rw [ef, nI_clamp (by omega)]
  split at h1
  · rename_i h2
    rw [if_pos (ob_lamp hb hf h2)]
  · exact absurd h1 (by decide)
theorem ob_dc {x y : vX} {v : Int32} (hd : vd x) (h : ob x y) : ∀ n, (∀ i, i < n → ¬ plx v (passv i x) = (-1)) → ∃ a b, dcF v x n = nI a ∧ dcF v y n = nI b ∧ b ≤ a ∧ a ≤ n
  | 0, _ => ⟨0, 0, rfl, rfl, Nat.le_refl _, Nat.le_refl _⟩
  | n + 1, hi => by
    obtain ⟨a, b, e1, e2, h1, h2⟩ := ob_dc hd h n (fun i h9 => hi i (by omega))
    obtain ⟨a1, ha1, ea⟩ := dwd_b v (passv n x)
    obtain ⟨b1, hb1, eb⟩ := dwd_b v (passv n y)
    have hle : b1 ≤ a1 := by
      rcases (show b1 = 0 ∨ b1 = 1 by omega) with q | q
      · omega
      · have h3 := ob_dwd (v := v) (vd_pass hd n) (ob_pass hd h n) (hi n (by omega)) (by rw [eb, q]; rfl)
        rcases (show a1 = 0 ∨ a1 = 1 by omega) with q2 | q2
        · rw [ea, q2] at h3
          exact absurd h3 (by decide)
        · omega
    refine ⟨a + a1, b + b1, ?_, ?_, by omega, by omega⟩
    · show dcF v x n + dwd v (passv n x) = _
      rw [e1, ea, nI_add]
    · show dcF v y n + dwd v (passv n y) = _
      rw [e2, eb, nI_add]
theorem ob_dn {v : Int32} : ∀ t (x y : vX), vd x → ob x y → dnF v t x = dnF v t y
  | 0, _, _, _, _ => rfl
  | t + 1, x, y, hd, h => by
    unfold dnF
    rw [ob_plx h, ob_dn t (secv x) (secv y) (vd_sec hd) (ob_sec hd h)]
theorem ob_ent {x y : vX} {m : Nat} {f t T : Int32} (h : ob x y) (h5 : x 5 = y 5) (hm : m ≤ 7) : ob (entv m f t T x) (entv m f t T y) := by
  have e : ∀ z : vX, ∀ k, k < 57 → k ≠ 5 → entv m f t T z k = z k := fun z k h1 h2 => entv_lo h1 h2
  refine ⟨by rw [e x 0 (by omega) (by omega), e y 0 (by omega) (by omega)]; exact h.1, fun k hk => ?_, fun g hg => ?_⟩
  · rcases Nat.lt_or_ge k 57 with h1 | h1
    · rw [e x k h1 (by omega), e y k h1 (by omega)]
      exact h.2.1 k hk
    · have key : ∀ (i : Nat) (v w : Int32) (X Y : vX), X k = Y k → (k ≠ i ∨ v = w) → upd X i v k = upd Y i w k := fun i v w X Y hh hvw => by
        by_cases h2 : k = i
        · rw [h2, upd_s, upd_s]
          exact hvw.resolve_left (fun q => q h2)
        · rw [upd_n h2, upd_n h2]
          exact hh
      unfold entv
      exact key _ _ _ _ _ (key _ _ _ _ _ (key _ _ _ _ _ (key _ _ _ _ _ (key _ _ _ _ _ (key _ _ _ _ _ (h.2.1 k hk) (Or.inr h5)) (Or.inr rfl)) (Or.inr rfl)) (Or.inr rfl)) (Or.inr rfl)) (Or.inl (by omega))
  · rw [e x _ (by omega) (by omega), e x _ (by omega) (by omega), e y _ (by omega) (by omega), e y _ (by omega) (by omega)]
    exact h.2.2 g hg
/-- the dark seconds of a walk in thought do not rise with the time of burning -/
theorem dkw_mono {x y : vX} {f t T T2 : Nat} (h : rel x y) (hn : nng x) (hm : many x ≤ 6) (hf : f < 8) (ht : t < 8) (hT : T ≤ T2) (hT2 : T2 < 2147483648) : ∃ a b, dkw (nI f) (nI t) (nI T) x = nI a ∧ dkw (nI f) (nI t) (nI T2) x = nI b ∧ b ≤ a ∧ a ≤ 420 := by
  have h1 : ob (upd x 0 (nI T)) (upd x 0 (nI T2)) := by
    refine ⟨?_, fun k hk => ?_, fun g hg => ?_⟩
    · rw [upd_s, upd_s]
      exact (nI_leI (by omega) hT2).mpr hT
    · rw [upd_n (by omega), upd_n (by omega)]
    · rw [upd_n (by omega), upd_n (by omega), upd_n (by omega), upd_n (by omega)]
      exact ⟨rfl, hn g hg, Int32.le_refl _⟩
  have h2 : ob (dwx (nI f) (nI t) (nI T) x) (dwx (nI f) (nI t) (nI T2) x) := ob_ent h1 (by rw [upd_n (by omega), upd_n (by omega)]) (by omega)
  have h3 := rel_dwx (z := x) (T := nI T) h hm hf ht
  have h4 := dnF_420 h3 (x 5)
  obtain ⟨a, b, e1, e2, q1, q2⟩ := ob_dc (v := x 5) h3.1 h2 (dnF (x 5) 480 (dwx (nI f) (nI t) (nI T) x)) (fun i hi => dnF_lo _ 480 _ i hi)
  refine ⟨a, b, e1, ?_, q1, by omega⟩
  unfold dkw
  rw [← ob_dn 480 _ _ h3.1 h2]
  exact e2
