/-! what holds of a state of the stairs; every call keeps it -/
def t200 (T : Int32) : Prop := ∃ a, 1 ≤ a ∧ a ≤ 200 ∧ T = nI a
/-- lamps burn for 0 to 200 seconds -/
def brn (x : vX) : Prop := t200 (x 0) ∧ ∀ f, f < 8 → ∃ b, b ≤ 200 ∧ x (6 * f + 9) = nI b
theorem brn_of {x x' : vX} (hn : brn x) (h0 : x' 0 = x 0) (h : ∀ f, f < 8 → x' (6 * f + 9) = x (6 * f + 9)) : brn x' :=
  ⟨by rw [h0]; exact hn.1, fun f hf => by rw [h f hf]; exact hn.2 f hf⟩
theorem brn_mx {T v : Int32} (hT : t200 T) (hv : ∃ b, b ≤ 200 ∧ v = nI b) : ∃ b, 1 ≤ b ∧ b ≤ 200 ∧ (if T ≤ v then v else T) = nI b := by
  obtain ⟨a, a1, a2, rfl⟩ := hT
  obtain ⟨b, b2, rfl⟩ := hv
  by_cases h : nI a ≤ nI b
  · rw [if_pos h]
    have := (nI_leI (by omega) (by omega)).mp h
    exact ⟨b, by omega, b2, rfl⟩
  · rw [if_neg h]
    exact ⟨a, a1, a2, rfl⟩
theorem brn_sw {T : Int32} {f : Nat} {x : vX} (hn : brn x) (hT : t200 T) (hf : f < 8) : brn (sw T f x) := by
  refine ⟨by rw [sw_o (by omega) (by omega)]; exact hn.1, fun g hg => ?_⟩
  rw [sw_9]
  by_cases h : g = f
  · rw [if_pos h]
    obtain ⟨b, _, b2, e⟩ := brn_mx hT (hn.2 f hf)
    exact ⟨b, b2, e⟩
  · rw [if_neg h]
    exact hn.2 g hg
theorem brn_fosw {T : Int32} {x : vX} (hn : brn x) (hT : t200 T) : ∀ n, n ≤ 8 → brn (fo (sw T) n x)
  | 0, _ => hn
  | n + 1, h => brn_sw (brn_fosw hn hT n (by omega)) hT (by omega)
theorem brn_arnd {f : Nat} {x : vX} (hn : brn x) (hf : f < 8) : brn (arnd f x) := by
  unfold arnd
  have h1 := brn_sw hn hn.1 hf
  split
  · have h2 : brn ((if 0 < f then sw (x 0) (f - 1) else id) (sw (x 0) f x)) := by
      split
      · exact brn_sw h1 hn.1 (by omega)
      · exact h1
    split
    · exact brn_sw h2 hn.1 (by omega)
    · exact h2
  · exact h1
theorem brn_fola {m : Nat} {x : vX} (hn : brn x) : ∀ n, n ≤ 8 → brn (fo (la m) n x)
  | 0, _ => hn
  | n + 1, h => by
    have ih := brn_fola (m := m) hn n (by omega)
    show brn (la m n (fo (la m) n x))
    unfold la
    split
    · exact brn_arnd ih (by omega)
    · exact ih
theorem brn_dn {v : Int32} (h : ∃ b, b ≤ 200 ∧ v = nI b) : ∃ b, b ≤ 200 ∧ (if v ≤ 0 then v else v + (-1)) = nI b := by
  obtain ⟨b, b2, rfl⟩ := h
  cases b with
  | zero => exact ⟨0, by omega, by rw [if_pos (by decide)]⟩
  | succ j => exact ⟨j, by omega, by rw [if_neg (nI_nle (by omega) (by omega)), pk_m1]⟩
theorem brn_fofend {x : vX} (hn : brn x) : ∀ n, n ≤ 8 → brn (fo fend n x)
  | 0, _ => hn
  | n + 1, h => by
    have ih := brn_fofend hn n (by omega)
    show brn (fend n (fo fend n x))
    unfold fend
    refine ⟨by rw [bdn_o (by omega), upd_n (by omega)]; exact ih.1, fun g hg => ?_⟩
    rw [bdn_9]
    by_cases hgn : g = n
    · rw [if_pos hgn, upd_n (by omega)]
      exact brn_dn (ih.2 n (by omega))
    · rw [if_neg hgn, upd_n (by omega)]
      exact ih.2 g hg
theorem brn_go {x : vX} {T : Int32} {m : Nat} (hn : brn x) : brn (goOnv T m x) := by
  refine brn_of hn ?_ (fun f hf => ?_)
  · unfold goOnv
    rw [upd_n (by omega), goS_o _ _ _ (by omega)]
  · unfold goOnv
    rw [upd_n (by omega), goS_o _ _ _ (by omega)]
theorem brn_beg {x : vX} (hn : brn x) : brn (begx x) := by
  unfold begx beginv
  exact brn_fola (brn_go hn) 8 (by decide)
theorem brn_sec {x : vX} (h : vd x) (hn : brn x) : brn (secv x) := by
  have hb := brn_beg hn
  have hv : vfl (many (begx x)) (begx x) := vfl_of (vd_mid h).2.2.2.2
  have hc : brn (fo cntp (many (begx x)) (begx x)) := brn_of hb (focnt_o hv (Or.inl (by decide)) _ (Nat.le_refl _)) (fun f hf => focnt_9 _)
  have hf := brn_fofend hc 8 (by decide)
  show brn (endv (many (begx x)) (begx x))
  unfold endv
  exact brn_of hf (upd_n (by omega)) (fun f hf => upd_n (by omega))
theorem brn_pass {x : vX} (h : vd x) (hn : brn x) : ∀ n, brn (passv n x)
  | 0 => hn
  | n + 1 => brn_sec (vd_pass h n) (brn_pass h hn n)
/-- numbers that no sensor changes -/
theorem sw_k {T : Int32} {f k : Nat} {x : vX} (h : k % 6 ≠ 3 ∧ k % 6 ≠ 2) : sw T f x k = x k := sw_o (by omega) (by omega)
theorem la_k {m f k : Nat} {x : vX} (h : k % 6 ≠ 3 ∧ k % 6 ≠ 2) : la m f x k = x k := by
  unfold la
  split
  · unfold arnd
    split
    · have h2 : (if 0 < f then sw (x 0) (f - 1) else id) (sw (x 0) f x) k = x k := by
        split
        · exact (sw_k h).trans (sw_k h)
        · exact sw_k h
      split
      · exact (sw_k h).trans h2
      · exact h2
    · exact sw_k h
  · rfl
theorem fola_k {m k : Nat} {x : vX} (h : k % 6 ≠ 3 ∧ k % 6 ≠ 2) : ∀ n, fo (la m) n x k = x k
  | 0 => rfl
  | n + 1 => (la_k h).trans (fola_k h n)
theorem beg_k {k : Nat} {x : vX} (h : k % 6 ≠ 3 ∧ k % 6 ≠ 2) (hk : k < 57) : begx x k = x k := by
  show beginv (many x) x k = x k
  unfold beginv
  rw [fola_k h]
  unfold goOnv
  rw [upd_n (by omega), goS_o _ _ _ (by omega)]
theorem cnt_10 {f g : Nat} {x : vX} : cnt f x (6 * g + 10) = x (6 * g + 10) := by
  unfold cnt
  rw [upd_n (by omega)]
  split
  · exact upd_n (by omega)
  · split
    · exact upd_n (by omega)
    · rfl
theorem focnt_10 {g : Nat} {x : vX} : ∀ n, fo cntp n x (6 * g + 10) = x (6 * g + 10)
  | 0 => rfl
  | n + 1 => cnt_10.trans (focnt_10 n)
theorem fofend_10 {g : Nat} {x : vX} : ∀ n, fo fend n x (6 * g + 10) = x (6 * g + 10)
  | 0 => rfl
  | n + 1 => by
    show fend n (fo fend n x) (6 * g + 10) = _
    unfold fend
    rw [bdn_o (by omega), upd_n (by omega)]
    exact fofend_10 n
theorem sec_10 {g : Nat} {x : vX} (hg : g < 8) : secv x (6 * g + 10) = x (6 * g + 10) := by
  show endv (many (begx x)) (begx x) (6 * g + 10) = _
  unfold endv
  show upd _ 4 _ _ = _
  rw [upd_n (by omega), fofend_10, focnt_10]
  exact beg_k (by omega) (by omega)
theorem pass_10 {g : Nat} {x : vX} (hg : g < 8) : ∀ n, passv n x (6 * g + 10) = x (6 * g + 10)
  | 0 => rfl
  | n + 1 => by
    have e : passv (n + 1) x = secv (passv n x) := rfl
    rw [e, sec_10 hg]
    exact pass_10 hg n
theorem pass_lo {x : vX} (h : vd x) {k : Nat} (hk : k < 8) (h4 : k ≠ 4) : ∀ n, passv n x k = x k
  | 0 => rfl
  | n + 1 => (sec_lo (vd_pass h n) hk h4).trans (pass_lo h hk h4 n)
/-- sensors: 0 or 1 -/
def snds (x : vX) : Prop := ∀ f, f < 8 → x (6 * f + 10) = 0 ∨ x (6 * f + 10) = 1
def sts (x : vX) : Prop := (∃ a, a ≤ 60 ∧ x 1 = nI a) ∧ (∃ a, a ≤ 1 ∧ x 2 = nI a) ∧ tim (x 3)
def st (C B : Nat) (x : vX) : Prop := vd x ∧ many x ≤ 6 ∧ sts x ∧ (∀ p, p < many x → lfz x p) ∧ (∃ c, c ≤ C ∧ nums x c) ∧ brn x ∧ snds x ∧ bnd x B
theorem st_mono {C B C2 B2 : Nat} {x : vX} (h : st C B x) (hC : C ≤ C2) (hB : B ≤ B2) : st C2 B2 x := by
  obtain ⟨h1, h2, h3, h4, ⟨c, h5, h6⟩, h7, h8, h9⟩ := h
  exact ⟨h1, h2, h3, h4, ⟨c, by omega, h6⟩, h7, h8, bnd_mono h9 hB⟩
theorem vd_of {x x' : vX} (h : vd x) (hx : ∀ k, k = 6 ∨ k = 7 ∨ 57 ≤ k → x' k = x k) : vd x' := by
  obtain ⟨m, h1, h57, h6, h7, hr⟩ := h
  exact ⟨m, h1, by rw [hx 57 (by omega)]; exact h57, by rw [hx 6 (by omega)]; exact h6, by rw [hx 7 (by omega)]; exact h7, fun p hp => vrow_of (hr p hp) (hx _ (by omega)) (hx _ (by omega))⟩
/-- what changes no person, no setting and no sum -/
theorem st_keep {C B : Nat} {x x' : vX} (h : st C B x) (hx : ∀ k, (k < 4 ∨ (5 ≤ k ∧ k < 9) ∨ 57 ≤ k ∨ (8 < k ∧ (k % 6 = 5 ∨ k % 6 = 0))) → x' k = x k) (hb : brn x') (hs : snds x') : st C B x' := by
  obtain ⟨h1, h2, h3, h4, ⟨c, h5, h6⟩, h7, h8, h9⟩ := h
  have hm : many x' = many x := many_same (hx 57 (by omega))
  refine ⟨vd_of h1 (fun k hk => hx k (by omega)), by rw [hm]; exact h2, ?_, fun p hp => ?_, ⟨c, h5, nums_lo h6 (fun k hk => hx k (by omega))⟩, hb, hs, bnd_of h9 (fun k hk h => hx k (by omega))⟩
  · unfold sts
    rw [hx 1 (by omega), hx 2 (by omega), hx 3 (by omega)]
    exact h3
  · rw [hm] at hp
    exact lfz_of (h4 p hp) (fun i hi => hx _ (by omega))
theorem snds_of {x x' : vX} (h : snds x) (hx : ∀ f, f < 8 → x' (6 * f + 10) = x (6 * f + 10)) : snds x' := fun f hf => by
  rw [hx f hf]
  exact h f hf
theorem st_press {C B f : Nat} {x : vX} (h : st C B x) (hf : f < 8) : st C B (sw (x 0) f x) :=
  st_keep h (fun k hk => sw_o (by omega) (by omega)) (brn_sw h.2.2.2.2.2.1 h.2.2.2.2.2.1.1 hf) (snds_of h.2.2.2.2.2.2.1 (fun g _ => sw_k (by omega)))
theorem st_night {C B : Nat} {b : Int32} {x : vX} (h : st C B x) (hb : b = 0 ∨ b = 1) : st C B (upd x 6 b) := by
  obtain ⟨h1, h2, h3, h4, ⟨c, h5, h6⟩, h7, h8, h9⟩ := h
  have hm : many (upd x 6 b) = many x := many_upd (by omega)
  refine ⟨?_, by rw [hm]; exact h2, h3, fun p hp => lfz_of (h4 p (by rw [hm] at hp; exact hp)) (fun i hi => upd_n (by omega)), ⟨c, h5, nums_lo h6 (fun k hk => upd_n (by omega))⟩, brn_of h7 (upd_n (by omega)) (fun f hf => upd_n (by omega)), snds_of h8 (fun f hf => upd_n (by omega)), bnd_of h9 (fun k hk h => upd_n (by omega))⟩
  obtain ⟨m, a1, a57, a6, a7, ar⟩ := h1
  exact ⟨m, a1, by rw [upd_n (by omega)]; exact a57, by rw [upd_s]; exact hb, by rw [upd_n (by omega)]; exact a7, fun p hp => vrow_of (ar p hp) (upd_n (by omega)) (upd_n (by omega))⟩
theorem st_seven {C B : Nat} {b : Int32} {x : vX} (h : st C B x) (hb : b = 0 ∨ b = 1) : st C B (upd x 7 b) := by
  obtain ⟨h1, h2, h3, h4, ⟨c, h5, h6⟩, h7, h8, h9⟩ := h
  have hm : many (upd x 7 b) = many x := many_upd (by omega)
  refine ⟨?_, by rw [hm]; exact h2, h3, fun p hp => lfz_of (h4 p (by rw [hm] at hp; exact hp)) (fun i hi => upd_n (by omega)), ⟨c, h5, nums_lo h6 (fun k hk => upd_n (by omega))⟩, brn_of h7 (upd_n (by omega)) (fun f hf => upd_n (by omega)), snds_of h8 (fun f hf => upd_n (by omega)), bnd_of h9 (fun k hk h => upd_n (by omega))⟩
  obtain ⟨m, a1, a57, a6, a7, ar⟩ := h1
  exact ⟨m, a1, by rw [upd_n (by omega)]; exact a57, by rw [upd_n (by omega)]; exact a6, by rw [upd_s]; exact hb, fun p hp => vrow_of (ar p hp) (upd_n (by omega)) (upd_n (by omega))⟩
theorem st_fire {C B : Nat} {b : Int32} {x : vX} (h : st C B x) (hb : b = 0 ∨ b = 1) : st C B (firv b x) := by
  unfold firv
  refine st_seven ?_ hb
  split
  · exact st_keep h (fun k hk => (show ∀ n, n ≤ 8 → fo (sw (x 0)) n x k = x k from fun n hn => by
      induction n with
      | zero => rfl
      | succ n ih => exact (sw_o (by omega) (by omega)).trans (ih (by omega))) 8 (by decide)) (brn_fosw h.2.2.2.2.2.1 h.2.2.2.2.2.1.1 8 (by decide)) (snds_of h.2.2.2.2.2.2.1 (fun g hg => (show ∀ n, n ≤ 8 → fo (sw (x 0)) n x (6 * g + 10) = x (6 * g + 10) from fun n hn => by
      induction n with
      | zero => rfl
      | succ n ih => exact (sw_o (by omega) (by omega)).trans (ih (by omega))) 8 (by decide)))
  · exact h
theorem st_sensor {C B g : Nat} {b : Int32} {x : vX} (h : st C B x) (hg : g < 8) (hb : b = 0 ∨ b = 1) : st C B (upd x (6 * g + 10) b) := by
  refine st_keep h (fun k hk => upd_n (by omega)) (brn_of h.2.2.2.2.2.1 (upd_n (by omega)) (fun f hf => upd_n (by omega))) (fun f hf => ?_)
  by_cases hfg : f = g
  · rw [hfg, upd_s]
    exact hb
  · rw [upd_n (by omega)]
    exact h.2.2.2.2.2.2.1 f hf
/-- a setting in its range -/
theorem st_set {C B i : Nat} {v : Int32} {x : vX} (h : st C B x) (hi : i < 4) (h0 : i = 0 → t200 v) (h1' : i = 1 → ∃ a, a ≤ 60 ∧ v = nI a) (h2' : i = 2 → ∃ a, a ≤ 1 ∧ v = nI a) (h3' : i = 3 → tim v) : st C B (upd x i v) := by
  obtain ⟨h1, h2, h3, h4, ⟨c, h5, h6⟩, h7, h8, h9⟩ := h
  have hm : many (upd x i v) = many x := many_upd (by omega)
  refine ⟨vd_upd h1 (by omega), by rw [hm]; exact h2, ⟨?_, ?_, ?_⟩, fun p hp => lfz_of (h4 p (by rw [hm] at hp; exact hp)) (fun i hi => upd_n (by omega)), ⟨c, h5, nums_lo h6 (fun k hk => upd_n (by omega))⟩, ⟨?_, fun f hf => ?_⟩, snds_of h8 (fun f hf => upd_n (by omega)), bnd_of h9 (fun k hk h => upd_n (by omega))⟩
  · by_cases q : i = 1
    · rw [q, upd_s]
      exact h1' q
    · rw [upd_n (by omega)]
      exact h3.1
  · by_cases q : i = 2
    · rw [q, upd_s]
      exact h2' q
    · rw [upd_n (by omega)]
      exact h3.2.1
  · by_cases q : i = 3
    · rw [q, upd_s]
      exact h3' q
    · rw [upd_n (by omega)]
      exact h3.2.2
  · by_cases q : i = 0
    · rw [q, upd_s]
      exact h0 q
    · rw [upd_n (by omega)]
      exact h7.1
  · rw [upd_n (by omega)]
    exact h7.2 f hf
theorem st_come {C B f t : Nat} {x : vX} (h : st C B x) (hm : many x < 6) (hf : f < 8) (ht : t < 8) (hft : f ≠ t) : st (C + 1) B (entv (many x) (nI f) (nI t) (x 3) x) := by
  obtain ⟨h1, h2, h3, h4, ⟨c, h5, h6⟩, h7, h8, h9⟩ := h
  have hme : many (entv (many x) (nI f) (nI t) (x 3) x) = many x + 1 := many_eq entv_57 (by omega)
  refine ⟨vd_ent h1 (by omega) hf ht, by omega, ?_, fun p hp => ?_, ⟨c + 1, by omega, nums_ent h6 (by omega)⟩, brn_of h7 (entv_lo (by omega) (by omega)) (fun g hg => entv_lo (by omega) (by omega)), snds_of h8 (fun g hg => entv_lo (by omega) (by omega)), bnd_ent h9⟩
  · unfold sts
    rw [entv_lo (by omega) (by omega), entv_lo (by omega) (by omega), entv_lo (by omega) (by omega)]
    exact h3
  · rw [hme] at hp
    by_cases hpm : p < many x
    · exact lfz_of (h4 p hpm) (fun i hi => entv_row hpm hi)
    · obtain rfl : p = many x := by omega
      have hne : ¬ nI f = nI t := fun q => hft ((nI_eq (by omega) (by omega)).mp q)
      unfold lfz entv
      rw [upd_n (by omega), upd_n (by omega), upd_n (by omega), upd_n (by omega), upd_s, upd_n (by omega), upd_n (by omega), upd_n (by omega), upd_s, upd_n (by omega), upd_n (by omega), upd_s, if_neg hne]
      exact Or.inr ⟨hne, h3.2.2⟩
theorem st_turn {C B p t : Nat} {x : vX} (h : st C B x) (hp : p < many x) (ht : t < 8) : st C B (trnv p (nI t) x) := by
  obtain ⟨h1, h2, h3, h4, ⟨c, h5, h6⟩, h7, h8, h9⟩ := h
  have hm : many (trnv p (nI t) x) = many x := by
    unfold trnv
    rw [many_upd (by omega), many_upd (by omega)]
  have hrow : ∀ q, q ≠ p → rowq (trnv p (nI t) x) x q q := fun q hq i hi => by
    unfold trnv
    rw [upd_n (by omega), upd_n (by omega)]
  have hlo : ∀ k, k < 58 → trnv p (nI t) x k = x k := fun k hk => by
    unfold trnv
    rw [upd_n (by omega), upd_n (by omega)]
  refine ⟨?_, by rw [hm]; exact h2, ?_, fun q hq => ?_, ⟨c, h5, nums_of h6 (hlo 5 (by omega)) hm (fun q hq => ?_)⟩, brn_of h7 (hlo 0 (by omega)) (fun f hf => hlo _ (by omega)), snds_of h8 (fun f hf => hlo _ (by omega)), bnd_of h9 (fun k hk _ => hlo k (by omega))⟩
  · obtain ⟨m, h1, h57, h6, h7, hr⟩ := h1
    refine ⟨m, h1, (hlo 57 (by omega)).trans h57, by rw [hlo 6 (by omega)]; exact h6, by rw [hlo 7 (by omega)]; exact h7, fun q hq => ?_⟩
    by_cases hqp : q = p
    · subst hqp
      obtain ⟨f, hf, ef⟩ := (hr q hq).1
      refine ⟨⟨f, hf, ?_⟩, t, ht, ?_⟩
      · unfold trnv
        rw [upd_n (by omega), upd_n (by omega)]
        exact ef
      · unfold trnv
        rw [upd_n (by omega), upd_s]
    · exact vrow_of (hr q hq) (hrow q hqp 1 (by decide)) (hrow q hqp 2 (by decide))
  · unfold sts
    rw [hlo 1 (by omega), hlo 2 (by omega), hlo 3 (by omega)]
    exact h3
  · rw [hm] at hq
    by_cases hqp : q = p
    · subst hqp
      unfold lfz trnv
      rw [upd_n (by omega), upd_n (by omega), upd_n (by omega), upd_s, upd_s]
      by_cases h9 : x (4 * q + 59) = nI t
      · rw [if_pos h9]
        exact Or.inl ⟨h9, rfl⟩
      · rw [if_neg h9]
        exact Or.inr ⟨h9, h3.2.2⟩
    · exact lfz_of (h4 q hq) (hrow q hqp)
  · unfold trnv
    rw [upd_n (by omega), upd_n (by omega)]
theorem st_sec {C B : Nat} {x : vX} (h : st C B x) : st C (B + 7) (secv x) := by
  obtain ⟨h1, h2, h3, h4, ⟨c, h5, h6⟩, h7, h8, h9⟩ := h
  have hm := many_sec_le h1
  refine ⟨vd_sec h1, by omega, ?_, lfz_sec h1 h3.2.2 h4, ⟨c, h5, nums_sec h1 h6⟩, brn_sec h1 h7, snds_of h8 (fun f hf => sec_10 hf), bnd_sec h1 h9⟩
  unfold sts
  rw [sec_lo h1 (by decide) (by decide), sec_lo h1 (by decide) (by decide), sec_lo h1 (by decide) (by decide)]
  exact h3
theorem st_pass {C B : Nat} {x : vX} (h : st C B x) : ∀ n, st C (B + 7 * n) (passv n x)
  | 0 => h
  | n + 1 => by
    rw [show B + 7 * (n + 1) = B + 7 * n + 7 by omega]
    exact st_sec (st_pass h n)
