/-! a share is from 0 to 1 -/
theorem near_ge {A B M : Nat} (hB : 0 < B) (h : M * B ≤ A) : M ≤ FP.Core.nearest A B := by
  have h1 : M ≤ A / B := (Nat.le_div_iff_mul_le hB).mpr h
  unfold FP.Core.nearest
  split
  · exact h1
  · split <;> omega
theorem near_le {A B M : Nat} (hB : 0 < B) (h : A < M * B) : FP.Core.nearest A B ≤ M := by
  have h1 : A / B < M := (Nat.div_lt_iff_lt_mul hB).mpr h
  unfold FP.Core.nearest
  split
  · omega
  · split
    · omega
    · have := Nat.mod_lt (A / B) (show 0 < 2 by decide)
      omega
theorem fp_i2d {n : Nat} (h0 : 0 < n) (hn : n < 2147483648) : ∃ k, k ≤ 52 ∧ 4503599627370496 ≤ n * 2 ^ k ∧ n * 2 ^ k < 9007199254740992 ∧ FP.i2d (nI n) = fdv (1075 - k) (n * 2 ^ k - 4503599627370496) := by
  obtain ⟨k, hk, h1, h2⟩ := fp_k h0 (show n < fpP by unfold fpP; omega)
  refine ⟨k, hk, h1, h2, ?_⟩
  show UInt64.ofNat (FP.Core.fromInt FP.Core.b64 (nI n).toInt) = _
  rw [nI_toInt hn]
  unfold FP.Core.fromInt
  have e : FP.Core.ofInt ((n : Nat) : Int) = .fin false n 0 := by
    unfold FP.Core.ofInt
    rw [decide_eq_false (by omega), Int.natAbs_natCast]
  rw [e]
  show UInt64.ofNat (FP.Core.encode FP.Core.b64 (FP.Core.roundRatio FP.Core.b64 false n 1 0)) = _
  rw [fp_round2 (c := n * 2 ^ k) (k := k) (q := -1074 + (((1075 - k : Nat) : Int) - 1)) h1 h2 rfl hk (by omega) (by omega) (by omega)]
  have h9 := fp_of (T := n * 2 ^ k - 4503599627370496) (q := -1074 + (((1075 - k : Nat) : Int) - 1)) rfl (by omega)
  rw [show 4503599627370496 + (n * 2 ^ k - 4503599627370496) = n * 2 ^ k by omega] at h9
  exact h9
theorem fp_log0 {c : Nat} (h1 : 4503599627370496 ≤ c) (h2 : c < 9007199254740992) : c.log2 = 52 := by
  have := fp_log (k := 0) h1 h2
  rw [Nat.pow_zero, Nat.mul_one] at this
  exact this
/-- what a rounded number of 53 digits is -/
theorem fp_settle {m : Nat} {q : Int} (h1 : 4503599627370496 ≤ m) (h2 : m ≤ 9007199254740992) (hl : -1000 ≤ q) (hh : q ≤ -53 ∨ (q = -52 ∧ m = 4503599627370496)) : ∃ E T, 1 ≤ E ∧ E ≤ 1023 ∧ T < fpP ∧ (E = 1023 → T = 0) ∧ UInt64.ofNat (FP.Core.encode FP.Core.b64 (FP.Core.settle FP.Core.b64 false m q)) = fdv E T := by
  unfold FP.Core.settle
  by_cases h3 : m < 9007199254740992
  · refine ⟨(q + 1075).toNat, m - 4503599627370496, by omega, by omega, by show _ < 4503599627370496; omega, by omega, ?_⟩
    rw [if_pos (show m < 2 ^ FP.Core.b64.p from h3)]
    unfold FP.Core.bound
    rw [fp_qmax, if_pos (by omega)]
    have h9 := fp_of (T := m - 4503599627370496) (q := q) (E := (q + 1075).toNat) (by omega) (by omega)
    rw [show 4503599627370496 + (m - 4503599627370496) = m by omega] at h9
    exact h9
  · refine ⟨(q + 1076).toNat, 0, by omega, by omega, by decide, fun _ => rfl, ?_⟩
    rw [if_neg (show ¬ m < 2 ^ FP.Core.b64.p from h3)]
    unfold FP.Core.bound
    rw [fp_qmax, if_pos (by omega), fp_tails]
    exact fp_of (T := 0) (q := q + 1) (E := (q + 1076).toNat) (by omega) (by omega)
theorem fp_share {a b : Nat} (h0 : 0 < a) (hab : a ≤ b) (hb : b < 2147483648) : ∃ E T, 1 ≤ E ∧ E ≤ 1023 ∧ T < fpP ∧ (E = 1023 → T = 0) ∧ FP.ddiv (FP.i2d (nI a)) (FP.i2d (nI b)) = fdv E T := by
  obtain ⟨ka, hka, a1, a2, ea⟩ := fp_i2d h0 (show a < 2147483648 by omega)
  obtain ⟨kb, hkb, b1, b2, eb⟩ := fp_i2d (show 0 < b by omega) hb
  rw [ea, eb]
  have hk : kb ≤ ka := by
    rcases Nat.lt_or_ge ka kb with h | h
    · exfalso
      have e1 : 2 ^ kb = 2 ^ (ka + 1) * 2 ^ (kb - (ka + 1)) := by rw [← Nat.pow_add, show ka + 1 + (kb - (ka + 1)) = kb by omega]
      have p1 := Nat.two_pow_pos (kb - (ka + 1))
      have e2 : a * 2 ^ (ka + 1) ≤ b * 2 ^ kb := by
        rw [e1]
        exact Nat.mul_le_mul hab (Nat.le_mul_of_pos_right _ p1)
      rw [Nat.pow_succ, ← Nat.mul_assoc] at e2
      omega
    · exact h
  generalize hc : a * 2 ^ ka = c at a1 a2
  generalize hd : b * 2 ^ kb = d at b1 b2
  have hcd : ka = kb → c ≤ d := fun h => by
    rw [← hc, ← hd, h]
    exact Nat.mul_le_mul_right _ hab
  show ∃ E T, 1 ≤ E ∧ E ≤ 1023 ∧ T < fpP ∧ (E = 1023 → T = 0) ∧ UInt64.ofNat (FP.Core.div FP.Core.b64 _ _) = fdv E T
  unfold FP.Core.div
  rw [fp_val (by omega) (by omega) (by show _ < 4503599627370496; omega), fp_val (by omega) (by omega) (by show _ < 4503599627370496; omega), show 4503599627370496 + (c - 4503599627370496) = c by omega, show 4503599627370496 + (d - 4503599627370496) = d by omega]
  have hq : FP.Core.quotient FP.Core.b64 (.fin false c (-1074 + (((1075 - ka : Nat) : Int) - 1))) (.fin false d (-1074 + (((1075 - kb : Nat) : Int) - 1))) = FP.Core.roundRatio FP.Core.b64 false c d ((kb : Int) - ka) := by
    show (if d = 0 then _ else _) = _
    rw [if_neg (by omega)]
    show FP.Core.roundRatio FP.Core.b64 false c d _ = _
    congr 1
    omega
  rw [hq]
  have hlead : FP.Core.leading c d = if d ≤ c then 0 else -1 := by
    unfold FP.Core.leading
    rw [fp_log0 a1 a2, fp_log0 b1 b2]
    dsimp only
    rw [show ((52 : Nat) : Int) - ((52 : Nat) : Int) = 0 by omega, show (-(0 : Int)).toNat = 0 from rfl, show (0 : Int).toNat = 0 from rfl, Nat.pow_zero, Nat.mul_one, Nat.mul_one]
    rfl
  unfold FP.Core.roundRatio
  rw [if_neg (by omega)]
  unfold FP.Core.roundAt FP.Core.quantum FP.Core.unitsNum FP.Core.unitsDen
  rw [hlead, fp_qmin, show ((FP.Core.b64.p : Nat) : Int) = 53 from rfl]
  by_cases h : d ≤ c
  · rw [if_pos h, show max (-1074 : Int) (0 + ((kb : Int) - ka) - (53 - 1)) = (kb : Int) - ka - 52 by omega, show ((kb : Int) - ka - ((kb : Int) - ka - 52)).toNat = 52 by omega, show ((kb : Int) - ka - 52 - ((kb : Int) - ka)).toNat = 0 by omega, Nat.pow_zero, Nat.mul_one]
    refine fp_settle (near_ge (by omega) ?_) (near_le (by omega) ?_) (by omega) ?_
    · rw [Nat.mul_comm]
      exact Nat.mul_le_mul_right _ h
    · show c * 4503599627370496 < 9007199254740992 * d
      omega
    · rcases Nat.lt_or_ge kb ka with h2 | h2
      · exact Or.inl (by omega)
      · have h3 : c = d := by
          have := hcd (by omega)
          omega
        refine Or.inr ⟨by omega, ?_⟩
        rw [h3, Nat.mul_comm]
        exact fp_near (by omega)
  · rw [if_neg h, show max (-1074 : Int) (-1 + ((kb : Int) - ka) - (53 - 1)) = (kb : Int) - ka - 53 by omega, show ((kb : Int) - ka - ((kb : Int) - ka - 53)).toNat = 53 by omega, show ((kb : Int) - ka - 53 - ((kb : Int) - ka)).toNat = 0 by omega, Nat.pow_zero, Nat.mul_one]
    refine fp_settle (near_ge (by omega) ?_) (near_le (by omega) ?_) (by omega) (Or.inl (by omega))
    · show 4503599627370496 * d ≤ c * 9007199254740992
      omega
    · show c * 9007199254740992 < 9007199254740992 * d
      omega
theorem fp_div0 {b : Nat} (h0 : 0 < b) (hb : b < 2147483648) : FP.ddiv (FP.i2d (nI 0)) (FP.i2d (nI b)) = 0 := by
  obtain ⟨kb, hkb, b1, b2, eb⟩ := fp_i2d h0 hb
  rw [eb, show FP.i2d (nI 0) = 0 from by decide +kernel]
  show UInt64.ofNat (FP.Core.div FP.Core.b64 _ _) = 0
  unfold FP.Core.div
  rw [fp_val (by omega) (by omega) (by show _ < 4503599627370496; omega), show (0 : UInt64).toNat = 0 from rfl, fp_dec0]
  unfold FP.Core.quotient
  dsimp only
  rw [if_neg (by omega)]
  unfold FP.Core.roundRatio
  rw [if_pos rfl]
  decide +kernel
theorem fp_shr {a b : Nat} (hab : a ≤ b) (h0 : 0 < b) (hb : b < 2147483648) : shr (FP.ddiv (FP.i2d (nI a)) (FP.i2d (nI b))) ∧ vf_n64 (FP.ddiv (FP.i2d (nI a)) (FP.i2d (nI b))) := by
  rcases Nat.eq_zero_or_pos a with h | h
  · rw [h, fp_div0 h0 hb]
    exact ⟨Or.inl rfl, by unfold vf_n64; decide⟩
  · obtain ⟨E, T, h1, h2, h3, h4, e⟩ := fp_share h hab hb
    rw [e]
    exact ⟨Or.inr ⟨E, T, h1, h2, h3, h4, rfl⟩, fp_n64 (by omega) h3⟩
theorem fp_shr1 : shr FP.dconst1 := Or.inr ⟨1023, 0, by decide, by decide, by decide, fun _ => rfl, fp_one⟩
