/-! doubles: the shares from 0 to 1, and what is done to them, on the bits -/
abbrev fpP : Nat := 4503599627370496
def fdv (E T : Nat) : UInt64 := UInt64.ofNat (E * 4503599627370496 + T)
theorem fdv_toNat {E T : Nat} (hE : E ≤ 2046) (hT : T < fpP) : (fdv E T).toNat = E * 4503599627370496 + T := by
  unfold fdv
  exact UInt64.toNat_ofNat_of_lt' (by show _ < 18446744073709551616; unfold fpP at hT; omega)
theorem fp_tails : FP.Core.b64.tails = 4503599627370496 := by decide
theorem fp_exps : FP.Core.b64.exps = 2048 := by decide
theorem fp_qmin : FP.Core.b64.qmin = -1074 := by decide
theorem fp_qmax : FP.Core.b64.qmax = 971 := by decide
theorem fp_dec {E T : Nat} (h1 : 1 ≤ E) (hE : E ≤ 2046) (hT : T < fpP) : FP.Core.decode FP.Core.b64 (E * 4503599627370496 + T) = .fin false (4503599627370496 + T) (-1074 + ((E : Int) - 1)) := by
  unfold fpP at hT
  have e1 : FP.Core.fieldE FP.Core.b64 (E * 4503599627370496 + T) = E := by
    unfold FP.Core.fieldE
    rw [fp_tails, fp_exps]
    omega
  have e2 : FP.Core.fieldT FP.Core.b64 (E * 4503599627370496 + T) = T := by
    unfold FP.Core.fieldT
    rw [fp_tails]
    omega
  have e3 : FP.Core.fieldS FP.Core.b64 (E * 4503599627370496 + T) = false := by
    unfold FP.Core.fieldS
    rw [fp_tails, fp_exps, show (E * 4503599627370496 + T) / 4503599627370496 / 2048 % 2 = 0 by omega]
    rfl
  unfold FP.Core.decode
  rw [e1, e2, e3, fp_exps, if_neg (by omega), if_neg (by omega), fp_tails, fp_qmin]
theorem fp_enc {T : Nat} {q : Int} : FP.Core.encode FP.Core.b64 (.fin false (4503599627370496 + T) q) = ((q + 1074).toNat + 1) * 4503599627370496 + T := by
  unfold FP.Core.encode
  dsimp only
  rw [fp_tails, if_neg (by omega), fp_qmin]
  unfold FP.Core.assemble
  rw [fp_tails, fp_exps, Nat.add_sub_cancel_left, show q - -1074 = q + 1074 by omega]
  simp
theorem fp_dec0 : FP.Core.decode FP.Core.b64 0 = .fin false 0 (-1074) := by decide +kernel
theorem fp_one : FP.dconst1 = fdv 1023 0 := by decide +kernel
theorem fp_two52 : (4841369599423283200 : UInt64) = fdv 1075 0 := by decide +kernel
theorem fp_two : (4611686018427387904 : UInt64) = fdv 1024 0 := by decide +kernel
theorem fp_log {c k : Nat} (h1 : 4503599627370496 ≤ c) (h2 : c < 9007199254740992) : (c * 2 ^ k).log2 = 52 + k := by
  have hp := Nat.two_pow_pos k
  have hne : c * 2 ^ k ≠ 0 := by
    have := Nat.mul_pos (show 0 < c by omega) hp
    omega
  have a1 : 52 + k ≤ (c * 2 ^ k).log2 := by
    rw [Nat.le_log2 hne, Nat.pow_add]
    exact Nat.mul_le_mul_right _ (by show 4503599627370496 ≤ c; exact h1)
  have a2 : (c * 2 ^ k).log2 < 53 + k := by
    rw [Nat.log2_lt hne, Nat.pow_add]
    exact Nat.mul_lt_mul_of_pos_right (by show c < 9007199254740992; exact h2) hp
  omega
theorem fp_near {c d : Nat} (hd : 0 < d) : FP.Core.nearest (c * d) d = c := by
  unfold FP.Core.nearest
  rw [Nat.mul_mod_left, if_pos (by omega), Nat.mul_div_cancel _ hd]
/-- exact: k digits too many -/
theorem fp_round {c k : Nat} {e q : Int} (h1 : 4503599627370496 ≤ c) (h2 : c < 9007199254740992) (hq : q = e + k) (hl : -1074 ≤ q) (hh : q ≤ 971) : FP.Core.roundRatio FP.Core.b64 false (c * 2 ^ k) 1 e = .fin false c q := by
  have hp := Nat.two_pow_pos k
  have hlead : FP.Core.leading (c * 2 ^ k) 1 = ((52 + k : Nat) : Int) := by
    unfold FP.Core.leading
    rw [fp_log h1 h2, show (1 : Nat).log2 = 0 from by decide]
    dsimp only
    rw [show ((52 + k : Nat) : Int) - ((0 : Nat) : Int) = ((52 + k : Nat) : Int) by omega, Int.toNat_natCast, show (-((52 + k : Nat) : Int)).toNat = 0 by omega, if_pos]
    rw [Nat.one_mul, Nat.pow_zero, Nat.mul_one, Nat.pow_add]
    exact Nat.mul_le_mul_right _ (by show 4503599627370496 ≤ c; exact h1)
  have hquan : FP.Core.quantum FP.Core.b64 (c * 2 ^ k) 1 e = q := by
    unfold FP.Core.quantum
    rw [hlead, fp_qmin, show ((FP.Core.b64.p : Nat) : Int) = 53 from rfl]
    omega
  unfold FP.Core.roundRatio
  rw [if_neg (by have := Nat.mul_pos (show 0 < c by omega) hp; omega), hquan]
  unfold FP.Core.roundAt FP.Core.unitsNum FP.Core.unitsDen
  rw [show (e - q).toNat = 0 by omega, show (q - e).toNat = k by omega, Nat.pow_zero, Nat.mul_one, Nat.one_mul, fp_near hp]
  unfold FP.Core.settle
  rw [if_pos (by show c < 9007199254740992; exact h2)]
  unfold FP.Core.bound
  rw [fp_qmax, if_pos hh]
/-- exact: digits too few -/
theorem fp_round2 {c k t : Nat} {e q : Int} (h1 : 4503599627370496 ≤ c) (h2 : c < 9007199254740992) (ht : c = t * 2 ^ k) (hk : k ≤ 52) (hq : q = e - k) (hl : -1074 ≤ q) (hh : q ≤ 971) : FP.Core.roundRatio FP.Core.b64 false t 1 e = .fin false c q := by
  have hp := Nat.two_pow_pos k
  have ht0 : 0 < t := by
    rcases Nat.eq_zero_or_pos t with h | h
    · rw [h, Nat.zero_mul] at ht
      omega
    · exact h
  have hlog : t.log2 = 52 - k := by
    have e1 : 2 ^ 52 = 2 ^ (52 - k) * 2 ^ k := by rw [← Nat.pow_add, Nat.sub_add_cancel hk]
    have e2 : 2 ^ 53 = 2 ^ (53 - k) * 2 ^ k := by rw [← Nat.pow_add, Nat.sub_add_cancel (by omega)]
    have a1 : 52 - k ≤ t.log2 := by
      rw [Nat.le_log2 (by omega)]
      refine Nat.le_of_mul_le_mul_right ?_ hp
      rw [← e1, ← ht]
      exact h1
    have a2 : t.log2 < 53 - k := by
      rw [Nat.log2_lt (by omega)]
      refine Nat.lt_of_mul_lt_mul_right (a := 2 ^ k) ?_
      rw [← e2, ← ht]
      exact h2
    omega
  have hlead : FP.Core.leading t 1 = ((52 - k : Nat) : Int) := by
    unfold FP.Core.leading
    rw [hlog, show (1 : Nat).log2 = 0 from by decide]
    dsimp only
    rw [show ((52 - k : Nat) : Int) - ((0 : Nat) : Int) = ((52 - k : Nat) : Int) by omega, Int.toNat_natCast, show (-((52 - k : Nat) : Int)).toNat = 0 by omega, if_pos]
    rw [Nat.one_mul, Nat.pow_zero, Nat.mul_one, ← hlog]
    exact Nat.log2_self_le (by omega)
  have hquan : FP.Core.quantum FP.Core.b64 t 1 e = q := by
    unfold FP.Core.quantum
    rw [hlead, fp_qmin, show ((FP.Core.b64.p : Nat) : Int) = 53 from rfl]
    omega
  unfold FP.Core.roundRatio
  rw [if_neg (by omega), hquan]
  unfold FP.Core.roundAt FP.Core.unitsNum FP.Core.unitsDen
  rw [show (e - q).toNat = k by omega, show (q - e).toNat = 0 by omega, ← ht, show 1 * 2 ^ 0 = 1 from rfl]
  have hn : FP.Core.nearest c 1 = c := by
    have := fp_near (c := c) (d := 1) (by decide)
    rw [Nat.mul_one] at this
    exact this
  rw [hn]
  unfold FP.Core.settle
  rw [if_pos (by show c < 9007199254740992; exact h2)]
  unfold FP.Core.bound
  rw [fp_qmax, if_pos hh]
