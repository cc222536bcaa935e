theorem fp_val {E T : Nat} (h1 : 1 ≤ E) (hE : E ≤ 2046) (hT : T < fpP) : FP.Core.decode FP.Core.b64 (fdv E T).toNat = .fin false (4503599627370496 + T) (-1074 + ((E : Int) - 1)) := by
  rw [fdv_toNat hE hT]
  exact fp_dec h1 hE hT
theorem fp_of {T : Nat} {q : Int} {E : Nat} (hq : q = -1074 + ((E : Int) - 1)) (h1 : 1 ≤ E) : UInt64.ofNat (FP.Core.encode FP.Core.b64 (.fin false (4503599627370496 + T) q)) = fdv E T := by
  rw [fp_enc]
  unfold fdv
  rw [show (q + 1074).toNat + 1 = E by omega]
theorem fp_mul2 {E T : Nat} (h1 : 1 ≤ E) (hE : E ≤ 2045) (hT : T < fpP) : FP.dmul (fdv E T) (4611686018427387904) = fdv (E + 1) T := by
  show UInt64.ofNat (FP.Core.mul FP.Core.b64 _ _) = _
  unfold FP.Core.mul
  rw [fp_two, fp_val h1 (by omega) hT, fp_val (E := 1024) (T := 0) (by decide) (by decide) (by decide)]
  show UInt64.ofNat (FP.Core.encode FP.Core.b64 (FP.Core.roundRatio FP.Core.b64 false ((4503599627370496 + T) * 2 ^ 52) 1 (-1074 + ((E : Int) - 1) + (-1074 + ((1024 : Nat) : Int) - 1)))) = _
  unfold fpP at hT
  rw [fp_round (q := -1074 + (((E + 1 : Nat) : Int) - 1)) (by omega) (by omega) (by omega) (by omega) (by omega)]
  exact fp_of rfl (by omega)
theorem cmp_gt {a b : Int} (h : b < a) : compare a b = .gt := by
  show compareOfLessAndEq a b = _
  unfold compareOfLessAndEq
  rw [if_neg (by omega), if_neg (by omega)]
theorem cmp_lt {a b : Int} (h : a < b) : compare a b = .lt := by
  show compareOfLessAndEq a b = _
  unfold compareOfLessAndEq
  rw [if_pos h]
theorem cmp_eq (a : Int) : compare a a = .eq := by
  show compareOfLessAndEq a a = _
  unfold compareOfLessAndEq
  rw [if_neg (by omega), if_pos rfl]
theorem fp_cmp0 {E T : Nat} (h1 : 1 ≤ E) (hE : E ≤ 2046) (hT : T < fpP) : FP.dcmp (fdv E T) FP.dconst0 = some .gt := by
  show FP.Core.order (FP.Core.decode FP.Core.b64 _) (FP.Core.decode FP.Core.b64 0) = _
  rw [fp_val h1 hE hT, fp_dec0]
  show some (compare (FP.Core.signed false (FP.Core.inUnits (4503599627370496 + T) _ _)) (FP.Core.signed false (FP.Core.inUnits 0 _ _))) = _
  unfold FP.Core.signed FP.Core.inUnits
  rw [if_neg (by decide), if_neg (by decide), Nat.zero_mul, cmp_gt]
  have := Nat.mul_pos (show 0 < 4503599627370496 + T by omega) (Nat.two_pow_pos (-1074 + ((E : Int) - 1) - min (-1074 + ((E : Int) - 1)) (-1074)).toNat)
  omega
theorem fp_cmp1lt {E T : Nat} (h1 : 1 ≤ E) (hE : E < 1023) (hT : T < fpP) : FP.dcmp (fdv E T) FP.dconst1 = some .lt := by
  rw [fp_one]
  show FP.Core.order (FP.Core.decode FP.Core.b64 _) (FP.Core.decode FP.Core.b64 _) = _
  rw [fp_val h1 (by omega) hT, fp_val (E := 1023) (T := 0) (by decide) (by decide) (by decide)]
  show some (compare (FP.Core.signed false (FP.Core.inUnits (4503599627370496 + T) _ _)) (FP.Core.signed false (FP.Core.inUnits (4503599627370496 + 0) _ _))) = _
  unfold FP.Core.signed FP.Core.inUnits
  unfold fpP at hT
  have hm : min (-1074 + ((E : Int) - 1)) (-1074 + (((1023 : Nat) : Int) - 1)) = -1074 + ((E : Int) - 1) := by omega
  rw [if_neg (by decide), if_neg (by decide), hm, cmp_lt]
  rw [show (-1074 + ((E : Int) - 1) - (-1074 + ((E : Int) - 1))).toNat = 0 by omega, show (-1074 + (((1023 : Nat) : Int) - 1) - (-1074 + ((E : Int) - 1))).toNat = (1022 - E) + 1 by omega, Nat.pow_succ]
  have := Nat.two_pow_pos (1022 - E)
  omega
theorem fp_cmp1ge {T : Nat} (hT : T < fpP) : FP.dcmp (fdv 1023 T) FP.dconst1 = some .gt ∨ FP.dcmp (fdv 1023 T) FP.dconst1 = some .eq := by
  rw [fp_one]
  show FP.Core.order (FP.Core.decode FP.Core.b64 _) (FP.Core.decode FP.Core.b64 _) = _ ∨ FP.Core.order (FP.Core.decode FP.Core.b64 _) (FP.Core.decode FP.Core.b64 _) = _
  rw [fp_val (by decide) (by decide) hT, fp_val (E := 1023) (T := 0) (by decide) (by decide) (by decide)]
  show some (compare (FP.Core.signed false (FP.Core.inUnits (4503599627370496 + T) (-52) (-52))) (FP.Core.signed false (FP.Core.inUnits (4503599627370496 + 0) (-52) (-52)))) = _ ∨ some (compare (FP.Core.signed false (FP.Core.inUnits (4503599627370496 + T) (-52) (-52))) (FP.Core.signed false (FP.Core.inUnits (4503599627370496 + 0) (-52) (-52)))) = _
  unfold FP.Core.signed FP.Core.inUnits
  rw [if_neg (by decide), if_neg (by decide), show ((-52 : Int) - -52).toNat = 0 from rfl]
  rcases Nat.eq_zero_or_pos T with h | h
  · rw [h]
    exact Or.inr (congrArg some (cmp_eq _))
  · exact Or.inl (congrArg some (cmp_gt (by omega)))
theorem fp_self {E T : Nat} (h1 : 1 ≤ E) (hE : E ≤ 2046) (hT : T < fpP) : FP.dcmp (fdv E T) (fdv E T) = some .eq := by
  show FP.Core.order (FP.Core.decode FP.Core.b64 _) (FP.Core.decode FP.Core.b64 _) = _
  rw [fp_val h1 hE hT]
  exact congrArg some (cmp_eq _)
theorem fp_n64 {E T : Nat} (hE : E ≤ 2046) (hT : T < fpP) : vf_n64 (fdv E T) := by
  unfold vf_n64
  rw [UInt64.le_iff_toNat_le, UInt64.toNat_and]
  refine Nat.le_trans Nat.and_le_left ?_
  rw [fdv_toNat hE hT]
  unfold fpP at hT
  show _ ≤ 9218868437227405312
  omega
/-- the fraction of a number from 1 on, below 2 -/
theorem fp_sub0 : FP.dsub (fdv 1023 0) FP.dconst1 = 0 := by decide +kernel
theorem fp_mul0 : FP.dmul 0 (4841369599423283200) = 0 := by decide +kernel
theorem fp_l0 : FP.d2l 0 = 0 := by decide +kernel
theorem fp_sub {k t : Nat} (h1 : 4503599627370496 ≤ t * 2 ^ k) (h2 : t * 2 ^ k < 9007199254740992) (hk : k ≤ 52) (ht : t < fpP) : FP.dsub (fdv 1023 t) FP.dconst1 = fdv (1023 - k) (t * 2 ^ k - 4503599627370496) := by
  rw [fp_one]
  show UInt64.ofNat (FP.Core.sub FP.Core.b64 _ _) = _
  unfold FP.Core.sub
  rw [fp_val (by decide) (by decide) ht, fp_val (E := 1023) (T := 0) (by decide) (by decide) (by decide)]
  have hs : FP.Core.exactSum (.fin false (4503599627370496 + t) (-1074 + (((1023 : Nat) : Int) - 1))) (FP.Core.negate (.fin false (4503599627370496 + 0) (-1074 + (((1023 : Nat) : Int) - 1)))) = .fin false t (-52) := by
    have hu : FP.Core.sumUnits false (4503599627370496 + t) (-52) true (4503599627370496 + 0) (-52) (min (-52) (-52)) = (t : Int) := by
      unfold FP.Core.sumUnits FP.Core.signed FP.Core.inUnits
      rw [show ((-52 : Int) - min (-52) (-52)).toNat = 0 from rfl, if_neg (by decide), if_pos rfl]
      omega
    show FP.Core.Datum.fin (FP.Core.sumSign false true (FP.Core.sumUnits false (4503599627370496 + t) (-52) true (4503599627370496 + 0) (-52) (min (-52) (-52)))) (FP.Core.sumUnits false (4503599627370496 + t) (-52) true (4503599627370496 + 0) (-52) (min (-52) (-52))).natAbs (min (-52) (-52)) = _
    rw [hu, Int.natAbs_natCast]
    have h9 : FP.Core.sumSign false true (t : Int) = false := by
      unfold FP.Core.sumSign
      split
      · rfl
      · exact decide_eq_false (by omega)
    rw [h9]
    rfl
  rw [hs]
  show UInt64.ofNat (FP.Core.encode FP.Core.b64 (FP.Core.roundRatio FP.Core.b64 false t 1 (-52))) = _
  rw [fp_round2 (c := t * 2 ^ k) (k := k) (q := -1074 + (((1023 - k : Nat) : Int) - 1)) h1 h2 rfl hk (by omega) (by omega) (by omega)]
  have h9 := fp_of (T := t * 2 ^ k - 4503599627370496) (q := -1074 + (((1023 - k : Nat) : Int) - 1)) rfl (by omega)
  rw [show 4503599627370496 + (t * 2 ^ k - 4503599627370496) = t * 2 ^ k by omega] at h9
  exact h9
theorem fp_mul52 {E T : Nat} (h1 : 1 ≤ E) (hE : E ≤ 1994) (hT : T < fpP) : FP.dmul (fdv E T) (4841369599423283200) = fdv (E + 52) T := by
  show UInt64.ofNat (FP.Core.mul FP.Core.b64 _ _) = _
  unfold FP.Core.mul
  rw [fp_two52, fp_val h1 (by omega) hT, fp_val (E := 1075) (T := 0) (by decide) (by decide) (by decide)]
  show UInt64.ofNat (FP.Core.encode FP.Core.b64 (FP.Core.roundRatio FP.Core.b64 false ((4503599627370496 + T) * 2 ^ 52) 1 (-1074 + ((E : Int) - 1) + (-1074 + ((1075 : Nat) : Int) - 1)))) = _
  unfold fpP at hT
  rw [fp_round (q := -1074 + (((E + 52 : Nat) : Int) - 1)) (by omega) (by omega) (by omega) (by omega) (by omega)]
  exact fp_of rfl (by omega)
theorem fp_d2l {k t : Nat} (h1 : 4503599627370496 ≤ t * 2 ^ k) (h2 : t * 2 ^ k < 9007199254740992) (hk : k ≤ 52) : FP.d2l (fdv (1023 - k + 52) (t * 2 ^ k - 4503599627370496)) = Int64.ofInt t := by
  show FP.Core.toL (FP.Core.decode FP.Core.b64 _) = _
  rw [fp_val (by omega) (by omega) (by show _ < 4503599627370496; omega), show 4503599627370496 + (t * 2 ^ k - 4503599627370496) = t * 2 ^ k by omega]
  unfold FP.Core.toL
  have hp := Nat.two_pow_pos k
  have ht : t < 9007199254740992 := by
    have := Nat.le_mul_of_pos_right t hp
    omega
  have hv : FP.Core.truncate false (t * 2 ^ k) (-1074 + (((1023 - k + 52 : Nat) : Int) - 1)) = (t : Int) := by
    unfold FP.Core.truncate FP.Core.signed
    rw [if_neg (by decide), show (-1074 + (((1023 - k + 52 : Nat) : Int) - 1)).toNat = 0 by omega, show (-(-1074 + (((1023 - k + 52 : Nat) : Int) - 1))).toNat = k by omega, Nat.pow_zero, Nat.mul_one, Nat.mul_div_cancel _ hp]
  show Int64.ofInt (max (-2 ^ 63) (min (2 ^ 63 - 1) (FP.Core.truncate false (t * 2 ^ k) _))) = _
  rw [hv]
  congr 1
  omega
