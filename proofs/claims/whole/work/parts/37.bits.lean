set_option maxHeartbeats 800000 in
set_option maxRecDepth 100000 in
theorem met_bitsOf0 (l : Launch) (G : sv_G) (Wd : Heap → Prop) : sv_Met l G yX5_bitsOf cX5_bitsOf 5 (some .long) 0 [.double 0] Wd (some (.long (0 : UInt64).toInt64)) Wd := by
  refine sv_ofW (by decide) kw_435 (Nat.le_of_ble_eq_true rfl) ?_
  intro p e s mth args below meth c hr C _
  refine sv_sub (lv' := [(0, .double 0)]) rfl ?_
  refine sv_dload_n (i := 0) (x := 0) C dX5_bitsOf_0 rfl rfl ?_
  refine sv_dstore_n (i := 2) C [(0, .double 0), (2, .double 0)] dX5_bitsOf_1 rfl (by decide) rfl ?_
  refine sv_sipush (v := nI 1023) C dX5_bitsOf_2 (by decide) ?_
  refine sv_istore (i := 4) C [(0, .double 0), (2, .double 0), (4, .int (nI 1023))] dX5_bitsOf_5 (by decide) rfl ?_
  refine sv_iload (i := 4) (x := nI 1023) C dX5_bitsOf_7 rfl ?_
  refine sv_if_le C 52 dX5_bitsOf_9 (by decide) (fun q9 => ?_) (fun q9 => ?_)
  · exact absurd q9 (by decide)
  · refine sv_dload_n (i := 2) (x := 0) C dX5_bitsOf_12 rfl rfl ?_
    refine sv_dconst0 C dX5_bitsOf_13 ?_
    refine sv_dcmp C dX5_bitsOf_14 ?_
    refine sv_set (v' := .int 0) (congrArg Value.int (by rw [fp_00]; rfl)) ?_
    refine sv_if_le C 52 dX5_bitsOf_15 (by decide) (fun q15 => ?_) (fun q15 => ?_)
    · refine sv_lconst (v := 0) C dX5_bitsOf_52 rfl ?_
      exact sv_lret C hr dX5_bitsOf_53 (Nat.le_of_ble_eq_true rfl) (Nat.le_of_ble_eq_true rfl) rfl (fun _ h => h)
    · exact absurd (by decide) q15

set_option maxHeartbeats 800000 in
set_option maxRecDepth 100000 in
theorem met_bitsOf1 (l : Launch) (G : sv_G) (Wd : Heap → Prop) (E T : Nat) (h1 : 1 ≤ E) (hE : E ≤ 1023) (hT : T < fpP) : sv_Met l G yX5_bitsOf cX5_bitsOf 5 (some .long) 0 [.double (fdv E T)] Wd (some (.long (fdv E T).toInt64)) Wd := by
  refine sv_ofW (by decide) kw_435 (Nat.le_of_ble_eq_true rfl) ?_
  intro p e s mth args below meth c hr C _
  refine sv_sub (lv' := [(0, .double (fdv E T))]) rfl ?_
  refine sv_dload_n (i := 0) (x := fdv E T) C dX5_bitsOf_0 rfl rfl ?_
  refine sv_dstore_n (i := 2) C [(0, .double (fdv E T)), (2, .double (fdv E T))] dX5_bitsOf_1 rfl (by decide) rfl ?_
  refine sv_sipush (v := nI 1023) C dX5_bitsOf_2 (by decide) ?_
  refine sv_istore (i := 4) C [(0, .double (fdv E T)), (2, .double (fdv E T)), (4, .int (nI 1023))] dX5_bitsOf_5 (by decide) rfl ?_
  refine sv_loop (N := (1023 - E)) (I := fun i => True) (Wf := fun i => Wd) (Lf := fun i => [(0, .double (fdv E T)), (2, .double (fdv (E + i) T)), (4, .int (nI (1023 - i)))]) 0 (Nat.zero_le _) trivial (fun i hi0 hi hIi ihi => ?_)
  refine sv_iload (i := 4) (x := nI (1023 - i)) C dX5_bitsOf_7 rfl ?_
  refine sv_if_le C 52 dX5_bitsOf_9 (by decide) (fun q9 => ?_) (fun q9 => ?_)
  · exact absurd q9 (nI_nle (by omega) (by omega))
  · refine sv_dload_n (i := 2) (x := fdv (E + i) T) C dX5_bitsOf_12 rfl rfl ?_
    refine sv_dconst0 C dX5_bitsOf_13 ?_
    refine sv_dcmp C dX5_bitsOf_14 ?_
    refine sv_set (v' := .int 1) (congrArg Value.int (by rw [fp_cmp0 (by omega) (by omega) hT]; rfl)) ?_
    refine sv_if_le C 52 dX5_bitsOf_15 (by decide) (fun q15 => ?_) (fun q15 => ?_)
    · exact absurd q15 (by decide)
    · refine sv_dload_n (i := 2) (x := fdv (E + i) T) C dX5_bitsOf_18 rfl rfl ?_
      refine sv_dconst1 C dX5_bitsOf_19 ?_
      refine sv_dcmp C dX5_bitsOf_20 ?_
      refine sv_topi (fun v20 e20 => ?_)
      refine sv_if_lt C 40 dX5_bitsOf_21 (by decide) (fun q21 => ?_) (fun q21 => ?_)
      · have hin : i < 1023 - E := by
          rcases Nat.lt_or_ge i (1023 - E) with h | h
          · exact h
          · exfalso
            rw [e20, show E + i = 1023 by omega] at q21
            rcases fp_cmp1ge hT with h2 | h2
            · rw [h2] at q21
              exact absurd q21 (by decide)
            · rw [h2] at q21
              exact absurd q21 (by decide)
        refine sv_dload_n (i := 2) (x := fdv (E + i) T) C dX5_bitsOf_40 rfl rfl ?_
        refine sv_ldc2d (v := (4611686018427387904)) C dX5_bitsOf_41 kw_437 ?_
        refine sv_dmul C dX5_bitsOf_44 (by rw [fp_mul2 (by omega) (by omega) hT]; exact fp_n64 (by omega) hT) ?_
        refine sv_dstore_n (i := 2) C [(0, .double (fdv E T)), (2, .double (FP.dmul (fdv (E + i) T) (4611686018427387904))), (4, .int (nI (1023 - i)))] dX5_bitsOf_45 rfl (by decide) rfl ?_
        obtain ⟨v46, e46⟩ : ∃ y : Int32, y = nI (1023 - i) + Int32.ofInt (-1) := ⟨_, rfl⟩
        refine sv_iinc (i := 4) (x := nI (1023 - i)) C v46 [(0, .double (fdv E T)), (2, .double (FP.dmul (fdv (E + i) T) (4611686018427387904))), (4, .int v46)] dX5_bitsOf_46 rfl e46.symm (by decide) rfl ?_
        refine sv_goto C 7 dX5_bitsOf_49 (by decide) ?_
        rw [fp_mul2 (by omega) (by omega) hT, show E + i + 1 = E + (i + 1) by omega, show v46 = nI (1023 - (i + 1)) from by rw [e46, show 1023 - (i + 1) = 1023 - i - 1 by omega]; exact pk_m1' (by omega)]
        exact ihi hin trivial
      · have hie : E + i = 1023 := by
          rcases Nat.lt_or_ge i (1023 - E) with h | h
          · refine absurd ?_ q21
            rw [e20, fp_cmp1lt (by omega) (by omega) hT]
            decide
          · omega
        obtain ⟨u1, u2, u3⟩ := fp_frac hT
        rw [← hie] at u1 u2 u3
        refine sv_iload (i := 4) (x := nI (1023 - i)) C dX5_bitsOf_24 rfl ?_
        refine sv_i2l C dX5_bitsOf_26 ?_
        refine sv_bipush (v := nI 52) C dX5_bitsOf_27 (by decide) ?_
        refine sv_lshl C dX5_bitsOf_29 ?_
        refine sv_dload_n (i := 2) (x := fdv (E + i) T) C dX5_bitsOf_30 rfl rfl ?_
        refine sv_dconst1 C dX5_bitsOf_31 ?_
        refine sv_dsub C dX5_bitsOf_32 u1 ?_
        refine sv_ldc2d (v := (4841369599423283200)) C dX5_bitsOf_33 kw_436 ?_
        refine sv_dmul C dX5_bitsOf_36 u2 ?_
        refine sv_d2l C dX5_bitsOf_37 ?_
        refine sv_ladd C dX5_bitsOf_38 ?_
        exact sv_lret C hr dX5_bitsOf_39 (Nat.le_of_ble_eq_true rfl) (Nat.le_of_ble_eq_true rfl) (by rw [u3, show 1023 - i = E by omega]; exact fp_bits (by omega)) (fun _ h => h)

theorem met_bitsOf (l : Launch) (G : sv_G) (Wd : Heap → Prop) {x : UInt64} (h : shr x) : sv_Met l G yX5_bitsOf cX5_bitsOf 5 (some .long) 0 [.double x] Wd (some (.long x.toInt64)) Wd := by
  rcases h with rfl | ⟨E, T, h1, h2, h3, rfl⟩
  · exact met_bitsOf0 l G Wd
  · exact met_bitsOf1 l G Wd E T h1 h2 h3
theorem shr_self {x : UInt64} (h : shr x) : FP.dcmp x x = some .eq := by
  rcases h with rfl | ⟨E, T, h1, h2, h3, rfl⟩
  · exact fp_000
  · exact fp_self h1 (by omega) h3
set_option maxHeartbeats 800000 in
set_option maxRecDepth 100000 in
theorem met_isNaN (l : Launch) (G : sv_G) (Wd : Heap → Prop) (x : UInt64) (hx : shr x) : sv_Met l G yJxe99ae_isNaN_b9ae7 cJxe99ae_isNaN_b9ae7 2 (some .boolean) 0 [.double x] Wd (some (.int 0)) Wd := by
  refine sv_ofW (by decide) kw_976 (Nat.le_of_ble_eq_true rfl) ?_
  intro p e s mth args below meth c hr C _
  refine sv_sub (lv' := [(0, .double x)]) rfl ?_
  refine sv_dload_n (i := 0) (x := x) C dJxe99ae_isNaN_b9ae7_0 rfl rfl ?_
  refine sv_dload_n (i := 0) (x := x) C dJxe99ae_isNaN_b9ae7_1 rfl rfl ?_
  refine sv_dcmp C dJxe99ae_isNaN_b9ae7_2 ?_
  refine sv_set (v' := .int 0) (congrArg Value.int (by rw [shr_self hx]; rfl)) ?_
  refine sv_if_eq C 10 dJxe99ae_isNaN_b9ae7_3 (by decide) (fun q3 => ?_) (fun q3 => ?_)
  · refine sv_iconst (v := nI 0) C dJxe99ae_isNaN_b9ae7_10 (by decide) ?_
    exact sv_zret C (by decide) hr dJxe99ae_isNaN_b9ae7_11 (Nat.le_of_ble_eq_true rfl) (Nat.le_of_ble_eq_true rfl) rfl (fun _ h => h)
  · exact absurd rfl q3

theorem kw_nat : Cond.native (⟨"java/lang/Double", "doubleToRawLongBits", "(D)J"⟩ : MethodName) ∈ sv_tbl := sv_in 979 (by decide +kernel) rfl
set_option maxHeartbeats 4000000 in
set_option maxRecDepth 100000 in
theorem met_d2lb (l : Launch) (G : sv_G) (Wd : Heap → Prop) (x : UInt64) (hx : shr x) : sv_Met l G yJxe99ae_doubleToLongBits_ccdee cJxe99ae_doubleToLongBits_ccdee 2 (some .long) 2 [.double x] Wd (some (.long x.toInt64)) Wd := by
  refine sv_ofW (by decide) kw_973 (Nat.le_of_ble_eq_true rfl) ?_
  intro p e s mth args below meth c hr C _
  refine sv_sub (lv' := [(0, .double x)]) rfl ?_
  refine sv_dload_n (i := 0) (x := x) C dJxe99ae_doubleToLongBits_ccdee_0 rfl rfl ?_
  refine sv_callS (as := [_]) (rest := []) C (met_isNaN l G _ x hx) fJxe99ae_isNaN_b9ae7 kw_974 ⟨Nat.le_of_ble_eq_true rfl, Nat.le_of_ble_eq_true rfl⟩ (Nat.le_of_ble_eq_true rfl) dJxe99ae_doubleToLongBits_ccdee_1 ⟨Nat.zero_le _, Nat.zero_le _⟩  ?_
  refine sv_riS 0 rfl ?_
  refine sv_if_ne C 12 dJxe99ae_doubleToLongBits_ccdee_4 (by decide) (fun q4 => ?_) (fun q4 => ?_)
  · exact absurd rfl q4
  · refine sv_dload_n (i := 0) (x := x) C dJxe99ae_doubleToLongBits_ccdee_7 rfl rfl ?_
    refine sv_d2raw C kw_977 kw_nat kw_978 kw_42 (Nat.le_of_ble_eq_true rfl) (Nat.le_of_ble_eq_true rfl) dJxe99ae_doubleToLongBits_ccdee_8 ?_
    exact sv_lret C hr dJxe99ae_doubleToLongBits_ccdee_11 (Nat.le_of_ble_eq_true rfl) (Nat.le_of_ble_eq_true rfl) rfl (fun _ h => h)

