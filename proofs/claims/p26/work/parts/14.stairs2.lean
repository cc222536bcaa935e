set_option maxHeartbeats 4000000 in
set_option maxRecDepth 100000 in
theorem met_letPass (l : Launch) (G : sv_G) (z : Nat) (M : sv_M) (o : Int64) (j : Nat) (hj : j < 8) (hv : vd (M j)) (t : Nat) (ht : t < 2147483648) : sv_Met l G yX3_letPass cX3_letPass 4 (some .int) 6 [.ref (sv_r G 0 j), .int (nI t)] (sv_W G z M o) (some (.int (dks (passv t (M j)) - dks (M j)))) (sv_W G z (sv_u M j (passv t (M j))) o) := by
  refine sv_ofW (by decide) kw_350 (Nat.le_of_ble_eq_true rfl) ?_
  intro p e s mth args below meth c hr C _
  refine sv_sub (lv' := [(0, .ref (sv_r G 0 j)), (1, .int (nI t))]) rfl ?_
  refine sv_aload_n (i := 0) (x := sv_r G 0 j) C dX3_letPass_0 rfl rfl ?_
  refine sv_get_3_0 C hj kw_108 dX3_letPass_1 ?_
  refine sv_get_0_2 C hj kw_48 dX3_letPass_4 ?_
  refine sv_callN (as := [_]) (rest := []) C (met_sumOf l G _ _ _ 4 j (sv_okj (by decide) hj) rfl) fX5_sumOf (host := "StairLight") kn_RX3_83 ⟨Nat.le_of_ble_eq_true rfl, Nat.le_of_ble_eq_true rfl⟩ (Nat.le_of_ble_eq_true rfl) dX3_letPass_7 ⟨Nat.zero_le _, Nat.zero_le _⟩  ?_
  refine sv_riS (dks (M j)) rfl ?_
  refine sv_istore_n (i := 2) C [(0, .ref (sv_r G 0 j)), (1, .int (nI t)), (2, .int (dks (M j)))] dX3_letPass_10 rfl (by decide) rfl ?_
  refine sv_iconst (v := nI 0) C dX3_letPass_11 (by decide) ?_
  refine sv_istore_n (i := 3) C [(0, .ref (sv_r G 0 j)), (1, .int (nI t)), (2, .int (dks (M j))), (3, .int (nI 0))] dX3_letPass_12 rfl (by decide) rfl ?_
  refine sv_wd (sv_eqW (sv_ui _ j).symm) ?_
  refine sv_loop (N := t) (I := fun _ => True) (Wf := fun i => sv_W G z (sv_u M j (passv i (M j))) o) (Lf := fun i => [(0, .ref (sv_r G 0 j)), (1, .int (nI t)), (2, .int (dks (M j))), (3, .int (nI i))]) 0 (Nat.zero_le _) trivial (fun i hi0 hi hI ih => ?_)
  refine sv_iload_n (i := 3) (x := nI i) C dX3_letPass_13 rfl rfl ?_
  refine sv_iload_n (i := 1) (x := nI t) C dX3_letPass_14 rfl rfl ?_
  refine sv_icmp_geN C 32 dX3_letPass_15 (by decide) (by omega) (by omega) (fun q15 => ?_) (fun q15 => ?_)
  · refine sv_aload_n (i := 0) (x := sv_r G 0 j) C dX3_letPass_32 rfl rfl ?_
    refine sv_get_3_0 C hj kw_108 dX3_letPass_33 ?_
    refine sv_get_0_2 C hj kw_48 dX3_letPass_36 ?_
    obtain rfl : i = t := by omega
    refine sv_callN (as := [_]) (rest := []) C (met_sumOf l G _ _ _ 4 j (sv_okj (by decide) hj) rfl) fX5_sumOf (host := "StairLight") kn_RX3_83 ⟨Nat.le_of_ble_eq_true rfl, Nat.le_of_ble_eq_true rfl⟩ (Nat.le_of_ble_eq_true rfl) dX3_letPass_39 ⟨Nat.zero_le _, Nat.zero_le _⟩  ?_
    refine sv_riS (dks (passv i (M j))) (by show smI (fun f => sv_u M j (passv i (M j)) j (6 * f + 11)) 8 = _; rw [sv_us]; rfl) ?_
    refine sv_iload_n (i := 2) (x := dks (M j)) C dX3_letPass_42 rfl rfl ?_
    refine sv_isub C dX3_letPass_43 ?_
    refine sv_topi (fun v43 e43 => ?_)
    exact sv_iret C hr dX3_letPass_44 (Nat.le_of_ble_eq_true rfl) (Nat.le_of_ble_eq_true rfl) e43 (fun _ h => h)
  · refine sv_aload_n (i := 0) (x := sv_r G 0 j) C dX3_letPass_18 rfl rfl ?_
    have hvi := vd_pass hv i
    have hma := vd_many hvi
    have hmi := vd_mid hvi
    refine sv_callV (as := []) (rest := []) C (met_beginSecond l G _ _ _ j hj (many (passv i (M j))) (by rw [sv_us]; exact hma.1) (by exact hma.2.1)) fX3_beginSecond kw_352 (sv_recv0 C hj) ⟨Nat.le_of_ble_eq_true rfl, Nat.le_of_ble_eq_true rfl⟩ (Nat.le_of_ble_eq_true rfl) dX3_letPass_19 ⟨Nat.zero_le _, Nat.zero_le _⟩  ?_
    refine sv_rv ?_
    refine sv_aload_n (i := 0) (x := sv_r G 0 j) C dX3_letPass_22 rfl rfl ?_
    refine sv_callV (as := []) (rest := []) C (met_endSecond l G _ _ _ j hj (many (beginv (many (passv i (M j))) (passv i (M j)))) (by simp only [sv_us]; exact hmi.2.1) hmi.1 (by simp only [sv_us]; exact hmi.2.2.1) (by simp only [sv_us]; exact hmi.2.2.2.1) (by simp only [sv_us]; exact vfl_of hmi.2.2.2.2)) fX3_endSecond kw_389 (sv_recv0 C hj) ⟨Nat.le_of_ble_eq_true rfl, Nat.le_of_ble_eq_true rfl⟩ (Nat.le_of_ble_eq_true rfl) dX3_letPass_23 ⟨Nat.zero_le _, Nat.zero_le _⟩  ?_
    refine sv_rv ?_
    refine sv_iinc (i := 3) (x := nI i) C (nI (i + 1)) [(0, .ref (sv_r G 0 j)), (1, .int (nI t)), (2, .int (dks (M j))), (3, .int (nI (i + 1)))] dX3_letPass_26 rfl (sv_incN i 1) (by decide) rfl ?_
    refine sv_goto C 13 dX3_letPass_29 (by decide) ?_
    refine sv_wd (sv_eqW ?_) (ih (by omega) trivial)
    simp only [sv_us, sv_uu]
    rfl


/-- the share of light seconds, as the class makes it -/
def lsh (x : vX) : UInt64 := if 0 < x 8 then FP.ddiv (FP.i2d (x 8 - dks x - dms x)) (FP.i2d (x 8)) else FP.dconst1
set_option maxHeartbeats 4000000 in
set_option maxRecDepth 100000 in
theorem met_lightShare (l : Launch) (G : sv_G) (z : Nat) (M : sv_M) (o : Int64) (j : Nat) (hj : j < 8) (hn : 0 < M j 8 → vf_n64 (FP.ddiv (FP.i2d (M j 8 - dks (M j) - dms (M j))) (FP.i2d (M j 8)))) : sv_Met l G yX3_lightShare cX3_lightShare 2 (some .double) 1 [.ref (sv_r G 0 j)] (sv_W G z M o) (some (.double (lsh (M j)))) (sv_W G z M o) := by
  refine sv_ofW (by decide) kw_472 (Nat.le_of_ble_eq_true rfl) ?_
  intro p e s mth args below meth c hr C _
  refine sv_sub (lv' := [(0, .ref (sv_r G 0 j))]) rfl ?_
  refine sv_aload_n (i := 0) (x := sv_r G 0 j) C dX3_lightShare_0 rfl rfl ?_
  refine sv_get_3_6 C hj kw_120 dX3_lightShare_1 ?_
  refine sv_set (v' := .int (M j 8)) (congrArg Value.int rfl) ?_
  refine sv_if_gt C 9 dX3_lightShare_4 (by decide) (fun q4 => ?_) (fun q4 => ?_)
  · refine sv_aload_n (i := 0) (x := sv_r G 0 j) C dX3_lightShare_9 rfl rfl ?_
    refine sv_get_3_6 C hj kw_120 dX3_lightShare_10 ?_
    refine sv_set (v' := .int (M j 8)) (congrArg Value.int rfl) ?_
    refine sv_aload_n (i := 0) (x := sv_r G 0 j) C dX3_lightShare_13 rfl rfl ?_
    refine sv_get_3_0 C hj kw_108 dX3_lightShare_14 ?_
    refine sv_get_0_2 C hj kw_48 dX3_lightShare_17 ?_
    refine sv_callN (as := [_]) (rest := [_]) C (met_sumOf l G _ _ _ 4 j (sv_okj (by decide) hj) rfl) fX5_sumOf (host := "StairLight") kn_RX3_83 ⟨Nat.le_of_ble_eq_true rfl, Nat.le_of_ble_eq_true rfl⟩ (Nat.le_of_ble_eq_true rfl) dX3_lightShare_20 ⟨Nat.zero_le _, Nat.zero_le _⟩  ?_
    refine sv_riS (dks (M j)) rfl ?_
    refine sv_isub C dX3_lightShare_23 ?_
    refine sv_set (v' := .int (M j 8 - dks (M j))) (congrArg Value.int rfl) ?_
    refine sv_aload_n (i := 0) (x := sv_r G 0 j) C dX3_lightShare_24 rfl rfl ?_
    refine sv_get_3_0 C hj kw_108 dX3_lightShare_25 ?_
    refine sv_get_0_3 C hj kw_51 dX3_lightShare_28 ?_
    refine sv_callN (as := [_]) (rest := [_]) C (met_sumOf l G _ _ _ 5 j (sv_okj (by decide) hj) rfl) fX5_sumOf (host := "StairLight") kn_RX3_83 ⟨Nat.le_of_ble_eq_true rfl, Nat.le_of_ble_eq_true rfl⟩ (Nat.le_of_ble_eq_true rfl) dX3_lightShare_31 ⟨Nat.zero_le _, Nat.zero_le _⟩  ?_
    refine sv_riS (dms (M j)) rfl ?_
    refine sv_isub C dX3_lightShare_34 ?_
    refine sv_set (v' := .int (M j 8 - dks (M j) - dms (M j))) (congrArg Value.int rfl) ?_
    refine sv_istore_n (i := 1) C [(0, .ref (sv_r G 0 j)), (1, .int (M j 8 - dks (M j) - dms (M j)))] dX3_lightShare_35 rfl (by decide) rfl ?_
    refine sv_iload_n (i := 1) (x := M j 8 - dks (M j) - dms (M j)) C dX3_lightShare_36 rfl rfl ?_
    refine sv_i2d C dX3_lightShare_37 ?_
    refine sv_aload_n (i := 0) (x := sv_r G 0 j) C dX3_lightShare_38 rfl rfl ?_
    refine sv_get_3_6 C hj kw_120 dX3_lightShare_39 ?_
    refine sv_set (v' := .int (M j 8)) (congrArg Value.int rfl) ?_
    refine sv_i2d C dX3_lightShare_42 ?_
    refine sv_ddiv C dX3_lightShare_43 (hn q4) ?_
    exact sv_dret C hr dX3_lightShare_44 (Nat.le_of_ble_eq_true rfl) (Nat.le_of_ble_eq_true rfl) (by unfold lsh; rw [if_pos q4]) (fun _ h => h)
  · refine sv_dconst1 C dX3_lightShare_7 ?_
    exact sv_dret C hr dX3_lightShare_8 (Nat.le_of_ble_eq_true rfl) (Nat.le_of_ble_eq_true rfl) (by unfold lsh; rw [if_neg q4]) (fun _ h => h)

theorem fnv_0 (m : Nat) (x : vX) (f : Nat) : fnv m x f 0 = lampv x f := rfl
set_option maxHeartbeats 4000000 in
set_option maxRecDepth 100000 in
theorem met_floorNumber (l : Launch) (G : sv_G) (z : Nat) (M : sv_M) (o : Int64) (j f w9 : Nat) (hj : j < 8) (hf : f < 8) (hw9 : w9 < 8) (m : Nat) (hm : M j 57 = nI m) (hm7 : m ≤ 7) (b6 : M j 6 = 0 ∨ M j 6 = 1) (b7 : M j 7 = 0 ∨ M j 7 = 1) : sv_Met l G yX3_floorNumber cX3_floorNumber 3 (some .int) 2 [.ref (sv_r G 0 j), .int (nI f), .int (nI w9)] (sv_W G z M o) (some (.int (fnv m (M j) f w9))) (sv_W G z M o) := by
  refine sv_ofW (by decide) kw_280 (Nat.le_of_ble_eq_true rfl) ?_
  intro p e s mth args below meth c hr C _
  refine sv_sub (lv' := [(0, .ref (sv_r G 0 j)), (1, .int (nI f)), (2, .int (nI w9))]) rfl ?_
  refine sv_iload_n (i := 2) (x := nI w9) C dX3_floorNumber_0 rfl rfl ?_
  rcases (show w9 = 0 ∨ w9 = 1 ∨ w9 = 2 ∨ w9 = 3 ∨ w9 = 4 ∨ w9 = 5 ∨ w9 = 6 ∨ w9 = 7 by omega) with rfl | rfl | rfl | rfl | rfl | rfl | rfl | rfl
  · refine sv_tableIn (off := 43) C 44 dX3_floorNumber_1 (by decide) (by decide) (by decide) (by decide) ?_
    refine sv_aload_n (i := 0) (x := sv_r G 0 j) C dX3_floorNumber_44 rfl rfl ?_
    refine sv_iload_n (i := 1) (x := nI f) C dX3_floorNumber_45 rfl rfl ?_
    refine sv_callV (as := [_]) (rest := []) C (met_lampOf l G _ _ _ j f hj (by omega) b6 b7) fX3_lampOf kw_281 (sv_recv0 C hj) ⟨Nat.le_of_ble_eq_true rfl, Nat.le_of_ble_eq_true rfl⟩ (Nat.le_of_ble_eq_true rfl) dX3_floorNumber_46 ⟨Nat.zero_le _, Nat.zero_le _⟩  ?_
    refine sv_ri (fun v46 e46 => ?_)
    exact sv_iret C hr dX3_floorNumber_49 (Nat.le_of_ble_eq_true rfl) (Nat.le_of_ble_eq_true rfl) e46 (fun _ h => h)
  · refine sv_tableIn (off := 49) C 50 dX3_floorNumber_1 (by decide) (by decide) (by decide) (by decide) ?_
    refine sv_aload_n (i := 0) (x := sv_r G 0 j) C dX3_floorNumber_50 rfl rfl ?_
    refine sv_get_3_0 C hj kw_108 dX3_floorNumber_51 ?_
    refine sv_get_0_0 C hj kw_43 dX3_floorNumber_54 ?_
    refine sv_iload_n (i := 1) (x := nI f) C dX3_floorNumber_57 rfl rfl ?_
    refine sv_callN (as := [_, _]) (rest := []) C (met_atN j (6 * f + 9) rfl rfl (sv_okj (by decide) hj) rfl (by show _ < 8; omega)) fX5_at (host := "StairLight") kn_RX3_57 ⟨Nat.le_of_ble_eq_true rfl, Nat.le_of_ble_eq_true rfl⟩ (Nat.le_of_ble_eq_true rfl) dX3_floorNumber_58 ⟨Nat.zero_le _, Nat.zero_le _⟩  ?_
    refine sv_ri (fun v58 e58 => ?_)
    exact sv_iret C hr dX3_floorNumber_61 (Nat.le_of_ble_eq_true rfl) (Nat.le_of_ble_eq_true rfl) e58 (fun _ h => h)
  · refine sv_tableIn (off := 61) C 62 dX3_floorNumber_1 (by decide) (by decide) (by decide) (by decide) ?_
    refine sv_aload_n (i := 0) (x := sv_r G 0 j) C dX3_floorNumber_62 rfl rfl ?_
    refine sv_get_3_0 C hj kw_108 dX3_floorNumber_63 ?_
    refine sv_get_0_1 C hj kw_46 dX3_floorNumber_66 ?_
    refine sv_iload_n (i := 1) (x := nI f) C dX3_floorNumber_69 rfl rfl ?_
    refine sv_callN (as := [_, _]) (rest := []) C (met_atN j (6 * f + 10) rfl rfl (sv_okj (by decide) hj) rfl (by show _ < 8; omega)) fX5_at (host := "StairLight") kn_RX3_57 ⟨Nat.le_of_ble_eq_true rfl, Nat.le_of_ble_eq_true rfl⟩ (Nat.le_of_ble_eq_true rfl) dX3_floorNumber_70 ⟨Nat.zero_le _, Nat.zero_le _⟩  ?_
    refine sv_ri (fun v70 e70 => ?_)
    exact sv_iret C hr dX3_floorNumber_73 (Nat.le_of_ble_eq_true rfl) (Nat.le_of_ble_eq_true rfl) e70 (fun _ h => h)
  · refine sv_tableIn (off := 73) C 74 dX3_floorNumber_1 (by decide) (by decide) (by decide) (by decide) ?_
    refine sv_aload_n (i := 0) (x := sv_r G 0 j) C dX3_floorNumber_74 rfl rfl ?_
    refine sv_get_3_1 C hj kw_110 dX3_floorNumber_75 ?_
    refine sv_iload_n (i := 1) (x := nI f) C dX3_floorNumber_78 rfl rfl ?_
    refine sv_callV (as := [_]) (rest := []) C (met_peopleOn l G _ _ _ j hj (nI f) m hm hm7) fX2_peopleOn kw_288 (sv_recv8 C hj) ⟨Nat.le_of_ble_eq_true rfl, Nat.le_of_ble_eq_true rfl⟩ (Nat.le_of_ble_eq_true rfl) dX3_floorNumber_79 ⟨Nat.zero_le _, Nat.zero_le _⟩  ?_
    refine sv_ri (fun v79 e79 => ?_)
    exact sv_iret C hr dX3_floorNumber_82 (Nat.le_of_ble_eq_true rfl) (Nat.le_of_ble_eq_true rfl) e79 (fun _ h => h)
  · refine sv_tableIn (off := 82) C 83 dX3_floorNumber_1 (by decide) (by decide) (by decide) (by decide) ?_
    refine sv_aload_n (i := 0) (x := sv_r G 0 j) C dX3_floorNumber_83 rfl rfl ?_
    refine sv_get_3_0 C hj kw_108 dX3_floorNumber_84 ?_
    refine sv_get_0_2 C hj kw_48 dX3_floorNumber_87 ?_
    refine sv_iload_n (i := 1) (x := nI f) C dX3_floorNumber_90 rfl rfl ?_
    refine sv_callN (as := [_, _]) (rest := []) C (met_atN j (6 * f + 11) rfl rfl (sv_okj (by decide) hj) rfl (by show _ < 8; omega)) fX5_at (host := "StairLight") kn_RX3_57 ⟨Nat.le_of_ble_eq_true rfl, Nat.le_of_ble_eq_true rfl⟩ (Nat.le_of_ble_eq_true rfl) dX3_floorNumber_91 ⟨Nat.zero_le _, Nat.zero_le _⟩  ?_
    refine sv_ri (fun v91 e91 => ?_)
    exact sv_iret C hr dX3_floorNumber_94 (Nat.le_of_ble_eq_true rfl) (Nat.le_of_ble_eq_true rfl) e91 (fun _ h => h)
  · refine sv_tableIn (off := 94) C 95 dX3_floorNumber_1 (by decide) (by decide) (by decide) (by decide) ?_
    refine sv_aload_n (i := 0) (x := sv_r G 0 j) C dX3_floorNumber_95 rfl rfl ?_
    refine sv_get_3_0 C hj kw_108 dX3_floorNumber_96 ?_
    refine sv_get_0_3 C hj kw_51 dX3_floorNumber_99 ?_
    refine sv_iload_n (i := 1) (x := nI f) C dX3_floorNumber_102 rfl rfl ?_
    refine sv_callN (as := [_, _]) (rest := []) C (met_atN j (6 * f + 12) rfl rfl (sv_okj (by decide) hj) rfl (by show _ < 8; omega)) fX5_at (host := "StairLight") kn_RX3_57 ⟨Nat.le_of_ble_eq_true rfl, Nat.le_of_ble_eq_true rfl⟩ (Nat.le_of_ble_eq_true rfl) dX3_floorNumber_103 ⟨Nat.zero_le _, Nat.zero_le _⟩  ?_
    refine sv_ri (fun v103 e103 => ?_)
    exact sv_iret C hr dX3_floorNumber_106 (Nat.le_of_ble_eq_true rfl) (Nat.le_of_ble_eq_true rfl) e103 (fun _ h => h)
  · refine sv_tableIn (off := 106) C 107 dX3_floorNumber_1 (by decide) (by decide) (by decide) (by decide) ?_
    refine sv_aload_n (i := 0) (x := sv_r G 0 j) C dX3_floorNumber_107 rfl rfl ?_
    refine sv_get_3_0 C hj kw_108 dX3_floorNumber_108 ?_
    refine sv_get_0_4 C hj kw_54 dX3_floorNumber_111 ?_
    refine sv_iload_n (i := 1) (x := nI f) C dX3_floorNumber_114 rfl rfl ?_
    refine sv_callN (as := [_, _]) (rest := []) C (met_atN j (6 * f + 13) rfl rfl (sv_okj (by decide) hj) rfl (by show _ < 8; omega)) fX5_at (host := "StairLight") kn_RX3_57 ⟨Nat.le_of_ble_eq_true rfl, Nat.le_of_ble_eq_true rfl⟩ (Nat.le_of_ble_eq_true rfl) dX3_floorNumber_115 ⟨Nat.zero_le _, Nat.zero_le _⟩  ?_
    refine sv_ri (fun v115 e115 => ?_)
    exact sv_iret C hr dX3_floorNumber_118 (Nat.le_of_ble_eq_true rfl) (Nat.le_of_ble_eq_true rfl) e115 (fun _ h => h)
  · refine sv_tableOut C 119 dX3_floorNumber_1 (Or.inr (by decide)) (by decide) ?_
    refine sv_aload_n (i := 0) (x := sv_r G 0 j) C dX3_floorNumber_119 rfl rfl ?_
    refine sv_get_3_0 C hj kw_108 dX3_floorNumber_120 ?_
    refine sv_get_0_5 C hj kw_57 dX3_floorNumber_123 ?_
    refine sv_iload_n (i := 1) (x := nI f) C dX3_floorNumber_126 rfl rfl ?_
    refine sv_callN (as := [_, _]) (rest := []) C (met_atN j (6 * f + 14) rfl rfl (sv_okj (by decide) hj) rfl (by show _ < 8; omega)) fX5_at (host := "StairLight") kn_RX3_57 ⟨Nat.le_of_ble_eq_true rfl, Nat.le_of_ble_eq_true rfl⟩ (Nat.le_of_ble_eq_true rfl) dX3_floorNumber_127 ⟨Nat.zero_le _, Nat.zero_le _⟩  ?_
    refine sv_ri (fun v127 e127 => ?_)
    exact sv_iret C hr dX3_floorNumber_130 (Nat.le_of_ble_eq_true rfl) (Nat.le_of_ble_eq_true rfl) e127 (fun _ h => h)

