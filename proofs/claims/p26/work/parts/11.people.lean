set_option maxHeartbeats 4000000 in
set_option maxRecDepth 100000 in
theorem met_F_copyFrom (l : Launch) (G : sv_G) (z : Nat) (M : sv_M) (o : Int64) (j1 j2 : Nat) (h1 : j1 < 8) (h2 : j2 < 8) (hne : j1 ≠ j2) : sv_Met l G yX0_copyFrom cX0_copyFrom 2 none 1 [.ref (sv_r G 1 j2), .ref (sv_r G 1 j1)] (sv_W G z M o) none (sv_W G z (sv_u M j2 (cpF (M j1) (M j2))) o) := by
  refine sv_ofW (by decide) kw_340 (Nat.le_of_ble_eq_true rfl) ?_
  intro p e s mth args below meth c hr C _
  refine sv_sub (lv' := [(0, .ref (sv_r G 1 j2)), (1, .ref (sv_r G 1 j1))]) rfl ?_
  refine sv_aload_n (i := 1) (x := sv_r G 1 j1) C dX0_copyFrom_0 rfl rfl ?_
  refine sv_get_0_0 C h1 kw_41 dX0_copyFrom_1 ?_
  refine sv_aload_n (i := 0) (x := sv_r G 1 j2) C dX0_copyFrom_4 rfl rfl ?_
  refine sv_get_0_0 C h2 kw_41 dX0_copyFrom_5 ?_
  refine sv_callN (as := [_, _]) (rest := []) C (met_copyRow l G _ _ _ 2 j1 j2 (by decide) h1 h2 hne rfl) fX5_copyRow (host := "StairLight") kn_RX0_30 ⟨Nat.le_of_ble_eq_true rfl, Nat.le_of_ble_eq_true rfl⟩ (Nat.le_of_ble_eq_true rfl) dX0_copyFrom_8 ⟨Nat.zero_le _, Nat.zero_le _⟩  ?_
  refine sv_rv ?_
  refine sv_aload_n (i := 1) (x := sv_r G 1 j1) C dX0_copyFrom_11 rfl rfl ?_
  refine sv_get_0_1 C h1 kw_44 dX0_copyFrom_12 ?_
  refine sv_aload_n (i := 0) (x := sv_r G 1 j2) C dX0_copyFrom_15 rfl rfl ?_
  refine sv_get_0_1 C h2 kw_44 dX0_copyFrom_16 ?_
  refine sv_callN (as := [_, _]) (rest := []) C (met_copyRow l G _ _ _ 3 j1 j2 (by decide) h1 h2 hne rfl) fX5_copyRow (host := "StairLight") kn_RX0_30 ⟨Nat.le_of_ble_eq_true rfl, Nat.le_of_ble_eq_true rfl⟩ (Nat.le_of_ble_eq_true rfl) dX0_copyFrom_19 ⟨Nat.zero_le _, Nat.zero_le _⟩  ?_
  refine sv_rv ?_
  refine sv_aload_n (i := 1) (x := sv_r G 1 j1) C dX0_copyFrom_22 rfl rfl ?_
  refine sv_get_0_2 C h1 kw_47 dX0_copyFrom_23 ?_
  refine sv_aload_n (i := 0) (x := sv_r G 1 j2) C dX0_copyFrom_26 rfl rfl ?_
  refine sv_get_0_2 C h2 kw_47 dX0_copyFrom_27 ?_
  refine sv_callN (as := [_, _]) (rest := []) C (met_copyRow l G _ _ _ 4 j1 j2 (by decide) h1 h2 hne rfl) fX5_copyRow (host := "StairLight") kn_RX0_30 ⟨Nat.le_of_ble_eq_true rfl, Nat.le_of_ble_eq_true rfl⟩ (Nat.le_of_ble_eq_true rfl) dX0_copyFrom_30 ⟨Nat.zero_le _, Nat.zero_le _⟩  ?_
  refine sv_rv ?_
  refine sv_aload_n (i := 1) (x := sv_r G 1 j1) C dX0_copyFrom_33 rfl rfl ?_
  refine sv_get_0_3 C h1 kw_50 dX0_copyFrom_34 ?_
  refine sv_aload_n (i := 0) (x := sv_r G 1 j2) C dX0_copyFrom_37 rfl rfl ?_
  refine sv_get_0_3 C h2 kw_50 dX0_copyFrom_38 ?_
  refine sv_callN (as := [_, _]) (rest := []) C (met_copyRow l G _ _ _ 5 j1 j2 (by decide) h1 h2 hne rfl) fX5_copyRow (host := "StairLight") kn_RX0_30 ⟨Nat.le_of_ble_eq_true rfl, Nat.le_of_ble_eq_true rfl⟩ (Nat.le_of_ble_eq_true rfl) dX0_copyFrom_41 ⟨Nat.zero_le _, Nat.zero_le _⟩  ?_
  refine sv_rv ?_
  refine sv_aload_n (i := 1) (x := sv_r G 1 j1) C dX0_copyFrom_44 rfl rfl ?_
  refine sv_get_0_4 C h1 kw_53 dX0_copyFrom_45 ?_
  refine sv_aload_n (i := 0) (x := sv_r G 1 j2) C dX0_copyFrom_48 rfl rfl ?_
  refine sv_get_0_4 C h2 kw_53 dX0_copyFrom_49 ?_
  refine sv_callN (as := [_, _]) (rest := []) C (met_copyRow l G _ _ _ 6 j1 j2 (by decide) h1 h2 hne rfl) fX5_copyRow (host := "StairLight") kn_RX0_30 ⟨Nat.le_of_ble_eq_true rfl, Nat.le_of_ble_eq_true rfl⟩ (Nat.le_of_ble_eq_true rfl) dX0_copyFrom_52 ⟨Nat.zero_le _, Nat.zero_le _⟩  ?_
  refine sv_rv ?_
  refine sv_aload_n (i := 1) (x := sv_r G 1 j1) C dX0_copyFrom_55 rfl rfl ?_
  refine sv_get_0_5 C h1 kw_56 dX0_copyFrom_56 ?_
  refine sv_aload_n (i := 0) (x := sv_r G 1 j2) C dX0_copyFrom_59 rfl rfl ?_
  refine sv_get_0_5 C h2 kw_56 dX0_copyFrom_60 ?_
  refine sv_callN (as := [_, _]) (rest := []) C (met_copyRow l G _ _ _ 7 j1 j2 (by decide) h1 h2 hne rfl) fX5_copyRow (host := "StairLight") kn_RX0_30 ⟨Nat.le_of_ble_eq_true rfl, Nat.le_of_ble_eq_true rfl⟩ (Nat.le_of_ble_eq_true rfl) dX0_copyFrom_63 ⟨Nat.zero_le _, Nat.zero_le _⟩  ?_
  refine sv_rv ?_
  exact sv_vret C hr dX0_copyFrom_66 (Nat.le_of_ble_eq_true rfl) (Nat.le_of_ble_eq_true rfl) (sv_eqW (by simp only [sv_us, sv_uu, sv_un hne]; rfl))

set_option maxHeartbeats 4000000 in
set_option maxRecDepth 100000 in
theorem met_P_copyFrom (l : Launch) (G : sv_G) (z : Nat) (M : sv_M) (o : Int64) (j1 j2 : Nat) (h1 : j1 < 8) (h2 : j2 < 8) (hne : j1 ≠ j2) : sv_Met l G yX2_copyFrom cX2_copyFrom 2 none 1 [.ref (sv_r G 8 j2), .ref (sv_r G 8 j1)] (sv_W G z M o) none (sv_W G z (sv_u M j2 (cpP (M j1) (M j2))) o) := by
  refine sv_ofW (by decide) kw_345 (Nat.le_of_ble_eq_true rfl) ?_
  intro p e s mth args below meth c hr C _
  refine sv_sub (lv' := [(0, .ref (sv_r G 8 j2)), (1, .ref (sv_r G 8 j1))]) rfl ?_
  refine sv_aload_n (i := 1) (x := sv_r G 8 j1) C dX2_copyFrom_0 rfl rfl ?_
  refine sv_get_2_0 C h1 kw_78 dX2_copyFrom_1 ?_
  refine sv_aload_n (i := 0) (x := sv_r G 8 j2) C dX2_copyFrom_4 rfl rfl ?_
  refine sv_get_2_0 C h2 kw_78 dX2_copyFrom_5 ?_
  refine sv_callN (as := [_, _]) (rest := []) C (met_copyRow l G _ _ _ 9 j1 j2 (by decide) h1 h2 hne rfl) fX5_copyRow (host := "StairLight") kn_RX2_31 ⟨Nat.le_of_ble_eq_true rfl, Nat.le_of_ble_eq_true rfl⟩ (Nat.le_of_ble_eq_true rfl) dX2_copyFrom_8 ⟨Nat.zero_le _, Nat.zero_le _⟩  ?_
  refine sv_rv ?_
  refine sv_aload_n (i := 1) (x := sv_r G 8 j1) C dX2_copyFrom_11 rfl rfl ?_
  refine sv_get_2_1 C h1 kw_79 dX2_copyFrom_12 ?_
  refine sv_aload_n (i := 0) (x := sv_r G 8 j2) C dX2_copyFrom_15 rfl rfl ?_
  refine sv_get_2_1 C h2 kw_79 dX2_copyFrom_16 ?_
  refine sv_callN (as := [_, _]) (rest := []) C (met_copyRow l G _ _ _ 10 j1 j2 (by decide) h1 h2 hne rfl) fX5_copyRow (host := "StairLight") kn_RX2_31 ⟨Nat.le_of_ble_eq_true rfl, Nat.le_of_ble_eq_true rfl⟩ (Nat.le_of_ble_eq_true rfl) dX2_copyFrom_19 ⟨Nat.zero_le _, Nat.zero_le _⟩  ?_
  refine sv_rv ?_
  refine sv_aload_n (i := 1) (x := sv_r G 8 j1) C dX2_copyFrom_22 rfl rfl ?_
  refine sv_get_2_2 C h1 kw_82 dX2_copyFrom_23 ?_
  refine sv_aload_n (i := 0) (x := sv_r G 8 j2) C dX2_copyFrom_26 rfl rfl ?_
  refine sv_get_2_2 C h2 kw_82 dX2_copyFrom_27 ?_
  refine sv_callN (as := [_, _]) (rest := []) C (met_copyRow l G _ _ _ 11 j1 j2 (by decide) h1 h2 hne rfl) fX5_copyRow (host := "StairLight") kn_RX2_31 ⟨Nat.le_of_ble_eq_true rfl, Nat.le_of_ble_eq_true rfl⟩ (Nat.le_of_ble_eq_true rfl) dX2_copyFrom_30 ⟨Nat.zero_le _, Nat.zero_le _⟩  ?_
  refine sv_rv ?_
  refine sv_aload_n (i := 1) (x := sv_r G 8 j1) C dX2_copyFrom_33 rfl rfl ?_
  refine sv_get_2_3 C h1 kw_84 dX2_copyFrom_34 ?_
  refine sv_aload_n (i := 0) (x := sv_r G 8 j2) C dX2_copyFrom_37 rfl rfl ?_
  refine sv_get_2_3 C h2 kw_84 dX2_copyFrom_38 ?_
  refine sv_callN (as := [_, _]) (rest := []) C (met_copyRow l G _ _ _ 12 j1 j2 (by decide) h1 h2 hne rfl) fX5_copyRow (host := "StairLight") kn_RX2_31 ⟨Nat.le_of_ble_eq_true rfl, Nat.le_of_ble_eq_true rfl⟩ (Nat.le_of_ble_eq_true rfl) dX2_copyFrom_41 ⟨Nat.zero_le _, Nat.zero_le _⟩  ?_
  refine sv_rv ?_
  refine sv_aload_n (i := 0) (x := sv_r G 8 j2) C dX2_copyFrom_44 rfl rfl ?_
  refine sv_aload_n (i := 1) (x := sv_r G 8 j1) C dX2_copyFrom_45 rfl rfl ?_
  refine sv_get_2_4 C h1 kw_85 dX2_copyFrom_46 ?_
  refine sv_topi (fun v46 e46 => ?_)
  refine sv_put_2_4 C h2 kw_85 dX2_copyFrom_49 ?_
  refine sv_aload_n (i := 0) (x := sv_r G 8 j2) C dX2_copyFrom_52 rfl rfl ?_
  refine sv_aload_n (i := 1) (x := sv_r G 8 j1) C dX2_copyFrom_53 rfl rfl ?_
  refine sv_get_2_5 C h1 kw_88 dX2_copyFrom_54 ?_
  refine sv_topi (fun v54 e54 => ?_)
  refine sv_put_2_5 C h2 kw_88 dX2_copyFrom_57 ?_
  exact sv_vret C hr dX2_copyFrom_60 (Nat.le_of_ble_eq_true rfl) (Nat.le_of_ble_eq_true rfl) (sv_eqW (by simp only [e46, e54, sv_wu, sv_us, sv_uu, sv_un hne]; rfl))

set_option maxHeartbeats 4000000 in
set_option maxRecDepth 100000 in
theorem met_S_copyFrom (l : Launch) (G : sv_G) (z : Nat) (M : sv_M) (o : Int64) (j1 j2 : Nat) (h1 : j1 < 8) (h2 : j2 < 8) (hne : j1 ≠ j2) (b6 : M j1 6 = 0 ∨ M j1 6 = 1) (b7 : M j1 7 = 0 ∨ M j1 7 = 1) : sv_Met l G yX3_copyFrom cX3_copyFrom 2 none 2 [.ref (sv_r G 0 j2), .ref (sv_r G 0 j1)] (sv_W G z M o) none (sv_W G z (sv_u M j2 (cpS (M j1) (M j2))) o) := by
  refine sv_ofW (by decide) kw_336 (Nat.le_of_ble_eq_true rfl) ?_
  intro p e s mth args below meth c hr C _
  refine sv_sub (lv' := [(0, .ref (sv_r G 0 j2)), (1, .ref (sv_r G 0 j1))]) rfl ?_
  refine sv_aload_n (i := 0) (x := sv_r G 0 j2) C dX3_copyFrom_0 rfl rfl ?_
  refine sv_get_3_0 C h2 kw_108 dX3_copyFrom_1 ?_
  refine sv_aload_n (i := 1) (x := sv_r G 0 j1) C dX3_copyFrom_4 rfl rfl ?_
  refine sv_get_3_0 C h1 kw_108 dX3_copyFrom_5 ?_
  refine sv_callV (as := [_]) (rest := []) C (met_F_copyFrom l G _ _ _ j1 j2 h1 h2 hne) fX0_copyFrom kw_337 (sv_recv1 C h2) ⟨Nat.le_of_ble_eq_true rfl, Nat.le_of_ble_eq_true rfl⟩ (Nat.le_of_ble_eq_true rfl) dX3_copyFrom_8 ⟨Nat.zero_le _, Nat.zero_le _⟩  ?_
  refine sv_rv ?_
  refine sv_aload_n (i := 0) (x := sv_r G 0 j2) C dX3_copyFrom_11 rfl rfl ?_
  refine sv_get_3_1 C h2 kw_110 dX3_copyFrom_12 ?_
  refine sv_aload_n (i := 1) (x := sv_r G 0 j1) C dX3_copyFrom_15 rfl rfl ?_
  refine sv_get_3_1 C h1 kw_110 dX3_copyFrom_16 ?_
  refine sv_callV (as := [_]) (rest := []) C (met_P_copyFrom l G _ _ _ j1 j2 h1 h2 hne) fX2_copyFrom kw_342 (sv_recv8 C h2) ⟨Nat.le_of_ble_eq_true rfl, Nat.le_of_ble_eq_true rfl⟩ (Nat.le_of_ble_eq_true rfl) dX3_copyFrom_19 ⟨Nat.zero_le _, Nat.zero_le _⟩  ?_
  refine sv_rv ?_
  refine sv_aload_n (i := 1) (x := sv_r G 0 j1) C dX3_copyFrom_22 rfl rfl ?_
  refine sv_get_3_2 C h1 kw_112 dX3_copyFrom_23 ?_
  refine sv_aload_n (i := 0) (x := sv_r G 0 j2) C dX3_copyFrom_26 rfl rfl ?_
  refine sv_get_3_2 C h2 kw_112 dX3_copyFrom_27 ?_
  refine sv_callN (as := [_, _]) (rest := []) C (met_copyRow l G _ _ _ 13 j1 j2 (by decide) h1 h2 hne rfl) fX5_copyRow (host := "StairLight") kn_RX3_32 ⟨Nat.le_of_ble_eq_true rfl, Nat.le_of_ble_eq_true rfl⟩ (Nat.le_of_ble_eq_true rfl) dX3_copyFrom_30 ⟨Nat.zero_le _, Nat.zero_le _⟩  ?_
  refine sv_rv ?_
  refine sv_aload_n (i := 0) (x := sv_r G 0 j2) C dX3_copyFrom_33 rfl rfl ?_
  refine sv_aload_n (i := 1) (x := sv_r G 0 j1) C dX3_copyFrom_34 rfl rfl ?_
  refine sv_get_3_3 C h1 kw_114 dX3_copyFrom_35 ?_
  refine sv_topi (fun v35 e35 => ?_)
  refine sv_put_3_3 C h2 (by rw [e35]; simp only [sv_us, sv_uu, sv_un hne]; exact b6) kw_114 dX3_copyFrom_38 ?_
  refine sv_aload_n (i := 0) (x := sv_r G 0 j2) C dX3_copyFrom_41 rfl rfl ?_
  refine sv_aload_n (i := 1) (x := sv_r G 0 j1) C dX3_copyFrom_42 rfl rfl ?_
  refine sv_get_3_4 C h1 kw_116 dX3_copyFrom_43 ?_
  refine sv_topi (fun v43 e43 => ?_)
  refine sv_put_3_4 C h2 (by rw [e43]; simp only [sv_wu, sv_us, sv_uu, sv_un hne]; exact b7) kw_116 dX3_copyFrom_46 ?_
  refine sv_aload_n (i := 0) (x := sv_r G 0 j2) C dX3_copyFrom_49 rfl rfl ?_
  refine sv_aload_n (i := 1) (x := sv_r G 0 j1) C dX3_copyFrom_50 rfl rfl ?_
  refine sv_get_3_5 C h1 kw_118 dX3_copyFrom_51 ?_
  refine sv_topi (fun v51 e51 => ?_)
  refine sv_put_3_5 C h2 kw_118 dX3_copyFrom_54 ?_
  refine sv_aload_n (i := 0) (x := sv_r G 0 j2) C dX3_copyFrom_57 rfl rfl ?_
  refine sv_aload_n (i := 1) (x := sv_r G 0 j1) C dX3_copyFrom_58 rfl rfl ?_
  refine sv_get_3_6 C h1 kw_120 dX3_copyFrom_59 ?_
  refine sv_topi (fun v59 e59 => ?_)
  refine sv_put_3_6 C h2 kw_120 dX3_copyFrom_62 ?_
  exact sv_vret C hr dX3_copyFrom_65 (Nat.le_of_ble_eq_true rfl) (Nat.le_of_ble_eq_true rfl) (sv_eqW (by simp only [e35, e43, e51, e59, sv_wu, sv_us, sv_uu, sv_un hne]; rfl))

set_option maxHeartbeats 4000000 in
set_option maxRecDepth 100000 in
theorem met_mostMissed (l : Launch) (G : sv_G) (z : Nat) (M : sv_M) (o : Int64) (j : Nat) (hj : j < 8) : sv_Met l G yX0_mostMissed cX0_mostMissed 4 (some .int) 1 [.ref (sv_r G 1 j)] (sv_W G z M o) (some (.int (mm (M j) 8))) (sv_W G z M o) := by
  refine sv_ofW (by decide) kw_464 (Nat.le_of_ble_eq_true rfl) ?_
  intro p e s mth args below meth c hr C _
  refine sv_sub (lv' := [(0, .ref (sv_r G 1 j))]) rfl ?_
  refine sv_iconst (v := (-1)) C dX0_mostMissed_0 (by decide) ?_
  refine sv_istore_n (i := 1) C [(0, .ref (sv_r G 1 j)), (1, .int (-1))] dX0_mostMissed_1 rfl (by decide) rfl ?_
  refine sv_iconst (v := nI 0) C dX0_mostMissed_2 (by decide) ?_
  refine sv_istore_n (i := 2) C [(0, .ref (sv_r G 1 j)), (1, .int (-1)), (2, .int (nI 0))] dX0_mostMissed_3 rfl (by decide) rfl ?_
  refine sv_loop (N := 8) (I := fun _ => True) (Wf := fun i => sv_W G z M o) (Lf := fun i => [(0, .ref (sv_r G 1 j)), (1, .int (mm (M j) i)), (2, .int (nI i))]) 0 (Nat.zero_le _) trivial (fun i hi0 hi hI ih => ?_)
  refine sv_iload_n (i := 2) (x := nI i) C dX0_mostMissed_4 rfl rfl ?_
  refine sv_bipush (v := nI 8) C dX0_mostMissed_5 (by decide) ?_
  refine sv_icmp_geN C 63 dX0_mostMissed_7 (by decide) (by omega) (by omega) (fun q7 => ?_) (fun q7 => ?_)
  · refine sv_iload_n (i := 1) (x := mm (M j) i) C dX0_mostMissed_63 rfl rfl ?_
    exact sv_iret C hr dX0_mostMissed_64 (Nat.le_of_ble_eq_true rfl) (Nat.le_of_ble_eq_true rfl) (by rw [show i = 8 from by omega]) (fun _ h => h)
  · refine sv_aload_n (i := 0) (x := sv_r G 1 j) C dX0_mostMissed_10 rfl rfl ?_
    refine sv_get_0_1 C hj kw_44 dX0_mostMissed_11 ?_
    refine sv_iload_n (i := 2) (x := nI i) C dX0_mostMissed_14 rfl rfl ?_
    refine sv_callN (as := [_, _]) (rest := []) C (met_atN j (6 * i + 10) rfl rfl (sv_okj (by decide) hj) rfl (by show _ < 8; omega)) fX5_at (host := "StairLight") kn_RX0_34 ⟨Nat.le_of_ble_eq_true rfl, Nat.le_of_ble_eq_true rfl⟩ (Nat.le_of_ble_eq_true rfl) dX0_mostMissed_15 ⟨Nat.zero_le _, Nat.zero_le _⟩  ?_
    refine sv_ri (fun v15 e15 => ?_)
    refine sv_if_ne C 25 dX0_mostMissed_18 (by decide) (fun q18 => ?_) (fun q18 => ?_)
    · refine sv_iconst (v := nI 0) C dX0_mostMissed_25 (by decide) ?_
      refine sv_istore_n (i := 3) C [(0, .ref (sv_r G 1 j)), (1, .int (mm (M j) i)), (2, .int (nI i)), (3, .int (nI 0))] dX0_mostMissed_26 rfl (by decide) rfl ?_
      refine sv_iload_n (i := 3) (x := nI 0) C dX0_mostMissed_27 rfl rfl ?_
      refine sv_if_eq C 57 dX0_mostMissed_28 (by decide) (fun q28 => ?_) (fun q28 => ?_)
      · refine sv_iinc (i := 2) (x := nI i) C (nI (i + 1)) [(0, .ref (sv_r G 1 j)), (1, .int (mm (M j) i)), (2, .int (nI (i + 1))), (3, .int (nI 0))] dX0_mostMissed_57 rfl (sv_incN i 1) (by decide) rfl ?_
        refine sv_goto C 4 dX0_mostMissed_60 (by decide) ?_
        refine sv_sub (lv' := [(0, .ref (sv_r G 1 j)), (1, .int (mm (M j) i)), (2, .int (nI (i + 1)))]) rfl ?_
        have hn : mm (M j) (i + 1) = mm (M j) i := if_neg (fun h => q18 (e15.trans h.1))
        rw [← hn]
        exact ih (by omega) trivial
      · exact absurd rfl q28
    · refine sv_iconst (v := nI 1) C dX0_mostMissed_21 (by decide) ?_
      refine sv_goto C 26 dX0_mostMissed_22 (by decide) ?_
      refine sv_istore_n (i := 3) C [(0, .ref (sv_r G 1 j)), (1, .int (mm (M j) i)), (2, .int (nI i)), (3, .int (nI 1))] dX0_mostMissed_26 rfl (by decide) rfl ?_
      refine sv_iload_n (i := 3) (x := nI 1) C dX0_mostMissed_27 rfl rfl ?_
      refine sv_if_eq C 57 dX0_mostMissed_28 (by decide) (fun q28 => ?_) (fun q28 => ?_)
      · exact absurd q28 (by decide)
      · refine sv_iload_n (i := 1) (x := mm (M j) i) C dX0_mostMissed_31 rfl rfl ?_
        refine sv_iconst (v := (-1)) C dX0_mostMissed_32 (by decide) ?_
        refine sv_icmp_eq C 55 dX0_mostMissed_33 (by decide) (fun q33 => ?_) (fun q33 => ?_)
        · refine sv_iload_n (i := 2) (x := nI i) C dX0_mostMissed_55 rfl rfl ?_
          refine sv_istore_n (i := 1) C [(0, .ref (sv_r G 1 j)), (1, .int (nI i)), (2, .int (nI i)), (3, .int (nI 1))] dX0_mostMissed_56 rfl (by decide) rfl ?_
          refine sv_iinc (i := 2) (x := nI i) C (nI (i + 1)) [(0, .ref (sv_r G 1 j)), (1, .int (nI i)), (2, .int (nI (i + 1))), (3, .int (nI 1))] dX0_mostMissed_57 rfl (sv_incN i 1) (by decide) rfl ?_
          refine sv_goto C 4 dX0_mostMissed_60 (by decide) ?_
          refine sv_sub (lv' := [(0, .ref (sv_r G 1 j)), (1, .int (nI i)), (2, .int (nI (i + 1)))]) rfl ?_
          have hn : mm (M j) (i + 1) = nI i := if_pos ⟨e15.symm.trans q18, Or.inl q33⟩
          rw [← hn]
          exact ih (by omega) trivial
        · refine sv_aload_n (i := 0) (x := sv_r G 1 j) C dX0_mostMissed_36 rfl rfl ?_
          refine sv_get_0_2 C hj kw_47 dX0_mostMissed_37 ?_
          refine sv_iload_n (i := 2) (x := nI i) C dX0_mostMissed_40 rfl rfl ?_
          refine sv_callN (as := [_, _]) (rest := []) C (met_atN j (6 * i + 11) rfl rfl (sv_okj (by decide) hj) rfl (by show _ < 8; omega)) fX5_at (host := "StairLight") kn_RX0_34 ⟨Nat.le_of_ble_eq_true rfl, Nat.le_of_ble_eq_true rfl⟩ (Nat.le_of_ble_eq_true rfl) dX0_mostMissed_41 ⟨Nat.zero_le _, Nat.zero_le _⟩  ?_
          refine sv_ri (fun v41 e41 => ?_)
          refine sv_aload_n (i := 0) (x := sv_r G 1 j) C dX0_mostMissed_44 rfl rfl ?_
          refine sv_get_0_2 C hj kw_47 dX0_mostMissed_45 ?_
          refine sv_iload_n (i := 1) (x := mm (M j) i) C dX0_mostMissed_48 rfl rfl ?_
          refine sv_callN (as := [_, _]) (rest := [_]) C (met_at l G _ _ _ 4 j (sv_okj (by decide) hj) rfl (mm (M j) i)) fX5_at (host := "StairLight") kn_RX0_34 ⟨Nat.le_of_ble_eq_true rfl, Nat.le_of_ble_eq_true rfl⟩ (Nat.le_of_ble_eq_true rfl) dX0_mostMissed_49 ⟨Nat.zero_le _, Nat.zero_le _⟩  ?_
          refine sv_ri (fun v49 e49 => ?_)
          have e49 : v49 = M j (6 * (mm (M j) i).toNatClampNeg + 11) := by
            rw [e49]
            obtain ⟨g, hg, eg⟩ := (mm_cases (M j) i).resolve_left q33
            rw [eg, cAt_N (show g < sv_n 4 by show _ < 8; omega), nI_clamp (by omega)]
            rfl
          refine sv_icmp_le C 57 dX0_mostMissed_52 (by decide) (fun q52 => ?_) (fun q52 => ?_)
          · have q52 : ¬ M j (6 * (mm (M j) i).toNatClampNeg + 11) < M j (6 * i + 11) := by rw [← e49, ← e41]; exact Int32.not_lt.mpr q52
            refine sv_iinc (i := 2) (x := nI i) C (nI (i + 1)) [(0, .ref (sv_r G 1 j)), (1, .int (mm (M j) i)), (2, .int (nI (i + 1))), (3, .int (nI 1))] dX0_mostMissed_57 rfl (sv_incN i 1) (by decide) rfl ?_
            refine sv_goto C 4 dX0_mostMissed_60 (by decide) ?_
            refine sv_sub (lv' := [(0, .ref (sv_r G 1 j)), (1, .int (mm (M j) i)), (2, .int (nI (i + 1)))]) rfl ?_
            have hn : mm (M j) (i + 1) = mm (M j) i := if_neg (fun h => h.2.elim q33 (fun z => q52 z))
            rw [← hn]
            exact ih (by omega) trivial
          · have q52 : M j (6 * (mm (M j) i).toNatClampNeg + 11) < M j (6 * i + 11) := by rw [← e49, ← e41]; exact Int32.not_le.mp q52
            refine sv_iload_n (i := 2) (x := nI i) C dX0_mostMissed_55 rfl rfl ?_
            refine sv_istore_n (i := 1) C [(0, .ref (sv_r G 1 j)), (1, .int (nI i)), (2, .int (nI i)), (3, .int (nI 1))] dX0_mostMissed_56 rfl (by decide) rfl ?_
            refine sv_iinc (i := 2) (x := nI i) C (nI (i + 1)) [(0, .ref (sv_r G 1 j)), (1, .int (nI i)), (2, .int (nI (i + 1))), (3, .int (nI 1))] dX0_mostMissed_57 rfl (sv_incN i 1) (by decide) rfl ?_
            refine sv_goto C 4 dX0_mostMissed_60 (by decide) ?_
            refine sv_sub (lv' := [(0, .ref (sv_r G 1 j)), (1, .int (nI i)), (2, .int (nI (i + 1)))]) rfl ?_
            have hn : mm (M j) (i + 1) = nI i := if_pos ⟨e15.symm.trans q18, Or.inr q52⟩
            rw [← hn]
            exact ih (by omega) trivial

set_option maxHeartbeats 4000000 in
set_option maxRecDepth 100000 in
theorem met_isThere (l : Launch) (G : sv_G) (z : Nat) (M : sv_M) (o : Int64) (j f : Nat) (hj : j < 8) (hf : f < 7) : sv_Met l G yX2_isThere cX2_isThere 2 (some .boolean) 1 [.ref (sv_r G 8 j), .int (nI f)] (sv_W G z M o) (some (.int (if M j (4 * f + 59) = M j (4 * f + 60) then 1 else 0))) (sv_W G z M o) := by
  refine sv_ofW (by decide) kw_363 (Nat.le_of_ble_eq_true rfl) ?_
  intro p e s mth args below meth c hr C _
  refine sv_sub (lv' := [(0, .ref (sv_r G 8 j)), (1, .int (nI f))]) rfl ?_
  refine sv_aload_n (i := 0) (x := sv_r G 8 j) C dX2_isThere_0 rfl rfl ?_
  refine sv_get_2_1 C hj kw_79 dX2_isThere_1 ?_
  refine sv_iload_n (i := 1) (x := nI f) C dX2_isThere_4 rfl rfl ?_
  refine sv_callN (as := [_, _]) (rest := []) C (met_atN j (4 * f + 59) rfl rfl (sv_okj (by decide) hj) rfl (by show _ < 7; omega)) fX5_at (host := "StairLight") kn_RX2_47 ⟨Nat.le_of_ble_eq_true rfl, Nat.le_of_ble_eq_true rfl⟩ (Nat.le_of_ble_eq_true rfl) dX2_isThere_5 ⟨Nat.zero_le _, Nat.zero_le _⟩  ?_
  refine sv_ri (fun v5 e5 => ?_)
  refine sv_aload_n (i := 0) (x := sv_r G 8 j) C dX2_isThere_8 rfl rfl ?_
  refine sv_get_2_2 C hj kw_82 dX2_isThere_9 ?_
  refine sv_iload_n (i := 1) (x := nI f) C dX2_isThere_12 rfl rfl ?_
  refine sv_callN (as := [_, _]) (rest := [_]) C (met_atN j (4 * f + 60) rfl rfl (sv_okj (by decide) hj) rfl (by show _ < 7; omega)) fX5_at (host := "StairLight") kn_RX2_47 ⟨Nat.le_of_ble_eq_true rfl, Nat.le_of_ble_eq_true rfl⟩ (Nat.le_of_ble_eq_true rfl) dX2_isThere_13 ⟨Nat.zero_le _, Nat.zero_le _⟩  ?_
  refine sv_ri (fun v13 e13 => ?_)
  refine sv_sel_icmp_ne (va := nI 1) (vb := nI 0) C 23 dX2_isThere_16 (by decide) dX2_isThere_19 (by decide) dX2_isThere_20 (by decide) dX2_isThere_23 (by decide) ?_
  refine sv_topi (fun v16 e16 => ?_)
  exact sv_zret C (by split; exact Or.inr rfl; exact Or.inl rfl) hr dX2_isThere_24 (Nat.le_of_ble_eq_true rfl) (Nat.le_of_ble_eq_true rfl) (by rw [e16, e5, e13]; by_cases h : M j (4 * f + 59) = M j (4 * f + 60); rw [if_neg (fun z => z h), if_pos h]; rfl; rw [if_pos h, if_neg h]; rfl) (fun _ h => h)

set_option maxHeartbeats 4000000 in
set_option maxRecDepth 100000 in
theorem met_sendTo (l : Launch) (G : sv_G) (z : Nat) (M : sv_M) (o : Int64) (j f : Nat) (hj : j < 8) (hf : f < 7) (t T : Int32) : sv_Met l G yX2_sendTo cX2_sendTo 4 none 2 [.ref (sv_r G 8 j), .int (nI f), .int t, .int T] (sv_W G z M o) none (sv_W G z (sv_u M j (upd (upd (M j) (4 * f + 60) t) (4 * f + 61) (if M j (4 * f + 59) = t then 0 else T))) o) := by
  refine sv_ofW (by decide) kw_429 (Nat.le_of_ble_eq_true rfl) ?_
  intro p e s mth args below meth c hr C _
  refine sv_sub (lv' := [(0, .ref (sv_r G 8 j)), (1, .int (nI f)), (2, .int t), (3, .int T)]) rfl ?_
  refine sv_aload_n (i := 0) (x := sv_r G 8 j) C dX2_sendTo_0 rfl rfl ?_
  refine sv_get_2_2 C hj kw_82 dX2_sendTo_1 ?_
  refine sv_iload_n (i := 1) (x := nI f) C dX2_sendTo_4 rfl rfl ?_
  refine sv_iload_n (i := 2) (x := t) C dX2_sendTo_5 rfl rfl ?_
  refine sv_callN (as := [_, _, _]) (rest := []) C (met_putN j (4 * f + 60) rfl rfl (sv_okj (by decide) hj) rfl (by show _ < 7; omega)) fX5_put (host := "StairLight") kn_RX2_35 ⟨Nat.le_of_ble_eq_true rfl, Nat.le_of_ble_eq_true rfl⟩ (Nat.le_of_ble_eq_true rfl) dX2_sendTo_6 ⟨Nat.zero_le _, Nat.zero_le _⟩  ?_
  refine sv_rv ?_
  refine sv_aload_n (i := 0) (x := sv_r G 8 j) C dX2_sendTo_9 rfl rfl ?_
  refine sv_get_2_3 C hj kw_84 dX2_sendTo_10 ?_
  refine sv_iload_n (i := 1) (x := nI f) C dX2_sendTo_13 rfl rfl ?_
  refine sv_aload_n (i := 0) (x := sv_r G 8 j) C dX2_sendTo_14 rfl rfl ?_
  refine sv_iload_n (i := 1) (x := nI f) C dX2_sendTo_15 rfl rfl ?_
  refine sv_callV (as := [_]) (rest := [_, _]) C (met_isThere l G _ _ _ j f hj (by omega)) fX2_isThere kw_360 (sv_recv8 C hj) ⟨Nat.le_of_ble_eq_true rfl, Nat.le_of_ble_eq_true rfl⟩ (Nat.le_of_ble_eq_true rfl) dX2_sendTo_16 ⟨Nat.zero_le _, Nat.zero_le _⟩  ?_
  refine sv_ri (fun v16 e16 => ?_)
  refine sv_if_eq C 26 dX2_sendTo_19 (by decide) (fun q19 => ?_) (fun q19 => ?_)
  · have q19 : ¬ M j (4 * f + 59) = t := by
      intro h
      rw [e16, sv_wu, sv_us, upd_n (by omega), upd_s, if_pos h] at q19
      exact absurd q19 (by decide)
    refine sv_iload_n (i := 3) (x := T) C dX2_sendTo_26 rfl rfl ?_
    refine sv_callN (as := [_, _, _]) (rest := []) C (met_putN j (4 * f + 61) rfl rfl (sv_okj (by decide) hj) rfl (by show _ < 7; omega)) fX5_put (host := "StairLight") kn_RX2_35 ⟨Nat.le_of_ble_eq_true rfl, Nat.le_of_ble_eq_true rfl⟩ (Nat.le_of_ble_eq_true rfl) dX2_sendTo_27 ⟨Nat.zero_le _, Nat.zero_le _⟩  ?_
    refine sv_rv ?_
    exact sv_vret C hr dX2_sendTo_30 (Nat.le_of_ble_eq_true rfl) (Nat.le_of_ble_eq_true rfl) (sv_eqW (by rw [if_neg q19, sv_wu, sv_wu, sv_us, sv_uu]))
  · have q19 : M j (4 * f + 59) = t := Decidable.byContradiction fun h => q19 (by rw [e16, sv_wu, sv_us, upd_n (by omega), upd_s, if_neg h])
    refine sv_iconst (v := nI 0) C dX2_sendTo_22 (by decide) ?_
    refine sv_goto C 27 dX2_sendTo_23 (by decide) ?_
    refine sv_callN (as := [_, _, _]) (rest := []) C (met_putN j (4 * f + 61) rfl rfl (sv_okj (by decide) hj) rfl (by show _ < 7; omega)) fX5_put (host := "StairLight") kn_RX2_35 ⟨Nat.le_of_ble_eq_true rfl, Nat.le_of_ble_eq_true rfl⟩ (Nat.le_of_ble_eq_true rfl) dX2_sendTo_27 ⟨Nat.zero_le _, Nat.zero_le _⟩  ?_
    refine sv_rv ?_
    exact sv_vret C hr dX2_sendTo_30 (Nat.le_of_ble_eq_true rfl) (Nat.le_of_ble_eq_true rfl) (sv_eqW (by rw [if_pos q19, sv_wu, sv_wu, sv_us, sv_uu]; rfl))

set_option maxHeartbeats 4000000 in
set_option maxRecDepth 100000 in
theorem met_peopleOn (l : Launch) (G : sv_G) (z : Nat) (M : sv_M) (o : Int64) (j : Nat) (hj : j < 8) (t : Int32) (m : Nat) (hm : M j 57 = nI m) (hm7 : m ≤ 7) : sv_Met l G yX2_peopleOn cX2_peopleOn 4 (some .int) 1 [.ref (sv_r G 8 j), .int t] (sv_W G z M o) (some (.int (onI (M j) t m))) (sv_W G z M o) := by
  refine sv_ofW (by decide) kw_291 (Nat.le_of_ble_eq_true rfl) ?_
  intro p e s mth args below meth c hr C _
  refine sv_sub (lv' := [(0, .ref (sv_r G 8 j)), (1, .int t)]) rfl ?_
  refine sv_iconst (v := nI 0) C dX2_peopleOn_0 (by decide) ?_
  refine sv_istore_n (i := 2) C [(0, .ref (sv_r G 8 j)), (1, .int t), (2, .int (nI 0))] dX2_peopleOn_1 rfl (by decide) rfl ?_
  refine sv_iconst (v := nI 0) C dX2_peopleOn_2 (by decide) ?_
  refine sv_istore_n (i := 3) C [(0, .ref (sv_r G 8 j)), (1, .int t), (2, .int (nI 0)), (3, .int (nI 0))] dX2_peopleOn_3 rfl (by decide) rfl ?_
  refine sv_loop (N := m) (I := fun _ => True) (Wf := fun i => sv_W G z M o) (Lf := fun i => [(0, .ref (sv_r G 8 j)), (1, .int t), (2, .int (onI (M j) t i)), (3, .int (nI i))]) 0 (Nat.zero_le _) trivial (fun i hi0 hi hI ih => ?_)
  refine sv_iload_n (i := 3) (x := nI i) C dX2_peopleOn_4 rfl rfl ?_
  refine sv_aload_n (i := 0) (x := sv_r G 8 j) C dX2_peopleOn_5 rfl rfl ?_
  refine sv_get_2_4 C hj kw_85 dX2_peopleOn_6 ?_
  refine sv_set (v' := .int (nI m)) (congrArg Value.int hm) ?_
  refine sv_icmp_geN C 33 dX2_peopleOn_9 (by decide) (by omega) (by omega) (fun q9 => ?_) (fun q9 => ?_)
  · refine sv_iload_n (i := 2) (x := onI (M j) t i) C dX2_peopleOn_33 rfl rfl ?_
    exact sv_iret C hr dX2_peopleOn_34 (Nat.le_of_ble_eq_true rfl) (Nat.le_of_ble_eq_true rfl) (by rw [show i = m from by omega]) (fun _ h => h)
  · refine sv_aload_n (i := 0) (x := sv_r G 8 j) C dX2_peopleOn_12 rfl rfl ?_
    refine sv_get_2_1 C hj kw_79 dX2_peopleOn_13 ?_
    refine sv_iload_n (i := 3) (x := nI i) C dX2_peopleOn_16 rfl rfl ?_
    refine sv_callN (as := [_, _]) (rest := []) C (met_atN j (4 * i + 59) rfl rfl (sv_okj (by decide) hj) rfl (by show _ < 7; omega)) fX5_at (host := "StairLight") kn_RX2_47 ⟨Nat.le_of_ble_eq_true rfl, Nat.le_of_ble_eq_true rfl⟩ (Nat.le_of_ble_eq_true rfl) dX2_peopleOn_17 ⟨Nat.zero_le _, Nat.zero_le _⟩  ?_
    refine sv_ri (fun v17 e17 => ?_)
    refine sv_iload_n (i := 1) (x := t) C dX2_peopleOn_20 rfl rfl ?_
    refine sv_icmp_ne C 27 dX2_peopleOn_21 (by decide) (fun q21 => ?_) (fun q21 => ?_)
    · refine sv_iinc (i := 3) (x := nI i) C (nI (i + 1)) [(0, .ref (sv_r G 8 j)), (1, .int t), (2, .int (onI (M j) t i)), (3, .int (nI (i + 1)))] dX2_peopleOn_27 rfl (sv_incN i 1) (by decide) rfl ?_
      refine sv_goto C 4 dX2_peopleOn_30 (by decide) ?_
      rw [show onI (M j) t i = onI (M j) t (i + 1) from by show _ = onI (M j) t i + _; rw [if_neg (fun h => q21 (e17.trans h))]; exact (Int32.add_zero _).symm]
      exact ih (by omega) trivial
    · obtain ⟨v24, e24⟩ : ∃ y : Int32, y = onI (M j) t i + Int32.ofInt (1) := ⟨_, rfl⟩
      refine sv_iinc (i := 2) (x := onI (M j) t i) C v24 [(0, .ref (sv_r G 8 j)), (1, .int t), (2, .int v24), (3, .int (nI i))] dX2_peopleOn_24 rfl e24.symm (by decide) rfl ?_
      refine sv_iinc (i := 3) (x := nI i) C (nI (i + 1)) [(0, .ref (sv_r G 8 j)), (1, .int t), (2, .int v24), (3, .int (nI (i + 1)))] dX2_peopleOn_27 rfl (sv_incN i 1) (by decide) rfl ?_
      refine sv_goto C 4 dX2_peopleOn_30 (by decide) ?_
      rw [show v24 = onI (M j) t (i + 1) from by rw [e24]; show _ = onI (M j) t i + _; rw [if_pos (e17.symm.trans q21)]; rfl]
      exact ih (by omega) trivial

theorem plF_step {x : vX} {v : Int32} {m i : Nat} (h : i < m) (hne : ¬ x (4 * i + 58) = v) : plF x v (m - i) i = plF x v (m - (i + 1)) (i + 1) := by
  rw [show m - i = (m - (i + 1)) + 1 by omega]
  exact if_neg hne
theorem plF_hit {x : vX} {v : Int32} {m i : Nat} (h : i < m) (he : x (4 * i + 58) = v) : plF x v (m - i) i = nI i := by
  rw [show m - i = (m - (i + 1)) + 1 by omega]
  exact if_pos he
theorem plF_end {x : vX} {v : Int32} {m i : Nat} (h : m ≤ i) : plF x v (m - i) i = (-1) := by
  rw [show m - i = 0 by omega]
  rfl
set_option maxHeartbeats 4000000 in
set_option maxRecDepth 100000 in
theorem met_placeOf (l : Launch) (G : sv_G) (z : Nat) (M : sv_M) (o : Int64) (j : Nat) (hj : j < 8) (t : Int32) (m : Nat) (hm : M j 57 = nI m) (hm7 : m ≤ 7) : sv_Met l G yX2_placeOf cX2_placeOf 3 (some .int) 1 [.ref (sv_r G 8 j), .int t] (sv_W G z M o) (some (.int (plF (M j) t m 0))) (sv_W G z M o) := by
  refine sv_ofW (by decide) kw_434 (Nat.le_of_ble_eq_true rfl) ?_
  intro p e s mth args below meth c hr C _
  refine sv_sub (lv' := [(0, .ref (sv_r G 8 j)), (1, .int t)]) rfl ?_
  refine sv_iconst (v := nI 0) C dX2_placeOf_0 (by decide) ?_
  refine sv_istore_n (i := 2) C [(0, .ref (sv_r G 8 j)), (1, .int t), (2, .int (nI 0))] dX2_placeOf_1 rfl (by decide) rfl ?_
  refine sv_loop (N := m) (I := fun i => plF (M j) t m 0 = plF (M j) t (m - i) i) (Wf := fun i => sv_W G z M o) (Lf := fun i => [(0, .ref (sv_r G 8 j)), (1, .int t), (2, .int (nI i))]) 0 (Nat.zero_le _) rfl (fun i hi0 hi hI ih => ?_)
  refine sv_iload_n (i := 2) (x := nI i) C dX2_placeOf_2 rfl rfl ?_
  refine sv_aload_n (i := 0) (x := sv_r G 8 j) C dX2_placeOf_3 rfl rfl ?_
  refine sv_get_2_4 C hj kw_85 dX2_placeOf_4 ?_
  refine sv_set (v' := .int (nI m)) (congrArg Value.int hm) ?_
  refine sv_icmp_geN C 30 dX2_placeOf_7 (by decide) (by omega) (by omega) (fun q7 => ?_) (fun q7 => ?_)
  · refine sv_iconst (v := (-1)) C dX2_placeOf_30 (by decide) ?_
    exact sv_iret C hr dX2_placeOf_31 (Nat.le_of_ble_eq_true rfl) (Nat.le_of_ble_eq_true rfl) (by rw [hI, plF_end (by omega)]) (fun _ h => h)
  · refine sv_aload_n (i := 0) (x := sv_r G 8 j) C dX2_placeOf_10 rfl rfl ?_
    refine sv_get_2_0 C hj kw_78 dX2_placeOf_11 ?_
    refine sv_iload_n (i := 2) (x := nI i) C dX2_placeOf_14 rfl rfl ?_
    refine sv_callN (as := [_, _]) (rest := []) C (met_atN j (4 * i + 58) rfl rfl (sv_okj (by decide) hj) rfl (by show _ < 7; omega)) fX5_at (host := "StairLight") kn_RX2_47 ⟨Nat.le_of_ble_eq_true rfl, Nat.le_of_ble_eq_true rfl⟩ (Nat.le_of_ble_eq_true rfl) dX2_placeOf_15 ⟨Nat.zero_le _, Nat.zero_le _⟩  ?_
    refine sv_ri (fun v15 e15 => ?_)
    refine sv_iload_n (i := 1) (x := t) C dX2_placeOf_18 rfl rfl ?_
    refine sv_icmp_ne C 24 dX2_placeOf_19 (by decide) (fun q19 => ?_) (fun q19 => ?_)
    · refine sv_iinc (i := 2) (x := nI i) C (nI (i + 1)) [(0, .ref (sv_r G 8 j)), (1, .int t), (2, .int (nI (i + 1)))] dX2_placeOf_24 rfl (sv_incN i 1) (by decide) rfl ?_
      refine sv_goto C 2 dX2_placeOf_27 (by decide) ?_
      exact ih (by omega) (hI.trans (plF_step (by omega) (fun h => q19 (e15.trans h))))
    · refine sv_iload_n (i := 2) (x := nI i) C dX2_placeOf_22 rfl rfl ?_
      exact sv_iret C hr dX2_placeOf_23 (Nat.le_of_ble_eq_true rfl) (Nat.le_of_ble_eq_true rfl) (by rw [hI, plF_hit (by omega) (e15.symm.trans q19)]) (fun _ h => h)

set_option maxHeartbeats 4000000 in
set_option maxRecDepth 100000 in
theorem met_moveUp (l : Launch) (G : sv_G) (z : Nat) (M : sv_M) (o : Int64) (j f t : Nat) (hj : j < 8) (hf : f < 7) (ht : t < 7) : sv_Met l G yX2_moveUp cX2_moveUp 3 none 1 [.ref (sv_r G 8 j), .int (nI f), .int (nI t)] (sv_W G z M o) none (sv_W G z (sv_u M j (mvv f t (M j))) o) := by
  refine sv_ofW (by decide) kw_377 (Nat.le_of_ble_eq_true rfl) ?_
  intro p e s mth args below meth c hr C _
  refine sv_sub (lv' := [(0, .ref (sv_r G 8 j)), (1, .int (nI f)), (2, .int (nI t))]) rfl ?_
  refine sv_aload_n (i := 0) (x := sv_r G 8 j) C dX2_moveUp_0 rfl rfl ?_
  refine sv_get_2_0 C hj kw_78 dX2_moveUp_1 ?_
  refine sv_iload_n (i := 2) (x := nI t) C dX2_moveUp_4 rfl rfl ?_
  refine sv_aload_n (i := 0) (x := sv_r G 8 j) C dX2_moveUp_5 rfl rfl ?_
  refine sv_get_2_0 C hj kw_78 dX2_moveUp_6 ?_
  refine sv_iload_n (i := 1) (x := nI f) C dX2_moveUp_9 rfl rfl ?_
  refine sv_callN (as := [_, _]) (rest := [_, _]) C (met_atN j (4 * f + 58) rfl rfl (sv_okj (by decide) hj) rfl (by show _ < 7; omega)) fX5_at (host := "StairLight") kn_RX2_47 ⟨Nat.le_of_ble_eq_true rfl, Nat.le_of_ble_eq_true rfl⟩ (Nat.le_of_ble_eq_true rfl) dX2_moveUp_10 ⟨Nat.zero_le _, Nat.zero_le _⟩  ?_
  refine sv_ri (fun v10 e10 => ?_)
  refine sv_callN (as := [_, _, _]) (rest := []) C (met_putN j (4 * t + 58) rfl rfl (sv_okj (by decide) hj) rfl (by show _ < 7; omega)) fX5_put (host := "StairLight") kn_RX2_35 ⟨Nat.le_of_ble_eq_true rfl, Nat.le_of_ble_eq_true rfl⟩ (Nat.le_of_ble_eq_true rfl) dX2_moveUp_13 ⟨Nat.zero_le _, Nat.zero_le _⟩  ?_
  refine sv_rv ?_
  refine sv_aload_n (i := 0) (x := sv_r G 8 j) C dX2_moveUp_16 rfl rfl ?_
  refine sv_get_2_1 C hj kw_79 dX2_moveUp_17 ?_
  refine sv_iload_n (i := 2) (x := nI t) C dX2_moveUp_20 rfl rfl ?_
  refine sv_aload_n (i := 0) (x := sv_r G 8 j) C dX2_moveUp_21 rfl rfl ?_
  refine sv_get_2_1 C hj kw_79 dX2_moveUp_22 ?_
  refine sv_iload_n (i := 1) (x := nI f) C dX2_moveUp_25 rfl rfl ?_
  refine sv_callN (as := [_, _]) (rest := [_, _]) C (met_atN j (4 * f + 59) rfl rfl (sv_okj (by decide) hj) rfl (by show _ < 7; omega)) fX5_at (host := "StairLight") kn_RX2_47 ⟨Nat.le_of_ble_eq_true rfl, Nat.le_of_ble_eq_true rfl⟩ (Nat.le_of_ble_eq_true rfl) dX2_moveUp_26 ⟨Nat.zero_le _, Nat.zero_le _⟩  ?_
  refine sv_ri (fun v26 e26 => ?_)
  refine sv_callN (as := [_, _, _]) (rest := []) C (met_putN j (4 * t + 59) rfl rfl (sv_okj (by decide) hj) rfl (by show _ < 7; omega)) fX5_put (host := "StairLight") kn_RX2_35 ⟨Nat.le_of_ble_eq_true rfl, Nat.le_of_ble_eq_true rfl⟩ (Nat.le_of_ble_eq_true rfl) dX2_moveUp_29 ⟨Nat.zero_le _, Nat.zero_le _⟩  ?_
  refine sv_rv ?_
  refine sv_aload_n (i := 0) (x := sv_r G 8 j) C dX2_moveUp_32 rfl rfl ?_
  refine sv_get_2_2 C hj kw_82 dX2_moveUp_33 ?_
  refine sv_iload_n (i := 2) (x := nI t) C dX2_moveUp_36 rfl rfl ?_
  refine sv_aload_n (i := 0) (x := sv_r G 8 j) C dX2_moveUp_37 rfl rfl ?_
  refine sv_get_2_2 C hj kw_82 dX2_moveUp_38 ?_
  refine sv_iload_n (i := 1) (x := nI f) C dX2_moveUp_41 rfl rfl ?_
  refine sv_callN (as := [_, _]) (rest := [_, _]) C (met_atN j (4 * f + 60) rfl rfl (sv_okj (by decide) hj) rfl (by show _ < 7; omega)) fX5_at (host := "StairLight") kn_RX2_47 ⟨Nat.le_of_ble_eq_true rfl, Nat.le_of_ble_eq_true rfl⟩ (Nat.le_of_ble_eq_true rfl) dX2_moveUp_42 ⟨Nat.zero_le _, Nat.zero_le _⟩  ?_
  refine sv_ri (fun v42 e42 => ?_)
  refine sv_callN (as := [_, _, _]) (rest := []) C (met_putN j (4 * t + 60) rfl rfl (sv_okj (by decide) hj) rfl (by show _ < 7; omega)) fX5_put (host := "StairLight") kn_RX2_35 ⟨Nat.le_of_ble_eq_true rfl, Nat.le_of_ble_eq_true rfl⟩ (Nat.le_of_ble_eq_true rfl) dX2_moveUp_45 ⟨Nat.zero_le _, Nat.zero_le _⟩  ?_
  refine sv_rv ?_
  refine sv_aload_n (i := 0) (x := sv_r G 8 j) C dX2_moveUp_48 rfl rfl ?_
  refine sv_get_2_3 C hj kw_84 dX2_moveUp_49 ?_
  refine sv_iload_n (i := 2) (x := nI t) C dX2_moveUp_52 rfl rfl ?_
  refine sv_aload_n (i := 0) (x := sv_r G 8 j) C dX2_moveUp_53 rfl rfl ?_
  refine sv_get_2_3 C hj kw_84 dX2_moveUp_54 ?_
  refine sv_iload_n (i := 1) (x := nI f) C dX2_moveUp_57 rfl rfl ?_
  refine sv_callN (as := [_, _]) (rest := [_, _]) C (met_atN j (4 * f + 61) rfl rfl (sv_okj (by decide) hj) rfl (by show _ < 7; omega)) fX5_at (host := "StairLight") kn_RX2_47 ⟨Nat.le_of_ble_eq_true rfl, Nat.le_of_ble_eq_true rfl⟩ (Nat.le_of_ble_eq_true rfl) dX2_moveUp_58 ⟨Nat.zero_le _, Nat.zero_le _⟩  ?_
  refine sv_ri (fun v58 e58 => ?_)
  refine sv_callN (as := [_, _, _]) (rest := []) C (met_putN j (4 * t + 61) rfl rfl (sv_okj (by decide) hj) rfl (by show _ < 7; omega)) fX5_put (host := "StairLight") kn_RX2_35 ⟨Nat.le_of_ble_eq_true rfl, Nat.le_of_ble_eq_true rfl⟩ (Nat.le_of_ble_eq_true rfl) dX2_moveUp_61 ⟨Nat.zero_le _, Nat.zero_le _⟩  ?_
  refine sv_rv ?_
  exact sv_vret C hr dX2_moveUp_64 (Nat.le_of_ble_eq_true rfl) (Nat.le_of_ble_eq_true rfl) (sv_eqW (by rw [e58, e42, e26, e10]; simp only [sv_wu, sv_us, sv_uu]; unfold mvv; simp only [upd_n (show 4 * f + 61 ≠ 4 * t + 58 by omega), upd_n (show 4 * f + 61 ≠ 4 * t + 59 by omega), upd_n (show 4 * f + 61 ≠ 4 * t + 60 by omega), upd_n (show 4 * f + 60 ≠ 4 * t + 58 by omega), upd_n (show 4 * f + 60 ≠ 4 * t + 59 by omega), upd_n (show 4 * f + 59 ≠ 4 * t + 58 by omega)]))

set_option maxHeartbeats 4000000 in
set_option maxRecDepth 100000 in
theorem met_walk (l : Launch) (G : sv_G) (z : Nat) (M : sv_M) (o : Int64) (j f : Nat) (hj : j < 8) (hf : f < 7) (T : Int32) : sv_Met l G yX2_walk cX2_walk 3 none 2 [.ref (sv_r G 8 j), .int (nI f), .int T] (sv_W G z M o) none (sv_W G z (sv_u M j (wkv T f (M j))) o) := by
  refine sv_ofW (by decide) kw_367 (Nat.le_of_ble_eq_true rfl) ?_
  intro p e s mth args below meth c hr C _
  refine sv_sub (lv' := [(0, .ref (sv_r G 8 j)), (1, .int (nI f)), (2, .int T)]) rfl ?_
  refine sv_aload_n (i := 0) (x := sv_r G 8 j) C dX2_walk_0 rfl rfl ?_
  refine sv_get_2_3 C hj kw_84 dX2_walk_1 ?_
  refine sv_iload_n (i := 1) (x := nI f) C dX2_walk_4 rfl rfl ?_
  refine sv_iconst (v := (-1)) C dX2_walk_5 (by decide) ?_
  refine sv_callN (as := [_, _, _]) (rest := []) C (met_raiseN j (4 * f + 61) rfl rfl (sv_okj (by decide) hj) rfl (by show _ < 7; omega)) fX5_raise (host := "StairLight") kn_RX2_58 ⟨Nat.le_of_ble_eq_true rfl, Nat.le_of_ble_eq_true rfl⟩ (Nat.le_of_ble_eq_true rfl) dX2_walk_6 ⟨Nat.zero_le _, Nat.zero_le _⟩  ?_
  refine sv_rv ?_
  refine sv_aload_n (i := 0) (x := sv_r G 8 j) C dX2_walk_9 rfl rfl ?_
  refine sv_get_2_3 C hj kw_84 dX2_walk_10 ?_
  refine sv_iload_n (i := 1) (x := nI f) C dX2_walk_13 rfl rfl ?_
  refine sv_callN (as := [_, _]) (rest := []) C (met_atN j (4 * f + 61) rfl rfl (sv_okj (by decide) hj) rfl (by show _ < 7; omega)) fX5_at (host := "StairLight") kn_RX2_47 ⟨Nat.le_of_ble_eq_true rfl, Nat.le_of_ble_eq_true rfl⟩ (Nat.le_of_ble_eq_true rfl) dX2_walk_14 ⟨Nat.zero_le _, Nat.zero_le _⟩  ?_
  refine sv_ri (fun v14 e14 => ?_)
  have e14 : v14 = M j (4 * f + 61) + (-1) := by rw [e14, sv_wu, sv_us, upd_s]
  rw [e14]
  refine sv_if_le C 21 dX2_walk_17 (by decide) (fun q17 => ?_) (fun q17 => ?_)
  · refine sv_aload_n (i := 0) (x := sv_r G 8 j) C dX2_walk_21 rfl rfl ?_
    refine sv_get_2_1 C hj kw_79 dX2_walk_22 ?_
    refine sv_iload_n (i := 1) (x := nI f) C dX2_walk_25 rfl rfl ?_
    refine sv_aload_n (i := 0) (x := sv_r G 8 j) C dX2_walk_26 rfl rfl ?_
    refine sv_get_2_2 C hj kw_82 dX2_walk_27 ?_
    refine sv_iload_n (i := 1) (x := nI f) C dX2_walk_30 rfl rfl ?_
    refine sv_callN (as := [_, _]) (rest := [_, _]) C (met_atN j (4 * f + 60) rfl rfl (sv_okj (by decide) hj) rfl (by show _ < 7; omega)) fX5_at (host := "StairLight") kn_RX2_47 ⟨Nat.le_of_ble_eq_true rfl, Nat.le_of_ble_eq_true rfl⟩ (Nat.le_of_ble_eq_true rfl) dX2_walk_31 ⟨Nat.zero_le _, Nat.zero_le _⟩  ?_
    refine sv_ri (fun v31 e31 => ?_)
    refine sv_aload_n (i := 0) (x := sv_r G 8 j) C dX2_walk_34 rfl rfl ?_
    refine sv_get_2_1 C hj kw_79 dX2_walk_35 ?_
    refine sv_iload_n (i := 1) (x := nI f) C dX2_walk_38 rfl rfl ?_
    refine sv_callN (as := [_, _]) (rest := [_, _, _]) C (met_atN j (4 * f + 59) rfl rfl (sv_okj (by decide) hj) rfl (by show _ < 7; omega)) fX5_at (host := "StairLight") kn_RX2_47 ⟨Nat.le_of_ble_eq_true rfl, Nat.le_of_ble_eq_true rfl⟩ (Nat.le_of_ble_eq_true rfl) dX2_walk_39 ⟨Nat.zero_le _, Nat.zero_le _⟩  ?_
    refine sv_ri (fun v39 e39 => ?_)
    have e31 : v31 = M j (4 * f + 60) := by rw [e31, sv_wu, sv_us, upd_n (by omega)]
    have e39 : v39 = M j (4 * f + 59) := by rw [e39, sv_wu, sv_us, upd_n (by omega)]
    rw [e31, e39]
    refine sv_icmp_le C 49 dX2_walk_42 (by decide) (fun q42 => ?_) (fun q42 => ?_)
    · refine sv_iconst (v := (-1)) C dX2_walk_49 (by decide) ?_
      refine sv_callN (as := [_, _, _]) (rest := []) C (met_raiseN j (4 * f + 59) rfl rfl (sv_okj (by decide) hj) rfl (by show _ < 7; omega)) fX5_raise (host := "StairLight") kn_RX2_58 ⟨Nat.le_of_ble_eq_true rfl, Nat.le_of_ble_eq_true rfl⟩ (Nat.le_of_ble_eq_true rfl) dX2_walk_50 ⟨Nat.zero_le _, Nat.zero_le _⟩  ?_
      refine sv_rv ?_
      refine sv_aload_n (i := 0) (x := sv_r G 8 j) C dX2_walk_53 rfl rfl ?_
      refine sv_get_2_3 C hj kw_84 dX2_walk_54 ?_
      refine sv_iload_n (i := 1) (x := nI f) C dX2_walk_57 rfl rfl ?_
      refine sv_aload_n (i := 0) (x := sv_r G 8 j) C dX2_walk_58 rfl rfl ?_
      refine sv_iload_n (i := 1) (x := nI f) C dX2_walk_59 rfl rfl ?_
      refine sv_callV (as := [_]) (rest := [_, _]) C (met_isThere l G _ _ _ j f hj (by omega)) fX2_isThere kw_360 (sv_recv8 C hj) ⟨Nat.le_of_ble_eq_true rfl, Nat.le_of_ble_eq_true rfl⟩ (Nat.le_of_ble_eq_true rfl) dX2_walk_60 ⟨Nat.zero_le _, Nat.zero_le _⟩  ?_
      refine sv_ri (fun v60 e60 => ?_)
      have h60 : v60 = (if M j (4 * f + 59) + (-1) = M j (4 * f + 60) then 1 else 0) := by rw [e60]; simp only [sv_wu, sv_us, sv_uu, upd_s, upd_n (show 4 * f + 59 ≠ 4 * f + 61 by omega), upd_n (show 4 * f + 60 ≠ 4 * f + 61 by omega), upd_n (show 4 * f + 60 ≠ 4 * f + 59 by omega), upd_n (show 4 * f + 61 ≠ 4 * f + 59 by omega)]
      refine sv_if_eq C 70 dX2_walk_63 (by decide) (fun q63 => ?_) (fun q63 => ?_)
      · have q63 : ¬ M j (4 * f + 59) + (-1) = M j (4 * f + 60) := by
          intro h
          rw [h60, if_pos h] at q63
          exact absurd q63 (by decide)
        refine sv_iload_n (i := 2) (x := T) C dX2_walk_70 rfl rfl ?_
        refine sv_callN (as := [_, _, _]) (rest := []) C (met_putN j (4 * f + 61) rfl rfl (sv_okj (by decide) hj) rfl (by show _ < 7; omega)) fX5_put (host := "StairLight") kn_RX2_35 ⟨Nat.le_of_ble_eq_true rfl, Nat.le_of_ble_eq_true rfl⟩ (Nat.le_of_ble_eq_true rfl) dX2_walk_71 ⟨Nat.zero_le _, Nat.zero_le _⟩  ?_
        refine sv_rv ?_
        exact sv_vret C hr dX2_walk_74 (Nat.le_of_ble_eq_true rfl) (Nat.le_of_ble_eq_true rfl) (sv_eqW (by unfold wkv; rw [if_pos q17]; simp only [if_pos q42]; simp only [sv_wu, sv_us, sv_uu, upd_s, upd_n (show 4 * f + 59 ≠ 4 * f + 61 by omega), upd_n (show 4 * f + 60 ≠ 4 * f + 61 by omega), upd_n (show 4 * f + 60 ≠ 4 * f + 59 by omega), upd_n (show 4 * f + 61 ≠ 4 * f + 59 by omega)]; simp only [if_neg q63, nI_one, nI_0]))
      · have q63 : M j (4 * f + 59) + (-1) = M j (4 * f + 60) := Decidable.byContradiction fun h => q63 (by rw [h60, if_neg h])
        refine sv_iconst (v := nI 0) C dX2_walk_66 (by decide) ?_
        refine sv_goto C 71 dX2_walk_67 (by decide) ?_
        refine sv_callN (as := [_, _, _]) (rest := []) C (met_putN j (4 * f + 61) rfl rfl (sv_okj (by decide) hj) rfl (by show _ < 7; omega)) fX5_put (host := "StairLight") kn_RX2_35 ⟨Nat.le_of_ble_eq_true rfl, Nat.le_of_ble_eq_true rfl⟩ (Nat.le_of_ble_eq_true rfl) dX2_walk_71 ⟨Nat.zero_le _, Nat.zero_le _⟩  ?_
        refine sv_rv ?_
        exact sv_vret C hr dX2_walk_74 (Nat.le_of_ble_eq_true rfl) (Nat.le_of_ble_eq_true rfl) (sv_eqW (by unfold wkv; rw [if_pos q17]; simp only [if_pos q42]; simp only [sv_wu, sv_us, sv_uu, upd_s, upd_n (show 4 * f + 59 ≠ 4 * f + 61 by omega), upd_n (show 4 * f + 60 ≠ 4 * f + 61 by omega), upd_n (show 4 * f + 60 ≠ 4 * f + 59 by omega), upd_n (show 4 * f + 61 ≠ 4 * f + 59 by omega)]; simp only [if_pos q63, nI_one, nI_0]))
    · refine sv_iconst (v := nI 1) C dX2_walk_45 (by decide) ?_
      refine sv_goto C 50 dX2_walk_46 (by decide) ?_
      refine sv_callN (as := [_, _, _]) (rest := []) C (met_raiseN j (4 * f + 59) rfl rfl (sv_okj (by decide) hj) rfl (by show _ < 7; omega)) fX5_raise (host := "StairLight") kn_RX2_58 ⟨Nat.le_of_ble_eq_true rfl, Nat.le_of_ble_eq_true rfl⟩ (Nat.le_of_ble_eq_true rfl) dX2_walk_50 ⟨Nat.zero_le _, Nat.zero_le _⟩  ?_
      refine sv_rv ?_
      refine sv_aload_n (i := 0) (x := sv_r G 8 j) C dX2_walk_53 rfl rfl ?_
      refine sv_get_2_3 C hj kw_84 dX2_walk_54 ?_
      refine sv_iload_n (i := 1) (x := nI f) C dX2_walk_57 rfl rfl ?_
      refine sv_aload_n (i := 0) (x := sv_r G 8 j) C dX2_walk_58 rfl rfl ?_
      refine sv_iload_n (i := 1) (x := nI f) C dX2_walk_59 rfl rfl ?_
      refine sv_callV (as := [_]) (rest := [_, _]) C (met_isThere l G _ _ _ j f hj (by omega)) fX2_isThere kw_360 (sv_recv8 C hj) ⟨Nat.le_of_ble_eq_true rfl, Nat.le_of_ble_eq_true rfl⟩ (Nat.le_of_ble_eq_true rfl) dX2_walk_60 ⟨Nat.zero_le _, Nat.zero_le _⟩  ?_
      refine sv_ri (fun v60 e60 => ?_)
      have h60 : v60 = (if M j (4 * f + 59) + nI 1 = M j (4 * f + 60) then 1 else 0) := by rw [e60]; simp only [sv_wu, sv_us, sv_uu, upd_s, upd_n (show 4 * f + 59 ≠ 4 * f + 61 by omega), upd_n (show 4 * f + 60 ≠ 4 * f + 61 by omega), upd_n (show 4 * f + 60 ≠ 4 * f + 59 by omega), upd_n (show 4 * f + 61 ≠ 4 * f + 59 by omega)]
      refine sv_if_eq C 70 dX2_walk_63 (by decide) (fun q63 => ?_) (fun q63 => ?_)
      · have q63 : ¬ M j (4 * f + 59) + nI 1 = M j (4 * f + 60) := by
          intro h
          rw [h60, if_pos h] at q63
          exact absurd q63 (by decide)
        refine sv_iload_n (i := 2) (x := T) C dX2_walk_70 rfl rfl ?_
        refine sv_callN (as := [_, _, _]) (rest := []) C (met_putN j (4 * f + 61) rfl rfl (sv_okj (by decide) hj) rfl (by show _ < 7; omega)) fX5_put (host := "StairLight") kn_RX2_35 ⟨Nat.le_of_ble_eq_true rfl, Nat.le_of_ble_eq_true rfl⟩ (Nat.le_of_ble_eq_true rfl) dX2_walk_71 ⟨Nat.zero_le _, Nat.zero_le _⟩  ?_
        refine sv_rv ?_
        exact sv_vret C hr dX2_walk_74 (Nat.le_of_ble_eq_true rfl) (Nat.le_of_ble_eq_true rfl) (sv_eqW (by unfold wkv; rw [if_pos q17]; simp only [if_neg q42]; simp only [sv_wu, sv_us, sv_uu, upd_s, upd_n (show 4 * f + 59 ≠ 4 * f + 61 by omega), upd_n (show 4 * f + 60 ≠ 4 * f + 61 by omega), upd_n (show 4 * f + 60 ≠ 4 * f + 59 by omega), upd_n (show 4 * f + 61 ≠ 4 * f + 59 by omega)]; simp only [nI_one, nI_0]; rw [if_neg (show ¬ M j (4 * f + 59) + (1 : Int32) = M j (4 * f + 60) from q63)]))
      · have q63 : M j (4 * f + 59) + nI 1 = M j (4 * f + 60) := Decidable.byContradiction fun h => q63 (by rw [h60, if_neg h])
        refine sv_iconst (v := nI 0) C dX2_walk_66 (by decide) ?_
        refine sv_goto C 71 dX2_walk_67 (by decide) ?_
        refine sv_callN (as := [_, _, _]) (rest := []) C (met_putN j (4 * f + 61) rfl rfl (sv_okj (by decide) hj) rfl (by show _ < 7; omega)) fX5_put (host := "StairLight") kn_RX2_35 ⟨Nat.le_of_ble_eq_true rfl, Nat.le_of_ble_eq_true rfl⟩ (Nat.le_of_ble_eq_true rfl) dX2_walk_71 ⟨Nat.zero_le _, Nat.zero_le _⟩  ?_
        refine sv_rv ?_
        exact sv_vret C hr dX2_walk_74 (Nat.le_of_ble_eq_true rfl) (Nat.le_of_ble_eq_true rfl) (sv_eqW (by unfold wkv; rw [if_pos q17]; simp only [if_neg q42]; simp only [sv_wu, sv_us, sv_uu, upd_s, upd_n (show 4 * f + 59 ≠ 4 * f + 61 by omega), upd_n (show 4 * f + 60 ≠ 4 * f + 61 by omega), upd_n (show 4 * f + 60 ≠ 4 * f + 59 by omega), upd_n (show 4 * f + 61 ≠ 4 * f + 59 by omega)]; simp only [nI_one, nI_0]; rw [if_pos (show  M j (4 * f + 59) + (1 : Int32) = M j (4 * f + 60) from q63)]))
  · exact sv_vret C hr dX2_walk_20 (Nat.le_of_ble_eq_true rfl) (Nat.le_of_ble_eq_true rfl) (sv_eqW (by unfold wkv; rw [if_neg q17, sv_wu]))

theorem goS_le (T : Int32) (x : vX) : ∀ n, (goS T n x).2 ≤ n
  | 0 => Nat.le_refl 0
  | n + 1 => by
    have h := goS_le T x n
    show (goB T n (goS T n x)).2 ≤ n + 1
    unfold goB
    split
    · omega
    · show (goS T n x).2 + 1 ≤ n + 1
      omega
theorem wkv_o {T : Int32} {p : Nat} {x : vX} {k : Nat} (h : k ≠ 4 * p + 59) (h2 : k ≠ 4 * p + 61) : wkv T p x k = x k := by
  unfold wkv
  split
  · rw [upd_n h2, upd_n h, upd_n h2]
  · rw [upd_n h2]
theorem mvv_o {p s : Nat} {x : vX} {k : Nat} (h : k < 4 * s + 58 ∨ 4 * s + 62 ≤ k) : mvv p s x k = x k := by
  unfold mvv
  rw [upd_n (by omega), upd_n (by omega), upd_n (by omega), upd_n (by omega)]
theorem goS_o (T : Int32) (x : vX) (k : Nat) (h : k < 58) : ∀ n, (goS T n x).1 k = x k
  | 0 => rfl
  | n + 1 => by
    have ih := goS_o T x k h n
    show (goB T n (goS T n x)).1 k = x k
    unfold goB
    split
    · exact ih
    · show mvv n _ (wkv T n _) k = x k
      rw [mvv_o (by omega), wkv_o (by omega) (by omega)]
      exact ih
set_option maxHeartbeats 4000000 in
set_option maxRecDepth 100000 in
theorem met_goOn (l : Launch) (G : sv_G) (z : Nat) (M : sv_M) (o : Int64) (j : Nat) (hj : j < 8) (T : Int32) (m : Nat) (hm : M j 57 = nI m) (hm7 : m ≤ 7) : sv_Met l G yX2_goOn cX2_goOn 4 none 3 [.ref (sv_r G 8 j), .int T] (sv_W G z M o) none (sv_W G z (sv_u M j (goOnv T m (M j))) o) := by
  refine sv_ofW (by decide) kw_359 (Nat.le_of_ble_eq_true rfl) ?_
  intro p e s mth args below meth c hr C _
  refine sv_sub (lv' := [(0, .ref (sv_r G 8 j)), (1, .int T)]) rfl ?_
  refine sv_iconst (v := nI 0) C dX2_goOn_0 (by decide) ?_
  refine sv_istore_n (i := 2) C [(0, .ref (sv_r G 8 j)), (1, .int T), (2, .int (nI 0))] dX2_goOn_1 rfl (by decide) rfl ?_
  refine sv_iconst (v := nI 0) C dX2_goOn_2 (by decide) ?_
  refine sv_istore_n (i := 3) C [(0, .ref (sv_r G 8 j)), (1, .int T), (2, .int (nI 0)), (3, .int (nI 0))] dX2_goOn_3 rfl (by decide) rfl ?_
  refine sv_wd (sv_eqW (sv_ui _ j).symm) ?_
  refine sv_loop (N := m) (I := fun _ => True) (Wf := fun i => sv_W G z (sv_u M j (goS T i (M j)).1) o) (Lf := fun i => [(0, .ref (sv_r G 8 j)), (1, .int T), (2, .int (nI ((goS T i (M j)).2))), (3, .int (nI i))]) 0 (Nat.zero_le _) trivial (fun i hi0 hi hI ih => ?_)
  refine sv_iload_n (i := 3) (x := nI i) C dX2_goOn_4 rfl rfl ?_
  refine sv_aload_n (i := 0) (x := sv_r G 8 j) C dX2_goOn_5 rfl rfl ?_
  refine sv_get_2_4 C hj kw_85 dX2_goOn_6 ?_
  refine sv_set (v' := .int (nI m)) (congrArg Value.int (by rw [sv_us, goS_o T _ 57 (by decide)]; exact hm)) ?_
  have hle := goS_le T (M j) i
  refine sv_icmp_geN C 41 dX2_goOn_9 (by decide) (by omega) (by omega) (fun q9 => ?_) (fun q9 => ?_)
  · refine sv_aload_n (i := 0) (x := sv_r G 8 j) C dX2_goOn_41 rfl rfl ?_
    refine sv_iload_n (i := 2) (x := nI ((goS T i (M j)).2)) C dX2_goOn_42 rfl rfl ?_
    refine sv_put_2_4 C hj kw_85 dX2_goOn_43 ?_
    exact sv_vret C hr dX2_goOn_46 (Nat.le_of_ble_eq_true rfl) (Nat.le_of_ble_eq_true rfl) (sv_eqW (by rw [show i = m from by omega, sv_wu, sv_us, sv_uu]; rfl))
  · refine sv_aload_n (i := 0) (x := sv_r G 8 j) C dX2_goOn_12 rfl rfl ?_
    refine sv_iload_n (i := 3) (x := nI i) C dX2_goOn_13 rfl rfl ?_
    refine sv_callV (as := [_]) (rest := []) C (met_isThere l G _ _ _ j i hj (by omega)) fX2_isThere kw_360 (sv_recv8 C hj) ⟨Nat.le_of_ble_eq_true rfl, Nat.le_of_ble_eq_true rfl⟩ (Nat.le_of_ble_eq_true rfl) dX2_goOn_14 ⟨Nat.zero_le _, Nat.zero_le _⟩  ?_
    refine sv_ri (fun v14 e14 => ?_)
    refine sv_if_ne C 35 dX2_goOn_17 (by decide) (fun q17 => ?_) (fun q17 => ?_)
    · refine sv_iinc (i := 3) (x := nI i) C (nI (i + 1)) [(0, .ref (sv_r G 8 j)), (1, .int T), (2, .int (nI ((goS T i (M j)).2))), (3, .int (nI (i + 1)))] dX2_goOn_35 rfl (sv_incN i 1) (by decide) rfl ?_
      refine sv_goto C 4 dX2_goOn_38 (by decide) ?_
      have hn : goS T (i + 1) (M j) = goS T i (M j) := by
        show goB T i (goS T i (M j)) = _
        unfold goB
        exact if_pos (by rw [e14, sv_us] at q17; exact Decidable.byContradiction fun h => q17 (if_neg h))
      have h9 := ih (by omega) trivial
      rw [hn] at h9
      exact h9
    · refine sv_aload_n (i := 0) (x := sv_r G 8 j) C dX2_goOn_20 rfl rfl ?_
      refine sv_iload_n (i := 3) (x := nI i) C dX2_goOn_21 rfl rfl ?_
      refine sv_iload_n (i := 1) (x := T) C dX2_goOn_22 rfl rfl ?_
      refine sv_callV (as := [_, _]) (rest := []) C (met_walk l G _ _ _ j i hj (by omega) T) fX2_walk kw_364 (sv_recv8 C hj) ⟨Nat.le_of_ble_eq_true rfl, Nat.le_of_ble_eq_true rfl⟩ (Nat.le_of_ble_eq_true rfl) dX2_goOn_23 ⟨Nat.zero_le _, Nat.zero_le _⟩  ?_
      refine sv_rv ?_
      refine sv_aload_n (i := 0) (x := sv_r G 8 j) C dX2_goOn_26 rfl rfl ?_
      refine sv_iload_n (i := 3) (x := nI i) C dX2_goOn_27 rfl rfl ?_
      refine sv_iload_n (i := 2) (x := nI ((goS T i (M j)).2)) C dX2_goOn_28 rfl rfl ?_
      refine sv_callV (as := [_, _]) (rest := []) C (met_moveUp l G _ _ _ j i ((goS T i (M j)).2) hj (by omega) (by omega)) fX2_moveUp kw_374 (sv_recv8 C hj) ⟨Nat.le_of_ble_eq_true rfl, Nat.le_of_ble_eq_true rfl⟩ (Nat.le_of_ble_eq_true rfl) dX2_goOn_29 ⟨Nat.zero_le _, Nat.zero_le _⟩  ?_
      refine sv_rv ?_
      refine sv_iinc (i := 2) (x := nI ((goS T i (M j)).2)) C (nI ((goS T i (M j)).2 + 1)) [(0, .ref (sv_r G 8 j)), (1, .int T), (2, .int (nI ((goS T i (M j)).2 + 1))), (3, .int (nI i))] dX2_goOn_32 rfl (sv_incN ((goS T i (M j)).2) 1) (by decide) rfl ?_
      refine sv_iinc (i := 3) (x := nI i) C (nI (i + 1)) [(0, .ref (sv_r G 8 j)), (1, .int T), (2, .int (nI ((goS T i (M j)).2 + 1))), (3, .int (nI (i + 1)))] dX2_goOn_35 rfl (sv_incN i 1) (by decide) rfl ?_
      refine sv_goto C 4 dX2_goOn_38 (by decide) ?_
      have hn : goS T (i + 1) (M j) = (mvv i (goS T i (M j)).2 (wkv T i (goS T i (M j)).1), (goS T i (M j)).2 + 1) := by
        show goB T i (goS T i (M j)) = _
        unfold goB
        exact if_neg (by rw [e14, sv_us] at q17; intro h; rw [if_pos h] at q17; exact absurd q17 (by decide))
      have h9 := ih (by omega) trivial
      rw [hn] at h9
      refine sv_wd (sv_eqW ?_) h9
      simp only [sv_us, sv_uu]

set_option maxHeartbeats 4000000 in
set_option maxRecDepth 100000 in
theorem met_enter (l : Launch) (G : sv_G) (z : Nat) (M : sv_M) (o : Int64) (j : Nat) (hj : j < 8) (f t T : Int32) (m : Nat) (hm : M j 57 = nI m) (hm6 : m < 7) : sv_Met l G yX2_enter cX2_enter 5 (some .int) 3 [.ref (sv_r G 8 j), .int f, .int t, .int T] (sv_W G z M o) (some (.int (M j 5))) (sv_W G z (sv_u M j (entv m f t T (M j))) o) := by
  refine sv_ofW (by decide) kw_425 (Nat.le_of_ble_eq_true rfl) ?_
  intro p e s mth args below meth c hr C _
  refine sv_sub (lv' := [(0, .ref (sv_r G 8 j)), (1, .int f), (2, .int t), (3, .int T)]) rfl ?_
  refine sv_aload_n (i := 0) (x := sv_r G 8 j) C dX2_enter_0 rfl rfl ?_
  refine sv_get_2_4 C hj kw_85 dX2_enter_1 ?_
  refine sv_set (v' := .int (nI m)) (congrArg Value.int hm) ?_
  refine sv_aload_n (i := 0) (x := sv_r G 8 j) C dX2_enter_4 rfl rfl ?_
  refine sv_get_2_0 C hj kw_78 dX2_enter_5 ?_
  refine sv_alen (v := nI 7) C (sv_okj (by decide) hj) rfl rfl dX2_enter_8 ?_
  refine sv_icmp_ltN C 14 dX2_enter_9 (by decide) (by omega) (by omega) (fun q9 => ?_) (fun q9 => ?_)
  · refine sv_aload_n (i := 0) (x := sv_r G 8 j) C dX2_enter_14 rfl rfl ?_
    refine sv_get_2_5 C hj kw_88 dX2_enter_15 ?_
    refine sv_topi (fun v15 e15 => ?_)
    refine sv_istore (i := 4) C [(0, .ref (sv_r G 8 j)), (1, .int f), (2, .int t), (3, .int T), (4, .int v15)] dX2_enter_18 (by decide) rfl ?_
    refine sv_aload_n (i := 0) (x := sv_r G 8 j) C dX2_enter_20 rfl rfl ?_
    refine sv_get_2_0 C hj kw_78 dX2_enter_21 ?_
    refine sv_aload_n (i := 0) (x := sv_r G 8 j) C dX2_enter_24 rfl rfl ?_
    refine sv_get_2_4 C hj kw_85 dX2_enter_25 ?_
    refine sv_set (v' := .int (nI m)) (congrArg Value.int hm) ?_
    refine sv_iload (i := 4) (x := v15) C dX2_enter_28 rfl ?_
    refine sv_callN (as := [_, _, _]) (rest := []) C (met_putN j (4 * m + 58) rfl rfl (sv_okj (by decide) hj) rfl (by show _ < 7; omega)) fX5_put (host := "StairLight") kn_RX2_35 ⟨Nat.le_of_ble_eq_true rfl, Nat.le_of_ble_eq_true rfl⟩ (Nat.le_of_ble_eq_true rfl) dX2_enter_30 ⟨Nat.zero_le _, Nat.zero_le _⟩  ?_
    refine sv_rv ?_
    refine sv_aload_n (i := 0) (x := sv_r G 8 j) C dX2_enter_33 rfl rfl ?_
    refine sv_get_2_1 C hj kw_79 dX2_enter_34 ?_
    refine sv_aload_n (i := 0) (x := sv_r G 8 j) C dX2_enter_37 rfl rfl ?_
    refine sv_get_2_4 C hj kw_85 dX2_enter_38 ?_
    refine sv_set (v' := .int (nI m)) (congrArg Value.int (by rw [sv_wu, sv_us, upd_n (by omega)]; exact hm)) ?_
    refine sv_iload_n (i := 1) (x := f) C dX2_enter_41 rfl rfl ?_
    refine sv_callN (as := [_, _, _]) (rest := []) C (met_putN j (4 * m + 59) rfl rfl (sv_okj (by decide) hj) rfl (by show _ < 7; omega)) fX5_put (host := "StairLight") kn_RX2_35 ⟨Nat.le_of_ble_eq_true rfl, Nat.le_of_ble_eq_true rfl⟩ (Nat.le_of_ble_eq_true rfl) dX2_enter_42 ⟨Nat.zero_le _, Nat.zero_le _⟩  ?_
    refine sv_rv ?_
    refine sv_aload_n (i := 0) (x := sv_r G 8 j) C dX2_enter_45 rfl rfl ?_
    refine sv_aload_n (i := 0) (x := sv_r G 8 j) C dX2_enter_46 rfl rfl ?_
    refine sv_get_2_4 C hj kw_85 dX2_enter_47 ?_
    refine sv_set (v' := .int (nI m)) (congrArg Value.int (by simp only [sv_wu, sv_us, sv_uu]; rw [upd_n (by omega), upd_n (by omega)]; exact hm)) ?_
    refine sv_iload_n (i := 2) (x := t) C dX2_enter_50 rfl rfl ?_
    refine sv_iload_n (i := 3) (x := T) C dX2_enter_51 rfl rfl ?_
    refine sv_callV (as := [_, _, _]) (rest := []) C (met_sendTo l G _ _ _ j m hj (by omega) t T) fX2_sendTo kw_426 (sv_recv8 C hj) ⟨Nat.le_of_ble_eq_true rfl, Nat.le_of_ble_eq_true rfl⟩ (Nat.le_of_ble_eq_true rfl) dX2_enter_52 ⟨Nat.zero_le _, Nat.zero_le _⟩  ?_
    refine sv_rv ?_
    refine sv_aload_n (i := 0) (x := sv_r G 8 j) C dX2_enter_55 rfl rfl ?_
    refine sv_dup C dX2_enter_56 rfl ?_
    refine sv_get_2_4 C hj kw_85 dX2_enter_57 ?_
    refine sv_set (v' := .int (nI m)) (congrArg Value.int (by simp only [sv_wu, sv_us, sv_uu]; rw [upd_n (by omega), upd_n (by omega), upd_n (by omega), upd_n (by omega)]; exact hm)) ?_
    refine sv_iconst (v := nI 1) C dX2_enter_60 (by decide) ?_
    refine sv_iadd C dX2_enter_61 ?_
    refine sv_set (v' := .int (nI (m + 1))) (congrArg Value.int (nI_add _ _)) ?_
    refine sv_put_2_4 C hj kw_85 dX2_enter_62 ?_
    refine sv_aload_n (i := 0) (x := sv_r G 8 j) C dX2_enter_65 rfl rfl ?_
    refine sv_dup C dX2_enter_66 rfl ?_
    refine sv_get_2_5 C hj kw_88 dX2_enter_67 ?_
    refine sv_topi (fun v67 e67 => ?_)
    refine sv_iconst (v := nI 1) C dX2_enter_70 (by decide) ?_
    refine sv_iadd C dX2_enter_71 ?_
    refine sv_topi (fun v71 e71 => ?_)
    refine sv_put_2_5 C hj kw_88 dX2_enter_72 ?_
    refine sv_iload (i := 4) (x := v15) C dX2_enter_75 rfl ?_
    exact sv_iret C hr dX2_enter_77 (Nat.le_of_ble_eq_true rfl) (Nat.le_of_ble_eq_true rfl) e15 (sv_eqW (by rw [e71, e67, e15]; simp only [sv_wu, sv_us, sv_uu]; unfold entv; simp only [upd_s, upd_n (show 5 ≠ 57 by decide), upd_n (show 5 ≠ 4 * m + 61 by omega), upd_n (show 5 ≠ 4 * m + 60 by omega), upd_n (show 5 ≠ 4 * m + 59 by omega), upd_n (show 5 ≠ 4 * m + 58 by omega)]; rfl))
  · exact absurd q9 (by omega)

set_option maxHeartbeats 4000000 in
set_option maxRecDepth 100000 in
theorem met_personNumber (l : Launch) (G : sv_G) (z : Nat) (M : sv_M) (o : Int64) (j f w9 : Nat) (hj : j < 8) (hf : f < 2147483648) (hw9 : w9 < 4) (m : Nat) (hm : M j 57 = nI m) (hm7 : m ≤ 7) : sv_Met l G yX2_personNumber cX2_personNumber 3 (some .int) 1 [.ref (sv_r G 8 j), .int (nI f), .int (nI w9)] (sv_W G z M o) (some (.int (if f < m then M j (4 * f + 58 + w9) else (-1)))) (sv_W G z M o) := by
  refine sv_ofW (by decide) kw_456 (Nat.le_of_ble_eq_true rfl) ?_
  intro p e s mth args below meth c hr C _
  refine sv_sub (lv' := [(0, .ref (sv_r G 8 j)), (1, .int (nI f)), (2, .int (nI w9))]) rfl ?_
  refine sv_iload_n (i := 1) (x := nI f) C dX2_personNumber_0 rfl rfl ?_
  refine sv_aload_n (i := 0) (x := sv_r G 8 j) C dX2_personNumber_1 rfl rfl ?_
  refine sv_get_2_4 C hj kw_85 dX2_personNumber_2 ?_
  refine sv_set (v' := .int (nI m)) (congrArg Value.int hm) ?_
  refine sv_icmp_ltN C 10 dX2_personNumber_5 (by decide) (by omega) (by omega) (fun q5 => ?_) (fun q5 => ?_)
  · refine sv_iload_n (i := 2) (x := nI w9) C dX2_personNumber_10 rfl rfl ?_
    rcases (show w9 = 0 ∨ w9 = 1 ∨ w9 = 2 ∨ w9 = 3 by omega) with rfl | rfl | rfl | rfl
    · refine sv_tableIn (off := 25) C 36 dX2_personNumber_11 (by decide) (by decide) (by decide) (by decide) ?_
      refine sv_aload_n (i := 0) (x := sv_r G 8 j) C dX2_personNumber_36 rfl rfl ?_
      refine sv_get_2_0 C hj kw_78 dX2_personNumber_37 ?_
      refine sv_iload_n (i := 1) (x := nI f) C dX2_personNumber_40 rfl rfl ?_
      refine sv_callN (as := [_, _]) (rest := []) C (met_atN j (4 * f + 58) rfl rfl (sv_okj (by decide) hj) rfl (by show _ < 7; omega)) fX5_at (host := "StairLight") kn_RX2_47 ⟨Nat.le_of_ble_eq_true rfl, Nat.le_of_ble_eq_true rfl⟩ (Nat.le_of_ble_eq_true rfl) dX2_personNumber_41 ⟨Nat.zero_le _, Nat.zero_le _⟩  ?_
      refine sv_ri (fun v41 e41 => ?_)
      exact sv_iret C hr dX2_personNumber_44 (Nat.le_of_ble_eq_true rfl) (Nat.le_of_ble_eq_true rfl) (by rw [e41, if_pos q5]) (fun _ h => h)
    · refine sv_tableIn (off := 34) C 45 dX2_personNumber_11 (by decide) (by decide) (by decide) (by decide) ?_
      refine sv_aload_n (i := 0) (x := sv_r G 8 j) C dX2_personNumber_45 rfl rfl ?_
      refine sv_get_2_1 C hj kw_79 dX2_personNumber_46 ?_
      refine sv_iload_n (i := 1) (x := nI f) C dX2_personNumber_49 rfl rfl ?_
      refine sv_callN (as := [_, _]) (rest := []) C (met_atN j (4 * f + 59) rfl rfl (sv_okj (by decide) hj) rfl (by show _ < 7; omega)) fX5_at (host := "StairLight") kn_RX2_47 ⟨Nat.le_of_ble_eq_true rfl, Nat.le_of_ble_eq_true rfl⟩ (Nat.le_of_ble_eq_true rfl) dX2_personNumber_50 ⟨Nat.zero_le _, Nat.zero_le _⟩  ?_
      refine sv_ri (fun v50 e50 => ?_)
      exact sv_iret C hr dX2_personNumber_53 (Nat.le_of_ble_eq_true rfl) (Nat.le_of_ble_eq_true rfl) (by rw [e50, if_pos q5]) (fun _ h => h)
    · refine sv_tableIn (off := 43) C 54 dX2_personNumber_11 (by decide) (by decide) (by decide) (by decide) ?_
      refine sv_aload_n (i := 0) (x := sv_r G 8 j) C dX2_personNumber_54 rfl rfl ?_
      refine sv_get_2_2 C hj kw_82 dX2_personNumber_55 ?_
      refine sv_iload_n (i := 1) (x := nI f) C dX2_personNumber_58 rfl rfl ?_
      refine sv_callN (as := [_, _]) (rest := []) C (met_atN j (4 * f + 60) rfl rfl (sv_okj (by decide) hj) rfl (by show _ < 7; omega)) fX5_at (host := "StairLight") kn_RX2_47 ⟨Nat.le_of_ble_eq_true rfl, Nat.le_of_ble_eq_true rfl⟩ (Nat.le_of_ble_eq_true rfl) dX2_personNumber_59 ⟨Nat.zero_le _, Nat.zero_le _⟩  ?_
      refine sv_ri (fun v59 e59 => ?_)
      exact sv_iret C hr dX2_personNumber_62 (Nat.le_of_ble_eq_true rfl) (Nat.le_of_ble_eq_true rfl) (by rw [e59, if_pos q5]) (fun _ h => h)
    · refine sv_tableOut C 63 dX2_personNumber_11 (Or.inr (by decide)) (by decide) ?_
      refine sv_aload_n (i := 0) (x := sv_r G 8 j) C dX2_personNumber_63 rfl rfl ?_
      refine sv_get_2_3 C hj kw_84 dX2_personNumber_64 ?_
      refine sv_iload_n (i := 1) (x := nI f) C dX2_personNumber_67 rfl rfl ?_
      refine sv_callN (as := [_, _]) (rest := []) C (met_atN j (4 * f + 61) rfl rfl (sv_okj (by decide) hj) rfl (by show _ < 7; omega)) fX5_at (host := "StairLight") kn_RX2_47 ⟨Nat.le_of_ble_eq_true rfl, Nat.le_of_ble_eq_true rfl⟩ (Nat.le_of_ble_eq_true rfl) dX2_personNumber_68 ⟨Nat.zero_le _, Nat.zero_le _⟩  ?_
      refine sv_ri (fun v68 e68 => ?_)
      exact sv_iret C hr dX2_personNumber_71 (Nat.le_of_ble_eq_true rfl) (Nat.le_of_ble_eq_true rfl) (by rw [e68, if_pos q5]) (fun _ h => h)
  · refine sv_iconst (v := (-1)) C dX2_personNumber_8 (by decide) ?_
    exact sv_iret C hr dX2_personNumber_9 (Nat.le_of_ble_eq_true rfl) (Nat.le_of_ble_eq_true rfl) (by rw [if_neg q5]) (fun _ h => h)

