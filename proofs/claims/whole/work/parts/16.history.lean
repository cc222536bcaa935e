theorem met_S_copy (l : Launch) (G : sv_G) (z : Nat) (M : sv_M) (o : Int64) (j1 j2 : Nat) (h1 : j1 < 8) (h2 : j2 < 8) (hne : j1 ≠ j2) (b6 : M j1 6 = 0 ∨ M j1 6 = 1) (b7 : M j1 7 = 0 ∨ M j1 7 = 1) : sv_Met l G yX3_copyFrom cX3_copyFrom 2 none 2 [.ref (sv_r G 0 j2), .ref (sv_r G 0 j1)] (sv_W G z M o) none (sv_W G z (sv_u M j2 (M j1)) o) := sv_Met_post (met_S_copyFrom l G z M o j1 j2 h1 h2 hne b6 b7) (fun H h => h.cpS h2)
set_option maxHeartbeats 4000000 in
set_option maxRecDepth 100000 in
theorem met_stateAt (l : Launch) (G : sv_G) (z : Nat) (M : sv_M) (o : Int64) (k : Nat) (hk : k < 6) : sv_Met l G yX1_stateAt cX1_stateAt 2 (some (.object "StairLight$Stairs")) 0 [.ref (sv_r G 15 0), .int (nI k)] (sv_W G z M o) (some (.ref (sv_r G 0 (2 + k)))) (sv_W G z M o) := by
  refine sv_ofW (by decide) kw_217 (Nat.le_of_ble_eq_true rfl) ?_
  intro p e s mth args below meth c hr C _
  refine sv_sub (lv' := [(0, .ref (sv_r G 15 0)), (1, .int (nI k))]) rfl ?_
  refine sv_iload_n (i := 1) (x := nI k) C dX1_stateAt_0 rfl rfl ?_
  refine sv_if_lt C 22 dX1_stateAt_1 (by decide) (fun q1 => ?_) (fun q1 => ?_)
  · exact absurd q1 (nI_pos (by omega))
  · refine sv_iload_n (i := 1) (x := nI k) C dX1_stateAt_4 rfl rfl ?_
    refine sv_aload_n (i := 0) (x := sv_r G 15 0) C dX1_stateAt_5 rfl rfl ?_
    refine sv_get_1_0 C kw_167 dX1_stateAt_6 ?_
    refine sv_alenS (v := nI 6) C rfl dX1_stateAt_9 ?_
    refine sv_icmp_geN C 22 dX1_stateAt_10 (by decide) (by omega) (by omega) (fun q10 => ?_) (fun q10 => ?_)
    · exact absurd q10 (by omega)
    · refine sv_aload_n (i := 0) (x := sv_r G 15 0) C dX1_stateAt_13 rfl rfl ?_
      refine sv_get_1_0 C kw_167 dX1_stateAt_14 ?_
      refine sv_iload_n (i := 1) (x := nI k) C dX1_stateAt_17 rfl rfl ?_
      refine sv_aldq C (vp_in_nI (by omega) (by decide)) dX1_stateAt_18 ?_
      refine sv_set (v' := .ref (sv_r G 0 (2 + k))) (by rw [nI_clamp (by omega)]) ?_
      refine sv_goto C 23 dX1_stateAt_19 (by decide) ?_
      exact sv_aret C hr (Or.inl ⟨_, rfl⟩) dX1_stateAt_23 (Nat.le_of_ble_eq_true rfl) (Nat.le_of_ble_eq_true rfl) rfl (fun _ h => h)

set_option maxHeartbeats 4000000 in
set_option maxRecDepth 100000 in
theorem met_save_lo (l : Launch) (G : sv_G) (z : Nat) (M : sv_M) (o : Int64) (od hd k : Nat) (hod : od < 6) (h0 : M 8 0 = nI od) (h1 : M 8 1 = nI hd) (hhd : hd < 6) (hk : k = (od + hd) % 6) (b6 : M 0 6 = 0 ∨ M 0 6 = 1) (b7 : M 0 7 = 0 ∨ M 0 7 = 1) : sv_Met l G yX1_save cX1_save 3 none 3 [.ref (sv_r G 15 0), .ref (sv_r G 0 0)] (sv_W G z M o) none (sv_W G z (svM od (hd + 1) k M) o) := by
  refine sv_ofW (by decide) kw_213 (Nat.le_of_ble_eq_true rfl) ?_
  intro p e s mth args below meth c hr C _
  refine sv_sub (lv' := [(0, .ref (sv_r G 15 0)), (1, .ref (sv_r G 0 0))]) rfl ?_
  refine sv_aload_n (i := 0) (x := sv_r G 15 0) C dX1_save_0 rfl rfl ?_
  refine sv_get_1_2 C kw_169 dX1_save_1 ?_
  refine sv_set (v' := .int (nI hd)) (congrArg Value.int h1) ?_
  refine sv_bipush (v := nI 6) C dX1_save_4 (by decide) ?_
  refine sv_icmp_ltN C 32 dX1_save_6 (by decide) (by omega) (by omega) (fun q6 => ?_) (fun q6 => ?_)
  · refine sv_aload_n (i := 0) (x := sv_r G 15 0) C dX1_save_32 rfl rfl ?_
    refine sv_aload_n (i := 0) (x := sv_r G 15 0) C dX1_save_33 rfl rfl ?_
    refine sv_get_1_1 C kw_168 dX1_save_34 ?_
    refine sv_set (v' := .int (nI od)) (congrArg Value.int h0) ?_
    refine sv_aload_n (i := 0) (x := sv_r G 15 0) C dX1_save_37 rfl rfl ?_
    refine sv_get_1_2 C kw_169 dX1_save_38 ?_
    refine sv_set (v' := .int (nI hd)) (congrArg Value.int h1) ?_
    refine sv_iadd C dX1_save_41 ?_
    refine sv_set (v' := .int (nI (od + hd))) (congrArg Value.int (nI_add _ _)) ?_
    refine sv_bipush (v := nI 6) C dX1_save_42 (by decide) ?_
    refine sv_irem C dX1_save_44 (by decide) ?_
    refine sv_set (v' := .int (nI k)) (congrArg Value.int (by rw [hk]; exact pk_rem (d := 6) (by omega) (by decide) (by decide))) ?_
    refine sv_callV (as := [_]) (rest := []) C (met_stateAt l G _ _ _ k (by omega)) fX1_stateAt kw_214 (sv_recv15 C) ⟨Nat.le_of_ble_eq_true rfl, Nat.le_of_ble_eq_true rfl⟩ (Nat.le_of_ble_eq_true rfl) dX1_save_45 ⟨Nat.zero_le _, Nat.zero_le _⟩  ?_
    refine sv_ra ?_
    
    refine sv_astore_n (i := 2) C [(0, .ref (sv_r G 15 0)), (1, .ref (sv_r G 0 0)), (2, .ref (sv_r G 0 (2 + k)))] dX1_save_48 rfl (by decide) rfl ?_
    refine sv_aload_n (i := 2) (x := sv_r G 0 (2 + k)) C dX1_save_49 rfl rfl ?_
    refine sv_ifnull C dX1_save_50 ?_
    refine sv_aload_n (i := 2) (x := sv_r G 0 (2 + k)) C dX1_save_53 rfl rfl ?_
    refine sv_aload_n (i := 1) (x := sv_r G 0 0) C dX1_save_54 rfl rfl ?_
    refine sv_callV (as := [_]) (rest := []) C (met_S_copy l G _ _ _ 0 (2 + k) (by decide) (by omega) (by omega) b6 b7) fX3_copyFrom kw_218 (sv_recv0 C (by omega)) ⟨Nat.le_of_ble_eq_true rfl, Nat.le_of_ble_eq_true rfl⟩ (Nat.le_of_ble_eq_true rfl) dX1_save_55 ⟨Nat.zero_le _, Nat.zero_le _⟩  ?_
    refine sv_rv ?_
    refine sv_aload_n (i := 0) (x := sv_r G 15 0) C dX1_save_58 rfl rfl ?_
    refine sv_dup C dX1_save_59 rfl ?_
    refine sv_get_1_2 C kw_169 dX1_save_60 ?_
    refine sv_set (v' := .int (nI hd)) (congrArg Value.int (by rw [sv_un (by omega)]; exact h1)) ?_
    refine sv_iconst (v := nI 1) C dX1_save_63 (by decide) ?_
    refine sv_iadd C dX1_save_64 ?_
    refine sv_set (v' := .int (nI (hd + 1))) (congrArg Value.int (nI_add _ _)) ?_
    refine sv_put_1_2 C kw_169 dX1_save_65 ?_
    exact sv_vret C hr dX1_save_68 (Nat.le_of_ble_eq_true rfl) (Nat.le_of_ble_eq_true rfl) (sv_eqW (by unfold svM; rw [sv_wu, sv_un (show 8 ≠ 2 + k by omega), sv_uc (by omega), ← h0, upd_i]))
  · exact absurd q6 (by omega)

set_option maxHeartbeats 4000000 in
set_option maxRecDepth 100000 in
theorem met_save_hi (l : Launch) (G : sv_G) (z : Nat) (M : sv_M) (o : Int64) (od hd k : Nat) (hod : od < 6) (h0 : M 8 0 = nI od) (h1 : M 8 1 = nI hd) (hhd : hd = 6) (hk : k = od) (b6 : M 0 6 = 0 ∨ M 0 6 = 1) (b7 : M 0 7 = 0 ∨ M 0 7 = 1) : sv_Met l G yX1_save cX1_save 3 none 3 [.ref (sv_r G 15 0), .ref (sv_r G 0 0)] (sv_W G z M o) none (sv_W G z (svM ((od + 1) % 6) 6 k M) o) := by
  refine sv_ofW (by decide) kw_213 (Nat.le_of_ble_eq_true rfl) ?_
  intro p e s mth args below meth c hr C _
  refine sv_sub (lv' := [(0, .ref (sv_r G 15 0)), (1, .ref (sv_r G 0 0))]) rfl ?_
  refine sv_aload_n (i := 0) (x := sv_r G 15 0) C dX1_save_0 rfl rfl ?_
  refine sv_get_1_2 C kw_169 dX1_save_1 ?_
  refine sv_set (v' := .int (nI hd)) (congrArg Value.int h1) ?_
  refine sv_bipush (v := nI 6) C dX1_save_4 (by decide) ?_
  refine sv_icmp_ltN C 32 dX1_save_6 (by decide) (by omega) (by omega) (fun q6 => ?_) (fun q6 => ?_)
  · exact absurd q6 (by omega)
  · refine sv_aload_n (i := 0) (x := sv_r G 15 0) C dX1_save_9 rfl rfl ?_
    refine sv_aload_n (i := 0) (x := sv_r G 15 0) C dX1_save_10 rfl rfl ?_
    refine sv_get_1_1 C kw_168 dX1_save_11 ?_
    refine sv_set (v' := .int (nI od)) (congrArg Value.int h0) ?_
    refine sv_iconst (v := nI 1) C dX1_save_14 (by decide) ?_
    refine sv_iadd C dX1_save_15 ?_
    refine sv_set (v' := .int (nI (od + 1))) (congrArg Value.int (nI_add _ _)) ?_
    refine sv_bipush (v := nI 6) C dX1_save_16 (by decide) ?_
    refine sv_irem C dX1_save_18 (by decide) ?_
    refine sv_set (v' := .int (nI ((od + 1) % 6))) (congrArg Value.int (pk_rem (a := od + 1) (d := 6) (by omega) (by decide) (by decide))) ?_
    refine sv_put_1_1 C kw_168 dX1_save_19 ?_
    refine sv_aload_n (i := 0) (x := sv_r G 15 0) C dX1_save_22 rfl rfl ?_
    refine sv_dup C dX1_save_23 rfl ?_
    refine sv_get_1_2 C kw_169 dX1_save_24 ?_
    refine sv_set (v' := .int (nI hd)) (congrArg Value.int (by rw [sv_wu, sv_us, upd_n (by decide)]; exact h1)) ?_
    refine sv_iconst (v := nI 1) C dX1_save_27 (by decide) ?_
    refine sv_isub C dX1_save_28 ?_
    refine sv_set (v' := .int (nI 5)) (congrArg Value.int (by subst hhd; exact pk_sub (by decide))) ?_
    refine sv_put_1_2 C kw_169 dX1_save_29 ?_
    refine sv_aload_n (i := 0) (x := sv_r G 15 0) C dX1_save_32 rfl rfl ?_
    refine sv_aload_n (i := 0) (x := sv_r G 15 0) C dX1_save_33 rfl rfl ?_
    refine sv_get_1_1 C kw_168 dX1_save_34 ?_
    refine sv_set (v' := .int (nI ((od + 1) % 6))) (congrArg Value.int (by simp only [sv_wu, sv_us, sv_uu]; rw [upd_n (by decide), upd_s])) ?_
    refine sv_aload_n (i := 0) (x := sv_r G 15 0) C dX1_save_37 rfl rfl ?_
    refine sv_get_1_2 C kw_169 dX1_save_38 ?_
    refine sv_set (v' := .int (nI 5)) (congrArg Value.int (by simp only [sv_wu, sv_us, sv_uu]; rw [upd_s])) ?_
    refine sv_iadd C dX1_save_41 ?_
    refine sv_set (v' := .int (nI ((od + 1) % 6 + 5))) (congrArg Value.int (nI_add _ _)) ?_
    refine sv_bipush (v := nI 6) C dX1_save_42 (by decide) ?_
    refine sv_irem C dX1_save_44 (by decide) ?_
    refine sv_set (v' := .int (nI k)) (congrArg Value.int (by rw [show k = ((od + 1) % 6 + 5) % 6 by omega]; exact pk_rem (a := (od + 1) % 6 + 5) (d := 6) (by omega) (by decide) (by decide))) ?_
    refine sv_callV (as := [_]) (rest := []) C (met_stateAt l G _ _ _ k (by omega)) fX1_stateAt kw_214 (sv_recv15 C) ⟨Nat.le_of_ble_eq_true rfl, Nat.le_of_ble_eq_true rfl⟩ (Nat.le_of_ble_eq_true rfl) dX1_save_45 ⟨Nat.zero_le _, Nat.zero_le _⟩  ?_
    refine sv_ra ?_
    
    refine sv_astore_n (i := 2) C [(0, .ref (sv_r G 15 0)), (1, .ref (sv_r G 0 0)), (2, .ref (sv_r G 0 (2 + k)))] dX1_save_48 rfl (by decide) rfl ?_
    refine sv_aload_n (i := 2) (x := sv_r G 0 (2 + k)) C dX1_save_49 rfl rfl ?_
    refine sv_ifnull C dX1_save_50 ?_
    refine sv_aload_n (i := 2) (x := sv_r G 0 (2 + k)) C dX1_save_53 rfl rfl ?_
    refine sv_aload_n (i := 1) (x := sv_r G 0 0) C dX1_save_54 rfl rfl ?_
    refine sv_callV (as := [_]) (rest := []) C (met_S_copy l G _ _ _ 0 (2 + k) (by decide) (by omega) (by omega) (by simp only [sv_wu, sv_uu, sv_us]; rw [sv_un (by decide)]; exact b6) (by simp only [sv_wu, sv_uu, sv_us]; rw [sv_un (by decide)]; exact b7)) fX3_copyFrom kw_218 (sv_recv0 C (by omega)) ⟨Nat.le_of_ble_eq_true rfl, Nat.le_of_ble_eq_true rfl⟩ (Nat.le_of_ble_eq_true rfl) dX1_save_55 ⟨Nat.zero_le _, Nat.zero_le _⟩  ?_
    refine sv_rv ?_
    refine sv_aload_n (i := 0) (x := sv_r G 15 0) C dX1_save_58 rfl rfl ?_
    refine sv_dup C dX1_save_59 rfl ?_
    refine sv_get_1_2 C kw_169 dX1_save_60 ?_
    refine sv_set (v' := .int (nI 5)) (congrArg Value.int (by simp only [sv_wu, sv_uu, sv_us]; rw [sv_un (by omega), sv_us, upd_s])) ?_
    refine sv_iconst (v := nI 1) C dX1_save_63 (by decide) ?_
    refine sv_iadd C dX1_save_64 ?_
    refine sv_set (v' := .int (nI 6)) (congrArg Value.int (nI_add _ _)) ?_
    refine sv_put_1_2 C kw_169 dX1_save_65 ?_
    exact sv_vret C hr dX1_save_68 (Nat.le_of_ble_eq_true rfl) (Nat.le_of_ble_eq_true rfl) (sv_eqW (by unfold svM; simp only [sv_wu, sv_uu, sv_us]; rw [sv_un (show 0 ≠ 8 by decide), sv_un (show 8 ≠ 2 + k by omega), sv_us, sv_uc (show 2 + k ≠ 8 by omega), sv_uu, upd_u]))

set_option maxHeartbeats 4000000 in
set_option maxRecDepth 100000 in
theorem met_restore (l : Launch) (G : sv_G) (z : Nat) (M : sv_M) (o : Int64) (od hd k : Nat) (hod : od < 6) (h0 : M 8 0 = nI od) (h1 : M 8 1 = nI hd) (hhd : 0 < hd) (hd6 : hd ≤ 6) (hk : k = (od + (hd - 1)) % 6) (b6 : M (2 + k) 6 = 0 ∨ M (2 + k) 6 = 1) (b7 : M (2 + k) 7 = 0 ∨ M (2 + k) 7 = 1) : sv_Met l G yX1_restore cX1_restore 3 none 3 [.ref (sv_r G 15 0), .ref (sv_r G 0 0)] (sv_W G z M o) none (sv_W G z (rsM (hd - 1) k M) o) := by
  refine sv_ofW (by decide) kw_661 (Nat.le_of_ble_eq_true rfl) ?_
  intro p e s mth args below meth c hr C _
  refine sv_sub (lv' := [(0, .ref (sv_r G 15 0)), (1, .ref (sv_r G 0 0))]) rfl ?_
  refine sv_aload_n (i := 0) (x := sv_r G 15 0) C dX1_restore_0 rfl rfl ?_
  refine sv_get_1_2 C kw_169 dX1_restore_1 ?_
  refine sv_set (v' := .int (nI hd)) (congrArg Value.int h1) ?_
  refine sv_if_gt C 8 dX1_restore_4 (by decide) (fun q4 => ?_) (fun q4 => ?_)
  · refine sv_aload_n (i := 0) (x := sv_r G 15 0) C dX1_restore_8 rfl rfl ?_
    refine sv_dup C dX1_restore_9 rfl ?_
    refine sv_get_1_2 C kw_169 dX1_restore_10 ?_
    refine sv_set (v' := .int (nI hd)) (congrArg Value.int h1) ?_
    refine sv_iconst (v := nI 1) C dX1_restore_13 (by decide) ?_
    refine sv_isub C dX1_restore_14 ?_
    refine sv_set (v' := .int (nI (hd - 1))) (congrArg Value.int (pk_sub (by omega))) ?_
    refine sv_put_1_2 C kw_169 dX1_restore_15 ?_
    refine sv_aload_n (i := 0) (x := sv_r G 15 0) C dX1_restore_18 rfl rfl ?_
    refine sv_aload_n (i := 0) (x := sv_r G 15 0) C dX1_restore_19 rfl rfl ?_
    refine sv_get_1_1 C kw_168 dX1_restore_20 ?_
    refine sv_set (v' := .int (nI od)) (congrArg Value.int (by simp only [sv_wu, sv_us]; rw [upd_n (by decide)]; exact h0)) ?_
    refine sv_aload_n (i := 0) (x := sv_r G 15 0) C dX1_restore_23 rfl rfl ?_
    refine sv_get_1_2 C kw_169 dX1_restore_24 ?_
    refine sv_set (v' := .int (nI (hd - 1))) (congrArg Value.int (by simp only [sv_wu, sv_us]; rw [upd_s])) ?_
    refine sv_iadd C dX1_restore_27 ?_
    refine sv_set (v' := .int (nI (od + (hd - 1)))) (congrArg Value.int (nI_add _ _)) ?_
    refine sv_bipush (v := nI 6) C dX1_restore_28 (by decide) ?_
    refine sv_irem C dX1_restore_30 (by decide) ?_
    refine sv_set (v' := .int (nI k)) (congrArg Value.int (by rw [hk]; exact pk_rem (d := 6) (by omega) (by decide) (by decide))) ?_
    refine sv_callV (as := [_]) (rest := []) C (met_stateAt l G _ _ _ k (by omega)) fX1_stateAt kw_214 (sv_recv15 C) ⟨Nat.le_of_ble_eq_true rfl, Nat.le_of_ble_eq_true rfl⟩ (Nat.le_of_ble_eq_true rfl) dX1_restore_31 ⟨Nat.zero_le _, Nat.zero_le _⟩  ?_
    refine sv_ra ?_
    
    refine sv_astore_n (i := 2) C [(0, .ref (sv_r G 15 0)), (1, .ref (sv_r G 0 0)), (2, .ref (sv_r G 0 (2 + k)))] dX1_restore_34 rfl (by decide) rfl ?_
    refine sv_aload_n (i := 2) (x := sv_r G 0 (2 + k)) C dX1_restore_35 rfl rfl ?_
    refine sv_ifnull C dX1_restore_36 ?_
    refine sv_aload_n (i := 1) (x := sv_r G 0 0) C dX1_restore_39 rfl rfl ?_
    refine sv_aload_n (i := 2) (x := sv_r G 0 (2 + k)) C dX1_restore_40 rfl rfl ?_
    refine sv_callV (as := [_]) (rest := []) C (met_S_copy l G _ _ _ (2 + k) 0 (by omega) (by decide) (by omega) (by rw [sv_wu, sv_un (by omega)]; exact b6) (by rw [sv_wu, sv_un (by omega)]; exact b7)) fX3_copyFrom kw_218 (sv_recv0 C (by decide)) ⟨Nat.le_of_ble_eq_true rfl, Nat.le_of_ble_eq_true rfl⟩ (Nat.le_of_ble_eq_true rfl) dX1_restore_41 ⟨Nat.zero_le _, Nat.zero_le _⟩  ?_
    refine sv_rv ?_
    exact sv_vret C hr dX1_restore_44 (Nat.le_of_ble_eq_true rfl) (Nat.le_of_ble_eq_true rfl) (sv_eqW (by unfold rsM; simp only [sv_wu]; rw [sv_un (show 2 + k ≠ 8 by omega)]))
  · exact absurd (Int32.not_lt.mp q4) (nI_nle hhd (by omega))

set_option maxHeartbeats 4000000 in
set_option maxRecDepth 100000 in
theorem met_add (l : Launch) (G : sv_G) (z : Nat) (M : sv_M) (o : Int64) (n9 : Nat) (hn9 : M 9 60 = nI n9) (hn60 : n9 ≤ 60) (t : Int32) (ht : chr t) (hlt : n9 < 60) : sv_Met l G yX4_add cX4_add 2 (some .int) 0 [.ref (sv_r G 17 0), .int t] (sv_W G z M o) (some (.int (nI (n9 + 1)))) (sv_W G z (sv_u M 9 (upd (upd (M 9) n9 t) 60 (nI (n9 + 1)))) o) := by
  refine sv_ofW (by decide) kw_619 (Nat.le_of_ble_eq_true rfl) ?_
  intro p e s mth args below meth c hr C _
  refine sv_sub (lv' := [(0, .ref (sv_r G 17 0)), (1, .int t)]) rfl ?_
  refine sv_aload_n (i := 0) (x := sv_r G 17 0) C dX4_add_0 rfl rfl ?_
  refine sv_get_4_1 C kw_185 dX4_add_1 ?_
  refine sv_set (v' := .int (nI n9)) (congrArg Value.int hn9) ?_
  refine sv_if_lt C 39 dX4_add_4 (by decide) (fun q4 => ?_) (fun q4 => ?_)
  · exact absurd q4 (nI_pos (by omega))
  · refine sv_aload_n (i := 0) (x := sv_r G 17 0) C dX4_add_7 rfl rfl ?_
    refine sv_get_4_1 C kw_185 dX4_add_8 ?_
    refine sv_set (v' := .int (nI n9)) (congrArg Value.int hn9) ?_
    refine sv_aload_n (i := 0) (x := sv_r G 17 0) C dX4_add_11 rfl rfl ?_
    refine sv_get_4_0 C kw_184 dX4_add_12 ?_
    refine sv_alenC (v := nI 60) C rfl dX4_add_15 ?_
    refine sv_icmp_geN C 39 dX4_add_16 (by decide) (by omega) (by omega) (fun q16 => ?_) (fun q16 => ?_)
    · exact absurd q16 (by omega)
    · refine sv_aload_n (i := 0) (x := sv_r G 17 0) C dX4_add_19 rfl rfl ?_
      refine sv_get_4_0 C kw_184 dX4_add_20 ?_
      refine sv_aload_n (i := 0) (x := sv_r G 17 0) C dX4_add_23 rfl rfl ?_
      refine sv_get_4_1 C kw_185 dX4_add_24 ?_
      refine sv_set (v' := .int (nI n9)) (congrArg Value.int hn9) ?_
      refine sv_iload_n (i := 1) (x := t) C dX4_add_27 rfl rfl ?_
      refine sv_cast C (vp_in_nI (by omega) (by decide)) ht dX4_add_28 ?_
      refine sv_aload_n (i := 0) (x := sv_r G 17 0) C dX4_add_29 rfl rfl ?_
      refine sv_dup C dX4_add_30 rfl ?_
      rw [nI_clamp (show n9 < 2 ^ 31 by omega)]
      refine sv_get_4_1 C kw_185 dX4_add_31 ?_
      refine sv_set (v' := .int (nI n9)) (congrArg Value.int (by rw [sv_wu, sv_us, upd_n (by omega)]; exact hn9)) ?_
      refine sv_iconst (v := nI 1) C dX4_add_34 (by decide) ?_
      refine sv_iadd C dX4_add_35 ?_
      refine sv_set (v' := .int (nI (n9 + 1))) (congrArg Value.int (nI_add _ _)) ?_
      refine sv_put_4_1 C kw_185 dX4_add_36 ?_
      refine sv_aload_n (i := 0) (x := sv_r G 17 0) C dX4_add_39 rfl rfl ?_
      refine sv_get_4_1 C kw_185 dX4_add_40 ?_
      refine sv_set (v' := .int (nI (n9 + 1))) (congrArg Value.int (by simp only [sv_wu, sv_us, sv_uu]; rw [upd_s])) ?_
      exact sv_iret C hr dX4_add_43 (Nat.le_of_ble_eq_true rfl) (Nat.le_of_ble_eq_true rfl) rfl (sv_eqW (by simp only [sv_wu, sv_us, sv_uu]))

set_option maxHeartbeats 4000000 in
set_option maxRecDepth 100000 in
theorem met_clear (l : Launch) (G : sv_G) (z : Nat) (M : sv_M) (o : Int64) : sv_Met l G yX4_clear cX4_clear 2 (some .int) 0 [.ref (sv_r G 17 0)] (sv_W G z M o) (some (.int (M 9 60))) (sv_W G z (sv_u M 9 (upd (M 9) 60 0)) o) := by
  refine sv_ofW (by decide) kw_268 (Nat.le_of_ble_eq_true rfl) ?_
  intro p e s mth args below meth c hr C _
  refine sv_sub (lv' := [(0, .ref (sv_r G 17 0))]) rfl ?_
  refine sv_aload_n (i := 0) (x := sv_r G 17 0) C dX4_clear_0 rfl rfl ?_
  refine sv_get_4_1 C kw_185 dX4_clear_1 ?_
  refine sv_set (v' := .int (M 9 60)) (congrArg Value.int rfl) ?_
  refine sv_istore_n (i := 1) C [(0, .ref (sv_r G 17 0)), (1, .int (M 9 60))] dX4_clear_4 rfl (by decide) rfl ?_
  refine sv_aload_n (i := 0) (x := sv_r G 17 0) C dX4_clear_5 rfl rfl ?_
  refine sv_iconst (v := nI 0) C dX4_clear_6 (by decide) ?_
  refine sv_put_4_1 C kw_185 dX4_clear_7 ?_
  refine sv_iload_n (i := 1) (x := M 9 60) C dX4_clear_10 rfl rfl ?_
  exact sv_iret C hr dX4_clear_11 (Nat.le_of_ble_eq_true rfl) (Nat.le_of_ble_eq_true rfl) rfl (sv_eqW (by rw [sv_wu]; rfl))

set_option maxHeartbeats 4000000 in
set_option maxRecDepth 100000 in
theorem met_codeAt (l : Launch) (G : sv_G) (z : Nat) (M : sv_M) (o : Int64) (i : Nat) (hi : i < 60) (hch : ∀ i, i < 60 → chr (M 9 i)) : sv_Met l G yX4_codeAt cX4_codeAt 2 (some .char) 0 [.ref (sv_r G 17 0), .int (nI i)] (sv_W G z M o) (some (.int (M 9 i))) (sv_W G z M o) := by
  refine sv_ofW (by decide) kw_284 (Nat.le_of_ble_eq_true rfl) ?_
  intro p e s mth args below meth c hr C _
  refine sv_sub (lv' := [(0, .ref (sv_r G 17 0)), (1, .int (nI i))]) rfl ?_
  refine sv_iload_n (i := 1) (x := nI i) C dX4_codeAt_0 rfl rfl ?_
  refine sv_if_lt C 22 dX4_codeAt_1 (by decide) (fun q1 => ?_) (fun q1 => ?_)
  · exact absurd q1 (nI_pos (by omega))
  · refine sv_iload_n (i := 1) (x := nI i) C dX4_codeAt_4 rfl rfl ?_
    refine sv_aload_n (i := 0) (x := sv_r G 17 0) C dX4_codeAt_5 rfl rfl ?_
    refine sv_get_4_0 C kw_184 dX4_codeAt_6 ?_
    refine sv_alenC (v := nI 60) C rfl dX4_codeAt_9 ?_
    refine sv_icmp_geN C 22 dX4_codeAt_10 (by decide) (by omega) (by omega) (fun q10 => ?_) (fun q10 => ?_)
    · exact absurd q10 (by omega)
    · refine sv_aload_n (i := 0) (x := sv_r G 17 0) C dX4_codeAt_13 rfl rfl ?_
      refine sv_get_4_0 C kw_184 dX4_codeAt_14 ?_
      refine sv_iload_n (i := 1) (x := nI i) C dX4_codeAt_17 rfl rfl ?_
      refine sv_caldN C (by omega) dX4_codeAt_18 ?_
      refine sv_set (v' := .int (M 9 i)) (congrArg Value.int rfl) ?_
      refine sv_goto C 24 dX4_codeAt_19 (by decide) ?_
      exact sv_nret C (hch i hi) hr dX4_codeAt_24 (Nat.le_of_ble_eq_true rfl) (Nat.le_of_ble_eq_true rfl) rfl (fun _ h => h)

set_option maxHeartbeats 4000000 in
set_option maxRecDepth 100000 in
theorem met_isFloor (l : Launch) (G : sv_G) (Wd : Heap → Prop) (x : Int32) : sv_Met l G yX4_isFloor cX4_isFloor 1 (some .boolean) 0 [.int x] Wd (some (.int (flI x))) Wd := by
  refine sv_ofW (by decide) kw_287 (Nat.le_of_ble_eq_true rfl) ?_
  intro p e s mth args below meth c hr C _
  refine sv_sub (lv' := [(0, .int x)]) rfl ?_
  refine sv_iload_n (i := 0) (x := x) C dX4_isFloor_0 rfl rfl ?_
  refine sv_bipush (v := nI 48) C dX4_isFloor_1 (by decide) ?_
  refine sv_icmp_lt C 16 dX4_isFloor_3 (by decide) (fun q3 => ?_) (fun q3 => ?_)
  · refine sv_iconst (v := nI 0) C dX4_isFloor_16 (by decide) ?_
    exact sv_zret C (flI_b x) hr dX4_isFloor_17 (Nat.le_of_ble_eq_true rfl) (Nat.le_of_ble_eq_true rfl) (by unfold flI; rw [if_pos (show x < 48 from q3)]; rfl) (fun _ h => h)
  · refine sv_iload_n (i := 0) (x := x) C dX4_isFloor_6 rfl rfl ?_
    refine sv_bipush (v := nI 55) C dX4_isFloor_7 (by decide) ?_
    refine sv_icmp_gt C 16 dX4_isFloor_9 (by decide) (fun q9 => ?_) (fun q9 => ?_)
    · refine sv_iconst (v := nI 0) C dX4_isFloor_16 (by decide) ?_
      exact sv_zret C (flI_b x) hr dX4_isFloor_17 (Nat.le_of_ble_eq_true rfl) (Nat.le_of_ble_eq_true rfl) (by unfold flI; rw [if_neg (show ¬ x < 48 from q3), if_pos (show 55 < x from q9)]; rfl) (fun _ h => h)
    · refine sv_iconst (v := nI 1) C dX4_isFloor_12 (by decide) ?_
      refine sv_goto C 17 dX4_isFloor_13 (by decide) ?_
      exact sv_zret C (flI_b x) hr dX4_isFloor_17 (Nat.le_of_ble_eq_true rfl) (Nat.le_of_ble_eq_true rfl) (by unfold flI; rw [if_neg (show ¬ x < 48 from q3), if_neg (show ¬ 55 < x from q9)]; rfl) (fun _ h => h)

set_option maxHeartbeats 4000000 in
set_option maxRecDepth 100000 in
theorem met_fitsSign (l : Launch) (G : sv_G) (Wd : Heap → Prop) (x y t : Int32) : sv_Met l G yX4_fitsSign cX4_fitsSign 3 (some .boolean) 0 [.int x, .int y, .int t] Wd (some (.int (fsI x y t))) Wd := by
  refine sv_ofW (by decide) kw_290 (Nat.le_of_ble_eq_true rfl) ?_
  intro p e s mth args below meth c hr C _
  refine sv_sub (lv' := [(0, .int x), (1, .int y), (2, .int t)]) rfl ?_
  refine sv_iload_n (i := 1) (x := y) C dX4_fitsSign_0 rfl rfl ?_
  refine sv_bipush (v := nI 62) C dX4_fitsSign_1 (by decide) ?_
  refine sv_icmp_ne C 19 dX4_fitsSign_3 (by decide) (fun q3 => ?_) (fun q3 => ?_)
  · refine sv_iload_n (i := 2) (x := t) C dX4_fitsSign_19 rfl rfl ?_
    refine sv_iload_n (i := 0) (x := x) C dX4_fitsSign_20 rfl rfl ?_
    refine sv_icmp_ge C 28 dX4_fitsSign_21 (by decide) (fun q21 => ?_) (fun q21 => ?_)
    · refine sv_iconst (v := nI 0) C dX4_fitsSign_28 (by decide) ?_
      exact sv_zret C (fsI_b x y t) hr dX4_fitsSign_29 (Nat.le_of_ble_eq_true rfl) (Nat.le_of_ble_eq_true rfl) (by unfold fsI; rw [if_neg (show ¬ y = 62 from q3), if_pos q21]; rfl) (fun _ h => h)
    · refine sv_iconst (v := nI 1) C dX4_fitsSign_24 (by decide) ?_
      refine sv_goto C 29 dX4_fitsSign_25 (by decide) ?_
      exact sv_zret C (fsI_b x y t) hr dX4_fitsSign_29 (Nat.le_of_ble_eq_true rfl) (Nat.le_of_ble_eq_true rfl) (by unfold fsI; rw [if_neg (show ¬ y = 62 from q3), if_neg q21]; rfl) (fun _ h => h)
  · refine sv_iload_n (i := 2) (x := t) C dX4_fitsSign_6 rfl rfl ?_
    refine sv_iload_n (i := 0) (x := x) C dX4_fitsSign_7 rfl rfl ?_
    refine sv_icmp_le C 15 dX4_fitsSign_8 (by decide) (fun q8 => ?_) (fun q8 => ?_)
    · refine sv_iconst (v := nI 0) C dX4_fitsSign_15 (by decide) ?_
      refine sv_goto C 29 dX4_fitsSign_16 (by decide) ?_
      exact sv_zret C (fsI_b x y t) hr dX4_fitsSign_29 (Nat.le_of_ble_eq_true rfl) (Nat.le_of_ble_eq_true rfl) (by unfold fsI; rw [if_pos (show y = 62 from q3), if_pos q8]; rfl) (fun _ h => h)
    · refine sv_iconst (v := nI 1) C dX4_fitsSign_11 (by decide) ?_
      refine sv_goto C 29 dX4_fitsSign_12 (by decide) ?_
      exact sv_zret C (fsI_b x y t) hr dX4_fitsSign_29 (Nat.le_of_ble_eq_true rfl) (Nat.le_of_ble_eq_true rfl) (by unfold fsI; rw [if_pos (show y = 62 from q3), if_neg q8]; rfl) (fun _ h => h)

set_option maxHeartbeats 4000000 in
set_option maxRecDepth 100000 in
theorem met_fitsAt (l : Launch) (G : sv_G) (z : Nat) (M : sv_M) (o : Int64) (i : Nat) (hi : i < 60) (hch : ∀ i, i < 60 → chr (M 9 i)) : sv_Met l G yX4_fitsAt cX4_fitsAt 4 (some .boolean) 1 [.ref (sv_r G 17 0), .int (nI i)] (sv_W G z M o) (some (.int (ftI (M 9) i))) (sv_W G z M o) := by
  refine sv_ofW (by decide) kw_280 (Nat.le_of_ble_eq_true rfl) ?_
  intro p e s mth args below meth c hr C _
  refine sv_sub (lv' := [(0, .ref (sv_r G 17 0)), (1, .int (nI i))]) rfl ?_
  refine sv_aload_n (i := 0) (x := sv_r G 17 0) C dX4_fitsAt_0 rfl rfl ?_
  refine sv_iload_n (i := 1) (x := nI i) C dX4_fitsAt_1 rfl rfl ?_
  refine sv_callV (as := [_]) (rest := []) C (met_codeAt l G _ _ _ i (by omega) hch) fX4_codeAt kw_281 (sv_recv17 C) ⟨Nat.le_of_ble_eq_true rfl, Nat.le_of_ble_eq_true rfl⟩ (Nat.le_of_ble_eq_true rfl) dX4_fitsAt_2 ⟨Nat.zero_le _, Nat.zero_le _⟩  ?_
  refine sv_ri (fun v2 e2 => ?_)
  refine sv_istore_n (i := 2) C [(0, .ref (sv_r G 17 0)), (1, .int (nI i)), (2, .int v2)] dX4_fitsAt_5 rfl (by decide) rfl ?_
  refine sv_iload_n (i := 1) (x := nI i) C dX4_fitsAt_6 rfl rfl ?_
  refine sv_iconst (v := nI 4) C dX4_fitsAt_7 (by decide) ?_
  refine sv_irem C dX4_fitsAt_8 (by decide) ?_
  refine sv_set (v' := .int (nI (i % 4))) (congrArg Value.int (pk_rem (a := i) (d := 4) (by omega) (by decide) (by decide))) ?_
  rcases (show i % 4 = 0 ∨ i % 4 = 1 ∨ i % 4 = 2 ∨ i % 4 = 3 by omega) with h4 | h4 | h4 | h4 <;> rw [h4]
  · refine sv_tableIn (off := 27) C 36 dX4_fitsAt_9 (by decide) (by decide) (by decide) (by decide) ?_
    refine sv_iload_n (i := 2) (x := v2) C dX4_fitsAt_36 rfl rfl ?_
    refine sv_callS (as := [_]) (rest := []) C (met_isFloor l G _ v2) fX4_isFloor kw_285 ⟨Nat.le_of_ble_eq_true rfl, Nat.le_of_ble_eq_true rfl⟩ (Nat.le_of_ble_eq_true rfl) dX4_fitsAt_37 ⟨Nat.zero_le _, Nat.zero_le _⟩  ?_
    refine sv_ri (fun v37 e37 => ?_)
    exact sv_zret C (ftI_b _ _) hr dX4_fitsAt_40 (Nat.le_of_ble_eq_true rfl) (Nat.le_of_ble_eq_true rfl) (by rw [e37, e2]; unfold ftI; rw [if_pos h4]) (fun _ h => h)
  · refine sv_tableIn (off := 32) C 41 dX4_fitsAt_9 (by decide) (by decide) (by decide) (by decide) ?_
    refine sv_aload_n (i := 0) (x := sv_r G 17 0) C dX4_fitsAt_41 rfl rfl ?_
    refine sv_iload_n (i := 1) (x := nI i) C dX4_fitsAt_42 rfl rfl ?_
    refine sv_iconst (v := nI 1) C dX4_fitsAt_43 (by decide) ?_
    refine sv_isub C dX4_fitsAt_44 ?_
    refine sv_set (v' := .int (nI (i - 1))) (congrArg Value.int (pk_sub (by omega))) ?_
    refine sv_callV (as := [_]) (rest := []) C (met_codeAt l G _ _ _ (i - 1) (by omega) hch) fX4_codeAt kw_281 (sv_recv17 C) ⟨Nat.le_of_ble_eq_true rfl, Nat.le_of_ble_eq_true rfl⟩ (Nat.le_of_ble_eq_true rfl) dX4_fitsAt_45 ⟨Nat.zero_le _, Nat.zero_le _⟩  ?_
    refine sv_ri (fun v45 e45 => ?_)
    refine sv_istore_n (i := 3) C [(0, .ref (sv_r G 17 0)), (1, .int (nI i)), (2, .int v2), (3, .int v45)] dX4_fitsAt_48 rfl (by decide) rfl ?_
    refine sv_iload_n (i := 2) (x := v2) C dX4_fitsAt_49 rfl rfl ?_
    refine sv_bipush (v := nI 62) C dX4_fitsAt_50 (by decide) ?_
    refine sv_icmp_ne C 61 dX4_fitsAt_52 (by decide) (fun q52 => ?_) (fun q52 => ?_)
    · have q52 : ¬ v2 = 62 := q52
      refine sv_iload_n (i := 2) (x := v2) C dX4_fitsAt_61 rfl rfl ?_
      refine sv_bipush (v := nI 60) C dX4_fitsAt_62 (by decide) ?_
      refine sv_icmp_ne C 77 dX4_fitsAt_64 (by decide) (fun q64 => ?_) (fun q64 => ?_)
      · have q64 : ¬ v2 = 60 := q64
        refine sv_iconst (v := nI 0) C dX4_fitsAt_77 (by decide) ?_
        exact sv_zret C (ftI_b _ _) hr dX4_fitsAt_78 (Nat.le_of_ble_eq_true rfl) (Nat.le_of_ble_eq_true rfl) (by unfold ftI; rw [if_neg (show ¬ i % 4 = 0 by omega), if_pos h4]; rw [if_neg (fun h => h.elim (fun h => q52 (e2.trans h.1)) (fun h => q64 (e2.trans h.1)))]; rfl) (fun _ h => h)
      · have q64 : v2 = 60 := q64
        refine sv_iload_n (i := 3) (x := v45) C dX4_fitsAt_67 rfl rfl ?_
        refine sv_bipush (v := nI 48) C dX4_fitsAt_68 (by decide) ?_
        refine sv_icmp_le C 77 dX4_fitsAt_70 (by decide) (fun q70 => ?_) (fun q70 => ?_)
        · have q70 : v45 ≤ 48 := q70
          refine sv_iconst (v := nI 0) C dX4_fitsAt_77 (by decide) ?_
          exact sv_zret C (ftI_b _ _) hr dX4_fitsAt_78 (Nat.le_of_ble_eq_true rfl) (Nat.le_of_ble_eq_true rfl) (by unfold ftI; rw [if_neg (show ¬ i % 4 = 0 by omega), if_pos h4]; rw [if_neg (fun h => h.elim (fun h => q52 (e2.trans h.1)) (fun h => absurd q70 (Int32.not_le.mpr (by rw [e45]; exact h.2))))]; rfl) (fun _ h => h)
        · have q70 : ¬ v45 ≤ 48 := q70
          refine sv_iconst (v := nI 1) C dX4_fitsAt_73 (by decide) ?_
          refine sv_goto C 78 dX4_fitsAt_74 (by decide) ?_
          exact sv_zret C (ftI_b _ _) hr dX4_fitsAt_78 (Nat.le_of_ble_eq_true rfl) (Nat.le_of_ble_eq_true rfl) (by unfold ftI; rw [if_neg (show ¬ i % 4 = 0 by omega), if_pos h4]; rw [if_pos (Or.inr ⟨e2.symm.trans q64, by rw [← e45]; exact Int32.not_le.mp q70⟩)]; rfl) (fun _ h => h)
    · have q52 : v2 = 62 := q52
      refine sv_iload_n (i := 3) (x := v45) C dX4_fitsAt_55 rfl rfl ?_
      refine sv_bipush (v := nI 55) C dX4_fitsAt_56 (by decide) ?_
      refine sv_icmp_lt C 73 dX4_fitsAt_58 (by decide) (fun q58 => ?_) (fun q58 => ?_)
      · have q58 : v45 < 55 := q58
        refine sv_iconst (v := nI 1) C dX4_fitsAt_73 (by decide) ?_
        refine sv_goto C 78 dX4_fitsAt_74 (by decide) ?_
        exact sv_zret C (ftI_b _ _) hr dX4_fitsAt_78 (Nat.le_of_ble_eq_true rfl) (Nat.le_of_ble_eq_true rfl) (by unfold ftI; rw [if_neg (show ¬ i % 4 = 0 by omega), if_pos h4]; rw [if_pos (Or.inl ⟨e2.symm.trans q52, by rw [← e45]; exact q58⟩)]; rfl) (fun _ h => h)
      · have q58 : ¬ v45 < 55 := q58
        refine sv_iload_n (i := 2) (x := v2) C dX4_fitsAt_61 rfl rfl ?_
        refine sv_bipush (v := nI 60) C dX4_fitsAt_62 (by decide) ?_
        refine sv_icmp_ne C 77 dX4_fitsAt_64 (by decide) (fun q64 => ?_) (fun q64 => ?_)
        · have q64 : ¬ v2 = 60 := q64
          refine sv_iconst (v := nI 0) C dX4_fitsAt_77 (by decide) ?_
          exact sv_zret C (ftI_b _ _) hr dX4_fitsAt_78 (Nat.le_of_ble_eq_true rfl) (Nat.le_of_ble_eq_true rfl) (by unfold ftI; rw [if_neg (show ¬ i % 4 = 0 by omega), if_pos h4]; rw [if_neg (fun h => h.elim (fun h => q58 (by rw [e45]; exact h.2)) (fun h => q64 (e2.trans h.1)))]; rfl) (fun _ h => h)
        · have q64 : v2 = 60 := q64
          refine sv_iload_n (i := 3) (x := v45) C dX4_fitsAt_67 rfl rfl ?_
          refine sv_bipush (v := nI 48) C dX4_fitsAt_68 (by decide) ?_
          refine sv_icmp_le C 77 dX4_fitsAt_70 (by decide) (fun q70 => ?_) (fun q70 => ?_)
          · have q70 : v45 ≤ 48 := q70
            refine sv_iconst (v := nI 0) C dX4_fitsAt_77 (by decide) ?_
            exact sv_zret C (ftI_b _ _) hr dX4_fitsAt_78 (Nat.le_of_ble_eq_true rfl) (Nat.le_of_ble_eq_true rfl) (by unfold ftI; rw [if_neg (show ¬ i % 4 = 0 by omega), if_pos h4]; rw [if_neg (fun h => h.elim (fun h => q58 (by rw [e45]; exact h.2)) (fun h => absurd q70 (Int32.not_le.mpr (by rw [e45]; exact h.2))))]; rfl) (fun _ h => h)
          · have q70 : ¬ v45 ≤ 48 := q70
            refine sv_iconst (v := nI 1) C dX4_fitsAt_73 (by decide) ?_
            refine sv_goto C 78 dX4_fitsAt_74 (by decide) ?_
            exact sv_zret C (ftI_b _ _) hr dX4_fitsAt_78 (Nat.le_of_ble_eq_true rfl) (Nat.le_of_ble_eq_true rfl) (by unfold ftI; rw [if_neg (show ¬ i % 4 = 0 by omega), if_pos h4]; rw [if_pos (Or.inr ⟨e2.symm.trans q64, by rw [← e45]; exact Int32.not_le.mp q70⟩)]; rfl) (fun _ h => h)
  · refine sv_tableIn (off := 70) C 79 dX4_fitsAt_9 (by decide) (by decide) (by decide) (by decide) ?_
    refine sv_iload_n (i := 2) (x := v2) C dX4_fitsAt_79 rfl rfl ?_
    refine sv_callS (as := [_]) (rest := []) C (met_isFloor l G _ v2) fX4_isFloor kw_285 ⟨Nat.le_of_ble_eq_true rfl, Nat.le_of_ble_eq_true rfl⟩ (Nat.le_of_ble_eq_true rfl) dX4_fitsAt_80 ⟨Nat.zero_le _, Nat.zero_le _⟩  ?_
    refine sv_ri (fun v80 e80 => ?_)
    refine sv_if_eq C 111 dX4_fitsAt_83 (by decide) (fun q83 => ?_) (fun q83 => ?_)
    · refine sv_iconst (v := nI 0) C dX4_fitsAt_111 (by decide) ?_
      exact sv_zret C (ftI_b _ _) hr dX4_fitsAt_112 (Nat.le_of_ble_eq_true rfl) (Nat.le_of_ble_eq_true rfl) (by unfold ftI; rw [if_neg (show ¬ i % 4 = 0 by omega), if_neg (show ¬ i % 4 = 1 by omega), if_pos h4]; rw [if_pos (by rw [← e2]; exact e80.symm.trans q83)]; rfl) (fun _ h => h)
    · refine sv_aload_n (i := 0) (x := sv_r G 17 0) C dX4_fitsAt_86 rfl rfl ?_
      refine sv_iload_n (i := 1) (x := nI i) C dX4_fitsAt_87 rfl rfl ?_
      refine sv_iconst (v := nI 2) C dX4_fitsAt_88 (by decide) ?_
      refine sv_isub C dX4_fitsAt_89 ?_
      refine sv_set (v' := .int (nI (i - 2))) (congrArg Value.int (pk_sub (by omega))) ?_
      refine sv_callV (as := [_]) (rest := []) C (met_codeAt l G _ _ _ (i - 2) (by omega) hch) fX4_codeAt kw_281 (sv_recv17 C) ⟨Nat.le_of_ble_eq_true rfl, Nat.le_of_ble_eq_true rfl⟩ (Nat.le_of_ble_eq_true rfl) dX4_fitsAt_90 ⟨Nat.zero_le _, Nat.zero_le _⟩  ?_
      refine sv_ri (fun v90 e90 => ?_)
      refine sv_aload_n (i := 0) (x := sv_r G 17 0) C dX4_fitsAt_93 rfl rfl ?_
      refine sv_iload_n (i := 1) (x := nI i) C dX4_fitsAt_94 rfl rfl ?_
      refine sv_iconst (v := nI 1) C dX4_fitsAt_95 (by decide) ?_
      refine sv_isub C dX4_fitsAt_96 ?_
      refine sv_set (v' := .int (nI (i - 1))) (congrArg Value.int (pk_sub (by omega))) ?_
      refine sv_callV (as := [_]) (rest := [_]) C (met_codeAt l G _ _ _ (i - 1) (by omega) hch) fX4_codeAt kw_281 (sv_recv17 C) ⟨Nat.le_of_ble_eq_true rfl, Nat.le_of_ble_eq_true rfl⟩ (Nat.le_of_ble_eq_true rfl) dX4_fitsAt_97 ⟨Nat.zero_le _, Nat.zero_le _⟩  ?_
      refine sv_ri (fun v97 e97 => ?_)
      refine sv_iload_n (i := 2) (x := v2) C dX4_fitsAt_100 rfl rfl ?_
      refine sv_callS (as := [_, _, _]) (rest := []) C (met_fitsSign l G _ v90 v97 v2) fX4_fitsSign kw_288 ⟨Nat.le_of_ble_eq_true rfl, Nat.le_of_ble_eq_true rfl⟩ (Nat.le_of_ble_eq_true rfl) dX4_fitsAt_101 ⟨Nat.zero_le _, Nat.zero_le _⟩  ?_
      refine sv_ri (fun v101 e101 => ?_)
      refine sv_if_eq C 111 dX4_fitsAt_104 (by decide) (fun q104 => ?_) (fun q104 => ?_)
      · refine sv_iconst (v := nI 0) C dX4_fitsAt_111 (by decide) ?_
        exact sv_zret C (ftI_b _ _) hr dX4_fitsAt_112 (Nat.le_of_ble_eq_true rfl) (Nat.le_of_ble_eq_true rfl) (by unfold ftI; rw [if_neg (show ¬ i % 4 = 0 by omega), if_neg (show ¬ i % 4 = 1 by omega), if_pos h4]; rw [if_neg (by rw [← e2]; exact fun h => q83 (e80.trans h)), if_pos (by rw [← e90, ← e97, ← e2]; exact e101.symm.trans q104)]; rfl) (fun _ h => h)
      · refine sv_iconst (v := nI 1) C dX4_fitsAt_107 (by decide) ?_
        refine sv_goto C 112 dX4_fitsAt_108 (by decide) ?_
        exact sv_zret C (ftI_b _ _) hr dX4_fitsAt_112 (Nat.le_of_ble_eq_true rfl) (Nat.le_of_ble_eq_true rfl) (by unfold ftI; rw [if_neg (show ¬ i % 4 = 0 by omega), if_neg (show ¬ i % 4 = 1 by omega), if_pos h4]; rw [if_neg (by rw [← e2]; exact fun h => q83 (e80.trans h)), if_neg (by rw [← e90, ← e97, ← e2]; exact fun h => q104 (e101.trans h))]; rfl) (fun _ h => h)
  · refine sv_tableOut C 113 dX4_fitsAt_9 (Or.inr (by decide)) (by decide) ?_
    refine sv_iload_n (i := 2) (x := v2) C dX4_fitsAt_113 rfl rfl ?_
    refine sv_bipush (v := nI 59) C dX4_fitsAt_114 (by decide) ?_
    refine sv_icmp_ne C 123 dX4_fitsAt_116 (by decide) (fun q116 => ?_) (fun q116 => ?_)
    · have q116 : ¬ v2 = 59 := q116
      refine sv_iconst (v := nI 0) C dX4_fitsAt_123 (by decide) ?_
      exact sv_zret C (ftI_b _ _) hr dX4_fitsAt_124 (Nat.le_of_ble_eq_true rfl) (Nat.le_of_ble_eq_true rfl) (by unfold ftI; rw [if_neg (show ¬ i % 4 = 0 by omega), if_neg (show ¬ i % 4 = 1 by omega), if_neg (show ¬ i % 4 = 2 by omega)]; rw [if_neg (fun h => q116 (e2.trans h))]; rfl) (fun _ h => h)
    · have q116 : v2 = 59 := q116
      refine sv_iconst (v := nI 1) C dX4_fitsAt_119 (by decide) ?_
      refine sv_goto C 124 dX4_fitsAt_120 (by decide) ?_
      exact sv_zret C (ftI_b _ _) hr dX4_fitsAt_124 (Nat.le_of_ble_eq_true rfl) (Nat.le_of_ble_eq_true rfl) (by unfold ftI; rw [if_neg (show ¬ i % 4 = 0 by omega), if_neg (show ¬ i % 4 = 1 by omega), if_neg (show ¬ i % 4 = 2 by omega)]; rw [if_pos (e2.symm.trans q116)]; rfl) (fun _ h => h)

set_option maxHeartbeats 4000000 in
set_option maxRecDepth 100000 in
theorem met_errorPlace (l : Launch) (G : sv_G) (z : Nat) (M : sv_M) (o : Int64) (n9 : Nat) (hn9 : M 9 60 = nI n9) (hn60 : n9 ≤ 60) (hch : ∀ i, i < 60 → chr (M 9 i)) : sv_Met l G yX4_errorPlace cX4_errorPlace 2 (some .int) 2 [.ref (sv_r G 17 0)] (sv_W G z M o) (some (.int (nI (epF (M 9) n9 0)))) (sv_W G z M o) := by
  refine sv_ofW (by decide) kw_276 (Nat.le_of_ble_eq_true rfl) ?_
  intro p e s mth args below meth c hr C _
  refine sv_sub (lv' := [(0, .ref (sv_r G 17 0))]) rfl ?_
  refine sv_iconst (v := nI 0) C dX4_errorPlace_0 (by decide) ?_
  refine sv_istore_n (i := 1) C [(0, .ref (sv_r G 17 0)), (1, .int (nI 0))] dX4_errorPlace_1 rfl (by decide) rfl ?_
  refine sv_loop (N := n9) (I := fun i => epF (M 9) n9 0 = epF (M 9) (n9 - i) i) (Wf := fun i => sv_W G z M o) (Lf := fun i => [(0, .ref (sv_r G 17 0)), (1, .int (nI i))]) 0 (Nat.zero_le _) rfl (fun i hi0 hi hI ih => ?_)
  refine sv_iload_n (i := 1) (x := nI i) C dX4_errorPlace_2 rfl rfl ?_
  refine sv_aload_n (i := 0) (x := sv_r G 17 0) C dX4_errorPlace_3 rfl rfl ?_
  refine sv_get_4_1 C kw_185 dX4_errorPlace_4 ?_
  refine sv_set (v' := .int (nI n9)) (congrArg Value.int hn9) ?_
  refine sv_icmp_geN C 26 dX4_errorPlace_7 (by decide) (by omega) (by omega) (fun q7 => ?_) (fun q7 => ?_)
  · refine sv_aload_n (i := 0) (x := sv_r G 17 0) C dX4_errorPlace_26 rfl rfl ?_
    refine sv_get_4_1 C kw_185 dX4_errorPlace_27 ?_
    refine sv_set (v' := .int (nI n9)) (congrArg Value.int hn9) ?_
    exact sv_iret C hr dX4_errorPlace_30 (Nat.le_of_ble_eq_true rfl) (Nat.le_of_ble_eq_true rfl) (by rw [hI, epF_end (by omega), show i = n9 from by omega]) (fun _ h => h)
  · refine sv_aload_n (i := 0) (x := sv_r G 17 0) C dX4_errorPlace_10 rfl rfl ?_
    refine sv_iload_n (i := 1) (x := nI i) C dX4_errorPlace_11 rfl rfl ?_
    refine sv_callV (as := [_]) (rest := []) C (met_fitsAt l G _ _ _ i (by omega) hch) fX4_fitsAt kw_277 (sv_recv17 C) ⟨Nat.le_of_ble_eq_true rfl, Nat.le_of_ble_eq_true rfl⟩ (Nat.le_of_ble_eq_true rfl) dX4_errorPlace_12 ⟨Nat.zero_le _, Nat.zero_le _⟩  ?_
    refine sv_ri (fun v12 e12 => ?_)
    refine sv_if_ne C 20 dX4_errorPlace_15 (by decide) (fun q15 => ?_) (fun q15 => ?_)
    · refine sv_iinc (i := 1) (x := nI i) C (nI (i + 1)) [(0, .ref (sv_r G 17 0)), (1, .int (nI (i + 1)))] dX4_errorPlace_20 rfl (sv_incN i 1) (by decide) rfl ?_
      refine sv_goto C 2 dX4_errorPlace_23 (by decide) ?_
      exact ih (by omega) (hI.trans (epF_step (by omega) (fun h => q15 (e12.trans h))))
    · refine sv_iload_n (i := 1) (x := nI i) C dX4_errorPlace_18 rfl rfl ?_
      exact sv_iret C hr dX4_errorPlace_19 (Nat.le_of_ble_eq_true rfl) (Nat.le_of_ble_eq_true rfl) (by rw [hI, epF_hit (by omega) (e12.symm.trans q15)]) (fun _ h => h)

theorem epF_le (cd : vX) : ∀ t i, epF cd t i ≤ t + i
  | 0, i => by simp [epF]
  | t + 1, i => by
    have := epF_le cd t (i + 1)
    unfold epF
    split <;> omega
set_option maxHeartbeats 4000000 in
set_option maxRecDepth 100000 in
theorem met_isComplete (l : Launch) (G : sv_G) (z : Nat) (M : sv_M) (o : Int64) (n9 : Nat) (hn9 : M 9 60 = nI n9) (hn60 : n9 ≤ 60) (hch : ∀ i, i < 60 → chr (M 9 i)) : sv_Met l G yX4_isComplete cX4_isComplete 1 (some .boolean) 3 [.ref (sv_r G 17 0)] (sv_W G z M o) (some (.int (if n9 % 4 = 3 ∧ epF (M 9) n9 0 = n9 then 1 else 0))) (sv_W G z M o) := by
  refine sv_ofW (by decide) kw_630 (Nat.le_of_ble_eq_true rfl) ?_
  intro p e s mth args below meth c hr C _
  refine sv_sub (lv' := [(0, .ref (sv_r G 17 0))]) rfl ?_
  refine sv_aload_n (i := 0) (x := sv_r G 17 0) C dX4_isComplete_0 rfl rfl ?_
  refine sv_get_4_1 C kw_185 dX4_isComplete_1 ?_
  refine sv_set (v' := .int (nI n9)) (congrArg Value.int hn9) ?_
  refine sv_iconst (v := nI 4) C dX4_isComplete_4 (by decide) ?_
  refine sv_irem C dX4_isComplete_5 (by decide) ?_
  refine sv_set (v' := .int (nI (n9 % 4))) (congrArg Value.int (pk_rem (a := n9) (d := 4) (by omega) (by decide) (by decide))) ?_
  refine sv_iconst (v := nI 3) C dX4_isComplete_6 (by decide) ?_
  refine sv_icmp_neN C 25 dX4_isComplete_7 (by decide) (by omega) (by omega) (fun q7 => ?_) (fun q7 => ?_)
  · refine sv_iconst (v := nI 0) C dX4_isComplete_25 (by decide) ?_
    exact sv_zret C (by split; exact Or.inr rfl; exact Or.inl rfl) hr dX4_isComplete_26 (Nat.le_of_ble_eq_true rfl) (Nat.le_of_ble_eq_true rfl) (by rw [if_neg (fun h => q7 h.1)]; rfl) (fun _ h => h)
  · refine sv_aload_n (i := 0) (x := sv_r G 17 0) C dX4_isComplete_10 rfl rfl ?_
    refine sv_callV (as := []) (rest := []) C (met_errorPlace l G _ _ _ n9 hn9 hn60 hch) fX4_errorPlace kw_631 (sv_recv17 C) ⟨Nat.le_of_ble_eq_true rfl, Nat.le_of_ble_eq_true rfl⟩ (Nat.le_of_ble_eq_true rfl) dX4_isComplete_11 ⟨Nat.zero_le _, Nat.zero_le _⟩  ?_
    refine sv_riN (epF (M 9) n9 0) rfl ?_
    have hle := epF_le (M 9) n9 0
    refine sv_aload_n (i := 0) (x := sv_r G 17 0) C dX4_isComplete_14 rfl rfl ?_
    refine sv_get_4_1 C kw_185 dX4_isComplete_15 ?_
    refine sv_set (v' := .int (nI n9)) (congrArg Value.int hn9) ?_
    refine sv_icmp_neN C 25 dX4_isComplete_18 (by decide) (by omega) (by omega) (fun q18 => ?_) (fun q18 => ?_)
    · refine sv_iconst (v := nI 0) C dX4_isComplete_25 (by decide) ?_
      exact sv_zret C (by split; exact Or.inr rfl; exact Or.inl rfl) hr dX4_isComplete_26 (Nat.le_of_ble_eq_true rfl) (Nat.le_of_ble_eq_true rfl) (by rw [if_neg (fun h => q18 h.2)]; rfl) (fun _ h => h)
    · refine sv_iconst (v := nI 1) C dX4_isComplete_21 (by decide) ?_
      refine sv_goto C 26 dX4_isComplete_22 (by decide) ?_
      exact sv_zret C (by split; exact Or.inr rfl; exact Or.inl rfl) hr dX4_isComplete_26 (Nat.le_of_ble_eq_true rfl) (Nat.le_of_ble_eq_true rfl) (by rw [if_pos ⟨q7, q18⟩]; rfl) (fun _ h => h)

set_option maxHeartbeats 4000000 in
set_option maxRecDepth 100000 in
theorem met_parts (l : Launch) (G : sv_G) (z : Nat) (M : sv_M) (o : Int64) (n9 : Nat) (hn9 : M 9 60 = nI n9) (hn60 : n9 ≤ 60) : sv_Met l G yX4_parts cX4_parts 1 (some .int) 0 [.ref (sv_r G 17 0)] (sv_W G z M o) (some (.int (nI ((n9 + 1) / 4)))) (sv_W G z M o) := by
  refine sv_ofW (by decide) kw_636 (Nat.le_of_ble_eq_true rfl) ?_
  intro p e s mth args below meth c hr C _
  refine sv_sub (lv' := [(0, .ref (sv_r G 17 0))]) rfl ?_
  refine sv_aload_n (i := 0) (x := sv_r G 17 0) C dX4_parts_0 rfl rfl ?_
  refine sv_get_4_1 C kw_185 dX4_parts_1 ?_
  refine sv_set (v' := .int (nI n9)) (congrArg Value.int hn9) ?_
  refine sv_iconst (v := nI 1) C dX4_parts_4 (by decide) ?_
  refine sv_iadd C dX4_parts_5 ?_
  refine sv_set (v' := .int (nI (n9 + 1))) (congrArg Value.int (nI_add _ _)) ?_
  refine sv_iconst (v := nI 4) C dX4_parts_6 (by decide) ?_
  refine sv_idiv C dX4_parts_7 (by decide) ?_
  refine sv_set (v' := .int (nI ((n9 + 1) / 4))) (congrArg Value.int (pk_div (a := n9 + 1) (d := 4) (by omega) (by decide) (by decide))) ?_
  exact sv_iret C hr dX4_parts_8 (Nat.le_of_ble_eq_true rfl) (Nat.le_of_ble_eq_true rfl) rfl (fun _ h => h)

set_option maxHeartbeats 4000000 in
set_option maxRecDepth 100000 in
theorem met_startOf (l : Launch) (G : sv_G) (z : Nat) (M : sv_M) (o : Int64) (i : Nat) (hi : i < 15) (hch : ∀ i, i < 60 → chr (M 9 i)) : sv_Met l G yX4_startOf cX4_startOf 2 (some .int) 1 [.ref (sv_r G 17 0), .int (nI i)] (sv_W G z M o) (some (.int (M 9 (4 * i) - 48))) (sv_W G z M o) := by
  refine sv_ofW (by decide) kw_645 (Nat.le_of_ble_eq_true rfl) ?_
  intro p e s mth args below meth c hr C _
  refine sv_sub (lv' := [(0, .ref (sv_r G 17 0)), (1, .int (nI i))]) rfl ?_
  refine sv_aload_n (i := 0) (x := sv_r G 17 0) C dX4_startOf_0 rfl rfl ?_
  refine sv_iload_n (i := 1) (x := nI i) C dX4_startOf_1 rfl rfl ?_
  refine sv_iconst (v := nI 4) C dX4_startOf_2 (by decide) ?_
  refine sv_imul C dX4_startOf_3 ?_
  refine sv_set (v' := .int (nI (i * 4))) (congrArg Value.int (pk_mul _ _)) ?_
  refine sv_callV (as := [_]) (rest := []) C (met_codeAt l G _ _ _ (i * 4) (by omega) hch) fX4_codeAt kw_281 (sv_recv17 C) ⟨Nat.le_of_ble_eq_true rfl, Nat.le_of_ble_eq_true rfl⟩ (Nat.le_of_ble_eq_true rfl) dX4_startOf_4 ⟨Nat.zero_le _, Nat.zero_le _⟩  ?_
  refine sv_ri (fun v4 e4 => ?_)
  refine sv_bipush (v := nI 48) C dX4_startOf_7 (by decide) ?_
  refine sv_isub C dX4_startOf_9 ?_
  refine sv_topi (fun v9 e9 => ?_)
  exact sv_iret C hr dX4_startOf_10 (Nat.le_of_ble_eq_true rfl) (Nat.le_of_ble_eq_true rfl) (by rw [e9, e4, Nat.mul_comm]; rfl) (fun _ h => h)

set_option maxHeartbeats 4000000 in
set_option maxRecDepth 100000 in
theorem met_goalOf (l : Launch) (G : sv_G) (z : Nat) (M : sv_M) (o : Int64) (i : Nat) (hi : i < 15) (hch : ∀ i, i < 60 → chr (M 9 i)) : sv_Met l G yX4_goalOf cX4_goalOf 2 (some .int) 1 [.ref (sv_r G 17 0), .int (nI i)] (sv_W G z M o) (some (.int (M 9 (4 * i + 2) - 48))) (sv_W G z M o) := by
  refine sv_ofW (by decide) kw_649 (Nat.le_of_ble_eq_true rfl) ?_
  intro p e s mth args below meth c hr C _
  refine sv_sub (lv' := [(0, .ref (sv_r G 17 0)), (1, .int (nI i))]) rfl ?_
  refine sv_aload_n (i := 0) (x := sv_r G 17 0) C dX4_goalOf_0 rfl rfl ?_
  refine sv_iload_n (i := 1) (x := nI i) C dX4_goalOf_1 rfl rfl ?_
  refine sv_iconst (v := nI 4) C dX4_goalOf_2 (by decide) ?_
  refine sv_imul C dX4_goalOf_3 ?_
  refine sv_set (v' := .int (nI (i * 4))) (congrArg Value.int (pk_mul _ _)) ?_
  refine sv_iconst (v := nI 2) C dX4_goalOf_4 (by decide) ?_
  refine sv_iadd C dX4_goalOf_5 ?_
  refine sv_set (v' := .int (nI (i * 4 + 2))) (congrArg Value.int (nI_add _ _)) ?_
  refine sv_callV (as := [_]) (rest := []) C (met_codeAt l G _ _ _ (i * 4 + 2) (by omega) hch) fX4_codeAt kw_281 (sv_recv17 C) ⟨Nat.le_of_ble_eq_true rfl, Nat.le_of_ble_eq_true rfl⟩ (Nat.le_of_ble_eq_true rfl) dX4_goalOf_6 ⟨Nat.zero_le _, Nat.zero_le _⟩  ?_
  refine sv_ri (fun v6 e6 => ?_)
  refine sv_bipush (v := nI 48) C dX4_goalOf_9 (by decide) ?_
  refine sv_isub C dX4_goalOf_11 ?_
  refine sv_topi (fun v11 e11 => ?_)
  exact sv_iret C hr dX4_goalOf_12 (Nat.le_of_ble_eq_true rfl) (Nat.le_of_ble_eq_true rfl) (by rw [e11, e6, Nat.mul_comm]; rfl) (fun _ h => h)

