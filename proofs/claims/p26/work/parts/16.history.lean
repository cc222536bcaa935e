theorem met_S_copy (l : Launch) (G : sv_G) (z : Nat) (M : sv_M) (o : Int64) (j1 j2 : Nat) (h1 : j1 < 8) (h2 : j2 < 8) (hne : j1 ≠ j2) (b6 : M j1 6 = 0 ∨ M j1 6 = 1) (b7 : M j1 7 = 0 ∨ M j1 7 = 1) : sv_Met l G yX3_copyFrom cX3_copyFrom 2 none 2 [.ref (sv_r G 0 j2), .ref (sv_r G 0 j1)] (sv_W G z M o) none (sv_W G z (sv_u M j2 (M j1)) o) := sv_Met_post (met_S_copyFrom l G z M o j1 j2 h1 h2 hne b6 b7) (fun H h => h.cpS h2)
set_option maxHeartbeats 4000000 in
set_option maxRecDepth 100000 in
theorem met_stateAt (l : Launch) (G : sv_G) (z : Nat) (M : sv_M) (o : Int64) (k : Nat) (hk : k < 6) : sv_Met l G yX1_stateAt cX1_stateAt 2 (some (.object "StairLight$Stairs")) 0 [.ref (sv_r G 15 0), .int (nI k)] (sv_W G z M o) (some (.ref (sv_r G 0 (2 + k)))) (sv_W G z M o) := by
  refine sv_ofW (by decide) kw_507 (Nat.le_of_ble_eq_true rfl) ?_
  intro p e s mth args below meth c hr C _
  refine sv_sub (lv' := [(0, .ref (sv_r G 15 0)), (1, .int (nI k))]) rfl ?_
  refine sv_iload_n (i := 1) (x := nI k) C dX1_stateAt_0 rfl rfl ?_
  refine sv_if_lt C 22 dX1_stateAt_1 (by decide) (fun q1 => ?_) (fun q1 => ?_)
  · exact absurd q1 (nI_pos (by omega))
  · refine sv_iload_n (i := 1) (x := nI k) C dX1_stateAt_4 rfl rfl ?_
    refine sv_aload_n (i := 0) (x := sv_r G 15 0) C dX1_stateAt_5 rfl rfl ?_
    refine sv_get_1_0 C kw_145 dX1_stateAt_6 ?_
    refine sv_alenS (v := nI 6) C rfl dX1_stateAt_9 ?_
    refine sv_icmp_geN C 22 dX1_stateAt_10 (by decide) (by omega) (by omega) (fun q10 => ?_) (fun q10 => ?_)
    · exact absurd q10 (by omega)
    · refine sv_aload_n (i := 0) (x := sv_r G 15 0) C dX1_stateAt_13 rfl rfl ?_
      refine sv_get_1_0 C kw_145 dX1_stateAt_14 ?_
      refine sv_iload_n (i := 1) (x := nI k) C dX1_stateAt_17 rfl rfl ?_
      refine sv_aldq C (vp_in_nI (by omega) (by decide)) dX1_stateAt_18 ?_
      refine sv_set (v' := .ref (sv_r G 0 (2 + k))) (by rw [nI_clamp (by omega)]) ?_
      refine sv_goto C 23 dX1_stateAt_19 (by decide) ?_
      exact sv_aret C hr (Or.inl ⟨_, rfl⟩) dX1_stateAt_23 (Nat.le_of_ble_eq_true rfl) (Nat.le_of_ble_eq_true rfl) rfl (fun _ h => h)

set_option maxHeartbeats 4000000 in
set_option maxRecDepth 100000 in
theorem met_save_lo (l : Launch) (G : sv_G) (z : Nat) (M : sv_M) (o : Int64) (od hd k : Nat) (hod : od < 6) (h0 : M 8 0 = nI od) (h1 : M 8 1 = nI hd) (hhd : hd < 6) (hk : k = (od + hd) % 6) (b6 : M 0 6 = 0 ∨ M 0 6 = 1) (b7 : M 0 7 = 0 ∨ M 0 7 = 1) : sv_Met l G yX1_save cX1_save 3 none 3 [.ref (sv_r G 15 0), .ref (sv_r G 0 0)] (sv_W G z M o) none (sv_W G z (svM od (hd + 1) k M) o) := by
  refine sv_ofW (by decide) kw_503 (Nat.le_of_ble_eq_true rfl) ?_
  intro p e s mth args below meth c hr C _
  refine sv_sub (lv' := [(0, .ref (sv_r G 15 0)), (1, .ref (sv_r G 0 0))]) rfl ?_
  refine sv_aload_n (i := 0) (x := sv_r G 15 0) C dX1_save_0 rfl rfl ?_
  refine sv_get_1_2 C kw_147 dX1_save_1 ?_
  refine sv_set (v' := .int (nI hd)) (congrArg Value.int h1) ?_
  refine sv_bipush (v := nI 6) C dX1_save_4 (by decide) ?_
  refine sv_icmp_ltN C 32 dX1_save_6 (by decide) (by omega) (by omega) (fun q6 => ?_) (fun q6 => ?_)
  · refine sv_aload_n (i := 0) (x := sv_r G 15 0) C dX1_save_32 rfl rfl ?_
    refine sv_aload_n (i := 0) (x := sv_r G 15 0) C dX1_save_33 rfl rfl ?_
    refine sv_get_1_1 C kw_146 dX1_save_34 ?_
    refine sv_set (v' := .int (nI od)) (congrArg Value.int h0) ?_
    refine sv_aload_n (i := 0) (x := sv_r G 15 0) C dX1_save_37 rfl rfl ?_
    refine sv_get_1_2 C kw_147 dX1_save_38 ?_
    refine sv_set (v' := .int (nI hd)) (congrArg Value.int h1) ?_
    refine sv_iadd C dX1_save_41 ?_
    refine sv_set (v' := .int (nI (od + hd))) (congrArg Value.int (nI_add _ _)) ?_
    refine sv_bipush (v := nI 6) C dX1_save_42 (by decide) ?_
    refine sv_irem C dX1_save_44 (by decide) ?_
    refine sv_set (v' := .int (nI k)) (congrArg Value.int (by rw [hk]; exact pk_rem (d := 6) (by omega) (by decide) (by decide))) ?_
    refine sv_callV (as := [_]) (rest := []) C (met_stateAt l G _ _ _ k (by omega)) fX1_stateAt kw_504 (sv_recv15 C) ⟨Nat.le_of_ble_eq_true rfl, Nat.le_of_ble_eq_true rfl⟩ (Nat.le_of_ble_eq_true rfl) dX1_save_45 ⟨Nat.zero_le _, Nat.zero_le _⟩  ?_
    refine sv_ra ?_
    
    refine sv_astore_n (i := 2) C [(0, .ref (sv_r G 15 0)), (1, .ref (sv_r G 0 0)), (2, .ref (sv_r G 0 (2 + k)))] dX1_save_48 rfl (by decide) rfl ?_
    refine sv_aload_n (i := 2) (x := sv_r G 0 (2 + k)) C dX1_save_49 rfl rfl ?_
    refine sv_ifnull C dX1_save_50 ?_
    refine sv_aload_n (i := 2) (x := sv_r G 0 (2 + k)) C dX1_save_53 rfl rfl ?_
    refine sv_aload_n (i := 1) (x := sv_r G 0 0) C dX1_save_54 rfl rfl ?_
    refine sv_callV (as := [_]) (rest := []) C (met_S_copy l G _ _ _ 0 (2 + k) (by decide) (by omega) (by omega) b6 b7) fX3_copyFrom kw_508 (sv_recv0 C (by omega)) ⟨Nat.le_of_ble_eq_true rfl, Nat.le_of_ble_eq_true rfl⟩ (Nat.le_of_ble_eq_true rfl) dX1_save_55 ⟨Nat.zero_le _, Nat.zero_le _⟩  ?_
    refine sv_rv ?_
    refine sv_aload_n (i := 0) (x := sv_r G 15 0) C dX1_save_58 rfl rfl ?_
    refine sv_dup C dX1_save_59 rfl ?_
    refine sv_get_1_2 C kw_147 dX1_save_60 ?_
    refine sv_set (v' := .int (nI hd)) (congrArg Value.int (by rw [sv_un (by omega)]; exact h1)) ?_
    refine sv_iconst (v := nI 1) C dX1_save_63 (by decide) ?_
    refine sv_iadd C dX1_save_64 ?_
    refine sv_set (v' := .int (nI (hd + 1))) (congrArg Value.int (nI_add _ _)) ?_
    refine sv_put_1_2 C kw_147 dX1_save_65 ?_
    exact sv_vret C hr dX1_save_68 (Nat.le_of_ble_eq_true rfl) (Nat.le_of_ble_eq_true rfl) (sv_eqW (by unfold svM; rw [sv_wu, sv_un (show 8 ≠ 2 + k by omega), sv_uc (by omega), ← h0, upd_i]))
  · exact absurd q6 (by omega)

set_option maxHeartbeats 4000000 in
set_option maxRecDepth 100000 in
theorem met_save_hi (l : Launch) (G : sv_G) (z : Nat) (M : sv_M) (o : Int64) (od hd k : Nat) (hod : od < 6) (h0 : M 8 0 = nI od) (h1 : M 8 1 = nI hd) (hhd : hd = 6) (hk : k = od) (b6 : M 0 6 = 0 ∨ M 0 6 = 1) (b7 : M 0 7 = 0 ∨ M 0 7 = 1) : sv_Met l G yX1_save cX1_save 3 none 3 [.ref (sv_r G 15 0), .ref (sv_r G 0 0)] (sv_W G z M o) none (sv_W G z (svM ((od + 1) % 6) 6 k M) o) := by
  refine sv_ofW (by decide) kw_503 (Nat.le_of_ble_eq_true rfl) ?_
  intro p e s mth args below meth c hr C _
  refine sv_sub (lv' := [(0, .ref (sv_r G 15 0)), (1, .ref (sv_r G 0 0))]) rfl ?_
  refine sv_aload_n (i := 0) (x := sv_r G 15 0) C dX1_save_0 rfl rfl ?_
  refine sv_get_1_2 C kw_147 dX1_save_1 ?_
  refine sv_set (v' := .int (nI hd)) (congrArg Value.int h1) ?_
  refine sv_bipush (v := nI 6) C dX1_save_4 (by decide) ?_
  refine sv_icmp_ltN C 32 dX1_save_6 (by decide) (by omega) (by omega) (fun q6 => ?_) (fun q6 => ?_)
  · exact absurd q6 (by omega)
  · refine sv_aload_n (i := 0) (x := sv_r G 15 0) C dX1_save_9 rfl rfl ?_
    refine sv_aload_n (i := 0) (x := sv_r G 15 0) C dX1_save_10 rfl rfl ?_
    refine sv_get_1_1 C kw_146 dX1_save_11 ?_
    refine sv_set (v' := .int (nI od)) (congrArg Value.int h0) ?_
    refine sv_iconst (v := nI 1) C dX1_save_14 (by decide) ?_
    refine sv_iadd C dX1_save_15 ?_
    refine sv_set (v' := .int (nI (od + 1))) (congrArg Value.int (nI_add _ _)) ?_
    refine sv_bipush (v := nI 6) C dX1_save_16 (by decide) ?_
    refine sv_irem C dX1_save_18 (by decide) ?_
    refine sv_set (v' := .int (nI ((od + 1) % 6))) (congrArg Value.int (pk_rem (a := od + 1) (d := 6) (by omega) (by decide) (by decide))) ?_
    refine sv_put_1_1 C kw_146 dX1_save_19 ?_
    refine sv_aload_n (i := 0) (x := sv_r G 15 0) C dX1_save_22 rfl rfl ?_
    refine sv_dup C dX1_save_23 rfl ?_
    refine sv_get_1_2 C kw_147 dX1_save_24 ?_
    refine sv_set (v' := .int (nI hd)) (congrArg Value.int (by rw [sv_wu, sv_us, upd_n (by decide)]; exact h1)) ?_
    refine sv_iconst (v := nI 1) C dX1_save_27 (by decide) ?_
    refine sv_isub C dX1_save_28 ?_
    refine sv_set (v' := .int (nI 5)) (congrArg Value.int (by subst hhd; exact pk_sub (by decide))) ?_
    refine sv_put_1_2 C kw_147 dX1_save_29 ?_
    refine sv_aload_n (i := 0) (x := sv_r G 15 0) C dX1_save_32 rfl rfl ?_
    refine sv_aload_n (i := 0) (x := sv_r G 15 0) C dX1_save_33 rfl rfl ?_
    refine sv_get_1_1 C kw_146 dX1_save_34 ?_
    refine sv_set (v' := .int (nI ((od + 1) % 6))) (congrArg Value.int (by simp only [sv_wu, sv_us, sv_uu]; rw [upd_n (by decide), upd_s])) ?_
    refine sv_aload_n (i := 0) (x := sv_r G 15 0) C dX1_save_37 rfl rfl ?_
    refine sv_get_1_2 C kw_147 dX1_save_38 ?_
    refine sv_set (v' := .int (nI 5)) (congrArg Value.int (by simp only [sv_wu, sv_us, sv_uu]; rw [upd_s])) ?_
    refine sv_iadd C dX1_save_41 ?_
    refine sv_set (v' := .int (nI ((od + 1) % 6 + 5))) (congrArg Value.int (nI_add _ _)) ?_
    refine sv_bipush (v := nI 6) C dX1_save_42 (by decide) ?_
    refine sv_irem C dX1_save_44 (by decide) ?_
    refine sv_set (v' := .int (nI k)) (congrArg Value.int (by rw [show k = ((od + 1) % 6 + 5) % 6 by omega]; exact pk_rem (a := (od + 1) % 6 + 5) (d := 6) (by omega) (by decide) (by decide))) ?_
    refine sv_callV (as := [_]) (rest := []) C (met_stateAt l G _ _ _ k (by omega)) fX1_stateAt kw_504 (sv_recv15 C) ⟨Nat.le_of_ble_eq_true rfl, Nat.le_of_ble_eq_true rfl⟩ (Nat.le_of_ble_eq_true rfl) dX1_save_45 ⟨Nat.zero_le _, Nat.zero_le _⟩  ?_
    refine sv_ra ?_
    
    refine sv_astore_n (i := 2) C [(0, .ref (sv_r G 15 0)), (1, .ref (sv_r G 0 0)), (2, .ref (sv_r G 0 (2 + k)))] dX1_save_48 rfl (by decide) rfl ?_
    refine sv_aload_n (i := 2) (x := sv_r G 0 (2 + k)) C dX1_save_49 rfl rfl ?_
    refine sv_ifnull C dX1_save_50 ?_
    refine sv_aload_n (i := 2) (x := sv_r G 0 (2 + k)) C dX1_save_53 rfl rfl ?_
    refine sv_aload_n (i := 1) (x := sv_r G 0 0) C dX1_save_54 rfl rfl ?_
    refine sv_callV (as := [_]) (rest := []) C (met_S_copy l G _ _ _ 0 (2 + k) (by decide) (by omega) (by omega) (by simp only [sv_wu, sv_uu, sv_us]; rw [sv_un (by decide)]; exact b6) (by simp only [sv_wu, sv_uu, sv_us]; rw [sv_un (by decide)]; exact b7)) fX3_copyFrom kw_508 (sv_recv0 C (by omega)) ⟨Nat.le_of_ble_eq_true rfl, Nat.le_of_ble_eq_true rfl⟩ (Nat.le_of_ble_eq_true rfl) dX1_save_55 ⟨Nat.zero_le _, Nat.zero_le _⟩  ?_
    refine sv_rv ?_
    refine sv_aload_n (i := 0) (x := sv_r G 15 0) C dX1_save_58 rfl rfl ?_
    refine sv_dup C dX1_save_59 rfl ?_
    refine sv_get_1_2 C kw_147 dX1_save_60 ?_
    refine sv_set (v' := .int (nI 5)) (congrArg Value.int (by simp only [sv_wu, sv_uu, sv_us]; rw [sv_un (by omega), sv_us, upd_s])) ?_
    refine sv_iconst (v := nI 1) C dX1_save_63 (by decide) ?_
    refine sv_iadd C dX1_save_64 ?_
    refine sv_set (v' := .int (nI 6)) (congrArg Value.int (nI_add _ _)) ?_
    refine sv_put_1_2 C kw_147 dX1_save_65 ?_
    exact sv_vret C hr dX1_save_68 (Nat.le_of_ble_eq_true rfl) (Nat.le_of_ble_eq_true rfl) (sv_eqW (by unfold svM; simp only [sv_wu, sv_uu, sv_us]; rw [sv_un (show 0 ≠ 8 by decide), sv_un (show 8 ≠ 2 + k by omega), sv_us, sv_uc (show 2 + k ≠ 8 by omega), sv_uu, upd_u]))

set_option maxHeartbeats 4000000 in
set_option maxRecDepth 100000 in
theorem met_restore (l : Launch) (G : sv_G) (z : Nat) (M : sv_M) (o : Int64) (od hd k : Nat) (hod : od < 6) (h0 : M 8 0 = nI od) (h1 : M 8 1 = nI hd) (hhd : 0 < hd) (hd6 : hd ≤ 6) (hk : k = (od + (hd - 1)) % 6) (b6 : M (2 + k) 6 = 0 ∨ M (2 + k) 6 = 1) (b7 : M (2 + k) 7 = 0 ∨ M (2 + k) 7 = 1) : sv_Met l G yX1_restore cX1_restore 3 none 3 [.ref (sv_r G 15 0), .ref (sv_r G 0 0)] (sv_W G z M o) none (sv_W G z (rsM (hd - 1) k M) o) := by
  refine sv_ofW (by decide) kw_564 (Nat.le_of_ble_eq_true rfl) ?_
  intro p e s mth args below meth c hr C _
  refine sv_sub (lv' := [(0, .ref (sv_r G 15 0)), (1, .ref (sv_r G 0 0))]) rfl ?_
  refine sv_aload_n (i := 0) (x := sv_r G 15 0) C dX1_restore_0 rfl rfl ?_
  refine sv_get_1_2 C kw_147 dX1_restore_1 ?_
  refine sv_set (v' := .int (nI hd)) (congrArg Value.int h1) ?_
  refine sv_if_gt C 8 dX1_restore_4 (by decide) (fun q4 => ?_) (fun q4 => ?_)
  · refine sv_aload_n (i := 0) (x := sv_r G 15 0) C dX1_restore_8 rfl rfl ?_
    refine sv_dup C dX1_restore_9 rfl ?_
    refine sv_get_1_2 C kw_147 dX1_restore_10 ?_
    refine sv_set (v' := .int (nI hd)) (congrArg Value.int h1) ?_
    refine sv_iconst (v := nI 1) C dX1_restore_13 (by decide) ?_
    refine sv_isub C dX1_restore_14 ?_
    refine sv_set (v' := .int (nI (hd - 1))) (congrArg Value.int (pk_sub (by omega))) ?_
    refine sv_put_1_2 C kw_147 dX1_restore_15 ?_
    refine sv_aload_n (i := 0) (x := sv_r G 15 0) C dX1_restore_18 rfl rfl ?_
    refine sv_aload_n (i := 0) (x := sv_r G 15 0) C dX1_restore_19 rfl rfl ?_
    refine sv_get_1_1 C kw_146 dX1_restore_20 ?_
    refine sv_set (v' := .int (nI od)) (congrArg Value.int (by simp only [sv_wu, sv_us]; rw [upd_n (by decide)]; exact h0)) ?_
    refine sv_aload_n (i := 0) (x := sv_r G 15 0) C dX1_restore_23 rfl rfl ?_
    refine sv_get_1_2 C kw_147 dX1_restore_24 ?_
    refine sv_set (v' := .int (nI (hd - 1))) (congrArg Value.int (by simp only [sv_wu, sv_us]; rw [upd_s])) ?_
    refine sv_iadd C dX1_restore_27 ?_
    refine sv_set (v' := .int (nI (od + (hd - 1)))) (congrArg Value.int (nI_add _ _)) ?_
    refine sv_bipush (v := nI 6) C dX1_restore_28 (by decide) ?_
    refine sv_irem C dX1_restore_30 (by decide) ?_
    refine sv_set (v' := .int (nI k)) (congrArg Value.int (by rw [hk]; exact pk_rem (d := 6) (by omega) (by decide) (by decide))) ?_
    refine sv_callV (as := [_]) (rest := []) C (met_stateAt l G _ _ _ k (by omega)) fX1_stateAt kw_504 (sv_recv15 C) ⟨Nat.le_of_ble_eq_true rfl, Nat.le_of_ble_eq_true rfl⟩ (Nat.le_of_ble_eq_true rfl) dX1_restore_31 ⟨Nat.zero_le _, Nat.zero_le _⟩  ?_
    refine sv_ra ?_
    
    refine sv_astore_n (i := 2) C [(0, .ref (sv_r G 15 0)), (1, .ref (sv_r G 0 0)), (2, .ref (sv_r G 0 (2 + k)))] dX1_restore_34 rfl (by decide) rfl ?_
    refine sv_aload_n (i := 2) (x := sv_r G 0 (2 + k)) C dX1_restore_35 rfl rfl ?_
    refine sv_ifnull C dX1_restore_36 ?_
    refine sv_aload_n (i := 1) (x := sv_r G 0 0) C dX1_restore_39 rfl rfl ?_
    refine sv_aload_n (i := 2) (x := sv_r G 0 (2 + k)) C dX1_restore_40 rfl rfl ?_
    refine sv_callV (as := [_]) (rest := []) C (met_S_copy l G _ _ _ (2 + k) 0 (by omega) (by decide) (by omega) (by rw [sv_wu, sv_un (by omega)]; exact b6) (by rw [sv_wu, sv_un (by omega)]; exact b7)) fX3_copyFrom kw_508 (sv_recv0 C (by decide)) ⟨Nat.le_of_ble_eq_true rfl, Nat.le_of_ble_eq_true rfl⟩ (Nat.le_of_ble_eq_true rfl) dX1_restore_41 ⟨Nat.zero_le _, Nat.zero_le _⟩  ?_
    refine sv_rv ?_
    exact sv_vret C hr dX1_restore_44 (Nat.le_of_ble_eq_true rfl) (Nat.le_of_ble_eq_true rfl) (sv_eqW (by unfold rsM; simp only [sv_wu]; rw [sv_un (show 2 + k ≠ 8 by omega)]))
  · exact absurd (Int32.not_lt.mp q4) (nI_nle hhd (by omega))








theorem epF_le (cd : vX) : ∀ t i, epF cd t i ≤ t + i
  | 0, i => by simp [epF]
  | t + 1, i => by
    have := epF_le cd t (i + 1)
    unfold epF
    split <;> omega




