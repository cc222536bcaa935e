set_option maxHeartbeats 800000 in
set_option maxRecDepth 100000 in
theorem met_R_firstError (l : Launch) (G : sv_G) (z : Nat) (M : sv_M) (o : Int64) (n9 : Nat) (hn9 : M 15 1 = nI n9) (hn60 : n9 ≤ 60) : sv_Met l G yX6_firstError cX6_firstError 2 (some .int) 4 [.ref (sv_r G 19 0)] (sv_W G z M o) (some (.int (nI (epF (M 13) n9 0)))) (sv_W3 G z (thr 0 M) n9 o) := by
  refine sv_ofW (by decide) kw_874 (Nat.le_of_ble_eq_true rfl) ?_
  intro p e s mth args below meth c hr C _
  refine sv_sub (lv' := [(0, .ref (sv_r G 19 0))]) rfl ?_
  refine sv_aload_n (i := 0) (x := sv_r G 19 0) C dX6_firstError_0 rfl rfl ?_
  refine sv_iconst (v := nI 0) C dX6_firstError_1 (by decide) ?_
  refine sv_put_6_6 C kw_728 dX6_firstError_2 ?_
  refine sv_wd (sv_eqW (show _ = thr 0 M from thr_w)) ?_
  refine sv_aload_n (i := 0) (x := sv_r G 19 0) C dX6_firstError_5 rfl rfl ?_
  refine sv_callV (as := []) (rest := []) C (met_R_isText l G _ _ _ n9 (by rw [thr_15 (by decide)]; exact hn9) hn60) fX6_isText kw_875 (sv_recv19 C) ⟨Nat.le_of_ble_eq_true rfl, Nat.le_of_ble_eq_true rfl⟩ (Nat.le_of_ble_eq_true rfl) dX6_firstError_6 ⟨Nat.zero_le _, Nat.zero_le _⟩  ?_
  refine sv_riS (tcI (M 13) n9) (by rw [thr_n (by decide)]) ?_
  refine sv_exW3 (fun tk Z hz => ?_)
  rw [thr_n (show 13 ≠ 15 by decide), thr_n (show 14 ≠ 15 by decide)] at hz
  refine sv_wd (sv_eqW (show _ = sv_u (sv_u (thr 0 M) 15 (txY (M 13) n9 tk (thr 0 M 15))) 14 Z from by rw [thr_n (show 13 ≠ 15 by decide)])) ?_
  refine sv_istore_n (i := 1) C [(0, .ref (sv_r G 19 0)), (1, .int (tcI (M 13) n9))] dX6_firstError_9 rfl (by decide) rfl ?_
  refine sv_iload_n (i := 1) (x := tcI (M 13) n9) C dX6_firstError_10 rfl rfl ?_
  refine sv_if_ne C 28 dX6_firstError_11 (by decide) (fun q11 => ?_) (fun q11 => ?_)
  · refine sv_aload_n (i := 0) (x := sv_r G 19 0) C dX6_firstError_28 rfl rfl ?_
    refine sv_get_6_5 C kw_727 dX6_firstError_29 ?_
    refine sv_set (v' := .int (nI n9)) (congrArg Value.int (by rw [sv_un (show 15 ≠ 14 by decide), sv_us]; unfold txY; rw [upd_n (by decide), upd_n (by decide), upd_n (by decide), thr_15 (by decide)]; exact hn9)) ?_
    exact sv_iret C hr dX6_firstError_32 (Nat.le_of_ble_eq_true rfl) (Nat.le_of_ble_eq_true rfl) (by rw [(Decidable.byContradiction fun h => q11 (if_neg h) : n9 % 4 = 3 ∧ epF (M 13) n9 0 = n9).2]) (fun H h => ⟨tk, Z, sv_eqW (by rw [thr_n (show 13 ≠ 15 by decide)]) H h, by rw [thr_n (show 13 ≠ 15 by decide), thr_n (show 14 ≠ 15 by decide)]; exact hz⟩)
  · refine sv_aload_n (i := 0) (x := sv_r G 19 0) C dX6_firstError_14 rfl rfl ?_
    refine sv_get_6_8 C kw_730 dX6_firstError_15 ?_
    refine sv_set (v' := .int (if epF (M 13) n9 0 < n9 then 1 else 0)) (congrArg Value.int (by rw [sv_un (show 15 ≠ 14 by decide), sv_us]; unfold txY; rw [upd_s])) ?_
    refine sv_if_eq C 28 dX6_firstError_18 (by decide) (fun q18 => ?_) (fun q18 => ?_)
    · refine sv_aload_n (i := 0) (x := sv_r G 19 0) C dX6_firstError_28 rfl rfl ?_
      refine sv_get_6_5 C kw_727 dX6_firstError_29 ?_
      refine sv_set (v' := .int (nI n9)) (congrArg Value.int (by rw [sv_un (show 15 ≠ 14 by decide), sv_us]; unfold txY; rw [upd_n (by decide), upd_n (by decide), upd_n (by decide), thr_15 (by decide)]; exact hn9)) ?_
      exact sv_iret C hr dX6_firstError_32 (Nat.le_of_ble_eq_true rfl) (Nat.le_of_ble_eq_true rfl) (by have hle := epF_le (M 13) n9 0; rw [show epF (M 13) n9 0 = n9 from by rcases Nat.lt_or_ge (epF (M 13) n9 0) n9 with h | h; (rw [if_pos h] at q18; exact absurd q18 (by decide)); omega]) (fun H h => ⟨tk, Z, sv_eqW (by rw [thr_n (show 13 ≠ 15 by decide)]) H h, by rw [thr_n (show 13 ≠ 15 by decide), thr_n (show 14 ≠ 15 by decide)]; exact hz⟩)
    · refine sv_aload_n (i := 0) (x := sv_r G 19 0) C dX6_firstError_21 rfl rfl ?_
      refine sv_get_6_7 C kw_729 dX6_firstError_22 ?_
      refine sv_set (v' := .int (nI (epF (M 13) n9 0))) (congrArg Value.int (by rw [sv_un (show 15 ≠ 14 by decide), sv_us]; unfold txY; rw [upd_n (by decide), upd_n (by decide), upd_s])) ?_
      refine sv_goto C 32 dX6_firstError_25 (by decide) ?_
      exact sv_iret C hr dX6_firstError_32 (Nat.le_of_ble_eq_true rfl) (Nat.le_of_ble_eq_true rfl) rfl (fun H h => ⟨tk, Z, sv_eqW (by rw [thr_n (show 13 ≠ 15 by decide)]) H h, by rw [thr_n (show 13 ≠ 15 by decide), thr_n (show 14 ≠ 15 by decide)]; exact hz⟩)

set_option maxHeartbeats 800000 in
set_option maxRecDepth 100000 in
theorem met_R_comeAll (l : Launch) (G : sv_G) (z : Nat) (M : sv_M) (o : Int64) (kp : Nat) (hkp : M 15 0 = nI kp) (hk6 : kp ≤ 6) (n9 : Nat) (hn9 : M 15 1 = nI n9) (hn60 : n9 ≤ 60) (w : Nat → Nat) (hro : cmaC n9 (M 13) = 0 → ∀ k, k < (n9 + 1) / 4 → rok (M 13) w (M 10) k) : sv_Met l G yX6_comeAll cX6_comeAll 3 (some .int) 4 [.ref (sv_r G 19 0)] (sv_W G z M o) (some (.int (rR (cmaC n9 (M 13)) (rcx (M 13) w (M 10) ((n9 + 1) / 4) 4 - M 10 4)))) (sv_W5 G z (rW (cmaC n9 (M 13)) (cmM kp (rcx (M 13) w (M 10) ((n9 + 1) / 4)) M) M) o) := by
  refine sv_ofW (by decide) kw_894 (Nat.le_of_ble_eq_true rfl) ?_
  intro p e s mth args below meth c hr C _
  refine sv_sub (lv' := [(0, .ref (sv_r G 19 0))]) rfl ?_
  refine sv_aload_n (i := 0) (x := sv_r G 19 0) C dX6_comeAll_0 rfl rfl ?_
  refine sv_iconst (v := nI 0) C dX6_comeAll_1 (by decide) ?_
  refine sv_put_6_6 C kw_728 dX6_comeAll_2 ?_
  refine sv_wd (sv_eqW (show _ = thr 0 M from thr_w)) ?_
  refine sv_aload_n (i := 0) (x := sv_r G 19 0) C dX6_comeAll_5 rfl rfl ?_
  refine sv_callV (as := []) (rest := []) C (met_R_isText l G _ _ _ n9 (by rw [thr_15 (by decide)]; exact hn9) hn60) fX6_isText kw_875 (sv_recv19 C) ⟨Nat.le_of_ble_eq_true rfl, Nat.le_of_ble_eq_true rfl⟩ (Nat.le_of_ble_eq_true rfl) dX6_comeAll_6 ⟨Nat.zero_le _, Nat.zero_le _⟩  ?_
  refine sv_riS (tcI (M 13) n9) (by rw [thr_n (by decide)]) ?_
  refine sv_exW3 (fun tk Z hz => ?_)
  rw [thr_n (show 13 ≠ 15 by decide), thr_n (show 14 ≠ 15 by decide)] at hz
  refine sv_wd (sv_eqW (show _ = sv_u (sv_u (thr 0 M) 15 (txY (M 13) n9 tk (thr 0 M 15))) 14 Z from by rw [thr_n (show 13 ≠ 15 by decide)])) ?_
  refine sv_if_ne C 18 dX6_comeAll_9 (by decide) (fun q9 => ?_) (fun q9 => ?_)
  · have htc : n9 % 4 = 3 ∧ epF (M 13) n9 0 = n9 := Decidable.byContradiction fun h => q9 (if_neg h)
    have hkc : cmaC n9 (M 13) = 0 := if_pos htc
    obtain ⟨htk, hZ⟩ := hz (if_pos htc)
    refine sv_aload_n (i := 0) (x := sv_r G 19 0) C dX6_comeAll_18 rfl rfl ?_
    refine sv_callV (as := []) (rest := []) C (met_R_saves (kp := kp) (by rw [sv_un (show 15 ≠ 14 by decide), sv_us]; unfold txY; rw [upd_n (by decide), upd_n (by decide), upd_n (by decide), thr_15 (by decide)]; exact hkp) hk6) fX6_saves kw_790 (sv_recv19 C) ⟨Nat.le_of_ble_eq_true rfl, Nat.le_of_ble_eq_true rfl⟩ (Nat.le_of_ble_eq_true rfl) dX6_comeAll_19 ⟨Nat.zero_le _, Nat.zero_le _⟩  ?_
    refine sv_rv ?_
    refine sv_aload_n (i := 0) (x := sv_r G 19 0) C dX6_comeAll_22 rfl rfl ?_
    refine sv_iconst (v := nI 0) C dX6_comeAll_23 (by decide) ?_
    refine sv_put_6_5 C kw_727 dX6_comeAll_24 ?_
    refine sv_wd (sv_eqW (show _ = cmU kp n9 tk Z M from rfl)) ?_
    obtain ⟨U, hU⟩ : ∃ U, U = cmU kp n9 tk Z M := ⟨_, rfl⟩
    rw [← hU]
    have U10 : U 10 = M 10 := by rw [hU]; exact cmU_10
    have U14 : U 14 = Z := by rw [hU]; exact cmU_14
    have U15 : U 15 5 = nI tk := by
      rw [hU, cmU_15, upd_n (by decide), upd_n (by decide)]
      unfold txY
      rw [upd_n (by decide), upd_s]
    refine sv_aload_n (i := 0) (x := sv_r G 19 0) C dX6_comeAll_27 rfl rfl ?_
    refine sv_get_6_0 C kw_722 dX6_comeAll_28 ?_
    refine sv_iconst (v := nI 4) C dX6_comeAll_31 (by decide) ?_
    refine sv_ialdN C 10 4 rfl rfl rfl rfl (by show _ < 86; omega) dX6_comeAll_32 ?_
    refine sv_set (v' := .int (M 10 4)) (congrArg Value.int (by rw [U10])) ?_
    refine sv_istore_n (i := 1) C [(0, .ref (sv_r G 19 0)), (1, .int (M 10 4))] dX6_comeAll_33 rfl (by decide) rfl ?_
    refine sv_iconst (v := nI 0) C dX6_comeAll_34 (by decide) ?_
    refine sv_istore_n (i := 2) C [(0, .ref (sv_r G 19 0)), (1, .int (M 10 4)), (2, .int (nI 0))] dX6_comeAll_35 rfl (by decide) rfl ?_
    refine sv_wd (sv_Wd_eq (show U = sv_u (sv_u U 15 (dkM U 0)) 10 (M 10) from by rw [dkM_0, sv_ui, ← U10, sv_ui])) ?_
    refine sv_loop (N := ((n9 + 1) / 4)) (I := fun k => True) (Wf := fun k => sv_Wd G z U o (rcx (M 13) w (M 10) k)) (Lf := fun k => [(0, .ref (sv_r G 19 0)), (1, .int (M 10 4)), (2, .int (nI k))]) 0 (Nat.zero_le _) trivial (fun k hk0 hk hIk ihk => ?_)
    refine sv_exd (fun d => ?_)
    refine sv_iload_n (i := 2) (x := nI k) C dX6_comeAll_36 rfl rfl ?_
    refine sv_aload_n (i := 0) (x := sv_r G 19 0) C dX6_comeAll_37 rfl rfl ?_
    refine sv_get_6_10 C kw_732 dX6_comeAll_38 ?_
    refine sv_set (v' := .int (nI ((n9 + 1) / 4))) (congrArg Value.int (by rw [sv_un (show 15 ≠ 10 by decide), sv_us]; unfold dkM; rw [upd_n (by decide), U15, htk])) ?_
    refine sv_icmp_geN C 99 dX6_comeAll_41 (by decide) (by omega) (by omega) (fun q41 => ?_) (fun q41 => ?_)
    · rw [show k = (n9 + 1) / 4 from by omega]
      refine sv_aload_n (i := 0) (x := sv_r G 19 0) C dX6_comeAll_99 rfl rfl ?_
      refine sv_get_6_0 C kw_722 dX6_comeAll_100 ?_
      refine sv_iconst (v := nI 4) C dX6_comeAll_103 (by decide) ?_
      refine sv_ialdN C 10 4 rfl rfl rfl rfl (by show _ < 86; omega) dX6_comeAll_104 ?_
      refine sv_set (v' := .int (rcx (M 13) w (M 10) ((n9 + 1) / 4) 4)) (congrArg Value.int (by rw [sv_us])) ?_
      refine sv_iload_n (i := 1) (x := M 10 4) C dX6_comeAll_105 rfl rfl ?_
      refine sv_isub C dX6_comeAll_106 ?_
      refine sv_topi (fun v106 e106 => ?_)
      exact sv_iret C hr dX6_comeAll_107 (Nat.le_of_ble_eq_true rfl) (Nat.le_of_ble_eq_true rfl) (by rw [rR_0 hkc, e106]) (fun H h => by rw [rW_0 hkc]; rw [hU] at h; exact sv_W5_of cm_fin.1 cm_fin.2 H h)
    · have hrk := hro hkc k (by omega)
      refine sv_wd sv_Wd_of ?_
      refine sv_loop (N := w k) (I := fun i => True) (Wf := fun i => sv_Wd G z U o (rpass i (rcx (M 13) w (M 10) k))) (Lf := fun i => [(0, .ref (sv_r G 19 0)), (1, .int (M 10 4)), (2, .int (nI k))]) 0 (Nat.zero_le _) trivial (fun i hi0 hi hIi ihi => ?_)
      refine sv_exd (fun d2 => ?_)
      have hgi := hrk.1 i hi
      refine sv_aload_n (i := 0) (x := sv_r G 19 0) C dX6_comeAll_44 rfl rfl ?_
      refine sv_get_6_0 C kw_722 dX6_comeAll_45 ?_
      refine sv_bipush (v := nI 57) C dX6_comeAll_48 (by decide) ?_
      refine sv_ialdN C 10 57 rfl rfl rfl rfl (by show _ < 86; omega) dX6_comeAll_50 ?_
      refine sv_set (v' := .int (nI (many (rpass i (rcx (M 13) w (M 10) k))))) (congrArg Value.int (by rw [sv_us]; exact hgi.1)) ?_
      refine sv_bipush (v := nI 6) C dX6_comeAll_51 (by decide) ?_
      refine sv_icmp_neN C 67 dX6_comeAll_53 (by decide) (by have := hgi.2.1; omega) (by omega) (fun q53 => ?_) (fun q53 => ?_)
      · have hie : i = w k := by
          rcases Nat.lt_or_ge i (w k) with h | h
          · exact absurd (hrk.2.1 i h) q53
          · omega
        rw [hie]
        rw [hie] at hgi
        refine sv_aload_n (i := 0) (x := sv_r G 19 0) C dX6_comeAll_67 rfl rfl ?_
        refine sv_get_6_0 C kw_722 dX6_comeAll_68 ?_
        refine sv_aload_n (i := 0) (x := sv_r G 19 0) C dX6_comeAll_71 rfl rfl ?_
        refine sv_get_6_9 C kw_731 dX6_comeAll_72 ?_
        refine sv_iconst (v := nI 2) C dX6_comeAll_75 (by decide) ?_
        refine sv_iload_n (i := 2) (x := nI k) C dX6_comeAll_76 rfl rfl ?_
        refine sv_imul C dX6_comeAll_77 ?_
        refine sv_set (v' := .int (nI (2 * k))) (congrArg Value.int (pk_mul _ _)) ?_
        refine sv_ialdN C 14 (2 * k) rfl rfl rfl rfl (by show _ < 32; omega) dX6_comeAll_78 ?_
        refine sv_set (v' := .int (M 13 (4 * k) - 48)) (congrArg Value.int (by rw [sv_un (show 14 ≠ 10 by decide), sv_un (show 14 ≠ 15 by decide), U14, hZ]; exact (tFs_in tk k (by omega)).1)) ?_
        refine sv_aload_n (i := 0) (x := sv_r G 19 0) C dX6_comeAll_79 rfl rfl ?_
        refine sv_get_6_9 C kw_731 dX6_comeAll_80 ?_
        refine sv_iconst (v := nI 2) C dX6_comeAll_83 (by decide) ?_
        refine sv_iload_n (i := 2) (x := nI k) C dX6_comeAll_84 rfl rfl ?_
        refine sv_imul C dX6_comeAll_85 ?_
        refine sv_set (v' := .int (nI (2 * k))) (congrArg Value.int (pk_mul _ _)) ?_
        refine sv_iconst (v := nI 1) C dX6_comeAll_86 (by decide) ?_
        refine sv_iadd C dX6_comeAll_87 ?_
        refine sv_set (v' := .int (nI (2 * k + 1))) (congrArg Value.int (nI_add _ _)) ?_
        refine sv_ialdN C 14 (2 * k + 1) rfl rfl rfl rfl (by show _ < 32; omega) dX6_comeAll_88 ?_
        refine sv_set (v' := .int (M 13 (4 * k + 2) - 48)) (congrArg Value.int (by rw [sv_un (show 14 ≠ 10 by decide), sv_un (show 14 ≠ 15 by decide), U14, hZ]; exact (tFs_in tk k (by omega)).2)) ?_
        refine sv_callS (as := [_, _, _]) (rest := []) C (met_R20_comes l G _ _ _ (M 13 (4 * k) - 48) (M 13 (4 * k + 2) - 48) hrk.2.2.2 (many (rpass (w k) (rcx (M 13) w (M 10) k))) (by rw [sv_us]; exact hgi.1) (by have := hrk.2.2.1; omega)) fX6_comes kw_794 ⟨Nat.le_of_ble_eq_true rfl, Nat.le_of_ble_eq_true rfl⟩ (Nat.le_of_ble_eq_true rfl) dX6_comeAll_89 ⟨Nat.zero_le _, Nat.zero_le _⟩  ?_
        refine sv_ri (fun v89 e89 => ?_)
        refine sv_pop C dX6_comeAll_92 rfl ?_
        refine sv_iinc (i := 2) (x := nI k) C (nI (k + 1)) [(0, .ref (sv_r G 19 0)), (1, .int (M 10 4)), (2, .int (nI (k + 1)))] dX6_comeAll_93 rfl (sv_incN k 1) (by decide) rfl ?_
        refine sv_goto C 36 dX6_comeAll_96 (by decide) ?_
        refine sv_wd (sv_Wd_eq (d := d2) (by simp only [sv_us, sv_uu]; rfl)) (ihk (by omega) trivial)
      · have hin : i < w k := by
          rcases Nat.lt_or_ge i (w k) with h | h
          · exact h
          · have h9 := hrk.2.2.1
            rw [show w k = i by omega] at h9
            omega
        refine sv_aload_n (i := 0) (x := sv_r G 19 0) C dX6_comeAll_56 rfl rfl ?_
        refine sv_aload_n (i := 0) (x := sv_r G 19 0) C dX6_comeAll_57 rfl rfl ?_
        refine sv_get_6_0 C kw_722 dX6_comeAll_58 ?_
        refine sv_callV (as := [_]) (rest := []) C (met_R20_second l G _ _ _ (by rw [sv_us]; exact hgi)) fX6_second kw_844 (sv_recv19 C) ⟨Nat.le_of_ble_eq_true rfl, Nat.le_of_ble_eq_true rfl⟩ (Nat.le_of_ble_eq_true rfl) dX6_comeAll_61 ⟨Nat.zero_le _, Nat.zero_le _⟩  ?_
        refine sv_rv ?_
        refine sv_goto C 44 dX6_comeAll_64 (by decide) ?_
        refine sv_wd (sv_Wd_eq (sec_step (W := U) (by decide) (by decide) rfl)) (ihi hin trivial)
  · have hkc : cmaC n9 (M 13) = 1 := if_neg (fun h => by
      have h9 : tcI (M 13) n9 = 1 := if_pos h
      rw [h9] at q9
      exact absurd q9 (by decide))
    refine sv_aload_n (i := 0) (x := sv_r G 19 0) C dX6_comeAll_12 rfl rfl ?_
    refine sv_iconst (v := nI 1) C dX6_comeAll_13 (by decide) ?_
    refine sv_callV (as := [_]) (rest := []) C (met_R_fails l G _ _ _ (nI 1)) fX6_fails kw_770 (sv_recv19 C) ⟨Nat.le_of_ble_eq_true rfl, Nat.le_of_ble_eq_true rfl⟩ (Nat.le_of_ble_eq_true rfl) dX6_comeAll_14 ⟨Nat.zero_le _, Nat.zero_le _⟩  ?_
    refine sv_riS 0 rfl ?_
    exact sv_iret C hr dX6_comeAll_17 (Nat.le_of_ble_eq_true rfl) (Nat.le_of_ble_eq_true rfl) (rR_n (by rw [hkc]; decide)).symm (fun H h => by rw [rW_n (by rw [hkc]; decide), hkc]; exact sv_W5_of cm_no.1 cm_no.2 H h)

