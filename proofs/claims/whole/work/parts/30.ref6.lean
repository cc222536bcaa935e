set_option maxHeartbeats 800000 in
set_option maxRecDepth 100000 in
theorem met_R_isText (l : Launch) (G : sv_G) (z : Nat) (M : sv_M) (o : Int64) (n9 : Nat) (hn9 : M 15 1 = nI n9) (hn60 : n9 ≤ 60) : sv_Met l G yX6_isText cX6_isText 2 (some .boolean) 3 [.ref (sv_r G 19 0)] (sv_W G z M o) (some (.int (tcI (M 13) n9))) (sv_W3 G z M n9 o) := by
  refine sv_ofW (by decide) kw_878 (Nat.le_of_ble_eq_true rfl) ?_
  intro p e s mth args below meth c hr C _
  refine sv_sub (lv' := [(0, .ref (sv_r G 19 0))]) rfl ?_
  refine sv_aload_n (i := 0) (x := sv_r G 19 0) C dX6_isText_0 rfl rfl ?_
  refine sv_iconst (v := nI 0) C dX6_isText_1 (by decide) ?_
  refine sv_put_6_7 C kw_729 dX6_isText_2 ?_
  refine sv_aload_n (i := 0) (x := sv_r G 19 0) C dX6_isText_5 rfl rfl ?_
  refine sv_iconst (v := nI 0) C dX6_isText_6 (by decide) ?_
  refine sv_put_6_10 C kw_732 dX6_isText_7 ?_
  refine sv_aload_n (i := 0) (x := sv_r G 19 0) C dX6_isText_10 rfl rfl ?_
  refine sv_iconst (v := nI 0) C dX6_isText_11 (by decide) ?_
  refine sv_put_6_8 C (by decide) kw_730 dX6_isText_12 ?_
  refine sv_iconst (v := nI 1) C dX6_isText_15 (by decide) ?_
  refine sv_istore_n (i := 1) C [(0, .ref (sv_r G 19 0)), (1, .int (nI 1))] dX6_isText_16 rfl (by decide) rfl ?_
  refine sv_wd (sv_eqW (show _ = sv_u (sv_u M 15 (upd (upd (upd (M 15) 3 (nI (aN (M 13) n9 0))) 5 (nI 0)) 4 0)) 14 (tFs (M 13) 0 (M 14)) from by simp only [sv_wu, sv_us, sv_uu]; exact (sv_ui2 (M := M) (p := 15) (q := 14) (by decide)).symm)) ?_
  refine sv_loop (N := 16) (I := fun k => tIn (M 13) n9 k) (Wf := fun k => sv_W G z (sv_u (sv_u M 15 (upd (upd (upd (M 15) 3 (nI (aN (M 13) n9 k))) 5 (nI k)) 4 0)) 14 (tFs (M 13) k (M 14))) o) (Lf := fun k => [(0, .ref (sv_r G 19 0)), (1, .int (nI (mN (M 13) n9 k)))]) 0 (Nat.zero_le _) (Or.inl rfl) (fun k hk0 hk hIk ihk => ?_)
  refine sv_iload_n (i := 1) (x := nI (mN (M 13) n9 k)) C dX6_isText_17 rfl rfl ?_
  refine sv_if_eq C 70 dX6_isText_18 (by decide) (fun q18 => ?_) (fun q18 => ?_)
  · have hm0 : mN (M 13) n9 k = 0 := nI_eq0 (by rcases mN_b (M 13) n9 k with h | h <;> omega) q18
    obtain ⟨hk0, hak, hep, hkn⟩ := mN_0 hIk hm0
    rw [hak]
    refine sv_aload_n (i := 0) (x := sv_r G 19 0) C dX6_isText_70 rfl rfl ?_
    refine sv_aload_n (i := 0) (x := sv_r G 19 0) C dX6_isText_71 rfl rfl ?_
    refine sv_get_6_7 C kw_729 dX6_isText_72 ?_
    refine sv_set (v' := .int (nI (4 * k - 1))) (congrArg Value.int (by rw [sv_un (show 15 ≠ 14 by decide), sv_us, upd_n (show 3 ≠ 4 by decide), upd_n (show 3 ≠ 5 by decide), upd_s])) ?_
    refine sv_aload_n (i := 0) (x := sv_r G 19 0) C dX6_isText_75 rfl rfl ?_
    refine sv_get_6_5 C kw_727 dX6_isText_76 ?_
    refine sv_set (v' := .int (nI n9)) (congrArg Value.int (by rw [sv_un (show 15 ≠ 14 by decide), sv_us, upd_n (show 1 ≠ 4 by decide), upd_n (show 1 ≠ 5 by decide), upd_n (show 1 ≠ 3 by decide)]; exact hn9)) ?_
    refine sv_sel_icmp_ge (va := nI 1) (vb := nI 0) C 86 dX6_isText_79 (by decide) dX6_isText_82 (by decide) dX6_isText_83 (by decide) dX6_isText_86 (by decide) ?_
    refine sv_set (v' := .int (if 4 * k - 1 < n9 then 1 else 0)) (congrArg Value.int (sel_ge (by omega) (by omega))) ?_
    refine sv_put_6_8 C ite01 kw_730 dX6_isText_87 ?_
    refine sv_aload_n (i := 0) (x := sv_r G 19 0) C dX6_isText_90 rfl rfl ?_
    refine sv_get_6_7 C kw_729 dX6_isText_91 ?_
    refine sv_set (v' := .int (nI (4 * k - 1))) (congrArg Value.int (by rw [sv_wu, sv_us, upd_n (show 3 ≠ 4 by decide), sv_un (show 15 ≠ 14 by decide), sv_us, upd_n (show 3 ≠ 4 by decide), upd_n (show 3 ≠ 5 by decide), upd_s])) ?_
    refine sv_aload_n (i := 0) (x := sv_r G 19 0) C dX6_isText_94 rfl rfl ?_
    refine sv_get_6_5 C kw_727 dX6_isText_95 ?_
    refine sv_set (v' := .int (nI n9)) (congrArg Value.int (by rw [sv_wu, sv_us, upd_n (show 1 ≠ 4 by decide)]; rw [sv_un (show 15 ≠ 14 by decide), sv_us, upd_n (show 1 ≠ 4 by decide), upd_n (show 1 ≠ 5 by decide), upd_n (show 1 ≠ 3 by decide)]; exact hn9)) ?_
    refine sv_sel_icmp_ne (va := nI 1) (vb := nI 0) C 105 dX6_isText_98 (by decide) dX6_isText_101 (by decide) dX6_isText_102 (by decide) dX6_isText_105 (by decide) ?_
    refine sv_set (v' := .int (tcI (M 13) n9)) (congrArg Value.int (sel_tc hep hk0 hkn hn60)) ?_
    exact sv_zret C (by unfold tcI; exact ite01) hr dX6_isText_106 (Nat.le_of_ble_eq_true rfl) (Nat.le_of_ble_eq_true rfl) rfl (fun H h => ⟨k, tFs (M 13) k (M 14), sv_eqW (by simp only [sv_wu, sv_un (show (15 : Nat) ≠ 14 by decide), sv_us]; rw [sv_u3 (show 14 ≠ 15 by decide), upd_u]; unfold txY; rw [hep]) H h, fun h => ⟨tcI_1 hep hk0 h, rfl⟩⟩)
  · obtain ⟨hak, hall, hk9⟩ := mN_1 hIk (fun h => q18 (by rw [h]; rfl))
    refine sv_aload_n (i := 0) (x := sv_r G 19 0) C dX6_isText_21 rfl rfl ?_
    refine sv_callV (as := []) (rest := []) C (met_R_isPart l G _ _ _ n9 (by rw [sv_un (show 15 ≠ 14 by decide), sv_us, upd_n (show 1 ≠ 4 by decide), upd_n (show 1 ≠ 5 by decide), upd_n (show 1 ≠ 3 by decide)]; exact hn9) hn60 k (by rw [sv_un (show 15 ≠ 14 by decide), sv_us, upd_n (show 3 ≠ 4 by decide), upd_n (show 3 ≠ 5 by decide), upd_s]; rw [hak]) hk9 (by rw [sv_un (show 15 ≠ 14 by decide), sv_us, upd_n (show 5 ≠ 4 by decide), upd_s])) fX6_isPart kw_879 (sv_recv19 C) ⟨Nat.le_of_ble_eq_true rfl, Nat.le_of_ble_eq_true rfl⟩ (Nat.le_of_ble_eq_true rfl) dX6_isText_22 ⟨Nat.zero_le _, Nat.zero_le _⟩  ?_
    refine sv_riS (if prE (M 13) n9 (4 * k) = 3 then 1 else 0) (by rw [sv_un (show 13 ≠ 14 by decide), sv_un (show 13 ≠ 15 by decide)]) ?_
    refine sv_wd (sv_eqW (show _ = sv_u (sv_u M 15 (prY (M 13) n9 (4 * k) (upd (upd (upd (M 15) 3 (nI (aN (M 13) n9 k))) 5 (nI k)) 4 0))) 14 (prZ (M 13) n9 k (tFs (M 13) k (M 14))) from by simp only [sv_un (show (15 : Nat) ≠ 14 by decide), sv_un (show (13 : Nat) ≠ 14 by decide), sv_un (show (13 : Nat) ≠ 15 by decide), sv_us]; rw [sv_u3 (show 14 ≠ 15 by decide), sv_uu])) ?_
    refine sv_if_ne C 30 dX6_isText_25 (by decide) (fun q25 => ?_) (fun q25 => ?_)
    · have hpe : prE (M 13) n9 (4 * k) = 3 := Decidable.byContradiction fun h => q25 (if_neg h)
      refine sv_wd (sv_eqW (show _ = sv_u (sv_u M 15 (upd (upd (upd (upd (M 15) 3 (nI (aN (M 13) n9 k))) 5 (nI k)) 4 0) 3 (nI (4 * k + 3)))) 14 (tFs (M 13) (k + 1) (M 14)) from by rw [prY_3 hpe, prZ_3 hpe]; rfl)) ?_
      refine sv_aload_n (i := 0) (x := sv_r G 19 0) C dX6_isText_30 rfl rfl ?_
      refine sv_dup C dX6_isText_31 rfl ?_
      refine sv_get_6_10 C kw_732 dX6_isText_32 ?_
      refine sv_set (v' := .int (nI k)) (congrArg Value.int (by rw [sv_un (show 15 ≠ 14 by decide), sv_us, upd_n (show 5 ≠ 3 by decide), upd_n (show 5 ≠ 4 by decide), upd_s])) ?_
      refine sv_iconst (v := nI 1) C dX6_isText_35 (by decide) ?_
      refine sv_iadd C dX6_isText_36 ?_
      refine sv_set (v' := .int (nI (k + 1))) (congrArg Value.int (nI_add _ _)) ?_
      refine sv_put_6_10 C kw_732 dX6_isText_37 ?_
      refine sv_wd (sv_eqW (show _ = sv_u (sv_u M 15 (upd (upd (upd (upd (upd (M 15) 3 (nI (aN (M 13) n9 k))) 5 (nI k)) 4 0) 3 (nI (4 * k + 3))) 5 (nI (k + 1)))) 14 (tFs (M 13) (k + 1) (M 14)) from by simp only [sv_wu, sv_un (show (15 : Nat) ≠ 14 by decide), sv_us]; rw [sv_u3 (show 14 ≠ 15 by decide)])) ?_
      refine sv_aload_n (i := 0) (x := sv_r G 19 0) C dX6_isText_40 rfl rfl ?_
      refine sv_bipush (v := nI 59) C dX6_isText_41 (by decide) ?_
      refine sv_bipush (v := nI 59) C dX6_isText_43 (by decide) ?_
      refine sv_callV (as := [_, _]) (rest := []) C (met_R_isAt l G _ _ _ n9 (by rw [sv_un (show 15 ≠ 14 by decide), sv_us, upd_n (show 1 ≠ 5 by decide), upd_n (show 1 ≠ 3 by decide), upd_n (show 1 ≠ 4 by decide), upd_n (show 1 ≠ 5 by decide), upd_n (show 1 ≠ 3 by decide)]; exact hn9) hn60 (4 * k + 3) (by rw [sv_un (show 15 ≠ 14 by decide), sv_us, upd_n (show 3 ≠ 5 by decide), upd_s]) (by have := (prE_go hall hpe).resolve_left (by omega); omega) (nI 59) (nI 59)) fX6_isAt kw_883 (sv_recv19 C) ⟨Nat.le_of_ble_eq_true rfl, Nat.le_of_ble_eq_true rfl⟩ (Nat.le_of_ble_eq_true rfl) dX6_isText_45 ⟨Nat.zero_le _, Nat.zero_le _⟩  ?_
      refine sv_riN (mN (M 13) n9 (k + 1)) (by rw [sv_un (show 13 ≠ 14 by decide), sv_un (show 13 ≠ 15 by decide)]; exact atF_m) ?_
      refine sv_istore_n (i := 1) C [(0, .ref (sv_r G 19 0)), (1, .int (nI (mN (M 13) n9 (k + 1))))] dX6_isText_48 rfl (by decide) rfl ?_
      refine sv_aload_n (i := 0) (x := sv_r G 19 0) C dX6_isText_49 rfl rfl ?_
      refine sv_dup C dX6_isText_50 rfl ?_
      refine sv_get_6_7 C kw_729 dX6_isText_51 ?_
      refine sv_set (v' := .int (nI (4 * k + 3))) (congrArg Value.int (by rw [sv_un (show 15 ≠ 14 by decide), sv_us, upd_n (show 3 ≠ 5 by decide), upd_s])) ?_
      refine sv_iload_n (i := 1) (x := nI (mN (M 13) n9 (k + 1))) C dX6_isText_54 rfl rfl ?_
      refine sv_sel_if_eq (va := nI 1) (vb := nI 0) C 62 dX6_isText_55 (by decide) dX6_isText_58 (by decide) dX6_isText_59 (by decide) dX6_isText_62 (by decide) ?_
      refine sv_set (v' := .int (nI (mN (M 13) n9 (k + 1)))) (congrArg Value.int (by rcases mN_b (M 13) n9 (k + 1) with h | h <;> rw [h] <;> rfl)) ?_
      refine sv_iadd C dX6_isText_63 ?_
      refine sv_set (v' := .int (nI (aN (M 13) n9 (k + 1)))) (congrArg Value.int (by rw [nI_add]; exact congrArg nI (by unfold aN; rw [if_neg (by omega)]; omega))) ?_
      refine sv_put_6_7 C kw_729 dX6_isText_64 ?_
      refine sv_goto C 17 dX6_isText_67 (by decide) ?_
      refine sv_wd (sv_eqW ?_) (ihk (by omega) (prE_go hall hpe))
      simp only [sv_wu, sv_un (show (15 : Nat) ≠ 14 by decide), sv_us]
      rw [sv_u3 (show 14 ≠ 15 by decide)]
      rw [upd_c (show 5 ≠ 3 by decide), upd_u, upd_c (show 4 ≠ 3 by decide), upd_c (show 5 ≠ 3 by decide), upd_u, upd_c (show 4 ≠ 5 by decide), upd_u]
    · have hpn : ¬ prE (M 13) n9 (4 * k) = 3 := fun h => by
        rw [if_pos h] at q25
        exact absurd q25 (by decide)
      obtain ⟨hep, hle9, hlt3⟩ := prE_stop hall hk9 hpn
      refine sv_iconst (v := nI 0) C dX6_isText_28 (by decide) ?_
      exact sv_zret C (by unfold tcI; exact ite01) hr dX6_isText_29 (Nat.le_of_ble_eq_true rfl) (Nat.le_of_ble_eq_true rfl) (tcI_n hep hlt3).symm (fun H h => ⟨k, tFs (M 13) k (M 14), sv_eqW (by rw [prY_n rfl hpn, prZ_n rfl hpn]; unfold txY; rw [hep, upd_c (show 4 ≠ 3 by decide), upd_c (show 5 ≠ 3 by decide), upd_u, upd_u]) H h, fun h => absurd ((tcI_n hep hlt3).symm.trans h) (by decide)⟩)

