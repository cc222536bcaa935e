set_option maxHeartbeats 800000 in
set_option maxRecDepth 100000 in
theorem met_R_isAt (l : Launch) (G : sv_G) (z : Nat) (M : sv_M) (o : Int64) (n9 : Nat) (hn9 : M 15 1 = nI n9) (hn60 : n9 ≤ 60) (a : Nat) (ha : M 15 3 = nI a) (ha9 : a ≤ n9) (lo hi : Int32) : sv_Met l G yX6_isAt cX6_isAt 3 (some .boolean) 1 [.ref (sv_r G 19 0), .int lo, .int hi] (sv_W G z M o) (some (.int (atF (M 13) n9 a lo hi))) (sv_W G z M o) := by
  refine sv_ofW (by decide) kw_886 (Nat.le_of_ble_eq_true rfl) ?_
  intro p e s mth args below meth c hr C _
  refine sv_sub (lv' := [(0, .ref (sv_r G 19 0)), (1, .int lo), (2, .int hi)]) rfl ?_
  refine sv_aload_n (i := 0) (x := sv_r G 19 0) C dX6_isAt_0 rfl rfl ?_
  refine sv_get_6_7 C kw_729 dX6_isAt_1 ?_
  refine sv_set (v' := .int (nI a)) (congrArg Value.int ha) ?_
  refine sv_aload_n (i := 0) (x := sv_r G 19 0) C dX6_isAt_4 rfl rfl ?_
  refine sv_get_6_5 C kw_727 dX6_isAt_5 ?_
  refine sv_set (v' := .int (nI n9)) (congrArg Value.int hn9) ?_
  refine sv_icmp_geN C 32 dX6_isAt_8 (by decide) (by omega) (by omega) (fun q8 => ?_) (fun q8 => ?_)
  · refine sv_iconst (v := nI 0) C dX6_isAt_32 (by decide) ?_
    exact sv_zret C (atF_b _ _ _ _ _) hr dX6_isAt_33 (Nat.le_of_ble_eq_true rfl) (Nat.le_of_ble_eq_true rfl) (by unfold atF; rw [if_neg (by omega)]; rfl) (fun _ h => h)
  · refine sv_aload_n (i := 0) (x := sv_r G 19 0) C dX6_isAt_11 rfl rfl ?_
    refine sv_get_6_4 C kw_726 dX6_isAt_12 ?_
    refine sv_aload_n (i := 0) (x := sv_r G 19 0) C dX6_isAt_15 rfl rfl ?_
    refine sv_get_6_7 C kw_729 dX6_isAt_16 ?_
    refine sv_set (v' := .int (nI a)) (congrArg Value.int ha) ?_
    refine sv_ialdN C 13 a rfl rfl rfl rfl (by show _ < 60; omega) dX6_isAt_19 ?_
    refine sv_set (v' := .int (M 13 a)) (congrArg Value.int rfl) ?_
    refine sv_iload_n (i := 1) (x := lo) C dX6_isAt_20 rfl rfl ?_
    refine sv_iload_n (i := 2) (x := hi) C dX6_isAt_21 rfl rfl ?_
    refine sv_callS (as := [_, _, _]) (rest := []) C (met_R_in l G _ (M 13 a) lo hi) fX6_in kw_787 ⟨Nat.le_of_ble_eq_true rfl, Nat.le_of_ble_eq_true rfl⟩ (Nat.le_of_ble_eq_true rfl) dX6_isAt_22 ⟨Nat.zero_le _, Nat.zero_le _⟩  ?_
    refine sv_ri (fun v22 e22 => ?_)
    refine sv_if_eq C 32 dX6_isAt_25 (by decide) (fun q25 => ?_) (fun q25 => ?_)
    · refine sv_iconst (v := nI 0) C dX6_isAt_32 (by decide) ?_
      exact sv_zret C (atF_b _ _ _ _ _) hr dX6_isAt_33 (Nat.le_of_ble_eq_true rfl) (Nat.le_of_ble_eq_true rfl) (by unfold atF; rw [if_pos (by omega), ← e22, e22]; exact (e22.symm.trans q25).symm) (fun _ h => h)
    · refine sv_iconst (v := nI 1) C dX6_isAt_28 (by decide) ?_
      refine sv_goto C 33 dX6_isAt_29 (by decide) ?_
      exact sv_zret C (atF_b _ _ _ _ _) hr dX6_isAt_33 (Nat.le_of_ble_eq_true rfl) (Nat.le_of_ble_eq_true rfl) (by unfold atF; rw [if_pos (by omega)]; exact ((inN_b _ _ _).resolve_left (fun h => q25 (e22.trans h))).symm) (fun _ h => h)

set_option maxHeartbeats 800000 in
set_option maxRecDepth 100000 in
theorem met_R_stops (l : Launch) (G : sv_G) (z : Nat) (M : sv_M) (o : Int64) (n9 : Nat) (hn9 : M 15 1 = nI n9) (hn60 : n9 ≤ 60) (a : Nat) (ha : M 15 3 = nI a) (ha9 : a ≤ n9) : sv_Met l G yX6_stops cX6_stops 1 (some .boolean) 0 [.ref (sv_r G 19 0)] (sv_W G z M o) (some (.int 0)) (sv_W G z (sv_u M 15 (upd (M 15) 4 (if a < n9 then 1 else 0))) o) := by
  refine sv_ofW (by decide) kw_890 (Nat.le_of_ble_eq_true rfl) ?_
  intro p e s mth args below meth c hr C _
  refine sv_sub (lv' := [(0, .ref (sv_r G 19 0))]) rfl ?_
  refine sv_aload_n (i := 0) (x := sv_r G 19 0) C dX6_stops_0 rfl rfl ?_
  refine sv_aload_n (i := 0) (x := sv_r G 19 0) C dX6_stops_1 rfl rfl ?_
  refine sv_get_6_7 C kw_729 dX6_stops_2 ?_
  refine sv_set (v' := .int (nI a)) (congrArg Value.int ha) ?_
  refine sv_aload_n (i := 0) (x := sv_r G 19 0) C dX6_stops_5 rfl rfl ?_
  refine sv_get_6_5 C kw_727 dX6_stops_6 ?_
  refine sv_set (v' := .int (nI n9)) (congrArg Value.int hn9) ?_
  refine sv_icmp_geN C 16 dX6_stops_9 (by decide) (by omega) (by omega) (fun q9 => ?_) (fun q9 => ?_)
  · refine sv_iconst (v := nI 0) C dX6_stops_16 (by decide) ?_
    refine sv_put_6_8 C (by decide) kw_730 dX6_stops_17 ?_
    refine sv_iconst (v := nI 0) C dX6_stops_20 (by decide) ?_
    exact sv_zret C (by decide) hr dX6_stops_21 (Nat.le_of_ble_eq_true rfl) (Nat.le_of_ble_eq_true rfl) rfl (sv_eqW (by rw [sv_wu, if_neg (by omega)]; rfl))
  · refine sv_iconst (v := nI 1) C dX6_stops_12 (by decide) ?_
    refine sv_goto C 17 dX6_stops_13 (by decide) ?_
    refine sv_put_6_8 C (by decide) kw_730 dX6_stops_17 ?_
    refine sv_iconst (v := nI 0) C dX6_stops_20 (by decide) ?_
    exact sv_zret C (by decide) hr dX6_stops_21 (Nat.le_of_ble_eq_true rfl) (Nat.le_of_ble_eq_true rfl) rfl (sv_eqW (by rw [sv_wu, if_pos (by omega)]; rfl))

set_option maxHeartbeats 800000 in
set_option maxRecDepth 100000 in
theorem met_R_isPart (l : Launch) (G : sv_G) (z : Nat) (M : sv_M) (o : Int64) (n9 : Nat) (hn9 : M 15 1 = nI n9) (hn60 : n9 ≤ 60) (k : Nat) (ha : M 15 3 = nI (4 * k)) (ha9 : 4 * k ≤ n9) (htk : M 15 5 = nI k) : sv_Met l G yX6_isPart cX6_isPart 4 (some .boolean) 2 [.ref (sv_r G 19 0)] (sv_W G z M o) (some (.int (if prE (M 13) n9 (4 * k) = 3 then 1 else 0))) (sv_W G z (sv_u (sv_u M 15 (prY (M 13) n9 (4 * k) (M 15))) 14 (prZ (M 13) n9 k (M 14))) o) := by
  refine sv_ofW (by decide) kw_882 (Nat.le_of_ble_eq_true rfl) ?_
  intro p e s mth args below meth c hr C _
  refine sv_sub (lv' := [(0, .ref (sv_r G 19 0))]) rfl ?_
  refine sv_aload_n (i := 0) (x := sv_r G 19 0) C dX6_isPart_0 rfl rfl ?_
  refine sv_bipush (v := nI 48) C dX6_isPart_1 (by decide) ?_
  refine sv_bipush (v := nI 55) C dX6_isPart_3 (by decide) ?_
  refine sv_callV (as := [_, _]) (rest := []) C (met_R_isAt l G _ _ _ n9 hn9 hn60 (4 * k) ha ha9 (nI 48) (nI 55)) fX6_isAt kw_883 (sv_recv19 C) ⟨Nat.le_of_ble_eq_true rfl, Nat.le_of_ble_eq_true rfl⟩ (Nat.le_of_ble_eq_true rfl) dX6_isPart_5 ⟨Nat.zero_le _, Nat.zero_le _⟩  ?_
  refine sv_ri (fun v5 e5 => ?_)
  refine sv_if_ne C 16 dX6_isPart_8 (by decide) (fun q8 => ?_) (fun q8 => ?_)
  · have hp0 : pok (M 13) n9 (4 * k) := pok_0.mpr (fun h => q8 (e5.trans h))
    have hlt0 := hp0.1
    obtain ⟨g, hg1, hg2, hgc⟩ := flI_N (c := M 13 (4 * k)) (by
      have h9 := hp0.2
      unfold ftI at h9
      rw [if_pos (by omega)] at h9
      exact h9)
    refine sv_aload_n (i := 0) (x := sv_r G 19 0) C dX6_isPart_16 rfl rfl ?_
    refine sv_get_6_4 C kw_726 dX6_isPart_17 ?_
    refine sv_aload_n (i := 0) (x := sv_r G 19 0) C dX6_isPart_20 rfl rfl ?_
    refine sv_get_6_7 C kw_729 dX6_isPart_21 ?_
    refine sv_set (v' := .int (nI (4 * k))) (congrArg Value.int ha) ?_
    refine sv_ialdN C 13 (4 * k) rfl rfl rfl rfl (by show _ < 60; omega) dX6_isPart_24 ?_
    refine sv_set (v' := .int (nI g)) (congrArg Value.int hgc) ?_
    refine sv_bipush (v := nI 48) C dX6_isPart_25 (by decide) ?_
    refine sv_isub C dX6_isPart_27 ?_
    refine sv_set (v' := .int (nI (g - 48))) (congrArg Value.int (pk_sub (b := 48) (by omega))) ?_
    refine sv_istore_n (i := 1) C [(0, .ref (sv_r G 19 0)), (1, .int (nI (g - 48)))] dX6_isPart_28 rfl (by decide) rfl ?_
    refine sv_aload_n (i := 0) (x := sv_r G 19 0) C dX6_isPart_29 rfl rfl ?_
    refine sv_dup C dX6_isPart_30 rfl ?_
    refine sv_get_6_7 C kw_729 dX6_isPart_31 ?_
    refine sv_set (v' := .int (nI (4 * k))) (congrArg Value.int ha) ?_
    refine sv_iconst (v := nI 1) C dX6_isPart_34 (by decide) ?_
    refine sv_iadd C dX6_isPart_35 ?_
    refine sv_set (v' := .int (nI (4 * k + 1))) (congrArg Value.int (nI_add _ _)) ?_
    refine sv_put_6_7 C kw_729 dX6_isPart_36 ?_
    refine sv_wd (sv_eqW (sv_wu _ _ _ _)) ?_
    refine sv_aload_n (i := 0) (x := sv_r G 19 0) C dX6_isPart_39 rfl rfl ?_
    refine sv_bipush (v := nI 62) C dX6_isPart_40 (by decide) ?_
    refine sv_bipush (v := nI 62) C dX6_isPart_42 (by decide) ?_
    refine sv_callV (as := [_, _]) (rest := []) C (met_R_isAt l G _ _ _ n9 (by simp only [sv_wu, sv_us, sv_uu]; rw [upd_n (show 1 ≠ 3 by decide)]; exact hn9) hn60 (4 * k + 1) (by simp only [sv_wu, sv_us, sv_uu]; rw [upd_s]) (by omega) (nI 62) (nI 62)) fX6_isAt kw_883 (sv_recv19 C) ⟨Nat.le_of_ble_eq_true rfl, Nat.le_of_ble_eq_true rfl⟩ (Nat.le_of_ble_eq_true rfl) dX6_isPart_44 ⟨Nat.zero_le _, Nat.zero_le _⟩  ?_
    refine sv_ri (fun v44 e44 => ?_)
    rw [sv_un (show 13 ≠ 15 by decide)] at e44
    refine sv_if_eq C 60 dX6_isPart_47 (by decide) (fun q47 => ?_) (fun q47 => ?_)
    · refine sv_iconst (v := nI 0) C dX6_isPart_60 (by decide) ?_
      refine sv_istore_n (i := 2) C [(0, .ref (sv_r G 19 0)), (1, .int (nI (g - 48))), (2, .int (nI 0))] dX6_isPart_61 rfl (by decide) rfl ?_
      refine sv_aload_n (i := 0) (x := sv_r G 19 0) C dX6_isPart_62 rfl rfl ?_
      refine sv_bipush (v := nI 60) C dX6_isPart_63 (by decide) ?_
      refine sv_bipush (v := nI 60) C dX6_isPart_65 (by decide) ?_
      refine sv_callV (as := [_, _]) (rest := []) C (met_R_isAt l G _ _ _ n9 (by simp only [sv_wu, sv_us, sv_uu]; rw [upd_n (show 1 ≠ 3 by decide)]; exact hn9) hn60 (4 * k + 1) (by simp only [sv_wu, sv_us, sv_uu]; rw [upd_s]) (by omega) (nI 60) (nI 60)) fX6_isAt kw_883 (sv_recv19 C) ⟨Nat.le_of_ble_eq_true rfl, Nat.le_of_ble_eq_true rfl⟩ (Nat.le_of_ble_eq_true rfl) dX6_isPart_67 ⟨Nat.zero_le _, Nat.zero_le _⟩  ?_
      refine sv_ri (fun v67 e67 => ?_)
      rw [sv_un (show 13 ≠ 15 by decide)] at e67
      refine sv_if_eq C 81 dX6_isPart_70 (by decide) (fun q70 => ?_) (fun q70 => ?_)
      · refine sv_iconst (v := nI 0) C dX6_isPart_81 (by decide) ?_
        refine sv_istore_n (i := 3) C [(0, .ref (sv_r G 19 0)), (1, .int (nI (g - 48))), (2, .int (nI 0)), (3, .int (nI 0))] dX6_isPart_82 rfl (by decide) rfl ?_
        refine sv_iload_n (i := 2) (x := nI 0) C dX6_isPart_83 rfl rfl ?_
        refine sv_if_ne C 96 dX6_isPart_84 (by decide) (fun q84 => ?_) (fun q84 => ?_)
        · exact absurd rfl q84
        · refine sv_iload_n (i := 3) (x := nI 0) C dX6_isPart_87 rfl rfl ?_
          refine sv_if_ne C 96 dX6_isPart_88 (by decide) (fun q88 => ?_) (fun q88 => ?_)
          · exact absurd rfl q88
          · have hn1 : ¬ pok (M 13) n9 (4 * k + 1) := fun h => (pok_1.mp h).elim (fun h => h.1 (e44.symm.trans q47)) (fun h => h.1 (e67.symm.trans q70))
            have hpe : prE (M 13) n9 (4 * k) = 1 := by unfold prE; rw [if_pos hp0, if_neg hn1]
            refine sv_aload_n (i := 0) (x := sv_r G 19 0) C dX6_isPart_91 rfl rfl ?_
            refine sv_callV (as := []) (rest := []) C (met_R_stops l G _ _ _ n9 (by simp only [sv_wu, sv_us, sv_uu]; rw [upd_n (show 1 ≠ 3 by decide)]; exact hn9) hn60 (4 * k + 1) (by simp only [sv_wu, sv_us, sv_uu]; rw [upd_s]) (by omega)) fX6_stops kw_887 (sv_recv19 C) ⟨Nat.le_of_ble_eq_true rfl, Nat.le_of_ble_eq_true rfl⟩ (Nat.le_of_ble_eq_true rfl) dX6_isPart_92 ⟨Nat.zero_le _, Nat.zero_le _⟩  ?_
            refine sv_ri (fun v92 e92 => ?_)
            exact sv_zret C ite01 hr dX6_isPart_95 (Nat.le_of_ble_eq_true rfl) (Nat.le_of_ble_eq_true rfl) (by rw [e92, if_neg (by rw [hpe]; decide)]) (sv_eqW (by rw [prY_n hpe (by decide), prZ_n hpe (by decide), sv_ui2 (by decide), sv_us, sv_uu]))
      · refine sv_iload_n (i := 1) (x := nI (g - 48)) C dX6_isPart_73 rfl rfl ?_
        refine sv_if_le C 81 dX6_isPart_74 (by decide) (fun q74 => ?_) (fun q74 => ?_)
        · have q74n : ¬ 48 < M 13 (4 * k) := fun h => by
            rw [hgc] at h
            have h2 := (nI_ltI (a := 48) (b := g) (by decide) (by omega)).mp h
            exact nI_nle (n := g - 48) (by omega) (by omega) q74
          refine sv_iconst (v := nI 0) C dX6_isPart_81 (by decide) ?_
          refine sv_istore_n (i := 3) C [(0, .ref (sv_r G 19 0)), (1, .int (nI (g - 48))), (2, .int (nI 0)), (3, .int (nI 0))] dX6_isPart_82 rfl (by decide) rfl ?_
          refine sv_iload_n (i := 2) (x := nI 0) C dX6_isPart_83 rfl rfl ?_
          refine sv_if_ne C 96 dX6_isPart_84 (by decide) (fun q84 => ?_) (fun q84 => ?_)
          · exact absurd rfl q84
          · refine sv_iload_n (i := 3) (x := nI 0) C dX6_isPart_87 rfl rfl ?_
            refine sv_if_ne C 96 dX6_isPart_88 (by decide) (fun q88 => ?_) (fun q88 => ?_)
            · exact absurd rfl q88
            · have hn1 : ¬ pok (M 13) n9 (4 * k + 1) := fun h => (pok_1.mp h).elim (fun h => h.1 (e44.symm.trans q47)) (fun h => q74n h.2)
              have hpe : prE (M 13) n9 (4 * k) = 1 := by unfold prE; rw [if_pos hp0, if_neg hn1]
              refine sv_aload_n (i := 0) (x := sv_r G 19 0) C dX6_isPart_91 rfl rfl ?_
              refine sv_callV (as := []) (rest := []) C (met_R_stops l G _ _ _ n9 (by simp only [sv_wu, sv_us, sv_uu]; rw [upd_n (show 1 ≠ 3 by decide)]; exact hn9) hn60 (4 * k + 1) (by simp only [sv_wu, sv_us, sv_uu]; rw [upd_s]) (by omega)) fX6_stops kw_887 (sv_recv19 C) ⟨Nat.le_of_ble_eq_true rfl, Nat.le_of_ble_eq_true rfl⟩ (Nat.le_of_ble_eq_true rfl) dX6_isPart_92 ⟨Nat.zero_le _, Nat.zero_le _⟩  ?_
              refine sv_ri (fun v92 e92 => ?_)
              exact sv_zret C ite01 hr dX6_isPart_95 (Nat.le_of_ble_eq_true rfl) (Nat.le_of_ble_eq_true rfl) (by rw [e92, if_neg (by rw [hpe]; decide)]) (sv_eqW (by rw [prY_n hpe (by decide), prZ_n hpe (by decide), sv_ui2 (by decide), sv_us, sv_uu]))
        · have q74p : 48 < M 13 (4 * k) := by
            rw [hgc]
            refine (nI_ltI (a := 48) (b := g) (by decide) (by omega)).mpr ?_
            rcases Nat.lt_or_ge 48 g with h | h
            · exact h
            · rw [show g - 48 = 0 by omega] at q74
              exact absurd (by decide) q74
          refine sv_iconst (v := nI 1) C dX6_isPart_77 (by decide) ?_
          refine sv_goto C 82 dX6_isPart_78 (by decide) ?_
          refine sv_istore_n (i := 3) C [(0, .ref (sv_r G 19 0)), (1, .int (nI (g - 48))), (2, .int (nI 0)), (3, .int (nI 1))] dX6_isPart_82 rfl (by decide) rfl ?_
          refine sv_iload_n (i := 2) (x := nI 0) C dX6_isPart_83 rfl rfl ?_
          refine sv_if_ne C 96 dX6_isPart_84 (by decide) (fun q84 => ?_) (fun q84 => ?_)
          · exact absurd rfl q84
          · refine sv_iload_n (i := 3) (x := nI 1) C dX6_isPart_87 rfl rfl ?_
            refine sv_if_ne C 96 dX6_isPart_88 (by decide) (fun q88 => ?_) (fun q88 => ?_)
            · have hp1 : pok (M 13) n9 (4 * k + 1) := pok_1.mpr (Or.inr ⟨fun h => q70 (e67.trans h), q74p⟩)
              have hch : M 13 (4 * k + 1) = 60 := (atF_c.mp (fun h => q70 (e67.trans h))).2
              have hg48 : 48 < g := by rw [hgc] at q74p; exact (nI_ltI (a := 48) (b := g) (by decide) (by omega)).mp q74p
              have hlt1 := hp1.1
              refine sv_aload_n (i := 0) (x := sv_r G 19 0) C dX6_isPart_96 rfl rfl ?_
              refine sv_dup C dX6_isPart_97 rfl ?_
              refine sv_get_6_7 C kw_729 dX6_isPart_98 ?_
              refine sv_set (v' := .int (nI (4 * k + 1))) (congrArg Value.int (by simp only [sv_wu, sv_us, sv_uu]; rw [upd_s])) ?_
              refine sv_iconst (v := nI 1) C dX6_isPart_101 (by decide) ?_
              refine sv_iadd C dX6_isPart_102 ?_
              refine sv_set (v' := .int (nI (4 * k + 1 + 1))) (congrArg Value.int (nI_add _ _)) ?_
              refine sv_put_6_7 C kw_729 dX6_isPart_103 ?_
              refine sv_wd (sv_eqW (show _ = sv_u M 15 (upd (M 15) 3 (nI (4 * k + 2))) from by rw [sv_wu, sv_us, sv_uu, upd_u])) ?_
              refine sv_iload_n (i := 2) (x := nI 0) C dX6_isPart_106 rfl rfl ?_
              refine sv_if_eq C 126 dX6_isPart_107 (by decide) (fun q107 => ?_) (fun q107 => ?_)
              · refine sv_aload_n (i := 0) (x := sv_r G 19 0) C dX6_isPart_126 rfl rfl ?_
                refine sv_bipush (v := nI 48) C dX6_isPart_127 (by decide) ?_
                refine sv_bipush (v := nI 48) C dX6_isPart_129 (by decide) ?_
                refine sv_iload_n (i := 1) (x := nI (g - 48)) C dX6_isPart_131 rfl rfl ?_
                refine sv_iadd C dX6_isPart_132 ?_
                refine sv_set (v' := .int (nI g)) (congrArg Value.int (by rw [nI_add]; exact congrArg nI (by omega))) ?_
                refine sv_iconst (v := nI 1) C dX6_isPart_133 (by decide) ?_
                refine sv_isub C dX6_isPart_134 ?_
                refine sv_set (v' := .int (nI (g - 1))) (congrArg Value.int (pk_sub (b := 1) (by omega))) ?_
                refine sv_callV (as := [_, _]) (rest := []) C (met_R_isAt l G _ _ _ n9 (by simp only [sv_wu, sv_us, sv_uu]; rw [upd_n (show 1 ≠ 3 by decide)]; exact hn9) hn60 (4 * k + 2) (by simp only [sv_wu, sv_us, sv_uu]; rw [upd_s]) (by omega) (nI 48) (nI (g - 1))) fX6_isAt kw_883 (sv_recv19 C) ⟨Nat.le_of_ble_eq_true rfl, Nat.le_of_ble_eq_true rfl⟩ (Nat.le_of_ble_eq_true rfl) dX6_isPart_135 ⟨Nat.zero_le _, Nat.zero_le _⟩  ?_
                refine sv_ri (fun v135 e135 => ?_)
                rw [sv_un (show 13 ≠ 15 by decide)] at e135
                refine sv_if_ne C 146 dX6_isPart_138 (by decide) (fun q138 => ?_) (fun q138 => ?_)
                · have hp2 : pok (M 13) n9 (4 * k + 2) := (pok_2d hg48 hg2 hgc hch).mpr (fun h => q138 (e135.trans h))
                  have hpe : prE (M 13) n9 (4 * k) = 3 := by unfold prE; rw [if_pos hp0, if_pos hp1, if_pos hp2]
                  have hlt2 := hp2.1
                  refine sv_aload_n (i := 0) (x := sv_r G 19 0) C dX6_isPart_146 rfl rfl ?_
                  refine sv_get_6_9 C kw_731 dX6_isPart_147 ?_
                  refine sv_iconst (v := nI 2) C dX6_isPart_150 (by decide) ?_
                  refine sv_aload_n (i := 0) (x := sv_r G 19 0) C dX6_isPart_151 rfl rfl ?_
                  refine sv_get_6_10 C kw_732 dX6_isPart_152 ?_
                  refine sv_set (v' := .int (nI k)) (congrArg Value.int (by rw [sv_us, upd_n (by decide)]; exact htk)) ?_
                  refine sv_imul C dX6_isPart_155 ?_
                  refine sv_set (v' := .int (nI (2 * k))) (congrArg Value.int (pk_mul _ _)) ?_
                  refine sv_iload_n (i := 1) (x := nI (g - 48)) C dX6_isPart_156 rfl rfl ?_
                  refine sv_iastN C 14 (2 * k) rfl rfl rfl rfl (by show _ < 32; omega) dX6_isPart_157 ?_
                  refine sv_aload_n (i := 0) (x := sv_r G 19 0) C dX6_isPart_158 rfl rfl ?_
                  refine sv_get_6_9 C kw_731 dX6_isPart_159 ?_
                  refine sv_iconst (v := nI 2) C dX6_isPart_162 (by decide) ?_
                  refine sv_aload_n (i := 0) (x := sv_r G 19 0) C dX6_isPart_163 rfl rfl ?_
                  refine sv_get_6_10 C kw_732 dX6_isPart_164 ?_
                  refine sv_set (v' := .int (nI k)) (congrArg Value.int (by rw [sv_wu, sv_un (by decide), sv_us, upd_n (by decide)]; exact htk)) ?_
                  refine sv_imul C dX6_isPart_167 ?_
                  refine sv_set (v' := .int (nI (2 * k))) (congrArg Value.int (pk_mul _ _)) ?_
                  refine sv_iconst (v := nI 1) C dX6_isPart_168 (by decide) ?_
                  refine sv_iadd C dX6_isPart_169 ?_
                  refine sv_set (v' := .int (nI (2 * k + 1))) (congrArg Value.int (nI_add _ _)) ?_
                  refine sv_aload_n (i := 0) (x := sv_r G 19 0) C dX6_isPart_170 rfl rfl ?_
                  refine sv_get_6_4 C kw_726 dX6_isPart_171 ?_
                  refine sv_aload_n (i := 0) (x := sv_r G 19 0) C dX6_isPart_174 rfl rfl ?_
                  refine sv_get_6_7 C kw_729 dX6_isPart_175 ?_
                  refine sv_set (v' := .int (nI (4 * k + 2))) (congrArg Value.int (by rw [sv_wu, sv_un (by decide), sv_us, upd_s])) ?_
                  refine sv_ialdN C 13 (4 * k + 2) rfl rfl rfl rfl (by show _ < 60; omega) dX6_isPart_178 ?_
                  refine sv_set (v' := .int (M 13 (4 * k + 2))) (congrArg Value.int (by rw [sv_wu, sv_un (show 13 ≠ 14 by decide), sv_un (show 13 ≠ 15 by decide)])) ?_
                  refine sv_bipush (v := nI 48) C dX6_isPart_179 (by decide) ?_
                  refine sv_isub C dX6_isPart_181 ?_
                  refine sv_set (v' := .int (M 13 (4 * k + 2) - 48)) (congrArg Value.int rfl) ?_
                  refine sv_iastN C 14 (2 * k + 1) rfl rfl rfl rfl (by show _ < 32; omega) dX6_isPart_182 ?_
                  refine sv_aload_n (i := 0) (x := sv_r G 19 0) C dX6_isPart_183 rfl rfl ?_
                  refine sv_dup C dX6_isPart_184 rfl ?_
                  refine sv_get_6_7 C kw_729 dX6_isPart_185 ?_
                  refine sv_set (v' := .int (nI (4 * k + 2))) (congrArg Value.int (by simp only [sv_wu]; rw [sv_un (by decide), sv_un (by decide), sv_us, upd_s])) ?_
                  refine sv_iconst (v := nI 1) C dX6_isPart_188 (by decide) ?_
                  refine sv_iadd C dX6_isPart_189 ?_
                  refine sv_set (v' := .int (nI (4 * k + 2 + 1))) (congrArg Value.int (nI_add _ _)) ?_
                  refine sv_put_6_7 C kw_729 dX6_isPart_190 ?_
                  refine sv_iconst (v := nI 1) C dX6_isPart_193 (by decide) ?_
                  exact sv_zret C ite01 hr dX6_isPart_194 (Nat.le_of_ble_eq_true rfl) (Nat.le_of_ble_eq_true rfl) (by rw [if_pos hpe]; rfl) (sv_eqW (by rw [prY_3 hpe, prZ_3 hpe, hgc, show nI g - 48 = nI (g - 48) from pk_sub (b := 48) (by omega)]; simp only [sv_wu, sv_us, sv_uu, sv_un (show (15 : Nat) ≠ 14 by decide), sv_un (show (14 : Nat) ≠ 15 by decide)]; rw [sv_u3 (show 14 ≠ 15 by decide), upd_u]))
                · have hn2 : ¬ pok (M 13) n9 (4 * k + 2) := fun h => (pok_2d hg48 hg2 hgc hch).mp h (e135.symm.trans q138)
                  have hpe : prE (M 13) n9 (4 * k) = 2 := by unfold prE; rw [if_pos hp0, if_pos hp1, if_neg hn2]
                  refine sv_aload_n (i := 0) (x := sv_r G 19 0) C dX6_isPart_141 rfl rfl ?_
                  refine sv_callV (as := []) (rest := []) C (met_R_stops l G _ _ _ n9 (by simp only [sv_wu, sv_us, sv_uu]; rw [upd_n (show 1 ≠ 3 by decide)]; exact hn9) hn60 (4 * k + 2) (by simp only [sv_wu, sv_us, sv_uu]; rw [upd_s]) (by omega)) fX6_stops kw_887 (sv_recv19 C) ⟨Nat.le_of_ble_eq_true rfl, Nat.le_of_ble_eq_true rfl⟩ (Nat.le_of_ble_eq_true rfl) dX6_isPart_142 ⟨Nat.zero_le _, Nat.zero_le _⟩  ?_
                  refine sv_ri (fun v142 e142 => ?_)
                  exact sv_zret C ite01 hr dX6_isPart_145 (Nat.le_of_ble_eq_true rfl) (Nat.le_of_ble_eq_true rfl) (by rw [e142, if_neg (by rw [hpe]; decide)]) (sv_eqW (by rw [prY_n hpe (by decide), prZ_n hpe (by decide), sv_ui2 (by decide), sv_us, sv_uu]))
              · exact absurd rfl q107
            · exact absurd q88 (by decide)
    · refine sv_iload_n (i := 1) (x := nI (g - 48)) C dX6_isPart_50 rfl rfl ?_
      refine sv_bipush (v := nI 7) C dX6_isPart_51 (by decide) ?_
      refine sv_icmp_geN C 60 dX6_isPart_53 (by decide) (by omega) (by omega) (fun q53 => ?_) (fun q53 => ?_)
      · have q53n : ¬ M 13 (4 * k) < 55 := fun h => by
          rw [hgc] at h
          have := (nI_ltI (a := g) (b := 55) (by omega) (by decide)).mp h
          omega
        refine sv_iconst (v := nI 0) C dX6_isPart_60 (by decide) ?_
        refine sv_istore_n (i := 2) C [(0, .ref (sv_r G 19 0)), (1, .int (nI (g - 48))), (2, .int (nI 0))] dX6_isPart_61 rfl (by decide) rfl ?_
        refine sv_aload_n (i := 0) (x := sv_r G 19 0) C dX6_isPart_62 rfl rfl ?_
        refine sv_bipush (v := nI 60) C dX6_isPart_63 (by decide) ?_
        refine sv_bipush (v := nI 60) C dX6_isPart_65 (by decide) ?_
        refine sv_callV (as := [_, _]) (rest := []) C (met_R_isAt l G _ _ _ n9 (by simp only [sv_wu, sv_us, sv_uu]; rw [upd_n (show 1 ≠ 3 by decide)]; exact hn9) hn60 (4 * k + 1) (by simp only [sv_wu, sv_us, sv_uu]; rw [upd_s]) (by omega) (nI 60) (nI 60)) fX6_isAt kw_883 (sv_recv19 C) ⟨Nat.le_of_ble_eq_true rfl, Nat.le_of_ble_eq_true rfl⟩ (Nat.le_of_ble_eq_true rfl) dX6_isPart_67 ⟨Nat.zero_le _, Nat.zero_le _⟩  ?_
        refine sv_ri (fun v67 e67 => ?_)
        rw [sv_un (show 13 ≠ 15 by decide)] at e67
        refine sv_if_eq C 81 dX6_isPart_70 (by decide) (fun q70 => ?_) (fun q70 => ?_)
        · refine sv_iconst (v := nI 0) C dX6_isPart_81 (by decide) ?_
          refine sv_istore_n (i := 3) C [(0, .ref (sv_r G 19 0)), (1, .int (nI (g - 48))), (2, .int (nI 0)), (3, .int (nI 0))] dX6_isPart_82 rfl (by decide) rfl ?_
          refine sv_iload_n (i := 2) (x := nI 0) C dX6_isPart_83 rfl rfl ?_
          refine sv_if_ne C 96 dX6_isPart_84 (by decide) (fun q84 => ?_) (fun q84 => ?_)
          · exact absurd rfl q84
          · refine sv_iload_n (i := 3) (x := nI 0) C dX6_isPart_87 rfl rfl ?_
            refine sv_if_ne C 96 dX6_isPart_88 (by decide) (fun q88 => ?_) (fun q88 => ?_)
            · exact absurd rfl q88
            · have hn1 : ¬ pok (M 13) n9 (4 * k + 1) := fun h => (pok_1.mp h).elim (fun h => q53n h.2) (fun h => h.1 (e67.symm.trans q70))
              have hpe : prE (M 13) n9 (4 * k) = 1 := by unfold prE; rw [if_pos hp0, if_neg hn1]
              refine sv_aload_n (i := 0) (x := sv_r G 19 0) C dX6_isPart_91 rfl rfl ?_
              refine sv_callV (as := []) (rest := []) C (met_R_stops l G _ _ _ n9 (by simp only [sv_wu, sv_us, sv_uu]; rw [upd_n (show 1 ≠ 3 by decide)]; exact hn9) hn60 (4 * k + 1) (by simp only [sv_wu, sv_us, sv_uu]; rw [upd_s]) (by omega)) fX6_stops kw_887 (sv_recv19 C) ⟨Nat.le_of_ble_eq_true rfl, Nat.le_of_ble_eq_true rfl⟩ (Nat.le_of_ble_eq_true rfl) dX6_isPart_92 ⟨Nat.zero_le _, Nat.zero_le _⟩  ?_
              refine sv_ri (fun v92 e92 => ?_)
              exact sv_zret C ite01 hr dX6_isPart_95 (Nat.le_of_ble_eq_true rfl) (Nat.le_of_ble_eq_true rfl) (by rw [e92, if_neg (by rw [hpe]; decide)]) (sv_eqW (by rw [prY_n hpe (by decide), prZ_n hpe (by decide), sv_ui2 (by decide), sv_us, sv_uu]))
        · refine sv_iload_n (i := 1) (x := nI (g - 48)) C dX6_isPart_73 rfl rfl ?_
          refine sv_if_le C 81 dX6_isPart_74 (by decide) (fun q74 => ?_) (fun q74 => ?_)
          · have q74n : ¬ 48 < M 13 (4 * k) := fun h => by
              rw [hgc] at h
              have h2 := (nI_ltI (a := 48) (b := g) (by decide) (by omega)).mp h
              exact nI_nle (n := g - 48) (by omega) (by omega) q74
            refine sv_iconst (v := nI 0) C dX6_isPart_81 (by decide) ?_
            refine sv_istore_n (i := 3) C [(0, .ref (sv_r G 19 0)), (1, .int (nI (g - 48))), (2, .int (nI 0)), (3, .int (nI 0))] dX6_isPart_82 rfl (by decide) rfl ?_
            refine sv_iload_n (i := 2) (x := nI 0) C dX6_isPart_83 rfl rfl ?_
            refine sv_if_ne C 96 dX6_isPart_84 (by decide) (fun q84 => ?_) (fun q84 => ?_)
            · exact absurd rfl q84
            · refine sv_iload_n (i := 3) (x := nI 0) C dX6_isPart_87 rfl rfl ?_
              refine sv_if_ne C 96 dX6_isPart_88 (by decide) (fun q88 => ?_) (fun q88 => ?_)
              · exact absurd rfl q88
              · have hn1 : ¬ pok (M 13) n9 (4 * k + 1) := fun h => (pok_1.mp h).elim (fun h => q53n h.2) (fun h => q74n h.2)
                have hpe : prE (M 13) n9 (4 * k) = 1 := by unfold prE; rw [if_pos hp0, if_neg hn1]
                refine sv_aload_n (i := 0) (x := sv_r G 19 0) C dX6_isPart_91 rfl rfl ?_
                refine sv_callV (as := []) (rest := []) C (met_R_stops l G _ _ _ n9 (by simp only [sv_wu, sv_us, sv_uu]; rw [upd_n (show 1 ≠ 3 by decide)]; exact hn9) hn60 (4 * k + 1) (by simp only [sv_wu, sv_us, sv_uu]; rw [upd_s]) (by omega)) fX6_stops kw_887 (sv_recv19 C) ⟨Nat.le_of_ble_eq_true rfl, Nat.le_of_ble_eq_true rfl⟩ (Nat.le_of_ble_eq_true rfl) dX6_isPart_92 ⟨Nat.zero_le _, Nat.zero_le _⟩  ?_
                refine sv_ri (fun v92 e92 => ?_)
                exact sv_zret C ite01 hr dX6_isPart_95 (Nat.le_of_ble_eq_true rfl) (Nat.le_of_ble_eq_true rfl) (by rw [e92, if_neg (by rw [hpe]; decide)]) (sv_eqW (by rw [prY_n hpe (by decide), prZ_n hpe (by decide), sv_ui2 (by decide), sv_us, sv_uu]))
          · have q74p : 48 < M 13 (4 * k) := by
              rw [hgc]
              refine (nI_ltI (a := 48) (b := g) (by decide) (by omega)).mpr ?_
              rcases Nat.lt_or_ge 48 g with h | h
              · exact h
              · rw [show g - 48 = 0 by omega] at q74
                exact absurd (by decide) q74
            refine sv_iconst (v := nI 1) C dX6_isPart_77 (by decide) ?_
            refine sv_goto C 82 dX6_isPart_78 (by decide) ?_
            refine sv_istore_n (i := 3) C [(0, .ref (sv_r G 19 0)), (1, .int (nI (g - 48))), (2, .int (nI 0)), (3, .int (nI 1))] dX6_isPart_82 rfl (by decide) rfl ?_
            refine sv_iload_n (i := 2) (x := nI 0) C dX6_isPart_83 rfl rfl ?_
            refine sv_if_ne C 96 dX6_isPart_84 (by decide) (fun q84 => ?_) (fun q84 => ?_)
            · exact absurd rfl q84
            · refine sv_iload_n (i := 3) (x := nI 1) C dX6_isPart_87 rfl rfl ?_
              refine sv_if_ne C 96 dX6_isPart_88 (by decide) (fun q88 => ?_) (fun q88 => ?_)
              · have hp1 : pok (M 13) n9 (4 * k + 1) := pok_1.mpr (Or.inr ⟨fun h => q70 (e67.trans h), q74p⟩)
                have hch : M 13 (4 * k + 1) = 60 := (atF_c.mp (fun h => q70 (e67.trans h))).2
                have hg48 : 48 < g := by rw [hgc] at q74p; exact (nI_ltI (a := 48) (b := g) (by decide) (by omega)).mp q74p
                have hlt1 := hp1.1
                refine sv_aload_n (i := 0) (x := sv_r G 19 0) C dX6_isPart_96 rfl rfl ?_
                refine sv_dup C dX6_isPart_97 rfl ?_
                refine sv_get_6_7 C kw_729 dX6_isPart_98 ?_
                refine sv_set (v' := .int (nI (4 * k + 1))) (congrArg Value.int (by simp only [sv_wu, sv_us, sv_uu]; rw [upd_s])) ?_
                refine sv_iconst (v := nI 1) C dX6_isPart_101 (by decide) ?_
                refine sv_iadd C dX6_isPart_102 ?_
                refine sv_set (v' := .int (nI (4 * k + 1 + 1))) (congrArg Value.int (nI_add _ _)) ?_
                refine sv_put_6_7 C kw_729 dX6_isPart_103 ?_
                refine sv_wd (sv_eqW (show _ = sv_u M 15 (upd (M 15) 3 (nI (4 * k + 2))) from by rw [sv_wu, sv_us, sv_uu, upd_u])) ?_
                refine sv_iload_n (i := 2) (x := nI 0) C dX6_isPart_106 rfl rfl ?_
                refine sv_if_eq C 126 dX6_isPart_107 (by decide) (fun q107 => ?_) (fun q107 => ?_)
                · refine sv_aload_n (i := 0) (x := sv_r G 19 0) C dX6_isPart_126 rfl rfl ?_
                  refine sv_bipush (v := nI 48) C dX6_isPart_127 (by decide) ?_
                  refine sv_bipush (v := nI 48) C dX6_isPart_129 (by decide) ?_
                  refine sv_iload_n (i := 1) (x := nI (g - 48)) C dX6_isPart_131 rfl rfl ?_
                  refine sv_iadd C dX6_isPart_132 ?_
                  refine sv_set (v' := .int (nI g)) (congrArg Value.int (by rw [nI_add]; exact congrArg nI (by omega))) ?_
                  refine sv_iconst (v := nI 1) C dX6_isPart_133 (by decide) ?_
                  refine sv_isub C dX6_isPart_134 ?_
                  refine sv_set (v' := .int (nI (g - 1))) (congrArg Value.int (pk_sub (b := 1) (by omega))) ?_
                  refine sv_callV (as := [_, _]) (rest := []) C (met_R_isAt l G _ _ _ n9 (by simp only [sv_wu, sv_us, sv_uu]; rw [upd_n (show 1 ≠ 3 by decide)]; exact hn9) hn60 (4 * k + 2) (by simp only [sv_wu, sv_us, sv_uu]; rw [upd_s]) (by omega) (nI 48) (nI (g - 1))) fX6_isAt kw_883 (sv_recv19 C) ⟨Nat.le_of_ble_eq_true rfl, Nat.le_of_ble_eq_true rfl⟩ (Nat.le_of_ble_eq_true rfl) dX6_isPart_135 ⟨Nat.zero_le _, Nat.zero_le _⟩  ?_
                  refine sv_ri (fun v135 e135 => ?_)
                  rw [sv_un (show 13 ≠ 15 by decide)] at e135
                  refine sv_if_ne C 146 dX6_isPart_138 (by decide) (fun q138 => ?_) (fun q138 => ?_)
                  · have hp2 : pok (M 13) n9 (4 * k + 2) := (pok_2d hg48 hg2 hgc hch).mpr (fun h => q138 (e135.trans h))
                    have hpe : prE (M 13) n9 (4 * k) = 3 := by unfold prE; rw [if_pos hp0, if_pos hp1, if_pos hp2]
                    have hlt2 := hp2.1
                    refine sv_aload_n (i := 0) (x := sv_r G 19 0) C dX6_isPart_146 rfl rfl ?_
                    refine sv_get_6_9 C kw_731 dX6_isPart_147 ?_
                    refine sv_iconst (v := nI 2) C dX6_isPart_150 (by decide) ?_
                    refine sv_aload_n (i := 0) (x := sv_r G 19 0) C dX6_isPart_151 rfl rfl ?_
                    refine sv_get_6_10 C kw_732 dX6_isPart_152 ?_
                    refine sv_set (v' := .int (nI k)) (congrArg Value.int (by rw [sv_us, upd_n (by decide)]; exact htk)) ?_
                    refine sv_imul C dX6_isPart_155 ?_
                    refine sv_set (v' := .int (nI (2 * k))) (congrArg Value.int (pk_mul _ _)) ?_
                    refine sv_iload_n (i := 1) (x := nI (g - 48)) C dX6_isPart_156 rfl rfl ?_
                    refine sv_iastN C 14 (2 * k) rfl rfl rfl rfl (by show _ < 32; omega) dX6_isPart_157 ?_
                    refine sv_aload_n (i := 0) (x := sv_r G 19 0) C dX6_isPart_158 rfl rfl ?_
                    refine sv_get_6_9 C kw_731 dX6_isPart_159 ?_
                    refine sv_iconst (v := nI 2) C dX6_isPart_162 (by decide) ?_
                    refine sv_aload_n (i := 0) (x := sv_r G 19 0) C dX6_isPart_163 rfl rfl ?_
                    refine sv_get_6_10 C kw_732 dX6_isPart_164 ?_
                    refine sv_set (v' := .int (nI k)) (congrArg Value.int (by rw [sv_wu, sv_un (by decide), sv_us, upd_n (by decide)]; exact htk)) ?_
                    refine sv_imul C dX6_isPart_167 ?_
                    refine sv_set (v' := .int (nI (2 * k))) (congrArg Value.int (pk_mul _ _)) ?_
                    refine sv_iconst (v := nI 1) C dX6_isPart_168 (by decide) ?_
                    refine sv_iadd C dX6_isPart_169 ?_
                    refine sv_set (v' := .int (nI (2 * k + 1))) (congrArg Value.int (nI_add _ _)) ?_
                    refine sv_aload_n (i := 0) (x := sv_r G 19 0) C dX6_isPart_170 rfl rfl ?_
                    refine sv_get_6_4 C kw_726 dX6_isPart_171 ?_
                    refine sv_aload_n (i := 0) (x := sv_r G 19 0) C dX6_isPart_174 rfl rfl ?_
                    refine sv_get_6_7 C kw_729 dX6_isPart_175 ?_
                    refine sv_set (v' := .int (nI (4 * k + 2))) (congrArg Value.int (by rw [sv_wu, sv_un (by decide), sv_us, upd_s])) ?_
                    refine sv_ialdN C 13 (4 * k + 2) rfl rfl rfl rfl (by show _ < 60; omega) dX6_isPart_178 ?_
                    refine sv_set (v' := .int (M 13 (4 * k + 2))) (congrArg Value.int (by rw [sv_wu, sv_un (show 13 ≠ 14 by decide), sv_un (show 13 ≠ 15 by decide)])) ?_
                    refine sv_bipush (v := nI 48) C dX6_isPart_179 (by decide) ?_
                    refine sv_isub C dX6_isPart_181 ?_
                    refine sv_set (v' := .int (M 13 (4 * k + 2) - 48)) (congrArg Value.int rfl) ?_
                    refine sv_iastN C 14 (2 * k + 1) rfl rfl rfl rfl (by show _ < 32; omega) dX6_isPart_182 ?_
                    refine sv_aload_n (i := 0) (x := sv_r G 19 0) C dX6_isPart_183 rfl rfl ?_
                    refine sv_dup C dX6_isPart_184 rfl ?_
                    refine sv_get_6_7 C kw_729 dX6_isPart_185 ?_
                    refine sv_set (v' := .int (nI (4 * k + 2))) (congrArg Value.int (by simp only [sv_wu]; rw [sv_un (by decide), sv_un (by decide), sv_us, upd_s])) ?_
                    refine sv_iconst (v := nI 1) C dX6_isPart_188 (by decide) ?_
                    refine sv_iadd C dX6_isPart_189 ?_
                    refine sv_set (v' := .int (nI (4 * k + 2 + 1))) (congrArg Value.int (nI_add _ _)) ?_
                    refine sv_put_6_7 C kw_729 dX6_isPart_190 ?_
                    refine sv_iconst (v := nI 1) C dX6_isPart_193 (by decide) ?_
                    exact sv_zret C ite01 hr dX6_isPart_194 (Nat.le_of_ble_eq_true rfl) (Nat.le_of_ble_eq_true rfl) (by rw [if_pos hpe]; rfl) (sv_eqW (by rw [prY_3 hpe, prZ_3 hpe, hgc, show nI g - 48 = nI (g - 48) from pk_sub (b := 48) (by omega)]; simp only [sv_wu, sv_us, sv_uu, sv_un (show (15 : Nat) ≠ 14 by decide), sv_un (show (14 : Nat) ≠ 15 by decide)]; rw [sv_u3 (show 14 ≠ 15 by decide), upd_u]))
                  · have hn2 : ¬ pok (M 13) n9 (4 * k + 2) := fun h => (pok_2d hg48 hg2 hgc hch).mp h (e135.symm.trans q138)
                    have hpe : prE (M 13) n9 (4 * k) = 2 := by unfold prE; rw [if_pos hp0, if_pos hp1, if_neg hn2]
                    refine sv_aload_n (i := 0) (x := sv_r G 19 0) C dX6_isPart_141 rfl rfl ?_
                    refine sv_callV (as := []) (rest := []) C (met_R_stops l G _ _ _ n9 (by simp only [sv_wu, sv_us, sv_uu]; rw [upd_n (show 1 ≠ 3 by decide)]; exact hn9) hn60 (4 * k + 2) (by simp only [sv_wu, sv_us, sv_uu]; rw [upd_s]) (by omega)) fX6_stops kw_887 (sv_recv19 C) ⟨Nat.le_of_ble_eq_true rfl, Nat.le_of_ble_eq_true rfl⟩ (Nat.le_of_ble_eq_true rfl) dX6_isPart_142 ⟨Nat.zero_le _, Nat.zero_le _⟩  ?_
                    refine sv_ri (fun v142 e142 => ?_)
                    exact sv_zret C ite01 hr dX6_isPart_145 (Nat.le_of_ble_eq_true rfl) (Nat.le_of_ble_eq_true rfl) (by rw [e142, if_neg (by rw [hpe]; decide)]) (sv_eqW (by rw [prY_n hpe (by decide), prZ_n hpe (by decide), sv_ui2 (by decide), sv_us, sv_uu]))
                · exact absurd rfl q107
              · exact absurd q88 (by decide)
      · have q53p : M 13 (4 * k) < 55 := by
          rw [hgc]
          exact (nI_ltI (a := g) (b := 55) (by omega) (by decide)).mpr (by omega)
        refine sv_iconst (v := nI 1) C dX6_isPart_56 (by decide) ?_
        refine sv_goto C 61 dX6_isPart_57 (by decide) ?_
        refine sv_istore_n (i := 2) C [(0, .ref (sv_r G 19 0)), (1, .int (nI (g - 48))), (2, .int (nI 1))] dX6_isPart_61 rfl (by decide) rfl ?_
        refine sv_aload_n (i := 0) (x := sv_r G 19 0) C dX6_isPart_62 rfl rfl ?_
        refine sv_bipush (v := nI 60) C dX6_isPart_63 (by decide) ?_
        refine sv_bipush (v := nI 60) C dX6_isPart_65 (by decide) ?_
        refine sv_callV (as := [_, _]) (rest := []) C (met_R_isAt l G _ _ _ n9 (by simp only [sv_wu, sv_us, sv_uu]; rw [upd_n (show 1 ≠ 3 by decide)]; exact hn9) hn60 (4 * k + 1) (by simp only [sv_wu, sv_us, sv_uu]; rw [upd_s]) (by omega) (nI 60) (nI 60)) fX6_isAt kw_883 (sv_recv19 C) ⟨Nat.le_of_ble_eq_true rfl, Nat.le_of_ble_eq_true rfl⟩ (Nat.le_of_ble_eq_true rfl) dX6_isPart_67 ⟨Nat.zero_le _, Nat.zero_le _⟩  ?_
        refine sv_ri (fun v67 e67 => ?_)
        rw [sv_un (show 13 ≠ 15 by decide)] at e67
        refine sv_if_eq C 81 dX6_isPart_70 (by decide) (fun q70 => ?_) (fun q70 => ?_)
        · refine sv_iconst (v := nI 0) C dX6_isPart_81 (by decide) ?_
          refine sv_istore_n (i := 3) C [(0, .ref (sv_r G 19 0)), (1, .int (nI (g - 48))), (2, .int (nI 1)), (3, .int (nI 0))] dX6_isPart_82 rfl (by decide) rfl ?_
          refine sv_iload_n (i := 2) (x := nI 1) C dX6_isPart_83 rfl rfl ?_
          refine sv_if_ne C 96 dX6_isPart_84 (by decide) (fun q84 => ?_) (fun q84 => ?_)
          · have hp1 : pok (M 13) n9 (4 * k + 1) := pok_1.mpr (Or.inl ⟨fun h => q47 (e44.trans h), q53p⟩)
            have hch : M 13 (4 * k + 1) = 62 := (atF_c.mp (fun h => q47 (e44.trans h))).2
            have hlt1 := hp1.1
            refine sv_aload_n (i := 0) (x := sv_r G 19 0) C dX6_isPart_96 rfl rfl ?_
            refine sv_dup C dX6_isPart_97 rfl ?_
            refine sv_get_6_7 C kw_729 dX6_isPart_98 ?_
            refine sv_set (v' := .int (nI (4 * k + 1))) (congrArg Value.int (by simp only [sv_wu, sv_us, sv_uu]; rw [upd_s])) ?_
            refine sv_iconst (v := nI 1) C dX6_isPart_101 (by decide) ?_
            refine sv_iadd C dX6_isPart_102 ?_
            refine sv_set (v' := .int (nI (4 * k + 1 + 1))) (congrArg Value.int (nI_add _ _)) ?_
            refine sv_put_6_7 C kw_729 dX6_isPart_103 ?_
            refine sv_wd (sv_eqW (show _ = sv_u M 15 (upd (M 15) 3 (nI (4 * k + 2))) from by rw [sv_wu, sv_us, sv_uu, upd_u])) ?_
            refine sv_iload_n (i := 2) (x := nI 1) C dX6_isPart_106 rfl rfl ?_
            refine sv_if_eq C 126 dX6_isPart_107 (by decide) (fun q107 => ?_) (fun q107 => ?_)
            · exact absurd q107 (by decide)
            · refine sv_aload_n (i := 0) (x := sv_r G 19 0) C dX6_isPart_110 rfl rfl ?_
              refine sv_bipush (v := nI 49) C dX6_isPart_111 (by decide) ?_
              refine sv_iload_n (i := 1) (x := nI (g - 48)) C dX6_isPart_113 rfl rfl ?_
              refine sv_iadd C dX6_isPart_114 ?_
              refine sv_set (v' := .int (nI (g + 1))) (congrArg Value.int (by rw [nI_add]; exact congrArg nI (by omega))) ?_
              refine sv_bipush (v := nI 55) C dX6_isPart_115 (by decide) ?_
              refine sv_callV (as := [_, _]) (rest := []) C (met_R_isAt l G _ _ _ n9 (by simp only [sv_wu, sv_us, sv_uu]; rw [upd_n (show 1 ≠ 3 by decide)]; exact hn9) hn60 (4 * k + 2) (by simp only [sv_wu, sv_us, sv_uu]; rw [upd_s]) (by omega) (nI (g + 1)) (nI 55)) fX6_isAt kw_883 (sv_recv19 C) ⟨Nat.le_of_ble_eq_true rfl, Nat.le_of_ble_eq_true rfl⟩ (Nat.le_of_ble_eq_true rfl) dX6_isPart_117 ⟨Nat.zero_le _, Nat.zero_le _⟩  ?_
              refine sv_ri (fun v117 e117 => ?_)
              rw [sv_un (show 13 ≠ 15 by decide)] at e117
              refine sv_if_eq C 141 dX6_isPart_120 (by decide) (fun q120 => ?_) (fun q120 => ?_)
              · have hn2 : ¬ pok (M 13) n9 (4 * k + 2) := fun h => (pok_2u hg1 hg2 hgc hch).mp h (e117.symm.trans q120)
                have hpe : prE (M 13) n9 (4 * k) = 2 := by unfold prE; rw [if_pos hp0, if_pos hp1, if_neg hn2]
                refine sv_aload_n (i := 0) (x := sv_r G 19 0) C dX6_isPart_141 rfl rfl ?_
                refine sv_callV (as := []) (rest := []) C (met_R_stops l G _ _ _ n9 (by simp only [sv_wu, sv_us, sv_uu]; rw [upd_n (show 1 ≠ 3 by decide)]; exact hn9) hn60 (4 * k + 2) (by simp only [sv_wu, sv_us, sv_uu]; rw [upd_s]) (by omega)) fX6_stops kw_887 (sv_recv19 C) ⟨Nat.le_of_ble_eq_true rfl, Nat.le_of_ble_eq_true rfl⟩ (Nat.le_of_ble_eq_true rfl) dX6_isPart_142 ⟨Nat.zero_le _, Nat.zero_le _⟩  ?_
                refine sv_ri (fun v142 e142 => ?_)
                exact sv_zret C ite01 hr dX6_isPart_145 (Nat.le_of_ble_eq_true rfl) (Nat.le_of_ble_eq_true rfl) (by rw [e142, if_neg (by rw [hpe]; decide)]) (sv_eqW (by rw [prY_n hpe (by decide), prZ_n hpe (by decide), sv_ui2 (by decide), sv_us, sv_uu]))
              · have hp2 : pok (M 13) n9 (4 * k + 2) := (pok_2u hg1 hg2 hgc hch).mpr (fun h => q120 (e117.trans h))
                have hpe : prE (M 13) n9 (4 * k) = 3 := by unfold prE; rw [if_pos hp0, if_pos hp1, if_pos hp2]
                have hlt2 := hp2.1
                refine sv_goto C 146 dX6_isPart_123 (by decide) ?_
                refine sv_aload_n (i := 0) (x := sv_r G 19 0) C dX6_isPart_146 rfl rfl ?_
                refine sv_get_6_9 C kw_731 dX6_isPart_147 ?_
                refine sv_iconst (v := nI 2) C dX6_isPart_150 (by decide) ?_
                refine sv_aload_n (i := 0) (x := sv_r G 19 0) C dX6_isPart_151 rfl rfl ?_
                refine sv_get_6_10 C kw_732 dX6_isPart_152 ?_
                refine sv_set (v' := .int (nI k)) (congrArg Value.int (by rw [sv_us, upd_n (by decide)]; exact htk)) ?_
                refine sv_imul C dX6_isPart_155 ?_
                refine sv_set (v' := .int (nI (2 * k))) (congrArg Value.int (pk_mul _ _)) ?_
                refine sv_iload_n (i := 1) (x := nI (g - 48)) C dX6_isPart_156 rfl rfl ?_
                refine sv_iastN C 14 (2 * k) rfl rfl rfl rfl (by show _ < 32; omega) dX6_isPart_157 ?_
                refine sv_aload_n (i := 0) (x := sv_r G 19 0) C dX6_isPart_158 rfl rfl ?_
                refine sv_get_6_9 C kw_731 dX6_isPart_159 ?_
                refine sv_iconst (v := nI 2) C dX6_isPart_162 (by decide) ?_
                refine sv_aload_n (i := 0) (x := sv_r G 19 0) C dX6_isPart_163 rfl rfl ?_
                refine sv_get_6_10 C kw_732 dX6_isPart_164 ?_
                refine sv_set (v' := .int (nI k)) (congrArg Value.int (by rw [sv_wu, sv_un (by decide), sv_us, upd_n (by decide)]; exact htk)) ?_
                refine sv_imul C dX6_isPart_167 ?_
                refine sv_set (v' := .int (nI (2 * k))) (congrArg Value.int (pk_mul _ _)) ?_
                refine sv_iconst (v := nI 1) C dX6_isPart_168 (by decide) ?_
                refine sv_iadd C dX6_isPart_169 ?_
                refine sv_set (v' := .int (nI (2 * k + 1))) (congrArg Value.int (nI_add _ _)) ?_
                refine sv_aload_n (i := 0) (x := sv_r G 19 0) C dX6_isPart_170 rfl rfl ?_
                refine sv_get_6_4 C kw_726 dX6_isPart_171 ?_
                refine sv_aload_n (i := 0) (x := sv_r G 19 0) C dX6_isPart_174 rfl rfl ?_
                refine sv_get_6_7 C kw_729 dX6_isPart_175 ?_
                refine sv_set (v' := .int (nI (4 * k + 2))) (congrArg Value.int (by rw [sv_wu, sv_un (by decide), sv_us, upd_s])) ?_
                refine sv_ialdN C 13 (4 * k + 2) rfl rfl rfl rfl (by show _ < 60; omega) dX6_isPart_178 ?_
                refine sv_set (v' := .int (M 13 (4 * k + 2))) (congrArg Value.int (by rw [sv_wu, sv_un (show 13 ≠ 14 by decide), sv_un (show 13 ≠ 15 by decide)])) ?_
                refine sv_bipush (v := nI 48) C dX6_isPart_179 (by decide) ?_
                refine sv_isub C dX6_isPart_181 ?_
                refine sv_set (v' := .int (M 13 (4 * k + 2) - 48)) (congrArg Value.int rfl) ?_
                refine sv_iastN C 14 (2 * k + 1) rfl rfl rfl rfl (by show _ < 32; omega) dX6_isPart_182 ?_
                refine sv_aload_n (i := 0) (x := sv_r G 19 0) C dX6_isPart_183 rfl rfl ?_
                refine sv_dup C dX6_isPart_184 rfl ?_
                refine sv_get_6_7 C kw_729 dX6_isPart_185 ?_
                refine sv_set (v' := .int (nI (4 * k + 2))) (congrArg Value.int (by simp only [sv_wu]; rw [sv_un (by decide), sv_un (by decide), sv_us, upd_s])) ?_
                refine sv_iconst (v := nI 1) C dX6_isPart_188 (by decide) ?_
                refine sv_iadd C dX6_isPart_189 ?_
                refine sv_set (v' := .int (nI (4 * k + 2 + 1))) (congrArg Value.int (nI_add _ _)) ?_
                refine sv_put_6_7 C kw_729 dX6_isPart_190 ?_
                refine sv_iconst (v := nI 1) C dX6_isPart_193 (by decide) ?_
                exact sv_zret C ite01 hr dX6_isPart_194 (Nat.le_of_ble_eq_true rfl) (Nat.le_of_ble_eq_true rfl) (by rw [if_pos hpe]; rfl) (sv_eqW (by rw [prY_3 hpe, prZ_3 hpe, hgc, show nI g - 48 = nI (g - 48) from pk_sub (b := 48) (by omega)]; simp only [sv_wu, sv_us, sv_uu, sv_un (show (15 : Nat) ≠ 14 by decide), sv_un (show (14 : Nat) ≠ 15 by decide)]; rw [sv_u3 (show 14 ≠ 15 by decide), upd_u]))
          · exact absurd q84 (by decide)
        · refine sv_iload_n (i := 1) (x := nI (g - 48)) C dX6_isPart_73 rfl rfl ?_
          refine sv_if_le C 81 dX6_isPart_74 (by decide) (fun q74 => ?_) (fun q74 => ?_)
          · have q74n : ¬ 48 < M 13 (4 * k) := fun h => by
              rw [hgc] at h
              have h2 := (nI_ltI (a := 48) (b := g) (by decide) (by omega)).mp h
              exact nI_nle (n := g - 48) (by omega) (by omega) q74
            refine sv_iconst (v := nI 0) C dX6_isPart_81 (by decide) ?_
            refine sv_istore_n (i := 3) C [(0, .ref (sv_r G 19 0)), (1, .int (nI (g - 48))), (2, .int (nI 1)), (3, .int (nI 0))] dX6_isPart_82 rfl (by decide) rfl ?_
            refine sv_iload_n (i := 2) (x := nI 1) C dX6_isPart_83 rfl rfl ?_
            refine sv_if_ne C 96 dX6_isPart_84 (by decide) (fun q84 => ?_) (fun q84 => ?_)
            · have hp1 : pok (M 13) n9 (4 * k + 1) := pok_1.mpr (Or.inl ⟨fun h => q47 (e44.trans h), q53p⟩)
              have hch : M 13 (4 * k + 1) = 62 := (atF_c.mp (fun h => q47 (e44.trans h))).2
              have hlt1 := hp1.1
              refine sv_aload_n (i := 0) (x := sv_r G 19 0) C dX6_isPart_96 rfl rfl ?_
              refine sv_dup C dX6_isPart_97 rfl ?_
              refine sv_get_6_7 C kw_729 dX6_isPart_98 ?_
              refine sv_set (v' := .int (nI (4 * k + 1))) (congrArg Value.int (by simp only [sv_wu, sv_us, sv_uu]; rw [upd_s])) ?_
              refine sv_iconst (v := nI 1) C dX6_isPart_101 (by decide) ?_
              refine sv_iadd C dX6_isPart_102 ?_
              refine sv_set (v' := .int (nI (4 * k + 1 + 1))) (congrArg Value.int (nI_add _ _)) ?_
              refine sv_put_6_7 C kw_729 dX6_isPart_103 ?_
              refine sv_wd (sv_eqW (show _ = sv_u M 15 (upd (M 15) 3 (nI (4 * k + 2))) from by rw [sv_wu, sv_us, sv_uu, upd_u])) ?_
              refine sv_iload_n (i := 2) (x := nI 1) C dX6_isPart_106 rfl rfl ?_
              refine sv_if_eq C 126 dX6_isPart_107 (by decide) (fun q107 => ?_) (fun q107 => ?_)
              · exact absurd q107 (by decide)
              · refine sv_aload_n (i := 0) (x := sv_r G 19 0) C dX6_isPart_110 rfl rfl ?_
                refine sv_bipush (v := nI 49) C dX6_isPart_111 (by decide) ?_
                refine sv_iload_n (i := 1) (x := nI (g - 48)) C dX6_isPart_113 rfl rfl ?_
                refine sv_iadd C dX6_isPart_114 ?_
                refine sv_set (v' := .int (nI (g + 1))) (congrArg Value.int (by rw [nI_add]; exact congrArg nI (by omega))) ?_
                refine sv_bipush (v := nI 55) C dX6_isPart_115 (by decide) ?_
                refine sv_callV (as := [_, _]) (rest := []) C (met_R_isAt l G _ _ _ n9 (by simp only [sv_wu, sv_us, sv_uu]; rw [upd_n (show 1 ≠ 3 by decide)]; exact hn9) hn60 (4 * k + 2) (by simp only [sv_wu, sv_us, sv_uu]; rw [upd_s]) (by omega) (nI (g + 1)) (nI 55)) fX6_isAt kw_883 (sv_recv19 C) ⟨Nat.le_of_ble_eq_true rfl, Nat.le_of_ble_eq_true rfl⟩ (Nat.le_of_ble_eq_true rfl) dX6_isPart_117 ⟨Nat.zero_le _, Nat.zero_le _⟩  ?_
                refine sv_ri (fun v117 e117 => ?_)
                rw [sv_un (show 13 ≠ 15 by decide)] at e117
                refine sv_if_eq C 141 dX6_isPart_120 (by decide) (fun q120 => ?_) (fun q120 => ?_)
                · have hn2 : ¬ pok (M 13) n9 (4 * k + 2) := fun h => (pok_2u hg1 hg2 hgc hch).mp h (e117.symm.trans q120)
                  have hpe : prE (M 13) n9 (4 * k) = 2 := by unfold prE; rw [if_pos hp0, if_pos hp1, if_neg hn2]
                  refine sv_aload_n (i := 0) (x := sv_r G 19 0) C dX6_isPart_141 rfl rfl ?_
                  refine sv_callV (as := []) (rest := []) C (met_R_stops l G _ _ _ n9 (by simp only [sv_wu, sv_us, sv_uu]; rw [upd_n (show 1 ≠ 3 by decide)]; exact hn9) hn60 (4 * k + 2) (by simp only [sv_wu, sv_us, sv_uu]; rw [upd_s]) (by omega)) fX6_stops kw_887 (sv_recv19 C) ⟨Nat.le_of_ble_eq_true rfl, Nat.le_of_ble_eq_true rfl⟩ (Nat.le_of_ble_eq_true rfl) dX6_isPart_142 ⟨Nat.zero_le _, Nat.zero_le _⟩  ?_
                  refine sv_ri (fun v142 e142 => ?_)
                  exact sv_zret C ite01 hr dX6_isPart_145 (Nat.le_of_ble_eq_true rfl) (Nat.le_of_ble_eq_true rfl) (by rw [e142, if_neg (by rw [hpe]; decide)]) (sv_eqW (by rw [prY_n hpe (by decide), prZ_n hpe (by decide), sv_ui2 (by decide), sv_us, sv_uu]))
                · have hp2 : pok (M 13) n9 (4 * k + 2) := (pok_2u hg1 hg2 hgc hch).mpr (fun h => q120 (e117.trans h))
                  have hpe : prE (M 13) n9 (4 * k) = 3 := by unfold prE; rw [if_pos hp0, if_pos hp1, if_pos hp2]
                  have hlt2 := hp2.1
                  refine sv_goto C 146 dX6_isPart_123 (by decide) ?_
                  refine sv_aload_n (i := 0) (x := sv_r G 19 0) C dX6_isPart_146 rfl rfl ?_
                  refine sv_get_6_9 C kw_731 dX6_isPart_147 ?_
                  refine sv_iconst (v := nI 2) C dX6_isPart_150 (by decide) ?_
                  refine sv_aload_n (i := 0) (x := sv_r G 19 0) C dX6_isPart_151 rfl rfl ?_
                  refine sv_get_6_10 C kw_732 dX6_isPart_152 ?_
                  refine sv_set (v' := .int (nI k)) (congrArg Value.int (by rw [sv_us, upd_n (by decide)]; exact htk)) ?_
                  refine sv_imul C dX6_isPart_155 ?_
                  refine sv_set (v' := .int (nI (2 * k))) (congrArg Value.int (pk_mul _ _)) ?_
                  refine sv_iload_n (i := 1) (x := nI (g - 48)) C dX6_isPart_156 rfl rfl ?_
                  refine sv_iastN C 14 (2 * k) rfl rfl rfl rfl (by show _ < 32; omega) dX6_isPart_157 ?_
                  refine sv_aload_n (i := 0) (x := sv_r G 19 0) C dX6_isPart_158 rfl rfl ?_
                  refine sv_get_6_9 C kw_731 dX6_isPart_159 ?_
                  refine sv_iconst (v := nI 2) C dX6_isPart_162 (by decide) ?_
                  refine sv_aload_n (i := 0) (x := sv_r G 19 0) C dX6_isPart_163 rfl rfl ?_
                  refine sv_get_6_10 C kw_732 dX6_isPart_164 ?_
                  refine sv_set (v' := .int (nI k)) (congrArg Value.int (by rw [sv_wu, sv_un (by decide), sv_us, upd_n (by decide)]; exact htk)) ?_
                  refine sv_imul C dX6_isPart_167 ?_
                  refine sv_set (v' := .int (nI (2 * k))) (congrArg Value.int (pk_mul _ _)) ?_
                  refine sv_iconst (v := nI 1) C dX6_isPart_168 (by decide) ?_
                  refine sv_iadd C dX6_isPart_169 ?_
                  refine sv_set (v' := .int (nI (2 * k + 1))) (congrArg Value.int (nI_add _ _)) ?_
                  refine sv_aload_n (i := 0) (x := sv_r G 19 0) C dX6_isPart_170 rfl rfl ?_
                  refine sv_get_6_4 C kw_726 dX6_isPart_171 ?_
                  refine sv_aload_n (i := 0) (x := sv_r G 19 0) C dX6_isPart_174 rfl rfl ?_
                  refine sv_get_6_7 C kw_729 dX6_isPart_175 ?_
                  refine sv_set (v' := .int (nI (4 * k + 2))) (congrArg Value.int (by rw [sv_wu, sv_un (by decide), sv_us, upd_s])) ?_
                  refine sv_ialdN C 13 (4 * k + 2) rfl rfl rfl rfl (by show _ < 60; omega) dX6_isPart_178 ?_
                  refine sv_set (v' := .int (M 13 (4 * k + 2))) (congrArg Value.int (by rw [sv_wu, sv_un (show 13 ≠ 14 by decide), sv_un (show 13 ≠ 15 by decide)])) ?_
                  refine sv_bipush (v := nI 48) C dX6_isPart_179 (by decide) ?_
                  refine sv_isub C dX6_isPart_181 ?_
                  refine sv_set (v' := .int (M 13 (4 * k + 2) - 48)) (congrArg Value.int rfl) ?_
                  refine sv_iastN C 14 (2 * k + 1) rfl rfl rfl rfl (by show _ < 32; omega) dX6_isPart_182 ?_
                  refine sv_aload_n (i := 0) (x := sv_r G 19 0) C dX6_isPart_183 rfl rfl ?_
                  refine sv_dup C dX6_isPart_184 rfl ?_
                  refine sv_get_6_7 C kw_729 dX6_isPart_185 ?_
                  refine sv_set (v' := .int (nI (4 * k + 2))) (congrArg Value.int (by simp only [sv_wu]; rw [sv_un (by decide), sv_un (by decide), sv_us, upd_s])) ?_
                  refine sv_iconst (v := nI 1) C dX6_isPart_188 (by decide) ?_
                  refine sv_iadd C dX6_isPart_189 ?_
                  refine sv_set (v' := .int (nI (4 * k + 2 + 1))) (congrArg Value.int (nI_add _ _)) ?_
                  refine sv_put_6_7 C kw_729 dX6_isPart_190 ?_
                  refine sv_iconst (v := nI 1) C dX6_isPart_193 (by decide) ?_
                  exact sv_zret C ite01 hr dX6_isPart_194 (Nat.le_of_ble_eq_true rfl) (Nat.le_of_ble_eq_true rfl) (by rw [if_pos hpe]; rfl) (sv_eqW (by rw [prY_3 hpe, prZ_3 hpe, hgc, show nI g - 48 = nI (g - 48) from pk_sub (b := 48) (by omega)]; simp only [sv_wu, sv_us, sv_uu, sv_un (show (15 : Nat) ≠ 14 by decide), sv_un (show (14 : Nat) ≠ 15 by decide)]; rw [sv_u3 (show 14 ≠ 15 by decide), upd_u]))
            · exact absurd q84 (by decide)
          · have q74p : 48 < M 13 (4 * k) := by
              rw [hgc]
              refine (nI_ltI (a := 48) (b := g) (by decide) (by omega)).mpr ?_
              rcases Nat.lt_or_ge 48 g with h | h
              · exact h
              · rw [show g - 48 = 0 by omega] at q74
                exact absurd (by decide) q74
            refine sv_iconst (v := nI 1) C dX6_isPart_77 (by decide) ?_
            refine sv_goto C 82 dX6_isPart_78 (by decide) ?_
            refine sv_istore_n (i := 3) C [(0, .ref (sv_r G 19 0)), (1, .int (nI (g - 48))), (2, .int (nI 1)), (3, .int (nI 1))] dX6_isPart_82 rfl (by decide) rfl ?_
            refine sv_iload_n (i := 2) (x := nI 1) C dX6_isPart_83 rfl rfl ?_
            refine sv_if_ne C 96 dX6_isPart_84 (by decide) (fun q84 => ?_) (fun q84 => ?_)
            · have hp1 : pok (M 13) n9 (4 * k + 1) := pok_1.mpr (Or.inl ⟨fun h => q47 (e44.trans h), q53p⟩)
              have hch : M 13 (4 * k + 1) = 62 := (atF_c.mp (fun h => q47 (e44.trans h))).2
              have hlt1 := hp1.1
              refine sv_aload_n (i := 0) (x := sv_r G 19 0) C dX6_isPart_96 rfl rfl ?_
              refine sv_dup C dX6_isPart_97 rfl ?_
              refine sv_get_6_7 C kw_729 dX6_isPart_98 ?_
              refine sv_set (v' := .int (nI (4 * k + 1))) (congrArg Value.int (by simp only [sv_wu, sv_us, sv_uu]; rw [upd_s])) ?_
              refine sv_iconst (v := nI 1) C dX6_isPart_101 (by decide) ?_
              refine sv_iadd C dX6_isPart_102 ?_
              refine sv_set (v' := .int (nI (4 * k + 1 + 1))) (congrArg Value.int (nI_add _ _)) ?_
              refine sv_put_6_7 C kw_729 dX6_isPart_103 ?_
              refine sv_wd (sv_eqW (show _ = sv_u M 15 (upd (M 15) 3 (nI (4 * k + 2))) from by rw [sv_wu, sv_us, sv_uu, upd_u])) ?_
              refine sv_iload_n (i := 2) (x := nI 1) C dX6_isPart_106 rfl rfl ?_
              refine sv_if_eq C 126 dX6_isPart_107 (by decide) (fun q107 => ?_) (fun q107 => ?_)
              · exact absurd q107 (by decide)
              · refine sv_aload_n (i := 0) (x := sv_r G 19 0) C dX6_isPart_110 rfl rfl ?_
                refine sv_bipush (v := nI 49) C dX6_isPart_111 (by decide) ?_
                refine sv_iload_n (i := 1) (x := nI (g - 48)) C dX6_isPart_113 rfl rfl ?_
                refine sv_iadd C dX6_isPart_114 ?_
                refine sv_set (v' := .int (nI (g + 1))) (congrArg Value.int (by rw [nI_add]; exact congrArg nI (by omega))) ?_
                refine sv_bipush (v := nI 55) C dX6_isPart_115 (by decide) ?_
                refine sv_callV (as := [_, _]) (rest := []) C (met_R_isAt l G _ _ _ n9 (by simp only [sv_wu, sv_us, sv_uu]; rw [upd_n (show 1 ≠ 3 by decide)]; exact hn9) hn60 (4 * k + 2) (by simp only [sv_wu, sv_us, sv_uu]; rw [upd_s]) (by omega) (nI (g + 1)) (nI 55)) fX6_isAt kw_883 (sv_recv19 C) ⟨Nat.le_of_ble_eq_true rfl, Nat.le_of_ble_eq_true rfl⟩ (Nat.le_of_ble_eq_true rfl) dX6_isPart_117 ⟨Nat.zero_le _, Nat.zero_le _⟩  ?_
                refine sv_ri (fun v117 e117 => ?_)
                rw [sv_un (show 13 ≠ 15 by decide)] at e117
                refine sv_if_eq C 141 dX6_isPart_120 (by decide) (fun q120 => ?_) (fun q120 => ?_)
                · have hn2 : ¬ pok (M 13) n9 (4 * k + 2) := fun h => (pok_2u hg1 hg2 hgc hch).mp h (e117.symm.trans q120)
                  have hpe : prE (M 13) n9 (4 * k) = 2 := by unfold prE; rw [if_pos hp0, if_pos hp1, if_neg hn2]
                  refine sv_aload_n (i := 0) (x := sv_r G 19 0) C dX6_isPart_141 rfl rfl ?_
                  refine sv_callV (as := []) (rest := []) C (met_R_stops l G _ _ _ n9 (by simp only [sv_wu, sv_us, sv_uu]; rw [upd_n (show 1 ≠ 3 by decide)]; exact hn9) hn60 (4 * k + 2) (by simp only [sv_wu, sv_us, sv_uu]; rw [upd_s]) (by omega)) fX6_stops kw_887 (sv_recv19 C) ⟨Nat.le_of_ble_eq_true rfl, Nat.le_of_ble_eq_true rfl⟩ (Nat.le_of_ble_eq_true rfl) dX6_isPart_142 ⟨Nat.zero_le _, Nat.zero_le _⟩  ?_
                  refine sv_ri (fun v142 e142 => ?_)
                  exact sv_zret C ite01 hr dX6_isPart_145 (Nat.le_of_ble_eq_true rfl) (Nat.le_of_ble_eq_true rfl) (by rw [e142, if_neg (by rw [hpe]; decide)]) (sv_eqW (by rw [prY_n hpe (by decide), prZ_n hpe (by decide), sv_ui2 (by decide), sv_us, sv_uu]))
                · have hp2 : pok (M 13) n9 (4 * k + 2) := (pok_2u hg1 hg2 hgc hch).mpr (fun h => q120 (e117.trans h))
                  have hpe : prE (M 13) n9 (4 * k) = 3 := by unfold prE; rw [if_pos hp0, if_pos hp1, if_pos hp2]
                  have hlt2 := hp2.1
                  refine sv_goto C 146 dX6_isPart_123 (by decide) ?_
                  refine sv_aload_n (i := 0) (x := sv_r G 19 0) C dX6_isPart_146 rfl rfl ?_
                  refine sv_get_6_9 C kw_731 dX6_isPart_147 ?_
                  refine sv_iconst (v := nI 2) C dX6_isPart_150 (by decide) ?_
                  refine sv_aload_n (i := 0) (x := sv_r G 19 0) C dX6_isPart_151 rfl rfl ?_
                  refine sv_get_6_10 C kw_732 dX6_isPart_152 ?_
                  refine sv_set (v' := .int (nI k)) (congrArg Value.int (by rw [sv_us, upd_n (by decide)]; exact htk)) ?_
                  refine sv_imul C dX6_isPart_155 ?_
                  refine sv_set (v' := .int (nI (2 * k))) (congrArg Value.int (pk_mul _ _)) ?_
                  refine sv_iload_n (i := 1) (x := nI (g - 48)) C dX6_isPart_156 rfl rfl ?_
                  refine sv_iastN C 14 (2 * k) rfl rfl rfl rfl (by show _ < 32; omega) dX6_isPart_157 ?_
                  refine sv_aload_n (i := 0) (x := sv_r G 19 0) C dX6_isPart_158 rfl rfl ?_
                  refine sv_get_6_9 C kw_731 dX6_isPart_159 ?_
                  refine sv_iconst (v := nI 2) C dX6_isPart_162 (by decide) ?_
                  refine sv_aload_n (i := 0) (x := sv_r G 19 0) C dX6_isPart_163 rfl rfl ?_
                  refine sv_get_6_10 C kw_732 dX6_isPart_164 ?_
                  refine sv_set (v' := .int (nI k)) (congrArg Value.int (by rw [sv_wu, sv_un (by decide), sv_us, upd_n (by decide)]; exact htk)) ?_
                  refine sv_imul C dX6_isPart_167 ?_
                  refine sv_set (v' := .int (nI (2 * k))) (congrArg Value.int (pk_mul _ _)) ?_
                  refine sv_iconst (v := nI 1) C dX6_isPart_168 (by decide) ?_
                  refine sv_iadd C dX6_isPart_169 ?_
                  refine sv_set (v' := .int (nI (2 * k + 1))) (congrArg Value.int (nI_add _ _)) ?_
                  refine sv_aload_n (i := 0) (x := sv_r G 19 0) C dX6_isPart_170 rfl rfl ?_
                  refine sv_get_6_4 C kw_726 dX6_isPart_171 ?_
                  refine sv_aload_n (i := 0) (x := sv_r G 19 0) C dX6_isPart_174 rfl rfl ?_
                  refine sv_get_6_7 C kw_729 dX6_isPart_175 ?_
                  refine sv_set (v' := .int (nI (4 * k + 2))) (congrArg Value.int (by rw [sv_wu, sv_un (by decide), sv_us, upd_s])) ?_
                  refine sv_ialdN C 13 (4 * k + 2) rfl rfl rfl rfl (by show _ < 60; omega) dX6_isPart_178 ?_
                  refine sv_set (v' := .int (M 13 (4 * k + 2))) (congrArg Value.int (by rw [sv_wu, sv_un (show 13 ≠ 14 by decide), sv_un (show 13 ≠ 15 by decide)])) ?_
                  refine sv_bipush (v := nI 48) C dX6_isPart_179 (by decide) ?_
                  refine sv_isub C dX6_isPart_181 ?_
                  refine sv_set (v' := .int (M 13 (4 * k + 2) - 48)) (congrArg Value.int rfl) ?_
                  refine sv_iastN C 14 (2 * k + 1) rfl rfl rfl rfl (by show _ < 32; omega) dX6_isPart_182 ?_
                  refine sv_aload_n (i := 0) (x := sv_r G 19 0) C dX6_isPart_183 rfl rfl ?_
                  refine sv_dup C dX6_isPart_184 rfl ?_
                  refine sv_get_6_7 C kw_729 dX6_isPart_185 ?_
                  refine sv_set (v' := .int (nI (4 * k + 2))) (congrArg Value.int (by simp only [sv_wu]; rw [sv_un (by decide), sv_un (by decide), sv_us, upd_s])) ?_
                  refine sv_iconst (v := nI 1) C dX6_isPart_188 (by decide) ?_
                  refine sv_iadd C dX6_isPart_189 ?_
                  refine sv_set (v' := .int (nI (4 * k + 2 + 1))) (congrArg Value.int (nI_add _ _)) ?_
                  refine sv_put_6_7 C kw_729 dX6_isPart_190 ?_
                  refine sv_iconst (v := nI 1) C dX6_isPart_193 (by decide) ?_
                  exact sv_zret C ite01 hr dX6_isPart_194 (Nat.le_of_ble_eq_true rfl) (Nat.le_of_ble_eq_true rfl) (by rw [if_pos hpe]; rfl) (sv_eqW (by rw [prY_3 hpe, prZ_3 hpe, hgc, show nI g - 48 = nI (g - 48) from pk_sub (b := 48) (by omega)]; simp only [sv_wu, sv_us, sv_uu, sv_un (show (15 : Nat) ≠ 14 by decide), sv_un (show (14 : Nat) ≠ 15 by decide)]; rw [sv_u3 (show 14 ≠ 15 by decide), upd_u]))
            · exact absurd q84 (by decide)
  · have hn0 : ¬ pok (M 13) n9 (4 * k) := fun h => pok_0.mp h (e5.symm.trans q8)
    have hpe : prE (M 13) n9 (4 * k) = 0 := by unfold prE; rw [if_neg hn0]
    refine sv_aload_n (i := 0) (x := sv_r G 19 0) C dX6_isPart_11 rfl rfl ?_
    refine sv_callV (as := []) (rest := []) C (met_R_stops l G _ _ _ n9 hn9 hn60 (4 * k) ha ha9) fX6_stops kw_887 (sv_recv19 C) ⟨Nat.le_of_ble_eq_true rfl, Nat.le_of_ble_eq_true rfl⟩ (Nat.le_of_ble_eq_true rfl) dX6_isPart_12 ⟨Nat.zero_le _, Nat.zero_le _⟩  ?_
    refine sv_ri (fun v12 e12 => ?_)
    exact sv_zret C ite01 hr dX6_isPart_15 (Nat.le_of_ble_eq_true rfl) (Nat.le_of_ble_eq_true rfl) (by rw [e12, if_neg (by rw [hpe]; decide)]) (sv_eqW (by rw [prY_n hpe (by decide), prZ_n hpe (by decide), sv_ui2 (by decide), Nat.add_zero, ← ha, upd_i]))

