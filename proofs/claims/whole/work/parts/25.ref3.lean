set_option maxHeartbeats 800000 in
set_option maxRecDepth 100000 in
theorem met_R_changes (l : Launch) (G : sv_G) (z : Nat) (M : sv_M) (o : Int64) (k9 : Nat) (v : Int32) (hk : k9 < 86) : sv_Met l G yX6_changes cX6_changes 4 (some .int) 0 [.ref (sv_r G 19 0), .int (nI k9), .int v] (sv_W G z M o) (some (.int (M 10 k9))) (sv_W G z (sv_u M 10 (upd (M 10) k9 v)) o) := by
  refine sv_ofW (by decide) kw_807 (Nat.le_of_ble_eq_true rfl) ?_
  intro p e s mth args below meth c hr C _
  refine sv_sub (lv' := [(0, .ref (sv_r G 19 0)), (1, .int (nI k9)), (2, .int v)]) rfl ?_
  refine sv_aload_n (i := 0) (x := sv_r G 19 0) C dX6_changes_0 rfl rfl ?_
  refine sv_get_6_0 C kw_722 dX6_changes_1 ?_
  refine sv_iload_n (i := 1) (x := nI k9) C dX6_changes_4 rfl rfl ?_
  refine sv_ialdN C 10 k9 rfl rfl rfl rfl (by show _ < 86; omega) dX6_changes_5 ?_
  refine sv_topi (fun v5 e5 => ?_)
  refine sv_istore_n (i := 3) C [(0, .ref (sv_r G 19 0)), (1, .int (nI k9)), (2, .int v), (3, .int v5)] dX6_changes_6 rfl (by decide) rfl ?_
  refine sv_aload_n (i := 0) (x := sv_r G 19 0) C dX6_changes_7 rfl rfl ?_
  refine sv_get_6_0 C kw_722 dX6_changes_8 ?_
  refine sv_iload_n (i := 1) (x := nI k9) C dX6_changes_11 rfl rfl ?_
  refine sv_iload_n (i := 2) (x := v) C dX6_changes_12 rfl rfl ?_
  refine sv_iastN C 10 k9 rfl rfl rfl rfl (by show _ < 86; omega) dX6_changes_13 ?_
  refine sv_iload_n (i := 3) (x := v5) C dX6_changes_14 rfl rfl ?_
  exact sv_iret C hr dX6_changes_15 (Nat.le_of_ble_eq_true rfl) (Nat.le_of_ble_eq_true rfl) e5 (sv_eqW (by rw [sv_wu]))

set_option maxHeartbeats 800000 in
set_option maxRecDepth 100000 in
theorem met_R_come (l : Launch) (G : sv_G) (z : Nat) (M : sv_M) (o : Int64) (f t : Int32) (kp : Nat) (hkp : M 15 0 = nI kp) (hk6 : kp ≤ 6) (m : Nat) (hm : M 10 57 = nI m) (hm7 : m ≤ 6) : sv_Met l G yX6_come cX6_come 3 (some .int) 3 [.ref (sv_r G 19 0), .int f, .int t] (sv_W G z M o) (some (.int (rR (comC m f t) (M 10 5)))) (sv_W G z (rW (comC m f t) (sv_u (rsav kp (thr 0 M)) 10 (entv m f t (M 10 3) (M 10))) M) o) := by
  refine sv_ofW (by decide) kw_780 (Nat.le_of_ble_eq_true rfl) ?_
  intro p e s mth args below meth c hr C _
  refine sv_sub (lv' := [(0, .ref (sv_r G 19 0)), (1, .int f), (2, .int t)]) rfl ?_
  refine sv_aload_n (i := 0) (x := sv_r G 19 0) C dX6_come_0 rfl rfl ?_
  refine sv_iload_n (i := 1) (x := f) C dX6_come_1 rfl rfl ?_
  refine sv_iload_n (i := 2) (x := t) C dX6_come_2 rfl rfl ?_
  refine sv_callS (as := [_, _]) (rest := [_]) C (met_R_mayWalk l G _ f t) fX6_mayWalk kw_781 ⟨Nat.le_of_ble_eq_true rfl, Nat.le_of_ble_eq_true rfl⟩ (Nat.le_of_ble_eq_true rfl) dX6_come_3 ⟨Nat.zero_le _, Nat.zero_le _⟩  ?_
  refine sv_riN (wayC f t) rfl ?_
  refine sv_put_6_6 C kw_728 dX6_come_6 ?_
  refine sv_wd (sv_eqW thr_w) ?_
  refine sv_aload_n (i := 0) (x := sv_r G 19 0) C dX6_come_9 rfl rfl ?_
  refine sv_get_6_6 C kw_728 dX6_come_10 ?_
  refine sv_set (v' := .int (nI (wayC f t))) (congrArg Value.int thr_2) ?_
  refine sv_if_eq C 18 dX6_come_13 (by decide) (fun q13 => ?_) (fun q13 => ?_)
  · have hk0 : wayC f t = 0 := nI_eq0 (Nat.lt_of_le_of_lt (wayC_le f t) (by decide)) q13
    rw [hk0]
    refine sv_wd (sv_eqW (show _ = thr 0 M from rfl)) ?_
    refine sv_aload_n (i := 0) (x := sv_r G 19 0) C dX6_come_18 rfl rfl ?_
    refine sv_get_6_0 C kw_722 dX6_come_19 ?_
    refine sv_bipush (v := nI 57) C dX6_come_22 (by decide) ?_
    refine sv_ialdN C 10 57 rfl rfl rfl rfl (by show _ < 86; omega) dX6_come_24 ?_
    refine sv_set (v' := .int (nI m)) (congrArg Value.int (by rw [thr_n (by decide)]; exact hm)) ?_
    refine sv_bipush (v := nI 6) C dX6_come_25 (by decide) ?_
    refine sv_icmp_neN C 36 dX6_come_27 (by decide) (by omega) (by omega) (fun q27 => ?_) (fun q27 => ?_)
    · have hk : comC m f t = 0 := by unfold comC; rw [if_pos hk0, if_neg (by omega)]
      refine sv_aload_n (i := 0) (x := sv_r G 19 0) C dX6_come_36 rfl rfl ?_
      refine sv_callV (as := []) (rest := []) C (met_R_saves (kp := kp) (by rw [thr_15 (by decide)]; exact hkp) hk6) fX6_saves kw_790 (sv_recv19 C) ⟨Nat.le_of_ble_eq_true rfl, Nat.le_of_ble_eq_true rfl⟩ (Nat.le_of_ble_eq_true rfl) dX6_come_37 ⟨Nat.zero_le _, Nat.zero_le _⟩  ?_
      refine sv_rv ?_
      refine sv_aload_n (i := 0) (x := sv_r G 19 0) C dX6_come_40 rfl rfl ?_
      refine sv_get_6_0 C kw_722 dX6_come_41 ?_
      refine sv_iload_n (i := 1) (x := f) C dX6_come_44 rfl rfl ?_
      refine sv_iload_n (i := 2) (x := t) C dX6_come_45 rfl rfl ?_
      refine sv_callS (as := [_, _, _]) (rest := []) C (met_R20_comes l G _ _ _ f t (wayC_ne hk0) m (by rw [rsav_10, thr_n (by decide)]; exact hm) (by omega)) fX6_comes kw_794 ⟨Nat.le_of_ble_eq_true rfl, Nat.le_of_ble_eq_true rfl⟩ (Nat.le_of_ble_eq_true rfl) dX6_come_46 ⟨Nat.zero_le _, Nat.zero_le _⟩  ?_
      refine sv_ri (fun v46 e46 => ?_)
      exact sv_iret C hr dX6_come_49 (Nat.le_of_ble_eq_true rfl) (Nat.le_of_ble_eq_true rfl) (by rw [rR_0 hk, e46, rsav_10, thr_n (by decide)]) (sv_eqW (by rw [rW_0 hk, rsav_10, thr_n (by decide)]))
    · have hk : comC m f t = 3 := by unfold comC; rw [if_pos hk0, if_pos (by omega)]
      refine sv_aload_n (i := 0) (x := sv_r G 19 0) C dX6_come_30 rfl rfl ?_
      refine sv_iconst (v := nI 3) C dX6_come_31 (by decide) ?_
      refine sv_callV (as := [_]) (rest := []) C (met_R_fails l G _ _ _ (nI 3)) fX6_fails kw_770 (sv_recv19 C) ⟨Nat.le_of_ble_eq_true rfl, Nat.le_of_ble_eq_true rfl⟩ (Nat.le_of_ble_eq_true rfl) dX6_come_32 ⟨Nat.zero_le _, Nat.zero_le _⟩  ?_
      refine sv_riS 0 rfl ?_
      exact sv_iret C hr dX6_come_35 (Nat.le_of_ble_eq_true rfl) (Nat.le_of_ble_eq_true rfl) (rR_n (by rw [hk]; decide)).symm (sv_eqW (by rw [thr_thr, rW_n (by rw [hk]; decide), hk]))
  · have hk0 : ¬ wayC f t = 0 := fun h => q13 (by rw [h]; rfl)
    have hk : comC m f t = wayC f t := if_neg hk0
    refine sv_iconst (v := nI 0) C dX6_come_16 (by decide) ?_
    exact sv_iret C hr dX6_come_17 (Nat.le_of_ble_eq_true rfl) (Nat.le_of_ble_eq_true rfl) (rR_n (by rw [hk]; exact hk0)).symm (sv_eqW (by rw [rW_n (by rw [hk]; exact hk0), hk]))

set_option maxHeartbeats 800000 in
set_option maxRecDepth 100000 in
theorem met_R_turn (l : Launch) (G : sv_G) (z : Nat) (M : sv_M) (o : Int64) (n t : Int32) (kp : Nat) (hkp : M 15 0 = nI kp) (hk6 : kp ≤ 6) (m : Nat) (hm : M 10 57 = nI m) (hm7 : m ≤ 6) : sv_Met l G yX6_turn cX6_turn 5 (some .int) 3 [.ref (sv_r G 19 0), .int n, .int t] (sv_W G z M o) (some (.int (rR (trnR (M 10) m n t) (M 10 (4 * (plL (M 10) n m).toNatClampNeg + 60))))) (sv_W G z (rW (trnR (M 10) m n t) (sv_u (rsav kp (thr 0 M)) 10 (trnv (plL (M 10) n m).toNatClampNeg t (M 10))) M) o) := by
  refine sv_ofW (by decide) kw_800 (Nat.le_of_ble_eq_true rfl) ?_
  intro p e s mth args below meth c hr C _
  refine sv_sub (lv' := [(0, .ref (sv_r G 19 0)), (1, .int n), (2, .int t)]) rfl ?_
  refine sv_aload_n (i := 0) (x := sv_r G 19 0) C dX6_turn_0 rfl rfl ?_
  refine sv_iconst (v := nI 0) C dX6_turn_1 (by decide) ?_
  refine sv_put_6_6 C kw_728 dX6_turn_2 ?_
  refine sv_wd (sv_eqW (show _ = thr 0 M from thr_w)) ?_
  refine sv_iconst (v := (-1)) C dX6_turn_5 (by decide) ?_
  refine sv_istore_n (i := 3) C [(0, .ref (sv_r G 19 0)), (1, .int n), (2, .int t), (3, .int (-1))] dX6_turn_6 rfl (by decide) rfl ?_
  refine sv_iconst (v := nI 0) C dX6_turn_7 (by decide) ?_
  refine sv_istore (i := 4) C [(0, .ref (sv_r G 19 0)), (1, .int n), (2, .int t), (3, .int (-1)), (4, .int (nI 0))] dX6_turn_8 (by decide) rfl ?_
  refine sv_loop (N := m) (I := fun i => True) (Wf := fun i => sv_W G z (thr 0 M) o) (Lf := fun i => [(0, .ref (sv_r G 19 0)), (1, .int n), (2, .int t), (3, .int (plL (M 10) n i)), (4, .int (nI i))]) 0 (Nat.zero_le _) trivial (fun i hi0 hi hIi ihi => ?_)
  refine sv_iload (i := 4) (x := nI i) C dX6_turn_10 rfl ?_
  refine sv_aload_n (i := 0) (x := sv_r G 19 0) C dX6_turn_12 rfl rfl ?_
  refine sv_get_6_0 C kw_722 dX6_turn_13 ?_
  refine sv_bipush (v := nI 57) C dX6_turn_16 (by decide) ?_
  refine sv_ialdN C 10 57 rfl rfl rfl rfl (by show _ < 86; omega) dX6_turn_18 ?_
  refine sv_set (v' := .int (nI m)) (congrArg Value.int (by rw [thr_n (by decide)]; exact hm)) ?_
  refine sv_icmp_geN C 49 dX6_turn_19 (by decide) (by omega) (by omega) (fun q19 => ?_) (fun q19 => ?_)
  · rw [show i = m from by omega]
    refine sv_iload_n (i := 3) (x := plL (M 10) n m) C dX6_turn_49 rfl rfl ?_
    refine sv_iconst (v := (-1)) C dX6_turn_50 (by decide) ?_
    refine sv_icmp_eq C 61 dX6_turn_51 (by decide) (fun q51 => ?_) (fun q51 => ?_)
    · have q51 : plL (M 10) n m = (-1) := q51
      have hk : trnR (M 10) m n t = 1 := if_pos q51
      refine sv_aload_n (i := 0) (x := sv_r G 19 0) C dX6_turn_61 rfl rfl ?_
      refine sv_iconst (v := nI 1) C dX6_turn_62 (by decide) ?_
      refine sv_callV (as := [_]) (rest := []) C (met_R_fails l G _ _ _ (nI 1)) fX6_fails kw_770 (sv_recv19 C) ⟨Nat.le_of_ble_eq_true rfl, Nat.le_of_ble_eq_true rfl⟩ (Nat.le_of_ble_eq_true rfl) dX6_turn_63 ⟨Nat.zero_le _, Nat.zero_le _⟩  ?_
      refine sv_riS 0 rfl ?_
      exact sv_iret C hr dX6_turn_66 (Nat.le_of_ble_eq_true rfl) (Nat.le_of_ble_eq_true rfl) (rR_n (by rw [hk]; decide)).symm (sv_eqW (by rw [thr_thr, rW_n (by rw [hk]; decide), hk]))
    · have q51 : ¬ plL (M 10) n m = (-1) := q51
      refine sv_iload_n (i := 2) (x := t) C dX6_turn_54 rfl rfl ?_
      refine sv_callS (as := [_]) (rest := []) C (met_R_isFloor l G _ t) fX6_isFloor kw_784 ⟨Nat.le_of_ble_eq_true rfl, Nat.le_of_ble_eq_true rfl⟩ (Nat.le_of_ble_eq_true rfl) dX6_turn_55 ⟨Nat.zero_le _, Nat.zero_le _⟩  ?_
      refine sv_ri (fun v55 e55 => ?_)
      refine sv_if_ne C 67 dX6_turn_58 (by decide) (fun q58 => ?_) (fun q58 => ?_)
      · have hk9 : inC 8 t = 0 := inN_1 (fun h => q58 (e55.trans h))
        have hk : trnR (M 10) m n t = 0 := (if_neg q51).trans hk9
        obtain ⟨p9, hp9, hpe, hpn⟩ := (plL_in (x := M 10) (v := n) m).resolve_left q51
        rw [hpe]
        refine sv_aload_n (i := 0) (x := sv_r G 19 0) C dX6_turn_67 rfl rfl ?_
        refine sv_callV (as := []) (rest := []) C (met_R_saves (kp := kp) (by rw [thr_15 (by decide)]; exact hkp) hk6) fX6_saves kw_790 (sv_recv19 C) ⟨Nat.le_of_ble_eq_true rfl, Nat.le_of_ble_eq_true rfl⟩ (Nat.le_of_ble_eq_true rfl) dX6_turn_68 ⟨Nat.zero_le _, Nat.zero_le _⟩  ?_
        refine sv_rv ?_
        refine sv_aload_n (i := 0) (x := sv_r G 19 0) C dX6_turn_71 rfl rfl ?_
        refine sv_get_6_0 C kw_722 dX6_turn_72 ?_
        refine sv_bipush (v := nI 58) C dX6_turn_75 (by decide) ?_
        refine sv_iconst (v := nI 4) C dX6_turn_77 (by decide) ?_
        refine sv_iload_n (i := 3) (x := nI p9) C dX6_turn_78 rfl rfl ?_
        refine sv_imul C dX6_turn_79 ?_
        refine sv_set (v' := .int (nI (4 * p9))) (congrArg Value.int (pk_mul _ _)) ?_
        refine sv_iadd C dX6_turn_80 ?_
        refine sv_set (v' := .int (nI (4 * p9 + 58))) (congrArg Value.int (by rw [nI_add]; exact congrArg nI (by omega))) ?_
        refine sv_iconst (v := nI 3) C dX6_turn_81 (by decide) ?_
        refine sv_iadd C dX6_turn_82 ?_
        refine sv_set (v' := .int (nI (4 * p9 + 61))) (congrArg Value.int (nI_add _ _)) ?_
        refine sv_aload_n (i := 0) (x := sv_r G 19 0) C dX6_turn_83 rfl rfl ?_
        refine sv_get_6_0 C kw_722 dX6_turn_84 ?_
        refine sv_iload_n (i := 3) (x := nI p9) C dX6_turn_87 rfl rfl ?_
        refine sv_iconst (v := nI 1) C dX6_turn_88 (by decide) ?_
        refine sv_callS (as := [_, _, _]) (rest := [_, _]) C (met_R20_by l G _ _ _ p9 1 (by omega) (by omega)) fX6_by kw_801 ⟨Nat.le_of_ble_eq_true rfl, Nat.le_of_ble_eq_true rfl⟩ (Nat.le_of_ble_eq_true rfl) dX6_turn_89 ⟨Nat.zero_le _, Nat.zero_le _⟩  ?_
        refine sv_riS (M 10 (4 * p9 + 59)) (by rw [rsav_10, thr_n (by decide)]) ?_
        refine sv_iload_n (i := 2) (x := t) C dX6_turn_92 rfl rfl ?_
        refine sv_icmp_ne C 100 dX6_turn_93 (by decide) (fun q93 => ?_) (fun q93 => ?_)
        · refine sv_aload_n (i := 0) (x := sv_r G 19 0) C dX6_turn_100 rfl rfl ?_
          refine sv_get_6_0 C kw_722 dX6_turn_101 ?_
          refine sv_iconst (v := nI 3) C dX6_turn_104 (by decide) ?_
          refine sv_ialdN C 10 3 rfl rfl rfl rfl (by show _ < 86; omega) dX6_turn_105 ?_
          refine sv_set (v' := .int (M 10 3)) (congrArg Value.int (by rw [rsav_10, thr_n (by decide)])) ?_
          refine sv_iastN C 10 (4 * p9 + 61) rfl rfl rfl rfl (by show _ < 86; omega) dX6_turn_106 ?_
          refine sv_aload_n (i := 0) (x := sv_r G 19 0) C dX6_turn_107 rfl rfl ?_
          refine sv_bipush (v := nI 58) C dX6_turn_108 (by decide) ?_
          refine sv_iconst (v := nI 4) C dX6_turn_110 (by decide) ?_
          refine sv_iload_n (i := 3) (x := nI p9) C dX6_turn_111 rfl rfl ?_
          refine sv_imul C dX6_turn_112 ?_
          refine sv_set (v' := .int (nI (4 * p9))) (congrArg Value.int (pk_mul _ _)) ?_
          refine sv_iadd C dX6_turn_113 ?_
          refine sv_set (v' := .int (nI (4 * p9 + 58))) (congrArg Value.int (by rw [nI_add]; exact congrArg nI (by omega))) ?_
          refine sv_iconst (v := nI 2) C dX6_turn_114 (by decide) ?_
          refine sv_iadd C dX6_turn_115 ?_
          refine sv_set (v' := .int (nI (4 * p9 + 60))) (congrArg Value.int (nI_add _ _)) ?_
          refine sv_iload_n (i := 2) (x := t) C dX6_turn_116 rfl rfl ?_
          refine sv_callV (as := [_, _]) (rest := []) C (met_R_changes l G _ _ _ (4 * p9 + 60) t (by omega)) fX6_changes kw_804 (sv_recv19 C) ⟨Nat.le_of_ble_eq_true rfl, Nat.le_of_ble_eq_true rfl⟩ (Nat.le_of_ble_eq_true rfl) dX6_turn_117 ⟨Nat.zero_le _, Nat.zero_le _⟩  ?_
          refine sv_ri (fun v117 e117 => ?_)
          exact sv_iret C hr dX6_turn_120 (Nat.le_of_ble_eq_true rfl) (Nat.le_of_ble_eq_true rfl) (by rw [rR_0 hk, e117, sv_wu, sv_us, upd_n (by omega), rsav_10, thr_n (by decide), nI_clamp (by omega)]) (sv_eqW (by rw [rW_0 hk, nI_clamp (by omega)]; unfold trnv; simp only [sv_wu, sv_us, sv_uu, rsav_10]; rw [thr_n (show 10 ≠ 15 by decide), upd_c (show 4 * p9 + 61 ≠ 4 * p9 + 60 by omega), if_neg q93]))
        · refine sv_iconst (v := nI 0) C dX6_turn_96 (by decide) ?_
          refine sv_goto C 106 dX6_turn_97 (by decide) ?_
          refine sv_iastN C 10 (4 * p9 + 61) rfl rfl rfl rfl (by show _ < 86; omega) dX6_turn_106 ?_
          refine sv_aload_n (i := 0) (x := sv_r G 19 0) C dX6_turn_107 rfl rfl ?_
          refine sv_bipush (v := nI 58) C dX6_turn_108 (by decide) ?_
          refine sv_iconst (v := nI 4) C dX6_turn_110 (by decide) ?_
          refine sv_iload_n (i := 3) (x := nI p9) C dX6_turn_111 rfl rfl ?_
          refine sv_imul C dX6_turn_112 ?_
          refine sv_set (v' := .int (nI (4 * p9))) (congrArg Value.int (pk_mul _ _)) ?_
          refine sv_iadd C dX6_turn_113 ?_
          refine sv_set (v' := .int (nI (4 * p9 + 58))) (congrArg Value.int (by rw [nI_add]; exact congrArg nI (by omega))) ?_
          refine sv_iconst (v := nI 2) C dX6_turn_114 (by decide) ?_
          refine sv_iadd C dX6_turn_115 ?_
          refine sv_set (v' := .int (nI (4 * p9 + 60))) (congrArg Value.int (nI_add _ _)) ?_
          refine sv_iload_n (i := 2) (x := t) C dX6_turn_116 rfl rfl ?_
          refine sv_callV (as := [_, _]) (rest := []) C (met_R_changes l G _ _ _ (4 * p9 + 60) t (by omega)) fX6_changes kw_804 (sv_recv19 C) ⟨Nat.le_of_ble_eq_true rfl, Nat.le_of_ble_eq_true rfl⟩ (Nat.le_of_ble_eq_true rfl) dX6_turn_117 ⟨Nat.zero_le _, Nat.zero_le _⟩  ?_
          refine sv_ri (fun v117 e117 => ?_)
          exact sv_iret C hr dX6_turn_120 (Nat.le_of_ble_eq_true rfl) (Nat.le_of_ble_eq_true rfl) (by rw [rR_0 hk, e117, sv_wu, sv_us, upd_n (by omega), rsav_10, thr_n (by decide), nI_clamp (by omega)]) (sv_eqW (by rw [rW_0 hk, nI_clamp (by omega)]; unfold trnv; simp only [sv_wu, sv_us, sv_uu, rsav_10]; rw [thr_n (show 10 ≠ 15 by decide), upd_c (show 4 * p9 + 61 ≠ 4 * p9 + 60 by omega), if_pos q93]; rfl))
      · have hk : trnR (M 10) m n t = 1 := (if_neg q51).trans (inN_0 (e55.symm.trans q58))
        refine sv_aload_n (i := 0) (x := sv_r G 19 0) C dX6_turn_61 rfl rfl ?_
        refine sv_iconst (v := nI 1) C dX6_turn_62 (by decide) ?_
        refine sv_callV (as := [_]) (rest := []) C (met_R_fails l G _ _ _ (nI 1)) fX6_fails kw_770 (sv_recv19 C) ⟨Nat.le_of_ble_eq_true rfl, Nat.le_of_ble_eq_true rfl⟩ (Nat.le_of_ble_eq_true rfl) dX6_turn_63 ⟨Nat.zero_le _, Nat.zero_le _⟩  ?_
        refine sv_riS 0 rfl ?_
        exact sv_iret C hr dX6_turn_66 (Nat.le_of_ble_eq_true rfl) (Nat.le_of_ble_eq_true rfl) (rR_n (by rw [hk]; decide)).symm (sv_eqW (by rw [thr_thr, rW_n (by rw [hk]; decide), hk]))
  · refine sv_aload_n (i := 0) (x := sv_r G 19 0) C dX6_turn_22 rfl rfl ?_
    refine sv_get_6_0 C kw_722 dX6_turn_23 ?_
    refine sv_iload (i := 4) (x := nI i) C dX6_turn_26 rfl ?_
    refine sv_iconst (v := nI 0) C dX6_turn_28 (by decide) ?_
    refine sv_callS (as := [_, _, _]) (rest := []) C (met_R20_by l G _ _ _ i 0 (by omega) (by omega)) fX6_by kw_801 ⟨Nat.le_of_ble_eq_true rfl, Nat.le_of_ble_eq_true rfl⟩ (Nat.le_of_ble_eq_true rfl) dX6_turn_29 ⟨Nat.zero_le _, Nat.zero_le _⟩  ?_
    refine sv_riS (M 10 (4 * i + 58)) (by rw [thr_n (by decide)]) ?_
    refine sv_iload_n (i := 1) (x := n) C dX6_turn_32 rfl rfl ?_
    refine sv_icmp_ne C 41 dX6_turn_33 (by decide) (fun q33 => ?_) (fun q33 => ?_)
    · have q33 : ¬ M 10 (4 * i + 58) = n := q33
      refine sv_iload_n (i := 3) (x := plL (M 10) n i) C dX6_turn_41 rfl rfl ?_
      refine sv_istore_n (i := 3) C [(0, .ref (sv_r G 19 0)), (1, .int n), (2, .int t), (3, .int (plL (M 10) n i)), (4, .int (nI i))] dX6_turn_42 rfl (by decide) rfl ?_
      refine sv_iinc (i := 4) (x := nI i) C (nI (i + 1)) [(0, .ref (sv_r G 19 0)), (1, .int n), (2, .int t), (3, .int (plL (M 10) n i)), (4, .int (nI (i + 1)))] dX6_turn_43 rfl (sv_incN i 1) (by decide) rfl ?_
      refine sv_goto C 10 dX6_turn_46 (by decide) ?_
      rw [show plL (M 10) n i = plL (M 10) n (i + 1) from (if_neg q33).symm]
      exact ihi (by omega) trivial
    · have q33 : M 10 (4 * i + 58) = n := q33
      refine sv_iload (i := 4) (x := nI i) C dX6_turn_36 rfl ?_
      refine sv_goto C 42 dX6_turn_38 (by decide) ?_
      refine sv_istore_n (i := 3) C [(0, .ref (sv_r G 19 0)), (1, .int n), (2, .int t), (3, .int (nI i)), (4, .int (nI i))] dX6_turn_42 rfl (by decide) rfl ?_
      refine sv_iinc (i := 4) (x := nI i) C (nI (i + 1)) [(0, .ref (sv_r G 19 0)), (1, .int n), (2, .int t), (3, .int (nI i)), (4, .int (nI (i + 1)))] dX6_turn_43 rfl (sv_incN i 1) (by decide) rfl ?_
      refine sv_goto C 10 dX6_turn_46 (by decide) ?_
      rw [show nI i = plL (M 10) n (i + 1) from (if_pos q33).symm]
      exact ihi (by omega) trivial

set_option maxHeartbeats 800000 in
set_option maxRecDepth 100000 in
theorem met_R_press (l : Launch) (G : sv_G) (z : Nat) (M : sv_M) (o : Int64) (f : Int32) (kp : Nat) (hkp : M 15 0 = nI kp) (hk6 : kp ≤ 6) : sv_Met l G yX6_press cX6_press 3 (some .int) 3 [.ref (sv_r G 19 0), .int f] (sv_W G z M o) (some (.int (rR (inC 8 f) (M 10 (6 * f.toNatClampNeg + 9))))) (sv_W G z (rW (inC 8 f) (sv_u (rsav kp (thr 0 M)) 10 (sw (M 10 0) f.toNatClampNeg (M 10))) M) o) := by
  refine sv_ofW (by decide) kw_811 (Nat.le_of_ble_eq_true rfl) ?_
  intro p e s mth args below meth c hr C _
  refine sv_sub (lv' := [(0, .ref (sv_r G 19 0)), (1, .int f)]) rfl ?_
  refine sv_aload_n (i := 0) (x := sv_r G 19 0) C dX6_press_0 rfl rfl ?_
  refine sv_iconst (v := nI 0) C dX6_press_1 (by decide) ?_
  refine sv_put_6_6 C kw_728 dX6_press_2 ?_
  refine sv_wd (sv_eqW (show _ = thr 0 M from thr_w)) ?_
  refine sv_iload_n (i := 1) (x := f) C dX6_press_5 rfl rfl ?_
  refine sv_callS (as := [_]) (rest := []) C (met_R_isFloor l G _ f) fX6_isFloor kw_784 ⟨Nat.le_of_ble_eq_true rfl, Nat.le_of_ble_eq_true rfl⟩ (Nat.le_of_ble_eq_true rfl) dX6_press_6 ⟨Nat.zero_le _, Nat.zero_le _⟩  ?_
  refine sv_ri (fun v6 e6 => ?_)
  refine sv_if_ne C 18 dX6_press_9 (by decide) (fun q9 => ?_) (fun q9 => ?_)
  · have hk : inC 8 f = 0 := inN_1 (fun h => q9 (e6.trans h))
    obtain ⟨g1, hg1, rfl⟩ := inC_0 (by decide) hk
    have hg1 := hg1
    refine sv_aload_n (i := 0) (x := sv_r G 19 0) C dX6_press_18 rfl rfl ?_
    refine sv_callV (as := []) (rest := []) C (met_R_saves (kp := kp) (by rw [thr_15 (by decide)]; exact hkp) hk6) fX6_saves kw_790 (sv_recv19 C) ⟨Nat.le_of_ble_eq_true rfl, Nat.le_of_ble_eq_true rfl⟩ (Nat.le_of_ble_eq_true rfl) dX6_press_19 ⟨Nat.zero_le _, Nat.zero_le _⟩  ?_
    refine sv_rv ?_
    refine sv_aload_n (i := 0) (x := sv_r G 19 0) C dX6_press_22 rfl rfl ?_
    refine sv_get_6_0 C kw_722 dX6_press_23 ?_
    refine sv_iload_n (i := 1) (x := nI g1) C dX6_press_26 rfl rfl ?_
    refine sv_iconst (v := nI 0) C dX6_press_27 (by decide) ?_
    refine sv_callS (as := [_, _, _]) (rest := []) C (met_R20_of l G _ _ _ g1 0 (by omega) (by omega)) fX6_of kw_812 ⟨Nat.le_of_ble_eq_true rfl, Nat.le_of_ble_eq_true rfl⟩ (Nat.le_of_ble_eq_true rfl) dX6_press_28 ⟨Nat.zero_le _, Nat.zero_le _⟩  ?_
    refine sv_riS (M 10 (6 * g1 + 9)) (by rw [rsav_10, thr_n (by decide)]) ?_
    refine sv_istore_n (i := 2) C [(0, .ref (sv_r G 19 0)), (1, .int (nI g1)), (2, .int (M 10 (6 * g1 + 9)))] dX6_press_31 rfl (by decide) rfl ?_
    refine sv_aload_n (i := 0) (x := sv_r G 19 0) C dX6_press_32 rfl rfl ?_
    refine sv_get_6_0 C kw_722 dX6_press_33 ?_
    refine sv_iload_n (i := 1) (x := nI g1) C dX6_press_36 rfl rfl ?_
    refine sv_callS (as := [_, _]) (rest := []) C (met_R20_switches l G _ _ _ g1 (by omega)) fX6_switches kw_815 ⟨Nat.le_of_ble_eq_true rfl, Nat.le_of_ble_eq_true rfl⟩ (Nat.le_of_ble_eq_true rfl) dX6_press_37 ⟨Nat.zero_le _, Nat.zero_le _⟩  ?_
    refine sv_rv ?_
    refine sv_iload_n (i := 2) (x := M 10 (6 * g1 + 9)) C dX6_press_40 rfl rfl ?_
    exact sv_iret C hr dX6_press_41 (Nat.le_of_ble_eq_true rfl) (Nat.le_of_ble_eq_true rfl) (by rw [rR_0 hk, nI_clamp (by omega)]) (sv_eqW (by rw [rW_0 hk, nI_clamp (by omega), rsav_10, thr_n (by decide)]))
  · have hk : inC 8 f = 1 := inN_0 (e6.symm.trans q9)
    refine sv_aload_n (i := 0) (x := sv_r G 19 0) C dX6_press_12 rfl rfl ?_
    refine sv_iconst (v := nI 1) C dX6_press_13 (by decide) ?_
    refine sv_callV (as := [_]) (rest := []) C (met_R_fails l G _ _ _ (nI 1)) fX6_fails kw_770 (sv_recv19 C) ⟨Nat.le_of_ble_eq_true rfl, Nat.le_of_ble_eq_true rfl⟩ (Nat.le_of_ble_eq_true rfl) dX6_press_14 ⟨Nat.zero_le _, Nat.zero_le _⟩  ?_
    refine sv_riS 0 rfl ?_
    exact sv_iret C hr dX6_press_17 (Nat.le_of_ble_eq_true rfl) (Nat.le_of_ble_eq_true rfl) (rR_n (by rw [hk]; decide)).symm (sv_eqW (by rw [thr_thr, rW_n (by rw [hk]; decide), hk]))

set_option maxHeartbeats 800000 in
set_option maxRecDepth 100000 in
theorem met_R_sensor (l : Launch) (G : sv_G) (z : Nat) (M : sv_M) (o : Int64) (f : Int32) (b : Int32) (hb : b = 0 ∨ b = 1) (kp : Nat) (hkp : M 15 0 = nI kp) (hk6 : kp ≤ 6) : sv_Met l G yX6_sensor cX6_sensor 3 (some .int) 3 [.ref (sv_r G 19 0), .int f, .int b] (sv_W G z M o) (some (.int (rR (inC 8 f) (M 10 (6 * f.toNatClampNeg + 10))))) (sv_W G z (rW (inC 8 f) (sv_u (rsav kp (thr 0 M)) 10 (upd (M 10) (6 * f.toNatClampNeg + 10) b)) M) o) := by
  refine sv_ofW (by decide) kw_821 (Nat.le_of_ble_eq_true rfl) ?_
  intro p e s mth args below meth c hr C _
  refine sv_sub (lv' := [(0, .ref (sv_r G 19 0)), (1, .int f), (2, .int b)]) rfl ?_
  refine sv_aload_n (i := 0) (x := sv_r G 19 0) C dX6_sensor_0 rfl rfl ?_
  refine sv_iconst (v := nI 0) C dX6_sensor_1 (by decide) ?_
  refine sv_put_6_6 C kw_728 dX6_sensor_2 ?_
  refine sv_wd (sv_eqW (show _ = thr 0 M from thr_w)) ?_
  refine sv_iload_n (i := 1) (x := f) C dX6_sensor_5 rfl rfl ?_
  refine sv_callS (as := [_]) (rest := []) C (met_R_isFloor l G _ f) fX6_isFloor kw_784 ⟨Nat.le_of_ble_eq_true rfl, Nat.le_of_ble_eq_true rfl⟩ (Nat.le_of_ble_eq_true rfl) dX6_sensor_6 ⟨Nat.zero_le _, Nat.zero_le _⟩  ?_
  refine sv_ri (fun v6 e6 => ?_)
  refine sv_if_ne C 18 dX6_sensor_9 (by decide) (fun q9 => ?_) (fun q9 => ?_)
  · have hk : inC 8 f = 0 := inN_1 (fun h => q9 (e6.trans h))
    obtain ⟨g1, hg1, rfl⟩ := inC_0 (by decide) hk
    have hg1 := hg1
    refine sv_aload_n (i := 0) (x := sv_r G 19 0) C dX6_sensor_18 rfl rfl ?_
    refine sv_callV (as := []) (rest := []) C (met_R_saves (kp := kp) (by rw [thr_15 (by decide)]; exact hkp) hk6) fX6_saves kw_790 (sv_recv19 C) ⟨Nat.le_of_ble_eq_true rfl, Nat.le_of_ble_eq_true rfl⟩ (Nat.le_of_ble_eq_true rfl) dX6_sensor_19 ⟨Nat.zero_le _, Nat.zero_le _⟩  ?_
    refine sv_rv ?_
    refine sv_aload_n (i := 0) (x := sv_r G 19 0) C dX6_sensor_22 rfl rfl ?_
    refine sv_bipush (v := nI 9) C dX6_sensor_23 (by decide) ?_
    refine sv_bipush (v := nI 6) C dX6_sensor_25 (by decide) ?_
    refine sv_iload_n (i := 1) (x := nI g1) C dX6_sensor_27 rfl rfl ?_
    refine sv_imul C dX6_sensor_28 ?_
    refine sv_set (v' := .int (nI (6 * g1))) (congrArg Value.int (pk_mul _ _)) ?_
    refine sv_iadd C dX6_sensor_29 ?_
    refine sv_set (v' := .int (nI (6 * g1 + 9))) (congrArg Value.int (by rw [nI_add]; exact congrArg nI (by omega))) ?_
    refine sv_iconst (v := nI 1) C dX6_sensor_30 (by decide) ?_
    refine sv_iadd C dX6_sensor_31 ?_
    refine sv_set (v' := .int (nI (6 * g1 + 10))) (congrArg Value.int (nI_add _ _)) ?_
    refine sv_iload_n (i := 2) (x := b) C dX6_sensor_32 rfl rfl ?_
    refine sv_sel_if_eq (va := nI 1) (vb := nI 0) C 40 dX6_sensor_33 (by decide) dX6_sensor_36 (by decide) dX6_sensor_37 (by decide) dX6_sensor_40 (by decide) ?_
    refine sv_set (v' := .int b) (congrArg Value.int (by rcases hb with rfl | rfl <;> rfl)) ?_
    refine sv_callV (as := [_, _]) (rest := []) C (met_R_changes l G _ _ _ (6 * g1 + 10) b (by omega)) fX6_changes kw_804 (sv_recv19 C) ⟨Nat.le_of_ble_eq_true rfl, Nat.le_of_ble_eq_true rfl⟩ (Nat.le_of_ble_eq_true rfl) dX6_sensor_41 ⟨Nat.zero_le _, Nat.zero_le _⟩  ?_
    refine sv_ri (fun v41 e41 => ?_)
    exact sv_iret C hr dX6_sensor_44 (Nat.le_of_ble_eq_true rfl) (Nat.le_of_ble_eq_true rfl) (by rw [rR_0 hk, nI_clamp (by omega), e41, rsav_10, thr_n (by decide)]) (sv_eqW (by rw [rW_0 hk, nI_clamp (by omega), rsav_10, thr_n (by decide)]))
  · have hk : inC 8 f = 1 := inN_0 (e6.symm.trans q9)
    refine sv_aload_n (i := 0) (x := sv_r G 19 0) C dX6_sensor_12 rfl rfl ?_
    refine sv_iconst (v := nI 1) C dX6_sensor_13 (by decide) ?_
    refine sv_callV (as := [_]) (rest := []) C (met_R_fails l G _ _ _ (nI 1)) fX6_fails kw_770 (sv_recv19 C) ⟨Nat.le_of_ble_eq_true rfl, Nat.le_of_ble_eq_true rfl⟩ (Nat.le_of_ble_eq_true rfl) dX6_sensor_14 ⟨Nat.zero_le _, Nat.zero_le _⟩  ?_
    refine sv_riS 0 rfl ?_
    exact sv_iret C hr dX6_sensor_17 (Nat.le_of_ble_eq_true rfl) (Nat.le_of_ble_eq_true rfl) (rR_n (by rw [hk]; decide)).symm (sv_eqW (by rw [thr_thr, rW_n (by rw [hk]; decide), hk]))

set_option maxHeartbeats 800000 in
set_option maxRecDepth 100000 in
theorem met_R_night (l : Launch) (G : sv_G) (z : Nat) (M : sv_M) (o : Int64) (b : Int32) (hb : b = 0 ∨ b = 1) (kp : Nat) (hkp : M 15 0 = nI kp) (hk6 : kp ≤ 6) : sv_Met l G yX6_night cX6_night 2 (some .int) 3 [.ref (sv_r G 19 0), .int b] (sv_W G z M o) (some (.int (M 10 6))) (sv_W G z (sv_u (rsav kp (thr 0 M)) 10 (upd (M 10) 6 b)) o) := by
  refine sv_ofW (by decide) kw_825 (Nat.le_of_ble_eq_true rfl) ?_
  intro p e s mth args below meth c hr C _
  refine sv_sub (lv' := [(0, .ref (sv_r G 19 0)), (1, .int b)]) rfl ?_
  refine sv_aload_n (i := 0) (x := sv_r G 19 0) C dX6_night_0 rfl rfl ?_
  refine sv_iconst (v := nI 0) C dX6_night_1 (by decide) ?_
  refine sv_put_6_6 C kw_728 dX6_night_2 ?_
  refine sv_wd (sv_eqW (show _ = thr 0 M from thr_w)) ?_
  refine sv_aload_n (i := 0) (x := sv_r G 19 0) C dX6_night_5 rfl rfl ?_
  refine sv_callV (as := []) (rest := []) C (met_R_saves (kp := kp) (by rw [thr_15 (by decide)]; exact hkp) hk6) fX6_saves kw_790 (sv_recv19 C) ⟨Nat.le_of_ble_eq_true rfl, Nat.le_of_ble_eq_true rfl⟩ (Nat.le_of_ble_eq_true rfl) dX6_night_6 ⟨Nat.zero_le _, Nat.zero_le _⟩  ?_
  refine sv_rv ?_
  refine sv_aload_n (i := 0) (x := sv_r G 19 0) C dX6_night_9 rfl rfl ?_
  refine sv_bipush (v := nI 6) C dX6_night_10 (by decide) ?_
  refine sv_iload_n (i := 1) (x := b) C dX6_night_12 rfl rfl ?_
  refine sv_sel_if_eq (va := nI 1) (vb := nI 0) C 20 dX6_night_13 (by decide) dX6_night_16 (by decide) dX6_night_17 (by decide) dX6_night_20 (by decide) ?_
  refine sv_set (v' := .int b) (congrArg Value.int (by rcases hb with rfl | rfl <;> rfl)) ?_
  refine sv_callV (as := [_, _]) (rest := []) C (met_R_changes l G _ _ _ 6 b (by omega)) fX6_changes kw_804 (sv_recv19 C) ⟨Nat.le_of_ble_eq_true rfl, Nat.le_of_ble_eq_true rfl⟩ (Nat.le_of_ble_eq_true rfl) dX6_night_21 ⟨Nat.zero_le _, Nat.zero_le _⟩  ?_
  refine sv_ri (fun v21 e21 => ?_)
  exact sv_iret C hr dX6_night_24 (Nat.le_of_ble_eq_true rfl) (Nat.le_of_ble_eq_true rfl) (by rw [e21, rsav_10, thr_n (by decide)]) (sv_eqW (by rw [rsav_10, thr_n (by decide)]))

set_option maxHeartbeats 800000 in
set_option maxRecDepth 100000 in
theorem met_R_fire (l : Launch) (G : sv_G) (z : Nat) (M : sv_M) (o : Int64) (b : Int32) (hb : b = 0 ∨ b = 1) (kp : Nat) (hkp : M 15 0 = nI kp) (hk6 : kp ≤ 6) : sv_Met l G yX6_fire cX6_fire 4 (some .int) 3 [.ref (sv_r G 19 0), .int b] (sv_W G z M o) (some (.int (M 10 7))) (sv_W G z (sv_u (rsav kp (thr 0 M)) 10 (firR b (M 10))) o) := by
  refine sv_ofW (by decide) kw_829 (Nat.le_of_ble_eq_true rfl) ?_
  intro p e s mth args below meth c hr C _
  refine sv_sub (lv' := [(0, .ref (sv_r G 19 0)), (1, .int b)]) rfl ?_
  refine sv_aload_n (i := 0) (x := sv_r G 19 0) C dX6_fire_0 rfl rfl ?_
  refine sv_iconst (v := nI 0) C dX6_fire_1 (by decide) ?_
  refine sv_put_6_6 C kw_728 dX6_fire_2 ?_
  refine sv_wd (sv_eqW (show _ = thr 0 M from thr_w)) ?_
  refine sv_aload_n (i := 0) (x := sv_r G 19 0) C dX6_fire_5 rfl rfl ?_
  refine sv_callV (as := []) (rest := []) C (met_R_saves (kp := kp) (by rw [thr_15 (by decide)]; exact hkp) hk6) fX6_saves kw_790 (sv_recv19 C) ⟨Nat.le_of_ble_eq_true rfl, Nat.le_of_ble_eq_true rfl⟩ (Nat.le_of_ble_eq_true rfl) dX6_fire_6 ⟨Nat.zero_le _, Nat.zero_le _⟩  ?_
  refine sv_rv ?_
  refine sv_aload_n (i := 0) (x := sv_r G 19 0) C dX6_fire_9 rfl rfl ?_
  refine sv_bipush (v := nI 7) C dX6_fire_10 (by decide) ?_
  refine sv_iload_n (i := 1) (x := b) C dX6_fire_12 rfl rfl ?_
  refine sv_sel_if_eq (va := nI 1) (vb := nI 0) C 20 dX6_fire_13 (by decide) dX6_fire_16 (by decide) dX6_fire_17 (by decide) dX6_fire_20 (by decide) ?_
  refine sv_set (v' := .int b) (congrArg Value.int (by rcases hb with rfl | rfl <;> rfl)) ?_
  refine sv_callV (as := [_, _]) (rest := []) C (met_R_changes l G _ _ _ 7 b (by omega)) fX6_changes kw_804 (sv_recv19 C) ⟨Nat.le_of_ble_eq_true rfl, Nat.le_of_ble_eq_true rfl⟩ (Nat.le_of_ble_eq_true rfl) dX6_fire_21 ⟨Nat.zero_le _, Nat.zero_le _⟩  ?_
  refine sv_riS (M 10 7) (by rw [rsav_10, thr_n (by decide)]) ?_
  refine sv_istore_n (i := 2) C [(0, .ref (sv_r G 19 0)), (1, .int b), (2, .int (M 10 7))] dX6_fire_24 rfl (by decide) rfl ?_
  refine sv_iconst (v := nI 0) C dX6_fire_25 (by decide) ?_
  refine sv_istore_n (i := 3) C [(0, .ref (sv_r G 19 0)), (1, .int b), (2, .int (M 10 7)), (3, .int (nI 0))] dX6_fire_26 rfl (by decide) rfl ?_
  refine sv_wd (sv_eqW (show _ = sv_u (rsav kp (thr 0 M)) 10 (fo (sw (M 10 0)) 0 (upd (M 10) 7 b)) from by rw [rsav_10, thr_n (by decide)]; rfl)) ?_
  refine sv_loop (N := 8) (I := fun i => i = 0 ∨ (M 10 7 = 1 ∧ b = 0)) (Wf := fun i => sv_W G z (sv_u (rsav kp (thr 0 M)) 10 (fo (sw (M 10 0)) i (upd (M 10) 7 b))) o) (Lf := fun i => [(0, .ref (sv_r G 19 0)), (1, .int b), (2, .int (M 10 7)), (3, .int (nI i))]) 0 (Nat.zero_le _) (Or.inl rfl) (fun i hi0 hi hIi ihi => ?_)
  refine sv_iload_n (i := 3) (x := nI i) C dX6_fire_27 rfl rfl ?_
  refine sv_bipush (v := nI 8) C dX6_fire_28 (by decide) ?_
  refine sv_icmp_geN C 56 dX6_fire_30 (by decide) (by omega) (by omega) (fun q30 => ?_) (fun q30 => ?_)
  · refine sv_iload_n (i := 2) (x := M 10 7) C dX6_fire_56 rfl rfl ?_
    exact sv_iret C hr dX6_fire_57 (Nat.le_of_ble_eq_true rfl) (Nat.le_of_ble_eq_true rfl) rfl (sv_eqW (by unfold firR; rw [if_pos (hIi.resolve_left (by omega)), show i = 8 from by omega]))
  · refine sv_iload_n (i := 2) (x := M 10 7) C dX6_fire_33 rfl rfl ?_
    refine sv_iconst (v := nI 1) C dX6_fire_34 (by decide) ?_
    refine sv_icmp_ne C 56 dX6_fire_35 (by decide) (fun q35 => ?_) (fun q35 => ?_)
    · have q35 : ¬ M 10 7 = 1 := q35
      refine sv_iload_n (i := 2) (x := M 10 7) C dX6_fire_56 rfl rfl ?_
      exact sv_iret C hr dX6_fire_57 (Nat.le_of_ble_eq_true rfl) (Nat.le_of_ble_eq_true rfl) rfl (sv_eqW (by unfold firR; rw [if_neg (fun h => q35 h.1), show i = 0 from hIi.resolve_right (fun h => q35 h.1)]; rfl))
    · have q35 : M 10 7 = 1 := q35
      refine sv_iload_n (i := 1) (x := b) C dX6_fire_38 rfl rfl ?_
      refine sv_if_ne C 56 dX6_fire_39 (by decide) (fun q39 => ?_) (fun q39 => ?_)
      · refine sv_iload_n (i := 2) (x := M 10 7) C dX6_fire_56 rfl rfl ?_
        exact sv_iret C hr dX6_fire_57 (Nat.le_of_ble_eq_true rfl) (Nat.le_of_ble_eq_true rfl) rfl (sv_eqW (by unfold firR; rw [if_neg (fun h => q39 h.2), show i = 0 from hIi.resolve_right (fun h => q39 h.2)]; rfl))
      · refine sv_aload_n (i := 0) (x := sv_r G 19 0) C dX6_fire_42 rfl rfl ?_
        refine sv_get_6_0 C kw_722 dX6_fire_43 ?_
        refine sv_iload_n (i := 3) (x := nI i) C dX6_fire_46 rfl rfl ?_
        refine sv_callS (as := [_, _]) (rest := []) C (met_R20_switches l G _ _ _ i (by omega)) fX6_switches kw_815 ⟨Nat.le_of_ble_eq_true rfl, Nat.le_of_ble_eq_true rfl⟩ (Nat.le_of_ble_eq_true rfl) dX6_fire_47 ⟨Nat.zero_le _, Nat.zero_le _⟩  ?_
        refine sv_rv ?_
        refine sv_iinc (i := 3) (x := nI i) C (nI (i + 1)) [(0, .ref (sv_r G 19 0)), (1, .int b), (2, .int (M 10 7)), (3, .int (nI (i + 1)))] dX6_fire_50 rfl (sv_incN i 1) (by decide) rfl ?_
        refine sv_goto C 27 dX6_fire_53 (by decide) ?_
        refine sv_wd (sv_eqW ?_) (ihi (by omega) (Or.inr ⟨q35, q39⟩))
        simp only [sv_us, sv_uu]
        rw [fo_succ, fosw_lo (by decide) i (by omega), upd_n (show 0 ≠ 7 by decide)]

set_option maxHeartbeats 800000 in
set_option maxRecDepth 100000 in
theorem met_R_isFor0 (l : Launch) (G : sv_G) (Wd : Heap → Prop) (v : Int32) : sv_Met l G yX6_isFor cX6_isFor 2 (some .boolean) 1 [.int (nI 0), .int v] Wd (some (.int (inN v (sv_F 1 0) (sv_F 2 0)))) Wd := by
  refine sv_ofW (by decide) kw_836 (Nat.le_of_ble_eq_true rfl) ?_
  intro p e s mth args below meth c hr C _
  refine sv_sub (lv' := [(0, .int (nI 0)), (1, .int v)]) rfl ?_
  refine sv_iload_n (i := 0) (x := nI 0) C dX6_isFor_0 rfl rfl ?_
  refine sv_if_ne C 15 dX6_isFor_1 (by decide) (fun q1 => ?_) (fun q1 => ?_)
  · exact absurd rfl q1
  · refine sv_iload_n (i := 1) (x := v) C dX6_isFor_4 rfl rfl ?_
    refine sv_iconst (v := nI 1) C dX6_isFor_5 (by decide) ?_
    refine sv_sipush (v := nI 200) C dX6_isFor_6 (by decide) ?_
    refine sv_callS (as := [_, _, _]) (rest := []) C (met_R_in l G _ v (nI 1) (nI 200)) fX6_in kw_787 ⟨Nat.le_of_ble_eq_true rfl, Nat.le_of_ble_eq_true rfl⟩ (Nat.le_of_ble_eq_true rfl) dX6_isFor_9 ⟨Nat.zero_le _, Nat.zero_le _⟩  ?_
    refine sv_ri (fun v9 e9 => ?_)
    refine sv_goto C 51 dX6_isFor_12 (by decide) ?_
    exact sv_zret C (inN_b _ _ _) hr dX6_isFor_51 (Nat.le_of_ble_eq_true rfl) (Nat.le_of_ble_eq_true rfl) (e9) (fun _ h => h)

set_option maxHeartbeats 800000 in
set_option maxRecDepth 100000 in
theorem met_R_isFor1 (l : Launch) (G : sv_G) (Wd : Heap → Prop) (v : Int32) : sv_Met l G yX6_isFor cX6_isFor 2 (some .boolean) 1 [.int (nI 1), .int v] Wd (some (.int (inN v (sv_F 1 1) (sv_F 2 1)))) Wd := by
  refine sv_ofW (by decide) kw_836 (Nat.le_of_ble_eq_true rfl) ?_
  intro p e s mth args below meth c hr C _
  refine sv_sub (lv' := [(0, .int (nI 1)), (1, .int v)]) rfl ?_
  refine sv_iload_n (i := 0) (x := nI 1) C dX6_isFor_0 rfl rfl ?_
  refine sv_if_ne C 15 dX6_isFor_1 (by decide) (fun q1 => ?_) (fun q1 => ?_)
  · refine sv_iload_n (i := 0) (x := nI 1) C dX6_isFor_15 rfl rfl ?_
    refine sv_iconst (v := nI 1) C dX6_isFor_16 (by decide) ?_
    refine sv_icmp_neN C 30 dX6_isFor_17 (by decide) (by omega) (by omega) (fun q17 => ?_) (fun q17 => ?_)
    · exact absurd rfl q17
    · refine sv_iload_n (i := 1) (x := v) C dX6_isFor_20 rfl rfl ?_
      refine sv_iconst (v := nI 0) C dX6_isFor_21 (by decide) ?_
      refine sv_bipush (v := nI 60) C dX6_isFor_22 (by decide) ?_
      refine sv_callS (as := [_, _, _]) (rest := []) C (met_R_in l G _ v (nI 0) (nI 60)) fX6_in kw_787 ⟨Nat.le_of_ble_eq_true rfl, Nat.le_of_ble_eq_true rfl⟩ (Nat.le_of_ble_eq_true rfl) dX6_isFor_24 ⟨Nat.zero_le _, Nat.zero_le _⟩  ?_
      refine sv_ri (fun v24 e24 => ?_)
      refine sv_goto C 51 dX6_isFor_27 (by decide) ?_
      exact sv_zret C (inN_b _ _ _) hr dX6_isFor_51 (Nat.le_of_ble_eq_true rfl) (Nat.le_of_ble_eq_true rfl) (e24) (fun _ h => h)
  · exact absurd q1 (by decide)

set_option maxHeartbeats 800000 in
set_option maxRecDepth 100000 in
theorem met_R_isFor2 (l : Launch) (G : sv_G) (Wd : Heap → Prop) (v : Int32) : sv_Met l G yX6_isFor cX6_isFor 2 (some .boolean) 1 [.int (nI 2), .int v] Wd (some (.int (inN v (sv_F 1 2) (sv_F 2 2)))) Wd := by
  refine sv_ofW (by decide) kw_836 (Nat.le_of_ble_eq_true rfl) ?_
  intro p e s mth args below meth c hr C _
  refine sv_sub (lv' := [(0, .int (nI 2)), (1, .int v)]) rfl ?_
  refine sv_iload_n (i := 0) (x := nI 2) C dX6_isFor_0 rfl rfl ?_
  refine sv_if_ne C 15 dX6_isFor_1 (by decide) (fun q1 => ?_) (fun q1 => ?_)
  · refine sv_iload_n (i := 0) (x := nI 2) C dX6_isFor_15 rfl rfl ?_
    refine sv_iconst (v := nI 1) C dX6_isFor_16 (by decide) ?_
    refine sv_icmp_neN C 30 dX6_isFor_17 (by decide) (by omega) (by omega) (fun q17 => ?_) (fun q17 => ?_)
    · refine sv_iload_n (i := 0) (x := nI 2) C dX6_isFor_30 rfl rfl ?_
      refine sv_iconst (v := nI 2) C dX6_isFor_31 (by decide) ?_
      refine sv_icmp_neN C 44 dX6_isFor_32 (by decide) (by omega) (by omega) (fun q32 => ?_) (fun q32 => ?_)
      · exact absurd rfl q32
      · refine sv_iload_n (i := 1) (x := v) C dX6_isFor_35 rfl rfl ?_
        refine sv_iconst (v := nI 0) C dX6_isFor_36 (by decide) ?_
        refine sv_iconst (v := nI 1) C dX6_isFor_37 (by decide) ?_
        refine sv_callS (as := [_, _, _]) (rest := []) C (met_R_in l G _ v (nI 0) (nI 1)) fX6_in kw_787 ⟨Nat.le_of_ble_eq_true rfl, Nat.le_of_ble_eq_true rfl⟩ (Nat.le_of_ble_eq_true rfl) dX6_isFor_38 ⟨Nat.zero_le _, Nat.zero_le _⟩  ?_
        refine sv_ri (fun v38 e38 => ?_)
        refine sv_goto C 51 dX6_isFor_41 (by decide) ?_
        exact sv_zret C (inN_b _ _ _) hr dX6_isFor_51 (Nat.le_of_ble_eq_true rfl) (Nat.le_of_ble_eq_true rfl) (e38) (fun _ h => h)
    · exact absurd q17 (by decide)
  · exact absurd q1 (by decide)

set_option maxHeartbeats 800000 in
set_option maxRecDepth 100000 in
theorem met_R_isFor3 (l : Launch) (G : sv_G) (Wd : Heap → Prop) (v : Int32) : sv_Met l G yX6_isFor cX6_isFor 2 (some .boolean) 1 [.int (nI 3), .int v] Wd (some (.int (inN v (sv_F 1 3) (sv_F 2 3)))) Wd := by
  refine sv_ofW (by decide) kw_836 (Nat.le_of_ble_eq_true rfl) ?_
  intro p e s mth args below meth c hr C _
  refine sv_sub (lv' := [(0, .int (nI 3)), (1, .int v)]) rfl ?_
  refine sv_iload_n (i := 0) (x := nI 3) C dX6_isFor_0 rfl rfl ?_
  refine sv_if_ne C 15 dX6_isFor_1 (by decide) (fun q1 => ?_) (fun q1 => ?_)
  · refine sv_iload_n (i := 0) (x := nI 3) C dX6_isFor_15 rfl rfl ?_
    refine sv_iconst (v := nI 1) C dX6_isFor_16 (by decide) ?_
    refine sv_icmp_neN C 30 dX6_isFor_17 (by decide) (by omega) (by omega) (fun q17 => ?_) (fun q17 => ?_)
    · refine sv_iload_n (i := 0) (x := nI 3) C dX6_isFor_30 rfl rfl ?_
      refine sv_iconst (v := nI 2) C dX6_isFor_31 (by decide) ?_
      refine sv_icmp_neN C 44 dX6_isFor_32 (by decide) (by omega) (by omega) (fun q32 => ?_) (fun q32 => ?_)
      · refine sv_iload_n (i := 1) (x := v) C dX6_isFor_44 rfl rfl ?_
        refine sv_iconst (v := nI 1) C dX6_isFor_45 (by decide) ?_
        refine sv_bipush (v := nI 60) C dX6_isFor_46 (by decide) ?_
        refine sv_callS (as := [_, _, _]) (rest := []) C (met_R_in l G _ v (nI 1) (nI 60)) fX6_in kw_787 ⟨Nat.le_of_ble_eq_true rfl, Nat.le_of_ble_eq_true rfl⟩ (Nat.le_of_ble_eq_true rfl) dX6_isFor_48 ⟨Nat.zero_le _, Nat.zero_le _⟩  ?_
        refine sv_ri (fun v48 e48 => ?_)
        exact sv_zret C (inN_b _ _ _) hr dX6_isFor_51 (Nat.le_of_ble_eq_true rfl) (Nat.le_of_ble_eq_true rfl) (e48) (fun _ h => h)
      · exact absurd q32 (by decide)
    · exact absurd q17 (by decide)
  · exact absurd q1 (by decide)

theorem met_R_isFor (l : Launch) (G : sv_G) (Wd : Heap → Prop) (g : Nat) (v : Int32) (hg : g < 4) : sv_Met l G yX6_isFor cX6_isFor 2 (some .boolean) 1 [.int (nI g), .int v] Wd (some (.int (inN v (sv_F 1 g) (sv_F 2 g)))) Wd := by
  rcases (show g = 0 ∨ g = 1 ∨ g = 2 ∨ g = 3 by omega) with rfl | rfl | rfl | rfl
  · exact met_R_isFor0 l G Wd v
  · exact met_R_isFor1 l G Wd v
  · exact met_R_isFor2 l G Wd v
  · exact met_R_isFor3 l G Wd v
theorem setC_in {g : Nat} {v : Int32} (hg : g < 4) : setC (nI g) v = if inN v (sv_F 1 g) (sv_F 2 g) = 0 then 2 else 0 := by
  unfold setC inN
  rw [if_neg (fun h => absurd ((inC_N hg (by decide)).symm.trans h) (by decide)), nI_clamp (by omega)]
  by_cases h : sv_F 1 g ≤ v ∧ v ≤ sv_F 2 g
  · rw [if_pos h, if_neg (fun h2 => h2.elim (fun q => absurd h.1 (Int32.not_le.mpr q)) (fun q => absurd h.2 (Int32.not_le.mpr q)))]
    rfl
  · rw [if_neg h, if_pos (Decidable.byContradiction fun h2 => h ⟨Int32.not_lt.mp fun q => h2 (Or.inl q), Int32.not_lt.mp fun q => h2 (Or.inr q)⟩)]
    rfl
set_option maxHeartbeats 800000 in
set_option maxRecDepth 100000 in
theorem met_R_set (l : Launch) (G : sv_G) (z : Nat) (M : sv_M) (o : Int64) (f v : Int32) (kp : Nat) (hkp : M 15 0 = nI kp) (hk6 : kp ≤ 6) : sv_Met l G yX6_set cX6_set 3 (some .int) 2 [.ref (sv_r G 19 0), .int f, .int v] (sv_W G z M o) (some (.int (rR (setC f v) (M 10 f.toNatClampNeg)))) (sv_W G z (rW (setC f v) (sv_u (rsav kp (thr 0 M)) 10 (upd (M 10) f.toNatClampNeg v)) M) o) := by
  refine sv_ofW (by decide) kw_833 (Nat.le_of_ble_eq_true rfl) ?_
  intro p e s mth args below meth c hr C _
  refine sv_sub (lv' := [(0, .ref (sv_r G 19 0)), (1, .int f), (2, .int v)]) rfl ?_
  refine sv_aload_n (i := 0) (x := sv_r G 19 0) C dX6_set_0 rfl rfl ?_
  refine sv_iconst (v := nI 0) C dX6_set_1 (by decide) ?_
  refine sv_put_6_6 C kw_728 dX6_set_2 ?_
  refine sv_wd (sv_eqW (show _ = thr 0 M from thr_w)) ?_
  refine sv_iload_n (i := 1) (x := f) C dX6_set_5 rfl rfl ?_
  refine sv_iconst (v := nI 0) C dX6_set_6 (by decide) ?_
  refine sv_iconst (v := nI 3) C dX6_set_7 (by decide) ?_
  refine sv_callS (as := [_, _, _]) (rest := []) C (met_R_in l G _ f (nI 0) (nI 3)) fX6_in kw_787 ⟨Nat.le_of_ble_eq_true rfl, Nat.le_of_ble_eq_true rfl⟩ (Nat.le_of_ble_eq_true rfl) dX6_set_8 ⟨Nat.zero_le _, Nat.zero_le _⟩  ?_
  refine sv_ri (fun v8 e8 => ?_)
  refine sv_if_ne C 20 dX6_set_11 (by decide) (fun q11 => ?_) (fun q11 => ?_)
  · have hk1 : inC 4 f = 0 := inNk_1 (n := 3) (by decide) (fun h => q11 (e8.trans h))
    obtain ⟨g1, hg1, rfl⟩ := inC_0 (by decide) hk1
    have hg1 := hg1
    refine sv_iload_n (i := 1) (x := nI g1) C dX6_set_20 rfl rfl ?_
    refine sv_iload_n (i := 2) (x := v) C dX6_set_21 rfl rfl ?_
    refine sv_callS (as := [_, _]) (rest := []) C (met_R_isFor l G _ g1 v (by omega)) fX6_isFor kw_834 ⟨Nat.le_of_ble_eq_true rfl, Nat.le_of_ble_eq_true rfl⟩ (Nat.le_of_ble_eq_true rfl) dX6_set_22 ⟨Nat.zero_le _, Nat.zero_le _⟩  ?_
    refine sv_ri (fun v22 e22 => ?_)
    refine sv_if_ne C 34 dX6_set_25 (by decide) (fun q25 => ?_) (fun q25 => ?_)
    · have hk : setC (nI g1) v = 0 := (setC_in hg1).trans (if_neg (fun h => q25 (e22.trans h)))
      refine sv_aload_n (i := 0) (x := sv_r G 19 0) C dX6_set_34 rfl rfl ?_
      refine sv_callV (as := []) (rest := []) C (met_R_saves (kp := kp) (by rw [thr_15 (by decide)]; exact hkp) hk6) fX6_saves kw_790 (sv_recv19 C) ⟨Nat.le_of_ble_eq_true rfl, Nat.le_of_ble_eq_true rfl⟩ (Nat.le_of_ble_eq_true rfl) dX6_set_35 ⟨Nat.zero_le _, Nat.zero_le _⟩  ?_
      refine sv_rv ?_
      refine sv_aload_n (i := 0) (x := sv_r G 19 0) C dX6_set_38 rfl rfl ?_
      refine sv_iload_n (i := 1) (x := nI g1) C dX6_set_39 rfl rfl ?_
      refine sv_iload_n (i := 2) (x := v) C dX6_set_40 rfl rfl ?_
      refine sv_callV (as := [_, _]) (rest := []) C (met_R_changes l G _ _ _ g1 v (by omega)) fX6_changes kw_804 (sv_recv19 C) ⟨Nat.le_of_ble_eq_true rfl, Nat.le_of_ble_eq_true rfl⟩ (Nat.le_of_ble_eq_true rfl) dX6_set_41 ⟨Nat.zero_le _, Nat.zero_le _⟩  ?_
      refine sv_ri (fun v41 e41 => ?_)
      exact sv_iret C hr dX6_set_44 (Nat.le_of_ble_eq_true rfl) (Nat.le_of_ble_eq_true rfl) (by rw [rR_0 hk, e41, rsav_10, thr_n (by decide), nI_clamp (by omega)]) (sv_eqW (by rw [rW_0 hk, rsav_10, thr_n (by decide), nI_clamp (by omega)]))
    · have hk : setC (nI g1) v = 2 := (setC_in hg1).trans (if_pos (e22.symm.trans q25))
      refine sv_aload_n (i := 0) (x := sv_r G 19 0) C dX6_set_28 rfl rfl ?_
      refine sv_iconst (v := nI 2) C dX6_set_29 (by decide) ?_
      refine sv_callV (as := [_]) (rest := []) C (met_R_fails l G _ _ _ (nI 2)) fX6_fails kw_770 (sv_recv19 C) ⟨Nat.le_of_ble_eq_true rfl, Nat.le_of_ble_eq_true rfl⟩ (Nat.le_of_ble_eq_true rfl) dX6_set_30 ⟨Nat.zero_le _, Nat.zero_le _⟩  ?_
      refine sv_riS 0 rfl ?_
      exact sv_iret C hr dX6_set_33 (Nat.le_of_ble_eq_true rfl) (Nat.le_of_ble_eq_true rfl) (rR_n (by rw [hk]; decide)).symm (sv_eqW (by rw [thr_thr, rW_n (by rw [hk]; decide), hk]))
  · have hk : setC f v = 1 := if_pos (inNk_0 (n := 3) (by decide) (e8.symm.trans q11))
    refine sv_aload_n (i := 0) (x := sv_r G 19 0) C dX6_set_14 rfl rfl ?_
    refine sv_iconst (v := nI 1) C dX6_set_15 (by decide) ?_
    refine sv_callV (as := [_]) (rest := []) C (met_R_fails l G _ _ _ (nI 1)) fX6_fails kw_770 (sv_recv19 C) ⟨Nat.le_of_ble_eq_true rfl, Nat.le_of_ble_eq_true rfl⟩ (Nat.le_of_ble_eq_true rfl) dX6_set_16 ⟨Nat.zero_le _, Nat.zero_le _⟩  ?_
    refine sv_riS 0 rfl ?_
    exact sv_iret C hr dX6_set_19 (Nat.le_of_ble_eq_true rfl) (Nat.le_of_ble_eq_true rfl) (rR_n (by rw [hk]; decide)).symm (sv_eqW (by rw [thr_thr, rW_n (by rw [hk]; decide), hk]))

set_option maxHeartbeats 800000 in
set_option maxRecDepth 100000 in
theorem met_R_append (l : Launch) (G : sv_G) (z : Nat) (M : sv_M) (o : Int64) (f : Int32) (n9 : Nat) (hn9 : M 15 1 = nI n9) (hn60 : n9 ≤ 60) : sv_Met l G yX6_append cX6_append 2 (some .int) 2 [.ref (sv_r G 19 0), .int f] (sv_W G z M o) (some (.int (rR (appC f n9) (nI (n9 + 1))))) (sv_W G z (rW (appC f n9) (sv_u (sv_u M 13 (upd (M 13) n9 f)) 15 (upd (upd (M 15) 2 0) 1 (nI (n9 + 1)))) M) o) := by
  refine sv_ofW (by decide) kw_866 (Nat.le_of_ble_eq_true rfl) ?_
  intro p e s mth args below meth c hr C _
  refine sv_sub (lv' := [(0, .ref (sv_r G 19 0)), (1, .int f)]) rfl ?_
  refine sv_aload_n (i := 0) (x := sv_r G 19 0) C dX6_append_0 rfl rfl ?_
  refine sv_iconst (v := nI 0) C dX6_append_1 (by decide) ?_
  refine sv_put_6_6 C kw_728 dX6_append_2 ?_
  refine sv_wd (sv_eqW (show _ = thr 0 M from thr_w)) ?_
  refine sv_iload_n (i := 1) (x := f) C dX6_append_5 rfl rfl ?_
  refine sv_bipush (v := nI 33) C dX6_append_6 (by decide) ?_
  refine sv_bipush (v := nI 126) C dX6_append_8 (by decide) ?_
  refine sv_callS (as := [_, _, _]) (rest := []) C (met_R_in l G _ f (nI 33) (nI 126)) fX6_in kw_787 ⟨Nat.le_of_ble_eq_true rfl, Nat.le_of_ble_eq_true rfl⟩ (Nat.le_of_ble_eq_true rfl) dX6_append_10 ⟨Nat.zero_le _, Nat.zero_le _⟩  ?_
  refine sv_ri (fun v10 e10 => ?_)
  refine sv_if_ne C 22 dX6_append_13 (by decide) (fun q13 => ?_) (fun q13 => ?_)
  · have hk1 := inA_1 (n := n9) (fun h => q13 (e10.trans h))
    refine sv_aload_n (i := 0) (x := sv_r G 19 0) C dX6_append_22 rfl rfl ?_
    refine sv_get_6_5 C kw_727 dX6_append_23 ?_
    refine sv_set (v' := .int (nI n9)) (congrArg Value.int (by rw [thr_15 (by decide)]; exact hn9)) ?_
    refine sv_bipush (v := nI 60) C dX6_append_26 (by decide) ?_
    refine sv_icmp_neN C 37 dX6_append_28 (by decide) (by omega) (by omega) (fun q28 => ?_) (fun q28 => ?_)
    · have hk : appC f n9 = 0 := hk1.trans (if_neg (by omega))
      refine sv_aload_n (i := 0) (x := sv_r G 19 0) C dX6_append_37 rfl rfl ?_
      refine sv_get_6_4 C kw_726 dX6_append_38 ?_
      refine sv_aload_n (i := 0) (x := sv_r G 19 0) C dX6_append_41 rfl rfl ?_
      refine sv_get_6_5 C kw_727 dX6_append_42 ?_
      refine sv_set (v' := .int (nI n9)) (congrArg Value.int (by rw [thr_15 (by decide)]; exact hn9)) ?_
      refine sv_iload_n (i := 1) (x := f) C dX6_append_45 rfl rfl ?_
      refine sv_iastN C 13 n9 rfl rfl rfl rfl (by show _ < 60; omega) dX6_append_46 ?_
      refine sv_aload_n (i := 0) (x := sv_r G 19 0) C dX6_append_47 rfl rfl ?_
      refine sv_dup C dX6_append_48 rfl ?_
      refine sv_get_6_5 C kw_727 dX6_append_49 ?_
      refine sv_set (v' := .int (nI n9)) (congrArg Value.int (by rw [sv_wu, sv_un (by decide), thr_15 (by decide)]; exact hn9)) ?_
      refine sv_iconst (v := nI 1) C dX6_append_52 (by decide) ?_
      refine sv_iadd C dX6_append_53 ?_
      refine sv_set (v' := .int (nI (n9 + 1))) (congrArg Value.int (nI_add _ _)) ?_
      refine sv_put_6_5 C kw_727 dX6_append_54 ?_
      refine sv_aload_n (i := 0) (x := sv_r G 19 0) C dX6_append_57 rfl rfl ?_
      refine sv_get_6_5 C kw_727 dX6_append_58 ?_
      refine sv_set (v' := .int (nI (n9 + 1))) (congrArg Value.int (by rw [sv_wu, sv_us, upd_s])) ?_
      exact sv_iret C hr dX6_append_61 (Nat.le_of_ble_eq_true rfl) (Nat.le_of_ble_eq_true rfl) (by rw [rR_0 hk]) (sv_eqW (by rw [rW_0 hk]; simp only [sv_wu]; rw [sv_un (show 15 ≠ 13 by decide), thr_n (show 13 ≠ 15 by decide)]; unfold thr; rw [sv_us, sv_uc (show 15 ≠ 13 by decide), sv_uu]))
    · have hk : appC f n9 = 2 := hk1.trans (if_pos (by omega))
      refine sv_aload_n (i := 0) (x := sv_r G 19 0) C dX6_append_31 rfl rfl ?_
      refine sv_iconst (v := nI 2) C dX6_append_32 (by decide) ?_
      refine sv_callV (as := [_]) (rest := []) C (met_R_fails l G _ _ _ (nI 2)) fX6_fails kw_770 (sv_recv19 C) ⟨Nat.le_of_ble_eq_true rfl, Nat.le_of_ble_eq_true rfl⟩ (Nat.le_of_ble_eq_true rfl) dX6_append_33 ⟨Nat.zero_le _, Nat.zero_le _⟩  ?_
      refine sv_riS 0 rfl ?_
      exact sv_iret C hr dX6_append_36 (Nat.le_of_ble_eq_true rfl) (Nat.le_of_ble_eq_true rfl) (rR_n (by rw [hk]; decide)).symm (sv_eqW (by rw [thr_thr, rW_n (by rw [hk]; decide), hk]))
  · have hk : appC f n9 = 1 := inA_0 (e10.symm.trans q13)
    refine sv_aload_n (i := 0) (x := sv_r G 19 0) C dX6_append_16 rfl rfl ?_
    refine sv_iconst (v := nI 1) C dX6_append_17 (by decide) ?_
    refine sv_callV (as := [_]) (rest := []) C (met_R_fails l G _ _ _ (nI 1)) fX6_fails kw_770 (sv_recv19 C) ⟨Nat.le_of_ble_eq_true rfl, Nat.le_of_ble_eq_true rfl⟩ (Nat.le_of_ble_eq_true rfl) dX6_append_18 ⟨Nat.zero_le _, Nat.zero_le _⟩  ?_
    refine sv_riS 0 rfl ?_
    exact sv_iret C hr dX6_append_21 (Nat.le_of_ble_eq_true rfl) (Nat.le_of_ble_eq_true rfl) (rR_n (by rw [hk]; decide)).symm (sv_eqW (by rw [thr_thr, rW_n (by rw [hk]; decide), hk]))

set_option maxHeartbeats 800000 in
set_option maxRecDepth 100000 in
theorem met_R_clearBuffer (l : Launch) (G : sv_G) (z : Nat) (M : sv_M) (o : Int64) : sv_Met l G yX6_clearBuffer cX6_clearBuffer 2 (some .int) 0 [.ref (sv_r G 19 0)] (sv_W G z M o) (some (.int (M 15 1))) (sv_W G z (sv_u M 15 (upd (upd (M 15) 2 0) 1 0)) o) := by
  refine sv_ofW (by decide) kw_870 (Nat.le_of_ble_eq_true rfl) ?_
  intro p e s mth args below meth c hr C _
  refine sv_sub (lv' := [(0, .ref (sv_r G 19 0))]) rfl ?_
  refine sv_aload_n (i := 0) (x := sv_r G 19 0) C dX6_clearBuffer_0 rfl rfl ?_
  refine sv_iconst (v := nI 0) C dX6_clearBuffer_1 (by decide) ?_
  refine sv_put_6_6 C kw_728 dX6_clearBuffer_2 ?_
  refine sv_wd (sv_eqW (show _ = thr 0 M from thr_w)) ?_
  refine sv_aload_n (i := 0) (x := sv_r G 19 0) C dX6_clearBuffer_5 rfl rfl ?_
  refine sv_get_6_5 C kw_727 dX6_clearBuffer_6 ?_
  refine sv_set (v' := .int (M 15 1)) (congrArg Value.int (thr_15 (by decide))) ?_
  refine sv_istore_n (i := 1) C [(0, .ref (sv_r G 19 0)), (1, .int (M 15 1))] dX6_clearBuffer_9 rfl (by decide) rfl ?_
  refine sv_aload_n (i := 0) (x := sv_r G 19 0) C dX6_clearBuffer_10 rfl rfl ?_
  refine sv_iconst (v := nI 0) C dX6_clearBuffer_11 (by decide) ?_
  refine sv_put_6_5 C kw_727 dX6_clearBuffer_12 ?_
  refine sv_iload_n (i := 1) (x := M 15 1) C dX6_clearBuffer_15 rfl rfl ?_
  exact sv_iret C hr dX6_clearBuffer_16 (Nat.le_of_ble_eq_true rfl) (Nat.le_of_ble_eq_true rfl) rfl (sv_eqW (by rw [sv_wu]; unfold thr; rw [sv_us, sv_uu]; rfl))

set_option maxHeartbeats 800000 in
set_option maxRecDepth 100000 in
theorem met_R_undo (l : Launch) (G : sv_G) (z : Nat) (M : sv_M) (o : Int64) (kp : Nat) (hkp : M 15 0 = nI kp) (hk6 : kp ≤ 6) : sv_Met l G yX6_undo cX6_undo 1 (some .int) 1 [.ref (sv_r G 19 0)] (sv_W G z M o) (some (.int (rR (undC kp) (nI (kp - 1))))) (sv_W G z (rW (undC kp) (sv_u (sv_u M 10 (cpB (86 * (kp - 1)) 0 (M 12) 86 (M 10))) 15 (upd (upd (M 15) 2 0) 0 (nI (kp - 1)))) M) o) := by
  refine sv_ofW (by decide) kw_769 (Nat.le_of_ble_eq_true rfl) ?_
  intro p e s mth args below meth c hr C _
  refine sv_sub (lv' := [(0, .ref (sv_r G 19 0))]) rfl ?_
  refine sv_aload_n (i := 0) (x := sv_r G 19 0) C dX6_undo_0 rfl rfl ?_
  refine sv_iconst (v := nI 0) C dX6_undo_1 (by decide) ?_
  refine sv_put_6_6 C kw_728 dX6_undo_2 ?_
  refine sv_wd (sv_eqW (show _ = thr 0 M from thr_w)) ?_
  refine sv_aload_n (i := 0) (x := sv_r G 19 0) C dX6_undo_5 rfl rfl ?_
  refine sv_get_6_3 C kw_725 dX6_undo_6 ?_
  refine sv_set (v' := .int (nI kp)) (congrArg Value.int (by rw [thr_15 (by decide)]; exact hkp)) ?_
  refine sv_if_ne C 18 dX6_undo_9 (by decide) (fun q9 => ?_) (fun q9 => ?_)
  · have hk9 : ¬ kp = 0 := fun h => q9 (by rw [h]; rfl)
    have hk : undC kp = 0 := if_neg hk9
    refine sv_aload_n (i := 0) (x := sv_r G 19 0) C dX6_undo_18 rfl rfl ?_
    refine sv_dup C dX6_undo_19 rfl ?_
    refine sv_get_6_3 C kw_725 dX6_undo_20 ?_
    refine sv_set (v' := .int (nI kp)) (congrArg Value.int (by rw [thr_15 (by decide)]; exact hkp)) ?_
    refine sv_iconst (v := nI 1) C dX6_undo_23 (by decide) ?_
    refine sv_isub C dX6_undo_24 ?_
    refine sv_set (v' := .int (nI (kp - 1))) (congrArg Value.int (pk_sub (by omega))) ?_
    refine sv_put_6_3 C kw_725 dX6_undo_25 ?_
    refine sv_aload_n (i := 0) (x := sv_r G 19 0) C dX6_undo_28 rfl rfl ?_
    refine sv_get_6_2 C kw_724 dX6_undo_29 ?_
    refine sv_bipush (v := nI 86) C dX6_undo_32 (by decide) ?_
    refine sv_aload_n (i := 0) (x := sv_r G 19 0) C dX6_undo_34 rfl rfl ?_
    refine sv_get_6_3 C kw_725 dX6_undo_35 ?_
    refine sv_set (v' := .int (nI (kp - 1))) (congrArg Value.int (by rw [sv_wu, sv_us, upd_s])) ?_
    refine sv_imul C dX6_undo_38 ?_
    refine sv_set (v' := .int (nI (86 * (kp - 1)))) (congrArg Value.int (pk_mul _ _)) ?_
    refine sv_aload_n (i := 0) (x := sv_r G 19 0) C dX6_undo_39 rfl rfl ?_
    refine sv_get_6_0 C kw_722 dX6_undo_40 ?_
    refine sv_iconst (v := nI 0) C dX6_undo_43 (by decide) ?_
    refine sv_callS (as := [_, _, _, _]) (rest := []) C (met_R_copies_22_20 l G _ _ _ (86 * (kp - 1)) 0 (by omega) (by omega)) fX6_copies kw_774 ⟨Nat.le_of_ble_eq_true rfl, Nat.le_of_ble_eq_true rfl⟩ (Nat.le_of_ble_eq_true rfl) dX6_undo_44 ⟨Nat.zero_le _, Nat.zero_le _⟩  ?_
    refine sv_rv ?_
    refine sv_aload_n (i := 0) (x := sv_r G 19 0) C dX6_undo_47 rfl rfl ?_
    refine sv_get_6_3 C kw_725 dX6_undo_48 ?_
    refine sv_set (v' := .int (nI (kp - 1))) (congrArg Value.int (by rw [sv_un (by decide), sv_wu, sv_us, upd_s])) ?_
    exact sv_iret C hr dX6_undo_51 (Nat.le_of_ble_eq_true rfl) (Nat.le_of_ble_eq_true rfl) (by rw [rR_0 hk]) (sv_eqW (by rw [rW_0 hk]; simp only [sv_wu]; rw [sv_un (show 12 ≠ 15 by decide), sv_un (show 10 ≠ 15 by decide), thr_n (show 12 ≠ 15 by decide), thr_n (show 10 ≠ 15 by decide)]; unfold thr; rw [sv_us, sv_uu, sv_uc (show 15 ≠ 10 by decide)]))
  · have hk : undC kp = 1 := if_pos (nI_eq0 (by omega) q9)
    refine sv_aload_n (i := 0) (x := sv_r G 19 0) C dX6_undo_12 rfl rfl ?_
    refine sv_iconst (v := nI 1) C dX6_undo_13 (by decide) ?_
    refine sv_callV (as := [_]) (rest := []) C (met_R_fails l G _ _ _ (nI 1)) fX6_fails kw_770 (sv_recv19 C) ⟨Nat.le_of_ble_eq_true rfl, Nat.le_of_ble_eq_true rfl⟩ (Nat.le_of_ble_eq_true rfl) dX6_undo_14 ⟨Nat.zero_le _, Nat.zero_le _⟩  ?_
    refine sv_riS 0 rfl ?_
    exact sv_iret C hr dX6_undo_17 (Nat.le_of_ble_eq_true rfl) (Nat.le_of_ble_eq_true rfl) (rR_n (by rw [hk]; decide)).symm (sv_eqW (by rw [thr_thr, rW_n (by rw [hk]; decide), hk]))

set_option maxHeartbeats 800000 in
set_option maxRecDepth 100000 in
theorem met_R_pass (l : Launch) (G : sv_G) (z : Nat) (M : sv_M) (o : Int64) (t : Int32) (kp : Nat) (hkp : M 15 0 = nI kp) (hk6 : kp ≤ 6) (hg : ∀ n, n ≤ 300 → rgd (rpass n (M 10))) : sv_Met l G yX6_pass cX6_pass 4 (some .int) 4 [.ref (sv_r G 19 0), .int t] (sv_W G z M o) (some (.int (rR (secC t) (dks (rpass t.toNatClampNeg (M 10)) - dks (M 10))))) (sv_W G z (rW (secC t) (sv_u (sv_u (rsav kp (thr 0 M)) 15 (dkM (rsav kp (thr 0 M)) (rdn (M 15 6) (M 10) t.toNatClampNeg))) 10 (rpass t.toNatClampNeg (M 10))) M) o) := by
  refine sv_ofW (by decide) kw_840 (Nat.le_of_ble_eq_true rfl) ?_
  intro p e s mth args below meth c hr C _
  refine sv_sub (lv' := [(0, .ref (sv_r G 19 0)), (1, .int t)]) rfl ?_
  refine sv_aload_n (i := 0) (x := sv_r G 19 0) C dX6_pass_0 rfl rfl ?_
  refine sv_iconst (v := nI 0) C dX6_pass_1 (by decide) ?_
  refine sv_put_6_6 C kw_728 dX6_pass_2 ?_
  refine sv_wd (sv_eqW (show _ = thr 0 M from thr_w)) ?_
  refine sv_iload_n (i := 1) (x := t) C dX6_pass_5 rfl rfl ?_
  refine sv_iconst (v := nI 1) C dX6_pass_6 (by decide) ?_
  refine sv_sipush (v := nI 300) C dX6_pass_7 (by decide) ?_
  refine sv_callS (as := [_, _, _]) (rest := []) C (met_R_in l G _ t (nI 1) (nI 300)) fX6_in kw_787 ⟨Nat.le_of_ble_eq_true rfl, Nat.le_of_ble_eq_true rfl⟩ (Nat.le_of_ble_eq_true rfl) dX6_pass_10 ⟨Nat.zero_le _, Nat.zero_le _⟩  ?_
  refine sv_ri (fun v10 e10 => ?_)
  refine sv_if_ne C 22 dX6_pass_13 (by decide) (fun q13 => ?_) (fun q13 => ?_)
  · have hk : secC t = 0 := inS_1 (fun h => q13 (e10.trans h))
    obtain ⟨n1, hn1, hn2, rfl⟩ := secC_0 hk
    have hn1 := hn1
    refine sv_aload_n (i := 0) (x := sv_r G 19 0) C dX6_pass_22 rfl rfl ?_
    refine sv_callV (as := []) (rest := []) C (met_R_saves (kp := kp) (by rw [thr_15 (by decide)]; exact hkp) hk6) fX6_saves kw_790 (sv_recv19 C) ⟨Nat.le_of_ble_eq_true rfl, Nat.le_of_ble_eq_true rfl⟩ (Nat.le_of_ble_eq_true rfl) dX6_pass_23 ⟨Nat.zero_le _, Nat.zero_le _⟩  ?_
    refine sv_rv ?_
    refine sv_aload_n (i := 0) (x := sv_r G 19 0) C dX6_pass_26 rfl rfl ?_
    refine sv_get_6_0 C kw_722 dX6_pass_27 ?_
    refine sv_iconst (v := nI 2) C dX6_pass_30 (by decide) ?_
    refine sv_callS (as := [_, _]) (rest := []) C (met_R20_sum l G _ _ _ 2 (by omega)) fX6_sum kw_841 ⟨Nat.le_of_ble_eq_true rfl, Nat.le_of_ble_eq_true rfl⟩ (Nat.le_of_ble_eq_true rfl) dX6_pass_31 ⟨Nat.zero_le _, Nat.zero_le _⟩  ?_
    refine sv_riS (dks (M 10)) (by rw [rsav_10, thr_n (by decide)]; rfl) ?_
    refine sv_istore_n (i := 2) C [(0, .ref (sv_r G 19 0)), (1, .int (nI n1)), (2, .int (dks (M 10)))] dX6_pass_34 rfl (by decide) rfl ?_
    refine sv_iconst (v := nI 0) C dX6_pass_35 (by decide) ?_
    refine sv_istore_n (i := 3) C [(0, .ref (sv_r G 19 0)), (1, .int (nI n1)), (2, .int (dks (M 10))), (3, .int (nI 0))] dX6_pass_36 rfl (by decide) rfl ?_
    refine sv_wd (sv_eqW (show _ = sv_u (sv_u (rsav kp (thr 0 M)) 15 (dkM (rsav kp (thr 0 M)) (rdn (M 15 6) (M 10) 0))) 10 (rpass 0 (M 10)) from by show _ = sv_u (sv_u (rsav kp (thr 0 M)) 15 (dkM (rsav kp (thr 0 M)) 0)) 10 (M 10); rw [dkM_0, sv_ui, ← show (rsav kp (thr 0 M)) 10 = M 10 from (by rw [rsav_10, thr_n (by decide)]), sv_ui])) ?_
    refine sv_loop (N := n1) (I := fun i => True) (Wf := fun i => sv_W G z (sv_u (sv_u (rsav kp (thr 0 M)) 15 (dkM (rsav kp (thr 0 M)) (rdn (M 15 6) (M 10) i))) 10 (rpass i (M 10))) o) (Lf := fun i => [(0, .ref (sv_r G 19 0)), (1, .int (nI n1)), (2, .int (dks (M 10))), (3, .int (nI i))]) 0 (Nat.zero_le _) trivial (fun i hi0 hi hIi ihi => ?_)
    refine sv_iload_n (i := 3) (x := nI i) C dX6_pass_37 rfl rfl ?_
    refine sv_iload_n (i := 1) (x := nI n1) C dX6_pass_38 rfl rfl ?_
    refine sv_icmp_geN C 56 dX6_pass_39 (by decide) (by omega) (by omega) (fun q39 => ?_) (fun q39 => ?_)
    · rw [show i = n1 from by omega]
      refine sv_aload_n (i := 0) (x := sv_r G 19 0) C dX6_pass_56 rfl rfl ?_
      refine sv_get_6_0 C kw_722 dX6_pass_57 ?_
      refine sv_iconst (v := nI 2) C dX6_pass_60 (by decide) ?_
      refine sv_callS (as := [_, _]) (rest := []) C (met_R20_sum l G _ _ _ 2 (by omega)) fX6_sum kw_841 ⟨Nat.le_of_ble_eq_true rfl, Nat.le_of_ble_eq_true rfl⟩ (Nat.le_of_ble_eq_true rfl) dX6_pass_61 ⟨Nat.zero_le _, Nat.zero_le _⟩  ?_
      refine sv_riS (dks (rpass n1 (M 10))) (by rw [sv_us]; rfl) ?_
      refine sv_iload_n (i := 2) (x := dks (M 10)) C dX6_pass_64 rfl rfl ?_
      refine sv_isub C dX6_pass_65 ?_
      refine sv_topi (fun v65 e65 => ?_)
      exact sv_iret C hr dX6_pass_66 (Nat.le_of_ble_eq_true rfl) (Nat.le_of_ble_eq_true rfl) (by rw [rR_0 hk, nI_clamp (by omega), e65]) (sv_eqW (by rw [rW_0 hk, nI_clamp (by omega)]))
    · refine sv_aload_n (i := 0) (x := sv_r G 19 0) C dX6_pass_42 rfl rfl ?_
      refine sv_aload_n (i := 0) (x := sv_r G 19 0) C dX6_pass_43 rfl rfl ?_
      refine sv_get_6_0 C kw_722 dX6_pass_44 ?_
      refine sv_callV (as := [_]) (rest := []) C (met_R20_second l G _ _ _ (by rw [sv_us]; exact hg i (by omega))) fX6_second kw_844 (sv_recv19 C) ⟨Nat.le_of_ble_eq_true rfl, Nat.le_of_ble_eq_true rfl⟩ (Nat.le_of_ble_eq_true rfl) dX6_pass_47 ⟨Nat.zero_le _, Nat.zero_le _⟩  ?_
      refine sv_rv ?_
      refine sv_iinc (i := 3) (x := nI i) C (nI (i + 1)) [(0, .ref (sv_r G 19 0)), (1, .int (nI n1)), (2, .int (dks (M 10))), (3, .int (nI (i + 1)))] dX6_pass_50 rfl (sv_incN i 1) (by decide) rfl ?_
      refine sv_goto C 37 dX6_pass_53 (by decide) ?_
      refine sv_wd (sv_eqW ?_) (ihi (by omega) trivial)
      rw [sec_step (W := (rsav kp (thr 0 M))) (by decide) (by decide) rfl, (show rsav kp (thr 0 M) 15 6 = M 15 6 from by unfold rsav; rw [sv_us, upd_n (by decide), thr_15 (by decide)])]
      rfl
  · have hk : secC t = 1 := inS_0 (e10.symm.trans q13)
    refine sv_aload_n (i := 0) (x := sv_r G 19 0) C dX6_pass_16 rfl rfl ?_
    refine sv_iconst (v := nI 1) C dX6_pass_17 (by decide) ?_
    refine sv_callV (as := [_]) (rest := []) C (met_R_fails l G _ _ _ (nI 1)) fX6_fails kw_770 (sv_recv19 C) ⟨Nat.le_of_ble_eq_true rfl, Nat.le_of_ble_eq_true rfl⟩ (Nat.le_of_ble_eq_true rfl) dX6_pass_18 ⟨Nat.zero_le _, Nat.zero_le _⟩  ?_
    refine sv_riS 0 rfl ?_
    exact sv_iret C hr dX6_pass_21 (Nat.le_of_ble_eq_true rfl) (Nat.le_of_ble_eq_true rfl) (rR_n (by rw [hk]; decide)).symm (sv_eqW (by rw [thr_thr, rW_n (by rw [hk]; decide), hk]))

