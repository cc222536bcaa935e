set_option maxHeartbeats 800000 in
set_option maxRecDepth 100000 in
theorem met_R_ofFloor (l : Launch) (G : sv_G) (z : Nat) (M : sv_M) (o : Int64) (f w9 : Nat) (hf : f < 8) (hw : w9 < 8) (m : Nat) (hm : M 10 57 = nI m) (hm7 : m ≤ 6) : sv_Met l G yX6_ofFloor cX6_ofFloor 3 (some .int) 2 [.ref (sv_r G 19 0), .int (nI f), .int (nI w9)] (sv_W G z M o) (some (.int (fnv m (M 10) f w9))) (sv_W G z M o) := by
  refine sv_ofW (by decide) kw_902 (Nat.le_of_ble_eq_true rfl) ?_
  intro p e s mth args below meth c hr C _
  refine sv_sub (lv' := [(0, .ref (sv_r G 19 0)), (1, .int (nI f)), (2, .int (nI w9))]) rfl ?_
  refine sv_iload_n (i := 2) (x := nI w9) C dX6_ofFloor_0 rfl rfl ?_
  rcases (show w9 = 0 ∨ w9 = 1 ∨ w9 = 2 ∨ w9 = 3 ∨ w9 = 4 ∨ w9 = 5 ∨ w9 = 6 ∨ w9 = 7 by omega) with rfl | rfl | rfl | rfl | rfl | rfl | rfl | rfl
  · refine sv_tableIn (off := 31) C 32 dX6_ofFloor_1 (by decide) (by decide) (by decide) (by decide) ?_
    refine sv_aload_n (i := 0) (x := sv_r G 19 0) C dX6_ofFloor_32 rfl rfl ?_
    refine sv_get_6_0 C kw_722 dX6_ofFloor_33 ?_
    refine sv_iload_n (i := 1) (x := nI f) C dX6_ofFloor_36 rfl rfl ?_
    refine sv_callS (as := [_, _]) (rest := []) C (met_R20_lamp l G _ _ _ f (by omega)) fX6_lamp kw_860 ⟨Nat.le_of_ble_eq_true rfl, Nat.le_of_ble_eq_true rfl⟩ (Nat.le_of_ble_eq_true rfl) dX6_ofFloor_37 ⟨Nat.zero_le _, Nat.zero_le _⟩  ?_
    refine sv_ri (fun v37 e37 => ?_)
    exact sv_iret C hr dX6_ofFloor_40 (Nat.le_of_ble_eq_true rfl) (Nat.le_of_ble_eq_true rfl) e37 (fun _ h => h)
  · refine sv_tableIn (off := 40) C 41 dX6_ofFloor_1 (by decide) (by decide) (by decide) (by decide) ?_
    refine sv_aload_n (i := 0) (x := sv_r G 19 0) C dX6_ofFloor_41 rfl rfl ?_
    refine sv_get_6_0 C kw_722 dX6_ofFloor_42 ?_
    refine sv_iload_n (i := 1) (x := nI f) C dX6_ofFloor_45 rfl rfl ?_
    refine sv_iload_n (i := 2) (x := nI 1) C dX6_ofFloor_46 rfl rfl ?_
    refine sv_iconst (v := nI 1) C dX6_ofFloor_47 (by decide) ?_
    refine sv_isub C dX6_ofFloor_48 ?_
    refine sv_set (v' := .int (nI 0)) (congrArg Value.int rfl) ?_
    refine sv_callS (as := [_, _, _]) (rest := []) C (met_R20_of l G _ _ _ f 0 (by omega) (by omega)) fX6_of kw_812 ⟨Nat.le_of_ble_eq_true rfl, Nat.le_of_ble_eq_true rfl⟩ (Nat.le_of_ble_eq_true rfl) dX6_ofFloor_49 ⟨Nat.zero_le _, Nat.zero_le _⟩  ?_
    refine sv_riS (M 10 (6 * f + 9)) rfl ?_
    exact sv_iret C hr dX6_ofFloor_52 (Nat.le_of_ble_eq_true rfl) (Nat.le_of_ble_eq_true rfl) rfl (fun _ h => h)
  · refine sv_tableIn (off := 40) C 41 dX6_ofFloor_1 (by decide) (by decide) (by decide) (by decide) ?_
    refine sv_aload_n (i := 0) (x := sv_r G 19 0) C dX6_ofFloor_41 rfl rfl ?_
    refine sv_get_6_0 C kw_722 dX6_ofFloor_42 ?_
    refine sv_iload_n (i := 1) (x := nI f) C dX6_ofFloor_45 rfl rfl ?_
    refine sv_iload_n (i := 2) (x := nI 2) C dX6_ofFloor_46 rfl rfl ?_
    refine sv_iconst (v := nI 1) C dX6_ofFloor_47 (by decide) ?_
    refine sv_isub C dX6_ofFloor_48 ?_
    refine sv_set (v' := .int (nI 1)) (congrArg Value.int rfl) ?_
    refine sv_callS (as := [_, _, _]) (rest := []) C (met_R20_of l G _ _ _ f 1 (by omega) (by omega)) fX6_of kw_812 ⟨Nat.le_of_ble_eq_true rfl, Nat.le_of_ble_eq_true rfl⟩ (Nat.le_of_ble_eq_true rfl) dX6_ofFloor_49 ⟨Nat.zero_le _, Nat.zero_le _⟩  ?_
    refine sv_riS (M 10 (6 * f + 10)) rfl ?_
    exact sv_iret C hr dX6_ofFloor_52 (Nat.le_of_ble_eq_true rfl) (Nat.le_of_ble_eq_true rfl) rfl (fun _ h => h)
  · refine sv_tableIn (off := 52) C 53 dX6_ofFloor_1 (by decide) (by decide) (by decide) (by decide) ?_
    refine sv_aload_n (i := 0) (x := sv_r G 19 0) C dX6_ofFloor_53 rfl rfl ?_
    refine sv_get_6_0 C kw_722 dX6_ofFloor_54 ?_
    refine sv_iload_n (i := 1) (x := nI f) C dX6_ofFloor_57 rfl rfl ?_
    refine sv_callS (as := [_, _]) (rest := []) C (met_R20_on l G _ _ _ (nI f) m hm (by omega)) fX6_on kw_857 ⟨Nat.le_of_ble_eq_true rfl, Nat.le_of_ble_eq_true rfl⟩ (Nat.le_of_ble_eq_true rfl) dX6_ofFloor_58 ⟨Nat.zero_le _, Nat.zero_le _⟩  ?_
    refine sv_ri (fun v58 e58 => ?_)
    exact sv_iret C hr dX6_ofFloor_61 (Nat.le_of_ble_eq_true rfl) (Nat.le_of_ble_eq_true rfl) e58 (fun _ h => h)
  · refine sv_tableOut C 62 dX6_ofFloor_1 (Or.inr (by decide)) (by decide) ?_
    refine sv_aload_n (i := 0) (x := sv_r G 19 0) C dX6_ofFloor_62 rfl rfl ?_
    refine sv_get_6_0 C kw_722 dX6_ofFloor_63 ?_
    refine sv_iload_n (i := 1) (x := nI f) C dX6_ofFloor_66 rfl rfl ?_
    refine sv_iload_n (i := 2) (x := nI 4) C dX6_ofFloor_67 rfl rfl ?_
    refine sv_iconst (v := nI 2) C dX6_ofFloor_68 (by decide) ?_
    refine sv_isub C dX6_ofFloor_69 ?_
    refine sv_set (v' := .int (nI 2)) (congrArg Value.int rfl) ?_
    refine sv_callS (as := [_, _, _]) (rest := []) C (met_R20_of l G _ _ _ f 2 (by omega) (by omega)) fX6_of kw_812 ⟨Nat.le_of_ble_eq_true rfl, Nat.le_of_ble_eq_true rfl⟩ (Nat.le_of_ble_eq_true rfl) dX6_ofFloor_70 ⟨Nat.zero_le _, Nat.zero_le _⟩  ?_
    refine sv_riS (M 10 (6 * f + 11)) rfl ?_
    exact sv_iret C hr dX6_ofFloor_73 (Nat.le_of_ble_eq_true rfl) (Nat.le_of_ble_eq_true rfl) rfl (fun _ h => h)
  · refine sv_tableOut C 62 dX6_ofFloor_1 (Or.inr (by decide)) (by decide) ?_
    refine sv_aload_n (i := 0) (x := sv_r G 19 0) C dX6_ofFloor_62 rfl rfl ?_
    refine sv_get_6_0 C kw_722 dX6_ofFloor_63 ?_
    refine sv_iload_n (i := 1) (x := nI f) C dX6_ofFloor_66 rfl rfl ?_
    refine sv_iload_n (i := 2) (x := nI 5) C dX6_ofFloor_67 rfl rfl ?_
    refine sv_iconst (v := nI 2) C dX6_ofFloor_68 (by decide) ?_
    refine sv_isub C dX6_ofFloor_69 ?_
    refine sv_set (v' := .int (nI 3)) (congrArg Value.int rfl) ?_
    refine sv_callS (as := [_, _, _]) (rest := []) C (met_R20_of l G _ _ _ f 3 (by omega) (by omega)) fX6_of kw_812 ⟨Nat.le_of_ble_eq_true rfl, Nat.le_of_ble_eq_true rfl⟩ (Nat.le_of_ble_eq_true rfl) dX6_ofFloor_70 ⟨Nat.zero_le _, Nat.zero_le _⟩  ?_
    refine sv_riS (M 10 (6 * f + 12)) rfl ?_
    exact sv_iret C hr dX6_ofFloor_73 (Nat.le_of_ble_eq_true rfl) (Nat.le_of_ble_eq_true rfl) rfl (fun _ h => h)
  · refine sv_tableOut C 62 dX6_ofFloor_1 (Or.inr (by decide)) (by decide) ?_
    refine sv_aload_n (i := 0) (x := sv_r G 19 0) C dX6_ofFloor_62 rfl rfl ?_
    refine sv_get_6_0 C kw_722 dX6_ofFloor_63 ?_
    refine sv_iload_n (i := 1) (x := nI f) C dX6_ofFloor_66 rfl rfl ?_
    refine sv_iload_n (i := 2) (x := nI 6) C dX6_ofFloor_67 rfl rfl ?_
    refine sv_iconst (v := nI 2) C dX6_ofFloor_68 (by decide) ?_
    refine sv_isub C dX6_ofFloor_69 ?_
    refine sv_set (v' := .int (nI 4)) (congrArg Value.int rfl) ?_
    refine sv_callS (as := [_, _, _]) (rest := []) C (met_R20_of l G _ _ _ f 4 (by omega) (by omega)) fX6_of kw_812 ⟨Nat.le_of_ble_eq_true rfl, Nat.le_of_ble_eq_true rfl⟩ (Nat.le_of_ble_eq_true rfl) dX6_ofFloor_70 ⟨Nat.zero_le _, Nat.zero_le _⟩  ?_
    refine sv_riS (M 10 (6 * f + 13)) rfl ?_
    exact sv_iret C hr dX6_ofFloor_73 (Nat.le_of_ble_eq_true rfl) (Nat.le_of_ble_eq_true rfl) rfl (fun _ h => h)
  · refine sv_tableOut C 62 dX6_ofFloor_1 (Or.inr (by decide)) (by decide) ?_
    refine sv_aload_n (i := 0) (x := sv_r G 19 0) C dX6_ofFloor_62 rfl rfl ?_
    refine sv_get_6_0 C kw_722 dX6_ofFloor_63 ?_
    refine sv_iload_n (i := 1) (x := nI f) C dX6_ofFloor_66 rfl rfl ?_
    refine sv_iload_n (i := 2) (x := nI 7) C dX6_ofFloor_67 rfl rfl ?_
    refine sv_iconst (v := nI 2) C dX6_ofFloor_68 (by decide) ?_
    refine sv_isub C dX6_ofFloor_69 ?_
    refine sv_set (v' := .int (nI 5)) (congrArg Value.int rfl) ?_
    refine sv_callS (as := [_, _, _]) (rest := []) C (met_R20_of l G _ _ _ f 5 (by omega) (by omega)) fX6_of kw_812 ⟨Nat.le_of_ble_eq_true rfl, Nat.le_of_ble_eq_true rfl⟩ (Nat.le_of_ble_eq_true rfl) dX6_ofFloor_70 ⟨Nat.zero_le _, Nat.zero_le _⟩  ?_
    refine sv_riS (M 10 (6 * f + 14)) rfl ?_
    exact sv_iret C hr dX6_ofFloor_73 (Nat.le_of_ble_eq_true rfl) (Nat.le_of_ble_eq_true rfl) rfl (fun _ h => h)

set_option maxHeartbeats 800000 in
set_option maxRecDepth 100000 in
theorem met_R_floor (l : Launch) (G : sv_G) (z : Nat) (M : sv_M) (o : Int64) (f v : Int32) (m : Nat) (hm : M 10 57 = nI m) (hm7 : m ≤ 6) : sv_Met l G yX6_floor cX6_floor 3 (some .int) 3 [.ref (sv_r G 19 0), .int f, .int v] (sv_W G z M o) (some (.int (rR (floC f v) (fnv m (M 10) f.toNatClampNeg v.toNatClampNeg)))) (sv_W G z (rW (floC f v) (thr 0 M) M) o) := by
  refine sv_ofW (by decide) kw_898 (Nat.le_of_ble_eq_true rfl) ?_
  intro p e s mth args below meth c hr C _
  refine sv_sub (lv' := [(0, .ref (sv_r G 19 0)), (1, .int f), (2, .int v)]) rfl ?_
  refine sv_aload_n (i := 0) (x := sv_r G 19 0) C dX6_floor_0 rfl rfl ?_
  refine sv_iconst (v := nI 0) C dX6_floor_1 (by decide) ?_
  refine sv_put_6_6 C kw_728 dX6_floor_2 ?_
  refine sv_wd (sv_eqW (show _ = thr 0 M from thr_w)) ?_
  refine sv_iload_n (i := 1) (x := f) C dX6_floor_5 rfl rfl ?_
  refine sv_callS (as := [_]) (rest := []) C (met_R_isFloor l G _ f) fX6_isFloor kw_784 ⟨Nat.le_of_ble_eq_true rfl, Nat.le_of_ble_eq_true rfl⟩ (Nat.le_of_ble_eq_true rfl) dX6_floor_6 ⟨Nat.zero_le _, Nat.zero_le _⟩  ?_
  refine sv_ri (fun v6 e6 => ?_)
  refine sv_if_ne C 18 dX6_floor_9 (by decide) (fun q9 => ?_) (fun q9 => ?_)
  · have hk1 : inC 8 f = 0 := inN_1 (fun h => q9 (e6.trans h))
    obtain ⟨g1, hg1, rfl⟩ := inC_0 (by decide) hk1
    have hg1 := hg1
    refine sv_iload_n (i := 2) (x := v) C dX6_floor_18 rfl rfl ?_
    refine sv_iconst (v := nI 0) C dX6_floor_19 (by decide) ?_
    refine sv_bipush (v := nI 7) C dX6_floor_20 (by decide) ?_
    refine sv_callS (as := [_, _, _]) (rest := []) C (met_R_in l G _ v (nI 0) (nI 7)) fX6_in kw_787 ⟨Nat.le_of_ble_eq_true rfl, Nat.le_of_ble_eq_true rfl⟩ (Nat.le_of_ble_eq_true rfl) dX6_floor_22 ⟨Nat.zero_le _, Nat.zero_le _⟩  ?_
    refine sv_ri (fun v22 e22 => ?_)
    refine sv_if_eq C 37 dX6_floor_25 (by decide) (fun q25 => ?_) (fun q25 => ?_)
    · have hk : floC (nI g1) v = 2 := (if_neg (fun h => absurd (h.symm.trans hk1) (by decide))).trans (if_pos (inNk_0 (n := 7) (by decide) (e22.symm.trans q25)))
      refine sv_aload_n (i := 0) (x := sv_r G 19 0) C dX6_floor_37 rfl rfl ?_
      refine sv_iconst (v := nI 2) C dX6_floor_38 (by decide) ?_
      refine sv_callV (as := [_]) (rest := []) C (met_R_fails l G _ _ _ (nI 2)) fX6_fails kw_770 (sv_recv19 C) ⟨Nat.le_of_ble_eq_true rfl, Nat.le_of_ble_eq_true rfl⟩ (Nat.le_of_ble_eq_true rfl) dX6_floor_39 ⟨Nat.zero_le _, Nat.zero_le _⟩  ?_
      refine sv_riS 0 rfl ?_
      exact sv_iret C hr dX6_floor_42 (Nat.le_of_ble_eq_true rfl) (Nat.le_of_ble_eq_true rfl) (rR_n (by rw [hk]; decide)).symm (sv_eqW (by rw [thr_thr, rW_n (by rw [hk]; decide), hk]))
    · have hk2 : inC 8 v = 0 := inNk_1 (n := 7) (by decide) (fun h => q25 (e22.trans h))
      have hk : floC (nI g1) v = 0 := (if_neg (fun h => absurd (h.symm.trans hk1) (by decide))).trans (if_neg (fun h => absurd (h.symm.trans hk2) (by decide)))
      obtain ⟨g2, hg2, rfl⟩ := inC_0 (by decide) hk2
      have hg2 := hg2
      refine sv_aload_n (i := 0) (x := sv_r G 19 0) C dX6_floor_28 rfl rfl ?_
      refine sv_iload_n (i := 1) (x := nI g1) C dX6_floor_29 rfl rfl ?_
      refine sv_iload_n (i := 2) (x := nI g2) C dX6_floor_30 rfl rfl ?_
      refine sv_callV (as := [_, _]) (rest := []) C (met_R_ofFloor l G _ _ _ g1 g2 (by omega) (by omega) m (by rw [thr_n (by decide)]; exact hm) hm7) fX6_ofFloor kw_899 (sv_recv19 C) ⟨Nat.le_of_ble_eq_true rfl, Nat.le_of_ble_eq_true rfl⟩ (Nat.le_of_ble_eq_true rfl) dX6_floor_31 ⟨Nat.zero_le _, Nat.zero_le _⟩  ?_
      refine sv_ri (fun v31 e31 => ?_)
      refine sv_goto C 42 dX6_floor_34 (by decide) ?_
      exact sv_iret C hr dX6_floor_42 (Nat.le_of_ble_eq_true rfl) (Nat.le_of_ble_eq_true rfl) (by rw [rR_0 hk, e31, thr_n (by decide), nI_clamp (by omega), nI_clamp (by omega)]) (sv_eqW (by rw [rW_0 hk]))
  · have hk : floC f v = 1 := if_pos (inN_0 (e6.symm.trans q9))
    refine sv_aload_n (i := 0) (x := sv_r G 19 0) C dX6_floor_12 rfl rfl ?_
    refine sv_iconst (v := nI 1) C dX6_floor_13 (by decide) ?_
    refine sv_callV (as := [_]) (rest := []) C (met_R_fails l G _ _ _ (nI 1)) fX6_fails kw_770 (sv_recv19 C) ⟨Nat.le_of_ble_eq_true rfl, Nat.le_of_ble_eq_true rfl⟩ (Nat.le_of_ble_eq_true rfl) dX6_floor_14 ⟨Nat.zero_le _, Nat.zero_le _⟩  ?_
    refine sv_riS 0 rfl ?_
    exact sv_iret C hr dX6_floor_17 (Nat.le_of_ble_eq_true rfl) (Nat.le_of_ble_eq_true rfl) (rR_n (by rw [hk]; decide)).symm (sv_eqW (by rw [thr_thr, rW_n (by rw [hk]; decide), hk]))

set_option maxHeartbeats 800000 in
set_option maxRecDepth 100000 in
theorem met_R_person (l : Launch) (G : sv_G) (z : Nat) (M : sv_M) (o : Int64) (f v : Int32) (m : Nat) (hm : M 10 57 = nI m) (hm7 : m ≤ 6) : sv_Met l G yX6_person cX6_person 3 (some .int) 2 [.ref (sv_r G 19 0), .int f, .int v] (sv_W G z M o) (some (.int (rR (perC f v) (if f.toNatClampNeg < m then M 10 (4 * f.toNatClampNeg + 58 + v.toNatClampNeg) else (-1))))) (sv_W G z (rW (perC f v) (thr 0 M) M) o) := by
  refine sv_ofW (by decide) kw_906 (Nat.le_of_ble_eq_true rfl) ?_
  intro p e s mth args below meth c hr C _
  refine sv_sub (lv' := [(0, .ref (sv_r G 19 0)), (1, .int f), (2, .int v)]) rfl ?_
  refine sv_aload_n (i := 0) (x := sv_r G 19 0) C dX6_person_0 rfl rfl ?_
  refine sv_iconst (v := nI 0) C dX6_person_1 (by decide) ?_
  refine sv_put_6_6 C kw_728 dX6_person_2 ?_
  refine sv_wd (sv_eqW (show _ = thr 0 M from thr_w)) ?_
  refine sv_iload_n (i := 1) (x := f) C dX6_person_5 rfl rfl ?_
  refine sv_if_lt C 18 dX6_person_6 (by decide) (fun q6 => ?_) (fun q6 => ?_)
  · have hk : perC f v = 1 := if_pos q6
    refine sv_aload_n (i := 0) (x := sv_r G 19 0) C dX6_person_18 rfl rfl ?_
    refine sv_iconst (v := nI 1) C dX6_person_19 (by decide) ?_
    refine sv_callV (as := [_]) (rest := []) C (met_R_fails l G _ _ _ (nI 1)) fX6_fails kw_770 (sv_recv19 C) ⟨Nat.le_of_ble_eq_true rfl, Nat.le_of_ble_eq_true rfl⟩ (Nat.le_of_ble_eq_true rfl) dX6_person_20 ⟨Nat.zero_le _, Nat.zero_le _⟩  ?_
    refine sv_riS 0 rfl ?_
    exact sv_iret C hr dX6_person_23 (Nat.le_of_ble_eq_true rfl) (Nat.le_of_ble_eq_true rfl) (rR_n (by rw [hk]; decide)).symm (sv_eqW (by rw [thr_thr, rW_n (by rw [hk]; decide), hk]))
  · refine sv_iload_n (i := 2) (x := v) C dX6_person_9 rfl rfl ?_
    refine sv_iconst (v := nI 0) C dX6_person_10 (by decide) ?_
    refine sv_iconst (v := nI 3) C dX6_person_11 (by decide) ?_
    refine sv_callS (as := [_, _, _]) (rest := []) C (met_R_in l G _ v (nI 0) (nI 3)) fX6_in kw_787 ⟨Nat.le_of_ble_eq_true rfl, Nat.le_of_ble_eq_true rfl⟩ (Nat.le_of_ble_eq_true rfl) dX6_person_12 ⟨Nat.zero_le _, Nat.zero_le _⟩  ?_
    refine sv_ri (fun v12 e12 => ?_)
    refine sv_if_ne C 24 dX6_person_15 (by decide) (fun q15 => ?_) (fun q15 => ?_)
    · have hk2 : inC 4 v = 0 := inNk_1 (n := 3) (by decide) (fun h => q15 (e12.trans h))
      have hk : perC f v = 0 := (if_neg q6).trans hk2
      obtain ⟨g2, hg2, rfl⟩ := inC_0 (by decide) hk2
      obtain ⟨p1, hp1, rfl⟩ := i32_nn (Int32.not_lt.mp q6)
      have hg2 := hg2
      refine sv_iload_n (i := 1) (x := nI p1) C dX6_person_24 rfl rfl ?_
      refine sv_aload_n (i := 0) (x := sv_r G 19 0) C dX6_person_25 rfl rfl ?_
      refine sv_get_6_0 C kw_722 dX6_person_26 ?_
      refine sv_bipush (v := nI 57) C dX6_person_29 (by decide) ?_
      refine sv_ialdN C 10 57 rfl rfl rfl rfl (by show _ < 86; omega) dX6_person_31 ?_
      refine sv_set (v' := .int (nI m)) (congrArg Value.int (by rw [thr_n (by decide)]; exact hm)) ?_
      refine sv_icmp_geN C 47 dX6_person_32 (by decide) (by omega) (by omega) (fun q32 => ?_) (fun q32 => ?_)
      · refine sv_iconst (v := (-1)) C dX6_person_47 (by decide) ?_
        exact sv_iret C hr dX6_person_48 (Nat.le_of_ble_eq_true rfl) (Nat.le_of_ble_eq_true rfl) (by rw [rR_0 hk, nI_clamp (by omega), nI_clamp (by omega), if_neg (by omega)]) (sv_eqW (by rw [rW_0 hk]))
      · refine sv_aload_n (i := 0) (x := sv_r G 19 0) C dX6_person_35 rfl rfl ?_
        refine sv_get_6_0 C kw_722 dX6_person_36 ?_
        refine sv_iload_n (i := 1) (x := nI p1) C dX6_person_39 rfl rfl ?_
        refine sv_iload_n (i := 2) (x := nI g2) C dX6_person_40 rfl rfl ?_
        refine sv_callS (as := [_, _, _]) (rest := []) C (met_R20_by l G _ _ _ p1 g2 (by omega) (by omega)) fX6_by kw_801 ⟨Nat.le_of_ble_eq_true rfl, Nat.le_of_ble_eq_true rfl⟩ (Nat.le_of_ble_eq_true rfl) dX6_person_41 ⟨Nat.zero_le _, Nat.zero_le _⟩  ?_
        refine sv_ri (fun v41 e41 => ?_)
        refine sv_goto C 48 dX6_person_44 (by decide) ?_
        exact sv_iret C hr dX6_person_48 (Nat.le_of_ble_eq_true rfl) (Nat.le_of_ble_eq_true rfl) (by rw [rR_0 hk, nI_clamp (by omega), nI_clamp (by omega), if_pos (by omega), e41, thr_n (by decide)]) (sv_eqW (by rw [rW_0 hk]))
    · have hk : perC f v = 1 := (if_neg q6).trans (inNk_0 (n := 3) (by decide) (e12.symm.trans q15))
      refine sv_aload_n (i := 0) (x := sv_r G 19 0) C dX6_person_18 rfl rfl ?_
      refine sv_iconst (v := nI 1) C dX6_person_19 (by decide) ?_
      refine sv_callV (as := [_]) (rest := []) C (met_R_fails l G _ _ _ (nI 1)) fX6_fails kw_770 (sv_recv19 C) ⟨Nat.le_of_ble_eq_true rfl, Nat.le_of_ble_eq_true rfl⟩ (Nat.le_of_ble_eq_true rfl) dX6_person_20 ⟨Nat.zero_le _, Nat.zero_le _⟩  ?_
      refine sv_riS 0 rfl ?_
      exact sv_iret C hr dX6_person_23 (Nat.le_of_ble_eq_true rfl) (Nat.le_of_ble_eq_true rfl) (rR_n (by rw [hk]; decide)).symm (sv_eqW (by rw [thr_thr, rW_n (by rw [hk]; decide), hk]))

set_option maxHeartbeats 800000 in
set_option maxRecDepth 100000 in
theorem met_R_counted (l : Launch) (G : sv_G) (z : Nat) (M : sv_M) (o : Int64) (w9 : Nat) (hw9 : w9 < 11) (kp : Nat) (hkp : M 15 0 = nI kp) : sv_Met l G yX6_counted cX6_counted 2 (some .int) 3 [.ref (sv_r G 19 0), .int (nI w9)] (sv_W G z M o) (some (.int (couv (M 10) kp w9))) (sv_W G z M o) := by
  refine sv_ofW (by decide) kw_914 (Nat.le_of_ble_eq_true rfl) ?_
  intro p e s mth args below meth c hr C _
  refine sv_sub (lv' := [(0, .ref (sv_r G 19 0)), (1, .int (nI w9))]) rfl ?_
  refine sv_iload_n (i := 1) (x := nI w9) C dX6_counted_0 rfl rfl ?_
  rcases (show w9 = 0 ∨ w9 = 1 ∨ w9 = 2 ∨ w9 = 3 ∨ w9 = 4 ∨ w9 = 5 ∨ w9 = 6 ∨ w9 = 7 ∨ w9 = 8 ∨ w9 = 9 ∨ w9 = 10 by omega) with rfl | rfl | rfl | rfl | rfl | rfl | rfl | rfl | rfl | rfl | rfl
  · refine sv_tableIn (off := 55) C 56 dX6_counted_1 (by decide) (by decide) (by decide) (by decide) ?_
    refine sv_aload_n (i := 0) (x := sv_r G 19 0) C dX6_counted_56 rfl rfl ?_
    refine sv_get_6_0 C kw_722 dX6_counted_57 ?_
    refine sv_iconst (v := nI 4) C dX6_counted_60 (by decide) ?_
    refine sv_ialdN C 10 4 rfl rfl rfl rfl (by show _ < 86; omega) dX6_counted_61 ?_
    refine sv_topi (fun v61 e61 => ?_)
    exact sv_iret C hr dX6_counted_62 (Nat.le_of_ble_eq_true rfl) (Nat.le_of_ble_eq_true rfl) e61 (fun _ h => h)
  · refine sv_tableIn (off := 62) C 63 dX6_counted_1 (by decide) (by decide) (by decide) (by decide) ?_
    refine sv_aload_n (i := 0) (x := sv_r G 19 0) C dX6_counted_63 rfl rfl ?_
    refine sv_get_6_0 C kw_722 dX6_counted_64 ?_
    refine sv_bipush (v := nI 57) C dX6_counted_67 (by decide) ?_
    refine sv_ialdN C 10 57 rfl rfl rfl rfl (by show _ < 86; omega) dX6_counted_69 ?_
    refine sv_topi (fun v69 e69 => ?_)
    exact sv_iret C hr dX6_counted_70 (Nat.le_of_ble_eq_true rfl) (Nat.le_of_ble_eq_true rfl) e69 (fun _ h => h)
  · refine sv_tableIn (off := 70) C 71 dX6_counted_1 (by decide) (by decide) (by decide) (by decide) ?_
    refine sv_aload_n (i := 0) (x := sv_r G 19 0) C dX6_counted_71 rfl rfl ?_
    refine sv_get_6_0 C kw_722 dX6_counted_72 ?_
    refine sv_iconst (v := nI 5) C dX6_counted_75 (by decide) ?_
    refine sv_ialdN C 10 5 rfl rfl rfl rfl (by show _ < 86; omega) dX6_counted_76 ?_
    refine sv_topi (fun v76 e76 => ?_)
    exact sv_iret C hr dX6_counted_77 (Nat.le_of_ble_eq_true rfl) (Nat.le_of_ble_eq_true rfl) e76 (fun _ h => h)
  · refine sv_tableIn (off := 77) C 78 dX6_counted_1 (by decide) (by decide) (by decide) (by decide) ?_
    refine sv_aload_n (i := 0) (x := sv_r G 19 0) C dX6_counted_78 rfl rfl ?_
    refine sv_get_6_0 C kw_722 dX6_counted_79 ?_
    refine sv_callS (as := [_]) (rest := []) C (met_R20_lit l G _ _ _) fX6_lit kw_915 ⟨Nat.le_of_ble_eq_true rfl, Nat.le_of_ble_eq_true rfl⟩ (Nat.le_of_ble_eq_true rfl) dX6_counted_82 ⟨Nat.zero_le _, Nat.zero_le _⟩  ?_
    refine sv_ri (fun v82 e82 => ?_)
    exact sv_iret C hr dX6_counted_85 (Nat.le_of_ble_eq_true rfl) (Nat.le_of_ble_eq_true rfl) e82 (fun _ h => h)
  · refine sv_tableIn (off := 85) C 86 dX6_counted_1 (by decide) (by decide) (by decide) (by decide) ?_
    refine sv_aload_n (i := 0) (x := sv_r G 19 0) C dX6_counted_86 rfl rfl ?_
    refine sv_get_6_0 C kw_722 dX6_counted_87 ?_
    refine sv_iload_n (i := 1) (x := nI 4) C dX6_counted_90 rfl rfl ?_
    refine sv_iconst (v := nI 2) C dX6_counted_91 (by decide) ?_
    refine sv_isub C dX6_counted_92 ?_
    refine sv_set (v' := .int (nI 2)) (congrArg Value.int rfl) ?_
    refine sv_callS (as := [_, _]) (rest := []) C (met_R20_sum l G _ _ _ 2 (by omega)) fX6_sum kw_841 ⟨Nat.le_of_ble_eq_true rfl, Nat.le_of_ble_eq_true rfl⟩ (Nat.le_of_ble_eq_true rfl) dX6_counted_93 ⟨Nat.zero_le _, Nat.zero_le _⟩  ?_
    refine sv_ri (fun v93 e93 => ?_)
    exact sv_iret C hr dX6_counted_96 (Nat.le_of_ble_eq_true rfl) (Nat.le_of_ble_eq_true rfl) e93 (fun _ h => h)
  · refine sv_tableIn (off := 85) C 86 dX6_counted_1 (by decide) (by decide) (by decide) (by decide) ?_
    refine sv_aload_n (i := 0) (x := sv_r G 19 0) C dX6_counted_86 rfl rfl ?_
    refine sv_get_6_0 C kw_722 dX6_counted_87 ?_
    refine sv_iload_n (i := 1) (x := nI 5) C dX6_counted_90 rfl rfl ?_
    refine sv_iconst (v := nI 2) C dX6_counted_91 (by decide) ?_
    refine sv_isub C dX6_counted_92 ?_
    refine sv_set (v' := .int (nI 3)) (congrArg Value.int rfl) ?_
    refine sv_callS (as := [_, _]) (rest := []) C (met_R20_sum l G _ _ _ 3 (by omega)) fX6_sum kw_841 ⟨Nat.le_of_ble_eq_true rfl, Nat.le_of_ble_eq_true rfl⟩ (Nat.le_of_ble_eq_true rfl) dX6_counted_93 ⟨Nat.zero_le _, Nat.zero_le _⟩  ?_
    refine sv_ri (fun v93 e93 => ?_)
    exact sv_iret C hr dX6_counted_96 (Nat.le_of_ble_eq_true rfl) (Nat.le_of_ble_eq_true rfl) e93 (fun _ h => h)
  · refine sv_tableIn (off := 85) C 86 dX6_counted_1 (by decide) (by decide) (by decide) (by decide) ?_
    refine sv_aload_n (i := 0) (x := sv_r G 19 0) C dX6_counted_86 rfl rfl ?_
    refine sv_get_6_0 C kw_722 dX6_counted_87 ?_
    refine sv_iload_n (i := 1) (x := nI 6) C dX6_counted_90 rfl rfl ?_
    refine sv_iconst (v := nI 2) C dX6_counted_91 (by decide) ?_
    refine sv_isub C dX6_counted_92 ?_
    refine sv_set (v' := .int (nI 4)) (congrArg Value.int rfl) ?_
    refine sv_callS (as := [_, _]) (rest := []) C (met_R20_sum l G _ _ _ 4 (by omega)) fX6_sum kw_841 ⟨Nat.le_of_ble_eq_true rfl, Nat.le_of_ble_eq_true rfl⟩ (Nat.le_of_ble_eq_true rfl) dX6_counted_93 ⟨Nat.zero_le _, Nat.zero_le _⟩  ?_
    refine sv_ri (fun v93 e93 => ?_)
    exact sv_iret C hr dX6_counted_96 (Nat.le_of_ble_eq_true rfl) (Nat.le_of_ble_eq_true rfl) e93 (fun _ h => h)
  · refine sv_tableIn (off := 96) C 97 dX6_counted_1 (by decide) (by decide) (by decide) (by decide) ?_
    refine sv_aload_n (i := 0) (x := sv_r G 19 0) C dX6_counted_97 rfl rfl ?_
    refine sv_get_6_0 C kw_722 dX6_counted_98 ?_
    refine sv_bipush (v := nI 6) C dX6_counted_101 (by decide) ?_
    refine sv_iload_n (i := 1) (x := nI 7) C dX6_counted_103 rfl rfl ?_
    refine sv_iadd C dX6_counted_104 ?_
    refine sv_set (v' := .int (nI 13)) (congrArg Value.int (nI_add _ _)) ?_
    refine sv_bipush (v := nI 7) C dX6_counted_105 (by decide) ?_
    refine sv_isub C dX6_counted_107 ?_
    refine sv_set (v' := .int (nI 6)) (congrArg Value.int rfl) ?_
    refine sv_ialdN C 10 6 rfl rfl rfl rfl (by show _ < 86; omega) dX6_counted_108 ?_
    refine sv_topi (fun v108 e108 => ?_)
    exact sv_iret C hr dX6_counted_109 (Nat.le_of_ble_eq_true rfl) (Nat.le_of_ble_eq_true rfl) e108 (fun _ h => h)
  · refine sv_tableIn (off := 96) C 97 dX6_counted_1 (by decide) (by decide) (by decide) (by decide) ?_
    refine sv_aload_n (i := 0) (x := sv_r G 19 0) C dX6_counted_97 rfl rfl ?_
    refine sv_get_6_0 C kw_722 dX6_counted_98 ?_
    refine sv_bipush (v := nI 6) C dX6_counted_101 (by decide) ?_
    refine sv_iload_n (i := 1) (x := nI 8) C dX6_counted_103 rfl rfl ?_
    refine sv_iadd C dX6_counted_104 ?_
    refine sv_set (v' := .int (nI 14)) (congrArg Value.int (nI_add _ _)) ?_
    refine sv_bipush (v := nI 7) C dX6_counted_105 (by decide) ?_
    refine sv_isub C dX6_counted_107 ?_
    refine sv_set (v' := .int (nI 7)) (congrArg Value.int rfl) ?_
    refine sv_ialdN C 10 7 rfl rfl rfl rfl (by show _ < 86; omega) dX6_counted_108 ?_
    refine sv_topi (fun v108 e108 => ?_)
    exact sv_iret C hr dX6_counted_109 (Nat.le_of_ble_eq_true rfl) (Nat.le_of_ble_eq_true rfl) e108 (fun _ h => h)
  · refine sv_tableIn (off := 109) C 110 dX6_counted_1 (by decide) (by decide) (by decide) (by decide) ?_
    refine sv_bipush (v := nI 8) C dX6_counted_110 (by decide) ?_
    refine sv_aload_n (i := 0) (x := sv_r G 19 0) C dX6_counted_112 rfl rfl ?_
    refine sv_get_6_0 C kw_722 dX6_counted_113 ?_
    refine sv_iconst (v := nI 1) C dX6_counted_116 (by decide) ?_
    refine sv_callS (as := [_, _]) (rest := [_]) C (met_R20_sum l G _ _ _ 1 (by omega)) fX6_sum kw_841 ⟨Nat.le_of_ble_eq_true rfl, Nat.le_of_ble_eq_true rfl⟩ (Nat.le_of_ble_eq_true rfl) dX6_counted_117 ⟨Nat.zero_le _, Nat.zero_le _⟩  ?_
    refine sv_riS (snd8 (M 10)) rfl ?_
    refine sv_isub C dX6_counted_120 ?_
    refine sv_set (v' := .int (nI 8 - snd8 (M 10))) (congrArg Value.int rfl) ?_
    exact sv_iret C hr dX6_counted_121 (Nat.le_of_ble_eq_true rfl) (Nat.le_of_ble_eq_true rfl) rfl (fun _ h => h)
  · refine sv_tableOut C 122 dX6_counted_1 (Or.inr (by decide)) (by decide) ?_
    refine sv_aload_n (i := 0) (x := sv_r G 19 0) C dX6_counted_122 rfl rfl ?_
    refine sv_get_6_3 C kw_725 dX6_counted_123 ?_
    refine sv_topi (fun v123 e123 => ?_)
    exact sv_iret C hr dX6_counted_126 (Nat.le_of_ble_eq_true rfl) (Nat.le_of_ble_eq_true rfl) (e123.trans hkp) (fun _ h => h)

set_option maxHeartbeats 800000 in
set_option maxRecDepth 100000 in
theorem met_R_count (l : Launch) (G : sv_G) (z : Nat) (M : sv_M) (o : Int64) (f : Int32) (kp : Nat) (hkp : M 15 0 = nI kp) : sv_Met l G yX6_count cX6_count 2 (some .int) 4 [.ref (sv_r G 19 0), .int f] (sv_W G z M o) (some (.int (rR (inC 11 f) (couv (M 10) kp f.toNatClampNeg)))) (sv_W G z (rW (inC 11 f) (thr 0 M) M) o) := by
  refine sv_ofW (by decide) kw_910 (Nat.le_of_ble_eq_true rfl) ?_
  intro p e s mth args below meth c hr C _
  refine sv_sub (lv' := [(0, .ref (sv_r G 19 0)), (1, .int f)]) rfl ?_
  refine sv_aload_n (i := 0) (x := sv_r G 19 0) C dX6_count_0 rfl rfl ?_
  refine sv_iconst (v := nI 0) C dX6_count_1 (by decide) ?_
  refine sv_put_6_6 C kw_728 dX6_count_2 ?_
  refine sv_wd (sv_eqW (show _ = thr 0 M from thr_w)) ?_
  refine sv_iload_n (i := 1) (x := f) C dX6_count_5 rfl rfl ?_
  refine sv_iconst (v := nI 0) C dX6_count_6 (by decide) ?_
  refine sv_bipush (v := nI 10) C dX6_count_7 (by decide) ?_
  refine sv_callS (as := [_, _, _]) (rest := []) C (met_R_in l G _ f (nI 0) (nI 10)) fX6_in kw_787 ⟨Nat.le_of_ble_eq_true rfl, Nat.le_of_ble_eq_true rfl⟩ (Nat.le_of_ble_eq_true rfl) dX6_count_9 ⟨Nat.zero_le _, Nat.zero_le _⟩  ?_
  refine sv_ri (fun v9 e9 => ?_)
  refine sv_if_eq C 23 dX6_count_12 (by decide) (fun q12 => ?_) (fun q12 => ?_)
  · have hk : inC 11 f = 1 := inNk_0 (n := 10) (by decide) (e9.symm.trans q12)
    refine sv_aload_n (i := 0) (x := sv_r G 19 0) C dX6_count_23 rfl rfl ?_
    refine sv_iconst (v := nI 1) C dX6_count_24 (by decide) ?_
    refine sv_callV (as := [_]) (rest := []) C (met_R_fails l G _ _ _ (nI 1)) fX6_fails kw_770 (sv_recv19 C) ⟨Nat.le_of_ble_eq_true rfl, Nat.le_of_ble_eq_true rfl⟩ (Nat.le_of_ble_eq_true rfl) dX6_count_25 ⟨Nat.zero_le _, Nat.zero_le _⟩  ?_
    refine sv_riS 0 rfl ?_
    exact sv_iret C hr dX6_count_28 (Nat.le_of_ble_eq_true rfl) (Nat.le_of_ble_eq_true rfl) (rR_n (by rw [hk]; decide)).symm (sv_eqW (by rw [thr_thr, rW_n (by rw [hk]; decide), hk]))
  · have hk : inC 11 f = 0 := inNk_1 (n := 10) (by decide) (fun h => q12 (e9.trans h))
    obtain ⟨g1, hg1, rfl⟩ := inC_0 (by decide) hk
    have hg1 := hg1
    refine sv_aload_n (i := 0) (x := sv_r G 19 0) C dX6_count_15 rfl rfl ?_
    refine sv_iload_n (i := 1) (x := nI g1) C dX6_count_16 rfl rfl ?_
    refine sv_callV (as := [_]) (rest := []) C (met_R_counted l G _ _ _ g1 (by omega) kp (by rw [thr_15 (by decide)]; exact hkp)) fX6_counted kw_911 (sv_recv19 C) ⟨Nat.le_of_ble_eq_true rfl, Nat.le_of_ble_eq_true rfl⟩ (Nat.le_of_ble_eq_true rfl) dX6_count_17 ⟨Nat.zero_le _, Nat.zero_le _⟩  ?_
    refine sv_ri (fun v17 e17 => ?_)
    refine sv_goto C 28 dX6_count_20 (by decide) ?_
    exact sv_iret C hr dX6_count_28 (Nat.le_of_ble_eq_true rfl) (Nat.le_of_ble_eq_true rfl) (by rw [rR_0 hk, e17, thr_n (by decide), nI_clamp (by omega)]) (sv_eqW (by rw [rW_0 hk]))

set_option maxHeartbeats 800000 in
set_option maxRecDepth 100000 in
theorem met_R_setting (l : Launch) (G : sv_G) (z : Nat) (M : sv_M) (o : Int64) (f : Int32) : sv_Met l G yX6_setting cX6_setting 2 (some .int) 2 [.ref (sv_r G 19 0), .int f] (sv_W G z M o) (some (.int (rR (inC 4 f) (M 10 f.toNatClampNeg)))) (sv_W G z (rW (inC 4 f) (thr 0 M) M) o) := by
  refine sv_ofW (by decide) kw_921 (Nat.le_of_ble_eq_true rfl) ?_
  intro p e s mth args below meth c hr C _
  refine sv_sub (lv' := [(0, .ref (sv_r G 19 0)), (1, .int f)]) rfl ?_
  refine sv_aload_n (i := 0) (x := sv_r G 19 0) C dX6_setting_0 rfl rfl ?_
  refine sv_iconst (v := nI 0) C dX6_setting_1 (by decide) ?_
  refine sv_put_6_6 C kw_728 dX6_setting_2 ?_
  refine sv_wd (sv_eqW (show _ = thr 0 M from thr_w)) ?_
  refine sv_iload_n (i := 1) (x := f) C dX6_setting_5 rfl rfl ?_
  refine sv_iconst (v := nI 0) C dX6_setting_6 (by decide) ?_
  refine sv_iconst (v := nI 3) C dX6_setting_7 (by decide) ?_
  refine sv_callS (as := [_, _, _]) (rest := []) C (met_R_in l G _ f (nI 0) (nI 3)) fX6_in kw_787 ⟨Nat.le_of_ble_eq_true rfl, Nat.le_of_ble_eq_true rfl⟩ (Nat.le_of_ble_eq_true rfl) dX6_setting_8 ⟨Nat.zero_le _, Nat.zero_le _⟩  ?_
  refine sv_ri (fun v8 e8 => ?_)
  refine sv_if_eq C 23 dX6_setting_11 (by decide) (fun q11 => ?_) (fun q11 => ?_)
  · have hk : inC 4 f = 1 := inNk_0 (n := 3) (by decide) (e8.symm.trans q11)
    refine sv_aload_n (i := 0) (x := sv_r G 19 0) C dX6_setting_23 rfl rfl ?_
    refine sv_iconst (v := nI 1) C dX6_setting_24 (by decide) ?_
    refine sv_callV (as := [_]) (rest := []) C (met_R_fails l G _ _ _ (nI 1)) fX6_fails kw_770 (sv_recv19 C) ⟨Nat.le_of_ble_eq_true rfl, Nat.le_of_ble_eq_true rfl⟩ (Nat.le_of_ble_eq_true rfl) dX6_setting_25 ⟨Nat.zero_le _, Nat.zero_le _⟩  ?_
    refine sv_riS 0 rfl ?_
    exact sv_iret C hr dX6_setting_28 (Nat.le_of_ble_eq_true rfl) (Nat.le_of_ble_eq_true rfl) (rR_n (by rw [hk]; decide)).symm (sv_eqW (by rw [thr_thr, rW_n (by rw [hk]; decide), hk]))
  · have hk : inC 4 f = 0 := inNk_1 (n := 3) (by decide) (fun h => q11 (e8.trans h))
    obtain ⟨g1, hg1, rfl⟩ := inC_0 (by decide) hk
    have hg1 := hg1
    refine sv_aload_n (i := 0) (x := sv_r G 19 0) C dX6_setting_14 rfl rfl ?_
    refine sv_get_6_0 C kw_722 dX6_setting_15 ?_
    refine sv_iload_n (i := 1) (x := nI g1) C dX6_setting_18 rfl rfl ?_
    refine sv_ialdN C 10 g1 rfl rfl rfl rfl (by show _ < 86; omega) dX6_setting_19 ?_
    refine sv_topi (fun v19 e19 => ?_)
    refine sv_goto C 28 dX6_setting_20 (by decide) ?_
    exact sv_iret C hr dX6_setting_28 (Nat.le_of_ble_eq_true rfl) (Nat.le_of_ble_eq_true rfl) (by rw [rR_0 hk, e19, thr_n (by decide), nI_clamp (by omega)]) (sv_eqW (by rw [rW_0 hk]))

set_option maxHeartbeats 800000 in
set_option maxRecDepth 100000 in
theorem met_R_byPassing (l : Launch) (G : sv_G) (z : Nat) (M : sv_M) (o : Int64) (t w9 : Nat) (ht : t < 2147483648) (hw9 : w9 < 4) (O : Int32) (ho : psO (M 10) t w9 O) : sv_Met l G yX6_byPassing cX6_byPassing 4 (some .int) 4 [.ref (sv_r G 19 0), .int (nI t), .int (nI w9)] (sv_W G z M o) (some (.int O)) (sv_W2 G z M o) := by
  refine sv_ofW (by decide) kw_929 (Nat.le_of_ble_eq_true rfl) ?_
  intro p e s mth args below meth c hr C _
  refine sv_sub (lv' := [(0, .ref (sv_r G 19 0)), (1, .int (nI t)), (2, .int (nI w9))]) rfl ?_
  refine sv_aload_n (i := 0) (x := sv_r G 19 0) C dX6_byPassing_0 rfl rfl ?_
  refine sv_get_6_0 C kw_722 dX6_byPassing_1 ?_
  refine sv_iconst (v := nI 0) C dX6_byPassing_4 (by decide) ?_
  refine sv_aload_n (i := 0) (x := sv_r G 19 0) C dX6_byPassing_5 rfl rfl ?_
  refine sv_get_6_1 C kw_723 dX6_byPassing_6 ?_
  refine sv_iconst (v := nI 0) C dX6_byPassing_9 (by decide) ?_
  refine sv_callS (as := [_, _, _, _]) (rest := []) C (met_R_copies_20_21 l G _ _ _ 0 0 (by omega) (by omega)) fX6_copies kw_774 ⟨Nat.le_of_ble_eq_true rfl, Nat.le_of_ble_eq_true rfl⟩ (Nat.le_of_ble_eq_true rfl) dX6_byPassing_10 ⟨Nat.zero_le _, Nat.zero_le _⟩  ?_
  refine sv_rv ?_
  obtain ⟨x0, hx0⟩ : ∃ x, x = cpB 0 0 (M 10) 86 (M 11) := ⟨_, rfl⟩
  obtain ⟨hgd, hout⟩ := ho (M 11)
  rw [← hx0] at hgd hout
  rw [← hx0]
  refine sv_iconst (v := nI 0) C dX6_byPassing_13 (by decide) ?_
  refine sv_istore_n (i := 3) C [(0, .ref (sv_r G 19 0)), (1, .int (nI t)), (2, .int (nI w9)), (3, .int (nI 0))] dX6_byPassing_14 rfl (by decide) rfl ?_
  refine sv_wd (sv_eqW (show _ = sv_u (sv_u M 15 (dkM M (rdn (M 15 6) x0 0))) 11 (rpass 0 x0) from by show _ = sv_u (sv_u M 15 (dkM M 0)) 11 x0; rw [dkM_0, sv_ui])) ?_
  refine sv_loop (N := t) (I := fun i => True) (Wf := fun i => sv_W G z (sv_u (sv_u M 15 (dkM M (rdn (M 15 6) x0 i))) 11 (rpass i x0)) o) (Lf := fun i => [(0, .ref (sv_r G 19 0)), (1, .int (nI t)), (2, .int (nI w9)), (3, .int (nI i))]) 0 (Nat.zero_le _) trivial (fun i hi0 hi hIi ihi => ?_)
  refine sv_iload_n (i := 3) (x := nI i) C dX6_byPassing_15 rfl rfl ?_
  refine sv_iload_n (i := 1) (x := nI t) C dX6_byPassing_16 rfl rfl ?_
  refine sv_icmp_geN C 34 dX6_byPassing_17 (by decide) (by omega) (by omega) (fun q17 => ?_) (fun q17 => ?_)
  · rw [show i = t from by omega]
    refine sv_iload_n (i := 2) (x := nI w9) C dX6_byPassing_34 rfl rfl ?_
    refine sv_if_ne C 58 dX6_byPassing_35 (by decide) (fun q35 => ?_) (fun q35 => ?_)
    · have hn0 : ¬ w9 = 0 := fun h => q35 (by rw [h]; rfl)
      refine sv_iload_n (i := 2) (x := nI w9) C dX6_byPassing_58 rfl rfl ?_
      refine sv_iconst (v := nI 1) C dX6_byPassing_59 (by decide) ?_
      refine sv_icmp_neN C 83 dX6_byPassing_60 (by decide) (by omega) (by omega) (fun q60 => ?_) (fun q60 => ?_)
      · refine sv_iload_n (i := 2) (x := nI w9) C dX6_byPassing_83 rfl rfl ?_
        refine sv_iconst (v := nI 2) C dX6_byPassing_84 (by decide) ?_
        refine sv_icmp_neN C 98 dX6_byPassing_85 (by decide) (by omega) (by omega) (fun q85 => ?_) (fun q85 => ?_)
        · have hw3 : w9 = 3 := by omega
          refine sv_aload_n (i := 0) (x := sv_r G 19 0) C dX6_byPassing_98 rfl rfl ?_
          refine sv_get_6_1 C kw_723 dX6_byPassing_99 ?_
          refine sv_callS (as := [_]) (rest := []) C (met_R21_lit l G _ _ _) fX6_lit kw_915 ⟨Nat.le_of_ble_eq_true rfl, Nat.le_of_ble_eq_true rfl⟩ (Nat.le_of_ble_eq_true rfl) dX6_byPassing_102 ⟨Nat.zero_le _, Nat.zero_le _⟩  ?_
          refine sv_riS (litI (rpass t x0) 8) (by rw [sv_us]) ?_
          exact sv_iret C hr dX6_byPassing_105 (Nat.le_of_ble_eq_true rfl) (Nat.le_of_ble_eq_true rfl) (by rw [← hout, show w9 = 3 from hw3]; rfl) (fun H h => sv_W2_dk H h)
        · refine sv_aload_n (i := 0) (x := sv_r G 19 0) C dX6_byPassing_88 rfl rfl ?_
          refine sv_get_6_1 C kw_723 dX6_byPassing_89 ?_
          refine sv_bipush (v := nI 57) C dX6_byPassing_92 (by decide) ?_
          refine sv_ialdN C 11 57 rfl rfl rfl rfl (by show _ < 86; omega) dX6_byPassing_94 ?_
          refine sv_set (v' := .int (rpass t x0 57)) (congrArg Value.int (by rw [sv_us])) ?_
          refine sv_goto C 105 dX6_byPassing_95 (by decide) ?_
          exact sv_iret C hr dX6_byPassing_105 (Nat.le_of_ble_eq_true rfl) (Nat.le_of_ble_eq_true rfl) (by rw [← hout, show w9 = 2 from q85]; rfl) (fun H h => sv_W2_dk H h)
      · refine sv_aload_n (i := 0) (x := sv_r G 19 0) C dX6_byPassing_63 rfl rfl ?_
        refine sv_get_6_1 C kw_723 dX6_byPassing_64 ?_
        refine sv_iconst (v := nI 4) C dX6_byPassing_67 (by decide) ?_
        refine sv_callS (as := [_, _]) (rest := []) C (met_R21_sum l G _ _ _ 4 (by omega)) fX6_sum kw_841 ⟨Nat.le_of_ble_eq_true rfl, Nat.le_of_ble_eq_true rfl⟩ (Nat.le_of_ble_eq_true rfl) dX6_byPassing_68 ⟨Nat.zero_le _, Nat.zero_le _⟩  ?_
        refine sv_riS (eng (rpass t x0)) (by rw [sv_us]; rfl) ?_
        refine sv_aload_n (i := 0) (x := sv_r G 19 0) C dX6_byPassing_71 rfl rfl ?_
        refine sv_get_6_0 C kw_722 dX6_byPassing_72 ?_
        refine sv_iconst (v := nI 4) C dX6_byPassing_75 (by decide) ?_
        refine sv_callS (as := [_, _]) (rest := [_]) C (met_R20_sum l G _ _ _ 4 (by omega)) fX6_sum kw_841 ⟨Nat.le_of_ble_eq_true rfl, Nat.le_of_ble_eq_true rfl⟩ (Nat.le_of_ble_eq_true rfl) dX6_byPassing_76 ⟨Nat.zero_le _, Nat.zero_le _⟩  ?_
        refine sv_riS (eng (M 10)) (by rw [sv_un (show 10 ≠ 11 by decide), sv_un (show 10 ≠ 15 by decide)]; rfl) ?_
        refine sv_isub C dX6_byPassing_79 ?_
        refine sv_set (v' := .int (eng (rpass t x0) - eng (M 10))) (congrArg Value.int rfl) ?_
        refine sv_goto C 105 dX6_byPassing_80 (by decide) ?_
        exact sv_iret C hr dX6_byPassing_105 (Nat.le_of_ble_eq_true rfl) (Nat.le_of_ble_eq_true rfl) (by rw [← hout, show w9 = 1 from q60]; rfl) (fun H h => sv_W2_dk H h)
    · refine sv_aload_n (i := 0) (x := sv_r G 19 0) C dX6_byPassing_38 rfl rfl ?_
      refine sv_get_6_1 C kw_723 dX6_byPassing_39 ?_
      refine sv_iconst (v := nI 2) C dX6_byPassing_42 (by decide) ?_
      refine sv_callS (as := [_, _]) (rest := []) C (met_R21_sum l G _ _ _ 2 (by omega)) fX6_sum kw_841 ⟨Nat.le_of_ble_eq_true rfl, Nat.le_of_ble_eq_true rfl⟩ (Nat.le_of_ble_eq_true rfl) dX6_byPassing_43 ⟨Nat.zero_le _, Nat.zero_le _⟩  ?_
      refine sv_riS (dks (rpass t x0)) (by rw [sv_us]; rfl) ?_
      refine sv_aload_n (i := 0) (x := sv_r G 19 0) C dX6_byPassing_46 rfl rfl ?_
      refine sv_get_6_0 C kw_722 dX6_byPassing_47 ?_
      refine sv_iconst (v := nI 2) C dX6_byPassing_50 (by decide) ?_
      refine sv_callS (as := [_, _]) (rest := [_]) C (met_R20_sum l G _ _ _ 2 (by omega)) fX6_sum kw_841 ⟨Nat.le_of_ble_eq_true rfl, Nat.le_of_ble_eq_true rfl⟩ (Nat.le_of_ble_eq_true rfl) dX6_byPassing_51 ⟨Nat.zero_le _, Nat.zero_le _⟩  ?_
      refine sv_riS (dks (M 10)) (by rw [sv_un (show 10 ≠ 11 by decide), sv_un (show 10 ≠ 15 by decide)]; rfl) ?_
      refine sv_isub C dX6_byPassing_54 ?_
      refine sv_set (v' := .int (dks (rpass t x0) - dks (M 10))) (congrArg Value.int rfl) ?_
      refine sv_goto C 105 dX6_byPassing_55 (by decide) ?_
      exact sv_iret C hr dX6_byPassing_105 (Nat.le_of_ble_eq_true rfl) (Nat.le_of_ble_eq_true rfl) (by rw [← hout, show w9 = 0 from nI_eq0 (by omega) q35]; rfl) (fun H h => sv_W2_dk H h)
  · refine sv_aload_n (i := 0) (x := sv_r G 19 0) C dX6_byPassing_20 rfl rfl ?_
    refine sv_aload_n (i := 0) (x := sv_r G 19 0) C dX6_byPassing_21 rfl rfl ?_
    refine sv_get_6_1 C kw_723 dX6_byPassing_22 ?_
    refine sv_callV (as := [_]) (rest := []) C (met_R21_second l G _ _ _ (by rw [sv_us]; exact hgd i (by omega))) fX6_second kw_844 (sv_recv19 C) ⟨Nat.le_of_ble_eq_true rfl, Nat.le_of_ble_eq_true rfl⟩ (Nat.le_of_ble_eq_true rfl) dX6_byPassing_25 ⟨Nat.zero_le _, Nat.zero_le _⟩  ?_
    refine sv_rv ?_
    refine sv_iinc (i := 3) (x := nI i) C (nI (i + 1)) [(0, .ref (sv_r G 19 0)), (1, .int (nI t)), (2, .int (nI w9)), (3, .int (nI (i + 1)))] dX6_byPassing_28 rfl (sv_incN i 1) (by decide) rfl ?_
    refine sv_goto C 15 dX6_byPassing_31 (by decide) ?_
    refine sv_wd (sv_eqW ?_) (ihi (by omega) trivial)
    rw [sec_step (W := M) (by decide) (by decide) rfl]
    rfl

set_option maxHeartbeats 800000 in
set_option maxRecDepth 100000 in
theorem met_R_ifPassed (l : Launch) (G : sv_G) (z : Nat) (M : sv_M) (o : Int64) (f v : Int32) (O : Int32) (ho : ifpC f v = 0 → psO (M 10) f.toNatClampNeg v.toNatClampNeg O) : sv_Met l G yX6_ifPassed cX6_ifPassed 3 (some .int) 5 [.ref (sv_r G 19 0), .int f, .int v] (sv_W G z M o) (some (.int (rR (ifpC f v) (O)))) (sv_W2 G z (thr (nI (ifpC f v)) M) o) := by
  refine sv_ofW (by decide) kw_925 (Nat.le_of_ble_eq_true rfl) ?_
  intro p e s mth args below meth c hr C _
  refine sv_sub (lv' := [(0, .ref (sv_r G 19 0)), (1, .int f), (2, .int v)]) rfl ?_
  refine sv_aload_n (i := 0) (x := sv_r G 19 0) C dX6_ifPassed_0 rfl rfl ?_
  refine sv_iconst (v := nI 0) C dX6_ifPassed_1 (by decide) ?_
  refine sv_put_6_6 C kw_728 dX6_ifPassed_2 ?_
  refine sv_wd (sv_eqW (show _ = thr 0 M from thr_w)) ?_
  refine sv_iload_n (i := 1) (x := f) C dX6_ifPassed_5 rfl rfl ?_
  refine sv_iconst (v := nI 1) C dX6_ifPassed_6 (by decide) ?_
  refine sv_sipush (v := nI 300) C dX6_ifPassed_7 (by decide) ?_
  refine sv_callS (as := [_, _, _]) (rest := []) C (met_R_in l G _ f (nI 1) (nI 300)) fX6_in kw_787 ⟨Nat.le_of_ble_eq_true rfl, Nat.le_of_ble_eq_true rfl⟩ (Nat.le_of_ble_eq_true rfl) dX6_ifPassed_10 ⟨Nat.zero_le _, Nat.zero_le _⟩  ?_
  refine sv_ri (fun v10 e10 => ?_)
  refine sv_if_eq C 34 dX6_ifPassed_13 (by decide) (fun q13 => ?_) (fun q13 => ?_)
  · have hk : ifpC f v = 1 := if_pos (inS_0 (e10.symm.trans q13))
    refine sv_aload_n (i := 0) (x := sv_r G 19 0) C dX6_ifPassed_34 rfl rfl ?_
    refine sv_iconst (v := nI 1) C dX6_ifPassed_35 (by decide) ?_
    refine sv_callV (as := [_]) (rest := []) C (met_R_fails l G _ _ _ (nI 1)) fX6_fails kw_770 (sv_recv19 C) ⟨Nat.le_of_ble_eq_true rfl, Nat.le_of_ble_eq_true rfl⟩ (Nat.le_of_ble_eq_true rfl) dX6_ifPassed_36 ⟨Nat.zero_le _, Nat.zero_le _⟩  ?_
    refine sv_riS 0 rfl ?_
    exact sv_iret C hr dX6_ifPassed_39 (Nat.le_of_ble_eq_true rfl) (Nat.le_of_ble_eq_true rfl) (rR_n (by rw [hk]; decide)).symm (fun H h => sv_W2_id H (sv_eqW (by rw [thr_thr, hk]) H h))
  · have hk1 : secC f = 0 := inS_1 (fun h => q13 (e10.trans h))
    refine sv_iload_n (i := 2) (x := v) C dX6_ifPassed_16 rfl rfl ?_
    refine sv_iconst (v := nI 0) C dX6_ifPassed_17 (by decide) ?_
    refine sv_iconst (v := nI 3) C dX6_ifPassed_18 (by decide) ?_
    refine sv_callS (as := [_, _, _]) (rest := []) C (met_R_in l G _ v (nI 0) (nI 3)) fX6_in kw_787 ⟨Nat.le_of_ble_eq_true rfl, Nat.le_of_ble_eq_true rfl⟩ (Nat.le_of_ble_eq_true rfl) dX6_ifPassed_19 ⟨Nat.zero_le _, Nat.zero_le _⟩  ?_
    refine sv_ri (fun v19 e19 => ?_)
    refine sv_if_eq C 34 dX6_ifPassed_22 (by decide) (fun q22 => ?_) (fun q22 => ?_)
    · have hk : ifpC f v = 1 := (if_neg (fun h => absurd (h.symm.trans hk1) (by decide))).trans (inNk_0 (n := 3) (by decide) (e19.symm.trans q22))
      refine sv_aload_n (i := 0) (x := sv_r G 19 0) C dX6_ifPassed_34 rfl rfl ?_
      refine sv_iconst (v := nI 1) C dX6_ifPassed_35 (by decide) ?_
      refine sv_callV (as := [_]) (rest := []) C (met_R_fails l G _ _ _ (nI 1)) fX6_fails kw_770 (sv_recv19 C) ⟨Nat.le_of_ble_eq_true rfl, Nat.le_of_ble_eq_true rfl⟩ (Nat.le_of_ble_eq_true rfl) dX6_ifPassed_36 ⟨Nat.zero_le _, Nat.zero_le _⟩  ?_
      refine sv_riS 0 rfl ?_
      exact sv_iret C hr dX6_ifPassed_39 (Nat.le_of_ble_eq_true rfl) (Nat.le_of_ble_eq_true rfl) (rR_n (by rw [hk]; decide)).symm (fun H h => sv_W2_id H (sv_eqW (by rw [thr_thr, hk]) H h))
    · have hk2 : inC 4 v = 0 := inNk_1 (n := 3) (by decide) (fun h => q22 (e19.trans h))
      have hk : ifpC f v = 0 := (if_neg (fun h => absurd (h.symm.trans hk1) (by decide))).trans hk2
      have ho9 := ho hk
      obtain ⟨g2, hg2, rfl⟩ := inC_0 (by decide) hk2
      obtain ⟨n1, hn1, hn2, rfl⟩ := secC_0 hk1
      rw [nI_clamp (by omega), nI_clamp (by omega)] at ho9
      have hg2 := hg2
      refine sv_aload_n (i := 0) (x := sv_r G 19 0) C dX6_ifPassed_25 rfl rfl ?_
      refine sv_iload_n (i := 1) (x := nI n1) C dX6_ifPassed_26 rfl rfl ?_
      refine sv_iload_n (i := 2) (x := nI g2) C dX6_ifPassed_27 rfl rfl ?_
      refine sv_callV (as := [_, _]) (rest := []) C (met_R_byPassing l G _ _ _ n1 g2 (by omega) (by omega) _ (by rw [thr_n (by decide)]; exact ho9)) fX6_byPassing kw_926 (sv_recv19 C) ⟨Nat.le_of_ble_eq_true rfl, Nat.le_of_ble_eq_true rfl⟩ (Nat.le_of_ble_eq_true rfl) dX6_ifPassed_28 ⟨Nat.zero_le _, Nat.zero_le _⟩  ?_
      refine sv_ri (fun v28 e28 => ?_)
      refine sv_goto C 39 dX6_ifPassed_31 (by decide) ?_
      exact sv_iret C hr dX6_ifPassed_39 (Nat.le_of_ble_eq_true rfl) (Nat.le_of_ble_eq_true rfl) (by rw [rR_0 hk, e28]) (fun H h => by rw [hk]; exact h)

set_option maxHeartbeats 800000 in
set_option maxRecDepth 100000 in
theorem met_R_isThere (l : Launch) (G : sv_G) (z : Nat) (M : sv_M) (o : Int64) (v : Int32) (m : Nat) (hm : M 11 57 = nI m) (hm7 : m ≤ 7) : sv_Met l G yX6_isThere cX6_isThere 4 (some .boolean) 1 [.ref (sv_r G 21 0), .int v] (sv_W G z M o) (some (.int (itF (M 11) v m))) (sv_W G z M o) := by
  refine sv_ofW (by decide) kw_940 (Nat.le_of_ble_eq_true rfl) ?_
  intro p e s mth args below meth c hr C _
  refine sv_sub (lv' := [(0, .ref (sv_r G 21 0)), (1, .int v)]) rfl ?_
  refine sv_iconst (v := nI 0) C dX6_isThere_0 (by decide) ?_
  refine sv_istore_n (i := 2) C [(0, .ref (sv_r G 21 0)), (1, .int v), (2, .int (nI 0))] dX6_isThere_1 rfl (by decide) rfl ?_
  refine sv_iconst (v := nI 0) C dX6_isThere_2 (by decide) ?_
  refine sv_istore_n (i := 3) C [(0, .ref (sv_r G 21 0)), (1, .int v), (2, .int (nI 0)), (3, .int (nI 0))] dX6_isThere_3 rfl (by decide) rfl ?_
  refine sv_loop (N := m) (I := fun i => True) (Wf := fun i => sv_W G z M o) (Lf := fun i => [(0, .ref (sv_r G 21 0)), (1, .int v), (2, .int (itF (M 11) v i)), (3, .int (nI i))]) 0 (Nat.zero_le _) trivial (fun i hi0 hi hIi ihi => ?_)
  refine sv_iload_n (i := 3) (x := nI i) C dX6_isThere_4 rfl rfl ?_
  refine sv_aload_n (i := 0) (x := sv_r G 21 0) C dX6_isThere_5 rfl rfl ?_
  refine sv_bipush (v := nI 57) C dX6_isThere_6 (by decide) ?_
  refine sv_ialdN C 11 57 rfl rfl rfl rfl (by show _ < 86; omega) dX6_isThere_8 ?_
  refine sv_set (v' := .int (nI m)) (congrArg Value.int hm) ?_
  refine sv_icmp_geN C 38 dX6_isThere_9 (by decide) (by omega) (by omega) (fun q9 => ?_) (fun q9 => ?_)
  · refine sv_iload_n (i := 2) (x := itF (M 11) v i) C dX6_isThere_38 rfl rfl ?_
    exact sv_zret C (itF_b _ _ _) hr dX6_isThere_39 (Nat.le_of_ble_eq_true rfl) (Nat.le_of_ble_eq_true rfl) (by rw [show i = m from by omega]) (fun _ h => h)
  · refine sv_iload_n (i := 2) (x := itF (M 11) v i) C dX6_isThere_12 rfl rfl ?_
    refine sv_if_ne C 26 dX6_isThere_13 (by decide) (fun q13 => ?_) (fun q13 => ?_)
    · have q13 : ¬ itF (M 11) v i = 0 := q13
      refine sv_iconst (v := nI 1) C dX6_isThere_26 (by decide) ?_
      refine sv_goto C 31 dX6_isThere_27 (by decide) ?_
      refine sv_istore_n (i := 2) C [(0, .ref (sv_r G 21 0)), (1, .int v), (2, .int (nI 1)), (3, .int (nI i))] dX6_isThere_31 rfl (by decide) rfl ?_
      refine sv_iinc (i := 3) (x := nI i) C (nI (i + 1)) [(0, .ref (sv_r G 21 0)), (1, .int v), (2, .int (nI 1)), (3, .int (nI (i + 1)))] dX6_isThere_32 rfl (sv_incN i 1) (by decide) rfl ?_
      refine sv_goto C 4 dX6_isThere_35 (by decide) ?_
      rw [show nI 1 = itF (M 11) v (i + 1) from by show _ = (if itF (M 11) v i = 0 then (if M 11 (4 * i + 58) = v then 1 else 0) else 1); rw [if_neg q13]; rfl]
      exact ihi (by omega) trivial
    · have q13 : itF (M 11) v i = 0 := q13
      refine sv_aload_n (i := 0) (x := sv_r G 21 0) C dX6_isThere_16 rfl rfl ?_
      refine sv_iload_n (i := 3) (x := nI i) C dX6_isThere_17 rfl rfl ?_
      refine sv_iconst (v := nI 0) C dX6_isThere_18 (by decide) ?_
      refine sv_callS (as := [_, _, _]) (rest := []) C (met_R21_by l G _ _ _ i 0 (by omega) (by omega)) fX6_by kw_801 ⟨Nat.le_of_ble_eq_true rfl, Nat.le_of_ble_eq_true rfl⟩ (Nat.le_of_ble_eq_true rfl) dX6_isThere_19 ⟨Nat.zero_le _, Nat.zero_le _⟩  ?_
      refine sv_riS (M 11 (4 * i + 58)) rfl ?_
      refine sv_iload_n (i := 1) (x := v) C dX6_isThere_22 rfl rfl ?_
      refine sv_icmp_ne C 30 dX6_isThere_23 (by decide) (fun q23 => ?_) (fun q23 => ?_)
      · have q23 : ¬ M 11 (4 * i + 58) = v := q23
        refine sv_iconst (v := nI 0) C dX6_isThere_30 (by decide) ?_
        refine sv_istore_n (i := 2) C [(0, .ref (sv_r G 21 0)), (1, .int v), (2, .int (nI 0)), (3, .int (nI i))] dX6_isThere_31 rfl (by decide) rfl ?_
        refine sv_iinc (i := 3) (x := nI i) C (nI (i + 1)) [(0, .ref (sv_r G 21 0)), (1, .int v), (2, .int (nI 0)), (3, .int (nI (i + 1)))] dX6_isThere_32 rfl (sv_incN i 1) (by decide) rfl ?_
        refine sv_goto C 4 dX6_isThere_35 (by decide) ?_
        rw [show nI 0 = itF (M 11) v (i + 1) from by show _ = (if itF (M 11) v i = 0 then (if M 11 (4 * i + 58) = v then 1 else 0) else 1); rw [if_pos q13, if_neg q23]; rfl]
        exact ihi (by omega) trivial
      · have q23 : M 11 (4 * i + 58) = v := q23
        refine sv_iconst (v := nI 1) C dX6_isThere_26 (by decide) ?_
        refine sv_goto C 31 dX6_isThere_27 (by decide) ?_
        refine sv_istore_n (i := 2) C [(0, .ref (sv_r G 21 0)), (1, .int v), (2, .int (nI 1)), (3, .int (nI i))] dX6_isThere_31 rfl (by decide) rfl ?_
        refine sv_iinc (i := 3) (x := nI i) C (nI (i + 1)) [(0, .ref (sv_r G 21 0)), (1, .int v), (2, .int (nI 1)), (3, .int (nI (i + 1)))] dX6_isThere_32 rfl (sv_incN i 1) (by decide) rfl ?_
        refine sv_goto C 4 dX6_isThere_35 (by decide) ?_
        rw [show nI 1 = itF (M 11) v (i + 1) from by show _ = (if itF (M 11) v i = 0 then (if M 11 (4 * i + 58) = v then 1 else 0) else 1); rw [if_pos q13, if_pos q23]; rfl]
        exact ihi (by omega) trivial

set_option maxHeartbeats 800000 in
set_option maxRecDepth 100000 in
theorem met_R_walked (l : Launch) (G : sv_G) (z : Nat) (M : sv_M) (o : Int64) (f t T D : Int32) (hne : ¬ f = t) (m : Nat) (hm : M 10 57 = nI m) (hm7 : m ≤ 6) (hw : wkD (M 10) m f t T D) : sv_Met l G yX6_walked cX6_walked 4 (some .int) 4 [.ref (sv_r G 19 0), .int f, .int t, .int T] (sv_W G z M o) (some (.int D)) (sv_W2 G z M o) := by
  refine sv_ofW (by decide) kw_937 (Nat.le_of_ble_eq_true rfl) ?_
  intro p e s mth args below meth c hr C _
  obtain ⟨N9, hw⟩ := hw
  obtain ⟨hwk, hwD⟩ := hw (M 11)
  obtain ⟨x1, hx1⟩ : ∃ x, x = wxy (M 10) (M 11) m f t T := ⟨_, rfl⟩
  rw [← hx1] at hwk hwD
  have h156 : sv_u M 15 (upd (upd (M 15) 6 (M 10 5)) 7 0) 15 6 = M 10 5 := by rw [sv_us, upd_n (by decide), upd_s]
  refine sv_sub (lv' := [(0, .ref (sv_r G 19 0)), (1, .int f), (2, .int t), (3, .int T)]) rfl ?_
  refine sv_aload_n (i := 0) (x := sv_r G 19 0) C dX6_walked_0 rfl rfl ?_
  refine sv_get_6_0 C kw_722 dX6_walked_1 ?_
  refine sv_iconst (v := nI 0) C dX6_walked_4 (by decide) ?_
  refine sv_aload_n (i := 0) (x := sv_r G 19 0) C dX6_walked_5 rfl rfl ?_
  refine sv_get_6_1 C kw_723 dX6_walked_6 ?_
  refine sv_iconst (v := nI 0) C dX6_walked_9 (by decide) ?_
  refine sv_callS (as := [_, _, _, _]) (rest := []) C (met_R_copies_20_21 l G _ _ _ 0 0 (by omega) (by omega)) fX6_copies kw_774 ⟨Nat.le_of_ble_eq_true rfl, Nat.le_of_ble_eq_true rfl⟩ (Nat.le_of_ble_eq_true rfl) dX6_walked_10 ⟨Nat.zero_le _, Nat.zero_le _⟩  ?_
  refine sv_rv ?_
  refine sv_aload_n (i := 0) (x := sv_r G 19 0) C dX6_walked_13 rfl rfl ?_
  refine sv_get_6_1 C kw_723 dX6_walked_14 ?_
  refine sv_iconst (v := nI 0) C dX6_walked_17 (by decide) ?_
  refine sv_iload_n (i := 3) (x := T) C dX6_walked_18 rfl rfl ?_
  refine sv_iastN C 11 0 rfl rfl rfl rfl (by show _ < 86; omega) dX6_walked_19 ?_
  refine sv_aload_n (i := 0) (x := sv_r G 19 0) C dX6_walked_20 rfl rfl ?_
  refine sv_aload_n (i := 0) (x := sv_r G 19 0) C dX6_walked_21 rfl rfl ?_
  refine sv_get_6_1 C kw_723 dX6_walked_22 ?_
  refine sv_iload_n (i := 1) (x := f) C dX6_walked_25 rfl rfl ?_
  refine sv_iload_n (i := 2) (x := t) C dX6_walked_26 rfl rfl ?_
  refine sv_callS (as := [_, _, _]) (rest := [_]) C (met_R21_comes l G _ _ _ f t hne m (by simp only [sv_wu, sv_us, sv_uu]; rw [upd_n (by decide), cpB_0 (by decide)]; exact hm) (by omega)) fX6_comes kw_794 ⟨Nat.le_of_ble_eq_true rfl, Nat.le_of_ble_eq_true rfl⟩ (Nat.le_of_ble_eq_true rfl) dX6_walked_27 ⟨Nat.zero_le _, Nat.zero_le _⟩  ?_
  refine sv_riS (M 10 5) (by simp only [sv_wu, sv_us, sv_uu]; rw [upd_n (by decide), cpB_0 (by decide)]) ?_
  refine sv_wd (sv_eqW (show _ = sv_u M 11 x1 from by rw [hx1]; unfold wxy; simp only [sv_wu, sv_us, sv_uu]; rw [upd_n (show 3 ≠ 0 by decide), cpB_0 (by decide)])) ?_
  refine sv_put_6_11 C kw_733 dX6_walked_30 ?_
  refine sv_aload_n (i := 0) (x := sv_r G 19 0) C dX6_walked_33 rfl rfl ?_
  refine sv_iconst (v := nI 0) C dX6_walked_34 (by decide) ?_
  refine sv_put_6_12 C kw_734 dX6_walked_35 ?_
  refine sv_wd (sv_eqW (show _ = sv_u (sv_u (sv_u M 15 (upd (upd (M 15) 6 (M 10 5)) 7 0)) 15 (dkM (sv_u M 15 (upd (upd (M 15) 6 (M 10 5)) 7 0)) (rdn (M 10 5) x1 0))) 11 (rpass 0 x1) from by show _ = sv_u (sv_u (sv_u M 15 (upd (upd (M 15) 6 (M 10 5)) 7 0)) 15 (dkM (sv_u M 15 (upd (upd (M 15) 6 (M 10 5)) 7 0)) 0)) 11 x1; rw [dkM_0, sv_ui]; simp only [sv_wu, sv_un (show (15 : Nat) ≠ 11 by decide), sv_us]; rw [sv_uc (show 11 ≠ 15 by decide), sv_uc (show 11 ≠ 15 by decide), sv_uu]; rfl)) ?_
  refine sv_loop (N := N9) (I := fun i => True) (Wf := fun i => sv_W G z (sv_u (sv_u (sv_u M 15 (upd (upd (M 15) 6 (M 10 5)) 7 0)) 15 (dkM (sv_u M 15 (upd (upd (M 15) 6 (M 10 5)) 7 0)) (rdn (M 10 5) x1 i))) 11 (rpass i x1)) o) (Lf := fun i => [(0, .ref (sv_r G 19 0)), (1, .int f), (2, .int t), (3, .int T)]) 0 (Nat.zero_le _) trivial (fun i hi0 hi hIi ihi => ?_)
  refine sv_aload_n (i := 0) (x := sv_r G 19 0) C dX6_walked_38 rfl rfl ?_
  refine sv_get_6_1 C kw_723 dX6_walked_39 ?_
  refine sv_aload_n (i := 0) (x := sv_r G 19 0) C dX6_walked_42 rfl rfl ?_
  refine sv_get_6_11 C kw_733 dX6_walked_43 ?_
  refine sv_set (v' := .int (M 10 5)) (congrArg Value.int (by rw [sv_un (show 15 ≠ 11 by decide), sv_us]; exact (upd_n (by decide)).trans h156)) ?_
  have hgi := (hwk.1 i hi)
  refine sv_callS (as := [_, _]) (rest := []) C (met_R_isThere l G _ _ _ (M 10 5) (many (rpass i x1)) (by rw [sv_us]; exact hgi.1) hgi.2.1) fX6_isThere kw_938 ⟨Nat.le_of_ble_eq_true rfl, Nat.le_of_ble_eq_true rfl⟩ (Nat.le_of_ble_eq_true rfl) dX6_walked_46 ⟨Nat.zero_le _, Nat.zero_le _⟩  ?_
  refine sv_riS (itF (rpass i x1) (M 10 5) (many (rpass i x1))) (by rw [sv_us]) ?_
  refine sv_if_eq C 63 dX6_walked_49 (by decide) (fun q49 => ?_) (fun q49 => ?_)
  · have hie : i = N9 := by
      rcases Nat.lt_or_ge i N9 with h | h
      · exact absurd q49 (hwk.2.1 i h)
      · omega
    refine sv_aload_n (i := 0) (x := sv_r G 19 0) C dX6_walked_63 rfl rfl ?_
    refine sv_get_6_12 C kw_734 dX6_walked_64 ?_
    refine sv_topi (fun v64 e64 => ?_)
    exact sv_iret C hr dX6_walked_67 (Nat.le_of_ble_eq_true rfl) (Nat.le_of_ble_eq_true rfl) (by rw [e64, sv_un (show 15 ≠ 11 by decide), sv_us, hie, ← hwD]; show upd ((sv_u M 15 (upd (upd (M 15) 6 (M 10 5)) 7 0)) 15) 7 ((sv_u M 15 (upd (upd (M 15) 6 (M 10 5)) 7 0)) 15 7 + rdn (M 10 5) x1 N9) 7 = _; rw [upd_s, sv_us, upd_s, Int32.zero_add]) (fun H h => sv_W2_of (y := rpass i x1) (a := M 10 5) (b := 0 + rdn (M 10 5) x1 i) H (sv_eqW (by unfold dkM; rw [sv_uu, sv_us, upd_s, upd_u]) H h))
  · have hin : i < N9 := by
      rcases Nat.lt_or_ge i N9 with h | h
      · exact h
      · have h9 : i = N9 := by omega
        rw [h9] at q49
        exact absurd hwk.2.2 q49
    refine sv_aload_n (i := 0) (x := sv_r G 19 0) C dX6_walked_52 rfl rfl ?_
    refine sv_aload_n (i := 0) (x := sv_r G 19 0) C dX6_walked_53 rfl rfl ?_
    refine sv_get_6_1 C kw_723 dX6_walked_54 ?_
    refine sv_callV (as := [_]) (rest := []) C (met_R21_second l G _ _ _ (by rw [sv_us]; exact hgi)) fX6_second kw_844 (sv_recv19 C) ⟨Nat.le_of_ble_eq_true rfl, Nat.le_of_ble_eq_true rfl⟩ (Nat.le_of_ble_eq_true rfl) dX6_walked_57 ⟨Nat.zero_le _, Nat.zero_le _⟩  ?_
    refine sv_rv ?_
    refine sv_goto C 38 dX6_walked_60 (by decide) ?_
    refine sv_wd (sv_eqW ?_) (ihi hin trivial)
    rw [sec_step (W := sv_u M 15 (upd (upd (M 15) 6 (M 10 5)) 7 0)) (by decide) (by decide) rfl, h156]
    rfl

set_option maxHeartbeats 800000 in
set_option maxRecDepth 100000 in
theorem met_R_dark (l : Launch) (G : sv_G) (z : Nat) (M : sv_M) (o : Int64) (f t D : Int32) (m : Nat) (hm : M 10 57 = nI m) (hm7 : m ≤ 6) (hw : wayC f t = 0 → wkD (M 10) m f t (M 10 0) D) : sv_Met l G yX6_dark cX6_dark 3 (some .int) 5 [.ref (sv_r G 19 0), .int f, .int t] (sv_W G z M o) (some (.int (rR (wayC f t) (D)))) (sv_W2 G z (thr (nI (wayC f t)) M) o) := by
  refine sv_ofW (by decide) kw_933 (Nat.le_of_ble_eq_true rfl) ?_
  intro p e s mth args below meth c hr C _
  refine sv_sub (lv' := [(0, .ref (sv_r G 19 0)), (1, .int f), (2, .int t)]) rfl ?_
  refine sv_aload_n (i := 0) (x := sv_r G 19 0) C dX6_dark_0 rfl rfl ?_
  refine sv_iload_n (i := 1) (x := f) C dX6_dark_1 rfl rfl ?_
  refine sv_iload_n (i := 2) (x := t) C dX6_dark_2 rfl rfl ?_
  refine sv_callS (as := [_, _]) (rest := [_]) C (met_R_mayWalk l G _ f t) fX6_mayWalk kw_781 ⟨Nat.le_of_ble_eq_true rfl, Nat.le_of_ble_eq_true rfl⟩ (Nat.le_of_ble_eq_true rfl) dX6_dark_3 ⟨Nat.zero_le _, Nat.zero_le _⟩  ?_
  refine sv_riN (wayC f t) rfl ?_
  refine sv_put_6_6 C kw_728 dX6_dark_6 ?_
  refine sv_wd (sv_eqW thr_w) ?_
  refine sv_aload_n (i := 0) (x := sv_r G 19 0) C dX6_dark_9 rfl rfl ?_
  refine sv_get_6_6 C kw_728 dX6_dark_10 ?_
  refine sv_set (v' := .int (nI (wayC f t))) (congrArg Value.int thr_2) ?_
  refine sv_if_ne C 31 dX6_dark_13 (by decide) (fun q13 => ?_) (fun q13 => ?_)
  · have hk0 : ¬ wayC f t = 0 := fun h => q13 (by rw [h]; rfl)
    refine sv_iconst (v := nI 0) C dX6_dark_31 (by decide) ?_
    exact sv_iret C hr dX6_dark_32 (Nat.le_of_ble_eq_true rfl) (Nat.le_of_ble_eq_true rfl) (rR_n hk0).symm (fun H h => sv_W2_id H h)
  · have hk0 : wayC f t = 0 := nI_eq0 (Nat.lt_of_le_of_lt (wayC_le f t) (by decide)) q13
    refine sv_aload_n (i := 0) (x := sv_r G 19 0) C dX6_dark_16 rfl rfl ?_
    refine sv_iload_n (i := 1) (x := f) C dX6_dark_17 rfl rfl ?_
    refine sv_iload_n (i := 2) (x := t) C dX6_dark_18 rfl rfl ?_
    refine sv_aload_n (i := 0) (x := sv_r G 19 0) C dX6_dark_19 rfl rfl ?_
    refine sv_get_6_0 C kw_722 dX6_dark_20 ?_
    refine sv_iconst (v := nI 0) C dX6_dark_23 (by decide) ?_
    refine sv_ialdN C 10 0 rfl rfl rfl rfl (by show _ < 86; omega) dX6_dark_24 ?_
    refine sv_set (v' := .int (M 10 0)) (congrArg Value.int (by rw [thr_n (by decide)])) ?_
    refine sv_callV (as := [_, _, _]) (rest := []) C (met_R_walked l G _ _ _ f t (M 10 0) _ (wayC_ne hk0) m (by rw [thr_n (by decide)]; exact hm) hm7 (by rw [thr_n (by decide)]; exact hw hk0)) fX6_walked kw_934 (sv_recv19 C) ⟨Nat.le_of_ble_eq_true rfl, Nat.le_of_ble_eq_true rfl⟩ (Nat.le_of_ble_eq_true rfl) dX6_dark_25 ⟨Nat.zero_le _, Nat.zero_le _⟩  ?_
    refine sv_ri (fun v25 e25 => ?_)
    refine sv_goto C 32 dX6_dark_28 (by decide) ?_
    exact sv_iret C hr dX6_dark_32 (Nat.le_of_ble_eq_true rfl) (Nat.le_of_ble_eq_true rfl) (by rw [rR_0 hk0, e25]) (fun H h => h)

theorem lsN_1 (D : Nat → Int32) (n : Nat) : (lsN D n).1 < 2147483648 ∨ n + 2 ≥ 2147483648 := by
  rcases Nat.lt_or_ge (n + 2) 2147483648 with h | h
  · refine Or.inl ?_
    have key : ∀ k, k ≤ n → (lsN D k).1 ≤ k + 1 := by
      intro k
      induction k with
      | zero => intro _; exact Nat.le_refl _
      | succ k ih =>
        intro hk
        have h9 := ih (by omega)
        show (if 0 < (lsN D k).2 then (if D (k + 2) < (lsN D k).2 then (k + 2, D (k + 2)) else lsN D k) else lsN D k).1 ≤ k + 2
        split
        · split
          · exact Nat.le_refl _
          · omega
        · omega
    have := key n (Nat.le_refl _)
    omega
  · exact Or.inr h
set_option maxHeartbeats 800000 in
set_option maxRecDepth 100000 in
theorem met_R_least (l : Launch) (G : sv_G) (z : Nat) (M : sv_M) (o : Int64) (f t : Int32) (hne : ¬ f = t) (m : Nat) (hm : M 10 57 = nI m) (hm7 : m ≤ 6) (D9 : Nat → Int32) (hw : ∀ T, 1 ≤ T → T ≤ 200 → wkD (M 10) m f t (nI T) (D9 T)) : sv_Met l G yX6_least cX6_least 7 (some .int) 5 [.ref (sv_r G 19 0), .int f, .int t] (sv_W G z M o) (some (.int (nI (lsN D9 199).1))) (sv_W2 G z M o) := by
  refine sv_ofW (by decide) kw_948 (Nat.le_of_ble_eq_true rfl) ?_
  intro p e s mth args below meth c hr C _
  refine sv_sub (lv' := [(0, .ref (sv_r G 19 0)), (1, .int f), (2, .int t)]) rfl ?_
  refine sv_iconst (v := nI 1) C dX6_least_0 (by decide) ?_
  refine sv_istore_n (i := 3) C [(0, .ref (sv_r G 19 0)), (1, .int f), (2, .int t), (3, .int (nI 1))] dX6_least_1 rfl (by decide) rfl ?_
  refine sv_aload_n (i := 0) (x := sv_r G 19 0) C dX6_least_2 rfl rfl ?_
  refine sv_iload_n (i := 1) (x := f) C dX6_least_3 rfl rfl ?_
  refine sv_iload_n (i := 2) (x := t) C dX6_least_4 rfl rfl ?_
  refine sv_iconst (v := nI 1) C dX6_least_5 (by decide) ?_
  refine sv_callV (as := [_, _, _]) (rest := []) C (met_R_walked l G _ _ _ f t (nI 1) _ hne m hm hm7 (hw 1 (by decide) (by decide))) fX6_walked kw_934 (sv_recv19 C) ⟨Nat.le_of_ble_eq_true rfl, Nat.le_of_ble_eq_true rfl⟩ (Nat.le_of_ble_eq_true rfl) dX6_least_6 ⟨Nat.zero_le _, Nat.zero_le _⟩  ?_
  refine sv_riS (D9 1) rfl ?_
  refine sv_istore (i := 4) C [(0, .ref (sv_r G 19 0)), (1, .int f), (2, .int t), (3, .int (nI 1)), (4, .int (D9 1))] dX6_least_9 (by decide) rfl ?_
  refine sv_iconst (v := nI 2) C dX6_least_11 (by decide) ?_
  refine sv_istore (i := 5) C [(0, .ref (sv_r G 19 0)), (1, .int f), (2, .int t), (3, .int (nI 1)), (4, .int (D9 1)), (5, .int (nI 2))] dX6_least_12 (by decide) rfl ?_
  refine sv_loop (N := 199) (I := fun i => True) (Wf := fun i => sv_W2 G z M o) (Lf := fun i => [(0, .ref (sv_r G 19 0)), (1, .int f), (2, .int t), (3, .int (nI ((lsN D9 i).1))), (4, .int ((lsN D9 i).2)), (5, .int (nI (i + 2)))]) 0 (Nat.zero_le _) trivial (fun i hi0 hi hIi ihi => ?_)
  have hend := lsN_end D9 i
  have hst : lsN D9 (i + 1) = if 0 < (lsN D9 i).2 then (if D9 (i + 2) < (lsN D9 i).2 then (i + 2, D9 (i + 2)) else lsN D9 i) else lsN D9 i := rfl
  generalize hbs : lsN D9 i = bs at hend hst ⊢
  obtain ⟨fd, le⟩ := bs
  dsimp only at hend hst
  show sv_V _ _ _ _ _ _ _ _ _ _ _ _ _ _ _ _ _ [(0, .ref (sv_r G 19 0)), (1, .int f), (2, .int t), (3, .int (nI fd)), (4, .int le), (5, .int (nI (i + 2)))] _
  refine sv_iload (i := 5) (x := nI (i + 2)) C dX6_least_14 rfl ?_
  refine sv_sipush (v := nI 200) C dX6_least_16 (by decide) ?_
  refine sv_icmp_gtN C 73 dX6_least_19 (by decide) (by omega) (by omega) (fun q19 => ?_) (fun q19 => ?_)
  · refine sv_iload_n (i := 3) (x := nI fd) C dX6_least_73 rfl rfl ?_
    exact sv_iret C hr dX6_least_74 (Nat.le_of_ble_eq_true rfl) (Nat.le_of_ble_eq_true rfl) (by show nI fd = nI (lsN D9 199).1; have h8 := hbs; rw [show i = 199 from by omega] at h8; rw [h8]) (fun _ h => h)
  · refine sv_iload (i := 4) (x := le) C dX6_least_22 rfl ?_
    refine sv_if_le C 73 dX6_least_24 (by decide) (fun q24 => ?_) (fun q24 => ?_)
    · refine sv_iload_n (i := 3) (x := nI fd) C dX6_least_73 rfl rfl ?_
      exact sv_iret C hr dX6_least_74 (Nat.le_of_ble_eq_true rfl) (Nat.le_of_ble_eq_true rfl) (by have h8 := hend (fun h => absurd q24 (Int32.not_le.mpr h)) (199 - i); rw [show i + (199 - i) = 199 by omega] at h8; show nI fd = nI (lsN D9 199).1; rw [h8]) (fun _ h => h)
    · refine sv_aload_n (i := 0) (x := sv_r G 19 0) C dX6_least_27 rfl rfl ?_
      refine sv_iload_n (i := 1) (x := f) C dX6_least_28 rfl rfl ?_
      refine sv_iload_n (i := 2) (x := t) C dX6_least_29 rfl rfl ?_
      refine sv_iload (i := 5) (x := nI (i + 2)) C dX6_least_30 rfl ?_
      refine sv_exW2 (fun y1 a1 b1 => ?_)
      refine sv_callV (as := [_, _, _]) (rest := []) C (met_R_walked l G _ _ _ f t (nI (i + 2)) _ hne m (by rw [sv_un (show 10 ≠ 11 by decide), sv_un (show 10 ≠ 15 by decide)]; exact hm) hm7 (by rw [sv_un (show 10 ≠ 11 by decide), sv_un (show 10 ≠ 15 by decide)]; exact hw (i + 2) (by omega) (by omega))) fX6_walked kw_934 (sv_recv19 C) ⟨Nat.le_of_ble_eq_true rfl, Nat.le_of_ble_eq_true rfl⟩ (Nat.le_of_ble_eq_true rfl) dX6_least_32 ⟨Nat.zero_le _, Nat.zero_le _⟩  ?_
      refine sv_riS (D9 (i + 2)) rfl ?_
      refine sv_wd sv_W2_2 ?_
      refine sv_istore (i := 6) C [(0, .ref (sv_r G 19 0)), (1, .int f), (2, .int t), (3, .int (nI fd)), (4, .int le), (5, .int (nI (i + 2))), (6, .int (D9 (i + 2)))] dX6_least_35 (by decide) rfl ?_
      refine sv_iload (i := 6) (x := D9 (i + 2)) C dX6_least_37 rfl ?_
      refine sv_iload (i := 4) (x := le) C dX6_least_39 rfl ?_
      refine sv_icmp_ge C 49 dX6_least_41 (by decide) (fun q41 => ?_) (fun q41 => ?_)
      · refine sv_iload_n (i := 3) (x := nI fd) C dX6_least_49 rfl rfl ?_
        refine sv_istore_n (i := 3) C [(0, .ref (sv_r G 19 0)), (1, .int f), (2, .int t), (3, .int (nI fd)), (4, .int le), (5, .int (nI (i + 2))), (6, .int (D9 (i + 2)))] dX6_least_50 rfl (by decide) rfl ?_
        refine sv_iload (i := 6) (x := D9 (i + 2)) C dX6_least_51 rfl ?_
        refine sv_iload (i := 4) (x := le) C dX6_least_53 rfl ?_
        refine sv_icmp_ge C 63 dX6_least_55 (by decide) (fun q55 => ?_) (fun q55 => ?_)
        · refine sv_iload (i := 4) (x := le) C dX6_least_63 rfl ?_
          refine sv_istore (i := 4) C [(0, .ref (sv_r G 19 0)), (1, .int f), (2, .int t), (3, .int (nI fd)), (4, .int le), (5, .int (nI (i + 2))), (6, .int (D9 (i + 2)))] dX6_least_65 (by decide) rfl ?_
          refine sv_iinc (i := 5) (x := nI (i + 2)) C (nI (i + 2 + 1)) [(0, .ref (sv_r G 19 0)), (1, .int f), (2, .int t), (3, .int (nI fd)), (4, .int le), (5, .int (nI (i + 2 + 1))), (6, .int (D9 (i + 2)))] dX6_least_67 rfl (sv_incN (i + 2) 1) (by decide) rfl ?_
          refine sv_goto C 14 dX6_least_70 (by decide) ?_
          refine sv_sub (lv' := [(0, .ref (sv_r G 19 0)), (1, .int f), (2, .int t), (3, .int (nI fd)), (4, .int le), (5, .int (nI (i + 2 + 1)))]) rfl ?_
          have hs : lsN D9 (i + 1) = (fd, le) := by
            rw [hst, if_pos (Int32.not_le.mp q24)]
            exact if_neg (Int32.not_lt.mpr q41)
          have h9 := ihi (by omega) trivial
          rw [hs] at h9
          exact h9
        · exact absurd (Int32.lt_of_lt_of_le (Int32.not_le.mp q55) q41) Int32.lt_irrefl
      · refine sv_iload (i := 5) (x := nI (i + 2)) C dX6_least_44 rfl ?_
        refine sv_goto C 50 dX6_least_46 (by decide) ?_
        refine sv_istore_n (i := 3) C [(0, .ref (sv_r G 19 0)), (1, .int f), (2, .int t), (3, .int (nI (i + 2))), (4, .int le), (5, .int (nI (i + 2))), (6, .int (D9 (i + 2)))] dX6_least_50 rfl (by decide) rfl ?_
        refine sv_iload (i := 6) (x := D9 (i + 2)) C dX6_least_51 rfl ?_
        refine sv_iload (i := 4) (x := le) C dX6_least_53 rfl ?_
        refine sv_icmp_ge C 63 dX6_least_55 (by decide) (fun q55 => ?_) (fun q55 => ?_)
        · exact absurd q55 q41
        · refine sv_iload (i := 6) (x := D9 (i + 2)) C dX6_least_58 rfl ?_
          refine sv_goto C 65 dX6_least_60 (by decide) ?_
          refine sv_istore (i := 4) C [(0, .ref (sv_r G 19 0)), (1, .int f), (2, .int t), (3, .int (nI (i + 2))), (4, .int (D9 (i + 2))), (5, .int (nI (i + 2))), (6, .int (D9 (i + 2)))] dX6_least_65 (by decide) rfl ?_
          refine sv_iinc (i := 5) (x := nI (i + 2)) C (nI (i + 2 + 1)) [(0, .ref (sv_r G 19 0)), (1, .int f), (2, .int t), (3, .int (nI (i + 2))), (4, .int (D9 (i + 2))), (5, .int (nI (i + 2 + 1))), (6, .int (D9 (i + 2)))] dX6_least_67 rfl (sv_incN (i + 2) 1) (by decide) rfl ?_
          refine sv_goto C 14 dX6_least_70 (by decide) ?_
          refine sv_sub (lv' := [(0, .ref (sv_r G 19 0)), (1, .int f), (2, .int t), (3, .int (nI (i + 2))), (4, .int (D9 (i + 2))), (5, .int (nI (i + 2 + 1)))]) rfl ?_
          have hs : lsN D9 (i + 1) = (i + 2, D9 (i + 2)) := by
            rw [hst, if_pos (Int32.not_le.mp q24)]
            exact if_pos (Int32.not_le.mp q41)
          have h9 := ihi (by omega) trivial
          rw [hs] at h9
          exact h9

set_option maxHeartbeats 800000 in
set_option maxRecDepth 100000 in
theorem met_R_leastTime (l : Launch) (G : sv_G) (z : Nat) (M : sv_M) (o : Int64) (f t : Int32) (m : Nat) (hm : M 10 57 = nI m) (hm7 : m ≤ 6) (D9 : Nat → Int32) (hw : wayC f t = 0 → ∀ T, 1 ≤ T → T ≤ 200 → wkD (M 10) m f t (nI T) (D9 T)) : sv_Met l G yX6_leastTime cX6_leastTime 3 (some .int) 6 [.ref (sv_r G 19 0), .int f, .int t] (sv_W G z M o) (some (.int (rR (wayC f t) (nI (lsN D9 199).1)))) (sv_W2 G z (thr (nI (wayC f t)) M) o) := by
  refine sv_ofW (by decide) kw_944 (Nat.le_of_ble_eq_true rfl) ?_
  intro p e s mth args below meth c hr C _
  refine sv_sub (lv' := [(0, .ref (sv_r G 19 0)), (1, .int f), (2, .int t)]) rfl ?_
  refine sv_aload_n (i := 0) (x := sv_r G 19 0) C dX6_leastTime_0 rfl rfl ?_
  refine sv_iload_n (i := 1) (x := f) C dX6_leastTime_1 rfl rfl ?_
  refine sv_iload_n (i := 2) (x := t) C dX6_leastTime_2 rfl rfl ?_
  refine sv_callS (as := [_, _]) (rest := [_]) C (met_R_mayWalk l G _ f t) fX6_mayWalk kw_781 ⟨Nat.le_of_ble_eq_true rfl, Nat.le_of_ble_eq_true rfl⟩ (Nat.le_of_ble_eq_true rfl) dX6_leastTime_3 ⟨Nat.zero_le _, Nat.zero_le _⟩  ?_
  refine sv_riN (wayC f t) rfl ?_
  refine sv_put_6_6 C kw_728 dX6_leastTime_6 ?_
  refine sv_wd (sv_eqW thr_w) ?_
  refine sv_aload_n (i := 0) (x := sv_r G 19 0) C dX6_leastTime_9 rfl rfl ?_
  refine sv_get_6_6 C kw_728 dX6_leastTime_10 ?_
  refine sv_set (v' := .int (nI (wayC f t))) (congrArg Value.int thr_2) ?_
  refine sv_if_ne C 25 dX6_leastTime_13 (by decide) (fun q13 => ?_) (fun q13 => ?_)
  · have hk0 : ¬ wayC f t = 0 := fun h => q13 (by rw [h]; rfl)
    refine sv_iconst (v := nI 0) C dX6_leastTime_25 (by decide) ?_
    exact sv_iret C hr dX6_leastTime_26 (Nat.le_of_ble_eq_true rfl) (Nat.le_of_ble_eq_true rfl) (rR_n hk0).symm (fun H h => sv_W2_id H h)
  · have hk0 : wayC f t = 0 := nI_eq0 (Nat.lt_of_le_of_lt (wayC_le f t) (by decide)) q13
    refine sv_aload_n (i := 0) (x := sv_r G 19 0) C dX6_leastTime_16 rfl rfl ?_
    refine sv_iload_n (i := 1) (x := f) C dX6_leastTime_17 rfl rfl ?_
    refine sv_iload_n (i := 2) (x := t) C dX6_leastTime_18 rfl rfl ?_
    refine sv_callV (as := [_, _]) (rest := []) C (met_R_least l G _ _ _ f t (wayC_ne hk0) m (by rw [thr_n (by decide)]; exact hm) hm7 _ (by rw [thr_n (by decide)]; exact hw hk0)) fX6_least kw_945 (sv_recv19 C) ⟨Nat.le_of_ble_eq_true rfl, Nat.le_of_ble_eq_true rfl⟩ (Nat.le_of_ble_eq_true rfl) dX6_leastTime_19 ⟨Nat.zero_le _, Nat.zero_le _⟩  ?_
    refine sv_ri (fun v19 e19 => ?_)
    refine sv_goto C 26 dX6_leastTime_22 (by decide) ?_
    exact sv_iret C hr dX6_leastTime_26 (Nat.le_of_ble_eq_true rfl) (Nat.le_of_ble_eq_true rfl) (by rw [rR_0 hk0, e19]) (fun H h => h)

set_option maxHeartbeats 800000 in
set_option maxRecDepth 100000 in
theorem met_R_missed (l : Launch) (G : sv_G) (z : Nat) (M : sv_M) (o : Int64) : sv_Met l G yX6_missed cX6_missed 4 (some .int) 1 [.ref (sv_r G 19 0)] (sv_W G z M o) (some (.int (mm (M 10) 8))) (sv_W G z M o) := by
  refine sv_ofW (by decide) kw_956 (Nat.le_of_ble_eq_true rfl) ?_
  intro p e s mth args below meth c hr C _
  refine sv_sub (lv' := [(0, .ref (sv_r G 19 0))]) rfl ?_
  refine sv_iconst (v := (-1)) C dX6_missed_0 (by decide) ?_
  refine sv_istore_n (i := 1) C [(0, .ref (sv_r G 19 0)), (1, .int (-1))] dX6_missed_1 rfl (by decide) rfl ?_
  refine sv_iconst (v := nI 0) C dX6_missed_2 (by decide) ?_
  refine sv_istore_n (i := 2) C [(0, .ref (sv_r G 19 0)), (1, .int (-1)), (2, .int (nI 0))] dX6_missed_3 rfl (by decide) rfl ?_
  refine sv_loop (N := 8) (I := fun i => True) (Wf := fun i => sv_W G z M o) (Lf := fun i => [(0, .ref (sv_r G 19 0)), (1, .int (mm (M 10) i)), (2, .int (nI i))]) 0 (Nat.zero_le _) trivial (fun i hi0 hi hIi ihi => ?_)
  refine sv_iload_n (i := 2) (x := nI i) C dX6_missed_4 rfl rfl ?_
  refine sv_bipush (v := nI 8) C dX6_missed_5 (by decide) ?_
  refine sv_icmp_geN C 70 dX6_missed_7 (by decide) (by omega) (by omega) (fun q7 => ?_) (fun q7 => ?_)
  · refine sv_iload_n (i := 1) (x := mm (M 10) i) C dX6_missed_70 rfl rfl ?_
    exact sv_iret C hr dX6_missed_71 (Nat.le_of_ble_eq_true rfl) (Nat.le_of_ble_eq_true rfl) (by rw [show i = 8 from by omega]) (fun _ h => h)
  · refine sv_aload_n (i := 0) (x := sv_r G 19 0) C dX6_missed_10 rfl rfl ?_
    refine sv_get_6_0 C kw_722 dX6_missed_11 ?_
    refine sv_iload_n (i := 2) (x := nI i) C dX6_missed_14 rfl rfl ?_
    refine sv_iconst (v := nI 1) C dX6_missed_15 (by decide) ?_
    refine sv_callS (as := [_, _, _]) (rest := []) C (met_R20_of l G _ _ _ i 1 (by omega) (by omega)) fX6_of kw_812 ⟨Nat.le_of_ble_eq_true rfl, Nat.le_of_ble_eq_true rfl⟩ (Nat.le_of_ble_eq_true rfl) dX6_missed_16 ⟨Nat.zero_le _, Nat.zero_le _⟩  ?_
    refine sv_riS (M 10 (6 * i + 10)) rfl ?_
    refine sv_if_ne C 52 dX6_missed_19 (by decide) (fun q19 => ?_) (fun q19 => ?_)
    · have q19 : ¬ M 10 (6 * i + 10) = 0 := q19
      refine sv_iconst (v := nI 0) C dX6_missed_52 (by decide) ?_
      refine sv_istore_n (i := 3) C [(0, .ref (sv_r G 19 0)), (1, .int (mm (M 10) i)), (2, .int (nI i)), (3, .int (nI 0))] dX6_missed_53 rfl (by decide) rfl ?_
      refine sv_iload_n (i := 3) (x := nI 0) C dX6_missed_54 rfl rfl ?_
      refine sv_if_eq C 62 dX6_missed_55 (by decide) (fun q55 => ?_) (fun q55 => ?_)
      · refine sv_iload_n (i := 1) (x := mm (M 10) i) C dX6_missed_62 rfl rfl ?_
        refine sv_istore_n (i := 1) C [(0, .ref (sv_r G 19 0)), (1, .int (mm (M 10) i)), (2, .int (nI i)), (3, .int (nI 0))] dX6_missed_63 rfl (by decide) rfl ?_
        refine sv_iinc (i := 2) (x := nI i) C (nI (i + 1)) [(0, .ref (sv_r G 19 0)), (1, .int (mm (M 10) i)), (2, .int (nI (i + 1))), (3, .int (nI 0))] dX6_missed_64 rfl (sv_incN i 1) (by decide) rfl ?_
        refine sv_goto C 4 dX6_missed_67 (by decide) ?_
        refine sv_sub (lv' := [(0, .ref (sv_r G 19 0)), (1, .int (mm (M 10) i)), (2, .int (nI (i + 1)))]) rfl ?_
        rw [show mm (M 10) i = mm (M 10) (i + 1) from (if_neg (fun h => q19 h.1)).symm]
        exact ihi (by omega) trivial
      · exact absurd rfl q55
    · have q19 : M 10 (6 * i + 10) = 0 := q19
      refine sv_iload_n (i := 1) (x := mm (M 10) i) C dX6_missed_22 rfl rfl ?_
      refine sv_iconst (v := (-1)) C dX6_missed_23 (by decide) ?_
      refine sv_icmp_eq C 48 dX6_missed_24 (by decide) (fun q24 => ?_) (fun q24 => ?_)
      · refine sv_iconst (v := nI 1) C dX6_missed_48 (by decide) ?_
        refine sv_goto C 53 dX6_missed_49 (by decide) ?_
        refine sv_istore_n (i := 3) C [(0, .ref (sv_r G 19 0)), (1, .int (mm (M 10) i)), (2, .int (nI i)), (3, .int (nI 1))] dX6_missed_53 rfl (by decide) rfl ?_
        refine sv_iload_n (i := 3) (x := nI 1) C dX6_missed_54 rfl rfl ?_
        refine sv_if_eq C 62 dX6_missed_55 (by decide) (fun q55 => ?_) (fun q55 => ?_)
        · exact absurd q55 (by decide)
        · refine sv_iload_n (i := 2) (x := nI i) C dX6_missed_58 rfl rfl ?_
          refine sv_goto C 63 dX6_missed_59 (by decide) ?_
          refine sv_istore_n (i := 1) C [(0, .ref (sv_r G 19 0)), (1, .int (nI i)), (2, .int (nI i)), (3, .int (nI 1))] dX6_missed_63 rfl (by decide) rfl ?_
          refine sv_iinc (i := 2) (x := nI i) C (nI (i + 1)) [(0, .ref (sv_r G 19 0)), (1, .int (nI i)), (2, .int (nI (i + 1))), (3, .int (nI 1))] dX6_missed_64 rfl (sv_incN i 1) (by decide) rfl ?_
          refine sv_goto C 4 dX6_missed_67 (by decide) ?_
          refine sv_sub (lv' := [(0, .ref (sv_r G 19 0)), (1, .int (nI i)), (2, .int (nI (i + 1)))]) rfl ?_
          rw [show nI i = mm (M 10) (i + 1) from (if_pos ⟨q19, Or.inl q24⟩).symm]
          exact ihi (by omega) trivial
      · obtain ⟨g9, hg9, hg9e⟩ := (mm_cases (M 10) i).resolve_left q24
        rw [hg9e]
        refine sv_aload_n (i := 0) (x := sv_r G 19 0) C dX6_missed_27 rfl rfl ?_
        refine sv_get_6_0 C kw_722 dX6_missed_28 ?_
        refine sv_iload_n (i := 2) (x := nI i) C dX6_missed_31 rfl rfl ?_
        refine sv_iconst (v := nI 2) C dX6_missed_32 (by decide) ?_
        refine sv_callS (as := [_, _, _]) (rest := []) C (met_R20_of l G _ _ _ i 2 (by omega) (by omega)) fX6_of kw_812 ⟨Nat.le_of_ble_eq_true rfl, Nat.le_of_ble_eq_true rfl⟩ (Nat.le_of_ble_eq_true rfl) dX6_missed_33 ⟨Nat.zero_le _, Nat.zero_le _⟩  ?_
        refine sv_riS (M 10 (6 * i + 11)) rfl ?_
        refine sv_aload_n (i := 0) (x := sv_r G 19 0) C dX6_missed_36 rfl rfl ?_
        refine sv_get_6_0 C kw_722 dX6_missed_37 ?_
        refine sv_iload_n (i := 1) (x := nI g9) C dX6_missed_40 rfl rfl ?_
        refine sv_iconst (v := nI 2) C dX6_missed_41 (by decide) ?_
        refine sv_callS (as := [_, _, _]) (rest := [_]) C (met_R20_of l G _ _ _ g9 2 (by omega) (by omega)) fX6_of kw_812 ⟨Nat.le_of_ble_eq_true rfl, Nat.le_of_ble_eq_true rfl⟩ (Nat.le_of_ble_eq_true rfl) dX6_missed_42 ⟨Nat.zero_le _, Nat.zero_le _⟩  ?_
        refine sv_riS (M 10 (6 * g9 + 11)) rfl ?_
        refine sv_icmp_le C 52 dX6_missed_45 (by decide) (fun q45 => ?_) (fun q45 => ?_)
        · refine sv_iconst (v := nI 0) C dX6_missed_52 (by decide) ?_
          refine sv_istore_n (i := 3) C [(0, .ref (sv_r G 19 0)), (1, .int (nI g9)), (2, .int (nI i)), (3, .int (nI 0))] dX6_missed_53 rfl (by decide) rfl ?_
          refine sv_iload_n (i := 3) (x := nI 0) C dX6_missed_54 rfl rfl ?_
          refine sv_if_eq C 62 dX6_missed_55 (by decide) (fun q55 => ?_) (fun q55 => ?_)
          · refine sv_iload_n (i := 1) (x := nI g9) C dX6_missed_62 rfl rfl ?_
            refine sv_istore_n (i := 1) C [(0, .ref (sv_r G 19 0)), (1, .int (nI g9)), (2, .int (nI i)), (3, .int (nI 0))] dX6_missed_63 rfl (by decide) rfl ?_
            refine sv_iinc (i := 2) (x := nI i) C (nI (i + 1)) [(0, .ref (sv_r G 19 0)), (1, .int (nI g9)), (2, .int (nI (i + 1))), (3, .int (nI 0))] dX6_missed_64 rfl (sv_incN i 1) (by decide) rfl ?_
            refine sv_goto C 4 dX6_missed_67 (by decide) ?_
            refine sv_sub (lv' := [(0, .ref (sv_r G 19 0)), (1, .int (nI g9)), (2, .int (nI (i + 1)))]) rfl ?_
            rw [← hg9e, show mm (M 10) i = mm (M 10) (i + 1) from (if_neg (fun h => h.2.elim q24 (fun h => absurd q45 (Int32.not_le.mpr (by rw [← (show M 10 (6 * (mm (M 10) i).toNatClampNeg + 11) = M 10 (6 * g9 + 11) from by rw [hg9e, nI_clamp (by omega)])]; exact h))))).symm]
            exact ihi (by omega) trivial
          · exact absurd rfl q55
        · refine sv_iconst (v := nI 1) C dX6_missed_48 (by decide) ?_
          refine sv_goto C 53 dX6_missed_49 (by decide) ?_
          refine sv_istore_n (i := 3) C [(0, .ref (sv_r G 19 0)), (1, .int (nI g9)), (2, .int (nI i)), (3, .int (nI 1))] dX6_missed_53 rfl (by decide) rfl ?_
          refine sv_iload_n (i := 3) (x := nI 1) C dX6_missed_54 rfl rfl ?_
          refine sv_if_eq C 62 dX6_missed_55 (by decide) (fun q55 => ?_) (fun q55 => ?_)
          · exact absurd q55 (by decide)
          · refine sv_iload_n (i := 2) (x := nI i) C dX6_missed_58 rfl rfl ?_
            refine sv_goto C 63 dX6_missed_59 (by decide) ?_
            refine sv_istore_n (i := 1) C [(0, .ref (sv_r G 19 0)), (1, .int (nI i)), (2, .int (nI i)), (3, .int (nI 1))] dX6_missed_63 rfl (by decide) rfl ?_
            refine sv_iinc (i := 2) (x := nI i) C (nI (i + 1)) [(0, .ref (sv_r G 19 0)), (1, .int (nI i)), (2, .int (nI (i + 1))), (3, .int (nI 1))] dX6_missed_64 rfl (sv_incN i 1) (by decide) rfl ?_
            refine sv_goto C 4 dX6_missed_67 (by decide) ?_
            refine sv_sub (lv' := [(0, .ref (sv_r G 19 0)), (1, .int (nI i)), (2, .int (nI (i + 1)))]) rfl ?_
            rw [show nI i = mm (M 10) (i + 1) from (if_pos ⟨q19, Or.inr (by rw [(show M 10 (6 * (mm (M 10) i).toNatClampNeg + 11) = M 10 (6 * g9 + 11) from by rw [hg9e, nI_clamp (by omega)])]; exact Int32.not_le.mp q45)⟩).symm]
            exact ihi (by omega) trivial

set_option maxHeartbeats 800000 in
set_option maxRecDepth 100000 in
theorem met_R_worst (l : Launch) (G : sv_G) (z : Nat) (M : sv_M) (o : Int64) : sv_Met l G yX6_worst cX6_worst 1 (some .int) 2 [.ref (sv_r G 19 0)] (sv_W G z M o) (some (.int (mm (M 10) 8))) (sv_W G z (thr 0 M) o) := by
  refine sv_ofW (by decide) kw_952 (Nat.le_of_ble_eq_true rfl) ?_
  intro p e s mth args below meth c hr C _
  refine sv_sub (lv' := [(0, .ref (sv_r G 19 0))]) rfl ?_
  refine sv_aload_n (i := 0) (x := sv_r G 19 0) C dX6_worst_0 rfl rfl ?_
  refine sv_iconst (v := nI 0) C dX6_worst_1 (by decide) ?_
  refine sv_put_6_6 C kw_728 dX6_worst_2 ?_
  refine sv_wd (sv_eqW (show _ = thr 0 M from thr_w)) ?_
  refine sv_aload_n (i := 0) (x := sv_r G 19 0) C dX6_worst_5 rfl rfl ?_
  refine sv_callV (as := []) (rest := []) C (met_R_missed l G _ _ _) fX6_missed kw_953 (sv_recv19 C) ⟨Nat.le_of_ble_eq_true rfl, Nat.le_of_ble_eq_true rfl⟩ (Nat.le_of_ble_eq_true rfl) dX6_worst_6 ⟨Nat.zero_le _, Nat.zero_le _⟩  ?_
  refine sv_ri (fun v6 e6 => ?_)
  exact sv_iret C hr dX6_worst_9 (Nat.le_of_ble_eq_true rfl) (Nat.le_of_ble_eq_true rfl) (by rw [e6, thr_n (by decide)]) (fun _ h => h)

set_option maxHeartbeats 800000 in
set_option maxRecDepth 100000 in
theorem met_R_share (l : Launch) (G : sv_G) (z : Nat) (M : sv_M) (o : Int64) (hn : ¬ M 10 8 = 0 → vf_n64 (FP.ddiv (FP.i2d (M 10 8 - dks (M 10) - dms (M 10))) (FP.i2d (M 10 8)))) : sv_Met l G yX6_share cX6_share 2 (some .double) 2 [.ref (sv_r G 19 0)] (sv_W G z M o) (some (.double (rsh (M 10)))) (sv_W G z M o) := by
  refine sv_ofW (by decide) kw_964 (Nat.le_of_ble_eq_true rfl) ?_
  intro p e s mth args below meth c hr C _
  refine sv_sub (lv' := [(0, .ref (sv_r G 19 0))]) rfl ?_
  refine sv_aload_n (i := 0) (x := sv_r G 19 0) C dX6_share_0 rfl rfl ?_
  refine sv_get_6_0 C kw_722 dX6_share_1 ?_
  refine sv_bipush (v := nI 8) C dX6_share_4 (by decide) ?_
  refine sv_ialdN C 10 8 rfl rfl rfl rfl (by show _ < 86; omega) dX6_share_6 ?_
  refine sv_set (v' := .int (M 10 8)) (congrArg Value.int rfl) ?_
  refine sv_aload_n (i := 0) (x := sv_r G 19 0) C dX6_share_7 rfl rfl ?_
  refine sv_get_6_0 C kw_722 dX6_share_8 ?_
  refine sv_iconst (v := nI 2) C dX6_share_11 (by decide) ?_
  refine sv_callS (as := [_, _]) (rest := [_]) C (met_R20_sum l G _ _ _ 2 (by omega)) fX6_sum kw_841 ⟨Nat.le_of_ble_eq_true rfl, Nat.le_of_ble_eq_true rfl⟩ (Nat.le_of_ble_eq_true rfl) dX6_share_12 ⟨Nat.zero_le _, Nat.zero_le _⟩  ?_
  refine sv_riS (dks (M 10)) rfl ?_
  refine sv_isub C dX6_share_15 ?_
  refine sv_set (v' := .int (M 10 8 - dks (M 10))) (congrArg Value.int rfl) ?_
  refine sv_aload_n (i := 0) (x := sv_r G 19 0) C dX6_share_16 rfl rfl ?_
  refine sv_get_6_0 C kw_722 dX6_share_17 ?_
  refine sv_iconst (v := nI 3) C dX6_share_20 (by decide) ?_
  refine sv_callS (as := [_, _]) (rest := [_]) C (met_R20_sum l G _ _ _ 3 (by omega)) fX6_sum kw_841 ⟨Nat.le_of_ble_eq_true rfl, Nat.le_of_ble_eq_true rfl⟩ (Nat.le_of_ble_eq_true rfl) dX6_share_21 ⟨Nat.zero_le _, Nat.zero_le _⟩  ?_
  refine sv_riS (dms (M 10)) rfl ?_
  refine sv_isub C dX6_share_24 ?_
  refine sv_set (v' := .int (M 10 8 - dks (M 10) - dms (M 10))) (congrArg Value.int rfl) ?_
  refine sv_istore_n (i := 1) C [(0, .ref (sv_r G 19 0)), (1, .int (M 10 8 - dks (M 10) - dms (M 10)))] dX6_share_25 rfl (by decide) rfl ?_
  refine sv_aload_n (i := 0) (x := sv_r G 19 0) C dX6_share_26 rfl rfl ?_
  refine sv_get_6_0 C kw_722 dX6_share_27 ?_
  refine sv_bipush (v := nI 8) C dX6_share_30 (by decide) ?_
  refine sv_ialdN C 10 8 rfl rfl rfl rfl (by show _ < 86; omega) dX6_share_32 ?_
  refine sv_set (v' := .int (M 10 8)) (congrArg Value.int rfl) ?_
  refine sv_if_ne C 40 dX6_share_33 (by decide) (fun q33 => ?_) (fun q33 => ?_)
  · refine sv_iload_n (i := 1) (x := M 10 8 - dks (M 10) - dms (M 10)) C dX6_share_40 rfl rfl ?_
    refine sv_i2d C dX6_share_41 ?_
    refine sv_aload_n (i := 0) (x := sv_r G 19 0) C dX6_share_42 rfl rfl ?_
    refine sv_get_6_0 C kw_722 dX6_share_43 ?_
    refine sv_bipush (v := nI 8) C dX6_share_46 (by decide) ?_
    refine sv_ialdN C 10 8 rfl rfl rfl rfl (by show _ < 86; omega) dX6_share_48 ?_
    refine sv_set (v' := .int (M 10 8)) (congrArg Value.int rfl) ?_
    refine sv_i2d C dX6_share_49 ?_
    refine sv_ddiv C dX6_share_50 (hn q33) ?_
    exact sv_dret C hr dX6_share_51 (Nat.le_of_ble_eq_true rfl) (Nat.le_of_ble_eq_true rfl) (if_neg q33).symm (fun _ h => h)
  · refine sv_dconst1 C dX6_share_36 ?_
    refine sv_goto C 51 dX6_share_37 (by decide) ?_
    exact sv_dret C hr dX6_share_51 (Nat.le_of_ble_eq_true rfl) (Nat.le_of_ble_eq_true rfl) (if_pos q33).symm (fun _ h => h)

set_option maxHeartbeats 800000 in
set_option maxRecDepth 100000 in
theorem met_R_lightness (l : Launch) (G : sv_G) (z : Nat) (M : sv_M) (o : Int64) (hn : ¬ M 10 8 = 0 → vf_n64 (FP.ddiv (FP.i2d (M 10 8 - dks (M 10) - dms (M 10))) (FP.i2d (M 10 8)))) : sv_Met l G yX6_lightness cX6_lightness 1 (some .double) 3 [.ref (sv_r G 19 0)] (sv_W G z M o) (some (.double (rsh (M 10)))) (sv_W G z (thr 0 M) o) := by
  refine sv_ofW (by decide) kw_960 (Nat.le_of_ble_eq_true rfl) ?_
  intro p e s mth args below meth c hr C _
  refine sv_sub (lv' := [(0, .ref (sv_r G 19 0))]) rfl ?_
  refine sv_aload_n (i := 0) (x := sv_r G 19 0) C dX6_lightness_0 rfl rfl ?_
  refine sv_iconst (v := nI 0) C dX6_lightness_1 (by decide) ?_
  refine sv_put_6_6 C kw_728 dX6_lightness_2 ?_
  refine sv_wd (sv_eqW (show _ = thr 0 M from thr_w)) ?_
  refine sv_aload_n (i := 0) (x := sv_r G 19 0) C dX6_lightness_5 rfl rfl ?_
  refine sv_callV (as := []) (rest := []) C (met_R_share l G _ _ _ (by rw [thr_n (by decide)]; exact hn)) fX6_share kw_961 (sv_recv19 C) ⟨Nat.le_of_ble_eq_true rfl, Nat.le_of_ble_eq_true rfl⟩ (Nat.le_of_ble_eq_true rfl) dX6_lightness_6 ⟨Nat.zero_le _, Nat.zero_le _⟩  ?_
  refine sv_rd (fun v6 e6 => ?_)
  exact sv_dret C hr dX6_lightness_9 (Nat.le_of_ble_eq_true rfl) (Nat.le_of_ble_eq_true rfl) (by rw [e6, thr_n (by decide)]) (fun _ h => h)

