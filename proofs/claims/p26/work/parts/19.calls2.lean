set_option maxHeartbeats 4000000 in
set_option maxRecDepth 100000 in
theorem met_set (l : Launch) (G : sv_G) (hl : l.stackTraces = false) (z : Nat) (M : sv_M) (o : Int64) (f v : Int32) (od hd : Nat) (hod : od < 6) (h0 : M 8 0 = nI od) (h1 : M 8 1 = nI hd) (hd6 : hd ≤ 6) (b6 : M 0 6 = 0 ∨ M 0 6 = 1) (b7 : M 0 7 = 0 ∨ M 0 7 = 1) : sv_MetX l G yX5_set cX5_set 4 (some .int) 7 2 [.ref (sv_r G 14 0), .int f, .int v] (sv_W G z M o) (setC f v = 0) (some (.int (M 0 f.toNatClampNeg))) (sv_W G z (sv_u (sav od hd M) 0 (upd (M 0) f.toNatClampNeg v)) o) (sv_E2 sv_IO sv_IA (setC f v)) (sv_Wz G z M o) := by
  refine sv_ofWX (by decide) kw_547 (Nat.le_of_ble_eq_true rfl) ?_
  intro p e s mth args below meth c hr C hxt
  refine sv_sub (lv' := [(0, .ref (sv_r G 14 0)), (1, .int f), (2, .int v)]) rfl ?_
  refine sv_iload_n (i := 1) (x := f) C dX5_set_0 rfl rfl ?_
  refine sv_callSX (as := [_]) (rest := []) C (met_checkSetting l G hl _ _ _ f) fX5_checkSetting kw_315 ⟨Nat.le_of_ble_eq_true rfl, Nat.le_of_ble_eq_true rfl⟩ (Nat.le_of_ble_eq_true rfl) dX5_set_1 ⟨Nat.le_of_ble_eq_true rfl, Nat.le_of_ble_eq_true rfl⟩ (fun E hE => sv_out C hxt (Nat.le_of_ble_eq_true rfl) (Nat.le_of_ble_eq_true rfl) (Or.inl ⟨by unfold setC; rw [if_pos hE.1], hE.2⟩) (fun _ h => h)) ?_
  intro ok1
  refine sv_rv ?_
  obtain ⟨g1, hg1, rfl⟩ := inC_0 (by decide) ok1
  refine sv_iload_n (i := 2) (x := v) C dX5_set_4 rfl rfl ?_
  refine sv_gets1 C kw_548 dX5_set_5 ?_
  refine sv_iload_n (i := 1) (x := nI g1) C dX5_set_8 rfl rfl ?_
  refine sv_callS (as := [_, _]) (rest := [_]) C (met_atS1 l G _ g1 (by omega)) fX5_at kw_320 ⟨Nat.le_of_ble_eq_true rfl, Nat.le_of_ble_eq_true rfl⟩ (Nat.le_of_ble_eq_true rfl) dX5_set_9 ⟨Nat.le_of_ble_eq_true rfl, Nat.le_of_ble_eq_true rfl⟩  ?_
  refine sv_ri (fun v9 e9 => ?_)
  refine sv_icmp_lt C 26 dX5_set_12 (by decide) (fun q12 => ?_) (fun q12 => ?_)
  · exact sv_throwIA C hl hxt ks_134 dX5_set_26 dX5_set_29 dX5_set_30 dX5_set_32 dX5_set_35 (Nat.le_of_ble_eq_true rfl) (Nat.le_of_ble_eq_true rfl) (Nat.le_of_ble_eq_true rfl) (Nat.le_of_ble_eq_true rfl) (Nat.le_of_ble_eq_true rfl) (Nat.le_of_ble_eq_true rfl) (Or.inr ⟨by unfold setC; rw [if_neg (fun h => absurd (h.symm.trans ok1) (by decide)), nI_clamp (by omega), if_pos (Or.inl (e9 ▸ q12))], rfl⟩) sv_Wz_grow
  · refine sv_iload_n (i := 2) (x := v) C dX5_set_15 rfl rfl ?_
    refine sv_gets2 C kw_550 dX5_set_16 ?_
    refine sv_iload_n (i := 1) (x := nI g1) C dX5_set_19 rfl rfl ?_
    refine sv_callS (as := [_, _]) (rest := [_]) C (met_atS2 l G _ g1 (by omega)) fX5_at kw_320 ⟨Nat.le_of_ble_eq_true rfl, Nat.le_of_ble_eq_true rfl⟩ (Nat.le_of_ble_eq_true rfl) dX5_set_20 ⟨Nat.le_of_ble_eq_true rfl, Nat.le_of_ble_eq_true rfl⟩  ?_
    refine sv_ri (fun v20 e20 => ?_)
    refine sv_icmp_le C 36 dX5_set_23 (by decide) (fun q23 => ?_) (fun q23 => ?_)
    · refine sv_aload_n (i := 0) (x := sv_r G 14 0) C dX5_set_36 rfl rfl ?_
      refine sv_get_5_2 C kw_172 dX5_set_37 ?_
      refine sv_aload_n (i := 0) (x := sv_r G 14 0) C dX5_set_40 rfl rfl ?_
      refine sv_get_5_0 C kw_170 dX5_set_41 ?_
      refine sv_callV (as := [_]) (rest := []) C (met_save hod h0 h1 hd6 b6 b7) fX1_save kw_500 (sv_recv15 C) ⟨Nat.le_of_ble_eq_true rfl, Nat.le_of_ble_eq_true rfl⟩ (Nat.le_of_ble_eq_true rfl) dX5_set_44 ⟨Nat.le_of_ble_eq_true rfl, Nat.le_of_ble_eq_true rfl⟩  ?_
      refine sv_rv ?_
      refine sv_aload_n (i := 0) (x := sv_r G 14 0) C dX5_set_47 rfl rfl ?_
      refine sv_get_5_0 C kw_170 dX5_set_48 ?_
      refine sv_get_3_2 C (by decide) kw_113 dX5_set_51 ?_
      refine sv_iload_n (i := 1) (x := nI g1) C dX5_set_54 rfl rfl ?_
      refine sv_callS (as := [_, _]) (rest := []) C (met_atN 0 g1 rfl rfl (sv_okj (by decide) (by decide)) rfl (by show _ < 4; omega)) fX5_at kw_320 ⟨Nat.le_of_ble_eq_true rfl, Nat.le_of_ble_eq_true rfl⟩ (Nat.le_of_ble_eq_true rfl) dX5_set_55 ⟨Nat.le_of_ble_eq_true rfl, Nat.le_of_ble_eq_true rfl⟩  ?_
      refine sv_ri (fun v55 e55 => ?_)
      refine sv_istore_n (i := 3) C [(0, .ref (sv_r G 14 0)), (1, .int (nI g1)), (2, .int v), (3, .int v55)] dX5_set_58 rfl (by decide) rfl ?_
      refine sv_aload_n (i := 0) (x := sv_r G 14 0) C dX5_set_59 rfl rfl ?_
      refine sv_get_5_0 C kw_170 dX5_set_60 ?_
      refine sv_get_3_2 C (by decide) kw_113 dX5_set_63 ?_
      refine sv_iload_n (i := 1) (x := nI g1) C dX5_set_66 rfl rfl ?_
      refine sv_iload_n (i := 2) (x := v) C dX5_set_67 rfl rfl ?_
      refine sv_callS (as := [_, _, _]) (rest := []) C (met_putN 0 g1 rfl rfl (sv_okj (by decide) (by decide)) rfl (by show _ < 4; omega)) fX5_put kw_417 ⟨Nat.le_of_ble_eq_true rfl, Nat.le_of_ble_eq_true rfl⟩ (Nat.le_of_ble_eq_true rfl) dX5_set_68 ⟨Nat.le_of_ble_eq_true rfl, Nat.le_of_ble_eq_true rfl⟩  ?_
      refine sv_rv ?_
      refine sv_iload_n (i := 3) (x := v55) C dX5_set_71 rfl rfl ?_
      exact sv_iretX C (by unfold setC; rw [if_neg (fun h => absurd (h.symm.trans ok1) (by decide)), nI_clamp (by omega), if_neg (fun h => h.elim (e9 ▸ q12) (fun h => absurd (e20 ▸ q23) (Int32.not_le.mpr h)))]) hr dX5_set_72 (Nat.le_of_ble_eq_true rfl) (Nat.le_of_ble_eq_true rfl) (by rw [e55, sav_0, nI_clamp (by omega)]) (sv_eqW (by rw [sv_wu, sav_0, nI_clamp (by omega)]))
    · exact sv_throwIA C hl hxt ks_134 dX5_set_26 dX5_set_29 dX5_set_30 dX5_set_32 dX5_set_35 (Nat.le_of_ble_eq_true rfl) (Nat.le_of_ble_eq_true rfl) (Nat.le_of_ble_eq_true rfl) (Nat.le_of_ble_eq_true rfl) (Nat.le_of_ble_eq_true rfl) (Nat.le_of_ble_eq_true rfl) (Or.inr ⟨by unfold setC; rw [if_neg (fun h => absurd (h.symm.trans ok1) (by decide)), nI_clamp (by omega), if_pos (Or.inr (Int32.not_le.mp (e20 ▸ q23)))], rfl⟩) sv_Wz_grow

set_option maxHeartbeats 4000000 in
set_option maxRecDepth 100000 in
theorem met_pass (l : Launch) (G : sv_G) (hl : l.stackTraces = false) (z : Nat) (M : sv_M) (o : Int64) (t : Int32) (od hd : Nat) (hod : od < 6) (h0 : M 8 0 = nI od) (h1 : M 8 1 = nI hd) (hd6 : hd ≤ 6) (b6 : M 0 6 = 0 ∨ M 0 6 = 1) (b7 : M 0 7 = 0 ∨ M 0 7 = 1) (hv : vd (M 0)) : sv_MetX l G yX5_pass cX5_pass 2 (some .int) 7 1 [.ref (sv_r G 14 0), .int t] (sv_W G z M o) (secC t = 0) (some (.int (dks (passv t.toNatClampNeg (M 0)) - dks (M 0)))) (sv_W G z (sv_u (sav od hd M) 0 (passv t.toNatClampNeg (M 0))) o) (sv_E1 sv_IA (secC t)) (sv_Wz G z M o) := by
  refine sv_ofWX (by decide) kw_512 (Nat.le_of_ble_eq_true rfl) ?_
  intro p e s mth args below meth c hr C hxt
  refine sv_sub (lv' := [(0, .ref (sv_r G 14 0)), (1, .int t)]) rfl ?_
  refine sv_iload_n (i := 1) (x := t) C dX5_pass_0 rfl rfl ?_
  refine sv_callSX (as := [_]) (rest := []) C (met_checkSeconds l G hl _ _ _ t) fX5_checkSeconds kw_325 ⟨Nat.le_of_ble_eq_true rfl, Nat.le_of_ble_eq_true rfl⟩ (Nat.le_of_ble_eq_true rfl) dX5_pass_1 ⟨Nat.le_of_ble_eq_true rfl, Nat.le_of_ble_eq_true rfl⟩ (fun E hE => sv_out C hxt (Nat.le_of_ble_eq_true rfl) (Nat.le_of_ble_eq_true rfl) (hE) (fun _ h => h)) ?_
  intro ok1
  refine sv_rv ?_
  obtain ⟨n1, hn1, hn2, rfl⟩ := secC_0 ok1
  refine sv_aload_n (i := 0) (x := sv_r G 14 0) C dX5_pass_4 rfl rfl ?_
  refine sv_get_5_2 C kw_172 dX5_pass_5 ?_
  refine sv_aload_n (i := 0) (x := sv_r G 14 0) C dX5_pass_8 rfl rfl ?_
  refine sv_get_5_0 C kw_170 dX5_pass_9 ?_
  refine sv_callV (as := [_]) (rest := []) C (met_save hod h0 h1 hd6 b6 b7) fX1_save kw_500 (sv_recv15 C) ⟨Nat.le_of_ble_eq_true rfl, Nat.le_of_ble_eq_true rfl⟩ (Nat.le_of_ble_eq_true rfl) dX5_pass_12 ⟨Nat.le_of_ble_eq_true rfl, Nat.le_of_ble_eq_true rfl⟩  ?_
  refine sv_rv ?_
  refine sv_aload_n (i := 0) (x := sv_r G 14 0) C dX5_pass_15 rfl rfl ?_
  refine sv_get_5_0 C kw_170 dX5_pass_16 ?_
  refine sv_iload_n (i := 1) (x := nI n1) C dX5_pass_19 rfl rfl ?_
  refine sv_callV (as := [_]) (rest := []) C (met_letPass l G _ _ _ 0 (by decide) (by rw [sav_0]; exact hv) n1 (by omega)) fX3_letPass kw_347 (sv_recv0 C (by decide)) ⟨Nat.le_of_ble_eq_true rfl, Nat.le_of_ble_eq_true rfl⟩ (Nat.le_of_ble_eq_true rfl) dX5_pass_20 ⟨Nat.le_of_ble_eq_true rfl, Nat.le_of_ble_eq_true rfl⟩  ?_
  refine sv_ri (fun v20 e20 => ?_)
  exact sv_iretX C ok1 hr dX5_pass_23 (Nat.le_of_ble_eq_true rfl) (Nat.le_of_ble_eq_true rfl) (by rw [e20, sav_0, nI_clamp (by omega)]) (sv_eqW (by rw [sav_0, nI_clamp (by omega)]))




set_option maxHeartbeats 4000000 in
set_option maxRecDepth 100000 in
theorem met_undo (l : Launch) (G : sv_G) (hl : l.stackTraces = false) (z : Nat) (M : sv_M) (o : Int64) (od hd k : Nat) (hod : od < 6) (h0 : M 8 0 = nI od) (h1 : M 8 1 = nI hd) (hd6 : hd ≤ 6) (hk : k = (od + (hd - 1)) % 6) (b6 : 0 < hd → (M (2 + k) 6 = 0 ∨ M (2 + k) 6 = 1)) (b7 : 0 < hd → (M (2 + k) 7 = 0 ∨ M (2 + k) 7 = 1)) : sv_MetX l G yX5_undo cX5_undo 1 (some .int) 6 1 [.ref (sv_r G 14 0)] (sv_W G z M o) (undC hd = 0) (some (.int (nI (hd - 1)))) (sv_W G z (rsM (hd - 1) k M) o) (sv_E1 sv_IS (undC hd)) (sv_Wz G z M o) := by
  refine sv_ofWX (by decide) kw_559 (Nat.le_of_ble_eq_true rfl) ?_
  intro p e s mth args below meth c hr C hxt
  refine sv_sub (lv' := [(0, .ref (sv_r G 14 0))]) rfl ?_
  refine sv_aload_n (i := 0) (x := sv_r G 14 0) C dX5_undo_0 rfl rfl ?_
  refine sv_get_5_2 C kw_172 dX5_undo_1 ?_
  refine sv_get_1_2 C kw_148 dX5_undo_4 ?_
  refine sv_set (v' := .int (nI hd)) (congrArg Value.int h1) ?_
  refine sv_if_gt C 20 dX5_undo_7 (by decide) (fun q7 => ?_) (fun q7 => ?_)
  · have hhd : 0 < hd := by
      rcases Nat.eq_zero_or_pos hd with h | h
      · rw [h] at q7
        exact absurd q7 (by decide)
      · exact h
    have b6 := b6 hhd
    have b7 := b7 hhd
    refine sv_aload_n (i := 0) (x := sv_r G 14 0) C dX5_undo_20 rfl rfl ?_
    refine sv_get_5_2 C kw_172 dX5_undo_21 ?_
    refine sv_aload_n (i := 0) (x := sv_r G 14 0) C dX5_undo_24 rfl rfl ?_
    refine sv_get_5_0 C kw_170 dX5_undo_25 ?_
    refine sv_callV (as := [_]) (rest := []) C (met_restore l G _ _ _ od hd k hod h0 h1 hhd hd6 hk b6 b7) fX1_restore kw_561 (sv_recv15 C) ⟨Nat.le_of_ble_eq_true rfl, Nat.le_of_ble_eq_true rfl⟩ (Nat.le_of_ble_eq_true rfl) dX5_undo_28 ⟨Nat.le_of_ble_eq_true rfl, Nat.le_of_ble_eq_true rfl⟩  ?_
    refine sv_rv ?_
    refine sv_aload_n (i := 0) (x := sv_r G 14 0) C dX5_undo_31 rfl rfl ?_
    refine sv_get_5_2 C kw_172 dX5_undo_32 ?_
    refine sv_get_1_2 C kw_148 dX5_undo_35 ?_
    refine sv_set (v' := .int (nI (hd - 1))) (congrArg Value.int (by unfold rsM; rw [sv_un (by decide), sv_us, upd_s])) ?_
    exact sv_iretX C (if_neg (by omega)) hr dX5_undo_38 (Nat.le_of_ble_eq_true rfl) (Nat.le_of_ble_eq_true rfl) rfl (fun _ h => h)
  · have hhd : hd = 0 := by
      rcases Nat.eq_zero_or_pos hd with h | h
      · exact h
      · exact absurd (Int32.not_lt.mp q7) (nI_nle h (by omega))
    exact sv_throwIS C hl hxt ks_182 dX5_undo_10 dX5_undo_13 dX5_undo_14 dX5_undo_16 dX5_undo_19 (Nat.le_of_ble_eq_true rfl) (Nat.le_of_ble_eq_true rfl) (Nat.le_of_ble_eq_true rfl) (Nat.le_of_ble_eq_true rfl) (Nat.le_of_ble_eq_true rfl) (Nat.le_of_ble_eq_true rfl) (⟨if_pos hhd, rfl⟩) sv_Wz_grow

set_option maxHeartbeats 4000000 in
set_option maxRecDepth 100000 in
theorem met_floor (l : Launch) (G : sv_G) (hl : l.stackTraces = false) (z : Nat) (M : sv_M) (o : Int64) (f v : Int32) (m : Nat) (hm : M 0 57 = nI m) (hm7 : m ≤ 6) (b6 : M 0 6 = 0 ∨ M 0 6 = 1) (b7 : M 0 7 = 0 ∨ M 0 7 = 1) : sv_MetX l G yX5_floor cX5_floor 3 (some .int) 7 2 [.ref (sv_r G 14 0), .int f, .int v] (sv_W G z M o) (floC f v = 0) (some (.int (fnv m (M 0) f.toNatClampNeg v.toNatClampNeg))) (sv_W G z M o) (sv_E2 sv_IO sv_IA (floC f v)) (sv_Wz G z M o) := by
  refine sv_ofWX (by decide) kw_186 (Nat.le_of_ble_eq_true rfl) ?_
  intro p e s mth args below meth c hr C hxt
  refine sv_sub (lv' := [(0, .ref (sv_r G 14 0)), (1, .int f), (2, .int v)]) rfl ?_
  refine sv_iload_n (i := 1) (x := f) C dX5_floor_0 rfl rfl ?_
  refine sv_callSX (as := [_]) (rest := []) C (met_checkFloor l G hl _ _ _ f) fX5_checkFloor kw_187 ⟨Nat.le_of_ble_eq_true rfl, Nat.le_of_ble_eq_true rfl⟩ (Nat.le_of_ble_eq_true rfl) dX5_floor_1 ⟨Nat.le_of_ble_eq_true rfl, Nat.le_of_ble_eq_true rfl⟩ (fun E hE => sv_out C hxt (Nat.le_of_ble_eq_true rfl) (Nat.le_of_ble_eq_true rfl) (Or.inl ⟨by unfold floC; rw [if_pos hE.1], hE.2⟩) (fun _ h => h)) ?_
  intro ok1
  refine sv_rv ?_
  refine sv_iload_n (i := 2) (x := v) C dX5_floor_4 rfl rfl ?_
  refine sv_bipush (v := nI 8) C dX5_floor_5 (by decide) ?_
  refine sv_callSX (as := [_, _]) (rest := []) C (met_checkWhat l G hl _ _ _ v 8) fX5_checkWhat kw_258 ⟨Nat.le_of_ble_eq_true rfl, Nat.le_of_ble_eq_true rfl⟩ (Nat.le_of_ble_eq_true rfl) dX5_floor_7 ⟨Nat.le_of_ble_eq_true rfl, Nat.le_of_ble_eq_true rfl⟩ (fun E hE => sv_out C hxt (Nat.le_of_ble_eq_true rfl) (Nat.le_of_ble_eq_true rfl) (Or.inr ⟨by unfold floC; rw [if_neg (fun h => absurd (h.symm.trans ok1) (by decide)), if_pos hE.1], hE.2⟩) (fun _ h => h)) ?_
  intro ok2
  refine sv_rv ?_
  obtain ⟨g1, hg1, rfl⟩ := inC_0 (by decide) ok1
  obtain ⟨g2, hg2, rfl⟩ := inC_0 (by decide) ok2
  refine sv_aload_n (i := 0) (x := sv_r G 14 0) C dX5_floor_10 rfl rfl ?_
  refine sv_get_5_0 C kw_170 dX5_floor_11 ?_
  refine sv_iload_n (i := 1) (x := nI g1) C dX5_floor_14 rfl rfl ?_
  refine sv_iload_n (i := 2) (x := nI g2) C dX5_floor_15 rfl rfl ?_
  refine sv_callV (as := [_, _]) (rest := []) C (met_floorNumber l G _ _ _ 0 g1 g2 (by decide) hg1 hg2 m hm (by omega) b6 b7) fX3_floorNumber kw_277 (sv_recv0 C (by decide)) ⟨Nat.le_of_ble_eq_true rfl, Nat.le_of_ble_eq_true rfl⟩ (Nat.le_of_ble_eq_true rfl) dX5_floor_16 ⟨Nat.le_of_ble_eq_true rfl, Nat.le_of_ble_eq_true rfl⟩  ?_
  refine sv_ri (fun v16 e16 => ?_)
  exact sv_iretX C (by unfold floC; rw [if_neg (fun h => absurd (h.symm.trans ok1) (by decide)), if_neg (fun h => absurd (h.symm.trans ok2) (by decide))]) hr dX5_floor_19 (Nat.le_of_ble_eq_true rfl) (Nat.le_of_ble_eq_true rfl) (by rw [e16, nI_clamp (by omega), nI_clamp (by omega)]) (fun _ h => h)

set_option maxHeartbeats 4000000 in
set_option maxRecDepth 100000 in
theorem met_person (l : Launch) (G : sv_G) (hl : l.stackTraces = false) (z : Nat) (M : sv_M) (o : Int64) (f v : Int32) (m : Nat) (hm : M 0 57 = nI m) (hm7 : m ≤ 6) : sv_MetX l G yX5_person cX5_person 3 (some .int) 7 1 [.ref (sv_r G 14 0), .int f, .int v] (sv_W G z M o) (perC f v = 0) (some (.int (if f.toNatClampNeg < m then M 0 (4 * f.toNatClampNeg + 58 + v.toNatClampNeg) else (-1)))) (sv_W G z M o) (sv_E1 sv_IA (perC f v)) (sv_Wz G z M o) := by
  refine sv_ofWX (by decide) kw_451 (Nat.le_of_ble_eq_true rfl) ?_
  intro p e s mth args below meth c hr C hxt
  refine sv_sub (lv' := [(0, .ref (sv_r G 14 0)), (1, .int f), (2, .int v)]) rfl ?_
  refine sv_iload_n (i := 1) (x := f) C dX5_person_0 rfl rfl ?_
  refine sv_if_ge C 14 dX5_person_1 (by decide) (fun q1 => ?_) (fun q1 => ?_)
  · refine sv_iload_n (i := 2) (x := v) C dX5_person_14 rfl rfl ?_
    refine sv_iconst (v := nI 4) C dX5_person_15 (by decide) ?_
    refine sv_callSX (as := [_, _]) (rest := []) C (met_checkWhat l G hl _ _ _ v 4) fX5_checkWhat kw_258 ⟨Nat.le_of_ble_eq_true rfl, Nat.le_of_ble_eq_true rfl⟩ (Nat.le_of_ble_eq_true rfl) dX5_person_16 ⟨Nat.le_of_ble_eq_true rfl, Nat.le_of_ble_eq_true rfl⟩ (fun E hE => sv_out C hxt (Nat.le_of_ble_eq_true rfl) (Nat.le_of_ble_eq_true rfl) (⟨by unfold perC; rw [if_neg (Int32.not_lt.mpr q1)]; exact hE.1, hE.2⟩) (fun _ h => h)) ?_
    intro ok2
    refine sv_rv ?_
    obtain ⟨p1, hp1, rfl⟩ := i32_nn q1
    obtain ⟨g2, hg2, rfl⟩ := inC_0 (by decide) ok2
    refine sv_aload_n (i := 0) (x := sv_r G 14 0) C dX5_person_19 rfl rfl ?_
    refine sv_get_5_0 C kw_170 dX5_person_20 ?_
    refine sv_get_3_1 C (by decide) kw_111 dX5_person_23 ?_
    refine sv_iload_n (i := 1) (x := nI p1) C dX5_person_26 rfl rfl ?_
    refine sv_iload_n (i := 2) (x := nI g2) C dX5_person_27 rfl rfl ?_
    refine sv_callV (as := [_, _]) (rest := []) C (met_personNumber l G _ _ _ 0 p1 g2 (by decide) hp1 hg2 m hm (by omega)) fX2_personNumber kw_453 (sv_recv8 C (by decide)) ⟨Nat.le_of_ble_eq_true rfl, Nat.le_of_ble_eq_true rfl⟩ (Nat.le_of_ble_eq_true rfl) dX5_person_28 ⟨Nat.le_of_ble_eq_true rfl, Nat.le_of_ble_eq_true rfl⟩  ?_
    refine sv_ri (fun v28 e28 => ?_)
    exact sv_iretX C (by unfold perC; rw [if_neg (Int32.not_lt.mpr q1)]; exact ok2) hr dX5_person_31 (Nat.le_of_ble_eq_true rfl) (Nat.le_of_ble_eq_true rfl) (by rw [e28, nI_clamp (by omega), nI_clamp (by omega)]) (fun _ h => h)
  · exact sv_throwIA C hl hxt ks_193 dX5_person_4 dX5_person_7 dX5_person_8 dX5_person_10 dX5_person_13 (Nat.le_of_ble_eq_true rfl) (Nat.le_of_ble_eq_true rfl) (Nat.le_of_ble_eq_true rfl) (Nat.le_of_ble_eq_true rfl) (Nat.le_of_ble_eq_true rfl) (Nat.le_of_ble_eq_true rfl) (⟨by unfold perC; rw [if_pos (Int32.not_le.mp q1)], rfl⟩) sv_Wz_grow

set_option maxHeartbeats 4000000 in
set_option maxRecDepth 100000 in
theorem met_counted (l : Launch) (G : sv_G) (z : Nat) (M : sv_M) (o : Int64) (w9 : Nat) (hw9 : w9 < 11) (hd : Nat) (h1 : M 8 1 = nI hd) (b6 : M 0 6 = 0 ∨ M 0 6 = 1) (b7 : M 0 7 = 0 ∨ M 0 7 = 1) : sv_Met l G yX5_counted cX5_counted 2 (some .int) 3 [.ref (sv_r G 14 0), .int (nI w9)] (sv_W G z M o) (some (.int (couv (M 0) hd w9))) (sv_W G z M o) := by
  refine sv_ofW (by decide) kw_300 (Nat.le_of_ble_eq_true rfl) ?_
  intro p e s mth args below meth c hr C _
  refine sv_sub (lv' := [(0, .ref (sv_r G 14 0)), (1, .int (nI w9))]) rfl ?_
  refine sv_iload_n (i := 1) (x := nI w9) C dX5_counted_0 rfl rfl ?_
  rcases (show w9 = 0 ∨ w9 = 1 ∨ w9 = 2 ∨ w9 = 3 ∨ w9 = 4 ∨ w9 = 5 ∨ w9 = 6 ∨ w9 = 7 ∨ w9 = 8 ∨ w9 = 9 ∨ w9 = 10 by omega) with rfl | rfl | rfl | rfl | rfl | rfl | rfl | rfl | rfl | rfl | rfl
  · refine sv_tableIn (off := 55) C 56 dX5_counted_1 (by decide) (by decide) (by decide) (by decide) ?_
    refine sv_aload_n (i := 0) (x := sv_r G 14 0) C dX5_counted_56 rfl rfl ?_
    refine sv_get_5_0 C kw_170 dX5_counted_57 ?_
    refine sv_get_3_5 C (by decide) kw_119 dX5_counted_60 ?_
    refine sv_topi (fun v60 e60 => ?_)
    exact sv_iret C hr dX5_counted_63 (Nat.le_of_ble_eq_true rfl) (Nat.le_of_ble_eq_true rfl) e60 (fun _ h => h)
  · refine sv_tableIn (off := 63) C 64 dX5_counted_1 (by decide) (by decide) (by decide) (by decide) ?_
    refine sv_aload_n (i := 0) (x := sv_r G 14 0) C dX5_counted_64 rfl rfl ?_
    refine sv_get_5_0 C kw_170 dX5_counted_65 ?_
    refine sv_get_3_1 C (by decide) kw_111 dX5_counted_68 ?_
    refine sv_get_2_4 C (by decide) kw_86 dX5_counted_71 ?_
    refine sv_topi (fun v71 e71 => ?_)
    exact sv_iret C hr dX5_counted_74 (Nat.le_of_ble_eq_true rfl) (Nat.le_of_ble_eq_true rfl) e71 (fun _ h => h)
  · refine sv_tableIn (off := 74) C 75 dX5_counted_1 (by decide) (by decide) (by decide) (by decide) ?_
    refine sv_aload_n (i := 0) (x := sv_r G 14 0) C dX5_counted_75 rfl rfl ?_
    refine sv_get_5_0 C kw_170 dX5_counted_76 ?_
    refine sv_get_3_1 C (by decide) kw_111 dX5_counted_79 ?_
    refine sv_get_2_5 C (by decide) kw_89 dX5_counted_82 ?_
    refine sv_topi (fun v82 e82 => ?_)
    exact sv_iret C hr dX5_counted_85 (Nat.le_of_ble_eq_true rfl) (Nat.le_of_ble_eq_true rfl) e82 (fun _ h => h)
  · refine sv_tableIn (off := 85) C 86 dX5_counted_1 (by decide) (by decide) (by decide) (by decide) ?_
    refine sv_aload_n (i := 0) (x := sv_r G 14 0) C dX5_counted_86 rfl rfl ?_
    refine sv_get_5_0 C kw_170 dX5_counted_87 ?_
    refine sv_callV (as := []) (rest := []) C (met_lampsBurning l G _ _ _ 0 (by decide) b6 b7) fX3_lampsBurning kw_301 (sv_recv0 C (by decide)) ⟨Nat.le_of_ble_eq_true rfl, Nat.le_of_ble_eq_true rfl⟩ (Nat.le_of_ble_eq_true rfl) dX5_counted_90 ⟨Nat.zero_le _, Nat.zero_le _⟩  ?_
    refine sv_ri (fun v90 e90 => ?_)
    exact sv_iret C hr dX5_counted_93 (Nat.le_of_ble_eq_true rfl) (Nat.le_of_ble_eq_true rfl) e90 (fun _ h => h)
  · refine sv_tableIn (off := 93) C 94 dX5_counted_1 (by decide) (by decide) (by decide) (by decide) ?_
    refine sv_aload_n (i := 0) (x := sv_r G 14 0) C dX5_counted_94 rfl rfl ?_
    refine sv_get_5_0 C kw_170 dX5_counted_95 ?_
    refine sv_get_3_0 C (by decide) kw_109 dX5_counted_98 ?_
    refine sv_get_0_2 C (by decide) kw_49 dX5_counted_101 ?_
    refine sv_callS (as := [_]) (rest := []) C (met_sumOf l G _ _ _ 4 0 (sv_okj (by decide) (by decide)) rfl) fX5_sumOf kw_305 ⟨Nat.le_of_ble_eq_true rfl, Nat.le_of_ble_eq_true rfl⟩ (Nat.le_of_ble_eq_true rfl) dX5_counted_104 ⟨Nat.zero_le _, Nat.zero_le _⟩  ?_
    refine sv_ri (fun v104 e104 => ?_)
    exact sv_iret C hr dX5_counted_107 (Nat.le_of_ble_eq_true rfl) (Nat.le_of_ble_eq_true rfl) e104 (fun _ h => h)
  · refine sv_tableIn (off := 107) C 108 dX5_counted_1 (by decide) (by decide) (by decide) (by decide) ?_
    refine sv_aload_n (i := 0) (x := sv_r G 14 0) C dX5_counted_108 rfl rfl ?_
    refine sv_get_5_0 C kw_170 dX5_counted_109 ?_
    refine sv_get_3_0 C (by decide) kw_109 dX5_counted_112 ?_
    refine sv_get_0_3 C (by decide) kw_52 dX5_counted_115 ?_
    refine sv_callS (as := [_]) (rest := []) C (met_sumOf l G _ _ _ 5 0 (sv_okj (by decide) (by decide)) rfl) fX5_sumOf kw_305 ⟨Nat.le_of_ble_eq_true rfl, Nat.le_of_ble_eq_true rfl⟩ (Nat.le_of_ble_eq_true rfl) dX5_counted_118 ⟨Nat.zero_le _, Nat.zero_le _⟩  ?_
    refine sv_ri (fun v118 e118 => ?_)
    exact sv_iret C hr dX5_counted_121 (Nat.le_of_ble_eq_true rfl) (Nat.le_of_ble_eq_true rfl) e118 (fun _ h => h)
  · refine sv_tableIn (off := 121) C 122 dX5_counted_1 (by decide) (by decide) (by decide) (by decide) ?_
    refine sv_aload_n (i := 0) (x := sv_r G 14 0) C dX5_counted_122 rfl rfl ?_
    refine sv_get_5_0 C kw_170 dX5_counted_123 ?_
    refine sv_get_3_0 C (by decide) kw_109 dX5_counted_126 ?_
    refine sv_get_0_4 C (by decide) kw_55 dX5_counted_129 ?_
    refine sv_callS (as := [_]) (rest := []) C (met_sumOf l G _ _ _ 6 0 (sv_okj (by decide) (by decide)) rfl) fX5_sumOf kw_305 ⟨Nat.le_of_ble_eq_true rfl, Nat.le_of_ble_eq_true rfl⟩ (Nat.le_of_ble_eq_true rfl) dX5_counted_132 ⟨Nat.zero_le _, Nat.zero_le _⟩  ?_
    refine sv_ri (fun v132 e132 => ?_)
    exact sv_iret C hr dX5_counted_135 (Nat.le_of_ble_eq_true rfl) (Nat.le_of_ble_eq_true rfl) e132 (fun _ h => h)
  · refine sv_tableIn (off := 135) C 136 dX5_counted_1 (by decide) (by decide) (by decide) (by decide) ?_
    refine sv_aload_n (i := 0) (x := sv_r G 14 0) C dX5_counted_136 rfl rfl ?_
    refine sv_get_5_0 C kw_170 dX5_counted_137 ?_
    refine sv_get_3_3 C (by decide) kw_115 dX5_counted_140 ?_
    refine sv_set (v' := .int (M 0 6)) (congrArg Value.int rfl) ?_
    refine sv_callS (as := [_]) (rest := []) C (met_numberOf l G _ (M 0 6) b6) fX5_numberOf kw_308 ⟨Nat.le_of_ble_eq_true rfl, Nat.le_of_ble_eq_true rfl⟩ (Nat.le_of_ble_eq_true rfl) dX5_counted_143 ⟨Nat.zero_le _, Nat.zero_le _⟩  ?_
    refine sv_ri (fun v143 e143 => ?_)
    exact sv_iret C hr dX5_counted_146 (Nat.le_of_ble_eq_true rfl) (Nat.le_of_ble_eq_true rfl) e143 (fun _ h => h)
  · refine sv_tableIn (off := 146) C 147 dX5_counted_1 (by decide) (by decide) (by decide) (by decide) ?_
    refine sv_aload_n (i := 0) (x := sv_r G 14 0) C dX5_counted_147 rfl rfl ?_
    refine sv_get_5_0 C kw_170 dX5_counted_148 ?_
    refine sv_get_3_4 C (by decide) kw_117 dX5_counted_151 ?_
    refine sv_set (v' := .int (M 0 7)) (congrArg Value.int rfl) ?_
    refine sv_callS (as := [_]) (rest := []) C (met_numberOf l G _ (M 0 7) b7) fX5_numberOf kw_308 ⟨Nat.le_of_ble_eq_true rfl, Nat.le_of_ble_eq_true rfl⟩ (Nat.le_of_ble_eq_true rfl) dX5_counted_154 ⟨Nat.zero_le _, Nat.zero_le _⟩  ?_
    refine sv_ri (fun v154 e154 => ?_)
    exact sv_iret C hr dX5_counted_157 (Nat.le_of_ble_eq_true rfl) (Nat.le_of_ble_eq_true rfl) e154 (fun _ h => h)
  · refine sv_tableIn (off := 157) C 158 dX5_counted_1 (by decide) (by decide) (by decide) (by decide) ?_
    refine sv_bipush (v := nI 8) C dX5_counted_158 (by decide) ?_
    refine sv_aload_n (i := 0) (x := sv_r G 14 0) C dX5_counted_160 rfl rfl ?_
    refine sv_get_5_0 C kw_170 dX5_counted_161 ?_
    refine sv_get_3_0 C (by decide) kw_109 dX5_counted_164 ?_
    refine sv_get_0_1 C (by decide) kw_45 dX5_counted_167 ?_
    refine sv_callS (as := [_]) (rest := [_]) C (met_sumOf l G _ _ _ 3 0 (sv_okj (by decide) (by decide)) rfl) fX5_sumOf kw_305 ⟨Nat.le_of_ble_eq_true rfl, Nat.le_of_ble_eq_true rfl⟩ (Nat.le_of_ble_eq_true rfl) dX5_counted_170 ⟨Nat.zero_le _, Nat.zero_le _⟩  ?_
    refine sv_riS (snd8 (M 0)) rfl ?_
    refine sv_isub C dX5_counted_173 ?_
    refine sv_set (v' := .int (nI 8 - snd8 (M 0))) (congrArg Value.int rfl) ?_
    exact sv_iret C hr dX5_counted_174 (Nat.le_of_ble_eq_true rfl) (Nat.le_of_ble_eq_true rfl) rfl (fun _ h => h)
  · refine sv_tableOut C 175 dX5_counted_1 (Or.inr (by decide)) (by decide) ?_
    refine sv_aload_n (i := 0) (x := sv_r G 14 0) C dX5_counted_175 rfl rfl ?_
    refine sv_get_5_2 C kw_172 dX5_counted_176 ?_
    refine sv_get_1_2 C kw_148 dX5_counted_179 ?_
    refine sv_topi (fun v179 e179 => ?_)
    exact sv_iret C hr dX5_counted_182 (Nat.le_of_ble_eq_true rfl) (Nat.le_of_ble_eq_true rfl) (e179.trans h1) (fun _ h => h)

set_option maxHeartbeats 4000000 in
set_option maxRecDepth 100000 in
theorem met_count (l : Launch) (G : sv_G) (hl : l.stackTraces = false) (z : Nat) (M : sv_M) (o : Int64) (f : Int32) (hd : Nat) (h1 : M 8 1 = nI hd) (b6 : M 0 6 = 0 ∨ M 0 6 = 1) (b7 : M 0 7 = 0 ∨ M 0 7 = 1) : sv_MetX l G yX5_count cX5_count 2 (some .int) 7 1 [.ref (sv_r G 14 0), .int f] (sv_W G z M o) (inC 11 f = 0) (some (.int (couv (M 0) hd f.toNatClampNeg))) (sv_W G z M o) (sv_E1 sv_IA (inC 11 f)) (sv_Wz G z M o) := by
  refine sv_ofWX (by decide) kw_296 (Nat.le_of_ble_eq_true rfl) ?_
  intro p e s mth args below meth c hr C hxt
  refine sv_sub (lv' := [(0, .ref (sv_r G 14 0)), (1, .int f)]) rfl ?_
  refine sv_iload_n (i := 1) (x := f) C dX5_count_0 rfl rfl ?_
  refine sv_bipush (v := nI 11) C dX5_count_1 (by decide) ?_
  refine sv_callSX (as := [_, _]) (rest := []) C (met_checkWhat l G hl _ _ _ f 11) fX5_checkWhat kw_258 ⟨Nat.le_of_ble_eq_true rfl, Nat.le_of_ble_eq_true rfl⟩ (Nat.le_of_ble_eq_true rfl) dX5_count_3 ⟨Nat.le_of_ble_eq_true rfl, Nat.le_of_ble_eq_true rfl⟩ (fun E hE => sv_out C hxt (Nat.le_of_ble_eq_true rfl) (Nat.le_of_ble_eq_true rfl) (hE) (fun _ h => h)) ?_
  intro ok1
  refine sv_rv ?_
  obtain ⟨g1, hg1, rfl⟩ := inC_0 (by decide) ok1
  refine sv_aload_n (i := 0) (x := sv_r G 14 0) C dX5_count_6 rfl rfl ?_
  refine sv_iload_n (i := 1) (x := nI g1) C dX5_count_7 rfl rfl ?_
  refine sv_callV (as := [_]) (rest := []) C (met_counted l G _ _ _ g1 hg1 hd h1 b6 b7) fX5_counted kw_297 (sv_recv14 C) ⟨Nat.le_of_ble_eq_true rfl, Nat.le_of_ble_eq_true rfl⟩ (Nat.le_of_ble_eq_true rfl) dX5_count_8 ⟨Nat.le_of_ble_eq_true rfl, Nat.le_of_ble_eq_true rfl⟩  ?_
  refine sv_ri (fun v8 e8 => ?_)
  exact sv_iretX C ok1 hr dX5_count_11 (Nat.le_of_ble_eq_true rfl) (Nat.le_of_ble_eq_true rfl) (by rw [e8, nI_clamp (by omega)]) (fun _ h => h)

set_option maxHeartbeats 4000000 in
set_option maxRecDepth 100000 in
theorem met_setting (l : Launch) (G : sv_G) (hl : l.stackTraces = false) (z : Nat) (M : sv_M) (o : Int64) (f : Int32) : sv_MetX l G yX5_setting cX5_setting 2 (some .int) 7 1 [.ref (sv_r G 14 0), .int f] (sv_W G z M o) (inC 4 f = 0) (some (.int (M 0 f.toNatClampNeg))) (sv_W G z M o) (sv_E1 sv_IO (inC 4 f)) (sv_Wz G z M o) := by
  refine sv_ofWX (by decide) kw_314 (Nat.le_of_ble_eq_true rfl) ?_
  intro p e s mth args below meth c hr C hxt
  refine sv_sub (lv' := [(0, .ref (sv_r G 14 0)), (1, .int f)]) rfl ?_
  refine sv_iload_n (i := 1) (x := f) C dX5_setting_0 rfl rfl ?_
  refine sv_callSX (as := [_]) (rest := []) C (met_checkSetting l G hl _ _ _ f) fX5_checkSetting kw_315 ⟨Nat.le_of_ble_eq_true rfl, Nat.le_of_ble_eq_true rfl⟩ (Nat.le_of_ble_eq_true rfl) dX5_setting_1 ⟨Nat.le_of_ble_eq_true rfl, Nat.le_of_ble_eq_true rfl⟩ (fun E hE => sv_out C hxt (Nat.le_of_ble_eq_true rfl) (Nat.le_of_ble_eq_true rfl) (hE) (fun _ h => h)) ?_
  intro ok1
  refine sv_rv ?_
  obtain ⟨g1, hg1, rfl⟩ := inC_0 (by decide) ok1
  refine sv_aload_n (i := 0) (x := sv_r G 14 0) C dX5_setting_4 rfl rfl ?_
  refine sv_get_5_0 C kw_170 dX5_setting_5 ?_
  refine sv_get_3_2 C (by decide) kw_113 dX5_setting_8 ?_
  refine sv_iload_n (i := 1) (x := nI g1) C dX5_setting_11 rfl rfl ?_
  refine sv_callS (as := [_, _]) (rest := []) C (met_atN 0 g1 rfl rfl (sv_okj (by decide) (by decide)) rfl (by show _ < 4; omega)) fX5_at kw_320 ⟨Nat.le_of_ble_eq_true rfl, Nat.le_of_ble_eq_true rfl⟩ (Nat.le_of_ble_eq_true rfl) dX5_setting_12 ⟨Nat.le_of_ble_eq_true rfl, Nat.le_of_ble_eq_true rfl⟩  ?_
  refine sv_ri (fun v12 e12 => ?_)
  exact sv_iretX C ok1 hr dX5_setting_15 (Nat.le_of_ble_eq_true rfl) (Nat.le_of_ble_eq_true rfl) (by rw [e12, nI_clamp (by omega)]) (fun _ h => h)

set_option maxHeartbeats 4000000 in
set_option maxRecDepth 100000 in
theorem met_outlook (l : Launch) (G : sv_G) (z : Nat) (M : sv_M) (o : Int64) (t w9 : Nat) (ht : t < 2147483648) (hw9 : w9 < 4) (b6 : M 0 6 = 0 ∨ M 0 6 = 1) (b7 : M 0 7 = 0 ∨ M 0 7 = 1) (hv : vd (M 0)) : sv_Met l G yX5_outlook cX5_outlook 4 (some .int) 7 [.ref (sv_r G 14 0), .int (nI t), .int (nI w9)] (sv_W G z M o) (some (.int (outv (M 0) t w9))) (sv_W1 G z M o) := by
  refine sv_ofW (by decide) kw_332 (Nat.le_of_ble_eq_true rfl) ?_
  intro p e s mth args below meth c hr C _
  refine sv_sub (lv' := [(0, .ref (sv_r G 14 0)), (1, .int (nI t)), (2, .int (nI w9))]) rfl ?_
  refine sv_aload_n (i := 0) (x := sv_r G 14 0) C dX5_outlook_0 rfl rfl ?_
  refine sv_get_5_1 C kw_171 dX5_outlook_1 ?_
  refine sv_aload_n (i := 0) (x := sv_r G 14 0) C dX5_outlook_4 rfl rfl ?_
  refine sv_get_5_0 C kw_170 dX5_outlook_5 ?_
  refine sv_callV (as := [_]) (rest := []) C (met_S_copy l G _ _ _ 0 1 (by decide) (by decide) (by omega) b6 b7) fX3_copyFrom kw_333 (sv_recv0 C (by decide)) ⟨Nat.le_of_ble_eq_true rfl, Nat.le_of_ble_eq_true rfl⟩ (Nat.le_of_ble_eq_true rfl) dX5_outlook_8 ⟨Nat.zero_le _, Nat.zero_le _⟩  ?_
  refine sv_rv ?_
  refine sv_aload_n (i := 0) (x := sv_r G 14 0) C dX5_outlook_11 rfl rfl ?_
  refine sv_get_5_1 C kw_171 dX5_outlook_12 ?_
  refine sv_iload_n (i := 1) (x := nI t) C dX5_outlook_15 rfl rfl ?_
  refine sv_callV (as := [_]) (rest := []) C (met_letPass l G _ _ _ 1 (by decide) (by rw [sv_us]; exact hv) t ht) fX3_letPass kw_347 (sv_recv0 C (by decide)) ⟨Nat.le_of_ble_eq_true rfl, Nat.le_of_ble_eq_true rfl⟩ (Nat.le_of_ble_eq_true rfl) dX5_outlook_16 ⟨Nat.zero_le _, Nat.zero_le _⟩  ?_
  refine sv_riS (dks (passv t (M 0)) - dks (M 0)) (by rw [sv_us]) ?_
  have hvp := vd_many (vd_pass hv t)
  refine sv_wd (sv_eqW (show _ = sv_u M 1 (passv t (M 0)) from by simp only [sv_us, sv_uu])) ?_
  refine sv_istore_n (i := 3) C [(0, .ref (sv_r G 14 0)), (1, .int (nI t)), (2, .int (nI w9)), (3, .int (dks (passv t (M 0)) - dks (M 0)))] dX5_outlook_19 rfl (by decide) rfl ?_
  refine sv_iload_n (i := 2) (x := nI w9) C dX5_outlook_20 rfl rfl ?_
  rcases (show w9 = 0 ∨ w9 = 1 ∨ w9 = 2 ∨ w9 = 3 by omega) with rfl | rfl | rfl | rfl
  · refine sv_tableIn (off := 27) C 48 dX5_outlook_21 (by decide) (by decide) (by decide) (by decide) ?_
    refine sv_iload_n (i := 3) (x := dks (passv t (M 0)) - dks (M 0)) C dX5_outlook_48 rfl rfl ?_
    exact sv_iret C hr dX5_outlook_49 (Nat.le_of_ble_eq_true rfl) (Nat.le_of_ble_eq_true rfl) rfl (fun H h => sv_W1_of H h)
  · refine sv_tableIn (off := 29) C 50 dX5_outlook_21 (by decide) (by decide) (by decide) (by decide) ?_
    refine sv_aload_n (i := 0) (x := sv_r G 14 0) C dX5_outlook_50 rfl rfl ?_
    refine sv_get_5_1 C kw_171 dX5_outlook_51 ?_
    refine sv_get_3_0 C (by decide) kw_109 dX5_outlook_54 ?_
    refine sv_get_0_4 C (by decide) kw_55 dX5_outlook_57 ?_
    refine sv_callS (as := [_]) (rest := []) C (met_sumOf l G _ _ _ 6 1 (sv_okj (by decide) (by decide)) rfl) fX5_sumOf kw_305 ⟨Nat.le_of_ble_eq_true rfl, Nat.le_of_ble_eq_true rfl⟩ (Nat.le_of_ble_eq_true rfl) dX5_outlook_60 ⟨Nat.zero_le _, Nat.zero_le _⟩  ?_
    refine sv_riS (eng (passv t (M 0))) (by show smI (fun f => sv_u M 1 (passv t (M 0)) 1 (6 * f + 13)) 8 = _; rw [sv_us]; rfl) ?_
    refine sv_aload_n (i := 0) (x := sv_r G 14 0) C dX5_outlook_63 rfl rfl ?_
    refine sv_get_5_0 C kw_170 dX5_outlook_64 ?_
    refine sv_get_3_0 C (by decide) kw_109 dX5_outlook_67 ?_
    refine sv_get_0_4 C (by decide) kw_55 dX5_outlook_70 ?_
    refine sv_callS (as := [_]) (rest := [_]) C (met_sumOf l G _ _ _ 6 0 (sv_okj (by decide) (by decide)) rfl) fX5_sumOf kw_305 ⟨Nat.le_of_ble_eq_true rfl, Nat.le_of_ble_eq_true rfl⟩ (Nat.le_of_ble_eq_true rfl) dX5_outlook_73 ⟨Nat.zero_le _, Nat.zero_le _⟩  ?_
    refine sv_riS (eng (M 0)) (by show smI (fun f => sv_u M 1 (passv t (M 0)) 0 (6 * f + 13)) 8 = _; rw [sv_un (by decide)]; rfl) ?_
    refine sv_isub C dX5_outlook_76 ?_
    refine sv_set (v' := .int (eng (passv t (M 0)) - eng (M 0))) (congrArg Value.int rfl) ?_
    exact sv_iret C hr dX5_outlook_77 (Nat.le_of_ble_eq_true rfl) (Nat.le_of_ble_eq_true rfl) rfl (fun H h => sv_W1_of H h)
  · refine sv_tableIn (off := 57) C 78 dX5_outlook_21 (by decide) (by decide) (by decide) (by decide) ?_
    refine sv_aload_n (i := 0) (x := sv_r G 14 0) C dX5_outlook_78 rfl rfl ?_
    refine sv_get_5_1 C kw_171 dX5_outlook_79 ?_
    refine sv_get_3_1 C (by decide) kw_111 dX5_outlook_82 ?_
    refine sv_get_2_4 C (by decide) kw_86 dX5_outlook_85 ?_
    refine sv_set (v' := .int (passv t (M 0) 57)) (congrArg Value.int (by rw [sv_us])) ?_
    exact sv_iret C hr dX5_outlook_88 (Nat.le_of_ble_eq_true rfl) (Nat.le_of_ble_eq_true rfl) rfl (fun H h => sv_W1_of H h)
  · refine sv_tableOut C 89 dX5_outlook_21 (Or.inr (by decide)) (by decide) ?_
    refine sv_aload_n (i := 0) (x := sv_r G 14 0) C dX5_outlook_89 rfl rfl ?_
    refine sv_get_5_1 C kw_171 dX5_outlook_90 ?_
    refine sv_callV (as := []) (rest := []) C (met_lampsBurning l G _ _ _ 1 (by decide) (by rw [sv_us]; exact hvp.2.2.1) (by rw [sv_us]; exact hvp.2.2.2.1)) fX3_lampsBurning kw_301 (sv_recv0 C (by decide)) ⟨Nat.le_of_ble_eq_true rfl, Nat.le_of_ble_eq_true rfl⟩ (Nat.le_of_ble_eq_true rfl) dX5_outlook_93 ⟨Nat.zero_le _, Nat.zero_le _⟩  ?_
    refine sv_riS (litI (passv t (M 0)) 8) (by rw [sv_us]) ?_
    exact sv_iret C hr dX5_outlook_96 (Nat.le_of_ble_eq_true rfl) (Nat.le_of_ble_eq_true rfl) rfl (fun H h => sv_W1_of H h)

set_option maxHeartbeats 4000000 in
set_option maxRecDepth 100000 in
theorem met_ifPassed (l : Launch) (G : sv_G) (hl : l.stackTraces = false) (z : Nat) (M : sv_M) (o : Int64) (f v : Int32) (b6 : M 0 6 = 0 ∨ M 0 6 = 1) (b7 : M 0 7 = 0 ∨ M 0 7 = 1) (hv : vd (M 0)) : sv_MetX l G yX5_ifPassed cX5_ifPassed 3 (some .int) 8 2 [.ref (sv_r G 14 0), .int f, .int v] (sv_W G z M o) (ifpC f v = 0) (some (.int (outv (M 0) f.toNatClampNeg v.toNatClampNeg))) (sv_W1 G z M o) (sv_E1 sv_IA (ifpC f v)) (sv_Wz G z M o) := by
  refine sv_ofWX (by decide) kw_324 (Nat.le_of_ble_eq_true rfl) ?_
  intro p e s mth args below meth c hr C hxt
  refine sv_sub (lv' := [(0, .ref (sv_r G 14 0)), (1, .int f), (2, .int v)]) rfl ?_
  refine sv_iload_n (i := 1) (x := f) C dX5_ifPassed_0 rfl rfl ?_
  refine sv_callSX (as := [_]) (rest := []) C (met_checkSeconds l G hl _ _ _ f) fX5_checkSeconds kw_325 ⟨Nat.le_of_ble_eq_true rfl, Nat.le_of_ble_eq_true rfl⟩ (Nat.le_of_ble_eq_true rfl) dX5_ifPassed_1 ⟨Nat.le_of_ble_eq_true rfl, Nat.le_of_ble_eq_true rfl⟩ (fun E hE => sv_out C hxt (Nat.le_of_ble_eq_true rfl) (Nat.le_of_ble_eq_true rfl) (⟨by unfold ifpC; rw [if_pos hE.1], hE.2⟩) (fun _ h => h)) ?_
  intro ok1
  refine sv_rv ?_
  refine sv_iload_n (i := 2) (x := v) C dX5_ifPassed_4 rfl rfl ?_
  refine sv_iconst (v := nI 4) C dX5_ifPassed_5 (by decide) ?_
  refine sv_callSX (as := [_, _]) (rest := []) C (met_checkWhat l G hl _ _ _ v 4) fX5_checkWhat kw_258 ⟨Nat.le_of_ble_eq_true rfl, Nat.le_of_ble_eq_true rfl⟩ (Nat.le_of_ble_eq_true rfl) dX5_ifPassed_6 ⟨Nat.le_of_ble_eq_true rfl, Nat.le_of_ble_eq_true rfl⟩ (fun E hE => sv_out C hxt (Nat.le_of_ble_eq_true rfl) (Nat.le_of_ble_eq_true rfl) (⟨by unfold ifpC; rw [if_neg (fun h => absurd (h.symm.trans ok1) (by decide))]; exact hE.1, hE.2⟩) (fun _ h => h)) ?_
  intro ok2
  refine sv_rv ?_
  obtain ⟨n1, hn1, hn2, rfl⟩ := secC_0 ok1
  obtain ⟨g2, hg2, rfl⟩ := inC_0 (by decide) ok2
  refine sv_aload_n (i := 0) (x := sv_r G 14 0) C dX5_ifPassed_9 rfl rfl ?_
  refine sv_iload_n (i := 1) (x := nI n1) C dX5_ifPassed_10 rfl rfl ?_
  refine sv_iload_n (i := 2) (x := nI g2) C dX5_ifPassed_11 rfl rfl ?_
  refine sv_callV (as := [_, _]) (rest := []) C (met_outlook l G _ _ _ n1 g2 (by omega) hg2 b6 b7 hv) fX5_outlook kw_329 (sv_recv14 C) ⟨Nat.le_of_ble_eq_true rfl, Nat.le_of_ble_eq_true rfl⟩ (Nat.le_of_ble_eq_true rfl) dX5_ifPassed_12 ⟨Nat.le_of_ble_eq_true rfl, Nat.le_of_ble_eq_true rfl⟩  ?_
  refine sv_ri (fun v12 e12 => ?_)
  exact sv_iretX C (by unfold ifpC; rw [if_neg (fun h => absurd (h.symm.trans ok1) (by decide))]; exact ok2) hr dX5_ifPassed_15 (Nat.le_of_ble_eq_true rfl) (Nat.le_of_ble_eq_true rfl) (by rw [e12, nI_clamp (by omega), nI_clamp (by omega)]) (fun _ h => h)

set_option maxHeartbeats 4000000 in
set_option maxRecDepth 100000 in
theorem met_worst (l : Launch) (G : sv_G) (z : Nat) (M : sv_M) (o : Int64) : sv_Met l G yX5_worst cX5_worst 1 (some .int) 2 [.ref (sv_r G 14 0)] (sv_W G z M o) (some (.int (mm (M 0) 8))) (sv_W G z M o) := by
  refine sv_ofW (by decide) kw_460 (Nat.le_of_ble_eq_true rfl) ?_
  intro p e s mth args below meth c hr C _
  refine sv_sub (lv' := [(0, .ref (sv_r G 14 0))]) rfl ?_
  refine sv_aload_n (i := 0) (x := sv_r G 14 0) C dX5_worst_0 rfl rfl ?_
  refine sv_get_5_0 C kw_170 dX5_worst_1 ?_
  refine sv_get_3_0 C (by decide) kw_109 dX5_worst_4 ?_
  refine sv_callV (as := []) (rest := []) C (met_mostMissed l G _ _ _ 0 (by decide)) fX0_mostMissed kw_461 (sv_recv1 C (by decide)) ⟨Nat.le_of_ble_eq_true rfl, Nat.le_of_ble_eq_true rfl⟩ (Nat.le_of_ble_eq_true rfl) dX5_worst_7 ⟨Nat.zero_le _, Nat.zero_le _⟩  ?_
  refine sv_ri (fun v7 e7 => ?_)
  exact sv_iret C hr dX5_worst_10 (Nat.le_of_ble_eq_true rfl) (Nat.le_of_ble_eq_true rfl) e7 (fun _ h => h)

set_option maxHeartbeats 4000000 in
set_option maxRecDepth 100000 in
theorem met_lightness (l : Launch) (G : sv_G) (z : Nat) (M : sv_M) (o : Int64) (hn : 0 < M 0 8 → vf_n64 (FP.ddiv (FP.i2d (M 0 8 - dks (M 0) - dms (M 0))) (FP.i2d (M 0 8)))) : sv_Met l G yX5_lightness cX5_lightness 1 (some .double) 2 [.ref (sv_r G 14 0)] (sv_W G z M o) (some (.double (lsh (M 0)))) (sv_W G z M o) := by
  refine sv_ofW (by decide) kw_468 (Nat.le_of_ble_eq_true rfl) ?_
  intro p e s mth args below meth c hr C _
  refine sv_sub (lv' := [(0, .ref (sv_r G 14 0))]) rfl ?_
  refine sv_aload_n (i := 0) (x := sv_r G 14 0) C dX5_lightness_0 rfl rfl ?_
  refine sv_get_5_0 C kw_170 dX5_lightness_1 ?_
  refine sv_callV (as := []) (rest := []) C (met_lightShare l G _ _ _ 0 (by decide) hn) fX3_lightShare kw_469 (sv_recv0 C (by decide)) ⟨Nat.le_of_ble_eq_true rfl, Nat.le_of_ble_eq_true rfl⟩ (Nat.le_of_ble_eq_true rfl) dX5_lightness_4 ⟨Nat.zero_le _, Nat.zero_le _⟩  ?_
  refine sv_rd (fun v4 e4 => ?_)
  exact sv_dret C hr dX5_lightness_7 (Nat.le_of_ble_eq_true rfl) (Nat.le_of_ble_eq_true rfl) e4 (fun _ h => h)

