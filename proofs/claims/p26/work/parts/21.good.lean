/-! calls with good arguments: nothing is thrown, nothing is made -/
set_option maxHeartbeats 4000000 in
set_option maxRecDepth 100000 in
theorem met0_checkFloor (l : Launch) (G : sv_G) (Wd : Heap → Prop) (f : Nat) (hf : f < 8) : sv_Met l G yX5_checkFloor cX5_checkFloor 1 none 0 [.int (nI f)] Wd none Wd := by
  refine sv_ofW (by decide) kw_189 (Nat.le_of_ble_eq_true rfl) ?_
  intro p e s mth args below meth c hr C _
  refine sv_sub (lv' := [(0, .int (nI f))]) rfl ?_
  refine sv_iload_n (i := 0) (x := nI f) C dX5_checkFloor_0 rfl rfl ?_
  refine sv_if_lt C 10 dX5_checkFloor_1 (by decide) (fun q1 => ?_) (fun q1 => ?_)
  · exact absurd q1 (nI_pos (by omega))
  · refine sv_iload_n (i := 0) (x := nI f) C dX5_checkFloor_4 rfl rfl ?_
    refine sv_bipush (v := nI 8) C dX5_checkFloor_5 (by decide) ?_
    refine sv_icmp_ltN C 20 dX5_checkFloor_7 (by decide) (by omega) (by omega) (fun q7 => ?_) (fun q7 => ?_)
    · exact sv_vret C hr dX5_checkFloor_20 (Nat.le_of_ble_eq_true rfl) (Nat.le_of_ble_eq_true rfl) (fun _ h => h)
    · exact absurd hf q7

set_option maxHeartbeats 4000000 in
set_option maxRecDepth 100000 in
theorem met0_checkSetting (l : Launch) (G : sv_G) (Wd : Heap → Prop) (f : Nat) (hf : f < 4) : sv_Met l G yX5_checkSetting cX5_checkSetting 1 none 0 [.int (nI f)] Wd none Wd := by
  refine sv_ofW (by decide) kw_317 (Nat.le_of_ble_eq_true rfl) ?_
  intro p e s mth args below meth c hr C _
  refine sv_sub (lv' := [(0, .int (nI f))]) rfl ?_
  refine sv_iload_n (i := 0) (x := nI f) C dX5_checkSetting_0 rfl rfl ?_
  refine sv_if_lt C 12 dX5_checkSetting_1 (by decide) (fun q1 => ?_) (fun q1 => ?_)
  · exact absurd q1 (nI_pos (by omega))
  · refine sv_iload_n (i := 0) (x := nI f) C dX5_checkSetting_4 rfl rfl ?_
    refine sv_gets0 C kw_318 dX5_checkSetting_5 ?_
    refine sv_salen0 C dX5_checkSetting_8 ?_
    refine sv_icmp_ltN C 22 dX5_checkSetting_9 (by decide) (by omega) (by omega) (fun q9 => ?_) (fun q9 => ?_)
    · exact sv_vret C hr dX5_checkSetting_22 (Nat.le_of_ble_eq_true rfl) (Nat.le_of_ble_eq_true rfl) (fun _ h => h)
    · exact absurd hf q9

set_option maxHeartbeats 4000000 in
set_option maxRecDepth 100000 in
theorem met0_checkSeconds (l : Launch) (G : sv_G) (Wd : Heap → Prop) (f : Nat) (h1 : 1 ≤ f) (hf : f ≤ 300) : sv_Met l G yX5_checkSeconds cX5_checkSeconds 1 none 0 [.int (nI f)] Wd none Wd := by
  refine sv_ofW (by decide) kw_327 (Nat.le_of_ble_eq_true rfl) ?_
  intro p e s mth args below meth c hr C _
  refine sv_sub (lv' := [(0, .int (nI f))]) rfl ?_
  refine sv_iload_n (i := 0) (x := nI f) C dX5_checkSeconds_0 rfl rfl ?_
  refine sv_iconst (v := nI 1) C dX5_checkSeconds_1 (by decide) ?_
  refine sv_icmp_ltN C 12 dX5_checkSeconds_2 (by decide) (by omega) (by omega) (fun q2 => ?_) (fun q2 => ?_)
  · exact absurd q2 (by omega)
  · refine sv_iload_n (i := 0) (x := nI f) C dX5_checkSeconds_5 rfl rfl ?_
    refine sv_sipush (v := nI 300) C dX5_checkSeconds_6 (by decide) ?_
    refine sv_icmp_leN C 22 dX5_checkSeconds_9 (by decide) (by omega) (by omega) (fun q9 => ?_) (fun q9 => ?_)
    · exact sv_vret C hr dX5_checkSeconds_22 (Nat.le_of_ble_eq_true rfl) (Nat.le_of_ble_eq_true rfl) (fun _ h => h)
    · exact absurd hf q9

set_option maxHeartbeats 4000000 in
set_option maxRecDepth 100000 in
theorem met0_checkWhat (l : Launch) (G : sv_G) (Wd : Heap → Prop) (f n9 : Nat) (hf : f < n9) (hn : n9 < 2147483648) : sv_Met l G yX5_checkWhat cX5_checkWhat 2 none 0 [.int (nI f), .int (nI n9)] Wd none Wd := by
  refine sv_ofW (by decide) kw_260 (Nat.le_of_ble_eq_true rfl) ?_
  intro p e s mth args below meth c hr C _
  refine sv_sub (lv' := [(0, .int (nI f)), (1, .int (nI n9))]) rfl ?_
  refine sv_iload_n (i := 0) (x := nI f) C dX5_checkWhat_0 rfl rfl ?_
  refine sv_if_lt C 9 dX5_checkWhat_1 (by decide) (fun q1 => ?_) (fun q1 => ?_)
  · exact absurd q1 (nI_pos (by omega))
  · refine sv_iload_n (i := 0) (x := nI f) C dX5_checkWhat_4 rfl rfl ?_
    refine sv_iload_n (i := 1) (x := nI n9) C dX5_checkWhat_5 rfl rfl ?_
    refine sv_icmp_ltN C 19 dX5_checkWhat_6 (by decide) (by omega) (by omega) (fun q6 => ?_) (fun q6 => ?_)
    · exact sv_vret C hr dX5_checkWhat_19 (Nat.le_of_ble_eq_true rfl) (Nat.le_of_ble_eq_true rfl) (fun _ h => h)
    · exact absurd hf q6

set_option maxHeartbeats 4000000 in
set_option maxRecDepth 100000 in
theorem met0_checkWay (l : Launch) (G : sv_G) (Wd : Heap → Prop) (f t : Nat) (hf : f < 8) (ht : t < 8) (hft : f ≠ t) : sv_Met l G yX5_checkWay cX5_checkWay 2 none 1 [.int (nI f), .int (nI t)] Wd none Wd := by
  refine sv_ofW (by decide) kw_411 (Nat.le_of_ble_eq_true rfl) ?_
  intro p e s mth args below meth c hr C _
  refine sv_sub (lv' := [(0, .int (nI f)), (1, .int (nI t))]) rfl ?_
  refine sv_iload_n (i := 0) (x := nI f) C dX5_checkWay_0 rfl rfl ?_
  refine sv_callS (as := [_]) (rest := []) C (met0_checkFloor l G _ f hf) fX5_checkFloor kw_187 ⟨Nat.le_of_ble_eq_true rfl, Nat.le_of_ble_eq_true rfl⟩ (Nat.le_of_ble_eq_true rfl) dX5_checkWay_1 ⟨Nat.zero_le _, Nat.zero_le _⟩  ?_
  refine sv_rv ?_
  refine sv_iload_n (i := 1) (x := nI t) C dX5_checkWay_4 rfl rfl ?_
  refine sv_callS (as := [_]) (rest := []) C (met0_checkFloor l G _ t ht) fX5_checkFloor kw_187 ⟨Nat.le_of_ble_eq_true rfl, Nat.le_of_ble_eq_true rfl⟩ (Nat.le_of_ble_eq_true rfl) dX5_checkWay_5 ⟨Nat.zero_le _, Nat.zero_le _⟩  ?_
  refine sv_rv ?_
  refine sv_iload_n (i := 0) (x := nI f) C dX5_checkWay_8 rfl rfl ?_
  refine sv_iload_n (i := 1) (x := nI t) C dX5_checkWay_9 rfl rfl ?_
  refine sv_icmp_neN C 23 dX5_checkWay_10 (by decide) (by omega) (by omega) (fun q10 => ?_) (fun q10 => ?_)
  · exact sv_vret C hr dX5_checkWay_23 (Nat.le_of_ble_eq_true rfl) (Nat.le_of_ble_eq_true rfl) (fun _ h => h)
  · exact absurd q10 hft

set_option maxHeartbeats 4000000 in
set_option maxRecDepth 100000 in
theorem met0_floor (l : Launch) (G : sv_G) (z : Nat) (M : sv_M) (o : Int64) (f w9 : Nat) (hf : f < 8) (hw9 : w9 < 8) (m : Nat) (hm : M 0 57 = nI m) (hm7 : m ≤ 6) (b6 : M 0 6 = 0 ∨ M 0 6 = 1) (b7 : M 0 7 = 0 ∨ M 0 7 = 1) : sv_Met l G yX5_floor cX5_floor 3 (some .int) 3 [.ref (sv_r G 14 0), .int (nI f), .int (nI w9)] (sv_W G z M o) (some (.int (fnv m (M 0) f w9))) (sv_W G z M o) := by
  refine sv_ofW (by decide) kw_186 (Nat.le_of_ble_eq_true rfl) ?_
  intro p e s mth args below meth c hr C _
  refine sv_sub (lv' := [(0, .ref (sv_r G 14 0)), (1, .int (nI f)), (2, .int (nI w9))]) rfl ?_
  refine sv_iload_n (i := 1) (x := nI f) C dX5_floor_0 rfl rfl ?_
  refine sv_callS (as := [_]) (rest := []) C (met0_checkFloor l G _ f hf) fX5_checkFloor kw_187 ⟨Nat.le_of_ble_eq_true rfl, Nat.le_of_ble_eq_true rfl⟩ (Nat.le_of_ble_eq_true rfl) dX5_floor_1 ⟨Nat.zero_le _, Nat.zero_le _⟩  ?_
  refine sv_rv ?_
  refine sv_iload_n (i := 2) (x := nI w9) C dX5_floor_4 rfl rfl ?_
  refine sv_bipush (v := nI 8) C dX5_floor_5 (by decide) ?_
  refine sv_callS (as := [_, _]) (rest := []) C (met0_checkWhat l G _ w9 8 hw9 (by decide)) fX5_checkWhat kw_258 ⟨Nat.le_of_ble_eq_true rfl, Nat.le_of_ble_eq_true rfl⟩ (Nat.le_of_ble_eq_true rfl) dX5_floor_7 ⟨Nat.zero_le _, Nat.zero_le _⟩  ?_
  refine sv_rv ?_
  refine sv_aload_n (i := 0) (x := sv_r G 14 0) C dX5_floor_10 rfl rfl ?_
  refine sv_get_5_0 C kw_170 dX5_floor_11 ?_
  refine sv_iload_n (i := 1) (x := nI f) C dX5_floor_14 rfl rfl ?_
  refine sv_iload_n (i := 2) (x := nI w9) C dX5_floor_15 rfl rfl ?_
  refine sv_callV (as := [_, _]) (rest := []) C (met_floorNumber l G _ _ _ 0 f w9 (by decide) hf hw9 m hm (by omega) b6 b7) fX3_floorNumber kw_277 (sv_recv0 C (by decide)) ⟨Nat.le_of_ble_eq_true rfl, Nat.le_of_ble_eq_true rfl⟩ (Nat.le_of_ble_eq_true rfl) dX5_floor_16 ⟨Nat.zero_le _, Nat.zero_le _⟩  ?_
  refine sv_ri (fun v16 e16 => ?_)
  exact sv_iret C hr dX5_floor_19 (Nat.le_of_ble_eq_true rfl) (Nat.le_of_ble_eq_true rfl) e16 (fun _ h => h)

set_option maxHeartbeats 4000000 in
set_option maxRecDepth 100000 in
theorem met0_person (l : Launch) (G : sv_G) (z : Nat) (M : sv_M) (o : Int64) (f w9 : Nat) (hf : f < 2147483648) (hw9 : w9 < 4) (m : Nat) (hm : M 0 57 = nI m) (hm7 : m ≤ 6) : sv_Met l G yX5_person cX5_person 3 (some .int) 2 [.ref (sv_r G 14 0), .int (nI f), .int (nI w9)] (sv_W G z M o) (some (.int (if f < m then M 0 (4 * f + 58 + w9) else (-1)))) (sv_W G z M o) := by
  refine sv_ofW (by decide) kw_451 (Nat.le_of_ble_eq_true rfl) ?_
  intro p e s mth args below meth c hr C _
  refine sv_sub (lv' := [(0, .ref (sv_r G 14 0)), (1, .int (nI f)), (2, .int (nI w9))]) rfl ?_
  refine sv_iload_n (i := 1) (x := nI f) C dX5_person_0 rfl rfl ?_
  refine sv_if_ge C 14 dX5_person_1 (by decide) (fun q1 => ?_) (fun q1 => ?_)
  · refine sv_iload_n (i := 2) (x := nI w9) C dX5_person_14 rfl rfl ?_
    refine sv_iconst (v := nI 4) C dX5_person_15 (by decide) ?_
    refine sv_callS (as := [_, _]) (rest := []) C (met0_checkWhat l G _ w9 4 hw9 (by decide)) fX5_checkWhat kw_258 ⟨Nat.le_of_ble_eq_true rfl, Nat.le_of_ble_eq_true rfl⟩ (Nat.le_of_ble_eq_true rfl) dX5_person_16 ⟨Nat.zero_le _, Nat.zero_le _⟩  ?_
    refine sv_rv ?_
    refine sv_aload_n (i := 0) (x := sv_r G 14 0) C dX5_person_19 rfl rfl ?_
    refine sv_get_5_0 C kw_170 dX5_person_20 ?_
    refine sv_get_3_1 C (by decide) kw_111 dX5_person_23 ?_
    refine sv_iload_n (i := 1) (x := nI f) C dX5_person_26 rfl rfl ?_
    refine sv_iload_n (i := 2) (x := nI w9) C dX5_person_27 rfl rfl ?_
    refine sv_callV (as := [_, _]) (rest := []) C (met_personNumber l G _ _ _ 0 f w9 (by decide) hf hw9 m hm (by omega)) fX2_personNumber kw_453 (sv_recv8 C (by decide)) ⟨Nat.le_of_ble_eq_true rfl, Nat.le_of_ble_eq_true rfl⟩ (Nat.le_of_ble_eq_true rfl) dX5_person_28 ⟨Nat.zero_le _, Nat.zero_le _⟩  ?_
    refine sv_ri (fun v28 e28 => ?_)
    exact sv_iret C hr dX5_person_31 (Nat.le_of_ble_eq_true rfl) (Nat.le_of_ble_eq_true rfl) e28 (fun _ h => h)
  · exact absurd (nI_pos' hf) q1

set_option maxHeartbeats 4000000 in
set_option maxRecDepth 100000 in
theorem met0_count (l : Launch) (G : sv_G) (z : Nat) (M : sv_M) (o : Int64) (w9 : Nat) (hw9 : w9 < 11) (hd : Nat) (h1 : M 8 1 = nI hd) (b6 : M 0 6 = 0 ∨ M 0 6 = 1) (b7 : M 0 7 = 0 ∨ M 0 7 = 1) : sv_Met l G yX5_count cX5_count 2 (some .int) 4 [.ref (sv_r G 14 0), .int (nI w9)] (sv_W G z M o) (some (.int (couv (M 0) hd w9))) (sv_W G z M o) := by
  refine sv_ofW (by decide) kw_296 (Nat.le_of_ble_eq_true rfl) ?_
  intro p e s mth args below meth c hr C _
  refine sv_sub (lv' := [(0, .ref (sv_r G 14 0)), (1, .int (nI w9))]) rfl ?_
  refine sv_iload_n (i := 1) (x := nI w9) C dX5_count_0 rfl rfl ?_
  refine sv_bipush (v := nI 11) C dX5_count_1 (by decide) ?_
  refine sv_callS (as := [_, _]) (rest := []) C (met0_checkWhat l G _ w9 11 hw9 (by decide)) fX5_checkWhat kw_258 ⟨Nat.le_of_ble_eq_true rfl, Nat.le_of_ble_eq_true rfl⟩ (Nat.le_of_ble_eq_true rfl) dX5_count_3 ⟨Nat.zero_le _, Nat.zero_le _⟩  ?_
  refine sv_rv ?_
  refine sv_aload_n (i := 0) (x := sv_r G 14 0) C dX5_count_6 rfl rfl ?_
  refine sv_iload_n (i := 1) (x := nI w9) C dX5_count_7 rfl rfl ?_
  refine sv_callV (as := [_]) (rest := []) C (met_counted l G _ _ _ w9 hw9 hd h1 b6 b7) fX5_counted kw_297 (sv_recv14 C) ⟨Nat.le_of_ble_eq_true rfl, Nat.le_of_ble_eq_true rfl⟩ (Nat.le_of_ble_eq_true rfl) dX5_count_8 ⟨Nat.zero_le _, Nat.zero_le _⟩  ?_
  refine sv_ri (fun v8 e8 => ?_)
  exact sv_iret C hr dX5_count_11 (Nat.le_of_ble_eq_true rfl) (Nat.le_of_ble_eq_true rfl) e8 (fun _ h => h)

set_option maxHeartbeats 4000000 in
set_option maxRecDepth 100000 in
theorem met0_setting (l : Launch) (G : sv_G) (z : Nat) (M : sv_M) (o : Int64) (f : Nat) (hf : f < 4) : sv_Met l G yX5_setting cX5_setting 2 (some .int) 1 [.ref (sv_r G 14 0), .int (nI f)] (sv_W G z M o) (some (.int (M 0 f))) (sv_W G z M o) := by
  refine sv_ofW (by decide) kw_314 (Nat.le_of_ble_eq_true rfl) ?_
  intro p e s mth args below meth c hr C _
  refine sv_sub (lv' := [(0, .ref (sv_r G 14 0)), (1, .int (nI f))]) rfl ?_
  refine sv_iload_n (i := 1) (x := nI f) C dX5_setting_0 rfl rfl ?_
  refine sv_callS (as := [_]) (rest := []) C (met0_checkSetting l G _ f hf) fX5_checkSetting kw_315 ⟨Nat.le_of_ble_eq_true rfl, Nat.le_of_ble_eq_true rfl⟩ (Nat.le_of_ble_eq_true rfl) dX5_setting_1 ⟨Nat.zero_le _, Nat.zero_le _⟩  ?_
  refine sv_rv ?_
  refine sv_aload_n (i := 0) (x := sv_r G 14 0) C dX5_setting_4 rfl rfl ?_
  refine sv_get_5_0 C kw_170 dX5_setting_5 ?_
  refine sv_get_3_2 C (by decide) kw_113 dX5_setting_8 ?_
  refine sv_iload_n (i := 1) (x := nI f) C dX5_setting_11 rfl rfl ?_
  refine sv_callS (as := [_, _]) (rest := []) C (met_atN 0 f rfl rfl (sv_okj (by decide) (by decide)) rfl (by show _ < 4; omega)) fX5_at kw_320 ⟨Nat.le_of_ble_eq_true rfl, Nat.le_of_ble_eq_true rfl⟩ (Nat.le_of_ble_eq_true rfl) dX5_setting_12 ⟨Nat.zero_le _, Nat.zero_le _⟩  ?_
  refine sv_ri (fun v12 e12 => ?_)
  exact sv_iret C hr dX5_setting_15 (Nat.le_of_ble_eq_true rfl) (Nat.le_of_ble_eq_true rfl) e12 (fun _ h => h)

set_option maxHeartbeats 4000000 in
set_option maxRecDepth 100000 in
theorem met0_ifPassed (l : Launch) (G : sv_G) (z : Nat) (M : sv_M) (o : Int64) (t w9 : Nat) (ht1 : 1 ≤ t) (ht : t ≤ 300) (hw9 : w9 < 4) (b6 : M 0 6 = 0 ∨ M 0 6 = 1) (b7 : M 0 7 = 0 ∨ M 0 7 = 1) (hv : vd (M 0)) : sv_Met l G yX5_ifPassed cX5_ifPassed 3 (some .int) 8 [.ref (sv_r G 14 0), .int (nI t), .int (nI w9)] (sv_W G z M o) (some (.int (outv (M 0) t w9))) (sv_W1 G z M o) := by
  refine sv_ofW (by decide) kw_324 (Nat.le_of_ble_eq_true rfl) ?_
  intro p e s mth args below meth c hr C _
  refine sv_sub (lv' := [(0, .ref (sv_r G 14 0)), (1, .int (nI t)), (2, .int (nI w9))]) rfl ?_
  refine sv_iload_n (i := 1) (x := nI t) C dX5_ifPassed_0 rfl rfl ?_
  refine sv_callS (as := [_]) (rest := []) C (met0_checkSeconds l G _ t ht1 ht) fX5_checkSeconds kw_325 ⟨Nat.le_of_ble_eq_true rfl, Nat.le_of_ble_eq_true rfl⟩ (Nat.le_of_ble_eq_true rfl) dX5_ifPassed_1 ⟨Nat.zero_le _, Nat.zero_le _⟩  ?_
  refine sv_rv ?_
  refine sv_iload_n (i := 2) (x := nI w9) C dX5_ifPassed_4 rfl rfl ?_
  refine sv_iconst (v := nI 4) C dX5_ifPassed_5 (by decide) ?_
  refine sv_callS (as := [_, _]) (rest := []) C (met0_checkWhat l G _ w9 4 hw9 (by decide)) fX5_checkWhat kw_258 ⟨Nat.le_of_ble_eq_true rfl, Nat.le_of_ble_eq_true rfl⟩ (Nat.le_of_ble_eq_true rfl) dX5_ifPassed_6 ⟨Nat.zero_le _, Nat.zero_le _⟩  ?_
  refine sv_rv ?_
  refine sv_aload_n (i := 0) (x := sv_r G 14 0) C dX5_ifPassed_9 rfl rfl ?_
  refine sv_iload_n (i := 1) (x := nI t) C dX5_ifPassed_10 rfl rfl ?_
  refine sv_iload_n (i := 2) (x := nI w9) C dX5_ifPassed_11 rfl rfl ?_
  refine sv_callV (as := [_, _]) (rest := []) C (met_outlook l G _ _ _ t w9 (by omega) hw9 b6 b7 hv) fX5_outlook kw_329 (sv_recv14 C) ⟨Nat.le_of_ble_eq_true rfl, Nat.le_of_ble_eq_true rfl⟩ (Nat.le_of_ble_eq_true rfl) dX5_ifPassed_12 ⟨Nat.zero_le _, Nat.zero_le _⟩  ?_
  refine sv_ri (fun v12 e12 => ?_)
  exact sv_iret C hr dX5_ifPassed_15 (Nat.le_of_ble_eq_true rfl) (Nat.le_of_ble_eq_true rfl) e12 (fun _ h => h)

set_option maxHeartbeats 4000000 in
set_option maxRecDepth 100000 in
theorem met0_dark (l : Launch) (G : sv_G) (z : Nat) (M : sv_M) (o : Int64) (f t : Nat) (hf : f < 8) (ht : t < 8) (hft : f ≠ t) (hv : vd (M 0)) (m : Nat) (hm : M 0 57 = nI m) (hm7 : m ≤ 6) : sv_Met l G yX5_dark cX5_dark 3 (some .int) 8 [.ref (sv_r G 14 0), .int (nI f), .int (nI t)] (sv_W G z M o) (some (.int (dkw (nI f) (nI t) (M 0 0) (M 0)))) (sv_W1 G z M o) := by
  refine sv_ofW (by decide) kw_408 (Nat.le_of_ble_eq_true rfl) ?_
  intro p e s mth args below meth c hr C _
  refine sv_sub (lv' := [(0, .ref (sv_r G 14 0)), (1, .int (nI f)), (2, .int (nI t))]) rfl ?_
  refine sv_iload_n (i := 1) (x := nI f) C dX5_dark_0 rfl rfl ?_
  refine sv_iload_n (i := 2) (x := nI t) C dX5_dark_1 rfl rfl ?_
  refine sv_callS (as := [_, _]) (rest := []) C (met0_checkWay l G _ f t hf ht hft) fX5_checkWay kw_409 ⟨Nat.le_of_ble_eq_true rfl, Nat.le_of_ble_eq_true rfl⟩ (Nat.le_of_ble_eq_true rfl) dX5_dark_2 ⟨Nat.zero_le _, Nat.zero_le _⟩  ?_
  refine sv_rv ?_
  refine sv_aload_n (i := 0) (x := sv_r G 14 0) C dX5_dark_5 rfl rfl ?_
  refine sv_aload_n (i := 0) (x := sv_r G 14 0) C dX5_dark_6 rfl rfl ?_
  refine sv_get_5_0 C kw_170 dX5_dark_7 ?_
  refine sv_get_3_2 C (by decide) kw_113 dX5_dark_10 ?_
  refine sv_iconst (v := nI 0) C dX5_dark_13 (by decide) ?_
  refine sv_callS (as := [_, _]) (rest := [_]) C (met_atN 0 0 rfl rfl (sv_okj (by decide) (by decide)) rfl (by show _ < 4; omega)) fX5_at kw_320 ⟨Nat.le_of_ble_eq_true rfl, Nat.le_of_ble_eq_true rfl⟩ (Nat.le_of_ble_eq_true rfl) dX5_dark_14 ⟨Nat.zero_le _, Nat.zero_le _⟩  ?_
  refine sv_riS (M 0 0) rfl ?_
  refine sv_iload_n (i := 1) (x := nI f) C dX5_dark_17 rfl rfl ?_
  refine sv_iload_n (i := 2) (x := nI t) C dX5_dark_18 rfl rfl ?_
  refine sv_callV (as := [_, _, _]) (rest := []) C (met_darkWith l G _ _ _ (M 0 0) f t hf ht hv m hm hm7) fX5_darkWith kw_413 (sv_recv14 C) ⟨Nat.le_of_ble_eq_true rfl, Nat.le_of_ble_eq_true rfl⟩ (Nat.le_of_ble_eq_true rfl) dX5_dark_19 ⟨Nat.zero_le _, Nat.zero_le _⟩  ?_
  refine sv_ri (fun v19 e19 => ?_)
  exact sv_iret C hr dX5_dark_22 (Nat.le_of_ble_eq_true rfl) (Nat.le_of_ble_eq_true rfl) e19 (fun _ h => h)

set_option maxHeartbeats 4000000 in
set_option maxRecDepth 100000 in
theorem met0_press (l : Launch) (G : sv_G) (z : Nat) (M : sv_M) (o : Int64) (f : Nat) (hf : f < 8) (od hd : Nat) (hod : od < 6) (h0 : M 8 0 = nI od) (h1 : M 8 1 = nI hd) (hd6 : hd ≤ 6) (b6 : M 0 6 = 0 ∨ M 0 6 = 1) (b7 : M 0 7 = 0 ∨ M 0 7 = 1) : sv_Met l G yX5_press cX5_press 3 (some .int) 4 [.ref (sv_r G 14 0), .int (nI f)] (sv_W G z M o) (some (.int (M 0 (6 * f + 9)))) (sv_W G z (sv_u (sav od hd M) 0 (sw (M 0 0) f (M 0))) o) := by
  refine sv_ofW (by decide) kw_526 (Nat.le_of_ble_eq_true rfl) ?_
  intro p e s mth args below meth c hr C _
  refine sv_sub (lv' := [(0, .ref (sv_r G 14 0)), (1, .int (nI f))]) rfl ?_
  refine sv_iload_n (i := 1) (x := nI f) C dX5_press_0 rfl rfl ?_
  refine sv_callS (as := [_]) (rest := []) C (met0_checkFloor l G _ f hf) fX5_checkFloor kw_187 ⟨Nat.le_of_ble_eq_true rfl, Nat.le_of_ble_eq_true rfl⟩ (Nat.le_of_ble_eq_true rfl) dX5_press_1 ⟨Nat.zero_le _, Nat.zero_le _⟩  ?_
  refine sv_rv ?_
  refine sv_aload_n (i := 0) (x := sv_r G 14 0) C dX5_press_4 rfl rfl ?_
  refine sv_get_5_2 C kw_172 dX5_press_5 ?_
  refine sv_aload_n (i := 0) (x := sv_r G 14 0) C dX5_press_8 rfl rfl ?_
  refine sv_get_5_0 C kw_170 dX5_press_9 ?_
  refine sv_callV (as := [_]) (rest := []) C (met_save hod h0 h1 hd6 b6 b7) fX1_save kw_500 (sv_recv15 C) ⟨Nat.le_of_ble_eq_true rfl, Nat.le_of_ble_eq_true rfl⟩ (Nat.le_of_ble_eq_true rfl) dX5_press_12 ⟨Nat.zero_le _, Nat.zero_le _⟩  ?_
  refine sv_rv ?_
  refine sv_aload_n (i := 0) (x := sv_r G 14 0) C dX5_press_15 rfl rfl ?_
  refine sv_get_5_0 C kw_170 dX5_press_16 ?_
  refine sv_get_3_0 C (by decide) kw_109 dX5_press_19 ?_
  refine sv_get_0_0 C (by decide) kw_42 dX5_press_22 ?_
  refine sv_iload_n (i := 1) (x := nI f) C dX5_press_25 rfl rfl ?_
  refine sv_callS (as := [_, _]) (rest := []) C (met_atN 0 (6 * f + 9) rfl rfl (sv_okj (by decide) (by decide)) rfl (by show _ < 8; omega)) fX5_at kw_320 ⟨Nat.le_of_ble_eq_true rfl, Nat.le_of_ble_eq_true rfl⟩ (Nat.le_of_ble_eq_true rfl) dX5_press_26 ⟨Nat.zero_le _, Nat.zero_le _⟩  ?_
  refine sv_ri (fun v26 e26 => ?_)
  refine sv_istore_n (i := 2) C [(0, .ref (sv_r G 14 0)), (1, .int (nI f)), (2, .int v26)] dX5_press_29 rfl (by decide) rfl ?_
  refine sv_aload_n (i := 0) (x := sv_r G 14 0) C dX5_press_30 rfl rfl ?_
  refine sv_get_5_0 C kw_170 dX5_press_31 ?_
  refine sv_iload_n (i := 1) (x := nI f) C dX5_press_34 rfl rfl ?_
  refine sv_callV (as := [_]) (rest := []) C (met_switchOn l G _ _ _ 0 f (by decide) (by omega)) fX3_switchOn kw_527 (sv_recv0 C (by decide)) ⟨Nat.le_of_ble_eq_true rfl, Nat.le_of_ble_eq_true rfl⟩ (Nat.le_of_ble_eq_true rfl) dX5_press_35 ⟨Nat.zero_le _, Nat.zero_le _⟩  ?_
  refine sv_rv ?_
  refine sv_iload_n (i := 2) (x := v26) C dX5_press_38 rfl rfl ?_
  exact sv_iret C hr dX5_press_39 (Nat.le_of_ble_eq_true rfl) (Nat.le_of_ble_eq_true rfl) (by rw [e26, sav_0]) (sv_eqW (by rw [sav_0]))

set_option maxHeartbeats 4000000 in
set_option maxRecDepth 100000 in
theorem met0_sensor (l : Launch) (G : sv_G) (z : Nat) (M : sv_M) (o : Int64) (f : Nat) (hf : f < 8) (b : Int32) (hb : b = 0 ∨ b = 1) (od hd : Nat) (hod : od < 6) (h0 : M 8 0 = nI od) (h1 : M 8 1 = nI hd) (hd6 : hd ≤ 6) (b6 : M 0 6 = 0 ∨ M 0 6 = 1) (b7 : M 0 7 = 0 ∨ M 0 7 = 1) : sv_Met l G yX5_sensor cX5_sensor 4 (some .int) 4 [.ref (sv_r G 14 0), .int (nI f), .int b] (sv_W G z M o) (some (.int (M 0 (6 * f + 10)))) (sv_W G z (sv_u (sav od hd M) 0 (upd (M 0) (6 * f + 10) b)) o) := by
  refine sv_ofW (by decide) kw_531 (Nat.le_of_ble_eq_true rfl) ?_
  intro p e s mth args below meth c hr C _
  refine sv_sub (lv' := [(0, .ref (sv_r G 14 0)), (1, .int (nI f)), (2, .int b)]) rfl ?_
  refine sv_iload_n (i := 1) (x := nI f) C dX5_sensor_0 rfl rfl ?_
  refine sv_callS (as := [_]) (rest := []) C (met0_checkFloor l G _ f hf) fX5_checkFloor kw_187 ⟨Nat.le_of_ble_eq_true rfl, Nat.le_of_ble_eq_true rfl⟩ (Nat.le_of_ble_eq_true rfl) dX5_sensor_1 ⟨Nat.zero_le _, Nat.zero_le _⟩  ?_
  refine sv_rv ?_
  refine sv_aload_n (i := 0) (x := sv_r G 14 0) C dX5_sensor_4 rfl rfl ?_
  refine sv_get_5_2 C kw_172 dX5_sensor_5 ?_
  refine sv_aload_n (i := 0) (x := sv_r G 14 0) C dX5_sensor_8 rfl rfl ?_
  refine sv_get_5_0 C kw_170 dX5_sensor_9 ?_
  refine sv_callV (as := [_]) (rest := []) C (met_save hod h0 h1 hd6 b6 b7) fX1_save kw_500 (sv_recv15 C) ⟨Nat.le_of_ble_eq_true rfl, Nat.le_of_ble_eq_true rfl⟩ (Nat.le_of_ble_eq_true rfl) dX5_sensor_12 ⟨Nat.zero_le _, Nat.zero_le _⟩  ?_
  refine sv_rv ?_
  refine sv_aload_n (i := 0) (x := sv_r G 14 0) C dX5_sensor_15 rfl rfl ?_
  refine sv_get_5_0 C kw_170 dX5_sensor_16 ?_
  refine sv_get_3_0 C (by decide) kw_109 dX5_sensor_19 ?_
  refine sv_get_0_1 C (by decide) kw_45 dX5_sensor_22 ?_
  refine sv_iload_n (i := 1) (x := nI f) C dX5_sensor_25 rfl rfl ?_
  refine sv_callS (as := [_, _]) (rest := []) C (met_atN 0 (6 * f + 10) rfl rfl (sv_okj (by decide) (by decide)) rfl (by show _ < 8; omega)) fX5_at kw_320 ⟨Nat.le_of_ble_eq_true rfl, Nat.le_of_ble_eq_true rfl⟩ (Nat.le_of_ble_eq_true rfl) dX5_sensor_26 ⟨Nat.zero_le _, Nat.zero_le _⟩  ?_
  refine sv_ri (fun v26 e26 => ?_)
  refine sv_istore_n (i := 3) C [(0, .ref (sv_r G 14 0)), (1, .int (nI f)), (2, .int b), (3, .int v26)] dX5_sensor_29 rfl (by decide) rfl ?_
  refine sv_aload_n (i := 0) (x := sv_r G 14 0) C dX5_sensor_30 rfl rfl ?_
  refine sv_get_5_0 C kw_170 dX5_sensor_31 ?_
  refine sv_get_3_0 C (by decide) kw_109 dX5_sensor_34 ?_
  refine sv_get_0_1 C (by decide) kw_45 dX5_sensor_37 ?_
  refine sv_iload_n (i := 1) (x := nI f) C dX5_sensor_40 rfl rfl ?_
  refine sv_iload_n (i := 2) (x := b) C dX5_sensor_41 rfl rfl ?_
  refine sv_callS (as := [_]) (rest := [_, _]) C (met_numberOf l G _ b hb) fX5_numberOf kw_308 ⟨Nat.le_of_ble_eq_true rfl, Nat.le_of_ble_eq_true rfl⟩ (Nat.le_of_ble_eq_true rfl) dX5_sensor_42 ⟨Nat.zero_le _, Nat.zero_le _⟩  ?_
  refine sv_riS b rfl ?_
  refine sv_callS (as := [_, _, _]) (rest := []) C (met_putN 0 (6 * f + 10) rfl rfl (sv_okj (by decide) (by decide)) rfl (by show _ < 8; omega)) fX5_put kw_417 ⟨Nat.le_of_ble_eq_true rfl, Nat.le_of_ble_eq_true rfl⟩ (Nat.le_of_ble_eq_true rfl) dX5_sensor_45 ⟨Nat.zero_le _, Nat.zero_le _⟩  ?_
  refine sv_rv ?_
  refine sv_iload_n (i := 3) (x := v26) C dX5_sensor_48 rfl rfl ?_
  exact sv_iret C hr dX5_sensor_49 (Nat.le_of_ble_eq_true rfl) (Nat.le_of_ble_eq_true rfl) (by rw [e26, sav_0]) (sv_eqW (by rw [sv_wu, sav_0]))

set_option maxHeartbeats 4000000 in
set_option maxRecDepth 100000 in
theorem met0_set (l : Launch) (G : sv_G) (z : Nat) (M : sv_M) (o : Int64) (f v : Nat) (hf : f < 4) (hv : v < 2147483648) (hlo : ¬ nI v < sv_F 1 f) (hhi : nI v ≤ sv_F 2 f) (od hd : Nat) (hod : od < 6) (h0 : M 8 0 = nI od) (h1 : M 8 1 = nI hd) (hd6 : hd ≤ 6) (b6 : M 0 6 = 0 ∨ M 0 6 = 1) (b7 : M 0 7 = 0 ∨ M 0 7 = 1) : sv_Met l G yX5_set cX5_set 4 (some .int) 4 [.ref (sv_r G 14 0), .int (nI f), .int (nI v)] (sv_W G z M o) (some (.int (M 0 f))) (sv_W G z (sv_u (sav od hd M) 0 (upd (M 0) f (nI v))) o) := by
  refine sv_ofW (by decide) kw_547 (Nat.le_of_ble_eq_true rfl) ?_
  intro p e s mth args below meth c hr C _
  refine sv_sub (lv' := [(0, .ref (sv_r G 14 0)), (1, .int (nI f)), (2, .int (nI v))]) rfl ?_
  refine sv_iload_n (i := 1) (x := nI f) C dX5_set_0 rfl rfl ?_
  refine sv_callS (as := [_]) (rest := []) C (met0_checkSetting l G _ f hf) fX5_checkSetting kw_315 ⟨Nat.le_of_ble_eq_true rfl, Nat.le_of_ble_eq_true rfl⟩ (Nat.le_of_ble_eq_true rfl) dX5_set_1 ⟨Nat.zero_le _, Nat.zero_le _⟩  ?_
  refine sv_rv ?_
  refine sv_iload_n (i := 2) (x := nI v) C dX5_set_4 rfl rfl ?_
  refine sv_gets1 C kw_548 dX5_set_5 ?_
  refine sv_iload_n (i := 1) (x := nI f) C dX5_set_8 rfl rfl ?_
  refine sv_callS (as := [_, _]) (rest := [_]) C (met_atS1 l G _ f (by omega)) fX5_at kw_320 ⟨Nat.le_of_ble_eq_true rfl, Nat.le_of_ble_eq_true rfl⟩ (Nat.le_of_ble_eq_true rfl) dX5_set_9 ⟨Nat.zero_le _, Nat.zero_le _⟩  ?_
  refine sv_ri (fun v9 e9 => ?_)
  refine sv_icmp_lt C 26 dX5_set_12 (by decide) (fun q12 => ?_) (fun q12 => ?_)
  · exact absurd (e9 ▸ q12) hlo
  · refine sv_iload_n (i := 2) (x := nI v) C dX5_set_15 rfl rfl ?_
    refine sv_gets2 C kw_550 dX5_set_16 ?_
    refine sv_iload_n (i := 1) (x := nI f) C dX5_set_19 rfl rfl ?_
    refine sv_callS (as := [_, _]) (rest := [_]) C (met_atS2 l G _ f (by omega)) fX5_at kw_320 ⟨Nat.le_of_ble_eq_true rfl, Nat.le_of_ble_eq_true rfl⟩ (Nat.le_of_ble_eq_true rfl) dX5_set_20 ⟨Nat.zero_le _, Nat.zero_le _⟩  ?_
    refine sv_ri (fun v20 e20 => ?_)
    refine sv_icmp_le C 36 dX5_set_23 (by decide) (fun q23 => ?_) (fun q23 => ?_)
    · refine sv_aload_n (i := 0) (x := sv_r G 14 0) C dX5_set_36 rfl rfl ?_
      refine sv_get_5_2 C kw_172 dX5_set_37 ?_
      refine sv_aload_n (i := 0) (x := sv_r G 14 0) C dX5_set_40 rfl rfl ?_
      refine sv_get_5_0 C kw_170 dX5_set_41 ?_
      refine sv_callV (as := [_]) (rest := []) C (met_save hod h0 h1 hd6 b6 b7) fX1_save kw_500 (sv_recv15 C) ⟨Nat.le_of_ble_eq_true rfl, Nat.le_of_ble_eq_true rfl⟩ (Nat.le_of_ble_eq_true rfl) dX5_set_44 ⟨Nat.zero_le _, Nat.zero_le _⟩  ?_
      refine sv_rv ?_
      refine sv_aload_n (i := 0) (x := sv_r G 14 0) C dX5_set_47 rfl rfl ?_
      refine sv_get_5_0 C kw_170 dX5_set_48 ?_
      refine sv_get_3_2 C (by decide) kw_113 dX5_set_51 ?_
      refine sv_iload_n (i := 1) (x := nI f) C dX5_set_54 rfl rfl ?_
      refine sv_callS (as := [_, _]) (rest := []) C (met_atN 0 f rfl rfl (sv_okj (by decide) (by decide)) rfl (by show _ < 4; omega)) fX5_at kw_320 ⟨Nat.le_of_ble_eq_true rfl, Nat.le_of_ble_eq_true rfl⟩ (Nat.le_of_ble_eq_true rfl) dX5_set_55 ⟨Nat.zero_le _, Nat.zero_le _⟩  ?_
      refine sv_ri (fun v55 e55 => ?_)
      refine sv_istore_n (i := 3) C [(0, .ref (sv_r G 14 0)), (1, .int (nI f)), (2, .int (nI v)), (3, .int v55)] dX5_set_58 rfl (by decide) rfl ?_
      refine sv_aload_n (i := 0) (x := sv_r G 14 0) C dX5_set_59 rfl rfl ?_
      refine sv_get_5_0 C kw_170 dX5_set_60 ?_
      refine sv_get_3_2 C (by decide) kw_113 dX5_set_63 ?_
      refine sv_iload_n (i := 1) (x := nI f) C dX5_set_66 rfl rfl ?_
      refine sv_iload_n (i := 2) (x := nI v) C dX5_set_67 rfl rfl ?_
      refine sv_callS (as := [_, _, _]) (rest := []) C (met_putN 0 f rfl rfl (sv_okj (by decide) (by decide)) rfl (by show _ < 4; omega)) fX5_put kw_417 ⟨Nat.le_of_ble_eq_true rfl, Nat.le_of_ble_eq_true rfl⟩ (Nat.le_of_ble_eq_true rfl) dX5_set_68 ⟨Nat.zero_le _, Nat.zero_le _⟩  ?_
      refine sv_rv ?_
      refine sv_iload_n (i := 3) (x := v55) C dX5_set_71 rfl rfl ?_
      exact sv_iret C hr dX5_set_72 (Nat.le_of_ble_eq_true rfl) (Nat.le_of_ble_eq_true rfl) (by rw [e55, sav_0]) (sv_eqW (by rw [sv_wu, sav_0]))
    · exact absurd hhi (e20 ▸ q23)

set_option maxHeartbeats 4000000 in
set_option maxRecDepth 100000 in
theorem met0_pass (l : Launch) (G : sv_G) (z : Nat) (M : sv_M) (o : Int64) (t : Nat) (ht1 : 1 ≤ t) (ht : t ≤ 300) (od hd : Nat) (hod : od < 6) (h0 : M 8 0 = nI od) (h1 : M 8 1 = nI hd) (hd6 : hd ≤ 6) (b6 : M 0 6 = 0 ∨ M 0 6 = 1) (b7 : M 0 7 = 0 ∨ M 0 7 = 1) (hv : vd (M 0)) : sv_Met l G yX5_pass cX5_pass 2 (some .int) 7 [.ref (sv_r G 14 0), .int (nI t)] (sv_W G z M o) (some (.int (dks (passv t (M 0)) - dks (M 0)))) (sv_W G z (sv_u (sav od hd M) 0 (passv t (M 0))) o) := by
  refine sv_ofW (by decide) kw_512 (Nat.le_of_ble_eq_true rfl) ?_
  intro p e s mth args below meth c hr C _
  refine sv_sub (lv' := [(0, .ref (sv_r G 14 0)), (1, .int (nI t))]) rfl ?_
  refine sv_iload_n (i := 1) (x := nI t) C dX5_pass_0 rfl rfl ?_
  refine sv_callS (as := [_]) (rest := []) C (met0_checkSeconds l G _ t ht1 ht) fX5_checkSeconds kw_325 ⟨Nat.le_of_ble_eq_true rfl, Nat.le_of_ble_eq_true rfl⟩ (Nat.le_of_ble_eq_true rfl) dX5_pass_1 ⟨Nat.zero_le _, Nat.zero_le _⟩  ?_
  refine sv_rv ?_
  refine sv_aload_n (i := 0) (x := sv_r G 14 0) C dX5_pass_4 rfl rfl ?_
  refine sv_get_5_2 C kw_172 dX5_pass_5 ?_
  refine sv_aload_n (i := 0) (x := sv_r G 14 0) C dX5_pass_8 rfl rfl ?_
  refine sv_get_5_0 C kw_170 dX5_pass_9 ?_
  refine sv_callV (as := [_]) (rest := []) C (met_save hod h0 h1 hd6 b6 b7) fX1_save kw_500 (sv_recv15 C) ⟨Nat.le_of_ble_eq_true rfl, Nat.le_of_ble_eq_true rfl⟩ (Nat.le_of_ble_eq_true rfl) dX5_pass_12 ⟨Nat.zero_le _, Nat.zero_le _⟩  ?_
  refine sv_rv ?_
  refine sv_aload_n (i := 0) (x := sv_r G 14 0) C dX5_pass_15 rfl rfl ?_
  refine sv_get_5_0 C kw_170 dX5_pass_16 ?_
  refine sv_iload_n (i := 1) (x := nI t) C dX5_pass_19 rfl rfl ?_
  refine sv_callV (as := [_]) (rest := []) C (met_letPass l G _ _ _ 0 (by decide) (by rw [sav_0]; exact hv) t (by omega)) fX3_letPass kw_347 (sv_recv0 C (by decide)) ⟨Nat.le_of_ble_eq_true rfl, Nat.le_of_ble_eq_true rfl⟩ (Nat.le_of_ble_eq_true rfl) dX5_pass_20 ⟨Nat.zero_le _, Nat.zero_le _⟩  ?_
  refine sv_ri (fun v20 e20 => ?_)
  exact sv_iret C hr dX5_pass_23 (Nat.le_of_ble_eq_true rfl) (Nat.le_of_ble_eq_true rfl) (by rw [e20, sav_0]) (sv_eqW (by rw [sav_0]))

