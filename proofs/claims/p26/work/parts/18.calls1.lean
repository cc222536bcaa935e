set_option maxHeartbeats 4000000 in
set_option maxRecDepth 100000 in
theorem met_checkFloor (l : Launch) (G : sv_G) (hl : l.stackTraces = false) (z : Nat) (M : sv_M) (o : Int64) (f : Int32) : sv_MetX l G yX5_checkFloor cX5_checkFloor 1 none 6 1 [.int f] (sv_W G z M o) (inC 8 f = 0) none (sv_W G z M o) (sv_E1 sv_IO (inC 8 f)) (sv_Wz G z M o) := by
  refine sv_ofWX (by decide) kw_189 (Nat.le_of_ble_eq_true rfl) ?_
  intro p e s mth args below meth c hr C hxt
  refine sv_sub (lv' := [(0, .int f)]) rfl ?_
  refine sv_iload_n (i := 0) (x := f) C dX5_checkFloor_0 rfl rfl ?_
  refine sv_if_lt C 10 dX5_checkFloor_1 (by decide) (fun q1 => ?_) (fun q1 => ?_)
  · exact sv_throwIO C hl hxt ks_238 dX5_checkFloor_10 dX5_checkFloor_13 dX5_checkFloor_14 dX5_checkFloor_16 dX5_checkFloor_19 (Nat.le_of_ble_eq_true rfl) (Nat.le_of_ble_eq_true rfl) (Nat.le_of_ble_eq_true rfl) (Nat.le_of_ble_eq_true rfl) (Nat.le_of_ble_eq_true rfl) (Nat.le_of_ble_eq_true rfl) (⟨if_pos (Or.inl q1), rfl⟩) sv_Wz_grow
  · refine sv_iload_n (i := 0) (x := f) C dX5_checkFloor_4 rfl rfl ?_
    refine sv_bipush (v := nI 8) C dX5_checkFloor_5 (by decide) ?_
    refine sv_icmp_lt C 20 dX5_checkFloor_7 (by decide) (fun q7 => ?_) (fun q7 => ?_)
    · exact sv_vretX C (if_neg (fun h => h.elim q1 (fun h => absurd q7 (Int32.not_lt.mpr h)))) hr dX5_checkFloor_20 (Nat.le_of_ble_eq_true rfl) (Nat.le_of_ble_eq_true rfl) (fun _ h => h)
    · exact sv_throwIO C hl hxt ks_238 dX5_checkFloor_10 dX5_checkFloor_13 dX5_checkFloor_14 dX5_checkFloor_16 dX5_checkFloor_19 (Nat.le_of_ble_eq_true rfl) (Nat.le_of_ble_eq_true rfl) (Nat.le_of_ble_eq_true rfl) (Nat.le_of_ble_eq_true rfl) (Nat.le_of_ble_eq_true rfl) (Nat.le_of_ble_eq_true rfl) (⟨if_pos (Or.inr (Int32.not_lt.mp q7)), rfl⟩) sv_Wz_grow

set_option maxHeartbeats 4000000 in
set_option maxRecDepth 100000 in
theorem met_checkSetting (l : Launch) (G : sv_G) (hl : l.stackTraces = false) (z : Nat) (M : sv_M) (o : Int64) (f : Int32) : sv_MetX l G yX5_checkSetting cX5_checkSetting 1 none 6 1 [.int f] (sv_W G z M o) (inC 4 f = 0) none (sv_W G z M o) (sv_E1 sv_IO (inC 4 f)) (sv_Wz G z M o) := by
  refine sv_ofWX (by decide) kw_317 (Nat.le_of_ble_eq_true rfl) ?_
  intro p e s mth args below meth c hr C hxt
  refine sv_sub (lv' := [(0, .int f)]) rfl ?_
  refine sv_iload_n (i := 0) (x := f) C dX5_checkSetting_0 rfl rfl ?_
  refine sv_if_lt C 12 dX5_checkSetting_1 (by decide) (fun q1 => ?_) (fun q1 => ?_)
  · exact sv_throwIO C hl hxt ks_245 dX5_checkSetting_12 dX5_checkSetting_15 dX5_checkSetting_16 dX5_checkSetting_18 dX5_checkSetting_21 (Nat.le_of_ble_eq_true rfl) (Nat.le_of_ble_eq_true rfl) (Nat.le_of_ble_eq_true rfl) (Nat.le_of_ble_eq_true rfl) (Nat.le_of_ble_eq_true rfl) (Nat.le_of_ble_eq_true rfl) (⟨if_pos (Or.inl q1), rfl⟩) sv_Wz_grow
  · refine sv_iload_n (i := 0) (x := f) C dX5_checkSetting_4 rfl rfl ?_
    refine sv_gets0 C kw_318 dX5_checkSetting_5 ?_
    refine sv_salen0 C dX5_checkSetting_8 ?_
    refine sv_icmp_lt C 22 dX5_checkSetting_9 (by decide) (fun q9 => ?_) (fun q9 => ?_)
    · exact sv_vretX C (if_neg (fun h => h.elim q1 (fun h => absurd q9 (Int32.not_lt.mpr h)))) hr dX5_checkSetting_22 (Nat.le_of_ble_eq_true rfl) (Nat.le_of_ble_eq_true rfl) (fun _ h => h)
    · exact sv_throwIO C hl hxt ks_245 dX5_checkSetting_12 dX5_checkSetting_15 dX5_checkSetting_16 dX5_checkSetting_18 dX5_checkSetting_21 (Nat.le_of_ble_eq_true rfl) (Nat.le_of_ble_eq_true rfl) (Nat.le_of_ble_eq_true rfl) (Nat.le_of_ble_eq_true rfl) (Nat.le_of_ble_eq_true rfl) (Nat.le_of_ble_eq_true rfl) (⟨if_pos (Or.inr (Int32.not_lt.mp q9)), rfl⟩) sv_Wz_grow

set_option maxHeartbeats 4000000 in
set_option maxRecDepth 100000 in
theorem met_checkSeconds (l : Launch) (G : sv_G) (hl : l.stackTraces = false) (z : Nat) (M : sv_M) (o : Int64) (f : Int32) : sv_MetX l G yX5_checkSeconds cX5_checkSeconds 1 none 6 1 [.int f] (sv_W G z M o) (secC f = 0) none (sv_W G z M o) (sv_E1 sv_IA (secC f)) (sv_Wz G z M o) := by
  refine sv_ofWX (by decide) kw_327 (Nat.le_of_ble_eq_true rfl) ?_
  intro p e s mth args below meth c hr C hxt
  refine sv_sub (lv' := [(0, .int f)]) rfl ?_
  refine sv_iload_n (i := 0) (x := f) C dX5_checkSeconds_0 rfl rfl ?_
  refine sv_iconst (v := nI 1) C dX5_checkSeconds_1 (by decide) ?_
  refine sv_icmp_lt C 12 dX5_checkSeconds_2 (by decide) (fun q2 => ?_) (fun q2 => ?_)
  · exact sv_throwIA C hl hxt ks_247 dX5_checkSeconds_12 dX5_checkSeconds_15 dX5_checkSeconds_16 dX5_checkSeconds_18 dX5_checkSeconds_21 (Nat.le_of_ble_eq_true rfl) (Nat.le_of_ble_eq_true rfl) (Nat.le_of_ble_eq_true rfl) (Nat.le_of_ble_eq_true rfl) (Nat.le_of_ble_eq_true rfl) (Nat.le_of_ble_eq_true rfl) (⟨if_pos (Or.inl q2), rfl⟩) sv_Wz_grow
  · refine sv_iload_n (i := 0) (x := f) C dX5_checkSeconds_5 rfl rfl ?_
    refine sv_sipush (v := nI 300) C dX5_checkSeconds_6 (by decide) ?_
    refine sv_icmp_le C 22 dX5_checkSeconds_9 (by decide) (fun q9 => ?_) (fun q9 => ?_)
    · exact sv_vretX C (if_neg (fun h => h.elim q2 (fun h => absurd q9 (Int32.not_le.mpr h)))) hr dX5_checkSeconds_22 (Nat.le_of_ble_eq_true rfl) (Nat.le_of_ble_eq_true rfl) (fun _ h => h)
    · exact sv_throwIA C hl hxt ks_247 dX5_checkSeconds_12 dX5_checkSeconds_15 dX5_checkSeconds_16 dX5_checkSeconds_18 dX5_checkSeconds_21 (Nat.le_of_ble_eq_true rfl) (Nat.le_of_ble_eq_true rfl) (Nat.le_of_ble_eq_true rfl) (Nat.le_of_ble_eq_true rfl) (Nat.le_of_ble_eq_true rfl) (Nat.le_of_ble_eq_true rfl) (⟨if_pos (Or.inr (Int32.not_le.mp q9)), rfl⟩) sv_Wz_grow

set_option maxHeartbeats 4000000 in
set_option maxRecDepth 100000 in
theorem met_checkWhat (l : Launch) (G : sv_G) (hl : l.stackTraces = false) (z : Nat) (M : sv_M) (o : Int64) (f : Int32) (n9 : Nat) : sv_MetX l G yX5_checkWhat cX5_checkWhat 2 none 6 1 [.int f, .int (nI n9)] (sv_W G z M o) (inC n9 f = 0) none (sv_W G z M o) (sv_E1 sv_IA (inC n9 f)) (sv_Wz G z M o) := by
  refine sv_ofWX (by decide) kw_260 (Nat.le_of_ble_eq_true rfl) ?_
  intro p e s mth args below meth c hr C hxt
  refine sv_sub (lv' := [(0, .int f), (1, .int (nI n9))]) rfl ?_
  refine sv_iload_n (i := 0) (x := f) C dX5_checkWhat_0 rfl rfl ?_
  refine sv_if_lt C 9 dX5_checkWhat_1 (by decide) (fun q1 => ?_) (fun q1 => ?_)
  · exact sv_throwIA C hl hxt ks_249 dX5_checkWhat_9 dX5_checkWhat_12 dX5_checkWhat_13 dX5_checkWhat_15 dX5_checkWhat_18 (Nat.le_of_ble_eq_true rfl) (Nat.le_of_ble_eq_true rfl) (Nat.le_of_ble_eq_true rfl) (Nat.le_of_ble_eq_true rfl) (Nat.le_of_ble_eq_true rfl) (Nat.le_of_ble_eq_true rfl) (⟨if_pos (Or.inl q1), rfl⟩) sv_Wz_grow
  · refine sv_iload_n (i := 0) (x := f) C dX5_checkWhat_4 rfl rfl ?_
    refine sv_iload_n (i := 1) (x := nI n9) C dX5_checkWhat_5 rfl rfl ?_
    refine sv_icmp_lt C 19 dX5_checkWhat_6 (by decide) (fun q6 => ?_) (fun q6 => ?_)
    · exact sv_vretX C (if_neg (fun h => h.elim q1 (fun h => absurd q6 (Int32.not_lt.mpr h)))) hr dX5_checkWhat_19 (Nat.le_of_ble_eq_true rfl) (Nat.le_of_ble_eq_true rfl) (fun _ h => h)
    · exact sv_throwIA C hl hxt ks_249 dX5_checkWhat_9 dX5_checkWhat_12 dX5_checkWhat_13 dX5_checkWhat_15 dX5_checkWhat_18 (Nat.le_of_ble_eq_true rfl) (Nat.le_of_ble_eq_true rfl) (Nat.le_of_ble_eq_true rfl) (Nat.le_of_ble_eq_true rfl) (Nat.le_of_ble_eq_true rfl) (Nat.le_of_ble_eq_true rfl) (⟨if_pos (Or.inr (Int32.not_lt.mp q6)), rfl⟩) sv_Wz_grow

set_option maxHeartbeats 4000000 in
set_option maxRecDepth 100000 in
theorem met_checkWay (l : Launch) (G : sv_G) (hl : l.stackTraces = false) (z : Nat) (M : sv_M) (o : Int64) (f t : Int32) : sv_MetX l G yX5_checkWay cX5_checkWay 2 none 7 3 [.int f, .int t] (sv_W G z M o) (wayC f t = 0) none (sv_W G z M o) (sv_E2 sv_IO sv_IA (wayC f t)) (sv_Wz G z M o) := by
  refine sv_ofWX (by decide) kw_411 (Nat.le_of_ble_eq_true rfl) ?_
  intro p e s mth args below meth c hr C hxt
  refine sv_sub (lv' := [(0, .int f), (1, .int t)]) rfl ?_
  refine sv_iload_n (i := 0) (x := f) C dX5_checkWay_0 rfl rfl ?_
  refine sv_callSX (as := [_]) (rest := []) C (met_checkFloor l G hl _ _ _ f) fX5_checkFloor kw_187 ⟨Nat.le_of_ble_eq_true rfl, Nat.le_of_ble_eq_true rfl⟩ (Nat.le_of_ble_eq_true rfl) dX5_checkWay_1 ⟨Nat.le_of_ble_eq_true rfl, Nat.le_of_ble_eq_true rfl⟩ (fun E hE => sv_out C hxt (Nat.le_of_ble_eq_true rfl) (Nat.le_of_ble_eq_true rfl) (Or.inl ⟨if_pos (Or.inl hE.1), hE.2⟩) (fun _ h => h)) ?_
  intro ok1
  refine sv_rv ?_
  refine sv_iload_n (i := 1) (x := t) C dX5_checkWay_4 rfl rfl ?_
  refine sv_callSX (as := [_]) (rest := []) C (met_checkFloor l G hl _ _ _ t) fX5_checkFloor kw_187 ⟨Nat.le_of_ble_eq_true rfl, Nat.le_of_ble_eq_true rfl⟩ (Nat.le_of_ble_eq_true rfl) dX5_checkWay_5 ⟨Nat.le_of_ble_eq_true rfl, Nat.le_of_ble_eq_true rfl⟩ (fun E hE => sv_out C hxt (Nat.le_of_ble_eq_true rfl) (Nat.le_of_ble_eq_true rfl) (Or.inl ⟨if_pos (Or.inr hE.1), hE.2⟩) (fun _ h => h)) ?_
  intro ok2
  refine sv_rv ?_
  refine sv_iload_n (i := 0) (x := f) C dX5_checkWay_8 rfl rfl ?_
  refine sv_iload_n (i := 1) (x := t) C dX5_checkWay_9 rfl rfl ?_
  refine sv_icmp_ne C 23 dX5_checkWay_10 (by decide) (fun q10 => ?_) (fun q10 => ?_)
  · exact sv_vretX C (by unfold wayC; rw [if_neg (fun h => h.elim (fun h => absurd (h.symm.trans ok1) (by decide)) (fun h => absurd (h.symm.trans ok2) (by decide))), if_neg q10]) hr dX5_checkWay_23 (Nat.le_of_ble_eq_true rfl) (Nat.le_of_ble_eq_true rfl) (fun _ h => h)
  · exact sv_throwIA C hl hxt ks_240 dX5_checkWay_13 dX5_checkWay_16 dX5_checkWay_17 dX5_checkWay_19 dX5_checkWay_22 (Nat.le_of_ble_eq_true rfl) (Nat.le_of_ble_eq_true rfl) (Nat.le_of_ble_eq_true rfl) (Nat.le_of_ble_eq_true rfl) (Nat.le_of_ble_eq_true rfl) (Nat.le_of_ble_eq_true rfl) (Or.inr ⟨by unfold wayC; rw [if_neg (fun h => h.elim (fun h => absurd (h.symm.trans ok1) (by decide)) (fun h => absurd (h.symm.trans ok2) (by decide))), if_pos q10], rfl⟩) sv_Wz_grow

theorem met_save {l : Launch} {G : sv_G} {z : Nat} {M : sv_M} {o : Int64} {od hd : Nat} (hod : od < 6) (h0 : M 8 0 = nI od) (h1 : M 8 1 = nI hd) (hd6 : hd ≤ 6) (b6 : M 0 6 = 0 ∨ M 0 6 = 1) (b7 : M 0 7 = 0 ∨ M 0 7 = 1) : sv_Met l G yX1_save cX1_save 3 none 3 [.ref (sv_r G 15 0), .ref (sv_r G 0 0)] (sv_W G z M o) none (sv_W G z (sav od hd M) o) := by
  unfold sav savO savH savK
  by_cases h : hd < 6
  · rw [if_pos h, if_pos h, if_pos h]
    exact met_save_lo l G z M o od hd _ hod h0 h1 h rfl b6 b7
  · rw [if_neg h, if_neg h, if_neg h]
    exact met_save_hi l G z M o od hd _ hod h0 h1 (by omega) rfl b6 b7
set_option maxHeartbeats 4000000 in
set_option maxRecDepth 100000 in
theorem met_come (l : Launch) (G : sv_G) (hl : l.stackTraces = false) (z : Nat) (M : sv_M) (o : Int64) (f t : Int32) (od hd : Nat) (hod : od < 6) (h0 : M 8 0 = nI od) (h1 : M 8 1 = nI hd) (hd6 : hd ≤ 6) (b6 : M 0 6 = 0 ∨ M 0 6 = 1) (b7 : M 0 7 = 0 ∨ M 0 7 = 1) (m : Nat) (hm : M 0 57 = nI m) (hm7 : m ≤ 6) : sv_MetX l G yX5_come cX5_come 3 (some .int) 8 4 [.ref (sv_r G 14 0), .int f, .int t] (sv_W G z M o) (comC m f t = 0) (some (.int (M 0 5))) (sv_W G z (sv_u (sav od hd M) 0 (entv m f t (M 0 3) (M 0))) o) (sv_E3 sv_IO sv_IA sv_IS (comC m f t)) (sv_Wz G z M o) := by
  refine sv_ofWX (by decide) kw_483 (Nat.le_of_ble_eq_true rfl) ?_
  intro p e s mth args below meth c hr C hxt
  refine sv_sub (lv' := [(0, .ref (sv_r G 14 0)), (1, .int f), (2, .int t)]) rfl ?_
  refine sv_iload_n (i := 1) (x := f) C dX5_come_0 rfl rfl ?_
  refine sv_iload_n (i := 2) (x := t) C dX5_come_1 rfl rfl ?_
  refine sv_callSX (as := [_, _]) (rest := []) C (met_checkWay l G hl _ _ _ f t) fX5_checkWay kw_409 ⟨Nat.le_of_ble_eq_true rfl, Nat.le_of_ble_eq_true rfl⟩ (Nat.le_of_ble_eq_true rfl) dX5_come_2 ⟨Nat.le_of_ble_eq_true rfl, Nat.le_of_ble_eq_true rfl⟩ (fun E hE => sv_out C hxt (Nat.le_of_ble_eq_true rfl) (Nat.le_of_ble_eq_true rfl) (by
    rcases hE with ⟨h, e⟩ | ⟨h, e⟩
    · exact Or.inl ⟨by unfold comC; rw [if_neg (by rw [h]; decide)]; exact h, e⟩
    · exact Or.inr (Or.inl ⟨by unfold comC; rw [if_neg (by rw [h]; decide)]; exact h, e⟩)) (fun _ h => h)) ?_
  intro ok1
  refine sv_rv ?_
  refine sv_aload_n (i := 0) (x := sv_r G 14 0) C dX5_come_5 rfl rfl ?_
  refine sv_get_5_0 C kw_170 dX5_come_6 ?_
  refine sv_get_3_1 C (by decide) kw_111 dX5_come_9 ?_
  refine sv_get_2_4 C (by decide) kw_86 dX5_come_12 ?_
  refine sv_set (v' := .int (nI m)) (congrArg Value.int hm) ?_
  refine sv_bipush (v := nI 6) C dX5_come_15 (by decide) ?_
  refine sv_icmp_ltN C 30 dX5_come_17 (by decide) (by omega) (by omega) (fun q17 => ?_) (fun q17 => ?_)
  · refine sv_aload_n (i := 0) (x := sv_r G 14 0) C dX5_come_30 rfl rfl ?_
    refine sv_get_5_2 C kw_172 dX5_come_31 ?_
    refine sv_aload_n (i := 0) (x := sv_r G 14 0) C dX5_come_34 rfl rfl ?_
    refine sv_get_5_0 C kw_170 dX5_come_35 ?_
    refine sv_callV (as := [_]) (rest := []) C (met_save hod h0 h1 hd6 b6 b7) fX1_save kw_500 (sv_recv15 C) ⟨Nat.le_of_ble_eq_true rfl, Nat.le_of_ble_eq_true rfl⟩ (Nat.le_of_ble_eq_true rfl) dX5_come_38 ⟨Nat.le_of_ble_eq_true rfl, Nat.le_of_ble_eq_true rfl⟩  ?_
    refine sv_rv ?_
    refine sv_aload_n (i := 0) (x := sv_r G 14 0) C dX5_come_41 rfl rfl ?_
    refine sv_get_5_0 C kw_170 dX5_come_42 ?_
    refine sv_iload_n (i := 1) (x := f) C dX5_come_45 rfl rfl ?_
    refine sv_iload_n (i := 2) (x := t) C dX5_come_46 rfl rfl ?_
    refine sv_callV (as := [_, _]) (rest := []) C (met_letCome l G _ _ _ 0 (by decide) f t m (by rw [sav_0]; exact hm) (by omega)) fX3_letCome kw_418 (sv_recv0 C (by decide)) ⟨Nat.le_of_ble_eq_true rfl, Nat.le_of_ble_eq_true rfl⟩ (Nat.le_of_ble_eq_true rfl) dX5_come_47 ⟨Nat.le_of_ble_eq_true rfl, Nat.le_of_ble_eq_true rfl⟩  ?_
    refine sv_ri (fun v47 e47 => ?_)
    exact sv_iretX C (by unfold comC; rw [if_pos ok1, if_neg (by omega)]) hr dX5_come_50 (Nat.le_of_ble_eq_true rfl) (Nat.le_of_ble_eq_true rfl) (by rw [e47, sav_0]) (sv_eqW (by rw [sav_0]))
  · exact sv_throwIS C hl hxt ks_49 dX5_come_20 dX5_come_23 dX5_come_24 dX5_come_26 dX5_come_29 (Nat.le_of_ble_eq_true rfl) (Nat.le_of_ble_eq_true rfl) (Nat.le_of_ble_eq_true rfl) (Nat.le_of_ble_eq_true rfl) (Nat.le_of_ble_eq_true rfl) (Nat.le_of_ble_eq_true rfl) (Or.inr (Or.inr ⟨by unfold comC; rw [if_pos ok1, if_pos (by omega)], rfl⟩)) sv_Wz_grow

theorem plF_in {x : vX} {v : Int32} : ∀ t i, plF x v t i = (-1) ∨ ∃ g, i ≤ g ∧ g < i + t ∧ plF x v t i = nI g ∧ x (4 * g + 58) = v
  | 0, i => Or.inl rfl
  | t + 1, i => by
    unfold plF
    split
    · rename_i h
      exact Or.inr ⟨i, Nat.le_refl _, by omega, rfl, h⟩
    · rcases plF_in t (i + 1) with h | ⟨g, h1, h2, h3, h4⟩
      · exact Or.inl h
      · exact Or.inr ⟨g, by omega, by omega, h3, h4⟩
theorem nI_m1 {g : Nat} (h : g < 2147483648) : ¬ nI g = (-1) := fun e => by
  have h1 := congrArg Int32.toInt e
  rw [nI_toInt h] at h1
  have h2 : ((-1 : Int32)).toInt = -1 := by decide
  omega
set_option maxHeartbeats 4000000 in
set_option maxRecDepth 100000 in
theorem met_turn (l : Launch) (G : sv_G) (hl : l.stackTraces = false) (z : Nat) (M : sv_M) (o : Int64) (n t : Int32) (od hd : Nat) (hod : od < 6) (h0 : M 8 0 = nI od) (h1 : M 8 1 = nI hd) (hd6 : hd ≤ 6) (b6 : M 0 6 = 0 ∨ M 0 6 = 1) (b7 : M 0 7 = 0 ∨ M 0 7 = 1) (m : Nat) (hm : M 0 57 = nI m) (hm7 : m ≤ 6) : sv_MetX l G yX5_turn cX5_turn 5 (some .int) 7 1 [.ref (sv_r G 14 0), .int n, .int t] (sv_W G z M o) (trnC (M 0) m n t = 0) (some (.int (M 0 (4 * (plF (M 0) n m 0).toNatClampNeg + 60)))) (sv_W G z (sv_u (sav od hd M) 0 (trnv (plF (M 0) n m 0).toNatClampNeg t (M 0))) o) (sv_E1 sv_IO (trnC (M 0) m n t)) (sv_Wz G z M o) := by
  refine sv_ofWX (by decide) kw_520 (Nat.le_of_ble_eq_true rfl) ?_
  intro p e s mth args below meth c hr C hxt
  refine sv_sub (lv' := [(0, .ref (sv_r G 14 0)), (1, .int n), (2, .int t)]) rfl ?_
  refine sv_aload_n (i := 0) (x := sv_r G 14 0) C dX5_turn_0 rfl rfl ?_
  refine sv_get_5_0 C kw_170 dX5_turn_1 ?_
  refine sv_get_3_1 C (by decide) kw_111 dX5_turn_4 ?_
  refine sv_iload_n (i := 1) (x := n) C dX5_turn_7 rfl rfl ?_
  refine sv_callV (as := [_]) (rest := []) C (met_placeOf l G _ _ _ 0 (by decide) n m hm (by omega)) fX2_placeOf kw_431 (sv_recv8 C (by decide)) ⟨Nat.le_of_ble_eq_true rfl, Nat.le_of_ble_eq_true rfl⟩ (Nat.le_of_ble_eq_true rfl) dX5_turn_8 ⟨Nat.le_of_ble_eq_true rfl, Nat.le_of_ble_eq_true rfl⟩  ?_
  refine sv_ri (fun v8 e8 => ?_)
  refine sv_istore_n (i := 3) C [(0, .ref (sv_r G 14 0)), (1, .int n), (2, .int t), (3, .int v8)] dX5_turn_11 rfl (by decide) rfl ?_
  refine sv_iload_n (i := 3) (x := v8) C dX5_turn_12 rfl rfl ?_
  refine sv_iconst (v := (-1)) C dX5_turn_13 (by decide) ?_
  refine sv_icmp_ne C 27 dX5_turn_14 (by decide) (fun q14 => ?_) (fun q14 => ?_)
  · refine sv_iload_n (i := 2) (x := t) C dX5_turn_27 rfl rfl ?_
    refine sv_callSX (as := [_]) (rest := []) C (met_checkFloor l G hl _ _ _ t) fX5_checkFloor kw_187 ⟨Nat.le_of_ble_eq_true rfl, Nat.le_of_ble_eq_true rfl⟩ (Nat.le_of_ble_eq_true rfl) dX5_turn_28 ⟨Nat.le_of_ble_eq_true rfl, Nat.le_of_ble_eq_true rfl⟩ (fun E hE => sv_out C hxt (Nat.le_of_ble_eq_true rfl) (Nat.le_of_ble_eq_true rfl) (⟨by unfold trnC; rw [if_neg (fun h => q14 (e8.trans h))]; exact hE.1, hE.2⟩) (fun _ h => h)) ?_
    intro ok1
    refine sv_rv ?_
    obtain ⟨p9, hp1, hp2, hp3, hp4⟩ := (plF_in (x := M 0) (v := n) m 0).resolve_left (fun h => q14 (e8.trans h))
    rw [e8, hp3]
    refine sv_aload_n (i := 0) (x := sv_r G 14 0) C dX5_turn_31 rfl rfl ?_
    refine sv_get_5_2 C kw_172 dX5_turn_32 ?_
    refine sv_aload_n (i := 0) (x := sv_r G 14 0) C dX5_turn_35 rfl rfl ?_
    refine sv_get_5_0 C kw_170 dX5_turn_36 ?_
    refine sv_callV (as := [_]) (rest := []) C (met_save hod h0 h1 hd6 b6 b7) fX1_save kw_500 (sv_recv15 C) ⟨Nat.le_of_ble_eq_true rfl, Nat.le_of_ble_eq_true rfl⟩ (Nat.le_of_ble_eq_true rfl) dX5_turn_39 ⟨Nat.le_of_ble_eq_true rfl, Nat.le_of_ble_eq_true rfl⟩  ?_
    refine sv_rv ?_
    refine sv_aload_n (i := 0) (x := sv_r G 14 0) C dX5_turn_42 rfl rfl ?_
    refine sv_get_5_0 C kw_170 dX5_turn_43 ?_
    refine sv_get_3_1 C (by decide) kw_111 dX5_turn_46 ?_
    refine sv_get_2_2 C (by decide) kw_83 dX5_turn_49 ?_
    refine sv_iload_n (i := 3) (x := nI p9) C dX5_turn_52 rfl rfl ?_
    refine sv_callS (as := [_, _]) (rest := []) C (met_atN 0 (4 * p9 + 60) rfl rfl (sv_okj (by decide) (by decide)) rfl (by show _ < 7; omega)) fX5_at kw_320 ⟨Nat.le_of_ble_eq_true rfl, Nat.le_of_ble_eq_true rfl⟩ (Nat.le_of_ble_eq_true rfl) dX5_turn_53 ⟨Nat.le_of_ble_eq_true rfl, Nat.le_of_ble_eq_true rfl⟩  ?_
    refine sv_ri (fun v53 e53 => ?_)
    refine sv_istore (i := 4) C [(0, .ref (sv_r G 14 0)), (1, .int n), (2, .int t), (3, .int (nI p9)), (4, .int v53)] dX5_turn_56 (by decide) rfl ?_
    refine sv_aload_n (i := 0) (x := sv_r G 14 0) C dX5_turn_58 rfl rfl ?_
    refine sv_get_5_0 C kw_170 dX5_turn_59 ?_
    refine sv_get_3_1 C (by decide) kw_111 dX5_turn_62 ?_
    refine sv_iload_n (i := 3) (x := nI p9) C dX5_turn_65 rfl rfl ?_
    refine sv_iload_n (i := 2) (x := t) C dX5_turn_66 rfl rfl ?_
    refine sv_aload_n (i := 0) (x := sv_r G 14 0) C dX5_turn_67 rfl rfl ?_
    refine sv_get_5_0 C kw_170 dX5_turn_68 ?_
    refine sv_get_3_2 C (by decide) kw_113 dX5_turn_71 ?_
    refine sv_iconst (v := nI 3) C dX5_turn_74 (by decide) ?_
    refine sv_callS (as := [_, _]) (rest := [_, _, _]) C (met_atN 0 3 rfl rfl (sv_okj (by decide) (by decide)) rfl (by show _ < 4; omega)) fX5_at kw_320 ⟨Nat.le_of_ble_eq_true rfl, Nat.le_of_ble_eq_true rfl⟩ (Nat.le_of_ble_eq_true rfl) dX5_turn_75 ⟨Nat.le_of_ble_eq_true rfl, Nat.le_of_ble_eq_true rfl⟩  ?_
    refine sv_ri (fun v75 e75 => ?_)
    refine sv_callV (as := [_, _, _]) (rest := []) C (met_sendTo l G _ _ _ 0 p9 (by decide) (by omega) t v75) fX2_sendTo kw_522 (sv_recv8 C (by decide)) ⟨Nat.le_of_ble_eq_true rfl, Nat.le_of_ble_eq_true rfl⟩ (Nat.le_of_ble_eq_true rfl) dX5_turn_78 ⟨Nat.le_of_ble_eq_true rfl, Nat.le_of_ble_eq_true rfl⟩  ?_
    refine sv_rv ?_
    refine sv_iload (i := 4) (x := v53) C dX5_turn_81 rfl ?_
    exact sv_iretX C (by unfold trnC; rw [if_neg (fun h => q14 (e8.trans h))]; exact ok1) hr dX5_turn_83 (Nat.le_of_ble_eq_true rfl) (Nat.le_of_ble_eq_true rfl) (by rw [e53, sav_0, nI_clamp (by omega)]) (sv_eqW (by rw [e75, sav_0, nI_clamp (by omega)]; rfl))
  · exact sv_throwIO C hl hxt ks_68 dX5_turn_17 dX5_turn_20 dX5_turn_21 dX5_turn_23 dX5_turn_26 (Nat.le_of_ble_eq_true rfl) (Nat.le_of_ble_eq_true rfl) (Nat.le_of_ble_eq_true rfl) (Nat.le_of_ble_eq_true rfl) (Nat.le_of_ble_eq_true rfl) (Nat.le_of_ble_eq_true rfl) (⟨if_pos (e8.symm.trans q14), rfl⟩) sv_Wz_grow

set_option maxHeartbeats 4000000 in
set_option maxRecDepth 100000 in
theorem met_press (l : Launch) (G : sv_G) (hl : l.stackTraces = false) (z : Nat) (M : sv_M) (o : Int64) (f : Int32) (od hd : Nat) (hod : od < 6) (h0 : M 8 0 = nI od) (h1 : M 8 1 = nI hd) (hd6 : hd ≤ 6) (b6 : M 0 6 = 0 ∨ M 0 6 = 1) (b7 : M 0 7 = 0 ∨ M 0 7 = 1) : sv_MetX l G yX5_press cX5_press 3 (some .int) 7 1 [.ref (sv_r G 14 0), .int f] (sv_W G z M o) (inC 8 f = 0) (some (.int (M 0 (6 * f.toNatClampNeg + 9)))) (sv_W G z (sv_u (sav od hd M) 0 (sw (M 0 0) f.toNatClampNeg (M 0))) o) (sv_E1 sv_IO (inC 8 f)) (sv_Wz G z M o) := by
  refine sv_ofWX (by decide) kw_526 (Nat.le_of_ble_eq_true rfl) ?_
  intro p e s mth args below meth c hr C hxt
  refine sv_sub (lv' := [(0, .ref (sv_r G 14 0)), (1, .int f)]) rfl ?_
  refine sv_iload_n (i := 1) (x := f) C dX5_press_0 rfl rfl ?_
  refine sv_callSX (as := [_]) (rest := []) C (met_checkFloor l G hl _ _ _ f) fX5_checkFloor kw_187 ⟨Nat.le_of_ble_eq_true rfl, Nat.le_of_ble_eq_true rfl⟩ (Nat.le_of_ble_eq_true rfl) dX5_press_1 ⟨Nat.le_of_ble_eq_true rfl, Nat.le_of_ble_eq_true rfl⟩ (fun E hE => sv_out C hxt (Nat.le_of_ble_eq_true rfl) (Nat.le_of_ble_eq_true rfl) (hE) (fun _ h => h)) ?_
  intro ok1
  refine sv_rv ?_
  obtain ⟨g1, hg1, rfl⟩ := inC_0 (by decide) ok1
  refine sv_aload_n (i := 0) (x := sv_r G 14 0) C dX5_press_4 rfl rfl ?_
  refine sv_get_5_2 C kw_172 dX5_press_5 ?_
  refine sv_aload_n (i := 0) (x := sv_r G 14 0) C dX5_press_8 rfl rfl ?_
  refine sv_get_5_0 C kw_170 dX5_press_9 ?_
  refine sv_callV (as := [_]) (rest := []) C (met_save hod h0 h1 hd6 b6 b7) fX1_save kw_500 (sv_recv15 C) ⟨Nat.le_of_ble_eq_true rfl, Nat.le_of_ble_eq_true rfl⟩ (Nat.le_of_ble_eq_true rfl) dX5_press_12 ⟨Nat.le_of_ble_eq_true rfl, Nat.le_of_ble_eq_true rfl⟩  ?_
  refine sv_rv ?_
  refine sv_aload_n (i := 0) (x := sv_r G 14 0) C dX5_press_15 rfl rfl ?_
  refine sv_get_5_0 C kw_170 dX5_press_16 ?_
  refine sv_get_3_0 C (by decide) kw_109 dX5_press_19 ?_
  refine sv_get_0_0 C (by decide) kw_42 dX5_press_22 ?_
  refine sv_iload_n (i := 1) (x := nI g1) C dX5_press_25 rfl rfl ?_
  refine sv_callS (as := [_, _]) (rest := []) C (met_atN 0 (6 * g1 + 9) rfl rfl (sv_okj (by decide) (by decide)) rfl (by show _ < 8; omega)) fX5_at kw_320 ⟨Nat.le_of_ble_eq_true rfl, Nat.le_of_ble_eq_true rfl⟩ (Nat.le_of_ble_eq_true rfl) dX5_press_26 ⟨Nat.le_of_ble_eq_true rfl, Nat.le_of_ble_eq_true rfl⟩  ?_
  refine sv_ri (fun v26 e26 => ?_)
  refine sv_istore_n (i := 2) C [(0, .ref (sv_r G 14 0)), (1, .int (nI g1)), (2, .int v26)] dX5_press_29 rfl (by decide) rfl ?_
  refine sv_aload_n (i := 0) (x := sv_r G 14 0) C dX5_press_30 rfl rfl ?_
  refine sv_get_5_0 C kw_170 dX5_press_31 ?_
  refine sv_iload_n (i := 1) (x := nI g1) C dX5_press_34 rfl rfl ?_
  refine sv_callV (as := [_]) (rest := []) C (met_switchOn l G _ _ _ 0 g1 (by decide) (by omega)) fX3_switchOn kw_527 (sv_recv0 C (by decide)) ⟨Nat.le_of_ble_eq_true rfl, Nat.le_of_ble_eq_true rfl⟩ (Nat.le_of_ble_eq_true rfl) dX5_press_35 ⟨Nat.le_of_ble_eq_true rfl, Nat.le_of_ble_eq_true rfl⟩  ?_
  refine sv_rv ?_
  refine sv_iload_n (i := 2) (x := v26) C dX5_press_38 rfl rfl ?_
  exact sv_iretX C ok1 hr dX5_press_39 (Nat.le_of_ble_eq_true rfl) (Nat.le_of_ble_eq_true rfl) (by rw [e26, sav_0, nI_clamp (by omega)]) (sv_eqW (by rw [sav_0, nI_clamp (by omega)]))

set_option maxHeartbeats 4000000 in
set_option maxRecDepth 100000 in
theorem met_sensor (l : Launch) (G : sv_G) (hl : l.stackTraces = false) (z : Nat) (M : sv_M) (o : Int64) (f b : Int32) (hb : b = 0 ∨ b = 1) (od hd : Nat) (hod : od < 6) (h0 : M 8 0 = nI od) (h1 : M 8 1 = nI hd) (hd6 : hd ≤ 6) (b6 : M 0 6 = 0 ∨ M 0 6 = 1) (b7 : M 0 7 = 0 ∨ M 0 7 = 1) : sv_MetX l G yX5_sensor cX5_sensor 4 (some .int) 7 1 [.ref (sv_r G 14 0), .int f, .int b] (sv_W G z M o) (inC 8 f = 0) (some (.int (M 0 (6 * f.toNatClampNeg + 10)))) (sv_W G z (sv_u (sav od hd M) 0 (upd (M 0) (6 * f.toNatClampNeg + 10) b)) o) (sv_E1 sv_IO (inC 8 f)) (sv_Wz G z M o) := by
  refine sv_ofWX (by decide) kw_531 (Nat.le_of_ble_eq_true rfl) ?_
  intro p e s mth args below meth c hr C hxt
  refine sv_sub (lv' := [(0, .ref (sv_r G 14 0)), (1, .int f), (2, .int b)]) rfl ?_
  refine sv_iload_n (i := 1) (x := f) C dX5_sensor_0 rfl rfl ?_
  refine sv_callSX (as := [_]) (rest := []) C (met_checkFloor l G hl _ _ _ f) fX5_checkFloor kw_187 ⟨Nat.le_of_ble_eq_true rfl, Nat.le_of_ble_eq_true rfl⟩ (Nat.le_of_ble_eq_true rfl) dX5_sensor_1 ⟨Nat.le_of_ble_eq_true rfl, Nat.le_of_ble_eq_true rfl⟩ (fun E hE => sv_out C hxt (Nat.le_of_ble_eq_true rfl) (Nat.le_of_ble_eq_true rfl) (hE) (fun _ h => h)) ?_
  intro ok1
  refine sv_rv ?_
  obtain ⟨g1, hg1, rfl⟩ := inC_0 (by decide) ok1
  refine sv_aload_n (i := 0) (x := sv_r G 14 0) C dX5_sensor_4 rfl rfl ?_
  refine sv_get_5_2 C kw_172 dX5_sensor_5 ?_
  refine sv_aload_n (i := 0) (x := sv_r G 14 0) C dX5_sensor_8 rfl rfl ?_
  refine sv_get_5_0 C kw_170 dX5_sensor_9 ?_
  refine sv_callV (as := [_]) (rest := []) C (met_save hod h0 h1 hd6 b6 b7) fX1_save kw_500 (sv_recv15 C) ⟨Nat.le_of_ble_eq_true rfl, Nat.le_of_ble_eq_true rfl⟩ (Nat.le_of_ble_eq_true rfl) dX5_sensor_12 ⟨Nat.le_of_ble_eq_true rfl, Nat.le_of_ble_eq_true rfl⟩  ?_
  refine sv_rv ?_
  refine sv_aload_n (i := 0) (x := sv_r G 14 0) C dX5_sensor_15 rfl rfl ?_
  refine sv_get_5_0 C kw_170 dX5_sensor_16 ?_
  refine sv_get_3_0 C (by decide) kw_109 dX5_sensor_19 ?_
  refine sv_get_0_1 C (by decide) kw_45 dX5_sensor_22 ?_
  refine sv_iload_n (i := 1) (x := nI g1) C dX5_sensor_25 rfl rfl ?_
  refine sv_callS (as := [_, _]) (rest := []) C (met_atN 0 (6 * g1 + 10) rfl rfl (sv_okj (by decide) (by decide)) rfl (by show _ < 8; omega)) fX5_at kw_320 ⟨Nat.le_of_ble_eq_true rfl, Nat.le_of_ble_eq_true rfl⟩ (Nat.le_of_ble_eq_true rfl) dX5_sensor_26 ⟨Nat.le_of_ble_eq_true rfl, Nat.le_of_ble_eq_true rfl⟩  ?_
  refine sv_ri (fun v26 e26 => ?_)
  refine sv_istore_n (i := 3) C [(0, .ref (sv_r G 14 0)), (1, .int (nI g1)), (2, .int b), (3, .int v26)] dX5_sensor_29 rfl (by decide) rfl ?_
  refine sv_aload_n (i := 0) (x := sv_r G 14 0) C dX5_sensor_30 rfl rfl ?_
  refine sv_get_5_0 C kw_170 dX5_sensor_31 ?_
  refine sv_get_3_0 C (by decide) kw_109 dX5_sensor_34 ?_
  refine sv_get_0_1 C (by decide) kw_45 dX5_sensor_37 ?_
  refine sv_iload_n (i := 1) (x := nI g1) C dX5_sensor_40 rfl rfl ?_
  refine sv_iload_n (i := 2) (x := b) C dX5_sensor_41 rfl rfl ?_
  refine sv_callS (as := [_]) (rest := [_, _]) C (met_numberOf l G _ b hb) fX5_numberOf kw_308 ⟨Nat.le_of_ble_eq_true rfl, Nat.le_of_ble_eq_true rfl⟩ (Nat.le_of_ble_eq_true rfl) dX5_sensor_42 ⟨Nat.le_of_ble_eq_true rfl, Nat.le_of_ble_eq_true rfl⟩  ?_
  refine sv_riS b rfl ?_
  refine sv_callS (as := [_, _, _]) (rest := []) C (met_putN 0 (6 * g1 + 10) rfl rfl (sv_okj (by decide) (by decide)) rfl (by show _ < 8; omega)) fX5_put kw_417 ⟨Nat.le_of_ble_eq_true rfl, Nat.le_of_ble_eq_true rfl⟩ (Nat.le_of_ble_eq_true rfl) dX5_sensor_45 ⟨Nat.le_of_ble_eq_true rfl, Nat.le_of_ble_eq_true rfl⟩  ?_
  refine sv_rv ?_
  refine sv_iload_n (i := 3) (x := v26) C dX5_sensor_48 rfl rfl ?_
  exact sv_iretX C ok1 hr dX5_sensor_49 (Nat.le_of_ble_eq_true rfl) (Nat.le_of_ble_eq_true rfl) (by rw [e26, sav_0, nI_clamp (by omega)]) (sv_eqW (by rw [sv_wu, sav_0, nI_clamp (by omega)]))

set_option maxHeartbeats 4000000 in
set_option maxRecDepth 100000 in
theorem met_night (l : Launch) (G : sv_G) (z : Nat) (M : sv_M) (o : Int64) (b : Int32) (hb : b = 0 ∨ b = 1) (od hd : Nat) (hod : od < 6) (h0 : M 8 0 = nI od) (h1 : M 8 1 = nI hd) (hd6 : hd ≤ 6) (b6 : M 0 6 = 0 ∨ M 0 6 = 1) (b7 : M 0 7 = 0 ∨ M 0 7 = 1) : sv_Met l G yX5_night cX5_night 3 (some .int) 4 [.ref (sv_r G 14 0), .int b] (sv_W G z M o) (some (.int (M 0 6))) (sv_W G z (sv_u (sav od hd M) 0 (upd (M 0) 6 b)) o) := by
  refine sv_ofW (by decide) kw_535 (Nat.le_of_ble_eq_true rfl) ?_
  intro p e s mth args below meth c hr C _
  refine sv_sub (lv' := [(0, .ref (sv_r G 14 0)), (1, .int b)]) rfl ?_
  refine sv_aload_n (i := 0) (x := sv_r G 14 0) C dX5_night_0 rfl rfl ?_
  refine sv_get_5_2 C kw_172 dX5_night_1 ?_
  refine sv_aload_n (i := 0) (x := sv_r G 14 0) C dX5_night_4 rfl rfl ?_
  refine sv_get_5_0 C kw_170 dX5_night_5 ?_
  refine sv_callV (as := [_]) (rest := []) C (met_save hod h0 h1 hd6 b6 b7) fX1_save kw_500 (sv_recv15 C) ⟨Nat.le_of_ble_eq_true rfl, Nat.le_of_ble_eq_true rfl⟩ (Nat.le_of_ble_eq_true rfl) dX5_night_8 ⟨Nat.zero_le _, Nat.zero_le _⟩  ?_
  refine sv_rv ?_
  refine sv_aload_n (i := 0) (x := sv_r G 14 0) C dX5_night_11 rfl rfl ?_
  refine sv_get_5_0 C kw_170 dX5_night_12 ?_
  refine sv_get_3_3 C (by decide) kw_115 dX5_night_15 ?_
  refine sv_set (v' := .int (M 0 6)) (congrArg Value.int (by rw [sav_0])) ?_
  refine sv_callS (as := [_]) (rest := []) C (met_numberOf l G _ (M 0 6) b6) fX5_numberOf kw_308 ⟨Nat.le_of_ble_eq_true rfl, Nat.le_of_ble_eq_true rfl⟩ (Nat.le_of_ble_eq_true rfl) dX5_night_18 ⟨Nat.zero_le _, Nat.zero_le _⟩  ?_
  refine sv_riS (M 0 6) rfl ?_
  refine sv_istore_n (i := 2) C [(0, .ref (sv_r G 14 0)), (1, .int b), (2, .int (M 0 6))] dX5_night_21 rfl (by decide) rfl ?_
  refine sv_aload_n (i := 0) (x := sv_r G 14 0) C dX5_night_22 rfl rfl ?_
  refine sv_get_5_0 C kw_170 dX5_night_23 ?_
  refine sv_iload_n (i := 1) (x := b) C dX5_night_26 rfl rfl ?_
  refine sv_put_3_3 C (by decide) hb kw_115 dX5_night_27 ?_
  refine sv_iload_n (i := 2) (x := M 0 6) C dX5_night_30 rfl rfl ?_
  exact sv_iret C hr dX5_night_31 (Nat.le_of_ble_eq_true rfl) (Nat.le_of_ble_eq_true rfl) rfl (sv_eqW (by rw [sv_wu, sav_0]))

set_option maxHeartbeats 4000000 in
set_option maxRecDepth 100000 in
theorem met_fire (l : Launch) (G : sv_G) (z : Nat) (M : sv_M) (o : Int64) (b : Int32) (hb : b = 0 ∨ b = 1) (od hd : Nat) (hod : od < 6) (h0 : M 8 0 = nI od) (h1 : M 8 1 = nI hd) (hd6 : hd ≤ 6) (b6 : M 0 6 = 0 ∨ M 0 6 = 1) (b7 : M 0 7 = 0 ∨ M 0 7 = 1) : sv_Met l G yX5_fire cX5_fire 3 (some .int) 5 [.ref (sv_r G 14 0), .int b] (sv_W G z M o) (some (.int (M 0 7))) (sv_W G z (sv_u (sav od hd M) 0 (firv b (M 0))) o) := by
  refine sv_ofW (by decide) kw_539 (Nat.le_of_ble_eq_true rfl) ?_
  intro p e s mth args below meth c hr C _
  refine sv_sub (lv' := [(0, .ref (sv_r G 14 0)), (1, .int b)]) rfl ?_
  refine sv_aload_n (i := 0) (x := sv_r G 14 0) C dX5_fire_0 rfl rfl ?_
  refine sv_get_5_2 C kw_172 dX5_fire_1 ?_
  refine sv_aload_n (i := 0) (x := sv_r G 14 0) C dX5_fire_4 rfl rfl ?_
  refine sv_get_5_0 C kw_170 dX5_fire_5 ?_
  refine sv_callV (as := [_]) (rest := []) C (met_save hod h0 h1 hd6 b6 b7) fX1_save kw_500 (sv_recv15 C) ⟨Nat.le_of_ble_eq_true rfl, Nat.le_of_ble_eq_true rfl⟩ (Nat.le_of_ble_eq_true rfl) dX5_fire_8 ⟨Nat.zero_le _, Nat.zero_le _⟩  ?_
  refine sv_rv ?_
  refine sv_aload_n (i := 0) (x := sv_r G 14 0) C dX5_fire_11 rfl rfl ?_
  refine sv_get_5_0 C kw_170 dX5_fire_12 ?_
  refine sv_get_3_4 C (by decide) kw_117 dX5_fire_15 ?_
  refine sv_set (v' := .int (M 0 7)) (congrArg Value.int (by rw [sav_0])) ?_
  refine sv_callS (as := [_]) (rest := []) C (met_numberOf l G _ (M 0 7) b7) fX5_numberOf kw_308 ⟨Nat.le_of_ble_eq_true rfl, Nat.le_of_ble_eq_true rfl⟩ (Nat.le_of_ble_eq_true rfl) dX5_fire_18 ⟨Nat.zero_le _, Nat.zero_le _⟩  ?_
  refine sv_riS (M 0 7) rfl ?_
  refine sv_istore_n (i := 2) C [(0, .ref (sv_r G 14 0)), (1, .int b), (2, .int (M 0 7))] dX5_fire_21 rfl (by decide) rfl ?_
  refine sv_aload_n (i := 0) (x := sv_r G 14 0) C dX5_fire_22 rfl rfl ?_
  refine sv_get_5_0 C kw_170 dX5_fire_23 ?_
  refine sv_get_3_4 C (by decide) kw_117 dX5_fire_26 ?_
  refine sv_set (v' := .int (M 0 7)) (congrArg Value.int (by rw [sav_0])) ?_
  refine sv_if_eq C 43 dX5_fire_29 (by decide) (fun q29 => ?_) (fun q29 => ?_)
  · refine sv_aload_n (i := 0) (x := sv_r G 14 0) C dX5_fire_43 rfl rfl ?_
    refine sv_get_5_0 C kw_170 dX5_fire_44 ?_
    refine sv_iload_n (i := 1) (x := b) C dX5_fire_47 rfl rfl ?_
    refine sv_put_3_4 C (by decide) hb kw_117 dX5_fire_48 ?_
    refine sv_iload_n (i := 2) (x := M 0 7) C dX5_fire_51 rfl rfl ?_
    exact sv_iret C hr dX5_fire_52 (Nat.le_of_ble_eq_true rfl) (Nat.le_of_ble_eq_true rfl) rfl (sv_eqW (by rw [sv_wu, sav_0]; unfold firv; rw [if_neg (fun h => absurd (q29.symm.trans h.1) (by decide))]))
  · refine sv_iload_n (i := 1) (x := b) C dX5_fire_32 rfl rfl ?_
    refine sv_if_ne C 43 dX5_fire_33 (by decide) (fun q33 => ?_) (fun q33 => ?_)
    · refine sv_aload_n (i := 0) (x := sv_r G 14 0) C dX5_fire_43 rfl rfl ?_
      refine sv_get_5_0 C kw_170 dX5_fire_44 ?_
      refine sv_iload_n (i := 1) (x := b) C dX5_fire_47 rfl rfl ?_
      refine sv_put_3_4 C (by decide) hb kw_117 dX5_fire_48 ?_
      refine sv_iload_n (i := 2) (x := M 0 7) C dX5_fire_51 rfl rfl ?_
      exact sv_iret C hr dX5_fire_52 (Nat.le_of_ble_eq_true rfl) (Nat.le_of_ble_eq_true rfl) rfl (sv_eqW (by rw [sv_wu, sav_0]; unfold firv; rw [if_neg (fun h => q33 h.2)]))
    · refine sv_aload_n (i := 0) (x := sv_r G 14 0) C dX5_fire_36 rfl rfl ?_
      refine sv_get_5_0 C kw_170 dX5_fire_37 ?_
      refine sv_callV (as := []) (rest := []) C (met_switchAllOn l G _ _ _ 0 (by decide)) fX3_switchAllOn kw_540 (sv_recv0 C (by decide)) ⟨Nat.le_of_ble_eq_true rfl, Nat.le_of_ble_eq_true rfl⟩ (Nat.le_of_ble_eq_true rfl) dX5_fire_40 ⟨Nat.zero_le _, Nat.zero_le _⟩  ?_
      refine sv_rv ?_
      refine sv_aload_n (i := 0) (x := sv_r G 14 0) C dX5_fire_43 rfl rfl ?_
      refine sv_get_5_0 C kw_170 dX5_fire_44 ?_
      refine sv_iload_n (i := 1) (x := b) C dX5_fire_47 rfl rfl ?_
      refine sv_put_3_4 C (by decide) hb kw_117 dX5_fire_48 ?_
      refine sv_iload_n (i := 2) (x := M 0 7) C dX5_fire_51 rfl rfl ?_
      exact sv_iret C hr dX5_fire_52 (Nat.le_of_ble_eq_true rfl) (Nat.le_of_ble_eq_true rfl) rfl (sv_eqW (by rw [sv_wu, sv_us, sv_uu, sav_0]; unfold firv; rw [if_pos ⟨b7.resolve_left q29, q33⟩]))

