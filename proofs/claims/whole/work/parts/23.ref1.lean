def inN (v a b : Int32) : Int32 := if a ≤ v ∧ v ≤ b then 1 else 0
theorem inN_b (v a b : Int32) : inN v a b = 0 ∨ inN v a b = 1 := by
  unfold inN
  split
  · exact Or.inr rfl
  · exact Or.inl rfl
set_option maxHeartbeats 800000 in
set_option maxRecDepth 100000 in
theorem met_R_in (l : Launch) (G : sv_G) (Wd : Heap → Prop) (v a b : Int32) : sv_Met l G yX6_in cX6_in 3 (some .boolean) 0 [.int v, .int a, .int b] Wd (some (.int (inN v a b))) Wd := by
  refine sv_ofW (by decide) kw_789 (Nat.le_of_ble_eq_true rfl) ?_
  intro p e s mth args below meth c hr C _
  refine sv_sub (lv' := [(0, .int v), (1, .int a), (2, .int b)]) rfl ?_
  refine sv_iload_n (i := 0) (x := v) C dX6_in_0 rfl rfl ?_
  refine sv_iload_n (i := 1) (x := a) C dX6_in_1 rfl rfl ?_
  refine sv_icmp_lt C 14 dX6_in_2 (by decide) (fun q2 => ?_) (fun q2 => ?_)
  · refine sv_iconst (v := nI 0) C dX6_in_14 (by decide) ?_
    exact sv_zret C (inN_b v a b) hr dX6_in_15 (Nat.le_of_ble_eq_true rfl) (Nat.le_of_ble_eq_true rfl) (by unfold inN; rw [if_neg (fun h => absurd h.1 (Int32.not_le.mpr q2))]; rfl) (fun _ h => h)
  · refine sv_iload_n (i := 0) (x := v) C dX6_in_5 rfl rfl ?_
    refine sv_iload_n (i := 2) (x := b) C dX6_in_6 rfl rfl ?_
    refine sv_icmp_gt C 14 dX6_in_7 (by decide) (fun q7 => ?_) (fun q7 => ?_)
    · refine sv_iconst (v := nI 0) C dX6_in_14 (by decide) ?_
      exact sv_zret C (inN_b v a b) hr dX6_in_15 (Nat.le_of_ble_eq_true rfl) (Nat.le_of_ble_eq_true rfl) (by unfold inN; rw [if_neg (fun h => absurd h.2 (Int32.not_le.mpr q7))]; rfl) (fun _ h => h)
    · refine sv_iconst (v := nI 1) C dX6_in_10 (by decide) ?_
      refine sv_goto C 15 dX6_in_11 (by decide) ?_
      exact sv_zret C (inN_b v a b) hr dX6_in_15 (Nat.le_of_ble_eq_true rfl) (Nat.le_of_ble_eq_true rfl) (by unfold inN; rw [if_pos ⟨Int32.not_lt.mp q2, Int32.not_lt.mp q7⟩]; rfl) (fun _ h => h)

set_option maxHeartbeats 800000 in
set_option maxRecDepth 100000 in
theorem met_R_isFloor (l : Launch) (G : sv_G) (Wd : Heap → Prop) (v : Int32) : sv_Met l G yX6_isFloor cX6_isFloor 1 (some .boolean) 1 [.int v] Wd (some (.int (inN v 0 7))) Wd := by
  refine sv_ofW (by decide) kw_786 (Nat.le_of_ble_eq_true rfl) ?_
  intro p e s mth args below meth c hr C _
  refine sv_sub (lv' := [(0, .int v)]) rfl ?_
  refine sv_iload_n (i := 0) (x := v) C dX6_isFloor_0 rfl rfl ?_
  refine sv_iconst (v := nI 0) C dX6_isFloor_1 (by decide) ?_
  refine sv_bipush (v := nI 7) C dX6_isFloor_2 (by decide) ?_
  refine sv_callS (as := [_, _, _]) (rest := []) C (met_R_in l G _ v (nI 0) (nI 7)) fX6_in kw_787 ⟨Nat.le_of_ble_eq_true rfl, Nat.le_of_ble_eq_true rfl⟩ (Nat.le_of_ble_eq_true rfl) dX6_isFloor_4 ⟨Nat.zero_le _, Nat.zero_le _⟩  ?_
  refine sv_ri (fun v4 e4 => ?_)
  exact sv_zret C (inN_b v 0 7) hr dX6_isFloor_7 (Nat.le_of_ble_eq_true rfl) (Nat.le_of_ble_eq_true rfl) e4 (fun _ h => h)

theorem inN_0 {v : Int32} (h : inN v 0 7 = 0) : inC 8 v = 1 := by
  unfold inN at h
  unfold inC
  split at h
  · exact absurd h (by decide)
  · rename_i h1
    refine if_pos (Decidable.byContradiction fun h2 => h1 ⟨Int32.not_lt.mp fun q => h2 (Or.inl q), Int32.not_lt.mp fun q => h2 (Or.inr ?_)⟩)
    obtain ⟨g, hg, e⟩ | h3 := (show (∃ g, g < 8 ∧ v = nI g) ∨ nI 8 ≤ v by
      rcases pk_ix v (n := 8) (by decide) with h4 | h4 | h4
      · exact absurd (Or.inl h4) h2
      · exact Or.inr h4
      · exact Or.inl h4)
    · rw [e] at q
      exact absurd ((nI_ltI (a := 7) (b := g) (by decide) (by omega)).mp q) (by omega)
    · exact h3
theorem inN_1 {v : Int32} (h : ¬ inN v 0 7 = 0) : inC 8 v = 0 := by
  unfold inN at h
  unfold inC
  split at h
  · rename_i h1
    refine if_neg (fun h2 => h2.elim (fun q => absurd h1.1 (Int32.not_le.mpr q)) (fun q => ?_))
    have h3 := Int32.le_trans q h1.2
    exact absurd h3 (by decide)
  · exact absurd rfl h
set_option maxHeartbeats 800000 in
set_option maxRecDepth 100000 in
theorem met_R_mayWalk (l : Launch) (G : sv_G) (Wd : Heap → Prop) (f t : Int32) : sv_Met l G yX6_mayWalk cX6_mayWalk 2 (some .int) 2 [.int f, .int t] Wd (some (.int (nI (wayC f t)))) Wd := by
  refine sv_ofW (by decide) kw_783 (Nat.le_of_ble_eq_true rfl) ?_
  intro p e s mth args below meth c hr C _
  refine sv_sub (lv' := [(0, .int f), (1, .int t)]) rfl ?_
  refine sv_iload_n (i := 0) (x := f) C dX6_mayWalk_0 rfl rfl ?_
  refine sv_callS (as := [_]) (rest := []) C (met_R_isFloor l G _ f) fX6_isFloor kw_784 ⟨Nat.le_of_ble_eq_true rfl, Nat.le_of_ble_eq_true rfl⟩ (Nat.le_of_ble_eq_true rfl) dX6_mayWalk_1 ⟨Nat.zero_le _, Nat.zero_le _⟩  ?_
  refine sv_ri (fun v1 e1 => ?_)
  refine sv_if_eq C 14 dX6_mayWalk_4 (by decide) (fun q4 => ?_) (fun q4 => ?_)
  · refine sv_iconst (v := nI 1) C dX6_mayWalk_14 (by decide) ?_
    refine sv_goto C 28 dX6_mayWalk_15 (by decide) ?_
    exact sv_iret C hr dX6_mayWalk_28 (Nat.le_of_ble_eq_true rfl) (Nat.le_of_ble_eq_true rfl) (by unfold wayC; rw [if_pos (Or.inl (inN_0 (e1.symm.trans q4)))]) (fun _ h => h)
  · refine sv_iload_n (i := 1) (x := t) C dX6_mayWalk_7 rfl rfl ?_
    refine sv_callS (as := [_]) (rest := []) C (met_R_isFloor l G _ t) fX6_isFloor kw_784 ⟨Nat.le_of_ble_eq_true rfl, Nat.le_of_ble_eq_true rfl⟩ (Nat.le_of_ble_eq_true rfl) dX6_mayWalk_8 ⟨Nat.zero_le _, Nat.zero_le _⟩  ?_
    refine sv_ri (fun v8 e8 => ?_)
    refine sv_if_ne C 18 dX6_mayWalk_11 (by decide) (fun q11 => ?_) (fun q11 => ?_)
    · refine sv_iload_n (i := 0) (x := f) C dX6_mayWalk_18 rfl rfl ?_
      refine sv_iload_n (i := 1) (x := t) C dX6_mayWalk_19 rfl rfl ?_
      refine sv_icmp_ne C 27 dX6_mayWalk_20 (by decide) (fun q20 => ?_) (fun q20 => ?_)
      · refine sv_iconst (v := nI 0) C dX6_mayWalk_27 (by decide) ?_
        exact sv_iret C hr dX6_mayWalk_28 (Nat.le_of_ble_eq_true rfl) (Nat.le_of_ble_eq_true rfl) (by unfold wayC; rw [if_neg (fun h => h.elim (fun h => absurd ((inN_1 (fun h => q4 (e1.trans h))).symm.trans h) (by decide)) (fun h => absurd ((inN_1 (fun h => q11 (e8.trans h))).symm.trans h) (by decide))), if_neg q20]) (fun _ h => h)
      · refine sv_iconst (v := nI 2) C dX6_mayWalk_23 (by decide) ?_
        refine sv_goto C 28 dX6_mayWalk_24 (by decide) ?_
        exact sv_iret C hr dX6_mayWalk_28 (Nat.le_of_ble_eq_true rfl) (Nat.le_of_ble_eq_true rfl) (by unfold wayC; rw [if_neg (fun h => h.elim (fun h => absurd ((inN_1 (fun h => q4 (e1.trans h))).symm.trans h) (by decide)) (fun h => absurd ((inN_1 (fun h => q11 (e8.trans h))).symm.trans h) (by decide))), if_pos q20]) (fun _ h => h)
    · refine sv_iconst (v := nI 1) C dX6_mayWalk_14 (by decide) ?_
      refine sv_goto C 28 dX6_mayWalk_15 (by decide) ?_
      exact sv_iret C hr dX6_mayWalk_28 (Nat.le_of_ble_eq_true rfl) (Nat.le_of_ble_eq_true rfl) (by unfold wayC; rw [if_pos (Or.inr (inN_0 (e8.symm.trans q11)))]) (fun _ h => h)

set_option maxHeartbeats 800000 in
set_option maxRecDepth 100000 in
theorem met_R20_of (l : Launch) (G : sv_G) (z : Nat) (M : sv_M) (o : Int64) (f w9 : Nat) (hf : f < 8) (hw : w9 < 6) : sv_Met l G yX6_of cX6_of 3 (some .int) 0 [.ref (sv_r G 20 0), .int (nI f), .int (nI w9)] (sv_W G z M o) (some (.int (M 10 (6 * f + 9 + w9)))) (sv_W G z M o) := by
  refine sv_ofW (by decide) kw_814 (Nat.le_of_ble_eq_true rfl) ?_
  intro p e s mth args below meth c hr C _
  refine sv_sub (lv' := [(0, .ref (sv_r G 20 0)), (1, .int (nI f)), (2, .int (nI w9))]) rfl ?_
  refine sv_aload_n (i := 0) (x := sv_r G 20 0) C dX6_of_0 rfl rfl ?_
  refine sv_bipush (v := nI 9) C dX6_of_1 (by decide) ?_
  refine sv_bipush (v := nI 6) C dX6_of_3 (by decide) ?_
  refine sv_iload_n (i := 1) (x := nI f) C dX6_of_5 rfl rfl ?_
  refine sv_imul C dX6_of_6 ?_
  refine sv_set (v' := .int (nI (6 * f))) (congrArg Value.int (pk_mul _ _)) ?_
  refine sv_iadd C dX6_of_7 ?_
  refine sv_set (v' := .int (nI (6 * f + 9))) (congrArg Value.int (by rw [nI_add]; exact congrArg nI (by omega))) ?_
  refine sv_iload_n (i := 2) (x := nI w9) C dX6_of_8 rfl rfl ?_
  refine sv_iadd C dX6_of_9 ?_
  refine sv_set (v' := .int (nI (6 * f + 9 + w9))) (congrArg Value.int (nI_add _ _)) ?_
  refine sv_ialdN C 10 (6 * f + 9 + w9) rfl rfl rfl rfl (by show _ < 86; omega) dX6_of_10 ?_
  refine sv_topi (fun v10 e10 => ?_)
  exact sv_iret C hr dX6_of_11 (Nat.le_of_ble_eq_true rfl) (Nat.le_of_ble_eq_true rfl) e10 (fun _ h => h)

set_option maxHeartbeats 800000 in
set_option maxRecDepth 100000 in
theorem met_R20_by (l : Launch) (G : sv_G) (z : Nat) (M : sv_M) (o : Int64) (f w9 : Nat) (hf : f < 7) (hw : w9 < 4) : sv_Met l G yX6_by cX6_by 3 (some .int) 0 [.ref (sv_r G 20 0), .int (nI f), .int (nI w9)] (sv_W G z M o) (some (.int (M 10 (4 * f + 58 + w9)))) (sv_W G z M o) := by
  refine sv_ofW (by decide) kw_803 (Nat.le_of_ble_eq_true rfl) ?_
  intro p e s mth args below meth c hr C _
  refine sv_sub (lv' := [(0, .ref (sv_r G 20 0)), (1, .int (nI f)), (2, .int (nI w9))]) rfl ?_
  refine sv_aload_n (i := 0) (x := sv_r G 20 0) C dX6_by_0 rfl rfl ?_
  refine sv_bipush (v := nI 58) C dX6_by_1 (by decide) ?_
  refine sv_iconst (v := nI 4) C dX6_by_3 (by decide) ?_
  refine sv_iload_n (i := 1) (x := nI f) C dX6_by_4 rfl rfl ?_
  refine sv_imul C dX6_by_5 ?_
  refine sv_set (v' := .int (nI (4 * f))) (congrArg Value.int (pk_mul _ _)) ?_
  refine sv_iadd C dX6_by_6 ?_
  refine sv_set (v' := .int (nI (4 * f + 58))) (congrArg Value.int (by rw [nI_add]; exact congrArg nI (by omega))) ?_
  refine sv_iload_n (i := 2) (x := nI w9) C dX6_by_7 rfl rfl ?_
  refine sv_iadd C dX6_by_8 ?_
  refine sv_set (v' := .int (nI (4 * f + 58 + w9))) (congrArg Value.int (nI_add _ _)) ?_
  refine sv_ialdN C 10 (4 * f + 58 + w9) rfl rfl rfl rfl (by show _ < 86; omega) dX6_by_9 ?_
  refine sv_topi (fun v9 e9 => ?_)
  exact sv_iret C hr dX6_by_10 (Nat.le_of_ble_eq_true rfl) (Nat.le_of_ble_eq_true rfl) e9 (fun _ h => h)

set_option maxHeartbeats 800000 in
set_option maxRecDepth 100000 in
theorem met_R20_lamp (l : Launch) (G : sv_G) (z : Nat) (M : sv_M) (o : Int64) (f : Nat) (hf : f < 8) : sv_Met l G yX6_lamp cX6_lamp 3 (some .int) 1 [.ref (sv_r G 20 0), .int (nI f)] (sv_W G z M o) (some (.int (lampv (M 10) f))) (sv_W G z M o) := by
  refine sv_ofW (by decide) kw_862 (Nat.le_of_ble_eq_true rfl) ?_
  intro p e s mth args below meth c hr C _
  refine sv_sub (lv' := [(0, .ref (sv_r G 20 0)), (1, .int (nI f))]) rfl ?_
  refine sv_aload_n (i := 0) (x := sv_r G 20 0) C dX6_lamp_0 rfl rfl ?_
  refine sv_bipush (v := nI 7) C dX6_lamp_1 (by decide) ?_
  refine sv_ialdN C 10 7 rfl rfl rfl rfl (by show _ < 86; omega) dX6_lamp_3 ?_
  refine sv_set (v' := .int (M 10 7)) (congrArg Value.int rfl) ?_
  refine sv_iconst (v := nI 1) C dX6_lamp_4 (by decide) ?_
  refine sv_icmp_ne C 10 dX6_lamp_5 (by decide) (fun q5 => ?_) (fun q5 => ?_)
  · refine sv_aload_n (i := 0) (x := sv_r G 20 0) C dX6_lamp_10 rfl rfl ?_
    refine sv_iload_n (i := 1) (x := nI f) C dX6_lamp_11 rfl rfl ?_
    refine sv_iconst (v := nI 0) C dX6_lamp_12 (by decide) ?_
    refine sv_callS (as := [_, _, _]) (rest := []) C (met_R20_of l G _ _ _ f 0 (by omega) (by omega)) fX6_of kw_812 ⟨Nat.le_of_ble_eq_true rfl, Nat.le_of_ble_eq_true rfl⟩ (Nat.le_of_ble_eq_true rfl) dX6_lamp_13 ⟨Nat.zero_le _, Nat.zero_le _⟩  ?_
    refine sv_riS (M 10 (6 * f + 9)) rfl ?_
    refine sv_istore_n (i := 2) C [(0, .ref (sv_r G 20 0)), (1, .int (nI f)), (2, .int (M 10 (6 * f + 9)))] dX6_lamp_16 rfl (by decide) rfl ?_
    refine sv_iload_n (i := 2) (x := M 10 (6 * f + 9)) C dX6_lamp_17 rfl rfl ?_
    refine sv_if_ne C 28 dX6_lamp_18 (by decide) (fun q18 => ?_) (fun q18 => ?_)
    · refine sv_iload_n (i := 2) (x := M 10 (6 * f + 9)) C dX6_lamp_28 rfl rfl ?_
      refine sv_aload_n (i := 0) (x := sv_r G 20 0) C dX6_lamp_29 rfl rfl ?_
      refine sv_iconst (v := nI 1) C dX6_lamp_30 (by decide) ?_
      refine sv_ialdN C 10 1 rfl rfl rfl rfl (by show _ < 86; omega) dX6_lamp_31 ?_
      refine sv_set (v' := .int (M 10 1)) (congrArg Value.int rfl) ?_
      refine sv_icmp_gt C 39 dX6_lamp_32 (by decide) (fun q32 => ?_) (fun q32 => ?_)
      · refine sv_iconst (v := nI 3) C dX6_lamp_39 (by decide) ?_
        exact sv_iret C hr dX6_lamp_40 (Nat.le_of_ble_eq_true rfl) (Nat.le_of_ble_eq_true rfl) (by rw [lampv_3 q5 q18 (fun h => absurd q32 (Int32.not_lt.mpr h))]; rfl) (fun _ h => h)
      · refine sv_iconst (v := nI 2) C dX6_lamp_35 (by decide) ?_
        refine sv_goto C 40 dX6_lamp_36 (by decide) ?_
        exact sv_iret C hr dX6_lamp_40 (Nat.le_of_ble_eq_true rfl) (Nat.le_of_ble_eq_true rfl) (by rw [lampv_2 q5 q18 (Int32.not_lt.mp q32)]; rfl) (fun _ h => h)
    · refine sv_aload_n (i := 0) (x := sv_r G 20 0) C dX6_lamp_21 rfl rfl ?_
      refine sv_bipush (v := nI 6) C dX6_lamp_22 (by decide) ?_
      refine sv_ialdN C 10 6 rfl rfl rfl rfl (by show _ < 86; omega) dX6_lamp_24 ?_
      refine sv_set (v' := .int (M 10 6)) (congrArg Value.int rfl) ?_
      refine sv_goto C 40 dX6_lamp_25 (by decide) ?_
      exact sv_iret C hr dX6_lamp_40 (Nat.le_of_ble_eq_true rfl) (Nat.le_of_ble_eq_true rfl) (lampv_0 q5 q18).symm (fun _ h => h)
  · refine sv_iconst (v := nI 3) C dX6_lamp_8 (by decide) ?_
    exact sv_iret C hr dX6_lamp_9 (Nat.le_of_ble_eq_true rfl) (Nat.le_of_ble_eq_true rfl) (by rw [lampv_f q5]; rfl) (fun _ h => h)

set_option maxHeartbeats 800000 in
set_option maxRecDepth 100000 in
theorem met_R20_switches (l : Launch) (G : sv_G) (z : Nat) (M : sv_M) (o : Int64) (f : Nat) (hf : f < 8) : sv_Met l G yX6_switches cX6_switches 3 none 0 [.ref (sv_r G 20 0), .int (nI f)] (sv_W G z M o) none (sv_W G z (sv_u M 10 (sw (M 10 0) f (M 10))) o) := by
  refine sv_ofW (by decide) kw_817 (Nat.le_of_ble_eq_true rfl) ?_
  intro p e s mth args below meth c hr C _
  refine sv_sub (lv' := [(0, .ref (sv_r G 20 0)), (1, .int (nI f))]) rfl ?_
  refine sv_bipush (v := nI 9) C dX6_switches_0 (by decide) ?_
  refine sv_bipush (v := nI 6) C dX6_switches_2 (by decide) ?_
  refine sv_iload_n (i := 1) (x := nI f) C dX6_switches_4 rfl rfl ?_
  refine sv_imul C dX6_switches_5 ?_
  refine sv_set (v' := .int (nI (6 * f))) (congrArg Value.int (pk_mul _ _)) ?_
  refine sv_iadd C dX6_switches_6 ?_
  refine sv_set (v' := .int (nI (6 * f + 9))) (congrArg Value.int (by rw [nI_add]; exact congrArg nI (by omega))) ?_
  refine sv_istore_n (i := 2) C [(0, .ref (sv_r G 20 0)), (1, .int (nI f)), (2, .int (nI (6 * f + 9)))] dX6_switches_7 rfl (by decide) rfl ?_
  refine sv_aload_n (i := 0) (x := sv_r G 20 0) C dX6_switches_8 rfl rfl ?_
  refine sv_iload_n (i := 2) (x := nI (6 * f + 9)) C dX6_switches_9 rfl rfl ?_
  refine sv_iconst (v := nI 5) C dX6_switches_10 (by decide) ?_
  refine sv_iadd C dX6_switches_11 ?_
  refine sv_set (v' := .int (nI (6 * f + 14))) (congrArg Value.int (nI_add _ _)) ?_
  refine sv_dup2_11 C dX6_switches_12 rfl rfl ?_
  refine sv_ialdN C 10 (6 * f + 14) rfl rfl rfl rfl (by show _ < 86; omega) dX6_switches_13 ?_
  refine sv_set (v' := .int (M 10 (6 * f + 14))) (congrArg Value.int rfl) ?_
  refine sv_aload_n (i := 0) (x := sv_r G 20 0) C dX6_switches_14 rfl rfl ?_
  refine sv_iload_n (i := 2) (x := nI (6 * f + 9)) C dX6_switches_15 rfl rfl ?_
  refine sv_ialdN C 10 (6 * f + 9) rfl rfl rfl rfl (by show _ < 86; omega) dX6_switches_16 ?_
  refine sv_set (v' := .int (M 10 (6 * f + 9))) (congrArg Value.int rfl) ?_
  refine sv_sel_if_ne (va := nI 1) (vb := nI 0) C 24 dX6_switches_17 (by decide) dX6_switches_20 (by decide) dX6_switches_21 (by decide) dX6_switches_24 (by decide) ?_
  refine sv_set (v' := .int (if M 10 (6 * f + 9) = 0 then 1 else 0)) (congrArg Value.int sel_ne) ?_
  refine sv_iadd C dX6_switches_25 ?_
  refine sv_set (v' := .int (M 10 (6 * f + 14) + (if M 10 (6 * f + 9) = 0 then 1 else 0))) (congrArg Value.int rfl) ?_
  refine sv_iastN C 10 (6 * f + 14) rfl rfl rfl rfl (by show _ < 86; omega) dX6_switches_26 ?_
  refine sv_aload_n (i := 0) (x := sv_r G 20 0) C dX6_switches_27 rfl rfl ?_
  refine sv_iload_n (i := 2) (x := nI (6 * f + 9)) C dX6_switches_28 rfl rfl ?_
  refine sv_aload_n (i := 0) (x := sv_r G 20 0) C dX6_switches_29 rfl rfl ?_
  refine sv_iload_n (i := 2) (x := nI (6 * f + 9)) C dX6_switches_30 rfl rfl ?_
  refine sv_ialdN C 10 (6 * f + 9) rfl rfl rfl rfl (by show _ < 86; omega) dX6_switches_31 ?_
  refine sv_set (v' := .int (M 10 (6 * f + 9))) (congrArg Value.int (by rw [sv_wu, sv_us, upd_n (by omega)])) ?_
  refine sv_aload_n (i := 0) (x := sv_r G 20 0) C dX6_switches_32 rfl rfl ?_
  refine sv_iconst (v := nI 0) C dX6_switches_33 (by decide) ?_
  refine sv_ialdN C 10 0 rfl rfl rfl rfl (by show _ < 86; omega) dX6_switches_34 ?_
  refine sv_set (v' := .int (M 10 0)) (congrArg Value.int (by rw [sv_wu, sv_us, upd_n (by omega)])) ?_
  refine sv_icmp_ge C 44 dX6_switches_35 (by decide) (fun q35 => ?_) (fun q35 => ?_)
  · have q35 : M 10 0 ≤ M 10 (6 * f + 9) := q35
    refine sv_aload_n (i := 0) (x := sv_r G 20 0) C dX6_switches_44 rfl rfl ?_
    refine sv_iload_n (i := 2) (x := nI (6 * f + 9)) C dX6_switches_45 rfl rfl ?_
    refine sv_ialdN C 10 (6 * f + 9) rfl rfl rfl rfl (by show _ < 86; omega) dX6_switches_46 ?_
    refine sv_topi (fun v46 e46 => ?_)
    refine sv_iastN C 10 (6 * f + 9) rfl rfl rfl rfl (by show _ < 86; omega) dX6_switches_47 ?_
    exact sv_vret C hr dX6_switches_48 (Nat.le_of_ble_eq_true rfl) (Nat.le_of_ble_eq_true rfl) (sv_eqW (by rw [e46]; simp only [sv_wu, sv_us, sv_uu]; rw [upd_n (show 6 * f + 9 ≠ 6 * f + 14 by omega)]; rw [swR_ge q35]))
  · have q35 : ¬ M 10 0 ≤ M 10 (6 * f + 9) := q35
    refine sv_aload_n (i := 0) (x := sv_r G 20 0) C dX6_switches_38 rfl rfl ?_
    refine sv_iconst (v := nI 0) C dX6_switches_39 (by decide) ?_
    refine sv_ialdN C 10 0 rfl rfl rfl rfl (by show _ < 86; omega) dX6_switches_40 ?_
    refine sv_topi (fun v40 e40 => ?_)
    refine sv_goto C 47 dX6_switches_41 (by decide) ?_
    refine sv_iastN C 10 (6 * f + 9) rfl rfl rfl rfl (by show _ < 86; omega) dX6_switches_47 ?_
    exact sv_vret C hr dX6_switches_48 (Nat.le_of_ble_eq_true rfl) (Nat.le_of_ble_eq_true rfl) (sv_eqW (by rw [e40]; simp only [sv_wu, sv_us, sv_uu]; rw [upd_n (show 0 ≠ 6 * f + 14 by omega), swR_lt q35]))

set_option maxHeartbeats 800000 in
set_option maxRecDepth 100000 in
theorem met_R20_on (l : Launch) (G : sv_G) (z : Nat) (M : sv_M) (o : Int64) (t : Int32) (m : Nat) (hm : M 10 57 = nI m) (hm7 : m ≤ 7) : sv_Met l G yX6_on cX6_on 4 (some .int) 1 [.ref (sv_r G 20 0), .int t] (sv_W G z M o) (some (.int (onI (M 10) t m))) (sv_W G z M o) := by
  refine sv_ofW (by decide) kw_859 (Nat.le_of_ble_eq_true rfl) ?_
  intro p e s mth args below meth c hr C _
  refine sv_sub (lv' := [(0, .ref (sv_r G 20 0)), (1, .int t)]) rfl ?_
  refine sv_iconst (v := nI 0) C dX6_on_0 (by decide) ?_
  refine sv_istore_n (i := 2) C [(0, .ref (sv_r G 20 0)), (1, .int t), (2, .int (nI 0))] dX6_on_1 rfl (by decide) rfl ?_
  refine sv_iconst (v := nI 0) C dX6_on_2 (by decide) ?_
  refine sv_istore_n (i := 3) C [(0, .ref (sv_r G 20 0)), (1, .int t), (2, .int (nI 0)), (3, .int (nI 0))] dX6_on_3 rfl (by decide) rfl ?_
  refine sv_loop (N := m) (I := fun i => True) (Wf := fun i => sv_W G z M o) (Lf := fun i => [(0, .ref (sv_r G 20 0)), (1, .int t), (2, .int (onI (M 10) t i)), (3, .int (nI i))]) 0 (Nat.zero_le _) trivial (fun i hi0 hi hIi ihi => ?_)
  refine sv_iload_n (i := 3) (x := nI i) C dX6_on_4 rfl rfl ?_
  refine sv_aload_n (i := 0) (x := sv_r G 20 0) C dX6_on_5 rfl rfl ?_
  refine sv_bipush (v := nI 57) C dX6_on_6 (by decide) ?_
  refine sv_ialdN C 10 57 rfl rfl rfl rfl (by show _ < 86; omega) dX6_on_8 ?_
  refine sv_set (v' := .int (nI m)) (congrArg Value.int hm) ?_
  refine sv_icmp_geN C 36 dX6_on_9 (by decide) (by omega) (by omega) (fun q9 => ?_) (fun q9 => ?_)
  · refine sv_iload_n (i := 2) (x := onI (M 10) t i) C dX6_on_36 rfl rfl ?_
    exact sv_iret C hr dX6_on_37 (Nat.le_of_ble_eq_true rfl) (Nat.le_of_ble_eq_true rfl) (by rw [show i = m from by omega]) (fun _ h => h)
  · refine sv_iload_n (i := 2) (x := onI (M 10) t i) C dX6_on_12 rfl rfl ?_
    refine sv_aload_n (i := 0) (x := sv_r G 20 0) C dX6_on_13 rfl rfl ?_
    refine sv_iload_n (i := 3) (x := nI i) C dX6_on_14 rfl rfl ?_
    refine sv_iconst (v := nI 1) C dX6_on_15 (by decide) ?_
    refine sv_callS (as := [_, _, _]) (rest := [_]) C (met_R20_by l G _ _ _ i 1 (by omega) (by omega)) fX6_by kw_801 ⟨Nat.le_of_ble_eq_true rfl, Nat.le_of_ble_eq_true rfl⟩ (Nat.le_of_ble_eq_true rfl) dX6_on_16 ⟨Nat.zero_le _, Nat.zero_le _⟩  ?_
    refine sv_riS (M 10 (4 * i + 59)) rfl ?_
    refine sv_iload_n (i := 1) (x := t) C dX6_on_19 rfl rfl ?_
    refine sv_sel_icmp_ne (va := nI 1) (vb := nI 0) C 27 dX6_on_20 (by decide) dX6_on_23 (by decide) dX6_on_24 (by decide) dX6_on_27 (by decide) ?_
    refine sv_set (v' := .int (if M 10 (4 * i + 59) = t then 1 else 0)) (congrArg Value.int sel_ne) ?_
    refine sv_iadd C dX6_on_28 ?_
    refine sv_set (v' := .int (onI (M 10) t (i + 1))) (congrArg Value.int rfl) ?_
    refine sv_istore_n (i := 2) C [(0, .ref (sv_r G 20 0)), (1, .int t), (2, .int (onI (M 10) t (i + 1))), (3, .int (nI i))] dX6_on_29 rfl (by decide) rfl ?_
    refine sv_iinc (i := 3) (x := nI i) C (nI (i + 1)) [(0, .ref (sv_r G 20 0)), (1, .int t), (2, .int (onI (M 10) t (i + 1))), (3, .int (nI (i + 1)))] dX6_on_30 rfl (sv_incN i 1) (by decide) rfl ?_
    refine sv_goto C 4 dX6_on_33 (by decide) ?_
    exact ihi (by omega) trivial

set_option maxHeartbeats 800000 in
set_option maxRecDepth 100000 in
theorem met_R20_leaves (l : Launch) (G : sv_G) (z : Nat) (M : sv_M) (o : Int64) (p9 : Nat) (m : Nat) (hm : M 10 57 = nI m) (hm7 : m ≤ 7) (hp : p9 < m) : sv_Met l G yX6_leaves cX6_leaves 3 none 0 [.ref (sv_r G 20 0), .int (nI p9)] (sv_W G z M o) none (sv_W G z (sv_u M 10 (rlv p9 m (M 10))) o) := by
  refine sv_ofW (by decide) kw_853 (Nat.le_of_ble_eq_true rfl) ?_
  intro p e s mth args below meth c hr C _
  refine sv_sub (lv' := [(0, .ref (sv_r G 20 0)), (1, .int (nI p9))]) rfl ?_
  refine sv_aload_n (i := 0) (x := sv_r G 20 0) C dX6_leaves_0 rfl rfl ?_
  refine sv_bipush (v := nI 57) C dX6_leaves_1 (by decide) ?_
  refine sv_dup2_11 C dX6_leaves_3 rfl rfl ?_
  refine sv_ialdN C 10 57 rfl rfl rfl rfl (by show _ < 86; omega) dX6_leaves_4 ?_
  refine sv_set (v' := .int (nI m)) (congrArg Value.int hm) ?_
  refine sv_iconst (v := nI 1) C dX6_leaves_5 (by decide) ?_
  refine sv_isub C dX6_leaves_6 ?_
  refine sv_set (v' := .int (nI (m - 1))) (congrArg Value.int (pk_sub (by omega))) ?_
  refine sv_iastN C 10 57 rfl rfl rfl rfl (by show _ < 86; omega) dX6_leaves_7 ?_
  refine sv_bipush (v := nI 58) C dX6_leaves_8 (by decide) ?_
  refine sv_iconst (v := nI 4) C dX6_leaves_10 (by decide) ?_
  refine sv_iload_n (i := 1) (x := nI p9) C dX6_leaves_11 rfl rfl ?_
  refine sv_imul C dX6_leaves_12 ?_
  refine sv_set (v' := .int (nI (4 * p9))) (congrArg Value.int (pk_mul _ _)) ?_
  refine sv_iadd C dX6_leaves_13 ?_
  refine sv_set (v' := .int (nI (4 * p9 + 58))) (congrArg Value.int (by rw [nI_add]; exact congrArg nI (by omega))) ?_
  refine sv_istore_n (i := 2) C [(0, .ref (sv_r G 20 0)), (1, .int (nI p9)), (2, .int (nI (4 * p9 + 58)))] dX6_leaves_14 rfl (by decide) rfl ?_
  refine sv_wd (sv_eqW (show _ = sv_u M 10 (shl (4 * p9 + 58) 0 (upd (M 10) 57 (nI (m - 1)))) from by rw [sv_wu]; rfl)) ?_
  refine sv_loop (N := (4 * (m - 1 - p9))) (I := fun i => True) (Wf := fun i => sv_W G z (sv_u M 10 (shl (4 * p9 + 58) i (upd (M 10) 57 (nI (m - 1))))) o) (Lf := fun i => [(0, .ref (sv_r G 20 0)), (1, .int (nI p9)), (2, .int (nI (4 * p9 + 58 + i)))]) 0 (Nat.zero_le _) trivial (fun i hi0 hi hIi ihi => ?_)
  refine sv_iload_n (i := 2) (x := nI (4 * p9 + 58 + i)) C dX6_leaves_15 rfl rfl ?_
  refine sv_bipush (v := nI 58) C dX6_leaves_16 (by decide) ?_
  refine sv_iconst (v := nI 4) C dX6_leaves_18 (by decide) ?_
  refine sv_aload_n (i := 0) (x := sv_r G 20 0) C dX6_leaves_19 rfl rfl ?_
  refine sv_bipush (v := nI 57) C dX6_leaves_20 (by decide) ?_
  refine sv_ialdN C 10 57 rfl rfl rfl rfl (by show _ < 86; omega) dX6_leaves_22 ?_
  refine sv_set (v' := .int (nI (m - 1))) (congrArg Value.int (by rw [sv_us, shl_o _ (by omega), upd_s])) ?_
  refine sv_imul C dX6_leaves_23 ?_
  refine sv_set (v' := .int (nI (4 * (m - 1)))) (congrArg Value.int (pk_mul _ _)) ?_
  refine sv_iadd C dX6_leaves_24 ?_
  refine sv_set (v' := .int (nI (58 + (4 * (m - 1))))) (congrArg Value.int (nI_add _ _)) ?_
  refine sv_icmp_geN C 42 dX6_leaves_25 (by decide) (by omega) (by omega) (fun q25 => ?_) (fun q25 => ?_)
  · exact sv_vret C hr dX6_leaves_42 (Nat.le_of_ble_eq_true rfl) (Nat.le_of_ble_eq_true rfl) (sv_eqW (by rw [show i = 4 * (m - 1 - p9) from by omega]; rfl))
  · refine sv_aload_n (i := 0) (x := sv_r G 20 0) C dX6_leaves_28 rfl rfl ?_
    refine sv_iload_n (i := 2) (x := nI (4 * p9 + 58 + i)) C dX6_leaves_29 rfl rfl ?_
    refine sv_aload_n (i := 0) (x := sv_r G 20 0) C dX6_leaves_30 rfl rfl ?_
    refine sv_iload_n (i := 2) (x := nI (4 * p9 + 58 + i)) C dX6_leaves_31 rfl rfl ?_
    refine sv_iconst (v := nI 4) C dX6_leaves_32 (by decide) ?_
    refine sv_iadd C dX6_leaves_33 ?_
    refine sv_set (v' := .int (nI (4 * p9 + 58 + i + 4))) (congrArg Value.int (nI_add _ _)) ?_
    refine sv_ialdN C 10 (4 * p9 + 58 + i + 4) rfl rfl rfl rfl (by show _ < 86; omega) dX6_leaves_34 ?_
    refine sv_topi (fun v34 e34 => ?_)
    refine sv_iastN C 10 (4 * p9 + 58 + i) rfl rfl rfl rfl (by show _ < 86; omega) dX6_leaves_35 ?_
    refine sv_iinc (i := 2) (x := nI (4 * p9 + 58 + i)) C (nI (4 * p9 + 58 + i + 1)) [(0, .ref (sv_r G 20 0)), (1, .int (nI p9)), (2, .int (nI (4 * p9 + 58 + i + 1)))] dX6_leaves_36 rfl (sv_incN (4 * p9 + 58 + i) 1) (by decide) rfl ?_
    refine sv_goto C 15 dX6_leaves_39 (by decide) ?_
    refine sv_wd (sv_eqW ?_) (ihi (by omega) trivial)
    rw [e34]
    simp only [sv_wu, sv_us, sv_uu]
    rfl

set_option maxHeartbeats 800000 in
set_option maxRecDepth 100000 in
theorem met_R20_walks (l : Launch) (G : sv_G) (z : Nat) (M : sv_M) (o : Int64) (m : Nat) (hm : M 10 57 = nI m) (hm7 : m ≤ 7) : sv_Met l G yX6_walks cX6_walks 3 none 1 [.ref (sv_r G 20 0)] (sv_W G z M o) none (sv_W G z (sv_u M 10 (rwk m (M 10))) o) := by
  refine sv_ofW (by decide) kw_850 (Nat.le_of_ble_eq_true rfl) ?_
  intro p e s mth args below meth c hr C _
  refine sv_sub (lv' := [(0, .ref (sv_r G 20 0))]) rfl ?_
  refine sv_iconst (v := nI 0) C dX6_walks_0 (by decide) ?_
  refine sv_istore_n (i := 1) C [(0, .ref (sv_r G 20 0)), (1, .int (nI 0))] dX6_walks_1 rfl (by decide) rfl ?_
  refine sv_wd (sv_eqW (show _ = sv_u M 10 (rwS m (M 10) 0).1 from (sv_ui _ 10).symm)) ?_
  refine sv_loop (N := m) (I := fun i => True) (Wf := fun i => sv_W G z (sv_u M 10 (rwS m (M 10) i).1) o) (Lf := fun i => [(0, .ref (sv_r G 20 0)), (1, .int (nI ((rwS m (M 10) i).2.1)))]) 0 (Nat.zero_le _) trivial (fun i hi0 hi hIi ihi => ?_)
  obtain ⟨b1, b2, b3⟩ := rwS_in hm i hi
  have hb3 := rwS_o (m := m) (x := M 10) (k := 3) (by decide) i
  have hst : rwS m (M 10) (i + 1) = rst (rwS m (M 10) i) := rfl
  have hen : i = m → rwk m (M 10) = (rwS m (M 10) i).1 := fun h => by rw [h]; rfl
  generalize hbs : rwS m (M 10) i = bs at b1 b2 b3 hb3 hst hen ⊢
  obtain ⟨x1, p9, n9⟩ := bs
  dsimp only at b1 b2 b3 hb3 hst hen
  show sv_V _ _ _ _ _ _ _ _ _ _ _ _ _ _ _ (sv_W G z (sv_u M 10 x1) o) _ [(0, .ref (sv_r G 20 0)), (1, .int (nI p9))] _
  refine sv_iload_n (i := 1) (x := nI p9) C dX6_walks_2 rfl rfl ?_
  refine sv_aload_n (i := 0) (x := sv_r G 20 0) C dX6_walks_3 rfl rfl ?_
  refine sv_bipush (v := nI 57) C dX6_walks_4 (by decide) ?_
  refine sv_ialdN C 10 57 rfl rfl rfl rfl (by show _ < 86; omega) dX6_walks_6 ?_
  refine sv_set (v' := .int (nI n9)) (congrArg Value.int (by rw [sv_us]; exact b3)) ?_
  refine sv_icmp_geN C 112 dX6_walks_7 (by decide) (by omega) (by omega) (fun q7 => ?_) (fun q7 => ?_)
  · exact sv_vret C hr dX6_walks_112 (Nat.le_of_ble_eq_true rfl) (Nat.le_of_ble_eq_true rfl) (sv_eqW (by rw [hen (by omega)]))
  · refine sv_bipush (v := nI 58) C dX6_walks_10 (by decide) ?_
    refine sv_iconst (v := nI 4) C dX6_walks_12 (by decide) ?_
    refine sv_iload_n (i := 1) (x := nI p9) C dX6_walks_13 rfl rfl ?_
    refine sv_imul C dX6_walks_14 ?_
    refine sv_set (v' := .int (nI (4 * p9))) (congrArg Value.int (pk_mul _ _)) ?_
    refine sv_iadd C dX6_walks_15 ?_
    refine sv_set (v' := .int (nI (4 * p9 + 58))) (congrArg Value.int (by rw [nI_add]; exact congrArg nI (by omega))) ?_
    refine sv_istore_n (i := 2) C [(0, .ref (sv_r G 20 0)), (1, .int (nI p9)), (2, .int (nI (4 * p9 + 58)))] dX6_walks_16 rfl (by decide) rfl ?_
    refine sv_aload_n (i := 0) (x := sv_r G 20 0) C dX6_walks_17 rfl rfl ?_
    refine sv_iload_n (i := 2) (x := nI (4 * p9 + 58)) C dX6_walks_18 rfl rfl ?_
    refine sv_iconst (v := nI 1) C dX6_walks_19 (by decide) ?_
    refine sv_iadd C dX6_walks_20 ?_
    refine sv_set (v' := .int (nI (4 * p9 + 59))) (congrArg Value.int (nI_add _ _)) ?_
    refine sv_ialdN C 10 (4 * p9 + 59) rfl rfl rfl rfl (by show _ < 86; omega) dX6_walks_21 ?_
    refine sv_set (v' := .int (x1 (4 * p9 + 59))) (congrArg Value.int (by rw [sv_us])) ?_
    refine sv_aload_n (i := 0) (x := sv_r G 20 0) C dX6_walks_22 rfl rfl ?_
    refine sv_iload_n (i := 2) (x := nI (4 * p9 + 58)) C dX6_walks_23 rfl rfl ?_
    refine sv_iconst (v := nI 2) C dX6_walks_24 (by decide) ?_
    refine sv_iadd C dX6_walks_25 ?_
    refine sv_set (v' := .int (nI (4 * p9 + 60))) (congrArg Value.int (nI_add _ _)) ?_
    refine sv_ialdN C 10 (4 * p9 + 60) rfl rfl rfl rfl (by show _ < 86; omega) dX6_walks_26 ?_
    refine sv_set (v' := .int (x1 (4 * p9 + 60))) (congrArg Value.int (by rw [sv_us])) ?_
    refine sv_icmp_ne C 38 dX6_walks_27 (by decide) (fun q27 => ?_) (fun q27 => ?_)
    · refine sv_aload_n (i := 0) (x := sv_r G 20 0) C dX6_walks_38 rfl rfl ?_
      refine sv_iload_n (i := 2) (x := nI (4 * p9 + 58)) C dX6_walks_39 rfl rfl ?_
      refine sv_iconst (v := nI 3) C dX6_walks_40 (by decide) ?_
      refine sv_iadd C dX6_walks_41 ?_
      refine sv_set (v' := .int (nI (4 * p9 + 61))) (congrArg Value.int (nI_add _ _)) ?_
      refine sv_dup2_11 C dX6_walks_42 rfl rfl ?_
      refine sv_ialdN C 10 (4 * p9 + 61) rfl rfl rfl rfl (by show _ < 86; omega) dX6_walks_43 ?_
      refine sv_set (v' := .int (x1 (4 * p9 + 61))) (congrArg Value.int (by rw [sv_us])) ?_
      refine sv_iconst (v := nI 1) C dX6_walks_44 (by decide) ?_
      refine sv_isub C dX6_walks_45 ?_
      refine sv_set (v' := .int (x1 (4 * p9 + 61) - 1)) (congrArg Value.int rfl) ?_
      refine sv_iastN C 10 (4 * p9 + 61) rfl rfl rfl rfl (by show _ < 86; omega) dX6_walks_46 ?_
      refine sv_aload_n (i := 0) (x := sv_r G 20 0) C dX6_walks_47 rfl rfl ?_
      refine sv_iload_n (i := 2) (x := nI (4 * p9 + 58)) C dX6_walks_48 rfl rfl ?_
      refine sv_iconst (v := nI 3) C dX6_walks_49 (by decide) ?_
      refine sv_iadd C dX6_walks_50 ?_
      refine sv_set (v' := .int (nI (4 * p9 + 61))) (congrArg Value.int (nI_add _ _)) ?_
      refine sv_ialdN C 10 (4 * p9 + 61) rfl rfl rfl rfl (by show _ < 86; omega) dX6_walks_51 ?_
      refine sv_set (v' := .int (x1 (4 * p9 + 61) - 1)) (congrArg Value.int (by simp only [sv_wu, sv_us, sv_uu]; rw [upd_s])) ?_
      refine sv_if_ne C 106 dX6_walks_52 (by decide) (fun q52 => ?_) (fun q52 => ?_)
      · refine sv_iinc (i := 1) (x := nI p9) C (nI (p9 + 1)) [(0, .ref (sv_r G 20 0)), (1, .int (nI (p9 + 1))), (2, .int (nI (4 * p9 + 58)))] dX6_walks_106 rfl (sv_incN p9 1) (by decide) rfl ?_
        refine sv_goto C 2 dX6_walks_109 (by decide) ?_
        refine sv_sub (lv' := [(0, .ref (sv_r G 20 0)), (1, .int (nI (p9 + 1)))]) rfl ?_
        have hs : rwS m (M 10) (i + 1) = (wkr p9 x1, p9 + 1, n9) := by
          rw [hst]
          unfold rst
          exact if_neg (show ¬ x1 (4 * p9 + 59) = x1 (4 * p9 + 60) from q27)
        have h9 := ihi (by omega) trivial
        rw [hs] at h9
        refine sv_wd (sv_eqW ?_) h9
        unfold wkr
        rw [if_neg q52]
        simp only [sv_wu, sv_us, sv_uu]
      · refine sv_aload_n (i := 0) (x := sv_r G 20 0) C dX6_walks_55 rfl rfl ?_
        refine sv_iload_n (i := 2) (x := nI (4 * p9 + 58)) C dX6_walks_56 rfl rfl ?_
        refine sv_iconst (v := nI 1) C dX6_walks_57 (by decide) ?_
        refine sv_iadd C dX6_walks_58 ?_
        refine sv_set (v' := .int (nI (4 * p9 + 59))) (congrArg Value.int (nI_add _ _)) ?_
        refine sv_dup2_11 C dX6_walks_59 rfl rfl ?_
        refine sv_ialdN C 10 (4 * p9 + 59) rfl rfl rfl rfl (by show _ < 86; omega) dX6_walks_60 ?_
        refine sv_set (v' := .int (x1 (4 * p9 + 59))) (congrArg Value.int (by simp only [sv_wu, sv_us, sv_uu]; rw [upd_n (show 4 * p9 + 59 ≠ 4 * p9 + 61 by omega)])) ?_
        refine sv_aload_n (i := 0) (x := sv_r G 20 0) C dX6_walks_61 rfl rfl ?_
        refine sv_iload_n (i := 2) (x := nI (4 * p9 + 58)) C dX6_walks_62 rfl rfl ?_
        refine sv_iconst (v := nI 2) C dX6_walks_63 (by decide) ?_
        refine sv_iadd C dX6_walks_64 ?_
        refine sv_set (v' := .int (nI (4 * p9 + 60))) (congrArg Value.int (nI_add _ _)) ?_
        refine sv_ialdN C 10 (4 * p9 + 60) rfl rfl rfl rfl (by show _ < 86; omega) dX6_walks_65 ?_
        refine sv_set (v' := .int (x1 (4 * p9 + 60))) (congrArg Value.int (by simp only [sv_wu, sv_us, sv_uu]; rw [upd_n (show 4 * p9 + 60 ≠ 4 * p9 + 61 by omega)])) ?_
        refine sv_aload_n (i := 0) (x := sv_r G 20 0) C dX6_walks_66 rfl rfl ?_
        refine sv_iload_n (i := 2) (x := nI (4 * p9 + 58)) C dX6_walks_67 rfl rfl ?_
        refine sv_iconst (v := nI 1) C dX6_walks_68 (by decide) ?_
        refine sv_iadd C dX6_walks_69 ?_
        refine sv_set (v' := .int (nI (4 * p9 + 59))) (congrArg Value.int (nI_add _ _)) ?_
        refine sv_ialdN C 10 (4 * p9 + 59) rfl rfl rfl rfl (by show _ < 86; omega) dX6_walks_70 ?_
        refine sv_set (v' := .int (x1 (4 * p9 + 59))) (congrArg Value.int (by simp only [sv_wu, sv_us, sv_uu]; rw [upd_n (show 4 * p9 + 59 ≠ 4 * p9 + 61 by omega)])) ?_
        refine sv_icmp_le C 78 dX6_walks_71 (by decide) (fun q71 => ?_) (fun q71 => ?_)
        · refine sv_iconst (v := (-1)) C dX6_walks_78 (by decide) ?_
          refine sv_iadd C dX6_walks_79 ?_
          refine sv_set (v' := .int (x1 (4 * p9 + 59) + (-1))) (congrArg Value.int rfl) ?_
          refine sv_iastN C 10 (4 * p9 + 59) rfl rfl rfl rfl (by show _ < 86; omega) dX6_walks_80 ?_
          refine sv_aload_n (i := 0) (x := sv_r G 20 0) C dX6_walks_81 rfl rfl ?_
          refine sv_iload_n (i := 2) (x := nI (4 * p9 + 58)) C dX6_walks_82 rfl rfl ?_
          refine sv_iconst (v := nI 3) C dX6_walks_83 (by decide) ?_
          refine sv_iadd C dX6_walks_84 ?_
          refine sv_set (v' := .int (nI (4 * p9 + 61))) (congrArg Value.int (nI_add _ _)) ?_
          refine sv_aload_n (i := 0) (x := sv_r G 20 0) C dX6_walks_85 rfl rfl ?_
          refine sv_iload_n (i := 2) (x := nI (4 * p9 + 58)) C dX6_walks_86 rfl rfl ?_
          refine sv_iconst (v := nI 1) C dX6_walks_87 (by decide) ?_
          refine sv_iadd C dX6_walks_88 ?_
          refine sv_set (v' := .int (nI (4 * p9 + 59))) (congrArg Value.int (nI_add _ _)) ?_
          refine sv_ialdN C 10 (4 * p9 + 59) rfl rfl rfl rfl (by show _ < 86; omega) dX6_walks_89 ?_
          refine sv_set (v' := .int (x1 (4 * p9 + 59) + (-1))) (congrArg Value.int (by simp only [sv_wu, sv_us, sv_uu]; rw [upd_s])) ?_
          refine sv_aload_n (i := 0) (x := sv_r G 20 0) C dX6_walks_90 rfl rfl ?_
          refine sv_iload_n (i := 2) (x := nI (4 * p9 + 58)) C dX6_walks_91 rfl rfl ?_
          refine sv_iconst (v := nI 2) C dX6_walks_92 (by decide) ?_
          refine sv_iadd C dX6_walks_93 ?_
          refine sv_set (v' := .int (nI (4 * p9 + 60))) (congrArg Value.int (nI_add _ _)) ?_
          refine sv_ialdN C 10 (4 * p9 + 60) rfl rfl rfl rfl (by show _ < 86; omega) dX6_walks_94 ?_
          refine sv_set (v' := .int (x1 (4 * p9 + 60))) (congrArg Value.int (by simp only [sv_wu, sv_us, sv_uu]; rw [upd_n (show 4 * p9 + 60 ≠ 4 * p9 + 59 by omega), upd_n (show 4 * p9 + 60 ≠ 4 * p9 + 61 by omega)])) ?_
          refine sv_icmp_ne C 102 dX6_walks_95 (by decide) (fun q95 => ?_) (fun q95 => ?_)
          · refine sv_aload_n (i := 0) (x := sv_r G 20 0) C dX6_walks_102 rfl rfl ?_
            refine sv_iconst (v := nI 3) C dX6_walks_103 (by decide) ?_
            refine sv_ialdN C 10 3 rfl rfl rfl rfl (by show _ < 86; omega) dX6_walks_104 ?_
            refine sv_set (v' := .int (x1 3)) (congrArg Value.int (by simp only [sv_wu, sv_us, sv_uu]; rw [upd_n (show 3 ≠ 4 * p9 + 59 by omega), upd_n (show 3 ≠ 4 * p9 + 61 by omega)])) ?_
            refine sv_iastN C 10 (4 * p9 + 61) rfl rfl rfl rfl (by show _ < 86; omega) dX6_walks_105 ?_
            refine sv_iinc (i := 1) (x := nI p9) C (nI (p9 + 1)) [(0, .ref (sv_r G 20 0)), (1, .int (nI (p9 + 1))), (2, .int (nI (4 * p9 + 58)))] dX6_walks_106 rfl (sv_incN p9 1) (by decide) rfl ?_
            refine sv_goto C 2 dX6_walks_109 (by decide) ?_
            refine sv_sub (lv' := [(0, .ref (sv_r G 20 0)), (1, .int (nI (p9 + 1)))]) rfl ?_
            have hs : rwS m (M 10) (i + 1) = (wkr p9 x1, p9 + 1, n9) := by
              rw [hst]
              unfold rst
              exact if_neg (show ¬ x1 (4 * p9 + 59) = x1 (4 * p9 + 60) from q27)
            have h9 := ihi (by omega) trivial
            rw [hs] at h9
            refine sv_wd (sv_eqW ?_) h9
            unfold wkr
            rw [if_pos q52]
            simp only [if_pos q71]
            rw [if_neg q95]
            simp only [sv_wu, sv_us, sv_uu]
          · refine sv_iconst (v := nI 0) C dX6_walks_98 (by decide) ?_
            refine sv_goto C 105 dX6_walks_99 (by decide) ?_
            refine sv_iastN C 10 (4 * p9 + 61) rfl rfl rfl rfl (by show _ < 86; omega) dX6_walks_105 ?_
            refine sv_iinc (i := 1) (x := nI p9) C (nI (p9 + 1)) [(0, .ref (sv_r G 20 0)), (1, .int (nI (p9 + 1))), (2, .int (nI (4 * p9 + 58)))] dX6_walks_106 rfl (sv_incN p9 1) (by decide) rfl ?_
            refine sv_goto C 2 dX6_walks_109 (by decide) ?_
            refine sv_sub (lv' := [(0, .ref (sv_r G 20 0)), (1, .int (nI (p9 + 1)))]) rfl ?_
            have hs : rwS m (M 10) (i + 1) = (wkr p9 x1, p9 + 1, n9) := by
              rw [hst]
              unfold rst
              exact if_neg (show ¬ x1 (4 * p9 + 59) = x1 (4 * p9 + 60) from q27)
            have h9 := ihi (by omega) trivial
            rw [hs] at h9
            refine sv_wd (sv_eqW ?_) h9
            unfold wkr
            rw [if_pos q52]
            simp only [if_pos q71]
            rw [if_pos q95]
            simp only [sv_wu, sv_us, sv_uu]
            rfl
        · refine sv_iconst (v := nI 1) C dX6_walks_74 (by decide) ?_
          refine sv_goto C 79 dX6_walks_75 (by decide) ?_
          refine sv_iadd C dX6_walks_79 ?_
          refine sv_set (v' := .int (x1 (4 * p9 + 59) + 1)) (congrArg Value.int rfl) ?_
          refine sv_iastN C 10 (4 * p9 + 59) rfl rfl rfl rfl (by show _ < 86; omega) dX6_walks_80 ?_
          refine sv_aload_n (i := 0) (x := sv_r G 20 0) C dX6_walks_81 rfl rfl ?_
          refine sv_iload_n (i := 2) (x := nI (4 * p9 + 58)) C dX6_walks_82 rfl rfl ?_
          refine sv_iconst (v := nI 3) C dX6_walks_83 (by decide) ?_
          refine sv_iadd C dX6_walks_84 ?_
          refine sv_set (v' := .int (nI (4 * p9 + 61))) (congrArg Value.int (nI_add _ _)) ?_
          refine sv_aload_n (i := 0) (x := sv_r G 20 0) C dX6_walks_85 rfl rfl ?_
          refine sv_iload_n (i := 2) (x := nI (4 * p9 + 58)) C dX6_walks_86 rfl rfl ?_
          refine sv_iconst (v := nI 1) C dX6_walks_87 (by decide) ?_
          refine sv_iadd C dX6_walks_88 ?_
          refine sv_set (v' := .int (nI (4 * p9 + 59))) (congrArg Value.int (nI_add _ _)) ?_
          refine sv_ialdN C 10 (4 * p9 + 59) rfl rfl rfl rfl (by show _ < 86; omega) dX6_walks_89 ?_
          refine sv_set (v' := .int (x1 (4 * p9 + 59) + 1)) (congrArg Value.int (by simp only [sv_wu, sv_us, sv_uu]; rw [upd_s])) ?_
          refine sv_aload_n (i := 0) (x := sv_r G 20 0) C dX6_walks_90 rfl rfl ?_
          refine sv_iload_n (i := 2) (x := nI (4 * p9 + 58)) C dX6_walks_91 rfl rfl ?_
          refine sv_iconst (v := nI 2) C dX6_walks_92 (by decide) ?_
          refine sv_iadd C dX6_walks_93 ?_
          refine sv_set (v' := .int (nI (4 * p9 + 60))) (congrArg Value.int (nI_add _ _)) ?_
          refine sv_ialdN C 10 (4 * p9 + 60) rfl rfl rfl rfl (by show _ < 86; omega) dX6_walks_94 ?_
          refine sv_set (v' := .int (x1 (4 * p9 + 60))) (congrArg Value.int (by simp only [sv_wu, sv_us, sv_uu]; rw [upd_n (show 4 * p9 + 60 ≠ 4 * p9 + 59 by omega), upd_n (show 4 * p9 + 60 ≠ 4 * p9 + 61 by omega)])) ?_
          refine sv_icmp_ne C 102 dX6_walks_95 (by decide) (fun q95 => ?_) (fun q95 => ?_)
          · refine sv_aload_n (i := 0) (x := sv_r G 20 0) C dX6_walks_102 rfl rfl ?_
            refine sv_iconst (v := nI 3) C dX6_walks_103 (by decide) ?_
            refine sv_ialdN C 10 3 rfl rfl rfl rfl (by show _ < 86; omega) dX6_walks_104 ?_
            refine sv_set (v' := .int (x1 3)) (congrArg Value.int (by simp only [sv_wu, sv_us, sv_uu]; rw [upd_n (show 3 ≠ 4 * p9 + 59 by omega), upd_n (show 3 ≠ 4 * p9 + 61 by omega)])) ?_
            refine sv_iastN C 10 (4 * p9 + 61) rfl rfl rfl rfl (by show _ < 86; omega) dX6_walks_105 ?_
            refine sv_iinc (i := 1) (x := nI p9) C (nI (p9 + 1)) [(0, .ref (sv_r G 20 0)), (1, .int (nI (p9 + 1))), (2, .int (nI (4 * p9 + 58)))] dX6_walks_106 rfl (sv_incN p9 1) (by decide) rfl ?_
            refine sv_goto C 2 dX6_walks_109 (by decide) ?_
            refine sv_sub (lv' := [(0, .ref (sv_r G 20 0)), (1, .int (nI (p9 + 1)))]) rfl ?_
            have hs : rwS m (M 10) (i + 1) = (wkr p9 x1, p9 + 1, n9) := by
              rw [hst]
              unfold rst
              exact if_neg (show ¬ x1 (4 * p9 + 59) = x1 (4 * p9 + 60) from q27)
            have h9 := ihi (by omega) trivial
            rw [hs] at h9
            refine sv_wd (sv_eqW ?_) h9
            unfold wkr
            rw [if_pos q52]
            simp only [if_neg q71]
            rw [if_neg q95]
            simp only [sv_wu, sv_us, sv_uu]
          · refine sv_iconst (v := nI 0) C dX6_walks_98 (by decide) ?_
            refine sv_goto C 105 dX6_walks_99 (by decide) ?_
            refine sv_iastN C 10 (4 * p9 + 61) rfl rfl rfl rfl (by show _ < 86; omega) dX6_walks_105 ?_
            refine sv_iinc (i := 1) (x := nI p9) C (nI (p9 + 1)) [(0, .ref (sv_r G 20 0)), (1, .int (nI (p9 + 1))), (2, .int (nI (4 * p9 + 58)))] dX6_walks_106 rfl (sv_incN p9 1) (by decide) rfl ?_
            refine sv_goto C 2 dX6_walks_109 (by decide) ?_
            refine sv_sub (lv' := [(0, .ref (sv_r G 20 0)), (1, .int (nI (p9 + 1)))]) rfl ?_
            have hs : rwS m (M 10) (i + 1) = (wkr p9 x1, p9 + 1, n9) := by
              rw [hst]
              unfold rst
              exact if_neg (show ¬ x1 (4 * p9 + 59) = x1 (4 * p9 + 60) from q27)
            have h9 := ihi (by omega) trivial
            rw [hs] at h9
            refine sv_wd (sv_eqW ?_) h9
            unfold wkr
            rw [if_pos q52]
            simp only [if_neg q71]
            rw [if_pos q95]
            simp only [sv_wu, sv_us, sv_uu]
            rfl
    · refine sv_aload_n (i := 0) (x := sv_r G 20 0) C dX6_walks_30 rfl rfl ?_
      refine sv_iload_n (i := 1) (x := nI p9) C dX6_walks_31 rfl rfl ?_
      refine sv_callS (as := [_, _]) (rest := []) C (met_R20_leaves l G _ _ _ p9 n9 (by rw [sv_us]; exact b3) (by omega) (by omega)) fX6_leaves kw_851 ⟨Nat.le_of_ble_eq_true rfl, Nat.le_of_ble_eq_true rfl⟩ (Nat.le_of_ble_eq_true rfl) dX6_walks_32 ⟨Nat.zero_le _, Nat.zero_le _⟩  ?_
      refine sv_rv ?_
      refine sv_goto C 109 dX6_walks_35 (by decide) ?_
      refine sv_goto C 2 dX6_walks_109 (by decide) ?_
      refine sv_sub (lv' := [(0, .ref (sv_r G 20 0)), (1, .int (nI p9))]) rfl ?_
      have hs : rwS m (M 10) (i + 1) = (rlv p9 n9 x1, p9, n9 - 1) := by
        rw [hst]
        unfold rst
        exact if_pos (show x1 (4 * p9 + 59) = x1 (4 * p9 + 60) from q27)
      have h9 := ihi (by omega) trivial
      rw [hs] at h9
      refine sv_wd (sv_eqW ?_) h9
      rw [sv_us, sv_uu]

set_option maxHeartbeats 800000 in
set_option maxRecDepth 100000 in
theorem met_R20_looks (l : Launch) (G : sv_G) (z : Nat) (M : sv_M) (o : Int64) (m : Nat) (hm : M 10 57 = nI m) (hm7 : m ≤ 7) : sv_Met l G yX6_looks cX6_looks 2 none 2 [.ref (sv_r G 20 0)] (sv_W G z M o) none (sv_W G z (sv_u M 10 (fo (la m) 8 (M 10))) o) := by
  refine sv_ofW (by decide) kw_856 (Nat.le_of_ble_eq_true rfl) ?_
  intro p e s mth args below meth c hr C _
  refine sv_sub (lv' := [(0, .ref (sv_r G 20 0))]) rfl ?_
  refine sv_iconst (v := nI 0) C dX6_looks_0 (by decide) ?_
  refine sv_istore_n (i := 1) C [(0, .ref (sv_r G 20 0)), (1, .int (nI 0))] dX6_looks_1 rfl (by decide) rfl ?_
  refine sv_wd (sv_eqW (show _ = sv_u M 10 (fo (la m) 0 (M 10)) from (sv_ui _ 10).symm)) ?_
  refine sv_loop (N := 8) (I := fun i => True) (Wf := fun i => sv_W G z (sv_u M 10 (fo (la m) i (M 10))) o) (Lf := fun i => [(0, .ref (sv_r G 20 0)), (1, .int (nI i))]) 0 (Nat.zero_le _) trivial (fun i hi0 hi hIi ihi => ?_)
  obtain ⟨x1, hx1⟩ : ∃ x, x = fo (la m) i (M 10) := ⟨_, rfl⟩
  rw [← hx1]
  have hx57 : x1 57 = nI m := by rw [hx1, fola_o (Or.inr (by decide)) i hi]; exact hm
  refine sv_iload_n (i := 1) (x := nI i) C dX6_looks_2 rfl rfl ?_
  refine sv_bipush (v := nI 8) C dX6_looks_3 (by decide) ?_
  refine sv_icmp_geN C 75 dX6_looks_5 (by decide) (by omega) (by omega) (fun q5 => ?_) (fun q5 => ?_)
  · exact sv_vret C hr dX6_looks_75 (Nat.le_of_ble_eq_true rfl) (Nat.le_of_ble_eq_true rfl) (sv_eqW (by rw [hx1, show i = 8 from by omega]))
  · refine sv_aload_n (i := 0) (x := sv_r G 20 0) C dX6_looks_8 rfl rfl ?_
    refine sv_iload_n (i := 1) (x := nI i) C dX6_looks_9 rfl rfl ?_
    refine sv_iconst (v := nI 1) C dX6_looks_10 (by decide) ?_
    refine sv_callS (as := [_, _, _]) (rest := []) C (met_R20_of l G _ _ _ i 1 (by omega) (by omega)) fX6_of kw_812 ⟨Nat.le_of_ble_eq_true rfl, Nat.le_of_ble_eq_true rfl⟩ (Nat.le_of_ble_eq_true rfl) dX6_looks_11 ⟨Nat.zero_le _, Nat.zero_le _⟩  ?_
    refine sv_riS (x1 (6 * i + 10)) (by rw [sv_us]) ?_
    refine sv_iconst (v := nI 1) C dX6_looks_14 (by decide) ?_
    refine sv_icmp_ne C 69 dX6_looks_15 (by decide) (fun q15 => ?_) (fun q15 => ?_)
    · have q15 : ¬ x1 (6 * i + 10) = 1 := q15
      refine sv_iinc (i := 1) (x := nI i) C (nI (i + 1)) [(0, .ref (sv_r G 20 0)), (1, .int (nI (i + 1)))] dX6_looks_69 rfl (sv_incN i 1) (by decide) rfl ?_
      refine sv_goto C 2 dX6_looks_72 (by decide) ?_
      have hn : fo (la m) (i + 1) (M 10) = x1 := by
        rw [fo_succ, ← hx1]
        exact if_neg (fun h => q15 h.1)
      have h9 := ihi (by omega) trivial
      rw [hn] at h9
      exact h9
    · have q15 : x1 (6 * i + 10) = 1 := q15
      refine sv_aload_n (i := 0) (x := sv_r G 20 0) C dX6_looks_18 rfl rfl ?_
      refine sv_iload_n (i := 1) (x := nI i) C dX6_looks_19 rfl rfl ?_
      refine sv_callS (as := [_, _]) (rest := []) C (met_R20_on l G _ _ _ (nI i) m (by rw [sv_us]; exact hx57) hm7) fX6_on kw_857 ⟨Nat.le_of_ble_eq_true rfl, Nat.le_of_ble_eq_true rfl⟩ (Nat.le_of_ble_eq_true rfl) dX6_looks_20 ⟨Nat.zero_le _, Nat.zero_le _⟩  ?_
      refine sv_riS (onI x1 (nI i) m) (by rw [sv_us]) ?_
      refine sv_if_le C 69 dX6_looks_23 (by decide) (fun q23 => ?_) (fun q23 => ?_)
      · refine sv_iinc (i := 1) (x := nI i) C (nI (i + 1)) [(0, .ref (sv_r G 20 0)), (1, .int (nI (i + 1)))] dX6_looks_69 rfl (sv_incN i 1) (by decide) rfl ?_
        refine sv_goto C 2 dX6_looks_72 (by decide) ?_
        have hn : fo (la m) (i + 1) (M 10) = x1 := by
          rw [fo_succ, ← hx1]
          exact if_neg (fun h => absurd h.2 (Int32.not_lt.mpr q23))
        have h9 := ihi (by omega) trivial
        rw [hn] at h9
        exact h9
      · refine sv_aload_n (i := 0) (x := sv_r G 20 0) C dX6_looks_26 rfl rfl ?_
        refine sv_iload_n (i := 1) (x := nI i) C dX6_looks_27 rfl rfl ?_
        refine sv_callS (as := [_, _]) (rest := []) C (met_R20_switches l G _ _ _ i (by omega)) fX6_switches kw_815 ⟨Nat.le_of_ble_eq_true rfl, Nat.le_of_ble_eq_true rfl⟩ (Nat.le_of_ble_eq_true rfl) dX6_looks_28 ⟨Nat.zero_le _, Nat.zero_le _⟩  ?_
        refine sv_rv ?_
        refine sv_aload_n (i := 0) (x := sv_r G 20 0) C dX6_looks_31 rfl rfl ?_
        refine sv_iconst (v := nI 2) C dX6_looks_32 (by decide) ?_
        refine sv_ialdN C 10 2 rfl rfl rfl rfl (by show _ < 86; omega) dX6_looks_33 ?_
        refine sv_set (v' := .int (x1 2)) (congrArg Value.int (by simp only [sv_us, sv_uu]; rw [sw_o (by omega) (by omega)])) ?_
        refine sv_iconst (v := nI 1) C dX6_looks_34 (by decide) ?_
        refine sv_icmp_ne C 49 dX6_looks_35 (by decide) (fun q35 => ?_) (fun q35 => ?_)
        · have q35 : ¬ x1 2 = 1 := q35
          refine sv_aload_n (i := 0) (x := sv_r G 20 0) C dX6_looks_49 rfl rfl ?_
          refine sv_iconst (v := nI 2) C dX6_looks_50 (by decide) ?_
          refine sv_ialdN C 10 2 rfl rfl rfl rfl (by show _ < 86; omega) dX6_looks_51 ?_
          refine sv_set (v' := .int (x1 2)) (congrArg Value.int (by simp only [sv_us, sv_uu]; rw [sw_o (by omega) (by omega)])) ?_
          refine sv_iconst (v := nI 1) C dX6_looks_52 (by decide) ?_
          refine sv_icmp_ne C 69 dX6_looks_53 (by decide) (fun q53 => ?_) (fun q53 => ?_)
          · refine sv_iinc (i := 1) (x := nI i) C (nI (i + 1)) [(0, .ref (sv_r G 20 0)), (1, .int (nI (i + 1)))] dX6_looks_69 rfl (sv_incN i 1) (by decide) rfl ?_
            refine sv_goto C 2 dX6_looks_72 (by decide) ?_
            have hn : fo (la m) (i + 1) (M 10) = sw (x1 0) i x1 := by
              rw [fo_succ, ← hx1]
              exact (if_pos ⟨q15, Int32.not_le.mp q23⟩ : la m i x1 = arnd i x1).trans (by unfold arnd; exact if_neg q35)
            have h9 := ihi (by omega) trivial
            rw [hn] at h9
            refine sv_wd (sv_eqW ?_) h9
            simp only [sv_us, sv_uu]
          · exact absurd q53 q35
        · have q35 : x1 2 = 1 := q35
          refine sv_iload_n (i := 1) (x := nI i) C dX6_looks_38 rfl rfl ?_
          refine sv_if_le C 49 dX6_looks_39 (by decide) (fun q39 => ?_) (fun q39 => ?_)
          · have hi1 : ¬ 0 < i := fun h => nI_nle h (by omega) q39
            refine sv_aload_n (i := 0) (x := sv_r G 20 0) C dX6_looks_49 rfl rfl ?_
            refine sv_iconst (v := nI 2) C dX6_looks_50 (by decide) ?_
            refine sv_ialdN C 10 2 rfl rfl rfl rfl (by show _ < 86; omega) dX6_looks_51 ?_
            refine sv_set (v' := .int (x1 2)) (congrArg Value.int (by simp only [sv_us, sv_uu]; rw [sw_o (by omega) (by omega)])) ?_
            refine sv_iconst (v := nI 1) C dX6_looks_52 (by decide) ?_
            refine sv_icmp_ne C 69 dX6_looks_53 (by decide) (fun q53 => ?_) (fun q53 => ?_)
            · exact absurd q35 q53
            · refine sv_iload_n (i := 1) (x := nI i) C dX6_looks_56 rfl rfl ?_
              refine sv_bipush (v := nI 7) C dX6_looks_57 (by decide) ?_
              refine sv_icmp_geN C 69 dX6_looks_59 (by decide) (by omega) (by omega) (fun q59 => ?_) (fun q59 => ?_)
              · have hi2 : ¬ i < 7 := by omega
                refine sv_iinc (i := 1) (x := nI i) C (nI (i + 1)) [(0, .ref (sv_r G 20 0)), (1, .int (nI (i + 1)))] dX6_looks_69 rfl (sv_incN i 1) (by decide) rfl ?_
                refine sv_goto C 2 dX6_looks_72 (by decide) ?_
                have hn : fo (la m) (i + 1) (M 10) = sw (x1 0) i x1 := by
                  rw [fo_succ, ← hx1]
                  exact (if_pos ⟨q15, Int32.not_le.mp q23⟩ : la m i x1 = arnd i x1).trans (by unfold arnd; rw [if_pos q35, if_neg hi2, if_neg hi1]; rfl)
                have h9 := ihi (by omega) trivial
                rw [hn] at h9
                refine sv_wd (sv_eqW ?_) h9
                simp only [sv_us, sv_uu]
              · have hi2 : i < 7 := by omega
                refine sv_aload_n (i := 0) (x := sv_r G 20 0) C dX6_looks_62 rfl rfl ?_
                refine sv_iload_n (i := 1) (x := nI i) C dX6_looks_63 rfl rfl ?_
                refine sv_iconst (v := nI 1) C dX6_looks_64 (by decide) ?_
                refine sv_iadd C dX6_looks_65 ?_
                refine sv_set (v' := .int (nI (i + 1))) (congrArg Value.int (nI_add _ _)) ?_
                refine sv_callS (as := [_, _]) (rest := []) C (met_R20_switches l G _ _ _ (i + 1) (by omega)) fX6_switches kw_815 ⟨Nat.le_of_ble_eq_true rfl, Nat.le_of_ble_eq_true rfl⟩ (Nat.le_of_ble_eq_true rfl) dX6_looks_66 ⟨Nat.zero_le _, Nat.zero_le _⟩  ?_
                refine sv_rv ?_
                refine sv_iinc (i := 1) (x := nI i) C (nI (i + 1)) [(0, .ref (sv_r G 20 0)), (1, .int (nI (i + 1)))] dX6_looks_69 rfl (sv_incN i 1) (by decide) rfl ?_
                refine sv_goto C 2 dX6_looks_72 (by decide) ?_
                have hn : fo (la m) (i + 1) (M 10) = sw (x1 0) (i + 1) (sw (x1 0) i x1) := by
                  rw [fo_succ, ← hx1]
                  exact (if_pos ⟨q15, Int32.not_le.mp q23⟩ : la m i x1 = arnd i x1).trans (by unfold arnd; rw [if_pos q35, if_pos hi2, if_neg hi1]; rfl)
                have h9 := ihi (by omega) trivial
                rw [hn] at h9
                refine sv_wd (sv_eqW ?_) h9
                simp only [sv_us, sv_uu]
                rw [sw_o (show 0 ≠ 6 * i + 9 by omega) (by omega)]
          · have hi1 : 0 < i := by
              rcases Nat.eq_zero_or_pos i with h | h
              · rw [h] at q39
                exact absurd (by decide) q39
              · exact h
            refine sv_aload_n (i := 0) (x := sv_r G 20 0) C dX6_looks_42 rfl rfl ?_
            refine sv_iload_n (i := 1) (x := nI i) C dX6_looks_43 rfl rfl ?_
            refine sv_iconst (v := nI 1) C dX6_looks_44 (by decide) ?_
            refine sv_isub C dX6_looks_45 ?_
            refine sv_set (v' := .int (nI (i - 1))) (congrArg Value.int (pk_sub (by omega))) ?_
            refine sv_callS (as := [_, _]) (rest := []) C (met_R20_switches l G _ _ _ (i - 1) (by omega)) fX6_switches kw_815 ⟨Nat.le_of_ble_eq_true rfl, Nat.le_of_ble_eq_true rfl⟩ (Nat.le_of_ble_eq_true rfl) dX6_looks_46 ⟨Nat.zero_le _, Nat.zero_le _⟩  ?_
            refine sv_rv ?_
            refine sv_aload_n (i := 0) (x := sv_r G 20 0) C dX6_looks_49 rfl rfl ?_
            refine sv_iconst (v := nI 2) C dX6_looks_50 (by decide) ?_
            refine sv_ialdN C 10 2 rfl rfl rfl rfl (by show _ < 86; omega) dX6_looks_51 ?_
            refine sv_set (v' := .int (x1 2)) (congrArg Value.int (by simp only [sv_us, sv_uu]; rw [sw_o (by omega) (by omega), sw_o (by omega) (by omega)])) ?_
            refine sv_iconst (v := nI 1) C dX6_looks_52 (by decide) ?_
            refine sv_icmp_ne C 69 dX6_looks_53 (by decide) (fun q53 => ?_) (fun q53 => ?_)
            · exact absurd q35 q53
            · refine sv_iload_n (i := 1) (x := nI i) C dX6_looks_56 rfl rfl ?_
              refine sv_bipush (v := nI 7) C dX6_looks_57 (by decide) ?_
              refine sv_icmp_geN C 69 dX6_looks_59 (by decide) (by omega) (by omega) (fun q59 => ?_) (fun q59 => ?_)
              · have hi2 : ¬ i < 7 := by omega
                refine sv_iinc (i := 1) (x := nI i) C (nI (i + 1)) [(0, .ref (sv_r G 20 0)), (1, .int (nI (i + 1)))] dX6_looks_69 rfl (sv_incN i 1) (by decide) rfl ?_
                refine sv_goto C 2 dX6_looks_72 (by decide) ?_
                have hn : fo (la m) (i + 1) (M 10) = sw (x1 0) (i - 1) (sw (x1 0) i x1) := by
                  rw [fo_succ, ← hx1]
                  exact (if_pos ⟨q15, Int32.not_le.mp q23⟩ : la m i x1 = arnd i x1).trans (by unfold arnd; rw [if_pos q35, if_neg hi2, if_pos hi1]; rfl)
                have h9 := ihi (by omega) trivial
                rw [hn] at h9
                refine sv_wd (sv_eqW ?_) h9
                simp only [sv_us, sv_uu]
                rw [sw_o (show 0 ≠ 6 * i + 9 by omega) (by omega)]
              · have hi2 : i < 7 := by omega
                refine sv_aload_n (i := 0) (x := sv_r G 20 0) C dX6_looks_62 rfl rfl ?_
                refine sv_iload_n (i := 1) (x := nI i) C dX6_looks_63 rfl rfl ?_
                refine sv_iconst (v := nI 1) C dX6_looks_64 (by decide) ?_
                refine sv_iadd C dX6_looks_65 ?_
                refine sv_set (v' := .int (nI (i + 1))) (congrArg Value.int (nI_add _ _)) ?_
                refine sv_callS (as := [_, _]) (rest := []) C (met_R20_switches l G _ _ _ (i + 1) (by omega)) fX6_switches kw_815 ⟨Nat.le_of_ble_eq_true rfl, Nat.le_of_ble_eq_true rfl⟩ (Nat.le_of_ble_eq_true rfl) dX6_looks_66 ⟨Nat.zero_le _, Nat.zero_le _⟩  ?_
                refine sv_rv ?_
                refine sv_iinc (i := 1) (x := nI i) C (nI (i + 1)) [(0, .ref (sv_r G 20 0)), (1, .int (nI (i + 1)))] dX6_looks_69 rfl (sv_incN i 1) (by decide) rfl ?_
                refine sv_goto C 2 dX6_looks_72 (by decide) ?_
                have hn : fo (la m) (i + 1) (M 10) = sw (x1 0) (i + 1) (sw (x1 0) (i - 1) (sw (x1 0) i x1)) := by
                  rw [fo_succ, ← hx1]
                  exact (if_pos ⟨q15, Int32.not_le.mp q23⟩ : la m i x1 = arnd i x1).trans (by unfold arnd; rw [if_pos q35, if_pos hi2, if_pos hi1])
                have h9 := ihi (by omega) trivial
                rw [hn] at h9
                refine sv_wd (sv_eqW ?_) h9
                simp only [sv_us, sv_uu]
                rw [sw_o (show 0 ≠ 6 * i + 9 by omega) (by omega), sw_o (show 0 ≠ 6 * (i - 1) + 9 by omega) (by omega), sw_o (show 0 ≠ 6 * i + 9 by omega) (by omega)]

set_option maxHeartbeats 800000 in
set_option maxRecDepth 100000 in
theorem met_R20_sum (l : Launch) (G : sv_G) (z : Nat) (M : sv_M) (o : Int64) (w9 : Nat) (hw : w9 < 6) : sv_Met l G yX6_sum cX6_sum 4 (some .int) 1 [.ref (sv_r G 20 0), .int (nI w9)] (sv_W G z M o) (some (.int (smI (fun f => M 10 (6 * f + 9 + w9)) 8))) (sv_W G z M o) := by
  refine sv_ofW (by decide) kw_843 (Nat.le_of_ble_eq_true rfl) ?_
  intro p e s mth args below meth c hr C _
  refine sv_sub (lv' := [(0, .ref (sv_r G 20 0)), (1, .int (nI w9))]) rfl ?_
  refine sv_iconst (v := nI 0) C dX6_sum_0 (by decide) ?_
  refine sv_istore_n (i := 2) C [(0, .ref (sv_r G 20 0)), (1, .int (nI w9)), (2, .int (nI 0))] dX6_sum_1 rfl (by decide) rfl ?_
  refine sv_iconst (v := nI 0) C dX6_sum_2 (by decide) ?_
  refine sv_istore_n (i := 3) C [(0, .ref (sv_r G 20 0)), (1, .int (nI w9)), (2, .int (nI 0)), (3, .int (nI 0))] dX6_sum_3 rfl (by decide) rfl ?_
  refine sv_loop (N := 8) (I := fun i => True) (Wf := fun i => sv_W G z M o) (Lf := fun i => [(0, .ref (sv_r G 20 0)), (1, .int (nI w9)), (2, .int (smI (fun f => M 10 (6 * f + 9 + w9)) i)), (3, .int (nI i))]) 0 (Nat.zero_le _) trivial (fun i hi0 hi hIi ihi => ?_)
  refine sv_iload_n (i := 3) (x := nI i) C dX6_sum_4 rfl rfl ?_
  refine sv_bipush (v := nI 8) C dX6_sum_5 (by decide) ?_
  refine sv_icmp_geN C 25 dX6_sum_7 (by decide) (by omega) (by omega) (fun q7 => ?_) (fun q7 => ?_)
  · refine sv_iload_n (i := 2) (x := smI (fun f => M 10 (6 * f + 9 + w9)) i) C dX6_sum_25 rfl rfl ?_
    exact sv_iret C hr dX6_sum_26 (Nat.le_of_ble_eq_true rfl) (Nat.le_of_ble_eq_true rfl) (by rw [show i = 8 from by omega]) (fun _ h => h)
  · refine sv_iload_n (i := 2) (x := smI (fun f => M 10 (6 * f + 9 + w9)) i) C dX6_sum_10 rfl rfl ?_
    refine sv_aload_n (i := 0) (x := sv_r G 20 0) C dX6_sum_11 rfl rfl ?_
    refine sv_iload_n (i := 3) (x := nI i) C dX6_sum_12 rfl rfl ?_
    refine sv_iload_n (i := 1) (x := nI w9) C dX6_sum_13 rfl rfl ?_
    refine sv_callS (as := [_, _, _]) (rest := [_]) C (met_R20_of l G _ _ _ i w9 (by omega) (by omega)) fX6_of kw_812 ⟨Nat.le_of_ble_eq_true rfl, Nat.le_of_ble_eq_true rfl⟩ (Nat.le_of_ble_eq_true rfl) dX6_sum_14 ⟨Nat.zero_le _, Nat.zero_le _⟩  ?_
    refine sv_riS (M 10 (6 * i + 9 + w9)) rfl ?_
    refine sv_iadd C dX6_sum_17 ?_
    refine sv_set (v' := .int (smI (fun f => M 10 (6 * f + 9 + w9)) (i + 1))) (congrArg Value.int rfl) ?_
    refine sv_istore_n (i := 2) C [(0, .ref (sv_r G 20 0)), (1, .int (nI w9)), (2, .int (smI (fun f => M 10 (6 * f + 9 + w9)) (i + 1))), (3, .int (nI i))] dX6_sum_18 rfl (by decide) rfl ?_
    refine sv_iinc (i := 3) (x := nI i) C (nI (i + 1)) [(0, .ref (sv_r G 20 0)), (1, .int (nI w9)), (2, .int (smI (fun f => M 10 (6 * f + 9 + w9)) (i + 1))), (3, .int (nI (i + 1)))] dX6_sum_19 rfl (sv_incN i 1) (by decide) rfl ?_
    refine sv_goto C 4 dX6_sum_22 (by decide) ?_
    exact ihi (by omega) trivial

set_option maxHeartbeats 800000 in
set_option maxRecDepth 100000 in
theorem met_R20_lit (l : Launch) (G : sv_G) (z : Nat) (M : sv_M) (o : Int64) : sv_Met l G yX6_lit cX6_lit 3 (some .int) 2 [.ref (sv_r G 20 0)] (sv_W G z M o) (some (.int (litI (M 10) 8))) (sv_W G z M o) := by
  refine sv_ofW (by decide) kw_917 (Nat.le_of_ble_eq_true rfl) ?_
  intro p e s mth args below meth c hr C _
  refine sv_sub (lv' := [(0, .ref (sv_r G 20 0))]) rfl ?_
  refine sv_iconst (v := nI 0) C dX6_lit_0 (by decide) ?_
  refine sv_istore_n (i := 1) C [(0, .ref (sv_r G 20 0)), (1, .int (nI 0))] dX6_lit_1 rfl (by decide) rfl ?_
  refine sv_iconst (v := nI 0) C dX6_lit_2 (by decide) ?_
  refine sv_istore_n (i := 2) C [(0, .ref (sv_r G 20 0)), (1, .int (nI 0)), (2, .int (nI 0))] dX6_lit_3 rfl (by decide) rfl ?_
  refine sv_loop (N := 8) (I := fun i => True) (Wf := fun i => sv_W G z M o) (Lf := fun i => [(0, .ref (sv_r G 20 0)), (1, .int (litI (M 10) i)), (2, .int (nI i))]) 0 (Nat.zero_le _) trivial (fun i hi0 hi hIi ihi => ?_)
  refine sv_iload_n (i := 2) (x := nI i) C dX6_lit_4 rfl rfl ?_
  refine sv_bipush (v := nI 8) C dX6_lit_5 (by decide) ?_
  refine sv_icmp_geN C 33 dX6_lit_7 (by decide) (by omega) (by omega) (fun q7 => ?_) (fun q7 => ?_)
  · refine sv_iload_n (i := 1) (x := litI (M 10) i) C dX6_lit_33 rfl rfl ?_
    exact sv_iret C hr dX6_lit_34 (Nat.le_of_ble_eq_true rfl) (Nat.le_of_ble_eq_true rfl) (by rw [show i = 8 from by omega]) (fun _ h => h)
  · refine sv_iload_n (i := 1) (x := litI (M 10) i) C dX6_lit_10 rfl rfl ?_
    refine sv_aload_n (i := 0) (x := sv_r G 20 0) C dX6_lit_11 rfl rfl ?_
    refine sv_iload_n (i := 2) (x := nI i) C dX6_lit_12 rfl rfl ?_
    refine sv_callS (as := [_, _]) (rest := [_]) C (met_R20_lamp l G _ _ _ i (by omega)) fX6_lamp kw_860 ⟨Nat.le_of_ble_eq_true rfl, Nat.le_of_ble_eq_true rfl⟩ (Nat.le_of_ble_eq_true rfl) dX6_lit_13 ⟨Nat.zero_le _, Nat.zero_le _⟩  ?_
    refine sv_riS (lampv (M 10) i) rfl ?_
    refine sv_iconst (v := nI 2) C dX6_lit_16 (by decide) ?_
    refine sv_sel_icmp_lt (va := nI 1) (vb := nI 0) C 24 dX6_lit_17 (by decide) dX6_lit_20 (by decide) dX6_lit_21 (by decide) dX6_lit_24 (by decide) ?_
    refine sv_set (v' := .int (if lampv (M 10) i < 2 then 0 else 1)) (congrArg Value.int rfl) ?_
    refine sv_iadd C dX6_lit_25 ?_
    refine sv_set (v' := .int (litI (M 10) (i + 1))) (congrArg Value.int rfl) ?_
    refine sv_istore_n (i := 1) C [(0, .ref (sv_r G 20 0)), (1, .int (litI (M 10) (i + 1))), (2, .int (nI i))] dX6_lit_26 rfl (by decide) rfl ?_
    refine sv_iinc (i := 2) (x := nI i) C (nI (i + 1)) [(0, .ref (sv_r G 20 0)), (1, .int (litI (M 10) (i + 1))), (2, .int (nI (i + 1)))] dX6_lit_27 rfl (sv_incN i 1) (by decide) rfl ?_
    refine sv_goto C 4 dX6_lit_30 (by decide) ?_
    exact ihi (by omega) trivial

set_option maxHeartbeats 800000 in
set_option maxRecDepth 100000 in
theorem met_R20_comes (l : Launch) (G : sv_G) (z : Nat) (M : sv_M) (o : Int64) (f t : Int32) (hne : ¬ f = t) (m : Nat) (hm : M 10 57 = nI m) (hm6 : m < 7) : sv_Met l G yX6_comes cX6_comes 4 (some .int) 0 [.ref (sv_r G 20 0), .int f, .int t] (sv_W G z M o) (some (.int (M 10 5))) (sv_W G z (sv_u M 10 (entv m f t (M 10 3) (M 10))) o) := by
  refine sv_ofW (by decide) kw_796 (Nat.le_of_ble_eq_true rfl) ?_
  intro p e s mth args below meth c hr C _
  refine sv_sub (lv' := [(0, .ref (sv_r G 20 0)), (1, .int f), (2, .int t)]) rfl ?_
  refine sv_bipush (v := nI 58) C dX6_comes_0 (by decide) ?_
  refine sv_iconst (v := nI 4) C dX6_comes_2 (by decide) ?_
  refine sv_aload_n (i := 0) (x := sv_r G 20 0) C dX6_comes_3 rfl rfl ?_
  refine sv_bipush (v := nI 57) C dX6_comes_4 (by decide) ?_
  refine sv_ialdN C 10 57 rfl rfl rfl rfl (by show _ < 86; omega) dX6_comes_6 ?_
  refine sv_set (v' := .int (nI m)) (congrArg Value.int hm) ?_
  refine sv_imul C dX6_comes_7 ?_
  refine sv_set (v' := .int (nI (4 * m))) (congrArg Value.int (pk_mul _ _)) ?_
  refine sv_iadd C dX6_comes_8 ?_
  refine sv_set (v' := .int (nI (4 * m + 58))) (congrArg Value.int (by rw [nI_add]; exact congrArg nI (by omega))) ?_
  refine sv_istore_n (i := 3) C [(0, .ref (sv_r G 20 0)), (1, .int f), (2, .int t), (3, .int (nI (4 * m + 58)))] dX6_comes_9 rfl (by decide) rfl ?_
  refine sv_aload_n (i := 0) (x := sv_r G 20 0) C dX6_comes_10 rfl rfl ?_
  refine sv_iload_n (i := 3) (x := nI (4 * m + 58)) C dX6_comes_11 rfl rfl ?_
  refine sv_aload_n (i := 0) (x := sv_r G 20 0) C dX6_comes_12 rfl rfl ?_
  refine sv_iconst (v := nI 5) C dX6_comes_13 (by decide) ?_
  refine sv_ialdN C 10 5 rfl rfl rfl rfl (by show _ < 86; omega) dX6_comes_14 ?_
  refine sv_set (v' := .int (M 10 5)) (congrArg Value.int rfl) ?_
  refine sv_iastN C 10 (4 * m + 58) rfl rfl rfl rfl (by show _ < 86; omega) dX6_comes_15 ?_
  refine sv_aload_n (i := 0) (x := sv_r G 20 0) C dX6_comes_16 rfl rfl ?_
  refine sv_iload_n (i := 3) (x := nI (4 * m + 58)) C dX6_comes_17 rfl rfl ?_
  refine sv_iconst (v := nI 1) C dX6_comes_18 (by decide) ?_
  refine sv_iadd C dX6_comes_19 ?_
  refine sv_set (v' := .int (nI (4 * m + 59))) (congrArg Value.int (nI_add _ _)) ?_
  refine sv_iload_n (i := 1) (x := f) C dX6_comes_20 rfl rfl ?_
  refine sv_iastN C 10 (4 * m + 59) rfl rfl rfl rfl (by show _ < 86; omega) dX6_comes_21 ?_
  refine sv_aload_n (i := 0) (x := sv_r G 20 0) C dX6_comes_22 rfl rfl ?_
  refine sv_iload_n (i := 3) (x := nI (4 * m + 58)) C dX6_comes_23 rfl rfl ?_
  refine sv_iconst (v := nI 2) C dX6_comes_24 (by decide) ?_
  refine sv_iadd C dX6_comes_25 ?_
  refine sv_set (v' := .int (nI (4 * m + 60))) (congrArg Value.int (nI_add _ _)) ?_
  refine sv_iload_n (i := 2) (x := t) C dX6_comes_26 rfl rfl ?_
  refine sv_iastN C 10 (4 * m + 60) rfl rfl rfl rfl (by show _ < 86; omega) dX6_comes_27 ?_
  refine sv_aload_n (i := 0) (x := sv_r G 20 0) C dX6_comes_28 rfl rfl ?_
  refine sv_iload_n (i := 3) (x := nI (4 * m + 58)) C dX6_comes_29 rfl rfl ?_
  refine sv_iconst (v := nI 3) C dX6_comes_30 (by decide) ?_
  refine sv_iadd C dX6_comes_31 ?_
  refine sv_set (v' := .int (nI (4 * m + 61))) (congrArg Value.int (nI_add _ _)) ?_
  refine sv_aload_n (i := 0) (x := sv_r G 20 0) C dX6_comes_32 rfl rfl ?_
  refine sv_iconst (v := nI 3) C dX6_comes_33 (by decide) ?_
  refine sv_ialdN C 10 3 rfl rfl rfl rfl (by show _ < 86; omega) dX6_comes_34 ?_
  refine sv_set (v' := .int (M 10 3)) (congrArg Value.int (by simp only [sv_wu, sv_us, sv_uu]; rw [upd_n (show 3 ≠ 4 * m + 60 by omega), upd_n (show 3 ≠ 4 * m + 59 by omega), upd_n (show 3 ≠ 4 * m + 58 by omega)])) ?_
  refine sv_iastN C 10 (4 * m + 61) rfl rfl rfl rfl (by show _ < 86; omega) dX6_comes_35 ?_
  refine sv_aload_n (i := 0) (x := sv_r G 20 0) C dX6_comes_36 rfl rfl ?_
  refine sv_bipush (v := nI 57) C dX6_comes_37 (by decide) ?_
  refine sv_dup2_11 C dX6_comes_39 rfl rfl ?_
  refine sv_ialdN C 10 57 rfl rfl rfl rfl (by show _ < 86; omega) dX6_comes_40 ?_
  refine sv_set (v' := .int (nI m)) (congrArg Value.int (by simp only [sv_wu, sv_us, sv_uu]; rw [upd_n (show 57 ≠ 4 * m + 61 by omega), upd_n (show 57 ≠ 4 * m + 60 by omega), upd_n (show 57 ≠ 4 * m + 59 by omega), upd_n (show 57 ≠ 4 * m + 58 by omega)]; exact hm)) ?_
  refine sv_iconst (v := nI 1) C dX6_comes_41 (by decide) ?_
  refine sv_iadd C dX6_comes_42 ?_
  refine sv_set (v' := .int (nI (m + 1))) (congrArg Value.int (nI_add _ _)) ?_
  refine sv_iastN C 10 57 rfl rfl rfl rfl (by show _ < 86; omega) dX6_comes_43 ?_
  refine sv_aload_n (i := 0) (x := sv_r G 20 0) C dX6_comes_44 rfl rfl ?_
  refine sv_iconst (v := nI 5) C dX6_comes_45 (by decide) ?_
  refine sv_dup2_11 C dX6_comes_46 rfl rfl ?_
  refine sv_ialdN C 10 5 rfl rfl rfl rfl (by show _ < 86; omega) dX6_comes_47 ?_
  refine sv_set (v' := .int (M 10 5)) (congrArg Value.int (by simp only [sv_wu, sv_us, sv_uu]; rw [upd_n (show 5 ≠ 57 by omega), upd_n (show 5 ≠ 4 * m + 61 by omega), upd_n (show 5 ≠ 4 * m + 60 by omega), upd_n (show 5 ≠ 4 * m + 59 by omega), upd_n (show 5 ≠ 4 * m + 58 by omega)])) ?_
  refine sv_iconst (v := nI 1) C dX6_comes_48 (by decide) ?_
  refine sv_iadd C dX6_comes_49 ?_
  refine sv_set (v' := .int (M 10 5 + 1)) (congrArg Value.int rfl) ?_
  refine sv_iastN C 10 5 rfl rfl rfl rfl (by show _ < 86; omega) dX6_comes_50 ?_
  refine sv_aload_n (i := 0) (x := sv_r G 20 0) C dX6_comes_51 rfl rfl ?_
  refine sv_iconst (v := nI 5) C dX6_comes_52 (by decide) ?_
  refine sv_ialdN C 10 5 rfl rfl rfl rfl (by show _ < 86; omega) dX6_comes_53 ?_
  refine sv_set (v' := .int (M 10 5 + 1)) (congrArg Value.int (by simp only [sv_wu, sv_us, sv_uu]; rw [upd_s])) ?_
  refine sv_iconst (v := nI 1) C dX6_comes_54 (by decide) ?_
  refine sv_isub C dX6_comes_55 ?_
  refine sv_topi (fun v55 e55 => ?_)
  exact sv_iret C hr dX6_comes_56 (Nat.le_of_ble_eq_true rfl) (Nat.le_of_ble_eq_true rfl) (by rw [e55]; exact Int32.add_sub_cancel _ _) (sv_eqW (by simp only [sv_wu, sv_us, sv_uu]; unfold entv; rw [if_neg hne]))

set_option maxHeartbeats 800000 in
set_option maxRecDepth 100000 in
theorem met_R21_of (l : Launch) (G : sv_G) (z : Nat) (M : sv_M) (o : Int64) (f w9 : Nat) (hf : f < 8) (hw : w9 < 6) : sv_Met l G yX6_of cX6_of 3 (some .int) 0 [.ref (sv_r G 21 0), .int (nI f), .int (nI w9)] (sv_W G z M o) (some (.int (M 11 (6 * f + 9 + w9)))) (sv_W G z M o) := by
  refine sv_ofW (by decide) kw_814 (Nat.le_of_ble_eq_true rfl) ?_
  intro p e s mth args below meth c hr C _
  refine sv_sub (lv' := [(0, .ref (sv_r G 21 0)), (1, .int (nI f)), (2, .int (nI w9))]) rfl ?_
  refine sv_aload_n (i := 0) (x := sv_r G 21 0) C dX6_of_0 rfl rfl ?_
  refine sv_bipush (v := nI 9) C dX6_of_1 (by decide) ?_
  refine sv_bipush (v := nI 6) C dX6_of_3 (by decide) ?_
  refine sv_iload_n (i := 1) (x := nI f) C dX6_of_5 rfl rfl ?_
  refine sv_imul C dX6_of_6 ?_
  refine sv_set (v' := .int (nI (6 * f))) (congrArg Value.int (pk_mul _ _)) ?_
  refine sv_iadd C dX6_of_7 ?_
  refine sv_set (v' := .int (nI (6 * f + 9))) (congrArg Value.int (by rw [nI_add]; exact congrArg nI (by omega))) ?_
  refine sv_iload_n (i := 2) (x := nI w9) C dX6_of_8 rfl rfl ?_
  refine sv_iadd C dX6_of_9 ?_
  refine sv_set (v' := .int (nI (6 * f + 9 + w9))) (congrArg Value.int (nI_add _ _)) ?_
  refine sv_ialdN C 11 (6 * f + 9 + w9) rfl rfl rfl rfl (by show _ < 86; omega) dX6_of_10 ?_
  refine sv_topi (fun v10 e10 => ?_)
  exact sv_iret C hr dX6_of_11 (Nat.le_of_ble_eq_true rfl) (Nat.le_of_ble_eq_true rfl) e10 (fun _ h => h)

set_option maxHeartbeats 800000 in
set_option maxRecDepth 100000 in
theorem met_R21_by (l : Launch) (G : sv_G) (z : Nat) (M : sv_M) (o : Int64) (f w9 : Nat) (hf : f < 7) (hw : w9 < 4) : sv_Met l G yX6_by cX6_by 3 (some .int) 0 [.ref (sv_r G 21 0), .int (nI f), .int (nI w9)] (sv_W G z M o) (some (.int (M 11 (4 * f + 58 + w9)))) (sv_W G z M o) := by
  refine sv_ofW (by decide) kw_803 (Nat.le_of_ble_eq_true rfl) ?_
  intro p e s mth args below meth c hr C _
  refine sv_sub (lv' := [(0, .ref (sv_r G 21 0)), (1, .int (nI f)), (2, .int (nI w9))]) rfl ?_
  refine sv_aload_n (i := 0) (x := sv_r G 21 0) C dX6_by_0 rfl rfl ?_
  refine sv_bipush (v := nI 58) C dX6_by_1 (by decide) ?_
  refine sv_iconst (v := nI 4) C dX6_by_3 (by decide) ?_
  refine sv_iload_n (i := 1) (x := nI f) C dX6_by_4 rfl rfl ?_
  refine sv_imul C dX6_by_5 ?_
  refine sv_set (v' := .int (nI (4 * f))) (congrArg Value.int (pk_mul _ _)) ?_
  refine sv_iadd C dX6_by_6 ?_
  refine sv_set (v' := .int (nI (4 * f + 58))) (congrArg Value.int (by rw [nI_add]; exact congrArg nI (by omega))) ?_
  refine sv_iload_n (i := 2) (x := nI w9) C dX6_by_7 rfl rfl ?_
  refine sv_iadd C dX6_by_8 ?_
  refine sv_set (v' := .int (nI (4 * f + 58 + w9))) (congrArg Value.int (nI_add _ _)) ?_
  refine sv_ialdN C 11 (4 * f + 58 + w9) rfl rfl rfl rfl (by show _ < 86; omega) dX6_by_9 ?_
  refine sv_topi (fun v9 e9 => ?_)
  exact sv_iret C hr dX6_by_10 (Nat.le_of_ble_eq_true rfl) (Nat.le_of_ble_eq_true rfl) e9 (fun _ h => h)

set_option maxHeartbeats 800000 in
set_option maxRecDepth 100000 in
theorem met_R21_lamp (l : Launch) (G : sv_G) (z : Nat) (M : sv_M) (o : Int64) (f : Nat) (hf : f < 8) : sv_Met l G yX6_lamp cX6_lamp 3 (some .int) 1 [.ref (sv_r G 21 0), .int (nI f)] (sv_W G z M o) (some (.int (lampv (M 11) f))) (sv_W G z M o) := by
  refine sv_ofW (by decide) kw_862 (Nat.le_of_ble_eq_true rfl) ?_
  intro p e s mth args below meth c hr C _
  refine sv_sub (lv' := [(0, .ref (sv_r G 21 0)), (1, .int (nI f))]) rfl ?_
  refine sv_aload_n (i := 0) (x := sv_r G 21 0) C dX6_lamp_0 rfl rfl ?_
  refine sv_bipush (v := nI 7) C dX6_lamp_1 (by decide) ?_
  refine sv_ialdN C 11 7 rfl rfl rfl rfl (by show _ < 86; omega) dX6_lamp_3 ?_
  refine sv_set (v' := .int (M 11 7)) (congrArg Value.int rfl) ?_
  refine sv_iconst (v := nI 1) C dX6_lamp_4 (by decide) ?_
  refine sv_icmp_ne C 10 dX6_lamp_5 (by decide) (fun q5 => ?_) (fun q5 => ?_)
  · refine sv_aload_n (i := 0) (x := sv_r G 21 0) C dX6_lamp_10 rfl rfl ?_
    refine sv_iload_n (i := 1) (x := nI f) C dX6_lamp_11 rfl rfl ?_
    refine sv_iconst (v := nI 0) C dX6_lamp_12 (by decide) ?_
    refine sv_callS (as := [_, _, _]) (rest := []) C (met_R21_of l G _ _ _ f 0 (by omega) (by omega)) fX6_of kw_812 ⟨Nat.le_of_ble_eq_true rfl, Nat.le_of_ble_eq_true rfl⟩ (Nat.le_of_ble_eq_true rfl) dX6_lamp_13 ⟨Nat.zero_le _, Nat.zero_le _⟩  ?_
    refine sv_riS (M 11 (6 * f + 9)) rfl ?_
    refine sv_istore_n (i := 2) C [(0, .ref (sv_r G 21 0)), (1, .int (nI f)), (2, .int (M 11 (6 * f + 9)))] dX6_lamp_16 rfl (by decide) rfl ?_
    refine sv_iload_n (i := 2) (x := M 11 (6 * f + 9)) C dX6_lamp_17 rfl rfl ?_
    refine sv_if_ne C 28 dX6_lamp_18 (by decide) (fun q18 => ?_) (fun q18 => ?_)
    · refine sv_iload_n (i := 2) (x := M 11 (6 * f + 9)) C dX6_lamp_28 rfl rfl ?_
      refine sv_aload_n (i := 0) (x := sv_r G 21 0) C dX6_lamp_29 rfl rfl ?_
      refine sv_iconst (v := nI 1) C dX6_lamp_30 (by decide) ?_
      refine sv_ialdN C 11 1 rfl rfl rfl rfl (by show _ < 86; omega) dX6_lamp_31 ?_
      refine sv_set (v' := .int (M 11 1)) (congrArg Value.int rfl) ?_
      refine sv_icmp_gt C 39 dX6_lamp_32 (by decide) (fun q32 => ?_) (fun q32 => ?_)
      · refine sv_iconst (v := nI 3) C dX6_lamp_39 (by decide) ?_
        exact sv_iret C hr dX6_lamp_40 (Nat.le_of_ble_eq_true rfl) (Nat.le_of_ble_eq_true rfl) (by rw [lampv_3 q5 q18 (fun h => absurd q32 (Int32.not_lt.mpr h))]; rfl) (fun _ h => h)
      · refine sv_iconst (v := nI 2) C dX6_lamp_35 (by decide) ?_
        refine sv_goto C 40 dX6_lamp_36 (by decide) ?_
        exact sv_iret C hr dX6_lamp_40 (Nat.le_of_ble_eq_true rfl) (Nat.le_of_ble_eq_true rfl) (by rw [lampv_2 q5 q18 (Int32.not_lt.mp q32)]; rfl) (fun _ h => h)
    · refine sv_aload_n (i := 0) (x := sv_r G 21 0) C dX6_lamp_21 rfl rfl ?_
      refine sv_bipush (v := nI 6) C dX6_lamp_22 (by decide) ?_
      refine sv_ialdN C 11 6 rfl rfl rfl rfl (by show _ < 86; omega) dX6_lamp_24 ?_
      refine sv_set (v' := .int (M 11 6)) (congrArg Value.int rfl) ?_
      refine sv_goto C 40 dX6_lamp_25 (by decide) ?_
      exact sv_iret C hr dX6_lamp_40 (Nat.le_of_ble_eq_true rfl) (Nat.le_of_ble_eq_true rfl) (lampv_0 q5 q18).symm (fun _ h => h)
  · refine sv_iconst (v := nI 3) C dX6_lamp_8 (by decide) ?_
    exact sv_iret C hr dX6_lamp_9 (Nat.le_of_ble_eq_true rfl) (Nat.le_of_ble_eq_true rfl) (by rw [lampv_f q5]; rfl) (fun _ h => h)

set_option maxHeartbeats 800000 in
set_option maxRecDepth 100000 in
theorem met_R21_switches (l : Launch) (G : sv_G) (z : Nat) (M : sv_M) (o : Int64) (f : Nat) (hf : f < 8) : sv_Met l G yX6_switches cX6_switches 3 none 0 [.ref (sv_r G 21 0), .int (nI f)] (sv_W G z M o) none (sv_W G z (sv_u M 11 (sw (M 11 0) f (M 11))) o) := by
  refine sv_ofW (by decide) kw_817 (Nat.le_of_ble_eq_true rfl) ?_
  intro p e s mth args below meth c hr C _
  refine sv_sub (lv' := [(0, .ref (sv_r G 21 0)), (1, .int (nI f))]) rfl ?_
  refine sv_bipush (v := nI 9) C dX6_switches_0 (by decide) ?_
  refine sv_bipush (v := nI 6) C dX6_switches_2 (by decide) ?_
  refine sv_iload_n (i := 1) (x := nI f) C dX6_switches_4 rfl rfl ?_
  refine sv_imul C dX6_switches_5 ?_
  refine sv_set (v' := .int (nI (6 * f))) (congrArg Value.int (pk_mul _ _)) ?_
  refine sv_iadd C dX6_switches_6 ?_
  refine sv_set (v' := .int (nI (6 * f + 9))) (congrArg Value.int (by rw [nI_add]; exact congrArg nI (by omega))) ?_
  refine sv_istore_n (i := 2) C [(0, .ref (sv_r G 21 0)), (1, .int (nI f)), (2, .int (nI (6 * f + 9)))] dX6_switches_7 rfl (by decide) rfl ?_
  refine sv_aload_n (i := 0) (x := sv_r G 21 0) C dX6_switches_8 rfl rfl ?_
  refine sv_iload_n (i := 2) (x := nI (6 * f + 9)) C dX6_switches_9 rfl rfl ?_
  refine sv_iconst (v := nI 5) C dX6_switches_10 (by decide) ?_
  refine sv_iadd C dX6_switches_11 ?_
  refine sv_set (v' := .int (nI (6 * f + 14))) (congrArg Value.int (nI_add _ _)) ?_
  refine sv_dup2_11 C dX6_switches_12 rfl rfl ?_
  refine sv_ialdN C 11 (6 * f + 14) rfl rfl rfl rfl (by show _ < 86; omega) dX6_switches_13 ?_
  refine sv_set (v' := .int (M 11 (6 * f + 14))) (congrArg Value.int rfl) ?_
  refine sv_aload_n (i := 0) (x := sv_r G 21 0) C dX6_switches_14 rfl rfl ?_
  refine sv_iload_n (i := 2) (x := nI (6 * f + 9)) C dX6_switches_15 rfl rfl ?_
  refine sv_ialdN C 11 (6 * f + 9) rfl rfl rfl rfl (by show _ < 86; omega) dX6_switches_16 ?_
  refine sv_set (v' := .int (M 11 (6 * f + 9))) (congrArg Value.int rfl) ?_
  refine sv_sel_if_ne (va := nI 1) (vb := nI 0) C 24 dX6_switches_17 (by decide) dX6_switches_20 (by decide) dX6_switches_21 (by decide) dX6_switches_24 (by decide) ?_
  refine sv_set (v' := .int (if M 11 (6 * f + 9) = 0 then 1 else 0)) (congrArg Value.int sel_ne) ?_
  refine sv_iadd C dX6_switches_25 ?_
  refine sv_set (v' := .int (M 11 (6 * f + 14) + (if M 11 (6 * f + 9) = 0 then 1 else 0))) (congrArg Value.int rfl) ?_
  refine sv_iastN C 11 (6 * f + 14) rfl rfl rfl rfl (by show _ < 86; omega) dX6_switches_26 ?_
  refine sv_aload_n (i := 0) (x := sv_r G 21 0) C dX6_switches_27 rfl rfl ?_
  refine sv_iload_n (i := 2) (x := nI (6 * f + 9)) C dX6_switches_28 rfl rfl ?_
  refine sv_aload_n (i := 0) (x := sv_r G 21 0) C dX6_switches_29 rfl rfl ?_
  refine sv_iload_n (i := 2) (x := nI (6 * f + 9)) C dX6_switches_30 rfl rfl ?_
  refine sv_ialdN C 11 (6 * f + 9) rfl rfl rfl rfl (by show _ < 86; omega) dX6_switches_31 ?_
  refine sv_set (v' := .int (M 11 (6 * f + 9))) (congrArg Value.int (by rw [sv_wu, sv_us, upd_n (by omega)])) ?_
  refine sv_aload_n (i := 0) (x := sv_r G 21 0) C dX6_switches_32 rfl rfl ?_
  refine sv_iconst (v := nI 0) C dX6_switches_33 (by decide) ?_
  refine sv_ialdN C 11 0 rfl rfl rfl rfl (by show _ < 86; omega) dX6_switches_34 ?_
  refine sv_set (v' := .int (M 11 0)) (congrArg Value.int (by rw [sv_wu, sv_us, upd_n (by omega)])) ?_
  refine sv_icmp_ge C 44 dX6_switches_35 (by decide) (fun q35 => ?_) (fun q35 => ?_)
  · have q35 : M 11 0 ≤ M 11 (6 * f + 9) := q35
    refine sv_aload_n (i := 0) (x := sv_r G 21 0) C dX6_switches_44 rfl rfl ?_
    refine sv_iload_n (i := 2) (x := nI (6 * f + 9)) C dX6_switches_45 rfl rfl ?_
    refine sv_ialdN C 11 (6 * f + 9) rfl rfl rfl rfl (by show _ < 86; omega) dX6_switches_46 ?_
    refine sv_topi (fun v46 e46 => ?_)
    refine sv_iastN C 11 (6 * f + 9) rfl rfl rfl rfl (by show _ < 86; omega) dX6_switches_47 ?_
    exact sv_vret C hr dX6_switches_48 (Nat.le_of_ble_eq_true rfl) (Nat.le_of_ble_eq_true rfl) (sv_eqW (by rw [e46]; simp only [sv_wu, sv_us, sv_uu]; rw [upd_n (show 6 * f + 9 ≠ 6 * f + 14 by omega)]; rw [swR_ge q35]))
  · have q35 : ¬ M 11 0 ≤ M 11 (6 * f + 9) := q35
    refine sv_aload_n (i := 0) (x := sv_r G 21 0) C dX6_switches_38 rfl rfl ?_
    refine sv_iconst (v := nI 0) C dX6_switches_39 (by decide) ?_
    refine sv_ialdN C 11 0 rfl rfl rfl rfl (by show _ < 86; omega) dX6_switches_40 ?_
    refine sv_topi (fun v40 e40 => ?_)
    refine sv_goto C 47 dX6_switches_41 (by decide) ?_
    refine sv_iastN C 11 (6 * f + 9) rfl rfl rfl rfl (by show _ < 86; omega) dX6_switches_47 ?_
    exact sv_vret C hr dX6_switches_48 (Nat.le_of_ble_eq_true rfl) (Nat.le_of_ble_eq_true rfl) (sv_eqW (by rw [e40]; simp only [sv_wu, sv_us, sv_uu]; rw [upd_n (show 0 ≠ 6 * f + 14 by omega), swR_lt q35]))

set_option maxHeartbeats 800000 in
set_option maxRecDepth 100000 in
theorem met_R21_on (l : Launch) (G : sv_G) (z : Nat) (M : sv_M) (o : Int64) (t : Int32) (m : Nat) (hm : M 11 57 = nI m) (hm7 : m ≤ 7) : sv_Met l G yX6_on cX6_on 4 (some .int) 1 [.ref (sv_r G 21 0), .int t] (sv_W G z M o) (some (.int (onI (M 11) t m))) (sv_W G z M o) := by
  refine sv_ofW (by decide) kw_859 (Nat.le_of_ble_eq_true rfl) ?_
  intro p e s mth args below meth c hr C _
  refine sv_sub (lv' := [(0, .ref (sv_r G 21 0)), (1, .int t)]) rfl ?_
  refine sv_iconst (v := nI 0) C dX6_on_0 (by decide) ?_
  refine sv_istore_n (i := 2) C [(0, .ref (sv_r G 21 0)), (1, .int t), (2, .int (nI 0))] dX6_on_1 rfl (by decide) rfl ?_
  refine sv_iconst (v := nI 0) C dX6_on_2 (by decide) ?_
  refine sv_istore_n (i := 3) C [(0, .ref (sv_r G 21 0)), (1, .int t), (2, .int (nI 0)), (3, .int (nI 0))] dX6_on_3 rfl (by decide) rfl ?_
  refine sv_loop (N := m) (I := fun i => True) (Wf := fun i => sv_W G z M o) (Lf := fun i => [(0, .ref (sv_r G 21 0)), (1, .int t), (2, .int (onI (M 11) t i)), (3, .int (nI i))]) 0 (Nat.zero_le _) trivial (fun i hi0 hi hIi ihi => ?_)
  refine sv_iload_n (i := 3) (x := nI i) C dX6_on_4 rfl rfl ?_
  refine sv_aload_n (i := 0) (x := sv_r G 21 0) C dX6_on_5 rfl rfl ?_
  refine sv_bipush (v := nI 57) C dX6_on_6 (by decide) ?_
  refine sv_ialdN C 11 57 rfl rfl rfl rfl (by show _ < 86; omega) dX6_on_8 ?_
  refine sv_set (v' := .int (nI m)) (congrArg Value.int hm) ?_
  refine sv_icmp_geN C 36 dX6_on_9 (by decide) (by omega) (by omega) (fun q9 => ?_) (fun q9 => ?_)
  · refine sv_iload_n (i := 2) (x := onI (M 11) t i) C dX6_on_36 rfl rfl ?_
    exact sv_iret C hr dX6_on_37 (Nat.le_of_ble_eq_true rfl) (Nat.le_of_ble_eq_true rfl) (by rw [show i = m from by omega]) (fun _ h => h)
  · refine sv_iload_n (i := 2) (x := onI (M 11) t i) C dX6_on_12 rfl rfl ?_
    refine sv_aload_n (i := 0) (x := sv_r G 21 0) C dX6_on_13 rfl rfl ?_
    refine sv_iload_n (i := 3) (x := nI i) C dX6_on_14 rfl rfl ?_
    refine sv_iconst (v := nI 1) C dX6_on_15 (by decide) ?_
    refine sv_callS (as := [_, _, _]) (rest := [_]) C (met_R21_by l G _ _ _ i 1 (by omega) (by omega)) fX6_by kw_801 ⟨Nat.le_of_ble_eq_true rfl, Nat.le_of_ble_eq_true rfl⟩ (Nat.le_of_ble_eq_true rfl) dX6_on_16 ⟨Nat.zero_le _, Nat.zero_le _⟩  ?_
    refine sv_riS (M 11 (4 * i + 59)) rfl ?_
    refine sv_iload_n (i := 1) (x := t) C dX6_on_19 rfl rfl ?_
    refine sv_sel_icmp_ne (va := nI 1) (vb := nI 0) C 27 dX6_on_20 (by decide) dX6_on_23 (by decide) dX6_on_24 (by decide) dX6_on_27 (by decide) ?_
    refine sv_set (v' := .int (if M 11 (4 * i + 59) = t then 1 else 0)) (congrArg Value.int sel_ne) ?_
    refine sv_iadd C dX6_on_28 ?_
    refine sv_set (v' := .int (onI (M 11) t (i + 1))) (congrArg Value.int rfl) ?_
    refine sv_istore_n (i := 2) C [(0, .ref (sv_r G 21 0)), (1, .int t), (2, .int (onI (M 11) t (i + 1))), (3, .int (nI i))] dX6_on_29 rfl (by decide) rfl ?_
    refine sv_iinc (i := 3) (x := nI i) C (nI (i + 1)) [(0, .ref (sv_r G 21 0)), (1, .int t), (2, .int (onI (M 11) t (i + 1))), (3, .int (nI (i + 1)))] dX6_on_30 rfl (sv_incN i 1) (by decide) rfl ?_
    refine sv_goto C 4 dX6_on_33 (by decide) ?_
    exact ihi (by omega) trivial

set_option maxHeartbeats 800000 in
set_option maxRecDepth 100000 in
theorem met_R21_leaves (l : Launch) (G : sv_G) (z : Nat) (M : sv_M) (o : Int64) (p9 : Nat) (m : Nat) (hm : M 11 57 = nI m) (hm7 : m ≤ 7) (hp : p9 < m) : sv_Met l G yX6_leaves cX6_leaves 3 none 0 [.ref (sv_r G 21 0), .int (nI p9)] (sv_W G z M o) none (sv_W G z (sv_u M 11 (rlv p9 m (M 11))) o) := by
  refine sv_ofW (by decide) kw_853 (Nat.le_of_ble_eq_true rfl) ?_
  intro p e s mth args below meth c hr C _
  refine sv_sub (lv' := [(0, .ref (sv_r G 21 0)), (1, .int (nI p9))]) rfl ?_
  refine sv_aload_n (i := 0) (x := sv_r G 21 0) C dX6_leaves_0 rfl rfl ?_
  refine sv_bipush (v := nI 57) C dX6_leaves_1 (by decide) ?_
  refine sv_dup2_11 C dX6_leaves_3 rfl rfl ?_
  refine sv_ialdN C 11 57 rfl rfl rfl rfl (by show _ < 86; omega) dX6_leaves_4 ?_
  refine sv_set (v' := .int (nI m)) (congrArg Value.int hm) ?_
  refine sv_iconst (v := nI 1) C dX6_leaves_5 (by decide) ?_
  refine sv_isub C dX6_leaves_6 ?_
  refine sv_set (v' := .int (nI (m - 1))) (congrArg Value.int (pk_sub (by omega))) ?_
  refine sv_iastN C 11 57 rfl rfl rfl rfl (by show _ < 86; omega) dX6_leaves_7 ?_
  refine sv_bipush (v := nI 58) C dX6_leaves_8 (by decide) ?_
  refine sv_iconst (v := nI 4) C dX6_leaves_10 (by decide) ?_
  refine sv_iload_n (i := 1) (x := nI p9) C dX6_leaves_11 rfl rfl ?_
  refine sv_imul C dX6_leaves_12 ?_
  refine sv_set (v' := .int (nI (4 * p9))) (congrArg Value.int (pk_mul _ _)) ?_
  refine sv_iadd C dX6_leaves_13 ?_
  refine sv_set (v' := .int (nI (4 * p9 + 58))) (congrArg Value.int (by rw [nI_add]; exact congrArg nI (by omega))) ?_
  refine sv_istore_n (i := 2) C [(0, .ref (sv_r G 21 0)), (1, .int (nI p9)), (2, .int (nI (4 * p9 + 58)))] dX6_leaves_14 rfl (by decide) rfl ?_
  refine sv_wd (sv_eqW (show _ = sv_u M 11 (shl (4 * p9 + 58) 0 (upd (M 11) 57 (nI (m - 1)))) from by rw [sv_wu]; rfl)) ?_
  refine sv_loop (N := (4 * (m - 1 - p9))) (I := fun i => True) (Wf := fun i => sv_W G z (sv_u M 11 (shl (4 * p9 + 58) i (upd (M 11) 57 (nI (m - 1))))) o) (Lf := fun i => [(0, .ref (sv_r G 21 0)), (1, .int (nI p9)), (2, .int (nI (4 * p9 + 58 + i)))]) 0 (Nat.zero_le _) trivial (fun i hi0 hi hIi ihi => ?_)
  refine sv_iload_n (i := 2) (x := nI (4 * p9 + 58 + i)) C dX6_leaves_15 rfl rfl ?_
  refine sv_bipush (v := nI 58) C dX6_leaves_16 (by decide) ?_
  refine sv_iconst (v := nI 4) C dX6_leaves_18 (by decide) ?_
  refine sv_aload_n (i := 0) (x := sv_r G 21 0) C dX6_leaves_19 rfl rfl ?_
  refine sv_bipush (v := nI 57) C dX6_leaves_20 (by decide) ?_
  refine sv_ialdN C 11 57 rfl rfl rfl rfl (by show _ < 86; omega) dX6_leaves_22 ?_
  refine sv_set (v' := .int (nI (m - 1))) (congrArg Value.int (by rw [sv_us, shl_o _ (by omega), upd_s])) ?_
  refine sv_imul C dX6_leaves_23 ?_
  refine sv_set (v' := .int (nI (4 * (m - 1)))) (congrArg Value.int (pk_mul _ _)) ?_
  refine sv_iadd C dX6_leaves_24 ?_
  refine sv_set (v' := .int (nI (58 + (4 * (m - 1))))) (congrArg Value.int (nI_add _ _)) ?_
  refine sv_icmp_geN C 42 dX6_leaves_25 (by decide) (by omega) (by omega) (fun q25 => ?_) (fun q25 => ?_)
  · exact sv_vret C hr dX6_leaves_42 (Nat.le_of_ble_eq_true rfl) (Nat.le_of_ble_eq_true rfl) (sv_eqW (by rw [show i = 4 * (m - 1 - p9) from by omega]; rfl))
  · refine sv_aload_n (i := 0) (x := sv_r G 21 0) C dX6_leaves_28 rfl rfl ?_
    refine sv_iload_n (i := 2) (x := nI (4 * p9 + 58 + i)) C dX6_leaves_29 rfl rfl ?_
    refine sv_aload_n (i := 0) (x := sv_r G 21 0) C dX6_leaves_30 rfl rfl ?_
    refine sv_iload_n (i := 2) (x := nI (4 * p9 + 58 + i)) C dX6_leaves_31 rfl rfl ?_
    refine sv_iconst (v := nI 4) C dX6_leaves_32 (by decide) ?_
    refine sv_iadd C dX6_leaves_33 ?_
    refine sv_set (v' := .int (nI (4 * p9 + 58 + i + 4))) (congrArg Value.int (nI_add _ _)) ?_
    refine sv_ialdN C 11 (4 * p9 + 58 + i + 4) rfl rfl rfl rfl (by show _ < 86; omega) dX6_leaves_34 ?_
    refine sv_topi (fun v34 e34 => ?_)
    refine sv_iastN C 11 (4 * p9 + 58 + i) rfl rfl rfl rfl (by show _ < 86; omega) dX6_leaves_35 ?_
    refine sv_iinc (i := 2) (x := nI (4 * p9 + 58 + i)) C (nI (4 * p9 + 58 + i + 1)) [(0, .ref (sv_r G 21 0)), (1, .int (nI p9)), (2, .int (nI (4 * p9 + 58 + i + 1)))] dX6_leaves_36 rfl (sv_incN (4 * p9 + 58 + i) 1) (by decide) rfl ?_
    refine sv_goto C 15 dX6_leaves_39 (by decide) ?_
    refine sv_wd (sv_eqW ?_) (ihi (by omega) trivial)
    rw [e34]
    simp only [sv_wu, sv_us, sv_uu]
    rfl

set_option maxHeartbeats 800000 in
set_option maxRecDepth 100000 in
theorem met_R21_walks (l : Launch) (G : sv_G) (z : Nat) (M : sv_M) (o : Int64) (m : Nat) (hm : M 11 57 = nI m) (hm7 : m ≤ 7) : sv_Met l G yX6_walks cX6_walks 3 none 1 [.ref (sv_r G 21 0)] (sv_W G z M o) none (sv_W G z (sv_u M 11 (rwk m (M 11))) o) := by
  refine sv_ofW (by decide) kw_850 (Nat.le_of_ble_eq_true rfl) ?_
  intro p e s mth args below meth c hr C _
  refine sv_sub (lv' := [(0, .ref (sv_r G 21 0))]) rfl ?_
  refine sv_iconst (v := nI 0) C dX6_walks_0 (by decide) ?_
  refine sv_istore_n (i := 1) C [(0, .ref (sv_r G 21 0)), (1, .int (nI 0))] dX6_walks_1 rfl (by decide) rfl ?_
  refine sv_wd (sv_eqW (show _ = sv_u M 11 (rwS m (M 11) 0).1 from (sv_ui _ 11).symm)) ?_
  refine sv_loop (N := m) (I := fun i => True) (Wf := fun i => sv_W G z (sv_u M 11 (rwS m (M 11) i).1) o) (Lf := fun i => [(0, .ref (sv_r G 21 0)), (1, .int (nI ((rwS m (M 11) i).2.1)))]) 0 (Nat.zero_le _) trivial (fun i hi0 hi hIi ihi => ?_)
  obtain ⟨b1, b2, b3⟩ := rwS_in hm i hi
  have hb3 := rwS_o (m := m) (x := M 11) (k := 3) (by decide) i
  have hst : rwS m (M 11) (i + 1) = rst (rwS m (M 11) i) := rfl
  have hen : i = m → rwk m (M 11) = (rwS m (M 11) i).1 := fun h => by rw [h]; rfl
  generalize hbs : rwS m (M 11) i = bs at b1 b2 b3 hb3 hst hen ⊢
  obtain ⟨x1, p9, n9⟩ := bs
  dsimp only at b1 b2 b3 hb3 hst hen
  show sv_V _ _ _ _ _ _ _ _ _ _ _ _ _ _ _ (sv_W G z (sv_u M 11 x1) o) _ [(0, .ref (sv_r G 21 0)), (1, .int (nI p9))] _
  refine sv_iload_n (i := 1) (x := nI p9) C dX6_walks_2 rfl rfl ?_
  refine sv_aload_n (i := 0) (x := sv_r G 21 0) C dX6_walks_3 rfl rfl ?_
  refine sv_bipush (v := nI 57) C dX6_walks_4 (by decide) ?_
  refine sv_ialdN C 11 57 rfl rfl rfl rfl (by show _ < 86; omega) dX6_walks_6 ?_
  refine sv_set (v' := .int (nI n9)) (congrArg Value.int (by rw [sv_us]; exact b3)) ?_
  refine sv_icmp_geN C 112 dX6_walks_7 (by decide) (by omega) (by omega) (fun q7 => ?_) (fun q7 => ?_)
  · exact sv_vret C hr dX6_walks_112 (Nat.le_of_ble_eq_true rfl) (Nat.le_of_ble_eq_true rfl) (sv_eqW (by rw [hen (by omega)]))
  · refine sv_bipush (v := nI 58) C dX6_walks_10 (by decide) ?_
    refine sv_iconst (v := nI 4) C dX6_walks_12 (by decide) ?_
    refine sv_iload_n (i := 1) (x := nI p9) C dX6_walks_13 rfl rfl ?_
    refine sv_imul C dX6_walks_14 ?_
    refine sv_set (v' := .int (nI (4 * p9))) (congrArg Value.int (pk_mul _ _)) ?_
    refine sv_iadd C dX6_walks_15 ?_
    refine sv_set (v' := .int (nI (4 * p9 + 58))) (congrArg Value.int (by rw [nI_add]; exact congrArg nI (by omega))) ?_
    refine sv_istore_n (i := 2) C [(0, .ref (sv_r G 21 0)), (1, .int (nI p9)), (2, .int (nI (4 * p9 + 58)))] dX6_walks_16 rfl (by decide) rfl ?_
    refine sv_aload_n (i := 0) (x := sv_r G 21 0) C dX6_walks_17 rfl rfl ?_
    refine sv_iload_n (i := 2) (x := nI (4 * p9 + 58)) C dX6_walks_18 rfl rfl ?_
    refine sv_iconst (v := nI 1) C dX6_walks_19 (by decide) ?_
    refine sv_iadd C dX6_walks_20 ?_
    refine sv_set (v' := .int (nI (4 * p9 + 59))) (congrArg Value.int (nI_add _ _)) ?_
    refine sv_ialdN C 11 (4 * p9 + 59) rfl rfl rfl rfl (by show _ < 86; omega) dX6_walks_21 ?_
    refine sv_set (v' := .int (x1 (4 * p9 + 59))) (congrArg Value.int (by rw [sv_us])) ?_
    refine sv_aload_n (i := 0) (x := sv_r G 21 0) C dX6_walks_22 rfl rfl ?_
    refine sv_iload_n (i := 2) (x := nI (4 * p9 + 58)) C dX6_walks_23 rfl rfl ?_
    refine sv_iconst (v := nI 2) C dX6_walks_24 (by decide) ?_
    refine sv_iadd C dX6_walks_25 ?_
    refine sv_set (v' := .int (nI (4 * p9 + 60))) (congrArg Value.int (nI_add _ _)) ?_
    refine sv_ialdN C 11 (4 * p9 + 60) rfl rfl rfl rfl (by show _ < 86; omega) dX6_walks_26 ?_
    refine sv_set (v' := .int (x1 (4 * p9 + 60))) (congrArg Value.int (by rw [sv_us])) ?_
    refine sv_icmp_ne C 38 dX6_walks_27 (by decide) (fun q27 => ?_) (fun q27 => ?_)
    · refine sv_aload_n (i := 0) (x := sv_r G 21 0) C dX6_walks_38 rfl rfl ?_
      refine sv_iload_n (i := 2) (x := nI (4 * p9 + 58)) C dX6_walks_39 rfl rfl ?_
      refine sv_iconst (v := nI 3) C dX6_walks_40 (by decide) ?_
      refine sv_iadd C dX6_walks_41 ?_
      refine sv_set (v' := .int (nI (4 * p9 + 61))) (congrArg Value.int (nI_add _ _)) ?_
      refine sv_dup2_11 C dX6_walks_42 rfl rfl ?_
      refine sv_ialdN C 11 (4 * p9 + 61) rfl rfl rfl rfl (by show _ < 86; omega) dX6_walks_43 ?_
      refine sv_set (v' := .int (x1 (4 * p9 + 61))) (congrArg Value.int (by rw [sv_us])) ?_
      refine sv_iconst (v := nI 1) C dX6_walks_44 (by decide) ?_
      refine sv_isub C dX6_walks_45 ?_
      refine sv_set (v' := .int (x1 (4 * p9 + 61) - 1)) (congrArg Value.int rfl) ?_
      refine sv_iastN C 11 (4 * p9 + 61) rfl rfl rfl rfl (by show _ < 86; omega) dX6_walks_46 ?_
      refine sv_aload_n (i := 0) (x := sv_r G 21 0) C dX6_walks_47 rfl rfl ?_
      refine sv_iload_n (i := 2) (x := nI (4 * p9 + 58)) C dX6_walks_48 rfl rfl ?_
      refine sv_iconst (v := nI 3) C dX6_walks_49 (by decide) ?_
      refine sv_iadd C dX6_walks_50 ?_
      refine sv_set (v' := .int (nI (4 * p9 + 61))) (congrArg Value.int (nI_add _ _)) ?_
      refine sv_ialdN C 11 (4 * p9 + 61) rfl rfl rfl rfl (by show _ < 86; omega) dX6_walks_51 ?_
      refine sv_set (v' := .int (x1 (4 * p9 + 61) - 1)) (congrArg Value.int (by simp only [sv_wu, sv_us, sv_uu]; rw [upd_s])) ?_
      refine sv_if_ne C 106 dX6_walks_52 (by decide) (fun q52 => ?_) (fun q52 => ?_)
      · refine sv_iinc (i := 1) (x := nI p9) C (nI (p9 + 1)) [(0, .ref (sv_r G 21 0)), (1, .int (nI (p9 + 1))), (2, .int (nI (4 * p9 + 58)))] dX6_walks_106 rfl (sv_incN p9 1) (by decide) rfl ?_
        refine sv_goto C 2 dX6_walks_109 (by decide) ?_
        refine sv_sub (lv' := [(0, .ref (sv_r G 21 0)), (1, .int (nI (p9 + 1)))]) rfl ?_
        have hs : rwS m (M 11) (i + 1) = (wkr p9 x1, p9 + 1, n9) := by
          rw [hst]
          unfold rst
          exact if_neg (show ¬ x1 (4 * p9 + 59) = x1 (4 * p9 + 60) from q27)
        have h9 := ihi (by omega) trivial
        rw [hs] at h9
        refine sv_wd (sv_eqW ?_) h9
        unfold wkr
        rw [if_neg q52]
        simp only [sv_wu, sv_us, sv_uu]
      · refine sv_aload_n (i := 0) (x := sv_r G 21 0) C dX6_walks_55 rfl rfl ?_
        refine sv_iload_n (i := 2) (x := nI (4 * p9 + 58)) C dX6_walks_56 rfl rfl ?_
        refine sv_iconst (v := nI 1) C dX6_walks_57 (by decide) ?_
        refine sv_iadd C dX6_walks_58 ?_
        refine sv_set (v' := .int (nI (4 * p9 + 59))) (congrArg Value.int (nI_add _ _)) ?_
        refine sv_dup2_11 C dX6_walks_59 rfl rfl ?_
        refine sv_ialdN C 11 (4 * p9 + 59) rfl rfl rfl rfl (by show _ < 86; omega) dX6_walks_60 ?_
        refine sv_set (v' := .int (x1 (4 * p9 + 59))) (congrArg Value.int (by simp only [sv_wu, sv_us, sv_uu]; rw [upd_n (show 4 * p9 + 59 ≠ 4 * p9 + 61 by omega)])) ?_
        refine sv_aload_n (i := 0) (x := sv_r G 21 0) C dX6_walks_61 rfl rfl ?_
        refine sv_iload_n (i := 2) (x := nI (4 * p9 + 58)) C dX6_walks_62 rfl rfl ?_
        refine sv_iconst (v := nI 2) C dX6_walks_63 (by decide) ?_
        refine sv_iadd C dX6_walks_64 ?_
        refine sv_set (v' := .int (nI (4 * p9 + 60))) (congrArg Value.int (nI_add _ _)) ?_
        refine sv_ialdN C 11 (4 * p9 + 60) rfl rfl rfl rfl (by show _ < 86; omega) dX6_walks_65 ?_
        refine sv_set (v' := .int (x1 (4 * p9 + 60))) (congrArg Value.int (by simp only [sv_wu, sv_us, sv_uu]; rw [upd_n (show 4 * p9 + 60 ≠ 4 * p9 + 61 by omega)])) ?_
        refine sv_aload_n (i := 0) (x := sv_r G 21 0) C dX6_walks_66 rfl rfl ?_
        refine sv_iload_n (i := 2) (x := nI (4 * p9 + 58)) C dX6_walks_67 rfl rfl ?_
        refine sv_iconst (v := nI 1) C dX6_walks_68 (by decide) ?_
        refine sv_iadd C dX6_walks_69 ?_
        refine sv_set (v' := .int (nI (4 * p9 + 59))) (congrArg Value.int (nI_add _ _)) ?_
        refine sv_ialdN C 11 (4 * p9 + 59) rfl rfl rfl rfl (by show _ < 86; omega) dX6_walks_70 ?_
        refine sv_set (v' := .int (x1 (4 * p9 + 59))) (congrArg Value.int (by simp only [sv_wu, sv_us, sv_uu]; rw [upd_n (show 4 * p9 + 59 ≠ 4 * p9 + 61 by omega)])) ?_
        refine sv_icmp_le C 78 dX6_walks_71 (by decide) (fun q71 => ?_) (fun q71 => ?_)
        · refine sv_iconst (v := (-1)) C dX6_walks_78 (by decide) ?_
          refine sv_iadd C dX6_walks_79 ?_
          refine sv_set (v' := .int (x1 (4 * p9 + 59) + (-1))) (congrArg Value.int rfl) ?_
          refine sv_iastN C 11 (4 * p9 + 59) rfl rfl rfl rfl (by show _ < 86; omega) dX6_walks_80 ?_
          refine sv_aload_n (i := 0) (x := sv_r G 21 0) C dX6_walks_81 rfl rfl ?_
          refine sv_iload_n (i := 2) (x := nI (4 * p9 + 58)) C dX6_walks_82 rfl rfl ?_
          refine sv_iconst (v := nI 3) C dX6_walks_83 (by decide) ?_
          refine sv_iadd C dX6_walks_84 ?_
          refine sv_set (v' := .int (nI (4 * p9 + 61))) (congrArg Value.int (nI_add _ _)) ?_
          refine sv_aload_n (i := 0) (x := sv_r G 21 0) C dX6_walks_85 rfl rfl ?_
          refine sv_iload_n (i := 2) (x := nI (4 * p9 + 58)) C dX6_walks_86 rfl rfl ?_
          refine sv_iconst (v := nI 1) C dX6_walks_87 (by decide) ?_
          refine sv_iadd C dX6_walks_88 ?_
          refine sv_set (v' := .int (nI (4 * p9 + 59))) (congrArg Value.int (nI_add _ _)) ?_
          refine sv_ialdN C 11 (4 * p9 + 59) rfl rfl rfl rfl (by show _ < 86; omega) dX6_walks_89 ?_
          refine sv_set (v' := .int (x1 (4 * p9 + 59) + (-1))) (congrArg Value.int (by simp only [sv_wu, sv_us, sv_uu]; rw [upd_s])) ?_
          refine sv_aload_n (i := 0) (x := sv_r G 21 0) C dX6_walks_90 rfl rfl ?_
          refine sv_iload_n (i := 2) (x := nI (4 * p9 + 58)) C dX6_walks_91 rfl rfl ?_
          refine sv_iconst (v := nI 2) C dX6_walks_92 (by decide) ?_
          refine sv_iadd C dX6_walks_93 ?_
          refine sv_set (v' := .int (nI (4 * p9 + 60))) (congrArg Value.int (nI_add _ _)) ?_
          refine sv_ialdN C 11 (4 * p9 + 60) rfl rfl rfl rfl (by show _ < 86; omega) dX6_walks_94 ?_
          refine sv_set (v' := .int (x1 (4 * p9 + 60))) (congrArg Value.int (by simp only [sv_wu, sv_us, sv_uu]; rw [upd_n (show 4 * p9 + 60 ≠ 4 * p9 + 59 by omega), upd_n (show 4 * p9 + 60 ≠ 4 * p9 + 61 by omega)])) ?_
          refine sv_icmp_ne C 102 dX6_walks_95 (by decide) (fun q95 => ?_) (fun q95 => ?_)
          · refine sv_aload_n (i := 0) (x := sv_r G 21 0) C dX6_walks_102 rfl rfl ?_
            refine sv_iconst (v := nI 3) C dX6_walks_103 (by decide) ?_
            refine sv_ialdN C 11 3 rfl rfl rfl rfl (by show _ < 86; omega) dX6_walks_104 ?_
            refine sv_set (v' := .int (x1 3)) (congrArg Value.int (by simp only [sv_wu, sv_us, sv_uu]; rw [upd_n (show 3 ≠ 4 * p9 + 59 by omega), upd_n (show 3 ≠ 4 * p9 + 61 by omega)])) ?_
            refine sv_iastN C 11 (4 * p9 + 61) rfl rfl rfl rfl (by show _ < 86; omega) dX6_walks_105 ?_
            refine sv_iinc (i := 1) (x := nI p9) C (nI (p9 + 1)) [(0, .ref (sv_r G 21 0)), (1, .int (nI (p9 + 1))), (2, .int (nI (4 * p9 + 58)))] dX6_walks_106 rfl (sv_incN p9 1) (by decide) rfl ?_
            refine sv_goto C 2 dX6_walks_109 (by decide) ?_
            refine sv_sub (lv' := [(0, .ref (sv_r G 21 0)), (1, .int (nI (p9 + 1)))]) rfl ?_
            have hs : rwS m (M 11) (i + 1) = (wkr p9 x1, p9 + 1, n9) := by
              rw [hst]
              unfold rst
              exact if_neg (show ¬ x1 (4 * p9 + 59) = x1 (4 * p9 + 60) from q27)
            have h9 := ihi (by omega) trivial
            rw [hs] at h9
            refine sv_wd (sv_eqW ?_) h9
            unfold wkr
            rw [if_pos q52]
            simp only [if_pos q71]
            rw [if_neg q95]
            simp only [sv_wu, sv_us, sv_uu]
          · refine sv_iconst (v := nI 0) C dX6_walks_98 (by decide) ?_
            refine sv_goto C 105 dX6_walks_99 (by decide) ?_
            refine sv_iastN C 11 (4 * p9 + 61) rfl rfl rfl rfl (by show _ < 86; omega) dX6_walks_105 ?_
            refine sv_iinc (i := 1) (x := nI p9) C (nI (p9 + 1)) [(0, .ref (sv_r G 21 0)), (1, .int (nI (p9 + 1))), (2, .int (nI (4 * p9 + 58)))] dX6_walks_106 rfl (sv_incN p9 1) (by decide) rfl ?_
            refine sv_goto C 2 dX6_walks_109 (by decide) ?_
            refine sv_sub (lv' := [(0, .ref (sv_r G 21 0)), (1, .int (nI (p9 + 1)))]) rfl ?_
            have hs : rwS m (M 11) (i + 1) = (wkr p9 x1, p9 + 1, n9) := by
              rw [hst]
              unfold rst
              exact if_neg (show ¬ x1 (4 * p9 + 59) = x1 (4 * p9 + 60) from q27)
            have h9 := ihi (by omega) trivial
            rw [hs] at h9
            refine sv_wd (sv_eqW ?_) h9
            unfold wkr
            rw [if_pos q52]
            simp only [if_pos q71]
            rw [if_pos q95]
            simp only [sv_wu, sv_us, sv_uu]
            rfl
        · refine sv_iconst (v := nI 1) C dX6_walks_74 (by decide) ?_
          refine sv_goto C 79 dX6_walks_75 (by decide) ?_
          refine sv_iadd C dX6_walks_79 ?_
          refine sv_set (v' := .int (x1 (4 * p9 + 59) + 1)) (congrArg Value.int rfl) ?_
          refine sv_iastN C 11 (4 * p9 + 59) rfl rfl rfl rfl (by show _ < 86; omega) dX6_walks_80 ?_
          refine sv_aload_n (i := 0) (x := sv_r G 21 0) C dX6_walks_81 rfl rfl ?_
          refine sv_iload_n (i := 2) (x := nI (4 * p9 + 58)) C dX6_walks_82 rfl rfl ?_
          refine sv_iconst (v := nI 3) C dX6_walks_83 (by decide) ?_
          refine sv_iadd C dX6_walks_84 ?_
          refine sv_set (v' := .int (nI (4 * p9 + 61))) (congrArg Value.int (nI_add _ _)) ?_
          refine sv_aload_n (i := 0) (x := sv_r G 21 0) C dX6_walks_85 rfl rfl ?_
          refine sv_iload_n (i := 2) (x := nI (4 * p9 + 58)) C dX6_walks_86 rfl rfl ?_
          refine sv_iconst (v := nI 1) C dX6_walks_87 (by decide) ?_
          refine sv_iadd C dX6_walks_88 ?_
          refine sv_set (v' := .int (nI (4 * p9 + 59))) (congrArg Value.int (nI_add _ _)) ?_
          refine sv_ialdN C 11 (4 * p9 + 59) rfl rfl rfl rfl (by show _ < 86; omega) dX6_walks_89 ?_
          refine sv_set (v' := .int (x1 (4 * p9 + 59) + 1)) (congrArg Value.int (by simp only [sv_wu, sv_us, sv_uu]; rw [upd_s])) ?_
          refine sv_aload_n (i := 0) (x := sv_r G 21 0) C dX6_walks_90 rfl rfl ?_
          refine sv_iload_n (i := 2) (x := nI (4 * p9 + 58)) C dX6_walks_91 rfl rfl ?_
          refine sv_iconst (v := nI 2) C dX6_walks_92 (by decide) ?_
          refine sv_iadd C dX6_walks_93 ?_
          refine sv_set (v' := .int (nI (4 * p9 + 60))) (congrArg Value.int (nI_add _ _)) ?_
          refine sv_ialdN C 11 (4 * p9 + 60) rfl rfl rfl rfl (by show _ < 86; omega) dX6_walks_94 ?_
          refine sv_set (v' := .int (x1 (4 * p9 + 60))) (congrArg Value.int (by simp only [sv_wu, sv_us, sv_uu]; rw [upd_n (show 4 * p9 + 60 ≠ 4 * p9 + 59 by omega), upd_n (show 4 * p9 + 60 ≠ 4 * p9 + 61 by omega)])) ?_
          refine sv_icmp_ne C 102 dX6_walks_95 (by decide) (fun q95 => ?_) (fun q95 => ?_)
          · refine sv_aload_n (i := 0) (x := sv_r G 21 0) C dX6_walks_102 rfl rfl ?_
            refine sv_iconst (v := nI 3) C dX6_walks_103 (by decide) ?_
            refine sv_ialdN C 11 3 rfl rfl rfl rfl (by show _ < 86; omega) dX6_walks_104 ?_
            refine sv_set (v' := .int (x1 3)) (congrArg Value.int (by simp only [sv_wu, sv_us, sv_uu]; rw [upd_n (show 3 ≠ 4 * p9 + 59 by omega), upd_n (show 3 ≠ 4 * p9 + 61 by omega)])) ?_
            refine sv_iastN C 11 (4 * p9 + 61) rfl rfl rfl rfl (by show _ < 86; omega) dX6_walks_105 ?_
            refine sv_iinc (i := 1) (x := nI p9) C (nI (p9 + 1)) [(0, .ref (sv_r G 21 0)), (1, .int (nI (p9 + 1))), (2, .int (nI (4 * p9 + 58)))] dX6_walks_106 rfl (sv_incN p9 1) (by decide) rfl ?_
            refine sv_goto C 2 dX6_walks_109 (by decide) ?_
            refine sv_sub (lv' := [(0, .ref (sv_r G 21 0)), (1, .int (nI (p9 + 1)))]) rfl ?_
            have hs : rwS m (M 11) (i + 1) = (wkr p9 x1, p9 + 1, n9) := by
              rw [hst]
              unfold rst
              exact if_neg (show ¬ x1 (4 * p9 + 59) = x1 (4 * p9 + 60) from q27)
            have h9 := ihi (by omega) trivial
            rw [hs] at h9
            refine sv_wd (sv_eqW ?_) h9
            unfold wkr
            rw [if_pos q52]
            simp only [if_neg q71]
            rw [if_neg q95]
            simp only [sv_wu, sv_us, sv_uu]
          · refine sv_iconst (v := nI 0) C dX6_walks_98 (by decide) ?_
            refine sv_goto C 105 dX6_walks_99 (by decide) ?_
            refine sv_iastN C 11 (4 * p9 + 61) rfl rfl rfl rfl (by show _ < 86; omega) dX6_walks_105 ?_
            refine sv_iinc (i := 1) (x := nI p9) C (nI (p9 + 1)) [(0, .ref (sv_r G 21 0)), (1, .int (nI (p9 + 1))), (2, .int (nI (4 * p9 + 58)))] dX6_walks_106 rfl (sv_incN p9 1) (by decide) rfl ?_
            refine sv_goto C 2 dX6_walks_109 (by decide) ?_
            refine sv_sub (lv' := [(0, .ref (sv_r G 21 0)), (1, .int (nI (p9 + 1)))]) rfl ?_
            have hs : rwS m (M 11) (i + 1) = (wkr p9 x1, p9 + 1, n9) := by
              rw [hst]
              unfold rst
              exact if_neg (show ¬ x1 (4 * p9 + 59) = x1 (4 * p9 + 60) from q27)
            have h9 := ihi (by omega) trivial
            rw [hs] at h9
            refine sv_wd (sv_eqW ?_) h9
            unfold wkr
            rw [if_pos q52]
            simp only [if_neg q71]
            rw [if_pos q95]
            simp only [sv_wu, sv_us, sv_uu]
            rfl
    · refine sv_aload_n (i := 0) (x := sv_r G 21 0) C dX6_walks_30 rfl rfl ?_
      refine sv_iload_n (i := 1) (x := nI p9) C dX6_walks_31 rfl rfl ?_
      refine sv_callS (as := [_, _]) (rest := []) C (met_R21_leaves l G _ _ _ p9 n9 (by rw [sv_us]; exact b3) (by omega) (by omega)) fX6_leaves kw_851 ⟨Nat.le_of_ble_eq_true rfl, Nat.le_of_ble_eq_true rfl⟩ (Nat.le_of_ble_eq_true rfl) dX6_walks_32 ⟨Nat.zero_le _, Nat.zero_le _⟩  ?_
      refine sv_rv ?_
      refine sv_goto C 109 dX6_walks_35 (by decide) ?_
      refine sv_goto C 2 dX6_walks_109 (by decide) ?_
      refine sv_sub (lv' := [(0, .ref (sv_r G 21 0)), (1, .int (nI p9))]) rfl ?_
      have hs : rwS m (M 11) (i + 1) = (rlv p9 n9 x1, p9, n9 - 1) := by
        rw [hst]
        unfold rst
        exact if_pos (show x1 (4 * p9 + 59) = x1 (4 * p9 + 60) from q27)
      have h9 := ihi (by omega) trivial
      rw [hs] at h9
      refine sv_wd (sv_eqW ?_) h9
      rw [sv_us, sv_uu]

set_option maxHeartbeats 800000 in
set_option maxRecDepth 100000 in
theorem met_R21_looks (l : Launch) (G : sv_G) (z : Nat) (M : sv_M) (o : Int64) (m : Nat) (hm : M 11 57 = nI m) (hm7 : m ≤ 7) : sv_Met l G yX6_looks cX6_looks 2 none 2 [.ref (sv_r G 21 0)] (sv_W G z M o) none (sv_W G z (sv_u M 11 (fo (la m) 8 (M 11))) o) := by
  refine sv_ofW (by decide) kw_856 (Nat.le_of_ble_eq_true rfl) ?_
  intro p e s mth args below meth c hr C _
  refine sv_sub (lv' := [(0, .ref (sv_r G 21 0))]) rfl ?_
  refine sv_iconst (v := nI 0) C dX6_looks_0 (by decide) ?_
  refine sv_istore_n (i := 1) C [(0, .ref (sv_r G 21 0)), (1, .int (nI 0))] dX6_looks_1 rfl (by decide) rfl ?_
  refine sv_wd (sv_eqW (show _ = sv_u M 11 (fo (la m) 0 (M 11)) from (sv_ui _ 11).symm)) ?_
  refine sv_loop (N := 8) (I := fun i => True) (Wf := fun i => sv_W G z (sv_u M 11 (fo (la m) i (M 11))) o) (Lf := fun i => [(0, .ref (sv_r G 21 0)), (1, .int (nI i))]) 0 (Nat.zero_le _) trivial (fun i hi0 hi hIi ihi => ?_)
  obtain ⟨x1, hx1⟩ : ∃ x, x = fo (la m) i (M 11) := ⟨_, rfl⟩
  rw [← hx1]
  have hx57 : x1 57 = nI m := by rw [hx1, fola_o (Or.inr (by decide)) i hi]; exact hm
  refine sv_iload_n (i := 1) (x := nI i) C dX6_looks_2 rfl rfl ?_
  refine sv_bipush (v := nI 8) C dX6_looks_3 (by decide) ?_
  refine sv_icmp_geN C 75 dX6_looks_5 (by decide) (by omega) (by omega) (fun q5 => ?_) (fun q5 => ?_)
  · exact sv_vret C hr dX6_looks_75 (Nat.le_of_ble_eq_true rfl) (Nat.le_of_ble_eq_true rfl) (sv_eqW (by rw [hx1, show i = 8 from by omega]))
  · refine sv_aload_n (i := 0) (x := sv_r G 21 0) C dX6_looks_8 rfl rfl ?_
    refine sv_iload_n (i := 1) (x := nI i) C dX6_looks_9 rfl rfl ?_
    refine sv_iconst (v := nI 1) C dX6_looks_10 (by decide) ?_
    refine sv_callS (as := [_, _, _]) (rest := []) C (met_R21_of l G _ _ _ i 1 (by omega) (by omega)) fX6_of kw_812 ⟨Nat.le_of_ble_eq_true rfl, Nat.le_of_ble_eq_true rfl⟩ (Nat.le_of_ble_eq_true rfl) dX6_looks_11 ⟨Nat.zero_le _, Nat.zero_le _⟩  ?_
    refine sv_riS (x1 (6 * i + 10)) (by rw [sv_us]) ?_
    refine sv_iconst (v := nI 1) C dX6_looks_14 (by decide) ?_
    refine sv_icmp_ne C 69 dX6_looks_15 (by decide) (fun q15 => ?_) (fun q15 => ?_)
    · have q15 : ¬ x1 (6 * i + 10) = 1 := q15
      refine sv_iinc (i := 1) (x := nI i) C (nI (i + 1)) [(0, .ref (sv_r G 21 0)), (1, .int (nI (i + 1)))] dX6_looks_69 rfl (sv_incN i 1) (by decide) rfl ?_
      refine sv_goto C 2 dX6_looks_72 (by decide) ?_
      have hn : fo (la m) (i + 1) (M 11) = x1 := by
        rw [fo_succ, ← hx1]
        exact if_neg (fun h => q15 h.1)
      have h9 := ihi (by omega) trivial
      rw [hn] at h9
      exact h9
    · have q15 : x1 (6 * i + 10) = 1 := q15
      refine sv_aload_n (i := 0) (x := sv_r G 21 0) C dX6_looks_18 rfl rfl ?_
      refine sv_iload_n (i := 1) (x := nI i) C dX6_looks_19 rfl rfl ?_
      refine sv_callS (as := [_, _]) (rest := []) C (met_R21_on l G _ _ _ (nI i) m (by rw [sv_us]; exact hx57) hm7) fX6_on kw_857 ⟨Nat.le_of_ble_eq_true rfl, Nat.le_of_ble_eq_true rfl⟩ (Nat.le_of_ble_eq_true rfl) dX6_looks_20 ⟨Nat.zero_le _, Nat.zero_le _⟩  ?_
      refine sv_riS (onI x1 (nI i) m) (by rw [sv_us]) ?_
      refine sv_if_le C 69 dX6_looks_23 (by decide) (fun q23 => ?_) (fun q23 => ?_)
      · refine sv_iinc (i := 1) (x := nI i) C (nI (i + 1)) [(0, .ref (sv_r G 21 0)), (1, .int (nI (i + 1)))] dX6_looks_69 rfl (sv_incN i 1) (by decide) rfl ?_
        refine sv_goto C 2 dX6_looks_72 (by decide) ?_
        have hn : fo (la m) (i + 1) (M 11) = x1 := by
          rw [fo_succ, ← hx1]
          exact if_neg (fun h => absurd h.2 (Int32.not_lt.mpr q23))
        have h9 := ihi (by omega) trivial
        rw [hn] at h9
        exact h9
      · refine sv_aload_n (i := 0) (x := sv_r G 21 0) C dX6_looks_26 rfl rfl ?_
        refine sv_iload_n (i := 1) (x := nI i) C dX6_looks_27 rfl rfl ?_
        refine sv_callS (as := [_, _]) (rest := []) C (met_R21_switches l G _ _ _ i (by omega)) fX6_switches kw_815 ⟨Nat.le_of_ble_eq_true rfl, Nat.le_of_ble_eq_true rfl⟩ (Nat.le_of_ble_eq_true rfl) dX6_looks_28 ⟨Nat.zero_le _, Nat.zero_le _⟩  ?_
        refine sv_rv ?_
        refine sv_aload_n (i := 0) (x := sv_r G 21 0) C dX6_looks_31 rfl rfl ?_
        refine sv_iconst (v := nI 2) C dX6_looks_32 (by decide) ?_
        refine sv_ialdN C 11 2 rfl rfl rfl rfl (by show _ < 86; omega) dX6_looks_33 ?_
        refine sv_set (v' := .int (x1 2)) (congrArg Value.int (by simp only [sv_us, sv_uu]; rw [sw_o (by omega) (by omega)])) ?_
        refine sv_iconst (v := nI 1) C dX6_looks_34 (by decide) ?_
        refine sv_icmp_ne C 49 dX6_looks_35 (by decide) (fun q35 => ?_) (fun q35 => ?_)
        · have q35 : ¬ x1 2 = 1 := q35
          refine sv_aload_n (i := 0) (x := sv_r G 21 0) C dX6_looks_49 rfl rfl ?_
          refine sv_iconst (v := nI 2) C dX6_looks_50 (by decide) ?_
          refine sv_ialdN C 11 2 rfl rfl rfl rfl (by show _ < 86; omega) dX6_looks_51 ?_
          refine sv_set (v' := .int (x1 2)) (congrArg Value.int (by simp only [sv_us, sv_uu]; rw [sw_o (by omega) (by omega)])) ?_
          refine sv_iconst (v := nI 1) C dX6_looks_52 (by decide) ?_
          refine sv_icmp_ne C 69 dX6_looks_53 (by decide) (fun q53 => ?_) (fun q53 => ?_)
          · refine sv_iinc (i := 1) (x := nI i) C (nI (i + 1)) [(0, .ref (sv_r G 21 0)), (1, .int (nI (i + 1)))] dX6_looks_69 rfl (sv_incN i 1) (by decide) rfl ?_
            refine sv_goto C 2 dX6_looks_72 (by decide) ?_
            have hn : fo (la m) (i + 1) (M 11) = sw (x1 0) i x1 := by
              rw [fo_succ, ← hx1]
              exact (if_pos ⟨q15, Int32.not_le.mp q23⟩ : la m i x1 = arnd i x1).trans (by unfold arnd; exact if_neg q35)
            have h9 := ihi (by omega) trivial
            rw [hn] at h9
            refine sv_wd (sv_eqW ?_) h9
            simp only [sv_us, sv_uu]
          · exact absurd q53 q35
        · have q35 : x1 2 = 1 := q35
          refine sv_iload_n (i := 1) (x := nI i) C dX6_looks_38 rfl rfl ?_
          refine sv_if_le C 49 dX6_looks_39 (by decide) (fun q39 => ?_) (fun q39 => ?_)
          · have hi1 : ¬ 0 < i := fun h => nI_nle h (by omega) q39
            refine sv_aload_n (i := 0) (x := sv_r G 21 0) C dX6_looks_49 rfl rfl ?_
            refine sv_iconst (v := nI 2) C dX6_looks_50 (by decide) ?_
            refine sv_ialdN C 11 2 rfl rfl rfl rfl (by show _ < 86; omega) dX6_looks_51 ?_
            refine sv_set (v' := .int (x1 2)) (congrArg Value.int (by simp only [sv_us, sv_uu]; rw [sw_o (by omega) (by omega)])) ?_
            refine sv_iconst (v := nI 1) C dX6_looks_52 (by decide) ?_
            refine sv_icmp_ne C 69 dX6_looks_53 (by decide) (fun q53 => ?_) (fun q53 => ?_)
            · exact absurd q35 q53
            · refine sv_iload_n (i := 1) (x := nI i) C dX6_looks_56 rfl rfl ?_
              refine sv_bipush (v := nI 7) C dX6_looks_57 (by decide) ?_
              refine sv_icmp_geN C 69 dX6_looks_59 (by decide) (by omega) (by omega) (fun q59 => ?_) (fun q59 => ?_)
              · have hi2 : ¬ i < 7 := by omega
                refine sv_iinc (i := 1) (x := nI i) C (nI (i + 1)) [(0, .ref (sv_r G 21 0)), (1, .int (nI (i + 1)))] dX6_looks_69 rfl (sv_incN i 1) (by decide) rfl ?_
                refine sv_goto C 2 dX6_looks_72 (by decide) ?_
                have hn : fo (la m) (i + 1) (M 11) = sw (x1 0) i x1 := by
                  rw [fo_succ, ← hx1]
                  exact (if_pos ⟨q15, Int32.not_le.mp q23⟩ : la m i x1 = arnd i x1).trans (by unfold arnd; rw [if_pos q35, if_neg hi2, if_neg hi1]; rfl)
                have h9 := ihi (by omega) trivial
                rw [hn] at h9
                refine sv_wd (sv_eqW ?_) h9
                simp only [sv_us, sv_uu]
              · have hi2 : i < 7 := by omega
                refine sv_aload_n (i := 0) (x := sv_r G 21 0) C dX6_looks_62 rfl rfl ?_
                refine sv_iload_n (i := 1) (x := nI i) C dX6_looks_63 rfl rfl ?_
                refine sv_iconst (v := nI 1) C dX6_looks_64 (by decide) ?_
                refine sv_iadd C dX6_looks_65 ?_
                refine sv_set (v' := .int (nI (i + 1))) (congrArg Value.int (nI_add _ _)) ?_
                refine sv_callS (as := [_, _]) (rest := []) C (met_R21_switches l G _ _ _ (i + 1) (by omega)) fX6_switches kw_815 ⟨Nat.le_of_ble_eq_true rfl, Nat.le_of_ble_eq_true rfl⟩ (Nat.le_of_ble_eq_true rfl) dX6_looks_66 ⟨Nat.zero_le _, Nat.zero_le _⟩  ?_
                refine sv_rv ?_
                refine sv_iinc (i := 1) (x := nI i) C (nI (i + 1)) [(0, .ref (sv_r G 21 0)), (1, .int (nI (i + 1)))] dX6_looks_69 rfl (sv_incN i 1) (by decide) rfl ?_
                refine sv_goto C 2 dX6_looks_72 (by decide) ?_
                have hn : fo (la m) (i + 1) (M 11) = sw (x1 0) (i + 1) (sw (x1 0) i x1) := by
                  rw [fo_succ, ← hx1]
                  exact (if_pos ⟨q15, Int32.not_le.mp q23⟩ : la m i x1 = arnd i x1).trans (by unfold arnd; rw [if_pos q35, if_pos hi2, if_neg hi1]; rfl)
                have h9 := ihi (by omega) trivial
                rw [hn] at h9
                refine sv_wd (sv_eqW ?_) h9
                simp only [sv_us, sv_uu]
                rw [sw_o (show 0 ≠ 6 * i + 9 by omega) (by omega)]
          · have hi1 : 0 < i := by
              rcases Nat.eq_zero_or_pos i with h | h
              · rw [h] at q39
                exact absurd (by decide) q39
              · exact h
            refine sv_aload_n (i := 0) (x := sv_r G 21 0) C dX6_looks_42 rfl rfl ?_
            refine sv_iload_n (i := 1) (x := nI i) C dX6_looks_43 rfl rfl ?_
            refine sv_iconst (v := nI 1) C dX6_looks_44 (by decide) ?_
            refine sv_isub C dX6_looks_45 ?_
            refine sv_set (v' := .int (nI (i - 1))) (congrArg Value.int (pk_sub (by omega))) ?_
            refine sv_callS (as := [_, _]) (rest := []) C (met_R21_switches l G _ _ _ (i - 1) (by omega)) fX6_switches kw_815 ⟨Nat.le_of_ble_eq_true rfl, Nat.le_of_ble_eq_true rfl⟩ (Nat.le_of_ble_eq_true rfl) dX6_looks_46 ⟨Nat.zero_le _, Nat.zero_le _⟩  ?_
            refine sv_rv ?_
            refine sv_aload_n (i := 0) (x := sv_r G 21 0) C dX6_looks_49 rfl rfl ?_
            refine sv_iconst (v := nI 2) C dX6_looks_50 (by decide) ?_
            refine sv_ialdN C 11 2 rfl rfl rfl rfl (by show _ < 86; omega) dX6_looks_51 ?_
            refine sv_set (v' := .int (x1 2)) (congrArg Value.int (by simp only [sv_us, sv_uu]; rw [sw_o (by omega) (by omega), sw_o (by omega) (by omega)])) ?_
            refine sv_iconst (v := nI 1) C dX6_looks_52 (by decide) ?_
            refine sv_icmp_ne C 69 dX6_looks_53 (by decide) (fun q53 => ?_) (fun q53 => ?_)
            · exact absurd q35 q53
            · refine sv_iload_n (i := 1) (x := nI i) C dX6_looks_56 rfl rfl ?_
              refine sv_bipush (v := nI 7) C dX6_looks_57 (by decide) ?_
              refine sv_icmp_geN C 69 dX6_looks_59 (by decide) (by omega) (by omega) (fun q59 => ?_) (fun q59 => ?_)
              · have hi2 : ¬ i < 7 := by omega
                refine sv_iinc (i := 1) (x := nI i) C (nI (i + 1)) [(0, .ref (sv_r G 21 0)), (1, .int (nI (i + 1)))] dX6_looks_69 rfl (sv_incN i 1) (by decide) rfl ?_
                refine sv_goto C 2 dX6_looks_72 (by decide) ?_
                have hn : fo (la m) (i + 1) (M 11) = sw (x1 0) (i - 1) (sw (x1 0) i x1) := by
                  rw [fo_succ, ← hx1]
                  exact (if_pos ⟨q15, Int32.not_le.mp q23⟩ : la m i x1 = arnd i x1).trans (by unfold arnd; rw [if_pos q35, if_neg hi2, if_pos hi1]; rfl)
                have h9 := ihi (by omega) trivial
                rw [hn] at h9
                refine sv_wd (sv_eqW ?_) h9
                simp only [sv_us, sv_uu]
                rw [sw_o (show 0 ≠ 6 * i + 9 by omega) (by omega)]
              · have hi2 : i < 7 := by omega
                refine sv_aload_n (i := 0) (x := sv_r G 21 0) C dX6_looks_62 rfl rfl ?_
                refine sv_iload_n (i := 1) (x := nI i) C dX6_looks_63 rfl rfl ?_
                refine sv_iconst (v := nI 1) C dX6_looks_64 (by decide) ?_
                refine sv_iadd C dX6_looks_65 ?_
                refine sv_set (v' := .int (nI (i + 1))) (congrArg Value.int (nI_add _ _)) ?_
                refine sv_callS (as := [_, _]) (rest := []) C (met_R21_switches l G _ _ _ (i + 1) (by omega)) fX6_switches kw_815 ⟨Nat.le_of_ble_eq_true rfl, Nat.le_of_ble_eq_true rfl⟩ (Nat.le_of_ble_eq_true rfl) dX6_looks_66 ⟨Nat.zero_le _, Nat.zero_le _⟩  ?_
                refine sv_rv ?_
                refine sv_iinc (i := 1) (x := nI i) C (nI (i + 1)) [(0, .ref (sv_r G 21 0)), (1, .int (nI (i + 1)))] dX6_looks_69 rfl (sv_incN i 1) (by decide) rfl ?_
                refine sv_goto C 2 dX6_looks_72 (by decide) ?_
                have hn : fo (la m) (i + 1) (M 11) = sw (x1 0) (i + 1) (sw (x1 0) (i - 1) (sw (x1 0) i x1)) := by
                  rw [fo_succ, ← hx1]
                  exact (if_pos ⟨q15, Int32.not_le.mp q23⟩ : la m i x1 = arnd i x1).trans (by unfold arnd; rw [if_pos q35, if_pos hi2, if_pos hi1])
                have h9 := ihi (by omega) trivial
                rw [hn] at h9
                refine sv_wd (sv_eqW ?_) h9
                simp only [sv_us, sv_uu]
                rw [sw_o (show 0 ≠ 6 * i + 9 by omega) (by omega), sw_o (show 0 ≠ 6 * (i - 1) + 9 by omega) (by omega), sw_o (show 0 ≠ 6 * i + 9 by omega) (by omega)]

set_option maxHeartbeats 800000 in
set_option maxRecDepth 100000 in
theorem met_R21_sum (l : Launch) (G : sv_G) (z : Nat) (M : sv_M) (o : Int64) (w9 : Nat) (hw : w9 < 6) : sv_Met l G yX6_sum cX6_sum 4 (some .int) 1 [.ref (sv_r G 21 0), .int (nI w9)] (sv_W G z M o) (some (.int (smI (fun f => M 11 (6 * f + 9 + w9)) 8))) (sv_W G z M o) := by
  refine sv_ofW (by decide) kw_843 (Nat.le_of_ble_eq_true rfl) ?_
  intro p e s mth args below meth c hr C _
  refine sv_sub (lv' := [(0, .ref (sv_r G 21 0)), (1, .int (nI w9))]) rfl ?_
  refine sv_iconst (v := nI 0) C dX6_sum_0 (by decide) ?_
  refine sv_istore_n (i := 2) C [(0, .ref (sv_r G 21 0)), (1, .int (nI w9)), (2, .int (nI 0))] dX6_sum_1 rfl (by decide) rfl ?_
  refine sv_iconst (v := nI 0) C dX6_sum_2 (by decide) ?_
  refine sv_istore_n (i := 3) C [(0, .ref (sv_r G 21 0)), (1, .int (nI w9)), (2, .int (nI 0)), (3, .int (nI 0))] dX6_sum_3 rfl (by decide) rfl ?_
  refine sv_loop (N := 8) (I := fun i => True) (Wf := fun i => sv_W G z M o) (Lf := fun i => [(0, .ref (sv_r G 21 0)), (1, .int (nI w9)), (2, .int (smI (fun f => M 11 (6 * f + 9 + w9)) i)), (3, .int (nI i))]) 0 (Nat.zero_le _) trivial (fun i hi0 hi hIi ihi => ?_)
  refine sv_iload_n (i := 3) (x := nI i) C dX6_sum_4 rfl rfl ?_
  refine sv_bipush (v := nI 8) C dX6_sum_5 (by decide) ?_
  refine sv_icmp_geN C 25 dX6_sum_7 (by decide) (by omega) (by omega) (fun q7 => ?_) (fun q7 => ?_)
  · refine sv_iload_n (i := 2) (x := smI (fun f => M 11 (6 * f + 9 + w9)) i) C dX6_sum_25 rfl rfl ?_
    exact sv_iret C hr dX6_sum_26 (Nat.le_of_ble_eq_true rfl) (Nat.le_of_ble_eq_true rfl) (by rw [show i = 8 from by omega]) (fun _ h => h)
  · refine sv_iload_n (i := 2) (x := smI (fun f => M 11 (6 * f + 9 + w9)) i) C dX6_sum_10 rfl rfl ?_
    refine sv_aload_n (i := 0) (x := sv_r G 21 0) C dX6_sum_11 rfl rfl ?_
    refine sv_iload_n (i := 3) (x := nI i) C dX6_sum_12 rfl rfl ?_
    refine sv_iload_n (i := 1) (x := nI w9) C dX6_sum_13 rfl rfl ?_
    refine sv_callS (as := [_, _, _]) (rest := [_]) C (met_R21_of l G _ _ _ i w9 (by omega) (by omega)) fX6_of kw_812 ⟨Nat.le_of_ble_eq_true rfl, Nat.le_of_ble_eq_true rfl⟩ (Nat.le_of_ble_eq_true rfl) dX6_sum_14 ⟨Nat.zero_le _, Nat.zero_le _⟩  ?_
    refine sv_riS (M 11 (6 * i + 9 + w9)) rfl ?_
    refine sv_iadd C dX6_sum_17 ?_
    refine sv_set (v' := .int (smI (fun f => M 11 (6 * f + 9 + w9)) (i + 1))) (congrArg Value.int rfl) ?_
    refine sv_istore_n (i := 2) C [(0, .ref (sv_r G 21 0)), (1, .int (nI w9)), (2, .int (smI (fun f => M 11 (6 * f + 9 + w9)) (i + 1))), (3, .int (nI i))] dX6_sum_18 rfl (by decide) rfl ?_
    refine sv_iinc (i := 3) (x := nI i) C (nI (i + 1)) [(0, .ref (sv_r G 21 0)), (1, .int (nI w9)), (2, .int (smI (fun f => M 11 (6 * f + 9 + w9)) (i + 1))), (3, .int (nI (i + 1)))] dX6_sum_19 rfl (sv_incN i 1) (by decide) rfl ?_
    refine sv_goto C 4 dX6_sum_22 (by decide) ?_
    exact ihi (by omega) trivial

set_option maxHeartbeats 800000 in
set_option maxRecDepth 100000 in
theorem met_R21_lit (l : Launch) (G : sv_G) (z : Nat) (M : sv_M) (o : Int64) : sv_Met l G yX6_lit cX6_lit 3 (some .int) 2 [.ref (sv_r G 21 0)] (sv_W G z M o) (some (.int (litI (M 11) 8))) (sv_W G z M o) := by
  refine sv_ofW (by decide) kw_917 (Nat.le_of_ble_eq_true rfl) ?_
  intro p e s mth args below meth c hr C _
  refine sv_sub (lv' := [(0, .ref (sv_r G 21 0))]) rfl ?_
  refine sv_iconst (v := nI 0) C dX6_lit_0 (by decide) ?_
  refine sv_istore_n (i := 1) C [(0, .ref (sv_r G 21 0)), (1, .int (nI 0))] dX6_lit_1 rfl (by decide) rfl ?_
  refine sv_iconst (v := nI 0) C dX6_lit_2 (by decide) ?_
  refine sv_istore_n (i := 2) C [(0, .ref (sv_r G 21 0)), (1, .int (nI 0)), (2, .int (nI 0))] dX6_lit_3 rfl (by decide) rfl ?_
  refine sv_loop (N := 8) (I := fun i => True) (Wf := fun i => sv_W G z M o) (Lf := fun i => [(0, .ref (sv_r G 21 0)), (1, .int (litI (M 11) i)), (2, .int (nI i))]) 0 (Nat.zero_le _) trivial (fun i hi0 hi hIi ihi => ?_)
  refine sv_iload_n (i := 2) (x := nI i) C dX6_lit_4 rfl rfl ?_
  refine sv_bipush (v := nI 8) C dX6_lit_5 (by decide) ?_
  refine sv_icmp_geN C 33 dX6_lit_7 (by decide) (by omega) (by omega) (fun q7 => ?_) (fun q7 => ?_)
  · refine sv_iload_n (i := 1) (x := litI (M 11) i) C dX6_lit_33 rfl rfl ?_
    exact sv_iret C hr dX6_lit_34 (Nat.le_of_ble_eq_true rfl) (Nat.le_of_ble_eq_true rfl) (by rw [show i = 8 from by omega]) (fun _ h => h)
  · refine sv_iload_n (i := 1) (x := litI (M 11) i) C dX6_lit_10 rfl rfl ?_
    refine sv_aload_n (i := 0) (x := sv_r G 21 0) C dX6_lit_11 rfl rfl ?_
    refine sv_iload_n (i := 2) (x := nI i) C dX6_lit_12 rfl rfl ?_
    refine sv_callS (as := [_, _]) (rest := [_]) C (met_R21_lamp l G _ _ _ i (by omega)) fX6_lamp kw_860 ⟨Nat.le_of_ble_eq_true rfl, Nat.le_of_ble_eq_true rfl⟩ (Nat.le_of_ble_eq_true rfl) dX6_lit_13 ⟨Nat.zero_le _, Nat.zero_le _⟩  ?_
    refine sv_riS (lampv (M 11) i) rfl ?_
    refine sv_iconst (v := nI 2) C dX6_lit_16 (by decide) ?_
    refine sv_sel_icmp_lt (va := nI 1) (vb := nI 0) C 24 dX6_lit_17 (by decide) dX6_lit_20 (by decide) dX6_lit_21 (by decide) dX6_lit_24 (by decide) ?_
    refine sv_set (v' := .int (if lampv (M 11) i < 2 then 0 else 1)) (congrArg Value.int rfl) ?_
    refine sv_iadd C dX6_lit_25 ?_
    refine sv_set (v' := .int (litI (M 11) (i + 1))) (congrArg Value.int rfl) ?_
    refine sv_istore_n (i := 1) C [(0, .ref (sv_r G 21 0)), (1, .int (litI (M 11) (i + 1))), (2, .int (nI i))] dX6_lit_26 rfl (by decide) rfl ?_
    refine sv_iinc (i := 2) (x := nI i) C (nI (i + 1)) [(0, .ref (sv_r G 21 0)), (1, .int (litI (M 11) (i + 1))), (2, .int (nI (i + 1)))] dX6_lit_27 rfl (sv_incN i 1) (by decide) rfl ?_
    refine sv_goto C 4 dX6_lit_30 (by decide) ?_
    exact ihi (by omega) trivial

set_option maxHeartbeats 800000 in
set_option maxRecDepth 100000 in
theorem met_R21_comes (l : Launch) (G : sv_G) (z : Nat) (M : sv_M) (o : Int64) (f t : Int32) (hne : ¬ f = t) (m : Nat) (hm : M 11 57 = nI m) (hm6 : m < 7) : sv_Met l G yX6_comes cX6_comes 4 (some .int) 0 [.ref (sv_r G 21 0), .int f, .int t] (sv_W G z M o) (some (.int (M 11 5))) (sv_W G z (sv_u M 11 (entv m f t (M 11 3) (M 11))) o) := by
  refine sv_ofW (by decide) kw_796 (Nat.le_of_ble_eq_true rfl) ?_
  intro p e s mth args below meth c hr C _
  refine sv_sub (lv' := [(0, .ref (sv_r G 21 0)), (1, .int f), (2, .int t)]) rfl ?_
  refine sv_bipush (v := nI 58) C dX6_comes_0 (by decide) ?_
  refine sv_iconst (v := nI 4) C dX6_comes_2 (by decide) ?_
  refine sv_aload_n (i := 0) (x := sv_r G 21 0) C dX6_comes_3 rfl rfl ?_
  refine sv_bipush (v := nI 57) C dX6_comes_4 (by decide) ?_
  refine sv_ialdN C 11 57 rfl rfl rfl rfl (by show _ < 86; omega) dX6_comes_6 ?_
  refine sv_set (v' := .int (nI m)) (congrArg Value.int hm) ?_
  refine sv_imul C dX6_comes_7 ?_
  refine sv_set (v' := .int (nI (4 * m))) (congrArg Value.int (pk_mul _ _)) ?_
  refine sv_iadd C dX6_comes_8 ?_
  refine sv_set (v' := .int (nI (4 * m + 58))) (congrArg Value.int (by rw [nI_add]; exact congrArg nI (by omega))) ?_
  refine sv_istore_n (i := 3) C [(0, .ref (sv_r G 21 0)), (1, .int f), (2, .int t), (3, .int (nI (4 * m + 58)))] dX6_comes_9 rfl (by decide) rfl ?_
  refine sv_aload_n (i := 0) (x := sv_r G 21 0) C dX6_comes_10 rfl rfl ?_
  refine sv_iload_n (i := 3) (x := nI (4 * m + 58)) C dX6_comes_11 rfl rfl ?_
  refine sv_aload_n (i := 0) (x := sv_r G 21 0) C dX6_comes_12 rfl rfl ?_
  refine sv_iconst (v := nI 5) C dX6_comes_13 (by decide) ?_
  refine sv_ialdN C 11 5 rfl rfl rfl rfl (by show _ < 86; omega) dX6_comes_14 ?_
  refine sv_set (v' := .int (M 11 5)) (congrArg Value.int rfl) ?_
  refine sv_iastN C 11 (4 * m + 58) rfl rfl rfl rfl (by show _ < 86; omega) dX6_comes_15 ?_
  refine sv_aload_n (i := 0) (x := sv_r G 21 0) C dX6_comes_16 rfl rfl ?_
  refine sv_iload_n (i := 3) (x := nI (4 * m + 58)) C dX6_comes_17 rfl rfl ?_
  refine sv_iconst (v := nI 1) C dX6_comes_18 (by decide) ?_
  refine sv_iadd C dX6_comes_19 ?_
  refine sv_set (v' := .int (nI (4 * m + 59))) (congrArg Value.int (nI_add _ _)) ?_
  refine sv_iload_n (i := 1) (x := f) C dX6_comes_20 rfl rfl ?_
  refine sv_iastN C 11 (4 * m + 59) rfl rfl rfl rfl (by show _ < 86; omega) dX6_comes_21 ?_
  refine sv_aload_n (i := 0) (x := sv_r G 21 0) C dX6_comes_22 rfl rfl ?_
  refine sv_iload_n (i := 3) (x := nI (4 * m + 58)) C dX6_comes_23 rfl rfl ?_
  refine sv_iconst (v := nI 2) C dX6_comes_24 (by decide) ?_
  refine sv_iadd C dX6_comes_25 ?_
  refine sv_set (v' := .int (nI (4 * m + 60))) (congrArg Value.int (nI_add _ _)) ?_
  refine sv_iload_n (i := 2) (x := t) C dX6_comes_26 rfl rfl ?_
  refine sv_iastN C 11 (4 * m + 60) rfl rfl rfl rfl (by show _ < 86; omega) dX6_comes_27 ?_
  refine sv_aload_n (i := 0) (x := sv_r G 21 0) C dX6_comes_28 rfl rfl ?_
  refine sv_iload_n (i := 3) (x := nI (4 * m + 58)) C dX6_comes_29 rfl rfl ?_
  refine sv_iconst (v := nI 3) C dX6_comes_30 (by decide) ?_
  refine sv_iadd C dX6_comes_31 ?_
  refine sv_set (v' := .int (nI (4 * m + 61))) (congrArg Value.int (nI_add _ _)) ?_
  refine sv_aload_n (i := 0) (x := sv_r G 21 0) C dX6_comes_32 rfl rfl ?_
  refine sv_iconst (v := nI 3) C dX6_comes_33 (by decide) ?_
  refine sv_ialdN C 11 3 rfl rfl rfl rfl (by show _ < 86; omega) dX6_comes_34 ?_
  refine sv_set (v' := .int (M 11 3)) (congrArg Value.int (by simp only [sv_wu, sv_us, sv_uu]; rw [upd_n (show 3 ≠ 4 * m + 60 by omega), upd_n (show 3 ≠ 4 * m + 59 by omega), upd_n (show 3 ≠ 4 * m + 58 by omega)])) ?_
  refine sv_iastN C 11 (4 * m + 61) rfl rfl rfl rfl (by show _ < 86; omega) dX6_comes_35 ?_
  refine sv_aload_n (i := 0) (x := sv_r G 21 0) C dX6_comes_36 rfl rfl ?_
  refine sv_bipush (v := nI 57) C dX6_comes_37 (by decide) ?_
  refine sv_dup2_11 C dX6_comes_39 rfl rfl ?_
  refine sv_ialdN C 11 57 rfl rfl rfl rfl (by show _ < 86; omega) dX6_comes_40 ?_
  refine sv_set (v' := .int (nI m)) (congrArg Value.int (by simp only [sv_wu, sv_us, sv_uu]; rw [upd_n (show 57 ≠ 4 * m + 61 by omega), upd_n (show 57 ≠ 4 * m + 60 by omega), upd_n (show 57 ≠ 4 * m + 59 by omega), upd_n (show 57 ≠ 4 * m + 58 by omega)]; exact hm)) ?_
  refine sv_iconst (v := nI 1) C dX6_comes_41 (by decide) ?_
  refine sv_iadd C dX6_comes_42 ?_
  refine sv_set (v' := .int (nI (m + 1))) (congrArg Value.int (nI_add _ _)) ?_
  refine sv_iastN C 11 57 rfl rfl rfl rfl (by show _ < 86; omega) dX6_comes_43 ?_
  refine sv_aload_n (i := 0) (x := sv_r G 21 0) C dX6_comes_44 rfl rfl ?_
  refine sv_iconst (v := nI 5) C dX6_comes_45 (by decide) ?_
  refine sv_dup2_11 C dX6_comes_46 rfl rfl ?_
  refine sv_ialdN C 11 5 rfl rfl rfl rfl (by show _ < 86; omega) dX6_comes_47 ?_
  refine sv_set (v' := .int (M 11 5)) (congrArg Value.int (by simp only [sv_wu, sv_us, sv_uu]; rw [upd_n (show 5 ≠ 57 by omega), upd_n (show 5 ≠ 4 * m + 61 by omega), upd_n (show 5 ≠ 4 * m + 60 by omega), upd_n (show 5 ≠ 4 * m + 59 by omega), upd_n (show 5 ≠ 4 * m + 58 by omega)])) ?_
  refine sv_iconst (v := nI 1) C dX6_comes_48 (by decide) ?_
  refine sv_iadd C dX6_comes_49 ?_
  refine sv_set (v' := .int (M 11 5 + 1)) (congrArg Value.int rfl) ?_
  refine sv_iastN C 11 5 rfl rfl rfl rfl (by show _ < 86; omega) dX6_comes_50 ?_
  refine sv_aload_n (i := 0) (x := sv_r G 21 0) C dX6_comes_51 rfl rfl ?_
  refine sv_iconst (v := nI 5) C dX6_comes_52 (by decide) ?_
  refine sv_ialdN C 11 5 rfl rfl rfl rfl (by show _ < 86; omega) dX6_comes_53 ?_
  refine sv_set (v' := .int (M 11 5 + 1)) (congrArg Value.int (by simp only [sv_wu, sv_us, sv_uu]; rw [upd_s])) ?_
  refine sv_iconst (v := nI 1) C dX6_comes_54 (by decide) ?_
  refine sv_isub C dX6_comes_55 ?_
  refine sv_topi (fun v55 e55 => ?_)
  exact sv_iret C hr dX6_comes_56 (Nat.le_of_ble_eq_true rfl) (Nat.le_of_ble_eq_true rfl) (by rw [e55]; exact Int32.add_sub_cancel _ _) (sv_eqW (by simp only [sv_wu, sv_us, sv_uu]; unfold entv; rw [if_neg hne]))

