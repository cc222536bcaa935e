set_option maxHeartbeats 4000000 in
set_option maxRecDepth 100000 in
theorem met_letCome (l : Launch) (G : sv_G) (z : Nat) (M : sv_M) (o : Int64) (j : Nat) (hj : j < 8) (f t : Int32) (m : Nat) (hm : M j 57 = nI m) (hm6 : m < 7) : sv_Met l G yX3_letCome cX3_letCome 3 (some .int) 4 [.ref (sv_r G 0 j), .int f, .int t] (sv_W G z M o) (some (.int (M j 5))) (sv_W G z (sv_u M j (entv m f t (M j 3) (M j))) o) := by
  refine sv_ofW (by decide) kw_421 (Nat.le_of_ble_eq_true rfl) ?_
  intro p e s mth args below meth c hr C _
  refine sv_sub (lv' := [(0, .ref (sv_r G 0 j)), (1, .int f), (2, .int t)]) rfl ?_
  refine sv_aload_n (i := 0) (x := sv_r G 0 j) C dX3_letCome_0 rfl rfl ?_
  refine sv_get_3_1 C hj kw_110 dX3_letCome_1 ?_
  refine sv_iload_n (i := 1) (x := f) C dX3_letCome_4 rfl rfl ?_
  refine sv_iload_n (i := 2) (x := t) C dX3_letCome_5 rfl rfl ?_
  refine sv_aload_n (i := 0) (x := sv_r G 0 j) C dX3_letCome_6 rfl rfl ?_
  refine sv_get_3_2 C hj kw_112 dX3_letCome_7 ?_
  refine sv_iconst (v := nI 3) C dX3_letCome_10 (by decide) ?_
  refine sv_callN (as := [_, _]) (rest := [_, _, _]) C (met_atN j 3 rfl rfl (sv_okj (by decide) hj) rfl (by show _ < 4; omega)) fX5_at (host := "StairLight") kn_RX3_57 ⟨Nat.le_of_ble_eq_true rfl, Nat.le_of_ble_eq_true rfl⟩ (Nat.le_of_ble_eq_true rfl) dX3_letCome_11 ⟨Nat.zero_le _, Nat.zero_le _⟩  ?_
  refine sv_ri (fun v11 e11 => ?_)
  refine sv_callV (as := [_, _, _]) (rest := []) C (met_enter l G _ _ _ j hj f t v11 m hm hm6) fX2_enter kw_422 (sv_recv8 C hj) ⟨Nat.le_of_ble_eq_true rfl, Nat.le_of_ble_eq_true rfl⟩ (Nat.le_of_ble_eq_true rfl) dX3_letCome_14 ⟨Nat.zero_le _, Nat.zero_le _⟩  ?_
  refine sv_ri (fun v14 e14 => ?_)
  exact sv_iret C hr dX3_letCome_17 (Nat.le_of_ble_eq_true rfl) (Nat.le_of_ble_eq_true rfl) e14 (sv_eqW (by rw [e11]))

set_option maxHeartbeats 4000000 in
set_option maxRecDepth 100000 in
theorem met_switchOn (l : Launch) (G : sv_G) (z : Nat) (M : sv_M) (o : Int64) (j f : Nat) (hj : j < 8) (hf : f < 8) : sv_Met l G yX3_switchOn cX3_switchOn 2 none 3 [.ref (sv_r G 0 j), .int (nI f)] (sv_W G z M o) none (sv_W G z (sv_u M j (sw (M j 0) f (M j))) o) := by
  refine sv_ofW (by decide) kw_381 (Nat.le_of_ble_eq_true rfl) ?_
  intro p e s mth args below meth c hr C _
  refine sv_sub (lv' := [(0, .ref (sv_r G 0 j)), (1, .int (nI f))]) rfl ?_
  refine sv_aload_n (i := 0) (x := sv_r G 0 j) C dX3_switchOn_0 rfl rfl ?_
  refine sv_get_3_0 C hj kw_108 dX3_switchOn_1 ?_
  refine sv_iload_n (i := 1) (x := nI f) C dX3_switchOn_4 rfl rfl ?_
  refine sv_aload_n (i := 0) (x := sv_r G 0 j) C dX3_switchOn_5 rfl rfl ?_
  refine sv_get_3_2 C hj kw_112 dX3_switchOn_6 ?_
  refine sv_iconst (v := nI 0) C dX3_switchOn_9 (by decide) ?_
  refine sv_callN (as := [_, _]) (rest := [_, _]) C (met_atN j 0 rfl rfl (sv_okj (by decide) hj) rfl (by show _ < 4; omega)) fX5_at (host := "StairLight") kn_RX3_57 ⟨Nat.le_of_ble_eq_true rfl, Nat.le_of_ble_eq_true rfl⟩ (Nat.le_of_ble_eq_true rfl) dX3_switchOn_10 ⟨Nat.zero_le _, Nat.zero_le _⟩  ?_
  refine sv_ri (fun v10 e10 => ?_)
  refine sv_callV (as := [_, _]) (rest := []) C (met_letBurn l G _ _ _ j f hj (by omega) v10) fX0_letBurn kw_382 (sv_recv1 C hj) ⟨Nat.le_of_ble_eq_true rfl, Nat.le_of_ble_eq_true rfl⟩ (Nat.le_of_ble_eq_true rfl) dX3_switchOn_13 ⟨Nat.zero_le _, Nat.zero_le _⟩  ?_
  refine sv_rv ?_
  exact sv_vret C hr dX3_switchOn_16 (Nat.le_of_ble_eq_true rfl) (Nat.le_of_ble_eq_true rfl) (sv_eqW (by rw [e10]))

set_option maxHeartbeats 4000000 in
set_option maxRecDepth 100000 in
theorem met_switchOnO (l : Launch) (G : sv_G) (z : Nat) (M : sv_M) (o : Int64) (j : Nat) (hj : j < 8) (f : Int32) (hf : f < 0 ∨ nI 8 ≤ f) : sv_Met l G yX3_switchOn cX3_switchOn 2 none 3 [.ref (sv_r G 0 j), .int f] (sv_W G z M o) none (sv_W G z M o) := by
  refine sv_ofW (by decide) kw_381 (Nat.le_of_ble_eq_true rfl) ?_
  intro p e s mth args below meth c hr C _
  refine sv_sub (lv' := [(0, .ref (sv_r G 0 j)), (1, .int f)]) rfl ?_
  refine sv_aload_n (i := 0) (x := sv_r G 0 j) C dX3_switchOn_0 rfl rfl ?_
  refine sv_get_3_0 C hj kw_108 dX3_switchOn_1 ?_
  refine sv_iload_n (i := 1) (x := f) C dX3_switchOn_4 rfl rfl ?_
  refine sv_aload_n (i := 0) (x := sv_r G 0 j) C dX3_switchOn_5 rfl rfl ?_
  refine sv_get_3_2 C hj kw_112 dX3_switchOn_6 ?_
  refine sv_iconst (v := nI 0) C dX3_switchOn_9 (by decide) ?_
  refine sv_callN (as := [_, _]) (rest := [_, _]) C (met_atN j 0 rfl rfl (sv_okj (by decide) hj) rfl (by show _ < 4; omega)) fX5_at (host := "StairLight") kn_RX3_57 ⟨Nat.le_of_ble_eq_true rfl, Nat.le_of_ble_eq_true rfl⟩ (Nat.le_of_ble_eq_true rfl) dX3_switchOn_10 ⟨Nat.zero_le _, Nat.zero_le _⟩  ?_
  refine sv_ri (fun v10 e10 => ?_)
  refine sv_callV (as := [_, _]) (rest := []) C (met_letBurnO l G _ _ _ j hj f v10 hf) fX0_letBurn kw_382 (sv_recv1 C hj) ⟨Nat.le_of_ble_eq_true rfl, Nat.le_of_ble_eq_true rfl⟩ (Nat.le_of_ble_eq_true rfl) dX3_switchOn_13 ⟨Nat.zero_le _, Nat.zero_le _⟩  ?_
  refine sv_rv ?_
  exact sv_vret C hr dX3_switchOn_16 (Nat.le_of_ble_eq_true rfl) (Nat.le_of_ble_eq_true rfl) (fun _ h => h)

theorem met_switchOnI (l : Launch) (G : sv_G) (z : Nat) (M : sv_M) (o : Int64) (j : Nat) (hj : j < 8) (f : Int32) : sv_Met l G yX3_switchOn cX3_switchOn 2 none 3 [.ref (sv_r G 0 j), .int f] (sv_W G z M o) none (sv_W G z (sv_u M j (swI (M j 0) f (M j))) o) := by
  by_cases hf : f < 0 ∨ nI 8 ≤ f
  · rw [swI_o hf, sv_ui]
    exact met_switchOnO l G z M o j hj f hf
  · rcases pk_ix f (n := 8) (by decide) with h | h | ⟨g, hg, rfl⟩
    · exact absurd (Or.inl h) hf
    · exact absurd (Or.inr h) hf
    · rw [swI_N hg]
      exact met_switchOn l G z M o j g hj hg
theorem fosw_o {T : Int32} {x : vX} {k : Nat} (h : k < 9 ∨ 57 ≤ k) : ∀ n, n ≤ 8 → fo (sw T) n x k = x k
  | 0, _ => rfl
  | n + 1, hn => (sw_o (by omega) (by omega)).trans (fosw_o h n (by omega))
set_option maxHeartbeats 4000000 in
set_option maxRecDepth 100000 in
theorem met_switchAllOn (l : Launch) (G : sv_G) (z : Nat) (M : sv_M) (o : Int64) (j : Nat) (hj : j < 8) : sv_Met l G yX3_switchAllOn cX3_switchAllOn 2 none 4 [.ref (sv_r G 0 j)] (sv_W G z M o) none (sv_W G z (sv_u M j (fo (sw (M j 0)) 8 (M j))) o) := by
  refine sv_ofW (by decide) kw_543 (Nat.le_of_ble_eq_true rfl) ?_
  intro p e s mth args below meth c hr C _
  refine sv_sub (lv' := [(0, .ref (sv_r G 0 j))]) rfl ?_
  refine sv_iconst (v := nI 0) C dX3_switchAllOn_0 (by decide) ?_
  refine sv_istore_n (i := 1) C [(0, .ref (sv_r G 0 j)), (1, .int (nI 0))] dX3_switchAllOn_1 rfl (by decide) rfl ?_
  refine sv_wd (sv_eqW (sv_ui _ j).symm) ?_
  refine sv_loop (N := 8) (I := fun _ => True) (Wf := fun i => sv_W G z (sv_u M j (fo (sw (M j 0)) i (M j))) o) (Lf := fun i => [(0, .ref (sv_r G 0 j)), (1, .int (nI i))]) 0 (Nat.zero_le _) trivial (fun i hi0 hi hI ih => ?_)
  refine sv_iload_n (i := 1) (x := nI i) C dX3_switchAllOn_2 rfl rfl ?_
  refine sv_bipush (v := nI 8) C dX3_switchAllOn_3 (by decide) ?_
  refine sv_icmp_geN C 19 dX3_switchAllOn_5 (by decide) (by omega) (by omega) (fun q5 => ?_) (fun q5 => ?_)
  · exact sv_vret C hr dX3_switchAllOn_19 (Nat.le_of_ble_eq_true rfl) (Nat.le_of_ble_eq_true rfl) (sv_eqW (by rw [show i = 8 from by omega]))
  · refine sv_aload_n (i := 0) (x := sv_r G 0 j) C dX3_switchAllOn_8 rfl rfl ?_
    refine sv_iload_n (i := 1) (x := nI i) C dX3_switchAllOn_9 rfl rfl ?_
    refine sv_callV (as := [_]) (rest := []) C (met_switchOn l G _ _ _ j i hj (by omega)) fX3_switchOn kw_378 (sv_recv0 C hj) ⟨Nat.le_of_ble_eq_true rfl, Nat.le_of_ble_eq_true rfl⟩ (Nat.le_of_ble_eq_true rfl) dX3_switchAllOn_10 ⟨Nat.zero_le _, Nat.zero_le _⟩  ?_
    refine sv_rv ?_
    refine sv_iinc (i := 1) (x := nI i) C (nI (i + 1)) [(0, .ref (sv_r G 0 j)), (1, .int (nI (i + 1)))] dX3_switchAllOn_13 rfl (sv_incN i 1) (by decide) rfl ?_
    refine sv_goto C 2 dX3_switchAllOn_16 (by decide) ?_
    refine sv_wd (sv_eqW ?_) (ih (by omega) trivial)
    rw [sv_us, sv_uu, fo_succ, fosw_o (Or.inl (by decide)) i (by omega)]

theorem lampv_f {x : vX} {f : Nat} (h : x 7 = 1) : lampv x f = 3 := if_pos h
theorem lampv_0 {x : vX} {f : Nat} (h : ¬ x 7 = 1) (h2 : x (6 * f + 9) = 0) : lampv x f = x 6 := by unfold lampv; rw [if_neg h, if_pos h2]
theorem lampv_2 {x : vX} {f : Nat} (h : ¬ x 7 = 1) (h2 : ¬ x (6 * f + 9) = 0) (h3 : x (6 * f + 9) ≤ x 1) : lampv x f = 2 := by unfold lampv; rw [if_neg h, if_neg h2, if_pos h3]
theorem lampv_3 {x : vX} {f : Nat} (h : ¬ x 7 = 1) (h2 : ¬ x (6 * f + 9) = 0) (h3 : ¬ x (6 * f + 9) ≤ x 1) : lampv x f = 3 := by unfold lampv; rw [if_neg h, if_neg h2, if_neg h3]
theorem bne {v w : Int32} (e : v = w) (h : v = 0) : ¬ w = 1 := by subst e; rw [h]; decide
theorem beq1 {v w : Int32} (e : v = w) (b : w = 0 ∨ w = 1) (h : ¬ v = 0) : w = 1 := by subst e; exact b.resolve_left h
set_option maxHeartbeats 4000000 in
set_option maxRecDepth 100000 in
theorem met_lampOf (l : Launch) (G : sv_G) (z : Nat) (M : sv_M) (o : Int64) (j f : Nat) (hj : j < 8) (hf : f < 8) (b6 : M j 6 = 0 ∨ M j 6 = 1) (b7 : M j 7 = 0 ∨ M j 7 = 1) : sv_Met l G yX3_lampOf cX3_lampOf 3 (some .int) 1 [.ref (sv_r G 0 j), .int (nI f)] (sv_W G z M o) (some (.int (lampv (M j) f))) (sv_W G z M o) := by
  refine sv_ofW (by decide) kw_284 (Nat.le_of_ble_eq_true rfl) ?_
  intro p e s mth args below meth c hr C _
  refine sv_sub (lv' := [(0, .ref (sv_r G 0 j)), (1, .int (nI f))]) rfl ?_
  refine sv_aload_n (i := 0) (x := sv_r G 0 j) C dX3_lampOf_0 rfl rfl ?_
  refine sv_get_3_4 C hj kw_116 dX3_lampOf_1 ?_
  refine sv_topi (fun v1 e1 => ?_)
  refine sv_if_eq C 9 dX3_lampOf_4 (by decide) (fun q4 => ?_) (fun q4 => ?_)
  · refine sv_aload_n (i := 0) (x := sv_r G 0 j) C dX3_lampOf_9 rfl rfl ?_
    refine sv_get_3_0 C hj kw_108 dX3_lampOf_10 ?_
    refine sv_get_0_0 C hj kw_43 dX3_lampOf_13 ?_
    refine sv_iload_n (i := 1) (x := nI f) C dX3_lampOf_16 rfl rfl ?_
    refine sv_callN (as := [_, _]) (rest := []) C (met_atN j (6 * f + 9) rfl rfl (sv_okj (by decide) hj) rfl (by show _ < 8; omega)) fX5_at (host := "StairLight") kn_RX3_57 ⟨Nat.le_of_ble_eq_true rfl, Nat.le_of_ble_eq_true rfl⟩ (Nat.le_of_ble_eq_true rfl) dX3_lampOf_17 ⟨Nat.zero_le _, Nat.zero_le _⟩  ?_
    refine sv_ri (fun v17 e17 => ?_)
    refine sv_istore_n (i := 2) C [(0, .ref (sv_r G 0 j)), (1, .int (nI f)), (2, .int v17)] dX3_lampOf_20 rfl (by decide) rfl ?_
    refine sv_iload_n (i := 2) (x := v17) C dX3_lampOf_21 rfl rfl ?_
    refine sv_if_ne C 38 dX3_lampOf_22 (by decide) (fun q22 => ?_) (fun q22 => ?_)
    · refine sv_iload_n (i := 2) (x := v17) C dX3_lampOf_38 rfl rfl ?_
      refine sv_aload_n (i := 0) (x := sv_r G 0 j) C dX3_lampOf_39 rfl rfl ?_
      refine sv_get_3_2 C hj kw_112 dX3_lampOf_40 ?_
      refine sv_iconst (v := nI 1) C dX3_lampOf_43 (by decide) ?_
      refine sv_callN (as := [_, _]) (rest := [_]) C (met_atN j 1 rfl rfl (sv_okj (by decide) hj) rfl (by show _ < 4; omega)) fX5_at (host := "StairLight") kn_RX3_57 ⟨Nat.le_of_ble_eq_true rfl, Nat.le_of_ble_eq_true rfl⟩ (Nat.le_of_ble_eq_true rfl) dX3_lampOf_44 ⟨Nat.zero_le _, Nat.zero_le _⟩  ?_
      refine sv_ri (fun v44 e44 => ?_)
      refine sv_icmp_gt C 54 dX3_lampOf_47 (by decide) (fun q47 => ?_) (fun q47 => ?_)
      · refine sv_iconst (v := nI 3) C dX3_lampOf_54 (by decide) ?_
        exact sv_iret C hr dX3_lampOf_55 (Nat.le_of_ble_eq_true rfl) (Nat.le_of_ble_eq_true rfl) (by rw [lampv_3 (bne e1 q4) (fun h => q22 (e17.trans h)) (fun h => absurd q47 (Int32.not_lt.mpr (by rw [e17, e44]; exact h)))]; rfl) (fun _ h => h)
      · refine sv_iconst (v := nI 2) C dX3_lampOf_50 (by decide) ?_
        refine sv_goto C 55 dX3_lampOf_51 (by decide) ?_
        exact sv_iret C hr dX3_lampOf_55 (Nat.le_of_ble_eq_true rfl) (Nat.le_of_ble_eq_true rfl) (by rw [lampv_2 (bne e1 q4) (fun h => q22 (e17.trans h)) (by rw [← e17, ← e44]; exact Int32.not_lt.mp q47)]; rfl) (fun _ h => h)
    · refine sv_aload_n (i := 0) (x := sv_r G 0 j) C dX3_lampOf_25 rfl rfl ?_
      refine sv_get_3_3 C hj kw_114 dX3_lampOf_26 ?_
      refine sv_topi (fun v26 e26 => ?_)
      refine sv_if_eq C 36 dX3_lampOf_29 (by decide) (fun q29 => ?_) (fun q29 => ?_)
      · refine sv_iconst (v := nI 0) C dX3_lampOf_36 (by decide) ?_
        exact sv_iret C hr dX3_lampOf_37 (Nat.le_of_ble_eq_true rfl) (Nat.le_of_ble_eq_true rfl) (by rw [lampv_0 (bne e1 q4) (e17.symm.trans q22)]; exact (e26.symm.trans q29).symm) (fun _ h => h)
      · refine sv_iconst (v := nI 1) C dX3_lampOf_32 (by decide) ?_
        refine sv_goto C 37 dX3_lampOf_33 (by decide) ?_
        exact sv_iret C hr dX3_lampOf_37 (Nat.le_of_ble_eq_true rfl) (Nat.le_of_ble_eq_true rfl) (by rw [lampv_0 (bne e1 q4) (e17.symm.trans q22)]; exact (beq1 e26 b6 q29).symm) (fun _ h => h)
  · refine sv_iconst (v := nI 3) C dX3_lampOf_7 (by decide) ?_
    exact sv_iret C hr dX3_lampOf_8 (Nat.le_of_ble_eq_true rfl) (Nat.le_of_ble_eq_true rfl) (by rw [lampv_f (beq1 e1 b7 q4)]; rfl) (fun _ h => h)

set_option maxHeartbeats 4000000 in
set_option maxRecDepth 100000 in
theorem met_lampsBurning (l : Launch) (G : sv_G) (z : Nat) (M : sv_M) (o : Int64) (j : Nat) (hj : j < 8) (b6 : M j 6 = 0 ∨ M j 6 = 1) (b7 : M j 7 = 0 ∨ M j 7 = 1) : sv_Met l G yX3_lampsBurning cX3_lampsBurning 3 (some .int) 2 [.ref (sv_r G 0 j)] (sv_W G z M o) (some (.int (litI (M j) 8))) (sv_W G z M o) := by
  refine sv_ofW (by decide) kw_304 (Nat.le_of_ble_eq_true rfl) ?_
  intro p e s mth args below meth c hr C _
  refine sv_sub (lv' := [(0, .ref (sv_r G 0 j))]) rfl ?_
  refine sv_iconst (v := nI 0) C dX3_lampsBurning_0 (by decide) ?_
  refine sv_istore_n (i := 1) C [(0, .ref (sv_r G 0 j)), (1, .int (nI 0))] dX3_lampsBurning_1 rfl (by decide) rfl ?_
  refine sv_iconst (v := nI 0) C dX3_lampsBurning_2 (by decide) ?_
  refine sv_istore_n (i := 2) C [(0, .ref (sv_r G 0 j)), (1, .int (nI 0)), (2, .int (nI 0))] dX3_lampsBurning_3 rfl (by decide) rfl ?_
  refine sv_loop (N := 8) (I := fun _ => True) (Wf := fun i => sv_W G z M o) (Lf := fun i => [(0, .ref (sv_r G 0 j)), (1, .int (litI (M j) i)), (2, .int (nI i))]) 0 (Nat.zero_le _) trivial (fun i hi0 hi hI ih => ?_)
  refine sv_iload_n (i := 2) (x := nI i) C dX3_lampsBurning_4 rfl rfl ?_
  refine sv_bipush (v := nI 8) C dX3_lampsBurning_5 (by decide) ?_
  refine sv_icmp_geN C 28 dX3_lampsBurning_7 (by decide) (by omega) (by omega) (fun q7 => ?_) (fun q7 => ?_)
  · refine sv_iload_n (i := 1) (x := litI (M j) i) C dX3_lampsBurning_28 rfl rfl ?_
    exact sv_iret C hr dX3_lampsBurning_29 (Nat.le_of_ble_eq_true rfl) (Nat.le_of_ble_eq_true rfl) (by rw [show i = 8 from by omega]) (fun _ h => h)
  · refine sv_aload_n (i := 0) (x := sv_r G 0 j) C dX3_lampsBurning_10 rfl rfl ?_
    refine sv_iload_n (i := 2) (x := nI i) C dX3_lampsBurning_11 rfl rfl ?_
    refine sv_callV (as := [_]) (rest := []) C (met_lampOf l G _ _ _ j i hj (by omega) b6 b7) fX3_lampOf kw_281 (sv_recv0 C hj) ⟨Nat.le_of_ble_eq_true rfl, Nat.le_of_ble_eq_true rfl⟩ (Nat.le_of_ble_eq_true rfl) dX3_lampsBurning_12 ⟨Nat.zero_le _, Nat.zero_le _⟩  ?_
    refine sv_ri (fun v12 e12 => ?_)
    refine sv_iconst (v := nI 2) C dX3_lampsBurning_15 (by decide) ?_
    refine sv_icmp_lt C 22 dX3_lampsBurning_16 (by decide) (fun q16 => ?_) (fun q16 => ?_)
    · have q16 : v12 < 2 := q16
      refine sv_iinc (i := 2) (x := nI i) C (nI (i + 1)) [(0, .ref (sv_r G 0 j)), (1, .int (litI (M j) i)), (2, .int (nI (i + 1)))] dX3_lampsBurning_22 rfl (sv_incN i 1) (by decide) rfl ?_
      refine sv_goto C 4 dX3_lampsBurning_25 (by decide) ?_
      rw [show litI (M j) i = litI (M j) (i + 1) from by show _ = litI (M j) i + _; rw [if_pos (e12 ▸ q16)]; exact (Int32.add_zero _).symm]
      exact ih (by omega) trivial
    · have q16 : ¬ v12 < 2 := q16
      obtain ⟨v19, e19⟩ : ∃ y : Int32, y = litI (M j) i + Int32.ofInt (1) := ⟨_, rfl⟩
      refine sv_iinc (i := 1) (x := litI (M j) i) C v19 [(0, .ref (sv_r G 0 j)), (1, .int v19), (2, .int (nI i))] dX3_lampsBurning_19 rfl e19.symm (by decide) rfl ?_
      refine sv_iinc (i := 2) (x := nI i) C (nI (i + 1)) [(0, .ref (sv_r G 0 j)), (1, .int v19), (2, .int (nI (i + 1)))] dX3_lampsBurning_22 rfl (sv_incN i 1) (by decide) rfl ?_
      refine sv_goto C 4 dX3_lampsBurning_25 (by decide) ?_
      rw [show v19 = litI (M j) (i + 1) from by rw [e19]; show _ = litI (M j) i + _; rw [if_neg (e12 ▸ q16)]; rfl]
      exact ih (by omega) trivial

theorem swI_k0 {T f : Int32} {x : vX} : swI T f x 0 = x 0 := by
  unfold swI
  split
  · rfl
  · exact sw_o (by omega) (by omega)
set_option maxHeartbeats 4000000 in
set_option maxRecDepth 100000 in
theorem met_beginSecond (l : Launch) (G : sv_G) (z : Nat) (M : sv_M) (o : Int64) (j : Nat) (hj : j < 8) (m : Nat) (hm : M j 57 = nI m) (hm7 : m ≤ 7) : sv_Met l G yX3_beginSecond cX3_beginSecond 2 none 5 [.ref (sv_r G 0 j)] (sv_W G z M o) none (sv_W G z (sv_u M j (beginv m (M j))) o) := by
  refine sv_ofW (by decide) kw_355 (Nat.le_of_ble_eq_true rfl) ?_
  intro p e s mth args below meth c hr C _
  refine sv_sub (lv' := [(0, .ref (sv_r G 0 j))]) rfl ?_
  refine sv_aload_n (i := 0) (x := sv_r G 0 j) C dX3_beginSecond_0 rfl rfl ?_
  refine sv_get_3_1 C hj kw_110 dX3_beginSecond_1 ?_
  refine sv_aload_n (i := 0) (x := sv_r G 0 j) C dX3_beginSecond_4 rfl rfl ?_
  refine sv_get_3_2 C hj kw_112 dX3_beginSecond_5 ?_
  refine sv_iconst (v := nI 3) C dX3_beginSecond_8 (by decide) ?_
  refine sv_callN (as := [_, _]) (rest := [_]) C (met_atN j 3 rfl rfl (sv_okj (by decide) hj) rfl (by show _ < 4; omega)) fX5_at (host := "StairLight") kn_RX3_57 ⟨Nat.le_of_ble_eq_true rfl, Nat.le_of_ble_eq_true rfl⟩ (Nat.le_of_ble_eq_true rfl) dX3_beginSecond_9 ⟨Nat.zero_le _, Nat.zero_le _⟩  ?_
  refine sv_ri (fun v9 e9 => ?_)
  refine sv_callV (as := [_]) (rest := []) C (met_goOn l G _ _ _ j hj v9 m hm hm7) fX2_goOn kw_356 (sv_recv8 C hj) ⟨Nat.le_of_ble_eq_true rfl, Nat.le_of_ble_eq_true rfl⟩ (Nat.le_of_ble_eq_true rfl) dX3_beginSecond_12 ⟨Nat.zero_le _, Nat.zero_le _⟩  ?_
  refine sv_rv ?_
  have hle := goS_le (M j 3) (M j) m
  rw [e9]
  refine sv_iconst (v := nI 0) C dX3_beginSecond_15 (by decide) ?_
  refine sv_istore_n (i := 1) C [(0, .ref (sv_r G 0 j)), (1, .int (nI 0))] dX3_beginSecond_16 rfl (by decide) rfl ?_
  refine sv_loop (N := 8) (I := fun _ => True) (Wf := fun i => sv_W G z (sv_u M j (fo (la (goS (M j 3) m (M j)).2) i (goOnv (M j 3) m (M j)))) o) (Lf := fun i => [(0, .ref (sv_r G 0 j)), (1, .int (nI i))]) 0 (Nat.zero_le _) trivial (fun i hi0 hi hI ih => ?_)
  refine sv_iload_n (i := 1) (x := nI i) C dX3_beginSecond_17 rfl rfl ?_
  refine sv_bipush (v := nI 8) C dX3_beginSecond_18 (by decide) ?_
  refine sv_icmp_geN C 86 dX3_beginSecond_20 (by decide) (by omega) (by omega) (fun q20 => ?_) (fun q20 => ?_)
  · exact sv_vret C hr dX3_beginSecond_86 (Nat.le_of_ble_eq_true rfl) (Nat.le_of_ble_eq_true rfl) (sv_eqW (by rw [show i = 8 from by omega]; rfl))
  · refine sv_aload_n (i := 0) (x := sv_r G 0 j) C dX3_beginSecond_23 rfl rfl ?_
    refine sv_get_3_0 C hj kw_108 dX3_beginSecond_24 ?_
    refine sv_get_0_1 C hj kw_46 dX3_beginSecond_27 ?_
    refine sv_iload_n (i := 1) (x := nI i) C dX3_beginSecond_30 rfl rfl ?_
    refine sv_callN (as := [_, _]) (rest := []) C (met_atN j (6 * i + 10) rfl rfl (sv_okj (by decide) hj) rfl (by show _ < 8; omega)) fX5_at (host := "StairLight") kn_RX3_57 ⟨Nat.le_of_ble_eq_true rfl, Nat.le_of_ble_eq_true rfl⟩ (Nat.le_of_ble_eq_true rfl) dX3_beginSecond_31 ⟨Nat.zero_le _, Nat.zero_le _⟩  ?_
    refine sv_ri (fun v31 e31 => ?_)
    rw [sv_us] at e31
    refine sv_iconst (v := nI 1) C dX3_beginSecond_34 (by decide) ?_
    refine sv_icmp_ne C 80 dX3_beginSecond_35 (by decide) (fun q35 => ?_) (fun q35 => ?_)
    · have q35 : ¬ v31 = 1 := q35
      refine sv_iinc (i := 1) (x := nI i) C (nI (i + 1)) [(0, .ref (sv_r G 0 j)), (1, .int (nI (i + 1)))] dX3_beginSecond_80 rfl (sv_incN i 1) (by decide) rfl ?_
      refine sv_goto C 17 dX3_beginSecond_83 (by decide) ?_
      have hn : fo (la (goS (M j 3) m (M j)).2) (i + 1) (goOnv (M j 3) m (M j)) = fo (la (goS (M j 3) m (M j)).2) i (goOnv (M j 3) m (M j)) := if_neg (fun h => q35 (e31.trans h.1))
      have h9 := ih (by omega) trivial
      rw [hn] at h9
      exact h9
    · have q35 : v31 = 1 := q35
      refine sv_aload_n (i := 0) (x := sv_r G 0 j) C dX3_beginSecond_38 rfl rfl ?_
      refine sv_get_3_1 C hj kw_110 dX3_beginSecond_39 ?_
      refine sv_iload_n (i := 1) (x := nI i) C dX3_beginSecond_42 rfl rfl ?_
      refine sv_callV (as := [_]) (rest := []) C (met_peopleOn l G _ _ _ j hj (nI i) (goS (M j 3) m (M j)).2 (by rw [sv_us, fola_o (Or.inr (by decide)) i (by omega)]; exact upd_s _ _ _) (by omega)) fX2_peopleOn kw_288 (sv_recv8 C hj) ⟨Nat.le_of_ble_eq_true rfl, Nat.le_of_ble_eq_true rfl⟩ (Nat.le_of_ble_eq_true rfl) dX3_beginSecond_43 ⟨Nat.zero_le _, Nat.zero_le _⟩  ?_
      refine sv_ri (fun v43 e43 => ?_)
      rw [sv_us] at e43
      refine sv_if_le C 80 dX3_beginSecond_46 (by decide) (fun q46 => ?_) (fun q46 => ?_)
      · refine sv_iinc (i := 1) (x := nI i) C (nI (i + 1)) [(0, .ref (sv_r G 0 j)), (1, .int (nI (i + 1)))] dX3_beginSecond_80 rfl (sv_incN i 1) (by decide) rfl ?_
        refine sv_goto C 17 dX3_beginSecond_83 (by decide) ?_
        have hn : fo (la (goS (M j 3) m (M j)).2) (i + 1) (goOnv (M j 3) m (M j)) = fo (la (goS (M j 3) m (M j)).2) i (goOnv (M j 3) m (M j)) := if_neg (fun h => absurd h.2 (Int32.not_lt.mpr (e43 ▸ q46)))
        have h9 := ih (by omega) trivial
        rw [hn] at h9
        exact h9
      · obtain ⟨M1, hM1⟩ : ∃ M1 : sv_M, M1 = sv_u M j (fo (la (goS (M j 3) m (M j)).2) i (goOnv (M j 3) m (M j))) := ⟨_, rfl⟩
        refine sv_wd (Wd' := sv_W G z M1 o) (sv_eqW hM1.symm) ?_
        have hMj : M1 j = fo (la (goS (M j 3) m (M j)).2) i (goOnv (M j 3) m (M j)) := by rw [hM1, sv_us]
        have h1M : ∀ x, sv_u M1 j x = sv_u M j x := fun x => by rw [hM1, sv_uu]
        refine sv_aload_n (i := 0) (x := sv_r G 0 j) C dX3_beginSecond_49 rfl rfl ?_
        refine sv_iload_n (i := 1) (x := nI i) C dX3_beginSecond_50 rfl rfl ?_
        refine sv_callV (as := [_]) (rest := []) C (met_switchOn l G _ _ _ j i hj (by omega)) fX3_switchOn kw_378 (sv_recv0 C hj) ⟨Nat.le_of_ble_eq_true rfl, Nat.le_of_ble_eq_true rfl⟩ (Nat.le_of_ble_eq_true rfl) dX3_beginSecond_51 ⟨Nat.zero_le _, Nat.zero_le _⟩  ?_
        refine sv_rv ?_
        refine sv_aload_n (i := 0) (x := sv_r G 0 j) C dX3_beginSecond_54 rfl rfl ?_
        refine sv_get_3_2 C hj kw_112 dX3_beginSecond_55 ?_
        refine sv_iconst (v := nI 2) C dX3_beginSecond_58 (by decide) ?_
        refine sv_callN (as := [_, _]) (rest := []) C (met_atN j 2 rfl rfl (sv_okj (by decide) hj) rfl (by show _ < 4; omega)) fX5_at (host := "StairLight") kn_RX3_57 ⟨Nat.le_of_ble_eq_true rfl, Nat.le_of_ble_eq_true rfl⟩ (Nat.le_of_ble_eq_true rfl) dX3_beginSecond_59 ⟨Nat.zero_le _, Nat.zero_le _⟩  ?_
        refine sv_ri (fun v59 e59 => ?_)
        have e59 : v59 = M1 j 2 := by rw [e59, sv_us, sw_o (by omega) (by omega)]
        refine sv_iconst (v := nI 1) C dX3_beginSecond_62 (by decide) ?_
        refine sv_icmp_ne C 80 dX3_beginSecond_63 (by decide) (fun q63 => ?_) (fun q63 => ?_)
        · have q63 : ¬ v59 = 1 := q63
          refine sv_iinc (i := 1) (x := nI i) C (nI (i + 1)) [(0, .ref (sv_r G 0 j)), (1, .int (nI (i + 1)))] dX3_beginSecond_80 rfl (sv_incN i 1) (by decide) rfl ?_
          refine sv_goto C 17 dX3_beginSecond_83 (by decide) ?_
          have hn : fo (la (goS (M j 3) m (M j)).2) (i + 1) (goOnv (M j 3) m (M j)) = arnd i (fo (la (goS (M j 3) m (M j)).2) i (goOnv (M j 3) m (M j))) := if_pos ⟨by exact e31.symm.trans q35, by exact e43 ▸ Int32.not_le.mp q46⟩
          refine sv_wd (sv_eqW ?_) (ih (by omega) trivial)
          rw [hn, arnd_eq (show i < 8 by omega), ← hMj, ← h1M, if_neg (fun h => q63 (e59.trans h))]
        · have q63 : v59 = 1 := q63
          refine sv_aload_n (i := 0) (x := sv_r G 0 j) C dX3_beginSecond_66 rfl rfl ?_
          refine sv_iload_n (i := 1) (x := nI i) C dX3_beginSecond_67 rfl rfl ?_
          refine sv_iconst (v := nI 1) C dX3_beginSecond_68 (by decide) ?_
          refine sv_isub C dX3_beginSecond_69 ?_
          refine sv_set (v' := .int (nI i - 1)) (congrArg Value.int rfl) ?_
          refine sv_callV (as := [_]) (rest := []) C (met_switchOnI l G _ _ _ j hj (nI i - 1)) fX3_switchOn kw_378 (sv_recv0 C hj) ⟨Nat.le_of_ble_eq_true rfl, Nat.le_of_ble_eq_true rfl⟩ (Nat.le_of_ble_eq_true rfl) dX3_beginSecond_70 ⟨Nat.zero_le _, Nat.zero_le _⟩  ?_
          refine sv_rv ?_
          refine sv_aload_n (i := 0) (x := sv_r G 0 j) C dX3_beginSecond_73 rfl rfl ?_
          refine sv_iload_n (i := 1) (x := nI i) C dX3_beginSecond_74 rfl rfl ?_
          refine sv_iconst (v := nI 1) C dX3_beginSecond_75 (by decide) ?_
          refine sv_iadd C dX3_beginSecond_76 ?_
          refine sv_set (v' := .int (nI i + 1)) (congrArg Value.int rfl) ?_
          refine sv_callV (as := [_]) (rest := []) C (met_switchOnI l G _ _ _ j hj (nI i + 1)) fX3_switchOn kw_378 (sv_recv0 C hj) ⟨Nat.le_of_ble_eq_true rfl, Nat.le_of_ble_eq_true rfl⟩ (Nat.le_of_ble_eq_true rfl) dX3_beginSecond_77 ⟨Nat.zero_le _, Nat.zero_le _⟩  ?_
          refine sv_rv ?_
          refine sv_iinc (i := 1) (x := nI i) C (nI (i + 1)) [(0, .ref (sv_r G 0 j)), (1, .int (nI (i + 1)))] dX3_beginSecond_80 rfl (sv_incN i 1) (by decide) rfl ?_
          refine sv_goto C 17 dX3_beginSecond_83 (by decide) ?_
          have hn : fo (la (goS (M j 3) m (M j)).2) (i + 1) (goOnv (M j 3) m (M j)) = arnd i (fo (la (goS (M j 3) m (M j)).2) i (goOnv (M j 3) m (M j))) := if_pos ⟨by exact e31.symm.trans q35, by exact e43 ▸ Int32.not_le.mp q46⟩
          refine sv_wd (sv_eqW ?_) (ih (by omega) trivial)
          rw [hn, arnd_eq (show i < 8 by omega), ← hMj, ← h1M, if_pos (e59.symm.trans q63)]
          simp only [sv_us, sv_uu]
          rw [sw_o (show 0 ≠ 6 * i + 9 by omega) (by omega), swI_k0, sw_o (show 0 ≠ 6 * i + 9 by omega) (by omega)]

set_option maxHeartbeats 4000000 in
set_option maxRecDepth 100000 in
theorem met_powerOf (l : Launch) (G : sv_G) (Wd : Heap → Prop) (x : Int32) : sv_Met l G yX3_powerOf cX3_powerOf 1 (some .int) 0 [.int x] Wd (some (.int (powv x))) Wd := by
  refine sv_ofW (by decide) kw_400 (Nat.le_of_ble_eq_true rfl) ?_
  intro p e s mth args below meth c hr C _
  refine sv_sub (lv' := [(0, .int x)]) rfl ?_
  refine sv_iload_n (i := 0) (x := x) C dX3_powerOf_0 rfl rfl ?_
  refine sv_iconst (v := nI 2) C dX3_powerOf_1 (by decide) ?_
  refine sv_icmp_lt C 8 dX3_powerOf_2 (by decide) (fun q2 => ?_) (fun q2 => ?_)
  · have q2 : x < 2 := q2
    refine sv_iload_n (i := 0) (x := x) C dX3_powerOf_8 rfl rfl ?_
    refine sv_iconst (v := nI 1) C dX3_powerOf_9 (by decide) ?_
    refine sv_icmp_ne C 17 dX3_powerOf_10 (by decide) (fun q10 => ?_) (fun q10 => ?_)
    · have q10 : ¬ x = 1 := q10
      refine sv_iconst (v := nI 0) C dX3_powerOf_17 (by decide) ?_
      exact sv_iret C hr dX3_powerOf_18 (Nat.le_of_ble_eq_true rfl) (Nat.le_of_ble_eq_true rfl) (by unfold powv; rw [if_pos q2, if_neg q10]; rfl) (fun _ h => h)
    · have q10 : x = 1 := q10
      refine sv_iconst (v := nI 3) C dX3_powerOf_13 (by decide) ?_
      refine sv_goto C 18 dX3_powerOf_14 (by decide) ?_
      exact sv_iret C hr dX3_powerOf_18 (Nat.le_of_ble_eq_true rfl) (Nat.le_of_ble_eq_true rfl) (by unfold powv; rw [if_pos q2, if_pos q10]; rfl) (fun _ h => h)
  · have q2 : ¬ x < 2 := q2
    refine sv_bipush (v := nI 10) C dX3_powerOf_5 (by decide) ?_
    exact sv_iret C hr dX3_powerOf_7 (Nat.le_of_ble_eq_true rfl) (Nat.le_of_ble_eq_true rfl) (by unfold powv; rw [if_neg q2]; rfl) (fun _ h => h)

set_option maxHeartbeats 4000000 in
set_option maxRecDepth 100000 in
theorem met_countSecondOn (l : Launch) (G : sv_G) (z : Nat) (M : sv_M) (o : Int64) (j f : Nat) (hj : j < 8) (hf : f < 8) (b6 : M j 6 = 0 ∨ M j 6 = 1) (b7 : M j 7 = 0 ∨ M j 7 = 1) : sv_Met l G yX3_countSecondOn cX3_countSecondOn 3 none 2 [.ref (sv_r G 0 j), .int (nI f)] (sv_W G z M o) none (sv_W G z (sv_u M j (cnt f (M j))) o) := by
  refine sv_ofW (by decide) kw_396 (Nat.le_of_ble_eq_true rfl) ?_
  intro p e s mth args below meth c hr C _
  refine sv_sub (lv' := [(0, .ref (sv_r G 0 j)), (1, .int (nI f))]) rfl ?_
  refine sv_aload_n (i := 0) (x := sv_r G 0 j) C dX3_countSecondOn_0 rfl rfl ?_
  refine sv_iload_n (i := 1) (x := nI f) C dX3_countSecondOn_1 rfl rfl ?_
  refine sv_callV (as := [_]) (rest := []) C (met_lampOf l G _ _ _ j f hj (by omega) b6 b7) fX3_lampOf kw_281 (sv_recv0 C hj) ⟨Nat.le_of_ble_eq_true rfl, Nat.le_of_ble_eq_true rfl⟩ (Nat.le_of_ble_eq_true rfl) dX3_countSecondOn_2 ⟨Nat.zero_le _, Nat.zero_le _⟩  ?_
  refine sv_ri (fun v2 e2 => ?_)
  refine sv_istore_n (i := 2) C [(0, .ref (sv_r G 0 j)), (1, .int (nI f)), (2, .int v2)] dX3_countSecondOn_5 rfl (by decide) rfl ?_
  refine sv_iload_n (i := 2) (x := v2) C dX3_countSecondOn_6 rfl rfl ?_
  refine sv_if_ne C 25 dX3_countSecondOn_7 (by decide) (fun q7 => ?_) (fun q7 => ?_)
  · refine sv_iload_n (i := 2) (x := v2) C dX3_countSecondOn_25 rfl rfl ?_
    refine sv_iconst (v := nI 1) C dX3_countSecondOn_26 (by decide) ?_
    refine sv_icmp_ne C 42 dX3_countSecondOn_27 (by decide) (fun q27 => ?_) (fun q27 => ?_)
    · have q27 : ¬ v2 = 1 := q27
      refine sv_aload_n (i := 0) (x := sv_r G 0 j) C dX3_countSecondOn_42 rfl rfl ?_
      refine sv_dup C dX3_countSecondOn_43 rfl ?_
      refine sv_get_3_6 C hj kw_120 dX3_countSecondOn_44 ?_
      refine sv_topi (fun v44 e44 => ?_)
      refine sv_iconst (v := nI 1) C dX3_countSecondOn_47 (by decide) ?_
      refine sv_iadd C dX3_countSecondOn_48 ?_
      refine sv_topi (fun v48 e48 => ?_)
      refine sv_put_3_6 C hj kw_120 dX3_countSecondOn_49 ?_
      exact sv_vret C hr dX3_countSecondOn_52 (Nat.le_of_ble_eq_true rfl) (Nat.le_of_ble_eq_true rfl) (sv_eqW (by rw [e48, e44]; simp only [sv_wu, sv_us, sv_uu]; unfold cnt; rw [if_neg (fun h => q7 (e2.trans h)), if_neg (fun h => q27 (e2.trans h))]; rfl))
    · have q27 : v2 = 1 := q27
      refine sv_aload_n (i := 0) (x := sv_r G 0 j) C dX3_countSecondOn_30 rfl rfl ?_
      refine sv_get_3_0 C hj kw_108 dX3_countSecondOn_31 ?_
      refine sv_get_0_3 C hj kw_51 dX3_countSecondOn_34 ?_
      refine sv_iload_n (i := 1) (x := nI f) C dX3_countSecondOn_37 rfl rfl ?_
      refine sv_iconst (v := nI 1) C dX3_countSecondOn_38 (by decide) ?_
      refine sv_callN (as := [_, _, _]) (rest := []) C (met_raiseN j (6 * f + 12) rfl rfl (sv_okj (by decide) hj) rfl (by show _ < 8; omega)) fX5_raise (host := "StairLight") kn_RX3_119 ⟨Nat.le_of_ble_eq_true rfl, Nat.le_of_ble_eq_true rfl⟩ (Nat.le_of_ble_eq_true rfl) dX3_countSecondOn_39 ⟨Nat.zero_le _, Nat.zero_le _⟩  ?_
      refine sv_rv ?_
      refine sv_aload_n (i := 0) (x := sv_r G 0 j) C dX3_countSecondOn_42 rfl rfl ?_
      refine sv_dup C dX3_countSecondOn_43 rfl ?_
      refine sv_get_3_6 C hj kw_120 dX3_countSecondOn_44 ?_
      refine sv_topi (fun v44 e44 => ?_)
      refine sv_iconst (v := nI 1) C dX3_countSecondOn_47 (by decide) ?_
      refine sv_iadd C dX3_countSecondOn_48 ?_
      refine sv_topi (fun v48 e48 => ?_)
      refine sv_put_3_6 C hj kw_120 dX3_countSecondOn_49 ?_
      exact sv_vret C hr dX3_countSecondOn_52 (Nat.le_of_ble_eq_true rfl) (Nat.le_of_ble_eq_true rfl) (sv_eqW (by rw [e48, e44]; simp only [sv_wu, sv_us, sv_uu]; unfold cnt; rw [if_neg (fun h => q7 (e2.trans h)), if_pos (e2.symm.trans q27)]; rfl))
  · refine sv_aload_n (i := 0) (x := sv_r G 0 j) C dX3_countSecondOn_10 rfl rfl ?_
    refine sv_get_3_0 C hj kw_108 dX3_countSecondOn_11 ?_
    refine sv_get_0_2 C hj kw_48 dX3_countSecondOn_14 ?_
    refine sv_iload_n (i := 1) (x := nI f) C dX3_countSecondOn_17 rfl rfl ?_
    refine sv_iconst (v := nI 1) C dX3_countSecondOn_18 (by decide) ?_
    refine sv_callN (as := [_, _, _]) (rest := []) C (met_raiseN j (6 * f + 11) rfl rfl (sv_okj (by decide) hj) rfl (by show _ < 8; omega)) fX5_raise (host := "StairLight") kn_RX3_119 ⟨Nat.le_of_ble_eq_true rfl, Nat.le_of_ble_eq_true rfl⟩ (Nat.le_of_ble_eq_true rfl) dX3_countSecondOn_19 ⟨Nat.zero_le _, Nat.zero_le _⟩  ?_
    refine sv_rv ?_
    refine sv_goto C 42 dX3_countSecondOn_22 (by decide) ?_
    refine sv_aload_n (i := 0) (x := sv_r G 0 j) C dX3_countSecondOn_42 rfl rfl ?_
    refine sv_dup C dX3_countSecondOn_43 rfl ?_
    refine sv_get_3_6 C hj kw_120 dX3_countSecondOn_44 ?_
    refine sv_topi (fun v44 e44 => ?_)
    refine sv_iconst (v := nI 1) C dX3_countSecondOn_47 (by decide) ?_
    refine sv_iadd C dX3_countSecondOn_48 ?_
    refine sv_topi (fun v48 e48 => ?_)
    refine sv_put_3_6 C hj kw_120 dX3_countSecondOn_49 ?_
    exact sv_vret C hr dX3_countSecondOn_52 (Nat.le_of_ble_eq_true rfl) (Nat.le_of_ble_eq_true rfl) (sv_eqW (by rw [e48, e44]; simp only [sv_wu, sv_us, sv_uu]; unfold cnt; rw [if_pos (e2.symm.trans q7)]; rfl))

set_option maxHeartbeats 4000000 in
set_option maxRecDepth 100000 in
theorem met_endSecond (l : Launch) (G : sv_G) (z : Nat) (M : sv_M) (o : Int64) (j : Nat) (hj : j < 8) (m : Nat) (hm : M j 57 = nI m) (hm7 : m ≤ 7) (b6 : M j 6 = 0 ∨ M j 6 = 1) (b7 : M j 7 = 0 ∨ M j 7 = 1) (hv : vfl m (M j)) : sv_Met l G yX3_endSecond cX3_endSecond 2 none 3 [.ref (sv_r G 0 j)] (sv_W G z M o) none (sv_W G z (sv_u M j (endv m (M j))) o) := by
  refine sv_ofW (by decide) kw_392 (Nat.le_of_ble_eq_true rfl) ?_
  intro p e s mth args below meth c hr C _
  refine sv_sub (lv' := [(0, .ref (sv_r G 0 j))]) rfl ?_
  refine sv_iconst (v := nI 0) C dX3_endSecond_0 (by decide) ?_
  refine sv_istore_n (i := 1) C [(0, .ref (sv_r G 0 j)), (1, .int (nI 0))] dX3_endSecond_1 rfl (by decide) rfl ?_
  refine sv_wd (sv_eqW (sv_ui _ j).symm) ?_
  refine sv_loop (N := m) (I := fun _ => True) (Wf := fun i => sv_W G z (sv_u M j (fo cntp i (M j))) o) (Lf := fun i => [(0, .ref (sv_r G 0 j)), (1, .int (nI i))]) 0 (Nat.zero_le _) trivial (fun i hi0 hi hI ih => ?_)
  refine sv_iload_n (i := 1) (x := nI i) C dX3_endSecond_2 rfl rfl ?_
  refine sv_aload_n (i := 0) (x := sv_r G 0 j) C dX3_endSecond_3 rfl rfl ?_
  refine sv_get_3_1 C hj kw_110 dX3_endSecond_4 ?_
  refine sv_get_2_4 C hj kw_87 dX3_endSecond_7 ?_
  refine sv_set (v' := .int (nI m)) (congrArg Value.int (by rw [sv_us, focnt_o hv (Or.inr (by decide)) i hi]; exact hm)) ?_
  refine sv_icmp_geN C 34 dX3_endSecond_10 (by decide) (by omega) (by omega) (fun q10 => ?_) (fun q10 => ?_)
  · obtain rfl : i = m := by omega
    refine sv_iconst (v := nI 0) C dX3_endSecond_34 (by decide) ?_
    refine sv_istore_n (i := 1) C [(0, .ref (sv_r G 0 j)), (1, .int (nI 0))] dX3_endSecond_35 rfl (by decide) rfl ?_
    refine sv_loop (N := 8) (I := fun _ => True) (Wf := fun i2 => sv_W G z (sv_u M j (fo fend i2 (fo cntp i (M j)))) o) (Lf := fun i2 => [(0, .ref (sv_r G 0 j)), (1, .int (nI i2))]) 0 (Nat.zero_le _) trivial (fun i2 hi20 hi2 hI2 ih2 => ?_)
    refine sv_iload_n (i := 1) (x := nI i2) C dX3_endSecond_36 rfl rfl ?_
    refine sv_bipush (v := nI 8) C dX3_endSecond_37 (by decide) ?_
    refine sv_icmp_geN C 75 dX3_endSecond_39 (by decide) (by omega) (by omega) (fun q39 => ?_) (fun q39 => ?_)
    · refine sv_aload_n (i := 0) (x := sv_r G 0 j) C dX3_endSecond_75 rfl rfl ?_
      refine sv_dup C dX3_endSecond_76 rfl ?_
      refine sv_get_3_5 C hj kw_118 dX3_endSecond_77 ?_
      refine sv_topi (fun v77 e77 => ?_)
      refine sv_iconst (v := nI 1) C dX3_endSecond_80 (by decide) ?_
      refine sv_iadd C dX3_endSecond_81 ?_
      refine sv_topi (fun v81 e81 => ?_)
      refine sv_put_3_5 C hj kw_118 dX3_endSecond_82 ?_
      exact sv_vret C hr dX3_endSecond_85 (Nat.le_of_ble_eq_true rfl) (Nat.le_of_ble_eq_true rfl) (sv_eqW (by rw [e81, e77, show i2 = 8 from by omega]; simp only [sv_wu, sv_us, sv_uu]; rfl))
    · refine sv_aload_n (i := 0) (x := sv_r G 0 j) C dX3_endSecond_42 rfl rfl ?_
      refine sv_get_3_0 C hj kw_108 dX3_endSecond_43 ?_
      refine sv_get_0_4 C hj kw_54 dX3_endSecond_46 ?_
      refine sv_iload_n (i := 1) (x := nI i2) C dX3_endSecond_49 rfl rfl ?_
      refine sv_aload_n (i := 0) (x := sv_r G 0 j) C dX3_endSecond_50 rfl rfl ?_
      refine sv_iload_n (i := 1) (x := nI i2) C dX3_endSecond_51 rfl rfl ?_
      refine sv_callV (as := [_]) (rest := [_, _]) C (met_lampOf l G _ _ _ j i2 hj (by omega) (by rw [sv_us, fofend_o (Or.inl (by decide)) i2 hi2, focnt_o hv (Or.inl (by decide)) i hi]; exact b6) (by rw [sv_us, fofend_o (Or.inl (by decide)) i2 hi2, focnt_o hv (Or.inl (by decide)) i hi]; exact b7)) fX3_lampOf kw_281 (sv_recv0 C hj) ⟨Nat.le_of_ble_eq_true rfl, Nat.le_of_ble_eq_true rfl⟩ (Nat.le_of_ble_eq_true rfl) dX3_endSecond_52 ⟨Nat.zero_le _, Nat.zero_le _⟩  ?_
      refine sv_ri (fun v52 e52 => ?_)
      refine sv_callS (as := [_]) (rest := [_, _]) C (met_powerOf l G _ v52) fX3_powerOf kw_398 ⟨Nat.le_of_ble_eq_true rfl, Nat.le_of_ble_eq_true rfl⟩ (Nat.le_of_ble_eq_true rfl) dX3_endSecond_55 ⟨Nat.zero_le _, Nat.zero_le _⟩  ?_
      refine sv_ri (fun v55 e55 => ?_)
      refine sv_callN (as := [_, _, _]) (rest := []) C (met_raiseN j (6 * i2 + 13) rfl rfl (sv_okj (by decide) hj) rfl (by show _ < 8; omega)) fX5_raise (host := "StairLight") kn_RX3_119 ⟨Nat.le_of_ble_eq_true rfl, Nat.le_of_ble_eq_true rfl⟩ (Nat.le_of_ble_eq_true rfl) dX3_endSecond_58 ⟨Nat.zero_le _, Nat.zero_le _⟩  ?_
      refine sv_rv ?_
      refine sv_aload_n (i := 0) (x := sv_r G 0 j) C dX3_endSecond_61 rfl rfl ?_
      refine sv_get_3_0 C hj kw_108 dX3_endSecond_62 ?_
      refine sv_iload_n (i := 1) (x := nI i2) C dX3_endSecond_65 rfl rfl ?_
      refine sv_callV (as := [_]) (rest := []) C (met_burnDown l G _ _ _ j i2 hj (by omega)) fX0_burnDown kw_401 (sv_recv1 C hj) ⟨Nat.le_of_ble_eq_true rfl, Nat.le_of_ble_eq_true rfl⟩ (Nat.le_of_ble_eq_true rfl) dX3_endSecond_66 ⟨Nat.zero_le _, Nat.zero_le _⟩  ?_
      refine sv_rv ?_
      refine sv_iinc (i := 1) (x := nI i2) C (nI (i2 + 1)) [(0, .ref (sv_r G 0 j)), (1, .int (nI (i2 + 1)))] dX3_endSecond_69 rfl (sv_incN i2 1) (by decide) rfl ?_
      refine sv_goto C 36 dX3_endSecond_72 (by decide) ?_
      refine sv_wd (sv_eqW ?_) (ih2 (by omega) trivial)
      rw [e55, e52]
      simp only [sv_wu, sv_us, sv_uu]
      rfl
  · refine sv_aload_n (i := 0) (x := sv_r G 0 j) C dX3_endSecond_13 rfl rfl ?_
    refine sv_aload_n (i := 0) (x := sv_r G 0 j) C dX3_endSecond_14 rfl rfl ?_
    refine sv_get_3_1 C hj kw_110 dX3_endSecond_15 ?_
    refine sv_get_2_1 C hj kw_80 dX3_endSecond_18 ?_
    refine sv_iload_n (i := 1) (x := nI i) C dX3_endSecond_21 rfl rfl ?_
    obtain ⟨f, hf, ef⟩ := hv i (by omega)
    refine sv_callN (as := [_, _]) (rest := [_]) C (met_atN j (4 * i + 59) rfl rfl (sv_okj (by decide) hj) rfl (by show _ < 7; omega)) fX5_at (host := "StairLight") kn_RX3_57 ⟨Nat.le_of_ble_eq_true rfl, Nat.le_of_ble_eq_true rfl⟩ (Nat.le_of_ble_eq_true rfl) dX3_endSecond_22 ⟨Nat.zero_le _, Nat.zero_le _⟩  ?_
    refine sv_riN f (by rw [sv_us, focnt_o hv (Or.inr (by omega)) i hi]; exact ef) ?_
    refine sv_callV (as := [_]) (rest := []) C (met_countSecondOn l G _ _ _ j f hj hf (by rw [sv_us, focnt_o hv (Or.inl (by decide)) i hi]; exact b6) (by rw [sv_us, focnt_o hv (Or.inl (by decide)) i hi]; exact b7)) fX3_countSecondOn kw_393 (sv_recv0 C hj) ⟨Nat.le_of_ble_eq_true rfl, Nat.le_of_ble_eq_true rfl⟩ (Nat.le_of_ble_eq_true rfl) dX3_endSecond_25 ⟨Nat.zero_le _, Nat.zero_le _⟩  ?_
    refine sv_rv ?_
    refine sv_iinc (i := 1) (x := nI i) C (nI (i + 1)) [(0, .ref (sv_r G 0 j)), (1, .int (nI (i + 1)))] dX3_endSecond_28 rfl (sv_incN i 1) (by decide) rfl ?_
    refine sv_goto C 2 dX3_endSecond_31 (by decide) ?_
    refine sv_wd (sv_eqW ?_) (ih (by omega) trivial)
    rw [sv_us, sv_uu, fo_succ]
    show _ = sv_u M j (cnt (fo cntp i (M j) (4 * i + 59)).toNatClampNeg _)
    rw [focnt_o hv (Or.inr (by omega)) i hi, ef, nI_clamp (by omega)]

