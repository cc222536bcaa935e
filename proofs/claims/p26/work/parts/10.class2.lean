set_option maxHeartbeats 4000000 in
set_option maxRecDepth 100000 in
theorem met_sumOf (l : Launch) (G : sv_G) (z : Nat) (M : sv_M) (o : Int64) (c' j : Nat) (hok : sv_ok c' j = true) (hir : sv_ir c' = true) : sv_Met l G yX5_sumOf cX5_sumOf 3 (some .int) 0 [.ref (sv_r G c' j)] (sv_W G z M o) (some (.int (smI (fun i => M (sv_q c' j) (sv_i c' i)) (sv_n c')))) (sv_W G z M o) := by
  refine sv_ofW (by decide) kw_307 (Nat.le_of_ble_eq_true rfl) ?_
  intro p e s mth args below meth c hr C _
  have hs := sv_nlt c'
  refine sv_sub (lv' := [(0, .ref (sv_r G c' j))]) rfl ?_
  refine sv_iconst (v := nI 0) C dX5_sumOf_0 (by decide) ?_
  refine sv_istore_n (i := 1) C [(0, .ref (sv_r G c' j)), (1, .int (nI 0))] dX5_sumOf_1 rfl (by decide) rfl ?_
  refine sv_iconst (v := nI 0) C dX5_sumOf_2 (by decide) ?_
  refine sv_istore_n (i := 2) C [(0, .ref (sv_r G c' j)), (1, .int (nI 0)), (2, .int (nI 0))] dX5_sumOf_3 rfl (by decide) rfl ?_
  refine sv_loop (N := sv_n c') (I := fun _ => True) (Wf := fun i => sv_W G z M o) (Lf := fun i => [(0, .ref (sv_r G c' j)), (1, .int (smI (fun i => M (sv_q c' j) (sv_i c' i)) i)), (2, .int (nI i))]) 0 (Nat.zero_le _) trivial (fun i hi0 hi hI ih => ?_)
  refine sv_iload_n (i := 2) (x := nI i) C dX5_sumOf_4 rfl rfl ?_
  refine sv_aload_n (i := 0) (x := sv_r G c' j) C dX5_sumOf_5 rfl rfl ?_
  refine sv_alen (v := nI (sv_n c')) C hok hir rfl dX5_sumOf_6 ?_
  refine sv_icmp_geN C 22 dX5_sumOf_7 (by decide) (by omega) (by omega) (fun q7 => ?_) (fun q7 => ?_)
  · refine sv_iload_n (i := 1) (x := smI (fun i => M (sv_q c' j) (sv_i c' i)) i) C dX5_sumOf_22 rfl rfl ?_
    exact sv_iret C hr dX5_sumOf_23 (Nat.le_of_ble_eq_true rfl) (Nat.le_of_ble_eq_true rfl) (by rw [show i = sv_n c' from by omega]) (fun _ h => h)
  · refine sv_iload_n (i := 1) (x := smI (fun i => M (sv_q c' j) (sv_i c' i)) i) C dX5_sumOf_10 rfl rfl ?_
    refine sv_aload_n (i := 0) (x := sv_r G c' j) C dX5_sumOf_11 rfl rfl ?_
    refine sv_iload_n (i := 2) (x := nI i) C dX5_sumOf_12 rfl rfl ?_
    refine sv_ialdN C (sv_q c' j) (sv_i c' i) rfl rfl hok hir (by omega) dX5_sumOf_13 ?_
    refine sv_topi (fun v13 e13 => ?_)
    refine sv_iadd C dX5_sumOf_14 ?_
    refine sv_topi (fun v14 e14 => ?_)
    refine sv_istore_n (i := 1) C [(0, .ref (sv_r G c' j)), (1, .int v14), (2, .int (nI i))] dX5_sumOf_15 rfl (by decide) rfl ?_
    refine sv_iinc (i := 2) (x := nI i) C (nI (i + 1)) [(0, .ref (sv_r G c' j)), (1, .int v14), (2, .int (nI (i + 1)))] dX5_sumOf_16 rfl (sv_incN i 1) (by decide) rfl ?_
    refine sv_goto C 4 dX5_sumOf_19 (by decide) ?_
    rw [show v14 = smI (fun i => M (sv_q c' j) (sv_i c' i)) (i + 1) from by rw [e14, e13]; rfl]
    exact ih (by omega) trivial

set_option maxHeartbeats 4000000 in
set_option maxRecDepth 100000 in
theorem met_numberOf (l : Launch) (G : sv_G) (Wd : Heap → Prop) (x : Int32) (hx : x = 0 ∨ x = 1) : sv_Met l G yX5_numberOf cX5_numberOf 1 (some .int) 0 [.int x] Wd (some (.int x)) Wd := by
  refine sv_ofW (by decide) kw_310 (Nat.le_of_ble_eq_true rfl) ?_
  intro p e s mth args below meth c hr C _
  refine sv_sub (lv' := [(0, .int x)]) rfl ?_
  refine sv_iload_n (i := 0) (x := x) C dX5_numberOf_0 rfl rfl ?_
  refine sv_sel_if_eq (va := nI 1) (vb := nI 0) C 8 dX5_numberOf_1 (by decide) dX5_numberOf_4 (by decide) dX5_numberOf_5 (by decide) dX5_numberOf_8 (by decide) ?_
  refine sv_set (v' := .int x) (congrArg Value.int (by rcases hx with rfl | rfl <;> rfl)) ?_
  exact sv_iret C hr dX5_numberOf_9 (Nat.le_of_ble_eq_true rfl) (Nat.le_of_ble_eq_true rfl) rfl (fun _ h => h)

theorem sv_q14 {c j : Nat} (h : c < 14) : sv_q c j = j := if_pos h
set_option maxHeartbeats 4000000 in
set_option maxRecDepth 100000 in
theorem met_copyRow (l : Launch) (G : sv_G) (z : Nat) (M : sv_M) (o : Int64) (c' j1 j2 : Nat) (hc : c' < 14) (h1 : j1 < 8) (h2 : j2 < 8) (hne : j1 ≠ j2) (hir : sv_ir c' = true) : sv_Met l G yX5_copyRow cX5_copyRow 3 none 0 [.ref (sv_r G c' j1), .ref (sv_r G c' j2)] (sv_W G z M o) none (sv_W G z (sv_u M j2 (cpR c' (sv_n c') (M j1) (M j2))) o) := by
  refine sv_ofW (by decide) kw_107 (Nat.le_of_ble_eq_true rfl) ?_
  intro p e s mth args below meth c hr C _
  have hs := sv_nlt c'
  refine sv_sub (lv' := [(0, .ref (sv_r G c' j1)), (1, .ref (sv_r G c' j2))]) rfl ?_
  refine sv_iconst (v := nI 0) C dX5_copyRow_0 (by decide) ?_
  refine sv_istore_n (i := 2) C [(0, .ref (sv_r G c' j1)), (1, .ref (sv_r G c' j2)), (2, .int (nI 0))] dX5_copyRow_1 rfl (by decide) rfl ?_
  refine sv_wd (sv_eqW (sv_ui _ j2).symm) ?_
  refine sv_loop (N := sv_n c') (I := fun _ => True) (Wf := fun i => sv_W G z (sv_u M j2 (cpR c' i (M j1) (M j2))) o) (Lf := fun i => [(0, .ref (sv_r G c' j1)), (1, .ref (sv_r G c' j2)), (2, .int (nI i))]) 0 (Nat.zero_le _) trivial (fun i hi0 hi hI ih => ?_)
  refine sv_iload_n (i := 2) (x := nI i) C dX5_copyRow_2 rfl rfl ?_
  refine sv_aload_n (i := 0) (x := sv_r G c' j1) C dX5_copyRow_3 rfl rfl ?_
  refine sv_alen (v := nI (sv_n c')) C (sv_okj hc h1) hir rfl dX5_copyRow_4 ?_
  refine sv_icmp_geN C 26 dX5_copyRow_5 (by decide) (by omega) (by omega) (fun q5 => ?_) (fun q5 => ?_)
  · exact sv_vret C hr dX5_copyRow_26 (Nat.le_of_ble_eq_true rfl) (Nat.le_of_ble_eq_true rfl) (sv_eqW (by rw [show i = sv_n c' from by omega]))
  · refine sv_iload_n (i := 2) (x := nI i) C dX5_copyRow_8 rfl rfl ?_
    refine sv_aload_n (i := 1) (x := sv_r G c' j2) C dX5_copyRow_9 rfl rfl ?_
    refine sv_alen (v := nI (sv_n c')) C (sv_okj hc h2) hir rfl dX5_copyRow_10 ?_
    refine sv_icmp_geN C 26 dX5_copyRow_11 (by decide) (by omega) (by omega) (fun q11 => ?_) (fun q11 => ?_)
    · exact absurd q11 (by omega)
    · refine sv_aload_n (i := 1) (x := sv_r G c' j2) C dX5_copyRow_14 rfl rfl ?_
      refine sv_iload_n (i := 2) (x := nI i) C dX5_copyRow_15 rfl rfl ?_
      refine sv_aload_n (i := 0) (x := sv_r G c' j1) C dX5_copyRow_16 rfl rfl ?_
      refine sv_iload_n (i := 2) (x := nI i) C dX5_copyRow_17 rfl rfl ?_
      refine sv_ialdN C (sv_q c' j1) (sv_i c' i) rfl rfl (sv_okj hc h1) hir (by omega) dX5_copyRow_18 ?_
      refine sv_topi (fun v18 e18 => ?_)
      refine sv_iastN C (sv_q c' j2) (sv_i c' i) rfl rfl (sv_okj hc h2) hir (by omega) dX5_copyRow_19 ?_
      refine sv_iinc (i := 2) (x := nI i) C (nI (i + 1)) [(0, .ref (sv_r G c' j1)), (1, .ref (sv_r G c' j2)), (2, .int (nI (i + 1)))] dX5_copyRow_20 rfl (sv_incN i 1) (by decide) rfl ?_
      refine sv_goto C 2 dX5_copyRow_23 (by decide) ?_
      refine sv_wd (sv_eqW ?_) (ih (by omega) trivial)
      rw [sv_wu, sv_q14 hc, sv_us, sv_uu, e18, sv_q14 hc, sv_un hne]
      rfl

theorem nI_one : nI 1 = 1 := rfl
theorem sw_pp {T : Int32} {f : Nat} {x : vX} {v : Int32} (e : v = x (6 * f + 9)) (h1 : T ≤ v) (h2 : v = 0) : sw T f x = upd x (6 * f + 14) (x (6 * f + 14) + 1) := by
  subst e; unfold sw; rw [if_pos h1, if_pos h2]
theorem sw_pn {T : Int32} {f : Nat} {x : vX} {v : Int32} (e : v = x (6 * f + 9)) (h1 : T ≤ v) (h2 : ¬ v = 0) : sw T f x = x := by
  subst e; unfold sw; rw [if_pos h1, if_neg h2]
theorem sw_np {T : Int32} {f : Nat} {x : vX} {v : Int32} (e : v = x (6 * f + 9)) (h1 : ¬ T ≤ v) (h2 : v = 0) : sw T f x = upd (upd x (6 * f + 14) (x (6 * f + 14) + 1)) (6 * f + 9) T := by
  subst e; unfold sw; rw [if_neg h1, if_pos h2]
theorem sw_nn {T : Int32} {f : Nat} {x : vX} {v : Int32} (e : v = x (6 * f + 9)) (h1 : ¬ T ≤ v) (h2 : ¬ v = 0) : sw T f x = upd x (6 * f + 9) T := by
  subst e; unfold sw; rw [if_neg h1, if_neg h2]
set_option maxHeartbeats 4000000 in
set_option maxRecDepth 100000 in
theorem met_letBurn (l : Launch) (G : sv_G) (z : Nat) (M : sv_M) (o : Int64) (j f : Nat) (hj : j < 8) (hf : f < 8) (T : Int32) : sv_Met l G yX0_letBurn cX0_letBurn 4 none 2 [.ref (sv_r G 1 j), .int (nI f), .int T] (sv_W G z M o) none (sv_W G z (sv_u M j (sw T f (M j))) o) := by
  refine sv_ofW (by decide) kw_385 (Nat.le_of_ble_eq_true rfl) ?_
  intro p e s mth args below meth c hr C _
  refine sv_sub (lv' := [(0, .ref (sv_r G 1 j)), (1, .int (nI f)), (2, .int T)]) rfl ?_
  refine sv_aload_n (i := 0) (x := sv_r G 1 j) C dX0_letBurn_0 rfl rfl ?_
  refine sv_get_0_0 C hj kw_41 dX0_letBurn_1 ?_
  refine sv_iload_n (i := 1) (x := nI f) C dX0_letBurn_4 rfl rfl ?_
  refine sv_callN (as := [_, _]) (rest := []) C (met_atN j (6 * f + 9) rfl rfl (sv_okj (by decide) hj) rfl (by show _ < 8; omega)) fX5_at (host := "StairLight") kn_RX0_34 ⟨Nat.le_of_ble_eq_true rfl, Nat.le_of_ble_eq_true rfl⟩ (Nat.le_of_ble_eq_true rfl) dX0_letBurn_5 ⟨Nat.zero_le _, Nat.zero_le _⟩  ?_
  refine sv_ri (fun v5 e5 => ?_)
  refine sv_istore_n (i := 3) C [(0, .ref (sv_r G 1 j)), (1, .int (nI f)), (2, .int T), (3, .int v5)] dX0_letBurn_8 rfl (by decide) rfl ?_
  refine sv_iload_n (i := 3) (x := v5) C dX0_letBurn_9 rfl rfl ?_
  refine sv_if_ne C 22 dX0_letBurn_10 (by decide) (fun q10 => ?_) (fun q10 => ?_)
  · refine sv_iload_n (i := 3) (x := v5) C dX0_letBurn_22 rfl rfl ?_
    refine sv_iload_n (i := 2) (x := T) C dX0_letBurn_23 rfl rfl ?_
    refine sv_icmp_ge C 36 dX0_letBurn_24 (by decide) (fun q24 => ?_) (fun q24 => ?_)
    · exact sv_vret C hr dX0_letBurn_36 (Nat.le_of_ble_eq_true rfl) (Nat.le_of_ble_eq_true rfl) (sv_eqW (by rw [sw_pn e5 q24 q10, sv_ui]))
    · refine sv_aload_n (i := 0) (x := sv_r G 1 j) C dX0_letBurn_27 rfl rfl ?_
      refine sv_get_0_0 C hj kw_41 dX0_letBurn_28 ?_
      refine sv_iload_n (i := 1) (x := nI f) C dX0_letBurn_31 rfl rfl ?_
      refine sv_iload_n (i := 2) (x := T) C dX0_letBurn_32 rfl rfl ?_
      refine sv_callN (as := [_, _, _]) (rest := []) C (met_putN j (6 * f + 9) rfl rfl (sv_okj (by decide) hj) rfl (by show _ < 8; omega)) fX5_put (host := "StairLight") kn_RX0_42 ⟨Nat.le_of_ble_eq_true rfl, Nat.le_of_ble_eq_true rfl⟩ (Nat.le_of_ble_eq_true rfl) dX0_letBurn_33 ⟨Nat.zero_le _, Nat.zero_le _⟩  ?_
      refine sv_rv ?_
      exact sv_vret C hr dX0_letBurn_36 (Nat.le_of_ble_eq_true rfl) (Nat.le_of_ble_eq_true rfl) (sv_eqW (by rw [sw_nn e5 q24 q10, sv_wu]))
  · refine sv_aload_n (i := 0) (x := sv_r G 1 j) C dX0_letBurn_13 rfl rfl ?_
    refine sv_get_0_5 C hj kw_56 dX0_letBurn_14 ?_
    refine sv_iload_n (i := 1) (x := nI f) C dX0_letBurn_17 rfl rfl ?_
    refine sv_iconst (v := nI 1) C dX0_letBurn_18 (by decide) ?_
    refine sv_callN (as := [_, _, _]) (rest := []) C (met_raiseN j (6 * f + 14) rfl rfl (sv_okj (by decide) hj) rfl (by show _ < 8; omega)) fX5_raise (host := "StairLight") kn_RX0_38 ⟨Nat.le_of_ble_eq_true rfl, Nat.le_of_ble_eq_true rfl⟩ (Nat.le_of_ble_eq_true rfl) dX0_letBurn_19 ⟨Nat.zero_le _, Nat.zero_le _⟩  ?_
    refine sv_rv ?_
    refine sv_iload_n (i := 3) (x := v5) C dX0_letBurn_22 rfl rfl ?_
    refine sv_iload_n (i := 2) (x := T) C dX0_letBurn_23 rfl rfl ?_
    refine sv_icmp_ge C 36 dX0_letBurn_24 (by decide) (fun q24 => ?_) (fun q24 => ?_)
    · exact sv_vret C hr dX0_letBurn_36 (Nat.le_of_ble_eq_true rfl) (Nat.le_of_ble_eq_true rfl) (sv_eqW (by rw [sw_pp e5 q24 q10, sv_wu, nI_one]))
    · refine sv_aload_n (i := 0) (x := sv_r G 1 j) C dX0_letBurn_27 rfl rfl ?_
      refine sv_get_0_0 C hj kw_41 dX0_letBurn_28 ?_
      refine sv_iload_n (i := 1) (x := nI f) C dX0_letBurn_31 rfl rfl ?_
      refine sv_iload_n (i := 2) (x := T) C dX0_letBurn_32 rfl rfl ?_
      refine sv_callN (as := [_, _, _]) (rest := []) C (met_putN j (6 * f + 9) rfl rfl (sv_okj (by decide) hj) rfl (by show _ < 8; omega)) fX5_put (host := "StairLight") kn_RX0_42 ⟨Nat.le_of_ble_eq_true rfl, Nat.le_of_ble_eq_true rfl⟩ (Nat.le_of_ble_eq_true rfl) dX0_letBurn_33 ⟨Nat.zero_le _, Nat.zero_le _⟩  ?_
      refine sv_rv ?_
      exact sv_vret C hr dX0_letBurn_36 (Nat.le_of_ble_eq_true rfl) (Nat.le_of_ble_eq_true rfl) (sv_eqW (by rw [sw_np e5 q24 q10, sv_wu, sv_wu, sv_us, sv_uu, nI_one]))

theorem cAt_o {M : sv_M} {c j : Nat} {i : Int32} (h : i < 0 ∨ nI (sv_n c) ≤ i) : cAt M c j i = 0 := if_pos h
theorem cPut_o {M : sv_M} {c j : Nat} {i v : Int32} (h : i < 0 ∨ nI (sv_n c) ≤ i) : cPut M c j i v = M := if_pos h
set_option maxHeartbeats 4000000 in
set_option maxRecDepth 100000 in
theorem met_letBurnO (l : Launch) (G : sv_G) (z : Nat) (M : sv_M) (o : Int64) (j : Nat) (hj : j < 8) (f T : Int32) (hf : f < 0 ∨ nI 8 ≤ f) : sv_Met l G yX0_letBurn cX0_letBurn 4 none 2 [.ref (sv_r G 1 j), .int f, .int T] (sv_W G z M o) none (sv_W G z M o) := by
  refine sv_ofW (by decide) kw_385 (Nat.le_of_ble_eq_true rfl) ?_
  intro p e s mth args below meth c hr C _
  refine sv_sub (lv' := [(0, .ref (sv_r G 1 j)), (1, .int f), (2, .int T)]) rfl ?_
  refine sv_aload_n (i := 0) (x := sv_r G 1 j) C dX0_letBurn_0 rfl rfl ?_
  refine sv_get_0_0 C hj kw_41 dX0_letBurn_1 ?_
  refine sv_iload_n (i := 1) (x := f) C dX0_letBurn_4 rfl rfl ?_
  refine sv_callN (as := [_, _]) (rest := []) C (met_at l G _ _ _ 2 j (sv_okj (by decide) hj) rfl f) fX5_at (host := "StairLight") kn_RX0_34 ⟨Nat.le_of_ble_eq_true rfl, Nat.le_of_ble_eq_true rfl⟩ (Nat.le_of_ble_eq_true rfl) dX0_letBurn_5 ⟨Nat.zero_le _, Nat.zero_le _⟩  ?_
  refine sv_ri (fun v5 e5 => ?_)
  refine sv_istore_n (i := 3) C [(0, .ref (sv_r G 1 j)), (1, .int f), (2, .int T), (3, .int v5)] dX0_letBurn_8 rfl (by decide) rfl ?_
  refine sv_iload_n (i := 3) (x := v5) C dX0_letBurn_9 rfl rfl ?_
  refine sv_if_ne C 22 dX0_letBurn_10 (by decide) (fun q10 => ?_) (fun q10 => ?_)
  · exact absurd (e5.trans (cAt_o (show f < 0 ∨ nI (sv_n 2) ≤ f from hf))) q10
  · refine sv_aload_n (i := 0) (x := sv_r G 1 j) C dX0_letBurn_13 rfl rfl ?_
    refine sv_get_0_5 C hj kw_56 dX0_letBurn_14 ?_
    refine sv_iload_n (i := 1) (x := f) C dX0_letBurn_17 rfl rfl ?_
    refine sv_iconst (v := nI 1) C dX0_letBurn_18 (by decide) ?_
    refine sv_callN (as := [_, _, _]) (rest := []) C (met_raise l G _ _ _ 7 j (sv_okj (by decide) hj) rfl f (nI 1)) fX5_raise (host := "StairLight") kn_RX0_38 ⟨Nat.le_of_ble_eq_true rfl, Nat.le_of_ble_eq_true rfl⟩ (Nat.le_of_ble_eq_true rfl) dX0_letBurn_19 ⟨Nat.zero_le _, Nat.zero_le _⟩  ?_
    refine sv_rv ?_
    refine sv_iload_n (i := 3) (x := v5) C dX0_letBurn_22 rfl rfl ?_
    refine sv_iload_n (i := 2) (x := T) C dX0_letBurn_23 rfl rfl ?_
    refine sv_icmp_ge C 36 dX0_letBurn_24 (by decide) (fun q24 => ?_) (fun q24 => ?_)
    · exact sv_vret C hr dX0_letBurn_36 (Nat.le_of_ble_eq_true rfl) (Nat.le_of_ble_eq_true rfl) (sv_eqW (by rw [cPut_o (c := 7) hf]))
    · refine sv_aload_n (i := 0) (x := sv_r G 1 j) C dX0_letBurn_27 rfl rfl ?_
      refine sv_get_0_0 C hj kw_41 dX0_letBurn_28 ?_
      refine sv_iload_n (i := 1) (x := f) C dX0_letBurn_31 rfl rfl ?_
      refine sv_iload_n (i := 2) (x := T) C dX0_letBurn_32 rfl rfl ?_
      refine sv_callN (as := [_, _, _]) (rest := []) C (met_put l G _ _ _ 2 j (sv_okj (by decide) hj) rfl f T) fX5_put (host := "StairLight") kn_RX0_42 ⟨Nat.le_of_ble_eq_true rfl, Nat.le_of_ble_eq_true rfl⟩ (Nat.le_of_ble_eq_true rfl) dX0_letBurn_33 ⟨Nat.zero_le _, Nat.zero_le _⟩  ?_
      refine sv_rv ?_
      exact sv_vret C hr dX0_letBurn_36 (Nat.le_of_ble_eq_true rfl) (Nat.le_of_ble_eq_true rfl) (sv_eqW (by rw [cPut_o (c := 2) hf, cPut_o (c := 7) hf]))

theorem bdn_p {f : Nat} {x : vX} {v : Int32} (e : v = x (6 * f + 9)) (h : v ≤ 0) : bdn f x = x := by subst e; exact if_pos h
theorem bdn_n {f : Nat} {x : vX} {v : Int32} (e : v = x (6 * f + 9)) (h : ¬ v ≤ 0) : bdn f x = upd x (6 * f + 9) (x (6 * f + 9) + (-1)) := by subst e; exact if_neg h
set_option maxHeartbeats 4000000 in
set_option maxRecDepth 100000 in
theorem met_burnDown (l : Launch) (G : sv_G) (z : Nat) (M : sv_M) (o : Int64) (j f : Nat) (hj : j < 8) (hf : f < 8) : sv_Met l G yX0_burnDown cX0_burnDown 2 none 2 [.ref (sv_r G 1 j), .int (nI f)] (sv_W G z M o) none (sv_W G z (sv_u M j (bdn f (M j))) o) := by
  refine sv_ofW (by decide) kw_404 (Nat.le_of_ble_eq_true rfl) ?_
  intro p e s mth args below meth c hr C _
  refine sv_sub (lv' := [(0, .ref (sv_r G 1 j)), (1, .int (nI f))]) rfl ?_
  refine sv_aload_n (i := 0) (x := sv_r G 1 j) C dX0_burnDown_0 rfl rfl ?_
  refine sv_get_0_0 C hj kw_41 dX0_burnDown_1 ?_
  refine sv_iload_n (i := 1) (x := nI f) C dX0_burnDown_4 rfl rfl ?_
  refine sv_callN (as := [_, _]) (rest := []) C (met_atN j (6 * f + 9) rfl rfl (sv_okj (by decide) hj) rfl (by show _ < 8; omega)) fX5_at (host := "StairLight") kn_RX0_34 ⟨Nat.le_of_ble_eq_true rfl, Nat.le_of_ble_eq_true rfl⟩ (Nat.le_of_ble_eq_true rfl) dX0_burnDown_5 ⟨Nat.zero_le _, Nat.zero_le _⟩  ?_
  refine sv_ri (fun v5 e5 => ?_)
  refine sv_if_le C 20 dX0_burnDown_8 (by decide) (fun q8 => ?_) (fun q8 => ?_)
  · exact sv_vret C hr dX0_burnDown_20 (Nat.le_of_ble_eq_true rfl) (Nat.le_of_ble_eq_true rfl) (sv_eqW (by rw [bdn_p e5 q8, sv_ui]))
  · refine sv_aload_n (i := 0) (x := sv_r G 1 j) C dX0_burnDown_11 rfl rfl ?_
    refine sv_get_0_0 C hj kw_41 dX0_burnDown_12 ?_
    refine sv_iload_n (i := 1) (x := nI f) C dX0_burnDown_15 rfl rfl ?_
    refine sv_iconst (v := (-1)) C dX0_burnDown_16 (by decide) ?_
    refine sv_callN (as := [_, _, _]) (rest := []) C (met_raiseN j (6 * f + 9) rfl rfl (sv_okj (by decide) hj) rfl (by show _ < 8; omega)) fX5_raise (host := "StairLight") kn_RX0_38 ⟨Nat.le_of_ble_eq_true rfl, Nat.le_of_ble_eq_true rfl⟩ (Nat.le_of_ble_eq_true rfl) dX0_burnDown_17 ⟨Nat.zero_le _, Nat.zero_le _⟩  ?_
    refine sv_rv ?_
    exact sv_vret C hr dX0_burnDown_20 (Nat.le_of_ble_eq_true rfl) (Nat.le_of_ble_eq_true rfl) (sv_eqW (by rw [bdn_n e5 q8, sv_wu]))

