set_option maxHeartbeats 4000000 in
set_option maxRecDepth 100000 in
theorem met_at (l : Launch) (G : sv_G) (z : Nat) (M : sv_M) (o : Int64) (c' j : Nat) (hok : sv_ok c' j = true) (hir : sv_ir c' = true) (i : Int32) : sv_Met l G yX5_at cX5_at 2 (some .int) 0 [.ref (sv_r G c' j), .int i] (sv_W G z M o) (some (.int (cAt M c' j i))) (sv_W G z M o) := by
  refine sv_ofW (by decide) kw_287 (Nat.le_of_ble_eq_true rfl) ?_
  intro p e s mth args below meth c hr C _
  refine sv_sub (lv' := [(0, .ref (sv_r G c' j)), (1, .int i)]) rfl ?_
  refine sv_iload_n (i := 1) (x := i) C dX5_at_0 rfl rfl ?_
  refine sv_if_lt C 16 dX5_at_1 (by decide) (fun q1 => ?_) (fun q1 => ?_)
  · refine sv_iconst (v := nI 0) C dX5_at_16 (by decide) ?_
    exact sv_iret C hr dX5_at_17 (Nat.le_of_ble_eq_true rfl) (Nat.le_of_ble_eq_true rfl) (by unfold cAt; first | rw [if_pos (Or.inl q1)]; rfl | rw [if_pos (Or.inr q7)]; rfl) (fun _ h => h)
  · refine sv_iload_n (i := 1) (x := i) C dX5_at_4 rfl rfl ?_
    refine sv_aload_n (i := 0) (x := sv_r G c' j) C dX5_at_5 rfl rfl ?_
    refine sv_alen (v := nI (sv_n c')) C hok hir rfl dX5_at_6 ?_
    refine sv_icmp_ge C 16 dX5_at_7 (by decide) (fun q7 => ?_) (fun q7 => ?_)
    · refine sv_iconst (v := nI 0) C dX5_at_16 (by decide) ?_
      exact sv_iret C hr dX5_at_17 (Nat.le_of_ble_eq_true rfl) (Nat.le_of_ble_eq_true rfl) (by unfold cAt; first | rw [if_pos (Or.inl q1)]; rfl | rw [if_pos (Or.inr q7)]; rfl) (fun _ h => h)
    · refine sv_aload_n (i := 0) (x := sv_r G c' j) C dX5_at_10 rfl rfl ?_
      refine sv_iload_n (i := 1) (x := i) C dX5_at_11 rfl rfl ?_
      refine sv_iald C hok hir (sv_vpin q1 q7 (sv_nlt _)) dX5_at_12 ?_
      refine sv_topi (fun v12 e12 => ?_)
      refine sv_goto C 17 dX5_at_13 (by decide) ?_
      exact sv_iret C hr dX5_at_17 (Nat.le_of_ble_eq_true rfl) (Nat.le_of_ble_eq_true rfl) (by rw [e12]; unfold cAt; rw [if_neg (fun h => h.elim q1 q7)]) (fun _ h => h)

theorem met_atN {l : Launch} {G : sv_G} {z : Nat} {M : sv_M} {o : Int64} {c' j i : Nat} (q p' : Nat) (hq : sv_q c' j = q) (hp : sv_i c' i = p') (hok : sv_ok c' j = true) (hir : sv_ir c' = true) (h : i < sv_n c') : sv_Met l G yX5_at cX5_at 2 (some .int) 0 [.ref (sv_r G c' j), .int (nI i)] (sv_W G z M o) (some (.int (M q p'))) (sv_W G z M o) := by
  have h9 := met_at l G z M o c' j hok hir (nI i)
  rw [cAt_N h, hq, hp] at h9
  exact h9
set_option maxHeartbeats 4000000 in
set_option maxRecDepth 100000 in
theorem met_atS0 (l : Launch) (G : sv_G) (Wd : Heap → Prop) (i : Nat) (hi : i < 4) : sv_Met l G yX5_at cX5_at 2 (some .int) 0 [.ref G.2.2.2.1, .int (nI i)] Wd (some (.int (sv_F 0 i))) Wd := by
  refine sv_ofW (by decide) kw_287 (Nat.le_of_ble_eq_true rfl) ?_
  intro p e s mth args below meth c hr C _
  refine sv_sub (lv' := [(0, .ref G.2.2.2.1), (1, .int (nI i))]) rfl ?_
  refine sv_iload_n (i := 1) (x := nI i) C dX5_at_0 rfl rfl ?_
  refine sv_if_lt C 16 dX5_at_1 (by decide) (fun q1 => ?_) (fun q1 => ?_)
  · exact absurd q1 (nI_pos (by omega))
  · refine sv_iload_n (i := 1) (x := nI i) C dX5_at_4 rfl rfl ?_
    refine sv_aload_n (i := 0) (x := G.2.2.2.1) C dX5_at_5 rfl rfl ?_
    refine sv_salen0 C dX5_at_6 ?_
    refine sv_icmp_geN C 16 dX5_at_7 (by decide) (by omega) (by omega) (fun q7 => ?_) (fun q7 => ?_)
    · exact absurd q7 (by omega)
    · refine sv_aload_n (i := 0) (x := G.2.2.2.1) C dX5_at_10 rfl rfl ?_
      refine sv_iload_n (i := 1) (x := nI i) C dX5_at_11 rfl rfl ?_
      refine sv_sald0 C (vp_in_nI hi (by decide)) dX5_at_12 ?_
      refine sv_topi (fun v12 e12 => ?_)
      refine sv_goto C 17 dX5_at_13 (by decide) ?_
      exact sv_iret C hr dX5_at_17 (Nat.le_of_ble_eq_true rfl) (Nat.le_of_ble_eq_true rfl) (by rw [e12, nI_clamp (by omega)]) (fun _ h => h)

set_option maxHeartbeats 4000000 in
set_option maxRecDepth 100000 in
theorem met_atS1 (l : Launch) (G : sv_G) (Wd : Heap → Prop) (i : Nat) (hi : i < 4) : sv_Met l G yX5_at cX5_at 2 (some .int) 0 [.ref G.2.2.2.2.1, .int (nI i)] Wd (some (.int (sv_F 1 i))) Wd := by
  refine sv_ofW (by decide) kw_287 (Nat.le_of_ble_eq_true rfl) ?_
  intro p e s mth args below meth c hr C _
  refine sv_sub (lv' := [(0, .ref G.2.2.2.2.1), (1, .int (nI i))]) rfl ?_
  refine sv_iload_n (i := 1) (x := nI i) C dX5_at_0 rfl rfl ?_
  refine sv_if_lt C 16 dX5_at_1 (by decide) (fun q1 => ?_) (fun q1 => ?_)
  · exact absurd q1 (nI_pos (by omega))
  · refine sv_iload_n (i := 1) (x := nI i) C dX5_at_4 rfl rfl ?_
    refine sv_aload_n (i := 0) (x := G.2.2.2.2.1) C dX5_at_5 rfl rfl ?_
    refine sv_salen1 C dX5_at_6 ?_
    refine sv_icmp_geN C 16 dX5_at_7 (by decide) (by omega) (by omega) (fun q7 => ?_) (fun q7 => ?_)
    · exact absurd q7 (by omega)
    · refine sv_aload_n (i := 0) (x := G.2.2.2.2.1) C dX5_at_10 rfl rfl ?_
      refine sv_iload_n (i := 1) (x := nI i) C dX5_at_11 rfl rfl ?_
      refine sv_sald1 C (vp_in_nI hi (by decide)) dX5_at_12 ?_
      refine sv_topi (fun v12 e12 => ?_)
      refine sv_goto C 17 dX5_at_13 (by decide) ?_
      exact sv_iret C hr dX5_at_17 (Nat.le_of_ble_eq_true rfl) (Nat.le_of_ble_eq_true rfl) (by rw [e12, nI_clamp (by omega)]) (fun _ h => h)

set_option maxHeartbeats 4000000 in
set_option maxRecDepth 100000 in
theorem met_atS2 (l : Launch) (G : sv_G) (Wd : Heap → Prop) (i : Nat) (hi : i < 4) : sv_Met l G yX5_at cX5_at 2 (some .int) 0 [.ref G.2.2.2.2.2, .int (nI i)] Wd (some (.int (sv_F 2 i))) Wd := by
  refine sv_ofW (by decide) kw_287 (Nat.le_of_ble_eq_true rfl) ?_
  intro p e s mth args below meth c hr C _
  refine sv_sub (lv' := [(0, .ref G.2.2.2.2.2), (1, .int (nI i))]) rfl ?_
  refine sv_iload_n (i := 1) (x := nI i) C dX5_at_0 rfl rfl ?_
  refine sv_if_lt C 16 dX5_at_1 (by decide) (fun q1 => ?_) (fun q1 => ?_)
  · exact absurd q1 (nI_pos (by omega))
  · refine sv_iload_n (i := 1) (x := nI i) C dX5_at_4 rfl rfl ?_
    refine sv_aload_n (i := 0) (x := G.2.2.2.2.2) C dX5_at_5 rfl rfl ?_
    refine sv_salen2 C dX5_at_6 ?_
    refine sv_icmp_geN C 16 dX5_at_7 (by decide) (by omega) (by omega) (fun q7 => ?_) (fun q7 => ?_)
    · exact absurd q7 (by omega)
    · refine sv_aload_n (i := 0) (x := G.2.2.2.2.2) C dX5_at_10 rfl rfl ?_
      refine sv_iload_n (i := 1) (x := nI i) C dX5_at_11 rfl rfl ?_
      refine sv_sald2 C (vp_in_nI hi (by decide)) dX5_at_12 ?_
      refine sv_topi (fun v12 e12 => ?_)
      refine sv_goto C 17 dX5_at_13 (by decide) ?_
      exact sv_iret C hr dX5_at_17 (Nat.le_of_ble_eq_true rfl) (Nat.le_of_ble_eq_true rfl) (by rw [e12, nI_clamp (by omega)]) (fun _ h => h)

set_option maxHeartbeats 4000000 in
set_option maxRecDepth 100000 in
theorem met_put (l : Launch) (G : sv_G) (z : Nat) (M : sv_M) (o : Int64) (c' j : Nat) (hok : sv_ok c' j = true) (hir : sv_ir c' = true) (i v : Int32) : sv_Met l G yX5_put cX5_put 3 none 0 [.ref (sv_r G c' j), .int i, .int v] (sv_W G z M o) none (sv_W G z (cPut M c' j i v) o) := by
  refine sv_ofW (by decide) kw_373 (Nat.le_of_ble_eq_true rfl) ?_
  intro p e s mth args below meth c hr C _
  refine sv_sub (lv' := [(0, .ref (sv_r G c' j)), (1, .int i), (2, .int v)]) rfl ?_
  refine sv_iload_n (i := 1) (x := i) C dX5_put_0 rfl rfl ?_
  refine sv_if_lt C 14 dX5_put_1 (by decide) (fun q1 => ?_) (fun q1 => ?_)
  · exact sv_vret C hr dX5_put_14 (Nat.le_of_ble_eq_true rfl) (Nat.le_of_ble_eq_true rfl) (sv_eqW (by unfold cPut; rw [if_pos (Or.inl q1)]))
  · refine sv_iload_n (i := 1) (x := i) C dX5_put_4 rfl rfl ?_
    refine sv_aload_n (i := 0) (x := sv_r G c' j) C dX5_put_5 rfl rfl ?_
    refine sv_alen (v := nI (sv_n c')) C hok hir rfl dX5_put_6 ?_
    refine sv_icmp_ge C 14 dX5_put_7 (by decide) (fun q7 => ?_) (fun q7 => ?_)
    · exact sv_vret C hr dX5_put_14 (Nat.le_of_ble_eq_true rfl) (Nat.le_of_ble_eq_true rfl) (sv_eqW (by unfold cPut; rw [if_pos (Or.inr q7)]))
    · refine sv_aload_n (i := 0) (x := sv_r G c' j) C dX5_put_10 rfl rfl ?_
      refine sv_iload_n (i := 1) (x := i) C dX5_put_11 rfl rfl ?_
      refine sv_iload_n (i := 2) (x := v) C dX5_put_12 rfl rfl ?_
      refine sv_iast C hok hir (sv_vpin q1 q7 (sv_nlt _)) dX5_put_13 ?_
      exact sv_vret C hr dX5_put_14 (Nat.le_of_ble_eq_true rfl) (Nat.le_of_ble_eq_true rfl) (sv_eqW (by unfold cPut; rw [if_neg (fun h => h.elim q1 q7)]))

theorem met_putN {l : Launch} {G : sv_G} {z : Nat} {M : sv_M} {o : Int64} {c' j i : Nat} {v : Int32} (q p' : Nat) (hq : sv_q c' j = q) (hp : sv_i c' i = p') (hok : sv_ok c' j = true) (hir : sv_ir c' = true) (h : i < sv_n c') : sv_Met l G yX5_put cX5_put 3 none 0 [.ref (sv_r G c' j), .int (nI i), .int v] (sv_W G z M o) none (sv_W G z (sv_w M q p' v) o) := by
  have h9 := met_put l G z M o c' j hok hir (nI i) v
  rw [cPut_N h, hq, hp] at h9
  exact h9
set_option maxHeartbeats 4000000 in
set_option maxRecDepth 100000 in
theorem met_raise (l : Launch) (G : sv_G) (z : Nat) (M : sv_M) (o : Int64) (c' j : Nat) (hok : sv_ok c' j = true) (hir : sv_ir c' = true) (i v : Int32) : sv_Met l G yX5_raise cX5_raise 3 none 1 [.ref (sv_r G c' j), .int i, .int v] (sv_W G z M o) none (sv_W G z (cPut M c' j i (cAt M c' j i + v)) o) := by
  refine sv_ofW (by decide) kw_370 (Nat.le_of_ble_eq_true rfl) ?_
  intro p e s mth args below meth c hr C _
  refine sv_sub (lv' := [(0, .ref (sv_r G c' j)), (1, .int i), (2, .int v)]) rfl ?_
  refine sv_iload_n (i := 1) (x := i) C dX5_raise_0 rfl rfl ?_
  refine sv_if_lt C 17 dX5_raise_1 (by decide) (fun q1 => ?_) (fun q1 => ?_)
  · exact sv_vret C hr dX5_raise_17 (Nat.le_of_ble_eq_true rfl) (Nat.le_of_ble_eq_true rfl) (sv_eqW (by unfold cPut; rw [if_pos (Or.inl q1)]))
  · refine sv_iload_n (i := 1) (x := i) C dX5_raise_4 rfl rfl ?_
    refine sv_aload_n (i := 0) (x := sv_r G c' j) C dX5_raise_5 rfl rfl ?_
    refine sv_alen (v := nI (sv_n c')) C hok hir rfl dX5_raise_6 ?_
    refine sv_icmp_ge C 17 dX5_raise_7 (by decide) (fun q7 => ?_) (fun q7 => ?_)
    · exact sv_vret C hr dX5_raise_17 (Nat.le_of_ble_eq_true rfl) (Nat.le_of_ble_eq_true rfl) (sv_eqW (by unfold cPut; rw [if_pos (Or.inr q7)]))
    · refine sv_aload_n (i := 0) (x := sv_r G c' j) C dX5_raise_10 rfl rfl ?_
      refine sv_iload_n (i := 1) (x := i) C dX5_raise_11 rfl rfl ?_
      refine sv_dup2_11 C dX5_raise_12 rfl rfl ?_
      refine sv_iald C hok hir (sv_vpin q1 q7 (sv_nlt _)) dX5_raise_13 ?_
      refine sv_topi (fun v13 e13 => ?_)
      refine sv_iload_n (i := 2) (x := v) C dX5_raise_14 rfl rfl ?_
      refine sv_iadd C dX5_raise_15 ?_
      refine sv_topi (fun v15 e15 => ?_)
      refine sv_iast C hok hir (sv_vpin q1 q7 (sv_nlt _)) dX5_raise_16 ?_
      exact sv_vret C hr dX5_raise_17 (Nat.le_of_ble_eq_true rfl) (Nat.le_of_ble_eq_true rfl) (sv_eqW (by rw [e15, e13]; unfold cPut cAt; rw [if_neg (fun h => h.elim q1 q7), if_neg (fun h => h.elim q1 q7)]))

theorem met_raiseN {l : Launch} {G : sv_G} {z : Nat} {M : sv_M} {o : Int64} {c' j i : Nat} {v : Int32} (q p' : Nat) (hq : sv_q c' j = q) (hp : sv_i c' i = p') (hok : sv_ok c' j = true) (hir : sv_ir c' = true) (h : i < sv_n c') : sv_Met l G yX5_raise cX5_raise 3 none 1 [.ref (sv_r G c' j), .int (nI i), .int v] (sv_W G z M o) none (sv_W G z (sv_w M q p' (M q p' + v)) o) := by
  have h9 := met_raise l G z M o c' j hok hir (nI i) v
  rw [cPut_N h, cAt_N h, hq, hp] at h9
  exact h9
