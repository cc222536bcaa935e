set_option maxHeartbeats 4000000 in
set_option maxRecDepth 100000 in
theorem met_mixed (l : Launch) (G : sv_G) (Wd : Heap → Prop) (x y : Int64) : sv_Met l G yX5_mixed cX5_mixed 4 (some .long) 0 [.long x, .long y] Wd (some (.long (31 * x + y))) Wd := by
  refine sv_ofW (by decide) kw_330 (Nat.le_of_ble_eq_true rfl) ?_
  intro p e s mth args below meth c hr C _
  refine sv_sub (lv' := [(0, .long x), (2, .long y)]) rfl ?_
  refine sv_ldc2 (v := (31)) C dX5_mixed_0 kw_331 ?_
  refine sv_lload_n (i := 0) (x := x) C dX5_mixed_3 rfl rfl ?_
  refine sv_lmul C dX5_mixed_4 ?_
  refine sv_lload_n (i := 2) (x := y) C dX5_mixed_5 rfl rfl ?_
  refine sv_ladd C dX5_mixed_6 ?_
  exact sv_lret C hr dX5_mixed_7 (Nat.le_of_ble_eq_true rfl) (Nat.le_of_ble_eq_true rfl) rfl (fun _ h => h)

set_option maxHeartbeats 4000000 in
set_option maxRecDepth 100000 in
theorem met_mixedWithFloors (l : Launch) (G : sv_G) (z : Nat) (M : sv_M) (o : Int64) (m : Nat) (hm : M 0 57 = nI m) (hm7 : m ≤ 6) (b6 : M 0 6 = 0 ∨ M 0 6 = 1) (b7 : M 0 7 = 0 ∨ M 0 7 = 1) (h : Int64) : sv_Met l G yX5_mixedWithFloors cX5_mixedWithFloors 7 (some .long) 3 [.ref (sv_r G 14 0), .long h] (sv_W G z M o) (some (.long (mxF m (M 0) 8 h))) (sv_W G z M o) := by
  refine sv_ofW (by decide) kw_335 (Nat.le_of_ble_eq_true rfl) ?_
  intro p e s mth args below meth c hr C _
  refine sv_sub (lv' := [(0, .ref (sv_r G 14 0)), (1, .long h)]) rfl ?_
  refine sv_lload_n (i := 1) (x := h) C dX5_mixedWithFloors_0 rfl rfl ?_
  refine sv_lstore_n (i := 3) C [(0, .ref (sv_r G 14 0)), (1, .long h), (3, .long h)] dX5_mixedWithFloors_1 rfl (by decide) rfl ?_
  refine sv_iconst (v := nI 0) C dX5_mixedWithFloors_2 (by decide) ?_
  refine sv_istore (i := 5) C [(0, .ref (sv_r G 14 0)), (1, .long h), (3, .long h), (5, .int (nI 0))] dX5_mixedWithFloors_3 (by decide) rfl ?_
  refine sv_loop (N := 8) (I := fun i => True) (Wf := fun i => sv_W G z M o) (Lf := fun i => [(0, .ref (sv_r G 14 0)), (1, .long h), (3, .long (mxF m (M 0) i h)), (5, .int (nI i))]) 0 (Nat.zero_le _) trivial (fun i hi0 hi hIi ihi => ?_)
  refine sv_iload (i := 5) (x := nI i) C dX5_mixedWithFloors_5 rfl ?_
  refine sv_bipush (v := nI 8) C dX5_mixedWithFloors_7 (by decide) ?_
  refine sv_icmp_geN C 51 dX5_mixedWithFloors_9 (by decide) (by omega) (by omega) (fun q9 => ?_) (fun q9 => ?_)
  · refine sv_lload_n (i := 3) (x := mxF m (M 0) i h) C dX5_mixedWithFloors_51 rfl rfl ?_
    exact sv_lret C hr dX5_mixedWithFloors_52 (Nat.le_of_ble_eq_true rfl) (Nat.le_of_ble_eq_true rfl) (by rw [show i = 8 from by omega]) (fun _ h => h)
  · refine sv_iconst (v := nI 0) C dX5_mixedWithFloors_12 (by decide) ?_
    refine sv_istore (i := 6) C [(0, .ref (sv_r G 14 0)), (1, .long h), (3, .long (mxF m (M 0) i h)), (5, .int (nI i)), (6, .int (nI 0))] dX5_mixedWithFloors_13 (by decide) rfl ?_
    refine sv_loop (N := 8) (I := fun i2 => True) (Wf := fun i2 => sv_W G z M o) (Lf := fun i2 => [(0, .ref (sv_r G 14 0)), (1, .long h), (3, .long (mxI (fun i2 => fnv m (M 0) i i2) i2 (mxF m (M 0) i h))), (5, .int (nI i)), (6, .int (nI i2))]) 0 (Nat.zero_le _) trivial (fun i2 hi20 hi2 hIi2 ihi2 => ?_)
    refine sv_iload (i := 6) (x := nI i2) C dX5_mixedWithFloors_15 rfl ?_
    refine sv_bipush (v := nI 8) C dX5_mixedWithFloors_17 (by decide) ?_
    refine sv_icmp_geN C 45 dX5_mixedWithFloors_19 (by decide) (by omega) (by omega) (fun q19 => ?_) (fun q19 => ?_)
    · refine sv_iinc (i := 5) (x := nI i) C (nI (i + 1)) [(0, .ref (sv_r G 14 0)), (1, .long h), (3, .long (mxI (fun i2 => fnv m (M 0) i i2) i2 (mxF m (M 0) i h))), (5, .int (nI (i + 1))), (6, .int (nI i2))] dX5_mixedWithFloors_45 rfl (sv_incN i 1) (by decide) rfl ?_
      refine sv_goto C 5 dX5_mixedWithFloors_48 (by decide) ?_
      refine sv_sub (lv' := [(0, .ref (sv_r G 14 0)), (1, .long h), (3, .long (mxI (fun i2 => fnv m (M 0) i i2) i2 (mxF m (M 0) i h))), (5, .int (nI (i + 1)))]) rfl ?_
      rw [show i2 = 8 from by omega]
      exact ihi (by omega) trivial
    · refine sv_lload_n (i := 3) (x := mxI (fun i2 => fnv m (M 0) i i2) i2 (mxF m (M 0) i h)) C dX5_mixedWithFloors_22 rfl rfl ?_
      refine sv_aload_n (i := 0) (x := sv_r G 14 0) C dX5_mixedWithFloors_23 rfl rfl ?_
      refine sv_get_5_0 C kw_193 dX5_mixedWithFloors_24 ?_
      refine sv_iload (i := 5) (x := nI i) C dX5_mixedWithFloors_27 rfl ?_
      refine sv_iload (i := 6) (x := nI i2) C dX5_mixedWithFloors_29 rfl ?_
      refine sv_callV (as := [_, _]) (rest := [_]) C (met_floorNumber l G _ _ _ 0 i i2 (by decide) (by omega) (by omega) m hm (by omega) b6 b7) fX3_floorNumber kw_336 (sv_recv0 C (by decide)) ⟨Nat.le_of_ble_eq_true rfl, Nat.le_of_ble_eq_true rfl⟩ (Nat.le_of_ble_eq_true rfl) dX5_mixedWithFloors_31 ⟨Nat.zero_le _, Nat.zero_le _⟩  ?_
      refine sv_riS (fnv m (M 0) i i2) rfl ?_
      refine sv_i2l C dX5_mixedWithFloors_34 ?_
      refine sv_callS (as := [_, _]) (rest := []) C (met_mixed l G _ (mxI (fun i2 => fnv m (M 0) i i2) i2 (mxF m (M 0) i h)) (Int32.toInt64 (fnv m (M 0) i i2))) fX5_mixed kw_328 ⟨Nat.le_of_ble_eq_true rfl, Nat.le_of_ble_eq_true rfl⟩ (Nat.le_of_ble_eq_true rfl) dX5_mixedWithFloors_35 ⟨Nat.zero_le _, Nat.zero_le _⟩  ?_
      refine sv_rlS ?_
      refine sv_lstore_n (i := 3) C [(0, .ref (sv_r G 14 0)), (1, .long h), (3, .long (mxI (fun i2 => fnv m (M 0) i i2) (i2 + 1) (mxF m (M 0) i h))), (5, .int (nI i)), (6, .int (nI i2))] dX5_mixedWithFloors_38 rfl (by decide) rfl ?_
      refine sv_iinc (i := 6) (x := nI i2) C (nI (i2 + 1)) [(0, .ref (sv_r G 14 0)), (1, .long h), (3, .long (mxI (fun i2 => fnv m (M 0) i i2) (i2 + 1) (mxF m (M 0) i h))), (5, .int (nI i)), (6, .int (nI (i2 + 1)))] dX5_mixedWithFloors_39 rfl (sv_incN i2 1) (by decide) rfl ?_
      refine sv_goto C 15 dX5_mixedWithFloors_42 (by decide) ?_
      exact ihi2 (by omega) trivial

set_option maxHeartbeats 4000000 in
set_option maxRecDepth 100000 in
theorem met_mixedWithPeople (l : Launch) (G : sv_G) (z : Nat) (M : sv_M) (o : Int64) (m : Nat) (hm : M 0 57 = nI m) (hm7 : m ≤ 6) (h : Int64) : sv_Met l G yX5_mixedWithPeople cX5_mixedWithPeople 7 (some .long) 2 [.ref (sv_r G 14 0), .long h] (sv_W G z M o) (some (.long (mxP (M 0) m h))) (sv_W G z M o) := by
  refine sv_ofW (by decide) kw_348 (Nat.le_of_ble_eq_true rfl) ?_
  intro p e s mth args below meth c hr C _
  refine sv_sub (lv' := [(0, .ref (sv_r G 14 0)), (1, .long h)]) rfl ?_
  refine sv_lload_n (i := 1) (x := h) C dX5_mixedWithPeople_0 rfl rfl ?_
  refine sv_lstore_n (i := 3) C [(0, .ref (sv_r G 14 0)), (1, .long h), (3, .long h)] dX5_mixedWithPeople_1 rfl (by decide) rfl ?_
  refine sv_iconst (v := nI 0) C dX5_mixedWithPeople_2 (by decide) ?_
  refine sv_istore (i := 5) C [(0, .ref (sv_r G 14 0)), (1, .long h), (3, .long h), (5, .int (nI 0))] dX5_mixedWithPeople_3 (by decide) rfl ?_
  refine sv_loop (N := m) (I := fun i => True) (Wf := fun i => sv_W G z M o) (Lf := fun i => [(0, .ref (sv_r G 14 0)), (1, .long h), (3, .long (mxP (M 0) i h)), (5, .int (nI i))]) 0 (Nat.zero_le _) trivial (fun i hi0 hi hIi ihi => ?_)
  refine sv_iload (i := 5) (x := nI i) C dX5_mixedWithPeople_5 rfl ?_
  refine sv_aload_n (i := 0) (x := sv_r G 14 0) C dX5_mixedWithPeople_7 rfl rfl ?_
  refine sv_get_5_0 C kw_193 dX5_mixedWithPeople_8 ?_
  refine sv_get_3_1 C (by decide) kw_133 dX5_mixedWithPeople_11 ?_
  refine sv_get_2_4 C (by decide) kw_108 dX5_mixedWithPeople_14 ?_
  refine sv_set (v' := .int (nI m)) (congrArg Value.int hm) ?_
  refine sv_icmp_geN C 61 dX5_mixedWithPeople_17 (by decide) (by omega) (by omega) (fun q17 => ?_) (fun q17 => ?_)
  · refine sv_lload_n (i := 3) (x := mxP (M 0) i h) C dX5_mixedWithPeople_61 rfl rfl ?_
    exact sv_lret C hr dX5_mixedWithPeople_62 (Nat.le_of_ble_eq_true rfl) (Nat.le_of_ble_eq_true rfl) (by rw [show i = m from by omega]) (fun _ h => h)
  · refine sv_iconst (v := nI 0) C dX5_mixedWithPeople_20 (by decide) ?_
    refine sv_istore (i := 6) C [(0, .ref (sv_r G 14 0)), (1, .long h), (3, .long (mxP (M 0) i h)), (5, .int (nI i)), (6, .int (nI 0))] dX5_mixedWithPeople_21 (by decide) rfl ?_
    refine sv_loop (N := 4) (I := fun i2 => True) (Wf := fun i2 => sv_W G z M o) (Lf := fun i2 => [(0, .ref (sv_r G 14 0)), (1, .long h), (3, .long (mxI (fun i2 => M 0 (4 * i + 58 + i2)) i2 (mxP (M 0) i h))), (5, .int (nI i)), (6, .int (nI i2))]) 0 (Nat.zero_le _) trivial (fun i2 hi20 hi2 hIi2 ihi2 => ?_)
    refine sv_iload (i := 6) (x := nI i2) C dX5_mixedWithPeople_23 rfl ?_
    refine sv_iconst (v := nI 4) C dX5_mixedWithPeople_25 (by decide) ?_
    refine sv_icmp_geN C 55 dX5_mixedWithPeople_26 (by decide) (by omega) (by omega) (fun q26 => ?_) (fun q26 => ?_)
    · refine sv_iinc (i := 5) (x := nI i) C (nI (i + 1)) [(0, .ref (sv_r G 14 0)), (1, .long h), (3, .long (mxI (fun i2 => M 0 (4 * i + 58 + i2)) i2 (mxP (M 0) i h))), (5, .int (nI (i + 1))), (6, .int (nI i2))] dX5_mixedWithPeople_55 rfl (sv_incN i 1) (by decide) rfl ?_
      refine sv_goto C 5 dX5_mixedWithPeople_58 (by decide) ?_
      refine sv_sub (lv' := [(0, .ref (sv_r G 14 0)), (1, .long h), (3, .long (mxI (fun i2 => M 0 (4 * i + 58 + i2)) i2 (mxP (M 0) i h))), (5, .int (nI (i + 1)))]) rfl ?_
      rw [show i2 = 4 from by omega]
      exact ihi (by omega) trivial
    · refine sv_lload_n (i := 3) (x := mxI (fun i2 => M 0 (4 * i + 58 + i2)) i2 (mxP (M 0) i h)) C dX5_mixedWithPeople_29 rfl rfl ?_
      refine sv_aload_n (i := 0) (x := sv_r G 14 0) C dX5_mixedWithPeople_30 rfl rfl ?_
      refine sv_get_5_0 C kw_193 dX5_mixedWithPeople_31 ?_
      refine sv_get_3_1 C (by decide) kw_133 dX5_mixedWithPeople_34 ?_
      refine sv_iload (i := 5) (x := nI i) C dX5_mixedWithPeople_37 rfl ?_
      refine sv_iload (i := 6) (x := nI i2) C dX5_mixedWithPeople_39 rfl ?_
      refine sv_callV (as := [_, _]) (rest := [_]) C (met_personNumber l G _ _ _ 0 i i2 (by decide) (by omega) (by omega) m hm (by omega)) fX2_personNumber kw_349 (sv_recv8 C (by decide)) ⟨Nat.le_of_ble_eq_true rfl, Nat.le_of_ble_eq_true rfl⟩ (Nat.le_of_ble_eq_true rfl) dX5_mixedWithPeople_41 ⟨Nat.zero_le _, Nat.zero_le _⟩  ?_
      refine sv_riS (M 0 (4 * i + 58 + i2)) (if_pos (by omega)) ?_
      refine sv_i2l C dX5_mixedWithPeople_44 ?_
      refine sv_callS (as := [_, _]) (rest := []) C (met_mixed l G _ (mxI (fun i2 => M 0 (4 * i + 58 + i2)) i2 (mxP (M 0) i h)) (Int32.toInt64 (M 0 (4 * i + 58 + i2)))) fX5_mixed kw_328 ⟨Nat.le_of_ble_eq_true rfl, Nat.le_of_ble_eq_true rfl⟩ (Nat.le_of_ble_eq_true rfl) dX5_mixedWithPeople_45 ⟨Nat.zero_le _, Nat.zero_le _⟩  ?_
      refine sv_rlS ?_
      refine sv_lstore_n (i := 3) C [(0, .ref (sv_r G 14 0)), (1, .long h), (3, .long (mxI (fun i2 => M 0 (4 * i + 58 + i2)) (i2 + 1) (mxP (M 0) i h))), (5, .int (nI i)), (6, .int (nI i2))] dX5_mixedWithPeople_48 rfl (by decide) rfl ?_
      refine sv_iinc (i := 6) (x := nI i2) C (nI (i2 + 1)) [(0, .ref (sv_r G 14 0)), (1, .long h), (3, .long (mxI (fun i2 => M 0 (4 * i + 58 + i2)) (i2 + 1) (mxP (M 0) i h))), (5, .int (nI i)), (6, .int (nI (i2 + 1)))] dX5_mixedWithPeople_49 rfl (sv_incN i2 1) (by decide) rfl ?_
      refine sv_goto C 23 dX5_mixedWithPeople_52 (by decide) ?_
      exact ihi2 (by omega) trivial

set_option maxHeartbeats 4000000 in
set_option maxRecDepth 100000 in
theorem met_mixedWithBuffer (l : Launch) (G : sv_G) (z : Nat) (M : sv_M) (o : Int64) (n9 : Nat) (hn9 : M 9 60 = nI n9) (hn60 : n9 ≤ 60) (hch : ∀ i, i < 60 → chr (M 9 i)) (h : Int64) : sv_Met l G yX5_mixedWithBuffer cX5_mixedWithBuffer 6 (some .long) 1 [.ref (sv_r G 14 0), .long h] (sv_W G z M o) (some (.long (mxI (M 9) n9 (31 * h + Int32.toInt64 (nI n9))))) (sv_W G z M o) := by
  refine sv_ofW (by decide) kw_441 (Nat.le_of_ble_eq_true rfl) ?_
  intro p e s mth args below meth c hr C _
  refine sv_sub (lv' := [(0, .ref (sv_r G 14 0)), (1, .long h)]) rfl ?_
  refine sv_lload_n (i := 1) (x := h) C dX5_mixedWithBuffer_0 rfl rfl ?_
  refine sv_aload_n (i := 0) (x := sv_r G 14 0) C dX5_mixedWithBuffer_1 rfl rfl ?_
  refine sv_get_5_3 C kw_196 dX5_mixedWithBuffer_2 ?_
  refine sv_get_4_1 C kw_186 dX5_mixedWithBuffer_5 ?_
  refine sv_set (v' := .int (nI n9)) (congrArg Value.int hn9) ?_
  refine sv_i2l C dX5_mixedWithBuffer_8 ?_
  refine sv_callS (as := [_, _]) (rest := []) C (met_mixed l G _ h (Int32.toInt64 (nI n9))) fX5_mixed kw_328 ⟨Nat.le_of_ble_eq_true rfl, Nat.le_of_ble_eq_true rfl⟩ (Nat.le_of_ble_eq_true rfl) dX5_mixedWithBuffer_9 ⟨Nat.zero_le _, Nat.zero_le _⟩  ?_
  refine sv_rlS ?_
  refine sv_lstore_n (i := 3) C [(0, .ref (sv_r G 14 0)), (1, .long h), (3, .long (31 * h + Int32.toInt64 (nI n9)))] dX5_mixedWithBuffer_12 rfl (by decide) rfl ?_
  refine sv_iconst (v := nI 0) C dX5_mixedWithBuffer_13 (by decide) ?_
  refine sv_istore (i := 5) C [(0, .ref (sv_r G 14 0)), (1, .long h), (3, .long (31 * h + Int32.toInt64 (nI n9))), (5, .int (nI 0))] dX5_mixedWithBuffer_14 (by decide) rfl ?_
  refine sv_loop (N := n9) (I := fun i => True) (Wf := fun i => sv_W G z M o) (Lf := fun i => [(0, .ref (sv_r G 14 0)), (1, .long h), (3, .long (mxI (M 9) i (31 * h + Int32.toInt64 (nI n9)))), (5, .int (nI i))]) 0 (Nat.zero_le _) trivial (fun i hi0 hi hIi ihi => ?_)
  refine sv_iload (i := 5) (x := nI i) C dX5_mixedWithBuffer_16 rfl ?_
  refine sv_aload_n (i := 0) (x := sv_r G 14 0) C dX5_mixedWithBuffer_18 rfl rfl ?_
  refine sv_get_5_3 C kw_196 dX5_mixedWithBuffer_19 ?_
  refine sv_get_4_1 C kw_186 dX5_mixedWithBuffer_22 ?_
  refine sv_set (v' := .int (nI n9)) (congrArg Value.int hn9) ?_
  refine sv_icmp_geN C 49 dX5_mixedWithBuffer_25 (by decide) (by omega) (by omega) (fun q25 => ?_) (fun q25 => ?_)
  · refine sv_lload_n (i := 3) (x := mxI (M 9) i (31 * h + Int32.toInt64 (nI n9))) C dX5_mixedWithBuffer_49 rfl rfl ?_
    exact sv_lret C hr dX5_mixedWithBuffer_50 (Nat.le_of_ble_eq_true rfl) (Nat.le_of_ble_eq_true rfl) (by rw [show i = n9 from by omega]) (fun _ h => h)
  · refine sv_lload_n (i := 3) (x := mxI (M 9) i (31 * h + Int32.toInt64 (nI n9))) C dX5_mixedWithBuffer_28 rfl rfl ?_
    refine sv_aload_n (i := 0) (x := sv_r G 14 0) C dX5_mixedWithBuffer_29 rfl rfl ?_
    refine sv_get_5_3 C kw_196 dX5_mixedWithBuffer_30 ?_
    refine sv_iload (i := 5) (x := nI i) C dX5_mixedWithBuffer_33 rfl ?_
    refine sv_callV (as := [_]) (rest := [_]) C (met_codeAt l G _ _ _ i (by omega) hch) fX4_codeAt kw_442 (sv_recv17 C) ⟨Nat.le_of_ble_eq_true rfl, Nat.le_of_ble_eq_true rfl⟩ (Nat.le_of_ble_eq_true rfl) dX5_mixedWithBuffer_35 ⟨Nat.zero_le _, Nat.zero_le _⟩  ?_
    refine sv_riS (M 9 i) rfl ?_
    refine sv_i2l C dX5_mixedWithBuffer_38 ?_
    refine sv_callS (as := [_, _]) (rest := []) C (met_mixed l G _ (mxI (M 9) i (31 * h + Int32.toInt64 (nI n9))) (Int32.toInt64 (M 9 i))) fX5_mixed kw_328 ⟨Nat.le_of_ble_eq_true rfl, Nat.le_of_ble_eq_true rfl⟩ (Nat.le_of_ble_eq_true rfl) dX5_mixedWithBuffer_39 ⟨Nat.zero_le _, Nat.zero_le _⟩  ?_
    refine sv_rlS ?_
    refine sv_lstore_n (i := 3) C [(0, .ref (sv_r G 14 0)), (1, .long h), (3, .long (mxI (M 9) (i + 1) (31 * h + Int32.toInt64 (nI n9)))), (5, .int (nI i))] dX5_mixedWithBuffer_42 rfl (by decide) rfl ?_
    refine sv_iinc (i := 5) (x := nI i) C (nI (i + 1)) [(0, .ref (sv_r G 14 0)), (1, .long h), (3, .long (mxI (M 9) (i + 1) (31 * h + Int32.toInt64 (nI n9)))), (5, .int (nI (i + 1)))] dX5_mixedWithBuffer_43 rfl (sv_incN i 1) (by decide) rfl ?_
    refine sv_goto C 16 dX5_mixedWithBuffer_46 (by decide) ?_
    exact ihi (by omega) trivial

def dig5 (x : vX) (m hd : Nat) : Int64 := mxI (fun i => outv x 30 i) 4 (mxP x m (mxF m x 8 (mxI (fun i => x i) 4 (mxI (fun i => couv x hd i) 11 3061))))
def dig10 (x : vX) (m hd : Nat) (bits : Int64) : Int64 := 31 * (31 * (31 * (31 * (31 * dig5 x m hd + Int32.toInt64 (dkw (nI 0) (nI 7) (x 0) x)) + Int32.toInt64 (dkw (nI 6) (nI 2) (x 0) x)) + Int32.toInt64 (nI (lbt (nI 1) (nI 5) x))) + Int32.toInt64 (mm x 8)) + bits
def dig (x cd : vX) (m hd n9 : Nat) (bits : Int64) : Int64 := mxI cd n9 (31 * dig10 x m hd bits + Int32.toInt64 (nI n9))
set_option maxHeartbeats 4000000 in
set_option maxRecDepth 100000 in
theorem met_digest (l : Launch) (G : sv_G) (z : Nat) (M : sv_M) (o : Int64) (m : Nat) (hm : M 0 57 = nI m) (hm7 : m ≤ 6) (hd : Nat) (h1 : M 8 1 = nI hd) (b6 : M 0 6 = 0 ∨ M 0 6 = 1) (b7 : M 0 7 = 0 ∨ M 0 7 = 1) (hv : vd (M 0)) (n9 : Nat) (hn9 : M 9 60 = nI n9) (hn60 : n9 ≤ 60) (hch : ∀ i, i < 60 → chr (M 9 i)) (hn : 0 < M 0 8 → vf_n64 (FP.ddiv (FP.i2d (M 0 8 - dks (M 0) - dms (M 0))) (FP.i2d (M 0 8)))) (bits : Int64) (hbits : ∀ Wd : Heap → Prop, sv_Met l G yX5_bitsOf cX5_bitsOf 5 (some .long) 0 [.double (lsh (M 0))] Wd (some (.long bits)) Wd) : sv_Met l G yX5_digest cX5_digest 4 (some .long) 9 [.ref (sv_r G 14 0)] (sv_W G z M o) (some (.long (dig (M 0) (M 9) m hd n9 bits))) (sv_W1 G z M o) := by
  refine sv_ofW (by decide) kw_313 (Nat.le_of_ble_eq_true rfl) ?_
  intro p e s mth args below meth c hr C _
  refine sv_sub (lv' := [(0, .ref (sv_r G 14 0))]) rfl ?_
  refine sv_ldc2 (v := (3061)) C dX5_digest_0 kw_314 ?_
  refine sv_lstore_n (i := 1) C [(0, .ref (sv_r G 14 0)), (1, .long (3061))] dX5_digest_3 rfl (by decide) rfl ?_
  refine sv_iconst (v := nI 0) C dX5_digest_4 (by decide) ?_
  refine sv_istore_n (i := 3) C [(0, .ref (sv_r G 14 0)), (1, .long (3061)), (3, .int (nI 0))] dX5_digest_5 rfl (by decide) rfl ?_
  refine sv_loop (N := 11) (I := fun i => True) (Wf := fun i => sv_W G z M o) (Lf := fun i => [(0, .ref (sv_r G 14 0)), (1, .long (mxI (fun i => couv (M 0) hd i) i 3061)), (3, .int (nI i))]) 0 (Nat.zero_le _) trivial (fun i hi0 hi hIi ihi => ?_)
  refine sv_iload_n (i := 3) (x := nI i) C dX5_digest_6 rfl rfl ?_
  refine sv_bipush (v := nI 11) C dX5_digest_7 (by decide) ?_
  refine sv_icmp_geN C 29 dX5_digest_9 (by decide) (by omega) (by omega) (fun q9 => ?_) (fun q9 => ?_)
  · refine sv_iconst (v := nI 0) C dX5_digest_29 (by decide) ?_
    refine sv_istore_n (i := 3) C [(0, .ref (sv_r G 14 0)), (1, .long (mxI (fun i => couv (M 0) hd i) i 3061)), (3, .int (nI 0))] dX5_digest_30 rfl (by decide) rfl ?_
    rw [show i = 11 from by omega]
    refine sv_loop (N := 4) (I := fun j => True) (Wf := fun j => sv_W G z M o) (Lf := fun j => [(0, .ref (sv_r G 14 0)), (1, .long (mxI (fun i => M 0 i) j (mxI (fun i => couv (M 0) hd i) 11 3061))), (3, .int (nI j))]) 0 (Nat.zero_le _) trivial (fun j hj0 hj hIj ihj => ?_)
    refine sv_iload_n (i := 3) (x := nI j) C dX5_digest_31 rfl rfl ?_
    refine sv_aload_n (i := 0) (x := sv_r G 14 0) C dX5_digest_32 rfl rfl ?_
    refine sv_get_5_0 C kw_193 dX5_digest_33 ?_
    refine sv_get_3_2 C (by decide) kw_135 dX5_digest_36 ?_
    refine sv_alen (v := nI 4) C (sv_okj (by decide) (by decide)) rfl rfl dX5_digest_39 ?_
    refine sv_icmp_geN C 64 dX5_digest_40 (by decide) (by omega) (by omega) (fun q40 => ?_) (fun q40 => ?_)
    · rw [show j = 4 from by omega]
      refine sv_aload_n (i := 0) (x := sv_r G 14 0) C dX5_digest_64 rfl rfl ?_
      refine sv_lload_n (i := 1) (x := mxI (fun i => M 0 i) 4 (mxI (fun i => couv (M 0) hd i) 11 3061)) C dX5_digest_65 rfl rfl ?_
      refine sv_callV (as := [_]) (rest := []) C (met_mixedWithFloors l G _ _ _ m hm hm7 b6 b7 (mxI (fun i => M 0 i) 4 (mxI (fun i => couv (M 0) hd i) 11 3061))) fX5_mixedWithFloors kw_332 (sv_recv14 C) ⟨Nat.le_of_ble_eq_true rfl, Nat.le_of_ble_eq_true rfl⟩ (Nat.le_of_ble_eq_true rfl) dX5_digest_66 ⟨Nat.zero_le _, Nat.zero_le _⟩  ?_
      refine sv_rlS ?_
      refine sv_lstore_n (i := 1) C [(0, .ref (sv_r G 14 0)), (1, .long (mxF m (M 0) 8 (mxI (fun i => M 0 i) 4 (mxI (fun i => couv (M 0) hd i) 11 3061)))), (3, .int (nI 4))] dX5_digest_69 rfl (by decide) rfl ?_
      refine sv_aload_n (i := 0) (x := sv_r G 14 0) C dX5_digest_70 rfl rfl ?_
      refine sv_lload_n (i := 1) (x := mxF m (M 0) 8 (mxI (fun i => M 0 i) 4 (mxI (fun i => couv (M 0) hd i) 11 3061))) C dX5_digest_71 rfl rfl ?_
      refine sv_callV (as := [_]) (rest := []) C (met_mixedWithPeople l G _ _ _ m hm hm7 (mxF m (M 0) 8 (mxI (fun i => M 0 i) 4 (mxI (fun i => couv (M 0) hd i) 11 3061)))) fX5_mixedWithPeople kw_345 (sv_recv14 C) ⟨Nat.le_of_ble_eq_true rfl, Nat.le_of_ble_eq_true rfl⟩ (Nat.le_of_ble_eq_true rfl) dX5_digest_72 ⟨Nat.zero_le _, Nat.zero_le _⟩  ?_
      refine sv_rlS ?_
      refine sv_lstore_n (i := 1) C [(0, .ref (sv_r G 14 0)), (1, .long (mxP (M 0) m (mxF m (M 0) 8 (mxI (fun i => M 0 i) 4 (mxI (fun i => couv (M 0) hd i) 11 3061))))), (3, .int (nI 4))] dX5_digest_75 rfl (by decide) rfl ?_
      refine sv_iconst (v := nI 0) C dX5_digest_76 (by decide) ?_
      refine sv_istore_n (i := 3) C [(0, .ref (sv_r G 14 0)), (1, .long (mxP (M 0) m (mxF m (M 0) 8 (mxI (fun i => M 0 i) 4 (mxI (fun i => couv (M 0) hd i) 11 3061))))), (3, .int (nI 0))] dX5_digest_77 rfl (by decide) rfl ?_
      refine sv_wd sv_W1_id ?_
      refine sv_loop (N := 4) (I := fun k9 => True) (Wf := fun k9 => sv_W1 G z M o) (Lf := fun k9 => [(0, .ref (sv_r G 14 0)), (1, .long (mxI (fun i => outv (M 0) 30 i) k9 (mxP (M 0) m (mxF m (M 0) 8 (mxI (fun i => M 0 i) 4 (mxI (fun i => couv (M 0) hd i) 11 3061)))))), (3, .int (nI k9))]) 0 (Nat.zero_le _) trivial (fun k9 hk90 hk9 hIk9 ihk9 => ?_)
      refine sv_iload_n (i := 3) (x := nI k9) C dX5_digest_78 rfl rfl ?_
      refine sv_iconst (v := nI 4) C dX5_digest_79 (by decide) ?_
      refine sv_icmp_geN C 102 dX5_digest_80 (by decide) (by omega) (by omega) (fun q80 => ?_) (fun q80 => ?_)
      · rw [show k9 = 4 from by omega]
        refine sv_exW (fun y2 => ?_)
        refine sv_aload_n (i := 0) (x := sv_r G 14 0) C dX5_digest_102 rfl rfl ?_
        refine sv_get_5_0 C kw_193 dX5_digest_103 ?_
        refine sv_get_3_2 C (by decide) kw_135 dX5_digest_106 ?_
        refine sv_iconst (v := nI 0) C dX5_digest_109 (by decide) ?_
        refine sv_callS (as := [_, _]) (rest := []) C (met_atN 0 0 rfl rfl (sv_okj (by decide) (by decide)) rfl (by show _ < 4; omega)) fX5_at kw_400 ⟨Nat.le_of_ble_eq_true rfl, Nat.le_of_ble_eq_true rfl⟩ (Nat.le_of_ble_eq_true rfl) dX5_digest_110 ⟨Nat.zero_le _, Nat.zero_le _⟩  ?_
        refine sv_riS (M 0 0) (by rw [sv_un (by decide)]) ?_
        refine sv_istore_n (i := 3) C [(0, .ref (sv_r G 14 0)), (1, .long (dig5 (M 0) m hd)), (3, .int (M 0 0))] dX5_digest_113 rfl (by decide) rfl ?_
        refine sv_lload_n (i := 1) (x := dig5 (M 0) m hd) C dX5_digest_114 rfl rfl ?_
        refine sv_aload_n (i := 0) (x := sv_r G 14 0) C dX5_digest_115 rfl rfl ?_
        refine sv_iload_n (i := 3) (x := M 0 0) C dX5_digest_116 rfl rfl ?_
        refine sv_iconst (v := nI 0) C dX5_digest_117 (by decide) ?_
        refine sv_bipush (v := nI 7) C dX5_digest_118 (by decide) ?_
        refine sv_callV (as := [_, _, _]) (rest := [_]) C (met_darkWith l G _ _ _ (M 0 0) 0 7 (by omega) (by omega) (by rw [sv_un (by decide)]; exact hv) m (by rw [sv_un (by decide)]; exact hm) hm7) fX5_darkWith kw_401 (sv_recv14 C) ⟨Nat.le_of_ble_eq_true rfl, Nat.le_of_ble_eq_true rfl⟩ (Nat.le_of_ble_eq_true rfl) dX5_digest_120 ⟨Nat.zero_le _, Nat.zero_le _⟩  ?_
        refine sv_riS (dkw (nI 0) (nI 7) (M 0 0) (M 0)) (by rw [sv_un (by decide)]) ?_
        refine sv_wd sv_W1_1 ?_
        refine sv_i2l C dX5_digest_123 ?_
        refine sv_callS (as := [_, _]) (rest := []) C (met_mixed l G _ (dig5 (M 0) m hd) (Int32.toInt64 (dkw (nI 0) (nI 7) (M 0 0) (M 0)))) fX5_mixed kw_328 ⟨Nat.le_of_ble_eq_true rfl, Nat.le_of_ble_eq_true rfl⟩ (Nat.le_of_ble_eq_true rfl) dX5_digest_124 ⟨Nat.zero_le _, Nat.zero_le _⟩  ?_
        refine sv_rlS ?_
        refine sv_lstore_n (i := 1) C [(0, .ref (sv_r G 14 0)), (1, .long (31 * dig5 (M 0) m hd + Int32.toInt64 (dkw (nI 0) (nI 7) (M 0 0) (M 0)))), (3, .int (M 0 0))] dX5_digest_127 rfl (by decide) rfl ?_
        refine sv_lload_n (i := 1) (x := 31 * dig5 (M 0) m hd + Int32.toInt64 (dkw (nI 0) (nI 7) (M 0 0) (M 0))) C dX5_digest_128 rfl rfl ?_
        refine sv_aload_n (i := 0) (x := sv_r G 14 0) C dX5_digest_129 rfl rfl ?_
        refine sv_iload_n (i := 3) (x := M 0 0) C dX5_digest_130 rfl rfl ?_
        refine sv_bipush (v := nI 6) C dX5_digest_131 (by decide) ?_
        refine sv_iconst (v := nI 2) C dX5_digest_133 (by decide) ?_
        refine sv_exW (fun y3 => ?_)
        refine sv_callV (as := [_, _, _]) (rest := [_]) C (met_darkWith l G _ _ _ (M 0 0) 6 2 (by omega) (by omega) (by rw [sv_un (by decide)]; exact hv) m (by rw [sv_un (by decide)]; exact hm) hm7) fX5_darkWith kw_401 (sv_recv14 C) ⟨Nat.le_of_ble_eq_true rfl, Nat.le_of_ble_eq_true rfl⟩ (Nat.le_of_ble_eq_true rfl) dX5_digest_134 ⟨Nat.zero_le _, Nat.zero_le _⟩  ?_
        refine sv_riS (dkw (nI 6) (nI 2) (M 0 0) (M 0)) (by rw [sv_un (by decide)]) ?_
        refine sv_wd sv_W1_1 ?_
        refine sv_i2l C dX5_digest_137 ?_
        refine sv_callS (as := [_, _]) (rest := []) C (met_mixed l G _ (31 * dig5 (M 0) m hd + Int32.toInt64 (dkw (nI 0) (nI 7) (M 0 0) (M 0))) (Int32.toInt64 (dkw (nI 6) (nI 2) (M 0 0) (M 0)))) fX5_mixed kw_328 ⟨Nat.le_of_ble_eq_true rfl, Nat.le_of_ble_eq_true rfl⟩ (Nat.le_of_ble_eq_true rfl) dX5_digest_138 ⟨Nat.zero_le _, Nat.zero_le _⟩  ?_
        refine sv_rlS ?_
        refine sv_lstore_n (i := 1) C [(0, .ref (sv_r G 14 0)), (1, .long (31 * (31 * dig5 (M 0) m hd + Int32.toInt64 (dkw (nI 0) (nI 7) (M 0 0) (M 0))) + Int32.toInt64 (dkw (nI 6) (nI 2) (M 0 0) (M 0)))), (3, .int (M 0 0))] dX5_digest_141 rfl (by decide) rfl ?_
        refine sv_lload_n (i := 1) (x := 31 * (31 * dig5 (M 0) m hd + Int32.toInt64 (dkw (nI 0) (nI 7) (M 0 0) (M 0))) + Int32.toInt64 (dkw (nI 6) (nI 2) (M 0 0) (M 0))) C dX5_digest_142 rfl rfl ?_
        refine sv_aload_n (i := 0) (x := sv_r G 14 0) C dX5_digest_143 rfl rfl ?_
        refine sv_iconst (v := nI 1) C dX5_digest_144 (by decide) ?_
        refine sv_iconst (v := nI 5) C dX5_digest_145 (by decide) ?_
        refine sv_exW (fun y4 => ?_)
        refine sv_callV (as := [_, _]) (rest := [_]) C (met_leastBurnTime l G _ _ _ 1 5 (by omega) (by omega) (by rw [sv_un (by decide)]; exact hv) m (by rw [sv_un (by decide)]; exact hm) hm7) fX5_leastBurnTime kw_425 (sv_recv14 C) ⟨Nat.le_of_ble_eq_true rfl, Nat.le_of_ble_eq_true rfl⟩ (Nat.le_of_ble_eq_true rfl) dX5_digest_146 ⟨Nat.zero_le _, Nat.zero_le _⟩  ?_
        refine sv_riS (nI (lbt (nI 1) (nI 5) (M 0))) (by rw [sv_un (by decide)]) ?_
        refine sv_wd sv_W1_1 ?_
        refine sv_i2l C dX5_digest_149 ?_
        refine sv_callS (as := [_, _]) (rest := []) C (met_mixed l G _ (31 * (31 * dig5 (M 0) m hd + Int32.toInt64 (dkw (nI 0) (nI 7) (M 0 0) (M 0))) + Int32.toInt64 (dkw (nI 6) (nI 2) (M 0 0) (M 0))) (Int32.toInt64 (nI (lbt (nI 1) (nI 5) (M 0))))) fX5_mixed kw_328 ⟨Nat.le_of_ble_eq_true rfl, Nat.le_of_ble_eq_true rfl⟩ (Nat.le_of_ble_eq_true rfl) dX5_digest_150 ⟨Nat.zero_le _, Nat.zero_le _⟩  ?_
        refine sv_rlS ?_
        refine sv_lstore_n (i := 1) C [(0, .ref (sv_r G 14 0)), (1, .long (31 * (31 * (31 * dig5 (M 0) m hd + Int32.toInt64 (dkw (nI 0) (nI 7) (M 0 0) (M 0))) + Int32.toInt64 (dkw (nI 6) (nI 2) (M 0 0) (M 0))) + Int32.toInt64 (nI (lbt (nI 1) (nI 5) (M 0))))), (3, .int (M 0 0))] dX5_digest_153 rfl (by decide) rfl ?_
        refine sv_lload_n (i := 1) (x := 31 * (31 * (31 * dig5 (M 0) m hd + Int32.toInt64 (dkw (nI 0) (nI 7) (M 0 0) (M 0))) + Int32.toInt64 (dkw (nI 6) (nI 2) (M 0 0) (M 0))) + Int32.toInt64 (nI (lbt (nI 1) (nI 5) (M 0)))) C dX5_digest_154 rfl rfl ?_
        refine sv_aload_n (i := 0) (x := sv_r G 14 0) C dX5_digest_155 rfl rfl ?_
        refine sv_exW (fun y5 => ?_)
        refine sv_get_5_0 C kw_193 dX5_digest_156 ?_
        refine sv_get_3_0 C (by decide) kw_131 dX5_digest_159 ?_
        refine sv_callV (as := []) (rest := [_]) C (met_mostMissed l G _ _ _ 0 (by decide)) fX0_mostMissed kw_295 (sv_recv1 C (by decide)) ⟨Nat.le_of_ble_eq_true rfl, Nat.le_of_ble_eq_true rfl⟩ (Nat.le_of_ble_eq_true rfl) dX5_digest_162 ⟨Nat.zero_le _, Nat.zero_le _⟩  ?_
        refine sv_riS (mm (M 0) 8) (by rw [sv_un (by decide)]) ?_
        refine sv_i2l C dX5_digest_165 ?_
        refine sv_callS (as := [_, _]) (rest := []) C (met_mixed l G _ (31 * (31 * (31 * dig5 (M 0) m hd + Int32.toInt64 (dkw (nI 0) (nI 7) (M 0 0) (M 0))) + Int32.toInt64 (dkw (nI 6) (nI 2) (M 0 0) (M 0))) + Int32.toInt64 (nI (lbt (nI 1) (nI 5) (M 0)))) (Int32.toInt64 (mm (M 0) 8))) fX5_mixed kw_328 ⟨Nat.le_of_ble_eq_true rfl, Nat.le_of_ble_eq_true rfl⟩ (Nat.le_of_ble_eq_true rfl) dX5_digest_166 ⟨Nat.zero_le _, Nat.zero_le _⟩  ?_
        refine sv_rlS ?_
        refine sv_lstore_n (i := 1) C [(0, .ref (sv_r G 14 0)), (1, .long (31 * (31 * (31 * (31 * dig5 (M 0) m hd + Int32.toInt64 (dkw (nI 0) (nI 7) (M 0 0) (M 0))) + Int32.toInt64 (dkw (nI 6) (nI 2) (M 0 0) (M 0))) + Int32.toInt64 (nI (lbt (nI 1) (nI 5) (M 0)))) + Int32.toInt64 (mm (M 0) 8))), (3, .int (M 0 0))] dX5_digest_169 rfl (by decide) rfl ?_
        refine sv_lload_n (i := 1) (x := 31 * (31 * (31 * (31 * dig5 (M 0) m hd + Int32.toInt64 (dkw (nI 0) (nI 7) (M 0 0) (M 0))) + Int32.toInt64 (dkw (nI 6) (nI 2) (M 0 0) (M 0))) + Int32.toInt64 (nI (lbt (nI 1) (nI 5) (M 0)))) + Int32.toInt64 (mm (M 0) 8)) C dX5_digest_170 rfl rfl ?_
        refine sv_aload_n (i := 0) (x := sv_r G 14 0) C dX5_digest_171 rfl rfl ?_
        refine sv_get_5_0 C kw_193 dX5_digest_172 ?_
        refine sv_callV (as := []) (rest := [_]) C (met_lightShare l G _ _ _ 0 (by decide) (by rw [sv_un (by decide)]; exact hn)) fX3_lightShare kw_303 (sv_recv0 C (by decide)) ⟨Nat.le_of_ble_eq_true rfl, Nat.le_of_ble_eq_true rfl⟩ (Nat.le_of_ble_eq_true rfl) dX5_digest_175 ⟨Nat.zero_le _, Nat.zero_le _⟩  ?_
        refine sv_rd (fun v175 e175 => ?_)
        rw [show v175 = lsh (M 0) from by rw [e175, sv_un (by decide)]]
        refine sv_callS (as := [_]) (rest := [_]) C (hbits _) fX5_bitsOf kw_433 ⟨Nat.le_of_ble_eq_true rfl, Nat.le_of_ble_eq_true rfl⟩ (Nat.le_of_ble_eq_true rfl) dX5_digest_178 ⟨Nat.zero_le _, Nat.zero_le _⟩  ?_
        refine sv_rlS ?_
        refine sv_callS (as := [_, _]) (rest := []) C (met_mixed l G _ (31 * (31 * (31 * (31 * dig5 (M 0) m hd + Int32.toInt64 (dkw (nI 0) (nI 7) (M 0 0) (M 0))) + Int32.toInt64 (dkw (nI 6) (nI 2) (M 0 0) (M 0))) + Int32.toInt64 (nI (lbt (nI 1) (nI 5) (M 0)))) + Int32.toInt64 (mm (M 0) 8)) bits) fX5_mixed kw_328 ⟨Nat.le_of_ble_eq_true rfl, Nat.le_of_ble_eq_true rfl⟩ (Nat.le_of_ble_eq_true rfl) dX5_digest_181 ⟨Nat.zero_le _, Nat.zero_le _⟩  ?_
        refine sv_rlS ?_
        refine sv_lstore_n (i := 1) C [(0, .ref (sv_r G 14 0)), (1, .long (dig10 (M 0) m hd bits)), (3, .int (M 0 0))] dX5_digest_184 rfl (by decide) rfl ?_
        refine sv_aload_n (i := 0) (x := sv_r G 14 0) C dX5_digest_185 rfl rfl ?_
        refine sv_lload_n (i := 1) (x := dig10 (M 0) m hd bits) C dX5_digest_186 rfl rfl ?_
        refine sv_callV (as := [_]) (rest := []) C (met_mixedWithBuffer l G _ _ _ n9 (by rw [sv_un (by decide)]; exact hn9) hn60 (by rw [sv_un (by decide)]; exact hch) (dig10 (M 0) m hd bits)) fX5_mixedWithBuffer kw_438 (sv_recv14 C) ⟨Nat.le_of_ble_eq_true rfl, Nat.le_of_ble_eq_true rfl⟩ (Nat.le_of_ble_eq_true rfl) dX5_digest_187 ⟨Nat.zero_le _, Nat.zero_le _⟩  ?_
        refine sv_rl (fun v187 e187 => ?_)
        exact sv_lret C hr dX5_digest_190 (Nat.le_of_ble_eq_true rfl) (Nat.le_of_ble_eq_true rfl) (by rw [e187, sv_un (by decide)]; rfl) (fun H h => sv_W1_of H h)
      · refine sv_lload_n (i := 1) (x := mxI (fun i => outv (M 0) 30 i) k9 (mxP (M 0) m (mxF m (M 0) 8 (mxI (fun i => M 0 i) 4 (mxI (fun i => couv (M 0) hd i) 11 3061))))) C dX5_digest_83 rfl rfl ?_
        refine sv_aload_n (i := 0) (x := sv_r G 14 0) C dX5_digest_84 rfl rfl ?_
        refine sv_bipush (v := nI 30) C dX5_digest_85 (by decide) ?_
        refine sv_iload_n (i := 3) (x := nI k9) C dX5_digest_87 rfl rfl ?_
        refine sv_exW (fun y1 => ?_)
        refine sv_callV (as := [_, _]) (rest := [_]) C (met_outlook l G _ _ _ 30 k9 (by omega) (by omega) (by rw [sv_un (by decide)]; exact b6) (by rw [sv_un (by decide)]; exact b7) (by rw [sv_un (by decide)]; exact hv)) fX5_outlook kw_353 (sv_recv14 C) ⟨Nat.le_of_ble_eq_true rfl, Nat.le_of_ble_eq_true rfl⟩ (Nat.le_of_ble_eq_true rfl) dX5_digest_88 ⟨Nat.zero_le _, Nat.zero_le _⟩  ?_
        refine sv_riS (outv (M 0) 30 k9) (by rw [sv_un (by decide)]) ?_
        refine sv_wd sv_W1_1 ?_
        refine sv_i2l C dX5_digest_91 ?_
        refine sv_callS (as := [_, _]) (rest := []) C (met_mixed l G _ (mxI (fun i => outv (M 0) 30 i) k9 (mxP (M 0) m (mxF m (M 0) 8 (mxI (fun i => M 0 i) 4 (mxI (fun i => couv (M 0) hd i) 11 3061))))) (Int32.toInt64 (outv (M 0) 30 k9))) fX5_mixed kw_328 ⟨Nat.le_of_ble_eq_true rfl, Nat.le_of_ble_eq_true rfl⟩ (Nat.le_of_ble_eq_true rfl) dX5_digest_92 ⟨Nat.zero_le _, Nat.zero_le _⟩  ?_
        refine sv_rlS ?_
        refine sv_lstore_n (i := 1) C [(0, .ref (sv_r G 14 0)), (1, .long (mxI (fun i => outv (M 0) 30 i) (k9 + 1) (mxP (M 0) m (mxF m (M 0) 8 (mxI (fun i => M 0 i) 4 (mxI (fun i => couv (M 0) hd i) 11 3061)))))), (3, .int (nI k9))] dX5_digest_95 rfl (by decide) rfl ?_
        refine sv_iinc (i := 3) (x := nI k9) C (nI (k9 + 1)) [(0, .ref (sv_r G 14 0)), (1, .long (mxI (fun i => outv (M 0) 30 i) (k9 + 1) (mxP (M 0) m (mxF m (M 0) 8 (mxI (fun i => M 0 i) 4 (mxI (fun i => couv (M 0) hd i) 11 3061)))))), (3, .int (nI (k9 + 1)))] dX5_digest_96 rfl (sv_incN k9 1) (by decide) rfl ?_
        refine sv_goto C 78 dX5_digest_99 (by decide) ?_
        exact ihk9 (by omega) trivial
    · refine sv_lload_n (i := 1) (x := mxI (fun i => M 0 i) j (mxI (fun i => couv (M 0) hd i) 11 3061)) C dX5_digest_43 rfl rfl ?_
      refine sv_aload_n (i := 0) (x := sv_r G 14 0) C dX5_digest_44 rfl rfl ?_
      refine sv_get_5_0 C kw_193 dX5_digest_45 ?_
      refine sv_get_3_2 C (by decide) kw_135 dX5_digest_48 ?_
      refine sv_iload_n (i := 3) (x := nI j) C dX5_digest_51 rfl rfl ?_
      refine sv_ialdN C 0 j rfl rfl (sv_okj (by decide) (by decide)) rfl (by show _ < 4; omega) dX5_digest_52 ?_
      refine sv_set (v' := .int (M 0 j)) (congrArg Value.int rfl) ?_
      refine sv_i2l C dX5_digest_53 ?_
      refine sv_callS (as := [_, _]) (rest := []) C (met_mixed l G _ (mxI (fun i => M 0 i) j (mxI (fun i => couv (M 0) hd i) 11 3061)) (Int32.toInt64 (M 0 j))) fX5_mixed kw_328 ⟨Nat.le_of_ble_eq_true rfl, Nat.le_of_ble_eq_true rfl⟩ (Nat.le_of_ble_eq_true rfl) dX5_digest_54 ⟨Nat.zero_le _, Nat.zero_le _⟩  ?_
      refine sv_rlS ?_
      refine sv_lstore_n (i := 1) C [(0, .ref (sv_r G 14 0)), (1, .long (mxI (fun i => M 0 i) (j + 1) (mxI (fun i => couv (M 0) hd i) 11 3061))), (3, .int (nI j))] dX5_digest_57 rfl (by decide) rfl ?_
      refine sv_iinc (i := 3) (x := nI j) C (nI (j + 1)) [(0, .ref (sv_r G 14 0)), (1, .long (mxI (fun i => M 0 i) (j + 1) (mxI (fun i => couv (M 0) hd i) 11 3061))), (3, .int (nI (j + 1)))] dX5_digest_58 rfl (sv_incN j 1) (by decide) rfl ?_
      refine sv_goto C 31 dX5_digest_61 (by decide) ?_
      exact ihj (by omega) trivial
  · refine sv_lload_n (i := 1) (x := mxI (fun i => couv (M 0) hd i) i 3061) C dX5_digest_12 rfl rfl ?_
    refine sv_aload_n (i := 0) (x := sv_r G 14 0) C dX5_digest_13 rfl rfl ?_
    refine sv_iload_n (i := 3) (x := nI i) C dX5_digest_14 rfl rfl ?_
    refine sv_callV (as := [_]) (rest := [_]) C (met_counted l G _ _ _ i (by omega) hd h1 b6 b7) fX5_counted kw_315 (sv_recv14 C) ⟨Nat.le_of_ble_eq_true rfl, Nat.le_of_ble_eq_true rfl⟩ (Nat.le_of_ble_eq_true rfl) dX5_digest_15 ⟨Nat.zero_le _, Nat.zero_le _⟩  ?_
    refine sv_riS (couv (M 0) hd i) rfl ?_
    refine sv_i2l C dX5_digest_18 ?_
    refine sv_callS (as := [_, _]) (rest := []) C (met_mixed l G _ (mxI (fun i => couv (M 0) hd i) i 3061) (Int32.toInt64 (couv (M 0) hd i))) fX5_mixed kw_328 ⟨Nat.le_of_ble_eq_true rfl, Nat.le_of_ble_eq_true rfl⟩ (Nat.le_of_ble_eq_true rfl) dX5_digest_19 ⟨Nat.zero_le _, Nat.zero_le _⟩  ?_
    refine sv_rlS ?_
    refine sv_lstore_n (i := 1) C [(0, .ref (sv_r G 14 0)), (1, .long (mxI (fun i => couv (M 0) hd i) (i + 1) 3061)), (3, .int (nI i))] dX5_digest_22 rfl (by decide) rfl ?_
    refine sv_iinc (i := 3) (x := nI i) C (nI (i + 1)) [(0, .ref (sv_r G 14 0)), (1, .long (mxI (fun i => couv (M 0) hd i) (i + 1) 3061)), (3, .int (nI (i + 1)))] dX5_digest_23 rfl (sv_incN i 1) (by decide) rfl ?_
    refine sv_goto C 6 dX5_digest_26 (by decide) ?_
    exact ihi (by omega) trivial

