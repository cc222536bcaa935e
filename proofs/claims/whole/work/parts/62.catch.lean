/-! the law calls the class: a code, and what is answered -/
set_option maxHeartbeats 4000000 in
set_option maxRecDepth 100000 in
theorem met_L_come (l : Launch) (G : sv_G) (hl : l.stackTraces = false) (z : Nat) (M : sv_M) (o : Int64) (f t : Int32) (od hd : Nat) (hod : od < 6) (h0 : M 8 0 = nI od) (h1 : M 8 1 = nI hd) (hd6 : hd ≤ 6) (b6 : M 0 6 = 0 ∨ M 0 6 = 1) (b7 : M 0 7 = 0 ∨ M 0 7 = 1) (m : Nat) (hm : M 0 57 = nI m) (hm7 : m ≤ 6) : Met l yL_come [.codeWith yL_come method_3_code 5 (some .int) [(0, 10, 13, 13), (0, 10, 17, 15), (0, 10, 21, 17)]] (sv_rm 9 4 24) (sv_Pc G (sv_W G z M o) [.ref (sv_r G 14 0), .int f, .int t, .ref (sv_r G 25 0)]) (sv_Qc G (sw_R (comC m f t) (fun o9 => sv_W G z (sv_u (sav od hd M) 0 (entv m f t (M 0 3) (M 0))) o9) (M 0 5) (sv_Wz G z M o)) (some (.int (nI (comC m f t))))) 4 24 (sv_A G) := by
  refine sw_ofW (by decide) (Nat.le_of_ble_eq_true rfl) ?_
  intro p e s mth args below meth c hr C ht
  refine sv_sub (lv' := [(0, .ref (sv_r G 14 0)), (1, .int f), (2, .int t), (3, .ref (sv_r G 25 0))]) rfl ?_
  refine sv_aload_n (i := 3) (x := (sv_r G 25 0)) C dL_come_0 rfl rfl ?_
  refine sv_iconst (v := 0) C dL_come_1 (by decide) ?_
  refine sv_aload_n (i := 0) (x := (sv_r G 14 0)) C dL_come_2 rfl rfl ?_
  refine sv_iload_n (i := 1) (x := f) C dL_come_3 rfl rfl ?_
  refine sv_iload_n (i := 2) (x := t) C dL_come_4 rfl rfl ?_
  refine sv_callVX (as := [_, _]) (rest := [.int 0, .ref (sv_r G 25 0)]) C (met_come l G hl z M o f t od hd hod h0 h1 hd6 b6 b7 m hm hm7) fX5_come kw_449 (sv_recv14 C) ⟨Nat.le_of_ble_eq_true rfl, Nat.le_of_ble_eq_true rfl⟩ (Nat.le_of_ble_eq_true rfl) dL_come_5 ⟨Nat.le_of_ble_eq_true rfl, Nat.le_of_ble_eq_true rfl⟩ (fun E hE => ?_) ?_
  · rcases hE with ⟨h9, rfl⟩ | ⟨h9, rfl⟩ | ⟨h9, rfl⟩
    · refine sv_catch C [] [(0, 10, 17, 15), (0, 10, 21, 17)] (0, 10, 13, 13) ht rfl (fun z hz => absurd hz List.not_mem_nil) rfl (by decide) kw_446 sx_IO (fun a9 => ?_)
      refine sv_astore (i := 4) C [(0, .ref (sv_r G 14 0)), (1, .int f), (2, .int t), (3, .ref (sv_r G 25 0)), (4, .ref a9)] dL_come_13 (by decide) rfl ?_
      refine sv_iconst (v := nI 1) C dL_come_15 (by decide) ?_
      exact sv_iret C hr dL_come_16 (Nat.le_of_ble_eq_true rfl) (Nat.le_of_ble_eq_true rfl) (by rw [h9]) (sw_Rn h9)
    · refine sv_catch C [(0, 10, 13, 13)] [(0, 10, 21, 17)] (0, 10, 17, 15) ht rfl (List.forall_mem_cons.mpr ⟨⟨by decide, sv_IO, kw_446, sn_IA_IO C⟩, fun _ h => absurd h List.not_mem_nil⟩) rfl (by decide) kw_447 sx_IA (fun a9 => ?_)
      refine sv_astore (i := 4) C [(0, .ref (sv_r G 14 0)), (1, .int f), (2, .int t), (3, .ref (sv_r G 25 0)), (4, .ref a9)] dL_come_17 (by decide) rfl ?_
      refine sv_iconst (v := nI 2) C dL_come_19 (by decide) ?_
      exact sv_iret C hr dL_come_20 (Nat.le_of_ble_eq_true rfl) (Nat.le_of_ble_eq_true rfl) (by rw [h9]) (sw_Rn h9)
    · refine sv_catch C [(0, 10, 13, 13), (0, 10, 17, 15)] [] (0, 10, 21, 17) ht rfl (List.forall_mem_cons.mpr ⟨⟨by decide, sv_IO, kw_446, sn_IS_IO C⟩, List.forall_mem_cons.mpr ⟨⟨by decide, sv_IA, kw_447, sn_IS_IA C⟩, fun _ h => absurd h List.not_mem_nil⟩⟩) rfl (by decide) kw_448 sx_IS (fun a9 => ?_)
      refine sv_astore (i := 4) C [(0, .ref (sv_r G 14 0)), (1, .int f), (2, .int t), (3, .ref (sv_r G 25 0)), (4, .ref a9)] dL_come_21 (by decide) rfl ?_
      refine sv_iconst (v := nI 3) C dL_come_23 (by decide) ?_
      exact sv_iret C hr dL_come_24 (Nat.le_of_ble_eq_true rfl) (Nat.le_of_ble_eq_true rfl) (by rw [h9]) (sw_Rn h9)
  · intro ok
    refine sv_ri (fun v9 e9 => ?_)
    refine sv_i2l C dL_come_8 ?_
    refine sv_last C dL_come_9 ?_
    refine sv_goto C 25 dL_come_10 (by decide) ?_
    refine sv_iconst (v := nI 0) C dL_come_25 (by decide) ?_
    exact sv_iret C hr dL_come_26 (Nat.le_of_ble_eq_true rfl) (Nat.le_of_ble_eq_true rfl) (by rw [ok]) (sw_R0 ok e9)
set_option maxHeartbeats 4000000 in
set_option maxRecDepth 100000 in
theorem met_L_turn (l : Launch) (G : sv_G) (hl : l.stackTraces = false) (z : Nat) (M : sv_M) (o : Int64) (n t : Int32) (od hd : Nat) (hod : od < 6) (h0 : M 8 0 = nI od) (h1 : M 8 1 = nI hd) (hd6 : hd ≤ 6) (b6 : M 0 6 = 0 ∨ M 0 6 = 1) (b7 : M 0 7 = 0 ∨ M 0 7 = 1) (m : Nat) (hm : M 0 57 = nI m) (hm7 : m ≤ 6) : Met l yL_turn [.codeWith yL_turn method_4_code 5 (some .int) [(0, 10, 13, 13)]] (sv_rm 8 1 6) (sv_Pc G (sv_W G z M o) [.ref (sv_r G 14 0), .int n, .int t, .ref (sv_r G 25 0)]) (sv_Qc G (sw_R (trnC (M 0) m n t) (fun o9 => sv_W G z (sv_u (sav od hd M) 0 (trnv (plF (M 0) n m 0).toNatClampNeg t (M 0))) o9) (M 0 (4 * (plF (M 0) n m 0).toNatClampNeg + 60)) (sv_Wz G z M o)) (some (.int (nI (trnC (M 0) m n t))))) 1 6 (sv_A G) := by
  refine sw_ofW (by decide) (Nat.le_of_ble_eq_true rfl) ?_
  intro p e s mth args below meth c hr C ht
  refine sv_sub (lv' := [(0, .ref (sv_r G 14 0)), (1, .int n), (2, .int t), (3, .ref (sv_r G 25 0))]) rfl ?_
  refine sv_aload_n (i := 3) (x := (sv_r G 25 0)) C dL_turn_0 rfl rfl ?_
  refine sv_iconst (v := 0) C dL_turn_1 (by decide) ?_
  refine sv_aload_n (i := 0) (x := (sv_r G 14 0)) C dL_turn_2 rfl rfl ?_
  refine sv_iload_n (i := 1) (x := n) C dL_turn_3 rfl rfl ?_
  refine sv_iload_n (i := 2) (x := t) C dL_turn_4 rfl rfl ?_
  refine sv_callVX (as := [_, _]) (rest := [.int 0, .ref (sv_r G 25 0)]) C (met_turn l G hl z M o n t od hd hod h0 h1 hd6 b6 b7 m hm hm7) fX5_turn kw_562 (sv_recv14 C) ⟨Nat.le_of_ble_eq_true rfl, Nat.le_of_ble_eq_true rfl⟩ (Nat.le_of_ble_eq_true rfl) dL_turn_5 ⟨Nat.le_of_ble_eq_true rfl, Nat.le_of_ble_eq_true rfl⟩ (fun E hE => ?_) ?_
  · obtain ⟨h9, rfl⟩ := hE
    refine sv_catch C [] [] (0, 10, 13, 13) ht rfl (fun z hz => absurd hz List.not_mem_nil) rfl (by decide) kw_446 sx_IO (fun a9 => ?_)
    refine sv_astore (i := 4) C [(0, .ref (sv_r G 14 0)), (1, .int n), (2, .int t), (3, .ref (sv_r G 25 0)), (4, .ref a9)] dL_turn_13 (by decide) rfl ?_
    refine sv_iconst (v := nI 1) C dL_turn_15 (by decide) ?_
    exact sv_iret C hr dL_turn_16 (Nat.le_of_ble_eq_true rfl) (Nat.le_of_ble_eq_true rfl) (by rw [h9]) (sw_Rn h9)
  · intro ok
    refine sv_ri (fun v9 e9 => ?_)
    refine sv_i2l C dL_turn_8 ?_
    refine sv_last C dL_turn_9 ?_
    refine sv_goto C 17 dL_turn_10 (by decide) ?_
    refine sv_iconst (v := nI 0) C dL_turn_17 (by decide) ?_
    exact sv_iret C hr dL_turn_18 (Nat.le_of_ble_eq_true rfl) (Nat.le_of_ble_eq_true rfl) (by rw [ok]) (sw_R0 ok e9)
set_option maxHeartbeats 4000000 in
set_option maxRecDepth 100000 in
theorem met_L_press (l : Launch) (G : sv_G) (hl : l.stackTraces = false) (z : Nat) (M : sv_M) (o : Int64) (f : Int32) (od hd : Nat) (hod : od < 6) (h0 : M 8 0 = nI od) (h1 : M 8 1 = nI hd) (hd6 : hd ≤ 6) (b6 : M 0 6 = 0 ∨ M 0 6 = 1) (b7 : M 0 7 = 0 ∨ M 0 7 = 1) : Met l yL_press [.codeWith yL_press method_5_code 4 (some .int) [(0, 9, 12, 13)]] (sv_rm 8 1 6) (sv_Pc G (sv_W G z M o) [.ref (sv_r G 14 0), .int f, .ref (sv_r G 25 0)]) (sv_Qc G (sw_R (inC 8 f) (fun o9 => sv_W G z (sv_u (sav od hd M) 0 (sw (M 0 0) f.toNatClampNeg (M 0))) o9) (M 0 (6 * f.toNatClampNeg + 9)) (sv_Wz G z M o)) (some (.int (nI (inC 8 f))))) 1 6 (sv_A G) := by
  refine sw_ofW (by decide) (Nat.le_of_ble_eq_true rfl) ?_
  intro p e s mth args below meth c hr C ht
  refine sv_sub (lv' := [(0, .ref (sv_r G 14 0)), (1, .int f), (2, .ref (sv_r G 25 0))]) rfl ?_
  refine sv_aload_n (i := 2) (x := (sv_r G 25 0)) C dL_press_0 rfl rfl ?_
  refine sv_iconst (v := 0) C dL_press_1 (by decide) ?_
  refine sv_aload_n (i := 0) (x := (sv_r G 14 0)) C dL_press_2 rfl rfl ?_
  refine sv_iload_n (i := 1) (x := f) C dL_press_3 rfl rfl ?_
  refine sv_callVX (as := [_]) (rest := [.int 0, .ref (sv_r G 25 0)]) C (met_press l G hl z M o f od hd hod h0 h1 hd6 b6 b7) fX5_press kw_571 (sv_recv14 C) ⟨Nat.le_of_ble_eq_true rfl, Nat.le_of_ble_eq_true rfl⟩ (Nat.le_of_ble_eq_true rfl) dL_press_4 ⟨Nat.le_of_ble_eq_true rfl, Nat.le_of_ble_eq_true rfl⟩ (fun E hE => ?_) ?_
  · obtain ⟨h9, rfl⟩ := hE
    refine sv_catch C [] [] (0, 9, 12, 13) ht rfl (fun z hz => absurd hz List.not_mem_nil) rfl (by decide) kw_446 sx_IO (fun a9 => ?_)
    refine sv_astore_n (i := 3) C [(0, .ref (sv_r G 14 0)), (1, .int f), (2, .ref (sv_r G 25 0)), (3, .ref a9)] dL_press_12 rfl (by decide) rfl ?_
    refine sv_iconst (v := nI 1) C dL_press_13 (by decide) ?_
    exact sv_iret C hr dL_press_14 (Nat.le_of_ble_eq_true rfl) (Nat.le_of_ble_eq_true rfl) (by rw [h9]) (sw_Rn h9)
  · intro ok
    refine sv_ri (fun v9 e9 => ?_)
    refine sv_i2l C dL_press_7 ?_
    refine sv_last C dL_press_8 ?_
    refine sv_goto C 15 dL_press_9 (by decide) ?_
    refine sv_iconst (v := nI 0) C dL_press_15 (by decide) ?_
    exact sv_iret C hr dL_press_16 (Nat.le_of_ble_eq_true rfl) (Nat.le_of_ble_eq_true rfl) (by rw [ok]) (sw_R0 ok e9)
set_option maxHeartbeats 4000000 in
set_option maxRecDepth 100000 in
theorem met_L_sensor (l : Launch) (G : sv_G) (hl : l.stackTraces = false) (z : Nat) (M : sv_M) (o : Int64) (f b : Int32) (hb : b = 0 ∨ b = 1) (od hd : Nat) (hod : od < 6) (h0 : M 8 0 = nI od) (h1 : M 8 1 = nI hd) (hd6 : hd ≤ 6) (b6 : M 0 6 = 0 ∨ M 0 6 = 1) (b7 : M 0 7 = 0 ∨ M 0 7 = 1) : Met l yL_sensor [.codeWith yL_sensor method_6_code 5 (some .int) [(0, 10, 13, 13)]] (sv_rm 8 1 6) (sv_Pc G (sv_W G z M o) [.ref (sv_r G 14 0), .int f, .int b, .ref (sv_r G 25 0)]) (sv_Qc G (sw_R (inC 8 f) (fun o9 => sv_W G z (sv_u (sav od hd M) 0 (upd (M 0) (6 * f.toNatClampNeg + 10) b)) o9) (M 0 (6 * f.toNatClampNeg + 10)) (sv_Wz G z M o)) (some (.int (nI (inC 8 f))))) 1 6 (sv_A G) := by
  refine sw_ofW (by decide) (Nat.le_of_ble_eq_true rfl) ?_
  intro p e s mth args below meth c hr C ht
  refine sv_sub (lv' := [(0, .ref (sv_r G 14 0)), (1, .int f), (2, .int b), (3, .ref (sv_r G 25 0))]) rfl ?_
  refine sv_aload_n (i := 3) (x := (sv_r G 25 0)) C dL_sensor_0 rfl rfl ?_
  refine sv_iconst (v := 0) C dL_sensor_1 (by decide) ?_
  refine sv_aload_n (i := 0) (x := (sv_r G 14 0)) C dL_sensor_2 rfl rfl ?_
  refine sv_iload_n (i := 1) (x := f) C dL_sensor_3 rfl rfl ?_
  refine sv_iload_n (i := 2) (x := b) C dL_sensor_4 rfl rfl ?_
  refine sv_callVX (as := [_, _]) (rest := [.int 0, .ref (sv_r G 25 0)]) C (met_sensor l G hl z M o f b hb od hd hod h0 h1 hd6 b6 b7) fX5_sensor kw_579 (sv_recv14 C) ⟨Nat.le_of_ble_eq_true rfl, Nat.le_of_ble_eq_true rfl⟩ (Nat.le_of_ble_eq_true rfl) dL_sensor_5 ⟨Nat.le_of_ble_eq_true rfl, Nat.le_of_ble_eq_true rfl⟩ (fun E hE => ?_) ?_
  · obtain ⟨h9, rfl⟩ := hE
    refine sv_catch C [] [] (0, 10, 13, 13) ht rfl (fun z hz => absurd hz List.not_mem_nil) rfl (by decide) kw_446 sx_IO (fun a9 => ?_)
    refine sv_astore (i := 4) C [(0, .ref (sv_r G 14 0)), (1, .int f), (2, .int b), (3, .ref (sv_r G 25 0)), (4, .ref a9)] dL_sensor_13 (by decide) rfl ?_
    refine sv_iconst (v := nI 1) C dL_sensor_15 (by decide) ?_
    exact sv_iret C hr dL_sensor_16 (Nat.le_of_ble_eq_true rfl) (Nat.le_of_ble_eq_true rfl) (by rw [h9]) (sw_Rn h9)
  · intro ok
    refine sv_ri (fun v9 e9 => ?_)
    refine sv_i2l C dL_sensor_8 ?_
    refine sv_last C dL_sensor_9 ?_
    refine sv_goto C 17 dL_sensor_10 (by decide) ?_
    refine sv_iconst (v := nI 0) C dL_sensor_17 (by decide) ?_
    exact sv_iret C hr dL_sensor_18 (Nat.le_of_ble_eq_true rfl) (Nat.le_of_ble_eq_true rfl) (by rw [ok]) (sw_R0 ok e9)
set_option maxHeartbeats 4000000 in
set_option maxRecDepth 100000 in
theorem met_L_set (l : Launch) (G : sv_G) (hl : l.stackTraces = false) (z : Nat) (M : sv_M) (o : Int64) (f v : Int32) (od hd : Nat) (hod : od < 6) (h0 : M 8 0 = nI od) (h1 : M 8 1 = nI hd) (hd6 : hd ≤ 6) (b6 : M 0 6 = 0 ∨ M 0 6 = 1) (b7 : M 0 7 = 0 ∨ M 0 7 = 1) : Met l yL_set [.codeWith yL_set method_7_code 5 (some .int) [(0, 10, 13, 13), (0, 10, 17, 15)]] (sv_rm 8 2 12) (sv_Pc G (sv_W G z M o) [.ref (sv_r G 14 0), .int f, .int v, .ref (sv_r G 25 0)]) (sv_Qc G (sw_R (setC f v) (fun o9 => sv_W G z (sv_u (sav od hd M) 0 (upd (M 0) f.toNatClampNeg v)) o9) (M 0 f.toNatClampNeg) (sv_Wz G z M o)) (some (.int (nI (setC f v))))) 2 12 (sv_A G) := by
  refine sw_ofW (by decide) (Nat.le_of_ble_eq_true rfl) ?_
  intro p e s mth args below meth c hr C ht
  refine sv_sub (lv' := [(0, .ref (sv_r G 14 0)), (1, .int f), (2, .int v), (3, .ref (sv_r G 25 0))]) rfl ?_
  refine sv_aload_n (i := 3) (x := (sv_r G 25 0)) C dL_set_0 rfl rfl ?_
  refine sv_iconst (v := 0) C dL_set_1 (by decide) ?_
  refine sv_aload_n (i := 0) (x := (sv_r G 14 0)) C dL_set_2 rfl rfl ?_
  refine sv_iload_n (i := 1) (x := f) C dL_set_3 rfl rfl ?_
  refine sv_iload_n (i := 2) (x := v) C dL_set_4 rfl rfl ?_
  refine sv_callVX (as := [_, _]) (rest := [.int 0, .ref (sv_r G 25 0)]) C (met_set l G hl z M o f v od hd hod h0 h1 hd6 b6 b7) fX5_set kw_586 (sv_recv14 C) ⟨Nat.le_of_ble_eq_true rfl, Nat.le_of_ble_eq_true rfl⟩ (Nat.le_of_ble_eq_true rfl) dL_set_5 ⟨Nat.le_of_ble_eq_true rfl, Nat.le_of_ble_eq_true rfl⟩ (fun E hE => ?_) ?_
  · rcases hE with ⟨h9, rfl⟩ | ⟨h9, rfl⟩
    · refine sv_catch C [] [(0, 10, 17, 15)] (0, 10, 13, 13) ht rfl (fun z hz => absurd hz List.not_mem_nil) rfl (by decide) kw_446 sx_IO (fun a9 => ?_)
      refine sv_astore (i := 4) C [(0, .ref (sv_r G 14 0)), (1, .int f), (2, .int v), (3, .ref (sv_r G 25 0)), (4, .ref a9)] dL_set_13 (by decide) rfl ?_
      refine sv_iconst (v := nI 1) C dL_set_15 (by decide) ?_
      exact sv_iret C hr dL_set_16 (Nat.le_of_ble_eq_true rfl) (Nat.le_of_ble_eq_true rfl) (by rw [h9]) (sw_Rn h9)
    · refine sv_catch C [(0, 10, 13, 13)] [] (0, 10, 17, 15) ht rfl (List.forall_mem_cons.mpr ⟨⟨by decide, sv_IO, kw_446, sn_IA_IO C⟩, fun _ h => absurd h List.not_mem_nil⟩) rfl (by decide) kw_447 sx_IA (fun a9 => ?_)
      refine sv_astore (i := 4) C [(0, .ref (sv_r G 14 0)), (1, .int f), (2, .int v), (3, .ref (sv_r G 25 0)), (4, .ref a9)] dL_set_17 (by decide) rfl ?_
      refine sv_iconst (v := nI 2) C dL_set_19 (by decide) ?_
      exact sv_iret C hr dL_set_20 (Nat.le_of_ble_eq_true rfl) (Nat.le_of_ble_eq_true rfl) (by rw [h9]) (sw_Rn h9)
  · intro ok
    refine sv_ri (fun v9 e9 => ?_)
    refine sv_i2l C dL_set_8 ?_
    refine sv_last C dL_set_9 ?_
    refine sv_goto C 21 dL_set_10 (by decide) ?_
    refine sv_iconst (v := nI 0) C dL_set_21 (by decide) ?_
    exact sv_iret C hr dL_set_22 (Nat.le_of_ble_eq_true rfl) (Nat.le_of_ble_eq_true rfl) (by rw [ok]) (sw_R0 ok e9)
set_option maxHeartbeats 4000000 in
set_option maxRecDepth 100000 in
theorem met_L_pass (l : Launch) (G : sv_G) (hl : l.stackTraces = false) (z : Nat) (M : sv_M) (o : Int64) (t : Int32) (od hd : Nat) (hod : od < 6) (h0 : M 8 0 = nI od) (h1 : M 8 1 = nI hd) (hd6 : hd ≤ 6) (b6 : M 0 6 = 0 ∨ M 0 6 = 1) (b7 : M 0 7 = 0 ∨ M 0 7 = 1) (hv : vd (M 0)) : Met l yL_pass [.codeWith yL_pass method_8_code 4 (some .int) [(0, 9, 12, 15)]] (sv_rm 8 1 6) (sv_Pc G (sv_W G z M o) [.ref (sv_r G 14 0), .int t, .ref (sv_r G 25 0)]) (sv_Qc G (sw_R (secC t) (fun o9 => sv_W G z (sv_u (sav od hd M) 0 (passv t.toNatClampNeg (M 0))) o9) (dks (passv t.toNatClampNeg (M 0)) - dks (M 0)) (sv_Wz G z M o)) (some (.int (nI (secC t))))) 1 6 (sv_A G) := by
  refine sw_ofW (by decide) (Nat.le_of_ble_eq_true rfl) ?_
  intro p e s mth args below meth c hr C ht
  refine sv_sub (lv' := [(0, .ref (sv_r G 14 0)), (1, .int t), (2, .ref (sv_r G 25 0))]) rfl ?_
  refine sv_aload_n (i := 2) (x := (sv_r G 25 0)) C dL_pass_0 rfl rfl ?_
  refine sv_iconst (v := 0) C dL_pass_1 (by decide) ?_
  refine sv_aload_n (i := 0) (x := (sv_r G 14 0)) C dL_pass_2 rfl rfl ?_
  refine sv_iload_n (i := 1) (x := t) C dL_pass_3 rfl rfl ?_
  refine sv_callVX (as := [_]) (rest := [.int 0, .ref (sv_r G 25 0)]) C (met_pass l G hl z M o t od hd hod h0 h1 hd6 b6 b7 hv) fX5_pass kw_599 (sv_recv14 C) ⟨Nat.le_of_ble_eq_true rfl, Nat.le_of_ble_eq_true rfl⟩ (Nat.le_of_ble_eq_true rfl) dL_pass_4 ⟨Nat.le_of_ble_eq_true rfl, Nat.le_of_ble_eq_true rfl⟩ (fun E hE => ?_) ?_
  · obtain ⟨h9, rfl⟩ := hE
    refine sv_catch C [] [] (0, 9, 12, 15) ht rfl (fun z hz => absurd hz List.not_mem_nil) rfl (by decide) kw_447 sx_IA (fun a9 => ?_)
    refine sv_astore_n (i := 3) C [(0, .ref (sv_r G 14 0)), (1, .int t), (2, .ref (sv_r G 25 0)), (3, .ref a9)] dL_pass_12 rfl (by decide) rfl ?_
    refine sv_iconst (v := nI 1) C dL_pass_13 (by decide) ?_
    exact sv_iret C hr dL_pass_14 (Nat.le_of_ble_eq_true rfl) (Nat.le_of_ble_eq_true rfl) (by rw [h9]) (sw_Rn h9)
  · intro ok
    refine sv_ri (fun v9 e9 => ?_)
    refine sv_i2l C dL_pass_7 ?_
    refine sv_last C dL_pass_8 ?_
    refine sv_goto C 15 dL_pass_9 (by decide) ?_
    refine sv_iconst (v := nI 0) C dL_pass_15 (by decide) ?_
    exact sv_iret C hr dL_pass_16 (Nat.le_of_ble_eq_true rfl) (Nat.le_of_ble_eq_true rfl) (by rw [ok]) (sw_R0 ok e9)
set_option maxHeartbeats 4000000 in
set_option maxRecDepth 100000 in
theorem met_L_append (l : Launch) (G : sv_G) (hl : l.stackTraces = false) (z : Nat) (M : sv_M) (o : Int64) (f : Int32) (n9 : Nat) (hn9 : M 9 60 = nI n9) (hn60 : n9 ≤ 60) : Met l yL_append [.codeWith yL_append method_9_code 4 (some .int) [(0, 9, 12, 15), (0, 9, 15, 17)]] (sv_rm 7 1 6) (sv_Pc G (sv_W G z M o) [.ref (sv_r G 14 0), .int f, .ref (sv_r G 25 0)]) (sv_Qc G (sw_R (appC f n9) (fun o9 => sv_W G z (sv_u M 9 (upd (upd (M 9) n9 f) 60 (nI (n9 + 1)))) o9) (nI (n9 + 1)) (sv_Wz G z M o)) (some (.int (nI (appC f n9))))) 1 6 (sv_A G) := by
  refine sw_ofW (by decide) (Nat.le_of_ble_eq_true rfl) ?_
  intro p e s mth args below meth c hr C ht
  refine sv_sub (lv' := [(0, .ref (sv_r G 14 0)), (1, .int f), (2, .ref (sv_r G 25 0))]) rfl ?_
  refine sv_aload_n (i := 2) (x := (sv_r G 25 0)) C dL_append_0 rfl rfl ?_
  refine sv_iconst (v := 0) C dL_append_1 (by decide) ?_
  refine sv_aload_n (i := 0) (x := (sv_r G 14 0)) C dL_append_2 rfl rfl ?_
  refine sv_iload_n (i := 1) (x := f) C dL_append_3 rfl rfl ?_
  refine sv_callVX (as := [_]) (rest := [.int 0, .ref (sv_r G 25 0)]) C (met_append l G hl z M o f n9 hn9 hn60) fX5_append kw_610 (sv_recv14 C) ⟨Nat.le_of_ble_eq_true rfl, Nat.le_of_ble_eq_true rfl⟩ (Nat.le_of_ble_eq_true rfl) dL_append_4 ⟨Nat.le_of_ble_eq_true rfl, Nat.le_of_ble_eq_true rfl⟩ (fun E hE => ?_) ?_
  · rcases hE with ⟨h9, rfl⟩ | ⟨h9, rfl⟩
    · refine sv_catch C [] [(0, 9, 15, 17)] (0, 9, 12, 15) ht rfl (fun z hz => absurd hz List.not_mem_nil) rfl (by decide) kw_447 sx_IA (fun a9 => ?_)
      refine sv_astore_n (i := 3) C [(0, .ref (sv_r G 14 0)), (1, .int f), (2, .ref (sv_r G 25 0)), (3, .ref a9)] dL_append_12 rfl (by decide) rfl ?_
      refine sv_iconst (v := nI 1) C dL_append_13 (by decide) ?_
      exact sv_iret C hr dL_append_14 (Nat.le_of_ble_eq_true rfl) (Nat.le_of_ble_eq_true rfl) (by rw [h9]) (sw_Rn h9)
    · refine sv_catch C [(0, 9, 12, 15)] [] (0, 9, 15, 17) ht rfl (List.forall_mem_cons.mpr ⟨⟨by decide, sv_IA, kw_447, sn_IS_IA C⟩, fun _ h => absurd h List.not_mem_nil⟩) rfl (by decide) kw_448 sx_IS (fun a9 => ?_)
      refine sv_astore_n (i := 3) C [(0, .ref (sv_r G 14 0)), (1, .int f), (2, .ref (sv_r G 25 0)), (3, .ref a9)] dL_append_15 rfl (by decide) rfl ?_
      refine sv_iconst (v := nI 2) C dL_append_16 (by decide) ?_
      exact sv_iret C hr dL_append_17 (Nat.le_of_ble_eq_true rfl) (Nat.le_of_ble_eq_true rfl) (by rw [h9]) (sw_Rn h9)
  · intro ok
    refine sv_ri (fun v9 e9 => ?_)
    refine sv_i2l C dL_append_7 ?_
    refine sv_last C dL_append_8 ?_
    refine sv_goto C 18 dL_append_9 (by decide) ?_
    refine sv_iconst (v := nI 0) C dL_append_18 (by decide) ?_
    exact sv_iret C hr dL_append_19 (Nat.le_of_ble_eq_true rfl) (Nat.le_of_ble_eq_true rfl) (by rw [ok]) (sw_R0 ok e9)
set_option maxHeartbeats 4000000 in
set_option maxRecDepth 100000 in
theorem met_L_comeAll (l : Launch) (G : sv_G) (hl : l.stackTraces = false) (z : Nat) (M : sv_M) (o : Int64) (od hd : Nat) (hod : od < 6) (h0 : M 8 0 = nI od) (h1 : M 8 1 = nI hd) (hd6 : hd ≤ 6) (b6 : M 0 6 = 0 ∨ M 0 6 = 1) (b7 : M 0 7 = 0 ∨ M 0 7 = 1) (n9 : Nat) (hn9 : M 9 60 = nI n9) (hn60 : n9 ≤ 60) (hch : ∀ i, i < 60 → chr (M 9 i)) (hro : cmaC n9 (M 9) = 0 → ∀ i, i < (n9 + 1) / 4 → vd (cax (M 9) i (M 0)) ∧ many (wtd (cax (M 9) i (M 0))) < 6) : Met l yL_comeAll [.codeWith yL_comeAll method_10_code 3 (some .int) [(0, 8, 11, 15)]] (sv_rm 9 1 6) (sv_Pc G (sv_W G z M o) [.ref (sv_r G 14 0), .ref (sv_r G 25 0)]) (sv_Qc G (sw_R (cmaC n9 (M 9)) (fun o9 => sv_W G z (sv_u (sv_u (sav od hd M) 0 (cax (M 9) ((n9 + 1) / 4) (M 0))) 9 (upd (M 9) 60 0)) o9) (casI (M 9) (M 0) ((n9 + 1) / 4)) (sv_Wz G z M o)) (some (.int (nI (cmaC n9 (M 9)))))) 1 6 (sv_A G) := by
  refine sw_ofW (by decide) (Nat.le_of_ble_eq_true rfl) ?_
  intro p e s mth args below meth c hr C ht
  refine sv_sub (lv' := [(0, .ref (sv_r G 14 0)), (1, .ref (sv_r G 25 0))]) rfl ?_
  refine sv_aload_n (i := 1) (x := (sv_r G 25 0)) C dL_comeAll_0 rfl rfl ?_
  refine sv_iconst (v := 0) C dL_comeAll_1 (by decide) ?_
  refine sv_aload_n (i := 0) (x := (sv_r G 14 0)) C dL_comeAll_2 rfl rfl ?_
  refine sv_callVX (as := []) (rest := [.int 0, .ref (sv_r G 25 0)]) C (met_comeAll l G hl z M o od hd hod h0 h1 hd6 b6 b7 n9 hn9 hn60 hch hro) fX5_comeAll kw_623 (sv_recv14 C) ⟨Nat.le_of_ble_eq_true rfl, Nat.le_of_ble_eq_true rfl⟩ (Nat.le_of_ble_eq_true rfl) dL_comeAll_3 ⟨Nat.le_of_ble_eq_true rfl, Nat.le_of_ble_eq_true rfl⟩ (fun E hE => ?_) ?_
  · obtain ⟨h9, rfl⟩ := hE
    refine sv_catch C [] [] (0, 8, 11, 15) ht rfl (fun z hz => absurd hz List.not_mem_nil) rfl (by decide) kw_447 sx_IA (fun a9 => ?_)
    refine sv_astore_n (i := 2) C [(0, .ref (sv_r G 14 0)), (1, .ref (sv_r G 25 0)), (2, .ref a9)] dL_comeAll_11 rfl (by decide) rfl ?_
    refine sv_iconst (v := nI 1) C dL_comeAll_12 (by decide) ?_
    exact sv_iret C hr dL_comeAll_13 (Nat.le_of_ble_eq_true rfl) (Nat.le_of_ble_eq_true rfl) (by rw [h9]) (sw_Rn h9)
  · intro ok
    refine sv_ri (fun v9 e9 => ?_)
    refine sv_i2l C dL_comeAll_6 ?_
    refine sv_last C dL_comeAll_7 ?_
    refine sv_goto C 14 dL_comeAll_8 (by decide) ?_
    refine sv_iconst (v := nI 0) C dL_comeAll_14 (by decide) ?_
    exact sv_iret C hr dL_comeAll_15 (Nat.le_of_ble_eq_true rfl) (Nat.le_of_ble_eq_true rfl) (by rw [ok]) (sw_R0 ok e9)
set_option maxHeartbeats 4000000 in
set_option maxRecDepth 100000 in
theorem met_L_undo (l : Launch) (G : sv_G) (hl : l.stackTraces = false) (z : Nat) (M : sv_M) (o : Int64) (od hd k : Nat) (hod : od < 6) (h0 : M 8 0 = nI od) (h1 : M 8 1 = nI hd) (hd6 : hd ≤ 6) (hk : k = (od + (hd - 1)) % 6) (b6 : 0 < hd → (M (2 + k) 6 = 0 ∨ M (2 + k) 6 = 1)) (b7 : 0 < hd → (M (2 + k) 7 = 0 ∨ M (2 + k) 7 = 1)) : Met l yL_undo [.codeWith yL_undo method_11_code 3 (some .int) [(0, 8, 11, 17)]] (sv_rm 7 1 6) (sv_Pc G (sv_W G z M o) [.ref (sv_r G 14 0), .ref (sv_r G 25 0)]) (sv_Qc G (sw_R (undC hd) (fun o9 => sv_W G z (rsM (hd - 1) k M) o9) (nI (hd - 1)) (sv_Wz G z M o)) (some (.int (nI (undC hd))))) 1 6 (sv_A G) := by
  refine sw_ofW (by decide) (Nat.le_of_ble_eq_true rfl) ?_
  intro p e s mth args below meth c hr C ht
  refine sv_sub (lv' := [(0, .ref (sv_r G 14 0)), (1, .ref (sv_r G 25 0))]) rfl ?_
  refine sv_aload_n (i := 1) (x := (sv_r G 25 0)) C dL_undo_0 rfl rfl ?_
  refine sv_iconst (v := 0) C dL_undo_1 (by decide) ?_
  refine sv_aload_n (i := 0) (x := (sv_r G 14 0)) C dL_undo_2 rfl rfl ?_
  refine sv_callVX (as := []) (rest := [.int 0, .ref (sv_r G 25 0)]) C (met_undo l G hl z M o od hd k hod h0 h1 hd6 hk b6 b7) fX5_undo kw_653 (sv_recv14 C) ⟨Nat.le_of_ble_eq_true rfl, Nat.le_of_ble_eq_true rfl⟩ (Nat.le_of_ble_eq_true rfl) dL_undo_3 ⟨Nat.le_of_ble_eq_true rfl, Nat.le_of_ble_eq_true rfl⟩ (fun E hE => ?_) ?_
  · obtain ⟨h9, rfl⟩ := hE
    refine sv_catch C [] [] (0, 8, 11, 17) ht rfl (fun z hz => absurd hz List.not_mem_nil) rfl (by decide) kw_448 sx_IS (fun a9 => ?_)
    refine sv_astore_n (i := 2) C [(0, .ref (sv_r G 14 0)), (1, .ref (sv_r G 25 0)), (2, .ref a9)] dL_undo_11 rfl (by decide) rfl ?_
    refine sv_iconst (v := nI 1) C dL_undo_12 (by decide) ?_
    exact sv_iret C hr dL_undo_13 (Nat.le_of_ble_eq_true rfl) (Nat.le_of_ble_eq_true rfl) (by rw [h9]) (sw_Rn h9)
  · intro ok
    refine sv_ri (fun v9 e9 => ?_)
    refine sv_i2l C dL_undo_6 ?_
    refine sv_last C dL_undo_7 ?_
    refine sv_goto C 14 dL_undo_8 (by decide) ?_
    refine sv_iconst (v := nI 0) C dL_undo_14 (by decide) ?_
    exact sv_iret C hr dL_undo_15 (Nat.le_of_ble_eq_true rfl) (Nat.le_of_ble_eq_true rfl) (by rw [ok]) (sw_R0 ok e9)
set_option maxHeartbeats 4000000 in
set_option maxRecDepth 100000 in
theorem met_L_floor (l : Launch) (G : sv_G) (hl : l.stackTraces = false) (z : Nat) (M : sv_M) (o : Int64) (f v : Int32) (m : Nat) (hm : M 0 57 = nI m) (hm7 : m ≤ 6) (b6 : M 0 6 = 0 ∨ M 0 6 = 1) (b7 : M 0 7 = 0 ∨ M 0 7 = 1) : Met l yL_floor [.codeWith yL_floor method_12_code 5 (some .int) [(0, 10, 13, 13), (0, 10, 17, 15)]] (sv_rm 8 2 12) (sv_Pc G (sv_W G z M o) [.ref (sv_r G 14 0), .int f, .int v, .ref (sv_r G 25 0)]) (sv_Qc G (sw_R (floC f v) (fun o9 => sv_W G z M o9) (fnv m (M 0) f.toNatClampNeg v.toNatClampNeg) (sv_Wz G z M o)) (some (.int (nI (floC f v))))) 2 12 (sv_A G) := by
  refine sw_ofW (by decide) (Nat.le_of_ble_eq_true rfl) ?_
  intro p e s mth args below meth c hr C ht
  refine sv_sub (lv' := [(0, .ref (sv_r G 14 0)), (1, .int f), (2, .int v), (3, .ref (sv_r G 25 0))]) rfl ?_
  refine sv_aload_n (i := 3) (x := (sv_r G 25 0)) C dL_floor_0 rfl rfl ?_
  refine sv_iconst (v := 0) C dL_floor_1 (by decide) ?_
  refine sv_aload_n (i := 0) (x := (sv_r G 14 0)) C dL_floor_2 rfl rfl ?_
  refine sv_iload_n (i := 1) (x := f) C dL_floor_3 rfl rfl ?_
  refine sv_iload_n (i := 2) (x := v) C dL_floor_4 rfl rfl ?_
  refine sv_callVX (as := [_, _]) (rest := [.int 0, .ref (sv_r G 25 0)]) C (met_floor l G hl z M o f v m hm hm7 b6 b7) fX5_floor kw_665 (sv_recv14 C) ⟨Nat.le_of_ble_eq_true rfl, Nat.le_of_ble_eq_true rfl⟩ (Nat.le_of_ble_eq_true rfl) dL_floor_5 ⟨Nat.le_of_ble_eq_true rfl, Nat.le_of_ble_eq_true rfl⟩ (fun E hE => ?_) ?_
  · rcases hE with ⟨h9, rfl⟩ | ⟨h9, rfl⟩
    · refine sv_catch C [] [(0, 10, 17, 15)] (0, 10, 13, 13) ht rfl (fun z hz => absurd hz List.not_mem_nil) rfl (by decide) kw_446 sx_IO (fun a9 => ?_)
      refine sv_astore (i := 4) C [(0, .ref (sv_r G 14 0)), (1, .int f), (2, .int v), (3, .ref (sv_r G 25 0)), (4, .ref a9)] dL_floor_13 (by decide) rfl ?_
      refine sv_iconst (v := nI 1) C dL_floor_15 (by decide) ?_
      exact sv_iret C hr dL_floor_16 (Nat.le_of_ble_eq_true rfl) (Nat.le_of_ble_eq_true rfl) (by rw [h9]) (sw_Rn h9)
    · refine sv_catch C [(0, 10, 13, 13)] [] (0, 10, 17, 15) ht rfl (List.forall_mem_cons.mpr ⟨⟨by decide, sv_IO, kw_446, sn_IA_IO C⟩, fun _ h => absurd h List.not_mem_nil⟩) rfl (by decide) kw_447 sx_IA (fun a9 => ?_)
      refine sv_astore (i := 4) C [(0, .ref (sv_r G 14 0)), (1, .int f), (2, .int v), (3, .ref (sv_r G 25 0)), (4, .ref a9)] dL_floor_17 (by decide) rfl ?_
      refine sv_iconst (v := nI 2) C dL_floor_19 (by decide) ?_
      exact sv_iret C hr dL_floor_20 (Nat.le_of_ble_eq_true rfl) (Nat.le_of_ble_eq_true rfl) (by rw [h9]) (sw_Rn h9)
  · intro ok
    refine sv_ri (fun v9 e9 => ?_)
    refine sv_i2l C dL_floor_8 ?_
    refine sv_last C dL_floor_9 ?_
    refine sv_goto C 21 dL_floor_10 (by decide) ?_
    refine sv_iconst (v := nI 0) C dL_floor_21 (by decide) ?_
    exact sv_iret C hr dL_floor_22 (Nat.le_of_ble_eq_true rfl) (Nat.le_of_ble_eq_true rfl) (by rw [ok]) (sw_R0 ok e9)
set_option maxHeartbeats 4000000 in
set_option maxRecDepth 100000 in
theorem met_L_person (l : Launch) (G : sv_G) (hl : l.stackTraces = false) (z : Nat) (M : sv_M) (o : Int64) (f v : Int32) (m : Nat) (hm : M 0 57 = nI m) (hm7 : m ≤ 6) : Met l yL_person [.codeWith yL_person method_13_code 5 (some .int) [(0, 10, 13, 15)]] (sv_rm 8 1 6) (sv_Pc G (sv_W G z M o) [.ref (sv_r G 14 0), .int f, .int v, .ref (sv_r G 25 0)]) (sv_Qc G (sw_R (perC f v) (fun o9 => sv_W G z M o9) (if f.toNatClampNeg < m then M 0 (4 * f.toNatClampNeg + 58 + v.toNatClampNeg) else (-1)) (sv_Wz G z M o)) (some (.int (nI (perC f v))))) 1 6 (sv_A G) := by
  refine sw_ofW (by decide) (Nat.le_of_ble_eq_true rfl) ?_
  intro p e s mth args below meth c hr C ht
  refine sv_sub (lv' := [(0, .ref (sv_r G 14 0)), (1, .int f), (2, .int v), (3, .ref (sv_r G 25 0))]) rfl ?_
  refine sv_aload_n (i := 3) (x := (sv_r G 25 0)) C dL_person_0 rfl rfl ?_
  refine sv_iconst (v := 0) C dL_person_1 (by decide) ?_
  refine sv_aload_n (i := 0) (x := (sv_r G 14 0)) C dL_person_2 rfl rfl ?_
  refine sv_iload_n (i := 1) (x := f) C dL_person_3 rfl rfl ?_
  refine sv_iload_n (i := 2) (x := v) C dL_person_4 rfl rfl ?_
  refine sv_callVX (as := [_, _]) (rest := [.int 0, .ref (sv_r G 25 0)]) C (met_person l G hl z M o f v m hm hm7) fX5_person kw_676 (sv_recv14 C) ⟨Nat.le_of_ble_eq_true rfl, Nat.le_of_ble_eq_true rfl⟩ (Nat.le_of_ble_eq_true rfl) dL_person_5 ⟨Nat.le_of_ble_eq_true rfl, Nat.le_of_ble_eq_true rfl⟩ (fun E hE => ?_) ?_
  · obtain ⟨h9, rfl⟩ := hE
    refine sv_catch C [] [] (0, 10, 13, 15) ht rfl (fun z hz => absurd hz List.not_mem_nil) rfl (by decide) kw_447 sx_IA (fun a9 => ?_)
    refine sv_astore (i := 4) C [(0, .ref (sv_r G 14 0)), (1, .int f), (2, .int v), (3, .ref (sv_r G 25 0)), (4, .ref a9)] dL_person_13 (by decide) rfl ?_
    refine sv_iconst (v := nI 1) C dL_person_15 (by decide) ?_
    exact sv_iret C hr dL_person_16 (Nat.le_of_ble_eq_true rfl) (Nat.le_of_ble_eq_true rfl) (by rw [h9]) (sw_Rn h9)
  · intro ok
    refine sv_ri (fun v9 e9 => ?_)
    refine sv_i2l C dL_person_8 ?_
    refine sv_last C dL_person_9 ?_
    refine sv_goto C 17 dL_person_10 (by decide) ?_
    refine sv_iconst (v := nI 0) C dL_person_17 (by decide) ?_
    exact sv_iret C hr dL_person_18 (Nat.le_of_ble_eq_true rfl) (Nat.le_of_ble_eq_true rfl) (by rw [ok]) (sw_R0 ok e9)
set_option maxHeartbeats 4000000 in
set_option maxRecDepth 100000 in
theorem met_L_count (l : Launch) (G : sv_G) (hl : l.stackTraces = false) (z : Nat) (M : sv_M) (o : Int64) (f : Int32) (hd : Nat) (h1 : M 8 1 = nI hd) (b6 : M 0 6 = 0 ∨ M 0 6 = 1) (b7 : M 0 7 = 0 ∨ M 0 7 = 1) : Met l yL_count [.codeWith yL_count method_14_code 4 (some .int) [(0, 9, 12, 15)]] (sv_rm 8 1 6) (sv_Pc G (sv_W G z M o) [.ref (sv_r G 14 0), .int f, .ref (sv_r G 25 0)]) (sv_Qc G (sw_R (inC 11 f) (fun o9 => sv_W G z M o9) (couv (M 0) hd f.toNatClampNeg) (sv_Wz G z M o)) (some (.int (nI (inC 11 f))))) 1 6 (sv_A G) := by
  refine sw_ofW (by decide) (Nat.le_of_ble_eq_true rfl) ?_
  intro p e s mth args below meth c hr C ht
  refine sv_sub (lv' := [(0, .ref (sv_r G 14 0)), (1, .int f), (2, .ref (sv_r G 25 0))]) rfl ?_
  refine sv_aload_n (i := 2) (x := (sv_r G 25 0)) C dL_count_0 rfl rfl ?_
  refine sv_iconst (v := 0) C dL_count_1 (by decide) ?_
  refine sv_aload_n (i := 0) (x := (sv_r G 14 0)) C dL_count_2 rfl rfl ?_
  refine sv_iload_n (i := 1) (x := f) C dL_count_3 rfl rfl ?_
  refine sv_callVX (as := [_]) (rest := [.int 0, .ref (sv_r G 25 0)]) C (met_count l G hl z M o f hd h1 b6 b7) fX5_count kw_684 (sv_recv14 C) ⟨Nat.le_of_ble_eq_true rfl, Nat.le_of_ble_eq_true rfl⟩ (Nat.le_of_ble_eq_true rfl) dL_count_4 ⟨Nat.le_of_ble_eq_true rfl, Nat.le_of_ble_eq_true rfl⟩ (fun E hE => ?_) ?_
  · obtain ⟨h9, rfl⟩ := hE
    refine sv_catch C [] [] (0, 9, 12, 15) ht rfl (fun z hz => absurd hz List.not_mem_nil) rfl (by decide) kw_447 sx_IA (fun a9 => ?_)
    refine sv_astore_n (i := 3) C [(0, .ref (sv_r G 14 0)), (1, .int f), (2, .ref (sv_r G 25 0)), (3, .ref a9)] dL_count_12 rfl (by decide) rfl ?_
    refine sv_iconst (v := nI 1) C dL_count_13 (by decide) ?_
    exact sv_iret C hr dL_count_14 (Nat.le_of_ble_eq_true rfl) (Nat.le_of_ble_eq_true rfl) (by rw [h9]) (sw_Rn h9)
  · intro ok
    refine sv_ri (fun v9 e9 => ?_)
    refine sv_i2l C dL_count_7 ?_
    refine sv_last C dL_count_8 ?_
    refine sv_goto C 15 dL_count_9 (by decide) ?_
    refine sv_iconst (v := nI 0) C dL_count_15 (by decide) ?_
    exact sv_iret C hr dL_count_16 (Nat.le_of_ble_eq_true rfl) (Nat.le_of_ble_eq_true rfl) (by rw [ok]) (sw_R0 ok e9)
set_option maxHeartbeats 4000000 in
set_option maxRecDepth 100000 in
theorem met_L_setting (l : Launch) (G : sv_G) (hl : l.stackTraces = false) (z : Nat) (M : sv_M) (o : Int64) (f : Int32) : Met l yL_setting [.codeWith yL_setting method_15_code 4 (some .int) [(0, 9, 12, 13)]] (sv_rm 8 1 6) (sv_Pc G (sv_W G z M o) [.ref (sv_r G 14 0), .int f, .ref (sv_r G 25 0)]) (sv_Qc G (sw_R (inC 4 f) (fun o9 => sv_W G z M o9) (M 0 f.toNatClampNeg) (sv_Wz G z M o)) (some (.int (nI (inC 4 f))))) 1 6 (sv_A G) := by
  refine sw_ofW (by decide) (Nat.le_of_ble_eq_true rfl) ?_
  intro p e s mth args below meth c hr C ht
  refine sv_sub (lv' := [(0, .ref (sv_r G 14 0)), (1, .int f), (2, .ref (sv_r G 25 0))]) rfl ?_
  refine sv_aload_n (i := 2) (x := (sv_r G 25 0)) C dL_setting_0 rfl rfl ?_
  refine sv_iconst (v := 0) C dL_setting_1 (by decide) ?_
  refine sv_aload_n (i := 0) (x := (sv_r G 14 0)) C dL_setting_2 rfl rfl ?_
  refine sv_iload_n (i := 1) (x := f) C dL_setting_3 rfl rfl ?_
  refine sv_callVX (as := [_]) (rest := [.int 0, .ref (sv_r G 25 0)]) C (met_setting l G hl z M o f) fX5_setting kw_691 (sv_recv14 C) ⟨Nat.le_of_ble_eq_true rfl, Nat.le_of_ble_eq_true rfl⟩ (Nat.le_of_ble_eq_true rfl) dL_setting_4 ⟨Nat.le_of_ble_eq_true rfl, Nat.le_of_ble_eq_true rfl⟩ (fun E hE => ?_) ?_
  · obtain ⟨h9, rfl⟩ := hE
    refine sv_catch C [] [] (0, 9, 12, 13) ht rfl (fun z hz => absurd hz List.not_mem_nil) rfl (by decide) kw_446 sx_IO (fun a9 => ?_)
    refine sv_astore_n (i := 3) C [(0, .ref (sv_r G 14 0)), (1, .int f), (2, .ref (sv_r G 25 0)), (3, .ref a9)] dL_setting_12 rfl (by decide) rfl ?_
    refine sv_iconst (v := nI 1) C dL_setting_13 (by decide) ?_
    exact sv_iret C hr dL_setting_14 (Nat.le_of_ble_eq_true rfl) (Nat.le_of_ble_eq_true rfl) (by rw [h9]) (sw_Rn h9)
  · intro ok
    refine sv_ri (fun v9 e9 => ?_)
    refine sv_i2l C dL_setting_7 ?_
    refine sv_last C dL_setting_8 ?_
    refine sv_goto C 15 dL_setting_9 (by decide) ?_
    refine sv_iconst (v := nI 0) C dL_setting_15 (by decide) ?_
    exact sv_iret C hr dL_setting_16 (Nat.le_of_ble_eq_true rfl) (Nat.le_of_ble_eq_true rfl) (by rw [ok]) (sw_R0 ok e9)
set_option maxHeartbeats 4000000 in
set_option maxRecDepth 100000 in
theorem met_L_ifPassed (l : Launch) (G : sv_G) (hl : l.stackTraces = false) (z : Nat) (M : sv_M) (o : Int64) (f v : Int32) (b6 : M 0 6 = 0 ∨ M 0 6 = 1) (b7 : M 0 7 = 0 ∨ M 0 7 = 1) (hv : vd (M 0)) : Met l yL_ifPassed [.codeWith yL_ifPassed method_16_code 5 (some .int) [(0, 10, 13, 15)]] (sv_rm 9 2 12) (sv_Pc G (sv_W G z M o) [.ref (sv_r G 14 0), .int f, .int v, .ref (sv_r G 25 0)]) (sv_Qc G (sw_R (ifpC f v) (fun o9 => sv_W1 G z M o9) (outv (M 0) f.toNatClampNeg v.toNatClampNeg) (sv_Wz G z M o)) (some (.int (nI (ifpC f v))))) 2 12 (sv_A G) := by
  refine sw_ofW (by decide) (Nat.le_of_ble_eq_true rfl) ?_
  intro p e s mth args below meth c hr C ht
  refine sv_sub (lv' := [(0, .ref (sv_r G 14 0)), (1, .int f), (2, .int v), (3, .ref (sv_r G 25 0))]) rfl ?_
  refine sv_aload_n (i := 3) (x := (sv_r G 25 0)) C dL_ifPassed_0 rfl rfl ?_
  refine sv_iconst (v := 0) C dL_ifPassed_1 (by decide) ?_
  refine sv_aload_n (i := 0) (x := (sv_r G 14 0)) C dL_ifPassed_2 rfl rfl ?_
  refine sv_iload_n (i := 1) (x := f) C dL_ifPassed_3 rfl rfl ?_
  refine sv_iload_n (i := 2) (x := v) C dL_ifPassed_4 rfl rfl ?_
  refine sv_callVX (as := [_, _]) (rest := [.int 0, .ref (sv_r G 25 0)]) C (met_ifPassed l G hl z M o f v b6 b7 hv) fX5_ifPassed kw_698 (sv_recv14 C) ⟨Nat.le_of_ble_eq_true rfl, Nat.le_of_ble_eq_true rfl⟩ (Nat.le_of_ble_eq_true rfl) dL_ifPassed_5 ⟨Nat.le_of_ble_eq_true rfl, Nat.le_of_ble_eq_true rfl⟩ (fun E hE => ?_) ?_
  · obtain ⟨h9, rfl⟩ := hE
    refine sv_catch C [] [] (0, 10, 13, 15) ht rfl (fun z hz => absurd hz List.not_mem_nil) rfl (by decide) kw_447 sx_IA (fun a9 => ?_)
    refine sv_astore (i := 4) C [(0, .ref (sv_r G 14 0)), (1, .int f), (2, .int v), (3, .ref (sv_r G 25 0)), (4, .ref a9)] dL_ifPassed_13 (by decide) rfl ?_
    refine sv_iconst (v := nI 1) C dL_ifPassed_15 (by decide) ?_
    exact sv_iret C hr dL_ifPassed_16 (Nat.le_of_ble_eq_true rfl) (Nat.le_of_ble_eq_true rfl) (by rw [h9]) (sw_Rn h9)
  · intro ok
    refine sv_exW (fun y9 => ?_)
    refine sv_ri (fun v9 e9 => ?_)
    refine sv_i2l C dL_ifPassed_8 ?_
    refine sv_last C dL_ifPassed_9 ?_
    refine sv_goto C 17 dL_ifPassed_10 (by decide) ?_
    refine sv_iconst (v := nI 0) C dL_ifPassed_17 (by decide) ?_
    exact sv_iret C hr dL_ifPassed_18 (Nat.le_of_ble_eq_true rfl) (Nat.le_of_ble_eq_true rfl) (by rw [ok]) (fun H h => sw_R0 ok e9 H (sv_W1_of H h))
set_option maxHeartbeats 4000000 in
set_option maxRecDepth 100000 in
theorem met_L_dark (l : Launch) (G : sv_G) (hl : l.stackTraces = false) (z : Nat) (M : sv_M) (o : Int64) (f t : Int32) (hv : vd (M 0)) (m : Nat) (hm : M 0 57 = nI m) (hm7 : m ≤ 6) : Met l yL_dark [.codeWith yL_dark method_17_code 5 (some .int) [(0, 10, 13, 13), (0, 10, 17, 15)]] (sv_rm 9 3 18) (sv_Pc G (sv_W G z M o) [.ref (sv_r G 14 0), .int f, .int t, .ref (sv_r G 25 0)]) (sv_Qc G (sw_R (wayC f t) (fun o9 => sv_W1 G z M o9) (dkw f t (M 0 0) (M 0)) (sv_Wz G z M o)) (some (.int (nI (wayC f t))))) 3 18 (sv_A G) := by
  refine sw_ofW (by decide) (Nat.le_of_ble_eq_true rfl) ?_
  intro p e s mth args below meth c hr C ht
  refine sv_sub (lv' := [(0, .ref (sv_r G 14 0)), (1, .int f), (2, .int t), (3, .ref (sv_r G 25 0))]) rfl ?_
  refine sv_aload_n (i := 3) (x := (sv_r G 25 0)) C dL_dark_0 rfl rfl ?_
  refine sv_iconst (v := 0) C dL_dark_1 (by decide) ?_
  refine sv_aload_n (i := 0) (x := (sv_r G 14 0)) C dL_dark_2 rfl rfl ?_
  refine sv_iload_n (i := 1) (x := f) C dL_dark_3 rfl rfl ?_
  refine sv_iload_n (i := 2) (x := t) C dL_dark_4 rfl rfl ?_
  refine sv_callVX (as := [_, _]) (rest := [.int 0, .ref (sv_r G 25 0)]) C (met_dark l G hl z M o f t hv m hm hm7) fX5_dark kw_705 (sv_recv14 C) ⟨Nat.le_of_ble_eq_true rfl, Nat.le_of_ble_eq_true rfl⟩ (Nat.le_of_ble_eq_true rfl) dL_dark_5 ⟨Nat.le_of_ble_eq_true rfl, Nat.le_of_ble_eq_true rfl⟩ (fun E hE => ?_) ?_
  · rcases hE with ⟨h9, rfl⟩ | ⟨h9, rfl⟩
    · refine sv_catch C [] [(0, 10, 17, 15)] (0, 10, 13, 13) ht rfl (fun z hz => absurd hz List.not_mem_nil) rfl (by decide) kw_446 sx_IO (fun a9 => ?_)
      refine sv_astore (i := 4) C [(0, .ref (sv_r G 14 0)), (1, .int f), (2, .int t), (3, .ref (sv_r G 25 0)), (4, .ref a9)] dL_dark_13 (by decide) rfl ?_
      refine sv_iconst (v := nI 1) C dL_dark_15 (by decide) ?_
      exact sv_iret C hr dL_dark_16 (Nat.le_of_ble_eq_true rfl) (Nat.le_of_ble_eq_true rfl) (by rw [h9]) (sw_Rn h9)
    · refine sv_catch C [(0, 10, 13, 13)] [] (0, 10, 17, 15) ht rfl (List.forall_mem_cons.mpr ⟨⟨by decide, sv_IO, kw_446, sn_IA_IO C⟩, fun _ h => absurd h List.not_mem_nil⟩) rfl (by decide) kw_447 sx_IA (fun a9 => ?_)
      refine sv_astore (i := 4) C [(0, .ref (sv_r G 14 0)), (1, .int f), (2, .int t), (3, .ref (sv_r G 25 0)), (4, .ref a9)] dL_dark_17 (by decide) rfl ?_
      refine sv_iconst (v := nI 2) C dL_dark_19 (by decide) ?_
      exact sv_iret C hr dL_dark_20 (Nat.le_of_ble_eq_true rfl) (Nat.le_of_ble_eq_true rfl) (by rw [h9]) (sw_Rn h9)
  · intro ok
    refine sv_exW (fun y9 => ?_)
    refine sv_ri (fun v9 e9 => ?_)
    refine sv_i2l C dL_dark_8 ?_
    refine sv_last C dL_dark_9 ?_
    refine sv_goto C 21 dL_dark_10 (by decide) ?_
    refine sv_iconst (v := nI 0) C dL_dark_21 (by decide) ?_
    exact sv_iret C hr dL_dark_22 (Nat.le_of_ble_eq_true rfl) (Nat.le_of_ble_eq_true rfl) (by rw [ok]) (fun H h => sw_R0 ok e9 H (sv_W1_of H h))
set_option maxHeartbeats 4000000 in
set_option maxRecDepth 100000 in
theorem met_L_leastTime (l : Launch) (G : sv_G) (hl : l.stackTraces = false) (z : Nat) (M : sv_M) (o : Int64) (f t : Int32) (hv : vd (M 0)) (m : Nat) (hm : M 0 57 = nI m) (hm7 : m ≤ 6) : Met l yL_leastTime [.codeWith yL_leastTime method_18_code 5 (some .int) [(0, 10, 13, 13), (0, 10, 17, 15)]] (sv_rm 10 3 18) (sv_Pc G (sv_W G z M o) [.ref (sv_r G 14 0), .int f, .int t, .ref (sv_r G 25 0)]) (sv_Qc G (sw_R (wayC f t) (fun o9 => sv_W1 G z M o9) (nI (lbt f t (M 0))) (sv_Wz G z M o)) (some (.int (nI (wayC f t))))) 3 18 (sv_A G) := by
  refine sw_ofW (by decide) (Nat.le_of_ble_eq_true rfl) ?_
  intro p e s mth args below meth c hr C ht
  refine sv_sub (lv' := [(0, .ref (sv_r G 14 0)), (1, .int f), (2, .int t), (3, .ref (sv_r G 25 0))]) rfl ?_
  refine sv_aload_n (i := 3) (x := (sv_r G 25 0)) C dL_leastTime_0 rfl rfl ?_
  refine sv_iconst (v := 0) C dL_leastTime_1 (by decide) ?_
  refine sv_aload_n (i := 0) (x := (sv_r G 14 0)) C dL_leastTime_2 rfl rfl ?_
  refine sv_iload_n (i := 1) (x := f) C dL_leastTime_3 rfl rfl ?_
  refine sv_iload_n (i := 2) (x := t) C dL_leastTime_4 rfl rfl ?_
  refine sv_callVX (as := [_, _]) (rest := [.int 0, .ref (sv_r G 25 0)]) C (met_leastTime l G hl z M o f t hv m hm hm7) fX5_leastTime kw_712 (sv_recv14 C) ⟨Nat.le_of_ble_eq_true rfl, Nat.le_of_ble_eq_true rfl⟩ (Nat.le_of_ble_eq_true rfl) dL_leastTime_5 ⟨Nat.le_of_ble_eq_true rfl, Nat.le_of_ble_eq_true rfl⟩ (fun E hE => ?_) ?_
  · rcases hE with ⟨h9, rfl⟩ | ⟨h9, rfl⟩
    · refine sv_catch C [] [(0, 10, 17, 15)] (0, 10, 13, 13) ht rfl (fun z hz => absurd hz List.not_mem_nil) rfl (by decide) kw_446 sx_IO (fun a9 => ?_)
      refine sv_astore (i := 4) C [(0, .ref (sv_r G 14 0)), (1, .int f), (2, .int t), (3, .ref (sv_r G 25 0)), (4, .ref a9)] dL_leastTime_13 (by decide) rfl ?_
      refine sv_iconst (v := nI 1) C dL_leastTime_15 (by decide) ?_
      exact sv_iret C hr dL_leastTime_16 (Nat.le_of_ble_eq_true rfl) (Nat.le_of_ble_eq_true rfl) (by rw [h9]) (sw_Rn h9)
    · refine sv_catch C [(0, 10, 13, 13)] [] (0, 10, 17, 15) ht rfl (List.forall_mem_cons.mpr ⟨⟨by decide, sv_IO, kw_446, sn_IA_IO C⟩, fun _ h => absurd h List.not_mem_nil⟩) rfl (by decide) kw_447 sx_IA (fun a9 => ?_)
      refine sv_astore (i := 4) C [(0, .ref (sv_r G 14 0)), (1, .int f), (2, .int t), (3, .ref (sv_r G 25 0)), (4, .ref a9)] dL_leastTime_17 (by decide) rfl ?_
      refine sv_iconst (v := nI 2) C dL_leastTime_19 (by decide) ?_
      exact sv_iret C hr dL_leastTime_20 (Nat.le_of_ble_eq_true rfl) (Nat.le_of_ble_eq_true rfl) (by rw [h9]) (sw_Rn h9)
  · intro ok
    refine sv_exW (fun y9 => ?_)
    refine sv_ri (fun v9 e9 => ?_)
    refine sv_i2l C dL_leastTime_8 ?_
    refine sv_last C dL_leastTime_9 ?_
    refine sv_goto C 21 dL_leastTime_10 (by decide) ?_
    refine sv_iconst (v := nI 0) C dL_leastTime_21 (by decide) ?_
    exact sv_iret C hr dL_leastTime_22 (Nat.le_of_ble_eq_true rfl) (Nat.le_of_ble_eq_true rfl) (by rw [ok]) (fun H h => sw_R0 ok e9 H (sv_W1_of H h))
