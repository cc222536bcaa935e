set_option maxHeartbeats 4000000 in
set_option maxRecDepth 100000 in
theorem met_darkWith (l : Launch) (G : sv_G) (z : Nat) (M : sv_M) (o : Int64) (T : Int32) (f t : Nat) (hf : f < 8) (ht : t < 8) (hv : vd (M 0)) (m : Nat) (hm : M 0 57 = nI m) (hm7 : m ≤ 6) : sv_Met l G yX5_darkWith cX5_darkWith 8 (some .int) 7 [.ref (sv_r G 14 0), .int T, .int (nI f), .int (nI t)] (sv_W G z M o) (some (.int (dkw (nI f) (nI t) T (M 0)))) (sv_W1 G z M o) := by
  refine sv_ofW (by decide) kw_416 (Nat.le_of_ble_eq_true rfl) ?_
  intro p e s mth args below meth c hr C _
  obtain ⟨x0, hx0⟩ : ∃ x, x = dwx (nI f) (nI t) T (M 0) := ⟨_, rfl⟩
  have hv0 : vd x0 := by
    rw [hx0]
    exact vd_dwx hv (by rw [many_eq hm (by omega)]; omega) hf ht
  obtain ⟨N9, hN9⟩ : ∃ n, n = dnF (M 0 5) 480 x0 := ⟨_, rfl⟩
  have hN480 : N9 ≤ 480 := by
    rw [hN9]
    exact dnF_le _ _ _
  refine sv_sub (lv' := [(0, .ref (sv_r G 14 0)), (1, .int T), (2, .int (nI f)), (3, .int (nI t))]) rfl ?_
  refine sv_aload_n (i := 0) (x := sv_r G 14 0) C dX5_darkWith_0 rfl rfl ?_
  refine sv_get_5_1 C kw_171 dX5_darkWith_1 ?_
  refine sv_aload_n (i := 0) (x := sv_r G 14 0) C dX5_darkWith_4 rfl rfl ?_
  refine sv_get_5_0 C kw_170 dX5_darkWith_5 ?_
  refine sv_callV (as := [_]) (rest := []) C (met_S_copy l G _ _ _ 0 1 (by decide) (by decide) (by omega) (vd_many hv).2.2.1 (vd_many hv).2.2.2.1) fX3_copyFrom kw_333 (sv_recv0 C (by decide)) ⟨Nat.le_of_ble_eq_true rfl, Nat.le_of_ble_eq_true rfl⟩ (Nat.le_of_ble_eq_true rfl) dX5_darkWith_8 ⟨Nat.zero_le _, Nat.zero_le _⟩  ?_
  refine sv_rv ?_
  refine sv_aload_n (i := 0) (x := sv_r G 14 0) C dX5_darkWith_11 rfl rfl ?_
  refine sv_get_5_1 C kw_171 dX5_darkWith_12 ?_
  refine sv_get_3_2 C (by decide) kw_113 dX5_darkWith_15 ?_
  refine sv_iconst (v := nI 0) C dX5_darkWith_18 (by decide) ?_
  refine sv_iload_n (i := 1) (x := T) C dX5_darkWith_19 rfl rfl ?_
  refine sv_callS (as := [_, _, _]) (rest := []) C (met_putN 1 0 rfl rfl (sv_okj (by decide) (by decide)) rfl (by show _ < 4; omega)) fX5_put kw_417 ⟨Nat.le_of_ble_eq_true rfl, Nat.le_of_ble_eq_true rfl⟩ (Nat.le_of_ble_eq_true rfl) dX5_darkWith_20 ⟨Nat.zero_le _, Nat.zero_le _⟩  ?_
  refine sv_rv ?_
  refine sv_aload_n (i := 0) (x := sv_r G 14 0) C dX5_darkWith_23 rfl rfl ?_
  refine sv_get_5_1 C kw_171 dX5_darkWith_24 ?_
  refine sv_iload_n (i := 2) (x := nI f) C dX5_darkWith_27 rfl rfl ?_
  refine sv_iload_n (i := 3) (x := nI t) C dX5_darkWith_28 rfl rfl ?_
  refine sv_callV (as := [_, _]) (rest := []) C (met_letCome l G _ _ _ 1 (by decide) (nI f) (nI t) m (by simp only [sv_wu, sv_us, sv_uu]; rw [upd_n (by decide)]; exact hm) (by omega)) fX3_letCome kw_418 (sv_recv0 C (by decide)) ⟨Nat.le_of_ble_eq_true rfl, Nat.le_of_ble_eq_true rfl⟩ (Nat.le_of_ble_eq_true rfl) dX5_darkWith_29 ⟨Nat.zero_le _, Nat.zero_le _⟩  ?_
  refine sv_riS (M 0 5) (by simp only [sv_wu, sv_us, sv_uu]; rw [upd_n (by decide)]) ?_
  refine sv_wd (sv_eqW (show _ = sv_u M 1 x0 from by rw [hx0]; unfold dwx; rw [many_eq hm (by omega)]; simp only [sv_wu, sv_us, sv_uu]; rw [upd_n (show 3 ≠ 0 by decide)])) ?_
  refine sv_istore (i := 4) C [(0, .ref (sv_r G 14 0)), (1, .int T), (2, .int (nI f)), (3, .int (nI t)), (4, .int (M 0 5))] dX5_darkWith_32 (by decide) rfl ?_
  refine sv_iconst (v := nI 0) C dX5_darkWith_34 (by decide) ?_
  refine sv_istore (i := 5) C [(0, .ref (sv_r G 14 0)), (1, .int T), (2, .int (nI f)), (3, .int (nI t)), (4, .int (M 0 5)), (5, .int (nI 0))] dX5_darkWith_35 (by decide) rfl ?_
  refine sv_iconst (v := nI 0) C dX5_darkWith_37 (by decide) ?_
  refine sv_istore (i := 6) C [(0, .ref (sv_r G 14 0)), (1, .int T), (2, .int (nI f)), (3, .int (nI t)), (4, .int (M 0 5)), (5, .int (nI 0)), (6, .int (nI 0))] dX5_darkWith_38 (by decide) rfl ?_
  refine sv_loop (N := N9) (I := fun _ => True) (Wf := fun i => sv_W G z (sv_u M 1 (passv i x0)) o) (Lf := fun i => [(0, .ref (sv_r G 14 0)), (1, .int T), (2, .int (nI f)), (3, .int (nI t)), (4, .int (M 0 5)), (5, .int (dcF (M 0 5) x0 i)), (6, .int (nI i))]) 0 (Nat.zero_le _) trivial (fun i hi0 hi hI ih => ?_)
  refine sv_iload (i := 6) (x := nI i) C dX5_darkWith_40 rfl ?_
  refine sv_sipush (v := nI 480) C dX5_darkWith_42 (by decide) ?_
  refine sv_icmp_geN C 119 dX5_darkWith_45 (by decide) (by omega) (by omega) (fun q45 => ?_) (fun q45 => ?_)
  · refine sv_iload (i := 5) (x := dcF (M 0 5) x0 i) C dX5_darkWith_119 rfl ?_
    exact sv_iret C hr dX5_darkWith_121 (Nat.le_of_ble_eq_true rfl) (Nat.le_of_ble_eq_true rfl) (by rw [show i = N9 from by have := dnF_le (M 0 5) 480 x0; omega, hN9, hx0]; rfl) (fun H h => sv_W1_of H h)
  · refine sv_aload_n (i := 0) (x := sv_r G 14 0) C dX5_darkWith_48 rfl rfl ?_
    refine sv_get_5_1 C kw_171 dX5_darkWith_49 ?_
    have hvi := vd_pass hv0 i
    have hma := vd_many hvi
    have hmi := vd_mid hvi
    refine sv_callV (as := []) (rest := []) C (met_beginSecond l G _ _ _ 1 (by decide) (many (passv i x0)) (by rw [sv_us]; exact hma.1) (by exact hma.2.1)) fX3_beginSecond kw_430 (sv_recv0 C (by decide)) ⟨Nat.le_of_ble_eq_true rfl, Nat.le_of_ble_eq_true rfl⟩ (Nat.le_of_ble_eq_true rfl) dX5_darkWith_52 ⟨Nat.zero_le _, Nat.zero_le _⟩  ?_
    refine sv_rv ?_
    refine sv_wd (sv_eqW (show _ = sv_u M 1 (begx (passv i x0)) from by simp only [sv_us, sv_uu]; rfl)) ?_
    refine sv_aload_n (i := 0) (x := sv_r G 14 0) C dX5_darkWith_55 rfl rfl ?_
    refine sv_get_5_1 C kw_171 dX5_darkWith_56 ?_
    refine sv_get_3_1 C (by decide) kw_111 dX5_darkWith_59 ?_
    refine sv_iload (i := 4) (x := M 0 5) C dX5_darkWith_62 rfl ?_
    refine sv_callV (as := [_]) (rest := []) C (met_placeOf l G _ _ _ 1 (by decide) (M 0 5) (many (begx (passv i x0))) (by rw [sv_us]; exact hmi.2.1) (by exact hmi.1)) fX2_placeOf kw_431 (sv_recv8 C (by decide)) ⟨Nat.le_of_ble_eq_true rfl, Nat.le_of_ble_eq_true rfl⟩ (Nat.le_of_ble_eq_true rfl) dX5_darkWith_64 ⟨Nat.zero_le _, Nat.zero_le _⟩  ?_
    refine sv_riS (plx (M 0 5) (passv i x0)) (by rw [sv_us]; rfl) ?_
    refine sv_istore (i := 7) C [(0, .ref (sv_r G 14 0)), (1, .int T), (2, .int (nI f)), (3, .int (nI t)), (4, .int (M 0 5)), (5, .int (dcF (M 0 5) x0 i)), (6, .int (nI i)), (7, .int (plx (M 0 5) (passv i x0)))] dX5_darkWith_67 (by decide) rfl ?_
    refine sv_iload (i := 7) (x := plx (M 0 5) (passv i x0)) C dX5_darkWith_69 rfl ?_
    refine sv_iconst (v := (-1)) C dX5_darkWith_71 (by decide) ?_
    refine sv_icmp_ne C 78 dX5_darkWith_72 (by decide) (fun q72 => ?_) (fun q72 => ?_)
    · obtain ⟨p9, hp1, hp2, hp3, hp4⟩ := (plF_in (x := begx (passv i x0)) (v := M 0 5) (many (begx (passv i x0))) 0).resolve_left q72
      have hp3 : plx (M 0 5) (passv i x0) = nI p9 := hp3
      obtain ⟨⟨fl, hfl, efl⟩, _⟩ := hmi.2.2.2.2 p9 (by show p9 < many (begx (passv i x0)); omega)
      have hm7' : many (begx (passv i x0)) ≤ 7 := hmi.1
      have hdw : dwd (M 0 5) (passv i x0) = if lampv (begx (passv i x0)) fl = 0 then 1 else 0 := by
        unfold dwd
        rw [hp3, nI_clamp (by omega), show begx (passv i x0) (4 * p9 + 59) = nI fl from efl, nI_clamp (by omega)]
      have hin : i < N9 := by
        rcases Nat.lt_or_ge i N9 with h | h
        · exact h
        · exfalso
          have h9 : i = N9 := by omega
          rcases dnF_hi (M 0 5) 480 x0 with h8 | h8
          · rw [← hN9, ← h9] at h8
            exact q72 h8
          · omega
      rw [hp3]
      refine sv_aload_n (i := 0) (x := sv_r G 14 0) C dX5_darkWith_78 rfl rfl ?_
      refine sv_get_5_1 C kw_171 dX5_darkWith_79 ?_
      refine sv_aload_n (i := 0) (x := sv_r G 14 0) C dX5_darkWith_82 rfl rfl ?_
      refine sv_get_5_1 C kw_171 dX5_darkWith_83 ?_
      refine sv_get_3_1 C (by decide) kw_111 dX5_darkWith_86 ?_
      refine sv_get_2_1 C (by decide) kw_81 dX5_darkWith_89 ?_
      refine sv_iload (i := 7) (x := nI p9) C dX5_darkWith_92 rfl ?_
      refine sv_callS (as := [_, _]) (rest := [_]) C (met_atN 1 (4 * p9 + 59) rfl rfl (sv_okj (by decide) (by decide)) rfl (by show _ < 7; omega)) fX5_at kw_320 ⟨Nat.le_of_ble_eq_true rfl, Nat.le_of_ble_eq_true rfl⟩ (Nat.le_of_ble_eq_true rfl) dX5_darkWith_94 ⟨Nat.zero_le _, Nat.zero_le _⟩  ?_
      refine sv_riN fl (by rw [sv_us]; exact efl) ?_
      refine sv_callV (as := [_]) (rest := []) C (met_lampOf l G _ _ _ 1 fl (by decide) (by omega) (by rw [sv_us]; exact hmi.2.2.1) (by rw [sv_us]; exact hmi.2.2.2.1)) fX3_lampOf kw_435 (sv_recv0 C (by decide)) ⟨Nat.le_of_ble_eq_true rfl, Nat.le_of_ble_eq_true rfl⟩ (Nat.le_of_ble_eq_true rfl) dX5_darkWith_97 ⟨Nat.zero_le _, Nat.zero_le _⟩  ?_
      refine sv_riS (lampv (begx (passv i x0)) fl) (by rw [sv_us]) ?_
      refine sv_if_ne C 106 dX5_darkWith_100 (by decide) (fun q100 => ?_) (fun q100 => ?_)
      · have q100 : ¬ lampv (begx (passv i x0)) fl = 0 := q100
        refine sv_aload_n (i := 0) (x := sv_r G 14 0) C dX5_darkWith_106 rfl rfl ?_
        refine sv_get_5_1 C kw_171 dX5_darkWith_107 ?_
        refine sv_callV (as := []) (rest := []) C (met_endSecond l G _ _ _ 1 (by decide) (many (begx (passv i x0))) (by simp only [sv_us]; exact hmi.2.1) hmi.1 (by simp only [sv_us]; exact hmi.2.2.1) (by simp only [sv_us]; exact hmi.2.2.2.1) (by simp only [sv_us]; exact vfl_of hmi.2.2.2.2)) fX3_endSecond kw_436 (sv_recv0 C (by decide)) ⟨Nat.le_of_ble_eq_true rfl, Nat.le_of_ble_eq_true rfl⟩ (Nat.le_of_ble_eq_true rfl) dX5_darkWith_110 ⟨Nat.zero_le _, Nat.zero_le _⟩  ?_
        refine sv_rv ?_
        refine sv_iinc (i := 6) (x := nI i) C (nI (i + 1)) [(0, .ref (sv_r G 14 0)), (1, .int T), (2, .int (nI f)), (3, .int (nI t)), (4, .int (M 0 5)), (5, .int (dcF (M 0 5) x0 i)), (6, .int (nI (i + 1))), (7, .int (nI p9))] dX5_darkWith_113 rfl (sv_incN i 1) (by decide) rfl ?_
        refine sv_goto C 40 dX5_darkWith_116 (by decide) ?_
        refine sv_sub (lv' := [(0, .ref (sv_r G 14 0)), (1, .int T), (2, .int (nI f)), (3, .int (nI t)), (4, .int (M 0 5)), (5, .int (dcF (M 0 5) x0 i)), (6, .int (nI (i + 1)))]) rfl ?_
        rw [show dcF (M 0 5) x0 i = dcF (M 0 5) x0 (i + 1) from by show _ = dcF (M 0 5) x0 i + dwd (M 0 5) (passv i x0); rw [hdw, if_neg q100]; exact (Int32.add_zero _).symm]
        refine sv_wd (sv_eqW ?_) (ih hin trivial)
        simp only [sv_us, sv_uu]
        rfl
      · have q100 : lampv (begx (passv i x0)) fl = 0 := q100
        obtain ⟨v103, e103⟩ : ∃ y : Int32, y = dcF (M 0 5) x0 i + Int32.ofInt (1) := ⟨_, rfl⟩
        refine sv_iinc (i := 5) (x := dcF (M 0 5) x0 i) C v103 [(0, .ref (sv_r G 14 0)), (1, .int T), (2, .int (nI f)), (3, .int (nI t)), (4, .int (M 0 5)), (5, .int v103), (6, .int (nI i)), (7, .int (nI p9))] dX5_darkWith_103 rfl e103.symm (by decide) rfl ?_
        refine sv_aload_n (i := 0) (x := sv_r G 14 0) C dX5_darkWith_106 rfl rfl ?_
        refine sv_get_5_1 C kw_171 dX5_darkWith_107 ?_
        refine sv_callV (as := []) (rest := []) C (met_endSecond l G _ _ _ 1 (by decide) (many (begx (passv i x0))) (by simp only [sv_us]; exact hmi.2.1) hmi.1 (by simp only [sv_us]; exact hmi.2.2.1) (by simp only [sv_us]; exact hmi.2.2.2.1) (by simp only [sv_us]; exact vfl_of hmi.2.2.2.2)) fX3_endSecond kw_436 (sv_recv0 C (by decide)) ⟨Nat.le_of_ble_eq_true rfl, Nat.le_of_ble_eq_true rfl⟩ (Nat.le_of_ble_eq_true rfl) dX5_darkWith_110 ⟨Nat.zero_le _, Nat.zero_le _⟩  ?_
        refine sv_rv ?_
        refine sv_iinc (i := 6) (x := nI i) C (nI (i + 1)) [(0, .ref (sv_r G 14 0)), (1, .int T), (2, .int (nI f)), (3, .int (nI t)), (4, .int (M 0 5)), (5, .int v103), (6, .int (nI (i + 1))), (7, .int (nI p9))] dX5_darkWith_113 rfl (sv_incN i 1) (by decide) rfl ?_
        refine sv_goto C 40 dX5_darkWith_116 (by decide) ?_
        refine sv_sub (lv' := [(0, .ref (sv_r G 14 0)), (1, .int T), (2, .int (nI f)), (3, .int (nI t)), (4, .int (M 0 5)), (5, .int v103), (6, .int (nI (i + 1)))]) rfl ?_
        rw [show v103 = dcF (M 0 5) x0 (i + 1) from by rw [e103]; show _ = dcF (M 0 5) x0 i + dwd (M 0 5) (passv i x0); rw [hdw, if_pos q100]; rfl]
        refine sv_wd (sv_eqW ?_) (ih hin trivial)
        simp only [sv_us, sv_uu]
        rfl
    · refine sv_iload (i := 5) (x := dcF (M 0 5) x0 i) C dX5_darkWith_75 rfl ?_
      exact sv_iret C hr dX5_darkWith_77 (Nat.le_of_ble_eq_true rfl) (Nat.le_of_ble_eq_true rfl) (by rw [show i = N9 from Nat.le_antisymm hi (Nat.not_lt.mp fun h => dnF_lo (M 0 5) 480 x0 i (by omega) q72), hN9, hx0]; rfl) (fun H h => sv_W1_of H h)

theorem wayC_0 {f t : Int32} (h : wayC f t = 0) : (∃ g, g < 8 ∧ f = nI g) ∧ ∃ g, g < 8 ∧ t = nI g := by
  unfold wayC at h
  split at h
  · cases h
  · rename_i h1
    exact ⟨inC_0 (by decide) ((inC_01 8 f).resolve_right (fun q => h1 (Or.inl q))), inC_0 (by decide) ((inC_01 8 t).resolve_right (fun q => h1 (Or.inr q)))⟩
set_option maxHeartbeats 4000000 in
set_option maxRecDepth 100000 in
theorem met_dark (l : Launch) (G : sv_G) (hl : l.stackTraces = false) (z : Nat) (M : sv_M) (o : Int64) (f t : Int32) (hv : vd (M 0)) (m : Nat) (hm : M 0 57 = nI m) (hm7 : m ≤ 6) : sv_MetX l G yX5_dark cX5_dark 3 (some .int) 8 3 [.ref (sv_r G 14 0), .int f, .int t] (sv_W G z M o) (wayC f t = 0) (some (.int (dkw f t (M 0 0) (M 0)))) (sv_W1 G z M o) (sv_E2 sv_IO sv_IA (wayC f t)) (sv_Wz G z M o) := by
  refine sv_ofWX (by decide) kw_408 (Nat.le_of_ble_eq_true rfl) ?_
  intro p e s mth args below meth c hr C hxt
  refine sv_sub (lv' := [(0, .ref (sv_r G 14 0)), (1, .int f), (2, .int t)]) rfl ?_
  refine sv_iload_n (i := 1) (x := f) C dX5_dark_0 rfl rfl ?_
  refine sv_iload_n (i := 2) (x := t) C dX5_dark_1 rfl rfl ?_
  refine sv_callSX (as := [_, _]) (rest := []) C (met_checkWay l G hl _ _ _ f t) fX5_checkWay kw_409 ⟨Nat.le_of_ble_eq_true rfl, Nat.le_of_ble_eq_true rfl⟩ (Nat.le_of_ble_eq_true rfl) dX5_dark_2 ⟨Nat.le_of_ble_eq_true rfl, Nat.le_of_ble_eq_true rfl⟩ (fun E hE => sv_out C hxt (Nat.le_of_ble_eq_true rfl) (Nat.le_of_ble_eq_true rfl) (hE) (fun _ h => h)) ?_
  intro ok1
  refine sv_rv ?_
  obtain ⟨⟨g1, hg1, rfl⟩, g2, hg2, rfl⟩ := wayC_0 ok1
  refine sv_aload_n (i := 0) (x := sv_r G 14 0) C dX5_dark_5 rfl rfl ?_
  refine sv_aload_n (i := 0) (x := sv_r G 14 0) C dX5_dark_6 rfl rfl ?_
  refine sv_get_5_0 C kw_170 dX5_dark_7 ?_
  refine sv_get_3_2 C (by decide) kw_113 dX5_dark_10 ?_
  refine sv_iconst (v := nI 0) C dX5_dark_13 (by decide) ?_
  refine sv_callS (as := [_, _]) (rest := [_]) C (met_atN 0 0 rfl rfl (sv_okj (by decide) (by decide)) rfl (by show _ < 4; omega)) fX5_at kw_320 ⟨Nat.le_of_ble_eq_true rfl, Nat.le_of_ble_eq_true rfl⟩ (Nat.le_of_ble_eq_true rfl) dX5_dark_14 ⟨Nat.le_of_ble_eq_true rfl, Nat.le_of_ble_eq_true rfl⟩  ?_
  refine sv_riS (M 0 0) rfl ?_
  refine sv_iload_n (i := 1) (x := nI g1) C dX5_dark_17 rfl rfl ?_
  refine sv_iload_n (i := 2) (x := nI g2) C dX5_dark_18 rfl rfl ?_
  refine sv_callV (as := [_, _, _]) (rest := []) C (met_darkWith l G _ _ _ (M 0 0) g1 g2 hg1 hg2 hv m hm hm7) fX5_darkWith kw_413 (sv_recv14 C) ⟨Nat.le_of_ble_eq_true rfl, Nat.le_of_ble_eq_true rfl⟩ (Nat.le_of_ble_eq_true rfl) dX5_dark_19 ⟨Nat.le_of_ble_eq_true rfl, Nat.le_of_ble_eq_true rfl⟩  ?_
  refine sv_ri (fun v19 e19 => ?_)
  exact sv_iretX C ok1 hr dX5_dark_22 (Nat.le_of_ble_eq_true rfl) (Nat.le_of_ble_eq_true rfl) e19 (fun _ h => h)

theorem pk_m1' {n : Nat} (h : 0 < n) : nI n + Int32.ofInt (-1) = nI (n - 1) := by
  obtain ⟨m, rfl⟩ : ∃ m, n = m + 1 := ⟨n - 1, by omega⟩
  exact pk_m1 m



