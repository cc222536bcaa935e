/-! the cases of the law that call both as they are -/
set_option maxHeartbeats 4000000 in
set_option maxRecDepth 100000 in
theorem lc_night {p : Program} {l : Launch} {e : Env} {s : State} {m : MethodId} {args : Array Value} {below : List Frame} {meth : Method} {c : Code} {k n : Nat} {Q : State → Prop} {G : sv_G} {b L : Nat} {xs : Nat → Int32} {z : Nat} {M : sv_M} {o : Int64} {i Cc B : Nat} (C : sv_C p l s m args meth c code 9 RL G) (hl : l.stackTraces = false) (hX : va_X b L xs s s.heap) (hbl : b < s.heap.size) (hbA : ¬ sv_A G b) (hL : L ≤ 1536) (hi : i + 2 < L) (hCc : Cc ≤ 7680) (hB : B ≤ 25804800) (hinv : inv Cc B M) (hk : k ≤ 3000) (hn : n ≤ 20000) (kk : ∀ z9 M9 o9, inv (Cc + 15) (B + 50400) M9 → sv_V p l e room_1 s m args below meth c 9 G Q (k + 4) (n + 24) (sv_W G z9 M9 o9) 1316 [(0, .ref b), (1, .ref (sv_r G 14 0)), (2, .ref (sv_r G 19 0)), (3, .ref (sv_r G 25 0)), (4, .int (nI i))] []) : sv_V p l e room_1 s m args below meth c 9 G Q k n (sv_W G z M o) 420 [(0, .ref b), (1, .ref (sv_r G 14 0)), (2, .ref (sv_r G 19 0)), (3, .ref (sv_r G 25 0)), (4, .int (nI i))] [] := by
  obtain ⟨od, hd, n9, h⟩ := hinv
  obtain ⟨hm, hm7, hmr, b6, b7, hv, he, hr⟩ := inw_m h
  obtain ⟨hod, hd6, hn60, h0, h1, hkp, hn9, hn9r, htx, hst, hhs⟩ := id h
  refine sv_aload_n (i := 1) (x := (sv_r G 14 0)) C dL_law_420 rfl rfl ?_
  refine sv_aload_n (i := 0) (x := b) C dL_law_421 rfl rfl ?_
  refine sv_iload (i := 4) (x := (nI i)) C dL_law_422 rfl ?_
  refine sv_iconst (v := nI 1) C dL_law_424 (by decide) ?_
  refine sv_iadd C dL_law_425 ?_
  refine sv_set (v' := .int (nI (i + 1))) (congrArg Value.int (nI_add _ _)) ?_
  refine sv_scrN C hX hbl hbA (by omega) (by omega) dL_law_426 ?_
  refine sv_sel_if_eq (va := nI 1) (vb := nI 0) C 434 dL_law_427 (by decide) dL_law_430 (by decide) dL_law_431 (by decide) dL_law_434 (by decide) ?_
  refine sv_callV (as := [_]) (rest := []) C (met_night l G z M o (if xs (i + 1) = 0 then nI 0 else nI 1) ite_b od hd hod h0 h1 hd6 b6 b7) fX5_night kw_206 (sv_recv14 C) ⟨Nat.le_of_ble_eq_true rfl, Nat.le_of_ble_eq_true rfl⟩ (Nat.le_of_ble_eq_true rfl) dL_law_435 ⟨by show k ≤ 614530; omega, by show n ≤ 7252513; omega⟩ ?_
  refine sv_ri (fun v5 e5 => ?_)
  obtain ⟨M1, e1⟩ : ∃ M9 : sv_M, M9 = sv_u (sav od hd M) 0 (upd (M 0) 6 (if xs (i + 1) = 0 then nI 0 else nI 1)) := ⟨_, rfl⟩
  rw [← e1]
  have e15 : M1 15 = M 15 := by rw [e1]; exact inw_hi h (by decide)
  refine sv_aload_n (i := 2) (x := (sv_r G 19 0)) C dL_law_438 rfl rfl ?_
  refine sv_aload_n (i := 0) (x := b) C dL_law_439 rfl rfl ?_
  refine sv_iload (i := 4) (x := (nI i)) C dL_law_440 rfl ?_
  refine sv_iconst (v := nI 1) C dL_law_442 (by decide) ?_
  refine sv_iadd C dL_law_443 ?_
  refine sv_set (v' := .int (nI (i + 1))) (congrArg Value.int (nI_add _ _)) ?_
  refine sv_scrN C hX hbl hbA (by omega) (by omega) dL_law_444 ?_
  refine sv_sel_if_eq (va := nI 1) (vb := nI 0) C 452 dL_law_445 (by decide) dL_law_448 (by decide) dL_law_449 (by decide) dL_law_452 (by decide) ?_
  refine sv_callV (as := [_]) (rest := [_]) C (met_R_night l G _ M1 _ (if xs (i + 1) = 0 then nI 0 else nI 1) ite_b hd (by rw [e15]; exact hkp) hd6) fX6_night kw_822 (sv_recv19 C) ⟨Nat.le_of_ble_eq_true rfl, Nat.le_of_ble_eq_true rfl⟩ (Nat.le_of_ble_eq_true rfl) dL_law_453 ⟨by show k ≤ 614530; omega, by show n ≤ 7252513; omega⟩ ?_
  refine sv_ri (fun v6 e6 => ?_)
  obtain ⟨M2, e2⟩ : ∃ M9 : sv_M, M9 = sv_u (rsav hd (thr 0 M1)) 10 (upd (M1 10) 6 (if xs (i + 1) = 0 then nI 0 else nI 1)) := ⟨_, rfl⟩
  rw [← e2]
  obtain ⟨i2, _, v2⟩ := fc_night h ite_b e1 e2
  refine sv_icmp_eq C 1316 dL_law_456 (by decide) (fun _ => ?_) (fun q9 => absurd (by rw [e5, e6]; exact v2) q9)
  refine sv_sub (lv' := [(0, .ref b), (1, .ref (sv_r G 14 0)), (2, .ref (sv_r G 19 0)), (3, .ref (sv_r G 25 0)), (4, .int (nI i))]) rfl ?_
  exact sv_widen (by omega) (by omega) (kk _ _ _ i2)
set_option maxHeartbeats 4000000 in
set_option maxRecDepth 100000 in
theorem lc_fire {p : Program} {l : Launch} {e : Env} {s : State} {m : MethodId} {args : Array Value} {below : List Frame} {meth : Method} {c : Code} {k n : Nat} {Q : State → Prop} {G : sv_G} {b L : Nat} {xs : Nat → Int32} {z : Nat} {M : sv_M} {o : Int64} {i Cc B : Nat} (C : sv_C p l s m args meth c code 9 RL G) (hl : l.stackTraces = false) (hX : va_X b L xs s s.heap) (hbl : b < s.heap.size) (hbA : ¬ sv_A G b) (hL : L ≤ 1536) (hi : i + 2 < L) (hCc : Cc ≤ 7680) (hB : B ≤ 25804800) (hinv : inv Cc B M) (hk : k ≤ 3000) (hn : n ≤ 20000) (kk : ∀ z9 M9 o9, inv (Cc + 15) (B + 50400) M9 → sv_V p l e room_1 s m args below meth c 9 G Q (k + 4) (n + 24) (sv_W G z9 M9 o9) 1316 [(0, .ref b), (1, .ref (sv_r G 14 0)), (2, .ref (sv_r G 19 0)), (3, .ref (sv_r G 25 0)), (4, .int (nI i))] []) : sv_V p l e room_1 s m args below meth c 9 G Q k n (sv_W G z M o) 461 [(0, .ref b), (1, .ref (sv_r G 14 0)), (2, .ref (sv_r G 19 0)), (3, .ref (sv_r G 25 0)), (4, .int (nI i))] [] := by
  obtain ⟨od, hd, n9, h⟩ := hinv
  obtain ⟨hm, hm7, hmr, b6, b7, hv, he, hr⟩ := inw_m h
  obtain ⟨hod, hd6, hn60, h0, h1, hkp, hn9, hn9r, htx, hst, hhs⟩ := id h
  refine sv_aload_n (i := 1) (x := (sv_r G 14 0)) C dL_law_461 rfl rfl ?_
  refine sv_aload_n (i := 0) (x := b) C dL_law_462 rfl rfl ?_
  refine sv_iload (i := 4) (x := (nI i)) C dL_law_463 rfl ?_
  refine sv_iconst (v := nI 1) C dL_law_465 (by decide) ?_
  refine sv_iadd C dL_law_466 ?_
  refine sv_set (v' := .int (nI (i + 1))) (congrArg Value.int (nI_add _ _)) ?_
  refine sv_scrN C hX hbl hbA (by omega) (by omega) dL_law_467 ?_
  refine sv_sel_if_eq (va := nI 1) (vb := nI 0) C 475 dL_law_468 (by decide) dL_law_471 (by decide) dL_law_472 (by decide) dL_law_475 (by decide) ?_
  refine sv_callV (as := [_]) (rest := []) C (met_fire l G z M o (if xs (i + 1) = 0 then nI 0 else nI 1) ite_b od hd hod h0 h1 hd6 b6 b7) fX5_fire kw_235 (sv_recv14 C) ⟨Nat.le_of_ble_eq_true rfl, Nat.le_of_ble_eq_true rfl⟩ (Nat.le_of_ble_eq_true rfl) dL_law_476 ⟨by show k ≤ 614530; omega, by show n ≤ 7252513; omega⟩ ?_
  refine sv_ri (fun v5 e5 => ?_)
  obtain ⟨M1, e1⟩ : ∃ M9 : sv_M, M9 = sv_u (sav od hd M) 0 (firv (if xs (i + 1) = 0 then nI 0 else nI 1) (M 0)) := ⟨_, rfl⟩
  rw [← e1]
  have e15 : M1 15 = M 15 := by rw [e1]; exact inw_hi h (by decide)
  refine sv_aload_n (i := 2) (x := (sv_r G 19 0)) C dL_law_479 rfl rfl ?_
  refine sv_aload_n (i := 0) (x := b) C dL_law_480 rfl rfl ?_
  refine sv_iload (i := 4) (x := (nI i)) C dL_law_481 rfl ?_
  refine sv_iconst (v := nI 1) C dL_law_483 (by decide) ?_
  refine sv_iadd C dL_law_484 ?_
  refine sv_set (v' := .int (nI (i + 1))) (congrArg Value.int (nI_add _ _)) ?_
  refine sv_scrN C hX hbl hbA (by omega) (by omega) dL_law_485 ?_
  refine sv_sel_if_eq (va := nI 1) (vb := nI 0) C 493 dL_law_486 (by decide) dL_law_489 (by decide) dL_law_490 (by decide) dL_law_493 (by decide) ?_
  refine sv_callV (as := [_]) (rest := [_]) C (met_R_fire l G _ M1 _ (if xs (i + 1) = 0 then nI 0 else nI 1) ite_b hd (by rw [e15]; exact hkp) hd6) fX6_fire kw_826 (sv_recv19 C) ⟨Nat.le_of_ble_eq_true rfl, Nat.le_of_ble_eq_true rfl⟩ (Nat.le_of_ble_eq_true rfl) dL_law_494 ⟨by show k ≤ 614530; omega, by show n ≤ 7252513; omega⟩ ?_
  refine sv_ri (fun v6 e6 => ?_)
  obtain ⟨M2, e2⟩ : ∃ M9 : sv_M, M9 = sv_u (rsav hd (thr 0 M1)) 10 (firR (if xs (i + 1) = 0 then nI 0 else nI 1) (M1 10)) := ⟨_, rfl⟩
  rw [← e2]
  obtain ⟨i2, _, v2⟩ := fc_fire h ite_b e1 e2
  refine sv_icmp_eq C 1316 dL_law_497 (by decide) (fun _ => ?_) (fun q9 => absurd (by rw [e5, e6]; exact v2) q9)
  refine sv_sub (lv' := [(0, .ref b), (1, .ref (sv_r G 14 0)), (2, .ref (sv_r G 19 0)), (3, .ref (sv_r G 25 0)), (4, .int (nI i))]) rfl ?_
  exact sv_widen (by omega) (by omega) (kk _ _ _ i2)
set_option maxHeartbeats 4000000 in
set_option maxRecDepth 100000 in
theorem lc_clearBuffer {p : Program} {l : Launch} {e : Env} {s : State} {m : MethodId} {args : Array Value} {below : List Frame} {meth : Method} {c : Code} {k n : Nat} {Q : State → Prop} {G : sv_G} {b L : Nat} {xs : Nat → Int32} {z : Nat} {M : sv_M} {o : Int64} {i Cc B : Nat} (C : sv_C p l s m args meth c code 9 RL G) (hl : l.stackTraces = false) (hX : va_X b L xs s s.heap) (hbl : b < s.heap.size) (hbA : ¬ sv_A G b) (hL : L ≤ 1536) (hi : i + 2 < L) (hCc : Cc ≤ 7680) (hB : B ≤ 25804800) (hinv : inv Cc B M) (hk : k ≤ 3000) (hn : n ≤ 20000) (kk : ∀ z9 M9 o9, inv (Cc + 15) (B + 50400) M9 → sv_V p l e room_1 s m args below meth c 9 G Q (k + 4) (n + 24) (sv_W G z9 M9 o9) 1316 [(0, .ref b), (1, .ref (sv_r G 14 0)), (2, .ref (sv_r G 19 0)), (3, .ref (sv_r G 25 0)), (4, .int (nI i))] []) : sv_V p l e room_1 s m args below meth c 9 G Q k n (sv_W G z M o) 682 [(0, .ref b), (1, .ref (sv_r G 14 0)), (2, .ref (sv_r G 19 0)), (3, .ref (sv_r G 25 0)), (4, .int (nI i))] [] := by
  obtain ⟨od, hd, n9, h⟩ := hinv
  obtain ⟨hm, hm7, hmr, b6, b7, hv, he, hr⟩ := inw_m h
  obtain ⟨hod, hd6, hn60, h0, h1, hkp, hn9, hn9r, htx, hst, hhs⟩ := id h
  refine sv_aload_n (i := 1) (x := (sv_r G 14 0)) C dL_law_682 rfl rfl ?_
  refine sv_callV (as := []) (rest := []) C (met_clearBuffer l G z M o) fX5_clearBuffer kw_261 (sv_recv14 C) ⟨Nat.le_of_ble_eq_true rfl, Nat.le_of_ble_eq_true rfl⟩ (Nat.le_of_ble_eq_true rfl) dL_law_683 ⟨by show k ≤ 614530; omega, by show n ≤ 7252513; omega⟩ ?_
  refine sv_ri (fun v5 e5 => ?_)
  obtain ⟨M1, e1⟩ : ∃ M9 : sv_M, M9 = sv_u M 9 (upd (M 9) 60 0) := ⟨_, rfl⟩
  rw [← e1]
  refine sv_aload_n (i := 2) (x := (sv_r G 19 0)) C dL_law_686 rfl rfl ?_
  refine sv_callV (as := []) (rest := [_]) C (met_R_clearBuffer l G _ M1 _) fX6_clearBuffer kw_867 (sv_recv19 C) ⟨Nat.le_of_ble_eq_true rfl, Nat.le_of_ble_eq_true rfl⟩ (Nat.le_of_ble_eq_true rfl) dL_law_687 ⟨by show k ≤ 614530; omega, by show n ≤ 7252513; omega⟩ ?_
  refine sv_ri (fun v6 e6 => ?_)
  obtain ⟨M2, e2⟩ : ∃ M9 : sv_M, M9 = sv_u M1 15 (upd (upd (M1 15) 2 0) 1 0) := ⟨_, rfl⟩
  rw [← e2]
  obtain ⟨i2, v2⟩ := fc_clear h e1 e2
  refine sv_icmp_eq C 1316 dL_law_690 (by decide) (fun _ => ?_) (fun q9 => absurd (by rw [e5, e6]; exact v2) q9)
  refine sv_sub (lv' := [(0, .ref b), (1, .ref (sv_r G 14 0)), (2, .ref (sv_r G 19 0)), (3, .ref (sv_r G 25 0)), (4, .int (nI i))]) rfl ?_
  exact sv_widen (by omega) (by omega) (kk _ _ _ i2)
set_option maxHeartbeats 4000000 in
set_option maxRecDepth 100000 in
theorem lc_firstError {p : Program} {l : Launch} {e : Env} {s : State} {m : MethodId} {args : Array Value} {below : List Frame} {meth : Method} {c : Code} {k n : Nat} {Q : State → Prop} {G : sv_G} {b L : Nat} {xs : Nat → Int32} {z : Nat} {M : sv_M} {o : Int64} {i Cc B : Nat} (C : sv_C p l s m args meth c code 9 RL G) (hl : l.stackTraces = false) (hX : va_X b L xs s s.heap) (hbl : b < s.heap.size) (hbA : ¬ sv_A G b) (hL : L ≤ 1536) (hi : i + 2 < L) (hCc : Cc ≤ 7680) (hB : B ≤ 25804800) (hinv : inv Cc B M) (hk : k ≤ 3000) (hn : n ≤ 20000) (kk : ∀ z9 M9 o9, inv (Cc + 15) (B + 50400) M9 → sv_V p l e room_1 s m args below meth c 9 G Q (k + 4) (n + 24) (sv_W G z9 M9 o9) 1316 [(0, .ref b), (1, .ref (sv_r G 14 0)), (2, .ref (sv_r G 19 0)), (3, .ref (sv_r G 25 0)), (4, .int (nI i))] []) : sv_V p l e room_1 s m args below meth c 9 G Q k n (sv_W G z M o) 695 [(0, .ref b), (1, .ref (sv_r G 14 0)), (2, .ref (sv_r G 19 0)), (3, .ref (sv_r G 25 0)), (4, .int (nI i))] [] := by
  obtain ⟨od, hd, n9, h⟩ := hinv
  obtain ⟨hm, hm7, hmr, b6, b7, hv, he, hr⟩ := inw_m h
  obtain ⟨hod, hd6, hn60, h0, h1, hkp, hn9, hn9r, htx, hst, hhs⟩ := id h
  refine sv_aload_n (i := 1) (x := (sv_r G 14 0)) C dL_law_695 rfl rfl ?_
  refine sv_callV (as := []) (rest := []) C (met_firstError l G z M o n9 hn9 hn60 (fun j hj => (htx j hj).2)) fX5_firstError kw_269 (sv_recv14 C) ⟨Nat.le_of_ble_eq_true rfl, Nat.le_of_ble_eq_true rfl⟩ (Nat.le_of_ble_eq_true rfl) dL_law_696 ⟨by show k ≤ 614530; omega, by show n ≤ 7252513; omega⟩ ?_
  refine sv_ri (fun v5 e5 => ?_)
  refine sv_aload_n (i := 2) (x := (sv_r G 19 0)) C dL_law_699 rfl rfl ?_
  refine sv_callV (as := []) (rest := [_]) C (met_R_firstError l G z M o n9 hn9r hn60) fX6_firstError kw_871 (sv_recv19 C) ⟨Nat.le_of_ble_eq_true rfl, Nat.le_of_ble_eq_true rfl⟩ (Nat.le_of_ble_eq_true rfl) dL_law_700 ⟨by show k ≤ 614530; omega, by show n ≤ 7252513; omega⟩ ?_
  refine sv_ri (fun v6 e6 => ?_)
  refine sv_exW3 (fun tk Z _ => ?_)
  have i2 := inv_lk (C2 := Cc + 15) (B2 := B + 50400) ⟨od, hd, n9, h⟩ (lk_t lk_thr (lk_W3 (M := thr 0 M) (n9 := n9) (tk := tk) (Z := Z))) (by omega) (by omega)
  refine sv_icmp_eq C 1316 dL_law_703 (by decide) (fun _ => ?_) (fun q9 => absurd (by rw [e5, e6, (txt_eq h).1]) q9)
  refine sv_sub (lv' := [(0, .ref b), (1, .ref (sv_r G 14 0)), (2, .ref (sv_r G 19 0)), (3, .ref (sv_r G 25 0)), (4, .int (nI i))]) rfl ?_
  exact sv_widen (by omega) (by omega) (kk _ _ _ i2)
set_option maxHeartbeats 4000000 in
set_option maxRecDepth 100000 in
theorem lc_worst {p : Program} {l : Launch} {e : Env} {s : State} {m : MethodId} {args : Array Value} {below : List Frame} {meth : Method} {c : Code} {k n : Nat} {Q : State → Prop} {G : sv_G} {b L : Nat} {xs : Nat → Int32} {z : Nat} {M : sv_M} {o : Int64} {i Cc B : Nat} (C : sv_C p l s m args meth c code 9 RL G) (hl : l.stackTraces = false) (hX : va_X b L xs s s.heap) (hbl : b < s.heap.size) (hbA : ¬ sv_A G b) (hL : L ≤ 1536) (hi : i + 2 < L) (hCc : Cc ≤ 7680) (hB : B ≤ 25804800) (hinv : inv Cc B M) (hk : k ≤ 3000) (hn : n ≤ 20000) (kk : ∀ z9 M9 o9, inv (Cc + 15) (B + 50400) M9 → sv_V p l e room_1 s m args below meth c 9 G Q (k + 4) (n + 24) (sv_W G z9 M9 o9) 1316 [(0, .ref b), (1, .ref (sv_r G 14 0)), (2, .ref (sv_r G 19 0)), (3, .ref (sv_r G 25 0)), (4, .int (nI i))] []) : sv_V p l e room_1 s m args below meth c 9 G Q k n (sv_W G z M o) 1248 [(0, .ref b), (1, .ref (sv_r G 14 0)), (2, .ref (sv_r G 19 0)), (3, .ref (sv_r G 25 0)), (4, .int (nI i))] [] := by
  obtain ⟨od, hd, n9, h⟩ := hinv
  obtain ⟨hm, hm7, hmr, b6, b7, hv, he, hr⟩ := inw_m h
  obtain ⟨hod, hd6, hn60, h0, h1, hkp, hn9, hn9r, htx, hst, hhs⟩ := id h
  refine sv_aload_n (i := 1) (x := (sv_r G 14 0)) C dL_law_1248 rfl rfl ?_
  refine sv_callV (as := []) (rest := []) C (met_worst l G z M o) fX5_worst kw_291 (sv_recv14 C) ⟨Nat.le_of_ble_eq_true rfl, Nat.le_of_ble_eq_true rfl⟩ (Nat.le_of_ble_eq_true rfl) dL_law_1249 ⟨by show k ≤ 614530; omega, by show n ≤ 7252513; omega⟩ ?_
  refine sv_ri (fun v5 e5 => ?_)
  refine sv_aload_n (i := 2) (x := (sv_r G 19 0)) C dL_law_1252 rfl rfl ?_
  refine sv_callV (as := []) (rest := [_]) C (met_R_worst l G z M o) fX6_worst kw_949 (sv_recv19 C) ⟨Nat.le_of_ble_eq_true rfl, Nat.le_of_ble_eq_true rfl⟩ (Nat.le_of_ble_eq_true rfl) dL_law_1253 ⟨by show k ≤ 614530; omega, by show n ≤ 7252513; omega⟩ ?_
  refine sv_ri (fun v6 e6 => ?_)
  have i2 := inv_lk (C2 := Cc + 15) (B2 := B + 50400) ⟨od, hd, n9, h⟩ (lk_thr (M := M) (k := 0)) (by omega) (by omega)
  refine sv_icmp_eq C 1316 dL_law_1256 (by decide) (fun _ => ?_) (fun q9 => absurd (by rw [e5, e6]; exact fl_worst h) q9)
  refine sv_sub (lv' := [(0, .ref b), (1, .ref (sv_r G 14 0)), (2, .ref (sv_r G 19 0)), (3, .ref (sv_r G 25 0)), (4, .int (nI i))]) rfl ?_
  exact sv_widen (by omega) (by omega) (kk _ _ _ i2)
set_option maxHeartbeats 4000000 in
set_option maxRecDepth 100000 in
theorem lc_lightness {p : Program} {l : Launch} {e : Env} {s : State} {m : MethodId} {args : Array Value} {below : List Frame} {meth : Method} {c : Code} {k n : Nat} {Q : State → Prop} {G : sv_G} {b L : Nat} {xs : Nat → Int32} {z : Nat} {M : sv_M} {o : Int64} {i Cc B : Nat} (C : sv_C p l s m args meth c code 9 RL G) (hl : l.stackTraces = false) (hX : va_X b L xs s s.heap) (hbl : b < s.heap.size) (hbA : ¬ sv_A G b) (hL : L ≤ 1536) (hi : i + 2 < L) (hCc : Cc ≤ 7680) (hB : B ≤ 25804800) (hinv : inv Cc B M) (hk : k ≤ 3000) (hn : n ≤ 20000) (kk : ∀ z9 M9 o9, inv (Cc + 15) (B + 50400) M9 → sv_V p l e room_1 s m args below meth c 9 G Q (k + 4) (n + 24) (sv_W G z9 M9 o9) 1316 [(0, .ref b), (1, .ref (sv_r G 14 0)), (2, .ref (sv_r G 19 0)), (3, .ref (sv_r G 25 0)), (4, .int (nI i))] []) : sv_V p l e room_1 s m args below meth c 9 G Q k n (sv_W G z M o) 1261 [(0, .ref b), (1, .ref (sv_r G 14 0)), (2, .ref (sv_r G 19 0)), (3, .ref (sv_r G 25 0)), (4, .int (nI i))] [] := by
  obtain ⟨od, hd, n9, h⟩ := hinv
  obtain ⟨hm, hm7, hmr, b6, b7, hv, he, hr⟩ := inw_m h
  obtain ⟨hod, hd6, hn60, h0, h1, hkp, hn9, hn9r, htx, hst, hhs⟩ := id h
  refine sv_aload_n (i := 1) (x := (sv_r G 14 0)) C dL_law_1261 rfl rfl ?_
  obtain ⟨g1, g2, g3, g4⟩ := fl_share h (by omega)
  refine sv_callV (as := []) (rest := []) C (met_lightness l G z M o g3) fX5_lightness kw_299 (sv_recv14 C) ⟨Nat.le_of_ble_eq_true rfl, Nat.le_of_ble_eq_true rfl⟩ (Nat.le_of_ble_eq_true rfl) dL_law_1262 ⟨by show k ≤ 614530; omega, by show n ≤ 7252513; omega⟩ ?_
  refine sv_rd (fun v5 e5 => ?_)
  refine sv_dstore (i := 5) C [(0, .ref b), (1, .ref (sv_r G 14 0)), (2, .ref (sv_r G 19 0)), (3, .ref (sv_r G 25 0)), (4, .int (nI i)), (5, .double v5)] dL_law_1265 (by decide) rfl ?_
  refine sv_aload_n (i := 2) (x := (sv_r G 19 0)) C dL_law_1267 rfl rfl ?_
  refine sv_callV (as := []) (rest := []) C (met_R_lightness l G z M o g4) fX6_lightness kw_957 (sv_recv19 C) ⟨Nat.le_of_ble_eq_true rfl, Nat.le_of_ble_eq_true rfl⟩ (Nat.le_of_ble_eq_true rfl) dL_law_1268 ⟨by show k ≤ 614530; omega, by show n ≤ 7252513; omega⟩ ?_
  refine sv_rd (fun v6 e6 => ?_)
  have i2 := inv_lk (C2 := Cc + 15) (B2 := B + 50400) ⟨od, hd, n9, h⟩ (lk_thr (M := M) (k := 0)) (by omega) (by omega)
  refine sv_dstore (i := 7) C [(0, .ref b), (1, .ref (sv_r G 14 0)), (2, .ref (sv_r G 19 0)), (3, .ref (sv_r G 25 0)), (4, .int (nI i)), (5, .double v5), (7, .double v6)] dL_law_1271 (by decide) rfl ?_
  refine sv_dload (i := 5) (x := v5) C dL_law_1273 rfl ?_
  refine sv_dload (i := 7) (x := v6) C dL_law_1275 rfl ?_
  refine sv_dcmp C dL_law_1277 ?_
  refine sv_if_eq C 1299 dL_law_1278 (by decide) (fun _ => ?_) (fun q9 => absurd (by rw [e5, e6, ← g1, shr_self g2]; rfl) q9)
  refine sv_goto C 1316 dL_law_1299 (by decide) ?_
  refine sv_sub (lv' := [(0, .ref b), (1, .ref (sv_r G 14 0)), (2, .ref (sv_r G 19 0)), (3, .ref (sv_r G 25 0)), (4, .int (nI i))]) rfl ?_
  exact sv_widen (by omega) (by omega) (kk _ _ _ i2)
set_option maxHeartbeats 4000000 in
set_option maxRecDepth 100000 in
theorem lc_digest {p : Program} {l : Launch} {e : Env} {s : State} {m : MethodId} {args : Array Value} {below : List Frame} {meth : Method} {c : Code} {k n : Nat} {Q : State → Prop} {G : sv_G} {b L : Nat} {xs : Nat → Int32} {z : Nat} {M : sv_M} {o : Int64} {i Cc B : Nat} (C : sv_C p l s m args meth c code 9 RL G) (hl : l.stackTraces = false) (hX : va_X b L xs s s.heap) (hbl : b < s.heap.size) (hbA : ¬ sv_A G b) (hL : L ≤ 1536) (hi : i + 2 < L) (hCc : Cc ≤ 7680) (hB : B ≤ 25804800) (hinv : inv Cc B M) (hk : k ≤ 3000) (hn : n ≤ 20000) (kk : ∀ z9 M9 o9, inv (Cc + 15) (B + 50400) M9 → sv_V p l e room_1 s m args below meth c 9 G Q (k + 4) (n + 24) (sv_W G z9 M9 o9) 1316 [(0, .ref b), (1, .ref (sv_r G 14 0)), (2, .ref (sv_r G 19 0)), (3, .ref (sv_r G 25 0)), (4, .int (nI i))] []) : sv_V p l e room_1 s m args below meth c 9 G Q k n (sv_W G z M o) 1302 [(0, .ref b), (1, .ref (sv_r G 14 0)), (2, .ref (sv_r G 19 0)), (3, .ref (sv_r G 25 0)), (4, .int (nI i))] [] := by
  obtain ⟨od, hd, n9, h⟩ := hinv
  obtain ⟨hm, hm7, hmr, b6, b7, hv, he, hr⟩ := inw_m h
  obtain ⟨hod, hd6, hn60, h0, h1, hkp, hn9, hn9r, htx, hst, hhs⟩ := id h
  refine sv_aload_n (i := 1) (x := (sv_r G 14 0)) C dL_law_1302 rfl rfl ?_
  obtain ⟨g1, g2, g3, g4⟩ := fl_share h (by omega)
  refine sv_callV (as := []) (rest := []) C (met_digest l G z M o _ hm hm7 hd h1 b6 b7 hv n9 hn9 hn60 (fun j hj => (htx j hj).2) g3 (lsh (M 0)).toInt64 (fun Wd => met_bitsOf l G Wd g2)) fX5_digest kw_310 (sv_recv14 C) ⟨Nat.le_of_ble_eq_true rfl, Nat.le_of_ble_eq_true rfl⟩ (Nat.le_of_ble_eq_true rfl) dL_law_1303 ⟨by show k ≤ 614530; omega, by show n ≤ 7252513; omega⟩ ?_
  refine sv_rl (fun v5 e5 => ?_)
  refine sv_exW (fun y1 => ?_)
  obtain ⟨M1, e1⟩ : ∃ M9 : sv_M, M9 = sv_u M 1 y1 := ⟨_, rfl⟩
  rw [← e1]
  have e10 : M1 10 = M 10 := by rw [e1]; exact sv_un (by decide)
  have e15 : M1 15 = M 15 := by rw [e1]; exact sv_un (by decide)
  have e13 : M1 13 = M 13 := by rw [e1]; exact sv_un (by decide)
  have hk1 : lk M M1 := by rw [e1]; exact lk_1
  refine sv_aload_n (i := 2) (x := (sv_r G 19 0)) C dL_law_1306 rfl rfl ?_
  refine sv_callV (as := []) (rest := [_]) C (met_R_digest l G _ M1 _ (many (M 0)) (by rw [e10]; exact hmr) hm7 hd (by rw [e15]; exact hkp) n9 (by rw [e15]; exact hn9r) hn60 (by rw [e10]; exact g4) (fun i => outv (M 0) 30 i) (fun i _ => by rw [e10]; exact fl_ifp h) _ _ (by rw [e10]; exact fl_d0 h (by omega) (by decide) (by decide)) (by rw [e10]; exact fl_d0 h (by omega) (by decide) (by decide)) (fun T => dkw (nI 1) (nI 5) (nI T) (M 0)) (fun T _ _ => by rw [e10]; exact fl_wkD h (by omega) (by decide) (by decide)) (lsh (M 0)).toInt64 (fun Wd => by rw [e10, ← g1]; exact met_d2lb l G Wd _ g2)) fX6_digest kw_965 (sv_recv19 C) ⟨Nat.le_of_ble_eq_true rfl, Nat.le_of_ble_eq_true rfl⟩ (Nat.le_of_ble_eq_true rfl) dL_law_1307 ⟨by show k ≤ 614530; omega, by show n ≤ 7252513; omega⟩ ?_
  refine sv_rl (fun v6 e6 => ?_)
  refine sv_exW2 (fun y2 a2 c2 => ?_)
  have i2 := inv_lk (C2 := Cc + 15) (B2 := B + 50400) ⟨od, hd, n9, h⟩ (lk_t hk1 (lk_t (lk_thr (k := 0)) (lk_W2 (y := y2) (a := a2) (b := c2)))) (by omega) (by omega)
  refine sv_lcmp C dL_law_1310 ?_
  refine sv_if_eq C 1316 dL_law_1311 (by decide) (fun _ => ?_) (fun q9 => absurd ((lg_cmp_eq _ _).mpr (by rw [e5, e6, e10, e13]; exact fl_dig h (by omega))) q9)
  refine sv_sub (lv' := [(0, .ref b), (1, .ref (sv_r G 14 0)), (2, .ref (sv_r G 19 0)), (3, .ref (sv_r G 25 0)), (4, .int (nI i))]) rfl ?_
  exact sv_widen (by omega) (by omega) (kk _ _ _ i2)
