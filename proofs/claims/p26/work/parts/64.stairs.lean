/-! the law: what the stairs tell adds up -/
theorem sel_nn {p : Prop} [Decidable p] {a b : Int32} : (if ¬ p then a else b) = (if p then b else a) := ite_not p a b
theorem sel_bk (v : Int32) : (if ¬ v = 0 then nI 0 else nI 1) = nI (if v = 0 then 1 else 0) := by
  by_cases h : v = 0
  · rw [if_neg (fun q => q h), if_pos h]
  · rw [if_pos h, if_neg h]
theorem lamp_sel {x : vX} {f : Nat} {b : Int32} (h7 : ¬ x 7 = 1) (h0 : ¬ b = 0) (e : x (6 * f + 9) = b) : (if x 1 < b then nI 3 else nI 2) = lampv x f := by
  subst e
  unfold lampv
  rw [if_neg h7, if_neg h0]
  by_cases h : x (6 * f + 9) ≤ x 1
  · rw [if_pos h, if_neg (Int32.not_lt.mpr h)]
    rfl
  · rw [if_neg h, if_pos (Int32.not_le.mp h)]
    rfl
theorem lfz_sel {x : vX} {p : Nat} (h : lfz x p) : (if ¬ x (4 * p + 61) = 0 then nI 0 else nI 1) = if x (4 * p + 59) = x (4 * p + 60) then nI 1 else nI 0 := by
  rcases h with ⟨h1, h2⟩ | ⟨h1, t, t1, t2, h2⟩
  · rw [if_pos h1, h2, if_neg (fun q => q rfl)]
  · rw [if_neg h1, h2, if_pos (nI_ne0 t1 (by omega))]
theorem lfz_N {x : vX} {p : Nat} (h : lfz x p) : ∃ t, t ≤ 60 ∧ x (4 * p + 61) = nI t := by
  rcases h with ⟨_, h2⟩ | ⟨_, t, _, t2, h2⟩
  · exact ⟨0, by omega, h2⟩
  · exact ⟨t, t2, h2⟩
theorem mm_sel {x : vX} : (if ¬ nI (bkN x 8) = 0 then nI 0 else nI 1) = if mm x 8 = (-1) then nI 1 else nI 0 := by
  have hle := bkN_le x 8
  by_cases h : mm x 8 = (-1)
  · have h0 := (bkN_0 x 8).mpr ((mm_no x 8 (by decide)).mp h)
    rw [if_pos h, h0, if_neg (fun q => q rfl)]
  · have h0 : bkN x 8 ≠ 0 := fun q => h ((mm_no x 8 (by decide)).mpr ((bkN_0 x 8).mp q))
    rw [if_neg h, if_pos (nI_ne0 (by omega) (by omega))]
set_option maxHeartbeats 4000000 in
set_option maxRecDepth 100000 in
theorem met_stairs (l : Launch) (G : sv_G) (z : Nat) (M : sv_M) (o : Int64) (CC BB hd : Nat) (hst9 : st CC BB (M 0)) (h1 : M 8 1 = nI hd) (hC : CC < 2147483648) (hB : BB < 2147483648) : sv_Met l G yL_stairs cL_stairs 12 (some .boolean) 5 [.ref (sv_r G 14 0)] (sv_W G z M o) (some (.int 1)) (sv_W G z M o) := by
  refine sv_ofW (by decide) kw_447 (Nat.le_of_ble_eq_true rfl) ?_
  intro p e s mth args below meth c hr C _
  obtain ⟨hv, hm6, _, hlf, ⟨c9, hc9, e5, v9, hv9, hr9⟩, hbr, hsn, hbd⟩ := hst9
  obtain ⟨hm, _, b6, b7, hvf⟩ := vd_many hv
  obtain ⟨hsh, hnn⟩ := bnd_shr hbd hB
  have hbk := bkN_le (M 0) 8
  generalize many (M 0) = m at hm hm6 hlf hv9 hr9 hvf
  refine sv_sub (lv' := [(0, .ref (sv_r G 14 0))]) rfl ?_
  refine sv_iconst (v := nI 0) C dL_stairs_0 (by decide) ?_
  refine sv_istore_n (i := 1) C [(0, .ref (sv_r G 14 0)), (1, .int (nI 0))] dL_stairs_1 rfl (by decide) rfl ?_
  refine sv_iconst (v := nI 0) C dL_stairs_2 (by decide) ?_
  refine sv_istore_n (i := 2) C [(0, .ref (sv_r G 14 0)), (1, .int (nI 0)), (2, .int (nI 0))] dL_stairs_3 rfl (by decide) rfl ?_
  refine sv_iconst (v := nI 0) C dL_stairs_4 (by decide) ?_
  refine sv_istore_n (i := 3) C [(0, .ref (sv_r G 14 0)), (1, .int (nI 0)), (2, .int (nI 0)), (3, .int (nI 0))] dL_stairs_5 rfl (by decide) rfl ?_
  refine sv_iconst (v := nI 0) C dL_stairs_6 (by decide) ?_
  refine sv_istore (i := 4) C [(0, .ref (sv_r G 14 0)), (1, .int (nI 0)), (2, .int (nI 0)), (3, .int (nI 0)), (4, .int (nI 0))] dL_stairs_7 (by decide) rfl ?_
  refine sv_iconst (v := nI 0) C dL_stairs_9 (by decide) ?_
  refine sv_istore (i := 5) C [(0, .ref (sv_r G 14 0)), (1, .int (nI 0)), (2, .int (nI 0)), (3, .int (nI 0)), (4, .int (nI 0)), (5, .int (nI 0))] dL_stairs_10 (by decide) rfl ?_
  refine sv_iconst (v := nI 0) C dL_stairs_12 (by decide) ?_
  refine sv_istore (i := 6) C [(0, .ref (sv_r G 14 0)), (1, .int (nI 0)), (2, .int (nI 0)), (3, .int (nI 0)), (4, .int (nI 0)), (5, .int (nI 0)), (6, .int (nI 0))] dL_stairs_13 (by decide) rfl ?_
  refine sv_iconst (v := nI 1) C dL_stairs_15 (by decide) ?_
  refine sv_istore (i := 7) C [(0, .ref (sv_r G 14 0)), (1, .int (nI 0)), (2, .int (nI 0)), (3, .int (nI 0)), (4, .int (nI 0)), (5, .int (nI 0)), (6, .int (nI 0)), (7, .int (nI 1))] dL_stairs_16 (by decide) rfl ?_
  refine sv_iconst (v := nI 0) C dL_stairs_18 (by decide) ?_
  refine sv_istore (i := 8) C [(0, .ref (sv_r G 14 0)), (1, .int (nI 0)), (2, .int (nI 0)), (3, .int (nI 0)), (4, .int (nI 0)), (5, .int (nI 0)), (6, .int (nI 0)), (7, .int (nI 1)), (8, .int (nI 0))] dL_stairs_19 (by decide) rfl ?_
  refine sv_loop (N := 8) (I := fun _ => True) (Wf := fun i => sv_W G z M o) (Lf := fun i => [(0, .ref (sv_r G 14 0)), (1, .int (smI (fun f => onI (M 0) (nI f) m) i)), (2, .int (litI (M 0) i)), (3, .int (smI (fun f => M 0 (6 * f + 11)) i)), (4, .int (smI (fun f => M 0 (6 * f + 12)) i)), (5, .int (smI (fun f => M 0 (6 * f + 13)) i)), (6, .int (nI (bkN (M 0) i))), (7, .int (nI 1)), (8, .int (nI i))]) 0 (Nat.zero_le _) trivial (fun i hi0 hi hI ih => ?_)
  refine sv_iload (i := 8) (x := nI i) C dL_stairs_21 rfl ?_
  refine sv_bipush (v := nI 8) C dL_stairs_23 (by decide) ?_
  refine sv_icmp_geN C 226 dL_stairs_25 (by decide) (by omega) (by omega) (fun q25 => ?_) (fun q25 => ?_)
  · obtain rfl : i = 8 := by omega
    rw [on_sum hvf]
    refine sv_iconst (v := nI 0) C dL_stairs_226 (by decide) ?_
    refine sv_istore (i := 8) C [(0, .ref (sv_r G 14 0)), (1, .int (nI m)), (2, .int (litI (M 0) 8)), (3, .int (smI (fun f => M 0 (6 * f + 11)) 8)), (4, .int (smI (fun f => M 0 (6 * f + 12)) 8)), (5, .int (smI (fun f => M 0 (6 * f + 13)) 8)), (6, .int (nI (bkN (M 0) 8))), (7, .int (nI 1)), (8, .int (nI 0))] dL_stairs_227 (by decide) rfl ?_
    refine sv_loop (N := m) (I := fun _ => True) (Wf := fun i => sv_W G z M o) (Lf := fun i => [(0, .ref (sv_r G 14 0)), (1, .int (nI m)), (2, .int (litI (M 0) 8)), (3, .int (smI (fun f => M 0 (6 * f + 11)) 8)), (4, .int (smI (fun f => M 0 (6 * f + 12)) 8)), (5, .int (smI (fun f => M 0 (6 * f + 13)) 8)), (6, .int (nI (bkN (M 0) 8))), (7, .int (nI 1)), (8, .int (nI i))]) 0 (Nat.zero_le _) trivial (fun i hi0 hi hI ih => ?_)
    refine sv_iload (i := 8) (x := nI i) C dL_stairs_229 rfl ?_
    refine sv_aload_n (i := 0) (x := sv_r G 14 0) C dL_stairs_231 rfl rfl ?_
    refine sv_iconst (v := nI 1) C dL_stairs_232 (by decide) ?_
    refine sv_callV (as := [_]) (rest := [_]) C (met0_count l G _ _ _ 1 (by decide) hd h1 b6 b7) fX5_count kw_293 (sv_recv14 C) ⟨Nat.le_of_ble_eq_true rfl, Nat.le_of_ble_eq_true rfl⟩ (Nat.le_of_ble_eq_true rfl) dL_stairs_233 ⟨Nat.zero_le _, Nat.zero_le _⟩  ?_
    refine sv_riN m hm ?_
    refine sv_icmp_geN C 363 dL_stairs_236 (by decide) (by omega) (by omega) (fun q236 => ?_) (fun q236 => ?_)
    · refine sv_aload_n (i := 0) (x := sv_r G 14 0) C dL_stairs_363 rfl rfl ?_
      refine sv_callV (as := []) (rest := []) C (met_worst l G _ _ _) fX5_worst kw_457 (sv_recv14 C) ⟨Nat.le_of_ble_eq_true rfl, Nat.le_of_ble_eq_true rfl⟩ (Nat.le_of_ble_eq_true rfl) dL_stairs_364 ⟨Nat.zero_le _, Nat.zero_le _⟩  ?_
      refine sv_riS (mm (M 0) 8) rfl ?_
      refine sv_istore (i := 8) C [(0, .ref (sv_r G 14 0)), (1, .int (nI m)), (2, .int (litI (M 0) 8)), (3, .int (smI (fun f => M 0 (6 * f + 11)) 8)), (4, .int (smI (fun f => M 0 (6 * f + 12)) 8)), (5, .int (smI (fun f => M 0 (6 * f + 13)) 8)), (6, .int (nI (bkN (M 0) 8))), (7, .int (nI 1)), (8, .int (mm (M 0) 8))] dL_stairs_367 (by decide) rfl ?_
      refine sv_iload (i := 7) (x := nI 1) C dL_stairs_369 rfl ?_
      refine sv_if_eq C 511 dL_stairs_371 (by decide) (fun q371 => ?_) (fun q371 => ?_)
      · exact absurd q371 (by decide)
      · refine sv_iload_n (i := 1) (x := nI m) C dL_stairs_374 rfl rfl ?_
        refine sv_aload_n (i := 0) (x := sv_r G 14 0) C dL_stairs_375 rfl rfl ?_
        refine sv_iconst (v := nI 1) C dL_stairs_376 (by decide) ?_
        refine sv_callV (as := [_]) (rest := [_]) C (met0_count l G _ _ _ 1 (by decide) hd h1 b6 b7) fX5_count kw_293 (sv_recv14 C) ⟨Nat.le_of_ble_eq_true rfl, Nat.le_of_ble_eq_true rfl⟩ (Nat.le_of_ble_eq_true rfl) dL_stairs_377 ⟨Nat.zero_le _, Nat.zero_le _⟩  ?_
        refine sv_riN m hm ?_
        refine sv_icmp_neN C 511 dL_stairs_380 (by decide) (by omega) (by omega) (fun q380 => ?_) (fun q380 => ?_)
        · exact absurd rfl q380
        · refine sv_iload_n (i := 1) (x := nI m) C dL_stairs_383 rfl rfl ?_
          refine sv_bipush (v := nI 6) C dL_stairs_384 (by decide) ?_
          refine sv_icmp_gtN C 511 dL_stairs_386 (by decide) (by omega) (by omega) (fun q386 => ?_) (fun q386 => ?_)
          · exact absurd q386 (by omega)
          · refine sv_iload_n (i := 2) (x := litI (M 0) 8) C dL_stairs_389 rfl rfl ?_
            refine sv_aload_n (i := 0) (x := sv_r G 14 0) C dL_stairs_390 rfl rfl ?_
            refine sv_iconst (v := nI 3) C dL_stairs_391 (by decide) ?_
            refine sv_callV (as := [_]) (rest := [_]) C (met0_count l G _ _ _ 3 (by decide) hd h1 b6 b7) fX5_count kw_293 (sv_recv14 C) ⟨Nat.le_of_ble_eq_true rfl, Nat.le_of_ble_eq_true rfl⟩ (Nat.le_of_ble_eq_true rfl) dL_stairs_392 ⟨Nat.zero_le _, Nat.zero_le _⟩  ?_
            refine sv_riS (litI (M 0) 8) rfl ?_
            refine sv_icmp_ne C 511 dL_stairs_395 (by decide) (fun q395 => ?_) (fun q395 => ?_)
            · exact absurd rfl q395
            · refine sv_iload_n (i := 3) (x := smI (fun f => M 0 (6 * f + 11)) 8) C dL_stairs_398 rfl rfl ?_
              refine sv_aload_n (i := 0) (x := sv_r G 14 0) C dL_stairs_399 rfl rfl ?_
              refine sv_iconst (v := nI 4) C dL_stairs_400 (by decide) ?_
              refine sv_callV (as := [_]) (rest := [_]) C (met0_count l G _ _ _ 4 (by decide) hd h1 b6 b7) fX5_count kw_293 (sv_recv14 C) ⟨Nat.le_of_ble_eq_true rfl, Nat.le_of_ble_eq_true rfl⟩ (Nat.le_of_ble_eq_true rfl) dL_stairs_401 ⟨Nat.zero_le _, Nat.zero_le _⟩  ?_
              refine sv_riS (smI (fun f => M 0 (6 * f + 11)) 8) rfl ?_
              refine sv_icmp_ne C 511 dL_stairs_404 (by decide) (fun q404 => ?_) (fun q404 => ?_)
              · exact absurd rfl q404
              · refine sv_iload (i := 4) (x := smI (fun f => M 0 (6 * f + 12)) 8) C dL_stairs_407 rfl ?_
                refine sv_aload_n (i := 0) (x := sv_r G 14 0) C dL_stairs_409 rfl rfl ?_
                refine sv_iconst (v := nI 5) C dL_stairs_410 (by decide) ?_
                refine sv_callV (as := [_]) (rest := [_]) C (met0_count l G _ _ _ 5 (by decide) hd h1 b6 b7) fX5_count kw_293 (sv_recv14 C) ⟨Nat.le_of_ble_eq_true rfl, Nat.le_of_ble_eq_true rfl⟩ (Nat.le_of_ble_eq_true rfl) dL_stairs_411 ⟨Nat.zero_le _, Nat.zero_le _⟩  ?_
                refine sv_riS (smI (fun f => M 0 (6 * f + 12)) 8) rfl ?_
                refine sv_icmp_ne C 511 dL_stairs_414 (by decide) (fun q414 => ?_) (fun q414 => ?_)
                · exact absurd rfl q414
                · refine sv_iload (i := 5) (x := smI (fun f => M 0 (6 * f + 13)) 8) C dL_stairs_417 rfl ?_
                  refine sv_aload_n (i := 0) (x := sv_r G 14 0) C dL_stairs_419 rfl rfl ?_
                  refine sv_bipush (v := nI 6) C dL_stairs_420 (by decide) ?_
                  refine sv_callV (as := [_]) (rest := [_]) C (met0_count l G _ _ _ 6 (by decide) hd h1 b6 b7) fX5_count kw_293 (sv_recv14 C) ⟨Nat.le_of_ble_eq_true rfl, Nat.le_of_ble_eq_true rfl⟩ (Nat.le_of_ble_eq_true rfl) dL_stairs_422 ⟨Nat.zero_le _, Nat.zero_le _⟩  ?_
                  refine sv_riS (smI (fun f => M 0 (6 * f + 13)) 8) rfl ?_
                  refine sv_icmp_ne C 511 dL_stairs_425 (by decide) (fun q425 => ?_) (fun q425 => ?_)
                  · exact absurd rfl q425
                  · refine sv_iload (i := 6) (x := nI (bkN (M 0) 8)) C dL_stairs_428 rfl ?_
                    refine sv_aload_n (i := 0) (x := sv_r G 14 0) C dL_stairs_430 rfl rfl ?_
                    refine sv_bipush (v := nI 9) C dL_stairs_431 (by decide) ?_
                    refine sv_callV (as := [_]) (rest := [_]) C (met0_count l G _ _ _ 9 (by decide) hd h1 b6 b7) fX5_count kw_293 (sv_recv14 C) ⟨Nat.le_of_ble_eq_true rfl, Nat.le_of_ble_eq_true rfl⟩ (Nat.le_of_ble_eq_true rfl) dL_stairs_433 ⟨Nat.zero_le _, Nat.zero_le _⟩  ?_
                    refine sv_riN (bkN (M 0) 8) (bk_eq hsn) ?_
                    refine sv_icmp_neN C 511 dL_stairs_436 (by decide) (by omega) (by omega) (fun q436 => ?_) (fun q436 => ?_)
                    · exact absurd rfl q436
                    · refine sv_iload (i := 8) (x := mm (M 0) 8) C dL_stairs_439 rfl ?_
                      refine sv_iconst (v := (-1)) C dL_stairs_441 (by decide) ?_
                      refine sv_sel_icmp_ne (va := nI 1) (vb := nI 0) C 449 dL_stairs_442 (by decide) dL_stairs_445 (by decide) dL_stairs_446 (by decide) dL_stairs_449 (by decide) ?_
                      refine sv_set (v' := .int (if mm (M 0) 8 = (-1) then nI 1 else nI 0)) (congrArg Value.int sel_nn) ?_
                      refine sv_iload (i := 6) (x := nI (bkN (M 0) 8)) C dL_stairs_450 rfl ?_
                      refine sv_sel_if_ne (va := nI 1) (vb := nI 0) C 459 dL_stairs_452 (by decide) dL_stairs_455 (by decide) dL_stairs_456 (by decide) dL_stairs_459 (by decide) ?_
                      refine sv_set (v' := .int (if mm (M 0) 8 = (-1) then nI 1 else nI 0)) (congrArg Value.int mm_sel) ?_
                      refine sv_icmp_ne C 511 dL_stairs_460 (by decide) (fun q460 => ?_) (fun q460 => ?_)
                      · exact absurd rfl q460
                      · refine sv_iload (i := 8) (x := mm (M 0) 8) C dL_stairs_463 rfl ?_
                        refine sv_iconst (v := (-1)) C dL_stairs_465 (by decide) ?_
                        refine sv_icmp_eq C 479 dL_stairs_466 (by decide) (fun q466 => ?_) (fun q466 => ?_)
                        · refine sv_aload_n (i := 0) (x := sv_r G 14 0) C dL_stairs_479 rfl rfl ?_
                          refine sv_iload_n (i := 1) (x := nI m) C dL_stairs_480 rfl rfl ?_
                          refine sv_iconst (v := nI 0) C dL_stairs_481 (by decide) ?_
                          refine sv_callV (as := [_, _]) (rest := []) C (met0_person l G _ _ _ m 0 (by omega) (by decide) m hm hm6) fX5_person kw_448 (sv_recv14 C) ⟨Nat.le_of_ble_eq_true rfl, Nat.le_of_ble_eq_true rfl⟩ (Nat.le_of_ble_eq_true rfl) dL_stairs_482 ⟨Nat.zero_le _, Nat.zero_le _⟩  ?_
                          refine sv_riS (-1) (if_neg (Nat.lt_irrefl m)) ?_
                          refine sv_iconst (v := (-1)) C dL_stairs_485 (by decide) ?_
                          refine sv_icmp_ne C 511 dL_stairs_486 (by decide) (fun q486 => ?_) (fun q486 => ?_)
                          · exact absurd rfl q486
                          · refine sv_aload_n (i := 0) (x := sv_r G 14 0) C dL_stairs_489 rfl rfl ?_
                            refine sv_callV (as := []) (rest := []) C (met_lightness l G _ _ _ hnn) fX5_lightness kw_465 (sv_recv14 C) ⟨Nat.le_of_ble_eq_true rfl, Nat.le_of_ble_eq_true rfl⟩ (Nat.le_of_ble_eq_true rfl) dL_stairs_490 ⟨Nat.zero_le _, Nat.zero_le _⟩  ?_
                            refine sv_rd (fun v490 e490 => ?_)
                            refine sv_dconst0 C dL_stairs_493 ?_
                            refine sv_dcmp C dL_stairs_494 ?_
                            refine sv_topi (fun v494 e494 => ?_)
                            refine sv_if_lt C 511 dL_stairs_495 (by decide) (fun q495 => ?_) (fun q495 => ?_)
                            · exact absurd q495 (by rw [e494, e490]; exact shr_ge hsh)
                            · refine sv_aload_n (i := 0) (x := sv_r G 14 0) C dL_stairs_498 rfl rfl ?_
                              refine sv_callV (as := []) (rest := []) C (met_lightness l G _ _ _ hnn) fX5_lightness kw_465 (sv_recv14 C) ⟨Nat.le_of_ble_eq_true rfl, Nat.le_of_ble_eq_true rfl⟩ (Nat.le_of_ble_eq_true rfl) dL_stairs_499 ⟨Nat.zero_le _, Nat.zero_le _⟩  ?_
                              refine sv_rd (fun v499 e499 => ?_)
                              refine sv_dconst1 C dL_stairs_502 ?_
                              refine sv_dcmp C dL_stairs_503 ?_
                              refine sv_topi (fun v503 e503 => ?_)
                              refine sv_if_gt C 511 dL_stairs_504 (by decide) (fun q504 => ?_) (fun q504 => ?_)
                              · exact absurd q504 (by rw [e503, e499]; exact shr_le hsh)
                              · refine sv_iconst (v := nI 1) C dL_stairs_507 (by decide) ?_
                                refine sv_goto C 512 dL_stairs_508 (by decide) ?_
                                exact sv_zret C (Or.inr rfl) hr dL_stairs_512 (Nat.le_of_ble_eq_true rfl) (Nat.le_of_ble_eq_true rfl) rfl (fun _ h => h)
                        · obtain ⟨g9, hg9, eg9, ez9⟩ := (mm_in (M 0) 8).resolve_left q466
                          rw [eg9]
                          refine sv_aload_n (i := 0) (x := sv_r G 14 0) C dL_stairs_469 rfl rfl ?_
                          refine sv_iload (i := 8) (x := nI g9) C dL_stairs_470 rfl ?_
                          refine sv_iconst (v := nI 2) C dL_stairs_472 (by decide) ?_
                          refine sv_callV (as := [_, _]) (rest := []) C (met0_floor l G _ _ _ g9 2 (by omega) (by decide) m hm hm6 b6 b7) fX5_floor kw_183 (sv_recv14 C) ⟨Nat.le_of_ble_eq_true rfl, Nat.le_of_ble_eq_true rfl⟩ (Nat.le_of_ble_eq_true rfl) dL_stairs_473 ⟨Nat.zero_le _, Nat.zero_le _⟩  ?_
                          refine sv_riS 0 ez9 ?_
                          refine sv_if_ne C 511 dL_stairs_476 (by decide) (fun q476 => ?_) (fun q476 => ?_)
                          · exact absurd rfl q476
                          · refine sv_aload_n (i := 0) (x := sv_r G 14 0) C dL_stairs_479 rfl rfl ?_
                            refine sv_iload_n (i := 1) (x := nI m) C dL_stairs_480 rfl rfl ?_
                            refine sv_iconst (v := nI 0) C dL_stairs_481 (by decide) ?_
                            refine sv_callV (as := [_, _]) (rest := []) C (met0_person l G _ _ _ m 0 (by omega) (by decide) m hm hm6) fX5_person kw_448 (sv_recv14 C) ⟨Nat.le_of_ble_eq_true rfl, Nat.le_of_ble_eq_true rfl⟩ (Nat.le_of_ble_eq_true rfl) dL_stairs_482 ⟨Nat.zero_le _, Nat.zero_le _⟩  ?_
                            refine sv_riS (-1) (if_neg (Nat.lt_irrefl m)) ?_
                            refine sv_iconst (v := (-1)) C dL_stairs_485 (by decide) ?_
                            refine sv_icmp_ne C 511 dL_stairs_486 (by decide) (fun q486 => ?_) (fun q486 => ?_)
                            · exact absurd rfl q486
                            · refine sv_aload_n (i := 0) (x := sv_r G 14 0) C dL_stairs_489 rfl rfl ?_
                              refine sv_callV (as := []) (rest := []) C (met_lightness l G _ _ _ hnn) fX5_lightness kw_465 (sv_recv14 C) ⟨Nat.le_of_ble_eq_true rfl, Nat.le_of_ble_eq_true rfl⟩ (Nat.le_of_ble_eq_true rfl) dL_stairs_490 ⟨Nat.zero_le _, Nat.zero_le _⟩  ?_
                              refine sv_rd (fun v490 e490 => ?_)
                              refine sv_dconst0 C dL_stairs_493 ?_
                              refine sv_dcmp C dL_stairs_494 ?_
                              refine sv_topi (fun v494 e494 => ?_)
                              refine sv_if_lt C 511 dL_stairs_495 (by decide) (fun q495 => ?_) (fun q495 => ?_)
                              · exact absurd q495 (by rw [e494, e490]; exact shr_ge hsh)
                              · refine sv_aload_n (i := 0) (x := sv_r G 14 0) C dL_stairs_498 rfl rfl ?_
                                refine sv_callV (as := []) (rest := []) C (met_lightness l G _ _ _ hnn) fX5_lightness kw_465 (sv_recv14 C) ⟨Nat.le_of_ble_eq_true rfl, Nat.le_of_ble_eq_true rfl⟩ (Nat.le_of_ble_eq_true rfl) dL_stairs_499 ⟨Nat.zero_le _, Nat.zero_le _⟩  ?_
                                refine sv_rd (fun v499 e499 => ?_)
                                refine sv_dconst1 C dL_stairs_502 ?_
                                refine sv_dcmp C dL_stairs_503 ?_
                                refine sv_topi (fun v503 e503 => ?_)
                                refine sv_if_gt C 511 dL_stairs_504 (by decide) (fun q504 => ?_) (fun q504 => ?_)
                                · exact absurd q504 (by rw [e503, e499]; exact shr_le hsh)
                                · refine sv_iconst (v := nI 1) C dL_stairs_507 (by decide) ?_
                                  refine sv_goto C 512 dL_stairs_508 (by decide) ?_
                                  exact sv_zret C (Or.inr rfl) hr dL_stairs_512 (Nat.le_of_ble_eq_true rfl) (Nat.le_of_ble_eq_true rfl) rfl (fun _ h => h)
    · refine sv_iload (i := 7) (x := nI 1) C dL_stairs_239 rfl ?_
      refine sv_if_eq C 363 dL_stairs_241 (by decide) (fun q241 => ?_) (fun q241 => ?_)
      · exact absurd q241 (by decide)
      · have him : i < m := by omega
        obtain ⟨t9, ht9, et9⟩ := lfz_N (hlf i him)
        obtain ⟨f9, hf9, ef9⟩ := hvf i him
        obtain ⟨n1, n2⟩ := hv9 i him
        refine sv_aload_n (i := 0) (x := sv_r G 14 0) C dL_stairs_244 rfl rfl ?_
        refine sv_iload (i := 8) (x := nI i) C dL_stairs_245 rfl ?_
        refine sv_iconst (v := nI 0) C dL_stairs_247 (by decide) ?_
        refine sv_callV (as := [_, _]) (rest := []) C (met0_person l G _ _ _ i 0 (by omega) (by decide) m hm hm6) fX5_person kw_448 (sv_recv14 C) ⟨Nat.le_of_ble_eq_true rfl, Nat.le_of_ble_eq_true rfl⟩ (Nat.le_of_ble_eq_true rfl) dL_stairs_248 ⟨Nat.zero_le _, Nat.zero_le _⟩  ?_
        refine sv_riN (v9 i) (by rw [if_pos him]; exact n1) ?_
        refine sv_aload_n (i := 0) (x := sv_r G 14 0) C dL_stairs_251 rfl rfl ?_
        refine sv_iconst (v := nI 2) C dL_stairs_252 (by decide) ?_
        refine sv_callV (as := [_]) (rest := [_]) C (met0_count l G _ _ _ 2 (by decide) hd h1 b6 b7) fX5_count kw_293 (sv_recv14 C) ⟨Nat.le_of_ble_eq_true rfl, Nat.le_of_ble_eq_true rfl⟩ (Nat.le_of_ble_eq_true rfl) dL_stairs_253 ⟨Nat.zero_le _, Nat.zero_le _⟩  ?_
        refine sv_riN c9 e5 ?_
        refine sv_icmp_geN C 354 dL_stairs_256 (by decide) (by omega) (by omega) (fun q256 => ?_) (fun q256 => ?_)
        · exact absurd n2 (by omega)
        · refine sv_iload (i := 8) (x := nI i) C dL_stairs_259 rfl ?_
          refine sv_if_eq C 283 dL_stairs_261 (by decide) (fun q261 => ?_) (fun q261 => ?_)
          · refine sv_aload_n (i := 0) (x := sv_r G 14 0) C dL_stairs_283 rfl rfl ?_
            refine sv_iload (i := 8) (x := nI i) C dL_stairs_284 rfl ?_
            refine sv_iconst (v := nI 3) C dL_stairs_286 (by decide) ?_
            refine sv_callV (as := [_, _]) (rest := []) C (met0_person l G _ _ _ i 3 (by omega) (by decide) m hm hm6) fX5_person kw_448 (sv_recv14 C) ⟨Nat.le_of_ble_eq_true rfl, Nat.le_of_ble_eq_true rfl⟩ (Nat.le_of_ble_eq_true rfl) dL_stairs_287 ⟨Nat.zero_le _, Nat.zero_le _⟩  ?_
            refine sv_riS (M 0 (4 * i + 61)) (by rw [if_pos him]) ?_
            refine sv_sel_if_ne (va := nI 1) (vb := nI 0) C 297 dL_stairs_290 (by decide) dL_stairs_293 (by decide) dL_stairs_294 (by decide) dL_stairs_297 (by decide) ?_
            refine sv_set (v' := .int (if M 0 (4 * i + 59) = M 0 (4 * i + 60) then nI 1 else nI 0)) (congrArg Value.int (lfz_sel (hlf i him))) ?_
            refine sv_aload_n (i := 0) (x := sv_r G 14 0) C dL_stairs_298 rfl rfl ?_
            refine sv_iload (i := 8) (x := nI i) C dL_stairs_299 rfl ?_
            refine sv_iconst (v := nI 1) C dL_stairs_301 (by decide) ?_
            refine sv_callV (as := [_, _]) (rest := [_]) C (met0_person l G _ _ _ i 1 (by omega) (by decide) m hm hm6) fX5_person kw_448 (sv_recv14 C) ⟨Nat.le_of_ble_eq_true rfl, Nat.le_of_ble_eq_true rfl⟩ (Nat.le_of_ble_eq_true rfl) dL_stairs_302 ⟨Nat.zero_le _, Nat.zero_le _⟩  ?_
            refine sv_riS (M 0 (4 * i + 59)) (by rw [if_pos him]) ?_
            refine sv_aload_n (i := 0) (x := sv_r G 14 0) C dL_stairs_305 rfl rfl ?_
            refine sv_iload (i := 8) (x := nI i) C dL_stairs_306 rfl ?_
            refine sv_iconst (v := nI 2) C dL_stairs_308 (by decide) ?_
            refine sv_callV (as := [_, _]) (rest := [_, _]) C (met0_person l G _ _ _ i 2 (by omega) (by decide) m hm hm6) fX5_person kw_448 (sv_recv14 C) ⟨Nat.le_of_ble_eq_true rfl, Nat.le_of_ble_eq_true rfl⟩ (Nat.le_of_ble_eq_true rfl) dL_stairs_309 ⟨Nat.zero_le _, Nat.zero_le _⟩  ?_
            refine sv_riS (M 0 (4 * i + 60)) (by rw [if_pos him]) ?_
            refine sv_sel_icmp_ne (va := nI 1) (vb := nI 0) C 319 dL_stairs_312 (by decide) dL_stairs_315 (by decide) dL_stairs_316 (by decide) dL_stairs_319 (by decide) ?_
            refine sv_set (v' := .int (if M 0 (4 * i + 59) = M 0 (4 * i + 60) then nI 1 else nI 0)) (congrArg Value.int sel_nn) ?_
            refine sv_icmp_ne C 354 dL_stairs_320 (by decide) (fun q320 => ?_) (fun q320 => ?_)
            · exact absurd rfl q320
            · refine sv_aload_n (i := 0) (x := sv_r G 14 0) C dL_stairs_323 rfl rfl ?_
              refine sv_iload (i := 8) (x := nI i) C dL_stairs_324 rfl ?_
              refine sv_iconst (v := nI 3) C dL_stairs_326 (by decide) ?_
              refine sv_callV (as := [_, _]) (rest := []) C (met0_person l G _ _ _ i 3 (by omega) (by decide) m hm hm6) fX5_person kw_448 (sv_recv14 C) ⟨Nat.le_of_ble_eq_true rfl, Nat.le_of_ble_eq_true rfl⟩ (Nat.le_of_ble_eq_true rfl) dL_stairs_327 ⟨Nat.zero_le _, Nat.zero_le _⟩  ?_
              refine sv_riN t9 (by rw [if_pos him]; exact et9) ?_
              refine sv_bipush (v := nI 60) C dL_stairs_330 (by decide) ?_
              refine sv_icmp_gtN C 354 dL_stairs_332 (by decide) (by omega) (by omega) (fun q332 => ?_) (fun q332 => ?_)
              · exact absurd q332 (by omega)
              · refine sv_aload_n (i := 0) (x := sv_r G 14 0) C dL_stairs_335 rfl rfl ?_
                refine sv_aload_n (i := 0) (x := sv_r G 14 0) C dL_stairs_336 rfl rfl ?_
                refine sv_iload (i := 8) (x := nI i) C dL_stairs_337 rfl ?_
                refine sv_iconst (v := nI 1) C dL_stairs_339 (by decide) ?_
                refine sv_callV (as := [_, _]) (rest := [_]) C (met0_person l G _ _ _ i 1 (by omega) (by decide) m hm hm6) fX5_person kw_448 (sv_recv14 C) ⟨Nat.le_of_ble_eq_true rfl, Nat.le_of_ble_eq_true rfl⟩ (Nat.le_of_ble_eq_true rfl) dL_stairs_340 ⟨Nat.zero_le _, Nat.zero_le _⟩  ?_
                refine sv_riN f9 (by rw [if_pos him]; exact ef9) ?_
                refine sv_iconst (v := nI 3) C dL_stairs_343 (by decide) ?_
                refine sv_callV (as := [_, _]) (rest := []) C (met0_floor l G _ _ _ f9 3 (by omega) (by decide) m hm hm6 b6 b7) fX5_floor kw_183 (sv_recv14 C) ⟨Nat.le_of_ble_eq_true rfl, Nat.le_of_ble_eq_true rfl⟩ (Nat.le_of_ble_eq_true rfl) dL_stairs_344 ⟨Nat.zero_le _, Nat.zero_le _⟩  ?_
                refine sv_riS (onI (M 0) (nI f9) m) rfl ?_
                refine sv_if_le C 354 dL_stairs_347 (by decide) (fun q347 => ?_) (fun q347 => ?_)
                · exact absurd (onI_pos ef9 him (by omega)) (Int32.not_lt.mpr q347)
                · refine sv_iconst (v := nI 1) C dL_stairs_350 (by decide) ?_
                  refine sv_goto C 355 dL_stairs_351 (by decide) ?_
                  refine sv_istore (i := 7) C [(0, .ref (sv_r G 14 0)), (1, .int (nI m)), (2, .int (litI (M 0) 8)), (3, .int (smI (fun f => M 0 (6 * f + 11)) 8)), (4, .int (smI (fun f => M 0 (6 * f + 12)) 8)), (5, .int (smI (fun f => M 0 (6 * f + 13)) 8)), (6, .int (nI (bkN (M 0) 8))), (7, .int (nI 1)), (8, .int (nI i))] dL_stairs_355 (by decide) rfl ?_
                  refine sv_iinc (i := 8) (x := nI i) C (nI (i + 1)) [(0, .ref (sv_r G 14 0)), (1, .int (nI m)), (2, .int (litI (M 0) 8)), (3, .int (smI (fun f => M 0 (6 * f + 11)) 8)), (4, .int (smI (fun f => M 0 (6 * f + 12)) 8)), (5, .int (smI (fun f => M 0 (6 * f + 13)) 8)), (6, .int (nI (bkN (M 0) 8))), (7, .int (nI 1)), (8, .int (nI (i + 1)))] dL_stairs_357 rfl (sv_incN i 1) (by decide) rfl ?_
                  refine sv_goto C 229 dL_stairs_360 (by decide) ?_
                  exact ih (by omega) trivial
          · have hi1 : 0 < i := by
              rcases Nat.eq_zero_or_pos i with h | h
              · exact absurd (by rw [h]; rfl) q261
              · exact h
            obtain ⟨n3, n4⟩ := hv9 (i - 1) (by omega)
            refine sv_aload_n (i := 0) (x := sv_r G 14 0) C dL_stairs_264 rfl rfl ?_
            refine sv_iload (i := 8) (x := nI i) C dL_stairs_265 rfl ?_
            refine sv_iconst (v := nI 1) C dL_stairs_267 (by decide) ?_
            refine sv_isub C dL_stairs_268 ?_
            refine sv_set (v' := .int (nI (i - 1))) (congrArg Value.int (pk_sub hi1)) ?_
            refine sv_iconst (v := nI 0) C dL_stairs_269 (by decide) ?_
            refine sv_callV (as := [_, _]) (rest := []) C (met0_person l G _ _ _ (i - 1) 0 (by omega) (by decide) m hm hm6) fX5_person kw_448 (sv_recv14 C) ⟨Nat.le_of_ble_eq_true rfl, Nat.le_of_ble_eq_true rfl⟩ (Nat.le_of_ble_eq_true rfl) dL_stairs_270 ⟨Nat.zero_le _, Nat.zero_le _⟩  ?_
            refine sv_riN (v9 (i - 1)) (by rw [if_pos (by omega)]; exact n3) ?_
            refine sv_aload_n (i := 0) (x := sv_r G 14 0) C dL_stairs_273 rfl rfl ?_
            refine sv_iload (i := 8) (x := nI i) C dL_stairs_274 rfl ?_
            refine sv_iconst (v := nI 0) C dL_stairs_276 (by decide) ?_
            refine sv_callV (as := [_, _]) (rest := [_]) C (met0_person l G _ _ _ i 0 (by omega) (by decide) m hm hm6) fX5_person kw_448 (sv_recv14 C) ⟨Nat.le_of_ble_eq_true rfl, Nat.le_of_ble_eq_true rfl⟩ (Nat.le_of_ble_eq_true rfl) dL_stairs_277 ⟨Nat.zero_le _, Nat.zero_le _⟩  ?_
            refine sv_riN (v9 i) (by rw [if_pos him]; exact n1) ?_
            refine sv_icmp_geN C 354 dL_stairs_280 (by decide) (by omega) (by omega) (fun q280 => ?_) (fun q280 => ?_)
            · exact absurd (hr9 (i - 1) i (by omega) him) (by omega)
            · refine sv_aload_n (i := 0) (x := sv_r G 14 0) C dL_stairs_283 rfl rfl ?_
              refine sv_iload (i := 8) (x := nI i) C dL_stairs_284 rfl ?_
              refine sv_iconst (v := nI 3) C dL_stairs_286 (by decide) ?_
              refine sv_callV (as := [_, _]) (rest := []) C (met0_person l G _ _ _ i 3 (by omega) (by decide) m hm hm6) fX5_person kw_448 (sv_recv14 C) ⟨Nat.le_of_ble_eq_true rfl, Nat.le_of_ble_eq_true rfl⟩ (Nat.le_of_ble_eq_true rfl) dL_stairs_287 ⟨Nat.zero_le _, Nat.zero_le _⟩  ?_
              refine sv_riS (M 0 (4 * i + 61)) (by rw [if_pos him]) ?_
              refine sv_sel_if_ne (va := nI 1) (vb := nI 0) C 297 dL_stairs_290 (by decide) dL_stairs_293 (by decide) dL_stairs_294 (by decide) dL_stairs_297 (by decide) ?_
              refine sv_set (v' := .int (if M 0 (4 * i + 59) = M 0 (4 * i + 60) then nI 1 else nI 0)) (congrArg Value.int (lfz_sel (hlf i him))) ?_
              refine sv_aload_n (i := 0) (x := sv_r G 14 0) C dL_stairs_298 rfl rfl ?_
              refine sv_iload (i := 8) (x := nI i) C dL_stairs_299 rfl ?_
              refine sv_iconst (v := nI 1) C dL_stairs_301 (by decide) ?_
              refine sv_callV (as := [_, _]) (rest := [_]) C (met0_person l G _ _ _ i 1 (by omega) (by decide) m hm hm6) fX5_person kw_448 (sv_recv14 C) ⟨Nat.le_of_ble_eq_true rfl, Nat.le_of_ble_eq_true rfl⟩ (Nat.le_of_ble_eq_true rfl) dL_stairs_302 ⟨Nat.zero_le _, Nat.zero_le _⟩  ?_
              refine sv_riS (M 0 (4 * i + 59)) (by rw [if_pos him]) ?_
              refine sv_aload_n (i := 0) (x := sv_r G 14 0) C dL_stairs_305 rfl rfl ?_
              refine sv_iload (i := 8) (x := nI i) C dL_stairs_306 rfl ?_
              refine sv_iconst (v := nI 2) C dL_stairs_308 (by decide) ?_
              refine sv_callV (as := [_, _]) (rest := [_, _]) C (met0_person l G _ _ _ i 2 (by omega) (by decide) m hm hm6) fX5_person kw_448 (sv_recv14 C) ⟨Nat.le_of_ble_eq_true rfl, Nat.le_of_ble_eq_true rfl⟩ (Nat.le_of_ble_eq_true rfl) dL_stairs_309 ⟨Nat.zero_le _, Nat.zero_le _⟩  ?_
              refine sv_riS (M 0 (4 * i + 60)) (by rw [if_pos him]) ?_
              refine sv_sel_icmp_ne (va := nI 1) (vb := nI 0) C 319 dL_stairs_312 (by decide) dL_stairs_315 (by decide) dL_stairs_316 (by decide) dL_stairs_319 (by decide) ?_
              refine sv_set (v' := .int (if M 0 (4 * i + 59) = M 0 (4 * i + 60) then nI 1 else nI 0)) (congrArg Value.int sel_nn) ?_
              refine sv_icmp_ne C 354 dL_stairs_320 (by decide) (fun q320 => ?_) (fun q320 => ?_)
              · exact absurd rfl q320
              · refine sv_aload_n (i := 0) (x := sv_r G 14 0) C dL_stairs_323 rfl rfl ?_
                refine sv_iload (i := 8) (x := nI i) C dL_stairs_324 rfl ?_
                refine sv_iconst (v := nI 3) C dL_stairs_326 (by decide) ?_
                refine sv_callV (as := [_, _]) (rest := []) C (met0_person l G _ _ _ i 3 (by omega) (by decide) m hm hm6) fX5_person kw_448 (sv_recv14 C) ⟨Nat.le_of_ble_eq_true rfl, Nat.le_of_ble_eq_true rfl⟩ (Nat.le_of_ble_eq_true rfl) dL_stairs_327 ⟨Nat.zero_le _, Nat.zero_le _⟩  ?_
                refine sv_riN t9 (by rw [if_pos him]; exact et9) ?_
                refine sv_bipush (v := nI 60) C dL_stairs_330 (by decide) ?_
                refine sv_icmp_gtN C 354 dL_stairs_332 (by decide) (by omega) (by omega) (fun q332 => ?_) (fun q332 => ?_)
                · exact absurd q332 (by omega)
                · refine sv_aload_n (i := 0) (x := sv_r G 14 0) C dL_stairs_335 rfl rfl ?_
                  refine sv_aload_n (i := 0) (x := sv_r G 14 0) C dL_stairs_336 rfl rfl ?_
                  refine sv_iload (i := 8) (x := nI i) C dL_stairs_337 rfl ?_
                  refine sv_iconst (v := nI 1) C dL_stairs_339 (by decide) ?_
                  refine sv_callV (as := [_, _]) (rest := [_]) C (met0_person l G _ _ _ i 1 (by omega) (by decide) m hm hm6) fX5_person kw_448 (sv_recv14 C) ⟨Nat.le_of_ble_eq_true rfl, Nat.le_of_ble_eq_true rfl⟩ (Nat.le_of_ble_eq_true rfl) dL_stairs_340 ⟨Nat.zero_le _, Nat.zero_le _⟩  ?_
                  refine sv_riN f9 (by rw [if_pos him]; exact ef9) ?_
                  refine sv_iconst (v := nI 3) C dL_stairs_343 (by decide) ?_
                  refine sv_callV (as := [_, _]) (rest := []) C (met0_floor l G _ _ _ f9 3 (by omega) (by decide) m hm hm6 b6 b7) fX5_floor kw_183 (sv_recv14 C) ⟨Nat.le_of_ble_eq_true rfl, Nat.le_of_ble_eq_true rfl⟩ (Nat.le_of_ble_eq_true rfl) dL_stairs_344 ⟨Nat.zero_le _, Nat.zero_le _⟩  ?_
                  refine sv_riS (onI (M 0) (nI f9) m) rfl ?_
                  refine sv_if_le C 354 dL_stairs_347 (by decide) (fun q347 => ?_) (fun q347 => ?_)
                  · exact absurd (onI_pos ef9 him (by omega)) (Int32.not_lt.mpr q347)
                  · refine sv_iconst (v := nI 1) C dL_stairs_350 (by decide) ?_
                    refine sv_goto C 355 dL_stairs_351 (by decide) ?_
                    refine sv_istore (i := 7) C [(0, .ref (sv_r G 14 0)), (1, .int (nI m)), (2, .int (litI (M 0) 8)), (3, .int (smI (fun f => M 0 (6 * f + 11)) 8)), (4, .int (smI (fun f => M 0 (6 * f + 12)) 8)), (5, .int (smI (fun f => M 0 (6 * f + 13)) 8)), (6, .int (nI (bkN (M 0) 8))), (7, .int (nI 1)), (8, .int (nI i))] dL_stairs_355 (by decide) rfl ?_
                    refine sv_iinc (i := 8) (x := nI i) C (nI (i + 1)) [(0, .ref (sv_r G 14 0)), (1, .int (nI m)), (2, .int (litI (M 0) 8)), (3, .int (smI (fun f => M 0 (6 * f + 11)) 8)), (4, .int (smI (fun f => M 0 (6 * f + 12)) 8)), (5, .int (smI (fun f => M 0 (6 * f + 13)) 8)), (6, .int (nI (bkN (M 0) 8))), (7, .int (nI 1)), (8, .int (nI (i + 1)))] dL_stairs_357 rfl (sv_incN i 1) (by decide) rfl ?_
                    refine sv_goto C 229 dL_stairs_360 (by decide) ?_
                    exact ih (by omega) trivial
  · refine sv_iload (i := 7) (x := nI 1) C dL_stairs_28 rfl ?_
    refine sv_if_eq C 226 dL_stairs_30 (by decide) (fun q30 => ?_) (fun q30 => ?_)
    · exact absurd q30 (by decide)
    · refine sv_aload_n (i := 0) (x := sv_r G 14 0) C dL_stairs_33 rfl rfl ?_
      refine sv_iload (i := 8) (x := nI i) C dL_stairs_34 rfl ?_
      refine sv_iconst (v := nI 0) C dL_stairs_36 (by decide) ?_
      refine sv_callV (as := [_, _]) (rest := []) C (met0_floor l G _ _ _ i 0 (by omega) (by decide) m hm hm6 b6 b7) fX5_floor kw_183 (sv_recv14 C) ⟨Nat.le_of_ble_eq_true rfl, Nat.le_of_ble_eq_true rfl⟩ (Nat.le_of_ble_eq_true rfl) dL_stairs_37 ⟨Nat.zero_le _, Nat.zero_le _⟩  ?_
      refine sv_riS (lampv (M 0) i) rfl ?_
      refine sv_istore (i := 9) C [(0, .ref (sv_r G 14 0)), (1, .int (smI (fun f => onI (M 0) (nI f) m) i)), (2, .int (litI (M 0) i)), (3, .int (smI (fun f => M 0 (6 * f + 11)) i)), (4, .int (smI (fun f => M 0 (6 * f + 12)) i)), (5, .int (smI (fun f => M 0 (6 * f + 13)) i)), (6, .int (nI (bkN (M 0) i))), (7, .int (nI 1)), (8, .int (nI i)), (9, .int (lampv (M 0) i))] dL_stairs_40 (by decide) rfl ?_
      obtain ⟨b9, hb9, eb9⟩ := hbr.2 i (by omega)
      refine sv_aload_n (i := 0) (x := sv_r G 14 0) C dL_stairs_42 rfl rfl ?_
      refine sv_iload (i := 8) (x := nI i) C dL_stairs_43 rfl ?_
      refine sv_iconst (v := nI 1) C dL_stairs_45 (by decide) ?_
      refine sv_callV (as := [_, _]) (rest := []) C (met0_floor l G _ _ _ i 1 (by omega) (by decide) m hm hm6 b6 b7) fX5_floor kw_183 (sv_recv14 C) ⟨Nat.le_of_ble_eq_true rfl, Nat.le_of_ble_eq_true rfl⟩ (Nat.le_of_ble_eq_true rfl) dL_stairs_46 ⟨Nat.zero_le _, Nat.zero_le _⟩  ?_
      refine sv_riN b9 eb9 ?_
      refine sv_istore (i := 10) C [(0, .ref (sv_r G 14 0)), (1, .int (smI (fun f => onI (M 0) (nI f) m) i)), (2, .int (litI (M 0) i)), (3, .int (smI (fun f => M 0 (6 * f + 11)) i)), (4, .int (smI (fun f => M 0 (6 * f + 12)) i)), (5, .int (smI (fun f => M 0 (6 * f + 13)) i)), (6, .int (nI (bkN (M 0) i))), (7, .int (nI 1)), (8, .int (nI i)), (9, .int (lampv (M 0) i)), (10, .int (nI b9))] dL_stairs_49 (by decide) rfl ?_
      refine sv_aload_n (i := 0) (x := sv_r G 14 0) C dL_stairs_51 rfl rfl ?_
      refine sv_bipush (v := nI 8) C dL_stairs_52 (by decide) ?_
      refine sv_callV (as := [_]) (rest := []) C (met0_count l G _ _ _ 8 (by decide) hd h1 b6 b7) fX5_count kw_293 (sv_recv14 C) ⟨Nat.le_of_ble_eq_true rfl, Nat.le_of_ble_eq_true rfl⟩ (Nat.le_of_ble_eq_true rfl) dL_stairs_54 ⟨Nat.zero_le _, Nat.zero_le _⟩  ?_
      refine sv_riS (M 0 7) rfl ?_
      refine sv_iconst (v := nI 1) C dL_stairs_57 (by decide) ?_
      refine sv_sel_icmp_ne (va := nI 1) (vb := nI 0) C 65 dL_stairs_58 (by decide) dL_stairs_61 (by decide) dL_stairs_62 (by decide) dL_stairs_65 (by decide) ?_
      refine sv_set (v' := .int (M 0 7)) (congrArg Value.int (by rcases b7 with h | h <;> rw [h] <;> rfl)) ?_
      refine sv_istore (i := 11) C [(0, .ref (sv_r G 14 0)), (1, .int (smI (fun f => onI (M 0) (nI f) m) i)), (2, .int (litI (M 0) i)), (3, .int (smI (fun f => M 0 (6 * f + 11)) i)), (4, .int (smI (fun f => M 0 (6 * f + 12)) i)), (5, .int (smI (fun f => M 0 (6 * f + 13)) i)), (6, .int (nI (bkN (M 0) i))), (7, .int (nI 1)), (8, .int (nI i)), (9, .int (lampv (M 0) i)), (10, .int (nI b9)), (11, .int (M 0 7))] dL_stairs_66 (by decide) rfl ?_
      refine sv_iload (i := 10) (x := nI b9) C dL_stairs_68 rfl ?_
      refine sv_if_lt C 138 dL_stairs_70 (by decide) (fun q70 => ?_) (fun q70 => ?_)
      · exact absurd q70 (nI_pos (by omega))
      · refine sv_iload (i := 10) (x := nI b9) C dL_stairs_73 rfl ?_
        refine sv_sipush (v := nI 999) C dL_stairs_75 (by decide) ?_
        refine sv_icmp_gtN C 138 dL_stairs_78 (by decide) (by omega) (by omega) (fun q78 => ?_) (fun q78 => ?_)
        · exact absurd q78 (by omega)
        · refine sv_iload (i := 11) (x := M 0 7) C dL_stairs_81 rfl ?_
          refine sv_if_eq C 95 dL_stairs_83 (by decide) (fun q83 => ?_) (fun q83 => ?_)
          · refine sv_iload (i := 10) (x := nI b9) C dL_stairs_95 rfl ?_
            refine sv_if_ne C 114 dL_stairs_97 (by decide) (fun q97 => ?_) (fun q97 => ?_)
            · refine sv_iload (i := 9) (x := lampv (M 0) i) C dL_stairs_114 rfl ?_
              refine sv_iload (i := 10) (x := nI b9) C dL_stairs_116 rfl ?_
              refine sv_aload_n (i := 0) (x := sv_r G 14 0) C dL_stairs_118 rfl rfl ?_
              refine sv_iconst (v := nI 1) C dL_stairs_119 (by decide) ?_
              refine sv_callV (as := [_]) (rest := [_, _]) C (met0_setting l G _ _ _ 1 (by decide)) fX5_setting kw_311 (sv_recv14 C) ⟨Nat.le_of_ble_eq_true rfl, Nat.le_of_ble_eq_true rfl⟩ (Nat.le_of_ble_eq_true rfl) dL_stairs_120 ⟨Nat.zero_le _, Nat.zero_le _⟩  ?_
              refine sv_riS (M 0 1) rfl ?_
              refine sv_sel_icmp_gt (va := nI 2) (vb := nI 3) C 130 dL_stairs_123 (by decide) dL_stairs_126 (by decide) dL_stairs_127 (by decide) dL_stairs_130 (by decide) ?_
              refine sv_set (v' := .int (lampv (M 0) i)) (congrArg Value.int (lamp_sel (by rw [q83]; decide) q97 eb9)) ?_
              refine sv_icmp_ne C 138 dL_stairs_131 (by decide) (fun q131 => ?_) (fun q131 => ?_)
              · exact absurd rfl q131
              · refine sv_iconst (v := nI 1) C dL_stairs_134 (by decide) ?_
                refine sv_goto C 139 dL_stairs_135 (by decide) ?_
                refine sv_istore (i := 7) C [(0, .ref (sv_r G 14 0)), (1, .int (smI (fun f => onI (M 0) (nI f) m) i)), (2, .int (litI (M 0) i)), (3, .int (smI (fun f => M 0 (6 * f + 11)) i)), (4, .int (smI (fun f => M 0 (6 * f + 12)) i)), (5, .int (smI (fun f => M 0 (6 * f + 13)) i)), (6, .int (nI (bkN (M 0) i))), (7, .int (nI 1)), (8, .int (nI i)), (9, .int (lampv (M 0) i)), (10, .int (nI b9)), (11, .int (M 0 7))] dL_stairs_139 (by decide) rfl ?_
                refine sv_iload_n (i := 1) (x := smI (fun f => onI (M 0) (nI f) m) i) C dL_stairs_141 rfl rfl ?_
                refine sv_aload_n (i := 0) (x := sv_r G 14 0) C dL_stairs_142 rfl rfl ?_
                refine sv_iload (i := 8) (x := nI i) C dL_stairs_143 rfl ?_
                refine sv_iconst (v := nI 3) C dL_stairs_145 (by decide) ?_
                refine sv_callV (as := [_, _]) (rest := [_]) C (met0_floor l G _ _ _ i 3 (by omega) (by decide) m hm hm6 b6 b7) fX5_floor kw_183 (sv_recv14 C) ⟨Nat.le_of_ble_eq_true rfl, Nat.le_of_ble_eq_true rfl⟩ (Nat.le_of_ble_eq_true rfl) dL_stairs_146 ⟨Nat.zero_le _, Nat.zero_le _⟩  ?_
                refine sv_riS (onI (M 0) (nI i) m) rfl ?_
                refine sv_iadd C dL_stairs_149 ?_
                refine sv_set (v' := .int (smI (fun f => onI (M 0) (nI f) m) (i + 1))) (congrArg Value.int rfl) ?_
                refine sv_istore_n (i := 1) C [(0, .ref (sv_r G 14 0)), (1, .int (smI (fun f => onI (M 0) (nI f) m) (i + 1))), (2, .int (litI (M 0) i)), (3, .int (smI (fun f => M 0 (6 * f + 11)) i)), (4, .int (smI (fun f => M 0 (6 * f + 12)) i)), (5, .int (smI (fun f => M 0 (6 * f + 13)) i)), (6, .int (nI (bkN (M 0) i))), (7, .int (nI 1)), (8, .int (nI i)), (9, .int (lampv (M 0) i)), (10, .int (nI b9)), (11, .int (M 0 7))] dL_stairs_150 rfl (by decide) rfl ?_
                refine sv_iload_n (i := 2) (x := litI (M 0) i) C dL_stairs_151 rfl rfl ?_
                refine sv_iload (i := 9) (x := lampv (M 0) i) C dL_stairs_152 rfl ?_
                refine sv_iconst (v := nI 2) C dL_stairs_154 (by decide) ?_
                refine sv_sel_icmp_lt (va := nI 1) (vb := nI 0) C 162 dL_stairs_155 (by decide) dL_stairs_158 (by decide) dL_stairs_159 (by decide) dL_stairs_162 (by decide) ?_
                refine sv_set (v' := .int (if lampv (M 0) i < 2 then 0 else 1)) (congrArg Value.int rfl) ?_
                refine sv_iadd C dL_stairs_163 ?_
                refine sv_set (v' := .int (litI (M 0) (i + 1))) (congrArg Value.int rfl) ?_
                refine sv_istore_n (i := 2) C [(0, .ref (sv_r G 14 0)), (1, .int (smI (fun f => onI (M 0) (nI f) m) (i + 1))), (2, .int (litI (M 0) (i + 1))), (3, .int (smI (fun f => M 0 (6 * f + 11)) i)), (4, .int (smI (fun f => M 0 (6 * f + 12)) i)), (5, .int (smI (fun f => M 0 (6 * f + 13)) i)), (6, .int (nI (bkN (M 0) i))), (7, .int (nI 1)), (8, .int (nI i)), (9, .int (lampv (M 0) i)), (10, .int (nI b9)), (11, .int (M 0 7))] dL_stairs_164 rfl (by decide) rfl ?_
                refine sv_iload_n (i := 3) (x := smI (fun f => M 0 (6 * f + 11)) i) C dL_stairs_165 rfl rfl ?_
                refine sv_aload_n (i := 0) (x := sv_r G 14 0) C dL_stairs_166 rfl rfl ?_
                refine sv_iload (i := 8) (x := nI i) C dL_stairs_167 rfl ?_
                refine sv_iconst (v := nI 4) C dL_stairs_169 (by decide) ?_
                refine sv_callV (as := [_, _]) (rest := [_]) C (met0_floor l G _ _ _ i 4 (by omega) (by decide) m hm hm6 b6 b7) fX5_floor kw_183 (sv_recv14 C) ⟨Nat.le_of_ble_eq_true rfl, Nat.le_of_ble_eq_true rfl⟩ (Nat.le_of_ble_eq_true rfl) dL_stairs_170 ⟨Nat.zero_le _, Nat.zero_le _⟩  ?_
                refine sv_riS (M 0 (6 * i + 11)) rfl ?_
                refine sv_iadd C dL_stairs_173 ?_
                refine sv_set (v' := .int (smI (fun f => M 0 (6 * f + 11)) (i + 1))) (congrArg Value.int rfl) ?_
                refine sv_istore_n (i := 3) C [(0, .ref (sv_r G 14 0)), (1, .int (smI (fun f => onI (M 0) (nI f) m) (i + 1))), (2, .int (litI (M 0) (i + 1))), (3, .int (smI (fun f => M 0 (6 * f + 11)) (i + 1))), (4, .int (smI (fun f => M 0 (6 * f + 12)) i)), (5, .int (smI (fun f => M 0 (6 * f + 13)) i)), (6, .int (nI (bkN (M 0) i))), (7, .int (nI 1)), (8, .int (nI i)), (9, .int (lampv (M 0) i)), (10, .int (nI b9)), (11, .int (M 0 7))] dL_stairs_174 rfl (by decide) rfl ?_
                refine sv_iload (i := 4) (x := smI (fun f => M 0 (6 * f + 12)) i) C dL_stairs_175 rfl ?_
                refine sv_aload_n (i := 0) (x := sv_r G 14 0) C dL_stairs_177 rfl rfl ?_
                refine sv_iload (i := 8) (x := nI i) C dL_stairs_178 rfl ?_
                refine sv_iconst (v := nI 5) C dL_stairs_180 (by decide) ?_
                refine sv_callV (as := [_, _]) (rest := [_]) C (met0_floor l G _ _ _ i 5 (by omega) (by decide) m hm hm6 b6 b7) fX5_floor kw_183 (sv_recv14 C) ⟨Nat.le_of_ble_eq_true rfl, Nat.le_of_ble_eq_true rfl⟩ (Nat.le_of_ble_eq_true rfl) dL_stairs_181 ⟨Nat.zero_le _, Nat.zero_le _⟩  ?_
                refine sv_riS (M 0 (6 * i + 12)) rfl ?_
                refine sv_iadd C dL_stairs_184 ?_
                refine sv_set (v' := .int (smI (fun f => M 0 (6 * f + 12)) (i + 1))) (congrArg Value.int rfl) ?_
                refine sv_istore (i := 4) C [(0, .ref (sv_r G 14 0)), (1, .int (smI (fun f => onI (M 0) (nI f) m) (i + 1))), (2, .int (litI (M 0) (i + 1))), (3, .int (smI (fun f => M 0 (6 * f + 11)) (i + 1))), (4, .int (smI (fun f => M 0 (6 * f + 12)) (i + 1))), (5, .int (smI (fun f => M 0 (6 * f + 13)) i)), (6, .int (nI (bkN (M 0) i))), (7, .int (nI 1)), (8, .int (nI i)), (9, .int (lampv (M 0) i)), (10, .int (nI b9)), (11, .int (M 0 7))] dL_stairs_185 (by decide) rfl ?_
                refine sv_iload (i := 5) (x := smI (fun f => M 0 (6 * f + 13)) i) C dL_stairs_187 rfl ?_
                refine sv_aload_n (i := 0) (x := sv_r G 14 0) C dL_stairs_189 rfl rfl ?_
                refine sv_iload (i := 8) (x := nI i) C dL_stairs_190 rfl ?_
                refine sv_bipush (v := nI 6) C dL_stairs_192 (by decide) ?_
                refine sv_callV (as := [_, _]) (rest := [_]) C (met0_floor l G _ _ _ i 6 (by omega) (by decide) m hm hm6 b6 b7) fX5_floor kw_183 (sv_recv14 C) ⟨Nat.le_of_ble_eq_true rfl, Nat.le_of_ble_eq_true rfl⟩ (Nat.le_of_ble_eq_true rfl) dL_stairs_194 ⟨Nat.zero_le _, Nat.zero_le _⟩  ?_
                refine sv_riS (M 0 (6 * i + 13)) rfl ?_
                refine sv_iadd C dL_stairs_197 ?_
                refine sv_set (v' := .int (smI (fun f => M 0 (6 * f + 13)) (i + 1))) (congrArg Value.int rfl) ?_
                refine sv_istore (i := 5) C [(0, .ref (sv_r G 14 0)), (1, .int (smI (fun f => onI (M 0) (nI f) m) (i + 1))), (2, .int (litI (M 0) (i + 1))), (3, .int (smI (fun f => M 0 (6 * f + 11)) (i + 1))), (4, .int (smI (fun f => M 0 (6 * f + 12)) (i + 1))), (5, .int (smI (fun f => M 0 (6 * f + 13)) (i + 1))), (6, .int (nI (bkN (M 0) i))), (7, .int (nI 1)), (8, .int (nI i)), (9, .int (lampv (M 0) i)), (10, .int (nI b9)), (11, .int (M 0 7))] dL_stairs_198 (by decide) rfl ?_
                refine sv_iload (i := 6) (x := nI (bkN (M 0) i)) C dL_stairs_200 rfl ?_
                refine sv_aload_n (i := 0) (x := sv_r G 14 0) C dL_stairs_202 rfl rfl ?_
                refine sv_iload (i := 8) (x := nI i) C dL_stairs_203 rfl ?_
                refine sv_iconst (v := nI 2) C dL_stairs_205 (by decide) ?_
                refine sv_callV (as := [_, _]) (rest := [_]) C (met0_floor l G _ _ _ i 2 (by omega) (by decide) m hm hm6 b6 b7) fX5_floor kw_183 (sv_recv14 C) ⟨Nat.le_of_ble_eq_true rfl, Nat.le_of_ble_eq_true rfl⟩ (Nat.le_of_ble_eq_true rfl) dL_stairs_206 ⟨Nat.zero_le _, Nat.zero_le _⟩  ?_
                refine sv_riS (M 0 (6 * i + 10)) rfl ?_
                refine sv_sel_if_ne (va := nI 1) (vb := nI 0) C 216 dL_stairs_209 (by decide) dL_stairs_212 (by decide) dL_stairs_213 (by decide) dL_stairs_216 (by decide) ?_
                refine sv_set (v' := .int (nI (if M 0 (6 * i + 10) = 0 then 1 else 0))) (congrArg Value.int (sel_bk _)) ?_
                refine sv_iadd C dL_stairs_217 ?_
                refine sv_set (v' := .int (nI (bkN (M 0) (i + 1)))) (congrArg Value.int (nI_add _ _)) ?_
                refine sv_istore (i := 6) C [(0, .ref (sv_r G 14 0)), (1, .int (smI (fun f => onI (M 0) (nI f) m) (i + 1))), (2, .int (litI (M 0) (i + 1))), (3, .int (smI (fun f => M 0 (6 * f + 11)) (i + 1))), (4, .int (smI (fun f => M 0 (6 * f + 12)) (i + 1))), (5, .int (smI (fun f => M 0 (6 * f + 13)) (i + 1))), (6, .int (nI (bkN (M 0) (i + 1)))), (7, .int (nI 1)), (8, .int (nI i)), (9, .int (lampv (M 0) i)), (10, .int (nI b9)), (11, .int (M 0 7))] dL_stairs_218 (by decide) rfl ?_
                refine sv_iinc (i := 8) (x := nI i) C (nI (i + 1)) [(0, .ref (sv_r G 14 0)), (1, .int (smI (fun f => onI (M 0) (nI f) m) (i + 1))), (2, .int (litI (M 0) (i + 1))), (3, .int (smI (fun f => M 0 (6 * f + 11)) (i + 1))), (4, .int (smI (fun f => M 0 (6 * f + 12)) (i + 1))), (5, .int (smI (fun f => M 0 (6 * f + 13)) (i + 1))), (6, .int (nI (bkN (M 0) (i + 1)))), (7, .int (nI 1)), (8, .int (nI (i + 1))), (9, .int (lampv (M 0) i)), (10, .int (nI b9)), (11, .int (M 0 7))] dL_stairs_220 rfl (sv_incN i 1) (by decide) rfl ?_
                refine sv_goto C 21 dL_stairs_223 (by decide) ?_
                refine sv_sub (lv' := [(0, .ref (sv_r G 14 0)), (1, .int (smI (fun f => onI (M 0) (nI f) m) (i + 1))), (2, .int (litI (M 0) (i + 1))), (3, .int (smI (fun f => M 0 (6 * f + 11)) (i + 1))), (4, .int (smI (fun f => M 0 (6 * f + 12)) (i + 1))), (5, .int (smI (fun f => M 0 (6 * f + 13)) (i + 1))), (6, .int (nI (bkN (M 0) (i + 1)))), (7, .int (nI 1)), (8, .int (nI (i + 1)))]) rfl ?_
                exact ih (by omega) trivial
            · refine sv_iload (i := 9) (x := lampv (M 0) i) C dL_stairs_100 rfl ?_
              refine sv_aload_n (i := 0) (x := sv_r G 14 0) C dL_stairs_102 rfl rfl ?_
              refine sv_bipush (v := nI 7) C dL_stairs_103 (by decide) ?_
              refine sv_callV (as := [_]) (rest := [_]) C (met0_count l G _ _ _ 7 (by decide) hd h1 b6 b7) fX5_count kw_293 (sv_recv14 C) ⟨Nat.le_of_ble_eq_true rfl, Nat.le_of_ble_eq_true rfl⟩ (Nat.le_of_ble_eq_true rfl) dL_stairs_105 ⟨Nat.zero_le _, Nat.zero_le _⟩  ?_
              refine sv_riS (M 0 6) rfl ?_
              refine sv_icmp_ne C 138 dL_stairs_108 (by decide) (fun q108 => ?_) (fun q108 => ?_)
              · exact absurd (lampv_0 (by rw [q83]; decide) (eb9.trans q97)) q108
              · refine sv_goto C 134 dL_stairs_111 (by decide) ?_
                refine sv_iconst (v := nI 1) C dL_stairs_134 (by decide) ?_
                refine sv_goto C 139 dL_stairs_135 (by decide) ?_
                refine sv_istore (i := 7) C [(0, .ref (sv_r G 14 0)), (1, .int (smI (fun f => onI (M 0) (nI f) m) i)), (2, .int (litI (M 0) i)), (3, .int (smI (fun f => M 0 (6 * f + 11)) i)), (4, .int (smI (fun f => M 0 (6 * f + 12)) i)), (5, .int (smI (fun f => M 0 (6 * f + 13)) i)), (6, .int (nI (bkN (M 0) i))), (7, .int (nI 1)), (8, .int (nI i)), (9, .int (lampv (M 0) i)), (10, .int (nI b9)), (11, .int (M 0 7))] dL_stairs_139 (by decide) rfl ?_
                refine sv_iload_n (i := 1) (x := smI (fun f => onI (M 0) (nI f) m) i) C dL_stairs_141 rfl rfl ?_
                refine sv_aload_n (i := 0) (x := sv_r G 14 0) C dL_stairs_142 rfl rfl ?_
                refine sv_iload (i := 8) (x := nI i) C dL_stairs_143 rfl ?_
                refine sv_iconst (v := nI 3) C dL_stairs_145 (by decide) ?_
                refine sv_callV (as := [_, _]) (rest := [_]) C (met0_floor l G _ _ _ i 3 (by omega) (by decide) m hm hm6 b6 b7) fX5_floor kw_183 (sv_recv14 C) ⟨Nat.le_of_ble_eq_true rfl, Nat.le_of_ble_eq_true rfl⟩ (Nat.le_of_ble_eq_true rfl) dL_stairs_146 ⟨Nat.zero_le _, Nat.zero_le _⟩  ?_
                refine sv_riS (onI (M 0) (nI i) m) rfl ?_
                refine sv_iadd C dL_stairs_149 ?_
                refine sv_set (v' := .int (smI (fun f => onI (M 0) (nI f) m) (i + 1))) (congrArg Value.int rfl) ?_
                refine sv_istore_n (i := 1) C [(0, .ref (sv_r G 14 0)), (1, .int (smI (fun f => onI (M 0) (nI f) m) (i + 1))), (2, .int (litI (M 0) i)), (3, .int (smI (fun f => M 0 (6 * f + 11)) i)), (4, .int (smI (fun f => M 0 (6 * f + 12)) i)), (5, .int (smI (fun f => M 0 (6 * f + 13)) i)), (6, .int (nI (bkN (M 0) i))), (7, .int (nI 1)), (8, .int (nI i)), (9, .int (lampv (M 0) i)), (10, .int (nI b9)), (11, .int (M 0 7))] dL_stairs_150 rfl (by decide) rfl ?_
                refine sv_iload_n (i := 2) (x := litI (M 0) i) C dL_stairs_151 rfl rfl ?_
                refine sv_iload (i := 9) (x := lampv (M 0) i) C dL_stairs_152 rfl ?_
                refine sv_iconst (v := nI 2) C dL_stairs_154 (by decide) ?_
                refine sv_sel_icmp_lt (va := nI 1) (vb := nI 0) C 162 dL_stairs_155 (by decide) dL_stairs_158 (by decide) dL_stairs_159 (by decide) dL_stairs_162 (by decide) ?_
                refine sv_set (v' := .int (if lampv (M 0) i < 2 then 0 else 1)) (congrArg Value.int rfl) ?_
                refine sv_iadd C dL_stairs_163 ?_
                refine sv_set (v' := .int (litI (M 0) (i + 1))) (congrArg Value.int rfl) ?_
                refine sv_istore_n (i := 2) C [(0, .ref (sv_r G 14 0)), (1, .int (smI (fun f => onI (M 0) (nI f) m) (i + 1))), (2, .int (litI (M 0) (i + 1))), (3, .int (smI (fun f => M 0 (6 * f + 11)) i)), (4, .int (smI (fun f => M 0 (6 * f + 12)) i)), (5, .int (smI (fun f => M 0 (6 * f + 13)) i)), (6, .int (nI (bkN (M 0) i))), (7, .int (nI 1)), (8, .int (nI i)), (9, .int (lampv (M 0) i)), (10, .int (nI b9)), (11, .int (M 0 7))] dL_stairs_164 rfl (by decide) rfl ?_
                refine sv_iload_n (i := 3) (x := smI (fun f => M 0 (6 * f + 11)) i) C dL_stairs_165 rfl rfl ?_
                refine sv_aload_n (i := 0) (x := sv_r G 14 0) C dL_stairs_166 rfl rfl ?_
                refine sv_iload (i := 8) (x := nI i) C dL_stairs_167 rfl ?_
                refine sv_iconst (v := nI 4) C dL_stairs_169 (by decide) ?_
                refine sv_callV (as := [_, _]) (rest := [_]) C (met0_floor l G _ _ _ i 4 (by omega) (by decide) m hm hm6 b6 b7) fX5_floor kw_183 (sv_recv14 C) ⟨Nat.le_of_ble_eq_true rfl, Nat.le_of_ble_eq_true rfl⟩ (Nat.le_of_ble_eq_true rfl) dL_stairs_170 ⟨Nat.zero_le _, Nat.zero_le _⟩  ?_
                refine sv_riS (M 0 (6 * i + 11)) rfl ?_
                refine sv_iadd C dL_stairs_173 ?_
                refine sv_set (v' := .int (smI (fun f => M 0 (6 * f + 11)) (i + 1))) (congrArg Value.int rfl) ?_
                refine sv_istore_n (i := 3) C [(0, .ref (sv_r G 14 0)), (1, .int (smI (fun f => onI (M 0) (nI f) m) (i + 1))), (2, .int (litI (M 0) (i + 1))), (3, .int (smI (fun f => M 0 (6 * f + 11)) (i + 1))), (4, .int (smI (fun f => M 0 (6 * f + 12)) i)), (5, .int (smI (fun f => M 0 (6 * f + 13)) i)), (6, .int (nI (bkN (M 0) i))), (7, .int (nI 1)), (8, .int (nI i)), (9, .int (lampv (M 0) i)), (10, .int (nI b9)), (11, .int (M 0 7))] dL_stairs_174 rfl (by decide) rfl ?_
                refine sv_iload (i := 4) (x := smI (fun f => M 0 (6 * f + 12)) i) C dL_stairs_175 rfl ?_
                refine sv_aload_n (i := 0) (x := sv_r G 14 0) C dL_stairs_177 rfl rfl ?_
                refine sv_iload (i := 8) (x := nI i) C dL_stairs_178 rfl ?_
                refine sv_iconst (v := nI 5) C dL_stairs_180 (by decide) ?_
                refine sv_callV (as := [_, _]) (rest := [_]) C (met0_floor l G _ _ _ i 5 (by omega) (by decide) m hm hm6 b6 b7) fX5_floor kw_183 (sv_recv14 C) ⟨Nat.le_of_ble_eq_true rfl, Nat.le_of_ble_eq_true rfl⟩ (Nat.le_of_ble_eq_true rfl) dL_stairs_181 ⟨Nat.zero_le _, Nat.zero_le _⟩  ?_
                refine sv_riS (M 0 (6 * i + 12)) rfl ?_
                refine sv_iadd C dL_stairs_184 ?_
                refine sv_set (v' := .int (smI (fun f => M 0 (6 * f + 12)) (i + 1))) (congrArg Value.int rfl) ?_
                refine sv_istore (i := 4) C [(0, .ref (sv_r G 14 0)), (1, .int (smI (fun f => onI (M 0) (nI f) m) (i + 1))), (2, .int (litI (M 0) (i + 1))), (3, .int (smI (fun f => M 0 (6 * f + 11)) (i + 1))), (4, .int (smI (fun f => M 0 (6 * f + 12)) (i + 1))), (5, .int (smI (fun f => M 0 (6 * f + 13)) i)), (6, .int (nI (bkN (M 0) i))), (7, .int (nI 1)), (8, .int (nI i)), (9, .int (lampv (M 0) i)), (10, .int (nI b9)), (11, .int (M 0 7))] dL_stairs_185 (by decide) rfl ?_
                refine sv_iload (i := 5) (x := smI (fun f => M 0 (6 * f + 13)) i) C dL_stairs_187 rfl ?_
                refine sv_aload_n (i := 0) (x := sv_r G 14 0) C dL_stairs_189 rfl rfl ?_
                refine sv_iload (i := 8) (x := nI i) C dL_stairs_190 rfl ?_
                refine sv_bipush (v := nI 6) C dL_stairs_192 (by decide) ?_
                refine sv_callV (as := [_, _]) (rest := [_]) C (met0_floor l G _ _ _ i 6 (by omega) (by decide) m hm hm6 b6 b7) fX5_floor kw_183 (sv_recv14 C) ⟨Nat.le_of_ble_eq_true rfl, Nat.le_of_ble_eq_true rfl⟩ (Nat.le_of_ble_eq_true rfl) dL_stairs_194 ⟨Nat.zero_le _, Nat.zero_le _⟩  ?_
                refine sv_riS (M 0 (6 * i + 13)) rfl ?_
                refine sv_iadd C dL_stairs_197 ?_
                refine sv_set (v' := .int (smI (fun f => M 0 (6 * f + 13)) (i + 1))) (congrArg Value.int rfl) ?_
                refine sv_istore (i := 5) C [(0, .ref (sv_r G 14 0)), (1, .int (smI (fun f => onI (M 0) (nI f) m) (i + 1))), (2, .int (litI (M 0) (i + 1))), (3, .int (smI (fun f => M 0 (6 * f + 11)) (i + 1))), (4, .int (smI (fun f => M 0 (6 * f + 12)) (i + 1))), (5, .int (smI (fun f => M 0 (6 * f + 13)) (i + 1))), (6, .int (nI (bkN (M 0) i))), (7, .int (nI 1)), (8, .int (nI i)), (9, .int (lampv (M 0) i)), (10, .int (nI b9)), (11, .int (M 0 7))] dL_stairs_198 (by decide) rfl ?_
                refine sv_iload (i := 6) (x := nI (bkN (M 0) i)) C dL_stairs_200 rfl ?_
                refine sv_aload_n (i := 0) (x := sv_r G 14 0) C dL_stairs_202 rfl rfl ?_
                refine sv_iload (i := 8) (x := nI i) C dL_stairs_203 rfl ?_
                refine sv_iconst (v := nI 2) C dL_stairs_205 (by decide) ?_
                refine sv_callV (as := [_, _]) (rest := [_]) C (met0_floor l G _ _ _ i 2 (by omega) (by decide) m hm hm6 b6 b7) fX5_floor kw_183 (sv_recv14 C) ⟨Nat.le_of_ble_eq_true rfl, Nat.le_of_ble_eq_true rfl⟩ (Nat.le_of_ble_eq_true rfl) dL_stairs_206 ⟨Nat.zero_le _, Nat.zero_le _⟩  ?_
                refine sv_riS (M 0 (6 * i + 10)) rfl ?_
                refine sv_sel_if_ne (va := nI 1) (vb := nI 0) C 216 dL_stairs_209 (by decide) dL_stairs_212 (by decide) dL_stairs_213 (by decide) dL_stairs_216 (by decide) ?_
                refine sv_set (v' := .int (nI (if M 0 (6 * i + 10) = 0 then 1 else 0))) (congrArg Value.int (sel_bk _)) ?_
                refine sv_iadd C dL_stairs_217 ?_
                refine sv_set (v' := .int (nI (bkN (M 0) (i + 1)))) (congrArg Value.int (nI_add _ _)) ?_
                refine sv_istore (i := 6) C [(0, .ref (sv_r G 14 0)), (1, .int (smI (fun f => onI (M 0) (nI f) m) (i + 1))), (2, .int (litI (M 0) (i + 1))), (3, .int (smI (fun f => M 0 (6 * f + 11)) (i + 1))), (4, .int (smI (fun f => M 0 (6 * f + 12)) (i + 1))), (5, .int (smI (fun f => M 0 (6 * f + 13)) (i + 1))), (6, .int (nI (bkN (M 0) (i + 1)))), (7, .int (nI 1)), (8, .int (nI i)), (9, .int (lampv (M 0) i)), (10, .int (nI b9)), (11, .int (M 0 7))] dL_stairs_218 (by decide) rfl ?_
                refine sv_iinc (i := 8) (x := nI i) C (nI (i + 1)) [(0, .ref (sv_r G 14 0)), (1, .int (smI (fun f => onI (M 0) (nI f) m) (i + 1))), (2, .int (litI (M 0) (i + 1))), (3, .int (smI (fun f => M 0 (6 * f + 11)) (i + 1))), (4, .int (smI (fun f => M 0 (6 * f + 12)) (i + 1))), (5, .int (smI (fun f => M 0 (6 * f + 13)) (i + 1))), (6, .int (nI (bkN (M 0) (i + 1)))), (7, .int (nI 1)), (8, .int (nI (i + 1))), (9, .int (lampv (M 0) i)), (10, .int (nI b9)), (11, .int (M 0 7))] dL_stairs_220 rfl (sv_incN i 1) (by decide) rfl ?_
                refine sv_goto C 21 dL_stairs_223 (by decide) ?_
                refine sv_sub (lv' := [(0, .ref (sv_r G 14 0)), (1, .int (smI (fun f => onI (M 0) (nI f) m) (i + 1))), (2, .int (litI (M 0) (i + 1))), (3, .int (smI (fun f => M 0 (6 * f + 11)) (i + 1))), (4, .int (smI (fun f => M 0 (6 * f + 12)) (i + 1))), (5, .int (smI (fun f => M 0 (6 * f + 13)) (i + 1))), (6, .int (nI (bkN (M 0) (i + 1)))), (7, .int (nI 1)), (8, .int (nI (i + 1)))]) rfl ?_
                exact ih (by omega) trivial
          · refine sv_iload (i := 9) (x := lampv (M 0) i) C dL_stairs_86 rfl ?_
            refine sv_iconst (v := nI 3) C dL_stairs_88 (by decide) ?_
            refine sv_icmp_ne C 138 dL_stairs_89 (by decide) (fun q89 => ?_) (fun q89 => ?_)
            · exact absurd (lampv_f (b7.resolve_left q83)) q89
            · refine sv_goto C 134 dL_stairs_92 (by decide) ?_
              refine sv_iconst (v := nI 1) C dL_stairs_134 (by decide) ?_
              refine sv_goto C 139 dL_stairs_135 (by decide) ?_
              refine sv_istore (i := 7) C [(0, .ref (sv_r G 14 0)), (1, .int (smI (fun f => onI (M 0) (nI f) m) i)), (2, .int (litI (M 0) i)), (3, .int (smI (fun f => M 0 (6 * f + 11)) i)), (4, .int (smI (fun f => M 0 (6 * f + 12)) i)), (5, .int (smI (fun f => M 0 (6 * f + 13)) i)), (6, .int (nI (bkN (M 0) i))), (7, .int (nI 1)), (8, .int (nI i)), (9, .int (lampv (M 0) i)), (10, .int (nI b9)), (11, .int (M 0 7))] dL_stairs_139 (by decide) rfl ?_
              refine sv_iload_n (i := 1) (x := smI (fun f => onI (M 0) (nI f) m) i) C dL_stairs_141 rfl rfl ?_
              refine sv_aload_n (i := 0) (x := sv_r G 14 0) C dL_stairs_142 rfl rfl ?_
              refine sv_iload (i := 8) (x := nI i) C dL_stairs_143 rfl ?_
              refine sv_iconst (v := nI 3) C dL_stairs_145 (by decide) ?_
              refine sv_callV (as := [_, _]) (rest := [_]) C (met0_floor l G _ _ _ i 3 (by omega) (by decide) m hm hm6 b6 b7) fX5_floor kw_183 (sv_recv14 C) ⟨Nat.le_of_ble_eq_true rfl, Nat.le_of_ble_eq_true rfl⟩ (Nat.le_of_ble_eq_true rfl) dL_stairs_146 ⟨Nat.zero_le _, Nat.zero_le _⟩  ?_
              refine sv_riS (onI (M 0) (nI i) m) rfl ?_
              refine sv_iadd C dL_stairs_149 ?_
              refine sv_set (v' := .int (smI (fun f => onI (M 0) (nI f) m) (i + 1))) (congrArg Value.int rfl) ?_
              refine sv_istore_n (i := 1) C [(0, .ref (sv_r G 14 0)), (1, .int (smI (fun f => onI (M 0) (nI f) m) (i + 1))), (2, .int (litI (M 0) i)), (3, .int (smI (fun f => M 0 (6 * f + 11)) i)), (4, .int (smI (fun f => M 0 (6 * f + 12)) i)), (5, .int (smI (fun f => M 0 (6 * f + 13)) i)), (6, .int (nI (bkN (M 0) i))), (7, .int (nI 1)), (8, .int (nI i)), (9, .int (lampv (M 0) i)), (10, .int (nI b9)), (11, .int (M 0 7))] dL_stairs_150 rfl (by decide) rfl ?_
              refine sv_iload_n (i := 2) (x := litI (M 0) i) C dL_stairs_151 rfl rfl ?_
              refine sv_iload (i := 9) (x := lampv (M 0) i) C dL_stairs_152 rfl ?_
              refine sv_iconst (v := nI 2) C dL_stairs_154 (by decide) ?_
              refine sv_sel_icmp_lt (va := nI 1) (vb := nI 0) C 162 dL_stairs_155 (by decide) dL_stairs_158 (by decide) dL_stairs_159 (by decide) dL_stairs_162 (by decide) ?_
              refine sv_set (v' := .int (if lampv (M 0) i < 2 then 0 else 1)) (congrArg Value.int rfl) ?_
              refine sv_iadd C dL_stairs_163 ?_
              refine sv_set (v' := .int (litI (M 0) (i + 1))) (congrArg Value.int rfl) ?_
              refine sv_istore_n (i := 2) C [(0, .ref (sv_r G 14 0)), (1, .int (smI (fun f => onI (M 0) (nI f) m) (i + 1))), (2, .int (litI (M 0) (i + 1))), (3, .int (smI (fun f => M 0 (6 * f + 11)) i)), (4, .int (smI (fun f => M 0 (6 * f + 12)) i)), (5, .int (smI (fun f => M 0 (6 * f + 13)) i)), (6, .int (nI (bkN (M 0) i))), (7, .int (nI 1)), (8, .int (nI i)), (9, .int (lampv (M 0) i)), (10, .int (nI b9)), (11, .int (M 0 7))] dL_stairs_164 rfl (by decide) rfl ?_
              refine sv_iload_n (i := 3) (x := smI (fun f => M 0 (6 * f + 11)) i) C dL_stairs_165 rfl rfl ?_
              refine sv_aload_n (i := 0) (x := sv_r G 14 0) C dL_stairs_166 rfl rfl ?_
              refine sv_iload (i := 8) (x := nI i) C dL_stairs_167 rfl ?_
              refine sv_iconst (v := nI 4) C dL_stairs_169 (by decide) ?_
              refine sv_callV (as := [_, _]) (rest := [_]) C (met0_floor l G _ _ _ i 4 (by omega) (by decide) m hm hm6 b6 b7) fX5_floor kw_183 (sv_recv14 C) ⟨Nat.le_of_ble_eq_true rfl, Nat.le_of_ble_eq_true rfl⟩ (Nat.le_of_ble_eq_true rfl) dL_stairs_170 ⟨Nat.zero_le _, Nat.zero_le _⟩  ?_
              refine sv_riS (M 0 (6 * i + 11)) rfl ?_
              refine sv_iadd C dL_stairs_173 ?_
              refine sv_set (v' := .int (smI (fun f => M 0 (6 * f + 11)) (i + 1))) (congrArg Value.int rfl) ?_
              refine sv_istore_n (i := 3) C [(0, .ref (sv_r G 14 0)), (1, .int (smI (fun f => onI (M 0) (nI f) m) (i + 1))), (2, .int (litI (M 0) (i + 1))), (3, .int (smI (fun f => M 0 (6 * f + 11)) (i + 1))), (4, .int (smI (fun f => M 0 (6 * f + 12)) i)), (5, .int (smI (fun f => M 0 (6 * f + 13)) i)), (6, .int (nI (bkN (M 0) i))), (7, .int (nI 1)), (8, .int (nI i)), (9, .int (lampv (M 0) i)), (10, .int (nI b9)), (11, .int (M 0 7))] dL_stairs_174 rfl (by decide) rfl ?_
              refine sv_iload (i := 4) (x := smI (fun f => M 0 (6 * f + 12)) i) C dL_stairs_175 rfl ?_
              refine sv_aload_n (i := 0) (x := sv_r G 14 0) C dL_stairs_177 rfl rfl ?_
              refine sv_iload (i := 8) (x := nI i) C dL_stairs_178 rfl ?_
              refine sv_iconst (v := nI 5) C dL_stairs_180 (by decide) ?_
              refine sv_callV (as := [_, _]) (rest := [_]) C (met0_floor l G _ _ _ i 5 (by omega) (by decide) m hm hm6 b6 b7) fX5_floor kw_183 (sv_recv14 C) ⟨Nat.le_of_ble_eq_true rfl, Nat.le_of_ble_eq_true rfl⟩ (Nat.le_of_ble_eq_true rfl) dL_stairs_181 ⟨Nat.zero_le _, Nat.zero_le _⟩  ?_
              refine sv_riS (M 0 (6 * i + 12)) rfl ?_
              refine sv_iadd C dL_stairs_184 ?_
              refine sv_set (v' := .int (smI (fun f => M 0 (6 * f + 12)) (i + 1))) (congrArg Value.int rfl) ?_
              refine sv_istore (i := 4) C [(0, .ref (sv_r G 14 0)), (1, .int (smI (fun f => onI (M 0) (nI f) m) (i + 1))), (2, .int (litI (M 0) (i + 1))), (3, .int (smI (fun f => M 0 (6 * f + 11)) (i + 1))), (4, .int (smI (fun f => M 0 (6 * f + 12)) (i + 1))), (5, .int (smI (fun f => M 0 (6 * f + 13)) i)), (6, .int (nI (bkN (M 0) i))), (7, .int (nI 1)), (8, .int (nI i)), (9, .int (lampv (M 0) i)), (10, .int (nI b9)), (11, .int (M 0 7))] dL_stairs_185 (by decide) rfl ?_
              refine sv_iload (i := 5) (x := smI (fun f => M 0 (6 * f + 13)) i) C dL_stairs_187 rfl ?_
              refine sv_aload_n (i := 0) (x := sv_r G 14 0) C dL_stairs_189 rfl rfl ?_
              refine sv_iload (i := 8) (x := nI i) C dL_stairs_190 rfl ?_
              refine sv_bipush (v := nI 6) C dL_stairs_192 (by decide) ?_
              refine sv_callV (as := [_, _]) (rest := [_]) C (met0_floor l G _ _ _ i 6 (by omega) (by decide) m hm hm6 b6 b7) fX5_floor kw_183 (sv_recv14 C) ⟨Nat.le_of_ble_eq_true rfl, Nat.le_of_ble_eq_true rfl⟩ (Nat.le_of_ble_eq_true rfl) dL_stairs_194 ⟨Nat.zero_le _, Nat.zero_le _⟩  ?_
              refine sv_riS (M 0 (6 * i + 13)) rfl ?_
              refine sv_iadd C dL_stairs_197 ?_
              refine sv_set (v' := .int (smI (fun f => M 0 (6 * f + 13)) (i + 1))) (congrArg Value.int rfl) ?_
              refine sv_istore (i := 5) C [(0, .ref (sv_r G 14 0)), (1, .int (smI (fun f => onI (M 0) (nI f) m) (i + 1))), (2, .int (litI (M 0) (i + 1))), (3, .int (smI (fun f => M 0 (6 * f + 11)) (i + 1))), (4, .int (smI (fun f => M 0 (6 * f + 12)) (i + 1))), (5, .int (smI (fun f => M 0 (6 * f + 13)) (i + 1))), (6, .int (nI (bkN (M 0) i))), (7, .int (nI 1)), (8, .int (nI i)), (9, .int (lampv (M 0) i)), (10, .int (nI b9)), (11, .int (M 0 7))] dL_stairs_198 (by decide) rfl ?_
              refine sv_iload (i := 6) (x := nI (bkN (M 0) i)) C dL_stairs_200 rfl ?_
              refine sv_aload_n (i := 0) (x := sv_r G 14 0) C dL_stairs_202 rfl rfl ?_
              refine sv_iload (i := 8) (x := nI i) C dL_stairs_203 rfl ?_
              refine sv_iconst (v := nI 2) C dL_stairs_205 (by decide) ?_
              refine sv_callV (as := [_, _]) (rest := [_]) C (met0_floor l G _ _ _ i 2 (by omega) (by decide) m hm hm6 b6 b7) fX5_floor kw_183 (sv_recv14 C) ⟨Nat.le_of_ble_eq_true rfl, Nat.le_of_ble_eq_true rfl⟩ (Nat.le_of_ble_eq_true rfl) dL_stairs_206 ⟨Nat.zero_le _, Nat.zero_le _⟩  ?_
              refine sv_riS (M 0 (6 * i + 10)) rfl ?_
              refine sv_sel_if_ne (va := nI 1) (vb := nI 0) C 216 dL_stairs_209 (by decide) dL_stairs_212 (by decide) dL_stairs_213 (by decide) dL_stairs_216 (by decide) ?_
              refine sv_set (v' := .int (nI (if M 0 (6 * i + 10) = 0 then 1 else 0))) (congrArg Value.int (sel_bk _)) ?_
              refine sv_iadd C dL_stairs_217 ?_
              refine sv_set (v' := .int (nI (bkN (M 0) (i + 1)))) (congrArg Value.int (nI_add _ _)) ?_
              refine sv_istore (i := 6) C [(0, .ref (sv_r G 14 0)), (1, .int (smI (fun f => onI (M 0) (nI f) m) (i + 1))), (2, .int (litI (M 0) (i + 1))), (3, .int (smI (fun f => M 0 (6 * f + 11)) (i + 1))), (4, .int (smI (fun f => M 0 (6 * f + 12)) (i + 1))), (5, .int (smI (fun f => M 0 (6 * f + 13)) (i + 1))), (6, .int (nI (bkN (M 0) (i + 1)))), (7, .int (nI 1)), (8, .int (nI i)), (9, .int (lampv (M 0) i)), (10, .int (nI b9)), (11, .int (M 0 7))] dL_stairs_218 (by decide) rfl ?_
              refine sv_iinc (i := 8) (x := nI i) C (nI (i + 1)) [(0, .ref (sv_r G 14 0)), (1, .int (smI (fun f => onI (M 0) (nI f) m) (i + 1))), (2, .int (litI (M 0) (i + 1))), (3, .int (smI (fun f => M 0 (6 * f + 11)) (i + 1))), (4, .int (smI (fun f => M 0 (6 * f + 12)) (i + 1))), (5, .int (smI (fun f => M 0 (6 * f + 13)) (i + 1))), (6, .int (nI (bkN (M 0) (i + 1)))), (7, .int (nI 1)), (8, .int (nI (i + 1))), (9, .int (lampv (M 0) i)), (10, .int (nI b9)), (11, .int (M 0 7))] dL_stairs_220 rfl (sv_incN i 1) (by decide) rfl ?_
              refine sv_goto C 21 dL_stairs_223 (by decide) ?_
              refine sv_sub (lv' := [(0, .ref (sv_r G 14 0)), (1, .int (smI (fun f => onI (M 0) (nI f) m) (i + 1))), (2, .int (litI (M 0) (i + 1))), (3, .int (smI (fun f => M 0 (6 * f + 11)) (i + 1))), (4, .int (smI (fun f => M 0 (6 * f + 12)) (i + 1))), (5, .int (smI (fun f => M 0 (6 * f + 13)) (i + 1))), (6, .int (nI (bkN (M 0) (i + 1)))), (7, .int (nI 1)), (8, .int (nI (i + 1)))]) rfl ?_
              exact ih (by omega) trivial

