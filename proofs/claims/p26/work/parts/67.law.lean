/-! the law: its body, its end -/
theorem lk_count (l : Launch) (G : sv_G) (z : Nat) (M : sv_M) (o : Int64) {x : vX} (hx : M 0 = x) {CC BB : Nat} (hs : st CC BB x) (w9 : Nat) (hw9 : w9 < 11) (hd : Nat) (h1 : M 8 1 = nI hd) : sv_Met l G yX5_count cX5_count 2 (some .int) 4 [.ref (sv_r G 14 0), .int (nI w9)] (sv_W G z M o) (some (.int (couv x hd w9))) (sv_W G z M o) := by
  subst hx
  obtain ⟨hm, _, b6, b7, _⟩ := vd_many hs.1
  exact met0_count l G z M o w9 hw9 hd h1 b6 b7
theorem lk_floor (l : Launch) (G : sv_G) (z : Nat) (M : sv_M) (o : Int64) {x : vX} (hx : M 0 = x) {CC BB : Nat} (hs : st CC BB x) (f w9 : Nat) (hf : f < 8) (hw9 : w9 < 8) : sv_Met l G yX5_floor cX5_floor 3 (some .int) 3 [.ref (sv_r G 14 0), .int (nI f), .int (nI w9)] (sv_W G z M o) (some (.int (fnv (many x) x f w9))) (sv_W G z M o) := by
  subst hx
  obtain ⟨hm, _, b6, b7, _⟩ := vd_many hs.1
  exact met0_floor l G z M o f w9 hf hw9 _ hm hs.2.1 b6 b7
theorem lk_setting (l : Launch) (G : sv_G) (z : Nat) (M : sv_M) (o : Int64) {x : vX} (hx : M 0 = x) {CC BB : Nat} (hs : st CC BB x) (f : Nat) (hf : f < 4) : sv_Met l G yX5_setting cX5_setting 2 (some .int) 1 [.ref (sv_r G 14 0), .int (nI f)] (sv_W G z M o) (some (.int (x f))) (sv_W G z M o) := by
  subst hx
  obtain ⟨hm, _, b6, b7, _⟩ := vd_many hs.1
  exact met0_setting l G z M o f hf
theorem lk_ifp (l : Launch) (G : sv_G) (z : Nat) (M : sv_M) (o : Int64) {x : vX} (hx : M 0 = x) {CC BB : Nat} (hs : st CC BB x) (t w9 : Nat) (h1 : 1 ≤ t) (h2 : t ≤ 300) (hw9 : w9 < 4) : sv_Met l G yX5_ifPassed cX5_ifPassed 3 (some .int) 8 [.ref (sv_r G 14 0), .int (nI t), .int (nI w9)] (sv_W G z M o) (some (.int (outv x t w9))) (sv_W1 G z M o) := by
  subst hx
  obtain ⟨hm, _, b6, b7, _⟩ := vd_many hs.1
  exact met0_ifPassed l G z M o t w9 h1 h2 hw9 b6 b7 hs.1
theorem lk_dark (l : Launch) (G : sv_G) (z : Nat) (M : sv_M) (o : Int64) {x : vX} (hx : M 0 = x) {CC BB : Nat} (hs : st CC BB x) (f t : Nat) (hf : f < 8) (ht : t < 8) (hft : f ≠ t) : sv_Met l G yX5_dark cX5_dark 3 (some .int) 8 [.ref (sv_r G 14 0), .int (nI f), .int (nI t)] (sv_W G z M o) (some (.int (dkw (nI f) (nI t) (x 0) x))) (sv_W1 G z M o) := by
  subst hx
  obtain ⟨hm, _, b6, b7, _⟩ := vd_many hs.1
  exact met0_dark l G z M o f t hf ht hft hs.1 _ hm hs.2.1
theorem lk_stairs (l : Launch) (G : sv_G) (z : Nat) (M : sv_M) (o : Int64) {x : vX} (hx : M 0 = x) {CC BB : Nat} (hs : st CC BB x) (hd : Nat) (h1 : M 8 1 = nI hd) (hC : CC < 2147483648) (hB : BB < 2147483648) : sv_Met l G yL_stairs cL_stairs 12 (some .boolean) 5 [.ref (sv_r G 14 0)] (sv_W G z M o) (some (.int 1)) (sv_W G z M o) := by
  subst hx
  exact met_stairs l G z M o CC BB hd hs h1 hC hB
theorem i32_ad (a b : Int32) : b + (a - b) = a := by rw [Int32.add_comm, Int32.sub_add_cancel]
theorem asd_bk {x : vX} (hs : snds x) (h : bkN x 8 = 0) : asd x := fun f hf => (hs f hf).resolve_left ((bkN_0 x 8).mp h f hf)
section LWB
variable {p : Program} {l : Launch} {e : Env} {s : State} {m : MethodId} {args : Array Value} {below : List Frame} {meth : Method} {c : Code} {G : sv_G} {Q : State → Prop} {o : Int64}
set_option maxHeartbeats 4000000 in
set_option maxRecDepth 100000 in
/-- one turn of the law -/
theorem lw_body (C : sv_C p l s m args meth c code 19 RL G) (hl : l.stackTraces = false) (hL : sv_L G ≤ 260) (j T : Nat) (hj : j < T) (hT : T ≤ 44) {k9 n9 z od hd : Nat} {M : sv_M} (hk9 : k9 = 117 + 4 * j) (hn9 : n9 = 867 + 24 * j) (h : inw j (140 * j) od hd M) (kk : ∀ (z3 : Nat) (M3 : sv_M) (od3 hd3 : Nat), inw (j + 1) (140 * j + 140) od3 hd3 M3 → sv_V p l e room_1 s m args below meth c 19 G Q (k9 + 4) (n9 + 24) (sv_W G z3 M3 o) 32 [(0, .ref (sv_b G)), (1, .ref (sv_r G 14 0)), (2, .int (nI 1)), (3, .int (nI T)), (4, .int (nI (j + 1)))] []) : sv_V p l e room_1 s m args below meth c 19 G Q k9 n9 (sv_W G z M o) 42 [(0, .ref (sv_b G)), (1, .ref (sv_r G 14 0)), (2, .int (nI 1)), (3, .int (nI T)), (4, .int (nI j))] [] := by
  have hs := h.2.2.2.2.1
  have h1 := h.2.2.2.1
  have hm := (vd_many hs.1).1
  have hm6 := hs.2.1
  have hsn := hs.2.2.2.2.2.2.1
  have hbk := bkN_le (M 0) 8
  obtain ⟨a, ea⟩ : ∃ a, cel G (3 * j + 1) = a := ⟨_, rfl⟩
  obtain ⟨b9, eb⟩ : ∃ b, cel G (3 * j + 2) = b := ⟨_, rfl⟩
  obtain ⟨s9, es⟩ : ∃ t, lo (cel G (3 * j)) 20 = t := ⟨_, rfl⟩
  have hs9 : s9 < 20 := es ▸ lo_lt _ (by decide)
  have l20 := lo_lt a (n := 20) (by decide)
  have l8 := lo_lt a (n := 8) (by decide)
  refine sv_aload_n (i := 1) (x := sv_r G 14 0) C dL_law_42 rfl rfl ?_
  refine sv_bipush (v := nI 10) C dL_law_43 (by decide) ?_
  refine sv_callV (as := [_]) (rest := []) C (lk_count l G _ _ _ rfl hs 10 (by decide) hd h1) fX5_count kw_293 (sv_recv14 C) ⟨Nat.le_of_ble_eq_true rfl, Nat.le_of_ble_eq_true rfl⟩ (Nat.le_of_ble_eq_true rfl) dL_law_45 ⟨by show k9 ≤ 636026; omega, by show n9 ≤ 7193105; omega⟩  ?_
  refine sv_riN hd rfl ?_
  refine sv_istore (i := 5) C [(0, .ref (sv_b G)), (1, .ref (sv_r G 14 0)), (2, .int (nI 1)), (3, .int (nI T)), (4, .int (nI j)), (5, .int (nI hd))] dL_law_48 (by decide) rfl ?_
  refine sv_aload_n (i := 1) (x := sv_r G 14 0) C dL_law_50 rfl rfl ?_
  refine sv_iconst (v := nI 1) C dL_law_51 (by decide) ?_
  refine sv_callV (as := [_]) (rest := []) C (lk_count l G _ _ _ rfl hs 1 (by decide) hd h1) fX5_count kw_293 (sv_recv14 C) ⟨Nat.le_of_ble_eq_true rfl, Nat.le_of_ble_eq_true rfl⟩ (Nat.le_of_ble_eq_true rfl) dL_law_52 ⟨by show k9 ≤ 636026; omega, by show n9 ≤ 7193105; omega⟩  ?_
  refine sv_riN (many (M 0)) hm ?_
  refine sv_istore (i := 6) C [(0, .ref (sv_b G)), (1, .ref (sv_r G 14 0)), (2, .int (nI 1)), (3, .int (nI T)), (4, .int (nI j)), (5, .int (nI hd)), (6, .int (nI (many (M 0))))] dL_law_55 (by decide) rfl ?_
  refine sv_aload_n (i := 1) (x := sv_r G 14 0) C dL_law_57 rfl rfl ?_
  refine sv_iconst (v := nI 0) C dL_law_58 (by decide) ?_
  refine sv_callV (as := [_]) (rest := []) C (lk_count l G _ _ _ rfl hs 0 (by decide) hd h1) fX5_count kw_293 (sv_recv14 C) ⟨Nat.le_of_ble_eq_true rfl, Nat.le_of_ble_eq_true rfl⟩ (Nat.le_of_ble_eq_true rfl) dL_law_59 ⟨by show k9 ≤ 636026; omega, by show n9 ≤ 7193105; omega⟩  ?_
  refine sv_riS (M 0 4) rfl ?_
  refine sv_istore (i := 7) C [(0, .ref (sv_b G)), (1, .ref (sv_r G 14 0)), (2, .int (nI 1)), (3, .int (nI T)), (4, .int (nI j)), (5, .int (nI hd)), (6, .int (nI (many (M 0)))), (7, .int (M 0 4))] dL_law_62 (by decide) rfl ?_
  refine sv_aload_n (i := 1) (x := sv_r G 14 0) C dL_law_64 rfl rfl ?_
  refine sv_iconst (v := nI 4) C dL_law_65 (by decide) ?_
  refine sv_callV (as := [_]) (rest := []) C (lk_count l G _ _ _ rfl hs 4 (by decide) hd h1) fX5_count kw_293 (sv_recv14 C) ⟨Nat.le_of_ble_eq_true rfl, Nat.le_of_ble_eq_true rfl⟩ (Nat.le_of_ble_eq_true rfl) dL_law_66 ⟨by show k9 ≤ 636026; omega, by show n9 ≤ 7193105; omega⟩  ?_
  refine sv_riS (dks (M 0)) rfl ?_
  refine sv_istore (i := 8) C [(0, .ref (sv_b G)), (1, .ref (sv_r G 14 0)), (2, .int (nI 1)), (3, .int (nI T)), (4, .int (nI j)), (5, .int (nI hd)), (6, .int (nI (many (M 0)))), (7, .int (M 0 4)), (8, .int (dks (M 0)))] dL_law_69 (by decide) rfl ?_
  refine sv_aload_n (i := 1) (x := sv_r G 14 0) C dL_law_71 rfl rfl ?_
  refine sv_iconst (v := nI 5) C dL_law_72 (by decide) ?_
  refine sv_callV (as := [_]) (rest := []) C (lk_count l G _ _ _ rfl hs 5 (by decide) hd h1) fX5_count kw_293 (sv_recv14 C) ⟨Nat.le_of_ble_eq_true rfl, Nat.le_of_ble_eq_true rfl⟩ (Nat.le_of_ble_eq_true rfl) dL_law_73 ⟨by show k9 ≤ 636026; omega, by show n9 ≤ 7193105; omega⟩  ?_
  refine sv_riS (dms (M 0)) rfl ?_
  refine sv_istore (i := 9) C [(0, .ref (sv_b G)), (1, .ref (sv_r G 14 0)), (2, .int (nI 1)), (3, .int (nI T)), (4, .int (nI j)), (5, .int (nI hd)), (6, .int (nI (many (M 0)))), (7, .int (M 0 4)), (8, .int (dks (M 0))), (9, .int (dms (M 0)))] dL_law_76 (by decide) rfl ?_
  refine sv_aload_n (i := 1) (x := sv_r G 14 0) C dL_law_78 rfl rfl ?_
  refine sv_bipush (v := nI 6) C dL_law_79 (by decide) ?_
  refine sv_callV (as := [_]) (rest := []) C (lk_count l G _ _ _ rfl hs 6 (by decide) hd h1) fX5_count kw_293 (sv_recv14 C) ⟨Nat.le_of_ble_eq_true rfl, Nat.le_of_ble_eq_true rfl⟩ (Nat.le_of_ble_eq_true rfl) dL_law_81 ⟨by show k9 ≤ 636026; omega, by show n9 ≤ 7193105; omega⟩  ?_
  refine sv_riS (eng (M 0)) rfl ?_
  refine sv_istore (i := 10) C [(0, .ref (sv_b G)), (1, .ref (sv_r G 14 0)), (2, .int (nI 1)), (3, .int (nI T)), (4, .int (nI j)), (5, .int (nI hd)), (6, .int (nI (many (M 0)))), (7, .int (M 0 4)), (8, .int (dks (M 0))), (9, .int (dms (M 0))), (10, .int (eng (M 0)))] dL_law_84 (by decide) rfl ?_
  refine sv_aload_n (i := 1) (x := sv_r G 14 0) C dL_law_86 rfl rfl ?_
  refine sv_iconst (v := nI 2) C dL_law_87 (by decide) ?_
  refine sv_callV (as := [_]) (rest := []) C (lk_count l G _ _ _ rfl hs 2 (by decide) hd h1) fX5_count kw_293 (sv_recv14 C) ⟨Nat.le_of_ble_eq_true rfl, Nat.le_of_ble_eq_true rfl⟩ (Nat.le_of_ble_eq_true rfl) dL_law_88 ⟨by show k9 ≤ 636026; omega, by show n9 ≤ 7193105; omega⟩  ?_
  refine sv_riS (M 0 5) rfl ?_
  refine sv_istore (i := 11) C [(0, .ref (sv_b G)), (1, .ref (sv_r G 14 0)), (2, .int (nI 1)), (3, .int (nI T)), (4, .int (nI j)), (5, .int (nI hd)), (6, .int (nI (many (M 0)))), (7, .int (M 0 4)), (8, .int (dks (M 0))), (9, .int (dms (M 0))), (10, .int (eng (M 0))), (11, .int (M 0 5))] dL_law_91 (by decide) rfl ?_
  refine sv_aload_n (i := 1) (x := sv_r G 14 0) C dL_law_93 rfl rfl ?_
  refine sv_bipush (v := nI 9) C dL_law_94 (by decide) ?_
  refine sv_callV (as := [_]) (rest := []) C (lk_count l G _ _ _ rfl hs 9 (by decide) hd h1) fX5_count kw_293 (sv_recv14 C) ⟨Nat.le_of_ble_eq_true rfl, Nat.le_of_ble_eq_true rfl⟩ (Nat.le_of_ble_eq_true rfl) dL_law_96 ⟨by show k9 ≤ 636026; omega, by show n9 ≤ 7193105; omega⟩  ?_
  refine sv_riN (bkN (M 0) 8) (bk_eq hsn) ?_
  refine sv_sel_if_ne (va := nI 1) (vb := nI 0) C 106 dL_law_99 (by decide) dL_law_102 (by decide) dL_law_103 (by decide) dL_law_106 (by decide) ?_
  refine sv_set (v' := .int (if ¬ nI (bkN (M 0) 8) = 0 then nI 0 else nI 1)) (congrArg Value.int rfl) ?_
  refine sv_istore (i := 12) C [(0, .ref (sv_b G)), (1, .ref (sv_r G 14 0)), (2, .int (nI 1)), (3, .int (nI T)), (4, .int (nI j)), (5, .int (nI hd)), (6, .int (nI (many (M 0)))), (7, .int (M 0 4)), (8, .int (dks (M 0))), (9, .int (dms (M 0))), (10, .int (eng (M 0))), (11, .int (M 0 5)), (12, .int (if ¬ nI (bkN (M 0) 8) = 0 then nI 0 else nI 1))] dL_law_107 (by decide) rfl ?_
  refine sv_aload_n (i := 0) (x := sv_b G) C dL_law_109 rfl rfl ?_
  refine sv_iconst (v := nI 3) C dL_law_110 (by decide) ?_
  refine sv_iload (i := 4) (x := nI j) C dL_law_111 rfl ?_
  refine sv_imul C dL_law_113 ?_
  refine sv_set (v' := .int (nI (3 * j))) (congrArg Value.int (pk_mul _ _)) ?_
  refine sv_callS (as := [_, _]) (rest := []) C (met_cell l G _ (3 * j) hL (by omega)) fL_cell kw_441 ⟨Nat.le_of_ble_eq_true rfl, Nat.le_of_ble_eq_true rfl⟩ (Nat.le_of_ble_eq_true rfl) dL_law_114 ⟨by show k9 ≤ 636026; omega, by show n9 ≤ 7193105; omega⟩  ?_
  refine sv_riS (cel G (3 * j)) rfl ?_
  refine sv_bipush (v := nI 20) C dL_law_117 (by decide) ?_
  refine sv_callS (as := [_, _]) (rest := []) C (met_low l G _ (cel G (3 * j)) 20 (by decide) (by decide)) fL_low kw_437 ⟨Nat.le_of_ble_eq_true rfl, Nat.le_of_ble_eq_true rfl⟩ (Nat.le_of_ble_eq_true rfl) dL_law_119 ⟨by show k9 ≤ 636026; omega, by show n9 ≤ 7193105; omega⟩  ?_
  refine sv_riN s9 (by rw [es]) ?_
  refine sv_istore (i := 13) C [(0, .ref (sv_b G)), (1, .ref (sv_r G 14 0)), (2, .int (nI 1)), (3, .int (nI T)), (4, .int (nI j)), (5, .int (nI hd)), (6, .int (nI (many (M 0)))), (7, .int (M 0 4)), (8, .int (dks (M 0))), (9, .int (dms (M 0))), (10, .int (eng (M 0))), (11, .int (M 0 5)), (12, .int (if ¬ nI (bkN (M 0) 8) = 0 then nI 0 else nI 1)), (13, .int (nI s9))] dL_law_122 (by decide) rfl ?_
  refine sv_aload_n (i := 0) (x := sv_b G) C dL_law_124 rfl rfl ?_
  refine sv_iconst (v := nI 3) C dL_law_125 (by decide) ?_
  refine sv_iload (i := 4) (x := nI j) C dL_law_126 rfl ?_
  refine sv_imul C dL_law_128 ?_
  refine sv_set (v' := .int (nI (3 * j))) (congrArg Value.int (pk_mul _ _)) ?_
  refine sv_iconst (v := nI 1) C dL_law_129 (by decide) ?_
  refine sv_iadd C dL_law_130 ?_
  refine sv_set (v' := .int (nI (3 * j + 1))) (congrArg Value.int (nI_add _ _)) ?_
  refine sv_callS (as := [_, _]) (rest := []) C (met_cell l G _ (3 * j + 1) hL (by omega)) fL_cell kw_441 ⟨Nat.le_of_ble_eq_true rfl, Nat.le_of_ble_eq_true rfl⟩ (Nat.le_of_ble_eq_true rfl) dL_law_131 ⟨by show k9 ≤ 636026; omega, by show n9 ≤ 7193105; omega⟩  ?_
  refine sv_riS a ea ?_
  refine sv_istore (i := 14) C [(0, .ref (sv_b G)), (1, .ref (sv_r G 14 0)), (2, .int (nI 1)), (3, .int (nI T)), (4, .int (nI j)), (5, .int (nI hd)), (6, .int (nI (many (M 0)))), (7, .int (M 0 4)), (8, .int (dks (M 0))), (9, .int (dms (M 0))), (10, .int (eng (M 0))), (11, .int (M 0 5)), (12, .int (if ¬ nI (bkN (M 0) 8) = 0 then nI 0 else nI 1)), (13, .int (nI s9)), (14, .int a)] dL_law_134 (by decide) rfl ?_
  refine sv_iconst (v := nI 1) C dL_law_136 (by decide) ?_
  refine sv_iload (i := 14) (x := a) C dL_law_137 rfl ?_
  refine sv_bipush (v := nI 20) C dL_law_139 (by decide) ?_
  refine sv_callS (as := [_, _]) (rest := [_]) C (met_low l G _ a 20 (by decide) (by decide)) fL_low kw_437 ⟨Nat.le_of_ble_eq_true rfl, Nat.le_of_ble_eq_true rfl⟩ (Nat.le_of_ble_eq_true rfl) dL_law_141 ⟨by show k9 ≤ 636026; omega, by show n9 ≤ 7193105; omega⟩  ?_
  refine sv_riN (lo a 20) rfl ?_
  refine sv_iadd C dL_law_144 ?_
  refine sv_set (v' := .int (nI (1 + (lo a 20)))) (congrArg Value.int (nI_add _ _)) ?_
  refine sv_istore (i := 15) C [(0, .ref (sv_b G)), (1, .ref (sv_r G 14 0)), (2, .int (nI 1)), (3, .int (nI T)), (4, .int (nI j)), (5, .int (nI hd)), (6, .int (nI (many (M 0)))), (7, .int (M 0 4)), (8, .int (dks (M 0))), (9, .int (dms (M 0))), (10, .int (eng (M 0))), (11, .int (M 0 5)), (12, .int (if ¬ nI (bkN (M 0) 8) = 0 then nI 0 else nI 1)), (13, .int (nI s9)), (14, .int a), (15, .int (nI (1 + (lo a 20))))] dL_law_145 (by decide) rfl ?_
  refine sv_aload_n (i := 1) (x := sv_r G 14 0) C dL_law_147 rfl rfl ?_
  refine sv_iload (i := 15) (x := nI (1 + (lo a 20))) C dL_law_148 rfl ?_
  refine sv_iconst (v := nI 1) C dL_law_150 (by decide) ?_
  refine sv_callV (as := [_, _]) (rest := []) C (lk_ifp l G _ _ _ rfl hs (1 + (lo a 20)) 1 (by omega) (by omega) (by decide)) fX5_ifPassed kw_321 (sv_recv14 C) ⟨Nat.le_of_ble_eq_true rfl, Nat.le_of_ble_eq_true rfl⟩ (Nat.le_of_ble_eq_true rfl) dL_law_151 ⟨by show k9 ≤ 636026; omega, by show n9 ≤ 7193105; omega⟩  ?_
  refine sv_riS (eng (passv (1 + lo a 20) (M 0)) - eng (M 0)) rfl ?_
  refine sv_exW (fun y1 => ?_)
  refine sv_istore (i := 16) C [(0, .ref (sv_b G)), (1, .ref (sv_r G 14 0)), (2, .int (nI 1)), (3, .int (nI T)), (4, .int (nI j)), (5, .int (nI hd)), (6, .int (nI (many (M 0)))), (7, .int (M 0 4)), (8, .int (dks (M 0))), (9, .int (dms (M 0))), (10, .int (eng (M 0))), (11, .int (M 0 5)), (12, .int (if ¬ nI (bkN (M 0) 8) = 0 then nI 0 else nI 1)), (13, .int (nI s9)), (14, .int a), (15, .int (nI (1 + (lo a 20)))), (16, .int (eng (passv (1 + lo a 20) (M 0)) - eng (M 0)))] dL_law_154 (by decide) rfl ?_
  refine sv_aload_n (i := 1) (x := sv_r G 14 0) C dL_law_156 rfl rfl ?_
  refine sv_iload (i := 15) (x := nI (1 + (lo a 20))) C dL_law_157 rfl ?_
  refine sv_iconst (v := nI 0) C dL_law_159 (by decide) ?_
  refine sv_callV (as := [_, _]) (rest := []) C (lk_ifp l G _ _ _ (sv_un (by decide)) hs (1 + (lo a 20)) 0 (by omega) (by omega) (by decide)) fX5_ifPassed kw_321 (sv_recv14 C) ⟨Nat.le_of_ble_eq_true rfl, Nat.le_of_ble_eq_true rfl⟩ (Nat.le_of_ble_eq_true rfl) dL_law_160 ⟨by show k9 ≤ 636026; omega, by show n9 ≤ 7193105; omega⟩  ?_
  refine sv_riS (dks (passv (1 + lo a 20) (M 0)) - dks (M 0)) rfl ?_
  refine sv_exW (fun y2 => ?_)
  have i2 : inw j (140 * j) od hd (sv_u (sv_u M 1 y1) 1 y2) := inw_1 (inw_1 h)
  have x2 : sv_u (sv_u M 1 y1) 1 y2 0 = M 0 := (sv_un (by decide)).trans (sv_un (by decide))
  generalize sv_u (sv_u M 1 y1) 1 y2 = M2 at i2 x2 ⊢
  have y2 := vd_many i2.2.2.2.2.1.1
  refine sv_istore (i := 17) C [(0, .ref (sv_b G)), (1, .ref (sv_r G 14 0)), (2, .int (nI 1)), (3, .int (nI T)), (4, .int (nI j)), (5, .int (nI hd)), (6, .int (nI (many (M 0)))), (7, .int (M 0 4)), (8, .int (dks (M 0))), (9, .int (dms (M 0))), (10, .int (eng (M 0))), (11, .int (M 0 5)), (12, .int (if ¬ nI (bkN (M 0) 8) = 0 then nI 0 else nI 1)), (13, .int (nI s9)), (14, .int a), (15, .int (nI (1 + (lo a 20)))), (16, .int (eng (passv (1 + lo a 20) (M 0)) - eng (M 0))), (17, .int (dks (passv (1 + lo a 20) (M 0)) - dks (M 0)))] dL_law_163 (by decide) rfl ?_
  refine sv_aload_n (i := 1) (x := sv_r G 14 0) C dL_law_165 rfl rfl ?_
  refine sv_aload_n (i := 0) (x := sv_b G) C dL_law_166 rfl rfl ?_
  refine sv_iconst (v := nI 3) C dL_law_167 (by decide) ?_
  refine sv_iload (i := 4) (x := nI j) C dL_law_168 rfl ?_
  refine sv_imul C dL_law_170 ?_
  refine sv_set (v' := .int (nI (3 * j))) (congrArg Value.int (pk_mul _ _)) ?_
  refine sw_callS (as := [_, _, _]) (rest := []) C (met_act l G hl _ _ _ hL (3 * j) (by omega) a b9 s9 hs9 ea eb es od hd i2.1 i2.2.2.1 i2.2.2.2.1 i2.2.1 y2.2.2.1 y2.2.2.2.1 _ y2.1 i2.2.2.2.2.1.2.1 i2.2.2.2.2.1.1 (fun q => (vd_many (i2.2.2.2.2.2 (hd - 1) (by omega)).1).2.2.1) (fun q => (vd_many (i2.2.2.2.2.2 (hd - 1) (by omega)).1).2.2.2.1)) fL_act kw_473 ⟨Nat.le_of_ble_eq_true rfl, Nat.le_of_ble_eq_true rfl⟩ (Nat.le_of_ble_eq_true rfl) dL_law_171 ⟨by show k9 + 4 ≤ 636026; omega, by show n9 + 24 ≤ 7193105; omega⟩ ?_
  refine sv_ri (fun v171 e171 => ?_)
  refine sv_exH (Wf := fun z3 => sv_W G z3 (acM M2 od hd (many (M2 0)) s9 a b9) o) (fun H ⟨z3, M3, e3, h3⟩ => ⟨z3, e3 ▸ h3⟩) (fun z3 => ?_)
  have ac := ac_ok (a := a) (b := b9) i2 (by omega) (by omega) hs9
  rw [← e171] at ac
  generalize acM M2 od hd (many (M2 0)) s9 a b9 = M3 at ac ⊢
  obtain ⟨⟨od3, hd3, i3⟩, c2, c3, c4, c5, c6⟩ := ac
  rw [x2] at c3 c4 c5
  refine sv_istore (i := 18) C [(0, .ref (sv_b G)), (1, .ref (sv_r G 14 0)), (2, .int (nI 1)), (3, .int (nI T)), (4, .int (nI j)), (5, .int (nI hd)), (6, .int (nI (many (M 0)))), (7, .int (M 0 4)), (8, .int (dks (M 0))), (9, .int (dms (M 0))), (10, .int (eng (M 0))), (11, .int (M 0 5)), (12, .int (if ¬ nI (bkN (M 0) 8) = 0 then nI 0 else nI 1)), (13, .int (nI s9)), (14, .int a), (15, .int (nI (1 + (lo a 20)))), (16, .int (eng (passv (1 + lo a 20) (M 0)) - eng (M 0))), (17, .int (dks (passv (1 + lo a 20) (M 0)) - dks (M 0))), (18, .int v171)] dL_law_174 (by decide) rfl ?_
  have k223 : sv_V p l e room_1 s m args below meth c 19 G Q (k9 + 4) (n9 + 24) (sv_W G z3 M3 o) 223 [(0, .ref (sv_b G)), (1, .ref (sv_r G 14 0)), (2, .int (nI 1)), (3, .int (nI T)), (4, .int (nI j)), (5, .int (nI hd)), (6, .int (nI (many (M 0)))), (7, .int (M 0 4)), (8, .int (dks (M 0))), (9, .int (dms (M 0))), (10, .int (eng (M 0))), (11, .int (M 0 5)), (12, .int (if ¬ nI (bkN (M 0) 8) = 0 then nI 0 else nI 1)), (13, .int (nI s9)), (14, .int a), (15, .int (nI (1 + (lo a 20)))), (16, .int (eng (passv (1 + lo a 20) (M 0)) - eng (M 0))), (17, .int (dks (passv (1 + lo a 20) (M 0)) - dks (M 0))), (18, .int v171)] [] := by
    refine sv_iconst (v := nI 1) C dL_law_223 (by decide) ?_
    refine sv_goto C 228 dL_law_224 (by decide) ?_
    refine sv_istore_n (i := 2) C [(0, .ref (sv_b G)), (1, .ref (sv_r G 14 0)), (2, .int (nI 1)), (3, .int (nI T)), (4, .int (nI j)), (5, .int (nI hd)), (6, .int (nI (many (M 0)))), (7, .int (M 0 4)), (8, .int (dks (M 0))), (9, .int (dms (M 0))), (10, .int (eng (M 0))), (11, .int (M 0 5)), (12, .int (if ¬ nI (bkN (M 0) 8) = 0 then nI 0 else nI 1)), (13, .int (nI s9)), (14, .int a), (15, .int (nI (1 + (lo a 20)))), (16, .int (eng (passv (1 + lo a 20) (M 0)) - eng (M 0))), (17, .int (dks (passv (1 + lo a 20) (M 0)) - dks (M 0))), (18, .int v171)] dL_law_228 rfl (by decide) rfl ?_
    refine sv_iload_n (i := 2) (x := nI 1) C dL_law_229 rfl rfl ?_
    refine sv_if_eq C 297 dL_law_230 (by decide) (fun q230 => ?_) (fun q230 => ?_)
    · exact absurd q230 (by decide)
    · have k293 : sv_V p l e room_1 s m args below meth c 19 G Q (k9 + 4) (n9 + 24) (sv_W G z3 M3 o) 293 [(0, .ref (sv_b G)), (1, .ref (sv_r G 14 0)), (2, .int (nI 1)), (3, .int (nI T)), (4, .int (nI j)), (5, .int (nI hd)), (6, .int (nI (many (M 0)))), (7, .int (M 0 4)), (8, .int (dks (M 0))), (9, .int (dms (M 0))), (10, .int (eng (M 0))), (11, .int (M 0 5)), (12, .int (if ¬ nI (bkN (M 0) 8) = 0 then nI 0 else nI 1)), (13, .int (nI s9)), (14, .int a), (15, .int (nI (1 + (lo a 20)))), (16, .int (eng (passv (1 + lo a 20) (M 0)) - eng (M 0))), (17, .int (dks (passv (1 + lo a 20) (M 0)) - dks (M 0))), (18, .int v171)] [] := by
        refine sv_iconst (v := nI 1) C dL_law_293 (by decide) ?_
        refine sv_goto C 298 dL_law_294 (by decide) ?_
        refine sv_istore_n (i := 2) C [(0, .ref (sv_b G)), (1, .ref (sv_r G 14 0)), (2, .int (nI 1)), (3, .int (nI T)), (4, .int (nI j)), (5, .int (nI hd)), (6, .int (nI (many (M 0)))), (7, .int (M 0 4)), (8, .int (dks (M 0))), (9, .int (dms (M 0))), (10, .int (eng (M 0))), (11, .int (M 0 5)), (12, .int (if ¬ nI (bkN (M 0) 8) = 0 then nI 0 else nI 1)), (13, .int (nI s9)), (14, .int a), (15, .int (nI (1 + (lo a 20)))), (16, .int (eng (passv (1 + lo a 20) (M 0)) - eng (M 0))), (17, .int (dks (passv (1 + lo a 20) (M 0)) - dks (M 0))), (18, .int v171)] dL_law_298 rfl (by decide) rfl ?_
        refine sv_iload_n (i := 2) (x := nI 1) C dL_law_299 rfl rfl ?_
        refine sv_if_eq C 405 dL_law_300 (by decide) (fun q300 => ?_) (fun q300 => ?_)
        · exact absurd q300 (by decide)
        · have k335 : sv_V p l e room_1 s m args below meth c 19 G Q (k9 + 4) (n9 + 24) (sv_W G z3 M3 o) 335 [(0, .ref (sv_b G)), (1, .ref (sv_r G 14 0)), (2, .int (nI 1)), (3, .int (nI T)), (4, .int (nI j)), (5, .int (nI hd)), (6, .int (nI (many (M 0)))), (7, .int (M 0 4)), (8, .int (dks (M 0))), (9, .int (dms (M 0))), (10, .int (eng (M 0))), (11, .int (M 0 5)), (12, .int (if ¬ nI (bkN (M 0) 8) = 0 then nI 0 else nI 1)), (13, .int (nI s9)), (14, .int a), (15, .int (nI (1 + (lo a 20)))), (16, .int (eng (passv (1 + lo a 20) (M 0)) - eng (M 0))), (17, .int (dks (passv (1 + lo a 20) (M 0)) - dks (M 0))), (18, .int v171)] [] := by
            have k360 : sv_V p l e room_1 s m args below meth c 19 G Q (k9 + 4) (n9 + 24) (sv_W G z3 M3 o) 360 [(0, .ref (sv_b G)), (1, .ref (sv_r G 14 0)), (2, .int (nI 1)), (3, .int (nI T)), (4, .int (nI j)), (5, .int (nI hd)), (6, .int (nI (many (M 0)))), (7, .int (M 0 4)), (8, .int (dks (M 0))), (9, .int (dms (M 0))), (10, .int (eng (M 0))), (11, .int (M 0 5)), (12, .int (if ¬ nI (bkN (M 0) 8) = 0 then nI 0 else nI 1)), (13, .int (nI s9)), (14, .int a), (15, .int (nI (1 + (lo a 20)))), (16, .int (eng (passv (1 + lo a 20) (M 0)) - eng (M 0))), (17, .int (dks (passv (1 + lo a 20) (M 0)) - dks (M 0))), (18, .int v171)] [] := by
              have k394 : sv_V p l e room_1 s m args below meth c 19 G Q (k9 + 4) (n9 + 24) (sv_W G z3 M3 o) 394 [(0, .ref (sv_b G)), (1, .ref (sv_r G 14 0)), (2, .int (nI 1)), (3, .int (nI T)), (4, .int (nI j)), (5, .int (nI hd)), (6, .int (nI (many (M 0)))), (7, .int (M 0 4)), (8, .int (dks (M 0))), (9, .int (dms (M 0))), (10, .int (eng (M 0))), (11, .int (M 0 5)), (12, .int (if ¬ nI (bkN (M 0) 8) = 0 then nI 0 else nI 1)), (13, .int (nI s9)), (14, .int a), (15, .int (nI (1 + (lo a 20)))), (16, .int (eng (passv (1 + lo a 20) (M 0)) - eng (M 0))), (17, .int (dks (passv (1 + lo a 20) (M 0)) - dks (M 0))), (18, .int v171)] [] := by
                refine sv_aload_n (i := 1) (x := sv_r G 14 0) C dL_law_394 rfl rfl ?_
                refine sv_callS (as := [_]) (rest := []) C (lk_stairs l G _ _ _ rfl i3.2.2.2.2.1 hd3 i3.2.2.2.1 (by omega) (by omega)) fL_stairs kw_445 ⟨Nat.le_of_ble_eq_true rfl, Nat.le_of_ble_eq_true rfl⟩ (Nat.le_of_ble_eq_true rfl) dL_law_395 ⟨by show k9 + 4 ≤ 636026; omega, by show n9 + 24 ≤ 7193105; omega⟩  ?_
                refine sv_riN 1 rfl ?_
                refine sv_if_eq C 405 dL_law_398 (by decide) (fun q398 => ?_) (fun q398 => ?_)
                · exact absurd q398 (by decide)
                · refine sv_iconst (v := nI 1) C dL_law_401 (by decide) ?_
                  refine sv_goto C 406 dL_law_402 (by decide) ?_
                  refine sv_istore_n (i := 2) C [(0, .ref (sv_b G)), (1, .ref (sv_r G 14 0)), (2, .int (nI 1)), (3, .int (nI T)), (4, .int (nI j)), (5, .int (nI hd)), (6, .int (nI (many (M 0)))), (7, .int (M 0 4)), (8, .int (dks (M 0))), (9, .int (dms (M 0))), (10, .int (eng (M 0))), (11, .int (M 0 5)), (12, .int (if ¬ nI (bkN (M 0) 8) = 0 then nI 0 else nI 1)), (13, .int (nI s9)), (14, .int a), (15, .int (nI (1 + (lo a 20)))), (16, .int (eng (passv (1 + lo a 20) (M 0)) - eng (M 0))), (17, .int (dks (passv (1 + lo a 20) (M 0)) - dks (M 0))), (18, .int v171)] dL_law_406 rfl (by decide) rfl ?_
                  refine sv_iinc (i := 4) (x := nI j) C (nI (j + 1)) [(0, .ref (sv_b G)), (1, .ref (sv_r G 14 0)), (2, .int (nI 1)), (3, .int (nI T)), (4, .int (nI (j + 1))), (5, .int (nI hd)), (6, .int (nI (many (M 0)))), (7, .int (M 0 4)), (8, .int (dks (M 0))), (9, .int (dms (M 0))), (10, .int (eng (M 0))), (11, .int (M 0 5)), (12, .int (if ¬ nI (bkN (M 0) 8) = 0 then nI 0 else nI 1)), (13, .int (nI s9)), (14, .int a), (15, .int (nI (1 + (lo a 20)))), (16, .int (eng (passv (1 + lo a 20) (M 0)) - eng (M 0))), (17, .int (dks (passv (1 + lo a 20) (M 0)) - dks (M 0))), (18, .int v171)] dL_law_407 rfl (sv_incN j 1) (by decide) rfl ?_
                  refine sv_goto C 32 dL_law_410 (by decide) ?_
                  refine sv_sub (lv' := [(0, .ref (sv_b G)), (1, .ref (sv_r G 14 0)), (2, .int (nI 1)), (3, .int (nI T)), (4, .int (nI (j + 1)))]) rfl ?_
                  exact kk z3 M3 od3 hd3 i3
              have k374 : (s9 = 11 ∨ s9 = 12) → sv_V p l e room_1 s m args below meth c 19 G Q (k9 + 4) (n9 + 24) (sv_W G z3 M3 o) 374 [(0, .ref (sv_b G)), (1, .ref (sv_r G 14 0)), (2, .int (nI 1)), (3, .int (nI T)), (4, .int (nI j)), (5, .int (nI hd)), (6, .int (nI (many (M 0)))), (7, .int (M 0 4)), (8, .int (dks (M 0))), (9, .int (dms (M 0))), (10, .int (eng (M 0))), (11, .int (M 0 5)), (12, .int (if ¬ nI (bkN (M 0) 8) = 0 then nI 0 else nI 1)), (13, .int (nI s9)), (14, .int a), (15, .int (nI (1 + (lo a 20)))), (16, .int (eng (passv (1 + lo a 20) (M 0)) - eng (M 0))), (17, .int (dks (passv (1 + lo a 20) (M 0)) - dks (M 0))), (18, .int v171)] [] := by
                intro hq9
                refine sv_aload_n (i := 1) (x := sv_r G 14 0) C dL_law_374 rfl rfl ?_
                refine sv_iload (i := 14) (x := a) C dL_law_375 rfl ?_
                refine sv_bipush (v := nI 8) C dL_law_377 (by decide) ?_
                refine sv_callS (as := [_, _]) (rest := [_]) C (met_low l G _ a 8 (by decide) (by decide)) fL_low kw_437 ⟨Nat.le_of_ble_eq_true rfl, Nat.le_of_ble_eq_true rfl⟩ (Nat.le_of_ble_eq_true rfl) dL_law_379 ⟨by show k9 + 4 ≤ 636026; omega, by show n9 + 24 ≤ 7193105; omega⟩  ?_
                refine sv_riN (lo a 8) rfl ?_
                refine sv_iconst (v := nI 1) C dL_law_382 (by decide) ?_
                refine sv_callV (as := [_, _]) (rest := []) C (lk_floor l G _ _ _ rfl i3.2.2.2.2.1 (lo a 8) 1 (by omega) (by decide)) fX5_floor kw_183 (sv_recv14 C) ⟨Nat.le_of_ble_eq_true rfl, Nat.le_of_ble_eq_true rfl⟩ (Nat.le_of_ble_eq_true rfl) dL_law_383 ⟨by show k9 + 4 ≤ 636026; omega, by show n9 + 24 ≤ 7193105; omega⟩  ?_
                refine sv_riS (M3 0 (6 * lo a 8 + 9)) rfl ?_
                refine sv_aload_n (i := 1) (x := sv_r G 14 0) C dL_law_386 rfl rfl ?_
                refine sv_iconst (v := nI 0) C dL_law_387 (by decide) ?_
                refine sv_callV (as := [_]) (rest := [_]) C (lk_setting l G _ _ _ rfl i3.2.2.2.2.1 0 (by decide)) fX5_setting kw_311 (sv_recv14 C) ⟨Nat.le_of_ble_eq_true rfl, Nat.le_of_ble_eq_true rfl⟩ (Nat.le_of_ble_eq_true rfl) dL_law_388 ⟨by show k9 + 4 ≤ 636026; omega, by show n9 + 24 ≤ 7193105; omega⟩  ?_
                refine sv_riS (M3 0 0) rfl ?_
                refine sv_icmp_lt C 405 dL_law_391 (by decide) (fun q391 => ?_) (fun q391 => ?_)
                · exact absurd (c6 hq9) (Int32.not_le.mpr q391)
                · exact k394
              refine sv_iload (i := 13) (x := nI s9) C dL_law_360 rfl ?_
              refine sv_bipush (v := nI 11) C dL_law_362 (by decide) ?_
              refine sv_icmp_eqN C 374 dL_law_364 (by decide) (by omega) (by omega) (fun q364 => ?_) (fun q364 => ?_)
              · exact k374 (by omega)
              · refine sv_iload (i := 13) (x := nI s9) C dL_law_367 rfl ?_
                refine sv_bipush (v := nI 12) C dL_law_369 (by decide) ?_
                refine sv_icmp_neN C 394 dL_law_371 (by decide) (by omega) (by omega) (fun q371 => ?_) (fun q371 => ?_)
                · exact k394
                · exact k374 (by omega)
            refine sv_iload (i := 13) (x := nI s9) C dL_law_335 rfl ?_
            refine sv_iconst (v := nI 4) C dL_law_337 (by decide) ?_
            refine sv_icmp_gtN C 360 dL_law_338 (by decide) (by omega) (by omega) (fun q338 => ?_) (fun q338 => ?_)
            · exact k360
            · refine sv_iload (i := 18) (x := v171) C dL_law_341 rfl ?_
              refine sv_iload (i := 6) (x := nI (many (M 0))) C dL_law_343 rfl ?_
              refine sv_bipush (v := nI 6) C dL_law_345 (by decide) ?_
              refine sv_icmp_neN C 355 dL_law_347 (by decide) (by omega) (by omega) (fun q347 => ?_) (fun q347 => ?_)
              · have hq : many (M 0) < 6 := by omega
                refine sv_iload (i := 11) (x := M 0 5) C dL_law_355 rfl ?_
                refine sv_icmp_ne C 405 dL_law_357 (by decide) (fun q357 => ?_) (fun q357 => ?_)
                · exact absurd ((c5 (by omega)).trans (if_pos hq)) q357
                · exact k360
              · have hq : ¬ many (M 0) < 6 := by omega
                refine sv_bipush (v := (-3)) C dL_law_350 (by decide) ?_
                refine sv_goto C 357 dL_law_352 (by decide) ?_
                refine sv_icmp_ne C 405 dL_law_357 (by decide) (fun q357 => ?_) (fun q357 => ?_)
                · exact absurd ((c5 (by omega)).trans (if_neg hq)) q357
                · exact k360
          refine sv_iload (i := 12) (x := (if ¬ nI (bkN (M 0) 8) = 0 then nI 0 else nI 1)) C dL_law_303 rfl ?_
          refine sv_if_eq C 335 dL_law_305 (by decide) (fun q305 => ?_) (fun q305 => ?_)
          · exact k335
          · have ha : asd (M 0) := asd_bk hsn (by
              rcases Nat.eq_zero_or_pos (bkN (M 0) 8) with q | q
              · exact q
              · exact absurd (if_pos (nI_ne0 q (by omega))) q305)
            refine sv_iload (i := 13) (x := nI s9) C dL_law_308 rfl ?_
            refine sv_bipush (v := nI 19) C dL_law_310 (by decide) ?_
            refine sv_icmp_eqN C 335 dL_law_312 (by decide) (by omega) (by omega) (fun q312 => ?_) (fun q312 => ?_)
            · exact k335
            · obtain ⟨d3, d4⟩ := c4 q312 ha
              refine sv_aload_n (i := 1) (x := sv_r G 14 0) C dL_law_315 rfl rfl ?_
              refine sv_iconst (v := nI 4) C dL_law_316 (by decide) ?_
              refine sv_callV (as := [_]) (rest := []) C (lk_count l G _ _ _ rfl i3.2.2.2.2.1 4 (by decide) hd3 i3.2.2.2.1) fX5_count kw_293 (sv_recv14 C) ⟨Nat.le_of_ble_eq_true rfl, Nat.le_of_ble_eq_true rfl⟩ (Nat.le_of_ble_eq_true rfl) dL_law_317 ⟨by show k9 + 4 ≤ 636026; omega, by show n9 + 24 ≤ 7193105; omega⟩  ?_
              refine sv_riS (dks (M 0)) d3 ?_
              refine sv_iload (i := 8) (x := dks (M 0)) C dL_law_320 rfl ?_
              refine sv_icmp_ne C 405 dL_law_322 (by decide) (fun q322 => ?_) (fun q322 => ?_)
              · exact absurd rfl q322
              · refine sv_aload_n (i := 1) (x := sv_r G 14 0) C dL_law_325 rfl rfl ?_
                refine sv_iconst (v := nI 5) C dL_law_326 (by decide) ?_
                refine sv_callV (as := [_]) (rest := []) C (lk_count l G _ _ _ rfl i3.2.2.2.2.1 5 (by decide) hd3 i3.2.2.2.1) fX5_count kw_293 (sv_recv14 C) ⟨Nat.le_of_ble_eq_true rfl, Nat.le_of_ble_eq_true rfl⟩ (Nat.le_of_ble_eq_true rfl) dL_law_327 ⟨by show k9 + 4 ≤ 636026; omega, by show n9 + 24 ≤ 7193105; omega⟩  ?_
                refine sv_riS (dms (M 0)) d4 ?_
                refine sv_iload (i := 9) (x := dms (M 0)) C dL_law_330 rfl ?_
                refine sv_icmp_ne C 405 dL_law_332 (by decide) (fun q332 => ?_) (fun q332 => ?_)
                · exact absurd rfl q332
                · exact k335
      refine sv_iload (i := 13) (x := nI s9) C dL_law_233 rfl ?_
      refine sv_iconst (v := nI 5) C dL_law_235 (by decide) ?_
      refine sv_icmp_ltN C 293 dL_law_236 (by decide) (by omega) (by omega) (fun q236 => ?_) (fun q236 => ?_)
      · exact k293
      · refine sv_iload (i := 13) (x := nI s9) C dL_law_239 rfl ?_
        refine sv_bipush (v := nI 9) C dL_law_241 (by decide) ?_
        refine sv_icmp_gtN C 293 dL_law_243 (by decide) (by omega) (by omega) (fun q243 => ?_) (fun q243 => ?_)
        · exact k293
        · obtain ⟨d1, d2⟩ := c3 (by omega) (by omega)
          refine sv_iload (i := 18) (x := v171) C dL_law_246 rfl ?_
          refine sv_iload (i := 17) (x := dks (passv (1 + lo a 20) (M 0)) - dks (M 0)) C dL_law_248 rfl ?_
          refine sv_icmp_ne C 297 dL_law_250 (by decide) (fun q250 => ?_) (fun q250 => ?_)
          · exact absurd d1 q250
          · refine sv_aload_n (i := 1) (x := sv_r G 14 0) C dL_law_253 rfl rfl ?_
            refine sv_iconst (v := nI 4) C dL_law_254 (by decide) ?_
            refine sv_callV (as := [_]) (rest := []) C (lk_count l G _ _ _ rfl i3.2.2.2.2.1 4 (by decide) hd3 i3.2.2.2.1) fX5_count kw_293 (sv_recv14 C) ⟨Nat.le_of_ble_eq_true rfl, Nat.le_of_ble_eq_true rfl⟩ (Nat.le_of_ble_eq_true rfl) dL_law_255 ⟨by show k9 + 4 ≤ 636026; omega, by show n9 + 24 ≤ 7193105; omega⟩  ?_
            refine sv_riS (dks (M3 0)) rfl ?_
            refine sv_iload (i := 8) (x := dks (M 0)) C dL_law_258 rfl ?_
            refine sv_iload (i := 17) (x := dks (passv (1 + lo a 20) (M 0)) - dks (M 0)) C dL_law_260 rfl ?_
            refine sv_iadd C dL_law_262 ?_
            refine sv_set (v' := .int (dks (passv (1 + lo a 20) (M 0)))) (congrArg Value.int (i32_ad _ _)) ?_
            refine sv_icmp_ne C 297 dL_law_263 (by decide) (fun q263 => ?_) (fun q263 => ?_)
            · exact absurd (by rw [d2]) q263
            · refine sv_aload_n (i := 1) (x := sv_r G 14 0) C dL_law_266 rfl rfl ?_
              refine sv_bipush (v := nI 6) C dL_law_267 (by decide) ?_
              refine sv_callV (as := [_]) (rest := []) C (lk_count l G _ _ _ rfl i3.2.2.2.2.1 6 (by decide) hd3 i3.2.2.2.1) fX5_count kw_293 (sv_recv14 C) ⟨Nat.le_of_ble_eq_true rfl, Nat.le_of_ble_eq_true rfl⟩ (Nat.le_of_ble_eq_true rfl) dL_law_269 ⟨by show k9 + 4 ≤ 636026; omega, by show n9 + 24 ≤ 7193105; omega⟩  ?_
              refine sv_riS (eng (M3 0)) rfl ?_
              refine sv_iload (i := 10) (x := eng (M 0)) C dL_law_272 rfl ?_
              refine sv_iload (i := 16) (x := eng (passv (1 + lo a 20) (M 0)) - eng (M 0)) C dL_law_274 rfl ?_
              refine sv_iadd C dL_law_276 ?_
              refine sv_set (v' := .int (eng (passv (1 + lo a 20) (M 0)))) (congrArg Value.int (i32_ad _ _)) ?_
              refine sv_icmp_ne C 297 dL_law_277 (by decide) (fun q277 => ?_) (fun q277 => ?_)
              · exact absurd (by rw [d2]) q277
              · refine sv_aload_n (i := 1) (x := sv_r G 14 0) C dL_law_280 rfl rfl ?_
                refine sv_iconst (v := nI 0) C dL_law_281 (by decide) ?_
                refine sv_callV (as := [_]) (rest := []) C (lk_count l G _ _ _ rfl i3.2.2.2.2.1 0 (by decide) hd3 i3.2.2.2.1) fX5_count kw_293 (sv_recv14 C) ⟨Nat.le_of_ble_eq_true rfl, Nat.le_of_ble_eq_true rfl⟩ (Nat.le_of_ble_eq_true rfl) dL_law_282 ⟨by show k9 + 4 ≤ 636026; omega, by show n9 + 24 ≤ 7193105; omega⟩  ?_
                refine sv_riS (M3 0 4) rfl ?_
                refine sv_iload (i := 7) (x := M 0 4) C dL_law_285 rfl ?_
                refine sv_iload (i := 15) (x := nI (1 + (lo a 20))) C dL_law_287 rfl ?_
                refine sv_iadd C dL_law_289 ?_
                refine sv_set (v' := .int (M 0 4 + nI (1 + lo a 20))) (congrArg Value.int rfl) ?_
                refine sv_icmp_ne C 297 dL_law_290 (by decide) (fun q290 => ?_) (fun q290 => ?_)
                · exact absurd (by rw [d2]; exact pass_4 hs.1 _) q290
                · exact k293
  refine sv_iload (i := 18) (x := v171) C dL_law_176 rfl ?_
  refine sv_if_ge C 223 dL_law_178 (by decide) (fun q178 => ?_) (fun q178 => ?_)
  · exact k223
  · have e2 : M3 = M2 := c2.resolve_left (fun q => q (Int32.not_le.mp q178))
    have e8 : nI hd3 = nI hd := i3.2.2.2.1.symm.trans (by rw [e2]; exact i2.2.2.2.1)
    have e9 : M3 0 = M 0 := by rw [e2, x2]
    refine sv_aload_n (i := 1) (x := sv_r G 14 0) C dL_law_181 rfl rfl ?_
    refine sv_bipush (v := nI 10) C dL_law_182 (by decide) ?_
    refine sv_callV (as := [_]) (rest := []) C (lk_count l G _ _ _ rfl i3.2.2.2.2.1 10 (by decide) hd3 i3.2.2.2.1) fX5_count kw_293 (sv_recv14 C) ⟨Nat.le_of_ble_eq_true rfl, Nat.le_of_ble_eq_true rfl⟩ (Nat.le_of_ble_eq_true rfl) dL_law_184 ⟨by show k9 + 4 ≤ 636026; omega, by show n9 + 24 ≤ 7193105; omega⟩  ?_
    refine sv_riS (nI hd) e8 ?_
    refine sv_iload (i := 5) (x := nI hd) C dL_law_187 rfl ?_
    refine sv_icmp_ne C 227 dL_law_189 (by decide) (fun q189 => ?_) (fun q189 => ?_)
    · exact absurd rfl q189
    · refine sv_aload_n (i := 1) (x := sv_r G 14 0) C dL_law_192 rfl rfl ?_
      refine sv_iconst (v := nI 1) C dL_law_193 (by decide) ?_
      refine sv_callV (as := [_]) (rest := []) C (lk_count l G _ _ _ rfl i3.2.2.2.2.1 1 (by decide) hd3 i3.2.2.2.1) fX5_count kw_293 (sv_recv14 C) ⟨Nat.le_of_ble_eq_true rfl, Nat.le_of_ble_eq_true rfl⟩ (Nat.le_of_ble_eq_true rfl) dL_law_194 ⟨by show k9 + 4 ≤ 636026; omega, by show n9 + 24 ≤ 7193105; omega⟩  ?_
      refine sv_riS (nI (many (M 0))) (by rw [e9]; exact hm) ?_
      refine sv_iload (i := 6) (x := nI (many (M 0))) C dL_law_197 rfl ?_
      refine sv_icmp_ne C 227 dL_law_199 (by decide) (fun q199 => ?_) (fun q199 => ?_)
      · exact absurd rfl q199
      · refine sv_aload_n (i := 1) (x := sv_r G 14 0) C dL_law_202 rfl rfl ?_
        refine sv_iconst (v := nI 0) C dL_law_203 (by decide) ?_
        refine sv_callV (as := [_]) (rest := []) C (lk_count l G _ _ _ rfl i3.2.2.2.2.1 0 (by decide) hd3 i3.2.2.2.1) fX5_count kw_293 (sv_recv14 C) ⟨Nat.le_of_ble_eq_true rfl, Nat.le_of_ble_eq_true rfl⟩ (Nat.le_of_ble_eq_true rfl) dL_law_204 ⟨by show k9 + 4 ≤ 636026; omega, by show n9 + 24 ≤ 7193105; omega⟩  ?_
        refine sv_riS (M 0 4) (by rw [e9]; rfl) ?_
        refine sv_iload (i := 7) (x := M 0 4) C dL_law_207 rfl ?_
        refine sv_icmp_ne C 227 dL_law_209 (by decide) (fun q209 => ?_) (fun q209 => ?_)
        · exact absurd rfl q209
        · refine sv_aload_n (i := 1) (x := sv_r G 14 0) C dL_law_212 rfl rfl ?_
          refine sv_bipush (v := nI 6) C dL_law_213 (by decide) ?_
          refine sv_callV (as := [_]) (rest := []) C (lk_count l G _ _ _ rfl i3.2.2.2.2.1 6 (by decide) hd3 i3.2.2.2.1) fX5_count kw_293 (sv_recv14 C) ⟨Nat.le_of_ble_eq_true rfl, Nat.le_of_ble_eq_true rfl⟩ (Nat.le_of_ble_eq_true rfl) dL_law_215 ⟨by show k9 + 4 ≤ 636026; omega, by show n9 + 24 ≤ 7193105; omega⟩  ?_
          refine sv_riS (eng (M 0)) (by rw [e9]; rfl) ?_
          refine sv_iload (i := 10) (x := eng (M 0)) C dL_law_218 rfl ?_
          refine sv_icmp_ne C 227 dL_law_220 (by decide) (fun q220 => ?_) (fun q220 => ?_)
          · exact absurd rfl q220
          · exact k223

end LWB
section LWE
variable {p : Program} {l : Launch} {e : Env} {s : State} {m : MethodId} {below : List Frame} {meth : Method} {c : Code} {G : sv_G} {o : Int64}
theorem lw_end (C : sv_C p l s m #[Value.ref (sv_b G)] meth c code 19 RL G) (hr : meth.sig.returnType = ret) (hlocks : meth.locks = false) (hG : G.1 = s.heap.size) {k n : Nat} {Wd : Heap → Prop} {lv : List (Nat × Value)} (hk : k ≤ 636026) (hn : n ≤ 7193105) : sv_V p l e room_1 s m #[Value.ref (sv_b G)] below meth c 19 G (lw_Z below #[Value.ref (sv_b G)] s) k n Wd 498 lv [] := by
  refine sv_iconst (v := 1) C dL_law_498 (by decide) ?_
  refine sv_goto C 503 dL_law_499 (by decide) ?_
  intro H locs ls h1 h2 h3
  refine va_forget (fun q hq => by have h9 : G.1 ≤ q.base := h2.2.2 q hq; omega) ?_
  refine W.widen hk hn ?_
  refine W.base ?_
  exact lw_ret (d0 := s.drawn) (Drawn.sameBut.refl s.drawn lw_cs) C.1 C.2.1 hr hlocks dL_law_503
set_option maxHeartbeats 4000000 in
set_option maxRecDepth 100000 in
/-- behind the turns -/
theorem lw_fin (C : sv_C p l s m #[Value.ref (sv_b G)] meth c code 19 RL G) (hr : meth.sig.returnType = ret) (hlocks : meth.locks = false) (hG : G.1 = s.heap.size) (hL : sv_L G ≤ 260) (j T : Nat) {k9 n9 z od hd CC BB : Nat} {M : sv_M} (hk9 : k9 ≤ 1000) (hn9 : n9 ≤ 10000) (h : inw CC BB od hd M) : sv_V p l e room_1 s m #[Value.ref (sv_b G)] below meth c 19 G (lw_Z below #[Value.ref (sv_b G)] s) k9 n9 (sv_W G z M o) 413 [(0, .ref (sv_b G)), (1, .ref (sv_r G 14 0)), (2, .int (nI 1)), (3, .int (nI T)), (4, .int (nI j))] [] := by
  have hs := h.2.2.2.2.1
  have h1 := h.2.2.2.1
  obtain ⟨_, _, b6, b7, _⟩ := vd_many hs.1
  have hsn := hs.2.2.2.2.2.2.1
  have hbk := bkN_le (M 0) 8
  have hf := lo_lt (cel G 1) (n := 8) (by decide)
  have ht7 := lo_lt (cel G 2) (n := 7) (by decide)
  obtain ⟨f, ef⟩ : ∃ f, lo (cel G 1) 8 = f := ⟨_, rfl⟩
  obtain ⟨t, et⟩ : ∃ t, (f + 1 + lo (cel G 2) 7) % 8 = t := ⟨_, rfl⟩
  rw [ef] at hf
  have ht : t < 8 := by omega
  have hft : f ≠ t := by omega
  refine sv_aload_n (i := 0) (x := sv_b G) C dL_law_413 rfl rfl ?_
  refine sv_iconst (v := nI 1) C dL_law_414 (by decide) ?_
  refine sv_callS (as := [_, _]) (rest := []) C (met_cell l G _ 1 hL (by omega)) fL_cell kw_441 ⟨Nat.le_of_ble_eq_true rfl, Nat.le_of_ble_eq_true rfl⟩ (Nat.le_of_ble_eq_true rfl) dL_law_415 ⟨by show k9 ≤ 636026; omega, by show n9 ≤ 7193105; omega⟩  ?_
  refine sv_riS (cel G 1) rfl ?_
  refine sv_bipush (v := nI 8) C dL_law_418 (by decide) ?_
  refine sv_callS (as := [_, _]) (rest := []) C (met_low l G _ (cel G 1) 8 (by decide) (by decide)) fL_low kw_437 ⟨Nat.le_of_ble_eq_true rfl, Nat.le_of_ble_eq_true rfl⟩ (Nat.le_of_ble_eq_true rfl) dL_law_420 ⟨by show k9 ≤ 636026; omega, by show n9 ≤ 7193105; omega⟩  ?_
  refine sv_riN f (by rw [ef]) ?_
  refine sv_istore (i := 4) C [(0, .ref (sv_b G)), (1, .ref (sv_r G 14 0)), (2, .int (nI 1)), (3, .int (nI T)), (4, .int (nI f))] dL_law_423 (by decide) rfl ?_
  refine sv_iload (i := 4) (x := nI f) C dL_law_425 rfl ?_
  refine sv_iconst (v := nI 1) C dL_law_427 (by decide) ?_
  refine sv_iadd C dL_law_428 ?_
  refine sv_set (v' := .int (nI (f + 1))) (congrArg Value.int (nI_add _ _)) ?_
  refine sv_aload_n (i := 0) (x := sv_b G) C dL_law_429 rfl rfl ?_
  refine sv_iconst (v := nI 2) C dL_law_430 (by decide) ?_
  refine sv_callS (as := [_, _]) (rest := [_]) C (met_cell l G _ 2 hL (by omega)) fL_cell kw_441 ⟨Nat.le_of_ble_eq_true rfl, Nat.le_of_ble_eq_true rfl⟩ (Nat.le_of_ble_eq_true rfl) dL_law_431 ⟨by show k9 ≤ 636026; omega, by show n9 ≤ 7193105; omega⟩  ?_
  refine sv_riS (cel G 2) rfl ?_
  refine sv_bipush (v := nI 7) C dL_law_434 (by decide) ?_
  refine sv_callS (as := [_, _]) (rest := [_]) C (met_low l G _ (cel G 2) 7 (by decide) (by decide)) fL_low kw_437 ⟨Nat.le_of_ble_eq_true rfl, Nat.le_of_ble_eq_true rfl⟩ (Nat.le_of_ble_eq_true rfl) dL_law_436 ⟨by show k9 ≤ 636026; omega, by show n9 ≤ 7193105; omega⟩  ?_
  refine sv_riN (lo (cel G 2) 7) rfl ?_
  refine sv_iadd C dL_law_439 ?_
  refine sv_set (v' := .int (nI (f + 1 + (lo (cel G 2) 7)))) (congrArg Value.int (nI_add _ _)) ?_
  refine sv_bipush (v := nI 8) C dL_law_440 (by decide) ?_
  refine sv_irem C dL_law_442 (by decide) ?_
  refine sv_set (v' := .int (nI t)) (congrArg Value.int (by rw [← et]; exact pk_rem (a := f + 1 + lo (cel G 2) 7) (d := 8) (by omega) (by decide) (by decide))) ?_
  refine sv_istore (i := 5) C [(0, .ref (sv_b G)), (1, .ref (sv_r G 14 0)), (2, .int (nI 1)), (3, .int (nI T)), (4, .int (nI f)), (5, .int (nI t))] dL_law_443 (by decide) rfl ?_
  refine sv_iload_n (i := 2) (x := nI 1) C dL_law_445 rfl rfl ?_
  refine sv_if_eq C 502 dL_law_446 (by decide) (fun q446 => ?_) (fun q446 => ?_)
  · exact absurd q446 (by decide)
  · refine sv_aload_n (i := 1) (x := sv_r G 14 0) C dL_law_449 rfl rfl ?_
    refine sv_iload (i := 4) (x := nI f) C dL_law_450 rfl ?_
    refine sv_iload (i := 5) (x := nI t) C dL_law_452 rfl ?_
    refine sv_callV (as := [_, _]) (rest := []) C (lk_dark l G _ _ _ rfl hs f t hf ht hft) fX5_dark kw_405 (sv_recv14 C) ⟨Nat.le_of_ble_eq_true rfl, Nat.le_of_ble_eq_true rfl⟩ (Nat.le_of_ble_eq_true rfl) dL_law_454 ⟨by show k9 ≤ 636026; omega, by show n9 ≤ 7193105; omega⟩  ?_
    refine sv_ri (fun v454 e454 => ?_)
    refine sv_exW (fun y1 => ?_)
    refine sv_if_lt C 502 dL_law_457 (by decide) (fun q457 => ?_) (fun q457 => ?_)
    · exact absurd (e454 ▸ q457) (dkw_nn _ _ _ _)
    · have k487 : (asd (M 0) ∨ M 0 6 = 1 ∨ M 0 7 = 1) → sv_V p l e room_1 s m #[Value.ref (sv_b G)] below meth c 19 G (lw_Z below #[Value.ref (sv_b G)] s) k9 n9 (sv_W G z (sv_u M 1 y1) o) 487 [(0, .ref (sv_b G)), (1, .ref (sv_r G 14 0)), (2, .int (nI 1)), (3, .int (nI T)), (4, .int (nI f)), (5, .int (nI t))] [] := by
        intro hq9
        refine sv_aload_n (i := 1) (x := sv_r G 14 0) C dL_law_487 rfl rfl ?_
        refine sv_iload (i := 4) (x := nI f) C dL_law_488 rfl ?_
        refine sv_iload (i := 5) (x := nI t) C dL_law_490 rfl ?_
        refine sv_callV (as := [_, _]) (rest := []) C (lk_dark l G _ _ _ (sv_un (by decide)) hs f t hf ht hft) fX5_dark kw_405 (sv_recv14 C) ⟨Nat.le_of_ble_eq_true rfl, Nat.le_of_ble_eq_true rfl⟩ (Nat.le_of_ble_eq_true rfl) dL_law_492 ⟨by show k9 ≤ 636026; omega, by show n9 ≤ 7193105; omega⟩  ?_
        refine sv_riS 0 (dkw_0 hs.1 hs.2.1 hs.2.2.2.2.2.1 hf ht hq9) ?_
        refine sv_exW (fun y2 => ?_)
        refine sv_if_ne C 502 dL_law_495 (by decide) (fun q495 => ?_) (fun q495 => ?_)
        · exact absurd rfl q495
        · exact lw_end C hr hlocks hG (by omega) (by omega)
      refine sv_aload_n (i := 1) (x := sv_r G 14 0) C dL_law_460 rfl rfl ?_
      refine sv_bipush (v := nI 9) C dL_law_461 (by decide) ?_
      refine sv_callV (as := [_]) (rest := []) C (lk_count l G _ _ _ (sv_un (by decide)) hs 9 (by decide) hd (by rw [sv_un (by decide)]; exact h1)) fX5_count kw_293 (sv_recv14 C) ⟨Nat.le_of_ble_eq_true rfl, Nat.le_of_ble_eq_true rfl⟩ (Nat.le_of_ble_eq_true rfl) dL_law_463 ⟨by show k9 ≤ 636026; omega, by show n9 ≤ 7193105; omega⟩  ?_
      refine sv_riN (bkN (M 0) 8) (bk_eq hsn) ?_
      refine sv_if_le C 487 dL_law_466 (by decide) (fun q466 => ?_) (fun q466 => ?_)
      · exact k487 (Or.inl (asd_bk hsn (by
          rcases Nat.eq_zero_or_pos (bkN (M 0) 8) with q | q
          · exact q
          · exact absurd q466 (nI_nle q (by omega)))))
      · refine sv_aload_n (i := 1) (x := sv_r G 14 0) C dL_law_469 rfl rfl ?_
        refine sv_bipush (v := nI 7) C dL_law_470 (by decide) ?_
        refine sv_callV (as := [_]) (rest := []) C (lk_count l G _ _ _ (sv_un (by decide)) hs 7 (by decide) hd (by rw [sv_un (by decide)]; exact h1)) fX5_count kw_293 (sv_recv14 C) ⟨Nat.le_of_ble_eq_true rfl, Nat.le_of_ble_eq_true rfl⟩ (Nat.le_of_ble_eq_true rfl) dL_law_472 ⟨by show k9 ≤ 636026; omega, by show n9 ≤ 7193105; omega⟩  ?_
        refine sv_riS (M 0 6) rfl ?_
        refine sv_if_ne C 487 dL_law_475 (by decide) (fun q475 => ?_) (fun q475 => ?_)
        · exact k487 (Or.inr (Or.inl (b6.resolve_left q475)))
        · refine sv_aload_n (i := 1) (x := sv_r G 14 0) C dL_law_478 rfl rfl ?_
          refine sv_bipush (v := nI 8) C dL_law_479 (by decide) ?_
          refine sv_callV (as := [_]) (rest := []) C (lk_count l G _ _ _ (sv_un (by decide)) hs 8 (by decide) hd (by rw [sv_un (by decide)]; exact h1)) fX5_count kw_293 (sv_recv14 C) ⟨Nat.le_of_ble_eq_true rfl, Nat.le_of_ble_eq_true rfl⟩ (Nat.le_of_ble_eq_true rfl) dL_law_481 ⟨by show k9 ≤ 636026; omega, by show n9 ≤ 7193105; omega⟩  ?_
          refine sv_riS (M 0 7) rfl ?_
          refine sv_if_eq C 498 dL_law_484 (by decide) (fun q484 => ?_) (fun q484 => ?_)
          · exact lw_end C hr hlocks hG (by omega) (by omega)
          · exact k487 (Or.inr (Or.inr (b7.resolve_left q484)))

end LWE
