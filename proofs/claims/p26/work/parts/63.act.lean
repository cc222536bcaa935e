/-! the law: one act -/
/-- what an act of sort s tells; what it leaves -/
def acR (M : sv_M) (hd m s : Nat) (a b : Int32) : Int32 :=
  if s < 5 then (if m < 6 then M 0 5 else (-3))
  else if s < 10 then dks (passv (1 + lo a 20) (M 0)) - dks (M 0)
  else if s < 11 then (if trnC (M 0) m (nI (lo a 12)) (nI (lo b 8)) = 0 then M 0 (4 * (plF (M 0) (nI (lo a 12)) m 0).toNatClampNeg + 60) else (-1))
  else if s < 13 then M 0 (6 * lo a 8 + 9)
  else if s < 15 then M 0 (6 * lo a 8 + 10)
  else if s < 16 then M 0 6
  else if s < 17 then M 0 7
  else if s < 18 then M 0 (lo a 2)
  else if s < 19 then (if lo a 2 = 0 then M 0 2 else M 0 3)
  else (if 0 < hd then nI (hd - 1) else (-3))
def acM (M : sv_M) (od hd m s : Nat) (a b : Int32) : sv_M :=
  if s < 5 then (if m < 6 then sv_u (sav od hd M) 0 (entv m (nI (lo a 8)) (nI ((lo a 8 + 1 + lo b 7) % 8)) (M 0 3) (M 0)) else M)
  else if s < 10 then (sv_u (sav od hd M) 0 (passv (1 + lo a 20) (M 0)))
  else if s < 11 then (if trnC (M 0) m (nI (lo a 12)) (nI (lo b 8)) = 0 then sv_u (sav od hd M) 0 (trnv (plF (M 0) (nI (lo a 12)) m 0).toNatClampNeg (nI (lo b 8)) (M 0)) else M)
  else if s < 13 then (sv_u (sav od hd M) 0 (sw (M 0 0) (lo a 8) (M 0)))
  else if s < 15 then (sv_u (sav od hd M) 0 (upd (M 0) (6 * lo a 8 + 10) (if 0 < lo b 3 then 1 else 0)))
  else if s < 16 then (sv_u (sav od hd M) 0 (upd (M 0) 6 (if lo b 2 = 0 then 1 else 0)))
  else if s < 17 then (sv_u (sav od hd M) 0 (firv (if lo b 3 = 0 then 1 else 0) (M 0)))
  else if s < 18 then (sv_u (sav od hd M) 0 (upd (M 0) (lo a 2) (nI (1 + lo b 40))))
  else if s < 19 then (if lo a 2 = 0 then sv_u (sav od hd M) 0 (upd (M 0) 2 (nI (lo b 2))) else sv_u (sav od hd M) 0 (upd (M 0) 3 (nI (1 + lo b 12))))
  else if 0 < hd then rsM (hd - 1) ((od + (hd - 1)) % 6) M else M
theorem acR_5 {M : sv_M} {hd m s : Nat} {a b : Int32} (h0 : 0 ≤ s) (h : s < 5) : acR M hd m s a b = (if m < 6 then M 0 5 else (-3)) := by
  unfold acR
  rw [if_pos h]
theorem acM_5 {M : sv_M} {od hd m s : Nat} {a b : Int32} (h0 : 0 ≤ s) (h : s < 5) : acM M od hd m s a b = if m < 6 then sv_u (sav od hd M) 0 (entv m (nI (lo a 8)) (nI ((lo a 8 + 1 + lo b 7) % 8)) (M 0 3) (M 0)) else M := by
  unfold acM
  rw [if_pos h]
theorem acR_10 {M : sv_M} {hd m s : Nat} {a b : Int32} (h0 : 5 ≤ s) (h : s < 10) : acR M hd m s a b = dks (passv (1 + lo a 20) (M 0)) - dks (M 0) := by
  unfold acR
  rw [if_neg (by omega), if_pos h]
theorem acM_10 {M : sv_M} {od hd m s : Nat} {a b : Int32} (h0 : 5 ≤ s) (h : s < 10) : acM M od hd m s a b = sv_u (sav od hd M) 0 (passv (1 + lo a 20) (M 0)) := by
  unfold acM
  rw [if_neg (by omega), if_pos h]
theorem acR_11 {M : sv_M} {hd m s : Nat} {a b : Int32} (h0 : 10 ≤ s) (h : s < 11) : acR M hd m s a b = (if trnC (M 0) m (nI (lo a 12)) (nI (lo b 8)) = 0 then M 0 (4 * (plF (M 0) (nI (lo a 12)) m 0).toNatClampNeg + 60) else (-1)) := by
  unfold acR
  rw [if_neg (by omega), if_neg (by omega), if_pos h]
theorem acM_11 {M : sv_M} {od hd m s : Nat} {a b : Int32} (h0 : 10 ≤ s) (h : s < 11) : acM M od hd m s a b = if trnC (M 0) m (nI (lo a 12)) (nI (lo b 8)) = 0 then sv_u (sav od hd M) 0 (trnv (plF (M 0) (nI (lo a 12)) m 0).toNatClampNeg (nI (lo b 8)) (M 0)) else M := by
  unfold acM
  rw [if_neg (by omega), if_neg (by omega), if_pos h]
theorem acR_13 {M : sv_M} {hd m s : Nat} {a b : Int32} (h0 : 11 ≤ s) (h : s < 13) : acR M hd m s a b = M 0 (6 * lo a 8 + 9) := by
  unfold acR
  rw [if_neg (by omega), if_neg (by omega), if_neg (by omega), if_pos h]
theorem acM_13 {M : sv_M} {od hd m s : Nat} {a b : Int32} (h0 : 11 ≤ s) (h : s < 13) : acM M od hd m s a b = sv_u (sav od hd M) 0 (sw (M 0 0) (lo a 8) (M 0)) := by
  unfold acM
  rw [if_neg (by omega), if_neg (by omega), if_neg (by omega), if_pos h]
theorem acR_15 {M : sv_M} {hd m s : Nat} {a b : Int32} (h0 : 13 ≤ s) (h : s < 15) : acR M hd m s a b = M 0 (6 * lo a 8 + 10) := by
  unfold acR
  rw [if_neg (by omega), if_neg (by omega), if_neg (by omega), if_neg (by omega), if_pos h]
theorem acM_15 {M : sv_M} {od hd m s : Nat} {a b : Int32} (h0 : 13 ≤ s) (h : s < 15) : acM M od hd m s a b = sv_u (sav od hd M) 0 (upd (M 0) (6 * lo a 8 + 10) (if 0 < lo b 3 then 1 else 0)) := by
  unfold acM
  rw [if_neg (by omega), if_neg (by omega), if_neg (by omega), if_neg (by omega), if_pos h]
theorem acR_16 {M : sv_M} {hd m s : Nat} {a b : Int32} (h0 : 15 ≤ s) (h : s < 16) : acR M hd m s a b = M 0 6 := by
  unfold acR
  rw [if_neg (by omega), if_neg (by omega), if_neg (by omega), if_neg (by omega), if_neg (by omega), if_pos h]
theorem acM_16 {M : sv_M} {od hd m s : Nat} {a b : Int32} (h0 : 15 ≤ s) (h : s < 16) : acM M od hd m s a b = sv_u (sav od hd M) 0 (upd (M 0) 6 (if lo b 2 = 0 then 1 else 0)) := by
  unfold acM
  rw [if_neg (by omega), if_neg (by omega), if_neg (by omega), if_neg (by omega), if_neg (by omega), if_pos h]
theorem acR_17 {M : sv_M} {hd m s : Nat} {a b : Int32} (h0 : 16 ≤ s) (h : s < 17) : acR M hd m s a b = M 0 7 := by
  unfold acR
  rw [if_neg (by omega), if_neg (by omega), if_neg (by omega), if_neg (by omega), if_neg (by omega), if_neg (by omega), if_pos h]
theorem acM_17 {M : sv_M} {od hd m s : Nat} {a b : Int32} (h0 : 16 ≤ s) (h : s < 17) : acM M od hd m s a b = sv_u (sav od hd M) 0 (firv (if lo b 3 = 0 then 1 else 0) (M 0)) := by
  unfold acM
  rw [if_neg (by omega), if_neg (by omega), if_neg (by omega), if_neg (by omega), if_neg (by omega), if_neg (by omega), if_pos h]
theorem acR_18 {M : sv_M} {hd m s : Nat} {a b : Int32} (h0 : 17 ≤ s) (h : s < 18) : acR M hd m s a b = M 0 (lo a 2) := by
  unfold acR
  rw [if_neg (by omega), if_neg (by omega), if_neg (by omega), if_neg (by omega), if_neg (by omega), if_neg (by omega), if_neg (by omega), if_pos h]
theorem acM_18 {M : sv_M} {od hd m s : Nat} {a b : Int32} (h0 : 17 ≤ s) (h : s < 18) : acM M od hd m s a b = sv_u (sav od hd M) 0 (upd (M 0) (lo a 2) (nI (1 + lo b 40))) := by
  unfold acM
  rw [if_neg (by omega), if_neg (by omega), if_neg (by omega), if_neg (by omega), if_neg (by omega), if_neg (by omega), if_neg (by omega), if_pos h]
theorem acR_19 {M : sv_M} {hd m s : Nat} {a b : Int32} (h0 : 18 ≤ s) (h : s < 19) : acR M hd m s a b = (if lo a 2 = 0 then M 0 2 else M 0 3) := by
  unfold acR
  rw [if_neg (by omega), if_neg (by omega), if_neg (by omega), if_neg (by omega), if_neg (by omega), if_neg (by omega), if_neg (by omega), if_neg (by omega), if_pos h]
theorem acM_19 {M : sv_M} {od hd m s : Nat} {a b : Int32} (h0 : 18 ≤ s) (h : s < 19) : acM M od hd m s a b = if lo a 2 = 0 then sv_u (sav od hd M) 0 (upd (M 0) 2 (nI (lo b 2))) else sv_u (sav od hd M) 0 (upd (M 0) 3 (nI (1 + lo b 12))) := by
  unfold acM
  rw [if_neg (by omega), if_neg (by omega), if_neg (by omega), if_neg (by omega), if_neg (by omega), if_neg (by omega), if_neg (by omega), if_neg (by omega), if_pos h]
theorem acR_20 {M : sv_M} {hd m s : Nat} {a b : Int32} (h0 : 19 ≤ s) (h : s < 20) : acR M hd m s a b = (if 0 < hd then nI (hd - 1) else (-3)) := by
  unfold acR
  rw [if_neg (by omega), if_neg (by omega), if_neg (by omega), if_neg (by omega), if_neg (by omega), if_neg (by omega), if_neg (by omega), if_neg (by omega), if_neg (by omega)]
theorem acM_20 {M : sv_M} {od hd m s : Nat} {a b : Int32} (h0 : 19 ≤ s) (h : s < 20) : acM M od hd m s a b = if 0 < hd then rsM (hd - 1) ((od + (hd - 1)) % 6) M else M := by
  unfold acM
  rw [if_neg (by omega), if_neg (by omega), if_neg (by omega), if_neg (by omega), if_neg (by omega), if_neg (by omega), if_neg (by omega), if_neg (by omega), if_neg (by omega)]
theorem sv_Wy_eq {G : sv_G} {X Y : sv_M} {o : Int64} (e : X = Y) : ∀ H, sv_Wy G (fun M' => M' = X) o H → sv_Wy G (fun M' => M' = Y) o H := fun _ h => e ▸ h
theorem sel_lo {n : Nat} (h : n < 2147483648) : (if nI n ≤ 0 then nI 0 else nI 1) = if 0 < n then 1 else 0 := by
  rcases Nat.eq_zero_or_pos n with q | q
  · rw [q]
    decide
  · rw [if_neg (nI_nle q h), if_pos q]
    rfl
theorem sel_l0 {n : Nat} (h : n < 2147483648) : (if ¬ nI n = 0 then nI 0 else nI 1) = if n = 0 then 1 else 0 := by
  rcases Nat.eq_zero_or_pos n with q | q
  · rw [q]
    decide
  · rw [if_pos (nI_ne0 q h), if_neg (by omega)]
    rfl
theorem set_a {f v : Nat} (hf : f < 2) (h1 : 1 ≤ v) (h2 : v ≤ 40) : ¬ nI v < sv_F 1 f ∧ nI v ≤ sv_F 2 f := by
  rcases (show f = 0 ∨ f = 1 by omega) with rfl | rfl
  · rw [show sv_F 1 0 = nI 1 by decide, show sv_F 2 0 = nI 200 by decide]
    exact ⟨nI_nlt h1 (by omega), nI_le (by omega) (by decide)⟩
  · rw [show sv_F 1 1 = nI 0 by decide, show sv_F 2 1 = nI 60 by decide]
    exact ⟨nI_nlt (by omega) (by omega), nI_le (by omega) (by decide)⟩
theorem set_b {v : Nat} (h2 : v < 2) : ¬ nI v < sv_F 1 2 ∧ nI v ≤ sv_F 2 2 := by
  rw [show sv_F 1 2 = nI 0 by decide, show sv_F 2 2 = nI 1 by decide]
  exact ⟨nI_nlt (by omega) (by omega), nI_le (by omega) (by decide)⟩
theorem set_c {v : Nat} (h1 : 1 ≤ v) (h2 : v ≤ 12) : ¬ nI v < sv_F 1 3 ∧ nI v ≤ sv_F 2 3 := by
  rw [show sv_F 1 3 = nI 1 by decide, show sv_F 2 3 = nI 60 by decide]
  exact ⟨nI_nlt h1 (by omega), nI_le (by omega) (by decide)⟩
theorem b01 {P : Prop} (d : Decidable P) : (if P then (1 : Int32) else 0) = 0 ∨ (if P then (1 : Int32) else 0) = 1 := by
  by_cases h : P
  · rw [if_pos h]
    exact Or.inr rfl
  · rw [if_neg h]
    exact Or.inl rfl
theorem kc_come : Cond.codeWith yL_come method_4_code 4 (some .int) [(0, 6, 7, 15)] ∈ sv_tbl := sv_in 478 (by decide +kernel) rfl
theorem kc_turn : Cond.codeWith yL_turn method_6_code 4 (some .int) [(0, 6, 7, 24)] ∈ sv_tbl := sv_in 515 (by decide +kernel) rfl
theorem kc_undo : Cond.codeWith yL_undo method_5_code 2 (some .int) [(0, 4, 5, 15)] ∈ sv_tbl := sv_in 555 (by decide +kernel) rfl
set_option maxHeartbeats 4000000 in
set_option maxRecDepth 100000 in
theorem met_act (l : Launch) (G : sv_G) (hl : l.stackTraces = false) (z : Nat) (M : sv_M) (o : Int64) (hL : sv_L G ≤ 260) (k9 : Nat) (hk9 : k9 < 1000) (a b : Int32) (s9 : Nat) (hs9 : s9 < 20) (ea : cel G (k9 + 1) = a) (eb : cel G (k9 + 2) = b) (es : lo (cel G k9) 20 = s9) (od hd : Nat) (hod : od < 6) (h0 : M 8 0 = nI od) (h1 : M 8 1 = nI hd) (hd6 : hd ≤ 6) (b6 : M 0 6 = 0 ∨ M 0 6 = 1) (b7 : M 0 7 = 0 ∨ M 0 7 = 1) (m : Nat) (hm : M 0 57 = nI m) (hm7 : m ≤ 6) (hv : vd (M 0)) (u6 : 0 < hd → (M (2 + (od + (hd - 1)) % 6) 6 = 0 ∨ M (2 + (od + (hd - 1)) % 6) 6 = 1)) (u7 : 0 < hd → (M (2 + (od + (hd - 1)) % 6) 7 = 0 ∨ M (2 + (od + (hd - 1)) % 6) 7 = 1)) : Met l yL_act [.code yL_act cL_act 6 (some .int)] (sv_rm 10 4 24) (sv_Pc G (sv_W G z M o) [.ref (sv_r G 14 0), .ref (sv_b G), .int (nI k9)]) (sv_Qc G (sv_Wy G (fun M' => M' = acM M od hd m s9 a b) o) (some (.int (acR M hd m s9 a b)))) 4 24 (sv_A G) := by
  refine sv_ofW (by decide) kw_475 (Nat.le_of_ble_eq_true rfl) ?_
  intro p e s mth args below meth c hr C _
  refine sv_sub (lv' := [(0, .ref (sv_r G 14 0)), (1, .ref (sv_b G)), (2, .int (nI k9))]) rfl ?_
  refine sv_aload_n (i := 1) (x := sv_b G) C dL_act_0 rfl rfl ?_
  refine sv_iload_n (i := 2) (x := nI k9) C dL_act_1 rfl rfl ?_
  refine sv_iconst (v := nI 1) C dL_act_2 (by decide) ?_
  refine sv_iadd C dL_act_3 ?_
  refine sv_set (v' := .int (nI (k9 + 1))) (congrArg Value.int (nI_add _ _)) ?_
  refine sv_callS (as := [_, _]) (rest := []) C (met_cell l G _ (k9 + 1) hL (by omega)) fL_cell kw_441 ⟨Nat.le_of_ble_eq_true rfl, Nat.le_of_ble_eq_true rfl⟩ (Nat.le_of_ble_eq_true rfl) dL_act_4 ⟨Nat.zero_le _, Nat.zero_le _⟩  ?_
  refine sv_riS a ea ?_
  refine sv_istore_n (i := 3) C [(0, .ref (sv_r G 14 0)), (1, .ref (sv_b G)), (2, .int (nI k9)), (3, .int a)] dL_act_7 rfl (by decide) rfl ?_
  refine sv_aload_n (i := 1) (x := sv_b G) C dL_act_8 rfl rfl ?_
  refine sv_iload_n (i := 2) (x := nI k9) C dL_act_9 rfl rfl ?_
  refine sv_iconst (v := nI 2) C dL_act_10 (by decide) ?_
  refine sv_iadd C dL_act_11 ?_
  refine sv_set (v' := .int (nI (k9 + 2))) (congrArg Value.int (nI_add _ _)) ?_
  refine sv_callS (as := [_, _]) (rest := []) C (met_cell l G _ (k9 + 2) hL (by omega)) fL_cell kw_441 ⟨Nat.le_of_ble_eq_true rfl, Nat.le_of_ble_eq_true rfl⟩ (Nat.le_of_ble_eq_true rfl) dL_act_12 ⟨Nat.zero_le _, Nat.zero_le _⟩  ?_
  refine sv_riS b eb ?_
  refine sv_istore (i := 4) C [(0, .ref (sv_r G 14 0)), (1, .ref (sv_b G)), (2, .int (nI k9)), (3, .int a), (4, .int b)] dL_act_15 (by decide) rfl ?_
  refine sv_iload_n (i := 3) (x := a) C dL_act_17 rfl rfl ?_
  refine sv_bipush (v := nI 8) C dL_act_18 (by decide) ?_
  refine sv_callS (as := [_, _]) (rest := []) C (met_low l G _ a 8 (by decide) (by decide)) fL_low kw_437 ⟨Nat.le_of_ble_eq_true rfl, Nat.le_of_ble_eq_true rfl⟩ (Nat.le_of_ble_eq_true rfl) dL_act_20 ⟨Nat.zero_le _, Nat.zero_le _⟩  ?_
  refine sv_riN (lo a 8) rfl ?_
  refine sv_istore (i := 5) C [(0, .ref (sv_r G 14 0)), (1, .ref (sv_b G)), (2, .int (nI k9)), (3, .int a), (4, .int b), (5, .int (nI (lo a 8)))] dL_act_23 (by decide) rfl ?_
  refine sv_aload_n (i := 1) (x := sv_b G) C dL_act_25 rfl rfl ?_
  refine sv_iload_n (i := 2) (x := nI k9) C dL_act_26 rfl rfl ?_
  refine sv_callS (as := [_, _]) (rest := []) C (met_cell l G _ k9 hL (by omega)) fL_cell kw_441 ⟨Nat.le_of_ble_eq_true rfl, Nat.le_of_ble_eq_true rfl⟩ (Nat.le_of_ble_eq_true rfl) dL_act_27 ⟨Nat.zero_le _, Nat.zero_le _⟩  ?_
  refine sv_riS (cel G k9) rfl ?_
  refine sv_bipush (v := nI 20) C dL_act_30 (by decide) ?_
  refine sv_callS (as := [_, _]) (rest := []) C (met_low l G _ (cel G k9) 20 (by decide) (by decide)) fL_low kw_437 ⟨Nat.le_of_ble_eq_true rfl, Nat.le_of_ble_eq_true rfl⟩ (Nat.le_of_ble_eq_true rfl) dL_act_32 ⟨Nat.zero_le _, Nat.zero_le _⟩  ?_
  refine sv_riN s9 (by rw [es]) ?_
  have l8 := lo_lt a (n := 8) (by decide)
  have l20 := lo_lt a (n := 20) (by decide)
  have l12 := lo_lt a (n := 12) (by decide)
  have l2 := lo_lt a (n := 2) (by decide)
  have m7 := lo_lt b (n := 7) (by decide)
  have m8 := lo_lt b (n := 8) (by decide)
  have m3 := lo_lt b (n := 3) (by decide)
  have m2 := lo_lt b (n := 2) (by decide)
  have m40 := lo_lt b (n := 40) (by decide)
  have m12 := lo_lt b (n := 12) (by decide)
  rcases (show s9 = 0 ∨ s9 = 1 ∨ s9 = 2 ∨ s9 = 3 ∨ s9 = 4 ∨ s9 = 5 ∨ s9 = 6 ∨ s9 = 7 ∨ s9 = 8 ∨ s9 = 9 ∨ s9 = 10 ∨ s9 = 11 ∨ s9 = 12 ∨ s9 = 13 ∨ s9 = 14 ∨ s9 = 15 ∨ s9 = 16 ∨ s9 = 17 ∨ s9 = 18 ∨ s9 = 19 by omega) with rfl | rfl | rfl | rfl | rfl | rfl | rfl | rfl | rfl | rfl | rfl | rfl | rfl | rfl | rfl | rfl | rfl | rfl | rfl | rfl
  · refine sv_tableIn (off := 89) C 124 dL_act_35 (by decide) (by decide) (by decide) (by decide) ?_
    refine sv_aload_n (i := 0) (x := sv_r G 14 0) C dL_act_124 rfl rfl ?_
    refine sv_iload (i := 5) (x := nI (lo a 8)) C dL_act_125 rfl ?_
    refine sv_iload (i := 5) (x := nI (lo a 8)) C dL_act_127 rfl ?_
    refine sv_iconst (v := nI 1) C dL_act_129 (by decide) ?_
    refine sv_iadd C dL_act_130 ?_
    refine sv_set (v' := .int (nI (lo a 8 + 1))) (congrArg Value.int (nI_add _ _)) ?_
    refine sv_iload (i := 4) (x := b) C dL_act_131 rfl ?_
    refine sv_bipush (v := nI 7) C dL_act_133 (by decide) ?_
    refine sv_callS (as := [_, _]) (rest := [_, _, _]) C (met_low l G _ b 7 (by decide) (by decide)) fL_low kw_437 ⟨Nat.le_of_ble_eq_true rfl, Nat.le_of_ble_eq_true rfl⟩ (Nat.le_of_ble_eq_true rfl) dL_act_135 ⟨Nat.zero_le _, Nat.zero_le _⟩  ?_
    refine sv_riN (lo b 7) rfl ?_
    refine sv_iadd C dL_act_138 ?_
    refine sv_set (v' := .int (nI (lo a 8 + 1 + (lo b 7)))) (congrArg Value.int (nI_add _ _)) ?_
    refine sv_bipush (v := nI 8) C dL_act_139 (by decide) ?_
    refine sv_irem C dL_act_141 (by decide) ?_
    refine sv_set (v' := .int (nI ((lo a 8 + 1 + lo b 7) % 8))) (congrArg Value.int (pk_rem (a := lo a 8 + 1 + lo b 7) (d := 8) (by omega) (by decide) (by decide))) ?_
    refine sw_call (as := [_, _, _]) (rest := []) C (met_L_come l G hl _ _ _ (lo a 8) ((lo a 8 + 1 + lo b 7) % 8) (by omega) (by omega) (by omega) od hd hod h0 h1 hd6 b6 b7 m hm hm7) kw_476 kw_477 kw_8 kc_come 3 ⟨by decide, by decide, by decide +kernel⟩ rfl ⟨Nat.le_of_ble_eq_true rfl, Nat.le_of_ble_eq_true rfl⟩ (Nat.le_of_ble_eq_true rfl) dL_act_142 ⟨Nat.le_of_ble_eq_true rfl, Nat.le_of_ble_eq_true rfl⟩ ?_
    refine sv_ri (fun v142 e142 => ?_)
    exact sv_iret C hr dL_act_145 (Nat.le_of_ble_eq_true rfl) (Nat.le_of_ble_eq_true rfl) (by rw [acR_5 (by decide) (by decide)]; exact e142) (sv_Wy_eq (by rw [acM_5 (by decide) (by decide)]))
  · refine sv_tableIn (off := 89) C 124 dL_act_35 (by decide) (by decide) (by decide) (by decide) ?_
    refine sv_aload_n (i := 0) (x := sv_r G 14 0) C dL_act_124 rfl rfl ?_
    refine sv_iload (i := 5) (x := nI (lo a 8)) C dL_act_125 rfl ?_
    refine sv_iload (i := 5) (x := nI (lo a 8)) C dL_act_127 rfl ?_
    refine sv_iconst (v := nI 1) C dL_act_129 (by decide) ?_
    refine sv_iadd C dL_act_130 ?_
    refine sv_set (v' := .int (nI (lo a 8 + 1))) (congrArg Value.int (nI_add _ _)) ?_
    refine sv_iload (i := 4) (x := b) C dL_act_131 rfl ?_
    refine sv_bipush (v := nI 7) C dL_act_133 (by decide) ?_
    refine sv_callS (as := [_, _]) (rest := [_, _, _]) C (met_low l G _ b 7 (by decide) (by decide)) fL_low kw_437 ⟨Nat.le_of_ble_eq_true rfl, Nat.le_of_ble_eq_true rfl⟩ (Nat.le_of_ble_eq_true rfl) dL_act_135 ⟨Nat.zero_le _, Nat.zero_le _⟩  ?_
    refine sv_riN (lo b 7) rfl ?_
    refine sv_iadd C dL_act_138 ?_
    refine sv_set (v' := .int (nI (lo a 8 + 1 + (lo b 7)))) (congrArg Value.int (nI_add _ _)) ?_
    refine sv_bipush (v := nI 8) C dL_act_139 (by decide) ?_
    refine sv_irem C dL_act_141 (by decide) ?_
    refine sv_set (v' := .int (nI ((lo a 8 + 1 + lo b 7) % 8))) (congrArg Value.int (pk_rem (a := lo a 8 + 1 + lo b 7) (d := 8) (by omega) (by decide) (by decide))) ?_
    refine sw_call (as := [_, _, _]) (rest := []) C (met_L_come l G hl _ _ _ (lo a 8) ((lo a 8 + 1 + lo b 7) % 8) (by omega) (by omega) (by omega) od hd hod h0 h1 hd6 b6 b7 m hm hm7) kw_476 kw_477 kw_8 kc_come 3 ⟨by decide, by decide, by decide +kernel⟩ rfl ⟨Nat.le_of_ble_eq_true rfl, Nat.le_of_ble_eq_true rfl⟩ (Nat.le_of_ble_eq_true rfl) dL_act_142 ⟨Nat.le_of_ble_eq_true rfl, Nat.le_of_ble_eq_true rfl⟩ ?_
    refine sv_ri (fun v142 e142 => ?_)
    exact sv_iret C hr dL_act_145 (Nat.le_of_ble_eq_true rfl) (Nat.le_of_ble_eq_true rfl) (by rw [acR_5 (by decide) (by decide)]; exact e142) (sv_Wy_eq (by rw [acM_5 (by decide) (by decide)]))
  · refine sv_tableIn (off := 89) C 124 dL_act_35 (by decide) (by decide) (by decide) (by decide) ?_
    refine sv_aload_n (i := 0) (x := sv_r G 14 0) C dL_act_124 rfl rfl ?_
    refine sv_iload (i := 5) (x := nI (lo a 8)) C dL_act_125 rfl ?_
    refine sv_iload (i := 5) (x := nI (lo a 8)) C dL_act_127 rfl ?_
    refine sv_iconst (v := nI 1) C dL_act_129 (by decide) ?_
    refine sv_iadd C dL_act_130 ?_
    refine sv_set (v' := .int (nI (lo a 8 + 1))) (congrArg Value.int (nI_add _ _)) ?_
    refine sv_iload (i := 4) (x := b) C dL_act_131 rfl ?_
    refine sv_bipush (v := nI 7) C dL_act_133 (by decide) ?_
    refine sv_callS (as := [_, _]) (rest := [_, _, _]) C (met_low l G _ b 7 (by decide) (by decide)) fL_low kw_437 ⟨Nat.le_of_ble_eq_true rfl, Nat.le_of_ble_eq_true rfl⟩ (Nat.le_of_ble_eq_true rfl) dL_act_135 ⟨Nat.zero_le _, Nat.zero_le _⟩  ?_
    refine sv_riN (lo b 7) rfl ?_
    refine sv_iadd C dL_act_138 ?_
    refine sv_set (v' := .int (nI (lo a 8 + 1 + (lo b 7)))) (congrArg Value.int (nI_add _ _)) ?_
    refine sv_bipush (v := nI 8) C dL_act_139 (by decide) ?_
    refine sv_irem C dL_act_141 (by decide) ?_
    refine sv_set (v' := .int (nI ((lo a 8 + 1 + lo b 7) % 8))) (congrArg Value.int (pk_rem (a := lo a 8 + 1 + lo b 7) (d := 8) (by omega) (by decide) (by decide))) ?_
    refine sw_call (as := [_, _, _]) (rest := []) C (met_L_come l G hl _ _ _ (lo a 8) ((lo a 8 + 1 + lo b 7) % 8) (by omega) (by omega) (by omega) od hd hod h0 h1 hd6 b6 b7 m hm hm7) kw_476 kw_477 kw_8 kc_come 3 ⟨by decide, by decide, by decide +kernel⟩ rfl ⟨Nat.le_of_ble_eq_true rfl, Nat.le_of_ble_eq_true rfl⟩ (Nat.le_of_ble_eq_true rfl) dL_act_142 ⟨Nat.le_of_ble_eq_true rfl, Nat.le_of_ble_eq_true rfl⟩ ?_
    refine sv_ri (fun v142 e142 => ?_)
    exact sv_iret C hr dL_act_145 (Nat.le_of_ble_eq_true rfl) (Nat.le_of_ble_eq_true rfl) (by rw [acR_5 (by decide) (by decide)]; exact e142) (sv_Wy_eq (by rw [acM_5 (by decide) (by decide)]))
  · refine sv_tableIn (off := 89) C 124 dL_act_35 (by decide) (by decide) (by decide) (by decide) ?_
    refine sv_aload_n (i := 0) (x := sv_r G 14 0) C dL_act_124 rfl rfl ?_
    refine sv_iload (i := 5) (x := nI (lo a 8)) C dL_act_125 rfl ?_
    refine sv_iload (i := 5) (x := nI (lo a 8)) C dL_act_127 rfl ?_
    refine sv_iconst (v := nI 1) C dL_act_129 (by decide) ?_
    refine sv_iadd C dL_act_130 ?_
    refine sv_set (v' := .int (nI (lo a 8 + 1))) (congrArg Value.int (nI_add _ _)) ?_
    refine sv_iload (i := 4) (x := b) C dL_act_131 rfl ?_
    refine sv_bipush (v := nI 7) C dL_act_133 (by decide) ?_
    refine sv_callS (as := [_, _]) (rest := [_, _, _]) C (met_low l G _ b 7 (by decide) (by decide)) fL_low kw_437 ⟨Nat.le_of_ble_eq_true rfl, Nat.le_of_ble_eq_true rfl⟩ (Nat.le_of_ble_eq_true rfl) dL_act_135 ⟨Nat.zero_le _, Nat.zero_le _⟩  ?_
    refine sv_riN (lo b 7) rfl ?_
    refine sv_iadd C dL_act_138 ?_
    refine sv_set (v' := .int (nI (lo a 8 + 1 + (lo b 7)))) (congrArg Value.int (nI_add _ _)) ?_
    refine sv_bipush (v := nI 8) C dL_act_139 (by decide) ?_
    refine sv_irem C dL_act_141 (by decide) ?_
    refine sv_set (v' := .int (nI ((lo a 8 + 1 + lo b 7) % 8))) (congrArg Value.int (pk_rem (a := lo a 8 + 1 + lo b 7) (d := 8) (by omega) (by decide) (by decide))) ?_
    refine sw_call (as := [_, _, _]) (rest := []) C (met_L_come l G hl _ _ _ (lo a 8) ((lo a 8 + 1 + lo b 7) % 8) (by omega) (by omega) (by omega) od hd hod h0 h1 hd6 b6 b7 m hm hm7) kw_476 kw_477 kw_8 kc_come 3 ⟨by decide, by decide, by decide +kernel⟩ rfl ⟨Nat.le_of_ble_eq_true rfl, Nat.le_of_ble_eq_true rfl⟩ (Nat.le_of_ble_eq_true rfl) dL_act_142 ⟨Nat.le_of_ble_eq_true rfl, Nat.le_of_ble_eq_true rfl⟩ ?_
    refine sv_ri (fun v142 e142 => ?_)
    exact sv_iret C hr dL_act_145 (Nat.le_of_ble_eq_true rfl) (Nat.le_of_ble_eq_true rfl) (by rw [acR_5 (by decide) (by decide)]; exact e142) (sv_Wy_eq (by rw [acM_5 (by decide) (by decide)]))
  · refine sv_tableIn (off := 89) C 124 dL_act_35 (by decide) (by decide) (by decide) (by decide) ?_
    refine sv_aload_n (i := 0) (x := sv_r G 14 0) C dL_act_124 rfl rfl ?_
    refine sv_iload (i := 5) (x := nI (lo a 8)) C dL_act_125 rfl ?_
    refine sv_iload (i := 5) (x := nI (lo a 8)) C dL_act_127 rfl ?_
    refine sv_iconst (v := nI 1) C dL_act_129 (by decide) ?_
    refine sv_iadd C dL_act_130 ?_
    refine sv_set (v' := .int (nI (lo a 8 + 1))) (congrArg Value.int (nI_add _ _)) ?_
    refine sv_iload (i := 4) (x := b) C dL_act_131 rfl ?_
    refine sv_bipush (v := nI 7) C dL_act_133 (by decide) ?_
    refine sv_callS (as := [_, _]) (rest := [_, _, _]) C (met_low l G _ b 7 (by decide) (by decide)) fL_low kw_437 ⟨Nat.le_of_ble_eq_true rfl, Nat.le_of_ble_eq_true rfl⟩ (Nat.le_of_ble_eq_true rfl) dL_act_135 ⟨Nat.zero_le _, Nat.zero_le _⟩  ?_
    refine sv_riN (lo b 7) rfl ?_
    refine sv_iadd C dL_act_138 ?_
    refine sv_set (v' := .int (nI (lo a 8 + 1 + (lo b 7)))) (congrArg Value.int (nI_add _ _)) ?_
    refine sv_bipush (v := nI 8) C dL_act_139 (by decide) ?_
    refine sv_irem C dL_act_141 (by decide) ?_
    refine sv_set (v' := .int (nI ((lo a 8 + 1 + lo b 7) % 8))) (congrArg Value.int (pk_rem (a := lo a 8 + 1 + lo b 7) (d := 8) (by omega) (by decide) (by decide))) ?_
    refine sw_call (as := [_, _, _]) (rest := []) C (met_L_come l G hl _ _ _ (lo a 8) ((lo a 8 + 1 + lo b 7) % 8) (by omega) (by omega) (by omega) od hd hod h0 h1 hd6 b6 b7 m hm hm7) kw_476 kw_477 kw_8 kc_come 3 ⟨by decide, by decide, by decide +kernel⟩ rfl ⟨Nat.le_of_ble_eq_true rfl, Nat.le_of_ble_eq_true rfl⟩ (Nat.le_of_ble_eq_true rfl) dL_act_142 ⟨Nat.le_of_ble_eq_true rfl, Nat.le_of_ble_eq_true rfl⟩ ?_
    refine sv_ri (fun v142 e142 => ?_)
    exact sv_iret C hr dL_act_145 (Nat.le_of_ble_eq_true rfl) (Nat.le_of_ble_eq_true rfl) (by rw [acR_5 (by decide) (by decide)]; exact e142) (sv_Wy_eq (by rw [acM_5 (by decide) (by decide)]))
  · refine sv_tableIn (off := 111) C 146 dL_act_35 (by decide) (by decide) (by decide) (by decide) ?_
    refine sv_aload_n (i := 0) (x := sv_r G 14 0) C dL_act_146 rfl rfl ?_
    refine sv_iconst (v := nI 1) C dL_act_147 (by decide) ?_
    refine sv_iload_n (i := 3) (x := a) C dL_act_148 rfl rfl ?_
    refine sv_bipush (v := nI 20) C dL_act_149 (by decide) ?_
    refine sv_callS (as := [_, _]) (rest := [_, _]) C (met_low l G _ a 20 (by decide) (by decide)) fL_low kw_437 ⟨Nat.le_of_ble_eq_true rfl, Nat.le_of_ble_eq_true rfl⟩ (Nat.le_of_ble_eq_true rfl) dL_act_151 ⟨Nat.zero_le _, Nat.zero_le _⟩  ?_
    refine sv_riN (lo a 20) rfl ?_
    refine sv_iadd C dL_act_154 ?_
    refine sv_set (v' := .int (nI (1 + (lo a 20)))) (congrArg Value.int (nI_add _ _)) ?_
    refine sv_callV (as := [_]) (rest := []) C (met0_pass l G _ _ _ (1 + (lo a 20)) (by omega) (by omega) od hd hod h0 h1 hd6 b6 b7 hv) fX5_pass kw_509 (sv_recv14 C) ⟨Nat.le_of_ble_eq_true rfl, Nat.le_of_ble_eq_true rfl⟩ (Nat.le_of_ble_eq_true rfl) dL_act_155 ⟨Nat.zero_le _, Nat.zero_le _⟩  ?_
    refine sv_ri (fun v155 e155 => ?_)
    exact sv_iret C hr dL_act_158 (Nat.le_of_ble_eq_true rfl) (Nat.le_of_ble_eq_true rfl) (by rw [acR_10 (by decide) (by decide)]; exact e155) (sv_Wy_of (by rw [acM_10 (by decide) (by decide)]))
  · refine sv_tableIn (off := 111) C 146 dL_act_35 (by decide) (by decide) (by decide) (by decide) ?_
    refine sv_aload_n (i := 0) (x := sv_r G 14 0) C dL_act_146 rfl rfl ?_
    refine sv_iconst (v := nI 1) C dL_act_147 (by decide) ?_
    refine sv_iload_n (i := 3) (x := a) C dL_act_148 rfl rfl ?_
    refine sv_bipush (v := nI 20) C dL_act_149 (by decide) ?_
    refine sv_callS (as := [_, _]) (rest := [_, _]) C (met_low l G _ a 20 (by decide) (by decide)) fL_low kw_437 ⟨Nat.le_of_ble_eq_true rfl, Nat.le_of_ble_eq_true rfl⟩ (Nat.le_of_ble_eq_true rfl) dL_act_151 ⟨Nat.zero_le _, Nat.zero_le _⟩  ?_
    refine sv_riN (lo a 20) rfl ?_
    refine sv_iadd C dL_act_154 ?_
    refine sv_set (v' := .int (nI (1 + (lo a 20)))) (congrArg Value.int (nI_add _ _)) ?_
    refine sv_callV (as := [_]) (rest := []) C (met0_pass l G _ _ _ (1 + (lo a 20)) (by omega) (by omega) od hd hod h0 h1 hd6 b6 b7 hv) fX5_pass kw_509 (sv_recv14 C) ⟨Nat.le_of_ble_eq_true rfl, Nat.le_of_ble_eq_true rfl⟩ (Nat.le_of_ble_eq_true rfl) dL_act_155 ⟨Nat.zero_le _, Nat.zero_le _⟩  ?_
    refine sv_ri (fun v155 e155 => ?_)
    exact sv_iret C hr dL_act_158 (Nat.le_of_ble_eq_true rfl) (Nat.le_of_ble_eq_true rfl) (by rw [acR_10 (by decide) (by decide)]; exact e155) (sv_Wy_of (by rw [acM_10 (by decide) (by decide)]))
  · refine sv_tableIn (off := 111) C 146 dL_act_35 (by decide) (by decide) (by decide) (by decide) ?_
    refine sv_aload_n (i := 0) (x := sv_r G 14 0) C dL_act_146 rfl rfl ?_
    refine sv_iconst (v := nI 1) C dL_act_147 (by decide) ?_
    refine sv_iload_n (i := 3) (x := a) C dL_act_148 rfl rfl ?_
    refine sv_bipush (v := nI 20) C dL_act_149 (by decide) ?_
    refine sv_callS (as := [_, _]) (rest := [_, _]) C (met_low l G _ a 20 (by decide) (by decide)) fL_low kw_437 ⟨Nat.le_of_ble_eq_true rfl, Nat.le_of_ble_eq_true rfl⟩ (Nat.le_of_ble_eq_true rfl) dL_act_151 ⟨Nat.zero_le _, Nat.zero_le _⟩  ?_
    refine sv_riN (lo a 20) rfl ?_
    refine sv_iadd C dL_act_154 ?_
    refine sv_set (v' := .int (nI (1 + (lo a 20)))) (congrArg Value.int (nI_add _ _)) ?_
    refine sv_callV (as := [_]) (rest := []) C (met0_pass l G _ _ _ (1 + (lo a 20)) (by omega) (by omega) od hd hod h0 h1 hd6 b6 b7 hv) fX5_pass kw_509 (sv_recv14 C) ⟨Nat.le_of_ble_eq_true rfl, Nat.le_of_ble_eq_true rfl⟩ (Nat.le_of_ble_eq_true rfl) dL_act_155 ⟨Nat.zero_le _, Nat.zero_le _⟩  ?_
    refine sv_ri (fun v155 e155 => ?_)
    exact sv_iret C hr dL_act_158 (Nat.le_of_ble_eq_true rfl) (Nat.le_of_ble_eq_true rfl) (by rw [acR_10 (by decide) (by decide)]; exact e155) (sv_Wy_of (by rw [acM_10 (by decide) (by decide)]))
  · refine sv_tableIn (off := 111) C 146 dL_act_35 (by decide) (by decide) (by decide) (by decide) ?_
    refine sv_aload_n (i := 0) (x := sv_r G 14 0) C dL_act_146 rfl rfl ?_
    refine sv_iconst (v := nI 1) C dL_act_147 (by decide) ?_
    refine sv_iload_n (i := 3) (x := a) C dL_act_148 rfl rfl ?_
    refine sv_bipush (v := nI 20) C dL_act_149 (by decide) ?_
    refine sv_callS (as := [_, _]) (rest := [_, _]) C (met_low l G _ a 20 (by decide) (by decide)) fL_low kw_437 ⟨Nat.le_of_ble_eq_true rfl, Nat.le_of_ble_eq_true rfl⟩ (Nat.le_of_ble_eq_true rfl) dL_act_151 ⟨Nat.zero_le _, Nat.zero_le _⟩  ?_
    refine sv_riN (lo a 20) rfl ?_
    refine sv_iadd C dL_act_154 ?_
    refine sv_set (v' := .int (nI (1 + (lo a 20)))) (congrArg Value.int (nI_add _ _)) ?_
    refine sv_callV (as := [_]) (rest := []) C (met0_pass l G _ _ _ (1 + (lo a 20)) (by omega) (by omega) od hd hod h0 h1 hd6 b6 b7 hv) fX5_pass kw_509 (sv_recv14 C) ⟨Nat.le_of_ble_eq_true rfl, Nat.le_of_ble_eq_true rfl⟩ (Nat.le_of_ble_eq_true rfl) dL_act_155 ⟨Nat.zero_le _, Nat.zero_le _⟩  ?_
    refine sv_ri (fun v155 e155 => ?_)
    exact sv_iret C hr dL_act_158 (Nat.le_of_ble_eq_true rfl) (Nat.le_of_ble_eq_true rfl) (by rw [acR_10 (by decide) (by decide)]; exact e155) (sv_Wy_of (by rw [acM_10 (by decide) (by decide)]))
  · refine sv_tableIn (off := 111) C 146 dL_act_35 (by decide) (by decide) (by decide) (by decide) ?_
    refine sv_aload_n (i := 0) (x := sv_r G 14 0) C dL_act_146 rfl rfl ?_
    refine sv_iconst (v := nI 1) C dL_act_147 (by decide) ?_
    refine sv_iload_n (i := 3) (x := a) C dL_act_148 rfl rfl ?_
    refine sv_bipush (v := nI 20) C dL_act_149 (by decide) ?_
    refine sv_callS (as := [_, _]) (rest := [_, _]) C (met_low l G _ a 20 (by decide) (by decide)) fL_low kw_437 ⟨Nat.le_of_ble_eq_true rfl, Nat.le_of_ble_eq_true rfl⟩ (Nat.le_of_ble_eq_true rfl) dL_act_151 ⟨Nat.zero_le _, Nat.zero_le _⟩  ?_
    refine sv_riN (lo a 20) rfl ?_
    refine sv_iadd C dL_act_154 ?_
    refine sv_set (v' := .int (nI (1 + (lo a 20)))) (congrArg Value.int (nI_add _ _)) ?_
    refine sv_callV (as := [_]) (rest := []) C (met0_pass l G _ _ _ (1 + (lo a 20)) (by omega) (by omega) od hd hod h0 h1 hd6 b6 b7 hv) fX5_pass kw_509 (sv_recv14 C) ⟨Nat.le_of_ble_eq_true rfl, Nat.le_of_ble_eq_true rfl⟩ (Nat.le_of_ble_eq_true rfl) dL_act_155 ⟨Nat.zero_le _, Nat.zero_le _⟩  ?_
    refine sv_ri (fun v155 e155 => ?_)
    exact sv_iret C hr dL_act_158 (Nat.le_of_ble_eq_true rfl) (Nat.le_of_ble_eq_true rfl) (by rw [acR_10 (by decide) (by decide)]; exact e155) (sv_Wy_of (by rw [acM_10 (by decide) (by decide)]))
  · refine sv_tableIn (off := 124) C 159 dL_act_35 (by decide) (by decide) (by decide) (by decide) ?_
    refine sv_aload_n (i := 0) (x := sv_r G 14 0) C dL_act_159 rfl rfl ?_
    refine sv_iload_n (i := 3) (x := a) C dL_act_160 rfl rfl ?_
    refine sv_bipush (v := nI 12) C dL_act_161 (by decide) ?_
    refine sv_callS (as := [_, _]) (rest := [_]) C (met_low l G _ a 12 (by decide) (by decide)) fL_low kw_437 ⟨Nat.le_of_ble_eq_true rfl, Nat.le_of_ble_eq_true rfl⟩ (Nat.le_of_ble_eq_true rfl) dL_act_163 ⟨Nat.zero_le _, Nat.zero_le _⟩  ?_
    refine sv_riN (lo a 12) rfl ?_
    refine sv_iload (i := 4) (x := b) C dL_act_166 rfl ?_
    refine sv_bipush (v := nI 8) C dL_act_168 (by decide) ?_
    refine sv_callS (as := [_, _]) (rest := [_, _]) C (met_low l G _ b 8 (by decide) (by decide)) fL_low kw_437 ⟨Nat.le_of_ble_eq_true rfl, Nat.le_of_ble_eq_true rfl⟩ (Nat.le_of_ble_eq_true rfl) dL_act_170 ⟨Nat.zero_le _, Nat.zero_le _⟩  ?_
    refine sv_riN (lo b 8) rfl ?_
    refine sw_call (as := [_, _, _]) (rest := []) C (met_L_turn l G hl _ _ _ (nI (lo a 12)) (nI (lo b 8)) od hd hod h0 h1 hd6 b6 b7 m hm hm7) kw_513 kw_514 kw_8 kc_turn 3 ⟨by decide, by decide, by decide +kernel⟩ rfl ⟨Nat.le_of_ble_eq_true rfl, Nat.le_of_ble_eq_true rfl⟩ (Nat.le_of_ble_eq_true rfl) dL_act_173 ⟨Nat.le_of_ble_eq_true rfl, Nat.le_of_ble_eq_true rfl⟩ ?_
    refine sv_ri (fun v173 e173 => ?_)
    exact sv_iret C hr dL_act_176 (Nat.le_of_ble_eq_true rfl) (Nat.le_of_ble_eq_true rfl) (by rw [acR_11 (by decide) (by decide)]; exact e173) (sv_Wy_eq (by rw [acM_11 (by decide) (by decide)]))
  · refine sv_tableIn (off := 142) C 177 dL_act_35 (by decide) (by decide) (by decide) (by decide) ?_
    refine sv_aload_n (i := 0) (x := sv_r G 14 0) C dL_act_177 rfl rfl ?_
    refine sv_iload (i := 5) (x := nI (lo a 8)) C dL_act_178 rfl ?_
    refine sv_callV (as := [_]) (rest := []) C (met0_press l G _ _ _ (lo a 8) (by omega) od hd hod h0 h1 hd6 b6 b7) fX5_press kw_523 (sv_recv14 C) ⟨Nat.le_of_ble_eq_true rfl, Nat.le_of_ble_eq_true rfl⟩ (Nat.le_of_ble_eq_true rfl) dL_act_180 ⟨Nat.zero_le _, Nat.zero_le _⟩  ?_
    refine sv_ri (fun v180 e180 => ?_)
    exact sv_iret C hr dL_act_183 (Nat.le_of_ble_eq_true rfl) (Nat.le_of_ble_eq_true rfl) (by rw [acR_13 (by decide) (by decide)]; exact e180) (sv_Wy_of (by rw [acM_13 (by decide) (by decide)]))
  · refine sv_tableIn (off := 142) C 177 dL_act_35 (by decide) (by decide) (by decide) (by decide) ?_
    refine sv_aload_n (i := 0) (x := sv_r G 14 0) C dL_act_177 rfl rfl ?_
    refine sv_iload (i := 5) (x := nI (lo a 8)) C dL_act_178 rfl ?_
    refine sv_callV (as := [_]) (rest := []) C (met0_press l G _ _ _ (lo a 8) (by omega) od hd hod h0 h1 hd6 b6 b7) fX5_press kw_523 (sv_recv14 C) ⟨Nat.le_of_ble_eq_true rfl, Nat.le_of_ble_eq_true rfl⟩ (Nat.le_of_ble_eq_true rfl) dL_act_180 ⟨Nat.zero_le _, Nat.zero_le _⟩  ?_
    refine sv_ri (fun v180 e180 => ?_)
    exact sv_iret C hr dL_act_183 (Nat.le_of_ble_eq_true rfl) (Nat.le_of_ble_eq_true rfl) (by rw [acR_13 (by decide) (by decide)]; exact e180) (sv_Wy_of (by rw [acM_13 (by decide) (by decide)]))
  · refine sv_tableIn (off := 149) C 184 dL_act_35 (by decide) (by decide) (by decide) (by decide) ?_
    refine sv_aload_n (i := 0) (x := sv_r G 14 0) C dL_act_184 rfl rfl ?_
    refine sv_iload (i := 5) (x := nI (lo a 8)) C dL_act_185 rfl ?_
    refine sv_iload (i := 4) (x := b) C dL_act_187 rfl ?_
    refine sv_iconst (v := nI 3) C dL_act_189 (by decide) ?_
    refine sv_callS (as := [_, _]) (rest := [_, _]) C (met_low l G _ b 3 (by decide) (by decide)) fL_low kw_437 ⟨Nat.le_of_ble_eq_true rfl, Nat.le_of_ble_eq_true rfl⟩ (Nat.le_of_ble_eq_true rfl) dL_act_190 ⟨Nat.zero_le _, Nat.zero_le _⟩  ?_
    refine sv_riN (lo b 3) rfl ?_
    refine sv_sel_if_le (va := nI 1) (vb := nI 0) C 200 dL_act_193 (by decide) dL_act_196 (by decide) dL_act_197 (by decide) dL_act_200 (by decide) ?_
    refine sv_set (v' := .int (if 0 < lo b 3 then 1 else 0)) (congrArg Value.int (sel_lo (by omega))) ?_
    refine sv_callV (as := [_, _]) (rest := []) C (met0_sensor l G _ _ _ (lo a 8) (by omega) _ (b01 _) od hd hod h0 h1 hd6 b6 b7) fX5_sensor kw_528 (sv_recv14 C) ⟨Nat.le_of_ble_eq_true rfl, Nat.le_of_ble_eq_true rfl⟩ (Nat.le_of_ble_eq_true rfl) dL_act_201 ⟨Nat.zero_le _, Nat.zero_le _⟩  ?_
    refine sv_ri (fun v201 e201 => ?_)
    exact sv_iret C hr dL_act_204 (Nat.le_of_ble_eq_true rfl) (Nat.le_of_ble_eq_true rfl) (by rw [acR_15 (by decide) (by decide)]; exact e201) (sv_Wy_of (by rw [acM_15 (by decide) (by decide)]))
  · refine sv_tableIn (off := 149) C 184 dL_act_35 (by decide) (by decide) (by decide) (by decide) ?_
    refine sv_aload_n (i := 0) (x := sv_r G 14 0) C dL_act_184 rfl rfl ?_
    refine sv_iload (i := 5) (x := nI (lo a 8)) C dL_act_185 rfl ?_
    refine sv_iload (i := 4) (x := b) C dL_act_187 rfl ?_
    refine sv_iconst (v := nI 3) C dL_act_189 (by decide) ?_
    refine sv_callS (as := [_, _]) (rest := [_, _]) C (met_low l G _ b 3 (by decide) (by decide)) fL_low kw_437 ⟨Nat.le_of_ble_eq_true rfl, Nat.le_of_ble_eq_true rfl⟩ (Nat.le_of_ble_eq_true rfl) dL_act_190 ⟨Nat.zero_le _, Nat.zero_le _⟩  ?_
    refine sv_riN (lo b 3) rfl ?_
    refine sv_sel_if_le (va := nI 1) (vb := nI 0) C 200 dL_act_193 (by decide) dL_act_196 (by decide) dL_act_197 (by decide) dL_act_200 (by decide) ?_
    refine sv_set (v' := .int (if 0 < lo b 3 then 1 else 0)) (congrArg Value.int (sel_lo (by omega))) ?_
    refine sv_callV (as := [_, _]) (rest := []) C (met0_sensor l G _ _ _ (lo a 8) (by omega) _ (b01 _) od hd hod h0 h1 hd6 b6 b7) fX5_sensor kw_528 (sv_recv14 C) ⟨Nat.le_of_ble_eq_true rfl, Nat.le_of_ble_eq_true rfl⟩ (Nat.le_of_ble_eq_true rfl) dL_act_201 ⟨Nat.zero_le _, Nat.zero_le _⟩  ?_
    refine sv_ri (fun v201 e201 => ?_)
    exact sv_iret C hr dL_act_204 (Nat.le_of_ble_eq_true rfl) (Nat.le_of_ble_eq_true rfl) (by rw [acR_15 (by decide) (by decide)]; exact e201) (sv_Wy_of (by rw [acM_15 (by decide) (by decide)]))
  · refine sv_tableIn (off := 170) C 205 dL_act_35 (by decide) (by decide) (by decide) (by decide) ?_
    refine sv_aload_n (i := 0) (x := sv_r G 14 0) C dL_act_205 rfl rfl ?_
    refine sv_iload (i := 4) (x := b) C dL_act_206 rfl ?_
    refine sv_iconst (v := nI 2) C dL_act_208 (by decide) ?_
    refine sv_callS (as := [_, _]) (rest := [_]) C (met_low l G _ b 2 (by decide) (by decide)) fL_low kw_437 ⟨Nat.le_of_ble_eq_true rfl, Nat.le_of_ble_eq_true rfl⟩ (Nat.le_of_ble_eq_true rfl) dL_act_209 ⟨Nat.zero_le _, Nat.zero_le _⟩  ?_
    refine sv_riN (lo b 2) rfl ?_
    refine sv_sel_if_ne (va := nI 1) (vb := nI 0) C 219 dL_act_212 (by decide) dL_act_215 (by decide) dL_act_216 (by decide) dL_act_219 (by decide) ?_
    refine sv_set (v' := .int (if lo b 2 = 0 then 1 else 0)) (congrArg Value.int (sel_l0 (by omega))) ?_
    refine sv_callV (as := [_]) (rest := []) C (met_night l G _ _ _ _ (b01 _) od hd hod h0 h1 hd6 b6 b7) fX5_night kw_532 (sv_recv14 C) ⟨Nat.le_of_ble_eq_true rfl, Nat.le_of_ble_eq_true rfl⟩ (Nat.le_of_ble_eq_true rfl) dL_act_220 ⟨Nat.zero_le _, Nat.zero_le _⟩  ?_
    refine sv_ri (fun v220 e220 => ?_)
    exact sv_iret C hr dL_act_223 (Nat.le_of_ble_eq_true rfl) (Nat.le_of_ble_eq_true rfl) (by rw [acR_16 (by decide) (by decide)]; exact e220) (sv_Wy_of (by rw [acM_16 (by decide) (by decide)]))
  · refine sv_tableIn (off := 189) C 224 dL_act_35 (by decide) (by decide) (by decide) (by decide) ?_
    refine sv_aload_n (i := 0) (x := sv_r G 14 0) C dL_act_224 rfl rfl ?_
    refine sv_iload (i := 4) (x := b) C dL_act_225 rfl ?_
    refine sv_iconst (v := nI 3) C dL_act_227 (by decide) ?_
    refine sv_callS (as := [_, _]) (rest := [_]) C (met_low l G _ b 3 (by decide) (by decide)) fL_low kw_437 ⟨Nat.le_of_ble_eq_true rfl, Nat.le_of_ble_eq_true rfl⟩ (Nat.le_of_ble_eq_true rfl) dL_act_228 ⟨Nat.zero_le _, Nat.zero_le _⟩  ?_
    refine sv_riN (lo b 3) rfl ?_
    refine sv_sel_if_ne (va := nI 1) (vb := nI 0) C 238 dL_act_231 (by decide) dL_act_234 (by decide) dL_act_235 (by decide) dL_act_238 (by decide) ?_
    refine sv_set (v' := .int (if lo b 3 = 0 then 1 else 0)) (congrArg Value.int (sel_l0 (by omega))) ?_
    refine sv_callV (as := [_]) (rest := []) C (met_fire l G _ _ _ _ (b01 _) od hd hod h0 h1 hd6 b6 b7) fX5_fire kw_536 (sv_recv14 C) ⟨Nat.le_of_ble_eq_true rfl, Nat.le_of_ble_eq_true rfl⟩ (Nat.le_of_ble_eq_true rfl) dL_act_239 ⟨Nat.zero_le _, Nat.zero_le _⟩  ?_
    refine sv_ri (fun v239 e239 => ?_)
    exact sv_iret C hr dL_act_242 (Nat.le_of_ble_eq_true rfl) (Nat.le_of_ble_eq_true rfl) (by rw [acR_17 (by decide) (by decide)]; exact e239) (sv_Wy_of (by rw [acM_17 (by decide) (by decide)]))
  · refine sv_tableIn (off := 208) C 243 dL_act_35 (by decide) (by decide) (by decide) (by decide) ?_
    refine sv_aload_n (i := 0) (x := sv_r G 14 0) C dL_act_243 rfl rfl ?_
    refine sv_iload_n (i := 3) (x := a) C dL_act_244 rfl rfl ?_
    refine sv_iconst (v := nI 2) C dL_act_245 (by decide) ?_
    refine sv_callS (as := [_, _]) (rest := [_]) C (met_low l G _ a 2 (by decide) (by decide)) fL_low kw_437 ⟨Nat.le_of_ble_eq_true rfl, Nat.le_of_ble_eq_true rfl⟩ (Nat.le_of_ble_eq_true rfl) dL_act_246 ⟨Nat.zero_le _, Nat.zero_le _⟩  ?_
    refine sv_riN (lo a 2) rfl ?_
    refine sv_iconst (v := nI 1) C dL_act_249 (by decide) ?_
    refine sv_iload (i := 4) (x := b) C dL_act_250 rfl ?_
    refine sv_bipush (v := nI 40) C dL_act_252 (by decide) ?_
    refine sv_callS (as := [_, _]) (rest := [_, _, _]) C (met_low l G _ b 40 (by decide) (by decide)) fL_low kw_437 ⟨Nat.le_of_ble_eq_true rfl, Nat.le_of_ble_eq_true rfl⟩ (Nat.le_of_ble_eq_true rfl) dL_act_254 ⟨Nat.zero_le _, Nat.zero_le _⟩  ?_
    refine sv_riN (lo b 40) rfl ?_
    refine sv_iadd C dL_act_257 ?_
    refine sv_set (v' := .int (nI (1 + (lo b 40)))) (congrArg Value.int (nI_add _ _)) ?_
    refine sv_callV (as := [_, _]) (rest := []) C (met0_set l G _ _ _ (lo a 2) (1 + (lo b 40)) (by omega) (by omega) (set_a l2 (by omega) (by omega)).1 (set_a l2 (by omega) (by omega)).2 od hd hod h0 h1 hd6 b6 b7) fX5_set kw_544 (sv_recv14 C) ⟨Nat.le_of_ble_eq_true rfl, Nat.le_of_ble_eq_true rfl⟩ (Nat.le_of_ble_eq_true rfl) dL_act_258 ⟨Nat.zero_le _, Nat.zero_le _⟩  ?_
    refine sv_ri (fun v258 e258 => ?_)
    exact sv_iret C hr dL_act_261 (Nat.le_of_ble_eq_true rfl) (Nat.le_of_ble_eq_true rfl) (by rw [acR_18 (by decide) (by decide)]; exact e258) (sv_Wy_of (by rw [acM_18 (by decide) (by decide)]))
  · refine sv_tableIn (off := 227) C 262 dL_act_35 (by decide) (by decide) (by decide) (by decide) ?_
    refine sv_iload_n (i := 3) (x := a) C dL_act_262 rfl rfl ?_
    refine sv_iconst (v := nI 2) C dL_act_263 (by decide) ?_
    refine sv_callS (as := [_, _]) (rest := []) C (met_low l G _ a 2 (by decide) (by decide)) fL_low kw_437 ⟨Nat.le_of_ble_eq_true rfl, Nat.le_of_ble_eq_true rfl⟩ (Nat.le_of_ble_eq_true rfl) dL_act_264 ⟨Nat.zero_le _, Nat.zero_le _⟩  ?_
    refine sv_riN (lo a 2) rfl ?_
    refine sv_if_ne C 284 dL_act_267 (by decide) (fun q267 => ?_) (fun q267 => ?_)
    · have q0 : ¬ lo a 2 = 0 := fun h => q267 (by rw [h]; rfl)
      refine sv_aload_n (i := 0) (x := sv_r G 14 0) C dL_act_284 rfl rfl ?_
      refine sv_iconst (v := nI 3) C dL_act_285 (by decide) ?_
      refine sv_iconst (v := nI 1) C dL_act_286 (by decide) ?_
      refine sv_iload (i := 4) (x := b) C dL_act_287 rfl ?_
      refine sv_bipush (v := nI 12) C dL_act_289 (by decide) ?_
      refine sv_callS (as := [_, _]) (rest := [_, _, _]) C (met_low l G _ b 12 (by decide) (by decide)) fL_low kw_437 ⟨Nat.le_of_ble_eq_true rfl, Nat.le_of_ble_eq_true rfl⟩ (Nat.le_of_ble_eq_true rfl) dL_act_291 ⟨Nat.zero_le _, Nat.zero_le _⟩  ?_
      refine sv_riN (lo b 12) rfl ?_
      refine sv_iadd C dL_act_294 ?_
      refine sv_set (v' := .int (nI (1 + (lo b 12)))) (congrArg Value.int (nI_add _ _)) ?_
      refine sv_callV (as := [_, _]) (rest := []) C (met0_set l G _ _ _ 3 (1 + (lo b 12)) (by omega) (by omega) (set_c (by omega) (by omega)).1 (set_c (by omega) (by omega)).2 od hd hod h0 h1 hd6 b6 b7) fX5_set kw_544 (sv_recv14 C) ⟨Nat.le_of_ble_eq_true rfl, Nat.le_of_ble_eq_true rfl⟩ (Nat.le_of_ble_eq_true rfl) dL_act_295 ⟨Nat.zero_le _, Nat.zero_le _⟩  ?_
      refine sv_ri (fun v295 e295 => ?_)
      exact sv_iret C hr dL_act_298 (Nat.le_of_ble_eq_true rfl) (Nat.le_of_ble_eq_true rfl) (by rw [acR_19 (by decide) (by decide), if_neg q0]; exact e295) (sv_Wy_of (by rw [acM_19 (by decide) (by decide), if_neg q0]))
    · have q0 : lo a 2 = 0 := (nI_eq (b := 0) (by omega) (by omega)).mp q267
      refine sv_aload_n (i := 0) (x := sv_r G 14 0) C dL_act_270 rfl rfl ?_
      refine sv_iconst (v := nI 2) C dL_act_271 (by decide) ?_
      refine sv_iload (i := 4) (x := b) C dL_act_272 rfl ?_
      refine sv_iconst (v := nI 2) C dL_act_274 (by decide) ?_
      refine sv_callS (as := [_, _]) (rest := [_, _]) C (met_low l G _ b 2 (by decide) (by decide)) fL_low kw_437 ⟨Nat.le_of_ble_eq_true rfl, Nat.le_of_ble_eq_true rfl⟩ (Nat.le_of_ble_eq_true rfl) dL_act_275 ⟨Nat.zero_le _, Nat.zero_le _⟩  ?_
      refine sv_riN (lo b 2) rfl ?_
      refine sv_callV (as := [_, _]) (rest := []) C (met0_set l G _ _ _ 2 (lo b 2) (by omega) (by omega) (set_b m2).1 (set_b m2).2 od hd hod h0 h1 hd6 b6 b7) fX5_set kw_544 (sv_recv14 C) ⟨Nat.le_of_ble_eq_true rfl, Nat.le_of_ble_eq_true rfl⟩ (Nat.le_of_ble_eq_true rfl) dL_act_278 ⟨Nat.zero_le _, Nat.zero_le _⟩  ?_
      refine sv_ri (fun v278 e278 => ?_)
      refine sv_goto C 298 dL_act_281 (by decide) ?_
      exact sv_iret C hr dL_act_298 (Nat.le_of_ble_eq_true rfl) (Nat.le_of_ble_eq_true rfl) (by rw [acR_19 (by decide) (by decide), if_pos q0]; exact e278) (sv_Wy_of (by rw [acM_19 (by decide) (by decide), if_pos q0]))
  · refine sv_tableOut C 299 dL_act_35 (Or.inr (by decide)) (by decide) ?_
    refine sv_aload_n (i := 0) (x := sv_r G 14 0) C dL_act_299 rfl rfl ?_
    refine sw_call (as := [_]) (rest := []) C (met_L_undo l G hl _ _ _ od hd ((od + (hd - 1)) % 6) hod h0 h1 hd6 rfl u6 u7) kw_553 kw_554 kw_8 kc_undo 1 ⟨by decide, by decide, by decide +kernel⟩ rfl ⟨Nat.le_of_ble_eq_true rfl, Nat.le_of_ble_eq_true rfl⟩ (Nat.le_of_ble_eq_true rfl) dL_act_300 ⟨Nat.le_of_ble_eq_true rfl, Nat.le_of_ble_eq_true rfl⟩ ?_
    refine sv_ri (fun v300 e300 => ?_)
    exact sv_iret C hr dL_act_303 (Nat.le_of_ble_eq_true rfl) (Nat.le_of_ble_eq_true rfl) (by rw [acR_20 (by decide) (by decide)]; exact e300) (sv_Wy_eq (by rw [acM_20 (by decide) (by decide)]))

