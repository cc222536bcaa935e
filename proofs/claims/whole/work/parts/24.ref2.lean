set_option maxHeartbeats 800000 in
set_option maxRecDepth 100000 in
theorem met_R20_second (l : Launch) (G : sv_G) (z : Nat) (M : sv_M) (o : Int64) (hg : rgd (M 10)) : sv_Met l G yX6_second cX6_second 5 none 3 [.ref (sv_r G 19 0), .ref (sv_r G 20 0)] (sv_W G z M o) none (sv_W G z (sv_u (sv_u M 15 (dkM M (rdks (M 15 6) (many (M 10)) (M 10)))) 10 (rsc (M 10))) o) := by
  refine sv_ofW (by decide) kw_847 (Nat.le_of_ble_eq_true rfl) ?_
  intro p e s mth args below meth c hr C _
  obtain ⟨hm, hm7, b6, hv⟩ := hg
  obtain ⟨n', hn'⟩ : ∃ n, n = rwn (many (M 10)) (M 10) := ⟨_, rfl⟩
  obtain ⟨b, hb⟩ : ∃ x, x = rbg (many (M 10)) (M 10) := ⟨_, rfl⟩
  have hle : n' ≤ many (M 10) := by rw [hn']; exact (rwk_57 hm).2
  have hb57 : b 57 = nI n' := by rw [hb, hn']; exact rbg_57 hm
  have hb6 : b 6 = 0 ∨ b 6 = 1 := by rw [hb, rbg_lo (by decide)]; exact b6
  have hrw : rwn (many (M 10)) (M 10) = n' := hn'.symm
  rw [← hn', ← hb] at hv
  refine sv_sub (lv' := [(0, .ref (sv_r G 19 0)), (1, .ref (sv_r G 20 0))]) rfl ?_
  refine sv_aload_n (i := 1) (x := sv_r G 20 0) C dX6_second_0 rfl rfl ?_
  refine sv_callS (as := [_]) (rest := []) C (met_R20_walks l G _ _ _ (many (M 10)) hm hm7) fX6_walks kw_848 ⟨Nat.le_of_ble_eq_true rfl, Nat.le_of_ble_eq_true rfl⟩ (Nat.le_of_ble_eq_true rfl) dX6_second_1 ⟨Nat.zero_le _, Nat.zero_le _⟩  ?_
  refine sv_rv ?_
  refine sv_aload_n (i := 1) (x := sv_r G 20 0) C dX6_second_4 rfl rfl ?_
  refine sv_callS (as := [_]) (rest := []) C (met_R20_looks l G _ _ _ n' (by rw [sv_us]; exact (rwk_57 hm).1.trans (congrArg nI hrw)) (by omega)) fX6_looks kw_854 ⟨Nat.le_of_ble_eq_true rfl, Nat.le_of_ble_eq_true rfl⟩ (Nat.le_of_ble_eq_true rfl) dX6_second_5 ⟨Nat.zero_le _, Nat.zero_le _⟩  ?_
  refine sv_rv ?_
  refine sv_wd (sv_eqW (show _ = sv_u M 10 b from by rw [hb]; unfold rbg; rw [hrw]; simp only [sv_us, sv_uu])) ?_
  refine sv_iconst (v := nI 0) C dX6_second_8 (by decide) ?_
  refine sv_istore_n (i := 2) C [(0, .ref (sv_r G 19 0)), (1, .ref (sv_r G 20 0)), (2, .int (nI 0))] dX6_second_9 rfl (by decide) rfl ?_
  refine sv_wd (sv_eqW (show _ = sv_u (sv_u M 15 (dkM M (smI (rdk (M 15 6) b) 0))) 10 (fo cntp 0 b) from by show _ = sv_u (sv_u M 15 (dkM M 0)) 10 b; rw [dkM_0, sv_ui, hb])) ?_
  refine sv_loop (N := n') (I := fun i => True) (Wf := fun i => sv_W G z (sv_u (sv_u M 15 (dkM M (smI (rdk (M 15 6) b) i))) 10 (fo cntp i b)) o) (Lf := fun i => [(0, .ref (sv_r G 19 0)), (1, .ref (sv_r G 20 0)), (2, .int (nI i))]) 0 (Nat.zero_le _) trivial (fun i hi0 hi hIi ihi => ?_)
  obtain ⟨x1, hx1⟩ : ∃ x, x = fo cntp i b := ⟨_, rfl⟩
  rw [← hx1]
  refine sv_iload_n (i := 2) (x := nI i) C dX6_second_10 rfl rfl ?_
  refine sv_aload_n (i := 1) (x := sv_r G 20 0) C dX6_second_11 rfl rfl ?_
  refine sv_bipush (v := nI 57) C dX6_second_12 (by decide) ?_
  refine sv_ialdN C 10 57 rfl rfl rfl rfl (by show _ < 86; omega) dX6_second_14 ?_
  refine sv_set (v' := .int (nI n')) (congrArg Value.int (by rw [sv_us, hx1, focnt_o hv (Or.inr (by decide)) i hi]; exact hb57)) ?_
  refine sv_icmp_geN C 127 dX6_second_15 (by decide) (by omega) (by omega) (fun q15 => ?_) (fun q15 => ?_)
  · refine sv_iconst (v := nI 0) C dX6_second_127 (by decide) ?_
    refine sv_istore_n (i := 2) C [(0, .ref (sv_r G 19 0)), (1, .ref (sv_r G 20 0)), (2, .int (nI 0))] dX6_second_128 rfl (by decide) rfl ?_
    rw [show i = n' from by omega] at hx1
    obtain ⟨z9, hz9⟩ : ∃ x, x = fo cntp n' b := ⟨_, rfl⟩
    obtain ⟨Y9, hY9⟩ : ∃ x, x = dkM M (smI (rdk (M 15 6) b) n') := ⟨_, rfl⟩
    refine sv_wd (sv_eqW (show _ = sv_u (sv_u M 15 Y9) 10 (fo fend 0 z9) from by rw [hx1, hY9, hz9, show i = n' from by omega]; rfl)) ?_
    have z96 : z9 6 = 0 ∨ z9 6 = 1 := by rw [hz9, focnt_o hv (Or.inl (by decide)) n' (Nat.le_refl _)]; exact hb6
    refine sv_loop (N := 8) (I := fun i2 => True) (Wf := fun i2 => sv_W G z (sv_u (sv_u M 15 Y9) 10 (fo fend i2 z9)) o) (Lf := fun i2 => [(0, .ref (sv_r G 19 0)), (1, .ref (sv_r G 20 0)), (2, .int (nI i2))]) 0 (Nat.zero_le _) trivial (fun i2 hi20 hi2 hIi2 ihi2 => ?_)
    obtain ⟨x2, hx2⟩ : ∃ x, x = fo fend i2 z9 := ⟨_, rfl⟩
    rw [← hx2]
    have x26 : x2 6 = 0 ∨ x2 6 = 1 := by rw [hx2, fofend_o (Or.inl (by decide)) i2 hi2]; exact z96
    refine sv_iload_n (i := 2) (x := nI i2) C dX6_second_129 rfl rfl ?_
    refine sv_bipush (v := nI 8) C dX6_second_130 (by decide) ?_
    refine sv_icmp_geN C 197 dX6_second_132 (by decide) (by omega) (by omega) (fun q132 => ?_) (fun q132 => ?_)
    · rw [show i2 = 8 from by omega] at hx2
      refine sv_aload_n (i := 1) (x := sv_r G 20 0) C dX6_second_197 rfl rfl ?_
      refine sv_iconst (v := nI 4) C dX6_second_198 (by decide) ?_
      refine sv_dup2_11 C dX6_second_199 rfl rfl ?_
      refine sv_ialdN C 10 4 rfl rfl rfl rfl (by show _ < 86; omega) dX6_second_200 ?_
      refine sv_set (v' := .int (x2 4)) (congrArg Value.int (by rw [sv_us])) ?_
      refine sv_iconst (v := nI 1) C dX6_second_201 (by decide) ?_
      refine sv_iadd C dX6_second_202 ?_
      refine sv_set (v' := .int (x2 4 + 1)) (congrArg Value.int rfl) ?_
      refine sv_iastN C 10 4 rfl rfl rfl rfl (by show _ < 86; omega) dX6_second_203 ?_
      exact sv_vret C hr dX6_second_204 (Nat.le_of_ble_eq_true rfl) (Nat.le_of_ble_eq_true rfl) (sv_eqW (by simp only [sv_wu, sv_us, sv_uu]; unfold rsc rsec rdks endv; rw [hx2, hz9, hY9, ← hb, hrw]))
    · refine sv_aload_n (i := 1) (x := sv_r G 20 0) C dX6_second_135 rfl rfl ?_
      refine sv_iload_n (i := 2) (x := nI i2) C dX6_second_136 rfl rfl ?_
      refine sv_callS (as := [_, _]) (rest := []) C (met_R20_lamp l G _ _ _ i2 (by omega)) fX6_lamp kw_860 ⟨Nat.le_of_ble_eq_true rfl, Nat.le_of_ble_eq_true rfl⟩ (Nat.le_of_ble_eq_true rfl) dX6_second_137 ⟨Nat.zero_le _, Nat.zero_le _⟩  ?_
      refine sv_riS (lampv x2 i2) (by rw [sv_us]) ?_
      refine sv_istore_n (i := 3) C [(0, .ref (sv_r G 19 0)), (1, .ref (sv_r G 20 0)), (2, .int (nI i2)), (3, .int (lampv x2 i2))] dX6_second_140 rfl (by decide) rfl ?_
      refine sv_bipush (v := nI 9) C dX6_second_141 (by decide) ?_
      refine sv_bipush (v := nI 6) C dX6_second_143 (by decide) ?_
      refine sv_iload_n (i := 2) (x := nI i2) C dX6_second_145 rfl rfl ?_
      refine sv_imul C dX6_second_146 ?_
      refine sv_set (v' := .int (nI (6 * i2))) (congrArg Value.int (pk_mul _ _)) ?_
      refine sv_iadd C dX6_second_147 ?_
      refine sv_set (v' := .int (nI (6 * i2 + 9))) (congrArg Value.int (by rw [nI_add]; exact congrArg nI (by omega))) ?_
      refine sv_istore (i := 4) C [(0, .ref (sv_r G 19 0)), (1, .ref (sv_r G 20 0)), (2, .int (nI i2)), (3, .int (lampv x2 i2)), (4, .int (nI (6 * i2 + 9)))] dX6_second_148 (by decide) rfl ?_
      refine sv_aload_n (i := 1) (x := sv_r G 20 0) C dX6_second_150 rfl rfl ?_
      refine sv_iload (i := 4) (x := nI (6 * i2 + 9)) C dX6_second_151 rfl ?_
      refine sv_iconst (v := nI 4) C dX6_second_153 (by decide) ?_
      refine sv_iadd C dX6_second_154 ?_
      refine sv_set (v' := .int (nI (6 * i2 + 13))) (congrArg Value.int (nI_add _ _)) ?_
      refine sv_dup2_11 C dX6_second_155 rfl rfl ?_
      refine sv_ialdN C 10 (6 * i2 + 13) rfl rfl rfl rfl (by show _ < 86; omega) dX6_second_156 ?_
      refine sv_set (v' := .int (x2 (6 * i2 + 13))) (congrArg Value.int (by rw [sv_us])) ?_
      refine sv_iload_n (i := 3) (x := lampv x2 i2) C dX6_second_157 rfl rfl ?_
      refine sv_iconst (v := nI 2) C dX6_second_158 (by decide) ?_
      refine sv_icmp_lt C 167 dX6_second_159 (by decide) (fun q159 => ?_) (fun q159 => ?_)
      · have q159 : lampv x2 i2 < 2 := q159
        refine sv_iconst (v := nI 3) C dX6_second_167 (by decide) ?_
        refine sv_iload_n (i := 3) (x := lampv x2 i2) C dX6_second_168 rfl rfl ?_
        refine sv_imul C dX6_second_169 ?_
        refine sv_set (v' := .int (powv (lampv x2 i2))) (congrArg Value.int (powR x26 q159)) ?_
        refine sv_iadd C dX6_second_170 ?_
        refine sv_set (v' := .int (x2 (6 * i2 + 13) + powv (lampv x2 i2))) (congrArg Value.int rfl) ?_
        refine sv_iastN C 10 (6 * i2 + 13) rfl rfl rfl rfl (by show _ < 86; omega) dX6_second_171 ?_
        refine sv_aload_n (i := 1) (x := sv_r G 20 0) C dX6_second_172 rfl rfl ?_
        refine sv_iload (i := 4) (x := nI (6 * i2 + 9)) C dX6_second_173 rfl ?_
        refine sv_dup2_11 C dX6_second_175 rfl rfl ?_
        refine sv_ialdN C 10 (6 * i2 + 9) rfl rfl rfl rfl (by show _ < 86; omega) dX6_second_176 ?_
        refine sv_set (v' := .int (x2 (6 * i2 + 9))) (congrArg Value.int (by simp only [sv_wu, sv_us, sv_uu]; rw [upd_n (show 6 * i2 + 9 ≠ 6 * i2 + 13 by omega)])) ?_
        refine sv_aload_n (i := 1) (x := sv_r G 20 0) C dX6_second_177 rfl rfl ?_
        refine sv_iload (i := 4) (x := nI (6 * i2 + 9)) C dX6_second_178 rfl ?_
        refine sv_ialdN C 10 (6 * i2 + 9) rfl rfl rfl rfl (by show _ < 86; omega) dX6_second_180 ?_
        refine sv_set (v' := .int (x2 (6 * i2 + 9))) (congrArg Value.int (by simp only [sv_wu, sv_us, sv_uu]; rw [upd_n (show 6 * i2 + 9 ≠ 6 * i2 + 13 by omega)])) ?_
        refine sv_sel_if_le (va := nI 1) (vb := nI 0) C 188 dX6_second_181 (by decide) dX6_second_184 (by decide) dX6_second_185 (by decide) dX6_second_188 (by decide) ?_
        refine sv_set (v' := .int (if x2 (6 * i2 + 9) ≤ 0 then 0 else 1)) (congrArg Value.int rfl) ?_
        refine sv_isub C dX6_second_189 ?_
        refine sv_set (v' := .int (x2 (6 * i2 + 9) - (if x2 (6 * i2 + 9) ≤ 0 then 0 else 1))) (congrArg Value.int rfl) ?_
        refine sv_iastN C 10 (6 * i2 + 9) rfl rfl rfl rfl (by show _ < 86; omega) dX6_second_190 ?_
        refine sv_iinc (i := 2) (x := nI i2) C (nI (i2 + 1)) [(0, .ref (sv_r G 19 0)), (1, .ref (sv_r G 20 0)), (2, .int (nI (i2 + 1))), (3, .int (lampv x2 i2)), (4, .int (nI (6 * i2 + 9)))] dX6_second_191 rfl (sv_incN i2 1) (by decide) rfl ?_
        refine sv_goto C 129 dX6_second_194 (by decide) ?_
        refine sv_sub (lv' := [(0, .ref (sv_r G 19 0)), (1, .ref (sv_r G 20 0)), (2, .int (nI (i2 + 1)))]) rfl ?_
        refine sv_wd (sv_eqW ?_) (ihi2 (by omega) trivial)
        rw [fo_succ, ← hx2]
        show _ = sv_u (sv_u M 15 Y9) 10 (bdn i2 (upd x2 (6 * i2 + 13) (x2 (6 * i2 + 13) + powv (lampv x2 i2))))
        rw [← bdnR, upd_n (show 6 * i2 + 9 ≠ 6 * i2 + 13 by omega)]
        simp only [sv_wu, sv_us, sv_uu]
      · have q159 : ¬ lampv x2 i2 < 2 := q159
        refine sv_bipush (v := nI 10) C dX6_second_162 (by decide) ?_
        refine sv_goto C 170 dX6_second_164 (by decide) ?_
        refine sv_iadd C dX6_second_170 ?_
        refine sv_set (v' := .int (x2 (6 * i2 + 13) + powv (lampv x2 i2))) (congrArg Value.int (by unfold powv; rw [if_neg q159]; rfl)) ?_
        refine sv_iastN C 10 (6 * i2 + 13) rfl rfl rfl rfl (by show _ < 86; omega) dX6_second_171 ?_
        refine sv_aload_n (i := 1) (x := sv_r G 20 0) C dX6_second_172 rfl rfl ?_
        refine sv_iload (i := 4) (x := nI (6 * i2 + 9)) C dX6_second_173 rfl ?_
        refine sv_dup2_11 C dX6_second_175 rfl rfl ?_
        refine sv_ialdN C 10 (6 * i2 + 9) rfl rfl rfl rfl (by show _ < 86; omega) dX6_second_176 ?_
        refine sv_set (v' := .int (x2 (6 * i2 + 9))) (congrArg Value.int (by simp only [sv_wu, sv_us, sv_uu]; rw [upd_n (show 6 * i2 + 9 ≠ 6 * i2 + 13 by omega)])) ?_
        refine sv_aload_n (i := 1) (x := sv_r G 20 0) C dX6_second_177 rfl rfl ?_
        refine sv_iload (i := 4) (x := nI (6 * i2 + 9)) C dX6_second_178 rfl ?_
        refine sv_ialdN C 10 (6 * i2 + 9) rfl rfl rfl rfl (by show _ < 86; omega) dX6_second_180 ?_
        refine sv_set (v' := .int (x2 (6 * i2 + 9))) (congrArg Value.int (by simp only [sv_wu, sv_us, sv_uu]; rw [upd_n (show 6 * i2 + 9 ≠ 6 * i2 + 13 by omega)])) ?_
        refine sv_sel_if_le (va := nI 1) (vb := nI 0) C 188 dX6_second_181 (by decide) dX6_second_184 (by decide) dX6_second_185 (by decide) dX6_second_188 (by decide) ?_
        refine sv_set (v' := .int (if x2 (6 * i2 + 9) ≤ 0 then 0 else 1)) (congrArg Value.int rfl) ?_
        refine sv_isub C dX6_second_189 ?_
        refine sv_set (v' := .int (x2 (6 * i2 + 9) - (if x2 (6 * i2 + 9) ≤ 0 then 0 else 1))) (congrArg Value.int rfl) ?_
        refine sv_iastN C 10 (6 * i2 + 9) rfl rfl rfl rfl (by show _ < 86; omega) dX6_second_190 ?_
        refine sv_iinc (i := 2) (x := nI i2) C (nI (i2 + 1)) [(0, .ref (sv_r G 19 0)), (1, .ref (sv_r G 20 0)), (2, .int (nI (i2 + 1))), (3, .int (lampv x2 i2)), (4, .int (nI (6 * i2 + 9)))] dX6_second_191 rfl (sv_incN i2 1) (by decide) rfl ?_
        refine sv_goto C 129 dX6_second_194 (by decide) ?_
        refine sv_sub (lv' := [(0, .ref (sv_r G 19 0)), (1, .ref (sv_r G 20 0)), (2, .int (nI (i2 + 1)))]) rfl ?_
        refine sv_wd (sv_eqW ?_) (ihi2 (by omega) trivial)
        rw [fo_succ, ← hx2]
        show _ = sv_u (sv_u M 15 Y9) 10 (bdn i2 (upd x2 (6 * i2 + 13) (x2 (6 * i2 + 13) + powv (lampv x2 i2))))
        rw [← bdnR, upd_n (show 6 * i2 + 9 ≠ 6 * i2 + 13 by omega)]
        simp only [sv_wu, sv_us, sv_uu]
  · refine sv_aload_n (i := 1) (x := sv_r G 20 0) C dX6_second_18 rfl rfl ?_
    refine sv_iload_n (i := 2) (x := nI i) C dX6_second_19 rfl rfl ?_
    refine sv_iconst (v := nI 1) C dX6_second_20 (by decide) ?_
    obtain ⟨f, hf, efb⟩ := hv i (by omega)
    have ef1 : x1 (4 * i + 59) = nI f := by rw [hx1, focnt_o hv (Or.inr (by omega)) i hi]; exact efb
    refine sv_callS (as := [_, _, _]) (rest := []) C (met_R20_by l G _ _ _ i 1 (by omega) (by omega)) fX6_by kw_801 ⟨Nat.le_of_ble_eq_true rfl, Nat.le_of_ble_eq_true rfl⟩ (Nat.le_of_ble_eq_true rfl) dX6_second_21 ⟨Nat.zero_le _, Nat.zero_le _⟩  ?_
    refine sv_riN f (by rw [sv_us]; exact ef1) ?_
    refine sv_istore_n (i := 3) C [(0, .ref (sv_r G 19 0)), (1, .ref (sv_r G 20 0)), (2, .int (nI i)), (3, .int (nI f))] dX6_second_24 rfl (by decide) rfl ?_
    refine sv_aload_n (i := 1) (x := sv_r G 20 0) C dX6_second_25 rfl rfl ?_
    refine sv_iload_n (i := 3) (x := nI f) C dX6_second_26 rfl rfl ?_
    refine sv_callS (as := [_, _]) (rest := []) C (met_R20_lamp l G _ _ _ f (by omega)) fX6_lamp kw_860 ⟨Nat.le_of_ble_eq_true rfl, Nat.le_of_ble_eq_true rfl⟩ (Nat.le_of_ble_eq_true rfl) dX6_second_27 ⟨Nat.zero_le _, Nat.zero_le _⟩  ?_
    refine sv_riS (lampv x1 f) (by rw [sv_us]) ?_
    refine sv_istore (i := 4) C [(0, .ref (sv_r G 19 0)), (1, .ref (sv_r G 20 0)), (2, .int (nI i)), (3, .int (nI f)), (4, .int (lampv x1 f))] dX6_second_30 (by decide) rfl ?_
    refine sv_aload_n (i := 1) (x := sv_r G 20 0) C dX6_second_32 rfl rfl ?_
    refine sv_bipush (v := nI 9) C dX6_second_33 (by decide) ?_
    refine sv_bipush (v := nI 6) C dX6_second_35 (by decide) ?_
    refine sv_iload_n (i := 3) (x := nI f) C dX6_second_37 rfl rfl ?_
    refine sv_imul C dX6_second_38 ?_
    refine sv_set (v' := .int (nI (6 * f))) (congrArg Value.int (pk_mul _ _)) ?_
    refine sv_iadd C dX6_second_39 ?_
    refine sv_set (v' := .int (nI (6 * f + 9))) (congrArg Value.int (by rw [nI_add]; exact congrArg nI (by omega))) ?_
    refine sv_iconst (v := nI 2) C dX6_second_40 (by decide) ?_
    refine sv_iadd C dX6_second_41 ?_
    refine sv_set (v' := .int (nI (6 * f + 11))) (congrArg Value.int (nI_add _ _)) ?_
    refine sv_dup2_11 C dX6_second_42 rfl rfl ?_
    refine sv_ialdN C 10 (6 * f + 11) rfl rfl rfl rfl (by show _ < 86; omega) dX6_second_43 ?_
    refine sv_set (v' := .int (x1 (6 * f + 11))) (congrArg Value.int (by rw [sv_us])) ?_
    refine sv_iload (i := 4) (x := lampv x1 f) C dX6_second_44 rfl ?_
    refine sv_sel_if_ne (va := nI 1) (vb := nI 0) C 53 dX6_second_46 (by decide) dX6_second_49 (by decide) dX6_second_50 (by decide) dX6_second_53 (by decide) ?_
    refine sv_set (v' := .int (if lampv x1 f = 0 then 1 else 0)) (congrArg Value.int sel_ne) ?_
    refine sv_iadd C dX6_second_54 ?_
    refine sv_set (v' := .int (x1 (6 * f + 11) + (if lampv x1 f = 0 then 1 else 0))) (congrArg Value.int rfl) ?_
    refine sv_iastN C 10 (6 * f + 11) rfl rfl rfl rfl (by show _ < 86; omega) dX6_second_55 ?_
    refine sv_aload_n (i := 1) (x := sv_r G 20 0) C dX6_second_56 rfl rfl ?_
    refine sv_bipush (v := nI 9) C dX6_second_57 (by decide) ?_
    refine sv_bipush (v := nI 6) C dX6_second_59 (by decide) ?_
    refine sv_iload_n (i := 3) (x := nI f) C dX6_second_61 rfl rfl ?_
    refine sv_imul C dX6_second_62 ?_
    refine sv_set (v' := .int (nI (6 * f))) (congrArg Value.int (pk_mul _ _)) ?_
    refine sv_iadd C dX6_second_63 ?_
    refine sv_set (v' := .int (nI (6 * f + 9))) (congrArg Value.int (by rw [nI_add]; exact congrArg nI (by omega))) ?_
    refine sv_iconst (v := nI 3) C dX6_second_64 (by decide) ?_
    refine sv_iadd C dX6_second_65 ?_
    refine sv_set (v' := .int (nI (6 * f + 12))) (congrArg Value.int (nI_add _ _)) ?_
    refine sv_dup2_11 C dX6_second_66 rfl rfl ?_
    refine sv_ialdN C 10 (6 * f + 12) rfl rfl rfl rfl (by show _ < 86; omega) dX6_second_67 ?_
    refine sv_set (v' := .int (x1 (6 * f + 12))) (congrArg Value.int (by simp only [sv_wu, sv_us, sv_uu]; rw [upd_n (show 6 * f + 12 ≠ 6 * f + 11 by omega)])) ?_
    refine sv_iload (i := 4) (x := lampv x1 f) C dX6_second_68 rfl ?_
    refine sv_iconst (v := nI 1) C dX6_second_70 (by decide) ?_
    refine sv_sel_icmp_ne (va := nI 1) (vb := nI 0) C 78 dX6_second_71 (by decide) dX6_second_74 (by decide) dX6_second_75 (by decide) dX6_second_78 (by decide) ?_
    refine sv_set (v' := .int (if lampv x1 f = 1 then 1 else 0)) (congrArg Value.int sel_ne) ?_
    refine sv_iadd C dX6_second_79 ?_
    refine sv_set (v' := .int (x1 (6 * f + 12) + (if lampv x1 f = 1 then 1 else 0))) (congrArg Value.int rfl) ?_
    refine sv_iastN C 10 (6 * f + 12) rfl rfl rfl rfl (by show _ < 86; omega) dX6_second_80 ?_
    refine sv_aload_n (i := 1) (x := sv_r G 20 0) C dX6_second_81 rfl rfl ?_
    refine sv_bipush (v := nI 8) C dX6_second_82 (by decide) ?_
    refine sv_dup2_11 C dX6_second_84 rfl rfl ?_
    refine sv_ialdN C 10 8 rfl rfl rfl rfl (by show _ < 86; omega) dX6_second_85 ?_
    refine sv_set (v' := .int (x1 8)) (congrArg Value.int (by simp only [sv_wu, sv_us, sv_uu]; rw [upd_n (show 8 ≠ 6 * f + 12 by omega), upd_n (show 8 ≠ 6 * f + 11 by omega)])) ?_
    refine sv_iconst (v := nI 1) C dX6_second_86 (by decide) ?_
    refine sv_iadd C dX6_second_87 ?_
    refine sv_set (v' := .int (x1 8 + 1)) (congrArg Value.int rfl) ?_
    refine sv_iastN C 10 8 rfl rfl rfl rfl (by show _ < 86; omega) dX6_second_88 ?_
    refine sv_aload_n (i := 0) (x := sv_r G 19 0) C dX6_second_89 rfl rfl ?_
    refine sv_dup C dX6_second_90 rfl ?_
    refine sv_get_6_12 C kw_734 dX6_second_91 ?_
    refine sv_set (v' := .int (M 15 7 + smI (rdk (M 15 6) b) i)) (congrArg Value.int (by simp only [sv_wu, sv_us, sv_uu]; rw [sv_un (show 15 ≠ 10 by decide), sv_us]; exact upd_s _ _ _)) ?_
    refine sv_iload (i := 4) (x := lampv x1 f) C dX6_second_94 rfl ?_
    refine sv_if_ne C 116 dX6_second_96 (by decide) (fun q96 => ?_) (fun q96 => ?_)
    · refine sv_iconst (v := nI 0) C dX6_second_116 (by decide) ?_
      refine sv_iadd C dX6_second_117 ?_
      refine sv_set (v' := .int (M 15 7 + smI (rdk (M 15 6) b) (i + 1))) (congrArg Value.int (by rw [show smI (rdk (M 15 6) b) (i + 1) = smI (rdk (M 15 6) b) i + rdk (M 15 6) b i from rfl, show rdk (M 15 6) b i = 0 from by unfold rdk; rw [← hx1, efb, nI_clamp (by omega)]; exact if_neg (fun h => q96 h.1), ← Int32.add_assoc]; rfl)) ?_
      refine sv_put_6_12 C kw_734 dX6_second_118 ?_
      refine sv_iinc (i := 2) (x := nI i) C (nI (i + 1)) [(0, .ref (sv_r G 19 0)), (1, .ref (sv_r G 20 0)), (2, .int (nI (i + 1))), (3, .int (nI f)), (4, .int (lampv x1 f))] dX6_second_121 rfl (sv_incN i 1) (by decide) rfl ?_
      refine sv_goto C 10 dX6_second_124 (by decide) ?_
      refine sv_sub (lv' := [(0, .ref (sv_r G 19 0)), (1, .ref (sv_r G 20 0)), (2, .int (nI (i + 1)))]) rfl ?_
      refine sv_wd (sv_eqW ?_) (ihi (by omega) trivial)
      rw [fo_succ, ← hx1]
      show _ = sv_u (sv_u M 15 (dkM M (smI (rdk (M 15 6) b) (i + 1)))) 10 (cnt (x1 (4 * i + 59)).toNatClampNeg x1)
      rw [ef1, nI_clamp (by omega), ← cntR]
      simp only [sv_wu, sv_us, sv_uu]
      rw [sv_un (show 15 ≠ 10 by decide), sv_us, sv_u3 (by decide)]
      show sv_u (sv_u M 15 (upd (upd (M 15) 7 _) 7 _)) 10 _ = _
      rw [upd_u]
      rfl
    · refine sv_aload_n (i := 1) (x := sv_r G 20 0) C dX6_second_99 rfl rfl ?_
      refine sv_iload_n (i := 2) (x := nI i) C dX6_second_100 rfl rfl ?_
      refine sv_iconst (v := nI 0) C dX6_second_101 (by decide) ?_
      refine sv_callS (as := [_, _, _]) (rest := [_, _]) C (met_R20_by l G _ _ _ i 0 (by omega) (by omega)) fX6_by kw_801 ⟨Nat.le_of_ble_eq_true rfl, Nat.le_of_ble_eq_true rfl⟩ (Nat.le_of_ble_eq_true rfl) dX6_second_102 ⟨Nat.zero_le _, Nat.zero_le _⟩  ?_
      refine sv_riS (b (4 * i + 58)) (by simp only [sv_wu, sv_us, sv_uu]; rw [upd_n (show 4 * i + 58 ≠ 8 by omega), upd_n (show 4 * i + 58 ≠ 6 * f + 12 by omega), upd_n (show 4 * i + 58 ≠ 6 * f + 11 by omega), hx1, focnt_o hv (Or.inr (by omega)) i hi]) ?_
      refine sv_aload_n (i := 0) (x := sv_r G 19 0) C dX6_second_105 rfl rfl ?_
      refine sv_get_6_11 C kw_733 dX6_second_106 ?_
      refine sv_set (v' := .int (M 15 6)) (congrArg Value.int (by simp only [sv_wu, sv_us, sv_uu]; rw [sv_un (show 15 ≠ 10 by decide), sv_us]; exact upd_n (by decide))) ?_
      refine sv_icmp_ne C 116 dX6_second_109 (by decide) (fun q109 => ?_) (fun q109 => ?_)
      · have q109 : ¬ b (4 * i + 58) = M 15 6 := q109
        refine sv_iconst (v := nI 0) C dX6_second_116 (by decide) ?_
        refine sv_iadd C dX6_second_117 ?_
        refine sv_set (v' := .int (M 15 7 + smI (rdk (M 15 6) b) (i + 1))) (congrArg Value.int (by rw [show smI (rdk (M 15 6) b) (i + 1) = smI (rdk (M 15 6) b) i + rdk (M 15 6) b i from rfl, show rdk (M 15 6) b i = 0 from by unfold rdk; rw [← hx1, efb, nI_clamp (by omega)]; exact if_neg (fun h => q109 h.2), ← Int32.add_assoc]; rfl)) ?_
        refine sv_put_6_12 C kw_734 dX6_second_118 ?_
        refine sv_iinc (i := 2) (x := nI i) C (nI (i + 1)) [(0, .ref (sv_r G 19 0)), (1, .ref (sv_r G 20 0)), (2, .int (nI (i + 1))), (3, .int (nI f)), (4, .int (lampv x1 f))] dX6_second_121 rfl (sv_incN i 1) (by decide) rfl ?_
        refine sv_goto C 10 dX6_second_124 (by decide) ?_
        refine sv_sub (lv' := [(0, .ref (sv_r G 19 0)), (1, .ref (sv_r G 20 0)), (2, .int (nI (i + 1)))]) rfl ?_
        refine sv_wd (sv_eqW ?_) (ihi (by omega) trivial)
        rw [fo_succ, ← hx1]
        show _ = sv_u (sv_u M 15 (dkM M (smI (rdk (M 15 6) b) (i + 1)))) 10 (cnt (x1 (4 * i + 59)).toNatClampNeg x1)
        rw [ef1, nI_clamp (by omega), ← cntR]
        simp only [sv_wu, sv_us, sv_uu]
        rw [sv_un (show 15 ≠ 10 by decide), sv_us, sv_u3 (by decide)]
        show sv_u (sv_u M 15 (upd (upd (M 15) 7 _) 7 _)) 10 _ = _
        rw [upd_u]
        rfl
      · have q109 : b (4 * i + 58) = M 15 6 := q109
        refine sv_iconst (v := nI 1) C dX6_second_112 (by decide) ?_
        refine sv_goto C 117 dX6_second_113 (by decide) ?_
        refine sv_iadd C dX6_second_117 ?_
        refine sv_set (v' := .int (M 15 7 + smI (rdk (M 15 6) b) (i + 1))) (congrArg Value.int (by rw [show smI (rdk (M 15 6) b) (i + 1) = smI (rdk (M 15 6) b) i + rdk (M 15 6) b i from rfl, show rdk (M 15 6) b i = 1 from by unfold rdk; rw [← hx1, efb, nI_clamp (by omega)]; exact if_pos ⟨q96, q109⟩, ← Int32.add_assoc]; rfl)) ?_
        refine sv_put_6_12 C kw_734 dX6_second_118 ?_
        refine sv_iinc (i := 2) (x := nI i) C (nI (i + 1)) [(0, .ref (sv_r G 19 0)), (1, .ref (sv_r G 20 0)), (2, .int (nI (i + 1))), (3, .int (nI f)), (4, .int (lampv x1 f))] dX6_second_121 rfl (sv_incN i 1) (by decide) rfl ?_
        refine sv_goto C 10 dX6_second_124 (by decide) ?_
        refine sv_sub (lv' := [(0, .ref (sv_r G 19 0)), (1, .ref (sv_r G 20 0)), (2, .int (nI (i + 1)))]) rfl ?_
        refine sv_wd (sv_eqW ?_) (ihi (by omega) trivial)
        rw [fo_succ, ← hx1]
        show _ = sv_u (sv_u M 15 (dkM M (smI (rdk (M 15 6) b) (i + 1)))) 10 (cnt (x1 (4 * i + 59)).toNatClampNeg x1)
        rw [ef1, nI_clamp (by omega), ← cntR]
        simp only [sv_wu, sv_us, sv_uu]
        rw [sv_un (show 15 ≠ 10 by decide), sv_us, sv_u3 (by decide)]
        show sv_u (sv_u M 15 (upd (upd (M 15) 7 _) 7 _)) 10 _ = _
        rw [upd_u]
        rfl

set_option maxHeartbeats 800000 in
set_option maxRecDepth 100000 in
theorem met_R21_second (l : Launch) (G : sv_G) (z : Nat) (M : sv_M) (o : Int64) (hg : rgd (M 11)) : sv_Met l G yX6_second cX6_second 5 none 3 [.ref (sv_r G 19 0), .ref (sv_r G 21 0)] (sv_W G z M o) none (sv_W G z (sv_u (sv_u M 15 (dkM M (rdks (M 15 6) (many (M 11)) (M 11)))) 11 (rsc (M 11))) o) := by
  refine sv_ofW (by decide) kw_847 (Nat.le_of_ble_eq_true rfl) ?_
  intro p e s mth args below meth c hr C _
  obtain ⟨hm, hm7, b6, hv⟩ := hg
  obtain ⟨n', hn'⟩ : ∃ n, n = rwn (many (M 11)) (M 11) := ⟨_, rfl⟩
  obtain ⟨b, hb⟩ : ∃ x, x = rbg (many (M 11)) (M 11) := ⟨_, rfl⟩
  have hle : n' ≤ many (M 11) := by rw [hn']; exact (rwk_57 hm).2
  have hb57 : b 57 = nI n' := by rw [hb, hn']; exact rbg_57 hm
  have hb6 : b 6 = 0 ∨ b 6 = 1 := by rw [hb, rbg_lo (by decide)]; exact b6
  have hrw : rwn (many (M 11)) (M 11) = n' := hn'.symm
  rw [← hn', ← hb] at hv
  refine sv_sub (lv' := [(0, .ref (sv_r G 19 0)), (1, .ref (sv_r G 21 0))]) rfl ?_
  refine sv_aload_n (i := 1) (x := sv_r G 21 0) C dX6_second_0 rfl rfl ?_
  refine sv_callS (as := [_]) (rest := []) C (met_R21_walks l G _ _ _ (many (M 11)) hm hm7) fX6_walks kw_848 ⟨Nat.le_of_ble_eq_true rfl, Nat.le_of_ble_eq_true rfl⟩ (Nat.le_of_ble_eq_true rfl) dX6_second_1 ⟨Nat.zero_le _, Nat.zero_le _⟩  ?_
  refine sv_rv ?_
  refine sv_aload_n (i := 1) (x := sv_r G 21 0) C dX6_second_4 rfl rfl ?_
  refine sv_callS (as := [_]) (rest := []) C (met_R21_looks l G _ _ _ n' (by rw [sv_us]; exact (rwk_57 hm).1.trans (congrArg nI hrw)) (by omega)) fX6_looks kw_854 ⟨Nat.le_of_ble_eq_true rfl, Nat.le_of_ble_eq_true rfl⟩ (Nat.le_of_ble_eq_true rfl) dX6_second_5 ⟨Nat.zero_le _, Nat.zero_le _⟩  ?_
  refine sv_rv ?_
  refine sv_wd (sv_eqW (show _ = sv_u M 11 b from by rw [hb]; unfold rbg; rw [hrw]; simp only [sv_us, sv_uu])) ?_
  refine sv_iconst (v := nI 0) C dX6_second_8 (by decide) ?_
  refine sv_istore_n (i := 2) C [(0, .ref (sv_r G 19 0)), (1, .ref (sv_r G 21 0)), (2, .int (nI 0))] dX6_second_9 rfl (by decide) rfl ?_
  refine sv_wd (sv_eqW (show _ = sv_u (sv_u M 15 (dkM M (smI (rdk (M 15 6) b) 0))) 11 (fo cntp 0 b) from by show _ = sv_u (sv_u M 15 (dkM M 0)) 11 b; rw [dkM_0, sv_ui, hb])) ?_
  refine sv_loop (N := n') (I := fun i => True) (Wf := fun i => sv_W G z (sv_u (sv_u M 15 (dkM M (smI (rdk (M 15 6) b) i))) 11 (fo cntp i b)) o) (Lf := fun i => [(0, .ref (sv_r G 19 0)), (1, .ref (sv_r G 21 0)), (2, .int (nI i))]) 0 (Nat.zero_le _) trivial (fun i hi0 hi hIi ihi => ?_)
  obtain ⟨x1, hx1⟩ : ∃ x, x = fo cntp i b := ⟨_, rfl⟩
  rw [← hx1]
  refine sv_iload_n (i := 2) (x := nI i) C dX6_second_10 rfl rfl ?_
  refine sv_aload_n (i := 1) (x := sv_r G 21 0) C dX6_second_11 rfl rfl ?_
  refine sv_bipush (v := nI 57) C dX6_second_12 (by decide) ?_
  refine sv_ialdN C 11 57 rfl rfl rfl rfl (by show _ < 86; omega) dX6_second_14 ?_
  refine sv_set (v' := .int (nI n')) (congrArg Value.int (by rw [sv_us, hx1, focnt_o hv (Or.inr (by decide)) i hi]; exact hb57)) ?_
  refine sv_icmp_geN C 127 dX6_second_15 (by decide) (by omega) (by omega) (fun q15 => ?_) (fun q15 => ?_)
  · refine sv_iconst (v := nI 0) C dX6_second_127 (by decide) ?_
    refine sv_istore_n (i := 2) C [(0, .ref (sv_r G 19 0)), (1, .ref (sv_r G 21 0)), (2, .int (nI 0))] dX6_second_128 rfl (by decide) rfl ?_
    rw [show i = n' from by omega] at hx1
    obtain ⟨z9, hz9⟩ : ∃ x, x = fo cntp n' b := ⟨_, rfl⟩
    obtain ⟨Y9, hY9⟩ : ∃ x, x = dkM M (smI (rdk (M 15 6) b) n') := ⟨_, rfl⟩
    refine sv_wd (sv_eqW (show _ = sv_u (sv_u M 15 Y9) 11 (fo fend 0 z9) from by rw [hx1, hY9, hz9, show i = n' from by omega]; rfl)) ?_
    have z96 : z9 6 = 0 ∨ z9 6 = 1 := by rw [hz9, focnt_o hv (Or.inl (by decide)) n' (Nat.le_refl _)]; exact hb6
    refine sv_loop (N := 8) (I := fun i2 => True) (Wf := fun i2 => sv_W G z (sv_u (sv_u M 15 Y9) 11 (fo fend i2 z9)) o) (Lf := fun i2 => [(0, .ref (sv_r G 19 0)), (1, .ref (sv_r G 21 0)), (2, .int (nI i2))]) 0 (Nat.zero_le _) trivial (fun i2 hi20 hi2 hIi2 ihi2 => ?_)
    obtain ⟨x2, hx2⟩ : ∃ x, x = fo fend i2 z9 := ⟨_, rfl⟩
    rw [← hx2]
    have x26 : x2 6 = 0 ∨ x2 6 = 1 := by rw [hx2, fofend_o (Or.inl (by decide)) i2 hi2]; exact z96
    refine sv_iload_n (i := 2) (x := nI i2) C dX6_second_129 rfl rfl ?_
    refine sv_bipush (v := nI 8) C dX6_second_130 (by decide) ?_
    refine sv_icmp_geN C 197 dX6_second_132 (by decide) (by omega) (by omega) (fun q132 => ?_) (fun q132 => ?_)
    · rw [show i2 = 8 from by omega] at hx2
      refine sv_aload_n (i := 1) (x := sv_r G 21 0) C dX6_second_197 rfl rfl ?_
      refine sv_iconst (v := nI 4) C dX6_second_198 (by decide) ?_
      refine sv_dup2_11 C dX6_second_199 rfl rfl ?_
      refine sv_ialdN C 11 4 rfl rfl rfl rfl (by show _ < 86; omega) dX6_second_200 ?_
      refine sv_set (v' := .int (x2 4)) (congrArg Value.int (by rw [sv_us])) ?_
      refine sv_iconst (v := nI 1) C dX6_second_201 (by decide) ?_
      refine sv_iadd C dX6_second_202 ?_
      refine sv_set (v' := .int (x2 4 + 1)) (congrArg Value.int rfl) ?_
      refine sv_iastN C 11 4 rfl rfl rfl rfl (by show _ < 86; omega) dX6_second_203 ?_
      exact sv_vret C hr dX6_second_204 (Nat.le_of_ble_eq_true rfl) (Nat.le_of_ble_eq_true rfl) (sv_eqW (by simp only [sv_wu, sv_us, sv_uu]; unfold rsc rsec rdks endv; rw [hx2, hz9, hY9, ← hb, hrw]))
    · refine sv_aload_n (i := 1) (x := sv_r G 21 0) C dX6_second_135 rfl rfl ?_
      refine sv_iload_n (i := 2) (x := nI i2) C dX6_second_136 rfl rfl ?_
      refine sv_callS (as := [_, _]) (rest := []) C (met_R21_lamp l G _ _ _ i2 (by omega)) fX6_lamp kw_860 ⟨Nat.le_of_ble_eq_true rfl, Nat.le_of_ble_eq_true rfl⟩ (Nat.le_of_ble_eq_true rfl) dX6_second_137 ⟨Nat.zero_le _, Nat.zero_le _⟩  ?_
      refine sv_riS (lampv x2 i2) (by rw [sv_us]) ?_
      refine sv_istore_n (i := 3) C [(0, .ref (sv_r G 19 0)), (1, .ref (sv_r G 21 0)), (2, .int (nI i2)), (3, .int (lampv x2 i2))] dX6_second_140 rfl (by decide) rfl ?_
      refine sv_bipush (v := nI 9) C dX6_second_141 (by decide) ?_
      refine sv_bipush (v := nI 6) C dX6_second_143 (by decide) ?_
      refine sv_iload_n (i := 2) (x := nI i2) C dX6_second_145 rfl rfl ?_
      refine sv_imul C dX6_second_146 ?_
      refine sv_set (v' := .int (nI (6 * i2))) (congrArg Value.int (pk_mul _ _)) ?_
      refine sv_iadd C dX6_second_147 ?_
      refine sv_set (v' := .int (nI (6 * i2 + 9))) (congrArg Value.int (by rw [nI_add]; exact congrArg nI (by omega))) ?_
      refine sv_istore (i := 4) C [(0, .ref (sv_r G 19 0)), (1, .ref (sv_r G 21 0)), (2, .int (nI i2)), (3, .int (lampv x2 i2)), (4, .int (nI (6 * i2 + 9)))] dX6_second_148 (by decide) rfl ?_
      refine sv_aload_n (i := 1) (x := sv_r G 21 0) C dX6_second_150 rfl rfl ?_
      refine sv_iload (i := 4) (x := nI (6 * i2 + 9)) C dX6_second_151 rfl ?_
      refine sv_iconst (v := nI 4) C dX6_second_153 (by decide) ?_
      refine sv_iadd C dX6_second_154 ?_
      refine sv_set (v' := .int (nI (6 * i2 + 13))) (congrArg Value.int (nI_add _ _)) ?_
      refine sv_dup2_11 C dX6_second_155 rfl rfl ?_
      refine sv_ialdN C 11 (6 * i2 + 13) rfl rfl rfl rfl (by show _ < 86; omega) dX6_second_156 ?_
      refine sv_set (v' := .int (x2 (6 * i2 + 13))) (congrArg Value.int (by rw [sv_us])) ?_
      refine sv_iload_n (i := 3) (x := lampv x2 i2) C dX6_second_157 rfl rfl ?_
      refine sv_iconst (v := nI 2) C dX6_second_158 (by decide) ?_
      refine sv_icmp_lt C 167 dX6_second_159 (by decide) (fun q159 => ?_) (fun q159 => ?_)
      · have q159 : lampv x2 i2 < 2 := q159
        refine sv_iconst (v := nI 3) C dX6_second_167 (by decide) ?_
        refine sv_iload_n (i := 3) (x := lampv x2 i2) C dX6_second_168 rfl rfl ?_
        refine sv_imul C dX6_second_169 ?_
        refine sv_set (v' := .int (powv (lampv x2 i2))) (congrArg Value.int (powR x26 q159)) ?_
        refine sv_iadd C dX6_second_170 ?_
        refine sv_set (v' := .int (x2 (6 * i2 + 13) + powv (lampv x2 i2))) (congrArg Value.int rfl) ?_
        refine sv_iastN C 11 (6 * i2 + 13) rfl rfl rfl rfl (by show _ < 86; omega) dX6_second_171 ?_
        refine sv_aload_n (i := 1) (x := sv_r G 21 0) C dX6_second_172 rfl rfl ?_
        refine sv_iload (i := 4) (x := nI (6 * i2 + 9)) C dX6_second_173 rfl ?_
        refine sv_dup2_11 C dX6_second_175 rfl rfl ?_
        refine sv_ialdN C 11 (6 * i2 + 9) rfl rfl rfl rfl (by show _ < 86; omega) dX6_second_176 ?_
        refine sv_set (v' := .int (x2 (6 * i2 + 9))) (congrArg Value.int (by simp only [sv_wu, sv_us, sv_uu]; rw [upd_n (show 6 * i2 + 9 ≠ 6 * i2 + 13 by omega)])) ?_
        refine sv_aload_n (i := 1) (x := sv_r G 21 0) C dX6_second_177 rfl rfl ?_
        refine sv_iload (i := 4) (x := nI (6 * i2 + 9)) C dX6_second_178 rfl ?_
        refine sv_ialdN C 11 (6 * i2 + 9) rfl rfl rfl rfl (by show _ < 86; omega) dX6_second_180 ?_
        refine sv_set (v' := .int (x2 (6 * i2 + 9))) (congrArg Value.int (by simp only [sv_wu, sv_us, sv_uu]; rw [upd_n (show 6 * i2 + 9 ≠ 6 * i2 + 13 by omega)])) ?_
        refine sv_sel_if_le (va := nI 1) (vb := nI 0) C 188 dX6_second_181 (by decide) dX6_second_184 (by decide) dX6_second_185 (by decide) dX6_second_188 (by decide) ?_
        refine sv_set (v' := .int (if x2 (6 * i2 + 9) ≤ 0 then 0 else 1)) (congrArg Value.int rfl) ?_
        refine sv_isub C dX6_second_189 ?_
        refine sv_set (v' := .int (x2 (6 * i2 + 9) - (if x2 (6 * i2 + 9) ≤ 0 then 0 else 1))) (congrArg Value.int rfl) ?_
        refine sv_iastN C 11 (6 * i2 + 9) rfl rfl rfl rfl (by show _ < 86; omega) dX6_second_190 ?_
        refine sv_iinc (i := 2) (x := nI i2) C (nI (i2 + 1)) [(0, .ref (sv_r G 19 0)), (1, .ref (sv_r G 21 0)), (2, .int (nI (i2 + 1))), (3, .int (lampv x2 i2)), (4, .int (nI (6 * i2 + 9)))] dX6_second_191 rfl (sv_incN i2 1) (by decide) rfl ?_
        refine sv_goto C 129 dX6_second_194 (by decide) ?_
        refine sv_sub (lv' := [(0, .ref (sv_r G 19 0)), (1, .ref (sv_r G 21 0)), (2, .int (nI (i2 + 1)))]) rfl ?_
        refine sv_wd (sv_eqW ?_) (ihi2 (by omega) trivial)
        rw [fo_succ, ← hx2]
        show _ = sv_u (sv_u M 15 Y9) 11 (bdn i2 (upd x2 (6 * i2 + 13) (x2 (6 * i2 + 13) + powv (lampv x2 i2))))
        rw [← bdnR, upd_n (show 6 * i2 + 9 ≠ 6 * i2 + 13 by omega)]
        simp only [sv_wu, sv_us, sv_uu]
      · have q159 : ¬ lampv x2 i2 < 2 := q159
        refine sv_bipush (v := nI 10) C dX6_second_162 (by decide) ?_
        refine sv_goto C 170 dX6_second_164 (by decide) ?_
        refine sv_iadd C dX6_second_170 ?_
        refine sv_set (v' := .int (x2 (6 * i2 + 13) + powv (lampv x2 i2))) (congrArg Value.int (by unfold powv; rw [if_neg q159]; rfl)) ?_
        refine sv_iastN C 11 (6 * i2 + 13) rfl rfl rfl rfl (by show _ < 86; omega) dX6_second_171 ?_
        refine sv_aload_n (i := 1) (x := sv_r G 21 0) C dX6_second_172 rfl rfl ?_
        refine sv_iload (i := 4) (x := nI (6 * i2 + 9)) C dX6_second_173 rfl ?_
        refine sv_dup2_11 C dX6_second_175 rfl rfl ?_
        refine sv_ialdN C 11 (6 * i2 + 9) rfl rfl rfl rfl (by show _ < 86; omega) dX6_second_176 ?_
        refine sv_set (v' := .int (x2 (6 * i2 + 9))) (congrArg Value.int (by simp only [sv_wu, sv_us, sv_uu]; rw [upd_n (show 6 * i2 + 9 ≠ 6 * i2 + 13 by omega)])) ?_
        refine sv_aload_n (i := 1) (x := sv_r G 21 0) C dX6_second_177 rfl rfl ?_
        refine sv_iload (i := 4) (x := nI (6 * i2 + 9)) C dX6_second_178 rfl ?_
        refine sv_ialdN C 11 (6 * i2 + 9) rfl rfl rfl rfl (by show _ < 86; omega) dX6_second_180 ?_
        refine sv_set (v' := .int (x2 (6 * i2 + 9))) (congrArg Value.int (by simp only [sv_wu, sv_us, sv_uu]; rw [upd_n (show 6 * i2 + 9 ≠ 6 * i2 + 13 by omega)])) ?_
        refine sv_sel_if_le (va := nI 1) (vb := nI 0) C 188 dX6_second_181 (by decide) dX6_second_184 (by decide) dX6_second_185 (by decide) dX6_second_188 (by decide) ?_
        refine sv_set (v' := .int (if x2 (6 * i2 + 9) ≤ 0 then 0 else 1)) (congrArg Value.int rfl) ?_
        refine sv_isub C dX6_second_189 ?_
        refine sv_set (v' := .int (x2 (6 * i2 + 9) - (if x2 (6 * i2 + 9) ≤ 0 then 0 else 1))) (congrArg Value.int rfl) ?_
        refine sv_iastN C 11 (6 * i2 + 9) rfl rfl rfl rfl (by show _ < 86; omega) dX6_second_190 ?_
        refine sv_iinc (i := 2) (x := nI i2) C (nI (i2 + 1)) [(0, .ref (sv_r G 19 0)), (1, .ref (sv_r G 21 0)), (2, .int (nI (i2 + 1))), (3, .int (lampv x2 i2)), (4, .int (nI (6 * i2 + 9)))] dX6_second_191 rfl (sv_incN i2 1) (by decide) rfl ?_
        refine sv_goto C 129 dX6_second_194 (by decide) ?_
        refine sv_sub (lv' := [(0, .ref (sv_r G 19 0)), (1, .ref (sv_r G 21 0)), (2, .int (nI (i2 + 1)))]) rfl ?_
        refine sv_wd (sv_eqW ?_) (ihi2 (by omega) trivial)
        rw [fo_succ, ← hx2]
        show _ = sv_u (sv_u M 15 Y9) 11 (bdn i2 (upd x2 (6 * i2 + 13) (x2 (6 * i2 + 13) + powv (lampv x2 i2))))
        rw [← bdnR, upd_n (show 6 * i2 + 9 ≠ 6 * i2 + 13 by omega)]
        simp only [sv_wu, sv_us, sv_uu]
  · refine sv_aload_n (i := 1) (x := sv_r G 21 0) C dX6_second_18 rfl rfl ?_
    refine sv_iload_n (i := 2) (x := nI i) C dX6_second_19 rfl rfl ?_
    refine sv_iconst (v := nI 1) C dX6_second_20 (by decide) ?_
    obtain ⟨f, hf, efb⟩ := hv i (by omega)
    have ef1 : x1 (4 * i + 59) = nI f := by rw [hx1, focnt_o hv (Or.inr (by omega)) i hi]; exact efb
    refine sv_callS (as := [_, _, _]) (rest := []) C (met_R21_by l G _ _ _ i 1 (by omega) (by omega)) fX6_by kw_801 ⟨Nat.le_of_ble_eq_true rfl, Nat.le_of_ble_eq_true rfl⟩ (Nat.le_of_ble_eq_true rfl) dX6_second_21 ⟨Nat.zero_le _, Nat.zero_le _⟩  ?_
    refine sv_riN f (by rw [sv_us]; exact ef1) ?_
    refine sv_istore_n (i := 3) C [(0, .ref (sv_r G 19 0)), (1, .ref (sv_r G 21 0)), (2, .int (nI i)), (3, .int (nI f))] dX6_second_24 rfl (by decide) rfl ?_
    refine sv_aload_n (i := 1) (x := sv_r G 21 0) C dX6_second_25 rfl rfl ?_
    refine sv_iload_n (i := 3) (x := nI f) C dX6_second_26 rfl rfl ?_
    refine sv_callS (as := [_, _]) (rest := []) C (met_R21_lamp l G _ _ _ f (by omega)) fX6_lamp kw_860 ⟨Nat.le_of_ble_eq_true rfl, Nat.le_of_ble_eq_true rfl⟩ (Nat.le_of_ble_eq_true rfl) dX6_second_27 ⟨Nat.zero_le _, Nat.zero_le _⟩  ?_
    refine sv_riS (lampv x1 f) (by rw [sv_us]) ?_
    refine sv_istore (i := 4) C [(0, .ref (sv_r G 19 0)), (1, .ref (sv_r G 21 0)), (2, .int (nI i)), (3, .int (nI f)), (4, .int (lampv x1 f))] dX6_second_30 (by decide) rfl ?_
    refine sv_aload_n (i := 1) (x := sv_r G 21 0) C dX6_second_32 rfl rfl ?_
    refine sv_bipush (v := nI 9) C dX6_second_33 (by decide) ?_
    refine sv_bipush (v := nI 6) C dX6_second_35 (by decide) ?_
    refine sv_iload_n (i := 3) (x := nI f) C dX6_second_37 rfl rfl ?_
    refine sv_imul C dX6_second_38 ?_
    refine sv_set (v' := .int (nI (6 * f))) (congrArg Value.int (pk_mul _ _)) ?_
    refine sv_iadd C dX6_second_39 ?_
    refine sv_set (v' := .int (nI (6 * f + 9))) (congrArg Value.int (by rw [nI_add]; exact congrArg nI (by omega))) ?_
    refine sv_iconst (v := nI 2) C dX6_second_40 (by decide) ?_
    refine sv_iadd C dX6_second_41 ?_
    refine sv_set (v' := .int (nI (6 * f + 11))) (congrArg Value.int (nI_add _ _)) ?_
    refine sv_dup2_11 C dX6_second_42 rfl rfl ?_
    refine sv_ialdN C 11 (6 * f + 11) rfl rfl rfl rfl (by show _ < 86; omega) dX6_second_43 ?_
    refine sv_set (v' := .int (x1 (6 * f + 11))) (congrArg Value.int (by rw [sv_us])) ?_
    refine sv_iload (i := 4) (x := lampv x1 f) C dX6_second_44 rfl ?_
    refine sv_sel_if_ne (va := nI 1) (vb := nI 0) C 53 dX6_second_46 (by decide) dX6_second_49 (by decide) dX6_second_50 (by decide) dX6_second_53 (by decide) ?_
    refine sv_set (v' := .int (if lampv x1 f = 0 then 1 else 0)) (congrArg Value.int sel_ne) ?_
    refine sv_iadd C dX6_second_54 ?_
    refine sv_set (v' := .int (x1 (6 * f + 11) + (if lampv x1 f = 0 then 1 else 0))) (congrArg Value.int rfl) ?_
    refine sv_iastN C 11 (6 * f + 11) rfl rfl rfl rfl (by show _ < 86; omega) dX6_second_55 ?_
    refine sv_aload_n (i := 1) (x := sv_r G 21 0) C dX6_second_56 rfl rfl ?_
    refine sv_bipush (v := nI 9) C dX6_second_57 (by decide) ?_
    refine sv_bipush (v := nI 6) C dX6_second_59 (by decide) ?_
    refine sv_iload_n (i := 3) (x := nI f) C dX6_second_61 rfl rfl ?_
    refine sv_imul C dX6_second_62 ?_
    refine sv_set (v' := .int (nI (6 * f))) (congrArg Value.int (pk_mul _ _)) ?_
    refine sv_iadd C dX6_second_63 ?_
    refine sv_set (v' := .int (nI (6 * f + 9))) (congrArg Value.int (by rw [nI_add]; exact congrArg nI (by omega))) ?_
    refine sv_iconst (v := nI 3) C dX6_second_64 (by decide) ?_
    refine sv_iadd C dX6_second_65 ?_
    refine sv_set (v' := .int (nI (6 * f + 12))) (congrArg Value.int (nI_add _ _)) ?_
    refine sv_dup2_11 C dX6_second_66 rfl rfl ?_
    refine sv_ialdN C 11 (6 * f + 12) rfl rfl rfl rfl (by show _ < 86; omega) dX6_second_67 ?_
    refine sv_set (v' := .int (x1 (6 * f + 12))) (congrArg Value.int (by simp only [sv_wu, sv_us, sv_uu]; rw [upd_n (show 6 * f + 12 ≠ 6 * f + 11 by omega)])) ?_
    refine sv_iload (i := 4) (x := lampv x1 f) C dX6_second_68 rfl ?_
    refine sv_iconst (v := nI 1) C dX6_second_70 (by decide) ?_
    refine sv_sel_icmp_ne (va := nI 1) (vb := nI 0) C 78 dX6_second_71 (by decide) dX6_second_74 (by decide) dX6_second_75 (by decide) dX6_second_78 (by decide) ?_
    refine sv_set (v' := .int (if lampv x1 f = 1 then 1 else 0)) (congrArg Value.int sel_ne) ?_
    refine sv_iadd C dX6_second_79 ?_
    refine sv_set (v' := .int (x1 (6 * f + 12) + (if lampv x1 f = 1 then 1 else 0))) (congrArg Value.int rfl) ?_
    refine sv_iastN C 11 (6 * f + 12) rfl rfl rfl rfl (by show _ < 86; omega) dX6_second_80 ?_
    refine sv_aload_n (i := 1) (x := sv_r G 21 0) C dX6_second_81 rfl rfl ?_
    refine sv_bipush (v := nI 8) C dX6_second_82 (by decide) ?_
    refine sv_dup2_11 C dX6_second_84 rfl rfl ?_
    refine sv_ialdN C 11 8 rfl rfl rfl rfl (by show _ < 86; omega) dX6_second_85 ?_
    refine sv_set (v' := .int (x1 8)) (congrArg Value.int (by simp only [sv_wu, sv_us, sv_uu]; rw [upd_n (show 8 ≠ 6 * f + 12 by omega), upd_n (show 8 ≠ 6 * f + 11 by omega)])) ?_
    refine sv_iconst (v := nI 1) C dX6_second_86 (by decide) ?_
    refine sv_iadd C dX6_second_87 ?_
    refine sv_set (v' := .int (x1 8 + 1)) (congrArg Value.int rfl) ?_
    refine sv_iastN C 11 8 rfl rfl rfl rfl (by show _ < 86; omega) dX6_second_88 ?_
    refine sv_aload_n (i := 0) (x := sv_r G 19 0) C dX6_second_89 rfl rfl ?_
    refine sv_dup C dX6_second_90 rfl ?_
    refine sv_get_6_12 C kw_734 dX6_second_91 ?_
    refine sv_set (v' := .int (M 15 7 + smI (rdk (M 15 6) b) i)) (congrArg Value.int (by simp only [sv_wu, sv_us, sv_uu]; rw [sv_un (show 15 ≠ 11 by decide), sv_us]; exact upd_s _ _ _)) ?_
    refine sv_iload (i := 4) (x := lampv x1 f) C dX6_second_94 rfl ?_
    refine sv_if_ne C 116 dX6_second_96 (by decide) (fun q96 => ?_) (fun q96 => ?_)
    · refine sv_iconst (v := nI 0) C dX6_second_116 (by decide) ?_
      refine sv_iadd C dX6_second_117 ?_
      refine sv_set (v' := .int (M 15 7 + smI (rdk (M 15 6) b) (i + 1))) (congrArg Value.int (by rw [show smI (rdk (M 15 6) b) (i + 1) = smI (rdk (M 15 6) b) i + rdk (M 15 6) b i from rfl, show rdk (M 15 6) b i = 0 from by unfold rdk; rw [← hx1, efb, nI_clamp (by omega)]; exact if_neg (fun h => q96 h.1), ← Int32.add_assoc]; rfl)) ?_
      refine sv_put_6_12 C kw_734 dX6_second_118 ?_
      refine sv_iinc (i := 2) (x := nI i) C (nI (i + 1)) [(0, .ref (sv_r G 19 0)), (1, .ref (sv_r G 21 0)), (2, .int (nI (i + 1))), (3, .int (nI f)), (4, .int (lampv x1 f))] dX6_second_121 rfl (sv_incN i 1) (by decide) rfl ?_
      refine sv_goto C 10 dX6_second_124 (by decide) ?_
      refine sv_sub (lv' := [(0, .ref (sv_r G 19 0)), (1, .ref (sv_r G 21 0)), (2, .int (nI (i + 1)))]) rfl ?_
      refine sv_wd (sv_eqW ?_) (ihi (by omega) trivial)
      rw [fo_succ, ← hx1]
      show _ = sv_u (sv_u M 15 (dkM M (smI (rdk (M 15 6) b) (i + 1)))) 11 (cnt (x1 (4 * i + 59)).toNatClampNeg x1)
      rw [ef1, nI_clamp (by omega), ← cntR]
      simp only [sv_wu, sv_us, sv_uu]
      rw [sv_un (show 15 ≠ 11 by decide), sv_us, sv_u3 (by decide)]
      show sv_u (sv_u M 15 (upd (upd (M 15) 7 _) 7 _)) 11 _ = _
      rw [upd_u]
      rfl
    · refine sv_aload_n (i := 1) (x := sv_r G 21 0) C dX6_second_99 rfl rfl ?_
      refine sv_iload_n (i := 2) (x := nI i) C dX6_second_100 rfl rfl ?_
      refine sv_iconst (v := nI 0) C dX6_second_101 (by decide) ?_
      refine sv_callS (as := [_, _, _]) (rest := [_, _]) C (met_R21_by l G _ _ _ i 0 (by omega) (by omega)) fX6_by kw_801 ⟨Nat.le_of_ble_eq_true rfl, Nat.le_of_ble_eq_true rfl⟩ (Nat.le_of_ble_eq_true rfl) dX6_second_102 ⟨Nat.zero_le _, Nat.zero_le _⟩  ?_
      refine sv_riS (b (4 * i + 58)) (by simp only [sv_wu, sv_us, sv_uu]; rw [upd_n (show 4 * i + 58 ≠ 8 by omega), upd_n (show 4 * i + 58 ≠ 6 * f + 12 by omega), upd_n (show 4 * i + 58 ≠ 6 * f + 11 by omega), hx1, focnt_o hv (Or.inr (by omega)) i hi]) ?_
      refine sv_aload_n (i := 0) (x := sv_r G 19 0) C dX6_second_105 rfl rfl ?_
      refine sv_get_6_11 C kw_733 dX6_second_106 ?_
      refine sv_set (v' := .int (M 15 6)) (congrArg Value.int (by simp only [sv_wu, sv_us, sv_uu]; rw [sv_un (show 15 ≠ 11 by decide), sv_us]; exact upd_n (by decide))) ?_
      refine sv_icmp_ne C 116 dX6_second_109 (by decide) (fun q109 => ?_) (fun q109 => ?_)
      · have q109 : ¬ b (4 * i + 58) = M 15 6 := q109
        refine sv_iconst (v := nI 0) C dX6_second_116 (by decide) ?_
        refine sv_iadd C dX6_second_117 ?_
        refine sv_set (v' := .int (M 15 7 + smI (rdk (M 15 6) b) (i + 1))) (congrArg Value.int (by rw [show smI (rdk (M 15 6) b) (i + 1) = smI (rdk (M 15 6) b) i + rdk (M 15 6) b i from rfl, show rdk (M 15 6) b i = 0 from by unfold rdk; rw [← hx1, efb, nI_clamp (by omega)]; exact if_neg (fun h => q109 h.2), ← Int32.add_assoc]; rfl)) ?_
        refine sv_put_6_12 C kw_734 dX6_second_118 ?_
        refine sv_iinc (i := 2) (x := nI i) C (nI (i + 1)) [(0, .ref (sv_r G 19 0)), (1, .ref (sv_r G 21 0)), (2, .int (nI (i + 1))), (3, .int (nI f)), (4, .int (lampv x1 f))] dX6_second_121 rfl (sv_incN i 1) (by decide) rfl ?_
        refine sv_goto C 10 dX6_second_124 (by decide) ?_
        refine sv_sub (lv' := [(0, .ref (sv_r G 19 0)), (1, .ref (sv_r G 21 0)), (2, .int (nI (i + 1)))]) rfl ?_
        refine sv_wd (sv_eqW ?_) (ihi (by omega) trivial)
        rw [fo_succ, ← hx1]
        show _ = sv_u (sv_u M 15 (dkM M (smI (rdk (M 15 6) b) (i + 1)))) 11 (cnt (x1 (4 * i + 59)).toNatClampNeg x1)
        rw [ef1, nI_clamp (by omega), ← cntR]
        simp only [sv_wu, sv_us, sv_uu]
        rw [sv_un (show 15 ≠ 11 by decide), sv_us, sv_u3 (by decide)]
        show sv_u (sv_u M 15 (upd (upd (M 15) 7 _) 7 _)) 11 _ = _
        rw [upd_u]
        rfl
      · have q109 : b (4 * i + 58) = M 15 6 := q109
        refine sv_iconst (v := nI 1) C dX6_second_112 (by decide) ?_
        refine sv_goto C 117 dX6_second_113 (by decide) ?_
        refine sv_iadd C dX6_second_117 ?_
        refine sv_set (v' := .int (M 15 7 + smI (rdk (M 15 6) b) (i + 1))) (congrArg Value.int (by rw [show smI (rdk (M 15 6) b) (i + 1) = smI (rdk (M 15 6) b) i + rdk (M 15 6) b i from rfl, show rdk (M 15 6) b i = 1 from by unfold rdk; rw [← hx1, efb, nI_clamp (by omega)]; exact if_pos ⟨q96, q109⟩, ← Int32.add_assoc]; rfl)) ?_
        refine sv_put_6_12 C kw_734 dX6_second_118 ?_
        refine sv_iinc (i := 2) (x := nI i) C (nI (i + 1)) [(0, .ref (sv_r G 19 0)), (1, .ref (sv_r G 21 0)), (2, .int (nI (i + 1))), (3, .int (nI f)), (4, .int (lampv x1 f))] dX6_second_121 rfl (sv_incN i 1) (by decide) rfl ?_
        refine sv_goto C 10 dX6_second_124 (by decide) ?_
        refine sv_sub (lv' := [(0, .ref (sv_r G 19 0)), (1, .ref (sv_r G 21 0)), (2, .int (nI (i + 1)))]) rfl ?_
        refine sv_wd (sv_eqW ?_) (ihi (by omega) trivial)
        rw [fo_succ, ← hx1]
        show _ = sv_u (sv_u M 15 (dkM M (smI (rdk (M 15 6) b) (i + 1)))) 11 (cnt (x1 (4 * i + 59)).toNatClampNeg x1)
        rw [ef1, nI_clamp (by omega), ← cntR]
        simp only [sv_wu, sv_us, sv_uu]
        rw [sv_un (show 15 ≠ 11 by decide), sv_us, sv_u3 (by decide)]
        show sv_u (sv_u M 15 (upd (upd (M 15) 7 _) 7 _)) 11 _ = _
        rw [upd_u]
        rfl

set_option maxHeartbeats 800000 in
set_option maxRecDepth 100000 in
theorem met_R_copies_20_22 (l : Launch) (G : sv_G) (z : Nat) (M : sv_M) (o : Int64) (a b : Nat) (ha : a + 86 ≤ 86) (hb : b + 86 ≤ 516) : sv_Met l G yX6_copies cX6_copies 5 none 0 [.ref (sv_r G 20 0), .int (nI a), .ref (sv_r G 22 0), .int (nI b)] (sv_W G z M o) none (sv_W G z (sv_u M 12 (cpB a b (M 10) 86 (M 12))) o) := by
  refine sv_ofW (by decide) kw_776 (Nat.le_of_ble_eq_true rfl) ?_
  intro p e s mth args below meth c hr C _
  refine sv_sub (lv' := [(0, .ref (sv_r G 20 0)), (1, .int (nI a)), (2, .ref (sv_r G 22 0)), (3, .int (nI b))]) rfl ?_
  refine sv_iconst (v := nI 0) C dX6_copies_0 (by decide) ?_
  refine sv_istore (i := 4) C [(0, .ref (sv_r G 20 0)), (1, .int (nI a)), (2, .ref (sv_r G 22 0)), (3, .int (nI b)), (4, .int (nI 0))] dX6_copies_1 (by decide) rfl ?_
  refine sv_wd (sv_eqW (show _ = sv_u M 12 (cpB a b (M 10) 0 (M 12)) from (sv_ui _ 12).symm)) ?_
  refine sv_loop (N := 86) (I := fun i => True) (Wf := fun i => sv_W G z (sv_u M 12 (cpB a b (M 10) i (M 12))) o) (Lf := fun i => [(0, .ref (sv_r G 20 0)), (1, .int (nI a)), (2, .ref (sv_r G 22 0)), (3, .int (nI b)), (4, .int (nI i))]) 0 (Nat.zero_le _) trivial (fun i hi0 hi hIi ihi => ?_)
  refine sv_iload (i := 4) (x := nI i) C dX6_copies_3 rfl ?_
  refine sv_bipush (v := nI 86) C dX6_copies_5 (by decide) ?_
  refine sv_icmp_geN C 28 dX6_copies_7 (by decide) (by omega) (by omega) (fun q7 => ?_) (fun q7 => ?_)
  · exact sv_vret C hr dX6_copies_28 (Nat.le_of_ble_eq_true rfl) (Nat.le_of_ble_eq_true rfl) (sv_eqW (by rw [show i = 86 from by omega]))
  · refine sv_aload_n (i := 2) (x := sv_r G 22 0) C dX6_copies_10 rfl rfl ?_
    refine sv_iload_n (i := 3) (x := nI b) C dX6_copies_11 rfl rfl ?_
    refine sv_iload (i := 4) (x := nI i) C dX6_copies_12 rfl ?_
    refine sv_iadd C dX6_copies_14 ?_
    refine sv_set (v' := .int (nI (b + i))) (congrArg Value.int (nI_add _ _)) ?_
    refine sv_aload_n (i := 0) (x := sv_r G 20 0) C dX6_copies_15 rfl rfl ?_
    refine sv_iload_n (i := 1) (x := nI a) C dX6_copies_16 rfl rfl ?_
    refine sv_iload (i := 4) (x := nI i) C dX6_copies_17 rfl ?_
    refine sv_iadd C dX6_copies_19 ?_
    refine sv_set (v' := .int (nI (a + i))) (congrArg Value.int (nI_add _ _)) ?_
    refine sv_ialdN C 10 (a + i) rfl rfl rfl rfl (by show _ < 86; omega) dX6_copies_20 ?_
    refine sv_set (v' := .int (M 10 (a + i))) (congrArg Value.int (by rw [sv_un (by decide)])) ?_
    refine sv_iastN C 12 (b + i) rfl rfl rfl rfl (by show _ < 516; omega) dX6_copies_21 ?_
    refine sv_iinc (i := 4) (x := nI i) C (nI (i + 1)) [(0, .ref (sv_r G 20 0)), (1, .int (nI a)), (2, .ref (sv_r G 22 0)), (3, .int (nI b)), (4, .int (nI (i + 1)))] dX6_copies_22 rfl (sv_incN i 1) (by decide) rfl ?_
    refine sv_goto C 3 dX6_copies_25 (by decide) ?_
    refine sv_wd (sv_eqW ?_) (ihi (by omega) trivial)
    simp only [sv_wu, sv_us, sv_uu]
    rfl

set_option maxHeartbeats 800000 in
set_option maxRecDepth 100000 in
theorem met_R_copies_22_20 (l : Launch) (G : sv_G) (z : Nat) (M : sv_M) (o : Int64) (a b : Nat) (ha : a + 86 ≤ 516) (hb : b + 86 ≤ 86) : sv_Met l G yX6_copies cX6_copies 5 none 0 [.ref (sv_r G 22 0), .int (nI a), .ref (sv_r G 20 0), .int (nI b)] (sv_W G z M o) none (sv_W G z (sv_u M 10 (cpB a b (M 12) 86 (M 10))) o) := by
  refine sv_ofW (by decide) kw_776 (Nat.le_of_ble_eq_true rfl) ?_
  intro p e s mth args below meth c hr C _
  refine sv_sub (lv' := [(0, .ref (sv_r G 22 0)), (1, .int (nI a)), (2, .ref (sv_r G 20 0)), (3, .int (nI b))]) rfl ?_
  refine sv_iconst (v := nI 0) C dX6_copies_0 (by decide) ?_
  refine sv_istore (i := 4) C [(0, .ref (sv_r G 22 0)), (1, .int (nI a)), (2, .ref (sv_r G 20 0)), (3, .int (nI b)), (4, .int (nI 0))] dX6_copies_1 (by decide) rfl ?_
  refine sv_wd (sv_eqW (show _ = sv_u M 10 (cpB a b (M 12) 0 (M 10)) from (sv_ui _ 10).symm)) ?_
  refine sv_loop (N := 86) (I := fun i => True) (Wf := fun i => sv_W G z (sv_u M 10 (cpB a b (M 12) i (M 10))) o) (Lf := fun i => [(0, .ref (sv_r G 22 0)), (1, .int (nI a)), (2, .ref (sv_r G 20 0)), (3, .int (nI b)), (4, .int (nI i))]) 0 (Nat.zero_le _) trivial (fun i hi0 hi hIi ihi => ?_)
  refine sv_iload (i := 4) (x := nI i) C dX6_copies_3 rfl ?_
  refine sv_bipush (v := nI 86) C dX6_copies_5 (by decide) ?_
  refine sv_icmp_geN C 28 dX6_copies_7 (by decide) (by omega) (by omega) (fun q7 => ?_) (fun q7 => ?_)
  · exact sv_vret C hr dX6_copies_28 (Nat.le_of_ble_eq_true rfl) (Nat.le_of_ble_eq_true rfl) (sv_eqW (by rw [show i = 86 from by omega]))
  · refine sv_aload_n (i := 2) (x := sv_r G 20 0) C dX6_copies_10 rfl rfl ?_
    refine sv_iload_n (i := 3) (x := nI b) C dX6_copies_11 rfl rfl ?_
    refine sv_iload (i := 4) (x := nI i) C dX6_copies_12 rfl ?_
    refine sv_iadd C dX6_copies_14 ?_
    refine sv_set (v' := .int (nI (b + i))) (congrArg Value.int (nI_add _ _)) ?_
    refine sv_aload_n (i := 0) (x := sv_r G 22 0) C dX6_copies_15 rfl rfl ?_
    refine sv_iload_n (i := 1) (x := nI a) C dX6_copies_16 rfl rfl ?_
    refine sv_iload (i := 4) (x := nI i) C dX6_copies_17 rfl ?_
    refine sv_iadd C dX6_copies_19 ?_
    refine sv_set (v' := .int (nI (a + i))) (congrArg Value.int (nI_add _ _)) ?_
    refine sv_ialdN C 12 (a + i) rfl rfl rfl rfl (by show _ < 516; omega) dX6_copies_20 ?_
    refine sv_set (v' := .int (M 12 (a + i))) (congrArg Value.int (by rw [sv_un (by decide)])) ?_
    refine sv_iastN C 10 (b + i) rfl rfl rfl rfl (by show _ < 86; omega) dX6_copies_21 ?_
    refine sv_iinc (i := 4) (x := nI i) C (nI (i + 1)) [(0, .ref (sv_r G 22 0)), (1, .int (nI a)), (2, .ref (sv_r G 20 0)), (3, .int (nI b)), (4, .int (nI (i + 1)))] dX6_copies_22 rfl (sv_incN i 1) (by decide) rfl ?_
    refine sv_goto C 3 dX6_copies_25 (by decide) ?_
    refine sv_wd (sv_eqW ?_) (ihi (by omega) trivial)
    simp only [sv_wu, sv_us, sv_uu]
    rfl

set_option maxHeartbeats 800000 in
set_option maxRecDepth 100000 in
theorem met_R_copies_20_21 (l : Launch) (G : sv_G) (z : Nat) (M : sv_M) (o : Int64) (a b : Nat) (ha : a + 86 ≤ 86) (hb : b + 86 ≤ 86) : sv_Met l G yX6_copies cX6_copies 5 none 0 [.ref (sv_r G 20 0), .int (nI a), .ref (sv_r G 21 0), .int (nI b)] (sv_W G z M o) none (sv_W G z (sv_u M 11 (cpB a b (M 10) 86 (M 11))) o) := by
  refine sv_ofW (by decide) kw_776 (Nat.le_of_ble_eq_true rfl) ?_
  intro p e s mth args below meth c hr C _
  refine sv_sub (lv' := [(0, .ref (sv_r G 20 0)), (1, .int (nI a)), (2, .ref (sv_r G 21 0)), (3, .int (nI b))]) rfl ?_
  refine sv_iconst (v := nI 0) C dX6_copies_0 (by decide) ?_
  refine sv_istore (i := 4) C [(0, .ref (sv_r G 20 0)), (1, .int (nI a)), (2, .ref (sv_r G 21 0)), (3, .int (nI b)), (4, .int (nI 0))] dX6_copies_1 (by decide) rfl ?_
  refine sv_wd (sv_eqW (show _ = sv_u M 11 (cpB a b (M 10) 0 (M 11)) from (sv_ui _ 11).symm)) ?_
  refine sv_loop (N := 86) (I := fun i => True) (Wf := fun i => sv_W G z (sv_u M 11 (cpB a b (M 10) i (M 11))) o) (Lf := fun i => [(0, .ref (sv_r G 20 0)), (1, .int (nI a)), (2, .ref (sv_r G 21 0)), (3, .int (nI b)), (4, .int (nI i))]) 0 (Nat.zero_le _) trivial (fun i hi0 hi hIi ihi => ?_)
  refine sv_iload (i := 4) (x := nI i) C dX6_copies_3 rfl ?_
  refine sv_bipush (v := nI 86) C dX6_copies_5 (by decide) ?_
  refine sv_icmp_geN C 28 dX6_copies_7 (by decide) (by omega) (by omega) (fun q7 => ?_) (fun q7 => ?_)
  · exact sv_vret C hr dX6_copies_28 (Nat.le_of_ble_eq_true rfl) (Nat.le_of_ble_eq_true rfl) (sv_eqW (by rw [show i = 86 from by omega]))
  · refine sv_aload_n (i := 2) (x := sv_r G 21 0) C dX6_copies_10 rfl rfl ?_
    refine sv_iload_n (i := 3) (x := nI b) C dX6_copies_11 rfl rfl ?_
    refine sv_iload (i := 4) (x := nI i) C dX6_copies_12 rfl ?_
    refine sv_iadd C dX6_copies_14 ?_
    refine sv_set (v' := .int (nI (b + i))) (congrArg Value.int (nI_add _ _)) ?_
    refine sv_aload_n (i := 0) (x := sv_r G 20 0) C dX6_copies_15 rfl rfl ?_
    refine sv_iload_n (i := 1) (x := nI a) C dX6_copies_16 rfl rfl ?_
    refine sv_iload (i := 4) (x := nI i) C dX6_copies_17 rfl ?_
    refine sv_iadd C dX6_copies_19 ?_
    refine sv_set (v' := .int (nI (a + i))) (congrArg Value.int (nI_add _ _)) ?_
    refine sv_ialdN C 10 (a + i) rfl rfl rfl rfl (by show _ < 86; omega) dX6_copies_20 ?_
    refine sv_set (v' := .int (M 10 (a + i))) (congrArg Value.int (by rw [sv_un (by decide)])) ?_
    refine sv_iastN C 11 (b + i) rfl rfl rfl rfl (by show _ < 86; omega) dX6_copies_21 ?_
    refine sv_iinc (i := 4) (x := nI i) C (nI (i + 1)) [(0, .ref (sv_r G 20 0)), (1, .int (nI a)), (2, .ref (sv_r G 21 0)), (3, .int (nI b)), (4, .int (nI (i + 1)))] dX6_copies_22 rfl (sv_incN i 1) (by decide) rfl ?_
    refine sv_goto C 3 dX6_copies_25 (by decide) ?_
    refine sv_wd (sv_eqW ?_) (ihi (by omega) trivial)
    simp only [sv_wu, sv_us, sv_uu]
    rfl

set_option maxHeartbeats 800000 in
set_option maxRecDepth 100000 in
theorem met_R_fails (l : Launch) (G : sv_G) (z : Nat) (M : sv_M) (o : Int64) (v : Int32) : sv_Met l G yX6_fails cX6_fails 2 (some .int) 0 [.ref (sv_r G 19 0), .int v] (sv_W G z M o) (some (.int 0)) (sv_W G z (thr v M) o) := by
  refine sv_ofW (by decide) kw_773 (Nat.le_of_ble_eq_true rfl) ?_
  intro p e s mth args below meth c hr C _
  refine sv_sub (lv' := [(0, .ref (sv_r G 19 0)), (1, .int v)]) rfl ?_
  refine sv_aload_n (i := 0) (x := sv_r G 19 0) C dX6_fails_0 rfl rfl ?_
  refine sv_iload_n (i := 1) (x := v) C dX6_fails_1 rfl rfl ?_
  refine sv_put_6_6 C kw_728 dX6_fails_2 ?_
  refine sv_iconst (v := nI 0) C dX6_fails_5 (by decide) ?_
  exact sv_iret C hr dX6_fails_6 (Nat.le_of_ble_eq_true rfl) (Nat.le_of_ble_eq_true rfl) rfl (sv_eqW thr_w)

set_option maxHeartbeats 800000 in
set_option maxRecDepth 100000 in
theorem met_R_thrown (l : Launch) (G : sv_G) (z : Nat) (M : sv_M) (o : Int64) : sv_Met l G yX6_thrown cX6_thrown 1 (some .int) 0 [.ref (sv_r G 19 0)] (sv_W G z M o) (some (.int (M 15 2))) (sv_W G z M o) := by
  refine sv_ofW (by decide) kw_765 (Nat.le_of_ble_eq_true rfl) ?_
  intro p e s mth args below meth c hr C _
  refine sv_sub (lv' := [(0, .ref (sv_r G 19 0))]) rfl ?_
  refine sv_aload_n (i := 0) (x := sv_r G 19 0) C dX6_thrown_0 rfl rfl ?_
  refine sv_get_6_6 C kw_728 dX6_thrown_1 ?_
  refine sv_set (v' := .int (M 15 2)) (congrArg Value.int rfl) ?_
  exact sv_iret C hr dX6_thrown_4 (Nat.le_of_ble_eq_true rfl) (Nat.le_of_ble_eq_true rfl) rfl (fun _ h => h)

set_option maxHeartbeats 800000 in
set_option maxRecDepth 100000 in
theorem met_R_saves_lo (l : Launch) (G : sv_G) (z : Nat) (M : sv_M) (o : Int64) (kp : Nat) (hkp : M 15 0 = nI kp) (h6 : kp < 6) : sv_Met l G yX6_saves cX6_saves 2 none 1 [.ref (sv_r G 19 0)] (sv_W G z M o) none (sv_W G z (sv_u (sv_u M 12 (cpB 0 (86 * kp) (M 10) 86 (M 12))) 15 (upd (M 15) 0 (nI (kp + 1)))) o) := by
  refine sv_ofW (by decide) kw_793 (Nat.le_of_ble_eq_true rfl) ?_
  intro p e s mth args below meth c hr C _
  refine sv_sub (lv' := [(0, .ref (sv_r G 19 0))]) rfl ?_
  refine sv_aload_n (i := 0) (x := sv_r G 19 0) C dX6_saves_0 rfl rfl ?_
  refine sv_get_6_3 C kw_725 dX6_saves_1 ?_
  refine sv_set (v' := .int (nI kp)) (congrArg Value.int hkp) ?_
  refine sv_bipush (v := nI 6) C dX6_saves_4 (by decide) ?_
  refine sv_icmp_neN C 49 dX6_saves_6 (by decide) (by omega) (by omega) (fun q6 => ?_) (fun q6 => ?_)
  · refine sv_aload_n (i := 0) (x := sv_r G 19 0) C dX6_saves_49 rfl rfl ?_
    refine sv_get_6_0 C kw_722 dX6_saves_50 ?_
    refine sv_iconst (v := nI 0) C dX6_saves_53 (by decide) ?_
    refine sv_aload_n (i := 0) (x := sv_r G 19 0) C dX6_saves_54 rfl rfl ?_
    refine sv_get_6_2 C kw_724 dX6_saves_55 ?_
    refine sv_bipush (v := nI 86) C dX6_saves_58 (by decide) ?_
    refine sv_aload_n (i := 0) (x := sv_r G 19 0) C dX6_saves_60 rfl rfl ?_
    refine sv_get_6_3 C kw_725 dX6_saves_61 ?_
    refine sv_set (v' := .int (nI kp)) (congrArg Value.int hkp) ?_
    refine sv_imul C dX6_saves_64 ?_
    refine sv_set (v' := .int (nI (86 * kp))) (congrArg Value.int (pk_mul _ _)) ?_
    refine sv_callS (as := [_, _, _, _]) (rest := []) C (met_R_copies_20_22 l G _ _ _ 0 (86 * kp) (by omega) (by omega)) fX6_copies kw_774 ⟨Nat.le_of_ble_eq_true rfl, Nat.le_of_ble_eq_true rfl⟩ (Nat.le_of_ble_eq_true rfl) dX6_saves_65 ⟨Nat.zero_le _, Nat.zero_le _⟩  ?_
    refine sv_rv ?_
    refine sv_aload_n (i := 0) (x := sv_r G 19 0) C dX6_saves_68 rfl rfl ?_
    refine sv_dup C dX6_saves_69 rfl ?_
    refine sv_get_6_3 C kw_725 dX6_saves_70 ?_
    refine sv_set (v' := .int (nI kp)) (congrArg Value.int (by rw [sv_un (by decide)]; exact hkp)) ?_
    refine sv_iconst (v := nI 1) C dX6_saves_73 (by decide) ?_
    refine sv_iadd C dX6_saves_74 ?_
    refine sv_set (v' := .int (nI (kp + 1))) (congrArg Value.int (nI_add _ _)) ?_
    refine sv_put_6_3 C kw_725 dX6_saves_75 ?_
    exact sv_vret C hr dX6_saves_78 (Nat.le_of_ble_eq_true rfl) (Nat.le_of_ble_eq_true rfl) (sv_eqW (by rw [sv_wu, sv_un (by decide)]))
  · exact absurd q6 (by omega)

set_option maxHeartbeats 800000 in
set_option maxRecDepth 100000 in
theorem met_R_saves_hi (l : Launch) (G : sv_G) (z : Nat) (M : sv_M) (o : Int64) (hkp : M 15 0 = nI 6) : sv_Met l G yX6_saves cX6_saves 2 none 1 [.ref (sv_r G 19 0)] (sv_W G z M o) none (sv_W G z (sv_u (sv_u M 12 (cpB 0 430 (M 10) 86 (shf 430 (M 12)))) 15 (upd (M 15) 0 (nI 6))) o) := by
  refine sv_ofW (by decide) kw_793 (Nat.le_of_ble_eq_true rfl) ?_
  intro p e s mth args below meth c hr C _
  refine sv_sub (lv' := [(0, .ref (sv_r G 19 0))]) rfl ?_
  refine sv_aload_n (i := 0) (x := sv_r G 19 0) C dX6_saves_0 rfl rfl ?_
  refine sv_get_6_3 C kw_725 dX6_saves_1 ?_
  refine sv_set (v' := .int (nI 6)) (congrArg Value.int hkp) ?_
  refine sv_bipush (v := nI 6) C dX6_saves_4 (by decide) ?_
  refine sv_icmp_neN C 49 dX6_saves_6 (by decide) (by omega) (by omega) (fun q6 => ?_) (fun q6 => ?_)
  · exact absurd rfl q6
  · refine sv_iconst (v := nI 0) C dX6_saves_9 (by decide) ?_
    refine sv_istore_n (i := 1) C [(0, .ref (sv_r G 19 0)), (1, .int (nI 0))] dX6_saves_10 rfl (by decide) rfl ?_
    refine sv_wd (sv_eqW (show _ = sv_u M 12 (shf 0 (M 12)) from (sv_ui _ 12).symm)) ?_
    refine sv_loop (N := 430) (I := fun i => True) (Wf := fun i => sv_W G z (sv_u M 12 (shf i (M 12))) o) (Lf := fun i => [(0, .ref (sv_r G 19 0)), (1, .int (nI i))]) 0 (Nat.zero_le _) trivial (fun i hi0 hi hIi ihi => ?_)
    refine sv_iload_n (i := 1) (x := nI i) C dX6_saves_11 rfl rfl ?_
    refine sv_sipush (v := nI 430) C dX6_saves_12 (by decide) ?_
    refine sv_icmp_geN C 39 dX6_saves_15 (by decide) (by omega) (by omega) (fun q15 => ?_) (fun q15 => ?_)
    · refine sv_wd (sv_eqW (show _ = sv_u M 12 (shf 430 (M 12)) from by rw [show i = 430 from by omega])) ?_
      refine sv_aload_n (i := 0) (x := sv_r G 19 0) C dX6_saves_39 rfl rfl ?_
      refine sv_dup C dX6_saves_40 rfl ?_
      refine sv_get_6_3 C kw_725 dX6_saves_41 ?_
      refine sv_set (v' := .int (nI 6)) (congrArg Value.int (by rw [sv_un (by decide)]; exact hkp)) ?_
      refine sv_iconst (v := nI 1) C dX6_saves_44 (by decide) ?_
      refine sv_isub C dX6_saves_45 ?_
      refine sv_set (v' := .int (nI 5)) (congrArg Value.int rfl) ?_
      refine sv_put_6_3 C kw_725 dX6_saves_46 ?_
      refine sv_aload_n (i := 0) (x := sv_r G 19 0) C dX6_saves_49 rfl rfl ?_
      refine sv_get_6_0 C kw_722 dX6_saves_50 ?_
      refine sv_iconst (v := nI 0) C dX6_saves_53 (by decide) ?_
      refine sv_aload_n (i := 0) (x := sv_r G 19 0) C dX6_saves_54 rfl rfl ?_
      refine sv_get_6_2 C kw_724 dX6_saves_55 ?_
      refine sv_bipush (v := nI 86) C dX6_saves_58 (by decide) ?_
      refine sv_aload_n (i := 0) (x := sv_r G 19 0) C dX6_saves_60 rfl rfl ?_
      refine sv_get_6_3 C kw_725 dX6_saves_61 ?_
      refine sv_set (v' := .int (nI 5)) (congrArg Value.int (by rw [sv_wu, sv_us, upd_s])) ?_
      refine sv_imul C dX6_saves_64 ?_
      refine sv_set (v' := .int (nI 430)) (congrArg Value.int (pk_mul _ _)) ?_
      refine sv_callS (as := [_, _, _, _]) (rest := []) C (met_R_copies_20_22 l G _ _ _ 0 430 (by omega) (by omega)) fX6_copies kw_774 ⟨Nat.le_of_ble_eq_true rfl, Nat.le_of_ble_eq_true rfl⟩ (Nat.le_of_ble_eq_true rfl) dX6_saves_65 ⟨Nat.zero_le _, Nat.zero_le _⟩  ?_
      refine sv_rv ?_
      refine sv_aload_n (i := 0) (x := sv_r G 19 0) C dX6_saves_68 rfl rfl ?_
      refine sv_dup C dX6_saves_69 rfl ?_
      refine sv_get_6_3 C kw_725 dX6_saves_70 ?_
      refine sv_set (v' := .int (nI 5)) (congrArg Value.int (by rw [sv_un (by decide), sv_wu, sv_us, upd_s])) ?_
      refine sv_iconst (v := nI 1) C dX6_saves_73 (by decide) ?_
      refine sv_iadd C dX6_saves_74 ?_
      refine sv_set (v' := .int (nI 6)) (congrArg Value.int (nI_add _ _)) ?_
      refine sv_put_6_3 C kw_725 dX6_saves_75 ?_
      exact sv_vret C hr dX6_saves_78 (Nat.le_of_ble_eq_true rfl) (Nat.le_of_ble_eq_true rfl) (sv_eqW (by simp only [sv_wu, sv_us, sv_un (show (15 : Nat) ≠ 12 by decide), sv_un (show (10 : Nat) ≠ 15 by decide), sv_un (show (12 : Nat) ≠ 15 by decide), sv_un (show (10 : Nat) ≠ 12 by decide)]; rw [sv_uc (show 15 ≠ 12 by decide)]; simp only [sv_uu, upd_u]))
    · refine sv_aload_n (i := 0) (x := sv_r G 19 0) C dX6_saves_18 rfl rfl ?_
      refine sv_get_6_2 C kw_724 dX6_saves_19 ?_
      refine sv_iload_n (i := 1) (x := nI i) C dX6_saves_22 rfl rfl ?_
      refine sv_aload_n (i := 0) (x := sv_r G 19 0) C dX6_saves_23 rfl rfl ?_
      refine sv_get_6_2 C kw_724 dX6_saves_24 ?_
      refine sv_iload_n (i := 1) (x := nI i) C dX6_saves_27 rfl rfl ?_
      refine sv_bipush (v := nI 86) C dX6_saves_28 (by decide) ?_
      refine sv_iadd C dX6_saves_30 ?_
      refine sv_set (v' := .int (nI (i + 86))) (congrArg Value.int (nI_add _ _)) ?_
      refine sv_ialdN C 12 (i + 86) rfl rfl rfl rfl (by show _ < 516; omega) dX6_saves_31 ?_
      refine sv_topi (fun v31 e31 => ?_)
      refine sv_iastN C 12 i rfl rfl rfl rfl (by show _ < 516; omega) dX6_saves_32 ?_
      refine sv_iinc (i := 1) (x := nI i) C (nI (i + 1)) [(0, .ref (sv_r G 19 0)), (1, .int (nI (i + 1)))] dX6_saves_33 rfl (sv_incN i 1) (by decide) rfl ?_
      refine sv_goto C 11 dX6_saves_36 (by decide) ?_
      refine sv_wd (sv_eqW ?_) (ihi (by omega) trivial)
      rw [e31]
      simp only [sv_wu, sv_us, sv_uu]
      rfl

theorem met_R_saves {l : Launch} {G : sv_G} {z : Nat} {M : sv_M} {o : Int64} {kp : Nat} (hkp : M 15 0 = nI kp) (hk6 : kp ≤ 6) : sv_Met l G yX6_saves cX6_saves 2 none 1 [.ref (sv_r G 19 0)] (sv_W G z M o) none (sv_W G z (rsav kp M) o) := by
  unfold rsav rsP rsk
  by_cases h : kp = 6
  · rw [if_pos h, if_pos h]
    exact met_R_saves_hi l G z M o (by rw [hkp, h])
  · rw [if_neg h, if_neg h]
    exact met_R_saves_lo l G z M o kp hkp (by omega)
