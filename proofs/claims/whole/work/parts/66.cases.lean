/-! the cases of the law -/
set_option maxHeartbeats 4000000 in
set_option maxRecDepth 100000 in
theorem lc_come {p : Program} {l : Launch} {e : Env} {s : State} {m : MethodId} {args : Array Value} {below : List Frame} {meth : Method} {c : Code} {k n : Nat} {Q : State → Prop} {G : sv_G} {b L : Nat} {xs : Nat → Int32} {z : Nat} {M : sv_M} {o : Int64} {i Cc B : Nat} (C : sv_C p l s m args meth c code 9 RL G) (hl : l.stackTraces = false) (hX : va_X b L xs s s.heap) (hbl : b < s.heap.size) (hbA : ¬ sv_A G b) (hL : L ≤ 1536) (hi : i + 2 < L) (hCc : Cc ≤ 7680) (hB : B ≤ 25804800) (hinv : inv Cc B M) (hk : k ≤ 3000) (hn : n ≤ 20000) (kk : ∀ z9 M9 o9, inv (Cc + 15) (B + 50400) M9 → sv_V p l e room_1 s m args below meth c 9 G Q (k + 4) (n + 24) (sv_W G z9 M9 o9) 1316 [(0, .ref b), (1, .ref (sv_r G 14 0)), (2, .ref (sv_r G 19 0)), (3, .ref (sv_r G 25 0)), (4, .int (nI i))] []) : sv_V p l e room_1 s m args below meth c 9 G Q k n (sv_W G z M o) 144 [(0, .ref b), (1, .ref (sv_r G 14 0)), (2, .ref (sv_r G 19 0)), (3, .ref (sv_r G 25 0)), (4, .int (nI i))] [] := by
  obtain ⟨od, hd, n9, h⟩ := hinv
  obtain ⟨hm, hm7, hmr, b6, b7, hv, he, hr⟩ := inw_m h
  obtain ⟨hod, hd6, hn60, h0, h1, hkp, hn9, hn9r, htx, hst, hhs⟩ := id h
  have hcl : comC (many (M 0)) (xs (i + 1)) (xs (i + 2)) ≤ 3 := by have h9 := comC_le  (many (M 0)) (xs (i + 1)) (xs (i + 2)); omega
  by_cases hc : comC (many (M 0)) (xs (i + 1)) (xs (i + 2)) = 0
  · skip
    refine sv_aload_n (i := 1) (x := (sv_r G 14 0)) C dL_law_144 rfl rfl ?_
    refine sv_aload_n (i := 0) (x := b) C dL_law_145 rfl rfl ?_
    refine sv_iload (i := 4) (x := (nI i)) C dL_law_146 rfl ?_
    refine sv_iconst (v := nI 1) C dL_law_148 (by decide) ?_
    refine sv_iadd C dL_law_149 ?_
    refine sv_set (v' := .int (nI (i + 1))) (congrArg Value.int (nI_add _ _)) ?_
    refine sv_scrN C hX hbl hbA (by omega) (by omega) dL_law_150 ?_
    refine sv_aload_n (i := 0) (x := b) C dL_law_151 rfl rfl ?_
    refine sv_iload (i := 4) (x := (nI i)) C dL_law_152 rfl ?_
    refine sv_iconst (v := nI 2) C dL_law_154 (by decide) ?_
    refine sv_iadd C dL_law_155 ?_
    refine sv_set (v' := .int (nI (i + 2))) (congrArg Value.int (nI_add _ _)) ?_
    refine sv_scrN C hX hbl hbA (by omega) (by omega) dL_law_156 ?_
    refine sv_aload_n (i := 3) (x := (sv_r G 25 0)) C dL_law_157 rfl rfl ?_
    refine sw_call (as := [_, _, _, _]) (rest := []) C (met_L_come l G hl z M o (xs (i + 1)) (xs (i + 2)) od hd hod h0 h1 hd6 b6 b7 _ hm hm7) kw_443 kw_444 kw_28 kc_come 4 ⟨by decide, by decide, by decide +kernel⟩ rfl ⟨Nat.le_of_ble_eq_true rfl, Nat.le_of_ble_eq_true rfl⟩ (Nat.le_of_ble_eq_true rfl) dL_law_158 ⟨by show k + 4 ≤ 614530; omega, by show n + 24 ≤ 7252513; omega⟩ ?_
    refine sv_riS (nI (comC (many (M 0)) (xs (i + 1)) (xs (i + 2)))) rfl ?_
    refine sv_istore (i := 5) C [(0, .ref b), (1, .ref (sv_r G 14 0)), (2, .ref (sv_r G 19 0)), (3, .ref (sv_r G 25 0)), (4, .int (nI i)), (5, .int (nI (comC (many (M 0)) (xs (i + 1)) (xs (i + 2)))))] dL_law_161 (by decide) rfl ?_
    refine sv_wd (fun H h9 => by unfold sw_R at h9; rw [if_pos hc] at h9; exact h9) ?_
    obtain ⟨M1, e1⟩ : ∃ M9 : sv_M, M9 = (sv_u (sav od hd M) 0 (entv (many (M 0)) (xs (i + 1)) (xs (i + 2)) (M 0 3) (M 0))) := ⟨_, rfl⟩
    rw [← e1]
    have e10 : M1 10 = M 10 := by rw [e1]; exact inw_hi h (by decide)
    have e15 : M1 15 = M 15 := by rw [e1]; exact inw_hi h (by decide)
    have e13 : M1 13 = M 13 := by rw [e1]; exact inw_hi h (by decide)
    refine sv_aload_n (i := 2) (x := (sv_r G 19 0)) C dL_law_163 rfl rfl ?_
    refine sv_aload_n (i := 0) (x := b) C dL_law_164 rfl rfl ?_
    refine sv_iload (i := 4) (x := (nI i)) C dL_law_165 rfl ?_
    refine sv_iconst (v := nI 1) C dL_law_167 (by decide) ?_
    refine sv_iadd C dL_law_168 ?_
    refine sv_set (v' := .int (nI (i + 1))) (congrArg Value.int (nI_add _ _)) ?_
    refine sv_scrN C hX hbl hbA (by omega) (by omega) dL_law_169 ?_
    refine sv_aload_n (i := 0) (x := b) C dL_law_170 rfl rfl ?_
    refine sv_iload (i := 4) (x := (nI i)) C dL_law_171 rfl ?_
    refine sv_iconst (v := nI 2) C dL_law_173 (by decide) ?_
    refine sv_iadd C dL_law_174 ?_
    refine sv_set (v' := .int (nI (i + 2))) (congrArg Value.int (nI_add _ _)) ?_
    refine sv_scrN C hX hbl hbA (by omega) (by omega) dL_law_175 ?_
    refine sv_callV (as := [_, _]) (rest := []) C (met_R_come l G _ M1 _ (xs (i + 1)) (xs (i + 2)) hd (by rw [e15]; exact hkp) hd6 _ (by rw [e10]; exact hmr) hm7) fX6_come kw_777 (sv_recv19 C) ⟨Nat.le_of_ble_eq_true rfl, Nat.le_of_ble_eq_true rfl⟩ (Nat.le_of_ble_eq_true rfl) dL_law_176 ⟨by show k + 4 ≤ 614530; omega, by show n + 24 ≤ 7252513; omega⟩ ?_
    refine sv_ri (fun v6 e6 => ?_)
    refine sv_wd (sv_eqW (rW_0 hc)) ?_
    obtain ⟨M2, e2⟩ : ∃ M9 : sv_M, M9 = sv_u (rsav hd (thr 0 M1)) 10 (entv (many (M 0)) (xs (i + 1)) (xs (i + 2)) (M1 10 3) (M1 10)) := ⟨_, rfl⟩
    rw [← e2]
    obtain ⟨i2, t2, v2⟩ := fc_come h hc e1 e2
    refine sv_istore (i := 6) C [(0, .ref b), (1, .ref (sv_r G 14 0)), (2, .ref (sv_r G 19 0)), (3, .ref (sv_r G 25 0)), (4, .int (nI i)), (5, .int (nI (comC (many (M 0)) (xs (i + 1)) (xs (i + 2))))), (6, .int v6)] dL_law_179 (by decide) rfl ?_
    refine sv_aload_n (i := 2) (x := (sv_r G 19 0)) C dL_law_181 rfl rfl ?_
    refine sv_callV (as := []) (rest := []) C (met_R_thrown l G _ _ _) fX6_thrown kw_762 (sv_recv19 C) ⟨Nat.le_of_ble_eq_true rfl, Nat.le_of_ble_eq_true rfl⟩ (Nat.le_of_ble_eq_true rfl) dL_law_182 ⟨by show k + 4 ≤ 614530; omega, by show n + 24 ≤ 7252513; omega⟩ ?_
    refine sv_riS (nI (comC (many (M 0)) (xs (i + 1)) (xs (i + 2)))) (t2.trans (by rw [hc]; rfl)) ?_
    refine sv_iload (i := 5) (x := (nI (comC (many (M 0)) (xs (i + 1)) (xs (i + 2))))) C dL_law_185 rfl ?_
    refine sv_icmp_eq C 192 dL_law_187 (by decide) (fun _ => ?_) (fun q9 => absurd rfl q9)
    refine sv_iload (i := 5) (x := (nI (comC (many (M 0)) (xs (i + 1)) (xs (i + 2))))) C dL_law_192 rfl ?_
    refine sv_if_ne C 209 dL_law_194 (by decide) (fun q9 => absurd (by rw [hc]; rfl) q9) (fun _ => ?_)
    refine sv_aload_n (i := 3) (x := (sv_r G 25 0)) C dL_law_197 rfl rfl ?_
    refine sv_iconst (v := 0) C dL_law_198 (by decide) ?_
    refine sv_lald C dL_law_199 ?_
    refine sv_iload (i := 6) (x := v6) C dL_law_200 rfl ?_
    refine sv_i2l C dL_law_202 ?_
    refine sv_lcmp C dL_law_203 ?_
    refine sv_if_eq C 209 dL_law_204 (by decide) (fun _ => ?_) (fun q9 => absurd ((lg_cmp_eq _ _).mpr (congrArg Int32.toInt64 (by rw [e6, rR_0 hc]; exact v2))) q9)
    refine sv_goto C 1316 dL_law_209 (by decide) ?_
    refine sv_sub (lv' := [(0, .ref b), (1, .ref (sv_r G 14 0)), (2, .ref (sv_r G 19 0)), (3, .ref (sv_r G 25 0)), (4, .int (nI i))]) rfl ?_
    exact sv_widen (by omega) (by omega) (kk _ _ _ i2)
  · skip
    refine sv_aload_n (i := 1) (x := (sv_r G 14 0)) C dL_law_144 rfl rfl ?_
    refine sv_aload_n (i := 0) (x := b) C dL_law_145 rfl rfl ?_
    refine sv_iload (i := 4) (x := (nI i)) C dL_law_146 rfl ?_
    refine sv_iconst (v := nI 1) C dL_law_148 (by decide) ?_
    refine sv_iadd C dL_law_149 ?_
    refine sv_set (v' := .int (nI (i + 1))) (congrArg Value.int (nI_add _ _)) ?_
    refine sv_scrN C hX hbl hbA (by omega) (by omega) dL_law_150 ?_
    refine sv_aload_n (i := 0) (x := b) C dL_law_151 rfl rfl ?_
    refine sv_iload (i := 4) (x := (nI i)) C dL_law_152 rfl ?_
    refine sv_iconst (v := nI 2) C dL_law_154 (by decide) ?_
    refine sv_iadd C dL_law_155 ?_
    refine sv_set (v' := .int (nI (i + 2))) (congrArg Value.int (nI_add _ _)) ?_
    refine sv_scrN C hX hbl hbA (by omega) (by omega) dL_law_156 ?_
    refine sv_aload_n (i := 3) (x := (sv_r G 25 0)) C dL_law_157 rfl rfl ?_
    refine sw_call (as := [_, _, _, _]) (rest := []) C (met_L_come l G hl z M o (xs (i + 1)) (xs (i + 2)) od hd hod h0 h1 hd6 b6 b7 _ hm hm7) kw_443 kw_444 kw_28 kc_come 4 ⟨by decide, by decide, by decide +kernel⟩ rfl ⟨Nat.le_of_ble_eq_true rfl, Nat.le_of_ble_eq_true rfl⟩ (Nat.le_of_ble_eq_true rfl) dL_law_158 ⟨by show k + 4 ≤ 614530; omega, by show n + 24 ≤ 7252513; omega⟩ ?_
    refine sv_riS (nI (comC (many (M 0)) (xs (i + 1)) (xs (i + 2)))) rfl ?_
    refine sv_istore (i := 5) C [(0, .ref b), (1, .ref (sv_r G 14 0)), (2, .ref (sv_r G 19 0)), (3, .ref (sv_r G 25 0)), (4, .int (nI i)), (5, .int (nI (comC (many (M 0)) (xs (i + 1)) (xs (i + 2)))))] dL_law_161 (by decide) rfl ?_
    refine sv_wd (Wd' := sv_Wz G z M o) (fun H h9 => by unfold sw_R at h9; rw [if_neg hc] at h9; exact h9) ?_
    refine sv_exH (Wf := fun z1 => sv_W G z1 M o) (fun H h9 => by obtain ⟨z1, _, h9⟩ := h9; exact ⟨z1, h9⟩) (fun z1 => ?_)
    refine sv_aload_n (i := 2) (x := (sv_r G 19 0)) C dL_law_163 rfl rfl ?_
    refine sv_aload_n (i := 0) (x := b) C dL_law_164 rfl rfl ?_
    refine sv_iload (i := 4) (x := (nI i)) C dL_law_165 rfl ?_
    refine sv_iconst (v := nI 1) C dL_law_167 (by decide) ?_
    refine sv_iadd C dL_law_168 ?_
    refine sv_set (v' := .int (nI (i + 1))) (congrArg Value.int (nI_add _ _)) ?_
    refine sv_scrN C hX hbl hbA (by omega) (by omega) dL_law_169 ?_
    refine sv_aload_n (i := 0) (x := b) C dL_law_170 rfl rfl ?_
    refine sv_iload (i := 4) (x := (nI i)) C dL_law_171 rfl ?_
    refine sv_iconst (v := nI 2) C dL_law_173 (by decide) ?_
    refine sv_iadd C dL_law_174 ?_
    refine sv_set (v' := .int (nI (i + 2))) (congrArg Value.int (nI_add _ _)) ?_
    refine sv_scrN C hX hbl hbA (by omega) (by omega) dL_law_175 ?_
    refine sv_callV (as := [_, _]) (rest := []) C (met_R_come l G _ M _ (xs (i + 1)) (xs (i + 2)) hd hkp hd6 _ hmr hm7) fX6_come kw_777 (sv_recv19 C) ⟨Nat.le_of_ble_eq_true rfl, Nat.le_of_ble_eq_true rfl⟩ (Nat.le_of_ble_eq_true rfl) dL_law_176 ⟨by show k + 4 ≤ 614530; omega, by show n + 24 ≤ 7252513; omega⟩ ?_
    refine sv_ri (fun v6 e6 => ?_)
    refine sv_wd (sv_eqW (rW_n hc)) ?_
    have i2 : inv (Cc + 15) (B + 50400) (thr (nI (comC (many (M 0)) (xs (i + 1)) (xs (i + 2)))) M) := inv_lk ⟨od, hd, n9, h⟩ lk_thr (by omega) (by omega)
    refine sv_istore (i := 6) C [(0, .ref b), (1, .ref (sv_r G 14 0)), (2, .ref (sv_r G 19 0)), (3, .ref (sv_r G 25 0)), (4, .int (nI i)), (5, .int (nI (comC (many (M 0)) (xs (i + 1)) (xs (i + 2))))), (6, .int v6)] dL_law_179 (by decide) rfl ?_
    refine sv_aload_n (i := 2) (x := (sv_r G 19 0)) C dL_law_181 rfl rfl ?_
    refine sv_callV (as := []) (rest := []) C (met_R_thrown l G _ _ _) fX6_thrown kw_762 (sv_recv19 C) ⟨Nat.le_of_ble_eq_true rfl, Nat.le_of_ble_eq_true rfl⟩ (Nat.le_of_ble_eq_true rfl) dL_law_182 ⟨by show k + 4 ≤ 614530; omega, by show n + 24 ≤ 7252513; omega⟩ ?_
    refine sv_riS (nI (comC (many (M 0)) (xs (i + 1)) (xs (i + 2)))) thr_2 ?_
    refine sv_iload (i := 5) (x := (nI (comC (many (M 0)) (xs (i + 1)) (xs (i + 2))))) C dL_law_185 rfl ?_
    refine sv_icmp_eq C 192 dL_law_187 (by decide) (fun _ => ?_) (fun q9 => absurd rfl q9)
    refine sv_iload (i := 5) (x := (nI (comC (many (M 0)) (xs (i + 1)) (xs (i + 2))))) C dL_law_192 rfl ?_
    refine sv_if_ne C 209 dL_law_194 (by decide) (fun _ => ?_) (fun q9 => absurd q9 (nI_ne0 (by omega) (by omega)))
    refine sv_goto C 1316 dL_law_209 (by decide) ?_
    refine sv_sub (lv' := [(0, .ref b), (1, .ref (sv_r G 14 0)), (2, .ref (sv_r G 19 0)), (3, .ref (sv_r G 25 0)), (4, .int (nI i))]) rfl ?_
    exact sv_widen (by omega) (by omega) (kk _ _ _ i2)
set_option maxHeartbeats 4000000 in
set_option maxRecDepth 100000 in
theorem lc_turn {p : Program} {l : Launch} {e : Env} {s : State} {m : MethodId} {args : Array Value} {below : List Frame} {meth : Method} {c : Code} {k n : Nat} {Q : State → Prop} {G : sv_G} {b L : Nat} {xs : Nat → Int32} {z : Nat} {M : sv_M} {o : Int64} {i Cc B : Nat} (C : sv_C p l s m args meth c code 9 RL G) (hl : l.stackTraces = false) (hX : va_X b L xs s s.heap) (hbl : b < s.heap.size) (hbA : ¬ sv_A G b) (hL : L ≤ 1536) (hi : i + 2 < L) (hCc : Cc ≤ 7680) (hB : B ≤ 25804800) (hinv : inv Cc B M) (hk : k ≤ 3000) (hn : n ≤ 20000) (kk : ∀ z9 M9 o9, inv (Cc + 15) (B + 50400) M9 → sv_V p l e room_1 s m args below meth c 9 G Q (k + 4) (n + 24) (sv_W G z9 M9 o9) 1316 [(0, .ref b), (1, .ref (sv_r G 14 0)), (2, .ref (sv_r G 19 0)), (3, .ref (sv_r G 25 0)), (4, .int (nI i))] []) : sv_V p l e room_1 s m args below meth c 9 G Q k n (sv_W G z M o) 212 [(0, .ref b), (1, .ref (sv_r G 14 0)), (2, .ref (sv_r G 19 0)), (3, .ref (sv_r G 25 0)), (4, .int (nI i))] [] := by
  obtain ⟨od, hd, n9, h⟩ := hinv
  obtain ⟨hm, hm7, hmr, b6, b7, hv, he, hr⟩ := inw_m h
  obtain ⟨hod, hd6, hn60, h0, h1, hkp, hn9, hn9r, htx, hst, hhs⟩ := id h
  have hcl : trnC (M 0) (many (M 0)) (xs (i + 1)) (xs (i + 2)) ≤ 3 := by have h9 := trnC_le  (M 0) (many (M 0)) (xs (i + 1)) (xs (i + 2)); omega
  by_cases hc : trnC (M 0) (many (M 0)) (xs (i + 1)) (xs (i + 2)) = 0
  · skip
    refine sv_aload_n (i := 1) (x := (sv_r G 14 0)) C dL_law_212 rfl rfl ?_
    refine sv_aload_n (i := 0) (x := b) C dL_law_213 rfl rfl ?_
    refine sv_iload (i := 4) (x := (nI i)) C dL_law_214 rfl ?_
    refine sv_iconst (v := nI 1) C dL_law_216 (by decide) ?_
    refine sv_iadd C dL_law_217 ?_
    refine sv_set (v' := .int (nI (i + 1))) (congrArg Value.int (nI_add _ _)) ?_
    refine sv_scrN C hX hbl hbA (by omega) (by omega) dL_law_218 ?_
    refine sv_aload_n (i := 0) (x := b) C dL_law_219 rfl rfl ?_
    refine sv_iload (i := 4) (x := (nI i)) C dL_law_220 rfl ?_
    refine sv_iconst (v := nI 2) C dL_law_222 (by decide) ?_
    refine sv_iadd C dL_law_223 ?_
    refine sv_set (v' := .int (nI (i + 2))) (congrArg Value.int (nI_add _ _)) ?_
    refine sv_scrN C hX hbl hbA (by omega) (by omega) dL_law_224 ?_
    refine sv_aload_n (i := 3) (x := (sv_r G 25 0)) C dL_law_225 rfl rfl ?_
    refine sw_call (as := [_, _, _, _]) (rest := []) C (met_L_turn l G hl z M o (xs (i + 1)) (xs (i + 2)) od hd hod h0 h1 hd6 b6 b7 _ hm hm7) kw_559 kw_560 kw_28 kc_turn 4 ⟨by decide, by decide, by decide +kernel⟩ rfl ⟨Nat.le_of_ble_eq_true rfl, Nat.le_of_ble_eq_true rfl⟩ (Nat.le_of_ble_eq_true rfl) dL_law_226 ⟨by show k + 1 ≤ 614530; omega, by show n + 6 ≤ 7252513; omega⟩ ?_
    refine sv_riS (nI (trnC (M 0) (many (M 0)) (xs (i + 1)) (xs (i + 2)))) rfl ?_
    refine sv_istore (i := 5) C [(0, .ref b), (1, .ref (sv_r G 14 0)), (2, .ref (sv_r G 19 0)), (3, .ref (sv_r G 25 0)), (4, .int (nI i)), (5, .int (nI (trnC (M 0) (many (M 0)) (xs (i + 1)) (xs (i + 2)))))] dL_law_229 (by decide) rfl ?_
    refine sv_wd (fun H h9 => by unfold sw_R at h9; rw [if_pos hc] at h9; exact h9) ?_
    obtain ⟨M1, e1⟩ : ∃ M9 : sv_M, M9 = (sv_u (sav od hd M) 0 (trnv (plF (M 0) (xs (i + 1)) (many (M 0)) 0).toNatClampNeg (xs (i + 2)) (M 0))) := ⟨_, rfl⟩
    rw [← e1]
    have e10 : M1 10 = M 10 := by rw [e1]; exact inw_hi h (by decide)
    have e15 : M1 15 = M 15 := by rw [e1]; exact inw_hi h (by decide)
    have e13 : M1 13 = M 13 := by rw [e1]; exact inw_hi h (by decide)
    refine sv_aload_n (i := 2) (x := (sv_r G 19 0)) C dL_law_231 rfl rfl ?_
    refine sv_aload_n (i := 0) (x := b) C dL_law_232 rfl rfl ?_
    refine sv_iload (i := 4) (x := (nI i)) C dL_law_233 rfl ?_
    refine sv_iconst (v := nI 1) C dL_law_235 (by decide) ?_
    refine sv_iadd C dL_law_236 ?_
    refine sv_set (v' := .int (nI (i + 1))) (congrArg Value.int (nI_add _ _)) ?_
    refine sv_scrN C hX hbl hbA (by omega) (by omega) dL_law_237 ?_
    refine sv_aload_n (i := 0) (x := b) C dL_law_238 rfl rfl ?_
    refine sv_iload (i := 4) (x := (nI i)) C dL_law_239 rfl ?_
    refine sv_iconst (v := nI 2) C dL_law_241 (by decide) ?_
    refine sv_iadd C dL_law_242 ?_
    refine sv_set (v' := .int (nI (i + 2))) (congrArg Value.int (nI_add _ _)) ?_
    refine sv_scrN C hX hbl hbA (by omega) (by omega) dL_law_243 ?_
    refine sv_callV (as := [_, _]) (rest := []) C (met_R_turn l G _ M1 _ (xs (i + 1)) (xs (i + 2)) hd (by rw [e15]; exact hkp) hd6 _ (by rw [e10]; exact hmr) hm7) fX6_turn kw_797 (sv_recv19 C) ⟨Nat.le_of_ble_eq_true rfl, Nat.le_of_ble_eq_true rfl⟩ (Nat.le_of_ble_eq_true rfl) dL_law_244 ⟨by show k + 1 ≤ 614530; omega, by show n + 6 ≤ 7252513; omega⟩ ?_
    refine sv_ri (fun v6 e6 => ?_)
    have hc2 : trnR (M1 10) (many (M 0)) (xs (i + 1)) (xs (i + 2)) = trnC (M 0) (many (M 0)) (xs (i + 1)) (xs (i + 2)) := by rw [e10]; exact trn_code h (by omega)
    refine sv_wd (sv_eqW (rW_0 (hc2.trans hc))) ?_
    obtain ⟨M2, e2⟩ : ∃ M9 : sv_M, M9 = sv_u (rsav hd (thr 0 M1)) 10 (trnv (plL (M1 10) (xs (i + 1)) (many (M 0))).toNatClampNeg (xs (i + 2)) (M1 10)) := ⟨_, rfl⟩
    rw [← e2]
    obtain ⟨i2, t2, v2⟩ := fc_turn h (by omega) hc e1 e2
    refine sv_istore (i := 6) C [(0, .ref b), (1, .ref (sv_r G 14 0)), (2, .ref (sv_r G 19 0)), (3, .ref (sv_r G 25 0)), (4, .int (nI i)), (5, .int (nI (trnC (M 0) (many (M 0)) (xs (i + 1)) (xs (i + 2))))), (6, .int v6)] dL_law_247 (by decide) rfl ?_
    refine sv_aload_n (i := 2) (x := (sv_r G 19 0)) C dL_law_249 rfl rfl ?_
    refine sv_callV (as := []) (rest := []) C (met_R_thrown l G _ _ _) fX6_thrown kw_762 (sv_recv19 C) ⟨Nat.le_of_ble_eq_true rfl, Nat.le_of_ble_eq_true rfl⟩ (Nat.le_of_ble_eq_true rfl) dL_law_250 ⟨by show k + 1 ≤ 614530; omega, by show n + 6 ≤ 7252513; omega⟩ ?_
    refine sv_riS (nI (trnC (M 0) (many (M 0)) (xs (i + 1)) (xs (i + 2)))) (t2.trans (by rw [hc]; rfl)) ?_
    refine sv_iload (i := 5) (x := (nI (trnC (M 0) (many (M 0)) (xs (i + 1)) (xs (i + 2))))) C dL_law_253 rfl ?_
    refine sv_icmp_eq C 260 dL_law_255 (by decide) (fun _ => ?_) (fun q9 => absurd rfl q9)
    refine sv_iload (i := 5) (x := (nI (trnC (M 0) (many (M 0)) (xs (i + 1)) (xs (i + 2))))) C dL_law_260 rfl ?_
    refine sv_if_ne C 277 dL_law_262 (by decide) (fun q9 => absurd (by rw [hc]; rfl) q9) (fun _ => ?_)
    refine sv_aload_n (i := 3) (x := (sv_r G 25 0)) C dL_law_265 rfl rfl ?_
    refine sv_iconst (v := 0) C dL_law_266 (by decide) ?_
    refine sv_lald C dL_law_267 ?_
    refine sv_iload (i := 6) (x := v6) C dL_law_268 rfl ?_
    refine sv_i2l C dL_law_270 ?_
    refine sv_lcmp C dL_law_271 ?_
    refine sv_if_eq C 277 dL_law_272 (by decide) (fun _ => ?_) (fun q9 => absurd ((lg_cmp_eq _ _).mpr (congrArg Int32.toInt64 (by rw [e6, rR_0 (hc2.trans hc)]; exact v2))) q9)
    refine sv_goto C 1316 dL_law_277 (by decide) ?_
    refine sv_sub (lv' := [(0, .ref b), (1, .ref (sv_r G 14 0)), (2, .ref (sv_r G 19 0)), (3, .ref (sv_r G 25 0)), (4, .int (nI i))]) rfl ?_
    exact sv_widen (by omega) (by omega) (kk _ _ _ i2)
  · skip
    refine sv_aload_n (i := 1) (x := (sv_r G 14 0)) C dL_law_212 rfl rfl ?_
    refine sv_aload_n (i := 0) (x := b) C dL_law_213 rfl rfl ?_
    refine sv_iload (i := 4) (x := (nI i)) C dL_law_214 rfl ?_
    refine sv_iconst (v := nI 1) C dL_law_216 (by decide) ?_
    refine sv_iadd C dL_law_217 ?_
    refine sv_set (v' := .int (nI (i + 1))) (congrArg Value.int (nI_add _ _)) ?_
    refine sv_scrN C hX hbl hbA (by omega) (by omega) dL_law_218 ?_
    refine sv_aload_n (i := 0) (x := b) C dL_law_219 rfl rfl ?_
    refine sv_iload (i := 4) (x := (nI i)) C dL_law_220 rfl ?_
    refine sv_iconst (v := nI 2) C dL_law_222 (by decide) ?_
    refine sv_iadd C dL_law_223 ?_
    refine sv_set (v' := .int (nI (i + 2))) (congrArg Value.int (nI_add _ _)) ?_
    refine sv_scrN C hX hbl hbA (by omega) (by omega) dL_law_224 ?_
    refine sv_aload_n (i := 3) (x := (sv_r G 25 0)) C dL_law_225 rfl rfl ?_
    refine sw_call (as := [_, _, _, _]) (rest := []) C (met_L_turn l G hl z M o (xs (i + 1)) (xs (i + 2)) od hd hod h0 h1 hd6 b6 b7 _ hm hm7) kw_559 kw_560 kw_28 kc_turn 4 ⟨by decide, by decide, by decide +kernel⟩ rfl ⟨Nat.le_of_ble_eq_true rfl, Nat.le_of_ble_eq_true rfl⟩ (Nat.le_of_ble_eq_true rfl) dL_law_226 ⟨by show k + 1 ≤ 614530; omega, by show n + 6 ≤ 7252513; omega⟩ ?_
    refine sv_riS (nI (trnC (M 0) (many (M 0)) (xs (i + 1)) (xs (i + 2)))) rfl ?_
    refine sv_istore (i := 5) C [(0, .ref b), (1, .ref (sv_r G 14 0)), (2, .ref (sv_r G 19 0)), (3, .ref (sv_r G 25 0)), (4, .int (nI i)), (5, .int (nI (trnC (M 0) (many (M 0)) (xs (i + 1)) (xs (i + 2)))))] dL_law_229 (by decide) rfl ?_
    refine sv_wd (Wd' := sv_Wz G z M o) (fun H h9 => by unfold sw_R at h9; rw [if_neg hc] at h9; exact h9) ?_
    refine sv_exH (Wf := fun z1 => sv_W G z1 M o) (fun H h9 => by obtain ⟨z1, _, h9⟩ := h9; exact ⟨z1, h9⟩) (fun z1 => ?_)
    refine sv_aload_n (i := 2) (x := (sv_r G 19 0)) C dL_law_231 rfl rfl ?_
    refine sv_aload_n (i := 0) (x := b) C dL_law_232 rfl rfl ?_
    refine sv_iload (i := 4) (x := (nI i)) C dL_law_233 rfl ?_
    refine sv_iconst (v := nI 1) C dL_law_235 (by decide) ?_
    refine sv_iadd C dL_law_236 ?_
    refine sv_set (v' := .int (nI (i + 1))) (congrArg Value.int (nI_add _ _)) ?_
    refine sv_scrN C hX hbl hbA (by omega) (by omega) dL_law_237 ?_
    refine sv_aload_n (i := 0) (x := b) C dL_law_238 rfl rfl ?_
    refine sv_iload (i := 4) (x := (nI i)) C dL_law_239 rfl ?_
    refine sv_iconst (v := nI 2) C dL_law_241 (by decide) ?_
    refine sv_iadd C dL_law_242 ?_
    refine sv_set (v' := .int (nI (i + 2))) (congrArg Value.int (nI_add _ _)) ?_
    refine sv_scrN C hX hbl hbA (by omega) (by omega) dL_law_243 ?_
    refine sv_callV (as := [_, _]) (rest := []) C (met_R_turn l G _ M _ (xs (i + 1)) (xs (i + 2)) hd hkp hd6 _ hmr hm7) fX6_turn kw_797 (sv_recv19 C) ⟨Nat.le_of_ble_eq_true rfl, Nat.le_of_ble_eq_true rfl⟩ (Nat.le_of_ble_eq_true rfl) dL_law_244 ⟨by show k + 1 ≤ 614530; omega, by show n + 6 ≤ 7252513; omega⟩ ?_
    refine sv_ri (fun v6 e6 => ?_)
    have hc2 : trnR (M 10) (many (M 0)) (xs (i + 1)) (xs (i + 2)) = trnC (M 0) (many (M 0)) (xs (i + 1)) (xs (i + 2)) := by exact trn_code h (by omega)
    refine sv_wd (sv_eqW (rW_n (fun q9 => hc (hc2.symm.trans q9)))) ?_
    have i2 : inv (Cc + 15) (B + 50400) (thr (nI (trnR (M 10) (many (M 0)) (xs (i + 1)) (xs (i + 2)))) M) := inv_lk ⟨od, hd, n9, h⟩ lk_thr (by omega) (by omega)
    refine sv_istore (i := 6) C [(0, .ref b), (1, .ref (sv_r G 14 0)), (2, .ref (sv_r G 19 0)), (3, .ref (sv_r G 25 0)), (4, .int (nI i)), (5, .int (nI (trnC (M 0) (many (M 0)) (xs (i + 1)) (xs (i + 2))))), (6, .int v6)] dL_law_247 (by decide) rfl ?_
    refine sv_aload_n (i := 2) (x := (sv_r G 19 0)) C dL_law_249 rfl rfl ?_
    refine sv_callV (as := []) (rest := []) C (met_R_thrown l G _ _ _) fX6_thrown kw_762 (sv_recv19 C) ⟨Nat.le_of_ble_eq_true rfl, Nat.le_of_ble_eq_true rfl⟩ (Nat.le_of_ble_eq_true rfl) dL_law_250 ⟨by show k + 1 ≤ 614530; omega, by show n + 6 ≤ 7252513; omega⟩ ?_
    refine sv_riS (nI (trnC (M 0) (many (M 0)) (xs (i + 1)) (xs (i + 2)))) (thr_2.trans (by rw [hc2])) ?_
    refine sv_iload (i := 5) (x := (nI (trnC (M 0) (many (M 0)) (xs (i + 1)) (xs (i + 2))))) C dL_law_253 rfl ?_
    refine sv_icmp_eq C 260 dL_law_255 (by decide) (fun _ => ?_) (fun q9 => absurd rfl q9)
    refine sv_iload (i := 5) (x := (nI (trnC (M 0) (many (M 0)) (xs (i + 1)) (xs (i + 2))))) C dL_law_260 rfl ?_
    refine sv_if_ne C 277 dL_law_262 (by decide) (fun _ => ?_) (fun q9 => absurd q9 (nI_ne0 (by omega) (by omega)))
    refine sv_goto C 1316 dL_law_277 (by decide) ?_
    refine sv_sub (lv' := [(0, .ref b), (1, .ref (sv_r G 14 0)), (2, .ref (sv_r G 19 0)), (3, .ref (sv_r G 25 0)), (4, .int (nI i))]) rfl ?_
    exact sv_widen (by omega) (by omega) (kk _ _ _ i2)
set_option maxHeartbeats 4000000 in
set_option maxRecDepth 100000 in
theorem lc_press {p : Program} {l : Launch} {e : Env} {s : State} {m : MethodId} {args : Array Value} {below : List Frame} {meth : Method} {c : Code} {k n : Nat} {Q : State → Prop} {G : sv_G} {b L : Nat} {xs : Nat → Int32} {z : Nat} {M : sv_M} {o : Int64} {i Cc B : Nat} (C : sv_C p l s m args meth c code 9 RL G) (hl : l.stackTraces = false) (hX : va_X b L xs s s.heap) (hbl : b < s.heap.size) (hbA : ¬ sv_A G b) (hL : L ≤ 1536) (hi : i + 2 < L) (hCc : Cc ≤ 7680) (hB : B ≤ 25804800) (hinv : inv Cc B M) (hk : k ≤ 3000) (hn : n ≤ 20000) (kk : ∀ z9 M9 o9, inv (Cc + 15) (B + 50400) M9 → sv_V p l e room_1 s m args below meth c 9 G Q (k + 4) (n + 24) (sv_W G z9 M9 o9) 1316 [(0, .ref b), (1, .ref (sv_r G 14 0)), (2, .ref (sv_r G 19 0)), (3, .ref (sv_r G 25 0)), (4, .int (nI i))] []) : sv_V p l e room_1 s m args below meth c 9 G Q k n (sv_W G z M o) 280 [(0, .ref b), (1, .ref (sv_r G 14 0)), (2, .ref (sv_r G 19 0)), (3, .ref (sv_r G 25 0)), (4, .int (nI i))] [] := by
  obtain ⟨od, hd, n9, h⟩ := hinv
  obtain ⟨hm, hm7, hmr, b6, b7, hv, he, hr⟩ := inw_m h
  obtain ⟨hod, hd6, hn60, h0, h1, hkp, hn9, hn9r, htx, hst, hhs⟩ := id h
  have hcl : inC 8 (xs (i + 1)) ≤ 3 := by have h9 := inC_le  8 (xs (i + 1)); omega
  by_cases hc : inC 8 (xs (i + 1)) = 0
  · skip
    refine sv_aload_n (i := 1) (x := (sv_r G 14 0)) C dL_law_280 rfl rfl ?_
    refine sv_aload_n (i := 0) (x := b) C dL_law_281 rfl rfl ?_
    refine sv_iload (i := 4) (x := (nI i)) C dL_law_282 rfl ?_
    refine sv_iconst (v := nI 1) C dL_law_284 (by decide) ?_
    refine sv_iadd C dL_law_285 ?_
    refine sv_set (v' := .int (nI (i + 1))) (congrArg Value.int (nI_add _ _)) ?_
    refine sv_scrN C hX hbl hbA (by omega) (by omega) dL_law_286 ?_
    refine sv_aload_n (i := 3) (x := (sv_r G 25 0)) C dL_law_287 rfl rfl ?_
    refine sw_call (as := [_, _, _]) (rest := []) C (met_L_press l G hl z M o (xs (i + 1)) od hd hod h0 h1 hd6 b6 b7) kw_568 kw_569 kw_28 kc_press 3 ⟨by decide, by decide, by decide +kernel⟩ rfl ⟨Nat.le_of_ble_eq_true rfl, Nat.le_of_ble_eq_true rfl⟩ (Nat.le_of_ble_eq_true rfl) dL_law_288 ⟨by show k + 1 ≤ 614530; omega, by show n + 6 ≤ 7252513; omega⟩ ?_
    refine sv_riS (nI (inC 8 (xs (i + 1)))) rfl ?_
    refine sv_istore (i := 5) C [(0, .ref b), (1, .ref (sv_r G 14 0)), (2, .ref (sv_r G 19 0)), (3, .ref (sv_r G 25 0)), (4, .int (nI i)), (5, .int (nI (inC 8 (xs (i + 1)))))] dL_law_291 (by decide) rfl ?_
    refine sv_wd (fun H h9 => by unfold sw_R at h9; rw [if_pos hc] at h9; exact h9) ?_
    obtain ⟨M1, e1⟩ : ∃ M9 : sv_M, M9 = (sv_u (sav od hd M) 0 (sw (M 0 0) (xs (i + 1)).toNatClampNeg (M 0))) := ⟨_, rfl⟩
    rw [← e1]
    have e10 : M1 10 = M 10 := by rw [e1]; exact inw_hi h (by decide)
    have e15 : M1 15 = M 15 := by rw [e1]; exact inw_hi h (by decide)
    have e13 : M1 13 = M 13 := by rw [e1]; exact inw_hi h (by decide)
    refine sv_aload_n (i := 2) (x := (sv_r G 19 0)) C dL_law_293 rfl rfl ?_
    refine sv_aload_n (i := 0) (x := b) C dL_law_294 rfl rfl ?_
    refine sv_iload (i := 4) (x := (nI i)) C dL_law_295 rfl ?_
    refine sv_iconst (v := nI 1) C dL_law_297 (by decide) ?_
    refine sv_iadd C dL_law_298 ?_
    refine sv_set (v' := .int (nI (i + 1))) (congrArg Value.int (nI_add _ _)) ?_
    refine sv_scrN C hX hbl hbA (by omega) (by omega) dL_law_299 ?_
    refine sv_callV (as := [_]) (rest := []) C (met_R_press l G _ M1 _ (xs (i + 1)) hd (by rw [e15]; exact hkp) hd6) fX6_press kw_808 (sv_recv19 C) ⟨Nat.le_of_ble_eq_true rfl, Nat.le_of_ble_eq_true rfl⟩ (Nat.le_of_ble_eq_true rfl) dL_law_300 ⟨by show k + 1 ≤ 614530; omega, by show n + 6 ≤ 7252513; omega⟩ ?_
    refine sv_ri (fun v6 e6 => ?_)
    refine sv_wd (sv_eqW (rW_0 hc)) ?_
    obtain ⟨M2, e2⟩ : ∃ M9 : sv_M, M9 = sv_u (rsav hd (thr 0 M1)) 10 (sw (M1 10 0) (xs (i + 1)).toNatClampNeg (M1 10)) := ⟨_, rfl⟩
    rw [← e2]
    obtain ⟨i2, t2, v2⟩ := fc_press h hc e1 e2
    refine sv_istore (i := 6) C [(0, .ref b), (1, .ref (sv_r G 14 0)), (2, .ref (sv_r G 19 0)), (3, .ref (sv_r G 25 0)), (4, .int (nI i)), (5, .int (nI (inC 8 (xs (i + 1))))), (6, .int v6)] dL_law_303 (by decide) rfl ?_
    refine sv_aload_n (i := 2) (x := (sv_r G 19 0)) C dL_law_305 rfl rfl ?_
    refine sv_callV (as := []) (rest := []) C (met_R_thrown l G _ _ _) fX6_thrown kw_762 (sv_recv19 C) ⟨Nat.le_of_ble_eq_true rfl, Nat.le_of_ble_eq_true rfl⟩ (Nat.le_of_ble_eq_true rfl) dL_law_306 ⟨by show k + 1 ≤ 614530; omega, by show n + 6 ≤ 7252513; omega⟩ ?_
    refine sv_riS (nI (inC 8 (xs (i + 1)))) (t2.trans (by rw [hc]; rfl)) ?_
    refine sv_iload (i := 5) (x := (nI (inC 8 (xs (i + 1))))) C dL_law_309 rfl ?_
    refine sv_icmp_eq C 316 dL_law_311 (by decide) (fun _ => ?_) (fun q9 => absurd rfl q9)
    refine sv_iload (i := 5) (x := (nI (inC 8 (xs (i + 1))))) C dL_law_316 rfl ?_
    refine sv_if_ne C 333 dL_law_318 (by decide) (fun q9 => absurd (by rw [hc]; rfl) q9) (fun _ => ?_)
    refine sv_aload_n (i := 3) (x := (sv_r G 25 0)) C dL_law_321 rfl rfl ?_
    refine sv_iconst (v := 0) C dL_law_322 (by decide) ?_
    refine sv_lald C dL_law_323 ?_
    refine sv_iload (i := 6) (x := v6) C dL_law_324 rfl ?_
    refine sv_i2l C dL_law_326 ?_
    refine sv_lcmp C dL_law_327 ?_
    refine sv_if_eq C 333 dL_law_328 (by decide) (fun _ => ?_) (fun q9 => absurd ((lg_cmp_eq _ _).mpr (congrArg Int32.toInt64 (by rw [e6, rR_0 hc]; exact v2))) q9)
    refine sv_goto C 1316 dL_law_333 (by decide) ?_
    refine sv_sub (lv' := [(0, .ref b), (1, .ref (sv_r G 14 0)), (2, .ref (sv_r G 19 0)), (3, .ref (sv_r G 25 0)), (4, .int (nI i))]) rfl ?_
    exact sv_widen (by omega) (by omega) (kk _ _ _ i2)
  · skip
    refine sv_aload_n (i := 1) (x := (sv_r G 14 0)) C dL_law_280 rfl rfl ?_
    refine sv_aload_n (i := 0) (x := b) C dL_law_281 rfl rfl ?_
    refine sv_iload (i := 4) (x := (nI i)) C dL_law_282 rfl ?_
    refine sv_iconst (v := nI 1) C dL_law_284 (by decide) ?_
    refine sv_iadd C dL_law_285 ?_
    refine sv_set (v' := .int (nI (i + 1))) (congrArg Value.int (nI_add _ _)) ?_
    refine sv_scrN C hX hbl hbA (by omega) (by omega) dL_law_286 ?_
    refine sv_aload_n (i := 3) (x := (sv_r G 25 0)) C dL_law_287 rfl rfl ?_
    refine sw_call (as := [_, _, _]) (rest := []) C (met_L_press l G hl z M o (xs (i + 1)) od hd hod h0 h1 hd6 b6 b7) kw_568 kw_569 kw_28 kc_press 3 ⟨by decide, by decide, by decide +kernel⟩ rfl ⟨Nat.le_of_ble_eq_true rfl, Nat.le_of_ble_eq_true rfl⟩ (Nat.le_of_ble_eq_true rfl) dL_law_288 ⟨by show k + 1 ≤ 614530; omega, by show n + 6 ≤ 7252513; omega⟩ ?_
    refine sv_riS (nI (inC 8 (xs (i + 1)))) rfl ?_
    refine sv_istore (i := 5) C [(0, .ref b), (1, .ref (sv_r G 14 0)), (2, .ref (sv_r G 19 0)), (3, .ref (sv_r G 25 0)), (4, .int (nI i)), (5, .int (nI (inC 8 (xs (i + 1)))))] dL_law_291 (by decide) rfl ?_
    refine sv_wd (Wd' := sv_Wz G z M o) (fun H h9 => by unfold sw_R at h9; rw [if_neg hc] at h9; exact h9) ?_
    refine sv_exH (Wf := fun z1 => sv_W G z1 M o) (fun H h9 => by obtain ⟨z1, _, h9⟩ := h9; exact ⟨z1, h9⟩) (fun z1 => ?_)
    refine sv_aload_n (i := 2) (x := (sv_r G 19 0)) C dL_law_293 rfl rfl ?_
    refine sv_aload_n (i := 0) (x := b) C dL_law_294 rfl rfl ?_
    refine sv_iload (i := 4) (x := (nI i)) C dL_law_295 rfl ?_
    refine sv_iconst (v := nI 1) C dL_law_297 (by decide) ?_
    refine sv_iadd C dL_law_298 ?_
    refine sv_set (v' := .int (nI (i + 1))) (congrArg Value.int (nI_add _ _)) ?_
    refine sv_scrN C hX hbl hbA (by omega) (by omega) dL_law_299 ?_
    refine sv_callV (as := [_]) (rest := []) C (met_R_press l G _ M _ (xs (i + 1)) hd hkp hd6) fX6_press kw_808 (sv_recv19 C) ⟨Nat.le_of_ble_eq_true rfl, Nat.le_of_ble_eq_true rfl⟩ (Nat.le_of_ble_eq_true rfl) dL_law_300 ⟨by show k + 1 ≤ 614530; omega, by show n + 6 ≤ 7252513; omega⟩ ?_
    refine sv_ri (fun v6 e6 => ?_)
    refine sv_wd (sv_eqW (rW_n hc)) ?_
    have i2 : inv (Cc + 15) (B + 50400) (thr (nI (inC 8 (xs (i + 1)))) M) := inv_lk ⟨od, hd, n9, h⟩ lk_thr (by omega) (by omega)
    refine sv_istore (i := 6) C [(0, .ref b), (1, .ref (sv_r G 14 0)), (2, .ref (sv_r G 19 0)), (3, .ref (sv_r G 25 0)), (4, .int (nI i)), (5, .int (nI (inC 8 (xs (i + 1))))), (6, .int v6)] dL_law_303 (by decide) rfl ?_
    refine sv_aload_n (i := 2) (x := (sv_r G 19 0)) C dL_law_305 rfl rfl ?_
    refine sv_callV (as := []) (rest := []) C (met_R_thrown l G _ _ _) fX6_thrown kw_762 (sv_recv19 C) ⟨Nat.le_of_ble_eq_true rfl, Nat.le_of_ble_eq_true rfl⟩ (Nat.le_of_ble_eq_true rfl) dL_law_306 ⟨by show k + 1 ≤ 614530; omega, by show n + 6 ≤ 7252513; omega⟩ ?_
    refine sv_riS (nI (inC 8 (xs (i + 1)))) thr_2 ?_
    refine sv_iload (i := 5) (x := (nI (inC 8 (xs (i + 1))))) C dL_law_309 rfl ?_
    refine sv_icmp_eq C 316 dL_law_311 (by decide) (fun _ => ?_) (fun q9 => absurd rfl q9)
    refine sv_iload (i := 5) (x := (nI (inC 8 (xs (i + 1))))) C dL_law_316 rfl ?_
    refine sv_if_ne C 333 dL_law_318 (by decide) (fun _ => ?_) (fun q9 => absurd q9 (nI_ne0 (by omega) (by omega)))
    refine sv_goto C 1316 dL_law_333 (by decide) ?_
    refine sv_sub (lv' := [(0, .ref b), (1, .ref (sv_r G 14 0)), (2, .ref (sv_r G 19 0)), (3, .ref (sv_r G 25 0)), (4, .int (nI i))]) rfl ?_
    exact sv_widen (by omega) (by omega) (kk _ _ _ i2)
set_option maxHeartbeats 4000000 in
set_option maxRecDepth 100000 in
theorem lc_sensor {p : Program} {l : Launch} {e : Env} {s : State} {m : MethodId} {args : Array Value} {below : List Frame} {meth : Method} {c : Code} {k n : Nat} {Q : State → Prop} {G : sv_G} {b L : Nat} {xs : Nat → Int32} {z : Nat} {M : sv_M} {o : Int64} {i Cc B : Nat} (C : sv_C p l s m args meth c code 9 RL G) (hl : l.stackTraces = false) (hX : va_X b L xs s s.heap) (hbl : b < s.heap.size) (hbA : ¬ sv_A G b) (hL : L ≤ 1536) (hi : i + 2 < L) (hCc : Cc ≤ 7680) (hB : B ≤ 25804800) (hinv : inv Cc B M) (hk : k ≤ 3000) (hn : n ≤ 20000) (kk : ∀ z9 M9 o9, inv (Cc + 15) (B + 50400) M9 → sv_V p l e room_1 s m args below meth c 9 G Q (k + 4) (n + 24) (sv_W G z9 M9 o9) 1316 [(0, .ref b), (1, .ref (sv_r G 14 0)), (2, .ref (sv_r G 19 0)), (3, .ref (sv_r G 25 0)), (4, .int (nI i))] []) : sv_V p l e room_1 s m args below meth c 9 G Q k n (sv_W G z M o) 336 [(0, .ref b), (1, .ref (sv_r G 14 0)), (2, .ref (sv_r G 19 0)), (3, .ref (sv_r G 25 0)), (4, .int (nI i))] [] := by
  obtain ⟨od, hd, n9, h⟩ := hinv
  obtain ⟨hm, hm7, hmr, b6, b7, hv, he, hr⟩ := inw_m h
  obtain ⟨hod, hd6, hn60, h0, h1, hkp, hn9, hn9r, htx, hst, hhs⟩ := id h
  have hcl : inC 8 (xs (i + 1)) ≤ 3 := by have h9 := inC_le  8 (xs (i + 1)); omega
  by_cases hc : inC 8 (xs (i + 1)) = 0
  · skip
    refine sv_aload_n (i := 1) (x := (sv_r G 14 0)) C dL_law_336 rfl rfl ?_
    refine sv_aload_n (i := 0) (x := b) C dL_law_337 rfl rfl ?_
    refine sv_iload (i := 4) (x := (nI i)) C dL_law_338 rfl ?_
    refine sv_iconst (v := nI 1) C dL_law_340 (by decide) ?_
    refine sv_iadd C dL_law_341 ?_
    refine sv_set (v' := .int (nI (i + 1))) (congrArg Value.int (nI_add _ _)) ?_
    refine sv_scrN C hX hbl hbA (by omega) (by omega) dL_law_342 ?_
    refine sv_aload_n (i := 0) (x := b) C dL_law_343 rfl rfl ?_
    refine sv_iload (i := 4) (x := (nI i)) C dL_law_344 rfl ?_
    refine sv_iconst (v := nI 2) C dL_law_346 (by decide) ?_
    refine sv_iadd C dL_law_347 ?_
    refine sv_set (v' := .int (nI (i + 2))) (congrArg Value.int (nI_add _ _)) ?_
    refine sv_scrN C hX hbl hbA (by omega) (by omega) dL_law_348 ?_
    refine sv_sel_if_eq (va := nI 1) (vb := nI 0) C 356 dL_law_349 (by decide) dL_law_352 (by decide) dL_law_353 (by decide) dL_law_356 (by decide) ?_
    refine sv_aload_n (i := 3) (x := (sv_r G 25 0)) C dL_law_357 rfl rfl ?_
    refine sw_call (as := [_, _, _, _]) (rest := []) C (met_L_sensor l G hl z M o (xs (i + 1)) (if xs (i + 2) = 0 then nI 0 else nI 1) ite_b od hd hod h0 h1 hd6 b6 b7) kw_576 kw_577 kw_28 kc_sensor 4 ⟨by decide, by decide, by decide +kernel⟩ rfl ⟨Nat.le_of_ble_eq_true rfl, Nat.le_of_ble_eq_true rfl⟩ (Nat.le_of_ble_eq_true rfl) dL_law_358 ⟨by show k + 1 ≤ 614530; omega, by show n + 6 ≤ 7252513; omega⟩ ?_
    refine sv_riS (nI (inC 8 (xs (i + 1)))) rfl ?_
    refine sv_istore (i := 5) C [(0, .ref b), (1, .ref (sv_r G 14 0)), (2, .ref (sv_r G 19 0)), (3, .ref (sv_r G 25 0)), (4, .int (nI i)), (5, .int (nI (inC 8 (xs (i + 1)))))] dL_law_361 (by decide) rfl ?_
    refine sv_wd (fun H h9 => by unfold sw_R at h9; rw [if_pos hc] at h9; exact h9) ?_
    obtain ⟨M1, e1⟩ : ∃ M9 : sv_M, M9 = (sv_u (sav od hd M) 0 (upd (M 0) (6 * (xs (i + 1)).toNatClampNeg + 10) (if xs (i + 2) = 0 then nI 0 else nI 1))) := ⟨_, rfl⟩
    rw [← e1]
    have e10 : M1 10 = M 10 := by rw [e1]; exact inw_hi h (by decide)
    have e15 : M1 15 = M 15 := by rw [e1]; exact inw_hi h (by decide)
    have e13 : M1 13 = M 13 := by rw [e1]; exact inw_hi h (by decide)
    refine sv_aload_n (i := 2) (x := (sv_r G 19 0)) C dL_law_363 rfl rfl ?_
    refine sv_aload_n (i := 0) (x := b) C dL_law_364 rfl rfl ?_
    refine sv_iload (i := 4) (x := (nI i)) C dL_law_365 rfl ?_
    refine sv_iconst (v := nI 1) C dL_law_367 (by decide) ?_
    refine sv_iadd C dL_law_368 ?_
    refine sv_set (v' := .int (nI (i + 1))) (congrArg Value.int (nI_add _ _)) ?_
    refine sv_scrN C hX hbl hbA (by omega) (by omega) dL_law_369 ?_
    refine sv_aload_n (i := 0) (x := b) C dL_law_370 rfl rfl ?_
    refine sv_iload (i := 4) (x := (nI i)) C dL_law_371 rfl ?_
    refine sv_iconst (v := nI 2) C dL_law_373 (by decide) ?_
    refine sv_iadd C dL_law_374 ?_
    refine sv_set (v' := .int (nI (i + 2))) (congrArg Value.int (nI_add _ _)) ?_
    refine sv_scrN C hX hbl hbA (by omega) (by omega) dL_law_375 ?_
    refine sv_sel_if_eq (va := nI 1) (vb := nI 0) C 383 dL_law_376 (by decide) dL_law_379 (by decide) dL_law_380 (by decide) dL_law_383 (by decide) ?_
    refine sv_callV (as := [_, _]) (rest := []) C (met_R_sensor l G _ M1 _ (xs (i + 1)) (if xs (i + 2) = 0 then nI 0 else nI 1) ite_b hd (by rw [e15]; exact hkp) hd6) fX6_sensor kw_818 (sv_recv19 C) ⟨Nat.le_of_ble_eq_true rfl, Nat.le_of_ble_eq_true rfl⟩ (Nat.le_of_ble_eq_true rfl) dL_law_384 ⟨by show k + 1 ≤ 614530; omega, by show n + 6 ≤ 7252513; omega⟩ ?_
    refine sv_ri (fun v6 e6 => ?_)
    refine sv_wd (sv_eqW (rW_0 hc)) ?_
    obtain ⟨M2, e2⟩ : ∃ M9 : sv_M, M9 = sv_u (rsav hd (thr 0 M1)) 10 (upd (M1 10) (6 * (xs (i + 1)).toNatClampNeg + 10) (if xs (i + 2) = 0 then nI 0 else nI 1)) := ⟨_, rfl⟩
    rw [← e2]
    obtain ⟨i2, t2, v2⟩ := fc_sensor h hc e1 e2
    refine sv_istore (i := 6) C [(0, .ref b), (1, .ref (sv_r G 14 0)), (2, .ref (sv_r G 19 0)), (3, .ref (sv_r G 25 0)), (4, .int (nI i)), (5, .int (nI (inC 8 (xs (i + 1))))), (6, .int v6)] dL_law_387 (by decide) rfl ?_
    refine sv_aload_n (i := 2) (x := (sv_r G 19 0)) C dL_law_389 rfl rfl ?_
    refine sv_callV (as := []) (rest := []) C (met_R_thrown l G _ _ _) fX6_thrown kw_762 (sv_recv19 C) ⟨Nat.le_of_ble_eq_true rfl, Nat.le_of_ble_eq_true rfl⟩ (Nat.le_of_ble_eq_true rfl) dL_law_390 ⟨by show k + 1 ≤ 614530; omega, by show n + 6 ≤ 7252513; omega⟩ ?_
    refine sv_riS (nI (inC 8 (xs (i + 1)))) (t2.trans (by rw [hc]; rfl)) ?_
    refine sv_iload (i := 5) (x := (nI (inC 8 (xs (i + 1))))) C dL_law_393 rfl ?_
    refine sv_icmp_eq C 400 dL_law_395 (by decide) (fun _ => ?_) (fun q9 => absurd rfl q9)
    refine sv_iload (i := 5) (x := (nI (inC 8 (xs (i + 1))))) C dL_law_400 rfl ?_
    refine sv_if_ne C 417 dL_law_402 (by decide) (fun q9 => absurd (by rw [hc]; rfl) q9) (fun _ => ?_)
    refine sv_aload_n (i := 3) (x := (sv_r G 25 0)) C dL_law_405 rfl rfl ?_
    refine sv_iconst (v := 0) C dL_law_406 (by decide) ?_
    refine sv_lald C dL_law_407 ?_
    refine sv_iload (i := 6) (x := v6) C dL_law_408 rfl ?_
    refine sv_i2l C dL_law_410 ?_
    refine sv_lcmp C dL_law_411 ?_
    refine sv_if_eq C 417 dL_law_412 (by decide) (fun _ => ?_) (fun q9 => absurd ((lg_cmp_eq _ _).mpr (congrArg Int32.toInt64 (by rw [e6, rR_0 hc]; exact v2))) q9)
    refine sv_goto C 1316 dL_law_417 (by decide) ?_
    refine sv_sub (lv' := [(0, .ref b), (1, .ref (sv_r G 14 0)), (2, .ref (sv_r G 19 0)), (3, .ref (sv_r G 25 0)), (4, .int (nI i))]) rfl ?_
    exact sv_widen (by omega) (by omega) (kk _ _ _ i2)
  · skip
    refine sv_aload_n (i := 1) (x := (sv_r G 14 0)) C dL_law_336 rfl rfl ?_
    refine sv_aload_n (i := 0) (x := b) C dL_law_337 rfl rfl ?_
    refine sv_iload (i := 4) (x := (nI i)) C dL_law_338 rfl ?_
    refine sv_iconst (v := nI 1) C dL_law_340 (by decide) ?_
    refine sv_iadd C dL_law_341 ?_
    refine sv_set (v' := .int (nI (i + 1))) (congrArg Value.int (nI_add _ _)) ?_
    refine sv_scrN C hX hbl hbA (by omega) (by omega) dL_law_342 ?_
    refine sv_aload_n (i := 0) (x := b) C dL_law_343 rfl rfl ?_
    refine sv_iload (i := 4) (x := (nI i)) C dL_law_344 rfl ?_
    refine sv_iconst (v := nI 2) C dL_law_346 (by decide) ?_
    refine sv_iadd C dL_law_347 ?_
    refine sv_set (v' := .int (nI (i + 2))) (congrArg Value.int (nI_add _ _)) ?_
    refine sv_scrN C hX hbl hbA (by omega) (by omega) dL_law_348 ?_
    refine sv_sel_if_eq (va := nI 1) (vb := nI 0) C 356 dL_law_349 (by decide) dL_law_352 (by decide) dL_law_353 (by decide) dL_law_356 (by decide) ?_
    refine sv_aload_n (i := 3) (x := (sv_r G 25 0)) C dL_law_357 rfl rfl ?_
    refine sw_call (as := [_, _, _, _]) (rest := []) C (met_L_sensor l G hl z M o (xs (i + 1)) (if xs (i + 2) = 0 then nI 0 else nI 1) ite_b od hd hod h0 h1 hd6 b6 b7) kw_576 kw_577 kw_28 kc_sensor 4 ⟨by decide, by decide, by decide +kernel⟩ rfl ⟨Nat.le_of_ble_eq_true rfl, Nat.le_of_ble_eq_true rfl⟩ (Nat.le_of_ble_eq_true rfl) dL_law_358 ⟨by show k + 1 ≤ 614530; omega, by show n + 6 ≤ 7252513; omega⟩ ?_
    refine sv_riS (nI (inC 8 (xs (i + 1)))) rfl ?_
    refine sv_istore (i := 5) C [(0, .ref b), (1, .ref (sv_r G 14 0)), (2, .ref (sv_r G 19 0)), (3, .ref (sv_r G 25 0)), (4, .int (nI i)), (5, .int (nI (inC 8 (xs (i + 1)))))] dL_law_361 (by decide) rfl ?_
    refine sv_wd (Wd' := sv_Wz G z M o) (fun H h9 => by unfold sw_R at h9; rw [if_neg hc] at h9; exact h9) ?_
    refine sv_exH (Wf := fun z1 => sv_W G z1 M o) (fun H h9 => by obtain ⟨z1, _, h9⟩ := h9; exact ⟨z1, h9⟩) (fun z1 => ?_)
    refine sv_aload_n (i := 2) (x := (sv_r G 19 0)) C dL_law_363 rfl rfl ?_
    refine sv_aload_n (i := 0) (x := b) C dL_law_364 rfl rfl ?_
    refine sv_iload (i := 4) (x := (nI i)) C dL_law_365 rfl ?_
    refine sv_iconst (v := nI 1) C dL_law_367 (by decide) ?_
    refine sv_iadd C dL_law_368 ?_
    refine sv_set (v' := .int (nI (i + 1))) (congrArg Value.int (nI_add _ _)) ?_
    refine sv_scrN C hX hbl hbA (by omega) (by omega) dL_law_369 ?_
    refine sv_aload_n (i := 0) (x := b) C dL_law_370 rfl rfl ?_
    refine sv_iload (i := 4) (x := (nI i)) C dL_law_371 rfl ?_
    refine sv_iconst (v := nI 2) C dL_law_373 (by decide) ?_
    refine sv_iadd C dL_law_374 ?_
    refine sv_set (v' := .int (nI (i + 2))) (congrArg Value.int (nI_add _ _)) ?_
    refine sv_scrN C hX hbl hbA (by omega) (by omega) dL_law_375 ?_
    refine sv_sel_if_eq (va := nI 1) (vb := nI 0) C 383 dL_law_376 (by decide) dL_law_379 (by decide) dL_law_380 (by decide) dL_law_383 (by decide) ?_
    refine sv_callV (as := [_, _]) (rest := []) C (met_R_sensor l G _ M _ (xs (i + 1)) (if xs (i + 2) = 0 then nI 0 else nI 1) ite_b hd hkp hd6) fX6_sensor kw_818 (sv_recv19 C) ⟨Nat.le_of_ble_eq_true rfl, Nat.le_of_ble_eq_true rfl⟩ (Nat.le_of_ble_eq_true rfl) dL_law_384 ⟨by show k + 1 ≤ 614530; omega, by show n + 6 ≤ 7252513; omega⟩ ?_
    refine sv_ri (fun v6 e6 => ?_)
    refine sv_wd (sv_eqW (rW_n hc)) ?_
    have i2 : inv (Cc + 15) (B + 50400) (thr (nI (inC 8 (xs (i + 1)))) M) := inv_lk ⟨od, hd, n9, h⟩ lk_thr (by omega) (by omega)
    refine sv_istore (i := 6) C [(0, .ref b), (1, .ref (sv_r G 14 0)), (2, .ref (sv_r G 19 0)), (3, .ref (sv_r G 25 0)), (4, .int (nI i)), (5, .int (nI (inC 8 (xs (i + 1))))), (6, .int v6)] dL_law_387 (by decide) rfl ?_
    refine sv_aload_n (i := 2) (x := (sv_r G 19 0)) C dL_law_389 rfl rfl ?_
    refine sv_callV (as := []) (rest := []) C (met_R_thrown l G _ _ _) fX6_thrown kw_762 (sv_recv19 C) ⟨Nat.le_of_ble_eq_true rfl, Nat.le_of_ble_eq_true rfl⟩ (Nat.le_of_ble_eq_true rfl) dL_law_390 ⟨by show k + 1 ≤ 614530; omega, by show n + 6 ≤ 7252513; omega⟩ ?_
    refine sv_riS (nI (inC 8 (xs (i + 1)))) thr_2 ?_
    refine sv_iload (i := 5) (x := (nI (inC 8 (xs (i + 1))))) C dL_law_393 rfl ?_
    refine sv_icmp_eq C 400 dL_law_395 (by decide) (fun _ => ?_) (fun q9 => absurd rfl q9)
    refine sv_iload (i := 5) (x := (nI (inC 8 (xs (i + 1))))) C dL_law_400 rfl ?_
    refine sv_if_ne C 417 dL_law_402 (by decide) (fun _ => ?_) (fun q9 => absurd q9 (nI_ne0 (by omega) (by omega)))
    refine sv_goto C 1316 dL_law_417 (by decide) ?_
    refine sv_sub (lv' := [(0, .ref b), (1, .ref (sv_r G 14 0)), (2, .ref (sv_r G 19 0)), (3, .ref (sv_r G 25 0)), (4, .int (nI i))]) rfl ?_
    exact sv_widen (by omega) (by omega) (kk _ _ _ i2)
set_option maxHeartbeats 4000000 in
set_option maxRecDepth 100000 in
theorem lc_set {p : Program} {l : Launch} {e : Env} {s : State} {m : MethodId} {args : Array Value} {below : List Frame} {meth : Method} {c : Code} {k n : Nat} {Q : State → Prop} {G : sv_G} {b L : Nat} {xs : Nat → Int32} {z : Nat} {M : sv_M} {o : Int64} {i Cc B : Nat} (C : sv_C p l s m args meth c code 9 RL G) (hl : l.stackTraces = false) (hX : va_X b L xs s s.heap) (hbl : b < s.heap.size) (hbA : ¬ sv_A G b) (hL : L ≤ 1536) (hi : i + 2 < L) (hCc : Cc ≤ 7680) (hB : B ≤ 25804800) (hinv : inv Cc B M) (hk : k ≤ 3000) (hn : n ≤ 20000) (kk : ∀ z9 M9 o9, inv (Cc + 15) (B + 50400) M9 → sv_V p l e room_1 s m args below meth c 9 G Q (k + 4) (n + 24) (sv_W G z9 M9 o9) 1316 [(0, .ref b), (1, .ref (sv_r G 14 0)), (2, .ref (sv_r G 19 0)), (3, .ref (sv_r G 25 0)), (4, .int (nI i))] []) : sv_V p l e room_1 s m args below meth c 9 G Q k n (sv_W G z M o) 502 [(0, .ref b), (1, .ref (sv_r G 14 0)), (2, .ref (sv_r G 19 0)), (3, .ref (sv_r G 25 0)), (4, .int (nI i))] [] := by
  obtain ⟨od, hd, n9, h⟩ := hinv
  obtain ⟨hm, hm7, hmr, b6, b7, hv, he, hr⟩ := inw_m h
  obtain ⟨hod, hd6, hn60, h0, h1, hkp, hn9, hn9r, htx, hst, hhs⟩ := id h
  have hcl : setC (xs (i + 1)) (xs (i + 2)) ≤ 3 := by have h9 := setC_le  (xs (i + 1)) (xs (i + 2)); omega
  by_cases hc : setC (xs (i + 1)) (xs (i + 2)) = 0
  · skip
    refine sv_aload_n (i := 1) (x := (sv_r G 14 0)) C dL_law_502 rfl rfl ?_
    refine sv_aload_n (i := 0) (x := b) C dL_law_503 rfl rfl ?_
    refine sv_iload (i := 4) (x := (nI i)) C dL_law_504 rfl ?_
    refine sv_iconst (v := nI 1) C dL_law_506 (by decide) ?_
    refine sv_iadd C dL_law_507 ?_
    refine sv_set (v' := .int (nI (i + 1))) (congrArg Value.int (nI_add _ _)) ?_
    refine sv_scrN C hX hbl hbA (by omega) (by omega) dL_law_508 ?_
    refine sv_aload_n (i := 0) (x := b) C dL_law_509 rfl rfl ?_
    refine sv_iload (i := 4) (x := (nI i)) C dL_law_510 rfl ?_
    refine sv_iconst (v := nI 2) C dL_law_512 (by decide) ?_
    refine sv_iadd C dL_law_513 ?_
    refine sv_set (v' := .int (nI (i + 2))) (congrArg Value.int (nI_add _ _)) ?_
    refine sv_scrN C hX hbl hbA (by omega) (by omega) dL_law_514 ?_
    refine sv_aload_n (i := 3) (x := (sv_r G 25 0)) C dL_law_515 rfl rfl ?_
    refine sw_call (as := [_, _, _, _]) (rest := []) C (met_L_set l G hl z M o (xs (i + 1)) (xs (i + 2)) od hd hod h0 h1 hd6 b6 b7) kw_583 kw_584 kw_28 kc_set 4 ⟨by decide, by decide, by decide +kernel⟩ rfl ⟨Nat.le_of_ble_eq_true rfl, Nat.le_of_ble_eq_true rfl⟩ (Nat.le_of_ble_eq_true rfl) dL_law_516 ⟨by show k + 2 ≤ 614530; omega, by show n + 12 ≤ 7252513; omega⟩ ?_
    refine sv_riS (nI (setC (xs (i + 1)) (xs (i + 2)))) rfl ?_
    refine sv_istore (i := 5) C [(0, .ref b), (1, .ref (sv_r G 14 0)), (2, .ref (sv_r G 19 0)), (3, .ref (sv_r G 25 0)), (4, .int (nI i)), (5, .int (nI (setC (xs (i + 1)) (xs (i + 2)))))] dL_law_519 (by decide) rfl ?_
    refine sv_wd (fun H h9 => by unfold sw_R at h9; rw [if_pos hc] at h9; exact h9) ?_
    obtain ⟨M1, e1⟩ : ∃ M9 : sv_M, M9 = (sv_u (sav od hd M) 0 (upd (M 0) (xs (i + 1)).toNatClampNeg (xs (i + 2)))) := ⟨_, rfl⟩
    rw [← e1]
    have e10 : M1 10 = M 10 := by rw [e1]; exact inw_hi h (by decide)
    have e15 : M1 15 = M 15 := by rw [e1]; exact inw_hi h (by decide)
    have e13 : M1 13 = M 13 := by rw [e1]; exact inw_hi h (by decide)
    refine sv_aload_n (i := 2) (x := (sv_r G 19 0)) C dL_law_521 rfl rfl ?_
    refine sv_aload_n (i := 0) (x := b) C dL_law_522 rfl rfl ?_
    refine sv_iload (i := 4) (x := (nI i)) C dL_law_523 rfl ?_
    refine sv_iconst (v := nI 1) C dL_law_525 (by decide) ?_
    refine sv_iadd C dL_law_526 ?_
    refine sv_set (v' := .int (nI (i + 1))) (congrArg Value.int (nI_add _ _)) ?_
    refine sv_scrN C hX hbl hbA (by omega) (by omega) dL_law_527 ?_
    refine sv_aload_n (i := 0) (x := b) C dL_law_528 rfl rfl ?_
    refine sv_iload (i := 4) (x := (nI i)) C dL_law_529 rfl ?_
    refine sv_iconst (v := nI 2) C dL_law_531 (by decide) ?_
    refine sv_iadd C dL_law_532 ?_
    refine sv_set (v' := .int (nI (i + 2))) (congrArg Value.int (nI_add _ _)) ?_
    refine sv_scrN C hX hbl hbA (by omega) (by omega) dL_law_533 ?_
    refine sv_callV (as := [_, _]) (rest := []) C (met_R_set l G _ M1 _ (xs (i + 1)) (xs (i + 2)) hd (by rw [e15]; exact hkp) hd6) fX6_set kw_830 (sv_recv19 C) ⟨Nat.le_of_ble_eq_true rfl, Nat.le_of_ble_eq_true rfl⟩ (Nat.le_of_ble_eq_true rfl) dL_law_534 ⟨by show k + 2 ≤ 614530; omega, by show n + 12 ≤ 7252513; omega⟩ ?_
    refine sv_ri (fun v6 e6 => ?_)
    refine sv_wd (sv_eqW (rW_0 hc)) ?_
    obtain ⟨M2, e2⟩ : ∃ M9 : sv_M, M9 = sv_u (rsav hd (thr 0 M1)) 10 (upd (M1 10) (xs (i + 1)).toNatClampNeg (xs (i + 2))) := ⟨_, rfl⟩
    rw [← e2]
    obtain ⟨i2, t2, v2⟩ := fc_set h hc e1 e2
    refine sv_istore (i := 6) C [(0, .ref b), (1, .ref (sv_r G 14 0)), (2, .ref (sv_r G 19 0)), (3, .ref (sv_r G 25 0)), (4, .int (nI i)), (5, .int (nI (setC (xs (i + 1)) (xs (i + 2))))), (6, .int v6)] dL_law_537 (by decide) rfl ?_
    refine sv_aload_n (i := 2) (x := (sv_r G 19 0)) C dL_law_539 rfl rfl ?_
    refine sv_callV (as := []) (rest := []) C (met_R_thrown l G _ _ _) fX6_thrown kw_762 (sv_recv19 C) ⟨Nat.le_of_ble_eq_true rfl, Nat.le_of_ble_eq_true rfl⟩ (Nat.le_of_ble_eq_true rfl) dL_law_540 ⟨by show k + 2 ≤ 614530; omega, by show n + 12 ≤ 7252513; omega⟩ ?_
    refine sv_riS (nI (setC (xs (i + 1)) (xs (i + 2)))) (t2.trans (by rw [hc]; rfl)) ?_
    refine sv_iload (i := 5) (x := (nI (setC (xs (i + 1)) (xs (i + 2))))) C dL_law_543 rfl ?_
    refine sv_icmp_eq C 550 dL_law_545 (by decide) (fun _ => ?_) (fun q9 => absurd rfl q9)
    refine sv_iload (i := 5) (x := (nI (setC (xs (i + 1)) (xs (i + 2))))) C dL_law_550 rfl ?_
    refine sv_if_ne C 567 dL_law_552 (by decide) (fun q9 => absurd (by rw [hc]; rfl) q9) (fun _ => ?_)
    refine sv_aload_n (i := 3) (x := (sv_r G 25 0)) C dL_law_555 rfl rfl ?_
    refine sv_iconst (v := 0) C dL_law_556 (by decide) ?_
    refine sv_lald C dL_law_557 ?_
    refine sv_iload (i := 6) (x := v6) C dL_law_558 rfl ?_
    refine sv_i2l C dL_law_560 ?_
    refine sv_lcmp C dL_law_561 ?_
    refine sv_if_eq C 567 dL_law_562 (by decide) (fun _ => ?_) (fun q9 => absurd ((lg_cmp_eq _ _).mpr (congrArg Int32.toInt64 (by rw [e6, rR_0 hc]; exact v2))) q9)
    refine sv_goto C 1316 dL_law_567 (by decide) ?_
    refine sv_sub (lv' := [(0, .ref b), (1, .ref (sv_r G 14 0)), (2, .ref (sv_r G 19 0)), (3, .ref (sv_r G 25 0)), (4, .int (nI i))]) rfl ?_
    exact sv_widen (by omega) (by omega) (kk _ _ _ i2)
  · skip
    refine sv_aload_n (i := 1) (x := (sv_r G 14 0)) C dL_law_502 rfl rfl ?_
    refine sv_aload_n (i := 0) (x := b) C dL_law_503 rfl rfl ?_
    refine sv_iload (i := 4) (x := (nI i)) C dL_law_504 rfl ?_
    refine sv_iconst (v := nI 1) C dL_law_506 (by decide) ?_
    refine sv_iadd C dL_law_507 ?_
    refine sv_set (v' := .int (nI (i + 1))) (congrArg Value.int (nI_add _ _)) ?_
    refine sv_scrN C hX hbl hbA (by omega) (by omega) dL_law_508 ?_
    refine sv_aload_n (i := 0) (x := b) C dL_law_509 rfl rfl ?_
    refine sv_iload (i := 4) (x := (nI i)) C dL_law_510 rfl ?_
    refine sv_iconst (v := nI 2) C dL_law_512 (by decide) ?_
    refine sv_iadd C dL_law_513 ?_
    refine sv_set (v' := .int (nI (i + 2))) (congrArg Value.int (nI_add _ _)) ?_
    refine sv_scrN C hX hbl hbA (by omega) (by omega) dL_law_514 ?_
    refine sv_aload_n (i := 3) (x := (sv_r G 25 0)) C dL_law_515 rfl rfl ?_
    refine sw_call (as := [_, _, _, _]) (rest := []) C (met_L_set l G hl z M o (xs (i + 1)) (xs (i + 2)) od hd hod h0 h1 hd6 b6 b7) kw_583 kw_584 kw_28 kc_set 4 ⟨by decide, by decide, by decide +kernel⟩ rfl ⟨Nat.le_of_ble_eq_true rfl, Nat.le_of_ble_eq_true rfl⟩ (Nat.le_of_ble_eq_true rfl) dL_law_516 ⟨by show k + 2 ≤ 614530; omega, by show n + 12 ≤ 7252513; omega⟩ ?_
    refine sv_riS (nI (setC (xs (i + 1)) (xs (i + 2)))) rfl ?_
    refine sv_istore (i := 5) C [(0, .ref b), (1, .ref (sv_r G 14 0)), (2, .ref (sv_r G 19 0)), (3, .ref (sv_r G 25 0)), (4, .int (nI i)), (5, .int (nI (setC (xs (i + 1)) (xs (i + 2)))))] dL_law_519 (by decide) rfl ?_
    refine sv_wd (Wd' := sv_Wz G z M o) (fun H h9 => by unfold sw_R at h9; rw [if_neg hc] at h9; exact h9) ?_
    refine sv_exH (Wf := fun z1 => sv_W G z1 M o) (fun H h9 => by obtain ⟨z1, _, h9⟩ := h9; exact ⟨z1, h9⟩) (fun z1 => ?_)
    refine sv_aload_n (i := 2) (x := (sv_r G 19 0)) C dL_law_521 rfl rfl ?_
    refine sv_aload_n (i := 0) (x := b) C dL_law_522 rfl rfl ?_
    refine sv_iload (i := 4) (x := (nI i)) C dL_law_523 rfl ?_
    refine sv_iconst (v := nI 1) C dL_law_525 (by decide) ?_
    refine sv_iadd C dL_law_526 ?_
    refine sv_set (v' := .int (nI (i + 1))) (congrArg Value.int (nI_add _ _)) ?_
    refine sv_scrN C hX hbl hbA (by omega) (by omega) dL_law_527 ?_
    refine sv_aload_n (i := 0) (x := b) C dL_law_528 rfl rfl ?_
    refine sv_iload (i := 4) (x := (nI i)) C dL_law_529 rfl ?_
    refine sv_iconst (v := nI 2) C dL_law_531 (by decide) ?_
    refine sv_iadd C dL_law_532 ?_
    refine sv_set (v' := .int (nI (i + 2))) (congrArg Value.int (nI_add _ _)) ?_
    refine sv_scrN C hX hbl hbA (by omega) (by omega) dL_law_533 ?_
    refine sv_callV (as := [_, _]) (rest := []) C (met_R_set l G _ M _ (xs (i + 1)) (xs (i + 2)) hd hkp hd6) fX6_set kw_830 (sv_recv19 C) ⟨Nat.le_of_ble_eq_true rfl, Nat.le_of_ble_eq_true rfl⟩ (Nat.le_of_ble_eq_true rfl) dL_law_534 ⟨by show k + 2 ≤ 614530; omega, by show n + 12 ≤ 7252513; omega⟩ ?_
    refine sv_ri (fun v6 e6 => ?_)
    refine sv_wd (sv_eqW (rW_n hc)) ?_
    have i2 : inv (Cc + 15) (B + 50400) (thr (nI (setC (xs (i + 1)) (xs (i + 2)))) M) := inv_lk ⟨od, hd, n9, h⟩ lk_thr (by omega) (by omega)
    refine sv_istore (i := 6) C [(0, .ref b), (1, .ref (sv_r G 14 0)), (2, .ref (sv_r G 19 0)), (3, .ref (sv_r G 25 0)), (4, .int (nI i)), (5, .int (nI (setC (xs (i + 1)) (xs (i + 2))))), (6, .int v6)] dL_law_537 (by decide) rfl ?_
    refine sv_aload_n (i := 2) (x := (sv_r G 19 0)) C dL_law_539 rfl rfl ?_
    refine sv_callV (as := []) (rest := []) C (met_R_thrown l G _ _ _) fX6_thrown kw_762 (sv_recv19 C) ⟨Nat.le_of_ble_eq_true rfl, Nat.le_of_ble_eq_true rfl⟩ (Nat.le_of_ble_eq_true rfl) dL_law_540 ⟨by show k + 2 ≤ 614530; omega, by show n + 12 ≤ 7252513; omega⟩ ?_
    refine sv_riS (nI (setC (xs (i + 1)) (xs (i + 2)))) thr_2 ?_
    refine sv_iload (i := 5) (x := (nI (setC (xs (i + 1)) (xs (i + 2))))) C dL_law_543 rfl ?_
    refine sv_icmp_eq C 550 dL_law_545 (by decide) (fun _ => ?_) (fun q9 => absurd rfl q9)
    refine sv_iload (i := 5) (x := (nI (setC (xs (i + 1)) (xs (i + 2))))) C dL_law_550 rfl ?_
    refine sv_if_ne C 567 dL_law_552 (by decide) (fun _ => ?_) (fun q9 => absurd q9 (nI_ne0 (by omega) (by omega)))
    refine sv_goto C 1316 dL_law_567 (by decide) ?_
    refine sv_sub (lv' := [(0, .ref b), (1, .ref (sv_r G 14 0)), (2, .ref (sv_r G 19 0)), (3, .ref (sv_r G 25 0)), (4, .int (nI i))]) rfl ?_
    exact sv_widen (by omega) (by omega) (kk _ _ _ i2)
set_option maxHeartbeats 4000000 in
set_option maxRecDepth 100000 in
theorem lc_pass {p : Program} {l : Launch} {e : Env} {s : State} {m : MethodId} {args : Array Value} {below : List Frame} {meth : Method} {c : Code} {k n : Nat} {Q : State → Prop} {G : sv_G} {b L : Nat} {xs : Nat → Int32} {z : Nat} {M : sv_M} {o : Int64} {i Cc B : Nat} (C : sv_C p l s m args meth c code 9 RL G) (hl : l.stackTraces = false) (hX : va_X b L xs s s.heap) (hbl : b < s.heap.size) (hbA : ¬ sv_A G b) (hL : L ≤ 1536) (hi : i + 2 < L) (hCc : Cc ≤ 7680) (hB : B ≤ 25804800) (hinv : inv Cc B M) (hk : k ≤ 3000) (hn : n ≤ 20000) (kk : ∀ z9 M9 o9, inv (Cc + 15) (B + 50400) M9 → sv_V p l e room_1 s m args below meth c 9 G Q (k + 4) (n + 24) (sv_W G z9 M9 o9) 1316 [(0, .ref b), (1, .ref (sv_r G 14 0)), (2, .ref (sv_r G 19 0)), (3, .ref (sv_r G 25 0)), (4, .int (nI i))] []) : sv_V p l e room_1 s m args below meth c 9 G Q k n (sv_W G z M o) 570 [(0, .ref b), (1, .ref (sv_r G 14 0)), (2, .ref (sv_r G 19 0)), (3, .ref (sv_r G 25 0)), (4, .int (nI i))] [] := by
  obtain ⟨od, hd, n9, h⟩ := hinv
  obtain ⟨hm, hm7, hmr, b6, b7, hv, he, hr⟩ := inw_m h
  obtain ⟨hod, hd6, hn60, h0, h1, hkp, hn9, hn9r, htx, hst, hhs⟩ := id h
  have hcl : secC (xs (i + 1)) ≤ 3 := by have h9 := secC_le  (xs (i + 1)); omega
  by_cases hc : secC (xs (i + 1)) = 0
  · skip
    refine sv_aload_n (i := 1) (x := (sv_r G 14 0)) C dL_law_570 rfl rfl ?_
    refine sv_aload_n (i := 0) (x := b) C dL_law_571 rfl rfl ?_
    refine sv_iload (i := 4) (x := (nI i)) C dL_law_572 rfl ?_
    refine sv_iconst (v := nI 1) C dL_law_574 (by decide) ?_
    refine sv_iadd C dL_law_575 ?_
    refine sv_set (v' := .int (nI (i + 1))) (congrArg Value.int (nI_add _ _)) ?_
    refine sv_scrN C hX hbl hbA (by omega) (by omega) dL_law_576 ?_
    refine sv_aload_n (i := 3) (x := (sv_r G 25 0)) C dL_law_577 rfl rfl ?_
    refine sw_call (as := [_, _, _]) (rest := []) C (met_L_pass l G hl z M o (xs (i + 1)) od hd hod h0 h1 hd6 b6 b7 hv) kw_596 kw_597 kw_28 kc_pass 3 ⟨by decide, by decide, by decide +kernel⟩ rfl ⟨Nat.le_of_ble_eq_true rfl, Nat.le_of_ble_eq_true rfl⟩ (Nat.le_of_ble_eq_true rfl) dL_law_578 ⟨by show k + 1 ≤ 614530; omega, by show n + 6 ≤ 7252513; omega⟩ ?_
    refine sv_riS (nI (secC (xs (i + 1)))) rfl ?_
    refine sv_istore (i := 5) C [(0, .ref b), (1, .ref (sv_r G 14 0)), (2, .ref (sv_r G 19 0)), (3, .ref (sv_r G 25 0)), (4, .int (nI i)), (5, .int (nI (secC (xs (i + 1)))))] dL_law_581 (by decide) rfl ?_
    refine sv_wd (fun H h9 => by unfold sw_R at h9; rw [if_pos hc] at h9; exact h9) ?_
    obtain ⟨M1, e1⟩ : ∃ M9 : sv_M, M9 = (sv_u (sav od hd M) 0 (passv (xs (i + 1)).toNatClampNeg (M 0))) := ⟨_, rfl⟩
    rw [← e1]
    have e10 : M1 10 = M 10 := by rw [e1]; exact inw_hi h (by decide)
    have e15 : M1 15 = M 15 := by rw [e1]; exact inw_hi h (by decide)
    have e13 : M1 13 = M 13 := by rw [e1]; exact inw_hi h (by decide)
    refine sv_aload_n (i := 2) (x := (sv_r G 19 0)) C dL_law_583 rfl rfl ?_
    refine sv_aload_n (i := 0) (x := b) C dL_law_584 rfl rfl ?_
    refine sv_iload (i := 4) (x := (nI i)) C dL_law_585 rfl ?_
    refine sv_iconst (v := nI 1) C dL_law_587 (by decide) ?_
    refine sv_iadd C dL_law_588 ?_
    refine sv_set (v' := .int (nI (i + 1))) (congrArg Value.int (nI_add _ _)) ?_
    refine sv_scrN C hX hbl hbA (by omega) (by omega) dL_law_589 ?_
    refine sv_callV (as := [_]) (rest := []) C (met_R_pass l G _ M1 _ (xs (i + 1)) hd (by rw [e15]; exact hkp) hd6 (by rw [e10]; exact fun n9 _ => rel_rgd hr n9)) fX6_pass kw_837 (sv_recv19 C) ⟨Nat.le_of_ble_eq_true rfl, Nat.le_of_ble_eq_true rfl⟩ (Nat.le_of_ble_eq_true rfl) dL_law_590 ⟨by show k + 1 ≤ 614530; omega, by show n + 6 ≤ 7252513; omega⟩ ?_
    refine sv_ri (fun v6 e6 => ?_)
    refine sv_wd (sv_eqW (rW_0 hc)) ?_
    obtain ⟨M2, e2⟩ : ∃ M9 : sv_M, M9 = sv_u (sv_u (rsav hd (thr 0 M1)) 15 (dkM (rsav hd (thr 0 M1)) (rdn (M1 15 6) (M1 10) (xs (i + 1)).toNatClampNeg))) 10 (rpass (xs (i + 1)).toNatClampNeg (M1 10)) := ⟨_, rfl⟩
    rw [← e2]
    obtain ⟨i2, t2, v2⟩ := fc_pass h hc e1 e2
    refine sv_istore (i := 6) C [(0, .ref b), (1, .ref (sv_r G 14 0)), (2, .ref (sv_r G 19 0)), (3, .ref (sv_r G 25 0)), (4, .int (nI i)), (5, .int (nI (secC (xs (i + 1))))), (6, .int v6)] dL_law_593 (by decide) rfl ?_
    refine sv_aload_n (i := 2) (x := (sv_r G 19 0)) C dL_law_595 rfl rfl ?_
    refine sv_callV (as := []) (rest := []) C (met_R_thrown l G _ _ _) fX6_thrown kw_762 (sv_recv19 C) ⟨Nat.le_of_ble_eq_true rfl, Nat.le_of_ble_eq_true rfl⟩ (Nat.le_of_ble_eq_true rfl) dL_law_596 ⟨by show k + 1 ≤ 614530; omega, by show n + 6 ≤ 7252513; omega⟩ ?_
    refine sv_riS (nI (secC (xs (i + 1)))) (t2.trans (by rw [hc]; rfl)) ?_
    refine sv_iload (i := 5) (x := (nI (secC (xs (i + 1))))) C dL_law_599 rfl ?_
    refine sv_icmp_eq C 606 dL_law_601 (by decide) (fun _ => ?_) (fun q9 => absurd rfl q9)
    refine sv_iload (i := 5) (x := (nI (secC (xs (i + 1))))) C dL_law_606 rfl ?_
    refine sv_if_ne C 623 dL_law_608 (by decide) (fun q9 => absurd (by rw [hc]; rfl) q9) (fun _ => ?_)
    refine sv_aload_n (i := 3) (x := (sv_r G 25 0)) C dL_law_611 rfl rfl ?_
    refine sv_iconst (v := 0) C dL_law_612 (by decide) ?_
    refine sv_lald C dL_law_613 ?_
    refine sv_iload (i := 6) (x := v6) C dL_law_614 rfl ?_
    refine sv_i2l C dL_law_616 ?_
    refine sv_lcmp C dL_law_617 ?_
    refine sv_if_eq C 623 dL_law_618 (by decide) (fun _ => ?_) (fun q9 => absurd ((lg_cmp_eq _ _).mpr (congrArg Int32.toInt64 (by rw [e6, rR_0 hc]; exact v2))) q9)
    refine sv_goto C 1316 dL_law_623 (by decide) ?_
    refine sv_sub (lv' := [(0, .ref b), (1, .ref (sv_r G 14 0)), (2, .ref (sv_r G 19 0)), (3, .ref (sv_r G 25 0)), (4, .int (nI i))]) rfl ?_
    exact sv_widen (by omega) (by omega) (kk _ _ _ i2)
  · skip
    refine sv_aload_n (i := 1) (x := (sv_r G 14 0)) C dL_law_570 rfl rfl ?_
    refine sv_aload_n (i := 0) (x := b) C dL_law_571 rfl rfl ?_
    refine sv_iload (i := 4) (x := (nI i)) C dL_law_572 rfl ?_
    refine sv_iconst (v := nI 1) C dL_law_574 (by decide) ?_
    refine sv_iadd C dL_law_575 ?_
    refine sv_set (v' := .int (nI (i + 1))) (congrArg Value.int (nI_add _ _)) ?_
    refine sv_scrN C hX hbl hbA (by omega) (by omega) dL_law_576 ?_
    refine sv_aload_n (i := 3) (x := (sv_r G 25 0)) C dL_law_577 rfl rfl ?_
    refine sw_call (as := [_, _, _]) (rest := []) C (met_L_pass l G hl z M o (xs (i + 1)) od hd hod h0 h1 hd6 b6 b7 hv) kw_596 kw_597 kw_28 kc_pass 3 ⟨by decide, by decide, by decide +kernel⟩ rfl ⟨Nat.le_of_ble_eq_true rfl, Nat.le_of_ble_eq_true rfl⟩ (Nat.le_of_ble_eq_true rfl) dL_law_578 ⟨by show k + 1 ≤ 614530; omega, by show n + 6 ≤ 7252513; omega⟩ ?_
    refine sv_riS (nI (secC (xs (i + 1)))) rfl ?_
    refine sv_istore (i := 5) C [(0, .ref b), (1, .ref (sv_r G 14 0)), (2, .ref (sv_r G 19 0)), (3, .ref (sv_r G 25 0)), (4, .int (nI i)), (5, .int (nI (secC (xs (i + 1)))))] dL_law_581 (by decide) rfl ?_
    refine sv_wd (Wd' := sv_Wz G z M o) (fun H h9 => by unfold sw_R at h9; rw [if_neg hc] at h9; exact h9) ?_
    refine sv_exH (Wf := fun z1 => sv_W G z1 M o) (fun H h9 => by obtain ⟨z1, _, h9⟩ := h9; exact ⟨z1, h9⟩) (fun z1 => ?_)
    refine sv_aload_n (i := 2) (x := (sv_r G 19 0)) C dL_law_583 rfl rfl ?_
    refine sv_aload_n (i := 0) (x := b) C dL_law_584 rfl rfl ?_
    refine sv_iload (i := 4) (x := (nI i)) C dL_law_585 rfl ?_
    refine sv_iconst (v := nI 1) C dL_law_587 (by decide) ?_
    refine sv_iadd C dL_law_588 ?_
    refine sv_set (v' := .int (nI (i + 1))) (congrArg Value.int (nI_add _ _)) ?_
    refine sv_scrN C hX hbl hbA (by omega) (by omega) dL_law_589 ?_
    refine sv_callV (as := [_]) (rest := []) C (met_R_pass l G _ M _ (xs (i + 1)) hd hkp hd6 (fun n9 _ => rel_rgd hr n9)) fX6_pass kw_837 (sv_recv19 C) ⟨Nat.le_of_ble_eq_true rfl, Nat.le_of_ble_eq_true rfl⟩ (Nat.le_of_ble_eq_true rfl) dL_law_590 ⟨by show k + 1 ≤ 614530; omega, by show n + 6 ≤ 7252513; omega⟩ ?_
    refine sv_ri (fun v6 e6 => ?_)
    refine sv_wd (sv_eqW (rW_n hc)) ?_
    have i2 : inv (Cc + 15) (B + 50400) (thr (nI (secC (xs (i + 1)))) M) := inv_lk ⟨od, hd, n9, h⟩ lk_thr (by omega) (by omega)
    refine sv_istore (i := 6) C [(0, .ref b), (1, .ref (sv_r G 14 0)), (2, .ref (sv_r G 19 0)), (3, .ref (sv_r G 25 0)), (4, .int (nI i)), (5, .int (nI (secC (xs (i + 1))))), (6, .int v6)] dL_law_593 (by decide) rfl ?_
    refine sv_aload_n (i := 2) (x := (sv_r G 19 0)) C dL_law_595 rfl rfl ?_
    refine sv_callV (as := []) (rest := []) C (met_R_thrown l G _ _ _) fX6_thrown kw_762 (sv_recv19 C) ⟨Nat.le_of_ble_eq_true rfl, Nat.le_of_ble_eq_true rfl⟩ (Nat.le_of_ble_eq_true rfl) dL_law_596 ⟨by show k + 1 ≤ 614530; omega, by show n + 6 ≤ 7252513; omega⟩ ?_
    refine sv_riS (nI (secC (xs (i + 1)))) thr_2 ?_
    refine sv_iload (i := 5) (x := (nI (secC (xs (i + 1))))) C dL_law_599 rfl ?_
    refine sv_icmp_eq C 606 dL_law_601 (by decide) (fun _ => ?_) (fun q9 => absurd rfl q9)
    refine sv_iload (i := 5) (x := (nI (secC (xs (i + 1))))) C dL_law_606 rfl ?_
    refine sv_if_ne C 623 dL_law_608 (by decide) (fun _ => ?_) (fun q9 => absurd q9 (nI_ne0 (by omega) (by omega)))
    refine sv_goto C 1316 dL_law_623 (by decide) ?_
    refine sv_sub (lv' := [(0, .ref b), (1, .ref (sv_r G 14 0)), (2, .ref (sv_r G 19 0)), (3, .ref (sv_r G 25 0)), (4, .int (nI i))]) rfl ?_
    exact sv_widen (by omega) (by omega) (kk _ _ _ i2)
set_option maxHeartbeats 4000000 in
set_option maxRecDepth 100000 in
theorem lc_append {p : Program} {l : Launch} {e : Env} {s : State} {m : MethodId} {args : Array Value} {below : List Frame} {meth : Method} {c : Code} {k n : Nat} {Q : State → Prop} {G : sv_G} {b L : Nat} {xs : Nat → Int32} {z : Nat} {M : sv_M} {o : Int64} {i Cc B : Nat} (C : sv_C p l s m args meth c code 9 RL G) (hl : l.stackTraces = false) (hX : va_X b L xs s s.heap) (hbl : b < s.heap.size) (hbA : ¬ sv_A G b) (hL : L ≤ 1536) (hi : i + 2 < L) (hCc : Cc ≤ 7680) (hB : B ≤ 25804800) (hinv : inv Cc B M) (hk : k ≤ 3000) (hn : n ≤ 20000) (kk : ∀ z9 M9 o9, inv (Cc + 15) (B + 50400) M9 → sv_V p l e room_1 s m args below meth c 9 G Q (k + 4) (n + 24) (sv_W G z9 M9 o9) 1316 [(0, .ref b), (1, .ref (sv_r G 14 0)), (2, .ref (sv_r G 19 0)), (3, .ref (sv_r G 25 0)), (4, .int (nI i))] []) : sv_V p l e room_1 s m args below meth c 9 G Q k n (sv_W G z M o) 626 [(0, .ref b), (1, .ref (sv_r G 14 0)), (2, .ref (sv_r G 19 0)), (3, .ref (sv_r G 25 0)), (4, .int (nI i))] [] := by
  obtain ⟨od, hd, n9, h⟩ := hinv
  obtain ⟨hm, hm7, hmr, b6, b7, hv, he, hr⟩ := inw_m h
  obtain ⟨hod, hd6, hn60, h0, h1, hkp, hn9, hn9r, htx, hst, hhs⟩ := id h
  have hcl : appC (xs (i + 1)) n9 ≤ 3 := by have h9 := appC_le  (xs (i + 1)) n9; omega
  by_cases hc : appC (xs (i + 1)) n9 = 0
  · skip
    refine sv_aload_n (i := 1) (x := (sv_r G 14 0)) C dL_law_626 rfl rfl ?_
    refine sv_aload_n (i := 0) (x := b) C dL_law_627 rfl rfl ?_
    refine sv_iload (i := 4) (x := (nI i)) C dL_law_628 rfl ?_
    refine sv_iconst (v := nI 1) C dL_law_630 (by decide) ?_
    refine sv_iadd C dL_law_631 ?_
    refine sv_set (v' := .int (nI (i + 1))) (congrArg Value.int (nI_add _ _)) ?_
    refine sv_scrN C hX hbl hbA (by omega) (by omega) dL_law_632 ?_
    refine sv_aload_n (i := 3) (x := (sv_r G 25 0)) C dL_law_633 rfl rfl ?_
    refine sw_call (as := [_, _, _]) (rest := []) C (met_L_append l G hl z M o (xs (i + 1)) n9 hn9 hn60) kw_607 kw_608 kw_28 kc_append 3 ⟨by decide, by decide, by decide +kernel⟩ rfl ⟨Nat.le_of_ble_eq_true rfl, Nat.le_of_ble_eq_true rfl⟩ (Nat.le_of_ble_eq_true rfl) dL_law_634 ⟨by show k + 1 ≤ 614530; omega, by show n + 6 ≤ 7252513; omega⟩ ?_
    refine sv_riS (nI (appC (xs (i + 1)) n9)) rfl ?_
    refine sv_istore (i := 5) C [(0, .ref b), (1, .ref (sv_r G 14 0)), (2, .ref (sv_r G 19 0)), (3, .ref (sv_r G 25 0)), (4, .int (nI i)), (5, .int (nI (appC (xs (i + 1)) n9)))] dL_law_637 (by decide) rfl ?_
    refine sv_wd (fun H h9 => by unfold sw_R at h9; rw [if_pos hc] at h9; exact h9) ?_
    obtain ⟨M1, e1⟩ : ∃ M9 : sv_M, M9 = (sv_u M 9 (upd (upd (M 9) n9 (xs (i + 1))) 60 (nI (n9 + 1)))) := ⟨_, rfl⟩
    rw [← e1]
    have e10 : M1 10 = M 10 := by rw [e1]; exact sv_un (by decide)
    have e15 : M1 15 = M 15 := by rw [e1]; exact sv_un (by decide)
    have e13 : M1 13 = M 13 := by rw [e1]; exact sv_un (by decide)
    refine sv_aload_n (i := 2) (x := (sv_r G 19 0)) C dL_law_639 rfl rfl ?_
    refine sv_aload_n (i := 0) (x := b) C dL_law_640 rfl rfl ?_
    refine sv_iload (i := 4) (x := (nI i)) C dL_law_641 rfl ?_
    refine sv_iconst (v := nI 1) C dL_law_643 (by decide) ?_
    refine sv_iadd C dL_law_644 ?_
    refine sv_set (v' := .int (nI (i + 1))) (congrArg Value.int (nI_add _ _)) ?_
    refine sv_scrN C hX hbl hbA (by omega) (by omega) dL_law_645 ?_
    refine sv_callV (as := [_]) (rest := []) C (met_R_append l G _ M1 _ (xs (i + 1)) n9 (by rw [e15]; exact hn9r) hn60) fX6_append kw_863 (sv_recv19 C) ⟨Nat.le_of_ble_eq_true rfl, Nat.le_of_ble_eq_true rfl⟩ (Nat.le_of_ble_eq_true rfl) dL_law_646 ⟨by show k + 1 ≤ 614530; omega, by show n + 6 ≤ 7252513; omega⟩ ?_
    refine sv_ri (fun v6 e6 => ?_)
    refine sv_wd (sv_eqW (rW_0 hc)) ?_
    obtain ⟨M2, e2⟩ : ∃ M9 : sv_M, M9 = sv_u (sv_u M1 13 (upd (M1 13) n9 (xs (i + 1)))) 15 (upd (upd (M1 15) 2 0) 1 (nI (n9 + 1))) := ⟨_, rfl⟩
    rw [← e2]
    obtain ⟨i2, t2⟩ := fc_append h hc e1 e2
    refine sv_istore (i := 6) C [(0, .ref b), (1, .ref (sv_r G 14 0)), (2, .ref (sv_r G 19 0)), (3, .ref (sv_r G 25 0)), (4, .int (nI i)), (5, .int (nI (appC (xs (i + 1)) n9))), (6, .int v6)] dL_law_649 (by decide) rfl ?_
    refine sv_aload_n (i := 2) (x := (sv_r G 19 0)) C dL_law_651 rfl rfl ?_
    refine sv_callV (as := []) (rest := []) C (met_R_thrown l G _ _ _) fX6_thrown kw_762 (sv_recv19 C) ⟨Nat.le_of_ble_eq_true rfl, Nat.le_of_ble_eq_true rfl⟩ (Nat.le_of_ble_eq_true rfl) dL_law_652 ⟨by show k + 1 ≤ 614530; omega, by show n + 6 ≤ 7252513; omega⟩ ?_
    refine sv_riS (nI (appC (xs (i + 1)) n9)) (t2.trans (by rw [hc]; rfl)) ?_
    refine sv_iload (i := 5) (x := (nI (appC (xs (i + 1)) n9))) C dL_law_655 rfl ?_
    refine sv_icmp_eq C 662 dL_law_657 (by decide) (fun _ => ?_) (fun q9 => absurd rfl q9)
    refine sv_iload (i := 5) (x := (nI (appC (xs (i + 1)) n9))) C dL_law_662 rfl ?_
    refine sv_if_ne C 679 dL_law_664 (by decide) (fun q9 => absurd (by rw [hc]; rfl) q9) (fun _ => ?_)
    refine sv_aload_n (i := 3) (x := (sv_r G 25 0)) C dL_law_667 rfl rfl ?_
    refine sv_iconst (v := 0) C dL_law_668 (by decide) ?_
    refine sv_lald C dL_law_669 ?_
    refine sv_iload (i := 6) (x := v6) C dL_law_670 rfl ?_
    refine sv_i2l C dL_law_672 ?_
    refine sv_lcmp C dL_law_673 ?_
    refine sv_if_eq C 679 dL_law_674 (by decide) (fun _ => ?_) (fun q9 => absurd ((lg_cmp_eq _ _).mpr (congrArg Int32.toInt64 (by rw [e6, rR_0 hc]))) q9)
    refine sv_goto C 1316 dL_law_679 (by decide) ?_
    refine sv_sub (lv' := [(0, .ref b), (1, .ref (sv_r G 14 0)), (2, .ref (sv_r G 19 0)), (3, .ref (sv_r G 25 0)), (4, .int (nI i))]) rfl ?_
    exact sv_widen (by omega) (by omega) (kk _ _ _ i2)
  · skip
    refine sv_aload_n (i := 1) (x := (sv_r G 14 0)) C dL_law_626 rfl rfl ?_
    refine sv_aload_n (i := 0) (x := b) C dL_law_627 rfl rfl ?_
    refine sv_iload (i := 4) (x := (nI i)) C dL_law_628 rfl ?_
    refine sv_iconst (v := nI 1) C dL_law_630 (by decide) ?_
    refine sv_iadd C dL_law_631 ?_
    refine sv_set (v' := .int (nI (i + 1))) (congrArg Value.int (nI_add _ _)) ?_
    refine sv_scrN C hX hbl hbA (by omega) (by omega) dL_law_632 ?_
    refine sv_aload_n (i := 3) (x := (sv_r G 25 0)) C dL_law_633 rfl rfl ?_
    refine sw_call (as := [_, _, _]) (rest := []) C (met_L_append l G hl z M o (xs (i + 1)) n9 hn9 hn60) kw_607 kw_608 kw_28 kc_append 3 ⟨by decide, by decide, by decide +kernel⟩ rfl ⟨Nat.le_of_ble_eq_true rfl, Nat.le_of_ble_eq_true rfl⟩ (Nat.le_of_ble_eq_true rfl) dL_law_634 ⟨by show k + 1 ≤ 614530; omega, by show n + 6 ≤ 7252513; omega⟩ ?_
    refine sv_riS (nI (appC (xs (i + 1)) n9)) rfl ?_
    refine sv_istore (i := 5) C [(0, .ref b), (1, .ref (sv_r G 14 0)), (2, .ref (sv_r G 19 0)), (3, .ref (sv_r G 25 0)), (4, .int (nI i)), (5, .int (nI (appC (xs (i + 1)) n9)))] dL_law_637 (by decide) rfl ?_
    refine sv_wd (Wd' := sv_Wz G z M o) (fun H h9 => by unfold sw_R at h9; rw [if_neg hc] at h9; exact h9) ?_
    refine sv_exH (Wf := fun z1 => sv_W G z1 M o) (fun H h9 => by obtain ⟨z1, _, h9⟩ := h9; exact ⟨z1, h9⟩) (fun z1 => ?_)
    refine sv_aload_n (i := 2) (x := (sv_r G 19 0)) C dL_law_639 rfl rfl ?_
    refine sv_aload_n (i := 0) (x := b) C dL_law_640 rfl rfl ?_
    refine sv_iload (i := 4) (x := (nI i)) C dL_law_641 rfl ?_
    refine sv_iconst (v := nI 1) C dL_law_643 (by decide) ?_
    refine sv_iadd C dL_law_644 ?_
    refine sv_set (v' := .int (nI (i + 1))) (congrArg Value.int (nI_add _ _)) ?_
    refine sv_scrN C hX hbl hbA (by omega) (by omega) dL_law_645 ?_
    refine sv_callV (as := [_]) (rest := []) C (met_R_append l G _ M _ (xs (i + 1)) n9 hn9r hn60) fX6_append kw_863 (sv_recv19 C) ⟨Nat.le_of_ble_eq_true rfl, Nat.le_of_ble_eq_true rfl⟩ (Nat.le_of_ble_eq_true rfl) dL_law_646 ⟨by show k + 1 ≤ 614530; omega, by show n + 6 ≤ 7252513; omega⟩ ?_
    refine sv_ri (fun v6 e6 => ?_)
    refine sv_wd (sv_eqW (rW_n hc)) ?_
    have i2 : inv (Cc + 15) (B + 50400) (thr (nI (appC (xs (i + 1)) n9)) M) := inv_lk ⟨od, hd, n9, h⟩ lk_thr (by omega) (by omega)
    refine sv_istore (i := 6) C [(0, .ref b), (1, .ref (sv_r G 14 0)), (2, .ref (sv_r G 19 0)), (3, .ref (sv_r G 25 0)), (4, .int (nI i)), (5, .int (nI (appC (xs (i + 1)) n9))), (6, .int v6)] dL_law_649 (by decide) rfl ?_
    refine sv_aload_n (i := 2) (x := (sv_r G 19 0)) C dL_law_651 rfl rfl ?_
    refine sv_callV (as := []) (rest := []) C (met_R_thrown l G _ _ _) fX6_thrown kw_762 (sv_recv19 C) ⟨Nat.le_of_ble_eq_true rfl, Nat.le_of_ble_eq_true rfl⟩ (Nat.le_of_ble_eq_true rfl) dL_law_652 ⟨by show k + 1 ≤ 614530; omega, by show n + 6 ≤ 7252513; omega⟩ ?_
    refine sv_riS (nI (appC (xs (i + 1)) n9)) thr_2 ?_
    refine sv_iload (i := 5) (x := (nI (appC (xs (i + 1)) n9))) C dL_law_655 rfl ?_
    refine sv_icmp_eq C 662 dL_law_657 (by decide) (fun _ => ?_) (fun q9 => absurd rfl q9)
    refine sv_iload (i := 5) (x := (nI (appC (xs (i + 1)) n9))) C dL_law_662 rfl ?_
    refine sv_if_ne C 679 dL_law_664 (by decide) (fun _ => ?_) (fun q9 => absurd q9 (nI_ne0 (by omega) (by omega)))
    refine sv_goto C 1316 dL_law_679 (by decide) ?_
    refine sv_sub (lv' := [(0, .ref b), (1, .ref (sv_r G 14 0)), (2, .ref (sv_r G 19 0)), (3, .ref (sv_r G 25 0)), (4, .int (nI i))]) rfl ?_
    exact sv_widen (by omega) (by omega) (kk _ _ _ i2)
set_option maxHeartbeats 4000000 in
set_option maxRecDepth 100000 in
theorem lc_comeAll {p : Program} {l : Launch} {e : Env} {s : State} {m : MethodId} {args : Array Value} {below : List Frame} {meth : Method} {c : Code} {k n : Nat} {Q : State → Prop} {G : sv_G} {b L : Nat} {xs : Nat → Int32} {z : Nat} {M : sv_M} {o : Int64} {i Cc B : Nat} (C : sv_C p l s m args meth c code 9 RL G) (hl : l.stackTraces = false) (hX : va_X b L xs s s.heap) (hbl : b < s.heap.size) (hbA : ¬ sv_A G b) (hL : L ≤ 1536) (hi : i + 2 < L) (hCc : Cc ≤ 7680) (hB : B ≤ 25804800) (hinv : inv Cc B M) (hk : k ≤ 3000) (hn : n ≤ 20000) (kk : ∀ z9 M9 o9, inv (Cc + 15) (B + 50400) M9 → sv_V p l e room_1 s m args below meth c 9 G Q (k + 4) (n + 24) (sv_W G z9 M9 o9) 1316 [(0, .ref b), (1, .ref (sv_r G 14 0)), (2, .ref (sv_r G 19 0)), (3, .ref (sv_r G 25 0)), (4, .int (nI i))] []) : sv_V p l e room_1 s m args below meth c 9 G Q k n (sv_W G z M o) 708 [(0, .ref b), (1, .ref (sv_r G 14 0)), (2, .ref (sv_r G 19 0)), (3, .ref (sv_r G 25 0)), (4, .int (nI i))] [] := by
  obtain ⟨od, hd, n9, h⟩ := hinv
  obtain ⟨hm, hm7, hmr, b6, b7, hv, he, hr⟩ := inw_m h
  obtain ⟨hod, hd6, hn60, h0, h1, hkp, hn9, hn9r, htx, hst, hhs⟩ := id h
  have hcl : cmaC n9 (M 9) ≤ 3 := by have h9 := cmaC_le  n9 (M 9); omega
  by_cases hc : cmaC n9 (M 9) = 0
  · skip
    refine sv_aload_n (i := 1) (x := (sv_r G 14 0)) C dL_law_708 rfl rfl ?_
    refine sv_aload_n (i := 3) (x := (sv_r G 25 0)) C dL_law_709 rfl rfl ?_
    refine sw_call (as := [_, _]) (rest := []) C (met_L_comeAll l G hl z M o od hd hod h0 h1 hd6 b6 b7 n9 hn9 hn60 (fun j hj => (htx j hj).2) (all_hro h)) kw_620 kw_621 kw_28 kc_comeAll 2 ⟨by decide, by decide, by decide +kernel⟩ rfl ⟨Nat.le_of_ble_eq_true rfl, Nat.le_of_ble_eq_true rfl⟩ (Nat.le_of_ble_eq_true rfl) dL_law_710 ⟨by show k + 1 ≤ 614530; omega, by show n + 6 ≤ 7252513; omega⟩ ?_
    refine sv_riS (nI (cmaC n9 (M 9))) rfl ?_
    refine sv_istore (i := 5) C [(0, .ref b), (1, .ref (sv_r G 14 0)), (2, .ref (sv_r G 19 0)), (3, .ref (sv_r G 25 0)), (4, .int (nI i)), (5, .int (nI (cmaC n9 (M 9))))] dL_law_713 (by decide) rfl ?_
    refine sv_wd (fun H h9 => by unfold sw_R at h9; rw [if_pos hc] at h9; exact h9) ?_
    obtain ⟨M1, e1⟩ : ∃ M9 : sv_M, M9 = (sv_u (sv_u (sav od hd M) 0 (cax (M 9) ((n9 + 1) / 4) (M 0))) 9 (upd (M 9) 60 0)) := ⟨_, rfl⟩
    rw [← e1]
    have e10 : M1 10 = M 10 := by rw [e1, sv_un (by decide)]; exact inw_hi h (by decide)
    have e15 : M1 15 = M 15 := by rw [e1, sv_un (by decide)]; exact inw_hi h (by decide)
    have e13 : M1 13 = M 13 := by rw [e1, sv_un (by decide)]; exact inw_hi h (by decide)
    refine sv_aload_n (i := 2) (x := (sv_r G 19 0)) C dL_law_715 rfl rfl ?_
    refine sv_callV (as := []) (rest := []) C (met_R_comeAll l G _ M1 _ hd (by rw [e15]; exact hkp) hd6 n9 (by rw [e15]; exact hn9r) hn60 (cwk (M 0) (M 9)) (fun _ => by rw [e10, e13]; exact (all_ok h hc).1)) fX6_comeAll kw_891 (sv_recv19 C) ⟨Nat.le_of_ble_eq_true rfl, Nat.le_of_ble_eq_true rfl⟩ (Nat.le_of_ble_eq_true rfl) dL_law_716 ⟨by show k + 1 ≤ 614530; omega, by show n + 6 ≤ 7252513; omega⟩ ?_
    refine sv_ri (fun v6 e6 => ?_)
    refine sv_exH (Wf := fun (q : vX × vX × vX) H => ag3 q.1 (rW (cmaC n9 (M1 13)) (cmM hd (rcx (M1 13) (cwk (M 0) (M 9)) (M1 10) ((n9 + 1) / 4)) M1) M1 15) ∧ sv_W G _ (sv_u (sv_u (sv_u (rW (cmaC n9 (M1 13)) (cmM hd (rcx (M1 13) (cwk (M 0) (M 9)) (M1 10) ((n9 + 1) / 4)) M1) M1) 15 q.1) 14 q.2.1) 11 q.2.2) _ H) (fun H h9 => by obtain ⟨Y, Z, X, g1, g2⟩ := h9; exact ⟨(Y, Z, X), g1, g2⟩) (fun q => ?_)
    refine sv_exP (fun g1 => ?_)
    have c13 : cmaC n9 (M1 13) = 0 := by rw [e13, (txt_eq h).2]; exact hc
    rw [rW_0 c13] at g1 ⊢
    obtain ⟨M3, e3⟩ : ∃ M9 : sv_M, M9 = cmM hd (rcx (M1 13) (cwk (M 0) (M 9)) (M1 10) ((n9 + 1) / 4)) M1 := ⟨_, rfl⟩
    rw [← e3] at g1 ⊢
    obtain ⟨i3, t3, v3⟩ := fc_all h hc e1 e3
    obtain ⟨k5, t5⟩ := lk_W5 (M := M3) (Y := q.1) (Z := q.2.1) (X := q.2.2) g1
    have i2 := inv_lk i3 k5 (Nat.le_refl _) (Nat.le_refl _)
    have t2 := t5.trans t3
    have t2 : _ = nI (cmaC n9 (M 9)) := t2.trans (by rw [hc]; rfl)
    refine sv_istore (i := 6) C [(0, .ref b), (1, .ref (sv_r G 14 0)), (2, .ref (sv_r G 19 0)), (3, .ref (sv_r G 25 0)), (4, .int (nI i)), (5, .int (nI (cmaC n9 (M 9)))), (6, .int v6)] dL_law_719 (by decide) rfl ?_
    refine sv_aload_n (i := 2) (x := (sv_r G 19 0)) C dL_law_721 rfl rfl ?_
    refine sv_callV (as := []) (rest := []) C (met_R_thrown l G _ _ _) fX6_thrown kw_762 (sv_recv19 C) ⟨Nat.le_of_ble_eq_true rfl, Nat.le_of_ble_eq_true rfl⟩ (Nat.le_of_ble_eq_true rfl) dL_law_722 ⟨by show k + 1 ≤ 614530; omega, by show n + 6 ≤ 7252513; omega⟩ ?_
    refine sv_riS (nI (cmaC n9 (M 9))) t2 ?_
    refine sv_iload (i := 5) (x := (nI (cmaC n9 (M 9)))) C dL_law_725 rfl ?_
    refine sv_icmp_eq C 732 dL_law_727 (by decide) (fun _ => ?_) (fun q9 => absurd rfl q9)
    refine sv_iload (i := 5) (x := (nI (cmaC n9 (M 9)))) C dL_law_732 rfl ?_
    refine sv_if_ne C 749 dL_law_734 (by decide) (fun q9 => absurd (by rw [hc]; rfl) q9) (fun _ => ?_)
    refine sv_aload_n (i := 3) (x := (sv_r G 25 0)) C dL_law_737 rfl rfl ?_
    refine sv_iconst (v := 0) C dL_law_738 (by decide) ?_
    refine sv_lald C dL_law_739 ?_
    refine sv_iload (i := 6) (x := v6) C dL_law_740 rfl ?_
    refine sv_i2l C dL_law_742 ?_
    refine sv_lcmp C dL_law_743 ?_
    refine sv_if_eq C 749 dL_law_744 (by decide) (fun _ => ?_) (fun q9 => absurd ((lg_cmp_eq _ _).mpr (congrArg Int32.toInt64 (by rw [e6, rR_0 c13]; exact v3))) q9)
    refine sv_goto C 1316 dL_law_749 (by decide) ?_
    refine sv_sub (lv' := [(0, .ref b), (1, .ref (sv_r G 14 0)), (2, .ref (sv_r G 19 0)), (3, .ref (sv_r G 25 0)), (4, .int (nI i))]) rfl ?_
    exact sv_widen (by omega) (by omega) (kk _ _ _ i2)
  · skip
    refine sv_aload_n (i := 1) (x := (sv_r G 14 0)) C dL_law_708 rfl rfl ?_
    refine sv_aload_n (i := 3) (x := (sv_r G 25 0)) C dL_law_709 rfl rfl ?_
    refine sw_call (as := [_, _]) (rest := []) C (met_L_comeAll l G hl z M o od hd hod h0 h1 hd6 b6 b7 n9 hn9 hn60 (fun j hj => (htx j hj).2) (all_hro h)) kw_620 kw_621 kw_28 kc_comeAll 2 ⟨by decide, by decide, by decide +kernel⟩ rfl ⟨Nat.le_of_ble_eq_true rfl, Nat.le_of_ble_eq_true rfl⟩ (Nat.le_of_ble_eq_true rfl) dL_law_710 ⟨by show k + 1 ≤ 614530; omega, by show n + 6 ≤ 7252513; omega⟩ ?_
    refine sv_riS (nI (cmaC n9 (M 9))) rfl ?_
    refine sv_istore (i := 5) C [(0, .ref b), (1, .ref (sv_r G 14 0)), (2, .ref (sv_r G 19 0)), (3, .ref (sv_r G 25 0)), (4, .int (nI i)), (5, .int (nI (cmaC n9 (M 9))))] dL_law_713 (by decide) rfl ?_
    refine sv_wd (Wd' := sv_Wz G z M o) (fun H h9 => by unfold sw_R at h9; rw [if_neg hc] at h9; exact h9) ?_
    refine sv_exH (Wf := fun z1 => sv_W G z1 M o) (fun H h9 => by obtain ⟨z1, _, h9⟩ := h9; exact ⟨z1, h9⟩) (fun z1 => ?_)
    refine sv_aload_n (i := 2) (x := (sv_r G 19 0)) C dL_law_715 rfl rfl ?_
    refine sv_callV (as := []) (rest := []) C (met_R_comeAll l G _ M _ hd hkp hd6 n9 hn9r hn60 (cwk (M 0) (M 9)) (fun q9 => absurd ((txt_eq h).2.symm.trans q9) hc)) fX6_comeAll kw_891 (sv_recv19 C) ⟨Nat.le_of_ble_eq_true rfl, Nat.le_of_ble_eq_true rfl⟩ (Nat.le_of_ble_eq_true rfl) dL_law_716 ⟨by show k + 1 ≤ 614530; omega, by show n + 6 ≤ 7252513; omega⟩ ?_
    refine sv_ri (fun v6 e6 => ?_)
    refine sv_exH (Wf := fun (q : vX × vX × vX) H => ag3 q.1 (rW (cmaC n9 (M 13)) (cmM hd (rcx (M 13) (cwk (M 0) (M 9)) (M 10) ((n9 + 1) / 4)) M) M 15) ∧ sv_W G _ (sv_u (sv_u (sv_u (rW (cmaC n9 (M 13)) (cmM hd (rcx (M 13) (cwk (M 0) (M 9)) (M 10) ((n9 + 1) / 4)) M) M) 15 q.1) 14 q.2.1) 11 q.2.2) _ H) (fun H h9 => by obtain ⟨Y, Z, X, g1, g2⟩ := h9; exact ⟨(Y, Z, X), g1, g2⟩) (fun q => ?_)
    refine sv_exP (fun g1 => ?_)
    have c13 : ¬ cmaC n9 (M 13) = 0 := by rw [(txt_eq h).2]; exact hc
    rw [rW_n c13, (txt_eq h).2] at g1 ⊢
    obtain ⟨M3, e3⟩ : ∃ M9 : sv_M, M9 = thr (nI (cmaC n9 (M 9))) M := ⟨_, rfl⟩
    rw [← e3] at g1 ⊢
    have t3 : M3 15 2 = nI (cmaC n9 (M 9)) := by rw [e3]; exact thr_2
    have i3 : inv (Cc + 15) (B + 50400) M3 := by rw [e3]; exact inv_lk ⟨od, hd, n9, h⟩ lk_thr (by omega) (by omega)
    obtain ⟨k5, t5⟩ := lk_W5 (M := M3) (Y := q.1) (Z := q.2.1) (X := q.2.2) g1
    have i2 := inv_lk i3 k5 (Nat.le_refl _) (Nat.le_refl _)
    have t2 := t5.trans t3
    refine sv_istore (i := 6) C [(0, .ref b), (1, .ref (sv_r G 14 0)), (2, .ref (sv_r G 19 0)), (3, .ref (sv_r G 25 0)), (4, .int (nI i)), (5, .int (nI (cmaC n9 (M 9)))), (6, .int v6)] dL_law_719 (by decide) rfl ?_
    refine sv_aload_n (i := 2) (x := (sv_r G 19 0)) C dL_law_721 rfl rfl ?_
    refine sv_callV (as := []) (rest := []) C (met_R_thrown l G _ _ _) fX6_thrown kw_762 (sv_recv19 C) ⟨Nat.le_of_ble_eq_true rfl, Nat.le_of_ble_eq_true rfl⟩ (Nat.le_of_ble_eq_true rfl) dL_law_722 ⟨by show k + 1 ≤ 614530; omega, by show n + 6 ≤ 7252513; omega⟩ ?_
    refine sv_riS (nI (cmaC n9 (M 9))) t2 ?_
    refine sv_iload (i := 5) (x := (nI (cmaC n9 (M 9)))) C dL_law_725 rfl ?_
    refine sv_icmp_eq C 732 dL_law_727 (by decide) (fun _ => ?_) (fun q9 => absurd rfl q9)
    refine sv_iload (i := 5) (x := (nI (cmaC n9 (M 9)))) C dL_law_732 rfl ?_
    refine sv_if_ne C 749 dL_law_734 (by decide) (fun _ => ?_) (fun q9 => absurd q9 (nI_ne0 (by omega) (by omega)))
    refine sv_goto C 1316 dL_law_749 (by decide) ?_
    refine sv_sub (lv' := [(0, .ref b), (1, .ref (sv_r G 14 0)), (2, .ref (sv_r G 19 0)), (3, .ref (sv_r G 25 0)), (4, .int (nI i))]) rfl ?_
    exact sv_widen (by omega) (by omega) (kk _ _ _ i2)
set_option maxHeartbeats 4000000 in
set_option maxRecDepth 100000 in
theorem lc_undo {p : Program} {l : Launch} {e : Env} {s : State} {m : MethodId} {args : Array Value} {below : List Frame} {meth : Method} {c : Code} {k n : Nat} {Q : State → Prop} {G : sv_G} {b L : Nat} {xs : Nat → Int32} {z : Nat} {M : sv_M} {o : Int64} {i Cc B : Nat} (C : sv_C p l s m args meth c code 9 RL G) (hl : l.stackTraces = false) (hX : va_X b L xs s s.heap) (hbl : b < s.heap.size) (hbA : ¬ sv_A G b) (hL : L ≤ 1536) (hi : i + 2 < L) (hCc : Cc ≤ 7680) (hB : B ≤ 25804800) (hinv : inv Cc B M) (hk : k ≤ 3000) (hn : n ≤ 20000) (kk : ∀ z9 M9 o9, inv (Cc + 15) (B + 50400) M9 → sv_V p l e room_1 s m args below meth c 9 G Q (k + 4) (n + 24) (sv_W G z9 M9 o9) 1316 [(0, .ref b), (1, .ref (sv_r G 14 0)), (2, .ref (sv_r G 19 0)), (3, .ref (sv_r G 25 0)), (4, .int (nI i))] []) : sv_V p l e room_1 s m args below meth c 9 G Q k n (sv_W G z M o) 752 [(0, .ref b), (1, .ref (sv_r G 14 0)), (2, .ref (sv_r G 19 0)), (3, .ref (sv_r G 25 0)), (4, .int (nI i))] [] := by
  obtain ⟨od, hd, n9, h⟩ := hinv
  obtain ⟨hm, hm7, hmr, b6, b7, hv, he, hr⟩ := inw_m h
  obtain ⟨hod, hd6, hn60, h0, h1, hkp, hn9, hn9r, htx, hst, hhs⟩ := id h
  have hcl : undC hd ≤ 3 := by have h9 := undC_le  hd; omega
  have hu : 0 < hd → (M (2 + (od + (hd - 1)) % 6) 6 = 0 ∨ M (2 + (od + (hd - 1)) % 6) 6 = 1) ∧ (M (2 + (od + (hd - 1)) % 6) 7 = 0 ∨ M (2 + (od + (hd - 1)) % 6) 7 = 1) := fun q => by
    have h9 := vd_many (hhs (hd - 1) (by omega)).1.1
    exact ⟨h9.2.2.1, h9.2.2.2.1⟩
  by_cases hc : undC hd = 0
  · skip
    refine sv_aload_n (i := 1) (x := (sv_r G 14 0)) C dL_law_752 rfl rfl ?_
    refine sv_aload_n (i := 3) (x := (sv_r G 25 0)) C dL_law_753 rfl rfl ?_
    refine sw_call (as := [_, _]) (rest := []) C (met_L_undo l G hl z M o od hd _ hod h0 h1 hd6 rfl (fun q => (hu q).1) (fun q => (hu q).2)) kw_650 kw_651 kw_28 kc_undo 2 ⟨by decide, by decide, by decide +kernel⟩ rfl ⟨Nat.le_of_ble_eq_true rfl, Nat.le_of_ble_eq_true rfl⟩ (Nat.le_of_ble_eq_true rfl) dL_law_754 ⟨by show k + 1 ≤ 614530; omega, by show n + 6 ≤ 7252513; omega⟩ ?_
    refine sv_riS (nI (undC hd)) rfl ?_
    refine sv_istore (i := 5) C [(0, .ref b), (1, .ref (sv_r G 14 0)), (2, .ref (sv_r G 19 0)), (3, .ref (sv_r G 25 0)), (4, .int (nI i)), (5, .int (nI (undC hd)))] dL_law_757 (by decide) rfl ?_
    refine sv_wd (fun H h9 => by unfold sw_R at h9; rw [if_pos hc] at h9; exact h9) ?_
    obtain ⟨M1, e1⟩ : ∃ M9 : sv_M, M9 = (rsM (hd - 1) ((od + (hd - 1)) % 6) M) := ⟨_, rfl⟩
    rw [← e1]
    have e10 : M1 10 = M 10 := by rw [e1]; unfold rsM; rw [sv_un (by decide), sv_un (by decide)]
    have e15 : M1 15 = M 15 := by rw [e1]; unfold rsM; rw [sv_un (by decide), sv_un (by decide)]
    have e13 : M1 13 = M 13 := by rw [e1]; unfold rsM; rw [sv_un (by decide), sv_un (by decide)]
    refine sv_aload_n (i := 2) (x := (sv_r G 19 0)) C dL_law_759 rfl rfl ?_
    refine sv_callV (as := []) (rest := []) C (met_R_undo l G _ M1 _ hd (by rw [e15]; exact hkp) hd6) fX6_undo kw_766 (sv_recv19 C) ⟨Nat.le_of_ble_eq_true rfl, Nat.le_of_ble_eq_true rfl⟩ (Nat.le_of_ble_eq_true rfl) dL_law_760 ⟨by show k + 1 ≤ 614530; omega, by show n + 6 ≤ 7252513; omega⟩ ?_
    refine sv_ri (fun v6 e6 => ?_)
    refine sv_wd (sv_eqW (rW_0 hc)) ?_
    obtain ⟨M2, e2⟩ : ∃ M9 : sv_M, M9 = sv_u (sv_u M1 10 (cpB (86 * (hd - 1)) 0 (M1 12) 86 (M1 10))) 15 (upd (upd (M1 15) 2 0) 0 (nI (hd - 1))) := ⟨_, rfl⟩
    rw [← e2]
    obtain ⟨i2, t2⟩ := fc_undo h hc rfl e1 e2
    refine sv_istore (i := 6) C [(0, .ref b), (1, .ref (sv_r G 14 0)), (2, .ref (sv_r G 19 0)), (3, .ref (sv_r G 25 0)), (4, .int (nI i)), (5, .int (nI (undC hd))), (6, .int v6)] dL_law_763 (by decide) rfl ?_
    refine sv_aload_n (i := 2) (x := (sv_r G 19 0)) C dL_law_765 rfl rfl ?_
    refine sv_callV (as := []) (rest := []) C (met_R_thrown l G _ _ _) fX6_thrown kw_762 (sv_recv19 C) ⟨Nat.le_of_ble_eq_true rfl, Nat.le_of_ble_eq_true rfl⟩ (Nat.le_of_ble_eq_true rfl) dL_law_766 ⟨by show k + 1 ≤ 614530; omega, by show n + 6 ≤ 7252513; omega⟩ ?_
    refine sv_riS (nI (undC hd)) (t2.trans (by rw [hc]; rfl)) ?_
    refine sv_iload (i := 5) (x := (nI (undC hd))) C dL_law_769 rfl ?_
    refine sv_icmp_eq C 776 dL_law_771 (by decide) (fun _ => ?_) (fun q9 => absurd rfl q9)
    refine sv_iload (i := 5) (x := (nI (undC hd))) C dL_law_776 rfl ?_
    refine sv_if_ne C 793 dL_law_778 (by decide) (fun q9 => absurd (by rw [hc]; rfl) q9) (fun _ => ?_)
    refine sv_aload_n (i := 3) (x := (sv_r G 25 0)) C dL_law_781 rfl rfl ?_
    refine sv_iconst (v := 0) C dL_law_782 (by decide) ?_
    refine sv_lald C dL_law_783 ?_
    refine sv_iload (i := 6) (x := v6) C dL_law_784 rfl ?_
    refine sv_i2l C dL_law_786 ?_
    refine sv_lcmp C dL_law_787 ?_
    refine sv_if_eq C 793 dL_law_788 (by decide) (fun _ => ?_) (fun q9 => absurd ((lg_cmp_eq _ _).mpr (congrArg Int32.toInt64 (by rw [e6, rR_0 hc]))) q9)
    refine sv_goto C 1316 dL_law_793 (by decide) ?_
    refine sv_sub (lv' := [(0, .ref b), (1, .ref (sv_r G 14 0)), (2, .ref (sv_r G 19 0)), (3, .ref (sv_r G 25 0)), (4, .int (nI i))]) rfl ?_
    exact sv_widen (by omega) (by omega) (kk _ _ _ i2)
  · skip
    refine sv_aload_n (i := 1) (x := (sv_r G 14 0)) C dL_law_752 rfl rfl ?_
    refine sv_aload_n (i := 3) (x := (sv_r G 25 0)) C dL_law_753 rfl rfl ?_
    refine sw_call (as := [_, _]) (rest := []) C (met_L_undo l G hl z M o od hd _ hod h0 h1 hd6 rfl (fun q => (hu q).1) (fun q => (hu q).2)) kw_650 kw_651 kw_28 kc_undo 2 ⟨by decide, by decide, by decide +kernel⟩ rfl ⟨Nat.le_of_ble_eq_true rfl, Nat.le_of_ble_eq_true rfl⟩ (Nat.le_of_ble_eq_true rfl) dL_law_754 ⟨by show k + 1 ≤ 614530; omega, by show n + 6 ≤ 7252513; omega⟩ ?_
    refine sv_riS (nI (undC hd)) rfl ?_
    refine sv_istore (i := 5) C [(0, .ref b), (1, .ref (sv_r G 14 0)), (2, .ref (sv_r G 19 0)), (3, .ref (sv_r G 25 0)), (4, .int (nI i)), (5, .int (nI (undC hd)))] dL_law_757 (by decide) rfl ?_
    refine sv_wd (Wd' := sv_Wz G z M o) (fun H h9 => by unfold sw_R at h9; rw [if_neg hc] at h9; exact h9) ?_
    refine sv_exH (Wf := fun z1 => sv_W G z1 M o) (fun H h9 => by obtain ⟨z1, _, h9⟩ := h9; exact ⟨z1, h9⟩) (fun z1 => ?_)
    refine sv_aload_n (i := 2) (x := (sv_r G 19 0)) C dL_law_759 rfl rfl ?_
    refine sv_callV (as := []) (rest := []) C (met_R_undo l G _ M _ hd hkp hd6) fX6_undo kw_766 (sv_recv19 C) ⟨Nat.le_of_ble_eq_true rfl, Nat.le_of_ble_eq_true rfl⟩ (Nat.le_of_ble_eq_true rfl) dL_law_760 ⟨by show k + 1 ≤ 614530; omega, by show n + 6 ≤ 7252513; omega⟩ ?_
    refine sv_ri (fun v6 e6 => ?_)
    refine sv_wd (sv_eqW (rW_n hc)) ?_
    have i2 : inv (Cc + 15) (B + 50400) (thr (nI (undC hd)) M) := inv_lk ⟨od, hd, n9, h⟩ lk_thr (by omega) (by omega)
    refine sv_istore (i := 6) C [(0, .ref b), (1, .ref (sv_r G 14 0)), (2, .ref (sv_r G 19 0)), (3, .ref (sv_r G 25 0)), (4, .int (nI i)), (5, .int (nI (undC hd))), (6, .int v6)] dL_law_763 (by decide) rfl ?_
    refine sv_aload_n (i := 2) (x := (sv_r G 19 0)) C dL_law_765 rfl rfl ?_
    refine sv_callV (as := []) (rest := []) C (met_R_thrown l G _ _ _) fX6_thrown kw_762 (sv_recv19 C) ⟨Nat.le_of_ble_eq_true rfl, Nat.le_of_ble_eq_true rfl⟩ (Nat.le_of_ble_eq_true rfl) dL_law_766 ⟨by show k + 1 ≤ 614530; omega, by show n + 6 ≤ 7252513; omega⟩ ?_
    refine sv_riS (nI (undC hd)) thr_2 ?_
    refine sv_iload (i := 5) (x := (nI (undC hd))) C dL_law_769 rfl ?_
    refine sv_icmp_eq C 776 dL_law_771 (by decide) (fun _ => ?_) (fun q9 => absurd rfl q9)
    refine sv_iload (i := 5) (x := (nI (undC hd))) C dL_law_776 rfl ?_
    refine sv_if_ne C 793 dL_law_778 (by decide) (fun _ => ?_) (fun q9 => absurd q9 (nI_ne0 (by omega) (by omega)))
    refine sv_goto C 1316 dL_law_793 (by decide) ?_
    refine sv_sub (lv' := [(0, .ref b), (1, .ref (sv_r G 14 0)), (2, .ref (sv_r G 19 0)), (3, .ref (sv_r G 25 0)), (4, .int (nI i))]) rfl ?_
    exact sv_widen (by omega) (by omega) (kk _ _ _ i2)
set_option maxHeartbeats 4000000 in
set_option maxRecDepth 100000 in
theorem lc_floor {p : Program} {l : Launch} {e : Env} {s : State} {m : MethodId} {args : Array Value} {below : List Frame} {meth : Method} {c : Code} {k n : Nat} {Q : State → Prop} {G : sv_G} {b L : Nat} {xs : Nat → Int32} {z : Nat} {M : sv_M} {o : Int64} {i Cc B : Nat} (C : sv_C p l s m args meth c code 9 RL G) (hl : l.stackTraces = false) (hX : va_X b L xs s s.heap) (hbl : b < s.heap.size) (hbA : ¬ sv_A G b) (hL : L ≤ 1536) (hi : i + 2 < L) (hCc : Cc ≤ 7680) (hB : B ≤ 25804800) (hinv : inv Cc B M) (hk : k ≤ 3000) (hn : n ≤ 20000) (kk : ∀ z9 M9 o9, inv (Cc + 15) (B + 50400) M9 → sv_V p l e room_1 s m args below meth c 9 G Q (k + 4) (n + 24) (sv_W G z9 M9 o9) 1316 [(0, .ref b), (1, .ref (sv_r G 14 0)), (2, .ref (sv_r G 19 0)), (3, .ref (sv_r G 25 0)), (4, .int (nI i))] []) : sv_V p l e room_1 s m args below meth c 9 G Q k n (sv_W G z M o) 796 [(0, .ref b), (1, .ref (sv_r G 14 0)), (2, .ref (sv_r G 19 0)), (3, .ref (sv_r G 25 0)), (4, .int (nI i))] [] := by
  obtain ⟨od, hd, n9, h⟩ := hinv
  obtain ⟨hm, hm7, hmr, b6, b7, hv, he, hr⟩ := inw_m h
  obtain ⟨hod, hd6, hn60, h0, h1, hkp, hn9, hn9r, htx, hst, hhs⟩ := id h
  have hcl : floC (xs (i + 1)) (xs (i + 2)) ≤ 3 := by have h9 := floC_le  (xs (i + 1)) (xs (i + 2)); omega
  by_cases hc : floC (xs (i + 1)) (xs (i + 2)) = 0
  · skip
    refine sv_aload_n (i := 1) (x := (sv_r G 14 0)) C dL_law_796 rfl rfl ?_
    refine sv_aload_n (i := 0) (x := b) C dL_law_797 rfl rfl ?_
    refine sv_iload (i := 4) (x := (nI i)) C dL_law_798 rfl ?_
    refine sv_iconst (v := nI 1) C dL_law_800 (by decide) ?_
    refine sv_iadd C dL_law_801 ?_
    refine sv_set (v' := .int (nI (i + 1))) (congrArg Value.int (nI_add _ _)) ?_
    refine sv_scrN C hX hbl hbA (by omega) (by omega) dL_law_802 ?_
    refine sv_aload_n (i := 0) (x := b) C dL_law_803 rfl rfl ?_
    refine sv_iload (i := 4) (x := (nI i)) C dL_law_804 rfl ?_
    refine sv_iconst (v := nI 2) C dL_law_806 (by decide) ?_
    refine sv_iadd C dL_law_807 ?_
    refine sv_set (v' := .int (nI (i + 2))) (congrArg Value.int (nI_add _ _)) ?_
    refine sv_scrN C hX hbl hbA (by omega) (by omega) dL_law_808 ?_
    refine sv_aload_n (i := 3) (x := (sv_r G 25 0)) C dL_law_809 rfl rfl ?_
    refine sw_call (as := [_, _, _, _]) (rest := []) C (met_L_floor l G hl z M o (xs (i + 1)) (xs (i + 2)) _ hm hm7 b6 b7) kw_662 kw_663 kw_28 kc_floor 4 ⟨by decide, by decide, by decide +kernel⟩ rfl ⟨Nat.le_of_ble_eq_true rfl, Nat.le_of_ble_eq_true rfl⟩ (Nat.le_of_ble_eq_true rfl) dL_law_810 ⟨by show k + 2 ≤ 614530; omega, by show n + 12 ≤ 7252513; omega⟩ ?_
    refine sv_riS (nI (floC (xs (i + 1)) (xs (i + 2)))) rfl ?_
    refine sv_istore (i := 5) C [(0, .ref b), (1, .ref (sv_r G 14 0)), (2, .ref (sv_r G 19 0)), (3, .ref (sv_r G 25 0)), (4, .int (nI i)), (5, .int (nI (floC (xs (i + 1)) (xs (i + 2)))))] dL_law_813 (by decide) rfl ?_
    refine sv_wd (fun H h9 => by unfold sw_R at h9; rw [if_pos hc] at h9; exact h9) ?_
    obtain ⟨M1, e1⟩ : ∃ M9 : sv_M, M9 = M := ⟨_, rfl⟩
    have hk1 : lk M M1 := by rw [e1]; exact lk_r
    have e10 : M1 10 = M 10 := by rw [e1]
    have e15 : M1 15 = M 15 := by rw [e1]
    refine sv_wd (Wd' := sv_W G z M1 (Int32.toInt64 _)) (fun H h9 => by rw [e1]; exact h9) ?_
    refine sv_aload_n (i := 2) (x := (sv_r G 19 0)) C dL_law_815 rfl rfl ?_
    refine sv_aload_n (i := 0) (x := b) C dL_law_816 rfl rfl ?_
    refine sv_iload (i := 4) (x := (nI i)) C dL_law_817 rfl ?_
    refine sv_iconst (v := nI 1) C dL_law_819 (by decide) ?_
    refine sv_iadd C dL_law_820 ?_
    refine sv_set (v' := .int (nI (i + 1))) (congrArg Value.int (nI_add _ _)) ?_
    refine sv_scrN C hX hbl hbA (by omega) (by omega) dL_law_821 ?_
    refine sv_aload_n (i := 0) (x := b) C dL_law_822 rfl rfl ?_
    refine sv_iload (i := 4) (x := (nI i)) C dL_law_823 rfl ?_
    refine sv_iconst (v := nI 2) C dL_law_825 (by decide) ?_
    refine sv_iadd C dL_law_826 ?_
    refine sv_set (v' := .int (nI (i + 2))) (congrArg Value.int (nI_add _ _)) ?_
    refine sv_scrN C hX hbl hbA (by omega) (by omega) dL_law_827 ?_
    refine sv_callV (as := [_, _]) (rest := []) C (met_R_floor l G _ M1 _ (xs (i + 1)) (xs (i + 2)) _ (by rw [e10]; exact hmr) hm7) fX6_floor kw_895 (sv_recv19 C) ⟨Nat.le_of_ble_eq_true rfl, Nat.le_of_ble_eq_true rfl⟩ (Nat.le_of_ble_eq_true rfl) dL_law_828 ⟨by show k + 2 ≤ 614530; omega, by show n + 12 ≤ 7252513; omega⟩ ?_
    refine sv_ri (fun v6 e6 => ?_)
    refine sv_wd (sv_eqW (rW_0 hc)) ?_
    have t2 : thr 0 M1 15 2 = 0 := thr_2
    have i2 : inv (Cc + 15) (B + 50400) (thr 0 M1) := inv_lk ⟨od, hd, n9, h⟩ (lk_t hk1 lk_thr) (by omega) (by omega)
    refine sv_istore (i := 6) C [(0, .ref b), (1, .ref (sv_r G 14 0)), (2, .ref (sv_r G 19 0)), (3, .ref (sv_r G 25 0)), (4, .int (nI i)), (5, .int (nI (floC (xs (i + 1)) (xs (i + 2))))), (6, .int v6)] dL_law_831 (by decide) rfl ?_
    refine sv_aload_n (i := 2) (x := (sv_r G 19 0)) C dL_law_833 rfl rfl ?_
    refine sv_callV (as := []) (rest := []) C (met_R_thrown l G _ _ _) fX6_thrown kw_762 (sv_recv19 C) ⟨Nat.le_of_ble_eq_true rfl, Nat.le_of_ble_eq_true rfl⟩ (Nat.le_of_ble_eq_true rfl) dL_law_834 ⟨by show k + 2 ≤ 614530; omega, by show n + 12 ≤ 7252513; omega⟩ ?_
    refine sv_riS (nI (floC (xs (i + 1)) (xs (i + 2)))) (t2.trans (by rw [hc]; rfl)) ?_
    refine sv_iload (i := 5) (x := (nI (floC (xs (i + 1)) (xs (i + 2))))) C dL_law_837 rfl ?_
    refine sv_icmp_eq C 844 dL_law_839 (by decide) (fun _ => ?_) (fun q9 => absurd rfl q9)
    refine sv_iload (i := 5) (x := (nI (floC (xs (i + 1)) (xs (i + 2))))) C dL_law_844 rfl ?_
    refine sv_if_ne C 861 dL_law_846 (by decide) (fun q9 => absurd (by rw [hc]; rfl) q9) (fun _ => ?_)
    refine sv_aload_n (i := 3) (x := (sv_r G 25 0)) C dL_law_849 rfl rfl ?_
    refine sv_iconst (v := 0) C dL_law_850 (by decide) ?_
    refine sv_lald C dL_law_851 ?_
    refine sv_iload (i := 6) (x := v6) C dL_law_852 rfl ?_
    refine sv_i2l C dL_law_854 ?_
    refine sv_lcmp C dL_law_855 ?_
    refine sv_if_eq C 861 dL_law_856 (by decide) (fun _ => ?_) (fun q9 => absurd ((lg_cmp_eq _ _).mpr (congrArg Int32.toInt64 (by rw [e6, rR_0 hc, e10]; exact fl_floor h hc))) q9)
    refine sv_goto C 1316 dL_law_861 (by decide) ?_
    refine sv_sub (lv' := [(0, .ref b), (1, .ref (sv_r G 14 0)), (2, .ref (sv_r G 19 0)), (3, .ref (sv_r G 25 0)), (4, .int (nI i))]) rfl ?_
    exact sv_widen (by omega) (by omega) (kk _ _ _ i2)
  · skip
    refine sv_aload_n (i := 1) (x := (sv_r G 14 0)) C dL_law_796 rfl rfl ?_
    refine sv_aload_n (i := 0) (x := b) C dL_law_797 rfl rfl ?_
    refine sv_iload (i := 4) (x := (nI i)) C dL_law_798 rfl ?_
    refine sv_iconst (v := nI 1) C dL_law_800 (by decide) ?_
    refine sv_iadd C dL_law_801 ?_
    refine sv_set (v' := .int (nI (i + 1))) (congrArg Value.int (nI_add _ _)) ?_
    refine sv_scrN C hX hbl hbA (by omega) (by omega) dL_law_802 ?_
    refine sv_aload_n (i := 0) (x := b) C dL_law_803 rfl rfl ?_
    refine sv_iload (i := 4) (x := (nI i)) C dL_law_804 rfl ?_
    refine sv_iconst (v := nI 2) C dL_law_806 (by decide) ?_
    refine sv_iadd C dL_law_807 ?_
    refine sv_set (v' := .int (nI (i + 2))) (congrArg Value.int (nI_add _ _)) ?_
    refine sv_scrN C hX hbl hbA (by omega) (by omega) dL_law_808 ?_
    refine sv_aload_n (i := 3) (x := (sv_r G 25 0)) C dL_law_809 rfl rfl ?_
    refine sw_call (as := [_, _, _, _]) (rest := []) C (met_L_floor l G hl z M o (xs (i + 1)) (xs (i + 2)) _ hm hm7 b6 b7) kw_662 kw_663 kw_28 kc_floor 4 ⟨by decide, by decide, by decide +kernel⟩ rfl ⟨Nat.le_of_ble_eq_true rfl, Nat.le_of_ble_eq_true rfl⟩ (Nat.le_of_ble_eq_true rfl) dL_law_810 ⟨by show k + 2 ≤ 614530; omega, by show n + 12 ≤ 7252513; omega⟩ ?_
    refine sv_riS (nI (floC (xs (i + 1)) (xs (i + 2)))) rfl ?_
    refine sv_istore (i := 5) C [(0, .ref b), (1, .ref (sv_r G 14 0)), (2, .ref (sv_r G 19 0)), (3, .ref (sv_r G 25 0)), (4, .int (nI i)), (5, .int (nI (floC (xs (i + 1)) (xs (i + 2)))))] dL_law_813 (by decide) rfl ?_
    refine sv_wd (Wd' := sv_Wz G z M o) (fun H h9 => by unfold sw_R at h9; rw [if_neg hc] at h9; exact h9) ?_
    refine sv_exH (Wf := fun z1 => sv_W G z1 M o) (fun H h9 => by obtain ⟨z1, _, h9⟩ := h9; exact ⟨z1, h9⟩) (fun z1 => ?_)
    refine sv_aload_n (i := 2) (x := (sv_r G 19 0)) C dL_law_815 rfl rfl ?_
    refine sv_aload_n (i := 0) (x := b) C dL_law_816 rfl rfl ?_
    refine sv_iload (i := 4) (x := (nI i)) C dL_law_817 rfl ?_
    refine sv_iconst (v := nI 1) C dL_law_819 (by decide) ?_
    refine sv_iadd C dL_law_820 ?_
    refine sv_set (v' := .int (nI (i + 1))) (congrArg Value.int (nI_add _ _)) ?_
    refine sv_scrN C hX hbl hbA (by omega) (by omega) dL_law_821 ?_
    refine sv_aload_n (i := 0) (x := b) C dL_law_822 rfl rfl ?_
    refine sv_iload (i := 4) (x := (nI i)) C dL_law_823 rfl ?_
    refine sv_iconst (v := nI 2) C dL_law_825 (by decide) ?_
    refine sv_iadd C dL_law_826 ?_
    refine sv_set (v' := .int (nI (i + 2))) (congrArg Value.int (nI_add _ _)) ?_
    refine sv_scrN C hX hbl hbA (by omega) (by omega) dL_law_827 ?_
    refine sv_callV (as := [_, _]) (rest := []) C (met_R_floor l G _ M _ (xs (i + 1)) (xs (i + 2)) _ hmr hm7) fX6_floor kw_895 (sv_recv19 C) ⟨Nat.le_of_ble_eq_true rfl, Nat.le_of_ble_eq_true rfl⟩ (Nat.le_of_ble_eq_true rfl) dL_law_828 ⟨by show k + 2 ≤ 614530; omega, by show n + 12 ≤ 7252513; omega⟩ ?_
    refine sv_ri (fun v6 e6 => ?_)
    refine sv_wd (sv_eqW (rW_n hc)) ?_
    have i2 : inv (Cc + 15) (B + 50400) (thr (nI (floC (xs (i + 1)) (xs (i + 2)))) M) := inv_lk ⟨od, hd, n9, h⟩ lk_thr (by omega) (by omega)
    refine sv_istore (i := 6) C [(0, .ref b), (1, .ref (sv_r G 14 0)), (2, .ref (sv_r G 19 0)), (3, .ref (sv_r G 25 0)), (4, .int (nI i)), (5, .int (nI (floC (xs (i + 1)) (xs (i + 2))))), (6, .int v6)] dL_law_831 (by decide) rfl ?_
    refine sv_aload_n (i := 2) (x := (sv_r G 19 0)) C dL_law_833 rfl rfl ?_
    refine sv_callV (as := []) (rest := []) C (met_R_thrown l G _ _ _) fX6_thrown kw_762 (sv_recv19 C) ⟨Nat.le_of_ble_eq_true rfl, Nat.le_of_ble_eq_true rfl⟩ (Nat.le_of_ble_eq_true rfl) dL_law_834 ⟨by show k + 2 ≤ 614530; omega, by show n + 12 ≤ 7252513; omega⟩ ?_
    refine sv_riS (nI (floC (xs (i + 1)) (xs (i + 2)))) thr_2 ?_
    refine sv_iload (i := 5) (x := (nI (floC (xs (i + 1)) (xs (i + 2))))) C dL_law_837 rfl ?_
    refine sv_icmp_eq C 844 dL_law_839 (by decide) (fun _ => ?_) (fun q9 => absurd rfl q9)
    refine sv_iload (i := 5) (x := (nI (floC (xs (i + 1)) (xs (i + 2))))) C dL_law_844 rfl ?_
    refine sv_if_ne C 861 dL_law_846 (by decide) (fun _ => ?_) (fun q9 => absurd q9 (nI_ne0 (by omega) (by omega)))
    refine sv_goto C 1316 dL_law_861 (by decide) ?_
    refine sv_sub (lv' := [(0, .ref b), (1, .ref (sv_r G 14 0)), (2, .ref (sv_r G 19 0)), (3, .ref (sv_r G 25 0)), (4, .int (nI i))]) rfl ?_
    exact sv_widen (by omega) (by omega) (kk _ _ _ i2)
set_option maxHeartbeats 4000000 in
set_option maxRecDepth 100000 in
theorem lc_person {p : Program} {l : Launch} {e : Env} {s : State} {m : MethodId} {args : Array Value} {below : List Frame} {meth : Method} {c : Code} {k n : Nat} {Q : State → Prop} {G : sv_G} {b L : Nat} {xs : Nat → Int32} {z : Nat} {M : sv_M} {o : Int64} {i Cc B : Nat} (C : sv_C p l s m args meth c code 9 RL G) (hl : l.stackTraces = false) (hX : va_X b L xs s s.heap) (hbl : b < s.heap.size) (hbA : ¬ sv_A G b) (hL : L ≤ 1536) (hi : i + 2 < L) (hCc : Cc ≤ 7680) (hB : B ≤ 25804800) (hinv : inv Cc B M) (hk : k ≤ 3000) (hn : n ≤ 20000) (kk : ∀ z9 M9 o9, inv (Cc + 15) (B + 50400) M9 → sv_V p l e room_1 s m args below meth c 9 G Q (k + 4) (n + 24) (sv_W G z9 M9 o9) 1316 [(0, .ref b), (1, .ref (sv_r G 14 0)), (2, .ref (sv_r G 19 0)), (3, .ref (sv_r G 25 0)), (4, .int (nI i))] []) : sv_V p l e room_1 s m args below meth c 9 G Q k n (sv_W G z M o) 864 [(0, .ref b), (1, .ref (sv_r G 14 0)), (2, .ref (sv_r G 19 0)), (3, .ref (sv_r G 25 0)), (4, .int (nI i))] [] := by
  obtain ⟨od, hd, n9, h⟩ := hinv
  obtain ⟨hm, hm7, hmr, b6, b7, hv, he, hr⟩ := inw_m h
  obtain ⟨hod, hd6, hn60, h0, h1, hkp, hn9, hn9r, htx, hst, hhs⟩ := id h
  have hcl : perC (xs (i + 1)) (xs (i + 2)) ≤ 3 := by have h9 := perC_le  (xs (i + 1)) (xs (i + 2)); omega
  by_cases hc : perC (xs (i + 1)) (xs (i + 2)) = 0
  · skip
    refine sv_aload_n (i := 1) (x := (sv_r G 14 0)) C dL_law_864 rfl rfl ?_
    refine sv_aload_n (i := 0) (x := b) C dL_law_865 rfl rfl ?_
    refine sv_iload (i := 4) (x := (nI i)) C dL_law_866 rfl ?_
    refine sv_iconst (v := nI 1) C dL_law_868 (by decide) ?_
    refine sv_iadd C dL_law_869 ?_
    refine sv_set (v' := .int (nI (i + 1))) (congrArg Value.int (nI_add _ _)) ?_
    refine sv_scrN C hX hbl hbA (by omega) (by omega) dL_law_870 ?_
    refine sv_aload_n (i := 0) (x := b) C dL_law_871 rfl rfl ?_
    refine sv_iload (i := 4) (x := (nI i)) C dL_law_872 rfl ?_
    refine sv_iconst (v := nI 2) C dL_law_874 (by decide) ?_
    refine sv_iadd C dL_law_875 ?_
    refine sv_set (v' := .int (nI (i + 2))) (congrArg Value.int (nI_add _ _)) ?_
    refine sv_scrN C hX hbl hbA (by omega) (by omega) dL_law_876 ?_
    refine sv_aload_n (i := 3) (x := (sv_r G 25 0)) C dL_law_877 rfl rfl ?_
    refine sw_call (as := [_, _, _, _]) (rest := []) C (met_L_person l G hl z M o (xs (i + 1)) (xs (i + 2)) _ hm hm7) kw_673 kw_674 kw_28 kc_person 4 ⟨by decide, by decide, by decide +kernel⟩ rfl ⟨Nat.le_of_ble_eq_true rfl, Nat.le_of_ble_eq_true rfl⟩ (Nat.le_of_ble_eq_true rfl) dL_law_878 ⟨by show k + 1 ≤ 614530; omega, by show n + 6 ≤ 7252513; omega⟩ ?_
    refine sv_riS (nI (perC (xs (i + 1)) (xs (i + 2)))) rfl ?_
    refine sv_istore (i := 5) C [(0, .ref b), (1, .ref (sv_r G 14 0)), (2, .ref (sv_r G 19 0)), (3, .ref (sv_r G 25 0)), (4, .int (nI i)), (5, .int (nI (perC (xs (i + 1)) (xs (i + 2)))))] dL_law_881 (by decide) rfl ?_
    refine sv_wd (fun H h9 => by unfold sw_R at h9; rw [if_pos hc] at h9; exact h9) ?_
    obtain ⟨M1, e1⟩ : ∃ M9 : sv_M, M9 = M := ⟨_, rfl⟩
    have hk1 : lk M M1 := by rw [e1]; exact lk_r
    have e10 : M1 10 = M 10 := by rw [e1]
    have e15 : M1 15 = M 15 := by rw [e1]
    refine sv_wd (Wd' := sv_W G z M1 (Int32.toInt64 _)) (fun H h9 => by rw [e1]; exact h9) ?_
    refine sv_aload_n (i := 2) (x := (sv_r G 19 0)) C dL_law_883 rfl rfl ?_
    refine sv_aload_n (i := 0) (x := b) C dL_law_884 rfl rfl ?_
    refine sv_iload (i := 4) (x := (nI i)) C dL_law_885 rfl ?_
    refine sv_iconst (v := nI 1) C dL_law_887 (by decide) ?_
    refine sv_iadd C dL_law_888 ?_
    refine sv_set (v' := .int (nI (i + 1))) (congrArg Value.int (nI_add _ _)) ?_
    refine sv_scrN C hX hbl hbA (by omega) (by omega) dL_law_889 ?_
    refine sv_aload_n (i := 0) (x := b) C dL_law_890 rfl rfl ?_
    refine sv_iload (i := 4) (x := (nI i)) C dL_law_891 rfl ?_
    refine sv_iconst (v := nI 2) C dL_law_893 (by decide) ?_
    refine sv_iadd C dL_law_894 ?_
    refine sv_set (v' := .int (nI (i + 2))) (congrArg Value.int (nI_add _ _)) ?_
    refine sv_scrN C hX hbl hbA (by omega) (by omega) dL_law_895 ?_
    refine sv_callV (as := [_, _]) (rest := []) C (met_R_person l G _ M1 _ (xs (i + 1)) (xs (i + 2)) _ (by rw [e10]; exact hmr) hm7) fX6_person kw_903 (sv_recv19 C) ⟨Nat.le_of_ble_eq_true rfl, Nat.le_of_ble_eq_true rfl⟩ (Nat.le_of_ble_eq_true rfl) dL_law_896 ⟨by show k + 1 ≤ 614530; omega, by show n + 6 ≤ 7252513; omega⟩ ?_
    refine sv_ri (fun v6 e6 => ?_)
    refine sv_wd (sv_eqW (rW_0 hc)) ?_
    have t2 : thr 0 M1 15 2 = 0 := thr_2
    have i2 : inv (Cc + 15) (B + 50400) (thr 0 M1) := inv_lk ⟨od, hd, n9, h⟩ (lk_t hk1 lk_thr) (by omega) (by omega)
    refine sv_istore (i := 6) C [(0, .ref b), (1, .ref (sv_r G 14 0)), (2, .ref (sv_r G 19 0)), (3, .ref (sv_r G 25 0)), (4, .int (nI i)), (5, .int (nI (perC (xs (i + 1)) (xs (i + 2))))), (6, .int v6)] dL_law_899 (by decide) rfl ?_
    refine sv_aload_n (i := 2) (x := (sv_r G 19 0)) C dL_law_901 rfl rfl ?_
    refine sv_callV (as := []) (rest := []) C (met_R_thrown l G _ _ _) fX6_thrown kw_762 (sv_recv19 C) ⟨Nat.le_of_ble_eq_true rfl, Nat.le_of_ble_eq_true rfl⟩ (Nat.le_of_ble_eq_true rfl) dL_law_902 ⟨by show k + 1 ≤ 614530; omega, by show n + 6 ≤ 7252513; omega⟩ ?_
    refine sv_riS (nI (perC (xs (i + 1)) (xs (i + 2)))) (t2.trans (by rw [hc]; rfl)) ?_
    refine sv_iload (i := 5) (x := (nI (perC (xs (i + 1)) (xs (i + 2))))) C dL_law_905 rfl ?_
    refine sv_icmp_eq C 912 dL_law_907 (by decide) (fun _ => ?_) (fun q9 => absurd rfl q9)
    refine sv_iload (i := 5) (x := (nI (perC (xs (i + 1)) (xs (i + 2))))) C dL_law_912 rfl ?_
    refine sv_if_ne C 929 dL_law_914 (by decide) (fun q9 => absurd (by rw [hc]; rfl) q9) (fun _ => ?_)
    refine sv_aload_n (i := 3) (x := (sv_r G 25 0)) C dL_law_917 rfl rfl ?_
    refine sv_iconst (v := 0) C dL_law_918 (by decide) ?_
    refine sv_lald C dL_law_919 ?_
    refine sv_iload (i := 6) (x := v6) C dL_law_920 rfl ?_
    refine sv_i2l C dL_law_922 ?_
    refine sv_lcmp C dL_law_923 ?_
    refine sv_if_eq C 929 dL_law_924 (by decide) (fun _ => ?_) (fun q9 => absurd ((lg_cmp_eq _ _).mpr (congrArg Int32.toInt64 (by rw [e6, rR_0 hc, e10]; exact fl_person h hc))) q9)
    refine sv_goto C 1316 dL_law_929 (by decide) ?_
    refine sv_sub (lv' := [(0, .ref b), (1, .ref (sv_r G 14 0)), (2, .ref (sv_r G 19 0)), (3, .ref (sv_r G 25 0)), (4, .int (nI i))]) rfl ?_
    exact sv_widen (by omega) (by omega) (kk _ _ _ i2)
  · skip
    refine sv_aload_n (i := 1) (x := (sv_r G 14 0)) C dL_law_864 rfl rfl ?_
    refine sv_aload_n (i := 0) (x := b) C dL_law_865 rfl rfl ?_
    refine sv_iload (i := 4) (x := (nI i)) C dL_law_866 rfl ?_
    refine sv_iconst (v := nI 1) C dL_law_868 (by decide) ?_
    refine sv_iadd C dL_law_869 ?_
    refine sv_set (v' := .int (nI (i + 1))) (congrArg Value.int (nI_add _ _)) ?_
    refine sv_scrN C hX hbl hbA (by omega) (by omega) dL_law_870 ?_
    refine sv_aload_n (i := 0) (x := b) C dL_law_871 rfl rfl ?_
    refine sv_iload (i := 4) (x := (nI i)) C dL_law_872 rfl ?_
    refine sv_iconst (v := nI 2) C dL_law_874 (by decide) ?_
    refine sv_iadd C dL_law_875 ?_
    refine sv_set (v' := .int (nI (i + 2))) (congrArg Value.int (nI_add _ _)) ?_
    refine sv_scrN C hX hbl hbA (by omega) (by omega) dL_law_876 ?_
    refine sv_aload_n (i := 3) (x := (sv_r G 25 0)) C dL_law_877 rfl rfl ?_
    refine sw_call (as := [_, _, _, _]) (rest := []) C (met_L_person l G hl z M o (xs (i + 1)) (xs (i + 2)) _ hm hm7) kw_673 kw_674 kw_28 kc_person 4 ⟨by decide, by decide, by decide +kernel⟩ rfl ⟨Nat.le_of_ble_eq_true rfl, Nat.le_of_ble_eq_true rfl⟩ (Nat.le_of_ble_eq_true rfl) dL_law_878 ⟨by show k + 1 ≤ 614530; omega, by show n + 6 ≤ 7252513; omega⟩ ?_
    refine sv_riS (nI (perC (xs (i + 1)) (xs (i + 2)))) rfl ?_
    refine sv_istore (i := 5) C [(0, .ref b), (1, .ref (sv_r G 14 0)), (2, .ref (sv_r G 19 0)), (3, .ref (sv_r G 25 0)), (4, .int (nI i)), (5, .int (nI (perC (xs (i + 1)) (xs (i + 2)))))] dL_law_881 (by decide) rfl ?_
    refine sv_wd (Wd' := sv_Wz G z M o) (fun H h9 => by unfold sw_R at h9; rw [if_neg hc] at h9; exact h9) ?_
    refine sv_exH (Wf := fun z1 => sv_W G z1 M o) (fun H h9 => by obtain ⟨z1, _, h9⟩ := h9; exact ⟨z1, h9⟩) (fun z1 => ?_)
    refine sv_aload_n (i := 2) (x := (sv_r G 19 0)) C dL_law_883 rfl rfl ?_
    refine sv_aload_n (i := 0) (x := b) C dL_law_884 rfl rfl ?_
    refine sv_iload (i := 4) (x := (nI i)) C dL_law_885 rfl ?_
    refine sv_iconst (v := nI 1) C dL_law_887 (by decide) ?_
    refine sv_iadd C dL_law_888 ?_
    refine sv_set (v' := .int (nI (i + 1))) (congrArg Value.int (nI_add _ _)) ?_
    refine sv_scrN C hX hbl hbA (by omega) (by omega) dL_law_889 ?_
    refine sv_aload_n (i := 0) (x := b) C dL_law_890 rfl rfl ?_
    refine sv_iload (i := 4) (x := (nI i)) C dL_law_891 rfl ?_
    refine sv_iconst (v := nI 2) C dL_law_893 (by decide) ?_
    refine sv_iadd C dL_law_894 ?_
    refine sv_set (v' := .int (nI (i + 2))) (congrArg Value.int (nI_add _ _)) ?_
    refine sv_scrN C hX hbl hbA (by omega) (by omega) dL_law_895 ?_
    refine sv_callV (as := [_, _]) (rest := []) C (met_R_person l G _ M _ (xs (i + 1)) (xs (i + 2)) _ hmr hm7) fX6_person kw_903 (sv_recv19 C) ⟨Nat.le_of_ble_eq_true rfl, Nat.le_of_ble_eq_true rfl⟩ (Nat.le_of_ble_eq_true rfl) dL_law_896 ⟨by show k + 1 ≤ 614530; omega, by show n + 6 ≤ 7252513; omega⟩ ?_
    refine sv_ri (fun v6 e6 => ?_)
    refine sv_wd (sv_eqW (rW_n hc)) ?_
    have i2 : inv (Cc + 15) (B + 50400) (thr (nI (perC (xs (i + 1)) (xs (i + 2)))) M) := inv_lk ⟨od, hd, n9, h⟩ lk_thr (by omega) (by omega)
    refine sv_istore (i := 6) C [(0, .ref b), (1, .ref (sv_r G 14 0)), (2, .ref (sv_r G 19 0)), (3, .ref (sv_r G 25 0)), (4, .int (nI i)), (5, .int (nI (perC (xs (i + 1)) (xs (i + 2))))), (6, .int v6)] dL_law_899 (by decide) rfl ?_
    refine sv_aload_n (i := 2) (x := (sv_r G 19 0)) C dL_law_901 rfl rfl ?_
    refine sv_callV (as := []) (rest := []) C (met_R_thrown l G _ _ _) fX6_thrown kw_762 (sv_recv19 C) ⟨Nat.le_of_ble_eq_true rfl, Nat.le_of_ble_eq_true rfl⟩ (Nat.le_of_ble_eq_true rfl) dL_law_902 ⟨by show k + 1 ≤ 614530; omega, by show n + 6 ≤ 7252513; omega⟩ ?_
    refine sv_riS (nI (perC (xs (i + 1)) (xs (i + 2)))) thr_2 ?_
    refine sv_iload (i := 5) (x := (nI (perC (xs (i + 1)) (xs (i + 2))))) C dL_law_905 rfl ?_
    refine sv_icmp_eq C 912 dL_law_907 (by decide) (fun _ => ?_) (fun q9 => absurd rfl q9)
    refine sv_iload (i := 5) (x := (nI (perC (xs (i + 1)) (xs (i + 2))))) C dL_law_912 rfl ?_
    refine sv_if_ne C 929 dL_law_914 (by decide) (fun _ => ?_) (fun q9 => absurd q9 (nI_ne0 (by omega) (by omega)))
    refine sv_goto C 1316 dL_law_929 (by decide) ?_
    refine sv_sub (lv' := [(0, .ref b), (1, .ref (sv_r G 14 0)), (2, .ref (sv_r G 19 0)), (3, .ref (sv_r G 25 0)), (4, .int (nI i))]) rfl ?_
    exact sv_widen (by omega) (by omega) (kk _ _ _ i2)
set_option maxHeartbeats 4000000 in
set_option maxRecDepth 100000 in
theorem lc_count {p : Program} {l : Launch} {e : Env} {s : State} {m : MethodId} {args : Array Value} {below : List Frame} {meth : Method} {c : Code} {k n : Nat} {Q : State → Prop} {G : sv_G} {b L : Nat} {xs : Nat → Int32} {z : Nat} {M : sv_M} {o : Int64} {i Cc B : Nat} (C : sv_C p l s m args meth c code 9 RL G) (hl : l.stackTraces = false) (hX : va_X b L xs s s.heap) (hbl : b < s.heap.size) (hbA : ¬ sv_A G b) (hL : L ≤ 1536) (hi : i + 2 < L) (hCc : Cc ≤ 7680) (hB : B ≤ 25804800) (hinv : inv Cc B M) (hk : k ≤ 3000) (hn : n ≤ 20000) (kk : ∀ z9 M9 o9, inv (Cc + 15) (B + 50400) M9 → sv_V p l e room_1 s m args below meth c 9 G Q (k + 4) (n + 24) (sv_W G z9 M9 o9) 1316 [(0, .ref b), (1, .ref (sv_r G 14 0)), (2, .ref (sv_r G 19 0)), (3, .ref (sv_r G 25 0)), (4, .int (nI i))] []) : sv_V p l e room_1 s m args below meth c 9 G Q k n (sv_W G z M o) 932 [(0, .ref b), (1, .ref (sv_r G 14 0)), (2, .ref (sv_r G 19 0)), (3, .ref (sv_r G 25 0)), (4, .int (nI i))] [] := by
  obtain ⟨od, hd, n9, h⟩ := hinv
  obtain ⟨hm, hm7, hmr, b6, b7, hv, he, hr⟩ := inw_m h
  obtain ⟨hod, hd6, hn60, h0, h1, hkp, hn9, hn9r, htx, hst, hhs⟩ := id h
  have hcl : inC 11 (xs (i + 1)) ≤ 3 := by have h9 := inC_le  11 (xs (i + 1)); omega
  by_cases hc : inC 11 (xs (i + 1)) = 0
  · skip
    refine sv_aload_n (i := 1) (x := (sv_r G 14 0)) C dL_law_932 rfl rfl ?_
    refine sv_aload_n (i := 0) (x := b) C dL_law_933 rfl rfl ?_
    refine sv_iload (i := 4) (x := (nI i)) C dL_law_934 rfl ?_
    refine sv_iconst (v := nI 1) C dL_law_936 (by decide) ?_
    refine sv_iadd C dL_law_937 ?_
    refine sv_set (v' := .int (nI (i + 1))) (congrArg Value.int (nI_add _ _)) ?_
    refine sv_scrN C hX hbl hbA (by omega) (by omega) dL_law_938 ?_
    refine sv_aload_n (i := 3) (x := (sv_r G 25 0)) C dL_law_939 rfl rfl ?_
    refine sw_call (as := [_, _, _]) (rest := []) C (met_L_count l G hl z M o (xs (i + 1)) hd h1 b6 b7) kw_681 kw_682 kw_28 kc_count 3 ⟨by decide, by decide, by decide +kernel⟩ rfl ⟨Nat.le_of_ble_eq_true rfl, Nat.le_of_ble_eq_true rfl⟩ (Nat.le_of_ble_eq_true rfl) dL_law_940 ⟨by show k + 1 ≤ 614530; omega, by show n + 6 ≤ 7252513; omega⟩ ?_
    refine sv_riS (nI (inC 11 (xs (i + 1)))) rfl ?_
    refine sv_istore (i := 5) C [(0, .ref b), (1, .ref (sv_r G 14 0)), (2, .ref (sv_r G 19 0)), (3, .ref (sv_r G 25 0)), (4, .int (nI i)), (5, .int (nI (inC 11 (xs (i + 1)))))] dL_law_943 (by decide) rfl ?_
    refine sv_wd (fun H h9 => by unfold sw_R at h9; rw [if_pos hc] at h9; exact h9) ?_
    obtain ⟨M1, e1⟩ : ∃ M9 : sv_M, M9 = M := ⟨_, rfl⟩
    have hk1 : lk M M1 := by rw [e1]; exact lk_r
    have e10 : M1 10 = M 10 := by rw [e1]
    have e15 : M1 15 = M 15 := by rw [e1]
    refine sv_wd (Wd' := sv_W G z M1 (Int32.toInt64 _)) (fun H h9 => by rw [e1]; exact h9) ?_
    refine sv_aload_n (i := 2) (x := (sv_r G 19 0)) C dL_law_945 rfl rfl ?_
    refine sv_aload_n (i := 0) (x := b) C dL_law_946 rfl rfl ?_
    refine sv_iload (i := 4) (x := (nI i)) C dL_law_947 rfl ?_
    refine sv_iconst (v := nI 1) C dL_law_949 (by decide) ?_
    refine sv_iadd C dL_law_950 ?_
    refine sv_set (v' := .int (nI (i + 1))) (congrArg Value.int (nI_add _ _)) ?_
    refine sv_scrN C hX hbl hbA (by omega) (by omega) dL_law_951 ?_
    refine sv_callV (as := [_]) (rest := []) C (met_R_count l G _ M1 _ (xs (i + 1)) hd (by rw [e15]; exact hkp)) fX6_count kw_907 (sv_recv19 C) ⟨Nat.le_of_ble_eq_true rfl, Nat.le_of_ble_eq_true rfl⟩ (Nat.le_of_ble_eq_true rfl) dL_law_952 ⟨by show k + 1 ≤ 614530; omega, by show n + 6 ≤ 7252513; omega⟩ ?_
    refine sv_ri (fun v6 e6 => ?_)
    refine sv_wd (sv_eqW (rW_0 hc)) ?_
    have t2 : thr 0 M1 15 2 = 0 := thr_2
    have i2 : inv (Cc + 15) (B + 50400) (thr 0 M1) := inv_lk ⟨od, hd, n9, h⟩ (lk_t hk1 lk_thr) (by omega) (by omega)
    refine sv_istore (i := 6) C [(0, .ref b), (1, .ref (sv_r G 14 0)), (2, .ref (sv_r G 19 0)), (3, .ref (sv_r G 25 0)), (4, .int (nI i)), (5, .int (nI (inC 11 (xs (i + 1))))), (6, .int v6)] dL_law_955 (by decide) rfl ?_
    refine sv_aload_n (i := 2) (x := (sv_r G 19 0)) C dL_law_957 rfl rfl ?_
    refine sv_callV (as := []) (rest := []) C (met_R_thrown l G _ _ _) fX6_thrown kw_762 (sv_recv19 C) ⟨Nat.le_of_ble_eq_true rfl, Nat.le_of_ble_eq_true rfl⟩ (Nat.le_of_ble_eq_true rfl) dL_law_958 ⟨by show k + 1 ≤ 614530; omega, by show n + 6 ≤ 7252513; omega⟩ ?_
    refine sv_riS (nI (inC 11 (xs (i + 1)))) (t2.trans (by rw [hc]; rfl)) ?_
    refine sv_iload (i := 5) (x := (nI (inC 11 (xs (i + 1))))) C dL_law_961 rfl ?_
    refine sv_icmp_eq C 968 dL_law_963 (by decide) (fun _ => ?_) (fun q9 => absurd rfl q9)
    refine sv_iload (i := 5) (x := (nI (inC 11 (xs (i + 1))))) C dL_law_968 rfl ?_
    refine sv_if_ne C 985 dL_law_970 (by decide) (fun q9 => absurd (by rw [hc]; rfl) q9) (fun _ => ?_)
    refine sv_aload_n (i := 3) (x := (sv_r G 25 0)) C dL_law_973 rfl rfl ?_
    refine sv_iconst (v := 0) C dL_law_974 (by decide) ?_
    refine sv_lald C dL_law_975 ?_
    refine sv_iload (i := 6) (x := v6) C dL_law_976 rfl ?_
    refine sv_i2l C dL_law_978 ?_
    refine sv_lcmp C dL_law_979 ?_
    refine sv_if_eq C 985 dL_law_980 (by decide) (fun _ => ?_) (fun q9 => absurd ((lg_cmp_eq _ _).mpr (congrArg Int32.toInt64 (by rw [e6, rR_0 hc, e10]; exact fl_count h))) q9)
    refine sv_goto C 1316 dL_law_985 (by decide) ?_
    refine sv_sub (lv' := [(0, .ref b), (1, .ref (sv_r G 14 0)), (2, .ref (sv_r G 19 0)), (3, .ref (sv_r G 25 0)), (4, .int (nI i))]) rfl ?_
    exact sv_widen (by omega) (by omega) (kk _ _ _ i2)
  · skip
    refine sv_aload_n (i := 1) (x := (sv_r G 14 0)) C dL_law_932 rfl rfl ?_
    refine sv_aload_n (i := 0) (x := b) C dL_law_933 rfl rfl ?_
    refine sv_iload (i := 4) (x := (nI i)) C dL_law_934 rfl ?_
    refine sv_iconst (v := nI 1) C dL_law_936 (by decide) ?_
    refine sv_iadd C dL_law_937 ?_
    refine sv_set (v' := .int (nI (i + 1))) (congrArg Value.int (nI_add _ _)) ?_
    refine sv_scrN C hX hbl hbA (by omega) (by omega) dL_law_938 ?_
    refine sv_aload_n (i := 3) (x := (sv_r G 25 0)) C dL_law_939 rfl rfl ?_
    refine sw_call (as := [_, _, _]) (rest := []) C (met_L_count l G hl z M o (xs (i + 1)) hd h1 b6 b7) kw_681 kw_682 kw_28 kc_count 3 ⟨by decide, by decide, by decide +kernel⟩ rfl ⟨Nat.le_of_ble_eq_true rfl, Nat.le_of_ble_eq_true rfl⟩ (Nat.le_of_ble_eq_true rfl) dL_law_940 ⟨by show k + 1 ≤ 614530; omega, by show n + 6 ≤ 7252513; omega⟩ ?_
    refine sv_riS (nI (inC 11 (xs (i + 1)))) rfl ?_
    refine sv_istore (i := 5) C [(0, .ref b), (1, .ref (sv_r G 14 0)), (2, .ref (sv_r G 19 0)), (3, .ref (sv_r G 25 0)), (4, .int (nI i)), (5, .int (nI (inC 11 (xs (i + 1)))))] dL_law_943 (by decide) rfl ?_
    refine sv_wd (Wd' := sv_Wz G z M o) (fun H h9 => by unfold sw_R at h9; rw [if_neg hc] at h9; exact h9) ?_
    refine sv_exH (Wf := fun z1 => sv_W G z1 M o) (fun H h9 => by obtain ⟨z1, _, h9⟩ := h9; exact ⟨z1, h9⟩) (fun z1 => ?_)
    refine sv_aload_n (i := 2) (x := (sv_r G 19 0)) C dL_law_945 rfl rfl ?_
    refine sv_aload_n (i := 0) (x := b) C dL_law_946 rfl rfl ?_
    refine sv_iload (i := 4) (x := (nI i)) C dL_law_947 rfl ?_
    refine sv_iconst (v := nI 1) C dL_law_949 (by decide) ?_
    refine sv_iadd C dL_law_950 ?_
    refine sv_set (v' := .int (nI (i + 1))) (congrArg Value.int (nI_add _ _)) ?_
    refine sv_scrN C hX hbl hbA (by omega) (by omega) dL_law_951 ?_
    refine sv_callV (as := [_]) (rest := []) C (met_R_count l G _ M _ (xs (i + 1)) hd hkp) fX6_count kw_907 (sv_recv19 C) ⟨Nat.le_of_ble_eq_true rfl, Nat.le_of_ble_eq_true rfl⟩ (Nat.le_of_ble_eq_true rfl) dL_law_952 ⟨by show k + 1 ≤ 614530; omega, by show n + 6 ≤ 7252513; omega⟩ ?_
    refine sv_ri (fun v6 e6 => ?_)
    refine sv_wd (sv_eqW (rW_n hc)) ?_
    have i2 : inv (Cc + 15) (B + 50400) (thr (nI (inC 11 (xs (i + 1)))) M) := inv_lk ⟨od, hd, n9, h⟩ lk_thr (by omega) (by omega)
    refine sv_istore (i := 6) C [(0, .ref b), (1, .ref (sv_r G 14 0)), (2, .ref (sv_r G 19 0)), (3, .ref (sv_r G 25 0)), (4, .int (nI i)), (5, .int (nI (inC 11 (xs (i + 1))))), (6, .int v6)] dL_law_955 (by decide) rfl ?_
    refine sv_aload_n (i := 2) (x := (sv_r G 19 0)) C dL_law_957 rfl rfl ?_
    refine sv_callV (as := []) (rest := []) C (met_R_thrown l G _ _ _) fX6_thrown kw_762 (sv_recv19 C) ⟨Nat.le_of_ble_eq_true rfl, Nat.le_of_ble_eq_true rfl⟩ (Nat.le_of_ble_eq_true rfl) dL_law_958 ⟨by show k + 1 ≤ 614530; omega, by show n + 6 ≤ 7252513; omega⟩ ?_
    refine sv_riS (nI (inC 11 (xs (i + 1)))) thr_2 ?_
    refine sv_iload (i := 5) (x := (nI (inC 11 (xs (i + 1))))) C dL_law_961 rfl ?_
    refine sv_icmp_eq C 968 dL_law_963 (by decide) (fun _ => ?_) (fun q9 => absurd rfl q9)
    refine sv_iload (i := 5) (x := (nI (inC 11 (xs (i + 1))))) C dL_law_968 rfl ?_
    refine sv_if_ne C 985 dL_law_970 (by decide) (fun _ => ?_) (fun q9 => absurd q9 (nI_ne0 (by omega) (by omega)))
    refine sv_goto C 1316 dL_law_985 (by decide) ?_
    refine sv_sub (lv' := [(0, .ref b), (1, .ref (sv_r G 14 0)), (2, .ref (sv_r G 19 0)), (3, .ref (sv_r G 25 0)), (4, .int (nI i))]) rfl ?_
    exact sv_widen (by omega) (by omega) (kk _ _ _ i2)
set_option maxHeartbeats 4000000 in
set_option maxRecDepth 100000 in
theorem lc_setting {p : Program} {l : Launch} {e : Env} {s : State} {m : MethodId} {args : Array Value} {below : List Frame} {meth : Method} {c : Code} {k n : Nat} {Q : State → Prop} {G : sv_G} {b L : Nat} {xs : Nat → Int32} {z : Nat} {M : sv_M} {o : Int64} {i Cc B : Nat} (C : sv_C p l s m args meth c code 9 RL G) (hl : l.stackTraces = false) (hX : va_X b L xs s s.heap) (hbl : b < s.heap.size) (hbA : ¬ sv_A G b) (hL : L ≤ 1536) (hi : i + 2 < L) (hCc : Cc ≤ 7680) (hB : B ≤ 25804800) (hinv : inv Cc B M) (hk : k ≤ 3000) (hn : n ≤ 20000) (kk : ∀ z9 M9 o9, inv (Cc + 15) (B + 50400) M9 → sv_V p l e room_1 s m args below meth c 9 G Q (k + 4) (n + 24) (sv_W G z9 M9 o9) 1316 [(0, .ref b), (1, .ref (sv_r G 14 0)), (2, .ref (sv_r G 19 0)), (3, .ref (sv_r G 25 0)), (4, .int (nI i))] []) : sv_V p l e room_1 s m args below meth c 9 G Q k n (sv_W G z M o) 988 [(0, .ref b), (1, .ref (sv_r G 14 0)), (2, .ref (sv_r G 19 0)), (3, .ref (sv_r G 25 0)), (4, .int (nI i))] [] := by
  obtain ⟨od, hd, n9, h⟩ := hinv
  obtain ⟨hm, hm7, hmr, b6, b7, hv, he, hr⟩ := inw_m h
  obtain ⟨hod, hd6, hn60, h0, h1, hkp, hn9, hn9r, htx, hst, hhs⟩ := id h
  have hcl : inC 4 (xs (i + 1)) ≤ 3 := by have h9 := inC_le  4 (xs (i + 1)); omega
  by_cases hc : inC 4 (xs (i + 1)) = 0
  · skip
    refine sv_aload_n (i := 1) (x := (sv_r G 14 0)) C dL_law_988 rfl rfl ?_
    refine sv_aload_n (i := 0) (x := b) C dL_law_989 rfl rfl ?_
    refine sv_iload (i := 4) (x := (nI i)) C dL_law_990 rfl ?_
    refine sv_iconst (v := nI 1) C dL_law_992 (by decide) ?_
    refine sv_iadd C dL_law_993 ?_
    refine sv_set (v' := .int (nI (i + 1))) (congrArg Value.int (nI_add _ _)) ?_
    refine sv_scrN C hX hbl hbA (by omega) (by omega) dL_law_994 ?_
    refine sv_aload_n (i := 3) (x := (sv_r G 25 0)) C dL_law_995 rfl rfl ?_
    refine sw_call (as := [_, _, _]) (rest := []) C (met_L_setting l G hl z M o (xs (i + 1))) kw_688 kw_689 kw_28 kc_setting 3 ⟨by decide, by decide, by decide +kernel⟩ rfl ⟨Nat.le_of_ble_eq_true rfl, Nat.le_of_ble_eq_true rfl⟩ (Nat.le_of_ble_eq_true rfl) dL_law_996 ⟨by show k + 1 ≤ 614530; omega, by show n + 6 ≤ 7252513; omega⟩ ?_
    refine sv_riS (nI (inC 4 (xs (i + 1)))) rfl ?_
    refine sv_istore (i := 5) C [(0, .ref b), (1, .ref (sv_r G 14 0)), (2, .ref (sv_r G 19 0)), (3, .ref (sv_r G 25 0)), (4, .int (nI i)), (5, .int (nI (inC 4 (xs (i + 1)))))] dL_law_999 (by decide) rfl ?_
    refine sv_wd (fun H h9 => by unfold sw_R at h9; rw [if_pos hc] at h9; exact h9) ?_
    obtain ⟨M1, e1⟩ : ∃ M9 : sv_M, M9 = M := ⟨_, rfl⟩
    have hk1 : lk M M1 := by rw [e1]; exact lk_r
    have e10 : M1 10 = M 10 := by rw [e1]
    have e15 : M1 15 = M 15 := by rw [e1]
    refine sv_wd (Wd' := sv_W G z M1 (Int32.toInt64 _)) (fun H h9 => by rw [e1]; exact h9) ?_
    refine sv_aload_n (i := 2) (x := (sv_r G 19 0)) C dL_law_1001 rfl rfl ?_
    refine sv_aload_n (i := 0) (x := b) C dL_law_1002 rfl rfl ?_
    refine sv_iload (i := 4) (x := (nI i)) C dL_law_1003 rfl ?_
    refine sv_iconst (v := nI 1) C dL_law_1005 (by decide) ?_
    refine sv_iadd C dL_law_1006 ?_
    refine sv_set (v' := .int (nI (i + 1))) (congrArg Value.int (nI_add _ _)) ?_
    refine sv_scrN C hX hbl hbA (by omega) (by omega) dL_law_1007 ?_
    refine sv_callV (as := [_]) (rest := []) C (met_R_setting l G _ M1 _ (xs (i + 1))) fX6_setting kw_918 (sv_recv19 C) ⟨Nat.le_of_ble_eq_true rfl, Nat.le_of_ble_eq_true rfl⟩ (Nat.le_of_ble_eq_true rfl) dL_law_1008 ⟨by show k + 1 ≤ 614530; omega, by show n + 6 ≤ 7252513; omega⟩ ?_
    refine sv_ri (fun v6 e6 => ?_)
    refine sv_wd (sv_eqW (rW_0 hc)) ?_
    have t2 : thr 0 M1 15 2 = 0 := thr_2
    have i2 : inv (Cc + 15) (B + 50400) (thr 0 M1) := inv_lk ⟨od, hd, n9, h⟩ (lk_t hk1 lk_thr) (by omega) (by omega)
    refine sv_istore (i := 6) C [(0, .ref b), (1, .ref (sv_r G 14 0)), (2, .ref (sv_r G 19 0)), (3, .ref (sv_r G 25 0)), (4, .int (nI i)), (5, .int (nI (inC 4 (xs (i + 1))))), (6, .int v6)] dL_law_1011 (by decide) rfl ?_
    refine sv_aload_n (i := 2) (x := (sv_r G 19 0)) C dL_law_1013 rfl rfl ?_
    refine sv_callV (as := []) (rest := []) C (met_R_thrown l G _ _ _) fX6_thrown kw_762 (sv_recv19 C) ⟨Nat.le_of_ble_eq_true rfl, Nat.le_of_ble_eq_true rfl⟩ (Nat.le_of_ble_eq_true rfl) dL_law_1014 ⟨by show k + 1 ≤ 614530; omega, by show n + 6 ≤ 7252513; omega⟩ ?_
    refine sv_riS (nI (inC 4 (xs (i + 1)))) (t2.trans (by rw [hc]; rfl)) ?_
    refine sv_iload (i := 5) (x := (nI (inC 4 (xs (i + 1))))) C dL_law_1017 rfl ?_
    refine sv_icmp_eq C 1024 dL_law_1019 (by decide) (fun _ => ?_) (fun q9 => absurd rfl q9)
    refine sv_iload (i := 5) (x := (nI (inC 4 (xs (i + 1))))) C dL_law_1024 rfl ?_
    refine sv_if_ne C 1041 dL_law_1026 (by decide) (fun q9 => absurd (by rw [hc]; rfl) q9) (fun _ => ?_)
    refine sv_aload_n (i := 3) (x := (sv_r G 25 0)) C dL_law_1029 rfl rfl ?_
    refine sv_iconst (v := 0) C dL_law_1030 (by decide) ?_
    refine sv_lald C dL_law_1031 ?_
    refine sv_iload (i := 6) (x := v6) C dL_law_1032 rfl ?_
    refine sv_i2l C dL_law_1034 ?_
    refine sv_lcmp C dL_law_1035 ?_
    refine sv_if_eq C 1041 dL_law_1036 (by decide) (fun _ => ?_) (fun q9 => absurd ((lg_cmp_eq _ _).mpr (congrArg Int32.toInt64 (by rw [e6, rR_0 hc, e10]; exact fl_setting h hc))) q9)
    refine sv_goto C 1316 dL_law_1041 (by decide) ?_
    refine sv_sub (lv' := [(0, .ref b), (1, .ref (sv_r G 14 0)), (2, .ref (sv_r G 19 0)), (3, .ref (sv_r G 25 0)), (4, .int (nI i))]) rfl ?_
    exact sv_widen (by omega) (by omega) (kk _ _ _ i2)
  · skip
    refine sv_aload_n (i := 1) (x := (sv_r G 14 0)) C dL_law_988 rfl rfl ?_
    refine sv_aload_n (i := 0) (x := b) C dL_law_989 rfl rfl ?_
    refine sv_iload (i := 4) (x := (nI i)) C dL_law_990 rfl ?_
    refine sv_iconst (v := nI 1) C dL_law_992 (by decide) ?_
    refine sv_iadd C dL_law_993 ?_
    refine sv_set (v' := .int (nI (i + 1))) (congrArg Value.int (nI_add _ _)) ?_
    refine sv_scrN C hX hbl hbA (by omega) (by omega) dL_law_994 ?_
    refine sv_aload_n (i := 3) (x := (sv_r G 25 0)) C dL_law_995 rfl rfl ?_
    refine sw_call (as := [_, _, _]) (rest := []) C (met_L_setting l G hl z M o (xs (i + 1))) kw_688 kw_689 kw_28 kc_setting 3 ⟨by decide, by decide, by decide +kernel⟩ rfl ⟨Nat.le_of_ble_eq_true rfl, Nat.le_of_ble_eq_true rfl⟩ (Nat.le_of_ble_eq_true rfl) dL_law_996 ⟨by show k + 1 ≤ 614530; omega, by show n + 6 ≤ 7252513; omega⟩ ?_
    refine sv_riS (nI (inC 4 (xs (i + 1)))) rfl ?_
    refine sv_istore (i := 5) C [(0, .ref b), (1, .ref (sv_r G 14 0)), (2, .ref (sv_r G 19 0)), (3, .ref (sv_r G 25 0)), (4, .int (nI i)), (5, .int (nI (inC 4 (xs (i + 1)))))] dL_law_999 (by decide) rfl ?_
    refine sv_wd (Wd' := sv_Wz G z M o) (fun H h9 => by unfold sw_R at h9; rw [if_neg hc] at h9; exact h9) ?_
    refine sv_exH (Wf := fun z1 => sv_W G z1 M o) (fun H h9 => by obtain ⟨z1, _, h9⟩ := h9; exact ⟨z1, h9⟩) (fun z1 => ?_)
    refine sv_aload_n (i := 2) (x := (sv_r G 19 0)) C dL_law_1001 rfl rfl ?_
    refine sv_aload_n (i := 0) (x := b) C dL_law_1002 rfl rfl ?_
    refine sv_iload (i := 4) (x := (nI i)) C dL_law_1003 rfl ?_
    refine sv_iconst (v := nI 1) C dL_law_1005 (by decide) ?_
    refine sv_iadd C dL_law_1006 ?_
    refine sv_set (v' := .int (nI (i + 1))) (congrArg Value.int (nI_add _ _)) ?_
    refine sv_scrN C hX hbl hbA (by omega) (by omega) dL_law_1007 ?_
    refine sv_callV (as := [_]) (rest := []) C (met_R_setting l G _ M _ (xs (i + 1))) fX6_setting kw_918 (sv_recv19 C) ⟨Nat.le_of_ble_eq_true rfl, Nat.le_of_ble_eq_true rfl⟩ (Nat.le_of_ble_eq_true rfl) dL_law_1008 ⟨by show k + 1 ≤ 614530; omega, by show n + 6 ≤ 7252513; omega⟩ ?_
    refine sv_ri (fun v6 e6 => ?_)
    refine sv_wd (sv_eqW (rW_n hc)) ?_
    have i2 : inv (Cc + 15) (B + 50400) (thr (nI (inC 4 (xs (i + 1)))) M) := inv_lk ⟨od, hd, n9, h⟩ lk_thr (by omega) (by omega)
    refine sv_istore (i := 6) C [(0, .ref b), (1, .ref (sv_r G 14 0)), (2, .ref (sv_r G 19 0)), (3, .ref (sv_r G 25 0)), (4, .int (nI i)), (5, .int (nI (inC 4 (xs (i + 1))))), (6, .int v6)] dL_law_1011 (by decide) rfl ?_
    refine sv_aload_n (i := 2) (x := (sv_r G 19 0)) C dL_law_1013 rfl rfl ?_
    refine sv_callV (as := []) (rest := []) C (met_R_thrown l G _ _ _) fX6_thrown kw_762 (sv_recv19 C) ⟨Nat.le_of_ble_eq_true rfl, Nat.le_of_ble_eq_true rfl⟩ (Nat.le_of_ble_eq_true rfl) dL_law_1014 ⟨by show k + 1 ≤ 614530; omega, by show n + 6 ≤ 7252513; omega⟩ ?_
    refine sv_riS (nI (inC 4 (xs (i + 1)))) thr_2 ?_
    refine sv_iload (i := 5) (x := (nI (inC 4 (xs (i + 1))))) C dL_law_1017 rfl ?_
    refine sv_icmp_eq C 1024 dL_law_1019 (by decide) (fun _ => ?_) (fun q9 => absurd rfl q9)
    refine sv_iload (i := 5) (x := (nI (inC 4 (xs (i + 1))))) C dL_law_1024 rfl ?_
    refine sv_if_ne C 1041 dL_law_1026 (by decide) (fun _ => ?_) (fun q9 => absurd q9 (nI_ne0 (by omega) (by omega)))
    refine sv_goto C 1316 dL_law_1041 (by decide) ?_
    refine sv_sub (lv' := [(0, .ref b), (1, .ref (sv_r G 14 0)), (2, .ref (sv_r G 19 0)), (3, .ref (sv_r G 25 0)), (4, .int (nI i))]) rfl ?_
    exact sv_widen (by omega) (by omega) (kk _ _ _ i2)
set_option maxHeartbeats 4000000 in
set_option maxRecDepth 100000 in
theorem lc_ifPassed {p : Program} {l : Launch} {e : Env} {s : State} {m : MethodId} {args : Array Value} {below : List Frame} {meth : Method} {c : Code} {k n : Nat} {Q : State → Prop} {G : sv_G} {b L : Nat} {xs : Nat → Int32} {z : Nat} {M : sv_M} {o : Int64} {i Cc B : Nat} (C : sv_C p l s m args meth c code 9 RL G) (hl : l.stackTraces = false) (hX : va_X b L xs s s.heap) (hbl : b < s.heap.size) (hbA : ¬ sv_A G b) (hL : L ≤ 1536) (hi : i + 2 < L) (hCc : Cc ≤ 7680) (hB : B ≤ 25804800) (hinv : inv Cc B M) (hk : k ≤ 3000) (hn : n ≤ 20000) (kk : ∀ z9 M9 o9, inv (Cc + 15) (B + 50400) M9 → sv_V p l e room_1 s m args below meth c 9 G Q (k + 4) (n + 24) (sv_W G z9 M9 o9) 1316 [(0, .ref b), (1, .ref (sv_r G 14 0)), (2, .ref (sv_r G 19 0)), (3, .ref (sv_r G 25 0)), (4, .int (nI i))] []) : sv_V p l e room_1 s m args below meth c 9 G Q k n (sv_W G z M o) 1044 [(0, .ref b), (1, .ref (sv_r G 14 0)), (2, .ref (sv_r G 19 0)), (3, .ref (sv_r G 25 0)), (4, .int (nI i))] [] := by
  obtain ⟨od, hd, n9, h⟩ := hinv
  obtain ⟨hm, hm7, hmr, b6, b7, hv, he, hr⟩ := inw_m h
  obtain ⟨hod, hd6, hn60, h0, h1, hkp, hn9, hn9r, htx, hst, hhs⟩ := id h
  have hcl : ifpC (xs (i + 1)) (xs (i + 2)) ≤ 3 := by have h9 := ifpC_le  (xs (i + 1)) (xs (i + 2)); omega
  by_cases hc : ifpC (xs (i + 1)) (xs (i + 2)) = 0
  · skip
    refine sv_aload_n (i := 1) (x := (sv_r G 14 0)) C dL_law_1044 rfl rfl ?_
    refine sv_aload_n (i := 0) (x := b) C dL_law_1045 rfl rfl ?_
    refine sv_iload (i := 4) (x := (nI i)) C dL_law_1046 rfl ?_
    refine sv_iconst (v := nI 1) C dL_law_1048 (by decide) ?_
    refine sv_iadd C dL_law_1049 ?_
    refine sv_set (v' := .int (nI (i + 1))) (congrArg Value.int (nI_add _ _)) ?_
    refine sv_scrN C hX hbl hbA (by omega) (by omega) dL_law_1050 ?_
    refine sv_aload_n (i := 0) (x := b) C dL_law_1051 rfl rfl ?_
    refine sv_iload (i := 4) (x := (nI i)) C dL_law_1052 rfl ?_
    refine sv_iconst (v := nI 2) C dL_law_1054 (by decide) ?_
    refine sv_iadd C dL_law_1055 ?_
    refine sv_set (v' := .int (nI (i + 2))) (congrArg Value.int (nI_add _ _)) ?_
    refine sv_scrN C hX hbl hbA (by omega) (by omega) dL_law_1056 ?_
    refine sv_aload_n (i := 3) (x := (sv_r G 25 0)) C dL_law_1057 rfl rfl ?_
    refine sw_call (as := [_, _, _, _]) (rest := []) C (met_L_ifPassed l G hl z M o (xs (i + 1)) (xs (i + 2)) b6 b7 hv) kw_695 kw_696 kw_28 kc_ifPassed 4 ⟨by decide, by decide, by decide +kernel⟩ rfl ⟨Nat.le_of_ble_eq_true rfl, Nat.le_of_ble_eq_true rfl⟩ (Nat.le_of_ble_eq_true rfl) dL_law_1058 ⟨by show k + 2 ≤ 614530; omega, by show n + 12 ≤ 7252513; omega⟩ ?_
    refine sv_riS (nI (ifpC (xs (i + 1)) (xs (i + 2)))) rfl ?_
    refine sv_istore (i := 5) C [(0, .ref b), (1, .ref (sv_r G 14 0)), (2, .ref (sv_r G 19 0)), (3, .ref (sv_r G 25 0)), (4, .int (nI i)), (5, .int (nI (ifpC (xs (i + 1)) (xs (i + 2)))))] dL_law_1061 (by decide) rfl ?_
    refine sv_wd (Wd' := sv_W1 G z M (Int32.toInt64 _)) (fun H h9 => by unfold sw_R at h9; rw [if_pos hc] at h9; exact h9) ?_
    refine sv_exW (fun y1 => ?_)
    obtain ⟨M1, e1⟩ : ∃ M9 : sv_M, M9 = sv_u M 1 y1 := ⟨_, rfl⟩
    rw [← e1]
    have e10 : M1 10 = M 10 := by rw [e1]; exact sv_un (by decide)
    have e15 : M1 15 = M 15 := by rw [e1]; exact sv_un (by decide)
    have hk1 : lk M M1 := by rw [e1]; exact lk_1
    refine sv_aload_n (i := 2) (x := (sv_r G 19 0)) C dL_law_1063 rfl rfl ?_
    refine sv_aload_n (i := 0) (x := b) C dL_law_1064 rfl rfl ?_
    refine sv_iload (i := 4) (x := (nI i)) C dL_law_1065 rfl ?_
    refine sv_iconst (v := nI 1) C dL_law_1067 (by decide) ?_
    refine sv_iadd C dL_law_1068 ?_
    refine sv_set (v' := .int (nI (i + 1))) (congrArg Value.int (nI_add _ _)) ?_
    refine sv_scrN C hX hbl hbA (by omega) (by omega) dL_law_1069 ?_
    refine sv_aload_n (i := 0) (x := b) C dL_law_1070 rfl rfl ?_
    refine sv_iload (i := 4) (x := (nI i)) C dL_law_1071 rfl ?_
    refine sv_iconst (v := nI 2) C dL_law_1073 (by decide) ?_
    refine sv_iadd C dL_law_1074 ?_
    refine sv_set (v' := .int (nI (i + 2))) (congrArg Value.int (nI_add _ _)) ?_
    refine sv_scrN C hX hbl hbA (by omega) (by omega) dL_law_1075 ?_
    refine sv_callV (as := [_, _]) (rest := []) C (met_R_ifPassed l G _ M1 _ (xs (i + 1)) (xs (i + 2)) (outv (M 0) (xs (i + 1)).toNatClampNeg (xs (i + 2)).toNatClampNeg) (fun _ => by rw [e10]; exact fl_ifp h)) fX6_ifPassed kw_922 (sv_recv19 C) ⟨Nat.le_of_ble_eq_true rfl, Nat.le_of_ble_eq_true rfl⟩ (Nat.le_of_ble_eq_true rfl) dL_law_1076 ⟨by show k + 2 ≤ 614530; omega, by show n + 12 ≤ 7252513; omega⟩ ?_
    refine sv_ri (fun v6 e6 => ?_)
    refine sv_exW2 (fun y2 a2 c2 => ?_)
    obtain ⟨M2, e2⟩ : ∃ M9 : sv_M, M9 = sv_u (sv_u (thr (nI (ifpC (xs (i + 1)) (xs (i + 2)))) M1) 15 (upd (upd ((thr (nI (ifpC (xs (i + 1)) (xs (i + 2)))) M1) 15) 6 a2) 7 c2)) 11 y2 := ⟨_, rfl⟩
    rw [← e2]
    have t2 : M2 15 2 = nI (ifpC (xs (i + 1)) (xs (i + 2))) := by rw [e2, W2_2]; exact thr_2
    have i2 : inv (Cc + 15) (B + 50400) M2 := by rw [e2]; exact inv_lk ⟨od, hd, n9, h⟩ (lk_t hk1 (lk_t lk_thr lk_W2)) (by omega) (by omega)
    refine sv_istore (i := 6) C [(0, .ref b), (1, .ref (sv_r G 14 0)), (2, .ref (sv_r G 19 0)), (3, .ref (sv_r G 25 0)), (4, .int (nI i)), (5, .int (nI (ifpC (xs (i + 1)) (xs (i + 2))))), (6, .int v6)] dL_law_1079 (by decide) rfl ?_
    refine sv_aload_n (i := 2) (x := (sv_r G 19 0)) C dL_law_1081 rfl rfl ?_
    refine sv_callV (as := []) (rest := []) C (met_R_thrown l G _ _ _) fX6_thrown kw_762 (sv_recv19 C) ⟨Nat.le_of_ble_eq_true rfl, Nat.le_of_ble_eq_true rfl⟩ (Nat.le_of_ble_eq_true rfl) dL_law_1082 ⟨by show k + 2 ≤ 614530; omega, by show n + 12 ≤ 7252513; omega⟩ ?_
    refine sv_riS (nI (ifpC (xs (i + 1)) (xs (i + 2)))) t2 ?_
    refine sv_iload (i := 5) (x := (nI (ifpC (xs (i + 1)) (xs (i + 2))))) C dL_law_1085 rfl ?_
    refine sv_icmp_eq C 1092 dL_law_1087 (by decide) (fun _ => ?_) (fun q9 => absurd rfl q9)
    refine sv_iload (i := 5) (x := (nI (ifpC (xs (i + 1)) (xs (i + 2))))) C dL_law_1092 rfl ?_
    refine sv_if_ne C 1109 dL_law_1094 (by decide) (fun q9 => absurd (by rw [hc]; rfl) q9) (fun _ => ?_)
    refine sv_aload_n (i := 3) (x := (sv_r G 25 0)) C dL_law_1097 rfl rfl ?_
    refine sv_iconst (v := 0) C dL_law_1098 (by decide) ?_
    refine sv_lald C dL_law_1099 ?_
    refine sv_iload (i := 6) (x := v6) C dL_law_1100 rfl ?_
    refine sv_i2l C dL_law_1102 ?_
    refine sv_lcmp C dL_law_1103 ?_
    refine sv_if_eq C 1109 dL_law_1104 (by decide) (fun _ => ?_) (fun q9 => absurd ((lg_cmp_eq _ _).mpr (congrArg Int32.toInt64 (by rw [e6, rR_0 hc]))) q9)
    refine sv_goto C 1316 dL_law_1109 (by decide) ?_
    refine sv_sub (lv' := [(0, .ref b), (1, .ref (sv_r G 14 0)), (2, .ref (sv_r G 19 0)), (3, .ref (sv_r G 25 0)), (4, .int (nI i))]) rfl ?_
    exact sv_widen (by omega) (by omega) (kk _ _ _ i2)
  · skip
    refine sv_aload_n (i := 1) (x := (sv_r G 14 0)) C dL_law_1044 rfl rfl ?_
    refine sv_aload_n (i := 0) (x := b) C dL_law_1045 rfl rfl ?_
    refine sv_iload (i := 4) (x := (nI i)) C dL_law_1046 rfl ?_
    refine sv_iconst (v := nI 1) C dL_law_1048 (by decide) ?_
    refine sv_iadd C dL_law_1049 ?_
    refine sv_set (v' := .int (nI (i + 1))) (congrArg Value.int (nI_add _ _)) ?_
    refine sv_scrN C hX hbl hbA (by omega) (by omega) dL_law_1050 ?_
    refine sv_aload_n (i := 0) (x := b) C dL_law_1051 rfl rfl ?_
    refine sv_iload (i := 4) (x := (nI i)) C dL_law_1052 rfl ?_
    refine sv_iconst (v := nI 2) C dL_law_1054 (by decide) ?_
    refine sv_iadd C dL_law_1055 ?_
    refine sv_set (v' := .int (nI (i + 2))) (congrArg Value.int (nI_add _ _)) ?_
    refine sv_scrN C hX hbl hbA (by omega) (by omega) dL_law_1056 ?_
    refine sv_aload_n (i := 3) (x := (sv_r G 25 0)) C dL_law_1057 rfl rfl ?_
    refine sw_call (as := [_, _, _, _]) (rest := []) C (met_L_ifPassed l G hl z M o (xs (i + 1)) (xs (i + 2)) b6 b7 hv) kw_695 kw_696 kw_28 kc_ifPassed 4 ⟨by decide, by decide, by decide +kernel⟩ rfl ⟨Nat.le_of_ble_eq_true rfl, Nat.le_of_ble_eq_true rfl⟩ (Nat.le_of_ble_eq_true rfl) dL_law_1058 ⟨by show k + 2 ≤ 614530; omega, by show n + 12 ≤ 7252513; omega⟩ ?_
    refine sv_riS (nI (ifpC (xs (i + 1)) (xs (i + 2)))) rfl ?_
    refine sv_istore (i := 5) C [(0, .ref b), (1, .ref (sv_r G 14 0)), (2, .ref (sv_r G 19 0)), (3, .ref (sv_r G 25 0)), (4, .int (nI i)), (5, .int (nI (ifpC (xs (i + 1)) (xs (i + 2)))))] dL_law_1061 (by decide) rfl ?_
    refine sv_wd (Wd' := sv_Wz G z M o) (fun H h9 => by unfold sw_R at h9; rw [if_neg hc] at h9; exact h9) ?_
    refine sv_exH (Wf := fun z1 => sv_W G z1 M o) (fun H h9 => by obtain ⟨z1, _, h9⟩ := h9; exact ⟨z1, h9⟩) (fun z1 => ?_)
    refine sv_aload_n (i := 2) (x := (sv_r G 19 0)) C dL_law_1063 rfl rfl ?_
    refine sv_aload_n (i := 0) (x := b) C dL_law_1064 rfl rfl ?_
    refine sv_iload (i := 4) (x := (nI i)) C dL_law_1065 rfl ?_
    refine sv_iconst (v := nI 1) C dL_law_1067 (by decide) ?_
    refine sv_iadd C dL_law_1068 ?_
    refine sv_set (v' := .int (nI (i + 1))) (congrArg Value.int (nI_add _ _)) ?_
    refine sv_scrN C hX hbl hbA (by omega) (by omega) dL_law_1069 ?_
    refine sv_aload_n (i := 0) (x := b) C dL_law_1070 rfl rfl ?_
    refine sv_iload (i := 4) (x := (nI i)) C dL_law_1071 rfl ?_
    refine sv_iconst (v := nI 2) C dL_law_1073 (by decide) ?_
    refine sv_iadd C dL_law_1074 ?_
    refine sv_set (v' := .int (nI (i + 2))) (congrArg Value.int (nI_add _ _)) ?_
    refine sv_scrN C hX hbl hbA (by omega) (by omega) dL_law_1075 ?_
    refine sv_callV (as := [_, _]) (rest := []) C (met_R_ifPassed l G _ M _ (xs (i + 1)) (xs (i + 2)) (outv (M 0) (xs (i + 1)).toNatClampNeg (xs (i + 2)).toNatClampNeg) (fun _ => fl_ifp h)) fX6_ifPassed kw_922 (sv_recv19 C) ⟨Nat.le_of_ble_eq_true rfl, Nat.le_of_ble_eq_true rfl⟩ (Nat.le_of_ble_eq_true rfl) dL_law_1076 ⟨by show k + 2 ≤ 614530; omega, by show n + 12 ≤ 7252513; omega⟩ ?_
    refine sv_ri (fun v6 e6 => ?_)
    refine sv_exW2 (fun y2 a2 c2 => ?_)
    obtain ⟨M2, e2⟩ : ∃ M9 : sv_M, M9 = sv_u (sv_u (thr (nI (ifpC (xs (i + 1)) (xs (i + 2)))) M) 15 (upd (upd ((thr (nI (ifpC (xs (i + 1)) (xs (i + 2)))) M) 15) 6 a2) 7 c2)) 11 y2 := ⟨_, rfl⟩
    rw [← e2]
    have t2 : M2 15 2 = nI (ifpC (xs (i + 1)) (xs (i + 2))) := by rw [e2, W2_2]; exact thr_2
    have i2 : inv (Cc + 15) (B + 50400) M2 := by rw [e2]; exact inv_lk ⟨od, hd, n9, h⟩ (lk_t lk_thr lk_W2) (by omega) (by omega)
    refine sv_istore (i := 6) C [(0, .ref b), (1, .ref (sv_r G 14 0)), (2, .ref (sv_r G 19 0)), (3, .ref (sv_r G 25 0)), (4, .int (nI i)), (5, .int (nI (ifpC (xs (i + 1)) (xs (i + 2))))), (6, .int v6)] dL_law_1079 (by decide) rfl ?_
    refine sv_aload_n (i := 2) (x := (sv_r G 19 0)) C dL_law_1081 rfl rfl ?_
    refine sv_callV (as := []) (rest := []) C (met_R_thrown l G _ _ _) fX6_thrown kw_762 (sv_recv19 C) ⟨Nat.le_of_ble_eq_true rfl, Nat.le_of_ble_eq_true rfl⟩ (Nat.le_of_ble_eq_true rfl) dL_law_1082 ⟨by show k + 2 ≤ 614530; omega, by show n + 12 ≤ 7252513; omega⟩ ?_
    refine sv_riS (nI (ifpC (xs (i + 1)) (xs (i + 2)))) t2 ?_
    refine sv_iload (i := 5) (x := (nI (ifpC (xs (i + 1)) (xs (i + 2))))) C dL_law_1085 rfl ?_
    refine sv_icmp_eq C 1092 dL_law_1087 (by decide) (fun _ => ?_) (fun q9 => absurd rfl q9)
    refine sv_iload (i := 5) (x := (nI (ifpC (xs (i + 1)) (xs (i + 2))))) C dL_law_1092 rfl ?_
    refine sv_if_ne C 1109 dL_law_1094 (by decide) (fun _ => ?_) (fun q9 => absurd q9 (nI_ne0 (by omega) (by omega)))
    refine sv_goto C 1316 dL_law_1109 (by decide) ?_
    refine sv_sub (lv' := [(0, .ref b), (1, .ref (sv_r G 14 0)), (2, .ref (sv_r G 19 0)), (3, .ref (sv_r G 25 0)), (4, .int (nI i))]) rfl ?_
    exact sv_widen (by omega) (by omega) (kk _ _ _ i2)
set_option maxHeartbeats 4000000 in
set_option maxRecDepth 100000 in
theorem lc_dark {p : Program} {l : Launch} {e : Env} {s : State} {m : MethodId} {args : Array Value} {below : List Frame} {meth : Method} {c : Code} {k n : Nat} {Q : State → Prop} {G : sv_G} {b L : Nat} {xs : Nat → Int32} {z : Nat} {M : sv_M} {o : Int64} {i Cc B : Nat} (C : sv_C p l s m args meth c code 9 RL G) (hl : l.stackTraces = false) (hX : va_X b L xs s s.heap) (hbl : b < s.heap.size) (hbA : ¬ sv_A G b) (hL : L ≤ 1536) (hi : i + 2 < L) (hCc : Cc ≤ 7680) (hB : B ≤ 25804800) (hinv : inv Cc B M) (hk : k ≤ 3000) (hn : n ≤ 20000) (kk : ∀ z9 M9 o9, inv (Cc + 15) (B + 50400) M9 → sv_V p l e room_1 s m args below meth c 9 G Q (k + 4) (n + 24) (sv_W G z9 M9 o9) 1316 [(0, .ref b), (1, .ref (sv_r G 14 0)), (2, .ref (sv_r G 19 0)), (3, .ref (sv_r G 25 0)), (4, .int (nI i))] []) : sv_V p l e room_1 s m args below meth c 9 G Q k n (sv_W G z M o) 1112 [(0, .ref b), (1, .ref (sv_r G 14 0)), (2, .ref (sv_r G 19 0)), (3, .ref (sv_r G 25 0)), (4, .int (nI i))] [] := by
  obtain ⟨od, hd, n9, h⟩ := hinv
  obtain ⟨hm, hm7, hmr, b6, b7, hv, he, hr⟩ := inw_m h
  obtain ⟨hod, hd6, hn60, h0, h1, hkp, hn9, hn9r, htx, hst, hhs⟩ := id h
  have hcl : wayC (xs (i + 1)) (xs (i + 2)) ≤ 3 := by have h9 := wayC_le  (xs (i + 1)) (xs (i + 2)); omega
  by_cases hc : wayC (xs (i + 1)) (xs (i + 2)) = 0
  · skip
    refine sv_aload_n (i := 1) (x := (sv_r G 14 0)) C dL_law_1112 rfl rfl ?_
    refine sv_aload_n (i := 0) (x := b) C dL_law_1113 rfl rfl ?_
    refine sv_iload (i := 4) (x := (nI i)) C dL_law_1114 rfl ?_
    refine sv_iconst (v := nI 1) C dL_law_1116 (by decide) ?_
    refine sv_iadd C dL_law_1117 ?_
    refine sv_set (v' := .int (nI (i + 1))) (congrArg Value.int (nI_add _ _)) ?_
    refine sv_scrN C hX hbl hbA (by omega) (by omega) dL_law_1118 ?_
    refine sv_aload_n (i := 0) (x := b) C dL_law_1119 rfl rfl ?_
    refine sv_iload (i := 4) (x := (nI i)) C dL_law_1120 rfl ?_
    refine sv_iconst (v := nI 2) C dL_law_1122 (by decide) ?_
    refine sv_iadd C dL_law_1123 ?_
    refine sv_set (v' := .int (nI (i + 2))) (congrArg Value.int (nI_add _ _)) ?_
    refine sv_scrN C hX hbl hbA (by omega) (by omega) dL_law_1124 ?_
    refine sv_aload_n (i := 3) (x := (sv_r G 25 0)) C dL_law_1125 rfl rfl ?_
    refine sw_call (as := [_, _, _, _]) (rest := []) C (met_L_dark l G hl z M o (xs (i + 1)) (xs (i + 2)) hv _ hm hm7) kw_702 kw_703 kw_28 kc_dark 4 ⟨by decide, by decide, by decide +kernel⟩ rfl ⟨Nat.le_of_ble_eq_true rfl, Nat.le_of_ble_eq_true rfl⟩ (Nat.le_of_ble_eq_true rfl) dL_law_1126 ⟨by show k + 3 ≤ 614530; omega, by show n + 18 ≤ 7252513; omega⟩ ?_
    refine sv_riS (nI (wayC (xs (i + 1)) (xs (i + 2)))) rfl ?_
    refine sv_istore (i := 5) C [(0, .ref b), (1, .ref (sv_r G 14 0)), (2, .ref (sv_r G 19 0)), (3, .ref (sv_r G 25 0)), (4, .int (nI i)), (5, .int (nI (wayC (xs (i + 1)) (xs (i + 2)))))] dL_law_1129 (by decide) rfl ?_
    refine sv_wd (Wd' := sv_W1 G z M (Int32.toInt64 _)) (fun H h9 => by unfold sw_R at h9; rw [if_pos hc] at h9; exact h9) ?_
    refine sv_exW (fun y1 => ?_)
    obtain ⟨M1, e1⟩ : ∃ M9 : sv_M, M9 = sv_u M 1 y1 := ⟨_, rfl⟩
    rw [← e1]
    have e10 : M1 10 = M 10 := by rw [e1]; exact sv_un (by decide)
    have e15 : M1 15 = M 15 := by rw [e1]; exact sv_un (by decide)
    have hk1 : lk M M1 := by rw [e1]; exact lk_1
    refine sv_aload_n (i := 2) (x := (sv_r G 19 0)) C dL_law_1131 rfl rfl ?_
    refine sv_aload_n (i := 0) (x := b) C dL_law_1132 rfl rfl ?_
    refine sv_iload (i := 4) (x := (nI i)) C dL_law_1133 rfl ?_
    refine sv_iconst (v := nI 1) C dL_law_1135 (by decide) ?_
    refine sv_iadd C dL_law_1136 ?_
    refine sv_set (v' := .int (nI (i + 1))) (congrArg Value.int (nI_add _ _)) ?_
    refine sv_scrN C hX hbl hbA (by omega) (by omega) dL_law_1137 ?_
    refine sv_aload_n (i := 0) (x := b) C dL_law_1138 rfl rfl ?_
    refine sv_iload (i := 4) (x := (nI i)) C dL_law_1139 rfl ?_
    refine sv_iconst (v := nI 2) C dL_law_1141 (by decide) ?_
    refine sv_iadd C dL_law_1142 ?_
    refine sv_set (v' := .int (nI (i + 2))) (congrArg Value.int (nI_add _ _)) ?_
    refine sv_scrN C hX hbl hbA (by omega) (by omega) dL_law_1143 ?_
    refine sv_callV (as := [_, _]) (rest := []) C (met_R_dark l G _ M1 _ (xs (i + 1)) (xs (i + 2)) (dkw (xs (i + 1)) (xs (i + 2)) (M 0 0) (M 0)) _ (by rw [e10]; exact hmr) hm7 (fun q9 => by rw [e10]; exact fl_dark h (by omega) q9)) fX6_dark kw_930 (sv_recv19 C) ⟨Nat.le_of_ble_eq_true rfl, Nat.le_of_ble_eq_true rfl⟩ (Nat.le_of_ble_eq_true rfl) dL_law_1144 ⟨by show k + 3 ≤ 614530; omega, by show n + 18 ≤ 7252513; omega⟩ ?_
    refine sv_ri (fun v6 e6 => ?_)
    refine sv_exW2 (fun y2 a2 c2 => ?_)
    obtain ⟨M2, e2⟩ : ∃ M9 : sv_M, M9 = sv_u (sv_u (thr (nI (wayC (xs (i + 1)) (xs (i + 2)))) M1) 15 (upd (upd ((thr (nI (wayC (xs (i + 1)) (xs (i + 2)))) M1) 15) 6 a2) 7 c2)) 11 y2 := ⟨_, rfl⟩
    rw [← e2]
    have t2 : M2 15 2 = nI (wayC (xs (i + 1)) (xs (i + 2))) := by rw [e2, W2_2]; exact thr_2
    have i2 : inv (Cc + 15) (B + 50400) M2 := by rw [e2]; exact inv_lk ⟨od, hd, n9, h⟩ (lk_t hk1 (lk_t lk_thr lk_W2)) (by omega) (by omega)
    refine sv_istore (i := 6) C [(0, .ref b), (1, .ref (sv_r G 14 0)), (2, .ref (sv_r G 19 0)), (3, .ref (sv_r G 25 0)), (4, .int (nI i)), (5, .int (nI (wayC (xs (i + 1)) (xs (i + 2))))), (6, .int v6)] dL_law_1147 (by decide) rfl ?_
    refine sv_aload_n (i := 2) (x := (sv_r G 19 0)) C dL_law_1149 rfl rfl ?_
    refine sv_callV (as := []) (rest := []) C (met_R_thrown l G _ _ _) fX6_thrown kw_762 (sv_recv19 C) ⟨Nat.le_of_ble_eq_true rfl, Nat.le_of_ble_eq_true rfl⟩ (Nat.le_of_ble_eq_true rfl) dL_law_1150 ⟨by show k + 3 ≤ 614530; omega, by show n + 18 ≤ 7252513; omega⟩ ?_
    refine sv_riS (nI (wayC (xs (i + 1)) (xs (i + 2)))) t2 ?_
    refine sv_iload (i := 5) (x := (nI (wayC (xs (i + 1)) (xs (i + 2))))) C dL_law_1153 rfl ?_
    refine sv_icmp_eq C 1160 dL_law_1155 (by decide) (fun _ => ?_) (fun q9 => absurd rfl q9)
    refine sv_iload (i := 5) (x := (nI (wayC (xs (i + 1)) (xs (i + 2))))) C dL_law_1160 rfl ?_
    refine sv_if_ne C 1177 dL_law_1162 (by decide) (fun q9 => absurd (by rw [hc]; rfl) q9) (fun _ => ?_)
    refine sv_aload_n (i := 3) (x := (sv_r G 25 0)) C dL_law_1165 rfl rfl ?_
    refine sv_iconst (v := 0) C dL_law_1166 (by decide) ?_
    refine sv_lald C dL_law_1167 ?_
    refine sv_iload (i := 6) (x := v6) C dL_law_1168 rfl ?_
    refine sv_i2l C dL_law_1170 ?_
    refine sv_lcmp C dL_law_1171 ?_
    refine sv_if_eq C 1177 dL_law_1172 (by decide) (fun _ => ?_) (fun q9 => absurd ((lg_cmp_eq _ _).mpr (congrArg Int32.toInt64 (by rw [e6, rR_0 hc]))) q9)
    refine sv_goto C 1316 dL_law_1177 (by decide) ?_
    refine sv_sub (lv' := [(0, .ref b), (1, .ref (sv_r G 14 0)), (2, .ref (sv_r G 19 0)), (3, .ref (sv_r G 25 0)), (4, .int (nI i))]) rfl ?_
    exact sv_widen (by omega) (by omega) (kk _ _ _ i2)
  · skip
    refine sv_aload_n (i := 1) (x := (sv_r G 14 0)) C dL_law_1112 rfl rfl ?_
    refine sv_aload_n (i := 0) (x := b) C dL_law_1113 rfl rfl ?_
    refine sv_iload (i := 4) (x := (nI i)) C dL_law_1114 rfl ?_
    refine sv_iconst (v := nI 1) C dL_law_1116 (by decide) ?_
    refine sv_iadd C dL_law_1117 ?_
    refine sv_set (v' := .int (nI (i + 1))) (congrArg Value.int (nI_add _ _)) ?_
    refine sv_scrN C hX hbl hbA (by omega) (by omega) dL_law_1118 ?_
    refine sv_aload_n (i := 0) (x := b) C dL_law_1119 rfl rfl ?_
    refine sv_iload (i := 4) (x := (nI i)) C dL_law_1120 rfl ?_
    refine sv_iconst (v := nI 2) C dL_law_1122 (by decide) ?_
    refine sv_iadd C dL_law_1123 ?_
    refine sv_set (v' := .int (nI (i + 2))) (congrArg Value.int (nI_add _ _)) ?_
    refine sv_scrN C hX hbl hbA (by omega) (by omega) dL_law_1124 ?_
    refine sv_aload_n (i := 3) (x := (sv_r G 25 0)) C dL_law_1125 rfl rfl ?_
    refine sw_call (as := [_, _, _, _]) (rest := []) C (met_L_dark l G hl z M o (xs (i + 1)) (xs (i + 2)) hv _ hm hm7) kw_702 kw_703 kw_28 kc_dark 4 ⟨by decide, by decide, by decide +kernel⟩ rfl ⟨Nat.le_of_ble_eq_true rfl, Nat.le_of_ble_eq_true rfl⟩ (Nat.le_of_ble_eq_true rfl) dL_law_1126 ⟨by show k + 3 ≤ 614530; omega, by show n + 18 ≤ 7252513; omega⟩ ?_
    refine sv_riS (nI (wayC (xs (i + 1)) (xs (i + 2)))) rfl ?_
    refine sv_istore (i := 5) C [(0, .ref b), (1, .ref (sv_r G 14 0)), (2, .ref (sv_r G 19 0)), (3, .ref (sv_r G 25 0)), (4, .int (nI i)), (5, .int (nI (wayC (xs (i + 1)) (xs (i + 2)))))] dL_law_1129 (by decide) rfl ?_
    refine sv_wd (Wd' := sv_Wz G z M o) (fun H h9 => by unfold sw_R at h9; rw [if_neg hc] at h9; exact h9) ?_
    refine sv_exH (Wf := fun z1 => sv_W G z1 M o) (fun H h9 => by obtain ⟨z1, _, h9⟩ := h9; exact ⟨z1, h9⟩) (fun z1 => ?_)
    refine sv_aload_n (i := 2) (x := (sv_r G 19 0)) C dL_law_1131 rfl rfl ?_
    refine sv_aload_n (i := 0) (x := b) C dL_law_1132 rfl rfl ?_
    refine sv_iload (i := 4) (x := (nI i)) C dL_law_1133 rfl ?_
    refine sv_iconst (v := nI 1) C dL_law_1135 (by decide) ?_
    refine sv_iadd C dL_law_1136 ?_
    refine sv_set (v' := .int (nI (i + 1))) (congrArg Value.int (nI_add _ _)) ?_
    refine sv_scrN C hX hbl hbA (by omega) (by omega) dL_law_1137 ?_
    refine sv_aload_n (i := 0) (x := b) C dL_law_1138 rfl rfl ?_
    refine sv_iload (i := 4) (x := (nI i)) C dL_law_1139 rfl ?_
    refine sv_iconst (v := nI 2) C dL_law_1141 (by decide) ?_
    refine sv_iadd C dL_law_1142 ?_
    refine sv_set (v' := .int (nI (i + 2))) (congrArg Value.int (nI_add _ _)) ?_
    refine sv_scrN C hX hbl hbA (by omega) (by omega) dL_law_1143 ?_
    refine sv_callV (as := [_, _]) (rest := []) C (met_R_dark l G _ M _ (xs (i + 1)) (xs (i + 2)) (dkw (xs (i + 1)) (xs (i + 2)) (M 0 0) (M 0)) _ hmr hm7 (fun q9 => fl_dark h (by omega) q9)) fX6_dark kw_930 (sv_recv19 C) ⟨Nat.le_of_ble_eq_true rfl, Nat.le_of_ble_eq_true rfl⟩ (Nat.le_of_ble_eq_true rfl) dL_law_1144 ⟨by show k + 3 ≤ 614530; omega, by show n + 18 ≤ 7252513; omega⟩ ?_
    refine sv_ri (fun v6 e6 => ?_)
    refine sv_exW2 (fun y2 a2 c2 => ?_)
    obtain ⟨M2, e2⟩ : ∃ M9 : sv_M, M9 = sv_u (sv_u (thr (nI (wayC (xs (i + 1)) (xs (i + 2)))) M) 15 (upd (upd ((thr (nI (wayC (xs (i + 1)) (xs (i + 2)))) M) 15) 6 a2) 7 c2)) 11 y2 := ⟨_, rfl⟩
    rw [← e2]
    have t2 : M2 15 2 = nI (wayC (xs (i + 1)) (xs (i + 2))) := by rw [e2, W2_2]; exact thr_2
    have i2 : inv (Cc + 15) (B + 50400) M2 := by rw [e2]; exact inv_lk ⟨od, hd, n9, h⟩ (lk_t lk_thr lk_W2) (by omega) (by omega)
    refine sv_istore (i := 6) C [(0, .ref b), (1, .ref (sv_r G 14 0)), (2, .ref (sv_r G 19 0)), (3, .ref (sv_r G 25 0)), (4, .int (nI i)), (5, .int (nI (wayC (xs (i + 1)) (xs (i + 2))))), (6, .int v6)] dL_law_1147 (by decide) rfl ?_
    refine sv_aload_n (i := 2) (x := (sv_r G 19 0)) C dL_law_1149 rfl rfl ?_
    refine sv_callV (as := []) (rest := []) C (met_R_thrown l G _ _ _) fX6_thrown kw_762 (sv_recv19 C) ⟨Nat.le_of_ble_eq_true rfl, Nat.le_of_ble_eq_true rfl⟩ (Nat.le_of_ble_eq_true rfl) dL_law_1150 ⟨by show k + 3 ≤ 614530; omega, by show n + 18 ≤ 7252513; omega⟩ ?_
    refine sv_riS (nI (wayC (xs (i + 1)) (xs (i + 2)))) t2 ?_
    refine sv_iload (i := 5) (x := (nI (wayC (xs (i + 1)) (xs (i + 2))))) C dL_law_1153 rfl ?_
    refine sv_icmp_eq C 1160 dL_law_1155 (by decide) (fun _ => ?_) (fun q9 => absurd rfl q9)
    refine sv_iload (i := 5) (x := (nI (wayC (xs (i + 1)) (xs (i + 2))))) C dL_law_1160 rfl ?_
    refine sv_if_ne C 1177 dL_law_1162 (by decide) (fun _ => ?_) (fun q9 => absurd q9 (nI_ne0 (by omega) (by omega)))
    refine sv_goto C 1316 dL_law_1177 (by decide) ?_
    refine sv_sub (lv' := [(0, .ref b), (1, .ref (sv_r G 14 0)), (2, .ref (sv_r G 19 0)), (3, .ref (sv_r G 25 0)), (4, .int (nI i))]) rfl ?_
    exact sv_widen (by omega) (by omega) (kk _ _ _ i2)
set_option maxHeartbeats 4000000 in
set_option maxRecDepth 100000 in
theorem lc_leastTime {p : Program} {l : Launch} {e : Env} {s : State} {m : MethodId} {args : Array Value} {below : List Frame} {meth : Method} {c : Code} {k n : Nat} {Q : State → Prop} {G : sv_G} {b L : Nat} {xs : Nat → Int32} {z : Nat} {M : sv_M} {o : Int64} {i Cc B : Nat} (C : sv_C p l s m args meth c code 9 RL G) (hl : l.stackTraces = false) (hX : va_X b L xs s s.heap) (hbl : b < s.heap.size) (hbA : ¬ sv_A G b) (hL : L ≤ 1536) (hi : i + 2 < L) (hCc : Cc ≤ 7680) (hB : B ≤ 25804800) (hinv : inv Cc B M) (hk : k ≤ 3000) (hn : n ≤ 20000) (kk : ∀ z9 M9 o9, inv (Cc + 15) (B + 50400) M9 → sv_V p l e room_1 s m args below meth c 9 G Q (k + 4) (n + 24) (sv_W G z9 M9 o9) 1316 [(0, .ref b), (1, .ref (sv_r G 14 0)), (2, .ref (sv_r G 19 0)), (3, .ref (sv_r G 25 0)), (4, .int (nI i))] []) : sv_V p l e room_1 s m args below meth c 9 G Q k n (sv_W G z M o) 1180 [(0, .ref b), (1, .ref (sv_r G 14 0)), (2, .ref (sv_r G 19 0)), (3, .ref (sv_r G 25 0)), (4, .int (nI i))] [] := by
  obtain ⟨od, hd, n9, h⟩ := hinv
  obtain ⟨hm, hm7, hmr, b6, b7, hv, he, hr⟩ := inw_m h
  obtain ⟨hod, hd6, hn60, h0, h1, hkp, hn9, hn9r, htx, hst, hhs⟩ := id h
  have hcl : wayC (xs (i + 1)) (xs (i + 2)) ≤ 3 := by have h9 := wayC_le  (xs (i + 1)) (xs (i + 2)); omega
  by_cases hc : wayC (xs (i + 1)) (xs (i + 2)) = 0
  · skip
    refine sv_aload_n (i := 1) (x := (sv_r G 14 0)) C dL_law_1180 rfl rfl ?_
    refine sv_aload_n (i := 0) (x := b) C dL_law_1181 rfl rfl ?_
    refine sv_iload (i := 4) (x := (nI i)) C dL_law_1182 rfl ?_
    refine sv_iconst (v := nI 1) C dL_law_1184 (by decide) ?_
    refine sv_iadd C dL_law_1185 ?_
    refine sv_set (v' := .int (nI (i + 1))) (congrArg Value.int (nI_add _ _)) ?_
    refine sv_scrN C hX hbl hbA (by omega) (by omega) dL_law_1186 ?_
    refine sv_aload_n (i := 0) (x := b) C dL_law_1187 rfl rfl ?_
    refine sv_iload (i := 4) (x := (nI i)) C dL_law_1188 rfl ?_
    refine sv_iconst (v := nI 2) C dL_law_1190 (by decide) ?_
    refine sv_iadd C dL_law_1191 ?_
    refine sv_set (v' := .int (nI (i + 2))) (congrArg Value.int (nI_add _ _)) ?_
    refine sv_scrN C hX hbl hbA (by omega) (by omega) dL_law_1192 ?_
    refine sv_aload_n (i := 3) (x := (sv_r G 25 0)) C dL_law_1193 rfl rfl ?_
    refine sw_call (as := [_, _, _, _]) (rest := []) C (met_L_leastTime l G hl z M o (xs (i + 1)) (xs (i + 2)) hv _ hm hm7) kw_709 kw_710 kw_28 kc_leastTime 4 ⟨by decide, by decide, by decide +kernel⟩ rfl ⟨Nat.le_of_ble_eq_true rfl, Nat.le_of_ble_eq_true rfl⟩ (Nat.le_of_ble_eq_true rfl) dL_law_1194 ⟨by show k + 3 ≤ 614530; omega, by show n + 18 ≤ 7252513; omega⟩ ?_
    refine sv_riS (nI (wayC (xs (i + 1)) (xs (i + 2)))) rfl ?_
    refine sv_istore (i := 5) C [(0, .ref b), (1, .ref (sv_r G 14 0)), (2, .ref (sv_r G 19 0)), (3, .ref (sv_r G 25 0)), (4, .int (nI i)), (5, .int (nI (wayC (xs (i + 1)) (xs (i + 2)))))] dL_law_1197 (by decide) rfl ?_
    refine sv_wd (Wd' := sv_W1 G z M (Int32.toInt64 _)) (fun H h9 => by unfold sw_R at h9; rw [if_pos hc] at h9; exact h9) ?_
    refine sv_exW (fun y1 => ?_)
    obtain ⟨M1, e1⟩ : ∃ M9 : sv_M, M9 = sv_u M 1 y1 := ⟨_, rfl⟩
    rw [← e1]
    have e10 : M1 10 = M 10 := by rw [e1]; exact sv_un (by decide)
    have e15 : M1 15 = M 15 := by rw [e1]; exact sv_un (by decide)
    have hk1 : lk M M1 := by rw [e1]; exact lk_1
    refine sv_aload_n (i := 2) (x := (sv_r G 19 0)) C dL_law_1199 rfl rfl ?_
    refine sv_aload_n (i := 0) (x := b) C dL_law_1200 rfl rfl ?_
    refine sv_iload (i := 4) (x := (nI i)) C dL_law_1201 rfl ?_
    refine sv_iconst (v := nI 1) C dL_law_1203 (by decide) ?_
    refine sv_iadd C dL_law_1204 ?_
    refine sv_set (v' := .int (nI (i + 1))) (congrArg Value.int (nI_add _ _)) ?_
    refine sv_scrN C hX hbl hbA (by omega) (by omega) dL_law_1205 ?_
    refine sv_aload_n (i := 0) (x := b) C dL_law_1206 rfl rfl ?_
    refine sv_iload (i := 4) (x := (nI i)) C dL_law_1207 rfl ?_
    refine sv_iconst (v := nI 2) C dL_law_1209 (by decide) ?_
    refine sv_iadd C dL_law_1210 ?_
    refine sv_set (v' := .int (nI (i + 2))) (congrArg Value.int (nI_add _ _)) ?_
    refine sv_scrN C hX hbl hbA (by omega) (by omega) dL_law_1211 ?_
    refine sv_callV (as := [_, _]) (rest := []) C (met_R_leastTime l G _ M1 _ (xs (i + 1)) (xs (i + 2)) _ (by rw [e10]; exact hmr) hm7 (fun T => dkw (xs (i + 1)) (xs (i + 2)) (nI T) (M 0)) (fun q9 => by rw [e10]; exact (fl_lt h (by omega) q9).1)) fX6_leastTime kw_941 (sv_recv19 C) ⟨Nat.le_of_ble_eq_true rfl, Nat.le_of_ble_eq_true rfl⟩ (Nat.le_of_ble_eq_true rfl) dL_law_1212 ⟨by show k + 3 ≤ 614530; omega, by show n + 18 ≤ 7252513; omega⟩ ?_
    refine sv_ri (fun v6 e6 => ?_)
    refine sv_exW2 (fun y2 a2 c2 => ?_)
    obtain ⟨M2, e2⟩ : ∃ M9 : sv_M, M9 = sv_u (sv_u (thr (nI (wayC (xs (i + 1)) (xs (i + 2)))) M1) 15 (upd (upd ((thr (nI (wayC (xs (i + 1)) (xs (i + 2)))) M1) 15) 6 a2) 7 c2)) 11 y2 := ⟨_, rfl⟩
    rw [← e2]
    have t2 : M2 15 2 = nI (wayC (xs (i + 1)) (xs (i + 2))) := by rw [e2, W2_2]; exact thr_2
    have i2 : inv (Cc + 15) (B + 50400) M2 := by rw [e2]; exact inv_lk ⟨od, hd, n9, h⟩ (lk_t hk1 (lk_t lk_thr lk_W2)) (by omega) (by omega)
    refine sv_istore (i := 6) C [(0, .ref b), (1, .ref (sv_r G 14 0)), (2, .ref (sv_r G 19 0)), (3, .ref (sv_r G 25 0)), (4, .int (nI i)), (5, .int (nI (wayC (xs (i + 1)) (xs (i + 2))))), (6, .int v6)] dL_law_1215 (by decide) rfl ?_
    refine sv_aload_n (i := 2) (x := (sv_r G 19 0)) C dL_law_1217 rfl rfl ?_
    refine sv_callV (as := []) (rest := []) C (met_R_thrown l G _ _ _) fX6_thrown kw_762 (sv_recv19 C) ⟨Nat.le_of_ble_eq_true rfl, Nat.le_of_ble_eq_true rfl⟩ (Nat.le_of_ble_eq_true rfl) dL_law_1218 ⟨by show k + 3 ≤ 614530; omega, by show n + 18 ≤ 7252513; omega⟩ ?_
    refine sv_riS (nI (wayC (xs (i + 1)) (xs (i + 2)))) t2 ?_
    refine sv_iload (i := 5) (x := (nI (wayC (xs (i + 1)) (xs (i + 2))))) C dL_law_1221 rfl ?_
    refine sv_icmp_eq C 1228 dL_law_1223 (by decide) (fun _ => ?_) (fun q9 => absurd rfl q9)
    refine sv_iload (i := 5) (x := (nI (wayC (xs (i + 1)) (xs (i + 2))))) C dL_law_1228 rfl ?_
    refine sv_if_ne C 1245 dL_law_1230 (by decide) (fun q9 => absurd (by rw [hc]; rfl) q9) (fun _ => ?_)
    refine sv_aload_n (i := 3) (x := (sv_r G 25 0)) C dL_law_1233 rfl rfl ?_
    refine sv_iconst (v := 0) C dL_law_1234 (by decide) ?_
    refine sv_lald C dL_law_1235 ?_
    refine sv_iload (i := 6) (x := v6) C dL_law_1236 rfl ?_
    refine sv_i2l C dL_law_1238 ?_
    refine sv_lcmp C dL_law_1239 ?_
    refine sv_if_eq C 1245 dL_law_1240 (by decide) (fun _ => ?_) (fun q9 => absurd ((lg_cmp_eq _ _).mpr (congrArg Int32.toInt64 (by rw [e6, rR_0 hc, (fl_lt h (by omega) hc).2]))) q9)
    refine sv_goto C 1316 dL_law_1245 (by decide) ?_
    refine sv_sub (lv' := [(0, .ref b), (1, .ref (sv_r G 14 0)), (2, .ref (sv_r G 19 0)), (3, .ref (sv_r G 25 0)), (4, .int (nI i))]) rfl ?_
    exact sv_widen (by omega) (by omega) (kk _ _ _ i2)
  · skip
    refine sv_aload_n (i := 1) (x := (sv_r G 14 0)) C dL_law_1180 rfl rfl ?_
    refine sv_aload_n (i := 0) (x := b) C dL_law_1181 rfl rfl ?_
    refine sv_iload (i := 4) (x := (nI i)) C dL_law_1182 rfl ?_
    refine sv_iconst (v := nI 1) C dL_law_1184 (by decide) ?_
    refine sv_iadd C dL_law_1185 ?_
    refine sv_set (v' := .int (nI (i + 1))) (congrArg Value.int (nI_add _ _)) ?_
    refine sv_scrN C hX hbl hbA (by omega) (by omega) dL_law_1186 ?_
    refine sv_aload_n (i := 0) (x := b) C dL_law_1187 rfl rfl ?_
    refine sv_iload (i := 4) (x := (nI i)) C dL_law_1188 rfl ?_
    refine sv_iconst (v := nI 2) C dL_law_1190 (by decide) ?_
    refine sv_iadd C dL_law_1191 ?_
    refine sv_set (v' := .int (nI (i + 2))) (congrArg Value.int (nI_add _ _)) ?_
    refine sv_scrN C hX hbl hbA (by omega) (by omega) dL_law_1192 ?_
    refine sv_aload_n (i := 3) (x := (sv_r G 25 0)) C dL_law_1193 rfl rfl ?_
    refine sw_call (as := [_, _, _, _]) (rest := []) C (met_L_leastTime l G hl z M o (xs (i + 1)) (xs (i + 2)) hv _ hm hm7) kw_709 kw_710 kw_28 kc_leastTime 4 ⟨by decide, by decide, by decide +kernel⟩ rfl ⟨Nat.le_of_ble_eq_true rfl, Nat.le_of_ble_eq_true rfl⟩ (Nat.le_of_ble_eq_true rfl) dL_law_1194 ⟨by show k + 3 ≤ 614530; omega, by show n + 18 ≤ 7252513; omega⟩ ?_
    refine sv_riS (nI (wayC (xs (i + 1)) (xs (i + 2)))) rfl ?_
    refine sv_istore (i := 5) C [(0, .ref b), (1, .ref (sv_r G 14 0)), (2, .ref (sv_r G 19 0)), (3, .ref (sv_r G 25 0)), (4, .int (nI i)), (5, .int (nI (wayC (xs (i + 1)) (xs (i + 2)))))] dL_law_1197 (by decide) rfl ?_
    refine sv_wd (Wd' := sv_Wz G z M o) (fun H h9 => by unfold sw_R at h9; rw [if_neg hc] at h9; exact h9) ?_
    refine sv_exH (Wf := fun z1 => sv_W G z1 M o) (fun H h9 => by obtain ⟨z1, _, h9⟩ := h9; exact ⟨z1, h9⟩) (fun z1 => ?_)
    refine sv_aload_n (i := 2) (x := (sv_r G 19 0)) C dL_law_1199 rfl rfl ?_
    refine sv_aload_n (i := 0) (x := b) C dL_law_1200 rfl rfl ?_
    refine sv_iload (i := 4) (x := (nI i)) C dL_law_1201 rfl ?_
    refine sv_iconst (v := nI 1) C dL_law_1203 (by decide) ?_
    refine sv_iadd C dL_law_1204 ?_
    refine sv_set (v' := .int (nI (i + 1))) (congrArg Value.int (nI_add _ _)) ?_
    refine sv_scrN C hX hbl hbA (by omega) (by omega) dL_law_1205 ?_
    refine sv_aload_n (i := 0) (x := b) C dL_law_1206 rfl rfl ?_
    refine sv_iload (i := 4) (x := (nI i)) C dL_law_1207 rfl ?_
    refine sv_iconst (v := nI 2) C dL_law_1209 (by decide) ?_
    refine sv_iadd C dL_law_1210 ?_
    refine sv_set (v' := .int (nI (i + 2))) (congrArg Value.int (nI_add _ _)) ?_
    refine sv_scrN C hX hbl hbA (by omega) (by omega) dL_law_1211 ?_
    refine sv_callV (as := [_, _]) (rest := []) C (met_R_leastTime l G _ M _ (xs (i + 1)) (xs (i + 2)) _ hmr hm7 (fun T => dkw (xs (i + 1)) (xs (i + 2)) (nI T) (M 0)) (fun q9 => (fl_lt h (by omega) q9).1)) fX6_leastTime kw_941 (sv_recv19 C) ⟨Nat.le_of_ble_eq_true rfl, Nat.le_of_ble_eq_true rfl⟩ (Nat.le_of_ble_eq_true rfl) dL_law_1212 ⟨by show k + 3 ≤ 614530; omega, by show n + 18 ≤ 7252513; omega⟩ ?_
    refine sv_ri (fun v6 e6 => ?_)
    refine sv_exW2 (fun y2 a2 c2 => ?_)
    obtain ⟨M2, e2⟩ : ∃ M9 : sv_M, M9 = sv_u (sv_u (thr (nI (wayC (xs (i + 1)) (xs (i + 2)))) M) 15 (upd (upd ((thr (nI (wayC (xs (i + 1)) (xs (i + 2)))) M) 15) 6 a2) 7 c2)) 11 y2 := ⟨_, rfl⟩
    rw [← e2]
    have t2 : M2 15 2 = nI (wayC (xs (i + 1)) (xs (i + 2))) := by rw [e2, W2_2]; exact thr_2
    have i2 : inv (Cc + 15) (B + 50400) M2 := by rw [e2]; exact inv_lk ⟨od, hd, n9, h⟩ (lk_t lk_thr lk_W2) (by omega) (by omega)
    refine sv_istore (i := 6) C [(0, .ref b), (1, .ref (sv_r G 14 0)), (2, .ref (sv_r G 19 0)), (3, .ref (sv_r G 25 0)), (4, .int (nI i)), (5, .int (nI (wayC (xs (i + 1)) (xs (i + 2))))), (6, .int v6)] dL_law_1215 (by decide) rfl ?_
    refine sv_aload_n (i := 2) (x := (sv_r G 19 0)) C dL_law_1217 rfl rfl ?_
    refine sv_callV (as := []) (rest := []) C (met_R_thrown l G _ _ _) fX6_thrown kw_762 (sv_recv19 C) ⟨Nat.le_of_ble_eq_true rfl, Nat.le_of_ble_eq_true rfl⟩ (Nat.le_of_ble_eq_true rfl) dL_law_1218 ⟨by show k + 3 ≤ 614530; omega, by show n + 18 ≤ 7252513; omega⟩ ?_
    refine sv_riS (nI (wayC (xs (i + 1)) (xs (i + 2)))) t2 ?_
    refine sv_iload (i := 5) (x := (nI (wayC (xs (i + 1)) (xs (i + 2))))) C dL_law_1221 rfl ?_
    refine sv_icmp_eq C 1228 dL_law_1223 (by decide) (fun _ => ?_) (fun q9 => absurd rfl q9)
    refine sv_iload (i := 5) (x := (nI (wayC (xs (i + 1)) (xs (i + 2))))) C dL_law_1228 rfl ?_
    refine sv_if_ne C 1245 dL_law_1230 (by decide) (fun _ => ?_) (fun q9 => absurd q9 (nI_ne0 (by omega) (by omega)))
    refine sv_goto C 1316 dL_law_1245 (by decide) ?_
    refine sv_sub (lv' := [(0, .ref b), (1, .ref (sv_r G 14 0)), (2, .ref (sv_r G 19 0)), (3, .ref (sv_r G 25 0)), (4, .int (nI i))]) rfl ?_
    exact sv_widen (by omega) (by omega) (kk _ _ _ i2)
