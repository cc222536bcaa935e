def rdg5 (x : vX) (m kp : Nat) (O9 : Nat → Int32) : Int64 := mxI O9 4 (mxP x m (mxF m x 8 (mxI (fun i => x i) 4 (mxI (fun i => couv x kp i) 11 3061))))
def rdg10 (x : vX) (m kp : Nat) (O9 : Nat → Int32) (D1 D2 : Int32) (lt : Nat) (bits : Int64) : Int64 := 31 * (31 * (31 * (31 * (31 * rdg5 x m kp O9 + Int32.toInt64 D1) + Int32.toInt64 D2) + Int32.toInt64 (nI lt)) + Int32.toInt64 (mm x 8)) + bits
def rdg (x cd : vX) (m kp n9 : Nat) (O9 : Nat → Int32) (D1 D2 : Int32) (lt : Nat) (bits : Int64) : Int64 := mxI cd n9 (31 * rdg10 x m kp O9 D1 D2 lt bits + Int32.toInt64 (nI n9))
set_option maxHeartbeats 800000 in
set_option maxRecDepth 100000 in
theorem met_R_digest (l : Launch) (G : sv_G) (z : Nat) (M : sv_M) (o : Int64) (m : Nat) (hm : M 10 57 = nI m) (hm7 : m ≤ 6) (kp : Nat) (hkp : M 15 0 = nI kp) (n9 : Nat) (hn9 : M 15 1 = nI n9) (hn60 : n9 ≤ 60) (hn : ¬ M 10 8 = 0 → vf_n64 (FP.ddiv (FP.i2d (M 10 8 - dks (M 10) - dms (M 10))) (FP.i2d (M 10 8)))) (O9 : Nat → Int32) (ho : ∀ i, i < 4 → psO (M 10) 30 i (O9 i)) (D1 D2 : Int32) (hd1 : wkD (M 10) m (nI 0) (nI 7) (M 10 0) D1) (hd2 : wkD (M 10) m (nI 6) (nI 2) (M 10 0) D2) (D9 : Nat → Int32) (hd9 : ∀ T, 1 ≤ T → T ≤ 200 → wkD (M 10) m (nI 1) (nI 5) (nI T) (D9 T)) (bits : Int64) (hbits : ∀ Wd : Heap → Prop, sv_Met l G yJxe99ae_doubleToLongBits_ccdee cJxe99ae_doubleToLongBits_ccdee 2 (some .long) 2 [.double (rsh (M 10))] Wd (some (.long bits)) Wd) : sv_Met l G yX6_digest cX6_digest 5 (some .long) 6 [.ref (sv_r G 19 0)] (sv_W G z M o) (some (.long (rdg (M 10) (M 13) m kp n9 O9 D1 D2 (lsN D9 199).1 bits))) (sv_W2 G z (thr 0 M) o) := by
  refine sv_ofW (by decide) kw_968 (Nat.le_of_ble_eq_true rfl) ?_
  intro p e s mth args below meth c hr C _
  refine sv_sub (lv' := [(0, .ref (sv_r G 19 0))]) rfl ?_
  refine sv_aload_n (i := 0) (x := sv_r G 19 0) C dX6_digest_0 rfl rfl ?_
  refine sv_iconst (v := nI 0) C dX6_digest_1 (by decide) ?_
  refine sv_put_6_6 C kw_728 dX6_digest_2 ?_
  refine sv_wd (sv_eqW (show _ = thr 0 M from thr_w)) ?_
  refine sv_ldc2 (v := (3061)) C dX6_digest_5 kw_969 ?_
  refine sv_lstore_n (i := 1) C [(0, .ref (sv_r G 19 0)), (1, .long (3061))] dX6_digest_8 rfl (by decide) rfl ?_
  refine sv_iconst (v := nI 0) C dX6_digest_9 (by decide) ?_
  refine sv_istore_n (i := 3) C [(0, .ref (sv_r G 19 0)), (1, .long (3061)), (3, .int (nI 0))] dX6_digest_10 rfl (by decide) rfl ?_
  refine sv_loop (N := 11) (I := fun i => True) (Wf := fun i => sv_W G z (thr 0 M) o) (Lf := fun i => [(0, .ref (sv_r G 19 0)), (1, .long (mxI (fun i => couv (M 10) kp i) i 3061)), (3, .int (nI i))]) 0 (Nat.zero_le _) trivial (fun i hi0 hi hIi ihi => ?_)
  refine sv_iload_n (i := 3) (x := nI i) C dX6_digest_11 rfl rfl ?_
  refine sv_bipush (v := nI 11) C dX6_digest_12 (by decide) ?_
  refine sv_icmp_geN C 36 dX6_digest_14 (by decide) (by omega) (by omega) (fun q14 => ?_) (fun q14 => ?_)
  · refine sv_iconst (v := nI 0) C dX6_digest_36 (by decide) ?_
    refine sv_istore_n (i := 3) C [(0, .ref (sv_r G 19 0)), (1, .long (mxI (fun i => couv (M 10) kp i) i 3061)), (3, .int (nI 0))] dX6_digest_37 rfl (by decide) rfl ?_
    rw [show i = 11 from by omega]
    refine sv_loop (N := 4) (I := fun j => True) (Wf := fun j => sv_W G z (thr 0 M) o) (Lf := fun j => [(0, .ref (sv_r G 19 0)), (1, .long (mxI (fun i => M 10 i) j (mxI (fun i => couv (M 10) kp i) 11 3061))), (3, .int (nI j))]) 0 (Nat.zero_le _) trivial (fun j hj0 hj hIj ihj => ?_)
    refine sv_iload_n (i := 3) (x := nI j) C dX6_digest_38 rfl rfl ?_
    refine sv_iconst (v := nI 4) C dX6_digest_39 (by decide) ?_
    refine sv_icmp_geN C 63 dX6_digest_40 (by decide) (by omega) (by omega) (fun q40 => ?_) (fun q40 => ?_)
    · refine sv_iconst (v := nI 0) C dX6_digest_63 (by decide) ?_
      refine sv_istore_n (i := 3) C [(0, .ref (sv_r G 19 0)), (1, .long (mxI (fun i => M 10 i) j (mxI (fun i => couv (M 10) kp i) 11 3061))), (3, .int (nI 0))] dX6_digest_64 rfl (by decide) rfl ?_
      rw [show j = 4 from by omega]
      refine sv_loop (N := 8) (I := fun i => True) (Wf := fun i => sv_W G z (thr 0 M) o) (Lf := fun i => [(0, .ref (sv_r G 19 0)), (1, .long (mxF m (M 10) i (mxI (fun i => M 10 i) 4 (mxI (fun i => couv (M 10) kp i) 11 3061)))), (3, .int (nI i))]) 0 (Nat.zero_le _) trivial (fun i hi0 hi hIi ihi => ?_)
      refine sv_iload_n (i := 3) (x := nI i) C dX6_digest_65 rfl rfl ?_
      refine sv_bipush (v := nI 8) C dX6_digest_66 (by decide) ?_
      refine sv_icmp_geN C 108 dX6_digest_68 (by decide) (by omega) (by omega) (fun q68 => ?_) (fun q68 => ?_)
      · refine sv_iconst (v := nI 0) C dX6_digest_108 (by decide) ?_
        refine sv_istore_n (i := 3) C [(0, .ref (sv_r G 19 0)), (1, .long (mxF m (M 10) i (mxI (fun i => M 10 i) 4 (mxI (fun i => couv (M 10) kp i) 11 3061)))), (3, .int (nI 0))] dX6_digest_109 rfl (by decide) rfl ?_
        rw [show i = 8 from by omega]
        refine sv_loop (N := m) (I := fun i => True) (Wf := fun i => sv_W G z (thr 0 M) o) (Lf := fun i => [(0, .ref (sv_r G 19 0)), (1, .long (mxP (M 10) i (mxF m (M 10) 8 (mxI (fun i => M 10 i) 4 (mxI (fun i => couv (M 10) kp i) 11 3061))))), (3, .int (nI i))]) 0 (Nat.zero_le _) trivial (fun i hi0 hi hIi ihi => ?_)
        refine sv_iload_n (i := 3) (x := nI i) C dX6_digest_110 rfl rfl ?_
        refine sv_aload_n (i := 0) (x := sv_r G 19 0) C dX6_digest_111 rfl rfl ?_
        refine sv_get_6_0 C kw_722 dX6_digest_112 ?_
        refine sv_bipush (v := nI 57) C dX6_digest_115 (by decide) ?_
        refine sv_ialdN C 10 57 rfl rfl rfl rfl (by show _ < 86; omega) dX6_digest_117 ?_
        refine sv_set (v' := .int (nI m)) (congrArg Value.int (by rw [thr_n (by decide)]; exact hm)) ?_
        refine sv_icmp_geN C 160 dX6_digest_118 (by decide) (by omega) (by omega) (fun q118 => ?_) (fun q118 => ?_)
        · refine sv_iconst (v := nI 0) C dX6_digest_160 (by decide) ?_
          refine sv_istore_n (i := 3) C [(0, .ref (sv_r G 19 0)), (1, .long (mxP (M 10) i (mxF m (M 10) 8 (mxI (fun i => M 10 i) 4 (mxI (fun i => couv (M 10) kp i) 11 3061))))), (3, .int (nI 0))] dX6_digest_161 rfl (by decide) rfl ?_
          rw [show i = m from by omega]
          refine sv_wd sv_W2_id ?_
          refine sv_loop (N := 4) (I := fun k9 => True) (Wf := fun k9 => sv_W2 G z (thr 0 M) o) (Lf := fun k9 => [(0, .ref (sv_r G 19 0)), (1, .long (mxI O9 k9 (mxP (M 10) m (mxF m (M 10) 8 (mxI (fun i => M 10 i) 4 (mxI (fun i => couv (M 10) kp i) 11 3061)))))), (3, .int (nI k9))]) 0 (Nat.zero_le _) trivial (fun k9 hk90 hk9 hIk9 ihk9 => ?_)
          refine sv_iload_n (i := 3) (x := nI k9) C dX6_digest_162 rfl rfl ?_
          refine sv_iconst (v := nI 4) C dX6_digest_163 (by decide) ?_
          refine sv_icmp_geN C 188 dX6_digest_164 (by decide) (by omega) (by omega) (fun q164 => ?_) (fun q164 => ?_)
          · rw [show k9 = 4 from by omega]
            refine sv_exW2 (fun y2 a2 b2 => ?_)
            refine sv_ldc2 (v := (31)) C dX6_digest_188 kw_970 ?_
            refine sv_ldc2 (v := (31)) C dX6_digest_191 kw_970 ?_
            refine sv_lload_n (i := 1) (x := rdg5 (M 10) m kp O9) C dX6_digest_194 rfl rfl ?_
            refine sv_lmul C dX6_digest_195 ?_
            refine sv_aload_n (i := 0) (x := sv_r G 19 0) C dX6_digest_196 rfl rfl ?_
            refine sv_iconst (v := nI 0) C dX6_digest_197 (by decide) ?_
            refine sv_bipush (v := nI 7) C dX6_digest_198 (by decide) ?_
            refine sv_aload_n (i := 0) (x := sv_r G 19 0) C dX6_digest_200 rfl rfl ?_
            refine sv_get_6_0 C kw_722 dX6_digest_201 ?_
            refine sv_iconst (v := nI 0) C dX6_digest_204 (by decide) ?_
            refine sv_ialdN C 10 0 rfl rfl rfl rfl (by show _ < 86; omega) dX6_digest_205 ?_
            refine sv_set (v' := .int (M 10 0)) (congrArg Value.int (by rw [sv_un (show 10 ≠ 11 by decide), sv_un (show 10 ≠ 15 by decide), thr_n (by decide)])) ?_
            refine sv_callV (as := [_, _, _]) (rest := [_, _]) C (met_R_walked l G _ _ _ (nI 0) (nI 7) (M 10 0) _ (by decide) m (by rw [sv_un (show 10 ≠ 11 by decide), sv_un (show 10 ≠ 15 by decide), thr_n (by decide)]; exact hm) hm7 (by rw [sv_un (show 10 ≠ 11 by decide), sv_un (show 10 ≠ 15 by decide), thr_n (by decide)]; exact hd1)) fX6_walked kw_934 (sv_recv19 C) ⟨Nat.le_of_ble_eq_true rfl, Nat.le_of_ble_eq_true rfl⟩ (Nat.le_of_ble_eq_true rfl) dX6_digest_206 ⟨Nat.zero_le _, Nat.zero_le _⟩  ?_
            refine sv_riS D1 rfl ?_
            refine sv_wd sv_W2_2 ?_
            refine sv_exW2 (fun y3 a3 b3 => ?_)
            refine sv_i2l C dX6_digest_209 ?_
            refine sv_ladd C dX6_digest_210 ?_
            refine sv_lmul C dX6_digest_211 ?_
            refine sv_aload_n (i := 0) (x := sv_r G 19 0) C dX6_digest_212 rfl rfl ?_
            refine sv_bipush (v := nI 6) C dX6_digest_213 (by decide) ?_
            refine sv_iconst (v := nI 2) C dX6_digest_215 (by decide) ?_
            refine sv_aload_n (i := 0) (x := sv_r G 19 0) C dX6_digest_216 rfl rfl ?_
            refine sv_get_6_0 C kw_722 dX6_digest_217 ?_
            refine sv_iconst (v := nI 0) C dX6_digest_220 (by decide) ?_
            refine sv_ialdN C 10 0 rfl rfl rfl rfl (by show _ < 86; omega) dX6_digest_221 ?_
            refine sv_set (v' := .int (M 10 0)) (congrArg Value.int (by rw [sv_un (show 10 ≠ 11 by decide), sv_un (show 10 ≠ 15 by decide), thr_n (by decide)])) ?_
            refine sv_callV (as := [_, _, _]) (rest := [_]) C (met_R_walked l G _ _ _ (nI 6) (nI 2) (M 10 0) _ (by decide) m (by rw [sv_un (show 10 ≠ 11 by decide), sv_un (show 10 ≠ 15 by decide), thr_n (by decide)]; exact hm) hm7 (by rw [sv_un (show 10 ≠ 11 by decide), sv_un (show 10 ≠ 15 by decide), thr_n (by decide)]; exact hd2)) fX6_walked kw_934 (sv_recv19 C) ⟨Nat.le_of_ble_eq_true rfl, Nat.le_of_ble_eq_true rfl⟩ (Nat.le_of_ble_eq_true rfl) dX6_digest_222 ⟨Nat.zero_le _, Nat.zero_le _⟩  ?_
            refine sv_riS D2 rfl ?_
            refine sv_wd sv_W2_2 ?_
            refine sv_exW2 (fun y4 a4 b4 => ?_)
            refine sv_i2l C dX6_digest_225 ?_
            refine sv_ladd C dX6_digest_226 ?_
            refine sv_lstore_n (i := 1) C [(0, .ref (sv_r G 19 0)), (1, .long (31 * (31 * rdg5 (M 10) m kp O9 + Int32.toInt64 D1) + Int32.toInt64 D2)), (3, .int (nI 4))] dX6_digest_227 rfl (by decide) rfl ?_
            refine sv_ldc2 (v := (31)) C dX6_digest_228 kw_970 ?_
            refine sv_ldc2 (v := (31)) C dX6_digest_231 kw_970 ?_
            refine sv_lload_n (i := 1) (x := 31 * (31 * rdg5 (M 10) m kp O9 + Int32.toInt64 D1) + Int32.toInt64 D2) C dX6_digest_234 rfl rfl ?_
            refine sv_lmul C dX6_digest_235 ?_
            refine sv_aload_n (i := 0) (x := sv_r G 19 0) C dX6_digest_236 rfl rfl ?_
            refine sv_iconst (v := nI 1) C dX6_digest_237 (by decide) ?_
            refine sv_iconst (v := nI 5) C dX6_digest_238 (by decide) ?_
            refine sv_callV (as := [_, _]) (rest := [_, _]) C (met_R_least l G _ _ _ (nI 1) (nI 5) (by decide) m (by rw [sv_un (show 10 ≠ 11 by decide), sv_un (show 10 ≠ 15 by decide), thr_n (by decide)]; exact hm) hm7 _ (by rw [sv_un (show 10 ≠ 11 by decide), sv_un (show 10 ≠ 15 by decide), thr_n (by decide)]; exact hd9)) fX6_least kw_945 (sv_recv19 C) ⟨Nat.le_of_ble_eq_true rfl, Nat.le_of_ble_eq_true rfl⟩ (Nat.le_of_ble_eq_true rfl) dX6_digest_239 ⟨Nat.zero_le _, Nat.zero_le _⟩  ?_
            refine sv_riS (nI (lsN D9 199).1) rfl ?_
            refine sv_wd sv_W2_2 ?_
            refine sv_exW2 (fun y5 a5 b5 => ?_)
            refine sv_i2l C dX6_digest_242 ?_
            refine sv_ladd C dX6_digest_243 ?_
            refine sv_lmul C dX6_digest_244 ?_
            refine sv_aload_n (i := 0) (x := sv_r G 19 0) C dX6_digest_245 rfl rfl ?_
            refine sv_callV (as := []) (rest := [_]) C (met_R_missed l G _ _ _) fX6_missed kw_953 (sv_recv19 C) ⟨Nat.le_of_ble_eq_true rfl, Nat.le_of_ble_eq_true rfl⟩ (Nat.le_of_ble_eq_true rfl) dX6_digest_246 ⟨Nat.zero_le _, Nat.zero_le _⟩  ?_
            refine sv_riS (mm (M 10) 8) (by rw [sv_un (show 10 ≠ 11 by decide), sv_un (show 10 ≠ 15 by decide), thr_n (by decide)]) ?_
            refine sv_i2l C dX6_digest_249 ?_
            refine sv_ladd C dX6_digest_250 ?_
            refine sv_lstore_n (i := 1) C [(0, .ref (sv_r G 19 0)), (1, .long (31 * (31 * (31 * (31 * rdg5 (M 10) m kp O9 + Int32.toInt64 D1) + Int32.toInt64 D2) + Int32.toInt64 (nI (lsN D9 199).1)) + Int32.toInt64 (mm (M 10) 8))), (3, .int (nI 4))] dX6_digest_251 rfl (by decide) rfl ?_
            refine sv_ldc2 (v := (31)) C dX6_digest_252 kw_970 ?_
            refine sv_ldc2 (v := (31)) C dX6_digest_255 kw_970 ?_
            refine sv_lload_n (i := 1) (x := 31 * (31 * (31 * (31 * rdg5 (M 10) m kp O9 + Int32.toInt64 D1) + Int32.toInt64 D2) + Int32.toInt64 (nI (lsN D9 199).1)) + Int32.toInt64 (mm (M 10) 8)) C dX6_digest_258 rfl rfl ?_
            refine sv_lmul C dX6_digest_259 ?_
            refine sv_aload_n (i := 0) (x := sv_r G 19 0) C dX6_digest_260 rfl rfl ?_
            refine sv_callV (as := []) (rest := [_, _]) C (met_R_share l G _ _ _ (by rw [sv_un (show 10 ≠ 11 by decide), sv_un (show 10 ≠ 15 by decide), thr_n (by decide)]; exact hn)) fX6_share kw_961 (sv_recv19 C) ⟨Nat.le_of_ble_eq_true rfl, Nat.le_of_ble_eq_true rfl⟩ (Nat.le_of_ble_eq_true rfl) dX6_digest_261 ⟨Nat.zero_le _, Nat.zero_le _⟩  ?_
            refine sv_rd (fun v261 e261 => ?_)
            rw [show v261 = rsh (M 10) from by rw [e261]; rw [sv_un (show 10 ≠ 11 by decide), sv_un (show 10 ≠ 15 by decide), thr_n (by decide)]]
            refine sv_callS (as := [_]) (rest := [_, _]) C (hbits _) fJxe99ae_doubleToLongBits_ccdee kw_971 ⟨Nat.le_of_ble_eq_true rfl, Nat.le_of_ble_eq_true rfl⟩ (Nat.le_of_ble_eq_true rfl) dX6_digest_264 ⟨Nat.zero_le _, Nat.zero_le _⟩  ?_
            refine sv_rlS ?_
            refine sv_ladd C dX6_digest_267 ?_
            refine sv_lmul C dX6_digest_268 ?_
            refine sv_aload_n (i := 0) (x := sv_r G 19 0) C dX6_digest_269 rfl rfl ?_
            refine sv_get_6_5 C kw_727 dX6_digest_270 ?_
            refine sv_set (v' := .int (nI n9)) (congrArg Value.int (by rw [sv_un (show 15 ≠ 11 by decide), sv_us, upd_n (show 1 ≠ 7 by decide), upd_n (show 1 ≠ 6 by decide), thr_15 (by decide)]; exact hn9)) ?_
            refine sv_i2l C dX6_digest_273 ?_
            refine sv_ladd C dX6_digest_274 ?_
            refine sv_lstore_n (i := 1) C [(0, .ref (sv_r G 19 0)), (1, .long (31 * rdg10 (M 10) m kp O9 D1 D2 (lsN D9 199).1 bits + Int32.toInt64 (nI n9))), (3, .int (nI 4))] dX6_digest_275 rfl (by decide) rfl ?_
            refine sv_iconst (v := nI 0) C dX6_digest_276 (by decide) ?_
            refine sv_istore_n (i := 3) C [(0, .ref (sv_r G 19 0)), (1, .long (31 * rdg10 (M 10) m kp O9 D1 D2 (lsN D9 199).1 bits + Int32.toInt64 (nI n9))), (3, .int (nI 0))] dX6_digest_277 rfl (by decide) rfl ?_
            refine sv_loop (N := n9) (I := fun i => True) (Wf := fun i => sv_W G z (sv_u (sv_u (thr 0 M) 15 (upd (upd (thr 0 M 15) 6 a5) 7 b5)) 11 y5) o) (Lf := fun i => [(0, .ref (sv_r G 19 0)), (1, .long (mxI (M 13) i (31 * rdg10 (M 10) m kp O9 D1 D2 (lsN D9 199).1 bits + Int32.toInt64 (nI n9)))), (3, .int (nI i))]) 0 (Nat.zero_le _) trivial (fun i hi0 hi hIi ihi => ?_)
            refine sv_iload_n (i := 3) (x := nI i) C dX6_digest_278 rfl rfl ?_
            refine sv_aload_n (i := 0) (x := sv_r G 19 0) C dX6_digest_279 rfl rfl ?_
            refine sv_get_6_5 C kw_727 dX6_digest_280 ?_
            refine sv_set (v' := .int (nI n9)) (congrArg Value.int (by rw [sv_un (show 15 ≠ 11 by decide), sv_us, upd_n (show 1 ≠ 7 by decide), upd_n (show 1 ≠ 6 by decide), thr_15 (by decide)]; exact hn9)) ?_
            refine sv_icmp_geN C 306 dX6_digest_283 (by decide) (by omega) (by omega) (fun q283 => ?_) (fun q283 => ?_)
            · refine sv_lload_n (i := 1) (x := mxI (M 13) i (31 * rdg10 (M 10) m kp O9 D1 D2 (lsN D9 199).1 bits + Int32.toInt64 (nI n9))) C dX6_digest_306 rfl rfl ?_
              exact sv_lret C hr dX6_digest_307 (Nat.le_of_ble_eq_true rfl) (Nat.le_of_ble_eq_true rfl) (by rw [show i = n9 from by omega]; rfl) (fun H h => sv_W2_of H h)
            · refine sv_ldc2 (v := (31)) C dX6_digest_286 kw_970 ?_
              refine sv_lload_n (i := 1) (x := mxI (M 13) i (31 * rdg10 (M 10) m kp O9 D1 D2 (lsN D9 199).1 bits + Int32.toInt64 (nI n9))) C dX6_digest_289 rfl rfl ?_
              refine sv_lmul C dX6_digest_290 ?_
              refine sv_aload_n (i := 0) (x := sv_r G 19 0) C dX6_digest_291 rfl rfl ?_
              refine sv_get_6_4 C kw_726 dX6_digest_292 ?_
              refine sv_iload_n (i := 3) (x := nI i) C dX6_digest_295 rfl rfl ?_
              refine sv_ialdN C 13 i rfl rfl rfl rfl (by show _ < 60; omega) dX6_digest_296 ?_
              refine sv_set (v' := .int (M 13 i)) (congrArg Value.int (by rw [sv_un (show 13 ≠ 11 by decide), sv_un (show 13 ≠ 15 by decide), thr_n (by decide)])) ?_
              refine sv_i2l C dX6_digest_297 ?_
              refine sv_ladd C dX6_digest_298 ?_
              refine sv_lstore_n (i := 1) C [(0, .ref (sv_r G 19 0)), (1, .long (mxI (M 13) (i + 1) (31 * rdg10 (M 10) m kp O9 D1 D2 (lsN D9 199).1 bits + Int32.toInt64 (nI n9)))), (3, .int (nI i))] dX6_digest_299 rfl (by decide) rfl ?_
              refine sv_iinc (i := 3) (x := nI i) C (nI (i + 1)) [(0, .ref (sv_r G 19 0)), (1, .long (mxI (M 13) (i + 1) (31 * rdg10 (M 10) m kp O9 D1 D2 (lsN D9 199).1 bits + Int32.toInt64 (nI n9)))), (3, .int (nI (i + 1)))] dX6_digest_300 rfl (sv_incN i 1) (by decide) rfl ?_
              refine sv_goto C 278 dX6_digest_303 (by decide) ?_
              exact ihi (by omega) trivial
          · refine sv_ldc2 (v := (31)) C dX6_digest_167 kw_970 ?_
            refine sv_lload_n (i := 1) (x := mxI O9 k9 (mxP (M 10) m (mxF m (M 10) 8 (mxI (fun i => M 10 i) 4 (mxI (fun i => couv (M 10) kp i) 11 3061))))) C dX6_digest_170 rfl rfl ?_
            refine sv_lmul C dX6_digest_171 ?_
            refine sv_aload_n (i := 0) (x := sv_r G 19 0) C dX6_digest_172 rfl rfl ?_
            refine sv_bipush (v := nI 30) C dX6_digest_173 (by decide) ?_
            refine sv_iload_n (i := 3) (x := nI k9) C dX6_digest_175 rfl rfl ?_
            refine sv_exW2 (fun y1 a1 b1 => ?_)
            refine sv_callV (as := [_, _]) (rest := [_]) C (met_R_byPassing l G _ _ _ 30 k9 (by omega) (by omega) _ (by rw [sv_un (show 10 ≠ 11 by decide), sv_un (show 10 ≠ 15 by decide), thr_n (by decide)]; exact ho k9 (by omega))) fX6_byPassing kw_926 (sv_recv19 C) ⟨Nat.le_of_ble_eq_true rfl, Nat.le_of_ble_eq_true rfl⟩ (Nat.le_of_ble_eq_true rfl) dX6_digest_176 ⟨Nat.zero_le _, Nat.zero_le _⟩  ?_
            refine sv_riS (O9 k9) rfl ?_
            refine sv_wd sv_W2_2 ?_
            refine sv_i2l C dX6_digest_179 ?_
            refine sv_ladd C dX6_digest_180 ?_
            refine sv_lstore_n (i := 1) C [(0, .ref (sv_r G 19 0)), (1, .long (mxI O9 (k9 + 1) (mxP (M 10) m (mxF m (M 10) 8 (mxI (fun i => M 10 i) 4 (mxI (fun i => couv (M 10) kp i) 11 3061)))))), (3, .int (nI k9))] dX6_digest_181 rfl (by decide) rfl ?_
            refine sv_iinc (i := 3) (x := nI k9) C (nI (k9 + 1)) [(0, .ref (sv_r G 19 0)), (1, .long (mxI O9 (k9 + 1) (mxP (M 10) m (mxF m (M 10) 8 (mxI (fun i => M 10 i) 4 (mxI (fun i => couv (M 10) kp i) 11 3061)))))), (3, .int (nI (k9 + 1)))] dX6_digest_182 rfl (sv_incN k9 1) (by decide) rfl ?_
            refine sv_goto C 162 dX6_digest_185 (by decide) ?_
            exact ihk9 (by omega) trivial
        · refine sv_iconst (v := nI 0) C dX6_digest_121 (by decide) ?_
          refine sv_istore (i := 4) C [(0, .ref (sv_r G 19 0)), (1, .long (mxP (M 10) i (mxF m (M 10) 8 (mxI (fun i => M 10 i) 4 (mxI (fun i => couv (M 10) kp i) 11 3061))))), (3, .int (nI i)), (4, .int (nI 0))] dX6_digest_122 (by decide) rfl ?_
          refine sv_loop (N := 4) (I := fun i2 => True) (Wf := fun i2 => sv_W G z (thr 0 M) o) (Lf := fun i2 => [(0, .ref (sv_r G 19 0)), (1, .long (mxI (fun i2 => M 10 (4 * i + 58 + i2)) i2 (mxP (M 10) i (mxF m (M 10) 8 (mxI (fun i => M 10 i) 4 (mxI (fun i => couv (M 10) kp i) 11 3061)))))), (3, .int (nI i)), (4, .int (nI i2))]) 0 (Nat.zero_le _) trivial (fun i2 hi20 hi2 hIi2 ihi2 => ?_)
          refine sv_iload (i := 4) (x := nI i2) C dX6_digest_124 rfl ?_
          refine sv_iconst (v := nI 4) C dX6_digest_126 (by decide) ?_
          refine sv_icmp_geN C 154 dX6_digest_127 (by decide) (by omega) (by omega) (fun q127 => ?_) (fun q127 => ?_)
          · refine sv_iinc (i := 3) (x := nI i) C (nI (i + 1)) [(0, .ref (sv_r G 19 0)), (1, .long (mxI (fun i2 => M 10 (4 * i + 58 + i2)) i2 (mxP (M 10) i (mxF m (M 10) 8 (mxI (fun i => M 10 i) 4 (mxI (fun i => couv (M 10) kp i) 11 3061)))))), (3, .int (nI (i + 1))), (4, .int (nI i2))] dX6_digest_154 rfl (sv_incN i 1) (by decide) rfl ?_
            refine sv_goto C 110 dX6_digest_157 (by decide) ?_
            refine sv_sub (lv' := [(0, .ref (sv_r G 19 0)), (1, .long (mxI (fun i2 => M 10 (4 * i + 58 + i2)) i2 (mxP (M 10) i (mxF m (M 10) 8 (mxI (fun i => M 10 i) 4 (mxI (fun i => couv (M 10) kp i) 11 3061)))))), (3, .int (nI (i + 1)))]) rfl ?_
            rw [show i2 = 4 from by omega]
            exact ihi (by omega) trivial
          · refine sv_ldc2 (v := (31)) C dX6_digest_130 kw_970 ?_
            refine sv_lload_n (i := 1) (x := mxI (fun i2 => M 10 (4 * i + 58 + i2)) i2 (mxP (M 10) i (mxF m (M 10) 8 (mxI (fun i => M 10 i) 4 (mxI (fun i => couv (M 10) kp i) 11 3061))))) C dX6_digest_133 rfl rfl ?_
            refine sv_lmul C dX6_digest_134 ?_
            refine sv_aload_n (i := 0) (x := sv_r G 19 0) C dX6_digest_135 rfl rfl ?_
            refine sv_get_6_0 C kw_722 dX6_digest_136 ?_
            refine sv_iload_n (i := 3) (x := nI i) C dX6_digest_139 rfl rfl ?_
            refine sv_iload (i := 4) (x := nI i2) C dX6_digest_140 rfl ?_
            refine sv_callS (as := [_, _, _]) (rest := [_]) C (met_R20_by l G _ _ _ i i2 (by omega) (by omega)) fX6_by kw_801 ⟨Nat.le_of_ble_eq_true rfl, Nat.le_of_ble_eq_true rfl⟩ (Nat.le_of_ble_eq_true rfl) dX6_digest_142 ⟨Nat.zero_le _, Nat.zero_le _⟩  ?_
            refine sv_riS (M 10 (4 * i + 58 + i2)) (by rw [thr_n (by decide)]) ?_
            refine sv_i2l C dX6_digest_145 ?_
            refine sv_ladd C dX6_digest_146 ?_
            refine sv_lstore_n (i := 1) C [(0, .ref (sv_r G 19 0)), (1, .long (mxI (fun i2 => M 10 (4 * i + 58 + i2)) (i2 + 1) (mxP (M 10) i (mxF m (M 10) 8 (mxI (fun i => M 10 i) 4 (mxI (fun i => couv (M 10) kp i) 11 3061)))))), (3, .int (nI i)), (4, .int (nI i2))] dX6_digest_147 rfl (by decide) rfl ?_
            refine sv_iinc (i := 4) (x := nI i2) C (nI (i2 + 1)) [(0, .ref (sv_r G 19 0)), (1, .long (mxI (fun i2 => M 10 (4 * i + 58 + i2)) (i2 + 1) (mxP (M 10) i (mxF m (M 10) 8 (mxI (fun i => M 10 i) 4 (mxI (fun i => couv (M 10) kp i) 11 3061)))))), (3, .int (nI i)), (4, .int (nI (i2 + 1)))] dX6_digest_148 rfl (sv_incN i2 1) (by decide) rfl ?_
            refine sv_goto C 124 dX6_digest_151 (by decide) ?_
            exact ihi2 (by omega) trivial
      · refine sv_iconst (v := nI 0) C dX6_digest_71 (by decide) ?_
        refine sv_istore (i := 4) C [(0, .ref (sv_r G 19 0)), (1, .long (mxF m (M 10) i (mxI (fun i => M 10 i) 4 (mxI (fun i => couv (M 10) kp i) 11 3061)))), (3, .int (nI i)), (4, .int (nI 0))] dX6_digest_72 (by decide) rfl ?_
        refine sv_loop (N := 8) (I := fun i2 => True) (Wf := fun i2 => sv_W G z (thr 0 M) o) (Lf := fun i2 => [(0, .ref (sv_r G 19 0)), (1, .long (mxI (fun i2 => fnv m (M 10) i i2) i2 (mxF m (M 10) i (mxI (fun i => M 10 i) 4 (mxI (fun i => couv (M 10) kp i) 11 3061))))), (3, .int (nI i)), (4, .int (nI i2))]) 0 (Nat.zero_le _) trivial (fun i2 hi20 hi2 hIi2 ihi2 => ?_)
        refine sv_iload (i := 4) (x := nI i2) C dX6_digest_74 rfl ?_
        refine sv_bipush (v := nI 8) C dX6_digest_76 (by decide) ?_
        refine sv_icmp_geN C 102 dX6_digest_78 (by decide) (by omega) (by omega) (fun q78 => ?_) (fun q78 => ?_)
        · refine sv_iinc (i := 3) (x := nI i) C (nI (i + 1)) [(0, .ref (sv_r G 19 0)), (1, .long (mxI (fun i2 => fnv m (M 10) i i2) i2 (mxF m (M 10) i (mxI (fun i => M 10 i) 4 (mxI (fun i => couv (M 10) kp i) 11 3061))))), (3, .int (nI (i + 1))), (4, .int (nI i2))] dX6_digest_102 rfl (sv_incN i 1) (by decide) rfl ?_
          refine sv_goto C 65 dX6_digest_105 (by decide) ?_
          refine sv_sub (lv' := [(0, .ref (sv_r G 19 0)), (1, .long (mxI (fun i2 => fnv m (M 10) i i2) i2 (mxF m (M 10) i (mxI (fun i => M 10 i) 4 (mxI (fun i => couv (M 10) kp i) 11 3061))))), (3, .int (nI (i + 1)))]) rfl ?_
          rw [show i2 = 8 from by omega]
          exact ihi (by omega) trivial
        · refine sv_ldc2 (v := (31)) C dX6_digest_81 kw_970 ?_
          refine sv_lload_n (i := 1) (x := mxI (fun i2 => fnv m (M 10) i i2) i2 (mxF m (M 10) i (mxI (fun i => M 10 i) 4 (mxI (fun i => couv (M 10) kp i) 11 3061)))) C dX6_digest_84 rfl rfl ?_
          refine sv_lmul C dX6_digest_85 ?_
          refine sv_aload_n (i := 0) (x := sv_r G 19 0) C dX6_digest_86 rfl rfl ?_
          refine sv_iload_n (i := 3) (x := nI i) C dX6_digest_87 rfl rfl ?_
          refine sv_iload (i := 4) (x := nI i2) C dX6_digest_88 rfl ?_
          refine sv_callV (as := [_, _]) (rest := [_]) C (met_R_ofFloor l G _ _ _ i i2 (by omega) (by omega) m (by rw [thr_n (by decide)]; exact hm) hm7) fX6_ofFloor kw_899 (sv_recv19 C) ⟨Nat.le_of_ble_eq_true rfl, Nat.le_of_ble_eq_true rfl⟩ (Nat.le_of_ble_eq_true rfl) dX6_digest_90 ⟨Nat.zero_le _, Nat.zero_le _⟩  ?_
          refine sv_riS (fnv m (M 10) i i2) (by rw [thr_n (by decide)]) ?_
          refine sv_i2l C dX6_digest_93 ?_
          refine sv_ladd C dX6_digest_94 ?_
          refine sv_lstore_n (i := 1) C [(0, .ref (sv_r G 19 0)), (1, .long (mxI (fun i2 => fnv m (M 10) i i2) (i2 + 1) (mxF m (M 10) i (mxI (fun i => M 10 i) 4 (mxI (fun i => couv (M 10) kp i) 11 3061))))), (3, .int (nI i)), (4, .int (nI i2))] dX6_digest_95 rfl (by decide) rfl ?_
          refine sv_iinc (i := 4) (x := nI i2) C (nI (i2 + 1)) [(0, .ref (sv_r G 19 0)), (1, .long (mxI (fun i2 => fnv m (M 10) i i2) (i2 + 1) (mxF m (M 10) i (mxI (fun i => M 10 i) 4 (mxI (fun i => couv (M 10) kp i) 11 3061))))), (3, .int (nI i)), (4, .int (nI (i2 + 1)))] dX6_digest_96 rfl (sv_incN i2 1) (by decide) rfl ?_
          refine sv_goto C 74 dX6_digest_99 (by decide) ?_
          exact ihi2 (by omega) trivial
    · refine sv_ldc2 (v := (31)) C dX6_digest_43 kw_970 ?_
      refine sv_lload_n (i := 1) (x := mxI (fun i => M 10 i) j (mxI (fun i => couv (M 10) kp i) 11 3061)) C dX6_digest_46 rfl rfl ?_
      refine sv_lmul C dX6_digest_47 ?_
      refine sv_aload_n (i := 0) (x := sv_r G 19 0) C dX6_digest_48 rfl rfl ?_
      refine sv_get_6_0 C kw_722 dX6_digest_49 ?_
      refine sv_iload_n (i := 3) (x := nI j) C dX6_digest_52 rfl rfl ?_
      refine sv_ialdN C 10 j rfl rfl rfl rfl (by show _ < 86; omega) dX6_digest_53 ?_
      refine sv_set (v' := .int (M 10 j)) (congrArg Value.int (by rw [thr_n (by decide)])) ?_
      refine sv_i2l C dX6_digest_54 ?_
      refine sv_ladd C dX6_digest_55 ?_
      refine sv_lstore_n (i := 1) C [(0, .ref (sv_r G 19 0)), (1, .long (mxI (fun i => M 10 i) (j + 1) (mxI (fun i => couv (M 10) kp i) 11 3061))), (3, .int (nI j))] dX6_digest_56 rfl (by decide) rfl ?_
      refine sv_iinc (i := 3) (x := nI j) C (nI (j + 1)) [(0, .ref (sv_r G 19 0)), (1, .long (mxI (fun i => M 10 i) (j + 1) (mxI (fun i => couv (M 10) kp i) 11 3061))), (3, .int (nI (j + 1)))] dX6_digest_57 rfl (sv_incN j 1) (by decide) rfl ?_
      refine sv_goto C 38 dX6_digest_60 (by decide) ?_
      exact ihj (by omega) trivial
  · refine sv_ldc2 (v := (31)) C dX6_digest_17 kw_970 ?_
    refine sv_lload_n (i := 1) (x := mxI (fun i => couv (M 10) kp i) i 3061) C dX6_digest_20 rfl rfl ?_
    refine sv_lmul C dX6_digest_21 ?_
    refine sv_aload_n (i := 0) (x := sv_r G 19 0) C dX6_digest_22 rfl rfl ?_
    refine sv_iload_n (i := 3) (x := nI i) C dX6_digest_23 rfl rfl ?_
    refine sv_callV (as := [_]) (rest := [_]) C (met_R_counted l G _ _ _ i (by omega) kp (by rw [thr_15 (by decide)]; exact hkp)) fX6_counted kw_911 (sv_recv19 C) ⟨Nat.le_of_ble_eq_true rfl, Nat.le_of_ble_eq_true rfl⟩ (Nat.le_of_ble_eq_true rfl) dX6_digest_24 ⟨Nat.zero_le _, Nat.zero_le _⟩  ?_
    refine sv_riS (couv (M 10) kp i) (by rw [thr_n (by decide)]) ?_
    refine sv_i2l C dX6_digest_27 ?_
    refine sv_ladd C dX6_digest_28 ?_
    refine sv_lstore_n (i := 1) C [(0, .ref (sv_r G 19 0)), (1, .long (mxI (fun i => couv (M 10) kp i) (i + 1) 3061)), (3, .int (nI i))] dX6_digest_29 rfl (by decide) rfl ?_
    refine sv_iinc (i := 3) (x := nI i) C (nI (i + 1)) [(0, .ref (sv_r G 19 0)), (1, .long (mxI (fun i => couv (M 10) kp i) (i + 1) 3061)), (3, .int (nI (i + 1)))] dX6_digest_30 rfl (sv_incN i 1) (by decide) rfl ?_
    refine sv_goto C 11 dX6_digest_33 (by decide) ?_
    exact ihi (by omega) trivial

