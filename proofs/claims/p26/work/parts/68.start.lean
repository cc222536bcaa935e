/-! the law: its loop, its start -/
section LWS
variable {p : Program} {l : Launch} {e : Env} {s : State} {m : MethodId} {below : List Frame} {meth : Method} {c : Code} {G : sv_G} {o : Int64}
theorem lw_loop (C : sv_C p l s m #[Value.ref (sv_b G)] meth c code 19 RL G) (hl : l.stackTraces = false) (hr : meth.sig.returnType = ret) (hlocks : meth.locks = false) (hG : G.1 = s.heap.size) (hL : sv_L G ≤ 260) (T : Nat) (hT : T ≤ 44) : ∀ t j k n z M od hd, t + j = T → k = 117 + 4 * j → n = 867 + 24 * j → inw j (140 * j) od hd M → sv_V p l e room_1 s m #[Value.ref (sv_b G)] below meth c 19 G (lw_Z below #[Value.ref (sv_b G)] s) k n (sv_W G z M o) 32 [(0, .ref (sv_b G)), (1, .ref (sv_r G 14 0)), (2, .int (nI 1)), (3, .int (nI T)), (4, .int (nI j))] [] := by
  intro t
  induction t with
  | zero =>
    intro j k n z M od hd hj hk hn h
    refine sv_iload (i := 4) (x := nI j) C dL_law_32 rfl ?_
    refine sv_iload_n (i := 3) (x := nI T) C dL_law_34 rfl rfl ?_
    refine sv_icmp_geN C 413 dL_law_35 (by decide) (by omega) (by omega) (fun q35 => ?_) (fun q35 => absurd (by omega) q35)
    exact lw_fin C hr hlocks hG hL j T (by omega) (by omega) h
  | succ t ih =>
    intro j k n z M od hd hj hk hn h
    refine sv_iload (i := 4) (x := nI j) C dL_law_32 rfl ?_
    refine sv_iload_n (i := 3) (x := nI T) C dL_law_34 rfl rfl ?_
    refine sv_icmp_geN C 413 dL_law_35 (by decide) (by omega) (by omega) (fun q35 => absurd q35 (by omega)) (fun q35 => ?_)
    refine sv_iload_n (i := 2) (x := nI 1) C dL_law_38 rfl rfl ?_
    refine sv_if_eq C 413 dL_law_39 (by decide) (fun q39 => absurd q39 (by decide)) (fun _ => ?_)
    exact lw_body C hl hL j T (by omega) hT hk hn h (fun z3 M3 od3 hd3 i3 => ih (j + 1) (k + 4) (n + 24) z3 M3 od3 hd3 (by omega) (by omega) (by omega) (by rw [show 140 * (j + 1) = 140 * j + 140 by omega]; exact i3))
end LWS
set_option maxHeartbeats 8000000 in
set_option maxRecDepth 100000 in
theorem whole_start {p : Program} {e : Env} {s : State} {m : MethodId} {below : List Frame} {meth : Method} {c : Code} (l : Launch) (hflags : l.flags = flags0) {b L : Nat} {xs : Nat → Int32} (hL : L ≤ 260) (C0 : lw_At p s m meth c b L xs) : W p l e room_1 s m #[Value.ref b] below meth c s.heap [] 0 0 (lw_Z below #[Value.ref b] s) (entryFrame m ([Value.ref b] : List Value).toArray 19) := by
  obtain ⟨G, hG, hbG, hLG, _, hK⟩ := sv_K_start C0
  obtain ⟨hx, hb, hr, hml, hown, _, _, _, hlocks, _⟩ := id C0
  clear C0
  subst hbG
  have hL : sv_L G ≤ 260 := by rw [hLG]; exact hL
  have hl : l.stackTraces = false := by
    unfold Launch.stackTraces
    rw [hflags]
    decide +kernel
  have C : sv_C p l s m #[Value.ref (sv_b G)] meth c code 19 RL G := ⟨hx, hb, hml, hown, hlocks, hK⟩
  have hlv := lv_entry ([.ref (sv_b G)]) (n := 19) (Nat.le_of_ble_eq_true rfl)
  rw [lg_entry_eq]
  have key : sv_V p l e room_1 s m #[Value.ref (sv_b G)] below meth c 19 G (lw_Z below #[Value.ref (sv_b G)] s) 0 0 (sl_W G G.1 (fun _ => none)) 0 [(0, .ref (sv_b G))] [] := ?_
  · exact key s.heap [] _ ⟨hG.symm, fun a e h => by cases h⟩ va_S.rf hlv
  refine sl_new C (fs := [.null, .null, .null, .null]) tyX5 tyX5_ok sv_cl5 kw_21 kw_22 kw_9 (by intro j hj; rcases (show j = 0 ∨ j = 1 ∨ j = 2 ∨ j = 3 by omega) with rfl | rfl | rfl | rfl <;> rfl) (Nat.le_of_ble_eq_true rfl) (Nat.le_of_ble_eq_true rfl) dL_law_0 (fun E1 e1 o1 => ?_)
  refine sv_dup C dL_law_3 rfl ?_
  refine sl_call (as := []) (rest := [_]) C (met_X5_init l G G.1 (Nat.le_refl _) E1 e1 (fun b9 hb9 => o1 b9 (by omega))) fX5_init kw_23 ⟨Nat.le_of_ble_eq_true rfl, Nat.le_of_ble_eq_true rfl⟩ (Nat.le_of_ble_eq_true rfl) dL_law_4 ⟨Nat.le_of_ble_eq_true rfl, Nat.le_of_ble_eq_true rfl⟩ ?_
  refine sv_astore_n (i := 1) C [(0, .ref (sv_b G)), (1, .ref (sv_r G 14 0))] dL_law_7 rfl (by decide) rfl ?_
  obtain ⟨E2, hE2⟩ : ∃ E9 : sl_E, E9 = sl_on E1 G.1 117 (slF G G.1) := ⟨_, rfl⟩
  refine sv_wd (Wd' := sl_W G (G.1 + 117) E2) (fun _ h => by rw [hE2]; exact h) ?_
  have q1 : ∀ c, c < 117 → E2 (G.1 + c) = some (slF G G.1 c) := fun c hc => by
    rw [hE2]
    exact sl_oni hc rfl
  refine sv_wd (Wd' := sv_W G (G.1 + 117) M0 0) (fun H h => sv_born q1 H h) ?_
  refine sv_iconst (v := nI 1) C dL_law_8 (by decide) ?_
  refine sv_istore_n (i := 2) C [(0, .ref (sv_b G)), (1, .ref (sv_r G 14 0)), (2, .int (nI 1))] dL_law_9 rfl (by decide) rfl ?_
  refine sv_aload_n (i := 0) (x := sv_b G) C dL_law_10 rfl rfl ?_
  refine sv_sclen C dL_law_11 ?_
  refine sv_iconst (v := nI 3) C dL_law_12 (by decide) ?_
  refine sv_idiv C dL_law_13 (by decide) ?_
  refine sv_set (v' := .int (nI (sv_L G / 3))) (congrArg Value.int (pk_div (by omega) (by decide) (by decide))) ?_
  refine sv_bipush (v := nI 44) C dL_law_14 (by decide) ?_
  refine sv_icmp_leN C 24 dL_law_16 (by decide) (by omega) (by omega) (fun q16 => ?_) (fun q16 => ?_)
  · refine sv_aload_n (i := 0) (x := sv_b G) C dL_law_24 rfl rfl ?_
    refine sv_sclen C dL_law_25 ?_
    refine sv_iconst (v := nI 3) C dL_law_26 (by decide) ?_
    refine sv_idiv C dL_law_27 (by decide) ?_
    refine sv_set (v' := .int (nI (sv_L G / 3))) (congrArg Value.int (pk_div (by omega) (by decide) (by decide))) ?_
    refine sv_istore_n (i := 3) C [(0, .ref (sv_b G)), (1, .ref (sv_r G 14 0)), (2, .int (nI 1)), (3, .int (nI (sv_L G / 3)))] dL_law_28 rfl (by decide) rfl ?_
    refine sv_iconst (v := nI 0) C dL_law_29 (by decide) ?_
    refine sv_istore (i := 4) C [(0, .ref (sv_b G)), (1, .ref (sv_r G 14 0)), (2, .int (nI 1)), (3, .int (nI (sv_L G / 3))), (4, .int (nI 0))] dL_law_30 (by decide) rfl ?_
    exact lw_loop C hl hr hlocks hG hL (sv_L G / 3) (by omega) (sv_L G / 3) 0 _ _ _ M0 0 0 rfl rfl rfl inw_0
  · refine sv_bipush (v := nI 44) C dL_law_19 (by decide) ?_
    refine sv_goto C 28 dL_law_21 (by decide) ?_
    refine sv_istore_n (i := 3) C [(0, .ref (sv_b G)), (1, .ref (sv_r G 14 0)), (2, .int (nI 1)), (3, .int (nI 44))] dL_law_28 rfl (by decide) rfl ?_
    refine sv_iconst (v := nI 0) C dL_law_29 (by decide) ?_
    refine sv_istore (i := 4) C [(0, .ref (sv_b G)), (1, .ref (sv_r G 14 0)), (2, .int (nI 1)), (3, .int (nI 44)), (4, .int (nI 0))] dL_law_30 (by decide) rfl ?_
    exact lw_loop C hl hr hlocks hG hL 44 (by omega) 44 0 _ _ _ M0 0 0 rfl rfl rfl inw_0
