/-! the law: loop, start -/
section LWL
variable {p : Program} {l : Launch} {e : Env} {s : State} {m : MethodId} {below : List Frame} {meth : Method} {c : Code} {G : sv_G} {b L : Nat} {xs : Nat → Int32}
theorem lw_end (C : sv_C p l s m #[Value.ref b] meth c code 9 RL G) (hr : meth.sig.returnType = ret) (hlocks : meth.locks = false) (hG : G.1 = s.heap.size) {k n z : Nat} {M : sv_M} {o : Int64} {lv : List (Nat × Value)} (hk : k ≤ 614530) (hn : n ≤ 7252513) : sv_V p l e room_1 s m #[Value.ref b] below meth c 9 G (lw_Z below #[Value.ref b] s) k n (sv_W G z M o) 1322 lv [] := by
  refine sv_iconst (v := 1) C dL_law_1322 (by decide) ?_
  intro H locs ls h1 h2 h3
  refine va_forget (fun q hq => by have h9 : G.1 ≤ q.base := h2.2.2 q hq; omega) ?_
  refine W.widen hk hn ?_
  refine W.base ?_
  exact lw_ret (d0 := s.drawn) (Drawn.sameBut.refl s.drawn lw_cs) C.1 C.2.1 hr hlocks dL_law_1323
set_option maxHeartbeats 8000000 in
set_option maxRecDepth 100000 in
theorem lw_loop (C : sv_C p l s m #[Value.ref b] meth c code 9 RL G) (hl : l.stackTraces = false) (hr : meth.sig.returnType = ret) (hlocks : meth.locks = false) (hG : G.1 = s.heap.size) (hX : va_X b L xs s s.heap) (hbl : b < s.heap.size) (hL : L ≤ 1536) : ∀ t j i k n z M o Cc B, i = 3 * j → k = 124 + 4 * j → n = 1661 + 24 * j → Cc = 15 * j → B = 50400 * j → L < i + t → i ≤ L + 2 → inv Cc B M → sv_V p l e room_1 s m #[Value.ref b] below meth c 9 G (lw_Z below #[Value.ref b] s) k n (sv_W G z M o) 23 [(0, .ref b), (1, .ref (sv_r G 14 0)), (2, .ref (sv_r G 19 0)), (3, .ref (sv_r G 25 0)), (4, .int (nI i))] [] := by
  have hbA : ¬ sv_A G b := by show ¬ G.1 ≤ b; omega
  intro t
  induction t with
  | zero =>
    intro j i k n z M o Cc B hi hk hn hC hB ht hiL hinv
    refine sv_iload (i := 4) (x := nI i) C dL_law_23 rfl ?_
    refine sv_aload_n (i := 0) (x := b) C dL_law_25 rfl rfl ?_
    refine sv_scrlen C hX hbl hbA dL_law_26 ?_
    refine sv_iconst (v := nI 3) C dL_law_27 (by decide) ?_
    refine sv_isub C dL_law_28 ?_
    refine sv_icmp_gt C 1322 dL_law_29 (by decide) (fun _ => ?_) (fun q9 => ?_)
    · exact lw_end C hr hlocks hG (by omega) (by omega)
    · exfalso
      rcases Nat.lt_or_ge L 3 with h3 | h3
      · exact q9 (Int32.lt_of_lt_of_le (pk_sneg (by decide) h3) (nI_pos' (by omega)))
      · rw [pk_sub h3] at q9
        exact q9 ((nI_ltI (by omega) (by omega)).mpr (by omega))
  | succ t ih =>
    intro j i k n z M o Cc B hi hk hn hC hB ht hiL hinv
    refine sv_iload (i := 4) (x := nI i) C dL_law_23 rfl ?_
    refine sv_aload_n (i := 0) (x := b) C dL_law_25 rfl rfl ?_
    refine sv_scrlen C hX hbl hbA dL_law_26 ?_
    refine sv_iconst (v := nI 3) C dL_law_27 (by decide) ?_
    refine sv_isub C dL_law_28 ?_
    refine sv_icmp_gt C 1322 dL_law_29 (by decide) (fun _ => ?_) (fun q9 => ?_)
    · exact lw_end C hr hlocks hG (by omega) (by omega)
    have hi2 : i + 2 < L := by
      rcases Nat.lt_or_ge L 3 with h3 | h3
      · exact absurd (Int32.lt_of_lt_of_le (pk_sneg (by decide) h3) (nI_pos' (by omega))) q9
      · rw [pk_sub h3] at q9
        rcases Nat.lt_or_ge (L - 3) i with h4 | h4
        · exact absurd ((nI_ltI (by omega) (by omega)).mpr h4) q9
        · omega
    have kk : ∀ z9 M9 o9, inv (Cc + 15) (B + 50400) M9 → sv_V p l e room_1 s m #[Value.ref b] below meth c 9 G (lw_Z below #[Value.ref b] s) (k + 4) (n + 24) (sv_W G z9 M9 o9) 1316 [(0, .ref b), (1, .ref (sv_r G 14 0)), (2, .ref (sv_r G 19 0)), (3, .ref (sv_r G 25 0)), (4, .int (nI i))] [] := fun z9 M9 o9 h9 => by
      refine sv_iinc (i := 4) (x := nI i) C (nI (i + 3)) [(0, .ref b), (1, .ref (sv_r G 14 0)), (2, .ref (sv_r G 19 0)), (3, .ref (sv_r G 25 0)), (4, .int (nI (i + 3)))] dL_law_1316 rfl (sv_incN i 3) (by decide) rfl ?_
      refine sv_goto C 23 dL_law_1319 (by decide) ?_
      exact ih (j + 1) (i + 3) (k + 4) (n + 24) z9 M9 o9 (Cc + 15) (B + 50400) (by omega) (by omega) (by omega) (by omega) (by omega) (by omega) (by omega) h9
    refine sv_aload_n (i := 0) (x := b) C dL_law_32 rfl rfl ?_
    refine sv_iload (i := 4) (x := nI i) C dL_law_33 rfl ?_
    refine sv_scrN C hX hbl hbA (by omega) (by omega) dL_law_35 ?_
    refine sv_bipush (v := nI 31) C dL_law_36 (by decide) ?_
    refine sv_iand C dL_law_38 ?_
    obtain ⟨a, ha, ea⟩ := pk_andE (xs i) (m := nI 31) 5 (by decide)
    refine sv_set (v' := .int (nI a)) (congrArg Value.int ea) ?_
    have ha : a < 32 := ha
    rcases (show a = 0 ∨ a = 1 ∨ a = 2 ∨ a = 3 ∨ a = 4 ∨ a = 5 ∨ a = 6 ∨ a = 7 ∨ a = 8 ∨ a = 9 ∨ a = 10 ∨ a = 11 ∨ a = 12 ∨ a = 13 ∨ a = 14 ∨ a = 15 ∨ a = 16 ∨ a = 17 ∨ a = 18 ∨ a = 19 ∨ a = 20 ∨ a = 21 ∨ a = 22 ∨ 23 ≤ a by omega) with rfl | rfl | rfl | rfl | rfl | rfl | rfl | rfl | rfl | rfl | rfl | rfl | rfl | rfl | rfl | rfl | rfl | rfl | rfl | rfl | rfl | rfl | rfl | h23
    · refine sv_tableIn (off := 105) C 144 dL_law_39 (by decide) (by decide) (by decide) (by decide) ?_
      exact lc_come C hl hX hbl hbA hL hi2 (by omega) (by omega) hinv (by omega) (by omega) kk
    · refine sv_tableIn (off := 173) C 212 dL_law_39 (by decide) (by decide) (by decide) (by decide) ?_
      exact lc_turn C hl hX hbl hbA hL hi2 (by omega) (by omega) hinv (by omega) (by omega) kk
    · refine sv_tableIn (off := 241) C 280 dL_law_39 (by decide) (by decide) (by decide) (by decide) ?_
      exact lc_press C hl hX hbl hbA hL hi2 (by omega) (by omega) hinv (by omega) (by omega) kk
    · refine sv_tableIn (off := 297) C 336 dL_law_39 (by decide) (by decide) (by decide) (by decide) ?_
      exact lc_sensor C hl hX hbl hbA hL hi2 (by omega) (by omega) hinv (by omega) (by omega) kk
    · refine sv_tableIn (off := 381) C 420 dL_law_39 (by decide) (by decide) (by decide) (by decide) ?_
      exact lc_night C hl hX hbl hbA hL hi2 (by omega) (by omega) hinv (by omega) (by omega) kk
    · refine sv_tableIn (off := 422) C 461 dL_law_39 (by decide) (by decide) (by decide) (by decide) ?_
      exact lc_fire C hl hX hbl hbA hL hi2 (by omega) (by omega) hinv (by omega) (by omega) kk
    · refine sv_tableIn (off := 463) C 502 dL_law_39 (by decide) (by decide) (by decide) (by decide) ?_
      exact lc_set C hl hX hbl hbA hL hi2 (by omega) (by omega) hinv (by omega) (by omega) kk
    · refine sv_tableIn (off := 531) C 570 dL_law_39 (by decide) (by decide) (by decide) (by decide) ?_
      exact lc_pass C hl hX hbl hbA hL hi2 (by omega) (by omega) hinv (by omega) (by omega) kk
    · refine sv_tableIn (off := 587) C 626 dL_law_39 (by decide) (by decide) (by decide) (by decide) ?_
      exact lc_append C hl hX hbl hbA hL hi2 (by omega) (by omega) hinv (by omega) (by omega) kk
    · refine sv_tableIn (off := 643) C 682 dL_law_39 (by decide) (by decide) (by decide) (by decide) ?_
      exact lc_clearBuffer C hl hX hbl hbA hL hi2 (by omega) (by omega) hinv (by omega) (by omega) kk
    · refine sv_tableIn (off := 656) C 695 dL_law_39 (by decide) (by decide) (by decide) (by decide) ?_
      exact lc_firstError C hl hX hbl hbA hL hi2 (by omega) (by omega) hinv (by omega) (by omega) kk
    · refine sv_tableIn (off := 669) C 708 dL_law_39 (by decide) (by decide) (by decide) (by decide) ?_
      exact lc_comeAll C hl hX hbl hbA hL hi2 (by omega) (by omega) hinv (by omega) (by omega) kk
    · refine sv_tableIn (off := 713) C 752 dL_law_39 (by decide) (by decide) (by decide) (by decide) ?_
      exact lc_undo C hl hX hbl hbA hL hi2 (by omega) (by omega) hinv (by omega) (by omega) kk
    · refine sv_tableIn (off := 757) C 796 dL_law_39 (by decide) (by decide) (by decide) (by decide) ?_
      exact lc_floor C hl hX hbl hbA hL hi2 (by omega) (by omega) hinv (by omega) (by omega) kk
    · refine sv_tableIn (off := 825) C 864 dL_law_39 (by decide) (by decide) (by decide) (by decide) ?_
      exact lc_person C hl hX hbl hbA hL hi2 (by omega) (by omega) hinv (by omega) (by omega) kk
    · refine sv_tableIn (off := 893) C 932 dL_law_39 (by decide) (by decide) (by decide) (by decide) ?_
      exact lc_count C hl hX hbl hbA hL hi2 (by omega) (by omega) hinv (by omega) (by omega) kk
    · refine sv_tableIn (off := 949) C 988 dL_law_39 (by decide) (by decide) (by decide) (by decide) ?_
      exact lc_setting C hl hX hbl hbA hL hi2 (by omega) (by omega) hinv (by omega) (by omega) kk
    · refine sv_tableIn (off := 1005) C 1044 dL_law_39 (by decide) (by decide) (by decide) (by decide) ?_
      exact lc_ifPassed C hl hX hbl hbA hL hi2 (by omega) (by omega) hinv (by omega) (by omega) kk
    · refine sv_tableIn (off := 1073) C 1112 dL_law_39 (by decide) (by decide) (by decide) (by decide) ?_
      exact lc_dark C hl hX hbl hbA hL hi2 (by omega) (by omega) hinv (by omega) (by omega) kk
    · refine sv_tableIn (off := 1141) C 1180 dL_law_39 (by decide) (by decide) (by decide) (by decide) ?_
      exact lc_leastTime C hl hX hbl hbA hL hi2 (by omega) (by omega) hinv (by omega) (by omega) kk
    · refine sv_tableIn (off := 1209) C 1248 dL_law_39 (by decide) (by decide) (by decide) (by decide) ?_
      exact lc_worst C hl hX hbl hbA hL hi2 (by omega) (by omega) hinv (by omega) (by omega) kk
    · refine sv_tableIn (off := 1222) C 1261 dL_law_39 (by decide) (by decide) (by decide) (by decide) ?_
      exact lc_lightness C hl hX hbl hbA hL hi2 (by omega) (by omega) hinv (by omega) (by omega) kk
    · refine sv_tableIn (off := 1263) C 1302 dL_law_39 (by decide) (by decide) (by decide) (by decide) ?_
      exact lc_digest C hl hX hbl hbA hL hi2 (by omega) (by omega) hinv (by omega) (by omega) kk
    · refine sv_tableOut C 1316 dL_law_39 (Or.inr (by rw [nI_toInt (by omega)]; omega)) (by decide) ?_
      exact sv_widen (by omega) (by omega) (kk z M o (inv_lk hinv lk_r (by omega) (by omega)))
end LWL
set_option maxHeartbeats 8000000 in
set_option maxRecDepth 100000 in
theorem whole_start {p : Program} {e : Env} {s : State} {m : MethodId} {below : List Frame} {meth : Method} {c : Code} (l : Launch) (hflags : l.flags = flags0) {b L : Nat} {xs : Nat → Int32} (hL : L ≤ 1536) (C0 : lw_At p s m meth c b L xs) : W p l e room_1 s m #[Value.ref b] below meth c s.heap [] 0 0 (lw_Z below #[Value.ref b] s) (entryFrame m ([Value.ref b] : List Value).toArray 9) := by
  obtain ⟨G, hG, hK⟩ := sv_K_start C0
  obtain ⟨hx, hb, hr, hml, hown, hts, hX, hbl, hlocks, hgv⟩ := id C0
  have hl : l.stackTraces = false := by
    unfold Launch.stackTraces
    rw [hflags]
    decide +kernel
  have C : sv_C p l s m #[Value.ref b] meth c code 9 RL G := ⟨hx, hb, hml, hown, hlocks, hK⟩
  have hlv := lv_entry ([.ref b]) (n := 9) (Nat.le_of_ble_eq_true rfl)
  rw [lg_entry_eq]
  have key : sv_V p l e room_1 s m #[Value.ref b] below meth c 9 G (lw_Z below #[Value.ref b] s) 0 0 (sl_W G G.1 (fun _ => none)) 0 [(0, .ref b)] [] := ?_
  · exact key s.heap [] _ ⟨hG.symm, fun a e h => by cases h⟩ va_S.rf hlv
  refine sl_new C (fs := [.null, .null, .null, .null]) tyX5 tyX5_ok sv_cl5 kw_43 kw_44 kw_29 (by intro j hj; rcases (show j = 0 ∨ j = 1 ∨ j = 2 ∨ j = 3 by omega) with rfl | rfl | rfl | rfl <;> rfl) (Nat.le_of_ble_eq_true rfl) (Nat.le_of_ble_eq_true rfl) dL_law_0 (fun E1 e1 o1 => ?_)
  refine sv_dup C dL_law_3 rfl ?_
  refine sl_call (as := []) (rest := [_]) C (met_X5_init l G G.1 (Nat.le_refl _) E1 e1 (fun b9 hb9 => o1 b9 (by omega))) fX5_init kw_45 ⟨Nat.le_of_ble_eq_true rfl, Nat.le_of_ble_eq_true rfl⟩ (Nat.le_of_ble_eq_true rfl) dL_law_4 ⟨Nat.le_of_ble_eq_true rfl, Nat.le_of_ble_eq_true rfl⟩ ?_
  refine sv_astore_n (i := 1) C [(0, .ref b), (1, .ref (sv_r G 14 0))] dL_law_7 rfl (by decide) rfl ?_
  obtain ⟨E2, hE2⟩ : ∃ E9 : sl_E, E9 = sl_on E1 G.1 117 (slF G G.1) := ⟨_, rfl⟩
  refine sv_wd (Wd' := sl_W G (G.1 + 117) E2) (fun _ h => by rw [hE2]; exact h) ?_
  have q1 : ∀ c, c < 117 → E2 (G.1 + c) = some (slF G G.1 c) := fun c hc => by
    rw [hE2]
    exact sl_oni hc rfl
  have n2 : ∀ b9, G.1 + 117 ≤ b9 → E2 b9 = none := fun b9 hb9 => by
    rw [hE2, sl_ono (by omega)]
    exact o1 b9 (by omega)
  refine sl_new C (fs := [.null, .null, .null, .int 0, .null, .int 0, .int 0, .int 0, .int 0, .null, .int 0, .int 0, .int 0]) tyX6 tyX6_ok sv_cl6 kw_716 kw_717 kw_35 (by intro j hj; rcases (show j = 0 ∨ j = 1 ∨ j = 2 ∨ j = 3 ∨ j = 4 ∨ j = 5 ∨ j = 6 ∨ j = 7 ∨ j = 8 ∨ j = 9 ∨ j = 10 ∨ j = 11 ∨ j = 12 by omega) with rfl | rfl | rfl | rfl | rfl | rfl | rfl | rfl | rfl | rfl | rfl | rfl | rfl <;> rfl) (Nat.le_of_ble_eq_true rfl) (Nat.le_of_ble_eq_true rfl) dL_law_8 (fun E3 e3 o3 => ?_)
  refine sv_dup C dL_law_11 rfl ?_
  have q1 : ∀ c, c < 117 → E3 (G.1 + c) = some (slF G G.1 c) := fun c hc => (o3 _ (by omega)).trans (q1 c hc)
  have n3 : ∀ b9, G.1 + 117 + 1 ≤ b9 → E3 b9 = none := fun b9 hb9 => (o3 _ (by omega)).trans (n2 b9 (by omega))
  refine sl_call (as := []) (rest := [_]) C (met_X6_init l G (G.1 + 117) (by omega) E3 e3 n3) fX6_init kw_718 ⟨Nat.le_of_ble_eq_true rfl, Nat.le_of_ble_eq_true rfl⟩ (Nat.le_of_ble_eq_true rfl) dL_law_12 ⟨Nat.le_of_ble_eq_true rfl, Nat.le_of_ble_eq_true rfl⟩ ?_
  refine sv_astore_n (i := 2) C [(0, .ref b), (1, .ref (sv_r G 14 0)), (2, .ref (sv_r G 19 0))] dL_law_15 rfl (by decide) rfl ?_
  obtain ⟨E4, hE4⟩ : ∃ E9 : sl_E, E9 = sl_on E3 (G.1 + 117) 6 (rfF G (G.1 + 117)) := ⟨_, rfl⟩
  refine sv_wd (Wd' := sl_W G (G.1 + 123) E4) (fun _ h => by rw [hE4]; exact h) ?_
  have q2 : ∀ c, c < 6 → E4 (G.1 + 117 + c) = some (rfF G (G.1 + 117) c) := fun c hc => by
    rw [hE4]
    exact sl_oni hc rfl
  have q1 : ∀ c, c < 117 → E4 (G.1 + c) = some (slF G G.1 c) := fun c hc => by
    rw [hE4, sl_ono (by omega)]
    exact q1 c hc
  refine sv_iconst (v := nI 1) C dL_law_16 (by decide) ?_
  refine sl_newa C (atype := .long) (ty := .long) (i := nI 1) (N := 1) (t0 := 3) (cA := sv_cL G) (a0 := (1, .inr (.inl fun _ => 0))) rfl kw_981 rfl (fun _ => rfl) rfl (by decide) (by decide) (by decide) (Nat.le_of_ble_eq_true rfl) (Nat.le_of_ble_eq_true rfl) dL_law_17 (fun E5 e5 o5 => ?_)
  refine sv_astore_n (i := 3) C [(0, .ref b), (1, .ref (sv_r G 14 0)), (2, .ref (sv_r G 19 0)), (3, .ref (sv_r G 25 0))] dL_law_19 rfl (by decide) rfl ?_
  refine sv_iconst (v := nI 0) C dL_law_20 (by decide) ?_
  refine sv_istore (i := 4) C [(0, .ref b), (1, .ref (sv_r G 14 0)), (2, .ref (sv_r G 19 0)), (3, .ref (sv_r G 25 0)), (4, .int (nI 0))] dL_law_21 (by decide) rfl ?_
  refine sv_wd (Wd' := sv_W G (G.1 + 124) M0 0) (fun H h => sv_born (fun c hc => (o5 _ (by omega)).trans (q1 c hc)) (fun c hc => (o5 _ (by omega)).trans (q2 c hc)) e5 H h) ?_
  exact lw_loop C hl hr hlocks hG hX hbl hL (L + 1) 0 0 _ _ _ M0 0 0 0 rfl rfl rfl rfl rfl (by omega) (by omega) inv_0
