/-! the law: what is known at its start; its own rows -/
theorem lw_in {w : Cond} (i : Nat) (h : lw_tbl[i]? = some w) : w ∈ lw_tbl := List.mem_of_getElem? h
theorem sv_sub_tbl {w : Cond} (h : w ∈ sv_tbl) : w ∈ lw_tbl := (List.mem_filter.mp h).1
theorem sk_str {s : State} {args : Array Value} {own tx : String} {k : Nat} (h1 : (Cond.stringRef own k tx).before args s = true) (h2 : (Cond.exactly (.string own k) "java/lang/String").before args s = true) : ∃ sa, vk_R own k tx sa s := by
  obtain ⟨a, _, _, _, e, _⟩ := Cond.exactly_spec h2
  exact ⟨a, vk_R.of h1 e⟩
theorem sk_row {s : State} {args : Array Value} {A : Nat → Prop} {nm : String} {F : Nat → Int32} (hl : (Cond.laysStatic "StairLight" nm "[I").before args s = true) (hini : (Cond.initialized "StairLight").before args s = true) (harr : (Cond.arrayOf (.static "StairLight" nm "[I") .int).before args s = true) (hlen : (Cond.eq (.length (.static "StairLight" nm "[I")) (.int 4)).before args s = true) (h0 : (Cond.eq (.elem (.static "StairLight" nm "[I") (.int 0)) (.int (F 0))).before args s = true) (h1 : (Cond.eq (.elem (.static "StairLight" nm "[I") (.int 1)) (.int (F 1))).before args s = true) (h2 : (Cond.eq (.elem (.static "StairLight" nm "[I") (.int 2)) (.int (F 2))).before args s = true) (h3 : (Cond.eq (.elem (.static "StairLight" nm "[I") (.int 3)) (.int (F 3))).before args s = true) (hA : ∀ a : Nat, a < s.heap.size → ¬ A a) : ∃ t : Nat, va_Z "StairLight" nm "[I" (.ref t) A s s.heap ∧ va_T .int t 4 (fun j => .int (F j)) A s s.heap := by
  obtain ⟨t, e, hT⟩ := va_Tof (N := 4) (f := fun j => .int (F j)) (A := A) (by decide) harr (va_eqt hlen) (fun j hj => by
    rcases (show j = 0 ∨ j = 1 ∨ j = 2 ∨ j = 3 by omega) with rfl | rfl | rfl | rfl
    · exact va_eqt h0
    · exact va_eqt h1
    · exact va_eqt h2
    · exact va_eqt h3) hA
  exact ⟨t, va_Zof hl hini e hA, hT⟩
theorem sk_arr {s : State} {args : Array Value} {ty : FieldType} (h : (Cond.arrayClass ty).before args s = true) (hra : ∀ (U : State) (cA : ClassId), va_RA U cA ty = (U.vm.findClass ("[" ++ ty.toString) = some cA)) : ∃ cA : ClassId, ArrOfT s cA ty ∧ va_RA s cA ty := by
  obtain ⟨cA, k, comp, h1, h2, h3⟩ := Cond.arrayClass_spec h
  exact ⟨cA, fun n z => ⟨fun k h => (by cases h), k, h2, comp, h3⟩, by rw [hra]; exact h1⟩
theorem sk_arrS {s : State} {args : Array Value} {C : String} (h : (Cond.arrayOver (.object C)).before args s = true) : ∃ cA : ClassId, ArrOfT s cA (.object C) ∧ va_RA s cA (.object C) := by
  obtain ⟨comp, cA, k, h1, _, h2, h3, h4⟩ := Cond.arrayOver_spec h
  exact ⟨cA, fun n z => ⟨fun k h => (by cases h), k, h2, comp, h3⟩, k, comp, h2, h3, h1, h4⟩
set_option maxHeartbeats 8000000 in
set_option maxRecDepth 100000 in
theorem sv_K_start {p : Program} {s : State} {m : MethodId} {meth : Method} {c : Code} {b L : Nat} {xs : Nat → Int32} (C0 : lw_At p s m meth c b L xs) : ∃ G : sv_G, G.1 = s.heap.size ∧ sv_b G = b ∧ sv_L G = L ∧ sv_xs G = xs ∧ sv_K G s := by
  obtain ⟨hx, hb, hr, hml, hown, hts, hX, hbl, hlocks, hgv⟩ := C0
  have hs := flat_of_before _ hgv
  obtain ⟨c0, iS0, hKn0⟩ := u_known (C := RX0) (T := TX0) (N := 6) (n := 6) hts (fun w hw => sv_sub_tbl (sv_lay0 w hw)) (hts _ (sv_sub_tbl kw_36))
  obtain ⟨c1, iS1, hKn1⟩ := u_known (C := RX1) (T := TX1) (N := 3) (n := 3) hts (fun w hw => sv_sub_tbl (sv_lay1 w hw)) (hts _ (sv_sub_tbl kw_137))
  obtain ⟨c2, iS2, hKn2⟩ := u_known (C := RX2) (T := TX2) (N := 6) (n := 6) hts (fun w hw => sv_sub_tbl (sv_lay2 w hw)) (hts _ (sv_sub_tbl kw_73))
  obtain ⟨c3, iS3, hKn3⟩ := u_known (C := RX3) (T := TX3) (N := 7) (n := 7) hts (fun w hw => sv_sub_tbl (sv_lay3 w hw)) (hts _ (sv_sub_tbl kw_30))
  obtain ⟨c4, iS4, hKn4⟩ := u_known (C := RX4) (T := TX4) (N := 2) (n := 2) hts (fun w hw => sv_sub_tbl (sv_lay4 w hw)) (hts _ (sv_sub_tbl kw_157))
  obtain ⟨c5, iS5, hKn5⟩ := u_known (C := RX5) (T := TX5) (N := 4) (n := 4) hts (fun w hw => sv_sub_tbl (sv_lay5 w hw)) (hts _ (sv_sub_tbl kw_22))
  obtain ⟨dC, dI, hKc⟩ : ∃ (dC : Nat → ClassId) (dI : Nat → Nat → Nat), ∀ (k : Nat) (q : vw_C), vwCl[k]? = some q → u_Kn s q.1 q.2.1 q.2.2 (dC k) (dI k) := by
    refine ⟨fun k => if k = 0 then c0 else if k = 1 then c1 else if k = 2 then c2 else if k = 3 then c3 else if k = 4 then c4 else c5, fun k => if k = 0 then iS0 else if k = 1 then iS1 else if k = 2 then iS2 else if k = 3 then iS3 else if k = 4 then iS4 else iS5, ?_⟩
    intro k q hq
    match k, hq with
    | 0, hq => cases hq; exact hKn0
    | 1, hq => cases hq; exact hKn1
    | 2, hq => cases hq; exact hKn2
    | 3, hq => cases hq; exact hKn3
    | 4, hq => cases hq; exact hKn4
    | 5, hq => cases hq; exact hKn5
    | k + 6, hq => simp [vwCl] at hq
  obtain ⟨cI, hI⟩ := sk_arr (hts _ (sv_sub_tbl kw_71)) (fun _ _ => rfl)
  obtain ⟨cC, hC⟩ := sk_arr (hts _ (sv_sub_tbl kw_169)) (fun _ _ => rfl)
  have hao : (Cond.arrayOver (.object "StairLight$Stairs")).before #[Value.ref b] s = true := hts _ (lw_in 143 (by decide +kernel))
  obtain ⟨cS, hS⟩ := sk_arrS hao
  have hA : ∀ a : Nat, a < s.heap.size → ¬ s.heap.size ≤ a := fun a h1 h2 => by omega
  obtain ⟨t0, z0⟩ := sk_row (A := fun q => s.heap.size ≤ q) (F := sv_F 0) (hts (.laysStatic "StairLight" "FIRST_VALUES" "[I") (lw_in 104 (by decide +kernel))) (hts _ (sv_sub_tbl kw_9)) (hs (.arrayOf (.static "StairLight" "FIRST_VALUES" "[I") .int) (by decide +kernel)) (hs (.eq (.length (.static "StairLight" "FIRST_VALUES" "[I")) (.int 4)) (by decide +kernel)) (hs (.eq (.elem (.static "StairLight" "FIRST_VALUES" "[I") (.int 0)) (.int 20)) (by decide +kernel)) (hs (.eq (.elem (.static "StairLight" "FIRST_VALUES" "[I") (.int 1)) (.int 5)) (by decide +kernel)) (hs (.eq (.elem (.static "StairLight" "FIRST_VALUES" "[I") (.int 2)) (.int 0)) (by decide +kernel)) (hs (.eq (.elem (.static "StairLight" "FIRST_VALUES" "[I") (.int 3)) (.int 8)) (by decide +kernel)) hA
  obtain ⟨t1, z1⟩ := sk_row (A := fun q => s.heap.size ≤ q) (F := sv_F 1) (hts (.laysStatic "StairLight" "LEAST_VALUES" "[I") (lw_in 549 (by decide +kernel))) (hts _ (sv_sub_tbl kw_9)) (hs (.arrayOf (.static "StairLight" "LEAST_VALUES" "[I") .int) (by decide +kernel)) (hs (.eq (.length (.static "StairLight" "LEAST_VALUES" "[I")) (.int 4)) (by decide +kernel)) (hs (.eq (.elem (.static "StairLight" "LEAST_VALUES" "[I") (.int 0)) (.int 1)) (by decide +kernel)) (hs (.eq (.elem (.static "StairLight" "LEAST_VALUES" "[I") (.int 1)) (.int 0)) (by decide +kernel)) (hs (.eq (.elem (.static "StairLight" "LEAST_VALUES" "[I") (.int 2)) (.int 0)) (by decide +kernel)) (hs (.eq (.elem (.static "StairLight" "LEAST_VALUES" "[I") (.int 3)) (.int 1)) (by decide +kernel)) hA
  obtain ⟨t2, z2⟩ := sk_row (A := fun q => s.heap.size ≤ q) (F := sv_F 2) (hts (.laysStatic "StairLight" "GREATEST_VALUES" "[I") (lw_in 551 (by decide +kernel))) (hts _ (sv_sub_tbl kw_9)) (hs (.arrayOf (.static "StairLight" "GREATEST_VALUES" "[I") .int) (by decide +kernel)) (hs (.eq (.length (.static "StairLight" "GREATEST_VALUES" "[I")) (.int 4)) (by decide +kernel)) (hs (.eq (.elem (.static "StairLight" "GREATEST_VALUES" "[I") (.int 0)) (.int 200)) (by decide +kernel)) (hs (.eq (.elem (.static "StairLight" "GREATEST_VALUES" "[I") (.int 1)) (.int 60)) (by decide +kernel)) (hs (.eq (.elem (.static "StairLight" "GREATEST_VALUES" "[I") (.int 2)) (.int 1)) (by decide +kernel)) (hs (.eq (.elem (.static "StairLight" "GREATEST_VALUES" "[I") (.int 3)) (.int 60)) (by decide +kernel)) hA
  refine ⟨(s.heap.size, (dC, dI), (cI, cC, cS, b, L, xs), (t0, t1, t2)), rfl, rfl, rfl, rfl, ⟨hKc, fun k q hq => ?_⟩, ⟨z0, z1, z2, ?_⟩, ⟨⟨?_, va_AO.of hao⟩, ?_⟩, ⟨?_, ?_, ?_, ?_⟩, fun w hw => ?_⟩
  · match k, hq with
    | 0, hq => cases hq; exact hI
    | 1, hq => cases hq; exact hC
    | 2, hq => cases hq; exact hS
    | k + 3, hq => simp [sv_tys] at hq
  · obtain ⟨scr, x1, x2, x3, x4, x5⟩ := hX
    exact ⟨scr, x1, x2, x3, by rw [x4]; exact Nat.le_refl _, by rw [x4], x5, hA b hbl⟩
  · exact List.forall_mem_cons.mpr ⟨va_tabs (A := #[Value.ref b]) (u := s) rfl rfl (hts _ (lw_in 105 (by decide +kernel))), List.forall_mem_cons.mpr ⟨va_tabs (A := #[Value.ref b]) (u := s) rfl rfl (hts _ (lw_in 285 (by decide +kernel))), List.forall_mem_cons.mpr ⟨va_tabs (A := #[Value.ref b]) (u := s) rfl rfl (hts _ (lw_in 292 (by decide +kernel))), List.forall_mem_cons.mpr ⟨va_tabs (A := #[Value.ref b]) (u := s) rfl rfl (hts _ (lw_in 341 (by decide +kernel))), List.forall_mem_cons.mpr ⟨va_tabs (A := #[Value.ref b]) (u := s) rfl rfl (hts _ (lw_in 346 (by decide +kernel))), List.forall_mem_cons.mpr ⟨va_tabs (A := #[Value.ref b]) (u := s) rfl rfl (hts _ (lw_in 351 (by decide +kernel))), List.forall_mem_cons.mpr ⟨va_tabs (A := #[Value.ref b]) (u := s) rfl rfl (hts _ (lw_in 368 (by decide +kernel))), List.forall_mem_cons.mpr ⟨va_tabs (A := #[Value.ref b]) (u := s) rfl rfl (hts _ (lw_in 371 (by decide +kernel))), List.forall_mem_cons.mpr ⟨va_tabs (A := #[Value.ref b]) (u := s) rfl rfl (hts _ (lw_in 386 (by decide +kernel))), List.forall_mem_cons.mpr ⟨va_tabs (A := #[Value.ref b]) (u := s) rfl rfl (hts _ (lw_in 387 (by decide +kernel))), List.forall_mem_cons.mpr ⟨va_tabs (A := #[Value.ref b]) (u := s) rfl rfl (hts _ (lw_in 388 (by decide +kernel))), List.forall_mem_cons.mpr ⟨va_tabs (A := #[Value.ref b]) (u := s) rfl rfl (hts _ (lw_in 397 (by decide +kernel))), fun _ h => absurd h List.not_mem_nil⟩⟩⟩⟩⟩⟩⟩⟩⟩⟩⟩⟩
  · exact va_tabs (A := #[Value.ref b]) (u := s) rfl rfl (hts _ (lw_in 103 (by decide +kernel)))
  · exact List.forall_mem_cons.mpr ⟨sk_str (hts _ (lw_in 231 (by decide +kernel))) (hs (.exactly (.string "StairLight" 238) "java/lang/String") (by decide +kernel)), List.forall_mem_cons.mpr ⟨sk_str (hts _ (lw_in 270 (by decide +kernel))) (hs (.exactly (.string "StairLight" 249) "java/lang/String") (by decide +kernel)), List.forall_mem_cons.mpr ⟨sk_str (hts _ (lw_in 319 (by decide +kernel))) (hs (.exactly (.string "StairLight" 245) "java/lang/String") (by decide +kernel)), List.forall_mem_cons.mpr ⟨sk_str (hts _ (lw_in 328 (by decide +kernel))) (hs (.exactly (.string "StairLight" 247) "java/lang/String") (by decide +kernel)), List.forall_mem_cons.mpr ⟨sk_str (hts _ (lw_in 412 (by decide +kernel))) (hs (.exactly (.string "StairLight" 240) "java/lang/String") (by decide +kernel)), List.forall_mem_cons.mpr ⟨sk_str (hts _ (lw_in 452 (by decide +kernel))) (hs (.exactly (.string "StairLight" 193) "java/lang/String") (by decide +kernel)), List.forall_mem_cons.mpr ⟨sk_str (hts _ (lw_in 493 (by decide +kernel))) (hs (.exactly (.string "StairLight" 49) "java/lang/String") (by decide +kernel)), List.forall_mem_cons.mpr ⟨sk_str (hts _ (lw_in 521 (by decide +kernel))) (hs (.exactly (.string "StairLight" 68) "java/lang/String") (by decide +kernel)), List.forall_mem_cons.mpr ⟨sk_str (hts _ (lw_in 552 (by decide +kernel))) (hs (.exactly (.string "StairLight" 134) "java/lang/String") (by decide +kernel)), List.forall_mem_cons.mpr ⟨sk_str (hts _ (lw_in 560 (by decide +kernel))) (hs (.exactly (.string "StairLight" 182) "java/lang/String") (by decide +kernel)), fun _ h => absurd h List.not_mem_nil⟩⟩⟩⟩⟩⟩⟩⟩⟩⟩
  · exact vx_Zqof (hts _ (lw_in 217 (by decide +kernel))) (hts _ (sv_sub_tbl kw_15)) (hs (.isRef (.static "java/lang/Throwable" "UNASSIGNED_STACK" "[Ljava/lang/StackTraceElement;")) (by decide +kernel)) hA
  · exact vx_Zqof (hts _ (lw_in 219 (by decide +kernel))) (hts _ (sv_sub_tbl kw_15)) (hs (.isRef (.static "java/lang/Throwable" "SUPPRESSED_SENTINEL" "Ljava/util/List;")) (by decide +kernel)) hA
  · exact List.forall_mem_cons.mpr ⟨va_tabs (A := #[Value.ref b]) (u := s) rfl rfl (hts _ (lw_in 192 (by decide +kernel))), List.forall_mem_cons.mpr ⟨va_tabs (A := #[Value.ref b]) (u := s) rfl rfl (hts _ (lw_in 263 (by decide +kernel))), List.forall_mem_cons.mpr ⟨va_tabs (A := #[Value.ref b]) (u := s) rfl rfl (hts _ (lw_in 486 (by decide +kernel))), List.forall_mem_cons.mpr ⟨va_tabs (A := #[Value.ref b]) (u := s) rfl rfl (hts _ (lw_in 194 (by decide +kernel))), List.forall_mem_cons.mpr ⟨va_tabs (A := #[Value.ref b]) (u := s) rfl rfl (hts _ (lw_in 196 (by decide +kernel))), List.forall_mem_cons.mpr ⟨va_tabs (A := #[Value.ref b]) (u := s) rfl rfl (hts _ (lw_in 198 (by decide +kernel))), fun _ h => absurd h List.not_mem_nil⟩⟩⟩⟩⟩⟩
  · exact word_at (args := #[Value.ref b]) (State.WarmedH.refl s) (sv_good hw) (hts w (sv_sub_tbl hw))
