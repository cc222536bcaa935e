/-! the law: what is known at its start; its own rows -/
theorem lw_in {w : Cond} (i : Nat) (h : lw_tbl[i]? = some w) : w ∈ lw_tbl := List.mem_of_getElem? h
theorem sv_sub_tbl {w : Cond} (h : w ∈ sv_tbl) : w ∈ lw_tbl := (List.mem_filter.mp h).1
theorem sk_str {s : State} {args : Array Value} {own tx : String} {k : Nat} (h1 : (Cond.stringRef own k tx).before args s = true) (h2 : (Cond.exactly (.string own k) "java/lang/String").before args s = true) : ∃ sa, vk_R own k tx sa s := by
  obtain ⟨a, _, _, _, e, _⟩ := Cond.exactly_spec h2
  exact ⟨a, vk_R.of h1 e⟩
theorem sk_row {s : State} {args : Array Value} {A : Nat → Prop} {nm : String} {F : Nat → Int32} (hl : (Cond.laysStatic "StairLight" nm "[I").before args s = true) (hini : (Cond.initialized "StairLight").before args s = true) (harr : (Cond.arrayOf (.static "StairLight" nm "[I") .int).before args s = true) (hlen : (Cond.eq (.length (.static "StairLight" nm "[I")) (.int 4)).before args s = true) (h0 : (Cond.eq (.elem (.static "StairLight" nm "[I") (.int 0)) (.int (F 0))).before args s = true) (h1 : (Cond.eq (.elem (.static "StairLight" nm "[I") (.int 1)) (.int (F 1))).before args s = true) (h2 : (Cond.eq (.elem (.static "StairLight" nm "[I") (.int 2)) (.int (F 2))).before args s = true) (h3 : (Cond.eq (.elem (.static "StairLight" nm "[I") (.int 3)) (.int (F 3))).before args s = true) (hA : ∀ a : Nat, a < s.heap.size → ¬ A a) : ∃ t : Nat, va_Z "StairLight" nm "[I" (.ref t) A s s.heap ∧ va_T .int t 4 (fun j => .int (F j)) A s s.heap := by
  obtain ⟨t, e, hT⟩ := va_Tof (N := 4) (f := fun j => .int (F j)) (A := A) (by decide) harr (va_eqt hlen) (fun j hj => by
    rcases (show j = 0 ∨ j = 1 ∨ j = 2 ∨ j = 3 by omega) with rfl | rfl | rfl | rfl
    · exact va_eqt h0
    · exact va_eqt h1
    · exact va_eqt h2
    · exact va_eqt h3) hA
  exact ⟨t, va_Zof hl hini e hA, hT⟩
theorem sk_arr {s : State} {args : Array Value} {ty : FieldType} (h : (Cond.arrayClass ty).before args s = true) (hra : ∀ (U : State) (cA : ClassId), va_RA U cA ty = (U.vm.findClass ("[" ++ ty.toString) = some cA)) : ∃ cA : ClassId, ArrOfT s cA ty ∧ va_RA s cA ty := by
  obtain ⟨cA, k, comp, h1, h2, h3⟩ := Cond.arrayClass_spec h
  exact ⟨cA, fun n z => ⟨fun k h => (by cases h), k, h2, comp, h3⟩, by rw [hra]; exact h1⟩
theorem sk_arrS {s : State} {args : Array Value} {C : String} (h : (Cond.arrayOver (.object C)).before args s = true) : ∃ cA : ClassId, ArrOfT s cA (.object C) ∧ va_RA s cA (.object C) := by
  obtain ⟨comp, cA, k, h1, _, h2, h3, h4⟩ := Cond.arrayOver_spec h
  exact ⟨cA, fun n z => ⟨fun k h => (by cases h), k, h2, comp, h3⟩, k, comp, h2, h3, h1, h4⟩
set_option maxHeartbeats 8000000 in
set_option maxRecDepth 100000 in
theorem sv_K_start {p : Program} {s : State} {m : MethodId} {meth : Method} {c : Code} {b L : Nat} {xs : Nat → Int32} (C0 : lw_At p s m meth c b L xs) : ∃ G : sv_G, G.1 = s.heap.size ∧ sv_K G s := by
  obtain ⟨hx, hb, hr, hml, hown, hts, hX, hbl, hlocks, hgv⟩ := C0
  have hs := flat_of_before _ hgv
  obtain ⟨c0, iS0, hKn0⟩ := u_known (C := RX0) (T := TX0) (N := 6) (n := 6) hts (fun w hw => sv_sub_tbl (sv_lay0 w hw)) (hts _ (sv_sub_tbl kw_58))
  obtain ⟨c1, iS1, hKn1⟩ := u_known (C := RX1) (T := TX1) (N := 3) (n := 3) hts (fun w hw => sv_sub_tbl (sv_lay1 w hw)) (hts _ (sv_sub_tbl kw_159))
  obtain ⟨c2, iS2, hKn2⟩ := u_known (C := RX2) (T := TX2) (N := 6) (n := 6) hts (fun w hw => sv_sub_tbl (sv_lay2 w hw)) (hts _ (sv_sub_tbl kw_95))
  obtain ⟨c3, iS3, hKn3⟩ := u_known (C := RX3) (T := TX3) (N := 7) (n := 7) hts (fun w hw => sv_sub_tbl (sv_lay3 w hw)) (hts _ (sv_sub_tbl kw_52))
  obtain ⟨c4, iS4, hKn4⟩ := u_known (C := RX4) (T := TX4) (N := 2) (n := 2) hts (fun w hw => sv_sub_tbl (sv_lay4 w hw)) (hts _ (sv_sub_tbl kw_179))
  obtain ⟨c5, iS5, hKn5⟩ := u_known (C := RX5) (T := TX5) (N := 4) (n := 4) hts (fun w hw => sv_sub_tbl (sv_lay5 w hw)) (hts _ (sv_sub_tbl kw_44))
  obtain ⟨c6, iS6, hKn6⟩ := u_known (C := RX6) (T := TX6) (N := 13) (n := 13) hts (fun w hw => sv_sub_tbl (sv_lay6 w hw)) (hts _ (sv_sub_tbl kw_717))
  obtain ⟨dC, dI, hKc⟩ : ∃ (dC : Nat → ClassId) (dI : Nat → Nat → Nat), ∀ (k : Nat) (q : vw_C), vwCl[k]? = some q → u_Kn s q.1 q.2.1 q.2.2 (dC k) (dI k) := by
    refine ⟨fun k => if k = 0 then c0 else if k = 1 then c1 else if k = 2 then c2 else if k = 3 then c3 else if k = 4 then c4 else if k = 5 then c5 else c6, fun k => if k = 0 then iS0 else if k = 1 then iS1 else if k = 2 then iS2 else if k = 3 then iS3 else if k = 4 then iS4 else if k = 5 then iS5 else iS6, ?_⟩
    intro k q hq
    match k, hq with
    | 0, hq => cases hq; exact hKn0
    | 1, hq => cases hq; exact hKn1
    | 2, hq => cases hq; exact hKn2
    | 3, hq => cases hq; exact hKn3
    | 4, hq => cases hq; exact hKn4
    | 5, hq => cases hq; exact hKn5
    | 6, hq => cases hq; exact hKn6
    | k + 7, hq => simp [vwCl] at hq
  obtain ⟨cI, hI⟩ := sk_arr (hts _ (sv_sub_tbl kw_93)) (fun _ _ => rfl)
  obtain ⟨cC, hC⟩ := sk_arr (hts _ (sv_sub_tbl kw_192)) (fun _ _ => rfl)
  obtain ⟨cL, hL⟩ := sk_arr (hts _ (sv_sub_tbl kw_981)) (fun _ _ => rfl)
  have hao : (Cond.arrayOver (.object "StairLight$Stairs")).before #[Value.ref b] s = true := hts _ (lw_in 165 (by decide +kernel))
  obtain ⟨cS, hS⟩ := sk_arrS hao
  have hA : ∀ a : Nat, a < s.heap.size → ¬ s.heap.size ≤ a := fun a h1 h2 => by omega
  obtain ⟨t0, z0⟩ := sk_row (A := fun q => s.heap.size ≤ q) (F := sv_F 0) (hts (.laysStatic "StairLight" "FIRST_VALUES" "[I") (lw_in 126 (by decide +kernel))) (hts _ (sv_sub_tbl kw_29)) (hs (.arrayOf (.static "StairLight" "FIRST_VALUES" "[I") .int) (by decide +kernel)) (hs (.eq (.length (.static "StairLight" "FIRST_VALUES" "[I")) (.int 4)) (by decide +kernel)) (hs (.eq (.elem (.static "StairLight" "FIRST_VALUES" "[I") (.int 0)) (.int 20)) (by decide +kernel)) (hs (.eq (.elem (.static "StairLight" "FIRST_VALUES" "[I") (.int 1)) (.int 5)) (by decide +kernel)) (hs (.eq (.elem (.static "StairLight" "FIRST_VALUES" "[I") (.int 2)) (.int 0)) (by decide +kernel)) (hs (.eq (.elem (.static "StairLight" "FIRST_VALUES" "[I") (.int 3)) (.int 8)) (by decide +kernel)) hA
  obtain ⟨t1, z1⟩ := sk_row (A := fun q => s.heap.size ≤ q) (F := sv_F 1) (hts (.laysStatic "StairLight" "LEAST_VALUES" "[I") (lw_in 430 (by decide +kernel))) (hts _ (sv_sub_tbl kw_29)) (hs (.arrayOf (.static "StairLight" "LEAST_VALUES" "[I") .int) (by decide +kernel)) (hs (.eq (.length (.static "StairLight" "LEAST_VALUES" "[I")) (.int 4)) (by decide +kernel)) (hs (.eq (.elem (.static "StairLight" "LEAST_VALUES" "[I") (.int 0)) (.int 1)) (by decide +kernel)) (hs (.eq (.elem (.static "StairLight" "LEAST_VALUES" "[I") (.int 1)) (.int 0)) (by decide +kernel)) (hs (.eq (.elem (.static "StairLight" "LEAST_VALUES" "[I") (.int 2)) (.int 0)) (by decide +kernel)) (hs (.eq (.elem (.static "StairLight" "LEAST_VALUES" "[I") (.int 3)) (.int 1)) (by decide +kernel)) hA
  obtain ⟨t2, z2⟩ := sk_row (A := fun q => s.heap.size ≤ q) (F := sv_F 2) (hts (.laysStatic "StairLight" "GREATEST_VALUES" "[I") (lw_in 432 (by decide +kernel))) (hts _ (sv_sub_tbl kw_29)) (hs (.arrayOf (.static "StairLight" "GREATEST_VALUES" "[I") .int) (by decide +kernel)) (hs (.eq (.length (.static "StairLight" "GREATEST_VALUES" "[I")) (.int 4)) (by decide +kernel)) (hs (.eq (.elem (.static "StairLight" "GREATEST_VALUES" "[I") (.int 0)) (.int 200)) (by decide +kernel)) (hs (.eq (.elem (.static "StairLight" "GREATEST_VALUES" "[I") (.int 1)) (.int 60)) (by decide +kernel)) (hs (.eq (.elem (.static "StairLight" "GREATEST_VALUES" "[I") (.int 2)) (.int 1)) (by decide +kernel)) (hs (.eq (.elem (.static "StairLight" "GREATEST_VALUES" "[I") (.int 3)) (.int 60)) (by decide +kernel)) hA
  refine ⟨(s.heap.size, (dC, dI), (cI, cC, cS, cL), (t0, t1, t2)), rfl, ⟨hKc, fun k q hq => ?_⟩, ⟨z0, z1, z2⟩, ⟨⟨?_, va_AO.of hao⟩, ?_⟩, ⟨?_, ?_, ?_, ?_, ?_, ?_, ?_⟩, fun w hw => ?_⟩
  · match k, hq with
    | 0, hq => cases hq; exact hI
    | 1, hq => cases hq; exact hC
    | 2, hq => cases hq; exact hS
    | 3, hq => cases hq; exact hL
    | k + 4, hq => simp [sv_tys] at hq
  · exact List.forall_mem_cons.mpr ⟨va_tabs (A := #[Value.ref b]) (u := s) rfl rfl (hts _ (lw_in 127 (by decide +kernel))), List.forall_mem_cons.mpr ⟨va_tabs (A := #[Value.ref b]) (u := s) rfl rfl (hts _ (lw_in 226 (by decide +kernel))), List.forall_mem_cons.mpr ⟨va_tabs (A := #[Value.ref b]) (u := s) rfl rfl (hts _ (lw_in 231 (by decide +kernel))), List.forall_mem_cons.mpr ⟨va_tabs (A := #[Value.ref b]) (u := s) rfl rfl (hts _ (lw_in 247 (by decide +kernel))), List.forall_mem_cons.mpr ⟨va_tabs (A := #[Value.ref b]) (u := s) rfl rfl (hts _ (lw_in 254 (by decide +kernel))), List.forall_mem_cons.mpr ⟨va_tabs (A := #[Value.ref b]) (u := s) rfl rfl (hts _ (lw_in 255 (by decide +kernel))), List.forall_mem_cons.mpr ⟨va_tabs (A := #[Value.ref b]) (u := s) rfl rfl (hts _ (lw_in 258 (by decide +kernel))), List.forall_mem_cons.mpr ⟨va_tabs (A := #[Value.ref b]) (u := s) rfl rfl (hts _ (lw_in 307 (by decide +kernel))), List.forall_mem_cons.mpr ⟨va_tabs (A := #[Value.ref b]) (u := s) rfl rfl (hts _ (lw_in 344 (by decide +kernel))), List.forall_mem_cons.mpr ⟨va_tabs (A := #[Value.ref b]) (u := s) rfl rfl (hts _ (lw_in 378 (by decide +kernel))), List.forall_mem_cons.mpr ⟨va_tabs (A := #[Value.ref b]) (u := s) rfl rfl (hts _ (lw_in 379 (by decide +kernel))), List.forall_mem_cons.mpr ⟨va_tabs (A := #[Value.ref b]) (u := s) rfl rfl (hts _ (lw_in 392 (by decide +kernel))), fun _ h => absurd h List.not_mem_nil⟩⟩⟩⟩⟩⟩⟩⟩⟩⟩⟩⟩
  · exact va_tabs (A := #[Value.ref b]) (u := s) rfl rfl (hts _ (lw_in 125 (by decide +kernel)))
  · exact List.forall_mem_cons.mpr ⟨sk_str (hts _ (lw_in 500 (by decide +kernel))) (hs (.exactly (.string "StairLight" 238) "java/lang/String") (by decide +kernel)), List.forall_mem_cons.mpr ⟨sk_str (hts _ (lw_in 536 (by decide +kernel))) (hs (.exactly (.string "StairLight" 240) "java/lang/String") (by decide +kernel)), List.forall_mem_cons.mpr ⟨sk_str (hts _ (lw_in 552 (by decide +kernel))) (hs (.exactly (.string "StairLight" 49) "java/lang/String") (by decide +kernel)), List.forall_mem_cons.mpr ⟨sk_str (hts _ (lw_in 566 (by decide +kernel))) (hs (.exactly (.string "StairLight" 68) "java/lang/String") (by decide +kernel)), List.forall_mem_cons.mpr ⟨sk_str (hts _ (lw_in 594 (by decide +kernel))) (hs (.exactly (.string "StairLight" 245) "java/lang/String") (by decide +kernel)), List.forall_mem_cons.mpr ⟨sk_str (hts _ (lw_in 595 (by decide +kernel))) (hs (.exactly (.string "StairLight" 134) "java/lang/String") (by decide +kernel)), List.forall_mem_cons.mpr ⟨sk_str (hts _ (lw_in 606 (by decide +kernel))) (hs (.exactly (.string "StairLight" 247) "java/lang/String") (by decide +kernel)), List.forall_mem_cons.mpr ⟨sk_str (hts _ (lw_in 614 (by decide +kernel))) (hs (.exactly (.string "StairLight" 143) "java/lang/String") (by decide +kernel)), List.forall_mem_cons.mpr ⟨sk_str (hts _ (lw_in 615 (by decide +kernel))) (hs (.exactly (.string "StairLight" 148) "java/lang/String") (by decide +kernel)), List.forall_mem_cons.mpr ⟨sk_str (hts _ (lw_in 632 (by decide +kernel))) (hs (.exactly (.string "StairLight" 165) "java/lang/String") (by decide +kernel)), List.forall_mem_cons.mpr ⟨sk_str (hts _ (lw_in 657 (by decide +kernel))) (hs (.exactly (.string "StairLight" 182) "java/lang/String") (by decide +kernel)), List.forall_mem_cons.mpr ⟨sk_str (hts _ (lw_in 672 (by decide +kernel))) (hs (.exactly (.string "StairLight" 249) "java/lang/String") (by decide +kernel)), List.forall_mem_cons.mpr ⟨sk_str (hts _ (lw_in 680 (by decide +kernel))) (hs (.exactly (.string "StairLight" 193) "java/lang/String") (by decide +kernel)), fun _ h => absurd h List.not_mem_nil⟩⟩⟩⟩⟩⟩⟩⟩⟩⟩⟩⟩⟩
  · exact vx_Zqof (hts _ (lw_in 486 (by decide +kernel))) (hts _ (sv_sub_tbl kw_36)) (hs (.isRef (.static "java/lang/Throwable" "UNASSIGNED_STACK" "[Ljava/lang/StackTraceElement;")) (by decide +kernel)) hA
  · exact vx_Zqof (hts _ (lw_in 488 (by decide +kernel))) (hts _ (sv_sub_tbl kw_36)) (hs (.isRef (.static "java/lang/Throwable" "SUPPRESSED_SENTINEL" "Ljava/util/List;")) (by decide +kernel)) hA
  · exact List.forall_mem_cons.mpr ⟨va_tabs (A := #[Value.ref b]) (u := s) rfl rfl (hts _ (lw_in 461 (by decide +kernel))), List.forall_mem_cons.mpr ⟨va_tabs (A := #[Value.ref b]) (u := s) rfl rfl (hts _ (lw_in 529 (by decide +kernel))), List.forall_mem_cons.mpr ⟨va_tabs (A := #[Value.ref b]) (u := s) rfl rfl (hts _ (lw_in 545 (by decide +kernel))), List.forall_mem_cons.mpr ⟨va_tabs (A := #[Value.ref b]) (u := s) rfl rfl (hts _ (lw_in 463 (by decide +kernel))), List.forall_mem_cons.mpr ⟨va_tabs (A := #[Value.ref b]) (u := s) rfl rfl (hts _ (lw_in 465 (by decide +kernel))), List.forall_mem_cons.mpr ⟨va_tabs (A := #[Value.ref b]) (u := s) rfl rfl (hts _ (lw_in 467 (by decide +kernel))), fun _ h => absurd h List.not_mem_nil⟩⟩⟩⟩⟩⟩
  · exact va_Nc.of (hs (.not (.castable "java/lang/IllegalArgumentException" "java/lang/IndexOutOfBoundsException")) (by decide +kernel))
  · exact va_Nc.of (hs (.not (.castable "java/lang/IllegalStateException" "java/lang/IndexOutOfBoundsException")) (by decide +kernel))
  · exact va_Nc.of (hs (.not (.castable "java/lang/IllegalStateException" "java/lang/IllegalArgumentException")) (by decide +kernel))
  · exact word_at (args := #[Value.ref b]) (State.WarmedH.refl s) (sv_good hw) (hts w (sv_sub_tbl hw))
section LWR
variable {p : Program} {l : Launch} {e : Env} {R : Room} {s : State} {m : MethodId} {args : Array Value} {below : List Frame} {meth : Method} {c : Code} {k n nL : Nat} {Q : State → Prop} {G : sv_G} {Wd Wd' : Heap → Prop}
variable {cc : ByteArray} {pc : Nat} {lv lv' : List (Nat × Value)} {st rest : List Value} {own : String}
theorem sv_scr (C : sv_C p l s m args meth c cc nL own G) {b L : Nat} {xs : Nat → Int32} (hX : va_X b L xs s s.heap) (hbl : b < s.heap.size) (hbA : ¬ sv_A G b) {i : Int32} (hin : vp_in i L) (d : decode cc pc = .ok (.iaload, 1)) (kk : sv_V p l e R s m args below meth c nL G Q k n Wd (pc + 1) lv (.int (xs i.toNatClampNeg) :: st)) : sv_V p l e R s m args below meth c nL G Q k n Wd pc lv (.int i :: .ref b :: st) := fun H locs ls h1 h2 h3 => va_sld C.1 C.2.1 hX hbl hbA h2 hin d (kk H locs ls h1 h2 h3)
theorem sv_scrN (C : sv_C p l s m args meth c cc nL own G) {b L : Nat} {xs : Nat → Int32} (hX : va_X b L xs s s.heap) (hbl : b < s.heap.size) (hbA : ¬ sv_A G b) {i : Nat} (hi : i < L) (hL : L < 2147483648) (d : decode cc pc = .ok (.iaload, 1)) (kk : sv_V p l e R s m args below meth c nL G Q k n Wd (pc + 1) lv (.int (xs i) :: st)) : sv_V p l e R s m args below meth c nL G Q k n Wd pc lv (.int (nI i) :: .ref b :: st) := sv_scr C hX hbl hbA (vp_in_nI hi hL) d (by rw [nI_clamp (by omega)]; exact kk)
theorem sv_scrlen (C : sv_C p l s m args meth c cc nL own G) {b L : Nat} {xs : Nat → Int32} (hX : va_X b L xs s s.heap) (hbl : b < s.heap.size) (hbA : ¬ sv_A G b) (d : decode cc pc = .ok (.arraylength, 1)) (kk : sv_V p l e R s m args below meth c nL G Q k n Wd (pc + 1) lv (.int (nI L) :: st)) : sv_V p l e R s m args below meth c nL G Q k n Wd pc lv (.ref b :: st) := fun H locs ls h1 h2 h3 => va_slen C.1 C.2.1 hX hbl hbA h2 d (kk H locs ls h1 h2 h3)
theorem sw_call (C : sv_C p l s m args meth c cc nL own G) {y : MethodName} {b : ByteArray} {maxL d mc ms ix : Nat} {ret : Option FieldType} {hh : List (Nat × Nat × Nat × Nat)} {as : List Value} {r : Option Value} (hM : Met l y [.codeWith y b maxL ret hh] (sv_rm d mc ms) (sv_Pc G Wd as) (sv_Qc G Wd' r) mc ms (sv_A G)) (hml : Cond.methodLink own ix y ∈ sv_tbl) (hst : Cond.static y ∈ sv_tbl) (hini : Cond.initialized y.cls ∈ sv_tbl) (hcw : Cond.codeWith y b maxL ret hh ∈ sv_tbl) (N9 : Nat) (hy : y.cls ≠ "java/lang/invoke/MethodHandle" ∧ y.cls ≠ "java/lang/invoke/VarHandle" ∧ (parseMethodDescriptor y.desc).map (fun d => d.parameters.length) = some N9) (hN9 : as.length = N9) (hR : d + 1 ≤ R.frames ∧ 8 + (maxL + 11) + 36 * d ≤ R.locals) (hrest : (rest.map fun v => v.category).sum ≤ 8) (dg : decode cc pc = .ok (.invokestatic ix, 3)) (hf : k + mc ≤ R.cells ∧ n + ms ≤ R.slots) (kk : sv_V p l e R s m args below meth c nL G Q (k + mc) (n + ms) Wd' (pc + 3) lv (r.toList ++ rest)) : sv_V p l e R s m args below meth c nL G Q k n Wd pc lv (as.reverse ++ rest) := by
  have hts : ∀ w ∈ sv_tbl, w.before args s = true := fun w hw => C.2.2.2.2.2.word hw args
  have hgd : GoodIn sv_tbl (va_wsS own ix y [.codeWith y b maxL ret hh]) := List.forall_mem_cons.mpr ⟨⟨hml, sv_good hml⟩, List.forall_mem_cons.mpr ⟨⟨hst, sv_good hst⟩, List.forall_mem_cons.mpr ⟨⟨hini, sv_good hini⟩, List.forall_mem_cons.mpr ⟨⟨hcw, sv_good hcw⟩, fun _ h => absurd h List.not_mem_nil⟩⟩⟩⟩
  subst hN9
  refine sv_run (mc := mc) (ms := ms) (fun H locs ls h1 h2 h3 => vx_runSW (Ts := sv_tbl) ⟨C.1, C.2.1, C.2.2.1, C.2.2.2.1, hts⟩ hM (vx_cwSW as.length hts hgd rfl rfl rfl hy hR) ⟨sv_blind _ _ _, fun U hU hw => sv_pre C h1 h2 hU hw⟩ rfl rfl h3.1 rfl (lv_room hrest) dg hf) kk
/-- the room that is used up is rounded up -/
theorem sv_widen {k2 n2 : Nat} (hk : k ≤ k2) (hn : n ≤ n2) (kk : sv_V p l e R s m args below meth c nL G Q k2 n2 Wd pc lv st) : sv_V p l e R s m args below meth c nL G Q k n Wd pc lv st := fun H locs ls h1 h2 h3 => W.widen hk hn (kk H locs ls h1 h2 h3)
theorem sv_exH {α : Type} {Wf : α → Heap → Prop} (hw : ∀ H, Wd H → ∃ a, Wf a H) (kk : ∀ a, sv_V p l e R s m args below meth c nL G Q k n (Wf a) pc lv st) : sv_V p l e R s m args below meth c nL G Q k n Wd pc lv st := fun H locs ls h1 h2 h3 => by
  obtain ⟨a, ha⟩ := hw H h1
  exact kk a H locs ls ha h2 h3
end LWR
theorem kc_come : Cond.codeWith yL_come method_3_code 5 (some .int) [(0, 10, 13, 13), (0, 10, 17, 15), (0, 10, 21, 17)] ∈ sv_tbl := sv_in 445 (by decide +kernel) rfl
theorem kc_turn : Cond.codeWith yL_turn method_4_code 5 (some .int) [(0, 10, 13, 13)] ∈ sv_tbl := sv_in 561 (by decide +kernel) rfl
theorem kc_press : Cond.codeWith yL_press method_5_code 4 (some .int) [(0, 9, 12, 13)] ∈ sv_tbl := sv_in 570 (by decide +kernel) rfl
theorem kc_sensor : Cond.codeWith yL_sensor method_6_code 5 (some .int) [(0, 10, 13, 13)] ∈ sv_tbl := sv_in 578 (by decide +kernel) rfl
theorem kc_set : Cond.codeWith yL_set method_7_code 5 (some .int) [(0, 10, 13, 13), (0, 10, 17, 15)] ∈ sv_tbl := sv_in 585 (by decide +kernel) rfl
theorem kc_pass : Cond.codeWith yL_pass method_8_code 4 (some .int) [(0, 9, 12, 15)] ∈ sv_tbl := sv_in 598 (by decide +kernel) rfl
theorem kc_append : Cond.codeWith yL_append method_9_code 4 (some .int) [(0, 9, 12, 15), (0, 9, 15, 17)] ∈ sv_tbl := sv_in 609 (by decide +kernel) rfl
theorem kc_comeAll : Cond.codeWith yL_comeAll method_10_code 3 (some .int) [(0, 8, 11, 15)] ∈ sv_tbl := sv_in 622 (by decide +kernel) rfl
theorem kc_undo : Cond.codeWith yL_undo method_11_code 3 (some .int) [(0, 8, 11, 17)] ∈ sv_tbl := sv_in 652 (by decide +kernel) rfl
theorem kc_floor : Cond.codeWith yL_floor method_12_code 5 (some .int) [(0, 10, 13, 13), (0, 10, 17, 15)] ∈ sv_tbl := sv_in 664 (by decide +kernel) rfl
theorem kc_person : Cond.codeWith yL_person method_13_code 5 (some .int) [(0, 10, 13, 15)] ∈ sv_tbl := sv_in 675 (by decide +kernel) rfl
theorem kc_count : Cond.codeWith yL_count method_14_code 4 (some .int) [(0, 9, 12, 15)] ∈ sv_tbl := sv_in 683 (by decide +kernel) rfl
theorem kc_setting : Cond.codeWith yL_setting method_15_code 4 (some .int) [(0, 9, 12, 13)] ∈ sv_tbl := sv_in 690 (by decide +kernel) rfl
theorem kc_ifPassed : Cond.codeWith yL_ifPassed method_16_code 5 (some .int) [(0, 10, 13, 15)] ∈ sv_tbl := sv_in 697 (by decide +kernel) rfl
theorem kc_dark : Cond.codeWith yL_dark method_17_code 5 (some .int) [(0, 10, 13, 13), (0, 10, 17, 15)] ∈ sv_tbl := sv_in 704 (by decide +kernel) rfl
theorem kc_leastTime : Cond.codeWith yL_leastTime method_18_code 5 (some .int) [(0, 10, 13, 13), (0, 10, 17, 15)] ∈ sv_tbl := sv_in 711 (by decide +kernel) rfl
