/-! the law: its small methods -/
section LWR
variable {p : Program} {l : Launch} {e : Env} {R : Room} {s : State} {m : MethodId} {args : Array Value} {below : List Frame} {meth : Method} {c : Code} {k n nL : Nat} {Q : State → Prop} {G : sv_G} {Wd Wd' : Heap → Prop}
variable {cc : ByteArray} {pc : Nat} {lv lv' : List (Nat × Value)} {st rest : List Value} {own : String}
theorem sw_call (C : sv_C p l s m args meth c cc nL own G) {y : MethodName} {b : ByteArray} {maxL d mc ms ix : Nat} {ret : Option FieldType} {hh : List (Nat × Nat × Nat × Nat)} {as : List Value} {r : Option Value} (hM : Met l y [.codeWith y b maxL ret hh] (sv_rm d mc ms) (sv_Pc G Wd as) (sv_Qc G Wd' r) mc ms (sv_A G)) (hml : Cond.methodLink own ix y ∈ sv_tbl) (hst : Cond.static y ∈ sv_tbl) (hini : Cond.initialized y.cls ∈ sv_tbl) (hcw : Cond.codeWith y b maxL ret hh ∈ sv_tbl) (N9 : Nat) (hy : y.cls ≠ "java/lang/invoke/MethodHandle" ∧ y.cls ≠ "java/lang/invoke/VarHandle" ∧ (parseMethodDescriptor y.desc).map (fun d => d.parameters.length) = some N9) (hN9 : as.length = N9) (hR : d + 1 ≤ R.frames ∧ 8 + (maxL + 11) + 36 * d ≤ R.locals) (hrest : (rest.map fun v => v.category).sum ≤ 8) (dg : decode cc pc = .ok (.invokestatic ix, 3)) (hf : k + mc ≤ R.cells ∧ n + ms ≤ R.slots) (kk : sv_V p l e R s m args below meth c nL G Q (k + mc) (n + ms) Wd' (pc + 3) lv (r.toList ++ rest)) : sv_V p l e R s m args below meth c nL G Q k n Wd pc lv (as.reverse ++ rest) := by
  have hts : ∀ w ∈ sv_tbl, w.before args s = true := fun w hw => C.2.2.2.2.2.word hw args
  have hgd : GoodIn sv_tbl (va_wsS own ix y [.codeWith y b maxL ret hh]) := List.forall_mem_cons.mpr ⟨⟨hml, sv_good hml⟩, List.forall_mem_cons.mpr ⟨⟨hst, sv_good hst⟩, List.forall_mem_cons.mpr ⟨⟨hini, sv_good hini⟩, List.forall_mem_cons.mpr ⟨⟨hcw, sv_good hcw⟩, fun _ h => absurd h List.not_mem_nil⟩⟩⟩⟩
  subst hN9
  refine sv_run (mc := mc) (ms := ms) (fun H locs ls h1 h2 h3 => vx_runSW (Ts := sv_tbl) ⟨C.1, C.2.1, C.2.2.1, C.2.2.2.1, hts⟩ hM (vx_cwSW as.length hts hgd rfl rfl rfl hy hR) ⟨sv_blind _ _ _, fun U hU hw => sv_pre C h1 h2 hU hw⟩ rfl rfl h3.1 rfl (lv_room hrest) dg hf) kk
/-- the room that is used up is rounded up -/
theorem sv_widen {k2 n2 : Nat} (hk : k ≤ k2) (hn : n ≤ n2) (kk : sv_V p l e R s m args below meth c nL G Q k2 n2 Wd pc lv st) : sv_V p l e R s m args below meth c nL G Q k n Wd pc lv st := fun H locs ls h1 h2 h3 => W.widen hk hn (kk H locs ls h1 h2 h3)
theorem sv_exH {α : Type} {Wf : α → Heap → Prop} (hw : ∀ H, Wd H → ∃ a, Wf a H) (kk : ∀ a, sv_V p l e R s m args below meth c nL G Q k n (Wf a) pc lv st) : sv_V p l e R s m args below meth c nL G Q k n Wd pc lv st := fun H locs ls h1 h2 h3 => by
  obtain ⟨a, ha⟩ := hw H h1
  exact kk a H locs ls ha h2 h3
/-- a static method that makes something -/
theorem sw_callS (C : sv_C p l s m args meth c cc nL own G) {y : MethodName} {b : ByteArray} {maxL d mc ms ix : Nat} {ret : Option FieldType} {as : List Value} {r : Option Value} (hM : Met l y [.code y b maxL ret] (sv_rm d mc ms) (sv_Pc G Wd as) (sv_Qc G Wd' r) mc ms (sv_A G)) (hY : sv_Ys y b maxL ret as.length) (hml : Cond.methodLink own ix y ∈ sv_tbl) (hR : d + 1 ≤ R.frames ∧ 8 + (maxL + 11) + 36 * d ≤ R.locals) (hrest : (rest.map fun v => v.category).sum ≤ 8) (dg : decode cc pc = .ok (.invokestatic ix, 3)) (hf : k + mc ≤ R.cells ∧ n + ms ≤ R.slots) (kk : sv_V p l e R s m args below meth c nL G Q (k + mc) (n + ms) Wd' (pc + 3) lv (r.toList ++ rest)) : sv_V p l e R s m args below meth c nL G Q k n Wd pc lv (as.reverse ++ rest) := sv_run (mc := mc) (ms := ms) (fun H locs ls h1 h2 h3 => va_runS (Ts := sv_tbl) ⟨C.1, C.2.1, C.2.2.1, C.2.2.2.1, fun w hw => C.2.2.2.2.2.word hw args⟩ hM ⟨sv_cb C hml hY.2.1 hY.2.2.1 hY.2.2.2 hR, C.2.2.2.2.2.word hY.1 args⟩ ⟨sv_blind _ _ _, fun U hU hw => sv_pre C h1 h2 hU hw⟩ rfl rfl h3.1 rfl (lv_room hrest) dg hf) kk
end LWR
/-- a world of which something is known -/
def sv_Wy (G : sv_G) (P : sv_M → Prop) (o : Int64) (H : Heap) : Prop := ∃ (z : Nat) (M : sv_M), P M ∧ sv_W G z M o H
theorem sv_Wy_of {G : sv_G} {z : Nat} {M : sv_M} {o : Int64} {P : sv_M → Prop} (h : P M) : ∀ H, sv_W G z M o H → sv_Wy G P o H := fun _ hH => ⟨z, M, h, hH⟩
theorem sv_Wy_z {G : sv_G} {z : Nat} {M : sv_M} {o : Int64} {P : sv_M → Prop} (h : P M) : ∀ H, sv_Wz G z M o H → sv_Wy G P o H := fun _ ⟨z', _, hH⟩ => ⟨z', M, h, hH⟩
/-- low(v, n) -/
def lo (v : Int32) (n : Nat) : Nat := v.toBitVec.toNat % 2147483648 % n
theorem lo_lt (v : Int32) {n : Nat} (h : 0 < n) : lo v n < n := Nat.mod_lt _ h
theorem met_low (l : Launch) (G : sv_G) (Wd : Heap → Prop) (v : Int32) (n : Nat) (h0 : 0 < n) (hn : n < 2147483648) : sv_Met l G yL_low cL_low 2 (some .int) 0 [.int v, .int (nI n)] Wd (some (.int (nI (lo v n)))) Wd := by
  refine sv_ofW (by decide) kw_439 (Nat.le_of_ble_eq_true rfl) ?_
  intro p e s mth args below meth c hr C _
  refine sv_sub (lv' := [(0, .int v), (1, .int (nI n))]) rfl ?_
  refine sv_iload_n (i := 0) (x := v) C dL_low_0 rfl rfl ?_
  refine sv_ldc (v := 2147483647) C dL_low_1 kw_440 ?_
  refine sv_iand C dL_low_3 ?_
  refine sv_set (v' := .int (nI (v.toBitVec.toNat % 2147483648))) (congrArg Value.int (pk_and v 31 (by decide))) ?_
  refine sv_iload_n (i := 1) (x := nI n) C dL_low_4 rfl rfl ?_
  refine sv_irem C dL_low_5 (nI_ne0 h0 hn) ?_
  refine sv_set (v' := .int (nI (lo v n))) (congrArg Value.int (pk_rem (Nat.mod_lt _ (by decide)) h0 hn)) ?_
  exact sv_iret C hr dL_low_6 (Nat.le_of_ble_eq_true rfl) (Nat.le_of_ble_eq_true rfl) rfl (fun _ h => h)
/-- cell(s, k) -/
def cel (G : sv_G) (k : Nat) : Int32 := if k < sv_L G then sv_xs G k else nI 40503 * nI k + nI 977
theorem met_cell (l : Launch) (G : sv_G) (Wd : Heap → Prop) (k : Nat) (hL : sv_L G ≤ 260) (hk : k < 2147483648) : sv_Met l G yL_cell cL_cell 2 (some .int) 0 [.ref (sv_b G), .int (nI k)] Wd (some (.int (cel G k))) Wd := by
  refine sv_ofW (by decide) kw_443 (Nat.le_of_ble_eq_true rfl) ?_
  intro p e s mth args below meth c hr C _
  refine sv_sub (lv' := [(0, .ref (sv_b G)), (1, .int (nI k))]) rfl ?_
  refine sv_iload_n (i := 1) (x := nI k) C dL_cell_0 rfl rfl ?_
  refine sv_aload_n (i := 0) (x := sv_b G) C dL_cell_1 rfl rfl ?_
  refine sv_sclen C dL_cell_2 ?_
  refine sv_icmp_geN C 12 dL_cell_3 (by decide) (by omega) (by omega) (fun q3 => ?_) (fun q3 => ?_)
  · refine sv_ldc (v := 40503) C dL_cell_12 kw_444 ?_
    refine sv_iload_n (i := 1) (x := nI k) C dL_cell_14 rfl rfl ?_
    refine sv_imul C dL_cell_15 ?_
    refine sv_sipush (v := nI 977) C dL_cell_16 (by decide) ?_
    refine sv_iadd C dL_cell_19 ?_
    exact sv_iret C hr dL_cell_20 (Nat.le_of_ble_eq_true rfl) (Nat.le_of_ble_eq_true rfl) (by unfold cel; rw [if_neg (by omega)]; rfl) (fun _ h => h)
  · refine sv_aload_n (i := 0) (x := sv_b G) C dL_cell_6 rfl rfl ?_
    refine sv_iload_n (i := 1) (x := nI k) C dL_cell_7 rfl rfl ?_
    refine sv_scald C (vp_in_nI (by omega) (by omega)) dL_cell_8 ?_
    refine sv_goto C 20 dL_cell_9 (by decide) ?_
    exact sv_iret C hr dL_cell_20 (Nat.le_of_ble_eq_true rfl) (Nat.le_of_ble_eq_true rfl) (by unfold cel; rw [if_pos (by omega), nI_clamp (by omega)]) (fun _ h => h)
theorem wayC_ok {f t : Nat} (hf : f < 8) (ht : t < 8) (hft : f ≠ t) : wayC (nI f) (nI t) = 0 := by
  unfold wayC
  rw [inC_N hf (by decide), inC_N ht (by decide), if_neg (by decide), if_neg (fun q => hft ((nI_eq (by omega) (by omega)).mp q))]
theorem met_L_come (l : Launch) (G : sv_G) (hl : l.stackTraces = false) (z : Nat) (M : sv_M) (o : Int64) (f t : Nat) (hf : f < 8) (ht : t < 8) (hft : f ≠ t) (od hd : Nat) (hod : od < 6) (h0 : M 8 0 = nI od) (h1 : M 8 1 = nI hd) (hd6 : hd ≤ 6) (b6 : M 0 6 = 0 ∨ M 0 6 = 1) (b7 : M 0 7 = 0 ∨ M 0 7 = 1) (m : Nat) (hm : M 0 57 = nI m) (hm7 : m ≤ 6) : Met l yL_come [.codeWith yL_come method_4_code 4 (some .int) [(0, 6, 7, 15)]] (sv_rm 9 4 24) (sv_Pc G (sv_W G z M o) [.ref (sv_r G 14 0), .int (nI f), .int (nI t)]) (sv_Qc G (sv_Wy G (fun M' => M' = if m < 6 then sv_u (sav od hd M) 0 (entv m (nI f) (nI t) (M 0 3) (M 0)) else M) o) (some (.int (if m < 6 then M 0 5 else (-3))))) 4 24 (sv_A G) := by
  have hc : comC m (nI f) (nI t) = if 6 ≤ m then 3 else 0 := by
    unfold comC
    rw [if_pos (wayC_ok hf ht hft)]
  refine sw_ofW (by decide) (Nat.le_of_ble_eq_true rfl) ?_
  intro p e s mth args below meth c hr C ht9
  refine sv_sub (lv' := [(0, .ref (sv_r G 14 0)), (1, .int (nI f)), (2, .int (nI t))]) rfl ?_
  refine sv_aload_n (i := 0) (x := sv_r G 14 0) C dL_come_0 rfl rfl ?_
  refine sv_iload_n (i := 1) (x := nI f) C dL_come_1 rfl rfl ?_
  refine sv_iload_n (i := 2) (x := nI t) C dL_come_2 rfl rfl ?_
  refine sv_callVX (as := [_, _]) (rest := []) C (met_come l G hl z M o (nI f) (nI t) od hd hod h0 h1 hd6 b6 b7 m hm hm7) fX5_come kw_480 (sv_recv14 C) ⟨Nat.le_of_ble_eq_true rfl, Nat.le_of_ble_eq_true rfl⟩ (Nat.le_of_ble_eq_true rfl) dL_come_3 ⟨Nat.le_of_ble_eq_true rfl, Nat.le_of_ble_eq_true rfl⟩ (fun E hE => ?_) ?_
  · have h6 : 6 ≤ m := by
      rcases Nat.lt_or_ge m 6 with q | q
      · rw [if_neg (by omega)] at hc
        rcases hE with ⟨h9, _⟩ | ⟨h9, _⟩ | ⟨h9, _⟩ <;> omega
      · exact q
    rw [if_pos h6] at hc
    obtain rfl : E = sv_IS := by
      rcases hE with ⟨h9, _⟩ | ⟨h9, _⟩ | ⟨_, h9⟩
      · omega
      · omega
      · exact h9
    refine sv_catch C [] [] (0, 6, 7, 15) ht9 rfl (fun z hz => absurd hz List.not_mem_nil) rfl (by decide) kw_479 sx_IS (fun a9 => ?_)
    refine sv_astore_n (i := 3) C [(0, .ref (sv_r G 14 0)), (1, .int (nI f)), (2, .int (nI t)), (3, .ref a9)] dL_come_7 rfl (by decide) rfl ?_
    refine sv_bipush (v := (-3)) C dL_come_8 (by decide) ?_
    exact sv_iret C hr dL_come_10 (Nat.le_of_ble_eq_true rfl) (Nat.le_of_ble_eq_true rfl) (by rw [if_neg (by omega)]) (sv_Wy_z (by rw [if_neg (by omega)]))
  · intro ok
    have h6 : m < 6 := by
      rcases Nat.lt_or_ge m 6 with q | q
      · exact q
      · rw [if_pos q] at hc
        omega
    refine sv_ri (fun v9 e9 => ?_)
    exact sv_iret C hr dL_come_6 (Nat.le_of_ble_eq_true rfl) (Nat.le_of_ble_eq_true rfl) (by rw [if_pos h6]; exact e9) (sv_Wy_of (by rw [if_pos h6]))
theorem met_L_turn (l : Launch) (G : sv_G) (hl : l.stackTraces = false) (z : Nat) (M : sv_M) (o : Int64) (n t : Int32) (od hd : Nat) (hod : od < 6) (h0 : M 8 0 = nI od) (h1 : M 8 1 = nI hd) (hd6 : hd ≤ 6) (b6 : M 0 6 = 0 ∨ M 0 6 = 1) (b7 : M 0 7 = 0 ∨ M 0 7 = 1) (m : Nat) (hm : M 0 57 = nI m) (hm7 : m ≤ 6) : Met l yL_turn [.codeWith yL_turn method_6_code 4 (some .int) [(0, 6, 7, 24)]] (sv_rm 8 1 6) (sv_Pc G (sv_W G z M o) [.ref (sv_r G 14 0), .int n, .int t]) (sv_Qc G (sv_Wy G (fun M' => M' = if trnC (M 0) m n t = 0 then sv_u (sav od hd M) 0 (trnv (plF (M 0) n m 0).toNatClampNeg t (M 0)) else M) o) (some (.int (if trnC (M 0) m n t = 0 then M 0 (4 * (plF (M 0) n m 0).toNatClampNeg + 60) else (-1))))) 1 6 (sv_A G) := by
  refine sw_ofW (by decide) (Nat.le_of_ble_eq_true rfl) ?_
  intro p e s mth args below meth c hr C ht9
  refine sv_sub (lv' := [(0, .ref (sv_r G 14 0)), (1, .int n), (2, .int t)]) rfl ?_
  refine sv_aload_n (i := 0) (x := sv_r G 14 0) C dL_turn_0 rfl rfl ?_
  refine sv_iload_n (i := 1) (x := n) C dL_turn_1 rfl rfl ?_
  refine sv_iload_n (i := 2) (x := t) C dL_turn_2 rfl rfl ?_
  refine sv_callVX (as := [_, _]) (rest := []) C (met_turn l G hl z M o n t od hd hod h0 h1 hd6 b6 b7 m hm hm7) fX5_turn kw_517 (sv_recv14 C) ⟨Nat.le_of_ble_eq_true rfl, Nat.le_of_ble_eq_true rfl⟩ (Nat.le_of_ble_eq_true rfl) dL_turn_3 ⟨Nat.le_of_ble_eq_true rfl, Nat.le_of_ble_eq_true rfl⟩ (fun E hE => ?_) ?_
  · obtain ⟨h9, rfl⟩ := hE
    refine sv_catch C [] [] (0, 6, 7, 24) ht9 rfl (fun z hz => absurd hz List.not_mem_nil) rfl (by decide) kw_516 sx_IO (fun a9 => ?_)
    refine sv_astore_n (i := 3) C [(0, .ref (sv_r G 14 0)), (1, .int n), (2, .int t), (3, .ref a9)] dL_turn_7 rfl (by decide) rfl ?_
    refine sv_iconst (v := (-1)) C dL_turn_8 (by decide) ?_
    exact sv_iret C hr dL_turn_9 (Nat.le_of_ble_eq_true rfl) (Nat.le_of_ble_eq_true rfl) (by rw [if_neg (by omega)]) (sv_Wy_z (by rw [if_neg (by omega)]))
  · intro ok
    refine sv_ri (fun v9 e9 => ?_)
    exact sv_iret C hr dL_turn_6 (Nat.le_of_ble_eq_true rfl) (Nat.le_of_ble_eq_true rfl) (by rw [if_pos ok]; exact e9) (sv_Wy_of (by rw [if_pos ok]))
theorem met_L_undo (l : Launch) (G : sv_G) (hl : l.stackTraces = false) (z : Nat) (M : sv_M) (o : Int64) (od hd k : Nat) (hod : od < 6) (h0 : M 8 0 = nI od) (h1 : M 8 1 = nI hd) (hd6 : hd ≤ 6) (hk : k = (od + (hd - 1)) % 6) (b6 : 0 < hd → (M (2 + k) 6 = 0 ∨ M (2 + k) 6 = 1)) (b7 : 0 < hd → (M (2 + k) 7 = 0 ∨ M (2 + k) 7 = 1)) : Met l yL_undo [.codeWith yL_undo method_5_code 2 (some .int) [(0, 4, 5, 15)]] (sv_rm 7 1 6) (sv_Pc G (sv_W G z M o) [.ref (sv_r G 14 0)]) (sv_Qc G (sv_Wy G (fun M' => M' = if 0 < hd then rsM (hd - 1) k M else M) o) (some (.int (if 0 < hd then nI (hd - 1) else (-3))))) 1 6 (sv_A G) := by
  refine sw_ofW (by decide) (Nat.le_of_ble_eq_true rfl) ?_
  intro p e s mth args below meth c hr C ht9
  refine sv_sub (lv' := [(0, .ref (sv_r G 14 0))]) rfl ?_
  refine sv_aload_n (i := 0) (x := sv_r G 14 0) C dL_undo_0 rfl rfl ?_
  refine sv_callVX (as := []) (rest := []) C (met_undo l G hl z M o od hd k hod h0 h1 hd6 hk b6 b7) fX5_undo kw_556 (sv_recv14 C) ⟨Nat.le_of_ble_eq_true rfl, Nat.le_of_ble_eq_true rfl⟩ (Nat.le_of_ble_eq_true rfl) dL_undo_1 ⟨Nat.le_of_ble_eq_true rfl, Nat.le_of_ble_eq_true rfl⟩ (fun E hE => ?_) ?_
  · obtain ⟨h9, rfl⟩ := hE
    have hn : ¬ 0 < hd := fun q => by
      unfold undC at h9
      rw [if_neg (by omega)] at h9
      omega
    refine sv_catch C [] [] (0, 4, 5, 15) ht9 rfl (fun z hz => absurd hz List.not_mem_nil) rfl (by decide) kw_479 sx_IS (fun a9 => ?_)
    refine sv_astore_n (i := 1) C [(0, .ref (sv_r G 14 0)), (1, .ref a9)] dL_undo_5 rfl (by decide) rfl ?_
    refine sv_bipush (v := (-3)) C dL_undo_6 (by decide) ?_
    exact sv_iret C hr dL_undo_8 (Nat.le_of_ble_eq_true rfl) (Nat.le_of_ble_eq_true rfl) (by rw [if_neg hn]) (sv_Wy_z (by rw [if_neg hn]))
  · intro ok
    have hp : 0 < hd := by
      unfold undC at ok
      by_cases q : hd = 0
      · rw [if_pos q] at ok
        omega
      · omega
    refine sv_ri (fun v9 e9 => ?_)
    exact sv_iret C hr dL_undo_4 (Nat.le_of_ble_eq_true rfl) (Nat.le_of_ble_eq_true rfl) (by rw [if_pos hp]; exact e9) (sv_Wy_of (by rw [if_pos hp]))
