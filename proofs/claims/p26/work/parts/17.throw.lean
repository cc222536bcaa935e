/-! what throws: 'throw new E("text")' of StairLight -/
theorem ks_238 : (RX5, 238, "no such floor") ∈ sv_strs := List.mem_of_getElem? (i := 0) rfl
theorem ks_249 : (RX5, 249, "there is no such number") ∈ sv_strs := List.mem_of_getElem? (i := 1) rfl
theorem ks_245 : (RX5, 245, "no such setting") ∈ sv_strs := List.mem_of_getElem? (i := 2) rfl
theorem ks_247 : (RX5, 247, "seconds are out of range") ∈ sv_strs := List.mem_of_getElem? (i := 3) rfl
theorem ks_240 : (RX5, 240, "both floors are the same") ∈ sv_strs := List.mem_of_getElem? (i := 4) rfl
theorem ks_193 : (RX5, 193, "no such place") ∈ sv_strs := List.mem_of_getElem? (i := 5) rfl
theorem ks_49 : (RX5, 49, "the stairs are full") ∈ sv_strs := List.mem_of_getElem? (i := 6) rfl
theorem ks_68 : (RX5, 68, "no such person on the stairs") ∈ sv_strs := List.mem_of_getElem? (i := 7) rfl
theorem ks_134 : (RX5, 134, "the value is out of range") ∈ sv_strs := List.mem_of_getElem? (i := 8) rfl
theorem ks_182 : (RX5, 182, "no saved state") ∈ sv_strs := List.mem_of_getElem? (i := 9) rfl
/-- the heap has grown behind the world -/
def sv_Wz (G : sv_G) (z : Nat) (M : sv_M) (o : Int64) (H : Heap) : Prop := ∃ z', z ≤ z' ∧ sv_W G z' M o H
theorem sv_Wz_grow {G : sv_G} {z : Nat} {M : sv_M} {o : Int64} (H H1 : Heap) (h : sv_W G z M o H) (hz : H.size ≤ H1.size) (hq : ∀ q : Nat, q < H.size → H1[q]? = H[q]?) : sv_Wz G z M o H1 := ⟨H1.size, by rw [← h.1]; exact hz, h.grown rfl (by rw [← h.1]; exact hz) hq⟩
theorem sv_Wz_id {G : sv_G} {z : Nat} {M : sv_M} {o : Int64} (H : Heap) (h : sv_W G z M o H) : sv_Wz G z M o H := ⟨z, Nat.le_refl _, h⟩
set_option maxRecDepth 20000 in
theorem sv_atIO : (vx_atS RX5 70 "java/lang/IndexOutOfBoundsException" ["java/lang/RuntimeException", "java/lang/Exception"]).all (fun w => decide (w ∈ sv_tbl) || decide (w ∈ sv_Xs)) = true := by decide +kernel
set_option maxRecDepth 20000 in
theorem sv_otIO : (Cond.classLink RX5 66 "java/lang/IndexOutOfBoundsException" :: Cond.initialized "java/lang/IndexOutOfBoundsException" :: vx_atS RX5 70 "java/lang/IndexOutOfBoundsException" ["java/lang/RuntimeException", "java/lang/Exception"]).all vx_ot = true := by decide +kernel
section SVTIO
variable {p : Program} {l : Launch} {e : Env} {R : Room} {s : State} {m : MethodId} {args : Array Value} {below : List Frame} {meth : Method} {c : Code} {k n nL : Nat} {Q : State → Prop} {G : sv_G} {Wd Wx : Heap → Prop} {E0 : String → Prop} {Qc : Array Value → State → Outcome → State → Prop}
variable {cc : ByteArray} {pc is : Nat} {lv : List (Nat × Value)} {st : List Value} {mc ms : Nat} {text : String}
theorem sv_throwIO (C : sv_C p l s m args meth c cc nL RX5 G) (hl : l.stackTraces = false) (hx : ∀ x ∈ c.exceptionTable.toList, False) (hstr : (RX5, is, text) ∈ sv_strs) (d0 : decode cc pc = .ok (.new 66, 3)) (d3 : decode cc (pc + 3) = .ok (.dup, 1)) (d4 : decode cc (pc + 4) = .ok (.ldc is, 2)) (d6 : decode cc (pc + 6) = .ok (.invokespecial 70, 3)) (d9 : decode cc (pc + 9) = .ok (.athrow, 1))
    (hR : 5 < R.frames) (hRl : (st.map fun v => v.category).sum + 82 ≤ R.locals) (hRc : k + 1 ≤ R.cells) (hRs : n + 6 ≤ R.slots) (hmc : k + 1 ≤ mc) (hms : n + 6 ≤ ms) (hE : E0 "java/lang/IndexOutOfBoundsException") (hg : ∀ H H1 : Heap, Wd H → H.size ≤ H1.size → (∀ q : Nat, q < H.size → H1[q]? = H[q]?) → Wx H1) : sv_V p l e R s m args below meth c nL G (vx_MQ below Qc (sv_Xc G E0 Wx) args s mc ms (sv_A G)) k n Wd pc lv st := by
  intro H locs ls h1 h2 h3
  have hK := C.2.2.2.2.2
  obtain ⟨sa, hsa⟩ := hK.2.2.2.1.1 _ hstr
  refine vx_throwS (names := ["java/lang/RuntimeException", "java/lang/Exception"]) (ic := 70) C.1 C.2.1 hl C.2.2.2.1 (by decide +kernel) (by decide +kernel) (hK.word kw_190 args) (hK.word kw_19 args) hsa ?_ (fun w hw => List.all_eq_true.mp sv_otIO w hw) hK.2.2.2.1.2.1 hK.2.2.2.1.2.2.1 h2 (h3.1.trans C.2.2.1.symm) d0 d3 d4 d6 d9 (fun x hx' => (hx x hx').elim) hR hRl hRc hRs C.2.2.2.2.1 (fun t ht hz hq => ⟨hE, hg H t.heap h1 hz hq, Nat.le_trans h2.1 hz, fun q g1 g2 => (hq q (Nat.lt_of_lt_of_le g1 h2.1)).trans (h2.2.1 q g1 g2)⟩) h2.2.2 hmc hms
  intro w hw
  have h9 := List.all_eq_true.mp sv_atIO w hw
  simp only [Bool.or_eq_true, decide_eq_true_eq] at h9
  rcases h9 with h9 | h9
  · exact hK.word h9 args
  · have h8 := List.all_eq_true.mp sv_Xs_ok w h9
    rw [Bool.and_eq_true] at h8
    exact va_tabs (A := #[]) h8.2 rfl (hK.2.2.2.1.2.2.2 w h9)
end SVTIO
set_option maxRecDepth 20000 in
theorem sv_atIA : (vx_atS RX5 136 "java/lang/IllegalArgumentException" ["java/lang/RuntimeException", "java/lang/Exception"]).all (fun w => decide (w ∈ sv_tbl) || decide (w ∈ sv_Xs)) = true := by decide +kernel
set_option maxRecDepth 20000 in
theorem sv_otIA : (Cond.classLink RX5 132 "java/lang/IllegalArgumentException" :: Cond.initialized "java/lang/IllegalArgumentException" :: vx_atS RX5 136 "java/lang/IllegalArgumentException" ["java/lang/RuntimeException", "java/lang/Exception"]).all vx_ot = true := by decide +kernel
section SVTIA
variable {p : Program} {l : Launch} {e : Env} {R : Room} {s : State} {m : MethodId} {args : Array Value} {below : List Frame} {meth : Method} {c : Code} {k n nL : Nat} {Q : State → Prop} {G : sv_G} {Wd Wx : Heap → Prop} {E0 : String → Prop} {Qc : Array Value → State → Outcome → State → Prop}
variable {cc : ByteArray} {pc is : Nat} {lv : List (Nat × Value)} {st : List Value} {mc ms : Nat} {text : String}
theorem sv_throwIA (C : sv_C p l s m args meth c cc nL RX5 G) (hl : l.stackTraces = false) (hx : ∀ x ∈ c.exceptionTable.toList, False) (hstr : (RX5, is, text) ∈ sv_strs) (d0 : decode cc pc = .ok (.new 132, 3)) (d3 : decode cc (pc + 3) = .ok (.dup, 1)) (d4 : decode cc (pc + 4) = .ok (.ldc is, 2)) (d6 : decode cc (pc + 6) = .ok (.invokespecial 136, 3)) (d9 : decode cc (pc + 9) = .ok (.athrow, 1))
    (hR : 5 < R.frames) (hRl : (st.map fun v => v.category).sum + 82 ≤ R.locals) (hRc : k + 1 ≤ R.cells) (hRs : n + 6 ≤ R.slots) (hmc : k + 1 ≤ mc) (hms : n + 6 ≤ ms) (hE : E0 "java/lang/IllegalArgumentException") (hg : ∀ H H1 : Heap, Wd H → H.size ≤ H1.size → (∀ q : Nat, q < H.size → H1[q]? = H[q]?) → Wx H1) : sv_V p l e R s m args below meth c nL G (vx_MQ below Qc (sv_Xc G E0 Wx) args s mc ms (sv_A G)) k n Wd pc lv st := by
  intro H locs ls h1 h2 h3
  have hK := C.2.2.2.2.2
  obtain ⟨sa, hsa⟩ := hK.2.2.2.1.1 _ hstr
  refine vx_throwS (names := ["java/lang/RuntimeException", "java/lang/Exception"]) (ic := 136) C.1 C.2.1 hl C.2.2.2.1 (by decide +kernel) (by decide +kernel) (hK.word kw_261 args) (hK.word kw_18 args) hsa ?_ (fun w hw => List.all_eq_true.mp sv_otIA w hw) hK.2.2.2.1.2.1 hK.2.2.2.1.2.2.1 h2 (h3.1.trans C.2.2.1.symm) d0 d3 d4 d6 d9 (fun x hx' => (hx x hx').elim) hR hRl hRc hRs C.2.2.2.2.1 (fun t ht hz hq => ⟨hE, hg H t.heap h1 hz hq, Nat.le_trans h2.1 hz, fun q g1 g2 => (hq q (Nat.lt_of_lt_of_le g1 h2.1)).trans (h2.2.1 q g1 g2)⟩) h2.2.2 hmc hms
  intro w hw
  have h9 := List.all_eq_true.mp sv_atIA w hw
  simp only [Bool.or_eq_true, decide_eq_true_eq] at h9
  rcases h9 with h9 | h9
  · exact hK.word h9 args
  · have h8 := List.all_eq_true.mp sv_Xs_ok w h9
    rw [Bool.and_eq_true] at h8
    exact va_tabs (A := #[]) h8.2 rfl (hK.2.2.2.1.2.2.2 w h9)
end SVTIA
set_option maxRecDepth 20000 in
theorem sv_atIS : (vx_atS RX5 51 "java/lang/IllegalStateException" ["java/lang/RuntimeException", "java/lang/Exception"]).all (fun w => decide (w ∈ sv_tbl) || decide (w ∈ sv_Xs)) = true := by decide +kernel
set_option maxRecDepth 20000 in
theorem sv_otIS : (Cond.classLink RX5 47 "java/lang/IllegalStateException" :: Cond.initialized "java/lang/IllegalStateException" :: vx_atS RX5 51 "java/lang/IllegalStateException" ["java/lang/RuntimeException", "java/lang/Exception"]).all vx_ot = true := by decide +kernel
section SVTIS
variable {p : Program} {l : Launch} {e : Env} {R : Room} {s : State} {m : MethodId} {args : Array Value} {below : List Frame} {meth : Method} {c : Code} {k n nL : Nat} {Q : State → Prop} {G : sv_G} {Wd Wx : Heap → Prop} {E0 : String → Prop} {Qc : Array Value → State → Outcome → State → Prop}
variable {cc : ByteArray} {pc is : Nat} {lv : List (Nat × Value)} {st : List Value} {mc ms : Nat} {text : String}
theorem sv_throwIS (C : sv_C p l s m args meth c cc nL RX5 G) (hl : l.stackTraces = false) (hx : ∀ x ∈ c.exceptionTable.toList, False) (hstr : (RX5, is, text) ∈ sv_strs) (d0 : decode cc pc = .ok (.new 47, 3)) (d3 : decode cc (pc + 3) = .ok (.dup, 1)) (d4 : decode cc (pc + 4) = .ok (.ldc is, 2)) (d6 : decode cc (pc + 6) = .ok (.invokespecial 51, 3)) (d9 : decode cc (pc + 9) = .ok (.athrow, 1))
    (hR : 5 < R.frames) (hRl : (st.map fun v => v.category).sum + 82 ≤ R.locals) (hRc : k + 1 ≤ R.cells) (hRs : n + 6 ≤ R.slots) (hmc : k + 1 ≤ mc) (hms : n + 6 ≤ ms) (hE : E0 "java/lang/IllegalStateException") (hg : ∀ H H1 : Heap, Wd H → H.size ≤ H1.size → (∀ q : Nat, q < H.size → H1[q]? = H[q]?) → Wx H1) : sv_V p l e R s m args below meth c nL G (vx_MQ below Qc (sv_Xc G E0 Wx) args s mc ms (sv_A G)) k n Wd pc lv st := by
  intro H locs ls h1 h2 h3
  have hK := C.2.2.2.2.2
  obtain ⟨sa, hsa⟩ := hK.2.2.2.1.1 _ hstr
  refine vx_throwS (names := ["java/lang/RuntimeException", "java/lang/Exception"]) (ic := 51) C.1 C.2.1 hl C.2.2.2.1 (by decide +kernel) (by decide +kernel) (hK.word kw_484 args) (hK.word kw_20 args) hsa ?_ (fun w hw => List.all_eq_true.mp sv_otIS w hw) hK.2.2.2.1.2.1 hK.2.2.2.1.2.2.1 h2 (h3.1.trans C.2.2.1.symm) d0 d3 d4 d6 d9 (fun x hx' => (hx x hx').elim) hR hRl hRc hRs C.2.2.2.2.1 (fun t ht hz hq => ⟨hE, hg H t.heap h1 hz hq, Nat.le_trans h2.1 hz, fun q g1 g2 => (hq q (Nat.lt_of_lt_of_le g1 h2.1)).trans (h2.2.1 q g1 g2)⟩) h2.2.2 hmc hms
  intro w hw
  have h9 := List.all_eq_true.mp sv_atIS w hw
  simp only [Bool.or_eq_true, decide_eq_true_eq] at h9
  rcases h9 with h9 | h9
  · exact hK.word h9 args
  · have h8 := List.all_eq_true.mp sv_Xs_ok w h9
    rw [Bool.and_eq_true] at h8
    exact va_tabs (A := #[]) h8.2 rfl (hK.2.2.2.1.2.2.2 w h9)
end SVTIS
