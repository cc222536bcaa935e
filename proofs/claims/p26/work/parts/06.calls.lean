/-! contracts, calls, ends -/
abbrev sv_rm (d mc ms : Nat) : Room := { frames := d, cells := mc, slots := ms, locals := 36 * d }
def sv_Pc (G : sv_G) (Wd : Heap → Prop) (as : List Value) : Array Value → State → Prop := va_Pc as (fun U => Wd U.heap ∧ sv_K G U)
def sv_Qc (G : sv_G) (Wd' : Heap → Prop) (r : Option Value) : Array Value → State → Outcome → State → Prop := fun _ st o t => o = .returned r ∧ Wd' t.heap ∧ va_F (sv_A G) st t
def sv_Xc (G : sv_G) (E0 : String → Prop) (Wx : Heap → Prop) : String → State → State → Prop := fun E st t => E0 E ∧ Wx t.heap ∧ va_F (sv_A G) st t
/-- y returns r, and the world is Wd' -/
abbrev sv_Met (l : Launch) (G : sv_G) (y : MethodName) (b : ByteArray) (maxL : Nat) (ret : Option FieldType) (d : Nat) (as : List Value) (Wd : Heap → Prop) (r : Option Value) (Wd' : Heap → Prop) : Prop := Met l y [.code y b maxL ret] (sv_rm d 0 0) (sv_Pc G Wd as) (sv_Qc G Wd' r) 0 0 (sv_A G)
/-- y returns r (never, where ok is false), or throws an E with E0 E -/
abbrev sv_MetX (l : Launch) (G : sv_G) (y : MethodName) (b : ByteArray) (maxL : Nat) (ret : Option FieldType) (d mc : Nat) (as : List Value) (Wd : Heap → Prop) (ok : Prop) (r : Option Value) (Wd' : Heap → Prop) (E0 : String → Prop) (Wx : Heap → Prop) : Prop := vx_Met l y [.code y b maxL ret] (sv_rm d mc (6 * mc)) (sv_Pc G Wd as) (fun a st o t => ok ∧ sv_Qc G Wd' r a st o t) (sv_Xc G E0 Wx) mc (6 * mc) (sv_A G)
/-- a method by the tables -/
def sv_Yv (y : MethodName) (b : ByteArray) (maxL : Nat) (ret : Option FieldType) (n : Nat) : Prop := Cond.instanceMethod y ∈ sv_tbl ∧ Cond.selects y.cls y y ∈ sv_tbl ∧ Cond.initialized y.cls ∈ sv_tbl ∧ Cond.code y b maxL ret ∈ sv_tbl ∧ (y.cls ≠ "java/lang/invoke/MethodHandle" ∧ y.cls ≠ "java/lang/invoke/VarHandle" ∧ (parseMethodDescriptor y.desc).map (fun d => d.parameters.length) = some n)
def sv_Ys (y : MethodName) (b : ByteArray) (maxL : Nat) (ret : Option FieldType) (n : Nat) : Prop := Cond.static y ∈ sv_tbl ∧ Cond.initialized y.cls ∈ sv_tbl ∧ Cond.code y b maxL ret ∈ sv_tbl ∧ (y.cls ≠ "java/lang/invoke/MethodHandle" ∧ y.cls ≠ "java/lang/invoke/VarHandle" ∧ (parseMethodDescriptor y.desc).map (fun d => d.parameters.length) = some n)
def sv_Yi (y : MethodName) (b : ByteArray) (maxL : Nat) (n : Nat) : Prop := Cond.instanceMethod y ∈ sv_tbl ∧ Cond.initialized y.cls ∈ sv_tbl ∧ Cond.code y b maxL none ∈ sv_tbl ∧ y.name = "<init>" ∧ (y.cls ≠ "java/lang/invoke/MethodHandle" ∧ y.cls ≠ "java/lang/invoke/VarHandle" ∧ (parseMethodDescriptor y.desc).map (fun d => d.parameters.length) = some n)
theorem sv_blind (G : sv_G) (Wd : Heap → Prop) (as : List Value) : FrameBlind (sv_Pc G Wd as) := fun a U g mk h => ⟨h.1, h.2.1, sv_K.to (s := U) (U := U.calling g mk a) (State.WarmedH.refl U) (fun _ _ _ => rfl) h.2.2⟩
section SVC
variable {p : Program} {l : Launch} {e : Env} {R : Room} {s : State} {m : MethodId} {args : Array Value} {below : List Frame} {meth : Method} {c : Code} {k n nL : Nat} {Q : State → Prop} {G : sv_G} {Wd Wd' Wx : Heap → Prop}
variable {cc : ByteArray} {pc : Nat} {lv lv' : List (Nat × Value)} {st rest : List Value} {own : String} {z : Nat} {M : sv_M} {o : Int64}
variable {y : MethodName} {b : ByteArray} {maxL d mc ms ix N a : Nat} {ret : Option FieldType} {as : List Value} {r : Option Value} {E0 : String → Prop} {ok : Prop}
/-- what a callee may ask, at a call -/
theorem sv_pre (C : sv_C p l s m args meth c cc nL own G) {H : Heap} {locs : List Loc} {as0 : List Value} (hW : Wd H) (hS : va_S (sv_A G) s.heap H locs) {U : State} (hU : U.heap = H) (hw : s.WarmedH U.vm) : sv_Pc G Wd as0 as0.toArray U :=
  ⟨rfl, by rw [hU]; exact hW, sv_K.to hw (fun a h1 h2 => by rw [hU]; exact hS.2.1 a h1 h2) C.2.2.2.2.2⟩
theorem sv_cb (C : sv_C p l s m args meth c cc nL own G) {rm : Room} (hml : Cond.methodLink own ix y ∈ sv_tbl) (hini : Cond.initialized y.cls ∈ sv_tbl) (hcode : Cond.code y b maxL ret ∈ sv_tbl) (hy : y.cls ≠ "java/lang/invoke/MethodHandle" ∧ y.cls ≠ "java/lang/invoke/VarHandle" ∧ (parseMethodDescriptor y.desc).map (fun d => d.parameters.length) = some N) (hR : rm.frames + 1 ≤ R.frames ∧ 8 + (maxL + 11) + rm.locals ≤ R.locals) : CallB R s args own ix y b maxL ret [.code y b maxL ret] rm rm.cells rm.slots N := by
  refine ⟨rfl, rfl, hR.1, hR.2, ?_, List.mem_cons_self, C.2.2.2.2.2.word hcode args, C.2.2.2.2.2.word hini args, ⟨hy.1, hy.2.1⟩, fun sig h => ?_, C.2.2.2.2.2.word hml args⟩
  · intro w hw a' U hW
    rcases List.mem_singleton.mp hw with rfl
    exact word_at hW (sv_good hcode) (C.2.2.2.2.2.word hcode args)
  · have h2 := hy.2.2
    rw [h] at h2
    exact (Option.some.inj h2).symm
theorem sv_cn (C : sv_C p l s m args meth c cc nL own G) {rm : Room} {host : String} (hml : (own, ix, y, host) ∈ sv_nests) (hini : Cond.initialized y.cls ∈ sv_tbl) (hcode : Cond.code y b maxL ret ∈ sv_tbl) (hy : y.cls ≠ "java/lang/invoke/MethodHandle" ∧ y.cls ≠ "java/lang/invoke/VarHandle" ∧ (parseMethodDescriptor y.desc).map (fun d => d.parameters.length) = some N) (hR : rm.frames + 1 ≤ R.frames ∧ 8 + (maxL + 11) + rm.locals ≤ R.locals) : va_CN R s args own ix y host b maxL ret [.code y b maxL ret] rm rm.cells rm.slots N := by
  refine ⟨⟨rfl, rfl, hR.1, hR.2, ?_, List.mem_cons_self⟩, C.2.2.2.2.2.word hcode args, C.2.2.2.2.2.word hini args, ⟨hy.1, hy.2.1⟩, fun sig h => ?_, va_Nw.use rfl (C.2.2.2.2.2.2.2.1.1.1 _ hml)⟩
  · intro w hw a' U hW
    rcases List.mem_singleton.mp hw with rfl
    exact word_at hW (sv_good hcode) (C.2.2.2.2.2.word hcode args)
  · have h2 := hy.2.2
    rw [h] at h2
    exact (Option.some.inj h2).symm
/-- behind a call that returns -/
theorem sv_run {av : Array Value} (hr : ∀ H locs ls, Wd H → va_S (sv_A G) s.heap H locs → lv_has ls nL lv → va_Run p l e R s m args below meth c H locs k n mc ms (F0 m pc ls st) rest (sv_Qc G Wd' r av) (sv_A G)) (kk : sv_V p l e R s m args below meth c nL G Q (k + mc) (n + ms) Wd' (pc + 3) lv (r.toList ++ rest)) : sv_V p l e R s m args below meth c nL G Q k n Wd pc lv st := by
  intro H locs ls h1 h2 h3 T hT X
  obtain ⟨v, st₀, t, T', L, h0, X', hL, e1, e2, ⟨hv, hw, hz, hk⟩, go⟩ := hr H locs ls h1 h2 h3 T hT X
  cases hv
  rw [h0] at hz hk
  obtain ⟨t2, a1, b1⟩ := kk T'.heap (locs ++ L) ls (by rw [e1]; exact hw) ⟨Nat.le_trans h2.1 (by rw [e1]; exact hz), fun q g1 g2 => by rw [e1, hk q (Nat.lt_of_lt_of_le g1 h2.1) g2]; exact h2.2.1 q g1 g2, fun q hq => by
      rcases List.mem_append.mp hq with h | h
      · exact h2.2.2 q h
      · exact hL q h⟩ h3 T' rfl X'
  exact ⟨t2, go t2 a1, b1⟩
/-- q is thrown over this frame, in any heap of the world -/
def sv_X (p : Program) (l : Launch) (e : Env) (R : Room) (s : State) (m : MethodId) (args : Array Value) (below : List Frame) (meth : Method) (c : Code) (nL : Nat) (G : sv_G) (Q : State → Prop) (k n : Nat) (Wx : Heap → Prop) (E : String) (pc : Nat) (lv : List (Nat × Value)) (st : List Value) : Prop :=
  ∀ (H : Heap) (locs : List Loc) (ls : Array Slot) (q : Addr) (ce : Cell), Wx H → va_S (sv_A G) s.heap H locs → lv_has ls nL lv → H[q]? = some ce → ce.vm = .none → s.vm.findClass E = some ce.cls → vx_W p l e R s m args below meth c H locs k n Q (F0 m pc ls st) q
theorem sv_runX {av : Array Value} (hr : ∀ H locs ls, Wd H → va_S (sv_A G) s.heap H locs → lv_has ls nL lv → vx_Run p l e R s m args below meth c H locs k n mc ms (F0 m pc ls st) rest (fun st o t => ok ∧ sv_Qc G Wd' r av st o t) (sv_Xc G E0 Wx) (sv_A G)) (kx : ∀ E, E0 E → sv_X p l e R s m args below meth c nL G Q (k + mc) (n + ms) Wx E pc lv rest) (kk : ok → sv_V p l e R s m args below meth c nL G Q (k + mc) (n + ms) Wd' (pc + 3) lv (r.toList ++ rest)) : sv_V p l e R s m args below meth c nL G Q k n Wd pc lv st := by
  intro H locs ls h1 h2 h3 T hT X
  rcases hr H locs ls h1 h2 h3 T hT X with ⟨v, st₀, t, T', L, h0, X', hL, e1, e2, ⟨hok, hv, hw, hz, hk⟩, go⟩ | ⟨q, st₀, t, T', L, E, ce, h0, X', hL, e1, e2, ⟨hE, hw, hz, hk⟩, hce, hcv, hcl, go⟩
  · cases hv
    rw [h0] at hz hk
    obtain ⟨t2, a1, b1⟩ := kk hok T'.heap (locs ++ L) ls (by rw [e1]; exact hw) ⟨Nat.le_trans h2.1 (by rw [e1]; exact hz), fun q g1 g2 => by rw [e1, hk q (Nat.lt_of_lt_of_le g1 h2.1) g2]; exact h2.2.1 q g1 g2, fun q hq => by
        rcases List.mem_append.mp hq with h | h
        · exact h2.2.2 q h
        · exact hL q h⟩ h3 T' rfl X'
    exact ⟨t2, go t2 a1, b1⟩
  · rw [h0] at hz hk
    obtain ⟨t2, a1, b1⟩ := kx E hE T'.heap (locs ++ L) ls q ce (by rw [e1]; exact hw) ⟨Nat.le_trans h2.1 (by rw [e1]; exact hz), fun q g1 g2 => by rw [e1, hk q (Nat.lt_of_lt_of_le g1 h2.1) g2]; exact h2.2.1 q g1 g2, fun q hq => by
        rcases List.mem_append.mp hq with h | h
        · exact h2.2.2 q h
        · exact hL q h⟩ h3 (by rw [e1]; exact hce) hcv hcl T' rfl X'
    exact ⟨t2, Steps.trans go a1, b1⟩
abbrev sv_recv (s : State) (Wd : Heap → Prop) (Cn : String) (a : Nat) : Prop := ∀ H, Wd H → ∃ cell : Cell, H[a]? = some cell ∧ cell.vm.isStatics = false ∧ s.vm.findClass Cn = some cell.cls
theorem sv_recvg (C : sv_C p l s m args meth c cc nL own G) {ci : Nat} {Cn : String} {T : u_T} {N' : Nat} {fs : List Value} (hcl : vwCl[ci]? = some (Cn, T, N')) (hat : ∀ H, Wd H → va_at (sv_D G) vwCl (a, .inr (ci, fs)) H) : sv_recv s Wd Cn a := fun H h => va_recv (q := (Cn, T, N')) C.2.2.2.2.2.1 (sv_one (hat H h)) hcl (q0 := 0) rfl
theorem sv_callV (C : sv_C p l s m args meth c cc nL own G) (hM : sv_Met l G y b maxL ret d (.ref a :: as) Wd r Wd') (hY : sv_Yv y b maxL ret as.length) (hml : Cond.methodLink own ix y ∈ sv_tbl) (hrc : sv_recv s Wd y.cls a) (hR : d + 1 ≤ R.frames ∧ 8 + (maxL + 11) + 36 * d ≤ R.locals) (hrest : (rest.map fun v => v.category).sum ≤ 8) (dg : decode cc pc = .ok (.invokevirtual ix, 3)) (hf : k ≤ R.cells ∧ n ≤ R.slots) (kk : sv_V p l e R s m args below meth c nL G Q k n Wd' (pc + 3) lv (r.toList ++ rest)) : sv_V p l e R s m args below meth c nL G Q k n Wd pc lv (as.reverse ++ .ref a :: rest) := sv_run (mc := 0) (ms := 0) (fun H locs ls h1 h2 h3 => va_runV (Ts := sv_tbl) ⟨C.1, C.2.1, C.2.2.1, C.2.2.2.1, fun w hw => C.2.2.2.2.2.word hw args⟩ hM ⟨sv_cb C hml hY.2.2.1 hY.2.2.2.1 hY.2.2.2.2 hR, C.2.2.2.2.2.word hY.1 args, C.2.2.2.2.2.word hY.2.1 args⟩ ⟨sv_blind _ _ _, hrc H h1, fun U hU hw => sv_pre C h1 h2 hU hw⟩ rfl rfl h3.1 rfl (lv_room hrest) dg hf) kk
theorem sv_callS (C : sv_C p l s m args meth c cc nL own G) (hM : sv_Met l G y b maxL ret d as Wd r Wd') (hY : sv_Ys y b maxL ret as.length) (hml : Cond.methodLink own ix y ∈ sv_tbl) (hR : d + 1 ≤ R.frames ∧ 8 + (maxL + 11) + 36 * d ≤ R.locals) (hrest : (rest.map fun v => v.category).sum ≤ 8) (dg : decode cc pc = .ok (.invokestatic ix, 3)) (hf : k ≤ R.cells ∧ n ≤ R.slots) (kk : sv_V p l e R s m args below meth c nL G Q k n Wd' (pc + 3) lv (r.toList ++ rest)) : sv_V p l e R s m args below meth c nL G Q k n Wd pc lv (as.reverse ++ rest) := sv_run (mc := 0) (ms := 0) (fun H locs ls h1 h2 h3 => va_runS (Ts := sv_tbl) ⟨C.1, C.2.1, C.2.2.1, C.2.2.2.1, fun w hw => C.2.2.2.2.2.word hw args⟩ hM ⟨sv_cb C hml hY.2.1 hY.2.2.1 hY.2.2.2 hR, C.2.2.2.2.2.word hY.1 args⟩ ⟨sv_blind _ _ _, fun U hU hw => sv_pre C h1 h2 hU hw⟩ rfl rfl h3.1 rfl (lv_room hrest) dg hf) kk
theorem sv_callN (C : sv_C p l s m args meth c cc nL own G) (hM : sv_Met l G y b maxL ret d as Wd r Wd') (hY : sv_Ys y b maxL ret as.length) {host : String} (hml : (own, ix, y, host) ∈ sv_nests) (hR : d + 1 ≤ R.frames ∧ 8 + (maxL + 11) + 36 * d ≤ R.locals) (hrest : (rest.map fun v => v.category).sum ≤ 8) (dg : decode cc pc = .ok (.invokestatic ix, 3)) (hf : k ≤ R.cells ∧ n ≤ R.slots) (kk : sv_V p l e R s m args below meth c nL G Q k n Wd' (pc + 3) lv (r.toList ++ rest)) : sv_V p l e R s m args below meth c nL G Q k n Wd pc lv (as.reverse ++ rest) := sv_run (mc := 0) (ms := 0) (fun H locs ls h1 h2 h3 => va_runSN (Ts := sv_tbl) ⟨C.1, C.2.1, C.2.2.1, C.2.2.2.1, fun w hw => C.2.2.2.2.2.word hw args⟩ hM ⟨sv_cn C hml hY.2.1 hY.2.2.1 hY.2.2.2 hR, C.2.2.2.2.2.word hY.1 args, trivial⟩ ⟨sv_blind _ _ _, fun U hU hw => sv_pre C h1 h2 hU hw⟩ rfl rfl h3.1 rfl (lv_room hrest) dg hf) kk
theorem sv_callI (C : sv_C p l s m args meth c cc nL own G) (hM : sv_Met l G y b maxL none d (.ref a :: as) Wd r Wd') (hY : sv_Yi y b maxL as.length) (hml : Cond.methodLink own ix y ∈ sv_tbl) (hR : d + 1 ≤ R.frames ∧ 8 + (maxL + 11) + 36 * d ≤ R.locals) (hrest : (rest.map fun v => v.category).sum ≤ 8) (dg : decode cc pc = .ok (.invokespecial ix, 3)) (hf : k ≤ R.cells ∧ n ≤ R.slots) (kk : sv_V p l e R s m args below meth c nL G Q k n Wd' (pc + 3) lv (r.toList ++ rest)) : sv_V p l e R s m args below meth c nL G Q k n Wd pc lv (as.reverse ++ .ref a :: rest) := sv_run (mc := 0) (ms := 0) (fun H locs ls h1 h2 h3 => va_runI (Ts := sv_tbl) ⟨C.1, C.2.1, C.2.2.1, C.2.2.2.1, fun w hw => C.2.2.2.2.2.word hw args⟩ hM ⟨sv_cb C hml hY.2.1 hY.2.2.1 hY.2.2.2.2 hR, hY.2.2.2.1, C.2.2.2.2.2.word hY.1 args⟩ ⟨sv_blind _ _ _, fun U hU hw => sv_pre C h1 h2 hU hw⟩ rfl rfl h3.1 rfl (lv_room hrest) dg hf) kk
theorem sv_callVX (C : sv_C p l s m args meth c cc nL own G) (hM : sv_MetX l G y b maxL ret d mc (.ref a :: as) Wd ok r Wd' E0 Wx) (hY : sv_Yv y b maxL ret as.length) (hml : Cond.methodLink own ix y ∈ sv_tbl) (hrc : sv_recv s Wd y.cls a) (hR : d + 1 ≤ R.frames ∧ 8 + (maxL + 11) + 36 * d ≤ R.locals) (hrest : (rest.map fun v => v.category).sum ≤ 8) (dg : decode cc pc = .ok (.invokevirtual ix, 3)) (hf : k + mc ≤ R.cells ∧ n + 6 * mc ≤ R.slots) (kx : ∀ E, E0 E → sv_X p l e R s m args below meth c nL G Q (k + mc) (n + 6 * mc) Wx E pc lv rest) (kk : ok → sv_V p l e R s m args below meth c nL G Q (k + mc) (n + 6 * mc) Wd' (pc + 3) lv (r.toList ++ rest)) : sv_V p l e R s m args below meth c nL G Q k n Wd pc lv (as.reverse ++ .ref a :: rest) := sv_runX (fun H locs ls h1 h2 h3 => vx_runV (Ts := sv_tbl) ⟨C.1, C.2.1, C.2.2.1, C.2.2.2.1, fun w hw => C.2.2.2.2.2.word hw args⟩ hM ⟨sv_cb C hml hY.2.2.1 hY.2.2.2.1 hY.2.2.2.2 hR, C.2.2.2.2.2.word hY.1 args, C.2.2.2.2.2.word hY.2.1 args⟩ ⟨sv_blind _ _ _, hrc H h1, fun U hU hw => sv_pre C h1 h2 hU hw⟩ rfl rfl h3.1 rfl (lv_room hrest) dg hf) kx kk
theorem sv_callSX (C : sv_C p l s m args meth c cc nL own G) (hM : sv_MetX l G y b maxL ret d mc as Wd ok r Wd' E0 Wx) (hY : sv_Ys y b maxL ret as.length) (hml : Cond.methodLink own ix y ∈ sv_tbl) (hR : d + 1 ≤ R.frames ∧ 8 + (maxL + 11) + 36 * d ≤ R.locals) (hrest : (rest.map fun v => v.category).sum ≤ 8) (dg : decode cc pc = .ok (.invokestatic ix, 3)) (hf : k + mc ≤ R.cells ∧ n + 6 * mc ≤ R.slots) (kx : ∀ E, E0 E → sv_X p l e R s m args below meth c nL G Q (k + mc) (n + 6 * mc) Wx E pc lv rest) (kk : ok → sv_V p l e R s m args below meth c nL G Q (k + mc) (n + 6 * mc) Wd' (pc + 3) lv (r.toList ++ rest)) : sv_V p l e R s m args below meth c nL G Q k n Wd pc lv (as.reverse ++ rest) := sv_runX (fun H locs ls h1 h2 h3 => vx_runS (Ts := sv_tbl) ⟨C.1, C.2.1, C.2.2.1, C.2.2.2.1, fun w hw => C.2.2.2.2.2.word hw args⟩ hM ⟨sv_cb C hml hY.2.1 hY.2.2.1 hY.2.2.2 hR, C.2.2.2.2.2.word hY.1 args⟩ ⟨sv_blind _ _ _, fun U hU hw => sv_pre C h1 h2 hU hw⟩ rfl rfl h3.1 rfl (lv_room hrest) dg hf) kx kk
theorem sv_ofW {ret : Option FieldType} (hy : plainName y.cls = true) (hin : Cond.code y b maxL ret ∈ sv_tbl) (hlen : (lg_sl as).length ≤ maxL) (body : ∀ p e s m args below meth c, meth.sig.returnType = ret → sv_C p l s m args meth c b maxL y.cls G → (y.name = "<init>" → meth.name = "<init>") → sv_V p l e (sv_rm d mc ms) s m args below meth c maxL G (MQ below (sv_Qc G Wd' r) args s mc ms (sv_A G)) 0 0 Wd 0 (lv_args 0 as) []) : Met l y [.code y b maxL ret] (sv_rm d mc ms) (sv_Pc G Wd as) (sv_Qc G Wd' r) mc ms (sv_A G) := by
  refine Met.ofW (cc := b) (maxL := maxL) (ret := ret) hy rfl ?_
  intro p e s m args below meth c s₁ B hml hv
  obtain ⟨rfl, hw, hK⟩ := hv
  have hl := lv_entry as (n := maxL) hlen
  rw [lg_entry_eq]
  exact body p e s m _ below meth c B.returns ⟨B.exec, B.bytes, hml, findClass_of_methodNamed B.named, B.notSynchronized, hK⟩ (fun h => (name_of_methodNamed B.named B.method).1.trans h) s.heap [] _ hw va_S.rf hl
theorem sv_ofWX {ret : Option FieldType} {Qc : Array Value → State → Outcome → State → Prop} {XC : String → State → State → Prop} (hy : plainName y.cls = true) (hin : Cond.code y b maxL ret ∈ sv_tbl) (hlen : (lg_sl as).length ≤ maxL) (body : ∀ p e s m args below meth c, meth.sig.returnType = ret → sv_C p l s m args meth c b maxL y.cls G → (∀ x ∈ c.exceptionTable.toList, False) → sv_V p l e (sv_rm d mc ms) s m args below meth c maxL G (vx_MQ below Qc XC args s mc ms (sv_A G)) 0 0 Wd 0 (lv_args 0 as) []) : vx_Met l y [.code y b maxL ret] (sv_rm d mc ms) (sv_Pc G Wd as) Qc XC mc ms (sv_A G) := by
  refine vx_ofW (cc := b) (maxL := maxL) (ret := ret) hy rfl ?_
  intro p e s m args below meth c s₁ B hml hx hv
  obtain ⟨rfl, hw, hK⟩ := hv
  have hl := lv_entry as (n := maxL) hlen
  rw [lg_entry_eq]
  exact body p e s m _ below meth c B.returns ⟨B.exec, B.bytes, hml, findClass_of_methodNamed B.named, B.notSynchronized, hK⟩ hx s.heap [] _ hw va_S.rf hl
theorem sv_iret (C : sv_C p l s m args meth c cc nL own G) {v v' : Int32} (hr : meth.sig.returnType = some .int) (d : decode cc pc = .ok (.ireturn, 1)) (hk : k ≤ mc) (hn : n ≤ ms) (hv : v = v') (hw : ∀ H, Wd H → Wd' H) : sv_V p l e R s m args below meth c nL G (MQ below (sv_Qc G Wd' (some (.int v'))) args s mc ms (sv_A G)) k n Wd pc lv [.int v] := by
  subst hv
  intro H locs ls h1 h2 h3
  exact W.widen hk hn (W.iret C.1 C.2.1 hr (fun t ht _ => ⟨rfl, by rw [ht]; exact hw H h1, h2.F ht⟩) h2.2.2 d (hlocks := C.2.2.2.2.1))
theorem sv_iretX (C : sv_C p l s m args meth c cc nL own G) {v v' : Int32} {XC : String → State → State → Prop} (hok : ok) (hr : meth.sig.returnType = some .int) (d : decode cc pc = .ok (.ireturn, 1)) (hk : k ≤ mc) (hn : n ≤ ms) (hv : v = v') (hw : ∀ H, Wd H → Wd' H) : sv_V p l e R s m args below meth c nL G (vx_MQ below (fun a st o t => ok ∧ sv_Qc G Wd' (some (.int v')) a st o t) XC args s mc ms (sv_A G)) k n Wd pc lv [.int v] := by
  subst hv
  intro H locs ls h1 h2 h3
  exact vx_ret (W.widen hk hn (W.iret C.1 C.2.1 hr (fun t ht _ => ⟨hok, rfl, by rw [ht]; exact hw H h1, h2.F ht⟩) h2.2.2 d (hlocks := C.2.2.2.2.1)))
theorem sv_lret (C : sv_C p l s m args meth c cc nL own G) {v v' : Int64} (hr : meth.sig.returnType = some .long) (d : decode cc pc = .ok (.lreturn, 1)) (hk : k ≤ mc) (hn : n ≤ ms) (hv : v = v') (hw : ∀ H, Wd H → Wd' H) : sv_V p l e R s m args below meth c nL G (MQ below (sv_Qc G Wd' (some (.long v'))) args s mc ms (sv_A G)) k n Wd pc lv [.long v] := by
  subst hv
  intro H locs ls h1 h2 h3
  exact W.widen hk hn (W.lret C.1 C.2.1 hr (fun t ht _ => ⟨rfl, by rw [ht]; exact hw H h1, h2.F ht⟩) h2.2.2 d (hlocks := C.2.2.2.2.1))
theorem sv_lretX (C : sv_C p l s m args meth c cc nL own G) {v v' : Int64} {XC : String → State → State → Prop} (hok : ok) (hr : meth.sig.returnType = some .long) (d : decode cc pc = .ok (.lreturn, 1)) (hk : k ≤ mc) (hn : n ≤ ms) (hv : v = v') (hw : ∀ H, Wd H → Wd' H) : sv_V p l e R s m args below meth c nL G (vx_MQ below (fun a st o t => ok ∧ sv_Qc G Wd' (some (.long v')) a st o t) XC args s mc ms (sv_A G)) k n Wd pc lv [.long v] := by
  subst hv
  intro H locs ls h1 h2 h3
  exact vx_ret (W.widen hk hn (W.lret C.1 C.2.1 hr (fun t ht _ => ⟨hok, rfl, by rw [ht]; exact hw H h1, h2.F ht⟩) h2.2.2 d (hlocks := C.2.2.2.2.1)))
theorem sv_dret (C : sv_C p l s m args meth c cc nL own G) {v v' : UInt64} (hr : meth.sig.returnType = some .double) (d : decode cc pc = .ok (.dreturn, 1)) (hk : k ≤ mc) (hn : n ≤ ms) (hv : v = v') (hw : ∀ H, Wd H → Wd' H) : sv_V p l e R s m args below meth c nL G (MQ below (sv_Qc G Wd' (some (.double v'))) args s mc ms (sv_A G)) k n Wd pc lv [.double v] := by
  subst hv
  intro H locs ls h1 h2 h3
  exact W.widen hk hn (W.dret C.1 C.2.1 hr (fun t ht _ => ⟨rfl, by rw [ht]; exact hw H h1, h2.F ht⟩) h2.2.2 d (hlocks := C.2.2.2.2.1))
theorem sv_dretX (C : sv_C p l s m args meth c cc nL own G) {v v' : UInt64} {XC : String → State → State → Prop} (hok : ok) (hr : meth.sig.returnType = some .double) (d : decode cc pc = .ok (.dreturn, 1)) (hk : k ≤ mc) (hn : n ≤ ms) (hv : v = v') (hw : ∀ H, Wd H → Wd' H) : sv_V p l e R s m args below meth c nL G (vx_MQ below (fun a st o t => ok ∧ sv_Qc G Wd' (some (.double v')) a st o t) XC args s mc ms (sv_A G)) k n Wd pc lv [.double v] := by
  subst hv
  intro H locs ls h1 h2 h3
  exact vx_ret (W.widen hk hn (W.dret C.1 C.2.1 hr (fun t ht _ => ⟨hok, rfl, by rw [ht]; exact hw H h1, h2.F ht⟩) h2.2.2 d (hlocks := C.2.2.2.2.1)))
theorem sv_zret (C : sv_C p l s m args meth c cc nL own G) {v v' : Int32} (hz : v' = 0 ∨ v' = 1) (hr : meth.sig.returnType = some .boolean) (d : decode cc pc = .ok (.ireturn, 1)) (hk : k ≤ mc) (hn : n ≤ ms) (hv : v = v') (hw : ∀ H, Wd H → Wd' H) : sv_V p l e R s m args below meth c nL G (MQ below (sv_Qc G Wd' (some (.int v'))) args s mc ms (sv_A G)) k n Wd pc lv [.int v] := by
  subst hv
  intro H locs ls h1 h2 h3
  exact W.widen hk hn (W.zret C.1 C.2.1 hr (by rcases hz with rfl | rfl <;> rfl) (fun t ht _ => ⟨rfl, by rw [ht]; exact hw H h1, h2.F ht⟩) h2.2.2 d (hlocks := C.2.2.2.2.1))
theorem sv_nret (C : sv_C p l s m args meth c cc nL own G) {v v' : Int32} {ty : FieldType} (hz : narrow ty (.int v') = .int v') (hr : meth.sig.returnType = some ty) (d : decode cc pc = .ok (.ireturn, 1)) (hk : k ≤ mc) (hn : n ≤ ms) (hv : v = v') (hw : ∀ H, Wd H → Wd' H) : sv_V p l e R s m args below meth c nL G (MQ below (sv_Qc G Wd' (some (.int v'))) args s mc ms (sv_A G)) k n Wd pc lv [.int v] := by
  subst hv
  intro H locs ls h1 h2 h3
  exact W.widen hk hn (W.zret C.1 C.2.1 hr hz (fun t ht _ => ⟨rfl, by rw [ht]; exact hw H h1, h2.F ht⟩) h2.2.2 d (hlocks := C.2.2.2.2.1))
theorem sv_vret (C : sv_C p l s m args meth c cc nL own G) (hr : meth.sig.returnType = none) (d : decode cc pc = .ok (.return_, 1)) (hk : k ≤ mc) (hn : n ≤ ms) (hw : ∀ H, Wd H → Wd' H) : sv_V p l e R s m args below meth c nL G (MQ below (sv_Qc G Wd' none) args s mc ms (sv_A G)) k n Wd pc lv [] := by
  intro H locs ls h1 h2 h3
  exact W.widen hk hn (W.vret C.1 C.2.1 hr (fun t ht _ => ⟨rfl, by rw [ht]; exact hw H h1, h2.F ht⟩) h2.2.2 d (hlocks := C.2.2.2.2.1))
theorem sv_vretX (C : sv_C p l s m args meth c cc nL own G) {XC : String → State → State → Prop} (hok : ok) (hr : meth.sig.returnType = none) (d : decode cc pc = .ok (.return_, 1)) (hk : k ≤ mc) (hn : n ≤ ms) (hw : ∀ H, Wd H → Wd' H) : sv_V p l e R s m args below meth c nL G (vx_MQ below (fun a st o t => ok ∧ sv_Qc G Wd' none a st o t) XC args s mc ms (sv_A G)) k n Wd pc lv [] := by
  intro H locs ls h1 h2 h3
  exact vx_ret (W.widen hk hn (W.vret C.1 C.2.1 hr (fun t ht _ => ⟨hok, rfl, by rw [ht]; exact hw H h1, h2.F ht⟩) h2.2.2 d (hlocks := C.2.2.2.2.1)))
theorem sv_aret (C : sv_C p l s m args meth c cc nL own G) {v v' : Nat} {rt : FieldType} (hr : meth.sig.returnType = some rt) (hrt : (∃ n, rt = .object n) ∨ ∃ t, rt = .array t) (d : decode cc pc = .ok (.areturn, 1)) (hk : k ≤ mc) (hn : n ≤ ms) (hv : v = v') (hw : ∀ H, Wd H → Wd' H) : sv_V p l e R s m args below meth c nL G (MQ below (sv_Qc G Wd' (some (.ref v'))) args s mc ms (sv_A G)) k n Wd pc lv [.ref v] := by
  subst hv
  intro H locs ls h1 h2 h3
  exact W.widen hk hn (W.aret C.1 C.2.1 hr hrt (Or.inr ⟨_, rfl⟩) (fun t ht _ => ⟨rfl, by rw [ht]; exact hw H h1, h2.F ht⟩) h2.2.2 d (hlocks := C.2.2.2.2.1))
/-- a throw goes on to the caller -/
theorem sv_out (C : sv_C p l s m args meth c cc nL own G) {E : String} {Qc : Array Value → State → Outcome → State → Prop} (hx : ∀ x ∈ c.exceptionTable.toList, False) (hk : k ≤ mc) (hn : n ≤ ms) (hE : E0 E) (hw : ∀ H, Wd H → Wx H) : sv_X p l e R s m args below meth c nL G (vx_MQ below Qc (sv_Xc G E0 Wx) args s mc ms (sv_A G)) k n Wd E pc lv st := by
  intro H locs ls q ce h1 h2 h3 hce hcv hcl
  exact vx_out (fun x hx' => (hx x hx').elim) C.2.2.2.2.1 hce hcv hcl (fun t ht _ => ⟨hE, by rw [ht]; exact hw H h1, h2.F ht⟩) h2.2.2 hk hn
end SVC
