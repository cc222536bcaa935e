section
-- ===== PART A: goes FIRST, ahead of the names: the tables' words, and 'selects' of the private methods out of them =====
/-- a private method of a class that the tables say can be made, by its rows of tables_1 -/
def lw_okq (q : MethodName × Nat) : Prop := (q.1.cls ≠ "java/lang/invoke/MethodHandle" ∧ q.1.cls ≠ "java/lang/invoke/VarHandle") ∧ Cond.instantiable q.1.cls q.2 ∈ tables_1 ∧ Cond.privateMethod q.1 ∈ tables_1 ∧ Cond.instanceMethod q.1 ∈ tables_1
theorem lw_p0 : lw_okq (⟨"java/lang/Throwable", "fillInStackTrace", "(I)Ljava/lang/Throwable;"⟩, 6) := ⟨⟨by decide +kernel, by decide +kernel⟩, List.mem_of_getElem? (i := 221) (by decide +kernel), List.mem_of_getElem? (i := 219) (by decide +kernel), List.mem_of_getElem? (i := 220) (by decide +kernel)⟩
theorem lw_p1 : lw_okq (⟨"StairLight", "counted", "(I)I"⟩, 4) := ⟨⟨by decide +kernel, by decide +kernel⟩, List.mem_of_getElem? (i := 14) (by decide +kernel), List.mem_of_getElem? (i := 290) (by decide +kernel), List.mem_of_getElem? (i := 291) (by decide +kernel)⟩
theorem lw_p2 : lw_okq (⟨"StairLight", "outlook", "(II)I"⟩, 4) := ⟨⟨by decide +kernel, by decide +kernel⟩, List.mem_of_getElem? (i := 14) (by decide +kernel), List.mem_of_getElem? (i := 322) (by decide +kernel), List.mem_of_getElem? (i := 323) (by decide +kernel)⟩
theorem lw_p3 : lw_okq (⟨"StairLight$People", "walk", "(II)V"⟩, 6) := ⟨⟨by decide +kernel, by decide +kernel⟩, List.mem_of_getElem? (i := 65) (by decide +kernel), List.mem_of_getElem? (i := 357) (by decide +kernel), List.mem_of_getElem? (i := 358) (by decide +kernel)⟩
theorem lw_p4 : lw_okq (⟨"StairLight$People", "moveUp", "(II)V"⟩, 6) := ⟨⟨by decide +kernel, by decide +kernel⟩, List.mem_of_getElem? (i := 65) (by decide +kernel), List.mem_of_getElem? (i := 367) (by decide +kernel), List.mem_of_getElem? (i := 368) (by decide +kernel)⟩
theorem lw_p5 : lw_okq (⟨"StairLight$Stairs", "countSecondOn", "(I)V"⟩, 7) := ⟨⟨by decide +kernel, by decide +kernel⟩, List.mem_of_getElem? (i := 22) (by decide +kernel), List.mem_of_getElem? (i := 386) (by decide +kernel), List.mem_of_getElem? (i := 387) (by decide +kernel)⟩
theorem lw_p6 : lw_okq (⟨"StairLight", "darkWith", "(III)I"⟩, 4) := ⟨⟨by decide +kernel, by decide +kernel⟩, List.mem_of_getElem? (i := 14) (by decide +kernel), List.mem_of_getElem? (i := 406) (by decide +kernel), List.mem_of_getElem? (i := 407) (by decide +kernel)⟩
theorem lw_p7 : lw_okq (⟨"StairLight$History", "stateAt", "(I)LStairLight$Stairs;"⟩, 3) := ⟨⟨by decide +kernel, by decide +kernel⟩, List.mem_of_getElem? (i := 129) (by decide +kernel), List.mem_of_getElem? (i := 497) (by decide +kernel), List.mem_of_getElem? (i := 498) (by decide +kernel)⟩
def lw_privs_1 : List (MethodName × Nat) := [(⟨"java/lang/Throwable", "fillInStackTrace", "(I)Ljava/lang/Throwable;"⟩, 6), (⟨"StairLight", "counted", "(I)I"⟩, 4), (⟨"StairLight", "outlook", "(II)I"⟩, 4), (⟨"StairLight$People", "walk", "(II)V"⟩, 6), (⟨"StairLight$People", "moveUp", "(II)V"⟩, 6), (⟨"StairLight$Stairs", "countSecondOn", "(I)V"⟩, 7), (⟨"StairLight", "darkWith", "(III)I"⟩, 4), (⟨"StairLight$History", "stateAt", "(I)LStairLight$Stairs;"⟩, 3)]
theorem lw_r1 : ∀ q ∈ lw_privs_1, lw_okq q := List.forall_mem_cons.mpr ⟨lw_p0, List.forall_mem_cons.mpr ⟨lw_p1, List.forall_mem_cons.mpr ⟨lw_p2, List.forall_mem_cons.mpr ⟨lw_p3, List.forall_mem_cons.mpr ⟨lw_p4, List.forall_mem_cons.mpr ⟨lw_p5, List.forall_mem_cons.mpr ⟨lw_p6, List.forall_mem_cons.mpr ⟨lw_p7, fun _ h => absurd h List.not_mem_nil⟩⟩⟩⟩⟩⟩⟩⟩
def lw_privs : List (MethodName × Nat) := lw_privs_1
def lw_tbl : List Cond := k2_sels lw_privs ++ tables_1
theorem lw_privs_ok : ∀ q ∈ lw_privs, lw_okq q := lw_r1
/-- the streams that the claim lets the run draw from -/
abbrev lw_cs : List Choice := [Jvm.Choice.named "NaN.bits"]
theorem lw_bits : nanBits ∈ lw_cs := by first | decide | exact List.mem_cons_self | simp [lw_cs, nanBits]
/-! ===== BEGIN words of one list among another's, by their places ===== -/
theorem goodIn_r {big : List Cond} (ws : List Cond) (ps : List Nat) (hp : ws = ps.filterMap (fun i => big[i]?)) (h : ws.all goodWord = true) : GoodIn big ws := by
  intro w hw
  have h1 := List.all_eq_true.mp h w hw
  rw [hp] at hw
  obtain ⟨i, -, hi⟩ := List.mem_filterMap.mp hw
  have hm : w ∈ big := by first | exact List.mem_of_getElem? hi | exact List.getElem?_mem hi
  exact ⟨hm, good_of_word h1⟩
theorem goodIn_app {big a b : List Cond} (ha : GoodIn big a) (hb : GoodIn big b) : GoodIn big (a ++ b) := fun w h => (List.mem_append.mp h).elim (ha w) (hb w)
theorem goodIn_ca {big a b : List Cond} {c : Cond} (ha : GoodIn big (c :: a)) (hb : GoodIn big b) : GoodIn big (c :: (a ++ b)) := fun w h => (List.mem_cons.mp h).elim (fun e => ha w (List.mem_cons.mpr (Or.inl e))) (fun h => (List.mem_append.mp h).elim (fun h => ha w (List.mem_cons.mpr (Or.inr h))) (hb w))
theorem goodIn_sub {big ws : List Cond} (hm : ∀ w ∈ ws, w ∈ big) (h : ws.all goodWord = true) : GoodIn big ws := fun w hw => ⟨hm w hw, good_of_word (List.all_eq_true.mp h w hw)⟩
/-! ===== END ===== -/

/-! ===== BEGIN exceptions that leave a method, and their catching by the caller (launches without stack traces) ===== -/
section VXA
/-! The laws vx_back, vx_callV, vx_callS, vx_callSW, vx_throw0, vx_throwS follow proofs of the library, with one case more: JvmDerived/Free/Laws.lean (Back.of_free), Shelf42/LK1.lean (callV, callS), Shelf/KitTraced.lean (throwNew0V, throwNewS). -/
/-- where a method has thrown q: the class by its name, the cell, what was written, the world -/
def vx_T (XC : String → State → State → Prop) (st : State) (q : Addr) (t : State) (mc ms : Nat) (free : Addr → Prop) : Prop :=
  ∃ (E : String) (ce : Cell) (L : List Loc), XC E st t ∧ t.heap[q]? = some ce ∧ ce.vm = .none ∧ st.vm.findClass E = some ce.cls ∧ st.WarmedH t.vm ∧ st.sameButNew ({ t with vm := st.vm } : State) L mc ms ∧ ∀ z ∈ L, free z.base
def vx_Q (Qc : Array Value → State → Outcome → State → Prop) (XC : String → State → State → Prop) (mc ms : Nat) (free : Addr → Prop) : Array Value → State → Outcome → State → Prop := fun a st o t =>
  (Qc a st o t ∧ ∃ L, FrameEnd st o t L mc ms ∧ ∀ q ∈ L, free q.base) ∨ ∃ q, o = .threw q ∧ vx_T XC st q t mc ms free
/-- a callee that returns or throws -/
def vx_Met (l : Launch) (y : MethodName) (ws : List Cond) (rm : Room) (Pc : Array Value → State → Prop) (Qc : Array Value → State → Outcome → State → Prop) (XC : String → State → State → Prop) (mc ms : Nat) (free : Addr → Prop) : Prop :=
  MetFree l y (headSpec ws rm) Pc (fun _ _ _ _ _ => True) (vx_Q Qc XC mc ms free)
def vx_Post (XC : String → State → State → Prop) (mc ms : Nat) (free : Addr → Prop) : Pt → Array Value → Addr → Pt → Prop := fun A a q B =>
  ∃ (g : JFrame) (mk : MethodId) (t : State) (L : List Loc) (E : String) (ce : Cell), B.U.heap = t.heap ∧ B.U.vm = t.vm ∧ XC E (A.U.calling g mk a) t ∧ t.heap[q]? = some ce ∧ ce.vm = .none ∧ A.U.vm.findClass E = some ce.cls ∧ B.locs = A.locs ++ L ∧ (∀ z ∈ L, free z.base) ∧ B.cells = A.cells + mc ∧ B.slots = A.slots + ms
def vx_Back (l : Launch) (R : Room) (p : Program) (e : Env) (below : List Frame) (s : State) (sargs : Array Value) (y : MethodName) (len W9 : Nat)
    (Pre : Pt → Array Value → Prop) (Post : Pt → Array Value → Option Value → Pt → Prop) (PostX : Pt → Array Value → Addr → Pt → Prop) : Prop :=
  ∀ (m : MethodId) (meth : Method) (c : Code) (A : Pt) (g : JFrame) (ig : Instr) (mk : MethodId) (a : Array Value),
    Stand p l e R s m sargs below meth c A.U A.locs A.cells A.slots → g.method = m → g.locals.size = c.maxLocals → decode c.code g.pc = .ok (ig, len) →
    2 * g.monitorRoom + (g.stack.map fun v => v.category).sum ≤ W9 → A.U.methodNamed? y = some mk → Pre A a →
    (∃ (v : Option Value) (B : Pt), Stand p l e R s m sargs below meth c B.U B.locs B.cells B.slots ∧ Post A a v B ∧
      Steps p.tables e below (doInvoke e (A.U.setTop g) [] mk a).1 (B.U.setTop { g with pc := g.pc + len, stack := v.toList ++ g.stack })) ∨
    (∃ (q : Addr) (B : Pt), Stand p l e R s m sargs below meth c B.U B.locs B.cells B.slots ∧ PostX A a q B ∧
      Steps p.tables e below (doInvoke e (A.U.setTop g) [] mk a).1 ((B.U.setTop g).pushFrame (.throwing q)))
section Payer
variable {l : Launch} {R : Room} {p : Program} {e : Env} {below : List Frame} {s : State} {sargs : Array Value} {y : MethodName} {len W9 : Nat}
theorem vx_back {ws : List Cond} {rm : Room} {Pc : Array Value → State → Prop} {Qc : Array Value → State → Outcome → State → Prop} {XC : String → State → State → Prop} {mc ms : Nat} {free : Addr → Prop} {bytes : ByteArray} {maxL : Nat} {ret : Option FieldType}
    (hM : vx_Met l y ws rm Pc Qc XC mc ms free) (hblind : FrameBlind Pc) (hrc : rm.cells = mc) (hrs : rm.slots = ms)
    (hframes : rm.frames + 1 ≤ R.frames) (hlocals : W9 + (maxL + 11) + rm.locals ≤ R.locals)
    (hws : ∀ w ∈ ws, ∀ a' U, s.WarmedH U.vm → w.before a' U = true) (hcode : Cond.code y bytes maxL ret ∈ ws) (hinit : ∀ a' U, s.WarmedH U.vm → (Cond.initialized y.cls).before a' U = true) :
    vx_Back l R p e below s sargs y len W9 (PreOf R mc ms Pc) (PostOf Qc mc ms free) (vx_Post XC mc ms free) := by
  intro m meth c A g ig mk a X hg hsize hdg hW hn hp
  have h1 : (headSpec ws rm).pre.before a A.U = true := atoms_intro fun w hw => hws w hw _ _ X.warmed
  have h2 : (Cond.code y bytes maxL ret).before a A.U = true := hws _ hcode _ _ X.warmed
  have h3 : (Cond.initialized y.cls).before a A.U = true := hinit _ _ X.warmed
  have h4 : A.cells + (headSpec ws rm).room.cells ≤ R.cells := by rw [show (headSpec ws rm).room.cells = mc from hrc]; exact hp.1
  have h5 : A.slots + (headSpec ws rm).room.slots ≤ R.slots := by rw [show (headSpec ws rm).room.slots = ms from hrs]; exact hp.2.1
  have hPc : Pc a (A.U.calling g mk a) := hblind _ _ _ _ hp.2.2
  obtain ⟨U, Ls, c0, s0⟩ := A
  dsimp only [Pt.U, Pt.locs, Pt.cells, Pt.slots] at h1 h2 h3 h4 h5 X hn hPc ⊢
  obtain ⟨methY, cY, hmY, hcY, -, hlY, -, -, -, -⟩ := Cond.code_spec hn h2
  obtain ⟨kY, hkY, -⟩ := className_of_methodNamed hn
  have hinitY : kY.init = .initialized := Cond.initialized_spec (findClass_of_methodNamed hn) hkY h3
  have h : At U g.method c below := by rw [hg]; exact X.here
  have hlocals9 : W9 + (maxL + 11) + (headSpec ws rm).room.locals ≤ R.locals := hlocals
  have happ : (headSpec ws rm).appliesLoose y e.platform (U.calling g mk a) = true :=
    Spec.appliesLoose_calling (g := g) h hdg hn hkY hinitY
      (X.room_calling (g := g) (R' := (headSpec ws rm).room) hsize hmY hcY hframes (by rw [hlY]; omega) h4 h5) h1
  obtain ⟨mid, hmid⟩ := h.above
  have hfr : (U.setTop g).frames = (.java g :: mid) ++ below := by rw [State.frames_setTop' g h.top, hmid]; rfl
  obtain ⟨o, s₂, hsteps, -, hend, hq⟩ := Steps.callFree hM p X.admits X.cas X.clock (acts := []) hfr happ hPc trivial
  have hq' : vx_Q Qc XC mc ms free a (U.calling g mk a) o s₂ := hq
  rw [State.frames_setTop' g h.top] at hend
  obtain ⟨g₀, hg0⟩ := Option.isSome_iff_exists.mp h.top
  obtain ⟨r, hr⟩ := State.topJava?_eq_some.mp hg0
  have hr' : (({ U with heap := s₂.heap, slotsUsed := s₂.slotsUsed } : State).setVm s₂.vm).frames = .java g₀ :: r := hr
  rcases hq' with ⟨hqc, L, hfe, hL⟩ | ⟨q, rfl, E, ce, L, hx, hce, hcv, hcl, hW₂, hsm, hL⟩
  · obtain ⟨⟨v, rfl⟩, hW₂, e2, q2, q3, q4, q5, q6⟩ := id hfe
    have e3 : s₂ = ({ (U.calling g mk a).setFrames s₂.frames with heap := s₂.heap, slotsUsed := s₂.slotsUsed } : State).setVm s₂.vm := by
      have : s₂ = ({ s₂ with vm := (U.calling g mk a).vm } : State).setVm s₂.vm := rfl
      rw [e2] at this
      exact this
    obtain ⟨c₂, i₂, len₂, hc₂, hd₂, hf₂⟩ := hend
    have hW' : U.WarmedH s₂.vm := hW₂
    have hcc : c₂ = c := by
      have h1 : s₂.code? g.method = U.code? g.method := by
        rw [State.code?_eq, State.code?_eq, hW'.alike.method?]
      exact Option.some.inj (hc₂.symm.trans (h1.trans h.code))
    subst hcc
    have hlen : len₂ = len := by rw [hdg] at hd₂; cases hd₂; rfl
    subst hlen
    have hs₂ : s₂ = (({ U with heap := s₂.heap, slotsUsed := s₂.slotsUsed } : State).setVm s₂.vm).setTop { g with pc := g.pc + len₂, stack := v.toList ++ g.stack } := by
      refine e3.trans ?_
      rw [hf₂, State.calling_eq h.top, State.setFrames_setFrames, State.setTop_of_frames _ hr', hr]
      rfl
    have hsame : U.sameButNew ({ U with heap := s₂.heap, slotsUsed := s₂.slotsUsed } : State) L mc ms := by
      refine ⟨?_, q2, q3, q4, q5, q6⟩
      obtain ⟨t, ht, -⟩ := State.frames_cons hr
      show ({ U with heap := s₂.heap, slotsUsed := s₂.slotsUsed } : State) = { U.setFrames U.frames with heap := s₂.heap, slotsUsed := s₂.slotsUsed }
      rw [State.setFrames_self ht]
    subst hg
    refine Or.inl ⟨v, ⟨(({ U with heap := s₂.heap, slotsUsed := s₂.slotsUsed } : State).setVm s₂.vm), Ls ++ L, c0 + mc, s0 + ms⟩,
      ⟨X.admits, X.cas, X.clock, X.frames, X.room, X.hears, X.method, X.code, (X.here.setHeapUsed s₂.heap s₂.slotsUsed).setVm hW'.alike, X.tail, State.WarmedH.trans X.warmed hW', X.limits, X.bytes, X.same.trans (hsame.setVm s.vm)⟩,
      ⟨g, mk, s₂, L, rfl, rfl, hqc, rfl, hL, rfl, rfl⟩, ?_⟩
    show Steps p.tables e below _ ((({ U with heap := s₂.heap, slotsUsed := s₂.slotsUsed } : State).setVm s₂.vm).setTop { g with pc := g.pc + len₂, stack := v.toList ++ g.stack })
    rw [← hs₂]
    exact hsteps
  · obtain ⟨e2, q2, q3, q4, q5, q6⟩ := id hsm
    have e3 : s₂ = ({ (U.calling g mk a).setFrames s₂.frames with heap := s₂.heap, slotsUsed := s₂.slotsUsed } : State).setVm s₂.vm := by
      have : s₂ = ({ s₂ with vm := (U.calling g mk a).vm } : State).setVm s₂.vm := rfl
      rw [e2] at this
      exact this
    have hf₂ : s₂.frames = .throwing q :: .java g :: U.frames.tail := hend
    have hW' : U.WarmedH s₂.vm := hW₂
    have hs₂ : s₂ = ((({ U with heap := s₂.heap, slotsUsed := s₂.slotsUsed } : State).setVm s₂.vm).setTop g).pushFrame (.throwing q) := by
      refine e3.trans ?_
      rw [hf₂, State.calling_eq h.top, State.setFrames_setFrames, State.pushFrame, State.frames_setTop _ hr', State.setTop_of_frames _ hr', State.setFrames_setFrames, hr]
      rfl
    have hsame : U.sameButNew ({ U with heap := s₂.heap, slotsUsed := s₂.slotsUsed } : State) L mc ms := by
      refine ⟨?_, q2, q3, q4, q5, q6⟩
      obtain ⟨t, ht, -⟩ := State.frames_cons hr
      show ({ U with heap := s₂.heap, slotsUsed := s₂.slotsUsed } : State) = { U.setFrames U.frames with heap := s₂.heap, slotsUsed := s₂.slotsUsed }
      rw [State.setFrames_self ht]
    subst hg
    refine Or.inr ⟨q, ⟨(({ U with heap := s₂.heap, slotsUsed := s₂.slotsUsed } : State).setVm s₂.vm), Ls ++ L, c0 + mc, s0 + ms⟩,
      ⟨X.admits, X.cas, X.clock, X.frames, X.room, X.hears, X.method, X.code, (X.here.setHeapUsed s₂.heap s₂.slotsUsed).setVm hW'.alike, X.tail, State.WarmedH.trans X.warmed hW', X.limits, X.bytes, X.same.trans (hsame.setVm s.vm)⟩,
      ⟨g, mk, s₂, L, E, ce, rfl, rfl, hx, hce, hcv, hcl, rfl, hL, rfl, rfl⟩, ?_⟩
    show Steps p.tables e below _ (((({ U with heap := s₂.heap, slotsUsed := s₂.slotsUsed } : State).setVm s₂.vm).setTop g).pushFrame (.throwing q))
    rw [← hs₂]
    exact hsteps
end Payer
section Calls
variable {p : Program} {l : Launch} {e : Env} {R : Room} {s : State} {m : MethodId} {args : Array Value} {below : List Frame} {meth : Method} {c : Code} {T : State} {locs : List Loc} {cells slots : Nat}
theorem vx_callV (X : Stand p l e R s m args below meth c T locs cells slots) (hexec : p.tables.exec = Jvm.exec) {own C : String} {index : Nat} {y : MethodName} {bytes : ByteArray} {maxL : Nat} {ret : Option FieldType}
    (hown : s.vm.findClass own = some m.cls) (hlink : (Cond.methodLink own index y).before args s = true) (hinst : (Cond.instanceMethod y).before args s = true) (hsel : (Cond.selects C y y).before args s = true)
    (hcode : (Cond.code y bytes maxL ret).before args s = true) (hy : y.cls ≠ "java/lang/invoke/MethodHandle" ∧ y.cls ≠ "java/lang/invoke/VarHandle")
    {W9 : Nat} {Pre : Pt → Array Value → Prop} {Post : Pt → Array Value → Option Value → Pt → Prop} {PostX : Pt → Array Value → Addr → Pt → Prop} (hK : vx_Back l R p e below s args y 3 W9 Pre Post PostX)
    {b : Addr} {cellB : Cell} (hcell : T.heap[b]? = some cellB) (hobj : cellB.vm.isStatics = false) (hcls : s.vm.findClass C = some cellB.cls)
    {g : JFrame} (hg : g.method = m) (hsize : g.locals.size = c.maxLocals) {argsL rest : List Value} (hlen : ∀ sig, parseMethodDescriptor y.desc = some sig → argsL.length = sig.parameters.length)
    (hstack : g.stack = argsL.reverse ++ .ref b :: rest) (hW : 2 * g.monitorRoom + (rest.map fun v => v.category).sum ≤ W9) (hdg : decode c.code g.pc = .ok (.invokevirtual index, 3))
    (hpre : ∀ vm₁, s.WarmedH vm₁ → Pre ⟨T.setVm vm₁, locs, cells, slots⟩ (Value.ref b :: argsL).toArray) :
    (∃ (v : Option Value) (vm₁ : Vm) (B : Pt), s.WarmedH vm₁ ∧ Stand p l e R s m args below meth c B.U B.locs B.cells B.slots ∧ Post ⟨T.setVm vm₁, locs, cells, slots⟩ (Value.ref b :: argsL).toArray v B ∧
      ∀ target, Steps p.tables e below (B.U.setTop { g with pc := g.pc + 3, stack := v.toList ++ rest }) target → Steps p.tables e below (T.setTop g) target) ∨
    (∃ (q : Addr) (vm₁ : Vm) (B : Pt), s.WarmedH vm₁ ∧ Stand p l e R s m args below meth c B.U B.locs B.cells B.slots ∧ PostX ⟨T.setVm vm₁, locs, cells, slots⟩ (Value.ref b :: argsL).toArray q B ∧
      Steps p.tables e below (T.setTop g) ((B.U.setTop { g with stack := rest }).pushFrame (.throwing q))) := by
  obtain ⟨mk, methM, hnamed, hmethM, hstM, habM⟩ := Cond.instanceMethod_spec hinst
  obtain ⟨methM', cM, hmethM', -, -, -, -, -, -, hsigM⟩ := Cond.code_spec hnamed hcode
  cases hmethM.symm.trans hmethM'
  obtain ⟨c2, r2, m2, q1, q2, q3, q4, kP, hkP, hkPi⟩ := Cond.selects_spec hsel
  cases hcls.symm.trans q1
  cases (State.methodFound?_of_named hnamed hy).symm.trans q2
  cases hnamed.symm.trans q3
  have hselP : selectMethod e.platform s.vm cellB.cls mk = .method mk := by rw [Launch.admits_selectMethod X.admits]; exact q4
  obtain ⟨vm₁, X₁, hstep₁⟩ := X.invokevirtual hexec hown hlink hnamed hmethM hstM hkP hkPi hy (a := b) (cell := cellB) hcell
    (fun z h => by rw [h] at hobj; cases hobj) hselP hmethM habM hkP hkPi (g := g) hg (argsL := argsL) (rest := rest) (hlen _ hsigM) hstack hdg
  rcases hK m meth c ⟨T.setVm vm₁, locs, cells, slots⟩ { g with stack := rest } (.invokevirtual index) mk (Value.ref b :: argsL).toArray X₁ hg hsize hdg hW (X₁.named hnamed) (hpre vm₁ X₁.warmed) with ⟨v, B, X', hpost, hsteps⟩ | ⟨q, B, X', hpost, hsteps⟩
  · exact Or.inl ⟨v, vm₁, B, X₁.warmed, X', hpost, fun target h => hstep₁ _ fun acts => by rw [doInvoke_state]; exact hsteps.trans h⟩
  · exact Or.inr ⟨q, vm₁, B, X₁.warmed, X', hpost, hstep₁ _ fun acts => by rw [doInvoke_state]; exact hsteps⟩
theorem vx_callS (X : Stand p l e R s m args below meth c T locs cells slots) (hexec : p.tables.exec = Jvm.exec) {own : String} {index : Nat} {y : MethodName} {bytes : ByteArray} {maxL : Nat} {ret : Option FieldType}
    (hown : s.vm.findClass own = some m.cls) (hlink : (Cond.methodLink own index y).before args s = true) (hstat : (Cond.static y).before args s = true) (hinit : (Cond.initialized y.cls).before args s = true)
    (hcode : (Cond.code y bytes maxL ret).before args s = true) (hy : y.cls ≠ "java/lang/invoke/MethodHandle" ∧ y.cls ≠ "java/lang/invoke/VarHandle")
    {W9 : Nat} {Pre : Pt → Array Value → Prop} {Post : Pt → Array Value → Option Value → Pt → Prop} {PostX : Pt → Array Value → Addr → Pt → Prop} (hK : vx_Back l R p e below s args y 3 W9 Pre Post PostX)
    {g : JFrame} (hg : g.method = m) (hsize : g.locals.size = c.maxLocals) {argsL rest : List Value} (hlen : ∀ sig, parseMethodDescriptor y.desc = some sig → argsL.length = sig.parameters.length)
    (hstack : g.stack = argsL.reverse ++ rest) (hW : 2 * g.monitorRoom + (rest.map fun v => v.category).sum ≤ W9) (hdg : decode c.code g.pc = .ok (.invokestatic index, 3))
    (hpre : ∀ vm₁, s.WarmedH vm₁ → Pre ⟨T.setVm vm₁, locs, cells, slots⟩ argsL.toArray) :
    (∃ (v : Option Value) (vm₁ : Vm) (B : Pt), s.WarmedH vm₁ ∧ Stand p l e R s m args below meth c B.U B.locs B.cells B.slots ∧ Post ⟨T.setVm vm₁, locs, cells, slots⟩ argsL.toArray v B ∧
      ∀ target, Steps p.tables e below (B.U.setTop { g with pc := g.pc + 3, stack := v.toList ++ rest }) target → Steps p.tables e below (T.setTop g) target) ∨
    (∃ (q : Addr) (vm₁ : Vm) (B : Pt), s.WarmedH vm₁ ∧ Stand p l e R s m args below meth c B.U B.locs B.cells B.slots ∧ PostX ⟨T.setVm vm₁, locs, cells, slots⟩ argsL.toArray q B ∧
      Steps p.tables e below (T.setTop g) ((B.U.setTop { g with stack := rest }).pushFrame (.throwing q))) := by
  obtain ⟨mk, hnamed⟩ := Cond.code_named hcode
  obtain ⟨methM, cM, hmethM, -, -, -, -, -, -, hsigM⟩ := Cond.code_spec hnamed hcode
  have hstatic : methM.isStatic = true := Cond.static_spec hnamed hmethM hstat
  obtain ⟨kP, hkP, -⟩ := className_of_methodNamed hnamed
  have hinitP : kP.init = .initialized := Cond.initialized_spec (findClass_of_methodNamed hnamed) hkP hinit
  obtain ⟨vm₁, X₁, hstep₁⟩ := X.invokestatic hexec hown hlink hnamed hmethM hstatic hkP hinitP hy (g := g) hg (argsL := argsL) (rest := rest) (hlen _ hsigM) hstack hdg
  rcases hK m meth c ⟨T.setVm vm₁, locs, cells, slots⟩ { g with stack := rest } (.invokestatic index) mk argsL.toArray X₁ hg hsize hdg hW (X₁.named hnamed) (hpre vm₁ X₁.warmed) with ⟨v, B, X', hpost, hsteps⟩ | ⟨q, B, X', hpost, hsteps⟩
  · exact Or.inl ⟨v, vm₁, B, X₁.warmed, X', hpost, fun target h => hstep₁ _ fun acts => by rw [doInvoke_state]; exact hsteps.trans h⟩
  · exact Or.inr ⟨q, vm₁, B, X₁.warmed, X', hpost, hstep₁ _ fun acts => by rw [doInvoke_state]; exact hsteps⟩
end Calls
theorem vx_cls {s : State} {T : State} {vm₁ : Vm} {E : String} {k : ClassId} (hW : s.WarmedH vm₁) (h : (T.setVm vm₁).vm.findClass E = some k) : s.vm.findClass E = some k := by
  have h1 : vm₁.findClass E = some k := h
  rw [hW.alike.findClass] at h1
  exact h1
/-- the method's frame g, with q thrown over it -/
def vx_W (p : Program) (l : Launch) (e : Env) (R : Room) (s : State) (m : MethodId) (args : Array Value) (below : List Frame) (meth : Method) (c : Code) (H : Heap) (locs : List Loc) (cells slots : Nat) (Q : State → Prop) (g : JFrame) (q : Addr) : Prop :=
  ∀ T : State, T.heap = H → Stand p l e R s m args below meth c T locs cells slots → ∃ t, Steps p.tables e below ((T.setTop g).pushFrame (.throwing q)) t ∧ Q t
def vx_Run (p : Program) (l : Launch) (e : Env) (R : Room) (s : State) (m : MethodId) (args : Array Value) (below : List Frame) (meth : Method) (c : Code) (H : Heap) (locs : List Loc) (cells slots mc ms : Nat) (g : JFrame) (rest : List Value) (Qa : State → Outcome → State → Prop) (XC : String → State → State → Prop) (free : Addr → Prop) : Prop :=
  ∀ T : State, T.heap = H → Stand p l e R s m args below meth c T locs cells slots →
    (∃ (v : Option Value) (st₀ t T' : State) (L : List Loc), st₀.heap = H ∧ Stand p l e R s m args below meth c T' (locs ++ L) (cells + mc) (slots + ms) ∧ (∀ q ∈ L, free q.base) ∧ T'.heap = t.heap ∧ T'.vm = t.vm ∧ Qa st₀ (.returned v) t ∧
      Goes p e below T g T' { g with pc := g.pc + 3, stack := v.toList ++ rest }) ∨
    (∃ (q : Addr) (st₀ t T' : State) (L : List Loc) (E : String) (ce : Cell), st₀.heap = H ∧ Stand p l e R s m args below meth c T' (locs ++ L) (cells + mc) (slots + ms) ∧ (∀ z ∈ L, free z.base) ∧ T'.heap = t.heap ∧ T'.vm = t.vm ∧ XC E st₀ t ∧ t.heap[q]? = some ce ∧ ce.vm = .none ∧ s.vm.findClass E = some ce.cls ∧
      Steps p.tables e below (T.setTop g) ((T'.setTop { g with stack := rest }).pushFrame (.throwing q)))
def vx_X {S : Type} (px : S → Prop) (B : String → S → State → Prop) (A : Nat → Prop) : String → State → State → Prop := fun E st t => ∃ u : S, px u ∧ B E u t ∧ va_F A st t
section Runs
variable {p : Program} {l : Launch} {e : Env} {R : Room} {s : State} {m : MethodId} {args : Array Value} {below : List Frame} {meth : Method} {c : Code} {H : Heap} {locs : List Loc} {cells slots : Nat}
variable {y : MethodName} {bytes cc : ByteArray} {maxL nL mc ms n index : Nat} {ret : Option FieldType} {ws : List Cond} {rm : Room} {Pc : Array Value → State → Prop} {Qc : Array Value → State → Outcome → State → Prop} {XC : String → State → State → Prop} {free : Addr → Prop} {Ts : List Cond} {own C : String} {b : Addr} {As rest : List Value} {g : JFrame}
theorem vx_callBack (cb : CallB R s args own index y bytes maxL ret ws rm mc ms n) (hM : vx_Met l y ws rm Pc Qc XC mc ms free) (hbl : FrameBlind Pc) : vx_Back l R p e below s args y 3 8 (PreOf R mc ms Pc) (PostOf Qc mc ms free) (vx_Post XC mc ms free) := by
  obtain ⟨hrc, hrs, hfr, hlo, hws, hcw, -, hini, -⟩ := cb
  exact vx_back (bytes := bytes) (maxL := maxL) (ret := ret) hM hbl hrc hrs hfr hlo hws hcw (fun a' U hW => word_at hW (Or.inl (by first | rfl | simp [Cond.onTables, Cond.keeps, Cond.steady])) hini)
theorem vx_runV (S : CallFix p m c cc nL s args Ts own) (hM : vx_Met l y ws rm Pc Qc XC mc ms free) (cw : CallW R s args own C index y bytes maxL ret ws rm mc ms n) (hp : PreV s H C b Pc As)
    (hg : g.method = m) (hn : As.length = n) (hsize : g.locals.size = nL) (hstack : g.stack = As.reverse ++ .ref b :: rest) (hW : 2 * g.monitorRoom + (rest.map fun v => v.category).sum ≤ 8) (hdg : decode cc g.pc = .ok (.invokevirtual index, 3)) (hf : cells + mc ≤ R.cells ∧ slots + ms ≤ R.slots) :
    vx_Run p l e R s m args below meth c H locs cells slots mc ms g rest (Qc (Value.ref b :: As).toArray) XC free := by
  have hK : vx_Back l R p e below s args y 3 8 (PreOf R mc ms Pc) (PostOf Qc mc ms free) (vx_Post XC mc ms free) := vx_callBack cw.1 hM hp.1
  obtain ⟨⟨-, -, -, -, -, -, hcode, -, hy, hlen, hl⟩, hin, hse⟩ := cw
  obtain ⟨hx, hb, hml, ho, -⟩ := S
  obtain ⟨-, ⟨cellB, hcB, hoB, hclB⟩, hPc⟩ := hp
  intro T hT X
  rcases vx_callV X hx (C := C) (bytes := bytes) (maxL := maxL) (ret := ret) ho hl hin hse hcode hy hK (by rw [hT]; exact hcB) hoB hclB hg (hsize.trans hml.symm) (argsL := As) (rest := rest) (fun sig h => hn.trans (hlen sig h)) hstack hW (by rw [hb]; exact hdg)
    (fun vm₁ hW₁ => ⟨hf.1, hf.2, hPc (T.setVm vm₁) hT hW₁⟩) with ⟨v, vm₁, ⟨U', l2, c2, s2⟩, hW₁, X', ⟨g', mk, t, L, e1, e2, hq, h1, hL, h2, h3⟩, st⟩ | ⟨q, vm₁, ⟨U', l2, c2, s2⟩, hW₁, X', ⟨g', mk, t, L, E, ce, e1, e2, hq, hce, hcv, hcl, h1, hL, h2, h3⟩, st⟩
  · dsimp only [Pt.U, Pt.locs, Pt.cells, Pt.slots] at X' e1 e2 h1 h2 h3 st
    subst h1; subst h2; subst h3
    exact Or.inl ⟨v, (T.setVm vm₁).calling g' mk (Value.ref b :: As).toArray, t, U', L, hT, X', hL, e1, e2, hq, st⟩
  · dsimp only [Pt.U, Pt.locs, Pt.cells, Pt.slots] at X' e1 e2 h1 h2 h3 st hcl
    subst h1; subst h2; subst h3
    exact Or.inr ⟨q, (T.setVm vm₁).calling g' mk (Value.ref b :: As).toArray, t, U', L, E, ce, hT, X', hL, e1, e2, hq, hce, hcv, vx_cls hW₁ hcl, st⟩
theorem vx_runS (S : CallFix p m c cc nL s args Ts own) (hM : vx_Met l y ws rm Pc Qc XC mc ms free) (cw : CallB R s args own index y bytes maxL ret ws rm mc ms n ∧ (Cond.static y).before args s = true) (hp : PreS s H Pc As)
    (hg : g.method = m) (hn : As.length = n) (hsize : g.locals.size = nL) (hstack : g.stack = As.reverse ++ rest) (hW : 2 * g.monitorRoom + (rest.map fun v => v.category).sum ≤ 8) (hdg : decode cc g.pc = .ok (.invokestatic index, 3)) (hf : cells + mc ≤ R.cells ∧ slots + ms ≤ R.slots) :
    vx_Run p l e R s m args below meth c H locs cells slots mc ms g rest (Qc As.toArray) XC free := by
  have hK : vx_Back l R p e below s args y 3 8 (PreOf R mc ms Pc) (PostOf Qc mc ms free) (vx_Post XC mc ms free) := vx_callBack cw.1 hM hp.1
  obtain ⟨⟨-, -, -, -, -, -, hcode, hini, hy, hlen, hl⟩, hstt⟩ := cw
  obtain ⟨hx, hb, hml, ho, -⟩ := S
  intro T hT X
  rcases vx_callS X hx (bytes := bytes) (maxL := maxL) (ret := ret) ho hl hstt hini hcode hy hK hg (hsize.trans hml.symm) (argsL := As) (rest := rest) (fun sig h => hn.trans (hlen sig h)) hstack hW (by rw [hb]; exact hdg)
    (fun vm₁ hW₁ => ⟨hf.1, hf.2, hp.2 (T.setVm vm₁) hT hW₁⟩) with ⟨v, vm₁, ⟨U', l2, c2, s2⟩, hW₁, X', ⟨g', mk, t, L, e1, e2, hq, h1, hL, h2, h3⟩, st⟩ | ⟨q, vm₁, ⟨U', l2, c2, s2⟩, hW₁, X', ⟨g', mk, t, L, E, ce, e1, e2, hq, hce, hcv, hcl, h1, hL, h2, h3⟩, st⟩
  · dsimp only [Pt.U, Pt.locs, Pt.cells, Pt.slots] at X' e1 e2 h1 h2 h3 st
    subst h1; subst h2; subst h3
    exact Or.inl ⟨v, (T.setVm vm₁).calling g' mk As.toArray, t, U', L, hT, X', hL, e1, e2, hq, st⟩
  · dsimp only [Pt.U, Pt.locs, Pt.cells, Pt.slots] at X' e1 e2 h1 h2 h3 st hcl
    subst h1; subst h2; subst h3
    exact Or.inr ⟨q, (T.setVm vm₁).calling g' mk As.toArray, t, U', L, E, ce, hT, X', hL, e1, e2, hq, hce, hcv, vx_cls hW₁ hcl, st⟩
end Runs
section Rows
variable {p : Program} {l : Launch} {e : Env} {R : Room} {s : State} {m : MethodId} {args : Array Value} {below : List Frame} {meth : Method} {c : Code} {H : Heap} {locs : List Loc} {cells slots : Nat} {Q : State → Prop}
variable {mc ms : Nat} {free : Addr → Prop} {A0 A1 : Nat → Prop} {H0 : Heap} {a : Array Value} {pc : Nat} {ls : Array Slot} {st0 rest : List Value}
theorem vx_keep {st₀ t T' : State} {L : List Loc} (h0 : st₀.heap = H) (e1 : T'.heap = t.heap) (hS : va_S A0 H0 H locs) (hA : ∀ q, q < H.size → A1 q → A0 q) (hf : ∀ q, free q → A0 q) (hL : ∀ q ∈ L, free q.base) (hF : va_F A1 st₀ t) :
    H.size ≤ T'.heap.size ∧ (∀ q : Nat, q < H.size → ¬ A1 q → T'.heap[q]? = H[q]?) ∧ va_S A0 H0 T'.heap (locs ++ L) := by
  obtain ⟨hz, hk⟩ := hF
  rw [h0] at hz hk
  exact ⟨by rw [e1]; exact hz, fun q h1 h2 => by rw [e1]; exact hk q h1 h2,
    ⟨Nat.le_trans hS.1 (by rw [e1]; exact hz), fun q h1 h2 => by rw [e1, hk q (Nat.lt_of_lt_of_le h1 hS.1) (fun z => h2 (hA q (Nat.lt_of_lt_of_le h1 hS.1) z))]; exact hS.2.1 q h1 h2, fun q hq => by
      rcases List.mem_append.mp hq with h | h
      · exact hS.2.2 q h
      · exact hf _ (hL q h)⟩⟩
theorem vx_calli {S SX : Type} {post : Int32 → S → Prop} {px : SX → Prop} {B : S → State → Prop} {BX : String → SX → State → Prop} {AX : Nat → Prop} (hr : vx_Run p l e R s m args below meth c H locs cells slots mc ms (F0 m pc ls st0) rest (va_Qi post B A1 a) (vx_X px BX AX) free) (hS : va_S A0 H0 H locs) (hA : ∀ q, q < H.size → A1 q → A0 q) (hf : ∀ q, free q → A0 q) (hAX : ∀ q, q < H.size → AX q → A0 q)
    (kx : ∀ (E : String) (ce : Cell) (q9 : Addr) (u : SX) (t : State) (H1 : Heap) (locs1 : List Loc), t.heap = H1 → s.vm.Alike t.vm → px u → BX E u t → H.size ≤ H1.size → (∀ q : Nat, q < H.size → ¬ AX q → H1[q]? = H[q]?) → va_S A0 H0 H1 locs1 → H1[q9]? = some ce → ce.vm = .none → s.vm.findClass E = some ce.cls → vx_W p l e R s m args below meth c H1 locs1 (cells + mc) (slots + ms) Q (F0 m pc ls rest) q9)
    (kk : ∀ (r : Int32) (u : S) (t : State) (H1 : Heap) (locs1 : List Loc), t.heap = H1 → s.vm.Alike t.vm → post r u → B u t → H.size ≤ H1.size → (∀ q : Nat, q < H.size → ¬ A1 q → H1[q]? = H[q]?) → va_S A0 H0 H1 locs1 → W p l e R s m args below meth c H1 locs1 (cells + mc) (slots + ms) Q (F0 m (pc + 3) ls (.int r :: rest))) : W p l e R s m args below meth c H locs cells slots Q (F0 m pc ls st0) := by
  intro T hT X
  rcases hr T hT X with ⟨v, st₀, t, T', L, h0, X', hL, e1, e2, ⟨⟨r, u, hv, hp, hb⟩, hF⟩, st⟩ | ⟨q, st₀, t, T', L, E, ce, h0, X', hL, e1, e2, ⟨u, hp, hb, hF⟩, hce, hcv, hcl, st⟩
  · cases hv
    obtain ⟨k1, k2, k3⟩ := vx_keep h0 e1 hS hA hf hL hF
    obtain ⟨t2, a1, b1⟩ := kk r u t T'.heap (locs ++ L) e1.symm (by rw [← e2]; exact X'.warmed.alike) hp hb k1 k2 k3 T' rfl X'
    exact ⟨t2, st t2 a1, b1⟩
  · obtain ⟨k1, k2, k3⟩ := vx_keep h0 e1 hS hAX hf hL hF
    obtain ⟨t2, a1, b1⟩ := kx E ce q u t T'.heap (locs ++ L) e1.symm (by rw [← e2]; exact X'.warmed.alike) hp hb k1 k2 k3 (by rw [e1]; exact hce) hcv hcl T' rfl X'
    exact ⟨t2, st.trans a1, b1⟩
theorem vx_calll {S SX : Type} {post : Int64 → S → Prop} {px : SX → Prop} {B : S → State → Prop} {BX : String → SX → State → Prop} {AX : Nat → Prop} (hr : vx_Run p l e R s m args below meth c H locs cells slots mc ms (F0 m pc ls st0) rest (va_Ql post B A1 a) (vx_X px BX AX) free) (hS : va_S A0 H0 H locs) (hA : ∀ q, q < H.size → A1 q → A0 q) (hf : ∀ q, free q → A0 q) (hAX : ∀ q, q < H.size → AX q → A0 q)
    (kx : ∀ (E : String) (ce : Cell) (q9 : Addr) (u : SX) (t : State) (H1 : Heap) (locs1 : List Loc), t.heap = H1 → s.vm.Alike t.vm → px u → BX E u t → H.size ≤ H1.size → (∀ q : Nat, q < H.size → ¬ AX q → H1[q]? = H[q]?) → va_S A0 H0 H1 locs1 → H1[q9]? = some ce → ce.vm = .none → s.vm.findClass E = some ce.cls → vx_W p l e R s m args below meth c H1 locs1 (cells + mc) (slots + ms) Q (F0 m pc ls rest) q9)
    (kk : ∀ (r : Int64) (u : S) (t : State) (H1 : Heap) (locs1 : List Loc), t.heap = H1 → s.vm.Alike t.vm → post r u → B u t → H.size ≤ H1.size → (∀ q : Nat, q < H.size → ¬ A1 q → H1[q]? = H[q]?) → va_S A0 H0 H1 locs1 → W p l e R s m args below meth c H1 locs1 (cells + mc) (slots + ms) Q (F0 m (pc + 3) ls (.long r :: rest))) : W p l e R s m args below meth c H locs cells slots Q (F0 m pc ls st0) := by
  intro T hT X
  rcases hr T hT X with ⟨v, st₀, t, T', L, h0, X', hL, e1, e2, ⟨⟨r, u, hv, hp, hb⟩, hF⟩, st⟩ | ⟨q, st₀, t, T', L, E, ce, h0, X', hL, e1, e2, ⟨u, hp, hb, hF⟩, hce, hcv, hcl, st⟩
  · cases hv
    obtain ⟨k1, k2, k3⟩ := vx_keep h0 e1 hS hA hf hL hF
    obtain ⟨t2, a1, b1⟩ := kk r u t T'.heap (locs ++ L) e1.symm (by rw [← e2]; exact X'.warmed.alike) hp hb k1 k2 k3 T' rfl X'
    exact ⟨t2, st t2 a1, b1⟩
  · obtain ⟨k1, k2, k3⟩ := vx_keep h0 e1 hS hAX hf hL hF
    obtain ⟨t2, a1, b1⟩ := kx E ce q u t T'.heap (locs ++ L) e1.symm (by rw [← e2]; exact X'.warmed.alike) hp hb k1 k2 k3 (by rw [e1]; exact hce) hcv hcl T' rfl X'
    exact ⟨t2, st.trans a1, b1⟩
theorem vx_callf {S SX : Type} {post : UInt32 → S → Prop} {px : SX → Prop} {B : S → State → Prop} {BX : String → SX → State → Prop} {AX : Nat → Prop} (hr : vx_Run p l e R s m args below meth c H locs cells slots mc ms (F0 m pc ls st0) rest (va_Qf post B A1 a) (vx_X px BX AX) free) (hS : va_S A0 H0 H locs) (hA : ∀ q, q < H.size → A1 q → A0 q) (hf : ∀ q, free q → A0 q) (hAX : ∀ q, q < H.size → AX q → A0 q)
    (kx : ∀ (E : String) (ce : Cell) (q9 : Addr) (u : SX) (t : State) (H1 : Heap) (locs1 : List Loc), t.heap = H1 → s.vm.Alike t.vm → px u → BX E u t → H.size ≤ H1.size → (∀ q : Nat, q < H.size → ¬ AX q → H1[q]? = H[q]?) → va_S A0 H0 H1 locs1 → H1[q9]? = some ce → ce.vm = .none → s.vm.findClass E = some ce.cls → vx_W p l e R s m args below meth c H1 locs1 (cells + mc) (slots + ms) Q (F0 m pc ls rest) q9)
    (kk : ∀ (r : UInt32) (u : S) (t : State) (H1 : Heap) (locs1 : List Loc), t.heap = H1 → s.vm.Alike t.vm → post r u → B u t → H.size ≤ H1.size → (∀ q : Nat, q < H.size → ¬ A1 q → H1[q]? = H[q]?) → va_S A0 H0 H1 locs1 → W p l e R s m args below meth c H1 locs1 (cells + mc) (slots + ms) Q (F0 m (pc + 3) ls (.float r :: rest))) : W p l e R s m args below meth c H locs cells slots Q (F0 m pc ls st0) := by
  intro T hT X
  rcases hr T hT X with ⟨v, st₀, t, T', L, h0, X', hL, e1, e2, ⟨⟨r, u, hv, hp, hb⟩, hF⟩, st⟩ | ⟨q, st₀, t, T', L, E, ce, h0, X', hL, e1, e2, ⟨u, hp, hb, hF⟩, hce, hcv, hcl, st⟩
  · cases hv
    obtain ⟨k1, k2, k3⟩ := vx_keep h0 e1 hS hA hf hL hF
    obtain ⟨t2, a1, b1⟩ := kk r u t T'.heap (locs ++ L) e1.symm (by rw [← e2]; exact X'.warmed.alike) hp hb k1 k2 k3 T' rfl X'
    exact ⟨t2, st t2 a1, b1⟩
  · obtain ⟨k1, k2, k3⟩ := vx_keep h0 e1 hS hAX hf hL hF
    obtain ⟨t2, a1, b1⟩ := kx E ce q u t T'.heap (locs ++ L) e1.symm (by rw [← e2]; exact X'.warmed.alike) hp hb k1 k2 k3 (by rw [e1]; exact hce) hcv hcl T' rfl X'
    exact ⟨t2, st.trans a1, b1⟩
theorem vx_calld {S SX : Type} {post : UInt64 → S → Prop} {px : SX → Prop} {B : S → State → Prop} {BX : String → SX → State → Prop} {AX : Nat → Prop} (hr : vx_Run p l e R s m args below meth c H locs cells slots mc ms (F0 m pc ls st0) rest (va_Qd post B A1 a) (vx_X px BX AX) free) (hS : va_S A0 H0 H locs) (hA : ∀ q, q < H.size → A1 q → A0 q) (hf : ∀ q, free q → A0 q) (hAX : ∀ q, q < H.size → AX q → A0 q)
    (kx : ∀ (E : String) (ce : Cell) (q9 : Addr) (u : SX) (t : State) (H1 : Heap) (locs1 : List Loc), t.heap = H1 → s.vm.Alike t.vm → px u → BX E u t → H.size ≤ H1.size → (∀ q : Nat, q < H.size → ¬ AX q → H1[q]? = H[q]?) → va_S A0 H0 H1 locs1 → H1[q9]? = some ce → ce.vm = .none → s.vm.findClass E = some ce.cls → vx_W p l e R s m args below meth c H1 locs1 (cells + mc) (slots + ms) Q (F0 m pc ls rest) q9)
    (kk : ∀ (r : UInt64) (u : S) (t : State) (H1 : Heap) (locs1 : List Loc), t.heap = H1 → s.vm.Alike t.vm → post r u → B u t → H.size ≤ H1.size → (∀ q : Nat, q < H.size → ¬ A1 q → H1[q]? = H[q]?) → va_S A0 H0 H1 locs1 → W p l e R s m args below meth c H1 locs1 (cells + mc) (slots + ms) Q (F0 m (pc + 3) ls (.double r :: rest))) : W p l e R s m args below meth c H locs cells slots Q (F0 m pc ls st0) := by
  intro T hT X
  rcases hr T hT X with ⟨v, st₀, t, T', L, h0, X', hL, e1, e2, ⟨⟨r, u, hv, hp, hb⟩, hF⟩, st⟩ | ⟨q, st₀, t, T', L, E, ce, h0, X', hL, e1, e2, ⟨u, hp, hb, hF⟩, hce, hcv, hcl, st⟩
  · cases hv
    obtain ⟨k1, k2, k3⟩ := vx_keep h0 e1 hS hA hf hL hF
    obtain ⟨t2, a1, b1⟩ := kk r u t T'.heap (locs ++ L) e1.symm (by rw [← e2]; exact X'.warmed.alike) hp hb k1 k2 k3 T' rfl X'
    exact ⟨t2, st t2 a1, b1⟩
  · obtain ⟨k1, k2, k3⟩ := vx_keep h0 e1 hS hAX hf hL hF
    obtain ⟨t2, a1, b1⟩ := kx E ce q u t T'.heap (locs ++ L) e1.symm (by rw [← e2]; exact X'.warmed.alike) hp hb k1 k2 k3 (by rw [e1]; exact hce) hcv hcl T' rfl X'
    exact ⟨t2, st.trans a1, b1⟩
theorem vx_callv {S SX : Type} {post : S → Prop} {px : SX → Prop} {B : S → State → Prop} {BX : String → SX → State → Prop} {AX : Nat → Prop} (hr : vx_Run p l e R s m args below meth c H locs cells slots mc ms (F0 m pc ls st0) rest (va_Qv post B A1 a) (vx_X px BX AX) free) (hS : va_S A0 H0 H locs) (hA : ∀ q, q < H.size → A1 q → A0 q) (hf : ∀ q, free q → A0 q) (hAX : ∀ q, q < H.size → AX q → A0 q)
    (kx : ∀ (E : String) (ce : Cell) (q9 : Addr) (u : SX) (t : State) (H1 : Heap) (locs1 : List Loc), t.heap = H1 → s.vm.Alike t.vm → px u → BX E u t → H.size ≤ H1.size → (∀ q : Nat, q < H.size → ¬ AX q → H1[q]? = H[q]?) → va_S A0 H0 H1 locs1 → H1[q9]? = some ce → ce.vm = .none → s.vm.findClass E = some ce.cls → vx_W p l e R s m args below meth c H1 locs1 (cells + mc) (slots + ms) Q (F0 m pc ls rest) q9)
    (kk : ∀ (u : S) (t : State) (H1 : Heap) (locs1 : List Loc), t.heap = H1 → s.vm.Alike t.vm → post u → B u t → H.size ≤ H1.size → (∀ q : Nat, q < H.size → ¬ A1 q → H1[q]? = H[q]?) → va_S A0 H0 H1 locs1 → W p l e R s m args below meth c H1 locs1 (cells + mc) (slots + ms) Q (F0 m (pc + 3) ls (rest))) : W p l e R s m args below meth c H locs cells slots Q (F0 m pc ls st0) := by
  intro T hT X
  rcases hr T hT X with ⟨v, st₀, t, T', L, h0, X', hL, e1, e2, ⟨⟨u, hv, hp, hb⟩, hF⟩, st⟩ | ⟨q, st₀, t, T', L, E, ce, h0, X', hL, e1, e2, ⟨u, hp, hb, hF⟩, hce, hcv, hcl, st⟩
  · cases hv
    obtain ⟨k1, k2, k3⟩ := vx_keep h0 e1 hS hA hf hL hF
    obtain ⟨t2, a1, b1⟩ := kk u t T'.heap (locs ++ L) e1.symm (by rw [← e2]; exact X'.warmed.alike) hp hb k1 k2 k3 T' rfl X'
    exact ⟨t2, st t2 a1, b1⟩
  · obtain ⟨k1, k2, k3⟩ := vx_keep h0 e1 hS hAX hf hL hF
    obtain ⟨t2, a1, b1⟩ := kx E ce q u t T'.heap (locs ++ L) e1.symm (by rw [← e2]; exact X'.warmed.alike) hp hb k1 k2 k3 (by rw [e1]; exact hce) hcv hcl T' rfl X'
    exact ⟨t2, st.trans a1, b1⟩
/-- caught by the row x of this method's table; the rows ahead don't take it -/
theorem vx_catch {own name : String} {E : String} {ce : Cell} {q : Addr} (hown : s.vm.findClass own = some m.cls) (pre : List ExceptionTableEntry) (x : ExceptionTableEntry) (suf : List ExceptionTableEntry) (hsplit : c.exceptionTable.toList = pre ++ x :: suf)
    (hpass : ∀ z ∈ pre, covers z pc = false ∨ (z.catchType ≠ 0 ∧ ∃ nm : String, (Cond.classLink own z.catchType nm).before args s = true ∧ va_Nc E nm s)) (hx : covers x pc = true) (h0 : x.catchType ≠ 0)
    (hlink : (Cond.classLink own x.catchType name).before args s = true) (hcast : (Cond.castable E name).before args s = true) (hcell : H[q]? = some ce) (hv : ce.vm = .none) (hcl : s.vm.findClass E = some ce.cls)
    (kk : W p l e R s m args below meth c H locs cells slots Q (F0 m x.handlerPc ls [.ref q])) : vx_W p l e R s m args below meth c H locs cells slots Q (F0 m pc ls rest) q := by
  intro T hT X
  have hpl : e.platform.magicAccessors = ({} : Platform).magicAccessors := by rw [X.admits.platform]
  obtain ⟨c3, c4, hc3, hc4, hasg⟩ := Cond.castable_spec hcast
  cases Option.some.inj (hc3.symm.trans hcl)
  obtain ⟨c5, hc5, hcl5⟩ := Cond.classLink_spec hown hlink e.platform hpl
  cases Option.some.inj (hc4.symm.trans hc5)
  obtain ⟨vm', X', st⟩ := X.thenCaughtThrough q (g := F0 m pc ls rest) rfl (Steps.refl _) (by rw [hT]; exact hcell) (by rw [hv]; rfl) (by obtain ⟨k9, h9, -⟩ := Vm.findClass_spec hcl; exact ⟨k9, h9⟩) pre x suf hsplit
    (fun z hz => by
      rcases hpass z hz with h | ⟨hz0, nm, hl1, hn1⟩
      · exact Or.inl h
      · obtain ⟨c6, hc6, hcl6⟩ := Cond.classLink_spec hown hl1 e.platform hpl
        obtain ⟨a8, b8, h1, h2, h3⟩ := hn1
        cases Option.some.inj (h1.symm.trans hcl)
        cases Option.some.inj (h2.symm.trans hc6)
        exact Or.inr ⟨hz0, _, hcl6, h3⟩) hx (Or.inr ⟨h0, c4, hcl5, hasg⟩)
  obtain ⟨t, a1, b1⟩ := kk (T.setVm vm') hT X'
  exact ⟨t, st.trans a1, b1⟩
end Rows
section Ends
variable {p : Program} {l : Launch} {e : Env} {R : Room} {s : State} {m : MethodId} {args : Array Value} {below : List Frame} {meth : Method} {c : Code} {H : Heap} {locs : List Loc} {cells slots : Nat} {Q : State → Prop}
variable {mc ms : Nat} {free : Addr → Prop} {A0 A1 : Nat → Prop} {H0 : Heap} {a : Array Value} {ls : Array Slot} {st0 rest : List Value}
variable {Qc : Array Value → State → Outcome → State → Prop} {XC : String → State → State → Prop}
/-- what a body that may throw owes at its end -/
def vx_MQ (below : List Frame) (Qc : Array Value → State → Outcome → State → Prop) (XC : String → State → State → Prop) (a : Array Value) (s : State) (mc ms : Nat) (free : Addr → Prop) : State → Prop := fun t =>
  ∃ o, t.status = .running ∧ Ended t below o ∧ vx_Q Qc XC mc ms free a s o t
theorem vx_ret {g : JFrame} {mc ms : Nat} (k : W p l e R s m args below meth c H locs cells slots (MQ below Qc args s mc ms free) g) : W p l e R s m args below meth c H locs cells slots (vx_MQ below Qc XC args s mc ms free) g := by
  intro T hT X
  obtain ⟨t, a1, o, b1, b2, b3, b4⟩ := k T hT X
  exact ⟨t, a1, o, b1, b2, Or.inl ⟨b3, b4⟩⟩
/-- not caught here: it goes on to the caller -/
theorem vx_widen {g : JFrame} {q : Addr} {k n : Nat} (h1 : cells ≤ k) (h2 : slots ≤ n) (kk : vx_W p l e R s m args below meth c H locs k n Q g q) : vx_W p l e R s m args below meth c H locs cells slots Q g q := fun T hT X => kk T hT (stand_widen X h1 h2)
theorem vx_out {pc : Nat} {E : String} {ce : Cell} {q : Addr} {mc ms : Nat} (hout : ∀ x ∈ c.exceptionTable.toList, covers x pc = false) (hlocks : meth.locks = false) (hcell : H[q]? = some ce) (hv : ce.vm = .none) (hcl : s.vm.findClass E = some ce.cls)
    (hx : ∀ t : State, t.heap = H → s.vm.Alike t.vm → XC E s t) (hf : ∀ z ∈ locs, free z.base) (hc : cells ≤ mc) (hs : slots ≤ ms) :
    vx_W p l e R s m args below meth c H locs cells slots (vx_MQ below Qc XC args s mc ms free) (F0 m pc ls rest) q := by
  intro T hT X
  obtain ⟨st1, hrun, hend, hW, hsm⟩ := X.leaveThrown q (g := F0 m pc ls rest) rfl rfl rfl hout hlocks
  have hcell9 : (T.setFrames (.throwing q :: below)).heap[q]? = some ce := by
    show T.heap[q]? = some ce
    rw [hT]; exact hcell
  exact ⟨_, st1, .threw q, hrun, hend, Or.inr ⟨q, rfl, E, ce, locs, hx _ hT hW.alike, hcell9, hv, hcl, hW, hsm.mono hc hs, hf⟩⟩
theorem vx_frame {U : State} {k n : Nat} (h : s.sameButNew ({ U with vm := s.vm } : State) locs k n) : s.heap.size ≤ U.heap.size ∧ ∀ q : Nat, q < s.heap.size → (∀ z ∈ locs, z.base ≠ q) → U.heap[q]? = s.heap[q]? := by
  obtain ⟨-, h2, -, -, -, h6⟩ := h
  refine ⟨h2, fun q hq hz => ?_⟩
  obtain ⟨c9, e1, e2, e3, e4⟩ := h6 q _ (Array.getElem?_eq_getElem hq)
  have hs : c9.slots = (s.heap[q]).slots := Array.ext_getElem? fun i => e4 i fun hm => hz _ hm rfl
  have h9 : c9 = s.heap[q] := by
    rw [hs] at e2
    exact e2
  have e5 : U.heap[q]? = some c9 := e1
  rw [e5, h9, Array.getElem?_eq_getElem hq]
/-- the words of a throw but the four that speak of the heap -/
def vx_no (w : Cond) : Bool := decide (w ≠ .isRef (.static Bundle.tN "UNASSIGNED_STACK" Bundle.steD)) && decide (w ≠ .isRef (.static Bundle.tN "SUPPRESSED_SENTINEL" Bundle.listD)) && decide (w ≠ .laysStatic Bundle.tN "UNASSIGNED_STACK" Bundle.steD) && decide (w ≠ .laysStatic Bundle.tN "SUPPRESSED_SENTINEL" Bundle.listD)
def vx_at0 (own : String) (ic : Nat) (X : String) (names : List String) : List Cond := (Bundle.ownAtoms0 own ic X names).filter vx_no
def vx_atS (own : String) (ic : Nat) (X : String) (names : List String) : List Cond := (Bundle.ownAtoms own ic X names).filter vx_no
/-- a word that the tables alone decide, or a good one -/
def vx_ot (w : Cond) : Bool := w.onTables || goodWord w
theorem vx_ot_at {args a' : Array Value} {s U : State} {w : Cond} (hW : s.WarmedH U.vm) (hvm : s.vm = U.vm) (hg : vx_ot w = true) (h : w.before args s = true) : w.before a' U = true := by
  simp only [vx_ot, Bool.or_eq_true] at hg
  rcases hg with hg | hg
  · exact va_tabs hg hvm h
  · exact word_at hW (good_of_word hg) h
/-- a list's words: the good ones out of the method's own list, the others by premises of their own -/
theorem vx_hat {args : Array Value} {s : State} {L B : List Cond} (h1 : ∀ w ∈ L.filter goodWord, w.before args s = true) (h2 : ∀ w ∈ L.filter (fun w => !goodWord w), w ∈ B) (h3 : ∀ w ∈ B, w.before args s = true) : ∀ w ∈ L, w.before args s = true := by
  intro w hw
  by_cases g : goodWord w = true
  · exact h1 w (List.mem_filter.mpr ⟨hw, g⟩)
  · refine h3 w (h2 w (List.mem_filter.mpr ⟨hw, ?_⟩))
    show (!goodWord w) = true
    cases hgw : goodWord w
    · rfl
    · exact absurd hgw g
theorem vx_c {args : Array Value} {s : State} {w : Cond} {B : List Cond} (h : w.before args s = true) (t : ∀ w ∈ B, w.before args s = true) : ∀ w' ∈ w :: B, w'.before args s = true := fun w' h' => (List.mem_cons.mp h').elim (fun e => by rw [e]; exact h) (t w')
theorem vx_n {args : Array Value} {s : State} : ∀ w ∈ ([] : List Cond), w.before args s = true := fun _ h => nomatch h
theorem vx_own {args : Array Value} {s : State} {L : List Cond} (h1 : ∀ w ∈ L.filter vx_no, w.before args s = true)
    (hU : (Cond.isRef (.static Bundle.tN "UNASSIGNED_STACK" Bundle.steD)).before args s = true) (hN : (Cond.isRef (.static Bundle.tN "SUPPRESSED_SENTINEL" Bundle.listD)).before args s = true)
    (lU : (Cond.laysStatic Bundle.tN "UNASSIGNED_STACK" Bundle.steD).before args s = true) (lN : (Cond.laysStatic Bundle.tN "SUPPRESSED_SENTINEL" Bundle.listD).before args s = true) : ∀ w ∈ L, w.before args s = true := by
  intro w hw
  by_cases e1 : w = .isRef (.static Bundle.tN "UNASSIGNED_STACK" Bundle.steD)
  · rw [e1]; exact hU
  · by_cases e2 : w = .isRef (.static Bundle.tN "SUPPRESSED_SENTINEL" Bundle.listD)
    · rw [e2]; exact hN
    · by_cases e3 : w = .laysStatic Bundle.tN "UNASSIGNED_STACK" Bundle.steD
      · rw [e3]; exact lU
      · by_cases e4 : w = .laysStatic Bundle.tN "SUPPRESSED_SENTINEL" Bundle.listD
        · rw [e4]; exact lN
        · exact h1 w (List.mem_filter.mpr ⟨hw, by unfold vx_no; rw [decide_eq_true e1, decide_eq_true e2, decide_eq_true e3, decide_eq_true e4]; rfl⟩)
/-- where a static field lies, its class's statics cell in H -/
def vx_L (C n d : String) (A : Nat → Prop) (U : State) (H : Heap) : Prop := ∃ (c : ClassId) (k : Class) (i : Nat) (f : Field) (a : Nat) (cell : Cell), U.vm.findClass C = some c ∧ U.fieldFound? C n d = some (c, k, i, f) ∧ f.isStatic = true ∧ k.statics = some a ∧ H[a]? = some cell ∧ cell.vm.isStatics = true ∧ cell.cls = c ∧ f.slot < cell.slots.size ∧ k.staticTypes[f.slot]? = some f.type ∧ ¬ A a
theorem vx_L.moved {C n d : String} {A : Nat → Prop} {u U : State} {H : Heap} (hvm : u.vm.Alike U.vm) (h : vx_L C n d A u H) : vx_L C n d A U H := by
  obtain ⟨c, k, i, f, a, cell, h1, h2, h3, h4, h5, h6, h7, h8, h9, h10⟩ := h
  obtain ⟨k', hi', he⟩ := State.fieldFound?_setVm hvm h2
  exact ⟨c, k', i, f, a, cell, by rw [hvm.findClass]; exact h1, hi', h3, by rw [he]; exact h4, h5, h6, h7, h8, by rw [he]; exact h9, h10⟩
theorem vx_L.kept {C n d : String} {A : Nat → Prop} {U : State} {H H1 : Heap} (h : vx_L C n d A U H) (hq : ∀ a : Nat, a < H.size → ¬ A a → H1[a]? = H[a]?) : vx_L C n d A U H1 := by
  obtain ⟨c, k, i, f, a, cell, h1, h2, h3, h4, h5, h6, h7, h8, h9, h10⟩ := h
  exact ⟨c, k, i, f, a, cell, h1, h2, h3, h4, by rw [hq a (Array.getElem?_eq_some_iff.mp h5).1 h10]; exact h5, h6, h7, h8, h9, h10⟩
theorem vx_L.narrow {C n d : String} {A B : Nat → Prop} {U : State} {H : Heap} (h : vx_L C n d A U H) (hAB : ∀ q, B q → A q) : vx_L C n d B U H := by
  obtain ⟨c, k, i, f, a, cell, h1, h2, h3, h4, h5, h6, h7, h8, h9, h10⟩ := h
  exact ⟨c, k, i, f, a, cell, h1, h2, h3, h4, h5, h6, h7, h8, h9, fun z => h10 (hAB _ z)⟩
theorem vx_L.word {C n d : String} {A : Nat → Prop} {s : State} {args : Array Value} (h : vx_L C n d A s s.heap) : (Cond.laysStatic C n d).before args s = true := by
  obtain ⟨c, k, i, f, a, cell, h1, h2, h3, h4, h5, h6, h7, h8, h9, -⟩ := h
  show (Cond.laysStatic C n d).holds args s none s [] = true
  exact Cond.laysStatic_of h1 h2 h3 h4 h5 h6 h7 h8 h9
/-- .. and what it holds: null or some reference -/
def vx_Zq (C n d : String) (A : Nat → Prop) (U : State) (H : Heap) : Prop := va_Zq C n d A U H ∧ vx_L C n d A U H
theorem vx_Zq.moved {C n d : String} {A : Nat → Prop} {u U : State} {H : Heap} (hvm : u.vm.Alike U.vm) (h : vx_Zq C n d A u H) : vx_Zq C n d A U H := ⟨va_Zq.moved hvm h.1, vx_L.moved hvm h.2⟩
theorem vx_Zq.kept {C n d : String} {A : Nat → Prop} {U : State} {H H1 : Heap} (h : vx_Zq C n d A U H) (hq : ∀ a : Nat, a < H.size → ¬ A a → H1[a]? = H[a]?) : vx_Zq C n d A U H1 := ⟨va_Zq.kept h.1 hq, vx_L.kept h.2 hq⟩
theorem vx_Zq.narrow {C n d : String} {A B : Nat → Prop} {U : State} {H : Heap} (h : vx_Zq C n d A U H) (hAB : ∀ q, B q → A q) : vx_Zq C n d B U H := ⟨va_Zq.narrow h.1 hAB, vx_L.narrow h.2 hAB⟩
theorem vx_Zqof {args : Array Value} {s : State} {C n d : String} {A : Nat → Prop} (hl : (Cond.laysStatic C n d).before args s = true) (hini : (Cond.initialized C).before args s = true) (h : (Cond.isRef (.static C n d)).before args s = true) (hA : ∀ a : Nat, a < s.heap.size → ¬ A a) : vx_Zq C n d A s s.heap := by
  refine ⟨va_Zqof hl hini h hA, ?_⟩
  obtain ⟨c, k, i, f, a, cell, h1, h2, h3, h4, h5, h6, h7, h8, h9⟩ := Cond.laysStatic_spec hl
  exact ⟨c, k, i, f, a, cell, h1, h2, h3, h4, h5, h6, h7, h8, h9, hA a (Array.getElem?_eq_some_iff.mp h5).1⟩
theorem vx_isRef {C n d : String} {v : Value} {A : Nat → Prop} {s : State} {args : Array Value} (h : va_Z C n d v A s s.heap) (hv : v.isRef = true) : (Cond.isRef (.static C n d)).before args s = true := by
  obtain ⟨cf, kf, fi, f, a, cell, h1, h2, h3, h4, h5, h6, h7, -⟩ := h
  have he : (Term.static C n d).eval args s none [] s = some v := by
    simp [Term.eval, State.fieldNamed?, h1, h2, h4, h5, h6, h7]
  simp only [Cond.before, Cond.holds, Cond.value, he]
  cases v <;> simp_all [Value.isRef]
theorem vx_isRefq {C n d : String} {A : Nat → Prop} {s : State} {args : Array Value} (h : va_Zq C n d A s s.heap) : (Cond.isRef (.static C n d)).before args s = true := by
  rcases h with h | ⟨t, h⟩
  · exact vx_isRef h rfl
  · exact vx_isRef h rfl
/-- the same frame, seen from here: as if the method were called anew in this heap -/
theorem vx_rebase {T : State} (X : Stand p l e R s m args below meth c T locs cells slots) {R' : Room} (hf : R'.frames ≤ R.frames) (hl : R'.locals ≤ R.locals) (hc : cells + R'.cells ≤ R.cells) (hs : slots + R'.slots ≤ R.slots) :
    Stand p l e R' ((T.setVm s.vm).setFrames (.invoking m args :: below)) m args below meth c T [] 0 0 := by
  have htop : (T.setVm s.vm).topJava?.isSome := X.here.top
  have hF : ((T.setVm s.vm).setFrames (.invoking m args :: below)).frames = .invoking m args :: below := State.frames_setFrames _ (State.cur_lt_of_top htop)
  obtain ⟨g₀, hg0⟩ := Option.isSome_iff_exists.mp htop
  obtain ⟨r, hr⟩ := State.topJava?_eq_some.mp hg0
  have hl9 : e.platform.stackLimits (T.setVm s.vm).me = e.platform.stackLimits s.me := X.limits
  have hb9 : (T.setVm s.vm).me.stackBytes = s.me.stackBytes := X.bytes
  refine ⟨X.admits, X.cas, X.clock, hF, ?_, X.hears, X.method, X.code, X.here, X.tail, X.warmed, ?_, ?_, ?_⟩
  · have h := X.room
    have hU : ((T.setVm s.vm).setFrames (.invoking m args :: below)).localsInUse = s.localsInUse := by
      rw [State.localsInUse_invoking hF (meth := meth) (c := c) X.method X.code, State.localsInUse_invoking X.frames X.method X.code]
    simp only [State.hasRoom, Bool.and_eq_true, decide_eq_true_eq] at h ⊢
    obtain ⟨⟨⟨⟨h1, h2, h3, h4, h5, h6⟩, h7⟩, h8⟩, h9⟩ := h
    rw [X.frames, List.length_cons] at h2 h3
    have q1 := X.heapSize
    have q2 := X.used
    simp only [hF, hU, List.length_cons, State.stackLimits_setFrames, State.stackBytes_setFrames, hl9, hb9]
    refine ⟨⟨⟨⟨by omega, by omega, by omega, by omega, by omega, h6⟩, ?_⟩, ?_⟩, X.book⟩
    · show T.heap.size + R'.cells ≤ e.platform.maxCells
      omega
    · show T.slotsUsed + R'.slots ≤ e.platform.maxSlots
      omega
  · rw [State.stackLimits_setFrames]; rfl
  · rw [State.stackBytes_setFrames]; rfl
  · refine ⟨?_, Nat.le_refl _, Nat.le_refl _, ?_, ?_, fun a c9 h9 => ⟨c9, h9, rfl, rfl, fun _ _ => rfl⟩⟩
    · obtain ⟨t, ht, -⟩ := State.frames_cons hr
      show T.setVm s.vm = { ((T.setVm s.vm).setFrames (.invoking m args :: below)).setFrames (T.setVm s.vm).frames with heap := T.heap, slotsUsed := T.slotsUsed }
      rw [State.setFrames_setFrames, State.setFrames_self ht]
      rfl
    · show T.slotsUsed = T.slotsUsed + ((T.heap.toList.drop T.heap.size).map (·.slots.size)).sum
      rw [List.drop_eq_nil_of_le (Nat.le_of_eq Array.length_toList)]
      rfl
    · show ((T.heap.toList.drop T.heap.size).map (·.slots.size)).sum ≤ 0
      rw [List.drop_eq_nil_of_le (Nat.le_of_eq Array.length_toList)]
      exact Nat.le_refl _
/-- 'throw new E()': new; dup; invokespecial; athrow -/
theorem vx_throw0 {cc : ByteArray} {pc : Nat} (hexec : p.tables.exec = Jvm.exec) (hb : c.code = cc) (hl : l.stackTraces = false) {own cls : String} {names : List String} {ik ic mc ms : Nat} {A : Nat → Prop}
    (hown : s.vm.findClass own = some m.cls) (hcls : Bundle.fit cls = true) (hnames : ∀ n ∈ names, Bundle.fit n = true)
    (hk : (Cond.classLink own ik cls).before args s = true) (hini : (Cond.initialized cls).before args s = true) (hat : ∀ w ∈ vx_at0 own ic cls names, w.before args s = true)
    (hgood : ∀ w ∈ Cond.classLink own ik cls :: Cond.initialized cls :: vx_at0 own ic cls names, vx_ot w = true)
    (hU : vx_Zq Bundle.tN "UNASSIGNED_STACK" Bundle.steD A s s.heap) (hN : vx_Zq Bundle.tN "SUPPRESSED_SENTINEL" Bundle.listD A s s.heap) (hS : va_S A s.heap H locs) (hsize : ls.size = c.maxLocals)
    (d0 : decode cc pc = .ok (.new ik, 3)) (d3 : decode cc (pc + 3) = .ok (.dup, 1)) (d4 : decode cc (pc + 4) = .ok (.invokespecial ic, 3)) (d7 : decode cc (pc + 7) = .ok (.athrow, 1))
    (hout : ∀ x ∈ c.exceptionTable.toList, covers x (pc + 7) = false)
    (hRframes : names.length + 3 < R.frames) (hRlocals : (rest.map fun v => v.category).sum + (13 * (names.length + 1) + 42) ≤ R.locals) (hRcells : cells + 1 ≤ R.cells) (hRslots : slots + 6 ≤ R.slots) (hlocks : meth.locks = false)
    (hx : ∀ t : State, s.vm.Alike t.vm → H.size ≤ t.heap.size → (∀ q : Nat, q < H.size → t.heap[q]? = H[q]?) → XC cls s t)
    (hf : ∀ z ∈ locs, free z.base) (hc : cells + 1 ≤ mc) (hs : slots + 6 ≤ ms) :
    W p l e R s m args below meth c H locs cells slots (vx_MQ below Qc XC args s mc ms free) (F0 m pc ls rest) := by
  intro T hT X
  have htr : e.platform.stackTraces = false := (show e.platform.stackTraces = l.stackTraces by rw [X.admits.platform]).trans hl
  have Y := vx_rebase X (R' := { frames := R.frames, locals := R.locals, cells := 1, slots := 6 }) (Nat.le_refl _) (Nat.le_refl _) hRcells hRslots
  obtain ⟨s', hA⟩ : ∃ z, z = (T.setVm s.vm).setFrames (.invoking m args :: below) := ⟨_, rfl⟩
  rw [← hA] at Y
  have hvm : s'.vm = s.vm := by rw [hA]; rfl
  have hhp : s'.heap = H := by rw [hA]; exact hT
  have hW0 : s.WarmedH s'.vm := by rw [hvm]; exact State.WarmedH.refl s
  have hat' : ∀ w ∈ vx_at0 own ic cls names, w.before args s' = true := fun w hw => vx_ot_at hW0 hvm.symm (hgood w (List.mem_cons_of_mem _ (List.mem_cons_of_mem _ hw))) (hat w hw)
  have hk' : (Cond.classLink own ik cls).before args s' = true := vx_ot_at hW0 hvm.symm (hgood _ List.mem_cons_self) hk
  have hini' : (Cond.initialized cls).before args s' = true := vx_ot_at hW0 hvm.symm (hgood _ (List.mem_cons_of_mem _ List.mem_cons_self)) hini
  have hU' : vx_Zq Bundle.tN "UNASSIGNED_STACK" Bundle.steD A s' s'.heap := by rw [hhp]; exact vx_Zq.moved hW0.alike (hU.kept hS.2.1)
  have hN' : vx_Zq Bundle.tN "SUPPRESSED_SENTINEL" Bundle.listD A s' s'.heap := by rw [hhp]; exact vx_Zq.moved hW0.alike (hN.kept hS.2.1)
  have h : ∀ w ∈ Bundle.ownAtoms0 own ic cls names, w.before args s' = true := vx_own hat' (vx_isRefq hU'.1) (vx_isRefq hN'.1) hU'.2.word hN'.2.word
  have hown' : s'.vm.findClass own = some m.cls := by rw [hvm]; exact hown
  have hins : (Cond.instantiable cls 6).before args s' = true := h _ (by simp [Bundle.ownAtoms0])
  obtain ⟨vm₁, cX, kX, hfX, hkX, -, -, X₁, st1⟩ := Y.newCold hexec (own := own) (C := cls) (index := ik) (n := 6) hown' hk' hins hini'
    (g := F0 m pc ls rest) rfl (by rw [hb]; exact d0) (Nat.le_refl _) (Nat.le_refl _)
  generalize hT1 : (T.setVm vm₁).pushCell { cls := cX, slots := kX.instanceTypes.map defaultValue, vm := .none } = T1 at X₁ st1
  have hcat : (Value.ref T.heap.size).category = 1 := rfl
  have hcellA : T1.heap[T.heap.size]? = some (freshCell cX kX) := by rw [← hT1]; exact State.heap_pushCell_size _ _
  have d3' : decode c.code (pc + 3) = .ok (.dup, 1) := by rw [hb]; exact d3
  obtain ⟨U, hsteps, hrun, hend, hW, hsame, ce, hce, hO⟩ := X₁.ctorThrow0 hexec htr (own := own) (cls := cls) (names := names) (ic := ic) hown' hcls hnames h (fun x hx => nomatch hx) hfX hkX hcellA (by rw [hhp, hT]; exact Nat.le_refl _)
    (g := { method := m, pc := pc + 4, locals := ls, stack := .ref T.heap.size :: .ref T.heap.size :: rest, locked := none }) rfl hsize rfl rfl (rest := rest) rfl
    (by rw [hb]; exact d4) (by rw [hb]; exact d7) hout hRframes (by simp only [List.map_cons, List.sum_cons, hcat]; omega) hlocks
  obtain ⟨f1, f2⟩ := vx_frame hsame
  rw [hhp] at f1 f2
  have hWs : s.WarmedH U.vm := State.WarmedH.trans hW0 hW
  have hcl : s.vm.findClass cls = some ce.cls := by
    have h9 := hO.cls
    rw [hvm] at h9
    exact h9
  have hall : s.sameButNew ({ U with vm := s.vm } : State) locs mc ms := by
    subst hA
    obtain ⟨e1, e2⟩ := hsame
    rw [State.setFrames_setFrames] at e1
    have h2 : (T.setVm s.vm).sameButNew ({ U with vm := s.vm } : State) [] (0 + 1) (0 + 6) := ⟨e1, e2⟩
    have h3 := X.same.trans h2
    rw [List.append_nil] at h3
    exact h3.mono hc hs
  refine ⟨U, ?_, .threw T.heap.size, hrun, hend, Or.inr ⟨T.heap.size, rfl, cls, ce, locs, hx U hWs.alike f1 (fun q hq => f2 q hq (fun z hz => nomatch hz)), hce, hO.vm, hcl, hWs, hall, hf⟩⟩
  refine st1 _ ?_
  show Steps p.tables e below (T1.setTop { method := m, pc := pc + 3, locals := ls, stack := .ref T.heap.size :: rest, locked := none }) _
  jvm_step X₁.here [X₁.here.top, hexec, d3', Value.category]
  exact hsteps
/-- 'throw new E("text")': new; dup; ldc; invokespecial; athrow -/
theorem vx_throwS {cc : ByteArray} {pc : Nat} (hexec : p.tables.exec = Jvm.exec) (hb : c.code = cc) (hl : l.stackTraces = false) {own cls text : String} {names : List String} {ik is ic mc ms sa : Nat} {A : Nat → Prop}
    (hown : s.vm.findClass own = some m.cls) (hcls : Bundle.fit cls = true) (hnames : ∀ n ∈ names, Bundle.fit n = true)
    (hk : (Cond.classLink own ik cls).before args s = true) (hini : (Cond.initialized cls).before args s = true) (hstr : vk_R own is text sa s) (hat : ∀ w ∈ vx_atS own ic cls names, w.before args s = true)
    (hgood : ∀ w ∈ Cond.classLink own ik cls :: Cond.initialized cls :: vx_atS own ic cls names, vx_ot w = true)
    (hU : vx_Zq Bundle.tN "UNASSIGNED_STACK" Bundle.steD A s s.heap) (hN : vx_Zq Bundle.tN "SUPPRESSED_SENTINEL" Bundle.listD A s s.heap) (hS : va_S A s.heap H locs) (hsize : ls.size = c.maxLocals)
    (d0 : decode cc pc = .ok (.new ik, 3)) (d3 : decode cc (pc + 3) = .ok (.dup, 1)) (d4 : decode cc (pc + 4) = .ok (.ldc is, 2)) (d6 : decode cc (pc + 6) = .ok (.invokespecial ic, 3)) (d9 : decode cc (pc + 9) = .ok (.athrow, 1))
    (hout : ∀ x ∈ c.exceptionTable.toList, covers x (pc + 9) = false)
    (hRframes : names.length + 3 < R.frames) (hRlocals : (rest.map fun v => v.category).sum + (13 * (names.length + 1) + 43) ≤ R.locals) (hRcells : cells + 1 ≤ R.cells) (hRslots : slots + 6 ≤ R.slots) (hlocks : meth.locks = false)
    (hx : ∀ t : State, s.vm.Alike t.vm → H.size ≤ t.heap.size → (∀ q : Nat, q < H.size → t.heap[q]? = H[q]?) → XC cls s t)
    (hf : ∀ z ∈ locs, free z.base) (hc : cells + 1 ≤ mc) (hs : slots + 6 ≤ ms) :
    W p l e R s m args below meth c H locs cells slots (vx_MQ below Qc XC args s mc ms free) (F0 m pc ls rest) := by
  intro T hT X
  have htr : e.platform.stackTraces = false := (show e.platform.stackTraces = l.stackTraces by rw [X.admits.platform]).trans hl
  have Y := vx_rebase X (R' := { frames := R.frames, locals := R.locals, cells := 1, slots := 6 }) (Nat.le_refl _) (Nat.le_refl _) hRcells hRslots
  obtain ⟨s', hA⟩ : ∃ z, z = (T.setVm s.vm).setFrames (.invoking m args :: below) := ⟨_, rfl⟩
  rw [← hA] at Y
  have hvm : s'.vm = s.vm := by rw [hA]; rfl
  have hhp : s'.heap = H := by rw [hA]; exact hT
  have hW0 : s.WarmedH s'.vm := by rw [hvm]; exact State.WarmedH.refl s
  have hat' : ∀ w ∈ vx_atS own ic cls names, w.before args s' = true := fun w hw => vx_ot_at hW0 hvm.symm (hgood w (List.mem_cons_of_mem _ (List.mem_cons_of_mem _ hw))) (hat w hw)
  have hk' : (Cond.classLink own ik cls).before args s' = true := vx_ot_at hW0 hvm.symm (hgood _ List.mem_cons_self) hk
  have hini' : (Cond.initialized cls).before args s' = true := vx_ot_at hW0 hvm.symm (hgood _ (List.mem_cons_of_mem _ List.mem_cons_self)) hini
  have hU' : vx_Zq Bundle.tN "UNASSIGNED_STACK" Bundle.steD A s' s'.heap := by rw [hhp]; exact vx_Zq.moved hW0.alike (hU.kept hS.2.1)
  have hN' : vx_Zq Bundle.tN "SUPPRESSED_SENTINEL" Bundle.listD A s' s'.heap := by rw [hhp]; exact vx_Zq.moved hW0.alike (hN.kept hS.2.1)
  have h : ∀ w ∈ Bundle.ownAtoms own ic cls names, w.before args s' = true := vx_own hat' (vx_isRefq hU'.1) (vx_isRefq hN'.1) hU'.2.word hN'.2.word
  have hown' : s'.vm.findClass own = some m.cls := by rw [hvm]; exact hown
  have hins : (Cond.instantiable cls 6).before args s' = true := h _ (by simp [Bundle.ownAtoms])
  obtain ⟨vm₁, cX, kX, hfX, hkX, -, -, X₁, st1⟩ := Y.newCold hexec (own := own) (C := cls) (index := ik) (n := 6) hown' hk' hins hini'
    (g := F0 m pc ls rest) rfl (by rw [hb]; exact d0) (Nat.le_refl _) (Nat.le_refl _)
  generalize hT1 : (T.setVm vm₁).pushCell { cls := cX, slots := kX.instanceTypes.map defaultValue, vm := .none } = T1 at X₁ st1
  have hcat : (Value.ref T.heap.size).category = 1 := rfl
  have hcellA : T1.heap[T.heap.size]? = some (freshCell cX kX) := by rw [← hT1]; exact State.heap_pushCell_size _ _
  have d3' : decode c.code (pc + 3) = .ok (.dup, 1) := by rw [hb]; exact d3
  have d4' : decode c.code (pc + 4) = .ok (.ldc is, 2) := by rw [hb]; exact d4
  have hstr' : vk_R own is text sa s' := vk_R.warm hW0 hstr
  obtain ⟨U, hsteps, hrun, hend, hW, hsame, ce, hce, hO⟩ := X₁.ctorThrowS hexec htr (own := own) (cls := cls) (names := names) (ic := ic) hown' hcls hnames h (fun x hx => nomatch hx) hfX hkX hcellA (by rw [hhp, hT]; exact Nat.le_refl _) (msg := .ref sa) rfl
    (g := { method := m, pc := pc + 6, locals := ls, stack := .ref sa :: .ref T.heap.size :: .ref T.heap.size :: rest, locked := none }) rfl hsize rfl rfl (rest := rest) rfl
    (by rw [hb]; exact d6) (by rw [hb]; exact d9) hout hRframes (by simp only [List.map_cons, List.sum_cons, hcat]; omega) hlocks
  obtain ⟨f1, f2⟩ := vx_frame hsame
  rw [hhp] at f1 f2
  have hWs : s.WarmedH U.vm := State.WarmedH.trans hW0 hW
  have hcl : s.vm.findClass cls = some ce.cls := by
    have h9 := hO.cls
    rw [hvm] at h9
    exact h9
  have hall : s.sameButNew ({ U with vm := s.vm } : State) locs mc ms := by
    subst hA
    obtain ⟨e1, e2⟩ := hsame
    rw [State.setFrames_setFrames] at e1
    have h2 : (T.setVm s.vm).sameButNew ({ U with vm := s.vm } : State) [] (0 + 1) (0 + 6) := ⟨e1, e2⟩
    have h3 := X.same.trans h2
    rw [List.append_nil] at h3
    exact h3.mono hc hs
  refine ⟨U, ?_, .threw T.heap.size, hrun, hend, Or.inr ⟨T.heap.size, rfl, cls, ce, locs, hx U hWs.alike f1 (fun q hq => f2 q hq (fun z hz => nomatch hz)), hce, hO.vm, hcl, hWs, hall, hf⟩⟩
  refine st1 _ ?_
  show Steps p.tables e below (T1.setTop { method := m, pc := pc + 3, locals := ls, stack := .ref T.heap.size :: rest, locked := none }) _
  jvm_step X₁.here [X₁.here.top, hexec, d3', Value.category]
  exact X₁.ldcString hexec (own := own) (text := text) (index := is) (a := sa) hown' hstr'.1 hstr'.2
    (g := { method := m, pc := pc + 4, locals := ls, stack := .ref T.heap.size :: .ref T.heap.size :: rest, locked := none }) rfl d4' _ hsteps
/-- 'throw new E("text")', the text by a wide index -/
theorem vx_throwSW {cc : ByteArray} {pc : Nat} (hexec : p.tables.exec = Jvm.exec) (hb : c.code = cc) (hl : l.stackTraces = false) {own cls text : String} {names : List String} {ik is ic mc ms sa : Nat} {A : Nat → Prop}
    (hown : s.vm.findClass own = some m.cls) (hcls : Bundle.fit cls = true) (hnames : ∀ n ∈ names, Bundle.fit n = true)
    (hk : (Cond.classLink own ik cls).before args s = true) (hini : (Cond.initialized cls).before args s = true) (hstr : vk_R own is text sa s) (hat : ∀ w ∈ vx_atS own ic cls names, w.before args s = true)
    (hgood : ∀ w ∈ Cond.classLink own ik cls :: Cond.initialized cls :: vx_atS own ic cls names, vx_ot w = true)
    (hU : vx_Zq Bundle.tN "UNASSIGNED_STACK" Bundle.steD A s s.heap) (hN : vx_Zq Bundle.tN "SUPPRESSED_SENTINEL" Bundle.listD A s s.heap) (hS : va_S A s.heap H locs) (hsize : ls.size = c.maxLocals)
    (d0 : decode cc pc = .ok (.new ik, 3)) (d3 : decode cc (pc + 3) = .ok (.dup, 1)) (d4 : decode cc (pc + 4) = .ok (.ldc_w is, 3)) (d7 : decode cc (pc + 7) = .ok (.invokespecial ic, 3)) (d10 : decode cc (pc + 10) = .ok (.athrow, 1))
    (hout : ∀ x ∈ c.exceptionTable.toList, covers x (pc + 10) = false)
    (hRframes : names.length + 3 < R.frames) (hRlocals : (rest.map fun v => v.category).sum + (13 * (names.length + 1) + 43) ≤ R.locals) (hRcells : cells + 1 ≤ R.cells) (hRslots : slots + 6 ≤ R.slots) (hlocks : meth.locks = false)
    (hx : ∀ t : State, s.vm.Alike t.vm → H.size ≤ t.heap.size → (∀ q : Nat, q < H.size → t.heap[q]? = H[q]?) → XC cls s t)
    (hf : ∀ z ∈ locs, free z.base) (hc : cells + 1 ≤ mc) (hs : slots + 6 ≤ ms) :
    W p l e R s m args below meth c H locs cells slots (vx_MQ below Qc XC args s mc ms free) (F0 m pc ls rest) := by
  intro T hT X
  have htr : e.platform.stackTraces = false := (show e.platform.stackTraces = l.stackTraces by rw [X.admits.platform]).trans hl
  have Y := vx_rebase X (R' := { frames := R.frames, locals := R.locals, cells := 1, slots := 6 }) (Nat.le_refl _) (Nat.le_refl _) hRcells hRslots
  obtain ⟨s', hA⟩ : ∃ z, z = (T.setVm s.vm).setFrames (.invoking m args :: below) := ⟨_, rfl⟩
  rw [← hA] at Y
  have hvm : s'.vm = s.vm := by rw [hA]; rfl
  have hhp : s'.heap = H := by rw [hA]; exact hT
  have hW0 : s.WarmedH s'.vm := by rw [hvm]; exact State.WarmedH.refl s
  have hat' : ∀ w ∈ vx_atS own ic cls names, w.before args s' = true := fun w hw => vx_ot_at hW0 hvm.symm (hgood w (List.mem_cons_of_mem _ (List.mem_cons_of_mem _ hw))) (hat w hw)
  have hk' : (Cond.classLink own ik cls).before args s' = true := vx_ot_at hW0 hvm.symm (hgood _ List.mem_cons_self) hk
  have hini' : (Cond.initialized cls).before args s' = true := vx_ot_at hW0 hvm.symm (hgood _ (List.mem_cons_of_mem _ List.mem_cons_self)) hini
  have hU' : vx_Zq Bundle.tN "UNASSIGNED_STACK" Bundle.steD A s' s'.heap := by rw [hhp]; exact vx_Zq.moved hW0.alike (hU.kept hS.2.1)
  have hN' : vx_Zq Bundle.tN "SUPPRESSED_SENTINEL" Bundle.listD A s' s'.heap := by rw [hhp]; exact vx_Zq.moved hW0.alike (hN.kept hS.2.1)
  have h : ∀ w ∈ Bundle.ownAtoms own ic cls names, w.before args s' = true := vx_own hat' (vx_isRefq hU'.1) (vx_isRefq hN'.1) hU'.2.word hN'.2.word
  have hown' : s'.vm.findClass own = some m.cls := by rw [hvm]; exact hown
  have hins : (Cond.instantiable cls 6).before args s' = true := h _ (by simp [Bundle.ownAtoms])
  obtain ⟨vm₁, cX, kX, hfX, hkX, -, -, X₁, st1⟩ := Y.newCold hexec (own := own) (C := cls) (index := ik) (n := 6) hown' hk' hins hini'
    (g := F0 m pc ls rest) rfl (by rw [hb]; exact d0) (Nat.le_refl _) (Nat.le_refl _)
  generalize hT1 : (T.setVm vm₁).pushCell { cls := cX, slots := kX.instanceTypes.map defaultValue, vm := .none } = T1 at X₁ st1
  have hcat : (Value.ref T.heap.size).category = 1 := rfl
  have hcellA : T1.heap[T.heap.size]? = some (freshCell cX kX) := by rw [← hT1]; exact State.heap_pushCell_size _ _
  have d3' : decode c.code (pc + 3) = .ok (.dup, 1) := by rw [hb]; exact d3
  have d4' : decode c.code (pc + 4) = .ok (.ldc_w is, 3) := by rw [hb]; exact d4
  have hstr' : vk_R own is text sa s' := vk_R.warm hW0 hstr
  obtain ⟨U, hsteps, hrun, hend, hW, hsame, ce, hce, hO⟩ := X₁.ctorThrowS hexec htr (own := own) (cls := cls) (names := names) (ic := ic) hown' hcls hnames h (fun x hx => nomatch hx) hfX hkX hcellA (by rw [hhp, hT]; exact Nat.le_refl _) (msg := .ref sa) rfl
    (g := { method := m, pc := pc + 7, locals := ls, stack := .ref sa :: .ref T.heap.size :: .ref T.heap.size :: rest, locked := none }) rfl hsize rfl rfl (rest := rest) rfl
    (by rw [hb]; exact d7) (by rw [hb]; exact d10) hout hRframes (by simp only [List.map_cons, List.sum_cons, hcat]; omega) hlocks
  obtain ⟨f1, f2⟩ := vx_frame hsame
  rw [hhp] at f1 f2
  have hWs : s.WarmedH U.vm := State.WarmedH.trans hW0 hW
  have hcl : s.vm.findClass cls = some ce.cls := by
    have h9 := hO.cls
    rw [hvm] at h9
    exact h9
  have hall : s.sameButNew ({ U with vm := s.vm } : State) locs mc ms := by
    subst hA
    obtain ⟨e1, e2⟩ := hsame
    rw [State.setFrames_setFrames] at e1
    have h2 : (T.setVm s.vm).sameButNew ({ U with vm := s.vm } : State) [] (0 + 1) (0 + 6) := ⟨e1, e2⟩
    have h3 := X.same.trans h2
    rw [List.append_nil] at h3
    exact h3.mono hc hs
  refine ⟨U, ?_, .threw T.heap.size, hrun, hend, Or.inr ⟨T.heap.size, rfl, cls, ce, locs, hx U hWs.alike f1 (fun q hq => f2 q hq (fun z hz => nomatch hz)), hce, hO.vm, hcl, hWs, hall, hf⟩⟩
  refine st1 _ ?_
  show Steps p.tables e below (T1.setTop { method := m, pc := pc + 3, locals := ls, stack := .ref T.heap.size :: rest, locked := none }) _
  jvm_step X₁.here [X₁.here.top, hexec, d3', Value.category]
  exact X₁.ldcStringW hexec (own := own) (text := text) (index := is) (a := sa) hown' hstr'.1 hstr'.2
    (g := { method := m, pc := pc + 4, locals := ls, stack := .ref T.heap.size :: .ref T.heap.size :: rest, locked := none }) rfl d4' _ hsteps
end Ends
section Bodies
variable {l : Launch}
theorem vx_ofW {y : MethodName} {ws ws' : List Cond} {rm : Room} {Pc : Array Value → State → Prop} {Qc : Array Value → State → Outcome → State → Prop} {XC : String → State → State → Prop} {mc ms : Nat} {free : Addr → Prop} {cc : ByteArray} {maxL : Nat} {ret : Option FieldType}
    (hy : plainName y.cls = true) (hw : ws = Cond.code y cc maxL ret :: ws')
    (body : ∀ p e s m args below meth c s₁, BodyLoose p l y (headSpec ws rm) cc maxL ret e s m args below meth c s₁ → c.maxLocals = maxL → (∀ x ∈ c.exceptionTable.toList, False) → Pc args s →
      W p l e (headSpec ws rm).room s m args below meth c s.heap [] 0 0 (vx_MQ below Qc XC args s mc ms free) (entryFrame m args maxL)) : vx_Met l y ws rm Pc Qc XC mc ms free := by
  refine MetFree.of_bodyS (code := cc) (maxLocals := maxL) (ret := ret) hy ?_ ?_
  · intro args s m h hn
    obtain ⟨meth, c, h1, h2, h3, h4, h5, h6, -, -⟩ := Cond.code_spec hn (atoms_spec (ws := ws) h _ (by rw [hw]; exact List.mem_cons_self))
    exact ⟨meth, c, h1, h2, h3, h4, h5, h6⟩
  · intro p e s m args below meth c s₁ B hml hP _
    have hh0 : s₁.heap = s.heap := by rw [B.state]; rfl
    have ht : ∀ x ∈ c.exceptionTable.toList, False := by
      obtain ⟨meth9, c9, h1, h2, -, -, -, -, h7, -⟩ := Cond.code_spec B.named (atoms_spec (ws := ws) B.pre _ (by rw [hw]; exact List.mem_cons_self))
      cases Option.some.inj (h1.symm.trans B.method)
      cases Option.some.inj (h2.symm.trans (Stand.of_body B).code)
      intro x hx
      rw [Array.isEmpty_iff.mp h7] at hx
      cases hx
    obtain ⟨t, a1, o, b1, b2, b3⟩ := body p e s m args below meth c s₁ B hml ht hP s₁ hh0 (Stand.of_body B)
    exact ⟨t, o, a1, b1, b2, b3⟩
/-- the table of a body with handlers -/
theorem vx_table {p : Program} {x y : MethodName} {S : Spec} {cc bytes : ByteArray} {maxL maxL' : Nat} {ret ret' : Option FieldType} {e : Env} {s s₁ : State} {m : MethodId} {args : Array Value} {below : List Frame} {meth : Method} {c : Code} {hh : List (Nat × Nat × Nat × Nat)}
    (B : BodyLoose p l y S cc maxL ret e s m args below meth c s₁) (h : (Cond.codeWith y bytes maxL' ret' hh).before args s = true) : c.exceptionTable.toList = tableOf hh := by
  obtain ⟨m9, meth9, c9, hn9, h1, h2, -, -, h6, -⟩ := Cond.codeWith_spec h
  cases Option.some.inj (hn9.symm.trans B.named)
  cases Option.some.inj (h1.symm.trans B.method)
  cases Option.some.inj (h2.symm.trans (Stand.of_body B).code)
  rw [← h6, table_eq]
end Bodies
end VXA
/-! ===== END ===== -/
/-! ===== BEGIN a static call of a method with an exception table ===== -/
section VXS
variable {p : Program} {l : Launch} {e : Env} {R : Room} {s : State} {m : MethodId} {args : Array Value} {below : List Frame} {meth : Method} {c : Code} {T : State} {H : Heap} {locs : List Loc} {cells slots : Nat}
abbrev vx_CSW (R : Room) (s : State) (args : Array Value) (own : String) (index : Nat) (y : MethodName) (bytes : ByteArray) (maxL : Nat) (ret : Option FieldType) (hh : List (Nat × Nat × Nat × Nat)) (ws : List Cond) (rm : Room) (mc ms n : Nat) : Prop :=
  (rm.cells = mc ∧ rm.slots = ms ∧ rm.frames + 1 ≤ R.frames ∧ 8 + (maxL + 11) + rm.locals ≤ R.locals ∧ (∀ w ∈ ws, ∀ (a' : Array Value) (U : State), s.WarmedH U.vm → w.before a' U = true) ∧ Cond.codeWith y bytes maxL ret hh ∈ ws) ∧
  (Cond.codeWith y bytes maxL ret hh).before args s = true ∧ (Cond.initialized y.cls).before args s = true ∧ (y.cls ≠ "java/lang/invoke/MethodHandle" ∧ y.cls ≠ "java/lang/invoke/VarHandle") ∧
  (∀ sig, parseMethodDescriptor y.desc = some sig → n = sig.parameters.length) ∧ (Cond.methodLink own index y).before args s = true ∧ (Cond.static y).before args s = true
theorem vx_cwSW {own : String} {index maxL mc ms : Nat} {y : MethodName} {bytes : ByteArray} {ret : Option FieldType} {hh : List (Nat × Nat × Nat × Nat)} {Ts ws ws' : List Cond} {rm : Room} (n : Nat) (ht : ∀ w ∈ Ts, w.before args s = true) (hT : GoodIn Ts (va_wsS own index y ws)) (hw : ws = Cond.codeWith y bytes maxL ret hh :: ws') (hrc : rm.cells = mc) (hrs : rm.slots = ms)
    (hd : y.cls ≠ "java/lang/invoke/MethodHandle" ∧ y.cls ≠ "java/lang/invoke/VarHandle" ∧ (parseMethodDescriptor y.desc).map (fun d => d.parameters.length) = some n) (hR : rm.frames + 1 ≤ R.frames ∧ 8 + (maxL + 11) + rm.locals ≤ R.locals) :
    vx_CSW R s args own index y bytes maxL ret hh ws rm mc ms n := by
  have ok : ∀ w ∈ va_wsS own index y ws, w.before args s = true := fun w h => ht w (hT w h).1
  have hG : GoodIn Ts ws := fun w h => hT w (by unfold va_wsS; exact List.mem_append_right _ h)
  have hc : Cond.codeWith y bytes maxL ret hh ∈ ws := by rw [hw]; exact List.mem_cons_self
  refine ⟨⟨hrc, hrs, hR.1, hR.2, pay_in ht hG, hc⟩, ht _ (hG _ hc).1, ok _ (by simp [va_wsS]), ⟨hd.1, hd.2.1⟩, fun sig h => ?_, ok _ (by simp [va_wsS]), ok _ (by simp [va_wsS])⟩
  have h2 := hd.2.2
  rw [h] at h2
  exact (Option.some.inj h2).symm
theorem vx_callSW (X : Stand p l e R s m args below meth c T locs cells slots) (hexec : p.tables.exec = Jvm.exec) {own : String} {index : Nat} {y : MethodName} {bytes : ByteArray} {maxL : Nat} {ret : Option FieldType} {hh : List (Nat × Nat × Nat × Nat)}
    (hown : s.vm.findClass own = some m.cls) (hlink : (Cond.methodLink own index y).before args s = true) (hstat : (Cond.static y).before args s = true) (hinit : (Cond.initialized y.cls).before args s = true)
    (hcode : (Cond.codeWith y bytes maxL ret hh).before args s = true) (hy : y.cls ≠ "java/lang/invoke/MethodHandle" ∧ y.cls ≠ "java/lang/invoke/VarHandle")
    {W9 : Nat} {Pre : Pt → Array Value → Prop} {Post : Pt → Array Value → Option Value → Pt → Prop} (hK : Back l R p e below s args y 3 W9 Pre Post)
    {g : JFrame} (hg : g.method = m) (hsize : g.locals.size = c.maxLocals) {argsL rest : List Value} (hlen : ∀ sig, parseMethodDescriptor y.desc = some sig → argsL.length = sig.parameters.length)
    (hstack : g.stack = argsL.reverse ++ rest) (hW : 2 * g.monitorRoom + (rest.map fun v => v.category).sum ≤ W9) (hdg : decode c.code g.pc = .ok (.invokestatic index, 3))
    (hpre : ∀ vm₁, s.WarmedH vm₁ → Pre ⟨T.setVm vm₁, locs, cells, slots⟩ argsL.toArray) :
    ∃ (v : Option Value) (vm₁ : Vm) (B : Pt), s.WarmedH vm₁ ∧ Stand p l e R s m args below meth c B.U B.locs B.cells B.slots ∧ Post ⟨T.setVm vm₁, locs, cells, slots⟩ argsL.toArray v B ∧
      ∀ target, Steps p.tables e below (B.U.setTop { g with pc := g.pc + 3, stack := v.toList ++ rest }) target → Steps p.tables e below (T.setTop g) target := by
  obtain ⟨mk, methM, cM, hnamed, hmethM, -, -, -, -, -, -, hsigM⟩ := Cond.codeWith_spec hcode
  have hstatic : methM.isStatic = true := Cond.static_spec hnamed hmethM hstat
  obtain ⟨kP, hkP, -⟩ := className_of_methodNamed hnamed
  have hinitP : kP.init = .initialized := Cond.initialized_spec (findClass_of_methodNamed hnamed) hkP hinit
  obtain ⟨vm₁, X₁, hstep₁⟩ := X.invokestatic hexec hown hlink hnamed hmethM hstatic hkP hinitP hy (g := g) hg (argsL := argsL) (rest := rest) (hlen _ hsigM) hstack hdg
  obtain ⟨v, B, X', hpost, hsteps⟩ := hK m meth c ⟨T.setVm vm₁, locs, cells, slots⟩ { g with stack := rest } (.invokestatic index) mk argsL.toArray X₁ hg hsize hdg hW (X₁.named hnamed) (hpre vm₁ X₁.warmed)
  exact ⟨v, vm₁, B, X₁.warmed, X', hpost, fun target h => hstep₁ _ fun acts => by rw [doInvoke_state]; exact hsteps.trans h⟩
theorem vx_runSW {y : MethodName} {bytes cc : ByteArray} {maxL nL mc ms n index : Nat} {ret : Option FieldType} {hh : List (Nat × Nat × Nat × Nat)} {ws : List Cond} {rm : Room} {Pc : Array Value → State → Prop} {Qc : Array Value → State → Outcome → State → Prop} {free : Addr → Prop} {Ts : List Cond} {own : String} {As rest : List Value} {g : JFrame}
    (S : CallFix p m c cc nL s args Ts own) (hM : Met l y ws rm Pc Qc mc ms free) (cw : vx_CSW R s args own index y bytes maxL ret hh ws rm mc ms n) (hp : PreS s H Pc As)
    (hg : g.method = m) (hn : As.length = n) (hsize : g.locals.size = nL) (hstack : g.stack = As.reverse ++ rest) (hW : 2 * g.monitorRoom + (rest.map fun v => v.category).sum ≤ 8) (hdg : decode cc g.pc = .ok (.invokestatic index, 3)) (hf : cells + mc ≤ R.cells ∧ slots + ms ≤ R.slots) :
    va_Run p l e R s m args below meth c H locs cells slots mc ms g rest (Qc As.toArray) (free) := by
  obtain ⟨⟨hrc, hrs, hfr, hlo, hws, hcw⟩, hcode, hini, hy, hlen, hl, hstt⟩ := cw
  have hK : Back l R p e below s args y 3 8 (PreOf R mc ms Pc) (PostOf Qc mc ms free) := va_backW (hh := hh) (bytes := bytes) (maxL := maxL) (ret := ret) hM hp.1 hrc hrs hfr hlo hws hcw (fun a' U hW => word_at hW (Or.inl (by first | rfl | simp [Cond.onTables, Cond.keeps, Cond.steady])) hini)
  obtain ⟨hx, hb, hml, ho, -⟩ := S
  intro T hT X
  obtain ⟨v, vm₁, ⟨U', l2, c2, s2⟩, hW₁, X', ⟨g', mk, t, L, e1, e2, hq, h1, hL, h2, h3⟩, st⟩ := vx_callSW X hx (hh := hh) (bytes := bytes) (maxL := maxL) (ret := ret) ho hl hstt hini hcode hy hK hg (hsize.trans hml.symm) (argsL := As) (rest := rest) (fun sig h => hn.trans (hlen sig h)) hstack hW (by rw [hb]; exact hdg)
    (fun vm₁ hW₁ => ⟨hf.1, hf.2, hp.2 (T.setVm vm₁) hT hW₁⟩)
  dsimp only [Pt.U, Pt.locs, Pt.cells, Pt.slots] at X' e1 e2 h1 h2 h3 st
  subst h1; subst h2; subst h3
  exact ⟨v, (T.setVm vm₁).calling g' mk As.toArray, t, U', L, hT, X', hL, e1, e2, hq, st⟩
/-- not caught here, past rows that name other classes: it goes on to the caller -/
theorem vx_outP {p : Program} {l : Launch} {e : Env} {R : Room} {s : State} {m : MethodId} {args : Array Value} {below : List Frame} {meth : Method} {c : Code} {H : Heap} {locs : List Loc} {cells slots : Nat} {free : Addr → Prop} {ls : Array Slot} {rest : List Value} {Qc : Array Value → State → Outcome → State → Prop} {XC : String → State → State → Prop}
    {pc : Nat} {own E : String} {ce : Cell} {q : Addr} {mc ms : Nat} (hown : s.vm.findClass own = some m.cls) (hlocks : meth.locks = false)
    (hpass : ∀ z ∈ c.exceptionTable.toList, covers z pc = false ∨ (z.catchType ≠ 0 ∧ ∃ nm : String, (Cond.classLink own z.catchType nm).before args s = true ∧ va_Nc E nm s)) (hcell : H[q]? = some ce) (hv : ce.vm = .none) (hcl : s.vm.findClass E = some ce.cls)
    (hx : ∀ t : State, t.heap = H → s.vm.Alike t.vm → XC E s t) (hf : ∀ z ∈ locs, free z.base) (hc : cells ≤ mc) (hs : slots ≤ ms) :
    vx_W p l e R s m args below meth c H locs cells slots (vx_MQ below Qc XC args s mc ms free) (F0 m pc ls rest) q := by
  intro T hT X
  have hpl : e.platform.magicAccessors = ({} : Platform).magicAccessors := by rw [X.admits.platform]
  obtain ⟨vm', hW', X', st⟩ := X.outThrough hlocks q (g := F0 m pc ls rest) rfl rfl rfl (cell := ce) (by rw [hT]; exact hcell) (by rw [hv]; rfl)
    (by obtain ⟨k9, h9, -⟩ := Vm.findClass_spec hcl; exact ⟨k9, h9⟩) (fun z hz => by
      rcases hpass z hz with h | ⟨hz0, nm, hl1, hn1⟩
      · exact Or.inl h
      · obtain ⟨c6, hc6, hcl6⟩ := Cond.classLink_spec hown hl1 e.platform hpl
        obtain ⟨a8, b8, h1, h2, h3⟩ := hn1
        cases Option.some.inj (h1.symm.trans hcl)
        cases Option.some.inj (h2.symm.trans hc6)
        exact Or.inr ⟨hz0, _, hcl6, h3⟩)
  obtain ⟨g₀, hfr⟩ := X'.frames_eq
  have hcell9 : ((T.setVm vm').setFrames (.throwing q :: below)).heap[q]? = some ce := by
    show T.heap[q]? = some ce
    rw [hT]; exact hcell
  have hend : Ended ((T.setVm vm').setFrames (.throwing q :: below)) below (.threw q) := State.frames_setFrames _ (State.cur_lt_of_frames hfr)
  refine ⟨(T.setVm vm').setFrames (.throwing q :: below), ?_, .threw q, X'.here.running, hend, Or.inr ⟨q, rfl, E, ce, locs, hx _ hT (X'.ends _).1.alike, hcell9, hv, hcl, (X'.ends _).1, (X'.ends _).2.mono hc hs, hf⟩⟩
  rw [X.pushThrowing_eq]
  exact st
/-- a thing of a world lies in the heap -/
theorem vx_lt {D : va_G} {cl : List vw_C} {ws : va_W} {H1 : Heap} (h : va_P D cl ws H1) {k : Nat} {q : Nat × va_E} (hk : ws[k]? = some q) : q.1 < H1.size := (h k q hk).lt
end VXS
/-! ===== END ===== -/
/-! ===== BEGIN methods with a table of their own: called by a name, returning or throwing ===== -/
section VXH
/-! vx_backW, vx_callVX, vx_callSX, vx_callVW, vx_runVW, vx_runVX, vx_runSX, vx_ofWH follow the same proofs as their sisters above (Free/Laws.lean, Shelf42/LK1.lean); vx_outP calls Shelf42/NT130.lean (outThrough). -/
section
variable {l : Launch} {R : Room} {p : Program} {e : Env} {below : List Frame} {s : State} {sargs : Array Value} {y : MethodName} {len W9 : Nat}
theorem vx_backW {ws : List Cond} {rm : Room} {Pc : Array Value → State → Prop} {Qc : Array Value → State → Outcome → State → Prop} {XC : String → State → State → Prop} {mc ms : Nat} {free : Addr → Prop} {bytes : ByteArray} {maxL : Nat} {ret : Option FieldType} {hh : List (Nat × Nat × Nat × Nat)}
    (hM : vx_Met l y ws rm Pc Qc XC mc ms free) (hblind : FrameBlind Pc) (hrc : rm.cells = mc) (hrs : rm.slots = ms)
    (hframes : rm.frames + 1 ≤ R.frames) (hlocals : W9 + (maxL + 11) + rm.locals ≤ R.locals)
    (hws : ∀ w ∈ ws, ∀ a' U, s.WarmedH U.vm → w.before a' U = true) (hcode : Cond.codeWith y bytes maxL ret hh ∈ ws) (hinit : ∀ a' U, s.WarmedH U.vm → (Cond.initialized y.cls).before a' U = true) :
    vx_Back l R p e below s sargs y len W9 (PreOf R mc ms Pc) (PostOf Qc mc ms free) (vx_Post XC mc ms free) := by
  intro m meth c A g ig mk a X hg hsize hdg hW hn hp
  have h1 : (headSpec ws rm).pre.before a A.U = true := atoms_intro fun w hw => hws w hw _ _ X.warmed
  have h2 : (Cond.codeWith y bytes maxL ret hh).before a A.U = true := hws _ hcode _ _ X.warmed
  have h3 : (Cond.initialized y.cls).before a A.U = true := hinit _ _ X.warmed
  have h4 : A.cells + (headSpec ws rm).room.cells ≤ R.cells := by rw [show (headSpec ws rm).room.cells = mc from hrc]; exact hp.1
  have h5 : A.slots + (headSpec ws rm).room.slots ≤ R.slots := by rw [show (headSpec ws rm).room.slots = ms from hrs]; exact hp.2.1
  have hPc : Pc a (A.U.calling g mk a) := hblind _ _ _ _ hp.2.2
  obtain ⟨U, Ls, c0, s0⟩ := A
  dsimp only [Pt.U, Pt.locs, Pt.cells, Pt.slots] at h1 h2 h3 h4 h5 X hn hPc ⊢
  obtain ⟨m9, methY, cY, hn9, hmY, hcY, -, hlY, -⟩ := Cond.codeWith_spec h2
  cases Option.some.inj (hn9.symm.trans hn)
  obtain ⟨kY, hkY, -⟩ := className_of_methodNamed hn
  have hinitY : kY.init = .initialized := Cond.initialized_spec (findClass_of_methodNamed hn) hkY h3
  have h : At U g.method c below := by rw [hg]; exact X.here
  have hlocals9 : W9 + (maxL + 11) + (headSpec ws rm).room.locals ≤ R.locals := hlocals
  have happ : (headSpec ws rm).appliesLoose y e.platform (U.calling g mk a) = true :=
    Spec.appliesLoose_calling (g := g) h hdg hn hkY hinitY
      (X.room_calling (g := g) (R' := (headSpec ws rm).room) hsize hmY hcY hframes (by rw [hlY]; omega) h4 h5) h1
  obtain ⟨mid, hmid⟩ := h.above
  have hfr : (U.setTop g).frames = (.java g :: mid) ++ below := by rw [State.frames_setTop' g h.top, hmid]; rfl
  obtain ⟨o, s₂, hsteps, -, hend, hq⟩ := Steps.callFree hM p X.admits X.cas X.clock (acts := []) hfr happ hPc trivial
  have hq' : vx_Q Qc XC mc ms free a (U.calling g mk a) o s₂ := hq
  rw [State.frames_setTop' g h.top] at hend
  obtain ⟨g₀, hg0⟩ := Option.isSome_iff_exists.mp h.top
  obtain ⟨r, hr⟩ := State.topJava?_eq_some.mp hg0
  have hr' : (({ U with heap := s₂.heap, slotsUsed := s₂.slotsUsed } : State).setVm s₂.vm).frames = .java g₀ :: r := hr
  rcases hq' with ⟨hqc, L, hfe, hL⟩ | ⟨q, rfl, E, ce, L, hx, hce, hcv, hcl, hW₂, hsm, hL⟩
  · obtain ⟨⟨v, rfl⟩, hW₂, e2, q2, q3, q4, q5, q6⟩ := id hfe
    have e3 : s₂ = ({ (U.calling g mk a).setFrames s₂.frames with heap := s₂.heap, slotsUsed := s₂.slotsUsed } : State).setVm s₂.vm := by
      have : s₂ = ({ s₂ with vm := (U.calling g mk a).vm } : State).setVm s₂.vm := rfl
      rw [e2] at this
      exact this
    obtain ⟨c₂, i₂, len₂, hc₂, hd₂, hf₂⟩ := hend
    have hW' : U.WarmedH s₂.vm := hW₂
    have hcc : c₂ = c := by
      have h1 : s₂.code? g.method = U.code? g.method := by
        rw [State.code?_eq, State.code?_eq, hW'.alike.method?]
      exact Option.some.inj (hc₂.symm.trans (h1.trans h.code))
    subst hcc
    have hlen : len₂ = len := by rw [hdg] at hd₂; cases hd₂; rfl
    subst hlen
    have hs₂ : s₂ = (({ U with heap := s₂.heap, slotsUsed := s₂.slotsUsed } : State).setVm s₂.vm).setTop { g with pc := g.pc + len₂, stack := v.toList ++ g.stack } := by
      refine e3.trans ?_
      rw [hf₂, State.calling_eq h.top, State.setFrames_setFrames, State.setTop_of_frames _ hr', hr]
      rfl
    have hsame : U.sameButNew ({ U with heap := s₂.heap, slotsUsed := s₂.slotsUsed } : State) L mc ms := by
      refine ⟨?_, q2, q3, q4, q5, q6⟩
      obtain ⟨t, ht, -⟩ := State.frames_cons hr
      show ({ U with heap := s₂.heap, slotsUsed := s₂.slotsUsed } : State) = { U.setFrames U.frames with heap := s₂.heap, slotsUsed := s₂.slotsUsed }
      rw [State.setFrames_self ht]
    subst hg
    refine Or.inl ⟨v, ⟨(({ U with heap := s₂.heap, slotsUsed := s₂.slotsUsed } : State).setVm s₂.vm), Ls ++ L, c0 + mc, s0 + ms⟩,
      ⟨X.admits, X.cas, X.clock, X.frames, X.room, X.hears, X.method, X.code, (X.here.setHeapUsed s₂.heap s₂.slotsUsed).setVm hW'.alike, X.tail, State.WarmedH.trans X.warmed hW', X.limits, X.bytes, X.same.trans (hsame.setVm s.vm)⟩,
      ⟨g, mk, s₂, L, rfl, rfl, hqc, rfl, hL, rfl, rfl⟩, ?_⟩
    show Steps p.tables e below _ ((({ U with heap := s₂.heap, slotsUsed := s₂.slotsUsed } : State).setVm s₂.vm).setTop { g with pc := g.pc + len₂, stack := v.toList ++ g.stack })
    rw [← hs₂]
    exact hsteps
  · obtain ⟨e2, q2, q3, q4, q5, q6⟩ := id hsm
    have e3 : s₂ = ({ (U.calling g mk a).setFrames s₂.frames with heap := s₂.heap, slotsUsed := s₂.slotsUsed } : State).setVm s₂.vm := by
      have : s₂ = ({ s₂ with vm := (U.calling g mk a).vm } : State).setVm s₂.vm := rfl
      rw [e2] at this
      exact this
    have hf₂ : s₂.frames = .throwing q :: .java g :: U.frames.tail := hend
    have hW' : U.WarmedH s₂.vm := hW₂
    have hs₂ : s₂ = ((({ U with heap := s₂.heap, slotsUsed := s₂.slotsUsed } : State).setVm s₂.vm).setTop g).pushFrame (.throwing q) := by
      refine e3.trans ?_
      rw [hf₂, State.calling_eq h.top, State.setFrames_setFrames, State.pushFrame, State.frames_setTop _ hr', State.setTop_of_frames _ hr', State.setFrames_setFrames, hr]
      rfl
    have hsame : U.sameButNew ({ U with heap := s₂.heap, slotsUsed := s₂.slotsUsed } : State) L mc ms := by
      refine ⟨?_, q2, q3, q4, q5, q6⟩
      obtain ⟨t, ht, -⟩ := State.frames_cons hr
      show ({ U with heap := s₂.heap, slotsUsed := s₂.slotsUsed } : State) = { U.setFrames U.frames with heap := s₂.heap, slotsUsed := s₂.slotsUsed }
      rw [State.setFrames_self ht]
    subst hg
    refine Or.inr ⟨q, ⟨(({ U with heap := s₂.heap, slotsUsed := s₂.slotsUsed } : State).setVm s₂.vm), Ls ++ L, c0 + mc, s0 + ms⟩,
      ⟨X.admits, X.cas, X.clock, X.frames, X.room, X.hears, X.method, X.code, (X.here.setHeapUsed s₂.heap s₂.slotsUsed).setVm hW'.alike, X.tail, State.WarmedH.trans X.warmed hW', X.limits, X.bytes, X.same.trans (hsame.setVm s.vm)⟩,
      ⟨g, mk, s₂, L, E, ce, rfl, rfl, hx, hce, hcv, hcl, rfl, hL, rfl, rfl⟩, ?_⟩
    show Steps p.tables e below _ (((({ U with heap := s₂.heap, slotsUsed := s₂.slotsUsed } : State).setVm s₂.vm).setTop g).pushFrame (.throwing q))
    rw [← hs₂]
    exact hsteps
end
variable {p : Program} {l : Launch} {e : Env} {R : Room} {s : State} {m : MethodId} {args : Array Value} {below : List Frame} {meth : Method} {c : Code} {T : State} {H : Heap} {locs : List Loc} {cells slots : Nat}
theorem vx_callVX (X : Stand p l e R s m args below meth c T locs cells slots) (hexec : p.tables.exec = Jvm.exec) {own C : String} {index : Nat} {y : MethodName} {bytes : ByteArray} {maxL : Nat} {ret : Option FieldType} {hh : List (Nat × Nat × Nat × Nat)}
    (hown : s.vm.findClass own = some m.cls) (hlink : (Cond.methodLink own index y).before args s = true) (hinst : (Cond.instanceMethod y).before args s = true) (hsel : (Cond.selects C y y).before args s = true)
    (hcode : (Cond.codeWith y bytes maxL ret hh).before args s = true) (hy : y.cls ≠ "java/lang/invoke/MethodHandle" ∧ y.cls ≠ "java/lang/invoke/VarHandle")
    {W9 : Nat} {Pre : Pt → Array Value → Prop} {Post : Pt → Array Value → Option Value → Pt → Prop} {PostX : Pt → Array Value → Addr → Pt → Prop} (hK : vx_Back l R p e below s args y 3 W9 Pre Post PostX)
    {b : Addr} {cellB : Cell} (hcell : T.heap[b]? = some cellB) (hobj : cellB.vm.isStatics = false) (hcls : s.vm.findClass C = some cellB.cls)
    {g : JFrame} (hg : g.method = m) (hsize : g.locals.size = c.maxLocals) {argsL rest : List Value} (hlen : ∀ sig, parseMethodDescriptor y.desc = some sig → argsL.length = sig.parameters.length)
    (hstack : g.stack = argsL.reverse ++ .ref b :: rest) (hW : 2 * g.monitorRoom + (rest.map fun v => v.category).sum ≤ W9) (hdg : decode c.code g.pc = .ok (.invokevirtual index, 3))
    (hpre : ∀ vm₁, s.WarmedH vm₁ → Pre ⟨T.setVm vm₁, locs, cells, slots⟩ (Value.ref b :: argsL).toArray) :
    (∃ (v : Option Value) (vm₁ : Vm) (B : Pt), s.WarmedH vm₁ ∧ Stand p l e R s m args below meth c B.U B.locs B.cells B.slots ∧ Post ⟨T.setVm vm₁, locs, cells, slots⟩ (Value.ref b :: argsL).toArray v B ∧
      ∀ target, Steps p.tables e below (B.U.setTop { g with pc := g.pc + 3, stack := v.toList ++ rest }) target → Steps p.tables e below (T.setTop g) target) ∨
    (∃ (q : Addr) (vm₁ : Vm) (B : Pt), s.WarmedH vm₁ ∧ Stand p l e R s m args below meth c B.U B.locs B.cells B.slots ∧ PostX ⟨T.setVm vm₁, locs, cells, slots⟩ (Value.ref b :: argsL).toArray q B ∧
      Steps p.tables e below (T.setTop g) ((B.U.setTop { g with stack := rest }).pushFrame (.throwing q))) := by
  obtain ⟨mk, methM, hnamed, hmethM, hstM, habM⟩ := Cond.instanceMethod_spec hinst
  obtain ⟨m8, methM', cM, hn8, hmethM', -, -, -, -, -, -, hsigM⟩ := Cond.codeWith_spec hcode
  cases Option.some.inj (hn8.symm.trans hnamed)
  cases hmethM.symm.trans hmethM'
  obtain ⟨c2, r2, m2, q1, q2, q3, q4, kP, hkP, hkPi⟩ := Cond.selects_spec hsel
  cases hcls.symm.trans q1
  cases (State.methodFound?_of_named hnamed hy).symm.trans q2
  cases hnamed.symm.trans q3
  have hselP : selectMethod e.platform s.vm cellB.cls mk = .method mk := by rw [Launch.admits_selectMethod X.admits]; exact q4
  obtain ⟨vm₁, X₁, hstep₁⟩ := X.invokevirtual hexec hown hlink hnamed hmethM hstM hkP hkPi hy (a := b) (cell := cellB) hcell
    (fun z h => by rw [h] at hobj; cases hobj) hselP hmethM habM hkP hkPi (g := g) hg (argsL := argsL) (rest := rest) (hlen _ hsigM) hstack hdg
  rcases hK m meth c ⟨T.setVm vm₁, locs, cells, slots⟩ { g with stack := rest } (.invokevirtual index) mk (Value.ref b :: argsL).toArray X₁ hg hsize hdg hW (X₁.named hnamed) (hpre vm₁ X₁.warmed) with ⟨v, B, X', hpost, hsteps⟩ | ⟨q, B, X', hpost, hsteps⟩
  · exact Or.inl ⟨v, vm₁, B, X₁.warmed, X', hpost, fun target h => hstep₁ _ fun acts => by rw [doInvoke_state]; exact hsteps.trans h⟩
  · exact Or.inr ⟨q, vm₁, B, X₁.warmed, X', hpost, hstep₁ _ fun acts => by rw [doInvoke_state]; exact hsteps⟩
theorem vx_callSX (X : Stand p l e R s m args below meth c T locs cells slots) (hexec : p.tables.exec = Jvm.exec) {own : String} {index : Nat} {y : MethodName} {bytes : ByteArray} {maxL : Nat} {ret : Option FieldType} {hh : List (Nat × Nat × Nat × Nat)}
    (hown : s.vm.findClass own = some m.cls) (hlink : (Cond.methodLink own index y).before args s = true) (hstat : (Cond.static y).before args s = true) (hinit : (Cond.initialized y.cls).before args s = true)
    (hcode : (Cond.codeWith y bytes maxL ret hh).before args s = true) (hy : y.cls ≠ "java/lang/invoke/MethodHandle" ∧ y.cls ≠ "java/lang/invoke/VarHandle")
    {W9 : Nat} {Pre : Pt → Array Value → Prop} {Post : Pt → Array Value → Option Value → Pt → Prop} {PostX : Pt → Array Value → Addr → Pt → Prop} (hK : vx_Back l R p e below s args y 3 W9 Pre Post PostX)
    {g : JFrame} (hg : g.method = m) (hsize : g.locals.size = c.maxLocals) {argsL rest : List Value} (hlen : ∀ sig, parseMethodDescriptor y.desc = some sig → argsL.length = sig.parameters.length)
    (hstack : g.stack = argsL.reverse ++ rest) (hW : 2 * g.monitorRoom + (rest.map fun v => v.category).sum ≤ W9) (hdg : decode c.code g.pc = .ok (.invokestatic index, 3))
    (hpre : ∀ vm₁, s.WarmedH vm₁ → Pre ⟨T.setVm vm₁, locs, cells, slots⟩ argsL.toArray) :
    (∃ (v : Option Value) (vm₁ : Vm) (B : Pt), s.WarmedH vm₁ ∧ Stand p l e R s m args below meth c B.U B.locs B.cells B.slots ∧ Post ⟨T.setVm vm₁, locs, cells, slots⟩ argsL.toArray v B ∧
      ∀ target, Steps p.tables e below (B.U.setTop { g with pc := g.pc + 3, stack := v.toList ++ rest }) target → Steps p.tables e below (T.setTop g) target) ∨
    (∃ (q : Addr) (vm₁ : Vm) (B : Pt), s.WarmedH vm₁ ∧ Stand p l e R s m args below meth c B.U B.locs B.cells B.slots ∧ PostX ⟨T.setVm vm₁, locs, cells, slots⟩ argsL.toArray q B ∧
      Steps p.tables e below (T.setTop g) ((B.U.setTop { g with stack := rest }).pushFrame (.throwing q))) := by
  obtain ⟨mk, methM, cM, hnamed, hmethM, -, -, -, -, -, -, hsigM⟩ := Cond.codeWith_spec hcode
  have hstatic : methM.isStatic = true := Cond.static_spec hnamed hmethM hstat
  obtain ⟨kP, hkP, -⟩ := className_of_methodNamed hnamed
  have hinitP : kP.init = .initialized := Cond.initialized_spec (findClass_of_methodNamed hnamed) hkP hinit
  obtain ⟨vm₁, X₁, hstep₁⟩ := X.invokestatic hexec hown hlink hnamed hmethM hstatic hkP hinitP hy (g := g) hg (argsL := argsL) (rest := rest) (hlen _ hsigM) hstack hdg
  rcases hK m meth c ⟨T.setVm vm₁, locs, cells, slots⟩ { g with stack := rest } (.invokestatic index) mk argsL.toArray X₁ hg hsize hdg hW (X₁.named hnamed) (hpre vm₁ X₁.warmed) with ⟨v, B, X', hpost, hsteps⟩ | ⟨q, B, X', hpost, hsteps⟩
  · exact Or.inl ⟨v, vm₁, B, X₁.warmed, X', hpost, fun target h => hstep₁ _ fun acts => by rw [doInvoke_state]; exact hsteps.trans h⟩
  · exact Or.inr ⟨q, vm₁, B, X₁.warmed, X', hpost, hstep₁ _ fun acts => by rw [doInvoke_state]; exact hsteps⟩
theorem vx_callVW (X : Stand p l e R s m args below meth c T locs cells slots) (hexec : p.tables.exec = Jvm.exec) {own C : String} {index : Nat} {y : MethodName} {bytes : ByteArray} {maxL : Nat} {ret : Option FieldType} {hh : List (Nat × Nat × Nat × Nat)}
    (hown : s.vm.findClass own = some m.cls) (hlink : (Cond.methodLink own index y).before args s = true) (hinst : (Cond.instanceMethod y).before args s = true) (hsel : (Cond.selects C y y).before args s = true)
    (hcode : (Cond.codeWith y bytes maxL ret hh).before args s = true) (hy : y.cls ≠ "java/lang/invoke/MethodHandle" ∧ y.cls ≠ "java/lang/invoke/VarHandle")
    {W9 : Nat} {Pre : Pt → Array Value → Prop} {Post : Pt → Array Value → Option Value → Pt → Prop} (hK : Back l R p e below s args y 3 W9 Pre Post)
    {b : Addr} {cellB : Cell} (hcell : T.heap[b]? = some cellB) (hobj : cellB.vm.isStatics = false) (hcls : s.vm.findClass C = some cellB.cls)
    {g : JFrame} (hg : g.method = m) (hsize : g.locals.size = c.maxLocals) {argsL rest : List Value} (hlen : ∀ sig, parseMethodDescriptor y.desc = some sig → argsL.length = sig.parameters.length)
    (hstack : g.stack = argsL.reverse ++ .ref b :: rest) (hW : 2 * g.monitorRoom + (rest.map fun v => v.category).sum ≤ W9) (hdg : decode c.code g.pc = .ok (.invokevirtual index, 3))
    (hpre : ∀ vm₁, s.WarmedH vm₁ → Pre ⟨T.setVm vm₁, locs, cells, slots⟩ (Value.ref b :: argsL).toArray) :
    ∃ (v : Option Value) (vm₁ : Vm) (B : Pt), s.WarmedH vm₁ ∧ Stand p l e R s m args below meth c B.U B.locs B.cells B.slots ∧ Post ⟨T.setVm vm₁, locs, cells, slots⟩ (Value.ref b :: argsL).toArray v B ∧
      ∀ target, Steps p.tables e below (B.U.setTop { g with pc := g.pc + 3, stack := v.toList ++ rest }) target → Steps p.tables e below (T.setTop g) target := by
  obtain ⟨mk, methM, hnamed, hmethM, hstM, habM⟩ := Cond.instanceMethod_spec hinst
  obtain ⟨m8, methM', cM, hn8, hmethM', -, -, -, -, -, -, hsigM⟩ := Cond.codeWith_spec hcode
  cases Option.some.inj (hn8.symm.trans hnamed)
  cases hmethM.symm.trans hmethM'
  obtain ⟨c2, r2, m2, q1, q2, q3, q4, kP, hkP, hkPi⟩ := Cond.selects_spec hsel
  cases hcls.symm.trans q1
  cases (State.methodFound?_of_named hnamed hy).symm.trans q2
  cases hnamed.symm.trans q3
  have hselP : selectMethod e.platform s.vm cellB.cls mk = .method mk := by rw [Launch.admits_selectMethod X.admits]; exact q4
  obtain ⟨vm₁, X₁, hstep₁⟩ := X.invokevirtual hexec hown hlink hnamed hmethM hstM hkP hkPi hy (a := b) (cell := cellB) hcell
    (fun z h => by rw [h] at hobj; cases hobj) hselP hmethM habM hkP hkPi (g := g) hg (argsL := argsL) (rest := rest) (hlen _ hsigM) hstack hdg
  obtain ⟨v, B, X', hpost, hsteps⟩ := hK m meth c ⟨T.setVm vm₁, locs, cells, slots⟩ { g with stack := rest } (.invokevirtual index) mk (Value.ref b :: argsL).toArray X₁ hg hsize hdg hW (X₁.named hnamed) (hpre vm₁ X₁.warmed)
  exact ⟨v, vm₁, B, X₁.warmed, X', hpost, fun target h => hstep₁ _ fun acts => by rw [doInvoke_state]; exact hsteps.trans h⟩
abbrev vx_CVW (R : Room) (s : State) (args : Array Value) (own C : String) (index : Nat) (y : MethodName) (bytes : ByteArray) (maxL : Nat) (ret : Option FieldType) (hh : List (Nat × Nat × Nat × Nat)) (ws : List Cond) (rm : Room) (mc ms n : Nat) : Prop :=
  (rm.cells = mc ∧ rm.slots = ms ∧ rm.frames + 1 ≤ R.frames ∧ 8 + (maxL + 11) + rm.locals ≤ R.locals ∧ (∀ w ∈ ws, ∀ (a' : Array Value) (U : State), s.WarmedH U.vm → w.before a' U = true) ∧ Cond.codeWith y bytes maxL ret hh ∈ ws) ∧
  (Cond.codeWith y bytes maxL ret hh).before args s = true ∧ (Cond.initialized y.cls).before args s = true ∧ (y.cls ≠ "java/lang/invoke/MethodHandle" ∧ y.cls ≠ "java/lang/invoke/VarHandle") ∧
  (∀ sig, parseMethodDescriptor y.desc = some sig → n = sig.parameters.length) ∧ (Cond.methodLink own index y).before args s = true ∧ (Cond.instanceMethod y).before args s = true ∧ (Cond.selects C y y).before args s = true
theorem vx_cwVW {own C : String} {index maxL mc ms : Nat} {y : MethodName} {bytes : ByteArray} {ret : Option FieldType} {hh : List (Nat × Nat × Nat × Nat)} {Ts ws ws' : List Cond} {rm : Room} (n : Nat) (ht : ∀ w ∈ Ts, w.before args s = true) (hT : GoodIn Ts (wsV own index C y ws)) (hw : ws = Cond.codeWith y bytes maxL ret hh :: ws') (hrc : rm.cells = mc) (hrs : rm.slots = ms)
    (hd : y.cls = C ∧ y.cls ≠ "java/lang/invoke/MethodHandle" ∧ y.cls ≠ "java/lang/invoke/VarHandle" ∧ (parseMethodDescriptor y.desc).map (fun d => d.parameters.length) = some n) (hR : rm.frames + 1 ≤ R.frames ∧ 8 + (maxL + 11) + rm.locals ≤ R.locals) :
    vx_CVW R s args own C index y bytes maxL ret hh ws rm mc ms n := by
  obtain ⟨hC, hd⟩ := hd
  subst hC
  have ok : ∀ w ∈ wsV own index y.cls y ws, w.before args s = true := fun w h => ht w (hT w h).1
  have hG : GoodIn Ts ws := fun w h => hT w (by unfold wsV; exact List.mem_append_right _ h)
  have hc : Cond.codeWith y bytes maxL ret hh ∈ ws := by rw [hw]; exact List.mem_cons_self
  refine ⟨⟨hrc, hrs, hR.1, hR.2, pay_in ht hG, hc⟩, ht _ (hG _ hc).1, ok _ (by simp [wsV]), ⟨hd.1, hd.2.1⟩, fun sig h => ?_, ok _ (by simp [wsV]), ok _ (by simp [wsV]), ok _ (by simp [wsV])⟩
  have h2 := hd.2.2
  rw [h] at h2
  exact (Option.some.inj h2).symm
theorem vx_runVW {y : MethodName} {bytes cc : ByteArray} {maxL nL mc ms n index : Nat} {ret : Option FieldType} {hh : List (Nat × Nat × Nat × Nat)} {ws : List Cond} {rm : Room} {Pc : Array Value → State → Prop} {Qc : Array Value → State → Outcome → State → Prop} {free : Addr → Prop} {Ts : List Cond} {own C : String} {b : Addr} {As rest : List Value} {g : JFrame}
    (S : CallFix p m c cc nL s args Ts own) (hM : Met l y ws rm Pc Qc mc ms free) (cw : vx_CVW R s args own C index y bytes maxL ret hh ws rm mc ms n) (hp : PreV s H C b Pc As)
    (hg : g.method = m) (hn : As.length = n) (hsize : g.locals.size = nL) (hstack : g.stack = As.reverse ++ .ref b :: rest) (hW : 2 * g.monitorRoom + (rest.map fun v => v.category).sum ≤ 8) (hdg : decode cc g.pc = .ok (.invokevirtual index, 3)) (hf : cells + mc ≤ R.cells ∧ slots + ms ≤ R.slots) :
    va_Run p l e R s m args below meth c H locs cells slots mc ms g rest (Qc (Value.ref b :: As).toArray) free := by
  obtain ⟨⟨hrc, hrs, hfr, hlo, hws, hcw⟩, hcode, hini, hy, hlen, hl, hin, hse⟩ := cw
  have hK : Back l R p e below s args y 3 8 (PreOf R mc ms Pc) (PostOf Qc mc ms free) := va_backW (hh := hh) (bytes := bytes) (maxL := maxL) (ret := ret) hM hp.1 hrc hrs hfr hlo hws hcw (fun a' U hW => word_at hW (Or.inl (by first | rfl | simp [Cond.onTables, Cond.keeps, Cond.steady])) hini)
  obtain ⟨hx, hb, hml, ho, -⟩ := S
  obtain ⟨-, ⟨cellB, hcB, hoB, hclB⟩, hPc⟩ := hp
  intro T hT X
  obtain ⟨v, vm₁, ⟨U', l2, c2, s2⟩, hW₁, X', ⟨g', mk, t, L, e1, e2, hq, h1, hL, h2, h3⟩, st⟩ := vx_callVW X hx (C := C) (hh := hh) (bytes := bytes) (maxL := maxL) (ret := ret) ho hl hin hse hcode hy hK (by rw [hT]; exact hcB) hoB hclB hg (hsize.trans hml.symm) (argsL := As) (rest := rest) (fun sig h => hn.trans (hlen sig h)) hstack hW (by rw [hb]; exact hdg)
    (fun vm₁ hW₁ => ⟨hf.1, hf.2, hPc (T.setVm vm₁) hT hW₁⟩)
  dsimp only [Pt.U, Pt.locs, Pt.cells, Pt.slots] at X' e1 e2 h1 h2 h3 st
  subst h1; subst h2; subst h3
  exact ⟨v, (T.setVm vm₁).calling g' mk (Value.ref b :: As).toArray, t, U', L, hT, X', hL, e1, e2, hq, st⟩
section
variable {y : MethodName} {bytes cc : ByteArray} {maxL nL mc ms n index : Nat} {ret : Option FieldType} {ws : List Cond} {rm : Room} {Pc : Array Value → State → Prop} {Qc : Array Value → State → Outcome → State → Prop} {XC : String → State → State → Prop} {free : Addr → Prop} {Ts : List Cond} {own C : String} {b : Addr} {As rest : List Value} {g : JFrame}
theorem vx_runVX {hh : List (Nat × Nat × Nat × Nat)} (S : CallFix p m c cc nL s args Ts own) (hM : vx_Met l y ws rm Pc Qc XC mc ms free) (cw : vx_CVW R s args own C index y bytes maxL ret hh ws rm mc ms n) (hp : PreV s H C b Pc As)
    (hg : g.method = m) (hn : As.length = n) (hsize : g.locals.size = nL) (hstack : g.stack = As.reverse ++ .ref b :: rest) (hW : 2 * g.monitorRoom + (rest.map fun v => v.category).sum ≤ 8) (hdg : decode cc g.pc = .ok (.invokevirtual index, 3)) (hf : cells + mc ≤ R.cells ∧ slots + ms ≤ R.slots) :
    vx_Run p l e R s m args below meth c H locs cells slots mc ms g rest (Qc (Value.ref b :: As).toArray) XC free := by
  obtain ⟨⟨hrc, hrs, hfr, hlo, hws, hcw⟩, hcode, hini, hy, hlen, hl, hin, hse⟩ := cw
  have hK : vx_Back l R p e below s args y 3 8 (PreOf R mc ms Pc) (PostOf Qc mc ms free) (vx_Post XC mc ms free) := vx_backW (hh := hh) (bytes := bytes) (maxL := maxL) (ret := ret) hM hp.1 hrc hrs hfr hlo hws hcw (fun a' U hW => word_at hW (Or.inl (by first | rfl | simp [Cond.onTables, Cond.keeps, Cond.steady])) hini)
  obtain ⟨hx, hb, hml, ho, -⟩ := S
  obtain ⟨-, ⟨cellB, hcB, hoB, hclB⟩, hPc⟩ := hp
  intro T hT X
  rcases vx_callVX X hx (C := C) (hh := hh) (bytes := bytes) (maxL := maxL) (ret := ret) ho hl hin hse hcode hy hK (by rw [hT]; exact hcB) hoB hclB hg (hsize.trans hml.symm) (argsL := As) (rest := rest) (fun sig h => hn.trans (hlen sig h)) hstack hW (by rw [hb]; exact hdg)
    (fun vm₁ hW₁ => ⟨hf.1, hf.2, hPc (T.setVm vm₁) hT hW₁⟩) with ⟨v, vm₁, ⟨U', l2, c2, s2⟩, hW₁, X', ⟨g', mk, t, L, e1, e2, hq, h1, hL, h2, h3⟩, st⟩ | ⟨q, vm₁, ⟨U', l2, c2, s2⟩, hW₁, X', ⟨g', mk, t, L, E, ce, e1, e2, hq, hce, hcv, hcl, h1, hL, h2, h3⟩, st⟩
  · dsimp only [Pt.U, Pt.locs, Pt.cells, Pt.slots] at X' e1 e2 h1 h2 h3 st
    subst h1; subst h2; subst h3
    exact Or.inl ⟨v, (T.setVm vm₁).calling g' mk (Value.ref b :: As).toArray, t, U', L, hT, X', hL, e1, e2, hq, st⟩
  · dsimp only [Pt.U, Pt.locs, Pt.cells, Pt.slots] at X' e1 e2 h1 h2 h3 st hcl
    subst h1; subst h2; subst h3
    exact Or.inr ⟨q, (T.setVm vm₁).calling g' mk (Value.ref b :: As).toArray, t, U', L, E, ce, hT, X', hL, e1, e2, hq, hce, hcv, vx_cls hW₁ hcl, st⟩
theorem vx_runSX {hh : List (Nat × Nat × Nat × Nat)} (S : CallFix p m c cc nL s args Ts own) (hM : vx_Met l y ws rm Pc Qc XC mc ms free) (cw : vx_CSW R s args own index y bytes maxL ret hh ws rm mc ms n) (hp : PreS s H Pc As)
    (hg : g.method = m) (hn : As.length = n) (hsize : g.locals.size = nL) (hstack : g.stack = As.reverse ++ rest) (hW : 2 * g.monitorRoom + (rest.map fun v => v.category).sum ≤ 8) (hdg : decode cc g.pc = .ok (.invokestatic index, 3)) (hf : cells + mc ≤ R.cells ∧ slots + ms ≤ R.slots) :
    vx_Run p l e R s m args below meth c H locs cells slots mc ms g rest (Qc As.toArray) XC free := by
  obtain ⟨⟨hrc, hrs, hfr, hlo, hws, hcw⟩, hcode, hini, hy, hlen, hl, hstt⟩ := cw
  have hK : vx_Back l R p e below s args y 3 8 (PreOf R mc ms Pc) (PostOf Qc mc ms free) (vx_Post XC mc ms free) := vx_backW (hh := hh) (bytes := bytes) (maxL := maxL) (ret := ret) hM hp.1 hrc hrs hfr hlo hws hcw (fun a' U hW => word_at hW (Or.inl (by first | rfl | simp [Cond.onTables, Cond.keeps, Cond.steady])) hini)
  obtain ⟨hx, hb, hml, ho, -⟩ := S
  intro T hT X
  rcases vx_callSX X hx (hh := hh) (bytes := bytes) (maxL := maxL) (ret := ret) ho hl hstt hini hcode hy hK hg (hsize.trans hml.symm) (argsL := As) (rest := rest) (fun sig h => hn.trans (hlen sig h)) hstack hW (by rw [hb]; exact hdg)
    (fun vm₁ hW₁ => ⟨hf.1, hf.2, hp.2 (T.setVm vm₁) hT hW₁⟩) with ⟨v, vm₁, ⟨U', l2, c2, s2⟩, hW₁, X', ⟨g', mk, t, L, e1, e2, hq, h1, hL, h2, h3⟩, st⟩ | ⟨q, vm₁, ⟨U', l2, c2, s2⟩, hW₁, X', ⟨g', mk, t, L, E, ce, e1, e2, hq, hce, hcv, hcl, h1, hL, h2, h3⟩, st⟩
  · dsimp only [Pt.U, Pt.locs, Pt.cells, Pt.slots] at X' e1 e2 h1 h2 h3 st
    subst h1; subst h2; subst h3
    exact Or.inl ⟨v, (T.setVm vm₁).calling g' mk As.toArray, t, U', L, hT, X', hL, e1, e2, hq, st⟩
  · dsimp only [Pt.U, Pt.locs, Pt.cells, Pt.slots] at X' e1 e2 h1 h2 h3 st hcl
    subst h1; subst h2; subst h3
    exact Or.inr ⟨q, (T.setVm vm₁).calling g' mk As.toArray, t, U', L, E, ce, hT, X', hL, e1, e2, hq, hce, hcv, vx_cls hW₁ hcl, st⟩
end
end VXH
theorem vx_ofWH {l : Launch} {y : MethodName} {ws ws' : List Cond} {rm : Room} {Pc : Array Value → State → Prop} {Qc : Array Value → State → Outcome → State → Prop} {XC : String → State → State → Prop} {mc ms : Nat} {free : Addr → Prop} {cc : ByteArray} {maxL : Nat} {ret : Option FieldType} {hh : List (Nat × Nat × Nat × Nat)}
    (hy : plainName y.cls = true) (hw : ws = Cond.codeWith y cc maxL ret hh :: ws')
    (body : ∀ p e s m args below meth c s₁, BodyLoose p l y (headSpec ws rm) cc maxL ret e s m args below meth c s₁ → c.maxLocals = maxL → Pc args s →
      W p l e (headSpec ws rm).room s m args below meth c s.heap [] 0 0 (vx_MQ below Qc XC args s mc ms free) (entryFrame m args maxL)) : vx_Met l y ws rm Pc Qc XC mc ms free := by
  refine MetFree.of_bodyS (code := cc) (maxLocals := maxL) (ret := ret) hy ?_ ?_
  · intro args s m h hn
    obtain ⟨m9, meth, c, hn9, h1, h2, h3, h4, -, h5, h6, -⟩ := Cond.codeWith_spec (atoms_spec (ws := ws) h _ (by rw [hw]; exact List.mem_cons_self))
    cases hn.symm.trans hn9
    exact ⟨meth, c, h1, h2, h3, h4, h5, h6⟩
  · intro p e s m args below meth c s₁ B hml hP _
    have hh0 : s₁.heap = s.heap := by rw [B.state]; rfl
    obtain ⟨t, a1, o, b1, b2, b3⟩ := body p e s m args below meth c s₁ B hml hP s₁ hh0 (Stand.of_body B)
    exact ⟨t, o, a1, b1, b2, b3⟩
/-! ===== END ===== -/
end
section
/-! ===== BEGIN printed: names, fields, word lists, decode rows ===== -/
def RX0 : String := "StairLight$Floors"
def TX0 : u_T := fun k => match k with
  | 0 => ("StairLight$Floors", "burning", "[I", true)
  | 1 => ("StairLight$Floors", "sound", "[I", true)
  | 2 => ("StairLight$Floors", "darkSeconds", "[I", true)
  | 3 => ("StairLight$Floors", "dimSeconds", "[I", true)
  | 4 => ("StairLight$Floors", "energy", "[I", true)
  | _ => ("StairLight$Floors", "kindled", "[I", true)
def tyX0 : Nat → FieldType := fun k => match k with
  | 0 => .array .int
  | 1 => .array .int
  | 2 => .array .int
  | 3 => .array .int
  | 4 => .array .int
  | _ => .array .int
abbrev wsX00 : List Cond := u_ws RX0 TX0 6
theorem nmX0 : ∀ a, a < 6 → ∀ b, b < 6 → a ≠ b → (TX0 a).2.1 ≠ (TX0 b).2.1 := by decide +kernel
theorem tyX0_ok : ∀ k, k < 6 → parseFieldDescriptor (TX0 k).2.2.1 = some (tyX0 k) := by decide +kernel
abbrev cX0_init : ByteArray := prog_2_method_1_code
def yX0_init : MethodName := ⟨RX0, "<init>", "()V"⟩
abbrev cX0_copyFrom : ByteArray := prog_2_method_2_code
def yX0_copyFrom : MethodName := ⟨RX0, "copyFrom", "(LStairLight$Floors;)V"⟩
abbrev cX0_letBurn : ByteArray := prog_2_method_3_code
def yX0_letBurn : MethodName := ⟨RX0, "letBurn", "(II)V"⟩
abbrev cX0_burnDown : ByteArray := prog_2_method_4_code
def yX0_burnDown : MethodName := ⟨RX0, "burnDown", "(I)V"⟩
abbrev cX0_mostMissed : ByteArray := prog_2_method_5_code
def yX0_mostMissed : MethodName := ⟨RX0, "mostMissed", "()I"⟩
def RX1 : String := "StairLight$History"
def TX1 : u_T := fun k => match k with
  | 0 => ("StairLight$History", "states", "[LStairLight$Stairs;", true)
  | 1 => ("StairLight$History", "oldest", "I", false)
  | _ => ("StairLight$History", "held", "I", false)
def tyX1 : Nat → FieldType := fun k => match k with
  | 0 => .array (.object "StairLight$Stairs")
  | 1 => .int
  | _ => .int
abbrev wsX10 : List Cond := u_ws RX1 TX1 3
theorem nmX1 : ∀ a, a < 3 → ∀ b, b < 3 → a ≠ b → (TX1 a).2.1 ≠ (TX1 b).2.1 := by decide +kernel
theorem tyX1_ok : ∀ k, k < 3 → parseFieldDescriptor (TX1 k).2.2.1 = some (tyX1 k) := by decide +kernel
abbrev cX1_init : ByteArray := prog_3_method_1_code
def yX1_init : MethodName := ⟨RX1, "<init>", "()V"⟩
abbrev cX1_save : ByteArray := prog_3_method_2_code
def yX1_save : MethodName := ⟨RX1, "save", "(LStairLight$Stairs;)V"⟩
abbrev cX1_restore : ByteArray := prog_3_method_3_code
def yX1_restore : MethodName := ⟨RX1, "restore", "(LStairLight$Stairs;)V"⟩
abbrev cX1_stateAt : ByteArray := prog_3_method_4_code
def yX1_stateAt : MethodName := ⟨RX1, "stateAt", "(I)LStairLight$Stairs;"⟩
def RX2 : String := "StairLight$People"
def TX2 : u_T := fun k => match k with
  | 0 => ("StairLight$People", "numbers", "[I", true)
  | 1 => ("StairLight$People", "floors", "[I", true)
  | 2 => ("StairLight$People", "goals", "[I", true)
  | 3 => ("StairLight$People", "left", "[I", true)
  | 4 => ("StairLight$People", "onStairs", "I", false)
  | _ => ("StairLight$People", "came", "I", false)
def tyX2 : Nat → FieldType := fun k => match k with
  | 0 => .array .int
  | 1 => .array .int
  | 2 => .array .int
  | 3 => .array .int
  | 4 => .int
  | _ => .int
abbrev wsX20 : List Cond := u_ws RX2 TX2 6
theorem nmX2 : ∀ a, a < 6 → ∀ b, b < 6 → a ≠ b → (TX2 a).2.1 ≠ (TX2 b).2.1 := by decide +kernel
theorem tyX2_ok : ∀ k, k < 6 → parseFieldDescriptor (TX2 k).2.2.1 = some (tyX2 k) := by decide +kernel
abbrev cX2_init : ByteArray := prog_4_method_1_code
def yX2_init : MethodName := ⟨RX2, "<init>", "()V"⟩
abbrev cX2_copyFrom : ByteArray := prog_4_method_2_code
def yX2_copyFrom : MethodName := ⟨RX2, "copyFrom", "(LStairLight$People;)V"⟩
abbrev cX2_enter : ByteArray := prog_4_method_3_code
def yX2_enter : MethodName := ⟨RX2, "enter", "(III)I"⟩
abbrev cX2_sendTo : ByteArray := prog_4_method_4_code
def yX2_sendTo : MethodName := ⟨RX2, "sendTo", "(III)V"⟩
abbrev cX2_isThere : ByteArray := prog_4_method_5_code
def yX2_isThere : MethodName := ⟨RX2, "isThere", "(I)Z"⟩
abbrev cX2_placeOf : ByteArray := prog_4_method_6_code
def yX2_placeOf : MethodName := ⟨RX2, "placeOf", "(I)I"⟩
abbrev cX2_peopleOn : ByteArray := prog_4_method_7_code
def yX2_peopleOn : MethodName := ⟨RX2, "peopleOn", "(I)I"⟩
abbrev cX2_goOn : ByteArray := prog_4_method_8_code
def yX2_goOn : MethodName := ⟨RX2, "goOn", "(I)V"⟩
abbrev cX2_walk : ByteArray := prog_4_method_9_code
def yX2_walk : MethodName := ⟨RX2, "walk", "(II)V"⟩
abbrev cX2_moveUp : ByteArray := prog_4_method_10_code
def yX2_moveUp : MethodName := ⟨RX2, "moveUp", "(II)V"⟩
abbrev cX2_personNumber : ByteArray := prog_4_method_11_code
def yX2_personNumber : MethodName := ⟨RX2, "personNumber", "(II)I"⟩
def RX3 : String := "StairLight$Stairs"
def TX3 : u_T := fun k => match k with
  | 0 => ("StairLight$Stairs", "floors", "LStairLight$Floors;", true)
  | 1 => ("StairLight$Stairs", "people", "LStairLight$People;", true)
  | 2 => ("StairLight$Stairs", "settings", "[I", true)
  | 3 => ("StairLight$Stairs", "isNight", "Z", false)
  | 4 => ("StairLight$Stairs", "isFire", "Z", false)
  | 5 => ("StairLight$Stairs", "seconds", "I", false)
  | _ => ("StairLight$Stairs", "secondsOfPeople", "I", false)
def tyX3 : Nat → FieldType := fun k => match k with
  | 0 => .object "StairLight$Floors"
  | 1 => .object "StairLight$People"
  | 2 => .array .int
  | 3 => .boolean
  | 4 => .boolean
  | 5 => .int
  | _ => .int
abbrev wsX30 : List Cond := u_ws RX3 TX3 7
theorem nmX3 : ∀ a, a < 7 → ∀ b, b < 7 → a ≠ b → (TX3 a).2.1 ≠ (TX3 b).2.1 := by decide +kernel
theorem tyX3_ok : ∀ k, k < 7 → parseFieldDescriptor (TX3 k).2.2.1 = some (tyX3 k) := by decide +kernel
abbrev cX3_init : ByteArray := prog_5_method_1_code
def yX3_init : MethodName := ⟨RX3, "<init>", "()V"⟩
abbrev cX3_copyFrom : ByteArray := prog_5_method_2_code
def yX3_copyFrom : MethodName := ⟨RX3, "copyFrom", "(LStairLight$Stairs;)V"⟩
abbrev cX3_letCome : ByteArray := prog_5_method_3_code
def yX3_letCome : MethodName := ⟨RX3, "letCome", "(II)I"⟩
abbrev cX3_switchOn : ByteArray := prog_5_method_4_code
def yX3_switchOn : MethodName := ⟨RX3, "switchOn", "(I)V"⟩
abbrev cX3_switchAllOn : ByteArray := prog_5_method_5_code
def yX3_switchAllOn : MethodName := ⟨RX3, "switchAllOn", "()V"⟩
abbrev cX3_lampOf : ByteArray := prog_5_method_6_code
def yX3_lampOf : MethodName := ⟨RX3, "lampOf", "(I)I"⟩
abbrev cX3_lampsBurning : ByteArray := prog_5_method_7_code
def yX3_lampsBurning : MethodName := ⟨RX3, "lampsBurning", "()I"⟩
abbrev cX3_letPass : ByteArray := prog_5_method_8_code
def yX3_letPass : MethodName := ⟨RX3, "letPass", "(I)I"⟩
abbrev cX3_beginSecond : ByteArray := prog_5_method_10_code
def yX3_beginSecond : MethodName := ⟨RX3, "beginSecond", "()V"⟩
abbrev cX3_endSecond : ByteArray := prog_5_method_11_code
def yX3_endSecond : MethodName := ⟨RX3, "endSecond", "()V"⟩
abbrev cX3_countSecondOn : ByteArray := prog_5_method_12_code
def yX3_countSecondOn : MethodName := ⟨RX3, "countSecondOn", "(I)V"⟩
abbrev cX3_powerOf : ByteArray := prog_5_method_13_code
def yX3_powerOf : MethodName := ⟨RX3, "powerOf", "(I)I"⟩
abbrev cX3_lightShare : ByteArray := prog_5_method_14_code
def yX3_lightShare : MethodName := ⟨RX3, "lightShare", "()D"⟩
abbrev cX3_floorNumber : ByteArray := prog_5_method_15_code
def yX3_floorNumber : MethodName := ⟨RX3, "floorNumber", "(II)I"⟩
def RX4 : String := "StairLight$Walks"
def TX4 : u_T := fun k => match k with
  | 0 => ("StairLight$Walks", "codes", "[C", true)
  | _ => ("StairLight$Walks", "length", "I", false)
def tyX4 : Nat → FieldType := fun k => match k with
  | 0 => .array .char
  | _ => .int
abbrev wsX40 : List Cond := u_ws RX4 TX4 2
theorem nmX4 : ∀ a, a < 2 → ∀ b, b < 2 → a ≠ b → (TX4 a).2.1 ≠ (TX4 b).2.1 := by decide +kernel
theorem tyX4_ok : ∀ k, k < 2 → parseFieldDescriptor (TX4 k).2.2.1 = some (tyX4 k) := by decide +kernel
abbrev cX4_init : ByteArray := prog_6_method_1_code
def yX4_init : MethodName := ⟨RX4, "<init>", "()V"⟩
def RX5 : String := "StairLight"
def TX5 : u_T := fun k => match k with
  | 0 => ("StairLight", "now", "LStairLight$Stairs;", true)
  | 1 => ("StairLight", "trial", "LStairLight$Stairs;", true)
  | 2 => ("StairLight", "history", "LStairLight$History;", true)
  | _ => ("StairLight", "walks", "LStairLight$Walks;", true)
def tyX5 : Nat → FieldType := fun k => match k with
  | 0 => .object "StairLight$Stairs"
  | 1 => .object "StairLight$Stairs"
  | 2 => .object "StairLight$History"
  | _ => .object "StairLight$Walks"
abbrev wsX50 : List Cond := u_ws RX5 TX5 4
theorem nmX5 : ∀ a, a < 4 → ∀ b, b < 4 → a ≠ b → (TX5 a).2.1 ≠ (TX5 b).2.1 := by decide +kernel
theorem tyX5_ok : ∀ k, k < 4 → parseFieldDescriptor (TX5 k).2.2.1 = some (tyX5 k) := by decide +kernel
abbrev cX5_init : ByteArray := prog_1_method_1_code
def yX5_init : MethodName := ⟨RX5, "<init>", "()V"⟩
abbrev cX5_come : ByteArray := prog_1_method_2_code
def yX5_come : MethodName := ⟨RX5, "come", "(II)I"⟩
abbrev cX5_turn : ByteArray := prog_1_method_3_code
def yX5_turn : MethodName := ⟨RX5, "turn", "(II)I"⟩
abbrev cX5_press : ByteArray := prog_1_method_4_code
def yX5_press : MethodName := ⟨RX5, "press", "(I)I"⟩
abbrev cX5_sensor : ByteArray := prog_1_method_5_code
def yX5_sensor : MethodName := ⟨RX5, "sensor", "(IZ)I"⟩
abbrev cX5_night : ByteArray := prog_1_method_6_code
def yX5_night : MethodName := ⟨RX5, "night", "(Z)I"⟩
abbrev cX5_fire : ByteArray := prog_1_method_7_code
def yX5_fire : MethodName := ⟨RX5, "fire", "(Z)I"⟩
abbrev cX5_set : ByteArray := prog_1_method_8_code
def yX5_set : MethodName := ⟨RX5, "set", "(II)I"⟩
abbrev cX5_pass : ByteArray := prog_1_method_9_code
def yX5_pass : MethodName := ⟨RX5, "pass", "(I)I"⟩
abbrev cX5_undo : ByteArray := prog_1_method_14_code
def yX5_undo : MethodName := ⟨RX5, "undo", "()I"⟩
abbrev cX5_floor : ByteArray := prog_1_method_15_code
def yX5_floor : MethodName := ⟨RX5, "floor", "(II)I"⟩
abbrev cX5_person : ByteArray := prog_1_method_16_code
def yX5_person : MethodName := ⟨RX5, "person", "(II)I"⟩
abbrev cX5_count : ByteArray := prog_1_method_17_code
def yX5_count : MethodName := ⟨RX5, "count", "(I)I"⟩
abbrev cX5_setting : ByteArray := prog_1_method_18_code
def yX5_setting : MethodName := ⟨RX5, "setting", "(I)I"⟩
abbrev cX5_ifPassed : ByteArray := prog_1_method_19_code
def yX5_ifPassed : MethodName := ⟨RX5, "ifPassed", "(II)I"⟩
abbrev cX5_dark : ByteArray := prog_1_method_20_code
def yX5_dark : MethodName := ⟨RX5, "dark", "(II)I"⟩
abbrev cX5_worst : ByteArray := prog_1_method_22_code
def yX5_worst : MethodName := ⟨RX5, "worst", "()I"⟩
abbrev cX5_lightness : ByteArray := prog_1_method_23_code
def yX5_lightness : MethodName := ⟨RX5, "lightness", "()D"⟩
abbrev cX5_checkFloor : ByteArray := prog_1_method_25_code
def yX5_checkFloor : MethodName := ⟨RX5, "checkFloor", "(I)V"⟩
abbrev cX5_checkWay : ByteArray := prog_1_method_26_code
def yX5_checkWay : MethodName := ⟨RX5, "checkWay", "(II)V"⟩
abbrev cX5_checkSetting : ByteArray := prog_1_method_27_code
def yX5_checkSetting : MethodName := ⟨RX5, "checkSetting", "(I)V"⟩
abbrev cX5_checkSeconds : ByteArray := prog_1_method_28_code
def yX5_checkSeconds : MethodName := ⟨RX5, "checkSeconds", "(I)V"⟩
abbrev cX5_checkWhat : ByteArray := prog_1_method_29_code
def yX5_checkWhat : MethodName := ⟨RX5, "checkWhat", "(II)V"⟩
abbrev cX5_counted : ByteArray := prog_1_method_30_code
def yX5_counted : MethodName := ⟨RX5, "counted", "(I)I"⟩
abbrev cX5_outlook : ByteArray := prog_1_method_31_code
def yX5_outlook : MethodName := ⟨RX5, "outlook", "(II)I"⟩
abbrev cX5_darkWith : ByteArray := prog_1_method_32_code
def yX5_darkWith : MethodName := ⟨RX5, "darkWith", "(III)I"⟩
abbrev cX5_at : ByteArray := prog_1_method_39_code
def yX5_at : MethodName := ⟨RX5, "at", "([II)I"⟩
abbrev cX5_put : ByteArray := prog_1_method_40_code
def yX5_put : MethodName := ⟨RX5, "put", "([III)V"⟩
abbrev cX5_raise : ByteArray := prog_1_method_41_code
def yX5_raise : MethodName := ⟨RX5, "raise", "([III)V"⟩
abbrev cX5_sumOf : ByteArray := prog_1_method_42_code
def yX5_sumOf : MethodName := ⟨RX5, "sumOf", "([I)I"⟩
abbrev cX5_copyRow : ByteArray := prog_1_method_43_code
def yX5_copyRow : MethodName := ⟨RX5, "copyRow", "([I[I)V"⟩
abbrev cX5_numberOf : ByteArray := prog_1_method_44_code
def yX5_numberOf : MethodName := ⟨RX5, "numberOf", "(Z)I"⟩
def RX6 : String := "StairLightModel"
def TX6 : u_T := fun k => match k with
  | _ => ("", "", "", false)
def tyX6 : Nat → FieldType := fun k => match k with
  | _ => .int
abbrev wsX60 : List Cond := u_ws RX6 TX6 0
theorem nmX6 : ∀ a, a < 0 → ∀ b, b < 0 → a ≠ b → (TX6 a).2.1 ≠ (TX6 b).2.1 := by decide +kernel
theorem tyX6_ok : ∀ k, k < 0 → parseFieldDescriptor (TX6 k).2.2.1 = some (tyX6 k) := by decide +kernel
def RJ0 : String := "java/lang/String"
def TJ0 : u_T := fun k => match k with
  | _ => ("", "", "", false)
def tyJ0 : Nat → FieldType := fun k => match k with
  | _ => .int
abbrev wsJ00 : List Cond := u_ws RJ0 TJ0 0
theorem nmJ0 : ∀ a, a < 0 → ∀ b, b < 0 → a ≠ b → (TJ0 a).2.1 ≠ (TJ0 b).2.1 := by decide +kernel
theorem tyJ0_ok : ∀ k, k < 0 → parseFieldDescriptor (TJ0 k).2.2.1 = some (tyJ0 k) := by decide +kernel
def RL : String := "StairLightLaw"
abbrev cL_low : ByteArray := method_2_code
def yL_low : MethodName := ⟨RL, "low", "(II)I"⟩
abbrev cL_cell : ByteArray := method_3_code
def yL_cell : MethodName := ⟨RL, "cell", "([II)I"⟩
abbrev cL_come : ByteArray := method_4_code
def yL_come : MethodName := ⟨RL, "come", "(LStairLight;II)I"⟩
abbrev cL_undo : ByteArray := method_5_code
def yL_undo : MethodName := ⟨RL, "undo", "(LStairLight;)I"⟩
abbrev cL_turn : ByteArray := method_6_code
def yL_turn : MethodName := ⟨RL, "turn", "(LStairLight;II)I"⟩
abbrev cL_stairs : ByteArray := method_7_code
def yL_stairs : MethodName := ⟨RL, "stairs", "(LStairLight;)Z"⟩
abbrev cL_act : ByteArray := method_8_code
def yL_act : MethodName := ⟨RL, "act", "(LStairLight;[II)I"⟩
abbrev cL_law : ByteArray := code
def yL_law : MethodName := ⟨RL, "law", "([I)Z"⟩
abbrev vwCl : List vw_C := [(RX0, TX0, 6), (RX1, TX1, 3), (RX2, TX2, 6), (RX3, TX3, 7), (RX4, TX4, 2), (RX5, TX5, 4)]
/-- the tables' words that a run keeps -/
def sv_tbl : List Cond := lw_tbl.filter goodWord
theorem sv_in {w : Cond} (i : Nat) (h : lw_tbl[i]? = some w) (hg : goodWord w = true) : w ∈ sv_tbl := List.mem_filter.mpr ⟨List.mem_of_getElem? h, hg⟩
theorem kw_1 : Cond.selects RX5 yX5_counted yX5_counted ∈ sv_tbl := sv_in 1 (by decide +kernel) rfl
theorem kw_2 : Cond.selects RX5 yX5_outlook yX5_outlook ∈ sv_tbl := sv_in 2 (by decide +kernel) rfl
theorem kw_3 : Cond.selects RX2 yX2_walk yX2_walk ∈ sv_tbl := sv_in 3 (by decide +kernel) rfl
theorem kw_4 : Cond.selects RX2 yX2_moveUp yX2_moveUp ∈ sv_tbl := sv_in 4 (by decide +kernel) rfl
theorem kw_5 : Cond.selects RX3 yX3_countSecondOn yX3_countSecondOn ∈ sv_tbl := sv_in 5 (by decide +kernel) rfl
theorem kw_6 : Cond.selects RX5 yX5_darkWith yX5_darkWith ∈ sv_tbl := sv_in 6 (by decide +kernel) rfl
theorem kw_7 : Cond.selects RX1 yX1_stateAt yX1_stateAt ∈ sv_tbl := sv_in 7 (by decide +kernel) rfl
theorem kw_8 : Cond.initialized RL ∈ sv_tbl := sv_in 8 (by decide +kernel) rfl
theorem kw_9 : Cond.initialized RX5 ∈ sv_tbl := sv_in 9 (by decide +kernel) rfl
theorem kw_10 : Cond.initialized RX3 ∈ sv_tbl := sv_in 10 (by decide +kernel) rfl
theorem kw_11 : Cond.initialized RX0 ∈ sv_tbl := sv_in 11 (by decide +kernel) rfl
theorem kw_12 : Cond.initialized RX2 ∈ sv_tbl := sv_in 12 (by decide +kernel) rfl
theorem kw_13 : Cond.initialized RX1 ∈ sv_tbl := sv_in 13 (by decide +kernel) rfl
theorem kw_14 : Cond.initialized RX4 ∈ sv_tbl := sv_in 14 (by decide +kernel) rfl
theorem kw_15 : Cond.initialized "java/lang/Throwable" ∈ sv_tbl := sv_in 15 (by decide +kernel) rfl
theorem kw_16 : Cond.initialized "java/lang/Exception" ∈ sv_tbl := sv_in 16 (by decide +kernel) rfl
theorem kw_17 : Cond.initialized "java/lang/RuntimeException" ∈ sv_tbl := sv_in 17 (by decide +kernel) rfl
theorem kw_18 : Cond.initialized "java/lang/IllegalArgumentException" ∈ sv_tbl := sv_in 18 (by decide +kernel) rfl
theorem kw_19 : Cond.initialized "java/lang/IndexOutOfBoundsException" ∈ sv_tbl := sv_in 19 (by decide +kernel) rfl
theorem kw_20 : Cond.initialized "java/lang/IllegalStateException" ∈ sv_tbl := sv_in 20 (by decide +kernel) rfl
theorem kw_21 : Cond.classLink RL 10 RX5 ∈ sv_tbl := sv_in 21 (by decide +kernel) rfl
theorem kw_22 : Cond.instantiable RX5 4 ∈ sv_tbl := sv_in 22 (by decide +kernel) rfl
theorem kw_23 : Cond.methodLink RL 83 yX5_init ∈ sv_tbl := sv_in 23 (by decide +kernel) rfl
theorem kw_24 : Cond.instanceMethod yX5_init ∈ sv_tbl := sv_in 24 (by decide +kernel) rfl
theorem kw_25 : Cond.code yX5_init cX5_init 1 none ∈ sv_tbl := sv_in 25 (by decide +kernel) rfl
theorem kw_26 : Cond.methodLink RX5 1 Lib.objectInit ∈ sv_tbl := sv_in 26 (by decide +kernel) rfl
theorem kw_27 : Cond.instanceMethod Lib.objectInit ∈ sv_tbl := sv_in 27 (by decide +kernel) rfl
theorem kw_28 : Cond.code Lib.objectInit ⟨#[0xb1]⟩ 1 none ∈ sv_tbl := sv_in 28 (by decide +kernel) rfl
theorem kw_29 : Cond.classLink RX5 7 RX3 ∈ sv_tbl := sv_in 29 (by decide +kernel) rfl
theorem kw_30 : Cond.instantiable RX3 7 ∈ sv_tbl := sv_in 30 (by decide +kernel) rfl
theorem kw_31 : Cond.methodLink RX5 9 yX3_init ∈ sv_tbl := sv_in 31 (by decide +kernel) rfl
theorem kw_32 : Cond.instanceMethod yX3_init ∈ sv_tbl := sv_in 32 (by decide +kernel) rfl
theorem kw_33 : Cond.code yX3_init cX3_init 1 none ∈ sv_tbl := sv_in 33 (by decide +kernel) rfl
theorem kw_34 : Cond.methodLink RX3 3 Lib.objectInit ∈ sv_tbl := sv_in 34 (by decide +kernel) rfl
theorem kw_35 : Cond.classLink RX3 9 RX0 ∈ sv_tbl := sv_in 35 (by decide +kernel) rfl
theorem kw_36 : Cond.instantiable RX0 6 ∈ sv_tbl := sv_in 36 (by decide +kernel) rfl
theorem kw_37 : Cond.methodLink RX3 11 yX0_init ∈ sv_tbl := sv_in 37 (by decide +kernel) rfl
theorem kw_38 : Cond.instanceMethod yX0_init ∈ sv_tbl := sv_in 38 (by decide +kernel) rfl
theorem kw_39 : Cond.code yX0_init cX0_init 2 none ∈ sv_tbl := sv_in 39 (by decide +kernel) rfl
theorem kw_40 : Cond.methodLink RX0 3 Lib.objectInit ∈ sv_tbl := sv_in 40 (by decide +kernel) rfl
theorem kw_41 : Cond.fieldLink RX0 9 "StairLight$Floors" "burning" "[I" ∈ sv_tbl := sv_in 41 (by decide +kernel) rfl
theorem kw_42 : Cond.fieldLink RX5 94 "StairLight$Floors" "burning" "[I" ∈ sv_tbl := sv_in 42 (by decide +kernel) rfl
theorem kw_43 : Cond.fieldLink RX3 73 "StairLight$Floors" "burning" "[I" ∈ sv_tbl := sv_in 43 (by decide +kernel) rfl
theorem kw_44 : Cond.fieldLink RX0 15 "StairLight$Floors" "sound" "[I" ∈ sv_tbl := sv_in 44 (by decide +kernel) rfl
theorem kw_45 : Cond.fieldLink RX5 102 "StairLight$Floors" "sound" "[I" ∈ sv_tbl := sv_in 45 (by decide +kernel) rfl
theorem kw_46 : Cond.fieldLink RX3 102 "StairLight$Floors" "sound" "[I" ∈ sv_tbl := sv_in 46 (by decide +kernel) rfl
theorem kw_47 : Cond.fieldLink RX0 18 "StairLight$Floors" "darkSeconds" "[I" ∈ sv_tbl := sv_in 47 (by decide +kernel) rfl
theorem kw_48 : Cond.fieldLink RX3 80 "StairLight$Floors" "darkSeconds" "[I" ∈ sv_tbl := sv_in 48 (by decide +kernel) rfl
theorem kw_49 : Cond.fieldLink RX5 260 "StairLight$Floors" "darkSeconds" "[I" ∈ sv_tbl := sv_in 49 (by decide +kernel) rfl
theorem kw_50 : Cond.fieldLink RX0 21 "StairLight$Floors" "dimSeconds" "[I" ∈ sv_tbl := sv_in 50 (by decide +kernel) rfl
theorem kw_51 : Cond.fieldLink RX3 126 "StairLight$Floors" "dimSeconds" "[I" ∈ sv_tbl := sv_in 51 (by decide +kernel) rfl
theorem kw_52 : Cond.fieldLink RX5 267 "StairLight$Floors" "dimSeconds" "[I" ∈ sv_tbl := sv_in 52 (by decide +kernel) rfl
theorem kw_53 : Cond.fieldLink RX0 24 "StairLight$Floors" "energy" "[I" ∈ sv_tbl := sv_in 53 (by decide +kernel) rfl
theorem kw_54 : Cond.fieldLink RX3 113 "StairLight$Floors" "energy" "[I" ∈ sv_tbl := sv_in 54 (by decide +kernel) rfl
theorem kw_55 : Cond.fieldLink RX5 270 "StairLight$Floors" "energy" "[I" ∈ sv_tbl := sv_in 55 (by decide +kernel) rfl
theorem kw_56 : Cond.fieldLink RX0 27 "StairLight$Floors" "kindled" "[I" ∈ sv_tbl := sv_in 56 (by decide +kernel) rfl
theorem kw_57 : Cond.fieldLink RX3 129 "StairLight$Floors" "kindled" "[I" ∈ sv_tbl := sv_in 57 (by decide +kernel) rfl
theorem kw_58 : Cond.laysFinal RX0 "StairLight$Floors" "burning" "[I" ∈ sv_tbl := sv_in 58 (by decide +kernel) rfl
theorem kw_60 : Cond.laysFinal RX0 "StairLight$Floors" "sound" "[I" ∈ sv_tbl := sv_in 60 (by decide +kernel) rfl
theorem kw_62 : Cond.laysFinal RX0 "StairLight$Floors" "darkSeconds" "[I" ∈ sv_tbl := sv_in 62 (by decide +kernel) rfl
theorem kw_64 : Cond.laysFinal RX0 "StairLight$Floors" "dimSeconds" "[I" ∈ sv_tbl := sv_in 64 (by decide +kernel) rfl
theorem kw_66 : Cond.laysFinal RX0 "StairLight$Floors" "energy" "[I" ∈ sv_tbl := sv_in 66 (by decide +kernel) rfl
theorem kw_68 : Cond.laysFinal RX0 "StairLight$Floors" "kindled" "[I" ∈ sv_tbl := sv_in 68 (by decide +kernel) rfl
theorem kw_71 : Cond.arrayClass .int ∈ sv_tbl := sv_in 71 (by decide +kernel) rfl
theorem kw_72 : Cond.classLink RX3 18 RX2 ∈ sv_tbl := sv_in 72 (by decide +kernel) rfl
theorem kw_73 : Cond.instantiable RX2 6 ∈ sv_tbl := sv_in 73 (by decide +kernel) rfl
theorem kw_74 : Cond.methodLink RX3 20 yX2_init ∈ sv_tbl := sv_in 74 (by decide +kernel) rfl
theorem kw_75 : Cond.instanceMethod yX2_init ∈ sv_tbl := sv_in 75 (by decide +kernel) rfl
theorem kw_76 : Cond.code yX2_init cX2_init 1 none ∈ sv_tbl := sv_in 76 (by decide +kernel) rfl
theorem kw_77 : Cond.methodLink RX2 3 Lib.objectInit ∈ sv_tbl := sv_in 77 (by decide +kernel) rfl
theorem kw_78 : Cond.fieldLink RX2 9 "StairLight$People" "numbers" "[I" ∈ sv_tbl := sv_in 78 (by decide +kernel) rfl
theorem kw_79 : Cond.fieldLink RX2 15 "StairLight$People" "floors" "[I" ∈ sv_tbl := sv_in 79 (by decide +kernel) rfl
theorem kw_80 : Cond.fieldLink RX3 108 "StairLight$People" "floors" "[I" ∈ sv_tbl := sv_in 80 (by decide +kernel) rfl
theorem kw_81 : Cond.fieldLink RX5 279 "StairLight$People" "floors" "[I" ∈ sv_tbl := sv_in 81 (by decide +kernel) rfl
theorem kw_82 : Cond.fieldLink RX2 18 "StairLight$People" "goals" "[I" ∈ sv_tbl := sv_in 82 (by decide +kernel) rfl
theorem kw_83 : Cond.fieldLink RX5 75 "StairLight$People" "goals" "[I" ∈ sv_tbl := sv_in 83 (by decide +kernel) rfl
theorem kw_84 : Cond.fieldLink RX2 21 "StairLight$People" "left" "[I" ∈ sv_tbl := sv_in 84 (by decide +kernel) rfl
theorem kw_85 : Cond.fieldLink RX2 24 "StairLight$People" "onStairs" "I" ∈ sv_tbl := sv_in 85 (by decide +kernel) rfl
theorem kw_86 : Cond.fieldLink RX5 41 "StairLight$People" "onStairs" "I" ∈ sv_tbl := sv_in 86 (by decide +kernel) rfl
theorem kw_87 : Cond.fieldLink RX3 93 "StairLight$People" "onStairs" "I" ∈ sv_tbl := sv_in 87 (by decide +kernel) rfl
theorem kw_88 : Cond.fieldLink RX2 28 "StairLight$People" "came" "I" ∈ sv_tbl := sv_in 88 (by decide +kernel) rfl
theorem kw_89 : Cond.fieldLink RX5 254 "StairLight$People" "came" "I" ∈ sv_tbl := sv_in 89 (by decide +kernel) rfl
theorem kw_90 : Cond.laysFinal RX2 "StairLight$People" "numbers" "[I" ∈ sv_tbl := sv_in 90 (by decide +kernel) rfl
theorem kw_92 : Cond.laysFinal RX2 "StairLight$People" "floors" "[I" ∈ sv_tbl := sv_in 92 (by decide +kernel) rfl
theorem kw_94 : Cond.laysFinal RX2 "StairLight$People" "goals" "[I" ∈ sv_tbl := sv_in 94 (by decide +kernel) rfl
theorem kw_96 : Cond.laysFinal RX2 "StairLight$People" "left" "[I" ∈ sv_tbl := sv_in 96 (by decide +kernel) rfl
theorem kw_98 : Cond.lays RX2 "StairLight$People" "onStairs" "I" ∈ sv_tbl := sv_in 98 (by decide +kernel) rfl
theorem kw_100 : Cond.lays RX2 "StairLight$People" "came" "I" ∈ sv_tbl := sv_in 100 (by decide +kernel) rfl
theorem kw_106 : Cond.static yX5_copyRow ∈ sv_tbl := sv_in 106 (by decide +kernel) rfl
theorem kw_107 : Cond.code yX5_copyRow cX5_copyRow 3 none ∈ sv_tbl := sv_in 107 (by decide +kernel) rfl
theorem kw_108 : Cond.fieldLink RX3 12 "StairLight$Stairs" "floors" "LStairLight$Floors;" ∈ sv_tbl := sv_in 108 (by decide +kernel) rfl
theorem kw_109 : Cond.fieldLink RX5 90 "StairLight$Stairs" "floors" "LStairLight$Floors;" ∈ sv_tbl := sv_in 109 (by decide +kernel) rfl
theorem kw_110 : Cond.fieldLink RX3 21 "StairLight$Stairs" "people" "LStairLight$People;" ∈ sv_tbl := sv_in 110 (by decide +kernel) rfl
theorem kw_111 : Cond.fieldLink RX5 37 "StairLight$Stairs" "people" "LStairLight$People;" ∈ sv_tbl := sv_in 111 (by decide +kernel) rfl
theorem kw_112 : Cond.fieldLink RX3 29 "StairLight$Stairs" "settings" "[I" ∈ sv_tbl := sv_in 112 (by decide +kernel) rfl
theorem kw_113 : Cond.fieldLink RX5 83 "StairLight$Stairs" "settings" "[I" ∈ sv_tbl := sv_in 113 (by decide +kernel) rfl
theorem kw_114 : Cond.fieldLink RX3 36 "StairLight$Stairs" "isNight" "Z" ∈ sv_tbl := sv_in 114 (by decide +kernel) rfl
theorem kw_115 : Cond.fieldLink RX5 113 "StairLight$Stairs" "isNight" "Z" ∈ sv_tbl := sv_in 115 (by decide +kernel) rfl
theorem kw_116 : Cond.fieldLink RX3 40 "StairLight$Stairs" "isFire" "Z" ∈ sv_tbl := sv_in 116 (by decide +kernel) rfl
theorem kw_117 : Cond.fieldLink RX5 117 "StairLight$Stairs" "isFire" "Z" ∈ sv_tbl := sv_in 117 (by decide +kernel) rfl
theorem kw_118 : Cond.fieldLink RX3 43 "StairLight$Stairs" "seconds" "I" ∈ sv_tbl := sv_in 118 (by decide +kernel) rfl
theorem kw_119 : Cond.fieldLink RX5 251 "StairLight$Stairs" "seconds" "I" ∈ sv_tbl := sv_in 119 (by decide +kernel) rfl
theorem kw_120 : Cond.fieldLink RX3 47 "StairLight$Stairs" "secondsOfPeople" "I" ∈ sv_tbl := sv_in 120 (by decide +kernel) rfl
theorem kw_121 : Cond.laysFinal RX3 "StairLight$Stairs" "floors" "LStairLight$Floors;" ∈ sv_tbl := sv_in 121 (by decide +kernel) rfl
theorem kw_123 : Cond.laysFinal RX3 "StairLight$Stairs" "people" "LStairLight$People;" ∈ sv_tbl := sv_in 123 (by decide +kernel) rfl
theorem kw_125 : Cond.laysFinal RX3 "StairLight$Stairs" "settings" "[I" ∈ sv_tbl := sv_in 125 (by decide +kernel) rfl
theorem kw_127 : Cond.lays RX3 "StairLight$Stairs" "isNight" "Z" ∈ sv_tbl := sv_in 127 (by decide +kernel) rfl
theorem kw_129 : Cond.lays RX3 "StairLight$Stairs" "isFire" "Z" ∈ sv_tbl := sv_in 129 (by decide +kernel) rfl
theorem kw_131 : Cond.lays RX3 "StairLight$Stairs" "seconds" "I" ∈ sv_tbl := sv_in 131 (by decide +kernel) rfl
theorem kw_133 : Cond.lays RX3 "StairLight$Stairs" "secondsOfPeople" "I" ∈ sv_tbl := sv_in 133 (by decide +kernel) rfl
theorem kw_136 : Cond.classLink RX5 19 RX1 ∈ sv_tbl := sv_in 136 (by decide +kernel) rfl
theorem kw_137 : Cond.instantiable RX1 3 ∈ sv_tbl := sv_in 137 (by decide +kernel) rfl
theorem kw_138 : Cond.methodLink RX5 21 yX1_init ∈ sv_tbl := sv_in 138 (by decide +kernel) rfl
theorem kw_139 : Cond.instanceMethod yX1_init ∈ sv_tbl := sv_in 139 (by decide +kernel) rfl
theorem kw_140 : Cond.code yX1_init cX1_init 2 none ∈ sv_tbl := sv_in 140 (by decide +kernel) rfl
theorem kw_141 : Cond.methodLink RX1 3 Lib.objectInit ∈ sv_tbl := sv_in 141 (by decide +kernel) rfl
theorem kw_142 : Cond.classLink RX1 9 RX3 ∈ sv_tbl := sv_in 142 (by decide +kernel) rfl
theorem kw_144 : Cond.methodLink RX1 17 yX3_init ∈ sv_tbl := sv_in 144 (by decide +kernel) rfl
theorem kw_145 : Cond.fieldLink RX1 11 "StairLight$History" "states" "[LStairLight$Stairs;" ∈ sv_tbl := sv_in 145 (by decide +kernel) rfl
theorem kw_146 : Cond.fieldLink RX1 18 "StairLight$History" "oldest" "I" ∈ sv_tbl := sv_in 146 (by decide +kernel) rfl
theorem kw_147 : Cond.fieldLink RX1 22 "StairLight$History" "held" "I" ∈ sv_tbl := sv_in 147 (by decide +kernel) rfl
theorem kw_148 : Cond.fieldLink RX5 179 "StairLight$History" "held" "I" ∈ sv_tbl := sv_in 148 (by decide +kernel) rfl
theorem kw_149 : Cond.laysFinal RX1 "StairLight$History" "states" "[LStairLight$Stairs;" ∈ sv_tbl := sv_in 149 (by decide +kernel) rfl
theorem kw_151 : Cond.lays RX1 "StairLight$History" "oldest" "I" ∈ sv_tbl := sv_in 151 (by decide +kernel) rfl
theorem kw_153 : Cond.lays RX1 "StairLight$History" "held" "I" ∈ sv_tbl := sv_in 153 (by decide +kernel) rfl
theorem kw_156 : Cond.classLink RX5 26 RX4 ∈ sv_tbl := sv_in 156 (by decide +kernel) rfl
theorem kw_157 : Cond.instantiable RX4 2 ∈ sv_tbl := sv_in 157 (by decide +kernel) rfl
theorem kw_158 : Cond.methodLink RX5 28 yX4_init ∈ sv_tbl := sv_in 158 (by decide +kernel) rfl
theorem kw_159 : Cond.instanceMethod yX4_init ∈ sv_tbl := sv_in 159 (by decide +kernel) rfl
theorem kw_160 : Cond.code yX4_init cX4_init 1 none ∈ sv_tbl := sv_in 160 (by decide +kernel) rfl
theorem kw_161 : Cond.methodLink RX4 3 Lib.objectInit ∈ sv_tbl := sv_in 161 (by decide +kernel) rfl
theorem kw_162 : Cond.fieldLink RX4 9 "StairLight$Walks" "codes" "[C" ∈ sv_tbl := sv_in 162 (by decide +kernel) rfl
theorem kw_163 : Cond.fieldLink RX4 15 "StairLight$Walks" "length" "I" ∈ sv_tbl := sv_in 163 (by decide +kernel) rfl
theorem kw_164 : Cond.laysFinal RX4 "StairLight$Walks" "codes" "[C" ∈ sv_tbl := sv_in 164 (by decide +kernel) rfl
theorem kw_166 : Cond.lays RX4 "StairLight$Walks" "length" "I" ∈ sv_tbl := sv_in 166 (by decide +kernel) rfl
theorem kw_169 : Cond.arrayClass .char ∈ sv_tbl := sv_in 169 (by decide +kernel) rfl
theorem kw_170 : Cond.fieldLink RX5 10 "StairLight" "now" "LStairLight$Stairs;" ∈ sv_tbl := sv_in 170 (by decide +kernel) rfl
theorem kw_171 : Cond.fieldLink RX5 16 "StairLight" "trial" "LStairLight$Stairs;" ∈ sv_tbl := sv_in 171 (by decide +kernel) rfl
theorem kw_172 : Cond.fieldLink RX5 22 "StairLight" "history" "LStairLight$History;" ∈ sv_tbl := sv_in 172 (by decide +kernel) rfl
theorem kw_173 : Cond.fieldLink RX5 29 "StairLight" "walks" "LStairLight$Walks;" ∈ sv_tbl := sv_in 173 (by decide +kernel) rfl
theorem kw_174 : Cond.laysFinal RX5 "StairLight" "now" "LStairLight$Stairs;" ∈ sv_tbl := sv_in 174 (by decide +kernel) rfl
theorem kw_176 : Cond.laysFinal RX5 "StairLight" "trial" "LStairLight$Stairs;" ∈ sv_tbl := sv_in 176 (by decide +kernel) rfl
theorem kw_178 : Cond.laysFinal RX5 "StairLight" "history" "LStairLight$History;" ∈ sv_tbl := sv_in 178 (by decide +kernel) rfl
theorem kw_180 : Cond.laysFinal RX5 "StairLight" "walks" "LStairLight$Walks;" ∈ sv_tbl := sv_in 180 (by decide +kernel) rfl
theorem kw_183 : Cond.methodLink RL 26 yX5_floor ∈ sv_tbl := sv_in 183 (by decide +kernel) rfl
theorem kw_184 : Cond.instanceMethod yX5_floor ∈ sv_tbl := sv_in 184 (by decide +kernel) rfl
theorem kw_185 : Cond.selects RX5 yX5_floor yX5_floor ∈ sv_tbl := sv_in 185 (by decide +kernel) rfl
theorem kw_186 : Cond.code yX5_floor cX5_floor 3 (some .int) ∈ sv_tbl := sv_in 186 (by decide +kernel) rfl
theorem kw_187 : Cond.methodLink RX5 71 yX5_checkFloor ∈ sv_tbl := sv_in 187 (by decide +kernel) rfl
theorem kw_188 : Cond.static yX5_checkFloor ∈ sv_tbl := sv_in 188 (by decide +kernel) rfl
theorem kw_189 : Cond.code yX5_checkFloor cX5_checkFloor 1 none ∈ sv_tbl := sv_in 189 (by decide +kernel) rfl
theorem kw_190 : Cond.classLink RX5 66 "java/lang/IndexOutOfBoundsException" ∈ sv_tbl := sv_in 190 (by decide +kernel) rfl
theorem kw_191 : Cond.instantiable "java/lang/IndexOutOfBoundsException" 6 ∈ sv_tbl := sv_in 191 (by decide +kernel) rfl
theorem kw_213 : Cond.instanceMethod (⟨"java/lang/Throwable", "<init>", "()V"⟩ : MethodName) ∈ sv_tbl := sv_in 213 (by decide +kernel) rfl
theorem kw_221 : Cond.instanceMethod (⟨"java/lang/Throwable", "fillInStackTrace", "()Ljava/lang/Throwable;"⟩ : MethodName) ∈ sv_tbl := sv_in 221 (by decide +kernel) rfl
theorem kw_228 : Cond.instanceMethod (⟨"java/lang/Throwable", "fillInStackTrace", "(I)Ljava/lang/Throwable;"⟩ : MethodName) ∈ sv_tbl := sv_in 228 (by decide +kernel) rfl
theorem kw_229 : Cond.instantiable "java/lang/Throwable" 6 ∈ sv_tbl := sv_in 229 (by decide +kernel) rfl
theorem kw_232 : Cond.methodLink RX5 70 ⟨"java/lang/IndexOutOfBoundsException", "<init>", "(Ljava/lang/String;)V"⟩ ∈ sv_tbl := sv_in 232 (by decide +kernel) rfl
theorem kw_233 : Cond.instanceMethod (⟨"java/lang/IndexOutOfBoundsException", "<init>", "(Ljava/lang/String;)V"⟩ : MethodName) ∈ sv_tbl := sv_in 233 (by decide +kernel) rfl
theorem kw_236 : Cond.instanceMethod (⟨"java/lang/RuntimeException", "<init>", "(Ljava/lang/String;)V"⟩ : MethodName) ∈ sv_tbl := sv_in 236 (by decide +kernel) rfl
theorem kw_239 : Cond.instanceMethod (⟨"java/lang/Exception", "<init>", "(Ljava/lang/String;)V"⟩ : MethodName) ∈ sv_tbl := sv_in 239 (by decide +kernel) rfl
theorem kw_242 : Cond.instanceMethod (⟨"java/lang/Throwable", "<init>", "(Ljava/lang/String;)V"⟩ : MethodName) ∈ sv_tbl := sv_in 242 (by decide +kernel) rfl
theorem kw_257 : Cond.arrayClass .byte ∈ sv_tbl := sv_in 257 (by decide +kernel) rfl
theorem kw_258 : Cond.methodLink RX5 187 yX5_checkWhat ∈ sv_tbl := sv_in 258 (by decide +kernel) rfl
theorem kw_259 : Cond.static yX5_checkWhat ∈ sv_tbl := sv_in 259 (by decide +kernel) rfl
theorem kw_260 : Cond.code yX5_checkWhat cX5_checkWhat 2 none ∈ sv_tbl := sv_in 260 (by decide +kernel) rfl
theorem kw_261 : Cond.classLink RX5 132 "java/lang/IllegalArgumentException" ∈ sv_tbl := sv_in 261 (by decide +kernel) rfl
theorem kw_262 : Cond.instantiable "java/lang/IllegalArgumentException" 6 ∈ sv_tbl := sv_in 262 (by decide +kernel) rfl
theorem kw_271 : Cond.methodLink RX5 136 ⟨"java/lang/IllegalArgumentException", "<init>", "(Ljava/lang/String;)V"⟩ ∈ sv_tbl := sv_in 271 (by decide +kernel) rfl
theorem kw_272 : Cond.instanceMethod (⟨"java/lang/IllegalArgumentException", "<init>", "(Ljava/lang/String;)V"⟩ : MethodName) ∈ sv_tbl := sv_in 272 (by decide +kernel) rfl
theorem kw_277 : Cond.methodLink RX5 190 yX3_floorNumber ∈ sv_tbl := sv_in 277 (by decide +kernel) rfl
theorem kw_278 : Cond.instanceMethod yX3_floorNumber ∈ sv_tbl := sv_in 278 (by decide +kernel) rfl
theorem kw_279 : Cond.selects RX3 yX3_floorNumber yX3_floorNumber ∈ sv_tbl := sv_in 279 (by decide +kernel) rfl
theorem kw_280 : Cond.code yX3_floorNumber cX3_floorNumber 3 (some .int) ∈ sv_tbl := sv_in 280 (by decide +kernel) rfl
theorem kw_281 : Cond.methodLink RX3 76 yX3_lampOf ∈ sv_tbl := sv_in 281 (by decide +kernel) rfl
theorem kw_282 : Cond.instanceMethod yX3_lampOf ∈ sv_tbl := sv_in 282 (by decide +kernel) rfl
theorem kw_283 : Cond.selects RX3 yX3_lampOf yX3_lampOf ∈ sv_tbl := sv_in 283 (by decide +kernel) rfl
theorem kw_284 : Cond.code yX3_lampOf cX3_lampOf 3 (some .int) ∈ sv_tbl := sv_in 284 (by decide +kernel) rfl
theorem kw_286 : Cond.static yX5_at ∈ sv_tbl := sv_in 286 (by decide +kernel) rfl
theorem kw_287 : Cond.code yX5_at cX5_at 2 (some .int) ∈ sv_tbl := sv_in 287 (by decide +kernel) rfl
theorem kw_288 : Cond.methodLink RX3 105 yX2_peopleOn ∈ sv_tbl := sv_in 288 (by decide +kernel) rfl
theorem kw_289 : Cond.instanceMethod yX2_peopleOn ∈ sv_tbl := sv_in 289 (by decide +kernel) rfl
theorem kw_290 : Cond.selects RX2 yX2_peopleOn yX2_peopleOn ∈ sv_tbl := sv_in 290 (by decide +kernel) rfl
theorem kw_291 : Cond.code yX2_peopleOn cX2_peopleOn 4 (some .int) ∈ sv_tbl := sv_in 291 (by decide +kernel) rfl
theorem kw_293 : Cond.methodLink RL 29 yX5_count ∈ sv_tbl := sv_in 293 (by decide +kernel) rfl
theorem kw_294 : Cond.instanceMethod yX5_count ∈ sv_tbl := sv_in 294 (by decide +kernel) rfl
theorem kw_295 : Cond.selects RX5 yX5_count yX5_count ∈ sv_tbl := sv_in 295 (by decide +kernel) rfl
theorem kw_296 : Cond.code yX5_count cX5_count 2 (some .int) ∈ sv_tbl := sv_in 296 (by decide +kernel) rfl
theorem kw_297 : Cond.methodLink RX5 198 yX5_counted ∈ sv_tbl := sv_in 297 (by decide +kernel) rfl
theorem kw_299 : Cond.instanceMethod yX5_counted ∈ sv_tbl := sv_in 299 (by decide +kernel) rfl
theorem kw_300 : Cond.code yX5_counted cX5_counted 2 (some .int) ∈ sv_tbl := sv_in 300 (by decide +kernel) rfl
theorem kw_301 : Cond.methodLink RX5 257 yX3_lampsBurning ∈ sv_tbl := sv_in 301 (by decide +kernel) rfl
theorem kw_302 : Cond.instanceMethod yX3_lampsBurning ∈ sv_tbl := sv_in 302 (by decide +kernel) rfl
theorem kw_303 : Cond.selects RX3 yX3_lampsBurning yX3_lampsBurning ∈ sv_tbl := sv_in 303 (by decide +kernel) rfl
theorem kw_304 : Cond.code yX3_lampsBurning cX3_lampsBurning 3 (some .int) ∈ sv_tbl := sv_in 304 (by decide +kernel) rfl
theorem kw_305 : Cond.methodLink RX5 263 yX5_sumOf ∈ sv_tbl := sv_in 305 (by decide +kernel) rfl
theorem kw_306 : Cond.static yX5_sumOf ∈ sv_tbl := sv_in 306 (by decide +kernel) rfl
theorem kw_307 : Cond.code yX5_sumOf cX5_sumOf 3 (some .int) ∈ sv_tbl := sv_in 307 (by decide +kernel) rfl
theorem kw_308 : Cond.methodLink RX5 105 yX5_numberOf ∈ sv_tbl := sv_in 308 (by decide +kernel) rfl
theorem kw_309 : Cond.static yX5_numberOf ∈ sv_tbl := sv_in 309 (by decide +kernel) rfl
theorem kw_310 : Cond.code yX5_numberOf cX5_numberOf 1 (some .int) ∈ sv_tbl := sv_in 310 (by decide +kernel) rfl
theorem kw_311 : Cond.methodLink RL 33 yX5_setting ∈ sv_tbl := sv_in 311 (by decide +kernel) rfl
theorem kw_312 : Cond.instanceMethod yX5_setting ∈ sv_tbl := sv_in 312 (by decide +kernel) rfl
theorem kw_313 : Cond.selects RX5 yX5_setting yX5_setting ∈ sv_tbl := sv_in 313 (by decide +kernel) rfl
theorem kw_314 : Cond.code yX5_setting cX5_setting 2 (some .int) ∈ sv_tbl := sv_in 314 (by decide +kernel) rfl
theorem kw_315 : Cond.methodLink RX5 123 yX5_checkSetting ∈ sv_tbl := sv_in 315 (by decide +kernel) rfl
theorem kw_316 : Cond.static yX5_checkSetting ∈ sv_tbl := sv_in 316 (by decide +kernel) rfl
theorem kw_317 : Cond.code yX5_checkSetting cX5_checkSetting 1 none ∈ sv_tbl := sv_in 317 (by decide +kernel) rfl
theorem kw_318 : Cond.fieldLink RX5 242 "StairLight" "FIRST_VALUES" "[I" ∈ sv_tbl := sv_in 318 (by decide +kernel) rfl
theorem kw_320 : Cond.methodLink RX5 79 yX5_at ∈ sv_tbl := sv_in 320 (by decide +kernel) rfl
theorem kw_321 : Cond.methodLink RL 84 yX5_ifPassed ∈ sv_tbl := sv_in 321 (by decide +kernel) rfl
theorem kw_322 : Cond.instanceMethod yX5_ifPassed ∈ sv_tbl := sv_in 322 (by decide +kernel) rfl
theorem kw_323 : Cond.selects RX5 yX5_ifPassed yX5_ifPassed ∈ sv_tbl := sv_in 323 (by decide +kernel) rfl
theorem kw_324 : Cond.code yX5_ifPassed cX5_ifPassed 3 (some .int) ∈ sv_tbl := sv_in 324 (by decide +kernel) rfl
theorem kw_325 : Cond.methodLink RX5 137 yX5_checkSeconds ∈ sv_tbl := sv_in 325 (by decide +kernel) rfl
theorem kw_326 : Cond.static yX5_checkSeconds ∈ sv_tbl := sv_in 326 (by decide +kernel) rfl
theorem kw_327 : Cond.code yX5_checkSeconds cX5_checkSeconds 1 none ∈ sv_tbl := sv_in 327 (by decide +kernel) rfl
theorem kw_329 : Cond.methodLink RX5 201 yX5_outlook ∈ sv_tbl := sv_in 329 (by decide +kernel) rfl
theorem kw_331 : Cond.instanceMethod yX5_outlook ∈ sv_tbl := sv_in 331 (by decide +kernel) rfl
theorem kw_332 : Cond.code yX5_outlook cX5_outlook 4 (some .int) ∈ sv_tbl := sv_in 332 (by decide +kernel) rfl
theorem kw_333 : Cond.methodLink RX5 273 yX3_copyFrom ∈ sv_tbl := sv_in 333 (by decide +kernel) rfl
theorem kw_334 : Cond.instanceMethod yX3_copyFrom ∈ sv_tbl := sv_in 334 (by decide +kernel) rfl
theorem kw_335 : Cond.selects RX3 yX3_copyFrom yX3_copyFrom ∈ sv_tbl := sv_in 335 (by decide +kernel) rfl
theorem kw_336 : Cond.code yX3_copyFrom cX3_copyFrom 2 none ∈ sv_tbl := sv_in 336 (by decide +kernel) rfl
theorem kw_337 : Cond.methodLink RX3 50 yX0_copyFrom ∈ sv_tbl := sv_in 337 (by decide +kernel) rfl
theorem kw_338 : Cond.instanceMethod yX0_copyFrom ∈ sv_tbl := sv_in 338 (by decide +kernel) rfl
theorem kw_339 : Cond.selects RX0 yX0_copyFrom yX0_copyFrom ∈ sv_tbl := sv_in 339 (by decide +kernel) rfl
theorem kw_340 : Cond.code yX0_copyFrom cX0_copyFrom 2 none ∈ sv_tbl := sv_in 340 (by decide +kernel) rfl
theorem kw_342 : Cond.methodLink RX3 54 yX2_copyFrom ∈ sv_tbl := sv_in 342 (by decide +kernel) rfl
theorem kw_343 : Cond.instanceMethod yX2_copyFrom ∈ sv_tbl := sv_in 343 (by decide +kernel) rfl
theorem kw_344 : Cond.selects RX2 yX2_copyFrom yX2_copyFrom ∈ sv_tbl := sv_in 344 (by decide +kernel) rfl
theorem kw_345 : Cond.code yX2_copyFrom cX2_copyFrom 2 none ∈ sv_tbl := sv_in 345 (by decide +kernel) rfl
theorem kw_347 : Cond.methodLink RX5 140 yX3_letPass ∈ sv_tbl := sv_in 347 (by decide +kernel) rfl
theorem kw_348 : Cond.instanceMethod yX3_letPass ∈ sv_tbl := sv_in 348 (by decide +kernel) rfl
theorem kw_349 : Cond.selects RX3 yX3_letPass yX3_letPass ∈ sv_tbl := sv_in 349 (by decide +kernel) rfl
theorem kw_350 : Cond.code yX3_letPass cX3_letPass 4 (some .int) ∈ sv_tbl := sv_in 350 (by decide +kernel) rfl
theorem kw_352 : Cond.methodLink RX3 87 yX3_beginSecond ∈ sv_tbl := sv_in 352 (by decide +kernel) rfl
theorem kw_353 : Cond.instanceMethod yX3_beginSecond ∈ sv_tbl := sv_in 353 (by decide +kernel) rfl
theorem kw_354 : Cond.selects RX3 yX3_beginSecond yX3_beginSecond ∈ sv_tbl := sv_in 354 (by decide +kernel) rfl
theorem kw_355 : Cond.code yX3_beginSecond cX3_beginSecond 2 none ∈ sv_tbl := sv_in 355 (by decide +kernel) rfl
theorem kw_356 : Cond.methodLink RX3 99 yX2_goOn ∈ sv_tbl := sv_in 356 (by decide +kernel) rfl
theorem kw_357 : Cond.instanceMethod yX2_goOn ∈ sv_tbl := sv_in 357 (by decide +kernel) rfl
theorem kw_358 : Cond.selects RX2 yX2_goOn yX2_goOn ∈ sv_tbl := sv_in 358 (by decide +kernel) rfl
theorem kw_359 : Cond.code yX2_goOn cX2_goOn 4 none ∈ sv_tbl := sv_in 359 (by decide +kernel) rfl
theorem kw_360 : Cond.methodLink RX2 43 yX2_isThere ∈ sv_tbl := sv_in 360 (by decide +kernel) rfl
theorem kw_361 : Cond.instanceMethod yX2_isThere ∈ sv_tbl := sv_in 361 (by decide +kernel) rfl
theorem kw_362 : Cond.selects RX2 yX2_isThere yX2_isThere ∈ sv_tbl := sv_in 362 (by decide +kernel) rfl
theorem kw_363 : Cond.code yX2_isThere cX2_isThere 2 (some .boolean) ∈ sv_tbl := sv_in 363 (by decide +kernel) rfl
theorem kw_364 : Cond.methodLink RX2 51 yX2_walk ∈ sv_tbl := sv_in 364 (by decide +kernel) rfl
theorem kw_366 : Cond.instanceMethod yX2_walk ∈ sv_tbl := sv_in 366 (by decide +kernel) rfl
theorem kw_367 : Cond.code yX2_walk cX2_walk 3 none ∈ sv_tbl := sv_in 367 (by decide +kernel) rfl
theorem kw_369 : Cond.static yX5_raise ∈ sv_tbl := sv_in 369 (by decide +kernel) rfl
theorem kw_370 : Cond.code yX5_raise cX5_raise 3 none ∈ sv_tbl := sv_in 370 (by decide +kernel) rfl
theorem kw_372 : Cond.static yX5_put ∈ sv_tbl := sv_in 372 (by decide +kernel) rfl
theorem kw_373 : Cond.code yX5_put cX5_put 3 none ∈ sv_tbl := sv_in 373 (by decide +kernel) rfl
theorem kw_374 : Cond.methodLink RX2 55 yX2_moveUp ∈ sv_tbl := sv_in 374 (by decide +kernel) rfl
theorem kw_376 : Cond.instanceMethod yX2_moveUp ∈ sv_tbl := sv_in 376 (by decide +kernel) rfl
theorem kw_377 : Cond.code yX2_moveUp cX2_moveUp 3 none ∈ sv_tbl := sv_in 377 (by decide +kernel) rfl
theorem kw_378 : Cond.methodLink RX3 69 yX3_switchOn ∈ sv_tbl := sv_in 378 (by decide +kernel) rfl
theorem kw_379 : Cond.instanceMethod yX3_switchOn ∈ sv_tbl := sv_in 379 (by decide +kernel) rfl
theorem kw_380 : Cond.selects RX3 yX3_switchOn yX3_switchOn ∈ sv_tbl := sv_in 380 (by decide +kernel) rfl
theorem kw_381 : Cond.code yX3_switchOn cX3_switchOn 2 none ∈ sv_tbl := sv_in 381 (by decide +kernel) rfl
theorem kw_382 : Cond.methodLink RX3 65 yX0_letBurn ∈ sv_tbl := sv_in 382 (by decide +kernel) rfl
theorem kw_383 : Cond.instanceMethod yX0_letBurn ∈ sv_tbl := sv_in 383 (by decide +kernel) rfl
theorem kw_384 : Cond.selects RX0 yX0_letBurn yX0_letBurn ∈ sv_tbl := sv_in 384 (by decide +kernel) rfl
theorem kw_385 : Cond.code yX0_letBurn cX0_letBurn 4 none ∈ sv_tbl := sv_in 385 (by decide +kernel) rfl
theorem kw_389 : Cond.methodLink RX3 90 yX3_endSecond ∈ sv_tbl := sv_in 389 (by decide +kernel) rfl
theorem kw_390 : Cond.instanceMethod yX3_endSecond ∈ sv_tbl := sv_in 390 (by decide +kernel) rfl
theorem kw_391 : Cond.selects RX3 yX3_endSecond yX3_endSecond ∈ sv_tbl := sv_in 391 (by decide +kernel) rfl
theorem kw_392 : Cond.code yX3_endSecond cX3_endSecond 2 none ∈ sv_tbl := sv_in 392 (by decide +kernel) rfl
theorem kw_393 : Cond.methodLink RX3 110 yX3_countSecondOn ∈ sv_tbl := sv_in 393 (by decide +kernel) rfl
theorem kw_395 : Cond.instanceMethod yX3_countSecondOn ∈ sv_tbl := sv_in 395 (by decide +kernel) rfl
theorem kw_396 : Cond.code yX3_countSecondOn cX3_countSecondOn 3 none ∈ sv_tbl := sv_in 396 (by decide +kernel) rfl
theorem kw_398 : Cond.methodLink RX3 116 yX3_powerOf ∈ sv_tbl := sv_in 398 (by decide +kernel) rfl
theorem kw_399 : Cond.static yX3_powerOf ∈ sv_tbl := sv_in 399 (by decide +kernel) rfl
theorem kw_400 : Cond.code yX3_powerOf cX3_powerOf 1 (some .int) ∈ sv_tbl := sv_in 400 (by decide +kernel) rfl
theorem kw_401 : Cond.methodLink RX3 123 yX0_burnDown ∈ sv_tbl := sv_in 401 (by decide +kernel) rfl
theorem kw_402 : Cond.instanceMethod yX0_burnDown ∈ sv_tbl := sv_in 402 (by decide +kernel) rfl
theorem kw_403 : Cond.selects RX0 yX0_burnDown yX0_burnDown ∈ sv_tbl := sv_in 403 (by decide +kernel) rfl
theorem kw_404 : Cond.code yX0_burnDown cX0_burnDown 2 none ∈ sv_tbl := sv_in 404 (by decide +kernel) rfl
theorem kw_405 : Cond.methodLink RL 95 yX5_dark ∈ sv_tbl := sv_in 405 (by decide +kernel) rfl
theorem kw_406 : Cond.instanceMethod yX5_dark ∈ sv_tbl := sv_in 406 (by decide +kernel) rfl
theorem kw_407 : Cond.selects RX5 yX5_dark yX5_dark ∈ sv_tbl := sv_in 407 (by decide +kernel) rfl
theorem kw_408 : Cond.code yX5_dark cX5_dark 3 (some .int) ∈ sv_tbl := sv_in 408 (by decide +kernel) rfl
theorem kw_409 : Cond.methodLink RX5 33 yX5_checkWay ∈ sv_tbl := sv_in 409 (by decide +kernel) rfl
theorem kw_410 : Cond.static yX5_checkWay ∈ sv_tbl := sv_in 410 (by decide +kernel) rfl
theorem kw_411 : Cond.code yX5_checkWay cX5_checkWay 2 none ∈ sv_tbl := sv_in 411 (by decide +kernel) rfl
theorem kw_413 : Cond.methodLink RX5 204 yX5_darkWith ∈ sv_tbl := sv_in 413 (by decide +kernel) rfl
theorem kw_415 : Cond.instanceMethod yX5_darkWith ∈ sv_tbl := sv_in 415 (by decide +kernel) rfl
theorem kw_416 : Cond.code yX5_darkWith cX5_darkWith 8 (some .int) ∈ sv_tbl := sv_in 416 (by decide +kernel) rfl
theorem kw_417 : Cond.methodLink RX5 109 yX5_put ∈ sv_tbl := sv_in 417 (by decide +kernel) rfl
theorem kw_418 : Cond.methodLink RX5 58 yX3_letCome ∈ sv_tbl := sv_in 418 (by decide +kernel) rfl
theorem kw_419 : Cond.instanceMethod yX3_letCome ∈ sv_tbl := sv_in 419 (by decide +kernel) rfl
theorem kw_420 : Cond.selects RX3 yX3_letCome yX3_letCome ∈ sv_tbl := sv_in 420 (by decide +kernel) rfl
theorem kw_421 : Cond.code yX3_letCome cX3_letCome 3 (some .int) ∈ sv_tbl := sv_in 421 (by decide +kernel) rfl
theorem kw_422 : Cond.methodLink RX3 61 yX2_enter ∈ sv_tbl := sv_in 422 (by decide +kernel) rfl
theorem kw_423 : Cond.instanceMethod yX2_enter ∈ sv_tbl := sv_in 423 (by decide +kernel) rfl
theorem kw_424 : Cond.selects RX2 yX2_enter yX2_enter ∈ sv_tbl := sv_in 424 (by decide +kernel) rfl
theorem kw_425 : Cond.code yX2_enter cX2_enter 5 (some .int) ∈ sv_tbl := sv_in 425 (by decide +kernel) rfl
theorem kw_426 : Cond.methodLink RX2 39 yX2_sendTo ∈ sv_tbl := sv_in 426 (by decide +kernel) rfl
theorem kw_427 : Cond.instanceMethod yX2_sendTo ∈ sv_tbl := sv_in 427 (by decide +kernel) rfl
theorem kw_428 : Cond.selects RX2 yX2_sendTo yX2_sendTo ∈ sv_tbl := sv_in 428 (by decide +kernel) rfl
theorem kw_429 : Cond.code yX2_sendTo cX2_sendTo 4 none ∈ sv_tbl := sv_in 429 (by decide +kernel) rfl
theorem kw_430 : Cond.methodLink RX5 276 yX3_beginSecond ∈ sv_tbl := sv_in 430 (by decide +kernel) rfl
theorem kw_431 : Cond.methodLink RX5 62 yX2_placeOf ∈ sv_tbl := sv_in 431 (by decide +kernel) rfl
theorem kw_432 : Cond.instanceMethod yX2_placeOf ∈ sv_tbl := sv_in 432 (by decide +kernel) rfl
theorem kw_433 : Cond.selects RX2 yX2_placeOf yX2_placeOf ∈ sv_tbl := sv_in 433 (by decide +kernel) rfl
theorem kw_434 : Cond.code yX2_placeOf cX2_placeOf 3 (some .int) ∈ sv_tbl := sv_in 434 (by decide +kernel) rfl
theorem kw_435 : Cond.methodLink RX5 281 yX3_lampOf ∈ sv_tbl := sv_in 435 (by decide +kernel) rfl
theorem kw_436 : Cond.methodLink RX5 284 yX3_endSecond ∈ sv_tbl := sv_in 436 (by decide +kernel) rfl
theorem kw_437 : Cond.methodLink RL 52 yL_low ∈ sv_tbl := sv_in 437 (by decide +kernel) rfl
theorem kw_438 : Cond.static yL_low ∈ sv_tbl := sv_in 438 (by decide +kernel) rfl
theorem kw_439 : Cond.code yL_low cL_low 2 (some .int) ∈ sv_tbl := sv_in 439 (by decide +kernel) rfl
theorem kw_440 : Cond.constant RL 7 (2147483647) ∈ sv_tbl := sv_in 440 (by decide +kernel) rfl
theorem kw_441 : Cond.methodLink RL 46 yL_cell ∈ sv_tbl := sv_in 441 (by decide +kernel) rfl
theorem kw_442 : Cond.static yL_cell ∈ sv_tbl := sv_in 442 (by decide +kernel) rfl
theorem kw_443 : Cond.code yL_cell cL_cell 2 (some .int) ∈ sv_tbl := sv_in 443 (by decide +kernel) rfl
theorem kw_444 : Cond.constant RL 8 (40503) ∈ sv_tbl := sv_in 444 (by decide +kernel) rfl
theorem kw_445 : Cond.methodLink RL 91 yL_stairs ∈ sv_tbl := sv_in 445 (by decide +kernel) rfl
theorem kw_446 : Cond.static yL_stairs ∈ sv_tbl := sv_in 446 (by decide +kernel) rfl
theorem kw_447 : Cond.code yL_stairs cL_stairs 12 (some .boolean) ∈ sv_tbl := sv_in 447 (by decide +kernel) rfl
theorem kw_448 : Cond.methodLink RL 36 yX5_person ∈ sv_tbl := sv_in 448 (by decide +kernel) rfl
theorem kw_449 : Cond.instanceMethod yX5_person ∈ sv_tbl := sv_in 449 (by decide +kernel) rfl
theorem kw_450 : Cond.selects RX5 yX5_person yX5_person ∈ sv_tbl := sv_in 450 (by decide +kernel) rfl
theorem kw_451 : Cond.code yX5_person cX5_person 3 (some .int) ∈ sv_tbl := sv_in 451 (by decide +kernel) rfl
theorem kw_453 : Cond.methodLink RX5 195 yX2_personNumber ∈ sv_tbl := sv_in 453 (by decide +kernel) rfl
theorem kw_454 : Cond.instanceMethod yX2_personNumber ∈ sv_tbl := sv_in 454 (by decide +kernel) rfl
theorem kw_455 : Cond.selects RX2 yX2_personNumber yX2_personNumber ∈ sv_tbl := sv_in 455 (by decide +kernel) rfl
theorem kw_456 : Cond.code yX2_personNumber cX2_personNumber 3 (some .int) ∈ sv_tbl := sv_in 456 (by decide +kernel) rfl
theorem kw_457 : Cond.methodLink RL 39 yX5_worst ∈ sv_tbl := sv_in 457 (by decide +kernel) rfl
theorem kw_458 : Cond.instanceMethod yX5_worst ∈ sv_tbl := sv_in 458 (by decide +kernel) rfl
theorem kw_459 : Cond.selects RX5 yX5_worst yX5_worst ∈ sv_tbl := sv_in 459 (by decide +kernel) rfl
theorem kw_460 : Cond.code yX5_worst cX5_worst 1 (some .int) ∈ sv_tbl := sv_in 460 (by decide +kernel) rfl
theorem kw_461 : Cond.methodLink RX5 211 yX0_mostMissed ∈ sv_tbl := sv_in 461 (by decide +kernel) rfl
theorem kw_462 : Cond.instanceMethod yX0_mostMissed ∈ sv_tbl := sv_in 462 (by decide +kernel) rfl
theorem kw_463 : Cond.selects RX0 yX0_mostMissed yX0_mostMissed ∈ sv_tbl := sv_in 463 (by decide +kernel) rfl
theorem kw_464 : Cond.code yX0_mostMissed cX0_mostMissed 4 (some .int) ∈ sv_tbl := sv_in 464 (by decide +kernel) rfl
theorem kw_465 : Cond.methodLink RL 42 yX5_lightness ∈ sv_tbl := sv_in 465 (by decide +kernel) rfl
theorem kw_466 : Cond.instanceMethod yX5_lightness ∈ sv_tbl := sv_in 466 (by decide +kernel) rfl
theorem kw_467 : Cond.selects RX5 yX5_lightness yX5_lightness ∈ sv_tbl := sv_in 467 (by decide +kernel) rfl
theorem kw_468 : Cond.code yX5_lightness cX5_lightness 1 (some .double) ∈ sv_tbl := sv_in 468 (by decide +kernel) rfl
theorem kw_469 : Cond.methodLink RX5 214 yX3_lightShare ∈ sv_tbl := sv_in 469 (by decide +kernel) rfl
theorem kw_470 : Cond.instanceMethod yX3_lightShare ∈ sv_tbl := sv_in 470 (by decide +kernel) rfl
theorem kw_471 : Cond.selects RX3 yX3_lightShare yX3_lightShare ∈ sv_tbl := sv_in 471 (by decide +kernel) rfl
theorem kw_472 : Cond.code yX3_lightShare cX3_lightShare 2 (some .double) ∈ sv_tbl := sv_in 472 (by decide +kernel) rfl
theorem kw_473 : Cond.methodLink RL 87 yL_act ∈ sv_tbl := sv_in 473 (by decide +kernel) rfl
theorem kw_474 : Cond.static yL_act ∈ sv_tbl := sv_in 474 (by decide +kernel) rfl
theorem kw_475 : Cond.code yL_act cL_act 6 (some .int) ∈ sv_tbl := sv_in 475 (by decide +kernel) rfl
theorem kw_476 : Cond.methodLink RL 55 yL_come ∈ sv_tbl := sv_in 476 (by decide +kernel) rfl
theorem kw_477 : Cond.static yL_come ∈ sv_tbl := sv_in 477 (by decide +kernel) rfl
theorem kw_479 : Cond.classLink RL 15 "java/lang/IllegalStateException" ∈ sv_tbl := sv_in 479 (by decide +kernel) rfl
theorem kw_480 : Cond.methodLink RL 9 yX5_come ∈ sv_tbl := sv_in 480 (by decide +kernel) rfl
theorem kw_481 : Cond.instanceMethod yX5_come ∈ sv_tbl := sv_in 481 (by decide +kernel) rfl
theorem kw_482 : Cond.selects RX5 yX5_come yX5_come ∈ sv_tbl := sv_in 482 (by decide +kernel) rfl
theorem kw_483 : Cond.code yX5_come cX5_come 3 (some .int) ∈ sv_tbl := sv_in 483 (by decide +kernel) rfl
theorem kw_484 : Cond.classLink RX5 47 "java/lang/IllegalStateException" ∈ sv_tbl := sv_in 484 (by decide +kernel) rfl
theorem kw_485 : Cond.instantiable "java/lang/IllegalStateException" 6 ∈ sv_tbl := sv_in 485 (by decide +kernel) rfl
theorem kw_494 : Cond.methodLink RX5 51 ⟨"java/lang/IllegalStateException", "<init>", "(Ljava/lang/String;)V"⟩ ∈ sv_tbl := sv_in 494 (by decide +kernel) rfl
theorem kw_495 : Cond.instanceMethod (⟨"java/lang/IllegalStateException", "<init>", "(Ljava/lang/String;)V"⟩ : MethodName) ∈ sv_tbl := sv_in 495 (by decide +kernel) rfl
theorem kw_500 : Cond.methodLink RX5 54 yX1_save ∈ sv_tbl := sv_in 500 (by decide +kernel) rfl
theorem kw_501 : Cond.instanceMethod yX1_save ∈ sv_tbl := sv_in 501 (by decide +kernel) rfl
theorem kw_502 : Cond.selects RX1 yX1_save yX1_save ∈ sv_tbl := sv_in 502 (by decide +kernel) rfl
theorem kw_503 : Cond.code yX1_save cX1_save 3 none ∈ sv_tbl := sv_in 503 (by decide +kernel) rfl
theorem kw_504 : Cond.methodLink RX1 25 yX1_stateAt ∈ sv_tbl := sv_in 504 (by decide +kernel) rfl
theorem kw_506 : Cond.instanceMethod yX1_stateAt ∈ sv_tbl := sv_in 506 (by decide +kernel) rfl
theorem kw_507 : Cond.code yX1_stateAt cX1_stateAt 2 (some (.object "StairLight$Stairs")) ∈ sv_tbl := sv_in 507 (by decide +kernel) rfl
theorem kw_508 : Cond.methodLink RX1 29 yX3_copyFrom ∈ sv_tbl := sv_in 508 (by decide +kernel) rfl
theorem kw_509 : Cond.methodLink RL 58 yX5_pass ∈ sv_tbl := sv_in 509 (by decide +kernel) rfl
theorem kw_510 : Cond.instanceMethod yX5_pass ∈ sv_tbl := sv_in 510 (by decide +kernel) rfl
theorem kw_511 : Cond.selects RX5 yX5_pass yX5_pass ∈ sv_tbl := sv_in 511 (by decide +kernel) rfl
theorem kw_512 : Cond.code yX5_pass cX5_pass 2 (some .int) ∈ sv_tbl := sv_in 512 (by decide +kernel) rfl
theorem kw_513 : Cond.methodLink RL 61 yL_turn ∈ sv_tbl := sv_in 513 (by decide +kernel) rfl
theorem kw_514 : Cond.static yL_turn ∈ sv_tbl := sv_in 514 (by decide +kernel) rfl
theorem kw_516 : Cond.classLink RL 24 "java/lang/IndexOutOfBoundsException" ∈ sv_tbl := sv_in 516 (by decide +kernel) rfl
theorem kw_517 : Cond.methodLink RL 21 yX5_turn ∈ sv_tbl := sv_in 517 (by decide +kernel) rfl
theorem kw_518 : Cond.instanceMethod yX5_turn ∈ sv_tbl := sv_in 518 (by decide +kernel) rfl
theorem kw_519 : Cond.selects RX5 yX5_turn yX5_turn ∈ sv_tbl := sv_in 519 (by decide +kernel) rfl
theorem kw_520 : Cond.code yX5_turn cX5_turn 5 (some .int) ∈ sv_tbl := sv_in 520 (by decide +kernel) rfl
theorem kw_522 : Cond.methodLink RX5 86 yX2_sendTo ∈ sv_tbl := sv_in 522 (by decide +kernel) rfl
theorem kw_523 : Cond.methodLink RL 63 yX5_press ∈ sv_tbl := sv_in 523 (by decide +kernel) rfl
theorem kw_524 : Cond.instanceMethod yX5_press ∈ sv_tbl := sv_in 524 (by decide +kernel) rfl
theorem kw_525 : Cond.selects RX5 yX5_press yX5_press ∈ sv_tbl := sv_in 525 (by decide +kernel) rfl
theorem kw_526 : Cond.code yX5_press cX5_press 3 (some .int) ∈ sv_tbl := sv_in 526 (by decide +kernel) rfl
theorem kw_527 : Cond.methodLink RX5 99 yX3_switchOn ∈ sv_tbl := sv_in 527 (by decide +kernel) rfl
theorem kw_528 : Cond.methodLink RL 66 yX5_sensor ∈ sv_tbl := sv_in 528 (by decide +kernel) rfl
theorem kw_529 : Cond.instanceMethod yX5_sensor ∈ sv_tbl := sv_in 529 (by decide +kernel) rfl
theorem kw_530 : Cond.selects RX5 yX5_sensor yX5_sensor ∈ sv_tbl := sv_in 530 (by decide +kernel) rfl
theorem kw_531 : Cond.code yX5_sensor cX5_sensor 4 (some .int) ∈ sv_tbl := sv_in 531 (by decide +kernel) rfl
theorem kw_532 : Cond.methodLink RL 70 yX5_night ∈ sv_tbl := sv_in 532 (by decide +kernel) rfl
theorem kw_533 : Cond.instanceMethod yX5_night ∈ sv_tbl := sv_in 533 (by decide +kernel) rfl
theorem kw_534 : Cond.selects RX5 yX5_night yX5_night ∈ sv_tbl := sv_in 534 (by decide +kernel) rfl
theorem kw_535 : Cond.code yX5_night cX5_night 3 (some .int) ∈ sv_tbl := sv_in 535 (by decide +kernel) rfl
theorem kw_536 : Cond.methodLink RL 74 yX5_fire ∈ sv_tbl := sv_in 536 (by decide +kernel) rfl
theorem kw_537 : Cond.instanceMethod yX5_fire ∈ sv_tbl := sv_in 537 (by decide +kernel) rfl
theorem kw_538 : Cond.selects RX5 yX5_fire yX5_fire ∈ sv_tbl := sv_in 538 (by decide +kernel) rfl
theorem kw_539 : Cond.code yX5_fire cX5_fire 3 (some .int) ∈ sv_tbl := sv_in 539 (by decide +kernel) rfl
theorem kw_540 : Cond.methodLink RX5 120 yX3_switchAllOn ∈ sv_tbl := sv_in 540 (by decide +kernel) rfl
theorem kw_541 : Cond.instanceMethod yX3_switchAllOn ∈ sv_tbl := sv_in 541 (by decide +kernel) rfl
theorem kw_542 : Cond.selects RX3 yX3_switchAllOn yX3_switchAllOn ∈ sv_tbl := sv_in 542 (by decide +kernel) rfl
theorem kw_543 : Cond.code yX3_switchAllOn cX3_switchAllOn 2 none ∈ sv_tbl := sv_in 543 (by decide +kernel) rfl
theorem kw_544 : Cond.methodLink RL 77 yX5_set ∈ sv_tbl := sv_in 544 (by decide +kernel) rfl
theorem kw_545 : Cond.instanceMethod yX5_set ∈ sv_tbl := sv_in 545 (by decide +kernel) rfl
theorem kw_546 : Cond.selects RX5 yX5_set yX5_set ∈ sv_tbl := sv_in 546 (by decide +kernel) rfl
theorem kw_547 : Cond.code yX5_set cX5_set 4 (some .int) ∈ sv_tbl := sv_in 547 (by decide +kernel) rfl
theorem kw_548 : Cond.fieldLink RX5 126 "StairLight" "LEAST_VALUES" "[I" ∈ sv_tbl := sv_in 548 (by decide +kernel) rfl
theorem kw_550 : Cond.fieldLink RX5 129 "StairLight" "GREATEST_VALUES" "[I" ∈ sv_tbl := sv_in 550 (by decide +kernel) rfl
theorem kw_553 : Cond.methodLink RL 80 yL_undo ∈ sv_tbl := sv_in 553 (by decide +kernel) rfl
theorem kw_554 : Cond.static yL_undo ∈ sv_tbl := sv_in 554 (by decide +kernel) rfl
theorem kw_556 : Cond.methodLink RL 17 yX5_undo ∈ sv_tbl := sv_in 556 (by decide +kernel) rfl
theorem kw_557 : Cond.instanceMethod yX5_undo ∈ sv_tbl := sv_in 557 (by decide +kernel) rfl
theorem kw_558 : Cond.selects RX5 yX5_undo yX5_undo ∈ sv_tbl := sv_in 558 (by decide +kernel) rfl
theorem kw_559 : Cond.code yX5_undo cX5_undo 1 (some .int) ∈ sv_tbl := sv_in 559 (by decide +kernel) rfl
theorem kw_561 : Cond.methodLink RX5 184 yX1_restore ∈ sv_tbl := sv_in 561 (by decide +kernel) rfl
theorem kw_562 : Cond.instanceMethod yX1_restore ∈ sv_tbl := sv_in 562 (by decide +kernel) rfl
theorem kw_563 : Cond.selects RX1 yX1_restore yX1_restore ∈ sv_tbl := sv_in 563 (by decide +kernel) rfl
theorem kw_564 : Cond.code yX1_restore cX1_restore 3 none ∈ sv_tbl := sv_in 564 (by decide +kernel) rfl
end
section
theorem dX0_init_0 : decode cX0_init 0 = .ok (.aload_n 0, 1) := by decide +kernel
theorem dX0_init_1 : decode cX0_init 1 = .ok (.invokespecial 3, 3) := by decide +kernel
theorem dX0_init_4 : decode cX0_init 4 = .ok (.aload_n 0, 1) := by decide +kernel
theorem dX0_init_5 : decode cX0_init 5 = .ok (.bipush 8, 2) := by decide +kernel
theorem dX0_init_7 : decode cX0_init 7 = .ok (.newarray .int, 2) := by decide +kernel
theorem dX0_init_9 : decode cX0_init 9 = .ok (.putfield 9, 3) := by decide +kernel
theorem dX0_init_12 : decode cX0_init 12 = .ok (.aload_n 0, 1) := by decide +kernel
theorem dX0_init_13 : decode cX0_init 13 = .ok (.bipush 8, 2) := by decide +kernel
theorem dX0_init_15 : decode cX0_init 15 = .ok (.newarray .int, 2) := by decide +kernel
theorem dX0_init_17 : decode cX0_init 17 = .ok (.putfield 15, 3) := by decide +kernel
theorem dX0_init_20 : decode cX0_init 20 = .ok (.aload_n 0, 1) := by decide +kernel
theorem dX0_init_21 : decode cX0_init 21 = .ok (.bipush 8, 2) := by decide +kernel
theorem dX0_init_23 : decode cX0_init 23 = .ok (.newarray .int, 2) := by decide +kernel
theorem dX0_init_25 : decode cX0_init 25 = .ok (.putfield 18, 3) := by decide +kernel
theorem dX0_init_28 : decode cX0_init 28 = .ok (.aload_n 0, 1) := by decide +kernel
theorem dX0_init_29 : decode cX0_init 29 = .ok (.bipush 8, 2) := by decide +kernel
theorem dX0_init_31 : decode cX0_init 31 = .ok (.newarray .int, 2) := by decide +kernel
theorem dX0_init_33 : decode cX0_init 33 = .ok (.putfield 21, 3) := by decide +kernel
theorem dX0_init_36 : decode cX0_init 36 = .ok (.aload_n 0, 1) := by decide +kernel
theorem dX0_init_37 : decode cX0_init 37 = .ok (.bipush 8, 2) := by decide +kernel
theorem dX0_init_39 : decode cX0_init 39 = .ok (.newarray .int, 2) := by decide +kernel
theorem dX0_init_41 : decode cX0_init 41 = .ok (.putfield 24, 3) := by decide +kernel
theorem dX0_init_44 : decode cX0_init 44 = .ok (.aload_n 0, 1) := by decide +kernel
theorem dX0_init_45 : decode cX0_init 45 = .ok (.bipush 8, 2) := by decide +kernel
theorem dX0_init_47 : decode cX0_init 47 = .ok (.newarray .int, 2) := by decide +kernel
theorem dX0_init_49 : decode cX0_init 49 = .ok (.putfield 27, 3) := by decide +kernel
theorem dX0_init_52 : decode cX0_init 52 = .ok (.iconst 0, 1) := by decide +kernel
theorem dX0_init_53 : decode cX0_init 53 = .ok (.istore_n 1, 1) := by decide +kernel
theorem dX0_init_54 : decode cX0_init 54 = .ok (.iload_n 1, 1) := by decide +kernel
theorem dX0_init_55 : decode cX0_init 55 = .ok (.aload_n 0, 1) := by decide +kernel
theorem dX0_init_56 : decode cX0_init 56 = .ok (.getfield 15, 3) := by decide +kernel
theorem dX0_init_59 : decode cX0_init 59 = .ok (.arraylength, 1) := by decide +kernel
theorem dX0_init_60 : decode cX0_init 60 = .ok (.if_icmp .ge 16, 3) := by decide +kernel
theorem dX0_init_63 : decode cX0_init 63 = .ok (.aload_n 0, 1) := by decide +kernel
theorem dX0_init_64 : decode cX0_init 64 = .ok (.getfield 15, 3) := by decide +kernel
theorem dX0_init_67 : decode cX0_init 67 = .ok (.iload_n 1, 1) := by decide +kernel
theorem dX0_init_68 : decode cX0_init 68 = .ok (.iconst 1, 1) := by decide +kernel
theorem dX0_init_69 : decode cX0_init 69 = .ok (.iastore, 1) := by decide +kernel
theorem dX0_init_70 : decode cX0_init 70 = .ok (.iinc 1 1, 3) := by decide +kernel
theorem dX0_init_73 : decode cX0_init 73 = .ok (.goto (-19), 3) := by decide +kernel
theorem dX0_init_76 : decode cX0_init 76 = .ok (.return_, 1) := by decide +kernel
theorem dX0_copyFrom_0 : decode cX0_copyFrom 0 = .ok (.aload_n 1, 1) := by decide +kernel
theorem dX0_copyFrom_1 : decode cX0_copyFrom 1 = .ok (.getfield 9, 3) := by decide +kernel
theorem dX0_copyFrom_4 : decode cX0_copyFrom 4 = .ok (.aload_n 0, 1) := by decide +kernel
theorem dX0_copyFrom_5 : decode cX0_copyFrom 5 = .ok (.getfield 9, 3) := by decide +kernel
theorem dX0_copyFrom_8 : decode cX0_copyFrom 8 = .ok (.invokestatic 30, 3) := by decide +kernel
theorem dX0_copyFrom_11 : decode cX0_copyFrom 11 = .ok (.aload_n 1, 1) := by decide +kernel
theorem dX0_copyFrom_12 : decode cX0_copyFrom 12 = .ok (.getfield 15, 3) := by decide +kernel
theorem dX0_copyFrom_15 : decode cX0_copyFrom 15 = .ok (.aload_n 0, 1) := by decide +kernel
theorem dX0_copyFrom_16 : decode cX0_copyFrom 16 = .ok (.getfield 15, 3) := by decide +kernel
theorem dX0_copyFrom_19 : decode cX0_copyFrom 19 = .ok (.invokestatic 30, 3) := by decide +kernel
theorem dX0_copyFrom_22 : decode cX0_copyFrom 22 = .ok (.aload_n 1, 1) := by decide +kernel
theorem dX0_copyFrom_23 : decode cX0_copyFrom 23 = .ok (.getfield 18, 3) := by decide +kernel
theorem dX0_copyFrom_26 : decode cX0_copyFrom 26 = .ok (.aload_n 0, 1) := by decide +kernel
theorem dX0_copyFrom_27 : decode cX0_copyFrom 27 = .ok (.getfield 18, 3) := by decide +kernel
theorem dX0_copyFrom_30 : decode cX0_copyFrom 30 = .ok (.invokestatic 30, 3) := by decide +kernel
theorem dX0_copyFrom_33 : decode cX0_copyFrom 33 = .ok (.aload_n 1, 1) := by decide +kernel
theorem dX0_copyFrom_34 : decode cX0_copyFrom 34 = .ok (.getfield 21, 3) := by decide +kernel
theorem dX0_copyFrom_37 : decode cX0_copyFrom 37 = .ok (.aload_n 0, 1) := by decide +kernel
theorem dX0_copyFrom_38 : decode cX0_copyFrom 38 = .ok (.getfield 21, 3) := by decide +kernel
theorem dX0_copyFrom_41 : decode cX0_copyFrom 41 = .ok (.invokestatic 30, 3) := by decide +kernel
theorem dX0_copyFrom_44 : decode cX0_copyFrom 44 = .ok (.aload_n 1, 1) := by decide +kernel
theorem dX0_copyFrom_45 : decode cX0_copyFrom 45 = .ok (.getfield 24, 3) := by decide +kernel
theorem dX0_copyFrom_48 : decode cX0_copyFrom 48 = .ok (.aload_n 0, 1) := by decide +kernel
theorem dX0_copyFrom_49 : decode cX0_copyFrom 49 = .ok (.getfield 24, 3) := by decide +kernel
theorem dX0_copyFrom_52 : decode cX0_copyFrom 52 = .ok (.invokestatic 30, 3) := by decide +kernel
theorem dX0_copyFrom_55 : decode cX0_copyFrom 55 = .ok (.aload_n 1, 1) := by decide +kernel
theorem dX0_copyFrom_56 : decode cX0_copyFrom 56 = .ok (.getfield 27, 3) := by decide +kernel
theorem dX0_copyFrom_59 : decode cX0_copyFrom 59 = .ok (.aload_n 0, 1) := by decide +kernel
theorem dX0_copyFrom_60 : decode cX0_copyFrom 60 = .ok (.getfield 27, 3) := by decide +kernel
theorem dX0_copyFrom_63 : decode cX0_copyFrom 63 = .ok (.invokestatic 30, 3) := by decide +kernel
theorem dX0_copyFrom_66 : decode cX0_copyFrom 66 = .ok (.return_, 1) := by decide +kernel
theorem dX0_letBurn_0 : decode cX0_letBurn 0 = .ok (.aload_n 0, 1) := by decide +kernel
theorem dX0_letBurn_1 : decode cX0_letBurn 1 = .ok (.getfield 9, 3) := by decide +kernel
theorem dX0_letBurn_4 : decode cX0_letBurn 4 = .ok (.iload_n 1, 1) := by decide +kernel
theorem dX0_letBurn_5 : decode cX0_letBurn 5 = .ok (.invokestatic 34, 3) := by decide +kernel
theorem dX0_letBurn_8 : decode cX0_letBurn 8 = .ok (.istore_n 3, 1) := by decide +kernel
theorem dX0_letBurn_9 : decode cX0_letBurn 9 = .ok (.iload_n 3, 1) := by decide +kernel
theorem dX0_letBurn_10 : decode cX0_letBurn 10 = .ok (.ifCond .ne 12, 3) := by decide +kernel
theorem dX0_letBurn_13 : decode cX0_letBurn 13 = .ok (.aload_n 0, 1) := by decide +kernel
theorem dX0_letBurn_14 : decode cX0_letBurn 14 = .ok (.getfield 27, 3) := by decide +kernel
theorem dX0_letBurn_17 : decode cX0_letBurn 17 = .ok (.iload_n 1, 1) := by decide +kernel
theorem dX0_letBurn_18 : decode cX0_letBurn 18 = .ok (.iconst 1, 1) := by decide +kernel
theorem dX0_letBurn_19 : decode cX0_letBurn 19 = .ok (.invokestatic 38, 3) := by decide +kernel
theorem dX0_letBurn_22 : decode cX0_letBurn 22 = .ok (.iload_n 3, 1) := by decide +kernel
theorem dX0_letBurn_23 : decode cX0_letBurn 23 = .ok (.iload_n 2, 1) := by decide +kernel
theorem dX0_letBurn_24 : decode cX0_letBurn 24 = .ok (.if_icmp .ge 12, 3) := by decide +kernel
theorem dX0_letBurn_27 : decode cX0_letBurn 27 = .ok (.aload_n 0, 1) := by decide +kernel
theorem dX0_letBurn_28 : decode cX0_letBurn 28 = .ok (.getfield 9, 3) := by decide +kernel
theorem dX0_letBurn_31 : decode cX0_letBurn 31 = .ok (.iload_n 1, 1) := by decide +kernel
theorem dX0_letBurn_32 : decode cX0_letBurn 32 = .ok (.iload_n 2, 1) := by decide +kernel
theorem dX0_letBurn_33 : decode cX0_letBurn 33 = .ok (.invokestatic 42, 3) := by decide +kernel
theorem dX0_letBurn_36 : decode cX0_letBurn 36 = .ok (.return_, 1) := by decide +kernel
theorem dX0_burnDown_0 : decode cX0_burnDown 0 = .ok (.aload_n 0, 1) := by decide +kernel
theorem dX0_burnDown_1 : decode cX0_burnDown 1 = .ok (.getfield 9, 3) := by decide +kernel
theorem dX0_burnDown_4 : decode cX0_burnDown 4 = .ok (.iload_n 1, 1) := by decide +kernel
theorem dX0_burnDown_5 : decode cX0_burnDown 5 = .ok (.invokestatic 34, 3) := by decide +kernel
theorem dX0_burnDown_8 : decode cX0_burnDown 8 = .ok (.ifCond .le 12, 3) := by decide +kernel
theorem dX0_burnDown_11 : decode cX0_burnDown 11 = .ok (.aload_n 0, 1) := by decide +kernel
theorem dX0_burnDown_12 : decode cX0_burnDown 12 = .ok (.getfield 9, 3) := by decide +kernel
theorem dX0_burnDown_15 : decode cX0_burnDown 15 = .ok (.iload_n 1, 1) := by decide +kernel
theorem dX0_burnDown_16 : decode cX0_burnDown 16 = .ok (.iconst (-1), 1) := by decide +kernel
theorem dX0_burnDown_17 : decode cX0_burnDown 17 = .ok (.invokestatic 38, 3) := by decide +kernel
theorem dX0_burnDown_20 : decode cX0_burnDown 20 = .ok (.return_, 1) := by decide +kernel
theorem dX0_mostMissed_0 : decode cX0_mostMissed 0 = .ok (.iconst (-1), 1) := by decide +kernel
theorem dX0_mostMissed_1 : decode cX0_mostMissed 1 = .ok (.istore_n 1, 1) := by decide +kernel
theorem dX0_mostMissed_2 : decode cX0_mostMissed 2 = .ok (.iconst 0, 1) := by decide +kernel
theorem dX0_mostMissed_3 : decode cX0_mostMissed 3 = .ok (.istore_n 2, 1) := by decide +kernel
theorem dX0_mostMissed_4 : decode cX0_mostMissed 4 = .ok (.iload_n 2, 1) := by decide +kernel
theorem dX0_mostMissed_5 : decode cX0_mostMissed 5 = .ok (.bipush 8, 2) := by decide +kernel
theorem dX0_mostMissed_7 : decode cX0_mostMissed 7 = .ok (.if_icmp .ge 56, 3) := by decide +kernel
theorem dX0_mostMissed_10 : decode cX0_mostMissed 10 = .ok (.aload_n 0, 1) := by decide +kernel
theorem dX0_mostMissed_11 : decode cX0_mostMissed 11 = .ok (.getfield 15, 3) := by decide +kernel
theorem dX0_mostMissed_14 : decode cX0_mostMissed 14 = .ok (.iload_n 2, 1) := by decide +kernel
theorem dX0_mostMissed_15 : decode cX0_mostMissed 15 = .ok (.invokestatic 34, 3) := by decide +kernel
theorem dX0_mostMissed_18 : decode cX0_mostMissed 18 = .ok (.ifCond .ne 7, 3) := by decide +kernel
theorem dX0_mostMissed_21 : decode cX0_mostMissed 21 = .ok (.iconst 1, 1) := by decide +kernel
theorem dX0_mostMissed_22 : decode cX0_mostMissed 22 = .ok (.goto 4, 3) := by decide +kernel
theorem dX0_mostMissed_25 : decode cX0_mostMissed 25 = .ok (.iconst 0, 1) := by decide +kernel
theorem dX0_mostMissed_26 : decode cX0_mostMissed 26 = .ok (.istore_n 3, 1) := by decide +kernel
theorem dX0_mostMissed_27 : decode cX0_mostMissed 27 = .ok (.iload_n 3, 1) := by decide +kernel
theorem dX0_mostMissed_28 : decode cX0_mostMissed 28 = .ok (.ifCond .eq 29, 3) := by decide +kernel
theorem dX0_mostMissed_31 : decode cX0_mostMissed 31 = .ok (.iload_n 1, 1) := by decide +kernel
theorem dX0_mostMissed_32 : decode cX0_mostMissed 32 = .ok (.iconst (-1), 1) := by decide +kernel
theorem dX0_mostMissed_33 : decode cX0_mostMissed 33 = .ok (.if_icmp .eq 22, 3) := by decide +kernel
theorem dX0_mostMissed_36 : decode cX0_mostMissed 36 = .ok (.aload_n 0, 1) := by decide +kernel
theorem dX0_mostMissed_37 : decode cX0_mostMissed 37 = .ok (.getfield 18, 3) := by decide +kernel
theorem dX0_mostMissed_40 : decode cX0_mostMissed 40 = .ok (.iload_n 2, 1) := by decide +kernel
theorem dX0_mostMissed_41 : decode cX0_mostMissed 41 = .ok (.invokestatic 34, 3) := by decide +kernel
theorem dX0_mostMissed_44 : decode cX0_mostMissed 44 = .ok (.aload_n 0, 1) := by decide +kernel
theorem dX0_mostMissed_45 : decode cX0_mostMissed 45 = .ok (.getfield 18, 3) := by decide +kernel
theorem dX0_mostMissed_48 : decode cX0_mostMissed 48 = .ok (.iload_n 1, 1) := by decide +kernel
theorem dX0_mostMissed_49 : decode cX0_mostMissed 49 = .ok (.invokestatic 34, 3) := by decide +kernel
theorem dX0_mostMissed_52 : decode cX0_mostMissed 52 = .ok (.if_icmp .le 5, 3) := by decide +kernel
theorem dX0_mostMissed_55 : decode cX0_mostMissed 55 = .ok (.iload_n 2, 1) := by decide +kernel
theorem dX0_mostMissed_56 : decode cX0_mostMissed 56 = .ok (.istore_n 1, 1) := by decide +kernel
theorem dX0_mostMissed_57 : decode cX0_mostMissed 57 = .ok (.iinc 2 1, 3) := by decide +kernel
theorem dX0_mostMissed_60 : decode cX0_mostMissed 60 = .ok (.goto (-56), 3) := by decide +kernel
theorem dX0_mostMissed_63 : decode cX0_mostMissed 63 = .ok (.iload_n 1, 1) := by decide +kernel
theorem dX0_mostMissed_64 : decode cX0_mostMissed 64 = .ok (.ireturn, 1) := by decide +kernel
theorem dX1_init_0 : decode cX1_init 0 = .ok (.aload_n 0, 1) := by decide +kernel
theorem dX1_init_1 : decode cX1_init 1 = .ok (.invokespecial 3, 3) := by decide +kernel
theorem dX1_init_4 : decode cX1_init 4 = .ok (.aload_n 0, 1) := by decide +kernel
theorem dX1_init_5 : decode cX1_init 5 = .ok (.bipush 6, 2) := by decide +kernel
theorem dX1_init_7 : decode cX1_init 7 = .ok (.anewarray 9, 3) := by decide +kernel
theorem dX1_init_10 : decode cX1_init 10 = .ok (.putfield 11, 3) := by decide +kernel
theorem dX1_init_13 : decode cX1_init 13 = .ok (.iconst 0, 1) := by decide +kernel
theorem dX1_init_14 : decode cX1_init 14 = .ok (.istore_n 1, 1) := by decide +kernel
theorem dX1_init_15 : decode cX1_init 15 = .ok (.iload_n 1, 1) := by decide +kernel
theorem dX1_init_16 : decode cX1_init 16 = .ok (.aload_n 0, 1) := by decide +kernel
theorem dX1_init_17 : decode cX1_init 17 = .ok (.getfield 11, 3) := by decide +kernel
theorem dX1_init_20 : decode cX1_init 20 = .ok (.arraylength, 1) := by decide +kernel
theorem dX1_init_21 : decode cX1_init 21 = .ok (.if_icmp .ge 22, 3) := by decide +kernel
theorem dX1_init_24 : decode cX1_init 24 = .ok (.aload_n 0, 1) := by decide +kernel
theorem dX1_init_25 : decode cX1_init 25 = .ok (.getfield 11, 3) := by decide +kernel
theorem dX1_init_28 : decode cX1_init 28 = .ok (.iload_n 1, 1) := by decide +kernel
theorem dX1_init_29 : decode cX1_init 29 = .ok (.new 9, 3) := by decide +kernel
theorem dX1_init_32 : decode cX1_init 32 = .ok (.dup, 1) := by decide +kernel
theorem dX1_init_33 : decode cX1_init 33 = .ok (.invokespecial 17, 3) := by decide +kernel
theorem dX1_init_36 : decode cX1_init 36 = .ok (.aastore, 1) := by decide +kernel
theorem dX1_init_37 : decode cX1_init 37 = .ok (.iinc 1 1, 3) := by decide +kernel
theorem dX1_init_40 : decode cX1_init 40 = .ok (.goto (-25), 3) := by decide +kernel
theorem dX1_init_43 : decode cX1_init 43 = .ok (.aload_n 0, 1) := by decide +kernel
theorem dX1_init_44 : decode cX1_init 44 = .ok (.iconst 0, 1) := by decide +kernel
theorem dX1_init_45 : decode cX1_init 45 = .ok (.putfield 18, 3) := by decide +kernel
theorem dX1_init_48 : decode cX1_init 48 = .ok (.aload_n 0, 1) := by decide +kernel
theorem dX1_init_49 : decode cX1_init 49 = .ok (.iconst 0, 1) := by decide +kernel
theorem dX1_init_50 : decode cX1_init 50 = .ok (.putfield 22, 3) := by decide +kernel
theorem dX1_init_53 : decode cX1_init 53 = .ok (.return_, 1) := by decide +kernel
theorem dX1_save_0 : decode cX1_save 0 = .ok (.aload_n 0, 1) := by decide +kernel
theorem dX1_save_1 : decode cX1_save 1 = .ok (.getfield 22, 3) := by decide +kernel
theorem dX1_save_4 : decode cX1_save 4 = .ok (.bipush 6, 2) := by decide +kernel
theorem dX1_save_6 : decode cX1_save 6 = .ok (.if_icmp .lt 26, 3) := by decide +kernel
theorem dX1_save_9 : decode cX1_save 9 = .ok (.aload_n 0, 1) := by decide +kernel
theorem dX1_save_10 : decode cX1_save 10 = .ok (.aload_n 0, 1) := by decide +kernel
theorem dX1_save_11 : decode cX1_save 11 = .ok (.getfield 18, 3) := by decide +kernel
theorem dX1_save_14 : decode cX1_save 14 = .ok (.iconst 1, 1) := by decide +kernel
theorem dX1_save_15 : decode cX1_save 15 = .ok (.iadd, 1) := by decide +kernel
theorem dX1_save_16 : decode cX1_save 16 = .ok (.bipush 6, 2) := by decide +kernel
theorem dX1_save_18 : decode cX1_save 18 = .ok (.irem, 1) := by decide +kernel
theorem dX1_save_19 : decode cX1_save 19 = .ok (.putfield 18, 3) := by decide +kernel
theorem dX1_save_22 : decode cX1_save 22 = .ok (.aload_n 0, 1) := by decide +kernel
theorem dX1_save_23 : decode cX1_save 23 = .ok (.dup, 1) := by decide +kernel
theorem dX1_save_24 : decode cX1_save 24 = .ok (.getfield 22, 3) := by decide +kernel
theorem dX1_save_27 : decode cX1_save 27 = .ok (.iconst 1, 1) := by decide +kernel
theorem dX1_save_28 : decode cX1_save 28 = .ok (.isub, 1) := by decide +kernel
theorem dX1_save_29 : decode cX1_save 29 = .ok (.putfield 22, 3) := by decide +kernel
theorem dX1_save_32 : decode cX1_save 32 = .ok (.aload_n 0, 1) := by decide +kernel
theorem dX1_save_33 : decode cX1_save 33 = .ok (.aload_n 0, 1) := by decide +kernel
theorem dX1_save_34 : decode cX1_save 34 = .ok (.getfield 18, 3) := by decide +kernel
theorem dX1_save_37 : decode cX1_save 37 = .ok (.aload_n 0, 1) := by decide +kernel
theorem dX1_save_38 : decode cX1_save 38 = .ok (.getfield 22, 3) := by decide +kernel
theorem dX1_save_41 : decode cX1_save 41 = .ok (.iadd, 1) := by decide +kernel
theorem dX1_save_42 : decode cX1_save 42 = .ok (.bipush 6, 2) := by decide +kernel
theorem dX1_save_44 : decode cX1_save 44 = .ok (.irem, 1) := by decide +kernel
theorem dX1_save_45 : decode cX1_save 45 = .ok (.invokevirtual 25, 3) := by decide +kernel
theorem dX1_save_48 : decode cX1_save 48 = .ok (.astore_n 2, 1) := by decide +kernel
theorem dX1_save_49 : decode cX1_save 49 = .ok (.aload_n 2, 1) := by decide +kernel
theorem dX1_save_50 : decode cX1_save 50 = .ok (.ifnull 18, 3) := by decide +kernel
theorem dX1_save_53 : decode cX1_save 53 = .ok (.aload_n 2, 1) := by decide +kernel
theorem dX1_save_54 : decode cX1_save 54 = .ok (.aload_n 1, 1) := by decide +kernel
theorem dX1_save_55 : decode cX1_save 55 = .ok (.invokevirtual 29, 3) := by decide +kernel
theorem dX1_save_58 : decode cX1_save 58 = .ok (.aload_n 0, 1) := by decide +kernel
theorem dX1_save_59 : decode cX1_save 59 = .ok (.dup, 1) := by decide +kernel
theorem dX1_save_60 : decode cX1_save 60 = .ok (.getfield 22, 3) := by decide +kernel
theorem dX1_save_63 : decode cX1_save 63 = .ok (.iconst 1, 1) := by decide +kernel
theorem dX1_save_64 : decode cX1_save 64 = .ok (.iadd, 1) := by decide +kernel
theorem dX1_save_65 : decode cX1_save 65 = .ok (.putfield 22, 3) := by decide +kernel
theorem dX1_save_68 : decode cX1_save 68 = .ok (.return_, 1) := by decide +kernel
theorem dX1_restore_0 : decode cX1_restore 0 = .ok (.aload_n 0, 1) := by decide +kernel
theorem dX1_restore_1 : decode cX1_restore 1 = .ok (.getfield 22, 3) := by decide +kernel
theorem dX1_restore_4 : decode cX1_restore 4 = .ok (.ifCond .gt 4, 3) := by decide +kernel
theorem dX1_restore_7 : decode cX1_restore 7 = .ok (.return_, 1) := by decide +kernel
theorem dX1_restore_8 : decode cX1_restore 8 = .ok (.aload_n 0, 1) := by decide +kernel
theorem dX1_restore_9 : decode cX1_restore 9 = .ok (.dup, 1) := by decide +kernel
theorem dX1_restore_10 : decode cX1_restore 10 = .ok (.getfield 22, 3) := by decide +kernel
theorem dX1_restore_13 : decode cX1_restore 13 = .ok (.iconst 1, 1) := by decide +kernel
theorem dX1_restore_14 : decode cX1_restore 14 = .ok (.isub, 1) := by decide +kernel
theorem dX1_restore_15 : decode cX1_restore 15 = .ok (.putfield 22, 3) := by decide +kernel
theorem dX1_restore_18 : decode cX1_restore 18 = .ok (.aload_n 0, 1) := by decide +kernel
theorem dX1_restore_19 : decode cX1_restore 19 = .ok (.aload_n 0, 1) := by decide +kernel
theorem dX1_restore_20 : decode cX1_restore 20 = .ok (.getfield 18, 3) := by decide +kernel
theorem dX1_restore_23 : decode cX1_restore 23 = .ok (.aload_n 0, 1) := by decide +kernel
theorem dX1_restore_24 : decode cX1_restore 24 = .ok (.getfield 22, 3) := by decide +kernel
theorem dX1_restore_27 : decode cX1_restore 27 = .ok (.iadd, 1) := by decide +kernel
theorem dX1_restore_28 : decode cX1_restore 28 = .ok (.bipush 6, 2) := by decide +kernel
theorem dX1_restore_30 : decode cX1_restore 30 = .ok (.irem, 1) := by decide +kernel
theorem dX1_restore_31 : decode cX1_restore 31 = .ok (.invokevirtual 25, 3) := by decide +kernel
theorem dX1_restore_34 : decode cX1_restore 34 = .ok (.astore_n 2, 1) := by decide +kernel
theorem dX1_restore_35 : decode cX1_restore 35 = .ok (.aload_n 2, 1) := by decide +kernel
theorem dX1_restore_36 : decode cX1_restore 36 = .ok (.ifnull 8, 3) := by decide +kernel
theorem dX1_restore_39 : decode cX1_restore 39 = .ok (.aload_n 1, 1) := by decide +kernel
theorem dX1_restore_40 : decode cX1_restore 40 = .ok (.aload_n 2, 1) := by decide +kernel
theorem dX1_restore_41 : decode cX1_restore 41 = .ok (.invokevirtual 29, 3) := by decide +kernel
theorem dX1_restore_44 : decode cX1_restore 44 = .ok (.return_, 1) := by decide +kernel
theorem dX1_stateAt_0 : decode cX1_stateAt 0 = .ok (.iload_n 1, 1) := by decide +kernel
theorem dX1_stateAt_1 : decode cX1_stateAt 1 = .ok (.ifCond .lt 21, 3) := by decide +kernel
theorem dX1_stateAt_4 : decode cX1_stateAt 4 = .ok (.iload_n 1, 1) := by decide +kernel
theorem dX1_stateAt_5 : decode cX1_stateAt 5 = .ok (.aload_n 0, 1) := by decide +kernel
theorem dX1_stateAt_6 : decode cX1_stateAt 6 = .ok (.getfield 11, 3) := by decide +kernel
theorem dX1_stateAt_9 : decode cX1_stateAt 9 = .ok (.arraylength, 1) := by decide +kernel
theorem dX1_stateAt_10 : decode cX1_stateAt 10 = .ok (.if_icmp .ge 12, 3) := by decide +kernel
theorem dX1_stateAt_13 : decode cX1_stateAt 13 = .ok (.aload_n 0, 1) := by decide +kernel
theorem dX1_stateAt_14 : decode cX1_stateAt 14 = .ok (.getfield 11, 3) := by decide +kernel
theorem dX1_stateAt_17 : decode cX1_stateAt 17 = .ok (.iload_n 1, 1) := by decide +kernel
theorem dX1_stateAt_18 : decode cX1_stateAt 18 = .ok (.aaload, 1) := by decide +kernel
theorem dX1_stateAt_19 : decode cX1_stateAt 19 = .ok (.goto 4, 3) := by decide +kernel
theorem dX1_stateAt_22 : decode cX1_stateAt 22 = .ok (.aconst_null, 1) := by decide +kernel
theorem dX1_stateAt_23 : decode cX1_stateAt 23 = .ok (.areturn, 1) := by decide +kernel
theorem dX2_init_0 : decode cX2_init 0 = .ok (.aload_n 0, 1) := by decide +kernel
theorem dX2_init_1 : decode cX2_init 1 = .ok (.invokespecial 3, 3) := by decide +kernel
theorem dX2_init_4 : decode cX2_init 4 = .ok (.aload_n 0, 1) := by decide +kernel
theorem dX2_init_5 : decode cX2_init 5 = .ok (.bipush 7, 2) := by decide +kernel
theorem dX2_init_7 : decode cX2_init 7 = .ok (.newarray .int, 2) := by decide +kernel
theorem dX2_init_9 : decode cX2_init 9 = .ok (.putfield 9, 3) := by decide +kernel
theorem dX2_init_12 : decode cX2_init 12 = .ok (.aload_n 0, 1) := by decide +kernel
theorem dX2_init_13 : decode cX2_init 13 = .ok (.bipush 7, 2) := by decide +kernel
theorem dX2_init_15 : decode cX2_init 15 = .ok (.newarray .int, 2) := by decide +kernel
theorem dX2_init_17 : decode cX2_init 17 = .ok (.putfield 15, 3) := by decide +kernel
theorem dX2_init_20 : decode cX2_init 20 = .ok (.aload_n 0, 1) := by decide +kernel
theorem dX2_init_21 : decode cX2_init 21 = .ok (.bipush 7, 2) := by decide +kernel
theorem dX2_init_23 : decode cX2_init 23 = .ok (.newarray .int, 2) := by decide +kernel
theorem dX2_init_25 : decode cX2_init 25 = .ok (.putfield 18, 3) := by decide +kernel
theorem dX2_init_28 : decode cX2_init 28 = .ok (.aload_n 0, 1) := by decide +kernel
theorem dX2_init_29 : decode cX2_init 29 = .ok (.bipush 7, 2) := by decide +kernel
theorem dX2_init_31 : decode cX2_init 31 = .ok (.newarray .int, 2) := by decide +kernel
theorem dX2_init_33 : decode cX2_init 33 = .ok (.putfield 21, 3) := by decide +kernel
theorem dX2_init_36 : decode cX2_init 36 = .ok (.aload_n 0, 1) := by decide +kernel
theorem dX2_init_37 : decode cX2_init 37 = .ok (.iconst 0, 1) := by decide +kernel
theorem dX2_init_38 : decode cX2_init 38 = .ok (.putfield 24, 3) := by decide +kernel
theorem dX2_init_41 : decode cX2_init 41 = .ok (.aload_n 0, 1) := by decide +kernel
theorem dX2_init_42 : decode cX2_init 42 = .ok (.iconst 0, 1) := by decide +kernel
theorem dX2_init_43 : decode cX2_init 43 = .ok (.putfield 28, 3) := by decide +kernel
theorem dX2_init_46 : decode cX2_init 46 = .ok (.return_, 1) := by decide +kernel
theorem dX2_copyFrom_0 : decode cX2_copyFrom 0 = .ok (.aload_n 1, 1) := by decide +kernel
theorem dX2_copyFrom_1 : decode cX2_copyFrom 1 = .ok (.getfield 9, 3) := by decide +kernel
theorem dX2_copyFrom_4 : decode cX2_copyFrom 4 = .ok (.aload_n 0, 1) := by decide +kernel
theorem dX2_copyFrom_5 : decode cX2_copyFrom 5 = .ok (.getfield 9, 3) := by decide +kernel
theorem dX2_copyFrom_8 : decode cX2_copyFrom 8 = .ok (.invokestatic 31, 3) := by decide +kernel
theorem dX2_copyFrom_11 : decode cX2_copyFrom 11 = .ok (.aload_n 1, 1) := by decide +kernel
theorem dX2_copyFrom_12 : decode cX2_copyFrom 12 = .ok (.getfield 15, 3) := by decide +kernel
theorem dX2_copyFrom_15 : decode cX2_copyFrom 15 = .ok (.aload_n 0, 1) := by decide +kernel
theorem dX2_copyFrom_16 : decode cX2_copyFrom 16 = .ok (.getfield 15, 3) := by decide +kernel
theorem dX2_copyFrom_19 : decode cX2_copyFrom 19 = .ok (.invokestatic 31, 3) := by decide +kernel
theorem dX2_copyFrom_22 : decode cX2_copyFrom 22 = .ok (.aload_n 1, 1) := by decide +kernel
theorem dX2_copyFrom_23 : decode cX2_copyFrom 23 = .ok (.getfield 18, 3) := by decide +kernel
theorem dX2_copyFrom_26 : decode cX2_copyFrom 26 = .ok (.aload_n 0, 1) := by decide +kernel
theorem dX2_copyFrom_27 : decode cX2_copyFrom 27 = .ok (.getfield 18, 3) := by decide +kernel
theorem dX2_copyFrom_30 : decode cX2_copyFrom 30 = .ok (.invokestatic 31, 3) := by decide +kernel
theorem dX2_copyFrom_33 : decode cX2_copyFrom 33 = .ok (.aload_n 1, 1) := by decide +kernel
theorem dX2_copyFrom_34 : decode cX2_copyFrom 34 = .ok (.getfield 21, 3) := by decide +kernel
theorem dX2_copyFrom_37 : decode cX2_copyFrom 37 = .ok (.aload_n 0, 1) := by decide +kernel
theorem dX2_copyFrom_38 : decode cX2_copyFrom 38 = .ok (.getfield 21, 3) := by decide +kernel
theorem dX2_copyFrom_41 : decode cX2_copyFrom 41 = .ok (.invokestatic 31, 3) := by decide +kernel
theorem dX2_copyFrom_44 : decode cX2_copyFrom 44 = .ok (.aload_n 0, 1) := by decide +kernel
theorem dX2_copyFrom_45 : decode cX2_copyFrom 45 = .ok (.aload_n 1, 1) := by decide +kernel
theorem dX2_copyFrom_46 : decode cX2_copyFrom 46 = .ok (.getfield 24, 3) := by decide +kernel
theorem dX2_copyFrom_49 : decode cX2_copyFrom 49 = .ok (.putfield 24, 3) := by decide +kernel
theorem dX2_copyFrom_52 : decode cX2_copyFrom 52 = .ok (.aload_n 0, 1) := by decide +kernel
theorem dX2_copyFrom_53 : decode cX2_copyFrom 53 = .ok (.aload_n 1, 1) := by decide +kernel
theorem dX2_copyFrom_54 : decode cX2_copyFrom 54 = .ok (.getfield 28, 3) := by decide +kernel
theorem dX2_copyFrom_57 : decode cX2_copyFrom 57 = .ok (.putfield 28, 3) := by decide +kernel
theorem dX2_copyFrom_60 : decode cX2_copyFrom 60 = .ok (.return_, 1) := by decide +kernel
theorem dX2_enter_0 : decode cX2_enter 0 = .ok (.aload_n 0, 1) := by decide +kernel
theorem dX2_enter_1 : decode cX2_enter 1 = .ok (.getfield 24, 3) := by decide +kernel
theorem dX2_enter_4 : decode cX2_enter 4 = .ok (.aload_n 0, 1) := by decide +kernel
theorem dX2_enter_5 : decode cX2_enter 5 = .ok (.getfield 9, 3) := by decide +kernel
theorem dX2_enter_8 : decode cX2_enter 8 = .ok (.arraylength, 1) := by decide +kernel
theorem dX2_enter_9 : decode cX2_enter 9 = .ok (.if_icmp .lt 5, 3) := by decide +kernel
theorem dX2_enter_12 : decode cX2_enter 12 = .ok (.iconst (-1), 1) := by decide +kernel
theorem dX2_enter_13 : decode cX2_enter 13 = .ok (.ireturn, 1) := by decide +kernel
theorem dX2_enter_14 : decode cX2_enter 14 = .ok (.aload_n 0, 1) := by decide +kernel
theorem dX2_enter_15 : decode cX2_enter 15 = .ok (.getfield 28, 3) := by decide +kernel
theorem dX2_enter_18 : decode cX2_enter 18 = .ok (.istore 4, 2) := by decide +kernel
theorem dX2_enter_20 : decode cX2_enter 20 = .ok (.aload_n 0, 1) := by decide +kernel
theorem dX2_enter_21 : decode cX2_enter 21 = .ok (.getfield 9, 3) := by decide +kernel
theorem dX2_enter_24 : decode cX2_enter 24 = .ok (.aload_n 0, 1) := by decide +kernel
theorem dX2_enter_25 : decode cX2_enter 25 = .ok (.getfield 24, 3) := by decide +kernel
theorem dX2_enter_28 : decode cX2_enter 28 = .ok (.iload 4, 2) := by decide +kernel
theorem dX2_enter_30 : decode cX2_enter 30 = .ok (.invokestatic 35, 3) := by decide +kernel
theorem dX2_enter_33 : decode cX2_enter 33 = .ok (.aload_n 0, 1) := by decide +kernel
theorem dX2_enter_34 : decode cX2_enter 34 = .ok (.getfield 15, 3) := by decide +kernel
theorem dX2_enter_37 : decode cX2_enter 37 = .ok (.aload_n 0, 1) := by decide +kernel
theorem dX2_enter_38 : decode cX2_enter 38 = .ok (.getfield 24, 3) := by decide +kernel
theorem dX2_enter_41 : decode cX2_enter 41 = .ok (.iload_n 1, 1) := by decide +kernel
theorem dX2_enter_42 : decode cX2_enter 42 = .ok (.invokestatic 35, 3) := by decide +kernel
theorem dX2_enter_45 : decode cX2_enter 45 = .ok (.aload_n 0, 1) := by decide +kernel
theorem dX2_enter_46 : decode cX2_enter 46 = .ok (.aload_n 0, 1) := by decide +kernel
theorem dX2_enter_47 : decode cX2_enter 47 = .ok (.getfield 24, 3) := by decide +kernel
theorem dX2_enter_50 : decode cX2_enter 50 = .ok (.iload_n 2, 1) := by decide +kernel
theorem dX2_enter_51 : decode cX2_enter 51 = .ok (.iload_n 3, 1) := by decide +kernel
theorem dX2_enter_52 : decode cX2_enter 52 = .ok (.invokevirtual 39, 3) := by decide +kernel
theorem dX2_enter_55 : decode cX2_enter 55 = .ok (.aload_n 0, 1) := by decide +kernel
theorem dX2_enter_56 : decode cX2_enter 56 = .ok (.dup, 1) := by decide +kernel
theorem dX2_enter_57 : decode cX2_enter 57 = .ok (.getfield 24, 3) := by decide +kernel
theorem dX2_enter_60 : decode cX2_enter 60 = .ok (.iconst 1, 1) := by decide +kernel
theorem dX2_enter_61 : decode cX2_enter 61 = .ok (.iadd, 1) := by decide +kernel
theorem dX2_enter_62 : decode cX2_enter 62 = .ok (.putfield 24, 3) := by decide +kernel
theorem dX2_enter_65 : decode cX2_enter 65 = .ok (.aload_n 0, 1) := by decide +kernel
theorem dX2_enter_66 : decode cX2_enter 66 = .ok (.dup, 1) := by decide +kernel
theorem dX2_enter_67 : decode cX2_enter 67 = .ok (.getfield 28, 3) := by decide +kernel
theorem dX2_enter_70 : decode cX2_enter 70 = .ok (.iconst 1, 1) := by decide +kernel
theorem dX2_enter_71 : decode cX2_enter 71 = .ok (.iadd, 1) := by decide +kernel
theorem dX2_enter_72 : decode cX2_enter 72 = .ok (.putfield 28, 3) := by decide +kernel
theorem dX2_enter_75 : decode cX2_enter 75 = .ok (.iload 4, 2) := by decide +kernel
theorem dX2_enter_77 : decode cX2_enter 77 = .ok (.ireturn, 1) := by decide +kernel
theorem dX2_sendTo_0 : decode cX2_sendTo 0 = .ok (.aload_n 0, 1) := by decide +kernel
theorem dX2_sendTo_1 : decode cX2_sendTo 1 = .ok (.getfield 18, 3) := by decide +kernel
theorem dX2_sendTo_4 : decode cX2_sendTo 4 = .ok (.iload_n 1, 1) := by decide +kernel
theorem dX2_sendTo_5 : decode cX2_sendTo 5 = .ok (.iload_n 2, 1) := by decide +kernel
theorem dX2_sendTo_6 : decode cX2_sendTo 6 = .ok (.invokestatic 35, 3) := by decide +kernel
theorem dX2_sendTo_9 : decode cX2_sendTo 9 = .ok (.aload_n 0, 1) := by decide +kernel
theorem dX2_sendTo_10 : decode cX2_sendTo 10 = .ok (.getfield 21, 3) := by decide +kernel
theorem dX2_sendTo_13 : decode cX2_sendTo 13 = .ok (.iload_n 1, 1) := by decide +kernel
theorem dX2_sendTo_14 : decode cX2_sendTo 14 = .ok (.aload_n 0, 1) := by decide +kernel
theorem dX2_sendTo_15 : decode cX2_sendTo 15 = .ok (.iload_n 1, 1) := by decide +kernel
theorem dX2_sendTo_16 : decode cX2_sendTo 16 = .ok (.invokevirtual 43, 3) := by decide +kernel
theorem dX2_sendTo_19 : decode cX2_sendTo 19 = .ok (.ifCond .eq 7, 3) := by decide +kernel
theorem dX2_sendTo_22 : decode cX2_sendTo 22 = .ok (.iconst 0, 1) := by decide +kernel
theorem dX2_sendTo_23 : decode cX2_sendTo 23 = .ok (.goto 4, 3) := by decide +kernel
theorem dX2_sendTo_26 : decode cX2_sendTo 26 = .ok (.iload_n 3, 1) := by decide +kernel
theorem dX2_sendTo_27 : decode cX2_sendTo 27 = .ok (.invokestatic 35, 3) := by decide +kernel
theorem dX2_sendTo_30 : decode cX2_sendTo 30 = .ok (.return_, 1) := by decide +kernel
theorem dX2_isThere_0 : decode cX2_isThere 0 = .ok (.aload_n 0, 1) := by decide +kernel
theorem dX2_isThere_1 : decode cX2_isThere 1 = .ok (.getfield 15, 3) := by decide +kernel
theorem dX2_isThere_4 : decode cX2_isThere 4 = .ok (.iload_n 1, 1) := by decide +kernel
theorem dX2_isThere_5 : decode cX2_isThere 5 = .ok (.invokestatic 47, 3) := by decide +kernel
theorem dX2_isThere_8 : decode cX2_isThere 8 = .ok (.aload_n 0, 1) := by decide +kernel
theorem dX2_isThere_9 : decode cX2_isThere 9 = .ok (.getfield 18, 3) := by decide +kernel
theorem dX2_isThere_12 : decode cX2_isThere 12 = .ok (.iload_n 1, 1) := by decide +kernel
theorem dX2_isThere_13 : decode cX2_isThere 13 = .ok (.invokestatic 47, 3) := by decide +kernel
theorem dX2_isThere_16 : decode cX2_isThere 16 = .ok (.if_icmp .ne 7, 3) := by decide +kernel
theorem dX2_isThere_19 : decode cX2_isThere 19 = .ok (.iconst 1, 1) := by decide +kernel
theorem dX2_isThere_20 : decode cX2_isThere 20 = .ok (.goto 4, 3) := by decide +kernel
theorem dX2_isThere_23 : decode cX2_isThere 23 = .ok (.iconst 0, 1) := by decide +kernel
theorem dX2_isThere_24 : decode cX2_isThere 24 = .ok (.ireturn, 1) := by decide +kernel
theorem dX2_placeOf_0 : decode cX2_placeOf 0 = .ok (.iconst 0, 1) := by decide +kernel
theorem dX2_placeOf_1 : decode cX2_placeOf 1 = .ok (.istore_n 2, 1) := by decide +kernel
theorem dX2_placeOf_2 : decode cX2_placeOf 2 = .ok (.iload_n 2, 1) := by decide +kernel
theorem dX2_placeOf_3 : decode cX2_placeOf 3 = .ok (.aload_n 0, 1) := by decide +kernel
theorem dX2_placeOf_4 : decode cX2_placeOf 4 = .ok (.getfield 24, 3) := by decide +kernel
theorem dX2_placeOf_7 : decode cX2_placeOf 7 = .ok (.if_icmp .ge 23, 3) := by decide +kernel
theorem dX2_placeOf_10 : decode cX2_placeOf 10 = .ok (.aload_n 0, 1) := by decide +kernel
theorem dX2_placeOf_11 : decode cX2_placeOf 11 = .ok (.getfield 9, 3) := by decide +kernel
theorem dX2_placeOf_14 : decode cX2_placeOf 14 = .ok (.iload_n 2, 1) := by decide +kernel
theorem dX2_placeOf_15 : decode cX2_placeOf 15 = .ok (.invokestatic 47, 3) := by decide +kernel
theorem dX2_placeOf_18 : decode cX2_placeOf 18 = .ok (.iload_n 1, 1) := by decide +kernel
theorem dX2_placeOf_19 : decode cX2_placeOf 19 = .ok (.if_icmp .ne 5, 3) := by decide +kernel
theorem dX2_placeOf_22 : decode cX2_placeOf 22 = .ok (.iload_n 2, 1) := by decide +kernel
theorem dX2_placeOf_23 : decode cX2_placeOf 23 = .ok (.ireturn, 1) := by decide +kernel
theorem dX2_placeOf_24 : decode cX2_placeOf 24 = .ok (.iinc 2 1, 3) := by decide +kernel
theorem dX2_placeOf_27 : decode cX2_placeOf 27 = .ok (.goto (-25), 3) := by decide +kernel
theorem dX2_placeOf_30 : decode cX2_placeOf 30 = .ok (.iconst (-1), 1) := by decide +kernel
theorem dX2_placeOf_31 : decode cX2_placeOf 31 = .ok (.ireturn, 1) := by decide +kernel
theorem dX2_peopleOn_0 : decode cX2_peopleOn 0 = .ok (.iconst 0, 1) := by decide +kernel
theorem dX2_peopleOn_1 : decode cX2_peopleOn 1 = .ok (.istore_n 2, 1) := by decide +kernel
theorem dX2_peopleOn_2 : decode cX2_peopleOn 2 = .ok (.iconst 0, 1) := by decide +kernel
theorem dX2_peopleOn_3 : decode cX2_peopleOn 3 = .ok (.istore_n 3, 1) := by decide +kernel
theorem dX2_peopleOn_4 : decode cX2_peopleOn 4 = .ok (.iload_n 3, 1) := by decide +kernel
theorem dX2_peopleOn_5 : decode cX2_peopleOn 5 = .ok (.aload_n 0, 1) := by decide +kernel
theorem dX2_peopleOn_6 : decode cX2_peopleOn 6 = .ok (.getfield 24, 3) := by decide +kernel
theorem dX2_peopleOn_9 : decode cX2_peopleOn 9 = .ok (.if_icmp .ge 24, 3) := by decide +kernel
theorem dX2_peopleOn_12 : decode cX2_peopleOn 12 = .ok (.aload_n 0, 1) := by decide +kernel
theorem dX2_peopleOn_13 : decode cX2_peopleOn 13 = .ok (.getfield 15, 3) := by decide +kernel
theorem dX2_peopleOn_16 : decode cX2_peopleOn 16 = .ok (.iload_n 3, 1) := by decide +kernel
theorem dX2_peopleOn_17 : decode cX2_peopleOn 17 = .ok (.invokestatic 47, 3) := by decide +kernel
theorem dX2_peopleOn_20 : decode cX2_peopleOn 20 = .ok (.iload_n 1, 1) := by decide +kernel
theorem dX2_peopleOn_21 : decode cX2_peopleOn 21 = .ok (.if_icmp .ne 6, 3) := by decide +kernel
theorem dX2_peopleOn_24 : decode cX2_peopleOn 24 = .ok (.iinc 2 1, 3) := by decide +kernel
theorem dX2_peopleOn_27 : decode cX2_peopleOn 27 = .ok (.iinc 3 1, 3) := by decide +kernel
theorem dX2_peopleOn_30 : decode cX2_peopleOn 30 = .ok (.goto (-26), 3) := by decide +kernel
theorem dX2_peopleOn_33 : decode cX2_peopleOn 33 = .ok (.iload_n 2, 1) := by decide +kernel
theorem dX2_peopleOn_34 : decode cX2_peopleOn 34 = .ok (.ireturn, 1) := by decide +kernel
theorem dX2_goOn_0 : decode cX2_goOn 0 = .ok (.iconst 0, 1) := by decide +kernel
theorem dX2_goOn_1 : decode cX2_goOn 1 = .ok (.istore_n 2, 1) := by decide +kernel
theorem dX2_goOn_2 : decode cX2_goOn 2 = .ok (.iconst 0, 1) := by decide +kernel
theorem dX2_goOn_3 : decode cX2_goOn 3 = .ok (.istore_n 3, 1) := by decide +kernel
theorem dX2_goOn_4 : decode cX2_goOn 4 = .ok (.iload_n 3, 1) := by decide +kernel
theorem dX2_goOn_5 : decode cX2_goOn 5 = .ok (.aload_n 0, 1) := by decide +kernel
theorem dX2_goOn_6 : decode cX2_goOn 6 = .ok (.getfield 24, 3) := by decide +kernel
theorem dX2_goOn_9 : decode cX2_goOn 9 = .ok (.if_icmp .ge 32, 3) := by decide +kernel
theorem dX2_goOn_12 : decode cX2_goOn 12 = .ok (.aload_n 0, 1) := by decide +kernel
theorem dX2_goOn_13 : decode cX2_goOn 13 = .ok (.iload_n 3, 1) := by decide +kernel
theorem dX2_goOn_14 : decode cX2_goOn 14 = .ok (.invokevirtual 43, 3) := by decide +kernel
theorem dX2_goOn_17 : decode cX2_goOn 17 = .ok (.ifCond .ne 18, 3) := by decide +kernel
theorem dX2_goOn_20 : decode cX2_goOn 20 = .ok (.aload_n 0, 1) := by decide +kernel
theorem dX2_goOn_21 : decode cX2_goOn 21 = .ok (.iload_n 3, 1) := by decide +kernel
theorem dX2_goOn_22 : decode cX2_goOn 22 = .ok (.iload_n 1, 1) := by decide +kernel
theorem dX2_goOn_23 : decode cX2_goOn 23 = .ok (.invokevirtual 51, 3) := by decide +kernel
theorem dX2_goOn_26 : decode cX2_goOn 26 = .ok (.aload_n 0, 1) := by decide +kernel
theorem dX2_goOn_27 : decode cX2_goOn 27 = .ok (.iload_n 3, 1) := by decide +kernel
theorem dX2_goOn_28 : decode cX2_goOn 28 = .ok (.iload_n 2, 1) := by decide +kernel
theorem dX2_goOn_29 : decode cX2_goOn 29 = .ok (.invokevirtual 55, 3) := by decide +kernel
theorem dX2_goOn_32 : decode cX2_goOn 32 = .ok (.iinc 2 1, 3) := by decide +kernel
theorem dX2_goOn_35 : decode cX2_goOn 35 = .ok (.iinc 3 1, 3) := by decide +kernel
theorem dX2_goOn_38 : decode cX2_goOn 38 = .ok (.goto (-34), 3) := by decide +kernel
theorem dX2_goOn_41 : decode cX2_goOn 41 = .ok (.aload_n 0, 1) := by decide +kernel
theorem dX2_goOn_42 : decode cX2_goOn 42 = .ok (.iload_n 2, 1) := by decide +kernel
theorem dX2_goOn_43 : decode cX2_goOn 43 = .ok (.putfield 24, 3) := by decide +kernel
theorem dX2_goOn_46 : decode cX2_goOn 46 = .ok (.return_, 1) := by decide +kernel
theorem dX2_walk_0 : decode cX2_walk 0 = .ok (.aload_n 0, 1) := by decide +kernel
theorem dX2_walk_1 : decode cX2_walk 1 = .ok (.getfield 21, 3) := by decide +kernel
theorem dX2_walk_4 : decode cX2_walk 4 = .ok (.iload_n 1, 1) := by decide +kernel
theorem dX2_walk_5 : decode cX2_walk 5 = .ok (.iconst (-1), 1) := by decide +kernel
theorem dX2_walk_6 : decode cX2_walk 6 = .ok (.invokestatic 58, 3) := by decide +kernel
theorem dX2_walk_9 : decode cX2_walk 9 = .ok (.aload_n 0, 1) := by decide +kernel
theorem dX2_walk_10 : decode cX2_walk 10 = .ok (.getfield 21, 3) := by decide +kernel
theorem dX2_walk_13 : decode cX2_walk 13 = .ok (.iload_n 1, 1) := by decide +kernel
theorem dX2_walk_14 : decode cX2_walk 14 = .ok (.invokestatic 47, 3) := by decide +kernel
theorem dX2_walk_17 : decode cX2_walk 17 = .ok (.ifCond .le 4, 3) := by decide +kernel
theorem dX2_walk_20 : decode cX2_walk 20 = .ok (.return_, 1) := by decide +kernel
theorem dX2_walk_21 : decode cX2_walk 21 = .ok (.aload_n 0, 1) := by decide +kernel
theorem dX2_walk_22 : decode cX2_walk 22 = .ok (.getfield 15, 3) := by decide +kernel
theorem dX2_walk_25 : decode cX2_walk 25 = .ok (.iload_n 1, 1) := by decide +kernel
theorem dX2_walk_26 : decode cX2_walk 26 = .ok (.aload_n 0, 1) := by decide +kernel
theorem dX2_walk_27 : decode cX2_walk 27 = .ok (.getfield 18, 3) := by decide +kernel
theorem dX2_walk_30 : decode cX2_walk 30 = .ok (.iload_n 1, 1) := by decide +kernel
theorem dX2_walk_31 : decode cX2_walk 31 = .ok (.invokestatic 47, 3) := by decide +kernel
theorem dX2_walk_34 : decode cX2_walk 34 = .ok (.aload_n 0, 1) := by decide +kernel
theorem dX2_walk_35 : decode cX2_walk 35 = .ok (.getfield 15, 3) := by decide +kernel
theorem dX2_walk_38 : decode cX2_walk 38 = .ok (.iload_n 1, 1) := by decide +kernel
theorem dX2_walk_39 : decode cX2_walk 39 = .ok (.invokestatic 47, 3) := by decide +kernel
theorem dX2_walk_42 : decode cX2_walk 42 = .ok (.if_icmp .le 7, 3) := by decide +kernel
theorem dX2_walk_45 : decode cX2_walk 45 = .ok (.iconst 1, 1) := by decide +kernel
theorem dX2_walk_46 : decode cX2_walk 46 = .ok (.goto 4, 3) := by decide +kernel
theorem dX2_walk_49 : decode cX2_walk 49 = .ok (.iconst (-1), 1) := by decide +kernel
theorem dX2_walk_50 : decode cX2_walk 50 = .ok (.invokestatic 58, 3) := by decide +kernel
theorem dX2_walk_53 : decode cX2_walk 53 = .ok (.aload_n 0, 1) := by decide +kernel
theorem dX2_walk_54 : decode cX2_walk 54 = .ok (.getfield 21, 3) := by decide +kernel
theorem dX2_walk_57 : decode cX2_walk 57 = .ok (.iload_n 1, 1) := by decide +kernel
theorem dX2_walk_58 : decode cX2_walk 58 = .ok (.aload_n 0, 1) := by decide +kernel
theorem dX2_walk_59 : decode cX2_walk 59 = .ok (.iload_n 1, 1) := by decide +kernel
theorem dX2_walk_60 : decode cX2_walk 60 = .ok (.invokevirtual 43, 3) := by decide +kernel
theorem dX2_walk_63 : decode cX2_walk 63 = .ok (.ifCond .eq 7, 3) := by decide +kernel
theorem dX2_walk_66 : decode cX2_walk 66 = .ok (.iconst 0, 1) := by decide +kernel
theorem dX2_walk_67 : decode cX2_walk 67 = .ok (.goto 4, 3) := by decide +kernel
theorem dX2_walk_70 : decode cX2_walk 70 = .ok (.iload_n 2, 1) := by decide +kernel
theorem dX2_walk_71 : decode cX2_walk 71 = .ok (.invokestatic 35, 3) := by decide +kernel
theorem dX2_walk_74 : decode cX2_walk 74 = .ok (.return_, 1) := by decide +kernel
theorem dX2_moveUp_0 : decode cX2_moveUp 0 = .ok (.aload_n 0, 1) := by decide +kernel
theorem dX2_moveUp_1 : decode cX2_moveUp 1 = .ok (.getfield 9, 3) := by decide +kernel
theorem dX2_moveUp_4 : decode cX2_moveUp 4 = .ok (.iload_n 2, 1) := by decide +kernel
theorem dX2_moveUp_5 : decode cX2_moveUp 5 = .ok (.aload_n 0, 1) := by decide +kernel
theorem dX2_moveUp_6 : decode cX2_moveUp 6 = .ok (.getfield 9, 3) := by decide +kernel
theorem dX2_moveUp_9 : decode cX2_moveUp 9 = .ok (.iload_n 1, 1) := by decide +kernel
theorem dX2_moveUp_10 : decode cX2_moveUp 10 = .ok (.invokestatic 47, 3) := by decide +kernel
theorem dX2_moveUp_13 : decode cX2_moveUp 13 = .ok (.invokestatic 35, 3) := by decide +kernel
theorem dX2_moveUp_16 : decode cX2_moveUp 16 = .ok (.aload_n 0, 1) := by decide +kernel
theorem dX2_moveUp_17 : decode cX2_moveUp 17 = .ok (.getfield 15, 3) := by decide +kernel
theorem dX2_moveUp_20 : decode cX2_moveUp 20 = .ok (.iload_n 2, 1) := by decide +kernel
theorem dX2_moveUp_21 : decode cX2_moveUp 21 = .ok (.aload_n 0, 1) := by decide +kernel
theorem dX2_moveUp_22 : decode cX2_moveUp 22 = .ok (.getfield 15, 3) := by decide +kernel
theorem dX2_moveUp_25 : decode cX2_moveUp 25 = .ok (.iload_n 1, 1) := by decide +kernel
theorem dX2_moveUp_26 : decode cX2_moveUp 26 = .ok (.invokestatic 47, 3) := by decide +kernel
theorem dX2_moveUp_29 : decode cX2_moveUp 29 = .ok (.invokestatic 35, 3) := by decide +kernel
theorem dX2_moveUp_32 : decode cX2_moveUp 32 = .ok (.aload_n 0, 1) := by decide +kernel
theorem dX2_moveUp_33 : decode cX2_moveUp 33 = .ok (.getfield 18, 3) := by decide +kernel
theorem dX2_moveUp_36 : decode cX2_moveUp 36 = .ok (.iload_n 2, 1) := by decide +kernel
theorem dX2_moveUp_37 : decode cX2_moveUp 37 = .ok (.aload_n 0, 1) := by decide +kernel
theorem dX2_moveUp_38 : decode cX2_moveUp 38 = .ok (.getfield 18, 3) := by decide +kernel
theorem dX2_moveUp_41 : decode cX2_moveUp 41 = .ok (.iload_n 1, 1) := by decide +kernel
theorem dX2_moveUp_42 : decode cX2_moveUp 42 = .ok (.invokestatic 47, 3) := by decide +kernel
theorem dX2_moveUp_45 : decode cX2_moveUp 45 = .ok (.invokestatic 35, 3) := by decide +kernel
theorem dX2_moveUp_48 : decode cX2_moveUp 48 = .ok (.aload_n 0, 1) := by decide +kernel
theorem dX2_moveUp_49 : decode cX2_moveUp 49 = .ok (.getfield 21, 3) := by decide +kernel
theorem dX2_moveUp_52 : decode cX2_moveUp 52 = .ok (.iload_n 2, 1) := by decide +kernel
theorem dX2_moveUp_53 : decode cX2_moveUp 53 = .ok (.aload_n 0, 1) := by decide +kernel
theorem dX2_moveUp_54 : decode cX2_moveUp 54 = .ok (.getfield 21, 3) := by decide +kernel
theorem dX2_moveUp_57 : decode cX2_moveUp 57 = .ok (.iload_n 1, 1) := by decide +kernel
theorem dX2_moveUp_58 : decode cX2_moveUp 58 = .ok (.invokestatic 47, 3) := by decide +kernel
theorem dX2_moveUp_61 : decode cX2_moveUp 61 = .ok (.invokestatic 35, 3) := by decide +kernel
theorem dX2_moveUp_64 : decode cX2_moveUp 64 = .ok (.return_, 1) := by decide +kernel
theorem dX2_personNumber_0 : decode cX2_personNumber 0 = .ok (.iload_n 1, 1) := by decide +kernel
theorem dX2_personNumber_1 : decode cX2_personNumber 1 = .ok (.aload_n 0, 1) := by decide +kernel
theorem dX2_personNumber_2 : decode cX2_personNumber 2 = .ok (.getfield 24, 3) := by decide +kernel
theorem dX2_personNumber_5 : decode cX2_personNumber 5 = .ok (.if_icmp .lt 5, 3) := by decide +kernel
theorem dX2_personNumber_8 : decode cX2_personNumber 8 = .ok (.iconst (-1), 1) := by decide +kernel
theorem dX2_personNumber_9 : decode cX2_personNumber 9 = .ok (.ireturn, 1) := by decide +kernel
theorem dX2_personNumber_10 : decode cX2_personNumber 10 = .ok (.iload_n 2, 1) := by decide +kernel
theorem dX2_personNumber_11 : decode cX2_personNumber 11 = .ok (.tableswitch 52 0 2 #[25, 34, 43], 25) := by decide +kernel
theorem dX2_personNumber_36 : decode cX2_personNumber 36 = .ok (.aload_n 0, 1) := by decide +kernel
theorem dX2_personNumber_37 : decode cX2_personNumber 37 = .ok (.getfield 9, 3) := by decide +kernel
theorem dX2_personNumber_40 : decode cX2_personNumber 40 = .ok (.iload_n 1, 1) := by decide +kernel
theorem dX2_personNumber_41 : decode cX2_personNumber 41 = .ok (.invokestatic 47, 3) := by decide +kernel
theorem dX2_personNumber_44 : decode cX2_personNumber 44 = .ok (.ireturn, 1) := by decide +kernel
theorem dX2_personNumber_45 : decode cX2_personNumber 45 = .ok (.aload_n 0, 1) := by decide +kernel
theorem dX2_personNumber_46 : decode cX2_personNumber 46 = .ok (.getfield 15, 3) := by decide +kernel
theorem dX2_personNumber_49 : decode cX2_personNumber 49 = .ok (.iload_n 1, 1) := by decide +kernel
theorem dX2_personNumber_50 : decode cX2_personNumber 50 = .ok (.invokestatic 47, 3) := by decide +kernel
theorem dX2_personNumber_53 : decode cX2_personNumber 53 = .ok (.ireturn, 1) := by decide +kernel
theorem dX2_personNumber_54 : decode cX2_personNumber 54 = .ok (.aload_n 0, 1) := by decide +kernel
theorem dX2_personNumber_55 : decode cX2_personNumber 55 = .ok (.getfield 18, 3) := by decide +kernel
theorem dX2_personNumber_58 : decode cX2_personNumber 58 = .ok (.iload_n 1, 1) := by decide +kernel
theorem dX2_personNumber_59 : decode cX2_personNumber 59 = .ok (.invokestatic 47, 3) := by decide +kernel
theorem dX2_personNumber_62 : decode cX2_personNumber 62 = .ok (.ireturn, 1) := by decide +kernel
theorem dX2_personNumber_63 : decode cX2_personNumber 63 = .ok (.aload_n 0, 1) := by decide +kernel
theorem dX2_personNumber_64 : decode cX2_personNumber 64 = .ok (.getfield 21, 3) := by decide +kernel
theorem dX2_personNumber_67 : decode cX2_personNumber 67 = .ok (.iload_n 1, 1) := by decide +kernel
theorem dX2_personNumber_68 : decode cX2_personNumber 68 = .ok (.invokestatic 47, 3) := by decide +kernel
theorem dX2_personNumber_71 : decode cX2_personNumber 71 = .ok (.ireturn, 1) := by decide +kernel
theorem dX3_init_0 : decode cX3_init 0 = .ok (.aload_n 0, 1) := by decide +kernel
theorem dX3_init_1 : decode cX3_init 1 = .ok (.invokespecial 3, 3) := by decide +kernel
theorem dX3_init_4 : decode cX3_init 4 = .ok (.aload_n 0, 1) := by decide +kernel
theorem dX3_init_5 : decode cX3_init 5 = .ok (.new 9, 3) := by decide +kernel
theorem dX3_init_8 : decode cX3_init 8 = .ok (.dup, 1) := by decide +kernel
theorem dX3_init_9 : decode cX3_init 9 = .ok (.invokespecial 11, 3) := by decide +kernel
theorem dX3_init_12 : decode cX3_init 12 = .ok (.putfield 12, 3) := by decide +kernel
theorem dX3_init_15 : decode cX3_init 15 = .ok (.aload_n 0, 1) := by decide +kernel
theorem dX3_init_16 : decode cX3_init 16 = .ok (.new 18, 3) := by decide +kernel
theorem dX3_init_19 : decode cX3_init 19 = .ok (.dup, 1) := by decide +kernel
theorem dX3_init_20 : decode cX3_init 20 = .ok (.invokespecial 20, 3) := by decide +kernel
theorem dX3_init_23 : decode cX3_init 23 = .ok (.putfield 21, 3) := by decide +kernel
theorem dX3_init_26 : decode cX3_init 26 = .ok (.aload_n 0, 1) := by decide +kernel
theorem dX3_init_27 : decode cX3_init 27 = .ok (.getstatic 25, 3) := by decide +kernel
theorem dX3_init_30 : decode cX3_init 30 = .ok (.arraylength, 1) := by decide +kernel
theorem dX3_init_31 : decode cX3_init 31 = .ok (.newarray .int, 2) := by decide +kernel
theorem dX3_init_33 : decode cX3_init 33 = .ok (.putfield 29, 3) := by decide +kernel
theorem dX3_init_36 : decode cX3_init 36 = .ok (.getstatic 25, 3) := by decide +kernel
theorem dX3_init_39 : decode cX3_init 39 = .ok (.aload_n 0, 1) := by decide +kernel
theorem dX3_init_40 : decode cX3_init 40 = .ok (.getfield 29, 3) := by decide +kernel
theorem dX3_init_43 : decode cX3_init 43 = .ok (.invokestatic 32, 3) := by decide +kernel
theorem dX3_init_46 : decode cX3_init 46 = .ok (.aload_n 0, 1) := by decide +kernel
theorem dX3_init_47 : decode cX3_init 47 = .ok (.iconst 0, 1) := by decide +kernel
theorem dX3_init_48 : decode cX3_init 48 = .ok (.putfield 36, 3) := by decide +kernel
theorem dX3_init_51 : decode cX3_init 51 = .ok (.aload_n 0, 1) := by decide +kernel
theorem dX3_init_52 : decode cX3_init 52 = .ok (.iconst 0, 1) := by decide +kernel
theorem dX3_init_53 : decode cX3_init 53 = .ok (.putfield 40, 3) := by decide +kernel
theorem dX3_init_56 : decode cX3_init 56 = .ok (.aload_n 0, 1) := by decide +kernel
theorem dX3_init_57 : decode cX3_init 57 = .ok (.iconst 0, 1) := by decide +kernel
theorem dX3_init_58 : decode cX3_init 58 = .ok (.putfield 43, 3) := by decide +kernel
theorem dX3_init_61 : decode cX3_init 61 = .ok (.aload_n 0, 1) := by decide +kernel
theorem dX3_init_62 : decode cX3_init 62 = .ok (.iconst 0, 1) := by decide +kernel
theorem dX3_init_63 : decode cX3_init 63 = .ok (.putfield 47, 3) := by decide +kernel
theorem dX3_init_66 : decode cX3_init 66 = .ok (.return_, 1) := by decide +kernel
theorem dX3_copyFrom_0 : decode cX3_copyFrom 0 = .ok (.aload_n 0, 1) := by decide +kernel
theorem dX3_copyFrom_1 : decode cX3_copyFrom 1 = .ok (.getfield 12, 3) := by decide +kernel
theorem dX3_copyFrom_4 : decode cX3_copyFrom 4 = .ok (.aload_n 1, 1) := by decide +kernel
theorem dX3_copyFrom_5 : decode cX3_copyFrom 5 = .ok (.getfield 12, 3) := by decide +kernel
theorem dX3_copyFrom_8 : decode cX3_copyFrom 8 = .ok (.invokevirtual 50, 3) := by decide +kernel
theorem dX3_copyFrom_11 : decode cX3_copyFrom 11 = .ok (.aload_n 0, 1) := by decide +kernel
theorem dX3_copyFrom_12 : decode cX3_copyFrom 12 = .ok (.getfield 21, 3) := by decide +kernel
theorem dX3_copyFrom_15 : decode cX3_copyFrom 15 = .ok (.aload_n 1, 1) := by decide +kernel
theorem dX3_copyFrom_16 : decode cX3_copyFrom 16 = .ok (.getfield 21, 3) := by decide +kernel
theorem dX3_copyFrom_19 : decode cX3_copyFrom 19 = .ok (.invokevirtual 54, 3) := by decide +kernel
theorem dX3_copyFrom_22 : decode cX3_copyFrom 22 = .ok (.aload_n 1, 1) := by decide +kernel
theorem dX3_copyFrom_23 : decode cX3_copyFrom 23 = .ok (.getfield 29, 3) := by decide +kernel
theorem dX3_copyFrom_26 : decode cX3_copyFrom 26 = .ok (.aload_n 0, 1) := by decide +kernel
theorem dX3_copyFrom_27 : decode cX3_copyFrom 27 = .ok (.getfield 29, 3) := by decide +kernel
theorem dX3_copyFrom_30 : decode cX3_copyFrom 30 = .ok (.invokestatic 32, 3) := by decide +kernel
theorem dX3_copyFrom_33 : decode cX3_copyFrom 33 = .ok (.aload_n 0, 1) := by decide +kernel
theorem dX3_copyFrom_34 : decode cX3_copyFrom 34 = .ok (.aload_n 1, 1) := by decide +kernel
theorem dX3_copyFrom_35 : decode cX3_copyFrom 35 = .ok (.getfield 36, 3) := by decide +kernel
theorem dX3_copyFrom_38 : decode cX3_copyFrom 38 = .ok (.putfield 36, 3) := by decide +kernel
theorem dX3_copyFrom_41 : decode cX3_copyFrom 41 = .ok (.aload_n 0, 1) := by decide +kernel
theorem dX3_copyFrom_42 : decode cX3_copyFrom 42 = .ok (.aload_n 1, 1) := by decide +kernel
theorem dX3_copyFrom_43 : decode cX3_copyFrom 43 = .ok (.getfield 40, 3) := by decide +kernel
theorem dX3_copyFrom_46 : decode cX3_copyFrom 46 = .ok (.putfield 40, 3) := by decide +kernel
theorem dX3_copyFrom_49 : decode cX3_copyFrom 49 = .ok (.aload_n 0, 1) := by decide +kernel
theorem dX3_copyFrom_50 : decode cX3_copyFrom 50 = .ok (.aload_n 1, 1) := by decide +kernel
theorem dX3_copyFrom_51 : decode cX3_copyFrom 51 = .ok (.getfield 43, 3) := by decide +kernel
theorem dX3_copyFrom_54 : decode cX3_copyFrom 54 = .ok (.putfield 43, 3) := by decide +kernel
theorem dX3_copyFrom_57 : decode cX3_copyFrom 57 = .ok (.aload_n 0, 1) := by decide +kernel
theorem dX3_copyFrom_58 : decode cX3_copyFrom 58 = .ok (.aload_n 1, 1) := by decide +kernel
theorem dX3_copyFrom_59 : decode cX3_copyFrom 59 = .ok (.getfield 47, 3) := by decide +kernel
theorem dX3_copyFrom_62 : decode cX3_copyFrom 62 = .ok (.putfield 47, 3) := by decide +kernel
theorem dX3_copyFrom_65 : decode cX3_copyFrom 65 = .ok (.return_, 1) := by decide +kernel
theorem dX3_letCome_0 : decode cX3_letCome 0 = .ok (.aload_n 0, 1) := by decide +kernel
theorem dX3_letCome_1 : decode cX3_letCome 1 = .ok (.getfield 21, 3) := by decide +kernel
theorem dX3_letCome_4 : decode cX3_letCome 4 = .ok (.iload_n 1, 1) := by decide +kernel
theorem dX3_letCome_5 : decode cX3_letCome 5 = .ok (.iload_n 2, 1) := by decide +kernel
theorem dX3_letCome_6 : decode cX3_letCome 6 = .ok (.aload_n 0, 1) := by decide +kernel
theorem dX3_letCome_7 : decode cX3_letCome 7 = .ok (.getfield 29, 3) := by decide +kernel
theorem dX3_letCome_10 : decode cX3_letCome 10 = .ok (.iconst 3, 1) := by decide +kernel
theorem dX3_letCome_11 : decode cX3_letCome 11 = .ok (.invokestatic 57, 3) := by decide +kernel
theorem dX3_letCome_14 : decode cX3_letCome 14 = .ok (.invokevirtual 61, 3) := by decide +kernel
theorem dX3_letCome_17 : decode cX3_letCome 17 = .ok (.ireturn, 1) := by decide +kernel
theorem dX3_switchOn_0 : decode cX3_switchOn 0 = .ok (.aload_n 0, 1) := by decide +kernel
theorem dX3_switchOn_1 : decode cX3_switchOn 1 = .ok (.getfield 12, 3) := by decide +kernel
theorem dX3_switchOn_4 : decode cX3_switchOn 4 = .ok (.iload_n 1, 1) := by decide +kernel
theorem dX3_switchOn_5 : decode cX3_switchOn 5 = .ok (.aload_n 0, 1) := by decide +kernel
theorem dX3_switchOn_6 : decode cX3_switchOn 6 = .ok (.getfield 29, 3) := by decide +kernel
theorem dX3_switchOn_9 : decode cX3_switchOn 9 = .ok (.iconst 0, 1) := by decide +kernel
theorem dX3_switchOn_10 : decode cX3_switchOn 10 = .ok (.invokestatic 57, 3) := by decide +kernel
theorem dX3_switchOn_13 : decode cX3_switchOn 13 = .ok (.invokevirtual 65, 3) := by decide +kernel
theorem dX3_switchOn_16 : decode cX3_switchOn 16 = .ok (.return_, 1) := by decide +kernel
theorem dX3_switchAllOn_0 : decode cX3_switchAllOn 0 = .ok (.iconst 0, 1) := by decide +kernel
theorem dX3_switchAllOn_1 : decode cX3_switchAllOn 1 = .ok (.istore_n 1, 1) := by decide +kernel
theorem dX3_switchAllOn_2 : decode cX3_switchAllOn 2 = .ok (.iload_n 1, 1) := by decide +kernel
theorem dX3_switchAllOn_3 : decode cX3_switchAllOn 3 = .ok (.bipush 8, 2) := by decide +kernel
theorem dX3_switchAllOn_5 : decode cX3_switchAllOn 5 = .ok (.if_icmp .ge 14, 3) := by decide +kernel
theorem dX3_switchAllOn_8 : decode cX3_switchAllOn 8 = .ok (.aload_n 0, 1) := by decide +kernel
theorem dX3_switchAllOn_9 : decode cX3_switchAllOn 9 = .ok (.iload_n 1, 1) := by decide +kernel
theorem dX3_switchAllOn_10 : decode cX3_switchAllOn 10 = .ok (.invokevirtual 69, 3) := by decide +kernel
theorem dX3_switchAllOn_13 : decode cX3_switchAllOn 13 = .ok (.iinc 1 1, 3) := by decide +kernel
theorem dX3_switchAllOn_16 : decode cX3_switchAllOn 16 = .ok (.goto (-14), 3) := by decide +kernel
theorem dX3_switchAllOn_19 : decode cX3_switchAllOn 19 = .ok (.return_, 1) := by decide +kernel
theorem dX3_lampOf_0 : decode cX3_lampOf 0 = .ok (.aload_n 0, 1) := by decide +kernel
theorem dX3_lampOf_1 : decode cX3_lampOf 1 = .ok (.getfield 40, 3) := by decide +kernel
theorem dX3_lampOf_4 : decode cX3_lampOf 4 = .ok (.ifCond .eq 5, 3) := by decide +kernel
theorem dX3_lampOf_7 : decode cX3_lampOf 7 = .ok (.iconst 3, 1) := by decide +kernel
theorem dX3_lampOf_8 : decode cX3_lampOf 8 = .ok (.ireturn, 1) := by decide +kernel
theorem dX3_lampOf_9 : decode cX3_lampOf 9 = .ok (.aload_n 0, 1) := by decide +kernel
theorem dX3_lampOf_10 : decode cX3_lampOf 10 = .ok (.getfield 12, 3) := by decide +kernel
theorem dX3_lampOf_13 : decode cX3_lampOf 13 = .ok (.getfield 73, 3) := by decide +kernel
theorem dX3_lampOf_16 : decode cX3_lampOf 16 = .ok (.iload_n 1, 1) := by decide +kernel
theorem dX3_lampOf_17 : decode cX3_lampOf 17 = .ok (.invokestatic 57, 3) := by decide +kernel
theorem dX3_lampOf_20 : decode cX3_lampOf 20 = .ok (.istore_n 2, 1) := by decide +kernel
theorem dX3_lampOf_21 : decode cX3_lampOf 21 = .ok (.iload_n 2, 1) := by decide +kernel
theorem dX3_lampOf_22 : decode cX3_lampOf 22 = .ok (.ifCond .ne 16, 3) := by decide +kernel
theorem dX3_lampOf_25 : decode cX3_lampOf 25 = .ok (.aload_n 0, 1) := by decide +kernel
theorem dX3_lampOf_26 : decode cX3_lampOf 26 = .ok (.getfield 36, 3) := by decide +kernel
theorem dX3_lampOf_29 : decode cX3_lampOf 29 = .ok (.ifCond .eq 7, 3) := by decide +kernel
theorem dX3_lampOf_32 : decode cX3_lampOf 32 = .ok (.iconst 1, 1) := by decide +kernel
theorem dX3_lampOf_33 : decode cX3_lampOf 33 = .ok (.goto 4, 3) := by decide +kernel
theorem dX3_lampOf_36 : decode cX3_lampOf 36 = .ok (.iconst 0, 1) := by decide +kernel
theorem dX3_lampOf_37 : decode cX3_lampOf 37 = .ok (.ireturn, 1) := by decide +kernel
theorem dX3_lampOf_38 : decode cX3_lampOf 38 = .ok (.iload_n 2, 1) := by decide +kernel
theorem dX3_lampOf_39 : decode cX3_lampOf 39 = .ok (.aload_n 0, 1) := by decide +kernel
theorem dX3_lampOf_40 : decode cX3_lampOf 40 = .ok (.getfield 29, 3) := by decide +kernel
theorem dX3_lampOf_43 : decode cX3_lampOf 43 = .ok (.iconst 1, 1) := by decide +kernel
theorem dX3_lampOf_44 : decode cX3_lampOf 44 = .ok (.invokestatic 57, 3) := by decide +kernel
theorem dX3_lampOf_47 : decode cX3_lampOf 47 = .ok (.if_icmp .gt 7, 3) := by decide +kernel
theorem dX3_lampOf_50 : decode cX3_lampOf 50 = .ok (.iconst 2, 1) := by decide +kernel
theorem dX3_lampOf_51 : decode cX3_lampOf 51 = .ok (.goto 4, 3) := by decide +kernel
theorem dX3_lampOf_54 : decode cX3_lampOf 54 = .ok (.iconst 3, 1) := by decide +kernel
theorem dX3_lampOf_55 : decode cX3_lampOf 55 = .ok (.ireturn, 1) := by decide +kernel
theorem dX3_lampsBurning_0 : decode cX3_lampsBurning 0 = .ok (.iconst 0, 1) := by decide +kernel
theorem dX3_lampsBurning_1 : decode cX3_lampsBurning 1 = .ok (.istore_n 1, 1) := by decide +kernel
theorem dX3_lampsBurning_2 : decode cX3_lampsBurning 2 = .ok (.iconst 0, 1) := by decide +kernel
theorem dX3_lampsBurning_3 : decode cX3_lampsBurning 3 = .ok (.istore_n 2, 1) := by decide +kernel
theorem dX3_lampsBurning_4 : decode cX3_lampsBurning 4 = .ok (.iload_n 2, 1) := by decide +kernel
theorem dX3_lampsBurning_5 : decode cX3_lampsBurning 5 = .ok (.bipush 8, 2) := by decide +kernel
theorem dX3_lampsBurning_7 : decode cX3_lampsBurning 7 = .ok (.if_icmp .ge 21, 3) := by decide +kernel
theorem dX3_lampsBurning_10 : decode cX3_lampsBurning 10 = .ok (.aload_n 0, 1) := by decide +kernel
theorem dX3_lampsBurning_11 : decode cX3_lampsBurning 11 = .ok (.iload_n 2, 1) := by decide +kernel
theorem dX3_lampsBurning_12 : decode cX3_lampsBurning 12 = .ok (.invokevirtual 76, 3) := by decide +kernel
theorem dX3_lampsBurning_15 : decode cX3_lampsBurning 15 = .ok (.iconst 2, 1) := by decide +kernel
theorem dX3_lampsBurning_16 : decode cX3_lampsBurning 16 = .ok (.if_icmp .lt 6, 3) := by decide +kernel
theorem dX3_lampsBurning_19 : decode cX3_lampsBurning 19 = .ok (.iinc 1 1, 3) := by decide +kernel
theorem dX3_lampsBurning_22 : decode cX3_lampsBurning 22 = .ok (.iinc 2 1, 3) := by decide +kernel
theorem dX3_lampsBurning_25 : decode cX3_lampsBurning 25 = .ok (.goto (-21), 3) := by decide +kernel
theorem dX3_lampsBurning_28 : decode cX3_lampsBurning 28 = .ok (.iload_n 1, 1) := by decide +kernel
theorem dX3_lampsBurning_29 : decode cX3_lampsBurning 29 = .ok (.ireturn, 1) := by decide +kernel
theorem dX3_letPass_0 : decode cX3_letPass 0 = .ok (.aload_n 0, 1) := by decide +kernel
theorem dX3_letPass_1 : decode cX3_letPass 1 = .ok (.getfield 12, 3) := by decide +kernel
theorem dX3_letPass_4 : decode cX3_letPass 4 = .ok (.getfield 80, 3) := by decide +kernel
theorem dX3_letPass_7 : decode cX3_letPass 7 = .ok (.invokestatic 83, 3) := by decide +kernel
theorem dX3_letPass_10 : decode cX3_letPass 10 = .ok (.istore_n 2, 1) := by decide +kernel
theorem dX3_letPass_11 : decode cX3_letPass 11 = .ok (.iconst 0, 1) := by decide +kernel
theorem dX3_letPass_12 : decode cX3_letPass 12 = .ok (.istore_n 3, 1) := by decide +kernel
theorem dX3_letPass_13 : decode cX3_letPass 13 = .ok (.iload_n 3, 1) := by decide +kernel
theorem dX3_letPass_14 : decode cX3_letPass 14 = .ok (.iload_n 1, 1) := by decide +kernel
theorem dX3_letPass_15 : decode cX3_letPass 15 = .ok (.if_icmp .ge 17, 3) := by decide +kernel
theorem dX3_letPass_18 : decode cX3_letPass 18 = .ok (.aload_n 0, 1) := by decide +kernel
theorem dX3_letPass_19 : decode cX3_letPass 19 = .ok (.invokevirtual 87, 3) := by decide +kernel
theorem dX3_letPass_22 : decode cX3_letPass 22 = .ok (.aload_n 0, 1) := by decide +kernel
theorem dX3_letPass_23 : decode cX3_letPass 23 = .ok (.invokevirtual 90, 3) := by decide +kernel
theorem dX3_letPass_26 : decode cX3_letPass 26 = .ok (.iinc 3 1, 3) := by decide +kernel
theorem dX3_letPass_29 : decode cX3_letPass 29 = .ok (.goto (-16), 3) := by decide +kernel
theorem dX3_letPass_32 : decode cX3_letPass 32 = .ok (.aload_n 0, 1) := by decide +kernel
theorem dX3_letPass_33 : decode cX3_letPass 33 = .ok (.getfield 12, 3) := by decide +kernel
theorem dX3_letPass_36 : decode cX3_letPass 36 = .ok (.getfield 80, 3) := by decide +kernel
theorem dX3_letPass_39 : decode cX3_letPass 39 = .ok (.invokestatic 83, 3) := by decide +kernel
theorem dX3_letPass_42 : decode cX3_letPass 42 = .ok (.iload_n 2, 1) := by decide +kernel
theorem dX3_letPass_43 : decode cX3_letPass 43 = .ok (.isub, 1) := by decide +kernel
theorem dX3_letPass_44 : decode cX3_letPass 44 = .ok (.ireturn, 1) := by decide +kernel
theorem dX3_beginSecond_0 : decode cX3_beginSecond 0 = .ok (.aload_n 0, 1) := by decide +kernel
theorem dX3_beginSecond_1 : decode cX3_beginSecond 1 = .ok (.getfield 21, 3) := by decide +kernel
theorem dX3_beginSecond_4 : decode cX3_beginSecond 4 = .ok (.aload_n 0, 1) := by decide +kernel
theorem dX3_beginSecond_5 : decode cX3_beginSecond 5 = .ok (.getfield 29, 3) := by decide +kernel
theorem dX3_beginSecond_8 : decode cX3_beginSecond 8 = .ok (.iconst 3, 1) := by decide +kernel
theorem dX3_beginSecond_9 : decode cX3_beginSecond 9 = .ok (.invokestatic 57, 3) := by decide +kernel
theorem dX3_beginSecond_12 : decode cX3_beginSecond 12 = .ok (.invokevirtual 99, 3) := by decide +kernel
theorem dX3_beginSecond_15 : decode cX3_beginSecond 15 = .ok (.iconst 0, 1) := by decide +kernel
theorem dX3_beginSecond_16 : decode cX3_beginSecond 16 = .ok (.istore_n 1, 1) := by decide +kernel
theorem dX3_beginSecond_17 : decode cX3_beginSecond 17 = .ok (.iload_n 1, 1) := by decide +kernel
theorem dX3_beginSecond_18 : decode cX3_beginSecond 18 = .ok (.bipush 8, 2) := by decide +kernel
theorem dX3_beginSecond_20 : decode cX3_beginSecond 20 = .ok (.if_icmp .ge 66, 3) := by decide +kernel
theorem dX3_beginSecond_23 : decode cX3_beginSecond 23 = .ok (.aload_n 0, 1) := by decide +kernel
theorem dX3_beginSecond_24 : decode cX3_beginSecond 24 = .ok (.getfield 12, 3) := by decide +kernel
theorem dX3_beginSecond_27 : decode cX3_beginSecond 27 = .ok (.getfield 102, 3) := by decide +kernel
theorem dX3_beginSecond_30 : decode cX3_beginSecond 30 = .ok (.iload_n 1, 1) := by decide +kernel
theorem dX3_beginSecond_31 : decode cX3_beginSecond 31 = .ok (.invokestatic 57, 3) := by decide +kernel
theorem dX3_beginSecond_34 : decode cX3_beginSecond 34 = .ok (.iconst 1, 1) := by decide +kernel
theorem dX3_beginSecond_35 : decode cX3_beginSecond 35 = .ok (.if_icmp .ne 45, 3) := by decide +kernel
theorem dX3_beginSecond_38 : decode cX3_beginSecond 38 = .ok (.aload_n 0, 1) := by decide +kernel
theorem dX3_beginSecond_39 : decode cX3_beginSecond 39 = .ok (.getfield 21, 3) := by decide +kernel
theorem dX3_beginSecond_42 : decode cX3_beginSecond 42 = .ok (.iload_n 1, 1) := by decide +kernel
theorem dX3_beginSecond_43 : decode cX3_beginSecond 43 = .ok (.invokevirtual 105, 3) := by decide +kernel
theorem dX3_beginSecond_46 : decode cX3_beginSecond 46 = .ok (.ifCond .le 34, 3) := by decide +kernel
theorem dX3_beginSecond_49 : decode cX3_beginSecond 49 = .ok (.aload_n 0, 1) := by decide +kernel
theorem dX3_beginSecond_50 : decode cX3_beginSecond 50 = .ok (.iload_n 1, 1) := by decide +kernel
theorem dX3_beginSecond_51 : decode cX3_beginSecond 51 = .ok (.invokevirtual 69, 3) := by decide +kernel
theorem dX3_beginSecond_54 : decode cX3_beginSecond 54 = .ok (.aload_n 0, 1) := by decide +kernel
theorem dX3_beginSecond_55 : decode cX3_beginSecond 55 = .ok (.getfield 29, 3) := by decide +kernel
theorem dX3_beginSecond_58 : decode cX3_beginSecond 58 = .ok (.iconst 2, 1) := by decide +kernel
theorem dX3_beginSecond_59 : decode cX3_beginSecond 59 = .ok (.invokestatic 57, 3) := by decide +kernel
theorem dX3_beginSecond_62 : decode cX3_beginSecond 62 = .ok (.iconst 1, 1) := by decide +kernel
theorem dX3_beginSecond_63 : decode cX3_beginSecond 63 = .ok (.if_icmp .ne 17, 3) := by decide +kernel
theorem dX3_beginSecond_66 : decode cX3_beginSecond 66 = .ok (.aload_n 0, 1) := by decide +kernel
theorem dX3_beginSecond_67 : decode cX3_beginSecond 67 = .ok (.iload_n 1, 1) := by decide +kernel
theorem dX3_beginSecond_68 : decode cX3_beginSecond 68 = .ok (.iconst 1, 1) := by decide +kernel
theorem dX3_beginSecond_69 : decode cX3_beginSecond 69 = .ok (.isub, 1) := by decide +kernel
theorem dX3_beginSecond_70 : decode cX3_beginSecond 70 = .ok (.invokevirtual 69, 3) := by decide +kernel
theorem dX3_beginSecond_73 : decode cX3_beginSecond 73 = .ok (.aload_n 0, 1) := by decide +kernel
theorem dX3_beginSecond_74 : decode cX3_beginSecond 74 = .ok (.iload_n 1, 1) := by decide +kernel
theorem dX3_beginSecond_75 : decode cX3_beginSecond 75 = .ok (.iconst 1, 1) := by decide +kernel
theorem dX3_beginSecond_76 : decode cX3_beginSecond 76 = .ok (.iadd, 1) := by decide +kernel
theorem dX3_beginSecond_77 : decode cX3_beginSecond 77 = .ok (.invokevirtual 69, 3) := by decide +kernel
theorem dX3_beginSecond_80 : decode cX3_beginSecond 80 = .ok (.iinc 1 1, 3) := by decide +kernel
theorem dX3_beginSecond_83 : decode cX3_beginSecond 83 = .ok (.goto (-66), 3) := by decide +kernel
theorem dX3_beginSecond_86 : decode cX3_beginSecond 86 = .ok (.return_, 1) := by decide +kernel
theorem dX3_endSecond_0 : decode cX3_endSecond 0 = .ok (.iconst 0, 1) := by decide +kernel
theorem dX3_endSecond_1 : decode cX3_endSecond 1 = .ok (.istore_n 1, 1) := by decide +kernel
theorem dX3_endSecond_2 : decode cX3_endSecond 2 = .ok (.iload_n 1, 1) := by decide +kernel
theorem dX3_endSecond_3 : decode cX3_endSecond 3 = .ok (.aload_n 0, 1) := by decide +kernel
theorem dX3_endSecond_4 : decode cX3_endSecond 4 = .ok (.getfield 21, 3) := by decide +kernel
theorem dX3_endSecond_7 : decode cX3_endSecond 7 = .ok (.getfield 93, 3) := by decide +kernel
theorem dX3_endSecond_10 : decode cX3_endSecond 10 = .ok (.if_icmp .ge 24, 3) := by decide +kernel
theorem dX3_endSecond_13 : decode cX3_endSecond 13 = .ok (.aload_n 0, 1) := by decide +kernel
theorem dX3_endSecond_14 : decode cX3_endSecond 14 = .ok (.aload_n 0, 1) := by decide +kernel
theorem dX3_endSecond_15 : decode cX3_endSecond 15 = .ok (.getfield 21, 3) := by decide +kernel
theorem dX3_endSecond_18 : decode cX3_endSecond 18 = .ok (.getfield 108, 3) := by decide +kernel
theorem dX3_endSecond_21 : decode cX3_endSecond 21 = .ok (.iload_n 1, 1) := by decide +kernel
theorem dX3_endSecond_22 : decode cX3_endSecond 22 = .ok (.invokestatic 57, 3) := by decide +kernel
theorem dX3_endSecond_25 : decode cX3_endSecond 25 = .ok (.invokevirtual 110, 3) := by decide +kernel
theorem dX3_endSecond_28 : decode cX3_endSecond 28 = .ok (.iinc 1 1, 3) := by decide +kernel
theorem dX3_endSecond_31 : decode cX3_endSecond 31 = .ok (.goto (-29), 3) := by decide +kernel
theorem dX3_endSecond_34 : decode cX3_endSecond 34 = .ok (.iconst 0, 1) := by decide +kernel
theorem dX3_endSecond_35 : decode cX3_endSecond 35 = .ok (.istore_n 1, 1) := by decide +kernel
theorem dX3_endSecond_36 : decode cX3_endSecond 36 = .ok (.iload_n 1, 1) := by decide +kernel
theorem dX3_endSecond_37 : decode cX3_endSecond 37 = .ok (.bipush 8, 2) := by decide +kernel
theorem dX3_endSecond_39 : decode cX3_endSecond 39 = .ok (.if_icmp .ge 36, 3) := by decide +kernel
theorem dX3_endSecond_42 : decode cX3_endSecond 42 = .ok (.aload_n 0, 1) := by decide +kernel
theorem dX3_endSecond_43 : decode cX3_endSecond 43 = .ok (.getfield 12, 3) := by decide +kernel
theorem dX3_endSecond_46 : decode cX3_endSecond 46 = .ok (.getfield 113, 3) := by decide +kernel
theorem dX3_endSecond_49 : decode cX3_endSecond 49 = .ok (.iload_n 1, 1) := by decide +kernel
theorem dX3_endSecond_50 : decode cX3_endSecond 50 = .ok (.aload_n 0, 1) := by decide +kernel
theorem dX3_endSecond_51 : decode cX3_endSecond 51 = .ok (.iload_n 1, 1) := by decide +kernel
theorem dX3_endSecond_52 : decode cX3_endSecond 52 = .ok (.invokevirtual 76, 3) := by decide +kernel
theorem dX3_endSecond_55 : decode cX3_endSecond 55 = .ok (.invokestatic 116, 3) := by decide +kernel
theorem dX3_endSecond_58 : decode cX3_endSecond 58 = .ok (.invokestatic 119, 3) := by decide +kernel
theorem dX3_endSecond_61 : decode cX3_endSecond 61 = .ok (.aload_n 0, 1) := by decide +kernel
theorem dX3_endSecond_62 : decode cX3_endSecond 62 = .ok (.getfield 12, 3) := by decide +kernel
theorem dX3_endSecond_65 : decode cX3_endSecond 65 = .ok (.iload_n 1, 1) := by decide +kernel
theorem dX3_endSecond_66 : decode cX3_endSecond 66 = .ok (.invokevirtual 123, 3) := by decide +kernel
theorem dX3_endSecond_69 : decode cX3_endSecond 69 = .ok (.iinc 1 1, 3) := by decide +kernel
theorem dX3_endSecond_72 : decode cX3_endSecond 72 = .ok (.goto (-36), 3) := by decide +kernel
theorem dX3_endSecond_75 : decode cX3_endSecond 75 = .ok (.aload_n 0, 1) := by decide +kernel
theorem dX3_endSecond_76 : decode cX3_endSecond 76 = .ok (.dup, 1) := by decide +kernel
theorem dX3_endSecond_77 : decode cX3_endSecond 77 = .ok (.getfield 43, 3) := by decide +kernel
theorem dX3_endSecond_80 : decode cX3_endSecond 80 = .ok (.iconst 1, 1) := by decide +kernel
theorem dX3_endSecond_81 : decode cX3_endSecond 81 = .ok (.iadd, 1) := by decide +kernel
theorem dX3_endSecond_82 : decode cX3_endSecond 82 = .ok (.putfield 43, 3) := by decide +kernel
theorem dX3_endSecond_85 : decode cX3_endSecond 85 = .ok (.return_, 1) := by decide +kernel
theorem dX3_countSecondOn_0 : decode cX3_countSecondOn 0 = .ok (.aload_n 0, 1) := by decide +kernel
theorem dX3_countSecondOn_1 : decode cX3_countSecondOn 1 = .ok (.iload_n 1, 1) := by decide +kernel
theorem dX3_countSecondOn_2 : decode cX3_countSecondOn 2 = .ok (.invokevirtual 76, 3) := by decide +kernel
theorem dX3_countSecondOn_5 : decode cX3_countSecondOn 5 = .ok (.istore_n 2, 1) := by decide +kernel
theorem dX3_countSecondOn_6 : decode cX3_countSecondOn 6 = .ok (.iload_n 2, 1) := by decide +kernel
theorem dX3_countSecondOn_7 : decode cX3_countSecondOn 7 = .ok (.ifCond .ne 18, 3) := by decide +kernel
theorem dX3_countSecondOn_10 : decode cX3_countSecondOn 10 = .ok (.aload_n 0, 1) := by decide +kernel
theorem dX3_countSecondOn_11 : decode cX3_countSecondOn 11 = .ok (.getfield 12, 3) := by decide +kernel
theorem dX3_countSecondOn_14 : decode cX3_countSecondOn 14 = .ok (.getfield 80, 3) := by decide +kernel
theorem dX3_countSecondOn_17 : decode cX3_countSecondOn 17 = .ok (.iload_n 1, 1) := by decide +kernel
theorem dX3_countSecondOn_18 : decode cX3_countSecondOn 18 = .ok (.iconst 1, 1) := by decide +kernel
theorem dX3_countSecondOn_19 : decode cX3_countSecondOn 19 = .ok (.invokestatic 119, 3) := by decide +kernel
theorem dX3_countSecondOn_22 : decode cX3_countSecondOn 22 = .ok (.goto 20, 3) := by decide +kernel
theorem dX3_countSecondOn_25 : decode cX3_countSecondOn 25 = .ok (.iload_n 2, 1) := by decide +kernel
theorem dX3_countSecondOn_26 : decode cX3_countSecondOn 26 = .ok (.iconst 1, 1) := by decide +kernel
theorem dX3_countSecondOn_27 : decode cX3_countSecondOn 27 = .ok (.if_icmp .ne 15, 3) := by decide +kernel
theorem dX3_countSecondOn_30 : decode cX3_countSecondOn 30 = .ok (.aload_n 0, 1) := by decide +kernel
theorem dX3_countSecondOn_31 : decode cX3_countSecondOn 31 = .ok (.getfield 12, 3) := by decide +kernel
theorem dX3_countSecondOn_34 : decode cX3_countSecondOn 34 = .ok (.getfield 126, 3) := by decide +kernel
theorem dX3_countSecondOn_37 : decode cX3_countSecondOn 37 = .ok (.iload_n 1, 1) := by decide +kernel
theorem dX3_countSecondOn_38 : decode cX3_countSecondOn 38 = .ok (.iconst 1, 1) := by decide +kernel
theorem dX3_countSecondOn_39 : decode cX3_countSecondOn 39 = .ok (.invokestatic 119, 3) := by decide +kernel
theorem dX3_countSecondOn_42 : decode cX3_countSecondOn 42 = .ok (.aload_n 0, 1) := by decide +kernel
theorem dX3_countSecondOn_43 : decode cX3_countSecondOn 43 = .ok (.dup, 1) := by decide +kernel
theorem dX3_countSecondOn_44 : decode cX3_countSecondOn 44 = .ok (.getfield 47, 3) := by decide +kernel
theorem dX3_countSecondOn_47 : decode cX3_countSecondOn 47 = .ok (.iconst 1, 1) := by decide +kernel
theorem dX3_countSecondOn_48 : decode cX3_countSecondOn 48 = .ok (.iadd, 1) := by decide +kernel
theorem dX3_countSecondOn_49 : decode cX3_countSecondOn 49 = .ok (.putfield 47, 3) := by decide +kernel
theorem dX3_countSecondOn_52 : decode cX3_countSecondOn 52 = .ok (.return_, 1) := by decide +kernel
theorem dX3_powerOf_0 : decode cX3_powerOf 0 = .ok (.iload_n 0, 1) := by decide +kernel
theorem dX3_powerOf_1 : decode cX3_powerOf 1 = .ok (.iconst 2, 1) := by decide +kernel
theorem dX3_powerOf_2 : decode cX3_powerOf 2 = .ok (.if_icmp .lt 6, 3) := by decide +kernel
theorem dX3_powerOf_5 : decode cX3_powerOf 5 = .ok (.bipush 10, 2) := by decide +kernel
theorem dX3_powerOf_7 : decode cX3_powerOf 7 = .ok (.ireturn, 1) := by decide +kernel
theorem dX3_powerOf_8 : decode cX3_powerOf 8 = .ok (.iload_n 0, 1) := by decide +kernel
theorem dX3_powerOf_9 : decode cX3_powerOf 9 = .ok (.iconst 1, 1) := by decide +kernel
theorem dX3_powerOf_10 : decode cX3_powerOf 10 = .ok (.if_icmp .ne 7, 3) := by decide +kernel
theorem dX3_powerOf_13 : decode cX3_powerOf 13 = .ok (.iconst 3, 1) := by decide +kernel
theorem dX3_powerOf_14 : decode cX3_powerOf 14 = .ok (.goto 4, 3) := by decide +kernel
theorem dX3_powerOf_17 : decode cX3_powerOf 17 = .ok (.iconst 0, 1) := by decide +kernel
theorem dX3_powerOf_18 : decode cX3_powerOf 18 = .ok (.ireturn, 1) := by decide +kernel
theorem dX3_lightShare_0 : decode cX3_lightShare 0 = .ok (.aload_n 0, 1) := by decide +kernel
theorem dX3_lightShare_1 : decode cX3_lightShare 1 = .ok (.getfield 47, 3) := by decide +kernel
theorem dX3_lightShare_4 : decode cX3_lightShare 4 = .ok (.ifCond .gt 5, 3) := by decide +kernel
theorem dX3_lightShare_7 : decode cX3_lightShare 7 = .ok (.dconst 1, 1) := by decide +kernel
theorem dX3_lightShare_8 : decode cX3_lightShare 8 = .ok (.dreturn, 1) := by decide +kernel
theorem dX3_lightShare_9 : decode cX3_lightShare 9 = .ok (.aload_n 0, 1) := by decide +kernel
theorem dX3_lightShare_10 : decode cX3_lightShare 10 = .ok (.getfield 47, 3) := by decide +kernel
theorem dX3_lightShare_13 : decode cX3_lightShare 13 = .ok (.aload_n 0, 1) := by decide +kernel
theorem dX3_lightShare_14 : decode cX3_lightShare 14 = .ok (.getfield 12, 3) := by decide +kernel
theorem dX3_lightShare_17 : decode cX3_lightShare 17 = .ok (.getfield 80, 3) := by decide +kernel
theorem dX3_lightShare_20 : decode cX3_lightShare 20 = .ok (.invokestatic 83, 3) := by decide +kernel
theorem dX3_lightShare_23 : decode cX3_lightShare 23 = .ok (.isub, 1) := by decide +kernel
theorem dX3_lightShare_24 : decode cX3_lightShare 24 = .ok (.aload_n 0, 1) := by decide +kernel
theorem dX3_lightShare_25 : decode cX3_lightShare 25 = .ok (.getfield 12, 3) := by decide +kernel
theorem dX3_lightShare_28 : decode cX3_lightShare 28 = .ok (.getfield 126, 3) := by decide +kernel
theorem dX3_lightShare_31 : decode cX3_lightShare 31 = .ok (.invokestatic 83, 3) := by decide +kernel
theorem dX3_lightShare_34 : decode cX3_lightShare 34 = .ok (.isub, 1) := by decide +kernel
theorem dX3_lightShare_35 : decode cX3_lightShare 35 = .ok (.istore_n 1, 1) := by decide +kernel
theorem dX3_lightShare_36 : decode cX3_lightShare 36 = .ok (.iload_n 1, 1) := by decide +kernel
theorem dX3_lightShare_37 : decode cX3_lightShare 37 = .ok (.i2d, 1) := by decide +kernel
theorem dX3_lightShare_38 : decode cX3_lightShare 38 = .ok (.aload_n 0, 1) := by decide +kernel
theorem dX3_lightShare_39 : decode cX3_lightShare 39 = .ok (.getfield 47, 3) := by decide +kernel
theorem dX3_lightShare_42 : decode cX3_lightShare 42 = .ok (.i2d, 1) := by decide +kernel
theorem dX3_lightShare_43 : decode cX3_lightShare 43 = .ok (.ddiv, 1) := by decide +kernel
theorem dX3_lightShare_44 : decode cX3_lightShare 44 = .ok (.dreturn, 1) := by decide +kernel
theorem dX3_floorNumber_0 : decode cX3_floorNumber 0 = .ok (.iload_n 2, 1) := by decide +kernel
theorem dX3_floorNumber_1 : decode cX3_floorNumber 1 = .ok (.tableswitch 118 0 6 #[43, 49, 61, 73, 82, 94, 106], 43) := by decide +kernel
theorem dX3_floorNumber_44 : decode cX3_floorNumber 44 = .ok (.aload_n 0, 1) := by decide +kernel
theorem dX3_floorNumber_45 : decode cX3_floorNumber 45 = .ok (.iload_n 1, 1) := by decide +kernel
theorem dX3_floorNumber_46 : decode cX3_floorNumber 46 = .ok (.invokevirtual 76, 3) := by decide +kernel
theorem dX3_floorNumber_49 : decode cX3_floorNumber 49 = .ok (.ireturn, 1) := by decide +kernel
theorem dX3_floorNumber_50 : decode cX3_floorNumber 50 = .ok (.aload_n 0, 1) := by decide +kernel
theorem dX3_floorNumber_51 : decode cX3_floorNumber 51 = .ok (.getfield 12, 3) := by decide +kernel
theorem dX3_floorNumber_54 : decode cX3_floorNumber 54 = .ok (.getfield 73, 3) := by decide +kernel
theorem dX3_floorNumber_57 : decode cX3_floorNumber 57 = .ok (.iload_n 1, 1) := by decide +kernel
theorem dX3_floorNumber_58 : decode cX3_floorNumber 58 = .ok (.invokestatic 57, 3) := by decide +kernel
theorem dX3_floorNumber_61 : decode cX3_floorNumber 61 = .ok (.ireturn, 1) := by decide +kernel
theorem dX3_floorNumber_62 : decode cX3_floorNumber 62 = .ok (.aload_n 0, 1) := by decide +kernel
theorem dX3_floorNumber_63 : decode cX3_floorNumber 63 = .ok (.getfield 12, 3) := by decide +kernel
theorem dX3_floorNumber_66 : decode cX3_floorNumber 66 = .ok (.getfield 102, 3) := by decide +kernel
theorem dX3_floorNumber_69 : decode cX3_floorNumber 69 = .ok (.iload_n 1, 1) := by decide +kernel
theorem dX3_floorNumber_70 : decode cX3_floorNumber 70 = .ok (.invokestatic 57, 3) := by decide +kernel
theorem dX3_floorNumber_73 : decode cX3_floorNumber 73 = .ok (.ireturn, 1) := by decide +kernel
theorem dX3_floorNumber_74 : decode cX3_floorNumber 74 = .ok (.aload_n 0, 1) := by decide +kernel
theorem dX3_floorNumber_75 : decode cX3_floorNumber 75 = .ok (.getfield 21, 3) := by decide +kernel
theorem dX3_floorNumber_78 : decode cX3_floorNumber 78 = .ok (.iload_n 1, 1) := by decide +kernel
theorem dX3_floorNumber_79 : decode cX3_floorNumber 79 = .ok (.invokevirtual 105, 3) := by decide +kernel
theorem dX3_floorNumber_82 : decode cX3_floorNumber 82 = .ok (.ireturn, 1) := by decide +kernel
theorem dX3_floorNumber_83 : decode cX3_floorNumber 83 = .ok (.aload_n 0, 1) := by decide +kernel
theorem dX3_floorNumber_84 : decode cX3_floorNumber 84 = .ok (.getfield 12, 3) := by decide +kernel
theorem dX3_floorNumber_87 : decode cX3_floorNumber 87 = .ok (.getfield 80, 3) := by decide +kernel
theorem dX3_floorNumber_90 : decode cX3_floorNumber 90 = .ok (.iload_n 1, 1) := by decide +kernel
theorem dX3_floorNumber_91 : decode cX3_floorNumber 91 = .ok (.invokestatic 57, 3) := by decide +kernel
theorem dX3_floorNumber_94 : decode cX3_floorNumber 94 = .ok (.ireturn, 1) := by decide +kernel
theorem dX3_floorNumber_95 : decode cX3_floorNumber 95 = .ok (.aload_n 0, 1) := by decide +kernel
theorem dX3_floorNumber_96 : decode cX3_floorNumber 96 = .ok (.getfield 12, 3) := by decide +kernel
theorem dX3_floorNumber_99 : decode cX3_floorNumber 99 = .ok (.getfield 126, 3) := by decide +kernel
theorem dX3_floorNumber_102 : decode cX3_floorNumber 102 = .ok (.iload_n 1, 1) := by decide +kernel
theorem dX3_floorNumber_103 : decode cX3_floorNumber 103 = .ok (.invokestatic 57, 3) := by decide +kernel
theorem dX3_floorNumber_106 : decode cX3_floorNumber 106 = .ok (.ireturn, 1) := by decide +kernel
theorem dX3_floorNumber_107 : decode cX3_floorNumber 107 = .ok (.aload_n 0, 1) := by decide +kernel
theorem dX3_floorNumber_108 : decode cX3_floorNumber 108 = .ok (.getfield 12, 3) := by decide +kernel
theorem dX3_floorNumber_111 : decode cX3_floorNumber 111 = .ok (.getfield 113, 3) := by decide +kernel
theorem dX3_floorNumber_114 : decode cX3_floorNumber 114 = .ok (.iload_n 1, 1) := by decide +kernel
theorem dX3_floorNumber_115 : decode cX3_floorNumber 115 = .ok (.invokestatic 57, 3) := by decide +kernel
theorem dX3_floorNumber_118 : decode cX3_floorNumber 118 = .ok (.ireturn, 1) := by decide +kernel
theorem dX3_floorNumber_119 : decode cX3_floorNumber 119 = .ok (.aload_n 0, 1) := by decide +kernel
theorem dX3_floorNumber_120 : decode cX3_floorNumber 120 = .ok (.getfield 12, 3) := by decide +kernel
theorem dX3_floorNumber_123 : decode cX3_floorNumber 123 = .ok (.getfield 129, 3) := by decide +kernel
theorem dX3_floorNumber_126 : decode cX3_floorNumber 126 = .ok (.iload_n 1, 1) := by decide +kernel
theorem dX3_floorNumber_127 : decode cX3_floorNumber 127 = .ok (.invokestatic 57, 3) := by decide +kernel
theorem dX3_floorNumber_130 : decode cX3_floorNumber 130 = .ok (.ireturn, 1) := by decide +kernel
theorem dX4_init_0 : decode cX4_init 0 = .ok (.aload_n 0, 1) := by decide +kernel
theorem dX4_init_1 : decode cX4_init 1 = .ok (.invokespecial 3, 3) := by decide +kernel
theorem dX4_init_4 : decode cX4_init 4 = .ok (.aload_n 0, 1) := by decide +kernel
theorem dX4_init_5 : decode cX4_init 5 = .ok (.bipush 60, 2) := by decide +kernel
theorem dX4_init_7 : decode cX4_init 7 = .ok (.newarray .char, 2) := by decide +kernel
theorem dX4_init_9 : decode cX4_init 9 = .ok (.putfield 9, 3) := by decide +kernel
theorem dX4_init_12 : decode cX4_init 12 = .ok (.aload_n 0, 1) := by decide +kernel
theorem dX4_init_13 : decode cX4_init 13 = .ok (.iconst 0, 1) := by decide +kernel
theorem dX4_init_14 : decode cX4_init 14 = .ok (.putfield 15, 3) := by decide +kernel
theorem dX4_init_17 : decode cX4_init 17 = .ok (.return_, 1) := by decide +kernel
theorem dX5_init_0 : decode cX5_init 0 = .ok (.aload_n 0, 1) := by decide +kernel
theorem dX5_init_1 : decode cX5_init 1 = .ok (.invokespecial 1, 3) := by decide +kernel
theorem dX5_init_4 : decode cX5_init 4 = .ok (.aload_n 0, 1) := by decide +kernel
theorem dX5_init_5 : decode cX5_init 5 = .ok (.new 7, 3) := by decide +kernel
theorem dX5_init_8 : decode cX5_init 8 = .ok (.dup, 1) := by decide +kernel
theorem dX5_init_9 : decode cX5_init 9 = .ok (.invokespecial 9, 3) := by decide +kernel
theorem dX5_init_12 : decode cX5_init 12 = .ok (.putfield 10, 3) := by decide +kernel
theorem dX5_init_15 : decode cX5_init 15 = .ok (.aload_n 0, 1) := by decide +kernel
theorem dX5_init_16 : decode cX5_init 16 = .ok (.new 7, 3) := by decide +kernel
theorem dX5_init_19 : decode cX5_init 19 = .ok (.dup, 1) := by decide +kernel
theorem dX5_init_20 : decode cX5_init 20 = .ok (.invokespecial 9, 3) := by decide +kernel
theorem dX5_init_23 : decode cX5_init 23 = .ok (.putfield 16, 3) := by decide +kernel
theorem dX5_init_26 : decode cX5_init 26 = .ok (.aload_n 0, 1) := by decide +kernel
theorem dX5_init_27 : decode cX5_init 27 = .ok (.new 19, 3) := by decide +kernel
theorem dX5_init_30 : decode cX5_init 30 = .ok (.dup, 1) := by decide +kernel
theorem dX5_init_31 : decode cX5_init 31 = .ok (.invokespecial 21, 3) := by decide +kernel
theorem dX5_init_34 : decode cX5_init 34 = .ok (.putfield 22, 3) := by decide +kernel
theorem dX5_init_37 : decode cX5_init 37 = .ok (.aload_n 0, 1) := by decide +kernel
theorem dX5_init_38 : decode cX5_init 38 = .ok (.new 26, 3) := by decide +kernel
theorem dX5_init_41 : decode cX5_init 41 = .ok (.dup, 1) := by decide +kernel
theorem dX5_init_42 : decode cX5_init 42 = .ok (.invokespecial 28, 3) := by decide +kernel
theorem dX5_init_45 : decode cX5_init 45 = .ok (.putfield 29, 3) := by decide +kernel
theorem dX5_init_48 : decode cX5_init 48 = .ok (.return_, 1) := by decide +kernel
theorem dX5_come_0 : decode cX5_come 0 = .ok (.iload_n 1, 1) := by decide +kernel
theorem dX5_come_1 : decode cX5_come 1 = .ok (.iload_n 2, 1) := by decide +kernel
theorem dX5_come_2 : decode cX5_come 2 = .ok (.invokestatic 33, 3) := by decide +kernel
theorem dX5_come_5 : decode cX5_come 5 = .ok (.aload_n 0, 1) := by decide +kernel
theorem dX5_come_6 : decode cX5_come 6 = .ok (.getfield 10, 3) := by decide +kernel
theorem dX5_come_9 : decode cX5_come 9 = .ok (.getfield 37, 3) := by decide +kernel
theorem dX5_come_12 : decode cX5_come 12 = .ok (.getfield 41, 3) := by decide +kernel
theorem dX5_come_15 : decode cX5_come 15 = .ok (.bipush 6, 2) := by decide +kernel
theorem dX5_come_17 : decode cX5_come 17 = .ok (.if_icmp .lt 13, 3) := by decide +kernel
theorem dX5_come_20 : decode cX5_come 20 = .ok (.new 47, 3) := by decide +kernel
theorem dX5_come_23 : decode cX5_come 23 = .ok (.dup, 1) := by decide +kernel
theorem dX5_come_24 : decode cX5_come 24 = .ok (.ldc 49, 2) := by decide +kernel
theorem dX5_come_26 : decode cX5_come 26 = .ok (.invokespecial 51, 3) := by decide +kernel
theorem dX5_come_29 : decode cX5_come 29 = .ok (.athrow, 1) := by decide +kernel
theorem dX5_come_30 : decode cX5_come 30 = .ok (.aload_n 0, 1) := by decide +kernel
theorem dX5_come_31 : decode cX5_come 31 = .ok (.getfield 22, 3) := by decide +kernel
theorem dX5_come_34 : decode cX5_come 34 = .ok (.aload_n 0, 1) := by decide +kernel
theorem dX5_come_35 : decode cX5_come 35 = .ok (.getfield 10, 3) := by decide +kernel
theorem dX5_come_38 : decode cX5_come 38 = .ok (.invokevirtual 54, 3) := by decide +kernel
theorem dX5_come_41 : decode cX5_come 41 = .ok (.aload_n 0, 1) := by decide +kernel
theorem dX5_come_42 : decode cX5_come 42 = .ok (.getfield 10, 3) := by decide +kernel
theorem dX5_come_45 : decode cX5_come 45 = .ok (.iload_n 1, 1) := by decide +kernel
theorem dX5_come_46 : decode cX5_come 46 = .ok (.iload_n 2, 1) := by decide +kernel
theorem dX5_come_47 : decode cX5_come 47 = .ok (.invokevirtual 58, 3) := by decide +kernel
theorem dX5_come_50 : decode cX5_come 50 = .ok (.ireturn, 1) := by decide +kernel
theorem dX5_turn_0 : decode cX5_turn 0 = .ok (.aload_n 0, 1) := by decide +kernel
theorem dX5_turn_1 : decode cX5_turn 1 = .ok (.getfield 10, 3) := by decide +kernel
theorem dX5_turn_4 : decode cX5_turn 4 = .ok (.getfield 37, 3) := by decide +kernel
theorem dX5_turn_7 : decode cX5_turn 7 = .ok (.iload_n 1, 1) := by decide +kernel
theorem dX5_turn_8 : decode cX5_turn 8 = .ok (.invokevirtual 62, 3) := by decide +kernel
theorem dX5_turn_11 : decode cX5_turn 11 = .ok (.istore_n 3, 1) := by decide +kernel
theorem dX5_turn_12 : decode cX5_turn 12 = .ok (.iload_n 3, 1) := by decide +kernel
theorem dX5_turn_13 : decode cX5_turn 13 = .ok (.iconst (-1), 1) := by decide +kernel
theorem dX5_turn_14 : decode cX5_turn 14 = .ok (.if_icmp .ne 13, 3) := by decide +kernel
theorem dX5_turn_17 : decode cX5_turn 17 = .ok (.new 66, 3) := by decide +kernel
theorem dX5_turn_20 : decode cX5_turn 20 = .ok (.dup, 1) := by decide +kernel
theorem dX5_turn_21 : decode cX5_turn 21 = .ok (.ldc 68, 2) := by decide +kernel
theorem dX5_turn_23 : decode cX5_turn 23 = .ok (.invokespecial 70, 3) := by decide +kernel
theorem dX5_turn_26 : decode cX5_turn 26 = .ok (.athrow, 1) := by decide +kernel
theorem dX5_turn_27 : decode cX5_turn 27 = .ok (.iload_n 2, 1) := by decide +kernel
theorem dX5_turn_28 : decode cX5_turn 28 = .ok (.invokestatic 71, 3) := by decide +kernel
theorem dX5_turn_31 : decode cX5_turn 31 = .ok (.aload_n 0, 1) := by decide +kernel
theorem dX5_turn_32 : decode cX5_turn 32 = .ok (.getfield 22, 3) := by decide +kernel
theorem dX5_turn_35 : decode cX5_turn 35 = .ok (.aload_n 0, 1) := by decide +kernel
theorem dX5_turn_36 : decode cX5_turn 36 = .ok (.getfield 10, 3) := by decide +kernel
theorem dX5_turn_39 : decode cX5_turn 39 = .ok (.invokevirtual 54, 3) := by decide +kernel
theorem dX5_turn_42 : decode cX5_turn 42 = .ok (.aload_n 0, 1) := by decide +kernel
theorem dX5_turn_43 : decode cX5_turn 43 = .ok (.getfield 10, 3) := by decide +kernel
theorem dX5_turn_46 : decode cX5_turn 46 = .ok (.getfield 37, 3) := by decide +kernel
theorem dX5_turn_49 : decode cX5_turn 49 = .ok (.getfield 75, 3) := by decide +kernel
theorem dX5_turn_52 : decode cX5_turn 52 = .ok (.iload_n 3, 1) := by decide +kernel
theorem dX5_turn_53 : decode cX5_turn 53 = .ok (.invokestatic 79, 3) := by decide +kernel
theorem dX5_turn_56 : decode cX5_turn 56 = .ok (.istore 4, 2) := by decide +kernel
theorem dX5_turn_58 : decode cX5_turn 58 = .ok (.aload_n 0, 1) := by decide +kernel
theorem dX5_turn_59 : decode cX5_turn 59 = .ok (.getfield 10, 3) := by decide +kernel
theorem dX5_turn_62 : decode cX5_turn 62 = .ok (.getfield 37, 3) := by decide +kernel
theorem dX5_turn_65 : decode cX5_turn 65 = .ok (.iload_n 3, 1) := by decide +kernel
theorem dX5_turn_66 : decode cX5_turn 66 = .ok (.iload_n 2, 1) := by decide +kernel
theorem dX5_turn_67 : decode cX5_turn 67 = .ok (.aload_n 0, 1) := by decide +kernel
theorem dX5_turn_68 : decode cX5_turn 68 = .ok (.getfield 10, 3) := by decide +kernel
theorem dX5_turn_71 : decode cX5_turn 71 = .ok (.getfield 83, 3) := by decide +kernel
theorem dX5_turn_74 : decode cX5_turn 74 = .ok (.iconst 3, 1) := by decide +kernel
theorem dX5_turn_75 : decode cX5_turn 75 = .ok (.invokestatic 79, 3) := by decide +kernel
theorem dX5_turn_78 : decode cX5_turn 78 = .ok (.invokevirtual 86, 3) := by decide +kernel
theorem dX5_turn_81 : decode cX5_turn 81 = .ok (.iload 4, 2) := by decide +kernel
theorem dX5_turn_83 : decode cX5_turn 83 = .ok (.ireturn, 1) := by decide +kernel
theorem dX5_press_0 : decode cX5_press 0 = .ok (.iload_n 1, 1) := by decide +kernel
theorem dX5_press_1 : decode cX5_press 1 = .ok (.invokestatic 71, 3) := by decide +kernel
theorem dX5_press_4 : decode cX5_press 4 = .ok (.aload_n 0, 1) := by decide +kernel
theorem dX5_press_5 : decode cX5_press 5 = .ok (.getfield 22, 3) := by decide +kernel
theorem dX5_press_8 : decode cX5_press 8 = .ok (.aload_n 0, 1) := by decide +kernel
theorem dX5_press_9 : decode cX5_press 9 = .ok (.getfield 10, 3) := by decide +kernel
theorem dX5_press_12 : decode cX5_press 12 = .ok (.invokevirtual 54, 3) := by decide +kernel
theorem dX5_press_15 : decode cX5_press 15 = .ok (.aload_n 0, 1) := by decide +kernel
theorem dX5_press_16 : decode cX5_press 16 = .ok (.getfield 10, 3) := by decide +kernel
theorem dX5_press_19 : decode cX5_press 19 = .ok (.getfield 90, 3) := by decide +kernel
theorem dX5_press_22 : decode cX5_press 22 = .ok (.getfield 94, 3) := by decide +kernel
theorem dX5_press_25 : decode cX5_press 25 = .ok (.iload_n 1, 1) := by decide +kernel
theorem dX5_press_26 : decode cX5_press 26 = .ok (.invokestatic 79, 3) := by decide +kernel
theorem dX5_press_29 : decode cX5_press 29 = .ok (.istore_n 2, 1) := by decide +kernel
theorem dX5_press_30 : decode cX5_press 30 = .ok (.aload_n 0, 1) := by decide +kernel
theorem dX5_press_31 : decode cX5_press 31 = .ok (.getfield 10, 3) := by decide +kernel
theorem dX5_press_34 : decode cX5_press 34 = .ok (.iload_n 1, 1) := by decide +kernel
theorem dX5_press_35 : decode cX5_press 35 = .ok (.invokevirtual 99, 3) := by decide +kernel
theorem dX5_press_38 : decode cX5_press 38 = .ok (.iload_n 2, 1) := by decide +kernel
theorem dX5_press_39 : decode cX5_press 39 = .ok (.ireturn, 1) := by decide +kernel
theorem dX5_sensor_0 : decode cX5_sensor 0 = .ok (.iload_n 1, 1) := by decide +kernel
theorem dX5_sensor_1 : decode cX5_sensor 1 = .ok (.invokestatic 71, 3) := by decide +kernel
theorem dX5_sensor_4 : decode cX5_sensor 4 = .ok (.aload_n 0, 1) := by decide +kernel
theorem dX5_sensor_5 : decode cX5_sensor 5 = .ok (.getfield 22, 3) := by decide +kernel
theorem dX5_sensor_8 : decode cX5_sensor 8 = .ok (.aload_n 0, 1) := by decide +kernel
theorem dX5_sensor_9 : decode cX5_sensor 9 = .ok (.getfield 10, 3) := by decide +kernel
theorem dX5_sensor_12 : decode cX5_sensor 12 = .ok (.invokevirtual 54, 3) := by decide +kernel
theorem dX5_sensor_15 : decode cX5_sensor 15 = .ok (.aload_n 0, 1) := by decide +kernel
theorem dX5_sensor_16 : decode cX5_sensor 16 = .ok (.getfield 10, 3) := by decide +kernel
theorem dX5_sensor_19 : decode cX5_sensor 19 = .ok (.getfield 90, 3) := by decide +kernel
theorem dX5_sensor_22 : decode cX5_sensor 22 = .ok (.getfield 102, 3) := by decide +kernel
theorem dX5_sensor_25 : decode cX5_sensor 25 = .ok (.iload_n 1, 1) := by decide +kernel
theorem dX5_sensor_26 : decode cX5_sensor 26 = .ok (.invokestatic 79, 3) := by decide +kernel
theorem dX5_sensor_29 : decode cX5_sensor 29 = .ok (.istore_n 3, 1) := by decide +kernel
theorem dX5_sensor_30 : decode cX5_sensor 30 = .ok (.aload_n 0, 1) := by decide +kernel
theorem dX5_sensor_31 : decode cX5_sensor 31 = .ok (.getfield 10, 3) := by decide +kernel
theorem dX5_sensor_34 : decode cX5_sensor 34 = .ok (.getfield 90, 3) := by decide +kernel
theorem dX5_sensor_37 : decode cX5_sensor 37 = .ok (.getfield 102, 3) := by decide +kernel
theorem dX5_sensor_40 : decode cX5_sensor 40 = .ok (.iload_n 1, 1) := by decide +kernel
theorem dX5_sensor_41 : decode cX5_sensor 41 = .ok (.iload_n 2, 1) := by decide +kernel
theorem dX5_sensor_42 : decode cX5_sensor 42 = .ok (.invokestatic 105, 3) := by decide +kernel
theorem dX5_sensor_45 : decode cX5_sensor 45 = .ok (.invokestatic 109, 3) := by decide +kernel
theorem dX5_sensor_48 : decode cX5_sensor 48 = .ok (.iload_n 3, 1) := by decide +kernel
theorem dX5_sensor_49 : decode cX5_sensor 49 = .ok (.ireturn, 1) := by decide +kernel
theorem dX5_night_0 : decode cX5_night 0 = .ok (.aload_n 0, 1) := by decide +kernel
theorem dX5_night_1 : decode cX5_night 1 = .ok (.getfield 22, 3) := by decide +kernel
theorem dX5_night_4 : decode cX5_night 4 = .ok (.aload_n 0, 1) := by decide +kernel
theorem dX5_night_5 : decode cX5_night 5 = .ok (.getfield 10, 3) := by decide +kernel
theorem dX5_night_8 : decode cX5_night 8 = .ok (.invokevirtual 54, 3) := by decide +kernel
theorem dX5_night_11 : decode cX5_night 11 = .ok (.aload_n 0, 1) := by decide +kernel
theorem dX5_night_12 : decode cX5_night 12 = .ok (.getfield 10, 3) := by decide +kernel
theorem dX5_night_15 : decode cX5_night 15 = .ok (.getfield 113, 3) := by decide +kernel
theorem dX5_night_18 : decode cX5_night 18 = .ok (.invokestatic 105, 3) := by decide +kernel
theorem dX5_night_21 : decode cX5_night 21 = .ok (.istore_n 2, 1) := by decide +kernel
theorem dX5_night_22 : decode cX5_night 22 = .ok (.aload_n 0, 1) := by decide +kernel
theorem dX5_night_23 : decode cX5_night 23 = .ok (.getfield 10, 3) := by decide +kernel
theorem dX5_night_26 : decode cX5_night 26 = .ok (.iload_n 1, 1) := by decide +kernel
theorem dX5_night_27 : decode cX5_night 27 = .ok (.putfield 113, 3) := by decide +kernel
theorem dX5_night_30 : decode cX5_night 30 = .ok (.iload_n 2, 1) := by decide +kernel
theorem dX5_night_31 : decode cX5_night 31 = .ok (.ireturn, 1) := by decide +kernel
theorem dX5_fire_0 : decode cX5_fire 0 = .ok (.aload_n 0, 1) := by decide +kernel
theorem dX5_fire_1 : decode cX5_fire 1 = .ok (.getfield 22, 3) := by decide +kernel
theorem dX5_fire_4 : decode cX5_fire 4 = .ok (.aload_n 0, 1) := by decide +kernel
theorem dX5_fire_5 : decode cX5_fire 5 = .ok (.getfield 10, 3) := by decide +kernel
theorem dX5_fire_8 : decode cX5_fire 8 = .ok (.invokevirtual 54, 3) := by decide +kernel
theorem dX5_fire_11 : decode cX5_fire 11 = .ok (.aload_n 0, 1) := by decide +kernel
theorem dX5_fire_12 : decode cX5_fire 12 = .ok (.getfield 10, 3) := by decide +kernel
theorem dX5_fire_15 : decode cX5_fire 15 = .ok (.getfield 117, 3) := by decide +kernel
theorem dX5_fire_18 : decode cX5_fire 18 = .ok (.invokestatic 105, 3) := by decide +kernel
theorem dX5_fire_21 : decode cX5_fire 21 = .ok (.istore_n 2, 1) := by decide +kernel
theorem dX5_fire_22 : decode cX5_fire 22 = .ok (.aload_n 0, 1) := by decide +kernel
theorem dX5_fire_23 : decode cX5_fire 23 = .ok (.getfield 10, 3) := by decide +kernel
theorem dX5_fire_26 : decode cX5_fire 26 = .ok (.getfield 117, 3) := by decide +kernel
theorem dX5_fire_29 : decode cX5_fire 29 = .ok (.ifCond .eq 14, 3) := by decide +kernel
theorem dX5_fire_32 : decode cX5_fire 32 = .ok (.iload_n 1, 1) := by decide +kernel
theorem dX5_fire_33 : decode cX5_fire 33 = .ok (.ifCond .ne 10, 3) := by decide +kernel
theorem dX5_fire_36 : decode cX5_fire 36 = .ok (.aload_n 0, 1) := by decide +kernel
theorem dX5_fire_37 : decode cX5_fire 37 = .ok (.getfield 10, 3) := by decide +kernel
theorem dX5_fire_40 : decode cX5_fire 40 = .ok (.invokevirtual 120, 3) := by decide +kernel
theorem dX5_fire_43 : decode cX5_fire 43 = .ok (.aload_n 0, 1) := by decide +kernel
theorem dX5_fire_44 : decode cX5_fire 44 = .ok (.getfield 10, 3) := by decide +kernel
theorem dX5_fire_47 : decode cX5_fire 47 = .ok (.iload_n 1, 1) := by decide +kernel
theorem dX5_fire_48 : decode cX5_fire 48 = .ok (.putfield 117, 3) := by decide +kernel
theorem dX5_fire_51 : decode cX5_fire 51 = .ok (.iload_n 2, 1) := by decide +kernel
theorem dX5_fire_52 : decode cX5_fire 52 = .ok (.ireturn, 1) := by decide +kernel
theorem dX5_set_0 : decode cX5_set 0 = .ok (.iload_n 1, 1) := by decide +kernel
theorem dX5_set_1 : decode cX5_set 1 = .ok (.invokestatic 123, 3) := by decide +kernel
theorem dX5_set_4 : decode cX5_set 4 = .ok (.iload_n 2, 1) := by decide +kernel
theorem dX5_set_5 : decode cX5_set 5 = .ok (.getstatic 126, 3) := by decide +kernel
theorem dX5_set_8 : decode cX5_set 8 = .ok (.iload_n 1, 1) := by decide +kernel
theorem dX5_set_9 : decode cX5_set 9 = .ok (.invokestatic 79, 3) := by decide +kernel
theorem dX5_set_12 : decode cX5_set 12 = .ok (.if_icmp .lt 14, 3) := by decide +kernel
theorem dX5_set_15 : decode cX5_set 15 = .ok (.iload_n 2, 1) := by decide +kernel
theorem dX5_set_16 : decode cX5_set 16 = .ok (.getstatic 129, 3) := by decide +kernel
theorem dX5_set_19 : decode cX5_set 19 = .ok (.iload_n 1, 1) := by decide +kernel
theorem dX5_set_20 : decode cX5_set 20 = .ok (.invokestatic 79, 3) := by decide +kernel
theorem dX5_set_23 : decode cX5_set 23 = .ok (.if_icmp .le 13, 3) := by decide +kernel
theorem dX5_set_26 : decode cX5_set 26 = .ok (.new 132, 3) := by decide +kernel
theorem dX5_set_29 : decode cX5_set 29 = .ok (.dup, 1) := by decide +kernel
theorem dX5_set_30 : decode cX5_set 30 = .ok (.ldc 134, 2) := by decide +kernel
theorem dX5_set_32 : decode cX5_set 32 = .ok (.invokespecial 136, 3) := by decide +kernel
theorem dX5_set_35 : decode cX5_set 35 = .ok (.athrow, 1) := by decide +kernel
theorem dX5_set_36 : decode cX5_set 36 = .ok (.aload_n 0, 1) := by decide +kernel
end
section
theorem dX5_set_37 : decode cX5_set 37 = .ok (.getfield 22, 3) := by decide +kernel
theorem dX5_set_40 : decode cX5_set 40 = .ok (.aload_n 0, 1) := by decide +kernel
theorem dX5_set_41 : decode cX5_set 41 = .ok (.getfield 10, 3) := by decide +kernel
theorem dX5_set_44 : decode cX5_set 44 = .ok (.invokevirtual 54, 3) := by decide +kernel
theorem dX5_set_47 : decode cX5_set 47 = .ok (.aload_n 0, 1) := by decide +kernel
theorem dX5_set_48 : decode cX5_set 48 = .ok (.getfield 10, 3) := by decide +kernel
theorem dX5_set_51 : decode cX5_set 51 = .ok (.getfield 83, 3) := by decide +kernel
theorem dX5_set_54 : decode cX5_set 54 = .ok (.iload_n 1, 1) := by decide +kernel
theorem dX5_set_55 : decode cX5_set 55 = .ok (.invokestatic 79, 3) := by decide +kernel
theorem dX5_set_58 : decode cX5_set 58 = .ok (.istore_n 3, 1) := by decide +kernel
theorem dX5_set_59 : decode cX5_set 59 = .ok (.aload_n 0, 1) := by decide +kernel
theorem dX5_set_60 : decode cX5_set 60 = .ok (.getfield 10, 3) := by decide +kernel
theorem dX5_set_63 : decode cX5_set 63 = .ok (.getfield 83, 3) := by decide +kernel
theorem dX5_set_66 : decode cX5_set 66 = .ok (.iload_n 1, 1) := by decide +kernel
theorem dX5_set_67 : decode cX5_set 67 = .ok (.iload_n 2, 1) := by decide +kernel
theorem dX5_set_68 : decode cX5_set 68 = .ok (.invokestatic 109, 3) := by decide +kernel
theorem dX5_set_71 : decode cX5_set 71 = .ok (.iload_n 3, 1) := by decide +kernel
theorem dX5_set_72 : decode cX5_set 72 = .ok (.ireturn, 1) := by decide +kernel
theorem dX5_pass_0 : decode cX5_pass 0 = .ok (.iload_n 1, 1) := by decide +kernel
theorem dX5_pass_1 : decode cX5_pass 1 = .ok (.invokestatic 137, 3) := by decide +kernel
theorem dX5_pass_4 : decode cX5_pass 4 = .ok (.aload_n 0, 1) := by decide +kernel
theorem dX5_pass_5 : decode cX5_pass 5 = .ok (.getfield 22, 3) := by decide +kernel
theorem dX5_pass_8 : decode cX5_pass 8 = .ok (.aload_n 0, 1) := by decide +kernel
theorem dX5_pass_9 : decode cX5_pass 9 = .ok (.getfield 10, 3) := by decide +kernel
theorem dX5_pass_12 : decode cX5_pass 12 = .ok (.invokevirtual 54, 3) := by decide +kernel
theorem dX5_pass_15 : decode cX5_pass 15 = .ok (.aload_n 0, 1) := by decide +kernel
theorem dX5_pass_16 : decode cX5_pass 16 = .ok (.getfield 10, 3) := by decide +kernel
theorem dX5_pass_19 : decode cX5_pass 19 = .ok (.iload_n 1, 1) := by decide +kernel
theorem dX5_pass_20 : decode cX5_pass 20 = .ok (.invokevirtual 140, 3) := by decide +kernel
theorem dX5_pass_23 : decode cX5_pass 23 = .ok (.ireturn, 1) := by decide +kernel
theorem dX5_undo_0 : decode cX5_undo 0 = .ok (.aload_n 0, 1) := by decide +kernel
theorem dX5_undo_1 : decode cX5_undo 1 = .ok (.getfield 22, 3) := by decide +kernel
theorem dX5_undo_4 : decode cX5_undo 4 = .ok (.getfield 179, 3) := by decide +kernel
theorem dX5_undo_7 : decode cX5_undo 7 = .ok (.ifCond .gt 13, 3) := by decide +kernel
theorem dX5_undo_10 : decode cX5_undo 10 = .ok (.new 47, 3) := by decide +kernel
theorem dX5_undo_13 : decode cX5_undo 13 = .ok (.dup, 1) := by decide +kernel
theorem dX5_undo_14 : decode cX5_undo 14 = .ok (.ldc 182, 2) := by decide +kernel
theorem dX5_undo_16 : decode cX5_undo 16 = .ok (.invokespecial 51, 3) := by decide +kernel
theorem dX5_undo_19 : decode cX5_undo 19 = .ok (.athrow, 1) := by decide +kernel
theorem dX5_undo_20 : decode cX5_undo 20 = .ok (.aload_n 0, 1) := by decide +kernel
theorem dX5_undo_21 : decode cX5_undo 21 = .ok (.getfield 22, 3) := by decide +kernel
theorem dX5_undo_24 : decode cX5_undo 24 = .ok (.aload_n 0, 1) := by decide +kernel
theorem dX5_undo_25 : decode cX5_undo 25 = .ok (.getfield 10, 3) := by decide +kernel
theorem dX5_undo_28 : decode cX5_undo 28 = .ok (.invokevirtual 184, 3) := by decide +kernel
theorem dX5_undo_31 : decode cX5_undo 31 = .ok (.aload_n 0, 1) := by decide +kernel
theorem dX5_undo_32 : decode cX5_undo 32 = .ok (.getfield 22, 3) := by decide +kernel
theorem dX5_undo_35 : decode cX5_undo 35 = .ok (.getfield 179, 3) := by decide +kernel
theorem dX5_undo_38 : decode cX5_undo 38 = .ok (.ireturn, 1) := by decide +kernel
theorem dX5_floor_0 : decode cX5_floor 0 = .ok (.iload_n 1, 1) := by decide +kernel
theorem dX5_floor_1 : decode cX5_floor 1 = .ok (.invokestatic 71, 3) := by decide +kernel
theorem dX5_floor_4 : decode cX5_floor 4 = .ok (.iload_n 2, 1) := by decide +kernel
theorem dX5_floor_5 : decode cX5_floor 5 = .ok (.bipush 8, 2) := by decide +kernel
theorem dX5_floor_7 : decode cX5_floor 7 = .ok (.invokestatic 187, 3) := by decide +kernel
theorem dX5_floor_10 : decode cX5_floor 10 = .ok (.aload_n 0, 1) := by decide +kernel
theorem dX5_floor_11 : decode cX5_floor 11 = .ok (.getfield 10, 3) := by decide +kernel
theorem dX5_floor_14 : decode cX5_floor 14 = .ok (.iload_n 1, 1) := by decide +kernel
theorem dX5_floor_15 : decode cX5_floor 15 = .ok (.iload_n 2, 1) := by decide +kernel
theorem dX5_floor_16 : decode cX5_floor 16 = .ok (.invokevirtual 190, 3) := by decide +kernel
theorem dX5_floor_19 : decode cX5_floor 19 = .ok (.ireturn, 1) := by decide +kernel
theorem dX5_person_0 : decode cX5_person 0 = .ok (.iload_n 1, 1) := by decide +kernel
theorem dX5_person_1 : decode cX5_person 1 = .ok (.ifCond .ge 13, 3) := by decide +kernel
theorem dX5_person_4 : decode cX5_person 4 = .ok (.new 132, 3) := by decide +kernel
theorem dX5_person_7 : decode cX5_person 7 = .ok (.dup, 1) := by decide +kernel
theorem dX5_person_8 : decode cX5_person 8 = .ok (.ldc 193, 2) := by decide +kernel
theorem dX5_person_10 : decode cX5_person 10 = .ok (.invokespecial 136, 3) := by decide +kernel
theorem dX5_person_13 : decode cX5_person 13 = .ok (.athrow, 1) := by decide +kernel
theorem dX5_person_14 : decode cX5_person 14 = .ok (.iload_n 2, 1) := by decide +kernel
theorem dX5_person_15 : decode cX5_person 15 = .ok (.iconst 4, 1) := by decide +kernel
theorem dX5_person_16 : decode cX5_person 16 = .ok (.invokestatic 187, 3) := by decide +kernel
theorem dX5_person_19 : decode cX5_person 19 = .ok (.aload_n 0, 1) := by decide +kernel
theorem dX5_person_20 : decode cX5_person 20 = .ok (.getfield 10, 3) := by decide +kernel
theorem dX5_person_23 : decode cX5_person 23 = .ok (.getfield 37, 3) := by decide +kernel
theorem dX5_person_26 : decode cX5_person 26 = .ok (.iload_n 1, 1) := by decide +kernel
theorem dX5_person_27 : decode cX5_person 27 = .ok (.iload_n 2, 1) := by decide +kernel
theorem dX5_person_28 : decode cX5_person 28 = .ok (.invokevirtual 195, 3) := by decide +kernel
theorem dX5_person_31 : decode cX5_person 31 = .ok (.ireturn, 1) := by decide +kernel
theorem dX5_count_0 : decode cX5_count 0 = .ok (.iload_n 1, 1) := by decide +kernel
theorem dX5_count_1 : decode cX5_count 1 = .ok (.bipush 11, 2) := by decide +kernel
theorem dX5_count_3 : decode cX5_count 3 = .ok (.invokestatic 187, 3) := by decide +kernel
theorem dX5_count_6 : decode cX5_count 6 = .ok (.aload_n 0, 1) := by decide +kernel
theorem dX5_count_7 : decode cX5_count 7 = .ok (.iload_n 1, 1) := by decide +kernel
theorem dX5_count_8 : decode cX5_count 8 = .ok (.invokevirtual 198, 3) := by decide +kernel
theorem dX5_count_11 : decode cX5_count 11 = .ok (.ireturn, 1) := by decide +kernel
theorem dX5_setting_0 : decode cX5_setting 0 = .ok (.iload_n 1, 1) := by decide +kernel
theorem dX5_setting_1 : decode cX5_setting 1 = .ok (.invokestatic 123, 3) := by decide +kernel
theorem dX5_setting_4 : decode cX5_setting 4 = .ok (.aload_n 0, 1) := by decide +kernel
theorem dX5_setting_5 : decode cX5_setting 5 = .ok (.getfield 10, 3) := by decide +kernel
theorem dX5_setting_8 : decode cX5_setting 8 = .ok (.getfield 83, 3) := by decide +kernel
theorem dX5_setting_11 : decode cX5_setting 11 = .ok (.iload_n 1, 1) := by decide +kernel
theorem dX5_setting_12 : decode cX5_setting 12 = .ok (.invokestatic 79, 3) := by decide +kernel
theorem dX5_setting_15 : decode cX5_setting 15 = .ok (.ireturn, 1) := by decide +kernel
theorem dX5_ifPassed_0 : decode cX5_ifPassed 0 = .ok (.iload_n 1, 1) := by decide +kernel
theorem dX5_ifPassed_1 : decode cX5_ifPassed 1 = .ok (.invokestatic 137, 3) := by decide +kernel
theorem dX5_ifPassed_4 : decode cX5_ifPassed 4 = .ok (.iload_n 2, 1) := by decide +kernel
theorem dX5_ifPassed_5 : decode cX5_ifPassed 5 = .ok (.iconst 4, 1) := by decide +kernel
theorem dX5_ifPassed_6 : decode cX5_ifPassed 6 = .ok (.invokestatic 187, 3) := by decide +kernel
theorem dX5_ifPassed_9 : decode cX5_ifPassed 9 = .ok (.aload_n 0, 1) := by decide +kernel
theorem dX5_ifPassed_10 : decode cX5_ifPassed 10 = .ok (.iload_n 1, 1) := by decide +kernel
theorem dX5_ifPassed_11 : decode cX5_ifPassed 11 = .ok (.iload_n 2, 1) := by decide +kernel
theorem dX5_ifPassed_12 : decode cX5_ifPassed 12 = .ok (.invokevirtual 201, 3) := by decide +kernel
theorem dX5_ifPassed_15 : decode cX5_ifPassed 15 = .ok (.ireturn, 1) := by decide +kernel
theorem dX5_dark_0 : decode cX5_dark 0 = .ok (.iload_n 1, 1) := by decide +kernel
theorem dX5_dark_1 : decode cX5_dark 1 = .ok (.iload_n 2, 1) := by decide +kernel
theorem dX5_dark_2 : decode cX5_dark 2 = .ok (.invokestatic 33, 3) := by decide +kernel
theorem dX5_dark_5 : decode cX5_dark 5 = .ok (.aload_n 0, 1) := by decide +kernel
theorem dX5_dark_6 : decode cX5_dark 6 = .ok (.aload_n 0, 1) := by decide +kernel
theorem dX5_dark_7 : decode cX5_dark 7 = .ok (.getfield 10, 3) := by decide +kernel
theorem dX5_dark_10 : decode cX5_dark 10 = .ok (.getfield 83, 3) := by decide +kernel
theorem dX5_dark_13 : decode cX5_dark 13 = .ok (.iconst 0, 1) := by decide +kernel
theorem dX5_dark_14 : decode cX5_dark 14 = .ok (.invokestatic 79, 3) := by decide +kernel
theorem dX5_dark_17 : decode cX5_dark 17 = .ok (.iload_n 1, 1) := by decide +kernel
theorem dX5_dark_18 : decode cX5_dark 18 = .ok (.iload_n 2, 1) := by decide +kernel
theorem dX5_dark_19 : decode cX5_dark 19 = .ok (.invokevirtual 204, 3) := by decide +kernel
theorem dX5_dark_22 : decode cX5_dark 22 = .ok (.ireturn, 1) := by decide +kernel
theorem dX5_worst_0 : decode cX5_worst 0 = .ok (.aload_n 0, 1) := by decide +kernel
theorem dX5_worst_1 : decode cX5_worst 1 = .ok (.getfield 10, 3) := by decide +kernel
theorem dX5_worst_4 : decode cX5_worst 4 = .ok (.getfield 90, 3) := by decide +kernel
theorem dX5_worst_7 : decode cX5_worst 7 = .ok (.invokevirtual 211, 3) := by decide +kernel
theorem dX5_worst_10 : decode cX5_worst 10 = .ok (.ireturn, 1) := by decide +kernel
theorem dX5_lightness_0 : decode cX5_lightness 0 = .ok (.aload_n 0, 1) := by decide +kernel
theorem dX5_lightness_1 : decode cX5_lightness 1 = .ok (.getfield 10, 3) := by decide +kernel
theorem dX5_lightness_4 : decode cX5_lightness 4 = .ok (.invokevirtual 214, 3) := by decide +kernel
theorem dX5_lightness_7 : decode cX5_lightness 7 = .ok (.dreturn, 1) := by decide +kernel
theorem dX5_checkFloor_0 : decode cX5_checkFloor 0 = .ok (.iload_n 0, 1) := by decide +kernel
theorem dX5_checkFloor_1 : decode cX5_checkFloor 1 = .ok (.ifCond .lt 9, 3) := by decide +kernel
theorem dX5_checkFloor_4 : decode cX5_checkFloor 4 = .ok (.iload_n 0, 1) := by decide +kernel
theorem dX5_checkFloor_5 : decode cX5_checkFloor 5 = .ok (.bipush 8, 2) := by decide +kernel
theorem dX5_checkFloor_7 : decode cX5_checkFloor 7 = .ok (.if_icmp .lt 13, 3) := by decide +kernel
theorem dX5_checkFloor_10 : decode cX5_checkFloor 10 = .ok (.new 66, 3) := by decide +kernel
theorem dX5_checkFloor_13 : decode cX5_checkFloor 13 = .ok (.dup, 1) := by decide +kernel
theorem dX5_checkFloor_14 : decode cX5_checkFloor 14 = .ok (.ldc 238, 2) := by decide +kernel
theorem dX5_checkFloor_16 : decode cX5_checkFloor 16 = .ok (.invokespecial 70, 3) := by decide +kernel
theorem dX5_checkFloor_19 : decode cX5_checkFloor 19 = .ok (.athrow, 1) := by decide +kernel
theorem dX5_checkFloor_20 : decode cX5_checkFloor 20 = .ok (.return_, 1) := by decide +kernel
theorem dX5_checkWay_0 : decode cX5_checkWay 0 = .ok (.iload_n 0, 1) := by decide +kernel
theorem dX5_checkWay_1 : decode cX5_checkWay 1 = .ok (.invokestatic 71, 3) := by decide +kernel
theorem dX5_checkWay_4 : decode cX5_checkWay 4 = .ok (.iload_n 1, 1) := by decide +kernel
theorem dX5_checkWay_5 : decode cX5_checkWay 5 = .ok (.invokestatic 71, 3) := by decide +kernel
theorem dX5_checkWay_8 : decode cX5_checkWay 8 = .ok (.iload_n 0, 1) := by decide +kernel
theorem dX5_checkWay_9 : decode cX5_checkWay 9 = .ok (.iload_n 1, 1) := by decide +kernel
theorem dX5_checkWay_10 : decode cX5_checkWay 10 = .ok (.if_icmp .ne 13, 3) := by decide +kernel
theorem dX5_checkWay_13 : decode cX5_checkWay 13 = .ok (.new 132, 3) := by decide +kernel
theorem dX5_checkWay_16 : decode cX5_checkWay 16 = .ok (.dup, 1) := by decide +kernel
theorem dX5_checkWay_17 : decode cX5_checkWay 17 = .ok (.ldc 240, 2) := by decide +kernel
theorem dX5_checkWay_19 : decode cX5_checkWay 19 = .ok (.invokespecial 136, 3) := by decide +kernel
theorem dX5_checkWay_22 : decode cX5_checkWay 22 = .ok (.athrow, 1) := by decide +kernel
theorem dX5_checkWay_23 : decode cX5_checkWay 23 = .ok (.return_, 1) := by decide +kernel
theorem dX5_checkSetting_0 : decode cX5_checkSetting 0 = .ok (.iload_n 0, 1) := by decide +kernel
theorem dX5_checkSetting_1 : decode cX5_checkSetting 1 = .ok (.ifCond .lt 11, 3) := by decide +kernel
theorem dX5_checkSetting_4 : decode cX5_checkSetting 4 = .ok (.iload_n 0, 1) := by decide +kernel
theorem dX5_checkSetting_5 : decode cX5_checkSetting 5 = .ok (.getstatic 242, 3) := by decide +kernel
theorem dX5_checkSetting_8 : decode cX5_checkSetting 8 = .ok (.arraylength, 1) := by decide +kernel
theorem dX5_checkSetting_9 : decode cX5_checkSetting 9 = .ok (.if_icmp .lt 13, 3) := by decide +kernel
theorem dX5_checkSetting_12 : decode cX5_checkSetting 12 = .ok (.new 66, 3) := by decide +kernel
theorem dX5_checkSetting_15 : decode cX5_checkSetting 15 = .ok (.dup, 1) := by decide +kernel
theorem dX5_checkSetting_16 : decode cX5_checkSetting 16 = .ok (.ldc 245, 2) := by decide +kernel
theorem dX5_checkSetting_18 : decode cX5_checkSetting 18 = .ok (.invokespecial 70, 3) := by decide +kernel
theorem dX5_checkSetting_21 : decode cX5_checkSetting 21 = .ok (.athrow, 1) := by decide +kernel
theorem dX5_checkSetting_22 : decode cX5_checkSetting 22 = .ok (.return_, 1) := by decide +kernel
theorem dX5_checkSeconds_0 : decode cX5_checkSeconds 0 = .ok (.iload_n 0, 1) := by decide +kernel
theorem dX5_checkSeconds_1 : decode cX5_checkSeconds 1 = .ok (.iconst 1, 1) := by decide +kernel
theorem dX5_checkSeconds_2 : decode cX5_checkSeconds 2 = .ok (.if_icmp .lt 10, 3) := by decide +kernel
theorem dX5_checkSeconds_5 : decode cX5_checkSeconds 5 = .ok (.iload_n 0, 1) := by decide +kernel
theorem dX5_checkSeconds_6 : decode cX5_checkSeconds 6 = .ok (.sipush 300, 3) := by decide +kernel
theorem dX5_checkSeconds_9 : decode cX5_checkSeconds 9 = .ok (.if_icmp .le 13, 3) := by decide +kernel
theorem dX5_checkSeconds_12 : decode cX5_checkSeconds 12 = .ok (.new 132, 3) := by decide +kernel
theorem dX5_checkSeconds_15 : decode cX5_checkSeconds 15 = .ok (.dup, 1) := by decide +kernel
theorem dX5_checkSeconds_16 : decode cX5_checkSeconds 16 = .ok (.ldc 247, 2) := by decide +kernel
theorem dX5_checkSeconds_18 : decode cX5_checkSeconds 18 = .ok (.invokespecial 136, 3) := by decide +kernel
theorem dX5_checkSeconds_21 : decode cX5_checkSeconds 21 = .ok (.athrow, 1) := by decide +kernel
theorem dX5_checkSeconds_22 : decode cX5_checkSeconds 22 = .ok (.return_, 1) := by decide +kernel
theorem dX5_checkWhat_0 : decode cX5_checkWhat 0 = .ok (.iload_n 0, 1) := by decide +kernel
theorem dX5_checkWhat_1 : decode cX5_checkWhat 1 = .ok (.ifCond .lt 8, 3) := by decide +kernel
theorem dX5_checkWhat_4 : decode cX5_checkWhat 4 = .ok (.iload_n 0, 1) := by decide +kernel
theorem dX5_checkWhat_5 : decode cX5_checkWhat 5 = .ok (.iload_n 1, 1) := by decide +kernel
theorem dX5_checkWhat_6 : decode cX5_checkWhat 6 = .ok (.if_icmp .lt 13, 3) := by decide +kernel
theorem dX5_checkWhat_9 : decode cX5_checkWhat 9 = .ok (.new 132, 3) := by decide +kernel
theorem dX5_checkWhat_12 : decode cX5_checkWhat 12 = .ok (.dup, 1) := by decide +kernel
theorem dX5_checkWhat_13 : decode cX5_checkWhat 13 = .ok (.ldc 249, 2) := by decide +kernel
theorem dX5_checkWhat_15 : decode cX5_checkWhat 15 = .ok (.invokespecial 136, 3) := by decide +kernel
theorem dX5_checkWhat_18 : decode cX5_checkWhat 18 = .ok (.athrow, 1) := by decide +kernel
theorem dX5_checkWhat_19 : decode cX5_checkWhat 19 = .ok (.return_, 1) := by decide +kernel
theorem dX5_counted_0 : decode cX5_counted 0 = .ok (.iload_n 1, 1) := by decide +kernel
theorem dX5_counted_1 : decode cX5_counted 1 = .ok (.tableswitch 174 0 9 #[55, 63, 74, 85, 93, 107, 121, 135, 146, 157], 55) := by decide +kernel
theorem dX5_counted_56 : decode cX5_counted 56 = .ok (.aload_n 0, 1) := by decide +kernel
theorem dX5_counted_57 : decode cX5_counted 57 = .ok (.getfield 10, 3) := by decide +kernel
theorem dX5_counted_60 : decode cX5_counted 60 = .ok (.getfield 251, 3) := by decide +kernel
theorem dX5_counted_63 : decode cX5_counted 63 = .ok (.ireturn, 1) := by decide +kernel
theorem dX5_counted_64 : decode cX5_counted 64 = .ok (.aload_n 0, 1) := by decide +kernel
theorem dX5_counted_65 : decode cX5_counted 65 = .ok (.getfield 10, 3) := by decide +kernel
theorem dX5_counted_68 : decode cX5_counted 68 = .ok (.getfield 37, 3) := by decide +kernel
theorem dX5_counted_71 : decode cX5_counted 71 = .ok (.getfield 41, 3) := by decide +kernel
theorem dX5_counted_74 : decode cX5_counted 74 = .ok (.ireturn, 1) := by decide +kernel
theorem dX5_counted_75 : decode cX5_counted 75 = .ok (.aload_n 0, 1) := by decide +kernel
theorem dX5_counted_76 : decode cX5_counted 76 = .ok (.getfield 10, 3) := by decide +kernel
theorem dX5_counted_79 : decode cX5_counted 79 = .ok (.getfield 37, 3) := by decide +kernel
theorem dX5_counted_82 : decode cX5_counted 82 = .ok (.getfield 254, 3) := by decide +kernel
theorem dX5_counted_85 : decode cX5_counted 85 = .ok (.ireturn, 1) := by decide +kernel
theorem dX5_counted_86 : decode cX5_counted 86 = .ok (.aload_n 0, 1) := by decide +kernel
theorem dX5_counted_87 : decode cX5_counted 87 = .ok (.getfield 10, 3) := by decide +kernel
theorem dX5_counted_90 : decode cX5_counted 90 = .ok (.invokevirtual 257, 3) := by decide +kernel
theorem dX5_counted_93 : decode cX5_counted 93 = .ok (.ireturn, 1) := by decide +kernel
theorem dX5_counted_94 : decode cX5_counted 94 = .ok (.aload_n 0, 1) := by decide +kernel
theorem dX5_counted_95 : decode cX5_counted 95 = .ok (.getfield 10, 3) := by decide +kernel
theorem dX5_counted_98 : decode cX5_counted 98 = .ok (.getfield 90, 3) := by decide +kernel
theorem dX5_counted_101 : decode cX5_counted 101 = .ok (.getfield 260, 3) := by decide +kernel
theorem dX5_counted_104 : decode cX5_counted 104 = .ok (.invokestatic 263, 3) := by decide +kernel
theorem dX5_counted_107 : decode cX5_counted 107 = .ok (.ireturn, 1) := by decide +kernel
theorem dX5_counted_108 : decode cX5_counted 108 = .ok (.aload_n 0, 1) := by decide +kernel
theorem dX5_counted_109 : decode cX5_counted 109 = .ok (.getfield 10, 3) := by decide +kernel
theorem dX5_counted_112 : decode cX5_counted 112 = .ok (.getfield 90, 3) := by decide +kernel
theorem dX5_counted_115 : decode cX5_counted 115 = .ok (.getfield 267, 3) := by decide +kernel
theorem dX5_counted_118 : decode cX5_counted 118 = .ok (.invokestatic 263, 3) := by decide +kernel
theorem dX5_counted_121 : decode cX5_counted 121 = .ok (.ireturn, 1) := by decide +kernel
theorem dX5_counted_122 : decode cX5_counted 122 = .ok (.aload_n 0, 1) := by decide +kernel
theorem dX5_counted_123 : decode cX5_counted 123 = .ok (.getfield 10, 3) := by decide +kernel
theorem dX5_counted_126 : decode cX5_counted 126 = .ok (.getfield 90, 3) := by decide +kernel
theorem dX5_counted_129 : decode cX5_counted 129 = .ok (.getfield 270, 3) := by decide +kernel
theorem dX5_counted_132 : decode cX5_counted 132 = .ok (.invokestatic 263, 3) := by decide +kernel
theorem dX5_counted_135 : decode cX5_counted 135 = .ok (.ireturn, 1) := by decide +kernel
theorem dX5_counted_136 : decode cX5_counted 136 = .ok (.aload_n 0, 1) := by decide +kernel
theorem dX5_counted_137 : decode cX5_counted 137 = .ok (.getfield 10, 3) := by decide +kernel
theorem dX5_counted_140 : decode cX5_counted 140 = .ok (.getfield 113, 3) := by decide +kernel
theorem dX5_counted_143 : decode cX5_counted 143 = .ok (.invokestatic 105, 3) := by decide +kernel
theorem dX5_counted_146 : decode cX5_counted 146 = .ok (.ireturn, 1) := by decide +kernel
theorem dX5_counted_147 : decode cX5_counted 147 = .ok (.aload_n 0, 1) := by decide +kernel
theorem dX5_counted_148 : decode cX5_counted 148 = .ok (.getfield 10, 3) := by decide +kernel
theorem dX5_counted_151 : decode cX5_counted 151 = .ok (.getfield 117, 3) := by decide +kernel
theorem dX5_counted_154 : decode cX5_counted 154 = .ok (.invokestatic 105, 3) := by decide +kernel
theorem dX5_counted_157 : decode cX5_counted 157 = .ok (.ireturn, 1) := by decide +kernel
theorem dX5_counted_158 : decode cX5_counted 158 = .ok (.bipush 8, 2) := by decide +kernel
theorem dX5_counted_160 : decode cX5_counted 160 = .ok (.aload_n 0, 1) := by decide +kernel
theorem dX5_counted_161 : decode cX5_counted 161 = .ok (.getfield 10, 3) := by decide +kernel
theorem dX5_counted_164 : decode cX5_counted 164 = .ok (.getfield 90, 3) := by decide +kernel
theorem dX5_counted_167 : decode cX5_counted 167 = .ok (.getfield 102, 3) := by decide +kernel
theorem dX5_counted_170 : decode cX5_counted 170 = .ok (.invokestatic 263, 3) := by decide +kernel
theorem dX5_counted_173 : decode cX5_counted 173 = .ok (.isub, 1) := by decide +kernel
theorem dX5_counted_174 : decode cX5_counted 174 = .ok (.ireturn, 1) := by decide +kernel
theorem dX5_counted_175 : decode cX5_counted 175 = .ok (.aload_n 0, 1) := by decide +kernel
theorem dX5_counted_176 : decode cX5_counted 176 = .ok (.getfield 22, 3) := by decide +kernel
theorem dX5_counted_179 : decode cX5_counted 179 = .ok (.getfield 179, 3) := by decide +kernel
theorem dX5_counted_182 : decode cX5_counted 182 = .ok (.ireturn, 1) := by decide +kernel
theorem dX5_outlook_0 : decode cX5_outlook 0 = .ok (.aload_n 0, 1) := by decide +kernel
theorem dX5_outlook_1 : decode cX5_outlook 1 = .ok (.getfield 16, 3) := by decide +kernel
theorem dX5_outlook_4 : decode cX5_outlook 4 = .ok (.aload_n 0, 1) := by decide +kernel
theorem dX5_outlook_5 : decode cX5_outlook 5 = .ok (.getfield 10, 3) := by decide +kernel
theorem dX5_outlook_8 : decode cX5_outlook 8 = .ok (.invokevirtual 273, 3) := by decide +kernel
theorem dX5_outlook_11 : decode cX5_outlook 11 = .ok (.aload_n 0, 1) := by decide +kernel
theorem dX5_outlook_12 : decode cX5_outlook 12 = .ok (.getfield 16, 3) := by decide +kernel
theorem dX5_outlook_15 : decode cX5_outlook 15 = .ok (.iload_n 1, 1) := by decide +kernel
theorem dX5_outlook_16 : decode cX5_outlook 16 = .ok (.invokevirtual 140, 3) := by decide +kernel
theorem dX5_outlook_19 : decode cX5_outlook 19 = .ok (.istore_n 3, 1) := by decide +kernel
theorem dX5_outlook_20 : decode cX5_outlook 20 = .ok (.iload_n 2, 1) := by decide +kernel
theorem dX5_outlook_21 : decode cX5_outlook 21 = .ok (.tableswitch 68 0 2 #[27, 29, 57], 27) := by decide +kernel
theorem dX5_outlook_48 : decode cX5_outlook 48 = .ok (.iload_n 3, 1) := by decide +kernel
theorem dX5_outlook_49 : decode cX5_outlook 49 = .ok (.ireturn, 1) := by decide +kernel
theorem dX5_outlook_50 : decode cX5_outlook 50 = .ok (.aload_n 0, 1) := by decide +kernel
theorem dX5_outlook_51 : decode cX5_outlook 51 = .ok (.getfield 16, 3) := by decide +kernel
theorem dX5_outlook_54 : decode cX5_outlook 54 = .ok (.getfield 90, 3) := by decide +kernel
theorem dX5_outlook_57 : decode cX5_outlook 57 = .ok (.getfield 270, 3) := by decide +kernel
theorem dX5_outlook_60 : decode cX5_outlook 60 = .ok (.invokestatic 263, 3) := by decide +kernel
theorem dX5_outlook_63 : decode cX5_outlook 63 = .ok (.aload_n 0, 1) := by decide +kernel
theorem dX5_outlook_64 : decode cX5_outlook 64 = .ok (.getfield 10, 3) := by decide +kernel
theorem dX5_outlook_67 : decode cX5_outlook 67 = .ok (.getfield 90, 3) := by decide +kernel
theorem dX5_outlook_70 : decode cX5_outlook 70 = .ok (.getfield 270, 3) := by decide +kernel
theorem dX5_outlook_73 : decode cX5_outlook 73 = .ok (.invokestatic 263, 3) := by decide +kernel
theorem dX5_outlook_76 : decode cX5_outlook 76 = .ok (.isub, 1) := by decide +kernel
theorem dX5_outlook_77 : decode cX5_outlook 77 = .ok (.ireturn, 1) := by decide +kernel
theorem dX5_outlook_78 : decode cX5_outlook 78 = .ok (.aload_n 0, 1) := by decide +kernel
theorem dX5_outlook_79 : decode cX5_outlook 79 = .ok (.getfield 16, 3) := by decide +kernel
theorem dX5_outlook_82 : decode cX5_outlook 82 = .ok (.getfield 37, 3) := by decide +kernel
theorem dX5_outlook_85 : decode cX5_outlook 85 = .ok (.getfield 41, 3) := by decide +kernel
theorem dX5_outlook_88 : decode cX5_outlook 88 = .ok (.ireturn, 1) := by decide +kernel
theorem dX5_outlook_89 : decode cX5_outlook 89 = .ok (.aload_n 0, 1) := by decide +kernel
theorem dX5_outlook_90 : decode cX5_outlook 90 = .ok (.getfield 16, 3) := by decide +kernel
theorem dX5_outlook_93 : decode cX5_outlook 93 = .ok (.invokevirtual 257, 3) := by decide +kernel
theorem dX5_outlook_96 : decode cX5_outlook 96 = .ok (.ireturn, 1) := by decide +kernel
theorem dX5_darkWith_0 : decode cX5_darkWith 0 = .ok (.aload_n 0, 1) := by decide +kernel
theorem dX5_darkWith_1 : decode cX5_darkWith 1 = .ok (.getfield 16, 3) := by decide +kernel
theorem dX5_darkWith_4 : decode cX5_darkWith 4 = .ok (.aload_n 0, 1) := by decide +kernel
theorem dX5_darkWith_5 : decode cX5_darkWith 5 = .ok (.getfield 10, 3) := by decide +kernel
theorem dX5_darkWith_8 : decode cX5_darkWith 8 = .ok (.invokevirtual 273, 3) := by decide +kernel
theorem dX5_darkWith_11 : decode cX5_darkWith 11 = .ok (.aload_n 0, 1) := by decide +kernel
theorem dX5_darkWith_12 : decode cX5_darkWith 12 = .ok (.getfield 16, 3) := by decide +kernel
theorem dX5_darkWith_15 : decode cX5_darkWith 15 = .ok (.getfield 83, 3) := by decide +kernel
theorem dX5_darkWith_18 : decode cX5_darkWith 18 = .ok (.iconst 0, 1) := by decide +kernel
theorem dX5_darkWith_19 : decode cX5_darkWith 19 = .ok (.iload_n 1, 1) := by decide +kernel
theorem dX5_darkWith_20 : decode cX5_darkWith 20 = .ok (.invokestatic 109, 3) := by decide +kernel
theorem dX5_darkWith_23 : decode cX5_darkWith 23 = .ok (.aload_n 0, 1) := by decide +kernel
theorem dX5_darkWith_24 : decode cX5_darkWith 24 = .ok (.getfield 16, 3) := by decide +kernel
theorem dX5_darkWith_27 : decode cX5_darkWith 27 = .ok (.iload_n 2, 1) := by decide +kernel
theorem dX5_darkWith_28 : decode cX5_darkWith 28 = .ok (.iload_n 3, 1) := by decide +kernel
theorem dX5_darkWith_29 : decode cX5_darkWith 29 = .ok (.invokevirtual 58, 3) := by decide +kernel
theorem dX5_darkWith_32 : decode cX5_darkWith 32 = .ok (.istore 4, 2) := by decide +kernel
theorem dX5_darkWith_34 : decode cX5_darkWith 34 = .ok (.iconst 0, 1) := by decide +kernel
theorem dX5_darkWith_35 : decode cX5_darkWith 35 = .ok (.istore 5, 2) := by decide +kernel
theorem dX5_darkWith_37 : decode cX5_darkWith 37 = .ok (.iconst 0, 1) := by decide +kernel
theorem dX5_darkWith_38 : decode cX5_darkWith 38 = .ok (.istore 6, 2) := by decide +kernel
theorem dX5_darkWith_40 : decode cX5_darkWith 40 = .ok (.iload 6, 2) := by decide +kernel
theorem dX5_darkWith_42 : decode cX5_darkWith 42 = .ok (.sipush 480, 3) := by decide +kernel
theorem dX5_darkWith_45 : decode cX5_darkWith 45 = .ok (.if_icmp .ge 74, 3) := by decide +kernel
theorem dX5_darkWith_48 : decode cX5_darkWith 48 = .ok (.aload_n 0, 1) := by decide +kernel
theorem dX5_darkWith_49 : decode cX5_darkWith 49 = .ok (.getfield 16, 3) := by decide +kernel
theorem dX5_darkWith_52 : decode cX5_darkWith 52 = .ok (.invokevirtual 276, 3) := by decide +kernel
theorem dX5_darkWith_55 : decode cX5_darkWith 55 = .ok (.aload_n 0, 1) := by decide +kernel
theorem dX5_darkWith_56 : decode cX5_darkWith 56 = .ok (.getfield 16, 3) := by decide +kernel
theorem dX5_darkWith_59 : decode cX5_darkWith 59 = .ok (.getfield 37, 3) := by decide +kernel
theorem dX5_darkWith_62 : decode cX5_darkWith 62 = .ok (.iload 4, 2) := by decide +kernel
theorem dX5_darkWith_64 : decode cX5_darkWith 64 = .ok (.invokevirtual 62, 3) := by decide +kernel
theorem dX5_darkWith_67 : decode cX5_darkWith 67 = .ok (.istore 7, 2) := by decide +kernel
theorem dX5_darkWith_69 : decode cX5_darkWith 69 = .ok (.iload 7, 2) := by decide +kernel
theorem dX5_darkWith_71 : decode cX5_darkWith 71 = .ok (.iconst (-1), 1) := by decide +kernel
theorem dX5_darkWith_72 : decode cX5_darkWith 72 = .ok (.if_icmp .ne 6, 3) := by decide +kernel
theorem dX5_darkWith_75 : decode cX5_darkWith 75 = .ok (.iload 5, 2) := by decide +kernel
theorem dX5_darkWith_77 : decode cX5_darkWith 77 = .ok (.ireturn, 1) := by decide +kernel
theorem dX5_darkWith_78 : decode cX5_darkWith 78 = .ok (.aload_n 0, 1) := by decide +kernel
theorem dX5_darkWith_79 : decode cX5_darkWith 79 = .ok (.getfield 16, 3) := by decide +kernel
theorem dX5_darkWith_82 : decode cX5_darkWith 82 = .ok (.aload_n 0, 1) := by decide +kernel
theorem dX5_darkWith_83 : decode cX5_darkWith 83 = .ok (.getfield 16, 3) := by decide +kernel
theorem dX5_darkWith_86 : decode cX5_darkWith 86 = .ok (.getfield 37, 3) := by decide +kernel
theorem dX5_darkWith_89 : decode cX5_darkWith 89 = .ok (.getfield 279, 3) := by decide +kernel
theorem dX5_darkWith_92 : decode cX5_darkWith 92 = .ok (.iload 7, 2) := by decide +kernel
theorem dX5_darkWith_94 : decode cX5_darkWith 94 = .ok (.invokestatic 79, 3) := by decide +kernel
theorem dX5_darkWith_97 : decode cX5_darkWith 97 = .ok (.invokevirtual 281, 3) := by decide +kernel
theorem dX5_darkWith_100 : decode cX5_darkWith 100 = .ok (.ifCond .ne 6, 3) := by decide +kernel
theorem dX5_darkWith_103 : decode cX5_darkWith 103 = .ok (.iinc 5 1, 3) := by decide +kernel
theorem dX5_darkWith_106 : decode cX5_darkWith 106 = .ok (.aload_n 0, 1) := by decide +kernel
theorem dX5_darkWith_107 : decode cX5_darkWith 107 = .ok (.getfield 16, 3) := by decide +kernel
theorem dX5_darkWith_110 : decode cX5_darkWith 110 = .ok (.invokevirtual 284, 3) := by decide +kernel
theorem dX5_darkWith_113 : decode cX5_darkWith 113 = .ok (.iinc 6 1, 3) := by decide +kernel
theorem dX5_darkWith_116 : decode cX5_darkWith 116 = .ok (.goto (-76), 3) := by decide +kernel
theorem dX5_darkWith_119 : decode cX5_darkWith 119 = .ok (.iload 5, 2) := by decide +kernel
theorem dX5_darkWith_121 : decode cX5_darkWith 121 = .ok (.ireturn, 1) := by decide +kernel
theorem dX5_at_0 : decode cX5_at 0 = .ok (.iload_n 1, 1) := by decide +kernel
theorem dX5_at_1 : decode cX5_at 1 = .ok (.ifCond .lt 15, 3) := by decide +kernel
theorem dX5_at_4 : decode cX5_at 4 = .ok (.iload_n 1, 1) := by decide +kernel
theorem dX5_at_5 : decode cX5_at 5 = .ok (.aload_n 0, 1) := by decide +kernel
theorem dX5_at_6 : decode cX5_at 6 = .ok (.arraylength, 1) := by decide +kernel
theorem dX5_at_7 : decode cX5_at 7 = .ok (.if_icmp .ge 9, 3) := by decide +kernel
theorem dX5_at_10 : decode cX5_at 10 = .ok (.aload_n 0, 1) := by decide +kernel
theorem dX5_at_11 : decode cX5_at 11 = .ok (.iload_n 1, 1) := by decide +kernel
theorem dX5_at_12 : decode cX5_at 12 = .ok (.iaload, 1) := by decide +kernel
theorem dX5_at_13 : decode cX5_at 13 = .ok (.goto 4, 3) := by decide +kernel
theorem dX5_at_16 : decode cX5_at 16 = .ok (.iconst 0, 1) := by decide +kernel
theorem dX5_at_17 : decode cX5_at 17 = .ok (.ireturn, 1) := by decide +kernel
theorem dX5_put_0 : decode cX5_put 0 = .ok (.iload_n 1, 1) := by decide +kernel
theorem dX5_put_1 : decode cX5_put 1 = .ok (.ifCond .lt 13, 3) := by decide +kernel
theorem dX5_put_4 : decode cX5_put 4 = .ok (.iload_n 1, 1) := by decide +kernel
theorem dX5_put_5 : decode cX5_put 5 = .ok (.aload_n 0, 1) := by decide +kernel
theorem dX5_put_6 : decode cX5_put 6 = .ok (.arraylength, 1) := by decide +kernel
theorem dX5_put_7 : decode cX5_put 7 = .ok (.if_icmp .ge 7, 3) := by decide +kernel
theorem dX5_put_10 : decode cX5_put 10 = .ok (.aload_n 0, 1) := by decide +kernel
theorem dX5_put_11 : decode cX5_put 11 = .ok (.iload_n 1, 1) := by decide +kernel
theorem dX5_put_12 : decode cX5_put 12 = .ok (.iload_n 2, 1) := by decide +kernel
theorem dX5_put_13 : decode cX5_put 13 = .ok (.iastore, 1) := by decide +kernel
theorem dX5_put_14 : decode cX5_put 14 = .ok (.return_, 1) := by decide +kernel
theorem dX5_raise_0 : decode cX5_raise 0 = .ok (.iload_n 1, 1) := by decide +kernel
theorem dX5_raise_1 : decode cX5_raise 1 = .ok (.ifCond .lt 16, 3) := by decide +kernel
theorem dX5_raise_4 : decode cX5_raise 4 = .ok (.iload_n 1, 1) := by decide +kernel
theorem dX5_raise_5 : decode cX5_raise 5 = .ok (.aload_n 0, 1) := by decide +kernel
theorem dX5_raise_6 : decode cX5_raise 6 = .ok (.arraylength, 1) := by decide +kernel
theorem dX5_raise_7 : decode cX5_raise 7 = .ok (.if_icmp .ge 10, 3) := by decide +kernel
theorem dX5_raise_10 : decode cX5_raise 10 = .ok (.aload_n 0, 1) := by decide +kernel
theorem dX5_raise_11 : decode cX5_raise 11 = .ok (.iload_n 1, 1) := by decide +kernel
theorem dX5_raise_12 : decode cX5_raise 12 = .ok (.dup2, 1) := by decide +kernel
theorem dX5_raise_13 : decode cX5_raise 13 = .ok (.iaload, 1) := by decide +kernel
theorem dX5_raise_14 : decode cX5_raise 14 = .ok (.iload_n 2, 1) := by decide +kernel
theorem dX5_raise_15 : decode cX5_raise 15 = .ok (.iadd, 1) := by decide +kernel
theorem dX5_raise_16 : decode cX5_raise 16 = .ok (.iastore, 1) := by decide +kernel
theorem dX5_raise_17 : decode cX5_raise 17 = .ok (.return_, 1) := by decide +kernel
theorem dX5_sumOf_0 : decode cX5_sumOf 0 = .ok (.iconst 0, 1) := by decide +kernel
theorem dX5_sumOf_1 : decode cX5_sumOf 1 = .ok (.istore_n 1, 1) := by decide +kernel
theorem dX5_sumOf_2 : decode cX5_sumOf 2 = .ok (.iconst 0, 1) := by decide +kernel
theorem dX5_sumOf_3 : decode cX5_sumOf 3 = .ok (.istore_n 2, 1) := by decide +kernel
theorem dX5_sumOf_4 : decode cX5_sumOf 4 = .ok (.iload_n 2, 1) := by decide +kernel
theorem dX5_sumOf_5 : decode cX5_sumOf 5 = .ok (.aload_n 0, 1) := by decide +kernel
theorem dX5_sumOf_6 : decode cX5_sumOf 6 = .ok (.arraylength, 1) := by decide +kernel
theorem dX5_sumOf_7 : decode cX5_sumOf 7 = .ok (.if_icmp .ge 15, 3) := by decide +kernel
theorem dX5_sumOf_10 : decode cX5_sumOf 10 = .ok (.iload_n 1, 1) := by decide +kernel
theorem dX5_sumOf_11 : decode cX5_sumOf 11 = .ok (.aload_n 0, 1) := by decide +kernel
theorem dX5_sumOf_12 : decode cX5_sumOf 12 = .ok (.iload_n 2, 1) := by decide +kernel
theorem dX5_sumOf_13 : decode cX5_sumOf 13 = .ok (.iaload, 1) := by decide +kernel
theorem dX5_sumOf_14 : decode cX5_sumOf 14 = .ok (.iadd, 1) := by decide +kernel
theorem dX5_sumOf_15 : decode cX5_sumOf 15 = .ok (.istore_n 1, 1) := by decide +kernel
theorem dX5_sumOf_16 : decode cX5_sumOf 16 = .ok (.iinc 2 1, 3) := by decide +kernel
theorem dX5_sumOf_19 : decode cX5_sumOf 19 = .ok (.goto (-15), 3) := by decide +kernel
theorem dX5_sumOf_22 : decode cX5_sumOf 22 = .ok (.iload_n 1, 1) := by decide +kernel
theorem dX5_sumOf_23 : decode cX5_sumOf 23 = .ok (.ireturn, 1) := by decide +kernel
theorem dX5_copyRow_0 : decode cX5_copyRow 0 = .ok (.iconst 0, 1) := by decide +kernel
theorem dX5_copyRow_1 : decode cX5_copyRow 1 = .ok (.istore_n 2, 1) := by decide +kernel
theorem dX5_copyRow_2 : decode cX5_copyRow 2 = .ok (.iload_n 2, 1) := by decide +kernel
theorem dX5_copyRow_3 : decode cX5_copyRow 3 = .ok (.aload_n 0, 1) := by decide +kernel
theorem dX5_copyRow_4 : decode cX5_copyRow 4 = .ok (.arraylength, 1) := by decide +kernel
theorem dX5_copyRow_5 : decode cX5_copyRow 5 = .ok (.if_icmp .ge 21, 3) := by decide +kernel
theorem dX5_copyRow_8 : decode cX5_copyRow 8 = .ok (.iload_n 2, 1) := by decide +kernel
theorem dX5_copyRow_9 : decode cX5_copyRow 9 = .ok (.aload_n 1, 1) := by decide +kernel
theorem dX5_copyRow_10 : decode cX5_copyRow 10 = .ok (.arraylength, 1) := by decide +kernel
theorem dX5_copyRow_11 : decode cX5_copyRow 11 = .ok (.if_icmp .ge 15, 3) := by decide +kernel
theorem dX5_copyRow_14 : decode cX5_copyRow 14 = .ok (.aload_n 1, 1) := by decide +kernel
theorem dX5_copyRow_15 : decode cX5_copyRow 15 = .ok (.iload_n 2, 1) := by decide +kernel
theorem dX5_copyRow_16 : decode cX5_copyRow 16 = .ok (.aload_n 0, 1) := by decide +kernel
theorem dX5_copyRow_17 : decode cX5_copyRow 17 = .ok (.iload_n 2, 1) := by decide +kernel
theorem dX5_copyRow_18 : decode cX5_copyRow 18 = .ok (.iaload, 1) := by decide +kernel
theorem dX5_copyRow_19 : decode cX5_copyRow 19 = .ok (.iastore, 1) := by decide +kernel
theorem dX5_copyRow_20 : decode cX5_copyRow 20 = .ok (.iinc 2 1, 3) := by decide +kernel
theorem dX5_copyRow_23 : decode cX5_copyRow 23 = .ok (.goto (-21), 3) := by decide +kernel
theorem dX5_copyRow_26 : decode cX5_copyRow 26 = .ok (.return_, 1) := by decide +kernel
theorem dX5_numberOf_0 : decode cX5_numberOf 0 = .ok (.iload_n 0, 1) := by decide +kernel
theorem dX5_numberOf_1 : decode cX5_numberOf 1 = .ok (.ifCond .eq 7, 3) := by decide +kernel
theorem dX5_numberOf_4 : decode cX5_numberOf 4 = .ok (.iconst 1, 1) := by decide +kernel
theorem dX5_numberOf_5 : decode cX5_numberOf 5 = .ok (.goto 4, 3) := by decide +kernel
theorem dX5_numberOf_8 : decode cX5_numberOf 8 = .ok (.iconst 0, 1) := by decide +kernel
theorem dX5_numberOf_9 : decode cX5_numberOf 9 = .ok (.ireturn, 1) := by decide +kernel
theorem dL_low_0 : decode cL_low 0 = .ok (.iload_n 0, 1) := by decide +kernel
theorem dL_low_1 : decode cL_low 1 = .ok (.ldc 7, 2) := by decide +kernel
theorem dL_low_3 : decode cL_low 3 = .ok (.iand, 1) := by decide +kernel
theorem dL_low_4 : decode cL_low 4 = .ok (.iload_n 1, 1) := by decide +kernel
theorem dL_low_5 : decode cL_low 5 = .ok (.irem, 1) := by decide +kernel
theorem dL_low_6 : decode cL_low 6 = .ok (.ireturn, 1) := by decide +kernel
theorem dL_cell_0 : decode cL_cell 0 = .ok (.iload_n 1, 1) := by decide +kernel
theorem dL_cell_1 : decode cL_cell 1 = .ok (.aload_n 0, 1) := by decide +kernel
theorem dL_cell_2 : decode cL_cell 2 = .ok (.arraylength, 1) := by decide +kernel
theorem dL_cell_3 : decode cL_cell 3 = .ok (.if_icmp .ge 9, 3) := by decide +kernel
theorem dL_cell_6 : decode cL_cell 6 = .ok (.aload_n 0, 1) := by decide +kernel
theorem dL_cell_7 : decode cL_cell 7 = .ok (.iload_n 1, 1) := by decide +kernel
theorem dL_cell_8 : decode cL_cell 8 = .ok (.iaload, 1) := by decide +kernel
theorem dL_cell_9 : decode cL_cell 9 = .ok (.goto 11, 3) := by decide +kernel
theorem dL_cell_12 : decode cL_cell 12 = .ok (.ldc 8, 2) := by decide +kernel
theorem dL_cell_14 : decode cL_cell 14 = .ok (.iload_n 1, 1) := by decide +kernel
theorem dL_cell_15 : decode cL_cell 15 = .ok (.imul, 1) := by decide +kernel
theorem dL_cell_16 : decode cL_cell 16 = .ok (.sipush 977, 3) := by decide +kernel
theorem dL_cell_19 : decode cL_cell 19 = .ok (.iadd, 1) := by decide +kernel
theorem dL_cell_20 : decode cL_cell 20 = .ok (.ireturn, 1) := by decide +kernel
theorem dL_come_0 : decode cL_come 0 = .ok (.aload_n 0, 1) := by decide +kernel
theorem dL_come_1 : decode cL_come 1 = .ok (.iload_n 1, 1) := by decide +kernel
theorem dL_come_2 : decode cL_come 2 = .ok (.iload_n 2, 1) := by decide +kernel
theorem dL_come_3 : decode cL_come 3 = .ok (.invokevirtual 9, 3) := by decide +kernel
theorem dL_come_6 : decode cL_come 6 = .ok (.ireturn, 1) := by decide +kernel
theorem dL_come_7 : decode cL_come 7 = .ok (.astore_n 3, 1) := by decide +kernel
theorem dL_come_8 : decode cL_come 8 = .ok (.bipush (-3), 2) := by decide +kernel
theorem dL_come_10 : decode cL_come 10 = .ok (.ireturn, 1) := by decide +kernel
theorem dL_undo_0 : decode cL_undo 0 = .ok (.aload_n 0, 1) := by decide +kernel
theorem dL_undo_1 : decode cL_undo 1 = .ok (.invokevirtual 17, 3) := by decide +kernel
theorem dL_undo_4 : decode cL_undo 4 = .ok (.ireturn, 1) := by decide +kernel
theorem dL_undo_5 : decode cL_undo 5 = .ok (.astore_n 1, 1) := by decide +kernel
theorem dL_undo_6 : decode cL_undo 6 = .ok (.bipush (-3), 2) := by decide +kernel
theorem dL_undo_8 : decode cL_undo 8 = .ok (.ireturn, 1) := by decide +kernel
theorem dL_turn_0 : decode cL_turn 0 = .ok (.aload_n 0, 1) := by decide +kernel
theorem dL_turn_1 : decode cL_turn 1 = .ok (.iload_n 1, 1) := by decide +kernel
theorem dL_turn_2 : decode cL_turn 2 = .ok (.iload_n 2, 1) := by decide +kernel
theorem dL_turn_3 : decode cL_turn 3 = .ok (.invokevirtual 21, 3) := by decide +kernel
theorem dL_turn_6 : decode cL_turn 6 = .ok (.ireturn, 1) := by decide +kernel
theorem dL_turn_7 : decode cL_turn 7 = .ok (.astore_n 3, 1) := by decide +kernel
theorem dL_turn_8 : decode cL_turn 8 = .ok (.iconst (-1), 1) := by decide +kernel
theorem dL_turn_9 : decode cL_turn 9 = .ok (.ireturn, 1) := by decide +kernel
theorem dL_stairs_0 : decode cL_stairs 0 = .ok (.iconst 0, 1) := by decide +kernel
theorem dL_stairs_1 : decode cL_stairs 1 = .ok (.istore_n 1, 1) := by decide +kernel
theorem dL_stairs_2 : decode cL_stairs 2 = .ok (.iconst 0, 1) := by decide +kernel
theorem dL_stairs_3 : decode cL_stairs 3 = .ok (.istore_n 2, 1) := by decide +kernel
theorem dL_stairs_4 : decode cL_stairs 4 = .ok (.iconst 0, 1) := by decide +kernel
theorem dL_stairs_5 : decode cL_stairs 5 = .ok (.istore_n 3, 1) := by decide +kernel
theorem dL_stairs_6 : decode cL_stairs 6 = .ok (.iconst 0, 1) := by decide +kernel
theorem dL_stairs_7 : decode cL_stairs 7 = .ok (.istore 4, 2) := by decide +kernel
theorem dL_stairs_9 : decode cL_stairs 9 = .ok (.iconst 0, 1) := by decide +kernel
theorem dL_stairs_10 : decode cL_stairs 10 = .ok (.istore 5, 2) := by decide +kernel
theorem dL_stairs_12 : decode cL_stairs 12 = .ok (.iconst 0, 1) := by decide +kernel
theorem dL_stairs_13 : decode cL_stairs 13 = .ok (.istore 6, 2) := by decide +kernel
theorem dL_stairs_15 : decode cL_stairs 15 = .ok (.iconst 1, 1) := by decide +kernel
theorem dL_stairs_16 : decode cL_stairs 16 = .ok (.istore 7, 2) := by decide +kernel
theorem dL_stairs_18 : decode cL_stairs 18 = .ok (.iconst 0, 1) := by decide +kernel
theorem dL_stairs_19 : decode cL_stairs 19 = .ok (.istore 8, 2) := by decide +kernel
theorem dL_stairs_21 : decode cL_stairs 21 = .ok (.iload 8, 2) := by decide +kernel
theorem dL_stairs_23 : decode cL_stairs 23 = .ok (.bipush 8, 2) := by decide +kernel
theorem dL_stairs_25 : decode cL_stairs 25 = .ok (.if_icmp .ge 201, 3) := by decide +kernel
theorem dL_stairs_28 : decode cL_stairs 28 = .ok (.iload 7, 2) := by decide +kernel
theorem dL_stairs_30 : decode cL_stairs 30 = .ok (.ifCond .eq 196, 3) := by decide +kernel
theorem dL_stairs_33 : decode cL_stairs 33 = .ok (.aload_n 0, 1) := by decide +kernel
theorem dL_stairs_34 : decode cL_stairs 34 = .ok (.iload 8, 2) := by decide +kernel
theorem dL_stairs_36 : decode cL_stairs 36 = .ok (.iconst 0, 1) := by decide +kernel
theorem dL_stairs_37 : decode cL_stairs 37 = .ok (.invokevirtual 26, 3) := by decide +kernel
theorem dL_stairs_40 : decode cL_stairs 40 = .ok (.istore 9, 2) := by decide +kernel
theorem dL_stairs_42 : decode cL_stairs 42 = .ok (.aload_n 0, 1) := by decide +kernel
theorem dL_stairs_43 : decode cL_stairs 43 = .ok (.iload 8, 2) := by decide +kernel
theorem dL_stairs_45 : decode cL_stairs 45 = .ok (.iconst 1, 1) := by decide +kernel
theorem dL_stairs_46 : decode cL_stairs 46 = .ok (.invokevirtual 26, 3) := by decide +kernel
theorem dL_stairs_49 : decode cL_stairs 49 = .ok (.istore 10, 2) := by decide +kernel
theorem dL_stairs_51 : decode cL_stairs 51 = .ok (.aload_n 0, 1) := by decide +kernel
theorem dL_stairs_52 : decode cL_stairs 52 = .ok (.bipush 8, 2) := by decide +kernel
theorem dL_stairs_54 : decode cL_stairs 54 = .ok (.invokevirtual 29, 3) := by decide +kernel
theorem dL_stairs_57 : decode cL_stairs 57 = .ok (.iconst 1, 1) := by decide +kernel
theorem dL_stairs_58 : decode cL_stairs 58 = .ok (.if_icmp .ne 7, 3) := by decide +kernel
theorem dL_stairs_61 : decode cL_stairs 61 = .ok (.iconst 1, 1) := by decide +kernel
theorem dL_stairs_62 : decode cL_stairs 62 = .ok (.goto 4, 3) := by decide +kernel
theorem dL_stairs_65 : decode cL_stairs 65 = .ok (.iconst 0, 1) := by decide +kernel
theorem dL_stairs_66 : decode cL_stairs 66 = .ok (.istore 11, 2) := by decide +kernel
theorem dL_stairs_68 : decode cL_stairs 68 = .ok (.iload 10, 2) := by decide +kernel
theorem dL_stairs_70 : decode cL_stairs 70 = .ok (.ifCond .lt 68, 3) := by decide +kernel
theorem dL_stairs_73 : decode cL_stairs 73 = .ok (.iload 10, 2) := by decide +kernel
theorem dL_stairs_75 : decode cL_stairs 75 = .ok (.sipush 999, 3) := by decide +kernel
theorem dL_stairs_78 : decode cL_stairs 78 = .ok (.if_icmp .gt 60, 3) := by decide +kernel
theorem dL_stairs_81 : decode cL_stairs 81 = .ok (.iload 11, 2) := by decide +kernel
theorem dL_stairs_83 : decode cL_stairs 83 = .ok (.ifCond .eq 12, 3) := by decide +kernel
theorem dL_stairs_86 : decode cL_stairs 86 = .ok (.iload 9, 2) := by decide +kernel
theorem dL_stairs_88 : decode cL_stairs 88 = .ok (.iconst 3, 1) := by decide +kernel
theorem dL_stairs_89 : decode cL_stairs 89 = .ok (.if_icmp .ne 49, 3) := by decide +kernel
theorem dL_stairs_92 : decode cL_stairs 92 = .ok (.goto 42, 3) := by decide +kernel
theorem dL_stairs_95 : decode cL_stairs 95 = .ok (.iload 10, 2) := by decide +kernel
theorem dL_stairs_97 : decode cL_stairs 97 = .ok (.ifCond .ne 17, 3) := by decide +kernel
theorem dL_stairs_100 : decode cL_stairs 100 = .ok (.iload 9, 2) := by decide +kernel
theorem dL_stairs_102 : decode cL_stairs 102 = .ok (.aload_n 0, 1) := by decide +kernel
theorem dL_stairs_103 : decode cL_stairs 103 = .ok (.bipush 7, 2) := by decide +kernel
theorem dL_stairs_105 : decode cL_stairs 105 = .ok (.invokevirtual 29, 3) := by decide +kernel
theorem dL_stairs_108 : decode cL_stairs 108 = .ok (.if_icmp .ne 30, 3) := by decide +kernel
theorem dL_stairs_111 : decode cL_stairs 111 = .ok (.goto 23, 3) := by decide +kernel
theorem dL_stairs_114 : decode cL_stairs 114 = .ok (.iload 9, 2) := by decide +kernel
theorem dL_stairs_116 : decode cL_stairs 116 = .ok (.iload 10, 2) := by decide +kernel
theorem dL_stairs_118 : decode cL_stairs 118 = .ok (.aload_n 0, 1) := by decide +kernel
theorem dL_stairs_119 : decode cL_stairs 119 = .ok (.iconst 1, 1) := by decide +kernel
theorem dL_stairs_120 : decode cL_stairs 120 = .ok (.invokevirtual 33, 3) := by decide +kernel
theorem dL_stairs_123 : decode cL_stairs 123 = .ok (.if_icmp .gt 7, 3) := by decide +kernel
theorem dL_stairs_126 : decode cL_stairs 126 = .ok (.iconst 2, 1) := by decide +kernel
theorem dL_stairs_127 : decode cL_stairs 127 = .ok (.goto 4, 3) := by decide +kernel
theorem dL_stairs_130 : decode cL_stairs 130 = .ok (.iconst 3, 1) := by decide +kernel
theorem dL_stairs_131 : decode cL_stairs 131 = .ok (.if_icmp .ne 7, 3) := by decide +kernel
theorem dL_stairs_134 : decode cL_stairs 134 = .ok (.iconst 1, 1) := by decide +kernel
theorem dL_stairs_135 : decode cL_stairs 135 = .ok (.goto 4, 3) := by decide +kernel
theorem dL_stairs_138 : decode cL_stairs 138 = .ok (.iconst 0, 1) := by decide +kernel
theorem dL_stairs_139 : decode cL_stairs 139 = .ok (.istore 7, 2) := by decide +kernel
theorem dL_stairs_141 : decode cL_stairs 141 = .ok (.iload_n 1, 1) := by decide +kernel
theorem dL_stairs_142 : decode cL_stairs 142 = .ok (.aload_n 0, 1) := by decide +kernel
theorem dL_stairs_143 : decode cL_stairs 143 = .ok (.iload 8, 2) := by decide +kernel
theorem dL_stairs_145 : decode cL_stairs 145 = .ok (.iconst 3, 1) := by decide +kernel
theorem dL_stairs_146 : decode cL_stairs 146 = .ok (.invokevirtual 26, 3) := by decide +kernel
theorem dL_stairs_149 : decode cL_stairs 149 = .ok (.iadd, 1) := by decide +kernel
theorem dL_stairs_150 : decode cL_stairs 150 = .ok (.istore_n 1, 1) := by decide +kernel
theorem dL_stairs_151 : decode cL_stairs 151 = .ok (.iload_n 2, 1) := by decide +kernel
theorem dL_stairs_152 : decode cL_stairs 152 = .ok (.iload 9, 2) := by decide +kernel
theorem dL_stairs_154 : decode cL_stairs 154 = .ok (.iconst 2, 1) := by decide +kernel
theorem dL_stairs_155 : decode cL_stairs 155 = .ok (.if_icmp .lt 7, 3) := by decide +kernel
theorem dL_stairs_158 : decode cL_stairs 158 = .ok (.iconst 1, 1) := by decide +kernel
theorem dL_stairs_159 : decode cL_stairs 159 = .ok (.goto 4, 3) := by decide +kernel
theorem dL_stairs_162 : decode cL_stairs 162 = .ok (.iconst 0, 1) := by decide +kernel
theorem dL_stairs_163 : decode cL_stairs 163 = .ok (.iadd, 1) := by decide +kernel
theorem dL_stairs_164 : decode cL_stairs 164 = .ok (.istore_n 2, 1) := by decide +kernel
theorem dL_stairs_165 : decode cL_stairs 165 = .ok (.iload_n 3, 1) := by decide +kernel
theorem dL_stairs_166 : decode cL_stairs 166 = .ok (.aload_n 0, 1) := by decide +kernel
theorem dL_stairs_167 : decode cL_stairs 167 = .ok (.iload 8, 2) := by decide +kernel
theorem dL_stairs_169 : decode cL_stairs 169 = .ok (.iconst 4, 1) := by decide +kernel
theorem dL_stairs_170 : decode cL_stairs 170 = .ok (.invokevirtual 26, 3) := by decide +kernel
theorem dL_stairs_173 : decode cL_stairs 173 = .ok (.iadd, 1) := by decide +kernel
theorem dL_stairs_174 : decode cL_stairs 174 = .ok (.istore_n 3, 1) := by decide +kernel
theorem dL_stairs_175 : decode cL_stairs 175 = .ok (.iload 4, 2) := by decide +kernel
theorem dL_stairs_177 : decode cL_stairs 177 = .ok (.aload_n 0, 1) := by decide +kernel
theorem dL_stairs_178 : decode cL_stairs 178 = .ok (.iload 8, 2) := by decide +kernel
theorem dL_stairs_180 : decode cL_stairs 180 = .ok (.iconst 5, 1) := by decide +kernel
theorem dL_stairs_181 : decode cL_stairs 181 = .ok (.invokevirtual 26, 3) := by decide +kernel
theorem dL_stairs_184 : decode cL_stairs 184 = .ok (.iadd, 1) := by decide +kernel
theorem dL_stairs_185 : decode cL_stairs 185 = .ok (.istore 4, 2) := by decide +kernel
theorem dL_stairs_187 : decode cL_stairs 187 = .ok (.iload 5, 2) := by decide +kernel
theorem dL_stairs_189 : decode cL_stairs 189 = .ok (.aload_n 0, 1) := by decide +kernel
theorem dL_stairs_190 : decode cL_stairs 190 = .ok (.iload 8, 2) := by decide +kernel
theorem dL_stairs_192 : decode cL_stairs 192 = .ok (.bipush 6, 2) := by decide +kernel
theorem dL_stairs_194 : decode cL_stairs 194 = .ok (.invokevirtual 26, 3) := by decide +kernel
theorem dL_stairs_197 : decode cL_stairs 197 = .ok (.iadd, 1) := by decide +kernel
theorem dL_stairs_198 : decode cL_stairs 198 = .ok (.istore 5, 2) := by decide +kernel
theorem dL_stairs_200 : decode cL_stairs 200 = .ok (.iload 6, 2) := by decide +kernel
theorem dL_stairs_202 : decode cL_stairs 202 = .ok (.aload_n 0, 1) := by decide +kernel
theorem dL_stairs_203 : decode cL_stairs 203 = .ok (.iload 8, 2) := by decide +kernel
theorem dL_stairs_205 : decode cL_stairs 205 = .ok (.iconst 2, 1) := by decide +kernel
theorem dL_stairs_206 : decode cL_stairs 206 = .ok (.invokevirtual 26, 3) := by decide +kernel
theorem dL_stairs_209 : decode cL_stairs 209 = .ok (.ifCond .ne 7, 3) := by decide +kernel
theorem dL_stairs_212 : decode cL_stairs 212 = .ok (.iconst 1, 1) := by decide +kernel
theorem dL_stairs_213 : decode cL_stairs 213 = .ok (.goto 4, 3) := by decide +kernel
theorem dL_stairs_216 : decode cL_stairs 216 = .ok (.iconst 0, 1) := by decide +kernel
theorem dL_stairs_217 : decode cL_stairs 217 = .ok (.iadd, 1) := by decide +kernel
theorem dL_stairs_218 : decode cL_stairs 218 = .ok (.istore 6, 2) := by decide +kernel
theorem dL_stairs_220 : decode cL_stairs 220 = .ok (.iinc 8 1, 3) := by decide +kernel
theorem dL_stairs_223 : decode cL_stairs 223 = .ok (.goto (-202), 3) := by decide +kernel
theorem dL_stairs_226 : decode cL_stairs 226 = .ok (.iconst 0, 1) := by decide +kernel
theorem dL_stairs_227 : decode cL_stairs 227 = .ok (.istore 8, 2) := by decide +kernel
theorem dL_stairs_229 : decode cL_stairs 229 = .ok (.iload 8, 2) := by decide +kernel
theorem dL_stairs_231 : decode cL_stairs 231 = .ok (.aload_n 0, 1) := by decide +kernel
theorem dL_stairs_232 : decode cL_stairs 232 = .ok (.iconst 1, 1) := by decide +kernel
theorem dL_stairs_233 : decode cL_stairs 233 = .ok (.invokevirtual 29, 3) := by decide +kernel
theorem dL_stairs_236 : decode cL_stairs 236 = .ok (.if_icmp .ge 127, 3) := by decide +kernel
theorem dL_stairs_239 : decode cL_stairs 239 = .ok (.iload 7, 2) := by decide +kernel
theorem dL_stairs_241 : decode cL_stairs 241 = .ok (.ifCond .eq 122, 3) := by decide +kernel
theorem dL_stairs_244 : decode cL_stairs 244 = .ok (.aload_n 0, 1) := by decide +kernel
theorem dL_stairs_245 : decode cL_stairs 245 = .ok (.iload 8, 2) := by decide +kernel
theorem dL_stairs_247 : decode cL_stairs 247 = .ok (.iconst 0, 1) := by decide +kernel
theorem dL_stairs_248 : decode cL_stairs 248 = .ok (.invokevirtual 36, 3) := by decide +kernel
theorem dL_stairs_251 : decode cL_stairs 251 = .ok (.aload_n 0, 1) := by decide +kernel
theorem dL_stairs_252 : decode cL_stairs 252 = .ok (.iconst 2, 1) := by decide +kernel
theorem dL_stairs_253 : decode cL_stairs 253 = .ok (.invokevirtual 29, 3) := by decide +kernel
theorem dL_stairs_256 : decode cL_stairs 256 = .ok (.if_icmp .ge 98, 3) := by decide +kernel
theorem dL_stairs_259 : decode cL_stairs 259 = .ok (.iload 8, 2) := by decide +kernel
theorem dL_stairs_261 : decode cL_stairs 261 = .ok (.ifCond .eq 22, 3) := by decide +kernel
theorem dL_stairs_264 : decode cL_stairs 264 = .ok (.aload_n 0, 1) := by decide +kernel
theorem dL_stairs_265 : decode cL_stairs 265 = .ok (.iload 8, 2) := by decide +kernel
theorem dL_stairs_267 : decode cL_stairs 267 = .ok (.iconst 1, 1) := by decide +kernel
theorem dL_stairs_268 : decode cL_stairs 268 = .ok (.isub, 1) := by decide +kernel
theorem dL_stairs_269 : decode cL_stairs 269 = .ok (.iconst 0, 1) := by decide +kernel
theorem dL_stairs_270 : decode cL_stairs 270 = .ok (.invokevirtual 36, 3) := by decide +kernel
theorem dL_stairs_273 : decode cL_stairs 273 = .ok (.aload_n 0, 1) := by decide +kernel
theorem dL_stairs_274 : decode cL_stairs 274 = .ok (.iload 8, 2) := by decide +kernel
theorem dL_stairs_276 : decode cL_stairs 276 = .ok (.iconst 0, 1) := by decide +kernel
theorem dL_stairs_277 : decode cL_stairs 277 = .ok (.invokevirtual 36, 3) := by decide +kernel
theorem dL_stairs_280 : decode cL_stairs 280 = .ok (.if_icmp .ge 74, 3) := by decide +kernel
theorem dL_stairs_283 : decode cL_stairs 283 = .ok (.aload_n 0, 1) := by decide +kernel
theorem dL_stairs_284 : decode cL_stairs 284 = .ok (.iload 8, 2) := by decide +kernel
theorem dL_stairs_286 : decode cL_stairs 286 = .ok (.iconst 3, 1) := by decide +kernel
theorem dL_stairs_287 : decode cL_stairs 287 = .ok (.invokevirtual 36, 3) := by decide +kernel
theorem dL_stairs_290 : decode cL_stairs 290 = .ok (.ifCond .ne 7, 3) := by decide +kernel
theorem dL_stairs_293 : decode cL_stairs 293 = .ok (.iconst 1, 1) := by decide +kernel
theorem dL_stairs_294 : decode cL_stairs 294 = .ok (.goto 4, 3) := by decide +kernel
theorem dL_stairs_297 : decode cL_stairs 297 = .ok (.iconst 0, 1) := by decide +kernel
theorem dL_stairs_298 : decode cL_stairs 298 = .ok (.aload_n 0, 1) := by decide +kernel
theorem dL_stairs_299 : decode cL_stairs 299 = .ok (.iload 8, 2) := by decide +kernel
theorem dL_stairs_301 : decode cL_stairs 301 = .ok (.iconst 1, 1) := by decide +kernel
theorem dL_stairs_302 : decode cL_stairs 302 = .ok (.invokevirtual 36, 3) := by decide +kernel
theorem dL_stairs_305 : decode cL_stairs 305 = .ok (.aload_n 0, 1) := by decide +kernel
theorem dL_stairs_306 : decode cL_stairs 306 = .ok (.iload 8, 2) := by decide +kernel
theorem dL_stairs_308 : decode cL_stairs 308 = .ok (.iconst 2, 1) := by decide +kernel
theorem dL_stairs_309 : decode cL_stairs 309 = .ok (.invokevirtual 36, 3) := by decide +kernel
theorem dL_stairs_312 : decode cL_stairs 312 = .ok (.if_icmp .ne 7, 3) := by decide +kernel
theorem dL_stairs_315 : decode cL_stairs 315 = .ok (.iconst 1, 1) := by decide +kernel
theorem dL_stairs_316 : decode cL_stairs 316 = .ok (.goto 4, 3) := by decide +kernel
theorem dL_stairs_319 : decode cL_stairs 319 = .ok (.iconst 0, 1) := by decide +kernel
theorem dL_stairs_320 : decode cL_stairs 320 = .ok (.if_icmp .ne 34, 3) := by decide +kernel
theorem dL_stairs_323 : decode cL_stairs 323 = .ok (.aload_n 0, 1) := by decide +kernel
theorem dL_stairs_324 : decode cL_stairs 324 = .ok (.iload 8, 2) := by decide +kernel
theorem dL_stairs_326 : decode cL_stairs 326 = .ok (.iconst 3, 1) := by decide +kernel
theorem dL_stairs_327 : decode cL_stairs 327 = .ok (.invokevirtual 36, 3) := by decide +kernel
theorem dL_stairs_330 : decode cL_stairs 330 = .ok (.bipush 60, 2) := by decide +kernel
theorem dL_stairs_332 : decode cL_stairs 332 = .ok (.if_icmp .gt 22, 3) := by decide +kernel
theorem dL_stairs_335 : decode cL_stairs 335 = .ok (.aload_n 0, 1) := by decide +kernel
theorem dL_stairs_336 : decode cL_stairs 336 = .ok (.aload_n 0, 1) := by decide +kernel
theorem dL_stairs_337 : decode cL_stairs 337 = .ok (.iload 8, 2) := by decide +kernel
theorem dL_stairs_339 : decode cL_stairs 339 = .ok (.iconst 1, 1) := by decide +kernel
theorem dL_stairs_340 : decode cL_stairs 340 = .ok (.invokevirtual 36, 3) := by decide +kernel
theorem dL_stairs_343 : decode cL_stairs 343 = .ok (.iconst 3, 1) := by decide +kernel
theorem dL_stairs_344 : decode cL_stairs 344 = .ok (.invokevirtual 26, 3) := by decide +kernel
theorem dL_stairs_347 : decode cL_stairs 347 = .ok (.ifCond .le 7, 3) := by decide +kernel
theorem dL_stairs_350 : decode cL_stairs 350 = .ok (.iconst 1, 1) := by decide +kernel
theorem dL_stairs_351 : decode cL_stairs 351 = .ok (.goto 4, 3) := by decide +kernel
theorem dL_stairs_354 : decode cL_stairs 354 = .ok (.iconst 0, 1) := by decide +kernel
theorem dL_stairs_355 : decode cL_stairs 355 = .ok (.istore 7, 2) := by decide +kernel
theorem dL_stairs_357 : decode cL_stairs 357 = .ok (.iinc 8 1, 3) := by decide +kernel
theorem dL_stairs_360 : decode cL_stairs 360 = .ok (.goto (-131), 3) := by decide +kernel
theorem dL_stairs_363 : decode cL_stairs 363 = .ok (.aload_n 0, 1) := by decide +kernel
theorem dL_stairs_364 : decode cL_stairs 364 = .ok (.invokevirtual 39, 3) := by decide +kernel
theorem dL_stairs_367 : decode cL_stairs 367 = .ok (.istore 8, 2) := by decide +kernel
theorem dL_stairs_369 : decode cL_stairs 369 = .ok (.iload 7, 2) := by decide +kernel
theorem dL_stairs_371 : decode cL_stairs 371 = .ok (.ifCond .eq 140, 3) := by decide +kernel
theorem dL_stairs_374 : decode cL_stairs 374 = .ok (.iload_n 1, 1) := by decide +kernel
theorem dL_stairs_375 : decode cL_stairs 375 = .ok (.aload_n 0, 1) := by decide +kernel
theorem dL_stairs_376 : decode cL_stairs 376 = .ok (.iconst 1, 1) := by decide +kernel
theorem dL_stairs_377 : decode cL_stairs 377 = .ok (.invokevirtual 29, 3) := by decide +kernel
theorem dL_stairs_380 : decode cL_stairs 380 = .ok (.if_icmp .ne 131, 3) := by decide +kernel
theorem dL_stairs_383 : decode cL_stairs 383 = .ok (.iload_n 1, 1) := by decide +kernel
theorem dL_stairs_384 : decode cL_stairs 384 = .ok (.bipush 6, 2) := by decide +kernel
theorem dL_stairs_386 : decode cL_stairs 386 = .ok (.if_icmp .gt 125, 3) := by decide +kernel
theorem dL_stairs_389 : decode cL_stairs 389 = .ok (.iload_n 2, 1) := by decide +kernel
theorem dL_stairs_390 : decode cL_stairs 390 = .ok (.aload_n 0, 1) := by decide +kernel
theorem dL_stairs_391 : decode cL_stairs 391 = .ok (.iconst 3, 1) := by decide +kernel
theorem dL_stairs_392 : decode cL_stairs 392 = .ok (.invokevirtual 29, 3) := by decide +kernel
theorem dL_stairs_395 : decode cL_stairs 395 = .ok (.if_icmp .ne 116, 3) := by decide +kernel
theorem dL_stairs_398 : decode cL_stairs 398 = .ok (.iload_n 3, 1) := by decide +kernel
theorem dL_stairs_399 : decode cL_stairs 399 = .ok (.aload_n 0, 1) := by decide +kernel
theorem dL_stairs_400 : decode cL_stairs 400 = .ok (.iconst 4, 1) := by decide +kernel
theorem dL_stairs_401 : decode cL_stairs 401 = .ok (.invokevirtual 29, 3) := by decide +kernel
theorem dL_stairs_404 : decode cL_stairs 404 = .ok (.if_icmp .ne 107, 3) := by decide +kernel
theorem dL_stairs_407 : decode cL_stairs 407 = .ok (.iload 4, 2) := by decide +kernel
theorem dL_stairs_409 : decode cL_stairs 409 = .ok (.aload_n 0, 1) := by decide +kernel
theorem dL_stairs_410 : decode cL_stairs 410 = .ok (.iconst 5, 1) := by decide +kernel
theorem dL_stairs_411 : decode cL_stairs 411 = .ok (.invokevirtual 29, 3) := by decide +kernel
theorem dL_stairs_414 : decode cL_stairs 414 = .ok (.if_icmp .ne 97, 3) := by decide +kernel
theorem dL_stairs_417 : decode cL_stairs 417 = .ok (.iload 5, 2) := by decide +kernel
theorem dL_stairs_419 : decode cL_stairs 419 = .ok (.aload_n 0, 1) := by decide +kernel
theorem dL_stairs_420 : decode cL_stairs 420 = .ok (.bipush 6, 2) := by decide +kernel
theorem dL_stairs_422 : decode cL_stairs 422 = .ok (.invokevirtual 29, 3) := by decide +kernel
theorem dL_stairs_425 : decode cL_stairs 425 = .ok (.if_icmp .ne 86, 3) := by decide +kernel
theorem dL_stairs_428 : decode cL_stairs 428 = .ok (.iload 6, 2) := by decide +kernel
theorem dL_stairs_430 : decode cL_stairs 430 = .ok (.aload_n 0, 1) := by decide +kernel
theorem dL_stairs_431 : decode cL_stairs 431 = .ok (.bipush 9, 2) := by decide +kernel
theorem dL_stairs_433 : decode cL_stairs 433 = .ok (.invokevirtual 29, 3) := by decide +kernel
theorem dL_stairs_436 : decode cL_stairs 436 = .ok (.if_icmp .ne 75, 3) := by decide +kernel
theorem dL_stairs_439 : decode cL_stairs 439 = .ok (.iload 8, 2) := by decide +kernel
theorem dL_stairs_441 : decode cL_stairs 441 = .ok (.iconst (-1), 1) := by decide +kernel
theorem dL_stairs_442 : decode cL_stairs 442 = .ok (.if_icmp .ne 7, 3) := by decide +kernel
theorem dL_stairs_445 : decode cL_stairs 445 = .ok (.iconst 1, 1) := by decide +kernel
theorem dL_stairs_446 : decode cL_stairs 446 = .ok (.goto 4, 3) := by decide +kernel
theorem dL_stairs_449 : decode cL_stairs 449 = .ok (.iconst 0, 1) := by decide +kernel
theorem dL_stairs_450 : decode cL_stairs 450 = .ok (.iload 6, 2) := by decide +kernel
theorem dL_stairs_452 : decode cL_stairs 452 = .ok (.ifCond .ne 7, 3) := by decide +kernel
theorem dL_stairs_455 : decode cL_stairs 455 = .ok (.iconst 1, 1) := by decide +kernel
theorem dL_stairs_456 : decode cL_stairs 456 = .ok (.goto 4, 3) := by decide +kernel
theorem dL_stairs_459 : decode cL_stairs 459 = .ok (.iconst 0, 1) := by decide +kernel
theorem dL_stairs_460 : decode cL_stairs 460 = .ok (.if_icmp .ne 51, 3) := by decide +kernel
theorem dL_stairs_463 : decode cL_stairs 463 = .ok (.iload 8, 2) := by decide +kernel
theorem dL_stairs_465 : decode cL_stairs 465 = .ok (.iconst (-1), 1) := by decide +kernel
theorem dL_stairs_466 : decode cL_stairs 466 = .ok (.if_icmp .eq 13, 3) := by decide +kernel
theorem dL_stairs_469 : decode cL_stairs 469 = .ok (.aload_n 0, 1) := by decide +kernel
theorem dL_stairs_470 : decode cL_stairs 470 = .ok (.iload 8, 2) := by decide +kernel
theorem dL_stairs_472 : decode cL_stairs 472 = .ok (.iconst 2, 1) := by decide +kernel
theorem dL_stairs_473 : decode cL_stairs 473 = .ok (.invokevirtual 26, 3) := by decide +kernel
theorem dL_stairs_476 : decode cL_stairs 476 = .ok (.ifCond .ne 35, 3) := by decide +kernel
theorem dL_stairs_479 : decode cL_stairs 479 = .ok (.aload_n 0, 1) := by decide +kernel
theorem dL_stairs_480 : decode cL_stairs 480 = .ok (.iload_n 1, 1) := by decide +kernel
theorem dL_stairs_481 : decode cL_stairs 481 = .ok (.iconst 0, 1) := by decide +kernel
theorem dL_stairs_482 : decode cL_stairs 482 = .ok (.invokevirtual 36, 3) := by decide +kernel
theorem dL_stairs_485 : decode cL_stairs 485 = .ok (.iconst (-1), 1) := by decide +kernel
theorem dL_stairs_486 : decode cL_stairs 486 = .ok (.if_icmp .ne 25, 3) := by decide +kernel
theorem dL_stairs_489 : decode cL_stairs 489 = .ok (.aload_n 0, 1) := by decide +kernel
theorem dL_stairs_490 : decode cL_stairs 490 = .ok (.invokevirtual 42, 3) := by decide +kernel
theorem dL_stairs_493 : decode cL_stairs 493 = .ok (.dconst 0, 1) := by decide +kernel
theorem dL_stairs_494 : decode cL_stairs 494 = .ok (.dcmp .l, 1) := by decide +kernel
theorem dL_stairs_495 : decode cL_stairs 495 = .ok (.ifCond .lt 16, 3) := by decide +kernel
theorem dL_stairs_498 : decode cL_stairs 498 = .ok (.aload_n 0, 1) := by decide +kernel
theorem dL_stairs_499 : decode cL_stairs 499 = .ok (.invokevirtual 42, 3) := by decide +kernel
theorem dL_stairs_502 : decode cL_stairs 502 = .ok (.dconst 1, 1) := by decide +kernel
theorem dL_stairs_503 : decode cL_stairs 503 = .ok (.dcmp .g, 1) := by decide +kernel
theorem dL_stairs_504 : decode cL_stairs 504 = .ok (.ifCond .gt 7, 3) := by decide +kernel
theorem dL_stairs_507 : decode cL_stairs 507 = .ok (.iconst 1, 1) := by decide +kernel
theorem dL_stairs_508 : decode cL_stairs 508 = .ok (.goto 4, 3) := by decide +kernel
theorem dL_stairs_511 : decode cL_stairs 511 = .ok (.iconst 0, 1) := by decide +kernel
theorem dL_stairs_512 : decode cL_stairs 512 = .ok (.ireturn, 1) := by decide +kernel
theorem dL_act_0 : decode cL_act 0 = .ok (.aload_n 1, 1) := by decide +kernel
theorem dL_act_1 : decode cL_act 1 = .ok (.iload_n 2, 1) := by decide +kernel
theorem dL_act_2 : decode cL_act 2 = .ok (.iconst 1, 1) := by decide +kernel
theorem dL_act_3 : decode cL_act 3 = .ok (.iadd, 1) := by decide +kernel
theorem dL_act_4 : decode cL_act 4 = .ok (.invokestatic 46, 3) := by decide +kernel
theorem dL_act_7 : decode cL_act 7 = .ok (.istore_n 3, 1) := by decide +kernel
theorem dL_act_8 : decode cL_act 8 = .ok (.aload_n 1, 1) := by decide +kernel
theorem dL_act_9 : decode cL_act 9 = .ok (.iload_n 2, 1) := by decide +kernel
theorem dL_act_10 : decode cL_act 10 = .ok (.iconst 2, 1) := by decide +kernel
theorem dL_act_11 : decode cL_act 11 = .ok (.iadd, 1) := by decide +kernel
theorem dL_act_12 : decode cL_act 12 = .ok (.invokestatic 46, 3) := by decide +kernel
theorem dL_act_15 : decode cL_act 15 = .ok (.istore 4, 2) := by decide +kernel
theorem dL_act_17 : decode cL_act 17 = .ok (.iload_n 3, 1) := by decide +kernel
theorem dL_act_18 : decode cL_act 18 = .ok (.bipush 8, 2) := by decide +kernel
theorem dL_act_20 : decode cL_act 20 = .ok (.invokestatic 52, 3) := by decide +kernel
theorem dL_act_23 : decode cL_act 23 = .ok (.istore 5, 2) := by decide +kernel
theorem dL_act_25 : decode cL_act 25 = .ok (.aload_n 1, 1) := by decide +kernel
theorem dL_act_26 : decode cL_act 26 = .ok (.iload_n 2, 1) := by decide +kernel
theorem dL_act_27 : decode cL_act 27 = .ok (.invokestatic 46, 3) := by decide +kernel
theorem dL_act_30 : decode cL_act 30 = .ok (.bipush 20, 2) := by decide +kernel
theorem dL_act_32 : decode cL_act 32 = .ok (.invokestatic 52, 3) := by decide +kernel
theorem dL_act_35 : decode cL_act 35 = .ok (.tableswitch 264 0 18 #[89, 89, 89, 89, 89, 111, 111, 111, 111, 111, 124, 142, 142, 149, 149, 170, 189, 208, 227], 89) := by decide +kernel
theorem dL_act_124 : decode cL_act 124 = .ok (.aload_n 0, 1) := by decide +kernel
theorem dL_act_125 : decode cL_act 125 = .ok (.iload 5, 2) := by decide +kernel
theorem dL_act_127 : decode cL_act 127 = .ok (.iload 5, 2) := by decide +kernel
theorem dL_act_129 : decode cL_act 129 = .ok (.iconst 1, 1) := by decide +kernel
theorem dL_act_130 : decode cL_act 130 = .ok (.iadd, 1) := by decide +kernel
theorem dL_act_131 : decode cL_act 131 = .ok (.iload 4, 2) := by decide +kernel
theorem dL_act_133 : decode cL_act 133 = .ok (.bipush 7, 2) := by decide +kernel
theorem dL_act_135 : decode cL_act 135 = .ok (.invokestatic 52, 3) := by decide +kernel
theorem dL_act_138 : decode cL_act 138 = .ok (.iadd, 1) := by decide +kernel
theorem dL_act_139 : decode cL_act 139 = .ok (.bipush 8, 2) := by decide +kernel
theorem dL_act_141 : decode cL_act 141 = .ok (.irem, 1) := by decide +kernel
theorem dL_act_142 : decode cL_act 142 = .ok (.invokestatic 55, 3) := by decide +kernel
theorem dL_act_145 : decode cL_act 145 = .ok (.ireturn, 1) := by decide +kernel
theorem dL_act_146 : decode cL_act 146 = .ok (.aload_n 0, 1) := by decide +kernel
theorem dL_act_147 : decode cL_act 147 = .ok (.iconst 1, 1) := by decide +kernel
theorem dL_act_148 : decode cL_act 148 = .ok (.iload_n 3, 1) := by decide +kernel
theorem dL_act_149 : decode cL_act 149 = .ok (.bipush 20, 2) := by decide +kernel
theorem dL_act_151 : decode cL_act 151 = .ok (.invokestatic 52, 3) := by decide +kernel
theorem dL_act_154 : decode cL_act 154 = .ok (.iadd, 1) := by decide +kernel
theorem dL_act_155 : decode cL_act 155 = .ok (.invokevirtual 58, 3) := by decide +kernel
theorem dL_act_158 : decode cL_act 158 = .ok (.ireturn, 1) := by decide +kernel
theorem dL_act_159 : decode cL_act 159 = .ok (.aload_n 0, 1) := by decide +kernel
theorem dL_act_160 : decode cL_act 160 = .ok (.iload_n 3, 1) := by decide +kernel
theorem dL_act_161 : decode cL_act 161 = .ok (.bipush 12, 2) := by decide +kernel
theorem dL_act_163 : decode cL_act 163 = .ok (.invokestatic 52, 3) := by decide +kernel
theorem dL_act_166 : decode cL_act 166 = .ok (.iload 4, 2) := by decide +kernel
theorem dL_act_168 : decode cL_act 168 = .ok (.bipush 8, 2) := by decide +kernel
theorem dL_act_170 : decode cL_act 170 = .ok (.invokestatic 52, 3) := by decide +kernel
theorem dL_act_173 : decode cL_act 173 = .ok (.invokestatic 61, 3) := by decide +kernel
theorem dL_act_176 : decode cL_act 176 = .ok (.ireturn, 1) := by decide +kernel
theorem dL_act_177 : decode cL_act 177 = .ok (.aload_n 0, 1) := by decide +kernel
theorem dL_act_178 : decode cL_act 178 = .ok (.iload 5, 2) := by decide +kernel
theorem dL_act_180 : decode cL_act 180 = .ok (.invokevirtual 63, 3) := by decide +kernel
theorem dL_act_183 : decode cL_act 183 = .ok (.ireturn, 1) := by decide +kernel
theorem dL_act_184 : decode cL_act 184 = .ok (.aload_n 0, 1) := by decide +kernel
theorem dL_act_185 : decode cL_act 185 = .ok (.iload 5, 2) := by decide +kernel
theorem dL_act_187 : decode cL_act 187 = .ok (.iload 4, 2) := by decide +kernel
theorem dL_act_189 : decode cL_act 189 = .ok (.iconst 3, 1) := by decide +kernel
theorem dL_act_190 : decode cL_act 190 = .ok (.invokestatic 52, 3) := by decide +kernel
theorem dL_act_193 : decode cL_act 193 = .ok (.ifCond .le 7, 3) := by decide +kernel
theorem dL_act_196 : decode cL_act 196 = .ok (.iconst 1, 1) := by decide +kernel
theorem dL_act_197 : decode cL_act 197 = .ok (.goto 4, 3) := by decide +kernel
theorem dL_act_200 : decode cL_act 200 = .ok (.iconst 0, 1) := by decide +kernel
theorem dL_act_201 : decode cL_act 201 = .ok (.invokevirtual 66, 3) := by decide +kernel
theorem dL_act_204 : decode cL_act 204 = .ok (.ireturn, 1) := by decide +kernel
theorem dL_act_205 : decode cL_act 205 = .ok (.aload_n 0, 1) := by decide +kernel
theorem dL_act_206 : decode cL_act 206 = .ok (.iload 4, 2) := by decide +kernel
theorem dL_act_208 : decode cL_act 208 = .ok (.iconst 2, 1) := by decide +kernel
theorem dL_act_209 : decode cL_act 209 = .ok (.invokestatic 52, 3) := by decide +kernel
theorem dL_act_212 : decode cL_act 212 = .ok (.ifCond .ne 7, 3) := by decide +kernel
theorem dL_act_215 : decode cL_act 215 = .ok (.iconst 1, 1) := by decide +kernel
theorem dL_act_216 : decode cL_act 216 = .ok (.goto 4, 3) := by decide +kernel
theorem dL_act_219 : decode cL_act 219 = .ok (.iconst 0, 1) := by decide +kernel
theorem dL_act_220 : decode cL_act 220 = .ok (.invokevirtual 70, 3) := by decide +kernel
theorem dL_act_223 : decode cL_act 223 = .ok (.ireturn, 1) := by decide +kernel
theorem dL_act_224 : decode cL_act 224 = .ok (.aload_n 0, 1) := by decide +kernel
theorem dL_act_225 : decode cL_act 225 = .ok (.iload 4, 2) := by decide +kernel
theorem dL_act_227 : decode cL_act 227 = .ok (.iconst 3, 1) := by decide +kernel
theorem dL_act_228 : decode cL_act 228 = .ok (.invokestatic 52, 3) := by decide +kernel
theorem dL_act_231 : decode cL_act 231 = .ok (.ifCond .ne 7, 3) := by decide +kernel
theorem dL_act_234 : decode cL_act 234 = .ok (.iconst 1, 1) := by decide +kernel
theorem dL_act_235 : decode cL_act 235 = .ok (.goto 4, 3) := by decide +kernel
theorem dL_act_238 : decode cL_act 238 = .ok (.iconst 0, 1) := by decide +kernel
theorem dL_act_239 : decode cL_act 239 = .ok (.invokevirtual 74, 3) := by decide +kernel
theorem dL_act_242 : decode cL_act 242 = .ok (.ireturn, 1) := by decide +kernel
theorem dL_act_243 : decode cL_act 243 = .ok (.aload_n 0, 1) := by decide +kernel
theorem dL_act_244 : decode cL_act 244 = .ok (.iload_n 3, 1) := by decide +kernel
theorem dL_act_245 : decode cL_act 245 = .ok (.iconst 2, 1) := by decide +kernel
theorem dL_act_246 : decode cL_act 246 = .ok (.invokestatic 52, 3) := by decide +kernel
theorem dL_act_249 : decode cL_act 249 = .ok (.iconst 1, 1) := by decide +kernel
theorem dL_act_250 : decode cL_act 250 = .ok (.iload 4, 2) := by decide +kernel
theorem dL_act_252 : decode cL_act 252 = .ok (.bipush 40, 2) := by decide +kernel
theorem dL_act_254 : decode cL_act 254 = .ok (.invokestatic 52, 3) := by decide +kernel
theorem dL_act_257 : decode cL_act 257 = .ok (.iadd, 1) := by decide +kernel
theorem dL_act_258 : decode cL_act 258 = .ok (.invokevirtual 77, 3) := by decide +kernel
theorem dL_act_261 : decode cL_act 261 = .ok (.ireturn, 1) := by decide +kernel
theorem dL_act_262 : decode cL_act 262 = .ok (.iload_n 3, 1) := by decide +kernel
theorem dL_act_263 : decode cL_act 263 = .ok (.iconst 2, 1) := by decide +kernel
theorem dL_act_264 : decode cL_act 264 = .ok (.invokestatic 52, 3) := by decide +kernel
theorem dL_act_267 : decode cL_act 267 = .ok (.ifCond .ne 17, 3) := by decide +kernel
theorem dL_act_270 : decode cL_act 270 = .ok (.aload_n 0, 1) := by decide +kernel
theorem dL_act_271 : decode cL_act 271 = .ok (.iconst 2, 1) := by decide +kernel
theorem dL_act_272 : decode cL_act 272 = .ok (.iload 4, 2) := by decide +kernel
theorem dL_act_274 : decode cL_act 274 = .ok (.iconst 2, 1) := by decide +kernel
theorem dL_act_275 : decode cL_act 275 = .ok (.invokestatic 52, 3) := by decide +kernel
theorem dL_act_278 : decode cL_act 278 = .ok (.invokevirtual 77, 3) := by decide +kernel
theorem dL_act_281 : decode cL_act 281 = .ok (.goto 17, 3) := by decide +kernel
theorem dL_act_284 : decode cL_act 284 = .ok (.aload_n 0, 1) := by decide +kernel
theorem dL_act_285 : decode cL_act 285 = .ok (.iconst 3, 1) := by decide +kernel
theorem dL_act_286 : decode cL_act 286 = .ok (.iconst 1, 1) := by decide +kernel
theorem dL_act_287 : decode cL_act 287 = .ok (.iload 4, 2) := by decide +kernel
theorem dL_act_289 : decode cL_act 289 = .ok (.bipush 12, 2) := by decide +kernel
theorem dL_act_291 : decode cL_act 291 = .ok (.invokestatic 52, 3) := by decide +kernel
theorem dL_act_294 : decode cL_act 294 = .ok (.iadd, 1) := by decide +kernel
theorem dL_act_295 : decode cL_act 295 = .ok (.invokevirtual 77, 3) := by decide +kernel
theorem dL_act_298 : decode cL_act 298 = .ok (.ireturn, 1) := by decide +kernel
theorem dL_act_299 : decode cL_act 299 = .ok (.aload_n 0, 1) := by decide +kernel
theorem dL_act_300 : decode cL_act 300 = .ok (.invokestatic 80, 3) := by decide +kernel
theorem dL_act_303 : decode cL_act 303 = .ok (.ireturn, 1) := by decide +kernel
theorem dL_law_0 : decode cL_law 0 = .ok (.new 10, 3) := by decide +kernel
theorem dL_law_3 : decode cL_law 3 = .ok (.dup, 1) := by decide +kernel
theorem dL_law_4 : decode cL_law 4 = .ok (.invokespecial 83, 3) := by decide +kernel
theorem dL_law_7 : decode cL_law 7 = .ok (.astore_n 1, 1) := by decide +kernel
theorem dL_law_8 : decode cL_law 8 = .ok (.iconst 1, 1) := by decide +kernel
theorem dL_law_9 : decode cL_law 9 = .ok (.istore_n 2, 1) := by decide +kernel
theorem dL_law_10 : decode cL_law 10 = .ok (.aload_n 0, 1) := by decide +kernel
theorem dL_law_11 : decode cL_law 11 = .ok (.arraylength, 1) := by decide +kernel
theorem dL_law_12 : decode cL_law 12 = .ok (.iconst 3, 1) := by decide +kernel
theorem dL_law_13 : decode cL_law 13 = .ok (.idiv, 1) := by decide +kernel
theorem dL_law_14 : decode cL_law 14 = .ok (.bipush 44, 2) := by decide +kernel
theorem dL_law_16 : decode cL_law 16 = .ok (.if_icmp .le 8, 3) := by decide +kernel
theorem dL_law_19 : decode cL_law 19 = .ok (.bipush 44, 2) := by decide +kernel
theorem dL_law_21 : decode cL_law 21 = .ok (.goto 7, 3) := by decide +kernel
theorem dL_law_24 : decode cL_law 24 = .ok (.aload_n 0, 1) := by decide +kernel
theorem dL_law_25 : decode cL_law 25 = .ok (.arraylength, 1) := by decide +kernel
theorem dL_law_26 : decode cL_law 26 = .ok (.iconst 3, 1) := by decide +kernel
theorem dL_law_27 : decode cL_law 27 = .ok (.idiv, 1) := by decide +kernel
theorem dL_law_28 : decode cL_law 28 = .ok (.istore_n 3, 1) := by decide +kernel
theorem dL_law_29 : decode cL_law 29 = .ok (.iconst 0, 1) := by decide +kernel
theorem dL_law_30 : decode cL_law 30 = .ok (.istore 4, 2) := by decide +kernel
theorem dL_law_32 : decode cL_law 32 = .ok (.iload 4, 2) := by decide +kernel
theorem dL_law_34 : decode cL_law 34 = .ok (.iload_n 3, 1) := by decide +kernel
theorem dL_law_35 : decode cL_law 35 = .ok (.if_icmp .ge 378, 3) := by decide +kernel
theorem dL_law_38 : decode cL_law 38 = .ok (.iload_n 2, 1) := by decide +kernel
theorem dL_law_39 : decode cL_law 39 = .ok (.ifCond .eq 374, 3) := by decide +kernel
theorem dL_law_42 : decode cL_law 42 = .ok (.aload_n 1, 1) := by decide +kernel
theorem dL_law_43 : decode cL_law 43 = .ok (.bipush 10, 2) := by decide +kernel
theorem dL_law_45 : decode cL_law 45 = .ok (.invokevirtual 29, 3) := by decide +kernel
theorem dL_law_48 : decode cL_law 48 = .ok (.istore 5, 2) := by decide +kernel
theorem dL_law_50 : decode cL_law 50 = .ok (.aload_n 1, 1) := by decide +kernel
theorem dL_law_51 : decode cL_law 51 = .ok (.iconst 1, 1) := by decide +kernel
theorem dL_law_52 : decode cL_law 52 = .ok (.invokevirtual 29, 3) := by decide +kernel
theorem dL_law_55 : decode cL_law 55 = .ok (.istore 6, 2) := by decide +kernel
theorem dL_law_57 : decode cL_law 57 = .ok (.aload_n 1, 1) := by decide +kernel
theorem dL_law_58 : decode cL_law 58 = .ok (.iconst 0, 1) := by decide +kernel
theorem dL_law_59 : decode cL_law 59 = .ok (.invokevirtual 29, 3) := by decide +kernel
theorem dL_law_62 : decode cL_law 62 = .ok (.istore 7, 2) := by decide +kernel
theorem dL_law_64 : decode cL_law 64 = .ok (.aload_n 1, 1) := by decide +kernel
theorem dL_law_65 : decode cL_law 65 = .ok (.iconst 4, 1) := by decide +kernel
theorem dL_law_66 : decode cL_law 66 = .ok (.invokevirtual 29, 3) := by decide +kernel
theorem dL_law_69 : decode cL_law 69 = .ok (.istore 8, 2) := by decide +kernel
theorem dL_law_71 : decode cL_law 71 = .ok (.aload_n 1, 1) := by decide +kernel
theorem dL_law_72 : decode cL_law 72 = .ok (.iconst 5, 1) := by decide +kernel
theorem dL_law_73 : decode cL_law 73 = .ok (.invokevirtual 29, 3) := by decide +kernel
theorem dL_law_76 : decode cL_law 76 = .ok (.istore 9, 2) := by decide +kernel
theorem dL_law_78 : decode cL_law 78 = .ok (.aload_n 1, 1) := by decide +kernel
theorem dL_law_79 : decode cL_law 79 = .ok (.bipush 6, 2) := by decide +kernel
theorem dL_law_81 : decode cL_law 81 = .ok (.invokevirtual 29, 3) := by decide +kernel
theorem dL_law_84 : decode cL_law 84 = .ok (.istore 10, 2) := by decide +kernel
theorem dL_law_86 : decode cL_law 86 = .ok (.aload_n 1, 1) := by decide +kernel
theorem dL_law_87 : decode cL_law 87 = .ok (.iconst 2, 1) := by decide +kernel
theorem dL_law_88 : decode cL_law 88 = .ok (.invokevirtual 29, 3) := by decide +kernel
theorem dL_law_91 : decode cL_law 91 = .ok (.istore 11, 2) := by decide +kernel
theorem dL_law_93 : decode cL_law 93 = .ok (.aload_n 1, 1) := by decide +kernel
theorem dL_law_94 : decode cL_law 94 = .ok (.bipush 9, 2) := by decide +kernel
theorem dL_law_96 : decode cL_law 96 = .ok (.invokevirtual 29, 3) := by decide +kernel
theorem dL_law_99 : decode cL_law 99 = .ok (.ifCond .ne 7, 3) := by decide +kernel
theorem dL_law_102 : decode cL_law 102 = .ok (.iconst 1, 1) := by decide +kernel
theorem dL_law_103 : decode cL_law 103 = .ok (.goto 4, 3) := by decide +kernel
theorem dL_law_106 : decode cL_law 106 = .ok (.iconst 0, 1) := by decide +kernel
theorem dL_law_107 : decode cL_law 107 = .ok (.istore 12, 2) := by decide +kernel
theorem dL_law_109 : decode cL_law 109 = .ok (.aload_n 0, 1) := by decide +kernel
theorem dL_law_110 : decode cL_law 110 = .ok (.iconst 3, 1) := by decide +kernel
theorem dL_law_111 : decode cL_law 111 = .ok (.iload 4, 2) := by decide +kernel
theorem dL_law_113 : decode cL_law 113 = .ok (.imul, 1) := by decide +kernel
theorem dL_law_114 : decode cL_law 114 = .ok (.invokestatic 46, 3) := by decide +kernel
theorem dL_law_117 : decode cL_law 117 = .ok (.bipush 20, 2) := by decide +kernel
theorem dL_law_119 : decode cL_law 119 = .ok (.invokestatic 52, 3) := by decide +kernel
theorem dL_law_122 : decode cL_law 122 = .ok (.istore 13, 2) := by decide +kernel
theorem dL_law_124 : decode cL_law 124 = .ok (.aload_n 0, 1) := by decide +kernel
theorem dL_law_125 : decode cL_law 125 = .ok (.iconst 3, 1) := by decide +kernel
theorem dL_law_126 : decode cL_law 126 = .ok (.iload 4, 2) := by decide +kernel
theorem dL_law_128 : decode cL_law 128 = .ok (.imul, 1) := by decide +kernel
theorem dL_law_129 : decode cL_law 129 = .ok (.iconst 1, 1) := by decide +kernel
theorem dL_law_130 : decode cL_law 130 = .ok (.iadd, 1) := by decide +kernel
theorem dL_law_131 : decode cL_law 131 = .ok (.invokestatic 46, 3) := by decide +kernel
theorem dL_law_134 : decode cL_law 134 = .ok (.istore 14, 2) := by decide +kernel
theorem dL_law_136 : decode cL_law 136 = .ok (.iconst 1, 1) := by decide +kernel
theorem dL_law_137 : decode cL_law 137 = .ok (.iload 14, 2) := by decide +kernel
theorem dL_law_139 : decode cL_law 139 = .ok (.bipush 20, 2) := by decide +kernel
theorem dL_law_141 : decode cL_law 141 = .ok (.invokestatic 52, 3) := by decide +kernel
theorem dL_law_144 : decode cL_law 144 = .ok (.iadd, 1) := by decide +kernel
theorem dL_law_145 : decode cL_law 145 = .ok (.istore 15, 2) := by decide +kernel
theorem dL_law_147 : decode cL_law 147 = .ok (.aload_n 1, 1) := by decide +kernel
theorem dL_law_148 : decode cL_law 148 = .ok (.iload 15, 2) := by decide +kernel
theorem dL_law_150 : decode cL_law 150 = .ok (.iconst 1, 1) := by decide +kernel
theorem dL_law_151 : decode cL_law 151 = .ok (.invokevirtual 84, 3) := by decide +kernel
theorem dL_law_154 : decode cL_law 154 = .ok (.istore 16, 2) := by decide +kernel
theorem dL_law_156 : decode cL_law 156 = .ok (.aload_n 1, 1) := by decide +kernel
theorem dL_law_157 : decode cL_law 157 = .ok (.iload 15, 2) := by decide +kernel
theorem dL_law_159 : decode cL_law 159 = .ok (.iconst 0, 1) := by decide +kernel
theorem dL_law_160 : decode cL_law 160 = .ok (.invokevirtual 84, 3) := by decide +kernel
theorem dL_law_163 : decode cL_law 163 = .ok (.istore 17, 2) := by decide +kernel
theorem dL_law_165 : decode cL_law 165 = .ok (.aload_n 1, 1) := by decide +kernel
theorem dL_law_166 : decode cL_law 166 = .ok (.aload_n 0, 1) := by decide +kernel
theorem dL_law_167 : decode cL_law 167 = .ok (.iconst 3, 1) := by decide +kernel
theorem dL_law_168 : decode cL_law 168 = .ok (.iload 4, 2) := by decide +kernel
theorem dL_law_170 : decode cL_law 170 = .ok (.imul, 1) := by decide +kernel
theorem dL_law_171 : decode cL_law 171 = .ok (.invokestatic 87, 3) := by decide +kernel
theorem dL_law_174 : decode cL_law 174 = .ok (.istore 18, 2) := by decide +kernel
theorem dL_law_176 : decode cL_law 176 = .ok (.iload 18, 2) := by decide +kernel
theorem dL_law_178 : decode cL_law 178 = .ok (.ifCond .ge 45, 3) := by decide +kernel
theorem dL_law_181 : decode cL_law 181 = .ok (.aload_n 1, 1) := by decide +kernel
theorem dL_law_182 : decode cL_law 182 = .ok (.bipush 10, 2) := by decide +kernel
theorem dL_law_184 : decode cL_law 184 = .ok (.invokevirtual 29, 3) := by decide +kernel
theorem dL_law_187 : decode cL_law 187 = .ok (.iload 5, 2) := by decide +kernel
theorem dL_law_189 : decode cL_law 189 = .ok (.if_icmp .ne 38, 3) := by decide +kernel
theorem dL_law_192 : decode cL_law 192 = .ok (.aload_n 1, 1) := by decide +kernel
theorem dL_law_193 : decode cL_law 193 = .ok (.iconst 1, 1) := by decide +kernel
theorem dL_law_194 : decode cL_law 194 = .ok (.invokevirtual 29, 3) := by decide +kernel
theorem dL_law_197 : decode cL_law 197 = .ok (.iload 6, 2) := by decide +kernel
theorem dL_law_199 : decode cL_law 199 = .ok (.if_icmp .ne 28, 3) := by decide +kernel
theorem dL_law_202 : decode cL_law 202 = .ok (.aload_n 1, 1) := by decide +kernel
theorem dL_law_203 : decode cL_law 203 = .ok (.iconst 0, 1) := by decide +kernel
theorem dL_law_204 : decode cL_law 204 = .ok (.invokevirtual 29, 3) := by decide +kernel
theorem dL_law_207 : decode cL_law 207 = .ok (.iload 7, 2) := by decide +kernel
theorem dL_law_209 : decode cL_law 209 = .ok (.if_icmp .ne 18, 3) := by decide +kernel
theorem dL_law_212 : decode cL_law 212 = .ok (.aload_n 1, 1) := by decide +kernel
theorem dL_law_213 : decode cL_law 213 = .ok (.bipush 6, 2) := by decide +kernel
theorem dL_law_215 : decode cL_law 215 = .ok (.invokevirtual 29, 3) := by decide +kernel
theorem dL_law_218 : decode cL_law 218 = .ok (.iload 10, 2) := by decide +kernel
theorem dL_law_220 : decode cL_law 220 = .ok (.if_icmp .ne 7, 3) := by decide +kernel
theorem dL_law_223 : decode cL_law 223 = .ok (.iconst 1, 1) := by decide +kernel
theorem dL_law_224 : decode cL_law 224 = .ok (.goto 4, 3) := by decide +kernel
theorem dL_law_227 : decode cL_law 227 = .ok (.iconst 0, 1) := by decide +kernel
theorem dL_law_228 : decode cL_law 228 = .ok (.istore_n 2, 1) := by decide +kernel
theorem dL_law_229 : decode cL_law 229 = .ok (.iload_n 2, 1) := by decide +kernel
theorem dL_law_230 : decode cL_law 230 = .ok (.ifCond .eq 67, 3) := by decide +kernel
theorem dL_law_233 : decode cL_law 233 = .ok (.iload 13, 2) := by decide +kernel
theorem dL_law_235 : decode cL_law 235 = .ok (.iconst 5, 1) := by decide +kernel
theorem dL_law_236 : decode cL_law 236 = .ok (.if_icmp .lt 57, 3) := by decide +kernel
theorem dL_law_239 : decode cL_law 239 = .ok (.iload 13, 2) := by decide +kernel
theorem dL_law_241 : decode cL_law 241 = .ok (.bipush 9, 2) := by decide +kernel
theorem dL_law_243 : decode cL_law 243 = .ok (.if_icmp .gt 50, 3) := by decide +kernel
theorem dL_law_246 : decode cL_law 246 = .ok (.iload 18, 2) := by decide +kernel
theorem dL_law_248 : decode cL_law 248 = .ok (.iload 17, 2) := by decide +kernel
theorem dL_law_250 : decode cL_law 250 = .ok (.if_icmp .ne 47, 3) := by decide +kernel
theorem dL_law_253 : decode cL_law 253 = .ok (.aload_n 1, 1) := by decide +kernel
theorem dL_law_254 : decode cL_law 254 = .ok (.iconst 4, 1) := by decide +kernel
theorem dL_law_255 : decode cL_law 255 = .ok (.invokevirtual 29, 3) := by decide +kernel
theorem dL_law_258 : decode cL_law 258 = .ok (.iload 8, 2) := by decide +kernel
theorem dL_law_260 : decode cL_law 260 = .ok (.iload 17, 2) := by decide +kernel
theorem dL_law_262 : decode cL_law 262 = .ok (.iadd, 1) := by decide +kernel
theorem dL_law_263 : decode cL_law 263 = .ok (.if_icmp .ne 34, 3) := by decide +kernel
theorem dL_law_266 : decode cL_law 266 = .ok (.aload_n 1, 1) := by decide +kernel
theorem dL_law_267 : decode cL_law 267 = .ok (.bipush 6, 2) := by decide +kernel
theorem dL_law_269 : decode cL_law 269 = .ok (.invokevirtual 29, 3) := by decide +kernel
theorem dL_law_272 : decode cL_law 272 = .ok (.iload 10, 2) := by decide +kernel
theorem dL_law_274 : decode cL_law 274 = .ok (.iload 16, 2) := by decide +kernel
theorem dL_law_276 : decode cL_law 276 = .ok (.iadd, 1) := by decide +kernel
theorem dL_law_277 : decode cL_law 277 = .ok (.if_icmp .ne 20, 3) := by decide +kernel
theorem dL_law_280 : decode cL_law 280 = .ok (.aload_n 1, 1) := by decide +kernel
theorem dL_law_281 : decode cL_law 281 = .ok (.iconst 0, 1) := by decide +kernel
theorem dL_law_282 : decode cL_law 282 = .ok (.invokevirtual 29, 3) := by decide +kernel
theorem dL_law_285 : decode cL_law 285 = .ok (.iload 7, 2) := by decide +kernel
theorem dL_law_287 : decode cL_law 287 = .ok (.iload 15, 2) := by decide +kernel
theorem dL_law_289 : decode cL_law 289 = .ok (.iadd, 1) := by decide +kernel
theorem dL_law_290 : decode cL_law 290 = .ok (.if_icmp .ne 7, 3) := by decide +kernel
theorem dL_law_293 : decode cL_law 293 = .ok (.iconst 1, 1) := by decide +kernel
theorem dL_law_294 : decode cL_law 294 = .ok (.goto 4, 3) := by decide +kernel
theorem dL_law_297 : decode cL_law 297 = .ok (.iconst 0, 1) := by decide +kernel
theorem dL_law_298 : decode cL_law 298 = .ok (.istore_n 2, 1) := by decide +kernel
theorem dL_law_299 : decode cL_law 299 = .ok (.iload_n 2, 1) := by decide +kernel
theorem dL_law_300 : decode cL_law 300 = .ok (.ifCond .eq 105, 3) := by decide +kernel
theorem dL_law_303 : decode cL_law 303 = .ok (.iload 12, 2) := by decide +kernel
theorem dL_law_305 : decode cL_law 305 = .ok (.ifCond .eq 30, 3) := by decide +kernel
theorem dL_law_308 : decode cL_law 308 = .ok (.iload 13, 2) := by decide +kernel
theorem dL_law_310 : decode cL_law 310 = .ok (.bipush 19, 2) := by decide +kernel
theorem dL_law_312 : decode cL_law 312 = .ok (.if_icmp .eq 23, 3) := by decide +kernel
theorem dL_law_315 : decode cL_law 315 = .ok (.aload_n 1, 1) := by decide +kernel
theorem dL_law_316 : decode cL_law 316 = .ok (.iconst 4, 1) := by decide +kernel
theorem dL_law_317 : decode cL_law 317 = .ok (.invokevirtual 29, 3) := by decide +kernel
theorem dL_law_320 : decode cL_law 320 = .ok (.iload 8, 2) := by decide +kernel
theorem dL_law_322 : decode cL_law 322 = .ok (.if_icmp .ne 83, 3) := by decide +kernel
theorem dL_law_325 : decode cL_law 325 = .ok (.aload_n 1, 1) := by decide +kernel
theorem dL_law_326 : decode cL_law 326 = .ok (.iconst 5, 1) := by decide +kernel
theorem dL_law_327 : decode cL_law 327 = .ok (.invokevirtual 29, 3) := by decide +kernel
theorem dL_law_330 : decode cL_law 330 = .ok (.iload 9, 2) := by decide +kernel
theorem dL_law_332 : decode cL_law 332 = .ok (.if_icmp .ne 73, 3) := by decide +kernel
theorem dL_law_335 : decode cL_law 335 = .ok (.iload 13, 2) := by decide +kernel
theorem dL_law_337 : decode cL_law 337 = .ok (.iconst 4, 1) := by decide +kernel
theorem dL_law_338 : decode cL_law 338 = .ok (.if_icmp .gt 22, 3) := by decide +kernel
theorem dL_law_341 : decode cL_law 341 = .ok (.iload 18, 2) := by decide +kernel
theorem dL_law_343 : decode cL_law 343 = .ok (.iload 6, 2) := by decide +kernel
theorem dL_law_345 : decode cL_law 345 = .ok (.bipush 6, 2) := by decide +kernel
theorem dL_law_347 : decode cL_law 347 = .ok (.if_icmp .ne 8, 3) := by decide +kernel
theorem dL_law_350 : decode cL_law 350 = .ok (.bipush (-3), 2) := by decide +kernel
theorem dL_law_352 : decode cL_law 352 = .ok (.goto 5, 3) := by decide +kernel
theorem dL_law_355 : decode cL_law 355 = .ok (.iload 11, 2) := by decide +kernel
theorem dL_law_357 : decode cL_law 357 = .ok (.if_icmp .ne 48, 3) := by decide +kernel
theorem dL_law_360 : decode cL_law 360 = .ok (.iload 13, 2) := by decide +kernel
theorem dL_law_362 : decode cL_law 362 = .ok (.bipush 11, 2) := by decide +kernel
theorem dL_law_364 : decode cL_law 364 = .ok (.if_icmp .eq 10, 3) := by decide +kernel
theorem dL_law_367 : decode cL_law 367 = .ok (.iload 13, 2) := by decide +kernel
theorem dL_law_369 : decode cL_law 369 = .ok (.bipush 12, 2) := by decide +kernel
theorem dL_law_371 : decode cL_law 371 = .ok (.if_icmp .ne 23, 3) := by decide +kernel
theorem dL_law_374 : decode cL_law 374 = .ok (.aload_n 1, 1) := by decide +kernel
theorem dL_law_375 : decode cL_law 375 = .ok (.iload 14, 2) := by decide +kernel
theorem dL_law_377 : decode cL_law 377 = .ok (.bipush 8, 2) := by decide +kernel
theorem dL_law_379 : decode cL_law 379 = .ok (.invokestatic 52, 3) := by decide +kernel
theorem dL_law_382 : decode cL_law 382 = .ok (.iconst 1, 1) := by decide +kernel
theorem dL_law_383 : decode cL_law 383 = .ok (.invokevirtual 26, 3) := by decide +kernel
theorem dL_law_386 : decode cL_law 386 = .ok (.aload_n 1, 1) := by decide +kernel
theorem dL_law_387 : decode cL_law 387 = .ok (.iconst 0, 1) := by decide +kernel
theorem dL_law_388 : decode cL_law 388 = .ok (.invokevirtual 33, 3) := by decide +kernel
theorem dL_law_391 : decode cL_law 391 = .ok (.if_icmp .lt 14, 3) := by decide +kernel
theorem dL_law_394 : decode cL_law 394 = .ok (.aload_n 1, 1) := by decide +kernel
theorem dL_law_395 : decode cL_law 395 = .ok (.invokestatic 91, 3) := by decide +kernel
theorem dL_law_398 : decode cL_law 398 = .ok (.ifCond .eq 7, 3) := by decide +kernel
theorem dL_law_401 : decode cL_law 401 = .ok (.iconst 1, 1) := by decide +kernel
theorem dL_law_402 : decode cL_law 402 = .ok (.goto 4, 3) := by decide +kernel
theorem dL_law_405 : decode cL_law 405 = .ok (.iconst 0, 1) := by decide +kernel
theorem dL_law_406 : decode cL_law 406 = .ok (.istore_n 2, 1) := by decide +kernel
theorem dL_law_407 : decode cL_law 407 = .ok (.iinc 4 1, 3) := by decide +kernel
theorem dL_law_410 : decode cL_law 410 = .ok (.goto (-378), 3) := by decide +kernel
theorem dL_law_413 : decode cL_law 413 = .ok (.aload_n 0, 1) := by decide +kernel
theorem dL_law_414 : decode cL_law 414 = .ok (.iconst 1, 1) := by decide +kernel
theorem dL_law_415 : decode cL_law 415 = .ok (.invokestatic 46, 3) := by decide +kernel
theorem dL_law_418 : decode cL_law 418 = .ok (.bipush 8, 2) := by decide +kernel
theorem dL_law_420 : decode cL_law 420 = .ok (.invokestatic 52, 3) := by decide +kernel
theorem dL_law_423 : decode cL_law 423 = .ok (.istore 4, 2) := by decide +kernel
theorem dL_law_425 : decode cL_law 425 = .ok (.iload 4, 2) := by decide +kernel
theorem dL_law_427 : decode cL_law 427 = .ok (.iconst 1, 1) := by decide +kernel
theorem dL_law_428 : decode cL_law 428 = .ok (.iadd, 1) := by decide +kernel
theorem dL_law_429 : decode cL_law 429 = .ok (.aload_n 0, 1) := by decide +kernel
theorem dL_law_430 : decode cL_law 430 = .ok (.iconst 2, 1) := by decide +kernel
theorem dL_law_431 : decode cL_law 431 = .ok (.invokestatic 46, 3) := by decide +kernel
theorem dL_law_434 : decode cL_law 434 = .ok (.bipush 7, 2) := by decide +kernel
theorem dL_law_436 : decode cL_law 436 = .ok (.invokestatic 52, 3) := by decide +kernel
theorem dL_law_439 : decode cL_law 439 = .ok (.iadd, 1) := by decide +kernel
theorem dL_law_440 : decode cL_law 440 = .ok (.bipush 8, 2) := by decide +kernel
theorem dL_law_442 : decode cL_law 442 = .ok (.irem, 1) := by decide +kernel
theorem dL_law_443 : decode cL_law 443 = .ok (.istore 5, 2) := by decide +kernel
theorem dL_law_445 : decode cL_law 445 = .ok (.iload_n 2, 1) := by decide +kernel
theorem dL_law_446 : decode cL_law 446 = .ok (.ifCond .eq 56, 3) := by decide +kernel
theorem dL_law_449 : decode cL_law 449 = .ok (.aload_n 1, 1) := by decide +kernel
theorem dL_law_450 : decode cL_law 450 = .ok (.iload 4, 2) := by decide +kernel
theorem dL_law_452 : decode cL_law 452 = .ok (.iload 5, 2) := by decide +kernel
theorem dL_law_454 : decode cL_law 454 = .ok (.invokevirtual 95, 3) := by decide +kernel
theorem dL_law_457 : decode cL_law 457 = .ok (.ifCond .lt 45, 3) := by decide +kernel
theorem dL_law_460 : decode cL_law 460 = .ok (.aload_n 1, 1) := by decide +kernel
theorem dL_law_461 : decode cL_law 461 = .ok (.bipush 9, 2) := by decide +kernel
theorem dL_law_463 : decode cL_law 463 = .ok (.invokevirtual 29, 3) := by decide +kernel
theorem dL_law_466 : decode cL_law 466 = .ok (.ifCond .le 21, 3) := by decide +kernel
theorem dL_law_469 : decode cL_law 469 = .ok (.aload_n 1, 1) := by decide +kernel
theorem dL_law_470 : decode cL_law 470 = .ok (.bipush 7, 2) := by decide +kernel
theorem dL_law_472 : decode cL_law 472 = .ok (.invokevirtual 29, 3) := by decide +kernel
theorem dL_law_475 : decode cL_law 475 = .ok (.ifCond .ne 12, 3) := by decide +kernel
theorem dL_law_478 : decode cL_law 478 = .ok (.aload_n 1, 1) := by decide +kernel
theorem dL_law_479 : decode cL_law 479 = .ok (.bipush 8, 2) := by decide +kernel
theorem dL_law_481 : decode cL_law 481 = .ok (.invokevirtual 29, 3) := by decide +kernel
theorem dL_law_484 : decode cL_law 484 = .ok (.ifCond .eq 14, 3) := by decide +kernel
theorem dL_law_487 : decode cL_law 487 = .ok (.aload_n 1, 1) := by decide +kernel
theorem dL_law_488 : decode cL_law 488 = .ok (.iload 4, 2) := by decide +kernel
theorem dL_law_490 : decode cL_law 490 = .ok (.iload 5, 2) := by decide +kernel
theorem dL_law_492 : decode cL_law 492 = .ok (.invokevirtual 95, 3) := by decide +kernel
theorem dL_law_495 : decode cL_law 495 = .ok (.ifCond .ne 7, 3) := by decide +kernel
theorem dL_law_498 : decode cL_law 498 = .ok (.iconst 1, 1) := by decide +kernel
theorem dL_law_499 : decode cL_law 499 = .ok (.goto 4, 3) := by decide +kernel
theorem dL_law_502 : decode cL_law 502 = .ok (.iconst 0, 1) := by decide +kernel
theorem dL_law_503 : decode cL_law 503 = .ok (.ireturn, 1) := by decide +kernel
end
section
/-! The frame of this proof. A world is a function: blocks of numbers by a place (sv_M), laid out over 117 cells that follow each other from G.1 on. -/
/-- the ground: the first cell; what the tables give each class; the classes of the arrays (int, char, Stairs), the script; the static rows -/
abbrev sv_G : Type := Nat × va_G × (ClassId × ClassId × ClassId × Nat × Nat × (Nat → Int32)) × (Nat × Nat × Nat)
abbrev sv_M : Type := Nat → Nat → Int32
abbrev sv_D (G : sv_G) : va_G := G.2.1
abbrev sv_cI (G : sv_G) : ClassId := G.2.2.1.1
abbrev sv_cC (G : sv_G) : ClassId := G.2.2.1.2.1
abbrev sv_cS (G : sv_G) : ClassId := G.2.2.1.2.2.1
/-- the script: its cell, its length, its ints -/
abbrev sv_b (G : sv_G) : Nat := G.2.2.1.2.2.2.1
abbrev sv_L (G : sv_G) : Nat := G.2.2.1.2.2.2.2.1
abbrev sv_xs (G : sv_G) : Nat → Int32 := G.2.2.1.2.2.2.2.2
abbrev sv_A (G : sv_G) : Nat → Prop := fun q => G.1 ≤ q
abbrev sv_tys (G : sv_G) : List (ClassId × FieldType) := [(sv_cI G, .int), (sv_cC G, .char), (sv_cS G, .object "StairLight$Stairs")]
/-- the cell of kind c, number j, by its distance from the first -/
def sv_ad (c j : Nat) : Nat := if c < 14 then 1 + 14 * j + (if j < 2 then 0 else 2) + c else if c = 14 then 0 else if c < 17 then 14 + c else 98 + c
abbrev sv_r (G : sv_G) (c j : Nat) : Nat := G.1 + sv_ad c j
/-- int rows: length, block, place -/
def sv_n (c : Nat) : Nat := if c < 8 then 8 else if c < 13 then 7 else if c = 13 then 4 else 60
def sv_q (c j : Nat) : Nat := if c < 14 then j else if c = 18 then 9 else c - 10
def sv_i (c i : Nat) : Nat := if c < 8 then 6 * i + (7 + c) else if c < 13 then 4 * i + (49 + c) else i
def sv_e (G : sv_G) (M : sv_M) (o : Int64) (c j : Nat) : va_E :=
  if c = 0 then .inr (3, [.ref (sv_r G 1 j), .ref (sv_r G 8 j), .ref (sv_r G 13 j), .int (M j 6), .int (M j 7), .int (M j 4), .int (M j 8)])
  else if c = 1 then .inr (0, [.ref (sv_r G 2 j), .ref (sv_r G 3 j), .ref (sv_r G 4 j), .ref (sv_r G 5 j), .ref (sv_r G 6 j), .ref (sv_r G 7 j)])
  else if c = 8 then .inr (2, [.ref (sv_r G 9 j), .ref (sv_r G 10 j), .ref (sv_r G 11 j), .ref (sv_r G 12 j), .int (M j 57), .int (M j 5)])
  else if c = 14 then .inr (5, [.ref (sv_r G 0 0), .ref (sv_r G 0 1), .ref (sv_r G 15 0), .ref (sv_r G 17 0)])
  else if c = 15 then .inr (1, [.ref (sv_r G 16 0), .int (M 8 0), .int (M 8 1)])
  else if c = 16 then .inl (sv_cS G, 6, .inr (.inr (.inr (.inr fun i => some (sv_r G 0 (2 + i))))))
  else if c = 17 then .inr (4, [.ref (sv_r G 18 0), .int (M 9 60)])
  else .inl (if c = 18 then sv_cC G else sv_cI G, sv_n c, .inl fun i => M (sv_q c j) (sv_i c i))
def sv_ok (c j : Nat) : Bool := (decide (c < 14) && decide (j < 8)) || (decide (14 ≤ c) && decide (c < 19) && decide (j = 0))
/-- which cells are int rows -/
def sv_ir (c : Nat) : Bool := (decide (2 ≤ c) && decide (c < 8)) || (decide (9 ≤ c) && decide (c < 14))
def sv_W (G : sv_G) (z : Nat) (M : sv_M) (o : Int64) (H : Heap) : Prop := H.size = z ∧ G.1 + 117 ≤ z ∧ ∀ c j, sv_ok c j = true → va_at (sv_D G) vwCl (sv_r G c j, sv_e G M o c j) H
def sv_w (M : sv_M) (q i : Nat) (v : Int32) : sv_M := fun q' i' => if q' = q ∧ i' = i then v else M q' i'
/-- whose a number is -/
def sv_ow (q i : Nat) : Nat × Nat := if q < 8 then (if i < 4 then (13, q) else if i = 5 ∨ i = 57 then (8, q) else if i < 9 then (0, q) else if i < 57 then (2 + (i - 9) % 6, q) else (9 + (i - 58) % 4, q)) else if q = 8 then (15, 0) else if q = 9 then (if i < 60 then (18, 0) else (17, 0)) else (19, 0)
theorem sv_ad_inj {c j c' j' : Nat} (h : sv_ok c j = true) (h' : sv_ok c' j' = true) (e : sv_ad c j = sv_ad c' j') : c = c' ∧ j = j' := by
  simp only [sv_ok, Bool.or_eq_true, Bool.and_eq_true, decide_eq_true_eq] at h h'
  unfold sv_ad at e
  repeat' split at e
  all_goals omega
theorem sv_ad_lt {c j : Nat} (h : sv_ok c j = true) : sv_ad c j < 117 := by
  simp only [sv_ok, Bool.or_eq_true, Bool.and_eq_true, decide_eq_true_eq] at h
  unfold sv_ad
  repeat' split
  all_goals omega
theorem sv_w_same (M : sv_M) (q i : Nat) (v : Int32) : sv_w M q i v q i = v := if_pos ⟨rfl, rfl⟩
theorem sv_w_ne {M : sv_M} {q i : Nat} {v : Int32} {q' i' : Nat} (h : ¬ (q' = q ∧ i' = i)) : sv_w M q i v q' i' = M q' i' := if_neg h
theorem sv_arrV {cA : ClassId} {n : Nat} {f g : Nat → Value} (h : ∀ i, i < n → f i = g i) : arrV cA n f = arrV cA n g := by
  unfold arrV
  congr 1
  apply congrArg
  funext j
  exact h j.val j.isLt
theorem sv_rows {G : sv_G} {M : sv_M} {o : Int64} {c j : Nat} (h : sv_ir c = true) : sv_e G M o c j = .inl (sv_cI G, sv_n c, .inl fun i => M (sv_q c j) (sv_i c i)) := by
  simp only [sv_ir, Bool.or_eq_true, Bool.and_eq_true, decide_eq_true_eq] at h
  unfold sv_e
  repeat rw [if_neg (by omega)]
theorem sv_at_rows {G : sv_G} {M M' : sv_M} {o o' : Int64} {c j : Nat} {H : Heap} (hc : sv_ir c = true ∨ c = 18) (hk : ∀ i, i < sv_n c → M' (sv_q c j) (sv_i c i) = M (sv_q c j) (sv_i c i)) (h : va_at (sv_D G) vwCl (sv_r G c j, sv_e G M o c j) H) : va_at (sv_D G) vwCl (sv_r G c j, sv_e G M' o' c j) H := by
  have e : ∀ (M : sv_M) (o : Int64), sv_e G M o c j = .inl (if c = 18 then sv_cC G else sv_cI G, sv_n c, .inl fun i => M (sv_q c j) (sv_i c i)) := by
    intro M o
    rcases hc with hc | rfl
    · rw [sv_rows hc, if_neg]
      rintro rfl
      cases hc
    · rfl
  rw [e] at h ⊢
  unfold va_at at h ⊢
  dsimp only at h ⊢
  rw [h, vp_cell_i, vp_cell_i]
  congr 1
  exact sv_arrV fun i hi => by rw [hk i hi]
theorem sv_kinds {c j : Nat} (h : sv_ok c j = true) : (sv_ir c = true ∨ c = 18) ∨ c = 0 ∨ c = 1 ∨ c = 8 ∨ c = 14 ∨ c = 15 ∨ c = 16 ∨ c = 17 := by
  simp only [sv_ok, sv_ir, Bool.or_eq_true, Bool.and_eq_true, decide_eq_true_eq] at h ⊢
  omega
theorem sv_ow_row {c j i : Nat} (h : sv_ok c j = true) (hc : sv_ir c = true ∨ c = 18) (hi : i < sv_n c) : sv_ow (sv_q c j) (sv_i c i) = (c, j) := by
  simp only [sv_ok, sv_ir, Bool.or_eq_true, Bool.and_eq_true, decide_eq_true_eq] at h hc
  unfold sv_n at hi
  by_cases h1 : c < 8
  · have e1 : sv_q c j = j := by unfold sv_q; rw [if_pos (by omega)]
    have e2 : sv_i c i = 6 * i + (7 + c) := by unfold sv_i; rw [if_pos h1]
    rw [if_pos h1] at hi
    rw [e1, e2]
    unfold sv_ow
    rw [if_pos (show j < 8 by omega), if_neg (show ¬ 6 * i + (7 + c) < 4 by omega), if_neg (show ¬ (6 * i + (7 + c) = 5 ∨ 6 * i + (7 + c) = 57) by omega), if_neg (by omega), if_pos (by omega)]
    congr 1
    omega
  · rw [if_neg h1] at hi
    by_cases h2 : c < 13
    · have e1 : sv_q c j = j := by unfold sv_q; rw [if_pos (by omega)]
      have e2 : sv_i c i = 4 * i + (49 + c) := by unfold sv_i; rw [if_neg h1, if_pos h2]
      rw [if_pos h2] at hi
      rw [e1, e2]
      unfold sv_ow
      rw [if_pos (show j < 8 by omega), if_neg (by omega), if_neg (by omega), if_neg (by omega), if_neg (by omega)]
      congr 1
      omega
    · rw [if_neg h2] at hi
      have e2 : sv_i c i = i := by unfold sv_i; rw [if_neg h1, if_neg h2]
      rw [e2]
      by_cases h3 : c = 13
      · have e1 : sv_q c j = j := by unfold sv_q; rw [if_pos (by omega)]
        rw [if_pos h3] at hi
        rw [e1]
        unfold sv_ow
        rw [if_pos (show j < 8 by omega), if_pos (by omega), h3]
      · rw [if_neg h3] at hi
        have hj : j = 0 := by omega
        have h4 : c = 18 := by omega
        have e1 : sv_q c j = 9 := by unfold sv_q; rw [if_neg (by omega), if_pos h4]
        rw [e1, h4, hj]
        unfold sv_ow
        rw [if_neg (by omega), if_neg (by omega), if_pos rfl, if_pos hi]
theorem sv_e0 (G : sv_G) (M : sv_M) (o : Int64) (j : Nat) : sv_e G M o 0 j = .inr (3, [.ref (sv_r G 1 j), .ref (sv_r G 8 j), .ref (sv_r G 13 j), .int (M j 6), .int (M j 7), .int (M j 4), .int (M j 8)]) := rfl
theorem sv_e8 (G : sv_G) (M : sv_M) (o : Int64) (j : Nat) : sv_e G M o 8 j = .inr (2, [.ref (sv_r G 9 j), .ref (sv_r G 10 j), .ref (sv_r G 11 j), .ref (sv_r G 12 j), .int (M j 57), .int (M j 5)]) := rfl
theorem sv_e15 (G : sv_G) (M : sv_M) (o : Int64) (j : Nat) : sv_e G M o 15 j = .inr (1, [.ref (sv_r G 16 0), .int (M 8 0), .int (M 8 1)]) := rfl
theorem sv_e17 (G : sv_G) (M : sv_M) (o : Int64) (j : Nat) : sv_e G M o 17 j = .inr (4, [.ref (sv_r G 18 0), .int (M 9 60)]) := rfl
/-- a cell stays as it is where another's number is written -/
theorem sv_keep {G : sv_G} {M : sv_M} {o : Int64} {q i : Nat} {v : Int32} {c j : Nat} {H : Heap} (hok : sv_ok c j = true) (hne : sv_ow q i ≠ (c, j)) (h : va_at (sv_D G) vwCl (sv_r G c j, sv_e G M o c j) H) : va_at (sv_D G) vwCl (sv_r G c j, sv_e G (sv_w M q i v) o c j) H := by
  have K : ∀ q' i', sv_ow q' i' = (c, j) → sv_w M q i v q' i' = M q' i' := fun q' i' h => if_neg (fun e => hne (by rw [← e.1, ← e.2]; exact h))
  have hj : (c < 14 ∧ j < 8) ∨ (14 ≤ c ∧ c < 19 ∧ j = 0) := by
    simp only [sv_ok, Bool.or_eq_true, Bool.and_eq_true, decide_eq_true_eq] at hok
    omega
  rcases sv_kinds hok with hc | rfl | rfl | rfl | rfl | rfl | rfl | rfl
  · exact sv_at_rows hc (fun i hi => K _ _ (sv_ow_row hok hc hi)) h
  · have h8 : j < 8 := by omega
    rw [sv_e0, K j 6 (by simp [sv_ow, h8]), K j 7 (by simp [sv_ow, h8]), K j 4 (by simp [sv_ow, h8]), K j 8 (by simp [sv_ow, h8])]
    exact h
  · exact h
  · have h8 : j < 8 := by omega
    rw [sv_e8, K j 57 (by simp [sv_ow, h8]), K j 5 (by simp [sv_ow, h8])]
    exact h
  · exact h
  · have h8 : j = 0 := by omega
    subst h8
    rw [sv_e15, K 8 0 rfl, K 8 1 rfl]
    exact h
  · exact h
  · have h8 : j = 0 := by omega
    subst h8
    rw [sv_e17, K 9 60 rfl]
    exact h
/-- a number is written: the cell that it lies in is given anew, the others' addresses hold what they held -/
theorem sv_W.put {G : sv_G} {z : Nat} {M : sv_M} {o : Int64} {H H1 : Heap} {c j q i : Nat} {v : Int32} (h : sv_W G z M o H) (hok : sv_ok c j = true) (how : sv_ow q i = (c, j)) (z1 : H1.size = H.size) (oq : ∀ x : Nat, x ≠ sv_r G c j → H1[x]? = H[x]?) (hat : va_at (sv_D G) vwCl (sv_r G c j, sv_e G (sv_w M q i v) o c j) H1) : sv_W G z (sv_w M q i v) o H1 := by
  refine ⟨z1.trans h.1, h.2.1, fun c' j' hok' => ?_⟩
  by_cases e : (c', j') = (c, j)
  · cases e
    exact hat
  · have hn : sv_r G c' j' ≠ sv_r G c j := fun e2 => e (by
      have := sv_ad_inj hok' hok (Nat.add_left_cancel e2)
      rw [this.1, this.2])
    exact (sv_keep hok' (by rw [how]; exact fun e2 => e e2.symm) (h.2.2 c' j' hok')).kept (oq _ hn)
/-- the heap grows: the world stays -/
theorem sv_W.grown {G : sv_G} {z z' : Nat} {M : sv_M} {o : Int64} {H H1 : Heap} (h : sv_W G z M o H) (z1 : H1.size = z') (hz : z ≤ z') (oq : ∀ x : Nat, x < H.size → H1[x]? = H[x]?) : sv_W G z' M o H1 :=
  ⟨z1, Nat.le_trans h.2.1 hz, fun c j hok => (h.2.2 c j hok).kept (oq _ (h.2.2 c j hok).lt)⟩
end
section
/-! one instruction, one row: over every heap of a world Wd. What stands of a world's own (sv_W) is behind. -/
/-- private methods of a nest mate that are called, private fields of one that are read -/
def sv_nests : List (String × Nat × MethodName × String) := [(RX3, 32, yX5_copyRow, "StairLight"), (RX3, 57, yX5_at, "StairLight"), (RX2, 47, yX5_at, "StairLight"), (RX0, 30, yX5_copyRow, "StairLight"), (RX2, 31, yX5_copyRow, "StairLight"), (RX3, 83, yX5_sumOf, "StairLight"), (RX2, 58, yX5_raise, "StairLight"), (RX2, 35, yX5_put, "StairLight"), (RX0, 34, yX5_at, "StairLight"), (RX0, 38, yX5_raise, "StairLight"), (RX0, 42, yX5_put, "StairLight"), (RX3, 119, yX5_raise, "StairLight")]
/-- the texts of the exceptions -/
def sv_strs : List (String × Nat × String) := [(RX5, 238, "no such floor"), (RX5, 249, "there is no such number"), (RX5, 245, "no such setting"), (RX5, 247, "seconds are out of range"), (RX5, 240, "both floors are the same"), (RX5, 193, "no such place"), (RX5, 49, "the stairs are full"), (RX5, 68, "no such person on the stairs"), (RX5, 134, "the value is out of range"), (RX5, 182, "no saved state")]
def sv_F (t : Nat) (j : Nat) : Int32 := if t = 0 then (if j = 0 then 20 else if j = 1 then 5 else if j = 2 then 0 else 8) else if t = 1 then (if j = 0 then 1 else if j = 1 then 0 else if j = 2 then 0 else 1) else (if j = 0 then 200 else if j = 1 then 60 else if j = 2 then 1 else 60)
/-- the static rows; the script -/
def sv_St (G : sv_G) (U : State) : Prop := (va_Z "StairLight" "FIRST_VALUES" "[I" (.ref G.2.2.2.1) (sv_A G) U U.heap ∧ va_T .int G.2.2.2.1 4 (fun j => .int (sv_F 0 j)) (sv_A G) U U.heap) ∧ (va_Z "StairLight" "LEAST_VALUES" "[I" (.ref G.2.2.2.2.1) (sv_A G) U U.heap ∧ va_T .int G.2.2.2.2.1 4 (fun j => .int (sv_F 1 j)) (sv_A G) U U.heap) ∧ (va_Z "StairLight" "GREATEST_VALUES" "[I" (.ref G.2.2.2.2.2) (sv_A G) U U.heap ∧ va_T .int G.2.2.2.2.2 4 (fun j => .int (sv_F 2 j)) (sv_A G) U U.heap) ∧ va_T .int (sv_b G) (sv_L G) (fun j => .int (sv_xs G j)) (sv_A G) U U.heap
def sv_Nst (U : State) : Prop := ((∀ q ∈ sv_nests, va_Nw (.methodLinkNest q.1 q.2.1 q.2.2.1 q.2.2.2) U) ∧ va_AO "StairLight$Stairs" U) ∧ va_Nw (.fieldLinkNest "StairLight$Stairs" 25 "StairLight" "FIRST_VALUES" "[I" "StairLight") U
def sv_Xs : List Cond := [.castable "java/lang/IndexOutOfBoundsException" "java/lang/IndexOutOfBoundsException", .castable "java/lang/IllegalArgumentException" "java/lang/IllegalArgumentException", .castable "java/lang/IllegalStateException" "java/lang/IllegalStateException", .declares ⟨"java/lang/RuntimeException", "<init>", "(Ljava/lang/String;)V"⟩, .declares ⟨"java/lang/Exception", "<init>", "(Ljava/lang/String;)V"⟩, .declares ⟨"java/lang/Throwable", "<init>", "(Ljava/lang/String;)V"⟩]
theorem sv_Xs_ok : sv_Xs.all (fun w => w.faceAtom && w.onTables) = true := by decide +kernel
def sv_Exc (G : sv_G) (U : State) : Prop := (∀ q ∈ sv_strs, ∃ sa, vk_R q.1 q.2.1 q.2.2 sa U) ∧ vx_Zq Bundle.tN "UNASSIGNED_STACK" Bundle.steD (sv_A G) U U.heap ∧ vx_Zq Bundle.tN "SUPPRESSED_SENTINEL" Bundle.listD (sv_A G) U U.heap ∧ (∀ w ∈ sv_Xs, w.before #[] U = true)
/-- what is known of the tables and of the cells that nobody writes -/
def sv_K (G : sv_G) (U : State) : Prop := va_K (sv_D G) vwCl (sv_tys G) U ∧ sv_St G U ∧ sv_Nst U ∧ sv_Exc G U ∧ ∀ w ∈ sv_tbl, w.before #[] U = true
theorem sv_good {w : Cond} (h : w ∈ sv_tbl) : (w.onTables && w.keeps) = true ∨ ∃ ty, w = .arrayClass ty := good_of_word (List.mem_filter.mp h).2
theorem sv_K.word {G : sv_G} {U : State} (h : sv_K G U) {w : Cond} (hw : w ∈ sv_tbl) (args : Array Value) : w.before args U = true := word_at (State.WarmedH.refl U) (sv_good hw) (h.2.2.2.2 w hw)
theorem sv_K.to {G : sv_G} {s U : State} (hW : s.WarmedH U.vm) (hk : ∀ a : Nat, a < s.heap.size → ¬ sv_A G a → U.heap[a]? = s.heap[a]?) (h : sv_K G s) : sv_K G U := by
  obtain ⟨h1, ⟨⟨a1, a2⟩, ⟨a3, a4⟩, ⟨a5, a6⟩, a7⟩, ⟨h3, h3'⟩, ⟨h4, h5, h6, h7⟩, h11⟩ := h
  have hv := hW.alike
  refine ⟨va_K.moved hv h1, ⟨⟨va_Z.kept (va_Z.moved hv a1) hk, va_T.kept (va_T.moved hv a2) hk⟩, ⟨va_Z.kept (va_Z.moved hv a3) hk, va_T.kept (va_T.moved hv a4) hk⟩, ⟨va_Z.kept (va_Z.moved hv a5) hk, va_T.kept (va_T.moved hv a6) hk⟩, va_T.kept (va_T.moved hv a7) hk⟩, ⟨⟨fun q hq => va_Nw.warmM hW (h3.1 q hq), va_AO.moved hv h3.2⟩, va_Nw.warmF hW h3'⟩, ⟨fun q hq => ?_, vx_Zq.kept (vx_Zq.moved hv h5) hk, vx_Zq.kept (vx_Zq.moved hv h6) hk, fun E hE => ?_⟩, fun w hw => word_at hW (sv_good hw) (h11 w hw)⟩
  · obtain ⟨sa, hsa⟩ := h4 q hq
    exact ⟨sa, vk_R.warm hW hsa⟩
  · have h := h7 E hE
    have h9 := List.all_eq_true.mp sv_Xs_ok E hE
    rw [Bool.and_eq_true] at h9
    exact va_tabs (A := #[]) (u := s.setVm U.vm) h9.2 rfl (Cond.faceAtom_setVm (args := #[]) hv E h9.1 h)
/-- what holds of the method that runs -/
def sv_C (p : Program) (l : Launch) (s : State) (m : MethodId) (args : Array Value) (meth : Method) (c : Code) (cc : ByteArray) (nL : Nat) (own : String) (G : sv_G) : Prop := p.tables.exec = Jvm.exec ∧ c.code = cc ∧ c.maxLocals = nL ∧ s.vm.findClass own = some m.cls ∧ meth.locks = false ∧ sv_K G s
def sv_get (lv : List (Nat × Value)) (i : Nat) : Option Value := (lv.find? (fun q => q.1 == i)).map Prod.snd
def sv_st1 (lv : List (Nat × Value)) (i : Nat) (v : Value) : List (Nat × Value) := (i, v) :: lv.filter (fun q => !(q.1 == i) && !(q.1 + 1 == i && q.2.category == 2))
def sv_st2 (lv : List (Nat × Value)) (i : Nat) (v : Value) : List (Nat × Value) := (i, v) :: lv.filter (fun q => !(q.1 == i) && (!(q.1 == i + 1) && !(q.1 + 1 == i && q.2.category == 2)))
/-- lv' is a part of L, in any order -/
abbrev sv_of (L lv' : List (Nat × Value)) : Prop := lv'.map (fun q => sv_get L q.1) = lv'.map (fun q => some q.2)
theorem sv_get_mem {lv : List (Nat × Value)} {i : Nat} {v : Value} (h : sv_get lv i = some v) : (i, v) ∈ lv := by
  unfold sv_get at h
  cases hf : lv.find? (fun q => q.1 == i) with
  | none => rw [hf] at h; cases h
  | some q =>
    rw [hf] at h
    have h1 := List.find?_some hf
    have h2 := List.mem_of_find?_eq_some hf
    simp only [Option.map_some, Option.some.injEq] at h
    have h3 : q.1 = i := by simpa using h1
    rw [← h, ← h3]
    exact h2
theorem sv_get_at {ls : Array Slot} {nL : Nat} {lv : List (Nat × Value)} {i : Nat} {v : Value} (h : lv_has ls nL lv) (hg : sv_get lv i = some v) : ls[i]? = some (.val v) := h.2.2 (i, v) (sv_get_mem hg)
theorem sv_has_of {ls : Array Slot} {nL : Nat} {L lv' : List (Nat × Value)} (h : lv_has ls nL L) (ho : sv_of L lv') : lv_has ls nL lv' := by
  refine ⟨h.1, h.2.1, fun q hq => h.2.2 q ?_⟩
  have h1 : (lv'.map (fun q => sv_get L q.1)) = lv'.map (fun q => some q.2) := ho
  obtain ⟨i, hi⟩ := List.getElem?_of_mem hq
  have h2 : (lv'.map (fun q => sv_get L q.1))[i]? = (lv'.map (fun q => some q.2))[i]? := by rw [h1]
  rw [List.getElem?_map, List.getElem?_map, hi] at h2
  simp only [Option.map_some, Option.some.injEq] at h2
  exact sv_get_mem h2
section SVR
variable {p : Program} {l : Launch} {e : Env} {R : Room} {s : State} {m : MethodId} {args : Array Value} {below : List Frame} {meth : Method} {c : Code} {k n nL : Nat} {Q : State → Prop} {G : sv_G} {Wd Wd' : Heap → Prop}
variable {cc : ByteArray} {pc : Nat} {lv lv' : List (Nat × Value)} {st rest : List Value} {own : String}
/-- the run from here on, over every heap of the world Wd -/
def sv_V (p : Program) (l : Launch) (e : Env) (R : Room) (s : State) (m : MethodId) (args : Array Value) (below : List Frame) (meth : Method) (c : Code) (nL : Nat) (G : sv_G) (Q : State → Prop) (k n : Nat) (Wd : Heap → Prop) (pc : Nat) (lv : List (Nat × Value)) (st : List Value) : Prop :=
  ∀ (H : Heap) (locs : List Loc) (ls : Array Slot), Wd H → va_S (sv_A G) s.heap H locs → lv_has ls nL lv → W p l e R s m args below meth c H locs k n Q (F0 m pc ls st)
theorem sv_iconst (C : sv_C p l s m args meth c cc nL own G) {x : Int} {v : Int32} (d : decode cc pc = .ok (.iconst x, 1)) (hv : Int32.ofInt x = v) (kk : sv_V p l e R s m args below meth c nL G Q k n Wd (pc + 1) lv (.int v :: st)) : sv_V p l e R s m args below meth c nL G Q k n Wd pc lv (st) := fun H locs ls h1 h2 h3 => lv_iconst C.1 C.2.1 d hv (kk H locs ls h1 h2 h3)
theorem sv_bipush (C : sv_C p l s m args meth c cc nL own G) {x : Int} {v : Int32} (d : decode cc pc = .ok (.bipush x, 2)) (hv : (Int8.ofInt x).toInt32 = v) (kk : sv_V p l e R s m args below meth c nL G Q k n Wd (pc + 2) lv (.int v :: st)) : sv_V p l e R s m args below meth c nL G Q k n Wd pc lv (st) := fun H locs ls h1 h2 h3 => lv_bipush C.1 C.2.1 d hv (kk H locs ls h1 h2 h3)
theorem sv_sipush (C : sv_C p l s m args meth c cc nL own G) {x : Int} {v : Int32} (d : decode cc pc = .ok (.sipush x, 3)) (hv : (Int16.ofInt x).toInt32 = v) (kk : sv_V p l e R s m args below meth c nL G Q k n Wd (pc + 3) lv (.int v :: st)) : sv_V p l e R s m args below meth c nL G Q k n Wd pc lv (st) := fun H locs ls h1 h2 h3 => lv_sipush C.1 C.2.1 d hv (kk H locs ls h1 h2 h3)
theorem sv_lconst (C : sv_C p l s m args meth c cc nL own G) {x : Fin 2} {v : Int64} (d : decode cc pc = .ok (.lconst x, 1)) (hv : Int64.ofNat (x : Nat) = v) (kk : sv_V p l e R s m args below meth c nL G Q k n Wd (pc + 1) lv (.long v :: st)) : sv_V p l e R s m args below meth c nL G Q k n Wd pc lv (st) := fun H locs ls h1 h2 h3 => lv_lconst C.1 C.2.1 d hv (kk H locs ls h1 h2 h3)
theorem sv_dconst0 (C : sv_C p l s m args meth c cc nL own G)  (d : decode cc pc = .ok (.dconst 0, 1)) (kk : sv_V p l e R s m args below meth c nL G Q k n Wd (pc + 1) lv (.double FP.dconst0 :: st)) : sv_V p l e R s m args below meth c nL G Q k n Wd pc lv (st) := fun H locs ls h1 h2 h3 => lv_dconst0 C.1 C.2.1 d (kk H locs ls h1 h2 h3)
theorem sv_dconst1 (C : sv_C p l s m args meth c cc nL own G)  (d : decode cc pc = .ok (.dconst 1, 1)) (kk : sv_V p l e R s m args below meth c nL G Q k n Wd (pc + 1) lv (.double FP.dconst1 :: st)) : sv_V p l e R s m args below meth c nL G Q k n Wd pc lv (st) := fun H locs ls h1 h2 h3 => lv_dconst1 C.1 C.2.1 d (kk H locs ls h1 h2 h3)
theorem sv_null (C : sv_C p l s m args meth c cc nL own G)  (d : decode cc pc = .ok (.aconst_null, 1)) (kk : sv_V p l e R s m args below meth c nL G Q k n Wd (pc + 1) lv (.null :: st)) : sv_V p l e R s m args below meth c nL G Q k n Wd pc lv (st) := fun H locs ls h1 h2 h3 => lv_null C.1 C.2.1 d (kk H locs ls h1 h2 h3)
theorem sv_ldc (C : sv_C p l s m args meth c cc nL own G) {ix : Nat} {v : Int32} (d : decode cc pc = .ok (.ldc ix, 2)) (hw : Cond.constant own ix v ∈ sv_tbl) (kk : sv_V p l e R s m args below meth c nL G Q k n Wd (pc + 2) lv (.int v :: st)) : sv_V p l e R s m args below meth c nL G Q k n Wd pc lv (st) := fun H locs ls h1 h2 h3 => lv_ldc C.1 C.2.1 C.2.2.2.1 (C.2.2.2.2.2.word hw _) d (kk H locs ls h1 h2 h3)
theorem sv_ldc2 (C : sv_C p l s m args meth c cc nL own G) {ix : Nat} {v : Int64} (d : decode cc pc = .ok (.ldc2_w ix, 3)) (hw : Cond.constantLong own ix v ∈ sv_tbl) (kk : sv_V p l e R s m args below meth c nL G Q k n Wd (pc + 3) lv (.long v :: st)) : sv_V p l e R s m args below meth c nL G Q k n Wd pc lv (st) := fun H locs ls h1 h2 h3 => lv_ldc2 C.1 C.2.1 C.2.2.2.1 (C.2.2.2.2.2.word hw _) d (kk H locs ls h1 h2 h3)
theorem sv_ldc2d (C : sv_C p l s m args meth c cc nL own G) {ix : Nat} {v : UInt64} (d : decode cc pc = .ok (.ldc2_w ix, 3)) (hw : Cond.constantDouble own ix v ∈ sv_tbl) (kk : sv_V p l e R s m args below meth c nL G Q k n Wd (pc + 3) lv (.double v :: st)) : sv_V p l e R s m args below meth c nL G Q k n Wd pc lv (st) := fun H locs ls h1 h2 h3 => lv_ldc2d C.1 C.2.1 C.2.2.2.1 (C.2.2.2.2.2.word hw _) d (kk H locs ls h1 h2 h3)
theorem sv_iload_n (C : sv_C p l s m args meth c cc nL own G) {f : Fin 4} {i : Nat} {x : Int32} (d : decode cc pc = .ok (.iload_n f, 1)) (hi : (f : Nat) = i) (hg : sv_get lv i = some (.int x)) (kk : sv_V p l e R s m args below meth c nL G Q k n Wd (pc + 1) lv (.int x :: st)) : sv_V p l e R s m args below meth c nL G Q k n Wd pc lv (st) := fun H locs ls h1 h2 h3 => lv_iload_n C.1 C.2.1 d hi (sv_get_at h3 hg) (kk H locs ls h1 h2 h3)
theorem sv_iload (C : sv_C p l s m args meth c cc nL own G) {i : Nat} {x : Int32} (d : decode cc pc = .ok (.iload i, 2)) (hg : sv_get lv i = some (.int x)) (kk : sv_V p l e R s m args below meth c nL G Q k n Wd (pc + 2) lv (.int x :: st)) : sv_V p l e R s m args below meth c nL G Q k n Wd pc lv (st) := fun H locs ls h1 h2 h3 => lv_iload C.1 C.2.1 d (sv_get_at h3 hg) (kk H locs ls h1 h2 h3)
theorem sv_lload_n (C : sv_C p l s m args meth c cc nL own G) {f : Fin 4} {i : Nat} {x : Int64} (d : decode cc pc = .ok (.lload_n f, 1)) (hi : (f : Nat) = i) (hg : sv_get lv i = some (.long x)) (kk : sv_V p l e R s m args below meth c nL G Q k n Wd (pc + 1) lv (.long x :: st)) : sv_V p l e R s m args below meth c nL G Q k n Wd pc lv (st) := fun H locs ls h1 h2 h3 => lv_lload_n C.1 C.2.1 d hi (sv_get_at h3 hg) (kk H locs ls h1 h2 h3)
theorem sv_lload (C : sv_C p l s m args meth c cc nL own G) {i : Nat} {x : Int64} (d : decode cc pc = .ok (.lload i, 2)) (hg : sv_get lv i = some (.long x)) (kk : sv_V p l e R s m args below meth c nL G Q k n Wd (pc + 2) lv (.long x :: st)) : sv_V p l e R s m args below meth c nL G Q k n Wd pc lv (st) := fun H locs ls h1 h2 h3 => lv_lload C.1 C.2.1 d (sv_get_at h3 hg) (kk H locs ls h1 h2 h3)
theorem sv_aload_n (C : sv_C p l s m args meth c cc nL own G) {f : Fin 4} {i : Nat} {x : Nat} (d : decode cc pc = .ok (.aload_n f, 1)) (hi : (f : Nat) = i) (hg : sv_get lv i = some (.ref x)) (kk : sv_V p l e R s m args below meth c nL G Q k n Wd (pc + 1) lv (.ref x :: st)) : sv_V p l e R s m args below meth c nL G Q k n Wd pc lv (st) := fun H locs ls h1 h2 h3 => lv_aload_n C.1 C.2.1 d hi (sv_get_at h3 hg) (kk H locs ls h1 h2 h3)
theorem sv_aload (C : sv_C p l s m args meth c cc nL own G) {i : Nat} {x : Nat} (d : decode cc pc = .ok (.aload i, 2)) (hg : sv_get lv i = some (.ref x)) (kk : sv_V p l e R s m args below meth c nL G Q k n Wd (pc + 2) lv (.ref x :: st)) : sv_V p l e R s m args below meth c nL G Q k n Wd pc lv (st) := fun H locs ls h1 h2 h3 => lv_aload C.1 C.2.1 d (sv_get_at h3 hg) (kk H locs ls h1 h2 h3)
theorem sv_dload_n (C : sv_C p l s m args meth c cc nL own G) {f : Fin 4} {i : Nat} {x : UInt64} (d : decode cc pc = .ok (.dload_n f, 1)) (hi : (f : Nat) = i) (hg : sv_get lv i = some (.double x)) (kk : sv_V p l e R s m args below meth c nL G Q k n Wd (pc + 1) lv (.double x :: st)) : sv_V p l e R s m args below meth c nL G Q k n Wd pc lv (st) := fun H locs ls h1 h2 h3 => lv_dload_n C.1 C.2.1 d hi (sv_get_at h3 hg) (kk H locs ls h1 h2 h3)
theorem sv_dload (C : sv_C p l s m args meth c cc nL own G) {i : Nat} {x : UInt64} (d : decode cc pc = .ok (.dload i, 2)) (hg : sv_get lv i = some (.double x)) (kk : sv_V p l e R s m args below meth c nL G Q k n Wd (pc + 2) lv (.double x :: st)) : sv_V p l e R s m args below meth c nL G Q k n Wd pc lv (st) := fun H locs ls h1 h2 h3 => lv_dload C.1 C.2.1 d (sv_get_at h3 hg) (kk H locs ls h1 h2 h3)
theorem sv_aload_nN (C : sv_C p l s m args meth c cc nL own G) {f : Fin 4} {i : Nat} (d : decode cc pc = .ok (.aload_n f, 1)) (hi : (f : Nat) = i) (hg : sv_get lv i = some .null) (kk : sv_V p l e R s m args below meth c nL G Q k n Wd (pc + 1) lv (.null :: st)) : sv_V p l e R s m args below meth c nL G Q k n Wd pc lv (st) := fun H locs ls h1 h2 h3 => lv_aload_nN C.1 C.2.1 d hi (sv_get_at h3 hg) (kk H locs ls h1 h2 h3)
theorem sv_istore_n (C : sv_C p l s m args meth c cc nL own G) {f : Fin 4} {i : Nat} {x : Int32} (lv' : List (Nat × Value)) (d : decode cc pc = .ok (.istore_n f, 1)) (hi : (f : Nat) = i) (hn : i < nL) (hl : sv_of (sv_st1 lv i (.int x)) lv') (kk : sv_V p l e R s m args below meth c nL G Q k n Wd (pc + 1) lv' st) : sv_V p l e R s m args below meth c nL G Q k n Wd pc lv (.int x :: st) := fun H locs ls h1 h2 h3 => lv_istore_n C.1 C.2.1 d hi h3 hn rfl (fun ls' h3' => kk H locs ls' h1 h2 (sv_has_of h3' hl))
theorem sv_istore (C : sv_C p l s m args meth c cc nL own G) {i : Nat} {x : Int32} (lv' : List (Nat × Value)) (d : decode cc pc = .ok (.istore i, 2)) (hn : i < nL) (hl : sv_of (sv_st1 lv i (.int x)) lv') (kk : sv_V p l e R s m args below meth c nL G Q k n Wd (pc + 2) lv' st) : sv_V p l e R s m args below meth c nL G Q k n Wd pc lv (.int x :: st) := fun H locs ls h1 h2 h3 => lv_istore C.1 C.2.1 d h3 hn rfl (fun ls' h3' => kk H locs ls' h1 h2 (sv_has_of h3' hl))
theorem sv_lstore_n (C : sv_C p l s m args meth c cc nL own G) {f : Fin 4} {i : Nat} {x : Int64} (lv' : List (Nat × Value)) (d : decode cc pc = .ok (.lstore_n f, 1)) (hi : (f : Nat) = i) (hn : i + 1 < nL) (hl : sv_of (sv_st2 lv i (.long x)) lv') (kk : sv_V p l e R s m args below meth c nL G Q k n Wd (pc + 1) lv' st) : sv_V p l e R s m args below meth c nL G Q k n Wd pc lv (.long x :: st) := fun H locs ls h1 h2 h3 => lv_lstore_n C.1 C.2.1 d hi h3 hn rfl (fun ls' h3' => kk H locs ls' h1 h2 (sv_has_of h3' hl))
theorem sv_lstore (C : sv_C p l s m args meth c cc nL own G) {i : Nat} {x : Int64} (lv' : List (Nat × Value)) (d : decode cc pc = .ok (.lstore i, 2)) (hn : i + 1 < nL) (hl : sv_of (sv_st2 lv i (.long x)) lv') (kk : sv_V p l e R s m args below meth c nL G Q k n Wd (pc + 2) lv' st) : sv_V p l e R s m args below meth c nL G Q k n Wd pc lv (.long x :: st) := fun H locs ls h1 h2 h3 => lv_lstore C.1 C.2.1 d h3 hn rfl (fun ls' h3' => kk H locs ls' h1 h2 (sv_has_of h3' hl))
theorem sv_astore_n (C : sv_C p l s m args meth c cc nL own G) {f : Fin 4} {i : Nat} {x : Nat} (lv' : List (Nat × Value)) (d : decode cc pc = .ok (.astore_n f, 1)) (hi : (f : Nat) = i) (hn : i < nL) (hl : sv_of (sv_st1 lv i (.ref x)) lv') (kk : sv_V p l e R s m args below meth c nL G Q k n Wd (pc + 1) lv' st) : sv_V p l e R s m args below meth c nL G Q k n Wd pc lv (.ref x :: st) := fun H locs ls h1 h2 h3 => lv_astore_n C.1 C.2.1 d hi h3 hn rfl (fun ls' h3' => kk H locs ls' h1 h2 (sv_has_of h3' hl))
theorem sv_astore (C : sv_C p l s m args meth c cc nL own G) {i : Nat} {x : Nat} (lv' : List (Nat × Value)) (d : decode cc pc = .ok (.astore i, 2)) (hn : i < nL) (hl : sv_of (sv_st1 lv i (.ref x)) lv') (kk : sv_V p l e R s m args below meth c nL G Q k n Wd (pc + 2) lv' st) : sv_V p l e R s m args below meth c nL G Q k n Wd pc lv (.ref x :: st) := fun H locs ls h1 h2 h3 => lv_astore C.1 C.2.1 d h3 hn rfl (fun ls' h3' => kk H locs ls' h1 h2 (sv_has_of h3' hl))
theorem sv_dstore_n (C : sv_C p l s m args meth c cc nL own G) {f : Fin 4} {i : Nat} {x : UInt64} (lv' : List (Nat × Value)) (d : decode cc pc = .ok (.dstore_n f, 1)) (hi : (f : Nat) = i) (hn : i + 1 < nL) (hl : sv_of (sv_st2 lv i (.double x)) lv') (kk : sv_V p l e R s m args below meth c nL G Q k n Wd (pc + 1) lv' st) : sv_V p l e R s m args below meth c nL G Q k n Wd pc lv (.double x :: st) := fun H locs ls h1 h2 h3 => lv_dstore_n C.1 C.2.1 d hi h3 hn rfl (fun ls' h3' => kk H locs ls' h1 h2 (sv_has_of h3' hl))
theorem sv_dstore (C : sv_C p l s m args meth c cc nL own G) {i : Nat} {x : UInt64} (lv' : List (Nat × Value)) (d : decode cc pc = .ok (.dstore i, 2)) (hn : i + 1 < nL) (hl : sv_of (sv_st2 lv i (.double x)) lv') (kk : sv_V p l e R s m args below meth c nL G Q k n Wd (pc + 2) lv' st) : sv_V p l e R s m args below meth c nL G Q k n Wd pc lv (.double x :: st) := fun H locs ls h1 h2 h3 => lv_dstore C.1 C.2.1 d h3 hn rfl (fun ls' h3' => kk H locs ls' h1 h2 (sv_has_of h3' hl))
theorem sv_iinc (C : sv_C p l s m args meth c cc nL own G) {i : Nat} {y : Int} {x : Int32} (v : Int32) (lv' : List (Nat × Value)) (d : decode cc pc = .ok (.iinc i y, 3)) (hg : sv_get lv i = some (.int x)) (hv : x + Int32.ofInt y = v) (hn : i < nL) (hl : sv_of (sv_st1 lv i (.int v)) lv') (kk : sv_V p l e R s m args below meth c nL G Q k n Wd (pc + 3) lv' st) : sv_V p l e R s m args below meth c nL G Q k n Wd pc lv st := fun H locs ls h1 h2 h3 => by
  obtain ⟨j, hj⟩ := List.getElem?_of_mem (sv_get_mem hg)
  exact lv_iinc C.1 C.2.1 d h3 hj hv hn rfl (fun ls' h3' => kk H locs ls' h1 h2 (sv_has_of h3' hl))
theorem sv_iadd (C : sv_C p l s m args meth c cc nL own G) {x y : Int32} (d : decode cc pc = .ok (.iadd, 1)) (kk : sv_V p l e R s m args below meth c nL G Q k n Wd (pc + 1) lv (.int (x + y) :: st)) : sv_V p l e R s m args below meth c nL G Q k n Wd pc lv (.int y :: .int x :: st) := fun H locs ls h1 h2 h3 => lv_iadd C.1 C.2.1 d (kk H locs ls h1 h2 h3)
theorem sv_isub (C : sv_C p l s m args meth c cc nL own G) {x y : Int32} (d : decode cc pc = .ok (.isub, 1)) (kk : sv_V p l e R s m args below meth c nL G Q k n Wd (pc + 1) lv (.int (x - y) :: st)) : sv_V p l e R s m args below meth c nL G Q k n Wd pc lv (.int y :: .int x :: st) := fun H locs ls h1 h2 h3 => lv_isub C.1 C.2.1 d (kk H locs ls h1 h2 h3)
theorem sv_imul (C : sv_C p l s m args meth c cc nL own G) {x y : Int32} (d : decode cc pc = .ok (.imul, 1)) (kk : sv_V p l e R s m args below meth c nL G Q k n Wd (pc + 1) lv (.int (x * y) :: st)) : sv_V p l e R s m args below meth c nL G Q k n Wd pc lv (.int y :: .int x :: st) := fun H locs ls h1 h2 h3 => lv_imul C.1 C.2.1 d (kk H locs ls h1 h2 h3)
theorem sv_iand (C : sv_C p l s m args meth c cc nL own G) {x y : Int32} (d : decode cc pc = .ok (.iand, 1)) (kk : sv_V p l e R s m args below meth c nL G Q k n Wd (pc + 1) lv (.int (x &&& y) :: st)) : sv_V p l e R s m args below meth c nL G Q k n Wd pc lv (.int y :: .int x :: st) := fun H locs ls h1 h2 h3 => lv_iand C.1 C.2.1 d (kk H locs ls h1 h2 h3)
theorem sv_ladd (C : sv_C p l s m args meth c cc nL own G) {x y : Int64} (d : decode cc pc = .ok (.ladd, 1)) (kk : sv_V p l e R s m args below meth c nL G Q k n Wd (pc + 1) lv (.long (x + y) :: st)) : sv_V p l e R s m args below meth c nL G Q k n Wd pc lv (.long y :: .long x :: st) := fun H locs ls h1 h2 h3 => lv_ladd C.1 C.2.1 d (kk H locs ls h1 h2 h3)
theorem sv_lmul (C : sv_C p l s m args meth c cc nL own G) {x y : Int64} (d : decode cc pc = .ok (.lmul, 1)) (kk : sv_V p l e R s m args below meth c nL G Q k n Wd (pc + 1) lv (.long (x * y) :: st)) : sv_V p l e R s m args below meth c nL G Q k n Wd pc lv (.long y :: .long x :: st) := fun H locs ls h1 h2 h3 => lv_lmul C.1 C.2.1 d (kk H locs ls h1 h2 h3)
theorem sv_idiv (C : sv_C p l s m args meth c cc nL own G) {x y : Int32} (d : decode cc pc = .ok (.idiv, 1)) (hne : ¬ y = 0) (kk : sv_V p l e R s m args below meth c nL G Q k n Wd (pc + 1) lv (.int (x / y) :: st)) : sv_V p l e R s m args below meth c nL G Q k n Wd pc lv (.int y :: .int x :: st) := fun H locs ls h1 h2 h3 => lv_idiv C.1 C.2.1 d hne (kk H locs ls h1 h2 h3)
theorem sv_irem (C : sv_C p l s m args meth c cc nL own G) {x y : Int32} (d : decode cc pc = .ok (.irem, 1)) (hne : ¬ y = 0) (kk : sv_V p l e R s m args below meth c nL G Q k n Wd (pc + 1) lv (.int (x - x / y * y) :: st)) : sv_V p l e R s m args below meth c nL G Q k n Wd pc lv (.int y :: .int x :: st) := fun H locs ls h1 h2 h3 => lv_irem C.1 C.2.1 d hne (kk H locs ls h1 h2 h3)
theorem sv_i2l (C : sv_C p l s m args meth c cc nL own G) {x : Int32} (d : decode cc pc = .ok (.i2l, 1)) (kk : sv_V p l e R s m args below meth c nL G Q k n Wd (pc + 1) lv (.long x.toInt64 :: st)) : sv_V p l e R s m args below meth c nL G Q k n Wd pc lv (.int x :: st) := fun H locs ls h1 h2 h3 => lv_i2l C.1 C.2.1 d rfl (kk H locs ls h1 h2 h3)
theorem sv_i2c (C : sv_C p l s m args meth c cc nL own G) {x : Int32} (d : decode cc pc = .ok (.i2c, 1)) (kk : sv_V p l e R s m args below meth c nL G Q k n Wd (pc + 1) lv (.int (x.toUInt32 % 65536).toInt32 :: st)) : sv_V p l e R s m args below meth c nL G Q k n Wd pc lv (.int x :: st) := fun H locs ls h1 h2 h3 => lv_i2c C.1 C.2.1 d rfl (kk H locs ls h1 h2 h3)
theorem sv_lshl (C : sv_C p l s m args meth c cc nL own G) {x : Int64} {y : Int32} (d : decode cc pc = .ok (.lshl, 1)) (kk : sv_V p l e R s m args below meth c nL G Q k n Wd (pc + 1) lv (.long (x <<< (y.toInt64 &&& 63)) :: st)) : sv_V p l e R s m args below meth c nL G Q k n Wd pc lv (.int y :: .long x :: st) := fun H locs ls h1 h2 h3 => lv_lshl C.1 C.2.1 d rfl (kk H locs ls h1 h2 h3)
theorem sv_i2d (C : sv_C p l s m args meth c cc nL own G) {x : Int32} (d : decode cc pc = .ok (.i2d, 1)) (kk : sv_V p l e R s m args below meth c nL G Q k n Wd (pc + 1) lv (.double (FP.i2d x) :: st)) : sv_V p l e R s m args below meth c nL G Q k n Wd pc lv (.int x :: st) := fun H locs ls h1 h2 h3 => lv_i2d C.1 C.2.1 d (kk H locs ls h1 h2 h3)
theorem sv_d2l (C : sv_C p l s m args meth c cc nL own G) {x : UInt64} (d : decode cc pc = .ok (.d2l, 1)) (kk : sv_V p l e R s m args below meth c nL G Q k n Wd (pc + 1) lv (.long (FP.d2l x) :: st)) : sv_V p l e R s m args below meth c nL G Q k n Wd pc lv (.double x :: st) := fun H locs ls h1 h2 h3 => lv_d2l C.1 C.2.1 d (kk H locs ls h1 h2 h3)
theorem sv_ddiv (C : sv_C p l s m args meth c cc nL own G) {x y : UInt64} (d : decode cc pc = .ok (.ddiv, 1)) (hne : vf_n64 (FP.ddiv x y)) (kk : sv_V p l e R s m args below meth c nL G Q k n Wd (pc + 1) lv (.double (FP.ddiv x y) :: st)) : sv_V p l e R s m args below meth c nL G Q k n Wd pc lv (.double y :: .double x :: st) := fun H locs ls h1 h2 h3 => lv_ddiv C.1 C.2.1 d hne (kk H locs ls h1 h2 h3)
theorem sv_dmul (C : sv_C p l s m args meth c cc nL own G) {x y : UInt64} (d : decode cc pc = .ok (.dmul, 1)) (hne : vf_n64 (FP.dmul x y)) (kk : sv_V p l e R s m args below meth c nL G Q k n Wd (pc + 1) lv (.double (FP.dmul x y) :: st)) : sv_V p l e R s m args below meth c nL G Q k n Wd pc lv (.double y :: .double x :: st) := fun H locs ls h1 h2 h3 => lv_dmul C.1 C.2.1 d hne (kk H locs ls h1 h2 h3)
theorem sv_dsub (C : sv_C p l s m args meth c cc nL own G) {x y : UInt64} (d : decode cc pc = .ok (.dsub, 1)) (hne : vf_n64 (FP.dsub x y)) (kk : sv_V p l e R s m args below meth c nL G Q k n Wd (pc + 1) lv (.double (FP.dsub x y) :: st)) : sv_V p l e R s m args below meth c nL G Q k n Wd pc lv (.double y :: .double x :: st) := fun H locs ls h1 h2 h3 => lv_dsub C.1 C.2.1 d hne (kk H locs ls h1 h2 h3)
theorem sv_dcmp (C : sv_C p l s m args meth c cc nL own G) {x y : UInt64} {op : CmpOp} (d : decode cc pc = .ok (.dcmp op, 1)) (kk : sv_V p l e R s m args below meth c nL G Q k n Wd (pc + 1) lv (.int (Op.cmpValue (FP.dcmp x y) op) :: st)) : sv_V p l e R s m args below meth c nL G Q k n Wd pc lv (.double y :: .double x :: st) := fun H locs ls h1 h2 h3 => lv_dcmp C.1 C.2.1 d (kk H locs ls h1 h2 h3)
theorem sv_dup (C : sv_C p l s m args meth c cc nL own G) {v : Value} (d : decode cc pc = .ok (.dup, 1)) (hv : v.category = 1) (kk : sv_V p l e R s m args below meth c nL G Q k n Wd (pc + 1) lv (v :: v :: st)) : sv_V p l e R s m args below meth c nL G Q k n Wd pc lv (v :: st) := fun H locs ls h1 h2 h3 => lv_dup C.1 C.2.1 d hv (kk H locs ls h1 h2 h3)
theorem sv_pop (C : sv_C p l s m args meth c cc nL own G) {v : Value} (d : decode cc pc = .ok (.pop, 1)) (hv : v.category = 1) (kk : sv_V p l e R s m args below meth c nL G Q k n Wd (pc + 1) lv (st)) : sv_V p l e R s m args below meth c nL G Q k n Wd pc lv (v :: st) := fun H locs ls h1 h2 h3 => lv_pop C.1 C.2.1 d hv (kk H locs ls h1 h2 h3)
theorem sv_dup2_11 (C : sv_C p l s m args meth c cc nL own G) {va vb : Value} (d : decode cc pc = .ok (.dup2, 1)) (hva : va.category = 1) (hvb : vb.category = 1) (kk : sv_V p l e R s m args below meth c nL G Q k n Wd (pc + 1) lv (va :: vb :: va :: vb :: st)) : sv_V p l e R s m args below meth c nL G Q k n Wd pc lv (va :: vb :: st) := fun H locs ls h1 h2 h3 => lv_dup2_11 C.1 C.2.1 d hva hvb (kk H locs ls h1 h2 h3)
theorem sv_goto (C : sv_C p l s m args meth c cc nL own G) {off : Int} (tgt : Nat) (d : decode cc pc = .ok (.goto off, 3)) (ht : (pc : Int) + off = (tgt : Int)) (kk : sv_V p l e R s m args below meth c nL G Q k n Wd tgt lv (st)) : sv_V p l e R s m args below meth c nL G Q k n Wd pc lv (st) := fun H locs ls h1 h2 h3 => lv_goto C.1 C.2.1 d ht (kk H locs ls h1 h2 h3)
theorem sv_if_eq (C : sv_C p l s m args meth c cc nL own G) {x : Int32} {off : Int} (tgt : Nat) (d : decode cc pc = .ok (.ifCond .eq off, 3)) (ht : (pc : Int) + off = (tgt : Int)) (kt : x = 0 → sv_V p l e R s m args below meth c nL G Q k n Wd tgt lv st) (kf : ¬ x = 0 → sv_V p l e R s m args below meth c nL G Q k n Wd (pc + 3) lv st) : sv_V p l e R s m args below meth c nL G Q k n Wd pc lv (.int x :: st) := fun H locs ls h1 h2 h3 => lv_if_eq C.1 C.2.1 d ht (fun q => kt q H locs ls h1 h2 h3) (fun q => kf q H locs ls h1 h2 h3)
theorem sv_icmp_eq (C : sv_C p l s m args meth c cc nL own G) {x y : Int32} {off : Int} (tgt : Nat) (d : decode cc pc = .ok (.if_icmp .eq off, 3)) (ht : (pc : Int) + off = (tgt : Int)) (kt : x = y → sv_V p l e R s m args below meth c nL G Q k n Wd tgt lv st) (kf : ¬ x = y → sv_V p l e R s m args below meth c nL G Q k n Wd (pc + 3) lv st) : sv_V p l e R s m args below meth c nL G Q k n Wd pc lv (.int y :: .int x :: st) := fun H locs ls h1 h2 h3 => lv_icmp_eq C.1 C.2.1 d ht (fun q => kt q H locs ls h1 h2 h3) (fun q => kf q H locs ls h1 h2 h3)
theorem sv_sel_if_eq (C : sv_C p l s m args meth c cc nL own G) {x : Int32} {off off2 : Int} {xa xb : Int} {va vb : Int32} (tgt : Nat) (d : decode cc pc = .ok (.ifCond .eq off, 3)) (ht : (pc : Int) + off = (tgt : Int)) (d1 : decode cc (pc + 3) = .ok (.iconst xa, 1)) (ha : Int32.ofInt xa = va) (d2 : decode cc (pc + 4) = .ok (.goto off2, 3)) (ht2 : ((pc + 4 : Nat) : Int) + off2 = ((tgt + 1 : Nat) : Int)) (d3 : decode cc tgt = .ok (.iconst xb, 1)) (hb : Int32.ofInt xb = vb) (kk : sv_V p l e R s m args below meth c nL G Q k n Wd (tgt + 1) lv (.int (if x = 0 then vb else va) :: st)) : sv_V p l e R s m args below meth c nL G Q k n Wd pc lv (.int x :: st) := sv_if_eq C tgt d ht (fun q => sv_iconst C d3 hb (by rw [if_pos q] at kk; exact kk)) (fun q => sv_iconst C d1 ha (sv_goto C (tgt + 1) d2 ht2 (by rw [if_neg q] at kk; exact kk)))
theorem sv_sel_icmp_eq (C : sv_C p l s m args meth c cc nL own G) {x y : Int32} {off off2 : Int} {xa xb : Int} {va vb : Int32} (tgt : Nat) (d : decode cc pc = .ok (.if_icmp .eq off, 3)) (ht : (pc : Int) + off = (tgt : Int)) (d1 : decode cc (pc + 3) = .ok (.iconst xa, 1)) (ha : Int32.ofInt xa = va) (d2 : decode cc (pc + 4) = .ok (.goto off2, 3)) (ht2 : ((pc + 4 : Nat) : Int) + off2 = ((tgt + 1 : Nat) : Int)) (d3 : decode cc tgt = .ok (.iconst xb, 1)) (hb : Int32.ofInt xb = vb) (kk : sv_V p l e R s m args below meth c nL G Q k n Wd (tgt + 1) lv (.int (if x = y then vb else va) :: st)) : sv_V p l e R s m args below meth c nL G Q k n Wd pc lv (.int y :: .int x :: st) := sv_icmp_eq C tgt d ht (fun q => sv_iconst C d3 hb (by rw [if_pos q] at kk; exact kk)) (fun q => sv_iconst C d1 ha (sv_goto C (tgt + 1) d2 ht2 (by rw [if_neg q] at kk; exact kk)))
theorem sv_if_ne (C : sv_C p l s m args meth c cc nL own G) {x : Int32} {off : Int} (tgt : Nat) (d : decode cc pc = .ok (.ifCond .ne off, 3)) (ht : (pc : Int) + off = (tgt : Int)) (kt : ¬ x = 0 → sv_V p l e R s m args below meth c nL G Q k n Wd tgt lv st) (kf : x = 0 → sv_V p l e R s m args below meth c nL G Q k n Wd (pc + 3) lv st) : sv_V p l e R s m args below meth c nL G Q k n Wd pc lv (.int x :: st) := fun H locs ls h1 h2 h3 => lv_if_ne C.1 C.2.1 d ht (fun q => kt q H locs ls h1 h2 h3) (fun q => kf q H locs ls h1 h2 h3)
theorem sv_icmp_ne (C : sv_C p l s m args meth c cc nL own G) {x y : Int32} {off : Int} (tgt : Nat) (d : decode cc pc = .ok (.if_icmp .ne off, 3)) (ht : (pc : Int) + off = (tgt : Int)) (kt : ¬ x = y → sv_V p l e R s m args below meth c nL G Q k n Wd tgt lv st) (kf : x = y → sv_V p l e R s m args below meth c nL G Q k n Wd (pc + 3) lv st) : sv_V p l e R s m args below meth c nL G Q k n Wd pc lv (.int y :: .int x :: st) := fun H locs ls h1 h2 h3 => lv_icmp_ne C.1 C.2.1 d ht (fun q => kt q H locs ls h1 h2 h3) (fun q => kf q H locs ls h1 h2 h3)
theorem sv_sel_if_ne (C : sv_C p l s m args meth c cc nL own G) {x : Int32} {off off2 : Int} {xa xb : Int} {va vb : Int32} (tgt : Nat) (d : decode cc pc = .ok (.ifCond .ne off, 3)) (ht : (pc : Int) + off = (tgt : Int)) (d1 : decode cc (pc + 3) = .ok (.iconst xa, 1)) (ha : Int32.ofInt xa = va) (d2 : decode cc (pc + 4) = .ok (.goto off2, 3)) (ht2 : ((pc + 4 : Nat) : Int) + off2 = ((tgt + 1 : Nat) : Int)) (d3 : decode cc tgt = .ok (.iconst xb, 1)) (hb : Int32.ofInt xb = vb) (kk : sv_V p l e R s m args below meth c nL G Q k n Wd (tgt + 1) lv (.int (if ¬ x = 0 then vb else va) :: st)) : sv_V p l e R s m args below meth c nL G Q k n Wd pc lv (.int x :: st) := sv_if_ne C tgt d ht (fun q => sv_iconst C d3 hb (by rw [if_pos q] at kk; exact kk)) (fun q => sv_iconst C d1 ha (sv_goto C (tgt + 1) d2 ht2 (by rw [if_neg (fun h => h q)] at kk; exact kk)))
theorem sv_sel_icmp_ne (C : sv_C p l s m args meth c cc nL own G) {x y : Int32} {off off2 : Int} {xa xb : Int} {va vb : Int32} (tgt : Nat) (d : decode cc pc = .ok (.if_icmp .ne off, 3)) (ht : (pc : Int) + off = (tgt : Int)) (d1 : decode cc (pc + 3) = .ok (.iconst xa, 1)) (ha : Int32.ofInt xa = va) (d2 : decode cc (pc + 4) = .ok (.goto off2, 3)) (ht2 : ((pc + 4 : Nat) : Int) + off2 = ((tgt + 1 : Nat) : Int)) (d3 : decode cc tgt = .ok (.iconst xb, 1)) (hb : Int32.ofInt xb = vb) (kk : sv_V p l e R s m args below meth c nL G Q k n Wd (tgt + 1) lv (.int (if ¬ x = y then vb else va) :: st)) : sv_V p l e R s m args below meth c nL G Q k n Wd pc lv (.int y :: .int x :: st) := sv_icmp_ne C tgt d ht (fun q => sv_iconst C d3 hb (by rw [if_pos q] at kk; exact kk)) (fun q => sv_iconst C d1 ha (sv_goto C (tgt + 1) d2 ht2 (by rw [if_neg (fun h => h q)] at kk; exact kk)))
theorem sv_if_lt (C : sv_C p l s m args meth c cc nL own G) {x : Int32} {off : Int} (tgt : Nat) (d : decode cc pc = .ok (.ifCond .lt off, 3)) (ht : (pc : Int) + off = (tgt : Int)) (kt : x < 0 → sv_V p l e R s m args below meth c nL G Q k n Wd tgt lv st) (kf : ¬ x < 0 → sv_V p l e R s m args below meth c nL G Q k n Wd (pc + 3) lv st) : sv_V p l e R s m args below meth c nL G Q k n Wd pc lv (.int x :: st) := fun H locs ls h1 h2 h3 => lv_if_lt C.1 C.2.1 d ht (fun q => kt q H locs ls h1 h2 h3) (fun q => kf q H locs ls h1 h2 h3)
theorem sv_icmp_lt (C : sv_C p l s m args meth c cc nL own G) {x y : Int32} {off : Int} (tgt : Nat) (d : decode cc pc = .ok (.if_icmp .lt off, 3)) (ht : (pc : Int) + off = (tgt : Int)) (kt : x < y → sv_V p l e R s m args below meth c nL G Q k n Wd tgt lv st) (kf : ¬ x < y → sv_V p l e R s m args below meth c nL G Q k n Wd (pc + 3) lv st) : sv_V p l e R s m args below meth c nL G Q k n Wd pc lv (.int y :: .int x :: st) := fun H locs ls h1 h2 h3 => lv_icmp_lt C.1 C.2.1 d ht (fun q => kt q H locs ls h1 h2 h3) (fun q => kf q H locs ls h1 h2 h3)
theorem sv_sel_if_lt (C : sv_C p l s m args meth c cc nL own G) {x : Int32} {off off2 : Int} {xa xb : Int} {va vb : Int32} (tgt : Nat) (d : decode cc pc = .ok (.ifCond .lt off, 3)) (ht : (pc : Int) + off = (tgt : Int)) (d1 : decode cc (pc + 3) = .ok (.iconst xa, 1)) (ha : Int32.ofInt xa = va) (d2 : decode cc (pc + 4) = .ok (.goto off2, 3)) (ht2 : ((pc + 4 : Nat) : Int) + off2 = ((tgt + 1 : Nat) : Int)) (d3 : decode cc tgt = .ok (.iconst xb, 1)) (hb : Int32.ofInt xb = vb) (kk : sv_V p l e R s m args below meth c nL G Q k n Wd (tgt + 1) lv (.int (if x < 0 then vb else va) :: st)) : sv_V p l e R s m args below meth c nL G Q k n Wd pc lv (.int x :: st) := sv_if_lt C tgt d ht (fun q => sv_iconst C d3 hb (by rw [if_pos q] at kk; exact kk)) (fun q => sv_iconst C d1 ha (sv_goto C (tgt + 1) d2 ht2 (by rw [if_neg q] at kk; exact kk)))
theorem sv_sel_icmp_lt (C : sv_C p l s m args meth c cc nL own G) {x y : Int32} {off off2 : Int} {xa xb : Int} {va vb : Int32} (tgt : Nat) (d : decode cc pc = .ok (.if_icmp .lt off, 3)) (ht : (pc : Int) + off = (tgt : Int)) (d1 : decode cc (pc + 3) = .ok (.iconst xa, 1)) (ha : Int32.ofInt xa = va) (d2 : decode cc (pc + 4) = .ok (.goto off2, 3)) (ht2 : ((pc + 4 : Nat) : Int) + off2 = ((tgt + 1 : Nat) : Int)) (d3 : decode cc tgt = .ok (.iconst xb, 1)) (hb : Int32.ofInt xb = vb) (kk : sv_V p l e R s m args below meth c nL G Q k n Wd (tgt + 1) lv (.int (if x < y then vb else va) :: st)) : sv_V p l e R s m args below meth c nL G Q k n Wd pc lv (.int y :: .int x :: st) := sv_icmp_lt C tgt d ht (fun q => sv_iconst C d3 hb (by rw [if_pos q] at kk; exact kk)) (fun q => sv_iconst C d1 ha (sv_goto C (tgt + 1) d2 ht2 (by rw [if_neg q] at kk; exact kk)))
theorem sv_if_ge (C : sv_C p l s m args meth c cc nL own G) {x : Int32} {off : Int} (tgt : Nat) (d : decode cc pc = .ok (.ifCond .ge off, 3)) (ht : (pc : Int) + off = (tgt : Int)) (kt : 0 ≤ x → sv_V p l e R s m args below meth c nL G Q k n Wd tgt lv st) (kf : ¬ 0 ≤ x → sv_V p l e R s m args below meth c nL G Q k n Wd (pc + 3) lv st) : sv_V p l e R s m args below meth c nL G Q k n Wd pc lv (.int x :: st) := fun H locs ls h1 h2 h3 => lv_if_ge C.1 C.2.1 d ht (fun q => kt q H locs ls h1 h2 h3) (fun q => kf q H locs ls h1 h2 h3)
theorem sv_icmp_ge (C : sv_C p l s m args meth c cc nL own G) {x y : Int32} {off : Int} (tgt : Nat) (d : decode cc pc = .ok (.if_icmp .ge off, 3)) (ht : (pc : Int) + off = (tgt : Int)) (kt : y ≤ x → sv_V p l e R s m args below meth c nL G Q k n Wd tgt lv st) (kf : ¬ y ≤ x → sv_V p l e R s m args below meth c nL G Q k n Wd (pc + 3) lv st) : sv_V p l e R s m args below meth c nL G Q k n Wd pc lv (.int y :: .int x :: st) := fun H locs ls h1 h2 h3 => lv_icmp_ge C.1 C.2.1 d ht (fun q => kt q H locs ls h1 h2 h3) (fun q => kf q H locs ls h1 h2 h3)
theorem sv_sel_if_ge (C : sv_C p l s m args meth c cc nL own G) {x : Int32} {off off2 : Int} {xa xb : Int} {va vb : Int32} (tgt : Nat) (d : decode cc pc = .ok (.ifCond .ge off, 3)) (ht : (pc : Int) + off = (tgt : Int)) (d1 : decode cc (pc + 3) = .ok (.iconst xa, 1)) (ha : Int32.ofInt xa = va) (d2 : decode cc (pc + 4) = .ok (.goto off2, 3)) (ht2 : ((pc + 4 : Nat) : Int) + off2 = ((tgt + 1 : Nat) : Int)) (d3 : decode cc tgt = .ok (.iconst xb, 1)) (hb : Int32.ofInt xb = vb) (kk : sv_V p l e R s m args below meth c nL G Q k n Wd (tgt + 1) lv (.int (if 0 ≤ x then vb else va) :: st)) : sv_V p l e R s m args below meth c nL G Q k n Wd pc lv (.int x :: st) := sv_if_ge C tgt d ht (fun q => sv_iconst C d3 hb (by rw [if_pos q] at kk; exact kk)) (fun q => sv_iconst C d1 ha (sv_goto C (tgt + 1) d2 ht2 (by rw [if_neg q] at kk; exact kk)))
theorem sv_sel_icmp_ge (C : sv_C p l s m args meth c cc nL own G) {x y : Int32} {off off2 : Int} {xa xb : Int} {va vb : Int32} (tgt : Nat) (d : decode cc pc = .ok (.if_icmp .ge off, 3)) (ht : (pc : Int) + off = (tgt : Int)) (d1 : decode cc (pc + 3) = .ok (.iconst xa, 1)) (ha : Int32.ofInt xa = va) (d2 : decode cc (pc + 4) = .ok (.goto off2, 3)) (ht2 : ((pc + 4 : Nat) : Int) + off2 = ((tgt + 1 : Nat) : Int)) (d3 : decode cc tgt = .ok (.iconst xb, 1)) (hb : Int32.ofInt xb = vb) (kk : sv_V p l e R s m args below meth c nL G Q k n Wd (tgt + 1) lv (.int (if y ≤ x then vb else va) :: st)) : sv_V p l e R s m args below meth c nL G Q k n Wd pc lv (.int y :: .int x :: st) := sv_icmp_ge C tgt d ht (fun q => sv_iconst C d3 hb (by rw [if_pos q] at kk; exact kk)) (fun q => sv_iconst C d1 ha (sv_goto C (tgt + 1) d2 ht2 (by rw [if_neg q] at kk; exact kk)))
theorem sv_if_gt (C : sv_C p l s m args meth c cc nL own G) {x : Int32} {off : Int} (tgt : Nat) (d : decode cc pc = .ok (.ifCond .gt off, 3)) (ht : (pc : Int) + off = (tgt : Int)) (kt : 0 < x → sv_V p l e R s m args below meth c nL G Q k n Wd tgt lv st) (kf : ¬ 0 < x → sv_V p l e R s m args below meth c nL G Q k n Wd (pc + 3) lv st) : sv_V p l e R s m args below meth c nL G Q k n Wd pc lv (.int x :: st) := fun H locs ls h1 h2 h3 => lv_if_gt C.1 C.2.1 d ht (fun q => kt q H locs ls h1 h2 h3) (fun q => kf q H locs ls h1 h2 h3)
theorem sv_icmp_gt (C : sv_C p l s m args meth c cc nL own G) {x y : Int32} {off : Int} (tgt : Nat) (d : decode cc pc = .ok (.if_icmp .gt off, 3)) (ht : (pc : Int) + off = (tgt : Int)) (kt : y < x → sv_V p l e R s m args below meth c nL G Q k n Wd tgt lv st) (kf : ¬ y < x → sv_V p l e R s m args below meth c nL G Q k n Wd (pc + 3) lv st) : sv_V p l e R s m args below meth c nL G Q k n Wd pc lv (.int y :: .int x :: st) := fun H locs ls h1 h2 h3 => lv_icmp_gt C.1 C.2.1 d ht (fun q => kt q H locs ls h1 h2 h3) (fun q => kf q H locs ls h1 h2 h3)
theorem sv_sel_if_gt (C : sv_C p l s m args meth c cc nL own G) {x : Int32} {off off2 : Int} {xa xb : Int} {va vb : Int32} (tgt : Nat) (d : decode cc pc = .ok (.ifCond .gt off, 3)) (ht : (pc : Int) + off = (tgt : Int)) (d1 : decode cc (pc + 3) = .ok (.iconst xa, 1)) (ha : Int32.ofInt xa = va) (d2 : decode cc (pc + 4) = .ok (.goto off2, 3)) (ht2 : ((pc + 4 : Nat) : Int) + off2 = ((tgt + 1 : Nat) : Int)) (d3 : decode cc tgt = .ok (.iconst xb, 1)) (hb : Int32.ofInt xb = vb) (kk : sv_V p l e R s m args below meth c nL G Q k n Wd (tgt + 1) lv (.int (if 0 < x then vb else va) :: st)) : sv_V p l e R s m args below meth c nL G Q k n Wd pc lv (.int x :: st) := sv_if_gt C tgt d ht (fun q => sv_iconst C d3 hb (by rw [if_pos q] at kk; exact kk)) (fun q => sv_iconst C d1 ha (sv_goto C (tgt + 1) d2 ht2 (by rw [if_neg q] at kk; exact kk)))
theorem sv_sel_icmp_gt (C : sv_C p l s m args meth c cc nL own G) {x y : Int32} {off off2 : Int} {xa xb : Int} {va vb : Int32} (tgt : Nat) (d : decode cc pc = .ok (.if_icmp .gt off, 3)) (ht : (pc : Int) + off = (tgt : Int)) (d1 : decode cc (pc + 3) = .ok (.iconst xa, 1)) (ha : Int32.ofInt xa = va) (d2 : decode cc (pc + 4) = .ok (.goto off2, 3)) (ht2 : ((pc + 4 : Nat) : Int) + off2 = ((tgt + 1 : Nat) : Int)) (d3 : decode cc tgt = .ok (.iconst xb, 1)) (hb : Int32.ofInt xb = vb) (kk : sv_V p l e R s m args below meth c nL G Q k n Wd (tgt + 1) lv (.int (if y < x then vb else va) :: st)) : sv_V p l e R s m args below meth c nL G Q k n Wd pc lv (.int y :: .int x :: st) := sv_icmp_gt C tgt d ht (fun q => sv_iconst C d3 hb (by rw [if_pos q] at kk; exact kk)) (fun q => sv_iconst C d1 ha (sv_goto C (tgt + 1) d2 ht2 (by rw [if_neg q] at kk; exact kk)))
theorem sv_if_le (C : sv_C p l s m args meth c cc nL own G) {x : Int32} {off : Int} (tgt : Nat) (d : decode cc pc = .ok (.ifCond .le off, 3)) (ht : (pc : Int) + off = (tgt : Int)) (kt : x ≤ 0 → sv_V p l e R s m args below meth c nL G Q k n Wd tgt lv st) (kf : ¬ x ≤ 0 → sv_V p l e R s m args below meth c nL G Q k n Wd (pc + 3) lv st) : sv_V p l e R s m args below meth c nL G Q k n Wd pc lv (.int x :: st) := fun H locs ls h1 h2 h3 => lv_if_le C.1 C.2.1 d ht (fun q => kt q H locs ls h1 h2 h3) (fun q => kf q H locs ls h1 h2 h3)
theorem sv_icmp_le (C : sv_C p l s m args meth c cc nL own G) {x y : Int32} {off : Int} (tgt : Nat) (d : decode cc pc = .ok (.if_icmp .le off, 3)) (ht : (pc : Int) + off = (tgt : Int)) (kt : x ≤ y → sv_V p l e R s m args below meth c nL G Q k n Wd tgt lv st) (kf : ¬ x ≤ y → sv_V p l e R s m args below meth c nL G Q k n Wd (pc + 3) lv st) : sv_V p l e R s m args below meth c nL G Q k n Wd pc lv (.int y :: .int x :: st) := fun H locs ls h1 h2 h3 => lv_icmp_le C.1 C.2.1 d ht (fun q => kt q H locs ls h1 h2 h3) (fun q => kf q H locs ls h1 h2 h3)
theorem sv_sel_if_le (C : sv_C p l s m args meth c cc nL own G) {x : Int32} {off off2 : Int} {xa xb : Int} {va vb : Int32} (tgt : Nat) (d : decode cc pc = .ok (.ifCond .le off, 3)) (ht : (pc : Int) + off = (tgt : Int)) (d1 : decode cc (pc + 3) = .ok (.iconst xa, 1)) (ha : Int32.ofInt xa = va) (d2 : decode cc (pc + 4) = .ok (.goto off2, 3)) (ht2 : ((pc + 4 : Nat) : Int) + off2 = ((tgt + 1 : Nat) : Int)) (d3 : decode cc tgt = .ok (.iconst xb, 1)) (hb : Int32.ofInt xb = vb) (kk : sv_V p l e R s m args below meth c nL G Q k n Wd (tgt + 1) lv (.int (if x ≤ 0 then vb else va) :: st)) : sv_V p l e R s m args below meth c nL G Q k n Wd pc lv (.int x :: st) := sv_if_le C tgt d ht (fun q => sv_iconst C d3 hb (by rw [if_pos q] at kk; exact kk)) (fun q => sv_iconst C d1 ha (sv_goto C (tgt + 1) d2 ht2 (by rw [if_neg q] at kk; exact kk)))
theorem sv_sel_icmp_le (C : sv_C p l s m args meth c cc nL own G) {x y : Int32} {off off2 : Int} {xa xb : Int} {va vb : Int32} (tgt : Nat) (d : decode cc pc = .ok (.if_icmp .le off, 3)) (ht : (pc : Int) + off = (tgt : Int)) (d1 : decode cc (pc + 3) = .ok (.iconst xa, 1)) (ha : Int32.ofInt xa = va) (d2 : decode cc (pc + 4) = .ok (.goto off2, 3)) (ht2 : ((pc + 4 : Nat) : Int) + off2 = ((tgt + 1 : Nat) : Int)) (d3 : decode cc tgt = .ok (.iconst xb, 1)) (hb : Int32.ofInt xb = vb) (kk : sv_V p l e R s m args below meth c nL G Q k n Wd (tgt + 1) lv (.int (if x ≤ y then vb else va) :: st)) : sv_V p l e R s m args below meth c nL G Q k n Wd pc lv (.int y :: .int x :: st) := sv_icmp_le C tgt d ht (fun q => sv_iconst C d3 hb (by rw [if_pos q] at kk; exact kk)) (fun q => sv_iconst C d1 ha (sv_goto C (tgt + 1) d2 ht2 (by rw [if_neg q] at kk; exact kk)))
theorem sv_lcmp (C : sv_C p l s m args meth c cc nL own G) {x y : Int64} (d : decode cc pc = .ok (.lcmp, 1)) (kk : sv_V p l e R s m args below meth c nL G Q k n Wd (pc + 1) lv (.int (lg_cmp x y) :: st)) : sv_V p l e R s m args below meth c nL G Q k n Wd pc lv (.long y :: .long x :: st) := fun H locs ls h1 h2 h3 => W.lcmp C.1 C.2.1 d (kk H locs ls h1 h2 h3)
theorem sv_ifnull (C : sv_C p l s m args meth c cc nL own G) {x : Nat} {off : Int} (d : decode cc pc = .ok (.ifnull off, 3)) (kk : sv_V p l e R s m args below meth c nL G Q k n Wd (pc + 3) lv (st)) : sv_V p l e R s m args below meth c nL G Q k n Wd pc lv (.ref x :: st) := fun H locs ls h1 h2 h3 => lv_ifnull C.1 C.2.1 d (kk H locs ls h1 h2 h3)
theorem sv_ifnullN (C : sv_C p l s m args meth c cc nL own G) {off : Int} (tgt : Nat) (d : decode cc pc = .ok (.ifnull off, 3)) (ht : (pc : Int) + off = (tgt : Int)) (kk : sv_V p l e R s m args below meth c nL G Q k n Wd tgt lv (st)) : sv_V p l e R s m args below meth c nL G Q k n Wd pc lv (.null :: st) := fun H locs ls h1 h2 h3 => lv_ifnullN C.1 C.2.1 d ht (kk H locs ls h1 h2 h3)
theorem sv_tableIn (C : sv_C p l s m args meth c cc nL own G) {dflt lo hi : Int} {offs : Array Int} {len : Nat} {x : Int32} {off : Int} (tgt : Nat) (d : decode cc pc = .ok (.tableswitch dflt lo hi offs, len)) (a1 : ¬ x.toInt < lo) (a2 : ¬ hi < x.toInt) (ho : offs[(x.toInt - lo).toNat]? = some off) (ht : (pc : Int) + off = (tgt : Int)) (kk : sv_V p l e R s m args below meth c nL G Q k n Wd tgt lv (st)) : sv_V p l e R s m args below meth c nL G Q k n Wd pc lv (.int x :: st) := fun H locs ls h1 h2 h3 => lv_tableIn C.1 C.2.1 d a1 a2 ho ht (kk H locs ls h1 h2 h3)
theorem sv_tableOut (C : sv_C p l s m args meth c cc nL own G) {dflt lo hi : Int} {offs : Array Int} {len : Nat} {x : Int32} (tgt : Nat) (d : decode cc pc = .ok (.tableswitch dflt lo hi offs, len)) (ho : x.toInt < lo ∨ hi < x.toInt) (ht : (pc : Int) + dflt = (tgt : Int)) (kk : sv_V p l e R s m args below meth c nL G Q k n Wd tgt lv (st)) : sv_V p l e R s m args below meth c nL G Q k n Wd pc lv (.int x :: st) := fun H locs ls h1 h2 h3 => lv_tableOut C.1 C.2.1 d ho ht (kk H locs ls h1 h2 h3)
theorem sv_sub {lv' : List (Nat × Value)} (hl : sv_of lv lv') (kk : sv_V p l e R s m args below meth c nL G Q k n Wd pc lv' st) : sv_V p l e R s m args below meth c nL G Q k n Wd pc lv st := fun H locs ls h1 h2 h3 => kk H locs ls h1 h2 (sv_has_of h3 hl)
theorem sv_wd (h : ∀ H, Wd H → Wd' H) (kk : sv_V p l e R s m args below meth c nL G Q k n Wd' pc lv st) : sv_V p l e R s m args below meth c nL G Q k n Wd pc lv st := fun H locs ls h1 h2 h3 => kk H locs ls (h H h1) h2 h3
theorem sv_topi {v : Int32} (kk : ∀ x : Int32, x = v → sv_V p l e R s m args below meth c nL G Q k n Wd pc lv (.int x :: st)) : sv_V p l e R s m args below meth c nL G Q k n Wd pc lv (.int v :: st) := kk v rfl
theorem sv_topl {v : Int64} (kk : ∀ x : Int64, x = v → sv_V p l e R s m args below meth c nL G Q k n Wd pc lv (.long x :: st)) : sv_V p l e R s m args below meth c nL G Q k n Wd pc lv (.long v :: st) := kk v rfl
theorem sv_topd {v : UInt64} (kk : ∀ x : UInt64, x = v → sv_V p l e R s m args below meth c nL G Q k n Wd pc lv (.double x :: st)) : sv_V p l e R s m args below meth c nL G Q k n Wd pc lv (.double v :: st) := kk v rfl
theorem sv_set {v v' : Value} (h : v = v') (kk : sv_V p l e R s m args below meth c nL G Q k n Wd pc lv (v' :: st)) : sv_V p l e R s m args below meth c nL G Q k n Wd pc lv (v :: st) := h ▸ kk
end SVR
end
section
/-! rows that read and write a world -/
theorem sv_one {D : va_G} {q : Nat × va_E} {H : Heap} (h : va_at D vwCl q H) : va_P D vwCl [q] H := fun k r hk => by
  cases k with
  | zero => cases hk; exact h
  | succ k => cases hk
def sv_cls (ci : Nat) (Cn : String) (T : u_T) (N : Nat) : Prop := vwCl[ci]? = some (Cn, T, N) ∧ (∀ w ∈ u_ws Cn T N, w ∈ sv_tbl) ∧ (∃ ty0 : Nat → FieldType, ∀ k, k < N → parseFieldDescriptor (T k).2.2.1 = some (ty0 k)) ∧ (∀ a, a < N → ∀ b, b < N → a ≠ b → (T a).2.1 ≠ (T b).2.1)
set_option maxRecDepth 20000 in
theorem sv_lay0 : ∀ w ∈ u_ws RX0 TX0 6, w ∈ sv_tbl := List.forall_mem_cons.mpr ⟨kw_58, List.forall_mem_cons.mpr ⟨kw_60, List.forall_mem_cons.mpr ⟨kw_62, List.forall_mem_cons.mpr ⟨kw_64, List.forall_mem_cons.mpr ⟨kw_66, List.forall_mem_cons.mpr ⟨kw_68, fun _ h => nomatch h⟩⟩⟩⟩⟩⟩
theorem sv_cl0 : sv_cls 0 RX0 TX0 6 := ⟨rfl, sv_lay0, ⟨_, tyX0_ok⟩, nmX0⟩
set_option maxRecDepth 20000 in
theorem sv_lay1 : ∀ w ∈ u_ws RX1 TX1 3, w ∈ sv_tbl := List.forall_mem_cons.mpr ⟨kw_149, List.forall_mem_cons.mpr ⟨kw_151, List.forall_mem_cons.mpr ⟨kw_153, fun _ h => nomatch h⟩⟩⟩
theorem sv_cl1 : sv_cls 1 RX1 TX1 3 := ⟨rfl, sv_lay1, ⟨_, tyX1_ok⟩, nmX1⟩
set_option maxRecDepth 20000 in
theorem sv_lay2 : ∀ w ∈ u_ws RX2 TX2 6, w ∈ sv_tbl := List.forall_mem_cons.mpr ⟨kw_90, List.forall_mem_cons.mpr ⟨kw_92, List.forall_mem_cons.mpr ⟨kw_94, List.forall_mem_cons.mpr ⟨kw_96, List.forall_mem_cons.mpr ⟨kw_98, List.forall_mem_cons.mpr ⟨kw_100, fun _ h => nomatch h⟩⟩⟩⟩⟩⟩
theorem sv_cl2 : sv_cls 2 RX2 TX2 6 := ⟨rfl, sv_lay2, ⟨_, tyX2_ok⟩, nmX2⟩
set_option maxRecDepth 20000 in
theorem sv_lay3 : ∀ w ∈ u_ws RX3 TX3 7, w ∈ sv_tbl := List.forall_mem_cons.mpr ⟨kw_121, List.forall_mem_cons.mpr ⟨kw_123, List.forall_mem_cons.mpr ⟨kw_125, List.forall_mem_cons.mpr ⟨kw_127, List.forall_mem_cons.mpr ⟨kw_129, List.forall_mem_cons.mpr ⟨kw_131, List.forall_mem_cons.mpr ⟨kw_133, fun _ h => nomatch h⟩⟩⟩⟩⟩⟩⟩
theorem sv_cl3 : sv_cls 3 RX3 TX3 7 := ⟨rfl, sv_lay3, ⟨_, tyX3_ok⟩, nmX3⟩
set_option maxRecDepth 20000 in
theorem sv_lay4 : ∀ w ∈ u_ws RX4 TX4 2, w ∈ sv_tbl := List.forall_mem_cons.mpr ⟨kw_164, List.forall_mem_cons.mpr ⟨kw_166, fun _ h => nomatch h⟩⟩
theorem sv_cl4 : sv_cls 4 RX4 TX4 2 := ⟨rfl, sv_lay4, ⟨_, tyX4_ok⟩, nmX4⟩
set_option maxRecDepth 20000 in
theorem sv_lay5 : ∀ w ∈ u_ws RX5 TX5 4, w ∈ sv_tbl := List.forall_mem_cons.mpr ⟨kw_174, List.forall_mem_cons.mpr ⟨kw_176, List.forall_mem_cons.mpr ⟨kw_178, List.forall_mem_cons.mpr ⟨kw_180, fun _ h => nomatch h⟩⟩⟩⟩
theorem sv_cl5 : sv_cls 5 RX5 TX5 4 := ⟨rfl, sv_lay5, ⟨_, tyX5_ok⟩, nmX5⟩
section SVW
variable {p : Program} {l : Launch} {e : Env} {R : Room} {s : State} {m : MethodId} {args : Array Value} {below : List Frame} {meth : Method} {c : Code} {k n nL : Nat} {Q : State → Prop} {G : sv_G} {Wd Wd' : Heap → Prop}
variable {cc : ByteArray} {pc : Nat} {lv lv' : List (Nat × Value)} {st rest : List Value} {own : String} {z : Nat} {M : sv_M} {o : Int64}
theorem sv_getg (C : sv_C p l s m args meth c cc nL own G) {Cn : String} {T : u_T} {N ci f ix a : Nat} {fs : List Value} {v : Value} (hcl : sv_cls ci Cn T N) (hat : ∀ H, Wd H → va_at (sv_D G) vwCl (a, .inr (ci, fs)) H) (hf : f < N) (hlink : Cond.fieldLink own ix (T f).1 (T f).2.1 (T f).2.2.1 ∈ sv_tbl) (hv : fs[f]? = some v) (d : decode cc pc = .ok (.getfield ix, 3)) (kk : sv_V p l e R s m args below meth c nL G Q k n Wd (pc + 3) lv (v :: st)) : sv_V p l e R s m args below meth c nL G Q k n Wd pc lv (.ref a :: st) := fun H locs ls h1 h2 h3 =>
  va_get C.1 C.2.1 (Ts := sv_tbl) (fun w hw => C.2.2.2.2.2.word hw args) hcl.2.1 C.2.2.2.1 C.2.2.2.2.2.1 (sv_one (hat H h1)) 0 rfl hcl.1 f hf (C.2.2.2.2.2.word hlink args) (fun _ h => h) hv d (kk H locs ls h1 h2 h3)
theorem sv_putg (C : sv_C p l s m args meth c cc nL own G) {Cn : String} {T : u_T} {N ci f ix a : Nat} {fs : List Value} {v : Value} {ty : FieldType} (hcl : sv_cls ci Cn T N) (hA : G.1 ≤ a) (hat : ∀ H, Wd H → va_at (sv_D G) vwCl (a, .inr (ci, fs)) H) (hf : f < N) (hlink : Cond.fieldLink own ix (T f).1 (T f).2.1 (T f).2.2.1 ∈ sv_tbl) (hfin : (T f).2.2.2 = false) (hd : parseFieldDescriptor (T f).2.2.1 = some ty) (hn : narrow ty v = v) (hfit : fits ty v = true) (hl : fs.length = N) (hset : ∀ H H1, Wd H → H1.size = H.size → (∀ q : Nat, q ≠ a → H1[q]? = H[q]?) → va_at (sv_D G) vwCl (a, .inr (ci, fs.set f v)) H1 → Wd' H1) (d : decode cc pc = .ok (.putfield ix, 3)) (kk : sv_V p l e R s m args below meth c nL G Q k n Wd' (pc + 3) lv st) : sv_V p l e R s m args below meth c nL G Q k n Wd pc lv (v :: .ref a :: st) := by
  intro H locs ls h1 h2 h3
  obtain ⟨hc, hin, ⟨ty0, hty⟩, hnm⟩ := hcl
  have hts : ∀ w ∈ sv_tbl, w.before args s = true := fun w hw => C.2.2.2.2.2.word hw args
  have hK := C.2.2.2.2.2.1
  have hap := va_apart (own := own) hts hin ty0 hty hnm hK hc
  obtain ⟨r, h4, cell, q1, q2, q3, q4⟩ := hat H h1
  have hr : r = (Cn, T, N) := Option.some.inj (h4.symm.trans hc)
  subst hr
  obtain ⟨hS, hfc, kC, hkC, hkind⟩ := hK.1 ci _ hc
  obtain ⟨cf, kf, fi, fd, hi, hsl⟩ := hS f hf
  have hlay := hts _ (hin _ (u_in_lay hf))
  unfold u_lay at hlay
  rw [if_neg (by rw [hfin]; decide)] at hlay
  have hst := (u_facts hfc hkC (u_lays hts hin hf) hi).1
  have h6 := u_store hfc hkC hkind hlay hi hd hn hfit
  refine W.putK C.1 C.2.1 (f := fd) ⟨C.2.2.2.1, C.2.2.2.2.2.word hlink args, ⟨_, _, _, hi⟩, hst⟩ (by rw [q2]; exact h6) q1 q3 (by rw [hsl]; exact k2_hasslot (q4 f hf)) rfl rfl d fun H' e1 e2 e3 => ?_
  rw [hsl] at e1 ⊢
  exact kk H' _ ls (hset H H' h1 e2 e3 ⟨_, hc, t_OB.to (V := updV (vp_V fs) f v) ⟨_, e1, q2, q3, t_set q4 hap hf v⟩ (fun j _ => vp_updV_set (by rw [hl]; exact hf) v j)⟩) (h2.put e2 e3 hA) h3
theorem sv_putFg (C : sv_C p l s m args meth c cc nL own G) {Cn : String} {T : u_T} {N ci f ix a : Nat} {fs : List Value} {v : Value} {ty : FieldType} (hcl : sv_cls ci Cn T N) (hA : G.1 ≤ a) (hat : ∀ H, Wd H → va_at (sv_D G) vwCl (a, .inr (ci, fs)) H) (hf : f < N) (hlink : Cond.fieldLink own ix (T f).1 (T f).2.1 (T f).2.2.1 ∈ sv_tbl) (hfin : (T f).2.2.2 = true) (hin2 : meth.name = "<init>") (hdecl : (T f).1 = own) (hd : parseFieldDescriptor (T f).2.2.1 = some ty) (hn : narrow ty v = v) (hfit : fits ty v = true) (hl : fs.length = N) (hset : ∀ H H1, Wd H → H1.size = H.size → (∀ q : Nat, q ≠ a → H1[q]? = H[q]?) → va_at (sv_D G) vwCl (a, .inr (ci, fs.set f v)) H1 → Wd' H1) (d : decode cc pc = .ok (.putfield ix, 3)) (kk : sv_V p l e R s m args below meth c nL G Q k n Wd' (pc + 3) lv st) : sv_V p l e R s m args below meth c nL G Q k n Wd pc lv (v :: .ref a :: st) := by
  intro H locs ls h1 h2 h3
  obtain ⟨hc, hin, ⟨ty0, hty⟩, hnm⟩ := hcl
  have hown := C.2.2.2.1
  have hts : ∀ w ∈ sv_tbl, w.before args s = true := fun w hw => C.2.2.2.2.2.word hw args
  have hK := C.2.2.2.2.2.1
  have hap := va_apart (own := own) hts hin ty0 hty hnm hK hc
  obtain ⟨r, h4, cell, q1, q2, q3, q4⟩ := hat H h1
  have hr : r = (Cn, T, N) := Option.some.inj (h4.symm.trans hc)
  subst hr
  obtain ⟨hS, hfc, kC, hkC, hkind⟩ := hK.1 ci _ hc
  obtain ⟨cf, kf, fi, fd, hi, hsl⟩ := hS f hf
  have hlay := hts _ (hin _ (u_in_lay hf))
  unfold u_lay at hlay
  rw [if_pos hfin] at hlay
  have hst := (u_facts hfc hkC (u_lays hts hin hf) hi).1
  have hcf : m.cls = cf := by
    obtain ⟨_, _, c', _, _, _, -, -, hf', -, -, -, hown2, -⟩ := Cond.laysFinal_spec hlay
    have e1 : c' = cf := by have := hi.symm.trans hf'; simp at this; exact this.1.symm
    rw [hdecl] at hown2
    rw [← e1]; exact Option.some.inj (hown.symm.trans hown2)
  have h6 := u_fits hfc hkC hkind (Or.inr hlay) hi hd hn hfit
  refine W.putFinK C.1 C.2.1 hown (C.2.2.2.2.2.word hlink args) hi hst hcf hin2 (by rw [q2]; exact h6) q1 q3 (by rw [hsl]; exact k2_hasslot (q4 f hf)) rfl rfl d fun H' e1 e2 e3 => ?_
  rw [hsl] at e1 ⊢
  exact kk H' _ ls (hset H H' h1 e2 e3 ⟨_, hc, t_OB.to (V := updV (vp_V fs) f v) ⟨_, e1, q2, q3, t_set q4 hap hf v⟩ (fun j _ => vp_updV_set (by rw [hl]; exact hf) v j)⟩) (h2.put e2 e3 hA) h3
theorem sv_ialdg (C : sv_C p l s m args meth c cc nL own G) {a nn : Nat} {f : Nat → Int32} {i : Int32} (hat : ∀ H, Wd H → va_at (sv_D G) vwCl (a, .inl (sv_cI G, nn, .inl f)) H) (hin : vp_in i nn) (d : decode cc pc = .ok (.iaload, 1)) (kk : sv_V p l e R s m args below meth c nL G Q k n Wd (pc + 1) lv (.int (f i.toNatClampNeg) :: st)) : sv_V p l e R s m args below meth c nL G Q k n Wd pc lv (.int i :: .ref a :: st) := fun H locs ls h1 h2 h3 => va_iald C.1 C.2.1 C.2.2.2.2.2.1 (sv_one (hat H h1)) 0 0 rfl rfl hin d (kk H locs ls h1 h2 h3)
theorem sv_caldg (C : sv_C p l s m args meth c cc nL own G) {a nn : Nat} {f : Nat → Int32} {i : Int32} (hat : ∀ H, Wd H → va_at (sv_D G) vwCl (a, .inl (sv_cC G, nn, .inl f)) H) (hin : vp_in i nn) (d : decode cc pc = .ok (.caload, 1)) (kk : sv_V p l e R s m args below meth c nL G Q k n Wd (pc + 1) lv (.int (f i.toNatClampNeg) :: st)) : sv_V p l e R s m args below meth c nL G Q k n Wd pc lv (.int i :: .ref a :: st) := fun H locs ls h1 h2 h3 => va_cald C.1 C.2.1 C.2.2.2.2.2.1 (sv_one (hat H h1)) 0 1 rfl rfl hin d (kk H locs ls h1 h2 h3)
theorem sv_aldqg (C : sv_C p l s m args meth c cc nL own G) {a nn : Nat} {f : Nat → Option Nat} {i : Int32} (hat : ∀ H, Wd H → va_at (sv_D G) vwCl (a, .inl (sv_cS G, nn, .inr (.inr (.inr (.inr f))))) H) (hin : vp_in i nn) (d : decode cc pc = .ok (.aaload, 1)) (kk : sv_V p l e R s m args below meth c nL G Q k n Wd (pc + 1) lv (va_rf (f i.toNatClampNeg) :: st)) : sv_V p l e R s m args below meth c nL G Q k n Wd pc lv (.int i :: .ref a :: st) := fun H locs ls h1 h2 h3 => va_aldq C.1 C.2.1 C.2.2.2.2.2.1 (sv_one (hat H h1)) 0 2 rfl rfl hin d (kk H locs ls h1 h2 h3)
theorem sv_iastg (C : sv_C p l s m args meth c cc nL own G) {a nn : Nat} {f : Nat → Int32} {i x : Int32} (hA : G.1 ≤ a) (hat : ∀ H, Wd H → va_at (sv_D G) vwCl (a, .inl (sv_cI G, nn, .inl f)) H) (hin : vp_in i nn) (hset : ∀ H H1, Wd H → H1.size = H.size → (∀ q : Nat, q ≠ a → H1[q]? = H[q]?) → va_at (sv_D G) vwCl (a, .inl (sv_cI G, nn, .inl (upd f i.toNatClampNeg x))) H1 → Wd' H1) (d : decode cc pc = .ok (.iastore, 1)) (kk : sv_V p l e R s m args below meth c nL G Q k n Wd' (pc + 1) lv st) : sv_V p l e R s m args below meth c nL G Q k n Wd pc lv (.int x :: .int i :: .ref a :: st) := by
  intro H locs ls h1 h2 h3
  refine W.iast C.1 C.2.1 (hat H h1) ((C.2.2.2.2.2.1.2 0 _ rfl).1 nn (fun j => .int (f j))) (fun q => by cases q) (by show ¬ (i < 0 ∨ (arrV _ _ _).slots.size ≤ _); rw [arrV_size]; exact hin) rfl rfl d fun H1 e1 z1 oq => ?_
  refine kk H1 _ ls (hset H H1 h1 z1 oq ?_) (h2.put z1 oq hA) h3
  show H1[a]? = some (vp_cell _ _)
  rw [e1, vp_cell_i, vp_cell_i, arrV_store]
  congr 2
  funext q
  by_cases hq : q = i.toNatClampNeg
  · subst hq
    simp [updV, upd]
  · simp [updV, upd, hq]
theorem sv_castg (C : sv_C p l s m args meth c cc nL own G) {a nn : Nat} {f : Nat → Int32} {i x : Int32} (hA : G.1 ≤ a) (hat : ∀ H, Wd H → va_at (sv_D G) vwCl (a, .inl (sv_cC G, nn, .inl f)) H) (hin : vp_in i nn) (hx : narrow .char (.int x) = .int x) (hset : ∀ H H1, Wd H → H1.size = H.size → (∀ q : Nat, q ≠ a → H1[q]? = H[q]?) → va_at (sv_D G) vwCl (a, .inl (sv_cC G, nn, .inl (upd f i.toNatClampNeg x))) H1 → Wd' H1) (d : decode cc pc = .ok (.castore, 1)) (kk : sv_V p l e R s m args below meth c nL G Q k n Wd' (pc + 1) lv st) : sv_V p l e R s m args below meth c nL G Q k n Wd pc lv (.int x :: .int i :: .ref a :: st) := by
  intro H locs ls h1 h2 h3
  refine W.cast C.1 C.2.1 (hat H h1) ((C.2.2.2.2.2.1.2 1 _ rfl).1 nn (fun j => .int (f j))) (fun q => by cases q) (by show ¬ (i < 0 ∨ (arrV _ _ _).slots.size ≤ _); rw [arrV_size]; exact hin) rfl rfl d fun H1 e1 z1 oq => ?_
  refine kk H1 _ ls (hset H H1 h1 z1 oq ?_) (h2.put z1 oq hA) h3
  show H1[a]? = some (vp_cell _ _)
  rw [e1, hx, vp_cell_i, vp_cell_i, arrV_store]
  congr 2
  funext q
  by_cases hq : q = i.toNatClampNeg
  · subst hq
    simp [updV, upd]
  · simp [updV, upd, hq]
theorem sv_aleng (C : sv_C p l s m args meth c cc nL own G) {a nn t0 : Nat} {x : (Nat → Int32) ⊕ (Nat → Int64) ⊕ (Nat → UInt32) ⊕ (Nat → UInt64) ⊕ (Nat → Option Nat)} {cA : ClassId} {ty : FieldType} {v : Int32} (hat : ∀ H, Wd H → va_at (sv_D G) vwCl (a, .inl (cA, nn, x)) H) (ht : (sv_tys G)[t0]? = some (cA, ty)) (hv : Int32.ofNat nn = v) (d : decode cc pc = .ok (.arraylength, 1)) (kk : sv_V p l e R s m args below meth c nL G Q k n Wd (pc + 1) lv (.int v :: st)) : sv_V p l e R s m args below meth c nL G Q k n Wd pc lv (.ref a :: st) := fun H locs ls h1 h2 h3 => va_alen C.1 C.2.1 C.2.2.2.2.2.1 (sv_one (hat H h1)) 0 t0 rfl ht hv d (kk H locs ls h1 h2 h3)
theorem sv_i_inj {c i j : Nat} (h : sv_i c i = sv_i c j) : i = j := by
  unfold sv_i at h
  repeat' split at h
  all_goals omega
theorem sv_iald (C : sv_C p l s m args meth c cc nL own G) {c' j : Nat} {i : Int32} (hok : sv_ok c' j = true) (hr : sv_ir c' = true) (hin : vp_in i (sv_n c')) (d : decode cc pc = .ok (.iaload, 1)) (kk : sv_V p l e R s m args below meth c nL G Q k n (sv_W G z M o) (pc + 1) lv (.int (M (sv_q c' j) (sv_i c' i.toNatClampNeg)) :: st)) : sv_V p l e R s m args below meth c nL G Q k n (sv_W G z M o) pc lv (.int i :: .ref (sv_r G c' j) :: st) := sv_ialdg C (fun H h => by have h9 := h.2.2 c' j hok; rw [sv_rows hr] at h9; exact h9) hin d kk
theorem sv_iast (C : sv_C p l s m args meth c cc nL own G) {c' j : Nat} {i x : Int32} (hok : sv_ok c' j = true) (hr : sv_ir c' = true) (hin : vp_in i (sv_n c')) (d : decode cc pc = .ok (.iastore, 1)) (kk : sv_V p l e R s m args below meth c nL G Q k n (sv_W G z (sv_w M (sv_q c' j) (sv_i c' i.toNatClampNeg) x) o) (pc + 1) lv st) : sv_V p l e R s m args below meth c nL G Q k n (sv_W G z M o) pc lv (.int x :: .int i :: .ref (sv_r G c' j) :: st) := sv_iastg C (Nat.le_add_right _ _) (fun H h => by have h9 := h.2.2 c' j hok; rw [sv_rows hr] at h9; exact h9) hin (fun H H1 h z1 oq hat => by
  have hlt : i.toNatClampNeg < sv_n c' := Nat.not_le.mp fun q => hin (Or.inr q)
  refine h.put hok (sv_ow_row hok (Or.inl hr) hlt) z1 oq ?_
  rw [sv_rows hr]
  have e : (fun k => sv_w M (sv_q c' j) (sv_i c' i.toNatClampNeg) x (sv_q c' j) (sv_i c' k)) = upd (fun k => M (sv_q c' j) (sv_i c' k)) i.toNatClampNeg x := by
    funext k
    by_cases hk : k = i.toNatClampNeg
    · subst hk
      simp [sv_w, upd]
    · have hk2 : ¬ sv_i c' k = sv_i c' i.toNatClampNeg := fun h => hk (sv_i_inj h)
      simp [sv_w, upd, hk, hk2]
  rw [e]
  exact hat) d kk
theorem sv_cald (C : sv_C p l s m args meth c cc nL own G) {i : Int32} (hin : vp_in i 60) (d : decode cc pc = .ok (.caload, 1)) (kk : sv_V p l e R s m args below meth c nL G Q k n (sv_W G z M o) (pc + 1) lv (.int (M 9 i.toNatClampNeg) :: st)) : sv_V p l e R s m args below meth c nL G Q k n (sv_W G z M o) pc lv (.int i :: .ref (sv_r G 18 0) :: st) := sv_caldg C (fun H h => h.2.2 18 0 rfl) hin d kk
theorem sv_cast (C : sv_C p l s m args meth c cc nL own G) {i x : Int32} (hin : vp_in i 60) (hx : narrow .char (.int x) = .int x) (d : decode cc pc = .ok (.castore, 1)) (kk : sv_V p l e R s m args below meth c nL G Q k n (sv_W G z (sv_w M 9 i.toNatClampNeg x) o) (pc + 1) lv st) : sv_V p l e R s m args below meth c nL G Q k n (sv_W G z M o) pc lv (.int x :: .int i :: .ref (sv_r G 18 0) :: st) := sv_castg C (f := fun k => M 9 k) (Nat.le_add_right _ _) (fun H h => h.2.2 18 0 rfl) hin hx (fun H H1 h z1 oq hat => by
  have hlt : i.toNatClampNeg < 60 := Nat.not_le.mp fun q => hin (Or.inr q)
  refine h.put (c := 18) (j := 0) rfl (by simp [sv_ow, hlt]) z1 oq ?_
  have e : (fun k => sv_w M 9 i.toNatClampNeg x 9 k) = upd (fun k => M 9 k) i.toNatClampNeg x := by
    funext k
    by_cases hk : k = i.toNatClampNeg
    · subst hk
      simp [sv_w, upd]
    · simp [sv_w, upd, hk]
  show va_at (sv_D G) vwCl (sv_r G 18 0, .inl (sv_cC G, 60, .inl (fun k => sv_w M 9 i.toNatClampNeg x 9 k))) H1
  rw [e]
  exact hat) d kk
theorem sv_aldq (C : sv_C p l s m args meth c cc nL own G) {i : Int32} (hin : vp_in i 6) (d : decode cc pc = .ok (.aaload, 1)) (kk : sv_V p l e R s m args below meth c nL G Q k n (sv_W G z M o) (pc + 1) lv (.ref (sv_r G 0 (2 + i.toNatClampNeg)) :: st)) : sv_V p l e R s m args below meth c nL G Q k n (sv_W G z M o) pc lv (.int i :: .ref (sv_r G 16 0) :: st) := sv_aldqg C (fun H h => h.2.2 16 0 rfl) hin d kk
theorem sv_alen (C : sv_C p l s m args meth c cc nL own G) {c' j : Nat} {v : Int32} (hok : sv_ok c' j = true) (hr : sv_ir c' = true) (hv : Int32.ofNat (sv_n c') = v) (d : decode cc pc = .ok (.arraylength, 1)) (kk : sv_V p l e R s m args below meth c nL G Q k n (sv_W G z M o) (pc + 1) lv (.int v :: st)) : sv_V p l e R s m args below meth c nL G Q k n (sv_W G z M o) pc lv (.ref (sv_r G c' j) :: st) := sv_aleng C (t0 := 0) (fun H h => by have h9 := h.2.2 c' j hok; rw [sv_rows hr] at h9; exact h9) rfl hv d kk
theorem sv_alenC (C : sv_C p l s m args meth c cc nL own G) {v : Int32} (hv : Int32.ofNat 60 = v) (d : decode cc pc = .ok (.arraylength, 1)) (kk : sv_V p l e R s m args below meth c nL G Q k n (sv_W G z M o) (pc + 1) lv (.int v :: st)) : sv_V p l e R s m args below meth c nL G Q k n (sv_W G z M o) pc lv (.ref (sv_r G 18 0) :: st) := sv_aleng C (t0 := 1) (fun H h => h.2.2 18 0 rfl) rfl hv d kk
theorem sv_alenS (C : sv_C p l s m args meth c cc nL own G) {v : Int32} (hv : Int32.ofNat 6 = v) (d : decode cc pc = .ok (.arraylength, 1)) (kk : sv_V p l e R s m args below meth c nL G Q k n (sv_W G z M o) (pc + 1) lv (.int v :: st)) : sv_V p l e R s m args below meth c nL G Q k n (sv_W G z M o) pc lv (.ref (sv_r G 16 0) :: st) := sv_aleng C (t0 := 2) (fun H h => h.2.2 16 0 rfl) rfl hv d kk
theorem sv_gets0 (C : sv_C p l s m args meth c cc nL own G) {ix : Nat} (hlink : Cond.fieldLink own ix "StairLight" "FIRST_VALUES" "[I" ∈ sv_tbl) (d : decode cc pc = .ok (.getstatic ix, 3)) (kk : sv_V p l e R s m args below meth c nL G Q k n Wd (pc + 3) lv (.ref G.2.2.2.1 :: st)) : sv_V p l e R s m args below meth c nL G Q k n Wd pc lv st := fun H locs ls h1 h2 h3 => va_gets C.1 C.2.1 C.2.2.2.2.2.2.1.1.1 h2 C.2.2.2.1 (C.2.2.2.2.2.word hlink args) (fun _ h => h) d (kk H locs ls h1 h2 h3)
theorem sv_sald0 (C : sv_C p l s m args meth c cc nL own G) {i : Int32} (hin : vp_in i 4) (d : decode cc pc = .ok (.iaload, 1)) (kk : sv_V p l e R s m args below meth c nL G Q k n Wd (pc + 1) lv (.int (sv_F 0 i.toNatClampNeg) :: st)) : sv_V p l e R s m args below meth c nL G Q k n Wd pc lv (.int i :: .ref G.2.2.2.1 :: st) := fun H locs ls h1 h2 h3 => va_ti C.1 C.2.1 C.2.2.2.2.2.2.1.1.2 h2 hin rfl d (kk H locs ls h1 h2 h3)
theorem sv_salen0 (C : sv_C p l s m args meth c cc nL own G) (d : decode cc pc = .ok (.arraylength, 1)) (kk : sv_V p l e R s m args below meth c nL G Q k n Wd (pc + 1) lv (.int (nI 4) :: st)) : sv_V p l e R s m args below meth c nL G Q k n Wd pc lv (.ref G.2.2.2.1 :: st) := fun H locs ls h1 h2 h3 => va_tlen C.1 C.2.1 C.2.2.2.2.2.2.1.1.2 h2 rfl d (kk H locs ls h1 h2 h3)
theorem sv_gets1 (C : sv_C p l s m args meth c cc nL own G) {ix : Nat} (hlink : Cond.fieldLink own ix "StairLight" "LEAST_VALUES" "[I" ∈ sv_tbl) (d : decode cc pc = .ok (.getstatic ix, 3)) (kk : sv_V p l e R s m args below meth c nL G Q k n Wd (pc + 3) lv (.ref G.2.2.2.2.1 :: st)) : sv_V p l e R s m args below meth c nL G Q k n Wd pc lv st := fun H locs ls h1 h2 h3 => va_gets C.1 C.2.1 C.2.2.2.2.2.2.1.2.1.1 h2 C.2.2.2.1 (C.2.2.2.2.2.word hlink args) (fun _ h => h) d (kk H locs ls h1 h2 h3)
theorem sv_sald1 (C : sv_C p l s m args meth c cc nL own G) {i : Int32} (hin : vp_in i 4) (d : decode cc pc = .ok (.iaload, 1)) (kk : sv_V p l e R s m args below meth c nL G Q k n Wd (pc + 1) lv (.int (sv_F 1 i.toNatClampNeg) :: st)) : sv_V p l e R s m args below meth c nL G Q k n Wd pc lv (.int i :: .ref G.2.2.2.2.1 :: st) := fun H locs ls h1 h2 h3 => va_ti C.1 C.2.1 C.2.2.2.2.2.2.1.2.1.2 h2 hin rfl d (kk H locs ls h1 h2 h3)
theorem sv_salen1 (C : sv_C p l s m args meth c cc nL own G) (d : decode cc pc = .ok (.arraylength, 1)) (kk : sv_V p l e R s m args below meth c nL G Q k n Wd (pc + 1) lv (.int (nI 4) :: st)) : sv_V p l e R s m args below meth c nL G Q k n Wd pc lv (.ref G.2.2.2.2.1 :: st) := fun H locs ls h1 h2 h3 => va_tlen C.1 C.2.1 C.2.2.2.2.2.2.1.2.1.2 h2 rfl d (kk H locs ls h1 h2 h3)
theorem sv_gets2 (C : sv_C p l s m args meth c cc nL own G) {ix : Nat} (hlink : Cond.fieldLink own ix "StairLight" "GREATEST_VALUES" "[I" ∈ sv_tbl) (d : decode cc pc = .ok (.getstatic ix, 3)) (kk : sv_V p l e R s m args below meth c nL G Q k n Wd (pc + 3) lv (.ref G.2.2.2.2.2 :: st)) : sv_V p l e R s m args below meth c nL G Q k n Wd pc lv st := fun H locs ls h1 h2 h3 => va_gets C.1 C.2.1 C.2.2.2.2.2.2.1.2.2.1.1 h2 C.2.2.2.1 (C.2.2.2.2.2.word hlink args) (fun _ h => h) d (kk H locs ls h1 h2 h3)
theorem sv_sald2 (C : sv_C p l s m args meth c cc nL own G) {i : Int32} (hin : vp_in i 4) (d : decode cc pc = .ok (.iaload, 1)) (kk : sv_V p l e R s m args below meth c nL G Q k n Wd (pc + 1) lv (.int (sv_F 2 i.toNatClampNeg) :: st)) : sv_V p l e R s m args below meth c nL G Q k n Wd pc lv (.int i :: .ref G.2.2.2.2.2 :: st) := fun H locs ls h1 h2 h3 => va_ti C.1 C.2.1 C.2.2.2.2.2.2.1.2.2.1.2 h2 hin rfl d (kk H locs ls h1 h2 h3)
theorem sv_salen2 (C : sv_C p l s m args meth c cc nL own G) (d : decode cc pc = .ok (.arraylength, 1)) (kk : sv_V p l e R s m args below meth c nL G Q k n Wd (pc + 1) lv (.int (nI 4) :: st)) : sv_V p l e R s m args below meth c nL G Q k n Wd pc lv (.ref G.2.2.2.2.2 :: st) := fun H locs ls h1 h2 h3 => va_tlen C.1 C.2.1 C.2.2.2.2.2.2.1.2.2.1.2 h2 rfl d (kk H locs ls h1 h2 h3)
theorem sv_scald (C : sv_C p l s m args meth c cc nL own G) {i : Int32} (hin : vp_in i (sv_L G)) (d : decode cc pc = .ok (.iaload, 1)) (kk : sv_V p l e R s m args below meth c nL G Q k n Wd (pc + 1) lv (.int (sv_xs G i.toNatClampNeg) :: st)) : sv_V p l e R s m args below meth c nL G Q k n Wd pc lv (.int i :: .ref (sv_b G) :: st) := fun H locs ls h1 h2 h3 => va_ti C.1 C.2.1 C.2.2.2.2.2.2.1.2.2.2 h2 hin rfl d (kk H locs ls h1 h2 h3)
theorem sv_sclen (C : sv_C p l s m args meth c cc nL own G) (d : decode cc pc = .ok (.arraylength, 1)) (kk : sv_V p l e R s m args below meth c nL G Q k n Wd (pc + 1) lv (.int (nI (sv_L G)) :: st)) : sv_V p l e R s m args below meth c nL G Q k n Wd pc lv (.ref (sv_b G) :: st) := fun H locs ls h1 h2 h3 => va_tlen C.1 C.2.1 C.2.2.2.2.2.2.1.2.2.2 h2 rfl d (kk H locs ls h1 h2 h3)
theorem sv_gets0N (C : sv_C p l s m args meth c cc nL own G) (ho : own = "StairLight$Stairs") (d : decode cc pc = .ok (.getstatic 25, 3)) (kk : sv_V p l e R s m args below meth c nL G Q k n Wd (pc + 3) lv (.ref G.2.2.2.1 :: st)) : sv_V p l e R s m args below meth c nL G Q k n Wd pc lv st := fun H locs ls h1 h2 h3 => by
  subst ho
  exact va_getsN C.1 C.2.1 C.2.2.2.2.2.2.1.1.1 h2 C.2.2.2.1 (va_Nw.use rfl C.2.2.2.2.2.2.2.1.2) (fun _ h => h) d (kk H locs ls h1 h2 h3)
theorem sv_get_0_0 (C : sv_C p l s m args meth c cc nL own G) {j : Nat} (hj : j < 8) {ix : Nat} (hlink : Cond.fieldLink own ix "StairLight$Floors" "burning" "[I" ∈ sv_tbl) (d : decode cc pc = .ok (.getfield ix, 3)) (kk : sv_V p l e R s m args below meth c nL G Q k n (sv_W G z M o) (pc + 3) lv (.ref (sv_r G 2 j) :: st)) : sv_V p l e R s m args below meth c nL G Q k n (sv_W G z M o) pc lv (.ref (sv_r G 1 j) :: st) := sv_getg C (f := 0) sv_cl0 (fun H h => h.2.2 1 j (by simp [sv_ok, hj])) (by decide) hlink rfl d kk
theorem sv_get_0_1 (C : sv_C p l s m args meth c cc nL own G) {j : Nat} (hj : j < 8) {ix : Nat} (hlink : Cond.fieldLink own ix "StairLight$Floors" "sound" "[I" ∈ sv_tbl) (d : decode cc pc = .ok (.getfield ix, 3)) (kk : sv_V p l e R s m args below meth c nL G Q k n (sv_W G z M o) (pc + 3) lv (.ref (sv_r G 3 j) :: st)) : sv_V p l e R s m args below meth c nL G Q k n (sv_W G z M o) pc lv (.ref (sv_r G 1 j) :: st) := sv_getg C (f := 1) sv_cl0 (fun H h => h.2.2 1 j (by simp [sv_ok, hj])) (by decide) hlink rfl d kk
theorem sv_get_0_2 (C : sv_C p l s m args meth c cc nL own G) {j : Nat} (hj : j < 8) {ix : Nat} (hlink : Cond.fieldLink own ix "StairLight$Floors" "darkSeconds" "[I" ∈ sv_tbl) (d : decode cc pc = .ok (.getfield ix, 3)) (kk : sv_V p l e R s m args below meth c nL G Q k n (sv_W G z M o) (pc + 3) lv (.ref (sv_r G 4 j) :: st)) : sv_V p l e R s m args below meth c nL G Q k n (sv_W G z M o) pc lv (.ref (sv_r G 1 j) :: st) := sv_getg C (f := 2) sv_cl0 (fun H h => h.2.2 1 j (by simp [sv_ok, hj])) (by decide) hlink rfl d kk
theorem sv_get_0_3 (C : sv_C p l s m args meth c cc nL own G) {j : Nat} (hj : j < 8) {ix : Nat} (hlink : Cond.fieldLink own ix "StairLight$Floors" "dimSeconds" "[I" ∈ sv_tbl) (d : decode cc pc = .ok (.getfield ix, 3)) (kk : sv_V p l e R s m args below meth c nL G Q k n (sv_W G z M o) (pc + 3) lv (.ref (sv_r G 5 j) :: st)) : sv_V p l e R s m args below meth c nL G Q k n (sv_W G z M o) pc lv (.ref (sv_r G 1 j) :: st) := sv_getg C (f := 3) sv_cl0 (fun H h => h.2.2 1 j (by simp [sv_ok, hj])) (by decide) hlink rfl d kk
theorem sv_get_0_4 (C : sv_C p l s m args meth c cc nL own G) {j : Nat} (hj : j < 8) {ix : Nat} (hlink : Cond.fieldLink own ix "StairLight$Floors" "energy" "[I" ∈ sv_tbl) (d : decode cc pc = .ok (.getfield ix, 3)) (kk : sv_V p l e R s m args below meth c nL G Q k n (sv_W G z M o) (pc + 3) lv (.ref (sv_r G 6 j) :: st)) : sv_V p l e R s m args below meth c nL G Q k n (sv_W G z M o) pc lv (.ref (sv_r G 1 j) :: st) := sv_getg C (f := 4) sv_cl0 (fun H h => h.2.2 1 j (by simp [sv_ok, hj])) (by decide) hlink rfl d kk
theorem sv_get_0_5 (C : sv_C p l s m args meth c cc nL own G) {j : Nat} (hj : j < 8) {ix : Nat} (hlink : Cond.fieldLink own ix "StairLight$Floors" "kindled" "[I" ∈ sv_tbl) (d : decode cc pc = .ok (.getfield ix, 3)) (kk : sv_V p l e R s m args below meth c nL G Q k n (sv_W G z M o) (pc + 3) lv (.ref (sv_r G 7 j) :: st)) : sv_V p l e R s m args below meth c nL G Q k n (sv_W G z M o) pc lv (.ref (sv_r G 1 j) :: st) := sv_getg C (f := 5) sv_cl0 (fun H h => h.2.2 1 j (by simp [sv_ok, hj])) (by decide) hlink rfl d kk
theorem sv_get_1_0 (C : sv_C p l s m args meth c cc nL own G) {ix : Nat} (hlink : Cond.fieldLink own ix "StairLight$History" "states" "[LStairLight$Stairs;" ∈ sv_tbl) (d : decode cc pc = .ok (.getfield ix, 3)) (kk : sv_V p l e R s m args below meth c nL G Q k n (sv_W G z M o) (pc + 3) lv (.ref (sv_r G 16 0) :: st)) : sv_V p l e R s m args below meth c nL G Q k n (sv_W G z M o) pc lv (.ref (sv_r G 15 0) :: st) := sv_getg C (f := 0) sv_cl1 (fun H h => h.2.2 15 0 rfl) (by decide) hlink rfl d kk
theorem sv_get_1_1 (C : sv_C p l s m args meth c cc nL own G) {ix : Nat} (hlink : Cond.fieldLink own ix "StairLight$History" "oldest" "I" ∈ sv_tbl) (d : decode cc pc = .ok (.getfield ix, 3)) (kk : sv_V p l e R s m args below meth c nL G Q k n (sv_W G z M o) (pc + 3) lv (.int (M 8 0) :: st)) : sv_V p l e R s m args below meth c nL G Q k n (sv_W G z M o) pc lv (.ref (sv_r G 15 0) :: st) := sv_getg C (f := 1) sv_cl1 (fun H h => h.2.2 15 0 rfl) (by decide) hlink rfl d kk
theorem sv_put_1_1 (C : sv_C p l s m args meth c cc nL own G) {ix : Nat} {x : Int32} (hlink : Cond.fieldLink own ix "StairLight$History" "oldest" "I" ∈ sv_tbl) (d : decode cc pc = .ok (.putfield ix, 3)) (kk : sv_V p l e R s m args below meth c nL G Q k n (sv_W G z (sv_w M 8 0 x) o) (pc + 3) lv st) : sv_V p l e R s m args below meth c nL G Q k n (sv_W G z M o) pc lv (.int x :: .ref (sv_r G 15 0) :: st) := sv_putg C (f := 1) (ty := .int) sv_cl1 (Nat.le_add_right _ _) (fun H h => h.2.2 15 0 rfl) (by decide) hlink rfl (by decide +kernel) rfl rfl rfl (fun H H1 h z1 oq hat => by
  refine h.put (c := 15) (j := 0) (q := 8) (i := 0) rfl (by simp [sv_ow]) z1 oq ?_
  have e : sv_e G (sv_w M 8 0 x) o 15 0 = .inr (1, [.ref (sv_r G 16 0), .int x, .int (M 8 1)]) := by
    rw [sv_e15]
    simp [sv_w]
  rw [e]
  exact hat) d kk
theorem sv_get_1_2 (C : sv_C p l s m args meth c cc nL own G) {ix : Nat} (hlink : Cond.fieldLink own ix "StairLight$History" "held" "I" ∈ sv_tbl) (d : decode cc pc = .ok (.getfield ix, 3)) (kk : sv_V p l e R s m args below meth c nL G Q k n (sv_W G z M o) (pc + 3) lv (.int (M 8 1) :: st)) : sv_V p l e R s m args below meth c nL G Q k n (sv_W G z M o) pc lv (.ref (sv_r G 15 0) :: st) := sv_getg C (f := 2) sv_cl1 (fun H h => h.2.2 15 0 rfl) (by decide) hlink rfl d kk
theorem sv_put_1_2 (C : sv_C p l s m args meth c cc nL own G) {ix : Nat} {x : Int32} (hlink : Cond.fieldLink own ix "StairLight$History" "held" "I" ∈ sv_tbl) (d : decode cc pc = .ok (.putfield ix, 3)) (kk : sv_V p l e R s m args below meth c nL G Q k n (sv_W G z (sv_w M 8 1 x) o) (pc + 3) lv st) : sv_V p l e R s m args below meth c nL G Q k n (sv_W G z M o) pc lv (.int x :: .ref (sv_r G 15 0) :: st) := sv_putg C (f := 2) (ty := .int) sv_cl1 (Nat.le_add_right _ _) (fun H h => h.2.2 15 0 rfl) (by decide) hlink rfl (by decide +kernel) rfl rfl rfl (fun H H1 h z1 oq hat => by
  refine h.put (c := 15) (j := 0) (q := 8) (i := 1) rfl (by simp [sv_ow]) z1 oq ?_
  have e : sv_e G (sv_w M 8 1 x) o 15 0 = .inr (1, [.ref (sv_r G 16 0), .int (M 8 0), .int x]) := by
    rw [sv_e15]
    simp [sv_w]
  rw [e]
  exact hat) d kk
theorem sv_get_2_0 (C : sv_C p l s m args meth c cc nL own G) {j : Nat} (hj : j < 8) {ix : Nat} (hlink : Cond.fieldLink own ix "StairLight$People" "numbers" "[I" ∈ sv_tbl) (d : decode cc pc = .ok (.getfield ix, 3)) (kk : sv_V p l e R s m args below meth c nL G Q k n (sv_W G z M o) (pc + 3) lv (.ref (sv_r G 9 j) :: st)) : sv_V p l e R s m args below meth c nL G Q k n (sv_W G z M o) pc lv (.ref (sv_r G 8 j) :: st) := sv_getg C (f := 0) sv_cl2 (fun H h => h.2.2 8 j (by simp [sv_ok, hj])) (by decide) hlink rfl d kk
theorem sv_get_2_1 (C : sv_C p l s m args meth c cc nL own G) {j : Nat} (hj : j < 8) {ix : Nat} (hlink : Cond.fieldLink own ix "StairLight$People" "floors" "[I" ∈ sv_tbl) (d : decode cc pc = .ok (.getfield ix, 3)) (kk : sv_V p l e R s m args below meth c nL G Q k n (sv_W G z M o) (pc + 3) lv (.ref (sv_r G 10 j) :: st)) : sv_V p l e R s m args below meth c nL G Q k n (sv_W G z M o) pc lv (.ref (sv_r G 8 j) :: st) := sv_getg C (f := 1) sv_cl2 (fun H h => h.2.2 8 j (by simp [sv_ok, hj])) (by decide) hlink rfl d kk
theorem sv_get_2_2 (C : sv_C p l s m args meth c cc nL own G) {j : Nat} (hj : j < 8) {ix : Nat} (hlink : Cond.fieldLink own ix "StairLight$People" "goals" "[I" ∈ sv_tbl) (d : decode cc pc = .ok (.getfield ix, 3)) (kk : sv_V p l e R s m args below meth c nL G Q k n (sv_W G z M o) (pc + 3) lv (.ref (sv_r G 11 j) :: st)) : sv_V p l e R s m args below meth c nL G Q k n (sv_W G z M o) pc lv (.ref (sv_r G 8 j) :: st) := sv_getg C (f := 2) sv_cl2 (fun H h => h.2.2 8 j (by simp [sv_ok, hj])) (by decide) hlink rfl d kk
theorem sv_get_2_3 (C : sv_C p l s m args meth c cc nL own G) {j : Nat} (hj : j < 8) {ix : Nat} (hlink : Cond.fieldLink own ix "StairLight$People" "left" "[I" ∈ sv_tbl) (d : decode cc pc = .ok (.getfield ix, 3)) (kk : sv_V p l e R s m args below meth c nL G Q k n (sv_W G z M o) (pc + 3) lv (.ref (sv_r G 12 j) :: st)) : sv_V p l e R s m args below meth c nL G Q k n (sv_W G z M o) pc lv (.ref (sv_r G 8 j) :: st) := sv_getg C (f := 3) sv_cl2 (fun H h => h.2.2 8 j (by simp [sv_ok, hj])) (by decide) hlink rfl d kk
theorem sv_get_2_4 (C : sv_C p l s m args meth c cc nL own G) {j : Nat} (hj : j < 8) {ix : Nat} (hlink : Cond.fieldLink own ix "StairLight$People" "onStairs" "I" ∈ sv_tbl) (d : decode cc pc = .ok (.getfield ix, 3)) (kk : sv_V p l e R s m args below meth c nL G Q k n (sv_W G z M o) (pc + 3) lv (.int (M j 57) :: st)) : sv_V p l e R s m args below meth c nL G Q k n (sv_W G z M o) pc lv (.ref (sv_r G 8 j) :: st) := sv_getg C (f := 4) sv_cl2 (fun H h => h.2.2 8 j (by simp [sv_ok, hj])) (by decide) hlink rfl d kk
theorem sv_put_2_4 (C : sv_C p l s m args meth c cc nL own G) {j : Nat} (hj : j < 8) {ix : Nat} {x : Int32} (hlink : Cond.fieldLink own ix "StairLight$People" "onStairs" "I" ∈ sv_tbl) (d : decode cc pc = .ok (.putfield ix, 3)) (kk : sv_V p l e R s m args below meth c nL G Q k n (sv_W G z (sv_w M j 57 x) o) (pc + 3) lv st) : sv_V p l e R s m args below meth c nL G Q k n (sv_W G z M o) pc lv (.int x :: .ref (sv_r G 8 j) :: st) := sv_putg C (f := 4) (ty := .int) sv_cl2 (Nat.le_add_right _ _) (fun H h => h.2.2 8 j (by simp [sv_ok, hj])) (by decide) hlink rfl (by decide +kernel) rfl rfl rfl (fun H H1 h z1 oq hat => by
  refine h.put (c := 8) (j := j) (q := j) (i := 57) (by simp [sv_ok, hj]) (by simp [sv_ow, hj]) z1 oq ?_
  have e : sv_e G (sv_w M j 57 x) o 8 j = .inr (2, [.ref (sv_r G 9 j), .ref (sv_r G 10 j), .ref (sv_r G 11 j), .ref (sv_r G 12 j), .int x, .int (M j 5)]) := by
    rw [sv_e8]
    simp [sv_w]
  rw [e]
  exact hat) d kk
theorem sv_get_2_5 (C : sv_C p l s m args meth c cc nL own G) {j : Nat} (hj : j < 8) {ix : Nat} (hlink : Cond.fieldLink own ix "StairLight$People" "came" "I" ∈ sv_tbl) (d : decode cc pc = .ok (.getfield ix, 3)) (kk : sv_V p l e R s m args below meth c nL G Q k n (sv_W G z M o) (pc + 3) lv (.int (M j 5) :: st)) : sv_V p l e R s m args below meth c nL G Q k n (sv_W G z M o) pc lv (.ref (sv_r G 8 j) :: st) := sv_getg C (f := 5) sv_cl2 (fun H h => h.2.2 8 j (by simp [sv_ok, hj])) (by decide) hlink rfl d kk
theorem sv_put_2_5 (C : sv_C p l s m args meth c cc nL own G) {j : Nat} (hj : j < 8) {ix : Nat} {x : Int32} (hlink : Cond.fieldLink own ix "StairLight$People" "came" "I" ∈ sv_tbl) (d : decode cc pc = .ok (.putfield ix, 3)) (kk : sv_V p l e R s m args below meth c nL G Q k n (sv_W G z (sv_w M j 5 x) o) (pc + 3) lv st) : sv_V p l e R s m args below meth c nL G Q k n (sv_W G z M o) pc lv (.int x :: .ref (sv_r G 8 j) :: st) := sv_putg C (f := 5) (ty := .int) sv_cl2 (Nat.le_add_right _ _) (fun H h => h.2.2 8 j (by simp [sv_ok, hj])) (by decide) hlink rfl (by decide +kernel) rfl rfl rfl (fun H H1 h z1 oq hat => by
  refine h.put (c := 8) (j := j) (q := j) (i := 5) (by simp [sv_ok, hj]) (by simp [sv_ow, hj]) z1 oq ?_
  have e : sv_e G (sv_w M j 5 x) o 8 j = .inr (2, [.ref (sv_r G 9 j), .ref (sv_r G 10 j), .ref (sv_r G 11 j), .ref (sv_r G 12 j), .int (M j 57), .int x]) := by
    rw [sv_e8]
    simp [sv_w]
  rw [e]
  exact hat) d kk
theorem sv_get_3_0 (C : sv_C p l s m args meth c cc nL own G) {j : Nat} (hj : j < 8) {ix : Nat} (hlink : Cond.fieldLink own ix "StairLight$Stairs" "floors" "LStairLight$Floors;" ∈ sv_tbl) (d : decode cc pc = .ok (.getfield ix, 3)) (kk : sv_V p l e R s m args below meth c nL G Q k n (sv_W G z M o) (pc + 3) lv (.ref (sv_r G 1 j) :: st)) : sv_V p l e R s m args below meth c nL G Q k n (sv_W G z M o) pc lv (.ref (sv_r G 0 j) :: st) := sv_getg C (f := 0) sv_cl3 (fun H h => h.2.2 0 j (by simp [sv_ok, hj])) (by decide) hlink rfl d kk
theorem sv_get_3_1 (C : sv_C p l s m args meth c cc nL own G) {j : Nat} (hj : j < 8) {ix : Nat} (hlink : Cond.fieldLink own ix "StairLight$Stairs" "people" "LStairLight$People;" ∈ sv_tbl) (d : decode cc pc = .ok (.getfield ix, 3)) (kk : sv_V p l e R s m args below meth c nL G Q k n (sv_W G z M o) (pc + 3) lv (.ref (sv_r G 8 j) :: st)) : sv_V p l e R s m args below meth c nL G Q k n (sv_W G z M o) pc lv (.ref (sv_r G 0 j) :: st) := sv_getg C (f := 1) sv_cl3 (fun H h => h.2.2 0 j (by simp [sv_ok, hj])) (by decide) hlink rfl d kk
theorem sv_get_3_2 (C : sv_C p l s m args meth c cc nL own G) {j : Nat} (hj : j < 8) {ix : Nat} (hlink : Cond.fieldLink own ix "StairLight$Stairs" "settings" "[I" ∈ sv_tbl) (d : decode cc pc = .ok (.getfield ix, 3)) (kk : sv_V p l e R s m args below meth c nL G Q k n (sv_W G z M o) (pc + 3) lv (.ref (sv_r G 13 j) :: st)) : sv_V p l e R s m args below meth c nL G Q k n (sv_W G z M o) pc lv (.ref (sv_r G 0 j) :: st) := sv_getg C (f := 2) sv_cl3 (fun H h => h.2.2 0 j (by simp [sv_ok, hj])) (by decide) hlink rfl d kk
theorem sv_get_3_3 (C : sv_C p l s m args meth c cc nL own G) {j : Nat} (hj : j < 8) {ix : Nat} (hlink : Cond.fieldLink own ix "StairLight$Stairs" "isNight" "Z" ∈ sv_tbl) (d : decode cc pc = .ok (.getfield ix, 3)) (kk : sv_V p l e R s m args below meth c nL G Q k n (sv_W G z M o) (pc + 3) lv (.int (M j 6) :: st)) : sv_V p l e R s m args below meth c nL G Q k n (sv_W G z M o) pc lv (.ref (sv_r G 0 j) :: st) := sv_getg C (f := 3) sv_cl3 (fun H h => h.2.2 0 j (by simp [sv_ok, hj])) (by decide) hlink rfl d kk
theorem sv_put_3_3 (C : sv_C p l s m args meth c cc nL own G) {j : Nat} (hj : j < 8) {ix : Nat} {x : Int32} (hx : x = 0 ∨ x = 1) (hlink : Cond.fieldLink own ix "StairLight$Stairs" "isNight" "Z" ∈ sv_tbl) (d : decode cc pc = .ok (.putfield ix, 3)) (kk : sv_V p l e R s m args below meth c nL G Q k n (sv_W G z (sv_w M j 6 x) o) (pc + 3) lv st) : sv_V p l e R s m args below meth c nL G Q k n (sv_W G z M o) pc lv (.int x :: .ref (sv_r G 0 j) :: st) := sv_putg C (f := 3) (ty := .boolean) sv_cl3 (Nat.le_add_right _ _) (fun H h => h.2.2 0 j (by simp [sv_ok, hj])) (by decide) hlink rfl (by decide +kernel) (by rcases hx with rfl | rfl <;> rfl) (by rcases hx with rfl | rfl <;> rfl) rfl (fun H H1 h z1 oq hat => by
  refine h.put (c := 0) (j := j) (q := j) (i := 6) (by simp [sv_ok, hj]) (by simp [sv_ow, hj]) z1 oq ?_
  have e : sv_e G (sv_w M j 6 x) o 0 j = .inr (3, [.ref (sv_r G 1 j), .ref (sv_r G 8 j), .ref (sv_r G 13 j), .int x, .int (M j 7), .int (M j 4), .int (M j 8)]) := by
    rw [sv_e0]
    simp [sv_w]
  rw [e]
  exact hat) d kk
theorem sv_get_3_4 (C : sv_C p l s m args meth c cc nL own G) {j : Nat} (hj : j < 8) {ix : Nat} (hlink : Cond.fieldLink own ix "StairLight$Stairs" "isFire" "Z" ∈ sv_tbl) (d : decode cc pc = .ok (.getfield ix, 3)) (kk : sv_V p l e R s m args below meth c nL G Q k n (sv_W G z M o) (pc + 3) lv (.int (M j 7) :: st)) : sv_V p l e R s m args below meth c nL G Q k n (sv_W G z M o) pc lv (.ref (sv_r G 0 j) :: st) := sv_getg C (f := 4) sv_cl3 (fun H h => h.2.2 0 j (by simp [sv_ok, hj])) (by decide) hlink rfl d kk
theorem sv_put_3_4 (C : sv_C p l s m args meth c cc nL own G) {j : Nat} (hj : j < 8) {ix : Nat} {x : Int32} (hx : x = 0 ∨ x = 1) (hlink : Cond.fieldLink own ix "StairLight$Stairs" "isFire" "Z" ∈ sv_tbl) (d : decode cc pc = .ok (.putfield ix, 3)) (kk : sv_V p l e R s m args below meth c nL G Q k n (sv_W G z (sv_w M j 7 x) o) (pc + 3) lv st) : sv_V p l e R s m args below meth c nL G Q k n (sv_W G z M o) pc lv (.int x :: .ref (sv_r G 0 j) :: st) := sv_putg C (f := 4) (ty := .boolean) sv_cl3 (Nat.le_add_right _ _) (fun H h => h.2.2 0 j (by simp [sv_ok, hj])) (by decide) hlink rfl (by decide +kernel) (by rcases hx with rfl | rfl <;> rfl) (by rcases hx with rfl | rfl <;> rfl) rfl (fun H H1 h z1 oq hat => by
  refine h.put (c := 0) (j := j) (q := j) (i := 7) (by simp [sv_ok, hj]) (by simp [sv_ow, hj]) z1 oq ?_
  have e : sv_e G (sv_w M j 7 x) o 0 j = .inr (3, [.ref (sv_r G 1 j), .ref (sv_r G 8 j), .ref (sv_r G 13 j), .int (M j 6), .int x, .int (M j 4), .int (M j 8)]) := by
    rw [sv_e0]
    simp [sv_w]
  rw [e]
  exact hat) d kk
theorem sv_get_3_5 (C : sv_C p l s m args meth c cc nL own G) {j : Nat} (hj : j < 8) {ix : Nat} (hlink : Cond.fieldLink own ix "StairLight$Stairs" "seconds" "I" ∈ sv_tbl) (d : decode cc pc = .ok (.getfield ix, 3)) (kk : sv_V p l e R s m args below meth c nL G Q k n (sv_W G z M o) (pc + 3) lv (.int (M j 4) :: st)) : sv_V p l e R s m args below meth c nL G Q k n (sv_W G z M o) pc lv (.ref (sv_r G 0 j) :: st) := sv_getg C (f := 5) sv_cl3 (fun H h => h.2.2 0 j (by simp [sv_ok, hj])) (by decide) hlink rfl d kk
theorem sv_put_3_5 (C : sv_C p l s m args meth c cc nL own G) {j : Nat} (hj : j < 8) {ix : Nat} {x : Int32} (hlink : Cond.fieldLink own ix "StairLight$Stairs" "seconds" "I" ∈ sv_tbl) (d : decode cc pc = .ok (.putfield ix, 3)) (kk : sv_V p l e R s m args below meth c nL G Q k n (sv_W G z (sv_w M j 4 x) o) (pc + 3) lv st) : sv_V p l e R s m args below meth c nL G Q k n (sv_W G z M o) pc lv (.int x :: .ref (sv_r G 0 j) :: st) := sv_putg C (f := 5) (ty := .int) sv_cl3 (Nat.le_add_right _ _) (fun H h => h.2.2 0 j (by simp [sv_ok, hj])) (by decide) hlink rfl (by decide +kernel) rfl rfl rfl (fun H H1 h z1 oq hat => by
  refine h.put (c := 0) (j := j) (q := j) (i := 4) (by simp [sv_ok, hj]) (by simp [sv_ow, hj]) z1 oq ?_
  have e : sv_e G (sv_w M j 4 x) o 0 j = .inr (3, [.ref (sv_r G 1 j), .ref (sv_r G 8 j), .ref (sv_r G 13 j), .int (M j 6), .int (M j 7), .int x, .int (M j 8)]) := by
    rw [sv_e0]
    simp [sv_w]
  rw [e]
  exact hat) d kk
theorem sv_get_3_6 (C : sv_C p l s m args meth c cc nL own G) {j : Nat} (hj : j < 8) {ix : Nat} (hlink : Cond.fieldLink own ix "StairLight$Stairs" "secondsOfPeople" "I" ∈ sv_tbl) (d : decode cc pc = .ok (.getfield ix, 3)) (kk : sv_V p l e R s m args below meth c nL G Q k n (sv_W G z M o) (pc + 3) lv (.int (M j 8) :: st)) : sv_V p l e R s m args below meth c nL G Q k n (sv_W G z M o) pc lv (.ref (sv_r G 0 j) :: st) := sv_getg C (f := 6) sv_cl3 (fun H h => h.2.2 0 j (by simp [sv_ok, hj])) (by decide) hlink rfl d kk
theorem sv_put_3_6 (C : sv_C p l s m args meth c cc nL own G) {j : Nat} (hj : j < 8) {ix : Nat} {x : Int32} (hlink : Cond.fieldLink own ix "StairLight$Stairs" "secondsOfPeople" "I" ∈ sv_tbl) (d : decode cc pc = .ok (.putfield ix, 3)) (kk : sv_V p l e R s m args below meth c nL G Q k n (sv_W G z (sv_w M j 8 x) o) (pc + 3) lv st) : sv_V p l e R s m args below meth c nL G Q k n (sv_W G z M o) pc lv (.int x :: .ref (sv_r G 0 j) :: st) := sv_putg C (f := 6) (ty := .int) sv_cl3 (Nat.le_add_right _ _) (fun H h => h.2.2 0 j (by simp [sv_ok, hj])) (by decide) hlink rfl (by decide +kernel) rfl rfl rfl (fun H H1 h z1 oq hat => by
  refine h.put (c := 0) (j := j) (q := j) (i := 8) (by simp [sv_ok, hj]) (by simp [sv_ow, hj]) z1 oq ?_
  have e : sv_e G (sv_w M j 8 x) o 0 j = .inr (3, [.ref (sv_r G 1 j), .ref (sv_r G 8 j), .ref (sv_r G 13 j), .int (M j 6), .int (M j 7), .int (M j 4), .int x]) := by
    rw [sv_e0]
    simp [sv_w]
  rw [e]
  exact hat) d kk
theorem sv_get_4_0 (C : sv_C p l s m args meth c cc nL own G) {ix : Nat} (hlink : Cond.fieldLink own ix "StairLight$Walks" "codes" "[C" ∈ sv_tbl) (d : decode cc pc = .ok (.getfield ix, 3)) (kk : sv_V p l e R s m args below meth c nL G Q k n (sv_W G z M o) (pc + 3) lv (.ref (sv_r G 18 0) :: st)) : sv_V p l e R s m args below meth c nL G Q k n (sv_W G z M o) pc lv (.ref (sv_r G 17 0) :: st) := sv_getg C (f := 0) sv_cl4 (fun H h => h.2.2 17 0 rfl) (by decide) hlink rfl d kk
theorem sv_get_4_1 (C : sv_C p l s m args meth c cc nL own G) {ix : Nat} (hlink : Cond.fieldLink own ix "StairLight$Walks" "length" "I" ∈ sv_tbl) (d : decode cc pc = .ok (.getfield ix, 3)) (kk : sv_V p l e R s m args below meth c nL G Q k n (sv_W G z M o) (pc + 3) lv (.int (M 9 60) :: st)) : sv_V p l e R s m args below meth c nL G Q k n (sv_W G z M o) pc lv (.ref (sv_r G 17 0) :: st) := sv_getg C (f := 1) sv_cl4 (fun H h => h.2.2 17 0 rfl) (by decide) hlink rfl d kk
theorem sv_put_4_1 (C : sv_C p l s m args meth c cc nL own G) {ix : Nat} {x : Int32} (hlink : Cond.fieldLink own ix "StairLight$Walks" "length" "I" ∈ sv_tbl) (d : decode cc pc = .ok (.putfield ix, 3)) (kk : sv_V p l e R s m args below meth c nL G Q k n (sv_W G z (sv_w M 9 60 x) o) (pc + 3) lv st) : sv_V p l e R s m args below meth c nL G Q k n (sv_W G z M o) pc lv (.int x :: .ref (sv_r G 17 0) :: st) := sv_putg C (f := 1) (ty := .int) sv_cl4 (Nat.le_add_right _ _) (fun H h => h.2.2 17 0 rfl) (by decide) hlink rfl (by decide +kernel) rfl rfl rfl (fun H H1 h z1 oq hat => by
  refine h.put (c := 17) (j := 0) (q := 9) (i := 60) rfl (by simp [sv_ow]) z1 oq ?_
  have e : sv_e G (sv_w M 9 60 x) o 17 0 = .inr (4, [.ref (sv_r G 18 0), .int x]) := by
    rw [sv_e17]
    simp [sv_w]
  rw [e]
  exact hat) d kk
theorem sv_get_5_0 (C : sv_C p l s m args meth c cc nL own G) {ix : Nat} (hlink : Cond.fieldLink own ix "StairLight" "now" "LStairLight$Stairs;" ∈ sv_tbl) (d : decode cc pc = .ok (.getfield ix, 3)) (kk : sv_V p l e R s m args below meth c nL G Q k n (sv_W G z M o) (pc + 3) lv (.ref (sv_r G 0 0) :: st)) : sv_V p l e R s m args below meth c nL G Q k n (sv_W G z M o) pc lv (.ref (sv_r G 14 0) :: st) := sv_getg C (f := 0) sv_cl5 (fun H h => h.2.2 14 0 rfl) (by decide) hlink rfl d kk
theorem sv_get_5_1 (C : sv_C p l s m args meth c cc nL own G) {ix : Nat} (hlink : Cond.fieldLink own ix "StairLight" "trial" "LStairLight$Stairs;" ∈ sv_tbl) (d : decode cc pc = .ok (.getfield ix, 3)) (kk : sv_V p l e R s m args below meth c nL G Q k n (sv_W G z M o) (pc + 3) lv (.ref (sv_r G 0 1) :: st)) : sv_V p l e R s m args below meth c nL G Q k n (sv_W G z M o) pc lv (.ref (sv_r G 14 0) :: st) := sv_getg C (f := 1) sv_cl5 (fun H h => h.2.2 14 0 rfl) (by decide) hlink rfl d kk
theorem sv_get_5_2 (C : sv_C p l s m args meth c cc nL own G) {ix : Nat} (hlink : Cond.fieldLink own ix "StairLight" "history" "LStairLight$History;" ∈ sv_tbl) (d : decode cc pc = .ok (.getfield ix, 3)) (kk : sv_V p l e R s m args below meth c nL G Q k n (sv_W G z M o) (pc + 3) lv (.ref (sv_r G 15 0) :: st)) : sv_V p l e R s m args below meth c nL G Q k n (sv_W G z M o) pc lv (.ref (sv_r G 14 0) :: st) := sv_getg C (f := 2) sv_cl5 (fun H h => h.2.2 14 0 rfl) (by decide) hlink rfl d kk
theorem sv_get_5_3 (C : sv_C p l s m args meth c cc nL own G) {ix : Nat} (hlink : Cond.fieldLink own ix "StairLight" "walks" "LStairLight$Walks;" ∈ sv_tbl) (d : decode cc pc = .ok (.getfield ix, 3)) (kk : sv_V p l e R s m args below meth c nL G Q k n (sv_W G z M o) (pc + 3) lv (.ref (sv_r G 17 0) :: st)) : sv_V p l e R s m args below meth c nL G Q k n (sv_W G z M o) pc lv (.ref (sv_r G 14 0) :: st) := sv_getg C (f := 3) sv_cl5 (fun H h => h.2.2 14 0 rfl) (by decide) hlink rfl d kk
end SVW
end
section
/-! contracts, calls, ends -/
abbrev sv_rm (d mc ms : Nat) : Room := { frames := d, cells := mc, slots := ms, locals := 36 * d }
def sv_Pc (G : sv_G) (Wd : Heap → Prop) (as : List Value) : Array Value → State → Prop := va_Pc as (fun U => Wd U.heap ∧ sv_K G U)
def sv_Qc (G : sv_G) (Wd' : Heap → Prop) (r : Option Value) : Array Value → State → Outcome → State → Prop := fun _ st o t => o = .returned r ∧ Wd' t.heap ∧ va_F (sv_A G) st t
def sv_Xc (G : sv_G) (E0 : String → Prop) (Wx : Heap → Prop) : String → State → State → Prop := fun E st t => E0 E ∧ Wx t.heap ∧ va_F (sv_A G) st t
/-- y returns r, and the world is Wd' -/
abbrev sv_Met (l : Launch) (G : sv_G) (y : MethodName) (b : ByteArray) (maxL : Nat) (ret : Option FieldType) (d : Nat) (as : List Value) (Wd : Heap → Prop) (r : Option Value) (Wd' : Heap → Prop) : Prop := Met l y [.code y b maxL ret] (sv_rm d 0 0) (sv_Pc G Wd as) (sv_Qc G Wd' r) 0 0 (sv_A G)
/-- y returns r (never, where ok is false), or throws an E with E0 E -/
abbrev sv_MetX (l : Launch) (G : sv_G) (y : MethodName) (b : ByteArray) (maxL : Nat) (ret : Option FieldType) (d mc : Nat) (as : List Value) (Wd : Heap → Prop) (ok : Prop) (r : Option Value) (Wd' : Heap → Prop) (E0 : String → Prop) (Wx : Heap → Prop) : Prop := vx_Met l y [.code y b maxL ret] (sv_rm d mc (6 * mc)) (sv_Pc G Wd as) (fun a st o t => ok ∧ sv_Qc G Wd' r a st o t) (sv_Xc G E0 Wx) mc (6 * mc) (sv_A G)
/-- a method by the tables -/
def sv_Yv (y : MethodName) (b : ByteArray) (maxL : Nat) (ret : Option FieldType) (n : Nat) : Prop := Cond.instanceMethod y ∈ sv_tbl ∧ Cond.selects y.cls y y ∈ sv_tbl ∧ Cond.initialized y.cls ∈ sv_tbl ∧ Cond.code y b maxL ret ∈ sv_tbl ∧ (y.cls ≠ "java/lang/invoke/MethodHandle" ∧ y.cls ≠ "java/lang/invoke/VarHandle" ∧ (parseMethodDescriptor y.desc).map (fun d => d.parameters.length) = some n)
def sv_Ys (y : MethodName) (b : ByteArray) (maxL : Nat) (ret : Option FieldType) (n : Nat) : Prop := Cond.static y ∈ sv_tbl ∧ Cond.initialized y.cls ∈ sv_tbl ∧ Cond.code y b maxL ret ∈ sv_tbl ∧ (y.cls ≠ "java/lang/invoke/MethodHandle" ∧ y.cls ≠ "java/lang/invoke/VarHandle" ∧ (parseMethodDescriptor y.desc).map (fun d => d.parameters.length) = some n)
def sv_Yi (y : MethodName) (b : ByteArray) (maxL : Nat) (n : Nat) : Prop := Cond.instanceMethod y ∈ sv_tbl ∧ Cond.initialized y.cls ∈ sv_tbl ∧ Cond.code y b maxL none ∈ sv_tbl ∧ y.name = "<init>" ∧ (y.cls ≠ "java/lang/invoke/MethodHandle" ∧ y.cls ≠ "java/lang/invoke/VarHandle" ∧ (parseMethodDescriptor y.desc).map (fun d => d.parameters.length) = some n)
theorem sv_blind (G : sv_G) (Wd : Heap → Prop) (as : List Value) : FrameBlind (sv_Pc G Wd as) := fun a U g mk h => ⟨h.1, h.2.1, sv_K.to (s := U) (U := U.calling g mk a) (State.WarmedH.refl U) (fun _ _ _ => rfl) h.2.2⟩
section SVC
variable {p : Program} {l : Launch} {e : Env} {R : Room} {s : State} {m : MethodId} {args : Array Value} {below : List Frame} {meth : Method} {c : Code} {k n nL : Nat} {Q : State → Prop} {G : sv_G} {Wd Wd' Wx : Heap → Prop}
variable {cc : ByteArray} {pc : Nat} {lv lv' : List (Nat × Value)} {st rest : List Value} {own : String} {z : Nat} {M : sv_M} {o : Int64}
variable {y : MethodName} {b : ByteArray} {maxL d mc ms ix N a : Nat} {ret : Option FieldType} {as : List Value} {r : Option Value} {E0 : String → Prop} {ok : Prop}
/-- what a callee may ask, at a call -/
theorem sv_pre (C : sv_C p l s m args meth c cc nL own G) {H : Heap} {locs : List Loc} {as0 : List Value} (hW : Wd H) (hS : va_S (sv_A G) s.heap H locs) {U : State} (hU : U.heap = H) (hw : s.WarmedH U.vm) : sv_Pc G Wd as0 as0.toArray U :=
  ⟨rfl, by rw [hU]; exact hW, sv_K.to hw (fun a h1 h2 => by rw [hU]; exact hS.2.1 a h1 h2) C.2.2.2.2.2⟩
theorem sv_cb (C : sv_C p l s m args meth c cc nL own G) {rm : Room} (hml : Cond.methodLink own ix y ∈ sv_tbl) (hini : Cond.initialized y.cls ∈ sv_tbl) (hcode : Cond.code y b maxL ret ∈ sv_tbl) (hy : y.cls ≠ "java/lang/invoke/MethodHandle" ∧ y.cls ≠ "java/lang/invoke/VarHandle" ∧ (parseMethodDescriptor y.desc).map (fun d => d.parameters.length) = some N) (hR : rm.frames + 1 ≤ R.frames ∧ 8 + (maxL + 11) + rm.locals ≤ R.locals) : CallB R s args own ix y b maxL ret [.code y b maxL ret] rm rm.cells rm.slots N := by
  refine ⟨rfl, rfl, hR.1, hR.2, ?_, List.mem_cons_self, C.2.2.2.2.2.word hcode args, C.2.2.2.2.2.word hini args, ⟨hy.1, hy.2.1⟩, fun sig h => ?_, C.2.2.2.2.2.word hml args⟩
  · intro w hw a' U hW
    rcases List.mem_singleton.mp hw with rfl
    exact word_at hW (sv_good hcode) (C.2.2.2.2.2.word hcode args)
  · have h2 := hy.2.2
    rw [h] at h2
    exact (Option.some.inj h2).symm
theorem sv_cn (C : sv_C p l s m args meth c cc nL own G) {rm : Room} {host : String} (hml : (own, ix, y, host) ∈ sv_nests) (hini : Cond.initialized y.cls ∈ sv_tbl) (hcode : Cond.code y b maxL ret ∈ sv_tbl) (hy : y.cls ≠ "java/lang/invoke/MethodHandle" ∧ y.cls ≠ "java/lang/invoke/VarHandle" ∧ (parseMethodDescriptor y.desc).map (fun d => d.parameters.length) = some N) (hR : rm.frames + 1 ≤ R.frames ∧ 8 + (maxL + 11) + rm.locals ≤ R.locals) : va_CN R s args own ix y host b maxL ret [.code y b maxL ret] rm rm.cells rm.slots N := by
  refine ⟨⟨rfl, rfl, hR.1, hR.2, ?_, List.mem_cons_self⟩, C.2.2.2.2.2.word hcode args, C.2.2.2.2.2.word hini args, ⟨hy.1, hy.2.1⟩, fun sig h => ?_, va_Nw.use rfl (C.2.2.2.2.2.2.2.1.1.1 _ hml)⟩
  · intro w hw a' U hW
    rcases List.mem_singleton.mp hw with rfl
    exact word_at hW (sv_good hcode) (C.2.2.2.2.2.word hcode args)
  · have h2 := hy.2.2
    rw [h] at h2
    exact (Option.some.inj h2).symm
/-- behind a call that returns -/
theorem sv_run {av : Array Value} (hr : ∀ H locs ls, Wd H → va_S (sv_A G) s.heap H locs → lv_has ls nL lv → va_Run p l e R s m args below meth c H locs k n mc ms (F0 m pc ls st) rest (sv_Qc G Wd' r av) (sv_A G)) (kk : sv_V p l e R s m args below meth c nL G Q (k + mc) (n + ms) Wd' (pc + 3) lv (r.toList ++ rest)) : sv_V p l e R s m args below meth c nL G Q k n Wd pc lv st := by
  intro H locs ls h1 h2 h3 T hT X
  obtain ⟨v, st₀, t, T', L, h0, X', hL, e1, e2, ⟨hv, hw, hz, hk⟩, go⟩ := hr H locs ls h1 h2 h3 T hT X
  cases hv
  rw [h0] at hz hk
  obtain ⟨t2, a1, b1⟩ := kk T'.heap (locs ++ L) ls (by rw [e1]; exact hw) ⟨Nat.le_trans h2.1 (by rw [e1]; exact hz), fun q g1 g2 => by rw [e1, hk q (Nat.lt_of_lt_of_le g1 h2.1) g2]; exact h2.2.1 q g1 g2, fun q hq => by
      rcases List.mem_append.mp hq with h | h
      · exact h2.2.2 q h
      · exact hL q h⟩ h3 T' rfl X'
  exact ⟨t2, go t2 a1, b1⟩
/-- q is thrown over this frame, in any heap of the world -/
def sv_X (p : Program) (l : Launch) (e : Env) (R : Room) (s : State) (m : MethodId) (args : Array Value) (below : List Frame) (meth : Method) (c : Code) (nL : Nat) (G : sv_G) (Q : State → Prop) (k n : Nat) (Wx : Heap → Prop) (E : String) (pc : Nat) (lv : List (Nat × Value)) (st : List Value) : Prop :=
  ∀ (H : Heap) (locs : List Loc) (ls : Array Slot) (q : Addr) (ce : Cell), Wx H → va_S (sv_A G) s.heap H locs → lv_has ls nL lv → H[q]? = some ce → ce.vm = .none → s.vm.findClass E = some ce.cls → vx_W p l e R s m args below meth c H locs k n Q (F0 m pc ls st) q
theorem sv_runX {av : Array Value} (hr : ∀ H locs ls, Wd H → va_S (sv_A G) s.heap H locs → lv_has ls nL lv → vx_Run p l e R s m args below meth c H locs k n mc ms (F0 m pc ls st) rest (fun st o t => ok ∧ sv_Qc G Wd' r av st o t) (sv_Xc G E0 Wx) (sv_A G)) (kx : ∀ E, E0 E → sv_X p l e R s m args below meth c nL G Q (k + mc) (n + ms) Wx E pc lv rest) (kk : ok → sv_V p l e R s m args below meth c nL G Q (k + mc) (n + ms) Wd' (pc + 3) lv (r.toList ++ rest)) : sv_V p l e R s m args below meth c nL G Q k n Wd pc lv st := by
  intro H locs ls h1 h2 h3 T hT X
  rcases hr H locs ls h1 h2 h3 T hT X with ⟨v, st₀, t, T', L, h0, X', hL, e1, e2, ⟨hok, hv, hw, hz, hk⟩, go⟩ | ⟨q, st₀, t, T', L, E, ce, h0, X', hL, e1, e2, ⟨hE, hw, hz, hk⟩, hce, hcv, hcl, go⟩
  · cases hv
    rw [h0] at hz hk
    obtain ⟨t2, a1, b1⟩ := kk hok T'.heap (locs ++ L) ls (by rw [e1]; exact hw) ⟨Nat.le_trans h2.1 (by rw [e1]; exact hz), fun q g1 g2 => by rw [e1, hk q (Nat.lt_of_lt_of_le g1 h2.1) g2]; exact h2.2.1 q g1 g2, fun q hq => by
        rcases List.mem_append.mp hq with h | h
        · exact h2.2.2 q h
        · exact hL q h⟩ h3 T' rfl X'
    exact ⟨t2, go t2 a1, b1⟩
  · rw [h0] at hz hk
    obtain ⟨t2, a1, b1⟩ := kx E hE T'.heap (locs ++ L) ls q ce (by rw [e1]; exact hw) ⟨Nat.le_trans h2.1 (by rw [e1]; exact hz), fun q g1 g2 => by rw [e1, hk q (Nat.lt_of_lt_of_le g1 h2.1) g2]; exact h2.2.1 q g1 g2, fun q hq => by
        rcases List.mem_append.mp hq with h | h
        · exact h2.2.2 q h
        · exact hL q h⟩ h3 (by rw [e1]; exact hce) hcv hcl T' rfl X'
    exact ⟨t2, Steps.trans go a1, b1⟩
abbrev sv_recv (s : State) (Wd : Heap → Prop) (Cn : String) (a : Nat) : Prop := ∀ H, Wd H → ∃ cell : Cell, H[a]? = some cell ∧ cell.vm.isStatics = false ∧ s.vm.findClass Cn = some cell.cls
theorem sv_recvg (C : sv_C p l s m args meth c cc nL own G) {ci : Nat} {Cn : String} {T : u_T} {N' : Nat} {fs : List Value} (hcl : vwCl[ci]? = some (Cn, T, N')) (hat : ∀ H, Wd H → va_at (sv_D G) vwCl (a, .inr (ci, fs)) H) : sv_recv s Wd Cn a := fun H h => va_recv (q := (Cn, T, N')) C.2.2.2.2.2.1 (sv_one (hat H h)) hcl (q0 := 0) rfl
theorem sv_callV (C : sv_C p l s m args meth c cc nL own G) (hM : sv_Met l G y b maxL ret d (.ref a :: as) Wd r Wd') (hY : sv_Yv y b maxL ret as.length) (hml : Cond.methodLink own ix y ∈ sv_tbl) (hrc : sv_recv s Wd y.cls a) (hR : d + 1 ≤ R.frames ∧ 8 + (maxL + 11) + 36 * d ≤ R.locals) (hrest : (rest.map fun v => v.category).sum ≤ 8) (dg : decode cc pc = .ok (.invokevirtual ix, 3)) (hf : k ≤ R.cells ∧ n ≤ R.slots) (kk : sv_V p l e R s m args below meth c nL G Q k n Wd' (pc + 3) lv (r.toList ++ rest)) : sv_V p l e R s m args below meth c nL G Q k n Wd pc lv (as.reverse ++ .ref a :: rest) := sv_run (mc := 0) (ms := 0) (fun H locs ls h1 h2 h3 => va_runV (Ts := sv_tbl) ⟨C.1, C.2.1, C.2.2.1, C.2.2.2.1, fun w hw => C.2.2.2.2.2.word hw args⟩ hM ⟨sv_cb C hml hY.2.2.1 hY.2.2.2.1 hY.2.2.2.2 hR, C.2.2.2.2.2.word hY.1 args, C.2.2.2.2.2.word hY.2.1 args⟩ ⟨sv_blind _ _ _, hrc H h1, fun U hU hw => sv_pre C h1 h2 hU hw⟩ rfl rfl h3.1 rfl (lv_room hrest) dg hf) kk
theorem sv_callS (C : sv_C p l s m args meth c cc nL own G) (hM : sv_Met l G y b maxL ret d as Wd r Wd') (hY : sv_Ys y b maxL ret as.length) (hml : Cond.methodLink own ix y ∈ sv_tbl) (hR : d + 1 ≤ R.frames ∧ 8 + (maxL + 11) + 36 * d ≤ R.locals) (hrest : (rest.map fun v => v.category).sum ≤ 8) (dg : decode cc pc = .ok (.invokestatic ix, 3)) (hf : k ≤ R.cells ∧ n ≤ R.slots) (kk : sv_V p l e R s m args below meth c nL G Q k n Wd' (pc + 3) lv (r.toList ++ rest)) : sv_V p l e R s m args below meth c nL G Q k n Wd pc lv (as.reverse ++ rest) := sv_run (mc := 0) (ms := 0) (fun H locs ls h1 h2 h3 => va_runS (Ts := sv_tbl) ⟨C.1, C.2.1, C.2.2.1, C.2.2.2.1, fun w hw => C.2.2.2.2.2.word hw args⟩ hM ⟨sv_cb C hml hY.2.1 hY.2.2.1 hY.2.2.2 hR, C.2.2.2.2.2.word hY.1 args⟩ ⟨sv_blind _ _ _, fun U hU hw => sv_pre C h1 h2 hU hw⟩ rfl rfl h3.1 rfl (lv_room hrest) dg hf) kk
theorem sv_callN (C : sv_C p l s m args meth c cc nL own G) (hM : sv_Met l G y b maxL ret d as Wd r Wd') (hY : sv_Ys y b maxL ret as.length) {host : String} (hml : (own, ix, y, host) ∈ sv_nests) (hR : d + 1 ≤ R.frames ∧ 8 + (maxL + 11) + 36 * d ≤ R.locals) (hrest : (rest.map fun v => v.category).sum ≤ 8) (dg : decode cc pc = .ok (.invokestatic ix, 3)) (hf : k ≤ R.cells ∧ n ≤ R.slots) (kk : sv_V p l e R s m args below meth c nL G Q k n Wd' (pc + 3) lv (r.toList ++ rest)) : sv_V p l e R s m args below meth c nL G Q k n Wd pc lv (as.reverse ++ rest) := sv_run (mc := 0) (ms := 0) (fun H locs ls h1 h2 h3 => va_runSN (Ts := sv_tbl) ⟨C.1, C.2.1, C.2.2.1, C.2.2.2.1, fun w hw => C.2.2.2.2.2.word hw args⟩ hM ⟨sv_cn C hml hY.2.1 hY.2.2.1 hY.2.2.2 hR, C.2.2.2.2.2.word hY.1 args, trivial⟩ ⟨sv_blind _ _ _, fun U hU hw => sv_pre C h1 h2 hU hw⟩ rfl rfl h3.1 rfl (lv_room hrest) dg hf) kk
theorem sv_callI (C : sv_C p l s m args meth c cc nL own G) (hM : sv_Met l G y b maxL none d (.ref a :: as) Wd r Wd') (hY : sv_Yi y b maxL as.length) (hml : Cond.methodLink own ix y ∈ sv_tbl) (hR : d + 1 ≤ R.frames ∧ 8 + (maxL + 11) + 36 * d ≤ R.locals) (hrest : (rest.map fun v => v.category).sum ≤ 8) (dg : decode cc pc = .ok (.invokespecial ix, 3)) (hf : k ≤ R.cells ∧ n ≤ R.slots) (kk : sv_V p l e R s m args below meth c nL G Q k n Wd' (pc + 3) lv (r.toList ++ rest)) : sv_V p l e R s m args below meth c nL G Q k n Wd pc lv (as.reverse ++ .ref a :: rest) := sv_run (mc := 0) (ms := 0) (fun H locs ls h1 h2 h3 => va_runI (Ts := sv_tbl) ⟨C.1, C.2.1, C.2.2.1, C.2.2.2.1, fun w hw => C.2.2.2.2.2.word hw args⟩ hM ⟨sv_cb C hml hY.2.1 hY.2.2.1 hY.2.2.2.2 hR, hY.2.2.2.1, C.2.2.2.2.2.word hY.1 args⟩ ⟨sv_blind _ _ _, fun U hU hw => sv_pre C h1 h2 hU hw⟩ rfl rfl h3.1 rfl (lv_room hrest) dg hf) kk
theorem sv_callVX (C : sv_C p l s m args meth c cc nL own G) (hM : sv_MetX l G y b maxL ret d mc (.ref a :: as) Wd ok r Wd' E0 Wx) (hY : sv_Yv y b maxL ret as.length) (hml : Cond.methodLink own ix y ∈ sv_tbl) (hrc : sv_recv s Wd y.cls a) (hR : d + 1 ≤ R.frames ∧ 8 + (maxL + 11) + 36 * d ≤ R.locals) (hrest : (rest.map fun v => v.category).sum ≤ 8) (dg : decode cc pc = .ok (.invokevirtual ix, 3)) (hf : k + mc ≤ R.cells ∧ n + 6 * mc ≤ R.slots) (kx : ∀ E, E0 E → sv_X p l e R s m args below meth c nL G Q (k + mc) (n + 6 * mc) Wx E pc lv rest) (kk : ok → sv_V p l e R s m args below meth c nL G Q (k + mc) (n + 6 * mc) Wd' (pc + 3) lv (r.toList ++ rest)) : sv_V p l e R s m args below meth c nL G Q k n Wd pc lv (as.reverse ++ .ref a :: rest) := sv_runX (fun H locs ls h1 h2 h3 => vx_runV (Ts := sv_tbl) ⟨C.1, C.2.1, C.2.2.1, C.2.2.2.1, fun w hw => C.2.2.2.2.2.word hw args⟩ hM ⟨sv_cb C hml hY.2.2.1 hY.2.2.2.1 hY.2.2.2.2 hR, C.2.2.2.2.2.word hY.1 args, C.2.2.2.2.2.word hY.2.1 args⟩ ⟨sv_blind _ _ _, hrc H h1, fun U hU hw => sv_pre C h1 h2 hU hw⟩ rfl rfl h3.1 rfl (lv_room hrest) dg hf) kx kk
theorem sv_callSX (C : sv_C p l s m args meth c cc nL own G) (hM : sv_MetX l G y b maxL ret d mc as Wd ok r Wd' E0 Wx) (hY : sv_Ys y b maxL ret as.length) (hml : Cond.methodLink own ix y ∈ sv_tbl) (hR : d + 1 ≤ R.frames ∧ 8 + (maxL + 11) + 36 * d ≤ R.locals) (hrest : (rest.map fun v => v.category).sum ≤ 8) (dg : decode cc pc = .ok (.invokestatic ix, 3)) (hf : k + mc ≤ R.cells ∧ n + 6 * mc ≤ R.slots) (kx : ∀ E, E0 E → sv_X p l e R s m args below meth c nL G Q (k + mc) (n + 6 * mc) Wx E pc lv rest) (kk : ok → sv_V p l e R s m args below meth c nL G Q (k + mc) (n + 6 * mc) Wd' (pc + 3) lv (r.toList ++ rest)) : sv_V p l e R s m args below meth c nL G Q k n Wd pc lv (as.reverse ++ rest) := sv_runX (fun H locs ls h1 h2 h3 => vx_runS (Ts := sv_tbl) ⟨C.1, C.2.1, C.2.2.1, C.2.2.2.1, fun w hw => C.2.2.2.2.2.word hw args⟩ hM ⟨sv_cb C hml hY.2.1 hY.2.2.1 hY.2.2.2 hR, C.2.2.2.2.2.word hY.1 args⟩ ⟨sv_blind _ _ _, fun U hU hw => sv_pre C h1 h2 hU hw⟩ rfl rfl h3.1 rfl (lv_room hrest) dg hf) kx kk
theorem sv_ofW {ret : Option FieldType} (hy : plainName y.cls = true) (hin : Cond.code y b maxL ret ∈ sv_tbl) (hlen : (lg_sl as).length ≤ maxL) (body : ∀ p e s m args below meth c, meth.sig.returnType = ret → sv_C p l s m args meth c b maxL y.cls G → (y.name = "<init>" → meth.name = "<init>") → sv_V p l e (sv_rm d mc ms) s m args below meth c maxL G (MQ below (sv_Qc G Wd' r) args s mc ms (sv_A G)) 0 0 Wd 0 (lv_args 0 as) []) : Met l y [.code y b maxL ret] (sv_rm d mc ms) (sv_Pc G Wd as) (sv_Qc G Wd' r) mc ms (sv_A G) := by
  refine Met.ofW (cc := b) (maxL := maxL) (ret := ret) hy rfl ?_
  intro p e s m args below meth c s₁ B hml hv
  obtain ⟨rfl, hw, hK⟩ := hv
  have hl := lv_entry as (n := maxL) hlen
  rw [lg_entry_eq]
  exact body p e s m _ below meth c B.returns ⟨B.exec, B.bytes, hml, findClass_of_methodNamed B.named, B.notSynchronized, hK⟩ (fun h => (name_of_methodNamed B.named B.method).1.trans h) s.heap [] _ hw va_S.rf hl
theorem sv_ofWX {ret : Option FieldType} {Qc : Array Value → State → Outcome → State → Prop} {XC : String → State → State → Prop} (hy : plainName y.cls = true) (hin : Cond.code y b maxL ret ∈ sv_tbl) (hlen : (lg_sl as).length ≤ maxL) (body : ∀ p e s m args below meth c, meth.sig.returnType = ret → sv_C p l s m args meth c b maxL y.cls G → (∀ x ∈ c.exceptionTable.toList, False) → sv_V p l e (sv_rm d mc ms) s m args below meth c maxL G (vx_MQ below Qc XC args s mc ms (sv_A G)) 0 0 Wd 0 (lv_args 0 as) []) : vx_Met l y [.code y b maxL ret] (sv_rm d mc ms) (sv_Pc G Wd as) Qc XC mc ms (sv_A G) := by
  refine vx_ofW (cc := b) (maxL := maxL) (ret := ret) hy rfl ?_
  intro p e s m args below meth c s₁ B hml hx hv
  obtain ⟨rfl, hw, hK⟩ := hv
  have hl := lv_entry as (n := maxL) hlen
  rw [lg_entry_eq]
  exact body p e s m _ below meth c B.returns ⟨B.exec, B.bytes, hml, findClass_of_methodNamed B.named, B.notSynchronized, hK⟩ hx s.heap [] _ hw va_S.rf hl
theorem sv_iret (C : sv_C p l s m args meth c cc nL own G) {v v' : Int32} (hr : meth.sig.returnType = some .int) (d : decode cc pc = .ok (.ireturn, 1)) (hk : k ≤ mc) (hn : n ≤ ms) (hv : v = v') (hw : ∀ H, Wd H → Wd' H) : sv_V p l e R s m args below meth c nL G (MQ below (sv_Qc G Wd' (some (.int v'))) args s mc ms (sv_A G)) k n Wd pc lv [.int v] := by
  subst hv
  intro H locs ls h1 h2 h3
  exact W.widen hk hn (W.iret C.1 C.2.1 hr (fun t ht _ => ⟨rfl, by rw [ht]; exact hw H h1, h2.F ht⟩) h2.2.2 d (hlocks := C.2.2.2.2.1))
theorem sv_iretX (C : sv_C p l s m args meth c cc nL own G) {v v' : Int32} {XC : String → State → State → Prop} (hok : ok) (hr : meth.sig.returnType = some .int) (d : decode cc pc = .ok (.ireturn, 1)) (hk : k ≤ mc) (hn : n ≤ ms) (hv : v = v') (hw : ∀ H, Wd H → Wd' H) : sv_V p l e R s m args below meth c nL G (vx_MQ below (fun a st o t => ok ∧ sv_Qc G Wd' (some (.int v')) a st o t) XC args s mc ms (sv_A G)) k n Wd pc lv [.int v] := by
  subst hv
  intro H locs ls h1 h2 h3
  exact vx_ret (W.widen hk hn (W.iret C.1 C.2.1 hr (fun t ht _ => ⟨hok, rfl, by rw [ht]; exact hw H h1, h2.F ht⟩) h2.2.2 d (hlocks := C.2.2.2.2.1)))
theorem sv_lret (C : sv_C p l s m args meth c cc nL own G) {v v' : Int64} (hr : meth.sig.returnType = some .long) (d : decode cc pc = .ok (.lreturn, 1)) (hk : k ≤ mc) (hn : n ≤ ms) (hv : v = v') (hw : ∀ H, Wd H → Wd' H) : sv_V p l e R s m args below meth c nL G (MQ below (sv_Qc G Wd' (some (.long v'))) args s mc ms (sv_A G)) k n Wd pc lv [.long v] := by
  subst hv
  intro H locs ls h1 h2 h3
  exact W.widen hk hn (W.lret C.1 C.2.1 hr (fun t ht _ => ⟨rfl, by rw [ht]; exact hw H h1, h2.F ht⟩) h2.2.2 d (hlocks := C.2.2.2.2.1))
theorem sv_lretX (C : sv_C p l s m args meth c cc nL own G) {v v' : Int64} {XC : String → State → State → Prop} (hok : ok) (hr : meth.sig.returnType = some .long) (d : decode cc pc = .ok (.lreturn, 1)) (hk : k ≤ mc) (hn : n ≤ ms) (hv : v = v') (hw : ∀ H, Wd H → Wd' H) : sv_V p l e R s m args below meth c nL G (vx_MQ below (fun a st o t => ok ∧ sv_Qc G Wd' (some (.long v')) a st o t) XC args s mc ms (sv_A G)) k n Wd pc lv [.long v] := by
  subst hv
  intro H locs ls h1 h2 h3
  exact vx_ret (W.widen hk hn (W.lret C.1 C.2.1 hr (fun t ht _ => ⟨hok, rfl, by rw [ht]; exact hw H h1, h2.F ht⟩) h2.2.2 d (hlocks := C.2.2.2.2.1)))
theorem sv_dret (C : sv_C p l s m args meth c cc nL own G) {v v' : UInt64} (hr : meth.sig.returnType = some .double) (d : decode cc pc = .ok (.dreturn, 1)) (hk : k ≤ mc) (hn : n ≤ ms) (hv : v = v') (hw : ∀ H, Wd H → Wd' H) : sv_V p l e R s m args below meth c nL G (MQ below (sv_Qc G Wd' (some (.double v'))) args s mc ms (sv_A G)) k n Wd pc lv [.double v] := by
  subst hv
  intro H locs ls h1 h2 h3
  exact W.widen hk hn (W.dret C.1 C.2.1 hr (fun t ht _ => ⟨rfl, by rw [ht]; exact hw H h1, h2.F ht⟩) h2.2.2 d (hlocks := C.2.2.2.2.1))
theorem sv_dretX (C : sv_C p l s m args meth c cc nL own G) {v v' : UInt64} {XC : String → State → State → Prop} (hok : ok) (hr : meth.sig.returnType = some .double) (d : decode cc pc = .ok (.dreturn, 1)) (hk : k ≤ mc) (hn : n ≤ ms) (hv : v = v') (hw : ∀ H, Wd H → Wd' H) : sv_V p l e R s m args below meth c nL G (vx_MQ below (fun a st o t => ok ∧ sv_Qc G Wd' (some (.double v')) a st o t) XC args s mc ms (sv_A G)) k n Wd pc lv [.double v] := by
  subst hv
  intro H locs ls h1 h2 h3
  exact vx_ret (W.widen hk hn (W.dret C.1 C.2.1 hr (fun t ht _ => ⟨hok, rfl, by rw [ht]; exact hw H h1, h2.F ht⟩) h2.2.2 d (hlocks := C.2.2.2.2.1)))
theorem sv_zret (C : sv_C p l s m args meth c cc nL own G) {v v' : Int32} (hz : v' = 0 ∨ v' = 1) (hr : meth.sig.returnType = some .boolean) (d : decode cc pc = .ok (.ireturn, 1)) (hk : k ≤ mc) (hn : n ≤ ms) (hv : v = v') (hw : ∀ H, Wd H → Wd' H) : sv_V p l e R s m args below meth c nL G (MQ below (sv_Qc G Wd' (some (.int v'))) args s mc ms (sv_A G)) k n Wd pc lv [.int v] := by
  subst hv
  intro H locs ls h1 h2 h3
  exact W.widen hk hn (W.zret C.1 C.2.1 hr (by rcases hz with rfl | rfl <;> rfl) (fun t ht _ => ⟨rfl, by rw [ht]; exact hw H h1, h2.F ht⟩) h2.2.2 d (hlocks := C.2.2.2.2.1))
theorem sv_nret (C : sv_C p l s m args meth c cc nL own G) {v v' : Int32} {ty : FieldType} (hz : narrow ty (.int v') = .int v') (hr : meth.sig.returnType = some ty) (d : decode cc pc = .ok (.ireturn, 1)) (hk : k ≤ mc) (hn : n ≤ ms) (hv : v = v') (hw : ∀ H, Wd H → Wd' H) : sv_V p l e R s m args below meth c nL G (MQ below (sv_Qc G Wd' (some (.int v'))) args s mc ms (sv_A G)) k n Wd pc lv [.int v] := by
  subst hv
  intro H locs ls h1 h2 h3
  exact W.widen hk hn (W.zret C.1 C.2.1 hr hz (fun t ht _ => ⟨rfl, by rw [ht]; exact hw H h1, h2.F ht⟩) h2.2.2 d (hlocks := C.2.2.2.2.1))
theorem sv_vret (C : sv_C p l s m args meth c cc nL own G) (hr : meth.sig.returnType = none) (d : decode cc pc = .ok (.return_, 1)) (hk : k ≤ mc) (hn : n ≤ ms) (hw : ∀ H, Wd H → Wd' H) : sv_V p l e R s m args below meth c nL G (MQ below (sv_Qc G Wd' none) args s mc ms (sv_A G)) k n Wd pc lv [] := by
  intro H locs ls h1 h2 h3
  exact W.widen hk hn (W.vret C.1 C.2.1 hr (fun t ht _ => ⟨rfl, by rw [ht]; exact hw H h1, h2.F ht⟩) h2.2.2 d (hlocks := C.2.2.2.2.1))
theorem sv_vretX (C : sv_C p l s m args meth c cc nL own G) {XC : String → State → State → Prop} (hok : ok) (hr : meth.sig.returnType = none) (d : decode cc pc = .ok (.return_, 1)) (hk : k ≤ mc) (hn : n ≤ ms) (hw : ∀ H, Wd H → Wd' H) : sv_V p l e R s m args below meth c nL G (vx_MQ below (fun a st o t => ok ∧ sv_Qc G Wd' none a st o t) XC args s mc ms (sv_A G)) k n Wd pc lv [] := by
  intro H locs ls h1 h2 h3
  exact vx_ret (W.widen hk hn (W.vret C.1 C.2.1 hr (fun t ht _ => ⟨hok, rfl, by rw [ht]; exact hw H h1, h2.F ht⟩) h2.2.2 d (hlocks := C.2.2.2.2.1)))
theorem sv_aret (C : sv_C p l s m args meth c cc nL own G) {v v' : Nat} {rt : FieldType} (hr : meth.sig.returnType = some rt) (hrt : (∃ n, rt = .object n) ∨ ∃ t, rt = .array t) (d : decode cc pc = .ok (.areturn, 1)) (hk : k ≤ mc) (hn : n ≤ ms) (hv : v = v') (hw : ∀ H, Wd H → Wd' H) : sv_V p l e R s m args below meth c nL G (MQ below (sv_Qc G Wd' (some (.ref v'))) args s mc ms (sv_A G)) k n Wd pc lv [.ref v] := by
  subst hv
  intro H locs ls h1 h2 h3
  exact W.widen hk hn (W.aret C.1 C.2.1 hr hrt (Or.inr ⟨_, rfl⟩) (fun t ht _ => ⟨rfl, by rw [ht]; exact hw H h1, h2.F ht⟩) h2.2.2 d (hlocks := C.2.2.2.2.1))
/-- a throw goes on to the caller -/
theorem sv_out (C : sv_C p l s m args meth c cc nL own G) {E : String} {Qc : Array Value → State → Outcome → State → Prop} (hx : ∀ x ∈ c.exceptionTable.toList, False) (hk : k ≤ mc) (hn : n ≤ ms) (hE : E0 E) (hw : ∀ H, Wd H → Wx H) : sv_X p l e R s m args below meth c nL G (vx_MQ below Qc (sv_Xc G E0 Wx) args s mc ms (sv_A G)) k n Wd E pc lv st := by
  intro H locs ls q ce h1 h2 h3 hce hcv hcl
  exact vx_out (fun x hx' => (hx x hx').elim) C.2.2.2.2.1 hce hcv hcl (fun t ht _ => ⟨hE, by rw [ht]; exact hw H h1, h2.F ht⟩) h2.2.2 hk hn
end SVC
end
section
/-! what is known of each method by the tables; rows over numbers of known size -/
section SVF
variable {p : Program} {l : Launch} {e : Env} {R : Room} {s : State} {m : MethodId} {args : Array Value} {below : List Frame} {meth : Method} {c : Code} {k n nL : Nat} {Q : State → Prop} {G : sv_G} {Wd Wd' Wx : Heap → Prop}
variable {cc : ByteArray} {pc : Nat} {lv lv' : List (Nat × Value)} {st rest : List Value} {own : String} {z : Nat} {M : sv_M} {o : Int64}
theorem sv_okj {c j : Nat} (hc : c < 14) (hj : j < 8) : sv_ok c j = true := by simp [sv_ok, hc, hj]
theorem sv_nlt (c : Nat) : sv_n c < 2147483648 := by
  unfold sv_n
  repeat' split
  all_goals decide
theorem sv_incN (a n : Nat) : nI a + Int32.ofInt (n : Int) = nI (a + n) := by
  rw [← nI_add]
  rfl
theorem sv_recv0 (C : sv_C p l s m args meth c cc nL own G) {j : Nat} (hj : j < 8) : sv_recv s (sv_W G z M o) RX3 (sv_r G 0 j) := sv_recvg C sv_cl3.1 (fun H h => h.2.2 0 j (sv_okj (by decide) hj))
theorem sv_recv1 (C : sv_C p l s m args meth c cc nL own G) {j : Nat} (hj : j < 8) : sv_recv s (sv_W G z M o) RX0 (sv_r G 1 j) := sv_recvg C sv_cl0.1 (fun H h => h.2.2 1 j (sv_okj (by decide) hj))
theorem sv_recv8 (C : sv_C p l s m args meth c cc nL own G) {j : Nat} (hj : j < 8) : sv_recv s (sv_W G z M o) RX2 (sv_r G 8 j) := sv_recvg C sv_cl2.1 (fun H h => h.2.2 8 j (sv_okj (by decide) hj))
theorem sv_recv14 (C : sv_C p l s m args meth c cc nL own G) : sv_recv s (sv_W G z M o) RX5 (sv_r G 14 0) := sv_recvg C sv_cl5.1 (fun H h => h.2.2 14 0 rfl)
theorem sv_recv15 (C : sv_C p l s m args meth c cc nL own G) : sv_recv s (sv_W G z M o) RX1 (sv_r G 15 0) := sv_recvg C sv_cl1.1 (fun H h => h.2.2 15 0 rfl)
theorem sv_recv17 (C : sv_C p l s m args meth c cc nL own G) : sv_recv s (sv_W G z M o) RX4 (sv_r G 17 0) := sv_recvg C sv_cl4.1 (fun H h => h.2.2 17 0 rfl)
theorem sv_ri {x : Int32} (kk : ∀ v : Int32, v = x → sv_V p l e R s m args below meth c nL G Q k n Wd pc lv (.int v :: st)) : sv_V p l e R s m args below meth c nL G Q k n Wd pc lv ((some (Value.int x)).toList ++ st) := kk x rfl
theorem sv_riN {x : Int32} (a : Nat) (h : x = nI a) (kk : sv_V p l e R s m args below meth c nL G Q k n Wd pc lv (.int (nI a) :: st)) : sv_V p l e R s m args below meth c nL G Q k n Wd pc lv ((some (Value.int x)).toList ++ st) := by subst h; exact kk
theorem sv_riS {x : Int32} (a : Int32) (h : x = a) (kk : sv_V p l e R s m args below meth c nL G Q k n Wd pc lv (.int a :: st)) : sv_V p l e R s m args below meth c nL G Q k n Wd pc lv ((some (Value.int x)).toList ++ st) := by subst h; exact kk
theorem sv_rl {x : Int64} (kk : ∀ v : Int64, v = x → sv_V p l e R s m args below meth c nL G Q k n Wd pc lv (.long v :: st)) : sv_V p l e R s m args below meth c nL G Q k n Wd pc lv ((some (Value.long x)).toList ++ st) := kk x rfl
theorem sv_rlS {x : Int64} (kk : sv_V p l e R s m args below meth c nL G Q k n Wd pc lv (.long x :: st)) : sv_V p l e R s m args below meth c nL G Q k n Wd pc lv ((some (Value.long x)).toList ++ st) := kk
theorem sv_rd {x : UInt64} (kk : ∀ v : UInt64, v = x → sv_V p l e R s m args below meth c nL G Q k n Wd pc lv (.double v :: st)) : sv_V p l e R s m args below meth c nL G Q k n Wd pc lv ((some (Value.double x)).toList ++ st) := kk x rfl
theorem sv_ra {x : Nat} (kk : sv_V p l e R s m args below meth c nL G Q k n Wd pc lv (.ref x :: st)) : sv_V p l e R s m args below meth c nL G Q k n Wd pc lv ((some (Value.ref x)).toList ++ st) := kk
theorem sv_rv (kk : sv_V p l e R s m args below meth c nL G Q k n Wd pc lv st) : sv_V p l e R s m args below meth c nL G Q k n Wd pc lv ((none : Option Value).toList ++ st) := kk
theorem sv_ialdN (C : sv_C p l s m args meth c cc nL own G) {c' j i : Nat} (q p' : Nat) (hq : sv_q c' j = q) (hp : sv_i c' i = p') (hok : sv_ok c' j = true) (hr : sv_ir c' = true) (h : i < sv_n c') (d : decode cc pc = .ok (.iaload, 1)) (kk : sv_V p l e R s m args below meth c nL G Q k n (sv_W G z M o) (pc + 1) lv (.int (M q p') :: st)) : sv_V p l e R s m args below meth c nL G Q k n (sv_W G z M o) pc lv (.int (nI i) :: .ref (sv_r G c' j) :: st) := by
  subst hq; subst hp
  have hs : i < 2 ^ 31 := Nat.lt_trans h (sv_nlt c')
  exact sv_iald C hok hr (vp_in_nI h (sv_nlt c')) d (by rw [nI_clamp hs]; exact kk)
theorem sv_iastN (C : sv_C p l s m args meth c cc nL own G) {c' j i : Nat} {x : Int32} (q p' : Nat) (hq : sv_q c' j = q) (hp : sv_i c' i = p') (hok : sv_ok c' j = true) (hr : sv_ir c' = true) (h : i < sv_n c') (d : decode cc pc = .ok (.iastore, 1)) (kk : sv_V p l e R s m args below meth c nL G Q k n (sv_W G z (sv_w M q p' x) o) (pc + 1) lv st) : sv_V p l e R s m args below meth c nL G Q k n (sv_W G z M o) pc lv (.int x :: .int (nI i) :: .ref (sv_r G c' j) :: st) := by
  subst hq; subst hp
  have hs : i < 2 ^ 31 := Nat.lt_trans h (sv_nlt c')
  exact sv_iast C hok hr (vp_in_nI h (sv_nlt c')) d (by rw [nI_clamp hs]; exact kk)
theorem sv_caldN (C : sv_C p l s m args meth c cc nL own G) {i : Nat} (h : i < 60) (d : decode cc pc = .ok (.caload, 1)) (kk : sv_V p l e R s m args below meth c nL G Q k n (sv_W G z M o) (pc + 1) lv (.int (M 9 i) :: st)) : sv_V p l e R s m args below meth c nL G Q k n (sv_W G z M o) pc lv (.int (nI i) :: .ref (sv_r G 18 0) :: st) := by
  have hs : i < 2 ^ 31 := by omega
  exact sv_cald C (vp_in_nI h (by decide)) d (by rw [nI_clamp hs]; exact kk)
theorem sv_icmp_eqN (C : sv_C p l s m args meth c cc nL own G) {a b : Nat} {off : Int} (tgt : Nat) (d : decode cc pc = .ok (.if_icmp .eq off, 3)) (ht : (pc : Int) + off = (tgt : Int)) (ha : a < 2147483648) (hb : b < 2147483648) (kt : a = b → sv_V p l e R s m args below meth c nL G Q k n Wd tgt lv st) (kf : ¬ a = b → sv_V p l e R s m args below meth c nL G Q k n Wd (pc + 3) lv st) : sv_V p l e R s m args below meth c nL G Q k n Wd pc lv (.int (nI b) :: .int (nI a) :: st) := sv_icmp_eq C tgt d ht (fun q => kt ((nI_eq ha hb).mp q)) (fun q => kf (fun z => q ((nI_eq ha hb).mpr z)))
theorem sv_icmp_neN (C : sv_C p l s m args meth c cc nL own G) {a b : Nat} {off : Int} (tgt : Nat) (d : decode cc pc = .ok (.if_icmp .ne off, 3)) (ht : (pc : Int) + off = (tgt : Int)) (ha : a < 2147483648) (hb : b < 2147483648) (kt : ¬ a = b → sv_V p l e R s m args below meth c nL G Q k n Wd tgt lv st) (kf : a = b → sv_V p l e R s m args below meth c nL G Q k n Wd (pc + 3) lv st) : sv_V p l e R s m args below meth c nL G Q k n Wd pc lv (.int (nI b) :: .int (nI a) :: st) := sv_icmp_ne C tgt d ht (fun q => kt (fun z => q ((nI_eq ha hb).mpr z))) (fun q => kf ((nI_eq ha hb).mp q))
theorem sv_icmp_ltN (C : sv_C p l s m args meth c cc nL own G) {a b : Nat} {off : Int} (tgt : Nat) (d : decode cc pc = .ok (.if_icmp .lt off, 3)) (ht : (pc : Int) + off = (tgt : Int)) (ha : a < 2147483648) (hb : b < 2147483648) (kt : a < b → sv_V p l e R s m args below meth c nL G Q k n Wd tgt lv st) (kf : ¬ a < b → sv_V p l e R s m args below meth c nL G Q k n Wd (pc + 3) lv st) : sv_V p l e R s m args below meth c nL G Q k n Wd pc lv (.int (nI b) :: .int (nI a) :: st) := sv_icmp_lt C tgt d ht (fun q => kt ((nI_ltI ha hb).mp q)) (fun q => kf (fun z => q ((nI_ltI ha hb).mpr z)))
theorem sv_icmp_geN (C : sv_C p l s m args meth c cc nL own G) {a b : Nat} {off : Int} (tgt : Nat) (d : decode cc pc = .ok (.if_icmp .ge off, 3)) (ht : (pc : Int) + off = (tgt : Int)) (ha : a < 2147483648) (hb : b < 2147483648) (kt : b ≤ a → sv_V p l e R s m args below meth c nL G Q k n Wd tgt lv st) (kf : ¬ b ≤ a → sv_V p l e R s m args below meth c nL G Q k n Wd (pc + 3) lv st) : sv_V p l e R s m args below meth c nL G Q k n Wd pc lv (.int (nI b) :: .int (nI a) :: st) := sv_icmp_ge C tgt d ht (fun q => kt ((nI_leI hb ha).mp q)) (fun q => kf (fun z => q ((nI_leI hb ha).mpr z)))
theorem sv_icmp_gtN (C : sv_C p l s m args meth c cc nL own G) {a b : Nat} {off : Int} (tgt : Nat) (d : decode cc pc = .ok (.if_icmp .gt off, 3)) (ht : (pc : Int) + off = (tgt : Int)) (ha : a < 2147483648) (hb : b < 2147483648) (kt : b < a → sv_V p l e R s m args below meth c nL G Q k n Wd tgt lv st) (kf : ¬ b < a → sv_V p l e R s m args below meth c nL G Q k n Wd (pc + 3) lv st) : sv_V p l e R s m args below meth c nL G Q k n Wd pc lv (.int (nI b) :: .int (nI a) :: st) := sv_icmp_gt C tgt d ht (fun q => kt ((nI_ltI hb ha).mp q)) (fun q => kf (fun z => q ((nI_ltI hb ha).mpr z)))
theorem sv_icmp_leN (C : sv_C p l s m args meth c cc nL own G) {a b : Nat} {off : Int} (tgt : Nat) (d : decode cc pc = .ok (.if_icmp .le off, 3)) (ht : (pc : Int) + off = (tgt : Int)) (ha : a < 2147483648) (hb : b < 2147483648) (kt : a ≤ b → sv_V p l e R s m args below meth c nL G Q k n Wd tgt lv st) (kf : ¬ a ≤ b → sv_V p l e R s m args below meth c nL G Q k n Wd (pc + 3) lv st) : sv_V p l e R s m args below meth c nL G Q k n Wd pc lv (.int (nI b) :: .int (nI a) :: st) := sv_icmp_le C tgt d ht (fun q => kt ((nI_leI ha hb).mp q)) (fun q => kf (fun z => q ((nI_leI ha hb).mpr z)))
theorem sv_ex {α : Type} {P : α → Prop} {F : α → Heap → Prop} (kk : ∀ x, P x → sv_V p l e R s m args below meth c nL G Q k n (F x) pc lv st) : sv_V p l e R s m args below meth c nL G Q k n (fun H => ∃ x, P x ∧ F x H) pc lv st := fun H locs ls h1 h2 h3 => by
  obtain ⟨x, hx, hF⟩ := h1
  exact kk x hx H locs ls hF h2 h3
/-- a loop that counts up: from i0 on, to N at most -/
theorem sv_loop (N : Nat) (I : Nat → Prop) (Wf : Nat → Heap → Prop) (Lf : Nat → List (Nat × Value)) (i0 : Nat) (h0 : i0 ≤ N) (hI : I i0) (body : ∀ i, i0 ≤ i → i ≤ N → I i → (i < N → I (i + 1) → sv_V p l e R s m args below meth c nL G Q k n (Wf (i + 1)) pc (Lf (i + 1)) st) → sv_V p l e R s m args below meth c nL G Q k n (Wf i) pc (Lf i) st) : sv_V p l e R s m args below meth c nL G Q k n (Wf i0) pc (Lf i0) st := by
  have key : ∀ t i, i0 ≤ i → i ≤ N → N - i < t → I i → sv_V p l e R s m args below meth c nL G Q k n (Wf i) pc (Lf i) st := by
    intro t
    induction t with
    | zero => intro i _ _ h; omega
    | succ t ih => intro i hi hN h hIi; exact body i hi hN hIi (fun hl hn => ih (i + 1) (by omega) (by omega) (by omega) hn)
  exact key (N + 1) i0 (Nat.le_refl _) h0 (by omega) hI
/-- a loop with a measure that falls -/
theorem sv_loopm {α : Type} (Wf : α → Heap → Prop) (Lf : α → List (Nat × Value)) (μ : α → Nat) (I : α → Prop) (a0 : α) (h0 : I a0) (body : ∀ a, I a → (∀ b, I b → μ b < μ a → sv_V p l e R s m args below meth c nL G Q k n (Wf b) pc (Lf b) st) → sv_V p l e R s m args below meth c nL G Q k n (Wf a) pc (Lf a) st) : sv_V p l e R s m args below meth c nL G Q k n (Wf a0) pc (Lf a0) st := by
  have key : ∀ t a, I a → μ a < t → sv_V p l e R s m args below meth c nL G Q k n (Wf a) pc (Lf a) st := by
    intro t
    induction t with
    | zero => intro a _ h; omega
    | succ t ih => intro a ha h; exact body a ha (fun b hb hl => ih b hb (by omega))
  exact key (μ a0 + 1) a0 h0 (by omega)
end SVF
theorem fX5_init : sv_Yi yX5_init cX5_init 1 0 := ⟨kw_24, kw_9, kw_25, rfl, by decide, by decide, by decide +kernel⟩
theorem fX3_init : sv_Yi yX3_init cX3_init 1 0 := ⟨kw_32, kw_10, kw_33, rfl, by decide, by decide, by decide +kernel⟩
theorem fX0_init : sv_Yi yX0_init cX0_init 2 0 := ⟨kw_38, kw_11, kw_39, rfl, by decide, by decide, by decide +kernel⟩
theorem fX2_init : sv_Yi yX2_init cX2_init 1 0 := ⟨kw_75, kw_12, kw_76, rfl, by decide, by decide, by decide +kernel⟩
theorem fX5_copyRow : sv_Ys yX5_copyRow cX5_copyRow 3 none 2 := ⟨kw_106, kw_9, kw_107, by decide, by decide, by decide +kernel⟩
theorem fX1_init : sv_Yi yX1_init cX1_init 2 0 := ⟨kw_139, kw_13, kw_140, rfl, by decide, by decide, by decide +kernel⟩
theorem fX4_init : sv_Yi yX4_init cX4_init 1 0 := ⟨kw_159, kw_14, kw_160, rfl, by decide, by decide, by decide +kernel⟩
theorem fX5_floor : sv_Yv yX5_floor cX5_floor 3 (some .int) 2 := ⟨kw_184, kw_185, kw_9, kw_186, by decide, by decide, by decide +kernel⟩
theorem fX5_checkFloor : sv_Ys yX5_checkFloor cX5_checkFloor 1 none 1 := ⟨kw_188, kw_9, kw_189, by decide, by decide, by decide +kernel⟩
theorem fX5_checkWhat : sv_Ys yX5_checkWhat cX5_checkWhat 2 none 2 := ⟨kw_259, kw_9, kw_260, by decide, by decide, by decide +kernel⟩
theorem fX3_floorNumber : sv_Yv yX3_floorNumber cX3_floorNumber 3 (some .int) 2 := ⟨kw_278, kw_279, kw_10, kw_280, by decide, by decide, by decide +kernel⟩
theorem fX3_lampOf : sv_Yv yX3_lampOf cX3_lampOf 3 (some .int) 1 := ⟨kw_282, kw_283, kw_10, kw_284, by decide, by decide, by decide +kernel⟩
theorem fX5_at : sv_Ys yX5_at cX5_at 2 (some .int) 2 := ⟨kw_286, kw_9, kw_287, by decide, by decide, by decide +kernel⟩
theorem fX2_peopleOn : sv_Yv yX2_peopleOn cX2_peopleOn 4 (some .int) 1 := ⟨kw_289, kw_290, kw_12, kw_291, by decide, by decide, by decide +kernel⟩
theorem fX5_count : sv_Yv yX5_count cX5_count 2 (some .int) 1 := ⟨kw_294, kw_295, kw_9, kw_296, by decide, by decide, by decide +kernel⟩
theorem fX5_counted : sv_Yv yX5_counted cX5_counted 2 (some .int) 1 := ⟨kw_299, kw_1, kw_9, kw_300, by decide, by decide, by decide +kernel⟩
theorem fX3_lampsBurning : sv_Yv yX3_lampsBurning cX3_lampsBurning 3 (some .int) 0 := ⟨kw_302, kw_303, kw_10, kw_304, by decide, by decide, by decide +kernel⟩
theorem fX5_sumOf : sv_Ys yX5_sumOf cX5_sumOf 3 (some .int) 1 := ⟨kw_306, kw_9, kw_307, by decide, by decide, by decide +kernel⟩
theorem fX5_numberOf : sv_Ys yX5_numberOf cX5_numberOf 1 (some .int) 1 := ⟨kw_309, kw_9, kw_310, by decide, by decide, by decide +kernel⟩
theorem fX5_setting : sv_Yv yX5_setting cX5_setting 2 (some .int) 1 := ⟨kw_312, kw_313, kw_9, kw_314, by decide, by decide, by decide +kernel⟩
theorem fX5_checkSetting : sv_Ys yX5_checkSetting cX5_checkSetting 1 none 1 := ⟨kw_316, kw_9, kw_317, by decide, by decide, by decide +kernel⟩
theorem fX5_ifPassed : sv_Yv yX5_ifPassed cX5_ifPassed 3 (some .int) 2 := ⟨kw_322, kw_323, kw_9, kw_324, by decide, by decide, by decide +kernel⟩
theorem fX5_checkSeconds : sv_Ys yX5_checkSeconds cX5_checkSeconds 1 none 1 := ⟨kw_326, kw_9, kw_327, by decide, by decide, by decide +kernel⟩
theorem fX5_outlook : sv_Yv yX5_outlook cX5_outlook 4 (some .int) 2 := ⟨kw_331, kw_2, kw_9, kw_332, by decide, by decide, by decide +kernel⟩
theorem fX3_copyFrom : sv_Yv yX3_copyFrom cX3_copyFrom 2 none 1 := ⟨kw_334, kw_335, kw_10, kw_336, by decide, by decide, by decide +kernel⟩
theorem fX0_copyFrom : sv_Yv yX0_copyFrom cX0_copyFrom 2 none 1 := ⟨kw_338, kw_339, kw_11, kw_340, by decide, by decide, by decide +kernel⟩
theorem fX2_copyFrom : sv_Yv yX2_copyFrom cX2_copyFrom 2 none 1 := ⟨kw_343, kw_344, kw_12, kw_345, by decide, by decide, by decide +kernel⟩
theorem fX3_letPass : sv_Yv yX3_letPass cX3_letPass 4 (some .int) 1 := ⟨kw_348, kw_349, kw_10, kw_350, by decide, by decide, by decide +kernel⟩
theorem fX3_beginSecond : sv_Yv yX3_beginSecond cX3_beginSecond 2 none 0 := ⟨kw_353, kw_354, kw_10, kw_355, by decide, by decide, by decide +kernel⟩
theorem fX2_goOn : sv_Yv yX2_goOn cX2_goOn 4 none 1 := ⟨kw_357, kw_358, kw_12, kw_359, by decide, by decide, by decide +kernel⟩
theorem fX2_isThere : sv_Yv yX2_isThere cX2_isThere 2 (some .boolean) 1 := ⟨kw_361, kw_362, kw_12, kw_363, by decide, by decide, by decide +kernel⟩
theorem fX2_walk : sv_Yv yX2_walk cX2_walk 3 none 2 := ⟨kw_366, kw_3, kw_12, kw_367, by decide, by decide, by decide +kernel⟩
theorem fX5_raise : sv_Ys yX5_raise cX5_raise 3 none 3 := ⟨kw_369, kw_9, kw_370, by decide, by decide, by decide +kernel⟩
theorem fX5_put : sv_Ys yX5_put cX5_put 3 none 3 := ⟨kw_372, kw_9, kw_373, by decide, by decide, by decide +kernel⟩
theorem fX2_moveUp : sv_Yv yX2_moveUp cX2_moveUp 3 none 2 := ⟨kw_376, kw_4, kw_12, kw_377, by decide, by decide, by decide +kernel⟩
theorem fX3_switchOn : sv_Yv yX3_switchOn cX3_switchOn 2 none 1 := ⟨kw_379, kw_380, kw_10, kw_381, by decide, by decide, by decide +kernel⟩
theorem fX0_letBurn : sv_Yv yX0_letBurn cX0_letBurn 4 none 2 := ⟨kw_383, kw_384, kw_11, kw_385, by decide, by decide, by decide +kernel⟩
theorem fX3_endSecond : sv_Yv yX3_endSecond cX3_endSecond 2 none 0 := ⟨kw_390, kw_391, kw_10, kw_392, by decide, by decide, by decide +kernel⟩
theorem fX3_countSecondOn : sv_Yv yX3_countSecondOn cX3_countSecondOn 3 none 1 := ⟨kw_395, kw_5, kw_10, kw_396, by decide, by decide, by decide +kernel⟩
theorem fX3_powerOf : sv_Ys yX3_powerOf cX3_powerOf 1 (some .int) 1 := ⟨kw_399, kw_10, kw_400, by decide, by decide, by decide +kernel⟩
theorem fX0_burnDown : sv_Yv yX0_burnDown cX0_burnDown 2 none 1 := ⟨kw_402, kw_403, kw_11, kw_404, by decide, by decide, by decide +kernel⟩
theorem fX5_dark : sv_Yv yX5_dark cX5_dark 3 (some .int) 2 := ⟨kw_406, kw_407, kw_9, kw_408, by decide, by decide, by decide +kernel⟩
theorem fX5_checkWay : sv_Ys yX5_checkWay cX5_checkWay 2 none 2 := ⟨kw_410, kw_9, kw_411, by decide, by decide, by decide +kernel⟩
theorem fX5_darkWith : sv_Yv yX5_darkWith cX5_darkWith 8 (some .int) 3 := ⟨kw_415, kw_6, kw_9, kw_416, by decide, by decide, by decide +kernel⟩
theorem fX3_letCome : sv_Yv yX3_letCome cX3_letCome 3 (some .int) 2 := ⟨kw_419, kw_420, kw_10, kw_421, by decide, by decide, by decide +kernel⟩
theorem fX2_enter : sv_Yv yX2_enter cX2_enter 5 (some .int) 3 := ⟨kw_423, kw_424, kw_12, kw_425, by decide, by decide, by decide +kernel⟩
theorem fX2_sendTo : sv_Yv yX2_sendTo cX2_sendTo 4 none 3 := ⟨kw_427, kw_428, kw_12, kw_429, by decide, by decide, by decide +kernel⟩
theorem fX2_placeOf : sv_Yv yX2_placeOf cX2_placeOf 3 (some .int) 1 := ⟨kw_432, kw_433, kw_12, kw_434, by decide, by decide, by decide +kernel⟩
theorem fL_low : sv_Ys yL_low cL_low 2 (some .int) 2 := ⟨kw_438, kw_8, kw_439, by decide, by decide, by decide +kernel⟩
theorem fL_cell : sv_Ys yL_cell cL_cell 2 (some .int) 2 := ⟨kw_442, kw_8, kw_443, by decide, by decide, by decide +kernel⟩
theorem fL_stairs : sv_Ys yL_stairs cL_stairs 12 (some .boolean) 1 := ⟨kw_446, kw_8, kw_447, by decide, by decide, by decide +kernel⟩
theorem fX5_person : sv_Yv yX5_person cX5_person 3 (some .int) 2 := ⟨kw_449, kw_450, kw_9, kw_451, by decide, by decide, by decide +kernel⟩
theorem fX2_personNumber : sv_Yv yX2_personNumber cX2_personNumber 3 (some .int) 2 := ⟨kw_454, kw_455, kw_12, kw_456, by decide, by decide, by decide +kernel⟩
theorem fX5_worst : sv_Yv yX5_worst cX5_worst 1 (some .int) 0 := ⟨kw_458, kw_459, kw_9, kw_460, by decide, by decide, by decide +kernel⟩
theorem fX0_mostMissed : sv_Yv yX0_mostMissed cX0_mostMissed 4 (some .int) 0 := ⟨kw_462, kw_463, kw_11, kw_464, by decide, by decide, by decide +kernel⟩
theorem fX5_lightness : sv_Yv yX5_lightness cX5_lightness 1 (some .double) 0 := ⟨kw_466, kw_467, kw_9, kw_468, by decide, by decide, by decide +kernel⟩
theorem fX3_lightShare : sv_Yv yX3_lightShare cX3_lightShare 2 (some .double) 0 := ⟨kw_470, kw_471, kw_10, kw_472, by decide, by decide, by decide +kernel⟩
theorem fL_act : sv_Ys yL_act cL_act 6 (some .int) 3 := ⟨kw_474, kw_8, kw_475, by decide, by decide, by decide +kernel⟩
theorem fX5_come : sv_Yv yX5_come cX5_come 3 (some .int) 2 := ⟨kw_481, kw_482, kw_9, kw_483, by decide, by decide, by decide +kernel⟩
theorem fX1_save : sv_Yv yX1_save cX1_save 3 none 1 := ⟨kw_501, kw_502, kw_13, kw_503, by decide, by decide, by decide +kernel⟩
theorem fX1_stateAt : sv_Yv yX1_stateAt cX1_stateAt 2 (some (.object "StairLight$Stairs")) 1 := ⟨kw_506, kw_7, kw_13, kw_507, by decide, by decide, by decide +kernel⟩
theorem fX5_pass : sv_Yv yX5_pass cX5_pass 2 (some .int) 1 := ⟨kw_510, kw_511, kw_9, kw_512, by decide, by decide, by decide +kernel⟩
theorem fX5_turn : sv_Yv yX5_turn cX5_turn 5 (some .int) 2 := ⟨kw_518, kw_519, kw_9, kw_520, by decide, by decide, by decide +kernel⟩
theorem fX5_press : sv_Yv yX5_press cX5_press 3 (some .int) 1 := ⟨kw_524, kw_525, kw_9, kw_526, by decide, by decide, by decide +kernel⟩
theorem fX5_sensor : sv_Yv yX5_sensor cX5_sensor 4 (some .int) 2 := ⟨kw_529, kw_530, kw_9, kw_531, by decide, by decide, by decide +kernel⟩
theorem fX5_night : sv_Yv yX5_night cX5_night 3 (some .int) 1 := ⟨kw_533, kw_534, kw_9, kw_535, by decide, by decide, by decide +kernel⟩
theorem fX5_fire : sv_Yv yX5_fire cX5_fire 3 (some .int) 1 := ⟨kw_537, kw_538, kw_9, kw_539, by decide, by decide, by decide +kernel⟩
theorem fX3_switchAllOn : sv_Yv yX3_switchAllOn cX3_switchAllOn 2 none 0 := ⟨kw_541, kw_542, kw_10, kw_543, by decide, by decide, by decide +kernel⟩
theorem fX5_set : sv_Yv yX5_set cX5_set 4 (some .int) 2 := ⟨kw_545, kw_546, kw_9, kw_547, by decide, by decide, by decide +kernel⟩
theorem fX5_undo : sv_Yv yX5_undo cX5_undo 1 (some .int) 0 := ⟨kw_557, kw_558, kw_9, kw_559, by decide, by decide, by decide +kernel⟩
theorem fX1_restore : sv_Yv yX1_restore cX1_restore 3 none 1 := ⟨kw_562, kw_563, kw_13, kw_564, by decide, by decide, by decide +kernel⟩
theorem kn_RX3_32 : (RX3, 32, yX5_copyRow, "StairLight") ∈ sv_nests := List.mem_of_getElem? (i := 0) rfl
theorem kn_RX3_57 : (RX3, 57, yX5_at, "StairLight") ∈ sv_nests := List.mem_of_getElem? (i := 1) rfl
theorem kn_RX2_47 : (RX2, 47, yX5_at, "StairLight") ∈ sv_nests := List.mem_of_getElem? (i := 2) rfl
theorem kn_RX0_30 : (RX0, 30, yX5_copyRow, "StairLight") ∈ sv_nests := List.mem_of_getElem? (i := 3) rfl
theorem kn_RX2_31 : (RX2, 31, yX5_copyRow, "StairLight") ∈ sv_nests := List.mem_of_getElem? (i := 4) rfl
theorem kn_RX3_83 : (RX3, 83, yX5_sumOf, "StairLight") ∈ sv_nests := List.mem_of_getElem? (i := 5) rfl
theorem kn_RX2_58 : (RX2, 58, yX5_raise, "StairLight") ∈ sv_nests := List.mem_of_getElem? (i := 6) rfl
theorem kn_RX2_35 : (RX2, 35, yX5_put, "StairLight") ∈ sv_nests := List.mem_of_getElem? (i := 7) rfl
theorem kn_RX0_34 : (RX0, 34, yX5_at, "StairLight") ∈ sv_nests := List.mem_of_getElem? (i := 8) rfl
theorem kn_RX0_38 : (RX0, 38, yX5_raise, "StairLight") ∈ sv_nests := List.mem_of_getElem? (i := 9) rfl
theorem kn_RX0_42 : (RX0, 42, yX5_put, "StairLight") ∈ sv_nests := List.mem_of_getElem? (i := 10) rfl
theorem kn_RX3_119 : (RX3, 119, yX5_raise, "StairLight") ∈ sv_nests := List.mem_of_getElem? (i := 11) rfl
end
section
/-! the mathematics of the stairs: vectors of 86 numbers -/
abbrev vX : Type := Nat → Int32
def sv_u (M : sv_M) (q : Nat) (x : vX) : sv_M := fun q' => if q' = q then x else M q'
theorem sv_us (M : sv_M) (q : Nat) (x : vX) : sv_u M q x q = x := if_pos rfl
theorem sv_un {M : sv_M} {q : Nat} {x : vX} {q' : Nat} (h : q' ≠ q) : sv_u M q x q' = M q' := if_neg h
theorem sv_uu (M : sv_M) (q : Nat) (x y : vX) : sv_u (sv_u M q x) q y = sv_u M q y := by
  funext q'
  unfold sv_u
  split <;> rfl
theorem sv_ui (M : sv_M) (q : Nat) : sv_u M q (M q) = M := by
  funext q'
  unfold sv_u
  split
  · rename_i h; rw [h]
  · rfl
theorem sv_wu (M : sv_M) (q i : Nat) (v : Int32) : sv_w M q i v = sv_u M q (upd (M q) i v) := by
  funext q' i'
  unfold sv_w sv_u upd
  by_cases h : q' = q
  · subst h
    by_cases h2 : i' = i
    · simp [h2]
    · simp [h2]
  · simp [h]
theorem sv_eqW {G : sv_G} {z : Nat} {M1 M2 : sv_M} {o : Int64} (e : M1 = M2) : ∀ H, sv_W G z M1 o H → sv_W G z M2 o H := fun _ h => e ▸ h
theorem upd_s (x : vX) (i : Nat) (v : Int32) : upd x i v i = v := if_pos rfl
theorem upd_n {x : vX} {i : Nat} {v : Int32} {k : Nat} (h : k ≠ i) : upd x i v k = x k := if_neg h
theorem upd_i (x : vX) (i : Nat) : upd x i (x i) = x := by
  funext k
  unfold upd
  split
  · rename_i h; rw [h]
  · rfl
theorem upd_u (x : vX) (i : Nat) (v w : Int32) : upd (upd x i v) i w = upd x i w := by
  funext k
  unfold upd
  split <;> rfl
theorem sv_vpin {i : Int32} {n : Nat} (h0 : ¬ i < 0) (h1 : ¬ nI n ≤ i) (hn : n < 2147483648) : vp_in i n := by
  rcases pk_ix i (n := n) hn with h | h | ⟨j, hj, rfl⟩
  · exact absurd h h0
  · exact absurd h h1
  · exact vp_in_nI hj hn
/-- at(row, place), put(row, place, value), raise(row, place, more) -/
def cAt (M : sv_M) (c j : Nat) (i : Int32) : Int32 := if i < 0 ∨ nI (sv_n c) ≤ i then 0 else M (sv_q c j) (sv_i c i.toNatClampNeg)
def cPut (M : sv_M) (c j : Nat) (i v : Int32) : sv_M := if i < 0 ∨ nI (sv_n c) ≤ i then M else sv_w M (sv_q c j) (sv_i c i.toNatClampNeg) v
theorem sv_inN {f n : Nat} (h : f < n) (hn : n < 2147483648) : ¬ (nI f < 0 ∨ nI n ≤ nI f) := by
  rintro (q | q)
  · exact nI_pos (by omega) q
  · exact nI_ge h hn q
theorem cAt_N {M : sv_M} {c j f : Nat} (h : f < sv_n c) : cAt M c j (nI f) = M (sv_q c j) (sv_i c f) := by
  have hs := sv_nlt c
  unfold cAt
  rw [if_neg (sv_inN h hs), nI_clamp (by omega)]
theorem cPut_N {M : sv_M} {c j f : Nat} {v : Int32} (h : f < sv_n c) : cPut M c j (nI f) v = sv_w M (sv_q c j) (sv_i c f) v := by
  have hs := sv_nlt c
  unfold cPut
  rw [if_neg (sv_inN h hs), nI_clamp (by omega)]
/-- a fold over 0, 1 .. n - 1 -/
def fo {α : Type} (g : Nat → α → α) : Nat → α → α
  | 0, x => x
  | n + 1, x => g n (fo g n x)
def smI (f : Nat → Int32) : Nat → Int32
  | 0 => 0
  | n + 1 => smI f n + f n
/-- lamp f is switched on for T seconds -/
def sw (T : Int32) (f : Nat) (x : vX) : vX :=
  if T ≤ x (6 * f + 9) then (if x (6 * f + 9) = 0 then upd x (6 * f + 14) (x (6 * f + 14) + 1) else x) else upd (if x (6 * f + 9) = 0 then upd x (6 * f + 14) (x (6 * f + 14) + 1) else x) (6 * f + 9) T
def lampv (x : vX) (f : Nat) : Int32 := if x 7 = 1 then 3 else if x (6 * f + 9) = 0 then x 6 else if x (6 * f + 9) ≤ x 1 then 2 else 3
/-- people on floor f, of the first n -/
def onI (x : vX) (f : Int32) : Nat → Int32
  | 0 => 0
  | n + 1 => onI x f n + if x (4 * n + 59) = f then 1 else 0
theorem fo_succ {α : Type} (g : Nat → α → α) (n : Nat) (x : α) : fo g (n + 1) x = g n (fo g n x) := rfl
/-- a row is copied -/
def cpR (c n : Nat) (x y : vX) : vX := fo (fun i y => upd y (sv_i c i) (x (sv_i c i))) n y
/-- the lamp burns down -/
def bdn (f : Nat) (x : vX) : vX := if x (6 * f + 9) ≤ 0 then x else upd x (6 * f + 9) (x (6 * f + 9) + (-1))
def powv (l : Int32) : Int32 := if l < 2 then (if l = 1 then 3 else 0) else 10
/-- a person walks for a second; closes up -/
def wkv (T : Int32) (p : Nat) (x : vX) : vX :=
  if x (4 * p + 61) + (-1) ≤ 0 then
    upd (upd (upd x (4 * p + 61) (x (4 * p + 61) + (-1))) (4 * p + 59) (x (4 * p + 59) + if x (4 * p + 60) ≤ x (4 * p + 59) then (-1) else 1)) (4 * p + 61) (if x (4 * p + 59) + (if x (4 * p + 60) ≤ x (4 * p + 59) then (-1) else 1) = x (4 * p + 60) then 0 else T)
  else upd x (4 * p + 61) (x (4 * p + 61) + (-1))
def mvv (p s : Nat) (x : vX) : vX := upd (upd (upd (upd x (4 * s + 58) (x (4 * p + 58))) (4 * s + 59) (x (4 * p + 59))) (4 * s + 60) (x (4 * p + 60))) (4 * s + 61) (x (4 * p + 61))
def goB (T : Int32) (p : Nat) (r : vX × Nat) : vX × Nat := if r.1 (4 * p + 59) = r.1 (4 * p + 60) then r else (mvv p r.2 (wkv T p r.1), r.2 + 1)
def goS (T : Int32) (n : Nat) (x : vX) : vX × Nat := fo (goB T) n (x, 0)
def goOnv (T : Int32) (m : Nat) (x : vX) : vX := upd (goS T m x).1 57 (nI (goS T m x).2)
/-- the sensor of floor f looks -/
def arnd (f : Nat) (x : vX) : vX := if x 2 = 1 then (if f < 7 then sw (x 0) (f + 1) else id) ((if 0 < f then sw (x 0) (f - 1) else id) (sw (x 0) f x)) else sw (x 0) f x
def la (m : Nat) (f : Nat) (x : vX) : vX := if x (6 * f + 10) = 1 ∧ 0 < onI x (nI f) m then arnd f x else x
/-- a second of a person on floor f is counted -/
def cnt (f : Nat) (x : vX) : vX :=
  let x1 := if lampv x f = 0 then upd x (6 * f + 11) (x (6 * f + 11) + 1) else if lampv x f = 1 then upd x (6 * f + 12) (x (6 * f + 12) + 1) else x
  upd x1 8 (x1 8 + 1)
def cntp (p : Nat) (x : vX) : vX := cnt (x (4 * p + 59)).toNatClampNeg x
def fend (f : Nat) (x : vX) : vX := bdn f (upd x (6 * f + 13) (x (6 * f + 13) + powv (lampv x f)))
def endv (m : Nat) (x : vX) : vX := let x2 := fo fend 8 (fo cntp m x); upd x2 4 (x2 4 + 1)
/-- somebody comes -/
def entv (m : Nat) (f t T : Int32) (x : vX) : vX := upd (upd (upd (upd (upd (upd x (4 * m + 58) (x 5)) (4 * m + 59) f) (4 * m + 60) t) (4 * m + 61) (if f = t then 0 else T)) 57 (nI (m + 1))) 5 (x 5 + 1)
/-- the place of a number, from place i on, t places -/
def plF (x : vX) (v : Int32) : Nat → Nat → Int32
  | 0, _ => (-1)
  | t + 1, i => if x (4 * i + 58) = v then nI i else plF x v t (i + 1)
def cpF (x y : vX) : vX := cpR 7 8 x (cpR 6 8 x (cpR 5 8 x (cpR 4 8 x (cpR 3 8 x (cpR 2 8 x y)))))
def cpP (x y : vX) : vX := upd (upd (cpR 12 7 x (cpR 11 7 x (cpR 10 7 x (cpR 9 7 x y)))) 57 (x 57)) 5 (x 5)
def cpS (x y : vX) : vX := upd (upd (upd (upd (cpR 13 4 x (cpP x (cpF x y))) 6 (x 6)) 7 (x 7)) 4 (x 4)) 8 (x 8)
/-- the broken sensor that is missed most, of the first n floors -/
def mm (x : vX) : Nat → Int32
  | 0 => (-1)
  | n + 1 => if x (6 * n + 10) = 0 ∧ (mm x n = (-1) ∨ x (6 * (mm x n).toNatClampNeg + 11) < x (6 * n + 11)) then nI n else mm x n
theorem mm_cases (x : vX) : ∀ n, mm x n = (-1) ∨ ∃ g, g < n ∧ mm x n = nI g
  | 0 => Or.inl rfl
  | n + 1 => by
    unfold mm
    split
    · exact Or.inr ⟨n, Nat.lt_succ_self n, rfl⟩
    · rcases mm_cases x n with h | ⟨g, hg, h⟩
      · exact Or.inl h
      · exact Or.inr ⟨g, Nat.lt_succ_of_lt hg, h⟩
/-- a lamp that may not be there is switched on -/
def swI (T f : Int32) (x : vX) : vX := if f < 0 ∨ nI 8 ≤ f then x else sw T f.toNatClampNeg x
theorem swI_N {T : Int32} {f : Nat} (h : f < 8) (x : vX) : swI T (nI f) x = sw T f x := by
  unfold swI
  rw [if_neg (sv_inN h (by decide)), nI_clamp (by omega)]
theorem swI_o {T f : Int32} (h : f < 0 ∨ nI 8 ≤ f) (x : vX) : swI T f x = x := if_pos h
theorem sw_o {T : Int32} {f : Nat} {x : vX} {k : Nat} (h : k ≠ 6 * f + 9) (h2 : k ≠ 6 * f + 14) : sw T f x k = x k := by
  unfold sw
  split
  · split
    · rw [upd_n h2]
    · rfl
  · rw [upd_n h]
    split
    · rw [upd_n h2]
    · rfl
theorem arnd_eq {f : Nat} (hf : f < 8) (x : vX) : arnd f x = if x 2 = 1 then swI (x 0) (nI f + 1) (swI (x 0) (nI f - 1) (sw (x 0) f x)) else sw (x 0) f x := by
  unfold arnd
  have h1 : ∀ y, swI (x 0) (nI f - 1) y = (if 0 < f then sw (x 0) (f - 1) else id) y := by
    intro y
    rcases Nat.eq_zero_or_pos f with rfl | h
    · rw [if_neg (by omega)]
      exact swI_o (Or.inl (by decide)) y
    · obtain ⟨g, rfl⟩ : ∃ g, f = g + 1 := ⟨f - 1, by omega⟩
      rw [if_pos h, nI_pred, swI_N (by omega)]
      rfl
  have h2 : ∀ y, swI (x 0) (nI f + 1) y = (if f < 7 then sw (x 0) (f + 1) else id) y := by
    intro y
    rw [nI_1]
    rcases Nat.lt_or_ge f 7 with h | h
    · rw [if_pos h, swI_N (by omega)]
    · rw [if_neg (by omega)]
      exact swI_o (Or.inr (nI_le (by omega) (by omega))) y
  rw [h1, h2]
theorem arnd_o {f : Nat} {x : vX} {k : Nat} (h : k < 9 ∨ 57 ≤ k) (hf : f < 8) : arnd f x k = x k := by
  unfold arnd
  have e : ∀ (T : Int32) (g : Nat) (y : vX), g < 8 → sw T g y k = y k := fun T g y hg => sw_o (by omega) (by omega)
  split
  · rcases Nat.lt_or_ge f 7 with h1 | h1
    · rw [if_pos h1, e _ _ _ (by omega)]
      rcases Nat.eq_zero_or_pos f with rfl | h2
      · rw [if_neg (by omega)]
        exact e _ _ _ (by omega)
      · rw [if_pos h2, e _ _ _ (by omega), e _ _ _ hf]
    · rw [if_neg (by omega)]
      show (if 0 < f then sw (x 0) (f - 1) else id) (sw (x 0) f x) k = x k
      rw [if_pos (by omega), e _ _ _ (by omega), e _ _ _ hf]
  · exact e _ _ _ hf
theorem la_o {m f : Nat} {x : vX} {k : Nat} (h : k < 9 ∨ 57 ≤ k) (hf : f < 8) : la m f x k = x k := by
  unfold la
  split
  · exact arnd_o h hf
  · rfl
theorem fola_o {m : Nat} {x : vX} {k : Nat} (h : k < 9 ∨ 57 ≤ k) : ∀ n, n ≤ 8 → fo (la m) n x k = x k
  | 0, _ => rfl
  | n + 1, hn => (la_o h (by omega)).trans (fola_o h n (by omega))
theorem cnt_o {f : Nat} {x : vX} {k : Nat} (h : k < 8 ∨ 57 ≤ k) (hf : f < 8) : cnt f x k = x k := by
  unfold cnt
  show upd _ 8 _ k = x k
  rw [upd_n (by omega)]
  split
  · rw [upd_n (by omega)]
  · split
    · rw [upd_n (by omega)]
    · rfl
theorem bdn_o {f : Nat} {x : vX} {k : Nat} (h : k ≠ 6 * f + 9) : bdn f x k = x k := by
  unfold bdn
  split
  · rfl
  · rw [upd_n h]
theorem fend_o {f : Nat} {x : vX} {k : Nat} (h : k < 9 ∨ 57 ≤ k) (hf : f < 8) : fend f x k = x k := by
  unfold fend
  rw [bdn_o (by omega), upd_n (by omega)]
theorem fofend_o {x : vX} {k : Nat} (h : k < 9 ∨ 57 ≤ k) : ∀ n, n ≤ 8 → fo fend n x k = x k
  | 0, _ => rfl
  | n + 1, hn => (fend_o h (by omega)).trans (fofend_o h n (by omega))
def many (x : vX) : Nat := (x 57).toNatClampNeg
/-- what holds of people on floors: so many, each on a floor -/
def vfl (m : Nat) (x : vX) : Prop := ∀ p, p < m → ∃ f, f < 8 ∧ x (4 * p + 59) = nI f
theorem focnt_o {m : Nat} {x : vX} (hv : vfl m x) {k : Nat} (h : k < 8 ∨ 57 ≤ k) : ∀ n, n ≤ m → fo cntp n x k = x k
  | 0, _ => rfl
  | n + 1, hn => by
    have ih := focnt_o hv h n (by omega)
    obtain ⟨f, hf, ef⟩ := hv n (by omega)
    have e := focnt_o hv (k := 4 * n + 59) (Or.inr (by omega)) n (by omega)
    show cnt (fo cntp n x (4 * n + 59)).toNatClampNeg (fo cntp n x) k = x k
    rw [e, ef, nI_clamp (by omega), cnt_o h hf, ih]
def beginv (m : Nat) (x : vX) : vX := fo (la (goS (x 3) m x).2) 8 (goOnv (x 3) m x)
/-- how many lamps are on or warn, of the first n -/
def litI (x : vX) : Nat → Int32
  | 0 => 0
  | n + 1 => litI x n + if lampv x n < 2 then 0 else 1
/-- floor(f, w) -/
def fnv (m : Nat) (x : vX) (f w : Nat) : Int32 := if w = 0 then lampv x f else if w = 1 then x (6 * f + 9) else if w = 2 then x (6 * f + 10) else if w = 3 then onI x (nI f) m else if w = 4 then x (6 * f + 11) else if w = 5 then x (6 * f + 12) else if w = 6 then x (6 * f + 13) else x (6 * f + 14)
end
section
set_option maxHeartbeats 4000000 in
set_option maxRecDepth 100000 in
theorem met_at (l : Launch) (G : sv_G) (z : Nat) (M : sv_M) (o : Int64) (c' j : Nat) (hok : sv_ok c' j = true) (hir : sv_ir c' = true) (i : Int32) : sv_Met l G yX5_at cX5_at 2 (some .int) 0 [.ref (sv_r G c' j), .int i] (sv_W G z M o) (some (.int (cAt M c' j i))) (sv_W G z M o) := by
  refine sv_ofW (by decide) kw_287 (Nat.le_of_ble_eq_true rfl) ?_
  intro p e s mth args below meth c hr C _
  refine sv_sub (lv' := [(0, .ref (sv_r G c' j)), (1, .int i)]) rfl ?_
  refine sv_iload_n (i := 1) (x := i) C dX5_at_0 rfl rfl ?_
  refine sv_if_lt C 16 dX5_at_1 (by decide) (fun q1 => ?_) (fun q1 => ?_)
  · refine sv_iconst (v := nI 0) C dX5_at_16 (by decide) ?_
    exact sv_iret C hr dX5_at_17 (Nat.le_of_ble_eq_true rfl) (Nat.le_of_ble_eq_true rfl) (by unfold cAt; first | rw [if_pos (Or.inl q1)]; rfl | rw [if_pos (Or.inr q7)]; rfl) (fun _ h => h)
  · refine sv_iload_n (i := 1) (x := i) C dX5_at_4 rfl rfl ?_
    refine sv_aload_n (i := 0) (x := sv_r G c' j) C dX5_at_5 rfl rfl ?_
    refine sv_alen (v := nI (sv_n c')) C hok hir rfl dX5_at_6 ?_
    refine sv_icmp_ge C 16 dX5_at_7 (by decide) (fun q7 => ?_) (fun q7 => ?_)
    · refine sv_iconst (v := nI 0) C dX5_at_16 (by decide) ?_
      exact sv_iret C hr dX5_at_17 (Nat.le_of_ble_eq_true rfl) (Nat.le_of_ble_eq_true rfl) (by unfold cAt; first | rw [if_pos (Or.inl q1)]; rfl | rw [if_pos (Or.inr q7)]; rfl) (fun _ h => h)
    · refine sv_aload_n (i := 0) (x := sv_r G c' j) C dX5_at_10 rfl rfl ?_
      refine sv_iload_n (i := 1) (x := i) C dX5_at_11 rfl rfl ?_
      refine sv_iald C hok hir (sv_vpin q1 q7 (sv_nlt _)) dX5_at_12 ?_
      refine sv_topi (fun v12 e12 => ?_)
      refine sv_goto C 17 dX5_at_13 (by decide) ?_
      exact sv_iret C hr dX5_at_17 (Nat.le_of_ble_eq_true rfl) (Nat.le_of_ble_eq_true rfl) (by rw [e12]; unfold cAt; rw [if_neg (fun h => h.elim q1 q7)]) (fun _ h => h)

theorem met_atN {l : Launch} {G : sv_G} {z : Nat} {M : sv_M} {o : Int64} {c' j i : Nat} (q p' : Nat) (hq : sv_q c' j = q) (hp : sv_i c' i = p') (hok : sv_ok c' j = true) (hir : sv_ir c' = true) (h : i < sv_n c') : sv_Met l G yX5_at cX5_at 2 (some .int) 0 [.ref (sv_r G c' j), .int (nI i)] (sv_W G z M o) (some (.int (M q p'))) (sv_W G z M o) := by
  have h9 := met_at l G z M o c' j hok hir (nI i)
  rw [cAt_N h, hq, hp] at h9
  exact h9
set_option maxHeartbeats 4000000 in
set_option maxRecDepth 100000 in
theorem met_atS0 (l : Launch) (G : sv_G) (Wd : Heap → Prop) (i : Nat) (hi : i < 4) : sv_Met l G yX5_at cX5_at 2 (some .int) 0 [.ref G.2.2.2.1, .int (nI i)] Wd (some (.int (sv_F 0 i))) Wd := by
  refine sv_ofW (by decide) kw_287 (Nat.le_of_ble_eq_true rfl) ?_
  intro p e s mth args below meth c hr C _
  refine sv_sub (lv' := [(0, .ref G.2.2.2.1), (1, .int (nI i))]) rfl ?_
  refine sv_iload_n (i := 1) (x := nI i) C dX5_at_0 rfl rfl ?_
  refine sv_if_lt C 16 dX5_at_1 (by decide) (fun q1 => ?_) (fun q1 => ?_)
  · exact absurd q1 (nI_pos (by omega))
  · refine sv_iload_n (i := 1) (x := nI i) C dX5_at_4 rfl rfl ?_
    refine sv_aload_n (i := 0) (x := G.2.2.2.1) C dX5_at_5 rfl rfl ?_
    refine sv_salen0 C dX5_at_6 ?_
    refine sv_icmp_geN C 16 dX5_at_7 (by decide) (by omega) (by omega) (fun q7 => ?_) (fun q7 => ?_)
    · exact absurd q7 (by omega)
    · refine sv_aload_n (i := 0) (x := G.2.2.2.1) C dX5_at_10 rfl rfl ?_
      refine sv_iload_n (i := 1) (x := nI i) C dX5_at_11 rfl rfl ?_
      refine sv_sald0 C (vp_in_nI hi (by decide)) dX5_at_12 ?_
      refine sv_topi (fun v12 e12 => ?_)
      refine sv_goto C 17 dX5_at_13 (by decide) ?_
      exact sv_iret C hr dX5_at_17 (Nat.le_of_ble_eq_true rfl) (Nat.le_of_ble_eq_true rfl) (by rw [e12, nI_clamp (by omega)]) (fun _ h => h)

set_option maxHeartbeats 4000000 in
set_option maxRecDepth 100000 in
theorem met_atS1 (l : Launch) (G : sv_G) (Wd : Heap → Prop) (i : Nat) (hi : i < 4) : sv_Met l G yX5_at cX5_at 2 (some .int) 0 [.ref G.2.2.2.2.1, .int (nI i)] Wd (some (.int (sv_F 1 i))) Wd := by
  refine sv_ofW (by decide) kw_287 (Nat.le_of_ble_eq_true rfl) ?_
  intro p e s mth args below meth c hr C _
  refine sv_sub (lv' := [(0, .ref G.2.2.2.2.1), (1, .int (nI i))]) rfl ?_
  refine sv_iload_n (i := 1) (x := nI i) C dX5_at_0 rfl rfl ?_
  refine sv_if_lt C 16 dX5_at_1 (by decide) (fun q1 => ?_) (fun q1 => ?_)
  · exact absurd q1 (nI_pos (by omega))
  · refine sv_iload_n (i := 1) (x := nI i) C dX5_at_4 rfl rfl ?_
    refine sv_aload_n (i := 0) (x := G.2.2.2.2.1) C dX5_at_5 rfl rfl ?_
    refine sv_salen1 C dX5_at_6 ?_
    refine sv_icmp_geN C 16 dX5_at_7 (by decide) (by omega) (by omega) (fun q7 => ?_) (fun q7 => ?_)
    · exact absurd q7 (by omega)
    · refine sv_aload_n (i := 0) (x := G.2.2.2.2.1) C dX5_at_10 rfl rfl ?_
      refine sv_iload_n (i := 1) (x := nI i) C dX5_at_11 rfl rfl ?_
      refine sv_sald1 C (vp_in_nI hi (by decide)) dX5_at_12 ?_
      refine sv_topi (fun v12 e12 => ?_)
      refine sv_goto C 17 dX5_at_13 (by decide) ?_
      exact sv_iret C hr dX5_at_17 (Nat.le_of_ble_eq_true rfl) (Nat.le_of_ble_eq_true rfl) (by rw [e12, nI_clamp (by omega)]) (fun _ h => h)

set_option maxHeartbeats 4000000 in
set_option maxRecDepth 100000 in
theorem met_atS2 (l : Launch) (G : sv_G) (Wd : Heap → Prop) (i : Nat) (hi : i < 4) : sv_Met l G yX5_at cX5_at 2 (some .int) 0 [.ref G.2.2.2.2.2, .int (nI i)] Wd (some (.int (sv_F 2 i))) Wd := by
  refine sv_ofW (by decide) kw_287 (Nat.le_of_ble_eq_true rfl) ?_
  intro p e s mth args below meth c hr C _
  refine sv_sub (lv' := [(0, .ref G.2.2.2.2.2), (1, .int (nI i))]) rfl ?_
  refine sv_iload_n (i := 1) (x := nI i) C dX5_at_0 rfl rfl ?_
  refine sv_if_lt C 16 dX5_at_1 (by decide) (fun q1 => ?_) (fun q1 => ?_)
  · exact absurd q1 (nI_pos (by omega))
  · refine sv_iload_n (i := 1) (x := nI i) C dX5_at_4 rfl rfl ?_
    refine sv_aload_n (i := 0) (x := G.2.2.2.2.2) C dX5_at_5 rfl rfl ?_
    refine sv_salen2 C dX5_at_6 ?_
    refine sv_icmp_geN C 16 dX5_at_7 (by decide) (by omega) (by omega) (fun q7 => ?_) (fun q7 => ?_)
    · exact absurd q7 (by omega)
    · refine sv_aload_n (i := 0) (x := G.2.2.2.2.2) C dX5_at_10 rfl rfl ?_
      refine sv_iload_n (i := 1) (x := nI i) C dX5_at_11 rfl rfl ?_
      refine sv_sald2 C (vp_in_nI hi (by decide)) dX5_at_12 ?_
      refine sv_topi (fun v12 e12 => ?_)
      refine sv_goto C 17 dX5_at_13 (by decide) ?_
      exact sv_iret C hr dX5_at_17 (Nat.le_of_ble_eq_true rfl) (Nat.le_of_ble_eq_true rfl) (by rw [e12, nI_clamp (by omega)]) (fun _ h => h)

set_option maxHeartbeats 4000000 in
set_option maxRecDepth 100000 in
theorem met_put (l : Launch) (G : sv_G) (z : Nat) (M : sv_M) (o : Int64) (c' j : Nat) (hok : sv_ok c' j = true) (hir : sv_ir c' = true) (i v : Int32) : sv_Met l G yX5_put cX5_put 3 none 0 [.ref (sv_r G c' j), .int i, .int v] (sv_W G z M o) none (sv_W G z (cPut M c' j i v) o) := by
  refine sv_ofW (by decide) kw_373 (Nat.le_of_ble_eq_true rfl) ?_
  intro p e s mth args below meth c hr C _
  refine sv_sub (lv' := [(0, .ref (sv_r G c' j)), (1, .int i), (2, .int v)]) rfl ?_
  refine sv_iload_n (i := 1) (x := i) C dX5_put_0 rfl rfl ?_
  refine sv_if_lt C 14 dX5_put_1 (by decide) (fun q1 => ?_) (fun q1 => ?_)
  · exact sv_vret C hr dX5_put_14 (Nat.le_of_ble_eq_true rfl) (Nat.le_of_ble_eq_true rfl) (sv_eqW (by unfold cPut; rw [if_pos (Or.inl q1)]))
  · refine sv_iload_n (i := 1) (x := i) C dX5_put_4 rfl rfl ?_
    refine sv_aload_n (i := 0) (x := sv_r G c' j) C dX5_put_5 rfl rfl ?_
    refine sv_alen (v := nI (sv_n c')) C hok hir rfl dX5_put_6 ?_
    refine sv_icmp_ge C 14 dX5_put_7 (by decide) (fun q7 => ?_) (fun q7 => ?_)
    · exact sv_vret C hr dX5_put_14 (Nat.le_of_ble_eq_true rfl) (Nat.le_of_ble_eq_true rfl) (sv_eqW (by unfold cPut; rw [if_pos (Or.inr q7)]))
    · refine sv_aload_n (i := 0) (x := sv_r G c' j) C dX5_put_10 rfl rfl ?_
      refine sv_iload_n (i := 1) (x := i) C dX5_put_11 rfl rfl ?_
      refine sv_iload_n (i := 2) (x := v) C dX5_put_12 rfl rfl ?_
      refine sv_iast C hok hir (sv_vpin q1 q7 (sv_nlt _)) dX5_put_13 ?_
      exact sv_vret C hr dX5_put_14 (Nat.le_of_ble_eq_true rfl) (Nat.le_of_ble_eq_true rfl) (sv_eqW (by unfold cPut; rw [if_neg (fun h => h.elim q1 q7)]))

theorem met_putN {l : Launch} {G : sv_G} {z : Nat} {M : sv_M} {o : Int64} {c' j i : Nat} {v : Int32} (q p' : Nat) (hq : sv_q c' j = q) (hp : sv_i c' i = p') (hok : sv_ok c' j = true) (hir : sv_ir c' = true) (h : i < sv_n c') : sv_Met l G yX5_put cX5_put 3 none 0 [.ref (sv_r G c' j), .int (nI i), .int v] (sv_W G z M o) none (sv_W G z (sv_w M q p' v) o) := by
  have h9 := met_put l G z M o c' j hok hir (nI i) v
  rw [cPut_N h, hq, hp] at h9
  exact h9
set_option maxHeartbeats 4000000 in
set_option maxRecDepth 100000 in
theorem met_raise (l : Launch) (G : sv_G) (z : Nat) (M : sv_M) (o : Int64) (c' j : Nat) (hok : sv_ok c' j = true) (hir : sv_ir c' = true) (i v : Int32) : sv_Met l G yX5_raise cX5_raise 3 none 1 [.ref (sv_r G c' j), .int i, .int v] (sv_W G z M o) none (sv_W G z (cPut M c' j i (cAt M c' j i + v)) o) := by
  refine sv_ofW (by decide) kw_370 (Nat.le_of_ble_eq_true rfl) ?_
  intro p e s mth args below meth c hr C _
  refine sv_sub (lv' := [(0, .ref (sv_r G c' j)), (1, .int i), (2, .int v)]) rfl ?_
  refine sv_iload_n (i := 1) (x := i) C dX5_raise_0 rfl rfl ?_
  refine sv_if_lt C 17 dX5_raise_1 (by decide) (fun q1 => ?_) (fun q1 => ?_)
  · exact sv_vret C hr dX5_raise_17 (Nat.le_of_ble_eq_true rfl) (Nat.le_of_ble_eq_true rfl) (sv_eqW (by unfold cPut; rw [if_pos (Or.inl q1)]))
  · refine sv_iload_n (i := 1) (x := i) C dX5_raise_4 rfl rfl ?_
    refine sv_aload_n (i := 0) (x := sv_r G c' j) C dX5_raise_5 rfl rfl ?_
    refine sv_alen (v := nI (sv_n c')) C hok hir rfl dX5_raise_6 ?_
    refine sv_icmp_ge C 17 dX5_raise_7 (by decide) (fun q7 => ?_) (fun q7 => ?_)
    · exact sv_vret C hr dX5_raise_17 (Nat.le_of_ble_eq_true rfl) (Nat.le_of_ble_eq_true rfl) (sv_eqW (by unfold cPut; rw [if_pos (Or.inr q7)]))
    · refine sv_aload_n (i := 0) (x := sv_r G c' j) C dX5_raise_10 rfl rfl ?_
      refine sv_iload_n (i := 1) (x := i) C dX5_raise_11 rfl rfl ?_
      refine sv_dup2_11 C dX5_raise_12 rfl rfl ?_
      refine sv_iald C hok hir (sv_vpin q1 q7 (sv_nlt _)) dX5_raise_13 ?_
      refine sv_topi (fun v13 e13 => ?_)
      refine sv_iload_n (i := 2) (x := v) C dX5_raise_14 rfl rfl ?_
      refine sv_iadd C dX5_raise_15 ?_
      refine sv_topi (fun v15 e15 => ?_)
      refine sv_iast C hok hir (sv_vpin q1 q7 (sv_nlt _)) dX5_raise_16 ?_
      exact sv_vret C hr dX5_raise_17 (Nat.le_of_ble_eq_true rfl) (Nat.le_of_ble_eq_true rfl) (sv_eqW (by rw [e15, e13]; unfold cPut cAt; rw [if_neg (fun h => h.elim q1 q7), if_neg (fun h => h.elim q1 q7)]))

theorem met_raiseN {l : Launch} {G : sv_G} {z : Nat} {M : sv_M} {o : Int64} {c' j i : Nat} {v : Int32} (q p' : Nat) (hq : sv_q c' j = q) (hp : sv_i c' i = p') (hok : sv_ok c' j = true) (hir : sv_ir c' = true) (h : i < sv_n c') : sv_Met l G yX5_raise cX5_raise 3 none 1 [.ref (sv_r G c' j), .int (nI i), .int v] (sv_W G z M o) none (sv_W G z (sv_w M q p' (M q p' + v)) o) := by
  have h9 := met_raise l G z M o c' j hok hir (nI i) v
  rw [cPut_N h, cAt_N h, hq, hp] at h9
  exact h9
end
section
set_option maxHeartbeats 4000000 in
set_option maxRecDepth 100000 in
theorem met_sumOf (l : Launch) (G : sv_G) (z : Nat) (M : sv_M) (o : Int64) (c' j : Nat) (hok : sv_ok c' j = true) (hir : sv_ir c' = true) : sv_Met l G yX5_sumOf cX5_sumOf 3 (some .int) 0 [.ref (sv_r G c' j)] (sv_W G z M o) (some (.int (smI (fun i => M (sv_q c' j) (sv_i c' i)) (sv_n c')))) (sv_W G z M o) := by
  refine sv_ofW (by decide) kw_307 (Nat.le_of_ble_eq_true rfl) ?_
  intro p e s mth args below meth c hr C _
  have hs := sv_nlt c'
  refine sv_sub (lv' := [(0, .ref (sv_r G c' j))]) rfl ?_
  refine sv_iconst (v := nI 0) C dX5_sumOf_0 (by decide) ?_
  refine sv_istore_n (i := 1) C [(0, .ref (sv_r G c' j)), (1, .int (nI 0))] dX5_sumOf_1 rfl (by decide) rfl ?_
  refine sv_iconst (v := nI 0) C dX5_sumOf_2 (by decide) ?_
  refine sv_istore_n (i := 2) C [(0, .ref (sv_r G c' j)), (1, .int (nI 0)), (2, .int (nI 0))] dX5_sumOf_3 rfl (by decide) rfl ?_
  refine sv_loop (N := sv_n c') (I := fun _ => True) (Wf := fun i => sv_W G z M o) (Lf := fun i => [(0, .ref (sv_r G c' j)), (1, .int (smI (fun i => M (sv_q c' j) (sv_i c' i)) i)), (2, .int (nI i))]) 0 (Nat.zero_le _) trivial (fun i hi0 hi hI ih => ?_)
  refine sv_iload_n (i := 2) (x := nI i) C dX5_sumOf_4 rfl rfl ?_
  refine sv_aload_n (i := 0) (x := sv_r G c' j) C dX5_sumOf_5 rfl rfl ?_
  refine sv_alen (v := nI (sv_n c')) C hok hir rfl dX5_sumOf_6 ?_
  refine sv_icmp_geN C 22 dX5_sumOf_7 (by decide) (by omega) (by omega) (fun q7 => ?_) (fun q7 => ?_)
  · refine sv_iload_n (i := 1) (x := smI (fun i => M (sv_q c' j) (sv_i c' i)) i) C dX5_sumOf_22 rfl rfl ?_
    exact sv_iret C hr dX5_sumOf_23 (Nat.le_of_ble_eq_true rfl) (Nat.le_of_ble_eq_true rfl) (by rw [show i = sv_n c' from by omega]) (fun _ h => h)
  · refine sv_iload_n (i := 1) (x := smI (fun i => M (sv_q c' j) (sv_i c' i)) i) C dX5_sumOf_10 rfl rfl ?_
    refine sv_aload_n (i := 0) (x := sv_r G c' j) C dX5_sumOf_11 rfl rfl ?_
    refine sv_iload_n (i := 2) (x := nI i) C dX5_sumOf_12 rfl rfl ?_
    refine sv_ialdN C (sv_q c' j) (sv_i c' i) rfl rfl hok hir (by omega) dX5_sumOf_13 ?_
    refine sv_topi (fun v13 e13 => ?_)
    refine sv_iadd C dX5_sumOf_14 ?_
    refine sv_topi (fun v14 e14 => ?_)
    refine sv_istore_n (i := 1) C [(0, .ref (sv_r G c' j)), (1, .int v14), (2, .int (nI i))] dX5_sumOf_15 rfl (by decide) rfl ?_
    refine sv_iinc (i := 2) (x := nI i) C (nI (i + 1)) [(0, .ref (sv_r G c' j)), (1, .int v14), (2, .int (nI (i + 1)))] dX5_sumOf_16 rfl (sv_incN i 1) (by decide) rfl ?_
    refine sv_goto C 4 dX5_sumOf_19 (by decide) ?_
    rw [show v14 = smI (fun i => M (sv_q c' j) (sv_i c' i)) (i + 1) from by rw [e14, e13]; rfl]
    exact ih (by omega) trivial

set_option maxHeartbeats 4000000 in
set_option maxRecDepth 100000 in
theorem met_numberOf (l : Launch) (G : sv_G) (Wd : Heap → Prop) (x : Int32) (hx : x = 0 ∨ x = 1) : sv_Met l G yX5_numberOf cX5_numberOf 1 (some .int) 0 [.int x] Wd (some (.int x)) Wd := by
  refine sv_ofW (by decide) kw_310 (Nat.le_of_ble_eq_true rfl) ?_
  intro p e s mth args below meth c hr C _
  refine sv_sub (lv' := [(0, .int x)]) rfl ?_
  refine sv_iload_n (i := 0) (x := x) C dX5_numberOf_0 rfl rfl ?_
  refine sv_sel_if_eq (va := nI 1) (vb := nI 0) C 8 dX5_numberOf_1 (by decide) dX5_numberOf_4 (by decide) dX5_numberOf_5 (by decide) dX5_numberOf_8 (by decide) ?_
  refine sv_set (v' := .int x) (congrArg Value.int (by rcases hx with rfl | rfl <;> rfl)) ?_
  exact sv_iret C hr dX5_numberOf_9 (Nat.le_of_ble_eq_true rfl) (Nat.le_of_ble_eq_true rfl) rfl (fun _ h => h)

theorem sv_q14 {c j : Nat} (h : c < 14) : sv_q c j = j := if_pos h
set_option maxHeartbeats 4000000 in
set_option maxRecDepth 100000 in
theorem met_copyRow (l : Launch) (G : sv_G) (z : Nat) (M : sv_M) (o : Int64) (c' j1 j2 : Nat) (hc : c' < 14) (h1 : j1 < 8) (h2 : j2 < 8) (hne : j1 ≠ j2) (hir : sv_ir c' = true) : sv_Met l G yX5_copyRow cX5_copyRow 3 none 0 [.ref (sv_r G c' j1), .ref (sv_r G c' j2)] (sv_W G z M o) none (sv_W G z (sv_u M j2 (cpR c' (sv_n c') (M j1) (M j2))) o) := by
  refine sv_ofW (by decide) kw_107 (Nat.le_of_ble_eq_true rfl) ?_
  intro p e s mth args below meth c hr C _
  have hs := sv_nlt c'
  refine sv_sub (lv' := [(0, .ref (sv_r G c' j1)), (1, .ref (sv_r G c' j2))]) rfl ?_
  refine sv_iconst (v := nI 0) C dX5_copyRow_0 (by decide) ?_
  refine sv_istore_n (i := 2) C [(0, .ref (sv_r G c' j1)), (1, .ref (sv_r G c' j2)), (2, .int (nI 0))] dX5_copyRow_1 rfl (by decide) rfl ?_
  refine sv_wd (sv_eqW (sv_ui _ j2).symm) ?_
  refine sv_loop (N := sv_n c') (I := fun _ => True) (Wf := fun i => sv_W G z (sv_u M j2 (cpR c' i (M j1) (M j2))) o) (Lf := fun i => [(0, .ref (sv_r G c' j1)), (1, .ref (sv_r G c' j2)), (2, .int (nI i))]) 0 (Nat.zero_le _) trivial (fun i hi0 hi hI ih => ?_)
  refine sv_iload_n (i := 2) (x := nI i) C dX5_copyRow_2 rfl rfl ?_
  refine sv_aload_n (i := 0) (x := sv_r G c' j1) C dX5_copyRow_3 rfl rfl ?_
  refine sv_alen (v := nI (sv_n c')) C (sv_okj hc h1) hir rfl dX5_copyRow_4 ?_
  refine sv_icmp_geN C 26 dX5_copyRow_5 (by decide) (by omega) (by omega) (fun q5 => ?_) (fun q5 => ?_)
  · exact sv_vret C hr dX5_copyRow_26 (Nat.le_of_ble_eq_true rfl) (Nat.le_of_ble_eq_true rfl) (sv_eqW (by rw [show i = sv_n c' from by omega]))
  · refine sv_iload_n (i := 2) (x := nI i) C dX5_copyRow_8 rfl rfl ?_
    refine sv_aload_n (i := 1) (x := sv_r G c' j2) C dX5_copyRow_9 rfl rfl ?_
    refine sv_alen (v := nI (sv_n c')) C (sv_okj hc h2) hir rfl dX5_copyRow_10 ?_
    refine sv_icmp_geN C 26 dX5_copyRow_11 (by decide) (by omega) (by omega) (fun q11 => ?_) (fun q11 => ?_)
    · exact absurd q11 (by omega)
    · refine sv_aload_n (i := 1) (x := sv_r G c' j2) C dX5_copyRow_14 rfl rfl ?_
      refine sv_iload_n (i := 2) (x := nI i) C dX5_copyRow_15 rfl rfl ?_
      refine sv_aload_n (i := 0) (x := sv_r G c' j1) C dX5_copyRow_16 rfl rfl ?_
      refine sv_iload_n (i := 2) (x := nI i) C dX5_copyRow_17 rfl rfl ?_
      refine sv_ialdN C (sv_q c' j1) (sv_i c' i) rfl rfl (sv_okj hc h1) hir (by omega) dX5_copyRow_18 ?_
      refine sv_topi (fun v18 e18 => ?_)
      refine sv_iastN C (sv_q c' j2) (sv_i c' i) rfl rfl (sv_okj hc h2) hir (by omega) dX5_copyRow_19 ?_
      refine sv_iinc (i := 2) (x := nI i) C (nI (i + 1)) [(0, .ref (sv_r G c' j1)), (1, .ref (sv_r G c' j2)), (2, .int (nI (i + 1)))] dX5_copyRow_20 rfl (sv_incN i 1) (by decide) rfl ?_
      refine sv_goto C 2 dX5_copyRow_23 (by decide) ?_
      refine sv_wd (sv_eqW ?_) (ih (by omega) trivial)
      rw [sv_wu, sv_q14 hc, sv_us, sv_uu, e18, sv_q14 hc, sv_un hne]
      rfl

theorem nI_one : nI 1 = 1 := rfl
theorem sw_pp {T : Int32} {f : Nat} {x : vX} {v : Int32} (e : v = x (6 * f + 9)) (h1 : T ≤ v) (h2 : v = 0) : sw T f x = upd x (6 * f + 14) (x (6 * f + 14) + 1) := by
  subst e; unfold sw; rw [if_pos h1, if_pos h2]
theorem sw_pn {T : Int32} {f : Nat} {x : vX} {v : Int32} (e : v = x (6 * f + 9)) (h1 : T ≤ v) (h2 : ¬ v = 0) : sw T f x = x := by
  subst e; unfold sw; rw [if_pos h1, if_neg h2]
theorem sw_np {T : Int32} {f : Nat} {x : vX} {v : Int32} (e : v = x (6 * f + 9)) (h1 : ¬ T ≤ v) (h2 : v = 0) : sw T f x = upd (upd x (6 * f + 14) (x (6 * f + 14) + 1)) (6 * f + 9) T := by
  subst e; unfold sw; rw [if_neg h1, if_pos h2]
theorem sw_nn {T : Int32} {f : Nat} {x : vX} {v : Int32} (e : v = x (6 * f + 9)) (h1 : ¬ T ≤ v) (h2 : ¬ v = 0) : sw T f x = upd x (6 * f + 9) T := by
  subst e; unfold sw; rw [if_neg h1, if_neg h2]
set_option maxHeartbeats 4000000 in
set_option maxRecDepth 100000 in
theorem met_letBurn (l : Launch) (G : sv_G) (z : Nat) (M : sv_M) (o : Int64) (j f : Nat) (hj : j < 8) (hf : f < 8) (T : Int32) : sv_Met l G yX0_letBurn cX0_letBurn 4 none 2 [.ref (sv_r G 1 j), .int (nI f), .int T] (sv_W G z M o) none (sv_W G z (sv_u M j (sw T f (M j))) o) := by
  refine sv_ofW (by decide) kw_385 (Nat.le_of_ble_eq_true rfl) ?_
  intro p e s mth args below meth c hr C _
  refine sv_sub (lv' := [(0, .ref (sv_r G 1 j)), (1, .int (nI f)), (2, .int T)]) rfl ?_
  refine sv_aload_n (i := 0) (x := sv_r G 1 j) C dX0_letBurn_0 rfl rfl ?_
  refine sv_get_0_0 C hj kw_41 dX0_letBurn_1 ?_
  refine sv_iload_n (i := 1) (x := nI f) C dX0_letBurn_4 rfl rfl ?_
  refine sv_callN (as := [_, _]) (rest := []) C (met_atN j (6 * f + 9) rfl rfl (sv_okj (by decide) hj) rfl (by show _ < 8; omega)) fX5_at (host := "StairLight") kn_RX0_34 ⟨Nat.le_of_ble_eq_true rfl, Nat.le_of_ble_eq_true rfl⟩ (Nat.le_of_ble_eq_true rfl) dX0_letBurn_5 ⟨Nat.zero_le _, Nat.zero_le _⟩  ?_
  refine sv_ri (fun v5 e5 => ?_)
  refine sv_istore_n (i := 3) C [(0, .ref (sv_r G 1 j)), (1, .int (nI f)), (2, .int T), (3, .int v5)] dX0_letBurn_8 rfl (by decide) rfl ?_
  refine sv_iload_n (i := 3) (x := v5) C dX0_letBurn_9 rfl rfl ?_
  refine sv_if_ne C 22 dX0_letBurn_10 (by decide) (fun q10 => ?_) (fun q10 => ?_)
  · refine sv_iload_n (i := 3) (x := v5) C dX0_letBurn_22 rfl rfl ?_
    refine sv_iload_n (i := 2) (x := T) C dX0_letBurn_23 rfl rfl ?_
    refine sv_icmp_ge C 36 dX0_letBurn_24 (by decide) (fun q24 => ?_) (fun q24 => ?_)
    · exact sv_vret C hr dX0_letBurn_36 (Nat.le_of_ble_eq_true rfl) (Nat.le_of_ble_eq_true rfl) (sv_eqW (by rw [sw_pn e5 q24 q10, sv_ui]))
    · refine sv_aload_n (i := 0) (x := sv_r G 1 j) C dX0_letBurn_27 rfl rfl ?_
      refine sv_get_0_0 C hj kw_41 dX0_letBurn_28 ?_
      refine sv_iload_n (i := 1) (x := nI f) C dX0_letBurn_31 rfl rfl ?_
      refine sv_iload_n (i := 2) (x := T) C dX0_letBurn_32 rfl rfl ?_
      refine sv_callN (as := [_, _, _]) (rest := []) C (met_putN j (6 * f + 9) rfl rfl (sv_okj (by decide) hj) rfl (by show _ < 8; omega)) fX5_put (host := "StairLight") kn_RX0_42 ⟨Nat.le_of_ble_eq_true rfl, Nat.le_of_ble_eq_true rfl⟩ (Nat.le_of_ble_eq_true rfl) dX0_letBurn_33 ⟨Nat.zero_le _, Nat.zero_le _⟩  ?_
      refine sv_rv ?_
      exact sv_vret C hr dX0_letBurn_36 (Nat.le_of_ble_eq_true rfl) (Nat.le_of_ble_eq_true rfl) (sv_eqW (by rw [sw_nn e5 q24 q10, sv_wu]))
  · refine sv_aload_n (i := 0) (x := sv_r G 1 j) C dX0_letBurn_13 rfl rfl ?_
    refine sv_get_0_5 C hj kw_56 dX0_letBurn_14 ?_
    refine sv_iload_n (i := 1) (x := nI f) C dX0_letBurn_17 rfl rfl ?_
    refine sv_iconst (v := nI 1) C dX0_letBurn_18 (by decide) ?_
    refine sv_callN (as := [_, _, _]) (rest := []) C (met_raiseN j (6 * f + 14) rfl rfl (sv_okj (by decide) hj) rfl (by show _ < 8; omega)) fX5_raise (host := "StairLight") kn_RX0_38 ⟨Nat.le_of_ble_eq_true rfl, Nat.le_of_ble_eq_true rfl⟩ (Nat.le_of_ble_eq_true rfl) dX0_letBurn_19 ⟨Nat.zero_le _, Nat.zero_le _⟩  ?_
    refine sv_rv ?_
    refine sv_iload_n (i := 3) (x := v5) C dX0_letBurn_22 rfl rfl ?_
    refine sv_iload_n (i := 2) (x := T) C dX0_letBurn_23 rfl rfl ?_
    refine sv_icmp_ge C 36 dX0_letBurn_24 (by decide) (fun q24 => ?_) (fun q24 => ?_)
    · exact sv_vret C hr dX0_letBurn_36 (Nat.le_of_ble_eq_true rfl) (Nat.le_of_ble_eq_true rfl) (sv_eqW (by rw [sw_pp e5 q24 q10, sv_wu, nI_one]))
    · refine sv_aload_n (i := 0) (x := sv_r G 1 j) C dX0_letBurn_27 rfl rfl ?_
      refine sv_get_0_0 C hj kw_41 dX0_letBurn_28 ?_
      refine sv_iload_n (i := 1) (x := nI f) C dX0_letBurn_31 rfl rfl ?_
      refine sv_iload_n (i := 2) (x := T) C dX0_letBurn_32 rfl rfl ?_
      refine sv_callN (as := [_, _, _]) (rest := []) C (met_putN j (6 * f + 9) rfl rfl (sv_okj (by decide) hj) rfl (by show _ < 8; omega)) fX5_put (host := "StairLight") kn_RX0_42 ⟨Nat.le_of_ble_eq_true rfl, Nat.le_of_ble_eq_true rfl⟩ (Nat.le_of_ble_eq_true rfl) dX0_letBurn_33 ⟨Nat.zero_le _, Nat.zero_le _⟩  ?_
      refine sv_rv ?_
      exact sv_vret C hr dX0_letBurn_36 (Nat.le_of_ble_eq_true rfl) (Nat.le_of_ble_eq_true rfl) (sv_eqW (by rw [sw_np e5 q24 q10, sv_wu, sv_wu, sv_us, sv_uu, nI_one]))

theorem cAt_o {M : sv_M} {c j : Nat} {i : Int32} (h : i < 0 ∨ nI (sv_n c) ≤ i) : cAt M c j i = 0 := if_pos h
theorem cPut_o {M : sv_M} {c j : Nat} {i v : Int32} (h : i < 0 ∨ nI (sv_n c) ≤ i) : cPut M c j i v = M := if_pos h
set_option maxHeartbeats 4000000 in
set_option maxRecDepth 100000 in
theorem met_letBurnO (l : Launch) (G : sv_G) (z : Nat) (M : sv_M) (o : Int64) (j : Nat) (hj : j < 8) (f T : Int32) (hf : f < 0 ∨ nI 8 ≤ f) : sv_Met l G yX0_letBurn cX0_letBurn 4 none 2 [.ref (sv_r G 1 j), .int f, .int T] (sv_W G z M o) none (sv_W G z M o) := by
  refine sv_ofW (by decide) kw_385 (Nat.le_of_ble_eq_true rfl) ?_
  intro p e s mth args below meth c hr C _
  refine sv_sub (lv' := [(0, .ref (sv_r G 1 j)), (1, .int f), (2, .int T)]) rfl ?_
  refine sv_aload_n (i := 0) (x := sv_r G 1 j) C dX0_letBurn_0 rfl rfl ?_
  refine sv_get_0_0 C hj kw_41 dX0_letBurn_1 ?_
  refine sv_iload_n (i := 1) (x := f) C dX0_letBurn_4 rfl rfl ?_
  refine sv_callN (as := [_, _]) (rest := []) C (met_at l G _ _ _ 2 j (sv_okj (by decide) hj) rfl f) fX5_at (host := "StairLight") kn_RX0_34 ⟨Nat.le_of_ble_eq_true rfl, Nat.le_of_ble_eq_true rfl⟩ (Nat.le_of_ble_eq_true rfl) dX0_letBurn_5 ⟨Nat.zero_le _, Nat.zero_le _⟩  ?_
  refine sv_ri (fun v5 e5 => ?_)
  refine sv_istore_n (i := 3) C [(0, .ref (sv_r G 1 j)), (1, .int f), (2, .int T), (3, .int v5)] dX0_letBurn_8 rfl (by decide) rfl ?_
  refine sv_iload_n (i := 3) (x := v5) C dX0_letBurn_9 rfl rfl ?_
  refine sv_if_ne C 22 dX0_letBurn_10 (by decide) (fun q10 => ?_) (fun q10 => ?_)
  · exact absurd (e5.trans (cAt_o (show f < 0 ∨ nI (sv_n 2) ≤ f from hf))) q10
  · refine sv_aload_n (i := 0) (x := sv_r G 1 j) C dX0_letBurn_13 rfl rfl ?_
    refine sv_get_0_5 C hj kw_56 dX0_letBurn_14 ?_
    refine sv_iload_n (i := 1) (x := f) C dX0_letBurn_17 rfl rfl ?_
    refine sv_iconst (v := nI 1) C dX0_letBurn_18 (by decide) ?_
    refine sv_callN (as := [_, _, _]) (rest := []) C (met_raise l G _ _ _ 7 j (sv_okj (by decide) hj) rfl f (nI 1)) fX5_raise (host := "StairLight") kn_RX0_38 ⟨Nat.le_of_ble_eq_true rfl, Nat.le_of_ble_eq_true rfl⟩ (Nat.le_of_ble_eq_true rfl) dX0_letBurn_19 ⟨Nat.zero_le _, Nat.zero_le _⟩  ?_
    refine sv_rv ?_
    refine sv_iload_n (i := 3) (x := v5) C dX0_letBurn_22 rfl rfl ?_
    refine sv_iload_n (i := 2) (x := T) C dX0_letBurn_23 rfl rfl ?_
    refine sv_icmp_ge C 36 dX0_letBurn_24 (by decide) (fun q24 => ?_) (fun q24 => ?_)
    · exact sv_vret C hr dX0_letBurn_36 (Nat.le_of_ble_eq_true rfl) (Nat.le_of_ble_eq_true rfl) (sv_eqW (by rw [cPut_o (c := 7) hf]))
    · refine sv_aload_n (i := 0) (x := sv_r G 1 j) C dX0_letBurn_27 rfl rfl ?_
      refine sv_get_0_0 C hj kw_41 dX0_letBurn_28 ?_
      refine sv_iload_n (i := 1) (x := f) C dX0_letBurn_31 rfl rfl ?_
      refine sv_iload_n (i := 2) (x := T) C dX0_letBurn_32 rfl rfl ?_
      refine sv_callN (as := [_, _, _]) (rest := []) C (met_put l G _ _ _ 2 j (sv_okj (by decide) hj) rfl f T) fX5_put (host := "StairLight") kn_RX0_42 ⟨Nat.le_of_ble_eq_true rfl, Nat.le_of_ble_eq_true rfl⟩ (Nat.le_of_ble_eq_true rfl) dX0_letBurn_33 ⟨Nat.zero_le _, Nat.zero_le _⟩  ?_
      refine sv_rv ?_
      exact sv_vret C hr dX0_letBurn_36 (Nat.le_of_ble_eq_true rfl) (Nat.le_of_ble_eq_true rfl) (sv_eqW (by rw [cPut_o (c := 2) hf, cPut_o (c := 7) hf]))

theorem bdn_p {f : Nat} {x : vX} {v : Int32} (e : v = x (6 * f + 9)) (h : v ≤ 0) : bdn f x = x := by subst e; exact if_pos h
theorem bdn_n {f : Nat} {x : vX} {v : Int32} (e : v = x (6 * f + 9)) (h : ¬ v ≤ 0) : bdn f x = upd x (6 * f + 9) (x (6 * f + 9) + (-1)) := by subst e; exact if_neg h
set_option maxHeartbeats 4000000 in
set_option maxRecDepth 100000 in
theorem met_burnDown (l : Launch) (G : sv_G) (z : Nat) (M : sv_M) (o : Int64) (j f : Nat) (hj : j < 8) (hf : f < 8) : sv_Met l G yX0_burnDown cX0_burnDown 2 none 2 [.ref (sv_r G 1 j), .int (nI f)] (sv_W G z M o) none (sv_W G z (sv_u M j (bdn f (M j))) o) := by
  refine sv_ofW (by decide) kw_404 (Nat.le_of_ble_eq_true rfl) ?_
  intro p e s mth args below meth c hr C _
  refine sv_sub (lv' := [(0, .ref (sv_r G 1 j)), (1, .int (nI f))]) rfl ?_
  refine sv_aload_n (i := 0) (x := sv_r G 1 j) C dX0_burnDown_0 rfl rfl ?_
  refine sv_get_0_0 C hj kw_41 dX0_burnDown_1 ?_
  refine sv_iload_n (i := 1) (x := nI f) C dX0_burnDown_4 rfl rfl ?_
  refine sv_callN (as := [_, _]) (rest := []) C (met_atN j (6 * f + 9) rfl rfl (sv_okj (by decide) hj) rfl (by show _ < 8; omega)) fX5_at (host := "StairLight") kn_RX0_34 ⟨Nat.le_of_ble_eq_true rfl, Nat.le_of_ble_eq_true rfl⟩ (Nat.le_of_ble_eq_true rfl) dX0_burnDown_5 ⟨Nat.zero_le _, Nat.zero_le _⟩  ?_
  refine sv_ri (fun v5 e5 => ?_)
  refine sv_if_le C 20 dX0_burnDown_8 (by decide) (fun q8 => ?_) (fun q8 => ?_)
  · exact sv_vret C hr dX0_burnDown_20 (Nat.le_of_ble_eq_true rfl) (Nat.le_of_ble_eq_true rfl) (sv_eqW (by rw [bdn_p e5 q8, sv_ui]))
  · refine sv_aload_n (i := 0) (x := sv_r G 1 j) C dX0_burnDown_11 rfl rfl ?_
    refine sv_get_0_0 C hj kw_41 dX0_burnDown_12 ?_
    refine sv_iload_n (i := 1) (x := nI f) C dX0_burnDown_15 rfl rfl ?_
    refine sv_iconst (v := (-1)) C dX0_burnDown_16 (by decide) ?_
    refine sv_callN (as := [_, _, _]) (rest := []) C (met_raiseN j (6 * f + 9) rfl rfl (sv_okj (by decide) hj) rfl (by show _ < 8; omega)) fX5_raise (host := "StairLight") kn_RX0_38 ⟨Nat.le_of_ble_eq_true rfl, Nat.le_of_ble_eq_true rfl⟩ (Nat.le_of_ble_eq_true rfl) dX0_burnDown_17 ⟨Nat.zero_le _, Nat.zero_le _⟩  ?_
    refine sv_rv ?_
    exact sv_vret C hr dX0_burnDown_20 (Nat.le_of_ble_eq_true rfl) (Nat.le_of_ble_eq_true rfl) (sv_eqW (by rw [bdn_n e5 q8, sv_wu]))
end
section
set_option maxHeartbeats 4000000 in
set_option maxRecDepth 100000 in
theorem met_F_copyFrom (l : Launch) (G : sv_G) (z : Nat) (M : sv_M) (o : Int64) (j1 j2 : Nat) (h1 : j1 < 8) (h2 : j2 < 8) (hne : j1 ≠ j2) : sv_Met l G yX0_copyFrom cX0_copyFrom 2 none 1 [.ref (sv_r G 1 j2), .ref (sv_r G 1 j1)] (sv_W G z M o) none (sv_W G z (sv_u M j2 (cpF (M j1) (M j2))) o) := by
  refine sv_ofW (by decide) kw_340 (Nat.le_of_ble_eq_true rfl) ?_
  intro p e s mth args below meth c hr C _
  refine sv_sub (lv' := [(0, .ref (sv_r G 1 j2)), (1, .ref (sv_r G 1 j1))]) rfl ?_
  refine sv_aload_n (i := 1) (x := sv_r G 1 j1) C dX0_copyFrom_0 rfl rfl ?_
  refine sv_get_0_0 C h1 kw_41 dX0_copyFrom_1 ?_
  refine sv_aload_n (i := 0) (x := sv_r G 1 j2) C dX0_copyFrom_4 rfl rfl ?_
  refine sv_get_0_0 C h2 kw_41 dX0_copyFrom_5 ?_
  refine sv_callN (as := [_, _]) (rest := []) C (met_copyRow l G _ _ _ 2 j1 j2 (by decide) h1 h2 hne rfl) fX5_copyRow (host := "StairLight") kn_RX0_30 ⟨Nat.le_of_ble_eq_true rfl, Nat.le_of_ble_eq_true rfl⟩ (Nat.le_of_ble_eq_true rfl) dX0_copyFrom_8 ⟨Nat.zero_le _, Nat.zero_le _⟩  ?_
  refine sv_rv ?_
  refine sv_aload_n (i := 1) (x := sv_r G 1 j1) C dX0_copyFrom_11 rfl rfl ?_
  refine sv_get_0_1 C h1 kw_44 dX0_copyFrom_12 ?_
  refine sv_aload_n (i := 0) (x := sv_r G 1 j2) C dX0_copyFrom_15 rfl rfl ?_
  refine sv_get_0_1 C h2 kw_44 dX0_copyFrom_16 ?_
  refine sv_callN (as := [_, _]) (rest := []) C (met_copyRow l G _ _ _ 3 j1 j2 (by decide) h1 h2 hne rfl) fX5_copyRow (host := "StairLight") kn_RX0_30 ⟨Nat.le_of_ble_eq_true rfl, Nat.le_of_ble_eq_true rfl⟩ (Nat.le_of_ble_eq_true rfl) dX0_copyFrom_19 ⟨Nat.zero_le _, Nat.zero_le _⟩  ?_
  refine sv_rv ?_
  refine sv_aload_n (i := 1) (x := sv_r G 1 j1) C dX0_copyFrom_22 rfl rfl ?_
  refine sv_get_0_2 C h1 kw_47 dX0_copyFrom_23 ?_
  refine sv_aload_n (i := 0) (x := sv_r G 1 j2) C dX0_copyFrom_26 rfl rfl ?_
  refine sv_get_0_2 C h2 kw_47 dX0_copyFrom_27 ?_
  refine sv_callN (as := [_, _]) (rest := []) C (met_copyRow l G _ _ _ 4 j1 j2 (by decide) h1 h2 hne rfl) fX5_copyRow (host := "StairLight") kn_RX0_30 ⟨Nat.le_of_ble_eq_true rfl, Nat.le_of_ble_eq_true rfl⟩ (Nat.le_of_ble_eq_true rfl) dX0_copyFrom_30 ⟨Nat.zero_le _, Nat.zero_le _⟩  ?_
  refine sv_rv ?_
  refine sv_aload_n (i := 1) (x := sv_r G 1 j1) C dX0_copyFrom_33 rfl rfl ?_
  refine sv_get_0_3 C h1 kw_50 dX0_copyFrom_34 ?_
  refine sv_aload_n (i := 0) (x := sv_r G 1 j2) C dX0_copyFrom_37 rfl rfl ?_
  refine sv_get_0_3 C h2 kw_50 dX0_copyFrom_38 ?_
  refine sv_callN (as := [_, _]) (rest := []) C (met_copyRow l G _ _ _ 5 j1 j2 (by decide) h1 h2 hne rfl) fX5_copyRow (host := "StairLight") kn_RX0_30 ⟨Nat.le_of_ble_eq_true rfl, Nat.le_of_ble_eq_true rfl⟩ (Nat.le_of_ble_eq_true rfl) dX0_copyFrom_41 ⟨Nat.zero_le _, Nat.zero_le _⟩  ?_
  refine sv_rv ?_
  refine sv_aload_n (i := 1) (x := sv_r G 1 j1) C dX0_copyFrom_44 rfl rfl ?_
  refine sv_get_0_4 C h1 kw_53 dX0_copyFrom_45 ?_
  refine sv_aload_n (i := 0) (x := sv_r G 1 j2) C dX0_copyFrom_48 rfl rfl ?_
  refine sv_get_0_4 C h2 kw_53 dX0_copyFrom_49 ?_
  refine sv_callN (as := [_, _]) (rest := []) C (met_copyRow l G _ _ _ 6 j1 j2 (by decide) h1 h2 hne rfl) fX5_copyRow (host := "StairLight") kn_RX0_30 ⟨Nat.le_of_ble_eq_true rfl, Nat.le_of_ble_eq_true rfl⟩ (Nat.le_of_ble_eq_true rfl) dX0_copyFrom_52 ⟨Nat.zero_le _, Nat.zero_le _⟩  ?_
  refine sv_rv ?_
  refine sv_aload_n (i := 1) (x := sv_r G 1 j1) C dX0_copyFrom_55 rfl rfl ?_
  refine sv_get_0_5 C h1 kw_56 dX0_copyFrom_56 ?_
  refine sv_aload_n (i := 0) (x := sv_r G 1 j2) C dX0_copyFrom_59 rfl rfl ?_
  refine sv_get_0_5 C h2 kw_56 dX0_copyFrom_60 ?_
  refine sv_callN (as := [_, _]) (rest := []) C (met_copyRow l G _ _ _ 7 j1 j2 (by decide) h1 h2 hne rfl) fX5_copyRow (host := "StairLight") kn_RX0_30 ⟨Nat.le_of_ble_eq_true rfl, Nat.le_of_ble_eq_true rfl⟩ (Nat.le_of_ble_eq_true rfl) dX0_copyFrom_63 ⟨Nat.zero_le _, Nat.zero_le _⟩  ?_
  refine sv_rv ?_
  exact sv_vret C hr dX0_copyFrom_66 (Nat.le_of_ble_eq_true rfl) (Nat.le_of_ble_eq_true rfl) (sv_eqW (by simp only [sv_us, sv_uu, sv_un hne]; rfl))

set_option maxHeartbeats 4000000 in
set_option maxRecDepth 100000 in
theorem met_P_copyFrom (l : Launch) (G : sv_G) (z : Nat) (M : sv_M) (o : Int64) (j1 j2 : Nat) (h1 : j1 < 8) (h2 : j2 < 8) (hne : j1 ≠ j2) : sv_Met l G yX2_copyFrom cX2_copyFrom 2 none 1 [.ref (sv_r G 8 j2), .ref (sv_r G 8 j1)] (sv_W G z M o) none (sv_W G z (sv_u M j2 (cpP (M j1) (M j2))) o) := by
  refine sv_ofW (by decide) kw_345 (Nat.le_of_ble_eq_true rfl) ?_
  intro p e s mth args below meth c hr C _
  refine sv_sub (lv' := [(0, .ref (sv_r G 8 j2)), (1, .ref (sv_r G 8 j1))]) rfl ?_
  refine sv_aload_n (i := 1) (x := sv_r G 8 j1) C dX2_copyFrom_0 rfl rfl ?_
  refine sv_get_2_0 C h1 kw_78 dX2_copyFrom_1 ?_
  refine sv_aload_n (i := 0) (x := sv_r G 8 j2) C dX2_copyFrom_4 rfl rfl ?_
  refine sv_get_2_0 C h2 kw_78 dX2_copyFrom_5 ?_
  refine sv_callN (as := [_, _]) (rest := []) C (met_copyRow l G _ _ _ 9 j1 j2 (by decide) h1 h2 hne rfl) fX5_copyRow (host := "StairLight") kn_RX2_31 ⟨Nat.le_of_ble_eq_true rfl, Nat.le_of_ble_eq_true rfl⟩ (Nat.le_of_ble_eq_true rfl) dX2_copyFrom_8 ⟨Nat.zero_le _, Nat.zero_le _⟩  ?_
  refine sv_rv ?_
  refine sv_aload_n (i := 1) (x := sv_r G 8 j1) C dX2_copyFrom_11 rfl rfl ?_
  refine sv_get_2_1 C h1 kw_79 dX2_copyFrom_12 ?_
  refine sv_aload_n (i := 0) (x := sv_r G 8 j2) C dX2_copyFrom_15 rfl rfl ?_
  refine sv_get_2_1 C h2 kw_79 dX2_copyFrom_16 ?_
  refine sv_callN (as := [_, _]) (rest := []) C (met_copyRow l G _ _ _ 10 j1 j2 (by decide) h1 h2 hne rfl) fX5_copyRow (host := "StairLight") kn_RX2_31 ⟨Nat.le_of_ble_eq_true rfl, Nat.le_of_ble_eq_true rfl⟩ (Nat.le_of_ble_eq_true rfl) dX2_copyFrom_19 ⟨Nat.zero_le _, Nat.zero_le _⟩  ?_
  refine sv_rv ?_
  refine sv_aload_n (i := 1) (x := sv_r G 8 j1) C dX2_copyFrom_22 rfl rfl ?_
  refine sv_get_2_2 C h1 kw_82 dX2_copyFrom_23 ?_
  refine sv_aload_n (i := 0) (x := sv_r G 8 j2) C dX2_copyFrom_26 rfl rfl ?_
  refine sv_get_2_2 C h2 kw_82 dX2_copyFrom_27 ?_
  refine sv_callN (as := [_, _]) (rest := []) C (met_copyRow l G _ _ _ 11 j1 j2 (by decide) h1 h2 hne rfl) fX5_copyRow (host := "StairLight") kn_RX2_31 ⟨Nat.le_of_ble_eq_true rfl, Nat.le_of_ble_eq_true rfl⟩ (Nat.le_of_ble_eq_true rfl) dX2_copyFrom_30 ⟨Nat.zero_le _, Nat.zero_le _⟩  ?_
  refine sv_rv ?_
  refine sv_aload_n (i := 1) (x := sv_r G 8 j1) C dX2_copyFrom_33 rfl rfl ?_
  refine sv_get_2_3 C h1 kw_84 dX2_copyFrom_34 ?_
  refine sv_aload_n (i := 0) (x := sv_r G 8 j2) C dX2_copyFrom_37 rfl rfl ?_
  refine sv_get_2_3 C h2 kw_84 dX2_copyFrom_38 ?_
  refine sv_callN (as := [_, _]) (rest := []) C (met_copyRow l G _ _ _ 12 j1 j2 (by decide) h1 h2 hne rfl) fX5_copyRow (host := "StairLight") kn_RX2_31 ⟨Nat.le_of_ble_eq_true rfl, Nat.le_of_ble_eq_true rfl⟩ (Nat.le_of_ble_eq_true rfl) dX2_copyFrom_41 ⟨Nat.zero_le _, Nat.zero_le _⟩  ?_
  refine sv_rv ?_
  refine sv_aload_n (i := 0) (x := sv_r G 8 j2) C dX2_copyFrom_44 rfl rfl ?_
  refine sv_aload_n (i := 1) (x := sv_r G 8 j1) C dX2_copyFrom_45 rfl rfl ?_
  refine sv_get_2_4 C h1 kw_85 dX2_copyFrom_46 ?_
  refine sv_topi (fun v46 e46 => ?_)
  refine sv_put_2_4 C h2 kw_85 dX2_copyFrom_49 ?_
  refine sv_aload_n (i := 0) (x := sv_r G 8 j2) C dX2_copyFrom_52 rfl rfl ?_
  refine sv_aload_n (i := 1) (x := sv_r G 8 j1) C dX2_copyFrom_53 rfl rfl ?_
  refine sv_get_2_5 C h1 kw_88 dX2_copyFrom_54 ?_
  refine sv_topi (fun v54 e54 => ?_)
  refine sv_put_2_5 C h2 kw_88 dX2_copyFrom_57 ?_
  exact sv_vret C hr dX2_copyFrom_60 (Nat.le_of_ble_eq_true rfl) (Nat.le_of_ble_eq_true rfl) (sv_eqW (by simp only [e46, e54, sv_wu, sv_us, sv_uu, sv_un hne]; rfl))

set_option maxHeartbeats 4000000 in
set_option maxRecDepth 100000 in
theorem met_S_copyFrom (l : Launch) (G : sv_G) (z : Nat) (M : sv_M) (o : Int64) (j1 j2 : Nat) (h1 : j1 < 8) (h2 : j2 < 8) (hne : j1 ≠ j2) (b6 : M j1 6 = 0 ∨ M j1 6 = 1) (b7 : M j1 7 = 0 ∨ M j1 7 = 1) : sv_Met l G yX3_copyFrom cX3_copyFrom 2 none 2 [.ref (sv_r G 0 j2), .ref (sv_r G 0 j1)] (sv_W G z M o) none (sv_W G z (sv_u M j2 (cpS (M j1) (M j2))) o) := by
  refine sv_ofW (by decide) kw_336 (Nat.le_of_ble_eq_true rfl) ?_
  intro p e s mth args below meth c hr C _
  refine sv_sub (lv' := [(0, .ref (sv_r G 0 j2)), (1, .ref (sv_r G 0 j1))]) rfl ?_
  refine sv_aload_n (i := 0) (x := sv_r G 0 j2) C dX3_copyFrom_0 rfl rfl ?_
  refine sv_get_3_0 C h2 kw_108 dX3_copyFrom_1 ?_
  refine sv_aload_n (i := 1) (x := sv_r G 0 j1) C dX3_copyFrom_4 rfl rfl ?_
  refine sv_get_3_0 C h1 kw_108 dX3_copyFrom_5 ?_
  refine sv_callV (as := [_]) (rest := []) C (met_F_copyFrom l G _ _ _ j1 j2 h1 h2 hne) fX0_copyFrom kw_337 (sv_recv1 C h2) ⟨Nat.le_of_ble_eq_true rfl, Nat.le_of_ble_eq_true rfl⟩ (Nat.le_of_ble_eq_true rfl) dX3_copyFrom_8 ⟨Nat.zero_le _, Nat.zero_le _⟩  ?_
  refine sv_rv ?_
  refine sv_aload_n (i := 0) (x := sv_r G 0 j2) C dX3_copyFrom_11 rfl rfl ?_
  refine sv_get_3_1 C h2 kw_110 dX3_copyFrom_12 ?_
  refine sv_aload_n (i := 1) (x := sv_r G 0 j1) C dX3_copyFrom_15 rfl rfl ?_
  refine sv_get_3_1 C h1 kw_110 dX3_copyFrom_16 ?_
  refine sv_callV (as := [_]) (rest := []) C (met_P_copyFrom l G _ _ _ j1 j2 h1 h2 hne) fX2_copyFrom kw_342 (sv_recv8 C h2) ⟨Nat.le_of_ble_eq_true rfl, Nat.le_of_ble_eq_true rfl⟩ (Nat.le_of_ble_eq_true rfl) dX3_copyFrom_19 ⟨Nat.zero_le _, Nat.zero_le _⟩  ?_
  refine sv_rv ?_
  refine sv_aload_n (i := 1) (x := sv_r G 0 j1) C dX3_copyFrom_22 rfl rfl ?_
  refine sv_get_3_2 C h1 kw_112 dX3_copyFrom_23 ?_
  refine sv_aload_n (i := 0) (x := sv_r G 0 j2) C dX3_copyFrom_26 rfl rfl ?_
  refine sv_get_3_2 C h2 kw_112 dX3_copyFrom_27 ?_
  refine sv_callN (as := [_, _]) (rest := []) C (met_copyRow l G _ _ _ 13 j1 j2 (by decide) h1 h2 hne rfl) fX5_copyRow (host := "StairLight") kn_RX3_32 ⟨Nat.le_of_ble_eq_true rfl, Nat.le_of_ble_eq_true rfl⟩ (Nat.le_of_ble_eq_true rfl) dX3_copyFrom_30 ⟨Nat.zero_le _, Nat.zero_le _⟩  ?_
  refine sv_rv ?_
  refine sv_aload_n (i := 0) (x := sv_r G 0 j2) C dX3_copyFrom_33 rfl rfl ?_
  refine sv_aload_n (i := 1) (x := sv_r G 0 j1) C dX3_copyFrom_34 rfl rfl ?_
  refine sv_get_3_3 C h1 kw_114 dX3_copyFrom_35 ?_
  refine sv_topi (fun v35 e35 => ?_)
  refine sv_put_3_3 C h2 (by rw [e35]; simp only [sv_us, sv_uu, sv_un hne]; exact b6) kw_114 dX3_copyFrom_38 ?_
  refine sv_aload_n (i := 0) (x := sv_r G 0 j2) C dX3_copyFrom_41 rfl rfl ?_
  refine sv_aload_n (i := 1) (x := sv_r G 0 j1) C dX3_copyFrom_42 rfl rfl ?_
  refine sv_get_3_4 C h1 kw_116 dX3_copyFrom_43 ?_
  refine sv_topi (fun v43 e43 => ?_)
  refine sv_put_3_4 C h2 (by rw [e43]; simp only [sv_wu, sv_us, sv_uu, sv_un hne]; exact b7) kw_116 dX3_copyFrom_46 ?_
  refine sv_aload_n (i := 0) (x := sv_r G 0 j2) C dX3_copyFrom_49 rfl rfl ?_
  refine sv_aload_n (i := 1) (x := sv_r G 0 j1) C dX3_copyFrom_50 rfl rfl ?_
  refine sv_get_3_5 C h1 kw_118 dX3_copyFrom_51 ?_
  refine sv_topi (fun v51 e51 => ?_)
  refine sv_put_3_5 C h2 kw_118 dX3_copyFrom_54 ?_
  refine sv_aload_n (i := 0) (x := sv_r G 0 j2) C dX3_copyFrom_57 rfl rfl ?_
  refine sv_aload_n (i := 1) (x := sv_r G 0 j1) C dX3_copyFrom_58 rfl rfl ?_
  refine sv_get_3_6 C h1 kw_120 dX3_copyFrom_59 ?_
  refine sv_topi (fun v59 e59 => ?_)
  refine sv_put_3_6 C h2 kw_120 dX3_copyFrom_62 ?_
  exact sv_vret C hr dX3_copyFrom_65 (Nat.le_of_ble_eq_true rfl) (Nat.le_of_ble_eq_true rfl) (sv_eqW (by simp only [e35, e43, e51, e59, sv_wu, sv_us, sv_uu, sv_un hne]; rfl))

set_option maxHeartbeats 4000000 in
set_option maxRecDepth 100000 in
theorem met_mostMissed (l : Launch) (G : sv_G) (z : Nat) (M : sv_M) (o : Int64) (j : Nat) (hj : j < 8) : sv_Met l G yX0_mostMissed cX0_mostMissed 4 (some .int) 1 [.ref (sv_r G 1 j)] (sv_W G z M o) (some (.int (mm (M j) 8))) (sv_W G z M o) := by
  refine sv_ofW (by decide) kw_464 (Nat.le_of_ble_eq_true rfl) ?_
  intro p e s mth args below meth c hr C _
  refine sv_sub (lv' := [(0, .ref (sv_r G 1 j))]) rfl ?_
  refine sv_iconst (v := (-1)) C dX0_mostMissed_0 (by decide) ?_
  refine sv_istore_n (i := 1) C [(0, .ref (sv_r G 1 j)), (1, .int (-1))] dX0_mostMissed_1 rfl (by decide) rfl ?_
  refine sv_iconst (v := nI 0) C dX0_mostMissed_2 (by decide) ?_
  refine sv_istore_n (i := 2) C [(0, .ref (sv_r G 1 j)), (1, .int (-1)), (2, .int (nI 0))] dX0_mostMissed_3 rfl (by decide) rfl ?_
  refine sv_loop (N := 8) (I := fun _ => True) (Wf := fun i => sv_W G z M o) (Lf := fun i => [(0, .ref (sv_r G 1 j)), (1, .int (mm (M j) i)), (2, .int (nI i))]) 0 (Nat.zero_le _) trivial (fun i hi0 hi hI ih => ?_)
  refine sv_iload_n (i := 2) (x := nI i) C dX0_mostMissed_4 rfl rfl ?_
  refine sv_bipush (v := nI 8) C dX0_mostMissed_5 (by decide) ?_
  refine sv_icmp_geN C 63 dX0_mostMissed_7 (by decide) (by omega) (by omega) (fun q7 => ?_) (fun q7 => ?_)
  · refine sv_iload_n (i := 1) (x := mm (M j) i) C dX0_mostMissed_63 rfl rfl ?_
    exact sv_iret C hr dX0_mostMissed_64 (Nat.le_of_ble_eq_true rfl) (Nat.le_of_ble_eq_true rfl) (by rw [show i = 8 from by omega]) (fun _ h => h)
  · refine sv_aload_n (i := 0) (x := sv_r G 1 j) C dX0_mostMissed_10 rfl rfl ?_
    refine sv_get_0_1 C hj kw_44 dX0_mostMissed_11 ?_
    refine sv_iload_n (i := 2) (x := nI i) C dX0_mostMissed_14 rfl rfl ?_
    refine sv_callN (as := [_, _]) (rest := []) C (met_atN j (6 * i + 10) rfl rfl (sv_okj (by decide) hj) rfl (by show _ < 8; omega)) fX5_at (host := "StairLight") kn_RX0_34 ⟨Nat.le_of_ble_eq_true rfl, Nat.le_of_ble_eq_true rfl⟩ (Nat.le_of_ble_eq_true rfl) dX0_mostMissed_15 ⟨Nat.zero_le _, Nat.zero_le _⟩  ?_
    refine sv_ri (fun v15 e15 => ?_)
    refine sv_if_ne C 25 dX0_mostMissed_18 (by decide) (fun q18 => ?_) (fun q18 => ?_)
    · refine sv_iconst (v := nI 0) C dX0_mostMissed_25 (by decide) ?_
      refine sv_istore_n (i := 3) C [(0, .ref (sv_r G 1 j)), (1, .int (mm (M j) i)), (2, .int (nI i)), (3, .int (nI 0))] dX0_mostMissed_26 rfl (by decide) rfl ?_
      refine sv_iload_n (i := 3) (x := nI 0) C dX0_mostMissed_27 rfl rfl ?_
      refine sv_if_eq C 57 dX0_mostMissed_28 (by decide) (fun q28 => ?_) (fun q28 => ?_)
      · refine sv_iinc (i := 2) (x := nI i) C (nI (i + 1)) [(0, .ref (sv_r G 1 j)), (1, .int (mm (M j) i)), (2, .int (nI (i + 1))), (3, .int (nI 0))] dX0_mostMissed_57 rfl (sv_incN i 1) (by decide) rfl ?_
        refine sv_goto C 4 dX0_mostMissed_60 (by decide) ?_
        refine sv_sub (lv' := [(0, .ref (sv_r G 1 j)), (1, .int (mm (M j) i)), (2, .int (nI (i + 1)))]) rfl ?_
        have hn : mm (M j) (i + 1) = mm (M j) i := if_neg (fun h => q18 (e15.trans h.1))
        rw [← hn]
        exact ih (by omega) trivial
      · exact absurd rfl q28
    · refine sv_iconst (v := nI 1) C dX0_mostMissed_21 (by decide) ?_
      refine sv_goto C 26 dX0_mostMissed_22 (by decide) ?_
      refine sv_istore_n (i := 3) C [(0, .ref (sv_r G 1 j)), (1, .int (mm (M j) i)), (2, .int (nI i)), (3, .int (nI 1))] dX0_mostMissed_26 rfl (by decide) rfl ?_
      refine sv_iload_n (i := 3) (x := nI 1) C dX0_mostMissed_27 rfl rfl ?_
      refine sv_if_eq C 57 dX0_mostMissed_28 (by decide) (fun q28 => ?_) (fun q28 => ?_)
      · exact absurd q28 (by decide)
      · refine sv_iload_n (i := 1) (x := mm (M j) i) C dX0_mostMissed_31 rfl rfl ?_
        refine sv_iconst (v := (-1)) C dX0_mostMissed_32 (by decide) ?_
        refine sv_icmp_eq C 55 dX0_mostMissed_33 (by decide) (fun q33 => ?_) (fun q33 => ?_)
        · refine sv_iload_n (i := 2) (x := nI i) C dX0_mostMissed_55 rfl rfl ?_
          refine sv_istore_n (i := 1) C [(0, .ref (sv_r G 1 j)), (1, .int (nI i)), (2, .int (nI i)), (3, .int (nI 1))] dX0_mostMissed_56 rfl (by decide) rfl ?_
          refine sv_iinc (i := 2) (x := nI i) C (nI (i + 1)) [(0, .ref (sv_r G 1 j)), (1, .int (nI i)), (2, .int (nI (i + 1))), (3, .int (nI 1))] dX0_mostMissed_57 rfl (sv_incN i 1) (by decide) rfl ?_
          refine sv_goto C 4 dX0_mostMissed_60 (by decide) ?_
          refine sv_sub (lv' := [(0, .ref (sv_r G 1 j)), (1, .int (nI i)), (2, .int (nI (i + 1)))]) rfl ?_
          have hn : mm (M j) (i + 1) = nI i := if_pos ⟨e15.symm.trans q18, Or.inl q33⟩
          rw [← hn]
          exact ih (by omega) trivial
        · refine sv_aload_n (i := 0) (x := sv_r G 1 j) C dX0_mostMissed_36 rfl rfl ?_
          refine sv_get_0_2 C hj kw_47 dX0_mostMissed_37 ?_
          refine sv_iload_n (i := 2) (x := nI i) C dX0_mostMissed_40 rfl rfl ?_
          refine sv_callN (as := [_, _]) (rest := []) C (met_atN j (6 * i + 11) rfl rfl (sv_okj (by decide) hj) rfl (by show _ < 8; omega)) fX5_at (host := "StairLight") kn_RX0_34 ⟨Nat.le_of_ble_eq_true rfl, Nat.le_of_ble_eq_true rfl⟩ (Nat.le_of_ble_eq_true rfl) dX0_mostMissed_41 ⟨Nat.zero_le _, Nat.zero_le _⟩  ?_
          refine sv_ri (fun v41 e41 => ?_)
          refine sv_aload_n (i := 0) (x := sv_r G 1 j) C dX0_mostMissed_44 rfl rfl ?_
          refine sv_get_0_2 C hj kw_47 dX0_mostMissed_45 ?_
          refine sv_iload_n (i := 1) (x := mm (M j) i) C dX0_mostMissed_48 rfl rfl ?_
          refine sv_callN (as := [_, _]) (rest := [_]) C (met_at l G _ _ _ 4 j (sv_okj (by decide) hj) rfl (mm (M j) i)) fX5_at (host := "StairLight") kn_RX0_34 ⟨Nat.le_of_ble_eq_true rfl, Nat.le_of_ble_eq_true rfl⟩ (Nat.le_of_ble_eq_true rfl) dX0_mostMissed_49 ⟨Nat.zero_le _, Nat.zero_le _⟩  ?_
          refine sv_ri (fun v49 e49 => ?_)
          have e49 : v49 = M j (6 * (mm (M j) i).toNatClampNeg + 11) := by
            rw [e49]
            obtain ⟨g, hg, eg⟩ := (mm_cases (M j) i).resolve_left q33
            rw [eg, cAt_N (show g < sv_n 4 by show _ < 8; omega), nI_clamp (by omega)]
            rfl
          refine sv_icmp_le C 57 dX0_mostMissed_52 (by decide) (fun q52 => ?_) (fun q52 => ?_)
          · have q52 : ¬ M j (6 * (mm (M j) i).toNatClampNeg + 11) < M j (6 * i + 11) := by rw [← e49, ← e41]; exact Int32.not_lt.mpr q52
            refine sv_iinc (i := 2) (x := nI i) C (nI (i + 1)) [(0, .ref (sv_r G 1 j)), (1, .int (mm (M j) i)), (2, .int (nI (i + 1))), (3, .int (nI 1))] dX0_mostMissed_57 rfl (sv_incN i 1) (by decide) rfl ?_
            refine sv_goto C 4 dX0_mostMissed_60 (by decide) ?_
            refine sv_sub (lv' := [(0, .ref (sv_r G 1 j)), (1, .int (mm (M j) i)), (2, .int (nI (i + 1)))]) rfl ?_
            have hn : mm (M j) (i + 1) = mm (M j) i := if_neg (fun h => h.2.elim q33 (fun z => q52 z))
            rw [← hn]
            exact ih (by omega) trivial
          · have q52 : M j (6 * (mm (M j) i).toNatClampNeg + 11) < M j (6 * i + 11) := by rw [← e49, ← e41]; exact Int32.not_le.mp q52
            refine sv_iload_n (i := 2) (x := nI i) C dX0_mostMissed_55 rfl rfl ?_
            refine sv_istore_n (i := 1) C [(0, .ref (sv_r G 1 j)), (1, .int (nI i)), (2, .int (nI i)), (3, .int (nI 1))] dX0_mostMissed_56 rfl (by decide) rfl ?_
            refine sv_iinc (i := 2) (x := nI i) C (nI (i + 1)) [(0, .ref (sv_r G 1 j)), (1, .int (nI i)), (2, .int (nI (i + 1))), (3, .int (nI 1))] dX0_mostMissed_57 rfl (sv_incN i 1) (by decide) rfl ?_
            refine sv_goto C 4 dX0_mostMissed_60 (by decide) ?_
            refine sv_sub (lv' := [(0, .ref (sv_r G 1 j)), (1, .int (nI i)), (2, .int (nI (i + 1)))]) rfl ?_
            have hn : mm (M j) (i + 1) = nI i := if_pos ⟨e15.symm.trans q18, Or.inr q52⟩
            rw [← hn]
            exact ih (by omega) trivial

set_option maxHeartbeats 4000000 in
set_option maxRecDepth 100000 in
theorem met_isThere (l : Launch) (G : sv_G) (z : Nat) (M : sv_M) (o : Int64) (j f : Nat) (hj : j < 8) (hf : f < 7) : sv_Met l G yX2_isThere cX2_isThere 2 (some .boolean) 1 [.ref (sv_r G 8 j), .int (nI f)] (sv_W G z M o) (some (.int (if M j (4 * f + 59) = M j (4 * f + 60) then 1 else 0))) (sv_W G z M o) := by
  refine sv_ofW (by decide) kw_363 (Nat.le_of_ble_eq_true rfl) ?_
  intro p e s mth args below meth c hr C _
  refine sv_sub (lv' := [(0, .ref (sv_r G 8 j)), (1, .int (nI f))]) rfl ?_
  refine sv_aload_n (i := 0) (x := sv_r G 8 j) C dX2_isThere_0 rfl rfl ?_
  refine sv_get_2_1 C hj kw_79 dX2_isThere_1 ?_
  refine sv_iload_n (i := 1) (x := nI f) C dX2_isThere_4 rfl rfl ?_
  refine sv_callN (as := [_, _]) (rest := []) C (met_atN j (4 * f + 59) rfl rfl (sv_okj (by decide) hj) rfl (by show _ < 7; omega)) fX5_at (host := "StairLight") kn_RX2_47 ⟨Nat.le_of_ble_eq_true rfl, Nat.le_of_ble_eq_true rfl⟩ (Nat.le_of_ble_eq_true rfl) dX2_isThere_5 ⟨Nat.zero_le _, Nat.zero_le _⟩  ?_
  refine sv_ri (fun v5 e5 => ?_)
  refine sv_aload_n (i := 0) (x := sv_r G 8 j) C dX2_isThere_8 rfl rfl ?_
  refine sv_get_2_2 C hj kw_82 dX2_isThere_9 ?_
  refine sv_iload_n (i := 1) (x := nI f) C dX2_isThere_12 rfl rfl ?_
  refine sv_callN (as := [_, _]) (rest := [_]) C (met_atN j (4 * f + 60) rfl rfl (sv_okj (by decide) hj) rfl (by show _ < 7; omega)) fX5_at (host := "StairLight") kn_RX2_47 ⟨Nat.le_of_ble_eq_true rfl, Nat.le_of_ble_eq_true rfl⟩ (Nat.le_of_ble_eq_true rfl) dX2_isThere_13 ⟨Nat.zero_le _, Nat.zero_le _⟩  ?_
  refine sv_ri (fun v13 e13 => ?_)
  refine sv_sel_icmp_ne (va := nI 1) (vb := nI 0) C 23 dX2_isThere_16 (by decide) dX2_isThere_19 (by decide) dX2_isThere_20 (by decide) dX2_isThere_23 (by decide) ?_
  refine sv_topi (fun v16 e16 => ?_)
  exact sv_zret C (by split; exact Or.inr rfl; exact Or.inl rfl) hr dX2_isThere_24 (Nat.le_of_ble_eq_true rfl) (Nat.le_of_ble_eq_true rfl) (by rw [e16, e5, e13]; by_cases h : M j (4 * f + 59) = M j (4 * f + 60); rw [if_neg (fun z => z h), if_pos h]; rfl; rw [if_pos h, if_neg h]; rfl) (fun _ h => h)

set_option maxHeartbeats 4000000 in
set_option maxRecDepth 100000 in
theorem met_sendTo (l : Launch) (G : sv_G) (z : Nat) (M : sv_M) (o : Int64) (j f : Nat) (hj : j < 8) (hf : f < 7) (t T : Int32) : sv_Met l G yX2_sendTo cX2_sendTo 4 none 2 [.ref (sv_r G 8 j), .int (nI f), .int t, .int T] (sv_W G z M o) none (sv_W G z (sv_u M j (upd (upd (M j) (4 * f + 60) t) (4 * f + 61) (if M j (4 * f + 59) = t then 0 else T))) o) := by
  refine sv_ofW (by decide) kw_429 (Nat.le_of_ble_eq_true rfl) ?_
  intro p e s mth args below meth c hr C _
  refine sv_sub (lv' := [(0, .ref (sv_r G 8 j)), (1, .int (nI f)), (2, .int t), (3, .int T)]) rfl ?_
  refine sv_aload_n (i := 0) (x := sv_r G 8 j) C dX2_sendTo_0 rfl rfl ?_
  refine sv_get_2_2 C hj kw_82 dX2_sendTo_1 ?_
  refine sv_iload_n (i := 1) (x := nI f) C dX2_sendTo_4 rfl rfl ?_
  refine sv_iload_n (i := 2) (x := t) C dX2_sendTo_5 rfl rfl ?_
  refine sv_callN (as := [_, _, _]) (rest := []) C (met_putN j (4 * f + 60) rfl rfl (sv_okj (by decide) hj) rfl (by show _ < 7; omega)) fX5_put (host := "StairLight") kn_RX2_35 ⟨Nat.le_of_ble_eq_true rfl, Nat.le_of_ble_eq_true rfl⟩ (Nat.le_of_ble_eq_true rfl) dX2_sendTo_6 ⟨Nat.zero_le _, Nat.zero_le _⟩  ?_
  refine sv_rv ?_
  refine sv_aload_n (i := 0) (x := sv_r G 8 j) C dX2_sendTo_9 rfl rfl ?_
  refine sv_get_2_3 C hj kw_84 dX2_sendTo_10 ?_
  refine sv_iload_n (i := 1) (x := nI f) C dX2_sendTo_13 rfl rfl ?_
  refine sv_aload_n (i := 0) (x := sv_r G 8 j) C dX2_sendTo_14 rfl rfl ?_
  refine sv_iload_n (i := 1) (x := nI f) C dX2_sendTo_15 rfl rfl ?_
  refine sv_callV (as := [_]) (rest := [_, _]) C (met_isThere l G _ _ _ j f hj (by omega)) fX2_isThere kw_360 (sv_recv8 C hj) ⟨Nat.le_of_ble_eq_true rfl, Nat.le_of_ble_eq_true rfl⟩ (Nat.le_of_ble_eq_true rfl) dX2_sendTo_16 ⟨Nat.zero_le _, Nat.zero_le _⟩  ?_
  refine sv_ri (fun v16 e16 => ?_)
  refine sv_if_eq C 26 dX2_sendTo_19 (by decide) (fun q19 => ?_) (fun q19 => ?_)
  · have q19 : ¬ M j (4 * f + 59) = t := by
      intro h
      rw [e16, sv_wu, sv_us, upd_n (by omega), upd_s, if_pos h] at q19
      exact absurd q19 (by decide)
    refine sv_iload_n (i := 3) (x := T) C dX2_sendTo_26 rfl rfl ?_
    refine sv_callN (as := [_, _, _]) (rest := []) C (met_putN j (4 * f + 61) rfl rfl (sv_okj (by decide) hj) rfl (by show _ < 7; omega)) fX5_put (host := "StairLight") kn_RX2_35 ⟨Nat.le_of_ble_eq_true rfl, Nat.le_of_ble_eq_true rfl⟩ (Nat.le_of_ble_eq_true rfl) dX2_sendTo_27 ⟨Nat.zero_le _, Nat.zero_le _⟩  ?_
    refine sv_rv ?_
    exact sv_vret C hr dX2_sendTo_30 (Nat.le_of_ble_eq_true rfl) (Nat.le_of_ble_eq_true rfl) (sv_eqW (by rw [if_neg q19, sv_wu, sv_wu, sv_us, sv_uu]))
  · have q19 : M j (4 * f + 59) = t := Decidable.byContradiction fun h => q19 (by rw [e16, sv_wu, sv_us, upd_n (by omega), upd_s, if_neg h])
    refine sv_iconst (v := nI 0) C dX2_sendTo_22 (by decide) ?_
    refine sv_goto C 27 dX2_sendTo_23 (by decide) ?_
    refine sv_callN (as := [_, _, _]) (rest := []) C (met_putN j (4 * f + 61) rfl rfl (sv_okj (by decide) hj) rfl (by show _ < 7; omega)) fX5_put (host := "StairLight") kn_RX2_35 ⟨Nat.le_of_ble_eq_true rfl, Nat.le_of_ble_eq_true rfl⟩ (Nat.le_of_ble_eq_true rfl) dX2_sendTo_27 ⟨Nat.zero_le _, Nat.zero_le _⟩  ?_
    refine sv_rv ?_
    exact sv_vret C hr dX2_sendTo_30 (Nat.le_of_ble_eq_true rfl) (Nat.le_of_ble_eq_true rfl) (sv_eqW (by rw [if_pos q19, sv_wu, sv_wu, sv_us, sv_uu]; rfl))

set_option maxHeartbeats 4000000 in
set_option maxRecDepth 100000 in
theorem met_peopleOn (l : Launch) (G : sv_G) (z : Nat) (M : sv_M) (o : Int64) (j : Nat) (hj : j < 8) (t : Int32) (m : Nat) (hm : M j 57 = nI m) (hm7 : m ≤ 7) : sv_Met l G yX2_peopleOn cX2_peopleOn 4 (some .int) 1 [.ref (sv_r G 8 j), .int t] (sv_W G z M o) (some (.int (onI (M j) t m))) (sv_W G z M o) := by
  refine sv_ofW (by decide) kw_291 (Nat.le_of_ble_eq_true rfl) ?_
  intro p e s mth args below meth c hr C _
  refine sv_sub (lv' := [(0, .ref (sv_r G 8 j)), (1, .int t)]) rfl ?_
  refine sv_iconst (v := nI 0) C dX2_peopleOn_0 (by decide) ?_
  refine sv_istore_n (i := 2) C [(0, .ref (sv_r G 8 j)), (1, .int t), (2, .int (nI 0))] dX2_peopleOn_1 rfl (by decide) rfl ?_
  refine sv_iconst (v := nI 0) C dX2_peopleOn_2 (by decide) ?_
  refine sv_istore_n (i := 3) C [(0, .ref (sv_r G 8 j)), (1, .int t), (2, .int (nI 0)), (3, .int (nI 0))] dX2_peopleOn_3 rfl (by decide) rfl ?_
  refine sv_loop (N := m) (I := fun _ => True) (Wf := fun i => sv_W G z M o) (Lf := fun i => [(0, .ref (sv_r G 8 j)), (1, .int t), (2, .int (onI (M j) t i)), (3, .int (nI i))]) 0 (Nat.zero_le _) trivial (fun i hi0 hi hI ih => ?_)
  refine sv_iload_n (i := 3) (x := nI i) C dX2_peopleOn_4 rfl rfl ?_
  refine sv_aload_n (i := 0) (x := sv_r G 8 j) C dX2_peopleOn_5 rfl rfl ?_
  refine sv_get_2_4 C hj kw_85 dX2_peopleOn_6 ?_
  refine sv_set (v' := .int (nI m)) (congrArg Value.int hm) ?_
  refine sv_icmp_geN C 33 dX2_peopleOn_9 (by decide) (by omega) (by omega) (fun q9 => ?_) (fun q9 => ?_)
  · refine sv_iload_n (i := 2) (x := onI (M j) t i) C dX2_peopleOn_33 rfl rfl ?_
    exact sv_iret C hr dX2_peopleOn_34 (Nat.le_of_ble_eq_true rfl) (Nat.le_of_ble_eq_true rfl) (by rw [show i = m from by omega]) (fun _ h => h)
  · refine sv_aload_n (i := 0) (x := sv_r G 8 j) C dX2_peopleOn_12 rfl rfl ?_
    refine sv_get_2_1 C hj kw_79 dX2_peopleOn_13 ?_
    refine sv_iload_n (i := 3) (x := nI i) C dX2_peopleOn_16 rfl rfl ?_
    refine sv_callN (as := [_, _]) (rest := []) C (met_atN j (4 * i + 59) rfl rfl (sv_okj (by decide) hj) rfl (by show _ < 7; omega)) fX5_at (host := "StairLight") kn_RX2_47 ⟨Nat.le_of_ble_eq_true rfl, Nat.le_of_ble_eq_true rfl⟩ (Nat.le_of_ble_eq_true rfl) dX2_peopleOn_17 ⟨Nat.zero_le _, Nat.zero_le _⟩  ?_
    refine sv_ri (fun v17 e17 => ?_)
    refine sv_iload_n (i := 1) (x := t) C dX2_peopleOn_20 rfl rfl ?_
    refine sv_icmp_ne C 27 dX2_peopleOn_21 (by decide) (fun q21 => ?_) (fun q21 => ?_)
    · refine sv_iinc (i := 3) (x := nI i) C (nI (i + 1)) [(0, .ref (sv_r G 8 j)), (1, .int t), (2, .int (onI (M j) t i)), (3, .int (nI (i + 1)))] dX2_peopleOn_27 rfl (sv_incN i 1) (by decide) rfl ?_
      refine sv_goto C 4 dX2_peopleOn_30 (by decide) ?_
      rw [show onI (M j) t i = onI (M j) t (i + 1) from by show _ = onI (M j) t i + _; rw [if_neg (fun h => q21 (e17.trans h))]; exact (Int32.add_zero _).symm]
      exact ih (by omega) trivial
    · obtain ⟨v24, e24⟩ : ∃ y : Int32, y = onI (M j) t i + Int32.ofInt (1) := ⟨_, rfl⟩
      refine sv_iinc (i := 2) (x := onI (M j) t i) C v24 [(0, .ref (sv_r G 8 j)), (1, .int t), (2, .int v24), (3, .int (nI i))] dX2_peopleOn_24 rfl e24.symm (by decide) rfl ?_
      refine sv_iinc (i := 3) (x := nI i) C (nI (i + 1)) [(0, .ref (sv_r G 8 j)), (1, .int t), (2, .int v24), (3, .int (nI (i + 1)))] dX2_peopleOn_27 rfl (sv_incN i 1) (by decide) rfl ?_
      refine sv_goto C 4 dX2_peopleOn_30 (by decide) ?_
      rw [show v24 = onI (M j) t (i + 1) from by rw [e24]; show _ = onI (M j) t i + _; rw [if_pos (e17.symm.trans q21)]; rfl]
      exact ih (by omega) trivial

theorem plF_step {x : vX} {v : Int32} {m i : Nat} (h : i < m) (hne : ¬ x (4 * i + 58) = v) : plF x v (m - i) i = plF x v (m - (i + 1)) (i + 1) := by
  rw [show m - i = (m - (i + 1)) + 1 by omega]
  exact if_neg hne
theorem plF_hit {x : vX} {v : Int32} {m i : Nat} (h : i < m) (he : x (4 * i + 58) = v) : plF x v (m - i) i = nI i := by
  rw [show m - i = (m - (i + 1)) + 1 by omega]
  exact if_pos he
theorem plF_end {x : vX} {v : Int32} {m i : Nat} (h : m ≤ i) : plF x v (m - i) i = (-1) := by
  rw [show m - i = 0 by omega]
  rfl
set_option maxHeartbeats 4000000 in
set_option maxRecDepth 100000 in
theorem met_placeOf (l : Launch) (G : sv_G) (z : Nat) (M : sv_M) (o : Int64) (j : Nat) (hj : j < 8) (t : Int32) (m : Nat) (hm : M j 57 = nI m) (hm7 : m ≤ 7) : sv_Met l G yX2_placeOf cX2_placeOf 3 (some .int) 1 [.ref (sv_r G 8 j), .int t] (sv_W G z M o) (some (.int (plF (M j) t m 0))) (sv_W G z M o) := by
  refine sv_ofW (by decide) kw_434 (Nat.le_of_ble_eq_true rfl) ?_
  intro p e s mth args below meth c hr C _
  refine sv_sub (lv' := [(0, .ref (sv_r G 8 j)), (1, .int t)]) rfl ?_
  refine sv_iconst (v := nI 0) C dX2_placeOf_0 (by decide) ?_
  refine sv_istore_n (i := 2) C [(0, .ref (sv_r G 8 j)), (1, .int t), (2, .int (nI 0))] dX2_placeOf_1 rfl (by decide) rfl ?_
  refine sv_loop (N := m) (I := fun i => plF (M j) t m 0 = plF (M j) t (m - i) i) (Wf := fun i => sv_W G z M o) (Lf := fun i => [(0, .ref (sv_r G 8 j)), (1, .int t), (2, .int (nI i))]) 0 (Nat.zero_le _) rfl (fun i hi0 hi hI ih => ?_)
  refine sv_iload_n (i := 2) (x := nI i) C dX2_placeOf_2 rfl rfl ?_
  refine sv_aload_n (i := 0) (x := sv_r G 8 j) C dX2_placeOf_3 rfl rfl ?_
  refine sv_get_2_4 C hj kw_85 dX2_placeOf_4 ?_
  refine sv_set (v' := .int (nI m)) (congrArg Value.int hm) ?_
  refine sv_icmp_geN C 30 dX2_placeOf_7 (by decide) (by omega) (by omega) (fun q7 => ?_) (fun q7 => ?_)
  · refine sv_iconst (v := (-1)) C dX2_placeOf_30 (by decide) ?_
    exact sv_iret C hr dX2_placeOf_31 (Nat.le_of_ble_eq_true rfl) (Nat.le_of_ble_eq_true rfl) (by rw [hI, plF_end (by omega)]) (fun _ h => h)
  · refine sv_aload_n (i := 0) (x := sv_r G 8 j) C dX2_placeOf_10 rfl rfl ?_
    refine sv_get_2_0 C hj kw_78 dX2_placeOf_11 ?_
    refine sv_iload_n (i := 2) (x := nI i) C dX2_placeOf_14 rfl rfl ?_
    refine sv_callN (as := [_, _]) (rest := []) C (met_atN j (4 * i + 58) rfl rfl (sv_okj (by decide) hj) rfl (by show _ < 7; omega)) fX5_at (host := "StairLight") kn_RX2_47 ⟨Nat.le_of_ble_eq_true rfl, Nat.le_of_ble_eq_true rfl⟩ (Nat.le_of_ble_eq_true rfl) dX2_placeOf_15 ⟨Nat.zero_le _, Nat.zero_le _⟩  ?_
    refine sv_ri (fun v15 e15 => ?_)
    refine sv_iload_n (i := 1) (x := t) C dX2_placeOf_18 rfl rfl ?_
    refine sv_icmp_ne C 24 dX2_placeOf_19 (by decide) (fun q19 => ?_) (fun q19 => ?_)
    · refine sv_iinc (i := 2) (x := nI i) C (nI (i + 1)) [(0, .ref (sv_r G 8 j)), (1, .int t), (2, .int (nI (i + 1)))] dX2_placeOf_24 rfl (sv_incN i 1) (by decide) rfl ?_
      refine sv_goto C 2 dX2_placeOf_27 (by decide) ?_
      exact ih (by omega) (hI.trans (plF_step (by omega) (fun h => q19 (e15.trans h))))
    · refine sv_iload_n (i := 2) (x := nI i) C dX2_placeOf_22 rfl rfl ?_
      exact sv_iret C hr dX2_placeOf_23 (Nat.le_of_ble_eq_true rfl) (Nat.le_of_ble_eq_true rfl) (by rw [hI, plF_hit (by omega) (e15.symm.trans q19)]) (fun _ h => h)

set_option maxHeartbeats 4000000 in
set_option maxRecDepth 100000 in
theorem met_moveUp (l : Launch) (G : sv_G) (z : Nat) (M : sv_M) (o : Int64) (j f t : Nat) (hj : j < 8) (hf : f < 7) (ht : t < 7) : sv_Met l G yX2_moveUp cX2_moveUp 3 none 1 [.ref (sv_r G 8 j), .int (nI f), .int (nI t)] (sv_W G z M o) none (sv_W G z (sv_u M j (mvv f t (M j))) o) := by
  refine sv_ofW (by decide) kw_377 (Nat.le_of_ble_eq_true rfl) ?_
  intro p e s mth args below meth c hr C _
  refine sv_sub (lv' := [(0, .ref (sv_r G 8 j)), (1, .int (nI f)), (2, .int (nI t))]) rfl ?_
  refine sv_aload_n (i := 0) (x := sv_r G 8 j) C dX2_moveUp_0 rfl rfl ?_
  refine sv_get_2_0 C hj kw_78 dX2_moveUp_1 ?_
  refine sv_iload_n (i := 2) (x := nI t) C dX2_moveUp_4 rfl rfl ?_
  refine sv_aload_n (i := 0) (x := sv_r G 8 j) C dX2_moveUp_5 rfl rfl ?_
  refine sv_get_2_0 C hj kw_78 dX2_moveUp_6 ?_
  refine sv_iload_n (i := 1) (x := nI f) C dX2_moveUp_9 rfl rfl ?_
  refine sv_callN (as := [_, _]) (rest := [_, _]) C (met_atN j (4 * f + 58) rfl rfl (sv_okj (by decide) hj) rfl (by show _ < 7; omega)) fX5_at (host := "StairLight") kn_RX2_47 ⟨Nat.le_of_ble_eq_true rfl, Nat.le_of_ble_eq_true rfl⟩ (Nat.le_of_ble_eq_true rfl) dX2_moveUp_10 ⟨Nat.zero_le _, Nat.zero_le _⟩  ?_
  refine sv_ri (fun v10 e10 => ?_)
  refine sv_callN (as := [_, _, _]) (rest := []) C (met_putN j (4 * t + 58) rfl rfl (sv_okj (by decide) hj) rfl (by show _ < 7; omega)) fX5_put (host := "StairLight") kn_RX2_35 ⟨Nat.le_of_ble_eq_true rfl, Nat.le_of_ble_eq_true rfl⟩ (Nat.le_of_ble_eq_true rfl) dX2_moveUp_13 ⟨Nat.zero_le _, Nat.zero_le _⟩  ?_
  refine sv_rv ?_
  refine sv_aload_n (i := 0) (x := sv_r G 8 j) C dX2_moveUp_16 rfl rfl ?_
  refine sv_get_2_1 C hj kw_79 dX2_moveUp_17 ?_
  refine sv_iload_n (i := 2) (x := nI t) C dX2_moveUp_20 rfl rfl ?_
  refine sv_aload_n (i := 0) (x := sv_r G 8 j) C dX2_moveUp_21 rfl rfl ?_
  refine sv_get_2_1 C hj kw_79 dX2_moveUp_22 ?_
  refine sv_iload_n (i := 1) (x := nI f) C dX2_moveUp_25 rfl rfl ?_
  refine sv_callN (as := [_, _]) (rest := [_, _]) C (met_atN j (4 * f + 59) rfl rfl (sv_okj (by decide) hj) rfl (by show _ < 7; omega)) fX5_at (host := "StairLight") kn_RX2_47 ⟨Nat.le_of_ble_eq_true rfl, Nat.le_of_ble_eq_true rfl⟩ (Nat.le_of_ble_eq_true rfl) dX2_moveUp_26 ⟨Nat.zero_le _, Nat.zero_le _⟩  ?_
  refine sv_ri (fun v26 e26 => ?_)
  refine sv_callN (as := [_, _, _]) (rest := []) C (met_putN j (4 * t + 59) rfl rfl (sv_okj (by decide) hj) rfl (by show _ < 7; omega)) fX5_put (host := "StairLight") kn_RX2_35 ⟨Nat.le_of_ble_eq_true rfl, Nat.le_of_ble_eq_true rfl⟩ (Nat.le_of_ble_eq_true rfl) dX2_moveUp_29 ⟨Nat.zero_le _, Nat.zero_le _⟩  ?_
  refine sv_rv ?_
  refine sv_aload_n (i := 0) (x := sv_r G 8 j) C dX2_moveUp_32 rfl rfl ?_
  refine sv_get_2_2 C hj kw_82 dX2_moveUp_33 ?_
  refine sv_iload_n (i := 2) (x := nI t) C dX2_moveUp_36 rfl rfl ?_
  refine sv_aload_n (i := 0) (x := sv_r G 8 j) C dX2_moveUp_37 rfl rfl ?_
  refine sv_get_2_2 C hj kw_82 dX2_moveUp_38 ?_
  refine sv_iload_n (i := 1) (x := nI f) C dX2_moveUp_41 rfl rfl ?_
  refine sv_callN (as := [_, _]) (rest := [_, _]) C (met_atN j (4 * f + 60) rfl rfl (sv_okj (by decide) hj) rfl (by show _ < 7; omega)) fX5_at (host := "StairLight") kn_RX2_47 ⟨Nat.le_of_ble_eq_true rfl, Nat.le_of_ble_eq_true rfl⟩ (Nat.le_of_ble_eq_true rfl) dX2_moveUp_42 ⟨Nat.zero_le _, Nat.zero_le _⟩  ?_
  refine sv_ri (fun v42 e42 => ?_)
  refine sv_callN (as := [_, _, _]) (rest := []) C (met_putN j (4 * t + 60) rfl rfl (sv_okj (by decide) hj) rfl (by show _ < 7; omega)) fX5_put (host := "StairLight") kn_RX2_35 ⟨Nat.le_of_ble_eq_true rfl, Nat.le_of_ble_eq_true rfl⟩ (Nat.le_of_ble_eq_true rfl) dX2_moveUp_45 ⟨Nat.zero_le _, Nat.zero_le _⟩  ?_
  refine sv_rv ?_
  refine sv_aload_n (i := 0) (x := sv_r G 8 j) C dX2_moveUp_48 rfl rfl ?_
  refine sv_get_2_3 C hj kw_84 dX2_moveUp_49 ?_
  refine sv_iload_n (i := 2) (x := nI t) C dX2_moveUp_52 rfl rfl ?_
  refine sv_aload_n (i := 0) (x := sv_r G 8 j) C dX2_moveUp_53 rfl rfl ?_
  refine sv_get_2_3 C hj kw_84 dX2_moveUp_54 ?_
  refine sv_iload_n (i := 1) (x := nI f) C dX2_moveUp_57 rfl rfl ?_
  refine sv_callN (as := [_, _]) (rest := [_, _]) C (met_atN j (4 * f + 61) rfl rfl (sv_okj (by decide) hj) rfl (by show _ < 7; omega)) fX5_at (host := "StairLight") kn_RX2_47 ⟨Nat.le_of_ble_eq_true rfl, Nat.le_of_ble_eq_true rfl⟩ (Nat.le_of_ble_eq_true rfl) dX2_moveUp_58 ⟨Nat.zero_le _, Nat.zero_le _⟩  ?_
  refine sv_ri (fun v58 e58 => ?_)
  refine sv_callN (as := [_, _, _]) (rest := []) C (met_putN j (4 * t + 61) rfl rfl (sv_okj (by decide) hj) rfl (by show _ < 7; omega)) fX5_put (host := "StairLight") kn_RX2_35 ⟨Nat.le_of_ble_eq_true rfl, Nat.le_of_ble_eq_true rfl⟩ (Nat.le_of_ble_eq_true rfl) dX2_moveUp_61 ⟨Nat.zero_le _, Nat.zero_le _⟩  ?_
  refine sv_rv ?_
  exact sv_vret C hr dX2_moveUp_64 (Nat.le_of_ble_eq_true rfl) (Nat.le_of_ble_eq_true rfl) (sv_eqW (by rw [e58, e42, e26, e10]; simp only [sv_wu, sv_us, sv_uu]; unfold mvv; simp only [upd_n (show 4 * f + 61 ≠ 4 * t + 58 by omega), upd_n (show 4 * f + 61 ≠ 4 * t + 59 by omega), upd_n (show 4 * f + 61 ≠ 4 * t + 60 by omega), upd_n (show 4 * f + 60 ≠ 4 * t + 58 by omega), upd_n (show 4 * f + 60 ≠ 4 * t + 59 by omega), upd_n (show 4 * f + 59 ≠ 4 * t + 58 by omega)]))

set_option maxHeartbeats 4000000 in
set_option maxRecDepth 100000 in
theorem met_walk (l : Launch) (G : sv_G) (z : Nat) (M : sv_M) (o : Int64) (j f : Nat) (hj : j < 8) (hf : f < 7) (T : Int32) : sv_Met l G yX2_walk cX2_walk 3 none 2 [.ref (sv_r G 8 j), .int (nI f), .int T] (sv_W G z M o) none (sv_W G z (sv_u M j (wkv T f (M j))) o) := by
  refine sv_ofW (by decide) kw_367 (Nat.le_of_ble_eq_true rfl) ?_
  intro p e s mth args below meth c hr C _
  refine sv_sub (lv' := [(0, .ref (sv_r G 8 j)), (1, .int (nI f)), (2, .int T)]) rfl ?_
  refine sv_aload_n (i := 0) (x := sv_r G 8 j) C dX2_walk_0 rfl rfl ?_
  refine sv_get_2_3 C hj kw_84 dX2_walk_1 ?_
  refine sv_iload_n (i := 1) (x := nI f) C dX2_walk_4 rfl rfl ?_
  refine sv_iconst (v := (-1)) C dX2_walk_5 (by decide) ?_
  refine sv_callN (as := [_, _, _]) (rest := []) C (met_raiseN j (4 * f + 61) rfl rfl (sv_okj (by decide) hj) rfl (by show _ < 7; omega)) fX5_raise (host := "StairLight") kn_RX2_58 ⟨Nat.le_of_ble_eq_true rfl, Nat.le_of_ble_eq_true rfl⟩ (Nat.le_of_ble_eq_true rfl) dX2_walk_6 ⟨Nat.zero_le _, Nat.zero_le _⟩  ?_
  refine sv_rv ?_
  refine sv_aload_n (i := 0) (x := sv_r G 8 j) C dX2_walk_9 rfl rfl ?_
  refine sv_get_2_3 C hj kw_84 dX2_walk_10 ?_
  refine sv_iload_n (i := 1) (x := nI f) C dX2_walk_13 rfl rfl ?_
  refine sv_callN (as := [_, _]) (rest := []) C (met_atN j (4 * f + 61) rfl rfl (sv_okj (by decide) hj) rfl (by show _ < 7; omega)) fX5_at (host := "StairLight") kn_RX2_47 ⟨Nat.le_of_ble_eq_true rfl, Nat.le_of_ble_eq_true rfl⟩ (Nat.le_of_ble_eq_true rfl) dX2_walk_14 ⟨Nat.zero_le _, Nat.zero_le _⟩  ?_
  refine sv_ri (fun v14 e14 => ?_)
  have e14 : v14 = M j (4 * f + 61) + (-1) := by rw [e14, sv_wu, sv_us, upd_s]
  rw [e14]
  refine sv_if_le C 21 dX2_walk_17 (by decide) (fun q17 => ?_) (fun q17 => ?_)
  · refine sv_aload_n (i := 0) (x := sv_r G 8 j) C dX2_walk_21 rfl rfl ?_
    refine sv_get_2_1 C hj kw_79 dX2_walk_22 ?_
    refine sv_iload_n (i := 1) (x := nI f) C dX2_walk_25 rfl rfl ?_
    refine sv_aload_n (i := 0) (x := sv_r G 8 j) C dX2_walk_26 rfl rfl ?_
    refine sv_get_2_2 C hj kw_82 dX2_walk_27 ?_
    refine sv_iload_n (i := 1) (x := nI f) C dX2_walk_30 rfl rfl ?_
    refine sv_callN (as := [_, _]) (rest := [_, _]) C (met_atN j (4 * f + 60) rfl rfl (sv_okj (by decide) hj) rfl (by show _ < 7; omega)) fX5_at (host := "StairLight") kn_RX2_47 ⟨Nat.le_of_ble_eq_true rfl, Nat.le_of_ble_eq_true rfl⟩ (Nat.le_of_ble_eq_true rfl) dX2_walk_31 ⟨Nat.zero_le _, Nat.zero_le _⟩  ?_
    refine sv_ri (fun v31 e31 => ?_)
    refine sv_aload_n (i := 0) (x := sv_r G 8 j) C dX2_walk_34 rfl rfl ?_
    refine sv_get_2_1 C hj kw_79 dX2_walk_35 ?_
    refine sv_iload_n (i := 1) (x := nI f) C dX2_walk_38 rfl rfl ?_
    refine sv_callN (as := [_, _]) (rest := [_, _, _]) C (met_atN j (4 * f + 59) rfl rfl (sv_okj (by decide) hj) rfl (by show _ < 7; omega)) fX5_at (host := "StairLight") kn_RX2_47 ⟨Nat.le_of_ble_eq_true rfl, Nat.le_of_ble_eq_true rfl⟩ (Nat.le_of_ble_eq_true rfl) dX2_walk_39 ⟨Nat.zero_le _, Nat.zero_le _⟩  ?_
    refine sv_ri (fun v39 e39 => ?_)
    have e31 : v31 = M j (4 * f + 60) := by rw [e31, sv_wu, sv_us, upd_n (by omega)]
    have e39 : v39 = M j (4 * f + 59) := by rw [e39, sv_wu, sv_us, upd_n (by omega)]
    rw [e31, e39]
    refine sv_icmp_le C 49 dX2_walk_42 (by decide) (fun q42 => ?_) (fun q42 => ?_)
    · refine sv_iconst (v := (-1)) C dX2_walk_49 (by decide) ?_
      refine sv_callN (as := [_, _, _]) (rest := []) C (met_raiseN j (4 * f + 59) rfl rfl (sv_okj (by decide) hj) rfl (by show _ < 7; omega)) fX5_raise (host := "StairLight") kn_RX2_58 ⟨Nat.le_of_ble_eq_true rfl, Nat.le_of_ble_eq_true rfl⟩ (Nat.le_of_ble_eq_true rfl) dX2_walk_50 ⟨Nat.zero_le _, Nat.zero_le _⟩  ?_
      refine sv_rv ?_
      refine sv_aload_n (i := 0) (x := sv_r G 8 j) C dX2_walk_53 rfl rfl ?_
      refine sv_get_2_3 C hj kw_84 dX2_walk_54 ?_
      refine sv_iload_n (i := 1) (x := nI f) C dX2_walk_57 rfl rfl ?_
      refine sv_aload_n (i := 0) (x := sv_r G 8 j) C dX2_walk_58 rfl rfl ?_
      refine sv_iload_n (i := 1) (x := nI f) C dX2_walk_59 rfl rfl ?_
      refine sv_callV (as := [_]) (rest := [_, _]) C (met_isThere l G _ _ _ j f hj (by omega)) fX2_isThere kw_360 (sv_recv8 C hj) ⟨Nat.le_of_ble_eq_true rfl, Nat.le_of_ble_eq_true rfl⟩ (Nat.le_of_ble_eq_true rfl) dX2_walk_60 ⟨Nat.zero_le _, Nat.zero_le _⟩  ?_
      refine sv_ri (fun v60 e60 => ?_)
      have h60 : v60 = (if M j (4 * f + 59) + (-1) = M j (4 * f + 60) then 1 else 0) := by rw [e60]; simp only [sv_wu, sv_us, sv_uu, upd_s, upd_n (show 4 * f + 59 ≠ 4 * f + 61 by omega), upd_n (show 4 * f + 60 ≠ 4 * f + 61 by omega), upd_n (show 4 * f + 60 ≠ 4 * f + 59 by omega), upd_n (show 4 * f + 61 ≠ 4 * f + 59 by omega)]
      refine sv_if_eq C 70 dX2_walk_63 (by decide) (fun q63 => ?_) (fun q63 => ?_)
      · have q63 : ¬ M j (4 * f + 59) + (-1) = M j (4 * f + 60) := by
          intro h
          rw [h60, if_pos h] at q63
          exact absurd q63 (by decide)
        refine sv_iload_n (i := 2) (x := T) C dX2_walk_70 rfl rfl ?_
        refine sv_callN (as := [_, _, _]) (rest := []) C (met_putN j (4 * f + 61) rfl rfl (sv_okj (by decide) hj) rfl (by show _ < 7; omega)) fX5_put (host := "StairLight") kn_RX2_35 ⟨Nat.le_of_ble_eq_true rfl, Nat.le_of_ble_eq_true rfl⟩ (Nat.le_of_ble_eq_true rfl) dX2_walk_71 ⟨Nat.zero_le _, Nat.zero_le _⟩  ?_
        refine sv_rv ?_
        exact sv_vret C hr dX2_walk_74 (Nat.le_of_ble_eq_true rfl) (Nat.le_of_ble_eq_true rfl) (sv_eqW (by unfold wkv; rw [if_pos q17]; simp only [if_pos q42]; simp only [sv_wu, sv_us, sv_uu, upd_s, upd_n (show 4 * f + 59 ≠ 4 * f + 61 by omega), upd_n (show 4 * f + 60 ≠ 4 * f + 61 by omega), upd_n (show 4 * f + 60 ≠ 4 * f + 59 by omega), upd_n (show 4 * f + 61 ≠ 4 * f + 59 by omega)]; simp only [if_neg q63, nI_one, nI_0]))
      · have q63 : M j (4 * f + 59) + (-1) = M j (4 * f + 60) := Decidable.byContradiction fun h => q63 (by rw [h60, if_neg h])
        refine sv_iconst (v := nI 0) C dX2_walk_66 (by decide) ?_
        refine sv_goto C 71 dX2_walk_67 (by decide) ?_
        refine sv_callN (as := [_, _, _]) (rest := []) C (met_putN j (4 * f + 61) rfl rfl (sv_okj (by decide) hj) rfl (by show _ < 7; omega)) fX5_put (host := "StairLight") kn_RX2_35 ⟨Nat.le_of_ble_eq_true rfl, Nat.le_of_ble_eq_true rfl⟩ (Nat.le_of_ble_eq_true rfl) dX2_walk_71 ⟨Nat.zero_le _, Nat.zero_le _⟩  ?_
        refine sv_rv ?_
        exact sv_vret C hr dX2_walk_74 (Nat.le_of_ble_eq_true rfl) (Nat.le_of_ble_eq_true rfl) (sv_eqW (by unfold wkv; rw [if_pos q17]; simp only [if_pos q42]; simp only [sv_wu, sv_us, sv_uu, upd_s, upd_n (show 4 * f + 59 ≠ 4 * f + 61 by omega), upd_n (show 4 * f + 60 ≠ 4 * f + 61 by omega), upd_n (show 4 * f + 60 ≠ 4 * f + 59 by omega), upd_n (show 4 * f + 61 ≠ 4 * f + 59 by omega)]; simp only [if_pos q63, nI_one, nI_0]))
    · refine sv_iconst (v := nI 1) C dX2_walk_45 (by decide) ?_
      refine sv_goto C 50 dX2_walk_46 (by decide) ?_
      refine sv_callN (as := [_, _, _]) (rest := []) C (met_raiseN j (4 * f + 59) rfl rfl (sv_okj (by decide) hj) rfl (by show _ < 7; omega)) fX5_raise (host := "StairLight") kn_RX2_58 ⟨Nat.le_of_ble_eq_true rfl, Nat.le_of_ble_eq_true rfl⟩ (Nat.le_of_ble_eq_true rfl) dX2_walk_50 ⟨Nat.zero_le _, Nat.zero_le _⟩  ?_
      refine sv_rv ?_
      refine sv_aload_n (i := 0) (x := sv_r G 8 j) C dX2_walk_53 rfl rfl ?_
      refine sv_get_2_3 C hj kw_84 dX2_walk_54 ?_
      refine sv_iload_n (i := 1) (x := nI f) C dX2_walk_57 rfl rfl ?_
      refine sv_aload_n (i := 0) (x := sv_r G 8 j) C dX2_walk_58 rfl rfl ?_
      refine sv_iload_n (i := 1) (x := nI f) C dX2_walk_59 rfl rfl ?_
      refine sv_callV (as := [_]) (rest := [_, _]) C (met_isThere l G _ _ _ j f hj (by omega)) fX2_isThere kw_360 (sv_recv8 C hj) ⟨Nat.le_of_ble_eq_true rfl, Nat.le_of_ble_eq_true rfl⟩ (Nat.le_of_ble_eq_true rfl) dX2_walk_60 ⟨Nat.zero_le _, Nat.zero_le _⟩  ?_
      refine sv_ri (fun v60 e60 => ?_)
      have h60 : v60 = (if M j (4 * f + 59) + nI 1 = M j (4 * f + 60) then 1 else 0) := by rw [e60]; simp only [sv_wu, sv_us, sv_uu, upd_s, upd_n (show 4 * f + 59 ≠ 4 * f + 61 by omega), upd_n (show 4 * f + 60 ≠ 4 * f + 61 by omega), upd_n (show 4 * f + 60 ≠ 4 * f + 59 by omega), upd_n (show 4 * f + 61 ≠ 4 * f + 59 by omega)]
      refine sv_if_eq C 70 dX2_walk_63 (by decide) (fun q63 => ?_) (fun q63 => ?_)
      · have q63 : ¬ M j (4 * f + 59) + nI 1 = M j (4 * f + 60) := by
          intro h
          rw [h60, if_pos h] at q63
          exact absurd q63 (by decide)
        refine sv_iload_n (i := 2) (x := T) C dX2_walk_70 rfl rfl ?_
        refine sv_callN (as := [_, _, _]) (rest := []) C (met_putN j (4 * f + 61) rfl rfl (sv_okj (by decide) hj) rfl (by show _ < 7; omega)) fX5_put (host := "StairLight") kn_RX2_35 ⟨Nat.le_of_ble_eq_true rfl, Nat.le_of_ble_eq_true rfl⟩ (Nat.le_of_ble_eq_true rfl) dX2_walk_71 ⟨Nat.zero_le _, Nat.zero_le _⟩  ?_
        refine sv_rv ?_
        exact sv_vret C hr dX2_walk_74 (Nat.le_of_ble_eq_true rfl) (Nat.le_of_ble_eq_true rfl) (sv_eqW (by unfold wkv; rw [if_pos q17]; simp only [if_neg q42]; simp only [sv_wu, sv_us, sv_uu, upd_s, upd_n (show 4 * f + 59 ≠ 4 * f + 61 by omega), upd_n (show 4 * f + 60 ≠ 4 * f + 61 by omega), upd_n (show 4 * f + 60 ≠ 4 * f + 59 by omega), upd_n (show 4 * f + 61 ≠ 4 * f + 59 by omega)]; simp only [nI_one, nI_0]; rw [if_neg (show ¬ M j (4 * f + 59) + (1 : Int32) = M j (4 * f + 60) from q63)]))
      · have q63 : M j (4 * f + 59) + nI 1 = M j (4 * f + 60) := Decidable.byContradiction fun h => q63 (by rw [h60, if_neg h])
        refine sv_iconst (v := nI 0) C dX2_walk_66 (by decide) ?_
        refine sv_goto C 71 dX2_walk_67 (by decide) ?_
        refine sv_callN (as := [_, _, _]) (rest := []) C (met_putN j (4 * f + 61) rfl rfl (sv_okj (by decide) hj) rfl (by show _ < 7; omega)) fX5_put (host := "StairLight") kn_RX2_35 ⟨Nat.le_of_ble_eq_true rfl, Nat.le_of_ble_eq_true rfl⟩ (Nat.le_of_ble_eq_true rfl) dX2_walk_71 ⟨Nat.zero_le _, Nat.zero_le _⟩  ?_
        refine sv_rv ?_
        exact sv_vret C hr dX2_walk_74 (Nat.le_of_ble_eq_true rfl) (Nat.le_of_ble_eq_true rfl) (sv_eqW (by unfold wkv; rw [if_pos q17]; simp only [if_neg q42]; simp only [sv_wu, sv_us, sv_uu, upd_s, upd_n (show 4 * f + 59 ≠ 4 * f + 61 by omega), upd_n (show 4 * f + 60 ≠ 4 * f + 61 by omega), upd_n (show 4 * f + 60 ≠ 4 * f + 59 by omega), upd_n (show 4 * f + 61 ≠ 4 * f + 59 by omega)]; simp only [nI_one, nI_0]; rw [if_pos (show  M j (4 * f + 59) + (1 : Int32) = M j (4 * f + 60) from q63)]))
  · exact sv_vret C hr dX2_walk_20 (Nat.le_of_ble_eq_true rfl) (Nat.le_of_ble_eq_true rfl) (sv_eqW (by unfold wkv; rw [if_neg q17, sv_wu]))

theorem goS_le (T : Int32) (x : vX) : ∀ n, (goS T n x).2 ≤ n
  | 0 => Nat.le_refl 0
  | n + 1 => by
    have h := goS_le T x n
    show (goB T n (goS T n x)).2 ≤ n + 1
    unfold goB
    split
    · omega
    · show (goS T n x).2 + 1 ≤ n + 1
      omega
theorem wkv_o {T : Int32} {p : Nat} {x : vX} {k : Nat} (h : k ≠ 4 * p + 59) (h2 : k ≠ 4 * p + 61) : wkv T p x k = x k := by
  unfold wkv
  split
  · rw [upd_n h2, upd_n h, upd_n h2]
  · rw [upd_n h2]
theorem mvv_o {p s : Nat} {x : vX} {k : Nat} (h : k < 4 * s + 58 ∨ 4 * s + 62 ≤ k) : mvv p s x k = x k := by
  unfold mvv
  rw [upd_n (by omega), upd_n (by omega), upd_n (by omega), upd_n (by omega)]
theorem goS_o (T : Int32) (x : vX) (k : Nat) (h : k < 58) : ∀ n, (goS T n x).1 k = x k
  | 0 => rfl
  | n + 1 => by
    have ih := goS_o T x k h n
    show (goB T n (goS T n x)).1 k = x k
    unfold goB
    split
    · exact ih
    · show mvv n _ (wkv T n _) k = x k
      rw [mvv_o (by omega), wkv_o (by omega) (by omega)]
      exact ih
set_option maxHeartbeats 4000000 in
set_option maxRecDepth 100000 in
theorem met_goOn (l : Launch) (G : sv_G) (z : Nat) (M : sv_M) (o : Int64) (j : Nat) (hj : j < 8) (T : Int32) (m : Nat) (hm : M j 57 = nI m) (hm7 : m ≤ 7) : sv_Met l G yX2_goOn cX2_goOn 4 none 3 [.ref (sv_r G 8 j), .int T] (sv_W G z M o) none (sv_W G z (sv_u M j (goOnv T m (M j))) o) := by
  refine sv_ofW (by decide) kw_359 (Nat.le_of_ble_eq_true rfl) ?_
  intro p e s mth args below meth c hr C _
  refine sv_sub (lv' := [(0, .ref (sv_r G 8 j)), (1, .int T)]) rfl ?_
  refine sv_iconst (v := nI 0) C dX2_goOn_0 (by decide) ?_
  refine sv_istore_n (i := 2) C [(0, .ref (sv_r G 8 j)), (1, .int T), (2, .int (nI 0))] dX2_goOn_1 rfl (by decide) rfl ?_
  refine sv_iconst (v := nI 0) C dX2_goOn_2 (by decide) ?_
  refine sv_istore_n (i := 3) C [(0, .ref (sv_r G 8 j)), (1, .int T), (2, .int (nI 0)), (3, .int (nI 0))] dX2_goOn_3 rfl (by decide) rfl ?_
  refine sv_wd (sv_eqW (sv_ui _ j).symm) ?_
  refine sv_loop (N := m) (I := fun _ => True) (Wf := fun i => sv_W G z (sv_u M j (goS T i (M j)).1) o) (Lf := fun i => [(0, .ref (sv_r G 8 j)), (1, .int T), (2, .int (nI ((goS T i (M j)).2))), (3, .int (nI i))]) 0 (Nat.zero_le _) trivial (fun i hi0 hi hI ih => ?_)
  refine sv_iload_n (i := 3) (x := nI i) C dX2_goOn_4 rfl rfl ?_
  refine sv_aload_n (i := 0) (x := sv_r G 8 j) C dX2_goOn_5 rfl rfl ?_
  refine sv_get_2_4 C hj kw_85 dX2_goOn_6 ?_
  refine sv_set (v' := .int (nI m)) (congrArg Value.int (by rw [sv_us, goS_o T _ 57 (by decide)]; exact hm)) ?_
  have hle := goS_le T (M j) i
  refine sv_icmp_geN C 41 dX2_goOn_9 (by decide) (by omega) (by omega) (fun q9 => ?_) (fun q9 => ?_)
  · refine sv_aload_n (i := 0) (x := sv_r G 8 j) C dX2_goOn_41 rfl rfl ?_
    refine sv_iload_n (i := 2) (x := nI ((goS T i (M j)).2)) C dX2_goOn_42 rfl rfl ?_
    refine sv_put_2_4 C hj kw_85 dX2_goOn_43 ?_
    exact sv_vret C hr dX2_goOn_46 (Nat.le_of_ble_eq_true rfl) (Nat.le_of_ble_eq_true rfl) (sv_eqW (by rw [show i = m from by omega, sv_wu, sv_us, sv_uu]; rfl))
  · refine sv_aload_n (i := 0) (x := sv_r G 8 j) C dX2_goOn_12 rfl rfl ?_
    refine sv_iload_n (i := 3) (x := nI i) C dX2_goOn_13 rfl rfl ?_
    refine sv_callV (as := [_]) (rest := []) C (met_isThere l G _ _ _ j i hj (by omega)) fX2_isThere kw_360 (sv_recv8 C hj) ⟨Nat.le_of_ble_eq_true rfl, Nat.le_of_ble_eq_true rfl⟩ (Nat.le_of_ble_eq_true rfl) dX2_goOn_14 ⟨Nat.zero_le _, Nat.zero_le _⟩  ?_
    refine sv_ri (fun v14 e14 => ?_)
    refine sv_if_ne C 35 dX2_goOn_17 (by decide) (fun q17 => ?_) (fun q17 => ?_)
    · refine sv_iinc (i := 3) (x := nI i) C (nI (i + 1)) [(0, .ref (sv_r G 8 j)), (1, .int T), (2, .int (nI ((goS T i (M j)).2))), (3, .int (nI (i + 1)))] dX2_goOn_35 rfl (sv_incN i 1) (by decide) rfl ?_
      refine sv_goto C 4 dX2_goOn_38 (by decide) ?_
      have hn : goS T (i + 1) (M j) = goS T i (M j) := by
        show goB T i (goS T i (M j)) = _
        unfold goB
        exact if_pos (by rw [e14, sv_us] at q17; exact Decidable.byContradiction fun h => q17 (if_neg h))
      have h9 := ih (by omega) trivial
      rw [hn] at h9
      exact h9
    · refine sv_aload_n (i := 0) (x := sv_r G 8 j) C dX2_goOn_20 rfl rfl ?_
      refine sv_iload_n (i := 3) (x := nI i) C dX2_goOn_21 rfl rfl ?_
      refine sv_iload_n (i := 1) (x := T) C dX2_goOn_22 rfl rfl ?_
      refine sv_callV (as := [_, _]) (rest := []) C (met_walk l G _ _ _ j i hj (by omega) T) fX2_walk kw_364 (sv_recv8 C hj) ⟨Nat.le_of_ble_eq_true rfl, Nat.le_of_ble_eq_true rfl⟩ (Nat.le_of_ble_eq_true rfl) dX2_goOn_23 ⟨Nat.zero_le _, Nat.zero_le _⟩  ?_
      refine sv_rv ?_
      refine sv_aload_n (i := 0) (x := sv_r G 8 j) C dX2_goOn_26 rfl rfl ?_
      refine sv_iload_n (i := 3) (x := nI i) C dX2_goOn_27 rfl rfl ?_
      refine sv_iload_n (i := 2) (x := nI ((goS T i (M j)).2)) C dX2_goOn_28 rfl rfl ?_
      refine sv_callV (as := [_, _]) (rest := []) C (met_moveUp l G _ _ _ j i ((goS T i (M j)).2) hj (by omega) (by omega)) fX2_moveUp kw_374 (sv_recv8 C hj) ⟨Nat.le_of_ble_eq_true rfl, Nat.le_of_ble_eq_true rfl⟩ (Nat.le_of_ble_eq_true rfl) dX2_goOn_29 ⟨Nat.zero_le _, Nat.zero_le _⟩  ?_
      refine sv_rv ?_
      refine sv_iinc (i := 2) (x := nI ((goS T i (M j)).2)) C (nI ((goS T i (M j)).2 + 1)) [(0, .ref (sv_r G 8 j)), (1, .int T), (2, .int (nI ((goS T i (M j)).2 + 1))), (3, .int (nI i))] dX2_goOn_32 rfl (sv_incN ((goS T i (M j)).2) 1) (by decide) rfl ?_
      refine sv_iinc (i := 3) (x := nI i) C (nI (i + 1)) [(0, .ref (sv_r G 8 j)), (1, .int T), (2, .int (nI ((goS T i (M j)).2 + 1))), (3, .int (nI (i + 1)))] dX2_goOn_35 rfl (sv_incN i 1) (by decide) rfl ?_
      refine sv_goto C 4 dX2_goOn_38 (by decide) ?_
      have hn : goS T (i + 1) (M j) = (mvv i (goS T i (M j)).2 (wkv T i (goS T i (M j)).1), (goS T i (M j)).2 + 1) := by
        show goB T i (goS T i (M j)) = _
        unfold goB
        exact if_neg (by rw [e14, sv_us] at q17; intro h; rw [if_pos h] at q17; exact absurd q17 (by decide))
      have h9 := ih (by omega) trivial
      rw [hn] at h9
      refine sv_wd (sv_eqW ?_) h9
      simp only [sv_us, sv_uu]

set_option maxHeartbeats 4000000 in
set_option maxRecDepth 100000 in
theorem met_enter (l : Launch) (G : sv_G) (z : Nat) (M : sv_M) (o : Int64) (j : Nat) (hj : j < 8) (f t T : Int32) (m : Nat) (hm : M j 57 = nI m) (hm6 : m < 7) : sv_Met l G yX2_enter cX2_enter 5 (some .int) 3 [.ref (sv_r G 8 j), .int f, .int t, .int T] (sv_W G z M o) (some (.int (M j 5))) (sv_W G z (sv_u M j (entv m f t T (M j))) o) := by
  refine sv_ofW (by decide) kw_425 (Nat.le_of_ble_eq_true rfl) ?_
  intro p e s mth args below meth c hr C _
  refine sv_sub (lv' := [(0, .ref (sv_r G 8 j)), (1, .int f), (2, .int t), (3, .int T)]) rfl ?_
  refine sv_aload_n (i := 0) (x := sv_r G 8 j) C dX2_enter_0 rfl rfl ?_
  refine sv_get_2_4 C hj kw_85 dX2_enter_1 ?_
  refine sv_set (v' := .int (nI m)) (congrArg Value.int hm) ?_
  refine sv_aload_n (i := 0) (x := sv_r G 8 j) C dX2_enter_4 rfl rfl ?_
  refine sv_get_2_0 C hj kw_78 dX2_enter_5 ?_
  refine sv_alen (v := nI 7) C (sv_okj (by decide) hj) rfl rfl dX2_enter_8 ?_
  refine sv_icmp_ltN C 14 dX2_enter_9 (by decide) (by omega) (by omega) (fun q9 => ?_) (fun q9 => ?_)
  · refine sv_aload_n (i := 0) (x := sv_r G 8 j) C dX2_enter_14 rfl rfl ?_
    refine sv_get_2_5 C hj kw_88 dX2_enter_15 ?_
    refine sv_topi (fun v15 e15 => ?_)
    refine sv_istore (i := 4) C [(0, .ref (sv_r G 8 j)), (1, .int f), (2, .int t), (3, .int T), (4, .int v15)] dX2_enter_18 (by decide) rfl ?_
    refine sv_aload_n (i := 0) (x := sv_r G 8 j) C dX2_enter_20 rfl rfl ?_
    refine sv_get_2_0 C hj kw_78 dX2_enter_21 ?_
    refine sv_aload_n (i := 0) (x := sv_r G 8 j) C dX2_enter_24 rfl rfl ?_
    refine sv_get_2_4 C hj kw_85 dX2_enter_25 ?_
    refine sv_set (v' := .int (nI m)) (congrArg Value.int hm) ?_
    refine sv_iload (i := 4) (x := v15) C dX2_enter_28 rfl ?_
    refine sv_callN (as := [_, _, _]) (rest := []) C (met_putN j (4 * m + 58) rfl rfl (sv_okj (by decide) hj) rfl (by show _ < 7; omega)) fX5_put (host := "StairLight") kn_RX2_35 ⟨Nat.le_of_ble_eq_true rfl, Nat.le_of_ble_eq_true rfl⟩ (Nat.le_of_ble_eq_true rfl) dX2_enter_30 ⟨Nat.zero_le _, Nat.zero_le _⟩  ?_
    refine sv_rv ?_
    refine sv_aload_n (i := 0) (x := sv_r G 8 j) C dX2_enter_33 rfl rfl ?_
    refine sv_get_2_1 C hj kw_79 dX2_enter_34 ?_
    refine sv_aload_n (i := 0) (x := sv_r G 8 j) C dX2_enter_37 rfl rfl ?_
    refine sv_get_2_4 C hj kw_85 dX2_enter_38 ?_
    refine sv_set (v' := .int (nI m)) (congrArg Value.int (by rw [sv_wu, sv_us, upd_n (by omega)]; exact hm)) ?_
    refine sv_iload_n (i := 1) (x := f) C dX2_enter_41 rfl rfl ?_
    refine sv_callN (as := [_, _, _]) (rest := []) C (met_putN j (4 * m + 59) rfl rfl (sv_okj (by decide) hj) rfl (by show _ < 7; omega)) fX5_put (host := "StairLight") kn_RX2_35 ⟨Nat.le_of_ble_eq_true rfl, Nat.le_of_ble_eq_true rfl⟩ (Nat.le_of_ble_eq_true rfl) dX2_enter_42 ⟨Nat.zero_le _, Nat.zero_le _⟩  ?_
    refine sv_rv ?_
    refine sv_aload_n (i := 0) (x := sv_r G 8 j) C dX2_enter_45 rfl rfl ?_
    refine sv_aload_n (i := 0) (x := sv_r G 8 j) C dX2_enter_46 rfl rfl ?_
    refine sv_get_2_4 C hj kw_85 dX2_enter_47 ?_
    refine sv_set (v' := .int (nI m)) (congrArg Value.int (by simp only [sv_wu, sv_us, sv_uu]; rw [upd_n (by omega), upd_n (by omega)]; exact hm)) ?_
    refine sv_iload_n (i := 2) (x := t) C dX2_enter_50 rfl rfl ?_
    refine sv_iload_n (i := 3) (x := T) C dX2_enter_51 rfl rfl ?_
    refine sv_callV (as := [_, _, _]) (rest := []) C (met_sendTo l G _ _ _ j m hj (by omega) t T) fX2_sendTo kw_426 (sv_recv8 C hj) ⟨Nat.le_of_ble_eq_true rfl, Nat.le_of_ble_eq_true rfl⟩ (Nat.le_of_ble_eq_true rfl) dX2_enter_52 ⟨Nat.zero_le _, Nat.zero_le _⟩  ?_
    refine sv_rv ?_
    refine sv_aload_n (i := 0) (x := sv_r G 8 j) C dX2_enter_55 rfl rfl ?_
    refine sv_dup C dX2_enter_56 rfl ?_
    refine sv_get_2_4 C hj kw_85 dX2_enter_57 ?_
    refine sv_set (v' := .int (nI m)) (congrArg Value.int (by simp only [sv_wu, sv_us, sv_uu]; rw [upd_n (by omega), upd_n (by omega), upd_n (by omega), upd_n (by omega)]; exact hm)) ?_
    refine sv_iconst (v := nI 1) C dX2_enter_60 (by decide) ?_
    refine sv_iadd C dX2_enter_61 ?_
    refine sv_set (v' := .int (nI (m + 1))) (congrArg Value.int (nI_add _ _)) ?_
    refine sv_put_2_4 C hj kw_85 dX2_enter_62 ?_
    refine sv_aload_n (i := 0) (x := sv_r G 8 j) C dX2_enter_65 rfl rfl ?_
    refine sv_dup C dX2_enter_66 rfl ?_
    refine sv_get_2_5 C hj kw_88 dX2_enter_67 ?_
    refine sv_topi (fun v67 e67 => ?_)
    refine sv_iconst (v := nI 1) C dX2_enter_70 (by decide) ?_
    refine sv_iadd C dX2_enter_71 ?_
    refine sv_topi (fun v71 e71 => ?_)
    refine sv_put_2_5 C hj kw_88 dX2_enter_72 ?_
    refine sv_iload (i := 4) (x := v15) C dX2_enter_75 rfl ?_
    exact sv_iret C hr dX2_enter_77 (Nat.le_of_ble_eq_true rfl) (Nat.le_of_ble_eq_true rfl) e15 (sv_eqW (by rw [e71, e67, e15]; simp only [sv_wu, sv_us, sv_uu]; unfold entv; simp only [upd_s, upd_n (show 5 ≠ 57 by decide), upd_n (show 5 ≠ 4 * m + 61 by omega), upd_n (show 5 ≠ 4 * m + 60 by omega), upd_n (show 5 ≠ 4 * m + 59 by omega), upd_n (show 5 ≠ 4 * m + 58 by omega)]; rfl))
  · exact absurd q9 (by omega)

set_option maxHeartbeats 4000000 in
set_option maxRecDepth 100000 in
theorem met_personNumber (l : Launch) (G : sv_G) (z : Nat) (M : sv_M) (o : Int64) (j f w9 : Nat) (hj : j < 8) (hf : f < 2147483648) (hw9 : w9 < 4) (m : Nat) (hm : M j 57 = nI m) (hm7 : m ≤ 7) : sv_Met l G yX2_personNumber cX2_personNumber 3 (some .int) 1 [.ref (sv_r G 8 j), .int (nI f), .int (nI w9)] (sv_W G z M o) (some (.int (if f < m then M j (4 * f + 58 + w9) else (-1)))) (sv_W G z M o) := by
  refine sv_ofW (by decide) kw_456 (Nat.le_of_ble_eq_true rfl) ?_
  intro p e s mth args below meth c hr C _
  refine sv_sub (lv' := [(0, .ref (sv_r G 8 j)), (1, .int (nI f)), (2, .int (nI w9))]) rfl ?_
  refine sv_iload_n (i := 1) (x := nI f) C dX2_personNumber_0 rfl rfl ?_
  refine sv_aload_n (i := 0) (x := sv_r G 8 j) C dX2_personNumber_1 rfl rfl ?_
  refine sv_get_2_4 C hj kw_85 dX2_personNumber_2 ?_
  refine sv_set (v' := .int (nI m)) (congrArg Value.int hm) ?_
  refine sv_icmp_ltN C 10 dX2_personNumber_5 (by decide) (by omega) (by omega) (fun q5 => ?_) (fun q5 => ?_)
  · refine sv_iload_n (i := 2) (x := nI w9) C dX2_personNumber_10 rfl rfl ?_
    rcases (show w9 = 0 ∨ w9 = 1 ∨ w9 = 2 ∨ w9 = 3 by omega) with rfl | rfl | rfl | rfl
    · refine sv_tableIn (off := 25) C 36 dX2_personNumber_11 (by decide) (by decide) (by decide) (by decide) ?_
      refine sv_aload_n (i := 0) (x := sv_r G 8 j) C dX2_personNumber_36 rfl rfl ?_
      refine sv_get_2_0 C hj kw_78 dX2_personNumber_37 ?_
      refine sv_iload_n (i := 1) (x := nI f) C dX2_personNumber_40 rfl rfl ?_
      refine sv_callN (as := [_, _]) (rest := []) C (met_atN j (4 * f + 58) rfl rfl (sv_okj (by decide) hj) rfl (by show _ < 7; omega)) fX5_at (host := "StairLight") kn_RX2_47 ⟨Nat.le_of_ble_eq_true rfl, Nat.le_of_ble_eq_true rfl⟩ (Nat.le_of_ble_eq_true rfl) dX2_personNumber_41 ⟨Nat.zero_le _, Nat.zero_le _⟩  ?_
      refine sv_ri (fun v41 e41 => ?_)
      exact sv_iret C hr dX2_personNumber_44 (Nat.le_of_ble_eq_true rfl) (Nat.le_of_ble_eq_true rfl) (by rw [e41, if_pos q5]) (fun _ h => h)
    · refine sv_tableIn (off := 34) C 45 dX2_personNumber_11 (by decide) (by decide) (by decide) (by decide) ?_
      refine sv_aload_n (i := 0) (x := sv_r G 8 j) C dX2_personNumber_45 rfl rfl ?_
      refine sv_get_2_1 C hj kw_79 dX2_personNumber_46 ?_
      refine sv_iload_n (i := 1) (x := nI f) C dX2_personNumber_49 rfl rfl ?_
      refine sv_callN (as := [_, _]) (rest := []) C (met_atN j (4 * f + 59) rfl rfl (sv_okj (by decide) hj) rfl (by show _ < 7; omega)) fX5_at (host := "StairLight") kn_RX2_47 ⟨Nat.le_of_ble_eq_true rfl, Nat.le_of_ble_eq_true rfl⟩ (Nat.le_of_ble_eq_true rfl) dX2_personNumber_50 ⟨Nat.zero_le _, Nat.zero_le _⟩  ?_
      refine sv_ri (fun v50 e50 => ?_)
      exact sv_iret C hr dX2_personNumber_53 (Nat.le_of_ble_eq_true rfl) (Nat.le_of_ble_eq_true rfl) (by rw [e50, if_pos q5]) (fun _ h => h)
    · refine sv_tableIn (off := 43) C 54 dX2_personNumber_11 (by decide) (by decide) (by decide) (by decide) ?_
      refine sv_aload_n (i := 0) (x := sv_r G 8 j) C dX2_personNumber_54 rfl rfl ?_
      refine sv_get_2_2 C hj kw_82 dX2_personNumber_55 ?_
      refine sv_iload_n (i := 1) (x := nI f) C dX2_personNumber_58 rfl rfl ?_
      refine sv_callN (as := [_, _]) (rest := []) C (met_atN j (4 * f + 60) rfl rfl (sv_okj (by decide) hj) rfl (by show _ < 7; omega)) fX5_at (host := "StairLight") kn_RX2_47 ⟨Nat.le_of_ble_eq_true rfl, Nat.le_of_ble_eq_true rfl⟩ (Nat.le_of_ble_eq_true rfl) dX2_personNumber_59 ⟨Nat.zero_le _, Nat.zero_le _⟩  ?_
      refine sv_ri (fun v59 e59 => ?_)
      exact sv_iret C hr dX2_personNumber_62 (Nat.le_of_ble_eq_true rfl) (Nat.le_of_ble_eq_true rfl) (by rw [e59, if_pos q5]) (fun _ h => h)
    · refine sv_tableOut C 63 dX2_personNumber_11 (Or.inr (by decide)) (by decide) ?_
      refine sv_aload_n (i := 0) (x := sv_r G 8 j) C dX2_personNumber_63 rfl rfl ?_
      refine sv_get_2_3 C hj kw_84 dX2_personNumber_64 ?_
      refine sv_iload_n (i := 1) (x := nI f) C dX2_personNumber_67 rfl rfl ?_
      refine sv_callN (as := [_, _]) (rest := []) C (met_atN j (4 * f + 61) rfl rfl (sv_okj (by decide) hj) rfl (by show _ < 7; omega)) fX5_at (host := "StairLight") kn_RX2_47 ⟨Nat.le_of_ble_eq_true rfl, Nat.le_of_ble_eq_true rfl⟩ (Nat.le_of_ble_eq_true rfl) dX2_personNumber_68 ⟨Nat.zero_le _, Nat.zero_le _⟩  ?_
      refine sv_ri (fun v68 e68 => ?_)
      exact sv_iret C hr dX2_personNumber_71 (Nat.le_of_ble_eq_true rfl) (Nat.le_of_ble_eq_true rfl) (by rw [e68, if_pos q5]) (fun _ h => h)
  · refine sv_iconst (v := (-1)) C dX2_personNumber_8 (by decide) ?_
    exact sv_iret C hr dX2_personNumber_9 (Nat.le_of_ble_eq_true rfl) (Nat.le_of_ble_eq_true rfl) (by rw [if_neg q5]) (fun _ h => h)
end
section
set_option maxHeartbeats 4000000 in
set_option maxRecDepth 100000 in
theorem met_letCome (l : Launch) (G : sv_G) (z : Nat) (M : sv_M) (o : Int64) (j : Nat) (hj : j < 8) (f t : Int32) (m : Nat) (hm : M j 57 = nI m) (hm6 : m < 7) : sv_Met l G yX3_letCome cX3_letCome 3 (some .int) 4 [.ref (sv_r G 0 j), .int f, .int t] (sv_W G z M o) (some (.int (M j 5))) (sv_W G z (sv_u M j (entv m f t (M j 3) (M j))) o) := by
  refine sv_ofW (by decide) kw_421 (Nat.le_of_ble_eq_true rfl) ?_
  intro p e s mth args below meth c hr C _
  refine sv_sub (lv' := [(0, .ref (sv_r G 0 j)), (1, .int f), (2, .int t)]) rfl ?_
  refine sv_aload_n (i := 0) (x := sv_r G 0 j) C dX3_letCome_0 rfl rfl ?_
  refine sv_get_3_1 C hj kw_110 dX3_letCome_1 ?_
  refine sv_iload_n (i := 1) (x := f) C dX3_letCome_4 rfl rfl ?_
  refine sv_iload_n (i := 2) (x := t) C dX3_letCome_5 rfl rfl ?_
  refine sv_aload_n (i := 0) (x := sv_r G 0 j) C dX3_letCome_6 rfl rfl ?_
  refine sv_get_3_2 C hj kw_112 dX3_letCome_7 ?_
  refine sv_iconst (v := nI 3) C dX3_letCome_10 (by decide) ?_
  refine sv_callN (as := [_, _]) (rest := [_, _, _]) C (met_atN j 3 rfl rfl (sv_okj (by decide) hj) rfl (by show _ < 4; omega)) fX5_at (host := "StairLight") kn_RX3_57 ⟨Nat.le_of_ble_eq_true rfl, Nat.le_of_ble_eq_true rfl⟩ (Nat.le_of_ble_eq_true rfl) dX3_letCome_11 ⟨Nat.zero_le _, Nat.zero_le _⟩  ?_
  refine sv_ri (fun v11 e11 => ?_)
  refine sv_callV (as := [_, _, _]) (rest := []) C (met_enter l G _ _ _ j hj f t v11 m hm hm6) fX2_enter kw_422 (sv_recv8 C hj) ⟨Nat.le_of_ble_eq_true rfl, Nat.le_of_ble_eq_true rfl⟩ (Nat.le_of_ble_eq_true rfl) dX3_letCome_14 ⟨Nat.zero_le _, Nat.zero_le _⟩  ?_
  refine sv_ri (fun v14 e14 => ?_)
  exact sv_iret C hr dX3_letCome_17 (Nat.le_of_ble_eq_true rfl) (Nat.le_of_ble_eq_true rfl) e14 (sv_eqW (by rw [e11]))

set_option maxHeartbeats 4000000 in
set_option maxRecDepth 100000 in
theorem met_switchOn (l : Launch) (G : sv_G) (z : Nat) (M : sv_M) (o : Int64) (j f : Nat) (hj : j < 8) (hf : f < 8) : sv_Met l G yX3_switchOn cX3_switchOn 2 none 3 [.ref (sv_r G 0 j), .int (nI f)] (sv_W G z M o) none (sv_W G z (sv_u M j (sw (M j 0) f (M j))) o) := by
  refine sv_ofW (by decide) kw_381 (Nat.le_of_ble_eq_true rfl) ?_
  intro p e s mth args below meth c hr C _
  refine sv_sub (lv' := [(0, .ref (sv_r G 0 j)), (1, .int (nI f))]) rfl ?_
  refine sv_aload_n (i := 0) (x := sv_r G 0 j) C dX3_switchOn_0 rfl rfl ?_
  refine sv_get_3_0 C hj kw_108 dX3_switchOn_1 ?_
  refine sv_iload_n (i := 1) (x := nI f) C dX3_switchOn_4 rfl rfl ?_
  refine sv_aload_n (i := 0) (x := sv_r G 0 j) C dX3_switchOn_5 rfl rfl ?_
  refine sv_get_3_2 C hj kw_112 dX3_switchOn_6 ?_
  refine sv_iconst (v := nI 0) C dX3_switchOn_9 (by decide) ?_
  refine sv_callN (as := [_, _]) (rest := [_, _]) C (met_atN j 0 rfl rfl (sv_okj (by decide) hj) rfl (by show _ < 4; omega)) fX5_at (host := "StairLight") kn_RX3_57 ⟨Nat.le_of_ble_eq_true rfl, Nat.le_of_ble_eq_true rfl⟩ (Nat.le_of_ble_eq_true rfl) dX3_switchOn_10 ⟨Nat.zero_le _, Nat.zero_le _⟩  ?_
  refine sv_ri (fun v10 e10 => ?_)
  refine sv_callV (as := [_, _]) (rest := []) C (met_letBurn l G _ _ _ j f hj (by omega) v10) fX0_letBurn kw_382 (sv_recv1 C hj) ⟨Nat.le_of_ble_eq_true rfl, Nat.le_of_ble_eq_true rfl⟩ (Nat.le_of_ble_eq_true rfl) dX3_switchOn_13 ⟨Nat.zero_le _, Nat.zero_le _⟩  ?_
  refine sv_rv ?_
  exact sv_vret C hr dX3_switchOn_16 (Nat.le_of_ble_eq_true rfl) (Nat.le_of_ble_eq_true rfl) (sv_eqW (by rw [e10]))

set_option maxHeartbeats 4000000 in
set_option maxRecDepth 100000 in
theorem met_switchOnO (l : Launch) (G : sv_G) (z : Nat) (M : sv_M) (o : Int64) (j : Nat) (hj : j < 8) (f : Int32) (hf : f < 0 ∨ nI 8 ≤ f) : sv_Met l G yX3_switchOn cX3_switchOn 2 none 3 [.ref (sv_r G 0 j), .int f] (sv_W G z M o) none (sv_W G z M o) := by
  refine sv_ofW (by decide) kw_381 (Nat.le_of_ble_eq_true rfl) ?_
  intro p e s mth args below meth c hr C _
  refine sv_sub (lv' := [(0, .ref (sv_r G 0 j)), (1, .int f)]) rfl ?_
  refine sv_aload_n (i := 0) (x := sv_r G 0 j) C dX3_switchOn_0 rfl rfl ?_
  refine sv_get_3_0 C hj kw_108 dX3_switchOn_1 ?_
  refine sv_iload_n (i := 1) (x := f) C dX3_switchOn_4 rfl rfl ?_
  refine sv_aload_n (i := 0) (x := sv_r G 0 j) C dX3_switchOn_5 rfl rfl ?_
  refine sv_get_3_2 C hj kw_112 dX3_switchOn_6 ?_
  refine sv_iconst (v := nI 0) C dX3_switchOn_9 (by decide) ?_
  refine sv_callN (as := [_, _]) (rest := [_, _]) C (met_atN j 0 rfl rfl (sv_okj (by decide) hj) rfl (by show _ < 4; omega)) fX5_at (host := "StairLight") kn_RX3_57 ⟨Nat.le_of_ble_eq_true rfl, Nat.le_of_ble_eq_true rfl⟩ (Nat.le_of_ble_eq_true rfl) dX3_switchOn_10 ⟨Nat.zero_le _, Nat.zero_le _⟩  ?_
  refine sv_ri (fun v10 e10 => ?_)
  refine sv_callV (as := [_, _]) (rest := []) C (met_letBurnO l G _ _ _ j hj f v10 hf) fX0_letBurn kw_382 (sv_recv1 C hj) ⟨Nat.le_of_ble_eq_true rfl, Nat.le_of_ble_eq_true rfl⟩ (Nat.le_of_ble_eq_true rfl) dX3_switchOn_13 ⟨Nat.zero_le _, Nat.zero_le _⟩  ?_
  refine sv_rv ?_
  exact sv_vret C hr dX3_switchOn_16 (Nat.le_of_ble_eq_true rfl) (Nat.le_of_ble_eq_true rfl) (fun _ h => h)

theorem met_switchOnI (l : Launch) (G : sv_G) (z : Nat) (M : sv_M) (o : Int64) (j : Nat) (hj : j < 8) (f : Int32) : sv_Met l G yX3_switchOn cX3_switchOn 2 none 3 [.ref (sv_r G 0 j), .int f] (sv_W G z M o) none (sv_W G z (sv_u M j (swI (M j 0) f (M j))) o) := by
  by_cases hf : f < 0 ∨ nI 8 ≤ f
  · rw [swI_o hf, sv_ui]
    exact met_switchOnO l G z M o j hj f hf
  · rcases pk_ix f (n := 8) (by decide) with h | h | ⟨g, hg, rfl⟩
    · exact absurd (Or.inl h) hf
    · exact absurd (Or.inr h) hf
    · rw [swI_N hg]
      exact met_switchOn l G z M o j g hj hg
theorem fosw_o {T : Int32} {x : vX} {k : Nat} (h : k < 9 ∨ 57 ≤ k) : ∀ n, n ≤ 8 → fo (sw T) n x k = x k
  | 0, _ => rfl
  | n + 1, hn => (sw_o (by omega) (by omega)).trans (fosw_o h n (by omega))
set_option maxHeartbeats 4000000 in
set_option maxRecDepth 100000 in
theorem met_switchAllOn (l : Launch) (G : sv_G) (z : Nat) (M : sv_M) (o : Int64) (j : Nat) (hj : j < 8) : sv_Met l G yX3_switchAllOn cX3_switchAllOn 2 none 4 [.ref (sv_r G 0 j)] (sv_W G z M o) none (sv_W G z (sv_u M j (fo (sw (M j 0)) 8 (M j))) o) := by
  refine sv_ofW (by decide) kw_543 (Nat.le_of_ble_eq_true rfl) ?_
  intro p e s mth args below meth c hr C _
  refine sv_sub (lv' := [(0, .ref (sv_r G 0 j))]) rfl ?_
  refine sv_iconst (v := nI 0) C dX3_switchAllOn_0 (by decide) ?_
  refine sv_istore_n (i := 1) C [(0, .ref (sv_r G 0 j)), (1, .int (nI 0))] dX3_switchAllOn_1 rfl (by decide) rfl ?_
  refine sv_wd (sv_eqW (sv_ui _ j).symm) ?_
  refine sv_loop (N := 8) (I := fun _ => True) (Wf := fun i => sv_W G z (sv_u M j (fo (sw (M j 0)) i (M j))) o) (Lf := fun i => [(0, .ref (sv_r G 0 j)), (1, .int (nI i))]) 0 (Nat.zero_le _) trivial (fun i hi0 hi hI ih => ?_)
  refine sv_iload_n (i := 1) (x := nI i) C dX3_switchAllOn_2 rfl rfl ?_
  refine sv_bipush (v := nI 8) C dX3_switchAllOn_3 (by decide) ?_
  refine sv_icmp_geN C 19 dX3_switchAllOn_5 (by decide) (by omega) (by omega) (fun q5 => ?_) (fun q5 => ?_)
  · exact sv_vret C hr dX3_switchAllOn_19 (Nat.le_of_ble_eq_true rfl) (Nat.le_of_ble_eq_true rfl) (sv_eqW (by rw [show i = 8 from by omega]))
  · refine sv_aload_n (i := 0) (x := sv_r G 0 j) C dX3_switchAllOn_8 rfl rfl ?_
    refine sv_iload_n (i := 1) (x := nI i) C dX3_switchAllOn_9 rfl rfl ?_
    refine sv_callV (as := [_]) (rest := []) C (met_switchOn l G _ _ _ j i hj (by omega)) fX3_switchOn kw_378 (sv_recv0 C hj) ⟨Nat.le_of_ble_eq_true rfl, Nat.le_of_ble_eq_true rfl⟩ (Nat.le_of_ble_eq_true rfl) dX3_switchAllOn_10 ⟨Nat.zero_le _, Nat.zero_le _⟩  ?_
    refine sv_rv ?_
    refine sv_iinc (i := 1) (x := nI i) C (nI (i + 1)) [(0, .ref (sv_r G 0 j)), (1, .int (nI (i + 1)))] dX3_switchAllOn_13 rfl (sv_incN i 1) (by decide) rfl ?_
    refine sv_goto C 2 dX3_switchAllOn_16 (by decide) ?_
    refine sv_wd (sv_eqW ?_) (ih (by omega) trivial)
    rw [sv_us, sv_uu, fo_succ, fosw_o (Or.inl (by decide)) i (by omega)]

theorem lampv_f {x : vX} {f : Nat} (h : x 7 = 1) : lampv x f = 3 := if_pos h
theorem lampv_0 {x : vX} {f : Nat} (h : ¬ x 7 = 1) (h2 : x (6 * f + 9) = 0) : lampv x f = x 6 := by unfold lampv; rw [if_neg h, if_pos h2]
theorem lampv_2 {x : vX} {f : Nat} (h : ¬ x 7 = 1) (h2 : ¬ x (6 * f + 9) = 0) (h3 : x (6 * f + 9) ≤ x 1) : lampv x f = 2 := by unfold lampv; rw [if_neg h, if_neg h2, if_pos h3]
theorem lampv_3 {x : vX} {f : Nat} (h : ¬ x 7 = 1) (h2 : ¬ x (6 * f + 9) = 0) (h3 : ¬ x (6 * f + 9) ≤ x 1) : lampv x f = 3 := by unfold lampv; rw [if_neg h, if_neg h2, if_neg h3]
theorem bne {v w : Int32} (e : v = w) (h : v = 0) : ¬ w = 1 := by subst e; rw [h]; decide
theorem beq1 {v w : Int32} (e : v = w) (b : w = 0 ∨ w = 1) (h : ¬ v = 0) : w = 1 := by subst e; exact b.resolve_left h
set_option maxHeartbeats 4000000 in
set_option maxRecDepth 100000 in
theorem met_lampOf (l : Launch) (G : sv_G) (z : Nat) (M : sv_M) (o : Int64) (j f : Nat) (hj : j < 8) (hf : f < 8) (b6 : M j 6 = 0 ∨ M j 6 = 1) (b7 : M j 7 = 0 ∨ M j 7 = 1) : sv_Met l G yX3_lampOf cX3_lampOf 3 (some .int) 1 [.ref (sv_r G 0 j), .int (nI f)] (sv_W G z M o) (some (.int (lampv (M j) f))) (sv_W G z M o) := by
  refine sv_ofW (by decide) kw_284 (Nat.le_of_ble_eq_true rfl) ?_
  intro p e s mth args below meth c hr C _
  refine sv_sub (lv' := [(0, .ref (sv_r G 0 j)), (1, .int (nI f))]) rfl ?_
  refine sv_aload_n (i := 0) (x := sv_r G 0 j) C dX3_lampOf_0 rfl rfl ?_
  refine sv_get_3_4 C hj kw_116 dX3_lampOf_1 ?_
  refine sv_topi (fun v1 e1 => ?_)
  refine sv_if_eq C 9 dX3_lampOf_4 (by decide) (fun q4 => ?_) (fun q4 => ?_)
  · refine sv_aload_n (i := 0) (x := sv_r G 0 j) C dX3_lampOf_9 rfl rfl ?_
    refine sv_get_3_0 C hj kw_108 dX3_lampOf_10 ?_
    refine sv_get_0_0 C hj kw_43 dX3_lampOf_13 ?_
    refine sv_iload_n (i := 1) (x := nI f) C dX3_lampOf_16 rfl rfl ?_
    refine sv_callN (as := [_, _]) (rest := []) C (met_atN j (6 * f + 9) rfl rfl (sv_okj (by decide) hj) rfl (by show _ < 8; omega)) fX5_at (host := "StairLight") kn_RX3_57 ⟨Nat.le_of_ble_eq_true rfl, Nat.le_of_ble_eq_true rfl⟩ (Nat.le_of_ble_eq_true rfl) dX3_lampOf_17 ⟨Nat.zero_le _, Nat.zero_le _⟩  ?_
    refine sv_ri (fun v17 e17 => ?_)
    refine sv_istore_n (i := 2) C [(0, .ref (sv_r G 0 j)), (1, .int (nI f)), (2, .int v17)] dX3_lampOf_20 rfl (by decide) rfl ?_
    refine sv_iload_n (i := 2) (x := v17) C dX3_lampOf_21 rfl rfl ?_
    refine sv_if_ne C 38 dX3_lampOf_22 (by decide) (fun q22 => ?_) (fun q22 => ?_)
    · refine sv_iload_n (i := 2) (x := v17) C dX3_lampOf_38 rfl rfl ?_
      refine sv_aload_n (i := 0) (x := sv_r G 0 j) C dX3_lampOf_39 rfl rfl ?_
      refine sv_get_3_2 C hj kw_112 dX3_lampOf_40 ?_
      refine sv_iconst (v := nI 1) C dX3_lampOf_43 (by decide) ?_
      refine sv_callN (as := [_, _]) (rest := [_]) C (met_atN j 1 rfl rfl (sv_okj (by decide) hj) rfl (by show _ < 4; omega)) fX5_at (host := "StairLight") kn_RX3_57 ⟨Nat.le_of_ble_eq_true rfl, Nat.le_of_ble_eq_true rfl⟩ (Nat.le_of_ble_eq_true rfl) dX3_lampOf_44 ⟨Nat.zero_le _, Nat.zero_le _⟩  ?_
      refine sv_ri (fun v44 e44 => ?_)
      refine sv_icmp_gt C 54 dX3_lampOf_47 (by decide) (fun q47 => ?_) (fun q47 => ?_)
      · refine sv_iconst (v := nI 3) C dX3_lampOf_54 (by decide) ?_
        exact sv_iret C hr dX3_lampOf_55 (Nat.le_of_ble_eq_true rfl) (Nat.le_of_ble_eq_true rfl) (by rw [lampv_3 (bne e1 q4) (fun h => q22 (e17.trans h)) (fun h => absurd q47 (Int32.not_lt.mpr (by rw [e17, e44]; exact h)))]; rfl) (fun _ h => h)
      · refine sv_iconst (v := nI 2) C dX3_lampOf_50 (by decide) ?_
        refine sv_goto C 55 dX3_lampOf_51 (by decide) ?_
        exact sv_iret C hr dX3_lampOf_55 (Nat.le_of_ble_eq_true rfl) (Nat.le_of_ble_eq_true rfl) (by rw [lampv_2 (bne e1 q4) (fun h => q22 (e17.trans h)) (by rw [← e17, ← e44]; exact Int32.not_lt.mp q47)]; rfl) (fun _ h => h)
    · refine sv_aload_n (i := 0) (x := sv_r G 0 j) C dX3_lampOf_25 rfl rfl ?_
      refine sv_get_3_3 C hj kw_114 dX3_lampOf_26 ?_
      refine sv_topi (fun v26 e26 => ?_)
      refine sv_if_eq C 36 dX3_lampOf_29 (by decide) (fun q29 => ?_) (fun q29 => ?_)
      · refine sv_iconst (v := nI 0) C dX3_lampOf_36 (by decide) ?_
        exact sv_iret C hr dX3_lampOf_37 (Nat.le_of_ble_eq_true rfl) (Nat.le_of_ble_eq_true rfl) (by rw [lampv_0 (bne e1 q4) (e17.symm.trans q22)]; exact (e26.symm.trans q29).symm) (fun _ h => h)
      · refine sv_iconst (v := nI 1) C dX3_lampOf_32 (by decide) ?_
        refine sv_goto C 37 dX3_lampOf_33 (by decide) ?_
        exact sv_iret C hr dX3_lampOf_37 (Nat.le_of_ble_eq_true rfl) (Nat.le_of_ble_eq_true rfl) (by rw [lampv_0 (bne e1 q4) (e17.symm.trans q22)]; exact (beq1 e26 b6 q29).symm) (fun _ h => h)
  · refine sv_iconst (v := nI 3) C dX3_lampOf_7 (by decide) ?_
    exact sv_iret C hr dX3_lampOf_8 (Nat.le_of_ble_eq_true rfl) (Nat.le_of_ble_eq_true rfl) (by rw [lampv_f (beq1 e1 b7 q4)]; rfl) (fun _ h => h)

set_option maxHeartbeats 4000000 in
set_option maxRecDepth 100000 in
theorem met_lampsBurning (l : Launch) (G : sv_G) (z : Nat) (M : sv_M) (o : Int64) (j : Nat) (hj : j < 8) (b6 : M j 6 = 0 ∨ M j 6 = 1) (b7 : M j 7 = 0 ∨ M j 7 = 1) : sv_Met l G yX3_lampsBurning cX3_lampsBurning 3 (some .int) 2 [.ref (sv_r G 0 j)] (sv_W G z M o) (some (.int (litI (M j) 8))) (sv_W G z M o) := by
  refine sv_ofW (by decide) kw_304 (Nat.le_of_ble_eq_true rfl) ?_
  intro p e s mth args below meth c hr C _
  refine sv_sub (lv' := [(0, .ref (sv_r G 0 j))]) rfl ?_
  refine sv_iconst (v := nI 0) C dX3_lampsBurning_0 (by decide) ?_
  refine sv_istore_n (i := 1) C [(0, .ref (sv_r G 0 j)), (1, .int (nI 0))] dX3_lampsBurning_1 rfl (by decide) rfl ?_
  refine sv_iconst (v := nI 0) C dX3_lampsBurning_2 (by decide) ?_
  refine sv_istore_n (i := 2) C [(0, .ref (sv_r G 0 j)), (1, .int (nI 0)), (2, .int (nI 0))] dX3_lampsBurning_3 rfl (by decide) rfl ?_
  refine sv_loop (N := 8) (I := fun _ => True) (Wf := fun i => sv_W G z M o) (Lf := fun i => [(0, .ref (sv_r G 0 j)), (1, .int (litI (M j) i)), (2, .int (nI i))]) 0 (Nat.zero_le _) trivial (fun i hi0 hi hI ih => ?_)
  refine sv_iload_n (i := 2) (x := nI i) C dX3_lampsBurning_4 rfl rfl ?_
  refine sv_bipush (v := nI 8) C dX3_lampsBurning_5 (by decide) ?_
  refine sv_icmp_geN C 28 dX3_lampsBurning_7 (by decide) (by omega) (by omega) (fun q7 => ?_) (fun q7 => ?_)
  · refine sv_iload_n (i := 1) (x := litI (M j) i) C dX3_lampsBurning_28 rfl rfl ?_
    exact sv_iret C hr dX3_lampsBurning_29 (Nat.le_of_ble_eq_true rfl) (Nat.le_of_ble_eq_true rfl) (by rw [show i = 8 from by omega]) (fun _ h => h)
  · refine sv_aload_n (i := 0) (x := sv_r G 0 j) C dX3_lampsBurning_10 rfl rfl ?_
    refine sv_iload_n (i := 2) (x := nI i) C dX3_lampsBurning_11 rfl rfl ?_
    refine sv_callV (as := [_]) (rest := []) C (met_lampOf l G _ _ _ j i hj (by omega) b6 b7) fX3_lampOf kw_281 (sv_recv0 C hj) ⟨Nat.le_of_ble_eq_true rfl, Nat.le_of_ble_eq_true rfl⟩ (Nat.le_of_ble_eq_true rfl) dX3_lampsBurning_12 ⟨Nat.zero_le _, Nat.zero_le _⟩  ?_
    refine sv_ri (fun v12 e12 => ?_)
    refine sv_iconst (v := nI 2) C dX3_lampsBurning_15 (by decide) ?_
    refine sv_icmp_lt C 22 dX3_lampsBurning_16 (by decide) (fun q16 => ?_) (fun q16 => ?_)
    · have q16 : v12 < 2 := q16
      refine sv_iinc (i := 2) (x := nI i) C (nI (i + 1)) [(0, .ref (sv_r G 0 j)), (1, .int (litI (M j) i)), (2, .int (nI (i + 1)))] dX3_lampsBurning_22 rfl (sv_incN i 1) (by decide) rfl ?_
      refine sv_goto C 4 dX3_lampsBurning_25 (by decide) ?_
      rw [show litI (M j) i = litI (M j) (i + 1) from by show _ = litI (M j) i + _; rw [if_pos (e12 ▸ q16)]; exact (Int32.add_zero _).symm]
      exact ih (by omega) trivial
    · have q16 : ¬ v12 < 2 := q16
      obtain ⟨v19, e19⟩ : ∃ y : Int32, y = litI (M j) i + Int32.ofInt (1) := ⟨_, rfl⟩
      refine sv_iinc (i := 1) (x := litI (M j) i) C v19 [(0, .ref (sv_r G 0 j)), (1, .int v19), (2, .int (nI i))] dX3_lampsBurning_19 rfl e19.symm (by decide) rfl ?_
      refine sv_iinc (i := 2) (x := nI i) C (nI (i + 1)) [(0, .ref (sv_r G 0 j)), (1, .int v19), (2, .int (nI (i + 1)))] dX3_lampsBurning_22 rfl (sv_incN i 1) (by decide) rfl ?_
      refine sv_goto C 4 dX3_lampsBurning_25 (by decide) ?_
      rw [show v19 = litI (M j) (i + 1) from by rw [e19]; show _ = litI (M j) i + _; rw [if_neg (e12 ▸ q16)]; rfl]
      exact ih (by omega) trivial

theorem swI_k0 {T f : Int32} {x : vX} : swI T f x 0 = x 0 := by
  unfold swI
  split
  · rfl
  · exact sw_o (by omega) (by omega)
set_option maxHeartbeats 4000000 in
set_option maxRecDepth 100000 in
theorem met_beginSecond (l : Launch) (G : sv_G) (z : Nat) (M : sv_M) (o : Int64) (j : Nat) (hj : j < 8) (m : Nat) (hm : M j 57 = nI m) (hm7 : m ≤ 7) : sv_Met l G yX3_beginSecond cX3_beginSecond 2 none 5 [.ref (sv_r G 0 j)] (sv_W G z M o) none (sv_W G z (sv_u M j (beginv m (M j))) o) := by
  refine sv_ofW (by decide) kw_355 (Nat.le_of_ble_eq_true rfl) ?_
  intro p e s mth args below meth c hr C _
  refine sv_sub (lv' := [(0, .ref (sv_r G 0 j))]) rfl ?_
  refine sv_aload_n (i := 0) (x := sv_r G 0 j) C dX3_beginSecond_0 rfl rfl ?_
  refine sv_get_3_1 C hj kw_110 dX3_beginSecond_1 ?_
  refine sv_aload_n (i := 0) (x := sv_r G 0 j) C dX3_beginSecond_4 rfl rfl ?_
  refine sv_get_3_2 C hj kw_112 dX3_beginSecond_5 ?_
  refine sv_iconst (v := nI 3) C dX3_beginSecond_8 (by decide) ?_
  refine sv_callN (as := [_, _]) (rest := [_]) C (met_atN j 3 rfl rfl (sv_okj (by decide) hj) rfl (by show _ < 4; omega)) fX5_at (host := "StairLight") kn_RX3_57 ⟨Nat.le_of_ble_eq_true rfl, Nat.le_of_ble_eq_true rfl⟩ (Nat.le_of_ble_eq_true rfl) dX3_beginSecond_9 ⟨Nat.zero_le _, Nat.zero_le _⟩  ?_
  refine sv_ri (fun v9 e9 => ?_)
  refine sv_callV (as := [_]) (rest := []) C (met_goOn l G _ _ _ j hj v9 m hm hm7) fX2_goOn kw_356 (sv_recv8 C hj) ⟨Nat.le_of_ble_eq_true rfl, Nat.le_of_ble_eq_true rfl⟩ (Nat.le_of_ble_eq_true rfl) dX3_beginSecond_12 ⟨Nat.zero_le _, Nat.zero_le _⟩  ?_
  refine sv_rv ?_
  have hle := goS_le (M j 3) (M j) m
  rw [e9]
  refine sv_iconst (v := nI 0) C dX3_beginSecond_15 (by decide) ?_
  refine sv_istore_n (i := 1) C [(0, .ref (sv_r G 0 j)), (1, .int (nI 0))] dX3_beginSecond_16 rfl (by decide) rfl ?_
  refine sv_loop (N := 8) (I := fun _ => True) (Wf := fun i => sv_W G z (sv_u M j (fo (la (goS (M j 3) m (M j)).2) i (goOnv (M j 3) m (M j)))) o) (Lf := fun i => [(0, .ref (sv_r G 0 j)), (1, .int (nI i))]) 0 (Nat.zero_le _) trivial (fun i hi0 hi hI ih => ?_)
  refine sv_iload_n (i := 1) (x := nI i) C dX3_beginSecond_17 rfl rfl ?_
  refine sv_bipush (v := nI 8) C dX3_beginSecond_18 (by decide) ?_
  refine sv_icmp_geN C 86 dX3_beginSecond_20 (by decide) (by omega) (by omega) (fun q20 => ?_) (fun q20 => ?_)
  · exact sv_vret C hr dX3_beginSecond_86 (Nat.le_of_ble_eq_true rfl) (Nat.le_of_ble_eq_true rfl) (sv_eqW (by rw [show i = 8 from by omega]; rfl))
  · refine sv_aload_n (i := 0) (x := sv_r G 0 j) C dX3_beginSecond_23 rfl rfl ?_
    refine sv_get_3_0 C hj kw_108 dX3_beginSecond_24 ?_
    refine sv_get_0_1 C hj kw_46 dX3_beginSecond_27 ?_
    refine sv_iload_n (i := 1) (x := nI i) C dX3_beginSecond_30 rfl rfl ?_
    refine sv_callN (as := [_, _]) (rest := []) C (met_atN j (6 * i + 10) rfl rfl (sv_okj (by decide) hj) rfl (by show _ < 8; omega)) fX5_at (host := "StairLight") kn_RX3_57 ⟨Nat.le_of_ble_eq_true rfl, Nat.le_of_ble_eq_true rfl⟩ (Nat.le_of_ble_eq_true rfl) dX3_beginSecond_31 ⟨Nat.zero_le _, Nat.zero_le _⟩  ?_
    refine sv_ri (fun v31 e31 => ?_)
    rw [sv_us] at e31
    refine sv_iconst (v := nI 1) C dX3_beginSecond_34 (by decide) ?_
    refine sv_icmp_ne C 80 dX3_beginSecond_35 (by decide) (fun q35 => ?_) (fun q35 => ?_)
    · have q35 : ¬ v31 = 1 := q35
      refine sv_iinc (i := 1) (x := nI i) C (nI (i + 1)) [(0, .ref (sv_r G 0 j)), (1, .int (nI (i + 1)))] dX3_beginSecond_80 rfl (sv_incN i 1) (by decide) rfl ?_
      refine sv_goto C 17 dX3_beginSecond_83 (by decide) ?_
      have hn : fo (la (goS (M j 3) m (M j)).2) (i + 1) (goOnv (M j 3) m (M j)) = fo (la (goS (M j 3) m (M j)).2) i (goOnv (M j 3) m (M j)) := if_neg (fun h => q35 (e31.trans h.1))
      have h9 := ih (by omega) trivial
      rw [hn] at h9
      exact h9
    · have q35 : v31 = 1 := q35
      refine sv_aload_n (i := 0) (x := sv_r G 0 j) C dX3_beginSecond_38 rfl rfl ?_
      refine sv_get_3_1 C hj kw_110 dX3_beginSecond_39 ?_
      refine sv_iload_n (i := 1) (x := nI i) C dX3_beginSecond_42 rfl rfl ?_
      refine sv_callV (as := [_]) (rest := []) C (met_peopleOn l G _ _ _ j hj (nI i) (goS (M j 3) m (M j)).2 (by rw [sv_us, fola_o (Or.inr (by decide)) i (by omega)]; exact upd_s _ _ _) (by omega)) fX2_peopleOn kw_288 (sv_recv8 C hj) ⟨Nat.le_of_ble_eq_true rfl, Nat.le_of_ble_eq_true rfl⟩ (Nat.le_of_ble_eq_true rfl) dX3_beginSecond_43 ⟨Nat.zero_le _, Nat.zero_le _⟩  ?_
      refine sv_ri (fun v43 e43 => ?_)
      rw [sv_us] at e43
      refine sv_if_le C 80 dX3_beginSecond_46 (by decide) (fun q46 => ?_) (fun q46 => ?_)
      · refine sv_iinc (i := 1) (x := nI i) C (nI (i + 1)) [(0, .ref (sv_r G 0 j)), (1, .int (nI (i + 1)))] dX3_beginSecond_80 rfl (sv_incN i 1) (by decide) rfl ?_
        refine sv_goto C 17 dX3_beginSecond_83 (by decide) ?_
        have hn : fo (la (goS (M j 3) m (M j)).2) (i + 1) (goOnv (M j 3) m (M j)) = fo (la (goS (M j 3) m (M j)).2) i (goOnv (M j 3) m (M j)) := if_neg (fun h => absurd h.2 (Int32.not_lt.mpr (e43 ▸ q46)))
        have h9 := ih (by omega) trivial
        rw [hn] at h9
        exact h9
      · obtain ⟨M1, hM1⟩ : ∃ M1 : sv_M, M1 = sv_u M j (fo (la (goS (M j 3) m (M j)).2) i (goOnv (M j 3) m (M j))) := ⟨_, rfl⟩
        refine sv_wd (Wd' := sv_W G z M1 o) (sv_eqW hM1.symm) ?_
        have hMj : M1 j = fo (la (goS (M j 3) m (M j)).2) i (goOnv (M j 3) m (M j)) := by rw [hM1, sv_us]
        have h1M : ∀ x, sv_u M1 j x = sv_u M j x := fun x => by rw [hM1, sv_uu]
        refine sv_aload_n (i := 0) (x := sv_r G 0 j) C dX3_beginSecond_49 rfl rfl ?_
        refine sv_iload_n (i := 1) (x := nI i) C dX3_beginSecond_50 rfl rfl ?_
        refine sv_callV (as := [_]) (rest := []) C (met_switchOn l G _ _ _ j i hj (by omega)) fX3_switchOn kw_378 (sv_recv0 C hj) ⟨Nat.le_of_ble_eq_true rfl, Nat.le_of_ble_eq_true rfl⟩ (Nat.le_of_ble_eq_true rfl) dX3_beginSecond_51 ⟨Nat.zero_le _, Nat.zero_le _⟩  ?_
        refine sv_rv ?_
        refine sv_aload_n (i := 0) (x := sv_r G 0 j) C dX3_beginSecond_54 rfl rfl ?_
        refine sv_get_3_2 C hj kw_112 dX3_beginSecond_55 ?_
        refine sv_iconst (v := nI 2) C dX3_beginSecond_58 (by decide) ?_
        refine sv_callN (as := [_, _]) (rest := []) C (met_atN j 2 rfl rfl (sv_okj (by decide) hj) rfl (by show _ < 4; omega)) fX5_at (host := "StairLight") kn_RX3_57 ⟨Nat.le_of_ble_eq_true rfl, Nat.le_of_ble_eq_true rfl⟩ (Nat.le_of_ble_eq_true rfl) dX3_beginSecond_59 ⟨Nat.zero_le _, Nat.zero_le _⟩  ?_
        refine sv_ri (fun v59 e59 => ?_)
        have e59 : v59 = M1 j 2 := by rw [e59, sv_us, sw_o (by omega) (by omega)]
        refine sv_iconst (v := nI 1) C dX3_beginSecond_62 (by decide) ?_
        refine sv_icmp_ne C 80 dX3_beginSecond_63 (by decide) (fun q63 => ?_) (fun q63 => ?_)
        · have q63 : ¬ v59 = 1 := q63
          refine sv_iinc (i := 1) (x := nI i) C (nI (i + 1)) [(0, .ref (sv_r G 0 j)), (1, .int (nI (i + 1)))] dX3_beginSecond_80 rfl (sv_incN i 1) (by decide) rfl ?_
          refine sv_goto C 17 dX3_beginSecond_83 (by decide) ?_
          have hn : fo (la (goS (M j 3) m (M j)).2) (i + 1) (goOnv (M j 3) m (M j)) = arnd i (fo (la (goS (M j 3) m (M j)).2) i (goOnv (M j 3) m (M j))) := if_pos ⟨by exact e31.symm.trans q35, by exact e43 ▸ Int32.not_le.mp q46⟩
          refine sv_wd (sv_eqW ?_) (ih (by omega) trivial)
          rw [hn, arnd_eq (show i < 8 by omega), ← hMj, ← h1M, if_neg (fun h => q63 (e59.trans h))]
        · have q63 : v59 = 1 := q63
          refine sv_aload_n (i := 0) (x := sv_r G 0 j) C dX3_beginSecond_66 rfl rfl ?_
          refine sv_iload_n (i := 1) (x := nI i) C dX3_beginSecond_67 rfl rfl ?_
          refine sv_iconst (v := nI 1) C dX3_beginSecond_68 (by decide) ?_
          refine sv_isub C dX3_beginSecond_69 ?_
          refine sv_set (v' := .int (nI i - 1)) (congrArg Value.int rfl) ?_
          refine sv_callV (as := [_]) (rest := []) C (met_switchOnI l G _ _ _ j hj (nI i - 1)) fX3_switchOn kw_378 (sv_recv0 C hj) ⟨Nat.le_of_ble_eq_true rfl, Nat.le_of_ble_eq_true rfl⟩ (Nat.le_of_ble_eq_true rfl) dX3_beginSecond_70 ⟨Nat.zero_le _, Nat.zero_le _⟩  ?_
          refine sv_rv ?_
          refine sv_aload_n (i := 0) (x := sv_r G 0 j) C dX3_beginSecond_73 rfl rfl ?_
          refine sv_iload_n (i := 1) (x := nI i) C dX3_beginSecond_74 rfl rfl ?_
          refine sv_iconst (v := nI 1) C dX3_beginSecond_75 (by decide) ?_
          refine sv_iadd C dX3_beginSecond_76 ?_
          refine sv_set (v' := .int (nI i + 1)) (congrArg Value.int rfl) ?_
          refine sv_callV (as := [_]) (rest := []) C (met_switchOnI l G _ _ _ j hj (nI i + 1)) fX3_switchOn kw_378 (sv_recv0 C hj) ⟨Nat.le_of_ble_eq_true rfl, Nat.le_of_ble_eq_true rfl⟩ (Nat.le_of_ble_eq_true rfl) dX3_beginSecond_77 ⟨Nat.zero_le _, Nat.zero_le _⟩  ?_
          refine sv_rv ?_
          refine sv_iinc (i := 1) (x := nI i) C (nI (i + 1)) [(0, .ref (sv_r G 0 j)), (1, .int (nI (i + 1)))] dX3_beginSecond_80 rfl (sv_incN i 1) (by decide) rfl ?_
          refine sv_goto C 17 dX3_beginSecond_83 (by decide) ?_
          have hn : fo (la (goS (M j 3) m (M j)).2) (i + 1) (goOnv (M j 3) m (M j)) = arnd i (fo (la (goS (M j 3) m (M j)).2) i (goOnv (M j 3) m (M j))) := if_pos ⟨by exact e31.symm.trans q35, by exact e43 ▸ Int32.not_le.mp q46⟩
          refine sv_wd (sv_eqW ?_) (ih (by omega) trivial)
          rw [hn, arnd_eq (show i < 8 by omega), ← hMj, ← h1M, if_pos (e59.symm.trans q63)]
          simp only [sv_us, sv_uu]
          rw [sw_o (show 0 ≠ 6 * i + 9 by omega) (by omega), swI_k0, sw_o (show 0 ≠ 6 * i + 9 by omega) (by omega)]

set_option maxHeartbeats 4000000 in
set_option maxRecDepth 100000 in
theorem met_powerOf (l : Launch) (G : sv_G) (Wd : Heap → Prop) (x : Int32) : sv_Met l G yX3_powerOf cX3_powerOf 1 (some .int) 0 [.int x] Wd (some (.int (powv x))) Wd := by
  refine sv_ofW (by decide) kw_400 (Nat.le_of_ble_eq_true rfl) ?_
  intro p e s mth args below meth c hr C _
  refine sv_sub (lv' := [(0, .int x)]) rfl ?_
  refine sv_iload_n (i := 0) (x := x) C dX3_powerOf_0 rfl rfl ?_
  refine sv_iconst (v := nI 2) C dX3_powerOf_1 (by decide) ?_
  refine sv_icmp_lt C 8 dX3_powerOf_2 (by decide) (fun q2 => ?_) (fun q2 => ?_)
  · have q2 : x < 2 := q2
    refine sv_iload_n (i := 0) (x := x) C dX3_powerOf_8 rfl rfl ?_
    refine sv_iconst (v := nI 1) C dX3_powerOf_9 (by decide) ?_
    refine sv_icmp_ne C 17 dX3_powerOf_10 (by decide) (fun q10 => ?_) (fun q10 => ?_)
    · have q10 : ¬ x = 1 := q10
      refine sv_iconst (v := nI 0) C dX3_powerOf_17 (by decide) ?_
      exact sv_iret C hr dX3_powerOf_18 (Nat.le_of_ble_eq_true rfl) (Nat.le_of_ble_eq_true rfl) (by unfold powv; rw [if_pos q2, if_neg q10]; rfl) (fun _ h => h)
    · have q10 : x = 1 := q10
      refine sv_iconst (v := nI 3) C dX3_powerOf_13 (by decide) ?_
      refine sv_goto C 18 dX3_powerOf_14 (by decide) ?_
      exact sv_iret C hr dX3_powerOf_18 (Nat.le_of_ble_eq_true rfl) (Nat.le_of_ble_eq_true rfl) (by unfold powv; rw [if_pos q2, if_pos q10]; rfl) (fun _ h => h)
  · have q2 : ¬ x < 2 := q2
    refine sv_bipush (v := nI 10) C dX3_powerOf_5 (by decide) ?_
    exact sv_iret C hr dX3_powerOf_7 (Nat.le_of_ble_eq_true rfl) (Nat.le_of_ble_eq_true rfl) (by unfold powv; rw [if_neg q2]; rfl) (fun _ h => h)

set_option maxHeartbeats 4000000 in
set_option maxRecDepth 100000 in
theorem met_countSecondOn (l : Launch) (G : sv_G) (z : Nat) (M : sv_M) (o : Int64) (j f : Nat) (hj : j < 8) (hf : f < 8) (b6 : M j 6 = 0 ∨ M j 6 = 1) (b7 : M j 7 = 0 ∨ M j 7 = 1) : sv_Met l G yX3_countSecondOn cX3_countSecondOn 3 none 2 [.ref (sv_r G 0 j), .int (nI f)] (sv_W G z M o) none (sv_W G z (sv_u M j (cnt f (M j))) o) := by
  refine sv_ofW (by decide) kw_396 (Nat.le_of_ble_eq_true rfl) ?_
  intro p e s mth args below meth c hr C _
  refine sv_sub (lv' := [(0, .ref (sv_r G 0 j)), (1, .int (nI f))]) rfl ?_
  refine sv_aload_n (i := 0) (x := sv_r G 0 j) C dX3_countSecondOn_0 rfl rfl ?_
  refine sv_iload_n (i := 1) (x := nI f) C dX3_countSecondOn_1 rfl rfl ?_
  refine sv_callV (as := [_]) (rest := []) C (met_lampOf l G _ _ _ j f hj (by omega) b6 b7) fX3_lampOf kw_281 (sv_recv0 C hj) ⟨Nat.le_of_ble_eq_true rfl, Nat.le_of_ble_eq_true rfl⟩ (Nat.le_of_ble_eq_true rfl) dX3_countSecondOn_2 ⟨Nat.zero_le _, Nat.zero_le _⟩  ?_
  refine sv_ri (fun v2 e2 => ?_)
  refine sv_istore_n (i := 2) C [(0, .ref (sv_r G 0 j)), (1, .int (nI f)), (2, .int v2)] dX3_countSecondOn_5 rfl (by decide) rfl ?_
  refine sv_iload_n (i := 2) (x := v2) C dX3_countSecondOn_6 rfl rfl ?_
  refine sv_if_ne C 25 dX3_countSecondOn_7 (by decide) (fun q7 => ?_) (fun q7 => ?_)
  · refine sv_iload_n (i := 2) (x := v2) C dX3_countSecondOn_25 rfl rfl ?_
    refine sv_iconst (v := nI 1) C dX3_countSecondOn_26 (by decide) ?_
    refine sv_icmp_ne C 42 dX3_countSecondOn_27 (by decide) (fun q27 => ?_) (fun q27 => ?_)
    · have q27 : ¬ v2 = 1 := q27
      refine sv_aload_n (i := 0) (x := sv_r G 0 j) C dX3_countSecondOn_42 rfl rfl ?_
      refine sv_dup C dX3_countSecondOn_43 rfl ?_
      refine sv_get_3_6 C hj kw_120 dX3_countSecondOn_44 ?_
      refine sv_topi (fun v44 e44 => ?_)
      refine sv_iconst (v := nI 1) C dX3_countSecondOn_47 (by decide) ?_
      refine sv_iadd C dX3_countSecondOn_48 ?_
      refine sv_topi (fun v48 e48 => ?_)
      refine sv_put_3_6 C hj kw_120 dX3_countSecondOn_49 ?_
      exact sv_vret C hr dX3_countSecondOn_52 (Nat.le_of_ble_eq_true rfl) (Nat.le_of_ble_eq_true rfl) (sv_eqW (by rw [e48, e44]; simp only [sv_wu, sv_us, sv_uu]; unfold cnt; rw [if_neg (fun h => q7 (e2.trans h)), if_neg (fun h => q27 (e2.trans h))]; rfl))
    · have q27 : v2 = 1 := q27
      refine sv_aload_n (i := 0) (x := sv_r G 0 j) C dX3_countSecondOn_30 rfl rfl ?_
      refine sv_get_3_0 C hj kw_108 dX3_countSecondOn_31 ?_
      refine sv_get_0_3 C hj kw_51 dX3_countSecondOn_34 ?_
      refine sv_iload_n (i := 1) (x := nI f) C dX3_countSecondOn_37 rfl rfl ?_
      refine sv_iconst (v := nI 1) C dX3_countSecondOn_38 (by decide) ?_
      refine sv_callN (as := [_, _, _]) (rest := []) C (met_raiseN j (6 * f + 12) rfl rfl (sv_okj (by decide) hj) rfl (by show _ < 8; omega)) fX5_raise (host := "StairLight") kn_RX3_119 ⟨Nat.le_of_ble_eq_true rfl, Nat.le_of_ble_eq_true rfl⟩ (Nat.le_of_ble_eq_true rfl) dX3_countSecondOn_39 ⟨Nat.zero_le _, Nat.zero_le _⟩  ?_
      refine sv_rv ?_
      refine sv_aload_n (i := 0) (x := sv_r G 0 j) C dX3_countSecondOn_42 rfl rfl ?_
      refine sv_dup C dX3_countSecondOn_43 rfl ?_
      refine sv_get_3_6 C hj kw_120 dX3_countSecondOn_44 ?_
      refine sv_topi (fun v44 e44 => ?_)
      refine sv_iconst (v := nI 1) C dX3_countSecondOn_47 (by decide) ?_
      refine sv_iadd C dX3_countSecondOn_48 ?_
      refine sv_topi (fun v48 e48 => ?_)
      refine sv_put_3_6 C hj kw_120 dX3_countSecondOn_49 ?_
      exact sv_vret C hr dX3_countSecondOn_52 (Nat.le_of_ble_eq_true rfl) (Nat.le_of_ble_eq_true rfl) (sv_eqW (by rw [e48, e44]; simp only [sv_wu, sv_us, sv_uu]; unfold cnt; rw [if_neg (fun h => q7 (e2.trans h)), if_pos (e2.symm.trans q27)]; rfl))
  · refine sv_aload_n (i := 0) (x := sv_r G 0 j) C dX3_countSecondOn_10 rfl rfl ?_
    refine sv_get_3_0 C hj kw_108 dX3_countSecondOn_11 ?_
    refine sv_get_0_2 C hj kw_48 dX3_countSecondOn_14 ?_
    refine sv_iload_n (i := 1) (x := nI f) C dX3_countSecondOn_17 rfl rfl ?_
    refine sv_iconst (v := nI 1) C dX3_countSecondOn_18 (by decide) ?_
    refine sv_callN (as := [_, _, _]) (rest := []) C (met_raiseN j (6 * f + 11) rfl rfl (sv_okj (by decide) hj) rfl (by show _ < 8; omega)) fX5_raise (host := "StairLight") kn_RX3_119 ⟨Nat.le_of_ble_eq_true rfl, Nat.le_of_ble_eq_true rfl⟩ (Nat.le_of_ble_eq_true rfl) dX3_countSecondOn_19 ⟨Nat.zero_le _, Nat.zero_le _⟩  ?_
    refine sv_rv ?_
    refine sv_goto C 42 dX3_countSecondOn_22 (by decide) ?_
    refine sv_aload_n (i := 0) (x := sv_r G 0 j) C dX3_countSecondOn_42 rfl rfl ?_
    refine sv_dup C dX3_countSecondOn_43 rfl ?_
    refine sv_get_3_6 C hj kw_120 dX3_countSecondOn_44 ?_
    refine sv_topi (fun v44 e44 => ?_)
    refine sv_iconst (v := nI 1) C dX3_countSecondOn_47 (by decide) ?_
    refine sv_iadd C dX3_countSecondOn_48 ?_
    refine sv_topi (fun v48 e48 => ?_)
    refine sv_put_3_6 C hj kw_120 dX3_countSecondOn_49 ?_
    exact sv_vret C hr dX3_countSecondOn_52 (Nat.le_of_ble_eq_true rfl) (Nat.le_of_ble_eq_true rfl) (sv_eqW (by rw [e48, e44]; simp only [sv_wu, sv_us, sv_uu]; unfold cnt; rw [if_pos (e2.symm.trans q7)]; rfl))

set_option maxHeartbeats 4000000 in
set_option maxRecDepth 100000 in
theorem met_endSecond (l : Launch) (G : sv_G) (z : Nat) (M : sv_M) (o : Int64) (j : Nat) (hj : j < 8) (m : Nat) (hm : M j 57 = nI m) (hm7 : m ≤ 7) (b6 : M j 6 = 0 ∨ M j 6 = 1) (b7 : M j 7 = 0 ∨ M j 7 = 1) (hv : vfl m (M j)) : sv_Met l G yX3_endSecond cX3_endSecond 2 none 3 [.ref (sv_r G 0 j)] (sv_W G z M o) none (sv_W G z (sv_u M j (endv m (M j))) o) := by
  refine sv_ofW (by decide) kw_392 (Nat.le_of_ble_eq_true rfl) ?_
  intro p e s mth args below meth c hr C _
  refine sv_sub (lv' := [(0, .ref (sv_r G 0 j))]) rfl ?_
  refine sv_iconst (v := nI 0) C dX3_endSecond_0 (by decide) ?_
  refine sv_istore_n (i := 1) C [(0, .ref (sv_r G 0 j)), (1, .int (nI 0))] dX3_endSecond_1 rfl (by decide) rfl ?_
  refine sv_wd (sv_eqW (sv_ui _ j).symm) ?_
  refine sv_loop (N := m) (I := fun _ => True) (Wf := fun i => sv_W G z (sv_u M j (fo cntp i (M j))) o) (Lf := fun i => [(0, .ref (sv_r G 0 j)), (1, .int (nI i))]) 0 (Nat.zero_le _) trivial (fun i hi0 hi hI ih => ?_)
  refine sv_iload_n (i := 1) (x := nI i) C dX3_endSecond_2 rfl rfl ?_
  refine sv_aload_n (i := 0) (x := sv_r G 0 j) C dX3_endSecond_3 rfl rfl ?_
  refine sv_get_3_1 C hj kw_110 dX3_endSecond_4 ?_
  refine sv_get_2_4 C hj kw_87 dX3_endSecond_7 ?_
  refine sv_set (v' := .int (nI m)) (congrArg Value.int (by rw [sv_us, focnt_o hv (Or.inr (by decide)) i hi]; exact hm)) ?_
  refine sv_icmp_geN C 34 dX3_endSecond_10 (by decide) (by omega) (by omega) (fun q10 => ?_) (fun q10 => ?_)
  · obtain rfl : i = m := by omega
    refine sv_iconst (v := nI 0) C dX3_endSecond_34 (by decide) ?_
    refine sv_istore_n (i := 1) C [(0, .ref (sv_r G 0 j)), (1, .int (nI 0))] dX3_endSecond_35 rfl (by decide) rfl ?_
    refine sv_loop (N := 8) (I := fun _ => True) (Wf := fun i2 => sv_W G z (sv_u M j (fo fend i2 (fo cntp i (M j)))) o) (Lf := fun i2 => [(0, .ref (sv_r G 0 j)), (1, .int (nI i2))]) 0 (Nat.zero_le _) trivial (fun i2 hi20 hi2 hI2 ih2 => ?_)
    refine sv_iload_n (i := 1) (x := nI i2) C dX3_endSecond_36 rfl rfl ?_
    refine sv_bipush (v := nI 8) C dX3_endSecond_37 (by decide) ?_
    refine sv_icmp_geN C 75 dX3_endSecond_39 (by decide) (by omega) (by omega) (fun q39 => ?_) (fun q39 => ?_)
    · refine sv_aload_n (i := 0) (x := sv_r G 0 j) C dX3_endSecond_75 rfl rfl ?_
      refine sv_dup C dX3_endSecond_76 rfl ?_
      refine sv_get_3_5 C hj kw_118 dX3_endSecond_77 ?_
      refine sv_topi (fun v77 e77 => ?_)
      refine sv_iconst (v := nI 1) C dX3_endSecond_80 (by decide) ?_
      refine sv_iadd C dX3_endSecond_81 ?_
      refine sv_topi (fun v81 e81 => ?_)
      refine sv_put_3_5 C hj kw_118 dX3_endSecond_82 ?_
      exact sv_vret C hr dX3_endSecond_85 (Nat.le_of_ble_eq_true rfl) (Nat.le_of_ble_eq_true rfl) (sv_eqW (by rw [e81, e77, show i2 = 8 from by omega]; simp only [sv_wu, sv_us, sv_uu]; rfl))
    · refine sv_aload_n (i := 0) (x := sv_r G 0 j) C dX3_endSecond_42 rfl rfl ?_
      refine sv_get_3_0 C hj kw_108 dX3_endSecond_43 ?_
      refine sv_get_0_4 C hj kw_54 dX3_endSecond_46 ?_
      refine sv_iload_n (i := 1) (x := nI i2) C dX3_endSecond_49 rfl rfl ?_
      refine sv_aload_n (i := 0) (x := sv_r G 0 j) C dX3_endSecond_50 rfl rfl ?_
      refine sv_iload_n (i := 1) (x := nI i2) C dX3_endSecond_51 rfl rfl ?_
      refine sv_callV (as := [_]) (rest := [_, _]) C (met_lampOf l G _ _ _ j i2 hj (by omega) (by rw [sv_us, fofend_o (Or.inl (by decide)) i2 hi2, focnt_o hv (Or.inl (by decide)) i hi]; exact b6) (by rw [sv_us, fofend_o (Or.inl (by decide)) i2 hi2, focnt_o hv (Or.inl (by decide)) i hi]; exact b7)) fX3_lampOf kw_281 (sv_recv0 C hj) ⟨Nat.le_of_ble_eq_true rfl, Nat.le_of_ble_eq_true rfl⟩ (Nat.le_of_ble_eq_true rfl) dX3_endSecond_52 ⟨Nat.zero_le _, Nat.zero_le _⟩  ?_
      refine sv_ri (fun v52 e52 => ?_)
      refine sv_callS (as := [_]) (rest := [_, _]) C (met_powerOf l G _ v52) fX3_powerOf kw_398 ⟨Nat.le_of_ble_eq_true rfl, Nat.le_of_ble_eq_true rfl⟩ (Nat.le_of_ble_eq_true rfl) dX3_endSecond_55 ⟨Nat.zero_le _, Nat.zero_le _⟩  ?_
      refine sv_ri (fun v55 e55 => ?_)
      refine sv_callN (as := [_, _, _]) (rest := []) C (met_raiseN j (6 * i2 + 13) rfl rfl (sv_okj (by decide) hj) rfl (by show _ < 8; omega)) fX5_raise (host := "StairLight") kn_RX3_119 ⟨Nat.le_of_ble_eq_true rfl, Nat.le_of_ble_eq_true rfl⟩ (Nat.le_of_ble_eq_true rfl) dX3_endSecond_58 ⟨Nat.zero_le _, Nat.zero_le _⟩  ?_
      refine sv_rv ?_
      refine sv_aload_n (i := 0) (x := sv_r G 0 j) C dX3_endSecond_61 rfl rfl ?_
      refine sv_get_3_0 C hj kw_108 dX3_endSecond_62 ?_
      refine sv_iload_n (i := 1) (x := nI i2) C dX3_endSecond_65 rfl rfl ?_
      refine sv_callV (as := [_]) (rest := []) C (met_burnDown l G _ _ _ j i2 hj (by omega)) fX0_burnDown kw_401 (sv_recv1 C hj) ⟨Nat.le_of_ble_eq_true rfl, Nat.le_of_ble_eq_true rfl⟩ (Nat.le_of_ble_eq_true rfl) dX3_endSecond_66 ⟨Nat.zero_le _, Nat.zero_le _⟩  ?_
      refine sv_rv ?_
      refine sv_iinc (i := 1) (x := nI i2) C (nI (i2 + 1)) [(0, .ref (sv_r G 0 j)), (1, .int (nI (i2 + 1)))] dX3_endSecond_69 rfl (sv_incN i2 1) (by decide) rfl ?_
      refine sv_goto C 36 dX3_endSecond_72 (by decide) ?_
      refine sv_wd (sv_eqW ?_) (ih2 (by omega) trivial)
      rw [e55, e52]
      simp only [sv_wu, sv_us, sv_uu]
      rfl
  · refine sv_aload_n (i := 0) (x := sv_r G 0 j) C dX3_endSecond_13 rfl rfl ?_
    refine sv_aload_n (i := 0) (x := sv_r G 0 j) C dX3_endSecond_14 rfl rfl ?_
    refine sv_get_3_1 C hj kw_110 dX3_endSecond_15 ?_
    refine sv_get_2_1 C hj kw_80 dX3_endSecond_18 ?_
    refine sv_iload_n (i := 1) (x := nI i) C dX3_endSecond_21 rfl rfl ?_
    obtain ⟨f, hf, ef⟩ := hv i (by omega)
    refine sv_callN (as := [_, _]) (rest := [_]) C (met_atN j (4 * i + 59) rfl rfl (sv_okj (by decide) hj) rfl (by show _ < 7; omega)) fX5_at (host := "StairLight") kn_RX3_57 ⟨Nat.le_of_ble_eq_true rfl, Nat.le_of_ble_eq_true rfl⟩ (Nat.le_of_ble_eq_true rfl) dX3_endSecond_22 ⟨Nat.zero_le _, Nat.zero_le _⟩  ?_
    refine sv_riN f (by rw [sv_us, focnt_o hv (Or.inr (by omega)) i hi]; exact ef) ?_
    refine sv_callV (as := [_]) (rest := []) C (met_countSecondOn l G _ _ _ j f hj hf (by rw [sv_us, focnt_o hv (Or.inl (by decide)) i hi]; exact b6) (by rw [sv_us, focnt_o hv (Or.inl (by decide)) i hi]; exact b7)) fX3_countSecondOn kw_393 (sv_recv0 C hj) ⟨Nat.le_of_ble_eq_true rfl, Nat.le_of_ble_eq_true rfl⟩ (Nat.le_of_ble_eq_true rfl) dX3_endSecond_25 ⟨Nat.zero_le _, Nat.zero_le _⟩  ?_
    refine sv_rv ?_
    refine sv_iinc (i := 1) (x := nI i) C (nI (i + 1)) [(0, .ref (sv_r G 0 j)), (1, .int (nI (i + 1)))] dX3_endSecond_28 rfl (sv_incN i 1) (by decide) rfl ?_
    refine sv_goto C 2 dX3_endSecond_31 (by decide) ?_
    refine sv_wd (sv_eqW ?_) (ih (by omega) trivial)
    rw [sv_us, sv_uu, fo_succ]
    show _ = sv_u M j (cnt (fo cntp i (M j) (4 * i + 59)).toNatClampNeg _)
    rw [focnt_o hv (Or.inr (by omega)) i hi, ef, nI_clamp (by omega)]
end
section
/-! what holds of stairs at every time: people on floors, going to floors; a second keeps it -/
def vrow (x : vX) (p : Nat) : Prop := (∃ f, f < 8 ∧ x (4 * p + 59) = nI f) ∧ ∃ g, g < 8 ∧ x (4 * p + 60) = nI g
def vd (x : vX) : Prop := ∃ m, m ≤ 7 ∧ x 57 = nI m ∧ (x 6 = 0 ∨ x 6 = 1) ∧ (x 7 = 0 ∨ x 7 = 1) ∧ ∀ p, p < m → vrow x p
def secv (x : vX) : vX := endv (many (beginv (many x) x)) (beginv (many x) x)
def passv (n : Nat) (x : vX) : vX := fo (fun _ => secv) n x
theorem many_eq {x : vX} {m : Nat} (h : x 57 = nI m) (hm : m ≤ 7) : many x = m := by
  unfold many
  rw [h, nI_clamp (by omega)]
theorem vrow_of {x y : vX} {p q : Nat} (h : vrow x p) (h1 : y (4 * q + 59) = x (4 * p + 59)) (h2 : y (4 * q + 60) = x (4 * p + 60)) : vrow y q := by
  unfold vrow
  rw [h1, h2]
  exact h
theorem wkv_row {T : Int32} {p : Nat} {x : vX} (h : vrow x p) (hne : ¬ x (4 * p + 59) = x (4 * p + 60)) : vrow (wkv T p x) p := by
  obtain ⟨⟨f, hf, ef⟩, g, hg, eg⟩ := h
  have e2 : wkv T p x (4 * p + 60) = nI g := by rw [wkv_o (by omega) (by omega), eg]
  refine ⟨?_, g, hg, e2⟩
  unfold wkv
  split
  · rw [upd_n (by omega), upd_s, ef, eg]
    have hfg : f ≠ g := fun e => hne (by rw [ef, eg, e])
    by_cases h3 : nI g ≤ nI f
    · have h4 := (nI_leI (by omega) (by omega)).mp h3
      obtain ⟨f', rfl⟩ : ∃ f', f = f' + 1 := ⟨f - 1, by omega⟩
      exact ⟨f', by omega, by rw [if_pos h3, pk_m1]⟩
    · have h4 : ¬ g ≤ f := fun h => h3 ((nI_leI (by omega) (by omega)).mpr h)
      exact ⟨f + 1, by omega, by rw [if_neg h3, nI_1]⟩
  · exact ⟨f, hf, by rw [upd_n (by omega), ef]⟩
theorem mvv_59 {p s : Nat} {x : vX} : mvv p s x (4 * s + 59) = x (4 * p + 59) := by
  unfold mvv
  rw [upd_n (by omega), upd_n (by omega), upd_s]
theorem mvv_60 {p s : Nat} {x : vX} : mvv p s x (4 * s + 60) = x (4 * p + 60) := by
  unfold mvv
  rw [upd_n (by omega), upd_s]
theorem mvv_58 {p s : Nat} {x : vX} : mvv p s x (4 * s + 58) = x (4 * p + 58) := by
  unfold mvv
  rw [upd_n (by omega), upd_n (by omega), upd_n (by omega), upd_s]
theorem mvv_61 {p s : Nat} {x : vX} : mvv p s x (4 * s + 61) = x (4 * p + 61) := by
  unfold mvv
  rw [upd_s]
theorem goS_vrow {T : Int32} {x : vX} {m : Nat} (hv : ∀ p, p < m → vrow x p) : ∀ n, n ≤ m → ∀ q, q < m → (q < (goS T n x).2 ∨ n ≤ q) → vrow (goS T n x).1 q
  | 0, _ => fun q hq _ => hv q hq
  | n + 1, hn => by
    intro q hq hc
    have ih := goS_vrow (T := T) hv n (by omega)
    have hle := goS_le T x n
    have e : goS T (n + 1) x = goB T n (goS T n x) := rfl
    rw [e] at hc ⊢
    unfold goB at hc ⊢
    by_cases ht : (goS T n x).1 (4 * n + 59) = (goS T n x).1 (4 * n + 60)
    · rw [if_pos ht] at hc ⊢
      exact ih q hq (by omega)
    · rw [if_neg ht] at hc ⊢
      dsimp only at hc ⊢
      by_cases hs : q = (goS T n x).2
      · rw [hs]
        exact vrow_of (wkv_row (T := T) (ih n (by omega) (Or.inr (Nat.le_refl _))) ht) mvv_59 mvv_60
      · have hq2 : q < (goS T n x).2 ∨ n < q := by omega
        refine vrow_of (ih q hq (by omega)) ?_ ?_
        · rw [mvv_o (by omega), wkv_o (by omega) (by omega)]
        · rw [mvv_o (by omega), wkv_o (by omega) (by omega)]
theorem beginv_57 {x : vX} {m : Nat} : beginv m x 57 = nI (goS (x 3) m x).2 := by
  unfold beginv
  rw [fola_o (Or.inr (by decide)) 8 (by decide)]
  exact upd_s _ _ _
theorem beginv_lo {x : vX} {m k : Nat} (h : k < 9) : beginv m x k = x k := by
  unfold beginv goOnv
  rw [fola_o (Or.inl h) 8 (by decide), upd_n (by omega), goS_o _ _ _ (by omega)]
theorem beginv_hi {x : vX} {m k : Nat} (h : 58 ≤ k) : beginv m x k = (goS (x 3) m x).1 k := by
  unfold beginv goOnv
  rw [fola_o (Or.inr (by omega)) 8 (by decide), upd_n (by omega)]
theorem vd_begin {x : vX} {m : Nat} (hm7 : m ≤ 7) (hv : ∀ p, p < m → vrow x p) : ∀ p, p < (goS (x 3) m x).2 → vrow (beginv m x) p := by
  intro p hp
  have hle := goS_le (x 3) x m
  exact vrow_of (goS_vrow (T := x 3) hv m (Nat.le_refl _) p (by omega) (Or.inl hp)) (beginv_hi (by omega)) (beginv_hi (by omega))
theorem vfl_of {x : vX} {m : Nat} (h : ∀ p, p < m → vrow x p) : vfl m x := fun p hp => (h p hp).1
theorem endv_o {x : vX} {m k : Nat} (hv : vfl m x) (h : (k < 8 ∧ k ≠ 4) ∨ 57 ≤ k) : endv m x k = x k := by
  unfold endv
  show upd _ 4 _ k = x k
  rw [upd_n (by omega), fofend_o (by omega) 8 (by decide), focnt_o hv (by omega) m (Nat.le_refl _)]
theorem vd_end {x : vX} {m : Nat} (h : m ≤ 7 ∧ x 57 = nI m ∧ (x 6 = 0 ∨ x 6 = 1) ∧ (x 7 = 0 ∨ x 7 = 1) ∧ ∀ p, p < m → vrow x p) : vd (endv m x) := by
  obtain ⟨h1, h2, h3, h4, h5⟩ := h
  have hv := vfl_of h5
  refine ⟨m, h1, by rw [endv_o hv (by omega)]; exact h2, by rw [endv_o hv (by omega)]; exact h3, by rw [endv_o hv (by omega)]; exact h4, fun p hp => vrow_of (h5 p hp) (endv_o hv (by omega)) (endv_o hv (by omega))⟩
theorem vd_mid {x : vX} (h : vd x) : many (beginv (many x) x) ≤ 7 ∧ beginv (many x) x 57 = nI (many (beginv (many x) x)) ∧ (beginv (many x) x 6 = 0 ∨ beginv (many x) x 6 = 1) ∧ (beginv (many x) x 7 = 0 ∨ beginv (many x) x 7 = 1) ∧ ∀ p, p < many (beginv (many x) x) → vrow (beginv (many x) x) p := by
  obtain ⟨m, h1, h2, h3, h4, h5⟩ := h
  have hm := many_eq h2 h1
  rw [hm]
  have hle := goS_le (x 3) x m
  have h9 : many (beginv m x) = (goS (x 3) m x).2 := many_eq beginv_57 (by omega)
  rw [h9]
  exact ⟨by omega, beginv_57, by rw [beginv_lo (by omega)]; exact h3, by rw [beginv_lo (by omega)]; exact h4, vd_begin h1 h5⟩
theorem vd_sec {x : vX} (h : vd x) : vd (secv x) := vd_end (vd_mid h)
theorem vd_pass {x : vX} (h : vd x) : ∀ n, vd (passv n x)
  | 0 => h
  | n + 1 => vd_sec (vd_pass h n)
theorem vd_many {x : vX} (h : vd x) : x 57 = nI (many x) ∧ many x ≤ 7 ∧ (x 6 = 0 ∨ x 6 = 1) ∧ (x 7 = 0 ∨ x 7 = 1) ∧ vfl (many x) x := by
  obtain ⟨m, h1, h2, h3, h4, h5⟩ := h
  rw [many_eq h2 h1]
  exact ⟨h2, h1, h3, h4, vfl_of h5⟩
def dks (x : vX) : Int32 := smI (fun f => x (6 * f + 11)) 8
def dms (x : vX) : Int32 := smI (fun f => x (6 * f + 12)) 8
def eng (x : vX) : Int32 := smI (fun f => x (6 * f + 13)) 8
def snd8 (x : vX) : Int32 := smI (fun f => x (6 * f + 10)) 8
end
section
/-! numbers that no cell shows; a copy is the thing copied -/
theorem sv_i_lt {c j i : Nat} (hok : sv_ok c j = true) (hr : sv_ir c = true ∨ c = 18) (hi : i < sv_n c) : sv_q c j < 8 → sv_i c i < 86 := by
  simp only [sv_ok, sv_ir, Bool.or_eq_true, Bool.and_eq_true, decide_eq_true_eq] at hok hr
  unfold sv_q sv_i
  unfold sv_n at hi
  by_cases h1 : c < 8
  · rw [if_pos h1] at hi ⊢
    omega
  · rw [if_neg h1] at hi ⊢
    by_cases h2 : c < 13
    · rw [if_pos h2] at hi ⊢
      omega
    · rw [if_neg h2] at hi ⊢
      by_cases h3 : c = 13
      · rw [if_pos h3] at hi
        omega
      · rw [if_neg (show ¬ c < 14 by omega)]
        by_cases h4 : c = 18
        · rw [if_pos h4]
          omega
        · rw [if_neg h4]
          omega
theorem sv_W.ext {G : sv_G} {z : Nat} {M M' : sv_M} {o : Int64} {H : Heap} (e : ∀ q i, (q < 8 → i < 86) → M' q i = M q i) (h : sv_W G z M o H) : sv_W G z M' o H := by
  refine ⟨h.1, h.2.1, fun c j hok => ?_⟩
  have h9 := h.2.2 c j hok
  rcases sv_kinds hok with hc | rfl | rfl | rfl | rfl | rfl | rfl | rfl
  · exact sv_at_rows hc (fun i hi => e _ _ (sv_i_lt hok hc hi)) h9
  · rw [sv_e0] at h9 ⊢
    rw [e j 6 (fun _ => by decide), e j 7 (fun _ => by decide), e j 4 (fun _ => by decide), e j 8 (fun _ => by decide)]
    exact h9
  · exact h9
  · rw [sv_e8] at h9 ⊢
    rw [e j 57 (fun _ => by decide), e j 5 (fun _ => by decide)]
    exact h9
  · exact h9
  · rw [sv_e15] at h9 ⊢
    rw [e 8 0 (fun _ => by decide), e 8 1 (fun _ => by decide)]
    exact h9
  · exact h9
  · rw [sv_e17] at h9 ⊢
    rw [e 9 60 (fun h => absurd h (by decide))]
    exact h9
theorem cpR_keep {c : Nat} {x y : vX} {k : Nat} (h : y k = x k) : ∀ n, cpR c n x y k = x k
  | 0 => h
  | n + 1 => by
    show upd (cpR c n x y) (sv_i c n) (x (sv_i c n)) k = x k
    by_cases hk : k = sv_i c n
    · rw [hk, upd_s]
    · rw [upd_n hk, cpR_keep h n]
theorem cpR_in {c : Nat} {x y : vX} {i : Nat} : ∀ n, i < n → cpR c n x y (sv_i c i) = x (sv_i c i)
  | 0, h => absurd h (Nat.not_lt_zero i)
  | n + 1, h => by
    show upd (cpR c n x y) (sv_i c n) (x (sv_i c n)) (sv_i c i) = x (sv_i c i)
    by_cases hk : sv_i c i = sv_i c n
    · rw [hk, upd_s]
    · rw [upd_n hk, cpR_in n (by
        rcases Nat.lt_or_ge i n with q | q
        · exact q
        · exact absurd (congrArg (sv_i c) (show i = n by omega)) hk)]
theorem upd_keep {x y : vX} {i k : Nat} (h : y k = x k) : upd y i (x i) k = x k := by
  by_cases hk : k = i
  · rw [hk, upd_s]
  · rw [upd_n hk, h]
theorem cpF_keep {x y : vX} {k : Nat} (h : y k = x k) : cpF x y k = x k := by
  unfold cpF
  exact cpR_keep (cpR_keep (cpR_keep (cpR_keep (cpR_keep (cpR_keep h 8) 8) 8) 8) 8) 8
theorem cpF_in {x y : vX} {k : Nat} (h : 9 ≤ k) (h2 : k < 57) : cpF x y k = x k := by
  have e : ∀ c, 2 ≤ c → c < 8 → (k - 9) % 6 = c - 2 → k = sv_i c ((k - 9) / 6) := by
    intro c h1 h3 h4
    unfold sv_i
    rw [if_pos h3]
    omega
  have hd : (k - 9) / 6 < 8 := by omega
  unfold cpF
  rcases (show (k - 9) % 6 = 0 ∨ (k - 9) % 6 = 1 ∨ (k - 9) % 6 = 2 ∨ (k - 9) % 6 = 3 ∨ (k - 9) % 6 = 4 ∨ (k - 9) % 6 = 5 by omega) with h4 | h4 | h4 | h4 | h4 | h4
  · exact cpR_keep (cpR_keep (cpR_keep (cpR_keep (cpR_keep (by rw [e 2 (by decide) (by decide) h4]; exact cpR_in 8 hd) 8) 8) 8) 8) 8
  · exact cpR_keep (cpR_keep (cpR_keep (cpR_keep (by rw [e 3 (by decide) (by decide) h4]; exact cpR_in 8 hd) 8) 8) 8) 8
  · exact cpR_keep (cpR_keep (cpR_keep (by rw [e 4 (by decide) (by decide) h4]; exact cpR_in 8 hd) 8) 8) 8
  · exact cpR_keep (cpR_keep (by rw [e 5 (by decide) (by decide) h4]; exact cpR_in 8 hd) 8) 8
  · exact cpR_keep (by rw [e 6 (by decide) (by decide) h4]; exact cpR_in 8 hd) 8
  · rw [e 7 (by decide) (by decide) h4]; exact cpR_in 8 hd
theorem cpP_keep {x y : vX} {k : Nat} (h : y k = x k) : cpP x y k = x k := by
  unfold cpP
  exact upd_keep (upd_keep (cpR_keep (cpR_keep (cpR_keep (cpR_keep h 7) 7) 7) 7))
theorem cpP_in {x y : vX} {k : Nat} (h : 58 ≤ k) (h2 : k < 86) : cpP x y k = x k := by
  have e : ∀ c, 9 ≤ c → c < 13 → (k - 58) % 4 = c - 9 → k = sv_i c ((k - 58) / 4) := by
    intro c h1 h3 h4
    unfold sv_i
    rw [if_neg (by omega), if_pos h3]
    omega
  have hd : (k - 58) / 4 < 7 := by omega
  unfold cpP
  rcases (show (k - 58) % 4 = 0 ∨ (k - 58) % 4 = 1 ∨ (k - 58) % 4 = 2 ∨ (k - 58) % 4 = 3 by omega) with h4 | h4 | h4 | h4
  · exact upd_keep (upd_keep (cpR_keep (cpR_keep (cpR_keep (by rw [e 9 (by decide) (by decide) h4]; exact cpR_in 7 hd) 7) 7) 7))
  · exact upd_keep (upd_keep (cpR_keep (cpR_keep (by rw [e 10 (by decide) (by decide) h4]; exact cpR_in 7 hd) 7) 7))
  · exact upd_keep (upd_keep (cpR_keep (by rw [e 11 (by decide) (by decide) h4]; exact cpR_in 7 hd) 7))
  · exact upd_keep (upd_keep (by rw [e 12 (by decide) (by decide) h4]; exact cpR_in 7 hd))
theorem cpS_eq {x y : vX} {k : Nat} (h : k < 86) : cpS x y k = x k := by
  unfold cpS
  rcases Nat.lt_or_ge k 9 with h1 | h1
  · rcases (show k = 8 ∨ k = 4 ∨ k = 7 ∨ k = 6 ∨ k = 5 ∨ k < 4 by omega) with rfl | rfl | rfl | rfl | rfl | h2
    · exact upd_s _ _ _
    · exact upd_keep (upd_s _ _ _)
    · exact upd_keep (upd_keep (upd_s _ _ _))
    · exact upd_keep (upd_keep (upd_keep (upd_s _ _ _)))
    · exact upd_keep (upd_keep (upd_keep (upd_keep (cpR_keep (by unfold cpP; exact upd_s _ _ _) 4))))
    · have e : k = sv_i 13 k := rfl
      exact upd_keep (upd_keep (upd_keep (upd_keep (by rw [e]; exact cpR_in 4 h2))))
  · refine upd_keep (upd_keep (upd_keep (upd_keep (cpR_keep ?_ 4))))
    rcases Nat.lt_or_ge k 57 with h2 | h2
    · exact cpP_keep (cpF_in h1 h2)
    · rcases (show k = 57 ∨ 58 ≤ k by omega) with rfl | h3
      · unfold cpP
        exact upd_keep (upd_s _ _ _)
      · exact cpP_in h3 h
theorem sv_W.cpS {G : sv_G} {z : Nat} {M : sv_M} {o : Int64} {H : Heap} {j1 j2 : Nat} (hj : j2 < 8) (h : sv_W G z (sv_u M j2 (cpS (M j1) (M j2))) o H) : sv_W G z (sv_u M j2 (M j1)) o H := by
  refine h.ext (fun q i hq => ?_)
  by_cases e : q = j2
  · subst e
    rw [sv_us, sv_us, cpS_eq (hq hj)]
  · rw [sv_un e, sv_un e]
theorem sv_Met_post {l : Launch} {G : sv_G} {y : MethodName} {b : ByteArray} {maxL : Nat} {ret : Option FieldType} {d : Nat} {as : List Value} {Wd Wd' Wd2 : Heap → Prop} {r : Option Value} (h : sv_Met l G y b maxL ret d as Wd r Wd') (hw : ∀ H, Wd' H → Wd2 H) : sv_Met l G y b maxL ret d as Wd r Wd2 :=
  MetFree.mono h (fun _ _ h => h) (fun _ _ _ _ _ h => h) (fun _ _ _ _ _ q => ⟨⟨q.1.1, hw _ q.1.2.1, q.1.2.2⟩, q.2⟩)
/-- the trial stairs hold anything -/
def sv_W1 (G : sv_G) (z : Nat) (M : sv_M) (o : Int64) (H : Heap) : Prop := ∃ y : vX, sv_W G z (sv_u M 1 y) o H
theorem sv_W1_of {G : sv_G} {z : Nat} {M : sv_M} {o : Int64} {y : vX} : ∀ H, sv_W G z (sv_u M 1 y) o H → sv_W1 G z M o H := fun _ h => ⟨y, h⟩
theorem sv_W1_id {G : sv_G} {z : Nat} {M : sv_M} {o : Int64} : ∀ H, sv_W G z M o H → sv_W1 G z M o H := fun _ h => ⟨M 1, by rw [sv_ui]; exact h⟩
theorem sv_W1_1 {G : sv_G} {z : Nat} {M : sv_M} {o : Int64} {y : vX} : ∀ H, sv_W1 G z (sv_u M 1 y) o H → sv_W1 G z M o H := fun _ ⟨x, h⟩ => ⟨x, by rw [sv_uu] at h; exact h⟩
section SVZ
variable {p : Program} {l : Launch} {e : Env} {R : Room} {s : State} {m : MethodId} {args : Array Value} {below : List Frame} {meth : Method} {c : Code} {k n nL : Nat} {Q : State → Prop} {G : sv_G} {pc : Nat} {lv : List (Nat × Value)} {st : List Value} {z : Nat} {M : sv_M} {o : Int64}
theorem sv_exW (kk : ∀ y : vX, sv_V p l e R s m args below meth c nL G Q k n (sv_W G z (sv_u M 1 y) o) pc lv st) : sv_V p l e R s m args below meth c nL G Q k n (sv_W1 G z M o) pc lv st := fun H locs ls h1 h2 h3 => by
  obtain ⟨y, hy⟩ := h1
  exact kk y H locs ls hy h2 h3
end SVZ
end
section
set_option maxHeartbeats 4000000 in
set_option maxRecDepth 100000 in
theorem met_letPass (l : Launch) (G : sv_G) (z : Nat) (M : sv_M) (o : Int64) (j : Nat) (hj : j < 8) (hv : vd (M j)) (t : Nat) (ht : t < 2147483648) : sv_Met l G yX3_letPass cX3_letPass 4 (some .int) 6 [.ref (sv_r G 0 j), .int (nI t)] (sv_W G z M o) (some (.int (dks (passv t (M j)) - dks (M j)))) (sv_W G z (sv_u M j (passv t (M j))) o) := by
  refine sv_ofW (by decide) kw_350 (Nat.le_of_ble_eq_true rfl) ?_
  intro p e s mth args below meth c hr C _
  refine sv_sub (lv' := [(0, .ref (sv_r G 0 j)), (1, .int (nI t))]) rfl ?_
  refine sv_aload_n (i := 0) (x := sv_r G 0 j) C dX3_letPass_0 rfl rfl ?_
  refine sv_get_3_0 C hj kw_108 dX3_letPass_1 ?_
  refine sv_get_0_2 C hj kw_48 dX3_letPass_4 ?_
  refine sv_callN (as := [_]) (rest := []) C (met_sumOf l G _ _ _ 4 j (sv_okj (by decide) hj) rfl) fX5_sumOf (host := "StairLight") kn_RX3_83 ⟨Nat.le_of_ble_eq_true rfl, Nat.le_of_ble_eq_true rfl⟩ (Nat.le_of_ble_eq_true rfl) dX3_letPass_7 ⟨Nat.zero_le _, Nat.zero_le _⟩  ?_
  refine sv_riS (dks (M j)) rfl ?_
  refine sv_istore_n (i := 2) C [(0, .ref (sv_r G 0 j)), (1, .int (nI t)), (2, .int (dks (M j)))] dX3_letPass_10 rfl (by decide) rfl ?_
  refine sv_iconst (v := nI 0) C dX3_letPass_11 (by decide) ?_
  refine sv_istore_n (i := 3) C [(0, .ref (sv_r G 0 j)), (1, .int (nI t)), (2, .int (dks (M j))), (3, .int (nI 0))] dX3_letPass_12 rfl (by decide) rfl ?_
  refine sv_wd (sv_eqW (sv_ui _ j).symm) ?_
  refine sv_loop (N := t) (I := fun _ => True) (Wf := fun i => sv_W G z (sv_u M j (passv i (M j))) o) (Lf := fun i => [(0, .ref (sv_r G 0 j)), (1, .int (nI t)), (2, .int (dks (M j))), (3, .int (nI i))]) 0 (Nat.zero_le _) trivial (fun i hi0 hi hI ih => ?_)
  refine sv_iload_n (i := 3) (x := nI i) C dX3_letPass_13 rfl rfl ?_
  refine sv_iload_n (i := 1) (x := nI t) C dX3_letPass_14 rfl rfl ?_
  refine sv_icmp_geN C 32 dX3_letPass_15 (by decide) (by omega) (by omega) (fun q15 => ?_) (fun q15 => ?_)
  · refine sv_aload_n (i := 0) (x := sv_r G 0 j) C dX3_letPass_32 rfl rfl ?_
    refine sv_get_3_0 C hj kw_108 dX3_letPass_33 ?_
    refine sv_get_0_2 C hj kw_48 dX3_letPass_36 ?_
    obtain rfl : i = t := by omega
    refine sv_callN (as := [_]) (rest := []) C (met_sumOf l G _ _ _ 4 j (sv_okj (by decide) hj) rfl) fX5_sumOf (host := "StairLight") kn_RX3_83 ⟨Nat.le_of_ble_eq_true rfl, Nat.le_of_ble_eq_true rfl⟩ (Nat.le_of_ble_eq_true rfl) dX3_letPass_39 ⟨Nat.zero_le _, Nat.zero_le _⟩  ?_
    refine sv_riS (dks (passv i (M j))) (by show smI (fun f => sv_u M j (passv i (M j)) j (6 * f + 11)) 8 = _; rw [sv_us]; rfl) ?_
    refine sv_iload_n (i := 2) (x := dks (M j)) C dX3_letPass_42 rfl rfl ?_
    refine sv_isub C dX3_letPass_43 ?_
    refine sv_topi (fun v43 e43 => ?_)
    exact sv_iret C hr dX3_letPass_44 (Nat.le_of_ble_eq_true rfl) (Nat.le_of_ble_eq_true rfl) e43 (fun _ h => h)
  · refine sv_aload_n (i := 0) (x := sv_r G 0 j) C dX3_letPass_18 rfl rfl ?_
    have hvi := vd_pass hv i
    have hma := vd_many hvi
    have hmi := vd_mid hvi
    refine sv_callV (as := []) (rest := []) C (met_beginSecond l G _ _ _ j hj (many (passv i (M j))) (by rw [sv_us]; exact hma.1) (by exact hma.2.1)) fX3_beginSecond kw_352 (sv_recv0 C hj) ⟨Nat.le_of_ble_eq_true rfl, Nat.le_of_ble_eq_true rfl⟩ (Nat.le_of_ble_eq_true rfl) dX3_letPass_19 ⟨Nat.zero_le _, Nat.zero_le _⟩  ?_
    refine sv_rv ?_
    refine sv_aload_n (i := 0) (x := sv_r G 0 j) C dX3_letPass_22 rfl rfl ?_
    refine sv_callV (as := []) (rest := []) C (met_endSecond l G _ _ _ j hj (many (beginv (many (passv i (M j))) (passv i (M j)))) (by simp only [sv_us]; exact hmi.2.1) hmi.1 (by simp only [sv_us]; exact hmi.2.2.1) (by simp only [sv_us]; exact hmi.2.2.2.1) (by simp only [sv_us]; exact vfl_of hmi.2.2.2.2)) fX3_endSecond kw_389 (sv_recv0 C hj) ⟨Nat.le_of_ble_eq_true rfl, Nat.le_of_ble_eq_true rfl⟩ (Nat.le_of_ble_eq_true rfl) dX3_letPass_23 ⟨Nat.zero_le _, Nat.zero_le _⟩  ?_
    refine sv_rv ?_
    refine sv_iinc (i := 3) (x := nI i) C (nI (i + 1)) [(0, .ref (sv_r G 0 j)), (1, .int (nI t)), (2, .int (dks (M j))), (3, .int (nI (i + 1)))] dX3_letPass_26 rfl (sv_incN i 1) (by decide) rfl ?_
    refine sv_goto C 13 dX3_letPass_29 (by decide) ?_
    refine sv_wd (sv_eqW ?_) (ih (by omega) trivial)
    simp only [sv_us, sv_uu]
    rfl


/-- the share of light seconds, as the class makes it -/
def lsh (x : vX) : UInt64 := if 0 < x 8 then FP.ddiv (FP.i2d (x 8 - dks x - dms x)) (FP.i2d (x 8)) else FP.dconst1
set_option maxHeartbeats 4000000 in
set_option maxRecDepth 100000 in
theorem met_lightShare (l : Launch) (G : sv_G) (z : Nat) (M : sv_M) (o : Int64) (j : Nat) (hj : j < 8) (hn : 0 < M j 8 → vf_n64 (FP.ddiv (FP.i2d (M j 8 - dks (M j) - dms (M j))) (FP.i2d (M j 8)))) : sv_Met l G yX3_lightShare cX3_lightShare 2 (some .double) 1 [.ref (sv_r G 0 j)] (sv_W G z M o) (some (.double (lsh (M j)))) (sv_W G z M o) := by
  refine sv_ofW (by decide) kw_472 (Nat.le_of_ble_eq_true rfl) ?_
  intro p e s mth args below meth c hr C _
  refine sv_sub (lv' := [(0, .ref (sv_r G 0 j))]) rfl ?_
  refine sv_aload_n (i := 0) (x := sv_r G 0 j) C dX3_lightShare_0 rfl rfl ?_
  refine sv_get_3_6 C hj kw_120 dX3_lightShare_1 ?_
  refine sv_set (v' := .int (M j 8)) (congrArg Value.int rfl) ?_
  refine sv_if_gt C 9 dX3_lightShare_4 (by decide) (fun q4 => ?_) (fun q4 => ?_)
  · refine sv_aload_n (i := 0) (x := sv_r G 0 j) C dX3_lightShare_9 rfl rfl ?_
    refine sv_get_3_6 C hj kw_120 dX3_lightShare_10 ?_
    refine sv_set (v' := .int (M j 8)) (congrArg Value.int rfl) ?_
    refine sv_aload_n (i := 0) (x := sv_r G 0 j) C dX3_lightShare_13 rfl rfl ?_
    refine sv_get_3_0 C hj kw_108 dX3_lightShare_14 ?_
    refine sv_get_0_2 C hj kw_48 dX3_lightShare_17 ?_
    refine sv_callN (as := [_]) (rest := [_]) C (met_sumOf l G _ _ _ 4 j (sv_okj (by decide) hj) rfl) fX5_sumOf (host := "StairLight") kn_RX3_83 ⟨Nat.le_of_ble_eq_true rfl, Nat.le_of_ble_eq_true rfl⟩ (Nat.le_of_ble_eq_true rfl) dX3_lightShare_20 ⟨Nat.zero_le _, Nat.zero_le _⟩  ?_
    refine sv_riS (dks (M j)) rfl ?_
    refine sv_isub C dX3_lightShare_23 ?_
    refine sv_set (v' := .int (M j 8 - dks (M j))) (congrArg Value.int rfl) ?_
    refine sv_aload_n (i := 0) (x := sv_r G 0 j) C dX3_lightShare_24 rfl rfl ?_
    refine sv_get_3_0 C hj kw_108 dX3_lightShare_25 ?_
    refine sv_get_0_3 C hj kw_51 dX3_lightShare_28 ?_
    refine sv_callN (as := [_]) (rest := [_]) C (met_sumOf l G _ _ _ 5 j (sv_okj (by decide) hj) rfl) fX5_sumOf (host := "StairLight") kn_RX3_83 ⟨Nat.le_of_ble_eq_true rfl, Nat.le_of_ble_eq_true rfl⟩ (Nat.le_of_ble_eq_true rfl) dX3_lightShare_31 ⟨Nat.zero_le _, Nat.zero_le _⟩  ?_
    refine sv_riS (dms (M j)) rfl ?_
    refine sv_isub C dX3_lightShare_34 ?_
    refine sv_set (v' := .int (M j 8 - dks (M j) - dms (M j))) (congrArg Value.int rfl) ?_
    refine sv_istore_n (i := 1) C [(0, .ref (sv_r G 0 j)), (1, .int (M j 8 - dks (M j) - dms (M j)))] dX3_lightShare_35 rfl (by decide) rfl ?_
    refine sv_iload_n (i := 1) (x := M j 8 - dks (M j) - dms (M j)) C dX3_lightShare_36 rfl rfl ?_
    refine sv_i2d C dX3_lightShare_37 ?_
    refine sv_aload_n (i := 0) (x := sv_r G 0 j) C dX3_lightShare_38 rfl rfl ?_
    refine sv_get_3_6 C hj kw_120 dX3_lightShare_39 ?_
    refine sv_set (v' := .int (M j 8)) (congrArg Value.int rfl) ?_
    refine sv_i2d C dX3_lightShare_42 ?_
    refine sv_ddiv C dX3_lightShare_43 (hn q4) ?_
    exact sv_dret C hr dX3_lightShare_44 (Nat.le_of_ble_eq_true rfl) (Nat.le_of_ble_eq_true rfl) (by unfold lsh; rw [if_pos q4]) (fun _ h => h)
  · refine sv_dconst1 C dX3_lightShare_7 ?_
    exact sv_dret C hr dX3_lightShare_8 (Nat.le_of_ble_eq_true rfl) (Nat.le_of_ble_eq_true rfl) (by unfold lsh; rw [if_neg q4]) (fun _ h => h)

theorem fnv_0 (m : Nat) (x : vX) (f : Nat) : fnv m x f 0 = lampv x f := rfl
set_option maxHeartbeats 4000000 in
set_option maxRecDepth 100000 in
theorem met_floorNumber (l : Launch) (G : sv_G) (z : Nat) (M : sv_M) (o : Int64) (j f w9 : Nat) (hj : j < 8) (hf : f < 8) (hw9 : w9 < 8) (m : Nat) (hm : M j 57 = nI m) (hm7 : m ≤ 7) (b6 : M j 6 = 0 ∨ M j 6 = 1) (b7 : M j 7 = 0 ∨ M j 7 = 1) : sv_Met l G yX3_floorNumber cX3_floorNumber 3 (some .int) 2 [.ref (sv_r G 0 j), .int (nI f), .int (nI w9)] (sv_W G z M o) (some (.int (fnv m (M j) f w9))) (sv_W G z M o) := by
  refine sv_ofW (by decide) kw_280 (Nat.le_of_ble_eq_true rfl) ?_
  intro p e s mth args below meth c hr C _
  refine sv_sub (lv' := [(0, .ref (sv_r G 0 j)), (1, .int (nI f)), (2, .int (nI w9))]) rfl ?_
  refine sv_iload_n (i := 2) (x := nI w9) C dX3_floorNumber_0 rfl rfl ?_
  rcases (show w9 = 0 ∨ w9 = 1 ∨ w9 = 2 ∨ w9 = 3 ∨ w9 = 4 ∨ w9 = 5 ∨ w9 = 6 ∨ w9 = 7 by omega) with rfl | rfl | rfl | rfl | rfl | rfl | rfl | rfl
  · refine sv_tableIn (off := 43) C 44 dX3_floorNumber_1 (by decide) (by decide) (by decide) (by decide) ?_
    refine sv_aload_n (i := 0) (x := sv_r G 0 j) C dX3_floorNumber_44 rfl rfl ?_
    refine sv_iload_n (i := 1) (x := nI f) C dX3_floorNumber_45 rfl rfl ?_
    refine sv_callV (as := [_]) (rest := []) C (met_lampOf l G _ _ _ j f hj (by omega) b6 b7) fX3_lampOf kw_281 (sv_recv0 C hj) ⟨Nat.le_of_ble_eq_true rfl, Nat.le_of_ble_eq_true rfl⟩ (Nat.le_of_ble_eq_true rfl) dX3_floorNumber_46 ⟨Nat.zero_le _, Nat.zero_le _⟩  ?_
    refine sv_ri (fun v46 e46 => ?_)
    exact sv_iret C hr dX3_floorNumber_49 (Nat.le_of_ble_eq_true rfl) (Nat.le_of_ble_eq_true rfl) e46 (fun _ h => h)
  · refine sv_tableIn (off := 49) C 50 dX3_floorNumber_1 (by decide) (by decide) (by decide) (by decide) ?_
    refine sv_aload_n (i := 0) (x := sv_r G 0 j) C dX3_floorNumber_50 rfl rfl ?_
    refine sv_get_3_0 C hj kw_108 dX3_floorNumber_51 ?_
    refine sv_get_0_0 C hj kw_43 dX3_floorNumber_54 ?_
    refine sv_iload_n (i := 1) (x := nI f) C dX3_floorNumber_57 rfl rfl ?_
    refine sv_callN (as := [_, _]) (rest := []) C (met_atN j (6 * f + 9) rfl rfl (sv_okj (by decide) hj) rfl (by show _ < 8; omega)) fX5_at (host := "StairLight") kn_RX3_57 ⟨Nat.le_of_ble_eq_true rfl, Nat.le_of_ble_eq_true rfl⟩ (Nat.le_of_ble_eq_true rfl) dX3_floorNumber_58 ⟨Nat.zero_le _, Nat.zero_le _⟩  ?_
    refine sv_ri (fun v58 e58 => ?_)
    exact sv_iret C hr dX3_floorNumber_61 (Nat.le_of_ble_eq_true rfl) (Nat.le_of_ble_eq_true rfl) e58 (fun _ h => h)
  · refine sv_tableIn (off := 61) C 62 dX3_floorNumber_1 (by decide) (by decide) (by decide) (by decide) ?_
    refine sv_aload_n (i := 0) (x := sv_r G 0 j) C dX3_floorNumber_62 rfl rfl ?_
    refine sv_get_3_0 C hj kw_108 dX3_floorNumber_63 ?_
    refine sv_get_0_1 C hj kw_46 dX3_floorNumber_66 ?_
    refine sv_iload_n (i := 1) (x := nI f) C dX3_floorNumber_69 rfl rfl ?_
    refine sv_callN (as := [_, _]) (rest := []) C (met_atN j (6 * f + 10) rfl rfl (sv_okj (by decide) hj) rfl (by show _ < 8; omega)) fX5_at (host := "StairLight") kn_RX3_57 ⟨Nat.le_of_ble_eq_true rfl, Nat.le_of_ble_eq_true rfl⟩ (Nat.le_of_ble_eq_true rfl) dX3_floorNumber_70 ⟨Nat.zero_le _, Nat.zero_le _⟩  ?_
    refine sv_ri (fun v70 e70 => ?_)
    exact sv_iret C hr dX3_floorNumber_73 (Nat.le_of_ble_eq_true rfl) (Nat.le_of_ble_eq_true rfl) e70 (fun _ h => h)
  · refine sv_tableIn (off := 73) C 74 dX3_floorNumber_1 (by decide) (by decide) (by decide) (by decide) ?_
    refine sv_aload_n (i := 0) (x := sv_r G 0 j) C dX3_floorNumber_74 rfl rfl ?_
    refine sv_get_3_1 C hj kw_110 dX3_floorNumber_75 ?_
    refine sv_iload_n (i := 1) (x := nI f) C dX3_floorNumber_78 rfl rfl ?_
    refine sv_callV (as := [_]) (rest := []) C (met_peopleOn l G _ _ _ j hj (nI f) m hm hm7) fX2_peopleOn kw_288 (sv_recv8 C hj) ⟨Nat.le_of_ble_eq_true rfl, Nat.le_of_ble_eq_true rfl⟩ (Nat.le_of_ble_eq_true rfl) dX3_floorNumber_79 ⟨Nat.zero_le _, Nat.zero_le _⟩  ?_
    refine sv_ri (fun v79 e79 => ?_)
    exact sv_iret C hr dX3_floorNumber_82 (Nat.le_of_ble_eq_true rfl) (Nat.le_of_ble_eq_true rfl) e79 (fun _ h => h)
  · refine sv_tableIn (off := 82) C 83 dX3_floorNumber_1 (by decide) (by decide) (by decide) (by decide) ?_
    refine sv_aload_n (i := 0) (x := sv_r G 0 j) C dX3_floorNumber_83 rfl rfl ?_
    refine sv_get_3_0 C hj kw_108 dX3_floorNumber_84 ?_
    refine sv_get_0_2 C hj kw_48 dX3_floorNumber_87 ?_
    refine sv_iload_n (i := 1) (x := nI f) C dX3_floorNumber_90 rfl rfl ?_
    refine sv_callN (as := [_, _]) (rest := []) C (met_atN j (6 * f + 11) rfl rfl (sv_okj (by decide) hj) rfl (by show _ < 8; omega)) fX5_at (host := "StairLight") kn_RX3_57 ⟨Nat.le_of_ble_eq_true rfl, Nat.le_of_ble_eq_true rfl⟩ (Nat.le_of_ble_eq_true rfl) dX3_floorNumber_91 ⟨Nat.zero_le _, Nat.zero_le _⟩  ?_
    refine sv_ri (fun v91 e91 => ?_)
    exact sv_iret C hr dX3_floorNumber_94 (Nat.le_of_ble_eq_true rfl) (Nat.le_of_ble_eq_true rfl) e91 (fun _ h => h)
  · refine sv_tableIn (off := 94) C 95 dX3_floorNumber_1 (by decide) (by decide) (by decide) (by decide) ?_
    refine sv_aload_n (i := 0) (x := sv_r G 0 j) C dX3_floorNumber_95 rfl rfl ?_
    refine sv_get_3_0 C hj kw_108 dX3_floorNumber_96 ?_
    refine sv_get_0_3 C hj kw_51 dX3_floorNumber_99 ?_
    refine sv_iload_n (i := 1) (x := nI f) C dX3_floorNumber_102 rfl rfl ?_
    refine sv_callN (as := [_, _]) (rest := []) C (met_atN j (6 * f + 12) rfl rfl (sv_okj (by decide) hj) rfl (by show _ < 8; omega)) fX5_at (host := "StairLight") kn_RX3_57 ⟨Nat.le_of_ble_eq_true rfl, Nat.le_of_ble_eq_true rfl⟩ (Nat.le_of_ble_eq_true rfl) dX3_floorNumber_103 ⟨Nat.zero_le _, Nat.zero_le _⟩  ?_
    refine sv_ri (fun v103 e103 => ?_)
    exact sv_iret C hr dX3_floorNumber_106 (Nat.le_of_ble_eq_true rfl) (Nat.le_of_ble_eq_true rfl) e103 (fun _ h => h)
  · refine sv_tableIn (off := 106) C 107 dX3_floorNumber_1 (by decide) (by decide) (by decide) (by decide) ?_
    refine sv_aload_n (i := 0) (x := sv_r G 0 j) C dX3_floorNumber_107 rfl rfl ?_
    refine sv_get_3_0 C hj kw_108 dX3_floorNumber_108 ?_
    refine sv_get_0_4 C hj kw_54 dX3_floorNumber_111 ?_
    refine sv_iload_n (i := 1) (x := nI f) C dX3_floorNumber_114 rfl rfl ?_
    refine sv_callN (as := [_, _]) (rest := []) C (met_atN j (6 * f + 13) rfl rfl (sv_okj (by decide) hj) rfl (by show _ < 8; omega)) fX5_at (host := "StairLight") kn_RX3_57 ⟨Nat.le_of_ble_eq_true rfl, Nat.le_of_ble_eq_true rfl⟩ (Nat.le_of_ble_eq_true rfl) dX3_floorNumber_115 ⟨Nat.zero_le _, Nat.zero_le _⟩  ?_
    refine sv_ri (fun v115 e115 => ?_)
    exact sv_iret C hr dX3_floorNumber_118 (Nat.le_of_ble_eq_true rfl) (Nat.le_of_ble_eq_true rfl) e115 (fun _ h => h)
  · refine sv_tableOut C 119 dX3_floorNumber_1 (Or.inr (by decide)) (by decide) ?_
    refine sv_aload_n (i := 0) (x := sv_r G 0 j) C dX3_floorNumber_119 rfl rfl ?_
    refine sv_get_3_0 C hj kw_108 dX3_floorNumber_120 ?_
    refine sv_get_0_5 C hj kw_57 dX3_floorNumber_123 ?_
    refine sv_iload_n (i := 1) (x := nI f) C dX3_floorNumber_126 rfl rfl ?_
    refine sv_callN (as := [_, _]) (rest := []) C (met_atN j (6 * f + 14) rfl rfl (sv_okj (by decide) hj) rfl (by show _ < 8; omega)) fX5_at (host := "StairLight") kn_RX3_57 ⟨Nat.le_of_ble_eq_true rfl, Nat.le_of_ble_eq_true rfl⟩ (Nat.le_of_ble_eq_true rfl) dX3_floorNumber_127 ⟨Nat.zero_le _, Nat.zero_le _⟩  ?_
    refine sv_ri (fun v127 e127 => ?_)
    exact sv_iret C hr dX3_floorNumber_130 (Nat.le_of_ble_eq_true rfl) (Nat.le_of_ble_eq_true rfl) e127 (fun _ h => h)
end
section
/-! the mathematics of the history and of the text -/
def svM (od hd k : Nat) (M : sv_M) : sv_M := sv_u (sv_u M 8 (upd (upd (M 8) 0 (nI od)) 1 (nI hd))) (2 + k) (M 0)
def rsM (hd k : Nat) (M : sv_M) : sv_M := sv_u (sv_u M 8 (upd (M 8) 1 (nI hd))) 0 (M (2 + k))
theorem sv_uc {M : sv_M} {p q : Nat} {x y : vX} (h : p ≠ q) : sv_u (sv_u M p x) q y = sv_u (sv_u M q y) p x := by
  funext r
  unfold sv_u
  by_cases h1 : r = q
  · have : r ≠ p := fun e => h (e.symm.trans h1)
    simp [h1, h.symm]
  · simp [h1]
/-- chars -/
def chr (v : Int32) : Prop := narrow .char (.int v) = .int v
def flI (c : Int32) : Int32 := if c < 48 then 0 else if 55 < c then 0 else 1
def fsI (s g t : Int32) : Int32 := if g = 62 then (if t ≤ s then 0 else 1) else (if s ≤ t then 0 else 1)
def ftI (cd : vX) (i : Nat) : Int32 :=
  if i % 4 = 0 then flI (cd i)
  else if i % 4 = 1 then (if (cd i = 62 ∧ cd (i - 1) < 55) ∨ (cd i = 60 ∧ 48 < cd (i - 1)) then 1 else 0)
  else if i % 4 = 2 then (if flI (cd i) = 0 then 0 else if fsI (cd (i - 2)) (cd (i - 1)) (cd i) = 0 then 0 else 1)
  else if cd i = 59 then 1 else 0
def epF (cd : vX) : Nat → Nat → Nat
  | 0, i => i
  | t + 1, i => if ftI cd i = 0 then i else epF cd t (i + 1)
theorem epF_step {cd : vX} {n i : Nat} (h : i < n) (hne : ¬ ftI cd i = 0) : epF cd (n - i) i = epF cd (n - (i + 1)) (i + 1) := by
  rw [show n - i = (n - (i + 1)) + 1 by omega]
  exact if_neg hne
theorem epF_hit {cd : vX} {n i : Nat} (h : i < n) (he : ftI cd i = 0) : epF cd (n - i) i = i := by
  rw [show n - i = (n - (i + 1)) + 1 by omega]
  exact if_pos he
theorem epF_end {cd : vX} {n i : Nat} (h : n ≤ i) : epF cd (n - i) i = i := by
  rw [show n - i = 0 by omega]
  rfl
theorem flI_b (c : Int32) : flI c = 0 ∨ flI c = 1 := by
  unfold flI
  split
  · exact Or.inl rfl
  · split
    · exact Or.inl rfl
    · exact Or.inr rfl
theorem fsI_b (s g t : Int32) : fsI s g t = 0 ∨ fsI s g t = 1 := by
  unfold fsI
  split <;> split
  · exact Or.inl rfl
  · exact Or.inr rfl
  · exact Or.inl rfl
  · exact Or.inr rfl
theorem ftI_b (cd : vX) (i : Nat) : ftI cd i = 0 ∨ ftI cd i = 1 := by
  unfold ftI
  split
  · exact flI_b _
  · split
    · split
      · exact Or.inr rfl
      · exact Or.inl rfl
    · split
      · split
        · exact Or.inl rfl
        · split
          · exact Or.inl rfl
          · exact Or.inr rfl
      · split
        · exact Or.inr rfl
        · exact Or.inl rfl
end
section
theorem met_S_copy (l : Launch) (G : sv_G) (z : Nat) (M : sv_M) (o : Int64) (j1 j2 : Nat) (h1 : j1 < 8) (h2 : j2 < 8) (hne : j1 ≠ j2) (b6 : M j1 6 = 0 ∨ M j1 6 = 1) (b7 : M j1 7 = 0 ∨ M j1 7 = 1) : sv_Met l G yX3_copyFrom cX3_copyFrom 2 none 2 [.ref (sv_r G 0 j2), .ref (sv_r G 0 j1)] (sv_W G z M o) none (sv_W G z (sv_u M j2 (M j1)) o) := sv_Met_post (met_S_copyFrom l G z M o j1 j2 h1 h2 hne b6 b7) (fun H h => h.cpS h2)
set_option maxHeartbeats 4000000 in
set_option maxRecDepth 100000 in
theorem met_stateAt (l : Launch) (G : sv_G) (z : Nat) (M : sv_M) (o : Int64) (k : Nat) (hk : k < 6) : sv_Met l G yX1_stateAt cX1_stateAt 2 (some (.object "StairLight$Stairs")) 0 [.ref (sv_r G 15 0), .int (nI k)] (sv_W G z M o) (some (.ref (sv_r G 0 (2 + k)))) (sv_W G z M o) := by
  refine sv_ofW (by decide) kw_507 (Nat.le_of_ble_eq_true rfl) ?_
  intro p e s mth args below meth c hr C _
  refine sv_sub (lv' := [(0, .ref (sv_r G 15 0)), (1, .int (nI k))]) rfl ?_
  refine sv_iload_n (i := 1) (x := nI k) C dX1_stateAt_0 rfl rfl ?_
  refine sv_if_lt C 22 dX1_stateAt_1 (by decide) (fun q1 => ?_) (fun q1 => ?_)
  · exact absurd q1 (nI_pos (by omega))
  · refine sv_iload_n (i := 1) (x := nI k) C dX1_stateAt_4 rfl rfl ?_
    refine sv_aload_n (i := 0) (x := sv_r G 15 0) C dX1_stateAt_5 rfl rfl ?_
    refine sv_get_1_0 C kw_145 dX1_stateAt_6 ?_
    refine sv_alenS (v := nI 6) C rfl dX1_stateAt_9 ?_
    refine sv_icmp_geN C 22 dX1_stateAt_10 (by decide) (by omega) (by omega) (fun q10 => ?_) (fun q10 => ?_)
    · exact absurd q10 (by omega)
    · refine sv_aload_n (i := 0) (x := sv_r G 15 0) C dX1_stateAt_13 rfl rfl ?_
      refine sv_get_1_0 C kw_145 dX1_stateAt_14 ?_
      refine sv_iload_n (i := 1) (x := nI k) C dX1_stateAt_17 rfl rfl ?_
      refine sv_aldq C (vp_in_nI (by omega) (by decide)) dX1_stateAt_18 ?_
      refine sv_set (v' := .ref (sv_r G 0 (2 + k))) (by rw [nI_clamp (by omega)]) ?_
      refine sv_goto C 23 dX1_stateAt_19 (by decide) ?_
      exact sv_aret C hr (Or.inl ⟨_, rfl⟩) dX1_stateAt_23 (Nat.le_of_ble_eq_true rfl) (Nat.le_of_ble_eq_true rfl) rfl (fun _ h => h)

set_option maxHeartbeats 4000000 in
set_option maxRecDepth 100000 in
theorem met_save_lo (l : Launch) (G : sv_G) (z : Nat) (M : sv_M) (o : Int64) (od hd k : Nat) (hod : od < 6) (h0 : M 8 0 = nI od) (h1 : M 8 1 = nI hd) (hhd : hd < 6) (hk : k = (od + hd) % 6) (b6 : M 0 6 = 0 ∨ M 0 6 = 1) (b7 : M 0 7 = 0 ∨ M 0 7 = 1) : sv_Met l G yX1_save cX1_save 3 none 3 [.ref (sv_r G 15 0), .ref (sv_r G 0 0)] (sv_W G z M o) none (sv_W G z (svM od (hd + 1) k M) o) := by
  refine sv_ofW (by decide) kw_503 (Nat.le_of_ble_eq_true rfl) ?_
  intro p e s mth args below meth c hr C _
  refine sv_sub (lv' := [(0, .ref (sv_r G 15 0)), (1, .ref (sv_r G 0 0))]) rfl ?_
  refine sv_aload_n (i := 0) (x := sv_r G 15 0) C dX1_save_0 rfl rfl ?_
  refine sv_get_1_2 C kw_147 dX1_save_1 ?_
  refine sv_set (v' := .int (nI hd)) (congrArg Value.int h1) ?_
  refine sv_bipush (v := nI 6) C dX1_save_4 (by decide) ?_
  refine sv_icmp_ltN C 32 dX1_save_6 (by decide) (by omega) (by omega) (fun q6 => ?_) (fun q6 => ?_)
  · refine sv_aload_n (i := 0) (x := sv_r G 15 0) C dX1_save_32 rfl rfl ?_
    refine sv_aload_n (i := 0) (x := sv_r G 15 0) C dX1_save_33 rfl rfl ?_
    refine sv_get_1_1 C kw_146 dX1_save_34 ?_
    refine sv_set (v' := .int (nI od)) (congrArg Value.int h0) ?_
    refine sv_aload_n (i := 0) (x := sv_r G 15 0) C dX1_save_37 rfl rfl ?_
    refine sv_get_1_2 C kw_147 dX1_save_38 ?_
    refine sv_set (v' := .int (nI hd)) (congrArg Value.int h1) ?_
    refine sv_iadd C dX1_save_41 ?_
    refine sv_set (v' := .int (nI (od + hd))) (congrArg Value.int (nI_add _ _)) ?_
    refine sv_bipush (v := nI 6) C dX1_save_42 (by decide) ?_
    refine sv_irem C dX1_save_44 (by decide) ?_
    refine sv_set (v' := .int (nI k)) (congrArg Value.int (by rw [hk]; exact pk_rem (d := 6) (by omega) (by decide) (by decide))) ?_
    refine sv_callV (as := [_]) (rest := []) C (met_stateAt l G _ _ _ k (by omega)) fX1_stateAt kw_504 (sv_recv15 C) ⟨Nat.le_of_ble_eq_true rfl, Nat.le_of_ble_eq_true rfl⟩ (Nat.le_of_ble_eq_true rfl) dX1_save_45 ⟨Nat.zero_le _, Nat.zero_le _⟩  ?_
    refine sv_ra ?_
    
    refine sv_astore_n (i := 2) C [(0, .ref (sv_r G 15 0)), (1, .ref (sv_r G 0 0)), (2, .ref (sv_r G 0 (2 + k)))] dX1_save_48 rfl (by decide) rfl ?_
    refine sv_aload_n (i := 2) (x := sv_r G 0 (2 + k)) C dX1_save_49 rfl rfl ?_
    refine sv_ifnull C dX1_save_50 ?_
    refine sv_aload_n (i := 2) (x := sv_r G 0 (2 + k)) C dX1_save_53 rfl rfl ?_
    refine sv_aload_n (i := 1) (x := sv_r G 0 0) C dX1_save_54 rfl rfl ?_
    refine sv_callV (as := [_]) (rest := []) C (met_S_copy l G _ _ _ 0 (2 + k) (by decide) (by omega) (by omega) b6 b7) fX3_copyFrom kw_508 (sv_recv0 C (by omega)) ⟨Nat.le_of_ble_eq_true rfl, Nat.le_of_ble_eq_true rfl⟩ (Nat.le_of_ble_eq_true rfl) dX1_save_55 ⟨Nat.zero_le _, Nat.zero_le _⟩  ?_
    refine sv_rv ?_
    refine sv_aload_n (i := 0) (x := sv_r G 15 0) C dX1_save_58 rfl rfl ?_
    refine sv_dup C dX1_save_59 rfl ?_
    refine sv_get_1_2 C kw_147 dX1_save_60 ?_
    refine sv_set (v' := .int (nI hd)) (congrArg Value.int (by rw [sv_un (by omega)]; exact h1)) ?_
    refine sv_iconst (v := nI 1) C dX1_save_63 (by decide) ?_
    refine sv_iadd C dX1_save_64 ?_
    refine sv_set (v' := .int (nI (hd + 1))) (congrArg Value.int (nI_add _ _)) ?_
    refine sv_put_1_2 C kw_147 dX1_save_65 ?_
    exact sv_vret C hr dX1_save_68 (Nat.le_of_ble_eq_true rfl) (Nat.le_of_ble_eq_true rfl) (sv_eqW (by unfold svM; rw [sv_wu, sv_un (show 8 ≠ 2 + k by omega), sv_uc (by omega), ← h0, upd_i]))
  · exact absurd q6 (by omega)

set_option maxHeartbeats 4000000 in
set_option maxRecDepth 100000 in
theorem met_save_hi (l : Launch) (G : sv_G) (z : Nat) (M : sv_M) (o : Int64) (od hd k : Nat) (hod : od < 6) (h0 : M 8 0 = nI od) (h1 : M 8 1 = nI hd) (hhd : hd = 6) (hk : k = od) (b6 : M 0 6 = 0 ∨ M 0 6 = 1) (b7 : M 0 7 = 0 ∨ M 0 7 = 1) : sv_Met l G yX1_save cX1_save 3 none 3 [.ref (sv_r G 15 0), .ref (sv_r G 0 0)] (sv_W G z M o) none (sv_W G z (svM ((od + 1) % 6) 6 k M) o) := by
  refine sv_ofW (by decide) kw_503 (Nat.le_of_ble_eq_true rfl) ?_
  intro p e s mth args below meth c hr C _
  refine sv_sub (lv' := [(0, .ref (sv_r G 15 0)), (1, .ref (sv_r G 0 0))]) rfl ?_
  refine sv_aload_n (i := 0) (x := sv_r G 15 0) C dX1_save_0 rfl rfl ?_
  refine sv_get_1_2 C kw_147 dX1_save_1 ?_
  refine sv_set (v' := .int (nI hd)) (congrArg Value.int h1) ?_
  refine sv_bipush (v := nI 6) C dX1_save_4 (by decide) ?_
  refine sv_icmp_ltN C 32 dX1_save_6 (by decide) (by omega) (by omega) (fun q6 => ?_) (fun q6 => ?_)
  · exact absurd q6 (by omega)
  · refine sv_aload_n (i := 0) (x := sv_r G 15 0) C dX1_save_9 rfl rfl ?_
    refine sv_aload_n (i := 0) (x := sv_r G 15 0) C dX1_save_10 rfl rfl ?_
    refine sv_get_1_1 C kw_146 dX1_save_11 ?_
    refine sv_set (v' := .int (nI od)) (congrArg Value.int h0) ?_
    refine sv_iconst (v := nI 1) C dX1_save_14 (by decide) ?_
    refine sv_iadd C dX1_save_15 ?_
    refine sv_set (v' := .int (nI (od + 1))) (congrArg Value.int (nI_add _ _)) ?_
    refine sv_bipush (v := nI 6) C dX1_save_16 (by decide) ?_
    refine sv_irem C dX1_save_18 (by decide) ?_
    refine sv_set (v' := .int (nI ((od + 1) % 6))) (congrArg Value.int (pk_rem (a := od + 1) (d := 6) (by omega) (by decide) (by decide))) ?_
    refine sv_put_1_1 C kw_146 dX1_save_19 ?_
    refine sv_aload_n (i := 0) (x := sv_r G 15 0) C dX1_save_22 rfl rfl ?_
    refine sv_dup C dX1_save_23 rfl ?_
    refine sv_get_1_2 C kw_147 dX1_save_24 ?_
    refine sv_set (v' := .int (nI hd)) (congrArg Value.int (by rw [sv_wu, sv_us, upd_n (by decide)]; exact h1)) ?_
    refine sv_iconst (v := nI 1) C dX1_save_27 (by decide) ?_
    refine sv_isub C dX1_save_28 ?_
    refine sv_set (v' := .int (nI 5)) (congrArg Value.int (by subst hhd; exact pk_sub (by decide))) ?_
    refine sv_put_1_2 C kw_147 dX1_save_29 ?_
    refine sv_aload_n (i := 0) (x := sv_r G 15 0) C dX1_save_32 rfl rfl ?_
    refine sv_aload_n (i := 0) (x := sv_r G 15 0) C dX1_save_33 rfl rfl ?_
    refine sv_get_1_1 C kw_146 dX1_save_34 ?_
    refine sv_set (v' := .int (nI ((od + 1) % 6))) (congrArg Value.int (by simp only [sv_wu, sv_us, sv_uu]; rw [upd_n (by decide), upd_s])) ?_
    refine sv_aload_n (i := 0) (x := sv_r G 15 0) C dX1_save_37 rfl rfl ?_
    refine sv_get_1_2 C kw_147 dX1_save_38 ?_
    refine sv_set (v' := .int (nI 5)) (congrArg Value.int (by simp only [sv_wu, sv_us, sv_uu]; rw [upd_s])) ?_
    refine sv_iadd C dX1_save_41 ?_
    refine sv_set (v' := .int (nI ((od + 1) % 6 + 5))) (congrArg Value.int (nI_add _ _)) ?_
    refine sv_bipush (v := nI 6) C dX1_save_42 (by decide) ?_
    refine sv_irem C dX1_save_44 (by decide) ?_
    refine sv_set (v' := .int (nI k)) (congrArg Value.int (by rw [show k = ((od + 1) % 6 + 5) % 6 by omega]; exact pk_rem (a := (od + 1) % 6 + 5) (d := 6) (by omega) (by decide) (by decide))) ?_
    refine sv_callV (as := [_]) (rest := []) C (met_stateAt l G _ _ _ k (by omega)) fX1_stateAt kw_504 (sv_recv15 C) ⟨Nat.le_of_ble_eq_true rfl, Nat.le_of_ble_eq_true rfl⟩ (Nat.le_of_ble_eq_true rfl) dX1_save_45 ⟨Nat.zero_le _, Nat.zero_le _⟩  ?_
    refine sv_ra ?_
    
    refine sv_astore_n (i := 2) C [(0, .ref (sv_r G 15 0)), (1, .ref (sv_r G 0 0)), (2, .ref (sv_r G 0 (2 + k)))] dX1_save_48 rfl (by decide) rfl ?_
    refine sv_aload_n (i := 2) (x := sv_r G 0 (2 + k)) C dX1_save_49 rfl rfl ?_
    refine sv_ifnull C dX1_save_50 ?_
    refine sv_aload_n (i := 2) (x := sv_r G 0 (2 + k)) C dX1_save_53 rfl rfl ?_
    refine sv_aload_n (i := 1) (x := sv_r G 0 0) C dX1_save_54 rfl rfl ?_
    refine sv_callV (as := [_]) (rest := []) C (met_S_copy l G _ _ _ 0 (2 + k) (by decide) (by omega) (by omega) (by simp only [sv_wu, sv_uu, sv_us]; rw [sv_un (by decide)]; exact b6) (by simp only [sv_wu, sv_uu, sv_us]; rw [sv_un (by decide)]; exact b7)) fX3_copyFrom kw_508 (sv_recv0 C (by omega)) ⟨Nat.le_of_ble_eq_true rfl, Nat.le_of_ble_eq_true rfl⟩ (Nat.le_of_ble_eq_true rfl) dX1_save_55 ⟨Nat.zero_le _, Nat.zero_le _⟩  ?_
    refine sv_rv ?_
    refine sv_aload_n (i := 0) (x := sv_r G 15 0) C dX1_save_58 rfl rfl ?_
    refine sv_dup C dX1_save_59 rfl ?_
    refine sv_get_1_2 C kw_147 dX1_save_60 ?_
    refine sv_set (v' := .int (nI 5)) (congrArg Value.int (by simp only [sv_wu, sv_uu, sv_us]; rw [sv_un (by omega), sv_us, upd_s])) ?_
    refine sv_iconst (v := nI 1) C dX1_save_63 (by decide) ?_
    refine sv_iadd C dX1_save_64 ?_
    refine sv_set (v' := .int (nI 6)) (congrArg Value.int (nI_add _ _)) ?_
    refine sv_put_1_2 C kw_147 dX1_save_65 ?_
    exact sv_vret C hr dX1_save_68 (Nat.le_of_ble_eq_true rfl) (Nat.le_of_ble_eq_true rfl) (sv_eqW (by unfold svM; simp only [sv_wu, sv_uu, sv_us]; rw [sv_un (show 0 ≠ 8 by decide), sv_un (show 8 ≠ 2 + k by omega), sv_us, sv_uc (show 2 + k ≠ 8 by omega), sv_uu, upd_u]))

set_option maxHeartbeats 4000000 in
set_option maxRecDepth 100000 in
theorem met_restore (l : Launch) (G : sv_G) (z : Nat) (M : sv_M) (o : Int64) (od hd k : Nat) (hod : od < 6) (h0 : M 8 0 = nI od) (h1 : M 8 1 = nI hd) (hhd : 0 < hd) (hd6 : hd ≤ 6) (hk : k = (od + (hd - 1)) % 6) (b6 : M (2 + k) 6 = 0 ∨ M (2 + k) 6 = 1) (b7 : M (2 + k) 7 = 0 ∨ M (2 + k) 7 = 1) : sv_Met l G yX1_restore cX1_restore 3 none 3 [.ref (sv_r G 15 0), .ref (sv_r G 0 0)] (sv_W G z M o) none (sv_W G z (rsM (hd - 1) k M) o) := by
  refine sv_ofW (by decide) kw_564 (Nat.le_of_ble_eq_true rfl) ?_
  intro p e s mth args below meth c hr C _
  refine sv_sub (lv' := [(0, .ref (sv_r G 15 0)), (1, .ref (sv_r G 0 0))]) rfl ?_
  refine sv_aload_n (i := 0) (x := sv_r G 15 0) C dX1_restore_0 rfl rfl ?_
  refine sv_get_1_2 C kw_147 dX1_restore_1 ?_
  refine sv_set (v' := .int (nI hd)) (congrArg Value.int h1) ?_
  refine sv_if_gt C 8 dX1_restore_4 (by decide) (fun q4 => ?_) (fun q4 => ?_)
  · refine sv_aload_n (i := 0) (x := sv_r G 15 0) C dX1_restore_8 rfl rfl ?_
    refine sv_dup C dX1_restore_9 rfl ?_
    refine sv_get_1_2 C kw_147 dX1_restore_10 ?_
    refine sv_set (v' := .int (nI hd)) (congrArg Value.int h1) ?_
    refine sv_iconst (v := nI 1) C dX1_restore_13 (by decide) ?_
    refine sv_isub C dX1_restore_14 ?_
    refine sv_set (v' := .int (nI (hd - 1))) (congrArg Value.int (pk_sub (by omega))) ?_
    refine sv_put_1_2 C kw_147 dX1_restore_15 ?_
    refine sv_aload_n (i := 0) (x := sv_r G 15 0) C dX1_restore_18 rfl rfl ?_
    refine sv_aload_n (i := 0) (x := sv_r G 15 0) C dX1_restore_19 rfl rfl ?_
    refine sv_get_1_1 C kw_146 dX1_restore_20 ?_
    refine sv_set (v' := .int (nI od)) (congrArg Value.int (by simp only [sv_wu, sv_us]; rw [upd_n (by decide)]; exact h0)) ?_
    refine sv_aload_n (i := 0) (x := sv_r G 15 0) C dX1_restore_23 rfl rfl ?_
    refine sv_get_1_2 C kw_147 dX1_restore_24 ?_
    refine sv_set (v' := .int (nI (hd - 1))) (congrArg Value.int (by simp only [sv_wu, sv_us]; rw [upd_s])) ?_
    refine sv_iadd C dX1_restore_27 ?_
    refine sv_set (v' := .int (nI (od + (hd - 1)))) (congrArg Value.int (nI_add _ _)) ?_
    refine sv_bipush (v := nI 6) C dX1_restore_28 (by decide) ?_
    refine sv_irem C dX1_restore_30 (by decide) ?_
    refine sv_set (v' := .int (nI k)) (congrArg Value.int (by rw [hk]; exact pk_rem (d := 6) (by omega) (by decide) (by decide))) ?_
    refine sv_callV (as := [_]) (rest := []) C (met_stateAt l G _ _ _ k (by omega)) fX1_stateAt kw_504 (sv_recv15 C) ⟨Nat.le_of_ble_eq_true rfl, Nat.le_of_ble_eq_true rfl⟩ (Nat.le_of_ble_eq_true rfl) dX1_restore_31 ⟨Nat.zero_le _, Nat.zero_le _⟩  ?_
    refine sv_ra ?_
    
    refine sv_astore_n (i := 2) C [(0, .ref (sv_r G 15 0)), (1, .ref (sv_r G 0 0)), (2, .ref (sv_r G 0 (2 + k)))] dX1_restore_34 rfl (by decide) rfl ?_
    refine sv_aload_n (i := 2) (x := sv_r G 0 (2 + k)) C dX1_restore_35 rfl rfl ?_
    refine sv_ifnull C dX1_restore_36 ?_
    refine sv_aload_n (i := 1) (x := sv_r G 0 0) C dX1_restore_39 rfl rfl ?_
    refine sv_aload_n (i := 2) (x := sv_r G 0 (2 + k)) C dX1_restore_40 rfl rfl ?_
    refine sv_callV (as := [_]) (rest := []) C (met_S_copy l G _ _ _ (2 + k) 0 (by omega) (by decide) (by omega) (by rw [sv_wu, sv_un (by omega)]; exact b6) (by rw [sv_wu, sv_un (by omega)]; exact b7)) fX3_copyFrom kw_508 (sv_recv0 C (by decide)) ⟨Nat.le_of_ble_eq_true rfl, Nat.le_of_ble_eq_true rfl⟩ (Nat.le_of_ble_eq_true rfl) dX1_restore_41 ⟨Nat.zero_le _, Nat.zero_le _⟩  ?_
    refine sv_rv ?_
    exact sv_vret C hr dX1_restore_44 (Nat.le_of_ble_eq_true rfl) (Nat.le_of_ble_eq_true rfl) (sv_eqW (by unfold rsM; simp only [sv_wu]; rw [sv_un (show 2 + k ≠ 8 by omega)]))
  · exact absurd (Int32.not_lt.mp q4) (nI_nle hhd (by omega))








theorem epF_le (cd : vX) : ∀ t i, epF cd t i ≤ t + i
  | 0, i => by simp [epF]
  | t + 1, i => by
    have := epF_le cd t (i + 1)
    unfold epF
    split <;> omega
end
section
/-! what throws: 'throw new E("text")' of StairLight -/
theorem ks_238 : (RX5, 238, "no such floor") ∈ sv_strs := List.mem_of_getElem? (i := 0) rfl
theorem ks_249 : (RX5, 249, "there is no such number") ∈ sv_strs := List.mem_of_getElem? (i := 1) rfl
theorem ks_245 : (RX5, 245, "no such setting") ∈ sv_strs := List.mem_of_getElem? (i := 2) rfl
theorem ks_247 : (RX5, 247, "seconds are out of range") ∈ sv_strs := List.mem_of_getElem? (i := 3) rfl
theorem ks_240 : (RX5, 240, "both floors are the same") ∈ sv_strs := List.mem_of_getElem? (i := 4) rfl
theorem ks_193 : (RX5, 193, "no such place") ∈ sv_strs := List.mem_of_getElem? (i := 5) rfl
theorem ks_49 : (RX5, 49, "the stairs are full") ∈ sv_strs := List.mem_of_getElem? (i := 6) rfl
theorem ks_68 : (RX5, 68, "no such person on the stairs") ∈ sv_strs := List.mem_of_getElem? (i := 7) rfl
theorem ks_134 : (RX5, 134, "the value is out of range") ∈ sv_strs := List.mem_of_getElem? (i := 8) rfl
theorem ks_182 : (RX5, 182, "no saved state") ∈ sv_strs := List.mem_of_getElem? (i := 9) rfl
/-- the heap has grown behind the world -/
def sv_Wz (G : sv_G) (z : Nat) (M : sv_M) (o : Int64) (H : Heap) : Prop := ∃ z', z ≤ z' ∧ sv_W G z' M o H
theorem sv_Wz_grow {G : sv_G} {z : Nat} {M : sv_M} {o : Int64} (H H1 : Heap) (h : sv_W G z M o H) (hz : H.size ≤ H1.size) (hq : ∀ q : Nat, q < H.size → H1[q]? = H[q]?) : sv_Wz G z M o H1 := ⟨H1.size, by rw [← h.1]; exact hz, h.grown rfl (by rw [← h.1]; exact hz) hq⟩
theorem sv_Wz_id {G : sv_G} {z : Nat} {M : sv_M} {o : Int64} (H : Heap) (h : sv_W G z M o H) : sv_Wz G z M o H := ⟨z, Nat.le_refl _, h⟩
set_option maxRecDepth 20000 in
theorem sv_atIO : (vx_atS RX5 70 "java/lang/IndexOutOfBoundsException" ["java/lang/RuntimeException", "java/lang/Exception"]).all (fun w => decide (w ∈ sv_tbl) || decide (w ∈ sv_Xs)) = true := by decide +kernel
set_option maxRecDepth 20000 in
theorem sv_otIO : (Cond.classLink RX5 66 "java/lang/IndexOutOfBoundsException" :: Cond.initialized "java/lang/IndexOutOfBoundsException" :: vx_atS RX5 70 "java/lang/IndexOutOfBoundsException" ["java/lang/RuntimeException", "java/lang/Exception"]).all vx_ot = true := by decide +kernel
section SVTIO
variable {p : Program} {l : Launch} {e : Env} {R : Room} {s : State} {m : MethodId} {args : Array Value} {below : List Frame} {meth : Method} {c : Code} {k n nL : Nat} {Q : State → Prop} {G : sv_G} {Wd Wx : Heap → Prop} {E0 : String → Prop} {Qc : Array Value → State → Outcome → State → Prop}
variable {cc : ByteArray} {pc is : Nat} {lv : List (Nat × Value)} {st : List Value} {mc ms : Nat} {text : String}
theorem sv_throwIO (C : sv_C p l s m args meth c cc nL RX5 G) (hl : l.stackTraces = false) (hx : ∀ x ∈ c.exceptionTable.toList, False) (hstr : (RX5, is, text) ∈ sv_strs) (d0 : decode cc pc = .ok (.new 66, 3)) (d3 : decode cc (pc + 3) = .ok (.dup, 1)) (d4 : decode cc (pc + 4) = .ok (.ldc is, 2)) (d6 : decode cc (pc + 6) = .ok (.invokespecial 70, 3)) (d9 : decode cc (pc + 9) = .ok (.athrow, 1))
    (hR : 5 < R.frames) (hRl : (st.map fun v => v.category).sum + 82 ≤ R.locals) (hRc : k + 1 ≤ R.cells) (hRs : n + 6 ≤ R.slots) (hmc : k + 1 ≤ mc) (hms : n + 6 ≤ ms) (hE : E0 "java/lang/IndexOutOfBoundsException") (hg : ∀ H H1 : Heap, Wd H → H.size ≤ H1.size → (∀ q : Nat, q < H.size → H1[q]? = H[q]?) → Wx H1) : sv_V p l e R s m args below meth c nL G (vx_MQ below Qc (sv_Xc G E0 Wx) args s mc ms (sv_A G)) k n Wd pc lv st := by
  intro H locs ls h1 h2 h3
  have hK := C.2.2.2.2.2
  obtain ⟨sa, hsa⟩ := hK.2.2.2.1.1 _ hstr
  refine vx_throwS (names := ["java/lang/RuntimeException", "java/lang/Exception"]) (ic := 70) C.1 C.2.1 hl C.2.2.2.1 (by decide +kernel) (by decide +kernel) (hK.word kw_190 args) (hK.word kw_19 args) hsa ?_ (fun w hw => List.all_eq_true.mp sv_otIO w hw) hK.2.2.2.1.2.1 hK.2.2.2.1.2.2.1 h2 (h3.1.trans C.2.2.1.symm) d0 d3 d4 d6 d9 (fun x hx' => (hx x hx').elim) hR hRl hRc hRs C.2.2.2.2.1 (fun t ht hz hq => ⟨hE, hg H t.heap h1 hz hq, Nat.le_trans h2.1 hz, fun q g1 g2 => (hq q (Nat.lt_of_lt_of_le g1 h2.1)).trans (h2.2.1 q g1 g2)⟩) h2.2.2 hmc hms
  intro w hw
  have h9 := List.all_eq_true.mp sv_atIO w hw
  simp only [Bool.or_eq_true, decide_eq_true_eq] at h9
  rcases h9 with h9 | h9
  · exact hK.word h9 args
  · have h8 := List.all_eq_true.mp sv_Xs_ok w h9
    rw [Bool.and_eq_true] at h8
    exact va_tabs (A := #[]) h8.2 rfl (hK.2.2.2.1.2.2.2 w h9)
end SVTIO
set_option maxRecDepth 20000 in
theorem sv_atIA : (vx_atS RX5 136 "java/lang/IllegalArgumentException" ["java/lang/RuntimeException", "java/lang/Exception"]).all (fun w => decide (w ∈ sv_tbl) || decide (w ∈ sv_Xs)) = true := by decide +kernel
set_option maxRecDepth 20000 in
theorem sv_otIA : (Cond.classLink RX5 132 "java/lang/IllegalArgumentException" :: Cond.initialized "java/lang/IllegalArgumentException" :: vx_atS RX5 136 "java/lang/IllegalArgumentException" ["java/lang/RuntimeException", "java/lang/Exception"]).all vx_ot = true := by decide +kernel
section SVTIA
variable {p : Program} {l : Launch} {e : Env} {R : Room} {s : State} {m : MethodId} {args : Array Value} {below : List Frame} {meth : Method} {c : Code} {k n nL : Nat} {Q : State → Prop} {G : sv_G} {Wd Wx : Heap → Prop} {E0 : String → Prop} {Qc : Array Value → State → Outcome → State → Prop}
variable {cc : ByteArray} {pc is : Nat} {lv : List (Nat × Value)} {st : List Value} {mc ms : Nat} {text : String}
theorem sv_throwIA (C : sv_C p l s m args meth c cc nL RX5 G) (hl : l.stackTraces = false) (hx : ∀ x ∈ c.exceptionTable.toList, False) (hstr : (RX5, is, text) ∈ sv_strs) (d0 : decode cc pc = .ok (.new 132, 3)) (d3 : decode cc (pc + 3) = .ok (.dup, 1)) (d4 : decode cc (pc + 4) = .ok (.ldc is, 2)) (d6 : decode cc (pc + 6) = .ok (.invokespecial 136, 3)) (d9 : decode cc (pc + 9) = .ok (.athrow, 1))
    (hR : 5 < R.frames) (hRl : (st.map fun v => v.category).sum + 82 ≤ R.locals) (hRc : k + 1 ≤ R.cells) (hRs : n + 6 ≤ R.slots) (hmc : k + 1 ≤ mc) (hms : n + 6 ≤ ms) (hE : E0 "java/lang/IllegalArgumentException") (hg : ∀ H H1 : Heap, Wd H → H.size ≤ H1.size → (∀ q : Nat, q < H.size → H1[q]? = H[q]?) → Wx H1) : sv_V p l e R s m args below meth c nL G (vx_MQ below Qc (sv_Xc G E0 Wx) args s mc ms (sv_A G)) k n Wd pc lv st := by
  intro H locs ls h1 h2 h3
  have hK := C.2.2.2.2.2
  obtain ⟨sa, hsa⟩ := hK.2.2.2.1.1 _ hstr
  refine vx_throwS (names := ["java/lang/RuntimeException", "java/lang/Exception"]) (ic := 136) C.1 C.2.1 hl C.2.2.2.1 (by decide +kernel) (by decide +kernel) (hK.word kw_261 args) (hK.word kw_18 args) hsa ?_ (fun w hw => List.all_eq_true.mp sv_otIA w hw) hK.2.2.2.1.2.1 hK.2.2.2.1.2.2.1 h2 (h3.1.trans C.2.2.1.symm) d0 d3 d4 d6 d9 (fun x hx' => (hx x hx').elim) hR hRl hRc hRs C.2.2.2.2.1 (fun t ht hz hq => ⟨hE, hg H t.heap h1 hz hq, Nat.le_trans h2.1 hz, fun q g1 g2 => (hq q (Nat.lt_of_lt_of_le g1 h2.1)).trans (h2.2.1 q g1 g2)⟩) h2.2.2 hmc hms
  intro w hw
  have h9 := List.all_eq_true.mp sv_atIA w hw
  simp only [Bool.or_eq_true, decide_eq_true_eq] at h9
  rcases h9 with h9 | h9
  · exact hK.word h9 args
  · have h8 := List.all_eq_true.mp sv_Xs_ok w h9
    rw [Bool.and_eq_true] at h8
    exact va_tabs (A := #[]) h8.2 rfl (hK.2.2.2.1.2.2.2 w h9)
end SVTIA
set_option maxRecDepth 20000 in
theorem sv_atIS : (vx_atS RX5 51 "java/lang/IllegalStateException" ["java/lang/RuntimeException", "java/lang/Exception"]).all (fun w => decide (w ∈ sv_tbl) || decide (w ∈ sv_Xs)) = true := by decide +kernel
set_option maxRecDepth 20000 in
theorem sv_otIS : (Cond.classLink RX5 47 "java/lang/IllegalStateException" :: Cond.initialized "java/lang/IllegalStateException" :: vx_atS RX5 51 "java/lang/IllegalStateException" ["java/lang/RuntimeException", "java/lang/Exception"]).all vx_ot = true := by decide +kernel
section SVTIS
variable {p : Program} {l : Launch} {e : Env} {R : Room} {s : State} {m : MethodId} {args : Array Value} {below : List Frame} {meth : Method} {c : Code} {k n nL : Nat} {Q : State → Prop} {G : sv_G} {Wd Wx : Heap → Prop} {E0 : String → Prop} {Qc : Array Value → State → Outcome → State → Prop}
variable {cc : ByteArray} {pc is : Nat} {lv : List (Nat × Value)} {st : List Value} {mc ms : Nat} {text : String}
theorem sv_throwIS (C : sv_C p l s m args meth c cc nL RX5 G) (hl : l.stackTraces = false) (hx : ∀ x ∈ c.exceptionTable.toList, False) (hstr : (RX5, is, text) ∈ sv_strs) (d0 : decode cc pc = .ok (.new 47, 3)) (d3 : decode cc (pc + 3) = .ok (.dup, 1)) (d4 : decode cc (pc + 4) = .ok (.ldc is, 2)) (d6 : decode cc (pc + 6) = .ok (.invokespecial 51, 3)) (d9 : decode cc (pc + 9) = .ok (.athrow, 1))
    (hR : 5 < R.frames) (hRl : (st.map fun v => v.category).sum + 82 ≤ R.locals) (hRc : k + 1 ≤ R.cells) (hRs : n + 6 ≤ R.slots) (hmc : k + 1 ≤ mc) (hms : n + 6 ≤ ms) (hE : E0 "java/lang/IllegalStateException") (hg : ∀ H H1 : Heap, Wd H → H.size ≤ H1.size → (∀ q : Nat, q < H.size → H1[q]? = H[q]?) → Wx H1) : sv_V p l e R s m args below meth c nL G (vx_MQ below Qc (sv_Xc G E0 Wx) args s mc ms (sv_A G)) k n Wd pc lv st := by
  intro H locs ls h1 h2 h3
  have hK := C.2.2.2.2.2
  obtain ⟨sa, hsa⟩ := hK.2.2.2.1.1 _ hstr
  refine vx_throwS (names := ["java/lang/RuntimeException", "java/lang/Exception"]) (ic := 51) C.1 C.2.1 hl C.2.2.2.1 (by decide +kernel) (by decide +kernel) (hK.word kw_484 args) (hK.word kw_20 args) hsa ?_ (fun w hw => List.all_eq_true.mp sv_otIS w hw) hK.2.2.2.1.2.1 hK.2.2.2.1.2.2.1 h2 (h3.1.trans C.2.2.1.symm) d0 d3 d4 d6 d9 (fun x hx' => (hx x hx').elim) hR hRl hRc hRs C.2.2.2.2.1 (fun t ht hz hq => ⟨hE, hg H t.heap h1 hz hq, Nat.le_trans h2.1 hz, fun q g1 g2 => (hq q (Nat.lt_of_lt_of_le g1 h2.1)).trans (h2.2.1 q g1 g2)⟩) h2.2.2 hmc hms
  intro w hw
  have h9 := List.all_eq_true.mp sv_atIS w hw
  simp only [Bool.or_eq_true, decide_eq_true_eq] at h9
  rcases h9 with h9 | h9
  · exact hK.word h9 args
  · have h8 := List.all_eq_true.mp sv_Xs_ok w h9
    rw [Bool.and_eq_true] at h8
    exact va_tabs (A := #[]) h8.2 rfl (hK.2.2.2.1.2.2.2 w h9)
end SVTIS
end
section
/-! which exception: codes as the law counts them; the state behind each call -/
abbrev sv_IO : String := "java/lang/IndexOutOfBoundsException"
abbrev sv_IA : String := "java/lang/IllegalArgumentException"
abbrev sv_IS : String := "java/lang/IllegalStateException"
/-- the code k throws as the names say -/
def sv_E1 (X1 : String) (k : Nat) (E : String) : Prop := k = 1 ∧ E = X1
def sv_E2 (X1 X2 : String) (k : Nat) (E : String) : Prop := (k = 1 ∧ E = X1) ∨ (k = 2 ∧ E = X2)
def sv_E3 (X1 X2 X3 : String) (k : Nat) (E : String) : Prop := (k = 1 ∧ E = X1) ∨ (k = 2 ∧ E = X2) ∨ (k = 3 ∧ E = X3)
theorem i32_in {i : Int32} {n : Nat} (hn : n < 2147483648) (h : ¬ (i < 0 ∨ nI n ≤ i)) : ∃ g, g < n ∧ i = nI g := by
  rcases pk_ix i (n := n) hn with h1 | h1 | h1
  · exact absurd (Or.inl h1) h
  · exact absurd (Or.inr h1) h
  · exact h1
def inC (n : Nat) (i : Int32) : Nat := if i < 0 ∨ nI n ≤ i then 1 else 0
theorem inC_0 {n : Nat} {i : Int32} (hn : n < 2147483648) (h : inC n i = 0) : ∃ g, g < n ∧ i = nI g := by
  unfold inC at h
  split at h
  · cases h
  · rename_i h1
    exact i32_in hn h1
theorem inC_N {n g : Nat} (h : g < n) (hn : n < 2147483648) : inC n (nI g) = 0 := if_neg (sv_inN h hn)
theorem inC_01 (n : Nat) (i : Int32) : inC n i = 0 ∨ inC n i = 1 := by
  unfold inC
  split
  · exact Or.inr rfl
  · exact Or.inl rfl
def wayC (f t : Int32) : Nat := if inC 8 f = 1 ∨ inC 8 t = 1 then 1 else if f = t then 2 else 0
def secC (t : Int32) : Nat := if t < 1 ∨ 300 < t then 1 else 0
theorem secC_0 {t : Int32} (h : secC t = 0) : ∃ n, 1 ≤ n ∧ n ≤ 300 ∧ t = nI n := by
  unfold secC at h
  split at h
  · cases h
  · rename_i h1
    have h2 : ¬ t < 1 := fun q => h1 (Or.inl q)
    have h3 : ¬ 300 < t := fun q => h1 (Or.inr q)
    rcases pk_ix t (n := 301) (by decide) with h4 | h4 | ⟨j, hj, rfl⟩
    · exact absurd (Int32.lt_trans h4 (by decide)) h2
    · exact absurd (Int32.lt_of_lt_of_le (by decide : (300 : Int32) < nI 301) h4) h3
    · refine ⟨j, ?_, by omega, rfl⟩
      rcases Nat.eq_zero_or_pos j with rfl | h5
      · exact absurd (by decide : nI 0 < 1) h2
      · exact h5
/-- a state is saved -/
def savO (od hd : Nat) : Nat := if hd < 6 then od else (od + 1) % 6
def savH (hd : Nat) : Nat := if hd < 6 then hd + 1 else 6
def savK (od hd : Nat) : Nat := if hd < 6 then (od + hd) % 6 else od
def sav (od hd : Nat) (M : sv_M) : sv_M := svM (savO od hd) (savH hd) (savK od hd) M
theorem sav_0 (od hd : Nat) (M : sv_M) : sav od hd M 0 = M 0 := by
  unfold sav svM
  rw [sv_un (by omega), sv_un (by decide)]
theorem sav_9 {od hd : Nat} (hod : od < 6) (M : sv_M) : sav od hd M 9 = M 9 := by
  unfold sav svM
  have : savK od hd < 6 := by unfold savK; split <;> omega
  rw [sv_un (by omega), sv_un (by decide)]
/-- somebody turns -/
def trnv (p : Nat) (t : Int32) (x : vX) : vX := upd (upd x (4 * p + 60) t) (4 * p + 61) (if x (4 * p + 59) = t then 0 else x 3)
def firv (b : Int32) (x : vX) : vX := upd (if x 7 = 1 ∧ b = 0 then fo (sw (x 0)) 8 x else x) 7 b
def setC (s v : Int32) : Nat := if inC 4 s = 1 then 1 else if v < sv_F 1 s.toNatClampNeg ∨ sv_F 2 s.toNatClampNeg < v then 2 else 0
def appC (c : Int32) (n : Nat) : Nat := if c < 33 ∨ 126 < c then 1 else if 60 ≤ n then 2 else 0
def comC (m : Nat) (f t : Int32) : Nat := if wayC f t = 0 then (if 6 ≤ m then 3 else 0) else wayC f t
def trnC (x : vX) (m : Nat) (n t : Int32) : Nat := if plF x n m 0 = (-1) then 1 else inC 8 t
def floC (f w : Int32) : Nat := if inC 8 f = 1 then 1 else if inC 8 w = 1 then 2 else 0
def perC (p w : Int32) : Nat := if p < 0 then 1 else inC 4 w
def ifpC (t w : Int32) : Nat := if secC t = 1 then 1 else inC 4 w
theorem app_in {c : Int32} {n : Nat} (h : appC c n = 0) : (∃ g, g < 127 ∧ 33 ≤ g ∧ c = nI g) ∧ n < 60 := by
  unfold appC at h
  split at h
  · cases h
  · rename_i h1
    split at h
    · cases h
    · rename_i h2
      refine ⟨?_, by omega⟩
      rcases pk_ix c (n := 127) (by decide) with h4 | h4 | ⟨j, hj, rfl⟩
      · exact absurd (Or.inl (Int32.lt_trans h4 (by decide))) h1
      · exact absurd (Or.inr (Int32.lt_of_lt_of_le (by decide : (126 : Int32) < nI 127) h4)) h1
      · refine ⟨j, hj, ?_, rfl⟩
        rcases Nat.lt_or_ge j 33 with h5 | h5
        · exact absurd (Or.inl ((nI_ltI (a := j) (b := 33) (by omega) (by decide)).mpr h5)) h1
        · exact h5
end
section
set_option maxHeartbeats 4000000 in
set_option maxRecDepth 100000 in
theorem met_checkFloor (l : Launch) (G : sv_G) (hl : l.stackTraces = false) (z : Nat) (M : sv_M) (o : Int64) (f : Int32) : sv_MetX l G yX5_checkFloor cX5_checkFloor 1 none 6 1 [.int f] (sv_W G z M o) (inC 8 f = 0) none (sv_W G z M o) (sv_E1 sv_IO (inC 8 f)) (sv_Wz G z M o) := by
  refine sv_ofWX (by decide) kw_189 (Nat.le_of_ble_eq_true rfl) ?_
  intro p e s mth args below meth c hr C hxt
  refine sv_sub (lv' := [(0, .int f)]) rfl ?_
  refine sv_iload_n (i := 0) (x := f) C dX5_checkFloor_0 rfl rfl ?_
  refine sv_if_lt C 10 dX5_checkFloor_1 (by decide) (fun q1 => ?_) (fun q1 => ?_)
  · exact sv_throwIO C hl hxt ks_238 dX5_checkFloor_10 dX5_checkFloor_13 dX5_checkFloor_14 dX5_checkFloor_16 dX5_checkFloor_19 (Nat.le_of_ble_eq_true rfl) (Nat.le_of_ble_eq_true rfl) (Nat.le_of_ble_eq_true rfl) (Nat.le_of_ble_eq_true rfl) (Nat.le_of_ble_eq_true rfl) (Nat.le_of_ble_eq_true rfl) (⟨if_pos (Or.inl q1), rfl⟩) sv_Wz_grow
  · refine sv_iload_n (i := 0) (x := f) C dX5_checkFloor_4 rfl rfl ?_
    refine sv_bipush (v := nI 8) C dX5_checkFloor_5 (by decide) ?_
    refine sv_icmp_lt C 20 dX5_checkFloor_7 (by decide) (fun q7 => ?_) (fun q7 => ?_)
    · exact sv_vretX C (if_neg (fun h => h.elim q1 (fun h => absurd q7 (Int32.not_lt.mpr h)))) hr dX5_checkFloor_20 (Nat.le_of_ble_eq_true rfl) (Nat.le_of_ble_eq_true rfl) (fun _ h => h)
    · exact sv_throwIO C hl hxt ks_238 dX5_checkFloor_10 dX5_checkFloor_13 dX5_checkFloor_14 dX5_checkFloor_16 dX5_checkFloor_19 (Nat.le_of_ble_eq_true rfl) (Nat.le_of_ble_eq_true rfl) (Nat.le_of_ble_eq_true rfl) (Nat.le_of_ble_eq_true rfl) (Nat.le_of_ble_eq_true rfl) (Nat.le_of_ble_eq_true rfl) (⟨if_pos (Or.inr (Int32.not_lt.mp q7)), rfl⟩) sv_Wz_grow

set_option maxHeartbeats 4000000 in
set_option maxRecDepth 100000 in
theorem met_checkSetting (l : Launch) (G : sv_G) (hl : l.stackTraces = false) (z : Nat) (M : sv_M) (o : Int64) (f : Int32) : sv_MetX l G yX5_checkSetting cX5_checkSetting 1 none 6 1 [.int f] (sv_W G z M o) (inC 4 f = 0) none (sv_W G z M o) (sv_E1 sv_IO (inC 4 f)) (sv_Wz G z M o) := by
  refine sv_ofWX (by decide) kw_317 (Nat.le_of_ble_eq_true rfl) ?_
  intro p e s mth args below meth c hr C hxt
  refine sv_sub (lv' := [(0, .int f)]) rfl ?_
  refine sv_iload_n (i := 0) (x := f) C dX5_checkSetting_0 rfl rfl ?_
  refine sv_if_lt C 12 dX5_checkSetting_1 (by decide) (fun q1 => ?_) (fun q1 => ?_)
  · exact sv_throwIO C hl hxt ks_245 dX5_checkSetting_12 dX5_checkSetting_15 dX5_checkSetting_16 dX5_checkSetting_18 dX5_checkSetting_21 (Nat.le_of_ble_eq_true rfl) (Nat.le_of_ble_eq_true rfl) (Nat.le_of_ble_eq_true rfl) (Nat.le_of_ble_eq_true rfl) (Nat.le_of_ble_eq_true rfl) (Nat.le_of_ble_eq_true rfl) (⟨if_pos (Or.inl q1), rfl⟩) sv_Wz_grow
  · refine sv_iload_n (i := 0) (x := f) C dX5_checkSetting_4 rfl rfl ?_
    refine sv_gets0 C kw_318 dX5_checkSetting_5 ?_
    refine sv_salen0 C dX5_checkSetting_8 ?_
    refine sv_icmp_lt C 22 dX5_checkSetting_9 (by decide) (fun q9 => ?_) (fun q9 => ?_)
    · exact sv_vretX C (if_neg (fun h => h.elim q1 (fun h => absurd q9 (Int32.not_lt.mpr h)))) hr dX5_checkSetting_22 (Nat.le_of_ble_eq_true rfl) (Nat.le_of_ble_eq_true rfl) (fun _ h => h)
    · exact sv_throwIO C hl hxt ks_245 dX5_checkSetting_12 dX5_checkSetting_15 dX5_checkSetting_16 dX5_checkSetting_18 dX5_checkSetting_21 (Nat.le_of_ble_eq_true rfl) (Nat.le_of_ble_eq_true rfl) (Nat.le_of_ble_eq_true rfl) (Nat.le_of_ble_eq_true rfl) (Nat.le_of_ble_eq_true rfl) (Nat.le_of_ble_eq_true rfl) (⟨if_pos (Or.inr (Int32.not_lt.mp q9)), rfl⟩) sv_Wz_grow

set_option maxHeartbeats 4000000 in
set_option maxRecDepth 100000 in
theorem met_checkSeconds (l : Launch) (G : sv_G) (hl : l.stackTraces = false) (z : Nat) (M : sv_M) (o : Int64) (f : Int32) : sv_MetX l G yX5_checkSeconds cX5_checkSeconds 1 none 6 1 [.int f] (sv_W G z M o) (secC f = 0) none (sv_W G z M o) (sv_E1 sv_IA (secC f)) (sv_Wz G z M o) := by
  refine sv_ofWX (by decide) kw_327 (Nat.le_of_ble_eq_true rfl) ?_
  intro p e s mth args below meth c hr C hxt
  refine sv_sub (lv' := [(0, .int f)]) rfl ?_
  refine sv_iload_n (i := 0) (x := f) C dX5_checkSeconds_0 rfl rfl ?_
  refine sv_iconst (v := nI 1) C dX5_checkSeconds_1 (by decide) ?_
  refine sv_icmp_lt C 12 dX5_checkSeconds_2 (by decide) (fun q2 => ?_) (fun q2 => ?_)
  · exact sv_throwIA C hl hxt ks_247 dX5_checkSeconds_12 dX5_checkSeconds_15 dX5_checkSeconds_16 dX5_checkSeconds_18 dX5_checkSeconds_21 (Nat.le_of_ble_eq_true rfl) (Nat.le_of_ble_eq_true rfl) (Nat.le_of_ble_eq_true rfl) (Nat.le_of_ble_eq_true rfl) (Nat.le_of_ble_eq_true rfl) (Nat.le_of_ble_eq_true rfl) (⟨if_pos (Or.inl q2), rfl⟩) sv_Wz_grow
  · refine sv_iload_n (i := 0) (x := f) C dX5_checkSeconds_5 rfl rfl ?_
    refine sv_sipush (v := nI 300) C dX5_checkSeconds_6 (by decide) ?_
    refine sv_icmp_le C 22 dX5_checkSeconds_9 (by decide) (fun q9 => ?_) (fun q9 => ?_)
    · exact sv_vretX C (if_neg (fun h => h.elim q2 (fun h => absurd q9 (Int32.not_le.mpr h)))) hr dX5_checkSeconds_22 (Nat.le_of_ble_eq_true rfl) (Nat.le_of_ble_eq_true rfl) (fun _ h => h)
    · exact sv_throwIA C hl hxt ks_247 dX5_checkSeconds_12 dX5_checkSeconds_15 dX5_checkSeconds_16 dX5_checkSeconds_18 dX5_checkSeconds_21 (Nat.le_of_ble_eq_true rfl) (Nat.le_of_ble_eq_true rfl) (Nat.le_of_ble_eq_true rfl) (Nat.le_of_ble_eq_true rfl) (Nat.le_of_ble_eq_true rfl) (Nat.le_of_ble_eq_true rfl) (⟨if_pos (Or.inr (Int32.not_le.mp q9)), rfl⟩) sv_Wz_grow

set_option maxHeartbeats 4000000 in
set_option maxRecDepth 100000 in
theorem met_checkWhat (l : Launch) (G : sv_G) (hl : l.stackTraces = false) (z : Nat) (M : sv_M) (o : Int64) (f : Int32) (n9 : Nat) : sv_MetX l G yX5_checkWhat cX5_checkWhat 2 none 6 1 [.int f, .int (nI n9)] (sv_W G z M o) (inC n9 f = 0) none (sv_W G z M o) (sv_E1 sv_IA (inC n9 f)) (sv_Wz G z M o) := by
  refine sv_ofWX (by decide) kw_260 (Nat.le_of_ble_eq_true rfl) ?_
  intro p e s mth args below meth c hr C hxt
  refine sv_sub (lv' := [(0, .int f), (1, .int (nI n9))]) rfl ?_
  refine sv_iload_n (i := 0) (x := f) C dX5_checkWhat_0 rfl rfl ?_
  refine sv_if_lt C 9 dX5_checkWhat_1 (by decide) (fun q1 => ?_) (fun q1 => ?_)
  · exact sv_throwIA C hl hxt ks_249 dX5_checkWhat_9 dX5_checkWhat_12 dX5_checkWhat_13 dX5_checkWhat_15 dX5_checkWhat_18 (Nat.le_of_ble_eq_true rfl) (Nat.le_of_ble_eq_true rfl) (Nat.le_of_ble_eq_true rfl) (Nat.le_of_ble_eq_true rfl) (Nat.le_of_ble_eq_true rfl) (Nat.le_of_ble_eq_true rfl) (⟨if_pos (Or.inl q1), rfl⟩) sv_Wz_grow
  · refine sv_iload_n (i := 0) (x := f) C dX5_checkWhat_4 rfl rfl ?_
    refine sv_iload_n (i := 1) (x := nI n9) C dX5_checkWhat_5 rfl rfl ?_
    refine sv_icmp_lt C 19 dX5_checkWhat_6 (by decide) (fun q6 => ?_) (fun q6 => ?_)
    · exact sv_vretX C (if_neg (fun h => h.elim q1 (fun h => absurd q6 (Int32.not_lt.mpr h)))) hr dX5_checkWhat_19 (Nat.le_of_ble_eq_true rfl) (Nat.le_of_ble_eq_true rfl) (fun _ h => h)
    · exact sv_throwIA C hl hxt ks_249 dX5_checkWhat_9 dX5_checkWhat_12 dX5_checkWhat_13 dX5_checkWhat_15 dX5_checkWhat_18 (Nat.le_of_ble_eq_true rfl) (Nat.le_of_ble_eq_true rfl) (Nat.le_of_ble_eq_true rfl) (Nat.le_of_ble_eq_true rfl) (Nat.le_of_ble_eq_true rfl) (Nat.le_of_ble_eq_true rfl) (⟨if_pos (Or.inr (Int32.not_lt.mp q6)), rfl⟩) sv_Wz_grow

set_option maxHeartbeats 4000000 in
set_option maxRecDepth 100000 in
theorem met_checkWay (l : Launch) (G : sv_G) (hl : l.stackTraces = false) (z : Nat) (M : sv_M) (o : Int64) (f t : Int32) : sv_MetX l G yX5_checkWay cX5_checkWay 2 none 7 3 [.int f, .int t] (sv_W G z M o) (wayC f t = 0) none (sv_W G z M o) (sv_E2 sv_IO sv_IA (wayC f t)) (sv_Wz G z M o) := by
  refine sv_ofWX (by decide) kw_411 (Nat.le_of_ble_eq_true rfl) ?_
  intro p e s mth args below meth c hr C hxt
  refine sv_sub (lv' := [(0, .int f), (1, .int t)]) rfl ?_
  refine sv_iload_n (i := 0) (x := f) C dX5_checkWay_0 rfl rfl ?_
  refine sv_callSX (as := [_]) (rest := []) C (met_checkFloor l G hl _ _ _ f) fX5_checkFloor kw_187 ⟨Nat.le_of_ble_eq_true rfl, Nat.le_of_ble_eq_true rfl⟩ (Nat.le_of_ble_eq_true rfl) dX5_checkWay_1 ⟨Nat.le_of_ble_eq_true rfl, Nat.le_of_ble_eq_true rfl⟩ (fun E hE => sv_out C hxt (Nat.le_of_ble_eq_true rfl) (Nat.le_of_ble_eq_true rfl) (Or.inl ⟨if_pos (Or.inl hE.1), hE.2⟩) (fun _ h => h)) ?_
  intro ok1
  refine sv_rv ?_
  refine sv_iload_n (i := 1) (x := t) C dX5_checkWay_4 rfl rfl ?_
  refine sv_callSX (as := [_]) (rest := []) C (met_checkFloor l G hl _ _ _ t) fX5_checkFloor kw_187 ⟨Nat.le_of_ble_eq_true rfl, Nat.le_of_ble_eq_true rfl⟩ (Nat.le_of_ble_eq_true rfl) dX5_checkWay_5 ⟨Nat.le_of_ble_eq_true rfl, Nat.le_of_ble_eq_true rfl⟩ (fun E hE => sv_out C hxt (Nat.le_of_ble_eq_true rfl) (Nat.le_of_ble_eq_true rfl) (Or.inl ⟨if_pos (Or.inr hE.1), hE.2⟩) (fun _ h => h)) ?_
  intro ok2
  refine sv_rv ?_
  refine sv_iload_n (i := 0) (x := f) C dX5_checkWay_8 rfl rfl ?_
  refine sv_iload_n (i := 1) (x := t) C dX5_checkWay_9 rfl rfl ?_
  refine sv_icmp_ne C 23 dX5_checkWay_10 (by decide) (fun q10 => ?_) (fun q10 => ?_)
  · exact sv_vretX C (by unfold wayC; rw [if_neg (fun h => h.elim (fun h => absurd (h.symm.trans ok1) (by decide)) (fun h => absurd (h.symm.trans ok2) (by decide))), if_neg q10]) hr dX5_checkWay_23 (Nat.le_of_ble_eq_true rfl) (Nat.le_of_ble_eq_true rfl) (fun _ h => h)
  · exact sv_throwIA C hl hxt ks_240 dX5_checkWay_13 dX5_checkWay_16 dX5_checkWay_17 dX5_checkWay_19 dX5_checkWay_22 (Nat.le_of_ble_eq_true rfl) (Nat.le_of_ble_eq_true rfl) (Nat.le_of_ble_eq_true rfl) (Nat.le_of_ble_eq_true rfl) (Nat.le_of_ble_eq_true rfl) (Nat.le_of_ble_eq_true rfl) (Or.inr ⟨by unfold wayC; rw [if_neg (fun h => h.elim (fun h => absurd (h.symm.trans ok1) (by decide)) (fun h => absurd (h.symm.trans ok2) (by decide))), if_pos q10], rfl⟩) sv_Wz_grow

theorem met_save {l : Launch} {G : sv_G} {z : Nat} {M : sv_M} {o : Int64} {od hd : Nat} (hod : od < 6) (h0 : M 8 0 = nI od) (h1 : M 8 1 = nI hd) (hd6 : hd ≤ 6) (b6 : M 0 6 = 0 ∨ M 0 6 = 1) (b7 : M 0 7 = 0 ∨ M 0 7 = 1) : sv_Met l G yX1_save cX1_save 3 none 3 [.ref (sv_r G 15 0), .ref (sv_r G 0 0)] (sv_W G z M o) none (sv_W G z (sav od hd M) o) := by
  unfold sav savO savH savK
  by_cases h : hd < 6
  · rw [if_pos h, if_pos h, if_pos h]
    exact met_save_lo l G z M o od hd _ hod h0 h1 h rfl b6 b7
  · rw [if_neg h, if_neg h, if_neg h]
    exact met_save_hi l G z M o od hd _ hod h0 h1 (by omega) rfl b6 b7
set_option maxHeartbeats 4000000 in
set_option maxRecDepth 100000 in
theorem met_come (l : Launch) (G : sv_G) (hl : l.stackTraces = false) (z : Nat) (M : sv_M) (o : Int64) (f t : Int32) (od hd : Nat) (hod : od < 6) (h0 : M 8 0 = nI od) (h1 : M 8 1 = nI hd) (hd6 : hd ≤ 6) (b6 : M 0 6 = 0 ∨ M 0 6 = 1) (b7 : M 0 7 = 0 ∨ M 0 7 = 1) (m : Nat) (hm : M 0 57 = nI m) (hm7 : m ≤ 6) : sv_MetX l G yX5_come cX5_come 3 (some .int) 8 4 [.ref (sv_r G 14 0), .int f, .int t] (sv_W G z M o) (comC m f t = 0) (some (.int (M 0 5))) (sv_W G z (sv_u (sav od hd M) 0 (entv m f t (M 0 3) (M 0))) o) (sv_E3 sv_IO sv_IA sv_IS (comC m f t)) (sv_Wz G z M o) := by
  refine sv_ofWX (by decide) kw_483 (Nat.le_of_ble_eq_true rfl) ?_
  intro p e s mth args below meth c hr C hxt
  refine sv_sub (lv' := [(0, .ref (sv_r G 14 0)), (1, .int f), (2, .int t)]) rfl ?_
  refine sv_iload_n (i := 1) (x := f) C dX5_come_0 rfl rfl ?_
  refine sv_iload_n (i := 2) (x := t) C dX5_come_1 rfl rfl ?_
  refine sv_callSX (as := [_, _]) (rest := []) C (met_checkWay l G hl _ _ _ f t) fX5_checkWay kw_409 ⟨Nat.le_of_ble_eq_true rfl, Nat.le_of_ble_eq_true rfl⟩ (Nat.le_of_ble_eq_true rfl) dX5_come_2 ⟨Nat.le_of_ble_eq_true rfl, Nat.le_of_ble_eq_true rfl⟩ (fun E hE => sv_out C hxt (Nat.le_of_ble_eq_true rfl) (Nat.le_of_ble_eq_true rfl) (by
    rcases hE with ⟨h, e⟩ | ⟨h, e⟩
    · exact Or.inl ⟨by unfold comC; rw [if_neg (by rw [h]; decide)]; exact h, e⟩
    · exact Or.inr (Or.inl ⟨by unfold comC; rw [if_neg (by rw [h]; decide)]; exact h, e⟩)) (fun _ h => h)) ?_
  intro ok1
  refine sv_rv ?_
  refine sv_aload_n (i := 0) (x := sv_r G 14 0) C dX5_come_5 rfl rfl ?_
  refine sv_get_5_0 C kw_170 dX5_come_6 ?_
  refine sv_get_3_1 C (by decide) kw_111 dX5_come_9 ?_
  refine sv_get_2_4 C (by decide) kw_86 dX5_come_12 ?_
  refine sv_set (v' := .int (nI m)) (congrArg Value.int hm) ?_
  refine sv_bipush (v := nI 6) C dX5_come_15 (by decide) ?_
  refine sv_icmp_ltN C 30 dX5_come_17 (by decide) (by omega) (by omega) (fun q17 => ?_) (fun q17 => ?_)
  · refine sv_aload_n (i := 0) (x := sv_r G 14 0) C dX5_come_30 rfl rfl ?_
    refine sv_get_5_2 C kw_172 dX5_come_31 ?_
    refine sv_aload_n (i := 0) (x := sv_r G 14 0) C dX5_come_34 rfl rfl ?_
    refine sv_get_5_0 C kw_170 dX5_come_35 ?_
    refine sv_callV (as := [_]) (rest := []) C (met_save hod h0 h1 hd6 b6 b7) fX1_save kw_500 (sv_recv15 C) ⟨Nat.le_of_ble_eq_true rfl, Nat.le_of_ble_eq_true rfl⟩ (Nat.le_of_ble_eq_true rfl) dX5_come_38 ⟨Nat.le_of_ble_eq_true rfl, Nat.le_of_ble_eq_true rfl⟩  ?_
    refine sv_rv ?_
    refine sv_aload_n (i := 0) (x := sv_r G 14 0) C dX5_come_41 rfl rfl ?_
    refine sv_get_5_0 C kw_170 dX5_come_42 ?_
    refine sv_iload_n (i := 1) (x := f) C dX5_come_45 rfl rfl ?_
    refine sv_iload_n (i := 2) (x := t) C dX5_come_46 rfl rfl ?_
    refine sv_callV (as := [_, _]) (rest := []) C (met_letCome l G _ _ _ 0 (by decide) f t m (by rw [sav_0]; exact hm) (by omega)) fX3_letCome kw_418 (sv_recv0 C (by decide)) ⟨Nat.le_of_ble_eq_true rfl, Nat.le_of_ble_eq_true rfl⟩ (Nat.le_of_ble_eq_true rfl) dX5_come_47 ⟨Nat.le_of_ble_eq_true rfl, Nat.le_of_ble_eq_true rfl⟩  ?_
    refine sv_ri (fun v47 e47 => ?_)
    exact sv_iretX C (by unfold comC; rw [if_pos ok1, if_neg (by omega)]) hr dX5_come_50 (Nat.le_of_ble_eq_true rfl) (Nat.le_of_ble_eq_true rfl) (by rw [e47, sav_0]) (sv_eqW (by rw [sav_0]))
  · exact sv_throwIS C hl hxt ks_49 dX5_come_20 dX5_come_23 dX5_come_24 dX5_come_26 dX5_come_29 (Nat.le_of_ble_eq_true rfl) (Nat.le_of_ble_eq_true rfl) (Nat.le_of_ble_eq_true rfl) (Nat.le_of_ble_eq_true rfl) (Nat.le_of_ble_eq_true rfl) (Nat.le_of_ble_eq_true rfl) (Or.inr (Or.inr ⟨by unfold comC; rw [if_pos ok1, if_pos (by omega)], rfl⟩)) sv_Wz_grow

theorem plF_in {x : vX} {v : Int32} : ∀ t i, plF x v t i = (-1) ∨ ∃ g, i ≤ g ∧ g < i + t ∧ plF x v t i = nI g ∧ x (4 * g + 58) = v
  | 0, i => Or.inl rfl
  | t + 1, i => by
    unfold plF
    split
    · rename_i h
      exact Or.inr ⟨i, Nat.le_refl _, by omega, rfl, h⟩
    · rcases plF_in t (i + 1) with h | ⟨g, h1, h2, h3, h4⟩
      · exact Or.inl h
      · exact Or.inr ⟨g, by omega, by omega, h3, h4⟩
theorem nI_m1 {g : Nat} (h : g < 2147483648) : ¬ nI g = (-1) := fun e => by
  have h1 := congrArg Int32.toInt e
  rw [nI_toInt h] at h1
  have h2 : ((-1 : Int32)).toInt = -1 := by decide
  omega
set_option maxHeartbeats 4000000 in
set_option maxRecDepth 100000 in
theorem met_turn (l : Launch) (G : sv_G) (hl : l.stackTraces = false) (z : Nat) (M : sv_M) (o : Int64) (n t : Int32) (od hd : Nat) (hod : od < 6) (h0 : M 8 0 = nI od) (h1 : M 8 1 = nI hd) (hd6 : hd ≤ 6) (b6 : M 0 6 = 0 ∨ M 0 6 = 1) (b7 : M 0 7 = 0 ∨ M 0 7 = 1) (m : Nat) (hm : M 0 57 = nI m) (hm7 : m ≤ 6) : sv_MetX l G yX5_turn cX5_turn 5 (some .int) 7 1 [.ref (sv_r G 14 0), .int n, .int t] (sv_W G z M o) (trnC (M 0) m n t = 0) (some (.int (M 0 (4 * (plF (M 0) n m 0).toNatClampNeg + 60)))) (sv_W G z (sv_u (sav od hd M) 0 (trnv (plF (M 0) n m 0).toNatClampNeg t (M 0))) o) (sv_E1 sv_IO (trnC (M 0) m n t)) (sv_Wz G z M o) := by
  refine sv_ofWX (by decide) kw_520 (Nat.le_of_ble_eq_true rfl) ?_
  intro p e s mth args below meth c hr C hxt
  refine sv_sub (lv' := [(0, .ref (sv_r G 14 0)), (1, .int n), (2, .int t)]) rfl ?_
  refine sv_aload_n (i := 0) (x := sv_r G 14 0) C dX5_turn_0 rfl rfl ?_
  refine sv_get_5_0 C kw_170 dX5_turn_1 ?_
  refine sv_get_3_1 C (by decide) kw_111 dX5_turn_4 ?_
  refine sv_iload_n (i := 1) (x := n) C dX5_turn_7 rfl rfl ?_
  refine sv_callV (as := [_]) (rest := []) C (met_placeOf l G _ _ _ 0 (by decide) n m hm (by omega)) fX2_placeOf kw_431 (sv_recv8 C (by decide)) ⟨Nat.le_of_ble_eq_true rfl, Nat.le_of_ble_eq_true rfl⟩ (Nat.le_of_ble_eq_true rfl) dX5_turn_8 ⟨Nat.le_of_ble_eq_true rfl, Nat.le_of_ble_eq_true rfl⟩  ?_
  refine sv_ri (fun v8 e8 => ?_)
  refine sv_istore_n (i := 3) C [(0, .ref (sv_r G 14 0)), (1, .int n), (2, .int t), (3, .int v8)] dX5_turn_11 rfl (by decide) rfl ?_
  refine sv_iload_n (i := 3) (x := v8) C dX5_turn_12 rfl rfl ?_
  refine sv_iconst (v := (-1)) C dX5_turn_13 (by decide) ?_
  refine sv_icmp_ne C 27 dX5_turn_14 (by decide) (fun q14 => ?_) (fun q14 => ?_)
  · refine sv_iload_n (i := 2) (x := t) C dX5_turn_27 rfl rfl ?_
    refine sv_callSX (as := [_]) (rest := []) C (met_checkFloor l G hl _ _ _ t) fX5_checkFloor kw_187 ⟨Nat.le_of_ble_eq_true rfl, Nat.le_of_ble_eq_true rfl⟩ (Nat.le_of_ble_eq_true rfl) dX5_turn_28 ⟨Nat.le_of_ble_eq_true rfl, Nat.le_of_ble_eq_true rfl⟩ (fun E hE => sv_out C hxt (Nat.le_of_ble_eq_true rfl) (Nat.le_of_ble_eq_true rfl) (⟨by unfold trnC; rw [if_neg (fun h => q14 (e8.trans h))]; exact hE.1, hE.2⟩) (fun _ h => h)) ?_
    intro ok1
    refine sv_rv ?_
    obtain ⟨p9, hp1, hp2, hp3, hp4⟩ := (plF_in (x := M 0) (v := n) m 0).resolve_left (fun h => q14 (e8.trans h))
    rw [e8, hp3]
    refine sv_aload_n (i := 0) (x := sv_r G 14 0) C dX5_turn_31 rfl rfl ?_
    refine sv_get_5_2 C kw_172 dX5_turn_32 ?_
    refine sv_aload_n (i := 0) (x := sv_r G 14 0) C dX5_turn_35 rfl rfl ?_
    refine sv_get_5_0 C kw_170 dX5_turn_36 ?_
    refine sv_callV (as := [_]) (rest := []) C (met_save hod h0 h1 hd6 b6 b7) fX1_save kw_500 (sv_recv15 C) ⟨Nat.le_of_ble_eq_true rfl, Nat.le_of_ble_eq_true rfl⟩ (Nat.le_of_ble_eq_true rfl) dX5_turn_39 ⟨Nat.le_of_ble_eq_true rfl, Nat.le_of_ble_eq_true rfl⟩  ?_
    refine sv_rv ?_
    refine sv_aload_n (i := 0) (x := sv_r G 14 0) C dX5_turn_42 rfl rfl ?_
    refine sv_get_5_0 C kw_170 dX5_turn_43 ?_
    refine sv_get_3_1 C (by decide) kw_111 dX5_turn_46 ?_
    refine sv_get_2_2 C (by decide) kw_83 dX5_turn_49 ?_
    refine sv_iload_n (i := 3) (x := nI p9) C dX5_turn_52 rfl rfl ?_
    refine sv_callS (as := [_, _]) (rest := []) C (met_atN 0 (4 * p9 + 60) rfl rfl (sv_okj (by decide) (by decide)) rfl (by show _ < 7; omega)) fX5_at kw_320 ⟨Nat.le_of_ble_eq_true rfl, Nat.le_of_ble_eq_true rfl⟩ (Nat.le_of_ble_eq_true rfl) dX5_turn_53 ⟨Nat.le_of_ble_eq_true rfl, Nat.le_of_ble_eq_true rfl⟩  ?_
    refine sv_ri (fun v53 e53 => ?_)
    refine sv_istore (i := 4) C [(0, .ref (sv_r G 14 0)), (1, .int n), (2, .int t), (3, .int (nI p9)), (4, .int v53)] dX5_turn_56 (by decide) rfl ?_
    refine sv_aload_n (i := 0) (x := sv_r G 14 0) C dX5_turn_58 rfl rfl ?_
    refine sv_get_5_0 C kw_170 dX5_turn_59 ?_
    refine sv_get_3_1 C (by decide) kw_111 dX5_turn_62 ?_
    refine sv_iload_n (i := 3) (x := nI p9) C dX5_turn_65 rfl rfl ?_
    refine sv_iload_n (i := 2) (x := t) C dX5_turn_66 rfl rfl ?_
    refine sv_aload_n (i := 0) (x := sv_r G 14 0) C dX5_turn_67 rfl rfl ?_
    refine sv_get_5_0 C kw_170 dX5_turn_68 ?_
    refine sv_get_3_2 C (by decide) kw_113 dX5_turn_71 ?_
    refine sv_iconst (v := nI 3) C dX5_turn_74 (by decide) ?_
    refine sv_callS (as := [_, _]) (rest := [_, _, _]) C (met_atN 0 3 rfl rfl (sv_okj (by decide) (by decide)) rfl (by show _ < 4; omega)) fX5_at kw_320 ⟨Nat.le_of_ble_eq_true rfl, Nat.le_of_ble_eq_true rfl⟩ (Nat.le_of_ble_eq_true rfl) dX5_turn_75 ⟨Nat.le_of_ble_eq_true rfl, Nat.le_of_ble_eq_true rfl⟩  ?_
    refine sv_ri (fun v75 e75 => ?_)
    refine sv_callV (as := [_, _, _]) (rest := []) C (met_sendTo l G _ _ _ 0 p9 (by decide) (by omega) t v75) fX2_sendTo kw_522 (sv_recv8 C (by decide)) ⟨Nat.le_of_ble_eq_true rfl, Nat.le_of_ble_eq_true rfl⟩ (Nat.le_of_ble_eq_true rfl) dX5_turn_78 ⟨Nat.le_of_ble_eq_true rfl, Nat.le_of_ble_eq_true rfl⟩  ?_
    refine sv_rv ?_
    refine sv_iload (i := 4) (x := v53) C dX5_turn_81 rfl ?_
    exact sv_iretX C (by unfold trnC; rw [if_neg (fun h => q14 (e8.trans h))]; exact ok1) hr dX5_turn_83 (Nat.le_of_ble_eq_true rfl) (Nat.le_of_ble_eq_true rfl) (by rw [e53, sav_0, nI_clamp (by omega)]) (sv_eqW (by rw [e75, sav_0, nI_clamp (by omega)]; rfl))
  · exact sv_throwIO C hl hxt ks_68 dX5_turn_17 dX5_turn_20 dX5_turn_21 dX5_turn_23 dX5_turn_26 (Nat.le_of_ble_eq_true rfl) (Nat.le_of_ble_eq_true rfl) (Nat.le_of_ble_eq_true rfl) (Nat.le_of_ble_eq_true rfl) (Nat.le_of_ble_eq_true rfl) (Nat.le_of_ble_eq_true rfl) (⟨if_pos (e8.symm.trans q14), rfl⟩) sv_Wz_grow

set_option maxHeartbeats 4000000 in
set_option maxRecDepth 100000 in
theorem met_press (l : Launch) (G : sv_G) (hl : l.stackTraces = false) (z : Nat) (M : sv_M) (o : Int64) (f : Int32) (od hd : Nat) (hod : od < 6) (h0 : M 8 0 = nI od) (h1 : M 8 1 = nI hd) (hd6 : hd ≤ 6) (b6 : M 0 6 = 0 ∨ M 0 6 = 1) (b7 : M 0 7 = 0 ∨ M 0 7 = 1) : sv_MetX l G yX5_press cX5_press 3 (some .int) 7 1 [.ref (sv_r G 14 0), .int f] (sv_W G z M o) (inC 8 f = 0) (some (.int (M 0 (6 * f.toNatClampNeg + 9)))) (sv_W G z (sv_u (sav od hd M) 0 (sw (M 0 0) f.toNatClampNeg (M 0))) o) (sv_E1 sv_IO (inC 8 f)) (sv_Wz G z M o) := by
  refine sv_ofWX (by decide) kw_526 (Nat.le_of_ble_eq_true rfl) ?_
  intro p e s mth args below meth c hr C hxt
  refine sv_sub (lv' := [(0, .ref (sv_r G 14 0)), (1, .int f)]) rfl ?_
  refine sv_iload_n (i := 1) (x := f) C dX5_press_0 rfl rfl ?_
  refine sv_callSX (as := [_]) (rest := []) C (met_checkFloor l G hl _ _ _ f) fX5_checkFloor kw_187 ⟨Nat.le_of_ble_eq_true rfl, Nat.le_of_ble_eq_true rfl⟩ (Nat.le_of_ble_eq_true rfl) dX5_press_1 ⟨Nat.le_of_ble_eq_true rfl, Nat.le_of_ble_eq_true rfl⟩ (fun E hE => sv_out C hxt (Nat.le_of_ble_eq_true rfl) (Nat.le_of_ble_eq_true rfl) (hE) (fun _ h => h)) ?_
  intro ok1
  refine sv_rv ?_
  obtain ⟨g1, hg1, rfl⟩ := inC_0 (by decide) ok1
  refine sv_aload_n (i := 0) (x := sv_r G 14 0) C dX5_press_4 rfl rfl ?_
  refine sv_get_5_2 C kw_172 dX5_press_5 ?_
  refine sv_aload_n (i := 0) (x := sv_r G 14 0) C dX5_press_8 rfl rfl ?_
  refine sv_get_5_0 C kw_170 dX5_press_9 ?_
  refine sv_callV (as := [_]) (rest := []) C (met_save hod h0 h1 hd6 b6 b7) fX1_save kw_500 (sv_recv15 C) ⟨Nat.le_of_ble_eq_true rfl, Nat.le_of_ble_eq_true rfl⟩ (Nat.le_of_ble_eq_true rfl) dX5_press_12 ⟨Nat.le_of_ble_eq_true rfl, Nat.le_of_ble_eq_true rfl⟩  ?_
  refine sv_rv ?_
  refine sv_aload_n (i := 0) (x := sv_r G 14 0) C dX5_press_15 rfl rfl ?_
  refine sv_get_5_0 C kw_170 dX5_press_16 ?_
  refine sv_get_3_0 C (by decide) kw_109 dX5_press_19 ?_
  refine sv_get_0_0 C (by decide) kw_42 dX5_press_22 ?_
  refine sv_iload_n (i := 1) (x := nI g1) C dX5_press_25 rfl rfl ?_
  refine sv_callS (as := [_, _]) (rest := []) C (met_atN 0 (6 * g1 + 9) rfl rfl (sv_okj (by decide) (by decide)) rfl (by show _ < 8; omega)) fX5_at kw_320 ⟨Nat.le_of_ble_eq_true rfl, Nat.le_of_ble_eq_true rfl⟩ (Nat.le_of_ble_eq_true rfl) dX5_press_26 ⟨Nat.le_of_ble_eq_true rfl, Nat.le_of_ble_eq_true rfl⟩  ?_
  refine sv_ri (fun v26 e26 => ?_)
  refine sv_istore_n (i := 2) C [(0, .ref (sv_r G 14 0)), (1, .int (nI g1)), (2, .int v26)] dX5_press_29 rfl (by decide) rfl ?_
  refine sv_aload_n (i := 0) (x := sv_r G 14 0) C dX5_press_30 rfl rfl ?_
  refine sv_get_5_0 C kw_170 dX5_press_31 ?_
  refine sv_iload_n (i := 1) (x := nI g1) C dX5_press_34 rfl rfl ?_
  refine sv_callV (as := [_]) (rest := []) C (met_switchOn l G _ _ _ 0 g1 (by decide) (by omega)) fX3_switchOn kw_527 (sv_recv0 C (by decide)) ⟨Nat.le_of_ble_eq_true rfl, Nat.le_of_ble_eq_true rfl⟩ (Nat.le_of_ble_eq_true rfl) dX5_press_35 ⟨Nat.le_of_ble_eq_true rfl, Nat.le_of_ble_eq_true rfl⟩  ?_
  refine sv_rv ?_
  refine sv_iload_n (i := 2) (x := v26) C dX5_press_38 rfl rfl ?_
  exact sv_iretX C ok1 hr dX5_press_39 (Nat.le_of_ble_eq_true rfl) (Nat.le_of_ble_eq_true rfl) (by rw [e26, sav_0, nI_clamp (by omega)]) (sv_eqW (by rw [sav_0, nI_clamp (by omega)]))

set_option maxHeartbeats 4000000 in
set_option maxRecDepth 100000 in
theorem met_sensor (l : Launch) (G : sv_G) (hl : l.stackTraces = false) (z : Nat) (M : sv_M) (o : Int64) (f b : Int32) (hb : b = 0 ∨ b = 1) (od hd : Nat) (hod : od < 6) (h0 : M 8 0 = nI od) (h1 : M 8 1 = nI hd) (hd6 : hd ≤ 6) (b6 : M 0 6 = 0 ∨ M 0 6 = 1) (b7 : M 0 7 = 0 ∨ M 0 7 = 1) : sv_MetX l G yX5_sensor cX5_sensor 4 (some .int) 7 1 [.ref (sv_r G 14 0), .int f, .int b] (sv_W G z M o) (inC 8 f = 0) (some (.int (M 0 (6 * f.toNatClampNeg + 10)))) (sv_W G z (sv_u (sav od hd M) 0 (upd (M 0) (6 * f.toNatClampNeg + 10) b)) o) (sv_E1 sv_IO (inC 8 f)) (sv_Wz G z M o) := by
  refine sv_ofWX (by decide) kw_531 (Nat.le_of_ble_eq_true rfl) ?_
  intro p e s mth args below meth c hr C hxt
  refine sv_sub (lv' := [(0, .ref (sv_r G 14 0)), (1, .int f), (2, .int b)]) rfl ?_
  refine sv_iload_n (i := 1) (x := f) C dX5_sensor_0 rfl rfl ?_
  refine sv_callSX (as := [_]) (rest := []) C (met_checkFloor l G hl _ _ _ f) fX5_checkFloor kw_187 ⟨Nat.le_of_ble_eq_true rfl, Nat.le_of_ble_eq_true rfl⟩ (Nat.le_of_ble_eq_true rfl) dX5_sensor_1 ⟨Nat.le_of_ble_eq_true rfl, Nat.le_of_ble_eq_true rfl⟩ (fun E hE => sv_out C hxt (Nat.le_of_ble_eq_true rfl) (Nat.le_of_ble_eq_true rfl) (hE) (fun _ h => h)) ?_
  intro ok1
  refine sv_rv ?_
  obtain ⟨g1, hg1, rfl⟩ := inC_0 (by decide) ok1
  refine sv_aload_n (i := 0) (x := sv_r G 14 0) C dX5_sensor_4 rfl rfl ?_
  refine sv_get_5_2 C kw_172 dX5_sensor_5 ?_
  refine sv_aload_n (i := 0) (x := sv_r G 14 0) C dX5_sensor_8 rfl rfl ?_
  refine sv_get_5_0 C kw_170 dX5_sensor_9 ?_
  refine sv_callV (as := [_]) (rest := []) C (met_save hod h0 h1 hd6 b6 b7) fX1_save kw_500 (sv_recv15 C) ⟨Nat.le_of_ble_eq_true rfl, Nat.le_of_ble_eq_true rfl⟩ (Nat.le_of_ble_eq_true rfl) dX5_sensor_12 ⟨Nat.le_of_ble_eq_true rfl, Nat.le_of_ble_eq_true rfl⟩  ?_
  refine sv_rv ?_
  refine sv_aload_n (i := 0) (x := sv_r G 14 0) C dX5_sensor_15 rfl rfl ?_
  refine sv_get_5_0 C kw_170 dX5_sensor_16 ?_
  refine sv_get_3_0 C (by decide) kw_109 dX5_sensor_19 ?_
  refine sv_get_0_1 C (by decide) kw_45 dX5_sensor_22 ?_
  refine sv_iload_n (i := 1) (x := nI g1) C dX5_sensor_25 rfl rfl ?_
  refine sv_callS (as := [_, _]) (rest := []) C (met_atN 0 (6 * g1 + 10) rfl rfl (sv_okj (by decide) (by decide)) rfl (by show _ < 8; omega)) fX5_at kw_320 ⟨Nat.le_of_ble_eq_true rfl, Nat.le_of_ble_eq_true rfl⟩ (Nat.le_of_ble_eq_true rfl) dX5_sensor_26 ⟨Nat.le_of_ble_eq_true rfl, Nat.le_of_ble_eq_true rfl⟩  ?_
  refine sv_ri (fun v26 e26 => ?_)
  refine sv_istore_n (i := 3) C [(0, .ref (sv_r G 14 0)), (1, .int (nI g1)), (2, .int b), (3, .int v26)] dX5_sensor_29 rfl (by decide) rfl ?_
  refine sv_aload_n (i := 0) (x := sv_r G 14 0) C dX5_sensor_30 rfl rfl ?_
  refine sv_get_5_0 C kw_170 dX5_sensor_31 ?_
  refine sv_get_3_0 C (by decide) kw_109 dX5_sensor_34 ?_
  refine sv_get_0_1 C (by decide) kw_45 dX5_sensor_37 ?_
  refine sv_iload_n (i := 1) (x := nI g1) C dX5_sensor_40 rfl rfl ?_
  refine sv_iload_n (i := 2) (x := b) C dX5_sensor_41 rfl rfl ?_
  refine sv_callS (as := [_]) (rest := [_, _]) C (met_numberOf l G _ b hb) fX5_numberOf kw_308 ⟨Nat.le_of_ble_eq_true rfl, Nat.le_of_ble_eq_true rfl⟩ (Nat.le_of_ble_eq_true rfl) dX5_sensor_42 ⟨Nat.le_of_ble_eq_true rfl, Nat.le_of_ble_eq_true rfl⟩  ?_
  refine sv_riS b rfl ?_
  refine sv_callS (as := [_, _, _]) (rest := []) C (met_putN 0 (6 * g1 + 10) rfl rfl (sv_okj (by decide) (by decide)) rfl (by show _ < 8; omega)) fX5_put kw_417 ⟨Nat.le_of_ble_eq_true rfl, Nat.le_of_ble_eq_true rfl⟩ (Nat.le_of_ble_eq_true rfl) dX5_sensor_45 ⟨Nat.le_of_ble_eq_true rfl, Nat.le_of_ble_eq_true rfl⟩  ?_
  refine sv_rv ?_
  refine sv_iload_n (i := 3) (x := v26) C dX5_sensor_48 rfl rfl ?_
  exact sv_iretX C ok1 hr dX5_sensor_49 (Nat.le_of_ble_eq_true rfl) (Nat.le_of_ble_eq_true rfl) (by rw [e26, sav_0, nI_clamp (by omega)]) (sv_eqW (by rw [sv_wu, sav_0, nI_clamp (by omega)]))

set_option maxHeartbeats 4000000 in
set_option maxRecDepth 100000 in
theorem met_night (l : Launch) (G : sv_G) (z : Nat) (M : sv_M) (o : Int64) (b : Int32) (hb : b = 0 ∨ b = 1) (od hd : Nat) (hod : od < 6) (h0 : M 8 0 = nI od) (h1 : M 8 1 = nI hd) (hd6 : hd ≤ 6) (b6 : M 0 6 = 0 ∨ M 0 6 = 1) (b7 : M 0 7 = 0 ∨ M 0 7 = 1) : sv_Met l G yX5_night cX5_night 3 (some .int) 4 [.ref (sv_r G 14 0), .int b] (sv_W G z M o) (some (.int (M 0 6))) (sv_W G z (sv_u (sav od hd M) 0 (upd (M 0) 6 b)) o) := by
  refine sv_ofW (by decide) kw_535 (Nat.le_of_ble_eq_true rfl) ?_
  intro p e s mth args below meth c hr C _
  refine sv_sub (lv' := [(0, .ref (sv_r G 14 0)), (1, .int b)]) rfl ?_
  refine sv_aload_n (i := 0) (x := sv_r G 14 0) C dX5_night_0 rfl rfl ?_
  refine sv_get_5_2 C kw_172 dX5_night_1 ?_
  refine sv_aload_n (i := 0) (x := sv_r G 14 0) C dX5_night_4 rfl rfl ?_
  refine sv_get_5_0 C kw_170 dX5_night_5 ?_
  refine sv_callV (as := [_]) (rest := []) C (met_save hod h0 h1 hd6 b6 b7) fX1_save kw_500 (sv_recv15 C) ⟨Nat.le_of_ble_eq_true rfl, Nat.le_of_ble_eq_true rfl⟩ (Nat.le_of_ble_eq_true rfl) dX5_night_8 ⟨Nat.zero_le _, Nat.zero_le _⟩  ?_
  refine sv_rv ?_
  refine sv_aload_n (i := 0) (x := sv_r G 14 0) C dX5_night_11 rfl rfl ?_
  refine sv_get_5_0 C kw_170 dX5_night_12 ?_
  refine sv_get_3_3 C (by decide) kw_115 dX5_night_15 ?_
  refine sv_set (v' := .int (M 0 6)) (congrArg Value.int (by rw [sav_0])) ?_
  refine sv_callS (as := [_]) (rest := []) C (met_numberOf l G _ (M 0 6) b6) fX5_numberOf kw_308 ⟨Nat.le_of_ble_eq_true rfl, Nat.le_of_ble_eq_true rfl⟩ (Nat.le_of_ble_eq_true rfl) dX5_night_18 ⟨Nat.zero_le _, Nat.zero_le _⟩  ?_
  refine sv_riS (M 0 6) rfl ?_
  refine sv_istore_n (i := 2) C [(0, .ref (sv_r G 14 0)), (1, .int b), (2, .int (M 0 6))] dX5_night_21 rfl (by decide) rfl ?_
  refine sv_aload_n (i := 0) (x := sv_r G 14 0) C dX5_night_22 rfl rfl ?_
  refine sv_get_5_0 C kw_170 dX5_night_23 ?_
  refine sv_iload_n (i := 1) (x := b) C dX5_night_26 rfl rfl ?_
  refine sv_put_3_3 C (by decide) hb kw_115 dX5_night_27 ?_
  refine sv_iload_n (i := 2) (x := M 0 6) C dX5_night_30 rfl rfl ?_
  exact sv_iret C hr dX5_night_31 (Nat.le_of_ble_eq_true rfl) (Nat.le_of_ble_eq_true rfl) rfl (sv_eqW (by rw [sv_wu, sav_0]))

set_option maxHeartbeats 4000000 in
set_option maxRecDepth 100000 in
theorem met_fire (l : Launch) (G : sv_G) (z : Nat) (M : sv_M) (o : Int64) (b : Int32) (hb : b = 0 ∨ b = 1) (od hd : Nat) (hod : od < 6) (h0 : M 8 0 = nI od) (h1 : M 8 1 = nI hd) (hd6 : hd ≤ 6) (b6 : M 0 6 = 0 ∨ M 0 6 = 1) (b7 : M 0 7 = 0 ∨ M 0 7 = 1) : sv_Met l G yX5_fire cX5_fire 3 (some .int) 5 [.ref (sv_r G 14 0), .int b] (sv_W G z M o) (some (.int (M 0 7))) (sv_W G z (sv_u (sav od hd M) 0 (firv b (M 0))) o) := by
  refine sv_ofW (by decide) kw_539 (Nat.le_of_ble_eq_true rfl) ?_
  intro p e s mth args below meth c hr C _
  refine sv_sub (lv' := [(0, .ref (sv_r G 14 0)), (1, .int b)]) rfl ?_
  refine sv_aload_n (i := 0) (x := sv_r G 14 0) C dX5_fire_0 rfl rfl ?_
  refine sv_get_5_2 C kw_172 dX5_fire_1 ?_
  refine sv_aload_n (i := 0) (x := sv_r G 14 0) C dX5_fire_4 rfl rfl ?_
  refine sv_get_5_0 C kw_170 dX5_fire_5 ?_
  refine sv_callV (as := [_]) (rest := []) C (met_save hod h0 h1 hd6 b6 b7) fX1_save kw_500 (sv_recv15 C) ⟨Nat.le_of_ble_eq_true rfl, Nat.le_of_ble_eq_true rfl⟩ (Nat.le_of_ble_eq_true rfl) dX5_fire_8 ⟨Nat.zero_le _, Nat.zero_le _⟩  ?_
  refine sv_rv ?_
  refine sv_aload_n (i := 0) (x := sv_r G 14 0) C dX5_fire_11 rfl rfl ?_
  refine sv_get_5_0 C kw_170 dX5_fire_12 ?_
  refine sv_get_3_4 C (by decide) kw_117 dX5_fire_15 ?_
  refine sv_set (v' := .int (M 0 7)) (congrArg Value.int (by rw [sav_0])) ?_
  refine sv_callS (as := [_]) (rest := []) C (met_numberOf l G _ (M 0 7) b7) fX5_numberOf kw_308 ⟨Nat.le_of_ble_eq_true rfl, Nat.le_of_ble_eq_true rfl⟩ (Nat.le_of_ble_eq_true rfl) dX5_fire_18 ⟨Nat.zero_le _, Nat.zero_le _⟩  ?_
  refine sv_riS (M 0 7) rfl ?_
  refine sv_istore_n (i := 2) C [(0, .ref (sv_r G 14 0)), (1, .int b), (2, .int (M 0 7))] dX5_fire_21 rfl (by decide) rfl ?_
  refine sv_aload_n (i := 0) (x := sv_r G 14 0) C dX5_fire_22 rfl rfl ?_
  refine sv_get_5_0 C kw_170 dX5_fire_23 ?_
  refine sv_get_3_4 C (by decide) kw_117 dX5_fire_26 ?_
  refine sv_set (v' := .int (M 0 7)) (congrArg Value.int (by rw [sav_0])) ?_
  refine sv_if_eq C 43 dX5_fire_29 (by decide) (fun q29 => ?_) (fun q29 => ?_)
  · refine sv_aload_n (i := 0) (x := sv_r G 14 0) C dX5_fire_43 rfl rfl ?_
    refine sv_get_5_0 C kw_170 dX5_fire_44 ?_
    refine sv_iload_n (i := 1) (x := b) C dX5_fire_47 rfl rfl ?_
    refine sv_put_3_4 C (by decide) hb kw_117 dX5_fire_48 ?_
    refine sv_iload_n (i := 2) (x := M 0 7) C dX5_fire_51 rfl rfl ?_
    exact sv_iret C hr dX5_fire_52 (Nat.le_of_ble_eq_true rfl) (Nat.le_of_ble_eq_true rfl) rfl (sv_eqW (by rw [sv_wu, sav_0]; unfold firv; rw [if_neg (fun h => absurd (q29.symm.trans h.1) (by decide))]))
  · refine sv_iload_n (i := 1) (x := b) C dX5_fire_32 rfl rfl ?_
    refine sv_if_ne C 43 dX5_fire_33 (by decide) (fun q33 => ?_) (fun q33 => ?_)
    · refine sv_aload_n (i := 0) (x := sv_r G 14 0) C dX5_fire_43 rfl rfl ?_
      refine sv_get_5_0 C kw_170 dX5_fire_44 ?_
      refine sv_iload_n (i := 1) (x := b) C dX5_fire_47 rfl rfl ?_
      refine sv_put_3_4 C (by decide) hb kw_117 dX5_fire_48 ?_
      refine sv_iload_n (i := 2) (x := M 0 7) C dX5_fire_51 rfl rfl ?_
      exact sv_iret C hr dX5_fire_52 (Nat.le_of_ble_eq_true rfl) (Nat.le_of_ble_eq_true rfl) rfl (sv_eqW (by rw [sv_wu, sav_0]; unfold firv; rw [if_neg (fun h => q33 h.2)]))
    · refine sv_aload_n (i := 0) (x := sv_r G 14 0) C dX5_fire_36 rfl rfl ?_
      refine sv_get_5_0 C kw_170 dX5_fire_37 ?_
      refine sv_callV (as := []) (rest := []) C (met_switchAllOn l G _ _ _ 0 (by decide)) fX3_switchAllOn kw_540 (sv_recv0 C (by decide)) ⟨Nat.le_of_ble_eq_true rfl, Nat.le_of_ble_eq_true rfl⟩ (Nat.le_of_ble_eq_true rfl) dX5_fire_40 ⟨Nat.zero_le _, Nat.zero_le _⟩  ?_
      refine sv_rv ?_
      refine sv_aload_n (i := 0) (x := sv_r G 14 0) C dX5_fire_43 rfl rfl ?_
      refine sv_get_5_0 C kw_170 dX5_fire_44 ?_
      refine sv_iload_n (i := 1) (x := b) C dX5_fire_47 rfl rfl ?_
      refine sv_put_3_4 C (by decide) hb kw_117 dX5_fire_48 ?_
      refine sv_iload_n (i := 2) (x := M 0 7) C dX5_fire_51 rfl rfl ?_
      exact sv_iret C hr dX5_fire_52 (Nat.le_of_ble_eq_true rfl) (Nat.le_of_ble_eq_true rfl) rfl (sv_eqW (by rw [sv_wu, sv_us, sv_uu, sav_0]; unfold firv; rw [if_pos ⟨b7.resolve_left q29, q33⟩]))
end
section
/-! what the calls tell -/
theorem i32_nn {p : Int32} (h : 0 ≤ p) : ∃ g, g < 2147483648 ∧ p = nI g := by
  rcases pk_ix p (n := 2147483647) (by decide) with h1 | h1 | ⟨j, hj, e⟩
  · exact absurd h (Int32.not_le.mpr h1)
  · refine ⟨2147483647, by decide, Int32.le_antisymm (Int32.le_iff_toInt_le.mpr ?_) h1⟩
    have := Int32.toInt_lt p
    rw [nI_toInt (by decide)]
    omega
  · exact ⟨j, by omega, e⟩
theorem i2c_N : ∀ g, g < 127 → ((nI g).toUInt32 % 65536).toInt32 = nI g := by decide
theorem chr_N : ∀ g, g < 127 → (nI g).toUInt32.toUInt16.toUInt32.toInt32 = nI g := by decide
theorem chr_nI {g : Nat} (h : g < 127) : chr (nI g) := congrArg Value.int (chr_N g h)
def undC (hd : Nat) : Nat := if hd = 0 then 1 else 0
def cmaC (n9 : Nat) (x : vX) : Nat := if n9 % 4 = 3 ∧ epF x n9 0 = n9 then 0 else 1
def couv (x : vX) (hd w : Nat) : Int32 := if w = 0 then x 4 else if w = 1 then x 57 else if w = 2 then x 5 else if w = 3 then litI x 8 else if w = 4 then dks x else if w = 5 then dms x else if w = 6 then eng x else if w = 7 then x 6 else if w = 8 then x 7 else if w = 9 then nI 8 - snd8 x else nI hd
def outv (x : vX) (t w : Nat) : Int32 := if w = 0 then dks (passv t x) - dks x else if w = 1 then eng (passv t x) - eng x else if w = 2 then passv t x 57 else litI (passv t x) 8
/-- one more is imagined -/
def begx (x : vX) : vX := beginv (many x) x
def plx (v : Int32) (x : vX) : Int32 := plF (begx x) v (many (begx x)) 0
def dwd (v : Int32) (x : vX) : Int32 := if lampv (begx x) (begx x (4 * (plx v x).toNatClampNeg + 59)).toNatClampNeg = 0 then 1 else 0
def dnF (v : Int32) : Nat → vX → Nat
  | 0, _ => 0
  | t + 1, x => if plx v x = (-1) then 0 else dnF v t (secv x) + 1
def dcF (v : Int32) (x : vX) (n : Nat) : Int32 := smI (fun i => dwd v (passv i x)) n
def dwx (f t T : Int32) (x : vX) : vX := entv (many x) f t (x 3) (upd x 0 T)
def dkw (f t T : Int32) (x : vX) : Int32 := dcF (x 5) (dwx f t T x) (dnF (x 5) 480 (dwx f t T x))
/-- the halving, step by step -/
def bst (D : Nat → Int32) (least : Int32) (s : Nat × Nat) : Nat × Nat := if s.1 < s.2 then (if D ((s.1 + s.2) / 2) = least then (s.1, (s.1 + s.2) / 2) else ((s.1 + s.2) / 2 + 1, s.2)) else s
def bsS (D : Nat → Int32) (least : Int32) : Nat → Nat × Nat
  | 0 => (1, 200)
  | n + 1 => bst D least (bsS D least n)
def lbt (f t : Int32) (x : vX) : Nat := (bsS (fun T => dkw f t (nI T) x) (dkw f t (nI 200) x) 200).1
theorem bsS_in (D : Nat → Int32) (least : Int32) : ∀ n, 1 ≤ (bsS D least n).1 ∧ (bsS D least n).1 ≤ (bsS D least n).2 ∧ (bsS D least n).2 ≤ 200
  | 0 => ⟨Nat.le_refl _, (by decide : 1 ≤ 200), Nat.le_refl _⟩
  | n + 1 => by
    have ih := bsS_in D least n
    show 1 ≤ (bst D least (bsS D least n)).1 ∧ (bst D least (bsS D least n)).1 ≤ (bst D least (bsS D least n)).2 ∧ (bst D least (bsS D least n)).2 ≤ 200
    unfold bst
    split
    · split <;> dsimp only <;> omega
    · exact ih
theorem bsS_end (D : Nat → Int32) (least : Int32) (i : Nat) (h : ¬ (bsS D least i).1 < (bsS D least i).2) : ∀ k, bsS D least (i + k) = bsS D least i
  | 0 => rfl
  | k + 1 => by
    have ih := bsS_end D least i h k
    show bst D least (bsS D least (i + k)) = _
    rw [ih]
    exact if_neg h
theorem passv_sec (n : Nat) (x : vX) : passv n (secv x) = passv (n + 1) x := by
  induction n with
  | zero => rfl
  | succ n ih => show secv (passv n (secv x)) = secv (passv (n + 1) x); rw [ih]
theorem dnF_lo (v : Int32) : ∀ t x i, i < dnF v t x → ¬ plx v (passv i x) = (-1)
  | 0, _, _, h => absurd h (Nat.not_lt_zero _)
  | t + 1, x, i, h => by
    unfold dnF at h
    split at h
    · exact absurd h (Nat.not_lt_zero _)
    · rename_i h1
      cases i with
      | zero => exact h1
      | succ i =>
        rw [← passv_sec]
        exact dnF_lo v t (secv x) i (by omega)
theorem dnF_hi (v : Int32) : ∀ t x, plx v (passv (dnF v t x) x) = (-1) ∨ dnF v t x = t
  | 0, _ => Or.inr rfl
  | t + 1, x => by
    unfold dnF
    split
    · rename_i h1
      exact Or.inl h1
    · rcases dnF_hi v t (secv x) with h | h
      · rw [passv_sec] at h
        exact Or.inl h
      · exact Or.inr (by rw [h])
theorem dnF_le (v : Int32) : ∀ t x, dnF v t x ≤ t
  | 0, _ => Nat.le_refl _
  | t + 1, x => by
    unfold dnF
    split
    · omega
    · have := dnF_le v t (secv x)
      omega
/-- waiting for room -/
def wtF : Nat → vX → Nat
  | 0, _ => 0
  | t + 1, x => if many x < 6 then 0 else wtF t (secv x) + 1
theorem wtF_lo : ∀ t x i, i < wtF t x → 6 ≤ many (passv i x)
  | 0, _, _, h => absurd h (Nat.not_lt_zero _)
  | t + 1, x, i, h => by
    unfold wtF at h
    split at h
    · exact absurd h (Nat.not_lt_zero _)
    · rename_i h1
      cases i with
      | zero => show 6 ≤ many x; omega
      | succ i =>
        rw [← passv_sec]
        exact wtF_lo t (secv x) i (by omega)
theorem wtF_hi : ∀ t x, many (passv (wtF t x) x) < 6 ∨ wtF t x = t
  | 0, _ => Or.inr rfl
  | t + 1, x => by
    unfold wtF
    split
    · rename_i h1
      exact Or.inl h1
    · rcases wtF_hi t (secv x) with h | h
      · rw [passv_sec] at h
        exact Or.inl h
      · exact Or.inr (by rw [h])
theorem wtF_le : ∀ t x, wtF t x ≤ t
  | 0, _ => Nat.le_refl _
  | t + 1, x => by
    unfold wtF
    split
    · omega
    · have := wtF_le t (secv x)
      omega
def wtd (x : vX) : vX := passv (wtF 480 x) x
/-- all the walks of the text come -/
def cax1 (cd : vX) (p : Nat) (x : vX) : vX := entv (many (wtd x)) (cd (4 * p) - 48) (cd (4 * p + 2) - 48) (wtd x 3) (wtd x)
def cax (cd : vX) (n : Nat) (x : vX) : vX := fo (cax1 cd) n x
def casI (cd : vX) (x : vX) : Nat → Int32
  | 0 => 0
  | n + 1 => casI cd x n + nI (wtF 480 (cax cd n x))
/-- numbers into the hash -/
def mxI (f : Nat → Int32) : Nat → Int64 → Int64
  | 0, h => h
  | n + 1, h => 31 * mxI f n h + Int32.toInt64 (f n)
def mxF (m : Nat) (x : vX) : Nat → Int64 → Int64
  | 0, h => h
  | n + 1, h => mxI (fun w => fnv m x n w) 8 (mxF m x n h)
def mxP (x : vX) : Nat → Int64 → Int64
  | 0, h => h
  | n + 1, h => mxI (fun w => x (4 * n + 58 + w)) 4 (mxP x n h)
theorem many_upd {x : vX} {i : Nat} {v : Int32} (h : 57 ≠ i) : many (upd x i v) = many x := by
  unfold many
  rw [upd_n h]
theorem entv_57 {m : Nat} {f t T : Int32} {x : vX} : entv m f t T x 57 = nI (m + 1) := by
  unfold entv
  rw [upd_n (by decide), upd_s]
theorem entv_lo {m : Nat} {f t T : Int32} {x : vX} {k : Nat} (h : k < 57) (h5 : k ≠ 5) : entv m f t T x k = x k := by
  unfold entv
  rw [upd_n h5, upd_n (by omega), upd_n (by omega), upd_n (by omega), upd_n (by omega), upd_n (by omega)]
theorem entv_row {m p i : Nat} {f t T : Int32} {x : vX} (h : p < m) (hi : i < 4) : entv m f t T x (4 * p + 58 + i) = x (4 * p + 58 + i) := by
  unfold entv
  rw [upd_n (by omega), upd_n (by omega), upd_n (by omega), upd_n (by omega), upd_n (by omega), upd_n (by omega)]
theorem vd_ent {x : vX} {f t : Nat} {T : Int32} (h : vd x) (hm : many x < 7) (hf : f < 8) (ht : t < 8) : vd (entv (many x) (nI f) (nI t) T x) := by
  have h2 := vd_many h
  obtain ⟨m, h1, h57, h6, h7, hr⟩ := h
  have e := many_eq h57 h1
  rw [e] at hm ⊢
  refine ⟨m + 1, by omega, entv_57, by rw [entv_lo (by decide) (by decide)]; exact h6, by rw [entv_lo (by decide) (by decide)]; exact h7, fun p hp => ?_⟩
  rcases Nat.lt_or_ge p m with h3 | h3
  · exact vrow_of (hr p h3) (entv_row (i := 1) h3 (by decide)) (entv_row (i := 2) h3 (by decide))
  · obtain rfl : p = m := by omega
    unfold vrow entv
    refine ⟨⟨f, hf, ?_⟩, t, ht, ?_⟩
    · rw [upd_n (by omega), upd_n (by omega), upd_n (by omega), upd_n (by omega), upd_s]
    · rw [upd_n (by omega), upd_n (by omega), upd_n (by omega), upd_s]
theorem vd_upd {x : vX} {i : Nat} {v : Int32} (h : vd x) (hi : i < 6) : vd (upd x i v) := by
  obtain ⟨m, h1, h57, h6, h7, hr⟩ := h
  exact ⟨m, h1, by rw [upd_n (by omega)]; exact h57, by rw [upd_n (by omega)]; exact h6, by rw [upd_n (by omega)]; exact h7, fun p hp => vrow_of (hr p hp) (upd_n (by omega)) (upd_n (by omega))⟩
theorem vd_dwx {x : vX} {f t : Nat} {T : Int32} (h : vd x) (hm : many x < 7) (hf : f < 8) (ht : t < 8) : vd (dwx (nI f) (nI t) T x) := by
  unfold dwx
  have h9 := vd_ent (T := x 3) (vd_upd (i := 0) (v := T) h (by decide)) (by rw [many_upd (by decide)]; exact hm) hf ht
  rw [many_upd (by decide)] at h9
  exact h9
end
section
set_option maxHeartbeats 4000000 in
set_option maxRecDepth 100000 in
theorem met_set (l : Launch) (G : sv_G) (hl : l.stackTraces = false) (z : Nat) (M : sv_M) (o : Int64) (f v : Int32) (od hd : Nat) (hod : od < 6) (h0 : M 8 0 = nI od) (h1 : M 8 1 = nI hd) (hd6 : hd ≤ 6) (b6 : M 0 6 = 0 ∨ M 0 6 = 1) (b7 : M 0 7 = 0 ∨ M 0 7 = 1) : sv_MetX l G yX5_set cX5_set 4 (some .int) 7 2 [.ref (sv_r G 14 0), .int f, .int v] (sv_W G z M o) (setC f v = 0) (some (.int (M 0 f.toNatClampNeg))) (sv_W G z (sv_u (sav od hd M) 0 (upd (M 0) f.toNatClampNeg v)) o) (sv_E2 sv_IO sv_IA (setC f v)) (sv_Wz G z M o) := by
  refine sv_ofWX (by decide) kw_547 (Nat.le_of_ble_eq_true rfl) ?_
  intro p e s mth args below meth c hr C hxt
  refine sv_sub (lv' := [(0, .ref (sv_r G 14 0)), (1, .int f), (2, .int v)]) rfl ?_
  refine sv_iload_n (i := 1) (x := f) C dX5_set_0 rfl rfl ?_
  refine sv_callSX (as := [_]) (rest := []) C (met_checkSetting l G hl _ _ _ f) fX5_checkSetting kw_315 ⟨Nat.le_of_ble_eq_true rfl, Nat.le_of_ble_eq_true rfl⟩ (Nat.le_of_ble_eq_true rfl) dX5_set_1 ⟨Nat.le_of_ble_eq_true rfl, Nat.le_of_ble_eq_true rfl⟩ (fun E hE => sv_out C hxt (Nat.le_of_ble_eq_true rfl) (Nat.le_of_ble_eq_true rfl) (Or.inl ⟨by unfold setC; rw [if_pos hE.1], hE.2⟩) (fun _ h => h)) ?_
  intro ok1
  refine sv_rv ?_
  obtain ⟨g1, hg1, rfl⟩ := inC_0 (by decide) ok1
  refine sv_iload_n (i := 2) (x := v) C dX5_set_4 rfl rfl ?_
  refine sv_gets1 C kw_548 dX5_set_5 ?_
  refine sv_iload_n (i := 1) (x := nI g1) C dX5_set_8 rfl rfl ?_
  refine sv_callS (as := [_, _]) (rest := [_]) C (met_atS1 l G _ g1 (by omega)) fX5_at kw_320 ⟨Nat.le_of_ble_eq_true rfl, Nat.le_of_ble_eq_true rfl⟩ (Nat.le_of_ble_eq_true rfl) dX5_set_9 ⟨Nat.le_of_ble_eq_true rfl, Nat.le_of_ble_eq_true rfl⟩  ?_
  refine sv_ri (fun v9 e9 => ?_)
  refine sv_icmp_lt C 26 dX5_set_12 (by decide) (fun q12 => ?_) (fun q12 => ?_)
  · exact sv_throwIA C hl hxt ks_134 dX5_set_26 dX5_set_29 dX5_set_30 dX5_set_32 dX5_set_35 (Nat.le_of_ble_eq_true rfl) (Nat.le_of_ble_eq_true rfl) (Nat.le_of_ble_eq_true rfl) (Nat.le_of_ble_eq_true rfl) (Nat.le_of_ble_eq_true rfl) (Nat.le_of_ble_eq_true rfl) (Or.inr ⟨by unfold setC; rw [if_neg (fun h => absurd (h.symm.trans ok1) (by decide)), nI_clamp (by omega), if_pos (Or.inl (e9 ▸ q12))], rfl⟩) sv_Wz_grow
  · refine sv_iload_n (i := 2) (x := v) C dX5_set_15 rfl rfl ?_
    refine sv_gets2 C kw_550 dX5_set_16 ?_
    refine sv_iload_n (i := 1) (x := nI g1) C dX5_set_19 rfl rfl ?_
    refine sv_callS (as := [_, _]) (rest := [_]) C (met_atS2 l G _ g1 (by omega)) fX5_at kw_320 ⟨Nat.le_of_ble_eq_true rfl, Nat.le_of_ble_eq_true rfl⟩ (Nat.le_of_ble_eq_true rfl) dX5_set_20 ⟨Nat.le_of_ble_eq_true rfl, Nat.le_of_ble_eq_true rfl⟩  ?_
    refine sv_ri (fun v20 e20 => ?_)
    refine sv_icmp_le C 36 dX5_set_23 (by decide) (fun q23 => ?_) (fun q23 => ?_)
    · refine sv_aload_n (i := 0) (x := sv_r G 14 0) C dX5_set_36 rfl rfl ?_
      refine sv_get_5_2 C kw_172 dX5_set_37 ?_
      refine sv_aload_n (i := 0) (x := sv_r G 14 0) C dX5_set_40 rfl rfl ?_
      refine sv_get_5_0 C kw_170 dX5_set_41 ?_
      refine sv_callV (as := [_]) (rest := []) C (met_save hod h0 h1 hd6 b6 b7) fX1_save kw_500 (sv_recv15 C) ⟨Nat.le_of_ble_eq_true rfl, Nat.le_of_ble_eq_true rfl⟩ (Nat.le_of_ble_eq_true rfl) dX5_set_44 ⟨Nat.le_of_ble_eq_true rfl, Nat.le_of_ble_eq_true rfl⟩  ?_
      refine sv_rv ?_
      refine sv_aload_n (i := 0) (x := sv_r G 14 0) C dX5_set_47 rfl rfl ?_
      refine sv_get_5_0 C kw_170 dX5_set_48 ?_
      refine sv_get_3_2 C (by decide) kw_113 dX5_set_51 ?_
      refine sv_iload_n (i := 1) (x := nI g1) C dX5_set_54 rfl rfl ?_
      refine sv_callS (as := [_, _]) (rest := []) C (met_atN 0 g1 rfl rfl (sv_okj (by decide) (by decide)) rfl (by show _ < 4; omega)) fX5_at kw_320 ⟨Nat.le_of_ble_eq_true rfl, Nat.le_of_ble_eq_true rfl⟩ (Nat.le_of_ble_eq_true rfl) dX5_set_55 ⟨Nat.le_of_ble_eq_true rfl, Nat.le_of_ble_eq_true rfl⟩  ?_
      refine sv_ri (fun v55 e55 => ?_)
      refine sv_istore_n (i := 3) C [(0, .ref (sv_r G 14 0)), (1, .int (nI g1)), (2, .int v), (3, .int v55)] dX5_set_58 rfl (by decide) rfl ?_
      refine sv_aload_n (i := 0) (x := sv_r G 14 0) C dX5_set_59 rfl rfl ?_
      refine sv_get_5_0 C kw_170 dX5_set_60 ?_
      refine sv_get_3_2 C (by decide) kw_113 dX5_set_63 ?_
      refine sv_iload_n (i := 1) (x := nI g1) C dX5_set_66 rfl rfl ?_
      refine sv_iload_n (i := 2) (x := v) C dX5_set_67 rfl rfl ?_
      refine sv_callS (as := [_, _, _]) (rest := []) C (met_putN 0 g1 rfl rfl (sv_okj (by decide) (by decide)) rfl (by show _ < 4; omega)) fX5_put kw_417 ⟨Nat.le_of_ble_eq_true rfl, Nat.le_of_ble_eq_true rfl⟩ (Nat.le_of_ble_eq_true rfl) dX5_set_68 ⟨Nat.le_of_ble_eq_true rfl, Nat.le_of_ble_eq_true rfl⟩  ?_
      refine sv_rv ?_
      refine sv_iload_n (i := 3) (x := v55) C dX5_set_71 rfl rfl ?_
      exact sv_iretX C (by unfold setC; rw [if_neg (fun h => absurd (h.symm.trans ok1) (by decide)), nI_clamp (by omega), if_neg (fun h => h.elim (e9 ▸ q12) (fun h => absurd (e20 ▸ q23) (Int32.not_le.mpr h)))]) hr dX5_set_72 (Nat.le_of_ble_eq_true rfl) (Nat.le_of_ble_eq_true rfl) (by rw [e55, sav_0, nI_clamp (by omega)]) (sv_eqW (by rw [sv_wu, sav_0, nI_clamp (by omega)]))
    · exact sv_throwIA C hl hxt ks_134 dX5_set_26 dX5_set_29 dX5_set_30 dX5_set_32 dX5_set_35 (Nat.le_of_ble_eq_true rfl) (Nat.le_of_ble_eq_true rfl) (Nat.le_of_ble_eq_true rfl) (Nat.le_of_ble_eq_true rfl) (Nat.le_of_ble_eq_true rfl) (Nat.le_of_ble_eq_true rfl) (Or.inr ⟨by unfold setC; rw [if_neg (fun h => absurd (h.symm.trans ok1) (by decide)), nI_clamp (by omega), if_pos (Or.inr (Int32.not_le.mp (e20 ▸ q23)))], rfl⟩) sv_Wz_grow

set_option maxHeartbeats 4000000 in
set_option maxRecDepth 100000 in
theorem met_pass (l : Launch) (G : sv_G) (hl : l.stackTraces = false) (z : Nat) (M : sv_M) (o : Int64) (t : Int32) (od hd : Nat) (hod : od < 6) (h0 : M 8 0 = nI od) (h1 : M 8 1 = nI hd) (hd6 : hd ≤ 6) (b6 : M 0 6 = 0 ∨ M 0 6 = 1) (b7 : M 0 7 = 0 ∨ M 0 7 = 1) (hv : vd (M 0)) : sv_MetX l G yX5_pass cX5_pass 2 (some .int) 7 1 [.ref (sv_r G 14 0), .int t] (sv_W G z M o) (secC t = 0) (some (.int (dks (passv t.toNatClampNeg (M 0)) - dks (M 0)))) (sv_W G z (sv_u (sav od hd M) 0 (passv t.toNatClampNeg (M 0))) o) (sv_E1 sv_IA (secC t)) (sv_Wz G z M o) := by
  refine sv_ofWX (by decide) kw_512 (Nat.le_of_ble_eq_true rfl) ?_
  intro p e s mth args below meth c hr C hxt
  refine sv_sub (lv' := [(0, .ref (sv_r G 14 0)), (1, .int t)]) rfl ?_
  refine sv_iload_n (i := 1) (x := t) C dX5_pass_0 rfl rfl ?_
  refine sv_callSX (as := [_]) (rest := []) C (met_checkSeconds l G hl _ _ _ t) fX5_checkSeconds kw_325 ⟨Nat.le_of_ble_eq_true rfl, Nat.le_of_ble_eq_true rfl⟩ (Nat.le_of_ble_eq_true rfl) dX5_pass_1 ⟨Nat.le_of_ble_eq_true rfl, Nat.le_of_ble_eq_true rfl⟩ (fun E hE => sv_out C hxt (Nat.le_of_ble_eq_true rfl) (Nat.le_of_ble_eq_true rfl) (hE) (fun _ h => h)) ?_
  intro ok1
  refine sv_rv ?_
  obtain ⟨n1, hn1, hn2, rfl⟩ := secC_0 ok1
  refine sv_aload_n (i := 0) (x := sv_r G 14 0) C dX5_pass_4 rfl rfl ?_
  refine sv_get_5_2 C kw_172 dX5_pass_5 ?_
  refine sv_aload_n (i := 0) (x := sv_r G 14 0) C dX5_pass_8 rfl rfl ?_
  refine sv_get_5_0 C kw_170 dX5_pass_9 ?_
  refine sv_callV (as := [_]) (rest := []) C (met_save hod h0 h1 hd6 b6 b7) fX1_save kw_500 (sv_recv15 C) ⟨Nat.le_of_ble_eq_true rfl, Nat.le_of_ble_eq_true rfl⟩ (Nat.le_of_ble_eq_true rfl) dX5_pass_12 ⟨Nat.le_of_ble_eq_true rfl, Nat.le_of_ble_eq_true rfl⟩  ?_
  refine sv_rv ?_
  refine sv_aload_n (i := 0) (x := sv_r G 14 0) C dX5_pass_15 rfl rfl ?_
  refine sv_get_5_0 C kw_170 dX5_pass_16 ?_
  refine sv_iload_n (i := 1) (x := nI n1) C dX5_pass_19 rfl rfl ?_
  refine sv_callV (as := [_]) (rest := []) C (met_letPass l G _ _ _ 0 (by decide) (by rw [sav_0]; exact hv) n1 (by omega)) fX3_letPass kw_347 (sv_recv0 C (by decide)) ⟨Nat.le_of_ble_eq_true rfl, Nat.le_of_ble_eq_true rfl⟩ (Nat.le_of_ble_eq_true rfl) dX5_pass_20 ⟨Nat.le_of_ble_eq_true rfl, Nat.le_of_ble_eq_true rfl⟩  ?_
  refine sv_ri (fun v20 e20 => ?_)
  exact sv_iretX C ok1 hr dX5_pass_23 (Nat.le_of_ble_eq_true rfl) (Nat.le_of_ble_eq_true rfl) (by rw [e20, sav_0, nI_clamp (by omega)]) (sv_eqW (by rw [sav_0, nI_clamp (by omega)]))




set_option maxHeartbeats 4000000 in
set_option maxRecDepth 100000 in
theorem met_undo (l : Launch) (G : sv_G) (hl : l.stackTraces = false) (z : Nat) (M : sv_M) (o : Int64) (od hd k : Nat) (hod : od < 6) (h0 : M 8 0 = nI od) (h1 : M 8 1 = nI hd) (hd6 : hd ≤ 6) (hk : k = (od + (hd - 1)) % 6) (b6 : 0 < hd → (M (2 + k) 6 = 0 ∨ M (2 + k) 6 = 1)) (b7 : 0 < hd → (M (2 + k) 7 = 0 ∨ M (2 + k) 7 = 1)) : sv_MetX l G yX5_undo cX5_undo 1 (some .int) 6 1 [.ref (sv_r G 14 0)] (sv_W G z M o) (undC hd = 0) (some (.int (nI (hd - 1)))) (sv_W G z (rsM (hd - 1) k M) o) (sv_E1 sv_IS (undC hd)) (sv_Wz G z M o) := by
  refine sv_ofWX (by decide) kw_559 (Nat.le_of_ble_eq_true rfl) ?_
  intro p e s mth args below meth c hr C hxt
  refine sv_sub (lv' := [(0, .ref (sv_r G 14 0))]) rfl ?_
  refine sv_aload_n (i := 0) (x := sv_r G 14 0) C dX5_undo_0 rfl rfl ?_
  refine sv_get_5_2 C kw_172 dX5_undo_1 ?_
  refine sv_get_1_2 C kw_148 dX5_undo_4 ?_
  refine sv_set (v' := .int (nI hd)) (congrArg Value.int h1) ?_
  refine sv_if_gt C 20 dX5_undo_7 (by decide) (fun q7 => ?_) (fun q7 => ?_)
  · have hhd : 0 < hd := by
      rcases Nat.eq_zero_or_pos hd with h | h
      · rw [h] at q7
        exact absurd q7 (by decide)
      · exact h
    have b6 := b6 hhd
    have b7 := b7 hhd
    refine sv_aload_n (i := 0) (x := sv_r G 14 0) C dX5_undo_20 rfl rfl ?_
    refine sv_get_5_2 C kw_172 dX5_undo_21 ?_
    refine sv_aload_n (i := 0) (x := sv_r G 14 0) C dX5_undo_24 rfl rfl ?_
    refine sv_get_5_0 C kw_170 dX5_undo_25 ?_
    refine sv_callV (as := [_]) (rest := []) C (met_restore l G _ _ _ od hd k hod h0 h1 hhd hd6 hk b6 b7) fX1_restore kw_561 (sv_recv15 C) ⟨Nat.le_of_ble_eq_true rfl, Nat.le_of_ble_eq_true rfl⟩ (Nat.le_of_ble_eq_true rfl) dX5_undo_28 ⟨Nat.le_of_ble_eq_true rfl, Nat.le_of_ble_eq_true rfl⟩  ?_
    refine sv_rv ?_
    refine sv_aload_n (i := 0) (x := sv_r G 14 0) C dX5_undo_31 rfl rfl ?_
    refine sv_get_5_2 C kw_172 dX5_undo_32 ?_
    refine sv_get_1_2 C kw_148 dX5_undo_35 ?_
    refine sv_set (v' := .int (nI (hd - 1))) (congrArg Value.int (by unfold rsM; rw [sv_un (by decide), sv_us, upd_s])) ?_
    exact sv_iretX C (if_neg (by omega)) hr dX5_undo_38 (Nat.le_of_ble_eq_true rfl) (Nat.le_of_ble_eq_true rfl) rfl (fun _ h => h)
  · have hhd : hd = 0 := by
      rcases Nat.eq_zero_or_pos hd with h | h
      · exact h
      · exact absurd (Int32.not_lt.mp q7) (nI_nle h (by omega))
    exact sv_throwIS C hl hxt ks_182 dX5_undo_10 dX5_undo_13 dX5_undo_14 dX5_undo_16 dX5_undo_19 (Nat.le_of_ble_eq_true rfl) (Nat.le_of_ble_eq_true rfl) (Nat.le_of_ble_eq_true rfl) (Nat.le_of_ble_eq_true rfl) (Nat.le_of_ble_eq_true rfl) (Nat.le_of_ble_eq_true rfl) (⟨if_pos hhd, rfl⟩) sv_Wz_grow

set_option maxHeartbeats 4000000 in
set_option maxRecDepth 100000 in
theorem met_floor (l : Launch) (G : sv_G) (hl : l.stackTraces = false) (z : Nat) (M : sv_M) (o : Int64) (f v : Int32) (m : Nat) (hm : M 0 57 = nI m) (hm7 : m ≤ 6) (b6 : M 0 6 = 0 ∨ M 0 6 = 1) (b7 : M 0 7 = 0 ∨ M 0 7 = 1) : sv_MetX l G yX5_floor cX5_floor 3 (some .int) 7 2 [.ref (sv_r G 14 0), .int f, .int v] (sv_W G z M o) (floC f v = 0) (some (.int (fnv m (M 0) f.toNatClampNeg v.toNatClampNeg))) (sv_W G z M o) (sv_E2 sv_IO sv_IA (floC f v)) (sv_Wz G z M o) := by
  refine sv_ofWX (by decide) kw_186 (Nat.le_of_ble_eq_true rfl) ?_
  intro p e s mth args below meth c hr C hxt
  refine sv_sub (lv' := [(0, .ref (sv_r G 14 0)), (1, .int f), (2, .int v)]) rfl ?_
  refine sv_iload_n (i := 1) (x := f) C dX5_floor_0 rfl rfl ?_
  refine sv_callSX (as := [_]) (rest := []) C (met_checkFloor l G hl _ _ _ f) fX5_checkFloor kw_187 ⟨Nat.le_of_ble_eq_true rfl, Nat.le_of_ble_eq_true rfl⟩ (Nat.le_of_ble_eq_true rfl) dX5_floor_1 ⟨Nat.le_of_ble_eq_true rfl, Nat.le_of_ble_eq_true rfl⟩ (fun E hE => sv_out C hxt (Nat.le_of_ble_eq_true rfl) (Nat.le_of_ble_eq_true rfl) (Or.inl ⟨by unfold floC; rw [if_pos hE.1], hE.2⟩) (fun _ h => h)) ?_
  intro ok1
  refine sv_rv ?_
  refine sv_iload_n (i := 2) (x := v) C dX5_floor_4 rfl rfl ?_
  refine sv_bipush (v := nI 8) C dX5_floor_5 (by decide) ?_
  refine sv_callSX (as := [_, _]) (rest := []) C (met_checkWhat l G hl _ _ _ v 8) fX5_checkWhat kw_258 ⟨Nat.le_of_ble_eq_true rfl, Nat.le_of_ble_eq_true rfl⟩ (Nat.le_of_ble_eq_true rfl) dX5_floor_7 ⟨Nat.le_of_ble_eq_true rfl, Nat.le_of_ble_eq_true rfl⟩ (fun E hE => sv_out C hxt (Nat.le_of_ble_eq_true rfl) (Nat.le_of_ble_eq_true rfl) (Or.inr ⟨by unfold floC; rw [if_neg (fun h => absurd (h.symm.trans ok1) (by decide)), if_pos hE.1], hE.2⟩) (fun _ h => h)) ?_
  intro ok2
  refine sv_rv ?_
  obtain ⟨g1, hg1, rfl⟩ := inC_0 (by decide) ok1
  obtain ⟨g2, hg2, rfl⟩ := inC_0 (by decide) ok2
  refine sv_aload_n (i := 0) (x := sv_r G 14 0) C dX5_floor_10 rfl rfl ?_
  refine sv_get_5_0 C kw_170 dX5_floor_11 ?_
  refine sv_iload_n (i := 1) (x := nI g1) C dX5_floor_14 rfl rfl ?_
  refine sv_iload_n (i := 2) (x := nI g2) C dX5_floor_15 rfl rfl ?_
  refine sv_callV (as := [_, _]) (rest := []) C (met_floorNumber l G _ _ _ 0 g1 g2 (by decide) hg1 hg2 m hm (by omega) b6 b7) fX3_floorNumber kw_277 (sv_recv0 C (by decide)) ⟨Nat.le_of_ble_eq_true rfl, Nat.le_of_ble_eq_true rfl⟩ (Nat.le_of_ble_eq_true rfl) dX5_floor_16 ⟨Nat.le_of_ble_eq_true rfl, Nat.le_of_ble_eq_true rfl⟩  ?_
  refine sv_ri (fun v16 e16 => ?_)
  exact sv_iretX C (by unfold floC; rw [if_neg (fun h => absurd (h.symm.trans ok1) (by decide)), if_neg (fun h => absurd (h.symm.trans ok2) (by decide))]) hr dX5_floor_19 (Nat.le_of_ble_eq_true rfl) (Nat.le_of_ble_eq_true rfl) (by rw [e16, nI_clamp (by omega), nI_clamp (by omega)]) (fun _ h => h)

set_option maxHeartbeats 4000000 in
set_option maxRecDepth 100000 in
theorem met_person (l : Launch) (G : sv_G) (hl : l.stackTraces = false) (z : Nat) (M : sv_M) (o : Int64) (f v : Int32) (m : Nat) (hm : M 0 57 = nI m) (hm7 : m ≤ 6) : sv_MetX l G yX5_person cX5_person 3 (some .int) 7 1 [.ref (sv_r G 14 0), .int f, .int v] (sv_W G z M o) (perC f v = 0) (some (.int (if f.toNatClampNeg < m then M 0 (4 * f.toNatClampNeg + 58 + v.toNatClampNeg) else (-1)))) (sv_W G z M o) (sv_E1 sv_IA (perC f v)) (sv_Wz G z M o) := by
  refine sv_ofWX (by decide) kw_451 (Nat.le_of_ble_eq_true rfl) ?_
  intro p e s mth args below meth c hr C hxt
  refine sv_sub (lv' := [(0, .ref (sv_r G 14 0)), (1, .int f), (2, .int v)]) rfl ?_
  refine sv_iload_n (i := 1) (x := f) C dX5_person_0 rfl rfl ?_
  refine sv_if_ge C 14 dX5_person_1 (by decide) (fun q1 => ?_) (fun q1 => ?_)
  · refine sv_iload_n (i := 2) (x := v) C dX5_person_14 rfl rfl ?_
    refine sv_iconst (v := nI 4) C dX5_person_15 (by decide) ?_
    refine sv_callSX (as := [_, _]) (rest := []) C (met_checkWhat l G hl _ _ _ v 4) fX5_checkWhat kw_258 ⟨Nat.le_of_ble_eq_true rfl, Nat.le_of_ble_eq_true rfl⟩ (Nat.le_of_ble_eq_true rfl) dX5_person_16 ⟨Nat.le_of_ble_eq_true rfl, Nat.le_of_ble_eq_true rfl⟩ (fun E hE => sv_out C hxt (Nat.le_of_ble_eq_true rfl) (Nat.le_of_ble_eq_true rfl) (⟨by unfold perC; rw [if_neg (Int32.not_lt.mpr q1)]; exact hE.1, hE.2⟩) (fun _ h => h)) ?_
    intro ok2
    refine sv_rv ?_
    obtain ⟨p1, hp1, rfl⟩ := i32_nn q1
    obtain ⟨g2, hg2, rfl⟩ := inC_0 (by decide) ok2
    refine sv_aload_n (i := 0) (x := sv_r G 14 0) C dX5_person_19 rfl rfl ?_
    refine sv_get_5_0 C kw_170 dX5_person_20 ?_
    refine sv_get_3_1 C (by decide) kw_111 dX5_person_23 ?_
    refine sv_iload_n (i := 1) (x := nI p1) C dX5_person_26 rfl rfl ?_
    refine sv_iload_n (i := 2) (x := nI g2) C dX5_person_27 rfl rfl ?_
    refine sv_callV (as := [_, _]) (rest := []) C (met_personNumber l G _ _ _ 0 p1 g2 (by decide) hp1 hg2 m hm (by omega)) fX2_personNumber kw_453 (sv_recv8 C (by decide)) ⟨Nat.le_of_ble_eq_true rfl, Nat.le_of_ble_eq_true rfl⟩ (Nat.le_of_ble_eq_true rfl) dX5_person_28 ⟨Nat.le_of_ble_eq_true rfl, Nat.le_of_ble_eq_true rfl⟩  ?_
    refine sv_ri (fun v28 e28 => ?_)
    exact sv_iretX C (by unfold perC; rw [if_neg (Int32.not_lt.mpr q1)]; exact ok2) hr dX5_person_31 (Nat.le_of_ble_eq_true rfl) (Nat.le_of_ble_eq_true rfl) (by rw [e28, nI_clamp (by omega), nI_clamp (by omega)]) (fun _ h => h)
  · exact sv_throwIA C hl hxt ks_193 dX5_person_4 dX5_person_7 dX5_person_8 dX5_person_10 dX5_person_13 (Nat.le_of_ble_eq_true rfl) (Nat.le_of_ble_eq_true rfl) (Nat.le_of_ble_eq_true rfl) (Nat.le_of_ble_eq_true rfl) (Nat.le_of_ble_eq_true rfl) (Nat.le_of_ble_eq_true rfl) (⟨by unfold perC; rw [if_pos (Int32.not_le.mp q1)], rfl⟩) sv_Wz_grow

set_option maxHeartbeats 4000000 in
set_option maxRecDepth 100000 in
theorem met_counted (l : Launch) (G : sv_G) (z : Nat) (M : sv_M) (o : Int64) (w9 : Nat) (hw9 : w9 < 11) (hd : Nat) (h1 : M 8 1 = nI hd) (b6 : M 0 6 = 0 ∨ M 0 6 = 1) (b7 : M 0 7 = 0 ∨ M 0 7 = 1) : sv_Met l G yX5_counted cX5_counted 2 (some .int) 3 [.ref (sv_r G 14 0), .int (nI w9)] (sv_W G z M o) (some (.int (couv (M 0) hd w9))) (sv_W G z M o) := by
  refine sv_ofW (by decide) kw_300 (Nat.le_of_ble_eq_true rfl) ?_
  intro p e s mth args below meth c hr C _
  refine sv_sub (lv' := [(0, .ref (sv_r G 14 0)), (1, .int (nI w9))]) rfl ?_
  refine sv_iload_n (i := 1) (x := nI w9) C dX5_counted_0 rfl rfl ?_
  rcases (show w9 = 0 ∨ w9 = 1 ∨ w9 = 2 ∨ w9 = 3 ∨ w9 = 4 ∨ w9 = 5 ∨ w9 = 6 ∨ w9 = 7 ∨ w9 = 8 ∨ w9 = 9 ∨ w9 = 10 by omega) with rfl | rfl | rfl | rfl | rfl | rfl | rfl | rfl | rfl | rfl | rfl
  · refine sv_tableIn (off := 55) C 56 dX5_counted_1 (by decide) (by decide) (by decide) (by decide) ?_
    refine sv_aload_n (i := 0) (x := sv_r G 14 0) C dX5_counted_56 rfl rfl ?_
    refine sv_get_5_0 C kw_170 dX5_counted_57 ?_
    refine sv_get_3_5 C (by decide) kw_119 dX5_counted_60 ?_
    refine sv_topi (fun v60 e60 => ?_)
    exact sv_iret C hr dX5_counted_63 (Nat.le_of_ble_eq_true rfl) (Nat.le_of_ble_eq_true rfl) e60 (fun _ h => h)
  · refine sv_tableIn (off := 63) C 64 dX5_counted_1 (by decide) (by decide) (by decide) (by decide) ?_
    refine sv_aload_n (i := 0) (x := sv_r G 14 0) C dX5_counted_64 rfl rfl ?_
    refine sv_get_5_0 C kw_170 dX5_counted_65 ?_
    refine sv_get_3_1 C (by decide) kw_111 dX5_counted_68 ?_
    refine sv_get_2_4 C (by decide) kw_86 dX5_counted_71 ?_
    refine sv_topi (fun v71 e71 => ?_)
    exact sv_iret C hr dX5_counted_74 (Nat.le_of_ble_eq_true rfl) (Nat.le_of_ble_eq_true rfl) e71 (fun _ h => h)
  · refine sv_tableIn (off := 74) C 75 dX5_counted_1 (by decide) (by decide) (by decide) (by decide) ?_
    refine sv_aload_n (i := 0) (x := sv_r G 14 0) C dX5_counted_75 rfl rfl ?_
    refine sv_get_5_0 C kw_170 dX5_counted_76 ?_
    refine sv_get_3_1 C (by decide) kw_111 dX5_counted_79 ?_
    refine sv_get_2_5 C (by decide) kw_89 dX5_counted_82 ?_
    refine sv_topi (fun v82 e82 => ?_)
    exact sv_iret C hr dX5_counted_85 (Nat.le_of_ble_eq_true rfl) (Nat.le_of_ble_eq_true rfl) e82 (fun _ h => h)
  · refine sv_tableIn (off := 85) C 86 dX5_counted_1 (by decide) (by decide) (by decide) (by decide) ?_
    refine sv_aload_n (i := 0) (x := sv_r G 14 0) C dX5_counted_86 rfl rfl ?_
    refine sv_get_5_0 C kw_170 dX5_counted_87 ?_
    refine sv_callV (as := []) (rest := []) C (met_lampsBurning l G _ _ _ 0 (by decide) b6 b7) fX3_lampsBurning kw_301 (sv_recv0 C (by decide)) ⟨Nat.le_of_ble_eq_true rfl, Nat.le_of_ble_eq_true rfl⟩ (Nat.le_of_ble_eq_true rfl) dX5_counted_90 ⟨Nat.zero_le _, Nat.zero_le _⟩  ?_
    refine sv_ri (fun v90 e90 => ?_)
    exact sv_iret C hr dX5_counted_93 (Nat.le_of_ble_eq_true rfl) (Nat.le_of_ble_eq_true rfl) e90 (fun _ h => h)
  · refine sv_tableIn (off := 93) C 94 dX5_counted_1 (by decide) (by decide) (by decide) (by decide) ?_
    refine sv_aload_n (i := 0) (x := sv_r G 14 0) C dX5_counted_94 rfl rfl ?_
    refine sv_get_5_0 C kw_170 dX5_counted_95 ?_
    refine sv_get_3_0 C (by decide) kw_109 dX5_counted_98 ?_
    refine sv_get_0_2 C (by decide) kw_49 dX5_counted_101 ?_
    refine sv_callS (as := [_]) (rest := []) C (met_sumOf l G _ _ _ 4 0 (sv_okj (by decide) (by decide)) rfl) fX5_sumOf kw_305 ⟨Nat.le_of_ble_eq_true rfl, Nat.le_of_ble_eq_true rfl⟩ (Nat.le_of_ble_eq_true rfl) dX5_counted_104 ⟨Nat.zero_le _, Nat.zero_le _⟩  ?_
    refine sv_ri (fun v104 e104 => ?_)
    exact sv_iret C hr dX5_counted_107 (Nat.le_of_ble_eq_true rfl) (Nat.le_of_ble_eq_true rfl) e104 (fun _ h => h)
  · refine sv_tableIn (off := 107) C 108 dX5_counted_1 (by decide) (by decide) (by decide) (by decide) ?_
    refine sv_aload_n (i := 0) (x := sv_r G 14 0) C dX5_counted_108 rfl rfl ?_
    refine sv_get_5_0 C kw_170 dX5_counted_109 ?_
    refine sv_get_3_0 C (by decide) kw_109 dX5_counted_112 ?_
    refine sv_get_0_3 C (by decide) kw_52 dX5_counted_115 ?_
    refine sv_callS (as := [_]) (rest := []) C (met_sumOf l G _ _ _ 5 0 (sv_okj (by decide) (by decide)) rfl) fX5_sumOf kw_305 ⟨Nat.le_of_ble_eq_true rfl, Nat.le_of_ble_eq_true rfl⟩ (Nat.le_of_ble_eq_true rfl) dX5_counted_118 ⟨Nat.zero_le _, Nat.zero_le _⟩  ?_
    refine sv_ri (fun v118 e118 => ?_)
    exact sv_iret C hr dX5_counted_121 (Nat.le_of_ble_eq_true rfl) (Nat.le_of_ble_eq_true rfl) e118 (fun _ h => h)
  · refine sv_tableIn (off := 121) C 122 dX5_counted_1 (by decide) (by decide) (by decide) (by decide) ?_
    refine sv_aload_n (i := 0) (x := sv_r G 14 0) C dX5_counted_122 rfl rfl ?_
    refine sv_get_5_0 C kw_170 dX5_counted_123 ?_
    refine sv_get_3_0 C (by decide) kw_109 dX5_counted_126 ?_
    refine sv_get_0_4 C (by decide) kw_55 dX5_counted_129 ?_
    refine sv_callS (as := [_]) (rest := []) C (met_sumOf l G _ _ _ 6 0 (sv_okj (by decide) (by decide)) rfl) fX5_sumOf kw_305 ⟨Nat.le_of_ble_eq_true rfl, Nat.le_of_ble_eq_true rfl⟩ (Nat.le_of_ble_eq_true rfl) dX5_counted_132 ⟨Nat.zero_le _, Nat.zero_le _⟩  ?_
    refine sv_ri (fun v132 e132 => ?_)
    exact sv_iret C hr dX5_counted_135 (Nat.le_of_ble_eq_true rfl) (Nat.le_of_ble_eq_true rfl) e132 (fun _ h => h)
  · refine sv_tableIn (off := 135) C 136 dX5_counted_1 (by decide) (by decide) (by decide) (by decide) ?_
    refine sv_aload_n (i := 0) (x := sv_r G 14 0) C dX5_counted_136 rfl rfl ?_
    refine sv_get_5_0 C kw_170 dX5_counted_137 ?_
    refine sv_get_3_3 C (by decide) kw_115 dX5_counted_140 ?_
    refine sv_set (v' := .int (M 0 6)) (congrArg Value.int rfl) ?_
    refine sv_callS (as := [_]) (rest := []) C (met_numberOf l G _ (M 0 6) b6) fX5_numberOf kw_308 ⟨Nat.le_of_ble_eq_true rfl, Nat.le_of_ble_eq_true rfl⟩ (Nat.le_of_ble_eq_true rfl) dX5_counted_143 ⟨Nat.zero_le _, Nat.zero_le _⟩  ?_
    refine sv_ri (fun v143 e143 => ?_)
    exact sv_iret C hr dX5_counted_146 (Nat.le_of_ble_eq_true rfl) (Nat.le_of_ble_eq_true rfl) e143 (fun _ h => h)
  · refine sv_tableIn (off := 146) C 147 dX5_counted_1 (by decide) (by decide) (by decide) (by decide) ?_
    refine sv_aload_n (i := 0) (x := sv_r G 14 0) C dX5_counted_147 rfl rfl ?_
    refine sv_get_5_0 C kw_170 dX5_counted_148 ?_
    refine sv_get_3_4 C (by decide) kw_117 dX5_counted_151 ?_
    refine sv_set (v' := .int (M 0 7)) (congrArg Value.int rfl) ?_
    refine sv_callS (as := [_]) (rest := []) C (met_numberOf l G _ (M 0 7) b7) fX5_numberOf kw_308 ⟨Nat.le_of_ble_eq_true rfl, Nat.le_of_ble_eq_true rfl⟩ (Nat.le_of_ble_eq_true rfl) dX5_counted_154 ⟨Nat.zero_le _, Nat.zero_le _⟩  ?_
    refine sv_ri (fun v154 e154 => ?_)
    exact sv_iret C hr dX5_counted_157 (Nat.le_of_ble_eq_true rfl) (Nat.le_of_ble_eq_true rfl) e154 (fun _ h => h)
  · refine sv_tableIn (off := 157) C 158 dX5_counted_1 (by decide) (by decide) (by decide) (by decide) ?_
    refine sv_bipush (v := nI 8) C dX5_counted_158 (by decide) ?_
    refine sv_aload_n (i := 0) (x := sv_r G 14 0) C dX5_counted_160 rfl rfl ?_
    refine sv_get_5_0 C kw_170 dX5_counted_161 ?_
    refine sv_get_3_0 C (by decide) kw_109 dX5_counted_164 ?_
    refine sv_get_0_1 C (by decide) kw_45 dX5_counted_167 ?_
    refine sv_callS (as := [_]) (rest := [_]) C (met_sumOf l G _ _ _ 3 0 (sv_okj (by decide) (by decide)) rfl) fX5_sumOf kw_305 ⟨Nat.le_of_ble_eq_true rfl, Nat.le_of_ble_eq_true rfl⟩ (Nat.le_of_ble_eq_true rfl) dX5_counted_170 ⟨Nat.zero_le _, Nat.zero_le _⟩  ?_
    refine sv_riS (snd8 (M 0)) rfl ?_
    refine sv_isub C dX5_counted_173 ?_
    refine sv_set (v' := .int (nI 8 - snd8 (M 0))) (congrArg Value.int rfl) ?_
    exact sv_iret C hr dX5_counted_174 (Nat.le_of_ble_eq_true rfl) (Nat.le_of_ble_eq_true rfl) rfl (fun _ h => h)
  · refine sv_tableOut C 175 dX5_counted_1 (Or.inr (by decide)) (by decide) ?_
    refine sv_aload_n (i := 0) (x := sv_r G 14 0) C dX5_counted_175 rfl rfl ?_
    refine sv_get_5_2 C kw_172 dX5_counted_176 ?_
    refine sv_get_1_2 C kw_148 dX5_counted_179 ?_
    refine sv_topi (fun v179 e179 => ?_)
    exact sv_iret C hr dX5_counted_182 (Nat.le_of_ble_eq_true rfl) (Nat.le_of_ble_eq_true rfl) (e179.trans h1) (fun _ h => h)

set_option maxHeartbeats 4000000 in
set_option maxRecDepth 100000 in
theorem met_count (l : Launch) (G : sv_G) (hl : l.stackTraces = false) (z : Nat) (M : sv_M) (o : Int64) (f : Int32) (hd : Nat) (h1 : M 8 1 = nI hd) (b6 : M 0 6 = 0 ∨ M 0 6 = 1) (b7 : M 0 7 = 0 ∨ M 0 7 = 1) : sv_MetX l G yX5_count cX5_count 2 (some .int) 7 1 [.ref (sv_r G 14 0), .int f] (sv_W G z M o) (inC 11 f = 0) (some (.int (couv (M 0) hd f.toNatClampNeg))) (sv_W G z M o) (sv_E1 sv_IA (inC 11 f)) (sv_Wz G z M o) := by
  refine sv_ofWX (by decide) kw_296 (Nat.le_of_ble_eq_true rfl) ?_
  intro p e s mth args below meth c hr C hxt
  refine sv_sub (lv' := [(0, .ref (sv_r G 14 0)), (1, .int f)]) rfl ?_
  refine sv_iload_n (i := 1) (x := f) C dX5_count_0 rfl rfl ?_
  refine sv_bipush (v := nI 11) C dX5_count_1 (by decide) ?_
  refine sv_callSX (as := [_, _]) (rest := []) C (met_checkWhat l G hl _ _ _ f 11) fX5_checkWhat kw_258 ⟨Nat.le_of_ble_eq_true rfl, Nat.le_of_ble_eq_true rfl⟩ (Nat.le_of_ble_eq_true rfl) dX5_count_3 ⟨Nat.le_of_ble_eq_true rfl, Nat.le_of_ble_eq_true rfl⟩ (fun E hE => sv_out C hxt (Nat.le_of_ble_eq_true rfl) (Nat.le_of_ble_eq_true rfl) (hE) (fun _ h => h)) ?_
  intro ok1
  refine sv_rv ?_
  obtain ⟨g1, hg1, rfl⟩ := inC_0 (by decide) ok1
  refine sv_aload_n (i := 0) (x := sv_r G 14 0) C dX5_count_6 rfl rfl ?_
  refine sv_iload_n (i := 1) (x := nI g1) C dX5_count_7 rfl rfl ?_
  refine sv_callV (as := [_]) (rest := []) C (met_counted l G _ _ _ g1 hg1 hd h1 b6 b7) fX5_counted kw_297 (sv_recv14 C) ⟨Nat.le_of_ble_eq_true rfl, Nat.le_of_ble_eq_true rfl⟩ (Nat.le_of_ble_eq_true rfl) dX5_count_8 ⟨Nat.le_of_ble_eq_true rfl, Nat.le_of_ble_eq_true rfl⟩  ?_
  refine sv_ri (fun v8 e8 => ?_)
  exact sv_iretX C ok1 hr dX5_count_11 (Nat.le_of_ble_eq_true rfl) (Nat.le_of_ble_eq_true rfl) (by rw [e8, nI_clamp (by omega)]) (fun _ h => h)

set_option maxHeartbeats 4000000 in
set_option maxRecDepth 100000 in
theorem met_setting (l : Launch) (G : sv_G) (hl : l.stackTraces = false) (z : Nat) (M : sv_M) (o : Int64) (f : Int32) : sv_MetX l G yX5_setting cX5_setting 2 (some .int) 7 1 [.ref (sv_r G 14 0), .int f] (sv_W G z M o) (inC 4 f = 0) (some (.int (M 0 f.toNatClampNeg))) (sv_W G z M o) (sv_E1 sv_IO (inC 4 f)) (sv_Wz G z M o) := by
  refine sv_ofWX (by decide) kw_314 (Nat.le_of_ble_eq_true rfl) ?_
  intro p e s mth args below meth c hr C hxt
  refine sv_sub (lv' := [(0, .ref (sv_r G 14 0)), (1, .int f)]) rfl ?_
  refine sv_iload_n (i := 1) (x := f) C dX5_setting_0 rfl rfl ?_
  refine sv_callSX (as := [_]) (rest := []) C (met_checkSetting l G hl _ _ _ f) fX5_checkSetting kw_315 ⟨Nat.le_of_ble_eq_true rfl, Nat.le_of_ble_eq_true rfl⟩ (Nat.le_of_ble_eq_true rfl) dX5_setting_1 ⟨Nat.le_of_ble_eq_true rfl, Nat.le_of_ble_eq_true rfl⟩ (fun E hE => sv_out C hxt (Nat.le_of_ble_eq_true rfl) (Nat.le_of_ble_eq_true rfl) (hE) (fun _ h => h)) ?_
  intro ok1
  refine sv_rv ?_
  obtain ⟨g1, hg1, rfl⟩ := inC_0 (by decide) ok1
  refine sv_aload_n (i := 0) (x := sv_r G 14 0) C dX5_setting_4 rfl rfl ?_
  refine sv_get_5_0 C kw_170 dX5_setting_5 ?_
  refine sv_get_3_2 C (by decide) kw_113 dX5_setting_8 ?_
  refine sv_iload_n (i := 1) (x := nI g1) C dX5_setting_11 rfl rfl ?_
  refine sv_callS (as := [_, _]) (rest := []) C (met_atN 0 g1 rfl rfl (sv_okj (by decide) (by decide)) rfl (by show _ < 4; omega)) fX5_at kw_320 ⟨Nat.le_of_ble_eq_true rfl, Nat.le_of_ble_eq_true rfl⟩ (Nat.le_of_ble_eq_true rfl) dX5_setting_12 ⟨Nat.le_of_ble_eq_true rfl, Nat.le_of_ble_eq_true rfl⟩  ?_
  refine sv_ri (fun v12 e12 => ?_)
  exact sv_iretX C ok1 hr dX5_setting_15 (Nat.le_of_ble_eq_true rfl) (Nat.le_of_ble_eq_true rfl) (by rw [e12, nI_clamp (by omega)]) (fun _ h => h)

set_option maxHeartbeats 4000000 in
set_option maxRecDepth 100000 in
theorem met_outlook (l : Launch) (G : sv_G) (z : Nat) (M : sv_M) (o : Int64) (t w9 : Nat) (ht : t < 2147483648) (hw9 : w9 < 4) (b6 : M 0 6 = 0 ∨ M 0 6 = 1) (b7 : M 0 7 = 0 ∨ M 0 7 = 1) (hv : vd (M 0)) : sv_Met l G yX5_outlook cX5_outlook 4 (some .int) 7 [.ref (sv_r G 14 0), .int (nI t), .int (nI w9)] (sv_W G z M o) (some (.int (outv (M 0) t w9))) (sv_W1 G z M o) := by
  refine sv_ofW (by decide) kw_332 (Nat.le_of_ble_eq_true rfl) ?_
  intro p e s mth args below meth c hr C _
  refine sv_sub (lv' := [(0, .ref (sv_r G 14 0)), (1, .int (nI t)), (2, .int (nI w9))]) rfl ?_
  refine sv_aload_n (i := 0) (x := sv_r G 14 0) C dX5_outlook_0 rfl rfl ?_
  refine sv_get_5_1 C kw_171 dX5_outlook_1 ?_
  refine sv_aload_n (i := 0) (x := sv_r G 14 0) C dX5_outlook_4 rfl rfl ?_
  refine sv_get_5_0 C kw_170 dX5_outlook_5 ?_
  refine sv_callV (as := [_]) (rest := []) C (met_S_copy l G _ _ _ 0 1 (by decide) (by decide) (by omega) b6 b7) fX3_copyFrom kw_333 (sv_recv0 C (by decide)) ⟨Nat.le_of_ble_eq_true rfl, Nat.le_of_ble_eq_true rfl⟩ (Nat.le_of_ble_eq_true rfl) dX5_outlook_8 ⟨Nat.zero_le _, Nat.zero_le _⟩  ?_
  refine sv_rv ?_
  refine sv_aload_n (i := 0) (x := sv_r G 14 0) C dX5_outlook_11 rfl rfl ?_
  refine sv_get_5_1 C kw_171 dX5_outlook_12 ?_
  refine sv_iload_n (i := 1) (x := nI t) C dX5_outlook_15 rfl rfl ?_
  refine sv_callV (as := [_]) (rest := []) C (met_letPass l G _ _ _ 1 (by decide) (by rw [sv_us]; exact hv) t ht) fX3_letPass kw_347 (sv_recv0 C (by decide)) ⟨Nat.le_of_ble_eq_true rfl, Nat.le_of_ble_eq_true rfl⟩ (Nat.le_of_ble_eq_true rfl) dX5_outlook_16 ⟨Nat.zero_le _, Nat.zero_le _⟩  ?_
  refine sv_riS (dks (passv t (M 0)) - dks (M 0)) (by rw [sv_us]) ?_
  have hvp := vd_many (vd_pass hv t)
  refine sv_wd (sv_eqW (show _ = sv_u M 1 (passv t (M 0)) from by simp only [sv_us, sv_uu])) ?_
  refine sv_istore_n (i := 3) C [(0, .ref (sv_r G 14 0)), (1, .int (nI t)), (2, .int (nI w9)), (3, .int (dks (passv t (M 0)) - dks (M 0)))] dX5_outlook_19 rfl (by decide) rfl ?_
  refine sv_iload_n (i := 2) (x := nI w9) C dX5_outlook_20 rfl rfl ?_
  rcases (show w9 = 0 ∨ w9 = 1 ∨ w9 = 2 ∨ w9 = 3 by omega) with rfl | rfl | rfl | rfl
  · refine sv_tableIn (off := 27) C 48 dX5_outlook_21 (by decide) (by decide) (by decide) (by decide) ?_
    refine sv_iload_n (i := 3) (x := dks (passv t (M 0)) - dks (M 0)) C dX5_outlook_48 rfl rfl ?_
    exact sv_iret C hr dX5_outlook_49 (Nat.le_of_ble_eq_true rfl) (Nat.le_of_ble_eq_true rfl) rfl (fun H h => sv_W1_of H h)
  · refine sv_tableIn (off := 29) C 50 dX5_outlook_21 (by decide) (by decide) (by decide) (by decide) ?_
    refine sv_aload_n (i := 0) (x := sv_r G 14 0) C dX5_outlook_50 rfl rfl ?_
    refine sv_get_5_1 C kw_171 dX5_outlook_51 ?_
    refine sv_get_3_0 C (by decide) kw_109 dX5_outlook_54 ?_
    refine sv_get_0_4 C (by decide) kw_55 dX5_outlook_57 ?_
    refine sv_callS (as := [_]) (rest := []) C (met_sumOf l G _ _ _ 6 1 (sv_okj (by decide) (by decide)) rfl) fX5_sumOf kw_305 ⟨Nat.le_of_ble_eq_true rfl, Nat.le_of_ble_eq_true rfl⟩ (Nat.le_of_ble_eq_true rfl) dX5_outlook_60 ⟨Nat.zero_le _, Nat.zero_le _⟩  ?_
    refine sv_riS (eng (passv t (M 0))) (by show smI (fun f => sv_u M 1 (passv t (M 0)) 1 (6 * f + 13)) 8 = _; rw [sv_us]; rfl) ?_
    refine sv_aload_n (i := 0) (x := sv_r G 14 0) C dX5_outlook_63 rfl rfl ?_
    refine sv_get_5_0 C kw_170 dX5_outlook_64 ?_
    refine sv_get_3_0 C (by decide) kw_109 dX5_outlook_67 ?_
    refine sv_get_0_4 C (by decide) kw_55 dX5_outlook_70 ?_
    refine sv_callS (as := [_]) (rest := [_]) C (met_sumOf l G _ _ _ 6 0 (sv_okj (by decide) (by decide)) rfl) fX5_sumOf kw_305 ⟨Nat.le_of_ble_eq_true rfl, Nat.le_of_ble_eq_true rfl⟩ (Nat.le_of_ble_eq_true rfl) dX5_outlook_73 ⟨Nat.zero_le _, Nat.zero_le _⟩  ?_
    refine sv_riS (eng (M 0)) (by show smI (fun f => sv_u M 1 (passv t (M 0)) 0 (6 * f + 13)) 8 = _; rw [sv_un (by decide)]; rfl) ?_
    refine sv_isub C dX5_outlook_76 ?_
    refine sv_set (v' := .int (eng (passv t (M 0)) - eng (M 0))) (congrArg Value.int rfl) ?_
    exact sv_iret C hr dX5_outlook_77 (Nat.le_of_ble_eq_true rfl) (Nat.le_of_ble_eq_true rfl) rfl (fun H h => sv_W1_of H h)
  · refine sv_tableIn (off := 57) C 78 dX5_outlook_21 (by decide) (by decide) (by decide) (by decide) ?_
    refine sv_aload_n (i := 0) (x := sv_r G 14 0) C dX5_outlook_78 rfl rfl ?_
    refine sv_get_5_1 C kw_171 dX5_outlook_79 ?_
    refine sv_get_3_1 C (by decide) kw_111 dX5_outlook_82 ?_
    refine sv_get_2_4 C (by decide) kw_86 dX5_outlook_85 ?_
    refine sv_set (v' := .int (passv t (M 0) 57)) (congrArg Value.int (by rw [sv_us])) ?_
    exact sv_iret C hr dX5_outlook_88 (Nat.le_of_ble_eq_true rfl) (Nat.le_of_ble_eq_true rfl) rfl (fun H h => sv_W1_of H h)
  · refine sv_tableOut C 89 dX5_outlook_21 (Or.inr (by decide)) (by decide) ?_
    refine sv_aload_n (i := 0) (x := sv_r G 14 0) C dX5_outlook_89 rfl rfl ?_
    refine sv_get_5_1 C kw_171 dX5_outlook_90 ?_
    refine sv_callV (as := []) (rest := []) C (met_lampsBurning l G _ _ _ 1 (by decide) (by rw [sv_us]; exact hvp.2.2.1) (by rw [sv_us]; exact hvp.2.2.2.1)) fX3_lampsBurning kw_301 (sv_recv0 C (by decide)) ⟨Nat.le_of_ble_eq_true rfl, Nat.le_of_ble_eq_true rfl⟩ (Nat.le_of_ble_eq_true rfl) dX5_outlook_93 ⟨Nat.zero_le _, Nat.zero_le _⟩  ?_
    refine sv_riS (litI (passv t (M 0)) 8) (by rw [sv_us]) ?_
    exact sv_iret C hr dX5_outlook_96 (Nat.le_of_ble_eq_true rfl) (Nat.le_of_ble_eq_true rfl) rfl (fun H h => sv_W1_of H h)

set_option maxHeartbeats 4000000 in
set_option maxRecDepth 100000 in
theorem met_ifPassed (l : Launch) (G : sv_G) (hl : l.stackTraces = false) (z : Nat) (M : sv_M) (o : Int64) (f v : Int32) (b6 : M 0 6 = 0 ∨ M 0 6 = 1) (b7 : M 0 7 = 0 ∨ M 0 7 = 1) (hv : vd (M 0)) : sv_MetX l G yX5_ifPassed cX5_ifPassed 3 (some .int) 8 2 [.ref (sv_r G 14 0), .int f, .int v] (sv_W G z M o) (ifpC f v = 0) (some (.int (outv (M 0) f.toNatClampNeg v.toNatClampNeg))) (sv_W1 G z M o) (sv_E1 sv_IA (ifpC f v)) (sv_Wz G z M o) := by
  refine sv_ofWX (by decide) kw_324 (Nat.le_of_ble_eq_true rfl) ?_
  intro p e s mth args below meth c hr C hxt
  refine sv_sub (lv' := [(0, .ref (sv_r G 14 0)), (1, .int f), (2, .int v)]) rfl ?_
  refine sv_iload_n (i := 1) (x := f) C dX5_ifPassed_0 rfl rfl ?_
  refine sv_callSX (as := [_]) (rest := []) C (met_checkSeconds l G hl _ _ _ f) fX5_checkSeconds kw_325 ⟨Nat.le_of_ble_eq_true rfl, Nat.le_of_ble_eq_true rfl⟩ (Nat.le_of_ble_eq_true rfl) dX5_ifPassed_1 ⟨Nat.le_of_ble_eq_true rfl, Nat.le_of_ble_eq_true rfl⟩ (fun E hE => sv_out C hxt (Nat.le_of_ble_eq_true rfl) (Nat.le_of_ble_eq_true rfl) (⟨by unfold ifpC; rw [if_pos hE.1], hE.2⟩) (fun _ h => h)) ?_
  intro ok1
  refine sv_rv ?_
  refine sv_iload_n (i := 2) (x := v) C dX5_ifPassed_4 rfl rfl ?_
  refine sv_iconst (v := nI 4) C dX5_ifPassed_5 (by decide) ?_
  refine sv_callSX (as := [_, _]) (rest := []) C (met_checkWhat l G hl _ _ _ v 4) fX5_checkWhat kw_258 ⟨Nat.le_of_ble_eq_true rfl, Nat.le_of_ble_eq_true rfl⟩ (Nat.le_of_ble_eq_true rfl) dX5_ifPassed_6 ⟨Nat.le_of_ble_eq_true rfl, Nat.le_of_ble_eq_true rfl⟩ (fun E hE => sv_out C hxt (Nat.le_of_ble_eq_true rfl) (Nat.le_of_ble_eq_true rfl) (⟨by unfold ifpC; rw [if_neg (fun h => absurd (h.symm.trans ok1) (by decide))]; exact hE.1, hE.2⟩) (fun _ h => h)) ?_
  intro ok2
  refine sv_rv ?_
  obtain ⟨n1, hn1, hn2, rfl⟩ := secC_0 ok1
  obtain ⟨g2, hg2, rfl⟩ := inC_0 (by decide) ok2
  refine sv_aload_n (i := 0) (x := sv_r G 14 0) C dX5_ifPassed_9 rfl rfl ?_
  refine sv_iload_n (i := 1) (x := nI n1) C dX5_ifPassed_10 rfl rfl ?_
  refine sv_iload_n (i := 2) (x := nI g2) C dX5_ifPassed_11 rfl rfl ?_
  refine sv_callV (as := [_, _]) (rest := []) C (met_outlook l G _ _ _ n1 g2 (by omega) hg2 b6 b7 hv) fX5_outlook kw_329 (sv_recv14 C) ⟨Nat.le_of_ble_eq_true rfl, Nat.le_of_ble_eq_true rfl⟩ (Nat.le_of_ble_eq_true rfl) dX5_ifPassed_12 ⟨Nat.le_of_ble_eq_true rfl, Nat.le_of_ble_eq_true rfl⟩  ?_
  refine sv_ri (fun v12 e12 => ?_)
  exact sv_iretX C (by unfold ifpC; rw [if_neg (fun h => absurd (h.symm.trans ok1) (by decide))]; exact ok2) hr dX5_ifPassed_15 (Nat.le_of_ble_eq_true rfl) (Nat.le_of_ble_eq_true rfl) (by rw [e12, nI_clamp (by omega), nI_clamp (by omega)]) (fun _ h => h)

set_option maxHeartbeats 4000000 in
set_option maxRecDepth 100000 in
theorem met_worst (l : Launch) (G : sv_G) (z : Nat) (M : sv_M) (o : Int64) : sv_Met l G yX5_worst cX5_worst 1 (some .int) 2 [.ref (sv_r G 14 0)] (sv_W G z M o) (some (.int (mm (M 0) 8))) (sv_W G z M o) := by
  refine sv_ofW (by decide) kw_460 (Nat.le_of_ble_eq_true rfl) ?_
  intro p e s mth args below meth c hr C _
  refine sv_sub (lv' := [(0, .ref (sv_r G 14 0))]) rfl ?_
  refine sv_aload_n (i := 0) (x := sv_r G 14 0) C dX5_worst_0 rfl rfl ?_
  refine sv_get_5_0 C kw_170 dX5_worst_1 ?_
  refine sv_get_3_0 C (by decide) kw_109 dX5_worst_4 ?_
  refine sv_callV (as := []) (rest := []) C (met_mostMissed l G _ _ _ 0 (by decide)) fX0_mostMissed kw_461 (sv_recv1 C (by decide)) ⟨Nat.le_of_ble_eq_true rfl, Nat.le_of_ble_eq_true rfl⟩ (Nat.le_of_ble_eq_true rfl) dX5_worst_7 ⟨Nat.zero_le _, Nat.zero_le _⟩  ?_
  refine sv_ri (fun v7 e7 => ?_)
  exact sv_iret C hr dX5_worst_10 (Nat.le_of_ble_eq_true rfl) (Nat.le_of_ble_eq_true rfl) e7 (fun _ h => h)

set_option maxHeartbeats 4000000 in
set_option maxRecDepth 100000 in
theorem met_lightness (l : Launch) (G : sv_G) (z : Nat) (M : sv_M) (o : Int64) (hn : 0 < M 0 8 → vf_n64 (FP.ddiv (FP.i2d (M 0 8 - dks (M 0) - dms (M 0))) (FP.i2d (M 0 8)))) : sv_Met l G yX5_lightness cX5_lightness 1 (some .double) 2 [.ref (sv_r G 14 0)] (sv_W G z M o) (some (.double (lsh (M 0)))) (sv_W G z M o) := by
  refine sv_ofW (by decide) kw_468 (Nat.le_of_ble_eq_true rfl) ?_
  intro p e s mth args below meth c hr C _
  refine sv_sub (lv' := [(0, .ref (sv_r G 14 0))]) rfl ?_
  refine sv_aload_n (i := 0) (x := sv_r G 14 0) C dX5_lightness_0 rfl rfl ?_
  refine sv_get_5_0 C kw_170 dX5_lightness_1 ?_
  refine sv_callV (as := []) (rest := []) C (met_lightShare l G _ _ _ 0 (by decide) hn) fX3_lightShare kw_469 (sv_recv0 C (by decide)) ⟨Nat.le_of_ble_eq_true rfl, Nat.le_of_ble_eq_true rfl⟩ (Nat.le_of_ble_eq_true rfl) dX5_lightness_4 ⟨Nat.zero_le _, Nat.zero_le _⟩  ?_
  refine sv_rd (fun v4 e4 => ?_)
  exact sv_dret C hr dX5_lightness_7 (Nat.le_of_ble_eq_true rfl) (Nat.le_of_ble_eq_true rfl) e4 (fun _ h => h)
end
section
set_option maxHeartbeats 4000000 in
set_option maxRecDepth 100000 in
theorem met_darkWith (l : Launch) (G : sv_G) (z : Nat) (M : sv_M) (o : Int64) (T : Int32) (f t : Nat) (hf : f < 8) (ht : t < 8) (hv : vd (M 0)) (m : Nat) (hm : M 0 57 = nI m) (hm7 : m ≤ 6) : sv_Met l G yX5_darkWith cX5_darkWith 8 (some .int) 7 [.ref (sv_r G 14 0), .int T, .int (nI f), .int (nI t)] (sv_W G z M o) (some (.int (dkw (nI f) (nI t) T (M 0)))) (sv_W1 G z M o) := by
  refine sv_ofW (by decide) kw_416 (Nat.le_of_ble_eq_true rfl) ?_
  intro p e s mth args below meth c hr C _
  obtain ⟨x0, hx0⟩ : ∃ x, x = dwx (nI f) (nI t) T (M 0) := ⟨_, rfl⟩
  have hv0 : vd x0 := by
    rw [hx0]
    exact vd_dwx hv (by rw [many_eq hm (by omega)]; omega) hf ht
  obtain ⟨N9, hN9⟩ : ∃ n, n = dnF (M 0 5) 480 x0 := ⟨_, rfl⟩
  have hN480 : N9 ≤ 480 := by
    rw [hN9]
    exact dnF_le _ _ _
  refine sv_sub (lv' := [(0, .ref (sv_r G 14 0)), (1, .int T), (2, .int (nI f)), (3, .int (nI t))]) rfl ?_
  refine sv_aload_n (i := 0) (x := sv_r G 14 0) C dX5_darkWith_0 rfl rfl ?_
  refine sv_get_5_1 C kw_171 dX5_darkWith_1 ?_
  refine sv_aload_n (i := 0) (x := sv_r G 14 0) C dX5_darkWith_4 rfl rfl ?_
  refine sv_get_5_0 C kw_170 dX5_darkWith_5 ?_
  refine sv_callV (as := [_]) (rest := []) C (met_S_copy l G _ _ _ 0 1 (by decide) (by decide) (by omega) (vd_many hv).2.2.1 (vd_many hv).2.2.2.1) fX3_copyFrom kw_333 (sv_recv0 C (by decide)) ⟨Nat.le_of_ble_eq_true rfl, Nat.le_of_ble_eq_true rfl⟩ (Nat.le_of_ble_eq_true rfl) dX5_darkWith_8 ⟨Nat.zero_le _, Nat.zero_le _⟩  ?_
  refine sv_rv ?_
  refine sv_aload_n (i := 0) (x := sv_r G 14 0) C dX5_darkWith_11 rfl rfl ?_
  refine sv_get_5_1 C kw_171 dX5_darkWith_12 ?_
  refine sv_get_3_2 C (by decide) kw_113 dX5_darkWith_15 ?_
  refine sv_iconst (v := nI 0) C dX5_darkWith_18 (by decide) ?_
  refine sv_iload_n (i := 1) (x := T) C dX5_darkWith_19 rfl rfl ?_
  refine sv_callS (as := [_, _, _]) (rest := []) C (met_putN 1 0 rfl rfl (sv_okj (by decide) (by decide)) rfl (by show _ < 4; omega)) fX5_put kw_417 ⟨Nat.le_of_ble_eq_true rfl, Nat.le_of_ble_eq_true rfl⟩ (Nat.le_of_ble_eq_true rfl) dX5_darkWith_20 ⟨Nat.zero_le _, Nat.zero_le _⟩  ?_
  refine sv_rv ?_
  refine sv_aload_n (i := 0) (x := sv_r G 14 0) C dX5_darkWith_23 rfl rfl ?_
  refine sv_get_5_1 C kw_171 dX5_darkWith_24 ?_
  refine sv_iload_n (i := 2) (x := nI f) C dX5_darkWith_27 rfl rfl ?_
  refine sv_iload_n (i := 3) (x := nI t) C dX5_darkWith_28 rfl rfl ?_
  refine sv_callV (as := [_, _]) (rest := []) C (met_letCome l G _ _ _ 1 (by decide) (nI f) (nI t) m (by simp only [sv_wu, sv_us, sv_uu]; rw [upd_n (by decide)]; exact hm) (by omega)) fX3_letCome kw_418 (sv_recv0 C (by decide)) ⟨Nat.le_of_ble_eq_true rfl, Nat.le_of_ble_eq_true rfl⟩ (Nat.le_of_ble_eq_true rfl) dX5_darkWith_29 ⟨Nat.zero_le _, Nat.zero_le _⟩  ?_
  refine sv_riS (M 0 5) (by simp only [sv_wu, sv_us, sv_uu]; rw [upd_n (by decide)]) ?_
  refine sv_wd (sv_eqW (show _ = sv_u M 1 x0 from by rw [hx0]; unfold dwx; rw [many_eq hm (by omega)]; simp only [sv_wu, sv_us, sv_uu]; rw [upd_n (show 3 ≠ 0 by decide)])) ?_
  refine sv_istore (i := 4) C [(0, .ref (sv_r G 14 0)), (1, .int T), (2, .int (nI f)), (3, .int (nI t)), (4, .int (M 0 5))] dX5_darkWith_32 (by decide) rfl ?_
  refine sv_iconst (v := nI 0) C dX5_darkWith_34 (by decide) ?_
  refine sv_istore (i := 5) C [(0, .ref (sv_r G 14 0)), (1, .int T), (2, .int (nI f)), (3, .int (nI t)), (4, .int (M 0 5)), (5, .int (nI 0))] dX5_darkWith_35 (by decide) rfl ?_
  refine sv_iconst (v := nI 0) C dX5_darkWith_37 (by decide) ?_
  refine sv_istore (i := 6) C [(0, .ref (sv_r G 14 0)), (1, .int T), (2, .int (nI f)), (3, .int (nI t)), (4, .int (M 0 5)), (5, .int (nI 0)), (6, .int (nI 0))] dX5_darkWith_38 (by decide) rfl ?_
  refine sv_loop (N := N9) (I := fun _ => True) (Wf := fun i => sv_W G z (sv_u M 1 (passv i x0)) o) (Lf := fun i => [(0, .ref (sv_r G 14 0)), (1, .int T), (2, .int (nI f)), (3, .int (nI t)), (4, .int (M 0 5)), (5, .int (dcF (M 0 5) x0 i)), (6, .int (nI i))]) 0 (Nat.zero_le _) trivial (fun i hi0 hi hI ih => ?_)
  refine sv_iload (i := 6) (x := nI i) C dX5_darkWith_40 rfl ?_
  refine sv_sipush (v := nI 480) C dX5_darkWith_42 (by decide) ?_
  refine sv_icmp_geN C 119 dX5_darkWith_45 (by decide) (by omega) (by omega) (fun q45 => ?_) (fun q45 => ?_)
  · refine sv_iload (i := 5) (x := dcF (M 0 5) x0 i) C dX5_darkWith_119 rfl ?_
    exact sv_iret C hr dX5_darkWith_121 (Nat.le_of_ble_eq_true rfl) (Nat.le_of_ble_eq_true rfl) (by rw [show i = N9 from by have := dnF_le (M 0 5) 480 x0; omega, hN9, hx0]; rfl) (fun H h => sv_W1_of H h)
  · refine sv_aload_n (i := 0) (x := sv_r G 14 0) C dX5_darkWith_48 rfl rfl ?_
    refine sv_get_5_1 C kw_171 dX5_darkWith_49 ?_
    have hvi := vd_pass hv0 i
    have hma := vd_many hvi
    have hmi := vd_mid hvi
    refine sv_callV (as := []) (rest := []) C (met_beginSecond l G _ _ _ 1 (by decide) (many (passv i x0)) (by rw [sv_us]; exact hma.1) (by exact hma.2.1)) fX3_beginSecond kw_430 (sv_recv0 C (by decide)) ⟨Nat.le_of_ble_eq_true rfl, Nat.le_of_ble_eq_true rfl⟩ (Nat.le_of_ble_eq_true rfl) dX5_darkWith_52 ⟨Nat.zero_le _, Nat.zero_le _⟩  ?_
    refine sv_rv ?_
    refine sv_wd (sv_eqW (show _ = sv_u M 1 (begx (passv i x0)) from by simp only [sv_us, sv_uu]; rfl)) ?_
    refine sv_aload_n (i := 0) (x := sv_r G 14 0) C dX5_darkWith_55 rfl rfl ?_
    refine sv_get_5_1 C kw_171 dX5_darkWith_56 ?_
    refine sv_get_3_1 C (by decide) kw_111 dX5_darkWith_59 ?_
    refine sv_iload (i := 4) (x := M 0 5) C dX5_darkWith_62 rfl ?_
    refine sv_callV (as := [_]) (rest := []) C (met_placeOf l G _ _ _ 1 (by decide) (M 0 5) (many (begx (passv i x0))) (by rw [sv_us]; exact hmi.2.1) (by exact hmi.1)) fX2_placeOf kw_431 (sv_recv8 C (by decide)) ⟨Nat.le_of_ble_eq_true rfl, Nat.le_of_ble_eq_true rfl⟩ (Nat.le_of_ble_eq_true rfl) dX5_darkWith_64 ⟨Nat.zero_le _, Nat.zero_le _⟩  ?_
    refine sv_riS (plx (M 0 5) (passv i x0)) (by rw [sv_us]; rfl) ?_
    refine sv_istore (i := 7) C [(0, .ref (sv_r G 14 0)), (1, .int T), (2, .int (nI f)), (3, .int (nI t)), (4, .int (M 0 5)), (5, .int (dcF (M 0 5) x0 i)), (6, .int (nI i)), (7, .int (plx (M 0 5) (passv i x0)))] dX5_darkWith_67 (by decide) rfl ?_
    refine sv_iload (i := 7) (x := plx (M 0 5) (passv i x0)) C dX5_darkWith_69 rfl ?_
    refine sv_iconst (v := (-1)) C dX5_darkWith_71 (by decide) ?_
    refine sv_icmp_ne C 78 dX5_darkWith_72 (by decide) (fun q72 => ?_) (fun q72 => ?_)
    · obtain ⟨p9, hp1, hp2, hp3, hp4⟩ := (plF_in (x := begx (passv i x0)) (v := M 0 5) (many (begx (passv i x0))) 0).resolve_left q72
      have hp3 : plx (M 0 5) (passv i x0) = nI p9 := hp3
      obtain ⟨⟨fl, hfl, efl⟩, _⟩ := hmi.2.2.2.2 p9 (by show p9 < many (begx (passv i x0)); omega)
      have hm7' : many (begx (passv i x0)) ≤ 7 := hmi.1
      have hdw : dwd (M 0 5) (passv i x0) = if lampv (begx (passv i x0)) fl = 0 then 1 else 0 := by
        unfold dwd
        rw [hp3, nI_clamp (by omega), show begx (passv i x0) (4 * p9 + 59) = nI fl from efl, nI_clamp (by omega)]
      have hin : i < N9 := by
        rcases Nat.lt_or_ge i N9 with h | h
        · exact h
        · exfalso
          have h9 : i = N9 := by omega
          rcases dnF_hi (M 0 5) 480 x0 with h8 | h8
          · rw [← hN9, ← h9] at h8
            exact q72 h8
          · omega
      rw [hp3]
      refine sv_aload_n (i := 0) (x := sv_r G 14 0) C dX5_darkWith_78 rfl rfl ?_
      refine sv_get_5_1 C kw_171 dX5_darkWith_79 ?_
      refine sv_aload_n (i := 0) (x := sv_r G 14 0) C dX5_darkWith_82 rfl rfl ?_
      refine sv_get_5_1 C kw_171 dX5_darkWith_83 ?_
      refine sv_get_3_1 C (by decide) kw_111 dX5_darkWith_86 ?_
      refine sv_get_2_1 C (by decide) kw_81 dX5_darkWith_89 ?_
      refine sv_iload (i := 7) (x := nI p9) C dX5_darkWith_92 rfl ?_
      refine sv_callS (as := [_, _]) (rest := [_]) C (met_atN 1 (4 * p9 + 59) rfl rfl (sv_okj (by decide) (by decide)) rfl (by show _ < 7; omega)) fX5_at kw_320 ⟨Nat.le_of_ble_eq_true rfl, Nat.le_of_ble_eq_true rfl⟩ (Nat.le_of_ble_eq_true rfl) dX5_darkWith_94 ⟨Nat.zero_le _, Nat.zero_le _⟩  ?_
      refine sv_riN fl (by rw [sv_us]; exact efl) ?_
      refine sv_callV (as := [_]) (rest := []) C (met_lampOf l G _ _ _ 1 fl (by decide) (by omega) (by rw [sv_us]; exact hmi.2.2.1) (by rw [sv_us]; exact hmi.2.2.2.1)) fX3_lampOf kw_435 (sv_recv0 C (by decide)) ⟨Nat.le_of_ble_eq_true rfl, Nat.le_of_ble_eq_true rfl⟩ (Nat.le_of_ble_eq_true rfl) dX5_darkWith_97 ⟨Nat.zero_le _, Nat.zero_le _⟩  ?_
      refine sv_riS (lampv (begx (passv i x0)) fl) (by rw [sv_us]) ?_
      refine sv_if_ne C 106 dX5_darkWith_100 (by decide) (fun q100 => ?_) (fun q100 => ?_)
      · have q100 : ¬ lampv (begx (passv i x0)) fl = 0 := q100
        refine sv_aload_n (i := 0) (x := sv_r G 14 0) C dX5_darkWith_106 rfl rfl ?_
        refine sv_get_5_1 C kw_171 dX5_darkWith_107 ?_
        refine sv_callV (as := []) (rest := []) C (met_endSecond l G _ _ _ 1 (by decide) (many (begx (passv i x0))) (by simp only [sv_us]; exact hmi.2.1) hmi.1 (by simp only [sv_us]; exact hmi.2.2.1) (by simp only [sv_us]; exact hmi.2.2.2.1) (by simp only [sv_us]; exact vfl_of hmi.2.2.2.2)) fX3_endSecond kw_436 (sv_recv0 C (by decide)) ⟨Nat.le_of_ble_eq_true rfl, Nat.le_of_ble_eq_true rfl⟩ (Nat.le_of_ble_eq_true rfl) dX5_darkWith_110 ⟨Nat.zero_le _, Nat.zero_le _⟩  ?_
        refine sv_rv ?_
        refine sv_iinc (i := 6) (x := nI i) C (nI (i + 1)) [(0, .ref (sv_r G 14 0)), (1, .int T), (2, .int (nI f)), (3, .int (nI t)), (4, .int (M 0 5)), (5, .int (dcF (M 0 5) x0 i)), (6, .int (nI (i + 1))), (7, .int (nI p9))] dX5_darkWith_113 rfl (sv_incN i 1) (by decide) rfl ?_
        refine sv_goto C 40 dX5_darkWith_116 (by decide) ?_
        refine sv_sub (lv' := [(0, .ref (sv_r G 14 0)), (1, .int T), (2, .int (nI f)), (3, .int (nI t)), (4, .int (M 0 5)), (5, .int (dcF (M 0 5) x0 i)), (6, .int (nI (i + 1)))]) rfl ?_
        rw [show dcF (M 0 5) x0 i = dcF (M 0 5) x0 (i + 1) from by show _ = dcF (M 0 5) x0 i + dwd (M 0 5) (passv i x0); rw [hdw, if_neg q100]; exact (Int32.add_zero _).symm]
        refine sv_wd (sv_eqW ?_) (ih hin trivial)
        simp only [sv_us, sv_uu]
        rfl
      · have q100 : lampv (begx (passv i x0)) fl = 0 := q100
        obtain ⟨v103, e103⟩ : ∃ y : Int32, y = dcF (M 0 5) x0 i + Int32.ofInt (1) := ⟨_, rfl⟩
        refine sv_iinc (i := 5) (x := dcF (M 0 5) x0 i) C v103 [(0, .ref (sv_r G 14 0)), (1, .int T), (2, .int (nI f)), (3, .int (nI t)), (4, .int (M 0 5)), (5, .int v103), (6, .int (nI i)), (7, .int (nI p9))] dX5_darkWith_103 rfl e103.symm (by decide) rfl ?_
        refine sv_aload_n (i := 0) (x := sv_r G 14 0) C dX5_darkWith_106 rfl rfl ?_
        refine sv_get_5_1 C kw_171 dX5_darkWith_107 ?_
        refine sv_callV (as := []) (rest := []) C (met_endSecond l G _ _ _ 1 (by decide) (many (begx (passv i x0))) (by simp only [sv_us]; exact hmi.2.1) hmi.1 (by simp only [sv_us]; exact hmi.2.2.1) (by simp only [sv_us]; exact hmi.2.2.2.1) (by simp only [sv_us]; exact vfl_of hmi.2.2.2.2)) fX3_endSecond kw_436 (sv_recv0 C (by decide)) ⟨Nat.le_of_ble_eq_true rfl, Nat.le_of_ble_eq_true rfl⟩ (Nat.le_of_ble_eq_true rfl) dX5_darkWith_110 ⟨Nat.zero_le _, Nat.zero_le _⟩  ?_
        refine sv_rv ?_
        refine sv_iinc (i := 6) (x := nI i) C (nI (i + 1)) [(0, .ref (sv_r G 14 0)), (1, .int T), (2, .int (nI f)), (3, .int (nI t)), (4, .int (M 0 5)), (5, .int v103), (6, .int (nI (i + 1))), (7, .int (nI p9))] dX5_darkWith_113 rfl (sv_incN i 1) (by decide) rfl ?_
        refine sv_goto C 40 dX5_darkWith_116 (by decide) ?_
        refine sv_sub (lv' := [(0, .ref (sv_r G 14 0)), (1, .int T), (2, .int (nI f)), (3, .int (nI t)), (4, .int (M 0 5)), (5, .int v103), (6, .int (nI (i + 1)))]) rfl ?_
        rw [show v103 = dcF (M 0 5) x0 (i + 1) from by rw [e103]; show _ = dcF (M 0 5) x0 i + dwd (M 0 5) (passv i x0); rw [hdw, if_pos q100]; rfl]
        refine sv_wd (sv_eqW ?_) (ih hin trivial)
        simp only [sv_us, sv_uu]
        rfl
    · refine sv_iload (i := 5) (x := dcF (M 0 5) x0 i) C dX5_darkWith_75 rfl ?_
      exact sv_iret C hr dX5_darkWith_77 (Nat.le_of_ble_eq_true rfl) (Nat.le_of_ble_eq_true rfl) (by rw [show i = N9 from Nat.le_antisymm hi (Nat.not_lt.mp fun h => dnF_lo (M 0 5) 480 x0 i (by omega) q72), hN9, hx0]; rfl) (fun H h => sv_W1_of H h)

theorem wayC_0 {f t : Int32} (h : wayC f t = 0) : (∃ g, g < 8 ∧ f = nI g) ∧ ∃ g, g < 8 ∧ t = nI g := by
  unfold wayC at h
  split at h
  · cases h
  · rename_i h1
    exact ⟨inC_0 (by decide) ((inC_01 8 f).resolve_right (fun q => h1 (Or.inl q))), inC_0 (by decide) ((inC_01 8 t).resolve_right (fun q => h1 (Or.inr q)))⟩
set_option maxHeartbeats 4000000 in
set_option maxRecDepth 100000 in
theorem met_dark (l : Launch) (G : sv_G) (hl : l.stackTraces = false) (z : Nat) (M : sv_M) (o : Int64) (f t : Int32) (hv : vd (M 0)) (m : Nat) (hm : M 0 57 = nI m) (hm7 : m ≤ 6) : sv_MetX l G yX5_dark cX5_dark 3 (some .int) 8 3 [.ref (sv_r G 14 0), .int f, .int t] (sv_W G z M o) (wayC f t = 0) (some (.int (dkw f t (M 0 0) (M 0)))) (sv_W1 G z M o) (sv_E2 sv_IO sv_IA (wayC f t)) (sv_Wz G z M o) := by
  refine sv_ofWX (by decide) kw_408 (Nat.le_of_ble_eq_true rfl) ?_
  intro p e s mth args below meth c hr C hxt
  refine sv_sub (lv' := [(0, .ref (sv_r G 14 0)), (1, .int f), (2, .int t)]) rfl ?_
  refine sv_iload_n (i := 1) (x := f) C dX5_dark_0 rfl rfl ?_
  refine sv_iload_n (i := 2) (x := t) C dX5_dark_1 rfl rfl ?_
  refine sv_callSX (as := [_, _]) (rest := []) C (met_checkWay l G hl _ _ _ f t) fX5_checkWay kw_409 ⟨Nat.le_of_ble_eq_true rfl, Nat.le_of_ble_eq_true rfl⟩ (Nat.le_of_ble_eq_true rfl) dX5_dark_2 ⟨Nat.le_of_ble_eq_true rfl, Nat.le_of_ble_eq_true rfl⟩ (fun E hE => sv_out C hxt (Nat.le_of_ble_eq_true rfl) (Nat.le_of_ble_eq_true rfl) (hE) (fun _ h => h)) ?_
  intro ok1
  refine sv_rv ?_
  obtain ⟨⟨g1, hg1, rfl⟩, g2, hg2, rfl⟩ := wayC_0 ok1
  refine sv_aload_n (i := 0) (x := sv_r G 14 0) C dX5_dark_5 rfl rfl ?_
  refine sv_aload_n (i := 0) (x := sv_r G 14 0) C dX5_dark_6 rfl rfl ?_
  refine sv_get_5_0 C kw_170 dX5_dark_7 ?_
  refine sv_get_3_2 C (by decide) kw_113 dX5_dark_10 ?_
  refine sv_iconst (v := nI 0) C dX5_dark_13 (by decide) ?_
  refine sv_callS (as := [_, _]) (rest := [_]) C (met_atN 0 0 rfl rfl (sv_okj (by decide) (by decide)) rfl (by show _ < 4; omega)) fX5_at kw_320 ⟨Nat.le_of_ble_eq_true rfl, Nat.le_of_ble_eq_true rfl⟩ (Nat.le_of_ble_eq_true rfl) dX5_dark_14 ⟨Nat.le_of_ble_eq_true rfl, Nat.le_of_ble_eq_true rfl⟩  ?_
  refine sv_riS (M 0 0) rfl ?_
  refine sv_iload_n (i := 1) (x := nI g1) C dX5_dark_17 rfl rfl ?_
  refine sv_iload_n (i := 2) (x := nI g2) C dX5_dark_18 rfl rfl ?_
  refine sv_callV (as := [_, _, _]) (rest := []) C (met_darkWith l G _ _ _ (M 0 0) g1 g2 hg1 hg2 hv m hm hm7) fX5_darkWith kw_413 (sv_recv14 C) ⟨Nat.le_of_ble_eq_true rfl, Nat.le_of_ble_eq_true rfl⟩ (Nat.le_of_ble_eq_true rfl) dX5_dark_19 ⟨Nat.le_of_ble_eq_true rfl, Nat.le_of_ble_eq_true rfl⟩  ?_
  refine sv_ri (fun v19 e19 => ?_)
  exact sv_iretX C ok1 hr dX5_dark_22 (Nat.le_of_ble_eq_true rfl) (Nat.le_of_ble_eq_true rfl) e19 (fun _ h => h)

theorem pk_m1' {n : Nat} (h : 0 < n) : nI n + Int32.ofInt (-1) = nI (n - 1) := by
  obtain ⟨m, rfl⟩ : ∃ m, n = m + 1 := ⟨n - 1, by omega⟩
  exact pk_m1 m
end
section
/-! calls with good arguments: nothing is thrown, nothing is made -/
set_option maxHeartbeats 4000000 in
set_option maxRecDepth 100000 in
theorem met0_checkFloor (l : Launch) (G : sv_G) (Wd : Heap → Prop) (f : Nat) (hf : f < 8) : sv_Met l G yX5_checkFloor cX5_checkFloor 1 none 0 [.int (nI f)] Wd none Wd := by
  refine sv_ofW (by decide) kw_189 (Nat.le_of_ble_eq_true rfl) ?_
  intro p e s mth args below meth c hr C _
  refine sv_sub (lv' := [(0, .int (nI f))]) rfl ?_
  refine sv_iload_n (i := 0) (x := nI f) C dX5_checkFloor_0 rfl rfl ?_
  refine sv_if_lt C 10 dX5_checkFloor_1 (by decide) (fun q1 => ?_) (fun q1 => ?_)
  · exact absurd q1 (nI_pos (by omega))
  · refine sv_iload_n (i := 0) (x := nI f) C dX5_checkFloor_4 rfl rfl ?_
    refine sv_bipush (v := nI 8) C dX5_checkFloor_5 (by decide) ?_
    refine sv_icmp_ltN C 20 dX5_checkFloor_7 (by decide) (by omega) (by omega) (fun q7 => ?_) (fun q7 => ?_)
    · exact sv_vret C hr dX5_checkFloor_20 (Nat.le_of_ble_eq_true rfl) (Nat.le_of_ble_eq_true rfl) (fun _ h => h)
    · exact absurd hf q7

set_option maxHeartbeats 4000000 in
set_option maxRecDepth 100000 in
theorem met0_checkSetting (l : Launch) (G : sv_G) (Wd : Heap → Prop) (f : Nat) (hf : f < 4) : sv_Met l G yX5_checkSetting cX5_checkSetting 1 none 0 [.int (nI f)] Wd none Wd := by
  refine sv_ofW (by decide) kw_317 (Nat.le_of_ble_eq_true rfl) ?_
  intro p e s mth args below meth c hr C _
  refine sv_sub (lv' := [(0, .int (nI f))]) rfl ?_
  refine sv_iload_n (i := 0) (x := nI f) C dX5_checkSetting_0 rfl rfl ?_
  refine sv_if_lt C 12 dX5_checkSetting_1 (by decide) (fun q1 => ?_) (fun q1 => ?_)
  · exact absurd q1 (nI_pos (by omega))
  · refine sv_iload_n (i := 0) (x := nI f) C dX5_checkSetting_4 rfl rfl ?_
    refine sv_gets0 C kw_318 dX5_checkSetting_5 ?_
    refine sv_salen0 C dX5_checkSetting_8 ?_
    refine sv_icmp_ltN C 22 dX5_checkSetting_9 (by decide) (by omega) (by omega) (fun q9 => ?_) (fun q9 => ?_)
    · exact sv_vret C hr dX5_checkSetting_22 (Nat.le_of_ble_eq_true rfl) (Nat.le_of_ble_eq_true rfl) (fun _ h => h)
    · exact absurd hf q9

set_option maxHeartbeats 4000000 in
set_option maxRecDepth 100000 in
theorem met0_checkSeconds (l : Launch) (G : sv_G) (Wd : Heap → Prop) (f : Nat) (h1 : 1 ≤ f) (hf : f ≤ 300) : sv_Met l G yX5_checkSeconds cX5_checkSeconds 1 none 0 [.int (nI f)] Wd none Wd := by
  refine sv_ofW (by decide) kw_327 (Nat.le_of_ble_eq_true rfl) ?_
  intro p e s mth args below meth c hr C _
  refine sv_sub (lv' := [(0, .int (nI f))]) rfl ?_
  refine sv_iload_n (i := 0) (x := nI f) C dX5_checkSeconds_0 rfl rfl ?_
  refine sv_iconst (v := nI 1) C dX5_checkSeconds_1 (by decide) ?_
  refine sv_icmp_ltN C 12 dX5_checkSeconds_2 (by decide) (by omega) (by omega) (fun q2 => ?_) (fun q2 => ?_)
  · exact absurd q2 (by omega)
  · refine sv_iload_n (i := 0) (x := nI f) C dX5_checkSeconds_5 rfl rfl ?_
    refine sv_sipush (v := nI 300) C dX5_checkSeconds_6 (by decide) ?_
    refine sv_icmp_leN C 22 dX5_checkSeconds_9 (by decide) (by omega) (by omega) (fun q9 => ?_) (fun q9 => ?_)
    · exact sv_vret C hr dX5_checkSeconds_22 (Nat.le_of_ble_eq_true rfl) (Nat.le_of_ble_eq_true rfl) (fun _ h => h)
    · exact absurd hf q9

set_option maxHeartbeats 4000000 in
set_option maxRecDepth 100000 in
theorem met0_checkWhat (l : Launch) (G : sv_G) (Wd : Heap → Prop) (f n9 : Nat) (hf : f < n9) (hn : n9 < 2147483648) : sv_Met l G yX5_checkWhat cX5_checkWhat 2 none 0 [.int (nI f), .int (nI n9)] Wd none Wd := by
  refine sv_ofW (by decide) kw_260 (Nat.le_of_ble_eq_true rfl) ?_
  intro p e s mth args below meth c hr C _
  refine sv_sub (lv' := [(0, .int (nI f)), (1, .int (nI n9))]) rfl ?_
  refine sv_iload_n (i := 0) (x := nI f) C dX5_checkWhat_0 rfl rfl ?_
  refine sv_if_lt C 9 dX5_checkWhat_1 (by decide) (fun q1 => ?_) (fun q1 => ?_)
  · exact absurd q1 (nI_pos (by omega))
  · refine sv_iload_n (i := 0) (x := nI f) C dX5_checkWhat_4 rfl rfl ?_
    refine sv_iload_n (i := 1) (x := nI n9) C dX5_checkWhat_5 rfl rfl ?_
    refine sv_icmp_ltN C 19 dX5_checkWhat_6 (by decide) (by omega) (by omega) (fun q6 => ?_) (fun q6 => ?_)
    · exact sv_vret C hr dX5_checkWhat_19 (Nat.le_of_ble_eq_true rfl) (Nat.le_of_ble_eq_true rfl) (fun _ h => h)
    · exact absurd hf q6

set_option maxHeartbeats 4000000 in
set_option maxRecDepth 100000 in
theorem met0_checkWay (l : Launch) (G : sv_G) (Wd : Heap → Prop) (f t : Nat) (hf : f < 8) (ht : t < 8) (hft : f ≠ t) : sv_Met l G yX5_checkWay cX5_checkWay 2 none 1 [.int (nI f), .int (nI t)] Wd none Wd := by
  refine sv_ofW (by decide) kw_411 (Nat.le_of_ble_eq_true rfl) ?_
  intro p e s mth args below meth c hr C _
  refine sv_sub (lv' := [(0, .int (nI f)), (1, .int (nI t))]) rfl ?_
  refine sv_iload_n (i := 0) (x := nI f) C dX5_checkWay_0 rfl rfl ?_
  refine sv_callS (as := [_]) (rest := []) C (met0_checkFloor l G _ f hf) fX5_checkFloor kw_187 ⟨Nat.le_of_ble_eq_true rfl, Nat.le_of_ble_eq_true rfl⟩ (Nat.le_of_ble_eq_true rfl) dX5_checkWay_1 ⟨Nat.zero_le _, Nat.zero_le _⟩  ?_
  refine sv_rv ?_
  refine sv_iload_n (i := 1) (x := nI t) C dX5_checkWay_4 rfl rfl ?_
  refine sv_callS (as := [_]) (rest := []) C (met0_checkFloor l G _ t ht) fX5_checkFloor kw_187 ⟨Nat.le_of_ble_eq_true rfl, Nat.le_of_ble_eq_true rfl⟩ (Nat.le_of_ble_eq_true rfl) dX5_checkWay_5 ⟨Nat.zero_le _, Nat.zero_le _⟩  ?_
  refine sv_rv ?_
  refine sv_iload_n (i := 0) (x := nI f) C dX5_checkWay_8 rfl rfl ?_
  refine sv_iload_n (i := 1) (x := nI t) C dX5_checkWay_9 rfl rfl ?_
  refine sv_icmp_neN C 23 dX5_checkWay_10 (by decide) (by omega) (by omega) (fun q10 => ?_) (fun q10 => ?_)
  · exact sv_vret C hr dX5_checkWay_23 (Nat.le_of_ble_eq_true rfl) (Nat.le_of_ble_eq_true rfl) (fun _ h => h)
  · exact absurd q10 hft

set_option maxHeartbeats 4000000 in
set_option maxRecDepth 100000 in
theorem met0_floor (l : Launch) (G : sv_G) (z : Nat) (M : sv_M) (o : Int64) (f w9 : Nat) (hf : f < 8) (hw9 : w9 < 8) (m : Nat) (hm : M 0 57 = nI m) (hm7 : m ≤ 6) (b6 : M 0 6 = 0 ∨ M 0 6 = 1) (b7 : M 0 7 = 0 ∨ M 0 7 = 1) : sv_Met l G yX5_floor cX5_floor 3 (some .int) 3 [.ref (sv_r G 14 0), .int (nI f), .int (nI w9)] (sv_W G z M o) (some (.int (fnv m (M 0) f w9))) (sv_W G z M o) := by
  refine sv_ofW (by decide) kw_186 (Nat.le_of_ble_eq_true rfl) ?_
  intro p e s mth args below meth c hr C _
  refine sv_sub (lv' := [(0, .ref (sv_r G 14 0)), (1, .int (nI f)), (2, .int (nI w9))]) rfl ?_
  refine sv_iload_n (i := 1) (x := nI f) C dX5_floor_0 rfl rfl ?_
  refine sv_callS (as := [_]) (rest := []) C (met0_checkFloor l G _ f hf) fX5_checkFloor kw_187 ⟨Nat.le_of_ble_eq_true rfl, Nat.le_of_ble_eq_true rfl⟩ (Nat.le_of_ble_eq_true rfl) dX5_floor_1 ⟨Nat.zero_le _, Nat.zero_le _⟩  ?_
  refine sv_rv ?_
  refine sv_iload_n (i := 2) (x := nI w9) C dX5_floor_4 rfl rfl ?_
  refine sv_bipush (v := nI 8) C dX5_floor_5 (by decide) ?_
  refine sv_callS (as := [_, _]) (rest := []) C (met0_checkWhat l G _ w9 8 hw9 (by decide)) fX5_checkWhat kw_258 ⟨Nat.le_of_ble_eq_true rfl, Nat.le_of_ble_eq_true rfl⟩ (Nat.le_of_ble_eq_true rfl) dX5_floor_7 ⟨Nat.zero_le _, Nat.zero_le _⟩  ?_
  refine sv_rv ?_
  refine sv_aload_n (i := 0) (x := sv_r G 14 0) C dX5_floor_10 rfl rfl ?_
  refine sv_get_5_0 C kw_170 dX5_floor_11 ?_
  refine sv_iload_n (i := 1) (x := nI f) C dX5_floor_14 rfl rfl ?_
  refine sv_iload_n (i := 2) (x := nI w9) C dX5_floor_15 rfl rfl ?_
  refine sv_callV (as := [_, _]) (rest := []) C (met_floorNumber l G _ _ _ 0 f w9 (by decide) hf hw9 m hm (by omega) b6 b7) fX3_floorNumber kw_277 (sv_recv0 C (by decide)) ⟨Nat.le_of_ble_eq_true rfl, Nat.le_of_ble_eq_true rfl⟩ (Nat.le_of_ble_eq_true rfl) dX5_floor_16 ⟨Nat.zero_le _, Nat.zero_le _⟩  ?_
  refine sv_ri (fun v16 e16 => ?_)
  exact sv_iret C hr dX5_floor_19 (Nat.le_of_ble_eq_true rfl) (Nat.le_of_ble_eq_true rfl) e16 (fun _ h => h)

set_option maxHeartbeats 4000000 in
set_option maxRecDepth 100000 in
theorem met0_person (l : Launch) (G : sv_G) (z : Nat) (M : sv_M) (o : Int64) (f w9 : Nat) (hf : f < 2147483648) (hw9 : w9 < 4) (m : Nat) (hm : M 0 57 = nI m) (hm7 : m ≤ 6) : sv_Met l G yX5_person cX5_person 3 (some .int) 2 [.ref (sv_r G 14 0), .int (nI f), .int (nI w9)] (sv_W G z M o) (some (.int (if f < m then M 0 (4 * f + 58 + w9) else (-1)))) (sv_W G z M o) := by
  refine sv_ofW (by decide) kw_451 (Nat.le_of_ble_eq_true rfl) ?_
  intro p e s mth args below meth c hr C _
  refine sv_sub (lv' := [(0, .ref (sv_r G 14 0)), (1, .int (nI f)), (2, .int (nI w9))]) rfl ?_
  refine sv_iload_n (i := 1) (x := nI f) C dX5_person_0 rfl rfl ?_
  refine sv_if_ge C 14 dX5_person_1 (by decide) (fun q1 => ?_) (fun q1 => ?_)
  · refine sv_iload_n (i := 2) (x := nI w9) C dX5_person_14 rfl rfl ?_
    refine sv_iconst (v := nI 4) C dX5_person_15 (by decide) ?_
    refine sv_callS (as := [_, _]) (rest := []) C (met0_checkWhat l G _ w9 4 hw9 (by decide)) fX5_checkWhat kw_258 ⟨Nat.le_of_ble_eq_true rfl, Nat.le_of_ble_eq_true rfl⟩ (Nat.le_of_ble_eq_true rfl) dX5_person_16 ⟨Nat.zero_le _, Nat.zero_le _⟩  ?_
    refine sv_rv ?_
    refine sv_aload_n (i := 0) (x := sv_r G 14 0) C dX5_person_19 rfl rfl ?_
    refine sv_get_5_0 C kw_170 dX5_person_20 ?_
    refine sv_get_3_1 C (by decide) kw_111 dX5_person_23 ?_
    refine sv_iload_n (i := 1) (x := nI f) C dX5_person_26 rfl rfl ?_
    refine sv_iload_n (i := 2) (x := nI w9) C dX5_person_27 rfl rfl ?_
    refine sv_callV (as := [_, _]) (rest := []) C (met_personNumber l G _ _ _ 0 f w9 (by decide) hf hw9 m hm (by omega)) fX2_personNumber kw_453 (sv_recv8 C (by decide)) ⟨Nat.le_of_ble_eq_true rfl, Nat.le_of_ble_eq_true rfl⟩ (Nat.le_of_ble_eq_true rfl) dX5_person_28 ⟨Nat.zero_le _, Nat.zero_le _⟩  ?_
    refine sv_ri (fun v28 e28 => ?_)
    exact sv_iret C hr dX5_person_31 (Nat.le_of_ble_eq_true rfl) (Nat.le_of_ble_eq_true rfl) e28 (fun _ h => h)
  · exact absurd (nI_pos' hf) q1

set_option maxHeartbeats 4000000 in
set_option maxRecDepth 100000 in
theorem met0_count (l : Launch) (G : sv_G) (z : Nat) (M : sv_M) (o : Int64) (w9 : Nat) (hw9 : w9 < 11) (hd : Nat) (h1 : M 8 1 = nI hd) (b6 : M 0 6 = 0 ∨ M 0 6 = 1) (b7 : M 0 7 = 0 ∨ M 0 7 = 1) : sv_Met l G yX5_count cX5_count 2 (some .int) 4 [.ref (sv_r G 14 0), .int (nI w9)] (sv_W G z M o) (some (.int (couv (M 0) hd w9))) (sv_W G z M o) := by
  refine sv_ofW (by decide) kw_296 (Nat.le_of_ble_eq_true rfl) ?_
  intro p e s mth args below meth c hr C _
  refine sv_sub (lv' := [(0, .ref (sv_r G 14 0)), (1, .int (nI w9))]) rfl ?_
  refine sv_iload_n (i := 1) (x := nI w9) C dX5_count_0 rfl rfl ?_
  refine sv_bipush (v := nI 11) C dX5_count_1 (by decide) ?_
  refine sv_callS (as := [_, _]) (rest := []) C (met0_checkWhat l G _ w9 11 hw9 (by decide)) fX5_checkWhat kw_258 ⟨Nat.le_of_ble_eq_true rfl, Nat.le_of_ble_eq_true rfl⟩ (Nat.le_of_ble_eq_true rfl) dX5_count_3 ⟨Nat.zero_le _, Nat.zero_le _⟩  ?_
  refine sv_rv ?_
  refine sv_aload_n (i := 0) (x := sv_r G 14 0) C dX5_count_6 rfl rfl ?_
  refine sv_iload_n (i := 1) (x := nI w9) C dX5_count_7 rfl rfl ?_
  refine sv_callV (as := [_]) (rest := []) C (met_counted l G _ _ _ w9 hw9 hd h1 b6 b7) fX5_counted kw_297 (sv_recv14 C) ⟨Nat.le_of_ble_eq_true rfl, Nat.le_of_ble_eq_true rfl⟩ (Nat.le_of_ble_eq_true rfl) dX5_count_8 ⟨Nat.zero_le _, Nat.zero_le _⟩  ?_
  refine sv_ri (fun v8 e8 => ?_)
  exact sv_iret C hr dX5_count_11 (Nat.le_of_ble_eq_true rfl) (Nat.le_of_ble_eq_true rfl) e8 (fun _ h => h)

set_option maxHeartbeats 4000000 in
set_option maxRecDepth 100000 in
theorem met0_setting (l : Launch) (G : sv_G) (z : Nat) (M : sv_M) (o : Int64) (f : Nat) (hf : f < 4) : sv_Met l G yX5_setting cX5_setting 2 (some .int) 1 [.ref (sv_r G 14 0), .int (nI f)] (sv_W G z M o) (some (.int (M 0 f))) (sv_W G z M o) := by
  refine sv_ofW (by decide) kw_314 (Nat.le_of_ble_eq_true rfl) ?_
  intro p e s mth args below meth c hr C _
  refine sv_sub (lv' := [(0, .ref (sv_r G 14 0)), (1, .int (nI f))]) rfl ?_
  refine sv_iload_n (i := 1) (x := nI f) C dX5_setting_0 rfl rfl ?_
  refine sv_callS (as := [_]) (rest := []) C (met0_checkSetting l G _ f hf) fX5_checkSetting kw_315 ⟨Nat.le_of_ble_eq_true rfl, Nat.le_of_ble_eq_true rfl⟩ (Nat.le_of_ble_eq_true rfl) dX5_setting_1 ⟨Nat.zero_le _, Nat.zero_le _⟩  ?_
  refine sv_rv ?_
  refine sv_aload_n (i := 0) (x := sv_r G 14 0) C dX5_setting_4 rfl rfl ?_
  refine sv_get_5_0 C kw_170 dX5_setting_5 ?_
  refine sv_get_3_2 C (by decide) kw_113 dX5_setting_8 ?_
  refine sv_iload_n (i := 1) (x := nI f) C dX5_setting_11 rfl rfl ?_
  refine sv_callS (as := [_, _]) (rest := []) C (met_atN 0 f rfl rfl (sv_okj (by decide) (by decide)) rfl (by show _ < 4; omega)) fX5_at kw_320 ⟨Nat.le_of_ble_eq_true rfl, Nat.le_of_ble_eq_true rfl⟩ (Nat.le_of_ble_eq_true rfl) dX5_setting_12 ⟨Nat.zero_le _, Nat.zero_le _⟩  ?_
  refine sv_ri (fun v12 e12 => ?_)
  exact sv_iret C hr dX5_setting_15 (Nat.le_of_ble_eq_true rfl) (Nat.le_of_ble_eq_true rfl) e12 (fun _ h => h)

set_option maxHeartbeats 4000000 in
set_option maxRecDepth 100000 in
theorem met0_ifPassed (l : Launch) (G : sv_G) (z : Nat) (M : sv_M) (o : Int64) (t w9 : Nat) (ht1 : 1 ≤ t) (ht : t ≤ 300) (hw9 : w9 < 4) (b6 : M 0 6 = 0 ∨ M 0 6 = 1) (b7 : M 0 7 = 0 ∨ M 0 7 = 1) (hv : vd (M 0)) : sv_Met l G yX5_ifPassed cX5_ifPassed 3 (some .int) 8 [.ref (sv_r G 14 0), .int (nI t), .int (nI w9)] (sv_W G z M o) (some (.int (outv (M 0) t w9))) (sv_W1 G z M o) := by
  refine sv_ofW (by decide) kw_324 (Nat.le_of_ble_eq_true rfl) ?_
  intro p e s mth args below meth c hr C _
  refine sv_sub (lv' := [(0, .ref (sv_r G 14 0)), (1, .int (nI t)), (2, .int (nI w9))]) rfl ?_
  refine sv_iload_n (i := 1) (x := nI t) C dX5_ifPassed_0 rfl rfl ?_
  refine sv_callS (as := [_]) (rest := []) C (met0_checkSeconds l G _ t ht1 ht) fX5_checkSeconds kw_325 ⟨Nat.le_of_ble_eq_true rfl, Nat.le_of_ble_eq_true rfl⟩ (Nat.le_of_ble_eq_true rfl) dX5_ifPassed_1 ⟨Nat.zero_le _, Nat.zero_le _⟩  ?_
  refine sv_rv ?_
  refine sv_iload_n (i := 2) (x := nI w9) C dX5_ifPassed_4 rfl rfl ?_
  refine sv_iconst (v := nI 4) C dX5_ifPassed_5 (by decide) ?_
  refine sv_callS (as := [_, _]) (rest := []) C (met0_checkWhat l G _ w9 4 hw9 (by decide)) fX5_checkWhat kw_258 ⟨Nat.le_of_ble_eq_true rfl, Nat.le_of_ble_eq_true rfl⟩ (Nat.le_of_ble_eq_true rfl) dX5_ifPassed_6 ⟨Nat.zero_le _, Nat.zero_le _⟩  ?_
  refine sv_rv ?_
  refine sv_aload_n (i := 0) (x := sv_r G 14 0) C dX5_ifPassed_9 rfl rfl ?_
  refine sv_iload_n (i := 1) (x := nI t) C dX5_ifPassed_10 rfl rfl ?_
  refine sv_iload_n (i := 2) (x := nI w9) C dX5_ifPassed_11 rfl rfl ?_
  refine sv_callV (as := [_, _]) (rest := []) C (met_outlook l G _ _ _ t w9 (by omega) hw9 b6 b7 hv) fX5_outlook kw_329 (sv_recv14 C) ⟨Nat.le_of_ble_eq_true rfl, Nat.le_of_ble_eq_true rfl⟩ (Nat.le_of_ble_eq_true rfl) dX5_ifPassed_12 ⟨Nat.zero_le _, Nat.zero_le _⟩  ?_
  refine sv_ri (fun v12 e12 => ?_)
  exact sv_iret C hr dX5_ifPassed_15 (Nat.le_of_ble_eq_true rfl) (Nat.le_of_ble_eq_true rfl) e12 (fun _ h => h)

set_option maxHeartbeats 4000000 in
set_option maxRecDepth 100000 in
theorem met0_dark (l : Launch) (G : sv_G) (z : Nat) (M : sv_M) (o : Int64) (f t : Nat) (hf : f < 8) (ht : t < 8) (hft : f ≠ t) (hv : vd (M 0)) (m : Nat) (hm : M 0 57 = nI m) (hm7 : m ≤ 6) : sv_Met l G yX5_dark cX5_dark 3 (some .int) 8 [.ref (sv_r G 14 0), .int (nI f), .int (nI t)] (sv_W G z M o) (some (.int (dkw (nI f) (nI t) (M 0 0) (M 0)))) (sv_W1 G z M o) := by
  refine sv_ofW (by decide) kw_408 (Nat.le_of_ble_eq_true rfl) ?_
  intro p e s mth args below meth c hr C _
  refine sv_sub (lv' := [(0, .ref (sv_r G 14 0)), (1, .int (nI f)), (2, .int (nI t))]) rfl ?_
  refine sv_iload_n (i := 1) (x := nI f) C dX5_dark_0 rfl rfl ?_
  refine sv_iload_n (i := 2) (x := nI t) C dX5_dark_1 rfl rfl ?_
  refine sv_callS (as := [_, _]) (rest := []) C (met0_checkWay l G _ f t hf ht hft) fX5_checkWay kw_409 ⟨Nat.le_of_ble_eq_true rfl, Nat.le_of_ble_eq_true rfl⟩ (Nat.le_of_ble_eq_true rfl) dX5_dark_2 ⟨Nat.zero_le _, Nat.zero_le _⟩  ?_
  refine sv_rv ?_
  refine sv_aload_n (i := 0) (x := sv_r G 14 0) C dX5_dark_5 rfl rfl ?_
  refine sv_aload_n (i := 0) (x := sv_r G 14 0) C dX5_dark_6 rfl rfl ?_
  refine sv_get_5_0 C kw_170 dX5_dark_7 ?_
  refine sv_get_3_2 C (by decide) kw_113 dX5_dark_10 ?_
  refine sv_iconst (v := nI 0) C dX5_dark_13 (by decide) ?_
  refine sv_callS (as := [_, _]) (rest := [_]) C (met_atN 0 0 rfl rfl (sv_okj (by decide) (by decide)) rfl (by show _ < 4; omega)) fX5_at kw_320 ⟨Nat.le_of_ble_eq_true rfl, Nat.le_of_ble_eq_true rfl⟩ (Nat.le_of_ble_eq_true rfl) dX5_dark_14 ⟨Nat.zero_le _, Nat.zero_le _⟩  ?_
  refine sv_riS (M 0 0) rfl ?_
  refine sv_iload_n (i := 1) (x := nI f) C dX5_dark_17 rfl rfl ?_
  refine sv_iload_n (i := 2) (x := nI t) C dX5_dark_18 rfl rfl ?_
  refine sv_callV (as := [_, _, _]) (rest := []) C (met_darkWith l G _ _ _ (M 0 0) f t hf ht hv m hm hm7) fX5_darkWith kw_413 (sv_recv14 C) ⟨Nat.le_of_ble_eq_true rfl, Nat.le_of_ble_eq_true rfl⟩ (Nat.le_of_ble_eq_true rfl) dX5_dark_19 ⟨Nat.zero_le _, Nat.zero_le _⟩  ?_
  refine sv_ri (fun v19 e19 => ?_)
  exact sv_iret C hr dX5_dark_22 (Nat.le_of_ble_eq_true rfl) (Nat.le_of_ble_eq_true rfl) e19 (fun _ h => h)

set_option maxHeartbeats 4000000 in
set_option maxRecDepth 100000 in
theorem met0_press (l : Launch) (G : sv_G) (z : Nat) (M : sv_M) (o : Int64) (f : Nat) (hf : f < 8) (od hd : Nat) (hod : od < 6) (h0 : M 8 0 = nI od) (h1 : M 8 1 = nI hd) (hd6 : hd ≤ 6) (b6 : M 0 6 = 0 ∨ M 0 6 = 1) (b7 : M 0 7 = 0 ∨ M 0 7 = 1) : sv_Met l G yX5_press cX5_press 3 (some .int) 4 [.ref (sv_r G 14 0), .int (nI f)] (sv_W G z M o) (some (.int (M 0 (6 * f + 9)))) (sv_W G z (sv_u (sav od hd M) 0 (sw (M 0 0) f (M 0))) o) := by
  refine sv_ofW (by decide) kw_526 (Nat.le_of_ble_eq_true rfl) ?_
  intro p e s mth args below meth c hr C _
  refine sv_sub (lv' := [(0, .ref (sv_r G 14 0)), (1, .int (nI f))]) rfl ?_
  refine sv_iload_n (i := 1) (x := nI f) C dX5_press_0 rfl rfl ?_
  refine sv_callS (as := [_]) (rest := []) C (met0_checkFloor l G _ f hf) fX5_checkFloor kw_187 ⟨Nat.le_of_ble_eq_true rfl, Nat.le_of_ble_eq_true rfl⟩ (Nat.le_of_ble_eq_true rfl) dX5_press_1 ⟨Nat.zero_le _, Nat.zero_le _⟩  ?_
  refine sv_rv ?_
  refine sv_aload_n (i := 0) (x := sv_r G 14 0) C dX5_press_4 rfl rfl ?_
  refine sv_get_5_2 C kw_172 dX5_press_5 ?_
  refine sv_aload_n (i := 0) (x := sv_r G 14 0) C dX5_press_8 rfl rfl ?_
  refine sv_get_5_0 C kw_170 dX5_press_9 ?_
  refine sv_callV (as := [_]) (rest := []) C (met_save hod h0 h1 hd6 b6 b7) fX1_save kw_500 (sv_recv15 C) ⟨Nat.le_of_ble_eq_true rfl, Nat.le_of_ble_eq_true rfl⟩ (Nat.le_of_ble_eq_true rfl) dX5_press_12 ⟨Nat.zero_le _, Nat.zero_le _⟩  ?_
  refine sv_rv ?_
  refine sv_aload_n (i := 0) (x := sv_r G 14 0) C dX5_press_15 rfl rfl ?_
  refine sv_get_5_0 C kw_170 dX5_press_16 ?_
  refine sv_get_3_0 C (by decide) kw_109 dX5_press_19 ?_
  refine sv_get_0_0 C (by decide) kw_42 dX5_press_22 ?_
  refine sv_iload_n (i := 1) (x := nI f) C dX5_press_25 rfl rfl ?_
  refine sv_callS (as := [_, _]) (rest := []) C (met_atN 0 (6 * f + 9) rfl rfl (sv_okj (by decide) (by decide)) rfl (by show _ < 8; omega)) fX5_at kw_320 ⟨Nat.le_of_ble_eq_true rfl, Nat.le_of_ble_eq_true rfl⟩ (Nat.le_of_ble_eq_true rfl) dX5_press_26 ⟨Nat.zero_le _, Nat.zero_le _⟩  ?_
  refine sv_ri (fun v26 e26 => ?_)
  refine sv_istore_n (i := 2) C [(0, .ref (sv_r G 14 0)), (1, .int (nI f)), (2, .int v26)] dX5_press_29 rfl (by decide) rfl ?_
  refine sv_aload_n (i := 0) (x := sv_r G 14 0) C dX5_press_30 rfl rfl ?_
  refine sv_get_5_0 C kw_170 dX5_press_31 ?_
  refine sv_iload_n (i := 1) (x := nI f) C dX5_press_34 rfl rfl ?_
  refine sv_callV (as := [_]) (rest := []) C (met_switchOn l G _ _ _ 0 f (by decide) (by omega)) fX3_switchOn kw_527 (sv_recv0 C (by decide)) ⟨Nat.le_of_ble_eq_true rfl, Nat.le_of_ble_eq_true rfl⟩ (Nat.le_of_ble_eq_true rfl) dX5_press_35 ⟨Nat.zero_le _, Nat.zero_le _⟩  ?_
  refine sv_rv ?_
  refine sv_iload_n (i := 2) (x := v26) C dX5_press_38 rfl rfl ?_
  exact sv_iret C hr dX5_press_39 (Nat.le_of_ble_eq_true rfl) (Nat.le_of_ble_eq_true rfl) (by rw [e26, sav_0]) (sv_eqW (by rw [sav_0]))

set_option maxHeartbeats 4000000 in
set_option maxRecDepth 100000 in
theorem met0_sensor (l : Launch) (G : sv_G) (z : Nat) (M : sv_M) (o : Int64) (f : Nat) (hf : f < 8) (b : Int32) (hb : b = 0 ∨ b = 1) (od hd : Nat) (hod : od < 6) (h0 : M 8 0 = nI od) (h1 : M 8 1 = nI hd) (hd6 : hd ≤ 6) (b6 : M 0 6 = 0 ∨ M 0 6 = 1) (b7 : M 0 7 = 0 ∨ M 0 7 = 1) : sv_Met l G yX5_sensor cX5_sensor 4 (some .int) 4 [.ref (sv_r G 14 0), .int (nI f), .int b] (sv_W G z M o) (some (.int (M 0 (6 * f + 10)))) (sv_W G z (sv_u (sav od hd M) 0 (upd (M 0) (6 * f + 10) b)) o) := by
  refine sv_ofW (by decide) kw_531 (Nat.le_of_ble_eq_true rfl) ?_
  intro p e s mth args below meth c hr C _
  refine sv_sub (lv' := [(0, .ref (sv_r G 14 0)), (1, .int (nI f)), (2, .int b)]) rfl ?_
  refine sv_iload_n (i := 1) (x := nI f) C dX5_sensor_0 rfl rfl ?_
  refine sv_callS (as := [_]) (rest := []) C (met0_checkFloor l G _ f hf) fX5_checkFloor kw_187 ⟨Nat.le_of_ble_eq_true rfl, Nat.le_of_ble_eq_true rfl⟩ (Nat.le_of_ble_eq_true rfl) dX5_sensor_1 ⟨Nat.zero_le _, Nat.zero_le _⟩  ?_
  refine sv_rv ?_
  refine sv_aload_n (i := 0) (x := sv_r G 14 0) C dX5_sensor_4 rfl rfl ?_
  refine sv_get_5_2 C kw_172 dX5_sensor_5 ?_
  refine sv_aload_n (i := 0) (x := sv_r G 14 0) C dX5_sensor_8 rfl rfl ?_
  refine sv_get_5_0 C kw_170 dX5_sensor_9 ?_
  refine sv_callV (as := [_]) (rest := []) C (met_save hod h0 h1 hd6 b6 b7) fX1_save kw_500 (sv_recv15 C) ⟨Nat.le_of_ble_eq_true rfl, Nat.le_of_ble_eq_true rfl⟩ (Nat.le_of_ble_eq_true rfl) dX5_sensor_12 ⟨Nat.zero_le _, Nat.zero_le _⟩  ?_
  refine sv_rv ?_
  refine sv_aload_n (i := 0) (x := sv_r G 14 0) C dX5_sensor_15 rfl rfl ?_
  refine sv_get_5_0 C kw_170 dX5_sensor_16 ?_
  refine sv_get_3_0 C (by decide) kw_109 dX5_sensor_19 ?_
  refine sv_get_0_1 C (by decide) kw_45 dX5_sensor_22 ?_
  refine sv_iload_n (i := 1) (x := nI f) C dX5_sensor_25 rfl rfl ?_
  refine sv_callS (as := [_, _]) (rest := []) C (met_atN 0 (6 * f + 10) rfl rfl (sv_okj (by decide) (by decide)) rfl (by show _ < 8; omega)) fX5_at kw_320 ⟨Nat.le_of_ble_eq_true rfl, Nat.le_of_ble_eq_true rfl⟩ (Nat.le_of_ble_eq_true rfl) dX5_sensor_26 ⟨Nat.zero_le _, Nat.zero_le _⟩  ?_
  refine sv_ri (fun v26 e26 => ?_)
  refine sv_istore_n (i := 3) C [(0, .ref (sv_r G 14 0)), (1, .int (nI f)), (2, .int b), (3, .int v26)] dX5_sensor_29 rfl (by decide) rfl ?_
  refine sv_aload_n (i := 0) (x := sv_r G 14 0) C dX5_sensor_30 rfl rfl ?_
  refine sv_get_5_0 C kw_170 dX5_sensor_31 ?_
  refine sv_get_3_0 C (by decide) kw_109 dX5_sensor_34 ?_
  refine sv_get_0_1 C (by decide) kw_45 dX5_sensor_37 ?_
  refine sv_iload_n (i := 1) (x := nI f) C dX5_sensor_40 rfl rfl ?_
  refine sv_iload_n (i := 2) (x := b) C dX5_sensor_41 rfl rfl ?_
  refine sv_callS (as := [_]) (rest := [_, _]) C (met_numberOf l G _ b hb) fX5_numberOf kw_308 ⟨Nat.le_of_ble_eq_true rfl, Nat.le_of_ble_eq_true rfl⟩ (Nat.le_of_ble_eq_true rfl) dX5_sensor_42 ⟨Nat.zero_le _, Nat.zero_le _⟩  ?_
  refine sv_riS b rfl ?_
  refine sv_callS (as := [_, _, _]) (rest := []) C (met_putN 0 (6 * f + 10) rfl rfl (sv_okj (by decide) (by decide)) rfl (by show _ < 8; omega)) fX5_put kw_417 ⟨Nat.le_of_ble_eq_true rfl, Nat.le_of_ble_eq_true rfl⟩ (Nat.le_of_ble_eq_true rfl) dX5_sensor_45 ⟨Nat.zero_le _, Nat.zero_le _⟩  ?_
  refine sv_rv ?_
  refine sv_iload_n (i := 3) (x := v26) C dX5_sensor_48 rfl rfl ?_
  exact sv_iret C hr dX5_sensor_49 (Nat.le_of_ble_eq_true rfl) (Nat.le_of_ble_eq_true rfl) (by rw [e26, sav_0]) (sv_eqW (by rw [sv_wu, sav_0]))

set_option maxHeartbeats 4000000 in
set_option maxRecDepth 100000 in
theorem met0_set (l : Launch) (G : sv_G) (z : Nat) (M : sv_M) (o : Int64) (f v : Nat) (hf : f < 4) (hv : v < 2147483648) (hlo : ¬ nI v < sv_F 1 f) (hhi : nI v ≤ sv_F 2 f) (od hd : Nat) (hod : od < 6) (h0 : M 8 0 = nI od) (h1 : M 8 1 = nI hd) (hd6 : hd ≤ 6) (b6 : M 0 6 = 0 ∨ M 0 6 = 1) (b7 : M 0 7 = 0 ∨ M 0 7 = 1) : sv_Met l G yX5_set cX5_set 4 (some .int) 4 [.ref (sv_r G 14 0), .int (nI f), .int (nI v)] (sv_W G z M o) (some (.int (M 0 f))) (sv_W G z (sv_u (sav od hd M) 0 (upd (M 0) f (nI v))) o) := by
  refine sv_ofW (by decide) kw_547 (Nat.le_of_ble_eq_true rfl) ?_
  intro p e s mth args below meth c hr C _
  refine sv_sub (lv' := [(0, .ref (sv_r G 14 0)), (1, .int (nI f)), (2, .int (nI v))]) rfl ?_
  refine sv_iload_n (i := 1) (x := nI f) C dX5_set_0 rfl rfl ?_
  refine sv_callS (as := [_]) (rest := []) C (met0_checkSetting l G _ f hf) fX5_checkSetting kw_315 ⟨Nat.le_of_ble_eq_true rfl, Nat.le_of_ble_eq_true rfl⟩ (Nat.le_of_ble_eq_true rfl) dX5_set_1 ⟨Nat.zero_le _, Nat.zero_le _⟩  ?_
  refine sv_rv ?_
  refine sv_iload_n (i := 2) (x := nI v) C dX5_set_4 rfl rfl ?_
  refine sv_gets1 C kw_548 dX5_set_5 ?_
  refine sv_iload_n (i := 1) (x := nI f) C dX5_set_8 rfl rfl ?_
  refine sv_callS (as := [_, _]) (rest := [_]) C (met_atS1 l G _ f (by omega)) fX5_at kw_320 ⟨Nat.le_of_ble_eq_true rfl, Nat.le_of_ble_eq_true rfl⟩ (Nat.le_of_ble_eq_true rfl) dX5_set_9 ⟨Nat.zero_le _, Nat.zero_le _⟩  ?_
  refine sv_ri (fun v9 e9 => ?_)
  refine sv_icmp_lt C 26 dX5_set_12 (by decide) (fun q12 => ?_) (fun q12 => ?_)
  · exact absurd (e9 ▸ q12) hlo
  · refine sv_iload_n (i := 2) (x := nI v) C dX5_set_15 rfl rfl ?_
    refine sv_gets2 C kw_550 dX5_set_16 ?_
    refine sv_iload_n (i := 1) (x := nI f) C dX5_set_19 rfl rfl ?_
    refine sv_callS (as := [_, _]) (rest := [_]) C (met_atS2 l G _ f (by omega)) fX5_at kw_320 ⟨Nat.le_of_ble_eq_true rfl, Nat.le_of_ble_eq_true rfl⟩ (Nat.le_of_ble_eq_true rfl) dX5_set_20 ⟨Nat.zero_le _, Nat.zero_le _⟩  ?_
    refine sv_ri (fun v20 e20 => ?_)
    refine sv_icmp_le C 36 dX5_set_23 (by decide) (fun q23 => ?_) (fun q23 => ?_)
    · refine sv_aload_n (i := 0) (x := sv_r G 14 0) C dX5_set_36 rfl rfl ?_
      refine sv_get_5_2 C kw_172 dX5_set_37 ?_
      refine sv_aload_n (i := 0) (x := sv_r G 14 0) C dX5_set_40 rfl rfl ?_
      refine sv_get_5_0 C kw_170 dX5_set_41 ?_
      refine sv_callV (as := [_]) (rest := []) C (met_save hod h0 h1 hd6 b6 b7) fX1_save kw_500 (sv_recv15 C) ⟨Nat.le_of_ble_eq_true rfl, Nat.le_of_ble_eq_true rfl⟩ (Nat.le_of_ble_eq_true rfl) dX5_set_44 ⟨Nat.zero_le _, Nat.zero_le _⟩  ?_
      refine sv_rv ?_
      refine sv_aload_n (i := 0) (x := sv_r G 14 0) C dX5_set_47 rfl rfl ?_
      refine sv_get_5_0 C kw_170 dX5_set_48 ?_
      refine sv_get_3_2 C (by decide) kw_113 dX5_set_51 ?_
      refine sv_iload_n (i := 1) (x := nI f) C dX5_set_54 rfl rfl ?_
      refine sv_callS (as := [_, _]) (rest := []) C (met_atN 0 f rfl rfl (sv_okj (by decide) (by decide)) rfl (by show _ < 4; omega)) fX5_at kw_320 ⟨Nat.le_of_ble_eq_true rfl, Nat.le_of_ble_eq_true rfl⟩ (Nat.le_of_ble_eq_true rfl) dX5_set_55 ⟨Nat.zero_le _, Nat.zero_le _⟩  ?_
      refine sv_ri (fun v55 e55 => ?_)
      refine sv_istore_n (i := 3) C [(0, .ref (sv_r G 14 0)), (1, .int (nI f)), (2, .int (nI v)), (3, .int v55)] dX5_set_58 rfl (by decide) rfl ?_
      refine sv_aload_n (i := 0) (x := sv_r G 14 0) C dX5_set_59 rfl rfl ?_
      refine sv_get_5_0 C kw_170 dX5_set_60 ?_
      refine sv_get_3_2 C (by decide) kw_113 dX5_set_63 ?_
      refine sv_iload_n (i := 1) (x := nI f) C dX5_set_66 rfl rfl ?_
      refine sv_iload_n (i := 2) (x := nI v) C dX5_set_67 rfl rfl ?_
      refine sv_callS (as := [_, _, _]) (rest := []) C (met_putN 0 f rfl rfl (sv_okj (by decide) (by decide)) rfl (by show _ < 4; omega)) fX5_put kw_417 ⟨Nat.le_of_ble_eq_true rfl, Nat.le_of_ble_eq_true rfl⟩ (Nat.le_of_ble_eq_true rfl) dX5_set_68 ⟨Nat.zero_le _, Nat.zero_le _⟩  ?_
      refine sv_rv ?_
      refine sv_iload_n (i := 3) (x := v55) C dX5_set_71 rfl rfl ?_
      exact sv_iret C hr dX5_set_72 (Nat.le_of_ble_eq_true rfl) (Nat.le_of_ble_eq_true rfl) (by rw [e55, sav_0]) (sv_eqW (by rw [sv_wu, sav_0]))
    · exact absurd hhi (e20 ▸ q23)

set_option maxHeartbeats 4000000 in
set_option maxRecDepth 100000 in
theorem met0_pass (l : Launch) (G : sv_G) (z : Nat) (M : sv_M) (o : Int64) (t : Nat) (ht1 : 1 ≤ t) (ht : t ≤ 300) (od hd : Nat) (hod : od < 6) (h0 : M 8 0 = nI od) (h1 : M 8 1 = nI hd) (hd6 : hd ≤ 6) (b6 : M 0 6 = 0 ∨ M 0 6 = 1) (b7 : M 0 7 = 0 ∨ M 0 7 = 1) (hv : vd (M 0)) : sv_Met l G yX5_pass cX5_pass 2 (some .int) 7 [.ref (sv_r G 14 0), .int (nI t)] (sv_W G z M o) (some (.int (dks (passv t (M 0)) - dks (M 0)))) (sv_W G z (sv_u (sav od hd M) 0 (passv t (M 0))) o) := by
  refine sv_ofW (by decide) kw_512 (Nat.le_of_ble_eq_true rfl) ?_
  intro p e s mth args below meth c hr C _
  refine sv_sub (lv' := [(0, .ref (sv_r G 14 0)), (1, .int (nI t))]) rfl ?_
  refine sv_iload_n (i := 1) (x := nI t) C dX5_pass_0 rfl rfl ?_
  refine sv_callS (as := [_]) (rest := []) C (met0_checkSeconds l G _ t ht1 ht) fX5_checkSeconds kw_325 ⟨Nat.le_of_ble_eq_true rfl, Nat.le_of_ble_eq_true rfl⟩ (Nat.le_of_ble_eq_true rfl) dX5_pass_1 ⟨Nat.zero_le _, Nat.zero_le _⟩  ?_
  refine sv_rv ?_
  refine sv_aload_n (i := 0) (x := sv_r G 14 0) C dX5_pass_4 rfl rfl ?_
  refine sv_get_5_2 C kw_172 dX5_pass_5 ?_
  refine sv_aload_n (i := 0) (x := sv_r G 14 0) C dX5_pass_8 rfl rfl ?_
  refine sv_get_5_0 C kw_170 dX5_pass_9 ?_
  refine sv_callV (as := [_]) (rest := []) C (met_save hod h0 h1 hd6 b6 b7) fX1_save kw_500 (sv_recv15 C) ⟨Nat.le_of_ble_eq_true rfl, Nat.le_of_ble_eq_true rfl⟩ (Nat.le_of_ble_eq_true rfl) dX5_pass_12 ⟨Nat.zero_le _, Nat.zero_le _⟩  ?_
  refine sv_rv ?_
  refine sv_aload_n (i := 0) (x := sv_r G 14 0) C dX5_pass_15 rfl rfl ?_
  refine sv_get_5_0 C kw_170 dX5_pass_16 ?_
  refine sv_iload_n (i := 1) (x := nI t) C dX5_pass_19 rfl rfl ?_
  refine sv_callV (as := [_]) (rest := []) C (met_letPass l G _ _ _ 0 (by decide) (by rw [sav_0]; exact hv) t (by omega)) fX3_letPass kw_347 (sv_recv0 C (by decide)) ⟨Nat.le_of_ble_eq_true rfl, Nat.le_of_ble_eq_true rfl⟩ (Nat.le_of_ble_eq_true rfl) dX5_pass_20 ⟨Nat.zero_le _, Nat.zero_le _⟩  ?_
  refine sv_ri (fun v20 e20 => ?_)
  exact sv_iret C hr dX5_pass_23 (Nat.le_of_ble_eq_true rfl) (Nat.le_of_ble_eq_true rfl) (by rw [e20, sav_0]) (sv_eqW (by rw [sav_0]))
end
