section
-- ===== PART A: goes FIRST, ahead of the names: the tables' words, and 'selects' of the private methods out of them =====
/-- a private method of a class that the tables say can be made, by its rows of tables_1 -/
def lw_okq (q : MethodName × Nat) : Prop := (q.1.cls ≠ "java/lang/invoke/MethodHandle" ∧ q.1.cls ≠ "java/lang/invoke/VarHandle") ∧ Cond.instantiable q.1.cls q.2 ∈ tables_1 ∧ Cond.privateMethod q.1 ∈ tables_1 ∧ Cond.instanceMethod q.1 ∈ tables_1
theorem lw_p0 : lw_okq (⟨"StairLight$History", "stateAt", "(I)LStairLight$Stairs;"⟩, 3) := ⟨⟨by decide +kernel, by decide +kernel⟩, List.mem_of_getElem? (i := 131) (by decide +kernel), List.mem_of_getElem? (i := 187) (by decide +kernel), List.mem_of_getElem? (i := 188) (by decide +kernel)⟩
theorem lw_p1 : lw_okq (⟨"StairLight$Walks", "fitsAt", "(I)Z"⟩, 2) := ⟨⟨by decide +kernel, by decide +kernel⟩, List.mem_of_getElem? (i := 151) (by decide +kernel), List.mem_of_getElem? (i := 252) (by decide +kernel), List.mem_of_getElem? (i := 253) (by decide +kernel)⟩
theorem lw_p2 : lw_okq (⟨"StairLight", "counted", "(I)I"⟩, 4) := ⟨⟨by decide +kernel, by decide +kernel⟩, List.mem_of_getElem? (i := 16) (by decide +kernel), List.mem_of_getElem? (i := 290) (by decide +kernel), List.mem_of_getElem? (i := 291) (by decide +kernel)⟩
theorem lw_p3 : lw_okq (⟨"StairLight", "mixedWithFloors", "(J)J"⟩, 4) := ⟨⟨by decide +kernel, by decide +kernel⟩, List.mem_of_getElem? (i := 16) (by decide +kernel), List.mem_of_getElem? (i := 307) (by decide +kernel), List.mem_of_getElem? (i := 308) (by decide +kernel)⟩
theorem lw_p4 : lw_okq (⟨"StairLight", "mixedWithPeople", "(J)J"⟩, 4) := ⟨⟨by decide +kernel, by decide +kernel⟩, List.mem_of_getElem? (i := 16) (by decide +kernel), List.mem_of_getElem? (i := 320) (by decide +kernel), List.mem_of_getElem? (i := 321) (by decide +kernel)⟩
theorem lw_p5 : lw_okq (⟨"StairLight", "outlook", "(II)I"⟩, 4) := ⟨⟨by decide +kernel, by decide +kernel⟩, List.mem_of_getElem? (i := 16) (by decide +kernel), List.mem_of_getElem? (i := 328) (by decide +kernel), List.mem_of_getElem? (i := 329) (by decide +kernel)⟩
theorem lw_p6 : lw_okq (⟨"StairLight$People", "walk", "(II)V"⟩, 6) := ⟨⟨by decide +kernel, by decide +kernel⟩, List.mem_of_getElem? (i := 67) (by decide +kernel), List.mem_of_getElem? (i := 349) (by decide +kernel), List.mem_of_getElem? (i := 350) (by decide +kernel)⟩
theorem lw_p7 : lw_okq (⟨"StairLight$People", "moveUp", "(II)V"⟩, 6) := ⟨⟨by decide +kernel, by decide +kernel⟩, List.mem_of_getElem? (i := 67) (by decide +kernel), List.mem_of_getElem? (i := 355) (by decide +kernel), List.mem_of_getElem? (i := 356) (by decide +kernel)⟩
theorem lw_p8 : lw_okq (⟨"StairLight$Stairs", "switchOnAround", "(I)V"⟩, 7) := ⟨⟨by decide +kernel, by decide +kernel⟩, List.mem_of_getElem? (i := 24) (by decide +kernel), List.mem_of_getElem? (i := 359) (by decide +kernel), List.mem_of_getElem? (i := 360) (by decide +kernel)⟩
theorem lw_p9 : lw_okq (⟨"StairLight$Stairs", "countSecondOn", "(I)V"⟩, 7) := ⟨⟨by decide +kernel, by decide +kernel⟩, List.mem_of_getElem? (i := 24) (by decide +kernel), List.mem_of_getElem? (i := 367) (by decide +kernel), List.mem_of_getElem? (i := 368) (by decide +kernel)⟩
theorem lw_p10 : lw_okq (⟨"StairLight", "darkWith", "(III)I"⟩, 4) := ⟨⟨by decide +kernel, by decide +kernel⟩, List.mem_of_getElem? (i := 16) (by decide +kernel), List.mem_of_getElem? (i := 379) (by decide +kernel), List.mem_of_getElem? (i := 380) (by decide +kernel)⟩
theorem lw_p11 : lw_okq (⟨"StairLight", "leastBurnTime", "(II)I"⟩, 4) := ⟨⟨by decide +kernel, by decide +kernel⟩, List.mem_of_getElem? (i := 16) (by decide +kernel), List.mem_of_getElem? (i := 402) (by decide +kernel), List.mem_of_getElem? (i := 403) (by decide +kernel)⟩
theorem lw_p12 : lw_okq (⟨"StairLight", "mixedWithBuffer", "(J)J"⟩, 4) := ⟨⟨by decide +kernel, by decide +kernel⟩, List.mem_of_getElem? (i := 16) (by decide +kernel), List.mem_of_getElem? (i := 415) (by decide +kernel), List.mem_of_getElem? (i := 416) (by decide +kernel)⟩
theorem lw_p13 : lw_okq (⟨"java/lang/Throwable", "fillInStackTrace", "(I)Ljava/lang/Throwable;"⟩, 6) := ⟨⟨by decide +kernel, by decide +kernel⟩, List.mem_of_getElem? (i := 474) (by decide +kernel), List.mem_of_getElem? (i := 472) (by decide +kernel), List.mem_of_getElem? (i := 473) (by decide +kernel)⟩
theorem lw_p14 : lw_okq (⟨"StairLightModel", "fails", "(I)I"⟩, 13) := ⟨⟨by decide +kernel, by decide +kernel⟩, List.mem_of_getElem? (i := 693) (by decide +kernel), List.mem_of_getElem? (i := 747) (by decide +kernel), List.mem_of_getElem? (i := 748) (by decide +kernel)⟩
theorem lw_p15 : lw_okq (⟨"StairLightModel", "saves", "()V"⟩, 13) := ⟨⟨by decide +kernel, by decide +kernel⟩, List.mem_of_getElem? (i := 693) (by decide +kernel), List.mem_of_getElem? (i := 767) (by decide +kernel), List.mem_of_getElem? (i := 768) (by decide +kernel)⟩
def lw_privs_1 : List (MethodName × Nat) := [(⟨"StairLight$History", "stateAt", "(I)LStairLight$Stairs;"⟩, 3), (⟨"StairLight$Walks", "fitsAt", "(I)Z"⟩, 2), (⟨"StairLight", "counted", "(I)I"⟩, 4), (⟨"StairLight", "mixedWithFloors", "(J)J"⟩, 4), (⟨"StairLight", "mixedWithPeople", "(J)J"⟩, 4), (⟨"StairLight", "outlook", "(II)I"⟩, 4), (⟨"StairLight$People", "walk", "(II)V"⟩, 6), (⟨"StairLight$People", "moveUp", "(II)V"⟩, 6), (⟨"StairLight$Stairs", "switchOnAround", "(I)V"⟩, 7), (⟨"StairLight$Stairs", "countSecondOn", "(I)V"⟩, 7), (⟨"StairLight", "darkWith", "(III)I"⟩, 4), (⟨"StairLight", "leastBurnTime", "(II)I"⟩, 4), (⟨"StairLight", "mixedWithBuffer", "(J)J"⟩, 4), (⟨"java/lang/Throwable", "fillInStackTrace", "(I)Ljava/lang/Throwable;"⟩, 6), (⟨"StairLightModel", "fails", "(I)I"⟩, 13), (⟨"StairLightModel", "saves", "()V"⟩, 13)]
theorem lw_r1 : ∀ q ∈ lw_privs_1, lw_okq q := List.forall_mem_cons.mpr ⟨lw_p0, List.forall_mem_cons.mpr ⟨lw_p1, List.forall_mem_cons.mpr ⟨lw_p2, List.forall_mem_cons.mpr ⟨lw_p3, List.forall_mem_cons.mpr ⟨lw_p4, List.forall_mem_cons.mpr ⟨lw_p5, List.forall_mem_cons.mpr ⟨lw_p6, List.forall_mem_cons.mpr ⟨lw_p7, List.forall_mem_cons.mpr ⟨lw_p8, List.forall_mem_cons.mpr ⟨lw_p9, List.forall_mem_cons.mpr ⟨lw_p10, List.forall_mem_cons.mpr ⟨lw_p11, List.forall_mem_cons.mpr ⟨lw_p12, List.forall_mem_cons.mpr ⟨lw_p13, List.forall_mem_cons.mpr ⟨lw_p14, List.forall_mem_cons.mpr ⟨lw_p15, fun _ h => absurd h List.not_mem_nil⟩⟩⟩⟩⟩⟩⟩⟩⟩⟩⟩⟩⟩⟩⟩⟩
theorem lw_p16 : lw_okq (⟨"StairLightModel", "changes", "(II)I"⟩, 13) := ⟨⟨by decide +kernel, by decide +kernel⟩, List.mem_of_getElem? (i := 693) (by decide +kernel), List.mem_of_getElem? (i := 781) (by decide +kernel), List.mem_of_getElem? (i := 782) (by decide +kernel)⟩
theorem lw_p17 : lw_okq (⟨"StairLightModel", "second", "([I)V"⟩, 13) := ⟨⟨by decide +kernel, by decide +kernel⟩, List.mem_of_getElem? (i := 693) (by decide +kernel), List.mem_of_getElem? (i := 821) (by decide +kernel), List.mem_of_getElem? (i := 822) (by decide +kernel)⟩
theorem lw_p18 : lw_okq (⟨"StairLightModel", "isText", "()Z"⟩, 13) := ⟨⟨by decide +kernel, by decide +kernel⟩, List.mem_of_getElem? (i := 693) (by decide +kernel), List.mem_of_getElem? (i := 852) (by decide +kernel), List.mem_of_getElem? (i := 853) (by decide +kernel)⟩
theorem lw_p19 : lw_okq (⟨"StairLightModel", "isPart", "()Z"⟩, 13) := ⟨⟨by decide +kernel, by decide +kernel⟩, List.mem_of_getElem? (i := 693) (by decide +kernel), List.mem_of_getElem? (i := 856) (by decide +kernel), List.mem_of_getElem? (i := 857) (by decide +kernel)⟩
theorem lw_p20 : lw_okq (⟨"StairLightModel", "isAt", "(II)Z"⟩, 13) := ⟨⟨by decide +kernel, by decide +kernel⟩, List.mem_of_getElem? (i := 693) (by decide +kernel), List.mem_of_getElem? (i := 860) (by decide +kernel), List.mem_of_getElem? (i := 861) (by decide +kernel)⟩
theorem lw_p21 : lw_okq (⟨"StairLightModel", "stops", "()Z"⟩, 13) := ⟨⟨by decide +kernel, by decide +kernel⟩, List.mem_of_getElem? (i := 693) (by decide +kernel), List.mem_of_getElem? (i := 864) (by decide +kernel), List.mem_of_getElem? (i := 865) (by decide +kernel)⟩
theorem lw_p22 : lw_okq (⟨"StairLightModel", "ofFloor", "(II)I"⟩, 13) := ⟨⟨by decide +kernel, by decide +kernel⟩, List.mem_of_getElem? (i := 693) (by decide +kernel), List.mem_of_getElem? (i := 876) (by decide +kernel), List.mem_of_getElem? (i := 877) (by decide +kernel)⟩
theorem lw_p23 : lw_okq (⟨"StairLightModel", "counted", "(I)I"⟩, 13) := ⟨⟨by decide +kernel, by decide +kernel⟩, List.mem_of_getElem? (i := 693) (by decide +kernel), List.mem_of_getElem? (i := 888) (by decide +kernel), List.mem_of_getElem? (i := 889) (by decide +kernel)⟩
theorem lw_p24 : lw_okq (⟨"StairLightModel", "byPassing", "(II)I"⟩, 13) := ⟨⟨by decide +kernel, by decide +kernel⟩, List.mem_of_getElem? (i := 693) (by decide +kernel), List.mem_of_getElem? (i := 903) (by decide +kernel), List.mem_of_getElem? (i := 904) (by decide +kernel)⟩
theorem lw_p25 : lw_okq (⟨"StairLightModel", "walked", "(III)I"⟩, 13) := ⟨⟨by decide +kernel, by decide +kernel⟩, List.mem_of_getElem? (i := 693) (by decide +kernel), List.mem_of_getElem? (i := 911) (by decide +kernel), List.mem_of_getElem? (i := 912) (by decide +kernel)⟩
theorem lw_p26 : lw_okq (⟨"StairLightModel", "least", "(II)I"⟩, 13) := ⟨⟨by decide +kernel, by decide +kernel⟩, List.mem_of_getElem? (i := 693) (by decide +kernel), List.mem_of_getElem? (i := 922) (by decide +kernel), List.mem_of_getElem? (i := 923) (by decide +kernel)⟩
theorem lw_p27 : lw_okq (⟨"StairLightModel", "missed", "()I"⟩, 13) := ⟨⟨by decide +kernel, by decide +kernel⟩, List.mem_of_getElem? (i := 693) (by decide +kernel), List.mem_of_getElem? (i := 930) (by decide +kernel), List.mem_of_getElem? (i := 931) (by decide +kernel)⟩
theorem lw_p28 : lw_okq (⟨"StairLightModel", "share", "()D"⟩, 13) := ⟨⟨by decide +kernel, by decide +kernel⟩, List.mem_of_getElem? (i := 693) (by decide +kernel), List.mem_of_getElem? (i := 938) (by decide +kernel), List.mem_of_getElem? (i := 939) (by decide +kernel)⟩
def lw_privs_2 : List (MethodName × Nat) := [(⟨"StairLightModel", "changes", "(II)I"⟩, 13), (⟨"StairLightModel", "second", "([I)V"⟩, 13), (⟨"StairLightModel", "isText", "()Z"⟩, 13), (⟨"StairLightModel", "isPart", "()Z"⟩, 13), (⟨"StairLightModel", "isAt", "(II)Z"⟩, 13), (⟨"StairLightModel", "stops", "()Z"⟩, 13), (⟨"StairLightModel", "ofFloor", "(II)I"⟩, 13), (⟨"StairLightModel", "counted", "(I)I"⟩, 13), (⟨"StairLightModel", "byPassing", "(II)I"⟩, 13), (⟨"StairLightModel", "walked", "(III)I"⟩, 13), (⟨"StairLightModel", "least", "(II)I"⟩, 13), (⟨"StairLightModel", "missed", "()I"⟩, 13), (⟨"StairLightModel", "share", "()D"⟩, 13)]
theorem lw_r2 : ∀ q ∈ lw_privs_2, lw_okq q := List.forall_mem_cons.mpr ⟨lw_p16, List.forall_mem_cons.mpr ⟨lw_p17, List.forall_mem_cons.mpr ⟨lw_p18, List.forall_mem_cons.mpr ⟨lw_p19, List.forall_mem_cons.mpr ⟨lw_p20, List.forall_mem_cons.mpr ⟨lw_p21, List.forall_mem_cons.mpr ⟨lw_p22, List.forall_mem_cons.mpr ⟨lw_p23, List.forall_mem_cons.mpr ⟨lw_p24, List.forall_mem_cons.mpr ⟨lw_p25, List.forall_mem_cons.mpr ⟨lw_p26, List.forall_mem_cons.mpr ⟨lw_p27, List.forall_mem_cons.mpr ⟨lw_p28, fun _ h => absurd h List.not_mem_nil⟩⟩⟩⟩⟩⟩⟩⟩⟩⟩⟩⟩⟩
def lw_privs : List (MethodName × Nat) := lw_privs_1 ++ (lw_privs_2)
def lw_tbl : List Cond := k2_sels lw_privs ++ tables_1
theorem lw_privs_ok : ∀ q ∈ lw_privs, lw_okq q := by
  show ∀ q ∈ lw_privs_1 ++ (lw_privs_2), lw_okq q
  exact List.forall_mem_append.mpr ⟨lw_r1, lw_r2⟩
/-- the streams that the claim lets the run draw from -/
abbrev lw_cs : List Choice := [Jvm.Choice.named "NaN.bits"]
theorem lw_bits : nanBits ∈ lw_cs := by first | decide | exact List.mem_cons_self | simp [lw_cs, nanBits]
/-! ===== BEGIN words of one list among another's, by their places ===== -/
theorem goodIn_r {big : List Cond} (ws : List Cond) (ps : List Nat) (hp : ws = ps.filterMap (fun i => big[i]?)) (h : ws.all goodWord = true) : GoodIn big ws := by
  intro w hw
  have h1 := List.all_eq_true.mp h w hw
  rw [hp] at hw
  obtain ⟨i, -, hi⟩ := List.mem_filterMap.mp hw
  have hm : w ∈ big := by first | exact List.mem_of_getElem? hi | exact List.getElem?_mem hi
  exact ⟨hm, good_of_word h1⟩
theorem goodIn_app {big a b : List Cond} (ha : GoodIn big a) (hb : GoodIn big b) : GoodIn big (a ++ b) := fun w h => (List.mem_append.mp h).elim (ha w) (hb w)
theorem goodIn_ca {big a b : List Cond} {c : Cond} (ha : GoodIn big (c :: a)) (hb : GoodIn big b) : GoodIn big (c :: (a ++ b)) := fun w h => (List.mem_cons.mp h).elim (fun e => ha w (List.mem_cons.mpr (Or.inl e))) (fun h => (List.mem_append.mp h).elim (fun h => ha w (List.mem_cons.mpr (Or.inr h))) (hb w))
theorem goodIn_sub {big ws : List Cond} (hm : ∀ w ∈ ws, w ∈ big) (h : ws.all goodWord = true) : GoodIn big ws := fun w hw => ⟨hm w hw, good_of_word (List.all_eq_true.mp h w hw)⟩
/-! ===== END ===== -/

/-! ===== BEGIN exceptions that leave a method, and their catching by the caller (launches without stack traces) ===== -/
section VXA
/-! The laws vx_back, vx_callV, vx_callS, vx_callSW, vx_throw0, vx_throwS follow proofs of the library, with one case more: JvmDerived/Free/Laws.lean (Back.of_free), Shelf42/LK1.lean (callV, callS), Shelf/KitTraced.lean (throwNew0V, throwNewS). -/
/-- where a method has thrown q: the class by its name, the cell, what was written, the world -/
def vx_T (XC : String → State → State → Prop) (st : State) (q : Addr) (t : State) (mc ms : Nat) (free : Addr → Prop) : Prop :=
  ∃ (E : String) (ce : Cell) (L : List Loc), XC E st t ∧ t.heap[q]? = some ce ∧ ce.vm = .none ∧ st.vm.findClass E = some ce.cls ∧ st.WarmedH t.vm ∧ st.sameButNew ({ t with vm := st.vm } : State) L mc ms ∧ ∀ z ∈ L, free z.base
def vx_Q (Qc : Array Value → State → Outcome → State → Prop) (XC : String → State → State → Prop) (mc ms : Nat) (free : Addr → Prop) : Array Value → State → Outcome → State → Prop := fun a st o t =>
  (Qc a st o t ∧ ∃ L, FrameEnd st o t L mc ms ∧ ∀ q ∈ L, free q.base) ∨ ∃ q, o = .threw q ∧ vx_T XC st q t mc ms free
/-- a callee that returns or throws -/
def vx_Met (l : Launch) (y : MethodName) (ws : List Cond) (rm : Room) (Pc : Array Value → State → Prop) (Qc : Array Value → State → Outcome → State → Prop) (XC : String → State → State → Prop) (mc ms : Nat) (free : Addr → Prop) : Prop :=
  MetFree l y (headSpec ws rm) Pc (fun _ _ _ _ _ => True) (vx_Q Qc XC mc ms free)
def vx_Post (XC : String → State → State → Prop) (mc ms : Nat) (free : Addr → Prop) : Pt → Array Value → Addr → Pt → Prop := fun A a q B =>
  ∃ (g : JFrame) (mk : MethodId) (t : State) (L : List Loc) (E : String) (ce : Cell), B.U.heap = t.heap ∧ B.U.vm = t.vm ∧ XC E (A.U.calling g mk a) t ∧ t.heap[q]? = some ce ∧ ce.vm = .none ∧ A.U.vm.findClass E = some ce.cls ∧ B.locs = A.locs ++ L ∧ (∀ z ∈ L, free z.base) ∧ B.cells = A.cells + mc ∧ B.slots = A.slots + ms
def vx_Back (l : Launch) (R : Room) (p : Program) (e : Env) (below : List Frame) (s : State) (sargs : Array Value) (y : MethodName) (len W9 : Nat)
    (Pre : Pt → Array Value → Prop) (Post : Pt → Array Value → Option Value → Pt → Prop) (PostX : Pt → Array Value → Addr → Pt → Prop) : Prop :=
  ∀ (m : MethodId) (meth : Method) (c : Code) (A : Pt) (g : JFrame) (ig : Instr) (mk : MethodId) (a : Array Value),
    Stand p l e R s m sargs below meth c A.U A.locs A.cells A.slots → g.method = m → g.locals.size = c.maxLocals → decode c.code g.pc = .ok (ig, len) →
    2 * g.monitorRoom + (g.stack.map fun v => v.category).sum ≤ W9 → A.U.methodNamed? y = some mk → Pre A a →
    (∃ (v : Option Value) (B : Pt), Stand p l e R s m sargs below meth c B.U B.locs B.cells B.slots ∧ Post A a v B ∧
      Steps p.tables e below (doInvoke e (A.U.setTop g) [] mk a).1 (B.U.setTop { g with pc := g.pc + len, stack := v.toList ++ g.stack })) ∨
    (∃ (q : Addr) (B : Pt), Stand p l e R s m sargs below meth c B.U B.locs B.cells B.slots ∧ PostX A a q B ∧
      Steps p.tables e below (doInvoke e (A.U.setTop g) [] mk a).1 ((B.U.setTop g).pushFrame (.throwing q)))
section Payer
variable {l : Launch} {R : Room} {p : Program} {e : Env} {below : List Frame} {s : State} {sargs : Array Value} {y : MethodName} {len W9 : Nat}
theorem vx_back {ws : List Cond} {rm : Room} {Pc : Array Value → State → Prop} {Qc : Array Value → State → Outcome → State → Prop} {XC : String → State → State → Prop} {mc ms : Nat} {free : Addr → Prop} {bytes : ByteArray} {maxL : Nat} {ret : Option FieldType}
    (hM : vx_Met l y ws rm Pc Qc XC mc ms free) (hblind : FrameBlind Pc) (hrc : rm.cells = mc) (hrs : rm.slots = ms)
    (hframes : rm.frames + 1 ≤ R.frames) (hlocals : W9 + (maxL + 11) + rm.locals ≤ R.locals)
    (hws : ∀ w ∈ ws, ∀ a' U, s.WarmedH U.vm → w.before a' U = true) (hcode : Cond.code y bytes maxL ret ∈ ws) (hinit : ∀ a' U, s.WarmedH U.vm → (Cond.initialized y.cls).before a' U = true) :
    vx_Back l R p e below s sargs y len W9 (PreOf R mc ms Pc) (PostOf Qc mc ms free) (vx_Post XC mc ms free) := by
  intro m meth c A g ig mk a X hg hsize hdg hW hn hp
  have h1 : (headSpec ws rm).pre.before a A.U = true := atoms_intro fun w hw => hws w hw _ _ X.warmed
  have h2 : (Cond.code y bytes maxL ret).before a A.U = true := hws _ hcode _ _ X.warmed
  have h3 : (Cond.initialized y.cls).before a A.U = true := hinit _ _ X.warmed
  have h4 : A.cells + (headSpec ws rm).room.cells ≤ R.cells := by rw [show (headSpec ws rm).room.cells = mc from hrc]; exact hp.1
  have h5 : A.slots + (headSpec ws rm).room.slots ≤ R.slots := by rw [show (headSpec ws rm).room.slots = ms from hrs]; exact hp.2.1
  have hPc : Pc a (A.U.calling g mk a) := hblind _ _ _ _ hp.2.2
  obtain ⟨U, Ls, c0, s0⟩ := A
  dsimp only [Pt.U, Pt.locs, Pt.cells, Pt.slots] at h1 h2 h3 h4 h5 X hn hPc ⊢
  obtain ⟨methY, cY, hmY, hcY, -, hlY, -, -, -, -⟩ := Cond.code_spec hn h2
  obtain ⟨kY, hkY, -⟩ := className_of_methodNamed hn
  have hinitY : kY.init = .initialized := Cond.initialized_spec (findClass_of_methodNamed hn) hkY h3
  have h : At U g.method c below := by rw [hg]; exact X.here
  have hlocals9 : W9 + (maxL + 11) + (headSpec ws rm).room.locals ≤ R.locals := hlocals
  have happ : (headSpec ws rm).appliesLoose y e.platform (U.calling g mk a) = true :=
    Spec.appliesLoose_calling (g := g) h hdg hn hkY hinitY
      (X.room_calling (g := g) (R' := (headSpec ws rm).room) hsize hmY hcY hframes (by rw [hlY]; omega) h4 h5) h1
  obtain ⟨mid, hmid⟩ := h.above
  have hfr : (U.setTop g).frames = (.java g :: mid) ++ below := by rw [State.frames_setTop' g h.top, hmid]; rfl
  obtain ⟨o, s₂, hsteps, -, hend, hq⟩ := Steps.callFree hM p X.admits X.cas X.clock (acts := []) hfr happ hPc trivial
  have hq' : vx_Q Qc XC mc ms free a (U.calling g mk a) o s₂ := hq
  rw [State.frames_setTop' g h.top] at hend
  obtain ⟨g₀, hg0⟩ := Option.isSome_iff_exists.mp h.top
  obtain ⟨r, hr⟩ := State.topJava?_eq_some.mp hg0
  have hr' : (({ U with heap := s₂.heap, slotsUsed := s₂.slotsUsed } : State).setVm s₂.vm).frames = .java g₀ :: r := hr
  rcases hq' with ⟨hqc, L, hfe, hL⟩ | ⟨q, rfl, E, ce, L, hx, hce, hcv, hcl, hW₂, hsm, hL⟩
  · obtain ⟨⟨v, rfl⟩, hW₂, e2, q2, q3, q4, q5, q6⟩ := id hfe
    have e3 : s₂ = ({ (U.calling g mk a).setFrames s₂.frames with heap := s₂.heap, slotsUsed := s₂.slotsUsed } : State).setVm s₂.vm := by
      have : s₂ = ({ s₂ with vm := (U.calling g mk a).vm } : State).setVm s₂.vm := rfl
      rw [e2] at this
      exact this
    obtain ⟨c₂, i₂, len₂, hc₂, hd₂, hf₂⟩ := hend
    have hW' : U.WarmedH s₂.vm := hW₂
    have hcc : c₂ = c := by
      have h1 : s₂.code? g.method = U.code? g.method := by
        rw [State.code?_eq, State.code?_eq, hW'.alike.method?]
      exact Option.some.inj (hc₂.symm.trans (h1.trans h.code))
    subst hcc
    have hlen : len₂ = len := by rw [hdg] at hd₂; cases hd₂; rfl
    subst hlen
    have hs₂ : s₂ = (({ U with heap := s₂.heap, slotsUsed := s₂.slotsUsed } : State).setVm s₂.vm).setTop { g with pc := g.pc + len₂, stack := v.toList ++ g.stack } := by
      refine e3.trans ?_
      rw [hf₂, State.calling_eq h.top, State.setFrames_setFrames, State.setTop_of_frames _ hr', hr]
      rfl
    have hsame : U.sameButNew ({ U with heap := s₂.heap, slotsUsed := s₂.slotsUsed } : State) L mc ms := by
      refine ⟨?_, q2, q3, q4, q5, q6⟩
      obtain ⟨t, ht, -⟩ := State.frames_cons hr
      show ({ U with heap := s₂.heap, slotsUsed := s₂.slotsUsed } : State) = { U.setFrames U.frames with heap := s₂.heap, slotsUsed := s₂.slotsUsed }
      rw [State.setFrames_self ht]
    subst hg
    refine Or.inl ⟨v, ⟨(({ U with heap := s₂.heap, slotsUsed := s₂.slotsUsed } : State).setVm s₂.vm), Ls ++ L, c0 + mc, s0 + ms⟩,
      ⟨X.admits, X.cas, X.clock, X.frames, X.room, X.hears, X.method, X.code, (X.here.setHeapUsed s₂.heap s₂.slotsUsed).setVm hW'.alike, X.tail, State.WarmedH.trans X.warmed hW', X.limits, X.bytes, X.same.trans (hsame.setVm s.vm)⟩,
      ⟨g, mk, s₂, L, rfl, rfl, hqc, rfl, hL, rfl, rfl⟩, ?_⟩
    show Steps p.tables e below _ ((({ U with heap := s₂.heap, slotsUsed := s₂.slotsUsed } : State).setVm s₂.vm).setTop { g with pc := g.pc + len₂, stack := v.toList ++ g.stack })
    rw [← hs₂]
    exact hsteps
  · obtain ⟨e2, q2, q3, q4, q5, q6⟩ := id hsm
    have e3 : s₂ = ({ (U.calling g mk a).setFrames s₂.frames with heap := s₂.heap, slotsUsed := s₂.slotsUsed } : State).setVm s₂.vm := by
      have : s₂ = ({ s₂ with vm := (U.calling g mk a).vm } : State).setVm s₂.vm := rfl
      rw [e2] at this
      exact this
    have hf₂ : s₂.frames = .throwing q :: .java g :: U.frames.tail := hend
    have hW' : U.WarmedH s₂.vm := hW₂
    have hs₂ : s₂ = ((({ U with heap := s₂.heap, slotsUsed := s₂.slotsUsed } : State).setVm s₂.vm).setTop g).pushFrame (.throwing q) := by
      refine e3.trans ?_
      rw [hf₂, State.calling_eq h.top, State.setFrames_setFrames, State.pushFrame, State.frames_setTop _ hr', State.setTop_of_frames _ hr', State.setFrames_setFrames, hr]
      rfl
    have hsame : U.sameButNew ({ U with heap := s₂.heap, slotsUsed := s₂.slotsUsed } : State) L mc ms := by
      refine ⟨?_, q2, q3, q4, q5, q6⟩
      obtain ⟨t, ht, -⟩ := State.frames_cons hr
      show ({ U with heap := s₂.heap, slotsUsed := s₂.slotsUsed } : State) = { U.setFrames U.frames with heap := s₂.heap, slotsUsed := s₂.slotsUsed }
      rw [State.setFrames_self ht]
    subst hg
    refine Or.inr ⟨q, ⟨(({ U with heap := s₂.heap, slotsUsed := s₂.slotsUsed } : State).setVm s₂.vm), Ls ++ L, c0 + mc, s0 + ms⟩,
      ⟨X.admits, X.cas, X.clock, X.frames, X.room, X.hears, X.method, X.code, (X.here.setHeapUsed s₂.heap s₂.slotsUsed).setVm hW'.alike, X.tail, State.WarmedH.trans X.warmed hW', X.limits, X.bytes, X.same.trans (hsame.setVm s.vm)⟩,
      ⟨g, mk, s₂, L, E, ce, rfl, rfl, hx, hce, hcv, hcl, rfl, hL, rfl, rfl⟩, ?_⟩
    show Steps p.tables e below _ (((({ U with heap := s₂.heap, slotsUsed := s₂.slotsUsed } : State).setVm s₂.vm).setTop g).pushFrame (.throwing q))
    rw [← hs₂]
    exact hsteps
end Payer
section Calls
variable {p : Program} {l : Launch} {e : Env} {R : Room} {s : State} {m : MethodId} {args : Array Value} {below : List Frame} {meth : Method} {c : Code} {T : State} {locs : List Loc} {cells slots : Nat}
theorem vx_callV (X : Stand p l e R s m args below meth c T locs cells slots) (hexec : p.tables.exec = Jvm.exec) {own C : String} {index : Nat} {y : MethodName} {bytes : ByteArray} {maxL : Nat} {ret : Option FieldType}
    (hown : s.vm.findClass own = some m.cls) (hlink : (Cond.methodLink own index y).before args s = true) (hinst : (Cond.instanceMethod y).before args s = true) (hsel : (Cond.selects C y y).before args s = true)
    (hcode : (Cond.code y bytes maxL ret).before args s = true) (hy : y.cls ≠ "java/lang/invoke/MethodHandle" ∧ y.cls ≠ "java/lang/invoke/VarHandle")
    {W9 : Nat} {Pre : Pt → Array Value → Prop} {Post : Pt → Array Value → Option Value → Pt → Prop} {PostX : Pt → Array Value → Addr → Pt → Prop} (hK : vx_Back l R p e below s args y 3 W9 Pre Post PostX)
    {b : Addr} {cellB : Cell} (hcell : T.heap[b]? = some cellB) (hobj : cellB.vm.isStatics = false) (hcls : s.vm.findClass C = some cellB.cls)
    {g : JFrame} (hg : g.method = m) (hsize : g.locals.size = c.maxLocals) {argsL rest : List Value} (hlen : ∀ sig, parseMethodDescriptor y.desc = some sig → argsL.length = sig.parameters.length)
    (hstack : g.stack = argsL.reverse ++ .ref b :: rest) (hW : 2 * g.monitorRoom + (rest.map fun v => v.category).sum ≤ W9) (hdg : decode c.code g.pc = .ok (.invokevirtual index, 3))
    (hpre : ∀ vm₁, s.WarmedH vm₁ → Pre ⟨T.setVm vm₁, locs, cells, slots⟩ (Value.ref b :: argsL).toArray) :
    (∃ (v : Option Value) (vm₁ : Vm) (B : Pt), s.WarmedH vm₁ ∧ Stand p l e R s m args below meth c B.U B.locs B.cells B.slots ∧ Post ⟨T.setVm vm₁, locs, cells, slots⟩ (Value.ref b :: argsL).toArray v B ∧
      ∀ target, Steps p.tables e below (B.U.setTop { g with pc := g.pc + 3, stack := v.toList ++ rest }) target → Steps p.tables e below (T.setTop g) target) ∨
    (∃ (q : Addr) (vm₁ : Vm) (B : Pt), s.WarmedH vm₁ ∧ Stand p l e R s m args below meth c B.U B.locs B.cells B.slots ∧ PostX ⟨T.setVm vm₁, locs, cells, slots⟩ (Value.ref b :: argsL).toArray q B ∧
      Steps p.tables e below (T.setTop g) ((B.U.setTop { g with stack := rest }).pushFrame (.throwing q))) := by
  obtain ⟨mk, methM, hnamed, hmethM, hstM, habM⟩ := Cond.instanceMethod_spec hinst
  obtain ⟨methM', cM, hmethM', -, -, -, -, -, -, hsigM⟩ := Cond.code_spec hnamed hcode
  cases hmethM.symm.trans hmethM'
  obtain ⟨c2, r2, m2, q1, q2, q3, q4, kP, hkP, hkPi⟩ := Cond.selects_spec hsel
  cases hcls.symm.trans q1
  cases (State.methodFound?_of_named hnamed hy).symm.trans q2
  cases hnamed.symm.trans q3
  have hselP : selectMethod e.platform s.vm cellB.cls mk = .method mk := by rw [Launch.admits_selectMethod X.admits]; exact q4
  obtain ⟨vm₁, X₁, hstep₁⟩ := X.invokevirtual hexec hown hlink hnamed hmethM hstM hkP hkPi hy (a := b) (cell := cellB) hcell
    (fun z h => by rw [h] at hobj; cases hobj) hselP hmethM habM hkP hkPi (g := g) hg (argsL := argsL) (rest := rest) (hlen _ hsigM) hstack hdg
  rcases hK m meth c ⟨T.setVm vm₁, locs, cells, slots⟩ { g with stack := rest } (.invokevirtual index) mk (Value.ref b :: argsL).toArray X₁ hg hsize hdg hW (X₁.named hnamed) (hpre vm₁ X₁.warmed) with ⟨v, B, X', hpost, hsteps⟩ | ⟨q, B, X', hpost, hsteps⟩
  · exact Or.inl ⟨v, vm₁, B, X₁.warmed, X', hpost, fun target h => hstep₁ _ fun acts => by rw [doInvoke_state]; exact hsteps.trans h⟩
  · exact Or.inr ⟨q, vm₁, B, X₁.warmed, X', hpost, hstep₁ _ fun acts => by rw [doInvoke_state]; exact hsteps⟩
theorem vx_callS (X : Stand p l e R s m args below meth c T locs cells slots) (hexec : p.tables.exec = Jvm.exec) {own : String} {index : Nat} {y : MethodName} {bytes : ByteArray} {maxL : Nat} {ret : Option FieldType}
    (hown : s.vm.findClass own = some m.cls) (hlink : (Cond.methodLink own index y).before args s = true) (hstat : (Cond.static y).before args s = true) (hinit : (Cond.initialized y.cls).before args s = true)
    (hcode : (Cond.code y bytes maxL ret).before args s = true) (hy : y.cls ≠ "java/lang/invoke/MethodHandle" ∧ y.cls ≠ "java/lang/invoke/VarHandle")
    {W9 : Nat} {Pre : Pt → Array Value → Prop} {Post : Pt → Array Value → Option Value → Pt → Prop} {PostX : Pt → Array Value → Addr → Pt → Prop} (hK : vx_Back l R p e below s args y 3 W9 Pre Post PostX)
    {g : JFrame} (hg : g.method = m) (hsize : g.locals.size = c.maxLocals) {argsL rest : List Value} (hlen : ∀ sig, parseMethodDescriptor y.desc = some sig → argsL.length = sig.parameters.length)
    (hstack : g.stack = argsL.reverse ++ rest) (hW : 2 * g.monitorRoom + (rest.map fun v => v.category).sum ≤ W9) (hdg : decode c.code g.pc = .ok (.invokestatic index, 3))
    (hpre : ∀ vm₁, s.WarmedH vm₁ → Pre ⟨T.setVm vm₁, locs, cells, slots⟩ argsL.toArray) :
    (∃ (v : Option Value) (vm₁ : Vm) (B : Pt), s.WarmedH vm₁ ∧ Stand p l e R s m args below meth c B.U B.locs B.cells B.slots ∧ Post ⟨T.setVm vm₁, locs, cells, slots⟩ argsL.toArray v B ∧
      ∀ target, Steps p.tables e below (B.U.setTop { g with pc := g.pc + 3, stack := v.toList ++ rest }) target → Steps p.tables e below (T.setTop g) target) ∨
    (∃ (q : Addr) (vm₁ : Vm) (B : Pt), s.WarmedH vm₁ ∧ Stand p l e R s m args below meth c B.U B.locs B.cells B.slots ∧ PostX ⟨T.setVm vm₁, locs, cells, slots⟩ argsL.toArray q B ∧
      Steps p.tables e below (T.setTop g) ((B.U.setTop { g with stack := rest }).pushFrame (.throwing q))) := by
  obtain ⟨mk, hnamed⟩ := Cond.code_named hcode
  obtain ⟨methM, cM, hmethM, -, -, -, -, -, -, hsigM⟩ := Cond.code_spec hnamed hcode
  have hstatic : methM.isStatic = true := Cond.static_spec hnamed hmethM hstat
  obtain ⟨kP, hkP, -⟩ := className_of_methodNamed hnamed
  have hinitP : kP.init = .initialized := Cond.initialized_spec (findClass_of_methodNamed hnamed) hkP hinit
  obtain ⟨vm₁, X₁, hstep₁⟩ := X.invokestatic hexec hown hlink hnamed hmethM hstatic hkP hinitP hy (g := g) hg (argsL := argsL) (rest := rest) (hlen _ hsigM) hstack hdg
  rcases hK m meth c ⟨T.setVm vm₁, locs, cells, slots⟩ { g with stack := rest } (.invokestatic index) mk argsL.toArray X₁ hg hsize hdg hW (X₁.named hnamed) (hpre vm₁ X₁.warmed) with ⟨v, B, X', hpost, hsteps⟩ | ⟨q, B, X', hpost, hsteps⟩
  · exact Or.inl ⟨v, vm₁, B, X₁.warmed, X', hpost, fun target h => hstep₁ _ fun acts => by rw [doInvoke_state]; exact hsteps.trans h⟩
  · exact Or.inr ⟨q, vm₁, B, X₁.warmed, X', hpost, hstep₁ _ fun acts => by rw [doInvoke_state]; exact hsteps⟩
end Calls
theorem vx_cls {s : State} {T : State} {vm₁ : Vm} {E : String} {k : ClassId} (hW : s.WarmedH vm₁) (h : (T.setVm vm₁).vm.findClass E = some k) : s.vm.findClass E = some k := by
  have h1 : vm₁.findClass E = some k := h
  rw [hW.alike.findClass] at h1
  exact h1
/-- the method's frame g, with q thrown over it -/
def vx_W (p : Program) (l : Launch) (e : Env) (R : Room) (s : State) (m : MethodId) (args : Array Value) (below : List Frame) (meth : Method) (c : Code) (H : Heap) (locs : List Loc) (cells slots : Nat) (Q : State → Prop) (g : JFrame) (q : Addr) : Prop :=
  ∀ T : State, T.heap = H → Stand p l e R s m args below meth c T locs cells slots → ∃ t, Steps p.tables e below ((T.setTop g).pushFrame (.throwing q)) t ∧ Q t
def vx_Run (p : Program) (l : Launch) (e : Env) (R : Room) (s : State) (m : MethodId) (args : Array Value) (below : List Frame) (meth : Method) (c : Code) (H : Heap) (locs : List Loc) (cells slots mc ms : Nat) (g : JFrame) (rest : List Value) (Qa : State → Outcome → State → Prop) (XC : String → State → State → Prop) (free : Addr → Prop) : Prop :=
  ∀ T : State, T.heap = H → Stand p l e R s m args below meth c T locs cells slots →
    (∃ (v : Option Value) (st₀ t T' : State) (L : List Loc), st₀.heap = H ∧ Stand p l e R s m args below meth c T' (locs ++ L) (cells + mc) (slots + ms) ∧ (∀ q ∈ L, free q.base) ∧ T'.heap = t.heap ∧ T'.vm = t.vm ∧ Qa st₀ (.returned v) t ∧
      Goes p e below T g T' { g with pc := g.pc + 3, stack := v.toList ++ rest }) ∨
    (∃ (q : Addr) (st₀ t T' : State) (L : List Loc) (E : String) (ce : Cell), st₀.heap = H ∧ Stand p l e R s m args below meth c T' (locs ++ L) (cells + mc) (slots + ms) ∧ (∀ z ∈ L, free z.base) ∧ T'.heap = t.heap ∧ T'.vm = t.vm ∧ XC E st₀ t ∧ t.heap[q]? = some ce ∧ ce.vm = .none ∧ s.vm.findClass E = some ce.cls ∧
      Steps p.tables e below (T.setTop g) ((T'.setTop { g with stack := rest }).pushFrame (.throwing q)))
def vx_X {S : Type} (px : S → Prop) (B : String → S → State → Prop) (A : Nat → Prop) : String → State → State → Prop := fun E st t => ∃ u : S, px u ∧ B E u t ∧ va_F A st t
section Runs
variable {p : Program} {l : Launch} {e : Env} {R : Room} {s : State} {m : MethodId} {args : Array Value} {below : List Frame} {meth : Method} {c : Code} {H : Heap} {locs : List Loc} {cells slots : Nat}
variable {y : MethodName} {bytes cc : ByteArray} {maxL nL mc ms n index : Nat} {ret : Option FieldType} {ws : List Cond} {rm : Room} {Pc : Array Value → State → Prop} {Qc : Array Value → State → Outcome → State → Prop} {XC : String → State → State → Prop} {free : Addr → Prop} {Ts : List Cond} {own C : String} {b : Addr} {As rest : List Value} {g : JFrame}
theorem vx_callBack (cb : CallB R s args own index y bytes maxL ret ws rm mc ms n) (hM : vx_Met l y ws rm Pc Qc XC mc ms free) (hbl : FrameBlind Pc) : vx_Back l R p e below s args y 3 8 (PreOf R mc ms Pc) (PostOf Qc mc ms free) (vx_Post XC mc ms free) := by
  obtain ⟨hrc, hrs, hfr, hlo, hws, hcw, -, hini, -⟩ := cb
  exact vx_back (bytes := bytes) (maxL := maxL) (ret := ret) hM hbl hrc hrs hfr hlo hws hcw (fun a' U hW => word_at hW (Or.inl (by first | rfl | simp [Cond.onTables, Cond.keeps, Cond.steady])) hini)
theorem vx_runV (S : CallFix p m c cc nL s args Ts own) (hM : vx_Met l y ws rm Pc Qc XC mc ms free) (cw : CallW R s args own C index y bytes maxL ret ws rm mc ms n) (hp : PreV s H C b Pc As)
    (hg : g.method = m) (hn : As.length = n) (hsize : g.locals.size = nL) (hstack : g.stack = As.reverse ++ .ref b :: rest) (hW : 2 * g.monitorRoom + (rest.map fun v => v.category).sum ≤ 8) (hdg : decode cc g.pc = .ok (.invokevirtual index, 3)) (hf : cells + mc ≤ R.cells ∧ slots + ms ≤ R.slots) :
    vx_Run p l e R s m args below meth c H locs cells slots mc ms g rest (Qc (Value.ref b :: As).toArray) XC free := by
  have hK : vx_Back l R p e below s args y 3 8 (PreOf R mc ms Pc) (PostOf Qc mc ms free) (vx_Post XC mc ms free) := vx_callBack cw.1 hM hp.1
  obtain ⟨⟨-, -, -, -, -, -, hcode, -, hy, hlen, hl⟩, hin, hse⟩ := cw
  obtain ⟨hx, hb, hml, ho, -⟩ := S
  obtain ⟨-, ⟨cellB, hcB, hoB, hclB⟩, hPc⟩ := hp
  intro T hT X
  rcases vx_callV X hx (C := C) (bytes := bytes) (maxL := maxL) (ret := ret) ho hl hin hse hcode hy hK (by rw [hT]; exact hcB) hoB hclB hg (hsize.trans hml.symm) (argsL := As) (rest := rest) (fun sig h => hn.trans (hlen sig h)) hstack hW (by rw [hb]; exact hdg)
    (fun vm₁ hW₁ => ⟨hf.1, hf.2, hPc (T.setVm vm₁) hT hW₁⟩) with ⟨v, vm₁, ⟨U', l2, c2, s2⟩, hW₁, X', ⟨g', mk, t, L, e1, e2, hq, h1, hL, h2, h3⟩, st⟩ | ⟨q, vm₁, ⟨U', l2, c2, s2⟩, hW₁, X', ⟨g', mk, t, L, E, ce, e1, e2, hq, hce, hcv, hcl, h1, hL, h2, h3⟩, st⟩
  · dsimp only [Pt.U, Pt.locs, Pt.cells, Pt.slots] at X' e1 e2 h1 h2 h3 st
    subst h1; subst h2; subst h3
    exact Or.inl ⟨v, (T.setVm vm₁).calling g' mk (Value.ref b :: As).toArray, t, U', L, hT, X', hL, e1, e2, hq, st⟩
  · dsimp only [Pt.U, Pt.locs, Pt.cells, Pt.slots] at X' e1 e2 h1 h2 h3 st hcl
    subst h1; subst h2; subst h3
    exact Or.inr ⟨q, (T.setVm vm₁).calling g' mk (Value.ref b :: As).toArray, t, U', L, E, ce, hT, X', hL, e1, e2, hq, hce, hcv, vx_cls hW₁ hcl, st⟩
theorem vx_runS (S : CallFix p m c cc nL s args Ts own) (hM : vx_Met l y ws rm Pc Qc XC mc ms free) (cw : CallB R s args own index y bytes maxL ret ws rm mc ms n ∧ (Cond.static y).before args s = true) (hp : PreS s H Pc As)
    (hg : g.method = m) (hn : As.length = n) (hsize : g.locals.size = nL) (hstack : g.stack = As.reverse ++ rest) (hW : 2 * g.monitorRoom + (rest.map fun v => v.category).sum ≤ 8) (hdg : decode cc g.pc = .ok (.invokestatic index, 3)) (hf : cells + mc ≤ R.cells ∧ slots + ms ≤ R.slots) :
    vx_Run p l e R s m args below meth c H locs cells slots mc ms g rest (Qc As.toArray) XC free := by
  have hK : vx_Back l R p e below s args y 3 8 (PreOf R mc ms Pc) (PostOf Qc mc ms free) (vx_Post XC mc ms free) := vx_callBack cw.1 hM hp.1
  obtain ⟨⟨-, -, -, -, -, -, hcode, hini, hy, hlen, hl⟩, hstt⟩ := cw
  obtain ⟨hx, hb, hml, ho, -⟩ := S
  intro T hT X
  rcases vx_callS X hx (bytes := bytes) (maxL := maxL) (ret := ret) ho hl hstt hini hcode hy hK hg (hsize.trans hml.symm) (argsL := As) (rest := rest) (fun sig h => hn.trans (hlen sig h)) hstack hW (by rw [hb]; exact hdg)
    (fun vm₁ hW₁ => ⟨hf.1, hf.2, hp.2 (T.setVm vm₁) hT hW₁⟩) with ⟨v, vm₁, ⟨U', l2, c2, s2⟩, hW₁, X', ⟨g', mk, t, L, e1, e2, hq, h1, hL, h2, h3⟩, st⟩ | ⟨q, vm₁, ⟨U', l2, c2, s2⟩, hW₁, X', ⟨g', mk, t, L, E, ce, e1, e2, hq, hce, hcv, hcl, h1, hL, h2, h3⟩, st⟩
  · dsimp only [Pt.U, Pt.locs, Pt.cells, Pt.slots] at X' e1 e2 h1 h2 h3 st
    subst h1; subst h2; subst h3
    exact Or.inl ⟨v, (T.setVm vm₁).calling g' mk As.toArray, t, U', L, hT, X', hL, e1, e2, hq, st⟩
  · dsimp only [Pt.U, Pt.locs, Pt.cells, Pt.slots] at X' e1 e2 h1 h2 h3 st hcl
    subst h1; subst h2; subst h3
    exact Or.inr ⟨q, (T.setVm vm₁).calling g' mk As.toArray, t, U', L, E, ce, hT, X', hL, e1, e2, hq, hce, hcv, vx_cls hW₁ hcl, st⟩
end Runs
section Rows
variable {p : Program} {l : Launch} {e : Env} {R : Room} {s : State} {m : MethodId} {args : Array Value} {below : List Frame} {meth : Method} {c : Code} {H : Heap} {locs : List Loc} {cells slots : Nat} {Q : State → Prop}
variable {mc ms : Nat} {free : Addr → Prop} {A0 A1 : Nat → Prop} {H0 : Heap} {a : Array Value} {pc : Nat} {ls : Array Slot} {st0 rest : List Value}
theorem vx_keep {st₀ t T' : State} {L : List Loc} (h0 : st₀.heap = H) (e1 : T'.heap = t.heap) (hS : va_S A0 H0 H locs) (hA : ∀ q, q < H.size → A1 q → A0 q) (hf : ∀ q, free q → A0 q) (hL : ∀ q ∈ L, free q.base) (hF : va_F A1 st₀ t) :
    H.size ≤ T'.heap.size ∧ (∀ q : Nat, q < H.size → ¬ A1 q → T'.heap[q]? = H[q]?) ∧ va_S A0 H0 T'.heap (locs ++ L) := by
  obtain ⟨hz, hk⟩ := hF
  rw [h0] at hz hk
  exact ⟨by rw [e1]; exact hz, fun q h1 h2 => by rw [e1]; exact hk q h1 h2,
    ⟨Nat.le_trans hS.1 (by rw [e1]; exact hz), fun q h1 h2 => by rw [e1, hk q (Nat.lt_of_lt_of_le h1 hS.1) (fun z => h2 (hA q (Nat.lt_of_lt_of_le h1 hS.1) z))]; exact hS.2.1 q h1 h2, fun q hq => by
      rcases List.mem_append.mp hq with h | h
      · exact hS.2.2 q h
      · exact hf _ (hL q h)⟩⟩
theorem vx_calli {S SX : Type} {post : Int32 → S → Prop} {px : SX → Prop} {B : S → State → Prop} {BX : String → SX → State → Prop} {AX : Nat → Prop} (hr : vx_Run p l e R s m args below meth c H locs cells slots mc ms (F0 m pc ls st0) rest (va_Qi post B A1 a) (vx_X px BX AX) free) (hS : va_S A0 H0 H locs) (hA : ∀ q, q < H.size → A1 q → A0 q) (hf : ∀ q, free q → A0 q) (hAX : ∀ q, q < H.size → AX q → A0 q)
    (kx : ∀ (E : String) (ce : Cell) (q9 : Addr) (u : SX) (t : State) (H1 : Heap) (locs1 : List Loc), t.heap = H1 → s.vm.Alike t.vm → px u → BX E u t → H.size ≤ H1.size → (∀ q : Nat, q < H.size → ¬ AX q → H1[q]? = H[q]?) → va_S A0 H0 H1 locs1 → H1[q9]? = some ce → ce.vm = .none → s.vm.findClass E = some ce.cls → vx_W p l e R s m args below meth c H1 locs1 (cells + mc) (slots + ms) Q (F0 m pc ls rest) q9)
    (kk : ∀ (r : Int32) (u : S) (t : State) (H1 : Heap) (locs1 : List Loc), t.heap = H1 → s.vm.Alike t.vm → post r u → B u t → H.size ≤ H1.size → (∀ q : Nat, q < H.size → ¬ A1 q → H1[q]? = H[q]?) → va_S A0 H0 H1 locs1 → W p l e R s m args below meth c H1 locs1 (cells + mc) (slots + ms) Q (F0 m (pc + 3) ls (.int r :: rest))) : W p l e R s m args below meth c H locs cells slots Q (F0 m pc ls st0) := by
  intro T hT X
  rcases hr T hT X with ⟨v, st₀, t, T', L, h0, X', hL, e1, e2, ⟨⟨r, u, hv, hp, hb⟩, hF⟩, st⟩ | ⟨q, st₀, t, T', L, E, ce, h0, X', hL, e1, e2, ⟨u, hp, hb, hF⟩, hce, hcv, hcl, st⟩
  · cases hv
    obtain ⟨k1, k2, k3⟩ := vx_keep h0 e1 hS hA hf hL hF
    obtain ⟨t2, a1, b1⟩ := kk r u t T'.heap (locs ++ L) e1.symm (by rw [← e2]; exact X'.warmed.alike) hp hb k1 k2 k3 T' rfl X'
    exact ⟨t2, st t2 a1, b1⟩
  · obtain ⟨k1, k2, k3⟩ := vx_keep h0 e1 hS hAX hf hL hF
    obtain ⟨t2, a1, b1⟩ := kx E ce q u t T'.heap (locs ++ L) e1.symm (by rw [← e2]; exact X'.warmed.alike) hp hb k1 k2 k3 (by rw [e1]; exact hce) hcv hcl T' rfl X'
    exact ⟨t2, st.trans a1, b1⟩
theorem vx_calll {S SX : Type} {post : Int64 → S → Prop} {px : SX → Prop} {B : S → State → Prop} {BX : String → SX → State → Prop} {AX : Nat → Prop} (hr : vx_Run p l e R s m args below meth c H locs cells slots mc ms (F0 m pc ls st0) rest (va_Ql post B A1 a) (vx_X px BX AX) free) (hS : va_S A0 H0 H locs) (hA : ∀ q, q < H.size → A1 q → A0 q) (hf : ∀ q, free q → A0 q) (hAX : ∀ q, q < H.size → AX q → A0 q)
    (kx : ∀ (E : String) (ce : Cell) (q9 : Addr) (u : SX) (t : State) (H1 : Heap) (locs1 : List Loc), t.heap = H1 → s.vm.Alike t.vm → px u → BX E u t → H.size ≤ H1.size → (∀ q : Nat, q < H.size → ¬ AX q → H1[q]? = H[q]?) → va_S A0 H0 H1 locs1 → H1[q9]? = some ce → ce.vm = .none → s.vm.findClass E = some ce.cls → vx_W p l e R s m args below meth c H1 locs1 (cells + mc) (slots + ms) Q (F0 m pc ls rest) q9)
    (kk : ∀ (r : Int64) (u : S) (t : State) (H1 : Heap) (locs1 : List Loc), t.heap = H1 → s.vm.Alike t.vm → post r u → B u t → H.size ≤ H1.size → (∀ q : Nat, q < H.size → ¬ A1 q → H1[q]? = H[q]?) → va_S A0 H0 H1 locs1 → W p l e R s m args below meth c H1 locs1 (cells + mc) (slots + ms) Q (F0 m (pc + 3) ls (.long r :: rest))) : W p l e R s m args below meth c H locs cells slots Q (F0 m pc ls st0) := by
  intro T hT X
  rcases hr T hT X with ⟨v, st₀, t, T', L, h0, X', hL, e1, e2, ⟨⟨r, u, hv, hp, hb⟩, hF⟩, st⟩ | ⟨q, st₀, t, T', L, E, ce, h0, X', hL, e1, e2, ⟨u, hp, hb, hF⟩, hce, hcv, hcl, st⟩
  · cases hv
    obtain ⟨k1, k2, k3⟩ := vx_keep h0 e1 hS hA hf hL hF
    obtain ⟨t2, a1, b1⟩ := kk r u t T'.heap (locs ++ L) e1.symm (by rw [← e2]; exact X'.warmed.alike) hp hb k1 k2 k3 T' rfl X'
    exact ⟨t2, st t2 a1, b1⟩
  · obtain ⟨k1, k2, k3⟩ := vx_keep h0 e1 hS hAX hf hL hF
    obtain ⟨t2, a1, b1⟩ := kx E ce q u t T'.heap (locs ++ L) e1.symm (by rw [← e2]; exact X'.warmed.alike) hp hb k1 k2 k3 (by rw [e1]; exact hce) hcv hcl T' rfl X'
    exact ⟨t2, st.trans a1, b1⟩
theorem vx_callf {S SX : Type} {post : UInt32 → S → Prop} {px : SX → Prop} {B : S → State → Prop} {BX : String → SX → State → Prop} {AX : Nat → Prop} (hr : vx_Run p l e R s m args below meth c H locs cells slots mc ms (F0 m pc ls st0) rest (va_Qf post B A1 a) (vx_X px BX AX) free) (hS : va_S A0 H0 H locs) (hA : ∀ q, q < H.size → A1 q → A0 q) (hf : ∀ q, free q → A0 q) (hAX : ∀ q, q < H.size → AX q → A0 q)
    (kx : ∀ (E : String) (ce : Cell) (q9 : Addr) (u : SX) (t : State) (H1 : Heap) (locs1 : List Loc), t.heap = H1 → s.vm.Alike t.vm → px u → BX E u t → H.size ≤ H1.size → (∀ q : Nat, q < H.size → ¬ AX q → H1[q]? = H[q]?) → va_S A0 H0 H1 locs1 → H1[q9]? = some ce → ce.vm = .none → s.vm.findClass E = some ce.cls → vx_W p l e R s m args below meth c H1 locs1 (cells + mc) (slots + ms) Q (F0 m pc ls rest) q9)
    (kk : ∀ (r : UInt32) (u : S) (t : State) (H1 : Heap) (locs1 : List Loc), t.heap = H1 → s.vm.Alike t.vm → post r u → B u t → H.size ≤ H1.size → (∀ q : Nat, q < H.size → ¬ A1 q → H1[q]? = H[q]?) → va_S A0 H0 H1 locs1 → W p l e R s m args below meth c H1 locs1 (cells + mc) (slots + ms) Q (F0 m (pc + 3) ls (.float r :: rest))) : W p l e R s m args below meth c H locs cells slots Q (F0 m pc ls st0) := by
  intro T hT X
  rcases hr T hT X with ⟨v, st₀, t, T', L, h0, X', hL, e1, e2, ⟨⟨r, u, hv, hp, hb⟩, hF⟩, st⟩ | ⟨q, st₀, t, T', L, E, ce, h0, X', hL, e1, e2, ⟨u, hp, hb, hF⟩, hce, hcv, hcl, st⟩
  · cases hv
    obtain ⟨k1, k2, k3⟩ := vx_keep h0 e1 hS hA hf hL hF
    obtain ⟨t2, a1, b1⟩ := kk r u t T'.heap (locs ++ L) e1.symm (by rw [← e2]; exact X'.warmed.alike) hp hb k1 k2 k3 T' rfl X'
    exact ⟨t2, st t2 a1, b1⟩
  · obtain ⟨k1, k2, k3⟩ := vx_keep h0 e1 hS hAX hf hL hF
    obtain ⟨t2, a1, b1⟩ := kx E ce q u t T'.heap (locs ++ L) e1.symm (by rw [← e2]; exact X'.warmed.alike) hp hb k1 k2 k3 (by rw [e1]; exact hce) hcv hcl T' rfl X'
    exact ⟨t2, st.trans a1, b1⟩
theorem vx_calld {S SX : Type} {post : UInt64 → S → Prop} {px : SX → Prop} {B : S → State → Prop} {BX : String → SX → State → Prop} {AX : Nat → Prop} (hr : vx_Run p l e R s m args below meth c H locs cells slots mc ms (F0 m pc ls st0) rest (va_Qd post B A1 a) (vx_X px BX AX) free) (hS : va_S A0 H0 H locs) (hA : ∀ q, q < H.size → A1 q → A0 q) (hf : ∀ q, free q → A0 q) (hAX : ∀ q, q < H.size → AX q → A0 q)
    (kx : ∀ (E : String) (ce : Cell) (q9 : Addr) (u : SX) (t : State) (H1 : Heap) (locs1 : List Loc), t.heap = H1 → s.vm.Alike t.vm → px u → BX E u t → H.size ≤ H1.size → (∀ q : Nat, q < H.size → ¬ AX q → H1[q]? = H[q]?) → va_S A0 H0 H1 locs1 → H1[q9]? = some ce → ce.vm = .none → s.vm.findClass E = some ce.cls → vx_W p l e R s m args below meth c H1 locs1 (cells + mc) (slots + ms) Q (F0 m pc ls rest) q9)
    (kk : ∀ (r : UInt64) (u : S) (t : State) (H1 : Heap) (locs1 : List Loc), t.heap = H1 → s.vm.Alike t.vm → post r u → B u t → H.size ≤ H1.size → (∀ q : Nat, q < H.size → ¬ A1 q → H1[q]? = H[q]?) → va_S A0 H0 H1 locs1 → W p l e R s m args below meth c H1 locs1 (cells + mc) (slots + ms) Q (F0 m (pc + 3) ls (.double r :: rest))) : W p l e R s m args below meth c H locs cells slots Q (F0 m pc ls st0) := by
  intro T hT X
  rcases hr T hT X with ⟨v, st₀, t, T', L, h0, X', hL, e1, e2, ⟨⟨r, u, hv, hp, hb⟩, hF⟩, st⟩ | ⟨q, st₀, t, T', L, E, ce, h0, X', hL, e1, e2, ⟨u, hp, hb, hF⟩, hce, hcv, hcl, st⟩
  · cases hv
    obtain ⟨k1, k2, k3⟩ := vx_keep h0 e1 hS hA hf hL hF
    obtain ⟨t2, a1, b1⟩ := kk r u t T'.heap (locs ++ L) e1.symm (by rw [← e2]; exact X'.warmed.alike) hp hb k1 k2 k3 T' rfl X'
    exact ⟨t2, st t2 a1, b1⟩
  · obtain ⟨k1, k2, k3⟩ := vx_keep h0 e1 hS hAX hf hL hF
    obtain ⟨t2, a1, b1⟩ := kx E ce q u t T'.heap (locs ++ L) e1.symm (by rw [← e2]; exact X'.warmed.alike) hp hb k1 k2 k3 (by rw [e1]; exact hce) hcv hcl T' rfl X'
    exact ⟨t2, st.trans a1, b1⟩
theorem vx_callv {S SX : Type} {post : S → Prop} {px : SX → Prop} {B : S → State → Prop} {BX : String → SX → State → Prop} {AX : Nat → Prop} (hr : vx_Run p l e R s m args below meth c H locs cells slots mc ms (F0 m pc ls st0) rest (va_Qv post B A1 a) (vx_X px BX AX) free) (hS : va_S A0 H0 H locs) (hA : ∀ q, q < H.size → A1 q → A0 q) (hf : ∀ q, free q → A0 q) (hAX : ∀ q, q < H.size → AX q → A0 q)
    (kx : ∀ (E : String) (ce : Cell) (q9 : Addr) (u : SX) (t : State) (H1 : Heap) (locs1 : List Loc), t.heap = H1 → s.vm.Alike t.vm → px u → BX E u t → H.size ≤ H1.size → (∀ q : Nat, q < H.size → ¬ AX q → H1[q]? = H[q]?) → va_S A0 H0 H1 locs1 → H1[q9]? = some ce → ce.vm = .none → s.vm.findClass E = some ce.cls → vx_W p l e R s m args below meth c H1 locs1 (cells + mc) (slots + ms) Q (F0 m pc ls rest) q9)
    (kk : ∀ (u : S) (t : State) (H1 : Heap) (locs1 : List Loc), t.heap = H1 → s.vm.Alike t.vm → post u → B u t → H.size ≤ H1.size → (∀ q : Nat, q < H.size → ¬ A1 q → H1[q]? = H[q]?) → va_S A0 H0 H1 locs1 → W p l e R s m args below meth c H1 locs1 (cells + mc) (slots + ms) Q (F0 m (pc + 3) ls (rest))) : W p l e R s m args below meth c H locs cells slots Q (F0 m pc ls st0) := by
  intro T hT X
  rcases hr T hT X with ⟨v, st₀, t, T', L, h0, X', hL, e1, e2, ⟨⟨u, hv, hp, hb⟩, hF⟩, st⟩ | ⟨q, st₀, t, T', L, E, ce, h0, X', hL, e1, e2, ⟨u, hp, hb, hF⟩, hce, hcv, hcl, st⟩
  · cases hv
    obtain ⟨k1, k2, k3⟩ := vx_keep h0 e1 hS hA hf hL hF
    obtain ⟨t2, a1, b1⟩ := kk u t T'.heap (locs ++ L) e1.symm (by rw [← e2]; exact X'.warmed.alike) hp hb k1 k2 k3 T' rfl X'
    exact ⟨t2, st t2 a1, b1⟩
  · obtain ⟨k1, k2, k3⟩ := vx_keep h0 e1 hS hAX hf hL hF
    obtain ⟨t2, a1, b1⟩ := kx E ce q u t T'.heap (locs ++ L) e1.symm (by rw [← e2]; exact X'.warmed.alike) hp hb k1 k2 k3 (by rw [e1]; exact hce) hcv hcl T' rfl X'
    exact ⟨t2, st.trans a1, b1⟩
/-- caught by the row x of this method's table; the rows ahead don't take it -/
theorem vx_catch {own name : String} {E : String} {ce : Cell} {q : Addr} (hown : s.vm.findClass own = some m.cls) (pre : List ExceptionTableEntry) (x : ExceptionTableEntry) (suf : List ExceptionTableEntry) (hsplit : c.exceptionTable.toList = pre ++ x :: suf)
    (hpass : ∀ z ∈ pre, covers z pc = false ∨ (z.catchType ≠ 0 ∧ ∃ nm : String, (Cond.classLink own z.catchType nm).before args s = true ∧ va_Nc E nm s)) (hx : covers x pc = true) (h0 : x.catchType ≠ 0)
    (hlink : (Cond.classLink own x.catchType name).before args s = true) (hcast : (Cond.castable E name).before args s = true) (hcell : H[q]? = some ce) (hv : ce.vm = .none) (hcl : s.vm.findClass E = some ce.cls)
    (kk : W p l e R s m args below meth c H locs cells slots Q (F0 m x.handlerPc ls [.ref q])) : vx_W p l e R s m args below meth c H locs cells slots Q (F0 m pc ls rest) q := by
  intro T hT X
  have hpl : e.platform.magicAccessors = ({} : Platform).magicAccessors := by rw [X.admits.platform]
  obtain ⟨c3, c4, hc3, hc4, hasg⟩ := Cond.castable_spec hcast
  cases Option.some.inj (hc3.symm.trans hcl)
  obtain ⟨c5, hc5, hcl5⟩ := Cond.classLink_spec hown hlink e.platform hpl
  cases Option.some.inj (hc4.symm.trans hc5)
  obtain ⟨vm', X', st⟩ := X.thenCaughtThrough q (g := F0 m pc ls rest) rfl (Steps.refl _) (by rw [hT]; exact hcell) (by rw [hv]; rfl) (by obtain ⟨k9, h9, -⟩ := Vm.findClass_spec hcl; exact ⟨k9, h9⟩) pre x suf hsplit
    (fun z hz => by
      rcases hpass z hz with h | ⟨hz0, nm, hl1, hn1⟩
      · exact Or.inl h
      · obtain ⟨c6, hc6, hcl6⟩ := Cond.classLink_spec hown hl1 e.platform hpl
        obtain ⟨a8, b8, h1, h2, h3⟩ := hn1
        cases Option.some.inj (h1.symm.trans hcl)
        cases Option.some.inj (h2.symm.trans hc6)
        exact Or.inr ⟨hz0, _, hcl6, h3⟩) hx (Or.inr ⟨h0, c4, hcl5, hasg⟩)
  obtain ⟨t, a1, b1⟩ := kk (T.setVm vm') hT X'
  exact ⟨t, st.trans a1, b1⟩
end Rows
section Ends
variable {p : Program} {l : Launch} {e : Env} {R : Room} {s : State} {m : MethodId} {args : Array Value} {below : List Frame} {meth : Method} {c : Code} {H : Heap} {locs : List Loc} {cells slots : Nat} {Q : State → Prop}
variable {mc ms : Nat} {free : Addr → Prop} {A0 A1 : Nat → Prop} {H0 : Heap} {a : Array Value} {ls : Array Slot} {st0 rest : List Value}
variable {Qc : Array Value → State → Outcome → State → Prop} {XC : String → State → State → Prop}
/-- what a body that may throw owes at its end -/
def vx_MQ (below : List Frame) (Qc : Array Value → State → Outcome → State → Prop) (XC : String → State → State → Prop) (a : Array Value) (s : State) (mc ms : Nat) (free : Addr → Prop) : State → Prop := fun t =>
  ∃ o, t.status = .running ∧ Ended t below o ∧ vx_Q Qc XC mc ms free a s o t
theorem vx_ret {g : JFrame} {mc ms : Nat} (k : W p l e R s m args below meth c H locs cells slots (MQ below Qc args s mc ms free) g) : W p l e R s m args below meth c H locs cells slots (vx_MQ below Qc XC args s mc ms free) g := by
  intro T hT X
  obtain ⟨t, a1, o, b1, b2, b3, b4⟩ := k T hT X
  exact ⟨t, a1, o, b1, b2, Or.inl ⟨b3, b4⟩⟩
/-- not caught here: it goes on to the caller -/
theorem vx_widen {g : JFrame} {q : Addr} {k n : Nat} (h1 : cells ≤ k) (h2 : slots ≤ n) (kk : vx_W p l e R s m args below meth c H locs k n Q g q) : vx_W p l e R s m args below meth c H locs cells slots Q g q := fun T hT X => kk T hT (stand_widen X h1 h2)
theorem vx_out {pc : Nat} {E : String} {ce : Cell} {q : Addr} {mc ms : Nat} (hout : ∀ x ∈ c.exceptionTable.toList, covers x pc = false) (hlocks : meth.locks = false) (hcell : H[q]? = some ce) (hv : ce.vm = .none) (hcl : s.vm.findClass E = some ce.cls)
    (hx : ∀ t : State, t.heap = H → s.vm.Alike t.vm → XC E s t) (hf : ∀ z ∈ locs, free z.base) (hc : cells ≤ mc) (hs : slots ≤ ms) :
    vx_W p l e R s m args below meth c H locs cells slots (vx_MQ below Qc XC args s mc ms free) (F0 m pc ls rest) q := by
  intro T hT X
  obtain ⟨st1, hrun, hend, hW, hsm⟩ := X.leaveThrown q (g := F0 m pc ls rest) rfl rfl rfl hout hlocks
  have hcell9 : (T.setFrames (.throwing q :: below)).heap[q]? = some ce := by
    show T.heap[q]? = some ce
    rw [hT]; exact hcell
  exact ⟨_, st1, .threw q, hrun, hend, Or.inr ⟨q, rfl, E, ce, locs, hx _ hT hW.alike, hcell9, hv, hcl, hW, hsm.mono hc hs, hf⟩⟩
theorem vx_frame {U : State} {k n : Nat} (h : s.sameButNew ({ U with vm := s.vm } : State) locs k n) : s.heap.size ≤ U.heap.size ∧ ∀ q : Nat, q < s.heap.size → (∀ z ∈ locs, z.base ≠ q) → U.heap[q]? = s.heap[q]? := by
  obtain ⟨-, h2, -, -, -, h6⟩ := h
  refine ⟨h2, fun q hq hz => ?_⟩
  obtain ⟨c9, e1, e2, e3, e4⟩ := h6 q _ (Array.getElem?_eq_getElem hq)
  have hs : c9.slots = (s.heap[q]).slots := Array.ext_getElem? fun i => e4 i fun hm => hz _ hm rfl
  have h9 : c9 = s.heap[q] := by
    rw [hs] at e2
    exact e2
  have e5 : U.heap[q]? = some c9 := e1
  rw [e5, h9, Array.getElem?_eq_getElem hq]
/-- the words of a throw but the four that speak of the heap -/
def vx_no (w : Cond) : Bool := decide (w ≠ .isRef (.static Bundle.tN "UNASSIGNED_STACK" Bundle.steD)) && decide (w ≠ .isRef (.static Bundle.tN "SUPPRESSED_SENTINEL" Bundle.listD)) && decide (w ≠ .laysStatic Bundle.tN "UNASSIGNED_STACK" Bundle.steD) && decide (w ≠ .laysStatic Bundle.tN "SUPPRESSED_SENTINEL" Bundle.listD)
def vx_at0 (own : String) (ic : Nat) (X : String) (names : List String) : List Cond := (Bundle.ownAtoms0 own ic X names).filter vx_no
def vx_atS (own : String) (ic : Nat) (X : String) (names : List String) : List Cond := (Bundle.ownAtoms own ic X names).filter vx_no
/-- a word that the tables alone decide, or a good one -/
def vx_ot (w : Cond) : Bool := w.onTables || goodWord w
theorem vx_ot_at {args a' : Array Value} {s U : State} {w : Cond} (hW : s.WarmedH U.vm) (hvm : s.vm = U.vm) (hg : vx_ot w = true) (h : w.before args s = true) : w.before a' U = true := by
  simp only [vx_ot, Bool.or_eq_true] at hg
  rcases hg with hg | hg
  · exact va_tabs hg hvm h
  · exact word_at hW (good_of_word hg) h
/-- a list's words: the good ones out of the method's own list, the others by premises of their own -/
theorem vx_hat {args : Array Value} {s : State} {L B : List Cond} (h1 : ∀ w ∈ L.filter goodWord, w.before args s = true) (h2 : ∀ w ∈ L.filter (fun w => !goodWord w), w ∈ B) (h3 : ∀ w ∈ B, w.before args s = true) : ∀ w ∈ L, w.before args s = true := by
  intro w hw
  by_cases g : goodWord w = true
  · exact h1 w (List.mem_filter.mpr ⟨hw, g⟩)
  · refine h3 w (h2 w (List.mem_filter.mpr ⟨hw, ?_⟩))
    show (!goodWord w) = true
    cases hgw : goodWord w
    · rfl
    · exact absurd hgw g
theorem vx_c {args : Array Value} {s : State} {w : Cond} {B : List Cond} (h : w.before args s = true) (t : ∀ w ∈ B, w.before args s = true) : ∀ w' ∈ w :: B, w'.before args s = true := fun w' h' => (List.mem_cons.mp h').elim (fun e => by rw [e]; exact h) (t w')
theorem vx_n {args : Array Value} {s : State} : ∀ w ∈ ([] : List Cond), w.before args s = true := fun _ h => nomatch h
theorem vx_own {args : Array Value} {s : State} {L : List Cond} (h1 : ∀ w ∈ L.filter vx_no, w.before args s = true)
    (hU : (Cond.isRef (.static Bundle.tN "UNASSIGNED_STACK" Bundle.steD)).before args s = true) (hN : (Cond.isRef (.static Bundle.tN "SUPPRESSED_SENTINEL" Bundle.listD)).before args s = true)
    (lU : (Cond.laysStatic Bundle.tN "UNASSIGNED_STACK" Bundle.steD).before args s = true) (lN : (Cond.laysStatic Bundle.tN "SUPPRESSED_SENTINEL" Bundle.listD).before args s = true) : ∀ w ∈ L, w.before args s = true := by
  intro w hw
  by_cases e1 : w = .isRef (.static Bundle.tN "UNASSIGNED_STACK" Bundle.steD)
  · rw [e1]; exact hU
  · by_cases e2 : w = .isRef (.static Bundle.tN "SUPPRESSED_SENTINEL" Bundle.listD)
    · rw [e2]; exact hN
    · by_cases e3 : w = .laysStatic Bundle.tN "UNASSIGNED_STACK" Bundle.steD
      · rw [e3]; exact lU
      · by_cases e4 : w = .laysStatic Bundle.tN "SUPPRESSED_SENTINEL" Bundle.listD
        · rw [e4]; exact lN
        · exact h1 w (List.mem_filter.mpr ⟨hw, by unfold vx_no; rw [decide_eq_true e1, decide_eq_true e2, decide_eq_true e3, decide_eq_true e4]; rfl⟩)
/-- where a static field lies, its class's statics cell in H -/
def vx_L (C n d : String) (A : Nat → Prop) (U : State) (H : Heap) : Prop := ∃ (c : ClassId) (k : Class) (i : Nat) (f : Field) (a : Nat) (cell : Cell), U.vm.findClass C = some c ∧ U.fieldFound? C n d = some (c, k, i, f) ∧ f.isStatic = true ∧ k.statics = some a ∧ H[a]? = some cell ∧ cell.vm.isStatics = true ∧ cell.cls = c ∧ f.slot < cell.slots.size ∧ k.staticTypes[f.slot]? = some f.type ∧ ¬ A a
theorem vx_L.moved {C n d : String} {A : Nat → Prop} {u U : State} {H : Heap} (hvm : u.vm.Alike U.vm) (h : vx_L C n d A u H) : vx_L C n d A U H := by
  obtain ⟨c, k, i, f, a, cell, h1, h2, h3, h4, h5, h6, h7, h8, h9, h10⟩ := h
  obtain ⟨k', hi', he⟩ := State.fieldFound?_setVm hvm h2
  exact ⟨c, k', i, f, a, cell, by rw [hvm.findClass]; exact h1, hi', h3, by rw [he]; exact h4, h5, h6, h7, h8, by rw [he]; exact h9, h10⟩
theorem vx_L.kept {C n d : String} {A : Nat → Prop} {U : State} {H H1 : Heap} (h : vx_L C n d A U H) (hq : ∀ a : Nat, a < H.size → ¬ A a → H1[a]? = H[a]?) : vx_L C n d A U H1 := by
  obtain ⟨c, k, i, f, a, cell, h1, h2, h3, h4, h5, h6, h7, h8, h9, h10⟩ := h
  exact ⟨c, k, i, f, a, cell, h1, h2, h3, h4, by rw [hq a (Array.getElem?_eq_some_iff.mp h5).1 h10]; exact h5, h6, h7, h8, h9, h10⟩
theorem vx_L.narrow {C n d : String} {A B : Nat → Prop} {U : State} {H : Heap} (h : vx_L C n d A U H) (hAB : ∀ q, B q → A q) : vx_L C n d B U H := by
  obtain ⟨c, k, i, f, a, cell, h1, h2, h3, h4, h5, h6, h7, h8, h9, h10⟩ := h
  exact ⟨c, k, i, f, a, cell, h1, h2, h3, h4, h5, h6, h7, h8, h9, fun z => h10 (hAB _ z)⟩
theorem vx_L.word {C n d : String} {A : Nat → Prop} {s : State} {args : Array Value} (h : vx_L C n d A s s.heap) : (Cond.laysStatic C n d).before args s = true := by
  obtain ⟨c, k, i, f, a, cell, h1, h2, h3, h4, h5, h6, h7, h8, h9, -⟩ := h
  show (Cond.laysStatic C n d).holds args s none s [] = true
  exact Cond.laysStatic_of h1 h2 h3 h4 h5 h6 h7 h8 h9
/-- .. and what it holds: null or some reference -/
def vx_Zq (C n d : String) (A : Nat → Prop) (U : State) (H : Heap) : Prop := va_Zq C n d A U H ∧ vx_L C n d A U H
theorem vx_Zq.moved {C n d : String} {A : Nat → Prop} {u U : State} {H : Heap} (hvm : u.vm.Alike U.vm) (h : vx_Zq C n d A u H) : vx_Zq C n d A U H := ⟨va_Zq.moved hvm h.1, vx_L.moved hvm h.2⟩
theorem vx_Zq.kept {C n d : String} {A : Nat → Prop} {U : State} {H H1 : Heap} (h : vx_Zq C n d A U H) (hq : ∀ a : Nat, a < H.size → ¬ A a → H1[a]? = H[a]?) : vx_Zq C n d A U H1 := ⟨va_Zq.kept h.1 hq, vx_L.kept h.2 hq⟩
theorem vx_Zq.narrow {C n d : String} {A B : Nat → Prop} {U : State} {H : Heap} (h : vx_Zq C n d A U H) (hAB : ∀ q, B q → A q) : vx_Zq C n d B U H := ⟨va_Zq.narrow h.1 hAB, vx_L.narrow h.2 hAB⟩
theorem vx_Zqof {args : Array Value} {s : State} {C n d : String} {A : Nat → Prop} (hl : (Cond.laysStatic C n d).before args s = true) (hini : (Cond.initialized C).before args s = true) (h : (Cond.isRef (.static C n d)).before args s = true) (hA : ∀ a : Nat, a < s.heap.size → ¬ A a) : vx_Zq C n d A s s.heap := by
  refine ⟨va_Zqof hl hini h hA, ?_⟩
  obtain ⟨c, k, i, f, a, cell, h1, h2, h3, h4, h5, h6, h7, h8, h9⟩ := Cond.laysStatic_spec hl
  exact ⟨c, k, i, f, a, cell, h1, h2, h3, h4, h5, h6, h7, h8, h9, hA a (Array.getElem?_eq_some_iff.mp h5).1⟩
theorem vx_isRef {C n d : String} {v : Value} {A : Nat → Prop} {s : State} {args : Array Value} (h : va_Z C n d v A s s.heap) (hv : v.isRef = true) : (Cond.isRef (.static C n d)).before args s = true := by
  obtain ⟨cf, kf, fi, f, a, cell, h1, h2, h3, h4, h5, h6, h7, -⟩ := h
  have he : (Term.static C n d).eval args s none [] s = some v := by
    simp [Term.eval, State.fieldNamed?, h1, h2, h4, h5, h6, h7]
  simp only [Cond.before, Cond.holds, Cond.value, he]
  cases v <;> simp_all [Value.isRef]
theorem vx_isRefq {C n d : String} {A : Nat → Prop} {s : State} {args : Array Value} (h : va_Zq C n d A s s.heap) : (Cond.isRef (.static C n d)).before args s = true := by
  rcases h with h | ⟨t, h⟩
  · exact vx_isRef h rfl
  · exact vx_isRef h rfl
/-- the same frame, seen from here: as if the method were called anew in this heap -/
theorem vx_rebase {T : State} (X : Stand p l e R s m args below meth c T locs cells slots) {R' : Room} (hf : R'.frames ≤ R.frames) (hl : R'.locals ≤ R.locals) (hc : cells + R'.cells ≤ R.cells) (hs : slots + R'.slots ≤ R.slots) :
    Stand p l e R' ((T.setVm s.vm).setFrames (.invoking m args :: below)) m args below meth c T [] 0 0 := by
  have htop : (T.setVm s.vm).topJava?.isSome := X.here.top
  have hF : ((T.setVm s.vm).setFrames (.invoking m args :: below)).frames = .invoking m args :: below := State.frames_setFrames _ (State.cur_lt_of_top htop)
  obtain ⟨g₀, hg0⟩ := Option.isSome_iff_exists.mp htop
  obtain ⟨r, hr⟩ := State.topJava?_eq_some.mp hg0
  have hl9 : e.platform.stackLimits (T.setVm s.vm).me = e.platform.stackLimits s.me := X.limits
  have hb9 : (T.setVm s.vm).me.stackBytes = s.me.stackBytes := X.bytes
  refine ⟨X.admits, X.cas, X.clock, hF, ?_, X.hears, X.method, X.code, X.here, X.tail, X.warmed, ?_, ?_, ?_⟩
  · have h := X.room
    have hU : ((T.setVm s.vm).setFrames (.invoking m args :: below)).localsInUse = s.localsInUse := by
      rw [State.localsInUse_invoking hF (meth := meth) (c := c) X.method X.code, State.localsInUse_invoking X.frames X.method X.code]
    simp only [State.hasRoom, Bool.and_eq_true, decide_eq_true_eq] at h ⊢
    obtain ⟨⟨⟨⟨h1, h2, h3, h4, h5, h6⟩, h7⟩, h8⟩, h9⟩ := h
    rw [X.frames, List.length_cons] at h2 h3
    have q1 := X.heapSize
    have q2 := X.used
    simp only [hF, hU, List.length_cons, State.stackLimits_setFrames, State.stackBytes_setFrames, hl9, hb9]
    refine ⟨⟨⟨⟨by omega, by omega, by omega, by omega, by omega, h6⟩, ?_⟩, ?_⟩, X.book⟩
    · show T.heap.size + R'.cells ≤ e.platform.maxCells
      omega
    · show T.slotsUsed + R'.slots ≤ e.platform.maxSlots
      omega
  · rw [State.stackLimits_setFrames]; rfl
  · rw [State.stackBytes_setFrames]; rfl
  · refine ⟨?_, Nat.le_refl _, Nat.le_refl _, ?_, ?_, fun a c9 h9 => ⟨c9, h9, rfl, rfl, fun _ _ => rfl⟩⟩
    · obtain ⟨t, ht, -⟩ := State.frames_cons hr
      show T.setVm s.vm = { ((T.setVm s.vm).setFrames (.invoking m args :: below)).setFrames (T.setVm s.vm).frames with heap := T.heap, slotsUsed := T.slotsUsed }
      rw [State.setFrames_setFrames, State.setFrames_self ht]
      rfl
    · show T.slotsUsed = T.slotsUsed + ((T.heap.toList.drop T.heap.size).map (·.slots.size)).sum
      rw [List.drop_eq_nil_of_le (Nat.le_of_eq Array.length_toList)]
      rfl
    · show ((T.heap.toList.drop T.heap.size).map (·.slots.size)).sum ≤ 0
      rw [List.drop_eq_nil_of_le (Nat.le_of_eq Array.length_toList)]
      exact Nat.le_refl _
/-- 'throw new E()': new; dup; invokespecial; athrow -/
theorem vx_throw0 {cc : ByteArray} {pc : Nat} (hexec : p.tables.exec = Jvm.exec) (hb : c.code = cc) (hl : l.stackTraces = false) {own cls : String} {names : List String} {ik ic mc ms : Nat} {A : Nat → Prop}
    (hown : s.vm.findClass own = some m.cls) (hcls : Bundle.fit cls = true) (hnames : ∀ n ∈ names, Bundle.fit n = true)
    (hk : (Cond.classLink own ik cls).before args s = true) (hini : (Cond.initialized cls).before args s = true) (hat : ∀ w ∈ vx_at0 own ic cls names, w.before args s = true)
    (hgood : ∀ w ∈ Cond.classLink own ik cls :: Cond.initialized cls :: vx_at0 own ic cls names, vx_ot w = true)
    (hU : vx_Zq Bundle.tN "UNASSIGNED_STACK" Bundle.steD A s s.heap) (hN : vx_Zq Bundle.tN "SUPPRESSED_SENTINEL" Bundle.listD A s s.heap) (hS : va_S A s.heap H locs) (hsize : ls.size = c.maxLocals)
    (d0 : decode cc pc = .ok (.new ik, 3)) (d3 : decode cc (pc + 3) = .ok (.dup, 1)) (d4 : decode cc (pc + 4) = .ok (.invokespecial ic, 3)) (d7 : decode cc (pc + 7) = .ok (.athrow, 1))
    (hout : ∀ x ∈ c.exceptionTable.toList, covers x (pc + 7) = false)
    (hRframes : names.length + 3 < R.frames) (hRlocals : (rest.map fun v => v.category).sum + (13 * (names.length + 1) + 42) ≤ R.locals) (hRcells : cells + 1 ≤ R.cells) (hRslots : slots + 6 ≤ R.slots) (hlocks : meth.locks = false)
    (hx : ∀ t : State, s.vm.Alike t.vm → H.size ≤ t.heap.size → (∀ q : Nat, q < H.size → t.heap[q]? = H[q]?) → XC cls s t)
    (hf : ∀ z ∈ locs, free z.base) (hc : cells + 1 ≤ mc) (hs : slots + 6 ≤ ms) :
    W p l e R s m args below meth c H locs cells slots (vx_MQ below Qc XC args s mc ms free) (F0 m pc ls rest) := by
  intro T hT X
  have htr : e.platform.stackTraces = false := (show e.platform.stackTraces = l.stackTraces by rw [X.admits.platform]).trans hl
  have Y := vx_rebase X (R' := { frames := R.frames, locals := R.locals, cells := 1, slots := 6 }) (Nat.le_refl _) (Nat.le_refl _) hRcells hRslots
  obtain ⟨s', hA⟩ : ∃ z, z = (T.setVm s.vm).setFrames (.invoking m args :: below) := ⟨_, rfl⟩
  rw [← hA] at Y
  have hvm : s'.vm = s.vm := by rw [hA]; rfl
  have hhp : s'.heap = H := by rw [hA]; exact hT
  have hW0 : s.WarmedH s'.vm := by rw [hvm]; exact State.WarmedH.refl s
  have hat' : ∀ w ∈ vx_at0 own ic cls names, w.before args s' = true := fun w hw => vx_ot_at hW0 hvm.symm (hgood w (List.mem_cons_of_mem _ (List.mem_cons_of_mem _ hw))) (hat w hw)
  have hk' : (Cond.classLink own ik cls).before args s' = true := vx_ot_at hW0 hvm.symm (hgood _ List.mem_cons_self) hk
  have hini' : (Cond.initialized cls).before args s' = true := vx_ot_at hW0 hvm.symm (hgood _ (List.mem_cons_of_mem _ List.mem_cons_self)) hini
  have hU' : vx_Zq Bundle.tN "UNASSIGNED_STACK" Bundle.steD A s' s'.heap := by rw [hhp]; exact vx_Zq.moved hW0.alike (hU.kept hS.2.1)
  have hN' : vx_Zq Bundle.tN "SUPPRESSED_SENTINEL" Bundle.listD A s' s'.heap := by rw [hhp]; exact vx_Zq.moved hW0.alike (hN.kept hS.2.1)
  have h : ∀ w ∈ Bundle.ownAtoms0 own ic cls names, w.before args s' = true := vx_own hat' (vx_isRefq hU'.1) (vx_isRefq hN'.1) hU'.2.word hN'.2.word
  have hown' : s'.vm.findClass own = some m.cls := by rw [hvm]; exact hown
  have hins : (Cond.instantiable cls 6).before args s' = true := h _ (by simp [Bundle.ownAtoms0])
  obtain ⟨vm₁, cX, kX, hfX, hkX, -, -, X₁, st1⟩ := Y.newCold hexec (own := own) (C := cls) (index := ik) (n := 6) hown' hk' hins hini'
    (g := F0 m pc ls rest) rfl (by rw [hb]; exact d0) (Nat.le_refl _) (Nat.le_refl _)
  generalize hT1 : (T.setVm vm₁).pushCell { cls := cX, slots := kX.instanceTypes.map defaultValue, vm := .none } = T1 at X₁ st1
  have hcat : (Value.ref T.heap.size).category = 1 := rfl
  have hcellA : T1.heap[T.heap.size]? = some (freshCell cX kX) := by rw [← hT1]; exact State.heap_pushCell_size _ _
  have d3' : decode c.code (pc + 3) = .ok (.dup, 1) := by rw [hb]; exact d3
  obtain ⟨U, hsteps, hrun, hend, hW, hsame, ce, hce, hO⟩ := X₁.ctorThrow0 hexec htr (own := own) (cls := cls) (names := names) (ic := ic) hown' hcls hnames h (fun x hx => nomatch hx) hfX hkX hcellA (by rw [hhp, hT]; exact Nat.le_refl _)
    (g := { method := m, pc := pc + 4, locals := ls, stack := .ref T.heap.size :: .ref T.heap.size :: rest, locked := none }) rfl hsize rfl rfl (rest := rest) rfl
    (by rw [hb]; exact d4) (by rw [hb]; exact d7) hout hRframes (by simp only [List.map_cons, List.sum_cons, hcat]; omega) hlocks
  obtain ⟨f1, f2⟩ := vx_frame hsame
  rw [hhp] at f1 f2
  have hWs : s.WarmedH U.vm := State.WarmedH.trans hW0 hW
  have hcl : s.vm.findClass cls = some ce.cls := by
    have h9 := hO.cls
    rw [hvm] at h9
    exact h9
  have hall : s.sameButNew ({ U with vm := s.vm } : State) locs mc ms := by
    subst hA
    obtain ⟨e1, e2⟩ := hsame
    rw [State.setFrames_setFrames] at e1
    have h2 : (T.setVm s.vm).sameButNew ({ U with vm := s.vm } : State) [] (0 + 1) (0 + 6) := ⟨e1, e2⟩
    have h3 := X.same.trans h2
    rw [List.append_nil] at h3
    exact h3.mono hc hs
  refine ⟨U, ?_, .threw T.heap.size, hrun, hend, Or.inr ⟨T.heap.size, rfl, cls, ce, locs, hx U hWs.alike f1 (fun q hq => f2 q hq (fun z hz => nomatch hz)), hce, hO.vm, hcl, hWs, hall, hf⟩⟩
  refine st1 _ ?_
  show Steps p.tables e below (T1.setTop { method := m, pc := pc + 3, locals := ls, stack := .ref T.heap.size :: rest, locked := none }) _
  jvm_step X₁.here [X₁.here.top, hexec, d3', Value.category]
  exact hsteps
/-- 'throw new E("text")': new; dup; ldc; invokespecial; athrow -/
theorem vx_throwS {cc : ByteArray} {pc : Nat} (hexec : p.tables.exec = Jvm.exec) (hb : c.code = cc) (hl : l.stackTraces = false) {own cls text : String} {names : List String} {ik is ic mc ms sa : Nat} {A : Nat → Prop}
    (hown : s.vm.findClass own = some m.cls) (hcls : Bundle.fit cls = true) (hnames : ∀ n ∈ names, Bundle.fit n = true)
    (hk : (Cond.classLink own ik cls).before args s = true) (hini : (Cond.initialized cls).before args s = true) (hstr : vk_R own is text sa s) (hat : ∀ w ∈ vx_atS own ic cls names, w.before args s = true)
    (hgood : ∀ w ∈ Cond.classLink own ik cls :: Cond.initialized cls :: vx_atS own ic cls names, vx_ot w = true)
    (hU : vx_Zq Bundle.tN "UNASSIGNED_STACK" Bundle.steD A s s.heap) (hN : vx_Zq Bundle.tN "SUPPRESSED_SENTINEL" Bundle.listD A s s.heap) (hS : va_S A s.heap H locs) (hsize : ls.size = c.maxLocals)
    (d0 : decode cc pc = .ok (.new ik, 3)) (d3 : decode cc (pc + 3) = .ok (.dup, 1)) (d4 : decode cc (pc + 4) = .ok (.ldc is, 2)) (d6 : decode cc (pc + 6) = .ok (.invokespecial ic, 3)) (d9 : decode cc (pc + 9) = .ok (.athrow, 1))
    (hout : ∀ x ∈ c.exceptionTable.toList, covers x (pc + 9) = false)
    (hRframes : names.length + 3 < R.frames) (hRlocals : (rest.map fun v => v.category).sum + (13 * (names.length + 1) + 43) ≤ R.locals) (hRcells : cells + 1 ≤ R.cells) (hRslots : slots + 6 ≤ R.slots) (hlocks : meth.locks = false)
    (hx : ∀ t : State, s.vm.Alike t.vm → H.size ≤ t.heap.size → (∀ q : Nat, q < H.size → t.heap[q]? = H[q]?) → XC cls s t)
    (hf : ∀ z ∈ locs, free z.base) (hc : cells + 1 ≤ mc) (hs : slots + 6 ≤ ms) :
    W p l e R s m args below meth c H locs cells slots (vx_MQ below Qc XC args s mc ms free) (F0 m pc ls rest) := by
  intro T hT X
  have htr : e.platform.stackTraces = false := (show e.platform.stackTraces = l.stackTraces by rw [X.admits.platform]).trans hl
  have Y := vx_rebase X (R' := { frames := R.frames, locals := R.locals, cells := 1, slots := 6 }) (Nat.le_refl _) (Nat.le_refl _) hRcells hRslots
  obtain ⟨s', hA⟩ : ∃ z, z = (T.setVm s.vm).setFrames (.invoking m args :: below) := ⟨_, rfl⟩
  rw [← hA] at Y
  have hvm : s'.vm = s.vm := by rw [hA]; rfl
  have hhp : s'.heap = H := by rw [hA]; exact hT
  have hW0 : s.WarmedH s'.vm := by rw [hvm]; exact State.WarmedH.refl s
  have hat' : ∀ w ∈ vx_atS own ic cls names, w.before args s' = true := fun w hw => vx_ot_at hW0 hvm.symm (hgood w (List.mem_cons_of_mem _ (List.mem_cons_of_mem _ hw))) (hat w hw)
  have hk' : (Cond.classLink own ik cls).before args s' = true := vx_ot_at hW0 hvm.symm (hgood _ List.mem_cons_self) hk
  have hini' : (Cond.initialized cls).before args s' = true := vx_ot_at hW0 hvm.symm (hgood _ (List.mem_cons_of_mem _ List.mem_cons_self)) hini
  have hU' : vx_Zq Bundle.tN "UNASSIGNED_STACK" Bundle.steD A s' s'.heap := by rw [hhp]; exact vx_Zq.moved hW0.alike (hU.kept hS.2.1)
  have hN' : vx_Zq Bundle.tN "SUPPRESSED_SENTINEL" Bundle.listD A s' s'.heap := by rw [hhp]; exact vx_Zq.moved hW0.alike (hN.kept hS.2.1)
  have h : ∀ w ∈ Bundle.ownAtoms own ic cls names, w.before args s' = true := vx_own hat' (vx_isRefq hU'.1) (vx_isRefq hN'.1) hU'.2.word hN'.2.word
  have hown' : s'.vm.findClass own = some m.cls := by rw [hvm]; exact hown
  have hins : (Cond.instantiable cls 6).before args s' = true := h _ (by simp [Bundle.ownAtoms])
  obtain ⟨vm₁, cX, kX, hfX, hkX, -, -, X₁, st1⟩ := Y.newCold hexec (own := own) (C := cls) (index := ik) (n := 6) hown' hk' hins hini'
    (g := F0 m pc ls rest) rfl (by rw [hb]; exact d0) (Nat.le_refl _) (Nat.le_refl _)
  generalize hT1 : (T.setVm vm₁).pushCell { cls := cX, slots := kX.instanceTypes.map defaultValue, vm := .none } = T1 at X₁ st1
  have hcat : (Value.ref T.heap.size).category = 1 := rfl
  have hcellA : T1.heap[T.heap.size]? = some (freshCell cX kX) := by rw [← hT1]; exact State.heap_pushCell_size _ _
  have d3' : decode c.code (pc + 3) = .ok (.dup, 1) := by rw [hb]; exact d3
  have d4' : decode c.code (pc + 4) = .ok (.ldc is, 2) := by rw [hb]; exact d4
  have hstr' : vk_R own is text sa s' := vk_R.warm hW0 hstr
  obtain ⟨U, hsteps, hrun, hend, hW, hsame, ce, hce, hO⟩ := X₁.ctorThrowS hexec htr (own := own) (cls := cls) (names := names) (ic := ic) hown' hcls hnames h (fun x hx => nomatch hx) hfX hkX hcellA (by rw [hhp, hT]; exact Nat.le_refl _) (msg := .ref sa) rfl
    (g := { method := m, pc := pc + 6, locals := ls, stack := .ref sa :: .ref T.heap.size :: .ref T.heap.size :: rest, locked := none }) rfl hsize rfl rfl (rest := rest) rfl
    (by rw [hb]; exact d6) (by rw [hb]; exact d9) hout hRframes (by simp only [List.map_cons, List.sum_cons, hcat]; omega) hlocks
  obtain ⟨f1, f2⟩ := vx_frame hsame
  rw [hhp] at f1 f2
  have hWs : s.WarmedH U.vm := State.WarmedH.trans hW0 hW
  have hcl : s.vm.findClass cls = some ce.cls := by
    have h9 := hO.cls
    rw [hvm] at h9
    exact h9
  have hall : s.sameButNew ({ U with vm := s.vm } : State) locs mc ms := by
    subst hA
    obtain ⟨e1, e2⟩ := hsame
    rw [State.setFrames_setFrames] at e1
    have h2 : (T.setVm s.vm).sameButNew ({ U with vm := s.vm } : State) [] (0 + 1) (0 + 6) := ⟨e1, e2⟩
    have h3 := X.same.trans h2
    rw [List.append_nil] at h3
    exact h3.mono hc hs
  refine ⟨U, ?_, .threw T.heap.size, hrun, hend, Or.inr ⟨T.heap.size, rfl, cls, ce, locs, hx U hWs.alike f1 (fun q hq => f2 q hq (fun z hz => nomatch hz)), hce, hO.vm, hcl, hWs, hall, hf⟩⟩
  refine st1 _ ?_
  show Steps p.tables e below (T1.setTop { method := m, pc := pc + 3, locals := ls, stack := .ref T.heap.size :: rest, locked := none }) _
  jvm_step X₁.here [X₁.here.top, hexec, d3', Value.category]
  exact X₁.ldcString hexec (own := own) (text := text) (index := is) (a := sa) hown' hstr'.1 hstr'.2
    (g := { method := m, pc := pc + 4, locals := ls, stack := .ref T.heap.size :: .ref T.heap.size :: rest, locked := none }) rfl d4' _ hsteps
/-- 'throw new E("text")', the text by a wide index -/
theorem vx_throwSW {cc : ByteArray} {pc : Nat} (hexec : p.tables.exec = Jvm.exec) (hb : c.code = cc) (hl : l.stackTraces = false) {own cls text : String} {names : List String} {ik is ic mc ms sa : Nat} {A : Nat → Prop}
    (hown : s.vm.findClass own = some m.cls) (hcls : Bundle.fit cls = true) (hnames : ∀ n ∈ names, Bundle.fit n = true)
    (hk : (Cond.classLink own ik cls).before args s = true) (hini : (Cond.initialized cls).before args s = true) (hstr : vk_R own is text sa s) (hat : ∀ w ∈ vx_atS own ic cls names, w.before args s = true)
    (hgood : ∀ w ∈ Cond.classLink own ik cls :: Cond.initialized cls :: vx_atS own ic cls names, vx_ot w = true)
    (hU : vx_Zq Bundle.tN "UNASSIGNED_STACK" Bundle.steD A s s.heap) (hN : vx_Zq Bundle.tN "SUPPRESSED_SENTINEL" Bundle.listD A s s.heap) (hS : va_S A s.heap H locs) (hsize : ls.size = c.maxLocals)
    (d0 : decode cc pc = .ok (.new ik, 3)) (d3 : decode cc (pc + 3) = .ok (.dup, 1)) (d4 : decode cc (pc + 4) = .ok (.ldc_w is, 3)) (d7 : decode cc (pc + 7) = .ok (.invokespecial ic, 3)) (d10 : decode cc (pc + 10) = .ok (.athrow, 1))
    (hout : ∀ x ∈ c.exceptionTable.toList, covers x (pc + 10) = false)
    (hRframes : names.length + 3 < R.frames) (hRlocals : (rest.map fun v => v.category).sum + (13 * (names.length + 1) + 43) ≤ R.locals) (hRcells : cells + 1 ≤ R.cells) (hRslots : slots + 6 ≤ R.slots) (hlocks : meth.locks = false)
    (hx : ∀ t : State, s.vm.Alike t.vm → H.size ≤ t.heap.size → (∀ q : Nat, q < H.size → t.heap[q]? = H[q]?) → XC cls s t)
    (hf : ∀ z ∈ locs, free z.base) (hc : cells + 1 ≤ mc) (hs : slots + 6 ≤ ms) :
    W p l e R s m args below meth c H locs cells slots (vx_MQ below Qc XC args s mc ms free) (F0 m pc ls rest) := by
  intro T hT X
  have htr : e.platform.stackTraces = false := (show e.platform.stackTraces = l.stackTraces by rw [X.admits.platform]).trans hl
  have Y := vx_rebase X (R' := { frames := R.frames, locals := R.locals, cells := 1, slots := 6 }) (Nat.le_refl _) (Nat.le_refl _) hRcells hRslots
  obtain ⟨s', hA⟩ : ∃ z, z = (T.setVm s.vm).setFrames (.invoking m args :: below) := ⟨_, rfl⟩
  rw [← hA] at Y
  have hvm : s'.vm = s.vm := by rw [hA]; rfl
  have hhp : s'.heap = H := by rw [hA]; exact hT
  have hW0 : s.WarmedH s'.vm := by rw [hvm]; exact State.WarmedH.refl s
  have hat' : ∀ w ∈ vx_atS own ic cls names, w.before args s' = true := fun w hw => vx_ot_at hW0 hvm.symm (hgood w (List.mem_cons_of_mem _ (List.mem_cons_of_mem _ hw))) (hat w hw)
  have hk' : (Cond.classLink own ik cls).before args s' = true := vx_ot_at hW0 hvm.symm (hgood _ List.mem_cons_self) hk
  have hini' : (Cond.initialized cls).before args s' = true := vx_ot_at hW0 hvm.symm (hgood _ (List.mem_cons_of_mem _ List.mem_cons_self)) hini
  have hU' : vx_Zq Bundle.tN "UNASSIGNED_STACK" Bundle.steD A s' s'.heap := by rw [hhp]; exact vx_Zq.moved hW0.alike (hU.kept hS.2.1)
  have hN' : vx_Zq Bundle.tN "SUPPRESSED_SENTINEL" Bundle.listD A s' s'.heap := by rw [hhp]; exact vx_Zq.moved hW0.alike (hN.kept hS.2.1)
  have h : ∀ w ∈ Bundle.ownAtoms own ic cls names, w.before args s' = true := vx_own hat' (vx_isRefq hU'.1) (vx_isRefq hN'.1) hU'.2.word hN'.2.word
  have hown' : s'.vm.findClass own = some m.cls := by rw [hvm]; exact hown
  have hins : (Cond.instantiable cls 6).before args s' = true := h _ (by simp [Bundle.ownAtoms])
  obtain ⟨vm₁, cX, kX, hfX, hkX, -, -, X₁, st1⟩ := Y.newCold hexec (own := own) (C := cls) (index := ik) (n := 6) hown' hk' hins hini'
    (g := F0 m pc ls rest) rfl (by rw [hb]; exact d0) (Nat.le_refl _) (Nat.le_refl _)
  generalize hT1 : (T.setVm vm₁).pushCell { cls := cX, slots := kX.instanceTypes.map defaultValue, vm := .none } = T1 at X₁ st1
  have hcat : (Value.ref T.heap.size).category = 1 := rfl
  have hcellA : T1.heap[T.heap.size]? = some (freshCell cX kX) := by rw [← hT1]; exact State.heap_pushCell_size _ _
  have d3' : decode c.code (pc + 3) = .ok (.dup, 1) := by rw [hb]; exact d3
  have d4' : decode c.code (pc + 4) = .ok (.ldc_w is, 3) := by rw [hb]; exact d4
  have hstr' : vk_R own is text sa s' := vk_R.warm hW0 hstr
  obtain ⟨U, hsteps, hrun, hend, hW, hsame, ce, hce, hO⟩ := X₁.ctorThrowS hexec htr (own := own) (cls := cls) (names := names) (ic := ic) hown' hcls hnames h (fun x hx => nomatch hx) hfX hkX hcellA (by rw [hhp, hT]; exact Nat.le_refl _) (msg := .ref sa) rfl
    (g := { method := m, pc := pc + 7, locals := ls, stack := .ref sa :: .ref T.heap.size :: .ref T.heap.size :: rest, locked := none }) rfl hsize rfl rfl (rest := rest) rfl
    (by rw [hb]; exact d7) (by rw [hb]; exact d10) hout hRframes (by simp only [List.map_cons, List.sum_cons, hcat]; omega) hlocks
  obtain ⟨f1, f2⟩ := vx_frame hsame
  rw [hhp] at f1 f2
  have hWs : s.WarmedH U.vm := State.WarmedH.trans hW0 hW
  have hcl : s.vm.findClass cls = some ce.cls := by
    have h9 := hO.cls
    rw [hvm] at h9
    exact h9
  have hall : s.sameButNew ({ U with vm := s.vm } : State) locs mc ms := by
    subst hA
    obtain ⟨e1, e2⟩ := hsame
    rw [State.setFrames_setFrames] at e1
    have h2 : (T.setVm s.vm).sameButNew ({ U with vm := s.vm } : State) [] (0 + 1) (0 + 6) := ⟨e1, e2⟩
    have h3 := X.same.trans h2
    rw [List.append_nil] at h3
    exact h3.mono hc hs
  refine ⟨U, ?_, .threw T.heap.size, hrun, hend, Or.inr ⟨T.heap.size, rfl, cls, ce, locs, hx U hWs.alike f1 (fun q hq => f2 q hq (fun z hz => nomatch hz)), hce, hO.vm, hcl, hWs, hall, hf⟩⟩
  refine st1 _ ?_
  show Steps p.tables e below (T1.setTop { method := m, pc := pc + 3, locals := ls, stack := .ref T.heap.size :: rest, locked := none }) _
  jvm_step X₁.here [X₁.here.top, hexec, d3', Value.category]
  exact X₁.ldcStringW hexec (own := own) (text := text) (index := is) (a := sa) hown' hstr'.1 hstr'.2
    (g := { method := m, pc := pc + 4, locals := ls, stack := .ref T.heap.size :: .ref T.heap.size :: rest, locked := none }) rfl d4' _ hsteps
end Ends
section Bodies
variable {l : Launch}
theorem vx_ofW {y : MethodName} {ws ws' : List Cond} {rm : Room} {Pc : Array Value → State → Prop} {Qc : Array Value → State → Outcome → State → Prop} {XC : String → State → State → Prop} {mc ms : Nat} {free : Addr → Prop} {cc : ByteArray} {maxL : Nat} {ret : Option FieldType}
    (hy : plainName y.cls = true) (hw : ws = Cond.code y cc maxL ret :: ws')
    (body : ∀ p e s m args below meth c s₁, BodyLoose p l y (headSpec ws rm) cc maxL ret e s m args below meth c s₁ → c.maxLocals = maxL → (∀ x ∈ c.exceptionTable.toList, False) → Pc args s →
      W p l e (headSpec ws rm).room s m args below meth c s.heap [] 0 0 (vx_MQ below Qc XC args s mc ms free) (entryFrame m args maxL)) : vx_Met l y ws rm Pc Qc XC mc ms free := by
  refine MetFree.of_bodyS (code := cc) (maxLocals := maxL) (ret := ret) hy ?_ ?_
  · intro args s m h hn
    obtain ⟨meth, c, h1, h2, h3, h4, h5, h6, -, -⟩ := Cond.code_spec hn (atoms_spec (ws := ws) h _ (by rw [hw]; exact List.mem_cons_self))
    exact ⟨meth, c, h1, h2, h3, h4, h5, h6⟩
  · intro p e s m args below meth c s₁ B hml hP _
    have hh0 : s₁.heap = s.heap := by rw [B.state]; rfl
    have ht : ∀ x ∈ c.exceptionTable.toList, False := by
      obtain ⟨meth9, c9, h1, h2, -, -, -, -, h7, -⟩ := Cond.code_spec B.named (atoms_spec (ws := ws) B.pre _ (by rw [hw]; exact List.mem_cons_self))
      cases Option.some.inj (h1.symm.trans B.method)
      cases Option.some.inj (h2.symm.trans (Stand.of_body B).code)
      intro x hx
      rw [Array.isEmpty_iff.mp h7] at hx
      cases hx
    obtain ⟨t, a1, o, b1, b2, b3⟩ := body p e s m args below meth c s₁ B hml ht hP s₁ hh0 (Stand.of_body B)
    exact ⟨t, o, a1, b1, b2, b3⟩
/-- the table of a body with handlers -/
theorem vx_table {p : Program} {x y : MethodName} {S : Spec} {cc bytes : ByteArray} {maxL maxL' : Nat} {ret ret' : Option FieldType} {e : Env} {s s₁ : State} {m : MethodId} {args : Array Value} {below : List Frame} {meth : Method} {c : Code} {hh : List (Nat × Nat × Nat × Nat)}
    (B : BodyLoose p l y S cc maxL ret e s m args below meth c s₁) (h : (Cond.codeWith y bytes maxL' ret' hh).before args s = true) : c.exceptionTable.toList = tableOf hh := by
  obtain ⟨m9, meth9, c9, hn9, h1, h2, -, -, h6, -⟩ := Cond.codeWith_spec h
  cases Option.some.inj (hn9.symm.trans B.named)
  cases Option.some.inj (h1.symm.trans B.method)
  cases Option.some.inj (h2.symm.trans (Stand.of_body B).code)
  rw [← h6, table_eq]
end Bodies
end VXA
/-! ===== END ===== -/
/-! ===== BEGIN a static call of a method with an exception table ===== -/
section VXS
variable {p : Program} {l : Launch} {e : Env} {R : Room} {s : State} {m : MethodId} {args : Array Value} {below : List Frame} {meth : Method} {c : Code} {T : State} {H : Heap} {locs : List Loc} {cells slots : Nat}
abbrev vx_CSW (R : Room) (s : State) (args : Array Value) (own : String) (index : Nat) (y : MethodName) (bytes : ByteArray) (maxL : Nat) (ret : Option FieldType) (hh : List (Nat × Nat × Nat × Nat)) (ws : List Cond) (rm : Room) (mc ms n : Nat) : Prop :=
  (rm.cells = mc ∧ rm.slots = ms ∧ rm.frames + 1 ≤ R.frames ∧ 8 + (maxL + 11) + rm.locals ≤ R.locals ∧ (∀ w ∈ ws, ∀ (a' : Array Value) (U : State), s.WarmedH U.vm → w.before a' U = true) ∧ Cond.codeWith y bytes maxL ret hh ∈ ws) ∧
  (Cond.codeWith y bytes maxL ret hh).before args s = true ∧ (Cond.initialized y.cls).before args s = true ∧ (y.cls ≠ "java/lang/invoke/MethodHandle" ∧ y.cls ≠ "java/lang/invoke/VarHandle") ∧
  (∀ sig, parseMethodDescriptor y.desc = some sig → n = sig.parameters.length) ∧ (Cond.methodLink own index y).before args s = true ∧ (Cond.static y).before args s = true
theorem vx_cwSW {own : String} {index maxL mc ms : Nat} {y : MethodName} {bytes : ByteArray} {ret : Option FieldType} {hh : List (Nat × Nat × Nat × Nat)} {Ts ws ws' : List Cond} {rm : Room} (n : Nat) (ht : ∀ w ∈ Ts, w.before args s = true) (hT : GoodIn Ts (va_wsS own index y ws)) (hw : ws = Cond.codeWith y bytes maxL ret hh :: ws') (hrc : rm.cells = mc) (hrs : rm.slots = ms)
    (hd : y.cls ≠ "java/lang/invoke/MethodHandle" ∧ y.cls ≠ "java/lang/invoke/VarHandle" ∧ (parseMethodDescriptor y.desc).map (fun d => d.parameters.length) = some n) (hR : rm.frames + 1 ≤ R.frames ∧ 8 + (maxL + 11) + rm.locals ≤ R.locals) :
    vx_CSW R s args own index y bytes maxL ret hh ws rm mc ms n := by
  have ok : ∀ w ∈ va_wsS own index y ws, w.before args s = true := fun w h => ht w (hT w h).1
  have hG : GoodIn Ts ws := fun w h => hT w (by unfold va_wsS; exact List.mem_append_right _ h)
  have hc : Cond.codeWith y bytes maxL ret hh ∈ ws := by rw [hw]; exact List.mem_cons_self
  refine ⟨⟨hrc, hrs, hR.1, hR.2, pay_in ht hG, hc⟩, ht _ (hG _ hc).1, ok _ (by simp [va_wsS]), ⟨hd.1, hd.2.1⟩, fun sig h => ?_, ok _ (by simp [va_wsS]), ok _ (by simp [va_wsS])⟩
  have h2 := hd.2.2
  rw [h] at h2
  exact (Option.some.inj h2).symm
theorem vx_callSW (X : Stand p l e R s m args below meth c T locs cells slots) (hexec : p.tables.exec = Jvm.exec) {own : String} {index : Nat} {y : MethodName} {bytes : ByteArray} {maxL : Nat} {ret : Option FieldType} {hh : List (Nat × Nat × Nat × Nat)}
    (hown : s.vm.findClass own = some m.cls) (hlink : (Cond.methodLink own index y).before args s = true) (hstat : (Cond.static y).before args s = true) (hinit : (Cond.initialized y.cls).before args s = true)
    (hcode : (Cond.codeWith y bytes maxL ret hh).before args s = true) (hy : y.cls ≠ "java/lang/invoke/MethodHandle" ∧ y.cls ≠ "java/lang/invoke/VarHandle")
    {W9 : Nat} {Pre : Pt → Array Value → Prop} {Post : Pt → Array Value → Option Value → Pt → Prop} (hK : Back l R p e below s args y 3 W9 Pre Post)
    {g : JFrame} (hg : g.method = m) (hsize : g.locals.size = c.maxLocals) {argsL rest : List Value} (hlen : ∀ sig, parseMethodDescriptor y.desc = some sig → argsL.length = sig.parameters.length)
    (hstack : g.stack = argsL.reverse ++ rest) (hW : 2 * g.monitorRoom + (rest.map fun v => v.category).sum ≤ W9) (hdg : decode c.code g.pc = .ok (.invokestatic index, 3))
    (hpre : ∀ vm₁, s.WarmedH vm₁ → Pre ⟨T.setVm vm₁, locs, cells, slots⟩ argsL.toArray) :
    ∃ (v : Option Value) (vm₁ : Vm) (B : Pt), s.WarmedH vm₁ ∧ Stand p l e R s m args below meth c B.U B.locs B.cells B.slots ∧ Post ⟨T.setVm vm₁, locs, cells, slots⟩ argsL.toArray v B ∧
      ∀ target, Steps p.tables e below (B.U.setTop { g with pc := g.pc + 3, stack := v.toList ++ rest }) target → Steps p.tables e below (T.setTop g) target := by
  obtain ⟨mk, methM, cM, hnamed, hmethM, -, -, -, -, -, -, hsigM⟩ := Cond.codeWith_spec hcode
  have hstatic : methM.isStatic = true := Cond.static_spec hnamed hmethM hstat
  obtain ⟨kP, hkP, -⟩ := className_of_methodNamed hnamed
  have hinitP : kP.init = .initialized := Cond.initialized_spec (findClass_of_methodNamed hnamed) hkP hinit
  obtain ⟨vm₁, X₁, hstep₁⟩ := X.invokestatic hexec hown hlink hnamed hmethM hstatic hkP hinitP hy (g := g) hg (argsL := argsL) (rest := rest) (hlen _ hsigM) hstack hdg
  obtain ⟨v, B, X', hpost, hsteps⟩ := hK m meth c ⟨T.setVm vm₁, locs, cells, slots⟩ { g with stack := rest } (.invokestatic index) mk argsL.toArray X₁ hg hsize hdg hW (X₁.named hnamed) (hpre vm₁ X₁.warmed)
  exact ⟨v, vm₁, B, X₁.warmed, X', hpost, fun target h => hstep₁ _ fun acts => by rw [doInvoke_state]; exact hsteps.trans h⟩
theorem vx_runSW {y : MethodName} {bytes cc : ByteArray} {maxL nL mc ms n index : Nat} {ret : Option FieldType} {hh : List (Nat × Nat × Nat × Nat)} {ws : List Cond} {rm : Room} {Pc : Array Value → State → Prop} {Qc : Array Value → State → Outcome → State → Prop} {free : Addr → Prop} {Ts : List Cond} {own : String} {As rest : List Value} {g : JFrame}
    (S : CallFix p m c cc nL s args Ts own) (hM : Met l y ws rm Pc Qc mc ms free) (cw : vx_CSW R s args own index y bytes maxL ret hh ws rm mc ms n) (hp : PreS s H Pc As)
    (hg : g.method = m) (hn : As.length = n) (hsize : g.locals.size = nL) (hstack : g.stack = As.reverse ++ rest) (hW : 2 * g.monitorRoom + (rest.map fun v => v.category).sum ≤ 8) (hdg : decode cc g.pc = .ok (.invokestatic index, 3)) (hf : cells + mc ≤ R.cells ∧ slots + ms ≤ R.slots) :
    va_Run p l e R s m args below meth c H locs cells slots mc ms g rest (Qc As.toArray) (free) := by
  obtain ⟨⟨hrc, hrs, hfr, hlo, hws, hcw⟩, hcode, hini, hy, hlen, hl, hstt⟩ := cw
  have hK : Back l R p e below s args y 3 8 (PreOf R mc ms Pc) (PostOf Qc mc ms free) := va_backW (hh := hh) (bytes := bytes) (maxL := maxL) (ret := ret) hM hp.1 hrc hrs hfr hlo hws hcw (fun a' U hW => word_at hW (Or.inl (by first | rfl | simp [Cond.onTables, Cond.keeps, Cond.steady])) hini)
  obtain ⟨hx, hb, hml, ho, -⟩ := S
  intro T hT X
  obtain ⟨v, vm₁, ⟨U', l2, c2, s2⟩, hW₁, X', ⟨g', mk, t, L, e1, e2, hq, h1, hL, h2, h3⟩, st⟩ := vx_callSW X hx (hh := hh) (bytes := bytes) (maxL := maxL) (ret := ret) ho hl hstt hini hcode hy hK hg (hsize.trans hml.symm) (argsL := As) (rest := rest) (fun sig h => hn.trans (hlen sig h)) hstack hW (by rw [hb]; exact hdg)
    (fun vm₁ hW₁ => ⟨hf.1, hf.2, hp.2 (T.setVm vm₁) hT hW₁⟩)
  dsimp only [Pt.U, Pt.locs, Pt.cells, Pt.slots] at X' e1 e2 h1 h2 h3 st
  subst h1; subst h2; subst h3
  exact ⟨v, (T.setVm vm₁).calling g' mk As.toArray, t, U', L, hT, X', hL, e1, e2, hq, st⟩
/-- not caught here, past rows that name other classes: it goes on to the caller -/
theorem vx_outP {p : Program} {l : Launch} {e : Env} {R : Room} {s : State} {m : MethodId} {args : Array Value} {below : List Frame} {meth : Method} {c : Code} {H : Heap} {locs : List Loc} {cells slots : Nat} {free : Addr → Prop} {ls : Array Slot} {rest : List Value} {Qc : Array Value → State → Outcome → State → Prop} {XC : String → State → State → Prop}
    {pc : Nat} {own E : String} {ce : Cell} {q : Addr} {mc ms : Nat} (hown : s.vm.findClass own = some m.cls) (hlocks : meth.locks = false)
    (hpass : ∀ z ∈ c.exceptionTable.toList, covers z pc = false ∨ (z.catchType ≠ 0 ∧ ∃ nm : String, (Cond.classLink own z.catchType nm).before args s = true ∧ va_Nc E nm s)) (hcell : H[q]? = some ce) (hv : ce.vm = .none) (hcl : s.vm.findClass E = some ce.cls)
    (hx : ∀ t : State, t.heap = H → s.vm.Alike t.vm → XC E s t) (hf : ∀ z ∈ locs, free z.base) (hc : cells ≤ mc) (hs : slots ≤ ms) :
    vx_W p l e R s m args below meth c H locs cells slots (vx_MQ below Qc XC args s mc ms free) (F0 m pc ls rest) q := by
  intro T hT X
  have hpl : e.platform.magicAccessors = ({} : Platform).magicAccessors := by rw [X.admits.platform]
  obtain ⟨vm', hW', X', st⟩ := X.outThrough hlocks q (g := F0 m pc ls rest) rfl rfl rfl (cell := ce) (by rw [hT]; exact hcell) (by rw [hv]; rfl)
    (by obtain ⟨k9, h9, -⟩ := Vm.findClass_spec hcl; exact ⟨k9, h9⟩) (fun z hz => by
      rcases hpass z hz with h | ⟨hz0, nm, hl1, hn1⟩
      · exact Or.inl h
      · obtain ⟨c6, hc6, hcl6⟩ := Cond.classLink_spec hown hl1 e.platform hpl
        obtain ⟨a8, b8, h1, h2, h3⟩ := hn1
        cases Option.some.inj (h1.symm.trans hcl)
        cases Option.some.inj (h2.symm.trans hc6)
        exact Or.inr ⟨hz0, _, hcl6, h3⟩)
  obtain ⟨g₀, hfr⟩ := X'.frames_eq
  have hcell9 : ((T.setVm vm').setFrames (.throwing q :: below)).heap[q]? = some ce := by
    show T.heap[q]? = some ce
    rw [hT]; exact hcell
  have hend : Ended ((T.setVm vm').setFrames (.throwing q :: below)) below (.threw q) := State.frames_setFrames _ (State.cur_lt_of_frames hfr)
  refine ⟨(T.setVm vm').setFrames (.throwing q :: below), ?_, .threw q, X'.here.running, hend, Or.inr ⟨q, rfl, E, ce, locs, hx _ hT (X'.ends _).1.alike, hcell9, hv, hcl, (X'.ends _).1, (X'.ends _).2.mono hc hs, hf⟩⟩
  rw [X.pushThrowing_eq]
  exact st
/-- a thing of a world lies in the heap -/
theorem vx_lt {D : va_G} {cl : List vw_C} {ws : va_W} {H1 : Heap} (h : va_P D cl ws H1) {k : Nat} {q : Nat × va_E} (hk : ws[k]? = some q) : q.1 < H1.size := (h k q hk).lt
end VXS
/-! ===== END ===== -/
/-! ===== BEGIN methods with a table of their own: called by a name, returning or throwing ===== -/
section VXH
/-! vx_backW, vx_callVX, vx_callSX, vx_callVW, vx_runVW, vx_runVX, vx_runSX, vx_ofWH follow the same proofs as their sisters above (Free/Laws.lean, Shelf42/LK1.lean); vx_outP calls Shelf42/NT130.lean (outThrough). -/
section
variable {l : Launch} {R : Room} {p : Program} {e : Env} {below : List Frame} {s : State} {sargs : Array Value} {y : MethodName} {len W9 : Nat}
theorem vx_backW {ws : List Cond} {rm : Room} {Pc : Array Value → State → Prop} {Qc : Array Value → State → Outcome → State → Prop} {XC : String → State → State → Prop} {mc ms : Nat} {free : Addr → Prop} {bytes : ByteArray} {maxL : Nat} {ret : Option FieldType} {hh : List (Nat × Nat × Nat × Nat)}
    (hM : vx_Met l y ws rm Pc Qc XC mc ms free) (hblind : FrameBlind Pc) (hrc : rm.cells = mc) (hrs : rm.slots = ms)
    (hframes : rm.frames + 1 ≤ R.frames) (hlocals : W9 + (maxL + 11) + rm.locals ≤ R.locals)
    (hws : ∀ w ∈ ws, ∀ a' U, s.WarmedH U.vm → w.before a' U = true) (hcode : Cond.codeWith y bytes maxL ret hh ∈ ws) (hinit : ∀ a' U, s.WarmedH U.vm → (Cond.initialized y.cls).before a' U = true) :
    vx_Back l R p e below s sargs y len W9 (PreOf R mc ms Pc) (PostOf Qc mc ms free) (vx_Post XC mc ms free) := by
  intro m meth c A g ig mk a X hg hsize hdg hW hn hp
  have h1 : (headSpec ws rm).pre.before a A.U = true := atoms_intro fun w hw => hws w hw _ _ X.warmed
  have h2 : (Cond.codeWith y bytes maxL ret hh).before a A.U = true := hws _ hcode _ _ X.warmed
  have h3 : (Cond.initialized y.cls).before a A.U = true := hinit _ _ X.warmed
  have h4 : A.cells + (headSpec ws rm).room.cells ≤ R.cells := by rw [show (headSpec ws rm).room.cells = mc from hrc]; exact hp.1
  have h5 : A.slots + (headSpec ws rm).room.slots ≤ R.slots := by rw [show (headSpec ws rm).room.slots = ms from hrs]; exact hp.2.1
  have hPc : Pc a (A.U.calling g mk a) := hblind _ _ _ _ hp.2.2
  obtain ⟨U, Ls, c0, s0⟩ := A
  dsimp only [Pt.U, Pt.locs, Pt.cells, Pt.slots] at h1 h2 h3 h4 h5 X hn hPc ⊢
  obtain ⟨m9, methY, cY, hn9, hmY, hcY, -, hlY, -⟩ := Cond.codeWith_spec h2
  cases Option.some.inj (hn9.symm.trans hn)
  obtain ⟨kY, hkY, -⟩ := className_of_methodNamed hn
  have hinitY : kY.init = .initialized := Cond.initialized_spec (findClass_of_methodNamed hn) hkY h3
  have h : At U g.method c below := by rw [hg]; exact X.here
  have hlocals9 : W9 + (maxL + 11) + (headSpec ws rm).room.locals ≤ R.locals := hlocals
  have happ : (headSpec ws rm).appliesLoose y e.platform (U.calling g mk a) = true :=
    Spec.appliesLoose_calling (g := g) h hdg hn hkY hinitY
      (X.room_calling (g := g) (R' := (headSpec ws rm).room) hsize hmY hcY hframes (by rw [hlY]; omega) h4 h5) h1
  obtain ⟨mid, hmid⟩ := h.above
  have hfr : (U.setTop g).frames = (.java g :: mid) ++ below := by rw [State.frames_setTop' g h.top, hmid]; rfl
  obtain ⟨o, s₂, hsteps, -, hend, hq⟩ := Steps.callFree hM p X.admits X.cas X.clock (acts := []) hfr happ hPc trivial
  have hq' : vx_Q Qc XC mc ms free a (U.calling g mk a) o s₂ := hq
  rw [State.frames_setTop' g h.top] at hend
  obtain ⟨g₀, hg0⟩ := Option.isSome_iff_exists.mp h.top
  obtain ⟨r, hr⟩ := State.topJava?_eq_some.mp hg0
  have hr' : (({ U with heap := s₂.heap, slotsUsed := s₂.slotsUsed } : State).setVm s₂.vm).frames = .java g₀ :: r := hr
  rcases hq' with ⟨hqc, L, hfe, hL⟩ | ⟨q, rfl, E, ce, L, hx, hce, hcv, hcl, hW₂, hsm, hL⟩
  · obtain ⟨⟨v, rfl⟩, hW₂, e2, q2, q3, q4, q5, q6⟩ := id hfe
    have e3 : s₂ = ({ (U.calling g mk a).setFrames s₂.frames with heap := s₂.heap, slotsUsed := s₂.slotsUsed } : State).setVm s₂.vm := by
      have : s₂ = ({ s₂ with vm := (U.calling g mk a).vm } : State).setVm s₂.vm := rfl
      rw [e2] at this
      exact this
    obtain ⟨c₂, i₂, len₂, hc₂, hd₂, hf₂⟩ := hend
    have hW' : U.WarmedH s₂.vm := hW₂
    have hcc : c₂ = c := by
      have h1 : s₂.code? g.method = U.code? g.method := by
        rw [State.code?_eq, State.code?_eq, hW'.alike.method?]
      exact Option.some.inj (hc₂.symm.trans (h1.trans h.code))
    subst hcc
    have hlen : len₂ = len := by rw [hdg] at hd₂; cases hd₂; rfl
    subst hlen
    have hs₂ : s₂ = (({ U with heap := s₂.heap, slotsUsed := s₂.slotsUsed } : State).setVm s₂.vm).setTop { g with pc := g.pc + len₂, stack := v.toList ++ g.stack } := by
      refine e3.trans ?_
      rw [hf₂, State.calling_eq h.top, State.setFrames_setFrames, State.setTop_of_frames _ hr', hr]
      rfl
    have hsame : U.sameButNew ({ U with heap := s₂.heap, slotsUsed := s₂.slotsUsed } : State) L mc ms := by
      refine ⟨?_, q2, q3, q4, q5, q6⟩
      obtain ⟨t, ht, -⟩ := State.frames_cons hr
      show ({ U with heap := s₂.heap, slotsUsed := s₂.slotsUsed } : State) = { U.setFrames U.frames with heap := s₂.heap, slotsUsed := s₂.slotsUsed }
      rw [State.setFrames_self ht]
    subst hg
    refine Or.inl ⟨v, ⟨(({ U with heap := s₂.heap, slotsUsed := s₂.slotsUsed } : State).setVm s₂.vm), Ls ++ L, c0 + mc, s0 + ms⟩,
      ⟨X.admits, X.cas, X.clock, X.frames, X.room, X.hears, X.method, X.code, (X.here.setHeapUsed s₂.heap s₂.slotsUsed).setVm hW'.alike, X.tail, State.WarmedH.trans X.warmed hW', X.limits, X.bytes, X.same.trans (hsame.setVm s.vm)⟩,
      ⟨g, mk, s₂, L, rfl, rfl, hqc, rfl, hL, rfl, rfl⟩, ?_⟩
    show Steps p.tables e below _ ((({ U with heap := s₂.heap, slotsUsed := s₂.slotsUsed } : State).setVm s₂.vm).setTop { g with pc := g.pc + len₂, stack := v.toList ++ g.stack })
    rw [← hs₂]
    exact hsteps
  · obtain ⟨e2, q2, q3, q4, q5, q6⟩ := id hsm
    have e3 : s₂ = ({ (U.calling g mk a).setFrames s₂.frames with heap := s₂.heap, slotsUsed := s₂.slotsUsed } : State).setVm s₂.vm := by
      have : s₂ = ({ s₂ with vm := (U.calling g mk a).vm } : State).setVm s₂.vm := rfl
      rw [e2] at this
      exact this
    have hf₂ : s₂.frames = .throwing q :: .java g :: U.frames.tail := hend
    have hW' : U.WarmedH s₂.vm := hW₂
    have hs₂ : s₂ = ((({ U with heap := s₂.heap, slotsUsed := s₂.slotsUsed } : State).setVm s₂.vm).setTop g).pushFrame (.throwing q) := by
      refine e3.trans ?_
      rw [hf₂, State.calling_eq h.top, State.setFrames_setFrames, State.pushFrame, State.frames_setTop _ hr', State.setTop_of_frames _ hr', State.setFrames_setFrames, hr]
      rfl
    have hsame : U.sameButNew ({ U with heap := s₂.heap, slotsUsed := s₂.slotsUsed } : State) L mc ms := by
      refine ⟨?_, q2, q3, q4, q5, q6⟩
      obtain ⟨t, ht, -⟩ := State.frames_cons hr
      show ({ U with heap := s₂.heap, slotsUsed := s₂.slotsUsed } : State) = { U.setFrames U.frames with heap := s₂.heap, slotsUsed := s₂.slotsUsed }
      rw [State.setFrames_self ht]
    subst hg
    refine Or.inr ⟨q, ⟨(({ U with heap := s₂.heap, slotsUsed := s₂.slotsUsed } : State).setVm s₂.vm), Ls ++ L, c0 + mc, s0 + ms⟩,
      ⟨X.admits, X.cas, X.clock, X.frames, X.room, X.hears, X.method, X.code, (X.here.setHeapUsed s₂.heap s₂.slotsUsed).setVm hW'.alike, X.tail, State.WarmedH.trans X.warmed hW', X.limits, X.bytes, X.same.trans (hsame.setVm s.vm)⟩,
      ⟨g, mk, s₂, L, E, ce, rfl, rfl, hx, hce, hcv, hcl, rfl, hL, rfl, rfl⟩, ?_⟩
    show Steps p.tables e below _ (((({ U with heap := s₂.heap, slotsUsed := s₂.slotsUsed } : State).setVm s₂.vm).setTop g).pushFrame (.throwing q))
    rw [← hs₂]
    exact hsteps
end
variable {p : Program} {l : Launch} {e : Env} {R : Room} {s : State} {m : MethodId} {args : Array Value} {below : List Frame} {meth : Method} {c : Code} {T : State} {H : Heap} {locs : List Loc} {cells slots : Nat}
theorem vx_callVX (X : Stand p l e R s m args below meth c T locs cells slots) (hexec : p.tables.exec = Jvm.exec) {own C : String} {index : Nat} {y : MethodName} {bytes : ByteArray} {maxL : Nat} {ret : Option FieldType} {hh : List (Nat × Nat × Nat × Nat)}
    (hown : s.vm.findClass own = some m.cls) (hlink : (Cond.methodLink own index y).before args s = true) (hinst : (Cond.instanceMethod y).before args s = true) (hsel : (Cond.selects C y y).before args s = true)
    (hcode : (Cond.codeWith y bytes maxL ret hh).before args s = true) (hy : y.cls ≠ "java/lang/invoke/MethodHandle" ∧ y.cls ≠ "java/lang/invoke/VarHandle")
    {W9 : Nat} {Pre : Pt → Array Value → Prop} {Post : Pt → Array Value → Option Value → Pt → Prop} {PostX : Pt → Array Value → Addr → Pt → Prop} (hK : vx_Back l R p e below s args y 3 W9 Pre Post PostX)
    {b : Addr} {cellB : Cell} (hcell : T.heap[b]? = some cellB) (hobj : cellB.vm.isStatics = false) (hcls : s.vm.findClass C = some cellB.cls)
    {g : JFrame} (hg : g.method = m) (hsize : g.locals.size = c.maxLocals) {argsL rest : List Value} (hlen : ∀ sig, parseMethodDescriptor y.desc = some sig → argsL.length = sig.parameters.length)
    (hstack : g.stack = argsL.reverse ++ .ref b :: rest) (hW : 2 * g.monitorRoom + (rest.map fun v => v.category).sum ≤ W9) (hdg : decode c.code g.pc = .ok (.invokevirtual index, 3))
    (hpre : ∀ vm₁, s.WarmedH vm₁ → Pre ⟨T.setVm vm₁, locs, cells, slots⟩ (Value.ref b :: argsL).toArray) :
    (∃ (v : Option Value) (vm₁ : Vm) (B : Pt), s.WarmedH vm₁ ∧ Stand p l e R s m args below meth c B.U B.locs B.cells B.slots ∧ Post ⟨T.setVm vm₁, locs, cells, slots⟩ (Value.ref b :: argsL).toArray v B ∧
      ∀ target, Steps p.tables e below (B.U.setTop { g with pc := g.pc + 3, stack := v.toList ++ rest }) target → Steps p.tables e below (T.setTop g) target) ∨
    (∃ (q : Addr) (vm₁ : Vm) (B : Pt), s.WarmedH vm₁ ∧ Stand p l e R s m args below meth c B.U B.locs B.cells B.slots ∧ PostX ⟨T.setVm vm₁, locs, cells, slots⟩ (Value.ref b :: argsL).toArray q B ∧
      Steps p.tables e below (T.setTop g) ((B.U.setTop { g with stack := rest }).pushFrame (.throwing q))) := by
  obtain ⟨mk, methM, hnamed, hmethM, hstM, habM⟩ := Cond.instanceMethod_spec hinst
  obtain ⟨m8, methM', cM, hn8, hmethM', -, -, -, -, -, -, hsigM⟩ := Cond.codeWith_spec hcode
  cases Option.some.inj (hn8.symm.trans hnamed)
  cases hmethM.symm.trans hmethM'
  obtain ⟨c2, r2, m2, q1, q2, q3, q4, kP, hkP, hkPi⟩ := Cond.selects_spec hsel
  cases hcls.symm.trans q1
  cases (State.methodFound?_of_named hnamed hy).symm.trans q2
  cases hnamed.symm.trans q3
  have hselP : selectMethod e.platform s.vm cellB.cls mk = .method mk := by rw [Launch.admits_selectMethod X.admits]; exact q4
  obtain ⟨vm₁, X₁, hstep₁⟩ := X.invokevirtual hexec hown hlink hnamed hmethM hstM hkP hkPi hy (a := b) (cell := cellB) hcell
    (fun z h => by rw [h] at hobj; cases hobj) hselP hmethM habM hkP hkPi (g := g) hg (argsL := argsL) (rest := rest) (hlen _ hsigM) hstack hdg
  rcases hK m meth c ⟨T.setVm vm₁, locs, cells, slots⟩ { g with stack := rest } (.invokevirtual index) mk (Value.ref b :: argsL).toArray X₁ hg hsize hdg hW (X₁.named hnamed) (hpre vm₁ X₁.warmed) with ⟨v, B, X', hpost, hsteps⟩ | ⟨q, B, X', hpost, hsteps⟩
  · exact Or.inl ⟨v, vm₁, B, X₁.warmed, X', hpost, fun target h => hstep₁ _ fun acts => by rw [doInvoke_state]; exact hsteps.trans h⟩
  · exact Or.inr ⟨q, vm₁, B, X₁.warmed, X', hpost, hstep₁ _ fun acts => by rw [doInvoke_state]; exact hsteps⟩
theorem vx_callSX (X : Stand p l e R s m args below meth c T locs cells slots) (hexec : p.tables.exec = Jvm.exec) {own : String} {index : Nat} {y : MethodName} {bytes : ByteArray} {maxL : Nat} {ret : Option FieldType} {hh : List (Nat × Nat × Nat × Nat)}
    (hown : s.vm.findClass own = some m.cls) (hlink : (Cond.methodLink own index y).before args s = true) (hstat : (Cond.static y).before args s = true) (hinit : (Cond.initialized y.cls).before args s = true)
    (hcode : (Cond.codeWith y bytes maxL ret hh).before args s = true) (hy : y.cls ≠ "java/lang/invoke/MethodHandle" ∧ y.cls ≠ "java/lang/invoke/VarHandle")
    {W9 : Nat} {Pre : Pt → Array Value → Prop} {Post : Pt → Array Value → Option Value → Pt → Prop} {PostX : Pt → Array Value → Addr → Pt → Prop} (hK : vx_Back l R p e below s args y 3 W9 Pre Post PostX)
    {g : JFrame} (hg : g.method = m) (hsize : g.locals.size = c.maxLocals) {argsL rest : List Value} (hlen : ∀ sig, parseMethodDescriptor y.desc = some sig → argsL.length = sig.parameters.length)
    (hstack : g.stack = argsL.reverse ++ rest) (hW : 2 * g.monitorRoom + (rest.map fun v => v.category).sum ≤ W9) (hdg : decode c.code g.pc = .ok (.invokestatic index, 3))
    (hpre : ∀ vm₁, s.WarmedH vm₁ → Pre ⟨T.setVm vm₁, locs, cells, slots⟩ argsL.toArray) :
    (∃ (v : Option Value) (vm₁ : Vm) (B : Pt), s.WarmedH vm₁ ∧ Stand p l e R s m args below meth c B.U B.locs B.cells B.slots ∧ Post ⟨T.setVm vm₁, locs, cells, slots⟩ argsL.toArray v B ∧
      ∀ target, Steps p.tables e below (B.U.setTop { g with pc := g.pc + 3, stack := v.toList ++ rest }) target → Steps p.tables e below (T.setTop g) target) ∨
    (∃ (q : Addr) (vm₁ : Vm) (B : Pt), s.WarmedH vm₁ ∧ Stand p l e R s m args below meth c B.U B.locs B.cells B.slots ∧ PostX ⟨T.setVm vm₁, locs, cells, slots⟩ argsL.toArray q B ∧
      Steps p.tables e below (T.setTop g) ((B.U.setTop { g with stack := rest }).pushFrame (.throwing q))) := by
  obtain ⟨mk, methM, cM, hnamed, hmethM, -, -, -, -, -, -, hsigM⟩ := Cond.codeWith_spec hcode
  have hstatic : methM.isStatic = true := Cond.static_spec hnamed hmethM hstat
  obtain ⟨kP, hkP, -⟩ := className_of_methodNamed hnamed
  have hinitP : kP.init = .initialized := Cond.initialized_spec (findClass_of_methodNamed hnamed) hkP hinit
  obtain ⟨vm₁, X₁, hstep₁⟩ := X.invokestatic hexec hown hlink hnamed hmethM hstatic hkP hinitP hy (g := g) hg (argsL := argsL) (rest := rest) (hlen _ hsigM) hstack hdg
  rcases hK m meth c ⟨T.setVm vm₁, locs, cells, slots⟩ { g with stack := rest } (.invokestatic index) mk argsL.toArray X₁ hg hsize hdg hW (X₁.named hnamed) (hpre vm₁ X₁.warmed) with ⟨v, B, X', hpost, hsteps⟩ | ⟨q, B, X', hpost, hsteps⟩
  · exact Or.inl ⟨v, vm₁, B, X₁.warmed, X', hpost, fun target h => hstep₁ _ fun acts => by rw [doInvoke_state]; exact hsteps.trans h⟩
  · exact Or.inr ⟨q, vm₁, B, X₁.warmed, X', hpost, hstep₁ _ fun acts => by rw [doInvoke_state]; exact hsteps⟩
theorem vx_callVW (X : Stand p l e R s m args below meth c T locs cells slots) (hexec : p.tables.exec = Jvm.exec) {own C : String} {index : Nat} {y : MethodName} {bytes : ByteArray} {maxL : Nat} {ret : Option FieldType} {hh : List (Nat × Nat × Nat × Nat)}
    (hown : s.vm.findClass own = some m.cls) (hlink : (Cond.methodLink own index y).before args s = true) (hinst : (Cond.instanceMethod y).before args s = true) (hsel : (Cond.selects C y y).before args s = true)
    (hcode : (Cond.codeWith y bytes maxL ret hh).before args s = true) (hy : y.cls ≠ "java/lang/invoke/MethodHandle" ∧ y.cls ≠ "java/lang/invoke/VarHandle")
    {W9 : Nat} {Pre : Pt → Array Value → Prop} {Post : Pt → Array Value → Option Value → Pt → Prop} (hK : Back l R p e below s args y 3 W9 Pre Post)
    {b : Addr} {cellB : Cell} (hcell : T.heap[b]? = some cellB) (hobj : cellB.vm.isStatics = false) (hcls : s.vm.findClass C = some cellB.cls)
    {g : JFrame} (hg : g.method = m) (hsize : g.locals.size = c.maxLocals) {argsL rest : List Value} (hlen : ∀ sig, parseMethodDescriptor y.desc = some sig → argsL.length = sig.parameters.length)
    (hstack : g.stack = argsL.reverse ++ .ref b :: rest) (hW : 2 * g.monitorRoom + (rest.map fun v => v.category).sum ≤ W9) (hdg : decode c.code g.pc = .ok (.invokevirtual index, 3))
    (hpre : ∀ vm₁, s.WarmedH vm₁ → Pre ⟨T.setVm vm₁, locs, cells, slots⟩ (Value.ref b :: argsL).toArray) :
    ∃ (v : Option Value) (vm₁ : Vm) (B : Pt), s.WarmedH vm₁ ∧ Stand p l e R s m args below meth c B.U B.locs B.cells B.slots ∧ Post ⟨T.setVm vm₁, locs, cells, slots⟩ (Value.ref b :: argsL).toArray v B ∧
      ∀ target, Steps p.tables e below (B.U.setTop { g with pc := g.pc + 3, stack := v.toList ++ rest }) target → Steps p.tables e below (T.setTop g) target := by
  obtain ⟨mk, methM, hnamed, hmethM, hstM, habM⟩ := Cond.instanceMethod_spec hinst
  obtain ⟨m8, methM', cM, hn8, hmethM', -, -, -, -, -, -, hsigM⟩ := Cond.codeWith_spec hcode
  cases Option.some.inj (hn8.symm.trans hnamed)
  cases hmethM.symm.trans hmethM'
  obtain ⟨c2, r2, m2, q1, q2, q3, q4, kP, hkP, hkPi⟩ := Cond.selects_spec hsel
  cases hcls.symm.trans q1
  cases (State.methodFound?_of_named hnamed hy).symm.trans q2
  cases hnamed.symm.trans q3
  have hselP : selectMethod e.platform s.vm cellB.cls mk = .method mk := by rw [Launch.admits_selectMethod X.admits]; exact q4
  obtain ⟨vm₁, X₁, hstep₁⟩ := X.invokevirtual hexec hown hlink hnamed hmethM hstM hkP hkPi hy (a := b) (cell := cellB) hcell
    (fun z h => by rw [h] at hobj; cases hobj) hselP hmethM habM hkP hkPi (g := g) hg (argsL := argsL) (rest := rest) (hlen _ hsigM) hstack hdg
  obtain ⟨v, B, X', hpost, hsteps⟩ := hK m meth c ⟨T.setVm vm₁, locs, cells, slots⟩ { g with stack := rest } (.invokevirtual index) mk (Value.ref b :: argsL).toArray X₁ hg hsize hdg hW (X₁.named hnamed) (hpre vm₁ X₁.warmed)
  exact ⟨v, vm₁, B, X₁.warmed, X', hpost, fun target h => hstep₁ _ fun acts => by rw [doInvoke_state]; exact hsteps.trans h⟩
abbrev vx_CVW (R : Room) (s : State) (args : Array Value) (own C : String) (index : Nat) (y : MethodName) (bytes : ByteArray) (maxL : Nat) (ret : Option FieldType) (hh : List (Nat × Nat × Nat × Nat)) (ws : List Cond) (rm : Room) (mc ms n : Nat) : Prop :=
  (rm.cells = mc ∧ rm.slots = ms ∧ rm.frames + 1 ≤ R.frames ∧ 8 + (maxL + 11) + rm.locals ≤ R.locals ∧ (∀ w ∈ ws, ∀ (a' : Array Value) (U : State), s.WarmedH U.vm → w.before a' U = true) ∧ Cond.codeWith y bytes maxL ret hh ∈ ws) ∧
  (Cond.codeWith y bytes maxL ret hh).before args s = true ∧ (Cond.initialized y.cls).before args s = true ∧ (y.cls ≠ "java/lang/invoke/MethodHandle" ∧ y.cls ≠ "java/lang/invoke/VarHandle") ∧
  (∀ sig, parseMethodDescriptor y.desc = some sig → n = sig.parameters.length) ∧ (Cond.methodLink own index y).before args s = true ∧ (Cond.instanceMethod y).before args s = true ∧ (Cond.selects C y y).before args s = true
theorem vx_cwVW {own C : String} {index maxL mc ms : Nat} {y : MethodName} {bytes : ByteArray} {ret : Option FieldType} {hh : List (Nat × Nat × Nat × Nat)} {Ts ws ws' : List Cond} {rm : Room} (n : Nat) (ht : ∀ w ∈ Ts, w.before args s = true) (hT : GoodIn Ts (wsV own index C y ws)) (hw : ws = Cond.codeWith y bytes maxL ret hh :: ws') (hrc : rm.cells = mc) (hrs : rm.slots = ms)
    (hd : y.cls = C ∧ y.cls ≠ "java/lang/invoke/MethodHandle" ∧ y.cls ≠ "java/lang/invoke/VarHandle" ∧ (parseMethodDescriptor y.desc).map (fun d => d.parameters.length) = some n) (hR : rm.frames + 1 ≤ R.frames ∧ 8 + (maxL + 11) + rm.locals ≤ R.locals) :
    vx_CVW R s args own C index y bytes maxL ret hh ws rm mc ms n := by
  obtain ⟨hC, hd⟩ := hd
  subst hC
  have ok : ∀ w ∈ wsV own index y.cls y ws, w.before args s = true := fun w h => ht w (hT w h).1
  have hG : GoodIn Ts ws := fun w h => hT w (by unfold wsV; exact List.mem_append_right _ h)
  have hc : Cond.codeWith y bytes maxL ret hh ∈ ws := by rw [hw]; exact List.mem_cons_self
  refine ⟨⟨hrc, hrs, hR.1, hR.2, pay_in ht hG, hc⟩, ht _ (hG _ hc).1, ok _ (by simp [wsV]), ⟨hd.1, hd.2.1⟩, fun sig h => ?_, ok _ (by simp [wsV]), ok _ (by simp [wsV]), ok _ (by simp [wsV])⟩
  have h2 := hd.2.2
  rw [h] at h2
  exact (Option.some.inj h2).symm
theorem vx_runVW {y : MethodName} {bytes cc : ByteArray} {maxL nL mc ms n index : Nat} {ret : Option FieldType} {hh : List (Nat × Nat × Nat × Nat)} {ws : List Cond} {rm : Room} {Pc : Array Value → State → Prop} {Qc : Array Value → State → Outcome → State → Prop} {free : Addr → Prop} {Ts : List Cond} {own C : String} {b : Addr} {As rest : List Value} {g : JFrame}
    (S : CallFix p m c cc nL s args Ts own) (hM : Met l y ws rm Pc Qc mc ms free) (cw : vx_CVW R s args own C index y bytes maxL ret hh ws rm mc ms n) (hp : PreV s H C b Pc As)
    (hg : g.method = m) (hn : As.length = n) (hsize : g.locals.size = nL) (hstack : g.stack = As.reverse ++ .ref b :: rest) (hW : 2 * g.monitorRoom + (rest.map fun v => v.category).sum ≤ 8) (hdg : decode cc g.pc = .ok (.invokevirtual index, 3)) (hf : cells + mc ≤ R.cells ∧ slots + ms ≤ R.slots) :
    va_Run p l e R s m args below meth c H locs cells slots mc ms g rest (Qc (Value.ref b :: As).toArray) free := by
  obtain ⟨⟨hrc, hrs, hfr, hlo, hws, hcw⟩, hcode, hini, hy, hlen, hl, hin, hse⟩ := cw
  have hK : Back l R p e below s args y 3 8 (PreOf R mc ms Pc) (PostOf Qc mc ms free) := va_backW (hh := hh) (bytes := bytes) (maxL := maxL) (ret := ret) hM hp.1 hrc hrs hfr hlo hws hcw (fun a' U hW => word_at hW (Or.inl (by first | rfl | simp [Cond.onTables, Cond.keeps, Cond.steady])) hini)
  obtain ⟨hx, hb, hml, ho, -⟩ := S
  obtain ⟨-, ⟨cellB, hcB, hoB, hclB⟩, hPc⟩ := hp
  intro T hT X
  obtain ⟨v, vm₁, ⟨U', l2, c2, s2⟩, hW₁, X', ⟨g', mk, t, L, e1, e2, hq, h1, hL, h2, h3⟩, st⟩ := vx_callVW X hx (C := C) (hh := hh) (bytes := bytes) (maxL := maxL) (ret := ret) ho hl hin hse hcode hy hK (by rw [hT]; exact hcB) hoB hclB hg (hsize.trans hml.symm) (argsL := As) (rest := rest) (fun sig h => hn.trans (hlen sig h)) hstack hW (by rw [hb]; exact hdg)
    (fun vm₁ hW₁ => ⟨hf.1, hf.2, hPc (T.setVm vm₁) hT hW₁⟩)
  dsimp only [Pt.U, Pt.locs, Pt.cells, Pt.slots] at X' e1 e2 h1 h2 h3 st
  subst h1; subst h2; subst h3
  exact ⟨v, (T.setVm vm₁).calling g' mk (Value.ref b :: As).toArray, t, U', L, hT, X', hL, e1, e2, hq, st⟩
section
variable {y : MethodName} {bytes cc : ByteArray} {maxL nL mc ms n index : Nat} {ret : Option FieldType} {ws : List Cond} {rm : Room} {Pc : Array Value → State → Prop} {Qc : Array Value → State → Outcome → State → Prop} {XC : String → State → State → Prop} {free : Addr → Prop} {Ts : List Cond} {own C : String} {b : Addr} {As rest : List Value} {g : JFrame}
theorem vx_runVX {hh : List (Nat × Nat × Nat × Nat)} (S : CallFix p m c cc nL s args Ts own) (hM : vx_Met l y ws rm Pc Qc XC mc ms free) (cw : vx_CVW R s args own C index y bytes maxL ret hh ws rm mc ms n) (hp : PreV s H C b Pc As)
    (hg : g.method = m) (hn : As.length = n) (hsize : g.locals.size = nL) (hstack : g.stack = As.reverse ++ .ref b :: rest) (hW : 2 * g.monitorRoom + (rest.map fun v => v.category).sum ≤ 8) (hdg : decode cc g.pc = .ok (.invokevirtual index, 3)) (hf : cells + mc ≤ R.cells ∧ slots + ms ≤ R.slots) :
    vx_Run p l e R s m args below meth c H locs cells slots mc ms g rest (Qc (Value.ref b :: As).toArray) XC free := by
  obtain ⟨⟨hrc, hrs, hfr, hlo, hws, hcw⟩, hcode, hini, hy, hlen, hl, hin, hse⟩ := cw
  have hK : vx_Back l R p e below s args y 3 8 (PreOf R mc ms Pc) (PostOf Qc mc ms free) (vx_Post XC mc ms free) := vx_backW (hh := hh) (bytes := bytes) (maxL := maxL) (ret := ret) hM hp.1 hrc hrs hfr hlo hws hcw (fun a' U hW => word_at hW (Or.inl (by first | rfl | simp [Cond.onTables, Cond.keeps, Cond.steady])) hini)
  obtain ⟨hx, hb, hml, ho, -⟩ := S
  obtain ⟨-, ⟨cellB, hcB, hoB, hclB⟩, hPc⟩ := hp
  intro T hT X
  rcases vx_callVX X hx (C := C) (hh := hh) (bytes := bytes) (maxL := maxL) (ret := ret) ho hl hin hse hcode hy hK (by rw [hT]; exact hcB) hoB hclB hg (hsize.trans hml.symm) (argsL := As) (rest := rest) (fun sig h => hn.trans (hlen sig h)) hstack hW (by rw [hb]; exact hdg)
    (fun vm₁ hW₁ => ⟨hf.1, hf.2, hPc (T.setVm vm₁) hT hW₁⟩) with ⟨v, vm₁, ⟨U', l2, c2, s2⟩, hW₁, X', ⟨g', mk, t, L, e1, e2, hq, h1, hL, h2, h3⟩, st⟩ | ⟨q, vm₁, ⟨U', l2, c2, s2⟩, hW₁, X', ⟨g', mk, t, L, E, ce, e1, e2, hq, hce, hcv, hcl, h1, hL, h2, h3⟩, st⟩
  · dsimp only [Pt.U, Pt.locs, Pt.cells, Pt.slots] at X' e1 e2 h1 h2 h3 st
    subst h1; subst h2; subst h3
    exact Or.inl ⟨v, (T.setVm vm₁).calling g' mk (Value.ref b :: As).toArray, t, U', L, hT, X', hL, e1, e2, hq, st⟩
  · dsimp only [Pt.U, Pt.locs, Pt.cells, Pt.slots] at X' e1 e2 h1 h2 h3 st hcl
    subst h1; subst h2; subst h3
    exact Or.inr ⟨q, (T.setVm vm₁).calling g' mk (Value.ref b :: As).toArray, t, U', L, E, ce, hT, X', hL, e1, e2, hq, hce, hcv, vx_cls hW₁ hcl, st⟩
theorem vx_runSX {hh : List (Nat × Nat × Nat × Nat)} (S : CallFix p m c cc nL s args Ts own) (hM : vx_Met l y ws rm Pc Qc XC mc ms free) (cw : vx_CSW R s args own index y bytes maxL ret hh ws rm mc ms n) (hp : PreS s H Pc As)
    (hg : g.method = m) (hn : As.length = n) (hsize : g.locals.size = nL) (hstack : g.stack = As.reverse ++ rest) (hW : 2 * g.monitorRoom + (rest.map fun v => v.category).sum ≤ 8) (hdg : decode cc g.pc = .ok (.invokestatic index, 3)) (hf : cells + mc ≤ R.cells ∧ slots + ms ≤ R.slots) :
    vx_Run p l e R s m args below meth c H locs cells slots mc ms g rest (Qc As.toArray) XC free := by
  obtain ⟨⟨hrc, hrs, hfr, hlo, hws, hcw⟩, hcode, hini, hy, hlen, hl, hstt⟩ := cw
  have hK : vx_Back l R p e below s args y 3 8 (PreOf R mc ms Pc) (PostOf Qc mc ms free) (vx_Post XC mc ms free) := vx_backW (hh := hh) (bytes := bytes) (maxL := maxL) (ret := ret) hM hp.1 hrc hrs hfr hlo hws hcw (fun a' U hW => word_at hW (Or.inl (by first | rfl | simp [Cond.onTables, Cond.keeps, Cond.steady])) hini)
  obtain ⟨hx, hb, hml, ho, -⟩ := S
  intro T hT X
  rcases vx_callSX X hx (hh := hh) (bytes := bytes) (maxL := maxL) (ret := ret) ho hl hstt hini hcode hy hK hg (hsize.trans hml.symm) (argsL := As) (rest := rest) (fun sig h => hn.trans (hlen sig h)) hstack hW (by rw [hb]; exact hdg)
    (fun vm₁ hW₁ => ⟨hf.1, hf.2, hp.2 (T.setVm vm₁) hT hW₁⟩) with ⟨v, vm₁, ⟨U', l2, c2, s2⟩, hW₁, X', ⟨g', mk, t, L, e1, e2, hq, h1, hL, h2, h3⟩, st⟩ | ⟨q, vm₁, ⟨U', l2, c2, s2⟩, hW₁, X', ⟨g', mk, t, L, E, ce, e1, e2, hq, hce, hcv, hcl, h1, hL, h2, h3⟩, st⟩
  · dsimp only [Pt.U, Pt.locs, Pt.cells, Pt.slots] at X' e1 e2 h1 h2 h3 st
    subst h1; subst h2; subst h3
    exact Or.inl ⟨v, (T.setVm vm₁).calling g' mk As.toArray, t, U', L, hT, X', hL, e1, e2, hq, st⟩
  · dsimp only [Pt.U, Pt.locs, Pt.cells, Pt.slots] at X' e1 e2 h1 h2 h3 st hcl
    subst h1; subst h2; subst h3
    exact Or.inr ⟨q, (T.setVm vm₁).calling g' mk As.toArray, t, U', L, E, ce, hT, X', hL, e1, e2, hq, hce, hcv, vx_cls hW₁ hcl, st⟩
end
end VXH
theorem vx_ofWH {l : Launch} {y : MethodName} {ws ws' : List Cond} {rm : Room} {Pc : Array Value → State → Prop} {Qc : Array Value → State → Outcome → State → Prop} {XC : String → State → State → Prop} {mc ms : Nat} {free : Addr → Prop} {cc : ByteArray} {maxL : Nat} {ret : Option FieldType} {hh : List (Nat × Nat × Nat × Nat)}
    (hy : plainName y.cls = true) (hw : ws = Cond.codeWith y cc maxL ret hh :: ws')
    (body : ∀ p e s m args below meth c s₁, BodyLoose p l y (headSpec ws rm) cc maxL ret e s m args below meth c s₁ → c.maxLocals = maxL → Pc args s →
      W p l e (headSpec ws rm).room s m args below meth c s.heap [] 0 0 (vx_MQ below Qc XC args s mc ms free) (entryFrame m args maxL)) : vx_Met l y ws rm Pc Qc XC mc ms free := by
  refine MetFree.of_bodyS (code := cc) (maxLocals := maxL) (ret := ret) hy ?_ ?_
  · intro args s m h hn
    obtain ⟨m9, meth, c, hn9, h1, h2, h3, h4, -, h5, h6, -⟩ := Cond.codeWith_spec (atoms_spec (ws := ws) h _ (by rw [hw]; exact List.mem_cons_self))
    cases hn.symm.trans hn9
    exact ⟨meth, c, h1, h2, h3, h4, h5, h6⟩
  · intro p e s m args below meth c s₁ B hml hP _
    have hh0 : s₁.heap = s.heap := by rw [B.state]; rfl
    obtain ⟨t, a1, o, b1, b2, b3⟩ := body p e s m args below meth c s₁ B hml hP s₁ hh0 (Stand.of_body B)
    exact ⟨t, o, a1, b1, b2, b3⟩
/-! ===== END ===== -/
end
section
/-! ===== BEGIN printed: names, fields, word lists, decode rows ===== -/
def RX0 : String := "StairLight$Floors"
def TX0 : u_T := fun k => match k with
  | 0 => ("StairLight$Floors", "burning", "[I", true)
  | 1 => ("StairLight$Floors", "sound", "[I", true)
  | 2 => ("StairLight$Floors", "darkSeconds", "[I", true)
  | 3 => ("StairLight$Floors", "dimSeconds", "[I", true)
  | 4 => ("StairLight$Floors", "energy", "[I", true)
  | _ => ("StairLight$Floors", "kindled", "[I", true)
def tyX0 : Nat → FieldType := fun k => match k with
  | 0 => .array .int
  | 1 => .array .int
  | 2 => .array .int
  | 3 => .array .int
  | 4 => .array .int
  | _ => .array .int
abbrev wsX00 : List Cond := u_ws RX0 TX0 6
theorem nmX0 : ∀ a, a < 6 → ∀ b, b < 6 → a ≠ b → (TX0 a).2.1 ≠ (TX0 b).2.1 := by decide +kernel
theorem tyX0_ok : ∀ k, k < 6 → parseFieldDescriptor (TX0 k).2.2.1 = some (tyX0 k) := by decide +kernel
abbrev cX0_init : ByteArray := prog_2_method_1_code
def yX0_init : MethodName := ⟨RX0, "<init>", "()V"⟩
abbrev cX0_copyFrom : ByteArray := prog_2_method_2_code
def yX0_copyFrom : MethodName := ⟨RX0, "copyFrom", "(LStairLight$Floors;)V"⟩
abbrev cX0_letBurn : ByteArray := prog_2_method_3_code
def yX0_letBurn : MethodName := ⟨RX0, "letBurn", "(II)V"⟩
abbrev cX0_burnDown : ByteArray := prog_2_method_4_code
def yX0_burnDown : MethodName := ⟨RX0, "burnDown", "(I)V"⟩
abbrev cX0_mostMissed : ByteArray := prog_2_method_5_code
def yX0_mostMissed : MethodName := ⟨RX0, "mostMissed", "()I"⟩
def RX1 : String := "StairLight$History"
def TX1 : u_T := fun k => match k with
  | 0 => ("StairLight$History", "states", "[LStairLight$Stairs;", true)
  | 1 => ("StairLight$History", "oldest", "I", false)
  | _ => ("StairLight$History", "held", "I", false)
def tyX1 : Nat → FieldType := fun k => match k with
  | 0 => .array (.object "StairLight$Stairs")
  | 1 => .int
  | _ => .int
abbrev wsX10 : List Cond := u_ws RX1 TX1 3
theorem nmX1 : ∀ a, a < 3 → ∀ b, b < 3 → a ≠ b → (TX1 a).2.1 ≠ (TX1 b).2.1 := by decide +kernel
theorem tyX1_ok : ∀ k, k < 3 → parseFieldDescriptor (TX1 k).2.2.1 = some (tyX1 k) := by decide +kernel
abbrev cX1_init : ByteArray := prog_3_method_1_code
def yX1_init : MethodName := ⟨RX1, "<init>", "()V"⟩
abbrev cX1_save : ByteArray := prog_3_method_2_code
def yX1_save : MethodName := ⟨RX1, "save", "(LStairLight$Stairs;)V"⟩
abbrev cX1_restore : ByteArray := prog_3_method_3_code
def yX1_restore : MethodName := ⟨RX1, "restore", "(LStairLight$Stairs;)V"⟩
abbrev cX1_stateAt : ByteArray := prog_3_method_4_code
def yX1_stateAt : MethodName := ⟨RX1, "stateAt", "(I)LStairLight$Stairs;"⟩
def RX2 : String := "StairLight$People"
def TX2 : u_T := fun k => match k with
  | 0 => ("StairLight$People", "numbers", "[I", true)
  | 1 => ("StairLight$People", "floors", "[I", true)
  | 2 => ("StairLight$People", "goals", "[I", true)
  | 3 => ("StairLight$People", "left", "[I", true)
  | 4 => ("StairLight$People", "onStairs", "I", false)
  | _ => ("StairLight$People", "came", "I", false)
def tyX2 : Nat → FieldType := fun k => match k with
  | 0 => .array .int
  | 1 => .array .int
  | 2 => .array .int
  | 3 => .array .int
  | 4 => .int
  | _ => .int
abbrev wsX20 : List Cond := u_ws RX2 TX2 6
theorem nmX2 : ∀ a, a < 6 → ∀ b, b < 6 → a ≠ b → (TX2 a).2.1 ≠ (TX2 b).2.1 := by decide +kernel
theorem tyX2_ok : ∀ k, k < 6 → parseFieldDescriptor (TX2 k).2.2.1 = some (tyX2 k) := by decide +kernel
abbrev cX2_init : ByteArray := prog_4_method_1_code
def yX2_init : MethodName := ⟨RX2, "<init>", "()V"⟩
abbrev cX2_copyFrom : ByteArray := prog_4_method_2_code
def yX2_copyFrom : MethodName := ⟨RX2, "copyFrom", "(LStairLight$People;)V"⟩
abbrev cX2_enter : ByteArray := prog_4_method_3_code
def yX2_enter : MethodName := ⟨RX2, "enter", "(III)I"⟩
abbrev cX2_sendTo : ByteArray := prog_4_method_4_code
def yX2_sendTo : MethodName := ⟨RX2, "sendTo", "(III)V"⟩
abbrev cX2_isThere : ByteArray := prog_4_method_5_code
def yX2_isThere : MethodName := ⟨RX2, "isThere", "(I)Z"⟩
abbrev cX2_placeOf : ByteArray := prog_4_method_6_code
def yX2_placeOf : MethodName := ⟨RX2, "placeOf", "(I)I"⟩
abbrev cX2_peopleOn : ByteArray := prog_4_method_7_code
def yX2_peopleOn : MethodName := ⟨RX2, "peopleOn", "(I)I"⟩
abbrev cX2_goOn : ByteArray := prog_4_method_8_code
def yX2_goOn : MethodName := ⟨RX2, "goOn", "(I)V"⟩
abbrev cX2_walk : ByteArray := prog_4_method_9_code
def yX2_walk : MethodName := ⟨RX2, "walk", "(II)V"⟩
abbrev cX2_moveUp : ByteArray := prog_4_method_10_code
def yX2_moveUp : MethodName := ⟨RX2, "moveUp", "(II)V"⟩
abbrev cX2_personNumber : ByteArray := prog_4_method_11_code
def yX2_personNumber : MethodName := ⟨RX2, "personNumber", "(II)I"⟩
def RX3 : String := "StairLight$Stairs"
def TX3 : u_T := fun k => match k with
  | 0 => ("StairLight$Stairs", "floors", "LStairLight$Floors;", true)
  | 1 => ("StairLight$Stairs", "people", "LStairLight$People;", true)
  | 2 => ("StairLight$Stairs", "settings", "[I", true)
  | 3 => ("StairLight$Stairs", "isNight", "Z", false)
  | 4 => ("StairLight$Stairs", "isFire", "Z", false)
  | 5 => ("StairLight$Stairs", "seconds", "I", false)
  | _ => ("StairLight$Stairs", "secondsOfPeople", "I", false)
def tyX3 : Nat → FieldType := fun k => match k with
  | 0 => .object "StairLight$Floors"
  | 1 => .object "StairLight$People"
  | 2 => .array .int
  | 3 => .boolean
  | 4 => .boolean
  | 5 => .int
  | _ => .int
abbrev wsX30 : List Cond := u_ws RX3 TX3 7
theorem nmX3 : ∀ a, a < 7 → ∀ b, b < 7 → a ≠ b → (TX3 a).2.1 ≠ (TX3 b).2.1 := by decide +kernel
theorem tyX3_ok : ∀ k, k < 7 → parseFieldDescriptor (TX3 k).2.2.1 = some (tyX3 k) := by decide +kernel
abbrev cX3_init : ByteArray := prog_5_method_1_code
def yX3_init : MethodName := ⟨RX3, "<init>", "()V"⟩
abbrev cX3_copyFrom : ByteArray := prog_5_method_2_code
def yX3_copyFrom : MethodName := ⟨RX3, "copyFrom", "(LStairLight$Stairs;)V"⟩
abbrev cX3_letCome : ByteArray := prog_5_method_3_code
def yX3_letCome : MethodName := ⟨RX3, "letCome", "(II)I"⟩
abbrev cX3_switchOn : ByteArray := prog_5_method_4_code
def yX3_switchOn : MethodName := ⟨RX3, "switchOn", "(I)V"⟩
abbrev cX3_switchAllOn : ByteArray := prog_5_method_5_code
def yX3_switchAllOn : MethodName := ⟨RX3, "switchAllOn", "()V"⟩
abbrev cX3_lampOf : ByteArray := prog_5_method_6_code
def yX3_lampOf : MethodName := ⟨RX3, "lampOf", "(I)I"⟩
abbrev cX3_lampsBurning : ByteArray := prog_5_method_7_code
def yX3_lampsBurning : MethodName := ⟨RX3, "lampsBurning", "()I"⟩
abbrev cX3_letPass : ByteArray := prog_5_method_8_code
def yX3_letPass : MethodName := ⟨RX3, "letPass", "(I)I"⟩
abbrev cX3_waitForRoom : ByteArray := prog_5_method_9_code
def yX3_waitForRoom : MethodName := ⟨RX3, "waitForRoom", "()I"⟩
abbrev cX3_beginSecond : ByteArray := prog_5_method_10_code
def yX3_beginSecond : MethodName := ⟨RX3, "beginSecond", "()V"⟩
abbrev cX3_switchOnAround : ByteArray := prog_5_method_11_code
def yX3_switchOnAround : MethodName := ⟨RX3, "switchOnAround", "(I)V"⟩
abbrev cX3_endSecond : ByteArray := prog_5_method_12_code
def yX3_endSecond : MethodName := ⟨RX3, "endSecond", "()V"⟩
abbrev cX3_countSecondOn : ByteArray := prog_5_method_13_code
def yX3_countSecondOn : MethodName := ⟨RX3, "countSecondOn", "(I)V"⟩
abbrev cX3_powerOf : ByteArray := prog_5_method_14_code
def yX3_powerOf : MethodName := ⟨RX3, "powerOf", "(I)I"⟩
abbrev cX3_lightShare : ByteArray := prog_5_method_15_code
def yX3_lightShare : MethodName := ⟨RX3, "lightShare", "()D"⟩
abbrev cX3_floorNumber : ByteArray := prog_5_method_16_code
def yX3_floorNumber : MethodName := ⟨RX3, "floorNumber", "(II)I"⟩
def RX4 : String := "StairLight$Walks"
def TX4 : u_T := fun k => match k with
  | 0 => ("StairLight$Walks", "codes", "[C", true)
  | _ => ("StairLight$Walks", "length", "I", false)
def tyX4 : Nat → FieldType := fun k => match k with
  | 0 => .array .char
  | _ => .int
abbrev wsX40 : List Cond := u_ws RX4 TX4 2
theorem nmX4 : ∀ a, a < 2 → ∀ b, b < 2 → a ≠ b → (TX4 a).2.1 ≠ (TX4 b).2.1 := by decide +kernel
theorem tyX4_ok : ∀ k, k < 2 → parseFieldDescriptor (TX4 k).2.2.1 = some (tyX4 k) := by decide +kernel
abbrev cX4_init : ByteArray := prog_6_method_1_code
def yX4_init : MethodName := ⟨RX4, "<init>", "()V"⟩
abbrev cX4_add : ByteArray := prog_6_method_2_code
def yX4_add : MethodName := ⟨RX4, "add", "(C)I"⟩
abbrev cX4_clear : ByteArray := prog_6_method_3_code
def yX4_clear : MethodName := ⟨RX4, "clear", "()I"⟩
abbrev cX4_codeAt : ByteArray := prog_6_method_4_code
def yX4_codeAt : MethodName := ⟨RX4, "codeAt", "(I)C"⟩
abbrev cX4_errorPlace : ByteArray := prog_6_method_5_code
def yX4_errorPlace : MethodName := ⟨RX4, "errorPlace", "()I"⟩
abbrev cX4_fitsAt : ByteArray := prog_6_method_6_code
def yX4_fitsAt : MethodName := ⟨RX4, "fitsAt", "(I)Z"⟩
abbrev cX4_isFloor : ByteArray := prog_6_method_7_code
def yX4_isFloor : MethodName := ⟨RX4, "isFloor", "(C)Z"⟩
abbrev cX4_fitsSign : ByteArray := prog_6_method_8_code
def yX4_fitsSign : MethodName := ⟨RX4, "fitsSign", "(CCC)Z"⟩
abbrev cX4_isComplete : ByteArray := prog_6_method_9_code
def yX4_isComplete : MethodName := ⟨RX4, "isComplete", "()Z"⟩
abbrev cX4_parts : ByteArray := prog_6_method_10_code
def yX4_parts : MethodName := ⟨RX4, "parts", "()I"⟩
abbrev cX4_startOf : ByteArray := prog_6_method_11_code
def yX4_startOf : MethodName := ⟨RX4, "startOf", "(I)I"⟩
abbrev cX4_goalOf : ByteArray := prog_6_method_12_code
def yX4_goalOf : MethodName := ⟨RX4, "goalOf", "(I)I"⟩
def RX5 : String := "StairLight"
def TX5 : u_T := fun k => match k with
  | 0 => ("StairLight", "now", "LStairLight$Stairs;", true)
  | 1 => ("StairLight", "trial", "LStairLight$Stairs;", true)
  | 2 => ("StairLight", "history", "LStairLight$History;", true)
  | _ => ("StairLight", "walks", "LStairLight$Walks;", true)
def tyX5 : Nat → FieldType := fun k => match k with
  | 0 => .object "StairLight$Stairs"
  | 1 => .object "StairLight$Stairs"
  | 2 => .object "StairLight$History"
  | _ => .object "StairLight$Walks"
abbrev wsX50 : List Cond := u_ws RX5 TX5 4
theorem nmX5 : ∀ a, a < 4 → ∀ b, b < 4 → a ≠ b → (TX5 a).2.1 ≠ (TX5 b).2.1 := by decide +kernel
theorem tyX5_ok : ∀ k, k < 4 → parseFieldDescriptor (TX5 k).2.2.1 = some (tyX5 k) := by decide +kernel
abbrev cX5_init : ByteArray := prog_1_method_1_code
def yX5_init : MethodName := ⟨RX5, "<init>", "()V"⟩
abbrev cX5_come : ByteArray := prog_1_method_2_code
def yX5_come : MethodName := ⟨RX5, "come", "(II)I"⟩
abbrev cX5_turn : ByteArray := prog_1_method_3_code
def yX5_turn : MethodName := ⟨RX5, "turn", "(II)I"⟩
abbrev cX5_press : ByteArray := prog_1_method_4_code
def yX5_press : MethodName := ⟨RX5, "press", "(I)I"⟩
abbrev cX5_sensor : ByteArray := prog_1_method_5_code
def yX5_sensor : MethodName := ⟨RX5, "sensor", "(IZ)I"⟩
abbrev cX5_night : ByteArray := prog_1_method_6_code
def yX5_night : MethodName := ⟨RX5, "night", "(Z)I"⟩
abbrev cX5_fire : ByteArray := prog_1_method_7_code
def yX5_fire : MethodName := ⟨RX5, "fire", "(Z)I"⟩
abbrev cX5_set : ByteArray := prog_1_method_8_code
def yX5_set : MethodName := ⟨RX5, "set", "(II)I"⟩
abbrev cX5_pass : ByteArray := prog_1_method_9_code
def yX5_pass : MethodName := ⟨RX5, "pass", "(I)I"⟩
abbrev cX5_append : ByteArray := prog_1_method_10_code
def yX5_append : MethodName := ⟨RX5, "append", "(I)I"⟩
abbrev cX5_clearBuffer : ByteArray := prog_1_method_11_code
def yX5_clearBuffer : MethodName := ⟨RX5, "clearBuffer", "()I"⟩
abbrev cX5_firstError : ByteArray := prog_1_method_12_code
def yX5_firstError : MethodName := ⟨RX5, "firstError", "()I"⟩
abbrev cX5_comeAll : ByteArray := prog_1_method_13_code
def yX5_comeAll : MethodName := ⟨RX5, "comeAll", "()I"⟩
abbrev cX5_undo : ByteArray := prog_1_method_14_code
def yX5_undo : MethodName := ⟨RX5, "undo", "()I"⟩
abbrev cX5_floor : ByteArray := prog_1_method_15_code
def yX5_floor : MethodName := ⟨RX5, "floor", "(II)I"⟩
abbrev cX5_person : ByteArray := prog_1_method_16_code
def yX5_person : MethodName := ⟨RX5, "person", "(II)I"⟩
abbrev cX5_count : ByteArray := prog_1_method_17_code
def yX5_count : MethodName := ⟨RX5, "count", "(I)I"⟩
abbrev cX5_setting : ByteArray := prog_1_method_18_code
def yX5_setting : MethodName := ⟨RX5, "setting", "(I)I"⟩
abbrev cX5_ifPassed : ByteArray := prog_1_method_19_code
def yX5_ifPassed : MethodName := ⟨RX5, "ifPassed", "(II)I"⟩
abbrev cX5_dark : ByteArray := prog_1_method_20_code
def yX5_dark : MethodName := ⟨RX5, "dark", "(II)I"⟩
abbrev cX5_leastTime : ByteArray := prog_1_method_21_code
def yX5_leastTime : MethodName := ⟨RX5, "leastTime", "(II)I"⟩
abbrev cX5_worst : ByteArray := prog_1_method_22_code
def yX5_worst : MethodName := ⟨RX5, "worst", "()I"⟩
abbrev cX5_lightness : ByteArray := prog_1_method_23_code
def yX5_lightness : MethodName := ⟨RX5, "lightness", "()D"⟩
abbrev cX5_digest : ByteArray := prog_1_method_24_code
def yX5_digest : MethodName := ⟨RX5, "digest", "()J"⟩
abbrev cX5_checkFloor : ByteArray := prog_1_method_25_code
def yX5_checkFloor : MethodName := ⟨RX5, "checkFloor", "(I)V"⟩
abbrev cX5_checkWay : ByteArray := prog_1_method_26_code
def yX5_checkWay : MethodName := ⟨RX5, "checkWay", "(II)V"⟩
abbrev cX5_checkSetting : ByteArray := prog_1_method_27_code
def yX5_checkSetting : MethodName := ⟨RX5, "checkSetting", "(I)V"⟩
abbrev cX5_checkSeconds : ByteArray := prog_1_method_28_code
def yX5_checkSeconds : MethodName := ⟨RX5, "checkSeconds", "(I)V"⟩
abbrev cX5_checkWhat : ByteArray := prog_1_method_29_code
def yX5_checkWhat : MethodName := ⟨RX5, "checkWhat", "(II)V"⟩
abbrev cX5_counted : ByteArray := prog_1_method_30_code
def yX5_counted : MethodName := ⟨RX5, "counted", "(I)I"⟩
abbrev cX5_outlook : ByteArray := prog_1_method_31_code
def yX5_outlook : MethodName := ⟨RX5, "outlook", "(II)I"⟩
abbrev cX5_darkWith : ByteArray := prog_1_method_32_code
def yX5_darkWith : MethodName := ⟨RX5, "darkWith", "(III)I"⟩
abbrev cX5_leastBurnTime : ByteArray := prog_1_method_33_code
def yX5_leastBurnTime : MethodName := ⟨RX5, "leastBurnTime", "(II)I"⟩
abbrev cX5_mixed : ByteArray := prog_1_method_34_code
def yX5_mixed : MethodName := ⟨RX5, "mixed", "(JJ)J"⟩
abbrev cX5_mixedWithFloors : ByteArray := prog_1_method_35_code
def yX5_mixedWithFloors : MethodName := ⟨RX5, "mixedWithFloors", "(J)J"⟩
abbrev cX5_mixedWithPeople : ByteArray := prog_1_method_36_code
def yX5_mixedWithPeople : MethodName := ⟨RX5, "mixedWithPeople", "(J)J"⟩
abbrev cX5_mixedWithBuffer : ByteArray := prog_1_method_37_code
def yX5_mixedWithBuffer : MethodName := ⟨RX5, "mixedWithBuffer", "(J)J"⟩
abbrev cX5_bitsOf : ByteArray := prog_1_method_38_code
def yX5_bitsOf : MethodName := ⟨RX5, "bitsOf", "(D)J"⟩
abbrev cX5_at : ByteArray := prog_1_method_39_code
def yX5_at : MethodName := ⟨RX5, "at", "([II)I"⟩
abbrev cX5_put : ByteArray := prog_1_method_40_code
def yX5_put : MethodName := ⟨RX5, "put", "([III)V"⟩
abbrev cX5_raise : ByteArray := prog_1_method_41_code
def yX5_raise : MethodName := ⟨RX5, "raise", "([III)V"⟩
abbrev cX5_sumOf : ByteArray := prog_1_method_42_code
def yX5_sumOf : MethodName := ⟨RX5, "sumOf", "([I)I"⟩
abbrev cX5_copyRow : ByteArray := prog_1_method_43_code
def yX5_copyRow : MethodName := ⟨RX5, "copyRow", "([I[I)V"⟩
abbrev cX5_numberOf : ByteArray := prog_1_method_44_code
def yX5_numberOf : MethodName := ⟨RX5, "numberOf", "(Z)I"⟩
def RX6 : String := "StairLightModel"
def TX6 : u_T := fun k => match k with
  | 0 => ("StairLightModel", "now", "[I", true)
  | 1 => ("StairLightModel", "then", "[I", true)
  | 2 => ("StairLightModel", "past", "[I", true)
  | 3 => ("StairLightModel", "kept", "I", false)
  | 4 => ("StairLightModel", "text", "[I", true)
  | 5 => ("StairLightModel", "typed", "I", false)
  | 6 => ("StairLightModel", "thrown", "I", false)
  | 7 => ("StairLightModel", "at", "I", false)
  | 8 => ("StairLightModel", "isFault", "Z", false)
  | 9 => ("StairLightModel", "told", "[I", true)
  | 10 => ("StairLightModel", "tolds", "I", false)
  | 11 => ("StairLightModel", "watched", "I", false)
  | _ => ("StairLightModel", "darks", "I", false)
def tyX6 : Nat → FieldType := fun k => match k with
  | 0 => .array .int
  | 1 => .array .int
  | 2 => .array .int
  | 3 => .int
  | 4 => .array .int
  | 5 => .int
  | 6 => .int
  | 7 => .int
  | 8 => .boolean
  | 9 => .array .int
  | 10 => .int
  | 11 => .int
  | _ => .int
abbrev wsX60 : List Cond := u_ws RX6 TX6 13
theorem nmX6 : ∀ a, a < 13 → ∀ b, b < 13 → a ≠ b → (TX6 a).2.1 ≠ (TX6 b).2.1 := by decide +kernel
theorem tyX6_ok : ∀ k, k < 13 → parseFieldDescriptor (TX6 k).2.2.1 = some (tyX6 k) := by decide +kernel
abbrev cX6_init : ByteArray := prog_8_method_1_code
def yX6_init : MethodName := ⟨RX6, "<init>", "()V"⟩
abbrev cX6_thrown : ByteArray := prog_8_method_2_code
def yX6_thrown : MethodName := ⟨RX6, "thrown", "()I"⟩
abbrev cX6_fails : ByteArray := prog_8_method_3_code
def yX6_fails : MethodName := ⟨RX6, "fails", "(I)I"⟩
abbrev cX6_in : ByteArray := prog_8_method_4_code
def yX6_in : MethodName := ⟨RX6, "in", "(III)Z"⟩
abbrev cX6_isFloor : ByteArray := prog_8_method_5_code
def yX6_isFloor : MethodName := ⟨RX6, "isFloor", "(I)Z"⟩
abbrev cX6_of : ByteArray := prog_8_method_6_code
def yX6_of : MethodName := ⟨RX6, "of", "([III)I"⟩
abbrev cX6_by : ByteArray := prog_8_method_7_code
def yX6_by : MethodName := ⟨RX6, "by", "([III)I"⟩
abbrev cX6_copies : ByteArray := prog_8_method_8_code
def yX6_copies : MethodName := ⟨RX6, "copies", "([II[II)V"⟩
abbrev cX6_saves : ByteArray := prog_8_method_9_code
def yX6_saves : MethodName := ⟨RX6, "saves", "()V"⟩
abbrev cX6_undo : ByteArray := prog_8_method_10_code
def yX6_undo : MethodName := ⟨RX6, "undo", "()I"⟩
abbrev cX6_lamp : ByteArray := prog_8_method_11_code
def yX6_lamp : MethodName := ⟨RX6, "lamp", "([II)I"⟩
abbrev cX6_switches : ByteArray := prog_8_method_12_code
def yX6_switches : MethodName := ⟨RX6, "switches", "([II)V"⟩
abbrev cX6_on : ByteArray := prog_8_method_13_code
def yX6_on : MethodName := ⟨RX6, "on", "([II)I"⟩
abbrev cX6_leaves : ByteArray := prog_8_method_14_code
def yX6_leaves : MethodName := ⟨RX6, "leaves", "([II)V"⟩
abbrev cX6_walks : ByteArray := prog_8_method_15_code
def yX6_walks : MethodName := ⟨RX6, "walks", "([I)V"⟩
abbrev cX6_looks : ByteArray := prog_8_method_16_code
def yX6_looks : MethodName := ⟨RX6, "looks", "([I)V"⟩
abbrev cX6_second : ByteArray := prog_8_method_17_code
def yX6_second : MethodName := ⟨RX6, "second", "([I)V"⟩
abbrev cX6_sum : ByteArray := prog_8_method_18_code
def yX6_sum : MethodName := ⟨RX6, "sum", "([II)I"⟩
abbrev cX6_lit : ByteArray := prog_8_method_19_code
def yX6_lit : MethodName := ⟨RX6, "lit", "([I)I"⟩
abbrev cX6_comes : ByteArray := prog_8_method_20_code
def yX6_comes : MethodName := ⟨RX6, "comes", "([III)I"⟩
abbrev cX6_mayWalk : ByteArray := prog_8_method_21_code
def yX6_mayWalk : MethodName := ⟨RX6, "mayWalk", "(II)I"⟩
abbrev cX6_come : ByteArray := prog_8_method_22_code
def yX6_come : MethodName := ⟨RX6, "come", "(II)I"⟩
abbrev cX6_changes : ByteArray := prog_8_method_23_code
def yX6_changes : MethodName := ⟨RX6, "changes", "(II)I"⟩
abbrev cX6_turn : ByteArray := prog_8_method_24_code
def yX6_turn : MethodName := ⟨RX6, "turn", "(II)I"⟩
abbrev cX6_press : ByteArray := prog_8_method_25_code
def yX6_press : MethodName := ⟨RX6, "press", "(I)I"⟩
abbrev cX6_sensor : ByteArray := prog_8_method_26_code
def yX6_sensor : MethodName := ⟨RX6, "sensor", "(IZ)I"⟩
abbrev cX6_night : ByteArray := prog_8_method_27_code
def yX6_night : MethodName := ⟨RX6, "night", "(Z)I"⟩
abbrev cX6_fire : ByteArray := prog_8_method_28_code
def yX6_fire : MethodName := ⟨RX6, "fire", "(Z)I"⟩
abbrev cX6_isFor : ByteArray := prog_8_method_29_code
def yX6_isFor : MethodName := ⟨RX6, "isFor", "(II)Z"⟩
abbrev cX6_set : ByteArray := prog_8_method_30_code
def yX6_set : MethodName := ⟨RX6, "set", "(II)I"⟩
abbrev cX6_pass : ByteArray := prog_8_method_31_code
def yX6_pass : MethodName := ⟨RX6, "pass", "(I)I"⟩
abbrev cX6_append : ByteArray := prog_8_method_32_code
def yX6_append : MethodName := ⟨RX6, "append", "(I)I"⟩
abbrev cX6_clearBuffer : ByteArray := prog_8_method_33_code
def yX6_clearBuffer : MethodName := ⟨RX6, "clearBuffer", "()I"⟩
abbrev cX6_isAt : ByteArray := prog_8_method_34_code
def yX6_isAt : MethodName := ⟨RX6, "isAt", "(II)Z"⟩
abbrev cX6_stops : ByteArray := prog_8_method_35_code
def yX6_stops : MethodName := ⟨RX6, "stops", "()Z"⟩
abbrev cX6_isPart : ByteArray := prog_8_method_36_code
def yX6_isPart : MethodName := ⟨RX6, "isPart", "()Z"⟩
abbrev cX6_isText : ByteArray := prog_8_method_37_code
def yX6_isText : MethodName := ⟨RX6, "isText", "()Z"⟩
abbrev cX6_firstError : ByteArray := prog_8_method_38_code
def yX6_firstError : MethodName := ⟨RX6, "firstError", "()I"⟩
abbrev cX6_comeAll : ByteArray := prog_8_method_39_code
def yX6_comeAll : MethodName := ⟨RX6, "comeAll", "()I"⟩
abbrev cX6_ofFloor : ByteArray := prog_8_method_40_code
def yX6_ofFloor : MethodName := ⟨RX6, "ofFloor", "(II)I"⟩
abbrev cX6_floor : ByteArray := prog_8_method_41_code
def yX6_floor : MethodName := ⟨RX6, "floor", "(II)I"⟩
abbrev cX6_person : ByteArray := prog_8_method_42_code
def yX6_person : MethodName := ⟨RX6, "person", "(II)I"⟩
abbrev cX6_counted : ByteArray := prog_8_method_43_code
def yX6_counted : MethodName := ⟨RX6, "counted", "(I)I"⟩
abbrev cX6_count : ByteArray := prog_8_method_44_code
def yX6_count : MethodName := ⟨RX6, "count", "(I)I"⟩
abbrev cX6_setting : ByteArray := prog_8_method_45_code
def yX6_setting : MethodName := ⟨RX6, "setting", "(I)I"⟩
abbrev cX6_byPassing : ByteArray := prog_8_method_46_code
def yX6_byPassing : MethodName := ⟨RX6, "byPassing", "(II)I"⟩
abbrev cX6_ifPassed : ByteArray := prog_8_method_47_code
def yX6_ifPassed : MethodName := ⟨RX6, "ifPassed", "(II)I"⟩
abbrev cX6_isThere : ByteArray := prog_8_method_48_code
def yX6_isThere : MethodName := ⟨RX6, "isThere", "([II)Z"⟩
abbrev cX6_walked : ByteArray := prog_8_method_49_code
def yX6_walked : MethodName := ⟨RX6, "walked", "(III)I"⟩
abbrev cX6_dark : ByteArray := prog_8_method_50_code
def yX6_dark : MethodName := ⟨RX6, "dark", "(II)I"⟩
abbrev cX6_least : ByteArray := prog_8_method_51_code
def yX6_least : MethodName := ⟨RX6, "least", "(II)I"⟩
abbrev cX6_leastTime : ByteArray := prog_8_method_52_code
def yX6_leastTime : MethodName := ⟨RX6, "leastTime", "(II)I"⟩
abbrev cX6_missed : ByteArray := prog_8_method_53_code
def yX6_missed : MethodName := ⟨RX6, "missed", "()I"⟩
abbrev cX6_worst : ByteArray := prog_8_method_54_code
def yX6_worst : MethodName := ⟨RX6, "worst", "()I"⟩
abbrev cX6_share : ByteArray := prog_8_method_55_code
def yX6_share : MethodName := ⟨RX6, "share", "()D"⟩
abbrev cX6_lightness : ByteArray := prog_8_method_56_code
def yX6_lightness : MethodName := ⟨RX6, "lightness", "()D"⟩
abbrev cX6_digest : ByteArray := prog_8_method_57_code
def yX6_digest : MethodName := ⟨RX6, "digest", "()J"⟩
def RJxe99ae : String := "java/lang/Double"
def TJxe99ae : u_T := fun k => match k with
  | _ => ("", "", "", false)
def tyJxe99ae : Nat → FieldType := fun k => match k with
  | _ => .int
abbrev wsJxe99ae0 : List Cond := u_ws RJxe99ae TJxe99ae 0
theorem nmJxe99ae : ∀ a, a < 0 → ∀ b, b < 0 → a ≠ b → (TJxe99ae a).2.1 ≠ (TJxe99ae b).2.1 := by decide +kernel
theorem tyJxe99ae_ok : ∀ k, k < 0 → parseFieldDescriptor (TJxe99ae k).2.2.1 = some (tyJxe99ae k) := by decide +kernel
abbrev cJxe99ae_isNaN_b9ae7 : ByteArray := prog_9_method_6_code
def yJxe99ae_isNaN_b9ae7 : MethodName := ⟨RJxe99ae, "isNaN", "(D)Z"⟩
abbrev cJxe99ae_doubleToLongBits_ccdee : ByteArray := prog_9_method_23_code
def yJxe99ae_doubleToLongBits_ccdee : MethodName := ⟨RJxe99ae, "doubleToLongBits", "(D)J"⟩
def RJ0 : String := "java/lang/String"
def TJ0 : u_T := fun k => match k with
  | _ => ("", "", "", false)
def tyJ0 : Nat → FieldType := fun k => match k with
  | _ => .int
abbrev wsJ00 : List Cond := u_ws RJ0 TJ0 0
theorem nmJ0 : ∀ a, a < 0 → ∀ b, b < 0 → a ≠ b → (TJ0 a).2.1 ≠ (TJ0 b).2.1 := by decide +kernel
theorem tyJ0_ok : ∀ k, k < 0 → parseFieldDescriptor (TJ0 k).2.2.1 = some (tyJ0 k) := by decide +kernel
def RL : String := "StairLightLaw"
abbrev cL_come : ByteArray := method_3_code
def yL_come : MethodName := ⟨RL, "come", "(LStairLight;II[J)I"⟩
abbrev cL_turn : ByteArray := method_4_code
def yL_turn : MethodName := ⟨RL, "turn", "(LStairLight;II[J)I"⟩
abbrev cL_press : ByteArray := method_5_code
def yL_press : MethodName := ⟨RL, "press", "(LStairLight;I[J)I"⟩
abbrev cL_sensor : ByteArray := method_6_code
def yL_sensor : MethodName := ⟨RL, "sensor", "(LStairLight;IZ[J)I"⟩
abbrev cL_set : ByteArray := method_7_code
def yL_set : MethodName := ⟨RL, "set", "(LStairLight;II[J)I"⟩
abbrev cL_pass : ByteArray := method_8_code
def yL_pass : MethodName := ⟨RL, "pass", "(LStairLight;I[J)I"⟩
abbrev cL_append : ByteArray := method_9_code
def yL_append : MethodName := ⟨RL, "append", "(LStairLight;I[J)I"⟩
abbrev cL_comeAll : ByteArray := method_10_code
def yL_comeAll : MethodName := ⟨RL, "comeAll", "(LStairLight;[J)I"⟩
abbrev cL_undo : ByteArray := method_11_code
def yL_undo : MethodName := ⟨RL, "undo", "(LStairLight;[J)I"⟩
abbrev cL_floor : ByteArray := method_12_code
def yL_floor : MethodName := ⟨RL, "floor", "(LStairLight;II[J)I"⟩
abbrev cL_person : ByteArray := method_13_code
def yL_person : MethodName := ⟨RL, "person", "(LStairLight;II[J)I"⟩
abbrev cL_count : ByteArray := method_14_code
def yL_count : MethodName := ⟨RL, "count", "(LStairLight;I[J)I"⟩
abbrev cL_setting : ByteArray := method_15_code
def yL_setting : MethodName := ⟨RL, "setting", "(LStairLight;I[J)I"⟩
abbrev cL_ifPassed : ByteArray := method_16_code
def yL_ifPassed : MethodName := ⟨RL, "ifPassed", "(LStairLight;II[J)I"⟩
abbrev cL_dark : ByteArray := method_17_code
def yL_dark : MethodName := ⟨RL, "dark", "(LStairLight;II[J)I"⟩
abbrev cL_leastTime : ByteArray := method_18_code
def yL_leastTime : MethodName := ⟨RL, "leastTime", "(LStairLight;II[J)I"⟩
abbrev cL_law : ByteArray := code
def yL_law : MethodName := ⟨RL, "law", "([I)Z"⟩
abbrev vwCl : List vw_C := [(RX0, TX0, 6), (RX1, TX1, 3), (RX2, TX2, 6), (RX3, TX3, 7), (RX4, TX4, 2), (RX5, TX5, 4), (RX6, TX6, 13)]
/-- the tables' words that a run keeps -/
def sv_tbl : List Cond := lw_tbl.filter goodWord
theorem sv_in {w : Cond} (i : Nat) (h : lw_tbl[i]? = some w) (hg : goodWord w = true) : w ∈ sv_tbl := List.mem_filter.mpr ⟨List.mem_of_getElem? h, hg⟩
theorem kw_0 : Cond.selects RX1 yX1_stateAt yX1_stateAt ∈ sv_tbl := sv_in 0 (by decide +kernel) rfl
theorem kw_1 : Cond.selects RX4 yX4_fitsAt yX4_fitsAt ∈ sv_tbl := sv_in 1 (by decide +kernel) rfl
theorem kw_2 : Cond.selects RX5 yX5_counted yX5_counted ∈ sv_tbl := sv_in 2 (by decide +kernel) rfl
theorem kw_3 : Cond.selects RX5 yX5_mixedWithFloors yX5_mixedWithFloors ∈ sv_tbl := sv_in 3 (by decide +kernel) rfl
theorem kw_4 : Cond.selects RX5 yX5_mixedWithPeople yX5_mixedWithPeople ∈ sv_tbl := sv_in 4 (by decide +kernel) rfl
theorem kw_5 : Cond.selects RX5 yX5_outlook yX5_outlook ∈ sv_tbl := sv_in 5 (by decide +kernel) rfl
theorem kw_6 : Cond.selects RX2 yX2_walk yX2_walk ∈ sv_tbl := sv_in 6 (by decide +kernel) rfl
theorem kw_7 : Cond.selects RX2 yX2_moveUp yX2_moveUp ∈ sv_tbl := sv_in 7 (by decide +kernel) rfl
theorem kw_8 : Cond.selects RX3 yX3_switchOnAround yX3_switchOnAround ∈ sv_tbl := sv_in 8 (by decide +kernel) rfl
theorem kw_9 : Cond.selects RX3 yX3_countSecondOn yX3_countSecondOn ∈ sv_tbl := sv_in 9 (by decide +kernel) rfl
theorem kw_10 : Cond.selects RX5 yX5_darkWith yX5_darkWith ∈ sv_tbl := sv_in 10 (by decide +kernel) rfl
theorem kw_11 : Cond.selects RX5 yX5_leastBurnTime yX5_leastBurnTime ∈ sv_tbl := sv_in 11 (by decide +kernel) rfl
theorem kw_12 : Cond.selects RX5 yX5_mixedWithBuffer yX5_mixedWithBuffer ∈ sv_tbl := sv_in 12 (by decide +kernel) rfl
theorem kw_14 : Cond.selects RX6 yX6_fails yX6_fails ∈ sv_tbl := sv_in 14 (by decide +kernel) rfl
theorem kw_15 : Cond.selects RX6 yX6_saves yX6_saves ∈ sv_tbl := sv_in 15 (by decide +kernel) rfl
theorem kw_16 : Cond.selects RX6 yX6_changes yX6_changes ∈ sv_tbl := sv_in 16 (by decide +kernel) rfl
theorem kw_17 : Cond.selects RX6 yX6_second yX6_second ∈ sv_tbl := sv_in 17 (by decide +kernel) rfl
theorem kw_18 : Cond.selects RX6 yX6_isText yX6_isText ∈ sv_tbl := sv_in 18 (by decide +kernel) rfl
theorem kw_19 : Cond.selects RX6 yX6_isPart yX6_isPart ∈ sv_tbl := sv_in 19 (by decide +kernel) rfl
theorem kw_20 : Cond.selects RX6 yX6_isAt yX6_isAt ∈ sv_tbl := sv_in 20 (by decide +kernel) rfl
theorem kw_21 : Cond.selects RX6 yX6_stops yX6_stops ∈ sv_tbl := sv_in 21 (by decide +kernel) rfl
theorem kw_22 : Cond.selects RX6 yX6_ofFloor yX6_ofFloor ∈ sv_tbl := sv_in 22 (by decide +kernel) rfl
theorem kw_23 : Cond.selects RX6 yX6_counted yX6_counted ∈ sv_tbl := sv_in 23 (by decide +kernel) rfl
theorem kw_24 : Cond.selects RX6 yX6_byPassing yX6_byPassing ∈ sv_tbl := sv_in 24 (by decide +kernel) rfl
theorem kw_25 : Cond.selects RX6 yX6_walked yX6_walked ∈ sv_tbl := sv_in 25 (by decide +kernel) rfl
theorem kw_26 : Cond.selects RX6 yX6_least yX6_least ∈ sv_tbl := sv_in 26 (by decide +kernel) rfl
theorem kw_27 : Cond.selects RX6 yX6_missed yX6_missed ∈ sv_tbl := sv_in 27 (by decide +kernel) rfl
theorem kw_28 : Cond.selects RX6 yX6_share yX6_share ∈ sv_tbl := sv_in 28 (by decide +kernel) rfl
theorem kw_29 : Cond.initialized RL ∈ sv_tbl := sv_in 29 (by decide +kernel) rfl
theorem kw_30 : Cond.initialized RX5 ∈ sv_tbl := sv_in 30 (by decide +kernel) rfl
theorem kw_31 : Cond.initialized RX3 ∈ sv_tbl := sv_in 31 (by decide +kernel) rfl
theorem kw_32 : Cond.initialized RX0 ∈ sv_tbl := sv_in 32 (by decide +kernel) rfl
theorem kw_33 : Cond.initialized RX2 ∈ sv_tbl := sv_in 33 (by decide +kernel) rfl
theorem kw_34 : Cond.initialized RX1 ∈ sv_tbl := sv_in 34 (by decide +kernel) rfl
theorem kw_35 : Cond.initialized RX4 ∈ sv_tbl := sv_in 35 (by decide +kernel) rfl
theorem kw_36 : Cond.initialized RX6 ∈ sv_tbl := sv_in 36 (by decide +kernel) rfl
theorem kw_37 : Cond.initialized "java/lang/Throwable" ∈ sv_tbl := sv_in 37 (by decide +kernel) rfl
theorem kw_38 : Cond.initialized "java/lang/Exception" ∈ sv_tbl := sv_in 38 (by decide +kernel) rfl
theorem kw_39 : Cond.initialized "java/lang/RuntimeException" ∈ sv_tbl := sv_in 39 (by decide +kernel) rfl
theorem kw_40 : Cond.initialized "java/lang/IndexOutOfBoundsException" ∈ sv_tbl := sv_in 40 (by decide +kernel) rfl
theorem kw_41 : Cond.initialized "java/lang/IllegalArgumentException" ∈ sv_tbl := sv_in 41 (by decide +kernel) rfl
theorem kw_42 : Cond.initialized "java/lang/IllegalStateException" ∈ sv_tbl := sv_in 42 (by decide +kernel) rfl
theorem kw_43 : Cond.initialized RJxe99ae ∈ sv_tbl := sv_in 43 (by decide +kernel) rfl
theorem kw_44 : Cond.classLink RL 8 RX5 ∈ sv_tbl := sv_in 44 (by decide +kernel) rfl
theorem kw_45 : Cond.instantiable RX5 4 ∈ sv_tbl := sv_in 45 (by decide +kernel) rfl
theorem kw_46 : Cond.methodLink RL 67 yX5_init ∈ sv_tbl := sv_in 46 (by decide +kernel) rfl
theorem kw_47 : Cond.instanceMethod yX5_init ∈ sv_tbl := sv_in 47 (by decide +kernel) rfl
theorem kw_48 : Cond.code yX5_init cX5_init 1 none ∈ sv_tbl := sv_in 48 (by decide +kernel) rfl
theorem kw_49 : Cond.methodLink RX5 1 Lib.objectInit ∈ sv_tbl := sv_in 49 (by decide +kernel) rfl
theorem kw_50 : Cond.instanceMethod Lib.objectInit ∈ sv_tbl := sv_in 50 (by decide +kernel) rfl
theorem kw_51 : Cond.code Lib.objectInit ⟨#[0xb1]⟩ 1 none ∈ sv_tbl := sv_in 51 (by decide +kernel) rfl
theorem kw_52 : Cond.classLink RX5 7 RX3 ∈ sv_tbl := sv_in 52 (by decide +kernel) rfl
theorem kw_53 : Cond.instantiable RX3 7 ∈ sv_tbl := sv_in 53 (by decide +kernel) rfl
theorem kw_54 : Cond.methodLink RX5 9 yX3_init ∈ sv_tbl := sv_in 54 (by decide +kernel) rfl
theorem kw_55 : Cond.instanceMethod yX3_init ∈ sv_tbl := sv_in 55 (by decide +kernel) rfl
theorem kw_56 : Cond.code yX3_init cX3_init 1 none ∈ sv_tbl := sv_in 56 (by decide +kernel) rfl
theorem kw_57 : Cond.methodLink RX3 3 Lib.objectInit ∈ sv_tbl := sv_in 57 (by decide +kernel) rfl
theorem kw_58 : Cond.classLink RX3 9 RX0 ∈ sv_tbl := sv_in 58 (by decide +kernel) rfl
theorem kw_59 : Cond.instantiable RX0 6 ∈ sv_tbl := sv_in 59 (by decide +kernel) rfl
theorem kw_60 : Cond.methodLink RX3 11 yX0_init ∈ sv_tbl := sv_in 60 (by decide +kernel) rfl
theorem kw_61 : Cond.instanceMethod yX0_init ∈ sv_tbl := sv_in 61 (by decide +kernel) rfl
theorem kw_62 : Cond.code yX0_init cX0_init 2 none ∈ sv_tbl := sv_in 62 (by decide +kernel) rfl
theorem kw_63 : Cond.methodLink RX0 3 Lib.objectInit ∈ sv_tbl := sv_in 63 (by decide +kernel) rfl
theorem kw_64 : Cond.fieldLink RX0 9 "StairLight$Floors" "burning" "[I" ∈ sv_tbl := sv_in 64 (by decide +kernel) rfl
theorem kw_65 : Cond.fieldLink RX5 94 "StairLight$Floors" "burning" "[I" ∈ sv_tbl := sv_in 65 (by decide +kernel) rfl
theorem kw_66 : Cond.fieldLink RX3 73 "StairLight$Floors" "burning" "[I" ∈ sv_tbl := sv_in 66 (by decide +kernel) rfl
theorem kw_67 : Cond.fieldLink RX0 15 "StairLight$Floors" "sound" "[I" ∈ sv_tbl := sv_in 67 (by decide +kernel) rfl
theorem kw_68 : Cond.fieldLink RX5 102 "StairLight$Floors" "sound" "[I" ∈ sv_tbl := sv_in 68 (by decide +kernel) rfl
theorem kw_69 : Cond.fieldLink RX3 102 "StairLight$Floors" "sound" "[I" ∈ sv_tbl := sv_in 69 (by decide +kernel) rfl
theorem kw_70 : Cond.fieldLink RX0 18 "StairLight$Floors" "darkSeconds" "[I" ∈ sv_tbl := sv_in 70 (by decide +kernel) rfl
theorem kw_71 : Cond.fieldLink RX3 80 "StairLight$Floors" "darkSeconds" "[I" ∈ sv_tbl := sv_in 71 (by decide +kernel) rfl
theorem kw_72 : Cond.fieldLink RX5 260 "StairLight$Floors" "darkSeconds" "[I" ∈ sv_tbl := sv_in 72 (by decide +kernel) rfl
theorem kw_73 : Cond.fieldLink RX0 21 "StairLight$Floors" "dimSeconds" "[I" ∈ sv_tbl := sv_in 73 (by decide +kernel) rfl
theorem kw_74 : Cond.fieldLink RX3 129 "StairLight$Floors" "dimSeconds" "[I" ∈ sv_tbl := sv_in 74 (by decide +kernel) rfl
theorem kw_75 : Cond.fieldLink RX5 267 "StairLight$Floors" "dimSeconds" "[I" ∈ sv_tbl := sv_in 75 (by decide +kernel) rfl
theorem kw_76 : Cond.fieldLink RX0 24 "StairLight$Floors" "energy" "[I" ∈ sv_tbl := sv_in 76 (by decide +kernel) rfl
theorem kw_77 : Cond.fieldLink RX3 116 "StairLight$Floors" "energy" "[I" ∈ sv_tbl := sv_in 77 (by decide +kernel) rfl
theorem kw_78 : Cond.fieldLink RX5 270 "StairLight$Floors" "energy" "[I" ∈ sv_tbl := sv_in 78 (by decide +kernel) rfl
theorem kw_79 : Cond.fieldLink RX0 27 "StairLight$Floors" "kindled" "[I" ∈ sv_tbl := sv_in 79 (by decide +kernel) rfl
theorem kw_80 : Cond.fieldLink RX3 132 "StairLight$Floors" "kindled" "[I" ∈ sv_tbl := sv_in 80 (by decide +kernel) rfl
theorem kw_81 : Cond.laysFinal RX0 "StairLight$Floors" "burning" "[I" ∈ sv_tbl := sv_in 81 (by decide +kernel) rfl
theorem kw_83 : Cond.laysFinal RX0 "StairLight$Floors" "sound" "[I" ∈ sv_tbl := sv_in 83 (by decide +kernel) rfl
theorem kw_85 : Cond.laysFinal RX0 "StairLight$Floors" "darkSeconds" "[I" ∈ sv_tbl := sv_in 85 (by decide +kernel) rfl
theorem kw_87 : Cond.laysFinal RX0 "StairLight$Floors" "dimSeconds" "[I" ∈ sv_tbl := sv_in 87 (by decide +kernel) rfl
theorem kw_89 : Cond.laysFinal RX0 "StairLight$Floors" "energy" "[I" ∈ sv_tbl := sv_in 89 (by decide +kernel) rfl
theorem kw_91 : Cond.laysFinal RX0 "StairLight$Floors" "kindled" "[I" ∈ sv_tbl := sv_in 91 (by decide +kernel) rfl
theorem kw_94 : Cond.arrayClass .int ∈ sv_tbl := sv_in 94 (by decide +kernel) rfl
theorem kw_95 : Cond.classLink RX3 18 RX2 ∈ sv_tbl := sv_in 95 (by decide +kernel) rfl
theorem kw_96 : Cond.instantiable RX2 6 ∈ sv_tbl := sv_in 96 (by decide +kernel) rfl
theorem kw_97 : Cond.methodLink RX3 20 yX2_init ∈ sv_tbl := sv_in 97 (by decide +kernel) rfl
theorem kw_98 : Cond.instanceMethod yX2_init ∈ sv_tbl := sv_in 98 (by decide +kernel) rfl
theorem kw_99 : Cond.code yX2_init cX2_init 1 none ∈ sv_tbl := sv_in 99 (by decide +kernel) rfl
theorem kw_100 : Cond.methodLink RX2 3 Lib.objectInit ∈ sv_tbl := sv_in 100 (by decide +kernel) rfl
theorem kw_101 : Cond.fieldLink RX2 9 "StairLight$People" "numbers" "[I" ∈ sv_tbl := sv_in 101 (by decide +kernel) rfl
theorem kw_102 : Cond.fieldLink RX2 15 "StairLight$People" "floors" "[I" ∈ sv_tbl := sv_in 102 (by decide +kernel) rfl
theorem kw_103 : Cond.fieldLink RX3 111 "StairLight$People" "floors" "[I" ∈ sv_tbl := sv_in 103 (by decide +kernel) rfl
theorem kw_104 : Cond.fieldLink RX5 279 "StairLight$People" "floors" "[I" ∈ sv_tbl := sv_in 104 (by decide +kernel) rfl
theorem kw_105 : Cond.fieldLink RX2 18 "StairLight$People" "goals" "[I" ∈ sv_tbl := sv_in 105 (by decide +kernel) rfl
theorem kw_106 : Cond.fieldLink RX5 75 "StairLight$People" "goals" "[I" ∈ sv_tbl := sv_in 106 (by decide +kernel) rfl
theorem kw_107 : Cond.fieldLink RX2 21 "StairLight$People" "left" "[I" ∈ sv_tbl := sv_in 107 (by decide +kernel) rfl
theorem kw_108 : Cond.fieldLink RX2 24 "StairLight$People" "onStairs" "I" ∈ sv_tbl := sv_in 108 (by decide +kernel) rfl
theorem kw_109 : Cond.fieldLink RX5 41 "StairLight$People" "onStairs" "I" ∈ sv_tbl := sv_in 109 (by decide +kernel) rfl
theorem kw_110 : Cond.fieldLink RX3 93 "StairLight$People" "onStairs" "I" ∈ sv_tbl := sv_in 110 (by decide +kernel) rfl
theorem kw_111 : Cond.fieldLink RX2 28 "StairLight$People" "came" "I" ∈ sv_tbl := sv_in 111 (by decide +kernel) rfl
theorem kw_112 : Cond.fieldLink RX5 254 "StairLight$People" "came" "I" ∈ sv_tbl := sv_in 112 (by decide +kernel) rfl
theorem kw_113 : Cond.laysFinal RX2 "StairLight$People" "numbers" "[I" ∈ sv_tbl := sv_in 113 (by decide +kernel) rfl
theorem kw_115 : Cond.laysFinal RX2 "StairLight$People" "floors" "[I" ∈ sv_tbl := sv_in 115 (by decide +kernel) rfl
theorem kw_117 : Cond.laysFinal RX2 "StairLight$People" "goals" "[I" ∈ sv_tbl := sv_in 117 (by decide +kernel) rfl
theorem kw_119 : Cond.laysFinal RX2 "StairLight$People" "left" "[I" ∈ sv_tbl := sv_in 119 (by decide +kernel) rfl
theorem kw_121 : Cond.lays RX2 "StairLight$People" "onStairs" "I" ∈ sv_tbl := sv_in 121 (by decide +kernel) rfl
theorem kw_123 : Cond.lays RX2 "StairLight$People" "came" "I" ∈ sv_tbl := sv_in 123 (by decide +kernel) rfl
theorem kw_129 : Cond.static yX5_copyRow ∈ sv_tbl := sv_in 129 (by decide +kernel) rfl
theorem kw_130 : Cond.code yX5_copyRow cX5_copyRow 3 none ∈ sv_tbl := sv_in 130 (by decide +kernel) rfl
theorem kw_131 : Cond.fieldLink RX3 12 "StairLight$Stairs" "floors" "LStairLight$Floors;" ∈ sv_tbl := sv_in 131 (by decide +kernel) rfl
theorem kw_132 : Cond.fieldLink RX5 90 "StairLight$Stairs" "floors" "LStairLight$Floors;" ∈ sv_tbl := sv_in 132 (by decide +kernel) rfl
theorem kw_133 : Cond.fieldLink RX3 21 "StairLight$Stairs" "people" "LStairLight$People;" ∈ sv_tbl := sv_in 133 (by decide +kernel) rfl
theorem kw_134 : Cond.fieldLink RX5 37 "StairLight$Stairs" "people" "LStairLight$People;" ∈ sv_tbl := sv_in 134 (by decide +kernel) rfl
theorem kw_135 : Cond.fieldLink RX3 29 "StairLight$Stairs" "settings" "[I" ∈ sv_tbl := sv_in 135 (by decide +kernel) rfl
theorem kw_136 : Cond.fieldLink RX5 83 "StairLight$Stairs" "settings" "[I" ∈ sv_tbl := sv_in 136 (by decide +kernel) rfl
theorem kw_137 : Cond.fieldLink RX3 36 "StairLight$Stairs" "isNight" "Z" ∈ sv_tbl := sv_in 137 (by decide +kernel) rfl
theorem kw_138 : Cond.fieldLink RX5 113 "StairLight$Stairs" "isNight" "Z" ∈ sv_tbl := sv_in 138 (by decide +kernel) rfl
theorem kw_139 : Cond.fieldLink RX3 40 "StairLight$Stairs" "isFire" "Z" ∈ sv_tbl := sv_in 139 (by decide +kernel) rfl
theorem kw_140 : Cond.fieldLink RX5 117 "StairLight$Stairs" "isFire" "Z" ∈ sv_tbl := sv_in 140 (by decide +kernel) rfl
theorem kw_141 : Cond.fieldLink RX3 43 "StairLight$Stairs" "seconds" "I" ∈ sv_tbl := sv_in 141 (by decide +kernel) rfl
theorem kw_142 : Cond.fieldLink RX5 251 "StairLight$Stairs" "seconds" "I" ∈ sv_tbl := sv_in 142 (by decide +kernel) rfl
theorem kw_143 : Cond.fieldLink RX3 47 "StairLight$Stairs" "secondsOfPeople" "I" ∈ sv_tbl := sv_in 143 (by decide +kernel) rfl
theorem kw_144 : Cond.laysFinal RX3 "StairLight$Stairs" "floors" "LStairLight$Floors;" ∈ sv_tbl := sv_in 144 (by decide +kernel) rfl
theorem kw_146 : Cond.laysFinal RX3 "StairLight$Stairs" "people" "LStairLight$People;" ∈ sv_tbl := sv_in 146 (by decide +kernel) rfl
theorem kw_148 : Cond.laysFinal RX3 "StairLight$Stairs" "settings" "[I" ∈ sv_tbl := sv_in 148 (by decide +kernel) rfl
theorem kw_150 : Cond.lays RX3 "StairLight$Stairs" "isNight" "Z" ∈ sv_tbl := sv_in 150 (by decide +kernel) rfl
theorem kw_152 : Cond.lays RX3 "StairLight$Stairs" "isFire" "Z" ∈ sv_tbl := sv_in 152 (by decide +kernel) rfl
theorem kw_154 : Cond.lays RX3 "StairLight$Stairs" "seconds" "I" ∈ sv_tbl := sv_in 154 (by decide +kernel) rfl
theorem kw_156 : Cond.lays RX3 "StairLight$Stairs" "secondsOfPeople" "I" ∈ sv_tbl := sv_in 156 (by decide +kernel) rfl
theorem kw_159 : Cond.classLink RX5 19 RX1 ∈ sv_tbl := sv_in 159 (by decide +kernel) rfl
theorem kw_160 : Cond.instantiable RX1 3 ∈ sv_tbl := sv_in 160 (by decide +kernel) rfl
theorem kw_161 : Cond.methodLink RX5 21 yX1_init ∈ sv_tbl := sv_in 161 (by decide +kernel) rfl
theorem kw_162 : Cond.instanceMethod yX1_init ∈ sv_tbl := sv_in 162 (by decide +kernel) rfl
theorem kw_163 : Cond.code yX1_init cX1_init 2 none ∈ sv_tbl := sv_in 163 (by decide +kernel) rfl
theorem kw_164 : Cond.methodLink RX1 3 Lib.objectInit ∈ sv_tbl := sv_in 164 (by decide +kernel) rfl
theorem kw_165 : Cond.classLink RX1 9 RX3 ∈ sv_tbl := sv_in 165 (by decide +kernel) rfl
theorem kw_167 : Cond.methodLink RX1 17 yX3_init ∈ sv_tbl := sv_in 167 (by decide +kernel) rfl
theorem kw_168 : Cond.fieldLink RX1 11 "StairLight$History" "states" "[LStairLight$Stairs;" ∈ sv_tbl := sv_in 168 (by decide +kernel) rfl
theorem kw_169 : Cond.fieldLink RX1 18 "StairLight$History" "oldest" "I" ∈ sv_tbl := sv_in 169 (by decide +kernel) rfl
theorem kw_170 : Cond.fieldLink RX1 22 "StairLight$History" "held" "I" ∈ sv_tbl := sv_in 170 (by decide +kernel) rfl
theorem kw_171 : Cond.fieldLink RX5 179 "StairLight$History" "held" "I" ∈ sv_tbl := sv_in 171 (by decide +kernel) rfl
theorem kw_172 : Cond.laysFinal RX1 "StairLight$History" "states" "[LStairLight$Stairs;" ∈ sv_tbl := sv_in 172 (by decide +kernel) rfl
theorem kw_174 : Cond.lays RX1 "StairLight$History" "oldest" "I" ∈ sv_tbl := sv_in 174 (by decide +kernel) rfl
theorem kw_176 : Cond.lays RX1 "StairLight$History" "held" "I" ∈ sv_tbl := sv_in 176 (by decide +kernel) rfl
theorem kw_179 : Cond.classLink RX5 26 RX4 ∈ sv_tbl := sv_in 179 (by decide +kernel) rfl
theorem kw_180 : Cond.instantiable RX4 2 ∈ sv_tbl := sv_in 180 (by decide +kernel) rfl
theorem kw_181 : Cond.methodLink RX5 28 yX4_init ∈ sv_tbl := sv_in 181 (by decide +kernel) rfl
theorem kw_182 : Cond.instanceMethod yX4_init ∈ sv_tbl := sv_in 182 (by decide +kernel) rfl
theorem kw_183 : Cond.code yX4_init cX4_init 1 none ∈ sv_tbl := sv_in 183 (by decide +kernel) rfl
theorem kw_184 : Cond.methodLink RX4 3 Lib.objectInit ∈ sv_tbl := sv_in 184 (by decide +kernel) rfl
theorem kw_185 : Cond.fieldLink RX4 9 "StairLight$Walks" "codes" "[C" ∈ sv_tbl := sv_in 185 (by decide +kernel) rfl
theorem kw_186 : Cond.fieldLink RX4 15 "StairLight$Walks" "length" "I" ∈ sv_tbl := sv_in 186 (by decide +kernel) rfl
theorem kw_187 : Cond.fieldLink RX5 145 "StairLight$Walks" "length" "I" ∈ sv_tbl := sv_in 187 (by decide +kernel) rfl
theorem kw_188 : Cond.laysFinal RX4 "StairLight$Walks" "codes" "[C" ∈ sv_tbl := sv_in 188 (by decide +kernel) rfl
theorem kw_190 : Cond.lays RX4 "StairLight$Walks" "length" "I" ∈ sv_tbl := sv_in 190 (by decide +kernel) rfl
theorem kw_193 : Cond.arrayClass .char ∈ sv_tbl := sv_in 193 (by decide +kernel) rfl
theorem kw_194 : Cond.fieldLink RX5 10 "StairLight" "now" "LStairLight$Stairs;" ∈ sv_tbl := sv_in 194 (by decide +kernel) rfl
theorem kw_195 : Cond.fieldLink RX5 16 "StairLight" "trial" "LStairLight$Stairs;" ∈ sv_tbl := sv_in 195 (by decide +kernel) rfl
theorem kw_196 : Cond.fieldLink RX5 22 "StairLight" "history" "LStairLight$History;" ∈ sv_tbl := sv_in 196 (by decide +kernel) rfl
theorem kw_197 : Cond.fieldLink RX5 29 "StairLight" "walks" "LStairLight$Walks;" ∈ sv_tbl := sv_in 197 (by decide +kernel) rfl
theorem kw_198 : Cond.laysFinal RX5 "StairLight" "now" "LStairLight$Stairs;" ∈ sv_tbl := sv_in 198 (by decide +kernel) rfl
theorem kw_200 : Cond.laysFinal RX5 "StairLight" "trial" "LStairLight$Stairs;" ∈ sv_tbl := sv_in 200 (by decide +kernel) rfl
theorem kw_202 : Cond.laysFinal RX5 "StairLight" "history" "LStairLight$History;" ∈ sv_tbl := sv_in 202 (by decide +kernel) rfl
theorem kw_204 : Cond.laysFinal RX5 "StairLight" "walks" "LStairLight$Walks;" ∈ sv_tbl := sv_in 204 (by decide +kernel) rfl
theorem kw_207 : Cond.methodLink RL 91 yX5_night ∈ sv_tbl := sv_in 207 (by decide +kernel) rfl
theorem kw_208 : Cond.instanceMethod yX5_night ∈ sv_tbl := sv_in 208 (by decide +kernel) rfl
theorem kw_209 : Cond.selects RX5 yX5_night yX5_night ∈ sv_tbl := sv_in 209 (by decide +kernel) rfl
theorem kw_210 : Cond.code yX5_night cX5_night 3 (some .int) ∈ sv_tbl := sv_in 210 (by decide +kernel) rfl
theorem kw_211 : Cond.methodLink RX5 54 yX1_save ∈ sv_tbl := sv_in 211 (by decide +kernel) rfl
theorem kw_212 : Cond.instanceMethod yX1_save ∈ sv_tbl := sv_in 212 (by decide +kernel) rfl
theorem kw_213 : Cond.selects RX1 yX1_save yX1_save ∈ sv_tbl := sv_in 213 (by decide +kernel) rfl
theorem kw_214 : Cond.code yX1_save cX1_save 3 none ∈ sv_tbl := sv_in 214 (by decide +kernel) rfl
theorem kw_215 : Cond.methodLink RX1 25 yX1_stateAt ∈ sv_tbl := sv_in 215 (by decide +kernel) rfl
theorem kw_217 : Cond.instanceMethod yX1_stateAt ∈ sv_tbl := sv_in 217 (by decide +kernel) rfl
theorem kw_218 : Cond.code yX1_stateAt cX1_stateAt 2 (some (.object "StairLight$Stairs")) ∈ sv_tbl := sv_in 218 (by decide +kernel) rfl
theorem kw_219 : Cond.methodLink RX1 29 yX3_copyFrom ∈ sv_tbl := sv_in 219 (by decide +kernel) rfl
theorem kw_220 : Cond.instanceMethod yX3_copyFrom ∈ sv_tbl := sv_in 220 (by decide +kernel) rfl
theorem kw_221 : Cond.selects RX3 yX3_copyFrom yX3_copyFrom ∈ sv_tbl := sv_in 221 (by decide +kernel) rfl
theorem kw_222 : Cond.code yX3_copyFrom cX3_copyFrom 2 none ∈ sv_tbl := sv_in 222 (by decide +kernel) rfl
theorem kw_223 : Cond.methodLink RX3 50 yX0_copyFrom ∈ sv_tbl := sv_in 223 (by decide +kernel) rfl
theorem kw_224 : Cond.instanceMethod yX0_copyFrom ∈ sv_tbl := sv_in 224 (by decide +kernel) rfl
theorem kw_225 : Cond.selects RX0 yX0_copyFrom yX0_copyFrom ∈ sv_tbl := sv_in 225 (by decide +kernel) rfl
theorem kw_226 : Cond.code yX0_copyFrom cX0_copyFrom 2 none ∈ sv_tbl := sv_in 226 (by decide +kernel) rfl
theorem kw_228 : Cond.methodLink RX3 54 yX2_copyFrom ∈ sv_tbl := sv_in 228 (by decide +kernel) rfl
theorem kw_229 : Cond.instanceMethod yX2_copyFrom ∈ sv_tbl := sv_in 229 (by decide +kernel) rfl
theorem kw_230 : Cond.selects RX2 yX2_copyFrom yX2_copyFrom ∈ sv_tbl := sv_in 230 (by decide +kernel) rfl
theorem kw_231 : Cond.code yX2_copyFrom cX2_copyFrom 2 none ∈ sv_tbl := sv_in 231 (by decide +kernel) rfl
theorem kw_233 : Cond.methodLink RX5 105 yX5_numberOf ∈ sv_tbl := sv_in 233 (by decide +kernel) rfl
theorem kw_234 : Cond.static yX5_numberOf ∈ sv_tbl := sv_in 234 (by decide +kernel) rfl
theorem kw_235 : Cond.code yX5_numberOf cX5_numberOf 1 (some .int) ∈ sv_tbl := sv_in 235 (by decide +kernel) rfl
theorem kw_236 : Cond.methodLink RL 96 yX5_fire ∈ sv_tbl := sv_in 236 (by decide +kernel) rfl
theorem kw_237 : Cond.instanceMethod yX5_fire ∈ sv_tbl := sv_in 237 (by decide +kernel) rfl
theorem kw_238 : Cond.selects RX5 yX5_fire yX5_fire ∈ sv_tbl := sv_in 238 (by decide +kernel) rfl
theorem kw_239 : Cond.code yX5_fire cX5_fire 3 (some .int) ∈ sv_tbl := sv_in 239 (by decide +kernel) rfl
theorem kw_240 : Cond.methodLink RX5 120 yX3_switchAllOn ∈ sv_tbl := sv_in 240 (by decide +kernel) rfl
theorem kw_241 : Cond.instanceMethod yX3_switchAllOn ∈ sv_tbl := sv_in 241 (by decide +kernel) rfl
theorem kw_242 : Cond.selects RX3 yX3_switchAllOn yX3_switchAllOn ∈ sv_tbl := sv_in 242 (by decide +kernel) rfl
theorem kw_243 : Cond.code yX3_switchAllOn cX3_switchAllOn 2 none ∈ sv_tbl := sv_in 243 (by decide +kernel) rfl
theorem kw_244 : Cond.methodLink RX3 69 yX3_switchOn ∈ sv_tbl := sv_in 244 (by decide +kernel) rfl
theorem kw_245 : Cond.instanceMethod yX3_switchOn ∈ sv_tbl := sv_in 245 (by decide +kernel) rfl
theorem kw_246 : Cond.selects RX3 yX3_switchOn yX3_switchOn ∈ sv_tbl := sv_in 246 (by decide +kernel) rfl
theorem kw_247 : Cond.code yX3_switchOn cX3_switchOn 2 none ∈ sv_tbl := sv_in 247 (by decide +kernel) rfl
theorem kw_249 : Cond.static yX5_at ∈ sv_tbl := sv_in 249 (by decide +kernel) rfl
theorem kw_250 : Cond.code yX5_at cX5_at 2 (some .int) ∈ sv_tbl := sv_in 250 (by decide +kernel) rfl
theorem kw_251 : Cond.methodLink RX3 65 yX0_letBurn ∈ sv_tbl := sv_in 251 (by decide +kernel) rfl
theorem kw_252 : Cond.instanceMethod yX0_letBurn ∈ sv_tbl := sv_in 252 (by decide +kernel) rfl
theorem kw_253 : Cond.selects RX0 yX0_letBurn yX0_letBurn ∈ sv_tbl := sv_in 253 (by decide +kernel) rfl
theorem kw_254 : Cond.code yX0_letBurn cX0_letBurn 4 none ∈ sv_tbl := sv_in 254 (by decide +kernel) rfl
theorem kw_257 : Cond.static yX5_raise ∈ sv_tbl := sv_in 257 (by decide +kernel) rfl
theorem kw_258 : Cond.code yX5_raise cX5_raise 3 none ∈ sv_tbl := sv_in 258 (by decide +kernel) rfl
theorem kw_259 : Cond.methodLink RX5 79 yX5_at ∈ sv_tbl := sv_in 259 (by decide +kernel) rfl
theorem kw_260 : Cond.methodLink RX5 109 yX5_put ∈ sv_tbl := sv_in 260 (by decide +kernel) rfl
theorem kw_261 : Cond.static yX5_put ∈ sv_tbl := sv_in 261 (by decide +kernel) rfl
theorem kw_262 : Cond.code yX5_put cX5_put 3 none ∈ sv_tbl := sv_in 262 (by decide +kernel) rfl
theorem kw_264 : Cond.methodLink RL 109 yX5_clearBuffer ∈ sv_tbl := sv_in 264 (by decide +kernel) rfl
theorem kw_265 : Cond.instanceMethod yX5_clearBuffer ∈ sv_tbl := sv_in 265 (by decide +kernel) rfl
theorem kw_266 : Cond.selects RX5 yX5_clearBuffer yX5_clearBuffer ∈ sv_tbl := sv_in 266 (by decide +kernel) rfl
theorem kw_267 : Cond.code yX5_clearBuffer cX5_clearBuffer 1 (some .int) ∈ sv_tbl := sv_in 267 (by decide +kernel) rfl
theorem kw_268 : Cond.methodLink RX5 154 yX4_clear ∈ sv_tbl := sv_in 268 (by decide +kernel) rfl
theorem kw_269 : Cond.instanceMethod yX4_clear ∈ sv_tbl := sv_in 269 (by decide +kernel) rfl
theorem kw_270 : Cond.selects RX4 yX4_clear yX4_clear ∈ sv_tbl := sv_in 270 (by decide +kernel) rfl
theorem kw_271 : Cond.code yX4_clear cX4_clear 2 (some .int) ∈ sv_tbl := sv_in 271 (by decide +kernel) rfl
theorem kw_272 : Cond.methodLink RL 113 yX5_firstError ∈ sv_tbl := sv_in 272 (by decide +kernel) rfl
theorem kw_273 : Cond.instanceMethod yX5_firstError ∈ sv_tbl := sv_in 273 (by decide +kernel) rfl
theorem kw_274 : Cond.selects RX5 yX5_firstError yX5_firstError ∈ sv_tbl := sv_in 274 (by decide +kernel) rfl
theorem kw_275 : Cond.code yX5_firstError cX5_firstError 1 (some .int) ∈ sv_tbl := sv_in 275 (by decide +kernel) rfl
theorem kw_276 : Cond.methodLink RX5 158 yX4_errorPlace ∈ sv_tbl := sv_in 276 (by decide +kernel) rfl
theorem kw_277 : Cond.instanceMethod yX4_errorPlace ∈ sv_tbl := sv_in 277 (by decide +kernel) rfl
theorem kw_278 : Cond.selects RX4 yX4_errorPlace yX4_errorPlace ∈ sv_tbl := sv_in 278 (by decide +kernel) rfl
theorem kw_279 : Cond.code yX4_errorPlace cX4_errorPlace 2 (some .int) ∈ sv_tbl := sv_in 279 (by decide +kernel) rfl
theorem kw_280 : Cond.methodLink RX4 19 yX4_fitsAt ∈ sv_tbl := sv_in 280 (by decide +kernel) rfl
theorem kw_282 : Cond.instanceMethod yX4_fitsAt ∈ sv_tbl := sv_in 282 (by decide +kernel) rfl
theorem kw_283 : Cond.code yX4_fitsAt cX4_fitsAt 4 (some .boolean) ∈ sv_tbl := sv_in 283 (by decide +kernel) rfl
theorem kw_284 : Cond.methodLink RX4 23 yX4_codeAt ∈ sv_tbl := sv_in 284 (by decide +kernel) rfl
theorem kw_285 : Cond.instanceMethod yX4_codeAt ∈ sv_tbl := sv_in 285 (by decide +kernel) rfl
theorem kw_286 : Cond.selects RX4 yX4_codeAt yX4_codeAt ∈ sv_tbl := sv_in 286 (by decide +kernel) rfl
theorem kw_287 : Cond.code yX4_codeAt cX4_codeAt 2 (some .char) ∈ sv_tbl := sv_in 287 (by decide +kernel) rfl
theorem kw_288 : Cond.methodLink RX4 27 yX4_isFloor ∈ sv_tbl := sv_in 288 (by decide +kernel) rfl
theorem kw_289 : Cond.static yX4_isFloor ∈ sv_tbl := sv_in 289 (by decide +kernel) rfl
theorem kw_290 : Cond.code yX4_isFloor cX4_isFloor 1 (some .boolean) ∈ sv_tbl := sv_in 290 (by decide +kernel) rfl
theorem kw_291 : Cond.methodLink RX4 31 yX4_fitsSign ∈ sv_tbl := sv_in 291 (by decide +kernel) rfl
theorem kw_292 : Cond.static yX4_fitsSign ∈ sv_tbl := sv_in 292 (by decide +kernel) rfl
theorem kw_293 : Cond.code yX4_fitsSign cX4_fitsSign 3 (some .boolean) ∈ sv_tbl := sv_in 293 (by decide +kernel) rfl
theorem kw_294 : Cond.methodLink RL 145 yX5_worst ∈ sv_tbl := sv_in 294 (by decide +kernel) rfl
theorem kw_295 : Cond.instanceMethod yX5_worst ∈ sv_tbl := sv_in 295 (by decide +kernel) rfl
theorem kw_296 : Cond.selects RX5 yX5_worst yX5_worst ∈ sv_tbl := sv_in 296 (by decide +kernel) rfl
theorem kw_297 : Cond.code yX5_worst cX5_worst 1 (some .int) ∈ sv_tbl := sv_in 297 (by decide +kernel) rfl
theorem kw_298 : Cond.methodLink RX5 211 yX0_mostMissed ∈ sv_tbl := sv_in 298 (by decide +kernel) rfl
theorem kw_299 : Cond.instanceMethod yX0_mostMissed ∈ sv_tbl := sv_in 299 (by decide +kernel) rfl
theorem kw_300 : Cond.selects RX0 yX0_mostMissed yX0_mostMissed ∈ sv_tbl := sv_in 300 (by decide +kernel) rfl
theorem kw_301 : Cond.code yX0_mostMissed cX0_mostMissed 4 (some .int) ∈ sv_tbl := sv_in 301 (by decide +kernel) rfl
theorem kw_302 : Cond.methodLink RL 149 yX5_lightness ∈ sv_tbl := sv_in 302 (by decide +kernel) rfl
theorem kw_303 : Cond.instanceMethod yX5_lightness ∈ sv_tbl := sv_in 303 (by decide +kernel) rfl
theorem kw_304 : Cond.selects RX5 yX5_lightness yX5_lightness ∈ sv_tbl := sv_in 304 (by decide +kernel) rfl
theorem kw_305 : Cond.code yX5_lightness cX5_lightness 1 (some .double) ∈ sv_tbl := sv_in 305 (by decide +kernel) rfl
theorem kw_306 : Cond.methodLink RX5 214 yX3_lightShare ∈ sv_tbl := sv_in 306 (by decide +kernel) rfl
theorem kw_307 : Cond.instanceMethod yX3_lightShare ∈ sv_tbl := sv_in 307 (by decide +kernel) rfl
theorem kw_308 : Cond.selects RX3 yX3_lightShare yX3_lightShare ∈ sv_tbl := sv_in 308 (by decide +kernel) rfl
theorem kw_309 : Cond.code yX3_lightShare cX3_lightShare 2 (some .double) ∈ sv_tbl := sv_in 309 (by decide +kernel) rfl
theorem kw_311 : Cond.static yX5_sumOf ∈ sv_tbl := sv_in 311 (by decide +kernel) rfl
theorem kw_312 : Cond.code yX5_sumOf cX5_sumOf 3 (some .int) ∈ sv_tbl := sv_in 312 (by decide +kernel) rfl
theorem kw_313 : Cond.methodLink RL 154 yX5_digest ∈ sv_tbl := sv_in 313 (by decide +kernel) rfl
theorem kw_314 : Cond.instanceMethod yX5_digest ∈ sv_tbl := sv_in 314 (by decide +kernel) rfl
theorem kw_315 : Cond.selects RX5 yX5_digest yX5_digest ∈ sv_tbl := sv_in 315 (by decide +kernel) rfl
theorem kw_316 : Cond.code yX5_digest cX5_digest 4 (some .long) ∈ sv_tbl := sv_in 316 (by decide +kernel) rfl
theorem kw_317 : Cond.constantLong RX5 218 (3061) ∈ sv_tbl := sv_in 317 (by decide +kernel) rfl
theorem kw_318 : Cond.methodLink RX5 198 yX5_counted ∈ sv_tbl := sv_in 318 (by decide +kernel) rfl
theorem kw_320 : Cond.instanceMethod yX5_counted ∈ sv_tbl := sv_in 320 (by decide +kernel) rfl
theorem kw_321 : Cond.code yX5_counted cX5_counted 2 (some .int) ∈ sv_tbl := sv_in 321 (by decide +kernel) rfl
theorem kw_322 : Cond.methodLink RX5 257 yX3_lampsBurning ∈ sv_tbl := sv_in 322 (by decide +kernel) rfl
theorem kw_323 : Cond.instanceMethod yX3_lampsBurning ∈ sv_tbl := sv_in 323 (by decide +kernel) rfl
theorem kw_324 : Cond.selects RX3 yX3_lampsBurning yX3_lampsBurning ∈ sv_tbl := sv_in 324 (by decide +kernel) rfl
theorem kw_325 : Cond.code yX3_lampsBurning cX3_lampsBurning 3 (some .int) ∈ sv_tbl := sv_in 325 (by decide +kernel) rfl
theorem kw_326 : Cond.methodLink RX3 76 yX3_lampOf ∈ sv_tbl := sv_in 326 (by decide +kernel) rfl
theorem kw_327 : Cond.instanceMethod yX3_lampOf ∈ sv_tbl := sv_in 327 (by decide +kernel) rfl
theorem kw_328 : Cond.selects RX3 yX3_lampOf yX3_lampOf ∈ sv_tbl := sv_in 328 (by decide +kernel) rfl
theorem kw_329 : Cond.code yX3_lampOf cX3_lampOf 3 (some .int) ∈ sv_tbl := sv_in 329 (by decide +kernel) rfl
theorem kw_330 : Cond.methodLink RX5 263 yX5_sumOf ∈ sv_tbl := sv_in 330 (by decide +kernel) rfl
theorem kw_331 : Cond.methodLink RX5 220 yX5_mixed ∈ sv_tbl := sv_in 331 (by decide +kernel) rfl
theorem kw_332 : Cond.static yX5_mixed ∈ sv_tbl := sv_in 332 (by decide +kernel) rfl
theorem kw_333 : Cond.code yX5_mixed cX5_mixed 4 (some .long) ∈ sv_tbl := sv_in 333 (by decide +kernel) rfl
theorem kw_334 : Cond.constantLong RX5 287 (31) ∈ sv_tbl := sv_in 334 (by decide +kernel) rfl
theorem kw_335 : Cond.methodLink RX5 224 yX5_mixedWithFloors ∈ sv_tbl := sv_in 335 (by decide +kernel) rfl
theorem kw_337 : Cond.instanceMethod yX5_mixedWithFloors ∈ sv_tbl := sv_in 337 (by decide +kernel) rfl
theorem kw_338 : Cond.code yX5_mixedWithFloors cX5_mixedWithFloors 7 (some .long) ∈ sv_tbl := sv_in 338 (by decide +kernel) rfl
theorem kw_339 : Cond.methodLink RX5 190 yX3_floorNumber ∈ sv_tbl := sv_in 339 (by decide +kernel) rfl
theorem kw_340 : Cond.instanceMethod yX3_floorNumber ∈ sv_tbl := sv_in 340 (by decide +kernel) rfl
theorem kw_341 : Cond.selects RX3 yX3_floorNumber yX3_floorNumber ∈ sv_tbl := sv_in 341 (by decide +kernel) rfl
theorem kw_342 : Cond.code yX3_floorNumber cX3_floorNumber 3 (some .int) ∈ sv_tbl := sv_in 342 (by decide +kernel) rfl
theorem kw_343 : Cond.methodLink RX3 105 yX2_peopleOn ∈ sv_tbl := sv_in 343 (by decide +kernel) rfl
theorem kw_344 : Cond.instanceMethod yX2_peopleOn ∈ sv_tbl := sv_in 344 (by decide +kernel) rfl
theorem kw_345 : Cond.selects RX2 yX2_peopleOn yX2_peopleOn ∈ sv_tbl := sv_in 345 (by decide +kernel) rfl
theorem kw_346 : Cond.code yX2_peopleOn cX2_peopleOn 4 (some .int) ∈ sv_tbl := sv_in 346 (by decide +kernel) rfl
theorem kw_348 : Cond.methodLink RX5 228 yX5_mixedWithPeople ∈ sv_tbl := sv_in 348 (by decide +kernel) rfl
theorem kw_350 : Cond.instanceMethod yX5_mixedWithPeople ∈ sv_tbl := sv_in 350 (by decide +kernel) rfl
theorem kw_351 : Cond.code yX5_mixedWithPeople cX5_mixedWithPeople 7 (some .long) ∈ sv_tbl := sv_in 351 (by decide +kernel) rfl
theorem kw_352 : Cond.methodLink RX5 195 yX2_personNumber ∈ sv_tbl := sv_in 352 (by decide +kernel) rfl
theorem kw_353 : Cond.instanceMethod yX2_personNumber ∈ sv_tbl := sv_in 353 (by decide +kernel) rfl
theorem kw_354 : Cond.selects RX2 yX2_personNumber yX2_personNumber ∈ sv_tbl := sv_in 354 (by decide +kernel) rfl
theorem kw_355 : Cond.code yX2_personNumber cX2_personNumber 3 (some .int) ∈ sv_tbl := sv_in 355 (by decide +kernel) rfl
theorem kw_356 : Cond.methodLink RX5 201 yX5_outlook ∈ sv_tbl := sv_in 356 (by decide +kernel) rfl
theorem kw_358 : Cond.instanceMethod yX5_outlook ∈ sv_tbl := sv_in 358 (by decide +kernel) rfl
theorem kw_359 : Cond.code yX5_outlook cX5_outlook 4 (some .int) ∈ sv_tbl := sv_in 359 (by decide +kernel) rfl
theorem kw_360 : Cond.methodLink RX5 273 yX3_copyFrom ∈ sv_tbl := sv_in 360 (by decide +kernel) rfl
theorem kw_361 : Cond.methodLink RX5 140 yX3_letPass ∈ sv_tbl := sv_in 361 (by decide +kernel) rfl
theorem kw_362 : Cond.instanceMethod yX3_letPass ∈ sv_tbl := sv_in 362 (by decide +kernel) rfl
theorem kw_363 : Cond.selects RX3 yX3_letPass yX3_letPass ∈ sv_tbl := sv_in 363 (by decide +kernel) rfl
theorem kw_364 : Cond.code yX3_letPass cX3_letPass 4 (some .int) ∈ sv_tbl := sv_in 364 (by decide +kernel) rfl
theorem kw_365 : Cond.methodLink RX3 87 yX3_beginSecond ∈ sv_tbl := sv_in 365 (by decide +kernel) rfl
theorem kw_366 : Cond.instanceMethod yX3_beginSecond ∈ sv_tbl := sv_in 366 (by decide +kernel) rfl
theorem kw_367 : Cond.selects RX3 yX3_beginSecond yX3_beginSecond ∈ sv_tbl := sv_in 367 (by decide +kernel) rfl
theorem kw_368 : Cond.code yX3_beginSecond cX3_beginSecond 2 none ∈ sv_tbl := sv_in 368 (by decide +kernel) rfl
theorem kw_369 : Cond.methodLink RX3 99 yX2_goOn ∈ sv_tbl := sv_in 369 (by decide +kernel) rfl
theorem kw_370 : Cond.instanceMethod yX2_goOn ∈ sv_tbl := sv_in 370 (by decide +kernel) rfl
theorem kw_371 : Cond.selects RX2 yX2_goOn yX2_goOn ∈ sv_tbl := sv_in 371 (by decide +kernel) rfl
theorem kw_372 : Cond.code yX2_goOn cX2_goOn 4 none ∈ sv_tbl := sv_in 372 (by decide +kernel) rfl
theorem kw_373 : Cond.methodLink RX2 43 yX2_isThere ∈ sv_tbl := sv_in 373 (by decide +kernel) rfl
theorem kw_374 : Cond.instanceMethod yX2_isThere ∈ sv_tbl := sv_in 374 (by decide +kernel) rfl
theorem kw_375 : Cond.selects RX2 yX2_isThere yX2_isThere ∈ sv_tbl := sv_in 375 (by decide +kernel) rfl
theorem kw_376 : Cond.code yX2_isThere cX2_isThere 2 (some .boolean) ∈ sv_tbl := sv_in 376 (by decide +kernel) rfl
theorem kw_377 : Cond.methodLink RX2 51 yX2_walk ∈ sv_tbl := sv_in 377 (by decide +kernel) rfl
theorem kw_379 : Cond.instanceMethod yX2_walk ∈ sv_tbl := sv_in 379 (by decide +kernel) rfl
theorem kw_380 : Cond.code yX2_walk cX2_walk 3 none ∈ sv_tbl := sv_in 380 (by decide +kernel) rfl
theorem kw_383 : Cond.methodLink RX2 55 yX2_moveUp ∈ sv_tbl := sv_in 383 (by decide +kernel) rfl
theorem kw_385 : Cond.instanceMethod yX2_moveUp ∈ sv_tbl := sv_in 385 (by decide +kernel) rfl
theorem kw_386 : Cond.code yX2_moveUp cX2_moveUp 3 none ∈ sv_tbl := sv_in 386 (by decide +kernel) rfl
theorem kw_387 : Cond.methodLink RX3 108 yX3_switchOnAround ∈ sv_tbl := sv_in 387 (by decide +kernel) rfl
theorem kw_389 : Cond.instanceMethod yX3_switchOnAround ∈ sv_tbl := sv_in 389 (by decide +kernel) rfl
theorem kw_390 : Cond.code yX3_switchOnAround cX3_switchOnAround 2 none ∈ sv_tbl := sv_in 390 (by decide +kernel) rfl
theorem kw_391 : Cond.methodLink RX3 90 yX3_endSecond ∈ sv_tbl := sv_in 391 (by decide +kernel) rfl
theorem kw_392 : Cond.instanceMethod yX3_endSecond ∈ sv_tbl := sv_in 392 (by decide +kernel) rfl
theorem kw_393 : Cond.selects RX3 yX3_endSecond yX3_endSecond ∈ sv_tbl := sv_in 393 (by decide +kernel) rfl
theorem kw_394 : Cond.code yX3_endSecond cX3_endSecond 2 none ∈ sv_tbl := sv_in 394 (by decide +kernel) rfl
theorem kw_395 : Cond.methodLink RX3 113 yX3_countSecondOn ∈ sv_tbl := sv_in 395 (by decide +kernel) rfl
theorem kw_397 : Cond.instanceMethod yX3_countSecondOn ∈ sv_tbl := sv_in 397 (by decide +kernel) rfl
theorem kw_398 : Cond.code yX3_countSecondOn cX3_countSecondOn 3 none ∈ sv_tbl := sv_in 398 (by decide +kernel) rfl
theorem kw_400 : Cond.methodLink RX3 119 yX3_powerOf ∈ sv_tbl := sv_in 400 (by decide +kernel) rfl
theorem kw_401 : Cond.static yX3_powerOf ∈ sv_tbl := sv_in 401 (by decide +kernel) rfl
theorem kw_402 : Cond.code yX3_powerOf cX3_powerOf 1 (some .int) ∈ sv_tbl := sv_in 402 (by decide +kernel) rfl
theorem kw_403 : Cond.methodLink RX3 126 yX0_burnDown ∈ sv_tbl := sv_in 403 (by decide +kernel) rfl
theorem kw_404 : Cond.instanceMethod yX0_burnDown ∈ sv_tbl := sv_in 404 (by decide +kernel) rfl
theorem kw_405 : Cond.selects RX0 yX0_burnDown yX0_burnDown ∈ sv_tbl := sv_in 405 (by decide +kernel) rfl
theorem kw_406 : Cond.code yX0_burnDown cX0_burnDown 2 none ∈ sv_tbl := sv_in 406 (by decide +kernel) rfl
theorem kw_407 : Cond.methodLink RX5 204 yX5_darkWith ∈ sv_tbl := sv_in 407 (by decide +kernel) rfl
theorem kw_409 : Cond.instanceMethod yX5_darkWith ∈ sv_tbl := sv_in 409 (by decide +kernel) rfl
theorem kw_410 : Cond.code yX5_darkWith cX5_darkWith 8 (some .int) ∈ sv_tbl := sv_in 410 (by decide +kernel) rfl
theorem kw_411 : Cond.methodLink RX5 58 yX3_letCome ∈ sv_tbl := sv_in 411 (by decide +kernel) rfl
theorem kw_412 : Cond.instanceMethod yX3_letCome ∈ sv_tbl := sv_in 412 (by decide +kernel) rfl
theorem kw_413 : Cond.selects RX3 yX3_letCome yX3_letCome ∈ sv_tbl := sv_in 413 (by decide +kernel) rfl
theorem kw_414 : Cond.code yX3_letCome cX3_letCome 3 (some .int) ∈ sv_tbl := sv_in 414 (by decide +kernel) rfl
theorem kw_415 : Cond.methodLink RX3 61 yX2_enter ∈ sv_tbl := sv_in 415 (by decide +kernel) rfl
theorem kw_416 : Cond.instanceMethod yX2_enter ∈ sv_tbl := sv_in 416 (by decide +kernel) rfl
theorem kw_417 : Cond.selects RX2 yX2_enter yX2_enter ∈ sv_tbl := sv_in 417 (by decide +kernel) rfl
theorem kw_418 : Cond.code yX2_enter cX2_enter 5 (some .int) ∈ sv_tbl := sv_in 418 (by decide +kernel) rfl
theorem kw_419 : Cond.methodLink RX2 39 yX2_sendTo ∈ sv_tbl := sv_in 419 (by decide +kernel) rfl
theorem kw_420 : Cond.instanceMethod yX2_sendTo ∈ sv_tbl := sv_in 420 (by decide +kernel) rfl
theorem kw_421 : Cond.selects RX2 yX2_sendTo yX2_sendTo ∈ sv_tbl := sv_in 421 (by decide +kernel) rfl
theorem kw_422 : Cond.code yX2_sendTo cX2_sendTo 4 none ∈ sv_tbl := sv_in 422 (by decide +kernel) rfl
theorem kw_423 : Cond.methodLink RX5 276 yX3_beginSecond ∈ sv_tbl := sv_in 423 (by decide +kernel) rfl
theorem kw_424 : Cond.methodLink RX5 62 yX2_placeOf ∈ sv_tbl := sv_in 424 (by decide +kernel) rfl
theorem kw_425 : Cond.instanceMethod yX2_placeOf ∈ sv_tbl := sv_in 425 (by decide +kernel) rfl
theorem kw_426 : Cond.selects RX2 yX2_placeOf yX2_placeOf ∈ sv_tbl := sv_in 426 (by decide +kernel) rfl
theorem kw_427 : Cond.code yX2_placeOf cX2_placeOf 3 (some .int) ∈ sv_tbl := sv_in 427 (by decide +kernel) rfl
theorem kw_428 : Cond.methodLink RX5 281 yX3_lampOf ∈ sv_tbl := sv_in 428 (by decide +kernel) rfl
theorem kw_429 : Cond.methodLink RX5 284 yX3_endSecond ∈ sv_tbl := sv_in 429 (by decide +kernel) rfl
theorem kw_430 : Cond.methodLink RX5 208 yX5_leastBurnTime ∈ sv_tbl := sv_in 430 (by decide +kernel) rfl
theorem kw_432 : Cond.instanceMethod yX5_leastBurnTime ∈ sv_tbl := sv_in 432 (by decide +kernel) rfl
theorem kw_433 : Cond.code yX5_leastBurnTime cX5_leastBurnTime 8 (some .int) ∈ sv_tbl := sv_in 433 (by decide +kernel) rfl
theorem kw_434 : Cond.fieldLink RX5 126 "StairLight" "LEAST_VALUES" "[I" ∈ sv_tbl := sv_in 434 (by decide +kernel) rfl
theorem kw_436 : Cond.fieldLink RX5 129 "StairLight" "GREATEST_VALUES" "[I" ∈ sv_tbl := sv_in 436 (by decide +kernel) rfl
theorem kw_438 : Cond.methodLink RX5 231 yX5_bitsOf ∈ sv_tbl := sv_in 438 (by decide +kernel) rfl
theorem kw_439 : Cond.static yX5_bitsOf ∈ sv_tbl := sv_in 439 (by decide +kernel) rfl
theorem kw_440 : Cond.code yX5_bitsOf cX5_bitsOf 5 (some .long) ∈ sv_tbl := sv_in 440 (by decide +kernel) rfl
theorem kw_441 : Cond.constantDouble RX5 293 (4841369599423283200) ∈ sv_tbl := sv_in 441 (by decide +kernel) rfl
theorem kw_442 : Cond.constantDouble RX5 295 (4611686018427387904) ∈ sv_tbl := sv_in 442 (by decide +kernel) rfl
theorem kw_443 : Cond.methodLink RX5 235 yX5_mixedWithBuffer ∈ sv_tbl := sv_in 443 (by decide +kernel) rfl
theorem kw_445 : Cond.instanceMethod yX5_mixedWithBuffer ∈ sv_tbl := sv_in 445 (by decide +kernel) rfl
theorem kw_446 : Cond.code yX5_mixedWithBuffer cX5_mixedWithBuffer 6 (some .long) ∈ sv_tbl := sv_in 446 (by decide +kernel) rfl
theorem kw_447 : Cond.methodLink RX5 289 yX4_codeAt ∈ sv_tbl := sv_in 447 (by decide +kernel) rfl
theorem kw_448 : Cond.methodLink RL 71 yL_come ∈ sv_tbl := sv_in 448 (by decide +kernel) rfl
theorem kw_449 : Cond.static yL_come ∈ sv_tbl := sv_in 449 (by decide +kernel) rfl
theorem kw_451 : Cond.classLink RL 13 "java/lang/IndexOutOfBoundsException" ∈ sv_tbl := sv_in 451 (by decide +kernel) rfl
theorem kw_452 : Cond.classLink RL 15 "java/lang/IllegalArgumentException" ∈ sv_tbl := sv_in 452 (by decide +kernel) rfl
theorem kw_453 : Cond.classLink RL 17 "java/lang/IllegalStateException" ∈ sv_tbl := sv_in 453 (by decide +kernel) rfl
theorem kw_454 : Cond.methodLink RL 7 yX5_come ∈ sv_tbl := sv_in 454 (by decide +kernel) rfl
theorem kw_455 : Cond.instanceMethod yX5_come ∈ sv_tbl := sv_in 455 (by decide +kernel) rfl
theorem kw_456 : Cond.selects RX5 yX5_come yX5_come ∈ sv_tbl := sv_in 456 (by decide +kernel) rfl
theorem kw_457 : Cond.code yX5_come cX5_come 3 (some .int) ∈ sv_tbl := sv_in 457 (by decide +kernel) rfl
theorem kw_458 : Cond.methodLink RX5 33 yX5_checkWay ∈ sv_tbl := sv_in 458 (by decide +kernel) rfl
theorem kw_459 : Cond.static yX5_checkWay ∈ sv_tbl := sv_in 459 (by decide +kernel) rfl
theorem kw_460 : Cond.code yX5_checkWay cX5_checkWay 2 none ∈ sv_tbl := sv_in 460 (by decide +kernel) rfl
theorem kw_461 : Cond.methodLink RX5 71 yX5_checkFloor ∈ sv_tbl := sv_in 461 (by decide +kernel) rfl
theorem kw_462 : Cond.static yX5_checkFloor ∈ sv_tbl := sv_in 462 (by decide +kernel) rfl
theorem kw_463 : Cond.code yX5_checkFloor cX5_checkFloor 1 none ∈ sv_tbl := sv_in 463 (by decide +kernel) rfl
theorem kw_464 : Cond.classLink RX5 66 "java/lang/IndexOutOfBoundsException" ∈ sv_tbl := sv_in 464 (by decide +kernel) rfl
theorem kw_465 : Cond.instantiable "java/lang/IndexOutOfBoundsException" 6 ∈ sv_tbl := sv_in 465 (by decide +kernel) rfl
theorem kw_487 : Cond.instanceMethod (⟨"java/lang/Throwable", "<init>", "()V"⟩ : MethodName) ∈ sv_tbl := sv_in 487 (by decide +kernel) rfl
theorem kw_495 : Cond.instanceMethod (⟨"java/lang/Throwable", "fillInStackTrace", "()Ljava/lang/Throwable;"⟩ : MethodName) ∈ sv_tbl := sv_in 495 (by decide +kernel) rfl
theorem kw_502 : Cond.instanceMethod (⟨"java/lang/Throwable", "fillInStackTrace", "(I)Ljava/lang/Throwable;"⟩ : MethodName) ∈ sv_tbl := sv_in 502 (by decide +kernel) rfl
theorem kw_503 : Cond.instantiable "java/lang/Throwable" 6 ∈ sv_tbl := sv_in 503 (by decide +kernel) rfl
theorem kw_506 : Cond.methodLink RX5 70 ⟨"java/lang/IndexOutOfBoundsException", "<init>", "(Ljava/lang/String;)V"⟩ ∈ sv_tbl := sv_in 506 (by decide +kernel) rfl
theorem kw_507 : Cond.instanceMethod (⟨"java/lang/IndexOutOfBoundsException", "<init>", "(Ljava/lang/String;)V"⟩ : MethodName) ∈ sv_tbl := sv_in 507 (by decide +kernel) rfl
theorem kw_510 : Cond.instanceMethod (⟨"java/lang/RuntimeException", "<init>", "(Ljava/lang/String;)V"⟩ : MethodName) ∈ sv_tbl := sv_in 510 (by decide +kernel) rfl
theorem kw_513 : Cond.instanceMethod (⟨"java/lang/Exception", "<init>", "(Ljava/lang/String;)V"⟩ : MethodName) ∈ sv_tbl := sv_in 513 (by decide +kernel) rfl
theorem kw_516 : Cond.instanceMethod (⟨"java/lang/Throwable", "<init>", "(Ljava/lang/String;)V"⟩ : MethodName) ∈ sv_tbl := sv_in 516 (by decide +kernel) rfl
theorem kw_531 : Cond.arrayClass .byte ∈ sv_tbl := sv_in 531 (by decide +kernel) rfl
theorem kw_532 : Cond.classLink RX5 132 "java/lang/IllegalArgumentException" ∈ sv_tbl := sv_in 532 (by decide +kernel) rfl
theorem kw_533 : Cond.instantiable "java/lang/IllegalArgumentException" 6 ∈ sv_tbl := sv_in 533 (by decide +kernel) rfl
theorem kw_542 : Cond.methodLink RX5 136 ⟨"java/lang/IllegalArgumentException", "<init>", "(Ljava/lang/String;)V"⟩ ∈ sv_tbl := sv_in 542 (by decide +kernel) rfl
theorem kw_543 : Cond.instanceMethod (⟨"java/lang/IllegalArgumentException", "<init>", "(Ljava/lang/String;)V"⟩ : MethodName) ∈ sv_tbl := sv_in 543 (by decide +kernel) rfl
theorem kw_548 : Cond.classLink RX5 47 "java/lang/IllegalStateException" ∈ sv_tbl := sv_in 548 (by decide +kernel) rfl
theorem kw_549 : Cond.instantiable "java/lang/IllegalStateException" 6 ∈ sv_tbl := sv_in 549 (by decide +kernel) rfl
theorem kw_558 : Cond.methodLink RX5 51 ⟨"java/lang/IllegalStateException", "<init>", "(Ljava/lang/String;)V"⟩ ∈ sv_tbl := sv_in 558 (by decide +kernel) rfl
theorem kw_559 : Cond.instanceMethod (⟨"java/lang/IllegalStateException", "<init>", "(Ljava/lang/String;)V"⟩ : MethodName) ∈ sv_tbl := sv_in 559 (by decide +kernel) rfl
theorem kw_564 : Cond.methodLink RL 80 yL_turn ∈ sv_tbl := sv_in 564 (by decide +kernel) rfl
theorem kw_565 : Cond.static yL_turn ∈ sv_tbl := sv_in 565 (by decide +kernel) rfl
theorem kw_567 : Cond.methodLink RL 19 yX5_turn ∈ sv_tbl := sv_in 567 (by decide +kernel) rfl
theorem kw_568 : Cond.instanceMethod yX5_turn ∈ sv_tbl := sv_in 568 (by decide +kernel) rfl
theorem kw_569 : Cond.selects RX5 yX5_turn yX5_turn ∈ sv_tbl := sv_in 569 (by decide +kernel) rfl
theorem kw_570 : Cond.code yX5_turn cX5_turn 5 (some .int) ∈ sv_tbl := sv_in 570 (by decide +kernel) rfl
theorem kw_572 : Cond.methodLink RX5 86 yX2_sendTo ∈ sv_tbl := sv_in 572 (by decide +kernel) rfl
theorem kw_573 : Cond.methodLink RL 83 yL_press ∈ sv_tbl := sv_in 573 (by decide +kernel) rfl
theorem kw_574 : Cond.static yL_press ∈ sv_tbl := sv_in 574 (by decide +kernel) rfl
theorem kw_576 : Cond.methodLink RL 22 yX5_press ∈ sv_tbl := sv_in 576 (by decide +kernel) rfl
theorem kw_577 : Cond.instanceMethod yX5_press ∈ sv_tbl := sv_in 577 (by decide +kernel) rfl
theorem kw_578 : Cond.selects RX5 yX5_press yX5_press ∈ sv_tbl := sv_in 578 (by decide +kernel) rfl
theorem kw_579 : Cond.code yX5_press cX5_press 3 (some .int) ∈ sv_tbl := sv_in 579 (by decide +kernel) rfl
theorem kw_580 : Cond.methodLink RX5 99 yX3_switchOn ∈ sv_tbl := sv_in 580 (by decide +kernel) rfl
theorem kw_581 : Cond.methodLink RL 87 yL_sensor ∈ sv_tbl := sv_in 581 (by decide +kernel) rfl
theorem kw_582 : Cond.static yL_sensor ∈ sv_tbl := sv_in 582 (by decide +kernel) rfl
theorem kw_584 : Cond.methodLink RL 26 yX5_sensor ∈ sv_tbl := sv_in 584 (by decide +kernel) rfl
theorem kw_585 : Cond.instanceMethod yX5_sensor ∈ sv_tbl := sv_in 585 (by decide +kernel) rfl
theorem kw_586 : Cond.selects RX5 yX5_sensor yX5_sensor ∈ sv_tbl := sv_in 586 (by decide +kernel) rfl
theorem kw_587 : Cond.code yX5_sensor cX5_sensor 4 (some .int) ∈ sv_tbl := sv_in 587 (by decide +kernel) rfl
theorem kw_588 : Cond.methodLink RL 100 yL_set ∈ sv_tbl := sv_in 588 (by decide +kernel) rfl
theorem kw_589 : Cond.static yL_set ∈ sv_tbl := sv_in 589 (by decide +kernel) rfl
theorem kw_591 : Cond.methodLink RL 30 yX5_set ∈ sv_tbl := sv_in 591 (by decide +kernel) rfl
theorem kw_592 : Cond.instanceMethod yX5_set ∈ sv_tbl := sv_in 592 (by decide +kernel) rfl
theorem kw_593 : Cond.selects RX5 yX5_set yX5_set ∈ sv_tbl := sv_in 593 (by decide +kernel) rfl
theorem kw_594 : Cond.code yX5_set cX5_set 4 (some .int) ∈ sv_tbl := sv_in 594 (by decide +kernel) rfl
theorem kw_595 : Cond.methodLink RX5 123 yX5_checkSetting ∈ sv_tbl := sv_in 595 (by decide +kernel) rfl
theorem kw_596 : Cond.static yX5_checkSetting ∈ sv_tbl := sv_in 596 (by decide +kernel) rfl
theorem kw_597 : Cond.code yX5_checkSetting cX5_checkSetting 1 none ∈ sv_tbl := sv_in 597 (by decide +kernel) rfl
theorem kw_598 : Cond.fieldLink RX5 242 "StairLight" "FIRST_VALUES" "[I" ∈ sv_tbl := sv_in 598 (by decide +kernel) rfl
theorem kw_601 : Cond.methodLink RL 103 yL_pass ∈ sv_tbl := sv_in 601 (by decide +kernel) rfl
theorem kw_602 : Cond.static yL_pass ∈ sv_tbl := sv_in 602 (by decide +kernel) rfl
theorem kw_604 : Cond.methodLink RL 33 yX5_pass ∈ sv_tbl := sv_in 604 (by decide +kernel) rfl
theorem kw_605 : Cond.instanceMethod yX5_pass ∈ sv_tbl := sv_in 605 (by decide +kernel) rfl
theorem kw_606 : Cond.selects RX5 yX5_pass yX5_pass ∈ sv_tbl := sv_in 606 (by decide +kernel) rfl
theorem kw_607 : Cond.code yX5_pass cX5_pass 2 (some .int) ∈ sv_tbl := sv_in 607 (by decide +kernel) rfl
theorem kw_608 : Cond.methodLink RX5 137 yX5_checkSeconds ∈ sv_tbl := sv_in 608 (by decide +kernel) rfl
theorem kw_609 : Cond.static yX5_checkSeconds ∈ sv_tbl := sv_in 609 (by decide +kernel) rfl
theorem kw_610 : Cond.code yX5_checkSeconds cX5_checkSeconds 1 none ∈ sv_tbl := sv_in 610 (by decide +kernel) rfl
theorem kw_612 : Cond.methodLink RL 106 yL_append ∈ sv_tbl := sv_in 612 (by decide +kernel) rfl
theorem kw_613 : Cond.static yL_append ∈ sv_tbl := sv_in 613 (by decide +kernel) rfl
theorem kw_615 : Cond.methodLink RL 36 yX5_append ∈ sv_tbl := sv_in 615 (by decide +kernel) rfl
theorem kw_616 : Cond.instanceMethod yX5_append ∈ sv_tbl := sv_in 616 (by decide +kernel) rfl
theorem kw_617 : Cond.selects RX5 yX5_append yX5_append ∈ sv_tbl := sv_in 617 (by decide +kernel) rfl
theorem kw_618 : Cond.code yX5_append cX5_append 2 (some .int) ∈ sv_tbl := sv_in 618 (by decide +kernel) rfl
theorem kw_621 : Cond.methodLink RX5 150 yX4_add ∈ sv_tbl := sv_in 621 (by decide +kernel) rfl
theorem kw_622 : Cond.instanceMethod yX4_add ∈ sv_tbl := sv_in 622 (by decide +kernel) rfl
theorem kw_623 : Cond.selects RX4 yX4_add yX4_add ∈ sv_tbl := sv_in 623 (by decide +kernel) rfl
theorem kw_624 : Cond.code yX4_add cX4_add 2 (some .int) ∈ sv_tbl := sv_in 624 (by decide +kernel) rfl
theorem kw_625 : Cond.methodLink RL 117 yL_comeAll ∈ sv_tbl := sv_in 625 (by decide +kernel) rfl
theorem kw_626 : Cond.static yL_comeAll ∈ sv_tbl := sv_in 626 (by decide +kernel) rfl
theorem kw_628 : Cond.methodLink RL 39 yX5_comeAll ∈ sv_tbl := sv_in 628 (by decide +kernel) rfl
theorem kw_629 : Cond.instanceMethod yX5_comeAll ∈ sv_tbl := sv_in 629 (by decide +kernel) rfl
theorem kw_630 : Cond.selects RX5 yX5_comeAll yX5_comeAll ∈ sv_tbl := sv_in 630 (by decide +kernel) rfl
theorem kw_631 : Cond.code yX5_comeAll cX5_comeAll 4 (some .int) ∈ sv_tbl := sv_in 631 (by decide +kernel) rfl
theorem kw_632 : Cond.methodLink RX5 161 yX4_isComplete ∈ sv_tbl := sv_in 632 (by decide +kernel) rfl
theorem kw_633 : Cond.instanceMethod yX4_isComplete ∈ sv_tbl := sv_in 633 (by decide +kernel) rfl
theorem kw_634 : Cond.selects RX4 yX4_isComplete yX4_isComplete ∈ sv_tbl := sv_in 634 (by decide +kernel) rfl
theorem kw_635 : Cond.code yX4_isComplete cX4_isComplete 1 (some .boolean) ∈ sv_tbl := sv_in 635 (by decide +kernel) rfl
theorem kw_636 : Cond.methodLink RX4 35 yX4_errorPlace ∈ sv_tbl := sv_in 636 (by decide +kernel) rfl
theorem kw_638 : Cond.methodLink RX5 167 yX4_parts ∈ sv_tbl := sv_in 638 (by decide +kernel) rfl
theorem kw_639 : Cond.instanceMethod yX4_parts ∈ sv_tbl := sv_in 639 (by decide +kernel) rfl
theorem kw_640 : Cond.selects RX4 yX4_parts yX4_parts ∈ sv_tbl := sv_in 640 (by decide +kernel) rfl
theorem kw_641 : Cond.code yX4_parts cX4_parts 1 (some .int) ∈ sv_tbl := sv_in 641 (by decide +kernel) rfl
theorem kw_642 : Cond.methodLink RX5 170 yX3_waitForRoom ∈ sv_tbl := sv_in 642 (by decide +kernel) rfl
theorem kw_643 : Cond.instanceMethod yX3_waitForRoom ∈ sv_tbl := sv_in 643 (by decide +kernel) rfl
theorem kw_644 : Cond.selects RX3 yX3_waitForRoom yX3_waitForRoom ∈ sv_tbl := sv_in 644 (by decide +kernel) rfl
theorem kw_645 : Cond.code yX3_waitForRoom cX3_waitForRoom 2 (some .int) ∈ sv_tbl := sv_in 645 (by decide +kernel) rfl
theorem kw_646 : Cond.methodLink RX3 96 yX3_letPass ∈ sv_tbl := sv_in 646 (by decide +kernel) rfl
theorem kw_647 : Cond.methodLink RX5 173 yX4_startOf ∈ sv_tbl := sv_in 647 (by decide +kernel) rfl
theorem kw_648 : Cond.instanceMethod yX4_startOf ∈ sv_tbl := sv_in 648 (by decide +kernel) rfl
theorem kw_649 : Cond.selects RX4 yX4_startOf yX4_startOf ∈ sv_tbl := sv_in 649 (by decide +kernel) rfl
theorem kw_650 : Cond.code yX4_startOf cX4_startOf 2 (some .int) ∈ sv_tbl := sv_in 650 (by decide +kernel) rfl
theorem kw_651 : Cond.methodLink RX5 176 yX4_goalOf ∈ sv_tbl := sv_in 651 (by decide +kernel) rfl
theorem kw_652 : Cond.instanceMethod yX4_goalOf ∈ sv_tbl := sv_in 652 (by decide +kernel) rfl
theorem kw_653 : Cond.selects RX4 yX4_goalOf yX4_goalOf ∈ sv_tbl := sv_in 653 (by decide +kernel) rfl
theorem kw_654 : Cond.code yX4_goalOf cX4_goalOf 2 (some .int) ∈ sv_tbl := sv_in 654 (by decide +kernel) rfl
theorem kw_655 : Cond.methodLink RL 121 yL_undo ∈ sv_tbl := sv_in 655 (by decide +kernel) rfl
theorem kw_656 : Cond.static yL_undo ∈ sv_tbl := sv_in 656 (by decide +kernel) rfl
theorem kw_658 : Cond.methodLink RL 43 yX5_undo ∈ sv_tbl := sv_in 658 (by decide +kernel) rfl
theorem kw_659 : Cond.instanceMethod yX5_undo ∈ sv_tbl := sv_in 659 (by decide +kernel) rfl
theorem kw_660 : Cond.selects RX5 yX5_undo yX5_undo ∈ sv_tbl := sv_in 660 (by decide +kernel) rfl
theorem kw_661 : Cond.code yX5_undo cX5_undo 1 (some .int) ∈ sv_tbl := sv_in 661 (by decide +kernel) rfl
theorem kw_663 : Cond.methodLink RX5 184 yX1_restore ∈ sv_tbl := sv_in 663 (by decide +kernel) rfl
theorem kw_664 : Cond.instanceMethod yX1_restore ∈ sv_tbl := sv_in 664 (by decide +kernel) rfl
theorem kw_665 : Cond.selects RX1 yX1_restore yX1_restore ∈ sv_tbl := sv_in 665 (by decide +kernel) rfl
theorem kw_666 : Cond.code yX1_restore cX1_restore 3 none ∈ sv_tbl := sv_in 666 (by decide +kernel) rfl
theorem kw_667 : Cond.methodLink RL 124 yL_floor ∈ sv_tbl := sv_in 667 (by decide +kernel) rfl
theorem kw_668 : Cond.static yL_floor ∈ sv_tbl := sv_in 668 (by decide +kernel) rfl
theorem kw_670 : Cond.methodLink RL 46 yX5_floor ∈ sv_tbl := sv_in 670 (by decide +kernel) rfl
theorem kw_671 : Cond.instanceMethod yX5_floor ∈ sv_tbl := sv_in 671 (by decide +kernel) rfl
theorem kw_672 : Cond.selects RX5 yX5_floor yX5_floor ∈ sv_tbl := sv_in 672 (by decide +kernel) rfl
theorem kw_673 : Cond.code yX5_floor cX5_floor 3 (some .int) ∈ sv_tbl := sv_in 673 (by decide +kernel) rfl
theorem kw_674 : Cond.methodLink RX5 187 yX5_checkWhat ∈ sv_tbl := sv_in 674 (by decide +kernel) rfl
theorem kw_675 : Cond.static yX5_checkWhat ∈ sv_tbl := sv_in 675 (by decide +kernel) rfl
theorem kw_676 : Cond.code yX5_checkWhat cX5_checkWhat 2 none ∈ sv_tbl := sv_in 676 (by decide +kernel) rfl
theorem kw_678 : Cond.methodLink RL 127 yL_person ∈ sv_tbl := sv_in 678 (by decide +kernel) rfl
theorem kw_679 : Cond.static yL_person ∈ sv_tbl := sv_in 679 (by decide +kernel) rfl
theorem kw_681 : Cond.methodLink RL 49 yX5_person ∈ sv_tbl := sv_in 681 (by decide +kernel) rfl
theorem kw_682 : Cond.instanceMethod yX5_person ∈ sv_tbl := sv_in 682 (by decide +kernel) rfl
theorem kw_683 : Cond.selects RX5 yX5_person yX5_person ∈ sv_tbl := sv_in 683 (by decide +kernel) rfl
theorem kw_684 : Cond.code yX5_person cX5_person 3 (some .int) ∈ sv_tbl := sv_in 684 (by decide +kernel) rfl
theorem kw_686 : Cond.methodLink RL 130 yL_count ∈ sv_tbl := sv_in 686 (by decide +kernel) rfl
theorem kw_687 : Cond.static yL_count ∈ sv_tbl := sv_in 687 (by decide +kernel) rfl
theorem kw_689 : Cond.methodLink RL 52 yX5_count ∈ sv_tbl := sv_in 689 (by decide +kernel) rfl
theorem kw_690 : Cond.instanceMethod yX5_count ∈ sv_tbl := sv_in 690 (by decide +kernel) rfl
theorem kw_691 : Cond.selects RX5 yX5_count yX5_count ∈ sv_tbl := sv_in 691 (by decide +kernel) rfl
theorem kw_692 : Cond.code yX5_count cX5_count 2 (some .int) ∈ sv_tbl := sv_in 692 (by decide +kernel) rfl
theorem kw_693 : Cond.methodLink RL 133 yL_setting ∈ sv_tbl := sv_in 693 (by decide +kernel) rfl
theorem kw_694 : Cond.static yL_setting ∈ sv_tbl := sv_in 694 (by decide +kernel) rfl
theorem kw_696 : Cond.methodLink RL 55 yX5_setting ∈ sv_tbl := sv_in 696 (by decide +kernel) rfl
theorem kw_697 : Cond.instanceMethod yX5_setting ∈ sv_tbl := sv_in 697 (by decide +kernel) rfl
theorem kw_698 : Cond.selects RX5 yX5_setting yX5_setting ∈ sv_tbl := sv_in 698 (by decide +kernel) rfl
theorem kw_699 : Cond.code yX5_setting cX5_setting 2 (some .int) ∈ sv_tbl := sv_in 699 (by decide +kernel) rfl
theorem kw_700 : Cond.methodLink RL 136 yL_ifPassed ∈ sv_tbl := sv_in 700 (by decide +kernel) rfl
theorem kw_701 : Cond.static yL_ifPassed ∈ sv_tbl := sv_in 701 (by decide +kernel) rfl
theorem kw_703 : Cond.methodLink RL 58 yX5_ifPassed ∈ sv_tbl := sv_in 703 (by decide +kernel) rfl
theorem kw_704 : Cond.instanceMethod yX5_ifPassed ∈ sv_tbl := sv_in 704 (by decide +kernel) rfl
theorem kw_705 : Cond.selects RX5 yX5_ifPassed yX5_ifPassed ∈ sv_tbl := sv_in 705 (by decide +kernel) rfl
theorem kw_706 : Cond.code yX5_ifPassed cX5_ifPassed 3 (some .int) ∈ sv_tbl := sv_in 706 (by decide +kernel) rfl
theorem kw_707 : Cond.methodLink RL 139 yL_dark ∈ sv_tbl := sv_in 707 (by decide +kernel) rfl
theorem kw_708 : Cond.static yL_dark ∈ sv_tbl := sv_in 708 (by decide +kernel) rfl
theorem kw_710 : Cond.methodLink RL 61 yX5_dark ∈ sv_tbl := sv_in 710 (by decide +kernel) rfl
theorem kw_711 : Cond.instanceMethod yX5_dark ∈ sv_tbl := sv_in 711 (by decide +kernel) rfl
theorem kw_712 : Cond.selects RX5 yX5_dark yX5_dark ∈ sv_tbl := sv_in 712 (by decide +kernel) rfl
theorem kw_713 : Cond.code yX5_dark cX5_dark 3 (some .int) ∈ sv_tbl := sv_in 713 (by decide +kernel) rfl
theorem kw_714 : Cond.methodLink RL 142 yL_leastTime ∈ sv_tbl := sv_in 714 (by decide +kernel) rfl
theorem kw_715 : Cond.static yL_leastTime ∈ sv_tbl := sv_in 715 (by decide +kernel) rfl
theorem kw_717 : Cond.methodLink RL 64 yX5_leastTime ∈ sv_tbl := sv_in 717 (by decide +kernel) rfl
theorem kw_718 : Cond.instanceMethod yX5_leastTime ∈ sv_tbl := sv_in 718 (by decide +kernel) rfl
theorem kw_719 : Cond.selects RX5 yX5_leastTime yX5_leastTime ∈ sv_tbl := sv_in 719 (by decide +kernel) rfl
theorem kw_720 : Cond.code yX5_leastTime cX5_leastTime 3 (some .int) ∈ sv_tbl := sv_in 720 (by decide +kernel) rfl
theorem kw_721 : Cond.classLink RL 68 RX6 ∈ sv_tbl := sv_in 721 (by decide +kernel) rfl
theorem kw_722 : Cond.instantiable RX6 13 ∈ sv_tbl := sv_in 722 (by decide +kernel) rfl
theorem kw_723 : Cond.methodLink RL 70 yX6_init ∈ sv_tbl := sv_in 723 (by decide +kernel) rfl
theorem kw_724 : Cond.instanceMethod yX6_init ∈ sv_tbl := sv_in 724 (by decide +kernel) rfl
theorem kw_725 : Cond.code yX6_init cX6_init 2 none ∈ sv_tbl := sv_in 725 (by decide +kernel) rfl
theorem kw_726 : Cond.methodLink RX6 1 Lib.objectInit ∈ sv_tbl := sv_in 726 (by decide +kernel) rfl
theorem kw_727 : Cond.fieldLink RX6 7 "StairLightModel" "now" "[I" ∈ sv_tbl := sv_in 727 (by decide +kernel) rfl
theorem kw_728 : Cond.fieldLink RX6 13 "StairLightModel" "then" "[I" ∈ sv_tbl := sv_in 728 (by decide +kernel) rfl
theorem kw_729 : Cond.fieldLink RX6 16 "StairLightModel" "past" "[I" ∈ sv_tbl := sv_in 729 (by decide +kernel) rfl
theorem kw_730 : Cond.fieldLink RX6 33 "StairLightModel" "kept" "I" ∈ sv_tbl := sv_in 730 (by decide +kernel) rfl
theorem kw_731 : Cond.fieldLink RX6 19 "StairLightModel" "text" "[I" ∈ sv_tbl := sv_in 731 (by decide +kernel) rfl
theorem kw_732 : Cond.fieldLink RX6 105 "StairLightModel" "typed" "I" ∈ sv_tbl := sv_in 732 (by decide +kernel) rfl
theorem kw_733 : Cond.fieldLink RX6 25 "StairLightModel" "thrown" "I" ∈ sv_tbl := sv_in 733 (by decide +kernel) rfl
theorem kw_734 : Cond.fieldLink RX6 108 "StairLightModel" "at" "I" ∈ sv_tbl := sv_in 734 (by decide +kernel) rfl
theorem kw_735 : Cond.fieldLink RX6 111 "StairLightModel" "isFault" "Z" ∈ sv_tbl := sv_in 735 (by decide +kernel) rfl
theorem kw_736 : Cond.fieldLink RX6 22 "StairLightModel" "told" "[I" ∈ sv_tbl := sv_in 736 (by decide +kernel) rfl
theorem kw_737 : Cond.fieldLink RX6 122 "StairLightModel" "tolds" "I" ∈ sv_tbl := sv_in 737 (by decide +kernel) rfl
theorem kw_738 : Cond.fieldLink RX6 75 "StairLightModel" "watched" "I" ∈ sv_tbl := sv_in 738 (by decide +kernel) rfl
theorem kw_739 : Cond.fieldLink RX6 72 "StairLightModel" "darks" "I" ∈ sv_tbl := sv_in 739 (by decide +kernel) rfl
theorem kw_740 : Cond.laysFinal RX6 "StairLightModel" "now" "[I" ∈ sv_tbl := sv_in 740 (by decide +kernel) rfl
theorem kw_742 : Cond.laysFinal RX6 "StairLightModel" "then" "[I" ∈ sv_tbl := sv_in 742 (by decide +kernel) rfl
theorem kw_744 : Cond.laysFinal RX6 "StairLightModel" "past" "[I" ∈ sv_tbl := sv_in 744 (by decide +kernel) rfl
theorem kw_746 : Cond.lays RX6 "StairLightModel" "kept" "I" ∈ sv_tbl := sv_in 746 (by decide +kernel) rfl
theorem kw_748 : Cond.laysFinal RX6 "StairLightModel" "text" "[I" ∈ sv_tbl := sv_in 748 (by decide +kernel) rfl
theorem kw_750 : Cond.lays RX6 "StairLightModel" "typed" "I" ∈ sv_tbl := sv_in 750 (by decide +kernel) rfl
theorem kw_752 : Cond.lays RX6 "StairLightModel" "thrown" "I" ∈ sv_tbl := sv_in 752 (by decide +kernel) rfl
theorem kw_754 : Cond.lays RX6 "StairLightModel" "at" "I" ∈ sv_tbl := sv_in 754 (by decide +kernel) rfl
theorem kw_756 : Cond.lays RX6 "StairLightModel" "isFault" "Z" ∈ sv_tbl := sv_in 756 (by decide +kernel) rfl
theorem kw_758 : Cond.laysFinal RX6 "StairLightModel" "told" "[I" ∈ sv_tbl := sv_in 758 (by decide +kernel) rfl
theorem kw_760 : Cond.lays RX6 "StairLightModel" "tolds" "I" ∈ sv_tbl := sv_in 760 (by decide +kernel) rfl
theorem kw_762 : Cond.lays RX6 "StairLightModel" "watched" "I" ∈ sv_tbl := sv_in 762 (by decide +kernel) rfl
theorem kw_764 : Cond.lays RX6 "StairLightModel" "darks" "I" ∈ sv_tbl := sv_in 764 (by decide +kernel) rfl
theorem kw_767 : Cond.methodLink RL 77 yX6_thrown ∈ sv_tbl := sv_in 767 (by decide +kernel) rfl
theorem kw_768 : Cond.instanceMethod yX6_thrown ∈ sv_tbl := sv_in 768 (by decide +kernel) rfl
theorem kw_769 : Cond.selects RX6 yX6_thrown yX6_thrown ∈ sv_tbl := sv_in 769 (by decide +kernel) rfl
theorem kw_770 : Cond.code yX6_thrown cX6_thrown 1 (some .int) ∈ sv_tbl := sv_in 770 (by decide +kernel) rfl
theorem kw_771 : Cond.methodLink RL 123 yX6_undo ∈ sv_tbl := sv_in 771 (by decide +kernel) rfl
theorem kw_772 : Cond.instanceMethod yX6_undo ∈ sv_tbl := sv_in 772 (by decide +kernel) rfl
theorem kw_773 : Cond.selects RX6 yX6_undo yX6_undo ∈ sv_tbl := sv_in 773 (by decide +kernel) rfl
theorem kw_774 : Cond.code yX6_undo cX6_undo 1 (some .int) ∈ sv_tbl := sv_in 774 (by decide +kernel) rfl
theorem kw_775 : Cond.methodLink RX6 40 yX6_fails ∈ sv_tbl := sv_in 775 (by decide +kernel) rfl
theorem kw_777 : Cond.instanceMethod yX6_fails ∈ sv_tbl := sv_in 777 (by decide +kernel) rfl
theorem kw_778 : Cond.code yX6_fails cX6_fails 2 (some .int) ∈ sv_tbl := sv_in 778 (by decide +kernel) rfl
theorem kw_779 : Cond.methodLink RX6 36 yX6_copies ∈ sv_tbl := sv_in 779 (by decide +kernel) rfl
theorem kw_780 : Cond.static yX6_copies ∈ sv_tbl := sv_in 780 (by decide +kernel) rfl
theorem kw_781 : Cond.code yX6_copies cX6_copies 5 none ∈ sv_tbl := sv_in 781 (by decide +kernel) rfl
theorem kw_782 : Cond.methodLink RL 76 yX6_come ∈ sv_tbl := sv_in 782 (by decide +kernel) rfl
theorem kw_783 : Cond.instanceMethod yX6_come ∈ sv_tbl := sv_in 783 (by decide +kernel) rfl
theorem kw_784 : Cond.selects RX6 yX6_come yX6_come ∈ sv_tbl := sv_in 784 (by decide +kernel) rfl
theorem kw_785 : Cond.code yX6_come cX6_come 3 (some .int) ∈ sv_tbl := sv_in 785 (by decide +kernel) rfl
theorem kw_786 : Cond.methodLink RX6 82 yX6_mayWalk ∈ sv_tbl := sv_in 786 (by decide +kernel) rfl
theorem kw_787 : Cond.static yX6_mayWalk ∈ sv_tbl := sv_in 787 (by decide +kernel) rfl
theorem kw_788 : Cond.code yX6_mayWalk cX6_mayWalk 2 (some .int) ∈ sv_tbl := sv_in 788 (by decide +kernel) rfl
theorem kw_789 : Cond.methodLink RX6 78 yX6_isFloor ∈ sv_tbl := sv_in 789 (by decide +kernel) rfl
theorem kw_790 : Cond.static yX6_isFloor ∈ sv_tbl := sv_in 790 (by decide +kernel) rfl
theorem kw_791 : Cond.code yX6_isFloor cX6_isFloor 1 (some .boolean) ∈ sv_tbl := sv_in 791 (by decide +kernel) rfl
theorem kw_792 : Cond.methodLink RX6 29 yX6_in ∈ sv_tbl := sv_in 792 (by decide +kernel) rfl
theorem kw_793 : Cond.static yX6_in ∈ sv_tbl := sv_in 793 (by decide +kernel) rfl
theorem kw_794 : Cond.code yX6_in cX6_in 3 (some .boolean) ∈ sv_tbl := sv_in 794 (by decide +kernel) rfl
theorem kw_795 : Cond.methodLink RX6 86 yX6_saves ∈ sv_tbl := sv_in 795 (by decide +kernel) rfl
theorem kw_797 : Cond.instanceMethod yX6_saves ∈ sv_tbl := sv_in 797 (by decide +kernel) rfl
theorem kw_798 : Cond.code yX6_saves cX6_saves 2 none ∈ sv_tbl := sv_in 798 (by decide +kernel) rfl
theorem kw_799 : Cond.methodLink RX6 89 yX6_comes ∈ sv_tbl := sv_in 799 (by decide +kernel) rfl
theorem kw_800 : Cond.static yX6_comes ∈ sv_tbl := sv_in 800 (by decide +kernel) rfl
theorem kw_801 : Cond.code yX6_comes cX6_comes 4 (some .int) ∈ sv_tbl := sv_in 801 (by decide +kernel) rfl
theorem kw_802 : Cond.methodLink RL 82 yX6_turn ∈ sv_tbl := sv_in 802 (by decide +kernel) rfl
theorem kw_803 : Cond.instanceMethod yX6_turn ∈ sv_tbl := sv_in 803 (by decide +kernel) rfl
theorem kw_804 : Cond.selects RX6 yX6_turn yX6_turn ∈ sv_tbl := sv_in 804 (by decide +kernel) rfl
theorem kw_805 : Cond.code yX6_turn cX6_turn 5 (some .int) ∈ sv_tbl := sv_in 805 (by decide +kernel) rfl
theorem kw_806 : Cond.methodLink RX6 48 yX6_by ∈ sv_tbl := sv_in 806 (by decide +kernel) rfl
theorem kw_807 : Cond.static yX6_by ∈ sv_tbl := sv_in 807 (by decide +kernel) rfl
theorem kw_808 : Cond.code yX6_by cX6_by 3 (some .int) ∈ sv_tbl := sv_in 808 (by decide +kernel) rfl
theorem kw_809 : Cond.methodLink RX6 92 yX6_changes ∈ sv_tbl := sv_in 809 (by decide +kernel) rfl
theorem kw_811 : Cond.instanceMethod yX6_changes ∈ sv_tbl := sv_in 811 (by decide +kernel) rfl
theorem kw_812 : Cond.code yX6_changes cX6_changes 4 (some .int) ∈ sv_tbl := sv_in 812 (by decide +kernel) rfl
theorem kw_813 : Cond.methodLink RL 86 yX6_press ∈ sv_tbl := sv_in 813 (by decide +kernel) rfl
theorem kw_814 : Cond.instanceMethod yX6_press ∈ sv_tbl := sv_in 814 (by decide +kernel) rfl
theorem kw_815 : Cond.selects RX6 yX6_press yX6_press ∈ sv_tbl := sv_in 815 (by decide +kernel) rfl
theorem kw_816 : Cond.code yX6_press cX6_press 3 (some .int) ∈ sv_tbl := sv_in 816 (by decide +kernel) rfl
theorem kw_817 : Cond.methodLink RX6 44 yX6_of ∈ sv_tbl := sv_in 817 (by decide +kernel) rfl
theorem kw_818 : Cond.static yX6_of ∈ sv_tbl := sv_in 818 (by decide +kernel) rfl
theorem kw_819 : Cond.code yX6_of cX6_of 3 (some .int) ∈ sv_tbl := sv_in 819 (by decide +kernel) rfl
theorem kw_820 : Cond.methodLink RX6 59 yX6_switches ∈ sv_tbl := sv_in 820 (by decide +kernel) rfl
theorem kw_821 : Cond.static yX6_switches ∈ sv_tbl := sv_in 821 (by decide +kernel) rfl
theorem kw_822 : Cond.code yX6_switches cX6_switches 3 none ∈ sv_tbl := sv_in 822 (by decide +kernel) rfl
theorem kw_823 : Cond.methodLink RL 90 yX6_sensor ∈ sv_tbl := sv_in 823 (by decide +kernel) rfl
theorem kw_824 : Cond.instanceMethod yX6_sensor ∈ sv_tbl := sv_in 824 (by decide +kernel) rfl
theorem kw_825 : Cond.selects RX6 yX6_sensor yX6_sensor ∈ sv_tbl := sv_in 825 (by decide +kernel) rfl
theorem kw_826 : Cond.code yX6_sensor cX6_sensor 3 (some .int) ∈ sv_tbl := sv_in 826 (by decide +kernel) rfl
theorem kw_827 : Cond.methodLink RL 95 yX6_night ∈ sv_tbl := sv_in 827 (by decide +kernel) rfl
theorem kw_828 : Cond.instanceMethod yX6_night ∈ sv_tbl := sv_in 828 (by decide +kernel) rfl
theorem kw_829 : Cond.selects RX6 yX6_night yX6_night ∈ sv_tbl := sv_in 829 (by decide +kernel) rfl
theorem kw_830 : Cond.code yX6_night cX6_night 2 (some .int) ∈ sv_tbl := sv_in 830 (by decide +kernel) rfl
theorem kw_831 : Cond.methodLink RL 99 yX6_fire ∈ sv_tbl := sv_in 831 (by decide +kernel) rfl
theorem kw_832 : Cond.instanceMethod yX6_fire ∈ sv_tbl := sv_in 832 (by decide +kernel) rfl
theorem kw_833 : Cond.selects RX6 yX6_fire yX6_fire ∈ sv_tbl := sv_in 833 (by decide +kernel) rfl
theorem kw_834 : Cond.code yX6_fire cX6_fire 4 (some .int) ∈ sv_tbl := sv_in 834 (by decide +kernel) rfl
theorem kw_835 : Cond.methodLink RL 102 yX6_set ∈ sv_tbl := sv_in 835 (by decide +kernel) rfl
theorem kw_836 : Cond.instanceMethod yX6_set ∈ sv_tbl := sv_in 836 (by decide +kernel) rfl
theorem kw_837 : Cond.selects RX6 yX6_set yX6_set ∈ sv_tbl := sv_in 837 (by decide +kernel) rfl
theorem kw_838 : Cond.code yX6_set cX6_set 3 (some .int) ∈ sv_tbl := sv_in 838 (by decide +kernel) rfl
theorem kw_839 : Cond.methodLink RX6 95 yX6_isFor ∈ sv_tbl := sv_in 839 (by decide +kernel) rfl
theorem kw_840 : Cond.static yX6_isFor ∈ sv_tbl := sv_in 840 (by decide +kernel) rfl
theorem kw_841 : Cond.code yX6_isFor cX6_isFor 2 (some .boolean) ∈ sv_tbl := sv_in 841 (by decide +kernel) rfl
theorem kw_842 : Cond.methodLink RL 105 yX6_pass ∈ sv_tbl := sv_in 842 (by decide +kernel) rfl
theorem kw_843 : Cond.instanceMethod yX6_pass ∈ sv_tbl := sv_in 843 (by decide +kernel) rfl
theorem kw_844 : Cond.selects RX6 yX6_pass yX6_pass ∈ sv_tbl := sv_in 844 (by decide +kernel) rfl
theorem kw_845 : Cond.code yX6_pass cX6_pass 4 (some .int) ∈ sv_tbl := sv_in 845 (by decide +kernel) rfl
theorem kw_846 : Cond.methodLink RX6 99 yX6_sum ∈ sv_tbl := sv_in 846 (by decide +kernel) rfl
theorem kw_847 : Cond.static yX6_sum ∈ sv_tbl := sv_in 847 (by decide +kernel) rfl
theorem kw_848 : Cond.code yX6_sum cX6_sum 4 (some .int) ∈ sv_tbl := sv_in 848 (by decide +kernel) rfl
theorem kw_849 : Cond.methodLink RX6 102 yX6_second ∈ sv_tbl := sv_in 849 (by decide +kernel) rfl
theorem kw_851 : Cond.instanceMethod yX6_second ∈ sv_tbl := sv_in 851 (by decide +kernel) rfl
theorem kw_852 : Cond.code yX6_second cX6_second 5 none ∈ sv_tbl := sv_in 852 (by decide +kernel) rfl
theorem kw_853 : Cond.methodLink RX6 62 yX6_walks ∈ sv_tbl := sv_in 853 (by decide +kernel) rfl
theorem kw_854 : Cond.static yX6_walks ∈ sv_tbl := sv_in 854 (by decide +kernel) rfl
theorem kw_855 : Cond.code yX6_walks cX6_walks 3 none ∈ sv_tbl := sv_in 855 (by decide +kernel) rfl
theorem kw_856 : Cond.methodLink RX6 51 yX6_leaves ∈ sv_tbl := sv_in 856 (by decide +kernel) rfl
theorem kw_857 : Cond.static yX6_leaves ∈ sv_tbl := sv_in 857 (by decide +kernel) rfl
theorem kw_858 : Cond.code yX6_leaves cX6_leaves 3 none ∈ sv_tbl := sv_in 858 (by decide +kernel) rfl
theorem kw_859 : Cond.methodLink RX6 66 yX6_looks ∈ sv_tbl := sv_in 859 (by decide +kernel) rfl
theorem kw_860 : Cond.static yX6_looks ∈ sv_tbl := sv_in 860 (by decide +kernel) rfl
theorem kw_861 : Cond.code yX6_looks cX6_looks 2 none ∈ sv_tbl := sv_in 861 (by decide +kernel) rfl
theorem kw_862 : Cond.methodLink RX6 55 yX6_on ∈ sv_tbl := sv_in 862 (by decide +kernel) rfl
theorem kw_863 : Cond.static yX6_on ∈ sv_tbl := sv_in 863 (by decide +kernel) rfl
theorem kw_864 : Cond.code yX6_on cX6_on 4 (some .int) ∈ sv_tbl := sv_in 864 (by decide +kernel) rfl
theorem kw_865 : Cond.methodLink RX6 69 yX6_lamp ∈ sv_tbl := sv_in 865 (by decide +kernel) rfl
theorem kw_866 : Cond.static yX6_lamp ∈ sv_tbl := sv_in 866 (by decide +kernel) rfl
theorem kw_867 : Cond.code yX6_lamp cX6_lamp 3 (some .int) ∈ sv_tbl := sv_in 867 (by decide +kernel) rfl
theorem kw_868 : Cond.methodLink RL 108 yX6_append ∈ sv_tbl := sv_in 868 (by decide +kernel) rfl
theorem kw_869 : Cond.instanceMethod yX6_append ∈ sv_tbl := sv_in 869 (by decide +kernel) rfl
theorem kw_870 : Cond.selects RX6 yX6_append yX6_append ∈ sv_tbl := sv_in 870 (by decide +kernel) rfl
theorem kw_871 : Cond.code yX6_append cX6_append 2 (some .int) ∈ sv_tbl := sv_in 871 (by decide +kernel) rfl
theorem kw_872 : Cond.methodLink RL 112 yX6_clearBuffer ∈ sv_tbl := sv_in 872 (by decide +kernel) rfl
theorem kw_873 : Cond.instanceMethod yX6_clearBuffer ∈ sv_tbl := sv_in 873 (by decide +kernel) rfl
theorem kw_874 : Cond.selects RX6 yX6_clearBuffer yX6_clearBuffer ∈ sv_tbl := sv_in 874 (by decide +kernel) rfl
theorem kw_875 : Cond.code yX6_clearBuffer cX6_clearBuffer 2 (some .int) ∈ sv_tbl := sv_in 875 (by decide +kernel) rfl
theorem kw_876 : Cond.methodLink RL 116 yX6_firstError ∈ sv_tbl := sv_in 876 (by decide +kernel) rfl
theorem kw_877 : Cond.instanceMethod yX6_firstError ∈ sv_tbl := sv_in 877 (by decide +kernel) rfl
theorem kw_878 : Cond.selects RX6 yX6_firstError yX6_firstError ∈ sv_tbl := sv_in 878 (by decide +kernel) rfl
theorem kw_879 : Cond.code yX6_firstError cX6_firstError 2 (some .int) ∈ sv_tbl := sv_in 879 (by decide +kernel) rfl
theorem kw_880 : Cond.methodLink RX6 128 yX6_isText ∈ sv_tbl := sv_in 880 (by decide +kernel) rfl
theorem kw_882 : Cond.instanceMethod yX6_isText ∈ sv_tbl := sv_in 882 (by decide +kernel) rfl
theorem kw_883 : Cond.code yX6_isText cX6_isText 2 (some .boolean) ∈ sv_tbl := sv_in 883 (by decide +kernel) rfl
theorem kw_884 : Cond.methodLink RX6 125 yX6_isPart ∈ sv_tbl := sv_in 884 (by decide +kernel) rfl
theorem kw_886 : Cond.instanceMethod yX6_isPart ∈ sv_tbl := sv_in 886 (by decide +kernel) rfl
theorem kw_887 : Cond.code yX6_isPart cX6_isPart 4 (some .boolean) ∈ sv_tbl := sv_in 887 (by decide +kernel) rfl
theorem kw_888 : Cond.methodLink RX6 115 yX6_isAt ∈ sv_tbl := sv_in 888 (by decide +kernel) rfl
theorem kw_890 : Cond.instanceMethod yX6_isAt ∈ sv_tbl := sv_in 890 (by decide +kernel) rfl
theorem kw_891 : Cond.code yX6_isAt cX6_isAt 3 (some .boolean) ∈ sv_tbl := sv_in 891 (by decide +kernel) rfl
theorem kw_892 : Cond.methodLink RX6 118 yX6_stops ∈ sv_tbl := sv_in 892 (by decide +kernel) rfl
theorem kw_894 : Cond.instanceMethod yX6_stops ∈ sv_tbl := sv_in 894 (by decide +kernel) rfl
theorem kw_895 : Cond.code yX6_stops cX6_stops 1 (some .boolean) ∈ sv_tbl := sv_in 895 (by decide +kernel) rfl
theorem kw_896 : Cond.methodLink RL 120 yX6_comeAll ∈ sv_tbl := sv_in 896 (by decide +kernel) rfl
theorem kw_897 : Cond.instanceMethod yX6_comeAll ∈ sv_tbl := sv_in 897 (by decide +kernel) rfl
theorem kw_898 : Cond.selects RX6 yX6_comeAll yX6_comeAll ∈ sv_tbl := sv_in 898 (by decide +kernel) rfl
theorem kw_899 : Cond.code yX6_comeAll cX6_comeAll 3 (some .int) ∈ sv_tbl := sv_in 899 (by decide +kernel) rfl
theorem kw_900 : Cond.methodLink RL 126 yX6_floor ∈ sv_tbl := sv_in 900 (by decide +kernel) rfl
theorem kw_901 : Cond.instanceMethod yX6_floor ∈ sv_tbl := sv_in 901 (by decide +kernel) rfl
theorem kw_902 : Cond.selects RX6 yX6_floor yX6_floor ∈ sv_tbl := sv_in 902 (by decide +kernel) rfl
theorem kw_903 : Cond.code yX6_floor cX6_floor 3 (some .int) ∈ sv_tbl := sv_in 903 (by decide +kernel) rfl
theorem kw_904 : Cond.methodLink RX6 131 yX6_ofFloor ∈ sv_tbl := sv_in 904 (by decide +kernel) rfl
theorem kw_906 : Cond.instanceMethod yX6_ofFloor ∈ sv_tbl := sv_in 906 (by decide +kernel) rfl
theorem kw_907 : Cond.code yX6_ofFloor cX6_ofFloor 3 (some .int) ∈ sv_tbl := sv_in 907 (by decide +kernel) rfl
theorem kw_908 : Cond.methodLink RL 129 yX6_person ∈ sv_tbl := sv_in 908 (by decide +kernel) rfl
theorem kw_909 : Cond.instanceMethod yX6_person ∈ sv_tbl := sv_in 909 (by decide +kernel) rfl
theorem kw_910 : Cond.selects RX6 yX6_person yX6_person ∈ sv_tbl := sv_in 910 (by decide +kernel) rfl
theorem kw_911 : Cond.code yX6_person cX6_person 3 (some .int) ∈ sv_tbl := sv_in 911 (by decide +kernel) rfl
theorem kw_912 : Cond.methodLink RL 132 yX6_count ∈ sv_tbl := sv_in 912 (by decide +kernel) rfl
theorem kw_913 : Cond.instanceMethod yX6_count ∈ sv_tbl := sv_in 913 (by decide +kernel) rfl
theorem kw_914 : Cond.selects RX6 yX6_count yX6_count ∈ sv_tbl := sv_in 914 (by decide +kernel) rfl
theorem kw_915 : Cond.code yX6_count cX6_count 2 (some .int) ∈ sv_tbl := sv_in 915 (by decide +kernel) rfl
theorem kw_916 : Cond.methodLink RX6 138 yX6_counted ∈ sv_tbl := sv_in 916 (by decide +kernel) rfl
theorem kw_918 : Cond.instanceMethod yX6_counted ∈ sv_tbl := sv_in 918 (by decide +kernel) rfl
theorem kw_919 : Cond.code yX6_counted cX6_counted 2 (some .int) ∈ sv_tbl := sv_in 919 (by decide +kernel) rfl
theorem kw_920 : Cond.methodLink RX6 134 yX6_lit ∈ sv_tbl := sv_in 920 (by decide +kernel) rfl
theorem kw_921 : Cond.static yX6_lit ∈ sv_tbl := sv_in 921 (by decide +kernel) rfl
theorem kw_922 : Cond.code yX6_lit cX6_lit 3 (some .int) ∈ sv_tbl := sv_in 922 (by decide +kernel) rfl
theorem kw_923 : Cond.methodLink RL 135 yX6_setting ∈ sv_tbl := sv_in 923 (by decide +kernel) rfl
theorem kw_924 : Cond.instanceMethod yX6_setting ∈ sv_tbl := sv_in 924 (by decide +kernel) rfl
theorem kw_925 : Cond.selects RX6 yX6_setting yX6_setting ∈ sv_tbl := sv_in 925 (by decide +kernel) rfl
theorem kw_926 : Cond.code yX6_setting cX6_setting 2 (some .int) ∈ sv_tbl := sv_in 926 (by decide +kernel) rfl
theorem kw_927 : Cond.methodLink RL 138 yX6_ifPassed ∈ sv_tbl := sv_in 927 (by decide +kernel) rfl
theorem kw_928 : Cond.instanceMethod yX6_ifPassed ∈ sv_tbl := sv_in 928 (by decide +kernel) rfl
theorem kw_929 : Cond.selects RX6 yX6_ifPassed yX6_ifPassed ∈ sv_tbl := sv_in 929 (by decide +kernel) rfl
theorem kw_930 : Cond.code yX6_ifPassed cX6_ifPassed 3 (some .int) ∈ sv_tbl := sv_in 930 (by decide +kernel) rfl
theorem kw_931 : Cond.methodLink RX6 141 yX6_byPassing ∈ sv_tbl := sv_in 931 (by decide +kernel) rfl
theorem kw_933 : Cond.instanceMethod yX6_byPassing ∈ sv_tbl := sv_in 933 (by decide +kernel) rfl
theorem kw_934 : Cond.code yX6_byPassing cX6_byPassing 4 (some .int) ∈ sv_tbl := sv_in 934 (by decide +kernel) rfl
theorem kw_935 : Cond.methodLink RL 141 yX6_dark ∈ sv_tbl := sv_in 935 (by decide +kernel) rfl
theorem kw_936 : Cond.instanceMethod yX6_dark ∈ sv_tbl := sv_in 936 (by decide +kernel) rfl
theorem kw_937 : Cond.selects RX6 yX6_dark yX6_dark ∈ sv_tbl := sv_in 937 (by decide +kernel) rfl
theorem kw_938 : Cond.code yX6_dark cX6_dark 3 (some .int) ∈ sv_tbl := sv_in 938 (by decide +kernel) rfl
theorem kw_939 : Cond.methodLink RX6 148 yX6_walked ∈ sv_tbl := sv_in 939 (by decide +kernel) rfl
theorem kw_941 : Cond.instanceMethod yX6_walked ∈ sv_tbl := sv_in 941 (by decide +kernel) rfl
theorem kw_942 : Cond.code yX6_walked cX6_walked 4 (some .int) ∈ sv_tbl := sv_in 942 (by decide +kernel) rfl
theorem kw_943 : Cond.methodLink RX6 144 yX6_isThere ∈ sv_tbl := sv_in 943 (by decide +kernel) rfl
theorem kw_944 : Cond.static yX6_isThere ∈ sv_tbl := sv_in 944 (by decide +kernel) rfl
theorem kw_945 : Cond.code yX6_isThere cX6_isThere 4 (some .boolean) ∈ sv_tbl := sv_in 945 (by decide +kernel) rfl
theorem kw_946 : Cond.methodLink RL 144 yX6_leastTime ∈ sv_tbl := sv_in 946 (by decide +kernel) rfl
theorem kw_947 : Cond.instanceMethod yX6_leastTime ∈ sv_tbl := sv_in 947 (by decide +kernel) rfl
theorem kw_948 : Cond.selects RX6 yX6_leastTime yX6_leastTime ∈ sv_tbl := sv_in 948 (by decide +kernel) rfl
theorem kw_949 : Cond.code yX6_leastTime cX6_leastTime 3 (some .int) ∈ sv_tbl := sv_in 949 (by decide +kernel) rfl
theorem kw_950 : Cond.methodLink RX6 152 yX6_least ∈ sv_tbl := sv_in 950 (by decide +kernel) rfl
theorem kw_952 : Cond.instanceMethod yX6_least ∈ sv_tbl := sv_in 952 (by decide +kernel) rfl
theorem kw_953 : Cond.code yX6_least cX6_least 7 (some .int) ∈ sv_tbl := sv_in 953 (by decide +kernel) rfl
theorem kw_954 : Cond.methodLink RL 148 yX6_worst ∈ sv_tbl := sv_in 954 (by decide +kernel) rfl
theorem kw_955 : Cond.instanceMethod yX6_worst ∈ sv_tbl := sv_in 955 (by decide +kernel) rfl
theorem kw_956 : Cond.selects RX6 yX6_worst yX6_worst ∈ sv_tbl := sv_in 956 (by decide +kernel) rfl
theorem kw_957 : Cond.code yX6_worst cX6_worst 1 (some .int) ∈ sv_tbl := sv_in 957 (by decide +kernel) rfl
theorem kw_958 : Cond.methodLink RX6 155 yX6_missed ∈ sv_tbl := sv_in 958 (by decide +kernel) rfl
theorem kw_960 : Cond.instanceMethod yX6_missed ∈ sv_tbl := sv_in 960 (by decide +kernel) rfl
theorem kw_961 : Cond.code yX6_missed cX6_missed 4 (some .int) ∈ sv_tbl := sv_in 961 (by decide +kernel) rfl
theorem kw_962 : Cond.methodLink RL 153 yX6_lightness ∈ sv_tbl := sv_in 962 (by decide +kernel) rfl
theorem kw_963 : Cond.instanceMethod yX6_lightness ∈ sv_tbl := sv_in 963 (by decide +kernel) rfl
theorem kw_964 : Cond.selects RX6 yX6_lightness yX6_lightness ∈ sv_tbl := sv_in 964 (by decide +kernel) rfl
theorem kw_965 : Cond.code yX6_lightness cX6_lightness 1 (some .double) ∈ sv_tbl := sv_in 965 (by decide +kernel) rfl
theorem kw_966 : Cond.methodLink RX6 159 yX6_share ∈ sv_tbl := sv_in 966 (by decide +kernel) rfl
theorem kw_968 : Cond.instanceMethod yX6_share ∈ sv_tbl := sv_in 968 (by decide +kernel) rfl
theorem kw_969 : Cond.code yX6_share cX6_share 2 (some .double) ∈ sv_tbl := sv_in 969 (by decide +kernel) rfl
theorem kw_970 : Cond.methodLink RL 158 yX6_digest ∈ sv_tbl := sv_in 970 (by decide +kernel) rfl
theorem kw_971 : Cond.instanceMethod yX6_digest ∈ sv_tbl := sv_in 971 (by decide +kernel) rfl
theorem kw_972 : Cond.selects RX6 yX6_digest yX6_digest ∈ sv_tbl := sv_in 972 (by decide +kernel) rfl
theorem kw_973 : Cond.code yX6_digest cX6_digest 5 (some .long) ∈ sv_tbl := sv_in 973 (by decide +kernel) rfl
theorem kw_974 : Cond.constantLong RX6 163 (3061) ∈ sv_tbl := sv_in 974 (by decide +kernel) rfl
theorem kw_975 : Cond.constantLong RX6 165 (31) ∈ sv_tbl := sv_in 975 (by decide +kernel) rfl
theorem kw_976 : Cond.methodLink RX6 167 yJxe99ae_doubleToLongBits_ccdee ∈ sv_tbl := sv_in 976 (by decide +kernel) rfl
theorem kw_977 : Cond.static yJxe99ae_doubleToLongBits_ccdee ∈ sv_tbl := sv_in 977 (by decide +kernel) rfl
theorem kw_978 : Cond.code yJxe99ae_doubleToLongBits_ccdee cJxe99ae_doubleToLongBits_ccdee 2 (some .long) ∈ sv_tbl := sv_in 978 (by decide +kernel) rfl
theorem kw_979 : Cond.methodLink RJxe99ae 122 yJxe99ae_isNaN_b9ae7 ∈ sv_tbl := sv_in 979 (by decide +kernel) rfl
theorem kw_980 : Cond.static yJxe99ae_isNaN_b9ae7 ∈ sv_tbl := sv_in 980 (by decide +kernel) rfl
theorem kw_981 : Cond.code yJxe99ae_isNaN_b9ae7 cJxe99ae_isNaN_b9ae7 2 (some .boolean) ∈ sv_tbl := sv_in 981 (by decide +kernel) rfl
theorem kw_982 : Cond.methodLink RJxe99ae 134 ⟨"java/lang/Double", "doubleToRawLongBits", "(D)J"⟩ ∈ sv_tbl := sv_in 982 (by decide +kernel) rfl
theorem kw_983 : Cond.static (⟨"java/lang/Double", "doubleToRawLongBits", "(D)J"⟩ : MethodName) ∈ sv_tbl := sv_in 983 (by decide +kernel) rfl
theorem kw_985 : Cond.constantLong RJxe99ae 137 (9221120237041090560) ∈ sv_tbl := sv_in 985 (by decide +kernel) rfl
theorem kw_986 : Cond.arrayClass .long ∈ sv_tbl := sv_in 986 (by decide +kernel) rfl
end
section
theorem dX0_init_0 : decode cX0_init 0 = .ok (.aload_n 0, 1) := by decide +kernel
theorem dX0_init_1 : decode cX0_init 1 = .ok (.invokespecial 3, 3) := by decide +kernel
theorem dX0_init_4 : decode cX0_init 4 = .ok (.aload_n 0, 1) := by decide +kernel
theorem dX0_init_5 : decode cX0_init 5 = .ok (.bipush 8, 2) := by decide +kernel
theorem dX0_init_7 : decode cX0_init 7 = .ok (.newarray .int, 2) := by decide +kernel
theorem dX0_init_9 : decode cX0_init 9 = .ok (.putfield 9, 3) := by decide +kernel
theorem dX0_init_12 : decode cX0_init 12 = .ok (.aload_n 0, 1) := by decide +kernel
theorem dX0_init_13 : decode cX0_init 13 = .ok (.bipush 8, 2) := by decide +kernel
theorem dX0_init_15 : decode cX0_init 15 = .ok (.newarray .int, 2) := by decide +kernel
theorem dX0_init_17 : decode cX0_init 17 = .ok (.putfield 15, 3) := by decide +kernel
theorem dX0_init_20 : decode cX0_init 20 = .ok (.aload_n 0, 1) := by decide +kernel
theorem dX0_init_21 : decode cX0_init 21 = .ok (.bipush 8, 2) := by decide +kernel
theorem dX0_init_23 : decode cX0_init 23 = .ok (.newarray .int, 2) := by decide +kernel
theorem dX0_init_25 : decode cX0_init 25 = .ok (.putfield 18, 3) := by decide +kernel
theorem dX0_init_28 : decode cX0_init 28 = .ok (.aload_n 0, 1) := by decide +kernel
theorem dX0_init_29 : decode cX0_init 29 = .ok (.bipush 8, 2) := by decide +kernel
theorem dX0_init_31 : decode cX0_init 31 = .ok (.newarray .int, 2) := by decide +kernel
theorem dX0_init_33 : decode cX0_init 33 = .ok (.putfield 21, 3) := by decide +kernel
theorem dX0_init_36 : decode cX0_init 36 = .ok (.aload_n 0, 1) := by decide +kernel
theorem dX0_init_37 : decode cX0_init 37 = .ok (.bipush 8, 2) := by decide +kernel
theorem dX0_init_39 : decode cX0_init 39 = .ok (.newarray .int, 2) := by decide +kernel
theorem dX0_init_41 : decode cX0_init 41 = .ok (.putfield 24, 3) := by decide +kernel
theorem dX0_init_44 : decode cX0_init 44 = .ok (.aload_n 0, 1) := by decide +kernel
theorem dX0_init_45 : decode cX0_init 45 = .ok (.bipush 8, 2) := by decide +kernel
theorem dX0_init_47 : decode cX0_init 47 = .ok (.newarray .int, 2) := by decide +kernel
theorem dX0_init_49 : decode cX0_init 49 = .ok (.putfield 27, 3) := by decide +kernel
theorem dX0_init_52 : decode cX0_init 52 = .ok (.iconst 0, 1) := by decide +kernel
theorem dX0_init_53 : decode cX0_init 53 = .ok (.istore_n 1, 1) := by decide +kernel
theorem dX0_init_54 : decode cX0_init 54 = .ok (.iload_n 1, 1) := by decide +kernel
theorem dX0_init_55 : decode cX0_init 55 = .ok (.aload_n 0, 1) := by decide +kernel
theorem dX0_init_56 : decode cX0_init 56 = .ok (.getfield 15, 3) := by decide +kernel
theorem dX0_init_59 : decode cX0_init 59 = .ok (.arraylength, 1) := by decide +kernel
theorem dX0_init_60 : decode cX0_init 60 = .ok (.if_icmp .ge 16, 3) := by decide +kernel
theorem dX0_init_63 : decode cX0_init 63 = .ok (.aload_n 0, 1) := by decide +kernel
theorem dX0_init_64 : decode cX0_init 64 = .ok (.getfield 15, 3) := by decide +kernel
theorem dX0_init_67 : decode cX0_init 67 = .ok (.iload_n 1, 1) := by decide +kernel
theorem dX0_init_68 : decode cX0_init 68 = .ok (.iconst 1, 1) := by decide +kernel
theorem dX0_init_69 : decode cX0_init 69 = .ok (.iastore, 1) := by decide +kernel
theorem dX0_init_70 : decode cX0_init 70 = .ok (.iinc 1 1, 3) := by decide +kernel
theorem dX0_init_73 : decode cX0_init 73 = .ok (.goto (-19), 3) := by decide +kernel
theorem dX0_init_76 : decode cX0_init 76 = .ok (.return_, 1) := by decide +kernel
theorem dX0_copyFrom_0 : decode cX0_copyFrom 0 = .ok (.aload_n 1, 1) := by decide +kernel
theorem dX0_copyFrom_1 : decode cX0_copyFrom 1 = .ok (.getfield 9, 3) := by decide +kernel
theorem dX0_copyFrom_4 : decode cX0_copyFrom 4 = .ok (.aload_n 0, 1) := by decide +kernel
theorem dX0_copyFrom_5 : decode cX0_copyFrom 5 = .ok (.getfield 9, 3) := by decide +kernel
theorem dX0_copyFrom_8 : decode cX0_copyFrom 8 = .ok (.invokestatic 30, 3) := by decide +kernel
theorem dX0_copyFrom_11 : decode cX0_copyFrom 11 = .ok (.aload_n 1, 1) := by decide +kernel
theorem dX0_copyFrom_12 : decode cX0_copyFrom 12 = .ok (.getfield 15, 3) := by decide +kernel
theorem dX0_copyFrom_15 : decode cX0_copyFrom 15 = .ok (.aload_n 0, 1) := by decide +kernel
theorem dX0_copyFrom_16 : decode cX0_copyFrom 16 = .ok (.getfield 15, 3) := by decide +kernel
theorem dX0_copyFrom_19 : decode cX0_copyFrom 19 = .ok (.invokestatic 30, 3) := by decide +kernel
theorem dX0_copyFrom_22 : decode cX0_copyFrom 22 = .ok (.aload_n 1, 1) := by decide +kernel
theorem dX0_copyFrom_23 : decode cX0_copyFrom 23 = .ok (.getfield 18, 3) := by decide +kernel
theorem dX0_copyFrom_26 : decode cX0_copyFrom 26 = .ok (.aload_n 0, 1) := by decide +kernel
theorem dX0_copyFrom_27 : decode cX0_copyFrom 27 = .ok (.getfield 18, 3) := by decide +kernel
theorem dX0_copyFrom_30 : decode cX0_copyFrom 30 = .ok (.invokestatic 30, 3) := by decide +kernel
theorem dX0_copyFrom_33 : decode cX0_copyFrom 33 = .ok (.aload_n 1, 1) := by decide +kernel
theorem dX0_copyFrom_34 : decode cX0_copyFrom 34 = .ok (.getfield 21, 3) := by decide +kernel
theorem dX0_copyFrom_37 : decode cX0_copyFrom 37 = .ok (.aload_n 0, 1) := by decide +kernel
theorem dX0_copyFrom_38 : decode cX0_copyFrom 38 = .ok (.getfield 21, 3) := by decide +kernel
theorem dX0_copyFrom_41 : decode cX0_copyFrom 41 = .ok (.invokestatic 30, 3) := by decide +kernel
theorem dX0_copyFrom_44 : decode cX0_copyFrom 44 = .ok (.aload_n 1, 1) := by decide +kernel
theorem dX0_copyFrom_45 : decode cX0_copyFrom 45 = .ok (.getfield 24, 3) := by decide +kernel
theorem dX0_copyFrom_48 : decode cX0_copyFrom 48 = .ok (.aload_n 0, 1) := by decide +kernel
theorem dX0_copyFrom_49 : decode cX0_copyFrom 49 = .ok (.getfield 24, 3) := by decide +kernel
theorem dX0_copyFrom_52 : decode cX0_copyFrom 52 = .ok (.invokestatic 30, 3) := by decide +kernel
theorem dX0_copyFrom_55 : decode cX0_copyFrom 55 = .ok (.aload_n 1, 1) := by decide +kernel
theorem dX0_copyFrom_56 : decode cX0_copyFrom 56 = .ok (.getfield 27, 3) := by decide +kernel
theorem dX0_copyFrom_59 : decode cX0_copyFrom 59 = .ok (.aload_n 0, 1) := by decide +kernel
theorem dX0_copyFrom_60 : decode cX0_copyFrom 60 = .ok (.getfield 27, 3) := by decide +kernel
theorem dX0_copyFrom_63 : decode cX0_copyFrom 63 = .ok (.invokestatic 30, 3) := by decide +kernel
theorem dX0_copyFrom_66 : decode cX0_copyFrom 66 = .ok (.return_, 1) := by decide +kernel
theorem dX0_letBurn_0 : decode cX0_letBurn 0 = .ok (.aload_n 0, 1) := by decide +kernel
theorem dX0_letBurn_1 : decode cX0_letBurn 1 = .ok (.getfield 9, 3) := by decide +kernel
theorem dX0_letBurn_4 : decode cX0_letBurn 4 = .ok (.iload_n 1, 1) := by decide +kernel
theorem dX0_letBurn_5 : decode cX0_letBurn 5 = .ok (.invokestatic 34, 3) := by decide +kernel
theorem dX0_letBurn_8 : decode cX0_letBurn 8 = .ok (.istore_n 3, 1) := by decide +kernel
theorem dX0_letBurn_9 : decode cX0_letBurn 9 = .ok (.iload_n 3, 1) := by decide +kernel
theorem dX0_letBurn_10 : decode cX0_letBurn 10 = .ok (.ifCond .ne 12, 3) := by decide +kernel
theorem dX0_letBurn_13 : decode cX0_letBurn 13 = .ok (.aload_n 0, 1) := by decide +kernel
theorem dX0_letBurn_14 : decode cX0_letBurn 14 = .ok (.getfield 27, 3) := by decide +kernel
theorem dX0_letBurn_17 : decode cX0_letBurn 17 = .ok (.iload_n 1, 1) := by decide +kernel
theorem dX0_letBurn_18 : decode cX0_letBurn 18 = .ok (.iconst 1, 1) := by decide +kernel
theorem dX0_letBurn_19 : decode cX0_letBurn 19 = .ok (.invokestatic 38, 3) := by decide +kernel
theorem dX0_letBurn_22 : decode cX0_letBurn 22 = .ok (.iload_n 3, 1) := by decide +kernel
theorem dX0_letBurn_23 : decode cX0_letBurn 23 = .ok (.iload_n 2, 1) := by decide +kernel
theorem dX0_letBurn_24 : decode cX0_letBurn 24 = .ok (.if_icmp .ge 12, 3) := by decide +kernel
theorem dX0_letBurn_27 : decode cX0_letBurn 27 = .ok (.aload_n 0, 1) := by decide +kernel
theorem dX0_letBurn_28 : decode cX0_letBurn 28 = .ok (.getfield 9, 3) := by decide +kernel
theorem dX0_letBurn_31 : decode cX0_letBurn 31 = .ok (.iload_n 1, 1) := by decide +kernel
theorem dX0_letBurn_32 : decode cX0_letBurn 32 = .ok (.iload_n 2, 1) := by decide +kernel
theorem dX0_letBurn_33 : decode cX0_letBurn 33 = .ok (.invokestatic 42, 3) := by decide +kernel
theorem dX0_letBurn_36 : decode cX0_letBurn 36 = .ok (.return_, 1) := by decide +kernel
theorem dX0_burnDown_0 : decode cX0_burnDown 0 = .ok (.aload_n 0, 1) := by decide +kernel
theorem dX0_burnDown_1 : decode cX0_burnDown 1 = .ok (.getfield 9, 3) := by decide +kernel
theorem dX0_burnDown_4 : decode cX0_burnDown 4 = .ok (.iload_n 1, 1) := by decide +kernel
theorem dX0_burnDown_5 : decode cX0_burnDown 5 = .ok (.invokestatic 34, 3) := by decide +kernel
theorem dX0_burnDown_8 : decode cX0_burnDown 8 = .ok (.ifCond .le 12, 3) := by decide +kernel
theorem dX0_burnDown_11 : decode cX0_burnDown 11 = .ok (.aload_n 0, 1) := by decide +kernel
theorem dX0_burnDown_12 : decode cX0_burnDown 12 = .ok (.getfield 9, 3) := by decide +kernel
theorem dX0_burnDown_15 : decode cX0_burnDown 15 = .ok (.iload_n 1, 1) := by decide +kernel
theorem dX0_burnDown_16 : decode cX0_burnDown 16 = .ok (.iconst (-1), 1) := by decide +kernel
theorem dX0_burnDown_17 : decode cX0_burnDown 17 = .ok (.invokestatic 38, 3) := by decide +kernel
theorem dX0_burnDown_20 : decode cX0_burnDown 20 = .ok (.return_, 1) := by decide +kernel
theorem dX0_mostMissed_0 : decode cX0_mostMissed 0 = .ok (.iconst (-1), 1) := by decide +kernel
theorem dX0_mostMissed_1 : decode cX0_mostMissed 1 = .ok (.istore_n 1, 1) := by decide +kernel
theorem dX0_mostMissed_2 : decode cX0_mostMissed 2 = .ok (.iconst 0, 1) := by decide +kernel
theorem dX0_mostMissed_3 : decode cX0_mostMissed 3 = .ok (.istore_n 2, 1) := by decide +kernel
theorem dX0_mostMissed_4 : decode cX0_mostMissed 4 = .ok (.iload_n 2, 1) := by decide +kernel
theorem dX0_mostMissed_5 : decode cX0_mostMissed 5 = .ok (.bipush 8, 2) := by decide +kernel
theorem dX0_mostMissed_7 : decode cX0_mostMissed 7 = .ok (.if_icmp .ge 56, 3) := by decide +kernel
theorem dX0_mostMissed_10 : decode cX0_mostMissed 10 = .ok (.aload_n 0, 1) := by decide +kernel
theorem dX0_mostMissed_11 : decode cX0_mostMissed 11 = .ok (.getfield 15, 3) := by decide +kernel
theorem dX0_mostMissed_14 : decode cX0_mostMissed 14 = .ok (.iload_n 2, 1) := by decide +kernel
theorem dX0_mostMissed_15 : decode cX0_mostMissed 15 = .ok (.invokestatic 34, 3) := by decide +kernel
theorem dX0_mostMissed_18 : decode cX0_mostMissed 18 = .ok (.ifCond .ne 7, 3) := by decide +kernel
theorem dX0_mostMissed_21 : decode cX0_mostMissed 21 = .ok (.iconst 1, 1) := by decide +kernel
theorem dX0_mostMissed_22 : decode cX0_mostMissed 22 = .ok (.goto 4, 3) := by decide +kernel
theorem dX0_mostMissed_25 : decode cX0_mostMissed 25 = .ok (.iconst 0, 1) := by decide +kernel
theorem dX0_mostMissed_26 : decode cX0_mostMissed 26 = .ok (.istore_n 3, 1) := by decide +kernel
theorem dX0_mostMissed_27 : decode cX0_mostMissed 27 = .ok (.iload_n 3, 1) := by decide +kernel
theorem dX0_mostMissed_28 : decode cX0_mostMissed 28 = .ok (.ifCond .eq 29, 3) := by decide +kernel
theorem dX0_mostMissed_31 : decode cX0_mostMissed 31 = .ok (.iload_n 1, 1) := by decide +kernel
theorem dX0_mostMissed_32 : decode cX0_mostMissed 32 = .ok (.iconst (-1), 1) := by decide +kernel
theorem dX0_mostMissed_33 : decode cX0_mostMissed 33 = .ok (.if_icmp .eq 22, 3) := by decide +kernel
theorem dX0_mostMissed_36 : decode cX0_mostMissed 36 = .ok (.aload_n 0, 1) := by decide +kernel
theorem dX0_mostMissed_37 : decode cX0_mostMissed 37 = .ok (.getfield 18, 3) := by decide +kernel
theorem dX0_mostMissed_40 : decode cX0_mostMissed 40 = .ok (.iload_n 2, 1) := by decide +kernel
theorem dX0_mostMissed_41 : decode cX0_mostMissed 41 = .ok (.invokestatic 34, 3) := by decide +kernel
theorem dX0_mostMissed_44 : decode cX0_mostMissed 44 = .ok (.aload_n 0, 1) := by decide +kernel
theorem dX0_mostMissed_45 : decode cX0_mostMissed 45 = .ok (.getfield 18, 3) := by decide +kernel
theorem dX0_mostMissed_48 : decode cX0_mostMissed 48 = .ok (.iload_n 1, 1) := by decide +kernel
theorem dX0_mostMissed_49 : decode cX0_mostMissed 49 = .ok (.invokestatic 34, 3) := by decide +kernel
theorem dX0_mostMissed_52 : decode cX0_mostMissed 52 = .ok (.if_icmp .le 5, 3) := by decide +kernel
theorem dX0_mostMissed_55 : decode cX0_mostMissed 55 = .ok (.iload_n 2, 1) := by decide +kernel
theorem dX0_mostMissed_56 : decode cX0_mostMissed 56 = .ok (.istore_n 1, 1) := by decide +kernel
theorem dX0_mostMissed_57 : decode cX0_mostMissed 57 = .ok (.iinc 2 1, 3) := by decide +kernel
theorem dX0_mostMissed_60 : decode cX0_mostMissed 60 = .ok (.goto (-56), 3) := by decide +kernel
theorem dX0_mostMissed_63 : decode cX0_mostMissed 63 = .ok (.iload_n 1, 1) := by decide +kernel
theorem dX0_mostMissed_64 : decode cX0_mostMissed 64 = .ok (.ireturn, 1) := by decide +kernel
theorem dX1_init_0 : decode cX1_init 0 = .ok (.aload_n 0, 1) := by decide +kernel
theorem dX1_init_1 : decode cX1_init 1 = .ok (.invokespecial 3, 3) := by decide +kernel
theorem dX1_init_4 : decode cX1_init 4 = .ok (.aload_n 0, 1) := by decide +kernel
theorem dX1_init_5 : decode cX1_init 5 = .ok (.bipush 6, 2) := by decide +kernel
theorem dX1_init_7 : decode cX1_init 7 = .ok (.anewarray 9, 3) := by decide +kernel
theorem dX1_init_10 : decode cX1_init 10 = .ok (.putfield 11, 3) := by decide +kernel
theorem dX1_init_13 : decode cX1_init 13 = .ok (.iconst 0, 1) := by decide +kernel
theorem dX1_init_14 : decode cX1_init 14 = .ok (.istore_n 1, 1) := by decide +kernel
theorem dX1_init_15 : decode cX1_init 15 = .ok (.iload_n 1, 1) := by decide +kernel
theorem dX1_init_16 : decode cX1_init 16 = .ok (.aload_n 0, 1) := by decide +kernel
theorem dX1_init_17 : decode cX1_init 17 = .ok (.getfield 11, 3) := by decide +kernel
theorem dX1_init_20 : decode cX1_init 20 = .ok (.arraylength, 1) := by decide +kernel
theorem dX1_init_21 : decode cX1_init 21 = .ok (.if_icmp .ge 22, 3) := by decide +kernel
theorem dX1_init_24 : decode cX1_init 24 = .ok (.aload_n 0, 1) := by decide +kernel
theorem dX1_init_25 : decode cX1_init 25 = .ok (.getfield 11, 3) := by decide +kernel
theorem dX1_init_28 : decode cX1_init 28 = .ok (.iload_n 1, 1) := by decide +kernel
theorem dX1_init_29 : decode cX1_init 29 = .ok (.new 9, 3) := by decide +kernel
theorem dX1_init_32 : decode cX1_init 32 = .ok (.dup, 1) := by decide +kernel
theorem dX1_init_33 : decode cX1_init 33 = .ok (.invokespecial 17, 3) := by decide +kernel
theorem dX1_init_36 : decode cX1_init 36 = .ok (.aastore, 1) := by decide +kernel
theorem dX1_init_37 : decode cX1_init 37 = .ok (.iinc 1 1, 3) := by decide +kernel
theorem dX1_init_40 : decode cX1_init 40 = .ok (.goto (-25), 3) := by decide +kernel
theorem dX1_init_43 : decode cX1_init 43 = .ok (.aload_n 0, 1) := by decide +kernel
theorem dX1_init_44 : decode cX1_init 44 = .ok (.iconst 0, 1) := by decide +kernel
theorem dX1_init_45 : decode cX1_init 45 = .ok (.putfield 18, 3) := by decide +kernel
theorem dX1_init_48 : decode cX1_init 48 = .ok (.aload_n 0, 1) := by decide +kernel
theorem dX1_init_49 : decode cX1_init 49 = .ok (.iconst 0, 1) := by decide +kernel
theorem dX1_init_50 : decode cX1_init 50 = .ok (.putfield 22, 3) := by decide +kernel
theorem dX1_init_53 : decode cX1_init 53 = .ok (.return_, 1) := by decide +kernel
theorem dX1_save_0 : decode cX1_save 0 = .ok (.aload_n 0, 1) := by decide +kernel
theorem dX1_save_1 : decode cX1_save 1 = .ok (.getfield 22, 3) := by decide +kernel
theorem dX1_save_4 : decode cX1_save 4 = .ok (.bipush 6, 2) := by decide +kernel
theorem dX1_save_6 : decode cX1_save 6 = .ok (.if_icmp .lt 26, 3) := by decide +kernel
theorem dX1_save_9 : decode cX1_save 9 = .ok (.aload_n 0, 1) := by decide +kernel
theorem dX1_save_10 : decode cX1_save 10 = .ok (.aload_n 0, 1) := by decide +kernel
theorem dX1_save_11 : decode cX1_save 11 = .ok (.getfield 18, 3) := by decide +kernel
theorem dX1_save_14 : decode cX1_save 14 = .ok (.iconst 1, 1) := by decide +kernel
theorem dX1_save_15 : decode cX1_save 15 = .ok (.iadd, 1) := by decide +kernel
theorem dX1_save_16 : decode cX1_save 16 = .ok (.bipush 6, 2) := by decide +kernel
theorem dX1_save_18 : decode cX1_save 18 = .ok (.irem, 1) := by decide +kernel
theorem dX1_save_19 : decode cX1_save 19 = .ok (.putfield 18, 3) := by decide +kernel
theorem dX1_save_22 : decode cX1_save 22 = .ok (.aload_n 0, 1) := by decide +kernel
theorem dX1_save_23 : decode cX1_save 23 = .ok (.dup, 1) := by decide +kernel
theorem dX1_save_24 : decode cX1_save 24 = .ok (.getfield 22, 3) := by decide +kernel
theorem dX1_save_27 : decode cX1_save 27 = .ok (.iconst 1, 1) := by decide +kernel
theorem dX1_save_28 : decode cX1_save 28 = .ok (.isub, 1) := by decide +kernel
theorem dX1_save_29 : decode cX1_save 29 = .ok (.putfield 22, 3) := by decide +kernel
theorem dX1_save_32 : decode cX1_save 32 = .ok (.aload_n 0, 1) := by decide +kernel
theorem dX1_save_33 : decode cX1_save 33 = .ok (.aload_n 0, 1) := by decide +kernel
theorem dX1_save_34 : decode cX1_save 34 = .ok (.getfield 18, 3) := by decide +kernel
theorem dX1_save_37 : decode cX1_save 37 = .ok (.aload_n 0, 1) := by decide +kernel
theorem dX1_save_38 : decode cX1_save 38 = .ok (.getfield 22, 3) := by decide +kernel
theorem dX1_save_41 : decode cX1_save 41 = .ok (.iadd, 1) := by decide +kernel
theorem dX1_save_42 : decode cX1_save 42 = .ok (.bipush 6, 2) := by decide +kernel
theorem dX1_save_44 : decode cX1_save 44 = .ok (.irem, 1) := by decide +kernel
theorem dX1_save_45 : decode cX1_save 45 = .ok (.invokevirtual 25, 3) := by decide +kernel
theorem dX1_save_48 : decode cX1_save 48 = .ok (.astore_n 2, 1) := by decide +kernel
theorem dX1_save_49 : decode cX1_save 49 = .ok (.aload_n 2, 1) := by decide +kernel
theorem dX1_save_50 : decode cX1_save 50 = .ok (.ifnull 18, 3) := by decide +kernel
theorem dX1_save_53 : decode cX1_save 53 = .ok (.aload_n 2, 1) := by decide +kernel
theorem dX1_save_54 : decode cX1_save 54 = .ok (.aload_n 1, 1) := by decide +kernel
theorem dX1_save_55 : decode cX1_save 55 = .ok (.invokevirtual 29, 3) := by decide +kernel
theorem dX1_save_58 : decode cX1_save 58 = .ok (.aload_n 0, 1) := by decide +kernel
theorem dX1_save_59 : decode cX1_save 59 = .ok (.dup, 1) := by decide +kernel
theorem dX1_save_60 : decode cX1_save 60 = .ok (.getfield 22, 3) := by decide +kernel
theorem dX1_save_63 : decode cX1_save 63 = .ok (.iconst 1, 1) := by decide +kernel
theorem dX1_save_64 : decode cX1_save 64 = .ok (.iadd, 1) := by decide +kernel
theorem dX1_save_65 : decode cX1_save 65 = .ok (.putfield 22, 3) := by decide +kernel
theorem dX1_save_68 : decode cX1_save 68 = .ok (.return_, 1) := by decide +kernel
theorem dX1_restore_0 : decode cX1_restore 0 = .ok (.aload_n 0, 1) := by decide +kernel
theorem dX1_restore_1 : decode cX1_restore 1 = .ok (.getfield 22, 3) := by decide +kernel
theorem dX1_restore_4 : decode cX1_restore 4 = .ok (.ifCond .gt 4, 3) := by decide +kernel
theorem dX1_restore_7 : decode cX1_restore 7 = .ok (.return_, 1) := by decide +kernel
theorem dX1_restore_8 : decode cX1_restore 8 = .ok (.aload_n 0, 1) := by decide +kernel
theorem dX1_restore_9 : decode cX1_restore 9 = .ok (.dup, 1) := by decide +kernel
theorem dX1_restore_10 : decode cX1_restore 10 = .ok (.getfield 22, 3) := by decide +kernel
theorem dX1_restore_13 : decode cX1_restore 13 = .ok (.iconst 1, 1) := by decide +kernel
theorem dX1_restore_14 : decode cX1_restore 14 = .ok (.isub, 1) := by decide +kernel
theorem dX1_restore_15 : decode cX1_restore 15 = .ok (.putfield 22, 3) := by decide +kernel
theorem dX1_restore_18 : decode cX1_restore 18 = .ok (.aload_n 0, 1) := by decide +kernel
theorem dX1_restore_19 : decode cX1_restore 19 = .ok (.aload_n 0, 1) := by decide +kernel
theorem dX1_restore_20 : decode cX1_restore 20 = .ok (.getfield 18, 3) := by decide +kernel
theorem dX1_restore_23 : decode cX1_restore 23 = .ok (.aload_n 0, 1) := by decide +kernel
theorem dX1_restore_24 : decode cX1_restore 24 = .ok (.getfield 22, 3) := by decide +kernel
theorem dX1_restore_27 : decode cX1_restore 27 = .ok (.iadd, 1) := by decide +kernel
theorem dX1_restore_28 : decode cX1_restore 28 = .ok (.bipush 6, 2) := by decide +kernel
theorem dX1_restore_30 : decode cX1_restore 30 = .ok (.irem, 1) := by decide +kernel
theorem dX1_restore_31 : decode cX1_restore 31 = .ok (.invokevirtual 25, 3) := by decide +kernel
theorem dX1_restore_34 : decode cX1_restore 34 = .ok (.astore_n 2, 1) := by decide +kernel
theorem dX1_restore_35 : decode cX1_restore 35 = .ok (.aload_n 2, 1) := by decide +kernel
theorem dX1_restore_36 : decode cX1_restore 36 = .ok (.ifnull 8, 3) := by decide +kernel
theorem dX1_restore_39 : decode cX1_restore 39 = .ok (.aload_n 1, 1) := by decide +kernel
theorem dX1_restore_40 : decode cX1_restore 40 = .ok (.aload_n 2, 1) := by decide +kernel
theorem dX1_restore_41 : decode cX1_restore 41 = .ok (.invokevirtual 29, 3) := by decide +kernel
theorem dX1_restore_44 : decode cX1_restore 44 = .ok (.return_, 1) := by decide +kernel
theorem dX1_stateAt_0 : decode cX1_stateAt 0 = .ok (.iload_n 1, 1) := by decide +kernel
theorem dX1_stateAt_1 : decode cX1_stateAt 1 = .ok (.ifCond .lt 21, 3) := by decide +kernel
theorem dX1_stateAt_4 : decode cX1_stateAt 4 = .ok (.iload_n 1, 1) := by decide +kernel
theorem dX1_stateAt_5 : decode cX1_stateAt 5 = .ok (.aload_n 0, 1) := by decide +kernel
theorem dX1_stateAt_6 : decode cX1_stateAt 6 = .ok (.getfield 11, 3) := by decide +kernel
theorem dX1_stateAt_9 : decode cX1_stateAt 9 = .ok (.arraylength, 1) := by decide +kernel
theorem dX1_stateAt_10 : decode cX1_stateAt 10 = .ok (.if_icmp .ge 12, 3) := by decide +kernel
theorem dX1_stateAt_13 : decode cX1_stateAt 13 = .ok (.aload_n 0, 1) := by decide +kernel
theorem dX1_stateAt_14 : decode cX1_stateAt 14 = .ok (.getfield 11, 3) := by decide +kernel
theorem dX1_stateAt_17 : decode cX1_stateAt 17 = .ok (.iload_n 1, 1) := by decide +kernel
theorem dX1_stateAt_18 : decode cX1_stateAt 18 = .ok (.aaload, 1) := by decide +kernel
theorem dX1_stateAt_19 : decode cX1_stateAt 19 = .ok (.goto 4, 3) := by decide +kernel
theorem dX1_stateAt_22 : decode cX1_stateAt 22 = .ok (.aconst_null, 1) := by decide +kernel
theorem dX1_stateAt_23 : decode cX1_stateAt 23 = .ok (.areturn, 1) := by decide +kernel
theorem dX2_init_0 : decode cX2_init 0 = .ok (.aload_n 0, 1) := by decide +kernel
theorem dX2_init_1 : decode cX2_init 1 = .ok (.invokespecial 3, 3) := by decide +kernel
theorem dX2_init_4 : decode cX2_init 4 = .ok (.aload_n 0, 1) := by decide +kernel
theorem dX2_init_5 : decode cX2_init 5 = .ok (.bipush 7, 2) := by decide +kernel
theorem dX2_init_7 : decode cX2_init 7 = .ok (.newarray .int, 2) := by decide +kernel
theorem dX2_init_9 : decode cX2_init 9 = .ok (.putfield 9, 3) := by decide +kernel
theorem dX2_init_12 : decode cX2_init 12 = .ok (.aload_n 0, 1) := by decide +kernel
theorem dX2_init_13 : decode cX2_init 13 = .ok (.bipush 7, 2) := by decide +kernel
theorem dX2_init_15 : decode cX2_init 15 = .ok (.newarray .int, 2) := by decide +kernel
theorem dX2_init_17 : decode cX2_init 17 = .ok (.putfield 15, 3) := by decide +kernel
theorem dX2_init_20 : decode cX2_init 20 = .ok (.aload_n 0, 1) := by decide +kernel
theorem dX2_init_21 : decode cX2_init 21 = .ok (.bipush 7, 2) := by decide +kernel
theorem dX2_init_23 : decode cX2_init 23 = .ok (.newarray .int, 2) := by decide +kernel
theorem dX2_init_25 : decode cX2_init 25 = .ok (.putfield 18, 3) := by decide +kernel
theorem dX2_init_28 : decode cX2_init 28 = .ok (.aload_n 0, 1) := by decide +kernel
theorem dX2_init_29 : decode cX2_init 29 = .ok (.bipush 7, 2) := by decide +kernel
theorem dX2_init_31 : decode cX2_init 31 = .ok (.newarray .int, 2) := by decide +kernel
theorem dX2_init_33 : decode cX2_init 33 = .ok (.putfield 21, 3) := by decide +kernel
theorem dX2_init_36 : decode cX2_init 36 = .ok (.aload_n 0, 1) := by decide +kernel
theorem dX2_init_37 : decode cX2_init 37 = .ok (.iconst 0, 1) := by decide +kernel
theorem dX2_init_38 : decode cX2_init 38 = .ok (.putfield 24, 3) := by decide +kernel
theorem dX2_init_41 : decode cX2_init 41 = .ok (.aload_n 0, 1) := by decide +kernel
theorem dX2_init_42 : decode cX2_init 42 = .ok (.iconst 0, 1) := by decide +kernel
theorem dX2_init_43 : decode cX2_init 43 = .ok (.putfield 28, 3) := by decide +kernel
theorem dX2_init_46 : decode cX2_init 46 = .ok (.return_, 1) := by decide +kernel
theorem dX2_copyFrom_0 : decode cX2_copyFrom 0 = .ok (.aload_n 1, 1) := by decide +kernel
theorem dX2_copyFrom_1 : decode cX2_copyFrom 1 = .ok (.getfield 9, 3) := by decide +kernel
theorem dX2_copyFrom_4 : decode cX2_copyFrom 4 = .ok (.aload_n 0, 1) := by decide +kernel
theorem dX2_copyFrom_5 : decode cX2_copyFrom 5 = .ok (.getfield 9, 3) := by decide +kernel
theorem dX2_copyFrom_8 : decode cX2_copyFrom 8 = .ok (.invokestatic 31, 3) := by decide +kernel
theorem dX2_copyFrom_11 : decode cX2_copyFrom 11 = .ok (.aload_n 1, 1) := by decide +kernel
theorem dX2_copyFrom_12 : decode cX2_copyFrom 12 = .ok (.getfield 15, 3) := by decide +kernel
theorem dX2_copyFrom_15 : decode cX2_copyFrom 15 = .ok (.aload_n 0, 1) := by decide +kernel
theorem dX2_copyFrom_16 : decode cX2_copyFrom 16 = .ok (.getfield 15, 3) := by decide +kernel
theorem dX2_copyFrom_19 : decode cX2_copyFrom 19 = .ok (.invokestatic 31, 3) := by decide +kernel
theorem dX2_copyFrom_22 : decode cX2_copyFrom 22 = .ok (.aload_n 1, 1) := by decide +kernel
theorem dX2_copyFrom_23 : decode cX2_copyFrom 23 = .ok (.getfield 18, 3) := by decide +kernel
theorem dX2_copyFrom_26 : decode cX2_copyFrom 26 = .ok (.aload_n 0, 1) := by decide +kernel
theorem dX2_copyFrom_27 : decode cX2_copyFrom 27 = .ok (.getfield 18, 3) := by decide +kernel
theorem dX2_copyFrom_30 : decode cX2_copyFrom 30 = .ok (.invokestatic 31, 3) := by decide +kernel
theorem dX2_copyFrom_33 : decode cX2_copyFrom 33 = .ok (.aload_n 1, 1) := by decide +kernel
theorem dX2_copyFrom_34 : decode cX2_copyFrom 34 = .ok (.getfield 21, 3) := by decide +kernel
theorem dX2_copyFrom_37 : decode cX2_copyFrom 37 = .ok (.aload_n 0, 1) := by decide +kernel
theorem dX2_copyFrom_38 : decode cX2_copyFrom 38 = .ok (.getfield 21, 3) := by decide +kernel
theorem dX2_copyFrom_41 : decode cX2_copyFrom 41 = .ok (.invokestatic 31, 3) := by decide +kernel
theorem dX2_copyFrom_44 : decode cX2_copyFrom 44 = .ok (.aload_n 0, 1) := by decide +kernel
theorem dX2_copyFrom_45 : decode cX2_copyFrom 45 = .ok (.aload_n 1, 1) := by decide +kernel
theorem dX2_copyFrom_46 : decode cX2_copyFrom 46 = .ok (.getfield 24, 3) := by decide +kernel
theorem dX2_copyFrom_49 : decode cX2_copyFrom 49 = .ok (.putfield 24, 3) := by decide +kernel
theorem dX2_copyFrom_52 : decode cX2_copyFrom 52 = .ok (.aload_n 0, 1) := by decide +kernel
theorem dX2_copyFrom_53 : decode cX2_copyFrom 53 = .ok (.aload_n 1, 1) := by decide +kernel
theorem dX2_copyFrom_54 : decode cX2_copyFrom 54 = .ok (.getfield 28, 3) := by decide +kernel
theorem dX2_copyFrom_57 : decode cX2_copyFrom 57 = .ok (.putfield 28, 3) := by decide +kernel
theorem dX2_copyFrom_60 : decode cX2_copyFrom 60 = .ok (.return_, 1) := by decide +kernel
theorem dX2_enter_0 : decode cX2_enter 0 = .ok (.aload_n 0, 1) := by decide +kernel
theorem dX2_enter_1 : decode cX2_enter 1 = .ok (.getfield 24, 3) := by decide +kernel
theorem dX2_enter_4 : decode cX2_enter 4 = .ok (.aload_n 0, 1) := by decide +kernel
theorem dX2_enter_5 : decode cX2_enter 5 = .ok (.getfield 9, 3) := by decide +kernel
theorem dX2_enter_8 : decode cX2_enter 8 = .ok (.arraylength, 1) := by decide +kernel
theorem dX2_enter_9 : decode cX2_enter 9 = .ok (.if_icmp .lt 5, 3) := by decide +kernel
theorem dX2_enter_12 : decode cX2_enter 12 = .ok (.iconst (-1), 1) := by decide +kernel
theorem dX2_enter_13 : decode cX2_enter 13 = .ok (.ireturn, 1) := by decide +kernel
theorem dX2_enter_14 : decode cX2_enter 14 = .ok (.aload_n 0, 1) := by decide +kernel
theorem dX2_enter_15 : decode cX2_enter 15 = .ok (.getfield 28, 3) := by decide +kernel
theorem dX2_enter_18 : decode cX2_enter 18 = .ok (.istore 4, 2) := by decide +kernel
theorem dX2_enter_20 : decode cX2_enter 20 = .ok (.aload_n 0, 1) := by decide +kernel
theorem dX2_enter_21 : decode cX2_enter 21 = .ok (.getfield 9, 3) := by decide +kernel
theorem dX2_enter_24 : decode cX2_enter 24 = .ok (.aload_n 0, 1) := by decide +kernel
theorem dX2_enter_25 : decode cX2_enter 25 = .ok (.getfield 24, 3) := by decide +kernel
theorem dX2_enter_28 : decode cX2_enter 28 = .ok (.iload 4, 2) := by decide +kernel
theorem dX2_enter_30 : decode cX2_enter 30 = .ok (.invokestatic 35, 3) := by decide +kernel
theorem dX2_enter_33 : decode cX2_enter 33 = .ok (.aload_n 0, 1) := by decide +kernel
theorem dX2_enter_34 : decode cX2_enter 34 = .ok (.getfield 15, 3) := by decide +kernel
theorem dX2_enter_37 : decode cX2_enter 37 = .ok (.aload_n 0, 1) := by decide +kernel
theorem dX2_enter_38 : decode cX2_enter 38 = .ok (.getfield 24, 3) := by decide +kernel
theorem dX2_enter_41 : decode cX2_enter 41 = .ok (.iload_n 1, 1) := by decide +kernel
theorem dX2_enter_42 : decode cX2_enter 42 = .ok (.invokestatic 35, 3) := by decide +kernel
theorem dX2_enter_45 : decode cX2_enter 45 = .ok (.aload_n 0, 1) := by decide +kernel
theorem dX2_enter_46 : decode cX2_enter 46 = .ok (.aload_n 0, 1) := by decide +kernel
theorem dX2_enter_47 : decode cX2_enter 47 = .ok (.getfield 24, 3) := by decide +kernel
theorem dX2_enter_50 : decode cX2_enter 50 = .ok (.iload_n 2, 1) := by decide +kernel
theorem dX2_enter_51 : decode cX2_enter 51 = .ok (.iload_n 3, 1) := by decide +kernel
theorem dX2_enter_52 : decode cX2_enter 52 = .ok (.invokevirtual 39, 3) := by decide +kernel
theorem dX2_enter_55 : decode cX2_enter 55 = .ok (.aload_n 0, 1) := by decide +kernel
theorem dX2_enter_56 : decode cX2_enter 56 = .ok (.dup, 1) := by decide +kernel
theorem dX2_enter_57 : decode cX2_enter 57 = .ok (.getfield 24, 3) := by decide +kernel
theorem dX2_enter_60 : decode cX2_enter 60 = .ok (.iconst 1, 1) := by decide +kernel
theorem dX2_enter_61 : decode cX2_enter 61 = .ok (.iadd, 1) := by decide +kernel
theorem dX2_enter_62 : decode cX2_enter 62 = .ok (.putfield 24, 3) := by decide +kernel
theorem dX2_enter_65 : decode cX2_enter 65 = .ok (.aload_n 0, 1) := by decide +kernel
theorem dX2_enter_66 : decode cX2_enter 66 = .ok (.dup, 1) := by decide +kernel
theorem dX2_enter_67 : decode cX2_enter 67 = .ok (.getfield 28, 3) := by decide +kernel
theorem dX2_enter_70 : decode cX2_enter 70 = .ok (.iconst 1, 1) := by decide +kernel
theorem dX2_enter_71 : decode cX2_enter 71 = .ok (.iadd, 1) := by decide +kernel
theorem dX2_enter_72 : decode cX2_enter 72 = .ok (.putfield 28, 3) := by decide +kernel
theorem dX2_enter_75 : decode cX2_enter 75 = .ok (.iload 4, 2) := by decide +kernel
theorem dX2_enter_77 : decode cX2_enter 77 = .ok (.ireturn, 1) := by decide +kernel
theorem dX2_sendTo_0 : decode cX2_sendTo 0 = .ok (.aload_n 0, 1) := by decide +kernel
theorem dX2_sendTo_1 : decode cX2_sendTo 1 = .ok (.getfield 18, 3) := by decide +kernel
theorem dX2_sendTo_4 : decode cX2_sendTo 4 = .ok (.iload_n 1, 1) := by decide +kernel
theorem dX2_sendTo_5 : decode cX2_sendTo 5 = .ok (.iload_n 2, 1) := by decide +kernel
theorem dX2_sendTo_6 : decode cX2_sendTo 6 = .ok (.invokestatic 35, 3) := by decide +kernel
theorem dX2_sendTo_9 : decode cX2_sendTo 9 = .ok (.aload_n 0, 1) := by decide +kernel
theorem dX2_sendTo_10 : decode cX2_sendTo 10 = .ok (.getfield 21, 3) := by decide +kernel
theorem dX2_sendTo_13 : decode cX2_sendTo 13 = .ok (.iload_n 1, 1) := by decide +kernel
theorem dX2_sendTo_14 : decode cX2_sendTo 14 = .ok (.aload_n 0, 1) := by decide +kernel
theorem dX2_sendTo_15 : decode cX2_sendTo 15 = .ok (.iload_n 1, 1) := by decide +kernel
theorem dX2_sendTo_16 : decode cX2_sendTo 16 = .ok (.invokevirtual 43, 3) := by decide +kernel
theorem dX2_sendTo_19 : decode cX2_sendTo 19 = .ok (.ifCond .eq 7, 3) := by decide +kernel
theorem dX2_sendTo_22 : decode cX2_sendTo 22 = .ok (.iconst 0, 1) := by decide +kernel
theorem dX2_sendTo_23 : decode cX2_sendTo 23 = .ok (.goto 4, 3) := by decide +kernel
theorem dX2_sendTo_26 : decode cX2_sendTo 26 = .ok (.iload_n 3, 1) := by decide +kernel
theorem dX2_sendTo_27 : decode cX2_sendTo 27 = .ok (.invokestatic 35, 3) := by decide +kernel
theorem dX2_sendTo_30 : decode cX2_sendTo 30 = .ok (.return_, 1) := by decide +kernel
theorem dX2_isThere_0 : decode cX2_isThere 0 = .ok (.aload_n 0, 1) := by decide +kernel
theorem dX2_isThere_1 : decode cX2_isThere 1 = .ok (.getfield 15, 3) := by decide +kernel
theorem dX2_isThere_4 : decode cX2_isThere 4 = .ok (.iload_n 1, 1) := by decide +kernel
theorem dX2_isThere_5 : decode cX2_isThere 5 = .ok (.invokestatic 47, 3) := by decide +kernel
theorem dX2_isThere_8 : decode cX2_isThere 8 = .ok (.aload_n 0, 1) := by decide +kernel
theorem dX2_isThere_9 : decode cX2_isThere 9 = .ok (.getfield 18, 3) := by decide +kernel
theorem dX2_isThere_12 : decode cX2_isThere 12 = .ok (.iload_n 1, 1) := by decide +kernel
theorem dX2_isThere_13 : decode cX2_isThere 13 = .ok (.invokestatic 47, 3) := by decide +kernel
theorem dX2_isThere_16 : decode cX2_isThere 16 = .ok (.if_icmp .ne 7, 3) := by decide +kernel
theorem dX2_isThere_19 : decode cX2_isThere 19 = .ok (.iconst 1, 1) := by decide +kernel
theorem dX2_isThere_20 : decode cX2_isThere 20 = .ok (.goto 4, 3) := by decide +kernel
theorem dX2_isThere_23 : decode cX2_isThere 23 = .ok (.iconst 0, 1) := by decide +kernel
theorem dX2_isThere_24 : decode cX2_isThere 24 = .ok (.ireturn, 1) := by decide +kernel
theorem dX2_placeOf_0 : decode cX2_placeOf 0 = .ok (.iconst 0, 1) := by decide +kernel
theorem dX2_placeOf_1 : decode cX2_placeOf 1 = .ok (.istore_n 2, 1) := by decide +kernel
theorem dX2_placeOf_2 : decode cX2_placeOf 2 = .ok (.iload_n 2, 1) := by decide +kernel
theorem dX2_placeOf_3 : decode cX2_placeOf 3 = .ok (.aload_n 0, 1) := by decide +kernel
theorem dX2_placeOf_4 : decode cX2_placeOf 4 = .ok (.getfield 24, 3) := by decide +kernel
theorem dX2_placeOf_7 : decode cX2_placeOf 7 = .ok (.if_icmp .ge 23, 3) := by decide +kernel
theorem dX2_placeOf_10 : decode cX2_placeOf 10 = .ok (.aload_n 0, 1) := by decide +kernel
theorem dX2_placeOf_11 : decode cX2_placeOf 11 = .ok (.getfield 9, 3) := by decide +kernel
theorem dX2_placeOf_14 : decode cX2_placeOf 14 = .ok (.iload_n 2, 1) := by decide +kernel
theorem dX2_placeOf_15 : decode cX2_placeOf 15 = .ok (.invokestatic 47, 3) := by decide +kernel
theorem dX2_placeOf_18 : decode cX2_placeOf 18 = .ok (.iload_n 1, 1) := by decide +kernel
theorem dX2_placeOf_19 : decode cX2_placeOf 19 = .ok (.if_icmp .ne 5, 3) := by decide +kernel
theorem dX2_placeOf_22 : decode cX2_placeOf 22 = .ok (.iload_n 2, 1) := by decide +kernel
theorem dX2_placeOf_23 : decode cX2_placeOf 23 = .ok (.ireturn, 1) := by decide +kernel
theorem dX2_placeOf_24 : decode cX2_placeOf 24 = .ok (.iinc 2 1, 3) := by decide +kernel
theorem dX2_placeOf_27 : decode cX2_placeOf 27 = .ok (.goto (-25), 3) := by decide +kernel
theorem dX2_placeOf_30 : decode cX2_placeOf 30 = .ok (.iconst (-1), 1) := by decide +kernel
theorem dX2_placeOf_31 : decode cX2_placeOf 31 = .ok (.ireturn, 1) := by decide +kernel
theorem dX2_peopleOn_0 : decode cX2_peopleOn 0 = .ok (.iconst 0, 1) := by decide +kernel
theorem dX2_peopleOn_1 : decode cX2_peopleOn 1 = .ok (.istore_n 2, 1) := by decide +kernel
theorem dX2_peopleOn_2 : decode cX2_peopleOn 2 = .ok (.iconst 0, 1) := by decide +kernel
theorem dX2_peopleOn_3 : decode cX2_peopleOn 3 = .ok (.istore_n 3, 1) := by decide +kernel
theorem dX2_peopleOn_4 : decode cX2_peopleOn 4 = .ok (.iload_n 3, 1) := by decide +kernel
theorem dX2_peopleOn_5 : decode cX2_peopleOn 5 = .ok (.aload_n 0, 1) := by decide +kernel
theorem dX2_peopleOn_6 : decode cX2_peopleOn 6 = .ok (.getfield 24, 3) := by decide +kernel
theorem dX2_peopleOn_9 : decode cX2_peopleOn 9 = .ok (.if_icmp .ge 24, 3) := by decide +kernel
theorem dX2_peopleOn_12 : decode cX2_peopleOn 12 = .ok (.aload_n 0, 1) := by decide +kernel
theorem dX2_peopleOn_13 : decode cX2_peopleOn 13 = .ok (.getfield 15, 3) := by decide +kernel
theorem dX2_peopleOn_16 : decode cX2_peopleOn 16 = .ok (.iload_n 3, 1) := by decide +kernel
theorem dX2_peopleOn_17 : decode cX2_peopleOn 17 = .ok (.invokestatic 47, 3) := by decide +kernel
theorem dX2_peopleOn_20 : decode cX2_peopleOn 20 = .ok (.iload_n 1, 1) := by decide +kernel
theorem dX2_peopleOn_21 : decode cX2_peopleOn 21 = .ok (.if_icmp .ne 6, 3) := by decide +kernel
theorem dX2_peopleOn_24 : decode cX2_peopleOn 24 = .ok (.iinc 2 1, 3) := by decide +kernel
theorem dX2_peopleOn_27 : decode cX2_peopleOn 27 = .ok (.iinc 3 1, 3) := by decide +kernel
theorem dX2_peopleOn_30 : decode cX2_peopleOn 30 = .ok (.goto (-26), 3) := by decide +kernel
theorem dX2_peopleOn_33 : decode cX2_peopleOn 33 = .ok (.iload_n 2, 1) := by decide +kernel
theorem dX2_peopleOn_34 : decode cX2_peopleOn 34 = .ok (.ireturn, 1) := by decide +kernel
theorem dX2_goOn_0 : decode cX2_goOn 0 = .ok (.iconst 0, 1) := by decide +kernel
theorem dX2_goOn_1 : decode cX2_goOn 1 = .ok (.istore_n 2, 1) := by decide +kernel
theorem dX2_goOn_2 : decode cX2_goOn 2 = .ok (.iconst 0, 1) := by decide +kernel
theorem dX2_goOn_3 : decode cX2_goOn 3 = .ok (.istore_n 3, 1) := by decide +kernel
theorem dX2_goOn_4 : decode cX2_goOn 4 = .ok (.iload_n 3, 1) := by decide +kernel
theorem dX2_goOn_5 : decode cX2_goOn 5 = .ok (.aload_n 0, 1) := by decide +kernel
theorem dX2_goOn_6 : decode cX2_goOn 6 = .ok (.getfield 24, 3) := by decide +kernel
theorem dX2_goOn_9 : decode cX2_goOn 9 = .ok (.if_icmp .ge 32, 3) := by decide +kernel
theorem dX2_goOn_12 : decode cX2_goOn 12 = .ok (.aload_n 0, 1) := by decide +kernel
theorem dX2_goOn_13 : decode cX2_goOn 13 = .ok (.iload_n 3, 1) := by decide +kernel
theorem dX2_goOn_14 : decode cX2_goOn 14 = .ok (.invokevirtual 43, 3) := by decide +kernel
theorem dX2_goOn_17 : decode cX2_goOn 17 = .ok (.ifCond .ne 18, 3) := by decide +kernel
theorem dX2_goOn_20 : decode cX2_goOn 20 = .ok (.aload_n 0, 1) := by decide +kernel
theorem dX2_goOn_21 : decode cX2_goOn 21 = .ok (.iload_n 3, 1) := by decide +kernel
theorem dX2_goOn_22 : decode cX2_goOn 22 = .ok (.iload_n 1, 1) := by decide +kernel
theorem dX2_goOn_23 : decode cX2_goOn 23 = .ok (.invokevirtual 51, 3) := by decide +kernel
theorem dX2_goOn_26 : decode cX2_goOn 26 = .ok (.aload_n 0, 1) := by decide +kernel
theorem dX2_goOn_27 : decode cX2_goOn 27 = .ok (.iload_n 3, 1) := by decide +kernel
theorem dX2_goOn_28 : decode cX2_goOn 28 = .ok (.iload_n 2, 1) := by decide +kernel
theorem dX2_goOn_29 : decode cX2_goOn 29 = .ok (.invokevirtual 55, 3) := by decide +kernel
theorem dX2_goOn_32 : decode cX2_goOn 32 = .ok (.iinc 2 1, 3) := by decide +kernel
theorem dX2_goOn_35 : decode cX2_goOn 35 = .ok (.iinc 3 1, 3) := by decide +kernel
theorem dX2_goOn_38 : decode cX2_goOn 38 = .ok (.goto (-34), 3) := by decide +kernel
theorem dX2_goOn_41 : decode cX2_goOn 41 = .ok (.aload_n 0, 1) := by decide +kernel
theorem dX2_goOn_42 : decode cX2_goOn 42 = .ok (.iload_n 2, 1) := by decide +kernel
theorem dX2_goOn_43 : decode cX2_goOn 43 = .ok (.putfield 24, 3) := by decide +kernel
theorem dX2_goOn_46 : decode cX2_goOn 46 = .ok (.return_, 1) := by decide +kernel
theorem dX2_walk_0 : decode cX2_walk 0 = .ok (.aload_n 0, 1) := by decide +kernel
theorem dX2_walk_1 : decode cX2_walk 1 = .ok (.getfield 21, 3) := by decide +kernel
theorem dX2_walk_4 : decode cX2_walk 4 = .ok (.iload_n 1, 1) := by decide +kernel
theorem dX2_walk_5 : decode cX2_walk 5 = .ok (.iconst (-1), 1) := by decide +kernel
theorem dX2_walk_6 : decode cX2_walk 6 = .ok (.invokestatic 58, 3) := by decide +kernel
theorem dX2_walk_9 : decode cX2_walk 9 = .ok (.aload_n 0, 1) := by decide +kernel
theorem dX2_walk_10 : decode cX2_walk 10 = .ok (.getfield 21, 3) := by decide +kernel
theorem dX2_walk_13 : decode cX2_walk 13 = .ok (.iload_n 1, 1) := by decide +kernel
theorem dX2_walk_14 : decode cX2_walk 14 = .ok (.invokestatic 47, 3) := by decide +kernel
theorem dX2_walk_17 : decode cX2_walk 17 = .ok (.ifCond .le 4, 3) := by decide +kernel
theorem dX2_walk_20 : decode cX2_walk 20 = .ok (.return_, 1) := by decide +kernel
theorem dX2_walk_21 : decode cX2_walk 21 = .ok (.aload_n 0, 1) := by decide +kernel
theorem dX2_walk_22 : decode cX2_walk 22 = .ok (.getfield 15, 3) := by decide +kernel
theorem dX2_walk_25 : decode cX2_walk 25 = .ok (.iload_n 1, 1) := by decide +kernel
theorem dX2_walk_26 : decode cX2_walk 26 = .ok (.aload_n 0, 1) := by decide +kernel
theorem dX2_walk_27 : decode cX2_walk 27 = .ok (.getfield 18, 3) := by decide +kernel
theorem dX2_walk_30 : decode cX2_walk 30 = .ok (.iload_n 1, 1) := by decide +kernel
theorem dX2_walk_31 : decode cX2_walk 31 = .ok (.invokestatic 47, 3) := by decide +kernel
theorem dX2_walk_34 : decode cX2_walk 34 = .ok (.aload_n 0, 1) := by decide +kernel
theorem dX2_walk_35 : decode cX2_walk 35 = .ok (.getfield 15, 3) := by decide +kernel
theorem dX2_walk_38 : decode cX2_walk 38 = .ok (.iload_n 1, 1) := by decide +kernel
theorem dX2_walk_39 : decode cX2_walk 39 = .ok (.invokestatic 47, 3) := by decide +kernel
theorem dX2_walk_42 : decode cX2_walk 42 = .ok (.if_icmp .le 7, 3) := by decide +kernel
theorem dX2_walk_45 : decode cX2_walk 45 = .ok (.iconst 1, 1) := by decide +kernel
theorem dX2_walk_46 : decode cX2_walk 46 = .ok (.goto 4, 3) := by decide +kernel
theorem dX2_walk_49 : decode cX2_walk 49 = .ok (.iconst (-1), 1) := by decide +kernel
theorem dX2_walk_50 : decode cX2_walk 50 = .ok (.invokestatic 58, 3) := by decide +kernel
theorem dX2_walk_53 : decode cX2_walk 53 = .ok (.aload_n 0, 1) := by decide +kernel
theorem dX2_walk_54 : decode cX2_walk 54 = .ok (.getfield 21, 3) := by decide +kernel
theorem dX2_walk_57 : decode cX2_walk 57 = .ok (.iload_n 1, 1) := by decide +kernel
theorem dX2_walk_58 : decode cX2_walk 58 = .ok (.aload_n 0, 1) := by decide +kernel
theorem dX2_walk_59 : decode cX2_walk 59 = .ok (.iload_n 1, 1) := by decide +kernel
theorem dX2_walk_60 : decode cX2_walk 60 = .ok (.invokevirtual 43, 3) := by decide +kernel
theorem dX2_walk_63 : decode cX2_walk 63 = .ok (.ifCond .eq 7, 3) := by decide +kernel
theorem dX2_walk_66 : decode cX2_walk 66 = .ok (.iconst 0, 1) := by decide +kernel
theorem dX2_walk_67 : decode cX2_walk 67 = .ok (.goto 4, 3) := by decide +kernel
theorem dX2_walk_70 : decode cX2_walk 70 = .ok (.iload_n 2, 1) := by decide +kernel
theorem dX2_walk_71 : decode cX2_walk 71 = .ok (.invokestatic 35, 3) := by decide +kernel
theorem dX2_walk_74 : decode cX2_walk 74 = .ok (.return_, 1) := by decide +kernel
theorem dX2_moveUp_0 : decode cX2_moveUp 0 = .ok (.aload_n 0, 1) := by decide +kernel
theorem dX2_moveUp_1 : decode cX2_moveUp 1 = .ok (.getfield 9, 3) := by decide +kernel
theorem dX2_moveUp_4 : decode cX2_moveUp 4 = .ok (.iload_n 2, 1) := by decide +kernel
theorem dX2_moveUp_5 : decode cX2_moveUp 5 = .ok (.aload_n 0, 1) := by decide +kernel
theorem dX2_moveUp_6 : decode cX2_moveUp 6 = .ok (.getfield 9, 3) := by decide +kernel
theorem dX2_moveUp_9 : decode cX2_moveUp 9 = .ok (.iload_n 1, 1) := by decide +kernel
theorem dX2_moveUp_10 : decode cX2_moveUp 10 = .ok (.invokestatic 47, 3) := by decide +kernel
theorem dX2_moveUp_13 : decode cX2_moveUp 13 = .ok (.invokestatic 35, 3) := by decide +kernel
theorem dX2_moveUp_16 : decode cX2_moveUp 16 = .ok (.aload_n 0, 1) := by decide +kernel
theorem dX2_moveUp_17 : decode cX2_moveUp 17 = .ok (.getfield 15, 3) := by decide +kernel
theorem dX2_moveUp_20 : decode cX2_moveUp 20 = .ok (.iload_n 2, 1) := by decide +kernel
theorem dX2_moveUp_21 : decode cX2_moveUp 21 = .ok (.aload_n 0, 1) := by decide +kernel
theorem dX2_moveUp_22 : decode cX2_moveUp 22 = .ok (.getfield 15, 3) := by decide +kernel
theorem dX2_moveUp_25 : decode cX2_moveUp 25 = .ok (.iload_n 1, 1) := by decide +kernel
theorem dX2_moveUp_26 : decode cX2_moveUp 26 = .ok (.invokestatic 47, 3) := by decide +kernel
theorem dX2_moveUp_29 : decode cX2_moveUp 29 = .ok (.invokestatic 35, 3) := by decide +kernel
theorem dX2_moveUp_32 : decode cX2_moveUp 32 = .ok (.aload_n 0, 1) := by decide +kernel
theorem dX2_moveUp_33 : decode cX2_moveUp 33 = .ok (.getfield 18, 3) := by decide +kernel
theorem dX2_moveUp_36 : decode cX2_moveUp 36 = .ok (.iload_n 2, 1) := by decide +kernel
theorem dX2_moveUp_37 : decode cX2_moveUp 37 = .ok (.aload_n 0, 1) := by decide +kernel
theorem dX2_moveUp_38 : decode cX2_moveUp 38 = .ok (.getfield 18, 3) := by decide +kernel
theorem dX2_moveUp_41 : decode cX2_moveUp 41 = .ok (.iload_n 1, 1) := by decide +kernel
theorem dX2_moveUp_42 : decode cX2_moveUp 42 = .ok (.invokestatic 47, 3) := by decide +kernel
theorem dX2_moveUp_45 : decode cX2_moveUp 45 = .ok (.invokestatic 35, 3) := by decide +kernel
theorem dX2_moveUp_48 : decode cX2_moveUp 48 = .ok (.aload_n 0, 1) := by decide +kernel
theorem dX2_moveUp_49 : decode cX2_moveUp 49 = .ok (.getfield 21, 3) := by decide +kernel
theorem dX2_moveUp_52 : decode cX2_moveUp 52 = .ok (.iload_n 2, 1) := by decide +kernel
theorem dX2_moveUp_53 : decode cX2_moveUp 53 = .ok (.aload_n 0, 1) := by decide +kernel
theorem dX2_moveUp_54 : decode cX2_moveUp 54 = .ok (.getfield 21, 3) := by decide +kernel
theorem dX2_moveUp_57 : decode cX2_moveUp 57 = .ok (.iload_n 1, 1) := by decide +kernel
theorem dX2_moveUp_58 : decode cX2_moveUp 58 = .ok (.invokestatic 47, 3) := by decide +kernel
theorem dX2_moveUp_61 : decode cX2_moveUp 61 = .ok (.invokestatic 35, 3) := by decide +kernel
theorem dX2_moveUp_64 : decode cX2_moveUp 64 = .ok (.return_, 1) := by decide +kernel
theorem dX2_personNumber_0 : decode cX2_personNumber 0 = .ok (.iload_n 1, 1) := by decide +kernel
theorem dX2_personNumber_1 : decode cX2_personNumber 1 = .ok (.aload_n 0, 1) := by decide +kernel
theorem dX2_personNumber_2 : decode cX2_personNumber 2 = .ok (.getfield 24, 3) := by decide +kernel
theorem dX2_personNumber_5 : decode cX2_personNumber 5 = .ok (.if_icmp .lt 5, 3) := by decide +kernel
theorem dX2_personNumber_8 : decode cX2_personNumber 8 = .ok (.iconst (-1), 1) := by decide +kernel
theorem dX2_personNumber_9 : decode cX2_personNumber 9 = .ok (.ireturn, 1) := by decide +kernel
theorem dX2_personNumber_10 : decode cX2_personNumber 10 = .ok (.iload_n 2, 1) := by decide +kernel
theorem dX2_personNumber_11 : decode cX2_personNumber 11 = .ok (.tableswitch 52 0 2 #[25, 34, 43], 25) := by decide +kernel
theorem dX2_personNumber_36 : decode cX2_personNumber 36 = .ok (.aload_n 0, 1) := by decide +kernel
theorem dX2_personNumber_37 : decode cX2_personNumber 37 = .ok (.getfield 9, 3) := by decide +kernel
theorem dX2_personNumber_40 : decode cX2_personNumber 40 = .ok (.iload_n 1, 1) := by decide +kernel
theorem dX2_personNumber_41 : decode cX2_personNumber 41 = .ok (.invokestatic 47, 3) := by decide +kernel
theorem dX2_personNumber_44 : decode cX2_personNumber 44 = .ok (.ireturn, 1) := by decide +kernel
theorem dX2_personNumber_45 : decode cX2_personNumber 45 = .ok (.aload_n 0, 1) := by decide +kernel
theorem dX2_personNumber_46 : decode cX2_personNumber 46 = .ok (.getfield 15, 3) := by decide +kernel
theorem dX2_personNumber_49 : decode cX2_personNumber 49 = .ok (.iload_n 1, 1) := by decide +kernel
theorem dX2_personNumber_50 : decode cX2_personNumber 50 = .ok (.invokestatic 47, 3) := by decide +kernel
theorem dX2_personNumber_53 : decode cX2_personNumber 53 = .ok (.ireturn, 1) := by decide +kernel
theorem dX2_personNumber_54 : decode cX2_personNumber 54 = .ok (.aload_n 0, 1) := by decide +kernel
theorem dX2_personNumber_55 : decode cX2_personNumber 55 = .ok (.getfield 18, 3) := by decide +kernel
theorem dX2_personNumber_58 : decode cX2_personNumber 58 = .ok (.iload_n 1, 1) := by decide +kernel
theorem dX2_personNumber_59 : decode cX2_personNumber 59 = .ok (.invokestatic 47, 3) := by decide +kernel
theorem dX2_personNumber_62 : decode cX2_personNumber 62 = .ok (.ireturn, 1) := by decide +kernel
theorem dX2_personNumber_63 : decode cX2_personNumber 63 = .ok (.aload_n 0, 1) := by decide +kernel
theorem dX2_personNumber_64 : decode cX2_personNumber 64 = .ok (.getfield 21, 3) := by decide +kernel
theorem dX2_personNumber_67 : decode cX2_personNumber 67 = .ok (.iload_n 1, 1) := by decide +kernel
theorem dX2_personNumber_68 : decode cX2_personNumber 68 = .ok (.invokestatic 47, 3) := by decide +kernel
theorem dX2_personNumber_71 : decode cX2_personNumber 71 = .ok (.ireturn, 1) := by decide +kernel
theorem dX3_init_0 : decode cX3_init 0 = .ok (.aload_n 0, 1) := by decide +kernel
theorem dX3_init_1 : decode cX3_init 1 = .ok (.invokespecial 3, 3) := by decide +kernel
theorem dX3_init_4 : decode cX3_init 4 = .ok (.aload_n 0, 1) := by decide +kernel
theorem dX3_init_5 : decode cX3_init 5 = .ok (.new 9, 3) := by decide +kernel
theorem dX3_init_8 : decode cX3_init 8 = .ok (.dup, 1) := by decide +kernel
theorem dX3_init_9 : decode cX3_init 9 = .ok (.invokespecial 11, 3) := by decide +kernel
theorem dX3_init_12 : decode cX3_init 12 = .ok (.putfield 12, 3) := by decide +kernel
theorem dX3_init_15 : decode cX3_init 15 = .ok (.aload_n 0, 1) := by decide +kernel
theorem dX3_init_16 : decode cX3_init 16 = .ok (.new 18, 3) := by decide +kernel
theorem dX3_init_19 : decode cX3_init 19 = .ok (.dup, 1) := by decide +kernel
theorem dX3_init_20 : decode cX3_init 20 = .ok (.invokespecial 20, 3) := by decide +kernel
theorem dX3_init_23 : decode cX3_init 23 = .ok (.putfield 21, 3) := by decide +kernel
theorem dX3_init_26 : decode cX3_init 26 = .ok (.aload_n 0, 1) := by decide +kernel
theorem dX3_init_27 : decode cX3_init 27 = .ok (.getstatic 25, 3) := by decide +kernel
theorem dX3_init_30 : decode cX3_init 30 = .ok (.arraylength, 1) := by decide +kernel
theorem dX3_init_31 : decode cX3_init 31 = .ok (.newarray .int, 2) := by decide +kernel
theorem dX3_init_33 : decode cX3_init 33 = .ok (.putfield 29, 3) := by decide +kernel
theorem dX3_init_36 : decode cX3_init 36 = .ok (.getstatic 25, 3) := by decide +kernel
theorem dX3_init_39 : decode cX3_init 39 = .ok (.aload_n 0, 1) := by decide +kernel
theorem dX3_init_40 : decode cX3_init 40 = .ok (.getfield 29, 3) := by decide +kernel
theorem dX3_init_43 : decode cX3_init 43 = .ok (.invokestatic 32, 3) := by decide +kernel
theorem dX3_init_46 : decode cX3_init 46 = .ok (.aload_n 0, 1) := by decide +kernel
theorem dX3_init_47 : decode cX3_init 47 = .ok (.iconst 0, 1) := by decide +kernel
theorem dX3_init_48 : decode cX3_init 48 = .ok (.putfield 36, 3) := by decide +kernel
theorem dX3_init_51 : decode cX3_init 51 = .ok (.aload_n 0, 1) := by decide +kernel
theorem dX3_init_52 : decode cX3_init 52 = .ok (.iconst 0, 1) := by decide +kernel
theorem dX3_init_53 : decode cX3_init 53 = .ok (.putfield 40, 3) := by decide +kernel
theorem dX3_init_56 : decode cX3_init 56 = .ok (.aload_n 0, 1) := by decide +kernel
theorem dX3_init_57 : decode cX3_init 57 = .ok (.iconst 0, 1) := by decide +kernel
theorem dX3_init_58 : decode cX3_init 58 = .ok (.putfield 43, 3) := by decide +kernel
theorem dX3_init_61 : decode cX3_init 61 = .ok (.aload_n 0, 1) := by decide +kernel
theorem dX3_init_62 : decode cX3_init 62 = .ok (.iconst 0, 1) := by decide +kernel
theorem dX3_init_63 : decode cX3_init 63 = .ok (.putfield 47, 3) := by decide +kernel
theorem dX3_init_66 : decode cX3_init 66 = .ok (.return_, 1) := by decide +kernel
theorem dX3_copyFrom_0 : decode cX3_copyFrom 0 = .ok (.aload_n 0, 1) := by decide +kernel
theorem dX3_copyFrom_1 : decode cX3_copyFrom 1 = .ok (.getfield 12, 3) := by decide +kernel
theorem dX3_copyFrom_4 : decode cX3_copyFrom 4 = .ok (.aload_n 1, 1) := by decide +kernel
theorem dX3_copyFrom_5 : decode cX3_copyFrom 5 = .ok (.getfield 12, 3) := by decide +kernel
theorem dX3_copyFrom_8 : decode cX3_copyFrom 8 = .ok (.invokevirtual 50, 3) := by decide +kernel
theorem dX3_copyFrom_11 : decode cX3_copyFrom 11 = .ok (.aload_n 0, 1) := by decide +kernel
theorem dX3_copyFrom_12 : decode cX3_copyFrom 12 = .ok (.getfield 21, 3) := by decide +kernel
theorem dX3_copyFrom_15 : decode cX3_copyFrom 15 = .ok (.aload_n 1, 1) := by decide +kernel
theorem dX3_copyFrom_16 : decode cX3_copyFrom 16 = .ok (.getfield 21, 3) := by decide +kernel
theorem dX3_copyFrom_19 : decode cX3_copyFrom 19 = .ok (.invokevirtual 54, 3) := by decide +kernel
theorem dX3_copyFrom_22 : decode cX3_copyFrom 22 = .ok (.aload_n 1, 1) := by decide +kernel
theorem dX3_copyFrom_23 : decode cX3_copyFrom 23 = .ok (.getfield 29, 3) := by decide +kernel
theorem dX3_copyFrom_26 : decode cX3_copyFrom 26 = .ok (.aload_n 0, 1) := by decide +kernel
theorem dX3_copyFrom_27 : decode cX3_copyFrom 27 = .ok (.getfield 29, 3) := by decide +kernel
theorem dX3_copyFrom_30 : decode cX3_copyFrom 30 = .ok (.invokestatic 32, 3) := by decide +kernel
theorem dX3_copyFrom_33 : decode cX3_copyFrom 33 = .ok (.aload_n 0, 1) := by decide +kernel
theorem dX3_copyFrom_34 : decode cX3_copyFrom 34 = .ok (.aload_n 1, 1) := by decide +kernel
theorem dX3_copyFrom_35 : decode cX3_copyFrom 35 = .ok (.getfield 36, 3) := by decide +kernel
theorem dX3_copyFrom_38 : decode cX3_copyFrom 38 = .ok (.putfield 36, 3) := by decide +kernel
theorem dX3_copyFrom_41 : decode cX3_copyFrom 41 = .ok (.aload_n 0, 1) := by decide +kernel
theorem dX3_copyFrom_42 : decode cX3_copyFrom 42 = .ok (.aload_n 1, 1) := by decide +kernel
theorem dX3_copyFrom_43 : decode cX3_copyFrom 43 = .ok (.getfield 40, 3) := by decide +kernel
theorem dX3_copyFrom_46 : decode cX3_copyFrom 46 = .ok (.putfield 40, 3) := by decide +kernel
theorem dX3_copyFrom_49 : decode cX3_copyFrom 49 = .ok (.aload_n 0, 1) := by decide +kernel
theorem dX3_copyFrom_50 : decode cX3_copyFrom 50 = .ok (.aload_n 1, 1) := by decide +kernel
theorem dX3_copyFrom_51 : decode cX3_copyFrom 51 = .ok (.getfield 43, 3) := by decide +kernel
theorem dX3_copyFrom_54 : decode cX3_copyFrom 54 = .ok (.putfield 43, 3) := by decide +kernel
theorem dX3_copyFrom_57 : decode cX3_copyFrom 57 = .ok (.aload_n 0, 1) := by decide +kernel
theorem dX3_copyFrom_58 : decode cX3_copyFrom 58 = .ok (.aload_n 1, 1) := by decide +kernel
theorem dX3_copyFrom_59 : decode cX3_copyFrom 59 = .ok (.getfield 47, 3) := by decide +kernel
theorem dX3_copyFrom_62 : decode cX3_copyFrom 62 = .ok (.putfield 47, 3) := by decide +kernel
theorem dX3_copyFrom_65 : decode cX3_copyFrom 65 = .ok (.return_, 1) := by decide +kernel
theorem dX3_letCome_0 : decode cX3_letCome 0 = .ok (.aload_n 0, 1) := by decide +kernel
theorem dX3_letCome_1 : decode cX3_letCome 1 = .ok (.getfield 21, 3) := by decide +kernel
theorem dX3_letCome_4 : decode cX3_letCome 4 = .ok (.iload_n 1, 1) := by decide +kernel
theorem dX3_letCome_5 : decode cX3_letCome 5 = .ok (.iload_n 2, 1) := by decide +kernel
theorem dX3_letCome_6 : decode cX3_letCome 6 = .ok (.aload_n 0, 1) := by decide +kernel
theorem dX3_letCome_7 : decode cX3_letCome 7 = .ok (.getfield 29, 3) := by decide +kernel
theorem dX3_letCome_10 : decode cX3_letCome 10 = .ok (.iconst 3, 1) := by decide +kernel
theorem dX3_letCome_11 : decode cX3_letCome 11 = .ok (.invokestatic 57, 3) := by decide +kernel
theorem dX3_letCome_14 : decode cX3_letCome 14 = .ok (.invokevirtual 61, 3) := by decide +kernel
theorem dX3_letCome_17 : decode cX3_letCome 17 = .ok (.ireturn, 1) := by decide +kernel
theorem dX3_switchOn_0 : decode cX3_switchOn 0 = .ok (.aload_n 0, 1) := by decide +kernel
theorem dX3_switchOn_1 : decode cX3_switchOn 1 = .ok (.getfield 12, 3) := by decide +kernel
theorem dX3_switchOn_4 : decode cX3_switchOn 4 = .ok (.iload_n 1, 1) := by decide +kernel
theorem dX3_switchOn_5 : decode cX3_switchOn 5 = .ok (.aload_n 0, 1) := by decide +kernel
theorem dX3_switchOn_6 : decode cX3_switchOn 6 = .ok (.getfield 29, 3) := by decide +kernel
theorem dX3_switchOn_9 : decode cX3_switchOn 9 = .ok (.iconst 0, 1) := by decide +kernel
theorem dX3_switchOn_10 : decode cX3_switchOn 10 = .ok (.invokestatic 57, 3) := by decide +kernel
theorem dX3_switchOn_13 : decode cX3_switchOn 13 = .ok (.invokevirtual 65, 3) := by decide +kernel
theorem dX3_switchOn_16 : decode cX3_switchOn 16 = .ok (.return_, 1) := by decide +kernel
theorem dX3_switchAllOn_0 : decode cX3_switchAllOn 0 = .ok (.iconst 0, 1) := by decide +kernel
theorem dX3_switchAllOn_1 : decode cX3_switchAllOn 1 = .ok (.istore_n 1, 1) := by decide +kernel
theorem dX3_switchAllOn_2 : decode cX3_switchAllOn 2 = .ok (.iload_n 1, 1) := by decide +kernel
theorem dX3_switchAllOn_3 : decode cX3_switchAllOn 3 = .ok (.bipush 8, 2) := by decide +kernel
theorem dX3_switchAllOn_5 : decode cX3_switchAllOn 5 = .ok (.if_icmp .ge 14, 3) := by decide +kernel
theorem dX3_switchAllOn_8 : decode cX3_switchAllOn 8 = .ok (.aload_n 0, 1) := by decide +kernel
theorem dX3_switchAllOn_9 : decode cX3_switchAllOn 9 = .ok (.iload_n 1, 1) := by decide +kernel
theorem dX3_switchAllOn_10 : decode cX3_switchAllOn 10 = .ok (.invokevirtual 69, 3) := by decide +kernel
theorem dX3_switchAllOn_13 : decode cX3_switchAllOn 13 = .ok (.iinc 1 1, 3) := by decide +kernel
theorem dX3_switchAllOn_16 : decode cX3_switchAllOn 16 = .ok (.goto (-14), 3) := by decide +kernel
theorem dX3_switchAllOn_19 : decode cX3_switchAllOn 19 = .ok (.return_, 1) := by decide +kernel
theorem dX3_lampOf_0 : decode cX3_lampOf 0 = .ok (.aload_n 0, 1) := by decide +kernel
theorem dX3_lampOf_1 : decode cX3_lampOf 1 = .ok (.getfield 40, 3) := by decide +kernel
theorem dX3_lampOf_4 : decode cX3_lampOf 4 = .ok (.ifCond .eq 5, 3) := by decide +kernel
theorem dX3_lampOf_7 : decode cX3_lampOf 7 = .ok (.iconst 3, 1) := by decide +kernel
theorem dX3_lampOf_8 : decode cX3_lampOf 8 = .ok (.ireturn, 1) := by decide +kernel
theorem dX3_lampOf_9 : decode cX3_lampOf 9 = .ok (.aload_n 0, 1) := by decide +kernel
theorem dX3_lampOf_10 : decode cX3_lampOf 10 = .ok (.getfield 12, 3) := by decide +kernel
theorem dX3_lampOf_13 : decode cX3_lampOf 13 = .ok (.getfield 73, 3) := by decide +kernel
theorem dX3_lampOf_16 : decode cX3_lampOf 16 = .ok (.iload_n 1, 1) := by decide +kernel
theorem dX3_lampOf_17 : decode cX3_lampOf 17 = .ok (.invokestatic 57, 3) := by decide +kernel
theorem dX3_lampOf_20 : decode cX3_lampOf 20 = .ok (.istore_n 2, 1) := by decide +kernel
theorem dX3_lampOf_21 : decode cX3_lampOf 21 = .ok (.iload_n 2, 1) := by decide +kernel
theorem dX3_lampOf_22 : decode cX3_lampOf 22 = .ok (.ifCond .ne 16, 3) := by decide +kernel
theorem dX3_lampOf_25 : decode cX3_lampOf 25 = .ok (.aload_n 0, 1) := by decide +kernel
theorem dX3_lampOf_26 : decode cX3_lampOf 26 = .ok (.getfield 36, 3) := by decide +kernel
theorem dX3_lampOf_29 : decode cX3_lampOf 29 = .ok (.ifCond .eq 7, 3) := by decide +kernel
theorem dX3_lampOf_32 : decode cX3_lampOf 32 = .ok (.iconst 1, 1) := by decide +kernel
theorem dX3_lampOf_33 : decode cX3_lampOf 33 = .ok (.goto 4, 3) := by decide +kernel
theorem dX3_lampOf_36 : decode cX3_lampOf 36 = .ok (.iconst 0, 1) := by decide +kernel
theorem dX3_lampOf_37 : decode cX3_lampOf 37 = .ok (.ireturn, 1) := by decide +kernel
theorem dX3_lampOf_38 : decode cX3_lampOf 38 = .ok (.iload_n 2, 1) := by decide +kernel
theorem dX3_lampOf_39 : decode cX3_lampOf 39 = .ok (.aload_n 0, 1) := by decide +kernel
theorem dX3_lampOf_40 : decode cX3_lampOf 40 = .ok (.getfield 29, 3) := by decide +kernel
theorem dX3_lampOf_43 : decode cX3_lampOf 43 = .ok (.iconst 1, 1) := by decide +kernel
theorem dX3_lampOf_44 : decode cX3_lampOf 44 = .ok (.invokestatic 57, 3) := by decide +kernel
theorem dX3_lampOf_47 : decode cX3_lampOf 47 = .ok (.if_icmp .gt 7, 3) := by decide +kernel
theorem dX3_lampOf_50 : decode cX3_lampOf 50 = .ok (.iconst 2, 1) := by decide +kernel
theorem dX3_lampOf_51 : decode cX3_lampOf 51 = .ok (.goto 4, 3) := by decide +kernel
theorem dX3_lampOf_54 : decode cX3_lampOf 54 = .ok (.iconst 3, 1) := by decide +kernel
theorem dX3_lampOf_55 : decode cX3_lampOf 55 = .ok (.ireturn, 1) := by decide +kernel
theorem dX3_lampsBurning_0 : decode cX3_lampsBurning 0 = .ok (.iconst 0, 1) := by decide +kernel
theorem dX3_lampsBurning_1 : decode cX3_lampsBurning 1 = .ok (.istore_n 1, 1) := by decide +kernel
theorem dX3_lampsBurning_2 : decode cX3_lampsBurning 2 = .ok (.iconst 0, 1) := by decide +kernel
theorem dX3_lampsBurning_3 : decode cX3_lampsBurning 3 = .ok (.istore_n 2, 1) := by decide +kernel
theorem dX3_lampsBurning_4 : decode cX3_lampsBurning 4 = .ok (.iload_n 2, 1) := by decide +kernel
theorem dX3_lampsBurning_5 : decode cX3_lampsBurning 5 = .ok (.bipush 8, 2) := by decide +kernel
theorem dX3_lampsBurning_7 : decode cX3_lampsBurning 7 = .ok (.if_icmp .ge 21, 3) := by decide +kernel
theorem dX3_lampsBurning_10 : decode cX3_lampsBurning 10 = .ok (.aload_n 0, 1) := by decide +kernel
theorem dX3_lampsBurning_11 : decode cX3_lampsBurning 11 = .ok (.iload_n 2, 1) := by decide +kernel
theorem dX3_lampsBurning_12 : decode cX3_lampsBurning 12 = .ok (.invokevirtual 76, 3) := by decide +kernel
theorem dX3_lampsBurning_15 : decode cX3_lampsBurning 15 = .ok (.iconst 2, 1) := by decide +kernel
theorem dX3_lampsBurning_16 : decode cX3_lampsBurning 16 = .ok (.if_icmp .lt 6, 3) := by decide +kernel
theorem dX3_lampsBurning_19 : decode cX3_lampsBurning 19 = .ok (.iinc 1 1, 3) := by decide +kernel
theorem dX3_lampsBurning_22 : decode cX3_lampsBurning 22 = .ok (.iinc 2 1, 3) := by decide +kernel
theorem dX3_lampsBurning_25 : decode cX3_lampsBurning 25 = .ok (.goto (-21), 3) := by decide +kernel
theorem dX3_lampsBurning_28 : decode cX3_lampsBurning 28 = .ok (.iload_n 1, 1) := by decide +kernel
theorem dX3_lampsBurning_29 : decode cX3_lampsBurning 29 = .ok (.ireturn, 1) := by decide +kernel
theorem dX3_letPass_0 : decode cX3_letPass 0 = .ok (.aload_n 0, 1) := by decide +kernel
theorem dX3_letPass_1 : decode cX3_letPass 1 = .ok (.getfield 12, 3) := by decide +kernel
theorem dX3_letPass_4 : decode cX3_letPass 4 = .ok (.getfield 80, 3) := by decide +kernel
theorem dX3_letPass_7 : decode cX3_letPass 7 = .ok (.invokestatic 83, 3) := by decide +kernel
theorem dX3_letPass_10 : decode cX3_letPass 10 = .ok (.istore_n 2, 1) := by decide +kernel
theorem dX3_letPass_11 : decode cX3_letPass 11 = .ok (.iconst 0, 1) := by decide +kernel
theorem dX3_letPass_12 : decode cX3_letPass 12 = .ok (.istore_n 3, 1) := by decide +kernel
theorem dX3_letPass_13 : decode cX3_letPass 13 = .ok (.iload_n 3, 1) := by decide +kernel
theorem dX3_letPass_14 : decode cX3_letPass 14 = .ok (.iload_n 1, 1) := by decide +kernel
theorem dX3_letPass_15 : decode cX3_letPass 15 = .ok (.if_icmp .ge 17, 3) := by decide +kernel
theorem dX3_letPass_18 : decode cX3_letPass 18 = .ok (.aload_n 0, 1) := by decide +kernel
theorem dX3_letPass_19 : decode cX3_letPass 19 = .ok (.invokevirtual 87, 3) := by decide +kernel
theorem dX3_letPass_22 : decode cX3_letPass 22 = .ok (.aload_n 0, 1) := by decide +kernel
theorem dX3_letPass_23 : decode cX3_letPass 23 = .ok (.invokevirtual 90, 3) := by decide +kernel
theorem dX3_letPass_26 : decode cX3_letPass 26 = .ok (.iinc 3 1, 3) := by decide +kernel
theorem dX3_letPass_29 : decode cX3_letPass 29 = .ok (.goto (-16), 3) := by decide +kernel
theorem dX3_letPass_32 : decode cX3_letPass 32 = .ok (.aload_n 0, 1) := by decide +kernel
theorem dX3_letPass_33 : decode cX3_letPass 33 = .ok (.getfield 12, 3) := by decide +kernel
theorem dX3_letPass_36 : decode cX3_letPass 36 = .ok (.getfield 80, 3) := by decide +kernel
theorem dX3_letPass_39 : decode cX3_letPass 39 = .ok (.invokestatic 83, 3) := by decide +kernel
theorem dX3_letPass_42 : decode cX3_letPass 42 = .ok (.iload_n 2, 1) := by decide +kernel
theorem dX3_letPass_43 : decode cX3_letPass 43 = .ok (.isub, 1) := by decide +kernel
theorem dX3_letPass_44 : decode cX3_letPass 44 = .ok (.ireturn, 1) := by decide +kernel
theorem dX3_waitForRoom_0 : decode cX3_waitForRoom 0 = .ok (.iconst 0, 1) := by decide +kernel
theorem dX3_waitForRoom_1 : decode cX3_waitForRoom 1 = .ok (.istore_n 1, 1) := by decide +kernel
theorem dX3_waitForRoom_2 : decode cX3_waitForRoom 2 = .ok (.aload_n 0, 1) := by decide +kernel
theorem dX3_waitForRoom_3 : decode cX3_waitForRoom 3 = .ok (.getfield 21, 3) := by decide +kernel
theorem dX3_waitForRoom_6 : decode cX3_waitForRoom 6 = .ok (.getfield 93, 3) := by decide +kernel
theorem dX3_waitForRoom_9 : decode cX3_waitForRoom 9 = .ok (.bipush 6, 2) := by decide +kernel
theorem dX3_waitForRoom_11 : decode cX3_waitForRoom 11 = .ok (.if_icmp .lt 22, 3) := by decide +kernel
theorem dX3_waitForRoom_14 : decode cX3_waitForRoom 14 = .ok (.iload_n 1, 1) := by decide +kernel
theorem dX3_waitForRoom_15 : decode cX3_waitForRoom 15 = .ok (.sipush 480, 3) := by decide +kernel
theorem dX3_waitForRoom_18 : decode cX3_waitForRoom 18 = .ok (.if_icmp .ge 15, 3) := by decide +kernel
theorem dX3_waitForRoom_21 : decode cX3_waitForRoom 21 = .ok (.aload_n 0, 1) := by decide +kernel
theorem dX3_waitForRoom_22 : decode cX3_waitForRoom 22 = .ok (.iconst 1, 1) := by decide +kernel
theorem dX3_waitForRoom_23 : decode cX3_waitForRoom 23 = .ok (.invokevirtual 96, 3) := by decide +kernel
theorem dX3_waitForRoom_26 : decode cX3_waitForRoom 26 = .ok (.pop, 1) := by decide +kernel
theorem dX3_waitForRoom_27 : decode cX3_waitForRoom 27 = .ok (.iinc 1 1, 3) := by decide +kernel
theorem dX3_waitForRoom_30 : decode cX3_waitForRoom 30 = .ok (.goto (-28), 3) := by decide +kernel
theorem dX3_waitForRoom_33 : decode cX3_waitForRoom 33 = .ok (.iload_n 1, 1) := by decide +kernel
theorem dX3_waitForRoom_34 : decode cX3_waitForRoom 34 = .ok (.ireturn, 1) := by decide +kernel
theorem dX3_beginSecond_0 : decode cX3_beginSecond 0 = .ok (.aload_n 0, 1) := by decide +kernel
theorem dX3_beginSecond_1 : decode cX3_beginSecond 1 = .ok (.getfield 21, 3) := by decide +kernel
theorem dX3_beginSecond_4 : decode cX3_beginSecond 4 = .ok (.aload_n 0, 1) := by decide +kernel
theorem dX3_beginSecond_5 : decode cX3_beginSecond 5 = .ok (.getfield 29, 3) := by decide +kernel
theorem dX3_beginSecond_8 : decode cX3_beginSecond 8 = .ok (.iconst 3, 1) := by decide +kernel
theorem dX3_beginSecond_9 : decode cX3_beginSecond 9 = .ok (.invokestatic 57, 3) := by decide +kernel
theorem dX3_beginSecond_12 : decode cX3_beginSecond 12 = .ok (.invokevirtual 99, 3) := by decide +kernel
theorem dX3_beginSecond_15 : decode cX3_beginSecond 15 = .ok (.iconst 0, 1) := by decide +kernel
theorem dX3_beginSecond_16 : decode cX3_beginSecond 16 = .ok (.istore_n 1, 1) := by decide +kernel
theorem dX3_beginSecond_17 : decode cX3_beginSecond 17 = .ok (.iload_n 1, 1) := by decide +kernel
theorem dX3_beginSecond_18 : decode cX3_beginSecond 18 = .ok (.bipush 8, 2) := by decide +kernel
theorem dX3_beginSecond_20 : decode cX3_beginSecond 20 = .ok (.if_icmp .ge 40, 3) := by decide +kernel
theorem dX3_beginSecond_23 : decode cX3_beginSecond 23 = .ok (.aload_n 0, 1) := by decide +kernel
theorem dX3_beginSecond_24 : decode cX3_beginSecond 24 = .ok (.getfield 12, 3) := by decide +kernel
theorem dX3_beginSecond_27 : decode cX3_beginSecond 27 = .ok (.getfield 102, 3) := by decide +kernel
theorem dX3_beginSecond_30 : decode cX3_beginSecond 30 = .ok (.iload_n 1, 1) := by decide +kernel
theorem dX3_beginSecond_31 : decode cX3_beginSecond 31 = .ok (.invokestatic 57, 3) := by decide +kernel
theorem dX3_beginSecond_34 : decode cX3_beginSecond 34 = .ok (.iconst 1, 1) := by decide +kernel
theorem dX3_beginSecond_35 : decode cX3_beginSecond 35 = .ok (.if_icmp .ne 19, 3) := by decide +kernel
theorem dX3_beginSecond_38 : decode cX3_beginSecond 38 = .ok (.aload_n 0, 1) := by decide +kernel
theorem dX3_beginSecond_39 : decode cX3_beginSecond 39 = .ok (.getfield 21, 3) := by decide +kernel
theorem dX3_beginSecond_42 : decode cX3_beginSecond 42 = .ok (.iload_n 1, 1) := by decide +kernel
theorem dX3_beginSecond_43 : decode cX3_beginSecond 43 = .ok (.invokevirtual 105, 3) := by decide +kernel
theorem dX3_beginSecond_46 : decode cX3_beginSecond 46 = .ok (.ifCond .le 8, 3) := by decide +kernel
theorem dX3_beginSecond_49 : decode cX3_beginSecond 49 = .ok (.aload_n 0, 1) := by decide +kernel
theorem dX3_beginSecond_50 : decode cX3_beginSecond 50 = .ok (.iload_n 1, 1) := by decide +kernel
theorem dX3_beginSecond_51 : decode cX3_beginSecond 51 = .ok (.invokevirtual 108, 3) := by decide +kernel
theorem dX3_beginSecond_54 : decode cX3_beginSecond 54 = .ok (.iinc 1 1, 3) := by decide +kernel
theorem dX3_beginSecond_57 : decode cX3_beginSecond 57 = .ok (.goto (-40), 3) := by decide +kernel
theorem dX3_beginSecond_60 : decode cX3_beginSecond 60 = .ok (.return_, 1) := by decide +kernel
theorem dX3_switchOnAround_0 : decode cX3_switchOnAround 0 = .ok (.aload_n 0, 1) := by decide +kernel
theorem dX3_switchOnAround_1 : decode cX3_switchOnAround 1 = .ok (.iload_n 1, 1) := by decide +kernel
theorem dX3_switchOnAround_2 : decode cX3_switchOnAround 2 = .ok (.invokevirtual 69, 3) := by decide +kernel
theorem dX3_switchOnAround_5 : decode cX3_switchOnAround 5 = .ok (.aload_n 0, 1) := by decide +kernel
theorem dX3_switchOnAround_6 : decode cX3_switchOnAround 6 = .ok (.getfield 29, 3) := by decide +kernel
theorem dX3_switchOnAround_9 : decode cX3_switchOnAround 9 = .ok (.iconst 2, 1) := by decide +kernel
theorem dX3_switchOnAround_10 : decode cX3_switchOnAround 10 = .ok (.invokestatic 57, 3) := by decide +kernel
theorem dX3_switchOnAround_13 : decode cX3_switchOnAround 13 = .ok (.iconst 1, 1) := by decide +kernel
theorem dX3_switchOnAround_14 : decode cX3_switchOnAround 14 = .ok (.if_icmp .ne 17, 3) := by decide +kernel
theorem dX3_switchOnAround_17 : decode cX3_switchOnAround 17 = .ok (.aload_n 0, 1) := by decide +kernel
theorem dX3_switchOnAround_18 : decode cX3_switchOnAround 18 = .ok (.iload_n 1, 1) := by decide +kernel
theorem dX3_switchOnAround_19 : decode cX3_switchOnAround 19 = .ok (.iconst 1, 1) := by decide +kernel
theorem dX3_switchOnAround_20 : decode cX3_switchOnAround 20 = .ok (.isub, 1) := by decide +kernel
theorem dX3_switchOnAround_21 : decode cX3_switchOnAround 21 = .ok (.invokevirtual 69, 3) := by decide +kernel
theorem dX3_switchOnAround_24 : decode cX3_switchOnAround 24 = .ok (.aload_n 0, 1) := by decide +kernel
theorem dX3_switchOnAround_25 : decode cX3_switchOnAround 25 = .ok (.iload_n 1, 1) := by decide +kernel
theorem dX3_switchOnAround_26 : decode cX3_switchOnAround 26 = .ok (.iconst 1, 1) := by decide +kernel
theorem dX3_switchOnAround_27 : decode cX3_switchOnAround 27 = .ok (.iadd, 1) := by decide +kernel
theorem dX3_switchOnAround_28 : decode cX3_switchOnAround 28 = .ok (.invokevirtual 69, 3) := by decide +kernel
theorem dX3_switchOnAround_31 : decode cX3_switchOnAround 31 = .ok (.return_, 1) := by decide +kernel
theorem dX3_endSecond_0 : decode cX3_endSecond 0 = .ok (.iconst 0, 1) := by decide +kernel
theorem dX3_endSecond_1 : decode cX3_endSecond 1 = .ok (.istore_n 1, 1) := by decide +kernel
theorem dX3_endSecond_2 : decode cX3_endSecond 2 = .ok (.iload_n 1, 1) := by decide +kernel
theorem dX3_endSecond_3 : decode cX3_endSecond 3 = .ok (.aload_n 0, 1) := by decide +kernel
theorem dX3_endSecond_4 : decode cX3_endSecond 4 = .ok (.getfield 21, 3) := by decide +kernel
theorem dX3_endSecond_7 : decode cX3_endSecond 7 = .ok (.getfield 93, 3) := by decide +kernel
theorem dX3_endSecond_10 : decode cX3_endSecond 10 = .ok (.if_icmp .ge 24, 3) := by decide +kernel
theorem dX3_endSecond_13 : decode cX3_endSecond 13 = .ok (.aload_n 0, 1) := by decide +kernel
theorem dX3_endSecond_14 : decode cX3_endSecond 14 = .ok (.aload_n 0, 1) := by decide +kernel
theorem dX3_endSecond_15 : decode cX3_endSecond 15 = .ok (.getfield 21, 3) := by decide +kernel
theorem dX3_endSecond_18 : decode cX3_endSecond 18 = .ok (.getfield 111, 3) := by decide +kernel
theorem dX3_endSecond_21 : decode cX3_endSecond 21 = .ok (.iload_n 1, 1) := by decide +kernel
theorem dX3_endSecond_22 : decode cX3_endSecond 22 = .ok (.invokestatic 57, 3) := by decide +kernel
theorem dX3_endSecond_25 : decode cX3_endSecond 25 = .ok (.invokevirtual 113, 3) := by decide +kernel
theorem dX3_endSecond_28 : decode cX3_endSecond 28 = .ok (.iinc 1 1, 3) := by decide +kernel
theorem dX3_endSecond_31 : decode cX3_endSecond 31 = .ok (.goto (-29), 3) := by decide +kernel
theorem dX3_endSecond_34 : decode cX3_endSecond 34 = .ok (.iconst 0, 1) := by decide +kernel
theorem dX3_endSecond_35 : decode cX3_endSecond 35 = .ok (.istore_n 1, 1) := by decide +kernel
theorem dX3_endSecond_36 : decode cX3_endSecond 36 = .ok (.iload_n 1, 1) := by decide +kernel
theorem dX3_endSecond_37 : decode cX3_endSecond 37 = .ok (.bipush 8, 2) := by decide +kernel
theorem dX3_endSecond_39 : decode cX3_endSecond 39 = .ok (.if_icmp .ge 36, 3) := by decide +kernel
theorem dX3_endSecond_42 : decode cX3_endSecond 42 = .ok (.aload_n 0, 1) := by decide +kernel
theorem dX3_endSecond_43 : decode cX3_endSecond 43 = .ok (.getfield 12, 3) := by decide +kernel
theorem dX3_endSecond_46 : decode cX3_endSecond 46 = .ok (.getfield 116, 3) := by decide +kernel
theorem dX3_endSecond_49 : decode cX3_endSecond 49 = .ok (.iload_n 1, 1) := by decide +kernel
theorem dX3_endSecond_50 : decode cX3_endSecond 50 = .ok (.aload_n 0, 1) := by decide +kernel
theorem dX3_endSecond_51 : decode cX3_endSecond 51 = .ok (.iload_n 1, 1) := by decide +kernel
theorem dX3_endSecond_52 : decode cX3_endSecond 52 = .ok (.invokevirtual 76, 3) := by decide +kernel
theorem dX3_endSecond_55 : decode cX3_endSecond 55 = .ok (.invokestatic 119, 3) := by decide +kernel
theorem dX3_endSecond_58 : decode cX3_endSecond 58 = .ok (.invokestatic 122, 3) := by decide +kernel
theorem dX3_endSecond_61 : decode cX3_endSecond 61 = .ok (.aload_n 0, 1) := by decide +kernel
theorem dX3_endSecond_62 : decode cX3_endSecond 62 = .ok (.getfield 12, 3) := by decide +kernel
theorem dX3_endSecond_65 : decode cX3_endSecond 65 = .ok (.iload_n 1, 1) := by decide +kernel
theorem dX3_endSecond_66 : decode cX3_endSecond 66 = .ok (.invokevirtual 126, 3) := by decide +kernel
theorem dX3_endSecond_69 : decode cX3_endSecond 69 = .ok (.iinc 1 1, 3) := by decide +kernel
theorem dX3_endSecond_72 : decode cX3_endSecond 72 = .ok (.goto (-36), 3) := by decide +kernel
theorem dX3_endSecond_75 : decode cX3_endSecond 75 = .ok (.aload_n 0, 1) := by decide +kernel
theorem dX3_endSecond_76 : decode cX3_endSecond 76 = .ok (.dup, 1) := by decide +kernel
theorem dX3_endSecond_77 : decode cX3_endSecond 77 = .ok (.getfield 43, 3) := by decide +kernel
theorem dX3_endSecond_80 : decode cX3_endSecond 80 = .ok (.iconst 1, 1) := by decide +kernel
theorem dX3_endSecond_81 : decode cX3_endSecond 81 = .ok (.iadd, 1) := by decide +kernel
theorem dX3_endSecond_82 : decode cX3_endSecond 82 = .ok (.putfield 43, 3) := by decide +kernel
theorem dX3_endSecond_85 : decode cX3_endSecond 85 = .ok (.return_, 1) := by decide +kernel
theorem dX3_countSecondOn_0 : decode cX3_countSecondOn 0 = .ok (.aload_n 0, 1) := by decide +kernel
theorem dX3_countSecondOn_1 : decode cX3_countSecondOn 1 = .ok (.iload_n 1, 1) := by decide +kernel
theorem dX3_countSecondOn_2 : decode cX3_countSecondOn 2 = .ok (.invokevirtual 76, 3) := by decide +kernel
theorem dX3_countSecondOn_5 : decode cX3_countSecondOn 5 = .ok (.istore_n 2, 1) := by decide +kernel
theorem dX3_countSecondOn_6 : decode cX3_countSecondOn 6 = .ok (.iload_n 2, 1) := by decide +kernel
theorem dX3_countSecondOn_7 : decode cX3_countSecondOn 7 = .ok (.ifCond .ne 18, 3) := by decide +kernel
theorem dX3_countSecondOn_10 : decode cX3_countSecondOn 10 = .ok (.aload_n 0, 1) := by decide +kernel
theorem dX3_countSecondOn_11 : decode cX3_countSecondOn 11 = .ok (.getfield 12, 3) := by decide +kernel
theorem dX3_countSecondOn_14 : decode cX3_countSecondOn 14 = .ok (.getfield 80, 3) := by decide +kernel
theorem dX3_countSecondOn_17 : decode cX3_countSecondOn 17 = .ok (.iload_n 1, 1) := by decide +kernel
theorem dX3_countSecondOn_18 : decode cX3_countSecondOn 18 = .ok (.iconst 1, 1) := by decide +kernel
theorem dX3_countSecondOn_19 : decode cX3_countSecondOn 19 = .ok (.invokestatic 122, 3) := by decide +kernel
theorem dX3_countSecondOn_22 : decode cX3_countSecondOn 22 = .ok (.goto 20, 3) := by decide +kernel
theorem dX3_countSecondOn_25 : decode cX3_countSecondOn 25 = .ok (.iload_n 2, 1) := by decide +kernel
theorem dX3_countSecondOn_26 : decode cX3_countSecondOn 26 = .ok (.iconst 1, 1) := by decide +kernel
theorem dX3_countSecondOn_27 : decode cX3_countSecondOn 27 = .ok (.if_icmp .ne 15, 3) := by decide +kernel
theorem dX3_countSecondOn_30 : decode cX3_countSecondOn 30 = .ok (.aload_n 0, 1) := by decide +kernel
theorem dX3_countSecondOn_31 : decode cX3_countSecondOn 31 = .ok (.getfield 12, 3) := by decide +kernel
theorem dX3_countSecondOn_34 : decode cX3_countSecondOn 34 = .ok (.getfield 129, 3) := by decide +kernel
theorem dX3_countSecondOn_37 : decode cX3_countSecondOn 37 = .ok (.iload_n 1, 1) := by decide +kernel
theorem dX3_countSecondOn_38 : decode cX3_countSecondOn 38 = .ok (.iconst 1, 1) := by decide +kernel
theorem dX3_countSecondOn_39 : decode cX3_countSecondOn 39 = .ok (.invokestatic 122, 3) := by decide +kernel
theorem dX3_countSecondOn_42 : decode cX3_countSecondOn 42 = .ok (.aload_n 0, 1) := by decide +kernel
theorem dX3_countSecondOn_43 : decode cX3_countSecondOn 43 = .ok (.dup, 1) := by decide +kernel
theorem dX3_countSecondOn_44 : decode cX3_countSecondOn 44 = .ok (.getfield 47, 3) := by decide +kernel
theorem dX3_countSecondOn_47 : decode cX3_countSecondOn 47 = .ok (.iconst 1, 1) := by decide +kernel
theorem dX3_countSecondOn_48 : decode cX3_countSecondOn 48 = .ok (.iadd, 1) := by decide +kernel
theorem dX3_countSecondOn_49 : decode cX3_countSecondOn 49 = .ok (.putfield 47, 3) := by decide +kernel
theorem dX3_countSecondOn_52 : decode cX3_countSecondOn 52 = .ok (.return_, 1) := by decide +kernel
theorem dX3_powerOf_0 : decode cX3_powerOf 0 = .ok (.iload_n 0, 1) := by decide +kernel
theorem dX3_powerOf_1 : decode cX3_powerOf 1 = .ok (.iconst 2, 1) := by decide +kernel
theorem dX3_powerOf_2 : decode cX3_powerOf 2 = .ok (.if_icmp .lt 6, 3) := by decide +kernel
theorem dX3_powerOf_5 : decode cX3_powerOf 5 = .ok (.bipush 10, 2) := by decide +kernel
theorem dX3_powerOf_7 : decode cX3_powerOf 7 = .ok (.ireturn, 1) := by decide +kernel
theorem dX3_powerOf_8 : decode cX3_powerOf 8 = .ok (.iload_n 0, 1) := by decide +kernel
theorem dX3_powerOf_9 : decode cX3_powerOf 9 = .ok (.iconst 1, 1) := by decide +kernel
theorem dX3_powerOf_10 : decode cX3_powerOf 10 = .ok (.if_icmp .ne 7, 3) := by decide +kernel
theorem dX3_powerOf_13 : decode cX3_powerOf 13 = .ok (.iconst 3, 1) := by decide +kernel
theorem dX3_powerOf_14 : decode cX3_powerOf 14 = .ok (.goto 4, 3) := by decide +kernel
theorem dX3_powerOf_17 : decode cX3_powerOf 17 = .ok (.iconst 0, 1) := by decide +kernel
theorem dX3_powerOf_18 : decode cX3_powerOf 18 = .ok (.ireturn, 1) := by decide +kernel
theorem dX3_lightShare_0 : decode cX3_lightShare 0 = .ok (.aload_n 0, 1) := by decide +kernel
theorem dX3_lightShare_1 : decode cX3_lightShare 1 = .ok (.getfield 47, 3) := by decide +kernel
theorem dX3_lightShare_4 : decode cX3_lightShare 4 = .ok (.ifCond .gt 5, 3) := by decide +kernel
theorem dX3_lightShare_7 : decode cX3_lightShare 7 = .ok (.dconst 1, 1) := by decide +kernel
theorem dX3_lightShare_8 : decode cX3_lightShare 8 = .ok (.dreturn, 1) := by decide +kernel
theorem dX3_lightShare_9 : decode cX3_lightShare 9 = .ok (.aload_n 0, 1) := by decide +kernel
theorem dX3_lightShare_10 : decode cX3_lightShare 10 = .ok (.getfield 47, 3) := by decide +kernel
theorem dX3_lightShare_13 : decode cX3_lightShare 13 = .ok (.aload_n 0, 1) := by decide +kernel
theorem dX3_lightShare_14 : decode cX3_lightShare 14 = .ok (.getfield 12, 3) := by decide +kernel
theorem dX3_lightShare_17 : decode cX3_lightShare 17 = .ok (.getfield 80, 3) := by decide +kernel
theorem dX3_lightShare_20 : decode cX3_lightShare 20 = .ok (.invokestatic 83, 3) := by decide +kernel
theorem dX3_lightShare_23 : decode cX3_lightShare 23 = .ok (.isub, 1) := by decide +kernel
theorem dX3_lightShare_24 : decode cX3_lightShare 24 = .ok (.aload_n 0, 1) := by decide +kernel
theorem dX3_lightShare_25 : decode cX3_lightShare 25 = .ok (.getfield 12, 3) := by decide +kernel
theorem dX3_lightShare_28 : decode cX3_lightShare 28 = .ok (.getfield 129, 3) := by decide +kernel
theorem dX3_lightShare_31 : decode cX3_lightShare 31 = .ok (.invokestatic 83, 3) := by decide +kernel
theorem dX3_lightShare_34 : decode cX3_lightShare 34 = .ok (.isub, 1) := by decide +kernel
theorem dX3_lightShare_35 : decode cX3_lightShare 35 = .ok (.istore_n 1, 1) := by decide +kernel
theorem dX3_lightShare_36 : decode cX3_lightShare 36 = .ok (.iload_n 1, 1) := by decide +kernel
theorem dX3_lightShare_37 : decode cX3_lightShare 37 = .ok (.i2d, 1) := by decide +kernel
theorem dX3_lightShare_38 : decode cX3_lightShare 38 = .ok (.aload_n 0, 1) := by decide +kernel
theorem dX3_lightShare_39 : decode cX3_lightShare 39 = .ok (.getfield 47, 3) := by decide +kernel
theorem dX3_lightShare_42 : decode cX3_lightShare 42 = .ok (.i2d, 1) := by decide +kernel
theorem dX3_lightShare_43 : decode cX3_lightShare 43 = .ok (.ddiv, 1) := by decide +kernel
theorem dX3_lightShare_44 : decode cX3_lightShare 44 = .ok (.dreturn, 1) := by decide +kernel
theorem dX3_floorNumber_0 : decode cX3_floorNumber 0 = .ok (.iload_n 2, 1) := by decide +kernel
theorem dX3_floorNumber_1 : decode cX3_floorNumber 1 = .ok (.tableswitch 118 0 6 #[43, 49, 61, 73, 82, 94, 106], 43) := by decide +kernel
theorem dX3_floorNumber_44 : decode cX3_floorNumber 44 = .ok (.aload_n 0, 1) := by decide +kernel
theorem dX3_floorNumber_45 : decode cX3_floorNumber 45 = .ok (.iload_n 1, 1) := by decide +kernel
theorem dX3_floorNumber_46 : decode cX3_floorNumber 46 = .ok (.invokevirtual 76, 3) := by decide +kernel
theorem dX3_floorNumber_49 : decode cX3_floorNumber 49 = .ok (.ireturn, 1) := by decide +kernel
theorem dX3_floorNumber_50 : decode cX3_floorNumber 50 = .ok (.aload_n 0, 1) := by decide +kernel
theorem dX3_floorNumber_51 : decode cX3_floorNumber 51 = .ok (.getfield 12, 3) := by decide +kernel
theorem dX3_floorNumber_54 : decode cX3_floorNumber 54 = .ok (.getfield 73, 3) := by decide +kernel
theorem dX3_floorNumber_57 : decode cX3_floorNumber 57 = .ok (.iload_n 1, 1) := by decide +kernel
theorem dX3_floorNumber_58 : decode cX3_floorNumber 58 = .ok (.invokestatic 57, 3) := by decide +kernel
theorem dX3_floorNumber_61 : decode cX3_floorNumber 61 = .ok (.ireturn, 1) := by decide +kernel
theorem dX3_floorNumber_62 : decode cX3_floorNumber 62 = .ok (.aload_n 0, 1) := by decide +kernel
theorem dX3_floorNumber_63 : decode cX3_floorNumber 63 = .ok (.getfield 12, 3) := by decide +kernel
theorem dX3_floorNumber_66 : decode cX3_floorNumber 66 = .ok (.getfield 102, 3) := by decide +kernel
theorem dX3_floorNumber_69 : decode cX3_floorNumber 69 = .ok (.iload_n 1, 1) := by decide +kernel
theorem dX3_floorNumber_70 : decode cX3_floorNumber 70 = .ok (.invokestatic 57, 3) := by decide +kernel
theorem dX3_floorNumber_73 : decode cX3_floorNumber 73 = .ok (.ireturn, 1) := by decide +kernel
theorem dX3_floorNumber_74 : decode cX3_floorNumber 74 = .ok (.aload_n 0, 1) := by decide +kernel
theorem dX3_floorNumber_75 : decode cX3_floorNumber 75 = .ok (.getfield 21, 3) := by decide +kernel
theorem dX3_floorNumber_78 : decode cX3_floorNumber 78 = .ok (.iload_n 1, 1) := by decide +kernel
theorem dX3_floorNumber_79 : decode cX3_floorNumber 79 = .ok (.invokevirtual 105, 3) := by decide +kernel
theorem dX3_floorNumber_82 : decode cX3_floorNumber 82 = .ok (.ireturn, 1) := by decide +kernel
theorem dX3_floorNumber_83 : decode cX3_floorNumber 83 = .ok (.aload_n 0, 1) := by decide +kernel
theorem dX3_floorNumber_84 : decode cX3_floorNumber 84 = .ok (.getfield 12, 3) := by decide +kernel
theorem dX3_floorNumber_87 : decode cX3_floorNumber 87 = .ok (.getfield 80, 3) := by decide +kernel
theorem dX3_floorNumber_90 : decode cX3_floorNumber 90 = .ok (.iload_n 1, 1) := by decide +kernel
theorem dX3_floorNumber_91 : decode cX3_floorNumber 91 = .ok (.invokestatic 57, 3) := by decide +kernel
theorem dX3_floorNumber_94 : decode cX3_floorNumber 94 = .ok (.ireturn, 1) := by decide +kernel
theorem dX3_floorNumber_95 : decode cX3_floorNumber 95 = .ok (.aload_n 0, 1) := by decide +kernel
theorem dX3_floorNumber_96 : decode cX3_floorNumber 96 = .ok (.getfield 12, 3) := by decide +kernel
theorem dX3_floorNumber_99 : decode cX3_floorNumber 99 = .ok (.getfield 129, 3) := by decide +kernel
theorem dX3_floorNumber_102 : decode cX3_floorNumber 102 = .ok (.iload_n 1, 1) := by decide +kernel
theorem dX3_floorNumber_103 : decode cX3_floorNumber 103 = .ok (.invokestatic 57, 3) := by decide +kernel
theorem dX3_floorNumber_106 : decode cX3_floorNumber 106 = .ok (.ireturn, 1) := by decide +kernel
theorem dX3_floorNumber_107 : decode cX3_floorNumber 107 = .ok (.aload_n 0, 1) := by decide +kernel
theorem dX3_floorNumber_108 : decode cX3_floorNumber 108 = .ok (.getfield 12, 3) := by decide +kernel
theorem dX3_floorNumber_111 : decode cX3_floorNumber 111 = .ok (.getfield 116, 3) := by decide +kernel
theorem dX3_floorNumber_114 : decode cX3_floorNumber 114 = .ok (.iload_n 1, 1) := by decide +kernel
theorem dX3_floorNumber_115 : decode cX3_floorNumber 115 = .ok (.invokestatic 57, 3) := by decide +kernel
theorem dX3_floorNumber_118 : decode cX3_floorNumber 118 = .ok (.ireturn, 1) := by decide +kernel
theorem dX3_floorNumber_119 : decode cX3_floorNumber 119 = .ok (.aload_n 0, 1) := by decide +kernel
theorem dX3_floorNumber_120 : decode cX3_floorNumber 120 = .ok (.getfield 12, 3) := by decide +kernel
theorem dX3_floorNumber_123 : decode cX3_floorNumber 123 = .ok (.getfield 132, 3) := by decide +kernel
theorem dX3_floorNumber_126 : decode cX3_floorNumber 126 = .ok (.iload_n 1, 1) := by decide +kernel
theorem dX3_floorNumber_127 : decode cX3_floorNumber 127 = .ok (.invokestatic 57, 3) := by decide +kernel
theorem dX3_floorNumber_130 : decode cX3_floorNumber 130 = .ok (.ireturn, 1) := by decide +kernel
theorem dX4_init_0 : decode cX4_init 0 = .ok (.aload_n 0, 1) := by decide +kernel
theorem dX4_init_1 : decode cX4_init 1 = .ok (.invokespecial 3, 3) := by decide +kernel
theorem dX4_init_4 : decode cX4_init 4 = .ok (.aload_n 0, 1) := by decide +kernel
theorem dX4_init_5 : decode cX4_init 5 = .ok (.bipush 60, 2) := by decide +kernel
theorem dX4_init_7 : decode cX4_init 7 = .ok (.newarray .char, 2) := by decide +kernel
theorem dX4_init_9 : decode cX4_init 9 = .ok (.putfield 9, 3) := by decide +kernel
theorem dX4_init_12 : decode cX4_init 12 = .ok (.aload_n 0, 1) := by decide +kernel
theorem dX4_init_13 : decode cX4_init 13 = .ok (.iconst 0, 1) := by decide +kernel
theorem dX4_init_14 : decode cX4_init 14 = .ok (.putfield 15, 3) := by decide +kernel
theorem dX4_init_17 : decode cX4_init 17 = .ok (.return_, 1) := by decide +kernel
theorem dX4_add_0 : decode cX4_add 0 = .ok (.aload_n 0, 1) := by decide +kernel
theorem dX4_add_1 : decode cX4_add 1 = .ok (.getfield 15, 3) := by decide +kernel
theorem dX4_add_4 : decode cX4_add 4 = .ok (.ifCond .lt 35, 3) := by decide +kernel
theorem dX4_add_7 : decode cX4_add 7 = .ok (.aload_n 0, 1) := by decide +kernel
theorem dX4_add_8 : decode cX4_add 8 = .ok (.getfield 15, 3) := by decide +kernel
theorem dX4_add_11 : decode cX4_add 11 = .ok (.aload_n 0, 1) := by decide +kernel
theorem dX4_add_12 : decode cX4_add 12 = .ok (.getfield 9, 3) := by decide +kernel
theorem dX4_add_15 : decode cX4_add 15 = .ok (.arraylength, 1) := by decide +kernel
theorem dX4_add_16 : decode cX4_add 16 = .ok (.if_icmp .ge 23, 3) := by decide +kernel
theorem dX4_add_19 : decode cX4_add 19 = .ok (.aload_n 0, 1) := by decide +kernel
theorem dX4_add_20 : decode cX4_add 20 = .ok (.getfield 9, 3) := by decide +kernel
theorem dX4_add_23 : decode cX4_add 23 = .ok (.aload_n 0, 1) := by decide +kernel
theorem dX4_add_24 : decode cX4_add 24 = .ok (.getfield 15, 3) := by decide +kernel
theorem dX4_add_27 : decode cX4_add 27 = .ok (.iload_n 1, 1) := by decide +kernel
theorem dX4_add_28 : decode cX4_add 28 = .ok (.castore, 1) := by decide +kernel
theorem dX4_add_29 : decode cX4_add 29 = .ok (.aload_n 0, 1) := by decide +kernel
theorem dX4_add_30 : decode cX4_add 30 = .ok (.dup, 1) := by decide +kernel
theorem dX4_add_31 : decode cX4_add 31 = .ok (.getfield 15, 3) := by decide +kernel
theorem dX4_add_34 : decode cX4_add 34 = .ok (.iconst 1, 1) := by decide +kernel
theorem dX4_add_35 : decode cX4_add 35 = .ok (.iadd, 1) := by decide +kernel
theorem dX4_add_36 : decode cX4_add 36 = .ok (.putfield 15, 3) := by decide +kernel
theorem dX4_add_39 : decode cX4_add 39 = .ok (.aload_n 0, 1) := by decide +kernel
theorem dX4_add_40 : decode cX4_add 40 = .ok (.getfield 15, 3) := by decide +kernel
theorem dX4_add_43 : decode cX4_add 43 = .ok (.ireturn, 1) := by decide +kernel
theorem dX4_clear_0 : decode cX4_clear 0 = .ok (.aload_n 0, 1) := by decide +kernel
theorem dX4_clear_1 : decode cX4_clear 1 = .ok (.getfield 15, 3) := by decide +kernel
theorem dX4_clear_4 : decode cX4_clear 4 = .ok (.istore_n 1, 1) := by decide +kernel
theorem dX4_clear_5 : decode cX4_clear 5 = .ok (.aload_n 0, 1) := by decide +kernel
theorem dX4_clear_6 : decode cX4_clear 6 = .ok (.iconst 0, 1) := by decide +kernel
theorem dX4_clear_7 : decode cX4_clear 7 = .ok (.putfield 15, 3) := by decide +kernel
theorem dX4_clear_10 : decode cX4_clear 10 = .ok (.iload_n 1, 1) := by decide +kernel
theorem dX4_clear_11 : decode cX4_clear 11 = .ok (.ireturn, 1) := by decide +kernel
theorem dX4_codeAt_0 : decode cX4_codeAt 0 = .ok (.iload_n 1, 1) := by decide +kernel
theorem dX4_codeAt_1 : decode cX4_codeAt 1 = .ok (.ifCond .lt 21, 3) := by decide +kernel
theorem dX4_codeAt_4 : decode cX4_codeAt 4 = .ok (.iload_n 1, 1) := by decide +kernel
theorem dX4_codeAt_5 : decode cX4_codeAt 5 = .ok (.aload_n 0, 1) := by decide +kernel
theorem dX4_codeAt_6 : decode cX4_codeAt 6 = .ok (.getfield 9, 3) := by decide +kernel
theorem dX4_codeAt_9 : decode cX4_codeAt 9 = .ok (.arraylength, 1) := by decide +kernel
theorem dX4_codeAt_10 : decode cX4_codeAt 10 = .ok (.if_icmp .ge 12, 3) := by decide +kernel
theorem dX4_codeAt_13 : decode cX4_codeAt 13 = .ok (.aload_n 0, 1) := by decide +kernel
theorem dX4_codeAt_14 : decode cX4_codeAt 14 = .ok (.getfield 9, 3) := by decide +kernel
theorem dX4_codeAt_17 : decode cX4_codeAt 17 = .ok (.iload_n 1, 1) := by decide +kernel
theorem dX4_codeAt_18 : decode cX4_codeAt 18 = .ok (.caload, 1) := by decide +kernel
theorem dX4_codeAt_19 : decode cX4_codeAt 19 = .ok (.goto 5, 3) := by decide +kernel
theorem dX4_codeAt_22 : decode cX4_codeAt 22 = .ok (.bipush 32, 2) := by decide +kernel
theorem dX4_codeAt_24 : decode cX4_codeAt 24 = .ok (.ireturn, 1) := by decide +kernel
theorem dX4_errorPlace_0 : decode cX4_errorPlace 0 = .ok (.iconst 0, 1) := by decide +kernel
theorem dX4_errorPlace_1 : decode cX4_errorPlace 1 = .ok (.istore_n 1, 1) := by decide +kernel
theorem dX4_errorPlace_2 : decode cX4_errorPlace 2 = .ok (.iload_n 1, 1) := by decide +kernel
theorem dX4_errorPlace_3 : decode cX4_errorPlace 3 = .ok (.aload_n 0, 1) := by decide +kernel
theorem dX4_errorPlace_4 : decode cX4_errorPlace 4 = .ok (.getfield 15, 3) := by decide +kernel
theorem dX4_errorPlace_7 : decode cX4_errorPlace 7 = .ok (.if_icmp .ge 19, 3) := by decide +kernel
theorem dX4_errorPlace_10 : decode cX4_errorPlace 10 = .ok (.aload_n 0, 1) := by decide +kernel
theorem dX4_errorPlace_11 : decode cX4_errorPlace 11 = .ok (.iload_n 1, 1) := by decide +kernel
theorem dX4_errorPlace_12 : decode cX4_errorPlace 12 = .ok (.invokevirtual 19, 3) := by decide +kernel
theorem dX4_errorPlace_15 : decode cX4_errorPlace 15 = .ok (.ifCond .ne 5, 3) := by decide +kernel
theorem dX4_errorPlace_18 : decode cX4_errorPlace 18 = .ok (.iload_n 1, 1) := by decide +kernel
theorem dX4_errorPlace_19 : decode cX4_errorPlace 19 = .ok (.ireturn, 1) := by decide +kernel
theorem dX4_errorPlace_20 : decode cX4_errorPlace 20 = .ok (.iinc 1 1, 3) := by decide +kernel
theorem dX4_errorPlace_23 : decode cX4_errorPlace 23 = .ok (.goto (-21), 3) := by decide +kernel
theorem dX4_errorPlace_26 : decode cX4_errorPlace 26 = .ok (.aload_n 0, 1) := by decide +kernel
theorem dX4_errorPlace_27 : decode cX4_errorPlace 27 = .ok (.getfield 15, 3) := by decide +kernel
theorem dX4_errorPlace_30 : decode cX4_errorPlace 30 = .ok (.ireturn, 1) := by decide +kernel
theorem dX4_fitsAt_0 : decode cX4_fitsAt 0 = .ok (.aload_n 0, 1) := by decide +kernel
theorem dX4_fitsAt_1 : decode cX4_fitsAt 1 = .ok (.iload_n 1, 1) := by decide +kernel
theorem dX4_fitsAt_2 : decode cX4_fitsAt 2 = .ok (.invokevirtual 23, 3) := by decide +kernel
theorem dX4_fitsAt_5 : decode cX4_fitsAt 5 = .ok (.istore_n 2, 1) := by decide +kernel
theorem dX4_fitsAt_6 : decode cX4_fitsAt 6 = .ok (.iload_n 1, 1) := by decide +kernel
theorem dX4_fitsAt_7 : decode cX4_fitsAt 7 = .ok (.iconst 4, 1) := by decide +kernel
theorem dX4_fitsAt_8 : decode cX4_fitsAt 8 = .ok (.irem, 1) := by decide +kernel
theorem dX4_fitsAt_9 : decode cX4_fitsAt 9 = .ok (.tableswitch 104 0 2 #[27, 32, 70], 27) := by decide +kernel
theorem dX4_fitsAt_36 : decode cX4_fitsAt 36 = .ok (.iload_n 2, 1) := by decide +kernel
theorem dX4_fitsAt_37 : decode cX4_fitsAt 37 = .ok (.invokestatic 27, 3) := by decide +kernel
theorem dX4_fitsAt_40 : decode cX4_fitsAt 40 = .ok (.ireturn, 1) := by decide +kernel
theorem dX4_fitsAt_41 : decode cX4_fitsAt 41 = .ok (.aload_n 0, 1) := by decide +kernel
theorem dX4_fitsAt_42 : decode cX4_fitsAt 42 = .ok (.iload_n 1, 1) := by decide +kernel
theorem dX4_fitsAt_43 : decode cX4_fitsAt 43 = .ok (.iconst 1, 1) := by decide +kernel
theorem dX4_fitsAt_44 : decode cX4_fitsAt 44 = .ok (.isub, 1) := by decide +kernel
theorem dX4_fitsAt_45 : decode cX4_fitsAt 45 = .ok (.invokevirtual 23, 3) := by decide +kernel
theorem dX4_fitsAt_48 : decode cX4_fitsAt 48 = .ok (.istore_n 3, 1) := by decide +kernel
theorem dX4_fitsAt_49 : decode cX4_fitsAt 49 = .ok (.iload_n 2, 1) := by decide +kernel
theorem dX4_fitsAt_50 : decode cX4_fitsAt 50 = .ok (.bipush 62, 2) := by decide +kernel
theorem dX4_fitsAt_52 : decode cX4_fitsAt 52 = .ok (.if_icmp .ne 9, 3) := by decide +kernel
theorem dX4_fitsAt_55 : decode cX4_fitsAt 55 = .ok (.iload_n 3, 1) := by decide +kernel
theorem dX4_fitsAt_56 : decode cX4_fitsAt 56 = .ok (.bipush 55, 2) := by decide +kernel
theorem dX4_fitsAt_58 : decode cX4_fitsAt 58 = .ok (.if_icmp .lt 15, 3) := by decide +kernel
theorem dX4_fitsAt_61 : decode cX4_fitsAt 61 = .ok (.iload_n 2, 1) := by decide +kernel
theorem dX4_fitsAt_62 : decode cX4_fitsAt 62 = .ok (.bipush 60, 2) := by decide +kernel
theorem dX4_fitsAt_64 : decode cX4_fitsAt 64 = .ok (.if_icmp .ne 13, 3) := by decide +kernel
theorem dX4_fitsAt_67 : decode cX4_fitsAt 67 = .ok (.iload_n 3, 1) := by decide +kernel
theorem dX4_fitsAt_68 : decode cX4_fitsAt 68 = .ok (.bipush 48, 2) := by decide +kernel
theorem dX4_fitsAt_70 : decode cX4_fitsAt 70 = .ok (.if_icmp .le 7, 3) := by decide +kernel
theorem dX4_fitsAt_73 : decode cX4_fitsAt 73 = .ok (.iconst 1, 1) := by decide +kernel
theorem dX4_fitsAt_74 : decode cX4_fitsAt 74 = .ok (.goto 4, 3) := by decide +kernel
theorem dX4_fitsAt_77 : decode cX4_fitsAt 77 = .ok (.iconst 0, 1) := by decide +kernel
theorem dX4_fitsAt_78 : decode cX4_fitsAt 78 = .ok (.ireturn, 1) := by decide +kernel
theorem dX4_fitsAt_79 : decode cX4_fitsAt 79 = .ok (.iload_n 2, 1) := by decide +kernel
theorem dX4_fitsAt_80 : decode cX4_fitsAt 80 = .ok (.invokestatic 27, 3) := by decide +kernel
theorem dX4_fitsAt_83 : decode cX4_fitsAt 83 = .ok (.ifCond .eq 28, 3) := by decide +kernel
theorem dX4_fitsAt_86 : decode cX4_fitsAt 86 = .ok (.aload_n 0, 1) := by decide +kernel
theorem dX4_fitsAt_87 : decode cX4_fitsAt 87 = .ok (.iload_n 1, 1) := by decide +kernel
theorem dX4_fitsAt_88 : decode cX4_fitsAt 88 = .ok (.iconst 2, 1) := by decide +kernel
theorem dX4_fitsAt_89 : decode cX4_fitsAt 89 = .ok (.isub, 1) := by decide +kernel
theorem dX4_fitsAt_90 : decode cX4_fitsAt 90 = .ok (.invokevirtual 23, 3) := by decide +kernel
theorem dX4_fitsAt_93 : decode cX4_fitsAt 93 = .ok (.aload_n 0, 1) := by decide +kernel
theorem dX4_fitsAt_94 : decode cX4_fitsAt 94 = .ok (.iload_n 1, 1) := by decide +kernel
theorem dX4_fitsAt_95 : decode cX4_fitsAt 95 = .ok (.iconst 1, 1) := by decide +kernel
theorem dX4_fitsAt_96 : decode cX4_fitsAt 96 = .ok (.isub, 1) := by decide +kernel
theorem dX4_fitsAt_97 : decode cX4_fitsAt 97 = .ok (.invokevirtual 23, 3) := by decide +kernel
theorem dX4_fitsAt_100 : decode cX4_fitsAt 100 = .ok (.iload_n 2, 1) := by decide +kernel
theorem dX4_fitsAt_101 : decode cX4_fitsAt 101 = .ok (.invokestatic 31, 3) := by decide +kernel
theorem dX4_fitsAt_104 : decode cX4_fitsAt 104 = .ok (.ifCond .eq 7, 3) := by decide +kernel
theorem dX4_fitsAt_107 : decode cX4_fitsAt 107 = .ok (.iconst 1, 1) := by decide +kernel
theorem dX4_fitsAt_108 : decode cX4_fitsAt 108 = .ok (.goto 4, 3) := by decide +kernel
theorem dX4_fitsAt_111 : decode cX4_fitsAt 111 = .ok (.iconst 0, 1) := by decide +kernel
theorem dX4_fitsAt_112 : decode cX4_fitsAt 112 = .ok (.ireturn, 1) := by decide +kernel
theorem dX4_fitsAt_113 : decode cX4_fitsAt 113 = .ok (.iload_n 2, 1) := by decide +kernel
theorem dX4_fitsAt_114 : decode cX4_fitsAt 114 = .ok (.bipush 59, 2) := by decide +kernel
theorem dX4_fitsAt_116 : decode cX4_fitsAt 116 = .ok (.if_icmp .ne 7, 3) := by decide +kernel
theorem dX4_fitsAt_119 : decode cX4_fitsAt 119 = .ok (.iconst 1, 1) := by decide +kernel
theorem dX4_fitsAt_120 : decode cX4_fitsAt 120 = .ok (.goto 4, 3) := by decide +kernel
theorem dX4_fitsAt_123 : decode cX4_fitsAt 123 = .ok (.iconst 0, 1) := by decide +kernel
theorem dX4_fitsAt_124 : decode cX4_fitsAt 124 = .ok (.ireturn, 1) := by decide +kernel
theorem dX4_isFloor_0 : decode cX4_isFloor 0 = .ok (.iload_n 0, 1) := by decide +kernel
theorem dX4_isFloor_1 : decode cX4_isFloor 1 = .ok (.bipush 48, 2) := by decide +kernel
theorem dX4_isFloor_3 : decode cX4_isFloor 3 = .ok (.if_icmp .lt 13, 3) := by decide +kernel
theorem dX4_isFloor_6 : decode cX4_isFloor 6 = .ok (.iload_n 0, 1) := by decide +kernel
theorem dX4_isFloor_7 : decode cX4_isFloor 7 = .ok (.bipush 55, 2) := by decide +kernel
theorem dX4_isFloor_9 : decode cX4_isFloor 9 = .ok (.if_icmp .gt 7, 3) := by decide +kernel
theorem dX4_isFloor_12 : decode cX4_isFloor 12 = .ok (.iconst 1, 1) := by decide +kernel
theorem dX4_isFloor_13 : decode cX4_isFloor 13 = .ok (.goto 4, 3) := by decide +kernel
theorem dX4_isFloor_16 : decode cX4_isFloor 16 = .ok (.iconst 0, 1) := by decide +kernel
theorem dX4_isFloor_17 : decode cX4_isFloor 17 = .ok (.ireturn, 1) := by decide +kernel
theorem dX4_fitsSign_0 : decode cX4_fitsSign 0 = .ok (.iload_n 1, 1) := by decide +kernel
theorem dX4_fitsSign_1 : decode cX4_fitsSign 1 = .ok (.bipush 62, 2) := by decide +kernel
theorem dX4_fitsSign_3 : decode cX4_fitsSign 3 = .ok (.if_icmp .ne 16, 3) := by decide +kernel
theorem dX4_fitsSign_6 : decode cX4_fitsSign 6 = .ok (.iload_n 2, 1) := by decide +kernel
theorem dX4_fitsSign_7 : decode cX4_fitsSign 7 = .ok (.iload_n 0, 1) := by decide +kernel
theorem dX4_fitsSign_8 : decode cX4_fitsSign 8 = .ok (.if_icmp .le 7, 3) := by decide +kernel
theorem dX4_fitsSign_11 : decode cX4_fitsSign 11 = .ok (.iconst 1, 1) := by decide +kernel
theorem dX4_fitsSign_12 : decode cX4_fitsSign 12 = .ok (.goto 17, 3) := by decide +kernel
theorem dX4_fitsSign_15 : decode cX4_fitsSign 15 = .ok (.iconst 0, 1) := by decide +kernel
theorem dX4_fitsSign_16 : decode cX4_fitsSign 16 = .ok (.goto 13, 3) := by decide +kernel
theorem dX4_fitsSign_19 : decode cX4_fitsSign 19 = .ok (.iload_n 2, 1) := by decide +kernel
theorem dX4_fitsSign_20 : decode cX4_fitsSign 20 = .ok (.iload_n 0, 1) := by decide +kernel
theorem dX4_fitsSign_21 : decode cX4_fitsSign 21 = .ok (.if_icmp .ge 7, 3) := by decide +kernel
theorem dX4_fitsSign_24 : decode cX4_fitsSign 24 = .ok (.iconst 1, 1) := by decide +kernel
theorem dX4_fitsSign_25 : decode cX4_fitsSign 25 = .ok (.goto 4, 3) := by decide +kernel
theorem dX4_fitsSign_28 : decode cX4_fitsSign 28 = .ok (.iconst 0, 1) := by decide +kernel
theorem dX4_fitsSign_29 : decode cX4_fitsSign 29 = .ok (.ireturn, 1) := by decide +kernel
theorem dX4_isComplete_0 : decode cX4_isComplete 0 = .ok (.aload_n 0, 1) := by decide +kernel
theorem dX4_isComplete_1 : decode cX4_isComplete 1 = .ok (.getfield 15, 3) := by decide +kernel
theorem dX4_isComplete_4 : decode cX4_isComplete 4 = .ok (.iconst 4, 1) := by decide +kernel
theorem dX4_isComplete_5 : decode cX4_isComplete 5 = .ok (.irem, 1) := by decide +kernel
theorem dX4_isComplete_6 : decode cX4_isComplete 6 = .ok (.iconst 3, 1) := by decide +kernel
theorem dX4_isComplete_7 : decode cX4_isComplete 7 = .ok (.if_icmp .ne 18, 3) := by decide +kernel
theorem dX4_isComplete_10 : decode cX4_isComplete 10 = .ok (.aload_n 0, 1) := by decide +kernel
theorem dX4_isComplete_11 : decode cX4_isComplete 11 = .ok (.invokevirtual 35, 3) := by decide +kernel
theorem dX4_isComplete_14 : decode cX4_isComplete 14 = .ok (.aload_n 0, 1) := by decide +kernel
theorem dX4_isComplete_15 : decode cX4_isComplete 15 = .ok (.getfield 15, 3) := by decide +kernel
theorem dX4_isComplete_18 : decode cX4_isComplete 18 = .ok (.if_icmp .ne 7, 3) := by decide +kernel
theorem dX4_isComplete_21 : decode cX4_isComplete 21 = .ok (.iconst 1, 1) := by decide +kernel
theorem dX4_isComplete_22 : decode cX4_isComplete 22 = .ok (.goto 4, 3) := by decide +kernel
theorem dX4_isComplete_25 : decode cX4_isComplete 25 = .ok (.iconst 0, 1) := by decide +kernel
theorem dX4_isComplete_26 : decode cX4_isComplete 26 = .ok (.ireturn, 1) := by decide +kernel
theorem dX4_parts_0 : decode cX4_parts 0 = .ok (.aload_n 0, 1) := by decide +kernel
theorem dX4_parts_1 : decode cX4_parts 1 = .ok (.getfield 15, 3) := by decide +kernel
theorem dX4_parts_4 : decode cX4_parts 4 = .ok (.iconst 1, 1) := by decide +kernel
theorem dX4_parts_5 : decode cX4_parts 5 = .ok (.iadd, 1) := by decide +kernel
theorem dX4_parts_6 : decode cX4_parts 6 = .ok (.iconst 4, 1) := by decide +kernel
theorem dX4_parts_7 : decode cX4_parts 7 = .ok (.idiv, 1) := by decide +kernel
theorem dX4_parts_8 : decode cX4_parts 8 = .ok (.ireturn, 1) := by decide +kernel
theorem dX4_startOf_0 : decode cX4_startOf 0 = .ok (.aload_n 0, 1) := by decide +kernel
theorem dX4_startOf_1 : decode cX4_startOf 1 = .ok (.iload_n 1, 1) := by decide +kernel
theorem dX4_startOf_2 : decode cX4_startOf 2 = .ok (.iconst 4, 1) := by decide +kernel
theorem dX4_startOf_3 : decode cX4_startOf 3 = .ok (.imul, 1) := by decide +kernel
theorem dX4_startOf_4 : decode cX4_startOf 4 = .ok (.invokevirtual 23, 3) := by decide +kernel
theorem dX4_startOf_7 : decode cX4_startOf 7 = .ok (.bipush 48, 2) := by decide +kernel
theorem dX4_startOf_9 : decode cX4_startOf 9 = .ok (.isub, 1) := by decide +kernel
theorem dX4_startOf_10 : decode cX4_startOf 10 = .ok (.ireturn, 1) := by decide +kernel
theorem dX4_goalOf_0 : decode cX4_goalOf 0 = .ok (.aload_n 0, 1) := by decide +kernel
theorem dX4_goalOf_1 : decode cX4_goalOf 1 = .ok (.iload_n 1, 1) := by decide +kernel
theorem dX4_goalOf_2 : decode cX4_goalOf 2 = .ok (.iconst 4, 1) := by decide +kernel
theorem dX4_goalOf_3 : decode cX4_goalOf 3 = .ok (.imul, 1) := by decide +kernel
theorem dX4_goalOf_4 : decode cX4_goalOf 4 = .ok (.iconst 2, 1) := by decide +kernel
theorem dX4_goalOf_5 : decode cX4_goalOf 5 = .ok (.iadd, 1) := by decide +kernel
theorem dX4_goalOf_6 : decode cX4_goalOf 6 = .ok (.invokevirtual 23, 3) := by decide +kernel
theorem dX4_goalOf_9 : decode cX4_goalOf 9 = .ok (.bipush 48, 2) := by decide +kernel
theorem dX4_goalOf_11 : decode cX4_goalOf 11 = .ok (.isub, 1) := by decide +kernel
theorem dX4_goalOf_12 : decode cX4_goalOf 12 = .ok (.ireturn, 1) := by decide +kernel
theorem dX5_init_0 : decode cX5_init 0 = .ok (.aload_n 0, 1) := by decide +kernel
theorem dX5_init_1 : decode cX5_init 1 = .ok (.invokespecial 1, 3) := by decide +kernel
theorem dX5_init_4 : decode cX5_init 4 = .ok (.aload_n 0, 1) := by decide +kernel
theorem dX5_init_5 : decode cX5_init 5 = .ok (.new 7, 3) := by decide +kernel
theorem dX5_init_8 : decode cX5_init 8 = .ok (.dup, 1) := by decide +kernel
theorem dX5_init_9 : decode cX5_init 9 = .ok (.invokespecial 9, 3) := by decide +kernel
theorem dX5_init_12 : decode cX5_init 12 = .ok (.putfield 10, 3) := by decide +kernel
theorem dX5_init_15 : decode cX5_init 15 = .ok (.aload_n 0, 1) := by decide +kernel
theorem dX5_init_16 : decode cX5_init 16 = .ok (.new 7, 3) := by decide +kernel
theorem dX5_init_19 : decode cX5_init 19 = .ok (.dup, 1) := by decide +kernel
theorem dX5_init_20 : decode cX5_init 20 = .ok (.invokespecial 9, 3) := by decide +kernel
theorem dX5_init_23 : decode cX5_init 23 = .ok (.putfield 16, 3) := by decide +kernel
theorem dX5_init_26 : decode cX5_init 26 = .ok (.aload_n 0, 1) := by decide +kernel
theorem dX5_init_27 : decode cX5_init 27 = .ok (.new 19, 3) := by decide +kernel
theorem dX5_init_30 : decode cX5_init 30 = .ok (.dup, 1) := by decide +kernel
theorem dX5_init_31 : decode cX5_init 31 = .ok (.invokespecial 21, 3) := by decide +kernel
theorem dX5_init_34 : decode cX5_init 34 = .ok (.putfield 22, 3) := by decide +kernel
theorem dX5_init_37 : decode cX5_init 37 = .ok (.aload_n 0, 1) := by decide +kernel
theorem dX5_init_38 : decode cX5_init 38 = .ok (.new 26, 3) := by decide +kernel
theorem dX5_init_41 : decode cX5_init 41 = .ok (.dup, 1) := by decide +kernel
theorem dX5_init_42 : decode cX5_init 42 = .ok (.invokespecial 28, 3) := by decide +kernel
theorem dX5_init_45 : decode cX5_init 45 = .ok (.putfield 29, 3) := by decide +kernel
theorem dX5_init_48 : decode cX5_init 48 = .ok (.return_, 1) := by decide +kernel
theorem dX5_come_0 : decode cX5_come 0 = .ok (.iload_n 1, 1) := by decide +kernel
theorem dX5_come_1 : decode cX5_come 1 = .ok (.iload_n 2, 1) := by decide +kernel
theorem dX5_come_2 : decode cX5_come 2 = .ok (.invokestatic 33, 3) := by decide +kernel
theorem dX5_come_5 : decode cX5_come 5 = .ok (.aload_n 0, 1) := by decide +kernel
theorem dX5_come_6 : decode cX5_come 6 = .ok (.getfield 10, 3) := by decide +kernel
theorem dX5_come_9 : decode cX5_come 9 = .ok (.getfield 37, 3) := by decide +kernel
theorem dX5_come_12 : decode cX5_come 12 = .ok (.getfield 41, 3) := by decide +kernel
theorem dX5_come_15 : decode cX5_come 15 = .ok (.bipush 6, 2) := by decide +kernel
theorem dX5_come_17 : decode cX5_come 17 = .ok (.if_icmp .lt 13, 3) := by decide +kernel
theorem dX5_come_20 : decode cX5_come 20 = .ok (.new 47, 3) := by decide +kernel
theorem dX5_come_23 : decode cX5_come 23 = .ok (.dup, 1) := by decide +kernel
theorem dX5_come_24 : decode cX5_come 24 = .ok (.ldc 49, 2) := by decide +kernel
theorem dX5_come_26 : decode cX5_come 26 = .ok (.invokespecial 51, 3) := by decide +kernel
theorem dX5_come_29 : decode cX5_come 29 = .ok (.athrow, 1) := by decide +kernel
theorem dX5_come_30 : decode cX5_come 30 = .ok (.aload_n 0, 1) := by decide +kernel
theorem dX5_come_31 : decode cX5_come 31 = .ok (.getfield 22, 3) := by decide +kernel
theorem dX5_come_34 : decode cX5_come 34 = .ok (.aload_n 0, 1) := by decide +kernel
theorem dX5_come_35 : decode cX5_come 35 = .ok (.getfield 10, 3) := by decide +kernel
theorem dX5_come_38 : decode cX5_come 38 = .ok (.invokevirtual 54, 3) := by decide +kernel
theorem dX5_come_41 : decode cX5_come 41 = .ok (.aload_n 0, 1) := by decide +kernel
theorem dX5_come_42 : decode cX5_come 42 = .ok (.getfield 10, 3) := by decide +kernel
theorem dX5_come_45 : decode cX5_come 45 = .ok (.iload_n 1, 1) := by decide +kernel
theorem dX5_come_46 : decode cX5_come 46 = .ok (.iload_n 2, 1) := by decide +kernel
theorem dX5_come_47 : decode cX5_come 47 = .ok (.invokevirtual 58, 3) := by decide +kernel
theorem dX5_come_50 : decode cX5_come 50 = .ok (.ireturn, 1) := by decide +kernel
theorem dX5_turn_0 : decode cX5_turn 0 = .ok (.aload_n 0, 1) := by decide +kernel
theorem dX5_turn_1 : decode cX5_turn 1 = .ok (.getfield 10, 3) := by decide +kernel
theorem dX5_turn_4 : decode cX5_turn 4 = .ok (.getfield 37, 3) := by decide +kernel
theorem dX5_turn_7 : decode cX5_turn 7 = .ok (.iload_n 1, 1) := by decide +kernel
theorem dX5_turn_8 : decode cX5_turn 8 = .ok (.invokevirtual 62, 3) := by decide +kernel
theorem dX5_turn_11 : decode cX5_turn 11 = .ok (.istore_n 3, 1) := by decide +kernel
theorem dX5_turn_12 : decode cX5_turn 12 = .ok (.iload_n 3, 1) := by decide +kernel
theorem dX5_turn_13 : decode cX5_turn 13 = .ok (.iconst (-1), 1) := by decide +kernel
theorem dX5_turn_14 : decode cX5_turn 14 = .ok (.if_icmp .ne 13, 3) := by decide +kernel
theorem dX5_turn_17 : decode cX5_turn 17 = .ok (.new 66, 3) := by decide +kernel
theorem dX5_turn_20 : decode cX5_turn 20 = .ok (.dup, 1) := by decide +kernel
theorem dX5_turn_21 : decode cX5_turn 21 = .ok (.ldc 68, 2) := by decide +kernel
theorem dX5_turn_23 : decode cX5_turn 23 = .ok (.invokespecial 70, 3) := by decide +kernel
theorem dX5_turn_26 : decode cX5_turn 26 = .ok (.athrow, 1) := by decide +kernel
theorem dX5_turn_27 : decode cX5_turn 27 = .ok (.iload_n 2, 1) := by decide +kernel
theorem dX5_turn_28 : decode cX5_turn 28 = .ok (.invokestatic 71, 3) := by decide +kernel
theorem dX5_turn_31 : decode cX5_turn 31 = .ok (.aload_n 0, 1) := by decide +kernel
theorem dX5_turn_32 : decode cX5_turn 32 = .ok (.getfield 22, 3) := by decide +kernel
theorem dX5_turn_35 : decode cX5_turn 35 = .ok (.aload_n 0, 1) := by decide +kernel
theorem dX5_turn_36 : decode cX5_turn 36 = .ok (.getfield 10, 3) := by decide +kernel
theorem dX5_turn_39 : decode cX5_turn 39 = .ok (.invokevirtual 54, 3) := by decide +kernel
theorem dX5_turn_42 : decode cX5_turn 42 = .ok (.aload_n 0, 1) := by decide +kernel
theorem dX5_turn_43 : decode cX5_turn 43 = .ok (.getfield 10, 3) := by decide +kernel
theorem dX5_turn_46 : decode cX5_turn 46 = .ok (.getfield 37, 3) := by decide +kernel
theorem dX5_turn_49 : decode cX5_turn 49 = .ok (.getfield 75, 3) := by decide +kernel
theorem dX5_turn_52 : decode cX5_turn 52 = .ok (.iload_n 3, 1) := by decide +kernel
theorem dX5_turn_53 : decode cX5_turn 53 = .ok (.invokestatic 79, 3) := by decide +kernel
theorem dX5_turn_56 : decode cX5_turn 56 = .ok (.istore 4, 2) := by decide +kernel
theorem dX5_turn_58 : decode cX5_turn 58 = .ok (.aload_n 0, 1) := by decide +kernel
theorem dX5_turn_59 : decode cX5_turn 59 = .ok (.getfield 10, 3) := by decide +kernel
theorem dX5_turn_62 : decode cX5_turn 62 = .ok (.getfield 37, 3) := by decide +kernel
theorem dX5_turn_65 : decode cX5_turn 65 = .ok (.iload_n 3, 1) := by decide +kernel
theorem dX5_turn_66 : decode cX5_turn 66 = .ok (.iload_n 2, 1) := by decide +kernel
theorem dX5_turn_67 : decode cX5_turn 67 = .ok (.aload_n 0, 1) := by decide +kernel
theorem dX5_turn_68 : decode cX5_turn 68 = .ok (.getfield 10, 3) := by decide +kernel
theorem dX5_turn_71 : decode cX5_turn 71 = .ok (.getfield 83, 3) := by decide +kernel
theorem dX5_turn_74 : decode cX5_turn 74 = .ok (.iconst 3, 1) := by decide +kernel
theorem dX5_turn_75 : decode cX5_turn 75 = .ok (.invokestatic 79, 3) := by decide +kernel
theorem dX5_turn_78 : decode cX5_turn 78 = .ok (.invokevirtual 86, 3) := by decide +kernel
theorem dX5_turn_81 : decode cX5_turn 81 = .ok (.iload 4, 2) := by decide +kernel
theorem dX5_turn_83 : decode cX5_turn 83 = .ok (.ireturn, 1) := by decide +kernel
theorem dX5_press_0 : decode cX5_press 0 = .ok (.iload_n 1, 1) := by decide +kernel
theorem dX5_press_1 : decode cX5_press 1 = .ok (.invokestatic 71, 3) := by decide +kernel
theorem dX5_press_4 : decode cX5_press 4 = .ok (.aload_n 0, 1) := by decide +kernel
theorem dX5_press_5 : decode cX5_press 5 = .ok (.getfield 22, 3) := by decide +kernel
theorem dX5_press_8 : decode cX5_press 8 = .ok (.aload_n 0, 1) := by decide +kernel
theorem dX5_press_9 : decode cX5_press 9 = .ok (.getfield 10, 3) := by decide +kernel
theorem dX5_press_12 : decode cX5_press 12 = .ok (.invokevirtual 54, 3) := by decide +kernel
theorem dX5_press_15 : decode cX5_press 15 = .ok (.aload_n 0, 1) := by decide +kernel
theorem dX5_press_16 : decode cX5_press 16 = .ok (.getfield 10, 3) := by decide +kernel
theorem dX5_press_19 : decode cX5_press 19 = .ok (.getfield 90, 3) := by decide +kernel
theorem dX5_press_22 : decode cX5_press 22 = .ok (.getfield 94, 3) := by decide +kernel
theorem dX5_press_25 : decode cX5_press 25 = .ok (.iload_n 1, 1) := by decide +kernel
theorem dX5_press_26 : decode cX5_press 26 = .ok (.invokestatic 79, 3) := by decide +kernel
theorem dX5_press_29 : decode cX5_press 29 = .ok (.istore_n 2, 1) := by decide +kernel
theorem dX5_press_30 : decode cX5_press 30 = .ok (.aload_n 0, 1) := by decide +kernel
theorem dX5_press_31 : decode cX5_press 31 = .ok (.getfield 10, 3) := by decide +kernel
theorem dX5_press_34 : decode cX5_press 34 = .ok (.iload_n 1, 1) := by decide +kernel
theorem dX5_press_35 : decode cX5_press 35 = .ok (.invokevirtual 99, 3) := by decide +kernel
theorem dX5_press_38 : decode cX5_press 38 = .ok (.iload_n 2, 1) := by decide +kernel
theorem dX5_press_39 : decode cX5_press 39 = .ok (.ireturn, 1) := by decide +kernel
theorem dX5_sensor_0 : decode cX5_sensor 0 = .ok (.iload_n 1, 1) := by decide +kernel
theorem dX5_sensor_1 : decode cX5_sensor 1 = .ok (.invokestatic 71, 3) := by decide +kernel
theorem dX5_sensor_4 : decode cX5_sensor 4 = .ok (.aload_n 0, 1) := by decide +kernel
theorem dX5_sensor_5 : decode cX5_sensor 5 = .ok (.getfield 22, 3) := by decide +kernel
theorem dX5_sensor_8 : decode cX5_sensor 8 = .ok (.aload_n 0, 1) := by decide +kernel
theorem dX5_sensor_9 : decode cX5_sensor 9 = .ok (.getfield 10, 3) := by decide +kernel
theorem dX5_sensor_12 : decode cX5_sensor 12 = .ok (.invokevirtual 54, 3) := by decide +kernel
theorem dX5_sensor_15 : decode cX5_sensor 15 = .ok (.aload_n 0, 1) := by decide +kernel
theorem dX5_sensor_16 : decode cX5_sensor 16 = .ok (.getfield 10, 3) := by decide +kernel
theorem dX5_sensor_19 : decode cX5_sensor 19 = .ok (.getfield 90, 3) := by decide +kernel
theorem dX5_sensor_22 : decode cX5_sensor 22 = .ok (.getfield 102, 3) := by decide +kernel
theorem dX5_sensor_25 : decode cX5_sensor 25 = .ok (.iload_n 1, 1) := by decide +kernel
theorem dX5_sensor_26 : decode cX5_sensor 26 = .ok (.invokestatic 79, 3) := by decide +kernel
theorem dX5_sensor_29 : decode cX5_sensor 29 = .ok (.istore_n 3, 1) := by decide +kernel
theorem dX5_sensor_30 : decode cX5_sensor 30 = .ok (.aload_n 0, 1) := by decide +kernel
theorem dX5_sensor_31 : decode cX5_sensor 31 = .ok (.getfield 10, 3) := by decide +kernel
theorem dX5_sensor_34 : decode cX5_sensor 34 = .ok (.getfield 90, 3) := by decide +kernel
theorem dX5_sensor_37 : decode cX5_sensor 37 = .ok (.getfield 102, 3) := by decide +kernel
theorem dX5_sensor_40 : decode cX5_sensor 40 = .ok (.iload_n 1, 1) := by decide +kernel
theorem dX5_sensor_41 : decode cX5_sensor 41 = .ok (.iload_n 2, 1) := by decide +kernel
theorem dX5_sensor_42 : decode cX5_sensor 42 = .ok (.invokestatic 105, 3) := by decide +kernel
theorem dX5_sensor_45 : decode cX5_sensor 45 = .ok (.invokestatic 109, 3) := by decide +kernel
theorem dX5_sensor_48 : decode cX5_sensor 48 = .ok (.iload_n 3, 1) := by decide +kernel
theorem dX5_sensor_49 : decode cX5_sensor 49 = .ok (.ireturn, 1) := by decide +kernel
theorem dX5_night_0 : decode cX5_night 0 = .ok (.aload_n 0, 1) := by decide +kernel
theorem dX5_night_1 : decode cX5_night 1 = .ok (.getfield 22, 3) := by decide +kernel
theorem dX5_night_4 : decode cX5_night 4 = .ok (.aload_n 0, 1) := by decide +kernel
theorem dX5_night_5 : decode cX5_night 5 = .ok (.getfield 10, 3) := by decide +kernel
theorem dX5_night_8 : decode cX5_night 8 = .ok (.invokevirtual 54, 3) := by decide +kernel
theorem dX5_night_11 : decode cX5_night 11 = .ok (.aload_n 0, 1) := by decide +kernel
theorem dX5_night_12 : decode cX5_night 12 = .ok (.getfield 10, 3) := by decide +kernel
theorem dX5_night_15 : decode cX5_night 15 = .ok (.getfield 113, 3) := by decide +kernel
theorem dX5_night_18 : decode cX5_night 18 = .ok (.invokestatic 105, 3) := by decide +kernel
theorem dX5_night_21 : decode cX5_night 21 = .ok (.istore_n 2, 1) := by decide +kernel
theorem dX5_night_22 : decode cX5_night 22 = .ok (.aload_n 0, 1) := by decide +kernel
theorem dX5_night_23 : decode cX5_night 23 = .ok (.getfield 10, 3) := by decide +kernel
theorem dX5_night_26 : decode cX5_night 26 = .ok (.iload_n 1, 1) := by decide +kernel
theorem dX5_night_27 : decode cX5_night 27 = .ok (.putfield 113, 3) := by decide +kernel
theorem dX5_night_30 : decode cX5_night 30 = .ok (.iload_n 2, 1) := by decide +kernel
theorem dX5_night_31 : decode cX5_night 31 = .ok (.ireturn, 1) := by decide +kernel
theorem dX5_fire_0 : decode cX5_fire 0 = .ok (.aload_n 0, 1) := by decide +kernel
theorem dX5_fire_1 : decode cX5_fire 1 = .ok (.getfield 22, 3) := by decide +kernel
theorem dX5_fire_4 : decode cX5_fire 4 = .ok (.aload_n 0, 1) := by decide +kernel
theorem dX5_fire_5 : decode cX5_fire 5 = .ok (.getfield 10, 3) := by decide +kernel
theorem dX5_fire_8 : decode cX5_fire 8 = .ok (.invokevirtual 54, 3) := by decide +kernel
theorem dX5_fire_11 : decode cX5_fire 11 = .ok (.aload_n 0, 1) := by decide +kernel
theorem dX5_fire_12 : decode cX5_fire 12 = .ok (.getfield 10, 3) := by decide +kernel
theorem dX5_fire_15 : decode cX5_fire 15 = .ok (.getfield 117, 3) := by decide +kernel
theorem dX5_fire_18 : decode cX5_fire 18 = .ok (.invokestatic 105, 3) := by decide +kernel
theorem dX5_fire_21 : decode cX5_fire 21 = .ok (.istore_n 2, 1) := by decide +kernel
theorem dX5_fire_22 : decode cX5_fire 22 = .ok (.aload_n 0, 1) := by decide +kernel
theorem dX5_fire_23 : decode cX5_fire 23 = .ok (.getfield 10, 3) := by decide +kernel
theorem dX5_fire_26 : decode cX5_fire 26 = .ok (.getfield 117, 3) := by decide +kernel
theorem dX5_fire_29 : decode cX5_fire 29 = .ok (.ifCond .eq 14, 3) := by decide +kernel
theorem dX5_fire_32 : decode cX5_fire 32 = .ok (.iload_n 1, 1) := by decide +kernel
theorem dX5_fire_33 : decode cX5_fire 33 = .ok (.ifCond .ne 10, 3) := by decide +kernel
theorem dX5_fire_36 : decode cX5_fire 36 = .ok (.aload_n 0, 1) := by decide +kernel
theorem dX5_fire_37 : decode cX5_fire 37 = .ok (.getfield 10, 3) := by decide +kernel
theorem dX5_fire_40 : decode cX5_fire 40 = .ok (.invokevirtual 120, 3) := by decide +kernel
theorem dX5_fire_43 : decode cX5_fire 43 = .ok (.aload_n 0, 1) := by decide +kernel
theorem dX5_fire_44 : decode cX5_fire 44 = .ok (.getfield 10, 3) := by decide +kernel
theorem dX5_fire_47 : decode cX5_fire 47 = .ok (.iload_n 1, 1) := by decide +kernel
theorem dX5_fire_48 : decode cX5_fire 48 = .ok (.putfield 117, 3) := by decide +kernel
theorem dX5_fire_51 : decode cX5_fire 51 = .ok (.iload_n 2, 1) := by decide +kernel
theorem dX5_fire_52 : decode cX5_fire 52 = .ok (.ireturn, 1) := by decide +kernel
theorem dX5_set_0 : decode cX5_set 0 = .ok (.iload_n 1, 1) := by decide +kernel
theorem dX5_set_1 : decode cX5_set 1 = .ok (.invokestatic 123, 3) := by decide +kernel
theorem dX5_set_4 : decode cX5_set 4 = .ok (.iload_n 2, 1) := by decide +kernel
theorem dX5_set_5 : decode cX5_set 5 = .ok (.getstatic 126, 3) := by decide +kernel
theorem dX5_set_8 : decode cX5_set 8 = .ok (.iload_n 1, 1) := by decide +kernel
theorem dX5_set_9 : decode cX5_set 9 = .ok (.invokestatic 79, 3) := by decide +kernel
theorem dX5_set_12 : decode cX5_set 12 = .ok (.if_icmp .lt 14, 3) := by decide +kernel
theorem dX5_set_15 : decode cX5_set 15 = .ok (.iload_n 2, 1) := by decide +kernel
theorem dX5_set_16 : decode cX5_set 16 = .ok (.getstatic 129, 3) := by decide +kernel
theorem dX5_set_19 : decode cX5_set 19 = .ok (.iload_n 1, 1) := by decide +kernel
theorem dX5_set_20 : decode cX5_set 20 = .ok (.invokestatic 79, 3) := by decide +kernel
theorem dX5_set_23 : decode cX5_set 23 = .ok (.if_icmp .le 13, 3) := by decide +kernel
theorem dX5_set_26 : decode cX5_set 26 = .ok (.new 132, 3) := by decide +kernel
theorem dX5_set_29 : decode cX5_set 29 = .ok (.dup, 1) := by decide +kernel
theorem dX5_set_30 : decode cX5_set 30 = .ok (.ldc 134, 2) := by decide +kernel
theorem dX5_set_32 : decode cX5_set 32 = .ok (.invokespecial 136, 3) := by decide +kernel
theorem dX5_set_35 : decode cX5_set 35 = .ok (.athrow, 1) := by decide +kernel
theorem dX5_set_36 : decode cX5_set 36 = .ok (.aload_n 0, 1) := by decide +kernel
theorem dX5_set_37 : decode cX5_set 37 = .ok (.getfield 22, 3) := by decide +kernel
theorem dX5_set_40 : decode cX5_set 40 = .ok (.aload_n 0, 1) := by decide +kernel
theorem dX5_set_41 : decode cX5_set 41 = .ok (.getfield 10, 3) := by decide +kernel
theorem dX5_set_44 : decode cX5_set 44 = .ok (.invokevirtual 54, 3) := by decide +kernel
theorem dX5_set_47 : decode cX5_set 47 = .ok (.aload_n 0, 1) := by decide +kernel
theorem dX5_set_48 : decode cX5_set 48 = .ok (.getfield 10, 3) := by decide +kernel
theorem dX5_set_51 : decode cX5_set 51 = .ok (.getfield 83, 3) := by decide +kernel
theorem dX5_set_54 : decode cX5_set 54 = .ok (.iload_n 1, 1) := by decide +kernel
theorem dX5_set_55 : decode cX5_set 55 = .ok (.invokestatic 79, 3) := by decide +kernel
theorem dX5_set_58 : decode cX5_set 58 = .ok (.istore_n 3, 1) := by decide +kernel
theorem dX5_set_59 : decode cX5_set 59 = .ok (.aload_n 0, 1) := by decide +kernel
theorem dX5_set_60 : decode cX5_set 60 = .ok (.getfield 10, 3) := by decide +kernel
theorem dX5_set_63 : decode cX5_set 63 = .ok (.getfield 83, 3) := by decide +kernel
theorem dX5_set_66 : decode cX5_set 66 = .ok (.iload_n 1, 1) := by decide +kernel
theorem dX5_set_67 : decode cX5_set 67 = .ok (.iload_n 2, 1) := by decide +kernel
theorem dX5_set_68 : decode cX5_set 68 = .ok (.invokestatic 109, 3) := by decide +kernel
theorem dX5_set_71 : decode cX5_set 71 = .ok (.iload_n 3, 1) := by decide +kernel
theorem dX5_set_72 : decode cX5_set 72 = .ok (.ireturn, 1) := by decide +kernel
theorem dX5_pass_0 : decode cX5_pass 0 = .ok (.iload_n 1, 1) := by decide +kernel
theorem dX5_pass_1 : decode cX5_pass 1 = .ok (.invokestatic 137, 3) := by decide +kernel
theorem dX5_pass_4 : decode cX5_pass 4 = .ok (.aload_n 0, 1) := by decide +kernel
theorem dX5_pass_5 : decode cX5_pass 5 = .ok (.getfield 22, 3) := by decide +kernel
theorem dX5_pass_8 : decode cX5_pass 8 = .ok (.aload_n 0, 1) := by decide +kernel
theorem dX5_pass_9 : decode cX5_pass 9 = .ok (.getfield 10, 3) := by decide +kernel
theorem dX5_pass_12 : decode cX5_pass 12 = .ok (.invokevirtual 54, 3) := by decide +kernel
theorem dX5_pass_15 : decode cX5_pass 15 = .ok (.aload_n 0, 1) := by decide +kernel
theorem dX5_pass_16 : decode cX5_pass 16 = .ok (.getfield 10, 3) := by decide +kernel
theorem dX5_pass_19 : decode cX5_pass 19 = .ok (.iload_n 1, 1) := by decide +kernel
theorem dX5_pass_20 : decode cX5_pass 20 = .ok (.invokevirtual 140, 3) := by decide +kernel
theorem dX5_pass_23 : decode cX5_pass 23 = .ok (.ireturn, 1) := by decide +kernel
theorem dX5_append_0 : decode cX5_append 0 = .ok (.iload_n 1, 1) := by decide +kernel
theorem dX5_append_1 : decode cX5_append 1 = .ok (.bipush 33, 2) := by decide +kernel
theorem dX5_append_3 : decode cX5_append 3 = .ok (.if_icmp .lt 9, 3) := by decide +kernel
theorem dX5_append_6 : decode cX5_append 6 = .ok (.iload_n 1, 1) := by decide +kernel
theorem dX5_append_7 : decode cX5_append 7 = .ok (.bipush 126, 2) := by decide +kernel
theorem dX5_append_9 : decode cX5_append 9 = .ok (.if_icmp .le 13, 3) := by decide +kernel
theorem dX5_append_12 : decode cX5_append 12 = .ok (.new 132, 3) := by decide +kernel
theorem dX5_append_15 : decode cX5_append 15 = .ok (.dup, 1) := by decide +kernel
theorem dX5_append_16 : decode cX5_append 16 = .ok (.ldc 143, 2) := by decide +kernel
theorem dX5_append_18 : decode cX5_append 18 = .ok (.invokespecial 136, 3) := by decide +kernel
theorem dX5_append_21 : decode cX5_append 21 = .ok (.athrow, 1) := by decide +kernel
theorem dX5_append_22 : decode cX5_append 22 = .ok (.aload_n 0, 1) := by decide +kernel
theorem dX5_append_23 : decode cX5_append 23 = .ok (.getfield 29, 3) := by decide +kernel
theorem dX5_append_26 : decode cX5_append 26 = .ok (.getfield 145, 3) := by decide +kernel
theorem dX5_append_29 : decode cX5_append 29 = .ok (.bipush 60, 2) := by decide +kernel
theorem dX5_append_31 : decode cX5_append 31 = .ok (.if_icmp .lt 13, 3) := by decide +kernel
theorem dX5_append_34 : decode cX5_append 34 = .ok (.new 47, 3) := by decide +kernel
theorem dX5_append_37 : decode cX5_append 37 = .ok (.dup, 1) := by decide +kernel
theorem dX5_append_38 : decode cX5_append 38 = .ok (.ldc 148, 2) := by decide +kernel
theorem dX5_append_40 : decode cX5_append 40 = .ok (.invokespecial 51, 3) := by decide +kernel
theorem dX5_append_43 : decode cX5_append 43 = .ok (.athrow, 1) := by decide +kernel
theorem dX5_append_44 : decode cX5_append 44 = .ok (.aload_n 0, 1) := by decide +kernel
theorem dX5_append_45 : decode cX5_append 45 = .ok (.getfield 29, 3) := by decide +kernel
theorem dX5_append_48 : decode cX5_append 48 = .ok (.iload_n 1, 1) := by decide +kernel
theorem dX5_append_49 : decode cX5_append 49 = .ok (.i2c, 1) := by decide +kernel
theorem dX5_append_50 : decode cX5_append 50 = .ok (.invokevirtual 150, 3) := by decide +kernel
theorem dX5_append_53 : decode cX5_append 53 = .ok (.ireturn, 1) := by decide +kernel
theorem dX5_clearBuffer_0 : decode cX5_clearBuffer 0 = .ok (.aload_n 0, 1) := by decide +kernel
theorem dX5_clearBuffer_1 : decode cX5_clearBuffer 1 = .ok (.getfield 29, 3) := by decide +kernel
theorem dX5_clearBuffer_4 : decode cX5_clearBuffer 4 = .ok (.invokevirtual 154, 3) := by decide +kernel
theorem dX5_clearBuffer_7 : decode cX5_clearBuffer 7 = .ok (.ireturn, 1) := by decide +kernel
theorem dX5_firstError_0 : decode cX5_firstError 0 = .ok (.aload_n 0, 1) := by decide +kernel
theorem dX5_firstError_1 : decode cX5_firstError 1 = .ok (.getfield 29, 3) := by decide +kernel
theorem dX5_firstError_4 : decode cX5_firstError 4 = .ok (.invokevirtual 158, 3) := by decide +kernel
theorem dX5_firstError_7 : decode cX5_firstError 7 = .ok (.ireturn, 1) := by decide +kernel
theorem dX5_comeAll_0 : decode cX5_comeAll 0 = .ok (.aload_n 0, 1) := by decide +kernel
theorem dX5_comeAll_1 : decode cX5_comeAll 1 = .ok (.getfield 29, 3) := by decide +kernel
theorem dX5_comeAll_4 : decode cX5_comeAll 4 = .ok (.invokevirtual 161, 3) := by decide +kernel
theorem dX5_comeAll_7 : decode cX5_comeAll 7 = .ok (.ifCond .ne 13, 3) := by decide +kernel
theorem dX5_comeAll_10 : decode cX5_comeAll 10 = .ok (.new 132, 3) := by decide +kernel
theorem dX5_comeAll_13 : decode cX5_comeAll 13 = .ok (.dup, 1) := by decide +kernel
theorem dX5_comeAll_14 : decode cX5_comeAll 14 = .ok (.ldc 165, 2) := by decide +kernel
theorem dX5_comeAll_16 : decode cX5_comeAll 16 = .ok (.invokespecial 136, 3) := by decide +kernel
theorem dX5_comeAll_19 : decode cX5_comeAll 19 = .ok (.athrow, 1) := by decide +kernel
theorem dX5_comeAll_20 : decode cX5_comeAll 20 = .ok (.aload_n 0, 1) := by decide +kernel
theorem dX5_comeAll_21 : decode cX5_comeAll 21 = .ok (.getfield 22, 3) := by decide +kernel
theorem dX5_comeAll_24 : decode cX5_comeAll 24 = .ok (.aload_n 0, 1) := by decide +kernel
theorem dX5_comeAll_25 : decode cX5_comeAll 25 = .ok (.getfield 10, 3) := by decide +kernel
theorem dX5_comeAll_28 : decode cX5_comeAll 28 = .ok (.invokevirtual 54, 3) := by decide +kernel
theorem dX5_comeAll_31 : decode cX5_comeAll 31 = .ok (.iconst 0, 1) := by decide +kernel
theorem dX5_comeAll_32 : decode cX5_comeAll 32 = .ok (.istore_n 1, 1) := by decide +kernel
theorem dX5_comeAll_33 : decode cX5_comeAll 33 = .ok (.aload_n 0, 1) := by decide +kernel
theorem dX5_comeAll_34 : decode cX5_comeAll 34 = .ok (.getfield 29, 3) := by decide +kernel
theorem dX5_comeAll_37 : decode cX5_comeAll 37 = .ok (.invokevirtual 167, 3) := by decide +kernel
theorem dX5_comeAll_40 : decode cX5_comeAll 40 = .ok (.istore_n 2, 1) := by decide +kernel
theorem dX5_comeAll_41 : decode cX5_comeAll 41 = .ok (.iconst 0, 1) := by decide +kernel
theorem dX5_comeAll_42 : decode cX5_comeAll 42 = .ok (.istore_n 3, 1) := by decide +kernel
theorem dX5_comeAll_43 : decode cX5_comeAll 43 = .ok (.iload_n 3, 1) := by decide +kernel
theorem dX5_comeAll_44 : decode cX5_comeAll 44 = .ok (.iload_n 2, 1) := by decide +kernel
theorem dX5_comeAll_45 : decode cX5_comeAll 45 = .ok (.if_icmp .ge 43, 3) := by decide +kernel
theorem dX5_comeAll_48 : decode cX5_comeAll 48 = .ok (.iload_n 1, 1) := by decide +kernel
theorem dX5_comeAll_49 : decode cX5_comeAll 49 = .ok (.aload_n 0, 1) := by decide +kernel
theorem dX5_comeAll_50 : decode cX5_comeAll 50 = .ok (.getfield 10, 3) := by decide +kernel
theorem dX5_comeAll_53 : decode cX5_comeAll 53 = .ok (.invokevirtual 170, 3) := by decide +kernel
theorem dX5_comeAll_56 : decode cX5_comeAll 56 = .ok (.iadd, 1) := by decide +kernel
theorem dX5_comeAll_57 : decode cX5_comeAll 57 = .ok (.istore_n 1, 1) := by decide +kernel
theorem dX5_comeAll_58 : decode cX5_comeAll 58 = .ok (.aload_n 0, 1) := by decide +kernel
theorem dX5_comeAll_59 : decode cX5_comeAll 59 = .ok (.getfield 10, 3) := by decide +kernel
theorem dX5_comeAll_62 : decode cX5_comeAll 62 = .ok (.aload_n 0, 1) := by decide +kernel
theorem dX5_comeAll_63 : decode cX5_comeAll 63 = .ok (.getfield 29, 3) := by decide +kernel
theorem dX5_comeAll_66 : decode cX5_comeAll 66 = .ok (.iload_n 3, 1) := by decide +kernel
theorem dX5_comeAll_67 : decode cX5_comeAll 67 = .ok (.invokevirtual 173, 3) := by decide +kernel
theorem dX5_comeAll_70 : decode cX5_comeAll 70 = .ok (.aload_n 0, 1) := by decide +kernel
theorem dX5_comeAll_71 : decode cX5_comeAll 71 = .ok (.getfield 29, 3) := by decide +kernel
theorem dX5_comeAll_74 : decode cX5_comeAll 74 = .ok (.iload_n 3, 1) := by decide +kernel
theorem dX5_comeAll_75 : decode cX5_comeAll 75 = .ok (.invokevirtual 176, 3) := by decide +kernel
theorem dX5_comeAll_78 : decode cX5_comeAll 78 = .ok (.invokevirtual 58, 3) := by decide +kernel
theorem dX5_comeAll_81 : decode cX5_comeAll 81 = .ok (.pop, 1) := by decide +kernel
theorem dX5_comeAll_82 : decode cX5_comeAll 82 = .ok (.iinc 3 1, 3) := by decide +kernel
theorem dX5_comeAll_85 : decode cX5_comeAll 85 = .ok (.goto (-42), 3) := by decide +kernel
theorem dX5_comeAll_88 : decode cX5_comeAll 88 = .ok (.aload_n 0, 1) := by decide +kernel
theorem dX5_comeAll_89 : decode cX5_comeAll 89 = .ok (.getfield 29, 3) := by decide +kernel
theorem dX5_comeAll_92 : decode cX5_comeAll 92 = .ok (.invokevirtual 154, 3) := by decide +kernel
theorem dX5_comeAll_95 : decode cX5_comeAll 95 = .ok (.pop, 1) := by decide +kernel
theorem dX5_comeAll_96 : decode cX5_comeAll 96 = .ok (.iload_n 1, 1) := by decide +kernel
theorem dX5_comeAll_97 : decode cX5_comeAll 97 = .ok (.ireturn, 1) := by decide +kernel
theorem dX5_undo_0 : decode cX5_undo 0 = .ok (.aload_n 0, 1) := by decide +kernel
theorem dX5_undo_1 : decode cX5_undo 1 = .ok (.getfield 22, 3) := by decide +kernel
theorem dX5_undo_4 : decode cX5_undo 4 = .ok (.getfield 179, 3) := by decide +kernel
theorem dX5_undo_7 : decode cX5_undo 7 = .ok (.ifCond .gt 13, 3) := by decide +kernel
theorem dX5_undo_10 : decode cX5_undo 10 = .ok (.new 47, 3) := by decide +kernel
theorem dX5_undo_13 : decode cX5_undo 13 = .ok (.dup, 1) := by decide +kernel
theorem dX5_undo_14 : decode cX5_undo 14 = .ok (.ldc 182, 2) := by decide +kernel
theorem dX5_undo_16 : decode cX5_undo 16 = .ok (.invokespecial 51, 3) := by decide +kernel
theorem dX5_undo_19 : decode cX5_undo 19 = .ok (.athrow, 1) := by decide +kernel
theorem dX5_undo_20 : decode cX5_undo 20 = .ok (.aload_n 0, 1) := by decide +kernel
theorem dX5_undo_21 : decode cX5_undo 21 = .ok (.getfield 22, 3) := by decide +kernel
theorem dX5_undo_24 : decode cX5_undo 24 = .ok (.aload_n 0, 1) := by decide +kernel
theorem dX5_undo_25 : decode cX5_undo 25 = .ok (.getfield 10, 3) := by decide +kernel
theorem dX5_undo_28 : decode cX5_undo 28 = .ok (.invokevirtual 184, 3) := by decide +kernel
theorem dX5_undo_31 : decode cX5_undo 31 = .ok (.aload_n 0, 1) := by decide +kernel
theorem dX5_undo_32 : decode cX5_undo 32 = .ok (.getfield 22, 3) := by decide +kernel
theorem dX5_undo_35 : decode cX5_undo 35 = .ok (.getfield 179, 3) := by decide +kernel
theorem dX5_undo_38 : decode cX5_undo 38 = .ok (.ireturn, 1) := by decide +kernel
theorem dX5_floor_0 : decode cX5_floor 0 = .ok (.iload_n 1, 1) := by decide +kernel
theorem dX5_floor_1 : decode cX5_floor 1 = .ok (.invokestatic 71, 3) := by decide +kernel
theorem dX5_floor_4 : decode cX5_floor 4 = .ok (.iload_n 2, 1) := by decide +kernel
theorem dX5_floor_5 : decode cX5_floor 5 = .ok (.bipush 8, 2) := by decide +kernel
theorem dX5_floor_7 : decode cX5_floor 7 = .ok (.invokestatic 187, 3) := by decide +kernel
theorem dX5_floor_10 : decode cX5_floor 10 = .ok (.aload_n 0, 1) := by decide +kernel
theorem dX5_floor_11 : decode cX5_floor 11 = .ok (.getfield 10, 3) := by decide +kernel
theorem dX5_floor_14 : decode cX5_floor 14 = .ok (.iload_n 1, 1) := by decide +kernel
theorem dX5_floor_15 : decode cX5_floor 15 = .ok (.iload_n 2, 1) := by decide +kernel
theorem dX5_floor_16 : decode cX5_floor 16 = .ok (.invokevirtual 190, 3) := by decide +kernel
theorem dX5_floor_19 : decode cX5_floor 19 = .ok (.ireturn, 1) := by decide +kernel
theorem dX5_person_0 : decode cX5_person 0 = .ok (.iload_n 1, 1) := by decide +kernel
theorem dX5_person_1 : decode cX5_person 1 = .ok (.ifCond .ge 13, 3) := by decide +kernel
theorem dX5_person_4 : decode cX5_person 4 = .ok (.new 132, 3) := by decide +kernel
theorem dX5_person_7 : decode cX5_person 7 = .ok (.dup, 1) := by decide +kernel
theorem dX5_person_8 : decode cX5_person 8 = .ok (.ldc 193, 2) := by decide +kernel
theorem dX5_person_10 : decode cX5_person 10 = .ok (.invokespecial 136, 3) := by decide +kernel
theorem dX5_person_13 : decode cX5_person 13 = .ok (.athrow, 1) := by decide +kernel
theorem dX5_person_14 : decode cX5_person 14 = .ok (.iload_n 2, 1) := by decide +kernel
theorem dX5_person_15 : decode cX5_person 15 = .ok (.iconst 4, 1) := by decide +kernel
theorem dX5_person_16 : decode cX5_person 16 = .ok (.invokestatic 187, 3) := by decide +kernel
theorem dX5_person_19 : decode cX5_person 19 = .ok (.aload_n 0, 1) := by decide +kernel
theorem dX5_person_20 : decode cX5_person 20 = .ok (.getfield 10, 3) := by decide +kernel
theorem dX5_person_23 : decode cX5_person 23 = .ok (.getfield 37, 3) := by decide +kernel
theorem dX5_person_26 : decode cX5_person 26 = .ok (.iload_n 1, 1) := by decide +kernel
theorem dX5_person_27 : decode cX5_person 27 = .ok (.iload_n 2, 1) := by decide +kernel
theorem dX5_person_28 : decode cX5_person 28 = .ok (.invokevirtual 195, 3) := by decide +kernel
theorem dX5_person_31 : decode cX5_person 31 = .ok (.ireturn, 1) := by decide +kernel
theorem dX5_count_0 : decode cX5_count 0 = .ok (.iload_n 1, 1) := by decide +kernel
theorem dX5_count_1 : decode cX5_count 1 = .ok (.bipush 11, 2) := by decide +kernel
theorem dX5_count_3 : decode cX5_count 3 = .ok (.invokestatic 187, 3) := by decide +kernel
theorem dX5_count_6 : decode cX5_count 6 = .ok (.aload_n 0, 1) := by decide +kernel
theorem dX5_count_7 : decode cX5_count 7 = .ok (.iload_n 1, 1) := by decide +kernel
theorem dX5_count_8 : decode cX5_count 8 = .ok (.invokevirtual 198, 3) := by decide +kernel
theorem dX5_count_11 : decode cX5_count 11 = .ok (.ireturn, 1) := by decide +kernel
theorem dX5_setting_0 : decode cX5_setting 0 = .ok (.iload_n 1, 1) := by decide +kernel
theorem dX5_setting_1 : decode cX5_setting 1 = .ok (.invokestatic 123, 3) := by decide +kernel
theorem dX5_setting_4 : decode cX5_setting 4 = .ok (.aload_n 0, 1) := by decide +kernel
theorem dX5_setting_5 : decode cX5_setting 5 = .ok (.getfield 10, 3) := by decide +kernel
theorem dX5_setting_8 : decode cX5_setting 8 = .ok (.getfield 83, 3) := by decide +kernel
theorem dX5_setting_11 : decode cX5_setting 11 = .ok (.iload_n 1, 1) := by decide +kernel
theorem dX5_setting_12 : decode cX5_setting 12 = .ok (.invokestatic 79, 3) := by decide +kernel
theorem dX5_setting_15 : decode cX5_setting 15 = .ok (.ireturn, 1) := by decide +kernel
theorem dX5_ifPassed_0 : decode cX5_ifPassed 0 = .ok (.iload_n 1, 1) := by decide +kernel
theorem dX5_ifPassed_1 : decode cX5_ifPassed 1 = .ok (.invokestatic 137, 3) := by decide +kernel
theorem dX5_ifPassed_4 : decode cX5_ifPassed 4 = .ok (.iload_n 2, 1) := by decide +kernel
theorem dX5_ifPassed_5 : decode cX5_ifPassed 5 = .ok (.iconst 4, 1) := by decide +kernel
theorem dX5_ifPassed_6 : decode cX5_ifPassed 6 = .ok (.invokestatic 187, 3) := by decide +kernel
theorem dX5_ifPassed_9 : decode cX5_ifPassed 9 = .ok (.aload_n 0, 1) := by decide +kernel
theorem dX5_ifPassed_10 : decode cX5_ifPassed 10 = .ok (.iload_n 1, 1) := by decide +kernel
theorem dX5_ifPassed_11 : decode cX5_ifPassed 11 = .ok (.iload_n 2, 1) := by decide +kernel
theorem dX5_ifPassed_12 : decode cX5_ifPassed 12 = .ok (.invokevirtual 201, 3) := by decide +kernel
theorem dX5_ifPassed_15 : decode cX5_ifPassed 15 = .ok (.ireturn, 1) := by decide +kernel
theorem dX5_dark_0 : decode cX5_dark 0 = .ok (.iload_n 1, 1) := by decide +kernel
theorem dX5_dark_1 : decode cX5_dark 1 = .ok (.iload_n 2, 1) := by decide +kernel
theorem dX5_dark_2 : decode cX5_dark 2 = .ok (.invokestatic 33, 3) := by decide +kernel
theorem dX5_dark_5 : decode cX5_dark 5 = .ok (.aload_n 0, 1) := by decide +kernel
theorem dX5_dark_6 : decode cX5_dark 6 = .ok (.aload_n 0, 1) := by decide +kernel
theorem dX5_dark_7 : decode cX5_dark 7 = .ok (.getfield 10, 3) := by decide +kernel
theorem dX5_dark_10 : decode cX5_dark 10 = .ok (.getfield 83, 3) := by decide +kernel
theorem dX5_dark_13 : decode cX5_dark 13 = .ok (.iconst 0, 1) := by decide +kernel
theorem dX5_dark_14 : decode cX5_dark 14 = .ok (.invokestatic 79, 3) := by decide +kernel
theorem dX5_dark_17 : decode cX5_dark 17 = .ok (.iload_n 1, 1) := by decide +kernel
theorem dX5_dark_18 : decode cX5_dark 18 = .ok (.iload_n 2, 1) := by decide +kernel
theorem dX5_dark_19 : decode cX5_dark 19 = .ok (.invokevirtual 204, 3) := by decide +kernel
theorem dX5_dark_22 : decode cX5_dark 22 = .ok (.ireturn, 1) := by decide +kernel
theorem dX5_leastTime_0 : decode cX5_leastTime 0 = .ok (.iload_n 1, 1) := by decide +kernel
theorem dX5_leastTime_1 : decode cX5_leastTime 1 = .ok (.iload_n 2, 1) := by decide +kernel
theorem dX5_leastTime_2 : decode cX5_leastTime 2 = .ok (.invokestatic 33, 3) := by decide +kernel
theorem dX5_leastTime_5 : decode cX5_leastTime 5 = .ok (.aload_n 0, 1) := by decide +kernel
theorem dX5_leastTime_6 : decode cX5_leastTime 6 = .ok (.iload_n 1, 1) := by decide +kernel
theorem dX5_leastTime_7 : decode cX5_leastTime 7 = .ok (.iload_n 2, 1) := by decide +kernel
theorem dX5_leastTime_8 : decode cX5_leastTime 8 = .ok (.invokevirtual 208, 3) := by decide +kernel
theorem dX5_leastTime_11 : decode cX5_leastTime 11 = .ok (.ireturn, 1) := by decide +kernel
theorem dX5_worst_0 : decode cX5_worst 0 = .ok (.aload_n 0, 1) := by decide +kernel
theorem dX5_worst_1 : decode cX5_worst 1 = .ok (.getfield 10, 3) := by decide +kernel
theorem dX5_worst_4 : decode cX5_worst 4 = .ok (.getfield 90, 3) := by decide +kernel
theorem dX5_worst_7 : decode cX5_worst 7 = .ok (.invokevirtual 211, 3) := by decide +kernel
theorem dX5_worst_10 : decode cX5_worst 10 = .ok (.ireturn, 1) := by decide +kernel
theorem dX5_lightness_0 : decode cX5_lightness 0 = .ok (.aload_n 0, 1) := by decide +kernel
theorem dX5_lightness_1 : decode cX5_lightness 1 = .ok (.getfield 10, 3) := by decide +kernel
theorem dX5_lightness_4 : decode cX5_lightness 4 = .ok (.invokevirtual 214, 3) := by decide +kernel
theorem dX5_lightness_7 : decode cX5_lightness 7 = .ok (.dreturn, 1) := by decide +kernel
theorem dX5_digest_0 : decode cX5_digest 0 = .ok (.ldc2_w 218, 3) := by decide +kernel
theorem dX5_digest_3 : decode cX5_digest 3 = .ok (.lstore_n 1, 1) := by decide +kernel
theorem dX5_digest_4 : decode cX5_digest 4 = .ok (.iconst 0, 1) := by decide +kernel
theorem dX5_digest_5 : decode cX5_digest 5 = .ok (.istore_n 3, 1) := by decide +kernel
theorem dX5_digest_6 : decode cX5_digest 6 = .ok (.iload_n 3, 1) := by decide +kernel
theorem dX5_digest_7 : decode cX5_digest 7 = .ok (.bipush 11, 2) := by decide +kernel
theorem dX5_digest_9 : decode cX5_digest 9 = .ok (.if_icmp .ge 20, 3) := by decide +kernel
theorem dX5_digest_12 : decode cX5_digest 12 = .ok (.lload_n 1, 1) := by decide +kernel
theorem dX5_digest_13 : decode cX5_digest 13 = .ok (.aload_n 0, 1) := by decide +kernel
theorem dX5_digest_14 : decode cX5_digest 14 = .ok (.iload_n 3, 1) := by decide +kernel
theorem dX5_digest_15 : decode cX5_digest 15 = .ok (.invokevirtual 198, 3) := by decide +kernel
theorem dX5_digest_18 : decode cX5_digest 18 = .ok (.i2l, 1) := by decide +kernel
theorem dX5_digest_19 : decode cX5_digest 19 = .ok (.invokestatic 220, 3) := by decide +kernel
theorem dX5_digest_22 : decode cX5_digest 22 = .ok (.lstore_n 1, 1) := by decide +kernel
theorem dX5_digest_23 : decode cX5_digest 23 = .ok (.iinc 3 1, 3) := by decide +kernel
theorem dX5_digest_26 : decode cX5_digest 26 = .ok (.goto (-20), 3) := by decide +kernel
theorem dX5_digest_29 : decode cX5_digest 29 = .ok (.iconst 0, 1) := by decide +kernel
theorem dX5_digest_30 : decode cX5_digest 30 = .ok (.istore_n 3, 1) := by decide +kernel
theorem dX5_digest_31 : decode cX5_digest 31 = .ok (.iload_n 3, 1) := by decide +kernel
theorem dX5_digest_32 : decode cX5_digest 32 = .ok (.aload_n 0, 1) := by decide +kernel
theorem dX5_digest_33 : decode cX5_digest 33 = .ok (.getfield 10, 3) := by decide +kernel
theorem dX5_digest_36 : decode cX5_digest 36 = .ok (.getfield 83, 3) := by decide +kernel
theorem dX5_digest_39 : decode cX5_digest 39 = .ok (.arraylength, 1) := by decide +kernel
theorem dX5_digest_40 : decode cX5_digest 40 = .ok (.if_icmp .ge 24, 3) := by decide +kernel
theorem dX5_digest_43 : decode cX5_digest 43 = .ok (.lload_n 1, 1) := by decide +kernel
theorem dX5_digest_44 : decode cX5_digest 44 = .ok (.aload_n 0, 1) := by decide +kernel
theorem dX5_digest_45 : decode cX5_digest 45 = .ok (.getfield 10, 3) := by decide +kernel
theorem dX5_digest_48 : decode cX5_digest 48 = .ok (.getfield 83, 3) := by decide +kernel
theorem dX5_digest_51 : decode cX5_digest 51 = .ok (.iload_n 3, 1) := by decide +kernel
theorem dX5_digest_52 : decode cX5_digest 52 = .ok (.iaload, 1) := by decide +kernel
theorem dX5_digest_53 : decode cX5_digest 53 = .ok (.i2l, 1) := by decide +kernel
theorem dX5_digest_54 : decode cX5_digest 54 = .ok (.invokestatic 220, 3) := by decide +kernel
theorem dX5_digest_57 : decode cX5_digest 57 = .ok (.lstore_n 1, 1) := by decide +kernel
theorem dX5_digest_58 : decode cX5_digest 58 = .ok (.iinc 3 1, 3) := by decide +kernel
theorem dX5_digest_61 : decode cX5_digest 61 = .ok (.goto (-30), 3) := by decide +kernel
theorem dX5_digest_64 : decode cX5_digest 64 = .ok (.aload_n 0, 1) := by decide +kernel
theorem dX5_digest_65 : decode cX5_digest 65 = .ok (.lload_n 1, 1) := by decide +kernel
theorem dX5_digest_66 : decode cX5_digest 66 = .ok (.invokevirtual 224, 3) := by decide +kernel
theorem dX5_digest_69 : decode cX5_digest 69 = .ok (.lstore_n 1, 1) := by decide +kernel
theorem dX5_digest_70 : decode cX5_digest 70 = .ok (.aload_n 0, 1) := by decide +kernel
theorem dX5_digest_71 : decode cX5_digest 71 = .ok (.lload_n 1, 1) := by decide +kernel
theorem dX5_digest_72 : decode cX5_digest 72 = .ok (.invokevirtual 228, 3) := by decide +kernel
theorem dX5_digest_75 : decode cX5_digest 75 = .ok (.lstore_n 1, 1) := by decide +kernel
theorem dX5_digest_76 : decode cX5_digest 76 = .ok (.iconst 0, 1) := by decide +kernel
theorem dX5_digest_77 : decode cX5_digest 77 = .ok (.istore_n 3, 1) := by decide +kernel
theorem dX5_digest_78 : decode cX5_digest 78 = .ok (.iload_n 3, 1) := by decide +kernel
theorem dX5_digest_79 : decode cX5_digest 79 = .ok (.iconst 4, 1) := by decide +kernel
theorem dX5_digest_80 : decode cX5_digest 80 = .ok (.if_icmp .ge 22, 3) := by decide +kernel
theorem dX5_digest_83 : decode cX5_digest 83 = .ok (.lload_n 1, 1) := by decide +kernel
theorem dX5_digest_84 : decode cX5_digest 84 = .ok (.aload_n 0, 1) := by decide +kernel
theorem dX5_digest_85 : decode cX5_digest 85 = .ok (.bipush 30, 2) := by decide +kernel
theorem dX5_digest_87 : decode cX5_digest 87 = .ok (.iload_n 3, 1) := by decide +kernel
theorem dX5_digest_88 : decode cX5_digest 88 = .ok (.invokevirtual 201, 3) := by decide +kernel
theorem dX5_digest_91 : decode cX5_digest 91 = .ok (.i2l, 1) := by decide +kernel
theorem dX5_digest_92 : decode cX5_digest 92 = .ok (.invokestatic 220, 3) := by decide +kernel
theorem dX5_digest_95 : decode cX5_digest 95 = .ok (.lstore_n 1, 1) := by decide +kernel
theorem dX5_digest_96 : decode cX5_digest 96 = .ok (.iinc 3 1, 3) := by decide +kernel
theorem dX5_digest_99 : decode cX5_digest 99 = .ok (.goto (-21), 3) := by decide +kernel
theorem dX5_digest_102 : decode cX5_digest 102 = .ok (.aload_n 0, 1) := by decide +kernel
theorem dX5_digest_103 : decode cX5_digest 103 = .ok (.getfield 10, 3) := by decide +kernel
theorem dX5_digest_106 : decode cX5_digest 106 = .ok (.getfield 83, 3) := by decide +kernel
theorem dX5_digest_109 : decode cX5_digest 109 = .ok (.iconst 0, 1) := by decide +kernel
theorem dX5_digest_110 : decode cX5_digest 110 = .ok (.invokestatic 79, 3) := by decide +kernel
theorem dX5_digest_113 : decode cX5_digest 113 = .ok (.istore_n 3, 1) := by decide +kernel
theorem dX5_digest_114 : decode cX5_digest 114 = .ok (.lload_n 1, 1) := by decide +kernel
theorem dX5_digest_115 : decode cX5_digest 115 = .ok (.aload_n 0, 1) := by decide +kernel
theorem dX5_digest_116 : decode cX5_digest 116 = .ok (.iload_n 3, 1) := by decide +kernel
theorem dX5_digest_117 : decode cX5_digest 117 = .ok (.iconst 0, 1) := by decide +kernel
theorem dX5_digest_118 : decode cX5_digest 118 = .ok (.bipush 7, 2) := by decide +kernel
theorem dX5_digest_120 : decode cX5_digest 120 = .ok (.invokevirtual 204, 3) := by decide +kernel
theorem dX5_digest_123 : decode cX5_digest 123 = .ok (.i2l, 1) := by decide +kernel
theorem dX5_digest_124 : decode cX5_digest 124 = .ok (.invokestatic 220, 3) := by decide +kernel
theorem dX5_digest_127 : decode cX5_digest 127 = .ok (.lstore_n 1, 1) := by decide +kernel
theorem dX5_digest_128 : decode cX5_digest 128 = .ok (.lload_n 1, 1) := by decide +kernel
theorem dX5_digest_129 : decode cX5_digest 129 = .ok (.aload_n 0, 1) := by decide +kernel
theorem dX5_digest_130 : decode cX5_digest 130 = .ok (.iload_n 3, 1) := by decide +kernel
theorem dX5_digest_131 : decode cX5_digest 131 = .ok (.bipush 6, 2) := by decide +kernel
theorem dX5_digest_133 : decode cX5_digest 133 = .ok (.iconst 2, 1) := by decide +kernel
theorem dX5_digest_134 : decode cX5_digest 134 = .ok (.invokevirtual 204, 3) := by decide +kernel
theorem dX5_digest_137 : decode cX5_digest 137 = .ok (.i2l, 1) := by decide +kernel
theorem dX5_digest_138 : decode cX5_digest 138 = .ok (.invokestatic 220, 3) := by decide +kernel
theorem dX5_digest_141 : decode cX5_digest 141 = .ok (.lstore_n 1, 1) := by decide +kernel
theorem dX5_digest_142 : decode cX5_digest 142 = .ok (.lload_n 1, 1) := by decide +kernel
theorem dX5_digest_143 : decode cX5_digest 143 = .ok (.aload_n 0, 1) := by decide +kernel
theorem dX5_digest_144 : decode cX5_digest 144 = .ok (.iconst 1, 1) := by decide +kernel
theorem dX5_digest_145 : decode cX5_digest 145 = .ok (.iconst 5, 1) := by decide +kernel
theorem dX5_digest_146 : decode cX5_digest 146 = .ok (.invokevirtual 208, 3) := by decide +kernel
theorem dX5_digest_149 : decode cX5_digest 149 = .ok (.i2l, 1) := by decide +kernel
theorem dX5_digest_150 : decode cX5_digest 150 = .ok (.invokestatic 220, 3) := by decide +kernel
theorem dX5_digest_153 : decode cX5_digest 153 = .ok (.lstore_n 1, 1) := by decide +kernel
theorem dX5_digest_154 : decode cX5_digest 154 = .ok (.lload_n 1, 1) := by decide +kernel
theorem dX5_digest_155 : decode cX5_digest 155 = .ok (.aload_n 0, 1) := by decide +kernel
theorem dX5_digest_156 : decode cX5_digest 156 = .ok (.getfield 10, 3) := by decide +kernel
theorem dX5_digest_159 : decode cX5_digest 159 = .ok (.getfield 90, 3) := by decide +kernel
theorem dX5_digest_162 : decode cX5_digest 162 = .ok (.invokevirtual 211, 3) := by decide +kernel
theorem dX5_digest_165 : decode cX5_digest 165 = .ok (.i2l, 1) := by decide +kernel
theorem dX5_digest_166 : decode cX5_digest 166 = .ok (.invokestatic 220, 3) := by decide +kernel
theorem dX5_digest_169 : decode cX5_digest 169 = .ok (.lstore_n 1, 1) := by decide +kernel
theorem dX5_digest_170 : decode cX5_digest 170 = .ok (.lload_n 1, 1) := by decide +kernel
theorem dX5_digest_171 : decode cX5_digest 171 = .ok (.aload_n 0, 1) := by decide +kernel
theorem dX5_digest_172 : decode cX5_digest 172 = .ok (.getfield 10, 3) := by decide +kernel
theorem dX5_digest_175 : decode cX5_digest 175 = .ok (.invokevirtual 214, 3) := by decide +kernel
theorem dX5_digest_178 : decode cX5_digest 178 = .ok (.invokestatic 231, 3) := by decide +kernel
theorem dX5_digest_181 : decode cX5_digest 181 = .ok (.invokestatic 220, 3) := by decide +kernel
theorem dX5_digest_184 : decode cX5_digest 184 = .ok (.lstore_n 1, 1) := by decide +kernel
theorem dX5_digest_185 : decode cX5_digest 185 = .ok (.aload_n 0, 1) := by decide +kernel
theorem dX5_digest_186 : decode cX5_digest 186 = .ok (.lload_n 1, 1) := by decide +kernel
theorem dX5_digest_187 : decode cX5_digest 187 = .ok (.invokevirtual 235, 3) := by decide +kernel
theorem dX5_digest_190 : decode cX5_digest 190 = .ok (.lreturn, 1) := by decide +kernel
theorem dX5_checkFloor_0 : decode cX5_checkFloor 0 = .ok (.iload_n 0, 1) := by decide +kernel
theorem dX5_checkFloor_1 : decode cX5_checkFloor 1 = .ok (.ifCond .lt 9, 3) := by decide +kernel
theorem dX5_checkFloor_4 : decode cX5_checkFloor 4 = .ok (.iload_n 0, 1) := by decide +kernel
theorem dX5_checkFloor_5 : decode cX5_checkFloor 5 = .ok (.bipush 8, 2) := by decide +kernel
theorem dX5_checkFloor_7 : decode cX5_checkFloor 7 = .ok (.if_icmp .lt 13, 3) := by decide +kernel
theorem dX5_checkFloor_10 : decode cX5_checkFloor 10 = .ok (.new 66, 3) := by decide +kernel
theorem dX5_checkFloor_13 : decode cX5_checkFloor 13 = .ok (.dup, 1) := by decide +kernel
theorem dX5_checkFloor_14 : decode cX5_checkFloor 14 = .ok (.ldc 238, 2) := by decide +kernel
theorem dX5_checkFloor_16 : decode cX5_checkFloor 16 = .ok (.invokespecial 70, 3) := by decide +kernel
theorem dX5_checkFloor_19 : decode cX5_checkFloor 19 = .ok (.athrow, 1) := by decide +kernel
theorem dX5_checkFloor_20 : decode cX5_checkFloor 20 = .ok (.return_, 1) := by decide +kernel
theorem dX5_checkWay_0 : decode cX5_checkWay 0 = .ok (.iload_n 0, 1) := by decide +kernel
theorem dX5_checkWay_1 : decode cX5_checkWay 1 = .ok (.invokestatic 71, 3) := by decide +kernel
theorem dX5_checkWay_4 : decode cX5_checkWay 4 = .ok (.iload_n 1, 1) := by decide +kernel
theorem dX5_checkWay_5 : decode cX5_checkWay 5 = .ok (.invokestatic 71, 3) := by decide +kernel
theorem dX5_checkWay_8 : decode cX5_checkWay 8 = .ok (.iload_n 0, 1) := by decide +kernel
theorem dX5_checkWay_9 : decode cX5_checkWay 9 = .ok (.iload_n 1, 1) := by decide +kernel
theorem dX5_checkWay_10 : decode cX5_checkWay 10 = .ok (.if_icmp .ne 13, 3) := by decide +kernel
theorem dX5_checkWay_13 : decode cX5_checkWay 13 = .ok (.new 132, 3) := by decide +kernel
theorem dX5_checkWay_16 : decode cX5_checkWay 16 = .ok (.dup, 1) := by decide +kernel
theorem dX5_checkWay_17 : decode cX5_checkWay 17 = .ok (.ldc 240, 2) := by decide +kernel
theorem dX5_checkWay_19 : decode cX5_checkWay 19 = .ok (.invokespecial 136, 3) := by decide +kernel
theorem dX5_checkWay_22 : decode cX5_checkWay 22 = .ok (.athrow, 1) := by decide +kernel
theorem dX5_checkWay_23 : decode cX5_checkWay 23 = .ok (.return_, 1) := by decide +kernel
theorem dX5_checkSetting_0 : decode cX5_checkSetting 0 = .ok (.iload_n 0, 1) := by decide +kernel
theorem dX5_checkSetting_1 : decode cX5_checkSetting 1 = .ok (.ifCond .lt 11, 3) := by decide +kernel
theorem dX5_checkSetting_4 : decode cX5_checkSetting 4 = .ok (.iload_n 0, 1) := by decide +kernel
theorem dX5_checkSetting_5 : decode cX5_checkSetting 5 = .ok (.getstatic 242, 3) := by decide +kernel
theorem dX5_checkSetting_8 : decode cX5_checkSetting 8 = .ok (.arraylength, 1) := by decide +kernel
theorem dX5_checkSetting_9 : decode cX5_checkSetting 9 = .ok (.if_icmp .lt 13, 3) := by decide +kernel
theorem dX5_checkSetting_12 : decode cX5_checkSetting 12 = .ok (.new 66, 3) := by decide +kernel
theorem dX5_checkSetting_15 : decode cX5_checkSetting 15 = .ok (.dup, 1) := by decide +kernel
theorem dX5_checkSetting_16 : decode cX5_checkSetting 16 = .ok (.ldc 245, 2) := by decide +kernel
theorem dX5_checkSetting_18 : decode cX5_checkSetting 18 = .ok (.invokespecial 70, 3) := by decide +kernel
theorem dX5_checkSetting_21 : decode cX5_checkSetting 21 = .ok (.athrow, 1) := by decide +kernel
theorem dX5_checkSetting_22 : decode cX5_checkSetting 22 = .ok (.return_, 1) := by decide +kernel
theorem dX5_checkSeconds_0 : decode cX5_checkSeconds 0 = .ok (.iload_n 0, 1) := by decide +kernel
theorem dX5_checkSeconds_1 : decode cX5_checkSeconds 1 = .ok (.iconst 1, 1) := by decide +kernel
theorem dX5_checkSeconds_2 : decode cX5_checkSeconds 2 = .ok (.if_icmp .lt 10, 3) := by decide +kernel
theorem dX5_checkSeconds_5 : decode cX5_checkSeconds 5 = .ok (.iload_n 0, 1) := by decide +kernel
theorem dX5_checkSeconds_6 : decode cX5_checkSeconds 6 = .ok (.sipush 300, 3) := by decide +kernel
theorem dX5_checkSeconds_9 : decode cX5_checkSeconds 9 = .ok (.if_icmp .le 13, 3) := by decide +kernel
theorem dX5_checkSeconds_12 : decode cX5_checkSeconds 12 = .ok (.new 132, 3) := by decide +kernel
theorem dX5_checkSeconds_15 : decode cX5_checkSeconds 15 = .ok (.dup, 1) := by decide +kernel
theorem dX5_checkSeconds_16 : decode cX5_checkSeconds 16 = .ok (.ldc 247, 2) := by decide +kernel
theorem dX5_checkSeconds_18 : decode cX5_checkSeconds 18 = .ok (.invokespecial 136, 3) := by decide +kernel
theorem dX5_checkSeconds_21 : decode cX5_checkSeconds 21 = .ok (.athrow, 1) := by decide +kernel
theorem dX5_checkSeconds_22 : decode cX5_checkSeconds 22 = .ok (.return_, 1) := by decide +kernel
theorem dX5_checkWhat_0 : decode cX5_checkWhat 0 = .ok (.iload_n 0, 1) := by decide +kernel
theorem dX5_checkWhat_1 : decode cX5_checkWhat 1 = .ok (.ifCond .lt 8, 3) := by decide +kernel
theorem dX5_checkWhat_4 : decode cX5_checkWhat 4 = .ok (.iload_n 0, 1) := by decide +kernel
theorem dX5_checkWhat_5 : decode cX5_checkWhat 5 = .ok (.iload_n 1, 1) := by decide +kernel
theorem dX5_checkWhat_6 : decode cX5_checkWhat 6 = .ok (.if_icmp .lt 13, 3) := by decide +kernel
theorem dX5_checkWhat_9 : decode cX5_checkWhat 9 = .ok (.new 132, 3) := by decide +kernel
theorem dX5_checkWhat_12 : decode cX5_checkWhat 12 = .ok (.dup, 1) := by decide +kernel
theorem dX5_checkWhat_13 : decode cX5_checkWhat 13 = .ok (.ldc 249, 2) := by decide +kernel
theorem dX5_checkWhat_15 : decode cX5_checkWhat 15 = .ok (.invokespecial 136, 3) := by decide +kernel
theorem dX5_checkWhat_18 : decode cX5_checkWhat 18 = .ok (.athrow, 1) := by decide +kernel
theorem dX5_checkWhat_19 : decode cX5_checkWhat 19 = .ok (.return_, 1) := by decide +kernel
theorem dX5_counted_0 : decode cX5_counted 0 = .ok (.iload_n 1, 1) := by decide +kernel
theorem dX5_counted_1 : decode cX5_counted 1 = .ok (.tableswitch 174 0 9 #[55, 63, 74, 85, 93, 107, 121, 135, 146, 157], 55) := by decide +kernel
theorem dX5_counted_56 : decode cX5_counted 56 = .ok (.aload_n 0, 1) := by decide +kernel
theorem dX5_counted_57 : decode cX5_counted 57 = .ok (.getfield 10, 3) := by decide +kernel
theorem dX5_counted_60 : decode cX5_counted 60 = .ok (.getfield 251, 3) := by decide +kernel
theorem dX5_counted_63 : decode cX5_counted 63 = .ok (.ireturn, 1) := by decide +kernel
theorem dX5_counted_64 : decode cX5_counted 64 = .ok (.aload_n 0, 1) := by decide +kernel
theorem dX5_counted_65 : decode cX5_counted 65 = .ok (.getfield 10, 3) := by decide +kernel
theorem dX5_counted_68 : decode cX5_counted 68 = .ok (.getfield 37, 3) := by decide +kernel
theorem dX5_counted_71 : decode cX5_counted 71 = .ok (.getfield 41, 3) := by decide +kernel
theorem dX5_counted_74 : decode cX5_counted 74 = .ok (.ireturn, 1) := by decide +kernel
theorem dX5_counted_75 : decode cX5_counted 75 = .ok (.aload_n 0, 1) := by decide +kernel
theorem dX5_counted_76 : decode cX5_counted 76 = .ok (.getfield 10, 3) := by decide +kernel
theorem dX5_counted_79 : decode cX5_counted 79 = .ok (.getfield 37, 3) := by decide +kernel
theorem dX5_counted_82 : decode cX5_counted 82 = .ok (.getfield 254, 3) := by decide +kernel
theorem dX5_counted_85 : decode cX5_counted 85 = .ok (.ireturn, 1) := by decide +kernel
theorem dX5_counted_86 : decode cX5_counted 86 = .ok (.aload_n 0, 1) := by decide +kernel
theorem dX5_counted_87 : decode cX5_counted 87 = .ok (.getfield 10, 3) := by decide +kernel
theorem dX5_counted_90 : decode cX5_counted 90 = .ok (.invokevirtual 257, 3) := by decide +kernel
theorem dX5_counted_93 : decode cX5_counted 93 = .ok (.ireturn, 1) := by decide +kernel
theorem dX5_counted_94 : decode cX5_counted 94 = .ok (.aload_n 0, 1) := by decide +kernel
theorem dX5_counted_95 : decode cX5_counted 95 = .ok (.getfield 10, 3) := by decide +kernel
theorem dX5_counted_98 : decode cX5_counted 98 = .ok (.getfield 90, 3) := by decide +kernel
theorem dX5_counted_101 : decode cX5_counted 101 = .ok (.getfield 260, 3) := by decide +kernel
theorem dX5_counted_104 : decode cX5_counted 104 = .ok (.invokestatic 263, 3) := by decide +kernel
theorem dX5_counted_107 : decode cX5_counted 107 = .ok (.ireturn, 1) := by decide +kernel
theorem dX5_counted_108 : decode cX5_counted 108 = .ok (.aload_n 0, 1) := by decide +kernel
theorem dX5_counted_109 : decode cX5_counted 109 = .ok (.getfield 10, 3) := by decide +kernel
theorem dX5_counted_112 : decode cX5_counted 112 = .ok (.getfield 90, 3) := by decide +kernel
theorem dX5_counted_115 : decode cX5_counted 115 = .ok (.getfield 267, 3) := by decide +kernel
theorem dX5_counted_118 : decode cX5_counted 118 = .ok (.invokestatic 263, 3) := by decide +kernel
theorem dX5_counted_121 : decode cX5_counted 121 = .ok (.ireturn, 1) := by decide +kernel
theorem dX5_counted_122 : decode cX5_counted 122 = .ok (.aload_n 0, 1) := by decide +kernel
theorem dX5_counted_123 : decode cX5_counted 123 = .ok (.getfield 10, 3) := by decide +kernel
theorem dX5_counted_126 : decode cX5_counted 126 = .ok (.getfield 90, 3) := by decide +kernel
theorem dX5_counted_129 : decode cX5_counted 129 = .ok (.getfield 270, 3) := by decide +kernel
theorem dX5_counted_132 : decode cX5_counted 132 = .ok (.invokestatic 263, 3) := by decide +kernel
theorem dX5_counted_135 : decode cX5_counted 135 = .ok (.ireturn, 1) := by decide +kernel
theorem dX5_counted_136 : decode cX5_counted 136 = .ok (.aload_n 0, 1) := by decide +kernel
theorem dX5_counted_137 : decode cX5_counted 137 = .ok (.getfield 10, 3) := by decide +kernel
theorem dX5_counted_140 : decode cX5_counted 140 = .ok (.getfield 113, 3) := by decide +kernel
theorem dX5_counted_143 : decode cX5_counted 143 = .ok (.invokestatic 105, 3) := by decide +kernel
theorem dX5_counted_146 : decode cX5_counted 146 = .ok (.ireturn, 1) := by decide +kernel
theorem dX5_counted_147 : decode cX5_counted 147 = .ok (.aload_n 0, 1) := by decide +kernel
theorem dX5_counted_148 : decode cX5_counted 148 = .ok (.getfield 10, 3) := by decide +kernel
theorem dX5_counted_151 : decode cX5_counted 151 = .ok (.getfield 117, 3) := by decide +kernel
theorem dX5_counted_154 : decode cX5_counted 154 = .ok (.invokestatic 105, 3) := by decide +kernel
theorem dX5_counted_157 : decode cX5_counted 157 = .ok (.ireturn, 1) := by decide +kernel
theorem dX5_counted_158 : decode cX5_counted 158 = .ok (.bipush 8, 2) := by decide +kernel
theorem dX5_counted_160 : decode cX5_counted 160 = .ok (.aload_n 0, 1) := by decide +kernel
theorem dX5_counted_161 : decode cX5_counted 161 = .ok (.getfield 10, 3) := by decide +kernel
theorem dX5_counted_164 : decode cX5_counted 164 = .ok (.getfield 90, 3) := by decide +kernel
theorem dX5_counted_167 : decode cX5_counted 167 = .ok (.getfield 102, 3) := by decide +kernel
theorem dX5_counted_170 : decode cX5_counted 170 = .ok (.invokestatic 263, 3) := by decide +kernel
theorem dX5_counted_173 : decode cX5_counted 173 = .ok (.isub, 1) := by decide +kernel
theorem dX5_counted_174 : decode cX5_counted 174 = .ok (.ireturn, 1) := by decide +kernel
theorem dX5_counted_175 : decode cX5_counted 175 = .ok (.aload_n 0, 1) := by decide +kernel
theorem dX5_counted_176 : decode cX5_counted 176 = .ok (.getfield 22, 3) := by decide +kernel
theorem dX5_counted_179 : decode cX5_counted 179 = .ok (.getfield 179, 3) := by decide +kernel
theorem dX5_counted_182 : decode cX5_counted 182 = .ok (.ireturn, 1) := by decide +kernel
theorem dX5_outlook_0 : decode cX5_outlook 0 = .ok (.aload_n 0, 1) := by decide +kernel
theorem dX5_outlook_1 : decode cX5_outlook 1 = .ok (.getfield 16, 3) := by decide +kernel
theorem dX5_outlook_4 : decode cX5_outlook 4 = .ok (.aload_n 0, 1) := by decide +kernel
theorem dX5_outlook_5 : decode cX5_outlook 5 = .ok (.getfield 10, 3) := by decide +kernel
theorem dX5_outlook_8 : decode cX5_outlook 8 = .ok (.invokevirtual 273, 3) := by decide +kernel
theorem dX5_outlook_11 : decode cX5_outlook 11 = .ok (.aload_n 0, 1) := by decide +kernel
theorem dX5_outlook_12 : decode cX5_outlook 12 = .ok (.getfield 16, 3) := by decide +kernel
theorem dX5_outlook_15 : decode cX5_outlook 15 = .ok (.iload_n 1, 1) := by decide +kernel
theorem dX5_outlook_16 : decode cX5_outlook 16 = .ok (.invokevirtual 140, 3) := by decide +kernel
theorem dX5_outlook_19 : decode cX5_outlook 19 = .ok (.istore_n 3, 1) := by decide +kernel
theorem dX5_outlook_20 : decode cX5_outlook 20 = .ok (.iload_n 2, 1) := by decide +kernel
theorem dX5_outlook_21 : decode cX5_outlook 21 = .ok (.tableswitch 68 0 2 #[27, 29, 57], 27) := by decide +kernel
theorem dX5_outlook_48 : decode cX5_outlook 48 = .ok (.iload_n 3, 1) := by decide +kernel
theorem dX5_outlook_49 : decode cX5_outlook 49 = .ok (.ireturn, 1) := by decide +kernel
theorem dX5_outlook_50 : decode cX5_outlook 50 = .ok (.aload_n 0, 1) := by decide +kernel
theorem dX5_outlook_51 : decode cX5_outlook 51 = .ok (.getfield 16, 3) := by decide +kernel
theorem dX5_outlook_54 : decode cX5_outlook 54 = .ok (.getfield 90, 3) := by decide +kernel
theorem dX5_outlook_57 : decode cX5_outlook 57 = .ok (.getfield 270, 3) := by decide +kernel
theorem dX5_outlook_60 : decode cX5_outlook 60 = .ok (.invokestatic 263, 3) := by decide +kernel
theorem dX5_outlook_63 : decode cX5_outlook 63 = .ok (.aload_n 0, 1) := by decide +kernel
theorem dX5_outlook_64 : decode cX5_outlook 64 = .ok (.getfield 10, 3) := by decide +kernel
theorem dX5_outlook_67 : decode cX5_outlook 67 = .ok (.getfield 90, 3) := by decide +kernel
theorem dX5_outlook_70 : decode cX5_outlook 70 = .ok (.getfield 270, 3) := by decide +kernel
theorem dX5_outlook_73 : decode cX5_outlook 73 = .ok (.invokestatic 263, 3) := by decide +kernel
theorem dX5_outlook_76 : decode cX5_outlook 76 = .ok (.isub, 1) := by decide +kernel
theorem dX5_outlook_77 : decode cX5_outlook 77 = .ok (.ireturn, 1) := by decide +kernel
theorem dX5_outlook_78 : decode cX5_outlook 78 = .ok (.aload_n 0, 1) := by decide +kernel
theorem dX5_outlook_79 : decode cX5_outlook 79 = .ok (.getfield 16, 3) := by decide +kernel
theorem dX5_outlook_82 : decode cX5_outlook 82 = .ok (.getfield 37, 3) := by decide +kernel
theorem dX5_outlook_85 : decode cX5_outlook 85 = .ok (.getfield 41, 3) := by decide +kernel
theorem dX5_outlook_88 : decode cX5_outlook 88 = .ok (.ireturn, 1) := by decide +kernel
theorem dX5_outlook_89 : decode cX5_outlook 89 = .ok (.aload_n 0, 1) := by decide +kernel
theorem dX5_outlook_90 : decode cX5_outlook 90 = .ok (.getfield 16, 3) := by decide +kernel
theorem dX5_outlook_93 : decode cX5_outlook 93 = .ok (.invokevirtual 257, 3) := by decide +kernel
theorem dX5_outlook_96 : decode cX5_outlook 96 = .ok (.ireturn, 1) := by decide +kernel
theorem dX5_darkWith_0 : decode cX5_darkWith 0 = .ok (.aload_n 0, 1) := by decide +kernel
theorem dX5_darkWith_1 : decode cX5_darkWith 1 = .ok (.getfield 16, 3) := by decide +kernel
theorem dX5_darkWith_4 : decode cX5_darkWith 4 = .ok (.aload_n 0, 1) := by decide +kernel
theorem dX5_darkWith_5 : decode cX5_darkWith 5 = .ok (.getfield 10, 3) := by decide +kernel
theorem dX5_darkWith_8 : decode cX5_darkWith 8 = .ok (.invokevirtual 273, 3) := by decide +kernel
theorem dX5_darkWith_11 : decode cX5_darkWith 11 = .ok (.aload_n 0, 1) := by decide +kernel
theorem dX5_darkWith_12 : decode cX5_darkWith 12 = .ok (.getfield 16, 3) := by decide +kernel
theorem dX5_darkWith_15 : decode cX5_darkWith 15 = .ok (.getfield 83, 3) := by decide +kernel
theorem dX5_darkWith_18 : decode cX5_darkWith 18 = .ok (.iconst 0, 1) := by decide +kernel
theorem dX5_darkWith_19 : decode cX5_darkWith 19 = .ok (.iload_n 1, 1) := by decide +kernel
theorem dX5_darkWith_20 : decode cX5_darkWith 20 = .ok (.invokestatic 109, 3) := by decide +kernel
theorem dX5_darkWith_23 : decode cX5_darkWith 23 = .ok (.aload_n 0, 1) := by decide +kernel
theorem dX5_darkWith_24 : decode cX5_darkWith 24 = .ok (.getfield 16, 3) := by decide +kernel
theorem dX5_darkWith_27 : decode cX5_darkWith 27 = .ok (.iload_n 2, 1) := by decide +kernel
theorem dX5_darkWith_28 : decode cX5_darkWith 28 = .ok (.iload_n 3, 1) := by decide +kernel
theorem dX5_darkWith_29 : decode cX5_darkWith 29 = .ok (.invokevirtual 58, 3) := by decide +kernel
theorem dX5_darkWith_32 : decode cX5_darkWith 32 = .ok (.istore 4, 2) := by decide +kernel
theorem dX5_darkWith_34 : decode cX5_darkWith 34 = .ok (.iconst 0, 1) := by decide +kernel
theorem dX5_darkWith_35 : decode cX5_darkWith 35 = .ok (.istore 5, 2) := by decide +kernel
theorem dX5_darkWith_37 : decode cX5_darkWith 37 = .ok (.iconst 0, 1) := by decide +kernel
theorem dX5_darkWith_38 : decode cX5_darkWith 38 = .ok (.istore 6, 2) := by decide +kernel
theorem dX5_darkWith_40 : decode cX5_darkWith 40 = .ok (.iload 6, 2) := by decide +kernel
theorem dX5_darkWith_42 : decode cX5_darkWith 42 = .ok (.sipush 480, 3) := by decide +kernel
theorem dX5_darkWith_45 : decode cX5_darkWith 45 = .ok (.if_icmp .ge 74, 3) := by decide +kernel
theorem dX5_darkWith_48 : decode cX5_darkWith 48 = .ok (.aload_n 0, 1) := by decide +kernel
theorem dX5_darkWith_49 : decode cX5_darkWith 49 = .ok (.getfield 16, 3) := by decide +kernel
theorem dX5_darkWith_52 : decode cX5_darkWith 52 = .ok (.invokevirtual 276, 3) := by decide +kernel
theorem dX5_darkWith_55 : decode cX5_darkWith 55 = .ok (.aload_n 0, 1) := by decide +kernel
theorem dX5_darkWith_56 : decode cX5_darkWith 56 = .ok (.getfield 16, 3) := by decide +kernel
theorem dX5_darkWith_59 : decode cX5_darkWith 59 = .ok (.getfield 37, 3) := by decide +kernel
theorem dX5_darkWith_62 : decode cX5_darkWith 62 = .ok (.iload 4, 2) := by decide +kernel
theorem dX5_darkWith_64 : decode cX5_darkWith 64 = .ok (.invokevirtual 62, 3) := by decide +kernel
theorem dX5_darkWith_67 : decode cX5_darkWith 67 = .ok (.istore 7, 2) := by decide +kernel
theorem dX5_darkWith_69 : decode cX5_darkWith 69 = .ok (.iload 7, 2) := by decide +kernel
theorem dX5_darkWith_71 : decode cX5_darkWith 71 = .ok (.iconst (-1), 1) := by decide +kernel
theorem dX5_darkWith_72 : decode cX5_darkWith 72 = .ok (.if_icmp .ne 6, 3) := by decide +kernel
theorem dX5_darkWith_75 : decode cX5_darkWith 75 = .ok (.iload 5, 2) := by decide +kernel
theorem dX5_darkWith_77 : decode cX5_darkWith 77 = .ok (.ireturn, 1) := by decide +kernel
theorem dX5_darkWith_78 : decode cX5_darkWith 78 = .ok (.aload_n 0, 1) := by decide +kernel
theorem dX5_darkWith_79 : decode cX5_darkWith 79 = .ok (.getfield 16, 3) := by decide +kernel
theorem dX5_darkWith_82 : decode cX5_darkWith 82 = .ok (.aload_n 0, 1) := by decide +kernel
theorem dX5_darkWith_83 : decode cX5_darkWith 83 = .ok (.getfield 16, 3) := by decide +kernel
theorem dX5_darkWith_86 : decode cX5_darkWith 86 = .ok (.getfield 37, 3) := by decide +kernel
theorem dX5_darkWith_89 : decode cX5_darkWith 89 = .ok (.getfield 279, 3) := by decide +kernel
theorem dX5_darkWith_92 : decode cX5_darkWith 92 = .ok (.iload 7, 2) := by decide +kernel
theorem dX5_darkWith_94 : decode cX5_darkWith 94 = .ok (.invokestatic 79, 3) := by decide +kernel
theorem dX5_darkWith_97 : decode cX5_darkWith 97 = .ok (.invokevirtual 281, 3) := by decide +kernel
theorem dX5_darkWith_100 : decode cX5_darkWith 100 = .ok (.ifCond .ne 6, 3) := by decide +kernel
theorem dX5_darkWith_103 : decode cX5_darkWith 103 = .ok (.iinc 5 1, 3) := by decide +kernel
theorem dX5_darkWith_106 : decode cX5_darkWith 106 = .ok (.aload_n 0, 1) := by decide +kernel
theorem dX5_darkWith_107 : decode cX5_darkWith 107 = .ok (.getfield 16, 3) := by decide +kernel
theorem dX5_darkWith_110 : decode cX5_darkWith 110 = .ok (.invokevirtual 284, 3) := by decide +kernel
theorem dX5_darkWith_113 : decode cX5_darkWith 113 = .ok (.iinc 6 1, 3) := by decide +kernel
theorem dX5_darkWith_116 : decode cX5_darkWith 116 = .ok (.goto (-76), 3) := by decide +kernel
theorem dX5_darkWith_119 : decode cX5_darkWith 119 = .ok (.iload 5, 2) := by decide +kernel
theorem dX5_darkWith_121 : decode cX5_darkWith 121 = .ok (.ireturn, 1) := by decide +kernel
theorem dX5_leastBurnTime_0 : decode cX5_leastBurnTime 0 = .ok (.getstatic 126, 3) := by decide +kernel
theorem dX5_leastBurnTime_3 : decode cX5_leastBurnTime 3 = .ok (.iconst 0, 1) := by decide +kernel
theorem dX5_leastBurnTime_4 : decode cX5_leastBurnTime 4 = .ok (.invokestatic 79, 3) := by decide +kernel
theorem dX5_leastBurnTime_7 : decode cX5_leastBurnTime 7 = .ok (.istore_n 3, 1) := by decide +kernel
theorem dX5_leastBurnTime_8 : decode cX5_leastBurnTime 8 = .ok (.getstatic 129, 3) := by decide +kernel
theorem dX5_leastBurnTime_11 : decode cX5_leastBurnTime 11 = .ok (.iconst 0, 1) := by decide +kernel
theorem dX5_leastBurnTime_12 : decode cX5_leastBurnTime 12 = .ok (.invokestatic 79, 3) := by decide +kernel
theorem dX5_leastBurnTime_15 : decode cX5_leastBurnTime 15 = .ok (.istore 4, 2) := by decide +kernel
theorem dX5_leastBurnTime_17 : decode cX5_leastBurnTime 17 = .ok (.aload_n 0, 1) := by decide +kernel
theorem dX5_leastBurnTime_18 : decode cX5_leastBurnTime 18 = .ok (.iload 4, 2) := by decide +kernel
theorem dX5_leastBurnTime_20 : decode cX5_leastBurnTime 20 = .ok (.iload_n 1, 1) := by decide +kernel
theorem dX5_leastBurnTime_21 : decode cX5_leastBurnTime 21 = .ok (.iload_n 2, 1) := by decide +kernel
theorem dX5_leastBurnTime_22 : decode cX5_leastBurnTime 22 = .ok (.invokevirtual 204, 3) := by decide +kernel
theorem dX5_leastBurnTime_25 : decode cX5_leastBurnTime 25 = .ok (.istore 5, 2) := by decide +kernel
theorem dX5_leastBurnTime_27 : decode cX5_leastBurnTime 27 = .ok (.iload 4, 2) := by decide +kernel
theorem dX5_leastBurnTime_29 : decode cX5_leastBurnTime 29 = .ok (.istore 6, 2) := by decide +kernel
theorem dX5_leastBurnTime_31 : decode cX5_leastBurnTime 31 = .ok (.iload_n 3, 1) := by decide +kernel
theorem dX5_leastBurnTime_32 : decode cX5_leastBurnTime 32 = .ok (.iload 4, 2) := by decide +kernel
theorem dX5_leastBurnTime_34 : decode cX5_leastBurnTime 34 = .ok (.if_icmp .ge 47, 3) := by decide +kernel
theorem dX5_leastBurnTime_37 : decode cX5_leastBurnTime 37 = .ok (.iload 6, 2) := by decide +kernel
theorem dX5_leastBurnTime_39 : decode cX5_leastBurnTime 39 = .ok (.ifCond .le 42, 3) := by decide +kernel
theorem dX5_leastBurnTime_42 : decode cX5_leastBurnTime 42 = .ok (.iload_n 3, 1) := by decide +kernel
theorem dX5_leastBurnTime_43 : decode cX5_leastBurnTime 43 = .ok (.iload 4, 2) := by decide +kernel
theorem dX5_leastBurnTime_45 : decode cX5_leastBurnTime 45 = .ok (.iadd, 1) := by decide +kernel
theorem dX5_leastBurnTime_46 : decode cX5_leastBurnTime 46 = .ok (.iconst 2, 1) := by decide +kernel
theorem dX5_leastBurnTime_47 : decode cX5_leastBurnTime 47 = .ok (.idiv, 1) := by decide +kernel
theorem dX5_leastBurnTime_48 : decode cX5_leastBurnTime 48 = .ok (.istore 7, 2) := by decide +kernel
theorem dX5_leastBurnTime_50 : decode cX5_leastBurnTime 50 = .ok (.aload_n 0, 1) := by decide +kernel
theorem dX5_leastBurnTime_51 : decode cX5_leastBurnTime 51 = .ok (.iload 7, 2) := by decide +kernel
theorem dX5_leastBurnTime_53 : decode cX5_leastBurnTime 53 = .ok (.iload_n 1, 1) := by decide +kernel
theorem dX5_leastBurnTime_54 : decode cX5_leastBurnTime 54 = .ok (.iload_n 2, 1) := by decide +kernel
theorem dX5_leastBurnTime_55 : decode cX5_leastBurnTime 55 = .ok (.invokevirtual 204, 3) := by decide +kernel
theorem dX5_leastBurnTime_58 : decode cX5_leastBurnTime 58 = .ok (.iload 5, 2) := by decide +kernel
theorem dX5_leastBurnTime_60 : decode cX5_leastBurnTime 60 = .ok (.if_icmp .ne 10, 3) := by decide +kernel
theorem dX5_leastBurnTime_63 : decode cX5_leastBurnTime 63 = .ok (.iload 7, 2) := by decide +kernel
theorem dX5_leastBurnTime_65 : decode cX5_leastBurnTime 65 = .ok (.istore 4, 2) := by decide +kernel
theorem dX5_leastBurnTime_67 : decode cX5_leastBurnTime 67 = .ok (.goto 8, 3) := by decide +kernel
theorem dX5_leastBurnTime_70 : decode cX5_leastBurnTime 70 = .ok (.iload 7, 2) := by decide +kernel
theorem dX5_leastBurnTime_72 : decode cX5_leastBurnTime 72 = .ok (.iconst 1, 1) := by decide +kernel
theorem dX5_leastBurnTime_73 : decode cX5_leastBurnTime 73 = .ok (.iadd, 1) := by decide +kernel
theorem dX5_leastBurnTime_74 : decode cX5_leastBurnTime 74 = .ok (.istore_n 3, 1) := by decide +kernel
theorem dX5_leastBurnTime_75 : decode cX5_leastBurnTime 75 = .ok (.iinc 6 (-1), 3) := by decide +kernel
theorem dX5_leastBurnTime_78 : decode cX5_leastBurnTime 78 = .ok (.goto (-47), 3) := by decide +kernel
theorem dX5_leastBurnTime_81 : decode cX5_leastBurnTime 81 = .ok (.iload_n 3, 1) := by decide +kernel
theorem dX5_leastBurnTime_82 : decode cX5_leastBurnTime 82 = .ok (.ireturn, 1) := by decide +kernel
theorem dX5_mixed_0 : decode cX5_mixed 0 = .ok (.ldc2_w 287, 3) := by decide +kernel
theorem dX5_mixed_3 : decode cX5_mixed 3 = .ok (.lload_n 0, 1) := by decide +kernel
theorem dX5_mixed_4 : decode cX5_mixed 4 = .ok (.lmul, 1) := by decide +kernel
theorem dX5_mixed_5 : decode cX5_mixed 5 = .ok (.lload_n 2, 1) := by decide +kernel
theorem dX5_mixed_6 : decode cX5_mixed 6 = .ok (.ladd, 1) := by decide +kernel
theorem dX5_mixed_7 : decode cX5_mixed 7 = .ok (.lreturn, 1) := by decide +kernel
theorem dX5_mixedWithFloors_0 : decode cX5_mixedWithFloors 0 = .ok (.lload_n 1, 1) := by decide +kernel
theorem dX5_mixedWithFloors_1 : decode cX5_mixedWithFloors 1 = .ok (.lstore_n 3, 1) := by decide +kernel
theorem dX5_mixedWithFloors_2 : decode cX5_mixedWithFloors 2 = .ok (.iconst 0, 1) := by decide +kernel
theorem dX5_mixedWithFloors_3 : decode cX5_mixedWithFloors 3 = .ok (.istore 5, 2) := by decide +kernel
theorem dX5_mixedWithFloors_5 : decode cX5_mixedWithFloors 5 = .ok (.iload 5, 2) := by decide +kernel
theorem dX5_mixedWithFloors_7 : decode cX5_mixedWithFloors 7 = .ok (.bipush 8, 2) := by decide +kernel
theorem dX5_mixedWithFloors_9 : decode cX5_mixedWithFloors 9 = .ok (.if_icmp .ge 42, 3) := by decide +kernel
theorem dX5_mixedWithFloors_12 : decode cX5_mixedWithFloors 12 = .ok (.iconst 0, 1) := by decide +kernel
theorem dX5_mixedWithFloors_13 : decode cX5_mixedWithFloors 13 = .ok (.istore 6, 2) := by decide +kernel
theorem dX5_mixedWithFloors_15 : decode cX5_mixedWithFloors 15 = .ok (.iload 6, 2) := by decide +kernel
theorem dX5_mixedWithFloors_17 : decode cX5_mixedWithFloors 17 = .ok (.bipush 8, 2) := by decide +kernel
theorem dX5_mixedWithFloors_19 : decode cX5_mixedWithFloors 19 = .ok (.if_icmp .ge 26, 3) := by decide +kernel
theorem dX5_mixedWithFloors_22 : decode cX5_mixedWithFloors 22 = .ok (.lload_n 3, 1) := by decide +kernel
theorem dX5_mixedWithFloors_23 : decode cX5_mixedWithFloors 23 = .ok (.aload_n 0, 1) := by decide +kernel
theorem dX5_mixedWithFloors_24 : decode cX5_mixedWithFloors 24 = .ok (.getfield 10, 3) := by decide +kernel
theorem dX5_mixedWithFloors_27 : decode cX5_mixedWithFloors 27 = .ok (.iload 5, 2) := by decide +kernel
theorem dX5_mixedWithFloors_29 : decode cX5_mixedWithFloors 29 = .ok (.iload 6, 2) := by decide +kernel
theorem dX5_mixedWithFloors_31 : decode cX5_mixedWithFloors 31 = .ok (.invokevirtual 190, 3) := by decide +kernel
theorem dX5_mixedWithFloors_34 : decode cX5_mixedWithFloors 34 = .ok (.i2l, 1) := by decide +kernel
theorem dX5_mixedWithFloors_35 : decode cX5_mixedWithFloors 35 = .ok (.invokestatic 220, 3) := by decide +kernel
theorem dX5_mixedWithFloors_38 : decode cX5_mixedWithFloors 38 = .ok (.lstore_n 3, 1) := by decide +kernel
theorem dX5_mixedWithFloors_39 : decode cX5_mixedWithFloors 39 = .ok (.iinc 6 1, 3) := by decide +kernel
theorem dX5_mixedWithFloors_42 : decode cX5_mixedWithFloors 42 = .ok (.goto (-27), 3) := by decide +kernel
theorem dX5_mixedWithFloors_45 : decode cX5_mixedWithFloors 45 = .ok (.iinc 5 1, 3) := by decide +kernel
theorem dX5_mixedWithFloors_48 : decode cX5_mixedWithFloors 48 = .ok (.goto (-43), 3) := by decide +kernel
theorem dX5_mixedWithFloors_51 : decode cX5_mixedWithFloors 51 = .ok (.lload_n 3, 1) := by decide +kernel
theorem dX5_mixedWithFloors_52 : decode cX5_mixedWithFloors 52 = .ok (.lreturn, 1) := by decide +kernel
theorem dX5_mixedWithPeople_0 : decode cX5_mixedWithPeople 0 = .ok (.lload_n 1, 1) := by decide +kernel
theorem dX5_mixedWithPeople_1 : decode cX5_mixedWithPeople 1 = .ok (.lstore_n 3, 1) := by decide +kernel
theorem dX5_mixedWithPeople_2 : decode cX5_mixedWithPeople 2 = .ok (.iconst 0, 1) := by decide +kernel
theorem dX5_mixedWithPeople_3 : decode cX5_mixedWithPeople 3 = .ok (.istore 5, 2) := by decide +kernel
theorem dX5_mixedWithPeople_5 : decode cX5_mixedWithPeople 5 = .ok (.iload 5, 2) := by decide +kernel
theorem dX5_mixedWithPeople_7 : decode cX5_mixedWithPeople 7 = .ok (.aload_n 0, 1) := by decide +kernel
theorem dX5_mixedWithPeople_8 : decode cX5_mixedWithPeople 8 = .ok (.getfield 10, 3) := by decide +kernel
theorem dX5_mixedWithPeople_11 : decode cX5_mixedWithPeople 11 = .ok (.getfield 37, 3) := by decide +kernel
theorem dX5_mixedWithPeople_14 : decode cX5_mixedWithPeople 14 = .ok (.getfield 41, 3) := by decide +kernel
theorem dX5_mixedWithPeople_17 : decode cX5_mixedWithPeople 17 = .ok (.if_icmp .ge 44, 3) := by decide +kernel
theorem dX5_mixedWithPeople_20 : decode cX5_mixedWithPeople 20 = .ok (.iconst 0, 1) := by decide +kernel
theorem dX5_mixedWithPeople_21 : decode cX5_mixedWithPeople 21 = .ok (.istore 6, 2) := by decide +kernel
theorem dX5_mixedWithPeople_23 : decode cX5_mixedWithPeople 23 = .ok (.iload 6, 2) := by decide +kernel
theorem dX5_mixedWithPeople_25 : decode cX5_mixedWithPeople 25 = .ok (.iconst 4, 1) := by decide +kernel
theorem dX5_mixedWithPeople_26 : decode cX5_mixedWithPeople 26 = .ok (.if_icmp .ge 29, 3) := by decide +kernel
theorem dX5_mixedWithPeople_29 : decode cX5_mixedWithPeople 29 = .ok (.lload_n 3, 1) := by decide +kernel
theorem dX5_mixedWithPeople_30 : decode cX5_mixedWithPeople 30 = .ok (.aload_n 0, 1) := by decide +kernel
theorem dX5_mixedWithPeople_31 : decode cX5_mixedWithPeople 31 = .ok (.getfield 10, 3) := by decide +kernel
theorem dX5_mixedWithPeople_34 : decode cX5_mixedWithPeople 34 = .ok (.getfield 37, 3) := by decide +kernel
theorem dX5_mixedWithPeople_37 : decode cX5_mixedWithPeople 37 = .ok (.iload 5, 2) := by decide +kernel
theorem dX5_mixedWithPeople_39 : decode cX5_mixedWithPeople 39 = .ok (.iload 6, 2) := by decide +kernel
theorem dX5_mixedWithPeople_41 : decode cX5_mixedWithPeople 41 = .ok (.invokevirtual 195, 3) := by decide +kernel
theorem dX5_mixedWithPeople_44 : decode cX5_mixedWithPeople 44 = .ok (.i2l, 1) := by decide +kernel
theorem dX5_mixedWithPeople_45 : decode cX5_mixedWithPeople 45 = .ok (.invokestatic 220, 3) := by decide +kernel
theorem dX5_mixedWithPeople_48 : decode cX5_mixedWithPeople 48 = .ok (.lstore_n 3, 1) := by decide +kernel
theorem dX5_mixedWithPeople_49 : decode cX5_mixedWithPeople 49 = .ok (.iinc 6 1, 3) := by decide +kernel
theorem dX5_mixedWithPeople_52 : decode cX5_mixedWithPeople 52 = .ok (.goto (-29), 3) := by decide +kernel
theorem dX5_mixedWithPeople_55 : decode cX5_mixedWithPeople 55 = .ok (.iinc 5 1, 3) := by decide +kernel
theorem dX5_mixedWithPeople_58 : decode cX5_mixedWithPeople 58 = .ok (.goto (-53), 3) := by decide +kernel
theorem dX5_mixedWithPeople_61 : decode cX5_mixedWithPeople 61 = .ok (.lload_n 3, 1) := by decide +kernel
theorem dX5_mixedWithPeople_62 : decode cX5_mixedWithPeople 62 = .ok (.lreturn, 1) := by decide +kernel
theorem dX5_mixedWithBuffer_0 : decode cX5_mixedWithBuffer 0 = .ok (.lload_n 1, 1) := by decide +kernel
theorem dX5_mixedWithBuffer_1 : decode cX5_mixedWithBuffer 1 = .ok (.aload_n 0, 1) := by decide +kernel
theorem dX5_mixedWithBuffer_2 : decode cX5_mixedWithBuffer 2 = .ok (.getfield 29, 3) := by decide +kernel
theorem dX5_mixedWithBuffer_5 : decode cX5_mixedWithBuffer 5 = .ok (.getfield 145, 3) := by decide +kernel
theorem dX5_mixedWithBuffer_8 : decode cX5_mixedWithBuffer 8 = .ok (.i2l, 1) := by decide +kernel
theorem dX5_mixedWithBuffer_9 : decode cX5_mixedWithBuffer 9 = .ok (.invokestatic 220, 3) := by decide +kernel
theorem dX5_mixedWithBuffer_12 : decode cX5_mixedWithBuffer 12 = .ok (.lstore_n 3, 1) := by decide +kernel
theorem dX5_mixedWithBuffer_13 : decode cX5_mixedWithBuffer 13 = .ok (.iconst 0, 1) := by decide +kernel
theorem dX5_mixedWithBuffer_14 : decode cX5_mixedWithBuffer 14 = .ok (.istore 5, 2) := by decide +kernel
theorem dX5_mixedWithBuffer_16 : decode cX5_mixedWithBuffer 16 = .ok (.iload 5, 2) := by decide +kernel
theorem dX5_mixedWithBuffer_18 : decode cX5_mixedWithBuffer 18 = .ok (.aload_n 0, 1) := by decide +kernel
theorem dX5_mixedWithBuffer_19 : decode cX5_mixedWithBuffer 19 = .ok (.getfield 29, 3) := by decide +kernel
theorem dX5_mixedWithBuffer_22 : decode cX5_mixedWithBuffer 22 = .ok (.getfield 145, 3) := by decide +kernel
theorem dX5_mixedWithBuffer_25 : decode cX5_mixedWithBuffer 25 = .ok (.if_icmp .ge 24, 3) := by decide +kernel
theorem dX5_mixedWithBuffer_28 : decode cX5_mixedWithBuffer 28 = .ok (.lload_n 3, 1) := by decide +kernel
theorem dX5_mixedWithBuffer_29 : decode cX5_mixedWithBuffer 29 = .ok (.aload_n 0, 1) := by decide +kernel
theorem dX5_mixedWithBuffer_30 : decode cX5_mixedWithBuffer 30 = .ok (.getfield 29, 3) := by decide +kernel
theorem dX5_mixedWithBuffer_33 : decode cX5_mixedWithBuffer 33 = .ok (.iload 5, 2) := by decide +kernel
theorem dX5_mixedWithBuffer_35 : decode cX5_mixedWithBuffer 35 = .ok (.invokevirtual 289, 3) := by decide +kernel
theorem dX5_mixedWithBuffer_38 : decode cX5_mixedWithBuffer 38 = .ok (.i2l, 1) := by decide +kernel
theorem dX5_mixedWithBuffer_39 : decode cX5_mixedWithBuffer 39 = .ok (.invokestatic 220, 3) := by decide +kernel
theorem dX5_mixedWithBuffer_42 : decode cX5_mixedWithBuffer 42 = .ok (.lstore_n 3, 1) := by decide +kernel
theorem dX5_mixedWithBuffer_43 : decode cX5_mixedWithBuffer 43 = .ok (.iinc 5 1, 3) := by decide +kernel
theorem dX5_mixedWithBuffer_46 : decode cX5_mixedWithBuffer 46 = .ok (.goto (-30), 3) := by decide +kernel
theorem dX5_mixedWithBuffer_49 : decode cX5_mixedWithBuffer 49 = .ok (.lload_n 3, 1) := by decide +kernel
theorem dX5_mixedWithBuffer_50 : decode cX5_mixedWithBuffer 50 = .ok (.lreturn, 1) := by decide +kernel
theorem dX5_bitsOf_0 : decode cX5_bitsOf 0 = .ok (.dload_n 0, 1) := by decide +kernel
theorem dX5_bitsOf_1 : decode cX5_bitsOf 1 = .ok (.dstore_n 2, 1) := by decide +kernel
theorem dX5_bitsOf_2 : decode cX5_bitsOf 2 = .ok (.sipush 1023, 3) := by decide +kernel
theorem dX5_bitsOf_5 : decode cX5_bitsOf 5 = .ok (.istore 4, 2) := by decide +kernel
theorem dX5_bitsOf_7 : decode cX5_bitsOf 7 = .ok (.iload 4, 2) := by decide +kernel
theorem dX5_bitsOf_9 : decode cX5_bitsOf 9 = .ok (.ifCond .le 43, 3) := by decide +kernel
theorem dX5_bitsOf_12 : decode cX5_bitsOf 12 = .ok (.dload_n 2, 1) := by decide +kernel
theorem dX5_bitsOf_13 : decode cX5_bitsOf 13 = .ok (.dconst 0, 1) := by decide +kernel
theorem dX5_bitsOf_14 : decode cX5_bitsOf 14 = .ok (.dcmp .l, 1) := by decide +kernel
theorem dX5_bitsOf_15 : decode cX5_bitsOf 15 = .ok (.ifCond .le 37, 3) := by decide +kernel
theorem dX5_bitsOf_18 : decode cX5_bitsOf 18 = .ok (.dload_n 2, 1) := by decide +kernel
theorem dX5_bitsOf_19 : decode cX5_bitsOf 19 = .ok (.dconst 1, 1) := by decide +kernel
theorem dX5_bitsOf_20 : decode cX5_bitsOf 20 = .ok (.dcmp .l, 1) := by decide +kernel
theorem dX5_bitsOf_21 : decode cX5_bitsOf 21 = .ok (.ifCond .lt 19, 3) := by decide +kernel
theorem dX5_bitsOf_24 : decode cX5_bitsOf 24 = .ok (.iload 4, 2) := by decide +kernel
theorem dX5_bitsOf_26 : decode cX5_bitsOf 26 = .ok (.i2l, 1) := by decide +kernel
theorem dX5_bitsOf_27 : decode cX5_bitsOf 27 = .ok (.bipush 52, 2) := by decide +kernel
theorem dX5_bitsOf_29 : decode cX5_bitsOf 29 = .ok (.lshl, 1) := by decide +kernel
theorem dX5_bitsOf_30 : decode cX5_bitsOf 30 = .ok (.dload_n 2, 1) := by decide +kernel
theorem dX5_bitsOf_31 : decode cX5_bitsOf 31 = .ok (.dconst 1, 1) := by decide +kernel
theorem dX5_bitsOf_32 : decode cX5_bitsOf 32 = .ok (.dsub, 1) := by decide +kernel
theorem dX5_bitsOf_33 : decode cX5_bitsOf 33 = .ok (.ldc2_w 293, 3) := by decide +kernel
theorem dX5_bitsOf_36 : decode cX5_bitsOf 36 = .ok (.dmul, 1) := by decide +kernel
theorem dX5_bitsOf_37 : decode cX5_bitsOf 37 = .ok (.d2l, 1) := by decide +kernel
theorem dX5_bitsOf_38 : decode cX5_bitsOf 38 = .ok (.ladd, 1) := by decide +kernel
theorem dX5_bitsOf_39 : decode cX5_bitsOf 39 = .ok (.lreturn, 1) := by decide +kernel
theorem dX5_bitsOf_40 : decode cX5_bitsOf 40 = .ok (.dload_n 2, 1) := by decide +kernel
theorem dX5_bitsOf_41 : decode cX5_bitsOf 41 = .ok (.ldc2_w 295, 3) := by decide +kernel
theorem dX5_bitsOf_44 : decode cX5_bitsOf 44 = .ok (.dmul, 1) := by decide +kernel
theorem dX5_bitsOf_45 : decode cX5_bitsOf 45 = .ok (.dstore_n 2, 1) := by decide +kernel
theorem dX5_bitsOf_46 : decode cX5_bitsOf 46 = .ok (.iinc 4 (-1), 3) := by decide +kernel
theorem dX5_bitsOf_49 : decode cX5_bitsOf 49 = .ok (.goto (-42), 3) := by decide +kernel
theorem dX5_bitsOf_52 : decode cX5_bitsOf 52 = .ok (.lconst 0, 1) := by decide +kernel
theorem dX5_bitsOf_53 : decode cX5_bitsOf 53 = .ok (.lreturn, 1) := by decide +kernel
theorem dX5_at_0 : decode cX5_at 0 = .ok (.iload_n 1, 1) := by decide +kernel
theorem dX5_at_1 : decode cX5_at 1 = .ok (.ifCond .lt 15, 3) := by decide +kernel
theorem dX5_at_4 : decode cX5_at 4 = .ok (.iload_n 1, 1) := by decide +kernel
theorem dX5_at_5 : decode cX5_at 5 = .ok (.aload_n 0, 1) := by decide +kernel
theorem dX5_at_6 : decode cX5_at 6 = .ok (.arraylength, 1) := by decide +kernel
theorem dX5_at_7 : decode cX5_at 7 = .ok (.if_icmp .ge 9, 3) := by decide +kernel
theorem dX5_at_10 : decode cX5_at 10 = .ok (.aload_n 0, 1) := by decide +kernel
theorem dX5_at_11 : decode cX5_at 11 = .ok (.iload_n 1, 1) := by decide +kernel
theorem dX5_at_12 : decode cX5_at 12 = .ok (.iaload, 1) := by decide +kernel
theorem dX5_at_13 : decode cX5_at 13 = .ok (.goto 4, 3) := by decide +kernel
theorem dX5_at_16 : decode cX5_at 16 = .ok (.iconst 0, 1) := by decide +kernel
theorem dX5_at_17 : decode cX5_at 17 = .ok (.ireturn, 1) := by decide +kernel
theorem dX5_put_0 : decode cX5_put 0 = .ok (.iload_n 1, 1) := by decide +kernel
theorem dX5_put_1 : decode cX5_put 1 = .ok (.ifCond .lt 13, 3) := by decide +kernel
theorem dX5_put_4 : decode cX5_put 4 = .ok (.iload_n 1, 1) := by decide +kernel
theorem dX5_put_5 : decode cX5_put 5 = .ok (.aload_n 0, 1) := by decide +kernel
theorem dX5_put_6 : decode cX5_put 6 = .ok (.arraylength, 1) := by decide +kernel
theorem dX5_put_7 : decode cX5_put 7 = .ok (.if_icmp .ge 7, 3) := by decide +kernel
theorem dX5_put_10 : decode cX5_put 10 = .ok (.aload_n 0, 1) := by decide +kernel
theorem dX5_put_11 : decode cX5_put 11 = .ok (.iload_n 1, 1) := by decide +kernel
theorem dX5_put_12 : decode cX5_put 12 = .ok (.iload_n 2, 1) := by decide +kernel
theorem dX5_put_13 : decode cX5_put 13 = .ok (.iastore, 1) := by decide +kernel
theorem dX5_put_14 : decode cX5_put 14 = .ok (.return_, 1) := by decide +kernel
theorem dX5_raise_0 : decode cX5_raise 0 = .ok (.aload_n 0, 1) := by decide +kernel
theorem dX5_raise_1 : decode cX5_raise 1 = .ok (.iload_n 1, 1) := by decide +kernel
theorem dX5_raise_2 : decode cX5_raise 2 = .ok (.aload_n 0, 1) := by decide +kernel
theorem dX5_raise_3 : decode cX5_raise 3 = .ok (.iload_n 1, 1) := by decide +kernel
theorem dX5_raise_4 : decode cX5_raise 4 = .ok (.invokestatic 79, 3) := by decide +kernel
theorem dX5_raise_7 : decode cX5_raise 7 = .ok (.iload_n 2, 1) := by decide +kernel
theorem dX5_raise_8 : decode cX5_raise 8 = .ok (.iadd, 1) := by decide +kernel
theorem dX5_raise_9 : decode cX5_raise 9 = .ok (.invokestatic 109, 3) := by decide +kernel
theorem dX5_raise_12 : decode cX5_raise 12 = .ok (.return_, 1) := by decide +kernel
theorem dX5_sumOf_0 : decode cX5_sumOf 0 = .ok (.iconst 0, 1) := by decide +kernel
theorem dX5_sumOf_1 : decode cX5_sumOf 1 = .ok (.istore_n 1, 1) := by decide +kernel
theorem dX5_sumOf_2 : decode cX5_sumOf 2 = .ok (.iconst 0, 1) := by decide +kernel
theorem dX5_sumOf_3 : decode cX5_sumOf 3 = .ok (.istore_n 2, 1) := by decide +kernel
theorem dX5_sumOf_4 : decode cX5_sumOf 4 = .ok (.iload_n 2, 1) := by decide +kernel
theorem dX5_sumOf_5 : decode cX5_sumOf 5 = .ok (.aload_n 0, 1) := by decide +kernel
theorem dX5_sumOf_6 : decode cX5_sumOf 6 = .ok (.arraylength, 1) := by decide +kernel
theorem dX5_sumOf_7 : decode cX5_sumOf 7 = .ok (.if_icmp .ge 15, 3) := by decide +kernel
theorem dX5_sumOf_10 : decode cX5_sumOf 10 = .ok (.iload_n 1, 1) := by decide +kernel
theorem dX5_sumOf_11 : decode cX5_sumOf 11 = .ok (.aload_n 0, 1) := by decide +kernel
theorem dX5_sumOf_12 : decode cX5_sumOf 12 = .ok (.iload_n 2, 1) := by decide +kernel
theorem dX5_sumOf_13 : decode cX5_sumOf 13 = .ok (.iaload, 1) := by decide +kernel
theorem dX5_sumOf_14 : decode cX5_sumOf 14 = .ok (.iadd, 1) := by decide +kernel
theorem dX5_sumOf_15 : decode cX5_sumOf 15 = .ok (.istore_n 1, 1) := by decide +kernel
theorem dX5_sumOf_16 : decode cX5_sumOf 16 = .ok (.iinc 2 1, 3) := by decide +kernel
theorem dX5_sumOf_19 : decode cX5_sumOf 19 = .ok (.goto (-15), 3) := by decide +kernel
theorem dX5_sumOf_22 : decode cX5_sumOf 22 = .ok (.iload_n 1, 1) := by decide +kernel
theorem dX5_sumOf_23 : decode cX5_sumOf 23 = .ok (.ireturn, 1) := by decide +kernel
theorem dX5_copyRow_0 : decode cX5_copyRow 0 = .ok (.iconst 0, 1) := by decide +kernel
theorem dX5_copyRow_1 : decode cX5_copyRow 1 = .ok (.istore_n 2, 1) := by decide +kernel
theorem dX5_copyRow_2 : decode cX5_copyRow 2 = .ok (.iload_n 2, 1) := by decide +kernel
theorem dX5_copyRow_3 : decode cX5_copyRow 3 = .ok (.aload_n 0, 1) := by decide +kernel
theorem dX5_copyRow_4 : decode cX5_copyRow 4 = .ok (.arraylength, 1) := by decide +kernel
theorem dX5_copyRow_5 : decode cX5_copyRow 5 = .ok (.if_icmp .ge 21, 3) := by decide +kernel
theorem dX5_copyRow_8 : decode cX5_copyRow 8 = .ok (.iload_n 2, 1) := by decide +kernel
theorem dX5_copyRow_9 : decode cX5_copyRow 9 = .ok (.aload_n 1, 1) := by decide +kernel
theorem dX5_copyRow_10 : decode cX5_copyRow 10 = .ok (.arraylength, 1) := by decide +kernel
theorem dX5_copyRow_11 : decode cX5_copyRow 11 = .ok (.if_icmp .ge 15, 3) := by decide +kernel
theorem dX5_copyRow_14 : decode cX5_copyRow 14 = .ok (.aload_n 1, 1) := by decide +kernel
theorem dX5_copyRow_15 : decode cX5_copyRow 15 = .ok (.iload_n 2, 1) := by decide +kernel
theorem dX5_copyRow_16 : decode cX5_copyRow 16 = .ok (.aload_n 0, 1) := by decide +kernel
theorem dX5_copyRow_17 : decode cX5_copyRow 17 = .ok (.iload_n 2, 1) := by decide +kernel
theorem dX5_copyRow_18 : decode cX5_copyRow 18 = .ok (.iaload, 1) := by decide +kernel
theorem dX5_copyRow_19 : decode cX5_copyRow 19 = .ok (.iastore, 1) := by decide +kernel
theorem dX5_copyRow_20 : decode cX5_copyRow 20 = .ok (.iinc 2 1, 3) := by decide +kernel
theorem dX5_copyRow_23 : decode cX5_copyRow 23 = .ok (.goto (-21), 3) := by decide +kernel
theorem dX5_copyRow_26 : decode cX5_copyRow 26 = .ok (.return_, 1) := by decide +kernel
theorem dX5_numberOf_0 : decode cX5_numberOf 0 = .ok (.iload_n 0, 1) := by decide +kernel
theorem dX5_numberOf_1 : decode cX5_numberOf 1 = .ok (.ifCond .eq 7, 3) := by decide +kernel
theorem dX5_numberOf_4 : decode cX5_numberOf 4 = .ok (.iconst 1, 1) := by decide +kernel
theorem dX5_numberOf_5 : decode cX5_numberOf 5 = .ok (.goto 4, 3) := by decide +kernel
theorem dX5_numberOf_8 : decode cX5_numberOf 8 = .ok (.iconst 0, 1) := by decide +kernel
theorem dX5_numberOf_9 : decode cX5_numberOf 9 = .ok (.ireturn, 1) := by decide +kernel
theorem dX6_init_0 : decode cX6_init 0 = .ok (.aload_n 0, 1) := by decide +kernel
theorem dX6_init_1 : decode cX6_init 1 = .ok (.invokespecial 1, 3) := by decide +kernel
theorem dX6_init_4 : decode cX6_init 4 = .ok (.aload_n 0, 1) := by decide +kernel
theorem dX6_init_5 : decode cX6_init 5 = .ok (.bipush 86, 2) := by decide +kernel
theorem dX6_init_7 : decode cX6_init 7 = .ok (.newarray .int, 2) := by decide +kernel
theorem dX6_init_9 : decode cX6_init 9 = .ok (.putfield 7, 3) := by decide +kernel
theorem dX6_init_12 : decode cX6_init 12 = .ok (.aload_n 0, 1) := by decide +kernel
theorem dX6_init_13 : decode cX6_init 13 = .ok (.bipush 86, 2) := by decide +kernel
theorem dX6_init_15 : decode cX6_init 15 = .ok (.newarray .int, 2) := by decide +kernel
theorem dX6_init_17 : decode cX6_init 17 = .ok (.putfield 13, 3) := by decide +kernel
theorem dX6_init_20 : decode cX6_init 20 = .ok (.aload_n 0, 1) := by decide +kernel
theorem dX6_init_21 : decode cX6_init 21 = .ok (.sipush 516, 3) := by decide +kernel
theorem dX6_init_24 : decode cX6_init 24 = .ok (.newarray .int, 2) := by decide +kernel
theorem dX6_init_26 : decode cX6_init 26 = .ok (.putfield 16, 3) := by decide +kernel
theorem dX6_init_29 : decode cX6_init 29 = .ok (.aload_n 0, 1) := by decide +kernel
theorem dX6_init_30 : decode cX6_init 30 = .ok (.bipush 60, 2) := by decide +kernel
theorem dX6_init_32 : decode cX6_init 32 = .ok (.newarray .int, 2) := by decide +kernel
theorem dX6_init_34 : decode cX6_init 34 = .ok (.putfield 19, 3) := by decide +kernel
theorem dX6_init_37 : decode cX6_init 37 = .ok (.aload_n 0, 1) := by decide +kernel
theorem dX6_init_38 : decode cX6_init 38 = .ok (.bipush 32, 2) := by decide +kernel
theorem dX6_init_40 : decode cX6_init 40 = .ok (.newarray .int, 2) := by decide +kernel
theorem dX6_init_42 : decode cX6_init 42 = .ok (.putfield 22, 3) := by decide +kernel
theorem dX6_init_45 : decode cX6_init 45 = .ok (.aload_n 0, 1) := by decide +kernel
theorem dX6_init_46 : decode cX6_init 46 = .ok (.getfield 7, 3) := by decide +kernel
theorem dX6_init_49 : decode cX6_init 49 = .ok (.iconst 0, 1) := by decide +kernel
theorem dX6_init_50 : decode cX6_init 50 = .ok (.bipush 20, 2) := by decide +kernel
theorem dX6_init_52 : decode cX6_init 52 = .ok (.iastore, 1) := by decide +kernel
theorem dX6_init_53 : decode cX6_init 53 = .ok (.aload_n 0, 1) := by decide +kernel
theorem dX6_init_54 : decode cX6_init 54 = .ok (.getfield 7, 3) := by decide +kernel
theorem dX6_init_57 : decode cX6_init 57 = .ok (.iconst 1, 1) := by decide +kernel
theorem dX6_init_58 : decode cX6_init 58 = .ok (.iconst 5, 1) := by decide +kernel
theorem dX6_init_59 : decode cX6_init 59 = .ok (.iastore, 1) := by decide +kernel
theorem dX6_init_60 : decode cX6_init 60 = .ok (.aload_n 0, 1) := by decide +kernel
theorem dX6_init_61 : decode cX6_init 61 = .ok (.getfield 7, 3) := by decide +kernel
theorem dX6_init_64 : decode cX6_init 64 = .ok (.iconst 3, 1) := by decide +kernel
theorem dX6_init_65 : decode cX6_init 65 = .ok (.bipush 8, 2) := by decide +kernel
theorem dX6_init_67 : decode cX6_init 67 = .ok (.iastore, 1) := by decide +kernel
theorem dX6_init_68 : decode cX6_init 68 = .ok (.iconst 0, 1) := by decide +kernel
theorem dX6_init_69 : decode cX6_init 69 = .ok (.istore_n 1, 1) := by decide +kernel
theorem dX6_init_70 : decode cX6_init 70 = .ok (.iload_n 1, 1) := by decide +kernel
theorem dX6_init_71 : decode cX6_init 71 = .ok (.bipush 8, 2) := by decide +kernel
theorem dX6_init_73 : decode cX6_init 73 = .ok (.if_icmp .ge 24, 3) := by decide +kernel
theorem dX6_init_76 : decode cX6_init 76 = .ok (.aload_n 0, 1) := by decide +kernel
theorem dX6_init_77 : decode cX6_init 77 = .ok (.getfield 7, 3) := by decide +kernel
theorem dX6_init_80 : decode cX6_init 80 = .ok (.bipush 9, 2) := by decide +kernel
theorem dX6_init_82 : decode cX6_init 82 = .ok (.bipush 6, 2) := by decide +kernel
theorem dX6_init_84 : decode cX6_init 84 = .ok (.iload_n 1, 1) := by decide +kernel
theorem dX6_init_85 : decode cX6_init 85 = .ok (.imul, 1) := by decide +kernel
theorem dX6_init_86 : decode cX6_init 86 = .ok (.iadd, 1) := by decide +kernel
theorem dX6_init_87 : decode cX6_init 87 = .ok (.iconst 1, 1) := by decide +kernel
theorem dX6_init_88 : decode cX6_init 88 = .ok (.iadd, 1) := by decide +kernel
theorem dX6_init_89 : decode cX6_init 89 = .ok (.iconst 1, 1) := by decide +kernel
theorem dX6_init_90 : decode cX6_init 90 = .ok (.iastore, 1) := by decide +kernel
theorem dX6_init_91 : decode cX6_init 91 = .ok (.iinc 1 1, 3) := by decide +kernel
theorem dX6_init_94 : decode cX6_init 94 = .ok (.goto (-24), 3) := by decide +kernel
theorem dX6_init_97 : decode cX6_init 97 = .ok (.return_, 1) := by decide +kernel
theorem dX6_thrown_0 : decode cX6_thrown 0 = .ok (.aload_n 0, 1) := by decide +kernel
theorem dX6_thrown_1 : decode cX6_thrown 1 = .ok (.getfield 25, 3) := by decide +kernel
theorem dX6_thrown_4 : decode cX6_thrown 4 = .ok (.ireturn, 1) := by decide +kernel
theorem dX6_fails_0 : decode cX6_fails 0 = .ok (.aload_n 0, 1) := by decide +kernel
theorem dX6_fails_1 : decode cX6_fails 1 = .ok (.iload_n 1, 1) := by decide +kernel
theorem dX6_fails_2 : decode cX6_fails 2 = .ok (.putfield 25, 3) := by decide +kernel
theorem dX6_fails_5 : decode cX6_fails 5 = .ok (.iconst 0, 1) := by decide +kernel
theorem dX6_fails_6 : decode cX6_fails 6 = .ok (.ireturn, 1) := by decide +kernel
theorem dX6_in_0 : decode cX6_in 0 = .ok (.iload_n 0, 1) := by decide +kernel
theorem dX6_in_1 : decode cX6_in 1 = .ok (.iload_n 1, 1) := by decide +kernel
theorem dX6_in_2 : decode cX6_in 2 = .ok (.if_icmp .lt 12, 3) := by decide +kernel
theorem dX6_in_5 : decode cX6_in 5 = .ok (.iload_n 0, 1) := by decide +kernel
theorem dX6_in_6 : decode cX6_in 6 = .ok (.iload_n 2, 1) := by decide +kernel
theorem dX6_in_7 : decode cX6_in 7 = .ok (.if_icmp .gt 7, 3) := by decide +kernel
theorem dX6_in_10 : decode cX6_in 10 = .ok (.iconst 1, 1) := by decide +kernel
theorem dX6_in_11 : decode cX6_in 11 = .ok (.goto 4, 3) := by decide +kernel
theorem dX6_in_14 : decode cX6_in 14 = .ok (.iconst 0, 1) := by decide +kernel
theorem dX6_in_15 : decode cX6_in 15 = .ok (.ireturn, 1) := by decide +kernel
theorem dX6_isFloor_0 : decode cX6_isFloor 0 = .ok (.iload_n 0, 1) := by decide +kernel
theorem dX6_isFloor_1 : decode cX6_isFloor 1 = .ok (.iconst 0, 1) := by decide +kernel
theorem dX6_isFloor_2 : decode cX6_isFloor 2 = .ok (.bipush 7, 2) := by decide +kernel
theorem dX6_isFloor_4 : decode cX6_isFloor 4 = .ok (.invokestatic 29, 3) := by decide +kernel
theorem dX6_isFloor_7 : decode cX6_isFloor 7 = .ok (.ireturn, 1) := by decide +kernel
theorem dX6_of_0 : decode cX6_of 0 = .ok (.aload_n 0, 1) := by decide +kernel
theorem dX6_of_1 : decode cX6_of 1 = .ok (.bipush 9, 2) := by decide +kernel
theorem dX6_of_3 : decode cX6_of 3 = .ok (.bipush 6, 2) := by decide +kernel
theorem dX6_of_5 : decode cX6_of 5 = .ok (.iload_n 1, 1) := by decide +kernel
theorem dX6_of_6 : decode cX6_of 6 = .ok (.imul, 1) := by decide +kernel
theorem dX6_of_7 : decode cX6_of 7 = .ok (.iadd, 1) := by decide +kernel
theorem dX6_of_8 : decode cX6_of 8 = .ok (.iload_n 2, 1) := by decide +kernel
theorem dX6_of_9 : decode cX6_of 9 = .ok (.iadd, 1) := by decide +kernel
theorem dX6_of_10 : decode cX6_of 10 = .ok (.iaload, 1) := by decide +kernel
theorem dX6_of_11 : decode cX6_of 11 = .ok (.ireturn, 1) := by decide +kernel
theorem dX6_by_0 : decode cX6_by 0 = .ok (.aload_n 0, 1) := by decide +kernel
theorem dX6_by_1 : decode cX6_by 1 = .ok (.bipush 58, 2) := by decide +kernel
theorem dX6_by_3 : decode cX6_by 3 = .ok (.iconst 4, 1) := by decide +kernel
theorem dX6_by_4 : decode cX6_by 4 = .ok (.iload_n 1, 1) := by decide +kernel
theorem dX6_by_5 : decode cX6_by 5 = .ok (.imul, 1) := by decide +kernel
theorem dX6_by_6 : decode cX6_by 6 = .ok (.iadd, 1) := by decide +kernel
theorem dX6_by_7 : decode cX6_by 7 = .ok (.iload_n 2, 1) := by decide +kernel
theorem dX6_by_8 : decode cX6_by 8 = .ok (.iadd, 1) := by decide +kernel
theorem dX6_by_9 : decode cX6_by 9 = .ok (.iaload, 1) := by decide +kernel
theorem dX6_by_10 : decode cX6_by 10 = .ok (.ireturn, 1) := by decide +kernel
theorem dX6_copies_0 : decode cX6_copies 0 = .ok (.iconst 0, 1) := by decide +kernel
theorem dX6_copies_1 : decode cX6_copies 1 = .ok (.istore 4, 2) := by decide +kernel
theorem dX6_copies_3 : decode cX6_copies 3 = .ok (.iload 4, 2) := by decide +kernel
theorem dX6_copies_5 : decode cX6_copies 5 = .ok (.bipush 86, 2) := by decide +kernel
theorem dX6_copies_7 : decode cX6_copies 7 = .ok (.if_icmp .ge 21, 3) := by decide +kernel
theorem dX6_copies_10 : decode cX6_copies 10 = .ok (.aload_n 2, 1) := by decide +kernel
theorem dX6_copies_11 : decode cX6_copies 11 = .ok (.iload_n 3, 1) := by decide +kernel
theorem dX6_copies_12 : decode cX6_copies 12 = .ok (.iload 4, 2) := by decide +kernel
theorem dX6_copies_14 : decode cX6_copies 14 = .ok (.iadd, 1) := by decide +kernel
theorem dX6_copies_15 : decode cX6_copies 15 = .ok (.aload_n 0, 1) := by decide +kernel
theorem dX6_copies_16 : decode cX6_copies 16 = .ok (.iload_n 1, 1) := by decide +kernel
theorem dX6_copies_17 : decode cX6_copies 17 = .ok (.iload 4, 2) := by decide +kernel
theorem dX6_copies_19 : decode cX6_copies 19 = .ok (.iadd, 1) := by decide +kernel
theorem dX6_copies_20 : decode cX6_copies 20 = .ok (.iaload, 1) := by decide +kernel
theorem dX6_copies_21 : decode cX6_copies 21 = .ok (.iastore, 1) := by decide +kernel
theorem dX6_copies_22 : decode cX6_copies 22 = .ok (.iinc 4 1, 3) := by decide +kernel
theorem dX6_copies_25 : decode cX6_copies 25 = .ok (.goto (-22), 3) := by decide +kernel
theorem dX6_copies_28 : decode cX6_copies 28 = .ok (.return_, 1) := by decide +kernel
theorem dX6_saves_0 : decode cX6_saves 0 = .ok (.aload_n 0, 1) := by decide +kernel
theorem dX6_saves_1 : decode cX6_saves 1 = .ok (.getfield 33, 3) := by decide +kernel
theorem dX6_saves_4 : decode cX6_saves 4 = .ok (.bipush 6, 2) := by decide +kernel
theorem dX6_saves_6 : decode cX6_saves 6 = .ok (.if_icmp .ne 43, 3) := by decide +kernel
theorem dX6_saves_9 : decode cX6_saves 9 = .ok (.iconst 0, 1) := by decide +kernel
theorem dX6_saves_10 : decode cX6_saves 10 = .ok (.istore_n 1, 1) := by decide +kernel
theorem dX6_saves_11 : decode cX6_saves 11 = .ok (.iload_n 1, 1) := by decide +kernel
theorem dX6_saves_12 : decode cX6_saves 12 = .ok (.sipush 430, 3) := by decide +kernel
theorem dX6_saves_15 : decode cX6_saves 15 = .ok (.if_icmp .ge 24, 3) := by decide +kernel
theorem dX6_saves_18 : decode cX6_saves 18 = .ok (.aload_n 0, 1) := by decide +kernel
theorem dX6_saves_19 : decode cX6_saves 19 = .ok (.getfield 16, 3) := by decide +kernel
theorem dX6_saves_22 : decode cX6_saves 22 = .ok (.iload_n 1, 1) := by decide +kernel
theorem dX6_saves_23 : decode cX6_saves 23 = .ok (.aload_n 0, 1) := by decide +kernel
theorem dX6_saves_24 : decode cX6_saves 24 = .ok (.getfield 16, 3) := by decide +kernel
theorem dX6_saves_27 : decode cX6_saves 27 = .ok (.iload_n 1, 1) := by decide +kernel
theorem dX6_saves_28 : decode cX6_saves 28 = .ok (.bipush 86, 2) := by decide +kernel
theorem dX6_saves_30 : decode cX6_saves 30 = .ok (.iadd, 1) := by decide +kernel
theorem dX6_saves_31 : decode cX6_saves 31 = .ok (.iaload, 1) := by decide +kernel
theorem dX6_saves_32 : decode cX6_saves 32 = .ok (.iastore, 1) := by decide +kernel
theorem dX6_saves_33 : decode cX6_saves 33 = .ok (.iinc 1 1, 3) := by decide +kernel
theorem dX6_saves_36 : decode cX6_saves 36 = .ok (.goto (-25), 3) := by decide +kernel
theorem dX6_saves_39 : decode cX6_saves 39 = .ok (.aload_n 0, 1) := by decide +kernel
theorem dX6_saves_40 : decode cX6_saves 40 = .ok (.dup, 1) := by decide +kernel
theorem dX6_saves_41 : decode cX6_saves 41 = .ok (.getfield 33, 3) := by decide +kernel
theorem dX6_saves_44 : decode cX6_saves 44 = .ok (.iconst 1, 1) := by decide +kernel
theorem dX6_saves_45 : decode cX6_saves 45 = .ok (.isub, 1) := by decide +kernel
theorem dX6_saves_46 : decode cX6_saves 46 = .ok (.putfield 33, 3) := by decide +kernel
theorem dX6_saves_49 : decode cX6_saves 49 = .ok (.aload_n 0, 1) := by decide +kernel
theorem dX6_saves_50 : decode cX6_saves 50 = .ok (.getfield 7, 3) := by decide +kernel
theorem dX6_saves_53 : decode cX6_saves 53 = .ok (.iconst 0, 1) := by decide +kernel
theorem dX6_saves_54 : decode cX6_saves 54 = .ok (.aload_n 0, 1) := by decide +kernel
theorem dX6_saves_55 : decode cX6_saves 55 = .ok (.getfield 16, 3) := by decide +kernel
theorem dX6_saves_58 : decode cX6_saves 58 = .ok (.bipush 86, 2) := by decide +kernel
theorem dX6_saves_60 : decode cX6_saves 60 = .ok (.aload_n 0, 1) := by decide +kernel
theorem dX6_saves_61 : decode cX6_saves 61 = .ok (.getfield 33, 3) := by decide +kernel
theorem dX6_saves_64 : decode cX6_saves 64 = .ok (.imul, 1) := by decide +kernel
theorem dX6_saves_65 : decode cX6_saves 65 = .ok (.invokestatic 36, 3) := by decide +kernel
theorem dX6_saves_68 : decode cX6_saves 68 = .ok (.aload_n 0, 1) := by decide +kernel
theorem dX6_saves_69 : decode cX6_saves 69 = .ok (.dup, 1) := by decide +kernel
theorem dX6_saves_70 : decode cX6_saves 70 = .ok (.getfield 33, 3) := by decide +kernel
theorem dX6_saves_73 : decode cX6_saves 73 = .ok (.iconst 1, 1) := by decide +kernel
theorem dX6_saves_74 : decode cX6_saves 74 = .ok (.iadd, 1) := by decide +kernel
theorem dX6_saves_75 : decode cX6_saves 75 = .ok (.putfield 33, 3) := by decide +kernel
theorem dX6_saves_78 : decode cX6_saves 78 = .ok (.return_, 1) := by decide +kernel
theorem dX6_undo_0 : decode cX6_undo 0 = .ok (.aload_n 0, 1) := by decide +kernel
theorem dX6_undo_1 : decode cX6_undo 1 = .ok (.iconst 0, 1) := by decide +kernel
theorem dX6_undo_2 : decode cX6_undo 2 = .ok (.putfield 25, 3) := by decide +kernel
theorem dX6_undo_5 : decode cX6_undo 5 = .ok (.aload_n 0, 1) := by decide +kernel
theorem dX6_undo_6 : decode cX6_undo 6 = .ok (.getfield 33, 3) := by decide +kernel
theorem dX6_undo_9 : decode cX6_undo 9 = .ok (.ifCond .ne 9, 3) := by decide +kernel
theorem dX6_undo_12 : decode cX6_undo 12 = .ok (.aload_n 0, 1) := by decide +kernel
theorem dX6_undo_13 : decode cX6_undo 13 = .ok (.iconst 1, 1) := by decide +kernel
theorem dX6_undo_14 : decode cX6_undo 14 = .ok (.invokevirtual 40, 3) := by decide +kernel
theorem dX6_undo_17 : decode cX6_undo 17 = .ok (.ireturn, 1) := by decide +kernel
theorem dX6_undo_18 : decode cX6_undo 18 = .ok (.aload_n 0, 1) := by decide +kernel
theorem dX6_undo_19 : decode cX6_undo 19 = .ok (.dup, 1) := by decide +kernel
theorem dX6_undo_20 : decode cX6_undo 20 = .ok (.getfield 33, 3) := by decide +kernel
theorem dX6_undo_23 : decode cX6_undo 23 = .ok (.iconst 1, 1) := by decide +kernel
theorem dX6_undo_24 : decode cX6_undo 24 = .ok (.isub, 1) := by decide +kernel
theorem dX6_undo_25 : decode cX6_undo 25 = .ok (.putfield 33, 3) := by decide +kernel
theorem dX6_undo_28 : decode cX6_undo 28 = .ok (.aload_n 0, 1) := by decide +kernel
theorem dX6_undo_29 : decode cX6_undo 29 = .ok (.getfield 16, 3) := by decide +kernel
theorem dX6_undo_32 : decode cX6_undo 32 = .ok (.bipush 86, 2) := by decide +kernel
theorem dX6_undo_34 : decode cX6_undo 34 = .ok (.aload_n 0, 1) := by decide +kernel
theorem dX6_undo_35 : decode cX6_undo 35 = .ok (.getfield 33, 3) := by decide +kernel
theorem dX6_undo_38 : decode cX6_undo 38 = .ok (.imul, 1) := by decide +kernel
theorem dX6_undo_39 : decode cX6_undo 39 = .ok (.aload_n 0, 1) := by decide +kernel
theorem dX6_undo_40 : decode cX6_undo 40 = .ok (.getfield 7, 3) := by decide +kernel
theorem dX6_undo_43 : decode cX6_undo 43 = .ok (.iconst 0, 1) := by decide +kernel
theorem dX6_undo_44 : decode cX6_undo 44 = .ok (.invokestatic 36, 3) := by decide +kernel
theorem dX6_undo_47 : decode cX6_undo 47 = .ok (.aload_n 0, 1) := by decide +kernel
theorem dX6_undo_48 : decode cX6_undo 48 = .ok (.getfield 33, 3) := by decide +kernel
theorem dX6_undo_51 : decode cX6_undo 51 = .ok (.ireturn, 1) := by decide +kernel
theorem dX6_lamp_0 : decode cX6_lamp 0 = .ok (.aload_n 0, 1) := by decide +kernel
theorem dX6_lamp_1 : decode cX6_lamp 1 = .ok (.bipush 7, 2) := by decide +kernel
theorem dX6_lamp_3 : decode cX6_lamp 3 = .ok (.iaload, 1) := by decide +kernel
theorem dX6_lamp_4 : decode cX6_lamp 4 = .ok (.iconst 1, 1) := by decide +kernel
theorem dX6_lamp_5 : decode cX6_lamp 5 = .ok (.if_icmp .ne 5, 3) := by decide +kernel
theorem dX6_lamp_8 : decode cX6_lamp 8 = .ok (.iconst 3, 1) := by decide +kernel
theorem dX6_lamp_9 : decode cX6_lamp 9 = .ok (.ireturn, 1) := by decide +kernel
theorem dX6_lamp_10 : decode cX6_lamp 10 = .ok (.aload_n 0, 1) := by decide +kernel
theorem dX6_lamp_11 : decode cX6_lamp 11 = .ok (.iload_n 1, 1) := by decide +kernel
theorem dX6_lamp_12 : decode cX6_lamp 12 = .ok (.iconst 0, 1) := by decide +kernel
theorem dX6_lamp_13 : decode cX6_lamp 13 = .ok (.invokestatic 44, 3) := by decide +kernel
theorem dX6_lamp_16 : decode cX6_lamp 16 = .ok (.istore_n 2, 1) := by decide +kernel
theorem dX6_lamp_17 : decode cX6_lamp 17 = .ok (.iload_n 2, 1) := by decide +kernel
theorem dX6_lamp_18 : decode cX6_lamp 18 = .ok (.ifCond .ne 10, 3) := by decide +kernel
theorem dX6_lamp_21 : decode cX6_lamp 21 = .ok (.aload_n 0, 1) := by decide +kernel
theorem dX6_lamp_22 : decode cX6_lamp 22 = .ok (.bipush 6, 2) := by decide +kernel
theorem dX6_lamp_24 : decode cX6_lamp 24 = .ok (.iaload, 1) := by decide +kernel
theorem dX6_lamp_25 : decode cX6_lamp 25 = .ok (.goto 15, 3) := by decide +kernel
theorem dX6_lamp_28 : decode cX6_lamp 28 = .ok (.iload_n 2, 1) := by decide +kernel
theorem dX6_lamp_29 : decode cX6_lamp 29 = .ok (.aload_n 0, 1) := by decide +kernel
theorem dX6_lamp_30 : decode cX6_lamp 30 = .ok (.iconst 1, 1) := by decide +kernel
theorem dX6_lamp_31 : decode cX6_lamp 31 = .ok (.iaload, 1) := by decide +kernel
theorem dX6_lamp_32 : decode cX6_lamp 32 = .ok (.if_icmp .gt 7, 3) := by decide +kernel
theorem dX6_lamp_35 : decode cX6_lamp 35 = .ok (.iconst 2, 1) := by decide +kernel
theorem dX6_lamp_36 : decode cX6_lamp 36 = .ok (.goto 4, 3) := by decide +kernel
theorem dX6_lamp_39 : decode cX6_lamp 39 = .ok (.iconst 3, 1) := by decide +kernel
theorem dX6_lamp_40 : decode cX6_lamp 40 = .ok (.ireturn, 1) := by decide +kernel
theorem dX6_switches_0 : decode cX6_switches 0 = .ok (.bipush 9, 2) := by decide +kernel
theorem dX6_switches_2 : decode cX6_switches 2 = .ok (.bipush 6, 2) := by decide +kernel
theorem dX6_switches_4 : decode cX6_switches 4 = .ok (.iload_n 1, 1) := by decide +kernel
theorem dX6_switches_5 : decode cX6_switches 5 = .ok (.imul, 1) := by decide +kernel
theorem dX6_switches_6 : decode cX6_switches 6 = .ok (.iadd, 1) := by decide +kernel
theorem dX6_switches_7 : decode cX6_switches 7 = .ok (.istore_n 2, 1) := by decide +kernel
theorem dX6_switches_8 : decode cX6_switches 8 = .ok (.aload_n 0, 1) := by decide +kernel
theorem dX6_switches_9 : decode cX6_switches 9 = .ok (.iload_n 2, 1) := by decide +kernel
theorem dX6_switches_10 : decode cX6_switches 10 = .ok (.iconst 5, 1) := by decide +kernel
theorem dX6_switches_11 : decode cX6_switches 11 = .ok (.iadd, 1) := by decide +kernel
theorem dX6_switches_12 : decode cX6_switches 12 = .ok (.dup2, 1) := by decide +kernel
theorem dX6_switches_13 : decode cX6_switches 13 = .ok (.iaload, 1) := by decide +kernel
theorem dX6_switches_14 : decode cX6_switches 14 = .ok (.aload_n 0, 1) := by decide +kernel
theorem dX6_switches_15 : decode cX6_switches 15 = .ok (.iload_n 2, 1) := by decide +kernel
theorem dX6_switches_16 : decode cX6_switches 16 = .ok (.iaload, 1) := by decide +kernel
theorem dX6_switches_17 : decode cX6_switches 17 = .ok (.ifCond .ne 7, 3) := by decide +kernel
theorem dX6_switches_20 : decode cX6_switches 20 = .ok (.iconst 1, 1) := by decide +kernel
theorem dX6_switches_21 : decode cX6_switches 21 = .ok (.goto 4, 3) := by decide +kernel
theorem dX6_switches_24 : decode cX6_switches 24 = .ok (.iconst 0, 1) := by decide +kernel
theorem dX6_switches_25 : decode cX6_switches 25 = .ok (.iadd, 1) := by decide +kernel
theorem dX6_switches_26 : decode cX6_switches 26 = .ok (.iastore, 1) := by decide +kernel
theorem dX6_switches_27 : decode cX6_switches 27 = .ok (.aload_n 0, 1) := by decide +kernel
theorem dX6_switches_28 : decode cX6_switches 28 = .ok (.iload_n 2, 1) := by decide +kernel
theorem dX6_switches_29 : decode cX6_switches 29 = .ok (.aload_n 0, 1) := by decide +kernel
theorem dX6_switches_30 : decode cX6_switches 30 = .ok (.iload_n 2, 1) := by decide +kernel
theorem dX6_switches_31 : decode cX6_switches 31 = .ok (.iaload, 1) := by decide +kernel
theorem dX6_switches_32 : decode cX6_switches 32 = .ok (.aload_n 0, 1) := by decide +kernel
theorem dX6_switches_33 : decode cX6_switches 33 = .ok (.iconst 0, 1) := by decide +kernel
theorem dX6_switches_34 : decode cX6_switches 34 = .ok (.iaload, 1) := by decide +kernel
theorem dX6_switches_35 : decode cX6_switches 35 = .ok (.if_icmp .ge 9, 3) := by decide +kernel
theorem dX6_switches_38 : decode cX6_switches 38 = .ok (.aload_n 0, 1) := by decide +kernel
theorem dX6_switches_39 : decode cX6_switches 39 = .ok (.iconst 0, 1) := by decide +kernel
theorem dX6_switches_40 : decode cX6_switches 40 = .ok (.iaload, 1) := by decide +kernel
theorem dX6_switches_41 : decode cX6_switches 41 = .ok (.goto 6, 3) := by decide +kernel
theorem dX6_switches_44 : decode cX6_switches 44 = .ok (.aload_n 0, 1) := by decide +kernel
theorem dX6_switches_45 : decode cX6_switches 45 = .ok (.iload_n 2, 1) := by decide +kernel
theorem dX6_switches_46 : decode cX6_switches 46 = .ok (.iaload, 1) := by decide +kernel
theorem dX6_switches_47 : decode cX6_switches 47 = .ok (.iastore, 1) := by decide +kernel
theorem dX6_switches_48 : decode cX6_switches 48 = .ok (.return_, 1) := by decide +kernel
theorem dX6_on_0 : decode cX6_on 0 = .ok (.iconst 0, 1) := by decide +kernel
theorem dX6_on_1 : decode cX6_on 1 = .ok (.istore_n 2, 1) := by decide +kernel
theorem dX6_on_2 : decode cX6_on 2 = .ok (.iconst 0, 1) := by decide +kernel
theorem dX6_on_3 : decode cX6_on 3 = .ok (.istore_n 3, 1) := by decide +kernel
theorem dX6_on_4 : decode cX6_on 4 = .ok (.iload_n 3, 1) := by decide +kernel
theorem dX6_on_5 : decode cX6_on 5 = .ok (.aload_n 0, 1) := by decide +kernel
theorem dX6_on_6 : decode cX6_on 6 = .ok (.bipush 57, 2) := by decide +kernel
theorem dX6_on_8 : decode cX6_on 8 = .ok (.iaload, 1) := by decide +kernel
theorem dX6_on_9 : decode cX6_on 9 = .ok (.if_icmp .ge 27, 3) := by decide +kernel
theorem dX6_on_12 : decode cX6_on 12 = .ok (.iload_n 2, 1) := by decide +kernel
theorem dX6_on_13 : decode cX6_on 13 = .ok (.aload_n 0, 1) := by decide +kernel
theorem dX6_on_14 : decode cX6_on 14 = .ok (.iload_n 3, 1) := by decide +kernel
theorem dX6_on_15 : decode cX6_on 15 = .ok (.iconst 1, 1) := by decide +kernel
theorem dX6_on_16 : decode cX6_on 16 = .ok (.invokestatic 48, 3) := by decide +kernel
theorem dX6_on_19 : decode cX6_on 19 = .ok (.iload_n 1, 1) := by decide +kernel
theorem dX6_on_20 : decode cX6_on 20 = .ok (.if_icmp .ne 7, 3) := by decide +kernel
theorem dX6_on_23 : decode cX6_on 23 = .ok (.iconst 1, 1) := by decide +kernel
theorem dX6_on_24 : decode cX6_on 24 = .ok (.goto 4, 3) := by decide +kernel
theorem dX6_on_27 : decode cX6_on 27 = .ok (.iconst 0, 1) := by decide +kernel
theorem dX6_on_28 : decode cX6_on 28 = .ok (.iadd, 1) := by decide +kernel
theorem dX6_on_29 : decode cX6_on 29 = .ok (.istore_n 2, 1) := by decide +kernel
theorem dX6_on_30 : decode cX6_on 30 = .ok (.iinc 3 1, 3) := by decide +kernel
theorem dX6_on_33 : decode cX6_on 33 = .ok (.goto (-29), 3) := by decide +kernel
theorem dX6_on_36 : decode cX6_on 36 = .ok (.iload_n 2, 1) := by decide +kernel
theorem dX6_on_37 : decode cX6_on 37 = .ok (.ireturn, 1) := by decide +kernel
theorem dX6_leaves_0 : decode cX6_leaves 0 = .ok (.aload_n 0, 1) := by decide +kernel
theorem dX6_leaves_1 : decode cX6_leaves 1 = .ok (.bipush 57, 2) := by decide +kernel
theorem dX6_leaves_3 : decode cX6_leaves 3 = .ok (.dup2, 1) := by decide +kernel
theorem dX6_leaves_4 : decode cX6_leaves 4 = .ok (.iaload, 1) := by decide +kernel
theorem dX6_leaves_5 : decode cX6_leaves 5 = .ok (.iconst 1, 1) := by decide +kernel
theorem dX6_leaves_6 : decode cX6_leaves 6 = .ok (.isub, 1) := by decide +kernel
theorem dX6_leaves_7 : decode cX6_leaves 7 = .ok (.iastore, 1) := by decide +kernel
theorem dX6_leaves_8 : decode cX6_leaves 8 = .ok (.bipush 58, 2) := by decide +kernel
theorem dX6_leaves_10 : decode cX6_leaves 10 = .ok (.iconst 4, 1) := by decide +kernel
theorem dX6_leaves_11 : decode cX6_leaves 11 = .ok (.iload_n 1, 1) := by decide +kernel
theorem dX6_leaves_12 : decode cX6_leaves 12 = .ok (.imul, 1) := by decide +kernel
theorem dX6_leaves_13 : decode cX6_leaves 13 = .ok (.iadd, 1) := by decide +kernel
theorem dX6_leaves_14 : decode cX6_leaves 14 = .ok (.istore_n 2, 1) := by decide +kernel
theorem dX6_leaves_15 : decode cX6_leaves 15 = .ok (.iload_n 2, 1) := by decide +kernel
theorem dX6_leaves_16 : decode cX6_leaves 16 = .ok (.bipush 58, 2) := by decide +kernel
theorem dX6_leaves_18 : decode cX6_leaves 18 = .ok (.iconst 4, 1) := by decide +kernel
theorem dX6_leaves_19 : decode cX6_leaves 19 = .ok (.aload_n 0, 1) := by decide +kernel
theorem dX6_leaves_20 : decode cX6_leaves 20 = .ok (.bipush 57, 2) := by decide +kernel
theorem dX6_leaves_22 : decode cX6_leaves 22 = .ok (.iaload, 1) := by decide +kernel
theorem dX6_leaves_23 : decode cX6_leaves 23 = .ok (.imul, 1) := by decide +kernel
theorem dX6_leaves_24 : decode cX6_leaves 24 = .ok (.iadd, 1) := by decide +kernel
theorem dX6_leaves_25 : decode cX6_leaves 25 = .ok (.if_icmp .ge 17, 3) := by decide +kernel
theorem dX6_leaves_28 : decode cX6_leaves 28 = .ok (.aload_n 0, 1) := by decide +kernel
theorem dX6_leaves_29 : decode cX6_leaves 29 = .ok (.iload_n 2, 1) := by decide +kernel
theorem dX6_leaves_30 : decode cX6_leaves 30 = .ok (.aload_n 0, 1) := by decide +kernel
theorem dX6_leaves_31 : decode cX6_leaves 31 = .ok (.iload_n 2, 1) := by decide +kernel
theorem dX6_leaves_32 : decode cX6_leaves 32 = .ok (.iconst 4, 1) := by decide +kernel
theorem dX6_leaves_33 : decode cX6_leaves 33 = .ok (.iadd, 1) := by decide +kernel
theorem dX6_leaves_34 : decode cX6_leaves 34 = .ok (.iaload, 1) := by decide +kernel
theorem dX6_leaves_35 : decode cX6_leaves 35 = .ok (.iastore, 1) := by decide +kernel
theorem dX6_leaves_36 : decode cX6_leaves 36 = .ok (.iinc 2 1, 3) := by decide +kernel
theorem dX6_leaves_39 : decode cX6_leaves 39 = .ok (.goto (-24), 3) := by decide +kernel
theorem dX6_leaves_42 : decode cX6_leaves 42 = .ok (.return_, 1) := by decide +kernel
theorem dX6_walks_0 : decode cX6_walks 0 = .ok (.iconst 0, 1) := by decide +kernel
theorem dX6_walks_1 : decode cX6_walks 1 = .ok (.istore_n 1, 1) := by decide +kernel
theorem dX6_walks_2 : decode cX6_walks 2 = .ok (.iload_n 1, 1) := by decide +kernel
theorem dX6_walks_3 : decode cX6_walks 3 = .ok (.aload_n 0, 1) := by decide +kernel
theorem dX6_walks_4 : decode cX6_walks 4 = .ok (.bipush 57, 2) := by decide +kernel
theorem dX6_walks_6 : decode cX6_walks 6 = .ok (.iaload, 1) := by decide +kernel
theorem dX6_walks_7 : decode cX6_walks 7 = .ok (.if_icmp .ge 105, 3) := by decide +kernel
theorem dX6_walks_10 : decode cX6_walks 10 = .ok (.bipush 58, 2) := by decide +kernel
theorem dX6_walks_12 : decode cX6_walks 12 = .ok (.iconst 4, 1) := by decide +kernel
theorem dX6_walks_13 : decode cX6_walks 13 = .ok (.iload_n 1, 1) := by decide +kernel
theorem dX6_walks_14 : decode cX6_walks 14 = .ok (.imul, 1) := by decide +kernel
theorem dX6_walks_15 : decode cX6_walks 15 = .ok (.iadd, 1) := by decide +kernel
theorem dX6_walks_16 : decode cX6_walks 16 = .ok (.istore_n 2, 1) := by decide +kernel
theorem dX6_walks_17 : decode cX6_walks 17 = .ok (.aload_n 0, 1) := by decide +kernel
theorem dX6_walks_18 : decode cX6_walks 18 = .ok (.iload_n 2, 1) := by decide +kernel
theorem dX6_walks_19 : decode cX6_walks 19 = .ok (.iconst 1, 1) := by decide +kernel
theorem dX6_walks_20 : decode cX6_walks 20 = .ok (.iadd, 1) := by decide +kernel
theorem dX6_walks_21 : decode cX6_walks 21 = .ok (.iaload, 1) := by decide +kernel
theorem dX6_walks_22 : decode cX6_walks 22 = .ok (.aload_n 0, 1) := by decide +kernel
theorem dX6_walks_23 : decode cX6_walks 23 = .ok (.iload_n 2, 1) := by decide +kernel
theorem dX6_walks_24 : decode cX6_walks 24 = .ok (.iconst 2, 1) := by decide +kernel
theorem dX6_walks_25 : decode cX6_walks 25 = .ok (.iadd, 1) := by decide +kernel
theorem dX6_walks_26 : decode cX6_walks 26 = .ok (.iaload, 1) := by decide +kernel
theorem dX6_walks_27 : decode cX6_walks 27 = .ok (.if_icmp .ne 11, 3) := by decide +kernel
theorem dX6_walks_30 : decode cX6_walks 30 = .ok (.aload_n 0, 1) := by decide +kernel
theorem dX6_walks_31 : decode cX6_walks 31 = .ok (.iload_n 1, 1) := by decide +kernel
theorem dX6_walks_32 : decode cX6_walks 32 = .ok (.invokestatic 51, 3) := by decide +kernel
theorem dX6_walks_35 : decode cX6_walks 35 = .ok (.goto 74, 3) := by decide +kernel
theorem dX6_walks_38 : decode cX6_walks 38 = .ok (.aload_n 0, 1) := by decide +kernel
theorem dX6_walks_39 : decode cX6_walks 39 = .ok (.iload_n 2, 1) := by decide +kernel
theorem dX6_walks_40 : decode cX6_walks 40 = .ok (.iconst 3, 1) := by decide +kernel
theorem dX6_walks_41 : decode cX6_walks 41 = .ok (.iadd, 1) := by decide +kernel
theorem dX6_walks_42 : decode cX6_walks 42 = .ok (.dup2, 1) := by decide +kernel
theorem dX6_walks_43 : decode cX6_walks 43 = .ok (.iaload, 1) := by decide +kernel
theorem dX6_walks_44 : decode cX6_walks 44 = .ok (.iconst 1, 1) := by decide +kernel
theorem dX6_walks_45 : decode cX6_walks 45 = .ok (.isub, 1) := by decide +kernel
theorem dX6_walks_46 : decode cX6_walks 46 = .ok (.iastore, 1) := by decide +kernel
theorem dX6_walks_47 : decode cX6_walks 47 = .ok (.aload_n 0, 1) := by decide +kernel
theorem dX6_walks_48 : decode cX6_walks 48 = .ok (.iload_n 2, 1) := by decide +kernel
theorem dX6_walks_49 : decode cX6_walks 49 = .ok (.iconst 3, 1) := by decide +kernel
theorem dX6_walks_50 : decode cX6_walks 50 = .ok (.iadd, 1) := by decide +kernel
theorem dX6_walks_51 : decode cX6_walks 51 = .ok (.iaload, 1) := by decide +kernel
theorem dX6_walks_52 : decode cX6_walks 52 = .ok (.ifCond .ne 54, 3) := by decide +kernel
theorem dX6_walks_55 : decode cX6_walks 55 = .ok (.aload_n 0, 1) := by decide +kernel
theorem dX6_walks_56 : decode cX6_walks 56 = .ok (.iload_n 2, 1) := by decide +kernel
theorem dX6_walks_57 : decode cX6_walks 57 = .ok (.iconst 1, 1) := by decide +kernel
theorem dX6_walks_58 : decode cX6_walks 58 = .ok (.iadd, 1) := by decide +kernel
theorem dX6_walks_59 : decode cX6_walks 59 = .ok (.dup2, 1) := by decide +kernel
theorem dX6_walks_60 : decode cX6_walks 60 = .ok (.iaload, 1) := by decide +kernel
theorem dX6_walks_61 : decode cX6_walks 61 = .ok (.aload_n 0, 1) := by decide +kernel
theorem dX6_walks_62 : decode cX6_walks 62 = .ok (.iload_n 2, 1) := by decide +kernel
theorem dX6_walks_63 : decode cX6_walks 63 = .ok (.iconst 2, 1) := by decide +kernel
theorem dX6_walks_64 : decode cX6_walks 64 = .ok (.iadd, 1) := by decide +kernel
theorem dX6_walks_65 : decode cX6_walks 65 = .ok (.iaload, 1) := by decide +kernel
theorem dX6_walks_66 : decode cX6_walks 66 = .ok (.aload_n 0, 1) := by decide +kernel
theorem dX6_walks_67 : decode cX6_walks 67 = .ok (.iload_n 2, 1) := by decide +kernel
theorem dX6_walks_68 : decode cX6_walks 68 = .ok (.iconst 1, 1) := by decide +kernel
theorem dX6_walks_69 : decode cX6_walks 69 = .ok (.iadd, 1) := by decide +kernel
theorem dX6_walks_70 : decode cX6_walks 70 = .ok (.iaload, 1) := by decide +kernel
theorem dX6_walks_71 : decode cX6_walks 71 = .ok (.if_icmp .le 7, 3) := by decide +kernel
theorem dX6_walks_74 : decode cX6_walks 74 = .ok (.iconst 1, 1) := by decide +kernel
theorem dX6_walks_75 : decode cX6_walks 75 = .ok (.goto 4, 3) := by decide +kernel
theorem dX6_walks_78 : decode cX6_walks 78 = .ok (.iconst (-1), 1) := by decide +kernel
theorem dX6_walks_79 : decode cX6_walks 79 = .ok (.iadd, 1) := by decide +kernel
theorem dX6_walks_80 : decode cX6_walks 80 = .ok (.iastore, 1) := by decide +kernel
theorem dX6_walks_81 : decode cX6_walks 81 = .ok (.aload_n 0, 1) := by decide +kernel
theorem dX6_walks_82 : decode cX6_walks 82 = .ok (.iload_n 2, 1) := by decide +kernel
theorem dX6_walks_83 : decode cX6_walks 83 = .ok (.iconst 3, 1) := by decide +kernel
theorem dX6_walks_84 : decode cX6_walks 84 = .ok (.iadd, 1) := by decide +kernel
theorem dX6_walks_85 : decode cX6_walks 85 = .ok (.aload_n 0, 1) := by decide +kernel
theorem dX6_walks_86 : decode cX6_walks 86 = .ok (.iload_n 2, 1) := by decide +kernel
theorem dX6_walks_87 : decode cX6_walks 87 = .ok (.iconst 1, 1) := by decide +kernel
theorem dX6_walks_88 : decode cX6_walks 88 = .ok (.iadd, 1) := by decide +kernel
theorem dX6_walks_89 : decode cX6_walks 89 = .ok (.iaload, 1) := by decide +kernel
theorem dX6_walks_90 : decode cX6_walks 90 = .ok (.aload_n 0, 1) := by decide +kernel
theorem dX6_walks_91 : decode cX6_walks 91 = .ok (.iload_n 2, 1) := by decide +kernel
theorem dX6_walks_92 : decode cX6_walks 92 = .ok (.iconst 2, 1) := by decide +kernel
theorem dX6_walks_93 : decode cX6_walks 93 = .ok (.iadd, 1) := by decide +kernel
theorem dX6_walks_94 : decode cX6_walks 94 = .ok (.iaload, 1) := by decide +kernel
theorem dX6_walks_95 : decode cX6_walks 95 = .ok (.if_icmp .ne 7, 3) := by decide +kernel
theorem dX6_walks_98 : decode cX6_walks 98 = .ok (.iconst 0, 1) := by decide +kernel
theorem dX6_walks_99 : decode cX6_walks 99 = .ok (.goto 6, 3) := by decide +kernel
theorem dX6_walks_102 : decode cX6_walks 102 = .ok (.aload_n 0, 1) := by decide +kernel
theorem dX6_walks_103 : decode cX6_walks 103 = .ok (.iconst 3, 1) := by decide +kernel
theorem dX6_walks_104 : decode cX6_walks 104 = .ok (.iaload, 1) := by decide +kernel
theorem dX6_walks_105 : decode cX6_walks 105 = .ok (.iastore, 1) := by decide +kernel
theorem dX6_walks_106 : decode cX6_walks 106 = .ok (.iinc 1 1, 3) := by decide +kernel
theorem dX6_walks_109 : decode cX6_walks 109 = .ok (.goto (-107), 3) := by decide +kernel
theorem dX6_walks_112 : decode cX6_walks 112 = .ok (.return_, 1) := by decide +kernel
theorem dX6_looks_0 : decode cX6_looks 0 = .ok (.iconst 0, 1) := by decide +kernel
theorem dX6_looks_1 : decode cX6_looks 1 = .ok (.istore_n 1, 1) := by decide +kernel
theorem dX6_looks_2 : decode cX6_looks 2 = .ok (.iload_n 1, 1) := by decide +kernel
theorem dX6_looks_3 : decode cX6_looks 3 = .ok (.bipush 8, 2) := by decide +kernel
theorem dX6_looks_5 : decode cX6_looks 5 = .ok (.if_icmp .ge 70, 3) := by decide +kernel
theorem dX6_looks_8 : decode cX6_looks 8 = .ok (.aload_n 0, 1) := by decide +kernel
theorem dX6_looks_9 : decode cX6_looks 9 = .ok (.iload_n 1, 1) := by decide +kernel
theorem dX6_looks_10 : decode cX6_looks 10 = .ok (.iconst 1, 1) := by decide +kernel
theorem dX6_looks_11 : decode cX6_looks 11 = .ok (.invokestatic 44, 3) := by decide +kernel
theorem dX6_looks_14 : decode cX6_looks 14 = .ok (.iconst 1, 1) := by decide +kernel
theorem dX6_looks_15 : decode cX6_looks 15 = .ok (.if_icmp .ne 54, 3) := by decide +kernel
theorem dX6_looks_18 : decode cX6_looks 18 = .ok (.aload_n 0, 1) := by decide +kernel
theorem dX6_looks_19 : decode cX6_looks 19 = .ok (.iload_n 1, 1) := by decide +kernel
theorem dX6_looks_20 : decode cX6_looks 20 = .ok (.invokestatic 55, 3) := by decide +kernel
theorem dX6_looks_23 : decode cX6_looks 23 = .ok (.ifCond .le 46, 3) := by decide +kernel
theorem dX6_looks_26 : decode cX6_looks 26 = .ok (.aload_n 0, 1) := by decide +kernel
theorem dX6_looks_27 : decode cX6_looks 27 = .ok (.iload_n 1, 1) := by decide +kernel
theorem dX6_looks_28 : decode cX6_looks 28 = .ok (.invokestatic 59, 3) := by decide +kernel
theorem dX6_looks_31 : decode cX6_looks 31 = .ok (.aload_n 0, 1) := by decide +kernel
theorem dX6_looks_32 : decode cX6_looks 32 = .ok (.iconst 2, 1) := by decide +kernel
theorem dX6_looks_33 : decode cX6_looks 33 = .ok (.iaload, 1) := by decide +kernel
theorem dX6_looks_34 : decode cX6_looks 34 = .ok (.iconst 1, 1) := by decide +kernel
theorem dX6_looks_35 : decode cX6_looks 35 = .ok (.if_icmp .ne 14, 3) := by decide +kernel
theorem dX6_looks_38 : decode cX6_looks 38 = .ok (.iload_n 1, 1) := by decide +kernel
theorem dX6_looks_39 : decode cX6_looks 39 = .ok (.ifCond .le 10, 3) := by decide +kernel
theorem dX6_looks_42 : decode cX6_looks 42 = .ok (.aload_n 0, 1) := by decide +kernel
theorem dX6_looks_43 : decode cX6_looks 43 = .ok (.iload_n 1, 1) := by decide +kernel
theorem dX6_looks_44 : decode cX6_looks 44 = .ok (.iconst 1, 1) := by decide +kernel
theorem dX6_looks_45 : decode cX6_looks 45 = .ok (.isub, 1) := by decide +kernel
theorem dX6_looks_46 : decode cX6_looks 46 = .ok (.invokestatic 59, 3) := by decide +kernel
theorem dX6_looks_49 : decode cX6_looks 49 = .ok (.aload_n 0, 1) := by decide +kernel
theorem dX6_looks_50 : decode cX6_looks 50 = .ok (.iconst 2, 1) := by decide +kernel
theorem dX6_looks_51 : decode cX6_looks 51 = .ok (.iaload, 1) := by decide +kernel
theorem dX6_looks_52 : decode cX6_looks 52 = .ok (.iconst 1, 1) := by decide +kernel
theorem dX6_looks_53 : decode cX6_looks 53 = .ok (.if_icmp .ne 16, 3) := by decide +kernel
end
section
theorem dX6_looks_56 : decode cX6_looks 56 = .ok (.iload_n 1, 1) := by decide +kernel
theorem dX6_looks_57 : decode cX6_looks 57 = .ok (.bipush 7, 2) := by decide +kernel
theorem dX6_looks_59 : decode cX6_looks 59 = .ok (.if_icmp .ge 10, 3) := by decide +kernel
theorem dX6_looks_62 : decode cX6_looks 62 = .ok (.aload_n 0, 1) := by decide +kernel
theorem dX6_looks_63 : decode cX6_looks 63 = .ok (.iload_n 1, 1) := by decide +kernel
theorem dX6_looks_64 : decode cX6_looks 64 = .ok (.iconst 1, 1) := by decide +kernel
theorem dX6_looks_65 : decode cX6_looks 65 = .ok (.iadd, 1) := by decide +kernel
theorem dX6_looks_66 : decode cX6_looks 66 = .ok (.invokestatic 59, 3) := by decide +kernel
theorem dX6_looks_69 : decode cX6_looks 69 = .ok (.iinc 1 1, 3) := by decide +kernel
theorem dX6_looks_72 : decode cX6_looks 72 = .ok (.goto (-70), 3) := by decide +kernel
theorem dX6_looks_75 : decode cX6_looks 75 = .ok (.return_, 1) := by decide +kernel
theorem dX6_second_0 : decode cX6_second 0 = .ok (.aload_n 1, 1) := by decide +kernel
theorem dX6_second_1 : decode cX6_second 1 = .ok (.invokestatic 62, 3) := by decide +kernel
theorem dX6_second_4 : decode cX6_second 4 = .ok (.aload_n 1, 1) := by decide +kernel
theorem dX6_second_5 : decode cX6_second 5 = .ok (.invokestatic 66, 3) := by decide +kernel
theorem dX6_second_8 : decode cX6_second 8 = .ok (.iconst 0, 1) := by decide +kernel
theorem dX6_second_9 : decode cX6_second 9 = .ok (.istore_n 2, 1) := by decide +kernel
theorem dX6_second_10 : decode cX6_second 10 = .ok (.iload_n 2, 1) := by decide +kernel
theorem dX6_second_11 : decode cX6_second 11 = .ok (.aload_n 1, 1) := by decide +kernel
theorem dX6_second_12 : decode cX6_second 12 = .ok (.bipush 57, 2) := by decide +kernel
theorem dX6_second_14 : decode cX6_second 14 = .ok (.iaload, 1) := by decide +kernel
theorem dX6_second_15 : decode cX6_second 15 = .ok (.if_icmp .ge 112, 3) := by decide +kernel
theorem dX6_second_18 : decode cX6_second 18 = .ok (.aload_n 1, 1) := by decide +kernel
theorem dX6_second_19 : decode cX6_second 19 = .ok (.iload_n 2, 1) := by decide +kernel
theorem dX6_second_20 : decode cX6_second 20 = .ok (.iconst 1, 1) := by decide +kernel
theorem dX6_second_21 : decode cX6_second 21 = .ok (.invokestatic 48, 3) := by decide +kernel
theorem dX6_second_24 : decode cX6_second 24 = .ok (.istore_n 3, 1) := by decide +kernel
theorem dX6_second_25 : decode cX6_second 25 = .ok (.aload_n 1, 1) := by decide +kernel
theorem dX6_second_26 : decode cX6_second 26 = .ok (.iload_n 3, 1) := by decide +kernel
theorem dX6_second_27 : decode cX6_second 27 = .ok (.invokestatic 69, 3) := by decide +kernel
theorem dX6_second_30 : decode cX6_second 30 = .ok (.istore 4, 2) := by decide +kernel
theorem dX6_second_32 : decode cX6_second 32 = .ok (.aload_n 1, 1) := by decide +kernel
theorem dX6_second_33 : decode cX6_second 33 = .ok (.bipush 9, 2) := by decide +kernel
theorem dX6_second_35 : decode cX6_second 35 = .ok (.bipush 6, 2) := by decide +kernel
theorem dX6_second_37 : decode cX6_second 37 = .ok (.iload_n 3, 1) := by decide +kernel
theorem dX6_second_38 : decode cX6_second 38 = .ok (.imul, 1) := by decide +kernel
theorem dX6_second_39 : decode cX6_second 39 = .ok (.iadd, 1) := by decide +kernel
theorem dX6_second_40 : decode cX6_second 40 = .ok (.iconst 2, 1) := by decide +kernel
theorem dX6_second_41 : decode cX6_second 41 = .ok (.iadd, 1) := by decide +kernel
theorem dX6_second_42 : decode cX6_second 42 = .ok (.dup2, 1) := by decide +kernel
theorem dX6_second_43 : decode cX6_second 43 = .ok (.iaload, 1) := by decide +kernel
theorem dX6_second_44 : decode cX6_second 44 = .ok (.iload 4, 2) := by decide +kernel
theorem dX6_second_46 : decode cX6_second 46 = .ok (.ifCond .ne 7, 3) := by decide +kernel
theorem dX6_second_49 : decode cX6_second 49 = .ok (.iconst 1, 1) := by decide +kernel
theorem dX6_second_50 : decode cX6_second 50 = .ok (.goto 4, 3) := by decide +kernel
theorem dX6_second_53 : decode cX6_second 53 = .ok (.iconst 0, 1) := by decide +kernel
theorem dX6_second_54 : decode cX6_second 54 = .ok (.iadd, 1) := by decide +kernel
theorem dX6_second_55 : decode cX6_second 55 = .ok (.iastore, 1) := by decide +kernel
theorem dX6_second_56 : decode cX6_second 56 = .ok (.aload_n 1, 1) := by decide +kernel
theorem dX6_second_57 : decode cX6_second 57 = .ok (.bipush 9, 2) := by decide +kernel
theorem dX6_second_59 : decode cX6_second 59 = .ok (.bipush 6, 2) := by decide +kernel
theorem dX6_second_61 : decode cX6_second 61 = .ok (.iload_n 3, 1) := by decide +kernel
theorem dX6_second_62 : decode cX6_second 62 = .ok (.imul, 1) := by decide +kernel
theorem dX6_second_63 : decode cX6_second 63 = .ok (.iadd, 1) := by decide +kernel
theorem dX6_second_64 : decode cX6_second 64 = .ok (.iconst 3, 1) := by decide +kernel
theorem dX6_second_65 : decode cX6_second 65 = .ok (.iadd, 1) := by decide +kernel
theorem dX6_second_66 : decode cX6_second 66 = .ok (.dup2, 1) := by decide +kernel
theorem dX6_second_67 : decode cX6_second 67 = .ok (.iaload, 1) := by decide +kernel
theorem dX6_second_68 : decode cX6_second 68 = .ok (.iload 4, 2) := by decide +kernel
theorem dX6_second_70 : decode cX6_second 70 = .ok (.iconst 1, 1) := by decide +kernel
theorem dX6_second_71 : decode cX6_second 71 = .ok (.if_icmp .ne 7, 3) := by decide +kernel
theorem dX6_second_74 : decode cX6_second 74 = .ok (.iconst 1, 1) := by decide +kernel
theorem dX6_second_75 : decode cX6_second 75 = .ok (.goto 4, 3) := by decide +kernel
theorem dX6_second_78 : decode cX6_second 78 = .ok (.iconst 0, 1) := by decide +kernel
theorem dX6_second_79 : decode cX6_second 79 = .ok (.iadd, 1) := by decide +kernel
theorem dX6_second_80 : decode cX6_second 80 = .ok (.iastore, 1) := by decide +kernel
theorem dX6_second_81 : decode cX6_second 81 = .ok (.aload_n 1, 1) := by decide +kernel
theorem dX6_second_82 : decode cX6_second 82 = .ok (.bipush 8, 2) := by decide +kernel
theorem dX6_second_84 : decode cX6_second 84 = .ok (.dup2, 1) := by decide +kernel
theorem dX6_second_85 : decode cX6_second 85 = .ok (.iaload, 1) := by decide +kernel
theorem dX6_second_86 : decode cX6_second 86 = .ok (.iconst 1, 1) := by decide +kernel
theorem dX6_second_87 : decode cX6_second 87 = .ok (.iadd, 1) := by decide +kernel
theorem dX6_second_88 : decode cX6_second 88 = .ok (.iastore, 1) := by decide +kernel
theorem dX6_second_89 : decode cX6_second 89 = .ok (.aload_n 0, 1) := by decide +kernel
theorem dX6_second_90 : decode cX6_second 90 = .ok (.dup, 1) := by decide +kernel
theorem dX6_second_91 : decode cX6_second 91 = .ok (.getfield 72, 3) := by decide +kernel
theorem dX6_second_94 : decode cX6_second 94 = .ok (.iload 4, 2) := by decide +kernel
theorem dX6_second_96 : decode cX6_second 96 = .ok (.ifCond .ne 20, 3) := by decide +kernel
theorem dX6_second_99 : decode cX6_second 99 = .ok (.aload_n 1, 1) := by decide +kernel
theorem dX6_second_100 : decode cX6_second 100 = .ok (.iload_n 2, 1) := by decide +kernel
theorem dX6_second_101 : decode cX6_second 101 = .ok (.iconst 0, 1) := by decide +kernel
theorem dX6_second_102 : decode cX6_second 102 = .ok (.invokestatic 48, 3) := by decide +kernel
theorem dX6_second_105 : decode cX6_second 105 = .ok (.aload_n 0, 1) := by decide +kernel
theorem dX6_second_106 : decode cX6_second 106 = .ok (.getfield 75, 3) := by decide +kernel
theorem dX6_second_109 : decode cX6_second 109 = .ok (.if_icmp .ne 7, 3) := by decide +kernel
theorem dX6_second_112 : decode cX6_second 112 = .ok (.iconst 1, 1) := by decide +kernel
theorem dX6_second_113 : decode cX6_second 113 = .ok (.goto 4, 3) := by decide +kernel
theorem dX6_second_116 : decode cX6_second 116 = .ok (.iconst 0, 1) := by decide +kernel
theorem dX6_second_117 : decode cX6_second 117 = .ok (.iadd, 1) := by decide +kernel
theorem dX6_second_118 : decode cX6_second 118 = .ok (.putfield 72, 3) := by decide +kernel
theorem dX6_second_121 : decode cX6_second 121 = .ok (.iinc 2 1, 3) := by decide +kernel
theorem dX6_second_124 : decode cX6_second 124 = .ok (.goto (-114), 3) := by decide +kernel
theorem dX6_second_127 : decode cX6_second 127 = .ok (.iconst 0, 1) := by decide +kernel
theorem dX6_second_128 : decode cX6_second 128 = .ok (.istore_n 2, 1) := by decide +kernel
theorem dX6_second_129 : decode cX6_second 129 = .ok (.iload_n 2, 1) := by decide +kernel
theorem dX6_second_130 : decode cX6_second 130 = .ok (.bipush 8, 2) := by decide +kernel
theorem dX6_second_132 : decode cX6_second 132 = .ok (.if_icmp .ge 65, 3) := by decide +kernel
theorem dX6_second_135 : decode cX6_second 135 = .ok (.aload_n 1, 1) := by decide +kernel
theorem dX6_second_136 : decode cX6_second 136 = .ok (.iload_n 2, 1) := by decide +kernel
theorem dX6_second_137 : decode cX6_second 137 = .ok (.invokestatic 69, 3) := by decide +kernel
theorem dX6_second_140 : decode cX6_second 140 = .ok (.istore_n 3, 1) := by decide +kernel
theorem dX6_second_141 : decode cX6_second 141 = .ok (.bipush 9, 2) := by decide +kernel
theorem dX6_second_143 : decode cX6_second 143 = .ok (.bipush 6, 2) := by decide +kernel
theorem dX6_second_145 : decode cX6_second 145 = .ok (.iload_n 2, 1) := by decide +kernel
theorem dX6_second_146 : decode cX6_second 146 = .ok (.imul, 1) := by decide +kernel
theorem dX6_second_147 : decode cX6_second 147 = .ok (.iadd, 1) := by decide +kernel
theorem dX6_second_148 : decode cX6_second 148 = .ok (.istore 4, 2) := by decide +kernel
theorem dX6_second_150 : decode cX6_second 150 = .ok (.aload_n 1, 1) := by decide +kernel
theorem dX6_second_151 : decode cX6_second 151 = .ok (.iload 4, 2) := by decide +kernel
theorem dX6_second_153 : decode cX6_second 153 = .ok (.iconst 4, 1) := by decide +kernel
theorem dX6_second_154 : decode cX6_second 154 = .ok (.iadd, 1) := by decide +kernel
theorem dX6_second_155 : decode cX6_second 155 = .ok (.dup2, 1) := by decide +kernel
theorem dX6_second_156 : decode cX6_second 156 = .ok (.iaload, 1) := by decide +kernel
theorem dX6_second_157 : decode cX6_second 157 = .ok (.iload_n 3, 1) := by decide +kernel
theorem dX6_second_158 : decode cX6_second 158 = .ok (.iconst 2, 1) := by decide +kernel
theorem dX6_second_159 : decode cX6_second 159 = .ok (.if_icmp .lt 8, 3) := by decide +kernel
theorem dX6_second_162 : decode cX6_second 162 = .ok (.bipush 10, 2) := by decide +kernel
theorem dX6_second_164 : decode cX6_second 164 = .ok (.goto 6, 3) := by decide +kernel
theorem dX6_second_167 : decode cX6_second 167 = .ok (.iconst 3, 1) := by decide +kernel
theorem dX6_second_168 : decode cX6_second 168 = .ok (.iload_n 3, 1) := by decide +kernel
theorem dX6_second_169 : decode cX6_second 169 = .ok (.imul, 1) := by decide +kernel
theorem dX6_second_170 : decode cX6_second 170 = .ok (.iadd, 1) := by decide +kernel
theorem dX6_second_171 : decode cX6_second 171 = .ok (.iastore, 1) := by decide +kernel
theorem dX6_second_172 : decode cX6_second 172 = .ok (.aload_n 1, 1) := by decide +kernel
theorem dX6_second_173 : decode cX6_second 173 = .ok (.iload 4, 2) := by decide +kernel
theorem dX6_second_175 : decode cX6_second 175 = .ok (.dup2, 1) := by decide +kernel
theorem dX6_second_176 : decode cX6_second 176 = .ok (.iaload, 1) := by decide +kernel
theorem dX6_second_177 : decode cX6_second 177 = .ok (.aload_n 1, 1) := by decide +kernel
theorem dX6_second_178 : decode cX6_second 178 = .ok (.iload 4, 2) := by decide +kernel
theorem dX6_second_180 : decode cX6_second 180 = .ok (.iaload, 1) := by decide +kernel
theorem dX6_second_181 : decode cX6_second 181 = .ok (.ifCond .le 7, 3) := by decide +kernel
theorem dX6_second_184 : decode cX6_second 184 = .ok (.iconst 1, 1) := by decide +kernel
theorem dX6_second_185 : decode cX6_second 185 = .ok (.goto 4, 3) := by decide +kernel
theorem dX6_second_188 : decode cX6_second 188 = .ok (.iconst 0, 1) := by decide +kernel
theorem dX6_second_189 : decode cX6_second 189 = .ok (.isub, 1) := by decide +kernel
theorem dX6_second_190 : decode cX6_second 190 = .ok (.iastore, 1) := by decide +kernel
theorem dX6_second_191 : decode cX6_second 191 = .ok (.iinc 2 1, 3) := by decide +kernel
theorem dX6_second_194 : decode cX6_second 194 = .ok (.goto (-65), 3) := by decide +kernel
theorem dX6_second_197 : decode cX6_second 197 = .ok (.aload_n 1, 1) := by decide +kernel
theorem dX6_second_198 : decode cX6_second 198 = .ok (.iconst 4, 1) := by decide +kernel
theorem dX6_second_199 : decode cX6_second 199 = .ok (.dup2, 1) := by decide +kernel
theorem dX6_second_200 : decode cX6_second 200 = .ok (.iaload, 1) := by decide +kernel
theorem dX6_second_201 : decode cX6_second 201 = .ok (.iconst 1, 1) := by decide +kernel
theorem dX6_second_202 : decode cX6_second 202 = .ok (.iadd, 1) := by decide +kernel
theorem dX6_second_203 : decode cX6_second 203 = .ok (.iastore, 1) := by decide +kernel
theorem dX6_second_204 : decode cX6_second 204 = .ok (.return_, 1) := by decide +kernel
theorem dX6_sum_0 : decode cX6_sum 0 = .ok (.iconst 0, 1) := by decide +kernel
theorem dX6_sum_1 : decode cX6_sum 1 = .ok (.istore_n 2, 1) := by decide +kernel
theorem dX6_sum_2 : decode cX6_sum 2 = .ok (.iconst 0, 1) := by decide +kernel
theorem dX6_sum_3 : decode cX6_sum 3 = .ok (.istore_n 3, 1) := by decide +kernel
theorem dX6_sum_4 : decode cX6_sum 4 = .ok (.iload_n 3, 1) := by decide +kernel
theorem dX6_sum_5 : decode cX6_sum 5 = .ok (.bipush 8, 2) := by decide +kernel
theorem dX6_sum_7 : decode cX6_sum 7 = .ok (.if_icmp .ge 18, 3) := by decide +kernel
theorem dX6_sum_10 : decode cX6_sum 10 = .ok (.iload_n 2, 1) := by decide +kernel
theorem dX6_sum_11 : decode cX6_sum 11 = .ok (.aload_n 0, 1) := by decide +kernel
theorem dX6_sum_12 : decode cX6_sum 12 = .ok (.iload_n 3, 1) := by decide +kernel
theorem dX6_sum_13 : decode cX6_sum 13 = .ok (.iload_n 1, 1) := by decide +kernel
theorem dX6_sum_14 : decode cX6_sum 14 = .ok (.invokestatic 44, 3) := by decide +kernel
theorem dX6_sum_17 : decode cX6_sum 17 = .ok (.iadd, 1) := by decide +kernel
theorem dX6_sum_18 : decode cX6_sum 18 = .ok (.istore_n 2, 1) := by decide +kernel
theorem dX6_sum_19 : decode cX6_sum 19 = .ok (.iinc 3 1, 3) := by decide +kernel
theorem dX6_sum_22 : decode cX6_sum 22 = .ok (.goto (-18), 3) := by decide +kernel
theorem dX6_sum_25 : decode cX6_sum 25 = .ok (.iload_n 2, 1) := by decide +kernel
theorem dX6_sum_26 : decode cX6_sum 26 = .ok (.ireturn, 1) := by decide +kernel
theorem dX6_lit_0 : decode cX6_lit 0 = .ok (.iconst 0, 1) := by decide +kernel
theorem dX6_lit_1 : decode cX6_lit 1 = .ok (.istore_n 1, 1) := by decide +kernel
theorem dX6_lit_2 : decode cX6_lit 2 = .ok (.iconst 0, 1) := by decide +kernel
theorem dX6_lit_3 : decode cX6_lit 3 = .ok (.istore_n 2, 1) := by decide +kernel
theorem dX6_lit_4 : decode cX6_lit 4 = .ok (.iload_n 2, 1) := by decide +kernel
theorem dX6_lit_5 : decode cX6_lit 5 = .ok (.bipush 8, 2) := by decide +kernel
theorem dX6_lit_7 : decode cX6_lit 7 = .ok (.if_icmp .ge 26, 3) := by decide +kernel
theorem dX6_lit_10 : decode cX6_lit 10 = .ok (.iload_n 1, 1) := by decide +kernel
theorem dX6_lit_11 : decode cX6_lit 11 = .ok (.aload_n 0, 1) := by decide +kernel
theorem dX6_lit_12 : decode cX6_lit 12 = .ok (.iload_n 2, 1) := by decide +kernel
theorem dX6_lit_13 : decode cX6_lit 13 = .ok (.invokestatic 69, 3) := by decide +kernel
theorem dX6_lit_16 : decode cX6_lit 16 = .ok (.iconst 2, 1) := by decide +kernel
theorem dX6_lit_17 : decode cX6_lit 17 = .ok (.if_icmp .lt 7, 3) := by decide +kernel
theorem dX6_lit_20 : decode cX6_lit 20 = .ok (.iconst 1, 1) := by decide +kernel
theorem dX6_lit_21 : decode cX6_lit 21 = .ok (.goto 4, 3) := by decide +kernel
theorem dX6_lit_24 : decode cX6_lit 24 = .ok (.iconst 0, 1) := by decide +kernel
theorem dX6_lit_25 : decode cX6_lit 25 = .ok (.iadd, 1) := by decide +kernel
theorem dX6_lit_26 : decode cX6_lit 26 = .ok (.istore_n 1, 1) := by decide +kernel
theorem dX6_lit_27 : decode cX6_lit 27 = .ok (.iinc 2 1, 3) := by decide +kernel
theorem dX6_lit_30 : decode cX6_lit 30 = .ok (.goto (-26), 3) := by decide +kernel
theorem dX6_lit_33 : decode cX6_lit 33 = .ok (.iload_n 1, 1) := by decide +kernel
theorem dX6_lit_34 : decode cX6_lit 34 = .ok (.ireturn, 1) := by decide +kernel
theorem dX6_comes_0 : decode cX6_comes 0 = .ok (.bipush 58, 2) := by decide +kernel
theorem dX6_comes_2 : decode cX6_comes 2 = .ok (.iconst 4, 1) := by decide +kernel
theorem dX6_comes_3 : decode cX6_comes 3 = .ok (.aload_n 0, 1) := by decide +kernel
theorem dX6_comes_4 : decode cX6_comes 4 = .ok (.bipush 57, 2) := by decide +kernel
theorem dX6_comes_6 : decode cX6_comes 6 = .ok (.iaload, 1) := by decide +kernel
theorem dX6_comes_7 : decode cX6_comes 7 = .ok (.imul, 1) := by decide +kernel
theorem dX6_comes_8 : decode cX6_comes 8 = .ok (.iadd, 1) := by decide +kernel
theorem dX6_comes_9 : decode cX6_comes 9 = .ok (.istore_n 3, 1) := by decide +kernel
theorem dX6_comes_10 : decode cX6_comes 10 = .ok (.aload_n 0, 1) := by decide +kernel
theorem dX6_comes_11 : decode cX6_comes 11 = .ok (.iload_n 3, 1) := by decide +kernel
theorem dX6_comes_12 : decode cX6_comes 12 = .ok (.aload_n 0, 1) := by decide +kernel
theorem dX6_comes_13 : decode cX6_comes 13 = .ok (.iconst 5, 1) := by decide +kernel
theorem dX6_comes_14 : decode cX6_comes 14 = .ok (.iaload, 1) := by decide +kernel
theorem dX6_comes_15 : decode cX6_comes 15 = .ok (.iastore, 1) := by decide +kernel
theorem dX6_comes_16 : decode cX6_comes 16 = .ok (.aload_n 0, 1) := by decide +kernel
theorem dX6_comes_17 : decode cX6_comes 17 = .ok (.iload_n 3, 1) := by decide +kernel
theorem dX6_comes_18 : decode cX6_comes 18 = .ok (.iconst 1, 1) := by decide +kernel
theorem dX6_comes_19 : decode cX6_comes 19 = .ok (.iadd, 1) := by decide +kernel
theorem dX6_comes_20 : decode cX6_comes 20 = .ok (.iload_n 1, 1) := by decide +kernel
theorem dX6_comes_21 : decode cX6_comes 21 = .ok (.iastore, 1) := by decide +kernel
theorem dX6_comes_22 : decode cX6_comes 22 = .ok (.aload_n 0, 1) := by decide +kernel
theorem dX6_comes_23 : decode cX6_comes 23 = .ok (.iload_n 3, 1) := by decide +kernel
theorem dX6_comes_24 : decode cX6_comes 24 = .ok (.iconst 2, 1) := by decide +kernel
theorem dX6_comes_25 : decode cX6_comes 25 = .ok (.iadd, 1) := by decide +kernel
theorem dX6_comes_26 : decode cX6_comes 26 = .ok (.iload_n 2, 1) := by decide +kernel
theorem dX6_comes_27 : decode cX6_comes 27 = .ok (.iastore, 1) := by decide +kernel
theorem dX6_comes_28 : decode cX6_comes 28 = .ok (.aload_n 0, 1) := by decide +kernel
theorem dX6_comes_29 : decode cX6_comes 29 = .ok (.iload_n 3, 1) := by decide +kernel
theorem dX6_comes_30 : decode cX6_comes 30 = .ok (.iconst 3, 1) := by decide +kernel
theorem dX6_comes_31 : decode cX6_comes 31 = .ok (.iadd, 1) := by decide +kernel
theorem dX6_comes_32 : decode cX6_comes 32 = .ok (.aload_n 0, 1) := by decide +kernel
theorem dX6_comes_33 : decode cX6_comes 33 = .ok (.iconst 3, 1) := by decide +kernel
theorem dX6_comes_34 : decode cX6_comes 34 = .ok (.iaload, 1) := by decide +kernel
theorem dX6_comes_35 : decode cX6_comes 35 = .ok (.iastore, 1) := by decide +kernel
theorem dX6_comes_36 : decode cX6_comes 36 = .ok (.aload_n 0, 1) := by decide +kernel
theorem dX6_comes_37 : decode cX6_comes 37 = .ok (.bipush 57, 2) := by decide +kernel
theorem dX6_comes_39 : decode cX6_comes 39 = .ok (.dup2, 1) := by decide +kernel
theorem dX6_comes_40 : decode cX6_comes 40 = .ok (.iaload, 1) := by decide +kernel
theorem dX6_comes_41 : decode cX6_comes 41 = .ok (.iconst 1, 1) := by decide +kernel
theorem dX6_comes_42 : decode cX6_comes 42 = .ok (.iadd, 1) := by decide +kernel
theorem dX6_comes_43 : decode cX6_comes 43 = .ok (.iastore, 1) := by decide +kernel
theorem dX6_comes_44 : decode cX6_comes 44 = .ok (.aload_n 0, 1) := by decide +kernel
theorem dX6_comes_45 : decode cX6_comes 45 = .ok (.iconst 5, 1) := by decide +kernel
theorem dX6_comes_46 : decode cX6_comes 46 = .ok (.dup2, 1) := by decide +kernel
theorem dX6_comes_47 : decode cX6_comes 47 = .ok (.iaload, 1) := by decide +kernel
theorem dX6_comes_48 : decode cX6_comes 48 = .ok (.iconst 1, 1) := by decide +kernel
theorem dX6_comes_49 : decode cX6_comes 49 = .ok (.iadd, 1) := by decide +kernel
theorem dX6_comes_50 : decode cX6_comes 50 = .ok (.iastore, 1) := by decide +kernel
theorem dX6_comes_51 : decode cX6_comes 51 = .ok (.aload_n 0, 1) := by decide +kernel
theorem dX6_comes_52 : decode cX6_comes 52 = .ok (.iconst 5, 1) := by decide +kernel
theorem dX6_comes_53 : decode cX6_comes 53 = .ok (.iaload, 1) := by decide +kernel
theorem dX6_comes_54 : decode cX6_comes 54 = .ok (.iconst 1, 1) := by decide +kernel
theorem dX6_comes_55 : decode cX6_comes 55 = .ok (.isub, 1) := by decide +kernel
theorem dX6_comes_56 : decode cX6_comes 56 = .ok (.ireturn, 1) := by decide +kernel
theorem dX6_mayWalk_0 : decode cX6_mayWalk 0 = .ok (.iload_n 0, 1) := by decide +kernel
theorem dX6_mayWalk_1 : decode cX6_mayWalk 1 = .ok (.invokestatic 78, 3) := by decide +kernel
theorem dX6_mayWalk_4 : decode cX6_mayWalk 4 = .ok (.ifCond .eq 10, 3) := by decide +kernel
theorem dX6_mayWalk_7 : decode cX6_mayWalk 7 = .ok (.iload_n 1, 1) := by decide +kernel
theorem dX6_mayWalk_8 : decode cX6_mayWalk 8 = .ok (.invokestatic 78, 3) := by decide +kernel
theorem dX6_mayWalk_11 : decode cX6_mayWalk 11 = .ok (.ifCond .ne 7, 3) := by decide +kernel
theorem dX6_mayWalk_14 : decode cX6_mayWalk 14 = .ok (.iconst 1, 1) := by decide +kernel
theorem dX6_mayWalk_15 : decode cX6_mayWalk 15 = .ok (.goto 13, 3) := by decide +kernel
theorem dX6_mayWalk_18 : decode cX6_mayWalk 18 = .ok (.iload_n 0, 1) := by decide +kernel
theorem dX6_mayWalk_19 : decode cX6_mayWalk 19 = .ok (.iload_n 1, 1) := by decide +kernel
theorem dX6_mayWalk_20 : decode cX6_mayWalk 20 = .ok (.if_icmp .ne 7, 3) := by decide +kernel
theorem dX6_mayWalk_23 : decode cX6_mayWalk 23 = .ok (.iconst 2, 1) := by decide +kernel
theorem dX6_mayWalk_24 : decode cX6_mayWalk 24 = .ok (.goto 4, 3) := by decide +kernel
theorem dX6_mayWalk_27 : decode cX6_mayWalk 27 = .ok (.iconst 0, 1) := by decide +kernel
theorem dX6_mayWalk_28 : decode cX6_mayWalk 28 = .ok (.ireturn, 1) := by decide +kernel
theorem dX6_come_0 : decode cX6_come 0 = .ok (.aload_n 0, 1) := by decide +kernel
theorem dX6_come_1 : decode cX6_come 1 = .ok (.iload_n 1, 1) := by decide +kernel
theorem dX6_come_2 : decode cX6_come 2 = .ok (.iload_n 2, 1) := by decide +kernel
theorem dX6_come_3 : decode cX6_come 3 = .ok (.invokestatic 82, 3) := by decide +kernel
theorem dX6_come_6 : decode cX6_come 6 = .ok (.putfield 25, 3) := by decide +kernel
theorem dX6_come_9 : decode cX6_come 9 = .ok (.aload_n 0, 1) := by decide +kernel
theorem dX6_come_10 : decode cX6_come 10 = .ok (.getfield 25, 3) := by decide +kernel
theorem dX6_come_13 : decode cX6_come 13 = .ok (.ifCond .eq 5, 3) := by decide +kernel
theorem dX6_come_16 : decode cX6_come 16 = .ok (.iconst 0, 1) := by decide +kernel
theorem dX6_come_17 : decode cX6_come 17 = .ok (.ireturn, 1) := by decide +kernel
theorem dX6_come_18 : decode cX6_come 18 = .ok (.aload_n 0, 1) := by decide +kernel
theorem dX6_come_19 : decode cX6_come 19 = .ok (.getfield 7, 3) := by decide +kernel
theorem dX6_come_22 : decode cX6_come 22 = .ok (.bipush 57, 2) := by decide +kernel
theorem dX6_come_24 : decode cX6_come 24 = .ok (.iaload, 1) := by decide +kernel
theorem dX6_come_25 : decode cX6_come 25 = .ok (.bipush 6, 2) := by decide +kernel
theorem dX6_come_27 : decode cX6_come 27 = .ok (.if_icmp .ne 9, 3) := by decide +kernel
theorem dX6_come_30 : decode cX6_come 30 = .ok (.aload_n 0, 1) := by decide +kernel
theorem dX6_come_31 : decode cX6_come 31 = .ok (.iconst 3, 1) := by decide +kernel
theorem dX6_come_32 : decode cX6_come 32 = .ok (.invokevirtual 40, 3) := by decide +kernel
theorem dX6_come_35 : decode cX6_come 35 = .ok (.ireturn, 1) := by decide +kernel
theorem dX6_come_36 : decode cX6_come 36 = .ok (.aload_n 0, 1) := by decide +kernel
theorem dX6_come_37 : decode cX6_come 37 = .ok (.invokevirtual 86, 3) := by decide +kernel
theorem dX6_come_40 : decode cX6_come 40 = .ok (.aload_n 0, 1) := by decide +kernel
theorem dX6_come_41 : decode cX6_come 41 = .ok (.getfield 7, 3) := by decide +kernel
theorem dX6_come_44 : decode cX6_come 44 = .ok (.iload_n 1, 1) := by decide +kernel
theorem dX6_come_45 : decode cX6_come 45 = .ok (.iload_n 2, 1) := by decide +kernel
theorem dX6_come_46 : decode cX6_come 46 = .ok (.invokestatic 89, 3) := by decide +kernel
theorem dX6_come_49 : decode cX6_come 49 = .ok (.ireturn, 1) := by decide +kernel
theorem dX6_changes_0 : decode cX6_changes 0 = .ok (.aload_n 0, 1) := by decide +kernel
theorem dX6_changes_1 : decode cX6_changes 1 = .ok (.getfield 7, 3) := by decide +kernel
theorem dX6_changes_4 : decode cX6_changes 4 = .ok (.iload_n 1, 1) := by decide +kernel
theorem dX6_changes_5 : decode cX6_changes 5 = .ok (.iaload, 1) := by decide +kernel
theorem dX6_changes_6 : decode cX6_changes 6 = .ok (.istore_n 3, 1) := by decide +kernel
theorem dX6_changes_7 : decode cX6_changes 7 = .ok (.aload_n 0, 1) := by decide +kernel
theorem dX6_changes_8 : decode cX6_changes 8 = .ok (.getfield 7, 3) := by decide +kernel
theorem dX6_changes_11 : decode cX6_changes 11 = .ok (.iload_n 1, 1) := by decide +kernel
theorem dX6_changes_12 : decode cX6_changes 12 = .ok (.iload_n 2, 1) := by decide +kernel
theorem dX6_changes_13 : decode cX6_changes 13 = .ok (.iastore, 1) := by decide +kernel
theorem dX6_changes_14 : decode cX6_changes 14 = .ok (.iload_n 3, 1) := by decide +kernel
theorem dX6_changes_15 : decode cX6_changes 15 = .ok (.ireturn, 1) := by decide +kernel
theorem dX6_turn_0 : decode cX6_turn 0 = .ok (.aload_n 0, 1) := by decide +kernel
theorem dX6_turn_1 : decode cX6_turn 1 = .ok (.iconst 0, 1) := by decide +kernel
theorem dX6_turn_2 : decode cX6_turn 2 = .ok (.putfield 25, 3) := by decide +kernel
theorem dX6_turn_5 : decode cX6_turn 5 = .ok (.iconst (-1), 1) := by decide +kernel
theorem dX6_turn_6 : decode cX6_turn 6 = .ok (.istore_n 3, 1) := by decide +kernel
theorem dX6_turn_7 : decode cX6_turn 7 = .ok (.iconst 0, 1) := by decide +kernel
theorem dX6_turn_8 : decode cX6_turn 8 = .ok (.istore 4, 2) := by decide +kernel
theorem dX6_turn_10 : decode cX6_turn 10 = .ok (.iload 4, 2) := by decide +kernel
theorem dX6_turn_12 : decode cX6_turn 12 = .ok (.aload_n 0, 1) := by decide +kernel
theorem dX6_turn_13 : decode cX6_turn 13 = .ok (.getfield 7, 3) := by decide +kernel
theorem dX6_turn_16 : decode cX6_turn 16 = .ok (.bipush 57, 2) := by decide +kernel
theorem dX6_turn_18 : decode cX6_turn 18 = .ok (.iaload, 1) := by decide +kernel
theorem dX6_turn_19 : decode cX6_turn 19 = .ok (.if_icmp .ge 30, 3) := by decide +kernel
theorem dX6_turn_22 : decode cX6_turn 22 = .ok (.aload_n 0, 1) := by decide +kernel
theorem dX6_turn_23 : decode cX6_turn 23 = .ok (.getfield 7, 3) := by decide +kernel
theorem dX6_turn_26 : decode cX6_turn 26 = .ok (.iload 4, 2) := by decide +kernel
theorem dX6_turn_28 : decode cX6_turn 28 = .ok (.iconst 0, 1) := by decide +kernel
theorem dX6_turn_29 : decode cX6_turn 29 = .ok (.invokestatic 48, 3) := by decide +kernel
theorem dX6_turn_32 : decode cX6_turn 32 = .ok (.iload_n 1, 1) := by decide +kernel
theorem dX6_turn_33 : decode cX6_turn 33 = .ok (.if_icmp .ne 8, 3) := by decide +kernel
theorem dX6_turn_36 : decode cX6_turn 36 = .ok (.iload 4, 2) := by decide +kernel
theorem dX6_turn_38 : decode cX6_turn 38 = .ok (.goto 4, 3) := by decide +kernel
theorem dX6_turn_41 : decode cX6_turn 41 = .ok (.iload_n 3, 1) := by decide +kernel
theorem dX6_turn_42 : decode cX6_turn 42 = .ok (.istore_n 3, 1) := by decide +kernel
theorem dX6_turn_43 : decode cX6_turn 43 = .ok (.iinc 4 1, 3) := by decide +kernel
theorem dX6_turn_46 : decode cX6_turn 46 = .ok (.goto (-36), 3) := by decide +kernel
theorem dX6_turn_49 : decode cX6_turn 49 = .ok (.iload_n 3, 1) := by decide +kernel
theorem dX6_turn_50 : decode cX6_turn 50 = .ok (.iconst (-1), 1) := by decide +kernel
theorem dX6_turn_51 : decode cX6_turn 51 = .ok (.if_icmp .eq 10, 3) := by decide +kernel
theorem dX6_turn_54 : decode cX6_turn 54 = .ok (.iload_n 2, 1) := by decide +kernel
theorem dX6_turn_55 : decode cX6_turn 55 = .ok (.invokestatic 78, 3) := by decide +kernel
theorem dX6_turn_58 : decode cX6_turn 58 = .ok (.ifCond .ne 9, 3) := by decide +kernel
theorem dX6_turn_61 : decode cX6_turn 61 = .ok (.aload_n 0, 1) := by decide +kernel
theorem dX6_turn_62 : decode cX6_turn 62 = .ok (.iconst 1, 1) := by decide +kernel
theorem dX6_turn_63 : decode cX6_turn 63 = .ok (.invokevirtual 40, 3) := by decide +kernel
theorem dX6_turn_66 : decode cX6_turn 66 = .ok (.ireturn, 1) := by decide +kernel
theorem dX6_turn_67 : decode cX6_turn 67 = .ok (.aload_n 0, 1) := by decide +kernel
theorem dX6_turn_68 : decode cX6_turn 68 = .ok (.invokevirtual 86, 3) := by decide +kernel
theorem dX6_turn_71 : decode cX6_turn 71 = .ok (.aload_n 0, 1) := by decide +kernel
theorem dX6_turn_72 : decode cX6_turn 72 = .ok (.getfield 7, 3) := by decide +kernel
theorem dX6_turn_75 : decode cX6_turn 75 = .ok (.bipush 58, 2) := by decide +kernel
theorem dX6_turn_77 : decode cX6_turn 77 = .ok (.iconst 4, 1) := by decide +kernel
theorem dX6_turn_78 : decode cX6_turn 78 = .ok (.iload_n 3, 1) := by decide +kernel
theorem dX6_turn_79 : decode cX6_turn 79 = .ok (.imul, 1) := by decide +kernel
theorem dX6_turn_80 : decode cX6_turn 80 = .ok (.iadd, 1) := by decide +kernel
theorem dX6_turn_81 : decode cX6_turn 81 = .ok (.iconst 3, 1) := by decide +kernel
theorem dX6_turn_82 : decode cX6_turn 82 = .ok (.iadd, 1) := by decide +kernel
theorem dX6_turn_83 : decode cX6_turn 83 = .ok (.aload_n 0, 1) := by decide +kernel
theorem dX6_turn_84 : decode cX6_turn 84 = .ok (.getfield 7, 3) := by decide +kernel
theorem dX6_turn_87 : decode cX6_turn 87 = .ok (.iload_n 3, 1) := by decide +kernel
theorem dX6_turn_88 : decode cX6_turn 88 = .ok (.iconst 1, 1) := by decide +kernel
theorem dX6_turn_89 : decode cX6_turn 89 = .ok (.invokestatic 48, 3) := by decide +kernel
theorem dX6_turn_92 : decode cX6_turn 92 = .ok (.iload_n 2, 1) := by decide +kernel
theorem dX6_turn_93 : decode cX6_turn 93 = .ok (.if_icmp .ne 7, 3) := by decide +kernel
theorem dX6_turn_96 : decode cX6_turn 96 = .ok (.iconst 0, 1) := by decide +kernel
theorem dX6_turn_97 : decode cX6_turn 97 = .ok (.goto 9, 3) := by decide +kernel
theorem dX6_turn_100 : decode cX6_turn 100 = .ok (.aload_n 0, 1) := by decide +kernel
theorem dX6_turn_101 : decode cX6_turn 101 = .ok (.getfield 7, 3) := by decide +kernel
theorem dX6_turn_104 : decode cX6_turn 104 = .ok (.iconst 3, 1) := by decide +kernel
theorem dX6_turn_105 : decode cX6_turn 105 = .ok (.iaload, 1) := by decide +kernel
theorem dX6_turn_106 : decode cX6_turn 106 = .ok (.iastore, 1) := by decide +kernel
theorem dX6_turn_107 : decode cX6_turn 107 = .ok (.aload_n 0, 1) := by decide +kernel
theorem dX6_turn_108 : decode cX6_turn 108 = .ok (.bipush 58, 2) := by decide +kernel
theorem dX6_turn_110 : decode cX6_turn 110 = .ok (.iconst 4, 1) := by decide +kernel
theorem dX6_turn_111 : decode cX6_turn 111 = .ok (.iload_n 3, 1) := by decide +kernel
theorem dX6_turn_112 : decode cX6_turn 112 = .ok (.imul, 1) := by decide +kernel
theorem dX6_turn_113 : decode cX6_turn 113 = .ok (.iadd, 1) := by decide +kernel
theorem dX6_turn_114 : decode cX6_turn 114 = .ok (.iconst 2, 1) := by decide +kernel
theorem dX6_turn_115 : decode cX6_turn 115 = .ok (.iadd, 1) := by decide +kernel
theorem dX6_turn_116 : decode cX6_turn 116 = .ok (.iload_n 2, 1) := by decide +kernel
theorem dX6_turn_117 : decode cX6_turn 117 = .ok (.invokevirtual 92, 3) := by decide +kernel
theorem dX6_turn_120 : decode cX6_turn 120 = .ok (.ireturn, 1) := by decide +kernel
theorem dX6_press_0 : decode cX6_press 0 = .ok (.aload_n 0, 1) := by decide +kernel
theorem dX6_press_1 : decode cX6_press 1 = .ok (.iconst 0, 1) := by decide +kernel
theorem dX6_press_2 : decode cX6_press 2 = .ok (.putfield 25, 3) := by decide +kernel
theorem dX6_press_5 : decode cX6_press 5 = .ok (.iload_n 1, 1) := by decide +kernel
theorem dX6_press_6 : decode cX6_press 6 = .ok (.invokestatic 78, 3) := by decide +kernel
theorem dX6_press_9 : decode cX6_press 9 = .ok (.ifCond .ne 9, 3) := by decide +kernel
theorem dX6_press_12 : decode cX6_press 12 = .ok (.aload_n 0, 1) := by decide +kernel
theorem dX6_press_13 : decode cX6_press 13 = .ok (.iconst 1, 1) := by decide +kernel
theorem dX6_press_14 : decode cX6_press 14 = .ok (.invokevirtual 40, 3) := by decide +kernel
theorem dX6_press_17 : decode cX6_press 17 = .ok (.ireturn, 1) := by decide +kernel
theorem dX6_press_18 : decode cX6_press 18 = .ok (.aload_n 0, 1) := by decide +kernel
theorem dX6_press_19 : decode cX6_press 19 = .ok (.invokevirtual 86, 3) := by decide +kernel
theorem dX6_press_22 : decode cX6_press 22 = .ok (.aload_n 0, 1) := by decide +kernel
theorem dX6_press_23 : decode cX6_press 23 = .ok (.getfield 7, 3) := by decide +kernel
theorem dX6_press_26 : decode cX6_press 26 = .ok (.iload_n 1, 1) := by decide +kernel
theorem dX6_press_27 : decode cX6_press 27 = .ok (.iconst 0, 1) := by decide +kernel
theorem dX6_press_28 : decode cX6_press 28 = .ok (.invokestatic 44, 3) := by decide +kernel
theorem dX6_press_31 : decode cX6_press 31 = .ok (.istore_n 2, 1) := by decide +kernel
theorem dX6_press_32 : decode cX6_press 32 = .ok (.aload_n 0, 1) := by decide +kernel
theorem dX6_press_33 : decode cX6_press 33 = .ok (.getfield 7, 3) := by decide +kernel
theorem dX6_press_36 : decode cX6_press 36 = .ok (.iload_n 1, 1) := by decide +kernel
theorem dX6_press_37 : decode cX6_press 37 = .ok (.invokestatic 59, 3) := by decide +kernel
theorem dX6_press_40 : decode cX6_press 40 = .ok (.iload_n 2, 1) := by decide +kernel
theorem dX6_press_41 : decode cX6_press 41 = .ok (.ireturn, 1) := by decide +kernel
theorem dX6_sensor_0 : decode cX6_sensor 0 = .ok (.aload_n 0, 1) := by decide +kernel
theorem dX6_sensor_1 : decode cX6_sensor 1 = .ok (.iconst 0, 1) := by decide +kernel
theorem dX6_sensor_2 : decode cX6_sensor 2 = .ok (.putfield 25, 3) := by decide +kernel
theorem dX6_sensor_5 : decode cX6_sensor 5 = .ok (.iload_n 1, 1) := by decide +kernel
theorem dX6_sensor_6 : decode cX6_sensor 6 = .ok (.invokestatic 78, 3) := by decide +kernel
theorem dX6_sensor_9 : decode cX6_sensor 9 = .ok (.ifCond .ne 9, 3) := by decide +kernel
theorem dX6_sensor_12 : decode cX6_sensor 12 = .ok (.aload_n 0, 1) := by decide +kernel
theorem dX6_sensor_13 : decode cX6_sensor 13 = .ok (.iconst 1, 1) := by decide +kernel
theorem dX6_sensor_14 : decode cX6_sensor 14 = .ok (.invokevirtual 40, 3) := by decide +kernel
theorem dX6_sensor_17 : decode cX6_sensor 17 = .ok (.ireturn, 1) := by decide +kernel
theorem dX6_sensor_18 : decode cX6_sensor 18 = .ok (.aload_n 0, 1) := by decide +kernel
theorem dX6_sensor_19 : decode cX6_sensor 19 = .ok (.invokevirtual 86, 3) := by decide +kernel
theorem dX6_sensor_22 : decode cX6_sensor 22 = .ok (.aload_n 0, 1) := by decide +kernel
theorem dX6_sensor_23 : decode cX6_sensor 23 = .ok (.bipush 9, 2) := by decide +kernel
theorem dX6_sensor_25 : decode cX6_sensor 25 = .ok (.bipush 6, 2) := by decide +kernel
theorem dX6_sensor_27 : decode cX6_sensor 27 = .ok (.iload_n 1, 1) := by decide +kernel
theorem dX6_sensor_28 : decode cX6_sensor 28 = .ok (.imul, 1) := by decide +kernel
theorem dX6_sensor_29 : decode cX6_sensor 29 = .ok (.iadd, 1) := by decide +kernel
theorem dX6_sensor_30 : decode cX6_sensor 30 = .ok (.iconst 1, 1) := by decide +kernel
theorem dX6_sensor_31 : decode cX6_sensor 31 = .ok (.iadd, 1) := by decide +kernel
theorem dX6_sensor_32 : decode cX6_sensor 32 = .ok (.iload_n 2, 1) := by decide +kernel
theorem dX6_sensor_33 : decode cX6_sensor 33 = .ok (.ifCond .eq 7, 3) := by decide +kernel
theorem dX6_sensor_36 : decode cX6_sensor 36 = .ok (.iconst 1, 1) := by decide +kernel
theorem dX6_sensor_37 : decode cX6_sensor 37 = .ok (.goto 4, 3) := by decide +kernel
theorem dX6_sensor_40 : decode cX6_sensor 40 = .ok (.iconst 0, 1) := by decide +kernel
theorem dX6_sensor_41 : decode cX6_sensor 41 = .ok (.invokevirtual 92, 3) := by decide +kernel
theorem dX6_sensor_44 : decode cX6_sensor 44 = .ok (.ireturn, 1) := by decide +kernel
theorem dX6_night_0 : decode cX6_night 0 = .ok (.aload_n 0, 1) := by decide +kernel
theorem dX6_night_1 : decode cX6_night 1 = .ok (.iconst 0, 1) := by decide +kernel
theorem dX6_night_2 : decode cX6_night 2 = .ok (.putfield 25, 3) := by decide +kernel
theorem dX6_night_5 : decode cX6_night 5 = .ok (.aload_n 0, 1) := by decide +kernel
theorem dX6_night_6 : decode cX6_night 6 = .ok (.invokevirtual 86, 3) := by decide +kernel
theorem dX6_night_9 : decode cX6_night 9 = .ok (.aload_n 0, 1) := by decide +kernel
theorem dX6_night_10 : decode cX6_night 10 = .ok (.bipush 6, 2) := by decide +kernel
theorem dX6_night_12 : decode cX6_night 12 = .ok (.iload_n 1, 1) := by decide +kernel
theorem dX6_night_13 : decode cX6_night 13 = .ok (.ifCond .eq 7, 3) := by decide +kernel
theorem dX6_night_16 : decode cX6_night 16 = .ok (.iconst 1, 1) := by decide +kernel
theorem dX6_night_17 : decode cX6_night 17 = .ok (.goto 4, 3) := by decide +kernel
theorem dX6_night_20 : decode cX6_night 20 = .ok (.iconst 0, 1) := by decide +kernel
theorem dX6_night_21 : decode cX6_night 21 = .ok (.invokevirtual 92, 3) := by decide +kernel
theorem dX6_night_24 : decode cX6_night 24 = .ok (.ireturn, 1) := by decide +kernel
theorem dX6_fire_0 : decode cX6_fire 0 = .ok (.aload_n 0, 1) := by decide +kernel
theorem dX6_fire_1 : decode cX6_fire 1 = .ok (.iconst 0, 1) := by decide +kernel
theorem dX6_fire_2 : decode cX6_fire 2 = .ok (.putfield 25, 3) := by decide +kernel
theorem dX6_fire_5 : decode cX6_fire 5 = .ok (.aload_n 0, 1) := by decide +kernel
theorem dX6_fire_6 : decode cX6_fire 6 = .ok (.invokevirtual 86, 3) := by decide +kernel
theorem dX6_fire_9 : decode cX6_fire 9 = .ok (.aload_n 0, 1) := by decide +kernel
theorem dX6_fire_10 : decode cX6_fire 10 = .ok (.bipush 7, 2) := by decide +kernel
theorem dX6_fire_12 : decode cX6_fire 12 = .ok (.iload_n 1, 1) := by decide +kernel
theorem dX6_fire_13 : decode cX6_fire 13 = .ok (.ifCond .eq 7, 3) := by decide +kernel
theorem dX6_fire_16 : decode cX6_fire 16 = .ok (.iconst 1, 1) := by decide +kernel
theorem dX6_fire_17 : decode cX6_fire 17 = .ok (.goto 4, 3) := by decide +kernel
theorem dX6_fire_20 : decode cX6_fire 20 = .ok (.iconst 0, 1) := by decide +kernel
theorem dX6_fire_21 : decode cX6_fire 21 = .ok (.invokevirtual 92, 3) := by decide +kernel
theorem dX6_fire_24 : decode cX6_fire 24 = .ok (.istore_n 2, 1) := by decide +kernel
theorem dX6_fire_25 : decode cX6_fire 25 = .ok (.iconst 0, 1) := by decide +kernel
theorem dX6_fire_26 : decode cX6_fire 26 = .ok (.istore_n 3, 1) := by decide +kernel
theorem dX6_fire_27 : decode cX6_fire 27 = .ok (.iload_n 3, 1) := by decide +kernel
theorem dX6_fire_28 : decode cX6_fire 28 = .ok (.bipush 8, 2) := by decide +kernel
theorem dX6_fire_30 : decode cX6_fire 30 = .ok (.if_icmp .ge 26, 3) := by decide +kernel
theorem dX6_fire_33 : decode cX6_fire 33 = .ok (.iload_n 2, 1) := by decide +kernel
theorem dX6_fire_34 : decode cX6_fire 34 = .ok (.iconst 1, 1) := by decide +kernel
theorem dX6_fire_35 : decode cX6_fire 35 = .ok (.if_icmp .ne 21, 3) := by decide +kernel
theorem dX6_fire_38 : decode cX6_fire 38 = .ok (.iload_n 1, 1) := by decide +kernel
theorem dX6_fire_39 : decode cX6_fire 39 = .ok (.ifCond .ne 17, 3) := by decide +kernel
theorem dX6_fire_42 : decode cX6_fire 42 = .ok (.aload_n 0, 1) := by decide +kernel
theorem dX6_fire_43 : decode cX6_fire 43 = .ok (.getfield 7, 3) := by decide +kernel
theorem dX6_fire_46 : decode cX6_fire 46 = .ok (.iload_n 3, 1) := by decide +kernel
theorem dX6_fire_47 : decode cX6_fire 47 = .ok (.invokestatic 59, 3) := by decide +kernel
theorem dX6_fire_50 : decode cX6_fire 50 = .ok (.iinc 3 1, 3) := by decide +kernel
theorem dX6_fire_53 : decode cX6_fire 53 = .ok (.goto (-26), 3) := by decide +kernel
theorem dX6_fire_56 : decode cX6_fire 56 = .ok (.iload_n 2, 1) := by decide +kernel
theorem dX6_fire_57 : decode cX6_fire 57 = .ok (.ireturn, 1) := by decide +kernel
theorem dX6_isFor_0 : decode cX6_isFor 0 = .ok (.iload_n 0, 1) := by decide +kernel
theorem dX6_isFor_1 : decode cX6_isFor 1 = .ok (.ifCond .ne 14, 3) := by decide +kernel
theorem dX6_isFor_4 : decode cX6_isFor 4 = .ok (.iload_n 1, 1) := by decide +kernel
theorem dX6_isFor_5 : decode cX6_isFor 5 = .ok (.iconst 1, 1) := by decide +kernel
theorem dX6_isFor_6 : decode cX6_isFor 6 = .ok (.sipush 200, 3) := by decide +kernel
theorem dX6_isFor_9 : decode cX6_isFor 9 = .ok (.invokestatic 29, 3) := by decide +kernel
theorem dX6_isFor_12 : decode cX6_isFor 12 = .ok (.goto 39, 3) := by decide +kernel
theorem dX6_isFor_15 : decode cX6_isFor 15 = .ok (.iload_n 0, 1) := by decide +kernel
theorem dX6_isFor_16 : decode cX6_isFor 16 = .ok (.iconst 1, 1) := by decide +kernel
theorem dX6_isFor_17 : decode cX6_isFor 17 = .ok (.if_icmp .ne 13, 3) := by decide +kernel
theorem dX6_isFor_20 : decode cX6_isFor 20 = .ok (.iload_n 1, 1) := by decide +kernel
theorem dX6_isFor_21 : decode cX6_isFor 21 = .ok (.iconst 0, 1) := by decide +kernel
theorem dX6_isFor_22 : decode cX6_isFor 22 = .ok (.bipush 60, 2) := by decide +kernel
theorem dX6_isFor_24 : decode cX6_isFor 24 = .ok (.invokestatic 29, 3) := by decide +kernel
theorem dX6_isFor_27 : decode cX6_isFor 27 = .ok (.goto 24, 3) := by decide +kernel
theorem dX6_isFor_30 : decode cX6_isFor 30 = .ok (.iload_n 0, 1) := by decide +kernel
theorem dX6_isFor_31 : decode cX6_isFor 31 = .ok (.iconst 2, 1) := by decide +kernel
theorem dX6_isFor_32 : decode cX6_isFor 32 = .ok (.if_icmp .ne 12, 3) := by decide +kernel
theorem dX6_isFor_35 : decode cX6_isFor 35 = .ok (.iload_n 1, 1) := by decide +kernel
theorem dX6_isFor_36 : decode cX6_isFor 36 = .ok (.iconst 0, 1) := by decide +kernel
theorem dX6_isFor_37 : decode cX6_isFor 37 = .ok (.iconst 1, 1) := by decide +kernel
theorem dX6_isFor_38 : decode cX6_isFor 38 = .ok (.invokestatic 29, 3) := by decide +kernel
theorem dX6_isFor_41 : decode cX6_isFor 41 = .ok (.goto 10, 3) := by decide +kernel
theorem dX6_isFor_44 : decode cX6_isFor 44 = .ok (.iload_n 1, 1) := by decide +kernel
theorem dX6_isFor_45 : decode cX6_isFor 45 = .ok (.iconst 1, 1) := by decide +kernel
theorem dX6_isFor_46 : decode cX6_isFor 46 = .ok (.bipush 60, 2) := by decide +kernel
theorem dX6_isFor_48 : decode cX6_isFor 48 = .ok (.invokestatic 29, 3) := by decide +kernel
theorem dX6_isFor_51 : decode cX6_isFor 51 = .ok (.ireturn, 1) := by decide +kernel
theorem dX6_set_0 : decode cX6_set 0 = .ok (.aload_n 0, 1) := by decide +kernel
theorem dX6_set_1 : decode cX6_set 1 = .ok (.iconst 0, 1) := by decide +kernel
theorem dX6_set_2 : decode cX6_set 2 = .ok (.putfield 25, 3) := by decide +kernel
theorem dX6_set_5 : decode cX6_set 5 = .ok (.iload_n 1, 1) := by decide +kernel
theorem dX6_set_6 : decode cX6_set 6 = .ok (.iconst 0, 1) := by decide +kernel
theorem dX6_set_7 : decode cX6_set 7 = .ok (.iconst 3, 1) := by decide +kernel
theorem dX6_set_8 : decode cX6_set 8 = .ok (.invokestatic 29, 3) := by decide +kernel
theorem dX6_set_11 : decode cX6_set 11 = .ok (.ifCond .ne 9, 3) := by decide +kernel
theorem dX6_set_14 : decode cX6_set 14 = .ok (.aload_n 0, 1) := by decide +kernel
theorem dX6_set_15 : decode cX6_set 15 = .ok (.iconst 1, 1) := by decide +kernel
theorem dX6_set_16 : decode cX6_set 16 = .ok (.invokevirtual 40, 3) := by decide +kernel
theorem dX6_set_19 : decode cX6_set 19 = .ok (.ireturn, 1) := by decide +kernel
theorem dX6_set_20 : decode cX6_set 20 = .ok (.iload_n 1, 1) := by decide +kernel
theorem dX6_set_21 : decode cX6_set 21 = .ok (.iload_n 2, 1) := by decide +kernel
theorem dX6_set_22 : decode cX6_set 22 = .ok (.invokestatic 95, 3) := by decide +kernel
theorem dX6_set_25 : decode cX6_set 25 = .ok (.ifCond .ne 9, 3) := by decide +kernel
theorem dX6_set_28 : decode cX6_set 28 = .ok (.aload_n 0, 1) := by decide +kernel
theorem dX6_set_29 : decode cX6_set 29 = .ok (.iconst 2, 1) := by decide +kernel
theorem dX6_set_30 : decode cX6_set 30 = .ok (.invokevirtual 40, 3) := by decide +kernel
theorem dX6_set_33 : decode cX6_set 33 = .ok (.ireturn, 1) := by decide +kernel
theorem dX6_set_34 : decode cX6_set 34 = .ok (.aload_n 0, 1) := by decide +kernel
theorem dX6_set_35 : decode cX6_set 35 = .ok (.invokevirtual 86, 3) := by decide +kernel
theorem dX6_set_38 : decode cX6_set 38 = .ok (.aload_n 0, 1) := by decide +kernel
theorem dX6_set_39 : decode cX6_set 39 = .ok (.iload_n 1, 1) := by decide +kernel
theorem dX6_set_40 : decode cX6_set 40 = .ok (.iload_n 2, 1) := by decide +kernel
theorem dX6_set_41 : decode cX6_set 41 = .ok (.invokevirtual 92, 3) := by decide +kernel
theorem dX6_set_44 : decode cX6_set 44 = .ok (.ireturn, 1) := by decide +kernel
theorem dX6_pass_0 : decode cX6_pass 0 = .ok (.aload_n 0, 1) := by decide +kernel
theorem dX6_pass_1 : decode cX6_pass 1 = .ok (.iconst 0, 1) := by decide +kernel
theorem dX6_pass_2 : decode cX6_pass 2 = .ok (.putfield 25, 3) := by decide +kernel
theorem dX6_pass_5 : decode cX6_pass 5 = .ok (.iload_n 1, 1) := by decide +kernel
theorem dX6_pass_6 : decode cX6_pass 6 = .ok (.iconst 1, 1) := by decide +kernel
theorem dX6_pass_7 : decode cX6_pass 7 = .ok (.sipush 300, 3) := by decide +kernel
theorem dX6_pass_10 : decode cX6_pass 10 = .ok (.invokestatic 29, 3) := by decide +kernel
theorem dX6_pass_13 : decode cX6_pass 13 = .ok (.ifCond .ne 9, 3) := by decide +kernel
theorem dX6_pass_16 : decode cX6_pass 16 = .ok (.aload_n 0, 1) := by decide +kernel
theorem dX6_pass_17 : decode cX6_pass 17 = .ok (.iconst 1, 1) := by decide +kernel
theorem dX6_pass_18 : decode cX6_pass 18 = .ok (.invokevirtual 40, 3) := by decide +kernel
theorem dX6_pass_21 : decode cX6_pass 21 = .ok (.ireturn, 1) := by decide +kernel
theorem dX6_pass_22 : decode cX6_pass 22 = .ok (.aload_n 0, 1) := by decide +kernel
theorem dX6_pass_23 : decode cX6_pass 23 = .ok (.invokevirtual 86, 3) := by decide +kernel
theorem dX6_pass_26 : decode cX6_pass 26 = .ok (.aload_n 0, 1) := by decide +kernel
theorem dX6_pass_27 : decode cX6_pass 27 = .ok (.getfield 7, 3) := by decide +kernel
theorem dX6_pass_30 : decode cX6_pass 30 = .ok (.iconst 2, 1) := by decide +kernel
theorem dX6_pass_31 : decode cX6_pass 31 = .ok (.invokestatic 99, 3) := by decide +kernel
theorem dX6_pass_34 : decode cX6_pass 34 = .ok (.istore_n 2, 1) := by decide +kernel
theorem dX6_pass_35 : decode cX6_pass 35 = .ok (.iconst 0, 1) := by decide +kernel
theorem dX6_pass_36 : decode cX6_pass 36 = .ok (.istore_n 3, 1) := by decide +kernel
theorem dX6_pass_37 : decode cX6_pass 37 = .ok (.iload_n 3, 1) := by decide +kernel
theorem dX6_pass_38 : decode cX6_pass 38 = .ok (.iload_n 1, 1) := by decide +kernel
theorem dX6_pass_39 : decode cX6_pass 39 = .ok (.if_icmp .ge 17, 3) := by decide +kernel
theorem dX6_pass_42 : decode cX6_pass 42 = .ok (.aload_n 0, 1) := by decide +kernel
theorem dX6_pass_43 : decode cX6_pass 43 = .ok (.aload_n 0, 1) := by decide +kernel
theorem dX6_pass_44 : decode cX6_pass 44 = .ok (.getfield 7, 3) := by decide +kernel
theorem dX6_pass_47 : decode cX6_pass 47 = .ok (.invokevirtual 102, 3) := by decide +kernel
theorem dX6_pass_50 : decode cX6_pass 50 = .ok (.iinc 3 1, 3) := by decide +kernel
theorem dX6_pass_53 : decode cX6_pass 53 = .ok (.goto (-16), 3) := by decide +kernel
theorem dX6_pass_56 : decode cX6_pass 56 = .ok (.aload_n 0, 1) := by decide +kernel
theorem dX6_pass_57 : decode cX6_pass 57 = .ok (.getfield 7, 3) := by decide +kernel
theorem dX6_pass_60 : decode cX6_pass 60 = .ok (.iconst 2, 1) := by decide +kernel
theorem dX6_pass_61 : decode cX6_pass 61 = .ok (.invokestatic 99, 3) := by decide +kernel
theorem dX6_pass_64 : decode cX6_pass 64 = .ok (.iload_n 2, 1) := by decide +kernel
theorem dX6_pass_65 : decode cX6_pass 65 = .ok (.isub, 1) := by decide +kernel
theorem dX6_pass_66 : decode cX6_pass 66 = .ok (.ireturn, 1) := by decide +kernel
theorem dX6_append_0 : decode cX6_append 0 = .ok (.aload_n 0, 1) := by decide +kernel
theorem dX6_append_1 : decode cX6_append 1 = .ok (.iconst 0, 1) := by decide +kernel
theorem dX6_append_2 : decode cX6_append 2 = .ok (.putfield 25, 3) := by decide +kernel
theorem dX6_append_5 : decode cX6_append 5 = .ok (.iload_n 1, 1) := by decide +kernel
theorem dX6_append_6 : decode cX6_append 6 = .ok (.bipush 33, 2) := by decide +kernel
theorem dX6_append_8 : decode cX6_append 8 = .ok (.bipush 126, 2) := by decide +kernel
theorem dX6_append_10 : decode cX6_append 10 = .ok (.invokestatic 29, 3) := by decide +kernel
theorem dX6_append_13 : decode cX6_append 13 = .ok (.ifCond .ne 9, 3) := by decide +kernel
theorem dX6_append_16 : decode cX6_append 16 = .ok (.aload_n 0, 1) := by decide +kernel
theorem dX6_append_17 : decode cX6_append 17 = .ok (.iconst 1, 1) := by decide +kernel
theorem dX6_append_18 : decode cX6_append 18 = .ok (.invokevirtual 40, 3) := by decide +kernel
theorem dX6_append_21 : decode cX6_append 21 = .ok (.ireturn, 1) := by decide +kernel
theorem dX6_append_22 : decode cX6_append 22 = .ok (.aload_n 0, 1) := by decide +kernel
theorem dX6_append_23 : decode cX6_append 23 = .ok (.getfield 105, 3) := by decide +kernel
theorem dX6_append_26 : decode cX6_append 26 = .ok (.bipush 60, 2) := by decide +kernel
theorem dX6_append_28 : decode cX6_append 28 = .ok (.if_icmp .ne 9, 3) := by decide +kernel
theorem dX6_append_31 : decode cX6_append 31 = .ok (.aload_n 0, 1) := by decide +kernel
theorem dX6_append_32 : decode cX6_append 32 = .ok (.iconst 2, 1) := by decide +kernel
theorem dX6_append_33 : decode cX6_append 33 = .ok (.invokevirtual 40, 3) := by decide +kernel
theorem dX6_append_36 : decode cX6_append 36 = .ok (.ireturn, 1) := by decide +kernel
theorem dX6_append_37 : decode cX6_append 37 = .ok (.aload_n 0, 1) := by decide +kernel
theorem dX6_append_38 : decode cX6_append 38 = .ok (.getfield 19, 3) := by decide +kernel
theorem dX6_append_41 : decode cX6_append 41 = .ok (.aload_n 0, 1) := by decide +kernel
theorem dX6_append_42 : decode cX6_append 42 = .ok (.getfield 105, 3) := by decide +kernel
theorem dX6_append_45 : decode cX6_append 45 = .ok (.iload_n 1, 1) := by decide +kernel
theorem dX6_append_46 : decode cX6_append 46 = .ok (.iastore, 1) := by decide +kernel
theorem dX6_append_47 : decode cX6_append 47 = .ok (.aload_n 0, 1) := by decide +kernel
theorem dX6_append_48 : decode cX6_append 48 = .ok (.dup, 1) := by decide +kernel
theorem dX6_append_49 : decode cX6_append 49 = .ok (.getfield 105, 3) := by decide +kernel
theorem dX6_append_52 : decode cX6_append 52 = .ok (.iconst 1, 1) := by decide +kernel
theorem dX6_append_53 : decode cX6_append 53 = .ok (.iadd, 1) := by decide +kernel
theorem dX6_append_54 : decode cX6_append 54 = .ok (.putfield 105, 3) := by decide +kernel
theorem dX6_append_57 : decode cX6_append 57 = .ok (.aload_n 0, 1) := by decide +kernel
theorem dX6_append_58 : decode cX6_append 58 = .ok (.getfield 105, 3) := by decide +kernel
theorem dX6_append_61 : decode cX6_append 61 = .ok (.ireturn, 1) := by decide +kernel
theorem dX6_clearBuffer_0 : decode cX6_clearBuffer 0 = .ok (.aload_n 0, 1) := by decide +kernel
theorem dX6_clearBuffer_1 : decode cX6_clearBuffer 1 = .ok (.iconst 0, 1) := by decide +kernel
theorem dX6_clearBuffer_2 : decode cX6_clearBuffer 2 = .ok (.putfield 25, 3) := by decide +kernel
theorem dX6_clearBuffer_5 : decode cX6_clearBuffer 5 = .ok (.aload_n 0, 1) := by decide +kernel
theorem dX6_clearBuffer_6 : decode cX6_clearBuffer 6 = .ok (.getfield 105, 3) := by decide +kernel
theorem dX6_clearBuffer_9 : decode cX6_clearBuffer 9 = .ok (.istore_n 1, 1) := by decide +kernel
theorem dX6_clearBuffer_10 : decode cX6_clearBuffer 10 = .ok (.aload_n 0, 1) := by decide +kernel
theorem dX6_clearBuffer_11 : decode cX6_clearBuffer 11 = .ok (.iconst 0, 1) := by decide +kernel
theorem dX6_clearBuffer_12 : decode cX6_clearBuffer 12 = .ok (.putfield 105, 3) := by decide +kernel
theorem dX6_clearBuffer_15 : decode cX6_clearBuffer 15 = .ok (.iload_n 1, 1) := by decide +kernel
theorem dX6_clearBuffer_16 : decode cX6_clearBuffer 16 = .ok (.ireturn, 1) := by decide +kernel
theorem dX6_isAt_0 : decode cX6_isAt 0 = .ok (.aload_n 0, 1) := by decide +kernel
theorem dX6_isAt_1 : decode cX6_isAt 1 = .ok (.getfield 108, 3) := by decide +kernel
theorem dX6_isAt_4 : decode cX6_isAt 4 = .ok (.aload_n 0, 1) := by decide +kernel
theorem dX6_isAt_5 : decode cX6_isAt 5 = .ok (.getfield 105, 3) := by decide +kernel
theorem dX6_isAt_8 : decode cX6_isAt 8 = .ok (.if_icmp .ge 24, 3) := by decide +kernel
theorem dX6_isAt_11 : decode cX6_isAt 11 = .ok (.aload_n 0, 1) := by decide +kernel
theorem dX6_isAt_12 : decode cX6_isAt 12 = .ok (.getfield 19, 3) := by decide +kernel
theorem dX6_isAt_15 : decode cX6_isAt 15 = .ok (.aload_n 0, 1) := by decide +kernel
theorem dX6_isAt_16 : decode cX6_isAt 16 = .ok (.getfield 108, 3) := by decide +kernel
theorem dX6_isAt_19 : decode cX6_isAt 19 = .ok (.iaload, 1) := by decide +kernel
theorem dX6_isAt_20 : decode cX6_isAt 20 = .ok (.iload_n 1, 1) := by decide +kernel
theorem dX6_isAt_21 : decode cX6_isAt 21 = .ok (.iload_n 2, 1) := by decide +kernel
theorem dX6_isAt_22 : decode cX6_isAt 22 = .ok (.invokestatic 29, 3) := by decide +kernel
theorem dX6_isAt_25 : decode cX6_isAt 25 = .ok (.ifCond .eq 7, 3) := by decide +kernel
theorem dX6_isAt_28 : decode cX6_isAt 28 = .ok (.iconst 1, 1) := by decide +kernel
theorem dX6_isAt_29 : decode cX6_isAt 29 = .ok (.goto 4, 3) := by decide +kernel
theorem dX6_isAt_32 : decode cX6_isAt 32 = .ok (.iconst 0, 1) := by decide +kernel
theorem dX6_isAt_33 : decode cX6_isAt 33 = .ok (.ireturn, 1) := by decide +kernel
theorem dX6_stops_0 : decode cX6_stops 0 = .ok (.aload_n 0, 1) := by decide +kernel
theorem dX6_stops_1 : decode cX6_stops 1 = .ok (.aload_n 0, 1) := by decide +kernel
theorem dX6_stops_2 : decode cX6_stops 2 = .ok (.getfield 108, 3) := by decide +kernel
theorem dX6_stops_5 : decode cX6_stops 5 = .ok (.aload_n 0, 1) := by decide +kernel
theorem dX6_stops_6 : decode cX6_stops 6 = .ok (.getfield 105, 3) := by decide +kernel
theorem dX6_stops_9 : decode cX6_stops 9 = .ok (.if_icmp .ge 7, 3) := by decide +kernel
theorem dX6_stops_12 : decode cX6_stops 12 = .ok (.iconst 1, 1) := by decide +kernel
theorem dX6_stops_13 : decode cX6_stops 13 = .ok (.goto 4, 3) := by decide +kernel
theorem dX6_stops_16 : decode cX6_stops 16 = .ok (.iconst 0, 1) := by decide +kernel
theorem dX6_stops_17 : decode cX6_stops 17 = .ok (.putfield 111, 3) := by decide +kernel
theorem dX6_stops_20 : decode cX6_stops 20 = .ok (.iconst 0, 1) := by decide +kernel
theorem dX6_stops_21 : decode cX6_stops 21 = .ok (.ireturn, 1) := by decide +kernel
theorem dX6_isPart_0 : decode cX6_isPart 0 = .ok (.aload_n 0, 1) := by decide +kernel
theorem dX6_isPart_1 : decode cX6_isPart 1 = .ok (.bipush 48, 2) := by decide +kernel
theorem dX6_isPart_3 : decode cX6_isPart 3 = .ok (.bipush 55, 2) := by decide +kernel
theorem dX6_isPart_5 : decode cX6_isPart 5 = .ok (.invokevirtual 115, 3) := by decide +kernel
theorem dX6_isPart_8 : decode cX6_isPart 8 = .ok (.ifCond .ne 8, 3) := by decide +kernel
theorem dX6_isPart_11 : decode cX6_isPart 11 = .ok (.aload_n 0, 1) := by decide +kernel
theorem dX6_isPart_12 : decode cX6_isPart 12 = .ok (.invokevirtual 118, 3) := by decide +kernel
theorem dX6_isPart_15 : decode cX6_isPart 15 = .ok (.ireturn, 1) := by decide +kernel
theorem dX6_isPart_16 : decode cX6_isPart 16 = .ok (.aload_n 0, 1) := by decide +kernel
theorem dX6_isPart_17 : decode cX6_isPart 17 = .ok (.getfield 19, 3) := by decide +kernel
theorem dX6_isPart_20 : decode cX6_isPart 20 = .ok (.aload_n 0, 1) := by decide +kernel
theorem dX6_isPart_21 : decode cX6_isPart 21 = .ok (.getfield 108, 3) := by decide +kernel
theorem dX6_isPart_24 : decode cX6_isPart 24 = .ok (.iaload, 1) := by decide +kernel
theorem dX6_isPart_25 : decode cX6_isPart 25 = .ok (.bipush 48, 2) := by decide +kernel
theorem dX6_isPart_27 : decode cX6_isPart 27 = .ok (.isub, 1) := by decide +kernel
theorem dX6_isPart_28 : decode cX6_isPart 28 = .ok (.istore_n 1, 1) := by decide +kernel
theorem dX6_isPart_29 : decode cX6_isPart 29 = .ok (.aload_n 0, 1) := by decide +kernel
theorem dX6_isPart_30 : decode cX6_isPart 30 = .ok (.dup, 1) := by decide +kernel
theorem dX6_isPart_31 : decode cX6_isPart 31 = .ok (.getfield 108, 3) := by decide +kernel
theorem dX6_isPart_34 : decode cX6_isPart 34 = .ok (.iconst 1, 1) := by decide +kernel
theorem dX6_isPart_35 : decode cX6_isPart 35 = .ok (.iadd, 1) := by decide +kernel
theorem dX6_isPart_36 : decode cX6_isPart 36 = .ok (.putfield 108, 3) := by decide +kernel
theorem dX6_isPart_39 : decode cX6_isPart 39 = .ok (.aload_n 0, 1) := by decide +kernel
theorem dX6_isPart_40 : decode cX6_isPart 40 = .ok (.bipush 62, 2) := by decide +kernel
theorem dX6_isPart_42 : decode cX6_isPart 42 = .ok (.bipush 62, 2) := by decide +kernel
theorem dX6_isPart_44 : decode cX6_isPart 44 = .ok (.invokevirtual 115, 3) := by decide +kernel
theorem dX6_isPart_47 : decode cX6_isPart 47 = .ok (.ifCond .eq 13, 3) := by decide +kernel
theorem dX6_isPart_50 : decode cX6_isPart 50 = .ok (.iload_n 1, 1) := by decide +kernel
theorem dX6_isPart_51 : decode cX6_isPart 51 = .ok (.bipush 7, 2) := by decide +kernel
theorem dX6_isPart_53 : decode cX6_isPart 53 = .ok (.if_icmp .ge 7, 3) := by decide +kernel
theorem dX6_isPart_56 : decode cX6_isPart 56 = .ok (.iconst 1, 1) := by decide +kernel
theorem dX6_isPart_57 : decode cX6_isPart 57 = .ok (.goto 4, 3) := by decide +kernel
theorem dX6_isPart_60 : decode cX6_isPart 60 = .ok (.iconst 0, 1) := by decide +kernel
theorem dX6_isPart_61 : decode cX6_isPart 61 = .ok (.istore_n 2, 1) := by decide +kernel
theorem dX6_isPart_62 : decode cX6_isPart 62 = .ok (.aload_n 0, 1) := by decide +kernel
theorem dX6_isPart_63 : decode cX6_isPart 63 = .ok (.bipush 60, 2) := by decide +kernel
theorem dX6_isPart_65 : decode cX6_isPart 65 = .ok (.bipush 60, 2) := by decide +kernel
theorem dX6_isPart_67 : decode cX6_isPart 67 = .ok (.invokevirtual 115, 3) := by decide +kernel
theorem dX6_isPart_70 : decode cX6_isPart 70 = .ok (.ifCond .eq 11, 3) := by decide +kernel
theorem dX6_isPart_73 : decode cX6_isPart 73 = .ok (.iload_n 1, 1) := by decide +kernel
theorem dX6_isPart_74 : decode cX6_isPart 74 = .ok (.ifCond .le 7, 3) := by decide +kernel
theorem dX6_isPart_77 : decode cX6_isPart 77 = .ok (.iconst 1, 1) := by decide +kernel
theorem dX6_isPart_78 : decode cX6_isPart 78 = .ok (.goto 4, 3) := by decide +kernel
theorem dX6_isPart_81 : decode cX6_isPart 81 = .ok (.iconst 0, 1) := by decide +kernel
theorem dX6_isPart_82 : decode cX6_isPart 82 = .ok (.istore_n 3, 1) := by decide +kernel
theorem dX6_isPart_83 : decode cX6_isPart 83 = .ok (.iload_n 2, 1) := by decide +kernel
theorem dX6_isPart_84 : decode cX6_isPart 84 = .ok (.ifCond .ne 12, 3) := by decide +kernel
theorem dX6_isPart_87 : decode cX6_isPart 87 = .ok (.iload_n 3, 1) := by decide +kernel
theorem dX6_isPart_88 : decode cX6_isPart 88 = .ok (.ifCond .ne 8, 3) := by decide +kernel
theorem dX6_isPart_91 : decode cX6_isPart 91 = .ok (.aload_n 0, 1) := by decide +kernel
theorem dX6_isPart_92 : decode cX6_isPart 92 = .ok (.invokevirtual 118, 3) := by decide +kernel
theorem dX6_isPart_95 : decode cX6_isPart 95 = .ok (.ireturn, 1) := by decide +kernel
theorem dX6_isPart_96 : decode cX6_isPart 96 = .ok (.aload_n 0, 1) := by decide +kernel
theorem dX6_isPart_97 : decode cX6_isPart 97 = .ok (.dup, 1) := by decide +kernel
theorem dX6_isPart_98 : decode cX6_isPart 98 = .ok (.getfield 108, 3) := by decide +kernel
theorem dX6_isPart_101 : decode cX6_isPart 101 = .ok (.iconst 1, 1) := by decide +kernel
theorem dX6_isPart_102 : decode cX6_isPart 102 = .ok (.iadd, 1) := by decide +kernel
theorem dX6_isPart_103 : decode cX6_isPart 103 = .ok (.putfield 108, 3) := by decide +kernel
theorem dX6_isPart_106 : decode cX6_isPart 106 = .ok (.iload_n 2, 1) := by decide +kernel
theorem dX6_isPart_107 : decode cX6_isPart 107 = .ok (.ifCond .eq 19, 3) := by decide +kernel
theorem dX6_isPart_110 : decode cX6_isPart 110 = .ok (.aload_n 0, 1) := by decide +kernel
theorem dX6_isPart_111 : decode cX6_isPart 111 = .ok (.bipush 49, 2) := by decide +kernel
theorem dX6_isPart_113 : decode cX6_isPart 113 = .ok (.iload_n 1, 1) := by decide +kernel
theorem dX6_isPart_114 : decode cX6_isPart 114 = .ok (.iadd, 1) := by decide +kernel
theorem dX6_isPart_115 : decode cX6_isPart 115 = .ok (.bipush 55, 2) := by decide +kernel
theorem dX6_isPart_117 : decode cX6_isPart 117 = .ok (.invokevirtual 115, 3) := by decide +kernel
theorem dX6_isPart_120 : decode cX6_isPart 120 = .ok (.ifCond .eq 21, 3) := by decide +kernel
theorem dX6_isPart_123 : decode cX6_isPart 123 = .ok (.goto 23, 3) := by decide +kernel
theorem dX6_isPart_126 : decode cX6_isPart 126 = .ok (.aload_n 0, 1) := by decide +kernel
theorem dX6_isPart_127 : decode cX6_isPart 127 = .ok (.bipush 48, 2) := by decide +kernel
theorem dX6_isPart_129 : decode cX6_isPart 129 = .ok (.bipush 48, 2) := by decide +kernel
theorem dX6_isPart_131 : decode cX6_isPart 131 = .ok (.iload_n 1, 1) := by decide +kernel
theorem dX6_isPart_132 : decode cX6_isPart 132 = .ok (.iadd, 1) := by decide +kernel
theorem dX6_isPart_133 : decode cX6_isPart 133 = .ok (.iconst 1, 1) := by decide +kernel
theorem dX6_isPart_134 : decode cX6_isPart 134 = .ok (.isub, 1) := by decide +kernel
theorem dX6_isPart_135 : decode cX6_isPart 135 = .ok (.invokevirtual 115, 3) := by decide +kernel
theorem dX6_isPart_138 : decode cX6_isPart 138 = .ok (.ifCond .ne 8, 3) := by decide +kernel
theorem dX6_isPart_141 : decode cX6_isPart 141 = .ok (.aload_n 0, 1) := by decide +kernel
theorem dX6_isPart_142 : decode cX6_isPart 142 = .ok (.invokevirtual 118, 3) := by decide +kernel
theorem dX6_isPart_145 : decode cX6_isPart 145 = .ok (.ireturn, 1) := by decide +kernel
theorem dX6_isPart_146 : decode cX6_isPart 146 = .ok (.aload_n 0, 1) := by decide +kernel
theorem dX6_isPart_147 : decode cX6_isPart 147 = .ok (.getfield 22, 3) := by decide +kernel
theorem dX6_isPart_150 : decode cX6_isPart 150 = .ok (.iconst 2, 1) := by decide +kernel
theorem dX6_isPart_151 : decode cX6_isPart 151 = .ok (.aload_n 0, 1) := by decide +kernel
theorem dX6_isPart_152 : decode cX6_isPart 152 = .ok (.getfield 122, 3) := by decide +kernel
theorem dX6_isPart_155 : decode cX6_isPart 155 = .ok (.imul, 1) := by decide +kernel
theorem dX6_isPart_156 : decode cX6_isPart 156 = .ok (.iload_n 1, 1) := by decide +kernel
theorem dX6_isPart_157 : decode cX6_isPart 157 = .ok (.iastore, 1) := by decide +kernel
theorem dX6_isPart_158 : decode cX6_isPart 158 = .ok (.aload_n 0, 1) := by decide +kernel
theorem dX6_isPart_159 : decode cX6_isPart 159 = .ok (.getfield 22, 3) := by decide +kernel
theorem dX6_isPart_162 : decode cX6_isPart 162 = .ok (.iconst 2, 1) := by decide +kernel
theorem dX6_isPart_163 : decode cX6_isPart 163 = .ok (.aload_n 0, 1) := by decide +kernel
theorem dX6_isPart_164 : decode cX6_isPart 164 = .ok (.getfield 122, 3) := by decide +kernel
theorem dX6_isPart_167 : decode cX6_isPart 167 = .ok (.imul, 1) := by decide +kernel
theorem dX6_isPart_168 : decode cX6_isPart 168 = .ok (.iconst 1, 1) := by decide +kernel
theorem dX6_isPart_169 : decode cX6_isPart 169 = .ok (.iadd, 1) := by decide +kernel
theorem dX6_isPart_170 : decode cX6_isPart 170 = .ok (.aload_n 0, 1) := by decide +kernel
theorem dX6_isPart_171 : decode cX6_isPart 171 = .ok (.getfield 19, 3) := by decide +kernel
theorem dX6_isPart_174 : decode cX6_isPart 174 = .ok (.aload_n 0, 1) := by decide +kernel
theorem dX6_isPart_175 : decode cX6_isPart 175 = .ok (.getfield 108, 3) := by decide +kernel
theorem dX6_isPart_178 : decode cX6_isPart 178 = .ok (.iaload, 1) := by decide +kernel
theorem dX6_isPart_179 : decode cX6_isPart 179 = .ok (.bipush 48, 2) := by decide +kernel
theorem dX6_isPart_181 : decode cX6_isPart 181 = .ok (.isub, 1) := by decide +kernel
theorem dX6_isPart_182 : decode cX6_isPart 182 = .ok (.iastore, 1) := by decide +kernel
theorem dX6_isPart_183 : decode cX6_isPart 183 = .ok (.aload_n 0, 1) := by decide +kernel
theorem dX6_isPart_184 : decode cX6_isPart 184 = .ok (.dup, 1) := by decide +kernel
theorem dX6_isPart_185 : decode cX6_isPart 185 = .ok (.getfield 108, 3) := by decide +kernel
theorem dX6_isPart_188 : decode cX6_isPart 188 = .ok (.iconst 1, 1) := by decide +kernel
theorem dX6_isPart_189 : decode cX6_isPart 189 = .ok (.iadd, 1) := by decide +kernel
theorem dX6_isPart_190 : decode cX6_isPart 190 = .ok (.putfield 108, 3) := by decide +kernel
theorem dX6_isPart_193 : decode cX6_isPart 193 = .ok (.iconst 1, 1) := by decide +kernel
theorem dX6_isPart_194 : decode cX6_isPart 194 = .ok (.ireturn, 1) := by decide +kernel
theorem dX6_isText_0 : decode cX6_isText 0 = .ok (.aload_n 0, 1) := by decide +kernel
theorem dX6_isText_1 : decode cX6_isText 1 = .ok (.iconst 0, 1) := by decide +kernel
theorem dX6_isText_2 : decode cX6_isText 2 = .ok (.putfield 108, 3) := by decide +kernel
theorem dX6_isText_5 : decode cX6_isText 5 = .ok (.aload_n 0, 1) := by decide +kernel
theorem dX6_isText_6 : decode cX6_isText 6 = .ok (.iconst 0, 1) := by decide +kernel
theorem dX6_isText_7 : decode cX6_isText 7 = .ok (.putfield 122, 3) := by decide +kernel
theorem dX6_isText_10 : decode cX6_isText 10 = .ok (.aload_n 0, 1) := by decide +kernel
theorem dX6_isText_11 : decode cX6_isText 11 = .ok (.iconst 0, 1) := by decide +kernel
theorem dX6_isText_12 : decode cX6_isText 12 = .ok (.putfield 111, 3) := by decide +kernel
theorem dX6_isText_15 : decode cX6_isText 15 = .ok (.iconst 1, 1) := by decide +kernel
theorem dX6_isText_16 : decode cX6_isText 16 = .ok (.istore_n 1, 1) := by decide +kernel
theorem dX6_isText_17 : decode cX6_isText 17 = .ok (.iload_n 1, 1) := by decide +kernel
theorem dX6_isText_18 : decode cX6_isText 18 = .ok (.ifCond .eq 52, 3) := by decide +kernel
theorem dX6_isText_21 : decode cX6_isText 21 = .ok (.aload_n 0, 1) := by decide +kernel
theorem dX6_isText_22 : decode cX6_isText 22 = .ok (.invokevirtual 125, 3) := by decide +kernel
theorem dX6_isText_25 : decode cX6_isText 25 = .ok (.ifCond .ne 5, 3) := by decide +kernel
theorem dX6_isText_28 : decode cX6_isText 28 = .ok (.iconst 0, 1) := by decide +kernel
theorem dX6_isText_29 : decode cX6_isText 29 = .ok (.ireturn, 1) := by decide +kernel
theorem dX6_isText_30 : decode cX6_isText 30 = .ok (.aload_n 0, 1) := by decide +kernel
theorem dX6_isText_31 : decode cX6_isText 31 = .ok (.dup, 1) := by decide +kernel
theorem dX6_isText_32 : decode cX6_isText 32 = .ok (.getfield 122, 3) := by decide +kernel
theorem dX6_isText_35 : decode cX6_isText 35 = .ok (.iconst 1, 1) := by decide +kernel
theorem dX6_isText_36 : decode cX6_isText 36 = .ok (.iadd, 1) := by decide +kernel
theorem dX6_isText_37 : decode cX6_isText 37 = .ok (.putfield 122, 3) := by decide +kernel
theorem dX6_isText_40 : decode cX6_isText 40 = .ok (.aload_n 0, 1) := by decide +kernel
theorem dX6_isText_41 : decode cX6_isText 41 = .ok (.bipush 59, 2) := by decide +kernel
theorem dX6_isText_43 : decode cX6_isText 43 = .ok (.bipush 59, 2) := by decide +kernel
theorem dX6_isText_45 : decode cX6_isText 45 = .ok (.invokevirtual 115, 3) := by decide +kernel
theorem dX6_isText_48 : decode cX6_isText 48 = .ok (.istore_n 1, 1) := by decide +kernel
theorem dX6_isText_49 : decode cX6_isText 49 = .ok (.aload_n 0, 1) := by decide +kernel
theorem dX6_isText_50 : decode cX6_isText 50 = .ok (.dup, 1) := by decide +kernel
theorem dX6_isText_51 : decode cX6_isText 51 = .ok (.getfield 108, 3) := by decide +kernel
theorem dX6_isText_54 : decode cX6_isText 54 = .ok (.iload_n 1, 1) := by decide +kernel
theorem dX6_isText_55 : decode cX6_isText 55 = .ok (.ifCond .eq 7, 3) := by decide +kernel
theorem dX6_isText_58 : decode cX6_isText 58 = .ok (.iconst 1, 1) := by decide +kernel
theorem dX6_isText_59 : decode cX6_isText 59 = .ok (.goto 4, 3) := by decide +kernel
theorem dX6_isText_62 : decode cX6_isText 62 = .ok (.iconst 0, 1) := by decide +kernel
theorem dX6_isText_63 : decode cX6_isText 63 = .ok (.iadd, 1) := by decide +kernel
theorem dX6_isText_64 : decode cX6_isText 64 = .ok (.putfield 108, 3) := by decide +kernel
theorem dX6_isText_67 : decode cX6_isText 67 = .ok (.goto (-50), 3) := by decide +kernel
theorem dX6_isText_70 : decode cX6_isText 70 = .ok (.aload_n 0, 1) := by decide +kernel
theorem dX6_isText_71 : decode cX6_isText 71 = .ok (.aload_n 0, 1) := by decide +kernel
theorem dX6_isText_72 : decode cX6_isText 72 = .ok (.getfield 108, 3) := by decide +kernel
theorem dX6_isText_75 : decode cX6_isText 75 = .ok (.aload_n 0, 1) := by decide +kernel
theorem dX6_isText_76 : decode cX6_isText 76 = .ok (.getfield 105, 3) := by decide +kernel
theorem dX6_isText_79 : decode cX6_isText 79 = .ok (.if_icmp .ge 7, 3) := by decide +kernel
theorem dX6_isText_82 : decode cX6_isText 82 = .ok (.iconst 1, 1) := by decide +kernel
theorem dX6_isText_83 : decode cX6_isText 83 = .ok (.goto 4, 3) := by decide +kernel
theorem dX6_isText_86 : decode cX6_isText 86 = .ok (.iconst 0, 1) := by decide +kernel
theorem dX6_isText_87 : decode cX6_isText 87 = .ok (.putfield 111, 3) := by decide +kernel
theorem dX6_isText_90 : decode cX6_isText 90 = .ok (.aload_n 0, 1) := by decide +kernel
theorem dX6_isText_91 : decode cX6_isText 91 = .ok (.getfield 108, 3) := by decide +kernel
theorem dX6_isText_94 : decode cX6_isText 94 = .ok (.aload_n 0, 1) := by decide +kernel
theorem dX6_isText_95 : decode cX6_isText 95 = .ok (.getfield 105, 3) := by decide +kernel
theorem dX6_isText_98 : decode cX6_isText 98 = .ok (.if_icmp .ne 7, 3) := by decide +kernel
theorem dX6_isText_101 : decode cX6_isText 101 = .ok (.iconst 1, 1) := by decide +kernel
theorem dX6_isText_102 : decode cX6_isText 102 = .ok (.goto 4, 3) := by decide +kernel
theorem dX6_isText_105 : decode cX6_isText 105 = .ok (.iconst 0, 1) := by decide +kernel
theorem dX6_isText_106 : decode cX6_isText 106 = .ok (.ireturn, 1) := by decide +kernel
theorem dX6_firstError_0 : decode cX6_firstError 0 = .ok (.aload_n 0, 1) := by decide +kernel
theorem dX6_firstError_1 : decode cX6_firstError 1 = .ok (.iconst 0, 1) := by decide +kernel
theorem dX6_firstError_2 : decode cX6_firstError 2 = .ok (.putfield 25, 3) := by decide +kernel
theorem dX6_firstError_5 : decode cX6_firstError 5 = .ok (.aload_n 0, 1) := by decide +kernel
theorem dX6_firstError_6 : decode cX6_firstError 6 = .ok (.invokevirtual 128, 3) := by decide +kernel
theorem dX6_firstError_9 : decode cX6_firstError 9 = .ok (.istore_n 1, 1) := by decide +kernel
theorem dX6_firstError_10 : decode cX6_firstError 10 = .ok (.iload_n 1, 1) := by decide +kernel
theorem dX6_firstError_11 : decode cX6_firstError 11 = .ok (.ifCond .ne 17, 3) := by decide +kernel
theorem dX6_firstError_14 : decode cX6_firstError 14 = .ok (.aload_n 0, 1) := by decide +kernel
theorem dX6_firstError_15 : decode cX6_firstError 15 = .ok (.getfield 111, 3) := by decide +kernel
theorem dX6_firstError_18 : decode cX6_firstError 18 = .ok (.ifCond .eq 10, 3) := by decide +kernel
theorem dX6_firstError_21 : decode cX6_firstError 21 = .ok (.aload_n 0, 1) := by decide +kernel
theorem dX6_firstError_22 : decode cX6_firstError 22 = .ok (.getfield 108, 3) := by decide +kernel
theorem dX6_firstError_25 : decode cX6_firstError 25 = .ok (.goto 7, 3) := by decide +kernel
theorem dX6_firstError_28 : decode cX6_firstError 28 = .ok (.aload_n 0, 1) := by decide +kernel
theorem dX6_firstError_29 : decode cX6_firstError 29 = .ok (.getfield 105, 3) := by decide +kernel
theorem dX6_firstError_32 : decode cX6_firstError 32 = .ok (.ireturn, 1) := by decide +kernel
theorem dX6_comeAll_0 : decode cX6_comeAll 0 = .ok (.aload_n 0, 1) := by decide +kernel
theorem dX6_comeAll_1 : decode cX6_comeAll 1 = .ok (.iconst 0, 1) := by decide +kernel
theorem dX6_comeAll_2 : decode cX6_comeAll 2 = .ok (.putfield 25, 3) := by decide +kernel
theorem dX6_comeAll_5 : decode cX6_comeAll 5 = .ok (.aload_n 0, 1) := by decide +kernel
theorem dX6_comeAll_6 : decode cX6_comeAll 6 = .ok (.invokevirtual 128, 3) := by decide +kernel
theorem dX6_comeAll_9 : decode cX6_comeAll 9 = .ok (.ifCond .ne 9, 3) := by decide +kernel
theorem dX6_comeAll_12 : decode cX6_comeAll 12 = .ok (.aload_n 0, 1) := by decide +kernel
theorem dX6_comeAll_13 : decode cX6_comeAll 13 = .ok (.iconst 1, 1) := by decide +kernel
theorem dX6_comeAll_14 : decode cX6_comeAll 14 = .ok (.invokevirtual 40, 3) := by decide +kernel
theorem dX6_comeAll_17 : decode cX6_comeAll 17 = .ok (.ireturn, 1) := by decide +kernel
theorem dX6_comeAll_18 : decode cX6_comeAll 18 = .ok (.aload_n 0, 1) := by decide +kernel
theorem dX6_comeAll_19 : decode cX6_comeAll 19 = .ok (.invokevirtual 86, 3) := by decide +kernel
theorem dX6_comeAll_22 : decode cX6_comeAll 22 = .ok (.aload_n 0, 1) := by decide +kernel
theorem dX6_comeAll_23 : decode cX6_comeAll 23 = .ok (.iconst 0, 1) := by decide +kernel
theorem dX6_comeAll_24 : decode cX6_comeAll 24 = .ok (.putfield 105, 3) := by decide +kernel
theorem dX6_comeAll_27 : decode cX6_comeAll 27 = .ok (.aload_n 0, 1) := by decide +kernel
theorem dX6_comeAll_28 : decode cX6_comeAll 28 = .ok (.getfield 7, 3) := by decide +kernel
theorem dX6_comeAll_31 : decode cX6_comeAll 31 = .ok (.iconst 4, 1) := by decide +kernel
theorem dX6_comeAll_32 : decode cX6_comeAll 32 = .ok (.iaload, 1) := by decide +kernel
theorem dX6_comeAll_33 : decode cX6_comeAll 33 = .ok (.istore_n 1, 1) := by decide +kernel
theorem dX6_comeAll_34 : decode cX6_comeAll 34 = .ok (.iconst 0, 1) := by decide +kernel
theorem dX6_comeAll_35 : decode cX6_comeAll 35 = .ok (.istore_n 2, 1) := by decide +kernel
theorem dX6_comeAll_36 : decode cX6_comeAll 36 = .ok (.iload_n 2, 1) := by decide +kernel
theorem dX6_comeAll_37 : decode cX6_comeAll 37 = .ok (.aload_n 0, 1) := by decide +kernel
theorem dX6_comeAll_38 : decode cX6_comeAll 38 = .ok (.getfield 122, 3) := by decide +kernel
theorem dX6_comeAll_41 : decode cX6_comeAll 41 = .ok (.if_icmp .ge 58, 3) := by decide +kernel
theorem dX6_comeAll_44 : decode cX6_comeAll 44 = .ok (.aload_n 0, 1) := by decide +kernel
theorem dX6_comeAll_45 : decode cX6_comeAll 45 = .ok (.getfield 7, 3) := by decide +kernel
theorem dX6_comeAll_48 : decode cX6_comeAll 48 = .ok (.bipush 57, 2) := by decide +kernel
theorem dX6_comeAll_50 : decode cX6_comeAll 50 = .ok (.iaload, 1) := by decide +kernel
theorem dX6_comeAll_51 : decode cX6_comeAll 51 = .ok (.bipush 6, 2) := by decide +kernel
theorem dX6_comeAll_53 : decode cX6_comeAll 53 = .ok (.if_icmp .ne 14, 3) := by decide +kernel
theorem dX6_comeAll_56 : decode cX6_comeAll 56 = .ok (.aload_n 0, 1) := by decide +kernel
theorem dX6_comeAll_57 : decode cX6_comeAll 57 = .ok (.aload_n 0, 1) := by decide +kernel
theorem dX6_comeAll_58 : decode cX6_comeAll 58 = .ok (.getfield 7, 3) := by decide +kernel
theorem dX6_comeAll_61 : decode cX6_comeAll 61 = .ok (.invokevirtual 102, 3) := by decide +kernel
theorem dX6_comeAll_64 : decode cX6_comeAll 64 = .ok (.goto (-20), 3) := by decide +kernel
theorem dX6_comeAll_67 : decode cX6_comeAll 67 = .ok (.aload_n 0, 1) := by decide +kernel
theorem dX6_comeAll_68 : decode cX6_comeAll 68 = .ok (.getfield 7, 3) := by decide +kernel
theorem dX6_comeAll_71 : decode cX6_comeAll 71 = .ok (.aload_n 0, 1) := by decide +kernel
theorem dX6_comeAll_72 : decode cX6_comeAll 72 = .ok (.getfield 22, 3) := by decide +kernel
theorem dX6_comeAll_75 : decode cX6_comeAll 75 = .ok (.iconst 2, 1) := by decide +kernel
theorem dX6_comeAll_76 : decode cX6_comeAll 76 = .ok (.iload_n 2, 1) := by decide +kernel
theorem dX6_comeAll_77 : decode cX6_comeAll 77 = .ok (.imul, 1) := by decide +kernel
theorem dX6_comeAll_78 : decode cX6_comeAll 78 = .ok (.iaload, 1) := by decide +kernel
theorem dX6_comeAll_79 : decode cX6_comeAll 79 = .ok (.aload_n 0, 1) := by decide +kernel
theorem dX6_comeAll_80 : decode cX6_comeAll 80 = .ok (.getfield 22, 3) := by decide +kernel
theorem dX6_comeAll_83 : decode cX6_comeAll 83 = .ok (.iconst 2, 1) := by decide +kernel
theorem dX6_comeAll_84 : decode cX6_comeAll 84 = .ok (.iload_n 2, 1) := by decide +kernel
theorem dX6_comeAll_85 : decode cX6_comeAll 85 = .ok (.imul, 1) := by decide +kernel
theorem dX6_comeAll_86 : decode cX6_comeAll 86 = .ok (.iconst 1, 1) := by decide +kernel
theorem dX6_comeAll_87 : decode cX6_comeAll 87 = .ok (.iadd, 1) := by decide +kernel
theorem dX6_comeAll_88 : decode cX6_comeAll 88 = .ok (.iaload, 1) := by decide +kernel
theorem dX6_comeAll_89 : decode cX6_comeAll 89 = .ok (.invokestatic 89, 3) := by decide +kernel
theorem dX6_comeAll_92 : decode cX6_comeAll 92 = .ok (.pop, 1) := by decide +kernel
theorem dX6_comeAll_93 : decode cX6_comeAll 93 = .ok (.iinc 2 1, 3) := by decide +kernel
theorem dX6_comeAll_96 : decode cX6_comeAll 96 = .ok (.goto (-60), 3) := by decide +kernel
theorem dX6_comeAll_99 : decode cX6_comeAll 99 = .ok (.aload_n 0, 1) := by decide +kernel
theorem dX6_comeAll_100 : decode cX6_comeAll 100 = .ok (.getfield 7, 3) := by decide +kernel
theorem dX6_comeAll_103 : decode cX6_comeAll 103 = .ok (.iconst 4, 1) := by decide +kernel
theorem dX6_comeAll_104 : decode cX6_comeAll 104 = .ok (.iaload, 1) := by decide +kernel
theorem dX6_comeAll_105 : decode cX6_comeAll 105 = .ok (.iload_n 1, 1) := by decide +kernel
theorem dX6_comeAll_106 : decode cX6_comeAll 106 = .ok (.isub, 1) := by decide +kernel
theorem dX6_comeAll_107 : decode cX6_comeAll 107 = .ok (.ireturn, 1) := by decide +kernel
theorem dX6_ofFloor_0 : decode cX6_ofFloor 0 = .ok (.iload_n 2, 1) := by decide +kernel
theorem dX6_ofFloor_1 : decode cX6_ofFloor 1 = .ok (.tableswitch 61 0 3 #[31, 40, 40, 52], 31) := by decide +kernel
theorem dX6_ofFloor_32 : decode cX6_ofFloor 32 = .ok (.aload_n 0, 1) := by decide +kernel
theorem dX6_ofFloor_33 : decode cX6_ofFloor 33 = .ok (.getfield 7, 3) := by decide +kernel
theorem dX6_ofFloor_36 : decode cX6_ofFloor 36 = .ok (.iload_n 1, 1) := by decide +kernel
theorem dX6_ofFloor_37 : decode cX6_ofFloor 37 = .ok (.invokestatic 69, 3) := by decide +kernel
theorem dX6_ofFloor_40 : decode cX6_ofFloor 40 = .ok (.ireturn, 1) := by decide +kernel
theorem dX6_ofFloor_41 : decode cX6_ofFloor 41 = .ok (.aload_n 0, 1) := by decide +kernel
theorem dX6_ofFloor_42 : decode cX6_ofFloor 42 = .ok (.getfield 7, 3) := by decide +kernel
theorem dX6_ofFloor_45 : decode cX6_ofFloor 45 = .ok (.iload_n 1, 1) := by decide +kernel
theorem dX6_ofFloor_46 : decode cX6_ofFloor 46 = .ok (.iload_n 2, 1) := by decide +kernel
theorem dX6_ofFloor_47 : decode cX6_ofFloor 47 = .ok (.iconst 1, 1) := by decide +kernel
theorem dX6_ofFloor_48 : decode cX6_ofFloor 48 = .ok (.isub, 1) := by decide +kernel
theorem dX6_ofFloor_49 : decode cX6_ofFloor 49 = .ok (.invokestatic 44, 3) := by decide +kernel
theorem dX6_ofFloor_52 : decode cX6_ofFloor 52 = .ok (.ireturn, 1) := by decide +kernel
theorem dX6_ofFloor_53 : decode cX6_ofFloor 53 = .ok (.aload_n 0, 1) := by decide +kernel
theorem dX6_ofFloor_54 : decode cX6_ofFloor 54 = .ok (.getfield 7, 3) := by decide +kernel
theorem dX6_ofFloor_57 : decode cX6_ofFloor 57 = .ok (.iload_n 1, 1) := by decide +kernel
theorem dX6_ofFloor_58 : decode cX6_ofFloor 58 = .ok (.invokestatic 55, 3) := by decide +kernel
theorem dX6_ofFloor_61 : decode cX6_ofFloor 61 = .ok (.ireturn, 1) := by decide +kernel
theorem dX6_ofFloor_62 : decode cX6_ofFloor 62 = .ok (.aload_n 0, 1) := by decide +kernel
theorem dX6_ofFloor_63 : decode cX6_ofFloor 63 = .ok (.getfield 7, 3) := by decide +kernel
theorem dX6_ofFloor_66 : decode cX6_ofFloor 66 = .ok (.iload_n 1, 1) := by decide +kernel
theorem dX6_ofFloor_67 : decode cX6_ofFloor 67 = .ok (.iload_n 2, 1) := by decide +kernel
theorem dX6_ofFloor_68 : decode cX6_ofFloor 68 = .ok (.iconst 2, 1) := by decide +kernel
theorem dX6_ofFloor_69 : decode cX6_ofFloor 69 = .ok (.isub, 1) := by decide +kernel
theorem dX6_ofFloor_70 : decode cX6_ofFloor 70 = .ok (.invokestatic 44, 3) := by decide +kernel
theorem dX6_ofFloor_73 : decode cX6_ofFloor 73 = .ok (.ireturn, 1) := by decide +kernel
theorem dX6_floor_0 : decode cX6_floor 0 = .ok (.aload_n 0, 1) := by decide +kernel
theorem dX6_floor_1 : decode cX6_floor 1 = .ok (.iconst 0, 1) := by decide +kernel
theorem dX6_floor_2 : decode cX6_floor 2 = .ok (.putfield 25, 3) := by decide +kernel
theorem dX6_floor_5 : decode cX6_floor 5 = .ok (.iload_n 1, 1) := by decide +kernel
theorem dX6_floor_6 : decode cX6_floor 6 = .ok (.invokestatic 78, 3) := by decide +kernel
theorem dX6_floor_9 : decode cX6_floor 9 = .ok (.ifCond .ne 9, 3) := by decide +kernel
theorem dX6_floor_12 : decode cX6_floor 12 = .ok (.aload_n 0, 1) := by decide +kernel
theorem dX6_floor_13 : decode cX6_floor 13 = .ok (.iconst 1, 1) := by decide +kernel
theorem dX6_floor_14 : decode cX6_floor 14 = .ok (.invokevirtual 40, 3) := by decide +kernel
theorem dX6_floor_17 : decode cX6_floor 17 = .ok (.ireturn, 1) := by decide +kernel
theorem dX6_floor_18 : decode cX6_floor 18 = .ok (.iload_n 2, 1) := by decide +kernel
theorem dX6_floor_19 : decode cX6_floor 19 = .ok (.iconst 0, 1) := by decide +kernel
theorem dX6_floor_20 : decode cX6_floor 20 = .ok (.bipush 7, 2) := by decide +kernel
theorem dX6_floor_22 : decode cX6_floor 22 = .ok (.invokestatic 29, 3) := by decide +kernel
theorem dX6_floor_25 : decode cX6_floor 25 = .ok (.ifCond .eq 12, 3) := by decide +kernel
theorem dX6_floor_28 : decode cX6_floor 28 = .ok (.aload_n 0, 1) := by decide +kernel
theorem dX6_floor_29 : decode cX6_floor 29 = .ok (.iload_n 1, 1) := by decide +kernel
theorem dX6_floor_30 : decode cX6_floor 30 = .ok (.iload_n 2, 1) := by decide +kernel
theorem dX6_floor_31 : decode cX6_floor 31 = .ok (.invokevirtual 131, 3) := by decide +kernel
theorem dX6_floor_34 : decode cX6_floor 34 = .ok (.goto 8, 3) := by decide +kernel
theorem dX6_floor_37 : decode cX6_floor 37 = .ok (.aload_n 0, 1) := by decide +kernel
theorem dX6_floor_38 : decode cX6_floor 38 = .ok (.iconst 2, 1) := by decide +kernel
theorem dX6_floor_39 : decode cX6_floor 39 = .ok (.invokevirtual 40, 3) := by decide +kernel
theorem dX6_floor_42 : decode cX6_floor 42 = .ok (.ireturn, 1) := by decide +kernel
theorem dX6_person_0 : decode cX6_person 0 = .ok (.aload_n 0, 1) := by decide +kernel
theorem dX6_person_1 : decode cX6_person 1 = .ok (.iconst 0, 1) := by decide +kernel
theorem dX6_person_2 : decode cX6_person 2 = .ok (.putfield 25, 3) := by decide +kernel
theorem dX6_person_5 : decode cX6_person 5 = .ok (.iload_n 1, 1) := by decide +kernel
theorem dX6_person_6 : decode cX6_person 6 = .ok (.ifCond .lt 12, 3) := by decide +kernel
theorem dX6_person_9 : decode cX6_person 9 = .ok (.iload_n 2, 1) := by decide +kernel
theorem dX6_person_10 : decode cX6_person 10 = .ok (.iconst 0, 1) := by decide +kernel
theorem dX6_person_11 : decode cX6_person 11 = .ok (.iconst 3, 1) := by decide +kernel
theorem dX6_person_12 : decode cX6_person 12 = .ok (.invokestatic 29, 3) := by decide +kernel
theorem dX6_person_15 : decode cX6_person 15 = .ok (.ifCond .ne 9, 3) := by decide +kernel
theorem dX6_person_18 : decode cX6_person 18 = .ok (.aload_n 0, 1) := by decide +kernel
theorem dX6_person_19 : decode cX6_person 19 = .ok (.iconst 1, 1) := by decide +kernel
theorem dX6_person_20 : decode cX6_person 20 = .ok (.invokevirtual 40, 3) := by decide +kernel
theorem dX6_person_23 : decode cX6_person 23 = .ok (.ireturn, 1) := by decide +kernel
theorem dX6_person_24 : decode cX6_person 24 = .ok (.iload_n 1, 1) := by decide +kernel
theorem dX6_person_25 : decode cX6_person 25 = .ok (.aload_n 0, 1) := by decide +kernel
theorem dX6_person_26 : decode cX6_person 26 = .ok (.getfield 7, 3) := by decide +kernel
theorem dX6_person_29 : decode cX6_person 29 = .ok (.bipush 57, 2) := by decide +kernel
theorem dX6_person_31 : decode cX6_person 31 = .ok (.iaload, 1) := by decide +kernel
theorem dX6_person_32 : decode cX6_person 32 = .ok (.if_icmp .ge 15, 3) := by decide +kernel
theorem dX6_person_35 : decode cX6_person 35 = .ok (.aload_n 0, 1) := by decide +kernel
theorem dX6_person_36 : decode cX6_person 36 = .ok (.getfield 7, 3) := by decide +kernel
theorem dX6_person_39 : decode cX6_person 39 = .ok (.iload_n 1, 1) := by decide +kernel
theorem dX6_person_40 : decode cX6_person 40 = .ok (.iload_n 2, 1) := by decide +kernel
theorem dX6_person_41 : decode cX6_person 41 = .ok (.invokestatic 48, 3) := by decide +kernel
theorem dX6_person_44 : decode cX6_person 44 = .ok (.goto 4, 3) := by decide +kernel
theorem dX6_person_47 : decode cX6_person 47 = .ok (.iconst (-1), 1) := by decide +kernel
theorem dX6_person_48 : decode cX6_person 48 = .ok (.ireturn, 1) := by decide +kernel
theorem dX6_counted_0 : decode cX6_counted 0 = .ok (.iload_n 1, 1) := by decide +kernel
theorem dX6_counted_1 : decode cX6_counted 1 = .ok (.tableswitch 121 0 9 #[55, 62, 70, 77, 85, 85, 85, 96, 96, 109], 55) := by decide +kernel
theorem dX6_counted_56 : decode cX6_counted 56 = .ok (.aload_n 0, 1) := by decide +kernel
theorem dX6_counted_57 : decode cX6_counted 57 = .ok (.getfield 7, 3) := by decide +kernel
theorem dX6_counted_60 : decode cX6_counted 60 = .ok (.iconst 4, 1) := by decide +kernel
theorem dX6_counted_61 : decode cX6_counted 61 = .ok (.iaload, 1) := by decide +kernel
theorem dX6_counted_62 : decode cX6_counted 62 = .ok (.ireturn, 1) := by decide +kernel
theorem dX6_counted_63 : decode cX6_counted 63 = .ok (.aload_n 0, 1) := by decide +kernel
theorem dX6_counted_64 : decode cX6_counted 64 = .ok (.getfield 7, 3) := by decide +kernel
theorem dX6_counted_67 : decode cX6_counted 67 = .ok (.bipush 57, 2) := by decide +kernel
theorem dX6_counted_69 : decode cX6_counted 69 = .ok (.iaload, 1) := by decide +kernel
theorem dX6_counted_70 : decode cX6_counted 70 = .ok (.ireturn, 1) := by decide +kernel
theorem dX6_counted_71 : decode cX6_counted 71 = .ok (.aload_n 0, 1) := by decide +kernel
theorem dX6_counted_72 : decode cX6_counted 72 = .ok (.getfield 7, 3) := by decide +kernel
theorem dX6_counted_75 : decode cX6_counted 75 = .ok (.iconst 5, 1) := by decide +kernel
theorem dX6_counted_76 : decode cX6_counted 76 = .ok (.iaload, 1) := by decide +kernel
theorem dX6_counted_77 : decode cX6_counted 77 = .ok (.ireturn, 1) := by decide +kernel
theorem dX6_counted_78 : decode cX6_counted 78 = .ok (.aload_n 0, 1) := by decide +kernel
theorem dX6_counted_79 : decode cX6_counted 79 = .ok (.getfield 7, 3) := by decide +kernel
theorem dX6_counted_82 : decode cX6_counted 82 = .ok (.invokestatic 134, 3) := by decide +kernel
theorem dX6_counted_85 : decode cX6_counted 85 = .ok (.ireturn, 1) := by decide +kernel
theorem dX6_counted_86 : decode cX6_counted 86 = .ok (.aload_n 0, 1) := by decide +kernel
theorem dX6_counted_87 : decode cX6_counted 87 = .ok (.getfield 7, 3) := by decide +kernel
theorem dX6_counted_90 : decode cX6_counted 90 = .ok (.iload_n 1, 1) := by decide +kernel
theorem dX6_counted_91 : decode cX6_counted 91 = .ok (.iconst 2, 1) := by decide +kernel
theorem dX6_counted_92 : decode cX6_counted 92 = .ok (.isub, 1) := by decide +kernel
theorem dX6_counted_93 : decode cX6_counted 93 = .ok (.invokestatic 99, 3) := by decide +kernel
theorem dX6_counted_96 : decode cX6_counted 96 = .ok (.ireturn, 1) := by decide +kernel
theorem dX6_counted_97 : decode cX6_counted 97 = .ok (.aload_n 0, 1) := by decide +kernel
theorem dX6_counted_98 : decode cX6_counted 98 = .ok (.getfield 7, 3) := by decide +kernel
theorem dX6_counted_101 : decode cX6_counted 101 = .ok (.bipush 6, 2) := by decide +kernel
theorem dX6_counted_103 : decode cX6_counted 103 = .ok (.iload_n 1, 1) := by decide +kernel
theorem dX6_counted_104 : decode cX6_counted 104 = .ok (.iadd, 1) := by decide +kernel
theorem dX6_counted_105 : decode cX6_counted 105 = .ok (.bipush 7, 2) := by decide +kernel
theorem dX6_counted_107 : decode cX6_counted 107 = .ok (.isub, 1) := by decide +kernel
theorem dX6_counted_108 : decode cX6_counted 108 = .ok (.iaload, 1) := by decide +kernel
theorem dX6_counted_109 : decode cX6_counted 109 = .ok (.ireturn, 1) := by decide +kernel
theorem dX6_counted_110 : decode cX6_counted 110 = .ok (.bipush 8, 2) := by decide +kernel
theorem dX6_counted_112 : decode cX6_counted 112 = .ok (.aload_n 0, 1) := by decide +kernel
theorem dX6_counted_113 : decode cX6_counted 113 = .ok (.getfield 7, 3) := by decide +kernel
theorem dX6_counted_116 : decode cX6_counted 116 = .ok (.iconst 1, 1) := by decide +kernel
theorem dX6_counted_117 : decode cX6_counted 117 = .ok (.invokestatic 99, 3) := by decide +kernel
theorem dX6_counted_120 : decode cX6_counted 120 = .ok (.isub, 1) := by decide +kernel
theorem dX6_counted_121 : decode cX6_counted 121 = .ok (.ireturn, 1) := by decide +kernel
theorem dX6_counted_122 : decode cX6_counted 122 = .ok (.aload_n 0, 1) := by decide +kernel
theorem dX6_counted_123 : decode cX6_counted 123 = .ok (.getfield 33, 3) := by decide +kernel
theorem dX6_counted_126 : decode cX6_counted 126 = .ok (.ireturn, 1) := by decide +kernel
theorem dX6_count_0 : decode cX6_count 0 = .ok (.aload_n 0, 1) := by decide +kernel
theorem dX6_count_1 : decode cX6_count 1 = .ok (.iconst 0, 1) := by decide +kernel
theorem dX6_count_2 : decode cX6_count 2 = .ok (.putfield 25, 3) := by decide +kernel
theorem dX6_count_5 : decode cX6_count 5 = .ok (.iload_n 1, 1) := by decide +kernel
theorem dX6_count_6 : decode cX6_count 6 = .ok (.iconst 0, 1) := by decide +kernel
theorem dX6_count_7 : decode cX6_count 7 = .ok (.bipush 10, 2) := by decide +kernel
theorem dX6_count_9 : decode cX6_count 9 = .ok (.invokestatic 29, 3) := by decide +kernel
theorem dX6_count_12 : decode cX6_count 12 = .ok (.ifCond .eq 11, 3) := by decide +kernel
theorem dX6_count_15 : decode cX6_count 15 = .ok (.aload_n 0, 1) := by decide +kernel
theorem dX6_count_16 : decode cX6_count 16 = .ok (.iload_n 1, 1) := by decide +kernel
theorem dX6_count_17 : decode cX6_count 17 = .ok (.invokevirtual 138, 3) := by decide +kernel
theorem dX6_count_20 : decode cX6_count 20 = .ok (.goto 8, 3) := by decide +kernel
theorem dX6_count_23 : decode cX6_count 23 = .ok (.aload_n 0, 1) := by decide +kernel
theorem dX6_count_24 : decode cX6_count 24 = .ok (.iconst 1, 1) := by decide +kernel
theorem dX6_count_25 : decode cX6_count 25 = .ok (.invokevirtual 40, 3) := by decide +kernel
theorem dX6_count_28 : decode cX6_count 28 = .ok (.ireturn, 1) := by decide +kernel
theorem dX6_setting_0 : decode cX6_setting 0 = .ok (.aload_n 0, 1) := by decide +kernel
theorem dX6_setting_1 : decode cX6_setting 1 = .ok (.iconst 0, 1) := by decide +kernel
theorem dX6_setting_2 : decode cX6_setting 2 = .ok (.putfield 25, 3) := by decide +kernel
theorem dX6_setting_5 : decode cX6_setting 5 = .ok (.iload_n 1, 1) := by decide +kernel
theorem dX6_setting_6 : decode cX6_setting 6 = .ok (.iconst 0, 1) := by decide +kernel
theorem dX6_setting_7 : decode cX6_setting 7 = .ok (.iconst 3, 1) := by decide +kernel
theorem dX6_setting_8 : decode cX6_setting 8 = .ok (.invokestatic 29, 3) := by decide +kernel
theorem dX6_setting_11 : decode cX6_setting 11 = .ok (.ifCond .eq 12, 3) := by decide +kernel
theorem dX6_setting_14 : decode cX6_setting 14 = .ok (.aload_n 0, 1) := by decide +kernel
theorem dX6_setting_15 : decode cX6_setting 15 = .ok (.getfield 7, 3) := by decide +kernel
theorem dX6_setting_18 : decode cX6_setting 18 = .ok (.iload_n 1, 1) := by decide +kernel
theorem dX6_setting_19 : decode cX6_setting 19 = .ok (.iaload, 1) := by decide +kernel
theorem dX6_setting_20 : decode cX6_setting 20 = .ok (.goto 8, 3) := by decide +kernel
theorem dX6_setting_23 : decode cX6_setting 23 = .ok (.aload_n 0, 1) := by decide +kernel
theorem dX6_setting_24 : decode cX6_setting 24 = .ok (.iconst 1, 1) := by decide +kernel
theorem dX6_setting_25 : decode cX6_setting 25 = .ok (.invokevirtual 40, 3) := by decide +kernel
theorem dX6_setting_28 : decode cX6_setting 28 = .ok (.ireturn, 1) := by decide +kernel
theorem dX6_byPassing_0 : decode cX6_byPassing 0 = .ok (.aload_n 0, 1) := by decide +kernel
theorem dX6_byPassing_1 : decode cX6_byPassing 1 = .ok (.getfield 7, 3) := by decide +kernel
theorem dX6_byPassing_4 : decode cX6_byPassing 4 = .ok (.iconst 0, 1) := by decide +kernel
theorem dX6_byPassing_5 : decode cX6_byPassing 5 = .ok (.aload_n 0, 1) := by decide +kernel
theorem dX6_byPassing_6 : decode cX6_byPassing 6 = .ok (.getfield 13, 3) := by decide +kernel
theorem dX6_byPassing_9 : decode cX6_byPassing 9 = .ok (.iconst 0, 1) := by decide +kernel
theorem dX6_byPassing_10 : decode cX6_byPassing 10 = .ok (.invokestatic 36, 3) := by decide +kernel
theorem dX6_byPassing_13 : decode cX6_byPassing 13 = .ok (.iconst 0, 1) := by decide +kernel
theorem dX6_byPassing_14 : decode cX6_byPassing 14 = .ok (.istore_n 3, 1) := by decide +kernel
theorem dX6_byPassing_15 : decode cX6_byPassing 15 = .ok (.iload_n 3, 1) := by decide +kernel
theorem dX6_byPassing_16 : decode cX6_byPassing 16 = .ok (.iload_n 1, 1) := by decide +kernel
theorem dX6_byPassing_17 : decode cX6_byPassing 17 = .ok (.if_icmp .ge 17, 3) := by decide +kernel
theorem dX6_byPassing_20 : decode cX6_byPassing 20 = .ok (.aload_n 0, 1) := by decide +kernel
theorem dX6_byPassing_21 : decode cX6_byPassing 21 = .ok (.aload_n 0, 1) := by decide +kernel
theorem dX6_byPassing_22 : decode cX6_byPassing 22 = .ok (.getfield 13, 3) := by decide +kernel
theorem dX6_byPassing_25 : decode cX6_byPassing 25 = .ok (.invokevirtual 102, 3) := by decide +kernel
theorem dX6_byPassing_28 : decode cX6_byPassing 28 = .ok (.iinc 3 1, 3) := by decide +kernel
theorem dX6_byPassing_31 : decode cX6_byPassing 31 = .ok (.goto (-16), 3) := by decide +kernel
theorem dX6_byPassing_34 : decode cX6_byPassing 34 = .ok (.iload_n 2, 1) := by decide +kernel
theorem dX6_byPassing_35 : decode cX6_byPassing 35 = .ok (.ifCond .ne 23, 3) := by decide +kernel
theorem dX6_byPassing_38 : decode cX6_byPassing 38 = .ok (.aload_n 0, 1) := by decide +kernel
theorem dX6_byPassing_39 : decode cX6_byPassing 39 = .ok (.getfield 13, 3) := by decide +kernel
theorem dX6_byPassing_42 : decode cX6_byPassing 42 = .ok (.iconst 2, 1) := by decide +kernel
theorem dX6_byPassing_43 : decode cX6_byPassing 43 = .ok (.invokestatic 99, 3) := by decide +kernel
theorem dX6_byPassing_46 : decode cX6_byPassing 46 = .ok (.aload_n 0, 1) := by decide +kernel
theorem dX6_byPassing_47 : decode cX6_byPassing 47 = .ok (.getfield 7, 3) := by decide +kernel
theorem dX6_byPassing_50 : decode cX6_byPassing 50 = .ok (.iconst 2, 1) := by decide +kernel
theorem dX6_byPassing_51 : decode cX6_byPassing 51 = .ok (.invokestatic 99, 3) := by decide +kernel
theorem dX6_byPassing_54 : decode cX6_byPassing 54 = .ok (.isub, 1) := by decide +kernel
theorem dX6_byPassing_55 : decode cX6_byPassing 55 = .ok (.goto 50, 3) := by decide +kernel
theorem dX6_byPassing_58 : decode cX6_byPassing 58 = .ok (.iload_n 2, 1) := by decide +kernel
theorem dX6_byPassing_59 : decode cX6_byPassing 59 = .ok (.iconst 1, 1) := by decide +kernel
theorem dX6_byPassing_60 : decode cX6_byPassing 60 = .ok (.if_icmp .ne 23, 3) := by decide +kernel
theorem dX6_byPassing_63 : decode cX6_byPassing 63 = .ok (.aload_n 0, 1) := by decide +kernel
theorem dX6_byPassing_64 : decode cX6_byPassing 64 = .ok (.getfield 13, 3) := by decide +kernel
theorem dX6_byPassing_67 : decode cX6_byPassing 67 = .ok (.iconst 4, 1) := by decide +kernel
theorem dX6_byPassing_68 : decode cX6_byPassing 68 = .ok (.invokestatic 99, 3) := by decide +kernel
theorem dX6_byPassing_71 : decode cX6_byPassing 71 = .ok (.aload_n 0, 1) := by decide +kernel
theorem dX6_byPassing_72 : decode cX6_byPassing 72 = .ok (.getfield 7, 3) := by decide +kernel
theorem dX6_byPassing_75 : decode cX6_byPassing 75 = .ok (.iconst 4, 1) := by decide +kernel
theorem dX6_byPassing_76 : decode cX6_byPassing 76 = .ok (.invokestatic 99, 3) := by decide +kernel
theorem dX6_byPassing_79 : decode cX6_byPassing 79 = .ok (.isub, 1) := by decide +kernel
theorem dX6_byPassing_80 : decode cX6_byPassing 80 = .ok (.goto 25, 3) := by decide +kernel
theorem dX6_byPassing_83 : decode cX6_byPassing 83 = .ok (.iload_n 2, 1) := by decide +kernel
theorem dX6_byPassing_84 : decode cX6_byPassing 84 = .ok (.iconst 2, 1) := by decide +kernel
theorem dX6_byPassing_85 : decode cX6_byPassing 85 = .ok (.if_icmp .ne 13, 3) := by decide +kernel
theorem dX6_byPassing_88 : decode cX6_byPassing 88 = .ok (.aload_n 0, 1) := by decide +kernel
theorem dX6_byPassing_89 : decode cX6_byPassing 89 = .ok (.getfield 13, 3) := by decide +kernel
theorem dX6_byPassing_92 : decode cX6_byPassing 92 = .ok (.bipush 57, 2) := by decide +kernel
theorem dX6_byPassing_94 : decode cX6_byPassing 94 = .ok (.iaload, 1) := by decide +kernel
theorem dX6_byPassing_95 : decode cX6_byPassing 95 = .ok (.goto 10, 3) := by decide +kernel
theorem dX6_byPassing_98 : decode cX6_byPassing 98 = .ok (.aload_n 0, 1) := by decide +kernel
theorem dX6_byPassing_99 : decode cX6_byPassing 99 = .ok (.getfield 13, 3) := by decide +kernel
theorem dX6_byPassing_102 : decode cX6_byPassing 102 = .ok (.invokestatic 134, 3) := by decide +kernel
theorem dX6_byPassing_105 : decode cX6_byPassing 105 = .ok (.ireturn, 1) := by decide +kernel
theorem dX6_ifPassed_0 : decode cX6_ifPassed 0 = .ok (.aload_n 0, 1) := by decide +kernel
theorem dX6_ifPassed_1 : decode cX6_ifPassed 1 = .ok (.iconst 0, 1) := by decide +kernel
theorem dX6_ifPassed_2 : decode cX6_ifPassed 2 = .ok (.putfield 25, 3) := by decide +kernel
theorem dX6_ifPassed_5 : decode cX6_ifPassed 5 = .ok (.iload_n 1, 1) := by decide +kernel
theorem dX6_ifPassed_6 : decode cX6_ifPassed 6 = .ok (.iconst 1, 1) := by decide +kernel
theorem dX6_ifPassed_7 : decode cX6_ifPassed 7 = .ok (.sipush 300, 3) := by decide +kernel
theorem dX6_ifPassed_10 : decode cX6_ifPassed 10 = .ok (.invokestatic 29, 3) := by decide +kernel
theorem dX6_ifPassed_13 : decode cX6_ifPassed 13 = .ok (.ifCond .eq 21, 3) := by decide +kernel
theorem dX6_ifPassed_16 : decode cX6_ifPassed 16 = .ok (.iload_n 2, 1) := by decide +kernel
theorem dX6_ifPassed_17 : decode cX6_ifPassed 17 = .ok (.iconst 0, 1) := by decide +kernel
theorem dX6_ifPassed_18 : decode cX6_ifPassed 18 = .ok (.iconst 3, 1) := by decide +kernel
theorem dX6_ifPassed_19 : decode cX6_ifPassed 19 = .ok (.invokestatic 29, 3) := by decide +kernel
theorem dX6_ifPassed_22 : decode cX6_ifPassed 22 = .ok (.ifCond .eq 12, 3) := by decide +kernel
theorem dX6_ifPassed_25 : decode cX6_ifPassed 25 = .ok (.aload_n 0, 1) := by decide +kernel
theorem dX6_ifPassed_26 : decode cX6_ifPassed 26 = .ok (.iload_n 1, 1) := by decide +kernel
theorem dX6_ifPassed_27 : decode cX6_ifPassed 27 = .ok (.iload_n 2, 1) := by decide +kernel
theorem dX6_ifPassed_28 : decode cX6_ifPassed 28 = .ok (.invokevirtual 141, 3) := by decide +kernel
theorem dX6_ifPassed_31 : decode cX6_ifPassed 31 = .ok (.goto 8, 3) := by decide +kernel
theorem dX6_ifPassed_34 : decode cX6_ifPassed 34 = .ok (.aload_n 0, 1) := by decide +kernel
theorem dX6_ifPassed_35 : decode cX6_ifPassed 35 = .ok (.iconst 1, 1) := by decide +kernel
theorem dX6_ifPassed_36 : decode cX6_ifPassed 36 = .ok (.invokevirtual 40, 3) := by decide +kernel
theorem dX6_ifPassed_39 : decode cX6_ifPassed 39 = .ok (.ireturn, 1) := by decide +kernel
theorem dX6_isThere_0 : decode cX6_isThere 0 = .ok (.iconst 0, 1) := by decide +kernel
theorem dX6_isThere_1 : decode cX6_isThere 1 = .ok (.istore_n 2, 1) := by decide +kernel
theorem dX6_isThere_2 : decode cX6_isThere 2 = .ok (.iconst 0, 1) := by decide +kernel
theorem dX6_isThere_3 : decode cX6_isThere 3 = .ok (.istore_n 3, 1) := by decide +kernel
theorem dX6_isThere_4 : decode cX6_isThere 4 = .ok (.iload_n 3, 1) := by decide +kernel
theorem dX6_isThere_5 : decode cX6_isThere 5 = .ok (.aload_n 0, 1) := by decide +kernel
theorem dX6_isThere_6 : decode cX6_isThere 6 = .ok (.bipush 57, 2) := by decide +kernel
theorem dX6_isThere_8 : decode cX6_isThere 8 = .ok (.iaload, 1) := by decide +kernel
theorem dX6_isThere_9 : decode cX6_isThere 9 = .ok (.if_icmp .ge 29, 3) := by decide +kernel
theorem dX6_isThere_12 : decode cX6_isThere 12 = .ok (.iload_n 2, 1) := by decide +kernel
theorem dX6_isThere_13 : decode cX6_isThere 13 = .ok (.ifCond .ne 13, 3) := by decide +kernel
theorem dX6_isThere_16 : decode cX6_isThere 16 = .ok (.aload_n 0, 1) := by decide +kernel
theorem dX6_isThere_17 : decode cX6_isThere 17 = .ok (.iload_n 3, 1) := by decide +kernel
theorem dX6_isThere_18 : decode cX6_isThere 18 = .ok (.iconst 0, 1) := by decide +kernel
theorem dX6_isThere_19 : decode cX6_isThere 19 = .ok (.invokestatic 48, 3) := by decide +kernel
theorem dX6_isThere_22 : decode cX6_isThere 22 = .ok (.iload_n 1, 1) := by decide +kernel
theorem dX6_isThere_23 : decode cX6_isThere 23 = .ok (.if_icmp .ne 7, 3) := by decide +kernel
theorem dX6_isThere_26 : decode cX6_isThere 26 = .ok (.iconst 1, 1) := by decide +kernel
theorem dX6_isThere_27 : decode cX6_isThere 27 = .ok (.goto 4, 3) := by decide +kernel
theorem dX6_isThere_30 : decode cX6_isThere 30 = .ok (.iconst 0, 1) := by decide +kernel
theorem dX6_isThere_31 : decode cX6_isThere 31 = .ok (.istore_n 2, 1) := by decide +kernel
theorem dX6_isThere_32 : decode cX6_isThere 32 = .ok (.iinc 3 1, 3) := by decide +kernel
theorem dX6_isThere_35 : decode cX6_isThere 35 = .ok (.goto (-31), 3) := by decide +kernel
theorem dX6_isThere_38 : decode cX6_isThere 38 = .ok (.iload_n 2, 1) := by decide +kernel
theorem dX6_isThere_39 : decode cX6_isThere 39 = .ok (.ireturn, 1) := by decide +kernel
theorem dX6_walked_0 : decode cX6_walked 0 = .ok (.aload_n 0, 1) := by decide +kernel
theorem dX6_walked_1 : decode cX6_walked 1 = .ok (.getfield 7, 3) := by decide +kernel
theorem dX6_walked_4 : decode cX6_walked 4 = .ok (.iconst 0, 1) := by decide +kernel
theorem dX6_walked_5 : decode cX6_walked 5 = .ok (.aload_n 0, 1) := by decide +kernel
theorem dX6_walked_6 : decode cX6_walked 6 = .ok (.getfield 13, 3) := by decide +kernel
theorem dX6_walked_9 : decode cX6_walked 9 = .ok (.iconst 0, 1) := by decide +kernel
theorem dX6_walked_10 : decode cX6_walked 10 = .ok (.invokestatic 36, 3) := by decide +kernel
theorem dX6_walked_13 : decode cX6_walked 13 = .ok (.aload_n 0, 1) := by decide +kernel
theorem dX6_walked_14 : decode cX6_walked 14 = .ok (.getfield 13, 3) := by decide +kernel
theorem dX6_walked_17 : decode cX6_walked 17 = .ok (.iconst 0, 1) := by decide +kernel
theorem dX6_walked_18 : decode cX6_walked 18 = .ok (.iload_n 3, 1) := by decide +kernel
theorem dX6_walked_19 : decode cX6_walked 19 = .ok (.iastore, 1) := by decide +kernel
theorem dX6_walked_20 : decode cX6_walked 20 = .ok (.aload_n 0, 1) := by decide +kernel
theorem dX6_walked_21 : decode cX6_walked 21 = .ok (.aload_n 0, 1) := by decide +kernel
theorem dX6_walked_22 : decode cX6_walked 22 = .ok (.getfield 13, 3) := by decide +kernel
theorem dX6_walked_25 : decode cX6_walked 25 = .ok (.iload_n 1, 1) := by decide +kernel
theorem dX6_walked_26 : decode cX6_walked 26 = .ok (.iload_n 2, 1) := by decide +kernel
theorem dX6_walked_27 : decode cX6_walked 27 = .ok (.invokestatic 89, 3) := by decide +kernel
theorem dX6_walked_30 : decode cX6_walked 30 = .ok (.putfield 75, 3) := by decide +kernel
theorem dX6_walked_33 : decode cX6_walked 33 = .ok (.aload_n 0, 1) := by decide +kernel
theorem dX6_walked_34 : decode cX6_walked 34 = .ok (.iconst 0, 1) := by decide +kernel
theorem dX6_walked_35 : decode cX6_walked 35 = .ok (.putfield 72, 3) := by decide +kernel
theorem dX6_walked_38 : decode cX6_walked 38 = .ok (.aload_n 0, 1) := by decide +kernel
theorem dX6_walked_39 : decode cX6_walked 39 = .ok (.getfield 13, 3) := by decide +kernel
theorem dX6_walked_42 : decode cX6_walked 42 = .ok (.aload_n 0, 1) := by decide +kernel
theorem dX6_walked_43 : decode cX6_walked 43 = .ok (.getfield 75, 3) := by decide +kernel
theorem dX6_walked_46 : decode cX6_walked 46 = .ok (.invokestatic 144, 3) := by decide +kernel
theorem dX6_walked_49 : decode cX6_walked 49 = .ok (.ifCond .eq 14, 3) := by decide +kernel
theorem dX6_walked_52 : decode cX6_walked 52 = .ok (.aload_n 0, 1) := by decide +kernel
theorem dX6_walked_53 : decode cX6_walked 53 = .ok (.aload_n 0, 1) := by decide +kernel
theorem dX6_walked_54 : decode cX6_walked 54 = .ok (.getfield 13, 3) := by decide +kernel
theorem dX6_walked_57 : decode cX6_walked 57 = .ok (.invokevirtual 102, 3) := by decide +kernel
theorem dX6_walked_60 : decode cX6_walked 60 = .ok (.goto (-22), 3) := by decide +kernel
theorem dX6_walked_63 : decode cX6_walked 63 = .ok (.aload_n 0, 1) := by decide +kernel
theorem dX6_walked_64 : decode cX6_walked 64 = .ok (.getfield 72, 3) := by decide +kernel
theorem dX6_walked_67 : decode cX6_walked 67 = .ok (.ireturn, 1) := by decide +kernel
theorem dX6_dark_0 : decode cX6_dark 0 = .ok (.aload_n 0, 1) := by decide +kernel
theorem dX6_dark_1 : decode cX6_dark 1 = .ok (.iload_n 1, 1) := by decide +kernel
theorem dX6_dark_2 : decode cX6_dark 2 = .ok (.iload_n 2, 1) := by decide +kernel
theorem dX6_dark_3 : decode cX6_dark 3 = .ok (.invokestatic 82, 3) := by decide +kernel
theorem dX6_dark_6 : decode cX6_dark 6 = .ok (.putfield 25, 3) := by decide +kernel
theorem dX6_dark_9 : decode cX6_dark 9 = .ok (.aload_n 0, 1) := by decide +kernel
theorem dX6_dark_10 : decode cX6_dark 10 = .ok (.getfield 25, 3) := by decide +kernel
theorem dX6_dark_13 : decode cX6_dark 13 = .ok (.ifCond .ne 18, 3) := by decide +kernel
theorem dX6_dark_16 : decode cX6_dark 16 = .ok (.aload_n 0, 1) := by decide +kernel
theorem dX6_dark_17 : decode cX6_dark 17 = .ok (.iload_n 1, 1) := by decide +kernel
theorem dX6_dark_18 : decode cX6_dark 18 = .ok (.iload_n 2, 1) := by decide +kernel
theorem dX6_dark_19 : decode cX6_dark 19 = .ok (.aload_n 0, 1) := by decide +kernel
theorem dX6_dark_20 : decode cX6_dark 20 = .ok (.getfield 7, 3) := by decide +kernel
theorem dX6_dark_23 : decode cX6_dark 23 = .ok (.iconst 0, 1) := by decide +kernel
theorem dX6_dark_24 : decode cX6_dark 24 = .ok (.iaload, 1) := by decide +kernel
theorem dX6_dark_25 : decode cX6_dark 25 = .ok (.invokevirtual 148, 3) := by decide +kernel
theorem dX6_dark_28 : decode cX6_dark 28 = .ok (.goto 4, 3) := by decide +kernel
theorem dX6_dark_31 : decode cX6_dark 31 = .ok (.iconst 0, 1) := by decide +kernel
theorem dX6_dark_32 : decode cX6_dark 32 = .ok (.ireturn, 1) := by decide +kernel
theorem dX6_least_0 : decode cX6_least 0 = .ok (.iconst 1, 1) := by decide +kernel
theorem dX6_least_1 : decode cX6_least 1 = .ok (.istore_n 3, 1) := by decide +kernel
theorem dX6_least_2 : decode cX6_least 2 = .ok (.aload_n 0, 1) := by decide +kernel
theorem dX6_least_3 : decode cX6_least 3 = .ok (.iload_n 1, 1) := by decide +kernel
theorem dX6_least_4 : decode cX6_least 4 = .ok (.iload_n 2, 1) := by decide +kernel
theorem dX6_least_5 : decode cX6_least 5 = .ok (.iconst 1, 1) := by decide +kernel
theorem dX6_least_6 : decode cX6_least 6 = .ok (.invokevirtual 148, 3) := by decide +kernel
theorem dX6_least_9 : decode cX6_least 9 = .ok (.istore 4, 2) := by decide +kernel
theorem dX6_least_11 : decode cX6_least 11 = .ok (.iconst 2, 1) := by decide +kernel
theorem dX6_least_12 : decode cX6_least 12 = .ok (.istore 5, 2) := by decide +kernel
theorem dX6_least_14 : decode cX6_least 14 = .ok (.iload 5, 2) := by decide +kernel
theorem dX6_least_16 : decode cX6_least 16 = .ok (.sipush 200, 3) := by decide +kernel
theorem dX6_least_19 : decode cX6_least 19 = .ok (.if_icmp .gt 54, 3) := by decide +kernel
theorem dX6_least_22 : decode cX6_least 22 = .ok (.iload 4, 2) := by decide +kernel
theorem dX6_least_24 : decode cX6_least 24 = .ok (.ifCond .le 49, 3) := by decide +kernel
theorem dX6_least_27 : decode cX6_least 27 = .ok (.aload_n 0, 1) := by decide +kernel
theorem dX6_least_28 : decode cX6_least 28 = .ok (.iload_n 1, 1) := by decide +kernel
theorem dX6_least_29 : decode cX6_least 29 = .ok (.iload_n 2, 1) := by decide +kernel
theorem dX6_least_30 : decode cX6_least 30 = .ok (.iload 5, 2) := by decide +kernel
theorem dX6_least_32 : decode cX6_least 32 = .ok (.invokevirtual 148, 3) := by decide +kernel
theorem dX6_least_35 : decode cX6_least 35 = .ok (.istore 6, 2) := by decide +kernel
theorem dX6_least_37 : decode cX6_least 37 = .ok (.iload 6, 2) := by decide +kernel
theorem dX6_least_39 : decode cX6_least 39 = .ok (.iload 4, 2) := by decide +kernel
theorem dX6_least_41 : decode cX6_least 41 = .ok (.if_icmp .ge 8, 3) := by decide +kernel
theorem dX6_least_44 : decode cX6_least 44 = .ok (.iload 5, 2) := by decide +kernel
theorem dX6_least_46 : decode cX6_least 46 = .ok (.goto 4, 3) := by decide +kernel
theorem dX6_least_49 : decode cX6_least 49 = .ok (.iload_n 3, 1) := by decide +kernel
theorem dX6_least_50 : decode cX6_least 50 = .ok (.istore_n 3, 1) := by decide +kernel
theorem dX6_least_51 : decode cX6_least 51 = .ok (.iload 6, 2) := by decide +kernel
theorem dX6_least_53 : decode cX6_least 53 = .ok (.iload 4, 2) := by decide +kernel
theorem dX6_least_55 : decode cX6_least 55 = .ok (.if_icmp .ge 8, 3) := by decide +kernel
theorem dX6_least_58 : decode cX6_least 58 = .ok (.iload 6, 2) := by decide +kernel
theorem dX6_least_60 : decode cX6_least 60 = .ok (.goto 5, 3) := by decide +kernel
theorem dX6_least_63 : decode cX6_least 63 = .ok (.iload 4, 2) := by decide +kernel
theorem dX6_least_65 : decode cX6_least 65 = .ok (.istore 4, 2) := by decide +kernel
theorem dX6_least_67 : decode cX6_least 67 = .ok (.iinc 5 1, 3) := by decide +kernel
theorem dX6_least_70 : decode cX6_least 70 = .ok (.goto (-56), 3) := by decide +kernel
theorem dX6_least_73 : decode cX6_least 73 = .ok (.iload_n 3, 1) := by decide +kernel
theorem dX6_least_74 : decode cX6_least 74 = .ok (.ireturn, 1) := by decide +kernel
theorem dX6_leastTime_0 : decode cX6_leastTime 0 = .ok (.aload_n 0, 1) := by decide +kernel
theorem dX6_leastTime_1 : decode cX6_leastTime 1 = .ok (.iload_n 1, 1) := by decide +kernel
theorem dX6_leastTime_2 : decode cX6_leastTime 2 = .ok (.iload_n 2, 1) := by decide +kernel
theorem dX6_leastTime_3 : decode cX6_leastTime 3 = .ok (.invokestatic 82, 3) := by decide +kernel
theorem dX6_leastTime_6 : decode cX6_leastTime 6 = .ok (.putfield 25, 3) := by decide +kernel
theorem dX6_leastTime_9 : decode cX6_leastTime 9 = .ok (.aload_n 0, 1) := by decide +kernel
theorem dX6_leastTime_10 : decode cX6_leastTime 10 = .ok (.getfield 25, 3) := by decide +kernel
theorem dX6_leastTime_13 : decode cX6_leastTime 13 = .ok (.ifCond .ne 12, 3) := by decide +kernel
theorem dX6_leastTime_16 : decode cX6_leastTime 16 = .ok (.aload_n 0, 1) := by decide +kernel
theorem dX6_leastTime_17 : decode cX6_leastTime 17 = .ok (.iload_n 1, 1) := by decide +kernel
theorem dX6_leastTime_18 : decode cX6_leastTime 18 = .ok (.iload_n 2, 1) := by decide +kernel
theorem dX6_leastTime_19 : decode cX6_leastTime 19 = .ok (.invokevirtual 152, 3) := by decide +kernel
theorem dX6_leastTime_22 : decode cX6_leastTime 22 = .ok (.goto 4, 3) := by decide +kernel
theorem dX6_leastTime_25 : decode cX6_leastTime 25 = .ok (.iconst 0, 1) := by decide +kernel
theorem dX6_leastTime_26 : decode cX6_leastTime 26 = .ok (.ireturn, 1) := by decide +kernel
theorem dX6_missed_0 : decode cX6_missed 0 = .ok (.iconst (-1), 1) := by decide +kernel
theorem dX6_missed_1 : decode cX6_missed 1 = .ok (.istore_n 1, 1) := by decide +kernel
theorem dX6_missed_2 : decode cX6_missed 2 = .ok (.iconst 0, 1) := by decide +kernel
theorem dX6_missed_3 : decode cX6_missed 3 = .ok (.istore_n 2, 1) := by decide +kernel
theorem dX6_missed_4 : decode cX6_missed 4 = .ok (.iload_n 2, 1) := by decide +kernel
theorem dX6_missed_5 : decode cX6_missed 5 = .ok (.bipush 8, 2) := by decide +kernel
theorem dX6_missed_7 : decode cX6_missed 7 = .ok (.if_icmp .ge 63, 3) := by decide +kernel
theorem dX6_missed_10 : decode cX6_missed 10 = .ok (.aload_n 0, 1) := by decide +kernel
theorem dX6_missed_11 : decode cX6_missed 11 = .ok (.getfield 7, 3) := by decide +kernel
theorem dX6_missed_14 : decode cX6_missed 14 = .ok (.iload_n 2, 1) := by decide +kernel
theorem dX6_missed_15 : decode cX6_missed 15 = .ok (.iconst 1, 1) := by decide +kernel
theorem dX6_missed_16 : decode cX6_missed 16 = .ok (.invokestatic 44, 3) := by decide +kernel
theorem dX6_missed_19 : decode cX6_missed 19 = .ok (.ifCond .ne 33, 3) := by decide +kernel
theorem dX6_missed_22 : decode cX6_missed 22 = .ok (.iload_n 1, 1) := by decide +kernel
theorem dX6_missed_23 : decode cX6_missed 23 = .ok (.iconst (-1), 1) := by decide +kernel
theorem dX6_missed_24 : decode cX6_missed 24 = .ok (.if_icmp .eq 24, 3) := by decide +kernel
theorem dX6_missed_27 : decode cX6_missed 27 = .ok (.aload_n 0, 1) := by decide +kernel
theorem dX6_missed_28 : decode cX6_missed 28 = .ok (.getfield 7, 3) := by decide +kernel
theorem dX6_missed_31 : decode cX6_missed 31 = .ok (.iload_n 2, 1) := by decide +kernel
theorem dX6_missed_32 : decode cX6_missed 32 = .ok (.iconst 2, 1) := by decide +kernel
theorem dX6_missed_33 : decode cX6_missed 33 = .ok (.invokestatic 44, 3) := by decide +kernel
theorem dX6_missed_36 : decode cX6_missed 36 = .ok (.aload_n 0, 1) := by decide +kernel
theorem dX6_missed_37 : decode cX6_missed 37 = .ok (.getfield 7, 3) := by decide +kernel
theorem dX6_missed_40 : decode cX6_missed 40 = .ok (.iload_n 1, 1) := by decide +kernel
theorem dX6_missed_41 : decode cX6_missed 41 = .ok (.iconst 2, 1) := by decide +kernel
theorem dX6_missed_42 : decode cX6_missed 42 = .ok (.invokestatic 44, 3) := by decide +kernel
theorem dX6_missed_45 : decode cX6_missed 45 = .ok (.if_icmp .le 7, 3) := by decide +kernel
theorem dX6_missed_48 : decode cX6_missed 48 = .ok (.iconst 1, 1) := by decide +kernel
theorem dX6_missed_49 : decode cX6_missed 49 = .ok (.goto 4, 3) := by decide +kernel
theorem dX6_missed_52 : decode cX6_missed 52 = .ok (.iconst 0, 1) := by decide +kernel
theorem dX6_missed_53 : decode cX6_missed 53 = .ok (.istore_n 3, 1) := by decide +kernel
theorem dX6_missed_54 : decode cX6_missed 54 = .ok (.iload_n 3, 1) := by decide +kernel
theorem dX6_missed_55 : decode cX6_missed 55 = .ok (.ifCond .eq 7, 3) := by decide +kernel
theorem dX6_missed_58 : decode cX6_missed 58 = .ok (.iload_n 2, 1) := by decide +kernel
theorem dX6_missed_59 : decode cX6_missed 59 = .ok (.goto 4, 3) := by decide +kernel
theorem dX6_missed_62 : decode cX6_missed 62 = .ok (.iload_n 1, 1) := by decide +kernel
theorem dX6_missed_63 : decode cX6_missed 63 = .ok (.istore_n 1, 1) := by decide +kernel
theorem dX6_missed_64 : decode cX6_missed 64 = .ok (.iinc 2 1, 3) := by decide +kernel
theorem dX6_missed_67 : decode cX6_missed 67 = .ok (.goto (-63), 3) := by decide +kernel
theorem dX6_missed_70 : decode cX6_missed 70 = .ok (.iload_n 1, 1) := by decide +kernel
theorem dX6_missed_71 : decode cX6_missed 71 = .ok (.ireturn, 1) := by decide +kernel
theorem dX6_worst_0 : decode cX6_worst 0 = .ok (.aload_n 0, 1) := by decide +kernel
theorem dX6_worst_1 : decode cX6_worst 1 = .ok (.iconst 0, 1) := by decide +kernel
theorem dX6_worst_2 : decode cX6_worst 2 = .ok (.putfield 25, 3) := by decide +kernel
theorem dX6_worst_5 : decode cX6_worst 5 = .ok (.aload_n 0, 1) := by decide +kernel
theorem dX6_worst_6 : decode cX6_worst 6 = .ok (.invokevirtual 155, 3) := by decide +kernel
theorem dX6_worst_9 : decode cX6_worst 9 = .ok (.ireturn, 1) := by decide +kernel
theorem dX6_share_0 : decode cX6_share 0 = .ok (.aload_n 0, 1) := by decide +kernel
theorem dX6_share_1 : decode cX6_share 1 = .ok (.getfield 7, 3) := by decide +kernel
theorem dX6_share_4 : decode cX6_share 4 = .ok (.bipush 8, 2) := by decide +kernel
theorem dX6_share_6 : decode cX6_share 6 = .ok (.iaload, 1) := by decide +kernel
theorem dX6_share_7 : decode cX6_share 7 = .ok (.aload_n 0, 1) := by decide +kernel
theorem dX6_share_8 : decode cX6_share 8 = .ok (.getfield 7, 3) := by decide +kernel
theorem dX6_share_11 : decode cX6_share 11 = .ok (.iconst 2, 1) := by decide +kernel
theorem dX6_share_12 : decode cX6_share 12 = .ok (.invokestatic 99, 3) := by decide +kernel
theorem dX6_share_15 : decode cX6_share 15 = .ok (.isub, 1) := by decide +kernel
theorem dX6_share_16 : decode cX6_share 16 = .ok (.aload_n 0, 1) := by decide +kernel
theorem dX6_share_17 : decode cX6_share 17 = .ok (.getfield 7, 3) := by decide +kernel
theorem dX6_share_20 : decode cX6_share 20 = .ok (.iconst 3, 1) := by decide +kernel
theorem dX6_share_21 : decode cX6_share 21 = .ok (.invokestatic 99, 3) := by decide +kernel
theorem dX6_share_24 : decode cX6_share 24 = .ok (.isub, 1) := by decide +kernel
theorem dX6_share_25 : decode cX6_share 25 = .ok (.istore_n 1, 1) := by decide +kernel
theorem dX6_share_26 : decode cX6_share 26 = .ok (.aload_n 0, 1) := by decide +kernel
theorem dX6_share_27 : decode cX6_share 27 = .ok (.getfield 7, 3) := by decide +kernel
theorem dX6_share_30 : decode cX6_share 30 = .ok (.bipush 8, 2) := by decide +kernel
theorem dX6_share_32 : decode cX6_share 32 = .ok (.iaload, 1) := by decide +kernel
theorem dX6_share_33 : decode cX6_share 33 = .ok (.ifCond .ne 7, 3) := by decide +kernel
theorem dX6_share_36 : decode cX6_share 36 = .ok (.dconst 1, 1) := by decide +kernel
theorem dX6_share_37 : decode cX6_share 37 = .ok (.goto 14, 3) := by decide +kernel
theorem dX6_share_40 : decode cX6_share 40 = .ok (.iload_n 1, 1) := by decide +kernel
theorem dX6_share_41 : decode cX6_share 41 = .ok (.i2d, 1) := by decide +kernel
theorem dX6_share_42 : decode cX6_share 42 = .ok (.aload_n 0, 1) := by decide +kernel
theorem dX6_share_43 : decode cX6_share 43 = .ok (.getfield 7, 3) := by decide +kernel
theorem dX6_share_46 : decode cX6_share 46 = .ok (.bipush 8, 2) := by decide +kernel
theorem dX6_share_48 : decode cX6_share 48 = .ok (.iaload, 1) := by decide +kernel
theorem dX6_share_49 : decode cX6_share 49 = .ok (.i2d, 1) := by decide +kernel
theorem dX6_share_50 : decode cX6_share 50 = .ok (.ddiv, 1) := by decide +kernel
theorem dX6_share_51 : decode cX6_share 51 = .ok (.dreturn, 1) := by decide +kernel
theorem dX6_lightness_0 : decode cX6_lightness 0 = .ok (.aload_n 0, 1) := by decide +kernel
theorem dX6_lightness_1 : decode cX6_lightness 1 = .ok (.iconst 0, 1) := by decide +kernel
theorem dX6_lightness_2 : decode cX6_lightness 2 = .ok (.putfield 25, 3) := by decide +kernel
theorem dX6_lightness_5 : decode cX6_lightness 5 = .ok (.aload_n 0, 1) := by decide +kernel
theorem dX6_lightness_6 : decode cX6_lightness 6 = .ok (.invokevirtual 159, 3) := by decide +kernel
theorem dX6_lightness_9 : decode cX6_lightness 9 = .ok (.dreturn, 1) := by decide +kernel
theorem dX6_digest_0 : decode cX6_digest 0 = .ok (.aload_n 0, 1) := by decide +kernel
theorem dX6_digest_1 : decode cX6_digest 1 = .ok (.iconst 0, 1) := by decide +kernel
theorem dX6_digest_2 : decode cX6_digest 2 = .ok (.putfield 25, 3) := by decide +kernel
theorem dX6_digest_5 : decode cX6_digest 5 = .ok (.ldc2_w 163, 3) := by decide +kernel
theorem dX6_digest_8 : decode cX6_digest 8 = .ok (.lstore_n 1, 1) := by decide +kernel
theorem dX6_digest_9 : decode cX6_digest 9 = .ok (.iconst 0, 1) := by decide +kernel
theorem dX6_digest_10 : decode cX6_digest 10 = .ok (.istore_n 3, 1) := by decide +kernel
theorem dX6_digest_11 : decode cX6_digest 11 = .ok (.iload_n 3, 1) := by decide +kernel
theorem dX6_digest_12 : decode cX6_digest 12 = .ok (.bipush 11, 2) := by decide +kernel
theorem dX6_digest_14 : decode cX6_digest 14 = .ok (.if_icmp .ge 22, 3) := by decide +kernel
theorem dX6_digest_17 : decode cX6_digest 17 = .ok (.ldc2_w 165, 3) := by decide +kernel
theorem dX6_digest_20 : decode cX6_digest 20 = .ok (.lload_n 1, 1) := by decide +kernel
theorem dX6_digest_21 : decode cX6_digest 21 = .ok (.lmul, 1) := by decide +kernel
theorem dX6_digest_22 : decode cX6_digest 22 = .ok (.aload_n 0, 1) := by decide +kernel
theorem dX6_digest_23 : decode cX6_digest 23 = .ok (.iload_n 3, 1) := by decide +kernel
theorem dX6_digest_24 : decode cX6_digest 24 = .ok (.invokevirtual 138, 3) := by decide +kernel
theorem dX6_digest_27 : decode cX6_digest 27 = .ok (.i2l, 1) := by decide +kernel
theorem dX6_digest_28 : decode cX6_digest 28 = .ok (.ladd, 1) := by decide +kernel
theorem dX6_digest_29 : decode cX6_digest 29 = .ok (.lstore_n 1, 1) := by decide +kernel
theorem dX6_digest_30 : decode cX6_digest 30 = .ok (.iinc 3 1, 3) := by decide +kernel
theorem dX6_digest_33 : decode cX6_digest 33 = .ok (.goto (-22), 3) := by decide +kernel
theorem dX6_digest_36 : decode cX6_digest 36 = .ok (.iconst 0, 1) := by decide +kernel
theorem dX6_digest_37 : decode cX6_digest 37 = .ok (.istore_n 3, 1) := by decide +kernel
theorem dX6_digest_38 : decode cX6_digest 38 = .ok (.iload_n 3, 1) := by decide +kernel
theorem dX6_digest_39 : decode cX6_digest 39 = .ok (.iconst 4, 1) := by decide +kernel
theorem dX6_digest_40 : decode cX6_digest 40 = .ok (.if_icmp .ge 23, 3) := by decide +kernel
theorem dX6_digest_43 : decode cX6_digest 43 = .ok (.ldc2_w 165, 3) := by decide +kernel
theorem dX6_digest_46 : decode cX6_digest 46 = .ok (.lload_n 1, 1) := by decide +kernel
theorem dX6_digest_47 : decode cX6_digest 47 = .ok (.lmul, 1) := by decide +kernel
theorem dX6_digest_48 : decode cX6_digest 48 = .ok (.aload_n 0, 1) := by decide +kernel
theorem dX6_digest_49 : decode cX6_digest 49 = .ok (.getfield 7, 3) := by decide +kernel
theorem dX6_digest_52 : decode cX6_digest 52 = .ok (.iload_n 3, 1) := by decide +kernel
theorem dX6_digest_53 : decode cX6_digest 53 = .ok (.iaload, 1) := by decide +kernel
theorem dX6_digest_54 : decode cX6_digest 54 = .ok (.i2l, 1) := by decide +kernel
theorem dX6_digest_55 : decode cX6_digest 55 = .ok (.ladd, 1) := by decide +kernel
theorem dX6_digest_56 : decode cX6_digest 56 = .ok (.lstore_n 1, 1) := by decide +kernel
theorem dX6_digest_57 : decode cX6_digest 57 = .ok (.iinc 3 1, 3) := by decide +kernel
theorem dX6_digest_60 : decode cX6_digest 60 = .ok (.goto (-22), 3) := by decide +kernel
theorem dX6_digest_63 : decode cX6_digest 63 = .ok (.iconst 0, 1) := by decide +kernel
theorem dX6_digest_64 : decode cX6_digest 64 = .ok (.istore_n 3, 1) := by decide +kernel
theorem dX6_digest_65 : decode cX6_digest 65 = .ok (.iload_n 3, 1) := by decide +kernel
theorem dX6_digest_66 : decode cX6_digest 66 = .ok (.bipush 8, 2) := by decide +kernel
theorem dX6_digest_68 : decode cX6_digest 68 = .ok (.if_icmp .ge 40, 3) := by decide +kernel
theorem dX6_digest_71 : decode cX6_digest 71 = .ok (.iconst 0, 1) := by decide +kernel
theorem dX6_digest_72 : decode cX6_digest 72 = .ok (.istore 4, 2) := by decide +kernel
theorem dX6_digest_74 : decode cX6_digest 74 = .ok (.iload 4, 2) := by decide +kernel
theorem dX6_digest_76 : decode cX6_digest 76 = .ok (.bipush 8, 2) := by decide +kernel
theorem dX6_digest_78 : decode cX6_digest 78 = .ok (.if_icmp .ge 24, 3) := by decide +kernel
theorem dX6_digest_81 : decode cX6_digest 81 = .ok (.ldc2_w 165, 3) := by decide +kernel
theorem dX6_digest_84 : decode cX6_digest 84 = .ok (.lload_n 1, 1) := by decide +kernel
theorem dX6_digest_85 : decode cX6_digest 85 = .ok (.lmul, 1) := by decide +kernel
theorem dX6_digest_86 : decode cX6_digest 86 = .ok (.aload_n 0, 1) := by decide +kernel
theorem dX6_digest_87 : decode cX6_digest 87 = .ok (.iload_n 3, 1) := by decide +kernel
theorem dX6_digest_88 : decode cX6_digest 88 = .ok (.iload 4, 2) := by decide +kernel
theorem dX6_digest_90 : decode cX6_digest 90 = .ok (.invokevirtual 131, 3) := by decide +kernel
theorem dX6_digest_93 : decode cX6_digest 93 = .ok (.i2l, 1) := by decide +kernel
theorem dX6_digest_94 : decode cX6_digest 94 = .ok (.ladd, 1) := by decide +kernel
theorem dX6_digest_95 : decode cX6_digest 95 = .ok (.lstore_n 1, 1) := by decide +kernel
theorem dX6_digest_96 : decode cX6_digest 96 = .ok (.iinc 4 1, 3) := by decide +kernel
theorem dX6_digest_99 : decode cX6_digest 99 = .ok (.goto (-25), 3) := by decide +kernel
theorem dX6_digest_102 : decode cX6_digest 102 = .ok (.iinc 3 1, 3) := by decide +kernel
theorem dX6_digest_105 : decode cX6_digest 105 = .ok (.goto (-40), 3) := by decide +kernel
theorem dX6_digest_108 : decode cX6_digest 108 = .ok (.iconst 0, 1) := by decide +kernel
theorem dX6_digest_109 : decode cX6_digest 109 = .ok (.istore_n 3, 1) := by decide +kernel
theorem dX6_digest_110 : decode cX6_digest 110 = .ok (.iload_n 3, 1) := by decide +kernel
theorem dX6_digest_111 : decode cX6_digest 111 = .ok (.aload_n 0, 1) := by decide +kernel
theorem dX6_digest_112 : decode cX6_digest 112 = .ok (.getfield 7, 3) := by decide +kernel
theorem dX6_digest_115 : decode cX6_digest 115 = .ok (.bipush 57, 2) := by decide +kernel
theorem dX6_digest_117 : decode cX6_digest 117 = .ok (.iaload, 1) := by decide +kernel
theorem dX6_digest_118 : decode cX6_digest 118 = .ok (.if_icmp .ge 42, 3) := by decide +kernel
theorem dX6_digest_121 : decode cX6_digest 121 = .ok (.iconst 0, 1) := by decide +kernel
theorem dX6_digest_122 : decode cX6_digest 122 = .ok (.istore 4, 2) := by decide +kernel
theorem dX6_digest_124 : decode cX6_digest 124 = .ok (.iload 4, 2) := by decide +kernel
theorem dX6_digest_126 : decode cX6_digest 126 = .ok (.iconst 4, 1) := by decide +kernel
theorem dX6_digest_127 : decode cX6_digest 127 = .ok (.if_icmp .ge 27, 3) := by decide +kernel
theorem dX6_digest_130 : decode cX6_digest 130 = .ok (.ldc2_w 165, 3) := by decide +kernel
theorem dX6_digest_133 : decode cX6_digest 133 = .ok (.lload_n 1, 1) := by decide +kernel
theorem dX6_digest_134 : decode cX6_digest 134 = .ok (.lmul, 1) := by decide +kernel
theorem dX6_digest_135 : decode cX6_digest 135 = .ok (.aload_n 0, 1) := by decide +kernel
theorem dX6_digest_136 : decode cX6_digest 136 = .ok (.getfield 7, 3) := by decide +kernel
theorem dX6_digest_139 : decode cX6_digest 139 = .ok (.iload_n 3, 1) := by decide +kernel
theorem dX6_digest_140 : decode cX6_digest 140 = .ok (.iload 4, 2) := by decide +kernel
theorem dX6_digest_142 : decode cX6_digest 142 = .ok (.invokestatic 48, 3) := by decide +kernel
theorem dX6_digest_145 : decode cX6_digest 145 = .ok (.i2l, 1) := by decide +kernel
theorem dX6_digest_146 : decode cX6_digest 146 = .ok (.ladd, 1) := by decide +kernel
theorem dX6_digest_147 : decode cX6_digest 147 = .ok (.lstore_n 1, 1) := by decide +kernel
theorem dX6_digest_148 : decode cX6_digest 148 = .ok (.iinc 4 1, 3) := by decide +kernel
theorem dX6_digest_151 : decode cX6_digest 151 = .ok (.goto (-27), 3) := by decide +kernel
theorem dX6_digest_154 : decode cX6_digest 154 = .ok (.iinc 3 1, 3) := by decide +kernel
theorem dX6_digest_157 : decode cX6_digest 157 = .ok (.goto (-47), 3) := by decide +kernel
theorem dX6_digest_160 : decode cX6_digest 160 = .ok (.iconst 0, 1) := by decide +kernel
theorem dX6_digest_161 : decode cX6_digest 161 = .ok (.istore_n 3, 1) := by decide +kernel
theorem dX6_digest_162 : decode cX6_digest 162 = .ok (.iload_n 3, 1) := by decide +kernel
theorem dX6_digest_163 : decode cX6_digest 163 = .ok (.iconst 4, 1) := by decide +kernel
theorem dX6_digest_164 : decode cX6_digest 164 = .ok (.if_icmp .ge 24, 3) := by decide +kernel
theorem dX6_digest_167 : decode cX6_digest 167 = .ok (.ldc2_w 165, 3) := by decide +kernel
theorem dX6_digest_170 : decode cX6_digest 170 = .ok (.lload_n 1, 1) := by decide +kernel
theorem dX6_digest_171 : decode cX6_digest 171 = .ok (.lmul, 1) := by decide +kernel
theorem dX6_digest_172 : decode cX6_digest 172 = .ok (.aload_n 0, 1) := by decide +kernel
theorem dX6_digest_173 : decode cX6_digest 173 = .ok (.bipush 30, 2) := by decide +kernel
theorem dX6_digest_175 : decode cX6_digest 175 = .ok (.iload_n 3, 1) := by decide +kernel
theorem dX6_digest_176 : decode cX6_digest 176 = .ok (.invokevirtual 141, 3) := by decide +kernel
theorem dX6_digest_179 : decode cX6_digest 179 = .ok (.i2l, 1) := by decide +kernel
theorem dX6_digest_180 : decode cX6_digest 180 = .ok (.ladd, 1) := by decide +kernel
theorem dX6_digest_181 : decode cX6_digest 181 = .ok (.lstore_n 1, 1) := by decide +kernel
theorem dX6_digest_182 : decode cX6_digest 182 = .ok (.iinc 3 1, 3) := by decide +kernel
theorem dX6_digest_185 : decode cX6_digest 185 = .ok (.goto (-23), 3) := by decide +kernel
theorem dX6_digest_188 : decode cX6_digest 188 = .ok (.ldc2_w 165, 3) := by decide +kernel
theorem dX6_digest_191 : decode cX6_digest 191 = .ok (.ldc2_w 165, 3) := by decide +kernel
theorem dX6_digest_194 : decode cX6_digest 194 = .ok (.lload_n 1, 1) := by decide +kernel
theorem dX6_digest_195 : decode cX6_digest 195 = .ok (.lmul, 1) := by decide +kernel
theorem dX6_digest_196 : decode cX6_digest 196 = .ok (.aload_n 0, 1) := by decide +kernel
theorem dX6_digest_197 : decode cX6_digest 197 = .ok (.iconst 0, 1) := by decide +kernel
theorem dX6_digest_198 : decode cX6_digest 198 = .ok (.bipush 7, 2) := by decide +kernel
theorem dX6_digest_200 : decode cX6_digest 200 = .ok (.aload_n 0, 1) := by decide +kernel
theorem dX6_digest_201 : decode cX6_digest 201 = .ok (.getfield 7, 3) := by decide +kernel
theorem dX6_digest_204 : decode cX6_digest 204 = .ok (.iconst 0, 1) := by decide +kernel
theorem dX6_digest_205 : decode cX6_digest 205 = .ok (.iaload, 1) := by decide +kernel
theorem dX6_digest_206 : decode cX6_digest 206 = .ok (.invokevirtual 148, 3) := by decide +kernel
theorem dX6_digest_209 : decode cX6_digest 209 = .ok (.i2l, 1) := by decide +kernel
theorem dX6_digest_210 : decode cX6_digest 210 = .ok (.ladd, 1) := by decide +kernel
theorem dX6_digest_211 : decode cX6_digest 211 = .ok (.lmul, 1) := by decide +kernel
theorem dX6_digest_212 : decode cX6_digest 212 = .ok (.aload_n 0, 1) := by decide +kernel
theorem dX6_digest_213 : decode cX6_digest 213 = .ok (.bipush 6, 2) := by decide +kernel
theorem dX6_digest_215 : decode cX6_digest 215 = .ok (.iconst 2, 1) := by decide +kernel
theorem dX6_digest_216 : decode cX6_digest 216 = .ok (.aload_n 0, 1) := by decide +kernel
theorem dX6_digest_217 : decode cX6_digest 217 = .ok (.getfield 7, 3) := by decide +kernel
theorem dX6_digest_220 : decode cX6_digest 220 = .ok (.iconst 0, 1) := by decide +kernel
theorem dX6_digest_221 : decode cX6_digest 221 = .ok (.iaload, 1) := by decide +kernel
theorem dX6_digest_222 : decode cX6_digest 222 = .ok (.invokevirtual 148, 3) := by decide +kernel
theorem dX6_digest_225 : decode cX6_digest 225 = .ok (.i2l, 1) := by decide +kernel
theorem dX6_digest_226 : decode cX6_digest 226 = .ok (.ladd, 1) := by decide +kernel
theorem dX6_digest_227 : decode cX6_digest 227 = .ok (.lstore_n 1, 1) := by decide +kernel
theorem dX6_digest_228 : decode cX6_digest 228 = .ok (.ldc2_w 165, 3) := by decide +kernel
theorem dX6_digest_231 : decode cX6_digest 231 = .ok (.ldc2_w 165, 3) := by decide +kernel
theorem dX6_digest_234 : decode cX6_digest 234 = .ok (.lload_n 1, 1) := by decide +kernel
theorem dX6_digest_235 : decode cX6_digest 235 = .ok (.lmul, 1) := by decide +kernel
theorem dX6_digest_236 : decode cX6_digest 236 = .ok (.aload_n 0, 1) := by decide +kernel
theorem dX6_digest_237 : decode cX6_digest 237 = .ok (.iconst 1, 1) := by decide +kernel
theorem dX6_digest_238 : decode cX6_digest 238 = .ok (.iconst 5, 1) := by decide +kernel
theorem dX6_digest_239 : decode cX6_digest 239 = .ok (.invokevirtual 152, 3) := by decide +kernel
theorem dX6_digest_242 : decode cX6_digest 242 = .ok (.i2l, 1) := by decide +kernel
theorem dX6_digest_243 : decode cX6_digest 243 = .ok (.ladd, 1) := by decide +kernel
theorem dX6_digest_244 : decode cX6_digest 244 = .ok (.lmul, 1) := by decide +kernel
theorem dX6_digest_245 : decode cX6_digest 245 = .ok (.aload_n 0, 1) := by decide +kernel
theorem dX6_digest_246 : decode cX6_digest 246 = .ok (.invokevirtual 155, 3) := by decide +kernel
theorem dX6_digest_249 : decode cX6_digest 249 = .ok (.i2l, 1) := by decide +kernel
theorem dX6_digest_250 : decode cX6_digest 250 = .ok (.ladd, 1) := by decide +kernel
theorem dX6_digest_251 : decode cX6_digest 251 = .ok (.lstore_n 1, 1) := by decide +kernel
theorem dX6_digest_252 : decode cX6_digest 252 = .ok (.ldc2_w 165, 3) := by decide +kernel
theorem dX6_digest_255 : decode cX6_digest 255 = .ok (.ldc2_w 165, 3) := by decide +kernel
theorem dX6_digest_258 : decode cX6_digest 258 = .ok (.lload_n 1, 1) := by decide +kernel
theorem dX6_digest_259 : decode cX6_digest 259 = .ok (.lmul, 1) := by decide +kernel
theorem dX6_digest_260 : decode cX6_digest 260 = .ok (.aload_n 0, 1) := by decide +kernel
theorem dX6_digest_261 : decode cX6_digest 261 = .ok (.invokevirtual 159, 3) := by decide +kernel
theorem dX6_digest_264 : decode cX6_digest 264 = .ok (.invokestatic 167, 3) := by decide +kernel
theorem dX6_digest_267 : decode cX6_digest 267 = .ok (.ladd, 1) := by decide +kernel
theorem dX6_digest_268 : decode cX6_digest 268 = .ok (.lmul, 1) := by decide +kernel
theorem dX6_digest_269 : decode cX6_digest 269 = .ok (.aload_n 0, 1) := by decide +kernel
theorem dX6_digest_270 : decode cX6_digest 270 = .ok (.getfield 105, 3) := by decide +kernel
theorem dX6_digest_273 : decode cX6_digest 273 = .ok (.i2l, 1) := by decide +kernel
theorem dX6_digest_274 : decode cX6_digest 274 = .ok (.ladd, 1) := by decide +kernel
theorem dX6_digest_275 : decode cX6_digest 275 = .ok (.lstore_n 1, 1) := by decide +kernel
theorem dX6_digest_276 : decode cX6_digest 276 = .ok (.iconst 0, 1) := by decide +kernel
theorem dX6_digest_277 : decode cX6_digest 277 = .ok (.istore_n 3, 1) := by decide +kernel
theorem dX6_digest_278 : decode cX6_digest 278 = .ok (.iload_n 3, 1) := by decide +kernel
theorem dX6_digest_279 : decode cX6_digest 279 = .ok (.aload_n 0, 1) := by decide +kernel
theorem dX6_digest_280 : decode cX6_digest 280 = .ok (.getfield 105, 3) := by decide +kernel
theorem dX6_digest_283 : decode cX6_digest 283 = .ok (.if_icmp .ge 23, 3) := by decide +kernel
theorem dX6_digest_286 : decode cX6_digest 286 = .ok (.ldc2_w 165, 3) := by decide +kernel
theorem dX6_digest_289 : decode cX6_digest 289 = .ok (.lload_n 1, 1) := by decide +kernel
theorem dX6_digest_290 : decode cX6_digest 290 = .ok (.lmul, 1) := by decide +kernel
theorem dX6_digest_291 : decode cX6_digest 291 = .ok (.aload_n 0, 1) := by decide +kernel
theorem dX6_digest_292 : decode cX6_digest 292 = .ok (.getfield 19, 3) := by decide +kernel
theorem dX6_digest_295 : decode cX6_digest 295 = .ok (.iload_n 3, 1) := by decide +kernel
theorem dX6_digest_296 : decode cX6_digest 296 = .ok (.iaload, 1) := by decide +kernel
theorem dX6_digest_297 : decode cX6_digest 297 = .ok (.i2l, 1) := by decide +kernel
theorem dX6_digest_298 : decode cX6_digest 298 = .ok (.ladd, 1) := by decide +kernel
theorem dX6_digest_299 : decode cX6_digest 299 = .ok (.lstore_n 1, 1) := by decide +kernel
theorem dX6_digest_300 : decode cX6_digest 300 = .ok (.iinc 3 1, 3) := by decide +kernel
theorem dX6_digest_303 : decode cX6_digest 303 = .ok (.goto (-25), 3) := by decide +kernel
theorem dX6_digest_306 : decode cX6_digest 306 = .ok (.lload_n 1, 1) := by decide +kernel
theorem dX6_digest_307 : decode cX6_digest 307 = .ok (.lreturn, 1) := by decide +kernel
theorem dJxe99ae_isNaN_b9ae7_0 : decode cJxe99ae_isNaN_b9ae7 0 = .ok (.dload_n 0, 1) := by decide +kernel
theorem dJxe99ae_isNaN_b9ae7_1 : decode cJxe99ae_isNaN_b9ae7 1 = .ok (.dload_n 0, 1) := by decide +kernel
theorem dJxe99ae_isNaN_b9ae7_2 : decode cJxe99ae_isNaN_b9ae7 2 = .ok (.dcmp .l, 1) := by decide +kernel
theorem dJxe99ae_isNaN_b9ae7_3 : decode cJxe99ae_isNaN_b9ae7 3 = .ok (.ifCond .eq 7, 3) := by decide +kernel
theorem dJxe99ae_isNaN_b9ae7_6 : decode cJxe99ae_isNaN_b9ae7 6 = .ok (.iconst 1, 1) := by decide +kernel
theorem dJxe99ae_isNaN_b9ae7_7 : decode cJxe99ae_isNaN_b9ae7 7 = .ok (.goto 4, 3) := by decide +kernel
theorem dJxe99ae_isNaN_b9ae7_10 : decode cJxe99ae_isNaN_b9ae7 10 = .ok (.iconst 0, 1) := by decide +kernel
theorem dJxe99ae_isNaN_b9ae7_11 : decode cJxe99ae_isNaN_b9ae7 11 = .ok (.ireturn, 1) := by decide +kernel
theorem dJxe99ae_doubleToLongBits_ccdee_0 : decode cJxe99ae_doubleToLongBits_ccdee 0 = .ok (.dload_n 0, 1) := by decide +kernel
theorem dJxe99ae_doubleToLongBits_ccdee_1 : decode cJxe99ae_doubleToLongBits_ccdee 1 = .ok (.invokestatic 122, 3) := by decide +kernel
theorem dJxe99ae_doubleToLongBits_ccdee_4 : decode cJxe99ae_doubleToLongBits_ccdee 4 = .ok (.ifCond .ne 8, 3) := by decide +kernel
theorem dJxe99ae_doubleToLongBits_ccdee_7 : decode cJxe99ae_doubleToLongBits_ccdee 7 = .ok (.dload_n 0, 1) := by decide +kernel
theorem dJxe99ae_doubleToLongBits_ccdee_8 : decode cJxe99ae_doubleToLongBits_ccdee 8 = .ok (.invokestatic 134, 3) := by decide +kernel
theorem dJxe99ae_doubleToLongBits_ccdee_11 : decode cJxe99ae_doubleToLongBits_ccdee 11 = .ok (.lreturn, 1) := by decide +kernel
theorem dJxe99ae_doubleToLongBits_ccdee_12 : decode cJxe99ae_doubleToLongBits_ccdee 12 = .ok (.ldc2_w 137, 3) := by decide +kernel
theorem dJxe99ae_doubleToLongBits_ccdee_15 : decode cJxe99ae_doubleToLongBits_ccdee 15 = .ok (.lreturn, 1) := by decide +kernel
theorem dL_come_0 : decode cL_come 0 = .ok (.aload_n 3, 1) := by decide +kernel
theorem dL_come_1 : decode cL_come 1 = .ok (.iconst 0, 1) := by decide +kernel
theorem dL_come_2 : decode cL_come 2 = .ok (.aload_n 0, 1) := by decide +kernel
theorem dL_come_3 : decode cL_come 3 = .ok (.iload_n 1, 1) := by decide +kernel
theorem dL_come_4 : decode cL_come 4 = .ok (.iload_n 2, 1) := by decide +kernel
theorem dL_come_5 : decode cL_come 5 = .ok (.invokevirtual 7, 3) := by decide +kernel
theorem dL_come_8 : decode cL_come 8 = .ok (.i2l, 1) := by decide +kernel
theorem dL_come_9 : decode cL_come 9 = .ok (.lastore, 1) := by decide +kernel
theorem dL_come_10 : decode cL_come 10 = .ok (.goto 15, 3) := by decide +kernel
theorem dL_come_13 : decode cL_come 13 = .ok (.astore 4, 2) := by decide +kernel
theorem dL_come_15 : decode cL_come 15 = .ok (.iconst 1, 1) := by decide +kernel
theorem dL_come_16 : decode cL_come 16 = .ok (.ireturn, 1) := by decide +kernel
theorem dL_come_17 : decode cL_come 17 = .ok (.astore 4, 2) := by decide +kernel
theorem dL_come_19 : decode cL_come 19 = .ok (.iconst 2, 1) := by decide +kernel
theorem dL_come_20 : decode cL_come 20 = .ok (.ireturn, 1) := by decide +kernel
theorem dL_come_21 : decode cL_come 21 = .ok (.astore 4, 2) := by decide +kernel
theorem dL_come_23 : decode cL_come 23 = .ok (.iconst 3, 1) := by decide +kernel
theorem dL_come_24 : decode cL_come 24 = .ok (.ireturn, 1) := by decide +kernel
theorem dL_come_25 : decode cL_come 25 = .ok (.iconst 0, 1) := by decide +kernel
theorem dL_come_26 : decode cL_come 26 = .ok (.ireturn, 1) := by decide +kernel
theorem dL_turn_0 : decode cL_turn 0 = .ok (.aload_n 3, 1) := by decide +kernel
theorem dL_turn_1 : decode cL_turn 1 = .ok (.iconst 0, 1) := by decide +kernel
theorem dL_turn_2 : decode cL_turn 2 = .ok (.aload_n 0, 1) := by decide +kernel
theorem dL_turn_3 : decode cL_turn 3 = .ok (.iload_n 1, 1) := by decide +kernel
theorem dL_turn_4 : decode cL_turn 4 = .ok (.iload_n 2, 1) := by decide +kernel
theorem dL_turn_5 : decode cL_turn 5 = .ok (.invokevirtual 19, 3) := by decide +kernel
theorem dL_turn_8 : decode cL_turn 8 = .ok (.i2l, 1) := by decide +kernel
theorem dL_turn_9 : decode cL_turn 9 = .ok (.lastore, 1) := by decide +kernel
theorem dL_turn_10 : decode cL_turn 10 = .ok (.goto 7, 3) := by decide +kernel
theorem dL_turn_13 : decode cL_turn 13 = .ok (.astore 4, 2) := by decide +kernel
theorem dL_turn_15 : decode cL_turn 15 = .ok (.iconst 1, 1) := by decide +kernel
theorem dL_turn_16 : decode cL_turn 16 = .ok (.ireturn, 1) := by decide +kernel
theorem dL_turn_17 : decode cL_turn 17 = .ok (.iconst 0, 1) := by decide +kernel
theorem dL_turn_18 : decode cL_turn 18 = .ok (.ireturn, 1) := by decide +kernel
theorem dL_press_0 : decode cL_press 0 = .ok (.aload_n 2, 1) := by decide +kernel
theorem dL_press_1 : decode cL_press 1 = .ok (.iconst 0, 1) := by decide +kernel
theorem dL_press_2 : decode cL_press 2 = .ok (.aload_n 0, 1) := by decide +kernel
theorem dL_press_3 : decode cL_press 3 = .ok (.iload_n 1, 1) := by decide +kernel
theorem dL_press_4 : decode cL_press 4 = .ok (.invokevirtual 22, 3) := by decide +kernel
theorem dL_press_7 : decode cL_press 7 = .ok (.i2l, 1) := by decide +kernel
theorem dL_press_8 : decode cL_press 8 = .ok (.lastore, 1) := by decide +kernel
theorem dL_press_9 : decode cL_press 9 = .ok (.goto 6, 3) := by decide +kernel
theorem dL_press_12 : decode cL_press 12 = .ok (.astore_n 3, 1) := by decide +kernel
theorem dL_press_13 : decode cL_press 13 = .ok (.iconst 1, 1) := by decide +kernel
theorem dL_press_14 : decode cL_press 14 = .ok (.ireturn, 1) := by decide +kernel
theorem dL_press_15 : decode cL_press 15 = .ok (.iconst 0, 1) := by decide +kernel
theorem dL_press_16 : decode cL_press 16 = .ok (.ireturn, 1) := by decide +kernel
theorem dL_sensor_0 : decode cL_sensor 0 = .ok (.aload_n 3, 1) := by decide +kernel
theorem dL_sensor_1 : decode cL_sensor 1 = .ok (.iconst 0, 1) := by decide +kernel
theorem dL_sensor_2 : decode cL_sensor 2 = .ok (.aload_n 0, 1) := by decide +kernel
theorem dL_sensor_3 : decode cL_sensor 3 = .ok (.iload_n 1, 1) := by decide +kernel
theorem dL_sensor_4 : decode cL_sensor 4 = .ok (.iload_n 2, 1) := by decide +kernel
theorem dL_sensor_5 : decode cL_sensor 5 = .ok (.invokevirtual 26, 3) := by decide +kernel
theorem dL_sensor_8 : decode cL_sensor 8 = .ok (.i2l, 1) := by decide +kernel
theorem dL_sensor_9 : decode cL_sensor 9 = .ok (.lastore, 1) := by decide +kernel
theorem dL_sensor_10 : decode cL_sensor 10 = .ok (.goto 7, 3) := by decide +kernel
theorem dL_sensor_13 : decode cL_sensor 13 = .ok (.astore 4, 2) := by decide +kernel
theorem dL_sensor_15 : decode cL_sensor 15 = .ok (.iconst 1, 1) := by decide +kernel
theorem dL_sensor_16 : decode cL_sensor 16 = .ok (.ireturn, 1) := by decide +kernel
theorem dL_sensor_17 : decode cL_sensor 17 = .ok (.iconst 0, 1) := by decide +kernel
theorem dL_sensor_18 : decode cL_sensor 18 = .ok (.ireturn, 1) := by decide +kernel
theorem dL_set_0 : decode cL_set 0 = .ok (.aload_n 3, 1) := by decide +kernel
theorem dL_set_1 : decode cL_set 1 = .ok (.iconst 0, 1) := by decide +kernel
theorem dL_set_2 : decode cL_set 2 = .ok (.aload_n 0, 1) := by decide +kernel
theorem dL_set_3 : decode cL_set 3 = .ok (.iload_n 1, 1) := by decide +kernel
theorem dL_set_4 : decode cL_set 4 = .ok (.iload_n 2, 1) := by decide +kernel
theorem dL_set_5 : decode cL_set 5 = .ok (.invokevirtual 30, 3) := by decide +kernel
theorem dL_set_8 : decode cL_set 8 = .ok (.i2l, 1) := by decide +kernel
theorem dL_set_9 : decode cL_set 9 = .ok (.lastore, 1) := by decide +kernel
theorem dL_set_10 : decode cL_set 10 = .ok (.goto 11, 3) := by decide +kernel
theorem dL_set_13 : decode cL_set 13 = .ok (.astore 4, 2) := by decide +kernel
theorem dL_set_15 : decode cL_set 15 = .ok (.iconst 1, 1) := by decide +kernel
theorem dL_set_16 : decode cL_set 16 = .ok (.ireturn, 1) := by decide +kernel
theorem dL_set_17 : decode cL_set 17 = .ok (.astore 4, 2) := by decide +kernel
theorem dL_set_19 : decode cL_set 19 = .ok (.iconst 2, 1) := by decide +kernel
theorem dL_set_20 : decode cL_set 20 = .ok (.ireturn, 1) := by decide +kernel
theorem dL_set_21 : decode cL_set 21 = .ok (.iconst 0, 1) := by decide +kernel
theorem dL_set_22 : decode cL_set 22 = .ok (.ireturn, 1) := by decide +kernel
theorem dL_pass_0 : decode cL_pass 0 = .ok (.aload_n 2, 1) := by decide +kernel
theorem dL_pass_1 : decode cL_pass 1 = .ok (.iconst 0, 1) := by decide +kernel
theorem dL_pass_2 : decode cL_pass 2 = .ok (.aload_n 0, 1) := by decide +kernel
theorem dL_pass_3 : decode cL_pass 3 = .ok (.iload_n 1, 1) := by decide +kernel
theorem dL_pass_4 : decode cL_pass 4 = .ok (.invokevirtual 33, 3) := by decide +kernel
theorem dL_pass_7 : decode cL_pass 7 = .ok (.i2l, 1) := by decide +kernel
theorem dL_pass_8 : decode cL_pass 8 = .ok (.lastore, 1) := by decide +kernel
theorem dL_pass_9 : decode cL_pass 9 = .ok (.goto 6, 3) := by decide +kernel
theorem dL_pass_12 : decode cL_pass 12 = .ok (.astore_n 3, 1) := by decide +kernel
theorem dL_pass_13 : decode cL_pass 13 = .ok (.iconst 1, 1) := by decide +kernel
theorem dL_pass_14 : decode cL_pass 14 = .ok (.ireturn, 1) := by decide +kernel
theorem dL_pass_15 : decode cL_pass 15 = .ok (.iconst 0, 1) := by decide +kernel
theorem dL_pass_16 : decode cL_pass 16 = .ok (.ireturn, 1) := by decide +kernel
theorem dL_append_0 : decode cL_append 0 = .ok (.aload_n 2, 1) := by decide +kernel
theorem dL_append_1 : decode cL_append 1 = .ok (.iconst 0, 1) := by decide +kernel
theorem dL_append_2 : decode cL_append 2 = .ok (.aload_n 0, 1) := by decide +kernel
theorem dL_append_3 : decode cL_append 3 = .ok (.iload_n 1, 1) := by decide +kernel
theorem dL_append_4 : decode cL_append 4 = .ok (.invokevirtual 36, 3) := by decide +kernel
theorem dL_append_7 : decode cL_append 7 = .ok (.i2l, 1) := by decide +kernel
theorem dL_append_8 : decode cL_append 8 = .ok (.lastore, 1) := by decide +kernel
theorem dL_append_9 : decode cL_append 9 = .ok (.goto 9, 3) := by decide +kernel
theorem dL_append_12 : decode cL_append 12 = .ok (.astore_n 3, 1) := by decide +kernel
theorem dL_append_13 : decode cL_append 13 = .ok (.iconst 1, 1) := by decide +kernel
theorem dL_append_14 : decode cL_append 14 = .ok (.ireturn, 1) := by decide +kernel
theorem dL_append_15 : decode cL_append 15 = .ok (.astore_n 3, 1) := by decide +kernel
theorem dL_append_16 : decode cL_append 16 = .ok (.iconst 2, 1) := by decide +kernel
theorem dL_append_17 : decode cL_append 17 = .ok (.ireturn, 1) := by decide +kernel
theorem dL_append_18 : decode cL_append 18 = .ok (.iconst 0, 1) := by decide +kernel
theorem dL_append_19 : decode cL_append 19 = .ok (.ireturn, 1) := by decide +kernel
theorem dL_comeAll_0 : decode cL_comeAll 0 = .ok (.aload_n 1, 1) := by decide +kernel
theorem dL_comeAll_1 : decode cL_comeAll 1 = .ok (.iconst 0, 1) := by decide +kernel
theorem dL_comeAll_2 : decode cL_comeAll 2 = .ok (.aload_n 0, 1) := by decide +kernel
theorem dL_comeAll_3 : decode cL_comeAll 3 = .ok (.invokevirtual 39, 3) := by decide +kernel
theorem dL_comeAll_6 : decode cL_comeAll 6 = .ok (.i2l, 1) := by decide +kernel
theorem dL_comeAll_7 : decode cL_comeAll 7 = .ok (.lastore, 1) := by decide +kernel
theorem dL_comeAll_8 : decode cL_comeAll 8 = .ok (.goto 6, 3) := by decide +kernel
theorem dL_comeAll_11 : decode cL_comeAll 11 = .ok (.astore_n 2, 1) := by decide +kernel
theorem dL_comeAll_12 : decode cL_comeAll 12 = .ok (.iconst 1, 1) := by decide +kernel
theorem dL_comeAll_13 : decode cL_comeAll 13 = .ok (.ireturn, 1) := by decide +kernel
theorem dL_comeAll_14 : decode cL_comeAll 14 = .ok (.iconst 0, 1) := by decide +kernel
theorem dL_comeAll_15 : decode cL_comeAll 15 = .ok (.ireturn, 1) := by decide +kernel
theorem dL_undo_0 : decode cL_undo 0 = .ok (.aload_n 1, 1) := by decide +kernel
theorem dL_undo_1 : decode cL_undo 1 = .ok (.iconst 0, 1) := by decide +kernel
theorem dL_undo_2 : decode cL_undo 2 = .ok (.aload_n 0, 1) := by decide +kernel
theorem dL_undo_3 : decode cL_undo 3 = .ok (.invokevirtual 43, 3) := by decide +kernel
theorem dL_undo_6 : decode cL_undo 6 = .ok (.i2l, 1) := by decide +kernel
theorem dL_undo_7 : decode cL_undo 7 = .ok (.lastore, 1) := by decide +kernel
theorem dL_undo_8 : decode cL_undo 8 = .ok (.goto 6, 3) := by decide +kernel
theorem dL_undo_11 : decode cL_undo 11 = .ok (.astore_n 2, 1) := by decide +kernel
theorem dL_undo_12 : decode cL_undo 12 = .ok (.iconst 1, 1) := by decide +kernel
theorem dL_undo_13 : decode cL_undo 13 = .ok (.ireturn, 1) := by decide +kernel
theorem dL_undo_14 : decode cL_undo 14 = .ok (.iconst 0, 1) := by decide +kernel
theorem dL_undo_15 : decode cL_undo 15 = .ok (.ireturn, 1) := by decide +kernel
theorem dL_floor_0 : decode cL_floor 0 = .ok (.aload_n 3, 1) := by decide +kernel
theorem dL_floor_1 : decode cL_floor 1 = .ok (.iconst 0, 1) := by decide +kernel
theorem dL_floor_2 : decode cL_floor 2 = .ok (.aload_n 0, 1) := by decide +kernel
theorem dL_floor_3 : decode cL_floor 3 = .ok (.iload_n 1, 1) := by decide +kernel
theorem dL_floor_4 : decode cL_floor 4 = .ok (.iload_n 2, 1) := by decide +kernel
theorem dL_floor_5 : decode cL_floor 5 = .ok (.invokevirtual 46, 3) := by decide +kernel
theorem dL_floor_8 : decode cL_floor 8 = .ok (.i2l, 1) := by decide +kernel
theorem dL_floor_9 : decode cL_floor 9 = .ok (.lastore, 1) := by decide +kernel
theorem dL_floor_10 : decode cL_floor 10 = .ok (.goto 11, 3) := by decide +kernel
theorem dL_floor_13 : decode cL_floor 13 = .ok (.astore 4, 2) := by decide +kernel
theorem dL_floor_15 : decode cL_floor 15 = .ok (.iconst 1, 1) := by decide +kernel
theorem dL_floor_16 : decode cL_floor 16 = .ok (.ireturn, 1) := by decide +kernel
theorem dL_floor_17 : decode cL_floor 17 = .ok (.astore 4, 2) := by decide +kernel
theorem dL_floor_19 : decode cL_floor 19 = .ok (.iconst 2, 1) := by decide +kernel
theorem dL_floor_20 : decode cL_floor 20 = .ok (.ireturn, 1) := by decide +kernel
theorem dL_floor_21 : decode cL_floor 21 = .ok (.iconst 0, 1) := by decide +kernel
theorem dL_floor_22 : decode cL_floor 22 = .ok (.ireturn, 1) := by decide +kernel
theorem dL_person_0 : decode cL_person 0 = .ok (.aload_n 3, 1) := by decide +kernel
theorem dL_person_1 : decode cL_person 1 = .ok (.iconst 0, 1) := by decide +kernel
theorem dL_person_2 : decode cL_person 2 = .ok (.aload_n 0, 1) := by decide +kernel
theorem dL_person_3 : decode cL_person 3 = .ok (.iload_n 1, 1) := by decide +kernel
theorem dL_person_4 : decode cL_person 4 = .ok (.iload_n 2, 1) := by decide +kernel
theorem dL_person_5 : decode cL_person 5 = .ok (.invokevirtual 49, 3) := by decide +kernel
theorem dL_person_8 : decode cL_person 8 = .ok (.i2l, 1) := by decide +kernel
theorem dL_person_9 : decode cL_person 9 = .ok (.lastore, 1) := by decide +kernel
theorem dL_person_10 : decode cL_person 10 = .ok (.goto 7, 3) := by decide +kernel
theorem dL_person_13 : decode cL_person 13 = .ok (.astore 4, 2) := by decide +kernel
theorem dL_person_15 : decode cL_person 15 = .ok (.iconst 1, 1) := by decide +kernel
theorem dL_person_16 : decode cL_person 16 = .ok (.ireturn, 1) := by decide +kernel
theorem dL_person_17 : decode cL_person 17 = .ok (.iconst 0, 1) := by decide +kernel
theorem dL_person_18 : decode cL_person 18 = .ok (.ireturn, 1) := by decide +kernel
theorem dL_count_0 : decode cL_count 0 = .ok (.aload_n 2, 1) := by decide +kernel
theorem dL_count_1 : decode cL_count 1 = .ok (.iconst 0, 1) := by decide +kernel
theorem dL_count_2 : decode cL_count 2 = .ok (.aload_n 0, 1) := by decide +kernel
theorem dL_count_3 : decode cL_count 3 = .ok (.iload_n 1, 1) := by decide +kernel
theorem dL_count_4 : decode cL_count 4 = .ok (.invokevirtual 52, 3) := by decide +kernel
theorem dL_count_7 : decode cL_count 7 = .ok (.i2l, 1) := by decide +kernel
theorem dL_count_8 : decode cL_count 8 = .ok (.lastore, 1) := by decide +kernel
theorem dL_count_9 : decode cL_count 9 = .ok (.goto 6, 3) := by decide +kernel
theorem dL_count_12 : decode cL_count 12 = .ok (.astore_n 3, 1) := by decide +kernel
theorem dL_count_13 : decode cL_count 13 = .ok (.iconst 1, 1) := by decide +kernel
theorem dL_count_14 : decode cL_count 14 = .ok (.ireturn, 1) := by decide +kernel
theorem dL_count_15 : decode cL_count 15 = .ok (.iconst 0, 1) := by decide +kernel
theorem dL_count_16 : decode cL_count 16 = .ok (.ireturn, 1) := by decide +kernel
theorem dL_setting_0 : decode cL_setting 0 = .ok (.aload_n 2, 1) := by decide +kernel
theorem dL_setting_1 : decode cL_setting 1 = .ok (.iconst 0, 1) := by decide +kernel
theorem dL_setting_2 : decode cL_setting 2 = .ok (.aload_n 0, 1) := by decide +kernel
theorem dL_setting_3 : decode cL_setting 3 = .ok (.iload_n 1, 1) := by decide +kernel
theorem dL_setting_4 : decode cL_setting 4 = .ok (.invokevirtual 55, 3) := by decide +kernel
theorem dL_setting_7 : decode cL_setting 7 = .ok (.i2l, 1) := by decide +kernel
theorem dL_setting_8 : decode cL_setting 8 = .ok (.lastore, 1) := by decide +kernel
theorem dL_setting_9 : decode cL_setting 9 = .ok (.goto 6, 3) := by decide +kernel
theorem dL_setting_12 : decode cL_setting 12 = .ok (.astore_n 3, 1) := by decide +kernel
theorem dL_setting_13 : decode cL_setting 13 = .ok (.iconst 1, 1) := by decide +kernel
theorem dL_setting_14 : decode cL_setting 14 = .ok (.ireturn, 1) := by decide +kernel
theorem dL_setting_15 : decode cL_setting 15 = .ok (.iconst 0, 1) := by decide +kernel
theorem dL_setting_16 : decode cL_setting 16 = .ok (.ireturn, 1) := by decide +kernel
theorem dL_ifPassed_0 : decode cL_ifPassed 0 = .ok (.aload_n 3, 1) := by decide +kernel
theorem dL_ifPassed_1 : decode cL_ifPassed 1 = .ok (.iconst 0, 1) := by decide +kernel
theorem dL_ifPassed_2 : decode cL_ifPassed 2 = .ok (.aload_n 0, 1) := by decide +kernel
theorem dL_ifPassed_3 : decode cL_ifPassed 3 = .ok (.iload_n 1, 1) := by decide +kernel
theorem dL_ifPassed_4 : decode cL_ifPassed 4 = .ok (.iload_n 2, 1) := by decide +kernel
theorem dL_ifPassed_5 : decode cL_ifPassed 5 = .ok (.invokevirtual 58, 3) := by decide +kernel
theorem dL_ifPassed_8 : decode cL_ifPassed 8 = .ok (.i2l, 1) := by decide +kernel
theorem dL_ifPassed_9 : decode cL_ifPassed 9 = .ok (.lastore, 1) := by decide +kernel
theorem dL_ifPassed_10 : decode cL_ifPassed 10 = .ok (.goto 7, 3) := by decide +kernel
theorem dL_ifPassed_13 : decode cL_ifPassed 13 = .ok (.astore 4, 2) := by decide +kernel
theorem dL_ifPassed_15 : decode cL_ifPassed 15 = .ok (.iconst 1, 1) := by decide +kernel
theorem dL_ifPassed_16 : decode cL_ifPassed 16 = .ok (.ireturn, 1) := by decide +kernel
theorem dL_ifPassed_17 : decode cL_ifPassed 17 = .ok (.iconst 0, 1) := by decide +kernel
theorem dL_ifPassed_18 : decode cL_ifPassed 18 = .ok (.ireturn, 1) := by decide +kernel
theorem dL_dark_0 : decode cL_dark 0 = .ok (.aload_n 3, 1) := by decide +kernel
theorem dL_dark_1 : decode cL_dark 1 = .ok (.iconst 0, 1) := by decide +kernel
theorem dL_dark_2 : decode cL_dark 2 = .ok (.aload_n 0, 1) := by decide +kernel
theorem dL_dark_3 : decode cL_dark 3 = .ok (.iload_n 1, 1) := by decide +kernel
theorem dL_dark_4 : decode cL_dark 4 = .ok (.iload_n 2, 1) := by decide +kernel
theorem dL_dark_5 : decode cL_dark 5 = .ok (.invokevirtual 61, 3) := by decide +kernel
theorem dL_dark_8 : decode cL_dark 8 = .ok (.i2l, 1) := by decide +kernel
theorem dL_dark_9 : decode cL_dark 9 = .ok (.lastore, 1) := by decide +kernel
theorem dL_dark_10 : decode cL_dark 10 = .ok (.goto 11, 3) := by decide +kernel
theorem dL_dark_13 : decode cL_dark 13 = .ok (.astore 4, 2) := by decide +kernel
theorem dL_dark_15 : decode cL_dark 15 = .ok (.iconst 1, 1) := by decide +kernel
theorem dL_dark_16 : decode cL_dark 16 = .ok (.ireturn, 1) := by decide +kernel
theorem dL_dark_17 : decode cL_dark 17 = .ok (.astore 4, 2) := by decide +kernel
theorem dL_dark_19 : decode cL_dark 19 = .ok (.iconst 2, 1) := by decide +kernel
theorem dL_dark_20 : decode cL_dark 20 = .ok (.ireturn, 1) := by decide +kernel
theorem dL_dark_21 : decode cL_dark 21 = .ok (.iconst 0, 1) := by decide +kernel
theorem dL_dark_22 : decode cL_dark 22 = .ok (.ireturn, 1) := by decide +kernel
theorem dL_leastTime_0 : decode cL_leastTime 0 = .ok (.aload_n 3, 1) := by decide +kernel
theorem dL_leastTime_1 : decode cL_leastTime 1 = .ok (.iconst 0, 1) := by decide +kernel
theorem dL_leastTime_2 : decode cL_leastTime 2 = .ok (.aload_n 0, 1) := by decide +kernel
theorem dL_leastTime_3 : decode cL_leastTime 3 = .ok (.iload_n 1, 1) := by decide +kernel
theorem dL_leastTime_4 : decode cL_leastTime 4 = .ok (.iload_n 2, 1) := by decide +kernel
theorem dL_leastTime_5 : decode cL_leastTime 5 = .ok (.invokevirtual 64, 3) := by decide +kernel
theorem dL_leastTime_8 : decode cL_leastTime 8 = .ok (.i2l, 1) := by decide +kernel
theorem dL_leastTime_9 : decode cL_leastTime 9 = .ok (.lastore, 1) := by decide +kernel
theorem dL_leastTime_10 : decode cL_leastTime 10 = .ok (.goto 11, 3) := by decide +kernel
theorem dL_leastTime_13 : decode cL_leastTime 13 = .ok (.astore 4, 2) := by decide +kernel
theorem dL_leastTime_15 : decode cL_leastTime 15 = .ok (.iconst 1, 1) := by decide +kernel
theorem dL_leastTime_16 : decode cL_leastTime 16 = .ok (.ireturn, 1) := by decide +kernel
theorem dL_leastTime_17 : decode cL_leastTime 17 = .ok (.astore 4, 2) := by decide +kernel
theorem dL_leastTime_19 : decode cL_leastTime 19 = .ok (.iconst 2, 1) := by decide +kernel
theorem dL_leastTime_20 : decode cL_leastTime 20 = .ok (.ireturn, 1) := by decide +kernel
theorem dL_leastTime_21 : decode cL_leastTime 21 = .ok (.iconst 0, 1) := by decide +kernel
theorem dL_leastTime_22 : decode cL_leastTime 22 = .ok (.ireturn, 1) := by decide +kernel
theorem dL_law_0 : decode cL_law 0 = .ok (.new 8, 3) := by decide +kernel
theorem dL_law_3 : decode cL_law 3 = .ok (.dup, 1) := by decide +kernel
theorem dL_law_4 : decode cL_law 4 = .ok (.invokespecial 67, 3) := by decide +kernel
theorem dL_law_7 : decode cL_law 7 = .ok (.astore_n 1, 1) := by decide +kernel
theorem dL_law_8 : decode cL_law 8 = .ok (.new 68, 3) := by decide +kernel
theorem dL_law_11 : decode cL_law 11 = .ok (.dup, 1) := by decide +kernel
theorem dL_law_12 : decode cL_law 12 = .ok (.invokespecial 70, 3) := by decide +kernel
theorem dL_law_15 : decode cL_law 15 = .ok (.astore_n 2, 1) := by decide +kernel
theorem dL_law_16 : decode cL_law 16 = .ok (.iconst 1, 1) := by decide +kernel
theorem dL_law_17 : decode cL_law 17 = .ok (.newarray .long, 2) := by decide +kernel
theorem dL_law_19 : decode cL_law 19 = .ok (.astore_n 3, 1) := by decide +kernel
theorem dL_law_20 : decode cL_law 20 = .ok (.iconst 0, 1) := by decide +kernel
theorem dL_law_21 : decode cL_law 21 = .ok (.istore 4, 2) := by decide +kernel
theorem dL_law_23 : decode cL_law 23 = .ok (.iload 4, 2) := by decide +kernel
theorem dL_law_25 : decode cL_law 25 = .ok (.aload_n 0, 1) := by decide +kernel
theorem dL_law_26 : decode cL_law 26 = .ok (.arraylength, 1) := by decide +kernel
theorem dL_law_27 : decode cL_law 27 = .ok (.iconst 3, 1) := by decide +kernel
theorem dL_law_28 : decode cL_law 28 = .ok (.isub, 1) := by decide +kernel
theorem dL_law_29 : decode cL_law 29 = .ok (.if_icmp .gt 1293, 3) := by decide +kernel
theorem dL_law_32 : decode cL_law 32 = .ok (.aload_n 0, 1) := by decide +kernel
theorem dL_law_33 : decode cL_law 33 = .ok (.iload 4, 2) := by decide +kernel
theorem dL_law_35 : decode cL_law 35 = .ok (.iaload, 1) := by decide +kernel
theorem dL_law_36 : decode cL_law 36 = .ok (.bipush 31, 2) := by decide +kernel
theorem dL_law_38 : decode cL_law 38 = .ok (.iand, 1) := by decide +kernel
theorem dL_law_39 : decode cL_law 39 = .ok (.tableswitch 1277 0 22 #[105, 173, 241, 297, 381, 422, 463, 531, 587, 643, 656, 669, 713, 757, 825, 893, 949, 1005, 1073, 1141, 1209, 1222, 1263], 105) := by decide +kernel
theorem dL_law_144 : decode cL_law 144 = .ok (.aload_n 1, 1) := by decide +kernel
theorem dL_law_145 : decode cL_law 145 = .ok (.aload_n 0, 1) := by decide +kernel
theorem dL_law_146 : decode cL_law 146 = .ok (.iload 4, 2) := by decide +kernel
theorem dL_law_148 : decode cL_law 148 = .ok (.iconst 1, 1) := by decide +kernel
theorem dL_law_149 : decode cL_law 149 = .ok (.iadd, 1) := by decide +kernel
theorem dL_law_150 : decode cL_law 150 = .ok (.iaload, 1) := by decide +kernel
theorem dL_law_151 : decode cL_law 151 = .ok (.aload_n 0, 1) := by decide +kernel
theorem dL_law_152 : decode cL_law 152 = .ok (.iload 4, 2) := by decide +kernel
theorem dL_law_154 : decode cL_law 154 = .ok (.iconst 2, 1) := by decide +kernel
theorem dL_law_155 : decode cL_law 155 = .ok (.iadd, 1) := by decide +kernel
theorem dL_law_156 : decode cL_law 156 = .ok (.iaload, 1) := by decide +kernel
theorem dL_law_157 : decode cL_law 157 = .ok (.aload_n 3, 1) := by decide +kernel
theorem dL_law_158 : decode cL_law 158 = .ok (.invokestatic 71, 3) := by decide +kernel
theorem dL_law_161 : decode cL_law 161 = .ok (.istore 5, 2) := by decide +kernel
theorem dL_law_163 : decode cL_law 163 = .ok (.aload_n 2, 1) := by decide +kernel
theorem dL_law_164 : decode cL_law 164 = .ok (.aload_n 0, 1) := by decide +kernel
theorem dL_law_165 : decode cL_law 165 = .ok (.iload 4, 2) := by decide +kernel
theorem dL_law_167 : decode cL_law 167 = .ok (.iconst 1, 1) := by decide +kernel
theorem dL_law_168 : decode cL_law 168 = .ok (.iadd, 1) := by decide +kernel
theorem dL_law_169 : decode cL_law 169 = .ok (.iaload, 1) := by decide +kernel
theorem dL_law_170 : decode cL_law 170 = .ok (.aload_n 0, 1) := by decide +kernel
theorem dL_law_171 : decode cL_law 171 = .ok (.iload 4, 2) := by decide +kernel
theorem dL_law_173 : decode cL_law 173 = .ok (.iconst 2, 1) := by decide +kernel
theorem dL_law_174 : decode cL_law 174 = .ok (.iadd, 1) := by decide +kernel
theorem dL_law_175 : decode cL_law 175 = .ok (.iaload, 1) := by decide +kernel
theorem dL_law_176 : decode cL_law 176 = .ok (.invokevirtual 76, 3) := by decide +kernel
theorem dL_law_179 : decode cL_law 179 = .ok (.istore 6, 2) := by decide +kernel
theorem dL_law_181 : decode cL_law 181 = .ok (.aload_n 2, 1) := by decide +kernel
theorem dL_law_182 : decode cL_law 182 = .ok (.invokevirtual 77, 3) := by decide +kernel
theorem dL_law_185 : decode cL_law 185 = .ok (.iload 5, 2) := by decide +kernel
theorem dL_law_187 : decode cL_law 187 = .ok (.if_icmp .eq 5, 3) := by decide +kernel
theorem dL_law_190 : decode cL_law 190 = .ok (.iconst 0, 1) := by decide +kernel
theorem dL_law_191 : decode cL_law 191 = .ok (.ireturn, 1) := by decide +kernel
theorem dL_law_192 : decode cL_law 192 = .ok (.iload 5, 2) := by decide +kernel
theorem dL_law_194 : decode cL_law 194 = .ok (.ifCond .ne 15, 3) := by decide +kernel
theorem dL_law_197 : decode cL_law 197 = .ok (.aload_n 3, 1) := by decide +kernel
theorem dL_law_198 : decode cL_law 198 = .ok (.iconst 0, 1) := by decide +kernel
theorem dL_law_199 : decode cL_law 199 = .ok (.laload, 1) := by decide +kernel
theorem dL_law_200 : decode cL_law 200 = .ok (.iload 6, 2) := by decide +kernel
theorem dL_law_202 : decode cL_law 202 = .ok (.i2l, 1) := by decide +kernel
theorem dL_law_203 : decode cL_law 203 = .ok (.lcmp, 1) := by decide +kernel
theorem dL_law_204 : decode cL_law 204 = .ok (.ifCond .eq 5, 3) := by decide +kernel
theorem dL_law_207 : decode cL_law 207 = .ok (.iconst 0, 1) := by decide +kernel
theorem dL_law_208 : decode cL_law 208 = .ok (.ireturn, 1) := by decide +kernel
theorem dL_law_209 : decode cL_law 209 = .ok (.goto 1107, 3) := by decide +kernel
theorem dL_law_212 : decode cL_law 212 = .ok (.aload_n 1, 1) := by decide +kernel
theorem dL_law_213 : decode cL_law 213 = .ok (.aload_n 0, 1) := by decide +kernel
theorem dL_law_214 : decode cL_law 214 = .ok (.iload 4, 2) := by decide +kernel
theorem dL_law_216 : decode cL_law 216 = .ok (.iconst 1, 1) := by decide +kernel
theorem dL_law_217 : decode cL_law 217 = .ok (.iadd, 1) := by decide +kernel
theorem dL_law_218 : decode cL_law 218 = .ok (.iaload, 1) := by decide +kernel
theorem dL_law_219 : decode cL_law 219 = .ok (.aload_n 0, 1) := by decide +kernel
theorem dL_law_220 : decode cL_law 220 = .ok (.iload 4, 2) := by decide +kernel
theorem dL_law_222 : decode cL_law 222 = .ok (.iconst 2, 1) := by decide +kernel
theorem dL_law_223 : decode cL_law 223 = .ok (.iadd, 1) := by decide +kernel
theorem dL_law_224 : decode cL_law 224 = .ok (.iaload, 1) := by decide +kernel
theorem dL_law_225 : decode cL_law 225 = .ok (.aload_n 3, 1) := by decide +kernel
theorem dL_law_226 : decode cL_law 226 = .ok (.invokestatic 80, 3) := by decide +kernel
theorem dL_law_229 : decode cL_law 229 = .ok (.istore 5, 2) := by decide +kernel
theorem dL_law_231 : decode cL_law 231 = .ok (.aload_n 2, 1) := by decide +kernel
theorem dL_law_232 : decode cL_law 232 = .ok (.aload_n 0, 1) := by decide +kernel
theorem dL_law_233 : decode cL_law 233 = .ok (.iload 4, 2) := by decide +kernel
theorem dL_law_235 : decode cL_law 235 = .ok (.iconst 1, 1) := by decide +kernel
theorem dL_law_236 : decode cL_law 236 = .ok (.iadd, 1) := by decide +kernel
theorem dL_law_237 : decode cL_law 237 = .ok (.iaload, 1) := by decide +kernel
theorem dL_law_238 : decode cL_law 238 = .ok (.aload_n 0, 1) := by decide +kernel
theorem dL_law_239 : decode cL_law 239 = .ok (.iload 4, 2) := by decide +kernel
theorem dL_law_241 : decode cL_law 241 = .ok (.iconst 2, 1) := by decide +kernel
theorem dL_law_242 : decode cL_law 242 = .ok (.iadd, 1) := by decide +kernel
theorem dL_law_243 : decode cL_law 243 = .ok (.iaload, 1) := by decide +kernel
theorem dL_law_244 : decode cL_law 244 = .ok (.invokevirtual 82, 3) := by decide +kernel
theorem dL_law_247 : decode cL_law 247 = .ok (.istore 6, 2) := by decide +kernel
theorem dL_law_249 : decode cL_law 249 = .ok (.aload_n 2, 1) := by decide +kernel
theorem dL_law_250 : decode cL_law 250 = .ok (.invokevirtual 77, 3) := by decide +kernel
theorem dL_law_253 : decode cL_law 253 = .ok (.iload 5, 2) := by decide +kernel
theorem dL_law_255 : decode cL_law 255 = .ok (.if_icmp .eq 5, 3) := by decide +kernel
theorem dL_law_258 : decode cL_law 258 = .ok (.iconst 0, 1) := by decide +kernel
theorem dL_law_259 : decode cL_law 259 = .ok (.ireturn, 1) := by decide +kernel
theorem dL_law_260 : decode cL_law 260 = .ok (.iload 5, 2) := by decide +kernel
theorem dL_law_262 : decode cL_law 262 = .ok (.ifCond .ne 15, 3) := by decide +kernel
theorem dL_law_265 : decode cL_law 265 = .ok (.aload_n 3, 1) := by decide +kernel
theorem dL_law_266 : decode cL_law 266 = .ok (.iconst 0, 1) := by decide +kernel
theorem dL_law_267 : decode cL_law 267 = .ok (.laload, 1) := by decide +kernel
theorem dL_law_268 : decode cL_law 268 = .ok (.iload 6, 2) := by decide +kernel
theorem dL_law_270 : decode cL_law 270 = .ok (.i2l, 1) := by decide +kernel
theorem dL_law_271 : decode cL_law 271 = .ok (.lcmp, 1) := by decide +kernel
theorem dL_law_272 : decode cL_law 272 = .ok (.ifCond .eq 5, 3) := by decide +kernel
theorem dL_law_275 : decode cL_law 275 = .ok (.iconst 0, 1) := by decide +kernel
theorem dL_law_276 : decode cL_law 276 = .ok (.ireturn, 1) := by decide +kernel
theorem dL_law_277 : decode cL_law 277 = .ok (.goto 1039, 3) := by decide +kernel
theorem dL_law_280 : decode cL_law 280 = .ok (.aload_n 1, 1) := by decide +kernel
theorem dL_law_281 : decode cL_law 281 = .ok (.aload_n 0, 1) := by decide +kernel
theorem dL_law_282 : decode cL_law 282 = .ok (.iload 4, 2) := by decide +kernel
theorem dL_law_284 : decode cL_law 284 = .ok (.iconst 1, 1) := by decide +kernel
theorem dL_law_285 : decode cL_law 285 = .ok (.iadd, 1) := by decide +kernel
theorem dL_law_286 : decode cL_law 286 = .ok (.iaload, 1) := by decide +kernel
theorem dL_law_287 : decode cL_law 287 = .ok (.aload_n 3, 1) := by decide +kernel
theorem dL_law_288 : decode cL_law 288 = .ok (.invokestatic 83, 3) := by decide +kernel
theorem dL_law_291 : decode cL_law 291 = .ok (.istore 5, 2) := by decide +kernel
theorem dL_law_293 : decode cL_law 293 = .ok (.aload_n 2, 1) := by decide +kernel
theorem dL_law_294 : decode cL_law 294 = .ok (.aload_n 0, 1) := by decide +kernel
theorem dL_law_295 : decode cL_law 295 = .ok (.iload 4, 2) := by decide +kernel
theorem dL_law_297 : decode cL_law 297 = .ok (.iconst 1, 1) := by decide +kernel
theorem dL_law_298 : decode cL_law 298 = .ok (.iadd, 1) := by decide +kernel
theorem dL_law_299 : decode cL_law 299 = .ok (.iaload, 1) := by decide +kernel
theorem dL_law_300 : decode cL_law 300 = .ok (.invokevirtual 86, 3) := by decide +kernel
theorem dL_law_303 : decode cL_law 303 = .ok (.istore 6, 2) := by decide +kernel
theorem dL_law_305 : decode cL_law 305 = .ok (.aload_n 2, 1) := by decide +kernel
theorem dL_law_306 : decode cL_law 306 = .ok (.invokevirtual 77, 3) := by decide +kernel
theorem dL_law_309 : decode cL_law 309 = .ok (.iload 5, 2) := by decide +kernel
theorem dL_law_311 : decode cL_law 311 = .ok (.if_icmp .eq 5, 3) := by decide +kernel
theorem dL_law_314 : decode cL_law 314 = .ok (.iconst 0, 1) := by decide +kernel
theorem dL_law_315 : decode cL_law 315 = .ok (.ireturn, 1) := by decide +kernel
theorem dL_law_316 : decode cL_law 316 = .ok (.iload 5, 2) := by decide +kernel
theorem dL_law_318 : decode cL_law 318 = .ok (.ifCond .ne 15, 3) := by decide +kernel
theorem dL_law_321 : decode cL_law 321 = .ok (.aload_n 3, 1) := by decide +kernel
theorem dL_law_322 : decode cL_law 322 = .ok (.iconst 0, 1) := by decide +kernel
theorem dL_law_323 : decode cL_law 323 = .ok (.laload, 1) := by decide +kernel
theorem dL_law_324 : decode cL_law 324 = .ok (.iload 6, 2) := by decide +kernel
theorem dL_law_326 : decode cL_law 326 = .ok (.i2l, 1) := by decide +kernel
theorem dL_law_327 : decode cL_law 327 = .ok (.lcmp, 1) := by decide +kernel
theorem dL_law_328 : decode cL_law 328 = .ok (.ifCond .eq 5, 3) := by decide +kernel
theorem dL_law_331 : decode cL_law 331 = .ok (.iconst 0, 1) := by decide +kernel
theorem dL_law_332 : decode cL_law 332 = .ok (.ireturn, 1) := by decide +kernel
theorem dL_law_333 : decode cL_law 333 = .ok (.goto 983, 3) := by decide +kernel
theorem dL_law_336 : decode cL_law 336 = .ok (.aload_n 1, 1) := by decide +kernel
theorem dL_law_337 : decode cL_law 337 = .ok (.aload_n 0, 1) := by decide +kernel
theorem dL_law_338 : decode cL_law 338 = .ok (.iload 4, 2) := by decide +kernel
theorem dL_law_340 : decode cL_law 340 = .ok (.iconst 1, 1) := by decide +kernel
theorem dL_law_341 : decode cL_law 341 = .ok (.iadd, 1) := by decide +kernel
theorem dL_law_342 : decode cL_law 342 = .ok (.iaload, 1) := by decide +kernel
theorem dL_law_343 : decode cL_law 343 = .ok (.aload_n 0, 1) := by decide +kernel
theorem dL_law_344 : decode cL_law 344 = .ok (.iload 4, 2) := by decide +kernel
theorem dL_law_346 : decode cL_law 346 = .ok (.iconst 2, 1) := by decide +kernel
theorem dL_law_347 : decode cL_law 347 = .ok (.iadd, 1) := by decide +kernel
theorem dL_law_348 : decode cL_law 348 = .ok (.iaload, 1) := by decide +kernel
theorem dL_law_349 : decode cL_law 349 = .ok (.ifCond .eq 7, 3) := by decide +kernel
theorem dL_law_352 : decode cL_law 352 = .ok (.iconst 1, 1) := by decide +kernel
theorem dL_law_353 : decode cL_law 353 = .ok (.goto 4, 3) := by decide +kernel
theorem dL_law_356 : decode cL_law 356 = .ok (.iconst 0, 1) := by decide +kernel
theorem dL_law_357 : decode cL_law 357 = .ok (.aload_n 3, 1) := by decide +kernel
theorem dL_law_358 : decode cL_law 358 = .ok (.invokestatic 87, 3) := by decide +kernel
theorem dL_law_361 : decode cL_law 361 = .ok (.istore 5, 2) := by decide +kernel
theorem dL_law_363 : decode cL_law 363 = .ok (.aload_n 2, 1) := by decide +kernel
theorem dL_law_364 : decode cL_law 364 = .ok (.aload_n 0, 1) := by decide +kernel
theorem dL_law_365 : decode cL_law 365 = .ok (.iload 4, 2) := by decide +kernel
theorem dL_law_367 : decode cL_law 367 = .ok (.iconst 1, 1) := by decide +kernel
theorem dL_law_368 : decode cL_law 368 = .ok (.iadd, 1) := by decide +kernel
theorem dL_law_369 : decode cL_law 369 = .ok (.iaload, 1) := by decide +kernel
theorem dL_law_370 : decode cL_law 370 = .ok (.aload_n 0, 1) := by decide +kernel
theorem dL_law_371 : decode cL_law 371 = .ok (.iload 4, 2) := by decide +kernel
theorem dL_law_373 : decode cL_law 373 = .ok (.iconst 2, 1) := by decide +kernel
theorem dL_law_374 : decode cL_law 374 = .ok (.iadd, 1) := by decide +kernel
theorem dL_law_375 : decode cL_law 375 = .ok (.iaload, 1) := by decide +kernel
theorem dL_law_376 : decode cL_law 376 = .ok (.ifCond .eq 7, 3) := by decide +kernel
theorem dL_law_379 : decode cL_law 379 = .ok (.iconst 1, 1) := by decide +kernel
theorem dL_law_380 : decode cL_law 380 = .ok (.goto 4, 3) := by decide +kernel
theorem dL_law_383 : decode cL_law 383 = .ok (.iconst 0, 1) := by decide +kernel
theorem dL_law_384 : decode cL_law 384 = .ok (.invokevirtual 90, 3) := by decide +kernel
theorem dL_law_387 : decode cL_law 387 = .ok (.istore 6, 2) := by decide +kernel
theorem dL_law_389 : decode cL_law 389 = .ok (.aload_n 2, 1) := by decide +kernel
theorem dL_law_390 : decode cL_law 390 = .ok (.invokevirtual 77, 3) := by decide +kernel
theorem dL_law_393 : decode cL_law 393 = .ok (.iload 5, 2) := by decide +kernel
theorem dL_law_395 : decode cL_law 395 = .ok (.if_icmp .eq 5, 3) := by decide +kernel
theorem dL_law_398 : decode cL_law 398 = .ok (.iconst 0, 1) := by decide +kernel
theorem dL_law_399 : decode cL_law 399 = .ok (.ireturn, 1) := by decide +kernel
theorem dL_law_400 : decode cL_law 400 = .ok (.iload 5, 2) := by decide +kernel
theorem dL_law_402 : decode cL_law 402 = .ok (.ifCond .ne 15, 3) := by decide +kernel
theorem dL_law_405 : decode cL_law 405 = .ok (.aload_n 3, 1) := by decide +kernel
theorem dL_law_406 : decode cL_law 406 = .ok (.iconst 0, 1) := by decide +kernel
theorem dL_law_407 : decode cL_law 407 = .ok (.laload, 1) := by decide +kernel
theorem dL_law_408 : decode cL_law 408 = .ok (.iload 6, 2) := by decide +kernel
theorem dL_law_410 : decode cL_law 410 = .ok (.i2l, 1) := by decide +kernel
theorem dL_law_411 : decode cL_law 411 = .ok (.lcmp, 1) := by decide +kernel
theorem dL_law_412 : decode cL_law 412 = .ok (.ifCond .eq 5, 3) := by decide +kernel
theorem dL_law_415 : decode cL_law 415 = .ok (.iconst 0, 1) := by decide +kernel
theorem dL_law_416 : decode cL_law 416 = .ok (.ireturn, 1) := by decide +kernel
theorem dL_law_417 : decode cL_law 417 = .ok (.goto 899, 3) := by decide +kernel
theorem dL_law_420 : decode cL_law 420 = .ok (.aload_n 1, 1) := by decide +kernel
theorem dL_law_421 : decode cL_law 421 = .ok (.aload_n 0, 1) := by decide +kernel
theorem dL_law_422 : decode cL_law 422 = .ok (.iload 4, 2) := by decide +kernel
theorem dL_law_424 : decode cL_law 424 = .ok (.iconst 1, 1) := by decide +kernel
theorem dL_law_425 : decode cL_law 425 = .ok (.iadd, 1) := by decide +kernel
theorem dL_law_426 : decode cL_law 426 = .ok (.iaload, 1) := by decide +kernel
theorem dL_law_427 : decode cL_law 427 = .ok (.ifCond .eq 7, 3) := by decide +kernel
theorem dL_law_430 : decode cL_law 430 = .ok (.iconst 1, 1) := by decide +kernel
theorem dL_law_431 : decode cL_law 431 = .ok (.goto 4, 3) := by decide +kernel
theorem dL_law_434 : decode cL_law 434 = .ok (.iconst 0, 1) := by decide +kernel
theorem dL_law_435 : decode cL_law 435 = .ok (.invokevirtual 91, 3) := by decide +kernel
theorem dL_law_438 : decode cL_law 438 = .ok (.aload_n 2, 1) := by decide +kernel
theorem dL_law_439 : decode cL_law 439 = .ok (.aload_n 0, 1) := by decide +kernel
theorem dL_law_440 : decode cL_law 440 = .ok (.iload 4, 2) := by decide +kernel
theorem dL_law_442 : decode cL_law 442 = .ok (.iconst 1, 1) := by decide +kernel
theorem dL_law_443 : decode cL_law 443 = .ok (.iadd, 1) := by decide +kernel
theorem dL_law_444 : decode cL_law 444 = .ok (.iaload, 1) := by decide +kernel
theorem dL_law_445 : decode cL_law 445 = .ok (.ifCond .eq 7, 3) := by decide +kernel
theorem dL_law_448 : decode cL_law 448 = .ok (.iconst 1, 1) := by decide +kernel
theorem dL_law_449 : decode cL_law 449 = .ok (.goto 4, 3) := by decide +kernel
theorem dL_law_452 : decode cL_law 452 = .ok (.iconst 0, 1) := by decide +kernel
theorem dL_law_453 : decode cL_law 453 = .ok (.invokevirtual 95, 3) := by decide +kernel
theorem dL_law_456 : decode cL_law 456 = .ok (.if_icmp .eq 860, 3) := by decide +kernel
theorem dL_law_459 : decode cL_law 459 = .ok (.iconst 0, 1) := by decide +kernel
theorem dL_law_460 : decode cL_law 460 = .ok (.ireturn, 1) := by decide +kernel
theorem dL_law_461 : decode cL_law 461 = .ok (.aload_n 1, 1) := by decide +kernel
theorem dL_law_462 : decode cL_law 462 = .ok (.aload_n 0, 1) := by decide +kernel
theorem dL_law_463 : decode cL_law 463 = .ok (.iload 4, 2) := by decide +kernel
theorem dL_law_465 : decode cL_law 465 = .ok (.iconst 1, 1) := by decide +kernel
theorem dL_law_466 : decode cL_law 466 = .ok (.iadd, 1) := by decide +kernel
theorem dL_law_467 : decode cL_law 467 = .ok (.iaload, 1) := by decide +kernel
theorem dL_law_468 : decode cL_law 468 = .ok (.ifCond .eq 7, 3) := by decide +kernel
theorem dL_law_471 : decode cL_law 471 = .ok (.iconst 1, 1) := by decide +kernel
theorem dL_law_472 : decode cL_law 472 = .ok (.goto 4, 3) := by decide +kernel
theorem dL_law_475 : decode cL_law 475 = .ok (.iconst 0, 1) := by decide +kernel
theorem dL_law_476 : decode cL_law 476 = .ok (.invokevirtual 96, 3) := by decide +kernel
theorem dL_law_479 : decode cL_law 479 = .ok (.aload_n 2, 1) := by decide +kernel
theorem dL_law_480 : decode cL_law 480 = .ok (.aload_n 0, 1) := by decide +kernel
theorem dL_law_481 : decode cL_law 481 = .ok (.iload 4, 2) := by decide +kernel
theorem dL_law_483 : decode cL_law 483 = .ok (.iconst 1, 1) := by decide +kernel
theorem dL_law_484 : decode cL_law 484 = .ok (.iadd, 1) := by decide +kernel
theorem dL_law_485 : decode cL_law 485 = .ok (.iaload, 1) := by decide +kernel
theorem dL_law_486 : decode cL_law 486 = .ok (.ifCond .eq 7, 3) := by decide +kernel
theorem dL_law_489 : decode cL_law 489 = .ok (.iconst 1, 1) := by decide +kernel
theorem dL_law_490 : decode cL_law 490 = .ok (.goto 4, 3) := by decide +kernel
theorem dL_law_493 : decode cL_law 493 = .ok (.iconst 0, 1) := by decide +kernel
theorem dL_law_494 : decode cL_law 494 = .ok (.invokevirtual 99, 3) := by decide +kernel
theorem dL_law_497 : decode cL_law 497 = .ok (.if_icmp .eq 819, 3) := by decide +kernel
theorem dL_law_500 : decode cL_law 500 = .ok (.iconst 0, 1) := by decide +kernel
theorem dL_law_501 : decode cL_law 501 = .ok (.ireturn, 1) := by decide +kernel
theorem dL_law_502 : decode cL_law 502 = .ok (.aload_n 1, 1) := by decide +kernel
theorem dL_law_503 : decode cL_law 503 = .ok (.aload_n 0, 1) := by decide +kernel
theorem dL_law_504 : decode cL_law 504 = .ok (.iload 4, 2) := by decide +kernel
theorem dL_law_506 : decode cL_law 506 = .ok (.iconst 1, 1) := by decide +kernel
theorem dL_law_507 : decode cL_law 507 = .ok (.iadd, 1) := by decide +kernel
theorem dL_law_508 : decode cL_law 508 = .ok (.iaload, 1) := by decide +kernel
theorem dL_law_509 : decode cL_law 509 = .ok (.aload_n 0, 1) := by decide +kernel
theorem dL_law_510 : decode cL_law 510 = .ok (.iload 4, 2) := by decide +kernel
theorem dL_law_512 : decode cL_law 512 = .ok (.iconst 2, 1) := by decide +kernel
theorem dL_law_513 : decode cL_law 513 = .ok (.iadd, 1) := by decide +kernel
theorem dL_law_514 : decode cL_law 514 = .ok (.iaload, 1) := by decide +kernel
theorem dL_law_515 : decode cL_law 515 = .ok (.aload_n 3, 1) := by decide +kernel
theorem dL_law_516 : decode cL_law 516 = .ok (.invokestatic 100, 3) := by decide +kernel
theorem dL_law_519 : decode cL_law 519 = .ok (.istore 5, 2) := by decide +kernel
theorem dL_law_521 : decode cL_law 521 = .ok (.aload_n 2, 1) := by decide +kernel
theorem dL_law_522 : decode cL_law 522 = .ok (.aload_n 0, 1) := by decide +kernel
theorem dL_law_523 : decode cL_law 523 = .ok (.iload 4, 2) := by decide +kernel
theorem dL_law_525 : decode cL_law 525 = .ok (.iconst 1, 1) := by decide +kernel
theorem dL_law_526 : decode cL_law 526 = .ok (.iadd, 1) := by decide +kernel
theorem dL_law_527 : decode cL_law 527 = .ok (.iaload, 1) := by decide +kernel
theorem dL_law_528 : decode cL_law 528 = .ok (.aload_n 0, 1) := by decide +kernel
theorem dL_law_529 : decode cL_law 529 = .ok (.iload 4, 2) := by decide +kernel
theorem dL_law_531 : decode cL_law 531 = .ok (.iconst 2, 1) := by decide +kernel
theorem dL_law_532 : decode cL_law 532 = .ok (.iadd, 1) := by decide +kernel
theorem dL_law_533 : decode cL_law 533 = .ok (.iaload, 1) := by decide +kernel
theorem dL_law_534 : decode cL_law 534 = .ok (.invokevirtual 102, 3) := by decide +kernel
theorem dL_law_537 : decode cL_law 537 = .ok (.istore 6, 2) := by decide +kernel
theorem dL_law_539 : decode cL_law 539 = .ok (.aload_n 2, 1) := by decide +kernel
theorem dL_law_540 : decode cL_law 540 = .ok (.invokevirtual 77, 3) := by decide +kernel
theorem dL_law_543 : decode cL_law 543 = .ok (.iload 5, 2) := by decide +kernel
theorem dL_law_545 : decode cL_law 545 = .ok (.if_icmp .eq 5, 3) := by decide +kernel
theorem dL_law_548 : decode cL_law 548 = .ok (.iconst 0, 1) := by decide +kernel
theorem dL_law_549 : decode cL_law 549 = .ok (.ireturn, 1) := by decide +kernel
theorem dL_law_550 : decode cL_law 550 = .ok (.iload 5, 2) := by decide +kernel
theorem dL_law_552 : decode cL_law 552 = .ok (.ifCond .ne 15, 3) := by decide +kernel
theorem dL_law_555 : decode cL_law 555 = .ok (.aload_n 3, 1) := by decide +kernel
theorem dL_law_556 : decode cL_law 556 = .ok (.iconst 0, 1) := by decide +kernel
theorem dL_law_557 : decode cL_law 557 = .ok (.laload, 1) := by decide +kernel
theorem dL_law_558 : decode cL_law 558 = .ok (.iload 6, 2) := by decide +kernel
theorem dL_law_560 : decode cL_law 560 = .ok (.i2l, 1) := by decide +kernel
theorem dL_law_561 : decode cL_law 561 = .ok (.lcmp, 1) := by decide +kernel
theorem dL_law_562 : decode cL_law 562 = .ok (.ifCond .eq 5, 3) := by decide +kernel
theorem dL_law_565 : decode cL_law 565 = .ok (.iconst 0, 1) := by decide +kernel
theorem dL_law_566 : decode cL_law 566 = .ok (.ireturn, 1) := by decide +kernel
theorem dL_law_567 : decode cL_law 567 = .ok (.goto 749, 3) := by decide +kernel
theorem dL_law_570 : decode cL_law 570 = .ok (.aload_n 1, 1) := by decide +kernel
theorem dL_law_571 : decode cL_law 571 = .ok (.aload_n 0, 1) := by decide +kernel
theorem dL_law_572 : decode cL_law 572 = .ok (.iload 4, 2) := by decide +kernel
theorem dL_law_574 : decode cL_law 574 = .ok (.iconst 1, 1) := by decide +kernel
theorem dL_law_575 : decode cL_law 575 = .ok (.iadd, 1) := by decide +kernel
theorem dL_law_576 : decode cL_law 576 = .ok (.iaload, 1) := by decide +kernel
theorem dL_law_577 : decode cL_law 577 = .ok (.aload_n 3, 1) := by decide +kernel
theorem dL_law_578 : decode cL_law 578 = .ok (.invokestatic 103, 3) := by decide +kernel
theorem dL_law_581 : decode cL_law 581 = .ok (.istore 5, 2) := by decide +kernel
theorem dL_law_583 : decode cL_law 583 = .ok (.aload_n 2, 1) := by decide +kernel
theorem dL_law_584 : decode cL_law 584 = .ok (.aload_n 0, 1) := by decide +kernel
theorem dL_law_585 : decode cL_law 585 = .ok (.iload 4, 2) := by decide +kernel
theorem dL_law_587 : decode cL_law 587 = .ok (.iconst 1, 1) := by decide +kernel
theorem dL_law_588 : decode cL_law 588 = .ok (.iadd, 1) := by decide +kernel
theorem dL_law_589 : decode cL_law 589 = .ok (.iaload, 1) := by decide +kernel
theorem dL_law_590 : decode cL_law 590 = .ok (.invokevirtual 105, 3) := by decide +kernel
theorem dL_law_593 : decode cL_law 593 = .ok (.istore 6, 2) := by decide +kernel
theorem dL_law_595 : decode cL_law 595 = .ok (.aload_n 2, 1) := by decide +kernel
theorem dL_law_596 : decode cL_law 596 = .ok (.invokevirtual 77, 3) := by decide +kernel
theorem dL_law_599 : decode cL_law 599 = .ok (.iload 5, 2) := by decide +kernel
theorem dL_law_601 : decode cL_law 601 = .ok (.if_icmp .eq 5, 3) := by decide +kernel
theorem dL_law_604 : decode cL_law 604 = .ok (.iconst 0, 1) := by decide +kernel
theorem dL_law_605 : decode cL_law 605 = .ok (.ireturn, 1) := by decide +kernel
theorem dL_law_606 : decode cL_law 606 = .ok (.iload 5, 2) := by decide +kernel
theorem dL_law_608 : decode cL_law 608 = .ok (.ifCond .ne 15, 3) := by decide +kernel
theorem dL_law_611 : decode cL_law 611 = .ok (.aload_n 3, 1) := by decide +kernel
theorem dL_law_612 : decode cL_law 612 = .ok (.iconst 0, 1) := by decide +kernel
theorem dL_law_613 : decode cL_law 613 = .ok (.laload, 1) := by decide +kernel
theorem dL_law_614 : decode cL_law 614 = .ok (.iload 6, 2) := by decide +kernel
theorem dL_law_616 : decode cL_law 616 = .ok (.i2l, 1) := by decide +kernel
theorem dL_law_617 : decode cL_law 617 = .ok (.lcmp, 1) := by decide +kernel
theorem dL_law_618 : decode cL_law 618 = .ok (.ifCond .eq 5, 3) := by decide +kernel
theorem dL_law_621 : decode cL_law 621 = .ok (.iconst 0, 1) := by decide +kernel
theorem dL_law_622 : decode cL_law 622 = .ok (.ireturn, 1) := by decide +kernel
theorem dL_law_623 : decode cL_law 623 = .ok (.goto 693, 3) := by decide +kernel
theorem dL_law_626 : decode cL_law 626 = .ok (.aload_n 1, 1) := by decide +kernel
theorem dL_law_627 : decode cL_law 627 = .ok (.aload_n 0, 1) := by decide +kernel
theorem dL_law_628 : decode cL_law 628 = .ok (.iload 4, 2) := by decide +kernel
theorem dL_law_630 : decode cL_law 630 = .ok (.iconst 1, 1) := by decide +kernel
theorem dL_law_631 : decode cL_law 631 = .ok (.iadd, 1) := by decide +kernel
theorem dL_law_632 : decode cL_law 632 = .ok (.iaload, 1) := by decide +kernel
theorem dL_law_633 : decode cL_law 633 = .ok (.aload_n 3, 1) := by decide +kernel
theorem dL_law_634 : decode cL_law 634 = .ok (.invokestatic 106, 3) := by decide +kernel
theorem dL_law_637 : decode cL_law 637 = .ok (.istore 5, 2) := by decide +kernel
theorem dL_law_639 : decode cL_law 639 = .ok (.aload_n 2, 1) := by decide +kernel
theorem dL_law_640 : decode cL_law 640 = .ok (.aload_n 0, 1) := by decide +kernel
theorem dL_law_641 : decode cL_law 641 = .ok (.iload 4, 2) := by decide +kernel
theorem dL_law_643 : decode cL_law 643 = .ok (.iconst 1, 1) := by decide +kernel
theorem dL_law_644 : decode cL_law 644 = .ok (.iadd, 1) := by decide +kernel
theorem dL_law_645 : decode cL_law 645 = .ok (.iaload, 1) := by decide +kernel
theorem dL_law_646 : decode cL_law 646 = .ok (.invokevirtual 108, 3) := by decide +kernel
theorem dL_law_649 : decode cL_law 649 = .ok (.istore 6, 2) := by decide +kernel
theorem dL_law_651 : decode cL_law 651 = .ok (.aload_n 2, 1) := by decide +kernel
theorem dL_law_652 : decode cL_law 652 = .ok (.invokevirtual 77, 3) := by decide +kernel
theorem dL_law_655 : decode cL_law 655 = .ok (.iload 5, 2) := by decide +kernel
theorem dL_law_657 : decode cL_law 657 = .ok (.if_icmp .eq 5, 3) := by decide +kernel
theorem dL_law_660 : decode cL_law 660 = .ok (.iconst 0, 1) := by decide +kernel
theorem dL_law_661 : decode cL_law 661 = .ok (.ireturn, 1) := by decide +kernel
theorem dL_law_662 : decode cL_law 662 = .ok (.iload 5, 2) := by decide +kernel
theorem dL_law_664 : decode cL_law 664 = .ok (.ifCond .ne 15, 3) := by decide +kernel
theorem dL_law_667 : decode cL_law 667 = .ok (.aload_n 3, 1) := by decide +kernel
theorem dL_law_668 : decode cL_law 668 = .ok (.iconst 0, 1) := by decide +kernel
theorem dL_law_669 : decode cL_law 669 = .ok (.laload, 1) := by decide +kernel
theorem dL_law_670 : decode cL_law 670 = .ok (.iload 6, 2) := by decide +kernel
theorem dL_law_672 : decode cL_law 672 = .ok (.i2l, 1) := by decide +kernel
theorem dL_law_673 : decode cL_law 673 = .ok (.lcmp, 1) := by decide +kernel
theorem dL_law_674 : decode cL_law 674 = .ok (.ifCond .eq 5, 3) := by decide +kernel
theorem dL_law_677 : decode cL_law 677 = .ok (.iconst 0, 1) := by decide +kernel
theorem dL_law_678 : decode cL_law 678 = .ok (.ireturn, 1) := by decide +kernel
theorem dL_law_679 : decode cL_law 679 = .ok (.goto 637, 3) := by decide +kernel
theorem dL_law_682 : decode cL_law 682 = .ok (.aload_n 1, 1) := by decide +kernel
theorem dL_law_683 : decode cL_law 683 = .ok (.invokevirtual 109, 3) := by decide +kernel
theorem dL_law_686 : decode cL_law 686 = .ok (.aload_n 2, 1) := by decide +kernel
theorem dL_law_687 : decode cL_law 687 = .ok (.invokevirtual 112, 3) := by decide +kernel
theorem dL_law_690 : decode cL_law 690 = .ok (.if_icmp .eq 626, 3) := by decide +kernel
theorem dL_law_693 : decode cL_law 693 = .ok (.iconst 0, 1) := by decide +kernel
theorem dL_law_694 : decode cL_law 694 = .ok (.ireturn, 1) := by decide +kernel
theorem dL_law_695 : decode cL_law 695 = .ok (.aload_n 1, 1) := by decide +kernel
theorem dL_law_696 : decode cL_law 696 = .ok (.invokevirtual 113, 3) := by decide +kernel
theorem dL_law_699 : decode cL_law 699 = .ok (.aload_n 2, 1) := by decide +kernel
theorem dL_law_700 : decode cL_law 700 = .ok (.invokevirtual 116, 3) := by decide +kernel
theorem dL_law_703 : decode cL_law 703 = .ok (.if_icmp .eq 613, 3) := by decide +kernel
theorem dL_law_706 : decode cL_law 706 = .ok (.iconst 0, 1) := by decide +kernel
theorem dL_law_707 : decode cL_law 707 = .ok (.ireturn, 1) := by decide +kernel
theorem dL_law_708 : decode cL_law 708 = .ok (.aload_n 1, 1) := by decide +kernel
theorem dL_law_709 : decode cL_law 709 = .ok (.aload_n 3, 1) := by decide +kernel
theorem dL_law_710 : decode cL_law 710 = .ok (.invokestatic 117, 3) := by decide +kernel
theorem dL_law_713 : decode cL_law 713 = .ok (.istore 5, 2) := by decide +kernel
theorem dL_law_715 : decode cL_law 715 = .ok (.aload_n 2, 1) := by decide +kernel
theorem dL_law_716 : decode cL_law 716 = .ok (.invokevirtual 120, 3) := by decide +kernel
theorem dL_law_719 : decode cL_law 719 = .ok (.istore 6, 2) := by decide +kernel
theorem dL_law_721 : decode cL_law 721 = .ok (.aload_n 2, 1) := by decide +kernel
theorem dL_law_722 : decode cL_law 722 = .ok (.invokevirtual 77, 3) := by decide +kernel
theorem dL_law_725 : decode cL_law 725 = .ok (.iload 5, 2) := by decide +kernel
theorem dL_law_727 : decode cL_law 727 = .ok (.if_icmp .eq 5, 3) := by decide +kernel
theorem dL_law_730 : decode cL_law 730 = .ok (.iconst 0, 1) := by decide +kernel
theorem dL_law_731 : decode cL_law 731 = .ok (.ireturn, 1) := by decide +kernel
theorem dL_law_732 : decode cL_law 732 = .ok (.iload 5, 2) := by decide +kernel
theorem dL_law_734 : decode cL_law 734 = .ok (.ifCond .ne 15, 3) := by decide +kernel
theorem dL_law_737 : decode cL_law 737 = .ok (.aload_n 3, 1) := by decide +kernel
theorem dL_law_738 : decode cL_law 738 = .ok (.iconst 0, 1) := by decide +kernel
theorem dL_law_739 : decode cL_law 739 = .ok (.laload, 1) := by decide +kernel
theorem dL_law_740 : decode cL_law 740 = .ok (.iload 6, 2) := by decide +kernel
theorem dL_law_742 : decode cL_law 742 = .ok (.i2l, 1) := by decide +kernel
theorem dL_law_743 : decode cL_law 743 = .ok (.lcmp, 1) := by decide +kernel
theorem dL_law_744 : decode cL_law 744 = .ok (.ifCond .eq 5, 3) := by decide +kernel
theorem dL_law_747 : decode cL_law 747 = .ok (.iconst 0, 1) := by decide +kernel
theorem dL_law_748 : decode cL_law 748 = .ok (.ireturn, 1) := by decide +kernel
theorem dL_law_749 : decode cL_law 749 = .ok (.goto 567, 3) := by decide +kernel
theorem dL_law_752 : decode cL_law 752 = .ok (.aload_n 1, 1) := by decide +kernel
theorem dL_law_753 : decode cL_law 753 = .ok (.aload_n 3, 1) := by decide +kernel
theorem dL_law_754 : decode cL_law 754 = .ok (.invokestatic 121, 3) := by decide +kernel
theorem dL_law_757 : decode cL_law 757 = .ok (.istore 5, 2) := by decide +kernel
theorem dL_law_759 : decode cL_law 759 = .ok (.aload_n 2, 1) := by decide +kernel
theorem dL_law_760 : decode cL_law 760 = .ok (.invokevirtual 123, 3) := by decide +kernel
theorem dL_law_763 : decode cL_law 763 = .ok (.istore 6, 2) := by decide +kernel
theorem dL_law_765 : decode cL_law 765 = .ok (.aload_n 2, 1) := by decide +kernel
theorem dL_law_766 : decode cL_law 766 = .ok (.invokevirtual 77, 3) := by decide +kernel
theorem dL_law_769 : decode cL_law 769 = .ok (.iload 5, 2) := by decide +kernel
theorem dL_law_771 : decode cL_law 771 = .ok (.if_icmp .eq 5, 3) := by decide +kernel
theorem dL_law_774 : decode cL_law 774 = .ok (.iconst 0, 1) := by decide +kernel
theorem dL_law_775 : decode cL_law 775 = .ok (.ireturn, 1) := by decide +kernel
theorem dL_law_776 : decode cL_law 776 = .ok (.iload 5, 2) := by decide +kernel
theorem dL_law_778 : decode cL_law 778 = .ok (.ifCond .ne 15, 3) := by decide +kernel
theorem dL_law_781 : decode cL_law 781 = .ok (.aload_n 3, 1) := by decide +kernel
theorem dL_law_782 : decode cL_law 782 = .ok (.iconst 0, 1) := by decide +kernel
theorem dL_law_783 : decode cL_law 783 = .ok (.laload, 1) := by decide +kernel
theorem dL_law_784 : decode cL_law 784 = .ok (.iload 6, 2) := by decide +kernel
theorem dL_law_786 : decode cL_law 786 = .ok (.i2l, 1) := by decide +kernel
theorem dL_law_787 : decode cL_law 787 = .ok (.lcmp, 1) := by decide +kernel
theorem dL_law_788 : decode cL_law 788 = .ok (.ifCond .eq 5, 3) := by decide +kernel
theorem dL_law_791 : decode cL_law 791 = .ok (.iconst 0, 1) := by decide +kernel
theorem dL_law_792 : decode cL_law 792 = .ok (.ireturn, 1) := by decide +kernel
theorem dL_law_793 : decode cL_law 793 = .ok (.goto 523, 3) := by decide +kernel
theorem dL_law_796 : decode cL_law 796 = .ok (.aload_n 1, 1) := by decide +kernel
theorem dL_law_797 : decode cL_law 797 = .ok (.aload_n 0, 1) := by decide +kernel
theorem dL_law_798 : decode cL_law 798 = .ok (.iload 4, 2) := by decide +kernel
theorem dL_law_800 : decode cL_law 800 = .ok (.iconst 1, 1) := by decide +kernel
theorem dL_law_801 : decode cL_law 801 = .ok (.iadd, 1) := by decide +kernel
theorem dL_law_802 : decode cL_law 802 = .ok (.iaload, 1) := by decide +kernel
theorem dL_law_803 : decode cL_law 803 = .ok (.aload_n 0, 1) := by decide +kernel
theorem dL_law_804 : decode cL_law 804 = .ok (.iload 4, 2) := by decide +kernel
theorem dL_law_806 : decode cL_law 806 = .ok (.iconst 2, 1) := by decide +kernel
theorem dL_law_807 : decode cL_law 807 = .ok (.iadd, 1) := by decide +kernel
theorem dL_law_808 : decode cL_law 808 = .ok (.iaload, 1) := by decide +kernel
theorem dL_law_809 : decode cL_law 809 = .ok (.aload_n 3, 1) := by decide +kernel
theorem dL_law_810 : decode cL_law 810 = .ok (.invokestatic 124, 3) := by decide +kernel
theorem dL_law_813 : decode cL_law 813 = .ok (.istore 5, 2) := by decide +kernel
theorem dL_law_815 : decode cL_law 815 = .ok (.aload_n 2, 1) := by decide +kernel
theorem dL_law_816 : decode cL_law 816 = .ok (.aload_n 0, 1) := by decide +kernel
theorem dL_law_817 : decode cL_law 817 = .ok (.iload 4, 2) := by decide +kernel
theorem dL_law_819 : decode cL_law 819 = .ok (.iconst 1, 1) := by decide +kernel
theorem dL_law_820 : decode cL_law 820 = .ok (.iadd, 1) := by decide +kernel
theorem dL_law_821 : decode cL_law 821 = .ok (.iaload, 1) := by decide +kernel
theorem dL_law_822 : decode cL_law 822 = .ok (.aload_n 0, 1) := by decide +kernel
theorem dL_law_823 : decode cL_law 823 = .ok (.iload 4, 2) := by decide +kernel
theorem dL_law_825 : decode cL_law 825 = .ok (.iconst 2, 1) := by decide +kernel
theorem dL_law_826 : decode cL_law 826 = .ok (.iadd, 1) := by decide +kernel
theorem dL_law_827 : decode cL_law 827 = .ok (.iaload, 1) := by decide +kernel
theorem dL_law_828 : decode cL_law 828 = .ok (.invokevirtual 126, 3) := by decide +kernel
theorem dL_law_831 : decode cL_law 831 = .ok (.istore 6, 2) := by decide +kernel
theorem dL_law_833 : decode cL_law 833 = .ok (.aload_n 2, 1) := by decide +kernel
theorem dL_law_834 : decode cL_law 834 = .ok (.invokevirtual 77, 3) := by decide +kernel
theorem dL_law_837 : decode cL_law 837 = .ok (.iload 5, 2) := by decide +kernel
theorem dL_law_839 : decode cL_law 839 = .ok (.if_icmp .eq 5, 3) := by decide +kernel
theorem dL_law_842 : decode cL_law 842 = .ok (.iconst 0, 1) := by decide +kernel
theorem dL_law_843 : decode cL_law 843 = .ok (.ireturn, 1) := by decide +kernel
theorem dL_law_844 : decode cL_law 844 = .ok (.iload 5, 2) := by decide +kernel
theorem dL_law_846 : decode cL_law 846 = .ok (.ifCond .ne 15, 3) := by decide +kernel
theorem dL_law_849 : decode cL_law 849 = .ok (.aload_n 3, 1) := by decide +kernel
theorem dL_law_850 : decode cL_law 850 = .ok (.iconst 0, 1) := by decide +kernel
theorem dL_law_851 : decode cL_law 851 = .ok (.laload, 1) := by decide +kernel
theorem dL_law_852 : decode cL_law 852 = .ok (.iload 6, 2) := by decide +kernel
theorem dL_law_854 : decode cL_law 854 = .ok (.i2l, 1) := by decide +kernel
theorem dL_law_855 : decode cL_law 855 = .ok (.lcmp, 1) := by decide +kernel
theorem dL_law_856 : decode cL_law 856 = .ok (.ifCond .eq 5, 3) := by decide +kernel
theorem dL_law_859 : decode cL_law 859 = .ok (.iconst 0, 1) := by decide +kernel
theorem dL_law_860 : decode cL_law 860 = .ok (.ireturn, 1) := by decide +kernel
theorem dL_law_861 : decode cL_law 861 = .ok (.goto 455, 3) := by decide +kernel
theorem dL_law_864 : decode cL_law 864 = .ok (.aload_n 1, 1) := by decide +kernel
theorem dL_law_865 : decode cL_law 865 = .ok (.aload_n 0, 1) := by decide +kernel
theorem dL_law_866 : decode cL_law 866 = .ok (.iload 4, 2) := by decide +kernel
theorem dL_law_868 : decode cL_law 868 = .ok (.iconst 1, 1) := by decide +kernel
theorem dL_law_869 : decode cL_law 869 = .ok (.iadd, 1) := by decide +kernel
theorem dL_law_870 : decode cL_law 870 = .ok (.iaload, 1) := by decide +kernel
theorem dL_law_871 : decode cL_law 871 = .ok (.aload_n 0, 1) := by decide +kernel
theorem dL_law_872 : decode cL_law 872 = .ok (.iload 4, 2) := by decide +kernel
theorem dL_law_874 : decode cL_law 874 = .ok (.iconst 2, 1) := by decide +kernel
theorem dL_law_875 : decode cL_law 875 = .ok (.iadd, 1) := by decide +kernel
theorem dL_law_876 : decode cL_law 876 = .ok (.iaload, 1) := by decide +kernel
theorem dL_law_877 : decode cL_law 877 = .ok (.aload_n 3, 1) := by decide +kernel
theorem dL_law_878 : decode cL_law 878 = .ok (.invokestatic 127, 3) := by decide +kernel
theorem dL_law_881 : decode cL_law 881 = .ok (.istore 5, 2) := by decide +kernel
theorem dL_law_883 : decode cL_law 883 = .ok (.aload_n 2, 1) := by decide +kernel
theorem dL_law_884 : decode cL_law 884 = .ok (.aload_n 0, 1) := by decide +kernel
theorem dL_law_885 : decode cL_law 885 = .ok (.iload 4, 2) := by decide +kernel
theorem dL_law_887 : decode cL_law 887 = .ok (.iconst 1, 1) := by decide +kernel
theorem dL_law_888 : decode cL_law 888 = .ok (.iadd, 1) := by decide +kernel
theorem dL_law_889 : decode cL_law 889 = .ok (.iaload, 1) := by decide +kernel
theorem dL_law_890 : decode cL_law 890 = .ok (.aload_n 0, 1) := by decide +kernel
theorem dL_law_891 : decode cL_law 891 = .ok (.iload 4, 2) := by decide +kernel
theorem dL_law_893 : decode cL_law 893 = .ok (.iconst 2, 1) := by decide +kernel
theorem dL_law_894 : decode cL_law 894 = .ok (.iadd, 1) := by decide +kernel
theorem dL_law_895 : decode cL_law 895 = .ok (.iaload, 1) := by decide +kernel
theorem dL_law_896 : decode cL_law 896 = .ok (.invokevirtual 129, 3) := by decide +kernel
theorem dL_law_899 : decode cL_law 899 = .ok (.istore 6, 2) := by decide +kernel
theorem dL_law_901 : decode cL_law 901 = .ok (.aload_n 2, 1) := by decide +kernel
theorem dL_law_902 : decode cL_law 902 = .ok (.invokevirtual 77, 3) := by decide +kernel
theorem dL_law_905 : decode cL_law 905 = .ok (.iload 5, 2) := by decide +kernel
theorem dL_law_907 : decode cL_law 907 = .ok (.if_icmp .eq 5, 3) := by decide +kernel
theorem dL_law_910 : decode cL_law 910 = .ok (.iconst 0, 1) := by decide +kernel
theorem dL_law_911 : decode cL_law 911 = .ok (.ireturn, 1) := by decide +kernel
theorem dL_law_912 : decode cL_law 912 = .ok (.iload 5, 2) := by decide +kernel
theorem dL_law_914 : decode cL_law 914 = .ok (.ifCond .ne 15, 3) := by decide +kernel
theorem dL_law_917 : decode cL_law 917 = .ok (.aload_n 3, 1) := by decide +kernel
theorem dL_law_918 : decode cL_law 918 = .ok (.iconst 0, 1) := by decide +kernel
theorem dL_law_919 : decode cL_law 919 = .ok (.laload, 1) := by decide +kernel
theorem dL_law_920 : decode cL_law 920 = .ok (.iload 6, 2) := by decide +kernel
theorem dL_law_922 : decode cL_law 922 = .ok (.i2l, 1) := by decide +kernel
theorem dL_law_923 : decode cL_law 923 = .ok (.lcmp, 1) := by decide +kernel
theorem dL_law_924 : decode cL_law 924 = .ok (.ifCond .eq 5, 3) := by decide +kernel
theorem dL_law_927 : decode cL_law 927 = .ok (.iconst 0, 1) := by decide +kernel
theorem dL_law_928 : decode cL_law 928 = .ok (.ireturn, 1) := by decide +kernel
theorem dL_law_929 : decode cL_law 929 = .ok (.goto 387, 3) := by decide +kernel
theorem dL_law_932 : decode cL_law 932 = .ok (.aload_n 1, 1) := by decide +kernel
theorem dL_law_933 : decode cL_law 933 = .ok (.aload_n 0, 1) := by decide +kernel
theorem dL_law_934 : decode cL_law 934 = .ok (.iload 4, 2) := by decide +kernel
theorem dL_law_936 : decode cL_law 936 = .ok (.iconst 1, 1) := by decide +kernel
theorem dL_law_937 : decode cL_law 937 = .ok (.iadd, 1) := by decide +kernel
theorem dL_law_938 : decode cL_law 938 = .ok (.iaload, 1) := by decide +kernel
theorem dL_law_939 : decode cL_law 939 = .ok (.aload_n 3, 1) := by decide +kernel
theorem dL_law_940 : decode cL_law 940 = .ok (.invokestatic 130, 3) := by decide +kernel
theorem dL_law_943 : decode cL_law 943 = .ok (.istore 5, 2) := by decide +kernel
theorem dL_law_945 : decode cL_law 945 = .ok (.aload_n 2, 1) := by decide +kernel
theorem dL_law_946 : decode cL_law 946 = .ok (.aload_n 0, 1) := by decide +kernel
theorem dL_law_947 : decode cL_law 947 = .ok (.iload 4, 2) := by decide +kernel
theorem dL_law_949 : decode cL_law 949 = .ok (.iconst 1, 1) := by decide +kernel
theorem dL_law_950 : decode cL_law 950 = .ok (.iadd, 1) := by decide +kernel
theorem dL_law_951 : decode cL_law 951 = .ok (.iaload, 1) := by decide +kernel
theorem dL_law_952 : decode cL_law 952 = .ok (.invokevirtual 132, 3) := by decide +kernel
theorem dL_law_955 : decode cL_law 955 = .ok (.istore 6, 2) := by decide +kernel
theorem dL_law_957 : decode cL_law 957 = .ok (.aload_n 2, 1) := by decide +kernel
theorem dL_law_958 : decode cL_law 958 = .ok (.invokevirtual 77, 3) := by decide +kernel
theorem dL_law_961 : decode cL_law 961 = .ok (.iload 5, 2) := by decide +kernel
theorem dL_law_963 : decode cL_law 963 = .ok (.if_icmp .eq 5, 3) := by decide +kernel
theorem dL_law_966 : decode cL_law 966 = .ok (.iconst 0, 1) := by decide +kernel
theorem dL_law_967 : decode cL_law 967 = .ok (.ireturn, 1) := by decide +kernel
theorem dL_law_968 : decode cL_law 968 = .ok (.iload 5, 2) := by decide +kernel
theorem dL_law_970 : decode cL_law 970 = .ok (.ifCond .ne 15, 3) := by decide +kernel
theorem dL_law_973 : decode cL_law 973 = .ok (.aload_n 3, 1) := by decide +kernel
theorem dL_law_974 : decode cL_law 974 = .ok (.iconst 0, 1) := by decide +kernel
theorem dL_law_975 : decode cL_law 975 = .ok (.laload, 1) := by decide +kernel
theorem dL_law_976 : decode cL_law 976 = .ok (.iload 6, 2) := by decide +kernel
theorem dL_law_978 : decode cL_law 978 = .ok (.i2l, 1) := by decide +kernel
theorem dL_law_979 : decode cL_law 979 = .ok (.lcmp, 1) := by decide +kernel
theorem dL_law_980 : decode cL_law 980 = .ok (.ifCond .eq 5, 3) := by decide +kernel
theorem dL_law_983 : decode cL_law 983 = .ok (.iconst 0, 1) := by decide +kernel
theorem dL_law_984 : decode cL_law 984 = .ok (.ireturn, 1) := by decide +kernel
theorem dL_law_985 : decode cL_law 985 = .ok (.goto 331, 3) := by decide +kernel
theorem dL_law_988 : decode cL_law 988 = .ok (.aload_n 1, 1) := by decide +kernel
theorem dL_law_989 : decode cL_law 989 = .ok (.aload_n 0, 1) := by decide +kernel
theorem dL_law_990 : decode cL_law 990 = .ok (.iload 4, 2) := by decide +kernel
theorem dL_law_992 : decode cL_law 992 = .ok (.iconst 1, 1) := by decide +kernel
theorem dL_law_993 : decode cL_law 993 = .ok (.iadd, 1) := by decide +kernel
theorem dL_law_994 : decode cL_law 994 = .ok (.iaload, 1) := by decide +kernel
theorem dL_law_995 : decode cL_law 995 = .ok (.aload_n 3, 1) := by decide +kernel
theorem dL_law_996 : decode cL_law 996 = .ok (.invokestatic 133, 3) := by decide +kernel
theorem dL_law_999 : decode cL_law 999 = .ok (.istore 5, 2) := by decide +kernel
theorem dL_law_1001 : decode cL_law 1001 = .ok (.aload_n 2, 1) := by decide +kernel
theorem dL_law_1002 : decode cL_law 1002 = .ok (.aload_n 0, 1) := by decide +kernel
theorem dL_law_1003 : decode cL_law 1003 = .ok (.iload 4, 2) := by decide +kernel
theorem dL_law_1005 : decode cL_law 1005 = .ok (.iconst 1, 1) := by decide +kernel
theorem dL_law_1006 : decode cL_law 1006 = .ok (.iadd, 1) := by decide +kernel
theorem dL_law_1007 : decode cL_law 1007 = .ok (.iaload, 1) := by decide +kernel
theorem dL_law_1008 : decode cL_law 1008 = .ok (.invokevirtual 135, 3) := by decide +kernel
theorem dL_law_1011 : decode cL_law 1011 = .ok (.istore 6, 2) := by decide +kernel
theorem dL_law_1013 : decode cL_law 1013 = .ok (.aload_n 2, 1) := by decide +kernel
theorem dL_law_1014 : decode cL_law 1014 = .ok (.invokevirtual 77, 3) := by decide +kernel
theorem dL_law_1017 : decode cL_law 1017 = .ok (.iload 5, 2) := by decide +kernel
theorem dL_law_1019 : decode cL_law 1019 = .ok (.if_icmp .eq 5, 3) := by decide +kernel
theorem dL_law_1022 : decode cL_law 1022 = .ok (.iconst 0, 1) := by decide +kernel
theorem dL_law_1023 : decode cL_law 1023 = .ok (.ireturn, 1) := by decide +kernel
theorem dL_law_1024 : decode cL_law 1024 = .ok (.iload 5, 2) := by decide +kernel
theorem dL_law_1026 : decode cL_law 1026 = .ok (.ifCond .ne 15, 3) := by decide +kernel
theorem dL_law_1029 : decode cL_law 1029 = .ok (.aload_n 3, 1) := by decide +kernel
theorem dL_law_1030 : decode cL_law 1030 = .ok (.iconst 0, 1) := by decide +kernel
theorem dL_law_1031 : decode cL_law 1031 = .ok (.laload, 1) := by decide +kernel
theorem dL_law_1032 : decode cL_law 1032 = .ok (.iload 6, 2) := by decide +kernel
theorem dL_law_1034 : decode cL_law 1034 = .ok (.i2l, 1) := by decide +kernel
theorem dL_law_1035 : decode cL_law 1035 = .ok (.lcmp, 1) := by decide +kernel
theorem dL_law_1036 : decode cL_law 1036 = .ok (.ifCond .eq 5, 3) := by decide +kernel
theorem dL_law_1039 : decode cL_law 1039 = .ok (.iconst 0, 1) := by decide +kernel
theorem dL_law_1040 : decode cL_law 1040 = .ok (.ireturn, 1) := by decide +kernel
theorem dL_law_1041 : decode cL_law 1041 = .ok (.goto 275, 3) := by decide +kernel
theorem dL_law_1044 : decode cL_law 1044 = .ok (.aload_n 1, 1) := by decide +kernel
theorem dL_law_1045 : decode cL_law 1045 = .ok (.aload_n 0, 1) := by decide +kernel
theorem dL_law_1046 : decode cL_law 1046 = .ok (.iload 4, 2) := by decide +kernel
theorem dL_law_1048 : decode cL_law 1048 = .ok (.iconst 1, 1) := by decide +kernel
theorem dL_law_1049 : decode cL_law 1049 = .ok (.iadd, 1) := by decide +kernel
theorem dL_law_1050 : decode cL_law 1050 = .ok (.iaload, 1) := by decide +kernel
theorem dL_law_1051 : decode cL_law 1051 = .ok (.aload_n 0, 1) := by decide +kernel
theorem dL_law_1052 : decode cL_law 1052 = .ok (.iload 4, 2) := by decide +kernel
theorem dL_law_1054 : decode cL_law 1054 = .ok (.iconst 2, 1) := by decide +kernel
theorem dL_law_1055 : decode cL_law 1055 = .ok (.iadd, 1) := by decide +kernel
theorem dL_law_1056 : decode cL_law 1056 = .ok (.iaload, 1) := by decide +kernel
theorem dL_law_1057 : decode cL_law 1057 = .ok (.aload_n 3, 1) := by decide +kernel
theorem dL_law_1058 : decode cL_law 1058 = .ok (.invokestatic 136, 3) := by decide +kernel
theorem dL_law_1061 : decode cL_law 1061 = .ok (.istore 5, 2) := by decide +kernel
theorem dL_law_1063 : decode cL_law 1063 = .ok (.aload_n 2, 1) := by decide +kernel
theorem dL_law_1064 : decode cL_law 1064 = .ok (.aload_n 0, 1) := by decide +kernel
theorem dL_law_1065 : decode cL_law 1065 = .ok (.iload 4, 2) := by decide +kernel
theorem dL_law_1067 : decode cL_law 1067 = .ok (.iconst 1, 1) := by decide +kernel
theorem dL_law_1068 : decode cL_law 1068 = .ok (.iadd, 1) := by decide +kernel
theorem dL_law_1069 : decode cL_law 1069 = .ok (.iaload, 1) := by decide +kernel
theorem dL_law_1070 : decode cL_law 1070 = .ok (.aload_n 0, 1) := by decide +kernel
theorem dL_law_1071 : decode cL_law 1071 = .ok (.iload 4, 2) := by decide +kernel
theorem dL_law_1073 : decode cL_law 1073 = .ok (.iconst 2, 1) := by decide +kernel
theorem dL_law_1074 : decode cL_law 1074 = .ok (.iadd, 1) := by decide +kernel
theorem dL_law_1075 : decode cL_law 1075 = .ok (.iaload, 1) := by decide +kernel
theorem dL_law_1076 : decode cL_law 1076 = .ok (.invokevirtual 138, 3) := by decide +kernel
theorem dL_law_1079 : decode cL_law 1079 = .ok (.istore 6, 2) := by decide +kernel
theorem dL_law_1081 : decode cL_law 1081 = .ok (.aload_n 2, 1) := by decide +kernel
theorem dL_law_1082 : decode cL_law 1082 = .ok (.invokevirtual 77, 3) := by decide +kernel
theorem dL_law_1085 : decode cL_law 1085 = .ok (.iload 5, 2) := by decide +kernel
theorem dL_law_1087 : decode cL_law 1087 = .ok (.if_icmp .eq 5, 3) := by decide +kernel
theorem dL_law_1090 : decode cL_law 1090 = .ok (.iconst 0, 1) := by decide +kernel
theorem dL_law_1091 : decode cL_law 1091 = .ok (.ireturn, 1) := by decide +kernel
theorem dL_law_1092 : decode cL_law 1092 = .ok (.iload 5, 2) := by decide +kernel
theorem dL_law_1094 : decode cL_law 1094 = .ok (.ifCond .ne 15, 3) := by decide +kernel
theorem dL_law_1097 : decode cL_law 1097 = .ok (.aload_n 3, 1) := by decide +kernel
theorem dL_law_1098 : decode cL_law 1098 = .ok (.iconst 0, 1) := by decide +kernel
theorem dL_law_1099 : decode cL_law 1099 = .ok (.laload, 1) := by decide +kernel
theorem dL_law_1100 : decode cL_law 1100 = .ok (.iload 6, 2) := by decide +kernel
theorem dL_law_1102 : decode cL_law 1102 = .ok (.i2l, 1) := by decide +kernel
theorem dL_law_1103 : decode cL_law 1103 = .ok (.lcmp, 1) := by decide +kernel
theorem dL_law_1104 : decode cL_law 1104 = .ok (.ifCond .eq 5, 3) := by decide +kernel
theorem dL_law_1107 : decode cL_law 1107 = .ok (.iconst 0, 1) := by decide +kernel
theorem dL_law_1108 : decode cL_law 1108 = .ok (.ireturn, 1) := by decide +kernel
theorem dL_law_1109 : decode cL_law 1109 = .ok (.goto 207, 3) := by decide +kernel
theorem dL_law_1112 : decode cL_law 1112 = .ok (.aload_n 1, 1) := by decide +kernel
theorem dL_law_1113 : decode cL_law 1113 = .ok (.aload_n 0, 1) := by decide +kernel
theorem dL_law_1114 : decode cL_law 1114 = .ok (.iload 4, 2) := by decide +kernel
theorem dL_law_1116 : decode cL_law 1116 = .ok (.iconst 1, 1) := by decide +kernel
theorem dL_law_1117 : decode cL_law 1117 = .ok (.iadd, 1) := by decide +kernel
theorem dL_law_1118 : decode cL_law 1118 = .ok (.iaload, 1) := by decide +kernel
theorem dL_law_1119 : decode cL_law 1119 = .ok (.aload_n 0, 1) := by decide +kernel
theorem dL_law_1120 : decode cL_law 1120 = .ok (.iload 4, 2) := by decide +kernel
theorem dL_law_1122 : decode cL_law 1122 = .ok (.iconst 2, 1) := by decide +kernel
theorem dL_law_1123 : decode cL_law 1123 = .ok (.iadd, 1) := by decide +kernel
theorem dL_law_1124 : decode cL_law 1124 = .ok (.iaload, 1) := by decide +kernel
theorem dL_law_1125 : decode cL_law 1125 = .ok (.aload_n 3, 1) := by decide +kernel
theorem dL_law_1126 : decode cL_law 1126 = .ok (.invokestatic 139, 3) := by decide +kernel
theorem dL_law_1129 : decode cL_law 1129 = .ok (.istore 5, 2) := by decide +kernel
theorem dL_law_1131 : decode cL_law 1131 = .ok (.aload_n 2, 1) := by decide +kernel
theorem dL_law_1132 : decode cL_law 1132 = .ok (.aload_n 0, 1) := by decide +kernel
theorem dL_law_1133 : decode cL_law 1133 = .ok (.iload 4, 2) := by decide +kernel
theorem dL_law_1135 : decode cL_law 1135 = .ok (.iconst 1, 1) := by decide +kernel
theorem dL_law_1136 : decode cL_law 1136 = .ok (.iadd, 1) := by decide +kernel
theorem dL_law_1137 : decode cL_law 1137 = .ok (.iaload, 1) := by decide +kernel
theorem dL_law_1138 : decode cL_law 1138 = .ok (.aload_n 0, 1) := by decide +kernel
theorem dL_law_1139 : decode cL_law 1139 = .ok (.iload 4, 2) := by decide +kernel
theorem dL_law_1141 : decode cL_law 1141 = .ok (.iconst 2, 1) := by decide +kernel
theorem dL_law_1142 : decode cL_law 1142 = .ok (.iadd, 1) := by decide +kernel
theorem dL_law_1143 : decode cL_law 1143 = .ok (.iaload, 1) := by decide +kernel
theorem dL_law_1144 : decode cL_law 1144 = .ok (.invokevirtual 141, 3) := by decide +kernel
theorem dL_law_1147 : decode cL_law 1147 = .ok (.istore 6, 2) := by decide +kernel
theorem dL_law_1149 : decode cL_law 1149 = .ok (.aload_n 2, 1) := by decide +kernel
theorem dL_law_1150 : decode cL_law 1150 = .ok (.invokevirtual 77, 3) := by decide +kernel
theorem dL_law_1153 : decode cL_law 1153 = .ok (.iload 5, 2) := by decide +kernel
theorem dL_law_1155 : decode cL_law 1155 = .ok (.if_icmp .eq 5, 3) := by decide +kernel
theorem dL_law_1158 : decode cL_law 1158 = .ok (.iconst 0, 1) := by decide +kernel
theorem dL_law_1159 : decode cL_law 1159 = .ok (.ireturn, 1) := by decide +kernel
theorem dL_law_1160 : decode cL_law 1160 = .ok (.iload 5, 2) := by decide +kernel
theorem dL_law_1162 : decode cL_law 1162 = .ok (.ifCond .ne 15, 3) := by decide +kernel
theorem dL_law_1165 : decode cL_law 1165 = .ok (.aload_n 3, 1) := by decide +kernel
theorem dL_law_1166 : decode cL_law 1166 = .ok (.iconst 0, 1) := by decide +kernel
theorem dL_law_1167 : decode cL_law 1167 = .ok (.laload, 1) := by decide +kernel
theorem dL_law_1168 : decode cL_law 1168 = .ok (.iload 6, 2) := by decide +kernel
theorem dL_law_1170 : decode cL_law 1170 = .ok (.i2l, 1) := by decide +kernel
theorem dL_law_1171 : decode cL_law 1171 = .ok (.lcmp, 1) := by decide +kernel
theorem dL_law_1172 : decode cL_law 1172 = .ok (.ifCond .eq 5, 3) := by decide +kernel
theorem dL_law_1175 : decode cL_law 1175 = .ok (.iconst 0, 1) := by decide +kernel
theorem dL_law_1176 : decode cL_law 1176 = .ok (.ireturn, 1) := by decide +kernel
theorem dL_law_1177 : decode cL_law 1177 = .ok (.goto 139, 3) := by decide +kernel
theorem dL_law_1180 : decode cL_law 1180 = .ok (.aload_n 1, 1) := by decide +kernel
theorem dL_law_1181 : decode cL_law 1181 = .ok (.aload_n 0, 1) := by decide +kernel
theorem dL_law_1182 : decode cL_law 1182 = .ok (.iload 4, 2) := by decide +kernel
theorem dL_law_1184 : decode cL_law 1184 = .ok (.iconst 1, 1) := by decide +kernel
theorem dL_law_1185 : decode cL_law 1185 = .ok (.iadd, 1) := by decide +kernel
theorem dL_law_1186 : decode cL_law 1186 = .ok (.iaload, 1) := by decide +kernel
theorem dL_law_1187 : decode cL_law 1187 = .ok (.aload_n 0, 1) := by decide +kernel
theorem dL_law_1188 : decode cL_law 1188 = .ok (.iload 4, 2) := by decide +kernel
theorem dL_law_1190 : decode cL_law 1190 = .ok (.iconst 2, 1) := by decide +kernel
theorem dL_law_1191 : decode cL_law 1191 = .ok (.iadd, 1) := by decide +kernel
theorem dL_law_1192 : decode cL_law 1192 = .ok (.iaload, 1) := by decide +kernel
theorem dL_law_1193 : decode cL_law 1193 = .ok (.aload_n 3, 1) := by decide +kernel
theorem dL_law_1194 : decode cL_law 1194 = .ok (.invokestatic 142, 3) := by decide +kernel
theorem dL_law_1197 : decode cL_law 1197 = .ok (.istore 5, 2) := by decide +kernel
theorem dL_law_1199 : decode cL_law 1199 = .ok (.aload_n 2, 1) := by decide +kernel
theorem dL_law_1200 : decode cL_law 1200 = .ok (.aload_n 0, 1) := by decide +kernel
theorem dL_law_1201 : decode cL_law 1201 = .ok (.iload 4, 2) := by decide +kernel
theorem dL_law_1203 : decode cL_law 1203 = .ok (.iconst 1, 1) := by decide +kernel
theorem dL_law_1204 : decode cL_law 1204 = .ok (.iadd, 1) := by decide +kernel
theorem dL_law_1205 : decode cL_law 1205 = .ok (.iaload, 1) := by decide +kernel
theorem dL_law_1206 : decode cL_law 1206 = .ok (.aload_n 0, 1) := by decide +kernel
theorem dL_law_1207 : decode cL_law 1207 = .ok (.iload 4, 2) := by decide +kernel
theorem dL_law_1209 : decode cL_law 1209 = .ok (.iconst 2, 1) := by decide +kernel
theorem dL_law_1210 : decode cL_law 1210 = .ok (.iadd, 1) := by decide +kernel
theorem dL_law_1211 : decode cL_law 1211 = .ok (.iaload, 1) := by decide +kernel
theorem dL_law_1212 : decode cL_law 1212 = .ok (.invokevirtual 144, 3) := by decide +kernel
theorem dL_law_1215 : decode cL_law 1215 = .ok (.istore 6, 2) := by decide +kernel
theorem dL_law_1217 : decode cL_law 1217 = .ok (.aload_n 2, 1) := by decide +kernel
theorem dL_law_1218 : decode cL_law 1218 = .ok (.invokevirtual 77, 3) := by decide +kernel
theorem dL_law_1221 : decode cL_law 1221 = .ok (.iload 5, 2) := by decide +kernel
theorem dL_law_1223 : decode cL_law 1223 = .ok (.if_icmp .eq 5, 3) := by decide +kernel
theorem dL_law_1226 : decode cL_law 1226 = .ok (.iconst 0, 1) := by decide +kernel
theorem dL_law_1227 : decode cL_law 1227 = .ok (.ireturn, 1) := by decide +kernel
theorem dL_law_1228 : decode cL_law 1228 = .ok (.iload 5, 2) := by decide +kernel
theorem dL_law_1230 : decode cL_law 1230 = .ok (.ifCond .ne 15, 3) := by decide +kernel
theorem dL_law_1233 : decode cL_law 1233 = .ok (.aload_n 3, 1) := by decide +kernel
theorem dL_law_1234 : decode cL_law 1234 = .ok (.iconst 0, 1) := by decide +kernel
theorem dL_law_1235 : decode cL_law 1235 = .ok (.laload, 1) := by decide +kernel
theorem dL_law_1236 : decode cL_law 1236 = .ok (.iload 6, 2) := by decide +kernel
theorem dL_law_1238 : decode cL_law 1238 = .ok (.i2l, 1) := by decide +kernel
theorem dL_law_1239 : decode cL_law 1239 = .ok (.lcmp, 1) := by decide +kernel
theorem dL_law_1240 : decode cL_law 1240 = .ok (.ifCond .eq 5, 3) := by decide +kernel
theorem dL_law_1243 : decode cL_law 1243 = .ok (.iconst 0, 1) := by decide +kernel
theorem dL_law_1244 : decode cL_law 1244 = .ok (.ireturn, 1) := by decide +kernel
theorem dL_law_1245 : decode cL_law 1245 = .ok (.goto 71, 3) := by decide +kernel
theorem dL_law_1248 : decode cL_law 1248 = .ok (.aload_n 1, 1) := by decide +kernel
theorem dL_law_1249 : decode cL_law 1249 = .ok (.invokevirtual 145, 3) := by decide +kernel
theorem dL_law_1252 : decode cL_law 1252 = .ok (.aload_n 2, 1) := by decide +kernel
theorem dL_law_1253 : decode cL_law 1253 = .ok (.invokevirtual 148, 3) := by decide +kernel
theorem dL_law_1256 : decode cL_law 1256 = .ok (.if_icmp .eq 60, 3) := by decide +kernel
theorem dL_law_1259 : decode cL_law 1259 = .ok (.iconst 0, 1) := by decide +kernel
theorem dL_law_1260 : decode cL_law 1260 = .ok (.ireturn, 1) := by decide +kernel
theorem dL_law_1261 : decode cL_law 1261 = .ok (.aload_n 1, 1) := by decide +kernel
theorem dL_law_1262 : decode cL_law 1262 = .ok (.invokevirtual 149, 3) := by decide +kernel
theorem dL_law_1265 : decode cL_law 1265 = .ok (.dstore 5, 2) := by decide +kernel
theorem dL_law_1267 : decode cL_law 1267 = .ok (.aload_n 2, 1) := by decide +kernel
theorem dL_law_1268 : decode cL_law 1268 = .ok (.invokevirtual 153, 3) := by decide +kernel
theorem dL_law_1271 : decode cL_law 1271 = .ok (.dstore 7, 2) := by decide +kernel
theorem dL_law_1273 : decode cL_law 1273 = .ok (.dload 5, 2) := by decide +kernel
theorem dL_law_1275 : decode cL_law 1275 = .ok (.dload 7, 2) := by decide +kernel
theorem dL_law_1277 : decode cL_law 1277 = .ok (.dcmp .l, 1) := by decide +kernel
theorem dL_law_1278 : decode cL_law 1278 = .ok (.ifCond .eq 21, 3) := by decide +kernel
theorem dL_law_1281 : decode cL_law 1281 = .ok (.dload 5, 2) := by decide +kernel
theorem dL_law_1283 : decode cL_law 1283 = .ok (.dload 5, 2) := by decide +kernel
theorem dL_law_1285 : decode cL_law 1285 = .ok (.dcmp .l, 1) := by decide +kernel
theorem dL_law_1286 : decode cL_law 1286 = .ok (.ifCond .eq 11, 3) := by decide +kernel
theorem dL_law_1289 : decode cL_law 1289 = .ok (.dload 7, 2) := by decide +kernel
theorem dL_law_1291 : decode cL_law 1291 = .ok (.dload 7, 2) := by decide +kernel
theorem dL_law_1293 : decode cL_law 1293 = .ok (.dcmp .l, 1) := by decide +kernel
theorem dL_law_1294 : decode cL_law 1294 = .ok (.ifCond .ne 5, 3) := by decide +kernel
theorem dL_law_1297 : decode cL_law 1297 = .ok (.iconst 0, 1) := by decide +kernel
theorem dL_law_1298 : decode cL_law 1298 = .ok (.ireturn, 1) := by decide +kernel
theorem dL_law_1299 : decode cL_law 1299 = .ok (.goto 17, 3) := by decide +kernel
theorem dL_law_1302 : decode cL_law 1302 = .ok (.aload_n 1, 1) := by decide +kernel
theorem dL_law_1303 : decode cL_law 1303 = .ok (.invokevirtual 154, 3) := by decide +kernel
theorem dL_law_1306 : decode cL_law 1306 = .ok (.aload_n 2, 1) := by decide +kernel
theorem dL_law_1307 : decode cL_law 1307 = .ok (.invokevirtual 158, 3) := by decide +kernel
theorem dL_law_1310 : decode cL_law 1310 = .ok (.lcmp, 1) := by decide +kernel
theorem dL_law_1311 : decode cL_law 1311 = .ok (.ifCond .eq 5, 3) := by decide +kernel
theorem dL_law_1314 : decode cL_law 1314 = .ok (.iconst 0, 1) := by decide +kernel
theorem dL_law_1315 : decode cL_law 1315 = .ok (.ireturn, 1) := by decide +kernel
theorem dL_law_1316 : decode cL_law 1316 = .ok (.iinc 4 3, 3) := by decide +kernel
theorem dL_law_1319 : decode cL_law 1319 = .ok (.goto (-1296), 3) := by decide +kernel
theorem dL_law_1322 : decode cL_law 1322 = .ok (.iconst 1, 1) := by decide +kernel
theorem dL_law_1323 : decode cL_law 1323 = .ok (.ireturn, 1) := by decide +kernel
end
section
/-! The frame of this proof. A world is a function: blocks of numbers by a place (sv_M), laid out over 124 cells that follow each other from G.1 on. -/
/-- the ground: the first cell; what the tables give each class; the classes of the arrays (int, char, Stairs, long); the static rows -/
abbrev sv_G : Type := Nat × va_G × (ClassId × ClassId × ClassId × ClassId) × (Nat × Nat × Nat)
abbrev sv_M : Type := Nat → Nat → Int32
abbrev sv_D (G : sv_G) : va_G := G.2.1
abbrev sv_cI (G : sv_G) : ClassId := G.2.2.1.1
abbrev sv_cC (G : sv_G) : ClassId := G.2.2.1.2.1
abbrev sv_cS (G : sv_G) : ClassId := G.2.2.1.2.2.1
abbrev sv_cL (G : sv_G) : ClassId := G.2.2.1.2.2.2
abbrev sv_A (G : sv_G) : Nat → Prop := fun q => G.1 ≤ q
abbrev sv_tys (G : sv_G) : List (ClassId × FieldType) := [(sv_cI G, .int), (sv_cC G, .char), (sv_cS G, .object "StairLight$Stairs"), (sv_cL G, .long)]
/-- the cell of kind c, number j, by its distance from the first -/
def sv_ad (c j : Nat) : Nat := if c < 14 then 1 + 14 * j + (if j < 2 then 0 else 2) + c else if c = 14 then 0 else if c < 17 then 14 + c else 98 + c
abbrev sv_r (G : sv_G) (c j : Nat) : Nat := G.1 + sv_ad c j
/-- int rows: length, block, place -/
def sv_n (c : Nat) : Nat := if c < 8 then 8 else if c < 13 then 7 else if c = 13 then 4 else if c = 18 then 60 else if c < 22 then 86 else if c = 22 then 516 else if c = 23 then 60 else 32
def sv_q (c j : Nat) : Nat := if c < 14 then j else if c = 18 then 9 else c - 10
def sv_i (c i : Nat) : Nat := if c < 8 then 6 * i + (7 + c) else if c < 13 then 4 * i + (49 + c) else i
def sv_e (G : sv_G) (M : sv_M) (o : Int64) (c j : Nat) : va_E :=
  if c = 0 then .inr (3, [.ref (sv_r G 1 j), .ref (sv_r G 8 j), .ref (sv_r G 13 j), .int (M j 6), .int (M j 7), .int (M j 4), .int (M j 8)])
  else if c = 1 then .inr (0, [.ref (sv_r G 2 j), .ref (sv_r G 3 j), .ref (sv_r G 4 j), .ref (sv_r G 5 j), .ref (sv_r G 6 j), .ref (sv_r G 7 j)])
  else if c = 8 then .inr (2, [.ref (sv_r G 9 j), .ref (sv_r G 10 j), .ref (sv_r G 11 j), .ref (sv_r G 12 j), .int (M j 57), .int (M j 5)])
  else if c = 14 then .inr (5, [.ref (sv_r G 0 0), .ref (sv_r G 0 1), .ref (sv_r G 15 0), .ref (sv_r G 17 0)])
  else if c = 15 then .inr (1, [.ref (sv_r G 16 0), .int (M 8 0), .int (M 8 1)])
  else if c = 16 then .inl (sv_cS G, 6, .inr (.inr (.inr (.inr fun i => some (sv_r G 0 (2 + i))))))
  else if c = 17 then .inr (4, [.ref (sv_r G 18 0), .int (M 9 60)])
  else if c = 19 then .inr (6, [.ref (sv_r G 20 0), .ref (sv_r G 21 0), .ref (sv_r G 22 0), .int (M 15 0), .ref (sv_r G 23 0), .int (M 15 1), .int (M 15 2), .int (M 15 3), .int (M 15 4), .ref (sv_r G 24 0), .int (M 15 5), .int (M 15 6), .int (M 15 7)])
  else if c = 25 then .inl (sv_cL G, 1, .inr (.inl fun _ => o))
  else .inl (if c = 18 then sv_cC G else sv_cI G, sv_n c, .inl fun i => M (sv_q c j) (sv_i c i))
def sv_ok (c j : Nat) : Bool := (decide (c < 14) && decide (j < 8)) || (decide (14 ≤ c) && decide (c < 26) && decide (j = 0))
/-- which cells are int rows -/
def sv_ir (c : Nat) : Bool := (decide (2 ≤ c) && decide (c < 8)) || (decide (9 ≤ c) && decide (c < 14)) || (decide (20 ≤ c) && decide (c < 25))
def sv_W (G : sv_G) (z : Nat) (M : sv_M) (o : Int64) (H : Heap) : Prop := H.size = z ∧ G.1 + 124 ≤ z ∧ ∀ c j, sv_ok c j = true → va_at (sv_D G) vwCl (sv_r G c j, sv_e G M o c j) H
def sv_w (M : sv_M) (q i : Nat) (v : Int32) : sv_M := fun q' i' => if q' = q ∧ i' = i then v else M q' i'
/-- whose a number is -/
def sv_ow (q i : Nat) : Nat × Nat := if q < 8 then (if i < 4 then (13, q) else if i = 5 ∨ i = 57 then (8, q) else if i < 9 then (0, q) else if i < 57 then (2 + (i - 9) % 6, q) else (9 + (i - 58) % 4, q)) else if q = 8 then (15, 0) else if q = 9 then (if i < 60 then (18, 0) else (17, 0)) else if q < 15 then (q + 10, 0) else (19, 0)
theorem sv_ad_inj {c j c' j' : Nat} (h : sv_ok c j = true) (h' : sv_ok c' j' = true) (e : sv_ad c j = sv_ad c' j') : c = c' ∧ j = j' := by
  simp only [sv_ok, Bool.or_eq_true, Bool.and_eq_true, decide_eq_true_eq] at h h'
  unfold sv_ad at e
  repeat' split at e
  all_goals omega
theorem sv_ad_lt {c j : Nat} (h : sv_ok c j = true) : sv_ad c j < 124 := by
  simp only [sv_ok, Bool.or_eq_true, Bool.and_eq_true, decide_eq_true_eq] at h
  unfold sv_ad
  repeat' split
  all_goals omega
theorem sv_w_same (M : sv_M) (q i : Nat) (v : Int32) : sv_w M q i v q i = v := if_pos ⟨rfl, rfl⟩
theorem sv_w_ne {M : sv_M} {q i : Nat} {v : Int32} {q' i' : Nat} (h : ¬ (q' = q ∧ i' = i)) : sv_w M q i v q' i' = M q' i' := if_neg h
theorem sv_arrV {cA : ClassId} {n : Nat} {f g : Nat → Value} (h : ∀ i, i < n → f i = g i) : arrV cA n f = arrV cA n g := by
  unfold arrV
  congr 1
  apply congrArg
  funext j
  exact h j.val j.isLt
theorem sv_rows {G : sv_G} {M : sv_M} {o : Int64} {c j : Nat} (h : sv_ir c = true) : sv_e G M o c j = .inl (sv_cI G, sv_n c, .inl fun i => M (sv_q c j) (sv_i c i)) := by
  simp only [sv_ir, Bool.or_eq_true, Bool.and_eq_true, decide_eq_true_eq] at h
  unfold sv_e
  repeat rw [if_neg (by omega)]
theorem sv_at_rows {G : sv_G} {M M' : sv_M} {o o' : Int64} {c j : Nat} {H : Heap} (hc : sv_ir c = true ∨ c = 18) (hk : ∀ i, i < sv_n c → M' (sv_q c j) (sv_i c i) = M (sv_q c j) (sv_i c i)) (h : va_at (sv_D G) vwCl (sv_r G c j, sv_e G M o c j) H) : va_at (sv_D G) vwCl (sv_r G c j, sv_e G M' o' c j) H := by
  have e : ∀ (M : sv_M) (o : Int64), sv_e G M o c j = .inl (if c = 18 then sv_cC G else sv_cI G, sv_n c, .inl fun i => M (sv_q c j) (sv_i c i)) := by
    intro M o
    rcases hc with hc | rfl
    · rw [sv_rows hc, if_neg]
      rintro rfl
      cases hc
    · rfl
  rw [e] at h ⊢
  unfold va_at at h ⊢
  dsimp only at h ⊢
  rw [h, vp_cell_i, vp_cell_i]
  congr 1
  exact sv_arrV fun i hi => by rw [hk i hi]
theorem sv_kinds {c j : Nat} (h : sv_ok c j = true) : (sv_ir c = true ∨ c = 18) ∨ c = 0 ∨ c = 1 ∨ c = 8 ∨ c = 14 ∨ c = 15 ∨ c = 16 ∨ c = 17 ∨ c = 19 ∨ c = 25 := by
  simp only [sv_ok, sv_ir, Bool.or_eq_true, Bool.and_eq_true, decide_eq_true_eq] at h ⊢
  omega
theorem sv_ow_row {c j i : Nat} (h : sv_ok c j = true) (hc : sv_ir c = true ∨ c = 18) (hi : i < sv_n c) : sv_ow (sv_q c j) (sv_i c i) = (c, j) := by
  simp only [sv_ok, sv_ir, Bool.or_eq_true, Bool.and_eq_true, decide_eq_true_eq] at h hc
  unfold sv_n at hi
  by_cases h1 : c < 8
  · have e1 : sv_q c j = j := by unfold sv_q; rw [if_pos (by omega)]
    have e2 : sv_i c i = 6 * i + (7 + c) := by unfold sv_i; rw [if_pos h1]
    rw [if_pos h1] at hi
    rw [e1, e2]
    unfold sv_ow
    rw [if_pos (show j < 8 by omega), if_neg (show ¬ 6 * i + (7 + c) < 4 by omega), if_neg (show ¬ (6 * i + (7 + c) = 5 ∨ 6 * i + (7 + c) = 57) by omega), if_neg (by omega), if_pos (by omega)]
    congr 1
    omega
  · rw [if_neg h1] at hi
    by_cases h2 : c < 13
    · have e1 : sv_q c j = j := by unfold sv_q; rw [if_pos (by omega)]
      have e2 : sv_i c i = 4 * i + (49 + c) := by unfold sv_i; rw [if_neg h1, if_pos h2]
      rw [if_pos h2] at hi
      rw [e1, e2]
      unfold sv_ow
      rw [if_pos (show j < 8 by omega), if_neg (by omega), if_neg (by omega), if_neg (by omega), if_neg (by omega)]
      congr 1
      omega
    · rw [if_neg h2] at hi
      have e2 : sv_i c i = i := by unfold sv_i; rw [if_neg h1, if_neg h2]
      rw [e2]
      by_cases h3 : c = 13
      · have e1 : sv_q c j = j := by unfold sv_q; rw [if_pos (by omega)]
        rw [if_pos h3] at hi
        rw [e1]
        unfold sv_ow
        rw [if_pos (show j < 8 by omega), if_pos (by omega), h3]
      · rw [if_neg h3] at hi
        have hj : j = 0 := by omega
        by_cases h4 : c = 18
        · have e1 : sv_q c j = 9 := by unfold sv_q; rw [if_neg (by omega), if_pos h4]
          rw [if_pos h4] at hi
          rw [e1, h4, hj]
          unfold sv_ow
          rw [if_neg (by omega), if_neg (by omega), if_pos rfl, if_pos hi]
        · have e1 : sv_q c j = c - 10 := by unfold sv_q; rw [if_neg (by omega), if_neg h4]
          rw [e1, hj]
          unfold sv_ow
          rw [if_neg (by omega), if_neg (by omega), if_neg (by omega), if_pos (by omega)]
          congr 1
          omega
theorem sv_e0 (G : sv_G) (M : sv_M) (o : Int64) (j : Nat) : sv_e G M o 0 j = .inr (3, [.ref (sv_r G 1 j), .ref (sv_r G 8 j), .ref (sv_r G 13 j), .int (M j 6), .int (M j 7), .int (M j 4), .int (M j 8)]) := rfl
theorem sv_e8 (G : sv_G) (M : sv_M) (o : Int64) (j : Nat) : sv_e G M o 8 j = .inr (2, [.ref (sv_r G 9 j), .ref (sv_r G 10 j), .ref (sv_r G 11 j), .ref (sv_r G 12 j), .int (M j 57), .int (M j 5)]) := rfl
theorem sv_e15 (G : sv_G) (M : sv_M) (o : Int64) (j : Nat) : sv_e G M o 15 j = .inr (1, [.ref (sv_r G 16 0), .int (M 8 0), .int (M 8 1)]) := rfl
theorem sv_e17 (G : sv_G) (M : sv_M) (o : Int64) (j : Nat) : sv_e G M o 17 j = .inr (4, [.ref (sv_r G 18 0), .int (M 9 60)]) := rfl
theorem sv_e19 (G : sv_G) (M : sv_M) (o : Int64) (j : Nat) : sv_e G M o 19 j = .inr (6, [.ref (sv_r G 20 0), .ref (sv_r G 21 0), .ref (sv_r G 22 0), .int (M 15 0), .ref (sv_r G 23 0), .int (M 15 1), .int (M 15 2), .int (M 15 3), .int (M 15 4), .ref (sv_r G 24 0), .int (M 15 5), .int (M 15 6), .int (M 15 7)]) := rfl
/-- a cell stays as it is where another's number is written -/
theorem sv_keep {G : sv_G} {M : sv_M} {o : Int64} {q i : Nat} {v : Int32} {c j : Nat} {H : Heap} (hok : sv_ok c j = true) (hne : sv_ow q i ≠ (c, j)) (h : va_at (sv_D G) vwCl (sv_r G c j, sv_e G M o c j) H) : va_at (sv_D G) vwCl (sv_r G c j, sv_e G (sv_w M q i v) o c j) H := by
  have K : ∀ q' i', sv_ow q' i' = (c, j) → sv_w M q i v q' i' = M q' i' := fun q' i' h => if_neg (fun e => hne (by rw [← e.1, ← e.2]; exact h))
  have hj : (c < 14 ∧ j < 8) ∨ (14 ≤ c ∧ c < 26 ∧ j = 0) := by
    simp only [sv_ok, Bool.or_eq_true, Bool.and_eq_true, decide_eq_true_eq] at hok
    omega
  rcases sv_kinds hok with hc | rfl | rfl | rfl | rfl | rfl | rfl | rfl | rfl | rfl
  · exact sv_at_rows hc (fun i hi => K _ _ (sv_ow_row hok hc hi)) h
  · have h8 : j < 8 := by omega
    rw [sv_e0, K j 6 (by simp [sv_ow, h8]), K j 7 (by simp [sv_ow, h8]), K j 4 (by simp [sv_ow, h8]), K j 8 (by simp [sv_ow, h8])]
    exact h
  · exact h
  · have h8 : j < 8 := by omega
    rw [sv_e8, K j 57 (by simp [sv_ow, h8]), K j 5 (by simp [sv_ow, h8])]
    exact h
  · exact h
  · have h8 : j = 0 := by omega
    subst h8
    rw [sv_e15, K 8 0 rfl, K 8 1 rfl]
    exact h
  · exact h
  · have h8 : j = 0 := by omega
    subst h8
    rw [sv_e17, K 9 60 rfl]
    exact h
  · have h8 : j = 0 := by omega
    subst h8
    rw [sv_e19, K 15 0 rfl, K 15 1 rfl, K 15 2 rfl, K 15 3 rfl, K 15 4 rfl, K 15 5 rfl, K 15 6 rfl, K 15 7 rfl]
    exact h
  · exact h
/-- a number is written: the cell that it lies in is given anew, the others' addresses hold what they held -/
theorem sv_W.put {G : sv_G} {z : Nat} {M : sv_M} {o : Int64} {H H1 : Heap} {c j q i : Nat} {v : Int32} (h : sv_W G z M o H) (hok : sv_ok c j = true) (how : sv_ow q i = (c, j)) (z1 : H1.size = H.size) (oq : ∀ x : Nat, x ≠ sv_r G c j → H1[x]? = H[x]?) (hat : va_at (sv_D G) vwCl (sv_r G c j, sv_e G (sv_w M q i v) o c j) H1) : sv_W G z (sv_w M q i v) o H1 := by
  refine ⟨z1.trans h.1, h.2.1, fun c' j' hok' => ?_⟩
  by_cases e : (c', j') = (c, j)
  · cases e
    exact hat
  · have hn : sv_r G c' j' ≠ sv_r G c j := fun e2 => e (by
      have := sv_ad_inj hok' hok (Nat.add_left_cancel e2)
      rw [this.1, this.2])
    exact (sv_keep hok' (by rw [how]; exact fun e2 => e e2.symm) (h.2.2 c' j' hok')).kept (oq _ hn)
/-- the law's own row is written -/
theorem sv_W.out {G : sv_G} {z : Nat} {M : sv_M} {o o' : Int64} {H H1 : Heap} (h : sv_W G z M o H) (z1 : H1.size = H.size) (oq : ∀ x : Nat, x ≠ sv_r G 25 0 → H1[x]? = H[x]?) (hat : va_at (sv_D G) vwCl (sv_r G 25 0, sv_e G M o' 25 0) H1) : sv_W G z M o' H1 := by
  refine ⟨z1.trans h.1, h.2.1, fun c' j' hok' => ?_⟩
  by_cases e : (c', j') = (25, 0)
  · cases e
    exact hat
  · have hn : sv_r G c' j' ≠ sv_r G 25 0 := fun e2 => e (by
      have := sv_ad_inj hok' (show sv_ok 25 0 = true from rfl) (Nat.add_left_cancel e2)
      rw [this.1, this.2])
    have h9 := (h.2.2 c' j' hok').kept (oq _ hn)
    have hc : c' ≠ 25 := fun e3 => by
      subst e3
      have : j' = 0 := by
        simp only [sv_ok, Bool.or_eq_true, Bool.and_eq_true, decide_eq_true_eq] at hok'
        omega
      exact e (by rw [this])
    have e9 : sv_e G M o' c' j' = sv_e G M o c' j' := by
      unfold sv_e
      rw [if_neg hc, if_neg hc]
    rw [e9]
    exact h9
/-- the heap grows: the world stays -/
theorem sv_W.grown {G : sv_G} {z z' : Nat} {M : sv_M} {o : Int64} {H H1 : Heap} (h : sv_W G z M o H) (z1 : H1.size = z') (hz : z ≤ z') (oq : ∀ x : Nat, x < H.size → H1[x]? = H[x]?) : sv_W G z' M o H1 :=
  ⟨z1, Nat.le_trans h.2.1 hz, fun c j hok => (h.2.2 c j hok).kept (oq _ (h.2.2 c j hok).lt)⟩
end
section
/-! one instruction, one row: over every heap of a world Wd. What stands of a world's own (sv_W) is behind. -/
/-- private methods of a nest mate that are called, private fields of one that are read -/
def sv_nests : List (String × Nat × MethodName × String) := [(RX3, 32, yX5_copyRow, "StairLight"), (RX0, 30, yX5_copyRow, "StairLight"), (RX2, 31, yX5_copyRow, "StairLight"), (RX3, 57, yX5_at, "StairLight"), (RX0, 34, yX5_at, "StairLight"), (RX0, 38, yX5_raise, "StairLight"), (RX0, 42, yX5_put, "StairLight"), (RX3, 83, yX5_sumOf, "StairLight"), (RX2, 47, yX5_at, "StairLight"), (RX2, 58, yX5_raise, "StairLight"), (RX2, 35, yX5_put, "StairLight"), (RX3, 122, yX5_raise, "StairLight")]
/-- the texts of the exceptions -/
def sv_strs : List (String × Nat × String) := [(RX5, 238, "no such floor"), (RX5, 240, "both floors are the same"), (RX5, 49, "the stairs are full"), (RX5, 68, "no such person on the stairs"), (RX5, 245, "no such setting"), (RX5, 134, "the value is out of range"), (RX5, 247, "seconds are out of range"), (RX5, 143, "no such character"), (RX5, 148, "the buffer is full"), (RX5, 165, "the buffer is not complete walks as a text"), (RX5, 182, "no saved state"), (RX5, 249, "there is no such number"), (RX5, 193, "no such place")]
def sv_F (t : Nat) (j : Nat) : Int32 := if t = 0 then (if j = 0 then 20 else if j = 1 then 5 else if j = 2 then 0 else 8) else if t = 1 then (if j = 0 then 1 else if j = 1 then 0 else if j = 2 then 0 else 1) else (if j = 0 then 200 else if j = 1 then 60 else if j = 2 then 1 else 60)
/-- the static rows -/
def sv_St (G : sv_G) (U : State) : Prop := (va_Z "StairLight" "FIRST_VALUES" "[I" (.ref G.2.2.2.1) (sv_A G) U U.heap ∧ va_T .int G.2.2.2.1 4 (fun j => .int (sv_F 0 j)) (sv_A G) U U.heap) ∧ (va_Z "StairLight" "LEAST_VALUES" "[I" (.ref G.2.2.2.2.1) (sv_A G) U U.heap ∧ va_T .int G.2.2.2.2.1 4 (fun j => .int (sv_F 1 j)) (sv_A G) U U.heap) ∧ (va_Z "StairLight" "GREATEST_VALUES" "[I" (.ref G.2.2.2.2.2) (sv_A G) U U.heap ∧ va_T .int G.2.2.2.2.2 4 (fun j => .int (sv_F 2 j)) (sv_A G) U U.heap)
def sv_Nst (U : State) : Prop := (∀ q ∈ sv_nests, va_Nw (.methodLinkNest q.1 q.2.1 q.2.2.1 q.2.2.2) U) ∧ va_Nw (.fieldLinkNest "StairLight$Stairs" 25 "StairLight" "FIRST_VALUES" "[I" "StairLight") U
def sv_Xs : List String := ["java/lang/IndexOutOfBoundsException", "java/lang/IllegalArgumentException", "java/lang/IllegalStateException"]
def sv_Exc (G : sv_G) (U : State) : Prop := (∀ q ∈ sv_strs, ∃ sa, vk_R q.1 q.2.1 q.2.2 sa U) ∧ vx_Zq Bundle.tN "UNASSIGNED_STACK" Bundle.steD (sv_A G) U U.heap ∧ vx_Zq Bundle.tN "SUPPRESSED_SENTINEL" Bundle.listD (sv_A G) U U.heap ∧ (∀ E ∈ sv_Xs, (Cond.castable E E).before #[] U = true) ∧ va_Nc "java/lang/IllegalArgumentException" "java/lang/IndexOutOfBoundsException" U ∧ va_Nc "java/lang/IllegalStateException" "java/lang/IndexOutOfBoundsException" U ∧ va_Nc "java/lang/IllegalStateException" "java/lang/IllegalArgumentException" U
/-- what is known of the tables and of the cells that nobody writes -/
def sv_K (G : sv_G) (U : State) : Prop := va_K (sv_D G) vwCl (sv_tys G) U ∧ sv_St G U ∧ sv_Nst U ∧ sv_Exc G U ∧ ∀ w ∈ sv_tbl, w.before #[] U = true
theorem sv_good {w : Cond} (h : w ∈ sv_tbl) : (w.onTables && w.keeps) = true ∨ ∃ ty, w = .arrayClass ty := good_of_word (List.mem_filter.mp h).2
theorem sv_K.word {G : sv_G} {U : State} (h : sv_K G U) {w : Cond} (hw : w ∈ sv_tbl) (args : Array Value) : w.before args U = true := word_at (State.WarmedH.refl U) (sv_good hw) (h.2.2.2.2 w hw)
theorem sv_K.to {G : sv_G} {s U : State} (hW : s.WarmedH U.vm) (hk : ∀ a : Nat, a < s.heap.size → ¬ sv_A G a → U.heap[a]? = s.heap[a]?) (h : sv_K G s) : sv_K G U := by
  obtain ⟨h1, ⟨⟨a1, a2⟩, ⟨a3, a4⟩, a5, a6⟩, ⟨h3, h3'⟩, ⟨h4, h5, h6, h7, h8, h9, h10⟩, h11⟩ := h
  have hv := hW.alike
  refine ⟨va_K.moved hv h1, ⟨⟨va_Z.kept (va_Z.moved hv a1) hk, va_T.kept (va_T.moved hv a2) hk⟩, ⟨va_Z.kept (va_Z.moved hv a3) hk, va_T.kept (va_T.moved hv a4) hk⟩, va_Z.kept (va_Z.moved hv a5) hk, va_T.kept (va_T.moved hv a6) hk⟩, ⟨fun q hq => va_Nw.warmM hW (h3 q hq), va_Nw.warmF hW h3'⟩, ⟨fun q hq => ?_, vx_Zq.kept (vx_Zq.moved hv h5) hk, vx_Zq.kept (vx_Zq.moved hv h6) hk, fun E hE => ?_, va_Nc.moved hv h8, va_Nc.moved hv h9, va_Nc.moved hv h10⟩, fun w hw => word_at hW (sv_good hw) (h11 w hw)⟩
  · obtain ⟨sa, hsa⟩ := h4 q hq
    exact ⟨sa, vk_R.warm hW hsa⟩
  · have h := h7 E hE
    rw [← Cond.castable_setVm (args := #[]) hv] at h
    exact va_tabs (A := #[]) rfl rfl h
/-- what holds of the method that runs -/
def sv_C (p : Program) (l : Launch) (s : State) (m : MethodId) (args : Array Value) (meth : Method) (c : Code) (cc : ByteArray) (nL : Nat) (own : String) (G : sv_G) : Prop := p.tables.exec = Jvm.exec ∧ c.code = cc ∧ c.maxLocals = nL ∧ s.vm.findClass own = some m.cls ∧ meth.locks = false ∧ sv_K G s
def sv_get (lv : List (Nat × Value)) (i : Nat) : Option Value := (lv.find? (fun q => q.1 == i)).map Prod.snd
def sv_st1 (lv : List (Nat × Value)) (i : Nat) (v : Value) : List (Nat × Value) := (i, v) :: lv.filter (fun q => !(q.1 == i) && !(q.1 + 1 == i && q.2.category == 2))
def sv_st2 (lv : List (Nat × Value)) (i : Nat) (v : Value) : List (Nat × Value) := (i, v) :: lv.filter (fun q => !(q.1 == i) && (!(q.1 == i + 1) && !(q.1 + 1 == i && q.2.category == 2)))
/-- lv' is a part of L, in any order -/
abbrev sv_of (L lv' : List (Nat × Value)) : Prop := lv'.map (fun q => sv_get L q.1) = lv'.map (fun q => some q.2)
theorem sv_get_mem {lv : List (Nat × Value)} {i : Nat} {v : Value} (h : sv_get lv i = some v) : (i, v) ∈ lv := by
  unfold sv_get at h
  cases hf : lv.find? (fun q => q.1 == i) with
  | none => rw [hf] at h; cases h
  | some q =>
    rw [hf] at h
    have h1 := List.find?_some hf
    have h2 := List.mem_of_find?_eq_some hf
    simp only [Option.map_some, Option.some.injEq] at h
    have h3 : q.1 = i := by simpa using h1
    rw [← h, ← h3]
    exact h2
theorem sv_get_at {ls : Array Slot} {nL : Nat} {lv : List (Nat × Value)} {i : Nat} {v : Value} (h : lv_has ls nL lv) (hg : sv_get lv i = some v) : ls[i]? = some (.val v) := h.2.2 (i, v) (sv_get_mem hg)
theorem sv_has_of {ls : Array Slot} {nL : Nat} {L lv' : List (Nat × Value)} (h : lv_has ls nL L) (ho : sv_of L lv') : lv_has ls nL lv' := by
  refine ⟨h.1, h.2.1, fun q hq => h.2.2 q ?_⟩
  have h1 : (lv'.map (fun q => sv_get L q.1)) = lv'.map (fun q => some q.2) := ho
  obtain ⟨i, hi⟩ := List.getElem?_of_mem hq
  have h2 : (lv'.map (fun q => sv_get L q.1))[i]? = (lv'.map (fun q => some q.2))[i]? := by rw [h1]
  rw [List.getElem?_map, List.getElem?_map, hi] at h2
  simp only [Option.map_some, Option.some.injEq] at h2
  exact sv_get_mem h2
section SVR
variable {p : Program} {l : Launch} {e : Env} {R : Room} {s : State} {m : MethodId} {args : Array Value} {below : List Frame} {meth : Method} {c : Code} {k n nL : Nat} {Q : State → Prop} {G : sv_G} {Wd Wd' : Heap → Prop}
variable {cc : ByteArray} {pc : Nat} {lv lv' : List (Nat × Value)} {st rest : List Value} {own : String}
/-- the run from here on, over every heap of the world Wd -/
def sv_V (p : Program) (l : Launch) (e : Env) (R : Room) (s : State) (m : MethodId) (args : Array Value) (below : List Frame) (meth : Method) (c : Code) (nL : Nat) (G : sv_G) (Q : State → Prop) (k n : Nat) (Wd : Heap → Prop) (pc : Nat) (lv : List (Nat × Value)) (st : List Value) : Prop :=
  ∀ (H : Heap) (locs : List Loc) (ls : Array Slot), Wd H → va_S (sv_A G) s.heap H locs → lv_has ls nL lv → W p l e R s m args below meth c H locs k n Q (F0 m pc ls st)
theorem sv_iconst (C : sv_C p l s m args meth c cc nL own G) {x : Int} {v : Int32} (d : decode cc pc = .ok (.iconst x, 1)) (hv : Int32.ofInt x = v) (kk : sv_V p l e R s m args below meth c nL G Q k n Wd (pc + 1) lv (.int v :: st)) : sv_V p l e R s m args below meth c nL G Q k n Wd pc lv (st) := fun H locs ls h1 h2 h3 => lv_iconst C.1 C.2.1 d hv (kk H locs ls h1 h2 h3)
theorem sv_bipush (C : sv_C p l s m args meth c cc nL own G) {x : Int} {v : Int32} (d : decode cc pc = .ok (.bipush x, 2)) (hv : (Int8.ofInt x).toInt32 = v) (kk : sv_V p l e R s m args below meth c nL G Q k n Wd (pc + 2) lv (.int v :: st)) : sv_V p l e R s m args below meth c nL G Q k n Wd pc lv (st) := fun H locs ls h1 h2 h3 => lv_bipush C.1 C.2.1 d hv (kk H locs ls h1 h2 h3)
theorem sv_sipush (C : sv_C p l s m args meth c cc nL own G) {x : Int} {v : Int32} (d : decode cc pc = .ok (.sipush x, 3)) (hv : (Int16.ofInt x).toInt32 = v) (kk : sv_V p l e R s m args below meth c nL G Q k n Wd (pc + 3) lv (.int v :: st)) : sv_V p l e R s m args below meth c nL G Q k n Wd pc lv (st) := fun H locs ls h1 h2 h3 => lv_sipush C.1 C.2.1 d hv (kk H locs ls h1 h2 h3)
theorem sv_lconst (C : sv_C p l s m args meth c cc nL own G) {x : Fin 2} {v : Int64} (d : decode cc pc = .ok (.lconst x, 1)) (hv : Int64.ofNat (x : Nat) = v) (kk : sv_V p l e R s m args below meth c nL G Q k n Wd (pc + 1) lv (.long v :: st)) : sv_V p l e R s m args below meth c nL G Q k n Wd pc lv (st) := fun H locs ls h1 h2 h3 => lv_lconst C.1 C.2.1 d hv (kk H locs ls h1 h2 h3)
theorem sv_dconst0 (C : sv_C p l s m args meth c cc nL own G)  (d : decode cc pc = .ok (.dconst 0, 1)) (kk : sv_V p l e R s m args below meth c nL G Q k n Wd (pc + 1) lv (.double FP.dconst0 :: st)) : sv_V p l e R s m args below meth c nL G Q k n Wd pc lv (st) := fun H locs ls h1 h2 h3 => lv_dconst0 C.1 C.2.1 d (kk H locs ls h1 h2 h3)
theorem sv_dconst1 (C : sv_C p l s m args meth c cc nL own G)  (d : decode cc pc = .ok (.dconst 1, 1)) (kk : sv_V p l e R s m args below meth c nL G Q k n Wd (pc + 1) lv (.double FP.dconst1 :: st)) : sv_V p l e R s m args below meth c nL G Q k n Wd pc lv (st) := fun H locs ls h1 h2 h3 => lv_dconst1 C.1 C.2.1 d (kk H locs ls h1 h2 h3)
theorem sv_null (C : sv_C p l s m args meth c cc nL own G)  (d : decode cc pc = .ok (.aconst_null, 1)) (kk : sv_V p l e R s m args below meth c nL G Q k n Wd (pc + 1) lv (.null :: st)) : sv_V p l e R s m args below meth c nL G Q k n Wd pc lv (st) := fun H locs ls h1 h2 h3 => lv_null C.1 C.2.1 d (kk H locs ls h1 h2 h3)
theorem sv_ldc2 (C : sv_C p l s m args meth c cc nL own G) {ix : Nat} {v : Int64} (d : decode cc pc = .ok (.ldc2_w ix, 3)) (hw : Cond.constantLong own ix v ∈ sv_tbl) (kk : sv_V p l e R s m args below meth c nL G Q k n Wd (pc + 3) lv (.long v :: st)) : sv_V p l e R s m args below meth c nL G Q k n Wd pc lv (st) := fun H locs ls h1 h2 h3 => lv_ldc2 C.1 C.2.1 C.2.2.2.1 (C.2.2.2.2.2.word hw _) d (kk H locs ls h1 h2 h3)
theorem sv_ldc2d (C : sv_C p l s m args meth c cc nL own G) {ix : Nat} {v : UInt64} (d : decode cc pc = .ok (.ldc2_w ix, 3)) (hw : Cond.constantDouble own ix v ∈ sv_tbl) (kk : sv_V p l e R s m args below meth c nL G Q k n Wd (pc + 3) lv (.double v :: st)) : sv_V p l e R s m args below meth c nL G Q k n Wd pc lv (st) := fun H locs ls h1 h2 h3 => lv_ldc2d C.1 C.2.1 C.2.2.2.1 (C.2.2.2.2.2.word hw _) d (kk H locs ls h1 h2 h3)
theorem sv_iload_n (C : sv_C p l s m args meth c cc nL own G) {f : Fin 4} {i : Nat} {x : Int32} (d : decode cc pc = .ok (.iload_n f, 1)) (hi : (f : Nat) = i) (hg : sv_get lv i = some (.int x)) (kk : sv_V p l e R s m args below meth c nL G Q k n Wd (pc + 1) lv (.int x :: st)) : sv_V p l e R s m args below meth c nL G Q k n Wd pc lv (st) := fun H locs ls h1 h2 h3 => lv_iload_n C.1 C.2.1 d hi (sv_get_at h3 hg) (kk H locs ls h1 h2 h3)
theorem sv_iload (C : sv_C p l s m args meth c cc nL own G) {i : Nat} {x : Int32} (d : decode cc pc = .ok (.iload i, 2)) (hg : sv_get lv i = some (.int x)) (kk : sv_V p l e R s m args below meth c nL G Q k n Wd (pc + 2) lv (.int x :: st)) : sv_V p l e R s m args below meth c nL G Q k n Wd pc lv (st) := fun H locs ls h1 h2 h3 => lv_iload C.1 C.2.1 d (sv_get_at h3 hg) (kk H locs ls h1 h2 h3)
theorem sv_lload_n (C : sv_C p l s m args meth c cc nL own G) {f : Fin 4} {i : Nat} {x : Int64} (d : decode cc pc = .ok (.lload_n f, 1)) (hi : (f : Nat) = i) (hg : sv_get lv i = some (.long x)) (kk : sv_V p l e R s m args below meth c nL G Q k n Wd (pc + 1) lv (.long x :: st)) : sv_V p l e R s m args below meth c nL G Q k n Wd pc lv (st) := fun H locs ls h1 h2 h3 => lv_lload_n C.1 C.2.1 d hi (sv_get_at h3 hg) (kk H locs ls h1 h2 h3)
theorem sv_lload (C : sv_C p l s m args meth c cc nL own G) {i : Nat} {x : Int64} (d : decode cc pc = .ok (.lload i, 2)) (hg : sv_get lv i = some (.long x)) (kk : sv_V p l e R s m args below meth c nL G Q k n Wd (pc + 2) lv (.long x :: st)) : sv_V p l e R s m args below meth c nL G Q k n Wd pc lv (st) := fun H locs ls h1 h2 h3 => lv_lload C.1 C.2.1 d (sv_get_at h3 hg) (kk H locs ls h1 h2 h3)
theorem sv_aload_n (C : sv_C p l s m args meth c cc nL own G) {f : Fin 4} {i : Nat} {x : Nat} (d : decode cc pc = .ok (.aload_n f, 1)) (hi : (f : Nat) = i) (hg : sv_get lv i = some (.ref x)) (kk : sv_V p l e R s m args below meth c nL G Q k n Wd (pc + 1) lv (.ref x :: st)) : sv_V p l e R s m args below meth c nL G Q k n Wd pc lv (st) := fun H locs ls h1 h2 h3 => lv_aload_n C.1 C.2.1 d hi (sv_get_at h3 hg) (kk H locs ls h1 h2 h3)
theorem sv_aload (C : sv_C p l s m args meth c cc nL own G) {i : Nat} {x : Nat} (d : decode cc pc = .ok (.aload i, 2)) (hg : sv_get lv i = some (.ref x)) (kk : sv_V p l e R s m args below meth c nL G Q k n Wd (pc + 2) lv (.ref x :: st)) : sv_V p l e R s m args below meth c nL G Q k n Wd pc lv (st) := fun H locs ls h1 h2 h3 => lv_aload C.1 C.2.1 d (sv_get_at h3 hg) (kk H locs ls h1 h2 h3)
theorem sv_dload_n (C : sv_C p l s m args meth c cc nL own G) {f : Fin 4} {i : Nat} {x : UInt64} (d : decode cc pc = .ok (.dload_n f, 1)) (hi : (f : Nat) = i) (hg : sv_get lv i = some (.double x)) (kk : sv_V p l e R s m args below meth c nL G Q k n Wd (pc + 1) lv (.double x :: st)) : sv_V p l e R s m args below meth c nL G Q k n Wd pc lv (st) := fun H locs ls h1 h2 h3 => lv_dload_n C.1 C.2.1 d hi (sv_get_at h3 hg) (kk H locs ls h1 h2 h3)
theorem sv_dload (C : sv_C p l s m args meth c cc nL own G) {i : Nat} {x : UInt64} (d : decode cc pc = .ok (.dload i, 2)) (hg : sv_get lv i = some (.double x)) (kk : sv_V p l e R s m args below meth c nL G Q k n Wd (pc + 2) lv (.double x :: st)) : sv_V p l e R s m args below meth c nL G Q k n Wd pc lv (st) := fun H locs ls h1 h2 h3 => lv_dload C.1 C.2.1 d (sv_get_at h3 hg) (kk H locs ls h1 h2 h3)
theorem sv_aload_nN (C : sv_C p l s m args meth c cc nL own G) {f : Fin 4} {i : Nat} (d : decode cc pc = .ok (.aload_n f, 1)) (hi : (f : Nat) = i) (hg : sv_get lv i = some .null) (kk : sv_V p l e R s m args below meth c nL G Q k n Wd (pc + 1) lv (.null :: st)) : sv_V p l e R s m args below meth c nL G Q k n Wd pc lv (st) := fun H locs ls h1 h2 h3 => lv_aload_nN C.1 C.2.1 d hi (sv_get_at h3 hg) (kk H locs ls h1 h2 h3)
theorem sv_istore_n (C : sv_C p l s m args meth c cc nL own G) {f : Fin 4} {i : Nat} {x : Int32} (lv' : List (Nat × Value)) (d : decode cc pc = .ok (.istore_n f, 1)) (hi : (f : Nat) = i) (hn : i < nL) (hl : sv_of (sv_st1 lv i (.int x)) lv') (kk : sv_V p l e R s m args below meth c nL G Q k n Wd (pc + 1) lv' st) : sv_V p l e R s m args below meth c nL G Q k n Wd pc lv (.int x :: st) := fun H locs ls h1 h2 h3 => lv_istore_n C.1 C.2.1 d hi h3 hn rfl (fun ls' h3' => kk H locs ls' h1 h2 (sv_has_of h3' hl))
theorem sv_istore (C : sv_C p l s m args meth c cc nL own G) {i : Nat} {x : Int32} (lv' : List (Nat × Value)) (d : decode cc pc = .ok (.istore i, 2)) (hn : i < nL) (hl : sv_of (sv_st1 lv i (.int x)) lv') (kk : sv_V p l e R s m args below meth c nL G Q k n Wd (pc + 2) lv' st) : sv_V p l e R s m args below meth c nL G Q k n Wd pc lv (.int x :: st) := fun H locs ls h1 h2 h3 => lv_istore C.1 C.2.1 d h3 hn rfl (fun ls' h3' => kk H locs ls' h1 h2 (sv_has_of h3' hl))
theorem sv_lstore_n (C : sv_C p l s m args meth c cc nL own G) {f : Fin 4} {i : Nat} {x : Int64} (lv' : List (Nat × Value)) (d : decode cc pc = .ok (.lstore_n f, 1)) (hi : (f : Nat) = i) (hn : i + 1 < nL) (hl : sv_of (sv_st2 lv i (.long x)) lv') (kk : sv_V p l e R s m args below meth c nL G Q k n Wd (pc + 1) lv' st) : sv_V p l e R s m args below meth c nL G Q k n Wd pc lv (.long x :: st) := fun H locs ls h1 h2 h3 => lv_lstore_n C.1 C.2.1 d hi h3 hn rfl (fun ls' h3' => kk H locs ls' h1 h2 (sv_has_of h3' hl))
theorem sv_lstore (C : sv_C p l s m args meth c cc nL own G) {i : Nat} {x : Int64} (lv' : List (Nat × Value)) (d : decode cc pc = .ok (.lstore i, 2)) (hn : i + 1 < nL) (hl : sv_of (sv_st2 lv i (.long x)) lv') (kk : sv_V p l e R s m args below meth c nL G Q k n Wd (pc + 2) lv' st) : sv_V p l e R s m args below meth c nL G Q k n Wd pc lv (.long x :: st) := fun H locs ls h1 h2 h3 => lv_lstore C.1 C.2.1 d h3 hn rfl (fun ls' h3' => kk H locs ls' h1 h2 (sv_has_of h3' hl))
theorem sv_astore_n (C : sv_C p l s m args meth c cc nL own G) {f : Fin 4} {i : Nat} {x : Nat} (lv' : List (Nat × Value)) (d : decode cc pc = .ok (.astore_n f, 1)) (hi : (f : Nat) = i) (hn : i < nL) (hl : sv_of (sv_st1 lv i (.ref x)) lv') (kk : sv_V p l e R s m args below meth c nL G Q k n Wd (pc + 1) lv' st) : sv_V p l e R s m args below meth c nL G Q k n Wd pc lv (.ref x :: st) := fun H locs ls h1 h2 h3 => lv_astore_n C.1 C.2.1 d hi h3 hn rfl (fun ls' h3' => kk H locs ls' h1 h2 (sv_has_of h3' hl))
theorem sv_astore (C : sv_C p l s m args meth c cc nL own G) {i : Nat} {x : Nat} (lv' : List (Nat × Value)) (d : decode cc pc = .ok (.astore i, 2)) (hn : i < nL) (hl : sv_of (sv_st1 lv i (.ref x)) lv') (kk : sv_V p l e R s m args below meth c nL G Q k n Wd (pc + 2) lv' st) : sv_V p l e R s m args below meth c nL G Q k n Wd pc lv (.ref x :: st) := fun H locs ls h1 h2 h3 => lv_astore C.1 C.2.1 d h3 hn rfl (fun ls' h3' => kk H locs ls' h1 h2 (sv_has_of h3' hl))
theorem sv_dstore_n (C : sv_C p l s m args meth c cc nL own G) {f : Fin 4} {i : Nat} {x : UInt64} (lv' : List (Nat × Value)) (d : decode cc pc = .ok (.dstore_n f, 1)) (hi : (f : Nat) = i) (hn : i + 1 < nL) (hl : sv_of (sv_st2 lv i (.double x)) lv') (kk : sv_V p l e R s m args below meth c nL G Q k n Wd (pc + 1) lv' st) : sv_V p l e R s m args below meth c nL G Q k n Wd pc lv (.double x :: st) := fun H locs ls h1 h2 h3 => lv_dstore_n C.1 C.2.1 d hi h3 hn rfl (fun ls' h3' => kk H locs ls' h1 h2 (sv_has_of h3' hl))
theorem sv_dstore (C : sv_C p l s m args meth c cc nL own G) {i : Nat} {x : UInt64} (lv' : List (Nat × Value)) (d : decode cc pc = .ok (.dstore i, 2)) (hn : i + 1 < nL) (hl : sv_of (sv_st2 lv i (.double x)) lv') (kk : sv_V p l e R s m args below meth c nL G Q k n Wd (pc + 2) lv' st) : sv_V p l e R s m args below meth c nL G Q k n Wd pc lv (.double x :: st) := fun H locs ls h1 h2 h3 => lv_dstore C.1 C.2.1 d h3 hn rfl (fun ls' h3' => kk H locs ls' h1 h2 (sv_has_of h3' hl))
theorem sv_iinc (C : sv_C p l s m args meth c cc nL own G) {i : Nat} {y : Int} {x : Int32} (v : Int32) (lv' : List (Nat × Value)) (d : decode cc pc = .ok (.iinc i y, 3)) (hg : sv_get lv i = some (.int x)) (hv : x + Int32.ofInt y = v) (hn : i < nL) (hl : sv_of (sv_st1 lv i (.int v)) lv') (kk : sv_V p l e R s m args below meth c nL G Q k n Wd (pc + 3) lv' st) : sv_V p l e R s m args below meth c nL G Q k n Wd pc lv st := fun H locs ls h1 h2 h3 => by
  obtain ⟨j, hj⟩ := List.getElem?_of_mem (sv_get_mem hg)
  exact lv_iinc C.1 C.2.1 d h3 hj hv hn rfl (fun ls' h3' => kk H locs ls' h1 h2 (sv_has_of h3' hl))
theorem sv_iadd (C : sv_C p l s m args meth c cc nL own G) {x y : Int32} (d : decode cc pc = .ok (.iadd, 1)) (kk : sv_V p l e R s m args below meth c nL G Q k n Wd (pc + 1) lv (.int (x + y) :: st)) : sv_V p l e R s m args below meth c nL G Q k n Wd pc lv (.int y :: .int x :: st) := fun H locs ls h1 h2 h3 => lv_iadd C.1 C.2.1 d (kk H locs ls h1 h2 h3)
theorem sv_isub (C : sv_C p l s m args meth c cc nL own G) {x y : Int32} (d : decode cc pc = .ok (.isub, 1)) (kk : sv_V p l e R s m args below meth c nL G Q k n Wd (pc + 1) lv (.int (x - y) :: st)) : sv_V p l e R s m args below meth c nL G Q k n Wd pc lv (.int y :: .int x :: st) := fun H locs ls h1 h2 h3 => lv_isub C.1 C.2.1 d (kk H locs ls h1 h2 h3)
theorem sv_imul (C : sv_C p l s m args meth c cc nL own G) {x y : Int32} (d : decode cc pc = .ok (.imul, 1)) (kk : sv_V p l e R s m args below meth c nL G Q k n Wd (pc + 1) lv (.int (x * y) :: st)) : sv_V p l e R s m args below meth c nL G Q k n Wd pc lv (.int y :: .int x :: st) := fun H locs ls h1 h2 h3 => lv_imul C.1 C.2.1 d (kk H locs ls h1 h2 h3)
theorem sv_iand (C : sv_C p l s m args meth c cc nL own G) {x y : Int32} (d : decode cc pc = .ok (.iand, 1)) (kk : sv_V p l e R s m args below meth c nL G Q k n Wd (pc + 1) lv (.int (x &&& y) :: st)) : sv_V p l e R s m args below meth c nL G Q k n Wd pc lv (.int y :: .int x :: st) := fun H locs ls h1 h2 h3 => lv_iand C.1 C.2.1 d (kk H locs ls h1 h2 h3)
theorem sv_ladd (C : sv_C p l s m args meth c cc nL own G) {x y : Int64} (d : decode cc pc = .ok (.ladd, 1)) (kk : sv_V p l e R s m args below meth c nL G Q k n Wd (pc + 1) lv (.long (x + y) :: st)) : sv_V p l e R s m args below meth c nL G Q k n Wd pc lv (.long y :: .long x :: st) := fun H locs ls h1 h2 h3 => lv_ladd C.1 C.2.1 d (kk H locs ls h1 h2 h3)
theorem sv_lmul (C : sv_C p l s m args meth c cc nL own G) {x y : Int64} (d : decode cc pc = .ok (.lmul, 1)) (kk : sv_V p l e R s m args below meth c nL G Q k n Wd (pc + 1) lv (.long (x * y) :: st)) : sv_V p l e R s m args below meth c nL G Q k n Wd pc lv (.long y :: .long x :: st) := fun H locs ls h1 h2 h3 => lv_lmul C.1 C.2.1 d (kk H locs ls h1 h2 h3)
theorem sv_idiv (C : sv_C p l s m args meth c cc nL own G) {x y : Int32} (d : decode cc pc = .ok (.idiv, 1)) (hne : ¬ y = 0) (kk : sv_V p l e R s m args below meth c nL G Q k n Wd (pc + 1) lv (.int (x / y) :: st)) : sv_V p l e R s m args below meth c nL G Q k n Wd pc lv (.int y :: .int x :: st) := fun H locs ls h1 h2 h3 => lv_idiv C.1 C.2.1 d hne (kk H locs ls h1 h2 h3)
theorem sv_irem (C : sv_C p l s m args meth c cc nL own G) {x y : Int32} (d : decode cc pc = .ok (.irem, 1)) (hne : ¬ y = 0) (kk : sv_V p l e R s m args below meth c nL G Q k n Wd (pc + 1) lv (.int (x - x / y * y) :: st)) : sv_V p l e R s m args below meth c nL G Q k n Wd pc lv (.int y :: .int x :: st) := fun H locs ls h1 h2 h3 => lv_irem C.1 C.2.1 d hne (kk H locs ls h1 h2 h3)
theorem sv_i2l (C : sv_C p l s m args meth c cc nL own G) {x : Int32} (d : decode cc pc = .ok (.i2l, 1)) (kk : sv_V p l e R s m args below meth c nL G Q k n Wd (pc + 1) lv (.long x.toInt64 :: st)) : sv_V p l e R s m args below meth c nL G Q k n Wd pc lv (.int x :: st) := fun H locs ls h1 h2 h3 => lv_i2l C.1 C.2.1 d rfl (kk H locs ls h1 h2 h3)
theorem sv_i2c (C : sv_C p l s m args meth c cc nL own G) {x : Int32} (d : decode cc pc = .ok (.i2c, 1)) (kk : sv_V p l e R s m args below meth c nL G Q k n Wd (pc + 1) lv (.int (x.toUInt32 % 65536).toInt32 :: st)) : sv_V p l e R s m args below meth c nL G Q k n Wd pc lv (.int x :: st) := fun H locs ls h1 h2 h3 => lv_i2c C.1 C.2.1 d rfl (kk H locs ls h1 h2 h3)
theorem sv_lshl (C : sv_C p l s m args meth c cc nL own G) {x : Int64} {y : Int32} (d : decode cc pc = .ok (.lshl, 1)) (kk : sv_V p l e R s m args below meth c nL G Q k n Wd (pc + 1) lv (.long (x <<< (y.toInt64 &&& 63)) :: st)) : sv_V p l e R s m args below meth c nL G Q k n Wd pc lv (.int y :: .long x :: st) := fun H locs ls h1 h2 h3 => lv_lshl C.1 C.2.1 d rfl (kk H locs ls h1 h2 h3)
theorem sv_i2d (C : sv_C p l s m args meth c cc nL own G) {x : Int32} (d : decode cc pc = .ok (.i2d, 1)) (kk : sv_V p l e R s m args below meth c nL G Q k n Wd (pc + 1) lv (.double (FP.i2d x) :: st)) : sv_V p l e R s m args below meth c nL G Q k n Wd pc lv (.int x :: st) := fun H locs ls h1 h2 h3 => lv_i2d C.1 C.2.1 d (kk H locs ls h1 h2 h3)
theorem sv_d2l (C : sv_C p l s m args meth c cc nL own G) {x : UInt64} (d : decode cc pc = .ok (.d2l, 1)) (kk : sv_V p l e R s m args below meth c nL G Q k n Wd (pc + 1) lv (.long (FP.d2l x) :: st)) : sv_V p l e R s m args below meth c nL G Q k n Wd pc lv (.double x :: st) := fun H locs ls h1 h2 h3 => lv_d2l C.1 C.2.1 d (kk H locs ls h1 h2 h3)
theorem sv_ddiv (C : sv_C p l s m args meth c cc nL own G) {x y : UInt64} (d : decode cc pc = .ok (.ddiv, 1)) (hne : vf_n64 (FP.ddiv x y)) (kk : sv_V p l e R s m args below meth c nL G Q k n Wd (pc + 1) lv (.double (FP.ddiv x y) :: st)) : sv_V p l e R s m args below meth c nL G Q k n Wd pc lv (.double y :: .double x :: st) := fun H locs ls h1 h2 h3 => lv_ddiv C.1 C.2.1 d hne (kk H locs ls h1 h2 h3)
theorem sv_dmul (C : sv_C p l s m args meth c cc nL own G) {x y : UInt64} (d : decode cc pc = .ok (.dmul, 1)) (hne : vf_n64 (FP.dmul x y)) (kk : sv_V p l e R s m args below meth c nL G Q k n Wd (pc + 1) lv (.double (FP.dmul x y) :: st)) : sv_V p l e R s m args below meth c nL G Q k n Wd pc lv (.double y :: .double x :: st) := fun H locs ls h1 h2 h3 => lv_dmul C.1 C.2.1 d hne (kk H locs ls h1 h2 h3)
theorem sv_dsub (C : sv_C p l s m args meth c cc nL own G) {x y : UInt64} (d : decode cc pc = .ok (.dsub, 1)) (hne : vf_n64 (FP.dsub x y)) (kk : sv_V p l e R s m args below meth c nL G Q k n Wd (pc + 1) lv (.double (FP.dsub x y) :: st)) : sv_V p l e R s m args below meth c nL G Q k n Wd pc lv (.double y :: .double x :: st) := fun H locs ls h1 h2 h3 => lv_dsub C.1 C.2.1 d hne (kk H locs ls h1 h2 h3)
theorem sv_dcmp (C : sv_C p l s m args meth c cc nL own G) {x y : UInt64} {op : CmpOp} (d : decode cc pc = .ok (.dcmp op, 1)) (kk : sv_V p l e R s m args below meth c nL G Q k n Wd (pc + 1) lv (.int (Op.cmpValue (FP.dcmp x y) op) :: st)) : sv_V p l e R s m args below meth c nL G Q k n Wd pc lv (.double y :: .double x :: st) := fun H locs ls h1 h2 h3 => lv_dcmp C.1 C.2.1 d (kk H locs ls h1 h2 h3)
theorem sv_dup (C : sv_C p l s m args meth c cc nL own G) {v : Value} (d : decode cc pc = .ok (.dup, 1)) (hv : v.category = 1) (kk : sv_V p l e R s m args below meth c nL G Q k n Wd (pc + 1) lv (v :: v :: st)) : sv_V p l e R s m args below meth c nL G Q k n Wd pc lv (v :: st) := fun H locs ls h1 h2 h3 => lv_dup C.1 C.2.1 d hv (kk H locs ls h1 h2 h3)
theorem sv_pop (C : sv_C p l s m args meth c cc nL own G) {v : Value} (d : decode cc pc = .ok (.pop, 1)) (hv : v.category = 1) (kk : sv_V p l e R s m args below meth c nL G Q k n Wd (pc + 1) lv (st)) : sv_V p l e R s m args below meth c nL G Q k n Wd pc lv (v :: st) := fun H locs ls h1 h2 h3 => lv_pop C.1 C.2.1 d hv (kk H locs ls h1 h2 h3)
theorem sv_dup2_11 (C : sv_C p l s m args meth c cc nL own G) {va vb : Value} (d : decode cc pc = .ok (.dup2, 1)) (hva : va.category = 1) (hvb : vb.category = 1) (kk : sv_V p l e R s m args below meth c nL G Q k n Wd (pc + 1) lv (va :: vb :: va :: vb :: st)) : sv_V p l e R s m args below meth c nL G Q k n Wd pc lv (va :: vb :: st) := fun H locs ls h1 h2 h3 => lv_dup2_11 C.1 C.2.1 d hva hvb (kk H locs ls h1 h2 h3)
theorem sv_goto (C : sv_C p l s m args meth c cc nL own G) {off : Int} (tgt : Nat) (d : decode cc pc = .ok (.goto off, 3)) (ht : (pc : Int) + off = (tgt : Int)) (kk : sv_V p l e R s m args below meth c nL G Q k n Wd tgt lv (st)) : sv_V p l e R s m args below meth c nL G Q k n Wd pc lv (st) := fun H locs ls h1 h2 h3 => lv_goto C.1 C.2.1 d ht (kk H locs ls h1 h2 h3)
theorem sv_if_eq (C : sv_C p l s m args meth c cc nL own G) {x : Int32} {off : Int} (tgt : Nat) (d : decode cc pc = .ok (.ifCond .eq off, 3)) (ht : (pc : Int) + off = (tgt : Int)) (kt : x = 0 → sv_V p l e R s m args below meth c nL G Q k n Wd tgt lv st) (kf : ¬ x = 0 → sv_V p l e R s m args below meth c nL G Q k n Wd (pc + 3) lv st) : sv_V p l e R s m args below meth c nL G Q k n Wd pc lv (.int x :: st) := fun H locs ls h1 h2 h3 => lv_if_eq C.1 C.2.1 d ht (fun q => kt q H locs ls h1 h2 h3) (fun q => kf q H locs ls h1 h2 h3)
theorem sv_icmp_eq (C : sv_C p l s m args meth c cc nL own G) {x y : Int32} {off : Int} (tgt : Nat) (d : decode cc pc = .ok (.if_icmp .eq off, 3)) (ht : (pc : Int) + off = (tgt : Int)) (kt : x = y → sv_V p l e R s m args below meth c nL G Q k n Wd tgt lv st) (kf : ¬ x = y → sv_V p l e R s m args below meth c nL G Q k n Wd (pc + 3) lv st) : sv_V p l e R s m args below meth c nL G Q k n Wd pc lv (.int y :: .int x :: st) := fun H locs ls h1 h2 h3 => lv_icmp_eq C.1 C.2.1 d ht (fun q => kt q H locs ls h1 h2 h3) (fun q => kf q H locs ls h1 h2 h3)
theorem sv_sel_if_eq (C : sv_C p l s m args meth c cc nL own G) {x : Int32} {off off2 : Int} {xa xb : Int} {va vb : Int32} (tgt : Nat) (d : decode cc pc = .ok (.ifCond .eq off, 3)) (ht : (pc : Int) + off = (tgt : Int)) (d1 : decode cc (pc + 3) = .ok (.iconst xa, 1)) (ha : Int32.ofInt xa = va) (d2 : decode cc (pc + 4) = .ok (.goto off2, 3)) (ht2 : ((pc + 4 : Nat) : Int) + off2 = ((tgt + 1 : Nat) : Int)) (d3 : decode cc tgt = .ok (.iconst xb, 1)) (hb : Int32.ofInt xb = vb) (kk : sv_V p l e R s m args below meth c nL G Q k n Wd (tgt + 1) lv (.int (if x = 0 then vb else va) :: st)) : sv_V p l e R s m args below meth c nL G Q k n Wd pc lv (.int x :: st) := sv_if_eq C tgt d ht (fun q => sv_iconst C d3 hb (by rw [if_pos q] at kk; exact kk)) (fun q => sv_iconst C d1 ha (sv_goto C (tgt + 1) d2 ht2 (by rw [if_neg q] at kk; exact kk)))
theorem sv_sel_icmp_eq (C : sv_C p l s m args meth c cc nL own G) {x y : Int32} {off off2 : Int} {xa xb : Int} {va vb : Int32} (tgt : Nat) (d : decode cc pc = .ok (.if_icmp .eq off, 3)) (ht : (pc : Int) + off = (tgt : Int)) (d1 : decode cc (pc + 3) = .ok (.iconst xa, 1)) (ha : Int32.ofInt xa = va) (d2 : decode cc (pc + 4) = .ok (.goto off2, 3)) (ht2 : ((pc + 4 : Nat) : Int) + off2 = ((tgt + 1 : Nat) : Int)) (d3 : decode cc tgt = .ok (.iconst xb, 1)) (hb : Int32.ofInt xb = vb) (kk : sv_V p l e R s m args below meth c nL G Q k n Wd (tgt + 1) lv (.int (if x = y then vb else va) :: st)) : sv_V p l e R s m args below meth c nL G Q k n Wd pc lv (.int y :: .int x :: st) := sv_icmp_eq C tgt d ht (fun q => sv_iconst C d3 hb (by rw [if_pos q] at kk; exact kk)) (fun q => sv_iconst C d1 ha (sv_goto C (tgt + 1) d2 ht2 (by rw [if_neg q] at kk; exact kk)))
theorem sv_if_ne (C : sv_C p l s m args meth c cc nL own G) {x : Int32} {off : Int} (tgt : Nat) (d : decode cc pc = .ok (.ifCond .ne off, 3)) (ht : (pc : Int) + off = (tgt : Int)) (kt : ¬ x = 0 → sv_V p l e R s m args below meth c nL G Q k n Wd tgt lv st) (kf : x = 0 → sv_V p l e R s m args below meth c nL G Q k n Wd (pc + 3) lv st) : sv_V p l e R s m args below meth c nL G Q k n Wd pc lv (.int x :: st) := fun H locs ls h1 h2 h3 => lv_if_ne C.1 C.2.1 d ht (fun q => kt q H locs ls h1 h2 h3) (fun q => kf q H locs ls h1 h2 h3)
theorem sv_icmp_ne (C : sv_C p l s m args meth c cc nL own G) {x y : Int32} {off : Int} (tgt : Nat) (d : decode cc pc = .ok (.if_icmp .ne off, 3)) (ht : (pc : Int) + off = (tgt : Int)) (kt : ¬ x = y → sv_V p l e R s m args below meth c nL G Q k n Wd tgt lv st) (kf : x = y → sv_V p l e R s m args below meth c nL G Q k n Wd (pc + 3) lv st) : sv_V p l e R s m args below meth c nL G Q k n Wd pc lv (.int y :: .int x :: st) := fun H locs ls h1 h2 h3 => lv_icmp_ne C.1 C.2.1 d ht (fun q => kt q H locs ls h1 h2 h3) (fun q => kf q H locs ls h1 h2 h3)
theorem sv_sel_if_ne (C : sv_C p l s m args meth c cc nL own G) {x : Int32} {off off2 : Int} {xa xb : Int} {va vb : Int32} (tgt : Nat) (d : decode cc pc = .ok (.ifCond .ne off, 3)) (ht : (pc : Int) + off = (tgt : Int)) (d1 : decode cc (pc + 3) = .ok (.iconst xa, 1)) (ha : Int32.ofInt xa = va) (d2 : decode cc (pc + 4) = .ok (.goto off2, 3)) (ht2 : ((pc + 4 : Nat) : Int) + off2 = ((tgt + 1 : Nat) : Int)) (d3 : decode cc tgt = .ok (.iconst xb, 1)) (hb : Int32.ofInt xb = vb) (kk : sv_V p l e R s m args below meth c nL G Q k n Wd (tgt + 1) lv (.int (if ¬ x = 0 then vb else va) :: st)) : sv_V p l e R s m args below meth c nL G Q k n Wd pc lv (.int x :: st) := sv_if_ne C tgt d ht (fun q => sv_iconst C d3 hb (by rw [if_pos q] at kk; exact kk)) (fun q => sv_iconst C d1 ha (sv_goto C (tgt + 1) d2 ht2 (by rw [if_neg (fun h => h q)] at kk; exact kk)))
theorem sv_sel_icmp_ne (C : sv_C p l s m args meth c cc nL own G) {x y : Int32} {off off2 : Int} {xa xb : Int} {va vb : Int32} (tgt : Nat) (d : decode cc pc = .ok (.if_icmp .ne off, 3)) (ht : (pc : Int) + off = (tgt : Int)) (d1 : decode cc (pc + 3) = .ok (.iconst xa, 1)) (ha : Int32.ofInt xa = va) (d2 : decode cc (pc + 4) = .ok (.goto off2, 3)) (ht2 : ((pc + 4 : Nat) : Int) + off2 = ((tgt + 1 : Nat) : Int)) (d3 : decode cc tgt = .ok (.iconst xb, 1)) (hb : Int32.ofInt xb = vb) (kk : sv_V p l e R s m args below meth c nL G Q k n Wd (tgt + 1) lv (.int (if ¬ x = y then vb else va) :: st)) : sv_V p l e R s m args below meth c nL G Q k n Wd pc lv (.int y :: .int x :: st) := sv_icmp_ne C tgt d ht (fun q => sv_iconst C d3 hb (by rw [if_pos q] at kk; exact kk)) (fun q => sv_iconst C d1 ha (sv_goto C (tgt + 1) d2 ht2 (by rw [if_neg (fun h => h q)] at kk; exact kk)))
theorem sv_if_lt (C : sv_C p l s m args meth c cc nL own G) {x : Int32} {off : Int} (tgt : Nat) (d : decode cc pc = .ok (.ifCond .lt off, 3)) (ht : (pc : Int) + off = (tgt : Int)) (kt : x < 0 → sv_V p l e R s m args below meth c nL G Q k n Wd tgt lv st) (kf : ¬ x < 0 → sv_V p l e R s m args below meth c nL G Q k n Wd (pc + 3) lv st) : sv_V p l e R s m args below meth c nL G Q k n Wd pc lv (.int x :: st) := fun H locs ls h1 h2 h3 => lv_if_lt C.1 C.2.1 d ht (fun q => kt q H locs ls h1 h2 h3) (fun q => kf q H locs ls h1 h2 h3)
theorem sv_icmp_lt (C : sv_C p l s m args meth c cc nL own G) {x y : Int32} {off : Int} (tgt : Nat) (d : decode cc pc = .ok (.if_icmp .lt off, 3)) (ht : (pc : Int) + off = (tgt : Int)) (kt : x < y → sv_V p l e R s m args below meth c nL G Q k n Wd tgt lv st) (kf : ¬ x < y → sv_V p l e R s m args below meth c nL G Q k n Wd (pc + 3) lv st) : sv_V p l e R s m args below meth c nL G Q k n Wd pc lv (.int y :: .int x :: st) := fun H locs ls h1 h2 h3 => lv_icmp_lt C.1 C.2.1 d ht (fun q => kt q H locs ls h1 h2 h3) (fun q => kf q H locs ls h1 h2 h3)
theorem sv_sel_if_lt (C : sv_C p l s m args meth c cc nL own G) {x : Int32} {off off2 : Int} {xa xb : Int} {va vb : Int32} (tgt : Nat) (d : decode cc pc = .ok (.ifCond .lt off, 3)) (ht : (pc : Int) + off = (tgt : Int)) (d1 : decode cc (pc + 3) = .ok (.iconst xa, 1)) (ha : Int32.ofInt xa = va) (d2 : decode cc (pc + 4) = .ok (.goto off2, 3)) (ht2 : ((pc + 4 : Nat) : Int) + off2 = ((tgt + 1 : Nat) : Int)) (d3 : decode cc tgt = .ok (.iconst xb, 1)) (hb : Int32.ofInt xb = vb) (kk : sv_V p l e R s m args below meth c nL G Q k n Wd (tgt + 1) lv (.int (if x < 0 then vb else va) :: st)) : sv_V p l e R s m args below meth c nL G Q k n Wd pc lv (.int x :: st) := sv_if_lt C tgt d ht (fun q => sv_iconst C d3 hb (by rw [if_pos q] at kk; exact kk)) (fun q => sv_iconst C d1 ha (sv_goto C (tgt + 1) d2 ht2 (by rw [if_neg q] at kk; exact kk)))
theorem sv_sel_icmp_lt (C : sv_C p l s m args meth c cc nL own G) {x y : Int32} {off off2 : Int} {xa xb : Int} {va vb : Int32} (tgt : Nat) (d : decode cc pc = .ok (.if_icmp .lt off, 3)) (ht : (pc : Int) + off = (tgt : Int)) (d1 : decode cc (pc + 3) = .ok (.iconst xa, 1)) (ha : Int32.ofInt xa = va) (d2 : decode cc (pc + 4) = .ok (.goto off2, 3)) (ht2 : ((pc + 4 : Nat) : Int) + off2 = ((tgt + 1 : Nat) : Int)) (d3 : decode cc tgt = .ok (.iconst xb, 1)) (hb : Int32.ofInt xb = vb) (kk : sv_V p l e R s m args below meth c nL G Q k n Wd (tgt + 1) lv (.int (if x < y then vb else va) :: st)) : sv_V p l e R s m args below meth c nL G Q k n Wd pc lv (.int y :: .int x :: st) := sv_icmp_lt C tgt d ht (fun q => sv_iconst C d3 hb (by rw [if_pos q] at kk; exact kk)) (fun q => sv_iconst C d1 ha (sv_goto C (tgt + 1) d2 ht2 (by rw [if_neg q] at kk; exact kk)))
theorem sv_if_ge (C : sv_C p l s m args meth c cc nL own G) {x : Int32} {off : Int} (tgt : Nat) (d : decode cc pc = .ok (.ifCond .ge off, 3)) (ht : (pc : Int) + off = (tgt : Int)) (kt : 0 ≤ x → sv_V p l e R s m args below meth c nL G Q k n Wd tgt lv st) (kf : ¬ 0 ≤ x → sv_V p l e R s m args below meth c nL G Q k n Wd (pc + 3) lv st) : sv_V p l e R s m args below meth c nL G Q k n Wd pc lv (.int x :: st) := fun H locs ls h1 h2 h3 => lv_if_ge C.1 C.2.1 d ht (fun q => kt q H locs ls h1 h2 h3) (fun q => kf q H locs ls h1 h2 h3)
theorem sv_icmp_ge (C : sv_C p l s m args meth c cc nL own G) {x y : Int32} {off : Int} (tgt : Nat) (d : decode cc pc = .ok (.if_icmp .ge off, 3)) (ht : (pc : Int) + off = (tgt : Int)) (kt : y ≤ x → sv_V p l e R s m args below meth c nL G Q k n Wd tgt lv st) (kf : ¬ y ≤ x → sv_V p l e R s m args below meth c nL G Q k n Wd (pc + 3) lv st) : sv_V p l e R s m args below meth c nL G Q k n Wd pc lv (.int y :: .int x :: st) := fun H locs ls h1 h2 h3 => lv_icmp_ge C.1 C.2.1 d ht (fun q => kt q H locs ls h1 h2 h3) (fun q => kf q H locs ls h1 h2 h3)
theorem sv_sel_if_ge (C : sv_C p l s m args meth c cc nL own G) {x : Int32} {off off2 : Int} {xa xb : Int} {va vb : Int32} (tgt : Nat) (d : decode cc pc = .ok (.ifCond .ge off, 3)) (ht : (pc : Int) + off = (tgt : Int)) (d1 : decode cc (pc + 3) = .ok (.iconst xa, 1)) (ha : Int32.ofInt xa = va) (d2 : decode cc (pc + 4) = .ok (.goto off2, 3)) (ht2 : ((pc + 4 : Nat) : Int) + off2 = ((tgt + 1 : Nat) : Int)) (d3 : decode cc tgt = .ok (.iconst xb, 1)) (hb : Int32.ofInt xb = vb) (kk : sv_V p l e R s m args below meth c nL G Q k n Wd (tgt + 1) lv (.int (if 0 ≤ x then vb else va) :: st)) : sv_V p l e R s m args below meth c nL G Q k n Wd pc lv (.int x :: st) := sv_if_ge C tgt d ht (fun q => sv_iconst C d3 hb (by rw [if_pos q] at kk; exact kk)) (fun q => sv_iconst C d1 ha (sv_goto C (tgt + 1) d2 ht2 (by rw [if_neg q] at kk; exact kk)))
theorem sv_sel_icmp_ge (C : sv_C p l s m args meth c cc nL own G) {x y : Int32} {off off2 : Int} {xa xb : Int} {va vb : Int32} (tgt : Nat) (d : decode cc pc = .ok (.if_icmp .ge off, 3)) (ht : (pc : Int) + off = (tgt : Int)) (d1 : decode cc (pc + 3) = .ok (.iconst xa, 1)) (ha : Int32.ofInt xa = va) (d2 : decode cc (pc + 4) = .ok (.goto off2, 3)) (ht2 : ((pc + 4 : Nat) : Int) + off2 = ((tgt + 1 : Nat) : Int)) (d3 : decode cc tgt = .ok (.iconst xb, 1)) (hb : Int32.ofInt xb = vb) (kk : sv_V p l e R s m args below meth c nL G Q k n Wd (tgt + 1) lv (.int (if y ≤ x then vb else va) :: st)) : sv_V p l e R s m args below meth c nL G Q k n Wd pc lv (.int y :: .int x :: st) := sv_icmp_ge C tgt d ht (fun q => sv_iconst C d3 hb (by rw [if_pos q] at kk; exact kk)) (fun q => sv_iconst C d1 ha (sv_goto C (tgt + 1) d2 ht2 (by rw [if_neg q] at kk; exact kk)))
theorem sv_if_gt (C : sv_C p l s m args meth c cc nL own G) {x : Int32} {off : Int} (tgt : Nat) (d : decode cc pc = .ok (.ifCond .gt off, 3)) (ht : (pc : Int) + off = (tgt : Int)) (kt : 0 < x → sv_V p l e R s m args below meth c nL G Q k n Wd tgt lv st) (kf : ¬ 0 < x → sv_V p l e R s m args below meth c nL G Q k n Wd (pc + 3) lv st) : sv_V p l e R s m args below meth c nL G Q k n Wd pc lv (.int x :: st) := fun H locs ls h1 h2 h3 => lv_if_gt C.1 C.2.1 d ht (fun q => kt q H locs ls h1 h2 h3) (fun q => kf q H locs ls h1 h2 h3)
theorem sv_icmp_gt (C : sv_C p l s m args meth c cc nL own G) {x y : Int32} {off : Int} (tgt : Nat) (d : decode cc pc = .ok (.if_icmp .gt off, 3)) (ht : (pc : Int) + off = (tgt : Int)) (kt : y < x → sv_V p l e R s m args below meth c nL G Q k n Wd tgt lv st) (kf : ¬ y < x → sv_V p l e R s m args below meth c nL G Q k n Wd (pc + 3) lv st) : sv_V p l e R s m args below meth c nL G Q k n Wd pc lv (.int y :: .int x :: st) := fun H locs ls h1 h2 h3 => lv_icmp_gt C.1 C.2.1 d ht (fun q => kt q H locs ls h1 h2 h3) (fun q => kf q H locs ls h1 h2 h3)
theorem sv_sel_if_gt (C : sv_C p l s m args meth c cc nL own G) {x : Int32} {off off2 : Int} {xa xb : Int} {va vb : Int32} (tgt : Nat) (d : decode cc pc = .ok (.ifCond .gt off, 3)) (ht : (pc : Int) + off = (tgt : Int)) (d1 : decode cc (pc + 3) = .ok (.iconst xa, 1)) (ha : Int32.ofInt xa = va) (d2 : decode cc (pc + 4) = .ok (.goto off2, 3)) (ht2 : ((pc + 4 : Nat) : Int) + off2 = ((tgt + 1 : Nat) : Int)) (d3 : decode cc tgt = .ok (.iconst xb, 1)) (hb : Int32.ofInt xb = vb) (kk : sv_V p l e R s m args below meth c nL G Q k n Wd (tgt + 1) lv (.int (if 0 < x then vb else va) :: st)) : sv_V p l e R s m args below meth c nL G Q k n Wd pc lv (.int x :: st) := sv_if_gt C tgt d ht (fun q => sv_iconst C d3 hb (by rw [if_pos q] at kk; exact kk)) (fun q => sv_iconst C d1 ha (sv_goto C (tgt + 1) d2 ht2 (by rw [if_neg q] at kk; exact kk)))
theorem sv_sel_icmp_gt (C : sv_C p l s m args meth c cc nL own G) {x y : Int32} {off off2 : Int} {xa xb : Int} {va vb : Int32} (tgt : Nat) (d : decode cc pc = .ok (.if_icmp .gt off, 3)) (ht : (pc : Int) + off = (tgt : Int)) (d1 : decode cc (pc + 3) = .ok (.iconst xa, 1)) (ha : Int32.ofInt xa = va) (d2 : decode cc (pc + 4) = .ok (.goto off2, 3)) (ht2 : ((pc + 4 : Nat) : Int) + off2 = ((tgt + 1 : Nat) : Int)) (d3 : decode cc tgt = .ok (.iconst xb, 1)) (hb : Int32.ofInt xb = vb) (kk : sv_V p l e R s m args below meth c nL G Q k n Wd (tgt + 1) lv (.int (if y < x then vb else va) :: st)) : sv_V p l e R s m args below meth c nL G Q k n Wd pc lv (.int y :: .int x :: st) := sv_icmp_gt C tgt d ht (fun q => sv_iconst C d3 hb (by rw [if_pos q] at kk; exact kk)) (fun q => sv_iconst C d1 ha (sv_goto C (tgt + 1) d2 ht2 (by rw [if_neg q] at kk; exact kk)))
theorem sv_if_le (C : sv_C p l s m args meth c cc nL own G) {x : Int32} {off : Int} (tgt : Nat) (d : decode cc pc = .ok (.ifCond .le off, 3)) (ht : (pc : Int) + off = (tgt : Int)) (kt : x ≤ 0 → sv_V p l e R s m args below meth c nL G Q k n Wd tgt lv st) (kf : ¬ x ≤ 0 → sv_V p l e R s m args below meth c nL G Q k n Wd (pc + 3) lv st) : sv_V p l e R s m args below meth c nL G Q k n Wd pc lv (.int x :: st) := fun H locs ls h1 h2 h3 => lv_if_le C.1 C.2.1 d ht (fun q => kt q H locs ls h1 h2 h3) (fun q => kf q H locs ls h1 h2 h3)
theorem sv_icmp_le (C : sv_C p l s m args meth c cc nL own G) {x y : Int32} {off : Int} (tgt : Nat) (d : decode cc pc = .ok (.if_icmp .le off, 3)) (ht : (pc : Int) + off = (tgt : Int)) (kt : x ≤ y → sv_V p l e R s m args below meth c nL G Q k n Wd tgt lv st) (kf : ¬ x ≤ y → sv_V p l e R s m args below meth c nL G Q k n Wd (pc + 3) lv st) : sv_V p l e R s m args below meth c nL G Q k n Wd pc lv (.int y :: .int x :: st) := fun H locs ls h1 h2 h3 => lv_icmp_le C.1 C.2.1 d ht (fun q => kt q H locs ls h1 h2 h3) (fun q => kf q H locs ls h1 h2 h3)
theorem sv_sel_if_le (C : sv_C p l s m args meth c cc nL own G) {x : Int32} {off off2 : Int} {xa xb : Int} {va vb : Int32} (tgt : Nat) (d : decode cc pc = .ok (.ifCond .le off, 3)) (ht : (pc : Int) + off = (tgt : Int)) (d1 : decode cc (pc + 3) = .ok (.iconst xa, 1)) (ha : Int32.ofInt xa = va) (d2 : decode cc (pc + 4) = .ok (.goto off2, 3)) (ht2 : ((pc + 4 : Nat) : Int) + off2 = ((tgt + 1 : Nat) : Int)) (d3 : decode cc tgt = .ok (.iconst xb, 1)) (hb : Int32.ofInt xb = vb) (kk : sv_V p l e R s m args below meth c nL G Q k n Wd (tgt + 1) lv (.int (if x ≤ 0 then vb else va) :: st)) : sv_V p l e R s m args below meth c nL G Q k n Wd pc lv (.int x :: st) := sv_if_le C tgt d ht (fun q => sv_iconst C d3 hb (by rw [if_pos q] at kk; exact kk)) (fun q => sv_iconst C d1 ha (sv_goto C (tgt + 1) d2 ht2 (by rw [if_neg q] at kk; exact kk)))
theorem sv_sel_icmp_le (C : sv_C p l s m args meth c cc nL own G) {x y : Int32} {off off2 : Int} {xa xb : Int} {va vb : Int32} (tgt : Nat) (d : decode cc pc = .ok (.if_icmp .le off, 3)) (ht : (pc : Int) + off = (tgt : Int)) (d1 : decode cc (pc + 3) = .ok (.iconst xa, 1)) (ha : Int32.ofInt xa = va) (d2 : decode cc (pc + 4) = .ok (.goto off2, 3)) (ht2 : ((pc + 4 : Nat) : Int) + off2 = ((tgt + 1 : Nat) : Int)) (d3 : decode cc tgt = .ok (.iconst xb, 1)) (hb : Int32.ofInt xb = vb) (kk : sv_V p l e R s m args below meth c nL G Q k n Wd (tgt + 1) lv (.int (if x ≤ y then vb else va) :: st)) : sv_V p l e R s m args below meth c nL G Q k n Wd pc lv (.int y :: .int x :: st) := sv_icmp_le C tgt d ht (fun q => sv_iconst C d3 hb (by rw [if_pos q] at kk; exact kk)) (fun q => sv_iconst C d1 ha (sv_goto C (tgt + 1) d2 ht2 (by rw [if_neg q] at kk; exact kk)))
theorem sv_lcmp (C : sv_C p l s m args meth c cc nL own G) {x y : Int64} (d : decode cc pc = .ok (.lcmp, 1)) (kk : sv_V p l e R s m args below meth c nL G Q k n Wd (pc + 1) lv (.int (lg_cmp x y) :: st)) : sv_V p l e R s m args below meth c nL G Q k n Wd pc lv (.long y :: .long x :: st) := fun H locs ls h1 h2 h3 => W.lcmp C.1 C.2.1 d (kk H locs ls h1 h2 h3)
theorem sv_ifnull (C : sv_C p l s m args meth c cc nL own G) {x : Nat} {off : Int} (d : decode cc pc = .ok (.ifnull off, 3)) (kk : sv_V p l e R s m args below meth c nL G Q k n Wd (pc + 3) lv (st)) : sv_V p l e R s m args below meth c nL G Q k n Wd pc lv (.ref x :: st) := fun H locs ls h1 h2 h3 => lv_ifnull C.1 C.2.1 d (kk H locs ls h1 h2 h3)
theorem sv_ifnullN (C : sv_C p l s m args meth c cc nL own G) {off : Int} (tgt : Nat) (d : decode cc pc = .ok (.ifnull off, 3)) (ht : (pc : Int) + off = (tgt : Int)) (kk : sv_V p l e R s m args below meth c nL G Q k n Wd tgt lv (st)) : sv_V p l e R s m args below meth c nL G Q k n Wd pc lv (.null :: st) := fun H locs ls h1 h2 h3 => lv_ifnullN C.1 C.2.1 d ht (kk H locs ls h1 h2 h3)
theorem sv_tableIn (C : sv_C p l s m args meth c cc nL own G) {dflt lo hi : Int} {offs : Array Int} {len : Nat} {x : Int32} {off : Int} (tgt : Nat) (d : decode cc pc = .ok (.tableswitch dflt lo hi offs, len)) (a1 : ¬ x.toInt < lo) (a2 : ¬ hi < x.toInt) (ho : offs[(x.toInt - lo).toNat]? = some off) (ht : (pc : Int) + off = (tgt : Int)) (kk : sv_V p l e R s m args below meth c nL G Q k n Wd tgt lv (st)) : sv_V p l e R s m args below meth c nL G Q k n Wd pc lv (.int x :: st) := fun H locs ls h1 h2 h3 => lv_tableIn C.1 C.2.1 d a1 a2 ho ht (kk H locs ls h1 h2 h3)
theorem sv_tableOut (C : sv_C p l s m args meth c cc nL own G) {dflt lo hi : Int} {offs : Array Int} {len : Nat} {x : Int32} (tgt : Nat) (d : decode cc pc = .ok (.tableswitch dflt lo hi offs, len)) (ho : x.toInt < lo ∨ hi < x.toInt) (ht : (pc : Int) + dflt = (tgt : Int)) (kk : sv_V p l e R s m args below meth c nL G Q k n Wd tgt lv (st)) : sv_V p l e R s m args below meth c nL G Q k n Wd pc lv (.int x :: st) := fun H locs ls h1 h2 h3 => lv_tableOut C.1 C.2.1 d ho ht (kk H locs ls h1 h2 h3)
theorem sv_sub {lv' : List (Nat × Value)} (hl : sv_of lv lv') (kk : sv_V p l e R s m args below meth c nL G Q k n Wd pc lv' st) : sv_V p l e R s m args below meth c nL G Q k n Wd pc lv st := fun H locs ls h1 h2 h3 => kk H locs ls h1 h2 (sv_has_of h3 hl)
theorem sv_wd (h : ∀ H, Wd H → Wd' H) (kk : sv_V p l e R s m args below meth c nL G Q k n Wd' pc lv st) : sv_V p l e R s m args below meth c nL G Q k n Wd pc lv st := fun H locs ls h1 h2 h3 => kk H locs ls (h H h1) h2 h3
theorem sv_topi {v : Int32} (kk : ∀ x : Int32, x = v → sv_V p l e R s m args below meth c nL G Q k n Wd pc lv (.int x :: st)) : sv_V p l e R s m args below meth c nL G Q k n Wd pc lv (.int v :: st) := kk v rfl
theorem sv_topl {v : Int64} (kk : ∀ x : Int64, x = v → sv_V p l e R s m args below meth c nL G Q k n Wd pc lv (.long x :: st)) : sv_V p l e R s m args below meth c nL G Q k n Wd pc lv (.long v :: st) := kk v rfl
theorem sv_topd {v : UInt64} (kk : ∀ x : UInt64, x = v → sv_V p l e R s m args below meth c nL G Q k n Wd pc lv (.double x :: st)) : sv_V p l e R s m args below meth c nL G Q k n Wd pc lv (.double v :: st) := kk v rfl
theorem sv_set {v v' : Value} (h : v = v') (kk : sv_V p l e R s m args below meth c nL G Q k n Wd pc lv (v' :: st)) : sv_V p l e R s m args below meth c nL G Q k n Wd pc lv (v :: st) := h ▸ kk
end SVR
end
section
/-! rows that read and write a world -/
theorem sv_one {D : va_G} {q : Nat × va_E} {H : Heap} (h : va_at D vwCl q H) : va_P D vwCl [q] H := fun k r hk => by
  cases k with
  | zero => cases hk; exact h
  | succ k => cases hk
def sv_cls (ci : Nat) (Cn : String) (T : u_T) (N : Nat) : Prop := vwCl[ci]? = some (Cn, T, N) ∧ (∀ w ∈ u_ws Cn T N, w ∈ sv_tbl) ∧ (∃ ty0 : Nat → FieldType, ∀ k, k < N → parseFieldDescriptor (T k).2.2.1 = some (ty0 k)) ∧ (∀ a, a < N → ∀ b, b < N → a ≠ b → (T a).2.1 ≠ (T b).2.1)
set_option maxRecDepth 20000 in
theorem sv_lay0 : ∀ w ∈ u_ws RX0 TX0 6, w ∈ sv_tbl := List.forall_mem_cons.mpr ⟨kw_81, List.forall_mem_cons.mpr ⟨kw_83, List.forall_mem_cons.mpr ⟨kw_85, List.forall_mem_cons.mpr ⟨kw_87, List.forall_mem_cons.mpr ⟨kw_89, List.forall_mem_cons.mpr ⟨kw_91, fun _ h => nomatch h⟩⟩⟩⟩⟩⟩
theorem sv_cl0 : sv_cls 0 RX0 TX0 6 := ⟨rfl, sv_lay0, ⟨_, tyX0_ok⟩, nmX0⟩
set_option maxRecDepth 20000 in
theorem sv_lay1 : ∀ w ∈ u_ws RX1 TX1 3, w ∈ sv_tbl := List.forall_mem_cons.mpr ⟨kw_172, List.forall_mem_cons.mpr ⟨kw_174, List.forall_mem_cons.mpr ⟨kw_176, fun _ h => nomatch h⟩⟩⟩
theorem sv_cl1 : sv_cls 1 RX1 TX1 3 := ⟨rfl, sv_lay1, ⟨_, tyX1_ok⟩, nmX1⟩
set_option maxRecDepth 20000 in
theorem sv_lay2 : ∀ w ∈ u_ws RX2 TX2 6, w ∈ sv_tbl := List.forall_mem_cons.mpr ⟨kw_113, List.forall_mem_cons.mpr ⟨kw_115, List.forall_mem_cons.mpr ⟨kw_117, List.forall_mem_cons.mpr ⟨kw_119, List.forall_mem_cons.mpr ⟨kw_121, List.forall_mem_cons.mpr ⟨kw_123, fun _ h => nomatch h⟩⟩⟩⟩⟩⟩
theorem sv_cl2 : sv_cls 2 RX2 TX2 6 := ⟨rfl, sv_lay2, ⟨_, tyX2_ok⟩, nmX2⟩
set_option maxRecDepth 20000 in
theorem sv_lay3 : ∀ w ∈ u_ws RX3 TX3 7, w ∈ sv_tbl := List.forall_mem_cons.mpr ⟨kw_144, List.forall_mem_cons.mpr ⟨kw_146, List.forall_mem_cons.mpr ⟨kw_148, List.forall_mem_cons.mpr ⟨kw_150, List.forall_mem_cons.mpr ⟨kw_152, List.forall_mem_cons.mpr ⟨kw_154, List.forall_mem_cons.mpr ⟨kw_156, fun _ h => nomatch h⟩⟩⟩⟩⟩⟩⟩
theorem sv_cl3 : sv_cls 3 RX3 TX3 7 := ⟨rfl, sv_lay3, ⟨_, tyX3_ok⟩, nmX3⟩
set_option maxRecDepth 20000 in
theorem sv_lay4 : ∀ w ∈ u_ws RX4 TX4 2, w ∈ sv_tbl := List.forall_mem_cons.mpr ⟨kw_188, List.forall_mem_cons.mpr ⟨kw_190, fun _ h => nomatch h⟩⟩
theorem sv_cl4 : sv_cls 4 RX4 TX4 2 := ⟨rfl, sv_lay4, ⟨_, tyX4_ok⟩, nmX4⟩
set_option maxRecDepth 20000 in
theorem sv_lay5 : ∀ w ∈ u_ws RX5 TX5 4, w ∈ sv_tbl := List.forall_mem_cons.mpr ⟨kw_198, List.forall_mem_cons.mpr ⟨kw_200, List.forall_mem_cons.mpr ⟨kw_202, List.forall_mem_cons.mpr ⟨kw_204, fun _ h => nomatch h⟩⟩⟩⟩
theorem sv_cl5 : sv_cls 5 RX5 TX5 4 := ⟨rfl, sv_lay5, ⟨_, tyX5_ok⟩, nmX5⟩
set_option maxRecDepth 20000 in
theorem sv_lay6 : ∀ w ∈ u_ws RX6 TX6 13, w ∈ sv_tbl := List.forall_mem_cons.mpr ⟨kw_740, List.forall_mem_cons.mpr ⟨kw_742, List.forall_mem_cons.mpr ⟨kw_744, List.forall_mem_cons.mpr ⟨kw_746, List.forall_mem_cons.mpr ⟨kw_748, List.forall_mem_cons.mpr ⟨kw_750, List.forall_mem_cons.mpr ⟨kw_752, List.forall_mem_cons.mpr ⟨kw_754, List.forall_mem_cons.mpr ⟨kw_756, List.forall_mem_cons.mpr ⟨kw_758, List.forall_mem_cons.mpr ⟨kw_760, List.forall_mem_cons.mpr ⟨kw_762, List.forall_mem_cons.mpr ⟨kw_764, fun _ h => nomatch h⟩⟩⟩⟩⟩⟩⟩⟩⟩⟩⟩⟩⟩
theorem sv_cl6 : sv_cls 6 RX6 TX6 13 := ⟨rfl, sv_lay6, ⟨_, tyX6_ok⟩, nmX6⟩
section SVW
variable {p : Program} {l : Launch} {e : Env} {R : Room} {s : State} {m : MethodId} {args : Array Value} {below : List Frame} {meth : Method} {c : Code} {k n nL : Nat} {Q : State → Prop} {G : sv_G} {Wd Wd' : Heap → Prop}
variable {cc : ByteArray} {pc : Nat} {lv lv' : List (Nat × Value)} {st rest : List Value} {own : String} {z : Nat} {M : sv_M} {o : Int64}
theorem sv_getg (C : sv_C p l s m args meth c cc nL own G) {Cn : String} {T : u_T} {N ci f ix a : Nat} {fs : List Value} {v : Value} (hcl : sv_cls ci Cn T N) (hat : ∀ H, Wd H → va_at (sv_D G) vwCl (a, .inr (ci, fs)) H) (hf : f < N) (hlink : Cond.fieldLink own ix (T f).1 (T f).2.1 (T f).2.2.1 ∈ sv_tbl) (hv : fs[f]? = some v) (d : decode cc pc = .ok (.getfield ix, 3)) (kk : sv_V p l e R s m args below meth c nL G Q k n Wd (pc + 3) lv (v :: st)) : sv_V p l e R s m args below meth c nL G Q k n Wd pc lv (.ref a :: st) := fun H locs ls h1 h2 h3 =>
  va_get C.1 C.2.1 (Ts := sv_tbl) (fun w hw => C.2.2.2.2.2.word hw args) hcl.2.1 C.2.2.2.1 C.2.2.2.2.2.1 (sv_one (hat H h1)) 0 rfl hcl.1 f hf (C.2.2.2.2.2.word hlink args) (fun _ h => h) hv d (kk H locs ls h1 h2 h3)
theorem sv_putg (C : sv_C p l s m args meth c cc nL own G) {Cn : String} {T : u_T} {N ci f ix a : Nat} {fs : List Value} {v : Value} {ty : FieldType} (hcl : sv_cls ci Cn T N) (hA : G.1 ≤ a) (hat : ∀ H, Wd H → va_at (sv_D G) vwCl (a, .inr (ci, fs)) H) (hf : f < N) (hlink : Cond.fieldLink own ix (T f).1 (T f).2.1 (T f).2.2.1 ∈ sv_tbl) (hfin : (T f).2.2.2 = false) (hd : parseFieldDescriptor (T f).2.2.1 = some ty) (hn : narrow ty v = v) (hfit : fits ty v = true) (hl : fs.length = N) (hset : ∀ H H1, Wd H → H1.size = H.size → (∀ q : Nat, q ≠ a → H1[q]? = H[q]?) → va_at (sv_D G) vwCl (a, .inr (ci, fs.set f v)) H1 → Wd' H1) (d : decode cc pc = .ok (.putfield ix, 3)) (kk : sv_V p l e R s m args below meth c nL G Q k n Wd' (pc + 3) lv st) : sv_V p l e R s m args below meth c nL G Q k n Wd pc lv (v :: .ref a :: st) := by
  intro H locs ls h1 h2 h3
  obtain ⟨hc, hin, ⟨ty0, hty⟩, hnm⟩ := hcl
  have hts : ∀ w ∈ sv_tbl, w.before args s = true := fun w hw => C.2.2.2.2.2.word hw args
  have hK := C.2.2.2.2.2.1
  have hap := va_apart (own := own) hts hin ty0 hty hnm hK hc
  obtain ⟨r, h4, cell, q1, q2, q3, q4⟩ := hat H h1
  have hr : r = (Cn, T, N) := Option.some.inj (h4.symm.trans hc)
  subst hr
  obtain ⟨hS, hfc, kC, hkC, hkind⟩ := hK.1 ci _ hc
  obtain ⟨cf, kf, fi, fd, hi, hsl⟩ := hS f hf
  have hlay := hts _ (hin _ (u_in_lay hf))
  unfold u_lay at hlay
  rw [if_neg (by rw [hfin]; decide)] at hlay
  have hst := (u_facts hfc hkC (u_lays hts hin hf) hi).1
  have h6 := u_store hfc hkC hkind hlay hi hd hn hfit
  refine W.putK C.1 C.2.1 (f := fd) ⟨C.2.2.2.1, C.2.2.2.2.2.word hlink args, ⟨_, _, _, hi⟩, hst⟩ (by rw [q2]; exact h6) q1 q3 (by rw [hsl]; exact k2_hasslot (q4 f hf)) rfl rfl d fun H' e1 e2 e3 => ?_
  rw [hsl] at e1 ⊢
  exact kk H' _ ls (hset H H' h1 e2 e3 ⟨_, hc, t_OB.to (V := updV (vp_V fs) f v) ⟨_, e1, q2, q3, t_set q4 hap hf v⟩ (fun j _ => vp_updV_set (by rw [hl]; exact hf) v j)⟩) (h2.put e2 e3 hA) h3
theorem sv_putFg (C : sv_C p l s m args meth c cc nL own G) {Cn : String} {T : u_T} {N ci f ix a : Nat} {fs : List Value} {v : Value} {ty : FieldType} (hcl : sv_cls ci Cn T N) (hA : G.1 ≤ a) (hat : ∀ H, Wd H → va_at (sv_D G) vwCl (a, .inr (ci, fs)) H) (hf : f < N) (hlink : Cond.fieldLink own ix (T f).1 (T f).2.1 (T f).2.2.1 ∈ sv_tbl) (hfin : (T f).2.2.2 = true) (hin2 : meth.name = "<init>") (hdecl : (T f).1 = own) (hd : parseFieldDescriptor (T f).2.2.1 = some ty) (hn : narrow ty v = v) (hfit : fits ty v = true) (hl : fs.length = N) (hset : ∀ H H1, Wd H → H1.size = H.size → (∀ q : Nat, q ≠ a → H1[q]? = H[q]?) → va_at (sv_D G) vwCl (a, .inr (ci, fs.set f v)) H1 → Wd' H1) (d : decode cc pc = .ok (.putfield ix, 3)) (kk : sv_V p l e R s m args below meth c nL G Q k n Wd' (pc + 3) lv st) : sv_V p l e R s m args below meth c nL G Q k n Wd pc lv (v :: .ref a :: st) := by
  intro H locs ls h1 h2 h3
  obtain ⟨hc, hin, ⟨ty0, hty⟩, hnm⟩ := hcl
  have hown := C.2.2.2.1
  have hts : ∀ w ∈ sv_tbl, w.before args s = true := fun w hw => C.2.2.2.2.2.word hw args
  have hK := C.2.2.2.2.2.1
  have hap := va_apart (own := own) hts hin ty0 hty hnm hK hc
  obtain ⟨r, h4, cell, q1, q2, q3, q4⟩ := hat H h1
  have hr : r = (Cn, T, N) := Option.some.inj (h4.symm.trans hc)
  subst hr
  obtain ⟨hS, hfc, kC, hkC, hkind⟩ := hK.1 ci _ hc
  obtain ⟨cf, kf, fi, fd, hi, hsl⟩ := hS f hf
  have hlay := hts _ (hin _ (u_in_lay hf))
  unfold u_lay at hlay
  rw [if_pos hfin] at hlay
  have hst := (u_facts hfc hkC (u_lays hts hin hf) hi).1
  have hcf : m.cls = cf := by
    obtain ⟨_, _, c', _, _, _, -, -, hf', -, -, -, hown2, -⟩ := Cond.laysFinal_spec hlay
    have e1 : c' = cf := by have := hi.symm.trans hf'; simp at this; exact this.1.symm
    rw [hdecl] at hown2
    rw [← e1]; exact Option.some.inj (hown.symm.trans hown2)
  have h6 := u_fits hfc hkC hkind (Or.inr hlay) hi hd hn hfit
  refine W.putFinK C.1 C.2.1 hown (C.2.2.2.2.2.word hlink args) hi hst hcf hin2 (by rw [q2]; exact h6) q1 q3 (by rw [hsl]; exact k2_hasslot (q4 f hf)) rfl rfl d fun H' e1 e2 e3 => ?_
  rw [hsl] at e1 ⊢
  exact kk H' _ ls (hset H H' h1 e2 e3 ⟨_, hc, t_OB.to (V := updV (vp_V fs) f v) ⟨_, e1, q2, q3, t_set q4 hap hf v⟩ (fun j _ => vp_updV_set (by rw [hl]; exact hf) v j)⟩) (h2.put e2 e3 hA) h3
theorem sv_ialdg (C : sv_C p l s m args meth c cc nL own G) {a nn : Nat} {f : Nat → Int32} {i : Int32} (hat : ∀ H, Wd H → va_at (sv_D G) vwCl (a, .inl (sv_cI G, nn, .inl f)) H) (hin : vp_in i nn) (d : decode cc pc = .ok (.iaload, 1)) (kk : sv_V p l e R s m args below meth c nL G Q k n Wd (pc + 1) lv (.int (f i.toNatClampNeg) :: st)) : sv_V p l e R s m args below meth c nL G Q k n Wd pc lv (.int i :: .ref a :: st) := fun H locs ls h1 h2 h3 => va_iald C.1 C.2.1 C.2.2.2.2.2.1 (sv_one (hat H h1)) 0 0 rfl rfl hin d (kk H locs ls h1 h2 h3)
theorem sv_caldg (C : sv_C p l s m args meth c cc nL own G) {a nn : Nat} {f : Nat → Int32} {i : Int32} (hat : ∀ H, Wd H → va_at (sv_D G) vwCl (a, .inl (sv_cC G, nn, .inl f)) H) (hin : vp_in i nn) (d : decode cc pc = .ok (.caload, 1)) (kk : sv_V p l e R s m args below meth c nL G Q k n Wd (pc + 1) lv (.int (f i.toNatClampNeg) :: st)) : sv_V p l e R s m args below meth c nL G Q k n Wd pc lv (.int i :: .ref a :: st) := fun H locs ls h1 h2 h3 => va_cald C.1 C.2.1 C.2.2.2.2.2.1 (sv_one (hat H h1)) 0 1 rfl rfl hin d (kk H locs ls h1 h2 h3)
theorem sv_laldg (C : sv_C p l s m args meth c cc nL own G) {a nn : Nat} {f : Nat → Int64} {i : Int32} (hat : ∀ H, Wd H → va_at (sv_D G) vwCl (a, .inl (sv_cL G, nn, .inr (.inl f))) H) (hin : vp_in i nn) (d : decode cc pc = .ok (.laload, 1)) (kk : sv_V p l e R s m args below meth c nL G Q k n Wd (pc + 1) lv (.long (f i.toNatClampNeg) :: st)) : sv_V p l e R s m args below meth c nL G Q k n Wd pc lv (.int i :: .ref a :: st) := fun H locs ls h1 h2 h3 => va_lald C.1 C.2.1 C.2.2.2.2.2.1 (sv_one (hat H h1)) 0 3 rfl rfl hin d (kk H locs ls h1 h2 h3)
theorem sv_aldqg (C : sv_C p l s m args meth c cc nL own G) {a nn : Nat} {f : Nat → Option Nat} {i : Int32} (hat : ∀ H, Wd H → va_at (sv_D G) vwCl (a, .inl (sv_cS G, nn, .inr (.inr (.inr (.inr f))))) H) (hin : vp_in i nn) (d : decode cc pc = .ok (.aaload, 1)) (kk : sv_V p l e R s m args below meth c nL G Q k n Wd (pc + 1) lv (va_rf (f i.toNatClampNeg) :: st)) : sv_V p l e R s m args below meth c nL G Q k n Wd pc lv (.int i :: .ref a :: st) := fun H locs ls h1 h2 h3 => va_aldq C.1 C.2.1 C.2.2.2.2.2.1 (sv_one (hat H h1)) 0 2 rfl rfl hin d (kk H locs ls h1 h2 h3)
theorem sv_iastg (C : sv_C p l s m args meth c cc nL own G) {a nn : Nat} {f : Nat → Int32} {i x : Int32} (hA : G.1 ≤ a) (hat : ∀ H, Wd H → va_at (sv_D G) vwCl (a, .inl (sv_cI G, nn, .inl f)) H) (hin : vp_in i nn) (hset : ∀ H H1, Wd H → H1.size = H.size → (∀ q : Nat, q ≠ a → H1[q]? = H[q]?) → va_at (sv_D G) vwCl (a, .inl (sv_cI G, nn, .inl (upd f i.toNatClampNeg x))) H1 → Wd' H1) (d : decode cc pc = .ok (.iastore, 1)) (kk : sv_V p l e R s m args below meth c nL G Q k n Wd' (pc + 1) lv st) : sv_V p l e R s m args below meth c nL G Q k n Wd pc lv (.int x :: .int i :: .ref a :: st) := by
  intro H locs ls h1 h2 h3
  refine W.iast C.1 C.2.1 (hat H h1) ((C.2.2.2.2.2.1.2 0 _ rfl).1 nn (fun j => .int (f j))) (fun q => by cases q) (by show ¬ (i < 0 ∨ (arrV _ _ _).slots.size ≤ _); rw [arrV_size]; exact hin) rfl rfl d fun H1 e1 z1 oq => ?_
  refine kk H1 _ ls (hset H H1 h1 z1 oq ?_) (h2.put z1 oq hA) h3
  show H1[a]? = some (vp_cell _ _)
  rw [e1, vp_cell_i, vp_cell_i, arrV_store]
  congr 2
  funext q
  by_cases hq : q = i.toNatClampNeg
  · subst hq
    simp [updV, upd]
  · simp [updV, upd, hq]
theorem sv_castg (C : sv_C p l s m args meth c cc nL own G) {a nn : Nat} {f : Nat → Int32} {i x : Int32} (hA : G.1 ≤ a) (hat : ∀ H, Wd H → va_at (sv_D G) vwCl (a, .inl (sv_cC G, nn, .inl f)) H) (hin : vp_in i nn) (hx : narrow .char (.int x) = .int x) (hset : ∀ H H1, Wd H → H1.size = H.size → (∀ q : Nat, q ≠ a → H1[q]? = H[q]?) → va_at (sv_D G) vwCl (a, .inl (sv_cC G, nn, .inl (upd f i.toNatClampNeg x))) H1 → Wd' H1) (d : decode cc pc = .ok (.castore, 1)) (kk : sv_V p l e R s m args below meth c nL G Q k n Wd' (pc + 1) lv st) : sv_V p l e R s m args below meth c nL G Q k n Wd pc lv (.int x :: .int i :: .ref a :: st) := by
  intro H locs ls h1 h2 h3
  refine W.cast C.1 C.2.1 (hat H h1) ((C.2.2.2.2.2.1.2 1 _ rfl).1 nn (fun j => .int (f j))) (fun q => by cases q) (by show ¬ (i < 0 ∨ (arrV _ _ _).slots.size ≤ _); rw [arrV_size]; exact hin) rfl rfl d fun H1 e1 z1 oq => ?_
  refine kk H1 _ ls (hset H H1 h1 z1 oq ?_) (h2.put z1 oq hA) h3
  show H1[a]? = some (vp_cell _ _)
  rw [e1, hx, vp_cell_i, vp_cell_i, arrV_store]
  congr 2
  funext q
  by_cases hq : q = i.toNatClampNeg
  · subst hq
    simp [updV, upd]
  · simp [updV, upd, hq]
theorem sv_lastg (C : sv_C p l s m args meth c cc nL own G) {a nn : Nat} {f : Nat → Int64} {i : Int32} {x : Int64} (hA : G.1 ≤ a) (hat : ∀ H, Wd H → va_at (sv_D G) vwCl (a, .inl (sv_cL G, nn, .inr (.inl f))) H) (hin : vp_in i nn) (hset : ∀ H H1, Wd H → H1.size = H.size → (∀ q : Nat, q ≠ a → H1[q]? = H[q]?) → va_at (sv_D G) vwCl (a, .inl (sv_cL G, nn, .inr (.inl (vp_updL f i.toNatClampNeg x)))) H1 → Wd' H1) (d : decode cc pc = .ok (.lastore, 1)) (kk : sv_V p l e R s m args below meth c nL G Q k n Wd' (pc + 1) lv st) : sv_V p l e R s m args below meth c nL G Q k n Wd pc lv (.long x :: .int i :: .ref a :: st) := by
  intro H locs ls h1 h2 h3
  refine W.last C.1 C.2.1 (hat H h1) ((C.2.2.2.2.2.1.2 3 _ rfl).1 nn (fun j => .long (f j))) (fun q => by cases q) (by show ¬ (i < 0 ∨ (arrV _ _ _).slots.size ≤ _); rw [arrV_size]; exact hin) rfl rfl d fun H1 e1 z1 oq => ?_
  refine kk H1 _ ls (hset H H1 h1 z1 oq ?_) (h2.put z1 oq hA) h3
  show H1[a]? = some (vp_cell _ _)
  rw [e1, vp_cell_l, vp_cell_l, arrV_store]
  congr 2
  funext q
  by_cases hq : q = i.toNatClampNeg
  · subst hq
    simp [updV, vp_updL]
  · simp [updV, vp_updL, hq]
theorem sv_aleng (C : sv_C p l s m args meth c cc nL own G) {a nn t0 : Nat} {x : (Nat → Int32) ⊕ (Nat → Int64) ⊕ (Nat → UInt32) ⊕ (Nat → UInt64) ⊕ (Nat → Option Nat)} {cA : ClassId} {ty : FieldType} {v : Int32} (hat : ∀ H, Wd H → va_at (sv_D G) vwCl (a, .inl (cA, nn, x)) H) (ht : (sv_tys G)[t0]? = some (cA, ty)) (hv : Int32.ofNat nn = v) (d : decode cc pc = .ok (.arraylength, 1)) (kk : sv_V p l e R s m args below meth c nL G Q k n Wd (pc + 1) lv (.int v :: st)) : sv_V p l e R s m args below meth c nL G Q k n Wd pc lv (.ref a :: st) := fun H locs ls h1 h2 h3 => va_alen C.1 C.2.1 C.2.2.2.2.2.1 (sv_one (hat H h1)) 0 t0 rfl ht hv d (kk H locs ls h1 h2 h3)
theorem sv_i_inj {c i j : Nat} (h : sv_i c i = sv_i c j) : i = j := by
  unfold sv_i at h
  repeat' split at h
  all_goals omega
theorem sv_iald (C : sv_C p l s m args meth c cc nL own G) {c' j : Nat} {i : Int32} (hok : sv_ok c' j = true) (hr : sv_ir c' = true) (hin : vp_in i (sv_n c')) (d : decode cc pc = .ok (.iaload, 1)) (kk : sv_V p l e R s m args below meth c nL G Q k n (sv_W G z M o) (pc + 1) lv (.int (M (sv_q c' j) (sv_i c' i.toNatClampNeg)) :: st)) : sv_V p l e R s m args below meth c nL G Q k n (sv_W G z M o) pc lv (.int i :: .ref (sv_r G c' j) :: st) := sv_ialdg C (fun H h => by have h9 := h.2.2 c' j hok; rw [sv_rows hr] at h9; exact h9) hin d kk
theorem sv_iast (C : sv_C p l s m args meth c cc nL own G) {c' j : Nat} {i x : Int32} (hok : sv_ok c' j = true) (hr : sv_ir c' = true) (hin : vp_in i (sv_n c')) (d : decode cc pc = .ok (.iastore, 1)) (kk : sv_V p l e R s m args below meth c nL G Q k n (sv_W G z (sv_w M (sv_q c' j) (sv_i c' i.toNatClampNeg) x) o) (pc + 1) lv st) : sv_V p l e R s m args below meth c nL G Q k n (sv_W G z M o) pc lv (.int x :: .int i :: .ref (sv_r G c' j) :: st) := sv_iastg C (Nat.le_add_right _ _) (fun H h => by have h9 := h.2.2 c' j hok; rw [sv_rows hr] at h9; exact h9) hin (fun H H1 h z1 oq hat => by
  have hlt : i.toNatClampNeg < sv_n c' := Nat.not_le.mp fun q => hin (Or.inr q)
  refine h.put hok (sv_ow_row hok (Or.inl hr) hlt) z1 oq ?_
  rw [sv_rows hr]
  have e : (fun k => sv_w M (sv_q c' j) (sv_i c' i.toNatClampNeg) x (sv_q c' j) (sv_i c' k)) = upd (fun k => M (sv_q c' j) (sv_i c' k)) i.toNatClampNeg x := by
    funext k
    by_cases hk : k = i.toNatClampNeg
    · subst hk
      simp [sv_w, upd]
    · have hk2 : ¬ sv_i c' k = sv_i c' i.toNatClampNeg := fun h => hk (sv_i_inj h)
      simp [sv_w, upd, hk, hk2]
  rw [e]
  exact hat) d kk
theorem sv_cald (C : sv_C p l s m args meth c cc nL own G) {i : Int32} (hin : vp_in i 60) (d : decode cc pc = .ok (.caload, 1)) (kk : sv_V p l e R s m args below meth c nL G Q k n (sv_W G z M o) (pc + 1) lv (.int (M 9 i.toNatClampNeg) :: st)) : sv_V p l e R s m args below meth c nL G Q k n (sv_W G z M o) pc lv (.int i :: .ref (sv_r G 18 0) :: st) := sv_caldg C (fun H h => h.2.2 18 0 rfl) hin d kk
theorem sv_cast (C : sv_C p l s m args meth c cc nL own G) {i x : Int32} (hin : vp_in i 60) (hx : narrow .char (.int x) = .int x) (d : decode cc pc = .ok (.castore, 1)) (kk : sv_V p l e R s m args below meth c nL G Q k n (sv_W G z (sv_w M 9 i.toNatClampNeg x) o) (pc + 1) lv st) : sv_V p l e R s m args below meth c nL G Q k n (sv_W G z M o) pc lv (.int x :: .int i :: .ref (sv_r G 18 0) :: st) := sv_castg C (f := fun k => M 9 k) (Nat.le_add_right _ _) (fun H h => h.2.2 18 0 rfl) hin hx (fun H H1 h z1 oq hat => by
  have hlt : i.toNatClampNeg < 60 := Nat.not_le.mp fun q => hin (Or.inr q)
  refine h.put (c := 18) (j := 0) rfl (by simp [sv_ow, hlt]) z1 oq ?_
  have e : (fun k => sv_w M 9 i.toNatClampNeg x 9 k) = upd (fun k => M 9 k) i.toNatClampNeg x := by
    funext k
    by_cases hk : k = i.toNatClampNeg
    · subst hk
      simp [sv_w, upd]
    · simp [sv_w, upd, hk]
  show va_at (sv_D G) vwCl (sv_r G 18 0, .inl (sv_cC G, 60, .inl (fun k => sv_w M 9 i.toNatClampNeg x 9 k))) H1
  rw [e]
  exact hat) d kk
theorem sv_last (C : sv_C p l s m args meth c cc nL own G) {x : Int64} (d : decode cc pc = .ok (.lastore, 1)) (kk : sv_V p l e R s m args below meth c nL G Q k n (sv_W G z M x) (pc + 1) lv st) : sv_V p l e R s m args below meth c nL G Q k n (sv_W G z M o) pc lv (.long x :: .int 0 :: .ref (sv_r G 25 0) :: st) := sv_lastg C (f := fun _ => o) (nn := 1) (Nat.le_add_right _ _) (fun H h => h.2.2 25 0 rfl) (vp_in_nI (n := 0) (by decide) (by decide)) (fun H H1 h z1 oq hat => by
  refine h.out z1 oq ?_
  have e : vp_cell (sv_cL G) (1, .inr (.inl (vp_updL (fun _ => o) (0 : Int32).toNatClampNeg x))) = vp_cell (sv_cL G) (1, .inr (.inl (fun _ => x))) := by
    rw [vp_cell_l, vp_cell_l]
    refine sv_arrV fun i hi => ?_
    have h0 : i = 0 := by omega
    subst h0
    rfl
  show H1[_]? = some (vp_cell (sv_cL G) (1, .inr (.inl (fun _ => x))))
  rw [← e]
  exact hat) d kk
theorem sv_lald (C : sv_C p l s m args meth c cc nL own G) (d : decode cc pc = .ok (.laload, 1)) (kk : sv_V p l e R s m args below meth c nL G Q k n (sv_W G z M o) (pc + 1) lv (.long o :: st)) : sv_V p l e R s m args below meth c nL G Q k n (sv_W G z M o) pc lv (.int 0 :: .ref (sv_r G 25 0) :: st) := sv_laldg C (f := fun _ => o) (nn := 1) (fun H h => h.2.2 25 0 rfl) (vp_in_nI (n := 0) (by decide) (by decide)) d kk
theorem sv_aldq (C : sv_C p l s m args meth c cc nL own G) {i : Int32} (hin : vp_in i 6) (d : decode cc pc = .ok (.aaload, 1)) (kk : sv_V p l e R s m args below meth c nL G Q k n (sv_W G z M o) (pc + 1) lv (.ref (sv_r G 0 (2 + i.toNatClampNeg)) :: st)) : sv_V p l e R s m args below meth c nL G Q k n (sv_W G z M o) pc lv (.int i :: .ref (sv_r G 16 0) :: st) := sv_aldqg C (fun H h => h.2.2 16 0 rfl) hin d kk
theorem sv_alen (C : sv_C p l s m args meth c cc nL own G) {c' j : Nat} {v : Int32} (hok : sv_ok c' j = true) (hr : sv_ir c' = true) (hv : Int32.ofNat (sv_n c') = v) (d : decode cc pc = .ok (.arraylength, 1)) (kk : sv_V p l e R s m args below meth c nL G Q k n (sv_W G z M o) (pc + 1) lv (.int v :: st)) : sv_V p l e R s m args below meth c nL G Q k n (sv_W G z M o) pc lv (.ref (sv_r G c' j) :: st) := sv_aleng C (t0 := 0) (fun H h => by have h9 := h.2.2 c' j hok; rw [sv_rows hr] at h9; exact h9) rfl hv d kk
theorem sv_alenC (C : sv_C p l s m args meth c cc nL own G) {v : Int32} (hv : Int32.ofNat 60 = v) (d : decode cc pc = .ok (.arraylength, 1)) (kk : sv_V p l e R s m args below meth c nL G Q k n (sv_W G z M o) (pc + 1) lv (.int v :: st)) : sv_V p l e R s m args below meth c nL G Q k n (sv_W G z M o) pc lv (.ref (sv_r G 18 0) :: st) := sv_aleng C (t0 := 1) (fun H h => h.2.2 18 0 rfl) rfl hv d kk
theorem sv_alenS (C : sv_C p l s m args meth c cc nL own G) {v : Int32} (hv : Int32.ofNat 6 = v) (d : decode cc pc = .ok (.arraylength, 1)) (kk : sv_V p l e R s m args below meth c nL G Q k n (sv_W G z M o) (pc + 1) lv (.int v :: st)) : sv_V p l e R s m args below meth c nL G Q k n (sv_W G z M o) pc lv (.ref (sv_r G 16 0) :: st) := sv_aleng C (t0 := 2) (fun H h => h.2.2 16 0 rfl) rfl hv d kk
theorem sv_gets0 (C : sv_C p l s m args meth c cc nL own G) {ix : Nat} (hlink : Cond.fieldLink own ix "StairLight" "FIRST_VALUES" "[I" ∈ sv_tbl) (d : decode cc pc = .ok (.getstatic ix, 3)) (kk : sv_V p l e R s m args below meth c nL G Q k n Wd (pc + 3) lv (.ref G.2.2.2.1 :: st)) : sv_V p l e R s m args below meth c nL G Q k n Wd pc lv st := fun H locs ls h1 h2 h3 => va_gets C.1 C.2.1 C.2.2.2.2.2.2.1.1.1 h2 C.2.2.2.1 (C.2.2.2.2.2.word hlink args) (fun _ h => h) d (kk H locs ls h1 h2 h3)
theorem sv_sald0 (C : sv_C p l s m args meth c cc nL own G) {i : Int32} (hin : vp_in i 4) (d : decode cc pc = .ok (.iaload, 1)) (kk : sv_V p l e R s m args below meth c nL G Q k n Wd (pc + 1) lv (.int (sv_F 0 i.toNatClampNeg) :: st)) : sv_V p l e R s m args below meth c nL G Q k n Wd pc lv (.int i :: .ref G.2.2.2.1 :: st) := fun H locs ls h1 h2 h3 => va_ti C.1 C.2.1 C.2.2.2.2.2.2.1.1.2 h2 hin rfl d (kk H locs ls h1 h2 h3)
theorem sv_salen0 (C : sv_C p l s m args meth c cc nL own G) (d : decode cc pc = .ok (.arraylength, 1)) (kk : sv_V p l e R s m args below meth c nL G Q k n Wd (pc + 1) lv (.int (nI 4) :: st)) : sv_V p l e R s m args below meth c nL G Q k n Wd pc lv (.ref G.2.2.2.1 :: st) := fun H locs ls h1 h2 h3 => va_tlen C.1 C.2.1 C.2.2.2.2.2.2.1.1.2 h2 rfl d (kk H locs ls h1 h2 h3)
theorem sv_gets1 (C : sv_C p l s m args meth c cc nL own G) {ix : Nat} (hlink : Cond.fieldLink own ix "StairLight" "LEAST_VALUES" "[I" ∈ sv_tbl) (d : decode cc pc = .ok (.getstatic ix, 3)) (kk : sv_V p l e R s m args below meth c nL G Q k n Wd (pc + 3) lv (.ref G.2.2.2.2.1 :: st)) : sv_V p l e R s m args below meth c nL G Q k n Wd pc lv st := fun H locs ls h1 h2 h3 => va_gets C.1 C.2.1 C.2.2.2.2.2.2.1.2.1.1 h2 C.2.2.2.1 (C.2.2.2.2.2.word hlink args) (fun _ h => h) d (kk H locs ls h1 h2 h3)
theorem sv_sald1 (C : sv_C p l s m args meth c cc nL own G) {i : Int32} (hin : vp_in i 4) (d : decode cc pc = .ok (.iaload, 1)) (kk : sv_V p l e R s m args below meth c nL G Q k n Wd (pc + 1) lv (.int (sv_F 1 i.toNatClampNeg) :: st)) : sv_V p l e R s m args below meth c nL G Q k n Wd pc lv (.int i :: .ref G.2.2.2.2.1 :: st) := fun H locs ls h1 h2 h3 => va_ti C.1 C.2.1 C.2.2.2.2.2.2.1.2.1.2 h2 hin rfl d (kk H locs ls h1 h2 h3)
theorem sv_salen1 (C : sv_C p l s m args meth c cc nL own G) (d : decode cc pc = .ok (.arraylength, 1)) (kk : sv_V p l e R s m args below meth c nL G Q k n Wd (pc + 1) lv (.int (nI 4) :: st)) : sv_V p l e R s m args below meth c nL G Q k n Wd pc lv (.ref G.2.2.2.2.1 :: st) := fun H locs ls h1 h2 h3 => va_tlen C.1 C.2.1 C.2.2.2.2.2.2.1.2.1.2 h2 rfl d (kk H locs ls h1 h2 h3)
theorem sv_gets2 (C : sv_C p l s m args meth c cc nL own G) {ix : Nat} (hlink : Cond.fieldLink own ix "StairLight" "GREATEST_VALUES" "[I" ∈ sv_tbl) (d : decode cc pc = .ok (.getstatic ix, 3)) (kk : sv_V p l e R s m args below meth c nL G Q k n Wd (pc + 3) lv (.ref G.2.2.2.2.2 :: st)) : sv_V p l e R s m args below meth c nL G Q k n Wd pc lv st := fun H locs ls h1 h2 h3 => va_gets C.1 C.2.1 C.2.2.2.2.2.2.1.2.2.1 h2 C.2.2.2.1 (C.2.2.2.2.2.word hlink args) (fun _ h => h) d (kk H locs ls h1 h2 h3)
theorem sv_sald2 (C : sv_C p l s m args meth c cc nL own G) {i : Int32} (hin : vp_in i 4) (d : decode cc pc = .ok (.iaload, 1)) (kk : sv_V p l e R s m args below meth c nL G Q k n Wd (pc + 1) lv (.int (sv_F 2 i.toNatClampNeg) :: st)) : sv_V p l e R s m args below meth c nL G Q k n Wd pc lv (.int i :: .ref G.2.2.2.2.2 :: st) := fun H locs ls h1 h2 h3 => va_ti C.1 C.2.1 C.2.2.2.2.2.2.1.2.2.2 h2 hin rfl d (kk H locs ls h1 h2 h3)
theorem sv_salen2 (C : sv_C p l s m args meth c cc nL own G) (d : decode cc pc = .ok (.arraylength, 1)) (kk : sv_V p l e R s m args below meth c nL G Q k n Wd (pc + 1) lv (.int (nI 4) :: st)) : sv_V p l e R s m args below meth c nL G Q k n Wd pc lv (.ref G.2.2.2.2.2 :: st) := fun H locs ls h1 h2 h3 => va_tlen C.1 C.2.1 C.2.2.2.2.2.2.1.2.2.2 h2 rfl d (kk H locs ls h1 h2 h3)
theorem sv_gets0N (C : sv_C p l s m args meth c cc nL own G) (ho : own = "StairLight$Stairs") (d : decode cc pc = .ok (.getstatic 25, 3)) (kk : sv_V p l e R s m args below meth c nL G Q k n Wd (pc + 3) lv (.ref G.2.2.2.1 :: st)) : sv_V p l e R s m args below meth c nL G Q k n Wd pc lv st := fun H locs ls h1 h2 h3 => by
  subst ho
  exact va_getsN C.1 C.2.1 C.2.2.2.2.2.2.1.1.1 h2 C.2.2.2.1 (va_Nw.use rfl C.2.2.2.2.2.2.2.1.2) (fun _ h => h) d (kk H locs ls h1 h2 h3)
theorem sv_get_0_0 (C : sv_C p l s m args meth c cc nL own G) {j : Nat} (hj : j < 8) {ix : Nat} (hlink : Cond.fieldLink own ix "StairLight$Floors" "burning" "[I" ∈ sv_tbl) (d : decode cc pc = .ok (.getfield ix, 3)) (kk : sv_V p l e R s m args below meth c nL G Q k n (sv_W G z M o) (pc + 3) lv (.ref (sv_r G 2 j) :: st)) : sv_V p l e R s m args below meth c nL G Q k n (sv_W G z M o) pc lv (.ref (sv_r G 1 j) :: st) := sv_getg C (f := 0) sv_cl0 (fun H h => h.2.2 1 j (by simp [sv_ok, hj])) (by decide) hlink rfl d kk
theorem sv_get_0_1 (C : sv_C p l s m args meth c cc nL own G) {j : Nat} (hj : j < 8) {ix : Nat} (hlink : Cond.fieldLink own ix "StairLight$Floors" "sound" "[I" ∈ sv_tbl) (d : decode cc pc = .ok (.getfield ix, 3)) (kk : sv_V p l e R s m args below meth c nL G Q k n (sv_W G z M o) (pc + 3) lv (.ref (sv_r G 3 j) :: st)) : sv_V p l e R s m args below meth c nL G Q k n (sv_W G z M o) pc lv (.ref (sv_r G 1 j) :: st) := sv_getg C (f := 1) sv_cl0 (fun H h => h.2.2 1 j (by simp [sv_ok, hj])) (by decide) hlink rfl d kk
theorem sv_get_0_2 (C : sv_C p l s m args meth c cc nL own G) {j : Nat} (hj : j < 8) {ix : Nat} (hlink : Cond.fieldLink own ix "StairLight$Floors" "darkSeconds" "[I" ∈ sv_tbl) (d : decode cc pc = .ok (.getfield ix, 3)) (kk : sv_V p l e R s m args below meth c nL G Q k n (sv_W G z M o) (pc + 3) lv (.ref (sv_r G 4 j) :: st)) : sv_V p l e R s m args below meth c nL G Q k n (sv_W G z M o) pc lv (.ref (sv_r G 1 j) :: st) := sv_getg C (f := 2) sv_cl0 (fun H h => h.2.2 1 j (by simp [sv_ok, hj])) (by decide) hlink rfl d kk
theorem sv_get_0_3 (C : sv_C p l s m args meth c cc nL own G) {j : Nat} (hj : j < 8) {ix : Nat} (hlink : Cond.fieldLink own ix "StairLight$Floors" "dimSeconds" "[I" ∈ sv_tbl) (d : decode cc pc = .ok (.getfield ix, 3)) (kk : sv_V p l e R s m args below meth c nL G Q k n (sv_W G z M o) (pc + 3) lv (.ref (sv_r G 5 j) :: st)) : sv_V p l e R s m args below meth c nL G Q k n (sv_W G z M o) pc lv (.ref (sv_r G 1 j) :: st) := sv_getg C (f := 3) sv_cl0 (fun H h => h.2.2 1 j (by simp [sv_ok, hj])) (by decide) hlink rfl d kk
theorem sv_get_0_4 (C : sv_C p l s m args meth c cc nL own G) {j : Nat} (hj : j < 8) {ix : Nat} (hlink : Cond.fieldLink own ix "StairLight$Floors" "energy" "[I" ∈ sv_tbl) (d : decode cc pc = .ok (.getfield ix, 3)) (kk : sv_V p l e R s m args below meth c nL G Q k n (sv_W G z M o) (pc + 3) lv (.ref (sv_r G 6 j) :: st)) : sv_V p l e R s m args below meth c nL G Q k n (sv_W G z M o) pc lv (.ref (sv_r G 1 j) :: st) := sv_getg C (f := 4) sv_cl0 (fun H h => h.2.2 1 j (by simp [sv_ok, hj])) (by decide) hlink rfl d kk
theorem sv_get_0_5 (C : sv_C p l s m args meth c cc nL own G) {j : Nat} (hj : j < 8) {ix : Nat} (hlink : Cond.fieldLink own ix "StairLight$Floors" "kindled" "[I" ∈ sv_tbl) (d : decode cc pc = .ok (.getfield ix, 3)) (kk : sv_V p l e R s m args below meth c nL G Q k n (sv_W G z M o) (pc + 3) lv (.ref (sv_r G 7 j) :: st)) : sv_V p l e R s m args below meth c nL G Q k n (sv_W G z M o) pc lv (.ref (sv_r G 1 j) :: st) := sv_getg C (f := 5) sv_cl0 (fun H h => h.2.2 1 j (by simp [sv_ok, hj])) (by decide) hlink rfl d kk
theorem sv_get_1_0 (C : sv_C p l s m args meth c cc nL own G) {ix : Nat} (hlink : Cond.fieldLink own ix "StairLight$History" "states" "[LStairLight$Stairs;" ∈ sv_tbl) (d : decode cc pc = .ok (.getfield ix, 3)) (kk : sv_V p l e R s m args below meth c nL G Q k n (sv_W G z M o) (pc + 3) lv (.ref (sv_r G 16 0) :: st)) : sv_V p l e R s m args below meth c nL G Q k n (sv_W G z M o) pc lv (.ref (sv_r G 15 0) :: st) := sv_getg C (f := 0) sv_cl1 (fun H h => h.2.2 15 0 rfl) (by decide) hlink rfl d kk
theorem sv_get_1_1 (C : sv_C p l s m args meth c cc nL own G) {ix : Nat} (hlink : Cond.fieldLink own ix "StairLight$History" "oldest" "I" ∈ sv_tbl) (d : decode cc pc = .ok (.getfield ix, 3)) (kk : sv_V p l e R s m args below meth c nL G Q k n (sv_W G z M o) (pc + 3) lv (.int (M 8 0) :: st)) : sv_V p l e R s m args below meth c nL G Q k n (sv_W G z M o) pc lv (.ref (sv_r G 15 0) :: st) := sv_getg C (f := 1) sv_cl1 (fun H h => h.2.2 15 0 rfl) (by decide) hlink rfl d kk
theorem sv_put_1_1 (C : sv_C p l s m args meth c cc nL own G) {ix : Nat} {x : Int32} (hlink : Cond.fieldLink own ix "StairLight$History" "oldest" "I" ∈ sv_tbl) (d : decode cc pc = .ok (.putfield ix, 3)) (kk : sv_V p l e R s m args below meth c nL G Q k n (sv_W G z (sv_w M 8 0 x) o) (pc + 3) lv st) : sv_V p l e R s m args below meth c nL G Q k n (sv_W G z M o) pc lv (.int x :: .ref (sv_r G 15 0) :: st) := sv_putg C (f := 1) (ty := .int) sv_cl1 (Nat.le_add_right _ _) (fun H h => h.2.2 15 0 rfl) (by decide) hlink rfl (by decide +kernel) rfl rfl rfl (fun H H1 h z1 oq hat => by
  refine h.put (c := 15) (j := 0) (q := 8) (i := 0) rfl (by simp [sv_ow]) z1 oq ?_
  have e : sv_e G (sv_w M 8 0 x) o 15 0 = .inr (1, [.ref (sv_r G 16 0), .int x, .int (M 8 1)]) := by
    rw [sv_e15]
    simp [sv_w]
  rw [e]
  exact hat) d kk
theorem sv_get_1_2 (C : sv_C p l s m args meth c cc nL own G) {ix : Nat} (hlink : Cond.fieldLink own ix "StairLight$History" "held" "I" ∈ sv_tbl) (d : decode cc pc = .ok (.getfield ix, 3)) (kk : sv_V p l e R s m args below meth c nL G Q k n (sv_W G z M o) (pc + 3) lv (.int (M 8 1) :: st)) : sv_V p l e R s m args below meth c nL G Q k n (sv_W G z M o) pc lv (.ref (sv_r G 15 0) :: st) := sv_getg C (f := 2) sv_cl1 (fun H h => h.2.2 15 0 rfl) (by decide) hlink rfl d kk
theorem sv_put_1_2 (C : sv_C p l s m args meth c cc nL own G) {ix : Nat} {x : Int32} (hlink : Cond.fieldLink own ix "StairLight$History" "held" "I" ∈ sv_tbl) (d : decode cc pc = .ok (.putfield ix, 3)) (kk : sv_V p l e R s m args below meth c nL G Q k n (sv_W G z (sv_w M 8 1 x) o) (pc + 3) lv st) : sv_V p l e R s m args below meth c nL G Q k n (sv_W G z M o) pc lv (.int x :: .ref (sv_r G 15 0) :: st) := sv_putg C (f := 2) (ty := .int) sv_cl1 (Nat.le_add_right _ _) (fun H h => h.2.2 15 0 rfl) (by decide) hlink rfl (by decide +kernel) rfl rfl rfl (fun H H1 h z1 oq hat => by
  refine h.put (c := 15) (j := 0) (q := 8) (i := 1) rfl (by simp [sv_ow]) z1 oq ?_
  have e : sv_e G (sv_w M 8 1 x) o 15 0 = .inr (1, [.ref (sv_r G 16 0), .int (M 8 0), .int x]) := by
    rw [sv_e15]
    simp [sv_w]
  rw [e]
  exact hat) d kk
theorem sv_get_2_0 (C : sv_C p l s m args meth c cc nL own G) {j : Nat} (hj : j < 8) {ix : Nat} (hlink : Cond.fieldLink own ix "StairLight$People" "numbers" "[I" ∈ sv_tbl) (d : decode cc pc = .ok (.getfield ix, 3)) (kk : sv_V p l e R s m args below meth c nL G Q k n (sv_W G z M o) (pc + 3) lv (.ref (sv_r G 9 j) :: st)) : sv_V p l e R s m args below meth c nL G Q k n (sv_W G z M o) pc lv (.ref (sv_r G 8 j) :: st) := sv_getg C (f := 0) sv_cl2 (fun H h => h.2.2 8 j (by simp [sv_ok, hj])) (by decide) hlink rfl d kk
theorem sv_get_2_1 (C : sv_C p l s m args meth c cc nL own G) {j : Nat} (hj : j < 8) {ix : Nat} (hlink : Cond.fieldLink own ix "StairLight$People" "floors" "[I" ∈ sv_tbl) (d : decode cc pc = .ok (.getfield ix, 3)) (kk : sv_V p l e R s m args below meth c nL G Q k n (sv_W G z M o) (pc + 3) lv (.ref (sv_r G 10 j) :: st)) : sv_V p l e R s m args below meth c nL G Q k n (sv_W G z M o) pc lv (.ref (sv_r G 8 j) :: st) := sv_getg C (f := 1) sv_cl2 (fun H h => h.2.2 8 j (by simp [sv_ok, hj])) (by decide) hlink rfl d kk
theorem sv_get_2_2 (C : sv_C p l s m args meth c cc nL own G) {j : Nat} (hj : j < 8) {ix : Nat} (hlink : Cond.fieldLink own ix "StairLight$People" "goals" "[I" ∈ sv_tbl) (d : decode cc pc = .ok (.getfield ix, 3)) (kk : sv_V p l e R s m args below meth c nL G Q k n (sv_W G z M o) (pc + 3) lv (.ref (sv_r G 11 j) :: st)) : sv_V p l e R s m args below meth c nL G Q k n (sv_W G z M o) pc lv (.ref (sv_r G 8 j) :: st) := sv_getg C (f := 2) sv_cl2 (fun H h => h.2.2 8 j (by simp [sv_ok, hj])) (by decide) hlink rfl d kk
theorem sv_get_2_3 (C : sv_C p l s m args meth c cc nL own G) {j : Nat} (hj : j < 8) {ix : Nat} (hlink : Cond.fieldLink own ix "StairLight$People" "left" "[I" ∈ sv_tbl) (d : decode cc pc = .ok (.getfield ix, 3)) (kk : sv_V p l e R s m args below meth c nL G Q k n (sv_W G z M o) (pc + 3) lv (.ref (sv_r G 12 j) :: st)) : sv_V p l e R s m args below meth c nL G Q k n (sv_W G z M o) pc lv (.ref (sv_r G 8 j) :: st) := sv_getg C (f := 3) sv_cl2 (fun H h => h.2.2 8 j (by simp [sv_ok, hj])) (by decide) hlink rfl d kk
theorem sv_get_2_4 (C : sv_C p l s m args meth c cc nL own G) {j : Nat} (hj : j < 8) {ix : Nat} (hlink : Cond.fieldLink own ix "StairLight$People" "onStairs" "I" ∈ sv_tbl) (d : decode cc pc = .ok (.getfield ix, 3)) (kk : sv_V p l e R s m args below meth c nL G Q k n (sv_W G z M o) (pc + 3) lv (.int (M j 57) :: st)) : sv_V p l e R s m args below meth c nL G Q k n (sv_W G z M o) pc lv (.ref (sv_r G 8 j) :: st) := sv_getg C (f := 4) sv_cl2 (fun H h => h.2.2 8 j (by simp [sv_ok, hj])) (by decide) hlink rfl d kk
theorem sv_put_2_4 (C : sv_C p l s m args meth c cc nL own G) {j : Nat} (hj : j < 8) {ix : Nat} {x : Int32} (hlink : Cond.fieldLink own ix "StairLight$People" "onStairs" "I" ∈ sv_tbl) (d : decode cc pc = .ok (.putfield ix, 3)) (kk : sv_V p l e R s m args below meth c nL G Q k n (sv_W G z (sv_w M j 57 x) o) (pc + 3) lv st) : sv_V p l e R s m args below meth c nL G Q k n (sv_W G z M o) pc lv (.int x :: .ref (sv_r G 8 j) :: st) := sv_putg C (f := 4) (ty := .int) sv_cl2 (Nat.le_add_right _ _) (fun H h => h.2.2 8 j (by simp [sv_ok, hj])) (by decide) hlink rfl (by decide +kernel) rfl rfl rfl (fun H H1 h z1 oq hat => by
  refine h.put (c := 8) (j := j) (q := j) (i := 57) (by simp [sv_ok, hj]) (by simp [sv_ow, hj]) z1 oq ?_
  have e : sv_e G (sv_w M j 57 x) o 8 j = .inr (2, [.ref (sv_r G 9 j), .ref (sv_r G 10 j), .ref (sv_r G 11 j), .ref (sv_r G 12 j), .int x, .int (M j 5)]) := by
    rw [sv_e8]
    simp [sv_w]
  rw [e]
  exact hat) d kk
theorem sv_get_2_5 (C : sv_C p l s m args meth c cc nL own G) {j : Nat} (hj : j < 8) {ix : Nat} (hlink : Cond.fieldLink own ix "StairLight$People" "came" "I" ∈ sv_tbl) (d : decode cc pc = .ok (.getfield ix, 3)) (kk : sv_V p l e R s m args below meth c nL G Q k n (sv_W G z M o) (pc + 3) lv (.int (M j 5) :: st)) : sv_V p l e R s m args below meth c nL G Q k n (sv_W G z M o) pc lv (.ref (sv_r G 8 j) :: st) := sv_getg C (f := 5) sv_cl2 (fun H h => h.2.2 8 j (by simp [sv_ok, hj])) (by decide) hlink rfl d kk
theorem sv_put_2_5 (C : sv_C p l s m args meth c cc nL own G) {j : Nat} (hj : j < 8) {ix : Nat} {x : Int32} (hlink : Cond.fieldLink own ix "StairLight$People" "came" "I" ∈ sv_tbl) (d : decode cc pc = .ok (.putfield ix, 3)) (kk : sv_V p l e R s m args below meth c nL G Q k n (sv_W G z (sv_w M j 5 x) o) (pc + 3) lv st) : sv_V p l e R s m args below meth c nL G Q k n (sv_W G z M o) pc lv (.int x :: .ref (sv_r G 8 j) :: st) := sv_putg C (f := 5) (ty := .int) sv_cl2 (Nat.le_add_right _ _) (fun H h => h.2.2 8 j (by simp [sv_ok, hj])) (by decide) hlink rfl (by decide +kernel) rfl rfl rfl (fun H H1 h z1 oq hat => by
  refine h.put (c := 8) (j := j) (q := j) (i := 5) (by simp [sv_ok, hj]) (by simp [sv_ow, hj]) z1 oq ?_
  have e : sv_e G (sv_w M j 5 x) o 8 j = .inr (2, [.ref (sv_r G 9 j), .ref (sv_r G 10 j), .ref (sv_r G 11 j), .ref (sv_r G 12 j), .int (M j 57), .int x]) := by
    rw [sv_e8]
    simp [sv_w]
  rw [e]
  exact hat) d kk
theorem sv_get_3_0 (C : sv_C p l s m args meth c cc nL own G) {j : Nat} (hj : j < 8) {ix : Nat} (hlink : Cond.fieldLink own ix "StairLight$Stairs" "floors" "LStairLight$Floors;" ∈ sv_tbl) (d : decode cc pc = .ok (.getfield ix, 3)) (kk : sv_V p l e R s m args below meth c nL G Q k n (sv_W G z M o) (pc + 3) lv (.ref (sv_r G 1 j) :: st)) : sv_V p l e R s m args below meth c nL G Q k n (sv_W G z M o) pc lv (.ref (sv_r G 0 j) :: st) := sv_getg C (f := 0) sv_cl3 (fun H h => h.2.2 0 j (by simp [sv_ok, hj])) (by decide) hlink rfl d kk
theorem sv_get_3_1 (C : sv_C p l s m args meth c cc nL own G) {j : Nat} (hj : j < 8) {ix : Nat} (hlink : Cond.fieldLink own ix "StairLight$Stairs" "people" "LStairLight$People;" ∈ sv_tbl) (d : decode cc pc = .ok (.getfield ix, 3)) (kk : sv_V p l e R s m args below meth c nL G Q k n (sv_W G z M o) (pc + 3) lv (.ref (sv_r G 8 j) :: st)) : sv_V p l e R s m args below meth c nL G Q k n (sv_W G z M o) pc lv (.ref (sv_r G 0 j) :: st) := sv_getg C (f := 1) sv_cl3 (fun H h => h.2.2 0 j (by simp [sv_ok, hj])) (by decide) hlink rfl d kk
theorem sv_get_3_2 (C : sv_C p l s m args meth c cc nL own G) {j : Nat} (hj : j < 8) {ix : Nat} (hlink : Cond.fieldLink own ix "StairLight$Stairs" "settings" "[I" ∈ sv_tbl) (d : decode cc pc = .ok (.getfield ix, 3)) (kk : sv_V p l e R s m args below meth c nL G Q k n (sv_W G z M o) (pc + 3) lv (.ref (sv_r G 13 j) :: st)) : sv_V p l e R s m args below meth c nL G Q k n (sv_W G z M o) pc lv (.ref (sv_r G 0 j) :: st) := sv_getg C (f := 2) sv_cl3 (fun H h => h.2.2 0 j (by simp [sv_ok, hj])) (by decide) hlink rfl d kk
theorem sv_get_3_3 (C : sv_C p l s m args meth c cc nL own G) {j : Nat} (hj : j < 8) {ix : Nat} (hlink : Cond.fieldLink own ix "StairLight$Stairs" "isNight" "Z" ∈ sv_tbl) (d : decode cc pc = .ok (.getfield ix, 3)) (kk : sv_V p l e R s m args below meth c nL G Q k n (sv_W G z M o) (pc + 3) lv (.int (M j 6) :: st)) : sv_V p l e R s m args below meth c nL G Q k n (sv_W G z M o) pc lv (.ref (sv_r G 0 j) :: st) := sv_getg C (f := 3) sv_cl3 (fun H h => h.2.2 0 j (by simp [sv_ok, hj])) (by decide) hlink rfl d kk
theorem sv_put_3_3 (C : sv_C p l s m args meth c cc nL own G) {j : Nat} (hj : j < 8) {ix : Nat} {x : Int32} (hx : x = 0 ∨ x = 1) (hlink : Cond.fieldLink own ix "StairLight$Stairs" "isNight" "Z" ∈ sv_tbl) (d : decode cc pc = .ok (.putfield ix, 3)) (kk : sv_V p l e R s m args below meth c nL G Q k n (sv_W G z (sv_w M j 6 x) o) (pc + 3) lv st) : sv_V p l e R s m args below meth c nL G Q k n (sv_W G z M o) pc lv (.int x :: .ref (sv_r G 0 j) :: st) := sv_putg C (f := 3) (ty := .boolean) sv_cl3 (Nat.le_add_right _ _) (fun H h => h.2.2 0 j (by simp [sv_ok, hj])) (by decide) hlink rfl (by decide +kernel) (by rcases hx with rfl | rfl <;> rfl) (by rcases hx with rfl | rfl <;> rfl) rfl (fun H H1 h z1 oq hat => by
  refine h.put (c := 0) (j := j) (q := j) (i := 6) (by simp [sv_ok, hj]) (by simp [sv_ow, hj]) z1 oq ?_
  have e : sv_e G (sv_w M j 6 x) o 0 j = .inr (3, [.ref (sv_r G 1 j), .ref (sv_r G 8 j), .ref (sv_r G 13 j), .int x, .int (M j 7), .int (M j 4), .int (M j 8)]) := by
    rw [sv_e0]
    simp [sv_w]
  rw [e]
  exact hat) d kk
theorem sv_get_3_4 (C : sv_C p l s m args meth c cc nL own G) {j : Nat} (hj : j < 8) {ix : Nat} (hlink : Cond.fieldLink own ix "StairLight$Stairs" "isFire" "Z" ∈ sv_tbl) (d : decode cc pc = .ok (.getfield ix, 3)) (kk : sv_V p l e R s m args below meth c nL G Q k n (sv_W G z M o) (pc + 3) lv (.int (M j 7) :: st)) : sv_V p l e R s m args below meth c nL G Q k n (sv_W G z M o) pc lv (.ref (sv_r G 0 j) :: st) := sv_getg C (f := 4) sv_cl3 (fun H h => h.2.2 0 j (by simp [sv_ok, hj])) (by decide) hlink rfl d kk
theorem sv_put_3_4 (C : sv_C p l s m args meth c cc nL own G) {j : Nat} (hj : j < 8) {ix : Nat} {x : Int32} (hx : x = 0 ∨ x = 1) (hlink : Cond.fieldLink own ix "StairLight$Stairs" "isFire" "Z" ∈ sv_tbl) (d : decode cc pc = .ok (.putfield ix, 3)) (kk : sv_V p l e R s m args below meth c nL G Q k n (sv_W G z (sv_w M j 7 x) o) (pc + 3) lv st) : sv_V p l e R s m args below meth c nL G Q k n (sv_W G z M o) pc lv (.int x :: .ref (sv_r G 0 j) :: st) := sv_putg C (f := 4) (ty := .boolean) sv_cl3 (Nat.le_add_right _ _) (fun H h => h.2.2 0 j (by simp [sv_ok, hj])) (by decide) hlink rfl (by decide +kernel) (by rcases hx with rfl | rfl <;> rfl) (by rcases hx with rfl | rfl <;> rfl) rfl (fun H H1 h z1 oq hat => by
  refine h.put (c := 0) (j := j) (q := j) (i := 7) (by simp [sv_ok, hj]) (by simp [sv_ow, hj]) z1 oq ?_
  have e : sv_e G (sv_w M j 7 x) o 0 j = .inr (3, [.ref (sv_r G 1 j), .ref (sv_r G 8 j), .ref (sv_r G 13 j), .int (M j 6), .int x, .int (M j 4), .int (M j 8)]) := by
    rw [sv_e0]
    simp [sv_w]
  rw [e]
  exact hat) d kk
theorem sv_get_3_5 (C : sv_C p l s m args meth c cc nL own G) {j : Nat} (hj : j < 8) {ix : Nat} (hlink : Cond.fieldLink own ix "StairLight$Stairs" "seconds" "I" ∈ sv_tbl) (d : decode cc pc = .ok (.getfield ix, 3)) (kk : sv_V p l e R s m args below meth c nL G Q k n (sv_W G z M o) (pc + 3) lv (.int (M j 4) :: st)) : sv_V p l e R s m args below meth c nL G Q k n (sv_W G z M o) pc lv (.ref (sv_r G 0 j) :: st) := sv_getg C (f := 5) sv_cl3 (fun H h => h.2.2 0 j (by simp [sv_ok, hj])) (by decide) hlink rfl d kk
theorem sv_put_3_5 (C : sv_C p l s m args meth c cc nL own G) {j : Nat} (hj : j < 8) {ix : Nat} {x : Int32} (hlink : Cond.fieldLink own ix "StairLight$Stairs" "seconds" "I" ∈ sv_tbl) (d : decode cc pc = .ok (.putfield ix, 3)) (kk : sv_V p l e R s m args below meth c nL G Q k n (sv_W G z (sv_w M j 4 x) o) (pc + 3) lv st) : sv_V p l e R s m args below meth c nL G Q k n (sv_W G z M o) pc lv (.int x :: .ref (sv_r G 0 j) :: st) := sv_putg C (f := 5) (ty := .int) sv_cl3 (Nat.le_add_right _ _) (fun H h => h.2.2 0 j (by simp [sv_ok, hj])) (by decide) hlink rfl (by decide +kernel) rfl rfl rfl (fun H H1 h z1 oq hat => by
  refine h.put (c := 0) (j := j) (q := j) (i := 4) (by simp [sv_ok, hj]) (by simp [sv_ow, hj]) z1 oq ?_
  have e : sv_e G (sv_w M j 4 x) o 0 j = .inr (3, [.ref (sv_r G 1 j), .ref (sv_r G 8 j), .ref (sv_r G 13 j), .int (M j 6), .int (M j 7), .int x, .int (M j 8)]) := by
    rw [sv_e0]
    simp [sv_w]
  rw [e]
  exact hat) d kk
theorem sv_get_3_6 (C : sv_C p l s m args meth c cc nL own G) {j : Nat} (hj : j < 8) {ix : Nat} (hlink : Cond.fieldLink own ix "StairLight$Stairs" "secondsOfPeople" "I" ∈ sv_tbl) (d : decode cc pc = .ok (.getfield ix, 3)) (kk : sv_V p l e R s m args below meth c nL G Q k n (sv_W G z M o) (pc + 3) lv (.int (M j 8) :: st)) : sv_V p l e R s m args below meth c nL G Q k n (sv_W G z M o) pc lv (.ref (sv_r G 0 j) :: st) := sv_getg C (f := 6) sv_cl3 (fun H h => h.2.2 0 j (by simp [sv_ok, hj])) (by decide) hlink rfl d kk
theorem sv_put_3_6 (C : sv_C p l s m args meth c cc nL own G) {j : Nat} (hj : j < 8) {ix : Nat} {x : Int32} (hlink : Cond.fieldLink own ix "StairLight$Stairs" "secondsOfPeople" "I" ∈ sv_tbl) (d : decode cc pc = .ok (.putfield ix, 3)) (kk : sv_V p l e R s m args below meth c nL G Q k n (sv_W G z (sv_w M j 8 x) o) (pc + 3) lv st) : sv_V p l e R s m args below meth c nL G Q k n (sv_W G z M o) pc lv (.int x :: .ref (sv_r G 0 j) :: st) := sv_putg C (f := 6) (ty := .int) sv_cl3 (Nat.le_add_right _ _) (fun H h => h.2.2 0 j (by simp [sv_ok, hj])) (by decide) hlink rfl (by decide +kernel) rfl rfl rfl (fun H H1 h z1 oq hat => by
  refine h.put (c := 0) (j := j) (q := j) (i := 8) (by simp [sv_ok, hj]) (by simp [sv_ow, hj]) z1 oq ?_
  have e : sv_e G (sv_w M j 8 x) o 0 j = .inr (3, [.ref (sv_r G 1 j), .ref (sv_r G 8 j), .ref (sv_r G 13 j), .int (M j 6), .int (M j 7), .int (M j 4), .int x]) := by
    rw [sv_e0]
    simp [sv_w]
  rw [e]
  exact hat) d kk
theorem sv_get_4_0 (C : sv_C p l s m args meth c cc nL own G) {ix : Nat} (hlink : Cond.fieldLink own ix "StairLight$Walks" "codes" "[C" ∈ sv_tbl) (d : decode cc pc = .ok (.getfield ix, 3)) (kk : sv_V p l e R s m args below meth c nL G Q k n (sv_W G z M o) (pc + 3) lv (.ref (sv_r G 18 0) :: st)) : sv_V p l e R s m args below meth c nL G Q k n (sv_W G z M o) pc lv (.ref (sv_r G 17 0) :: st) := sv_getg C (f := 0) sv_cl4 (fun H h => h.2.2 17 0 rfl) (by decide) hlink rfl d kk
theorem sv_get_4_1 (C : sv_C p l s m args meth c cc nL own G) {ix : Nat} (hlink : Cond.fieldLink own ix "StairLight$Walks" "length" "I" ∈ sv_tbl) (d : decode cc pc = .ok (.getfield ix, 3)) (kk : sv_V p l e R s m args below meth c nL G Q k n (sv_W G z M o) (pc + 3) lv (.int (M 9 60) :: st)) : sv_V p l e R s m args below meth c nL G Q k n (sv_W G z M o) pc lv (.ref (sv_r G 17 0) :: st) := sv_getg C (f := 1) sv_cl4 (fun H h => h.2.2 17 0 rfl) (by decide) hlink rfl d kk
theorem sv_put_4_1 (C : sv_C p l s m args meth c cc nL own G) {ix : Nat} {x : Int32} (hlink : Cond.fieldLink own ix "StairLight$Walks" "length" "I" ∈ sv_tbl) (d : decode cc pc = .ok (.putfield ix, 3)) (kk : sv_V p l e R s m args below meth c nL G Q k n (sv_W G z (sv_w M 9 60 x) o) (pc + 3) lv st) : sv_V p l e R s m args below meth c nL G Q k n (sv_W G z M o) pc lv (.int x :: .ref (sv_r G 17 0) :: st) := sv_putg C (f := 1) (ty := .int) sv_cl4 (Nat.le_add_right _ _) (fun H h => h.2.2 17 0 rfl) (by decide) hlink rfl (by decide +kernel) rfl rfl rfl (fun H H1 h z1 oq hat => by
  refine h.put (c := 17) (j := 0) (q := 9) (i := 60) rfl (by simp [sv_ow]) z1 oq ?_
  have e : sv_e G (sv_w M 9 60 x) o 17 0 = .inr (4, [.ref (sv_r G 18 0), .int x]) := by
    rw [sv_e17]
    simp [sv_w]
  rw [e]
  exact hat) d kk
theorem sv_get_5_0 (C : sv_C p l s m args meth c cc nL own G) {ix : Nat} (hlink : Cond.fieldLink own ix "StairLight" "now" "LStairLight$Stairs;" ∈ sv_tbl) (d : decode cc pc = .ok (.getfield ix, 3)) (kk : sv_V p l e R s m args below meth c nL G Q k n (sv_W G z M o) (pc + 3) lv (.ref (sv_r G 0 0) :: st)) : sv_V p l e R s m args below meth c nL G Q k n (sv_W G z M o) pc lv (.ref (sv_r G 14 0) :: st) := sv_getg C (f := 0) sv_cl5 (fun H h => h.2.2 14 0 rfl) (by decide) hlink rfl d kk
theorem sv_get_5_1 (C : sv_C p l s m args meth c cc nL own G) {ix : Nat} (hlink : Cond.fieldLink own ix "StairLight" "trial" "LStairLight$Stairs;" ∈ sv_tbl) (d : decode cc pc = .ok (.getfield ix, 3)) (kk : sv_V p l e R s m args below meth c nL G Q k n (sv_W G z M o) (pc + 3) lv (.ref (sv_r G 0 1) :: st)) : sv_V p l e R s m args below meth c nL G Q k n (sv_W G z M o) pc lv (.ref (sv_r G 14 0) :: st) := sv_getg C (f := 1) sv_cl5 (fun H h => h.2.2 14 0 rfl) (by decide) hlink rfl d kk
theorem sv_get_5_2 (C : sv_C p l s m args meth c cc nL own G) {ix : Nat} (hlink : Cond.fieldLink own ix "StairLight" "history" "LStairLight$History;" ∈ sv_tbl) (d : decode cc pc = .ok (.getfield ix, 3)) (kk : sv_V p l e R s m args below meth c nL G Q k n (sv_W G z M o) (pc + 3) lv (.ref (sv_r G 15 0) :: st)) : sv_V p l e R s m args below meth c nL G Q k n (sv_W G z M o) pc lv (.ref (sv_r G 14 0) :: st) := sv_getg C (f := 2) sv_cl5 (fun H h => h.2.2 14 0 rfl) (by decide) hlink rfl d kk
theorem sv_get_5_3 (C : sv_C p l s m args meth c cc nL own G) {ix : Nat} (hlink : Cond.fieldLink own ix "StairLight" "walks" "LStairLight$Walks;" ∈ sv_tbl) (d : decode cc pc = .ok (.getfield ix, 3)) (kk : sv_V p l e R s m args below meth c nL G Q k n (sv_W G z M o) (pc + 3) lv (.ref (sv_r G 17 0) :: st)) : sv_V p l e R s m args below meth c nL G Q k n (sv_W G z M o) pc lv (.ref (sv_r G 14 0) :: st) := sv_getg C (f := 3) sv_cl5 (fun H h => h.2.2 14 0 rfl) (by decide) hlink rfl d kk
theorem sv_get_6_0 (C : sv_C p l s m args meth c cc nL own G) {ix : Nat} (hlink : Cond.fieldLink own ix "StairLightModel" "now" "[I" ∈ sv_tbl) (d : decode cc pc = .ok (.getfield ix, 3)) (kk : sv_V p l e R s m args below meth c nL G Q k n (sv_W G z M o) (pc + 3) lv (.ref (sv_r G 20 0) :: st)) : sv_V p l e R s m args below meth c nL G Q k n (sv_W G z M o) pc lv (.ref (sv_r G 19 0) :: st) := sv_getg C (f := 0) sv_cl6 (fun H h => h.2.2 19 0 rfl) (by decide) hlink rfl d kk
theorem sv_get_6_1 (C : sv_C p l s m args meth c cc nL own G) {ix : Nat} (hlink : Cond.fieldLink own ix "StairLightModel" "then" "[I" ∈ sv_tbl) (d : decode cc pc = .ok (.getfield ix, 3)) (kk : sv_V p l e R s m args below meth c nL G Q k n (sv_W G z M o) (pc + 3) lv (.ref (sv_r G 21 0) :: st)) : sv_V p l e R s m args below meth c nL G Q k n (sv_W G z M o) pc lv (.ref (sv_r G 19 0) :: st) := sv_getg C (f := 1) sv_cl6 (fun H h => h.2.2 19 0 rfl) (by decide) hlink rfl d kk
theorem sv_get_6_2 (C : sv_C p l s m args meth c cc nL own G) {ix : Nat} (hlink : Cond.fieldLink own ix "StairLightModel" "past" "[I" ∈ sv_tbl) (d : decode cc pc = .ok (.getfield ix, 3)) (kk : sv_V p l e R s m args below meth c nL G Q k n (sv_W G z M o) (pc + 3) lv (.ref (sv_r G 22 0) :: st)) : sv_V p l e R s m args below meth c nL G Q k n (sv_W G z M o) pc lv (.ref (sv_r G 19 0) :: st) := sv_getg C (f := 2) sv_cl6 (fun H h => h.2.2 19 0 rfl) (by decide) hlink rfl d kk
theorem sv_get_6_3 (C : sv_C p l s m args meth c cc nL own G) {ix : Nat} (hlink : Cond.fieldLink own ix "StairLightModel" "kept" "I" ∈ sv_tbl) (d : decode cc pc = .ok (.getfield ix, 3)) (kk : sv_V p l e R s m args below meth c nL G Q k n (sv_W G z M o) (pc + 3) lv (.int (M 15 0) :: st)) : sv_V p l e R s m args below meth c nL G Q k n (sv_W G z M o) pc lv (.ref (sv_r G 19 0) :: st) := sv_getg C (f := 3) sv_cl6 (fun H h => h.2.2 19 0 rfl) (by decide) hlink rfl d kk
theorem sv_put_6_3 (C : sv_C p l s m args meth c cc nL own G) {ix : Nat} {x : Int32} (hlink : Cond.fieldLink own ix "StairLightModel" "kept" "I" ∈ sv_tbl) (d : decode cc pc = .ok (.putfield ix, 3)) (kk : sv_V p l e R s m args below meth c nL G Q k n (sv_W G z (sv_w M 15 0 x) o) (pc + 3) lv st) : sv_V p l e R s m args below meth c nL G Q k n (sv_W G z M o) pc lv (.int x :: .ref (sv_r G 19 0) :: st) := sv_putg C (f := 3) (ty := .int) sv_cl6 (Nat.le_add_right _ _) (fun H h => h.2.2 19 0 rfl) (by decide) hlink rfl (by decide +kernel) rfl rfl rfl (fun H H1 h z1 oq hat => by
  refine h.put (c := 19) (j := 0) (q := 15) (i := 0) rfl (by simp [sv_ow]) z1 oq ?_
  have e : sv_e G (sv_w M 15 0 x) o 19 0 = .inr (6, [.ref (sv_r G 20 0), .ref (sv_r G 21 0), .ref (sv_r G 22 0), .int x, .ref (sv_r G 23 0), .int (M 15 1), .int (M 15 2), .int (M 15 3), .int (M 15 4), .ref (sv_r G 24 0), .int (M 15 5), .int (M 15 6), .int (M 15 7)]) := by
    rw [sv_e19]
    simp [sv_w]
  rw [e]
  exact hat) d kk
theorem sv_get_6_4 (C : sv_C p l s m args meth c cc nL own G) {ix : Nat} (hlink : Cond.fieldLink own ix "StairLightModel" "text" "[I" ∈ sv_tbl) (d : decode cc pc = .ok (.getfield ix, 3)) (kk : sv_V p l e R s m args below meth c nL G Q k n (sv_W G z M o) (pc + 3) lv (.ref (sv_r G 23 0) :: st)) : sv_V p l e R s m args below meth c nL G Q k n (sv_W G z M o) pc lv (.ref (sv_r G 19 0) :: st) := sv_getg C (f := 4) sv_cl6 (fun H h => h.2.2 19 0 rfl) (by decide) hlink rfl d kk
theorem sv_get_6_5 (C : sv_C p l s m args meth c cc nL own G) {ix : Nat} (hlink : Cond.fieldLink own ix "StairLightModel" "typed" "I" ∈ sv_tbl) (d : decode cc pc = .ok (.getfield ix, 3)) (kk : sv_V p l e R s m args below meth c nL G Q k n (sv_W G z M o) (pc + 3) lv (.int (M 15 1) :: st)) : sv_V p l e R s m args below meth c nL G Q k n (sv_W G z M o) pc lv (.ref (sv_r G 19 0) :: st) := sv_getg C (f := 5) sv_cl6 (fun H h => h.2.2 19 0 rfl) (by decide) hlink rfl d kk
theorem sv_put_6_5 (C : sv_C p l s m args meth c cc nL own G) {ix : Nat} {x : Int32} (hlink : Cond.fieldLink own ix "StairLightModel" "typed" "I" ∈ sv_tbl) (d : decode cc pc = .ok (.putfield ix, 3)) (kk : sv_V p l e R s m args below meth c nL G Q k n (sv_W G z (sv_w M 15 1 x) o) (pc + 3) lv st) : sv_V p l e R s m args below meth c nL G Q k n (sv_W G z M o) pc lv (.int x :: .ref (sv_r G 19 0) :: st) := sv_putg C (f := 5) (ty := .int) sv_cl6 (Nat.le_add_right _ _) (fun H h => h.2.2 19 0 rfl) (by decide) hlink rfl (by decide +kernel) rfl rfl rfl (fun H H1 h z1 oq hat => by
  refine h.put (c := 19) (j := 0) (q := 15) (i := 1) rfl (by simp [sv_ow]) z1 oq ?_
  have e : sv_e G (sv_w M 15 1 x) o 19 0 = .inr (6, [.ref (sv_r G 20 0), .ref (sv_r G 21 0), .ref (sv_r G 22 0), .int (M 15 0), .ref (sv_r G 23 0), .int x, .int (M 15 2), .int (M 15 3), .int (M 15 4), .ref (sv_r G 24 0), .int (M 15 5), .int (M 15 6), .int (M 15 7)]) := by
    rw [sv_e19]
    simp [sv_w]
  rw [e]
  exact hat) d kk
theorem sv_get_6_6 (C : sv_C p l s m args meth c cc nL own G) {ix : Nat} (hlink : Cond.fieldLink own ix "StairLightModel" "thrown" "I" ∈ sv_tbl) (d : decode cc pc = .ok (.getfield ix, 3)) (kk : sv_V p l e R s m args below meth c nL G Q k n (sv_W G z M o) (pc + 3) lv (.int (M 15 2) :: st)) : sv_V p l e R s m args below meth c nL G Q k n (sv_W G z M o) pc lv (.ref (sv_r G 19 0) :: st) := sv_getg C (f := 6) sv_cl6 (fun H h => h.2.2 19 0 rfl) (by decide) hlink rfl d kk
theorem sv_put_6_6 (C : sv_C p l s m args meth c cc nL own G) {ix : Nat} {x : Int32} (hlink : Cond.fieldLink own ix "StairLightModel" "thrown" "I" ∈ sv_tbl) (d : decode cc pc = .ok (.putfield ix, 3)) (kk : sv_V p l e R s m args below meth c nL G Q k n (sv_W G z (sv_w M 15 2 x) o) (pc + 3) lv st) : sv_V p l e R s m args below meth c nL G Q k n (sv_W G z M o) pc lv (.int x :: .ref (sv_r G 19 0) :: st) := sv_putg C (f := 6) (ty := .int) sv_cl6 (Nat.le_add_right _ _) (fun H h => h.2.2 19 0 rfl) (by decide) hlink rfl (by decide +kernel) rfl rfl rfl (fun H H1 h z1 oq hat => by
  refine h.put (c := 19) (j := 0) (q := 15) (i := 2) rfl (by simp [sv_ow]) z1 oq ?_
  have e : sv_e G (sv_w M 15 2 x) o 19 0 = .inr (6, [.ref (sv_r G 20 0), .ref (sv_r G 21 0), .ref (sv_r G 22 0), .int (M 15 0), .ref (sv_r G 23 0), .int (M 15 1), .int x, .int (M 15 3), .int (M 15 4), .ref (sv_r G 24 0), .int (M 15 5), .int (M 15 6), .int (M 15 7)]) := by
    rw [sv_e19]
    simp [sv_w]
  rw [e]
  exact hat) d kk
theorem sv_get_6_7 (C : sv_C p l s m args meth c cc nL own G) {ix : Nat} (hlink : Cond.fieldLink own ix "StairLightModel" "at" "I" ∈ sv_tbl) (d : decode cc pc = .ok (.getfield ix, 3)) (kk : sv_V p l e R s m args below meth c nL G Q k n (sv_W G z M o) (pc + 3) lv (.int (M 15 3) :: st)) : sv_V p l e R s m args below meth c nL G Q k n (sv_W G z M o) pc lv (.ref (sv_r G 19 0) :: st) := sv_getg C (f := 7) sv_cl6 (fun H h => h.2.2 19 0 rfl) (by decide) hlink rfl d kk
theorem sv_put_6_7 (C : sv_C p l s m args meth c cc nL own G) {ix : Nat} {x : Int32} (hlink : Cond.fieldLink own ix "StairLightModel" "at" "I" ∈ sv_tbl) (d : decode cc pc = .ok (.putfield ix, 3)) (kk : sv_V p l e R s m args below meth c nL G Q k n (sv_W G z (sv_w M 15 3 x) o) (pc + 3) lv st) : sv_V p l e R s m args below meth c nL G Q k n (sv_W G z M o) pc lv (.int x :: .ref (sv_r G 19 0) :: st) := sv_putg C (f := 7) (ty := .int) sv_cl6 (Nat.le_add_right _ _) (fun H h => h.2.2 19 0 rfl) (by decide) hlink rfl (by decide +kernel) rfl rfl rfl (fun H H1 h z1 oq hat => by
  refine h.put (c := 19) (j := 0) (q := 15) (i := 3) rfl (by simp [sv_ow]) z1 oq ?_
  have e : sv_e G (sv_w M 15 3 x) o 19 0 = .inr (6, [.ref (sv_r G 20 0), .ref (sv_r G 21 0), .ref (sv_r G 22 0), .int (M 15 0), .ref (sv_r G 23 0), .int (M 15 1), .int (M 15 2), .int x, .int (M 15 4), .ref (sv_r G 24 0), .int (M 15 5), .int (M 15 6), .int (M 15 7)]) := by
    rw [sv_e19]
    simp [sv_w]
  rw [e]
  exact hat) d kk
theorem sv_get_6_8 (C : sv_C p l s m args meth c cc nL own G) {ix : Nat} (hlink : Cond.fieldLink own ix "StairLightModel" "isFault" "Z" ∈ sv_tbl) (d : decode cc pc = .ok (.getfield ix, 3)) (kk : sv_V p l e R s m args below meth c nL G Q k n (sv_W G z M o) (pc + 3) lv (.int (M 15 4) :: st)) : sv_V p l e R s m args below meth c nL G Q k n (sv_W G z M o) pc lv (.ref (sv_r G 19 0) :: st) := sv_getg C (f := 8) sv_cl6 (fun H h => h.2.2 19 0 rfl) (by decide) hlink rfl d kk
theorem sv_put_6_8 (C : sv_C p l s m args meth c cc nL own G) {ix : Nat} {x : Int32} (hx : x = 0 ∨ x = 1) (hlink : Cond.fieldLink own ix "StairLightModel" "isFault" "Z" ∈ sv_tbl) (d : decode cc pc = .ok (.putfield ix, 3)) (kk : sv_V p l e R s m args below meth c nL G Q k n (sv_W G z (sv_w M 15 4 x) o) (pc + 3) lv st) : sv_V p l e R s m args below meth c nL G Q k n (sv_W G z M o) pc lv (.int x :: .ref (sv_r G 19 0) :: st) := sv_putg C (f := 8) (ty := .boolean) sv_cl6 (Nat.le_add_right _ _) (fun H h => h.2.2 19 0 rfl) (by decide) hlink rfl (by decide +kernel) (by rcases hx with rfl | rfl <;> rfl) (by rcases hx with rfl | rfl <;> rfl) rfl (fun H H1 h z1 oq hat => by
  refine h.put (c := 19) (j := 0) (q := 15) (i := 4) rfl (by simp [sv_ow]) z1 oq ?_
  have e : sv_e G (sv_w M 15 4 x) o 19 0 = .inr (6, [.ref (sv_r G 20 0), .ref (sv_r G 21 0), .ref (sv_r G 22 0), .int (M 15 0), .ref (sv_r G 23 0), .int (M 15 1), .int (M 15 2), .int (M 15 3), .int x, .ref (sv_r G 24 0), .int (M 15 5), .int (M 15 6), .int (M 15 7)]) := by
    rw [sv_e19]
    simp [sv_w]
  rw [e]
  exact hat) d kk
theorem sv_get_6_9 (C : sv_C p l s m args meth c cc nL own G) {ix : Nat} (hlink : Cond.fieldLink own ix "StairLightModel" "told" "[I" ∈ sv_tbl) (d : decode cc pc = .ok (.getfield ix, 3)) (kk : sv_V p l e R s m args below meth c nL G Q k n (sv_W G z M o) (pc + 3) lv (.ref (sv_r G 24 0) :: st)) : sv_V p l e R s m args below meth c nL G Q k n (sv_W G z M o) pc lv (.ref (sv_r G 19 0) :: st) := sv_getg C (f := 9) sv_cl6 (fun H h => h.2.2 19 0 rfl) (by decide) hlink rfl d kk
theorem sv_get_6_10 (C : sv_C p l s m args meth c cc nL own G) {ix : Nat} (hlink : Cond.fieldLink own ix "StairLightModel" "tolds" "I" ∈ sv_tbl) (d : decode cc pc = .ok (.getfield ix, 3)) (kk : sv_V p l e R s m args below meth c nL G Q k n (sv_W G z M o) (pc + 3) lv (.int (M 15 5) :: st)) : sv_V p l e R s m args below meth c nL G Q k n (sv_W G z M o) pc lv (.ref (sv_r G 19 0) :: st) := sv_getg C (f := 10) sv_cl6 (fun H h => h.2.2 19 0 rfl) (by decide) hlink rfl d kk
theorem sv_put_6_10 (C : sv_C p l s m args meth c cc nL own G) {ix : Nat} {x : Int32} (hlink : Cond.fieldLink own ix "StairLightModel" "tolds" "I" ∈ sv_tbl) (d : decode cc pc = .ok (.putfield ix, 3)) (kk : sv_V p l e R s m args below meth c nL G Q k n (sv_W G z (sv_w M 15 5 x) o) (pc + 3) lv st) : sv_V p l e R s m args below meth c nL G Q k n (sv_W G z M o) pc lv (.int x :: .ref (sv_r G 19 0) :: st) := sv_putg C (f := 10) (ty := .int) sv_cl6 (Nat.le_add_right _ _) (fun H h => h.2.2 19 0 rfl) (by decide) hlink rfl (by decide +kernel) rfl rfl rfl (fun H H1 h z1 oq hat => by
  refine h.put (c := 19) (j := 0) (q := 15) (i := 5) rfl (by simp [sv_ow]) z1 oq ?_
  have e : sv_e G (sv_w M 15 5 x) o 19 0 = .inr (6, [.ref (sv_r G 20 0), .ref (sv_r G 21 0), .ref (sv_r G 22 0), .int (M 15 0), .ref (sv_r G 23 0), .int (M 15 1), .int (M 15 2), .int (M 15 3), .int (M 15 4), .ref (sv_r G 24 0), .int x, .int (M 15 6), .int (M 15 7)]) := by
    rw [sv_e19]
    simp [sv_w]
  rw [e]
  exact hat) d kk
theorem sv_get_6_11 (C : sv_C p l s m args meth c cc nL own G) {ix : Nat} (hlink : Cond.fieldLink own ix "StairLightModel" "watched" "I" ∈ sv_tbl) (d : decode cc pc = .ok (.getfield ix, 3)) (kk : sv_V p l e R s m args below meth c nL G Q k n (sv_W G z M o) (pc + 3) lv (.int (M 15 6) :: st)) : sv_V p l e R s m args below meth c nL G Q k n (sv_W G z M o) pc lv (.ref (sv_r G 19 0) :: st) := sv_getg C (f := 11) sv_cl6 (fun H h => h.2.2 19 0 rfl) (by decide) hlink rfl d kk
theorem sv_put_6_11 (C : sv_C p l s m args meth c cc nL own G) {ix : Nat} {x : Int32} (hlink : Cond.fieldLink own ix "StairLightModel" "watched" "I" ∈ sv_tbl) (d : decode cc pc = .ok (.putfield ix, 3)) (kk : sv_V p l e R s m args below meth c nL G Q k n (sv_W G z (sv_w M 15 6 x) o) (pc + 3) lv st) : sv_V p l e R s m args below meth c nL G Q k n (sv_W G z M o) pc lv (.int x :: .ref (sv_r G 19 0) :: st) := sv_putg C (f := 11) (ty := .int) sv_cl6 (Nat.le_add_right _ _) (fun H h => h.2.2 19 0 rfl) (by decide) hlink rfl (by decide +kernel) rfl rfl rfl (fun H H1 h z1 oq hat => by
  refine h.put (c := 19) (j := 0) (q := 15) (i := 6) rfl (by simp [sv_ow]) z1 oq ?_
  have e : sv_e G (sv_w M 15 6 x) o 19 0 = .inr (6, [.ref (sv_r G 20 0), .ref (sv_r G 21 0), .ref (sv_r G 22 0), .int (M 15 0), .ref (sv_r G 23 0), .int (M 15 1), .int (M 15 2), .int (M 15 3), .int (M 15 4), .ref (sv_r G 24 0), .int (M 15 5), .int x, .int (M 15 7)]) := by
    rw [sv_e19]
    simp [sv_w]
  rw [e]
  exact hat) d kk
theorem sv_get_6_12 (C : sv_C p l s m args meth c cc nL own G) {ix : Nat} (hlink : Cond.fieldLink own ix "StairLightModel" "darks" "I" ∈ sv_tbl) (d : decode cc pc = .ok (.getfield ix, 3)) (kk : sv_V p l e R s m args below meth c nL G Q k n (sv_W G z M o) (pc + 3) lv (.int (M 15 7) :: st)) : sv_V p l e R s m args below meth c nL G Q k n (sv_W G z M o) pc lv (.ref (sv_r G 19 0) :: st) := sv_getg C (f := 12) sv_cl6 (fun H h => h.2.2 19 0 rfl) (by decide) hlink rfl d kk
theorem sv_put_6_12 (C : sv_C p l s m args meth c cc nL own G) {ix : Nat} {x : Int32} (hlink : Cond.fieldLink own ix "StairLightModel" "darks" "I" ∈ sv_tbl) (d : decode cc pc = .ok (.putfield ix, 3)) (kk : sv_V p l e R s m args below meth c nL G Q k n (sv_W G z (sv_w M 15 7 x) o) (pc + 3) lv st) : sv_V p l e R s m args below meth c nL G Q k n (sv_W G z M o) pc lv (.int x :: .ref (sv_r G 19 0) :: st) := sv_putg C (f := 12) (ty := .int) sv_cl6 (Nat.le_add_right _ _) (fun H h => h.2.2 19 0 rfl) (by decide) hlink rfl (by decide +kernel) rfl rfl rfl (fun H H1 h z1 oq hat => by
  refine h.put (c := 19) (j := 0) (q := 15) (i := 7) rfl (by simp [sv_ow]) z1 oq ?_
  have e : sv_e G (sv_w M 15 7 x) o 19 0 = .inr (6, [.ref (sv_r G 20 0), .ref (sv_r G 21 0), .ref (sv_r G 22 0), .int (M 15 0), .ref (sv_r G 23 0), .int (M 15 1), .int (M 15 2), .int (M 15 3), .int (M 15 4), .ref (sv_r G 24 0), .int (M 15 5), .int (M 15 6), .int x]) := by
    rw [sv_e19]
    simp [sv_w]
  rw [e]
  exact hat) d kk
end SVW
end
section
/-! contracts, calls, ends -/
abbrev sv_rm (d mc ms : Nat) : Room := { frames := d, cells := mc, slots := ms, locals := 36 * d }
def sv_Pc (G : sv_G) (Wd : Heap → Prop) (as : List Value) : Array Value → State → Prop := va_Pc as (fun U => Wd U.heap ∧ sv_K G U)
def sv_Qc (G : sv_G) (Wd' : Heap → Prop) (r : Option Value) : Array Value → State → Outcome → State → Prop := fun _ st o t => o = .returned r ∧ Wd' t.heap ∧ va_F (sv_A G) st t
def sv_Xc (G : sv_G) (E0 : String → Prop) (Wx : Heap → Prop) : String → State → State → Prop := fun E st t => E0 E ∧ Wx t.heap ∧ va_F (sv_A G) st t
/-- y returns r, and the world is Wd' -/
abbrev sv_Met (l : Launch) (G : sv_G) (y : MethodName) (b : ByteArray) (maxL : Nat) (ret : Option FieldType) (d : Nat) (as : List Value) (Wd : Heap → Prop) (r : Option Value) (Wd' : Heap → Prop) : Prop := Met l y [.code y b maxL ret] (sv_rm d 0 0) (sv_Pc G Wd as) (sv_Qc G Wd' r) 0 0 (sv_A G)
/-- y returns r (never, where ok is false), or throws an E with E0 E -/
abbrev sv_MetX (l : Launch) (G : sv_G) (y : MethodName) (b : ByteArray) (maxL : Nat) (ret : Option FieldType) (d mc : Nat) (as : List Value) (Wd : Heap → Prop) (ok : Prop) (r : Option Value) (Wd' : Heap → Prop) (E0 : String → Prop) (Wx : Heap → Prop) : Prop := vx_Met l y [.code y b maxL ret] (sv_rm d mc (6 * mc)) (sv_Pc G Wd as) (fun a st o t => ok ∧ sv_Qc G Wd' r a st o t) (sv_Xc G E0 Wx) mc (6 * mc) (sv_A G)
/-- a method by the tables -/
def sv_Yv (y : MethodName) (b : ByteArray) (maxL : Nat) (ret : Option FieldType) (n : Nat) : Prop := Cond.instanceMethod y ∈ sv_tbl ∧ Cond.selects y.cls y y ∈ sv_tbl ∧ Cond.initialized y.cls ∈ sv_tbl ∧ Cond.code y b maxL ret ∈ sv_tbl ∧ (y.cls ≠ "java/lang/invoke/MethodHandle" ∧ y.cls ≠ "java/lang/invoke/VarHandle" ∧ (parseMethodDescriptor y.desc).map (fun d => d.parameters.length) = some n)
def sv_Ys (y : MethodName) (b : ByteArray) (maxL : Nat) (ret : Option FieldType) (n : Nat) : Prop := Cond.static y ∈ sv_tbl ∧ Cond.initialized y.cls ∈ sv_tbl ∧ Cond.code y b maxL ret ∈ sv_tbl ∧ (y.cls ≠ "java/lang/invoke/MethodHandle" ∧ y.cls ≠ "java/lang/invoke/VarHandle" ∧ (parseMethodDescriptor y.desc).map (fun d => d.parameters.length) = some n)
def sv_Yi (y : MethodName) (b : ByteArray) (maxL : Nat) (n : Nat) : Prop := Cond.instanceMethod y ∈ sv_tbl ∧ Cond.initialized y.cls ∈ sv_tbl ∧ Cond.code y b maxL none ∈ sv_tbl ∧ y.name = "<init>" ∧ (y.cls ≠ "java/lang/invoke/MethodHandle" ∧ y.cls ≠ "java/lang/invoke/VarHandle" ∧ (parseMethodDescriptor y.desc).map (fun d => d.parameters.length) = some n)
theorem sv_blind (G : sv_G) (Wd : Heap → Prop) (as : List Value) : FrameBlind (sv_Pc G Wd as) := fun a U g mk h => ⟨h.1, h.2.1, sv_K.to (s := U) (U := U.calling g mk a) (State.WarmedH.refl U) (fun _ _ _ => rfl) h.2.2⟩
section SVC
variable {p : Program} {l : Launch} {e : Env} {R : Room} {s : State} {m : MethodId} {args : Array Value} {below : List Frame} {meth : Method} {c : Code} {k n nL : Nat} {Q : State → Prop} {G : sv_G} {Wd Wd' Wx : Heap → Prop}
variable {cc : ByteArray} {pc : Nat} {lv lv' : List (Nat × Value)} {st rest : List Value} {own : String} {z : Nat} {M : sv_M} {o : Int64}
variable {y : MethodName} {b : ByteArray} {maxL d mc ms ix N a : Nat} {ret : Option FieldType} {as : List Value} {r : Option Value} {E0 : String → Prop} {ok : Prop}
/-- what a callee may ask, at a call -/
theorem sv_pre (C : sv_C p l s m args meth c cc nL own G) {H : Heap} {locs : List Loc} {as0 : List Value} (hW : Wd H) (hS : va_S (sv_A G) s.heap H locs) {U : State} (hU : U.heap = H) (hw : s.WarmedH U.vm) : sv_Pc G Wd as0 as0.toArray U :=
  ⟨rfl, by rw [hU]; exact hW, sv_K.to hw (fun a h1 h2 => by rw [hU]; exact hS.2.1 a h1 h2) C.2.2.2.2.2⟩
theorem sv_cb (C : sv_C p l s m args meth c cc nL own G) {rm : Room} (hml : Cond.methodLink own ix y ∈ sv_tbl) (hini : Cond.initialized y.cls ∈ sv_tbl) (hcode : Cond.code y b maxL ret ∈ sv_tbl) (hy : y.cls ≠ "java/lang/invoke/MethodHandle" ∧ y.cls ≠ "java/lang/invoke/VarHandle" ∧ (parseMethodDescriptor y.desc).map (fun d => d.parameters.length) = some N) (hR : rm.frames + 1 ≤ R.frames ∧ 8 + (maxL + 11) + rm.locals ≤ R.locals) : CallB R s args own ix y b maxL ret [.code y b maxL ret] rm rm.cells rm.slots N := by
  refine ⟨rfl, rfl, hR.1, hR.2, ?_, List.mem_cons_self, C.2.2.2.2.2.word hcode args, C.2.2.2.2.2.word hini args, ⟨hy.1, hy.2.1⟩, fun sig h => ?_, C.2.2.2.2.2.word hml args⟩
  · intro w hw a' U hW
    rcases List.mem_singleton.mp hw with rfl
    exact word_at hW (sv_good hcode) (C.2.2.2.2.2.word hcode args)
  · have h2 := hy.2.2
    rw [h] at h2
    exact (Option.some.inj h2).symm
theorem sv_cn (C : sv_C p l s m args meth c cc nL own G) {rm : Room} {host : String} (hml : (own, ix, y, host) ∈ sv_nests) (hini : Cond.initialized y.cls ∈ sv_tbl) (hcode : Cond.code y b maxL ret ∈ sv_tbl) (hy : y.cls ≠ "java/lang/invoke/MethodHandle" ∧ y.cls ≠ "java/lang/invoke/VarHandle" ∧ (parseMethodDescriptor y.desc).map (fun d => d.parameters.length) = some N) (hR : rm.frames + 1 ≤ R.frames ∧ 8 + (maxL + 11) + rm.locals ≤ R.locals) : va_CN R s args own ix y host b maxL ret [.code y b maxL ret] rm rm.cells rm.slots N := by
  refine ⟨⟨rfl, rfl, hR.1, hR.2, ?_, List.mem_cons_self⟩, C.2.2.2.2.2.word hcode args, C.2.2.2.2.2.word hini args, ⟨hy.1, hy.2.1⟩, fun sig h => ?_, va_Nw.use rfl (C.2.2.2.2.2.2.2.1.1 _ hml)⟩
  · intro w hw a' U hW
    rcases List.mem_singleton.mp hw with rfl
    exact word_at hW (sv_good hcode) (C.2.2.2.2.2.word hcode args)
  · have h2 := hy.2.2
    rw [h] at h2
    exact (Option.some.inj h2).symm
/-- behind a call that returns -/
theorem sv_run {av : Array Value} (hr : ∀ H locs ls, Wd H → va_S (sv_A G) s.heap H locs → lv_has ls nL lv → va_Run p l e R s m args below meth c H locs k n mc ms (F0 m pc ls st) rest (sv_Qc G Wd' r av) (sv_A G)) (kk : sv_V p l e R s m args below meth c nL G Q (k + mc) (n + ms) Wd' (pc + 3) lv (r.toList ++ rest)) : sv_V p l e R s m args below meth c nL G Q k n Wd pc lv st := by
  intro H locs ls h1 h2 h3 T hT X
  obtain ⟨v, st₀, t, T', L, h0, X', hL, e1, e2, ⟨hv, hw, hz, hk⟩, go⟩ := hr H locs ls h1 h2 h3 T hT X
  cases hv
  rw [h0] at hz hk
  obtain ⟨t2, a1, b1⟩ := kk T'.heap (locs ++ L) ls (by rw [e1]; exact hw) ⟨Nat.le_trans h2.1 (by rw [e1]; exact hz), fun q g1 g2 => by rw [e1, hk q (Nat.lt_of_lt_of_le g1 h2.1) g2]; exact h2.2.1 q g1 g2, fun q hq => by
      rcases List.mem_append.mp hq with h | h
      · exact h2.2.2 q h
      · exact hL q h⟩ h3 T' rfl X'
  exact ⟨t2, go t2 a1, b1⟩
/-- q is thrown over this frame, in any heap of the world -/
def sv_X (p : Program) (l : Launch) (e : Env) (R : Room) (s : State) (m : MethodId) (args : Array Value) (below : List Frame) (meth : Method) (c : Code) (nL : Nat) (G : sv_G) (Q : State → Prop) (k n : Nat) (Wx : Heap → Prop) (E : String) (pc : Nat) (lv : List (Nat × Value)) (st : List Value) : Prop :=
  ∀ (H : Heap) (locs : List Loc) (ls : Array Slot) (q : Addr) (ce : Cell), Wx H → va_S (sv_A G) s.heap H locs → lv_has ls nL lv → H[q]? = some ce → ce.vm = .none → s.vm.findClass E = some ce.cls → vx_W p l e R s m args below meth c H locs k n Q (F0 m pc ls st) q
theorem sv_runX {av : Array Value} (hr : ∀ H locs ls, Wd H → va_S (sv_A G) s.heap H locs → lv_has ls nL lv → vx_Run p l e R s m args below meth c H locs k n mc ms (F0 m pc ls st) rest (fun st o t => ok ∧ sv_Qc G Wd' r av st o t) (sv_Xc G E0 Wx) (sv_A G)) (kx : ∀ E, E0 E → sv_X p l e R s m args below meth c nL G Q (k + mc) (n + ms) Wx E pc lv rest) (kk : ok → sv_V p l e R s m args below meth c nL G Q (k + mc) (n + ms) Wd' (pc + 3) lv (r.toList ++ rest)) : sv_V p l e R s m args below meth c nL G Q k n Wd pc lv st := by
  intro H locs ls h1 h2 h3 T hT X
  rcases hr H locs ls h1 h2 h3 T hT X with ⟨v, st₀, t, T', L, h0, X', hL, e1, e2, ⟨hok, hv, hw, hz, hk⟩, go⟩ | ⟨q, st₀, t, T', L, E, ce, h0, X', hL, e1, e2, ⟨hE, hw, hz, hk⟩, hce, hcv, hcl, go⟩
  · cases hv
    rw [h0] at hz hk
    obtain ⟨t2, a1, b1⟩ := kk hok T'.heap (locs ++ L) ls (by rw [e1]; exact hw) ⟨Nat.le_trans h2.1 (by rw [e1]; exact hz), fun q g1 g2 => by rw [e1, hk q (Nat.lt_of_lt_of_le g1 h2.1) g2]; exact h2.2.1 q g1 g2, fun q hq => by
        rcases List.mem_append.mp hq with h | h
        · exact h2.2.2 q h
        · exact hL q h⟩ h3 T' rfl X'
    exact ⟨t2, go t2 a1, b1⟩
  · rw [h0] at hz hk
    obtain ⟨t2, a1, b1⟩ := kx E hE T'.heap (locs ++ L) ls q ce (by rw [e1]; exact hw) ⟨Nat.le_trans h2.1 (by rw [e1]; exact hz), fun q g1 g2 => by rw [e1, hk q (Nat.lt_of_lt_of_le g1 h2.1) g2]; exact h2.2.1 q g1 g2, fun q hq => by
        rcases List.mem_append.mp hq with h | h
        · exact h2.2.2 q h
        · exact hL q h⟩ h3 (by rw [e1]; exact hce) hcv hcl T' rfl X'
    exact ⟨t2, Steps.trans go a1, b1⟩
abbrev sv_recv (s : State) (Wd : Heap → Prop) (Cn : String) (a : Nat) : Prop := ∀ H, Wd H → ∃ cell : Cell, H[a]? = some cell ∧ cell.vm.isStatics = false ∧ s.vm.findClass Cn = some cell.cls
theorem sv_recvg (C : sv_C p l s m args meth c cc nL own G) {ci : Nat} {Cn : String} {T : u_T} {N' : Nat} {fs : List Value} (hcl : vwCl[ci]? = some (Cn, T, N')) (hat : ∀ H, Wd H → va_at (sv_D G) vwCl (a, .inr (ci, fs)) H) : sv_recv s Wd Cn a := fun H h => va_recv (q := (Cn, T, N')) C.2.2.2.2.2.1 (sv_one (hat H h)) hcl (q0 := 0) rfl
theorem sv_callV (C : sv_C p l s m args meth c cc nL own G) (hM : sv_Met l G y b maxL ret d (.ref a :: as) Wd r Wd') (hY : sv_Yv y b maxL ret as.length) (hml : Cond.methodLink own ix y ∈ sv_tbl) (hrc : sv_recv s Wd y.cls a) (hR : d + 1 ≤ R.frames ∧ 8 + (maxL + 11) + 36 * d ≤ R.locals) (hrest : (rest.map fun v => v.category).sum ≤ 8) (dg : decode cc pc = .ok (.invokevirtual ix, 3)) (hf : k ≤ R.cells ∧ n ≤ R.slots) (kk : sv_V p l e R s m args below meth c nL G Q k n Wd' (pc + 3) lv (r.toList ++ rest)) : sv_V p l e R s m args below meth c nL G Q k n Wd pc lv (as.reverse ++ .ref a :: rest) := sv_run (mc := 0) (ms := 0) (fun H locs ls h1 h2 h3 => va_runV (Ts := sv_tbl) ⟨C.1, C.2.1, C.2.2.1, C.2.2.2.1, fun w hw => C.2.2.2.2.2.word hw args⟩ hM ⟨sv_cb C hml hY.2.2.1 hY.2.2.2.1 hY.2.2.2.2 hR, C.2.2.2.2.2.word hY.1 args, C.2.2.2.2.2.word hY.2.1 args⟩ ⟨sv_blind _ _ _, hrc H h1, fun U hU hw => sv_pre C h1 h2 hU hw⟩ rfl rfl h3.1 rfl (lv_room hrest) dg hf) kk
theorem sv_callS (C : sv_C p l s m args meth c cc nL own G) (hM : sv_Met l G y b maxL ret d as Wd r Wd') (hY : sv_Ys y b maxL ret as.length) (hml : Cond.methodLink own ix y ∈ sv_tbl) (hR : d + 1 ≤ R.frames ∧ 8 + (maxL + 11) + 36 * d ≤ R.locals) (hrest : (rest.map fun v => v.category).sum ≤ 8) (dg : decode cc pc = .ok (.invokestatic ix, 3)) (hf : k ≤ R.cells ∧ n ≤ R.slots) (kk : sv_V p l e R s m args below meth c nL G Q k n Wd' (pc + 3) lv (r.toList ++ rest)) : sv_V p l e R s m args below meth c nL G Q k n Wd pc lv (as.reverse ++ rest) := sv_run (mc := 0) (ms := 0) (fun H locs ls h1 h2 h3 => va_runS (Ts := sv_tbl) ⟨C.1, C.2.1, C.2.2.1, C.2.2.2.1, fun w hw => C.2.2.2.2.2.word hw args⟩ hM ⟨sv_cb C hml hY.2.1 hY.2.2.1 hY.2.2.2 hR, C.2.2.2.2.2.word hY.1 args⟩ ⟨sv_blind _ _ _, fun U hU hw => sv_pre C h1 h2 hU hw⟩ rfl rfl h3.1 rfl (lv_room hrest) dg hf) kk
theorem sv_callN (C : sv_C p l s m args meth c cc nL own G) (hM : sv_Met l G y b maxL ret d as Wd r Wd') (hY : sv_Ys y b maxL ret as.length) {host : String} (hml : (own, ix, y, host) ∈ sv_nests) (hR : d + 1 ≤ R.frames ∧ 8 + (maxL + 11) + 36 * d ≤ R.locals) (hrest : (rest.map fun v => v.category).sum ≤ 8) (dg : decode cc pc = .ok (.invokestatic ix, 3)) (hf : k ≤ R.cells ∧ n ≤ R.slots) (kk : sv_V p l e R s m args below meth c nL G Q k n Wd' (pc + 3) lv (r.toList ++ rest)) : sv_V p l e R s m args below meth c nL G Q k n Wd pc lv (as.reverse ++ rest) := sv_run (mc := 0) (ms := 0) (fun H locs ls h1 h2 h3 => va_runSN (Ts := sv_tbl) ⟨C.1, C.2.1, C.2.2.1, C.2.2.2.1, fun w hw => C.2.2.2.2.2.word hw args⟩ hM ⟨sv_cn C hml hY.2.1 hY.2.2.1 hY.2.2.2 hR, C.2.2.2.2.2.word hY.1 args, trivial⟩ ⟨sv_blind _ _ _, fun U hU hw => sv_pre C h1 h2 hU hw⟩ rfl rfl h3.1 rfl (lv_room hrest) dg hf) kk
theorem sv_callI (C : sv_C p l s m args meth c cc nL own G) (hM : sv_Met l G y b maxL none d (.ref a :: as) Wd r Wd') (hY : sv_Yi y b maxL as.length) (hml : Cond.methodLink own ix y ∈ sv_tbl) (hR : d + 1 ≤ R.frames ∧ 8 + (maxL + 11) + 36 * d ≤ R.locals) (hrest : (rest.map fun v => v.category).sum ≤ 8) (dg : decode cc pc = .ok (.invokespecial ix, 3)) (hf : k ≤ R.cells ∧ n ≤ R.slots) (kk : sv_V p l e R s m args below meth c nL G Q k n Wd' (pc + 3) lv (r.toList ++ rest)) : sv_V p l e R s m args below meth c nL G Q k n Wd pc lv (as.reverse ++ .ref a :: rest) := sv_run (mc := 0) (ms := 0) (fun H locs ls h1 h2 h3 => va_runI (Ts := sv_tbl) ⟨C.1, C.2.1, C.2.2.1, C.2.2.2.1, fun w hw => C.2.2.2.2.2.word hw args⟩ hM ⟨sv_cb C hml hY.2.1 hY.2.2.1 hY.2.2.2.2 hR, hY.2.2.2.1, C.2.2.2.2.2.word hY.1 args⟩ ⟨sv_blind _ _ _, fun U hU hw => sv_pre C h1 h2 hU hw⟩ rfl rfl h3.1 rfl (lv_room hrest) dg hf) kk
theorem sv_callVX (C : sv_C p l s m args meth c cc nL own G) (hM : sv_MetX l G y b maxL ret d mc (.ref a :: as) Wd ok r Wd' E0 Wx) (hY : sv_Yv y b maxL ret as.length) (hml : Cond.methodLink own ix y ∈ sv_tbl) (hrc : sv_recv s Wd y.cls a) (hR : d + 1 ≤ R.frames ∧ 8 + (maxL + 11) + 36 * d ≤ R.locals) (hrest : (rest.map fun v => v.category).sum ≤ 8) (dg : decode cc pc = .ok (.invokevirtual ix, 3)) (hf : k + mc ≤ R.cells ∧ n + 6 * mc ≤ R.slots) (kx : ∀ E, E0 E → sv_X p l e R s m args below meth c nL G Q (k + mc) (n + 6 * mc) Wx E pc lv rest) (kk : ok → sv_V p l e R s m args below meth c nL G Q (k + mc) (n + 6 * mc) Wd' (pc + 3) lv (r.toList ++ rest)) : sv_V p l e R s m args below meth c nL G Q k n Wd pc lv (as.reverse ++ .ref a :: rest) := sv_runX (fun H locs ls h1 h2 h3 => vx_runV (Ts := sv_tbl) ⟨C.1, C.2.1, C.2.2.1, C.2.2.2.1, fun w hw => C.2.2.2.2.2.word hw args⟩ hM ⟨sv_cb C hml hY.2.2.1 hY.2.2.2.1 hY.2.2.2.2 hR, C.2.2.2.2.2.word hY.1 args, C.2.2.2.2.2.word hY.2.1 args⟩ ⟨sv_blind _ _ _, hrc H h1, fun U hU hw => sv_pre C h1 h2 hU hw⟩ rfl rfl h3.1 rfl (lv_room hrest) dg hf) kx kk
theorem sv_callSX (C : sv_C p l s m args meth c cc nL own G) (hM : sv_MetX l G y b maxL ret d mc as Wd ok r Wd' E0 Wx) (hY : sv_Ys y b maxL ret as.length) (hml : Cond.methodLink own ix y ∈ sv_tbl) (hR : d + 1 ≤ R.frames ∧ 8 + (maxL + 11) + 36 * d ≤ R.locals) (hrest : (rest.map fun v => v.category).sum ≤ 8) (dg : decode cc pc = .ok (.invokestatic ix, 3)) (hf : k + mc ≤ R.cells ∧ n + 6 * mc ≤ R.slots) (kx : ∀ E, E0 E → sv_X p l e R s m args below meth c nL G Q (k + mc) (n + 6 * mc) Wx E pc lv rest) (kk : ok → sv_V p l e R s m args below meth c nL G Q (k + mc) (n + 6 * mc) Wd' (pc + 3) lv (r.toList ++ rest)) : sv_V p l e R s m args below meth c nL G Q k n Wd pc lv (as.reverse ++ rest) := sv_runX (fun H locs ls h1 h2 h3 => vx_runS (Ts := sv_tbl) ⟨C.1, C.2.1, C.2.2.1, C.2.2.2.1, fun w hw => C.2.2.2.2.2.word hw args⟩ hM ⟨sv_cb C hml hY.2.1 hY.2.2.1 hY.2.2.2 hR, C.2.2.2.2.2.word hY.1 args⟩ ⟨sv_blind _ _ _, fun U hU hw => sv_pre C h1 h2 hU hw⟩ rfl rfl h3.1 rfl (lv_room hrest) dg hf) kx kk
theorem sv_ofW {ret : Option FieldType} (hy : plainName y.cls = true) (hin : Cond.code y b maxL ret ∈ sv_tbl) (hlen : (lg_sl as).length ≤ maxL) (body : ∀ p e s m args below meth c, meth.sig.returnType = ret → sv_C p l s m args meth c b maxL y.cls G → (y.name = "<init>" → meth.name = "<init>") → sv_V p l e (sv_rm d mc ms) s m args below meth c maxL G (MQ below (sv_Qc G Wd' r) args s mc ms (sv_A G)) 0 0 Wd 0 (lv_args 0 as) []) : Met l y [.code y b maxL ret] (sv_rm d mc ms) (sv_Pc G Wd as) (sv_Qc G Wd' r) mc ms (sv_A G) := by
  refine Met.ofW (cc := b) (maxL := maxL) (ret := ret) hy rfl ?_
  intro p e s m args below meth c s₁ B hml hv
  obtain ⟨rfl, hw, hK⟩ := hv
  have hl := lv_entry as (n := maxL) hlen
  rw [lg_entry_eq]
  exact body p e s m _ below meth c B.returns ⟨B.exec, B.bytes, hml, findClass_of_methodNamed B.named, B.notSynchronized, hK⟩ (fun h => (name_of_methodNamed B.named B.method).1.trans h) s.heap [] _ hw va_S.rf hl
theorem sv_ofWX {ret : Option FieldType} {Qc : Array Value → State → Outcome → State → Prop} {XC : String → State → State → Prop} (hy : plainName y.cls = true) (hin : Cond.code y b maxL ret ∈ sv_tbl) (hlen : (lg_sl as).length ≤ maxL) (body : ∀ p e s m args below meth c, meth.sig.returnType = ret → sv_C p l s m args meth c b maxL y.cls G → (∀ x ∈ c.exceptionTable.toList, False) → sv_V p l e (sv_rm d mc ms) s m args below meth c maxL G (vx_MQ below Qc XC args s mc ms (sv_A G)) 0 0 Wd 0 (lv_args 0 as) []) : vx_Met l y [.code y b maxL ret] (sv_rm d mc ms) (sv_Pc G Wd as) Qc XC mc ms (sv_A G) := by
  refine vx_ofW (cc := b) (maxL := maxL) (ret := ret) hy rfl ?_
  intro p e s m args below meth c s₁ B hml hx hv
  obtain ⟨rfl, hw, hK⟩ := hv
  have hl := lv_entry as (n := maxL) hlen
  rw [lg_entry_eq]
  exact body p e s m _ below meth c B.returns ⟨B.exec, B.bytes, hml, findClass_of_methodNamed B.named, B.notSynchronized, hK⟩ hx s.heap [] _ hw va_S.rf hl
theorem sv_iret (C : sv_C p l s m args meth c cc nL own G) {v v' : Int32} (hr : meth.sig.returnType = some .int) (d : decode cc pc = .ok (.ireturn, 1)) (hk : k ≤ mc) (hn : n ≤ ms) (hv : v = v') (hw : ∀ H, Wd H → Wd' H) : sv_V p l e R s m args below meth c nL G (MQ below (sv_Qc G Wd' (some (.int v'))) args s mc ms (sv_A G)) k n Wd pc lv [.int v] := by
  subst hv
  intro H locs ls h1 h2 h3
  exact W.widen hk hn (W.iret C.1 C.2.1 hr (fun t ht _ => ⟨rfl, by rw [ht]; exact hw H h1, h2.F ht⟩) h2.2.2 d (hlocks := C.2.2.2.2.1))
theorem sv_iretX (C : sv_C p l s m args meth c cc nL own G) {v v' : Int32} {XC : String → State → State → Prop} (hok : ok) (hr : meth.sig.returnType = some .int) (d : decode cc pc = .ok (.ireturn, 1)) (hk : k ≤ mc) (hn : n ≤ ms) (hv : v = v') (hw : ∀ H, Wd H → Wd' H) : sv_V p l e R s m args below meth c nL G (vx_MQ below (fun a st o t => ok ∧ sv_Qc G Wd' (some (.int v')) a st o t) XC args s mc ms (sv_A G)) k n Wd pc lv [.int v] := by
  subst hv
  intro H locs ls h1 h2 h3
  exact vx_ret (W.widen hk hn (W.iret C.1 C.2.1 hr (fun t ht _ => ⟨hok, rfl, by rw [ht]; exact hw H h1, h2.F ht⟩) h2.2.2 d (hlocks := C.2.2.2.2.1)))
theorem sv_lret (C : sv_C p l s m args meth c cc nL own G) {v v' : Int64} (hr : meth.sig.returnType = some .long) (d : decode cc pc = .ok (.lreturn, 1)) (hk : k ≤ mc) (hn : n ≤ ms) (hv : v = v') (hw : ∀ H, Wd H → Wd' H) : sv_V p l e R s m args below meth c nL G (MQ below (sv_Qc G Wd' (some (.long v'))) args s mc ms (sv_A G)) k n Wd pc lv [.long v] := by
  subst hv
  intro H locs ls h1 h2 h3
  exact W.widen hk hn (W.lret C.1 C.2.1 hr (fun t ht _ => ⟨rfl, by rw [ht]; exact hw H h1, h2.F ht⟩) h2.2.2 d (hlocks := C.2.2.2.2.1))
theorem sv_lretX (C : sv_C p l s m args meth c cc nL own G) {v v' : Int64} {XC : String → State → State → Prop} (hok : ok) (hr : meth.sig.returnType = some .long) (d : decode cc pc = .ok (.lreturn, 1)) (hk : k ≤ mc) (hn : n ≤ ms) (hv : v = v') (hw : ∀ H, Wd H → Wd' H) : sv_V p l e R s m args below meth c nL G (vx_MQ below (fun a st o t => ok ∧ sv_Qc G Wd' (some (.long v')) a st o t) XC args s mc ms (sv_A G)) k n Wd pc lv [.long v] := by
  subst hv
  intro H locs ls h1 h2 h3
  exact vx_ret (W.widen hk hn (W.lret C.1 C.2.1 hr (fun t ht _ => ⟨hok, rfl, by rw [ht]; exact hw H h1, h2.F ht⟩) h2.2.2 d (hlocks := C.2.2.2.2.1)))
theorem sv_dret (C : sv_C p l s m args meth c cc nL own G) {v v' : UInt64} (hr : meth.sig.returnType = some .double) (d : decode cc pc = .ok (.dreturn, 1)) (hk : k ≤ mc) (hn : n ≤ ms) (hv : v = v') (hw : ∀ H, Wd H → Wd' H) : sv_V p l e R s m args below meth c nL G (MQ below (sv_Qc G Wd' (some (.double v'))) args s mc ms (sv_A G)) k n Wd pc lv [.double v] := by
  subst hv
  intro H locs ls h1 h2 h3
  exact W.widen hk hn (W.dret C.1 C.2.1 hr (fun t ht _ => ⟨rfl, by rw [ht]; exact hw H h1, h2.F ht⟩) h2.2.2 d (hlocks := C.2.2.2.2.1))
theorem sv_dretX (C : sv_C p l s m args meth c cc nL own G) {v v' : UInt64} {XC : String → State → State → Prop} (hok : ok) (hr : meth.sig.returnType = some .double) (d : decode cc pc = .ok (.dreturn, 1)) (hk : k ≤ mc) (hn : n ≤ ms) (hv : v = v') (hw : ∀ H, Wd H → Wd' H) : sv_V p l e R s m args below meth c nL G (vx_MQ below (fun a st o t => ok ∧ sv_Qc G Wd' (some (.double v')) a st o t) XC args s mc ms (sv_A G)) k n Wd pc lv [.double v] := by
  subst hv
  intro H locs ls h1 h2 h3
  exact vx_ret (W.widen hk hn (W.dret C.1 C.2.1 hr (fun t ht _ => ⟨hok, rfl, by rw [ht]; exact hw H h1, h2.F ht⟩) h2.2.2 d (hlocks := C.2.2.2.2.1)))
theorem sv_zret (C : sv_C p l s m args meth c cc nL own G) {v v' : Int32} (hz : v' = 0 ∨ v' = 1) (hr : meth.sig.returnType = some .boolean) (d : decode cc pc = .ok (.ireturn, 1)) (hk : k ≤ mc) (hn : n ≤ ms) (hv : v = v') (hw : ∀ H, Wd H → Wd' H) : sv_V p l e R s m args below meth c nL G (MQ below (sv_Qc G Wd' (some (.int v'))) args s mc ms (sv_A G)) k n Wd pc lv [.int v] := by
  subst hv
  intro H locs ls h1 h2 h3
  exact W.widen hk hn (W.zret C.1 C.2.1 hr (by rcases hz with rfl | rfl <;> rfl) (fun t ht _ => ⟨rfl, by rw [ht]; exact hw H h1, h2.F ht⟩) h2.2.2 d (hlocks := C.2.2.2.2.1))
theorem sv_vret (C : sv_C p l s m args meth c cc nL own G) (hr : meth.sig.returnType = none) (d : decode cc pc = .ok (.return_, 1)) (hk : k ≤ mc) (hn : n ≤ ms) (hw : ∀ H, Wd H → Wd' H) : sv_V p l e R s m args below meth c nL G (MQ below (sv_Qc G Wd' none) args s mc ms (sv_A G)) k n Wd pc lv [] := by
  intro H locs ls h1 h2 h3
  exact W.widen hk hn (W.vret C.1 C.2.1 hr (fun t ht _ => ⟨rfl, by rw [ht]; exact hw H h1, h2.F ht⟩) h2.2.2 d (hlocks := C.2.2.2.2.1))
theorem sv_vretX (C : sv_C p l s m args meth c cc nL own G) {XC : String → State → State → Prop} (hok : ok) (hr : meth.sig.returnType = none) (d : decode cc pc = .ok (.return_, 1)) (hk : k ≤ mc) (hn : n ≤ ms) (hw : ∀ H, Wd H → Wd' H) : sv_V p l e R s m args below meth c nL G (vx_MQ below (fun a st o t => ok ∧ sv_Qc G Wd' none a st o t) XC args s mc ms (sv_A G)) k n Wd pc lv [] := by
  intro H locs ls h1 h2 h3
  exact vx_ret (W.widen hk hn (W.vret C.1 C.2.1 hr (fun t ht _ => ⟨hok, rfl, by rw [ht]; exact hw H h1, h2.F ht⟩) h2.2.2 d (hlocks := C.2.2.2.2.1)))
theorem sv_aret (C : sv_C p l s m args meth c cc nL own G) {v v' : Nat} {rt : FieldType} (hr : meth.sig.returnType = some rt) (hrt : (∃ n, rt = .object n) ∨ ∃ t, rt = .array t) (d : decode cc pc = .ok (.areturn, 1)) (hk : k ≤ mc) (hn : n ≤ ms) (hv : v = v') (hw : ∀ H, Wd H → Wd' H) : sv_V p l e R s m args below meth c nL G (MQ below (sv_Qc G Wd' (some (.ref v'))) args s mc ms (sv_A G)) k n Wd pc lv [.ref v] := by
  subst hv
  intro H locs ls h1 h2 h3
  exact W.widen hk hn (W.aret C.1 C.2.1 hr hrt (Or.inr ⟨_, rfl⟩) (fun t ht _ => ⟨rfl, by rw [ht]; exact hw H h1, h2.F ht⟩) h2.2.2 d (hlocks := C.2.2.2.2.1))
/-- a throw goes on to the caller -/
theorem sv_out (C : sv_C p l s m args meth c cc nL own G) {E : String} {Qc : Array Value → State → Outcome → State → Prop} (hx : ∀ x ∈ c.exceptionTable.toList, False) (hk : k ≤ mc) (hn : n ≤ ms) (hE : E0 E) (hw : ∀ H, Wd H → Wx H) : sv_X p l e R s m args below meth c nL G (vx_MQ below Qc (sv_Xc G E0 Wx) args s mc ms (sv_A G)) k n Wd E pc lv st := by
  intro H locs ls q ce h1 h2 h3 hce hcv hcl
  exact vx_out (fun x hx' => (hx x hx').elim) C.2.2.2.2.1 hce hcv hcl (fun t ht _ => ⟨hE, by rw [ht]; exact hw H h1, h2.F ht⟩) h2.2.2 hk hn
end SVC
end
section
/-! what is known of each method by the tables; rows over numbers of known size -/
section SVF
variable {p : Program} {l : Launch} {e : Env} {R : Room} {s : State} {m : MethodId} {args : Array Value} {below : List Frame} {meth : Method} {c : Code} {k n nL : Nat} {Q : State → Prop} {G : sv_G} {Wd Wd' Wx : Heap → Prop}
variable {cc : ByteArray} {pc : Nat} {lv lv' : List (Nat × Value)} {st rest : List Value} {own : String} {z : Nat} {M : sv_M} {o : Int64}
theorem sv_okj {c j : Nat} (hc : c < 14) (hj : j < 8) : sv_ok c j = true := by simp [sv_ok, hc, hj]
theorem sv_nlt (c : Nat) : sv_n c < 2147483648 := by
  unfold sv_n
  repeat' split
  all_goals decide
theorem sv_incN (a n : Nat) : nI a + Int32.ofInt (n : Int) = nI (a + n) := by
  rw [← nI_add]
  rfl
theorem sv_recv0 (C : sv_C p l s m args meth c cc nL own G) {j : Nat} (hj : j < 8) : sv_recv s (sv_W G z M o) RX3 (sv_r G 0 j) := sv_recvg C sv_cl3.1 (fun H h => h.2.2 0 j (sv_okj (by decide) hj))
theorem sv_recv1 (C : sv_C p l s m args meth c cc nL own G) {j : Nat} (hj : j < 8) : sv_recv s (sv_W G z M o) RX0 (sv_r G 1 j) := sv_recvg C sv_cl0.1 (fun H h => h.2.2 1 j (sv_okj (by decide) hj))
theorem sv_recv8 (C : sv_C p l s m args meth c cc nL own G) {j : Nat} (hj : j < 8) : sv_recv s (sv_W G z M o) RX2 (sv_r G 8 j) := sv_recvg C sv_cl2.1 (fun H h => h.2.2 8 j (sv_okj (by decide) hj))
theorem sv_recv14 (C : sv_C p l s m args meth c cc nL own G) : sv_recv s (sv_W G z M o) RX5 (sv_r G 14 0) := sv_recvg C sv_cl5.1 (fun H h => h.2.2 14 0 rfl)
theorem sv_recv15 (C : sv_C p l s m args meth c cc nL own G) : sv_recv s (sv_W G z M o) RX1 (sv_r G 15 0) := sv_recvg C sv_cl1.1 (fun H h => h.2.2 15 0 rfl)
theorem sv_recv17 (C : sv_C p l s m args meth c cc nL own G) : sv_recv s (sv_W G z M o) RX4 (sv_r G 17 0) := sv_recvg C sv_cl4.1 (fun H h => h.2.2 17 0 rfl)
theorem sv_recv19 (C : sv_C p l s m args meth c cc nL own G) : sv_recv s (sv_W G z M o) RX6 (sv_r G 19 0) := sv_recvg C sv_cl6.1 (fun H h => h.2.2 19 0 rfl)
theorem sv_ri {x : Int32} (kk : ∀ v : Int32, v = x → sv_V p l e R s m args below meth c nL G Q k n Wd pc lv (.int v :: st)) : sv_V p l e R s m args below meth c nL G Q k n Wd pc lv ((some (Value.int x)).toList ++ st) := kk x rfl
theorem sv_riN {x : Int32} (a : Nat) (h : x = nI a) (kk : sv_V p l e R s m args below meth c nL G Q k n Wd pc lv (.int (nI a) :: st)) : sv_V p l e R s m args below meth c nL G Q k n Wd pc lv ((some (Value.int x)).toList ++ st) := by subst h; exact kk
theorem sv_riS {x : Int32} (a : Int32) (h : x = a) (kk : sv_V p l e R s m args below meth c nL G Q k n Wd pc lv (.int a :: st)) : sv_V p l e R s m args below meth c nL G Q k n Wd pc lv ((some (Value.int x)).toList ++ st) := by subst h; exact kk
theorem sv_rl {x : Int64} (kk : ∀ v : Int64, v = x → sv_V p l e R s m args below meth c nL G Q k n Wd pc lv (.long v :: st)) : sv_V p l e R s m args below meth c nL G Q k n Wd pc lv ((some (Value.long x)).toList ++ st) := kk x rfl
theorem sv_rlS {x : Int64} (kk : sv_V p l e R s m args below meth c nL G Q k n Wd pc lv (.long x :: st)) : sv_V p l e R s m args below meth c nL G Q k n Wd pc lv ((some (Value.long x)).toList ++ st) := kk
theorem sv_rd {x : UInt64} (kk : ∀ v : UInt64, v = x → sv_V p l e R s m args below meth c nL G Q k n Wd pc lv (.double v :: st)) : sv_V p l e R s m args below meth c nL G Q k n Wd pc lv ((some (Value.double x)).toList ++ st) := kk x rfl
theorem sv_ra {x : Nat} (kk : sv_V p l e R s m args below meth c nL G Q k n Wd pc lv (.ref x :: st)) : sv_V p l e R s m args below meth c nL G Q k n Wd pc lv ((some (Value.ref x)).toList ++ st) := kk
theorem sv_rv (kk : sv_V p l e R s m args below meth c nL G Q k n Wd pc lv st) : sv_V p l e R s m args below meth c nL G Q k n Wd pc lv ((none : Option Value).toList ++ st) := kk
theorem sv_ialdN (C : sv_C p l s m args meth c cc nL own G) {c' j i : Nat} (q p' : Nat) (hq : sv_q c' j = q) (hp : sv_i c' i = p') (hok : sv_ok c' j = true) (hr : sv_ir c' = true) (h : i < sv_n c') (d : decode cc pc = .ok (.iaload, 1)) (kk : sv_V p l e R s m args below meth c nL G Q k n (sv_W G z M o) (pc + 1) lv (.int (M q p') :: st)) : sv_V p l e R s m args below meth c nL G Q k n (sv_W G z M o) pc lv (.int (nI i) :: .ref (sv_r G c' j) :: st) := by
  subst hq; subst hp
  have hs : i < 2 ^ 31 := Nat.lt_trans h (sv_nlt c')
  exact sv_iald C hok hr (vp_in_nI h (sv_nlt c')) d (by rw [nI_clamp hs]; exact kk)
theorem sv_iastN (C : sv_C p l s m args meth c cc nL own G) {c' j i : Nat} {x : Int32} (q p' : Nat) (hq : sv_q c' j = q) (hp : sv_i c' i = p') (hok : sv_ok c' j = true) (hr : sv_ir c' = true) (h : i < sv_n c') (d : decode cc pc = .ok (.iastore, 1)) (kk : sv_V p l e R s m args below meth c nL G Q k n (sv_W G z (sv_w M q p' x) o) (pc + 1) lv st) : sv_V p l e R s m args below meth c nL G Q k n (sv_W G z M o) pc lv (.int x :: .int (nI i) :: .ref (sv_r G c' j) :: st) := by
  subst hq; subst hp
  have hs : i < 2 ^ 31 := Nat.lt_trans h (sv_nlt c')
  exact sv_iast C hok hr (vp_in_nI h (sv_nlt c')) d (by rw [nI_clamp hs]; exact kk)
theorem sv_caldN (C : sv_C p l s m args meth c cc nL own G) {i : Nat} (h : i < 60) (d : decode cc pc = .ok (.caload, 1)) (kk : sv_V p l e R s m args below meth c nL G Q k n (sv_W G z M o) (pc + 1) lv (.int (M 9 i) :: st)) : sv_V p l e R s m args below meth c nL G Q k n (sv_W G z M o) pc lv (.int (nI i) :: .ref (sv_r G 18 0) :: st) := by
  have hs : i < 2 ^ 31 := by omega
  exact sv_cald C (vp_in_nI h (by decide)) d (by rw [nI_clamp hs]; exact kk)
theorem sv_icmp_eqN (C : sv_C p l s m args meth c cc nL own G) {a b : Nat} {off : Int} (tgt : Nat) (d : decode cc pc = .ok (.if_icmp .eq off, 3)) (ht : (pc : Int) + off = (tgt : Int)) (ha : a < 2147483648) (hb : b < 2147483648) (kt : a = b → sv_V p l e R s m args below meth c nL G Q k n Wd tgt lv st) (kf : ¬ a = b → sv_V p l e R s m args below meth c nL G Q k n Wd (pc + 3) lv st) : sv_V p l e R s m args below meth c nL G Q k n Wd pc lv (.int (nI b) :: .int (nI a) :: st) := sv_icmp_eq C tgt d ht (fun q => kt ((nI_eq ha hb).mp q)) (fun q => kf (fun z => q ((nI_eq ha hb).mpr z)))
theorem sv_icmp_neN (C : sv_C p l s m args meth c cc nL own G) {a b : Nat} {off : Int} (tgt : Nat) (d : decode cc pc = .ok (.if_icmp .ne off, 3)) (ht : (pc : Int) + off = (tgt : Int)) (ha : a < 2147483648) (hb : b < 2147483648) (kt : ¬ a = b → sv_V p l e R s m args below meth c nL G Q k n Wd tgt lv st) (kf : a = b → sv_V p l e R s m args below meth c nL G Q k n Wd (pc + 3) lv st) : sv_V p l e R s m args below meth c nL G Q k n Wd pc lv (.int (nI b) :: .int (nI a) :: st) := sv_icmp_ne C tgt d ht (fun q => kt (fun z => q ((nI_eq ha hb).mpr z))) (fun q => kf ((nI_eq ha hb).mp q))
theorem sv_icmp_ltN (C : sv_C p l s m args meth c cc nL own G) {a b : Nat} {off : Int} (tgt : Nat) (d : decode cc pc = .ok (.if_icmp .lt off, 3)) (ht : (pc : Int) + off = (tgt : Int)) (ha : a < 2147483648) (hb : b < 2147483648) (kt : a < b → sv_V p l e R s m args below meth c nL G Q k n Wd tgt lv st) (kf : ¬ a < b → sv_V p l e R s m args below meth c nL G Q k n Wd (pc + 3) lv st) : sv_V p l e R s m args below meth c nL G Q k n Wd pc lv (.int (nI b) :: .int (nI a) :: st) := sv_icmp_lt C tgt d ht (fun q => kt ((nI_ltI ha hb).mp q)) (fun q => kf (fun z => q ((nI_ltI ha hb).mpr z)))
theorem sv_icmp_geN (C : sv_C p l s m args meth c cc nL own G) {a b : Nat} {off : Int} (tgt : Nat) (d : decode cc pc = .ok (.if_icmp .ge off, 3)) (ht : (pc : Int) + off = (tgt : Int)) (ha : a < 2147483648) (hb : b < 2147483648) (kt : b ≤ a → sv_V p l e R s m args below meth c nL G Q k n Wd tgt lv st) (kf : ¬ b ≤ a → sv_V p l e R s m args below meth c nL G Q k n Wd (pc + 3) lv st) : sv_V p l e R s m args below meth c nL G Q k n Wd pc lv (.int (nI b) :: .int (nI a) :: st) := sv_icmp_ge C tgt d ht (fun q => kt ((nI_leI hb ha).mp q)) (fun q => kf (fun z => q ((nI_leI hb ha).mpr z)))
theorem sv_icmp_gtN (C : sv_C p l s m args meth c cc nL own G) {a b : Nat} {off : Int} (tgt : Nat) (d : decode cc pc = .ok (.if_icmp .gt off, 3)) (ht : (pc : Int) + off = (tgt : Int)) (ha : a < 2147483648) (hb : b < 2147483648) (kt : b < a → sv_V p l e R s m args below meth c nL G Q k n Wd tgt lv st) (kf : ¬ b < a → sv_V p l e R s m args below meth c nL G Q k n Wd (pc + 3) lv st) : sv_V p l e R s m args below meth c nL G Q k n Wd pc lv (.int (nI b) :: .int (nI a) :: st) := sv_icmp_gt C tgt d ht (fun q => kt ((nI_ltI hb ha).mp q)) (fun q => kf (fun z => q ((nI_ltI hb ha).mpr z)))
theorem sv_icmp_leN (C : sv_C p l s m args meth c cc nL own G) {a b : Nat} {off : Int} (tgt : Nat) (d : decode cc pc = .ok (.if_icmp .le off, 3)) (ht : (pc : Int) + off = (tgt : Int)) (ha : a < 2147483648) (hb : b < 2147483648) (kt : a ≤ b → sv_V p l e R s m args below meth c nL G Q k n Wd tgt lv st) (kf : ¬ a ≤ b → sv_V p l e R s m args below meth c nL G Q k n Wd (pc + 3) lv st) : sv_V p l e R s m args below meth c nL G Q k n Wd pc lv (.int (nI b) :: .int (nI a) :: st) := sv_icmp_le C tgt d ht (fun q => kt ((nI_leI ha hb).mp q)) (fun q => kf (fun z => q ((nI_leI ha hb).mpr z)))
theorem sv_ex {α : Type} {P : α → Prop} {F : α → Heap → Prop} (kk : ∀ x, P x → sv_V p l e R s m args below meth c nL G Q k n (F x) pc lv st) : sv_V p l e R s m args below meth c nL G Q k n (fun H => ∃ x, P x ∧ F x H) pc lv st := fun H locs ls h1 h2 h3 => by
  obtain ⟨x, hx, hF⟩ := h1
  exact kk x hx H locs ls hF h2 h3
/-- a loop that counts up: from i0 on, to N at most -/
theorem sv_loop (N : Nat) (I : Nat → Prop) (Wf : Nat → Heap → Prop) (Lf : Nat → List (Nat × Value)) (i0 : Nat) (h0 : i0 ≤ N) (hI : I i0) (body : ∀ i, i0 ≤ i → i ≤ N → I i → (i < N → I (i + 1) → sv_V p l e R s m args below meth c nL G Q k n (Wf (i + 1)) pc (Lf (i + 1)) st) → sv_V p l e R s m args below meth c nL G Q k n (Wf i) pc (Lf i) st) : sv_V p l e R s m args below meth c nL G Q k n (Wf i0) pc (Lf i0) st := by
  have key : ∀ t i, i0 ≤ i → i ≤ N → N - i < t → I i → sv_V p l e R s m args below meth c nL G Q k n (Wf i) pc (Lf i) st := by
    intro t
    induction t with
    | zero => intro i _ _ h; omega
    | succ t ih => intro i hi hN h hIi; exact body i hi hN hIi (fun hl hn => ih (i + 1) (by omega) (by omega) (by omega) hn)
  exact key (N + 1) i0 (Nat.le_refl _) h0 (by omega) hI
/-- a loop with a measure that falls -/
theorem sv_loopm {α : Type} (Wf : α → Heap → Prop) (Lf : α → List (Nat × Value)) (μ : α → Nat) (I : α → Prop) (a0 : α) (h0 : I a0) (body : ∀ a, I a → (∀ b, I b → μ b < μ a → sv_V p l e R s m args below meth c nL G Q k n (Wf b) pc (Lf b) st) → sv_V p l e R s m args below meth c nL G Q k n (Wf a) pc (Lf a) st) : sv_V p l e R s m args below meth c nL G Q k n (Wf a0) pc (Lf a0) st := by
  have key : ∀ t a, I a → μ a < t → sv_V p l e R s m args below meth c nL G Q k n (Wf a) pc (Lf a) st := by
    intro t
    induction t with
    | zero => intro a _ h; omega
    | succ t ih => intro a ha h; exact body a ha (fun b hb hl => ih b hb (by omega))
  exact key (μ a0 + 1) a0 h0 (by omega)
end SVF
theorem fX5_init : sv_Yi yX5_init cX5_init 1 0 := ⟨kw_47, kw_30, kw_48, rfl, by decide, by decide, by decide +kernel⟩
theorem fX3_init : sv_Yi yX3_init cX3_init 1 0 := ⟨kw_55, kw_31, kw_56, rfl, by decide, by decide, by decide +kernel⟩
theorem fX0_init : sv_Yi yX0_init cX0_init 2 0 := ⟨kw_61, kw_32, kw_62, rfl, by decide, by decide, by decide +kernel⟩
theorem fX2_init : sv_Yi yX2_init cX2_init 1 0 := ⟨kw_98, kw_33, kw_99, rfl, by decide, by decide, by decide +kernel⟩
theorem fX5_copyRow : sv_Ys yX5_copyRow cX5_copyRow 3 none 2 := ⟨kw_129, kw_30, kw_130, by decide, by decide, by decide +kernel⟩
theorem fX1_init : sv_Yi yX1_init cX1_init 2 0 := ⟨kw_162, kw_34, kw_163, rfl, by decide, by decide, by decide +kernel⟩
theorem fX4_init : sv_Yi yX4_init cX4_init 1 0 := ⟨kw_182, kw_35, kw_183, rfl, by decide, by decide, by decide +kernel⟩
theorem fX5_night : sv_Yv yX5_night cX5_night 3 (some .int) 1 := ⟨kw_208, kw_209, kw_30, kw_210, by decide, by decide, by decide +kernel⟩
theorem fX1_save : sv_Yv yX1_save cX1_save 3 none 1 := ⟨kw_212, kw_213, kw_34, kw_214, by decide, by decide, by decide +kernel⟩
theorem fX1_stateAt : sv_Yv yX1_stateAt cX1_stateAt 2 (some (.object "StairLight$Stairs")) 1 := ⟨kw_217, kw_0, kw_34, kw_218, by decide, by decide, by decide +kernel⟩
theorem fX3_copyFrom : sv_Yv yX3_copyFrom cX3_copyFrom 2 none 1 := ⟨kw_220, kw_221, kw_31, kw_222, by decide, by decide, by decide +kernel⟩
theorem fX0_copyFrom : sv_Yv yX0_copyFrom cX0_copyFrom 2 none 1 := ⟨kw_224, kw_225, kw_32, kw_226, by decide, by decide, by decide +kernel⟩
theorem fX2_copyFrom : sv_Yv yX2_copyFrom cX2_copyFrom 2 none 1 := ⟨kw_229, kw_230, kw_33, kw_231, by decide, by decide, by decide +kernel⟩
theorem fX5_numberOf : sv_Ys yX5_numberOf cX5_numberOf 1 (some .int) 1 := ⟨kw_234, kw_30, kw_235, by decide, by decide, by decide +kernel⟩
theorem fX5_fire : sv_Yv yX5_fire cX5_fire 3 (some .int) 1 := ⟨kw_237, kw_238, kw_30, kw_239, by decide, by decide, by decide +kernel⟩
theorem fX3_switchAllOn : sv_Yv yX3_switchAllOn cX3_switchAllOn 2 none 0 := ⟨kw_241, kw_242, kw_31, kw_243, by decide, by decide, by decide +kernel⟩
theorem fX3_switchOn : sv_Yv yX3_switchOn cX3_switchOn 2 none 1 := ⟨kw_245, kw_246, kw_31, kw_247, by decide, by decide, by decide +kernel⟩
theorem fX5_at : sv_Ys yX5_at cX5_at 2 (some .int) 2 := ⟨kw_249, kw_30, kw_250, by decide, by decide, by decide +kernel⟩
theorem fX0_letBurn : sv_Yv yX0_letBurn cX0_letBurn 4 none 2 := ⟨kw_252, kw_253, kw_32, kw_254, by decide, by decide, by decide +kernel⟩
theorem fX5_raise : sv_Ys yX5_raise cX5_raise 3 none 3 := ⟨kw_257, kw_30, kw_258, by decide, by decide, by decide +kernel⟩
theorem fX5_put : sv_Ys yX5_put cX5_put 3 none 3 := ⟨kw_261, kw_30, kw_262, by decide, by decide, by decide +kernel⟩
theorem fX5_clearBuffer : sv_Yv yX5_clearBuffer cX5_clearBuffer 1 (some .int) 0 := ⟨kw_265, kw_266, kw_30, kw_267, by decide, by decide, by decide +kernel⟩
theorem fX4_clear : sv_Yv yX4_clear cX4_clear 2 (some .int) 0 := ⟨kw_269, kw_270, kw_35, kw_271, by decide, by decide, by decide +kernel⟩
theorem fX5_firstError : sv_Yv yX5_firstError cX5_firstError 1 (some .int) 0 := ⟨kw_273, kw_274, kw_30, kw_275, by decide, by decide, by decide +kernel⟩
theorem fX4_errorPlace : sv_Yv yX4_errorPlace cX4_errorPlace 2 (some .int) 0 := ⟨kw_277, kw_278, kw_35, kw_279, by decide, by decide, by decide +kernel⟩
theorem fX4_fitsAt : sv_Yv yX4_fitsAt cX4_fitsAt 4 (some .boolean) 1 := ⟨kw_282, kw_1, kw_35, kw_283, by decide, by decide, by decide +kernel⟩
theorem fX4_codeAt : sv_Yv yX4_codeAt cX4_codeAt 2 (some .char) 1 := ⟨kw_285, kw_286, kw_35, kw_287, by decide, by decide, by decide +kernel⟩
theorem fX4_isFloor : sv_Ys yX4_isFloor cX4_isFloor 1 (some .boolean) 1 := ⟨kw_289, kw_35, kw_290, by decide, by decide, by decide +kernel⟩
theorem fX4_fitsSign : sv_Ys yX4_fitsSign cX4_fitsSign 3 (some .boolean) 3 := ⟨kw_292, kw_35, kw_293, by decide, by decide, by decide +kernel⟩
theorem fX5_worst : sv_Yv yX5_worst cX5_worst 1 (some .int) 0 := ⟨kw_295, kw_296, kw_30, kw_297, by decide, by decide, by decide +kernel⟩
theorem fX0_mostMissed : sv_Yv yX0_mostMissed cX0_mostMissed 4 (some .int) 0 := ⟨kw_299, kw_300, kw_32, kw_301, by decide, by decide, by decide +kernel⟩
theorem fX5_lightness : sv_Yv yX5_lightness cX5_lightness 1 (some .double) 0 := ⟨kw_303, kw_304, kw_30, kw_305, by decide, by decide, by decide +kernel⟩
theorem fX3_lightShare : sv_Yv yX3_lightShare cX3_lightShare 2 (some .double) 0 := ⟨kw_307, kw_308, kw_31, kw_309, by decide, by decide, by decide +kernel⟩
theorem fX5_sumOf : sv_Ys yX5_sumOf cX5_sumOf 3 (some .int) 1 := ⟨kw_311, kw_30, kw_312, by decide, by decide, by decide +kernel⟩
theorem fX5_digest : sv_Yv yX5_digest cX5_digest 4 (some .long) 0 := ⟨kw_314, kw_315, kw_30, kw_316, by decide, by decide, by decide +kernel⟩
theorem fX5_counted : sv_Yv yX5_counted cX5_counted 2 (some .int) 1 := ⟨kw_320, kw_2, kw_30, kw_321, by decide, by decide, by decide +kernel⟩
theorem fX3_lampsBurning : sv_Yv yX3_lampsBurning cX3_lampsBurning 3 (some .int) 0 := ⟨kw_323, kw_324, kw_31, kw_325, by decide, by decide, by decide +kernel⟩
theorem fX3_lampOf : sv_Yv yX3_lampOf cX3_lampOf 3 (some .int) 1 := ⟨kw_327, kw_328, kw_31, kw_329, by decide, by decide, by decide +kernel⟩
theorem fX5_mixed : sv_Ys yX5_mixed cX5_mixed 4 (some .long) 2 := ⟨kw_332, kw_30, kw_333, by decide, by decide, by decide +kernel⟩
theorem fX5_mixedWithFloors : sv_Yv yX5_mixedWithFloors cX5_mixedWithFloors 7 (some .long) 1 := ⟨kw_337, kw_3, kw_30, kw_338, by decide, by decide, by decide +kernel⟩
theorem fX3_floorNumber : sv_Yv yX3_floorNumber cX3_floorNumber 3 (some .int) 2 := ⟨kw_340, kw_341, kw_31, kw_342, by decide, by decide, by decide +kernel⟩
theorem fX2_peopleOn : sv_Yv yX2_peopleOn cX2_peopleOn 4 (some .int) 1 := ⟨kw_344, kw_345, kw_33, kw_346, by decide, by decide, by decide +kernel⟩
theorem fX5_mixedWithPeople : sv_Yv yX5_mixedWithPeople cX5_mixedWithPeople 7 (some .long) 1 := ⟨kw_350, kw_4, kw_30, kw_351, by decide, by decide, by decide +kernel⟩
theorem fX2_personNumber : sv_Yv yX2_personNumber cX2_personNumber 3 (some .int) 2 := ⟨kw_353, kw_354, kw_33, kw_355, by decide, by decide, by decide +kernel⟩
theorem fX5_outlook : sv_Yv yX5_outlook cX5_outlook 4 (some .int) 2 := ⟨kw_358, kw_5, kw_30, kw_359, by decide, by decide, by decide +kernel⟩
theorem fX3_letPass : sv_Yv yX3_letPass cX3_letPass 4 (some .int) 1 := ⟨kw_362, kw_363, kw_31, kw_364, by decide, by decide, by decide +kernel⟩
theorem fX3_beginSecond : sv_Yv yX3_beginSecond cX3_beginSecond 2 none 0 := ⟨kw_366, kw_367, kw_31, kw_368, by decide, by decide, by decide +kernel⟩
theorem fX2_goOn : sv_Yv yX2_goOn cX2_goOn 4 none 1 := ⟨kw_370, kw_371, kw_33, kw_372, by decide, by decide, by decide +kernel⟩
theorem fX2_isThere : sv_Yv yX2_isThere cX2_isThere 2 (some .boolean) 1 := ⟨kw_374, kw_375, kw_33, kw_376, by decide, by decide, by decide +kernel⟩
theorem fX2_walk : sv_Yv yX2_walk cX2_walk 3 none 2 := ⟨kw_379, kw_6, kw_33, kw_380, by decide, by decide, by decide +kernel⟩
theorem fX2_moveUp : sv_Yv yX2_moveUp cX2_moveUp 3 none 2 := ⟨kw_385, kw_7, kw_33, kw_386, by decide, by decide, by decide +kernel⟩
theorem fX3_switchOnAround : sv_Yv yX3_switchOnAround cX3_switchOnAround 2 none 1 := ⟨kw_389, kw_8, kw_31, kw_390, by decide, by decide, by decide +kernel⟩
theorem fX3_endSecond : sv_Yv yX3_endSecond cX3_endSecond 2 none 0 := ⟨kw_392, kw_393, kw_31, kw_394, by decide, by decide, by decide +kernel⟩
theorem fX3_countSecondOn : sv_Yv yX3_countSecondOn cX3_countSecondOn 3 none 1 := ⟨kw_397, kw_9, kw_31, kw_398, by decide, by decide, by decide +kernel⟩
theorem fX3_powerOf : sv_Ys yX3_powerOf cX3_powerOf 1 (some .int) 1 := ⟨kw_401, kw_31, kw_402, by decide, by decide, by decide +kernel⟩
theorem fX0_burnDown : sv_Yv yX0_burnDown cX0_burnDown 2 none 1 := ⟨kw_404, kw_405, kw_32, kw_406, by decide, by decide, by decide +kernel⟩
theorem fX5_darkWith : sv_Yv yX5_darkWith cX5_darkWith 8 (some .int) 3 := ⟨kw_409, kw_10, kw_30, kw_410, by decide, by decide, by decide +kernel⟩
theorem fX3_letCome : sv_Yv yX3_letCome cX3_letCome 3 (some .int) 2 := ⟨kw_412, kw_413, kw_31, kw_414, by decide, by decide, by decide +kernel⟩
theorem fX2_enter : sv_Yv yX2_enter cX2_enter 5 (some .int) 3 := ⟨kw_416, kw_417, kw_33, kw_418, by decide, by decide, by decide +kernel⟩
theorem fX2_sendTo : sv_Yv yX2_sendTo cX2_sendTo 4 none 3 := ⟨kw_420, kw_421, kw_33, kw_422, by decide, by decide, by decide +kernel⟩
theorem fX2_placeOf : sv_Yv yX2_placeOf cX2_placeOf 3 (some .int) 1 := ⟨kw_425, kw_426, kw_33, kw_427, by decide, by decide, by decide +kernel⟩
theorem fX5_leastBurnTime : sv_Yv yX5_leastBurnTime cX5_leastBurnTime 8 (some .int) 2 := ⟨kw_432, kw_11, kw_30, kw_433, by decide, by decide, by decide +kernel⟩
theorem fX5_bitsOf : sv_Ys yX5_bitsOf cX5_bitsOf 5 (some .long) 1 := ⟨kw_439, kw_30, kw_440, by decide, by decide, by decide +kernel⟩
theorem fX5_mixedWithBuffer : sv_Yv yX5_mixedWithBuffer cX5_mixedWithBuffer 6 (some .long) 1 := ⟨kw_445, kw_12, kw_30, kw_446, by decide, by decide, by decide +kernel⟩
theorem fX5_come : sv_Yv yX5_come cX5_come 3 (some .int) 2 := ⟨kw_455, kw_456, kw_30, kw_457, by decide, by decide, by decide +kernel⟩
theorem fX5_checkWay : sv_Ys yX5_checkWay cX5_checkWay 2 none 2 := ⟨kw_459, kw_30, kw_460, by decide, by decide, by decide +kernel⟩
theorem fX5_checkFloor : sv_Ys yX5_checkFloor cX5_checkFloor 1 none 1 := ⟨kw_462, kw_30, kw_463, by decide, by decide, by decide +kernel⟩
theorem fX5_turn : sv_Yv yX5_turn cX5_turn 5 (some .int) 2 := ⟨kw_568, kw_569, kw_30, kw_570, by decide, by decide, by decide +kernel⟩
theorem fX5_press : sv_Yv yX5_press cX5_press 3 (some .int) 1 := ⟨kw_577, kw_578, kw_30, kw_579, by decide, by decide, by decide +kernel⟩
theorem fX5_sensor : sv_Yv yX5_sensor cX5_sensor 4 (some .int) 2 := ⟨kw_585, kw_586, kw_30, kw_587, by decide, by decide, by decide +kernel⟩
theorem fX5_set : sv_Yv yX5_set cX5_set 4 (some .int) 2 := ⟨kw_592, kw_593, kw_30, kw_594, by decide, by decide, by decide +kernel⟩
theorem fX5_checkSetting : sv_Ys yX5_checkSetting cX5_checkSetting 1 none 1 := ⟨kw_596, kw_30, kw_597, by decide, by decide, by decide +kernel⟩
theorem fX5_pass : sv_Yv yX5_pass cX5_pass 2 (some .int) 1 := ⟨kw_605, kw_606, kw_30, kw_607, by decide, by decide, by decide +kernel⟩
theorem fX5_checkSeconds : sv_Ys yX5_checkSeconds cX5_checkSeconds 1 none 1 := ⟨kw_609, kw_30, kw_610, by decide, by decide, by decide +kernel⟩
theorem fX5_append : sv_Yv yX5_append cX5_append 2 (some .int) 1 := ⟨kw_616, kw_617, kw_30, kw_618, by decide, by decide, by decide +kernel⟩
theorem fX4_add : sv_Yv yX4_add cX4_add 2 (some .int) 1 := ⟨kw_622, kw_623, kw_35, kw_624, by decide, by decide, by decide +kernel⟩
theorem fX5_comeAll : sv_Yv yX5_comeAll cX5_comeAll 4 (some .int) 0 := ⟨kw_629, kw_630, kw_30, kw_631, by decide, by decide, by decide +kernel⟩
theorem fX4_isComplete : sv_Yv yX4_isComplete cX4_isComplete 1 (some .boolean) 0 := ⟨kw_633, kw_634, kw_35, kw_635, by decide, by decide, by decide +kernel⟩
theorem fX4_parts : sv_Yv yX4_parts cX4_parts 1 (some .int) 0 := ⟨kw_639, kw_640, kw_35, kw_641, by decide, by decide, by decide +kernel⟩
theorem fX3_waitForRoom : sv_Yv yX3_waitForRoom cX3_waitForRoom 2 (some .int) 0 := ⟨kw_643, kw_644, kw_31, kw_645, by decide, by decide, by decide +kernel⟩
theorem fX4_startOf : sv_Yv yX4_startOf cX4_startOf 2 (some .int) 1 := ⟨kw_648, kw_649, kw_35, kw_650, by decide, by decide, by decide +kernel⟩
theorem fX4_goalOf : sv_Yv yX4_goalOf cX4_goalOf 2 (some .int) 1 := ⟨kw_652, kw_653, kw_35, kw_654, by decide, by decide, by decide +kernel⟩
theorem fX5_undo : sv_Yv yX5_undo cX5_undo 1 (some .int) 0 := ⟨kw_659, kw_660, kw_30, kw_661, by decide, by decide, by decide +kernel⟩
theorem fX1_restore : sv_Yv yX1_restore cX1_restore 3 none 1 := ⟨kw_664, kw_665, kw_34, kw_666, by decide, by decide, by decide +kernel⟩
theorem fX5_floor : sv_Yv yX5_floor cX5_floor 3 (some .int) 2 := ⟨kw_671, kw_672, kw_30, kw_673, by decide, by decide, by decide +kernel⟩
theorem fX5_checkWhat : sv_Ys yX5_checkWhat cX5_checkWhat 2 none 2 := ⟨kw_675, kw_30, kw_676, by decide, by decide, by decide +kernel⟩
theorem fX5_person : sv_Yv yX5_person cX5_person 3 (some .int) 2 := ⟨kw_682, kw_683, kw_30, kw_684, by decide, by decide, by decide +kernel⟩
theorem fX5_count : sv_Yv yX5_count cX5_count 2 (some .int) 1 := ⟨kw_690, kw_691, kw_30, kw_692, by decide, by decide, by decide +kernel⟩
theorem fX5_setting : sv_Yv yX5_setting cX5_setting 2 (some .int) 1 := ⟨kw_697, kw_698, kw_30, kw_699, by decide, by decide, by decide +kernel⟩
theorem fX5_ifPassed : sv_Yv yX5_ifPassed cX5_ifPassed 3 (some .int) 2 := ⟨kw_704, kw_705, kw_30, kw_706, by decide, by decide, by decide +kernel⟩
theorem fX5_dark : sv_Yv yX5_dark cX5_dark 3 (some .int) 2 := ⟨kw_711, kw_712, kw_30, kw_713, by decide, by decide, by decide +kernel⟩
theorem fX5_leastTime : sv_Yv yX5_leastTime cX5_leastTime 3 (some .int) 2 := ⟨kw_718, kw_719, kw_30, kw_720, by decide, by decide, by decide +kernel⟩
theorem fX6_init : sv_Yi yX6_init cX6_init 2 0 := ⟨kw_724, kw_36, kw_725, rfl, by decide, by decide, by decide +kernel⟩
theorem fX6_thrown : sv_Yv yX6_thrown cX6_thrown 1 (some .int) 0 := ⟨kw_768, kw_769, kw_36, kw_770, by decide, by decide, by decide +kernel⟩
theorem fX6_undo : sv_Yv yX6_undo cX6_undo 1 (some .int) 0 := ⟨kw_772, kw_773, kw_36, kw_774, by decide, by decide, by decide +kernel⟩
theorem fX6_fails : sv_Yv yX6_fails cX6_fails 2 (some .int) 1 := ⟨kw_777, kw_14, kw_36, kw_778, by decide, by decide, by decide +kernel⟩
theorem fX6_copies : sv_Ys yX6_copies cX6_copies 5 none 4 := ⟨kw_780, kw_36, kw_781, by decide, by decide, by decide +kernel⟩
theorem fX6_come : sv_Yv yX6_come cX6_come 3 (some .int) 2 := ⟨kw_783, kw_784, kw_36, kw_785, by decide, by decide, by decide +kernel⟩
theorem fX6_mayWalk : sv_Ys yX6_mayWalk cX6_mayWalk 2 (some .int) 2 := ⟨kw_787, kw_36, kw_788, by decide, by decide, by decide +kernel⟩
theorem fX6_isFloor : sv_Ys yX6_isFloor cX6_isFloor 1 (some .boolean) 1 := ⟨kw_790, kw_36, kw_791, by decide, by decide, by decide +kernel⟩
theorem fX6_in : sv_Ys yX6_in cX6_in 3 (some .boolean) 3 := ⟨kw_793, kw_36, kw_794, by decide, by decide, by decide +kernel⟩
theorem fX6_saves : sv_Yv yX6_saves cX6_saves 2 none 0 := ⟨kw_797, kw_15, kw_36, kw_798, by decide, by decide, by decide +kernel⟩
theorem fX6_comes : sv_Ys yX6_comes cX6_comes 4 (some .int) 3 := ⟨kw_800, kw_36, kw_801, by decide, by decide, by decide +kernel⟩
theorem fX6_turn : sv_Yv yX6_turn cX6_turn 5 (some .int) 2 := ⟨kw_803, kw_804, kw_36, kw_805, by decide, by decide, by decide +kernel⟩
theorem fX6_by : sv_Ys yX6_by cX6_by 3 (some .int) 3 := ⟨kw_807, kw_36, kw_808, by decide, by decide, by decide +kernel⟩
theorem fX6_changes : sv_Yv yX6_changes cX6_changes 4 (some .int) 2 := ⟨kw_811, kw_16, kw_36, kw_812, by decide, by decide, by decide +kernel⟩
theorem fX6_press : sv_Yv yX6_press cX6_press 3 (some .int) 1 := ⟨kw_814, kw_815, kw_36, kw_816, by decide, by decide, by decide +kernel⟩
theorem fX6_of : sv_Ys yX6_of cX6_of 3 (some .int) 3 := ⟨kw_818, kw_36, kw_819, by decide, by decide, by decide +kernel⟩
theorem fX6_switches : sv_Ys yX6_switches cX6_switches 3 none 2 := ⟨kw_821, kw_36, kw_822, by decide, by decide, by decide +kernel⟩
theorem fX6_sensor : sv_Yv yX6_sensor cX6_sensor 3 (some .int) 2 := ⟨kw_824, kw_825, kw_36, kw_826, by decide, by decide, by decide +kernel⟩
theorem fX6_night : sv_Yv yX6_night cX6_night 2 (some .int) 1 := ⟨kw_828, kw_829, kw_36, kw_830, by decide, by decide, by decide +kernel⟩
theorem fX6_fire : sv_Yv yX6_fire cX6_fire 4 (some .int) 1 := ⟨kw_832, kw_833, kw_36, kw_834, by decide, by decide, by decide +kernel⟩
theorem fX6_set : sv_Yv yX6_set cX6_set 3 (some .int) 2 := ⟨kw_836, kw_837, kw_36, kw_838, by decide, by decide, by decide +kernel⟩
theorem fX6_isFor : sv_Ys yX6_isFor cX6_isFor 2 (some .boolean) 2 := ⟨kw_840, kw_36, kw_841, by decide, by decide, by decide +kernel⟩
theorem fX6_pass : sv_Yv yX6_pass cX6_pass 4 (some .int) 1 := ⟨kw_843, kw_844, kw_36, kw_845, by decide, by decide, by decide +kernel⟩
theorem fX6_sum : sv_Ys yX6_sum cX6_sum 4 (some .int) 2 := ⟨kw_847, kw_36, kw_848, by decide, by decide, by decide +kernel⟩
theorem fX6_second : sv_Yv yX6_second cX6_second 5 none 1 := ⟨kw_851, kw_17, kw_36, kw_852, by decide, by decide, by decide +kernel⟩
theorem fX6_walks : sv_Ys yX6_walks cX6_walks 3 none 1 := ⟨kw_854, kw_36, kw_855, by decide, by decide, by decide +kernel⟩
theorem fX6_leaves : sv_Ys yX6_leaves cX6_leaves 3 none 2 := ⟨kw_857, kw_36, kw_858, by decide, by decide, by decide +kernel⟩
theorem fX6_looks : sv_Ys yX6_looks cX6_looks 2 none 1 := ⟨kw_860, kw_36, kw_861, by decide, by decide, by decide +kernel⟩
theorem fX6_on : sv_Ys yX6_on cX6_on 4 (some .int) 2 := ⟨kw_863, kw_36, kw_864, by decide, by decide, by decide +kernel⟩
theorem fX6_lamp : sv_Ys yX6_lamp cX6_lamp 3 (some .int) 2 := ⟨kw_866, kw_36, kw_867, by decide, by decide, by decide +kernel⟩
theorem fX6_append : sv_Yv yX6_append cX6_append 2 (some .int) 1 := ⟨kw_869, kw_870, kw_36, kw_871, by decide, by decide, by decide +kernel⟩
theorem fX6_clearBuffer : sv_Yv yX6_clearBuffer cX6_clearBuffer 2 (some .int) 0 := ⟨kw_873, kw_874, kw_36, kw_875, by decide, by decide, by decide +kernel⟩
theorem fX6_firstError : sv_Yv yX6_firstError cX6_firstError 2 (some .int) 0 := ⟨kw_877, kw_878, kw_36, kw_879, by decide, by decide, by decide +kernel⟩
theorem fX6_isText : sv_Yv yX6_isText cX6_isText 2 (some .boolean) 0 := ⟨kw_882, kw_18, kw_36, kw_883, by decide, by decide, by decide +kernel⟩
theorem fX6_isPart : sv_Yv yX6_isPart cX6_isPart 4 (some .boolean) 0 := ⟨kw_886, kw_19, kw_36, kw_887, by decide, by decide, by decide +kernel⟩
theorem fX6_isAt : sv_Yv yX6_isAt cX6_isAt 3 (some .boolean) 2 := ⟨kw_890, kw_20, kw_36, kw_891, by decide, by decide, by decide +kernel⟩
theorem fX6_stops : sv_Yv yX6_stops cX6_stops 1 (some .boolean) 0 := ⟨kw_894, kw_21, kw_36, kw_895, by decide, by decide, by decide +kernel⟩
theorem fX6_comeAll : sv_Yv yX6_comeAll cX6_comeAll 3 (some .int) 0 := ⟨kw_897, kw_898, kw_36, kw_899, by decide, by decide, by decide +kernel⟩
theorem fX6_floor : sv_Yv yX6_floor cX6_floor 3 (some .int) 2 := ⟨kw_901, kw_902, kw_36, kw_903, by decide, by decide, by decide +kernel⟩
theorem fX6_ofFloor : sv_Yv yX6_ofFloor cX6_ofFloor 3 (some .int) 2 := ⟨kw_906, kw_22, kw_36, kw_907, by decide, by decide, by decide +kernel⟩
theorem fX6_person : sv_Yv yX6_person cX6_person 3 (some .int) 2 := ⟨kw_909, kw_910, kw_36, kw_911, by decide, by decide, by decide +kernel⟩
theorem fX6_count : sv_Yv yX6_count cX6_count 2 (some .int) 1 := ⟨kw_913, kw_914, kw_36, kw_915, by decide, by decide, by decide +kernel⟩
theorem fX6_counted : sv_Yv yX6_counted cX6_counted 2 (some .int) 1 := ⟨kw_918, kw_23, kw_36, kw_919, by decide, by decide, by decide +kernel⟩
theorem fX6_lit : sv_Ys yX6_lit cX6_lit 3 (some .int) 1 := ⟨kw_921, kw_36, kw_922, by decide, by decide, by decide +kernel⟩
theorem fX6_setting : sv_Yv yX6_setting cX6_setting 2 (some .int) 1 := ⟨kw_924, kw_925, kw_36, kw_926, by decide, by decide, by decide +kernel⟩
theorem fX6_ifPassed : sv_Yv yX6_ifPassed cX6_ifPassed 3 (some .int) 2 := ⟨kw_928, kw_929, kw_36, kw_930, by decide, by decide, by decide +kernel⟩
theorem fX6_byPassing : sv_Yv yX6_byPassing cX6_byPassing 4 (some .int) 2 := ⟨kw_933, kw_24, kw_36, kw_934, by decide, by decide, by decide +kernel⟩
theorem fX6_dark : sv_Yv yX6_dark cX6_dark 3 (some .int) 2 := ⟨kw_936, kw_937, kw_36, kw_938, by decide, by decide, by decide +kernel⟩
theorem fX6_walked : sv_Yv yX6_walked cX6_walked 4 (some .int) 3 := ⟨kw_941, kw_25, kw_36, kw_942, by decide, by decide, by decide +kernel⟩
theorem fX6_isThere : sv_Ys yX6_isThere cX6_isThere 4 (some .boolean) 2 := ⟨kw_944, kw_36, kw_945, by decide, by decide, by decide +kernel⟩
theorem fX6_leastTime : sv_Yv yX6_leastTime cX6_leastTime 3 (some .int) 2 := ⟨kw_947, kw_948, kw_36, kw_949, by decide, by decide, by decide +kernel⟩
theorem fX6_least : sv_Yv yX6_least cX6_least 7 (some .int) 2 := ⟨kw_952, kw_26, kw_36, kw_953, by decide, by decide, by decide +kernel⟩
theorem fX6_worst : sv_Yv yX6_worst cX6_worst 1 (some .int) 0 := ⟨kw_955, kw_956, kw_36, kw_957, by decide, by decide, by decide +kernel⟩
theorem fX6_missed : sv_Yv yX6_missed cX6_missed 4 (some .int) 0 := ⟨kw_960, kw_27, kw_36, kw_961, by decide, by decide, by decide +kernel⟩
theorem fX6_lightness : sv_Yv yX6_lightness cX6_lightness 1 (some .double) 0 := ⟨kw_963, kw_964, kw_36, kw_965, by decide, by decide, by decide +kernel⟩
theorem fX6_share : sv_Yv yX6_share cX6_share 2 (some .double) 0 := ⟨kw_968, kw_28, kw_36, kw_969, by decide, by decide, by decide +kernel⟩
theorem fX6_digest : sv_Yv yX6_digest cX6_digest 5 (some .long) 0 := ⟨kw_971, kw_972, kw_36, kw_973, by decide, by decide, by decide +kernel⟩
theorem fJxe99ae_doubleToLongBits_ccdee : sv_Ys yJxe99ae_doubleToLongBits_ccdee cJxe99ae_doubleToLongBits_ccdee 2 (some .long) 1 := ⟨kw_977, kw_43, kw_978, by decide, by decide, by decide +kernel⟩
theorem fJxe99ae_isNaN_b9ae7 : sv_Ys yJxe99ae_isNaN_b9ae7 cJxe99ae_isNaN_b9ae7 2 (some .boolean) 1 := ⟨kw_980, kw_43, kw_981, by decide, by decide, by decide +kernel⟩
theorem kn_RX3_32 : (RX3, 32, yX5_copyRow, "StairLight") ∈ sv_nests := List.mem_of_getElem? (i := 0) rfl
theorem kn_RX0_30 : (RX0, 30, yX5_copyRow, "StairLight") ∈ sv_nests := List.mem_of_getElem? (i := 1) rfl
theorem kn_RX2_31 : (RX2, 31, yX5_copyRow, "StairLight") ∈ sv_nests := List.mem_of_getElem? (i := 2) rfl
theorem kn_RX3_57 : (RX3, 57, yX5_at, "StairLight") ∈ sv_nests := List.mem_of_getElem? (i := 3) rfl
theorem kn_RX0_34 : (RX0, 34, yX5_at, "StairLight") ∈ sv_nests := List.mem_of_getElem? (i := 4) rfl
theorem kn_RX0_38 : (RX0, 38, yX5_raise, "StairLight") ∈ sv_nests := List.mem_of_getElem? (i := 5) rfl
theorem kn_RX0_42 : (RX0, 42, yX5_put, "StairLight") ∈ sv_nests := List.mem_of_getElem? (i := 6) rfl
theorem kn_RX3_83 : (RX3, 83, yX5_sumOf, "StairLight") ∈ sv_nests := List.mem_of_getElem? (i := 7) rfl
theorem kn_RX2_47 : (RX2, 47, yX5_at, "StairLight") ∈ sv_nests := List.mem_of_getElem? (i := 8) rfl
theorem kn_RX2_58 : (RX2, 58, yX5_raise, "StairLight") ∈ sv_nests := List.mem_of_getElem? (i := 9) rfl
theorem kn_RX2_35 : (RX2, 35, yX5_put, "StairLight") ∈ sv_nests := List.mem_of_getElem? (i := 10) rfl
theorem kn_RX3_122 : (RX3, 122, yX5_raise, "StairLight") ∈ sv_nests := List.mem_of_getElem? (i := 11) rfl
end
section
/-! the mathematics of the stairs: vectors of 86 numbers -/
abbrev vX : Type := Nat → Int32
def sv_u (M : sv_M) (q : Nat) (x : vX) : sv_M := fun q' => if q' = q then x else M q'
theorem sv_us (M : sv_M) (q : Nat) (x : vX) : sv_u M q x q = x := if_pos rfl
theorem sv_un {M : sv_M} {q : Nat} {x : vX} {q' : Nat} (h : q' ≠ q) : sv_u M q x q' = M q' := if_neg h
theorem sv_uu (M : sv_M) (q : Nat) (x y : vX) : sv_u (sv_u M q x) q y = sv_u M q y := by
  funext q'
  unfold sv_u
  split <;> rfl
theorem sv_ui (M : sv_M) (q : Nat) : sv_u M q (M q) = M := by
  funext q'
  unfold sv_u
  split
  · rename_i h; rw [h]
  · rfl
theorem sv_wu (M : sv_M) (q i : Nat) (v : Int32) : sv_w M q i v = sv_u M q (upd (M q) i v) := by
  funext q' i'
  unfold sv_w sv_u upd
  by_cases h : q' = q
  · subst h
    by_cases h2 : i' = i
    · simp [h2]
    · simp [h2]
  · simp [h]
theorem sv_eqW {G : sv_G} {z : Nat} {M1 M2 : sv_M} {o : Int64} (e : M1 = M2) : ∀ H, sv_W G z M1 o H → sv_W G z M2 o H := fun _ h => e ▸ h
theorem upd_s (x : vX) (i : Nat) (v : Int32) : upd x i v i = v := if_pos rfl
theorem upd_n {x : vX} {i : Nat} {v : Int32} {k : Nat} (h : k ≠ i) : upd x i v k = x k := if_neg h
theorem upd_i (x : vX) (i : Nat) : upd x i (x i) = x := by
  funext k
  unfold upd
  split
  · rename_i h; rw [h]
  · rfl
theorem upd_u (x : vX) (i : Nat) (v w : Int32) : upd (upd x i v) i w = upd x i w := by
  funext k
  unfold upd
  split <;> rfl
theorem sv_vpin {i : Int32} {n : Nat} (h0 : ¬ i < 0) (h1 : ¬ nI n ≤ i) (hn : n < 2147483648) : vp_in i n := by
  rcases pk_ix i (n := n) hn with h | h | ⟨j, hj, rfl⟩
  · exact absurd h h0
  · exact absurd h h1
  · exact vp_in_nI hj hn
/-- at(row, place), put(row, place, value), raise(row, place, more) -/
def cAt (M : sv_M) (c j : Nat) (i : Int32) : Int32 := if i < 0 ∨ nI (sv_n c) ≤ i then 0 else M (sv_q c j) (sv_i c i.toNatClampNeg)
def cPut (M : sv_M) (c j : Nat) (i v : Int32) : sv_M := if i < 0 ∨ nI (sv_n c) ≤ i then M else sv_w M (sv_q c j) (sv_i c i.toNatClampNeg) v
theorem sv_inN {f n : Nat} (h : f < n) (hn : n < 2147483648) : ¬ (nI f < 0 ∨ nI n ≤ nI f) := by
  rintro (q | q)
  · exact nI_pos (by omega) q
  · exact nI_ge h hn q
theorem cAt_N {M : sv_M} {c j f : Nat} (h : f < sv_n c) : cAt M c j (nI f) = M (sv_q c j) (sv_i c f) := by
  have hs := sv_nlt c
  unfold cAt
  rw [if_neg (sv_inN h hs), nI_clamp (by omega)]
theorem cPut_N {M : sv_M} {c j f : Nat} {v : Int32} (h : f < sv_n c) : cPut M c j (nI f) v = sv_w M (sv_q c j) (sv_i c f) v := by
  have hs := sv_nlt c
  unfold cPut
  rw [if_neg (sv_inN h hs), nI_clamp (by omega)]
/-- a fold over 0, 1 .. n - 1 -/
def fo {α : Type} (g : Nat → α → α) : Nat → α → α
  | 0, x => x
  | n + 1, x => g n (fo g n x)
def smI (f : Nat → Int32) : Nat → Int32
  | 0 => 0
  | n + 1 => smI f n + f n
/-- lamp f is switched on for T seconds -/
def sw (T : Int32) (f : Nat) (x : vX) : vX :=
  if T ≤ x (6 * f + 9) then (if x (6 * f + 9) = 0 then upd x (6 * f + 14) (x (6 * f + 14) + 1) else x) else upd (if x (6 * f + 9) = 0 then upd x (6 * f + 14) (x (6 * f + 14) + 1) else x) (6 * f + 9) T
def lampv (x : vX) (f : Nat) : Int32 := if x 7 = 1 then 3 else if x (6 * f + 9) = 0 then x 6 else if x (6 * f + 9) ≤ x 1 then 2 else 3
/-- people on floor f, of the first n -/
def onI (x : vX) (f : Int32) : Nat → Int32
  | 0 => 0
  | n + 1 => onI x f n + if x (4 * n + 59) = f then 1 else 0
theorem fo_succ {α : Type} (g : Nat → α → α) (n : Nat) (x : α) : fo g (n + 1) x = g n (fo g n x) := rfl
/-- a row is copied -/
def cpR (c n : Nat) (x y : vX) : vX := fo (fun i y => upd y (sv_i c i) (x (sv_i c i))) n y
/-- the lamp burns down -/
def bdn (f : Nat) (x : vX) : vX := if x (6 * f + 9) ≤ 0 then x else upd x (6 * f + 9) (x (6 * f + 9) + (-1))
def powv (l : Int32) : Int32 := if l < 2 then (if l = 1 then 3 else 0) else 10
/-- a person walks for a second; closes up -/
def wkv (T : Int32) (p : Nat) (x : vX) : vX :=
  if x (4 * p + 61) + (-1) ≤ 0 then
    upd (upd (upd x (4 * p + 61) (x (4 * p + 61) + (-1))) (4 * p + 59) (x (4 * p + 59) + if x (4 * p + 60) ≤ x (4 * p + 59) then (-1) else 1)) (4 * p + 61) (if x (4 * p + 59) + (if x (4 * p + 60) ≤ x (4 * p + 59) then (-1) else 1) = x (4 * p + 60) then 0 else T)
  else upd x (4 * p + 61) (x (4 * p + 61) + (-1))
def mvv (p s : Nat) (x : vX) : vX := upd (upd (upd (upd x (4 * s + 58) (x (4 * p + 58))) (4 * s + 59) (x (4 * p + 59))) (4 * s + 60) (x (4 * p + 60))) (4 * s + 61) (x (4 * p + 61))
def goB (T : Int32) (p : Nat) (r : vX × Nat) : vX × Nat := if r.1 (4 * p + 59) = r.1 (4 * p + 60) then r else (mvv p r.2 (wkv T p r.1), r.2 + 1)
def goS (T : Int32) (n : Nat) (x : vX) : vX × Nat := fo (goB T) n (x, 0)
def goOnv (T : Int32) (m : Nat) (x : vX) : vX := upd (goS T m x).1 57 (nI (goS T m x).2)
/-- the sensor of floor f looks -/
def arnd (f : Nat) (x : vX) : vX := if x 2 = 1 then (if f < 7 then sw (x 0) (f + 1) else id) ((if 0 < f then sw (x 0) (f - 1) else id) (sw (x 0) f x)) else sw (x 0) f x
def la (m : Nat) (f : Nat) (x : vX) : vX := if x (6 * f + 10) = 1 ∧ 0 < onI x (nI f) m then arnd f x else x
/-- a second of a person on floor f is counted -/
def cnt (f : Nat) (x : vX) : vX :=
  let x1 := if lampv x f = 0 then upd x (6 * f + 11) (x (6 * f + 11) + 1) else if lampv x f = 1 then upd x (6 * f + 12) (x (6 * f + 12) + 1) else x
  upd x1 8 (x1 8 + 1)
def cntp (p : Nat) (x : vX) : vX := cnt (x (4 * p + 59)).toNatClampNeg x
def fend (f : Nat) (x : vX) : vX := bdn f (upd x (6 * f + 13) (x (6 * f + 13) + powv (lampv x f)))
def endv (m : Nat) (x : vX) : vX := let x2 := fo fend 8 (fo cntp m x); upd x2 4 (x2 4 + 1)
/-- somebody comes -/
def entv (m : Nat) (f t T : Int32) (x : vX) : vX := upd (upd (upd (upd (upd (upd x (4 * m + 58) (x 5)) (4 * m + 59) f) (4 * m + 60) t) (4 * m + 61) (if f = t then 0 else T)) 57 (nI (m + 1))) 5 (x 5 + 1)
/-- the place of a number, from place i on, t places -/
def plF (x : vX) (v : Int32) : Nat → Nat → Int32
  | 0, _ => (-1)
  | t + 1, i => if x (4 * i + 58) = v then nI i else plF x v t (i + 1)
def cpF (x y : vX) : vX := cpR 7 8 x (cpR 6 8 x (cpR 5 8 x (cpR 4 8 x (cpR 3 8 x (cpR 2 8 x y)))))
def cpP (x y : vX) : vX := upd (upd (cpR 12 7 x (cpR 11 7 x (cpR 10 7 x (cpR 9 7 x y)))) 57 (x 57)) 5 (x 5)
def cpS (x y : vX) : vX := upd (upd (upd (upd (cpR 13 4 x (cpP x (cpF x y))) 6 (x 6)) 7 (x 7)) 4 (x 4)) 8 (x 8)
/-- the broken sensor that is missed most, of the first n floors -/
def mm (x : vX) : Nat → Int32
  | 0 => (-1)
  | n + 1 => if x (6 * n + 10) = 0 ∧ (mm x n = (-1) ∨ x (6 * (mm x n).toNatClampNeg + 11) < x (6 * n + 11)) then nI n else mm x n
theorem mm_cases (x : vX) : ∀ n, mm x n = (-1) ∨ ∃ g, g < n ∧ mm x n = nI g
  | 0 => Or.inl rfl
  | n + 1 => by
    unfold mm
    split
    · exact Or.inr ⟨n, Nat.lt_succ_self n, rfl⟩
    · rcases mm_cases x n with h | ⟨g, hg, h⟩
      · exact Or.inl h
      · exact Or.inr ⟨g, Nat.lt_succ_of_lt hg, h⟩
/-- a lamp that may not be there is switched on -/
def swI (T f : Int32) (x : vX) : vX := if f < 0 ∨ nI 8 ≤ f then x else sw T f.toNatClampNeg x
theorem swI_N {T : Int32} {f : Nat} (h : f < 8) (x : vX) : swI T (nI f) x = sw T f x := by
  unfold swI
  rw [if_neg (sv_inN h (by decide)), nI_clamp (by omega)]
theorem swI_o {T f : Int32} (h : f < 0 ∨ nI 8 ≤ f) (x : vX) : swI T f x = x := if_pos h
theorem sw_o {T : Int32} {f : Nat} {x : vX} {k : Nat} (h : k ≠ 6 * f + 9) (h2 : k ≠ 6 * f + 14) : sw T f x k = x k := by
  unfold sw
  split
  · split
    · rw [upd_n h2]
    · rfl
  · rw [upd_n h]
    split
    · rw [upd_n h2]
    · rfl
theorem arnd_eq {f : Nat} (hf : f < 8) (x : vX) : arnd f x = if x 2 = 1 then swI (x 0) (nI f + 1) (swI (x 0) (nI f - 1) (sw (x 0) f x)) else sw (x 0) f x := by
  unfold arnd
  have h1 : ∀ y, swI (x 0) (nI f - 1) y = (if 0 < f then sw (x 0) (f - 1) else id) y := by
    intro y
    rcases Nat.eq_zero_or_pos f with rfl | h
    · rw [if_neg (by omega)]
      exact swI_o (Or.inl (by decide)) y
    · obtain ⟨g, rfl⟩ : ∃ g, f = g + 1 := ⟨f - 1, by omega⟩
      rw [if_pos h, nI_pred, swI_N (by omega)]
      rfl
  have h2 : ∀ y, swI (x 0) (nI f + 1) y = (if f < 7 then sw (x 0) (f + 1) else id) y := by
    intro y
    rw [nI_1]
    rcases Nat.lt_or_ge f 7 with h | h
    · rw [if_pos h, swI_N (by omega)]
    · rw [if_neg (by omega)]
      exact swI_o (Or.inr (nI_le (by omega) (by omega))) y
  rw [h1, h2]
theorem arnd_o {f : Nat} {x : vX} {k : Nat} (h : k < 9 ∨ 57 ≤ k) (hf : f < 8) : arnd f x k = x k := by
  unfold arnd
  have e : ∀ (T : Int32) (g : Nat) (y : vX), g < 8 → sw T g y k = y k := fun T g y hg => sw_o (by omega) (by omega)
  split
  · rcases Nat.lt_or_ge f 7 with h1 | h1
    · rw [if_pos h1, e _ _ _ (by omega)]
      rcases Nat.eq_zero_or_pos f with rfl | h2
      · rw [if_neg (by omega)]
        exact e _ _ _ (by omega)
      · rw [if_pos h2, e _ _ _ (by omega), e _ _ _ hf]
    · rw [if_neg (by omega)]
      show (if 0 < f then sw (x 0) (f - 1) else id) (sw (x 0) f x) k = x k
      rw [if_pos (by omega), e _ _ _ (by omega), e _ _ _ hf]
  · exact e _ _ _ hf
theorem la_o {m f : Nat} {x : vX} {k : Nat} (h : k < 9 ∨ 57 ≤ k) (hf : f < 8) : la m f x k = x k := by
  unfold la
  split
  · exact arnd_o h hf
  · rfl
theorem fola_o {m : Nat} {x : vX} {k : Nat} (h : k < 9 ∨ 57 ≤ k) : ∀ n, n ≤ 8 → fo (la m) n x k = x k
  | 0, _ => rfl
  | n + 1, hn => (la_o h (by omega)).trans (fola_o h n (by omega))
theorem cnt_o {f : Nat} {x : vX} {k : Nat} (h : k < 8 ∨ 57 ≤ k) (hf : f < 8) : cnt f x k = x k := by
  unfold cnt
  show upd _ 8 _ k = x k
  rw [upd_n (by omega)]
  split
  · rw [upd_n (by omega)]
  · split
    · rw [upd_n (by omega)]
    · rfl
theorem bdn_o {f : Nat} {x : vX} {k : Nat} (h : k ≠ 6 * f + 9) : bdn f x k = x k := by
  unfold bdn
  split
  · rfl
  · rw [upd_n h]
theorem fend_o {f : Nat} {x : vX} {k : Nat} (h : k < 9 ∨ 57 ≤ k) (hf : f < 8) : fend f x k = x k := by
  unfold fend
  rw [bdn_o (by omega), upd_n (by omega)]
theorem fofend_o {x : vX} {k : Nat} (h : k < 9 ∨ 57 ≤ k) : ∀ n, n ≤ 8 → fo fend n x k = x k
  | 0, _ => rfl
  | n + 1, hn => (fend_o h (by omega)).trans (fofend_o h n (by omega))
def many (x : vX) : Nat := (x 57).toNatClampNeg
/-- what holds of people on floors: so many, each on a floor -/
def vfl (m : Nat) (x : vX) : Prop := ∀ p, p < m → ∃ f, f < 8 ∧ x (4 * p + 59) = nI f
theorem focnt_o {m : Nat} {x : vX} (hv : vfl m x) {k : Nat} (h : k < 8 ∨ 57 ≤ k) : ∀ n, n ≤ m → fo cntp n x k = x k
  | 0, _ => rfl
  | n + 1, hn => by
    have ih := focnt_o hv h n (by omega)
    obtain ⟨f, hf, ef⟩ := hv n (by omega)
    have e := focnt_o hv (k := 4 * n + 59) (Or.inr (by omega)) n (by omega)
    show cnt (fo cntp n x (4 * n + 59)).toNatClampNeg (fo cntp n x) k = x k
    rw [e, ef, nI_clamp (by omega), cnt_o h hf, ih]
def beginv (m : Nat) (x : vX) : vX := fo (la (goS (x 3) m x).2) 8 (goOnv (x 3) m x)
/-- how many lamps are on or warn, of the first n -/
def litI (x : vX) : Nat → Int32
  | 0 => 0
  | n + 1 => litI x n + if lampv x n < 2 then 0 else 1
/-- floor(f, w) -/
def fnv (m : Nat) (x : vX) (f w : Nat) : Int32 := if w = 0 then lampv x f else if w = 1 then x (6 * f + 9) else if w = 2 then x (6 * f + 10) else if w = 3 then onI x (nI f) m else if w = 4 then x (6 * f + 11) else if w = 5 then x (6 * f + 12) else if w = 6 then x (6 * f + 13) else x (6 * f + 14)
end
section
set_option maxHeartbeats 4000000 in
set_option maxRecDepth 100000 in
theorem met_at (l : Launch) (G : sv_G) (z : Nat) (M : sv_M) (o : Int64) (c' j : Nat) (hok : sv_ok c' j = true) (hir : sv_ir c' = true) (i : Int32) : sv_Met l G yX5_at cX5_at 2 (some .int) 0 [.ref (sv_r G c' j), .int i] (sv_W G z M o) (some (.int (cAt M c' j i))) (sv_W G z M o) := by
  refine sv_ofW (by decide) kw_250 (Nat.le_of_ble_eq_true rfl) ?_
  intro p e s mth args below meth c hr C _
  refine sv_sub (lv' := [(0, .ref (sv_r G c' j)), (1, .int i)]) rfl ?_
  refine sv_iload_n (i := 1) (x := i) C dX5_at_0 rfl rfl ?_
  refine sv_if_lt C 16 dX5_at_1 (by decide) (fun q1 => ?_) (fun q1 => ?_)
  · refine sv_iconst (v := nI 0) C dX5_at_16 (by decide) ?_
    exact sv_iret C hr dX5_at_17 (Nat.le_of_ble_eq_true rfl) (Nat.le_of_ble_eq_true rfl) (by unfold cAt; first | rw [if_pos (Or.inl q1)]; rfl | rw [if_pos (Or.inr q7)]; rfl) (fun _ h => h)
  · refine sv_iload_n (i := 1) (x := i) C dX5_at_4 rfl rfl ?_
    refine sv_aload_n (i := 0) (x := sv_r G c' j) C dX5_at_5 rfl rfl ?_
    refine sv_alen (v := nI (sv_n c')) C hok hir rfl dX5_at_6 ?_
    refine sv_icmp_ge C 16 dX5_at_7 (by decide) (fun q7 => ?_) (fun q7 => ?_)
    · refine sv_iconst (v := nI 0) C dX5_at_16 (by decide) ?_
      exact sv_iret C hr dX5_at_17 (Nat.le_of_ble_eq_true rfl) (Nat.le_of_ble_eq_true rfl) (by unfold cAt; first | rw [if_pos (Or.inl q1)]; rfl | rw [if_pos (Or.inr q7)]; rfl) (fun _ h => h)
    · refine sv_aload_n (i := 0) (x := sv_r G c' j) C dX5_at_10 rfl rfl ?_
      refine sv_iload_n (i := 1) (x := i) C dX5_at_11 rfl rfl ?_
      refine sv_iald C hok hir (sv_vpin q1 q7 (sv_nlt _)) dX5_at_12 ?_
      refine sv_topi (fun v12 e12 => ?_)
      refine sv_goto C 17 dX5_at_13 (by decide) ?_
      exact sv_iret C hr dX5_at_17 (Nat.le_of_ble_eq_true rfl) (Nat.le_of_ble_eq_true rfl) (by rw [e12]; unfold cAt; rw [if_neg (fun h => h.elim q1 q7)]) (fun _ h => h)

theorem met_atN {l : Launch} {G : sv_G} {z : Nat} {M : sv_M} {o : Int64} {c' j i : Nat} (q p' : Nat) (hq : sv_q c' j = q) (hp : sv_i c' i = p') (hok : sv_ok c' j = true) (hir : sv_ir c' = true) (h : i < sv_n c') : sv_Met l G yX5_at cX5_at 2 (some .int) 0 [.ref (sv_r G c' j), .int (nI i)] (sv_W G z M o) (some (.int (M q p'))) (sv_W G z M o) := by
  have h9 := met_at l G z M o c' j hok hir (nI i)
  rw [cAt_N h, hq, hp] at h9
  exact h9
set_option maxHeartbeats 4000000 in
set_option maxRecDepth 100000 in
theorem met_atS0 (l : Launch) (G : sv_G) (Wd : Heap → Prop) (i : Nat) (hi : i < 4) : sv_Met l G yX5_at cX5_at 2 (some .int) 0 [.ref G.2.2.2.1, .int (nI i)] Wd (some (.int (sv_F 0 i))) Wd := by
  refine sv_ofW (by decide) kw_250 (Nat.le_of_ble_eq_true rfl) ?_
  intro p e s mth args below meth c hr C _
  refine sv_sub (lv' := [(0, .ref G.2.2.2.1), (1, .int (nI i))]) rfl ?_
  refine sv_iload_n (i := 1) (x := nI i) C dX5_at_0 rfl rfl ?_
  refine sv_if_lt C 16 dX5_at_1 (by decide) (fun q1 => ?_) (fun q1 => ?_)
  · exact absurd q1 (nI_pos (by omega))
  · refine sv_iload_n (i := 1) (x := nI i) C dX5_at_4 rfl rfl ?_
    refine sv_aload_n (i := 0) (x := G.2.2.2.1) C dX5_at_5 rfl rfl ?_
    refine sv_salen0 C dX5_at_6 ?_
    refine sv_icmp_geN C 16 dX5_at_7 (by decide) (by omega) (by omega) (fun q7 => ?_) (fun q7 => ?_)
    · exact absurd q7 (by omega)
    · refine sv_aload_n (i := 0) (x := G.2.2.2.1) C dX5_at_10 rfl rfl ?_
      refine sv_iload_n (i := 1) (x := nI i) C dX5_at_11 rfl rfl ?_
      refine sv_sald0 C (vp_in_nI hi (by decide)) dX5_at_12 ?_
      refine sv_topi (fun v12 e12 => ?_)
      refine sv_goto C 17 dX5_at_13 (by decide) ?_
      exact sv_iret C hr dX5_at_17 (Nat.le_of_ble_eq_true rfl) (Nat.le_of_ble_eq_true rfl) (by rw [e12, nI_clamp (by omega)]) (fun _ h => h)

set_option maxHeartbeats 4000000 in
set_option maxRecDepth 100000 in
theorem met_atS1 (l : Launch) (G : sv_G) (Wd : Heap → Prop) (i : Nat) (hi : i < 4) : sv_Met l G yX5_at cX5_at 2 (some .int) 0 [.ref G.2.2.2.2.1, .int (nI i)] Wd (some (.int (sv_F 1 i))) Wd := by
  refine sv_ofW (by decide) kw_250 (Nat.le_of_ble_eq_true rfl) ?_
  intro p e s mth args below meth c hr C _
  refine sv_sub (lv' := [(0, .ref G.2.2.2.2.1), (1, .int (nI i))]) rfl ?_
  refine sv_iload_n (i := 1) (x := nI i) C dX5_at_0 rfl rfl ?_
  refine sv_if_lt C 16 dX5_at_1 (by decide) (fun q1 => ?_) (fun q1 => ?_)
  · exact absurd q1 (nI_pos (by omega))
  · refine sv_iload_n (i := 1) (x := nI i) C dX5_at_4 rfl rfl ?_
    refine sv_aload_n (i := 0) (x := G.2.2.2.2.1) C dX5_at_5 rfl rfl ?_
    refine sv_salen1 C dX5_at_6 ?_
    refine sv_icmp_geN C 16 dX5_at_7 (by decide) (by omega) (by omega) (fun q7 => ?_) (fun q7 => ?_)
    · exact absurd q7 (by omega)
    · refine sv_aload_n (i := 0) (x := G.2.2.2.2.1) C dX5_at_10 rfl rfl ?_
      refine sv_iload_n (i := 1) (x := nI i) C dX5_at_11 rfl rfl ?_
      refine sv_sald1 C (vp_in_nI hi (by decide)) dX5_at_12 ?_
      refine sv_topi (fun v12 e12 => ?_)
      refine sv_goto C 17 dX5_at_13 (by decide) ?_
      exact sv_iret C hr dX5_at_17 (Nat.le_of_ble_eq_true rfl) (Nat.le_of_ble_eq_true rfl) (by rw [e12, nI_clamp (by omega)]) (fun _ h => h)

set_option maxHeartbeats 4000000 in
set_option maxRecDepth 100000 in
theorem met_atS2 (l : Launch) (G : sv_G) (Wd : Heap → Prop) (i : Nat) (hi : i < 4) : sv_Met l G yX5_at cX5_at 2 (some .int) 0 [.ref G.2.2.2.2.2, .int (nI i)] Wd (some (.int (sv_F 2 i))) Wd := by
  refine sv_ofW (by decide) kw_250 (Nat.le_of_ble_eq_true rfl) ?_
  intro p e s mth args below meth c hr C _
  refine sv_sub (lv' := [(0, .ref G.2.2.2.2.2), (1, .int (nI i))]) rfl ?_
  refine sv_iload_n (i := 1) (x := nI i) C dX5_at_0 rfl rfl ?_
  refine sv_if_lt C 16 dX5_at_1 (by decide) (fun q1 => ?_) (fun q1 => ?_)
  · exact absurd q1 (nI_pos (by omega))
  · refine sv_iload_n (i := 1) (x := nI i) C dX5_at_4 rfl rfl ?_
    refine sv_aload_n (i := 0) (x := G.2.2.2.2.2) C dX5_at_5 rfl rfl ?_
    refine sv_salen2 C dX5_at_6 ?_
    refine sv_icmp_geN C 16 dX5_at_7 (by decide) (by omega) (by omega) (fun q7 => ?_) (fun q7 => ?_)
    · exact absurd q7 (by omega)
    · refine sv_aload_n (i := 0) (x := G.2.2.2.2.2) C dX5_at_10 rfl rfl ?_
      refine sv_iload_n (i := 1) (x := nI i) C dX5_at_11 rfl rfl ?_
      refine sv_sald2 C (vp_in_nI hi (by decide)) dX5_at_12 ?_
      refine sv_topi (fun v12 e12 => ?_)
      refine sv_goto C 17 dX5_at_13 (by decide) ?_
      exact sv_iret C hr dX5_at_17 (Nat.le_of_ble_eq_true rfl) (Nat.le_of_ble_eq_true rfl) (by rw [e12, nI_clamp (by omega)]) (fun _ h => h)

set_option maxHeartbeats 4000000 in
set_option maxRecDepth 100000 in
theorem met_put (l : Launch) (G : sv_G) (z : Nat) (M : sv_M) (o : Int64) (c' j : Nat) (hok : sv_ok c' j = true) (hir : sv_ir c' = true) (i v : Int32) : sv_Met l G yX5_put cX5_put 3 none 0 [.ref (sv_r G c' j), .int i, .int v] (sv_W G z M o) none (sv_W G z (cPut M c' j i v) o) := by
  refine sv_ofW (by decide) kw_262 (Nat.le_of_ble_eq_true rfl) ?_
  intro p e s mth args below meth c hr C _
  refine sv_sub (lv' := [(0, .ref (sv_r G c' j)), (1, .int i), (2, .int v)]) rfl ?_
  refine sv_iload_n (i := 1) (x := i) C dX5_put_0 rfl rfl ?_
  refine sv_if_lt C 14 dX5_put_1 (by decide) (fun q1 => ?_) (fun q1 => ?_)
  · exact sv_vret C hr dX5_put_14 (Nat.le_of_ble_eq_true rfl) (Nat.le_of_ble_eq_true rfl) (sv_eqW (by unfold cPut; rw [if_pos (Or.inl q1)]))
  · refine sv_iload_n (i := 1) (x := i) C dX5_put_4 rfl rfl ?_
    refine sv_aload_n (i := 0) (x := sv_r G c' j) C dX5_put_5 rfl rfl ?_
    refine sv_alen (v := nI (sv_n c')) C hok hir rfl dX5_put_6 ?_
    refine sv_icmp_ge C 14 dX5_put_7 (by decide) (fun q7 => ?_) (fun q7 => ?_)
    · exact sv_vret C hr dX5_put_14 (Nat.le_of_ble_eq_true rfl) (Nat.le_of_ble_eq_true rfl) (sv_eqW (by unfold cPut; rw [if_pos (Or.inr q7)]))
    · refine sv_aload_n (i := 0) (x := sv_r G c' j) C dX5_put_10 rfl rfl ?_
      refine sv_iload_n (i := 1) (x := i) C dX5_put_11 rfl rfl ?_
      refine sv_iload_n (i := 2) (x := v) C dX5_put_12 rfl rfl ?_
      refine sv_iast C hok hir (sv_vpin q1 q7 (sv_nlt _)) dX5_put_13 ?_
      exact sv_vret C hr dX5_put_14 (Nat.le_of_ble_eq_true rfl) (Nat.le_of_ble_eq_true rfl) (sv_eqW (by unfold cPut; rw [if_neg (fun h => h.elim q1 q7)]))

theorem met_putN {l : Launch} {G : sv_G} {z : Nat} {M : sv_M} {o : Int64} {c' j i : Nat} {v : Int32} (q p' : Nat) (hq : sv_q c' j = q) (hp : sv_i c' i = p') (hok : sv_ok c' j = true) (hir : sv_ir c' = true) (h : i < sv_n c') : sv_Met l G yX5_put cX5_put 3 none 0 [.ref (sv_r G c' j), .int (nI i), .int v] (sv_W G z M o) none (sv_W G z (sv_w M q p' v) o) := by
  have h9 := met_put l G z M o c' j hok hir (nI i) v
  rw [cPut_N h, hq, hp] at h9
  exact h9
set_option maxHeartbeats 4000000 in
set_option maxRecDepth 100000 in
theorem met_raise (l : Launch) (G : sv_G) (z : Nat) (M : sv_M) (o : Int64) (c' j : Nat) (hok : sv_ok c' j = true) (hir : sv_ir c' = true) (i v : Int32) : sv_Met l G yX5_raise cX5_raise 3 none 1 [.ref (sv_r G c' j), .int i, .int v] (sv_W G z M o) none (sv_W G z (cPut M c' j i (cAt M c' j i + v)) o) := by
  refine sv_ofW (by decide) kw_258 (Nat.le_of_ble_eq_true rfl) ?_
  intro p e s mth args below meth c hr C _
  refine sv_sub (lv' := [(0, .ref (sv_r G c' j)), (1, .int i), (2, .int v)]) rfl ?_
  refine sv_aload_n (i := 0) (x := sv_r G c' j) C dX5_raise_0 rfl rfl ?_
  refine sv_iload_n (i := 1) (x := i) C dX5_raise_1 rfl rfl ?_
  refine sv_aload_n (i := 0) (x := sv_r G c' j) C dX5_raise_2 rfl rfl ?_
  refine sv_iload_n (i := 1) (x := i) C dX5_raise_3 rfl rfl ?_
  refine sv_callS (as := [_, _]) (rest := [_, _]) C (met_at l G _ _ _ c' j hok hir i) fX5_at kw_259 ⟨Nat.le_of_ble_eq_true rfl, Nat.le_of_ble_eq_true rfl⟩ (Nat.le_of_ble_eq_true rfl) dX5_raise_4 ⟨Nat.zero_le _, Nat.zero_le _⟩  ?_
  refine sv_ri (fun v4 e4 => ?_)
  refine sv_iload_n (i := 2) (x := v) C dX5_raise_7 rfl rfl ?_
  refine sv_iadd C dX5_raise_8 ?_
  refine sv_topi (fun v8 e8 => ?_)
  refine sv_callS (as := [_, _, _]) (rest := []) C (met_put l G _ _ _ c' j hok hir i v8) fX5_put kw_260 ⟨Nat.le_of_ble_eq_true rfl, Nat.le_of_ble_eq_true rfl⟩ (Nat.le_of_ble_eq_true rfl) dX5_raise_9 ⟨Nat.zero_le _, Nat.zero_le _⟩  ?_
  refine sv_rv ?_
  exact sv_vret C hr dX5_raise_12 (Nat.le_of_ble_eq_true rfl) (Nat.le_of_ble_eq_true rfl) (sv_eqW (by rw [e8, e4]))

theorem met_raiseN {l : Launch} {G : sv_G} {z : Nat} {M : sv_M} {o : Int64} {c' j i : Nat} {v : Int32} (q p' : Nat) (hq : sv_q c' j = q) (hp : sv_i c' i = p') (hok : sv_ok c' j = true) (hir : sv_ir c' = true) (h : i < sv_n c') : sv_Met l G yX5_raise cX5_raise 3 none 1 [.ref (sv_r G c' j), .int (nI i), .int v] (sv_W G z M o) none (sv_W G z (sv_w M q p' (M q p' + v)) o) := by
  have h9 := met_raise l G z M o c' j hok hir (nI i) v
  rw [cPut_N h, cAt_N h, hq, hp] at h9
  exact h9
end
section
set_option maxHeartbeats 4000000 in
set_option maxRecDepth 100000 in
theorem met_sumOf (l : Launch) (G : sv_G) (z : Nat) (M : sv_M) (o : Int64) (c' j : Nat) (hok : sv_ok c' j = true) (hir : sv_ir c' = true) : sv_Met l G yX5_sumOf cX5_sumOf 3 (some .int) 0 [.ref (sv_r G c' j)] (sv_W G z M o) (some (.int (smI (fun i => M (sv_q c' j) (sv_i c' i)) (sv_n c')))) (sv_W G z M o) := by
  refine sv_ofW (by decide) kw_312 (Nat.le_of_ble_eq_true rfl) ?_
  intro p e s mth args below meth c hr C _
  have hs := sv_nlt c'
  refine sv_sub (lv' := [(0, .ref (sv_r G c' j))]) rfl ?_
  refine sv_iconst (v := nI 0) C dX5_sumOf_0 (by decide) ?_
  refine sv_istore_n (i := 1) C [(0, .ref (sv_r G c' j)), (1, .int (nI 0))] dX5_sumOf_1 rfl (by decide) rfl ?_
  refine sv_iconst (v := nI 0) C dX5_sumOf_2 (by decide) ?_
  refine sv_istore_n (i := 2) C [(0, .ref (sv_r G c' j)), (1, .int (nI 0)), (2, .int (nI 0))] dX5_sumOf_3 rfl (by decide) rfl ?_
  refine sv_loop (N := sv_n c') (I := fun _ => True) (Wf := fun i => sv_W G z M o) (Lf := fun i => [(0, .ref (sv_r G c' j)), (1, .int (smI (fun i => M (sv_q c' j) (sv_i c' i)) i)), (2, .int (nI i))]) 0 (Nat.zero_le _) trivial (fun i hi0 hi hI ih => ?_)
  refine sv_iload_n (i := 2) (x := nI i) C dX5_sumOf_4 rfl rfl ?_
  refine sv_aload_n (i := 0) (x := sv_r G c' j) C dX5_sumOf_5 rfl rfl ?_
  refine sv_alen (v := nI (sv_n c')) C hok hir rfl dX5_sumOf_6 ?_
  refine sv_icmp_geN C 22 dX5_sumOf_7 (by decide) (by omega) (by omega) (fun q7 => ?_) (fun q7 => ?_)
  · refine sv_iload_n (i := 1) (x := smI (fun i => M (sv_q c' j) (sv_i c' i)) i) C dX5_sumOf_22 rfl rfl ?_
    exact sv_iret C hr dX5_sumOf_23 (Nat.le_of_ble_eq_true rfl) (Nat.le_of_ble_eq_true rfl) (by rw [show i = sv_n c' from by omega]) (fun _ h => h)
  · refine sv_iload_n (i := 1) (x := smI (fun i => M (sv_q c' j) (sv_i c' i)) i) C dX5_sumOf_10 rfl rfl ?_
    refine sv_aload_n (i := 0) (x := sv_r G c' j) C dX5_sumOf_11 rfl rfl ?_
    refine sv_iload_n (i := 2) (x := nI i) C dX5_sumOf_12 rfl rfl ?_
    refine sv_ialdN C (sv_q c' j) (sv_i c' i) rfl rfl hok hir (by omega) dX5_sumOf_13 ?_
    refine sv_topi (fun v13 e13 => ?_)
    refine sv_iadd C dX5_sumOf_14 ?_
    refine sv_topi (fun v14 e14 => ?_)
    refine sv_istore_n (i := 1) C [(0, .ref (sv_r G c' j)), (1, .int v14), (2, .int (nI i))] dX5_sumOf_15 rfl (by decide) rfl ?_
    refine sv_iinc (i := 2) (x := nI i) C (nI (i + 1)) [(0, .ref (sv_r G c' j)), (1, .int v14), (2, .int (nI (i + 1)))] dX5_sumOf_16 rfl (sv_incN i 1) (by decide) rfl ?_
    refine sv_goto C 4 dX5_sumOf_19 (by decide) ?_
    rw [show v14 = smI (fun i => M (sv_q c' j) (sv_i c' i)) (i + 1) from by rw [e14, e13]; rfl]
    exact ih (by omega) trivial

set_option maxHeartbeats 4000000 in
set_option maxRecDepth 100000 in
theorem met_numberOf (l : Launch) (G : sv_G) (Wd : Heap → Prop) (x : Int32) (hx : x = 0 ∨ x = 1) : sv_Met l G yX5_numberOf cX5_numberOf 1 (some .int) 0 [.int x] Wd (some (.int x)) Wd := by
  refine sv_ofW (by decide) kw_235 (Nat.le_of_ble_eq_true rfl) ?_
  intro p e s mth args below meth c hr C _
  refine sv_sub (lv' := [(0, .int x)]) rfl ?_
  refine sv_iload_n (i := 0) (x := x) C dX5_numberOf_0 rfl rfl ?_
  refine sv_sel_if_eq (va := nI 1) (vb := nI 0) C 8 dX5_numberOf_1 (by decide) dX5_numberOf_4 (by decide) dX5_numberOf_5 (by decide) dX5_numberOf_8 (by decide) ?_
  refine sv_set (v' := .int x) (congrArg Value.int (by rcases hx with rfl | rfl <;> rfl)) ?_
  exact sv_iret C hr dX5_numberOf_9 (Nat.le_of_ble_eq_true rfl) (Nat.le_of_ble_eq_true rfl) rfl (fun _ h => h)

theorem sv_q14 {c j : Nat} (h : c < 14) : sv_q c j = j := if_pos h
set_option maxHeartbeats 4000000 in
set_option maxRecDepth 100000 in
theorem met_copyRow (l : Launch) (G : sv_G) (z : Nat) (M : sv_M) (o : Int64) (c' j1 j2 : Nat) (hc : c' < 14) (h1 : j1 < 8) (h2 : j2 < 8) (hne : j1 ≠ j2) (hir : sv_ir c' = true) : sv_Met l G yX5_copyRow cX5_copyRow 3 none 0 [.ref (sv_r G c' j1), .ref (sv_r G c' j2)] (sv_W G z M o) none (sv_W G z (sv_u M j2 (cpR c' (sv_n c') (M j1) (M j2))) o) := by
  refine sv_ofW (by decide) kw_130 (Nat.le_of_ble_eq_true rfl) ?_
  intro p e s mth args below meth c hr C _
  have hs := sv_nlt c'
  refine sv_sub (lv' := [(0, .ref (sv_r G c' j1)), (1, .ref (sv_r G c' j2))]) rfl ?_
  refine sv_iconst (v := nI 0) C dX5_copyRow_0 (by decide) ?_
  refine sv_istore_n (i := 2) C [(0, .ref (sv_r G c' j1)), (1, .ref (sv_r G c' j2)), (2, .int (nI 0))] dX5_copyRow_1 rfl (by decide) rfl ?_
  refine sv_wd (sv_eqW (sv_ui _ j2).symm) ?_
  refine sv_loop (N := sv_n c') (I := fun _ => True) (Wf := fun i => sv_W G z (sv_u M j2 (cpR c' i (M j1) (M j2))) o) (Lf := fun i => [(0, .ref (sv_r G c' j1)), (1, .ref (sv_r G c' j2)), (2, .int (nI i))]) 0 (Nat.zero_le _) trivial (fun i hi0 hi hI ih => ?_)
  refine sv_iload_n (i := 2) (x := nI i) C dX5_copyRow_2 rfl rfl ?_
  refine sv_aload_n (i := 0) (x := sv_r G c' j1) C dX5_copyRow_3 rfl rfl ?_
  refine sv_alen (v := nI (sv_n c')) C (sv_okj hc h1) hir rfl dX5_copyRow_4 ?_
  refine sv_icmp_geN C 26 dX5_copyRow_5 (by decide) (by omega) (by omega) (fun q5 => ?_) (fun q5 => ?_)
  · exact sv_vret C hr dX5_copyRow_26 (Nat.le_of_ble_eq_true rfl) (Nat.le_of_ble_eq_true rfl) (sv_eqW (by rw [show i = sv_n c' from by omega]))
  · refine sv_iload_n (i := 2) (x := nI i) C dX5_copyRow_8 rfl rfl ?_
    refine sv_aload_n (i := 1) (x := sv_r G c' j2) C dX5_copyRow_9 rfl rfl ?_
    refine sv_alen (v := nI (sv_n c')) C (sv_okj hc h2) hir rfl dX5_copyRow_10 ?_
    refine sv_icmp_geN C 26 dX5_copyRow_11 (by decide) (by omega) (by omega) (fun q11 => ?_) (fun q11 => ?_)
    · exact absurd q11 (by omega)
    · refine sv_aload_n (i := 1) (x := sv_r G c' j2) C dX5_copyRow_14 rfl rfl ?_
      refine sv_iload_n (i := 2) (x := nI i) C dX5_copyRow_15 rfl rfl ?_
      refine sv_aload_n (i := 0) (x := sv_r G c' j1) C dX5_copyRow_16 rfl rfl ?_
      refine sv_iload_n (i := 2) (x := nI i) C dX5_copyRow_17 rfl rfl ?_
      refine sv_ialdN C (sv_q c' j1) (sv_i c' i) rfl rfl (sv_okj hc h1) hir (by omega) dX5_copyRow_18 ?_
      refine sv_topi (fun v18 e18 => ?_)
      refine sv_iastN C (sv_q c' j2) (sv_i c' i) rfl rfl (sv_okj hc h2) hir (by omega) dX5_copyRow_19 ?_
      refine sv_iinc (i := 2) (x := nI i) C (nI (i + 1)) [(0, .ref (sv_r G c' j1)), (1, .ref (sv_r G c' j2)), (2, .int (nI (i + 1)))] dX5_copyRow_20 rfl (sv_incN i 1) (by decide) rfl ?_
      refine sv_goto C 2 dX5_copyRow_23 (by decide) ?_
      refine sv_wd (sv_eqW ?_) (ih (by omega) trivial)
      rw [sv_wu, sv_q14 hc, sv_us, sv_uu, e18, sv_q14 hc, sv_un hne]
      rfl

theorem nI_one : nI 1 = 1 := rfl
theorem sw_pp {T : Int32} {f : Nat} {x : vX} {v : Int32} (e : v = x (6 * f + 9)) (h1 : T ≤ v) (h2 : v = 0) : sw T f x = upd x (6 * f + 14) (x (6 * f + 14) + 1) := by
  subst e; unfold sw; rw [if_pos h1, if_pos h2]
theorem sw_pn {T : Int32} {f : Nat} {x : vX} {v : Int32} (e : v = x (6 * f + 9)) (h1 : T ≤ v) (h2 : ¬ v = 0) : sw T f x = x := by
  subst e; unfold sw; rw [if_pos h1, if_neg h2]
theorem sw_np {T : Int32} {f : Nat} {x : vX} {v : Int32} (e : v = x (6 * f + 9)) (h1 : ¬ T ≤ v) (h2 : v = 0) : sw T f x = upd (upd x (6 * f + 14) (x (6 * f + 14) + 1)) (6 * f + 9) T := by
  subst e; unfold sw; rw [if_neg h1, if_pos h2]
theorem sw_nn {T : Int32} {f : Nat} {x : vX} {v : Int32} (e : v = x (6 * f + 9)) (h1 : ¬ T ≤ v) (h2 : ¬ v = 0) : sw T f x = upd x (6 * f + 9) T := by
  subst e; unfold sw; rw [if_neg h1, if_neg h2]
set_option maxHeartbeats 4000000 in
set_option maxRecDepth 100000 in
theorem met_letBurn (l : Launch) (G : sv_G) (z : Nat) (M : sv_M) (o : Int64) (j f : Nat) (hj : j < 8) (hf : f < 8) (T : Int32) : sv_Met l G yX0_letBurn cX0_letBurn 4 none 2 [.ref (sv_r G 1 j), .int (nI f), .int T] (sv_W G z M o) none (sv_W G z (sv_u M j (sw T f (M j))) o) := by
  refine sv_ofW (by decide) kw_254 (Nat.le_of_ble_eq_true rfl) ?_
  intro p e s mth args below meth c hr C _
  refine sv_sub (lv' := [(0, .ref (sv_r G 1 j)), (1, .int (nI f)), (2, .int T)]) rfl ?_
  refine sv_aload_n (i := 0) (x := sv_r G 1 j) C dX0_letBurn_0 rfl rfl ?_
  refine sv_get_0_0 C hj kw_64 dX0_letBurn_1 ?_
  refine sv_iload_n (i := 1) (x := nI f) C dX0_letBurn_4 rfl rfl ?_
  refine sv_callN (as := [_, _]) (rest := []) C (met_atN j (6 * f + 9) rfl rfl (sv_okj (by decide) hj) rfl (by show _ < 8; omega)) fX5_at (host := "StairLight") kn_RX0_34 ⟨Nat.le_of_ble_eq_true rfl, Nat.le_of_ble_eq_true rfl⟩ (Nat.le_of_ble_eq_true rfl) dX0_letBurn_5 ⟨Nat.zero_le _, Nat.zero_le _⟩  ?_
  refine sv_ri (fun v5 e5 => ?_)
  refine sv_istore_n (i := 3) C [(0, .ref (sv_r G 1 j)), (1, .int (nI f)), (2, .int T), (3, .int v5)] dX0_letBurn_8 rfl (by decide) rfl ?_
  refine sv_iload_n (i := 3) (x := v5) C dX0_letBurn_9 rfl rfl ?_
  refine sv_if_ne C 22 dX0_letBurn_10 (by decide) (fun q10 => ?_) (fun q10 => ?_)
  · refine sv_iload_n (i := 3) (x := v5) C dX0_letBurn_22 rfl rfl ?_
    refine sv_iload_n (i := 2) (x := T) C dX0_letBurn_23 rfl rfl ?_
    refine sv_icmp_ge C 36 dX0_letBurn_24 (by decide) (fun q24 => ?_) (fun q24 => ?_)
    · exact sv_vret C hr dX0_letBurn_36 (Nat.le_of_ble_eq_true rfl) (Nat.le_of_ble_eq_true rfl) (sv_eqW (by rw [sw_pn e5 q24 q10, sv_ui]))
    · refine sv_aload_n (i := 0) (x := sv_r G 1 j) C dX0_letBurn_27 rfl rfl ?_
      refine sv_get_0_0 C hj kw_64 dX0_letBurn_28 ?_
      refine sv_iload_n (i := 1) (x := nI f) C dX0_letBurn_31 rfl rfl ?_
      refine sv_iload_n (i := 2) (x := T) C dX0_letBurn_32 rfl rfl ?_
      refine sv_callN (as := [_, _, _]) (rest := []) C (met_putN j (6 * f + 9) rfl rfl (sv_okj (by decide) hj) rfl (by show _ < 8; omega)) fX5_put (host := "StairLight") kn_RX0_42 ⟨Nat.le_of_ble_eq_true rfl, Nat.le_of_ble_eq_true rfl⟩ (Nat.le_of_ble_eq_true rfl) dX0_letBurn_33 ⟨Nat.zero_le _, Nat.zero_le _⟩  ?_
      refine sv_rv ?_
      exact sv_vret C hr dX0_letBurn_36 (Nat.le_of_ble_eq_true rfl) (Nat.le_of_ble_eq_true rfl) (sv_eqW (by rw [sw_nn e5 q24 q10, sv_wu]))
  · refine sv_aload_n (i := 0) (x := sv_r G 1 j) C dX0_letBurn_13 rfl rfl ?_
    refine sv_get_0_5 C hj kw_79 dX0_letBurn_14 ?_
    refine sv_iload_n (i := 1) (x := nI f) C dX0_letBurn_17 rfl rfl ?_
    refine sv_iconst (v := nI 1) C dX0_letBurn_18 (by decide) ?_
    refine sv_callN (as := [_, _, _]) (rest := []) C (met_raiseN j (6 * f + 14) rfl rfl (sv_okj (by decide) hj) rfl (by show _ < 8; omega)) fX5_raise (host := "StairLight") kn_RX0_38 ⟨Nat.le_of_ble_eq_true rfl, Nat.le_of_ble_eq_true rfl⟩ (Nat.le_of_ble_eq_true rfl) dX0_letBurn_19 ⟨Nat.zero_le _, Nat.zero_le _⟩  ?_
    refine sv_rv ?_
    refine sv_iload_n (i := 3) (x := v5) C dX0_letBurn_22 rfl rfl ?_
    refine sv_iload_n (i := 2) (x := T) C dX0_letBurn_23 rfl rfl ?_
    refine sv_icmp_ge C 36 dX0_letBurn_24 (by decide) (fun q24 => ?_) (fun q24 => ?_)
    · exact sv_vret C hr dX0_letBurn_36 (Nat.le_of_ble_eq_true rfl) (Nat.le_of_ble_eq_true rfl) (sv_eqW (by rw [sw_pp e5 q24 q10, sv_wu, nI_one]))
    · refine sv_aload_n (i := 0) (x := sv_r G 1 j) C dX0_letBurn_27 rfl rfl ?_
      refine sv_get_0_0 C hj kw_64 dX0_letBurn_28 ?_
      refine sv_iload_n (i := 1) (x := nI f) C dX0_letBurn_31 rfl rfl ?_
      refine sv_iload_n (i := 2) (x := T) C dX0_letBurn_32 rfl rfl ?_
      refine sv_callN (as := [_, _, _]) (rest := []) C (met_putN j (6 * f + 9) rfl rfl (sv_okj (by decide) hj) rfl (by show _ < 8; omega)) fX5_put (host := "StairLight") kn_RX0_42 ⟨Nat.le_of_ble_eq_true rfl, Nat.le_of_ble_eq_true rfl⟩ (Nat.le_of_ble_eq_true rfl) dX0_letBurn_33 ⟨Nat.zero_le _, Nat.zero_le _⟩  ?_
      refine sv_rv ?_
      exact sv_vret C hr dX0_letBurn_36 (Nat.le_of_ble_eq_true rfl) (Nat.le_of_ble_eq_true rfl) (sv_eqW (by rw [sw_np e5 q24 q10, sv_wu, sv_wu, sv_us, sv_uu, nI_one]))

theorem cAt_o {M : sv_M} {c j : Nat} {i : Int32} (h : i < 0 ∨ nI (sv_n c) ≤ i) : cAt M c j i = 0 := if_pos h
theorem cPut_o {M : sv_M} {c j : Nat} {i v : Int32} (h : i < 0 ∨ nI (sv_n c) ≤ i) : cPut M c j i v = M := if_pos h
set_option maxHeartbeats 4000000 in
set_option maxRecDepth 100000 in
theorem met_letBurnO (l : Launch) (G : sv_G) (z : Nat) (M : sv_M) (o : Int64) (j : Nat) (hj : j < 8) (f T : Int32) (hf : f < 0 ∨ nI 8 ≤ f) : sv_Met l G yX0_letBurn cX0_letBurn 4 none 2 [.ref (sv_r G 1 j), .int f, .int T] (sv_W G z M o) none (sv_W G z M o) := by
  refine sv_ofW (by decide) kw_254 (Nat.le_of_ble_eq_true rfl) ?_
  intro p e s mth args below meth c hr C _
  refine sv_sub (lv' := [(0, .ref (sv_r G 1 j)), (1, .int f), (2, .int T)]) rfl ?_
  refine sv_aload_n (i := 0) (x := sv_r G 1 j) C dX0_letBurn_0 rfl rfl ?_
  refine sv_get_0_0 C hj kw_64 dX0_letBurn_1 ?_
  refine sv_iload_n (i := 1) (x := f) C dX0_letBurn_4 rfl rfl ?_
  refine sv_callN (as := [_, _]) (rest := []) C (met_at l G _ _ _ 2 j (sv_okj (by decide) hj) rfl f) fX5_at (host := "StairLight") kn_RX0_34 ⟨Nat.le_of_ble_eq_true rfl, Nat.le_of_ble_eq_true rfl⟩ (Nat.le_of_ble_eq_true rfl) dX0_letBurn_5 ⟨Nat.zero_le _, Nat.zero_le _⟩  ?_
  refine sv_ri (fun v5 e5 => ?_)
  refine sv_istore_n (i := 3) C [(0, .ref (sv_r G 1 j)), (1, .int f), (2, .int T), (3, .int v5)] dX0_letBurn_8 rfl (by decide) rfl ?_
  refine sv_iload_n (i := 3) (x := v5) C dX0_letBurn_9 rfl rfl ?_
  refine sv_if_ne C 22 dX0_letBurn_10 (by decide) (fun q10 => ?_) (fun q10 => ?_)
  · exact absurd (e5.trans (cAt_o (show f < 0 ∨ nI (sv_n 2) ≤ f from hf))) q10
  · refine sv_aload_n (i := 0) (x := sv_r G 1 j) C dX0_letBurn_13 rfl rfl ?_
    refine sv_get_0_5 C hj kw_79 dX0_letBurn_14 ?_
    refine sv_iload_n (i := 1) (x := f) C dX0_letBurn_17 rfl rfl ?_
    refine sv_iconst (v := nI 1) C dX0_letBurn_18 (by decide) ?_
    refine sv_callN (as := [_, _, _]) (rest := []) C (met_raise l G _ _ _ 7 j (sv_okj (by decide) hj) rfl f (nI 1)) fX5_raise (host := "StairLight") kn_RX0_38 ⟨Nat.le_of_ble_eq_true rfl, Nat.le_of_ble_eq_true rfl⟩ (Nat.le_of_ble_eq_true rfl) dX0_letBurn_19 ⟨Nat.zero_le _, Nat.zero_le _⟩  ?_
    refine sv_rv ?_
    refine sv_iload_n (i := 3) (x := v5) C dX0_letBurn_22 rfl rfl ?_
    refine sv_iload_n (i := 2) (x := T) C dX0_letBurn_23 rfl rfl ?_
    refine sv_icmp_ge C 36 dX0_letBurn_24 (by decide) (fun q24 => ?_) (fun q24 => ?_)
    · exact sv_vret C hr dX0_letBurn_36 (Nat.le_of_ble_eq_true rfl) (Nat.le_of_ble_eq_true rfl) (sv_eqW (by rw [cPut_o (c := 7) hf]))
    · refine sv_aload_n (i := 0) (x := sv_r G 1 j) C dX0_letBurn_27 rfl rfl ?_
      refine sv_get_0_0 C hj kw_64 dX0_letBurn_28 ?_
      refine sv_iload_n (i := 1) (x := f) C dX0_letBurn_31 rfl rfl ?_
      refine sv_iload_n (i := 2) (x := T) C dX0_letBurn_32 rfl rfl ?_
      refine sv_callN (as := [_, _, _]) (rest := []) C (met_put l G _ _ _ 2 j (sv_okj (by decide) hj) rfl f T) fX5_put (host := "StairLight") kn_RX0_42 ⟨Nat.le_of_ble_eq_true rfl, Nat.le_of_ble_eq_true rfl⟩ (Nat.le_of_ble_eq_true rfl) dX0_letBurn_33 ⟨Nat.zero_le _, Nat.zero_le _⟩  ?_
      refine sv_rv ?_
      exact sv_vret C hr dX0_letBurn_36 (Nat.le_of_ble_eq_true rfl) (Nat.le_of_ble_eq_true rfl) (sv_eqW (by rw [cPut_o (c := 2) hf, cPut_o (c := 7) hf]))

theorem bdn_p {f : Nat} {x : vX} {v : Int32} (e : v = x (6 * f + 9)) (h : v ≤ 0) : bdn f x = x := by subst e; exact if_pos h
theorem bdn_n {f : Nat} {x : vX} {v : Int32} (e : v = x (6 * f + 9)) (h : ¬ v ≤ 0) : bdn f x = upd x (6 * f + 9) (x (6 * f + 9) + (-1)) := by subst e; exact if_neg h
set_option maxHeartbeats 4000000 in
set_option maxRecDepth 100000 in
theorem met_burnDown (l : Launch) (G : sv_G) (z : Nat) (M : sv_M) (o : Int64) (j f : Nat) (hj : j < 8) (hf : f < 8) : sv_Met l G yX0_burnDown cX0_burnDown 2 none 2 [.ref (sv_r G 1 j), .int (nI f)] (sv_W G z M o) none (sv_W G z (sv_u M j (bdn f (M j))) o) := by
  refine sv_ofW (by decide) kw_406 (Nat.le_of_ble_eq_true rfl) ?_
  intro p e s mth args below meth c hr C _
  refine sv_sub (lv' := [(0, .ref (sv_r G 1 j)), (1, .int (nI f))]) rfl ?_
  refine sv_aload_n (i := 0) (x := sv_r G 1 j) C dX0_burnDown_0 rfl rfl ?_
  refine sv_get_0_0 C hj kw_64 dX0_burnDown_1 ?_
  refine sv_iload_n (i := 1) (x := nI f) C dX0_burnDown_4 rfl rfl ?_
  refine sv_callN (as := [_, _]) (rest := []) C (met_atN j (6 * f + 9) rfl rfl (sv_okj (by decide) hj) rfl (by show _ < 8; omega)) fX5_at (host := "StairLight") kn_RX0_34 ⟨Nat.le_of_ble_eq_true rfl, Nat.le_of_ble_eq_true rfl⟩ (Nat.le_of_ble_eq_true rfl) dX0_burnDown_5 ⟨Nat.zero_le _, Nat.zero_le _⟩  ?_
  refine sv_ri (fun v5 e5 => ?_)
  refine sv_if_le C 20 dX0_burnDown_8 (by decide) (fun q8 => ?_) (fun q8 => ?_)
  · exact sv_vret C hr dX0_burnDown_20 (Nat.le_of_ble_eq_true rfl) (Nat.le_of_ble_eq_true rfl) (sv_eqW (by rw [bdn_p e5 q8, sv_ui]))
  · refine sv_aload_n (i := 0) (x := sv_r G 1 j) C dX0_burnDown_11 rfl rfl ?_
    refine sv_get_0_0 C hj kw_64 dX0_burnDown_12 ?_
    refine sv_iload_n (i := 1) (x := nI f) C dX0_burnDown_15 rfl rfl ?_
    refine sv_iconst (v := (-1)) C dX0_burnDown_16 (by decide) ?_
    refine sv_callN (as := [_, _, _]) (rest := []) C (met_raiseN j (6 * f + 9) rfl rfl (sv_okj (by decide) hj) rfl (by show _ < 8; omega)) fX5_raise (host := "StairLight") kn_RX0_38 ⟨Nat.le_of_ble_eq_true rfl, Nat.le_of_ble_eq_true rfl⟩ (Nat.le_of_ble_eq_true rfl) dX0_burnDown_17 ⟨Nat.zero_le _, Nat.zero_le _⟩  ?_
    refine sv_rv ?_
    exact sv_vret C hr dX0_burnDown_20 (Nat.le_of_ble_eq_true rfl) (Nat.le_of_ble_eq_true rfl) (sv_eqW (by rw [bdn_n e5 q8, sv_wu]))
end
section
set_option maxHeartbeats 4000000 in
set_option maxRecDepth 100000 in
theorem met_F_copyFrom (l : Launch) (G : sv_G) (z : Nat) (M : sv_M) (o : Int64) (j1 j2 : Nat) (h1 : j1 < 8) (h2 : j2 < 8) (hne : j1 ≠ j2) : sv_Met l G yX0_copyFrom cX0_copyFrom 2 none 1 [.ref (sv_r G 1 j2), .ref (sv_r G 1 j1)] (sv_W G z M o) none (sv_W G z (sv_u M j2 (cpF (M j1) (M j2))) o) := by
  refine sv_ofW (by decide) kw_226 (Nat.le_of_ble_eq_true rfl) ?_
  intro p e s mth args below meth c hr C _
  refine sv_sub (lv' := [(0, .ref (sv_r G 1 j2)), (1, .ref (sv_r G 1 j1))]) rfl ?_
  refine sv_aload_n (i := 1) (x := sv_r G 1 j1) C dX0_copyFrom_0 rfl rfl ?_
  refine sv_get_0_0 C h1 kw_64 dX0_copyFrom_1 ?_
  refine sv_aload_n (i := 0) (x := sv_r G 1 j2) C dX0_copyFrom_4 rfl rfl ?_
  refine sv_get_0_0 C h2 kw_64 dX0_copyFrom_5 ?_
  refine sv_callN (as := [_, _]) (rest := []) C (met_copyRow l G _ _ _ 2 j1 j2 (by decide) h1 h2 hne rfl) fX5_copyRow (host := "StairLight") kn_RX0_30 ⟨Nat.le_of_ble_eq_true rfl, Nat.le_of_ble_eq_true rfl⟩ (Nat.le_of_ble_eq_true rfl) dX0_copyFrom_8 ⟨Nat.zero_le _, Nat.zero_le _⟩  ?_
  refine sv_rv ?_
  refine sv_aload_n (i := 1) (x := sv_r G 1 j1) C dX0_copyFrom_11 rfl rfl ?_
  refine sv_get_0_1 C h1 kw_67 dX0_copyFrom_12 ?_
  refine sv_aload_n (i := 0) (x := sv_r G 1 j2) C dX0_copyFrom_15 rfl rfl ?_
  refine sv_get_0_1 C h2 kw_67 dX0_copyFrom_16 ?_
  refine sv_callN (as := [_, _]) (rest := []) C (met_copyRow l G _ _ _ 3 j1 j2 (by decide) h1 h2 hne rfl) fX5_copyRow (host := "StairLight") kn_RX0_30 ⟨Nat.le_of_ble_eq_true rfl, Nat.le_of_ble_eq_true rfl⟩ (Nat.le_of_ble_eq_true rfl) dX0_copyFrom_19 ⟨Nat.zero_le _, Nat.zero_le _⟩  ?_
  refine sv_rv ?_
  refine sv_aload_n (i := 1) (x := sv_r G 1 j1) C dX0_copyFrom_22 rfl rfl ?_
  refine sv_get_0_2 C h1 kw_70 dX0_copyFrom_23 ?_
  refine sv_aload_n (i := 0) (x := sv_r G 1 j2) C dX0_copyFrom_26 rfl rfl ?_
  refine sv_get_0_2 C h2 kw_70 dX0_copyFrom_27 ?_
  refine sv_callN (as := [_, _]) (rest := []) C (met_copyRow l G _ _ _ 4 j1 j2 (by decide) h1 h2 hne rfl) fX5_copyRow (host := "StairLight") kn_RX0_30 ⟨Nat.le_of_ble_eq_true rfl, Nat.le_of_ble_eq_true rfl⟩ (Nat.le_of_ble_eq_true rfl) dX0_copyFrom_30 ⟨Nat.zero_le _, Nat.zero_le _⟩  ?_
  refine sv_rv ?_
  refine sv_aload_n (i := 1) (x := sv_r G 1 j1) C dX0_copyFrom_33 rfl rfl ?_
  refine sv_get_0_3 C h1 kw_73 dX0_copyFrom_34 ?_
  refine sv_aload_n (i := 0) (x := sv_r G 1 j2) C dX0_copyFrom_37 rfl rfl ?_
  refine sv_get_0_3 C h2 kw_73 dX0_copyFrom_38 ?_
  refine sv_callN (as := [_, _]) (rest := []) C (met_copyRow l G _ _ _ 5 j1 j2 (by decide) h1 h2 hne rfl) fX5_copyRow (host := "StairLight") kn_RX0_30 ⟨Nat.le_of_ble_eq_true rfl, Nat.le_of_ble_eq_true rfl⟩ (Nat.le_of_ble_eq_true rfl) dX0_copyFrom_41 ⟨Nat.zero_le _, Nat.zero_le _⟩  ?_
  refine sv_rv ?_
  refine sv_aload_n (i := 1) (x := sv_r G 1 j1) C dX0_copyFrom_44 rfl rfl ?_
  refine sv_get_0_4 C h1 kw_76 dX0_copyFrom_45 ?_
  refine sv_aload_n (i := 0) (x := sv_r G 1 j2) C dX0_copyFrom_48 rfl rfl ?_
  refine sv_get_0_4 C h2 kw_76 dX0_copyFrom_49 ?_
  refine sv_callN (as := [_, _]) (rest := []) C (met_copyRow l G _ _ _ 6 j1 j2 (by decide) h1 h2 hne rfl) fX5_copyRow (host := "StairLight") kn_RX0_30 ⟨Nat.le_of_ble_eq_true rfl, Nat.le_of_ble_eq_true rfl⟩ (Nat.le_of_ble_eq_true rfl) dX0_copyFrom_52 ⟨Nat.zero_le _, Nat.zero_le _⟩  ?_
  refine sv_rv ?_
  refine sv_aload_n (i := 1) (x := sv_r G 1 j1) C dX0_copyFrom_55 rfl rfl ?_
  refine sv_get_0_5 C h1 kw_79 dX0_copyFrom_56 ?_
  refine sv_aload_n (i := 0) (x := sv_r G 1 j2) C dX0_copyFrom_59 rfl rfl ?_
  refine sv_get_0_5 C h2 kw_79 dX0_copyFrom_60 ?_
  refine sv_callN (as := [_, _]) (rest := []) C (met_copyRow l G _ _ _ 7 j1 j2 (by decide) h1 h2 hne rfl) fX5_copyRow (host := "StairLight") kn_RX0_30 ⟨Nat.le_of_ble_eq_true rfl, Nat.le_of_ble_eq_true rfl⟩ (Nat.le_of_ble_eq_true rfl) dX0_copyFrom_63 ⟨Nat.zero_le _, Nat.zero_le _⟩  ?_
  refine sv_rv ?_
  exact sv_vret C hr dX0_copyFrom_66 (Nat.le_of_ble_eq_true rfl) (Nat.le_of_ble_eq_true rfl) (sv_eqW (by simp only [sv_us, sv_uu, sv_un hne]; rfl))

set_option maxHeartbeats 4000000 in
set_option maxRecDepth 100000 in
theorem met_P_copyFrom (l : Launch) (G : sv_G) (z : Nat) (M : sv_M) (o : Int64) (j1 j2 : Nat) (h1 : j1 < 8) (h2 : j2 < 8) (hne : j1 ≠ j2) : sv_Met l G yX2_copyFrom cX2_copyFrom 2 none 1 [.ref (sv_r G 8 j2), .ref (sv_r G 8 j1)] (sv_W G z M o) none (sv_W G z (sv_u M j2 (cpP (M j1) (M j2))) o) := by
  refine sv_ofW (by decide) kw_231 (Nat.le_of_ble_eq_true rfl) ?_
  intro p e s mth args below meth c hr C _
  refine sv_sub (lv' := [(0, .ref (sv_r G 8 j2)), (1, .ref (sv_r G 8 j1))]) rfl ?_
  refine sv_aload_n (i := 1) (x := sv_r G 8 j1) C dX2_copyFrom_0 rfl rfl ?_
  refine sv_get_2_0 C h1 kw_101 dX2_copyFrom_1 ?_
  refine sv_aload_n (i := 0) (x := sv_r G 8 j2) C dX2_copyFrom_4 rfl rfl ?_
  refine sv_get_2_0 C h2 kw_101 dX2_copyFrom_5 ?_
  refine sv_callN (as := [_, _]) (rest := []) C (met_copyRow l G _ _ _ 9 j1 j2 (by decide) h1 h2 hne rfl) fX5_copyRow (host := "StairLight") kn_RX2_31 ⟨Nat.le_of_ble_eq_true rfl, Nat.le_of_ble_eq_true rfl⟩ (Nat.le_of_ble_eq_true rfl) dX2_copyFrom_8 ⟨Nat.zero_le _, Nat.zero_le _⟩  ?_
  refine sv_rv ?_
  refine sv_aload_n (i := 1) (x := sv_r G 8 j1) C dX2_copyFrom_11 rfl rfl ?_
  refine sv_get_2_1 C h1 kw_102 dX2_copyFrom_12 ?_
  refine sv_aload_n (i := 0) (x := sv_r G 8 j2) C dX2_copyFrom_15 rfl rfl ?_
  refine sv_get_2_1 C h2 kw_102 dX2_copyFrom_16 ?_
  refine sv_callN (as := [_, _]) (rest := []) C (met_copyRow l G _ _ _ 10 j1 j2 (by decide) h1 h2 hne rfl) fX5_copyRow (host := "StairLight") kn_RX2_31 ⟨Nat.le_of_ble_eq_true rfl, Nat.le_of_ble_eq_true rfl⟩ (Nat.le_of_ble_eq_true rfl) dX2_copyFrom_19 ⟨Nat.zero_le _, Nat.zero_le _⟩  ?_
  refine sv_rv ?_
  refine sv_aload_n (i := 1) (x := sv_r G 8 j1) C dX2_copyFrom_22 rfl rfl ?_
  refine sv_get_2_2 C h1 kw_105 dX2_copyFrom_23 ?_
  refine sv_aload_n (i := 0) (x := sv_r G 8 j2) C dX2_copyFrom_26 rfl rfl ?_
  refine sv_get_2_2 C h2 kw_105 dX2_copyFrom_27 ?_
  refine sv_callN (as := [_, _]) (rest := []) C (met_copyRow l G _ _ _ 11 j1 j2 (by decide) h1 h2 hne rfl) fX5_copyRow (host := "StairLight") kn_RX2_31 ⟨Nat.le_of_ble_eq_true rfl, Nat.le_of_ble_eq_true rfl⟩ (Nat.le_of_ble_eq_true rfl) dX2_copyFrom_30 ⟨Nat.zero_le _, Nat.zero_le _⟩  ?_
  refine sv_rv ?_
  refine sv_aload_n (i := 1) (x := sv_r G 8 j1) C dX2_copyFrom_33 rfl rfl ?_
  refine sv_get_2_3 C h1 kw_107 dX2_copyFrom_34 ?_
  refine sv_aload_n (i := 0) (x := sv_r G 8 j2) C dX2_copyFrom_37 rfl rfl ?_
  refine sv_get_2_3 C h2 kw_107 dX2_copyFrom_38 ?_
  refine sv_callN (as := [_, _]) (rest := []) C (met_copyRow l G _ _ _ 12 j1 j2 (by decide) h1 h2 hne rfl) fX5_copyRow (host := "StairLight") kn_RX2_31 ⟨Nat.le_of_ble_eq_true rfl, Nat.le_of_ble_eq_true rfl⟩ (Nat.le_of_ble_eq_true rfl) dX2_copyFrom_41 ⟨Nat.zero_le _, Nat.zero_le _⟩  ?_
  refine sv_rv ?_
  refine sv_aload_n (i := 0) (x := sv_r G 8 j2) C dX2_copyFrom_44 rfl rfl ?_
  refine sv_aload_n (i := 1) (x := sv_r G 8 j1) C dX2_copyFrom_45 rfl rfl ?_
  refine sv_get_2_4 C h1 kw_108 dX2_copyFrom_46 ?_
  refine sv_topi (fun v46 e46 => ?_)
  refine sv_put_2_4 C h2 kw_108 dX2_copyFrom_49 ?_
  refine sv_aload_n (i := 0) (x := sv_r G 8 j2) C dX2_copyFrom_52 rfl rfl ?_
  refine sv_aload_n (i := 1) (x := sv_r G 8 j1) C dX2_copyFrom_53 rfl rfl ?_
  refine sv_get_2_5 C h1 kw_111 dX2_copyFrom_54 ?_
  refine sv_topi (fun v54 e54 => ?_)
  refine sv_put_2_5 C h2 kw_111 dX2_copyFrom_57 ?_
  exact sv_vret C hr dX2_copyFrom_60 (Nat.le_of_ble_eq_true rfl) (Nat.le_of_ble_eq_true rfl) (sv_eqW (by simp only [e46, e54, sv_wu, sv_us, sv_uu, sv_un hne]; rfl))

set_option maxHeartbeats 4000000 in
set_option maxRecDepth 100000 in
theorem met_S_copyFrom (l : Launch) (G : sv_G) (z : Nat) (M : sv_M) (o : Int64) (j1 j2 : Nat) (h1 : j1 < 8) (h2 : j2 < 8) (hne : j1 ≠ j2) (b6 : M j1 6 = 0 ∨ M j1 6 = 1) (b7 : M j1 7 = 0 ∨ M j1 7 = 1) : sv_Met l G yX3_copyFrom cX3_copyFrom 2 none 2 [.ref (sv_r G 0 j2), .ref (sv_r G 0 j1)] (sv_W G z M o) none (sv_W G z (sv_u M j2 (cpS (M j1) (M j2))) o) := by
  refine sv_ofW (by decide) kw_222 (Nat.le_of_ble_eq_true rfl) ?_
  intro p e s mth args below meth c hr C _
  refine sv_sub (lv' := [(0, .ref (sv_r G 0 j2)), (1, .ref (sv_r G 0 j1))]) rfl ?_
  refine sv_aload_n (i := 0) (x := sv_r G 0 j2) C dX3_copyFrom_0 rfl rfl ?_
  refine sv_get_3_0 C h2 kw_131 dX3_copyFrom_1 ?_
  refine sv_aload_n (i := 1) (x := sv_r G 0 j1) C dX3_copyFrom_4 rfl rfl ?_
  refine sv_get_3_0 C h1 kw_131 dX3_copyFrom_5 ?_
  refine sv_callV (as := [_]) (rest := []) C (met_F_copyFrom l G _ _ _ j1 j2 h1 h2 hne) fX0_copyFrom kw_223 (sv_recv1 C h2) ⟨Nat.le_of_ble_eq_true rfl, Nat.le_of_ble_eq_true rfl⟩ (Nat.le_of_ble_eq_true rfl) dX3_copyFrom_8 ⟨Nat.zero_le _, Nat.zero_le _⟩  ?_
  refine sv_rv ?_
  refine sv_aload_n (i := 0) (x := sv_r G 0 j2) C dX3_copyFrom_11 rfl rfl ?_
  refine sv_get_3_1 C h2 kw_133 dX3_copyFrom_12 ?_
  refine sv_aload_n (i := 1) (x := sv_r G 0 j1) C dX3_copyFrom_15 rfl rfl ?_
  refine sv_get_3_1 C h1 kw_133 dX3_copyFrom_16 ?_
  refine sv_callV (as := [_]) (rest := []) C (met_P_copyFrom l G _ _ _ j1 j2 h1 h2 hne) fX2_copyFrom kw_228 (sv_recv8 C h2) ⟨Nat.le_of_ble_eq_true rfl, Nat.le_of_ble_eq_true rfl⟩ (Nat.le_of_ble_eq_true rfl) dX3_copyFrom_19 ⟨Nat.zero_le _, Nat.zero_le _⟩  ?_
  refine sv_rv ?_
  refine sv_aload_n (i := 1) (x := sv_r G 0 j1) C dX3_copyFrom_22 rfl rfl ?_
  refine sv_get_3_2 C h1 kw_135 dX3_copyFrom_23 ?_
  refine sv_aload_n (i := 0) (x := sv_r G 0 j2) C dX3_copyFrom_26 rfl rfl ?_
  refine sv_get_3_2 C h2 kw_135 dX3_copyFrom_27 ?_
  refine sv_callN (as := [_, _]) (rest := []) C (met_copyRow l G _ _ _ 13 j1 j2 (by decide) h1 h2 hne rfl) fX5_copyRow (host := "StairLight") kn_RX3_32 ⟨Nat.le_of_ble_eq_true rfl, Nat.le_of_ble_eq_true rfl⟩ (Nat.le_of_ble_eq_true rfl) dX3_copyFrom_30 ⟨Nat.zero_le _, Nat.zero_le _⟩  ?_
  refine sv_rv ?_
  refine sv_aload_n (i := 0) (x := sv_r G 0 j2) C dX3_copyFrom_33 rfl rfl ?_
  refine sv_aload_n (i := 1) (x := sv_r G 0 j1) C dX3_copyFrom_34 rfl rfl ?_
  refine sv_get_3_3 C h1 kw_137 dX3_copyFrom_35 ?_
  refine sv_topi (fun v35 e35 => ?_)
  refine sv_put_3_3 C h2 (by rw [e35]; simp only [sv_us, sv_uu, sv_un hne]; exact b6) kw_137 dX3_copyFrom_38 ?_
  refine sv_aload_n (i := 0) (x := sv_r G 0 j2) C dX3_copyFrom_41 rfl rfl ?_
  refine sv_aload_n (i := 1) (x := sv_r G 0 j1) C dX3_copyFrom_42 rfl rfl ?_
  refine sv_get_3_4 C h1 kw_139 dX3_copyFrom_43 ?_
  refine sv_topi (fun v43 e43 => ?_)
  refine sv_put_3_4 C h2 (by rw [e43]; simp only [sv_wu, sv_us, sv_uu, sv_un hne]; exact b7) kw_139 dX3_copyFrom_46 ?_
  refine sv_aload_n (i := 0) (x := sv_r G 0 j2) C dX3_copyFrom_49 rfl rfl ?_
  refine sv_aload_n (i := 1) (x := sv_r G 0 j1) C dX3_copyFrom_50 rfl rfl ?_
  refine sv_get_3_5 C h1 kw_141 dX3_copyFrom_51 ?_
  refine sv_topi (fun v51 e51 => ?_)
  refine sv_put_3_5 C h2 kw_141 dX3_copyFrom_54 ?_
  refine sv_aload_n (i := 0) (x := sv_r G 0 j2) C dX3_copyFrom_57 rfl rfl ?_
  refine sv_aload_n (i := 1) (x := sv_r G 0 j1) C dX3_copyFrom_58 rfl rfl ?_
  refine sv_get_3_6 C h1 kw_143 dX3_copyFrom_59 ?_
  refine sv_topi (fun v59 e59 => ?_)
  refine sv_put_3_6 C h2 kw_143 dX3_copyFrom_62 ?_
  exact sv_vret C hr dX3_copyFrom_65 (Nat.le_of_ble_eq_true rfl) (Nat.le_of_ble_eq_true rfl) (sv_eqW (by simp only [e35, e43, e51, e59, sv_wu, sv_us, sv_uu, sv_un hne]; rfl))

set_option maxHeartbeats 4000000 in
set_option maxRecDepth 100000 in
theorem met_mostMissed (l : Launch) (G : sv_G) (z : Nat) (M : sv_M) (o : Int64) (j : Nat) (hj : j < 8) : sv_Met l G yX0_mostMissed cX0_mostMissed 4 (some .int) 1 [.ref (sv_r G 1 j)] (sv_W G z M o) (some (.int (mm (M j) 8))) (sv_W G z M o) := by
  refine sv_ofW (by decide) kw_301 (Nat.le_of_ble_eq_true rfl) ?_
  intro p e s mth args below meth c hr C _
  refine sv_sub (lv' := [(0, .ref (sv_r G 1 j))]) rfl ?_
  refine sv_iconst (v := (-1)) C dX0_mostMissed_0 (by decide) ?_
  refine sv_istore_n (i := 1) C [(0, .ref (sv_r G 1 j)), (1, .int (-1))] dX0_mostMissed_1 rfl (by decide) rfl ?_
  refine sv_iconst (v := nI 0) C dX0_mostMissed_2 (by decide) ?_
  refine sv_istore_n (i := 2) C [(0, .ref (sv_r G 1 j)), (1, .int (-1)), (2, .int (nI 0))] dX0_mostMissed_3 rfl (by decide) rfl ?_
  refine sv_loop (N := 8) (I := fun _ => True) (Wf := fun i => sv_W G z M o) (Lf := fun i => [(0, .ref (sv_r G 1 j)), (1, .int (mm (M j) i)), (2, .int (nI i))]) 0 (Nat.zero_le _) trivial (fun i hi0 hi hI ih => ?_)
  refine sv_iload_n (i := 2) (x := nI i) C dX0_mostMissed_4 rfl rfl ?_
  refine sv_bipush (v := nI 8) C dX0_mostMissed_5 (by decide) ?_
  refine sv_icmp_geN C 63 dX0_mostMissed_7 (by decide) (by omega) (by omega) (fun q7 => ?_) (fun q7 => ?_)
  · refine sv_iload_n (i := 1) (x := mm (M j) i) C dX0_mostMissed_63 rfl rfl ?_
    exact sv_iret C hr dX0_mostMissed_64 (Nat.le_of_ble_eq_true rfl) (Nat.le_of_ble_eq_true rfl) (by rw [show i = 8 from by omega]) (fun _ h => h)
  · refine sv_aload_n (i := 0) (x := sv_r G 1 j) C dX0_mostMissed_10 rfl rfl ?_
    refine sv_get_0_1 C hj kw_67 dX0_mostMissed_11 ?_
    refine sv_iload_n (i := 2) (x := nI i) C dX0_mostMissed_14 rfl rfl ?_
    refine sv_callN (as := [_, _]) (rest := []) C (met_atN j (6 * i + 10) rfl rfl (sv_okj (by decide) hj) rfl (by show _ < 8; omega)) fX5_at (host := "StairLight") kn_RX0_34 ⟨Nat.le_of_ble_eq_true rfl, Nat.le_of_ble_eq_true rfl⟩ (Nat.le_of_ble_eq_true rfl) dX0_mostMissed_15 ⟨Nat.zero_le _, Nat.zero_le _⟩  ?_
    refine sv_ri (fun v15 e15 => ?_)
    refine sv_if_ne C 25 dX0_mostMissed_18 (by decide) (fun q18 => ?_) (fun q18 => ?_)
    · refine sv_iconst (v := nI 0) C dX0_mostMissed_25 (by decide) ?_
      refine sv_istore_n (i := 3) C [(0, .ref (sv_r G 1 j)), (1, .int (mm (M j) i)), (2, .int (nI i)), (3, .int (nI 0))] dX0_mostMissed_26 rfl (by decide) rfl ?_
      refine sv_iload_n (i := 3) (x := nI 0) C dX0_mostMissed_27 rfl rfl ?_
      refine sv_if_eq C 57 dX0_mostMissed_28 (by decide) (fun q28 => ?_) (fun q28 => ?_)
      · refine sv_iinc (i := 2) (x := nI i) C (nI (i + 1)) [(0, .ref (sv_r G 1 j)), (1, .int (mm (M j) i)), (2, .int (nI (i + 1))), (3, .int (nI 0))] dX0_mostMissed_57 rfl (sv_incN i 1) (by decide) rfl ?_
        refine sv_goto C 4 dX0_mostMissed_60 (by decide) ?_
        refine sv_sub (lv' := [(0, .ref (sv_r G 1 j)), (1, .int (mm (M j) i)), (2, .int (nI (i + 1)))]) rfl ?_
        have hn : mm (M j) (i + 1) = mm (M j) i := if_neg (fun h => q18 (e15.trans h.1))
        rw [← hn]
        exact ih (by omega) trivial
      · exact absurd rfl q28
    · refine sv_iconst (v := nI 1) C dX0_mostMissed_21 (by decide) ?_
      refine sv_goto C 26 dX0_mostMissed_22 (by decide) ?_
      refine sv_istore_n (i := 3) C [(0, .ref (sv_r G 1 j)), (1, .int (mm (M j) i)), (2, .int (nI i)), (3, .int (nI 1))] dX0_mostMissed_26 rfl (by decide) rfl ?_
      refine sv_iload_n (i := 3) (x := nI 1) C dX0_mostMissed_27 rfl rfl ?_
      refine sv_if_eq C 57 dX0_mostMissed_28 (by decide) (fun q28 => ?_) (fun q28 => ?_)
      · exact absurd q28 (by decide)
      · refine sv_iload_n (i := 1) (x := mm (M j) i) C dX0_mostMissed_31 rfl rfl ?_
        refine sv_iconst (v := (-1)) C dX0_mostMissed_32 (by decide) ?_
        refine sv_icmp_eq C 55 dX0_mostMissed_33 (by decide) (fun q33 => ?_) (fun q33 => ?_)
        · refine sv_iload_n (i := 2) (x := nI i) C dX0_mostMissed_55 rfl rfl ?_
          refine sv_istore_n (i := 1) C [(0, .ref (sv_r G 1 j)), (1, .int (nI i)), (2, .int (nI i)), (3, .int (nI 1))] dX0_mostMissed_56 rfl (by decide) rfl ?_
          refine sv_iinc (i := 2) (x := nI i) C (nI (i + 1)) [(0, .ref (sv_r G 1 j)), (1, .int (nI i)), (2, .int (nI (i + 1))), (3, .int (nI 1))] dX0_mostMissed_57 rfl (sv_incN i 1) (by decide) rfl ?_
          refine sv_goto C 4 dX0_mostMissed_60 (by decide) ?_
          refine sv_sub (lv' := [(0, .ref (sv_r G 1 j)), (1, .int (nI i)), (2, .int (nI (i + 1)))]) rfl ?_
          have hn : mm (M j) (i + 1) = nI i := if_pos ⟨e15.symm.trans q18, Or.inl q33⟩
          rw [← hn]
          exact ih (by omega) trivial
        · refine sv_aload_n (i := 0) (x := sv_r G 1 j) C dX0_mostMissed_36 rfl rfl ?_
          refine sv_get_0_2 C hj kw_70 dX0_mostMissed_37 ?_
          refine sv_iload_n (i := 2) (x := nI i) C dX0_mostMissed_40 rfl rfl ?_
          refine sv_callN (as := [_, _]) (rest := []) C (met_atN j (6 * i + 11) rfl rfl (sv_okj (by decide) hj) rfl (by show _ < 8; omega)) fX5_at (host := "StairLight") kn_RX0_34 ⟨Nat.le_of_ble_eq_true rfl, Nat.le_of_ble_eq_true rfl⟩ (Nat.le_of_ble_eq_true rfl) dX0_mostMissed_41 ⟨Nat.zero_le _, Nat.zero_le _⟩  ?_
          refine sv_ri (fun v41 e41 => ?_)
          refine sv_aload_n (i := 0) (x := sv_r G 1 j) C dX0_mostMissed_44 rfl rfl ?_
          refine sv_get_0_2 C hj kw_70 dX0_mostMissed_45 ?_
          refine sv_iload_n (i := 1) (x := mm (M j) i) C dX0_mostMissed_48 rfl rfl ?_
          refine sv_callN (as := [_, _]) (rest := [_]) C (met_at l G _ _ _ 4 j (sv_okj (by decide) hj) rfl (mm (M j) i)) fX5_at (host := "StairLight") kn_RX0_34 ⟨Nat.le_of_ble_eq_true rfl, Nat.le_of_ble_eq_true rfl⟩ (Nat.le_of_ble_eq_true rfl) dX0_mostMissed_49 ⟨Nat.zero_le _, Nat.zero_le _⟩  ?_
          refine sv_ri (fun v49 e49 => ?_)
          have e49 : v49 = M j (6 * (mm (M j) i).toNatClampNeg + 11) := by
            rw [e49]
            obtain ⟨g, hg, eg⟩ := (mm_cases (M j) i).resolve_left q33
            rw [eg, cAt_N (show g < sv_n 4 by show _ < 8; omega), nI_clamp (by omega)]
            rfl
          refine sv_icmp_le C 57 dX0_mostMissed_52 (by decide) (fun q52 => ?_) (fun q52 => ?_)
          · have q52 : ¬ M j (6 * (mm (M j) i).toNatClampNeg + 11) < M j (6 * i + 11) := by rw [← e49, ← e41]; exact Int32.not_lt.mpr q52
            refine sv_iinc (i := 2) (x := nI i) C (nI (i + 1)) [(0, .ref (sv_r G 1 j)), (1, .int (mm (M j) i)), (2, .int (nI (i + 1))), (3, .int (nI 1))] dX0_mostMissed_57 rfl (sv_incN i 1) (by decide) rfl ?_
            refine sv_goto C 4 dX0_mostMissed_60 (by decide) ?_
            refine sv_sub (lv' := [(0, .ref (sv_r G 1 j)), (1, .int (mm (M j) i)), (2, .int (nI (i + 1)))]) rfl ?_
            have hn : mm (M j) (i + 1) = mm (M j) i := if_neg (fun h => h.2.elim q33 (fun z => q52 z))
            rw [← hn]
            exact ih (by omega) trivial
          · have q52 : M j (6 * (mm (M j) i).toNatClampNeg + 11) < M j (6 * i + 11) := by rw [← e49, ← e41]; exact Int32.not_le.mp q52
            refine sv_iload_n (i := 2) (x := nI i) C dX0_mostMissed_55 rfl rfl ?_
            refine sv_istore_n (i := 1) C [(0, .ref (sv_r G 1 j)), (1, .int (nI i)), (2, .int (nI i)), (3, .int (nI 1))] dX0_mostMissed_56 rfl (by decide) rfl ?_
            refine sv_iinc (i := 2) (x := nI i) C (nI (i + 1)) [(0, .ref (sv_r G 1 j)), (1, .int (nI i)), (2, .int (nI (i + 1))), (3, .int (nI 1))] dX0_mostMissed_57 rfl (sv_incN i 1) (by decide) rfl ?_
            refine sv_goto C 4 dX0_mostMissed_60 (by decide) ?_
            refine sv_sub (lv' := [(0, .ref (sv_r G 1 j)), (1, .int (nI i)), (2, .int (nI (i + 1)))]) rfl ?_
            have hn : mm (M j) (i + 1) = nI i := if_pos ⟨e15.symm.trans q18, Or.inr q52⟩
            rw [← hn]
            exact ih (by omega) trivial

set_option maxHeartbeats 4000000 in
set_option maxRecDepth 100000 in
theorem met_isThere (l : Launch) (G : sv_G) (z : Nat) (M : sv_M) (o : Int64) (j f : Nat) (hj : j < 8) (hf : f < 7) : sv_Met l G yX2_isThere cX2_isThere 2 (some .boolean) 1 [.ref (sv_r G 8 j), .int (nI f)] (sv_W G z M o) (some (.int (if M j (4 * f + 59) = M j (4 * f + 60) then 1 else 0))) (sv_W G z M o) := by
  refine sv_ofW (by decide) kw_376 (Nat.le_of_ble_eq_true rfl) ?_
  intro p e s mth args below meth c hr C _
  refine sv_sub (lv' := [(0, .ref (sv_r G 8 j)), (1, .int (nI f))]) rfl ?_
  refine sv_aload_n (i := 0) (x := sv_r G 8 j) C dX2_isThere_0 rfl rfl ?_
  refine sv_get_2_1 C hj kw_102 dX2_isThere_1 ?_
  refine sv_iload_n (i := 1) (x := nI f) C dX2_isThere_4 rfl rfl ?_
  refine sv_callN (as := [_, _]) (rest := []) C (met_atN j (4 * f + 59) rfl rfl (sv_okj (by decide) hj) rfl (by show _ < 7; omega)) fX5_at (host := "StairLight") kn_RX2_47 ⟨Nat.le_of_ble_eq_true rfl, Nat.le_of_ble_eq_true rfl⟩ (Nat.le_of_ble_eq_true rfl) dX2_isThere_5 ⟨Nat.zero_le _, Nat.zero_le _⟩  ?_
  refine sv_ri (fun v5 e5 => ?_)
  refine sv_aload_n (i := 0) (x := sv_r G 8 j) C dX2_isThere_8 rfl rfl ?_
  refine sv_get_2_2 C hj kw_105 dX2_isThere_9 ?_
  refine sv_iload_n (i := 1) (x := nI f) C dX2_isThere_12 rfl rfl ?_
  refine sv_callN (as := [_, _]) (rest := [_]) C (met_atN j (4 * f + 60) rfl rfl (sv_okj (by decide) hj) rfl (by show _ < 7; omega)) fX5_at (host := "StairLight") kn_RX2_47 ⟨Nat.le_of_ble_eq_true rfl, Nat.le_of_ble_eq_true rfl⟩ (Nat.le_of_ble_eq_true rfl) dX2_isThere_13 ⟨Nat.zero_le _, Nat.zero_le _⟩  ?_
  refine sv_ri (fun v13 e13 => ?_)
  refine sv_sel_icmp_ne (va := nI 1) (vb := nI 0) C 23 dX2_isThere_16 (by decide) dX2_isThere_19 (by decide) dX2_isThere_20 (by decide) dX2_isThere_23 (by decide) ?_
  refine sv_topi (fun v16 e16 => ?_)
  exact sv_zret C (by split; exact Or.inr rfl; exact Or.inl rfl) hr dX2_isThere_24 (Nat.le_of_ble_eq_true rfl) (Nat.le_of_ble_eq_true rfl) (by rw [e16, e5, e13]; by_cases h : M j (4 * f + 59) = M j (4 * f + 60); rw [if_neg (fun z => z h), if_pos h]; rfl; rw [if_pos h, if_neg h]; rfl) (fun _ h => h)

set_option maxHeartbeats 4000000 in
set_option maxRecDepth 100000 in
theorem met_sendTo (l : Launch) (G : sv_G) (z : Nat) (M : sv_M) (o : Int64) (j f : Nat) (hj : j < 8) (hf : f < 7) (t T : Int32) : sv_Met l G yX2_sendTo cX2_sendTo 4 none 2 [.ref (sv_r G 8 j), .int (nI f), .int t, .int T] (sv_W G z M o) none (sv_W G z (sv_u M j (upd (upd (M j) (4 * f + 60) t) (4 * f + 61) (if M j (4 * f + 59) = t then 0 else T))) o) := by
  refine sv_ofW (by decide) kw_422 (Nat.le_of_ble_eq_true rfl) ?_
  intro p e s mth args below meth c hr C _
  refine sv_sub (lv' := [(0, .ref (sv_r G 8 j)), (1, .int (nI f)), (2, .int t), (3, .int T)]) rfl ?_
  refine sv_aload_n (i := 0) (x := sv_r G 8 j) C dX2_sendTo_0 rfl rfl ?_
  refine sv_get_2_2 C hj kw_105 dX2_sendTo_1 ?_
  refine sv_iload_n (i := 1) (x := nI f) C dX2_sendTo_4 rfl rfl ?_
  refine sv_iload_n (i := 2) (x := t) C dX2_sendTo_5 rfl rfl ?_
  refine sv_callN (as := [_, _, _]) (rest := []) C (met_putN j (4 * f + 60) rfl rfl (sv_okj (by decide) hj) rfl (by show _ < 7; omega)) fX5_put (host := "StairLight") kn_RX2_35 ⟨Nat.le_of_ble_eq_true rfl, Nat.le_of_ble_eq_true rfl⟩ (Nat.le_of_ble_eq_true rfl) dX2_sendTo_6 ⟨Nat.zero_le _, Nat.zero_le _⟩  ?_
  refine sv_rv ?_
  refine sv_aload_n (i := 0) (x := sv_r G 8 j) C dX2_sendTo_9 rfl rfl ?_
  refine sv_get_2_3 C hj kw_107 dX2_sendTo_10 ?_
  refine sv_iload_n (i := 1) (x := nI f) C dX2_sendTo_13 rfl rfl ?_
  refine sv_aload_n (i := 0) (x := sv_r G 8 j) C dX2_sendTo_14 rfl rfl ?_
  refine sv_iload_n (i := 1) (x := nI f) C dX2_sendTo_15 rfl rfl ?_
  refine sv_callV (as := [_]) (rest := [_, _]) C (met_isThere l G _ _ _ j f hj (by omega)) fX2_isThere kw_373 (sv_recv8 C hj) ⟨Nat.le_of_ble_eq_true rfl, Nat.le_of_ble_eq_true rfl⟩ (Nat.le_of_ble_eq_true rfl) dX2_sendTo_16 ⟨Nat.zero_le _, Nat.zero_le _⟩  ?_
  refine sv_ri (fun v16 e16 => ?_)
  refine sv_if_eq C 26 dX2_sendTo_19 (by decide) (fun q19 => ?_) (fun q19 => ?_)
  · have q19 : ¬ M j (4 * f + 59) = t := by
      intro h
      rw [e16, sv_wu, sv_us, upd_n (by omega), upd_s, if_pos h] at q19
      exact absurd q19 (by decide)
    refine sv_iload_n (i := 3) (x := T) C dX2_sendTo_26 rfl rfl ?_
    refine sv_callN (as := [_, _, _]) (rest := []) C (met_putN j (4 * f + 61) rfl rfl (sv_okj (by decide) hj) rfl (by show _ < 7; omega)) fX5_put (host := "StairLight") kn_RX2_35 ⟨Nat.le_of_ble_eq_true rfl, Nat.le_of_ble_eq_true rfl⟩ (Nat.le_of_ble_eq_true rfl) dX2_sendTo_27 ⟨Nat.zero_le _, Nat.zero_le _⟩  ?_
    refine sv_rv ?_
    exact sv_vret C hr dX2_sendTo_30 (Nat.le_of_ble_eq_true rfl) (Nat.le_of_ble_eq_true rfl) (sv_eqW (by rw [if_neg q19, sv_wu, sv_wu, sv_us, sv_uu]))
  · have q19 : M j (4 * f + 59) = t := Decidable.byContradiction fun h => q19 (by rw [e16, sv_wu, sv_us, upd_n (by omega), upd_s, if_neg h])
    refine sv_iconst (v := nI 0) C dX2_sendTo_22 (by decide) ?_
    refine sv_goto C 27 dX2_sendTo_23 (by decide) ?_
    refine sv_callN (as := [_, _, _]) (rest := []) C (met_putN j (4 * f + 61) rfl rfl (sv_okj (by decide) hj) rfl (by show _ < 7; omega)) fX5_put (host := "StairLight") kn_RX2_35 ⟨Nat.le_of_ble_eq_true rfl, Nat.le_of_ble_eq_true rfl⟩ (Nat.le_of_ble_eq_true rfl) dX2_sendTo_27 ⟨Nat.zero_le _, Nat.zero_le _⟩  ?_
    refine sv_rv ?_
    exact sv_vret C hr dX2_sendTo_30 (Nat.le_of_ble_eq_true rfl) (Nat.le_of_ble_eq_true rfl) (sv_eqW (by rw [if_pos q19, sv_wu, sv_wu, sv_us, sv_uu]; rfl))

set_option maxHeartbeats 4000000 in
set_option maxRecDepth 100000 in
theorem met_peopleOn (l : Launch) (G : sv_G) (z : Nat) (M : sv_M) (o : Int64) (j : Nat) (hj : j < 8) (t : Int32) (m : Nat) (hm : M j 57 = nI m) (hm7 : m ≤ 7) : sv_Met l G yX2_peopleOn cX2_peopleOn 4 (some .int) 1 [.ref (sv_r G 8 j), .int t] (sv_W G z M o) (some (.int (onI (M j) t m))) (sv_W G z M o) := by
  refine sv_ofW (by decide) kw_346 (Nat.le_of_ble_eq_true rfl) ?_
  intro p e s mth args below meth c hr C _
  refine sv_sub (lv' := [(0, .ref (sv_r G 8 j)), (1, .int t)]) rfl ?_
  refine sv_iconst (v := nI 0) C dX2_peopleOn_0 (by decide) ?_
  refine sv_istore_n (i := 2) C [(0, .ref (sv_r G 8 j)), (1, .int t), (2, .int (nI 0))] dX2_peopleOn_1 rfl (by decide) rfl ?_
  refine sv_iconst (v := nI 0) C dX2_peopleOn_2 (by decide) ?_
  refine sv_istore_n (i := 3) C [(0, .ref (sv_r G 8 j)), (1, .int t), (2, .int (nI 0)), (3, .int (nI 0))] dX2_peopleOn_3 rfl (by decide) rfl ?_
  refine sv_loop (N := m) (I := fun _ => True) (Wf := fun i => sv_W G z M o) (Lf := fun i => [(0, .ref (sv_r G 8 j)), (1, .int t), (2, .int (onI (M j) t i)), (3, .int (nI i))]) 0 (Nat.zero_le _) trivial (fun i hi0 hi hI ih => ?_)
  refine sv_iload_n (i := 3) (x := nI i) C dX2_peopleOn_4 rfl rfl ?_
  refine sv_aload_n (i := 0) (x := sv_r G 8 j) C dX2_peopleOn_5 rfl rfl ?_
  refine sv_get_2_4 C hj kw_108 dX2_peopleOn_6 ?_
  refine sv_set (v' := .int (nI m)) (congrArg Value.int hm) ?_
  refine sv_icmp_geN C 33 dX2_peopleOn_9 (by decide) (by omega) (by omega) (fun q9 => ?_) (fun q9 => ?_)
  · refine sv_iload_n (i := 2) (x := onI (M j) t i) C dX2_peopleOn_33 rfl rfl ?_
    exact sv_iret C hr dX2_peopleOn_34 (Nat.le_of_ble_eq_true rfl) (Nat.le_of_ble_eq_true rfl) (by rw [show i = m from by omega]) (fun _ h => h)
  · refine sv_aload_n (i := 0) (x := sv_r G 8 j) C dX2_peopleOn_12 rfl rfl ?_
    refine sv_get_2_1 C hj kw_102 dX2_peopleOn_13 ?_
    refine sv_iload_n (i := 3) (x := nI i) C dX2_peopleOn_16 rfl rfl ?_
    refine sv_callN (as := [_, _]) (rest := []) C (met_atN j (4 * i + 59) rfl rfl (sv_okj (by decide) hj) rfl (by show _ < 7; omega)) fX5_at (host := "StairLight") kn_RX2_47 ⟨Nat.le_of_ble_eq_true rfl, Nat.le_of_ble_eq_true rfl⟩ (Nat.le_of_ble_eq_true rfl) dX2_peopleOn_17 ⟨Nat.zero_le _, Nat.zero_le _⟩  ?_
    refine sv_ri (fun v17 e17 => ?_)
    refine sv_iload_n (i := 1) (x := t) C dX2_peopleOn_20 rfl rfl ?_
    refine sv_icmp_ne C 27 dX2_peopleOn_21 (by decide) (fun q21 => ?_) (fun q21 => ?_)
    · refine sv_iinc (i := 3) (x := nI i) C (nI (i + 1)) [(0, .ref (sv_r G 8 j)), (1, .int t), (2, .int (onI (M j) t i)), (3, .int (nI (i + 1)))] dX2_peopleOn_27 rfl (sv_incN i 1) (by decide) rfl ?_
      refine sv_goto C 4 dX2_peopleOn_30 (by decide) ?_
      rw [show onI (M j) t i = onI (M j) t (i + 1) from by show _ = onI (M j) t i + _; rw [if_neg (fun h => q21 (e17.trans h))]; exact (Int32.add_zero _).symm]
      exact ih (by omega) trivial
    · obtain ⟨v24, e24⟩ : ∃ y : Int32, y = onI (M j) t i + Int32.ofInt (1) := ⟨_, rfl⟩
      refine sv_iinc (i := 2) (x := onI (M j) t i) C v24 [(0, .ref (sv_r G 8 j)), (1, .int t), (2, .int v24), (3, .int (nI i))] dX2_peopleOn_24 rfl e24.symm (by decide) rfl ?_
      refine sv_iinc (i := 3) (x := nI i) C (nI (i + 1)) [(0, .ref (sv_r G 8 j)), (1, .int t), (2, .int v24), (3, .int (nI (i + 1)))] dX2_peopleOn_27 rfl (sv_incN i 1) (by decide) rfl ?_
      refine sv_goto C 4 dX2_peopleOn_30 (by decide) ?_
      rw [show v24 = onI (M j) t (i + 1) from by rw [e24]; show _ = onI (M j) t i + _; rw [if_pos (e17.symm.trans q21)]; rfl]
      exact ih (by omega) trivial

theorem plF_step {x : vX} {v : Int32} {m i : Nat} (h : i < m) (hne : ¬ x (4 * i + 58) = v) : plF x v (m - i) i = plF x v (m - (i + 1)) (i + 1) := by
  rw [show m - i = (m - (i + 1)) + 1 by omega]
  exact if_neg hne
theorem plF_hit {x : vX} {v : Int32} {m i : Nat} (h : i < m) (he : x (4 * i + 58) = v) : plF x v (m - i) i = nI i := by
  rw [show m - i = (m - (i + 1)) + 1 by omega]
  exact if_pos he
theorem plF_end {x : vX} {v : Int32} {m i : Nat} (h : m ≤ i) : plF x v (m - i) i = (-1) := by
  rw [show m - i = 0 by omega]
  rfl
set_option maxHeartbeats 4000000 in
set_option maxRecDepth 100000 in
theorem met_placeOf (l : Launch) (G : sv_G) (z : Nat) (M : sv_M) (o : Int64) (j : Nat) (hj : j < 8) (t : Int32) (m : Nat) (hm : M j 57 = nI m) (hm7 : m ≤ 7) : sv_Met l G yX2_placeOf cX2_placeOf 3 (some .int) 1 [.ref (sv_r G 8 j), .int t] (sv_W G z M o) (some (.int (plF (M j) t m 0))) (sv_W G z M o) := by
  refine sv_ofW (by decide) kw_427 (Nat.le_of_ble_eq_true rfl) ?_
  intro p e s mth args below meth c hr C _
  refine sv_sub (lv' := [(0, .ref (sv_r G 8 j)), (1, .int t)]) rfl ?_
  refine sv_iconst (v := nI 0) C dX2_placeOf_0 (by decide) ?_
  refine sv_istore_n (i := 2) C [(0, .ref (sv_r G 8 j)), (1, .int t), (2, .int (nI 0))] dX2_placeOf_1 rfl (by decide) rfl ?_
  refine sv_loop (N := m) (I := fun i => plF (M j) t m 0 = plF (M j) t (m - i) i) (Wf := fun i => sv_W G z M o) (Lf := fun i => [(0, .ref (sv_r G 8 j)), (1, .int t), (2, .int (nI i))]) 0 (Nat.zero_le _) rfl (fun i hi0 hi hI ih => ?_)
  refine sv_iload_n (i := 2) (x := nI i) C dX2_placeOf_2 rfl rfl ?_
  refine sv_aload_n (i := 0) (x := sv_r G 8 j) C dX2_placeOf_3 rfl rfl ?_
  refine sv_get_2_4 C hj kw_108 dX2_placeOf_4 ?_
  refine sv_set (v' := .int (nI m)) (congrArg Value.int hm) ?_
  refine sv_icmp_geN C 30 dX2_placeOf_7 (by decide) (by omega) (by omega) (fun q7 => ?_) (fun q7 => ?_)
  · refine sv_iconst (v := (-1)) C dX2_placeOf_30 (by decide) ?_
    exact sv_iret C hr dX2_placeOf_31 (Nat.le_of_ble_eq_true rfl) (Nat.le_of_ble_eq_true rfl) (by rw [hI, plF_end (by omega)]) (fun _ h => h)
  · refine sv_aload_n (i := 0) (x := sv_r G 8 j) C dX2_placeOf_10 rfl rfl ?_
    refine sv_get_2_0 C hj kw_101 dX2_placeOf_11 ?_
    refine sv_iload_n (i := 2) (x := nI i) C dX2_placeOf_14 rfl rfl ?_
    refine sv_callN (as := [_, _]) (rest := []) C (met_atN j (4 * i + 58) rfl rfl (sv_okj (by decide) hj) rfl (by show _ < 7; omega)) fX5_at (host := "StairLight") kn_RX2_47 ⟨Nat.le_of_ble_eq_true rfl, Nat.le_of_ble_eq_true rfl⟩ (Nat.le_of_ble_eq_true rfl) dX2_placeOf_15 ⟨Nat.zero_le _, Nat.zero_le _⟩  ?_
    refine sv_ri (fun v15 e15 => ?_)
    refine sv_iload_n (i := 1) (x := t) C dX2_placeOf_18 rfl rfl ?_
    refine sv_icmp_ne C 24 dX2_placeOf_19 (by decide) (fun q19 => ?_) (fun q19 => ?_)
    · refine sv_iinc (i := 2) (x := nI i) C (nI (i + 1)) [(0, .ref (sv_r G 8 j)), (1, .int t), (2, .int (nI (i + 1)))] dX2_placeOf_24 rfl (sv_incN i 1) (by decide) rfl ?_
      refine sv_goto C 2 dX2_placeOf_27 (by decide) ?_
      exact ih (by omega) (hI.trans (plF_step (by omega) (fun h => q19 (e15.trans h))))
    · refine sv_iload_n (i := 2) (x := nI i) C dX2_placeOf_22 rfl rfl ?_
      exact sv_iret C hr dX2_placeOf_23 (Nat.le_of_ble_eq_true rfl) (Nat.le_of_ble_eq_true rfl) (by rw [hI, plF_hit (by omega) (e15.symm.trans q19)]) (fun _ h => h)

set_option maxHeartbeats 4000000 in
set_option maxRecDepth 100000 in
theorem met_moveUp (l : Launch) (G : sv_G) (z : Nat) (M : sv_M) (o : Int64) (j f t : Nat) (hj : j < 8) (hf : f < 7) (ht : t < 7) : sv_Met l G yX2_moveUp cX2_moveUp 3 none 1 [.ref (sv_r G 8 j), .int (nI f), .int (nI t)] (sv_W G z M o) none (sv_W G z (sv_u M j (mvv f t (M j))) o) := by
  refine sv_ofW (by decide) kw_386 (Nat.le_of_ble_eq_true rfl) ?_
  intro p e s mth args below meth c hr C _
  refine sv_sub (lv' := [(0, .ref (sv_r G 8 j)), (1, .int (nI f)), (2, .int (nI t))]) rfl ?_
  refine sv_aload_n (i := 0) (x := sv_r G 8 j) C dX2_moveUp_0 rfl rfl ?_
  refine sv_get_2_0 C hj kw_101 dX2_moveUp_1 ?_
  refine sv_iload_n (i := 2) (x := nI t) C dX2_moveUp_4 rfl rfl ?_
  refine sv_aload_n (i := 0) (x := sv_r G 8 j) C dX2_moveUp_5 rfl rfl ?_
  refine sv_get_2_0 C hj kw_101 dX2_moveUp_6 ?_
  refine sv_iload_n (i := 1) (x := nI f) C dX2_moveUp_9 rfl rfl ?_
  refine sv_callN (as := [_, _]) (rest := [_, _]) C (met_atN j (4 * f + 58) rfl rfl (sv_okj (by decide) hj) rfl (by show _ < 7; omega)) fX5_at (host := "StairLight") kn_RX2_47 ⟨Nat.le_of_ble_eq_true rfl, Nat.le_of_ble_eq_true rfl⟩ (Nat.le_of_ble_eq_true rfl) dX2_moveUp_10 ⟨Nat.zero_le _, Nat.zero_le _⟩  ?_
  refine sv_ri (fun v10 e10 => ?_)
  refine sv_callN (as := [_, _, _]) (rest := []) C (met_putN j (4 * t + 58) rfl rfl (sv_okj (by decide) hj) rfl (by show _ < 7; omega)) fX5_put (host := "StairLight") kn_RX2_35 ⟨Nat.le_of_ble_eq_true rfl, Nat.le_of_ble_eq_true rfl⟩ (Nat.le_of_ble_eq_true rfl) dX2_moveUp_13 ⟨Nat.zero_le _, Nat.zero_le _⟩  ?_
  refine sv_rv ?_
  refine sv_aload_n (i := 0) (x := sv_r G 8 j) C dX2_moveUp_16 rfl rfl ?_
  refine sv_get_2_1 C hj kw_102 dX2_moveUp_17 ?_
  refine sv_iload_n (i := 2) (x := nI t) C dX2_moveUp_20 rfl rfl ?_
  refine sv_aload_n (i := 0) (x := sv_r G 8 j) C dX2_moveUp_21 rfl rfl ?_
  refine sv_get_2_1 C hj kw_102 dX2_moveUp_22 ?_
  refine sv_iload_n (i := 1) (x := nI f) C dX2_moveUp_25 rfl rfl ?_
  refine sv_callN (as := [_, _]) (rest := [_, _]) C (met_atN j (4 * f + 59) rfl rfl (sv_okj (by decide) hj) rfl (by show _ < 7; omega)) fX5_at (host := "StairLight") kn_RX2_47 ⟨Nat.le_of_ble_eq_true rfl, Nat.le_of_ble_eq_true rfl⟩ (Nat.le_of_ble_eq_true rfl) dX2_moveUp_26 ⟨Nat.zero_le _, Nat.zero_le _⟩  ?_
  refine sv_ri (fun v26 e26 => ?_)
  refine sv_callN (as := [_, _, _]) (rest := []) C (met_putN j (4 * t + 59) rfl rfl (sv_okj (by decide) hj) rfl (by show _ < 7; omega)) fX5_put (host := "StairLight") kn_RX2_35 ⟨Nat.le_of_ble_eq_true rfl, Nat.le_of_ble_eq_true rfl⟩ (Nat.le_of_ble_eq_true rfl) dX2_moveUp_29 ⟨Nat.zero_le _, Nat.zero_le _⟩  ?_
  refine sv_rv ?_
  refine sv_aload_n (i := 0) (x := sv_r G 8 j) C dX2_moveUp_32 rfl rfl ?_
  refine sv_get_2_2 C hj kw_105 dX2_moveUp_33 ?_
  refine sv_iload_n (i := 2) (x := nI t) C dX2_moveUp_36 rfl rfl ?_
  refine sv_aload_n (i := 0) (x := sv_r G 8 j) C dX2_moveUp_37 rfl rfl ?_
  refine sv_get_2_2 C hj kw_105 dX2_moveUp_38 ?_
  refine sv_iload_n (i := 1) (x := nI f) C dX2_moveUp_41 rfl rfl ?_
  refine sv_callN (as := [_, _]) (rest := [_, _]) C (met_atN j (4 * f + 60) rfl rfl (sv_okj (by decide) hj) rfl (by show _ < 7; omega)) fX5_at (host := "StairLight") kn_RX2_47 ⟨Nat.le_of_ble_eq_true rfl, Nat.le_of_ble_eq_true rfl⟩ (Nat.le_of_ble_eq_true rfl) dX2_moveUp_42 ⟨Nat.zero_le _, Nat.zero_le _⟩  ?_
  refine sv_ri (fun v42 e42 => ?_)
  refine sv_callN (as := [_, _, _]) (rest := []) C (met_putN j (4 * t + 60) rfl rfl (sv_okj (by decide) hj) rfl (by show _ < 7; omega)) fX5_put (host := "StairLight") kn_RX2_35 ⟨Nat.le_of_ble_eq_true rfl, Nat.le_of_ble_eq_true rfl⟩ (Nat.le_of_ble_eq_true rfl) dX2_moveUp_45 ⟨Nat.zero_le _, Nat.zero_le _⟩  ?_
  refine sv_rv ?_
  refine sv_aload_n (i := 0) (x := sv_r G 8 j) C dX2_moveUp_48 rfl rfl ?_
  refine sv_get_2_3 C hj kw_107 dX2_moveUp_49 ?_
  refine sv_iload_n (i := 2) (x := nI t) C dX2_moveUp_52 rfl rfl ?_
  refine sv_aload_n (i := 0) (x := sv_r G 8 j) C dX2_moveUp_53 rfl rfl ?_
  refine sv_get_2_3 C hj kw_107 dX2_moveUp_54 ?_
  refine sv_iload_n (i := 1) (x := nI f) C dX2_moveUp_57 rfl rfl ?_
  refine sv_callN (as := [_, _]) (rest := [_, _]) C (met_atN j (4 * f + 61) rfl rfl (sv_okj (by decide) hj) rfl (by show _ < 7; omega)) fX5_at (host := "StairLight") kn_RX2_47 ⟨Nat.le_of_ble_eq_true rfl, Nat.le_of_ble_eq_true rfl⟩ (Nat.le_of_ble_eq_true rfl) dX2_moveUp_58 ⟨Nat.zero_le _, Nat.zero_le _⟩  ?_
  refine sv_ri (fun v58 e58 => ?_)
  refine sv_callN (as := [_, _, _]) (rest := []) C (met_putN j (4 * t + 61) rfl rfl (sv_okj (by decide) hj) rfl (by show _ < 7; omega)) fX5_put (host := "StairLight") kn_RX2_35 ⟨Nat.le_of_ble_eq_true rfl, Nat.le_of_ble_eq_true rfl⟩ (Nat.le_of_ble_eq_true rfl) dX2_moveUp_61 ⟨Nat.zero_le _, Nat.zero_le _⟩  ?_
  refine sv_rv ?_
  exact sv_vret C hr dX2_moveUp_64 (Nat.le_of_ble_eq_true rfl) (Nat.le_of_ble_eq_true rfl) (sv_eqW (by rw [e58, e42, e26, e10]; simp only [sv_wu, sv_us, sv_uu]; unfold mvv; simp only [upd_n (show 4 * f + 61 ≠ 4 * t + 58 by omega), upd_n (show 4 * f + 61 ≠ 4 * t + 59 by omega), upd_n (show 4 * f + 61 ≠ 4 * t + 60 by omega), upd_n (show 4 * f + 60 ≠ 4 * t + 58 by omega), upd_n (show 4 * f + 60 ≠ 4 * t + 59 by omega), upd_n (show 4 * f + 59 ≠ 4 * t + 58 by omega)]))

set_option maxHeartbeats 4000000 in
set_option maxRecDepth 100000 in
theorem met_walk (l : Launch) (G : sv_G) (z : Nat) (M : sv_M) (o : Int64) (j f : Nat) (hj : j < 8) (hf : f < 7) (T : Int32) : sv_Met l G yX2_walk cX2_walk 3 none 2 [.ref (sv_r G 8 j), .int (nI f), .int T] (sv_W G z M o) none (sv_W G z (sv_u M j (wkv T f (M j))) o) := by
  refine sv_ofW (by decide) kw_380 (Nat.le_of_ble_eq_true rfl) ?_
  intro p e s mth args below meth c hr C _
  refine sv_sub (lv' := [(0, .ref (sv_r G 8 j)), (1, .int (nI f)), (2, .int T)]) rfl ?_
  refine sv_aload_n (i := 0) (x := sv_r G 8 j) C dX2_walk_0 rfl rfl ?_
  refine sv_get_2_3 C hj kw_107 dX2_walk_1 ?_
  refine sv_iload_n (i := 1) (x := nI f) C dX2_walk_4 rfl rfl ?_
  refine sv_iconst (v := (-1)) C dX2_walk_5 (by decide) ?_
  refine sv_callN (as := [_, _, _]) (rest := []) C (met_raiseN j (4 * f + 61) rfl rfl (sv_okj (by decide) hj) rfl (by show _ < 7; omega)) fX5_raise (host := "StairLight") kn_RX2_58 ⟨Nat.le_of_ble_eq_true rfl, Nat.le_of_ble_eq_true rfl⟩ (Nat.le_of_ble_eq_true rfl) dX2_walk_6 ⟨Nat.zero_le _, Nat.zero_le _⟩  ?_
  refine sv_rv ?_
  refine sv_aload_n (i := 0) (x := sv_r G 8 j) C dX2_walk_9 rfl rfl ?_
  refine sv_get_2_3 C hj kw_107 dX2_walk_10 ?_
  refine sv_iload_n (i := 1) (x := nI f) C dX2_walk_13 rfl rfl ?_
  refine sv_callN (as := [_, _]) (rest := []) C (met_atN j (4 * f + 61) rfl rfl (sv_okj (by decide) hj) rfl (by show _ < 7; omega)) fX5_at (host := "StairLight") kn_RX2_47 ⟨Nat.le_of_ble_eq_true rfl, Nat.le_of_ble_eq_true rfl⟩ (Nat.le_of_ble_eq_true rfl) dX2_walk_14 ⟨Nat.zero_le _, Nat.zero_le _⟩  ?_
  refine sv_ri (fun v14 e14 => ?_)
  have e14 : v14 = M j (4 * f + 61) + (-1) := by rw [e14, sv_wu, sv_us, upd_s]
  rw [e14]
  refine sv_if_le C 21 dX2_walk_17 (by decide) (fun q17 => ?_) (fun q17 => ?_)
  · refine sv_aload_n (i := 0) (x := sv_r G 8 j) C dX2_walk_21 rfl rfl ?_
    refine sv_get_2_1 C hj kw_102 dX2_walk_22 ?_
    refine sv_iload_n (i := 1) (x := nI f) C dX2_walk_25 rfl rfl ?_
    refine sv_aload_n (i := 0) (x := sv_r G 8 j) C dX2_walk_26 rfl rfl ?_
    refine sv_get_2_2 C hj kw_105 dX2_walk_27 ?_
    refine sv_iload_n (i := 1) (x := nI f) C dX2_walk_30 rfl rfl ?_
    refine sv_callN (as := [_, _]) (rest := [_, _]) C (met_atN j (4 * f + 60) rfl rfl (sv_okj (by decide) hj) rfl (by show _ < 7; omega)) fX5_at (host := "StairLight") kn_RX2_47 ⟨Nat.le_of_ble_eq_true rfl, Nat.le_of_ble_eq_true rfl⟩ (Nat.le_of_ble_eq_true rfl) dX2_walk_31 ⟨Nat.zero_le _, Nat.zero_le _⟩  ?_
    refine sv_ri (fun v31 e31 => ?_)
    refine sv_aload_n (i := 0) (x := sv_r G 8 j) C dX2_walk_34 rfl rfl ?_
    refine sv_get_2_1 C hj kw_102 dX2_walk_35 ?_
    refine sv_iload_n (i := 1) (x := nI f) C dX2_walk_38 rfl rfl ?_
    refine sv_callN (as := [_, _]) (rest := [_, _, _]) C (met_atN j (4 * f + 59) rfl rfl (sv_okj (by decide) hj) rfl (by show _ < 7; omega)) fX5_at (host := "StairLight") kn_RX2_47 ⟨Nat.le_of_ble_eq_true rfl, Nat.le_of_ble_eq_true rfl⟩ (Nat.le_of_ble_eq_true rfl) dX2_walk_39 ⟨Nat.zero_le _, Nat.zero_le _⟩  ?_
    refine sv_ri (fun v39 e39 => ?_)
    have e31 : v31 = M j (4 * f + 60) := by rw [e31, sv_wu, sv_us, upd_n (by omega)]
    have e39 : v39 = M j (4 * f + 59) := by rw [e39, sv_wu, sv_us, upd_n (by omega)]
    rw [e31, e39]
    refine sv_icmp_le C 49 dX2_walk_42 (by decide) (fun q42 => ?_) (fun q42 => ?_)
    · refine sv_iconst (v := (-1)) C dX2_walk_49 (by decide) ?_
      refine sv_callN (as := [_, _, _]) (rest := []) C (met_raiseN j (4 * f + 59) rfl rfl (sv_okj (by decide) hj) rfl (by show _ < 7; omega)) fX5_raise (host := "StairLight") kn_RX2_58 ⟨Nat.le_of_ble_eq_true rfl, Nat.le_of_ble_eq_true rfl⟩ (Nat.le_of_ble_eq_true rfl) dX2_walk_50 ⟨Nat.zero_le _, Nat.zero_le _⟩  ?_
      refine sv_rv ?_
      refine sv_aload_n (i := 0) (x := sv_r G 8 j) C dX2_walk_53 rfl rfl ?_
      refine sv_get_2_3 C hj kw_107 dX2_walk_54 ?_
      refine sv_iload_n (i := 1) (x := nI f) C dX2_walk_57 rfl rfl ?_
      refine sv_aload_n (i := 0) (x := sv_r G 8 j) C dX2_walk_58 rfl rfl ?_
      refine sv_iload_n (i := 1) (x := nI f) C dX2_walk_59 rfl rfl ?_
      refine sv_callV (as := [_]) (rest := [_, _]) C (met_isThere l G _ _ _ j f hj (by omega)) fX2_isThere kw_373 (sv_recv8 C hj) ⟨Nat.le_of_ble_eq_true rfl, Nat.le_of_ble_eq_true rfl⟩ (Nat.le_of_ble_eq_true rfl) dX2_walk_60 ⟨Nat.zero_le _, Nat.zero_le _⟩  ?_
      refine sv_ri (fun v60 e60 => ?_)
      have h60 : v60 = (if M j (4 * f + 59) + (-1) = M j (4 * f + 60) then 1 else 0) := by rw [e60]; simp only [sv_wu, sv_us, sv_uu, upd_s, upd_n (show 4 * f + 59 ≠ 4 * f + 61 by omega), upd_n (show 4 * f + 60 ≠ 4 * f + 61 by omega), upd_n (show 4 * f + 60 ≠ 4 * f + 59 by omega), upd_n (show 4 * f + 61 ≠ 4 * f + 59 by omega)]
      refine sv_if_eq C 70 dX2_walk_63 (by decide) (fun q63 => ?_) (fun q63 => ?_)
      · have q63 : ¬ M j (4 * f + 59) + (-1) = M j (4 * f + 60) := by
          intro h
          rw [h60, if_pos h] at q63
          exact absurd q63 (by decide)
        refine sv_iload_n (i := 2) (x := T) C dX2_walk_70 rfl rfl ?_
        refine sv_callN (as := [_, _, _]) (rest := []) C (met_putN j (4 * f + 61) rfl rfl (sv_okj (by decide) hj) rfl (by show _ < 7; omega)) fX5_put (host := "StairLight") kn_RX2_35 ⟨Nat.le_of_ble_eq_true rfl, Nat.le_of_ble_eq_true rfl⟩ (Nat.le_of_ble_eq_true rfl) dX2_walk_71 ⟨Nat.zero_le _, Nat.zero_le _⟩  ?_
        refine sv_rv ?_
        exact sv_vret C hr dX2_walk_74 (Nat.le_of_ble_eq_true rfl) (Nat.le_of_ble_eq_true rfl) (sv_eqW (by unfold wkv; rw [if_pos q17]; simp only [if_pos q42]; simp only [sv_wu, sv_us, sv_uu, upd_s, upd_n (show 4 * f + 59 ≠ 4 * f + 61 by omega), upd_n (show 4 * f + 60 ≠ 4 * f + 61 by omega), upd_n (show 4 * f + 60 ≠ 4 * f + 59 by omega), upd_n (show 4 * f + 61 ≠ 4 * f + 59 by omega)]; simp only [if_neg q63, nI_one, nI_0]))
      · have q63 : M j (4 * f + 59) + (-1) = M j (4 * f + 60) := Decidable.byContradiction fun h => q63 (by rw [h60, if_neg h])
        refine sv_iconst (v := nI 0) C dX2_walk_66 (by decide) ?_
        refine sv_goto C 71 dX2_walk_67 (by decide) ?_
        refine sv_callN (as := [_, _, _]) (rest := []) C (met_putN j (4 * f + 61) rfl rfl (sv_okj (by decide) hj) rfl (by show _ < 7; omega)) fX5_put (host := "StairLight") kn_RX2_35 ⟨Nat.le_of_ble_eq_true rfl, Nat.le_of_ble_eq_true rfl⟩ (Nat.le_of_ble_eq_true rfl) dX2_walk_71 ⟨Nat.zero_le _, Nat.zero_le _⟩  ?_
        refine sv_rv ?_
        exact sv_vret C hr dX2_walk_74 (Nat.le_of_ble_eq_true rfl) (Nat.le_of_ble_eq_true rfl) (sv_eqW (by unfold wkv; rw [if_pos q17]; simp only [if_pos q42]; simp only [sv_wu, sv_us, sv_uu, upd_s, upd_n (show 4 * f + 59 ≠ 4 * f + 61 by omega), upd_n (show 4 * f + 60 ≠ 4 * f + 61 by omega), upd_n (show 4 * f + 60 ≠ 4 * f + 59 by omega), upd_n (show 4 * f + 61 ≠ 4 * f + 59 by omega)]; simp only [if_pos q63, nI_one, nI_0]))
    · refine sv_iconst (v := nI 1) C dX2_walk_45 (by decide) ?_
      refine sv_goto C 50 dX2_walk_46 (by decide) ?_
      refine sv_callN (as := [_, _, _]) (rest := []) C (met_raiseN j (4 * f + 59) rfl rfl (sv_okj (by decide) hj) rfl (by show _ < 7; omega)) fX5_raise (host := "StairLight") kn_RX2_58 ⟨Nat.le_of_ble_eq_true rfl, Nat.le_of_ble_eq_true rfl⟩ (Nat.le_of_ble_eq_true rfl) dX2_walk_50 ⟨Nat.zero_le _, Nat.zero_le _⟩  ?_
      refine sv_rv ?_
      refine sv_aload_n (i := 0) (x := sv_r G 8 j) C dX2_walk_53 rfl rfl ?_
      refine sv_get_2_3 C hj kw_107 dX2_walk_54 ?_
      refine sv_iload_n (i := 1) (x := nI f) C dX2_walk_57 rfl rfl ?_
      refine sv_aload_n (i := 0) (x := sv_r G 8 j) C dX2_walk_58 rfl rfl ?_
      refine sv_iload_n (i := 1) (x := nI f) C dX2_walk_59 rfl rfl ?_
      refine sv_callV (as := [_]) (rest := [_, _]) C (met_isThere l G _ _ _ j f hj (by omega)) fX2_isThere kw_373 (sv_recv8 C hj) ⟨Nat.le_of_ble_eq_true rfl, Nat.le_of_ble_eq_true rfl⟩ (Nat.le_of_ble_eq_true rfl) dX2_walk_60 ⟨Nat.zero_le _, Nat.zero_le _⟩  ?_
      refine sv_ri (fun v60 e60 => ?_)
      have h60 : v60 = (if M j (4 * f + 59) + nI 1 = M j (4 * f + 60) then 1 else 0) := by rw [e60]; simp only [sv_wu, sv_us, sv_uu, upd_s, upd_n (show 4 * f + 59 ≠ 4 * f + 61 by omega), upd_n (show 4 * f + 60 ≠ 4 * f + 61 by omega), upd_n (show 4 * f + 60 ≠ 4 * f + 59 by omega), upd_n (show 4 * f + 61 ≠ 4 * f + 59 by omega)]
      refine sv_if_eq C 70 dX2_walk_63 (by decide) (fun q63 => ?_) (fun q63 => ?_)
      · have q63 : ¬ M j (4 * f + 59) + nI 1 = M j (4 * f + 60) := by
          intro h
          rw [h60, if_pos h] at q63
          exact absurd q63 (by decide)
        refine sv_iload_n (i := 2) (x := T) C dX2_walk_70 rfl rfl ?_
        refine sv_callN (as := [_, _, _]) (rest := []) C (met_putN j (4 * f + 61) rfl rfl (sv_okj (by decide) hj) rfl (by show _ < 7; omega)) fX5_put (host := "StairLight") kn_RX2_35 ⟨Nat.le_of_ble_eq_true rfl, Nat.le_of_ble_eq_true rfl⟩ (Nat.le_of_ble_eq_true rfl) dX2_walk_71 ⟨Nat.zero_le _, Nat.zero_le _⟩  ?_
        refine sv_rv ?_
        exact sv_vret C hr dX2_walk_74 (Nat.le_of_ble_eq_true rfl) (Nat.le_of_ble_eq_true rfl) (sv_eqW (by unfold wkv; rw [if_pos q17]; simp only [if_neg q42]; simp only [sv_wu, sv_us, sv_uu, upd_s, upd_n (show 4 * f + 59 ≠ 4 * f + 61 by omega), upd_n (show 4 * f + 60 ≠ 4 * f + 61 by omega), upd_n (show 4 * f + 60 ≠ 4 * f + 59 by omega), upd_n (show 4 * f + 61 ≠ 4 * f + 59 by omega)]; simp only [nI_one, nI_0]; rw [if_neg (show ¬ M j (4 * f + 59) + (1 : Int32) = M j (4 * f + 60) from q63)]))
      · have q63 : M j (4 * f + 59) + nI 1 = M j (4 * f + 60) := Decidable.byContradiction fun h => q63 (by rw [h60, if_neg h])
        refine sv_iconst (v := nI 0) C dX2_walk_66 (by decide) ?_
        refine sv_goto C 71 dX2_walk_67 (by decide) ?_
        refine sv_callN (as := [_, _, _]) (rest := []) C (met_putN j (4 * f + 61) rfl rfl (sv_okj (by decide) hj) rfl (by show _ < 7; omega)) fX5_put (host := "StairLight") kn_RX2_35 ⟨Nat.le_of_ble_eq_true rfl, Nat.le_of_ble_eq_true rfl⟩ (Nat.le_of_ble_eq_true rfl) dX2_walk_71 ⟨Nat.zero_le _, Nat.zero_le _⟩  ?_
        refine sv_rv ?_
        exact sv_vret C hr dX2_walk_74 (Nat.le_of_ble_eq_true rfl) (Nat.le_of_ble_eq_true rfl) (sv_eqW (by unfold wkv; rw [if_pos q17]; simp only [if_neg q42]; simp only [sv_wu, sv_us, sv_uu, upd_s, upd_n (show 4 * f + 59 ≠ 4 * f + 61 by omega), upd_n (show 4 * f + 60 ≠ 4 * f + 61 by omega), upd_n (show 4 * f + 60 ≠ 4 * f + 59 by omega), upd_n (show 4 * f + 61 ≠ 4 * f + 59 by omega)]; simp only [nI_one, nI_0]; rw [if_pos (show  M j (4 * f + 59) + (1 : Int32) = M j (4 * f + 60) from q63)]))
  · exact sv_vret C hr dX2_walk_20 (Nat.le_of_ble_eq_true rfl) (Nat.le_of_ble_eq_true rfl) (sv_eqW (by unfold wkv; rw [if_neg q17, sv_wu]))

theorem goS_le (T : Int32) (x : vX) : ∀ n, (goS T n x).2 ≤ n
  | 0 => Nat.le_refl 0
  | n + 1 => by
    have h := goS_le T x n
    show (goB T n (goS T n x)).2 ≤ n + 1
    unfold goB
    split
    · omega
    · show (goS T n x).2 + 1 ≤ n + 1
      omega
theorem wkv_o {T : Int32} {p : Nat} {x : vX} {k : Nat} (h : k ≠ 4 * p + 59) (h2 : k ≠ 4 * p + 61) : wkv T p x k = x k := by
  unfold wkv
  split
  · rw [upd_n h2, upd_n h, upd_n h2]
  · rw [upd_n h2]
theorem mvv_o {p s : Nat} {x : vX} {k : Nat} (h : k < 4 * s + 58 ∨ 4 * s + 62 ≤ k) : mvv p s x k = x k := by
  unfold mvv
  rw [upd_n (by omega), upd_n (by omega), upd_n (by omega), upd_n (by omega)]
theorem goS_o (T : Int32) (x : vX) (k : Nat) (h : k < 58) : ∀ n, (goS T n x).1 k = x k
  | 0 => rfl
  | n + 1 => by
    have ih := goS_o T x k h n
    show (goB T n (goS T n x)).1 k = x k
    unfold goB
    split
    · exact ih
    · show mvv n _ (wkv T n _) k = x k
      rw [mvv_o (by omega), wkv_o (by omega) (by omega)]
      exact ih
set_option maxHeartbeats 4000000 in
set_option maxRecDepth 100000 in
theorem met_goOn (l : Launch) (G : sv_G) (z : Nat) (M : sv_M) (o : Int64) (j : Nat) (hj : j < 8) (T : Int32) (m : Nat) (hm : M j 57 = nI m) (hm7 : m ≤ 7) : sv_Met l G yX2_goOn cX2_goOn 4 none 3 [.ref (sv_r G 8 j), .int T] (sv_W G z M o) none (sv_W G z (sv_u M j (goOnv T m (M j))) o) := by
  refine sv_ofW (by decide) kw_372 (Nat.le_of_ble_eq_true rfl) ?_
  intro p e s mth args below meth c hr C _
  refine sv_sub (lv' := [(0, .ref (sv_r G 8 j)), (1, .int T)]) rfl ?_
  refine sv_iconst (v := nI 0) C dX2_goOn_0 (by decide) ?_
  refine sv_istore_n (i := 2) C [(0, .ref (sv_r G 8 j)), (1, .int T), (2, .int (nI 0))] dX2_goOn_1 rfl (by decide) rfl ?_
  refine sv_iconst (v := nI 0) C dX2_goOn_2 (by decide) ?_
  refine sv_istore_n (i := 3) C [(0, .ref (sv_r G 8 j)), (1, .int T), (2, .int (nI 0)), (3, .int (nI 0))] dX2_goOn_3 rfl (by decide) rfl ?_
  refine sv_wd (sv_eqW (sv_ui _ j).symm) ?_
  refine sv_loop (N := m) (I := fun _ => True) (Wf := fun i => sv_W G z (sv_u M j (goS T i (M j)).1) o) (Lf := fun i => [(0, .ref (sv_r G 8 j)), (1, .int T), (2, .int (nI ((goS T i (M j)).2))), (3, .int (nI i))]) 0 (Nat.zero_le _) trivial (fun i hi0 hi hI ih => ?_)
  refine sv_iload_n (i := 3) (x := nI i) C dX2_goOn_4 rfl rfl ?_
  refine sv_aload_n (i := 0) (x := sv_r G 8 j) C dX2_goOn_5 rfl rfl ?_
  refine sv_get_2_4 C hj kw_108 dX2_goOn_6 ?_
  refine sv_set (v' := .int (nI m)) (congrArg Value.int (by rw [sv_us, goS_o T _ 57 (by decide)]; exact hm)) ?_
  have hle := goS_le T (M j) i
  refine sv_icmp_geN C 41 dX2_goOn_9 (by decide) (by omega) (by omega) (fun q9 => ?_) (fun q9 => ?_)
  · refine sv_aload_n (i := 0) (x := sv_r G 8 j) C dX2_goOn_41 rfl rfl ?_
    refine sv_iload_n (i := 2) (x := nI ((goS T i (M j)).2)) C dX2_goOn_42 rfl rfl ?_
    refine sv_put_2_4 C hj kw_108 dX2_goOn_43 ?_
    exact sv_vret C hr dX2_goOn_46 (Nat.le_of_ble_eq_true rfl) (Nat.le_of_ble_eq_true rfl) (sv_eqW (by rw [show i = m from by omega, sv_wu, sv_us, sv_uu]; rfl))
  · refine sv_aload_n (i := 0) (x := sv_r G 8 j) C dX2_goOn_12 rfl rfl ?_
    refine sv_iload_n (i := 3) (x := nI i) C dX2_goOn_13 rfl rfl ?_
    refine sv_callV (as := [_]) (rest := []) C (met_isThere l G _ _ _ j i hj (by omega)) fX2_isThere kw_373 (sv_recv8 C hj) ⟨Nat.le_of_ble_eq_true rfl, Nat.le_of_ble_eq_true rfl⟩ (Nat.le_of_ble_eq_true rfl) dX2_goOn_14 ⟨Nat.zero_le _, Nat.zero_le _⟩  ?_
    refine sv_ri (fun v14 e14 => ?_)
    refine sv_if_ne C 35 dX2_goOn_17 (by decide) (fun q17 => ?_) (fun q17 => ?_)
    · refine sv_iinc (i := 3) (x := nI i) C (nI (i + 1)) [(0, .ref (sv_r G 8 j)), (1, .int T), (2, .int (nI ((goS T i (M j)).2))), (3, .int (nI (i + 1)))] dX2_goOn_35 rfl (sv_incN i 1) (by decide) rfl ?_
      refine sv_goto C 4 dX2_goOn_38 (by decide) ?_
      have hn : goS T (i + 1) (M j) = goS T i (M j) := by
        show goB T i (goS T i (M j)) = _
        unfold goB
        exact if_pos (by rw [e14, sv_us] at q17; exact Decidable.byContradiction fun h => q17 (if_neg h))
      have h9 := ih (by omega) trivial
      rw [hn] at h9
      exact h9
    · refine sv_aload_n (i := 0) (x := sv_r G 8 j) C dX2_goOn_20 rfl rfl ?_
      refine sv_iload_n (i := 3) (x := nI i) C dX2_goOn_21 rfl rfl ?_
      refine sv_iload_n (i := 1) (x := T) C dX2_goOn_22 rfl rfl ?_
      refine sv_callV (as := [_, _]) (rest := []) C (met_walk l G _ _ _ j i hj (by omega) T) fX2_walk kw_377 (sv_recv8 C hj) ⟨Nat.le_of_ble_eq_true rfl, Nat.le_of_ble_eq_true rfl⟩ (Nat.le_of_ble_eq_true rfl) dX2_goOn_23 ⟨Nat.zero_le _, Nat.zero_le _⟩  ?_
      refine sv_rv ?_
      refine sv_aload_n (i := 0) (x := sv_r G 8 j) C dX2_goOn_26 rfl rfl ?_
      refine sv_iload_n (i := 3) (x := nI i) C dX2_goOn_27 rfl rfl ?_
      refine sv_iload_n (i := 2) (x := nI ((goS T i (M j)).2)) C dX2_goOn_28 rfl rfl ?_
      refine sv_callV (as := [_, _]) (rest := []) C (met_moveUp l G _ _ _ j i ((goS T i (M j)).2) hj (by omega) (by omega)) fX2_moveUp kw_383 (sv_recv8 C hj) ⟨Nat.le_of_ble_eq_true rfl, Nat.le_of_ble_eq_true rfl⟩ (Nat.le_of_ble_eq_true rfl) dX2_goOn_29 ⟨Nat.zero_le _, Nat.zero_le _⟩  ?_
      refine sv_rv ?_
      refine sv_iinc (i := 2) (x := nI ((goS T i (M j)).2)) C (nI ((goS T i (M j)).2 + 1)) [(0, .ref (sv_r G 8 j)), (1, .int T), (2, .int (nI ((goS T i (M j)).2 + 1))), (3, .int (nI i))] dX2_goOn_32 rfl (sv_incN ((goS T i (M j)).2) 1) (by decide) rfl ?_
      refine sv_iinc (i := 3) (x := nI i) C (nI (i + 1)) [(0, .ref (sv_r G 8 j)), (1, .int T), (2, .int (nI ((goS T i (M j)).2 + 1))), (3, .int (nI (i + 1)))] dX2_goOn_35 rfl (sv_incN i 1) (by decide) rfl ?_
      refine sv_goto C 4 dX2_goOn_38 (by decide) ?_
      have hn : goS T (i + 1) (M j) = (mvv i (goS T i (M j)).2 (wkv T i (goS T i (M j)).1), (goS T i (M j)).2 + 1) := by
        show goB T i (goS T i (M j)) = _
        unfold goB
        exact if_neg (by rw [e14, sv_us] at q17; intro h; rw [if_pos h] at q17; exact absurd q17 (by decide))
      have h9 := ih (by omega) trivial
      rw [hn] at h9
      refine sv_wd (sv_eqW ?_) h9
      simp only [sv_us, sv_uu]

set_option maxHeartbeats 4000000 in
set_option maxRecDepth 100000 in
theorem met_enter (l : Launch) (G : sv_G) (z : Nat) (M : sv_M) (o : Int64) (j : Nat) (hj : j < 8) (f t T : Int32) (m : Nat) (hm : M j 57 = nI m) (hm6 : m < 7) : sv_Met l G yX2_enter cX2_enter 5 (some .int) 3 [.ref (sv_r G 8 j), .int f, .int t, .int T] (sv_W G z M o) (some (.int (M j 5))) (sv_W G z (sv_u M j (entv m f t T (M j))) o) := by
  refine sv_ofW (by decide) kw_418 (Nat.le_of_ble_eq_true rfl) ?_
  intro p e s mth args below meth c hr C _
  refine sv_sub (lv' := [(0, .ref (sv_r G 8 j)), (1, .int f), (2, .int t), (3, .int T)]) rfl ?_
  refine sv_aload_n (i := 0) (x := sv_r G 8 j) C dX2_enter_0 rfl rfl ?_
  refine sv_get_2_4 C hj kw_108 dX2_enter_1 ?_
  refine sv_set (v' := .int (nI m)) (congrArg Value.int hm) ?_
  refine sv_aload_n (i := 0) (x := sv_r G 8 j) C dX2_enter_4 rfl rfl ?_
  refine sv_get_2_0 C hj kw_101 dX2_enter_5 ?_
  refine sv_alen (v := nI 7) C (sv_okj (by decide) hj) rfl rfl dX2_enter_8 ?_
  refine sv_icmp_ltN C 14 dX2_enter_9 (by decide) (by omega) (by omega) (fun q9 => ?_) (fun q9 => ?_)
  · refine sv_aload_n (i := 0) (x := sv_r G 8 j) C dX2_enter_14 rfl rfl ?_
    refine sv_get_2_5 C hj kw_111 dX2_enter_15 ?_
    refine sv_topi (fun v15 e15 => ?_)
    refine sv_istore (i := 4) C [(0, .ref (sv_r G 8 j)), (1, .int f), (2, .int t), (3, .int T), (4, .int v15)] dX2_enter_18 (by decide) rfl ?_
    refine sv_aload_n (i := 0) (x := sv_r G 8 j) C dX2_enter_20 rfl rfl ?_
    refine sv_get_2_0 C hj kw_101 dX2_enter_21 ?_
    refine sv_aload_n (i := 0) (x := sv_r G 8 j) C dX2_enter_24 rfl rfl ?_
    refine sv_get_2_4 C hj kw_108 dX2_enter_25 ?_
    refine sv_set (v' := .int (nI m)) (congrArg Value.int hm) ?_
    refine sv_iload (i := 4) (x := v15) C dX2_enter_28 rfl ?_
    refine sv_callN (as := [_, _, _]) (rest := []) C (met_putN j (4 * m + 58) rfl rfl (sv_okj (by decide) hj) rfl (by show _ < 7; omega)) fX5_put (host := "StairLight") kn_RX2_35 ⟨Nat.le_of_ble_eq_true rfl, Nat.le_of_ble_eq_true rfl⟩ (Nat.le_of_ble_eq_true rfl) dX2_enter_30 ⟨Nat.zero_le _, Nat.zero_le _⟩  ?_
    refine sv_rv ?_
    refine sv_aload_n (i := 0) (x := sv_r G 8 j) C dX2_enter_33 rfl rfl ?_
    refine sv_get_2_1 C hj kw_102 dX2_enter_34 ?_
    refine sv_aload_n (i := 0) (x := sv_r G 8 j) C dX2_enter_37 rfl rfl ?_
    refine sv_get_2_4 C hj kw_108 dX2_enter_38 ?_
    refine sv_set (v' := .int (nI m)) (congrArg Value.int (by rw [sv_wu, sv_us, upd_n (by omega)]; exact hm)) ?_
    refine sv_iload_n (i := 1) (x := f) C dX2_enter_41 rfl rfl ?_
    refine sv_callN (as := [_, _, _]) (rest := []) C (met_putN j (4 * m + 59) rfl rfl (sv_okj (by decide) hj) rfl (by show _ < 7; omega)) fX5_put (host := "StairLight") kn_RX2_35 ⟨Nat.le_of_ble_eq_true rfl, Nat.le_of_ble_eq_true rfl⟩ (Nat.le_of_ble_eq_true rfl) dX2_enter_42 ⟨Nat.zero_le _, Nat.zero_le _⟩  ?_
    refine sv_rv ?_
    refine sv_aload_n (i := 0) (x := sv_r G 8 j) C dX2_enter_45 rfl rfl ?_
    refine sv_aload_n (i := 0) (x := sv_r G 8 j) C dX2_enter_46 rfl rfl ?_
    refine sv_get_2_4 C hj kw_108 dX2_enter_47 ?_
    refine sv_set (v' := .int (nI m)) (congrArg Value.int (by simp only [sv_wu, sv_us, sv_uu]; rw [upd_n (by omega), upd_n (by omega)]; exact hm)) ?_
    refine sv_iload_n (i := 2) (x := t) C dX2_enter_50 rfl rfl ?_
    refine sv_iload_n (i := 3) (x := T) C dX2_enter_51 rfl rfl ?_
    refine sv_callV (as := [_, _, _]) (rest := []) C (met_sendTo l G _ _ _ j m hj (by omega) t T) fX2_sendTo kw_419 (sv_recv8 C hj) ⟨Nat.le_of_ble_eq_true rfl, Nat.le_of_ble_eq_true rfl⟩ (Nat.le_of_ble_eq_true rfl) dX2_enter_52 ⟨Nat.zero_le _, Nat.zero_le _⟩  ?_
    refine sv_rv ?_
    refine sv_aload_n (i := 0) (x := sv_r G 8 j) C dX2_enter_55 rfl rfl ?_
    refine sv_dup C dX2_enter_56 rfl ?_
    refine sv_get_2_4 C hj kw_108 dX2_enter_57 ?_
    refine sv_set (v' := .int (nI m)) (congrArg Value.int (by simp only [sv_wu, sv_us, sv_uu]; rw [upd_n (by omega), upd_n (by omega), upd_n (by omega), upd_n (by omega)]; exact hm)) ?_
    refine sv_iconst (v := nI 1) C dX2_enter_60 (by decide) ?_
    refine sv_iadd C dX2_enter_61 ?_
    refine sv_set (v' := .int (nI (m + 1))) (congrArg Value.int (nI_add _ _)) ?_
    refine sv_put_2_4 C hj kw_108 dX2_enter_62 ?_
    refine sv_aload_n (i := 0) (x := sv_r G 8 j) C dX2_enter_65 rfl rfl ?_
    refine sv_dup C dX2_enter_66 rfl ?_
    refine sv_get_2_5 C hj kw_111 dX2_enter_67 ?_
    refine sv_topi (fun v67 e67 => ?_)
    refine sv_iconst (v := nI 1) C dX2_enter_70 (by decide) ?_
    refine sv_iadd C dX2_enter_71 ?_
    refine sv_topi (fun v71 e71 => ?_)
    refine sv_put_2_5 C hj kw_111 dX2_enter_72 ?_
    refine sv_iload (i := 4) (x := v15) C dX2_enter_75 rfl ?_
    exact sv_iret C hr dX2_enter_77 (Nat.le_of_ble_eq_true rfl) (Nat.le_of_ble_eq_true rfl) e15 (sv_eqW (by rw [e71, e67, e15]; simp only [sv_wu, sv_us, sv_uu]; unfold entv; simp only [upd_s, upd_n (show 5 ≠ 57 by decide), upd_n (show 5 ≠ 4 * m + 61 by omega), upd_n (show 5 ≠ 4 * m + 60 by omega), upd_n (show 5 ≠ 4 * m + 59 by omega), upd_n (show 5 ≠ 4 * m + 58 by omega)]; rfl))
  · exact absurd q9 (by omega)

set_option maxHeartbeats 4000000 in
set_option maxRecDepth 100000 in
theorem met_personNumber (l : Launch) (G : sv_G) (z : Nat) (M : sv_M) (o : Int64) (j f w9 : Nat) (hj : j < 8) (hf : f < 2147483648) (hw9 : w9 < 4) (m : Nat) (hm : M j 57 = nI m) (hm7 : m ≤ 7) : sv_Met l G yX2_personNumber cX2_personNumber 3 (some .int) 1 [.ref (sv_r G 8 j), .int (nI f), .int (nI w9)] (sv_W G z M o) (some (.int (if f < m then M j (4 * f + 58 + w9) else (-1)))) (sv_W G z M o) := by
  refine sv_ofW (by decide) kw_355 (Nat.le_of_ble_eq_true rfl) ?_
  intro p e s mth args below meth c hr C _
  refine sv_sub (lv' := [(0, .ref (sv_r G 8 j)), (1, .int (nI f)), (2, .int (nI w9))]) rfl ?_
  refine sv_iload_n (i := 1) (x := nI f) C dX2_personNumber_0 rfl rfl ?_
  refine sv_aload_n (i := 0) (x := sv_r G 8 j) C dX2_personNumber_1 rfl rfl ?_
  refine sv_get_2_4 C hj kw_108 dX2_personNumber_2 ?_
  refine sv_set (v' := .int (nI m)) (congrArg Value.int hm) ?_
  refine sv_icmp_ltN C 10 dX2_personNumber_5 (by decide) (by omega) (by omega) (fun q5 => ?_) (fun q5 => ?_)
  · refine sv_iload_n (i := 2) (x := nI w9) C dX2_personNumber_10 rfl rfl ?_
    rcases (show w9 = 0 ∨ w9 = 1 ∨ w9 = 2 ∨ w9 = 3 by omega) with rfl | rfl | rfl | rfl
    · refine sv_tableIn (off := 25) C 36 dX2_personNumber_11 (by decide) (by decide) (by decide) (by decide) ?_
      refine sv_aload_n (i := 0) (x := sv_r G 8 j) C dX2_personNumber_36 rfl rfl ?_
      refine sv_get_2_0 C hj kw_101 dX2_personNumber_37 ?_
      refine sv_iload_n (i := 1) (x := nI f) C dX2_personNumber_40 rfl rfl ?_
      refine sv_callN (as := [_, _]) (rest := []) C (met_atN j (4 * f + 58) rfl rfl (sv_okj (by decide) hj) rfl (by show _ < 7; omega)) fX5_at (host := "StairLight") kn_RX2_47 ⟨Nat.le_of_ble_eq_true rfl, Nat.le_of_ble_eq_true rfl⟩ (Nat.le_of_ble_eq_true rfl) dX2_personNumber_41 ⟨Nat.zero_le _, Nat.zero_le _⟩  ?_
      refine sv_ri (fun v41 e41 => ?_)
      exact sv_iret C hr dX2_personNumber_44 (Nat.le_of_ble_eq_true rfl) (Nat.le_of_ble_eq_true rfl) (by rw [e41, if_pos q5]) (fun _ h => h)
    · refine sv_tableIn (off := 34) C 45 dX2_personNumber_11 (by decide) (by decide) (by decide) (by decide) ?_
      refine sv_aload_n (i := 0) (x := sv_r G 8 j) C dX2_personNumber_45 rfl rfl ?_
      refine sv_get_2_1 C hj kw_102 dX2_personNumber_46 ?_
      refine sv_iload_n (i := 1) (x := nI f) C dX2_personNumber_49 rfl rfl ?_
      refine sv_callN (as := [_, _]) (rest := []) C (met_atN j (4 * f + 59) rfl rfl (sv_okj (by decide) hj) rfl (by show _ < 7; omega)) fX5_at (host := "StairLight") kn_RX2_47 ⟨Nat.le_of_ble_eq_true rfl, Nat.le_of_ble_eq_true rfl⟩ (Nat.le_of_ble_eq_true rfl) dX2_personNumber_50 ⟨Nat.zero_le _, Nat.zero_le _⟩  ?_
      refine sv_ri (fun v50 e50 => ?_)
      exact sv_iret C hr dX2_personNumber_53 (Nat.le_of_ble_eq_true rfl) (Nat.le_of_ble_eq_true rfl) (by rw [e50, if_pos q5]) (fun _ h => h)
    · refine sv_tableIn (off := 43) C 54 dX2_personNumber_11 (by decide) (by decide) (by decide) (by decide) ?_
      refine sv_aload_n (i := 0) (x := sv_r G 8 j) C dX2_personNumber_54 rfl rfl ?_
      refine sv_get_2_2 C hj kw_105 dX2_personNumber_55 ?_
      refine sv_iload_n (i := 1) (x := nI f) C dX2_personNumber_58 rfl rfl ?_
      refine sv_callN (as := [_, _]) (rest := []) C (met_atN j (4 * f + 60) rfl rfl (sv_okj (by decide) hj) rfl (by show _ < 7; omega)) fX5_at (host := "StairLight") kn_RX2_47 ⟨Nat.le_of_ble_eq_true rfl, Nat.le_of_ble_eq_true rfl⟩ (Nat.le_of_ble_eq_true rfl) dX2_personNumber_59 ⟨Nat.zero_le _, Nat.zero_le _⟩  ?_
      refine sv_ri (fun v59 e59 => ?_)
      exact sv_iret C hr dX2_personNumber_62 (Nat.le_of_ble_eq_true rfl) (Nat.le_of_ble_eq_true rfl) (by rw [e59, if_pos q5]) (fun _ h => h)
    · refine sv_tableOut C 63 dX2_personNumber_11 (Or.inr (by decide)) (by decide) ?_
      refine sv_aload_n (i := 0) (x := sv_r G 8 j) C dX2_personNumber_63 rfl rfl ?_
      refine sv_get_2_3 C hj kw_107 dX2_personNumber_64 ?_
      refine sv_iload_n (i := 1) (x := nI f) C dX2_personNumber_67 rfl rfl ?_
      refine sv_callN (as := [_, _]) (rest := []) C (met_atN j (4 * f + 61) rfl rfl (sv_okj (by decide) hj) rfl (by show _ < 7; omega)) fX5_at (host := "StairLight") kn_RX2_47 ⟨Nat.le_of_ble_eq_true rfl, Nat.le_of_ble_eq_true rfl⟩ (Nat.le_of_ble_eq_true rfl) dX2_personNumber_68 ⟨Nat.zero_le _, Nat.zero_le _⟩  ?_
      refine sv_ri (fun v68 e68 => ?_)
      exact sv_iret C hr dX2_personNumber_71 (Nat.le_of_ble_eq_true rfl) (Nat.le_of_ble_eq_true rfl) (by rw [e68, if_pos q5]) (fun _ h => h)
  · refine sv_iconst (v := (-1)) C dX2_personNumber_8 (by decide) ?_
    exact sv_iret C hr dX2_personNumber_9 (Nat.le_of_ble_eq_true rfl) (Nat.le_of_ble_eq_true rfl) (by rw [if_neg q5]) (fun _ h => h)
end
section
set_option maxHeartbeats 4000000 in
set_option maxRecDepth 100000 in
theorem met_letCome (l : Launch) (G : sv_G) (z : Nat) (M : sv_M) (o : Int64) (j : Nat) (hj : j < 8) (f t : Int32) (m : Nat) (hm : M j 57 = nI m) (hm6 : m < 7) : sv_Met l G yX3_letCome cX3_letCome 3 (some .int) 4 [.ref (sv_r G 0 j), .int f, .int t] (sv_W G z M o) (some (.int (M j 5))) (sv_W G z (sv_u M j (entv m f t (M j 3) (M j))) o) := by
  refine sv_ofW (by decide) kw_414 (Nat.le_of_ble_eq_true rfl) ?_
  intro p e s mth args below meth c hr C _
  refine sv_sub (lv' := [(0, .ref (sv_r G 0 j)), (1, .int f), (2, .int t)]) rfl ?_
  refine sv_aload_n (i := 0) (x := sv_r G 0 j) C dX3_letCome_0 rfl rfl ?_
  refine sv_get_3_1 C hj kw_133 dX3_letCome_1 ?_
  refine sv_iload_n (i := 1) (x := f) C dX3_letCome_4 rfl rfl ?_
  refine sv_iload_n (i := 2) (x := t) C dX3_letCome_5 rfl rfl ?_
  refine sv_aload_n (i := 0) (x := sv_r G 0 j) C dX3_letCome_6 rfl rfl ?_
  refine sv_get_3_2 C hj kw_135 dX3_letCome_7 ?_
  refine sv_iconst (v := nI 3) C dX3_letCome_10 (by decide) ?_
  refine sv_callN (as := [_, _]) (rest := [_, _, _]) C (met_atN j 3 rfl rfl (sv_okj (by decide) hj) rfl (by show _ < 4; omega)) fX5_at (host := "StairLight") kn_RX3_57 ⟨Nat.le_of_ble_eq_true rfl, Nat.le_of_ble_eq_true rfl⟩ (Nat.le_of_ble_eq_true rfl) dX3_letCome_11 ⟨Nat.zero_le _, Nat.zero_le _⟩  ?_
  refine sv_ri (fun v11 e11 => ?_)
  refine sv_callV (as := [_, _, _]) (rest := []) C (met_enter l G _ _ _ j hj f t v11 m hm hm6) fX2_enter kw_415 (sv_recv8 C hj) ⟨Nat.le_of_ble_eq_true rfl, Nat.le_of_ble_eq_true rfl⟩ (Nat.le_of_ble_eq_true rfl) dX3_letCome_14 ⟨Nat.zero_le _, Nat.zero_le _⟩  ?_
  refine sv_ri (fun v14 e14 => ?_)
  exact sv_iret C hr dX3_letCome_17 (Nat.le_of_ble_eq_true rfl) (Nat.le_of_ble_eq_true rfl) e14 (sv_eqW (by rw [e11]))

set_option maxHeartbeats 4000000 in
set_option maxRecDepth 100000 in
theorem met_switchOn (l : Launch) (G : sv_G) (z : Nat) (M : sv_M) (o : Int64) (j f : Nat) (hj : j < 8) (hf : f < 8) : sv_Met l G yX3_switchOn cX3_switchOn 2 none 3 [.ref (sv_r G 0 j), .int (nI f)] (sv_W G z M o) none (sv_W G z (sv_u M j (sw (M j 0) f (M j))) o) := by
  refine sv_ofW (by decide) kw_247 (Nat.le_of_ble_eq_true rfl) ?_
  intro p e s mth args below meth c hr C _
  refine sv_sub (lv' := [(0, .ref (sv_r G 0 j)), (1, .int (nI f))]) rfl ?_
  refine sv_aload_n (i := 0) (x := sv_r G 0 j) C dX3_switchOn_0 rfl rfl ?_
  refine sv_get_3_0 C hj kw_131 dX3_switchOn_1 ?_
  refine sv_iload_n (i := 1) (x := nI f) C dX3_switchOn_4 rfl rfl ?_
  refine sv_aload_n (i := 0) (x := sv_r G 0 j) C dX3_switchOn_5 rfl rfl ?_
  refine sv_get_3_2 C hj kw_135 dX3_switchOn_6 ?_
  refine sv_iconst (v := nI 0) C dX3_switchOn_9 (by decide) ?_
  refine sv_callN (as := [_, _]) (rest := [_, _]) C (met_atN j 0 rfl rfl (sv_okj (by decide) hj) rfl (by show _ < 4; omega)) fX5_at (host := "StairLight") kn_RX3_57 ⟨Nat.le_of_ble_eq_true rfl, Nat.le_of_ble_eq_true rfl⟩ (Nat.le_of_ble_eq_true rfl) dX3_switchOn_10 ⟨Nat.zero_le _, Nat.zero_le _⟩  ?_
  refine sv_ri (fun v10 e10 => ?_)
  refine sv_callV (as := [_, _]) (rest := []) C (met_letBurn l G _ _ _ j f hj (by omega) v10) fX0_letBurn kw_251 (sv_recv1 C hj) ⟨Nat.le_of_ble_eq_true rfl, Nat.le_of_ble_eq_true rfl⟩ (Nat.le_of_ble_eq_true rfl) dX3_switchOn_13 ⟨Nat.zero_le _, Nat.zero_le _⟩  ?_
  refine sv_rv ?_
  exact sv_vret C hr dX3_switchOn_16 (Nat.le_of_ble_eq_true rfl) (Nat.le_of_ble_eq_true rfl) (sv_eqW (by rw [e10]))

set_option maxHeartbeats 4000000 in
set_option maxRecDepth 100000 in
theorem met_switchOnO (l : Launch) (G : sv_G) (z : Nat) (M : sv_M) (o : Int64) (j : Nat) (hj : j < 8) (f : Int32) (hf : f < 0 ∨ nI 8 ≤ f) : sv_Met l G yX3_switchOn cX3_switchOn 2 none 3 [.ref (sv_r G 0 j), .int f] (sv_W G z M o) none (sv_W G z M o) := by
  refine sv_ofW (by decide) kw_247 (Nat.le_of_ble_eq_true rfl) ?_
  intro p e s mth args below meth c hr C _
  refine sv_sub (lv' := [(0, .ref (sv_r G 0 j)), (1, .int f)]) rfl ?_
  refine sv_aload_n (i := 0) (x := sv_r G 0 j) C dX3_switchOn_0 rfl rfl ?_
  refine sv_get_3_0 C hj kw_131 dX3_switchOn_1 ?_
  refine sv_iload_n (i := 1) (x := f) C dX3_switchOn_4 rfl rfl ?_
  refine sv_aload_n (i := 0) (x := sv_r G 0 j) C dX3_switchOn_5 rfl rfl ?_
  refine sv_get_3_2 C hj kw_135 dX3_switchOn_6 ?_
  refine sv_iconst (v := nI 0) C dX3_switchOn_9 (by decide) ?_
  refine sv_callN (as := [_, _]) (rest := [_, _]) C (met_atN j 0 rfl rfl (sv_okj (by decide) hj) rfl (by show _ < 4; omega)) fX5_at (host := "StairLight") kn_RX3_57 ⟨Nat.le_of_ble_eq_true rfl, Nat.le_of_ble_eq_true rfl⟩ (Nat.le_of_ble_eq_true rfl) dX3_switchOn_10 ⟨Nat.zero_le _, Nat.zero_le _⟩  ?_
  refine sv_ri (fun v10 e10 => ?_)
  refine sv_callV (as := [_, _]) (rest := []) C (met_letBurnO l G _ _ _ j hj f v10 hf) fX0_letBurn kw_251 (sv_recv1 C hj) ⟨Nat.le_of_ble_eq_true rfl, Nat.le_of_ble_eq_true rfl⟩ (Nat.le_of_ble_eq_true rfl) dX3_switchOn_13 ⟨Nat.zero_le _, Nat.zero_le _⟩  ?_
  refine sv_rv ?_
  exact sv_vret C hr dX3_switchOn_16 (Nat.le_of_ble_eq_true rfl) (Nat.le_of_ble_eq_true rfl) (fun _ h => h)

theorem met_switchOnI (l : Launch) (G : sv_G) (z : Nat) (M : sv_M) (o : Int64) (j : Nat) (hj : j < 8) (f : Int32) : sv_Met l G yX3_switchOn cX3_switchOn 2 none 3 [.ref (sv_r G 0 j), .int f] (sv_W G z M o) none (sv_W G z (sv_u M j (swI (M j 0) f (M j))) o) := by
  by_cases hf : f < 0 ∨ nI 8 ≤ f
  · rw [swI_o hf, sv_ui]
    exact met_switchOnO l G z M o j hj f hf
  · rcases pk_ix f (n := 8) (by decide) with h | h | ⟨g, hg, rfl⟩
    · exact absurd (Or.inl h) hf
    · exact absurd (Or.inr h) hf
    · rw [swI_N hg]
      exact met_switchOn l G z M o j g hj hg
theorem fosw_o {T : Int32} {x : vX} {k : Nat} (h : k < 9 ∨ 57 ≤ k) : ∀ n, n ≤ 8 → fo (sw T) n x k = x k
  | 0, _ => rfl
  | n + 1, hn => (sw_o (by omega) (by omega)).trans (fosw_o h n (by omega))
set_option maxHeartbeats 4000000 in
set_option maxRecDepth 100000 in
theorem met_switchAllOn (l : Launch) (G : sv_G) (z : Nat) (M : sv_M) (o : Int64) (j : Nat) (hj : j < 8) : sv_Met l G yX3_switchAllOn cX3_switchAllOn 2 none 4 [.ref (sv_r G 0 j)] (sv_W G z M o) none (sv_W G z (sv_u M j (fo (sw (M j 0)) 8 (M j))) o) := by
  refine sv_ofW (by decide) kw_243 (Nat.le_of_ble_eq_true rfl) ?_
  intro p e s mth args below meth c hr C _
  refine sv_sub (lv' := [(0, .ref (sv_r G 0 j))]) rfl ?_
  refine sv_iconst (v := nI 0) C dX3_switchAllOn_0 (by decide) ?_
  refine sv_istore_n (i := 1) C [(0, .ref (sv_r G 0 j)), (1, .int (nI 0))] dX3_switchAllOn_1 rfl (by decide) rfl ?_
  refine sv_wd (sv_eqW (sv_ui _ j).symm) ?_
  refine sv_loop (N := 8) (I := fun _ => True) (Wf := fun i => sv_W G z (sv_u M j (fo (sw (M j 0)) i (M j))) o) (Lf := fun i => [(0, .ref (sv_r G 0 j)), (1, .int (nI i))]) 0 (Nat.zero_le _) trivial (fun i hi0 hi hI ih => ?_)
  refine sv_iload_n (i := 1) (x := nI i) C dX3_switchAllOn_2 rfl rfl ?_
  refine sv_bipush (v := nI 8) C dX3_switchAllOn_3 (by decide) ?_
  refine sv_icmp_geN C 19 dX3_switchAllOn_5 (by decide) (by omega) (by omega) (fun q5 => ?_) (fun q5 => ?_)
  · exact sv_vret C hr dX3_switchAllOn_19 (Nat.le_of_ble_eq_true rfl) (Nat.le_of_ble_eq_true rfl) (sv_eqW (by rw [show i = 8 from by omega]))
  · refine sv_aload_n (i := 0) (x := sv_r G 0 j) C dX3_switchAllOn_8 rfl rfl ?_
    refine sv_iload_n (i := 1) (x := nI i) C dX3_switchAllOn_9 rfl rfl ?_
    refine sv_callV (as := [_]) (rest := []) C (met_switchOn l G _ _ _ j i hj (by omega)) fX3_switchOn kw_244 (sv_recv0 C hj) ⟨Nat.le_of_ble_eq_true rfl, Nat.le_of_ble_eq_true rfl⟩ (Nat.le_of_ble_eq_true rfl) dX3_switchAllOn_10 ⟨Nat.zero_le _, Nat.zero_le _⟩  ?_
    refine sv_rv ?_
    refine sv_iinc (i := 1) (x := nI i) C (nI (i + 1)) [(0, .ref (sv_r G 0 j)), (1, .int (nI (i + 1)))] dX3_switchAllOn_13 rfl (sv_incN i 1) (by decide) rfl ?_
    refine sv_goto C 2 dX3_switchAllOn_16 (by decide) ?_
    refine sv_wd (sv_eqW ?_) (ih (by omega) trivial)
    rw [sv_us, sv_uu, fo_succ, fosw_o (Or.inl (by decide)) i (by omega)]

theorem lampv_f {x : vX} {f : Nat} (h : x 7 = 1) : lampv x f = 3 := if_pos h
theorem lampv_0 {x : vX} {f : Nat} (h : ¬ x 7 = 1) (h2 : x (6 * f + 9) = 0) : lampv x f = x 6 := by unfold lampv; rw [if_neg h, if_pos h2]
theorem lampv_2 {x : vX} {f : Nat} (h : ¬ x 7 = 1) (h2 : ¬ x (6 * f + 9) = 0) (h3 : x (6 * f + 9) ≤ x 1) : lampv x f = 2 := by unfold lampv; rw [if_neg h, if_neg h2, if_pos h3]
theorem lampv_3 {x : vX} {f : Nat} (h : ¬ x 7 = 1) (h2 : ¬ x (6 * f + 9) = 0) (h3 : ¬ x (6 * f + 9) ≤ x 1) : lampv x f = 3 := by unfold lampv; rw [if_neg h, if_neg h2, if_neg h3]
theorem bne {v w : Int32} (e : v = w) (h : v = 0) : ¬ w = 1 := by subst e; rw [h]; decide
theorem beq1 {v w : Int32} (e : v = w) (b : w = 0 ∨ w = 1) (h : ¬ v = 0) : w = 1 := by subst e; exact b.resolve_left h
set_option maxHeartbeats 4000000 in
set_option maxRecDepth 100000 in
theorem met_lampOf (l : Launch) (G : sv_G) (z : Nat) (M : sv_M) (o : Int64) (j f : Nat) (hj : j < 8) (hf : f < 8) (b6 : M j 6 = 0 ∨ M j 6 = 1) (b7 : M j 7 = 0 ∨ M j 7 = 1) : sv_Met l G yX3_lampOf cX3_lampOf 3 (some .int) 1 [.ref (sv_r G 0 j), .int (nI f)] (sv_W G z M o) (some (.int (lampv (M j) f))) (sv_W G z M o) := by
  refine sv_ofW (by decide) kw_329 (Nat.le_of_ble_eq_true rfl) ?_
  intro p e s mth args below meth c hr C _
  refine sv_sub (lv' := [(0, .ref (sv_r G 0 j)), (1, .int (nI f))]) rfl ?_
  refine sv_aload_n (i := 0) (x := sv_r G 0 j) C dX3_lampOf_0 rfl rfl ?_
  refine sv_get_3_4 C hj kw_139 dX3_lampOf_1 ?_
  refine sv_topi (fun v1 e1 => ?_)
  refine sv_if_eq C 9 dX3_lampOf_4 (by decide) (fun q4 => ?_) (fun q4 => ?_)
  · refine sv_aload_n (i := 0) (x := sv_r G 0 j) C dX3_lampOf_9 rfl rfl ?_
    refine sv_get_3_0 C hj kw_131 dX3_lampOf_10 ?_
    refine sv_get_0_0 C hj kw_66 dX3_lampOf_13 ?_
    refine sv_iload_n (i := 1) (x := nI f) C dX3_lampOf_16 rfl rfl ?_
    refine sv_callN (as := [_, _]) (rest := []) C (met_atN j (6 * f + 9) rfl rfl (sv_okj (by decide) hj) rfl (by show _ < 8; omega)) fX5_at (host := "StairLight") kn_RX3_57 ⟨Nat.le_of_ble_eq_true rfl, Nat.le_of_ble_eq_true rfl⟩ (Nat.le_of_ble_eq_true rfl) dX3_lampOf_17 ⟨Nat.zero_le _, Nat.zero_le _⟩  ?_
    refine sv_ri (fun v17 e17 => ?_)
    refine sv_istore_n (i := 2) C [(0, .ref (sv_r G 0 j)), (1, .int (nI f)), (2, .int v17)] dX3_lampOf_20 rfl (by decide) rfl ?_
    refine sv_iload_n (i := 2) (x := v17) C dX3_lampOf_21 rfl rfl ?_
    refine sv_if_ne C 38 dX3_lampOf_22 (by decide) (fun q22 => ?_) (fun q22 => ?_)
    · refine sv_iload_n (i := 2) (x := v17) C dX3_lampOf_38 rfl rfl ?_
      refine sv_aload_n (i := 0) (x := sv_r G 0 j) C dX3_lampOf_39 rfl rfl ?_
      refine sv_get_3_2 C hj kw_135 dX3_lampOf_40 ?_
      refine sv_iconst (v := nI 1) C dX3_lampOf_43 (by decide) ?_
      refine sv_callN (as := [_, _]) (rest := [_]) C (met_atN j 1 rfl rfl (sv_okj (by decide) hj) rfl (by show _ < 4; omega)) fX5_at (host := "StairLight") kn_RX3_57 ⟨Nat.le_of_ble_eq_true rfl, Nat.le_of_ble_eq_true rfl⟩ (Nat.le_of_ble_eq_true rfl) dX3_lampOf_44 ⟨Nat.zero_le _, Nat.zero_le _⟩  ?_
      refine sv_ri (fun v44 e44 => ?_)
      refine sv_icmp_gt C 54 dX3_lampOf_47 (by decide) (fun q47 => ?_) (fun q47 => ?_)
      · refine sv_iconst (v := nI 3) C dX3_lampOf_54 (by decide) ?_
        exact sv_iret C hr dX3_lampOf_55 (Nat.le_of_ble_eq_true rfl) (Nat.le_of_ble_eq_true rfl) (by rw [lampv_3 (bne e1 q4) (fun h => q22 (e17.trans h)) (fun h => absurd q47 (Int32.not_lt.mpr (by rw [e17, e44]; exact h)))]; rfl) (fun _ h => h)
      · refine sv_iconst (v := nI 2) C dX3_lampOf_50 (by decide) ?_
        refine sv_goto C 55 dX3_lampOf_51 (by decide) ?_
        exact sv_iret C hr dX3_lampOf_55 (Nat.le_of_ble_eq_true rfl) (Nat.le_of_ble_eq_true rfl) (by rw [lampv_2 (bne e1 q4) (fun h => q22 (e17.trans h)) (by rw [← e17, ← e44]; exact Int32.not_lt.mp q47)]; rfl) (fun _ h => h)
    · refine sv_aload_n (i := 0) (x := sv_r G 0 j) C dX3_lampOf_25 rfl rfl ?_
      refine sv_get_3_3 C hj kw_137 dX3_lampOf_26 ?_
      refine sv_topi (fun v26 e26 => ?_)
      refine sv_if_eq C 36 dX3_lampOf_29 (by decide) (fun q29 => ?_) (fun q29 => ?_)
      · refine sv_iconst (v := nI 0) C dX3_lampOf_36 (by decide) ?_
        exact sv_iret C hr dX3_lampOf_37 (Nat.le_of_ble_eq_true rfl) (Nat.le_of_ble_eq_true rfl) (by rw [lampv_0 (bne e1 q4) (e17.symm.trans q22)]; exact (e26.symm.trans q29).symm) (fun _ h => h)
      · refine sv_iconst (v := nI 1) C dX3_lampOf_32 (by decide) ?_
        refine sv_goto C 37 dX3_lampOf_33 (by decide) ?_
        exact sv_iret C hr dX3_lampOf_37 (Nat.le_of_ble_eq_true rfl) (Nat.le_of_ble_eq_true rfl) (by rw [lampv_0 (bne e1 q4) (e17.symm.trans q22)]; exact (beq1 e26 b6 q29).symm) (fun _ h => h)
  · refine sv_iconst (v := nI 3) C dX3_lampOf_7 (by decide) ?_
    exact sv_iret C hr dX3_lampOf_8 (Nat.le_of_ble_eq_true rfl) (Nat.le_of_ble_eq_true rfl) (by rw [lampv_f (beq1 e1 b7 q4)]; rfl) (fun _ h => h)

set_option maxHeartbeats 4000000 in
set_option maxRecDepth 100000 in
theorem met_lampsBurning (l : Launch) (G : sv_G) (z : Nat) (M : sv_M) (o : Int64) (j : Nat) (hj : j < 8) (b6 : M j 6 = 0 ∨ M j 6 = 1) (b7 : M j 7 = 0 ∨ M j 7 = 1) : sv_Met l G yX3_lampsBurning cX3_lampsBurning 3 (some .int) 2 [.ref (sv_r G 0 j)] (sv_W G z M o) (some (.int (litI (M j) 8))) (sv_W G z M o) := by
  refine sv_ofW (by decide) kw_325 (Nat.le_of_ble_eq_true rfl) ?_
  intro p e s mth args below meth c hr C _
  refine sv_sub (lv' := [(0, .ref (sv_r G 0 j))]) rfl ?_
  refine sv_iconst (v := nI 0) C dX3_lampsBurning_0 (by decide) ?_
  refine sv_istore_n (i := 1) C [(0, .ref (sv_r G 0 j)), (1, .int (nI 0))] dX3_lampsBurning_1 rfl (by decide) rfl ?_
  refine sv_iconst (v := nI 0) C dX3_lampsBurning_2 (by decide) ?_
  refine sv_istore_n (i := 2) C [(0, .ref (sv_r G 0 j)), (1, .int (nI 0)), (2, .int (nI 0))] dX3_lampsBurning_3 rfl (by decide) rfl ?_
  refine sv_loop (N := 8) (I := fun _ => True) (Wf := fun i => sv_W G z M o) (Lf := fun i => [(0, .ref (sv_r G 0 j)), (1, .int (litI (M j) i)), (2, .int (nI i))]) 0 (Nat.zero_le _) trivial (fun i hi0 hi hI ih => ?_)
  refine sv_iload_n (i := 2) (x := nI i) C dX3_lampsBurning_4 rfl rfl ?_
  refine sv_bipush (v := nI 8) C dX3_lampsBurning_5 (by decide) ?_
  refine sv_icmp_geN C 28 dX3_lampsBurning_7 (by decide) (by omega) (by omega) (fun q7 => ?_) (fun q7 => ?_)
  · refine sv_iload_n (i := 1) (x := litI (M j) i) C dX3_lampsBurning_28 rfl rfl ?_
    exact sv_iret C hr dX3_lampsBurning_29 (Nat.le_of_ble_eq_true rfl) (Nat.le_of_ble_eq_true rfl) (by rw [show i = 8 from by omega]) (fun _ h => h)
  · refine sv_aload_n (i := 0) (x := sv_r G 0 j) C dX3_lampsBurning_10 rfl rfl ?_
    refine sv_iload_n (i := 2) (x := nI i) C dX3_lampsBurning_11 rfl rfl ?_
    refine sv_callV (as := [_]) (rest := []) C (met_lampOf l G _ _ _ j i hj (by omega) b6 b7) fX3_lampOf kw_326 (sv_recv0 C hj) ⟨Nat.le_of_ble_eq_true rfl, Nat.le_of_ble_eq_true rfl⟩ (Nat.le_of_ble_eq_true rfl) dX3_lampsBurning_12 ⟨Nat.zero_le _, Nat.zero_le _⟩  ?_
    refine sv_ri (fun v12 e12 => ?_)
    refine sv_iconst (v := nI 2) C dX3_lampsBurning_15 (by decide) ?_
    refine sv_icmp_lt C 22 dX3_lampsBurning_16 (by decide) (fun q16 => ?_) (fun q16 => ?_)
    · have q16 : v12 < 2 := q16
      refine sv_iinc (i := 2) (x := nI i) C (nI (i + 1)) [(0, .ref (sv_r G 0 j)), (1, .int (litI (M j) i)), (2, .int (nI (i + 1)))] dX3_lampsBurning_22 rfl (sv_incN i 1) (by decide) rfl ?_
      refine sv_goto C 4 dX3_lampsBurning_25 (by decide) ?_
      rw [show litI (M j) i = litI (M j) (i + 1) from by show _ = litI (M j) i + _; rw [if_pos (e12 ▸ q16)]; exact (Int32.add_zero _).symm]
      exact ih (by omega) trivial
    · have q16 : ¬ v12 < 2 := q16
      obtain ⟨v19, e19⟩ : ∃ y : Int32, y = litI (M j) i + Int32.ofInt (1) := ⟨_, rfl⟩
      refine sv_iinc (i := 1) (x := litI (M j) i) C v19 [(0, .ref (sv_r G 0 j)), (1, .int v19), (2, .int (nI i))] dX3_lampsBurning_19 rfl e19.symm (by decide) rfl ?_
      refine sv_iinc (i := 2) (x := nI i) C (nI (i + 1)) [(0, .ref (sv_r G 0 j)), (1, .int v19), (2, .int (nI (i + 1)))] dX3_lampsBurning_22 rfl (sv_incN i 1) (by decide) rfl ?_
      refine sv_goto C 4 dX3_lampsBurning_25 (by decide) ?_
      rw [show v19 = litI (M j) (i + 1) from by rw [e19]; show _ = litI (M j) i + _; rw [if_neg (e12 ▸ q16)]; rfl]
      exact ih (by omega) trivial

theorem swI_k0 {T f : Int32} {x : vX} : swI T f x 0 = x 0 := by
  unfold swI
  split
  · rfl
  · exact sw_o (by omega) (by omega)
set_option maxHeartbeats 4000000 in
set_option maxRecDepth 100000 in
theorem met_switchOnAround (l : Launch) (G : sv_G) (z : Nat) (M : sv_M) (o : Int64) (j f : Nat) (hj : j < 8) (hf : f < 8) : sv_Met l G yX3_switchOnAround cX3_switchOnAround 2 none 4 [.ref (sv_r G 0 j), .int (nI f)] (sv_W G z M o) none (sv_W G z (sv_u M j (arnd f (M j))) o) := by
  refine sv_ofW (by decide) kw_390 (Nat.le_of_ble_eq_true rfl) ?_
  intro p e s mth args below meth c hr C _
  refine sv_sub (lv' := [(0, .ref (sv_r G 0 j)), (1, .int (nI f))]) rfl ?_
  refine sv_aload_n (i := 0) (x := sv_r G 0 j) C dX3_switchOnAround_0 rfl rfl ?_
  refine sv_iload_n (i := 1) (x := nI f) C dX3_switchOnAround_1 rfl rfl ?_
  refine sv_callV (as := [_]) (rest := []) C (met_switchOn l G _ _ _ j f hj (by omega)) fX3_switchOn kw_244 (sv_recv0 C hj) ⟨Nat.le_of_ble_eq_true rfl, Nat.le_of_ble_eq_true rfl⟩ (Nat.le_of_ble_eq_true rfl) dX3_switchOnAround_2 ⟨Nat.zero_le _, Nat.zero_le _⟩  ?_
  refine sv_rv ?_
  refine sv_aload_n (i := 0) (x := sv_r G 0 j) C dX3_switchOnAround_5 rfl rfl ?_
  refine sv_get_3_2 C hj kw_135 dX3_switchOnAround_6 ?_
  refine sv_iconst (v := nI 2) C dX3_switchOnAround_9 (by decide) ?_
  refine sv_callN (as := [_, _]) (rest := []) C (met_atN j 2 rfl rfl (sv_okj (by decide) hj) rfl (by show _ < 4; omega)) fX5_at (host := "StairLight") kn_RX3_57 ⟨Nat.le_of_ble_eq_true rfl, Nat.le_of_ble_eq_true rfl⟩ (Nat.le_of_ble_eq_true rfl) dX3_switchOnAround_10 ⟨Nat.zero_le _, Nat.zero_le _⟩  ?_
  refine sv_ri (fun v10 e10 => ?_)
  have e10 : v10 = M j 2 := by rw [e10, sv_us, sw_o (by omega) (by omega)]
  refine sv_iconst (v := nI 1) C dX3_switchOnAround_13 (by decide) ?_
  refine sv_icmp_ne C 31 dX3_switchOnAround_14 (by decide) (fun q14 => ?_) (fun q14 => ?_)
  · exact sv_vret C hr dX3_switchOnAround_31 (Nat.le_of_ble_eq_true rfl) (Nat.le_of_ble_eq_true rfl) (sv_eqW (by rw [arnd_eq hf, if_neg (show ¬ M j 2 = 1 from fun h => q14 (e10.trans h))]))
  · refine sv_aload_n (i := 0) (x := sv_r G 0 j) C dX3_switchOnAround_17 rfl rfl ?_
    refine sv_iload_n (i := 1) (x := nI f) C dX3_switchOnAround_18 rfl rfl ?_
    refine sv_iconst (v := nI 1) C dX3_switchOnAround_19 (by decide) ?_
    refine sv_isub C dX3_switchOnAround_20 ?_
    refine sv_set (v' := .int (nI f - 1)) (congrArg Value.int rfl) ?_
    refine sv_callV (as := [_]) (rest := []) C (met_switchOnI l G _ _ _ j hj (nI f - 1)) fX3_switchOn kw_244 (sv_recv0 C hj) ⟨Nat.le_of_ble_eq_true rfl, Nat.le_of_ble_eq_true rfl⟩ (Nat.le_of_ble_eq_true rfl) dX3_switchOnAround_21 ⟨Nat.zero_le _, Nat.zero_le _⟩  ?_
    refine sv_rv ?_
    refine sv_aload_n (i := 0) (x := sv_r G 0 j) C dX3_switchOnAround_24 rfl rfl ?_
    refine sv_iload_n (i := 1) (x := nI f) C dX3_switchOnAround_25 rfl rfl ?_
    refine sv_iconst (v := nI 1) C dX3_switchOnAround_26 (by decide) ?_
    refine sv_iadd C dX3_switchOnAround_27 ?_
    refine sv_set (v' := .int (nI f + 1)) (congrArg Value.int rfl) ?_
    refine sv_callV (as := [_]) (rest := []) C (met_switchOnI l G _ _ _ j hj (nI f + 1)) fX3_switchOn kw_244 (sv_recv0 C hj) ⟨Nat.le_of_ble_eq_true rfl, Nat.le_of_ble_eq_true rfl⟩ (Nat.le_of_ble_eq_true rfl) dX3_switchOnAround_28 ⟨Nat.zero_le _, Nat.zero_le _⟩  ?_
    refine sv_rv ?_
    exact sv_vret C hr dX3_switchOnAround_31 (Nat.le_of_ble_eq_true rfl) (Nat.le_of_ble_eq_true rfl) (sv_eqW (by rw [arnd_eq hf, if_pos (show M j 2 = 1 from e10.symm.trans q14)]; simp only [sv_us, sv_uu]; rw [sw_o (show 0 ≠ 6 * f + 9 by omega) (by omega), swI_k0, sw_o (show 0 ≠ 6 * f + 9 by omega) (by omega)]))

set_option maxHeartbeats 4000000 in
set_option maxRecDepth 100000 in
theorem met_beginSecond (l : Launch) (G : sv_G) (z : Nat) (M : sv_M) (o : Int64) (j : Nat) (hj : j < 8) (m : Nat) (hm : M j 57 = nI m) (hm7 : m ≤ 7) : sv_Met l G yX3_beginSecond cX3_beginSecond 2 none 5 [.ref (sv_r G 0 j)] (sv_W G z M o) none (sv_W G z (sv_u M j (beginv m (M j))) o) := by
  refine sv_ofW (by decide) kw_368 (Nat.le_of_ble_eq_true rfl) ?_
  intro p e s mth args below meth c hr C _
  refine sv_sub (lv' := [(0, .ref (sv_r G 0 j))]) rfl ?_
  refine sv_aload_n (i := 0) (x := sv_r G 0 j) C dX3_beginSecond_0 rfl rfl ?_
  refine sv_get_3_1 C hj kw_133 dX3_beginSecond_1 ?_
  refine sv_aload_n (i := 0) (x := sv_r G 0 j) C dX3_beginSecond_4 rfl rfl ?_
  refine sv_get_3_2 C hj kw_135 dX3_beginSecond_5 ?_
  refine sv_iconst (v := nI 3) C dX3_beginSecond_8 (by decide) ?_
  refine sv_callN (as := [_, _]) (rest := [_]) C (met_atN j 3 rfl rfl (sv_okj (by decide) hj) rfl (by show _ < 4; omega)) fX5_at (host := "StairLight") kn_RX3_57 ⟨Nat.le_of_ble_eq_true rfl, Nat.le_of_ble_eq_true rfl⟩ (Nat.le_of_ble_eq_true rfl) dX3_beginSecond_9 ⟨Nat.zero_le _, Nat.zero_le _⟩  ?_
  refine sv_ri (fun v9 e9 => ?_)
  refine sv_callV (as := [_]) (rest := []) C (met_goOn l G _ _ _ j hj v9 m hm hm7) fX2_goOn kw_369 (sv_recv8 C hj) ⟨Nat.le_of_ble_eq_true rfl, Nat.le_of_ble_eq_true rfl⟩ (Nat.le_of_ble_eq_true rfl) dX3_beginSecond_12 ⟨Nat.zero_le _, Nat.zero_le _⟩  ?_
  refine sv_rv ?_
  have hle := goS_le (M j 3) (M j) m
  rw [e9]
  refine sv_iconst (v := nI 0) C dX3_beginSecond_15 (by decide) ?_
  refine sv_istore_n (i := 1) C [(0, .ref (sv_r G 0 j)), (1, .int (nI 0))] dX3_beginSecond_16 rfl (by decide) rfl ?_
  refine sv_loop (N := 8) (I := fun _ => True) (Wf := fun i => sv_W G z (sv_u M j (fo (la (goS (M j 3) m (M j)).2) i (goOnv (M j 3) m (M j)))) o) (Lf := fun i => [(0, .ref (sv_r G 0 j)), (1, .int (nI i))]) 0 (Nat.zero_le _) trivial (fun i hi0 hi hI ih => ?_)
  refine sv_iload_n (i := 1) (x := nI i) C dX3_beginSecond_17 rfl rfl ?_
  refine sv_bipush (v := nI 8) C dX3_beginSecond_18 (by decide) ?_
  refine sv_icmp_geN C 60 dX3_beginSecond_20 (by decide) (by omega) (by omega) (fun q20 => ?_) (fun q20 => ?_)
  · exact sv_vret C hr dX3_beginSecond_60 (Nat.le_of_ble_eq_true rfl) (Nat.le_of_ble_eq_true rfl) (sv_eqW (by rw [show i = 8 from by omega]; rfl))
  · refine sv_aload_n (i := 0) (x := sv_r G 0 j) C dX3_beginSecond_23 rfl rfl ?_
    refine sv_get_3_0 C hj kw_131 dX3_beginSecond_24 ?_
    refine sv_get_0_1 C hj kw_69 dX3_beginSecond_27 ?_
    refine sv_iload_n (i := 1) (x := nI i) C dX3_beginSecond_30 rfl rfl ?_
    refine sv_callN (as := [_, _]) (rest := []) C (met_atN j (6 * i + 10) rfl rfl (sv_okj (by decide) hj) rfl (by show _ < 8; omega)) fX5_at (host := "StairLight") kn_RX3_57 ⟨Nat.le_of_ble_eq_true rfl, Nat.le_of_ble_eq_true rfl⟩ (Nat.le_of_ble_eq_true rfl) dX3_beginSecond_31 ⟨Nat.zero_le _, Nat.zero_le _⟩  ?_
    refine sv_ri (fun v31 e31 => ?_)
    rw [sv_us] at e31
    refine sv_iconst (v := nI 1) C dX3_beginSecond_34 (by decide) ?_
    refine sv_icmp_ne C 54 dX3_beginSecond_35 (by decide) (fun q35 => ?_) (fun q35 => ?_)
    · have q35 : ¬ v31 = 1 := q35
      refine sv_iinc (i := 1) (x := nI i) C (nI (i + 1)) [(0, .ref (sv_r G 0 j)), (1, .int (nI (i + 1)))] dX3_beginSecond_54 rfl (sv_incN i 1) (by decide) rfl ?_
      refine sv_goto C 17 dX3_beginSecond_57 (by decide) ?_
      have hn : fo (la (goS (M j 3) m (M j)).2) (i + 1) (goOnv (M j 3) m (M j)) = fo (la (goS (M j 3) m (M j)).2) i (goOnv (M j 3) m (M j)) := if_neg (fun h => q35 (e31.trans h.1))
      have h9 := ih (by omega) trivial
      rw [hn] at h9
      exact h9
    · have q35 : v31 = 1 := q35
      refine sv_aload_n (i := 0) (x := sv_r G 0 j) C dX3_beginSecond_38 rfl rfl ?_
      refine sv_get_3_1 C hj kw_133 dX3_beginSecond_39 ?_
      refine sv_iload_n (i := 1) (x := nI i) C dX3_beginSecond_42 rfl rfl ?_
      refine sv_callV (as := [_]) (rest := []) C (met_peopleOn l G _ _ _ j hj (nI i) (goS (M j 3) m (M j)).2 (by rw [sv_us, fola_o (Or.inr (by decide)) i (by omega)]; exact upd_s _ _ _) (by omega)) fX2_peopleOn kw_343 (sv_recv8 C hj) ⟨Nat.le_of_ble_eq_true rfl, Nat.le_of_ble_eq_true rfl⟩ (Nat.le_of_ble_eq_true rfl) dX3_beginSecond_43 ⟨Nat.zero_le _, Nat.zero_le _⟩  ?_
      refine sv_ri (fun v43 e43 => ?_)
      rw [sv_us] at e43
      refine sv_if_le C 54 dX3_beginSecond_46 (by decide) (fun q46 => ?_) (fun q46 => ?_)
      · refine sv_iinc (i := 1) (x := nI i) C (nI (i + 1)) [(0, .ref (sv_r G 0 j)), (1, .int (nI (i + 1)))] dX3_beginSecond_54 rfl (sv_incN i 1) (by decide) rfl ?_
        refine sv_goto C 17 dX3_beginSecond_57 (by decide) ?_
        have hn : fo (la (goS (M j 3) m (M j)).2) (i + 1) (goOnv (M j 3) m (M j)) = fo (la (goS (M j 3) m (M j)).2) i (goOnv (M j 3) m (M j)) := if_neg (fun h => absurd h.2 (Int32.not_lt.mpr (e43 ▸ q46)))
        have h9 := ih (by omega) trivial
        rw [hn] at h9
        exact h9
      · refine sv_aload_n (i := 0) (x := sv_r G 0 j) C dX3_beginSecond_49 rfl rfl ?_
        refine sv_iload_n (i := 1) (x := nI i) C dX3_beginSecond_50 rfl rfl ?_
        refine sv_callV (as := [_]) (rest := []) C (met_switchOnAround l G _ _ _ j i hj (by omega)) fX3_switchOnAround kw_387 (sv_recv0 C hj) ⟨Nat.le_of_ble_eq_true rfl, Nat.le_of_ble_eq_true rfl⟩ (Nat.le_of_ble_eq_true rfl) dX3_beginSecond_51 ⟨Nat.zero_le _, Nat.zero_le _⟩  ?_
        refine sv_rv ?_
        refine sv_iinc (i := 1) (x := nI i) C (nI (i + 1)) [(0, .ref (sv_r G 0 j)), (1, .int (nI (i + 1)))] dX3_beginSecond_54 rfl (sv_incN i 1) (by decide) rfl ?_
        refine sv_goto C 17 dX3_beginSecond_57 (by decide) ?_
        have hn : fo (la (goS (M j 3) m (M j)).2) (i + 1) (goOnv (M j 3) m (M j)) = arnd i (fo (la (goS (M j 3) m (M j)).2) i (goOnv (M j 3) m (M j))) := if_pos ⟨by exact e31.symm.trans q35, by exact e43 ▸ Int32.not_le.mp q46⟩
        refine sv_wd (sv_eqW ?_) (ih (by omega) trivial)
        rw [sv_us, sv_uu, hn]

set_option maxHeartbeats 4000000 in
set_option maxRecDepth 100000 in
theorem met_powerOf (l : Launch) (G : sv_G) (Wd : Heap → Prop) (x : Int32) : sv_Met l G yX3_powerOf cX3_powerOf 1 (some .int) 0 [.int x] Wd (some (.int (powv x))) Wd := by
  refine sv_ofW (by decide) kw_402 (Nat.le_of_ble_eq_true rfl) ?_
  intro p e s mth args below meth c hr C _
  refine sv_sub (lv' := [(0, .int x)]) rfl ?_
  refine sv_iload_n (i := 0) (x := x) C dX3_powerOf_0 rfl rfl ?_
  refine sv_iconst (v := nI 2) C dX3_powerOf_1 (by decide) ?_
  refine sv_icmp_lt C 8 dX3_powerOf_2 (by decide) (fun q2 => ?_) (fun q2 => ?_)
  · have q2 : x < 2 := q2
    refine sv_iload_n (i := 0) (x := x) C dX3_powerOf_8 rfl rfl ?_
    refine sv_iconst (v := nI 1) C dX3_powerOf_9 (by decide) ?_
    refine sv_icmp_ne C 17 dX3_powerOf_10 (by decide) (fun q10 => ?_) (fun q10 => ?_)
    · have q10 : ¬ x = 1 := q10
      refine sv_iconst (v := nI 0) C dX3_powerOf_17 (by decide) ?_
      exact sv_iret C hr dX3_powerOf_18 (Nat.le_of_ble_eq_true rfl) (Nat.le_of_ble_eq_true rfl) (by unfold powv; rw [if_pos q2, if_neg q10]; rfl) (fun _ h => h)
    · have q10 : x = 1 := q10
      refine sv_iconst (v := nI 3) C dX3_powerOf_13 (by decide) ?_
      refine sv_goto C 18 dX3_powerOf_14 (by decide) ?_
      exact sv_iret C hr dX3_powerOf_18 (Nat.le_of_ble_eq_true rfl) (Nat.le_of_ble_eq_true rfl) (by unfold powv; rw [if_pos q2, if_pos q10]; rfl) (fun _ h => h)
  · have q2 : ¬ x < 2 := q2
    refine sv_bipush (v := nI 10) C dX3_powerOf_5 (by decide) ?_
    exact sv_iret C hr dX3_powerOf_7 (Nat.le_of_ble_eq_true rfl) (Nat.le_of_ble_eq_true rfl) (by unfold powv; rw [if_neg q2]; rfl) (fun _ h => h)

set_option maxHeartbeats 4000000 in
set_option maxRecDepth 100000 in
theorem met_countSecondOn (l : Launch) (G : sv_G) (z : Nat) (M : sv_M) (o : Int64) (j f : Nat) (hj : j < 8) (hf : f < 8) (b6 : M j 6 = 0 ∨ M j 6 = 1) (b7 : M j 7 = 0 ∨ M j 7 = 1) : sv_Met l G yX3_countSecondOn cX3_countSecondOn 3 none 2 [.ref (sv_r G 0 j), .int (nI f)] (sv_W G z M o) none (sv_W G z (sv_u M j (cnt f (M j))) o) := by
  refine sv_ofW (by decide) kw_398 (Nat.le_of_ble_eq_true rfl) ?_
  intro p e s mth args below meth c hr C _
  refine sv_sub (lv' := [(0, .ref (sv_r G 0 j)), (1, .int (nI f))]) rfl ?_
  refine sv_aload_n (i := 0) (x := sv_r G 0 j) C dX3_countSecondOn_0 rfl rfl ?_
  refine sv_iload_n (i := 1) (x := nI f) C dX3_countSecondOn_1 rfl rfl ?_
  refine sv_callV (as := [_]) (rest := []) C (met_lampOf l G _ _ _ j f hj (by omega) b6 b7) fX3_lampOf kw_326 (sv_recv0 C hj) ⟨Nat.le_of_ble_eq_true rfl, Nat.le_of_ble_eq_true rfl⟩ (Nat.le_of_ble_eq_true rfl) dX3_countSecondOn_2 ⟨Nat.zero_le _, Nat.zero_le _⟩  ?_
  refine sv_ri (fun v2 e2 => ?_)
  refine sv_istore_n (i := 2) C [(0, .ref (sv_r G 0 j)), (1, .int (nI f)), (2, .int v2)] dX3_countSecondOn_5 rfl (by decide) rfl ?_
  refine sv_iload_n (i := 2) (x := v2) C dX3_countSecondOn_6 rfl rfl ?_
  refine sv_if_ne C 25 dX3_countSecondOn_7 (by decide) (fun q7 => ?_) (fun q7 => ?_)
  · refine sv_iload_n (i := 2) (x := v2) C dX3_countSecondOn_25 rfl rfl ?_
    refine sv_iconst (v := nI 1) C dX3_countSecondOn_26 (by decide) ?_
    refine sv_icmp_ne C 42 dX3_countSecondOn_27 (by decide) (fun q27 => ?_) (fun q27 => ?_)
    · have q27 : ¬ v2 = 1 := q27
      refine sv_aload_n (i := 0) (x := sv_r G 0 j) C dX3_countSecondOn_42 rfl rfl ?_
      refine sv_dup C dX3_countSecondOn_43 rfl ?_
      refine sv_get_3_6 C hj kw_143 dX3_countSecondOn_44 ?_
      refine sv_topi (fun v44 e44 => ?_)
      refine sv_iconst (v := nI 1) C dX3_countSecondOn_47 (by decide) ?_
      refine sv_iadd C dX3_countSecondOn_48 ?_
      refine sv_topi (fun v48 e48 => ?_)
      refine sv_put_3_6 C hj kw_143 dX3_countSecondOn_49 ?_
      exact sv_vret C hr dX3_countSecondOn_52 (Nat.le_of_ble_eq_true rfl) (Nat.le_of_ble_eq_true rfl) (sv_eqW (by rw [e48, e44]; simp only [sv_wu, sv_us, sv_uu]; unfold cnt; rw [if_neg (fun h => q7 (e2.trans h)), if_neg (fun h => q27 (e2.trans h))]; rfl))
    · have q27 : v2 = 1 := q27
      refine sv_aload_n (i := 0) (x := sv_r G 0 j) C dX3_countSecondOn_30 rfl rfl ?_
      refine sv_get_3_0 C hj kw_131 dX3_countSecondOn_31 ?_
      refine sv_get_0_3 C hj kw_74 dX3_countSecondOn_34 ?_
      refine sv_iload_n (i := 1) (x := nI f) C dX3_countSecondOn_37 rfl rfl ?_
      refine sv_iconst (v := nI 1) C dX3_countSecondOn_38 (by decide) ?_
      refine sv_callN (as := [_, _, _]) (rest := []) C (met_raiseN j (6 * f + 12) rfl rfl (sv_okj (by decide) hj) rfl (by show _ < 8; omega)) fX5_raise (host := "StairLight") kn_RX3_122 ⟨Nat.le_of_ble_eq_true rfl, Nat.le_of_ble_eq_true rfl⟩ (Nat.le_of_ble_eq_true rfl) dX3_countSecondOn_39 ⟨Nat.zero_le _, Nat.zero_le _⟩  ?_
      refine sv_rv ?_
      refine sv_aload_n (i := 0) (x := sv_r G 0 j) C dX3_countSecondOn_42 rfl rfl ?_
      refine sv_dup C dX3_countSecondOn_43 rfl ?_
      refine sv_get_3_6 C hj kw_143 dX3_countSecondOn_44 ?_
      refine sv_topi (fun v44 e44 => ?_)
      refine sv_iconst (v := nI 1) C dX3_countSecondOn_47 (by decide) ?_
      refine sv_iadd C dX3_countSecondOn_48 ?_
      refine sv_topi (fun v48 e48 => ?_)
      refine sv_put_3_6 C hj kw_143 dX3_countSecondOn_49 ?_
      exact sv_vret C hr dX3_countSecondOn_52 (Nat.le_of_ble_eq_true rfl) (Nat.le_of_ble_eq_true rfl) (sv_eqW (by rw [e48, e44]; simp only [sv_wu, sv_us, sv_uu]; unfold cnt; rw [if_neg (fun h => q7 (e2.trans h)), if_pos (e2.symm.trans q27)]; rfl))
  · refine sv_aload_n (i := 0) (x := sv_r G 0 j) C dX3_countSecondOn_10 rfl rfl ?_
    refine sv_get_3_0 C hj kw_131 dX3_countSecondOn_11 ?_
    refine sv_get_0_2 C hj kw_71 dX3_countSecondOn_14 ?_
    refine sv_iload_n (i := 1) (x := nI f) C dX3_countSecondOn_17 rfl rfl ?_
    refine sv_iconst (v := nI 1) C dX3_countSecondOn_18 (by decide) ?_
    refine sv_callN (as := [_, _, _]) (rest := []) C (met_raiseN j (6 * f + 11) rfl rfl (sv_okj (by decide) hj) rfl (by show _ < 8; omega)) fX5_raise (host := "StairLight") kn_RX3_122 ⟨Nat.le_of_ble_eq_true rfl, Nat.le_of_ble_eq_true rfl⟩ (Nat.le_of_ble_eq_true rfl) dX3_countSecondOn_19 ⟨Nat.zero_le _, Nat.zero_le _⟩  ?_
    refine sv_rv ?_
    refine sv_goto C 42 dX3_countSecondOn_22 (by decide) ?_
    refine sv_aload_n (i := 0) (x := sv_r G 0 j) C dX3_countSecondOn_42 rfl rfl ?_
    refine sv_dup C dX3_countSecondOn_43 rfl ?_
    refine sv_get_3_6 C hj kw_143 dX3_countSecondOn_44 ?_
    refine sv_topi (fun v44 e44 => ?_)
    refine sv_iconst (v := nI 1) C dX3_countSecondOn_47 (by decide) ?_
    refine sv_iadd C dX3_countSecondOn_48 ?_
    refine sv_topi (fun v48 e48 => ?_)
    refine sv_put_3_6 C hj kw_143 dX3_countSecondOn_49 ?_
    exact sv_vret C hr dX3_countSecondOn_52 (Nat.le_of_ble_eq_true rfl) (Nat.le_of_ble_eq_true rfl) (sv_eqW (by rw [e48, e44]; simp only [sv_wu, sv_us, sv_uu]; unfold cnt; rw [if_pos (e2.symm.trans q7)]; rfl))

set_option maxHeartbeats 4000000 in
set_option maxRecDepth 100000 in
theorem met_endSecond (l : Launch) (G : sv_G) (z : Nat) (M : sv_M) (o : Int64) (j : Nat) (hj : j < 8) (m : Nat) (hm : M j 57 = nI m) (hm7 : m ≤ 7) (b6 : M j 6 = 0 ∨ M j 6 = 1) (b7 : M j 7 = 0 ∨ M j 7 = 1) (hv : vfl m (M j)) : sv_Met l G yX3_endSecond cX3_endSecond 2 none 3 [.ref (sv_r G 0 j)] (sv_W G z M o) none (sv_W G z (sv_u M j (endv m (M j))) o) := by
  refine sv_ofW (by decide) kw_394 (Nat.le_of_ble_eq_true rfl) ?_
  intro p e s mth args below meth c hr C _
  refine sv_sub (lv' := [(0, .ref (sv_r G 0 j))]) rfl ?_
  refine sv_iconst (v := nI 0) C dX3_endSecond_0 (by decide) ?_
  refine sv_istore_n (i := 1) C [(0, .ref (sv_r G 0 j)), (1, .int (nI 0))] dX3_endSecond_1 rfl (by decide) rfl ?_
  refine sv_wd (sv_eqW (sv_ui _ j).symm) ?_
  refine sv_loop (N := m) (I := fun _ => True) (Wf := fun i => sv_W G z (sv_u M j (fo cntp i (M j))) o) (Lf := fun i => [(0, .ref (sv_r G 0 j)), (1, .int (nI i))]) 0 (Nat.zero_le _) trivial (fun i hi0 hi hI ih => ?_)
  refine sv_iload_n (i := 1) (x := nI i) C dX3_endSecond_2 rfl rfl ?_
  refine sv_aload_n (i := 0) (x := sv_r G 0 j) C dX3_endSecond_3 rfl rfl ?_
  refine sv_get_3_1 C hj kw_133 dX3_endSecond_4 ?_
  refine sv_get_2_4 C hj kw_110 dX3_endSecond_7 ?_
  refine sv_set (v' := .int (nI m)) (congrArg Value.int (by rw [sv_us, focnt_o hv (Or.inr (by decide)) i hi]; exact hm)) ?_
  refine sv_icmp_geN C 34 dX3_endSecond_10 (by decide) (by omega) (by omega) (fun q10 => ?_) (fun q10 => ?_)
  · obtain rfl : i = m := by omega
    refine sv_iconst (v := nI 0) C dX3_endSecond_34 (by decide) ?_
    refine sv_istore_n (i := 1) C [(0, .ref (sv_r G 0 j)), (1, .int (nI 0))] dX3_endSecond_35 rfl (by decide) rfl ?_
    refine sv_loop (N := 8) (I := fun _ => True) (Wf := fun i2 => sv_W G z (sv_u M j (fo fend i2 (fo cntp i (M j)))) o) (Lf := fun i2 => [(0, .ref (sv_r G 0 j)), (1, .int (nI i2))]) 0 (Nat.zero_le _) trivial (fun i2 hi20 hi2 hI2 ih2 => ?_)
    refine sv_iload_n (i := 1) (x := nI i2) C dX3_endSecond_36 rfl rfl ?_
    refine sv_bipush (v := nI 8) C dX3_endSecond_37 (by decide) ?_
    refine sv_icmp_geN C 75 dX3_endSecond_39 (by decide) (by omega) (by omega) (fun q39 => ?_) (fun q39 => ?_)
    · refine sv_aload_n (i := 0) (x := sv_r G 0 j) C dX3_endSecond_75 rfl rfl ?_
      refine sv_dup C dX3_endSecond_76 rfl ?_
      refine sv_get_3_5 C hj kw_141 dX3_endSecond_77 ?_
      refine sv_topi (fun v77 e77 => ?_)
      refine sv_iconst (v := nI 1) C dX3_endSecond_80 (by decide) ?_
      refine sv_iadd C dX3_endSecond_81 ?_
      refine sv_topi (fun v81 e81 => ?_)
      refine sv_put_3_5 C hj kw_141 dX3_endSecond_82 ?_
      exact sv_vret C hr dX3_endSecond_85 (Nat.le_of_ble_eq_true rfl) (Nat.le_of_ble_eq_true rfl) (sv_eqW (by rw [e81, e77, show i2 = 8 from by omega]; simp only [sv_wu, sv_us, sv_uu]; rfl))
    · refine sv_aload_n (i := 0) (x := sv_r G 0 j) C dX3_endSecond_42 rfl rfl ?_
      refine sv_get_3_0 C hj kw_131 dX3_endSecond_43 ?_
      refine sv_get_0_4 C hj kw_77 dX3_endSecond_46 ?_
      refine sv_iload_n (i := 1) (x := nI i2) C dX3_endSecond_49 rfl rfl ?_
      refine sv_aload_n (i := 0) (x := sv_r G 0 j) C dX3_endSecond_50 rfl rfl ?_
      refine sv_iload_n (i := 1) (x := nI i2) C dX3_endSecond_51 rfl rfl ?_
      refine sv_callV (as := [_]) (rest := [_, _]) C (met_lampOf l G _ _ _ j i2 hj (by omega) (by rw [sv_us, fofend_o (Or.inl (by decide)) i2 hi2, focnt_o hv (Or.inl (by decide)) i hi]; exact b6) (by rw [sv_us, fofend_o (Or.inl (by decide)) i2 hi2, focnt_o hv (Or.inl (by decide)) i hi]; exact b7)) fX3_lampOf kw_326 (sv_recv0 C hj) ⟨Nat.le_of_ble_eq_true rfl, Nat.le_of_ble_eq_true rfl⟩ (Nat.le_of_ble_eq_true rfl) dX3_endSecond_52 ⟨Nat.zero_le _, Nat.zero_le _⟩  ?_
      refine sv_ri (fun v52 e52 => ?_)
      refine sv_callS (as := [_]) (rest := [_, _]) C (met_powerOf l G _ v52) fX3_powerOf kw_400 ⟨Nat.le_of_ble_eq_true rfl, Nat.le_of_ble_eq_true rfl⟩ (Nat.le_of_ble_eq_true rfl) dX3_endSecond_55 ⟨Nat.zero_le _, Nat.zero_le _⟩  ?_
      refine sv_ri (fun v55 e55 => ?_)
      refine sv_callN (as := [_, _, _]) (rest := []) C (met_raiseN j (6 * i2 + 13) rfl rfl (sv_okj (by decide) hj) rfl (by show _ < 8; omega)) fX5_raise (host := "StairLight") kn_RX3_122 ⟨Nat.le_of_ble_eq_true rfl, Nat.le_of_ble_eq_true rfl⟩ (Nat.le_of_ble_eq_true rfl) dX3_endSecond_58 ⟨Nat.zero_le _, Nat.zero_le _⟩  ?_
      refine sv_rv ?_
      refine sv_aload_n (i := 0) (x := sv_r G 0 j) C dX3_endSecond_61 rfl rfl ?_
      refine sv_get_3_0 C hj kw_131 dX3_endSecond_62 ?_
      refine sv_iload_n (i := 1) (x := nI i2) C dX3_endSecond_65 rfl rfl ?_
      refine sv_callV (as := [_]) (rest := []) C (met_burnDown l G _ _ _ j i2 hj (by omega)) fX0_burnDown kw_403 (sv_recv1 C hj) ⟨Nat.le_of_ble_eq_true rfl, Nat.le_of_ble_eq_true rfl⟩ (Nat.le_of_ble_eq_true rfl) dX3_endSecond_66 ⟨Nat.zero_le _, Nat.zero_le _⟩  ?_
      refine sv_rv ?_
      refine sv_iinc (i := 1) (x := nI i2) C (nI (i2 + 1)) [(0, .ref (sv_r G 0 j)), (1, .int (nI (i2 + 1)))] dX3_endSecond_69 rfl (sv_incN i2 1) (by decide) rfl ?_
      refine sv_goto C 36 dX3_endSecond_72 (by decide) ?_
      refine sv_wd (sv_eqW ?_) (ih2 (by omega) trivial)
      rw [e55, e52]
      simp only [sv_wu, sv_us, sv_uu]
      rfl
  · refine sv_aload_n (i := 0) (x := sv_r G 0 j) C dX3_endSecond_13 rfl rfl ?_
    refine sv_aload_n (i := 0) (x := sv_r G 0 j) C dX3_endSecond_14 rfl rfl ?_
    refine sv_get_3_1 C hj kw_133 dX3_endSecond_15 ?_
    refine sv_get_2_1 C hj kw_103 dX3_endSecond_18 ?_
    refine sv_iload_n (i := 1) (x := nI i) C dX3_endSecond_21 rfl rfl ?_
    obtain ⟨f, hf, ef⟩ := hv i (by omega)
    refine sv_callN (as := [_, _]) (rest := [_]) C (met_atN j (4 * i + 59) rfl rfl (sv_okj (by decide) hj) rfl (by show _ < 7; omega)) fX5_at (host := "StairLight") kn_RX3_57 ⟨Nat.le_of_ble_eq_true rfl, Nat.le_of_ble_eq_true rfl⟩ (Nat.le_of_ble_eq_true rfl) dX3_endSecond_22 ⟨Nat.zero_le _, Nat.zero_le _⟩  ?_
    refine sv_riN f (by rw [sv_us, focnt_o hv (Or.inr (by omega)) i hi]; exact ef) ?_
    refine sv_callV (as := [_]) (rest := []) C (met_countSecondOn l G _ _ _ j f hj hf (by rw [sv_us, focnt_o hv (Or.inl (by decide)) i hi]; exact b6) (by rw [sv_us, focnt_o hv (Or.inl (by decide)) i hi]; exact b7)) fX3_countSecondOn kw_395 (sv_recv0 C hj) ⟨Nat.le_of_ble_eq_true rfl, Nat.le_of_ble_eq_true rfl⟩ (Nat.le_of_ble_eq_true rfl) dX3_endSecond_25 ⟨Nat.zero_le _, Nat.zero_le _⟩  ?_
    refine sv_rv ?_
    refine sv_iinc (i := 1) (x := nI i) C (nI (i + 1)) [(0, .ref (sv_r G 0 j)), (1, .int (nI (i + 1)))] dX3_endSecond_28 rfl (sv_incN i 1) (by decide) rfl ?_
    refine sv_goto C 2 dX3_endSecond_31 (by decide) ?_
    refine sv_wd (sv_eqW ?_) (ih (by omega) trivial)
    rw [sv_us, sv_uu, fo_succ]
    show _ = sv_u M j (cnt (fo cntp i (M j) (4 * i + 59)).toNatClampNeg _)
    rw [focnt_o hv (Or.inr (by omega)) i hi, ef, nI_clamp (by omega)]
end
section
/-! what holds of stairs at every time: people on floors, going to floors; a second keeps it -/
def vrow (x : vX) (p : Nat) : Prop := (∃ f, f < 8 ∧ x (4 * p + 59) = nI f) ∧ ∃ g, g < 8 ∧ x (4 * p + 60) = nI g
def vd (x : vX) : Prop := ∃ m, m ≤ 7 ∧ x 57 = nI m ∧ (x 6 = 0 ∨ x 6 = 1) ∧ (x 7 = 0 ∨ x 7 = 1) ∧ ∀ p, p < m → vrow x p
def secv (x : vX) : vX := endv (many (beginv (many x) x)) (beginv (many x) x)
def passv (n : Nat) (x : vX) : vX := fo (fun _ => secv) n x
theorem many_eq {x : vX} {m : Nat} (h : x 57 = nI m) (hm : m ≤ 7) : many x = m := by
  unfold many
  rw [h, nI_clamp (by omega)]
theorem vrow_of {x y : vX} {p q : Nat} (h : vrow x p) (h1 : y (4 * q + 59) = x (4 * p + 59)) (h2 : y (4 * q + 60) = x (4 * p + 60)) : vrow y q := by
  unfold vrow
  rw [h1, h2]
  exact h
theorem wkv_row {T : Int32} {p : Nat} {x : vX} (h : vrow x p) (hne : ¬ x (4 * p + 59) = x (4 * p + 60)) : vrow (wkv T p x) p := by
  obtain ⟨⟨f, hf, ef⟩, g, hg, eg⟩ := h
  have e2 : wkv T p x (4 * p + 60) = nI g := by rw [wkv_o (by omega) (by omega), eg]
  refine ⟨?_, g, hg, e2⟩
  unfold wkv
  split
  · rw [upd_n (by omega), upd_s, ef, eg]
    have hfg : f ≠ g := fun e => hne (by rw [ef, eg, e])
    by_cases h3 : nI g ≤ nI f
    · have h4 := (nI_leI (by omega) (by omega)).mp h3
      obtain ⟨f', rfl⟩ : ∃ f', f = f' + 1 := ⟨f - 1, by omega⟩
      exact ⟨f', by omega, by rw [if_pos h3, pk_m1]⟩
    · have h4 : ¬ g ≤ f := fun h => h3 ((nI_leI (by omega) (by omega)).mpr h)
      exact ⟨f + 1, by omega, by rw [if_neg h3, nI_1]⟩
  · exact ⟨f, hf, by rw [upd_n (by omega), ef]⟩
theorem mvv_59 {p s : Nat} {x : vX} : mvv p s x (4 * s + 59) = x (4 * p + 59) := by
  unfold mvv
  rw [upd_n (by omega), upd_n (by omega), upd_s]
theorem mvv_60 {p s : Nat} {x : vX} : mvv p s x (4 * s + 60) = x (4 * p + 60) := by
  unfold mvv
  rw [upd_n (by omega), upd_s]
theorem mvv_58 {p s : Nat} {x : vX} : mvv p s x (4 * s + 58) = x (4 * p + 58) := by
  unfold mvv
  rw [upd_n (by omega), upd_n (by omega), upd_n (by omega), upd_s]
theorem mvv_61 {p s : Nat} {x : vX} : mvv p s x (4 * s + 61) = x (4 * p + 61) := by
  unfold mvv
  rw [upd_s]
theorem goS_vrow {T : Int32} {x : vX} {m : Nat} (hv : ∀ p, p < m → vrow x p) : ∀ n, n ≤ m → ∀ q, q < m → (q < (goS T n x).2 ∨ n ≤ q) → vrow (goS T n x).1 q
  | 0, _ => fun q hq _ => hv q hq
  | n + 1, hn => by
    intro q hq hc
    have ih := goS_vrow (T := T) hv n (by omega)
    have hle := goS_le T x n
    have e : goS T (n + 1) x = goB T n (goS T n x) := rfl
    rw [e] at hc ⊢
    unfold goB at hc ⊢
    by_cases ht : (goS T n x).1 (4 * n + 59) = (goS T n x).1 (4 * n + 60)
    · rw [if_pos ht] at hc ⊢
      exact ih q hq (by omega)
    · rw [if_neg ht] at hc ⊢
      dsimp only at hc ⊢
      by_cases hs : q = (goS T n x).2
      · rw [hs]
        exact vrow_of (wkv_row (T := T) (ih n (by omega) (Or.inr (Nat.le_refl _))) ht) mvv_59 mvv_60
      · have hq2 : q < (goS T n x).2 ∨ n < q := by omega
        refine vrow_of (ih q hq (by omega)) ?_ ?_
        · rw [mvv_o (by omega), wkv_o (by omega) (by omega)]
        · rw [mvv_o (by omega), wkv_o (by omega) (by omega)]
theorem beginv_57 {x : vX} {m : Nat} : beginv m x 57 = nI (goS (x 3) m x).2 := by
  unfold beginv
  rw [fola_o (Or.inr (by decide)) 8 (by decide)]
  exact upd_s _ _ _
theorem beginv_lo {x : vX} {m k : Nat} (h : k < 9) : beginv m x k = x k := by
  unfold beginv goOnv
  rw [fola_o (Or.inl h) 8 (by decide), upd_n (by omega), goS_o _ _ _ (by omega)]
theorem beginv_hi {x : vX} {m k : Nat} (h : 58 ≤ k) : beginv m x k = (goS (x 3) m x).1 k := by
  unfold beginv goOnv
  rw [fola_o (Or.inr (by omega)) 8 (by decide), upd_n (by omega)]
theorem vd_begin {x : vX} {m : Nat} (hm7 : m ≤ 7) (hv : ∀ p, p < m → vrow x p) : ∀ p, p < (goS (x 3) m x).2 → vrow (beginv m x) p := by
  intro p hp
  have hle := goS_le (x 3) x m
  exact vrow_of (goS_vrow (T := x 3) hv m (Nat.le_refl _) p (by omega) (Or.inl hp)) (beginv_hi (by omega)) (beginv_hi (by omega))
theorem vfl_of {x : vX} {m : Nat} (h : ∀ p, p < m → vrow x p) : vfl m x := fun p hp => (h p hp).1
theorem endv_o {x : vX} {m k : Nat} (hv : vfl m x) (h : (k < 8 ∧ k ≠ 4) ∨ 57 ≤ k) : endv m x k = x k := by
  unfold endv
  show upd _ 4 _ k = x k
  rw [upd_n (by omega), fofend_o (by omega) 8 (by decide), focnt_o hv (by omega) m (Nat.le_refl _)]
theorem vd_end {x : vX} {m : Nat} (h : m ≤ 7 ∧ x 57 = nI m ∧ (x 6 = 0 ∨ x 6 = 1) ∧ (x 7 = 0 ∨ x 7 = 1) ∧ ∀ p, p < m → vrow x p) : vd (endv m x) := by
  obtain ⟨h1, h2, h3, h4, h5⟩ := h
  have hv := vfl_of h5
  refine ⟨m, h1, by rw [endv_o hv (by omega)]; exact h2, by rw [endv_o hv (by omega)]; exact h3, by rw [endv_o hv (by omega)]; exact h4, fun p hp => vrow_of (h5 p hp) (endv_o hv (by omega)) (endv_o hv (by omega))⟩
theorem vd_mid {x : vX} (h : vd x) : many (beginv (many x) x) ≤ 7 ∧ beginv (many x) x 57 = nI (many (beginv (many x) x)) ∧ (beginv (many x) x 6 = 0 ∨ beginv (many x) x 6 = 1) ∧ (beginv (many x) x 7 = 0 ∨ beginv (many x) x 7 = 1) ∧ ∀ p, p < many (beginv (many x) x) → vrow (beginv (many x) x) p := by
  obtain ⟨m, h1, h2, h3, h4, h5⟩ := h
  have hm := many_eq h2 h1
  rw [hm]
  have hle := goS_le (x 3) x m
  have h9 : many (beginv m x) = (goS (x 3) m x).2 := many_eq beginv_57 (by omega)
  rw [h9]
  exact ⟨by omega, beginv_57, by rw [beginv_lo (by omega)]; exact h3, by rw [beginv_lo (by omega)]; exact h4, vd_begin h1 h5⟩
theorem vd_sec {x : vX} (h : vd x) : vd (secv x) := vd_end (vd_mid h)
theorem vd_pass {x : vX} (h : vd x) : ∀ n, vd (passv n x)
  | 0 => h
  | n + 1 => vd_sec (vd_pass h n)
theorem vd_many {x : vX} (h : vd x) : x 57 = nI (many x) ∧ many x ≤ 7 ∧ (x 6 = 0 ∨ x 6 = 1) ∧ (x 7 = 0 ∨ x 7 = 1) ∧ vfl (many x) x := by
  obtain ⟨m, h1, h2, h3, h4, h5⟩ := h
  rw [many_eq h2 h1]
  exact ⟨h2, h1, h3, h4, vfl_of h5⟩
def dks (x : vX) : Int32 := smI (fun f => x (6 * f + 11)) 8
def dms (x : vX) : Int32 := smI (fun f => x (6 * f + 12)) 8
def eng (x : vX) : Int32 := smI (fun f => x (6 * f + 13)) 8
def snd8 (x : vX) : Int32 := smI (fun f => x (6 * f + 10)) 8
end
