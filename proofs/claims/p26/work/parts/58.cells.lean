/-! worlds of single cells: for the constructors -/
abbrev sl_E : Type := Nat → Option va_E
def sl_W (G : sv_G) (z : Nat) (E : sl_E) (H : Heap) : Prop := H.size = z ∧ ∀ a e, E a = some e → a < z ∧ va_at (sv_D G) vwCl (a, e) H
theorem sl_at {G : sv_G} {z a : Nat} {E : sl_E} {e : va_E} (h : E a = some e) : ∀ H, sl_W G z E H → va_at (sv_D G) vwCl (a, e) H := fun _ hw => (hw.2 a e h).2
theorem sl_set {G : sv_G} {z a : Nat} {E E' : sl_E} {e : va_E} {H H1 : Heap} (ha : a < z) (e1 : E' a = some e) (o1 : ∀ b, b ≠ a → E' b = E b) (h : sl_W G z E H) (z1 : H1.size = H.size) (oq : ∀ x : Nat, x ≠ a → H1[x]? = H[x]?) (hat : va_at (sv_D G) vwCl (a, e) H1) : sl_W G z E' H1 := by
  refine ⟨z1.trans h.1, fun b f hb => ?_⟩
  by_cases hba : b = a
  · subst hba
    rw [e1] at hb
    cases hb
    exact ⟨ha, hat⟩
  · rw [o1 b hba] at hb
    obtain ⟨h1, h2⟩ := h.2 b f hb
    exact ⟨h1, h2.kept (oq b hba)⟩
theorem sl_push {G : sv_G} {z : Nat} {E E' : sl_E} {e : va_E} {H H1 : Heap} (e1 : E' z = some e) (o1 : ∀ b, b ≠ z → E' b = E b) (h : sl_W G z E H) (z1 : H1.size = z + 1) (oq : ∀ x : Nat, x < z → H1[x]? = H[x]?) (hat : va_at (sv_D G) vwCl (z, e) H1) : sl_W G (z + 1) E' H1 := by
  refine ⟨z1, fun b f hb => ?_⟩
  by_cases hba : b = z
  · subst hba
    rw [e1] at hb
    cases hb
    exact ⟨Nat.lt_succ_self _, hat⟩
  · rw [o1 b hba] at hb
    obtain ⟨h1, h2⟩ := h.2 b f hb
    exact ⟨Nat.lt_succ_of_lt h1, h2.kept (oq b h1)⟩
/-- e at a, all else as it was -/
def sl_u (E : sl_E) (a : Nat) (e : va_E) : sl_E := fun b => if b = a then some e else E b
theorem sl_us {E : sl_E} {a : Nat} {e : va_E} : sl_u E a e a = some e := if_pos rfl
theorem sl_un {E : sl_E} {a : Nat} {e : va_E} : ∀ b, b ≠ a → sl_u E a e b = E b := fun _ h => if_neg h
theorem sl_sub {G : sv_G} {z : Nat} {E E2 : sl_E} (h : ∀ a e, E2 a = some e → E a = some e) : ∀ H, sl_W G z E H → sl_W G z E2 H := fun _ hw => ⟨hw.1, fun a e he => hw.2 a e (h a e he)⟩
/-- n cells from a on -/
def sl_on (E : sl_E) (a n : Nat) (F : Nat → va_E) : sl_E := fun b => if a ≤ b ∧ b < a + n then some (F (b - a)) else E b
theorem sl_oni {E : sl_E} {a n : Nat} {F : Nat → va_E} {c b : Nat} (hc : c < n) (hb : b = a + c) : sl_on E a n F b = some (F c) := by
  subst hb
  unfold sl_on
  rw [if_pos (by omega), show a + c - a = c by omega]
theorem sl_ono {E : sl_E} {a n : Nat} {F : Nat → va_E} {b : Nat} (h : b < a ∨ a + n ≤ b) : sl_on E a n F b = E b := if_neg (by omega)
theorem sl_oneq {G : sv_G} {z a n : Nat} {E0 E1 : sl_E} {F : Nat → va_E} (hin : ∀ c, c < n → E1 (a + c) = some (F c)) (hout : ∀ b, b < a → E1 b = E0 b) (hz : ∀ b, a + n ≤ b → E0 b = none) : ∀ H, sl_W G z E1 H → sl_W G z (sl_on E0 a n F) H := sl_sub fun b e he => by
  unfold sl_on at he
  split at he
  · rename_i h
    cases he
    rw [show b = a + (b - a) by omega]
    rw [show a + (b - a) - a = b - a by omega]
    exact hin _ (by omega)
  · rename_i h
    rcases Nat.lt_or_ge b a with q | q
    · rw [hout b q]
      exact he
    · rw [hz b (by omega)] at he
      cases he
section SL
variable {p : Program} {l : Launch} {e : Env} {R : Room} {s : State} {m : MethodId} {args : Array Value} {below : List Frame} {meth : Method} {c : Code} {k n nL : Nat} {Q : State → Prop} {G : sv_G} {Wd Wd' : Heap → Prop}
variable {cc : ByteArray} {pc : Nat} {lv lv' : List (Nat × Value)} {st rest : List Value} {own : String} {z : Nat} {E : sl_E}
theorem sl_new (C : sv_C p l s m args meth c cc nL own G) {Cn : String} {T : u_T} {N ci ix : Nat} {fs : List Value} (ty : Nat → FieldType) (hty : ∀ k, k < N → parseFieldDescriptor (T k).2.2.1 = some (ty k)) (hcl : sv_cls ci Cn T N) (hlink : Cond.classLink own ix Cn ∈ sv_tbl) (hinst : Cond.instantiable Cn N ∈ sv_tbl) (hini : Cond.initialized Cn ∈ sv_tbl) (hfs : ∀ j, j < N → defaultValue (ty j) = vp_V fs j) (hc : k + 1 ≤ R.cells) (hn : n + N ≤ R.slots) (d : decode cc pc = .ok (.new ix, 3)) (kk : ∀ E1 : sl_E, E1 z = some (.inr (ci, fs)) → (∀ b, b ≠ z → E1 b = E b) → sv_V p l e R s m args below meth c nL G Q (k + 1) (n + N) (sl_W G (z + 1) E1) (pc + 3) lv (.ref z :: st)) : sv_V p l e R s m args below meth c nL G Q k n (sl_W G z E) pc lv st := by
  intro H locs ls h1 h2 h3
  obtain ⟨hc1, hin, -, -⟩ := hcl
  have hts : ∀ w ∈ sv_tbl, w.before args s = true := fun w hw => C.2.2.2.2.2.word hw args
  have hKn := C.2.2.2.2.2.1.1 ci _ hc1
  refine W.newcK C.1 C.2.1 C.2.2.2.1 (hts _ hlink) (hts _ hinst) (hts _ hini) rfl d hc hn hKn.2.1 h1.1 fun H1 kC hkC e1 z1 o1 => ?_
  have hz : s.heap.size ≤ z := by rw [← h1.1]; exact h2.1
  exact kk (sl_u E z (.inr (ci, fs))) sl_us sl_un H1 locs ls (sl_push sl_us sl_un h1 z1 o1 ⟨_, hc1, (u_born ty hts hin hKn hkC e1 hty).to hfs⟩) ⟨Nat.le_trans hz (by omega), fun x g1 g2 => (o1 x (Nat.lt_of_lt_of_le g1 hz)).trans (h2.2.1 x g1 g2), h2.2.2⟩ h3
theorem sl_newa (C : sv_C p l s m args meth c cc nL own G) {atype : ArrayType} {ty : FieldType} {i : Int32} {N t0 : Nat} {cA : ClassId} {a0 : vp_A} (hty : newarray.typeOf atype = ty) (hw : Cond.arrayClass ty ∈ sv_tbl) (ht : (sv_tys G)[t0]? = some (cA, ty)) (hra : ∀ U : State, va_RA U cA ty = (U.vm.findClass ("[" ++ ty.toString) = some cA)) (ha : vp_cell cA a0 = arrV cA N (fun _ => defaultValue ty)) (hn : ¬ i < 0) (hN : i.toNatClampNeg = N) (hbytes : N * componentBytes ty ≤ 536870912) (hc : k + 1 ≤ R.cells) (hs : n + N ≤ R.slots) (d : decode cc pc = .ok (.newarray atype, 2)) (kk : ∀ E1 : sl_E, E1 z = some (.inl (cA, a0)) → (∀ b, b ≠ z → E1 b = E b) → sv_V p l e R s m args below meth c nL G Q (k + 1) (n + N) (sl_W G (z + 1) E1) (pc + 2) lv (.ref z :: st)) : sv_V p l e R s m args below meth c nL G Q k n (sl_W G z E) pc lv (.int i :: st) := by
  subst hty
  intro H locs ls h1 h2 h3
  refine va_newaK C.1 C.2.1 (C.2.2.2.2.2.word hw args) rfl d rfl hn hN hbytes hc hs h1.1 fun H1 cA' e1 z1 o1 _ hNm => ?_
  have hcA : cA' = cA := by
    have h9 := (C.2.2.2.2.2.1.2 t0 _ ht).2
    rw [hra] at h9
    exact Option.some.inj (hNm.symm.trans h9)
  subst hcA
  have hz : s.heap.size ≤ z := by rw [← h1.1]; exact h2.1
  exact kk (sl_u E z (.inl (cA', a0))) sl_us sl_un H1 locs ls (sl_push sl_us sl_un h1 z1 o1 (by show H1[z]? = some (vp_cell _ _); rw [ha]; exact e1)) ⟨Nat.le_trans hz (by omega), fun x g1 g2 => (o1 x (Nat.lt_of_lt_of_le g1 hz)).trans (h2.2.1 x g1 g2), h2.2.2⟩ h3
theorem sl_newq (C : sv_C p l s m args meth c cc nL own G) {ix : Nat} {i : Int32} {N : Nat} (hlink : Cond.classLink own ix "StairLight$Stairs" ∈ sv_tbl) (hn : ¬ i < 0) (hN : i.toNatClampNeg = N) (hbytes : N * 4 ≤ 536870912) (hc : k + 1 ≤ R.cells) (hs : n + N ≤ R.slots) (d : decode cc pc = .ok (.anewarray ix, 3)) (kk : ∀ E1 : sl_E, E1 z = some (.inl (sv_cS G, N, .inr (.inr (.inr (.inr fun _ => none))))) → (∀ b, b ≠ z → E1 b = E b) → sv_V p l e R s m args below meth c nL G Q (k + 1) (n + N) (sl_W G (z + 1) E1) (pc + 3) lv (.ref z :: st)) : sv_V p l e R s m args below meth c nL G Q k n (sl_W G z E) pc lv (.int i :: st) := by
  subst hN
  intro H locs ls h1 h2 h3
  refine W.anew C.1 C.2.1 C.2.2.2.1 (C.2.2.2.2.2.word hlink args) (va_AO.use C.2.2.2.2.2.2.2.1.1.2) rfl d rfl hn hbytes hc hs fun cA kA comp f1 f2 f3 f4 => ?_
  have hcA : cA = sv_cS G := by
    obtain ⟨_, _, _, _, _, h9⟩ := (C.2.2.2.2.2.1.2 2 _ rfl).2
    exact Option.some.inj (f1.symm.trans h9)
  subst hcA
  generalize hH1 : H.push ({ cls := sv_cS G, slots := Array.replicate i.toNatClampNeg .null, vm := .none } : Cell) = H1
  have z1 : H1.size = z + 1 := by rw [← hH1, Array.size_push, h1.1]
  have e1 : H1[z]? = some (arrV (sv_cS G) i.toNatClampNeg (fun _ => .null)) := by rw [← hH1, ← h1.1, Array.getElem?_push_size, ← arrV_new]
  have o1 : ∀ q : Nat, q < z → H1[q]? = H[q]? := fun q hq => by rw [← hH1, Array.getElem?_push, if_neg (by rw [h1.1]; exact Nat.ne_of_lt hq)]
  have hz : s.heap.size ≤ z := by rw [← h1.1]; exact h2.1
  have e9 : H.size = z := h1.1
  have h5 := kk (sl_u E z _) sl_us sl_un H1 locs ls (sl_push sl_us sl_un h1 z1 o1 (by show H1[z]? = some (vp_cell _ _); rw [vp_cell_q]; exact e1)) ⟨Nat.le_trans hz (by omega), fun x g1 g2 => (o1 x (Nat.lt_of_lt_of_le g1 hz)).trans (h2.2.1 x g1 g2), h2.2.2⟩ h3
  rw [e9]
  exact h5
theorem sl_putF (C : sv_C p l s m args meth c cc nL own G) {Cn : String} {T : u_T} {N ci f ix a : Nat} {fs : List Value} {v : Value} {ty : FieldType} (hcl : sv_cls ci Cn T N) (hat : E a = some (.inr (ci, fs))) (hA : G.1 ≤ a) (hz : a < z) (hf : f < N) (hlink : Cond.fieldLink own ix (T f).1 (T f).2.1 (T f).2.2.1 ∈ sv_tbl) (hfin : (T f).2.2.2 = true) (hin2 : meth.name = "<init>") (hdecl : (T f).1 = own) (hd : parseFieldDescriptor (T f).2.2.1 = some ty) (hn : narrow ty v = v) (hfit : fits ty v = true) (hl : fs.length = N) (d : decode cc pc = .ok (.putfield ix, 3)) (kk : ∀ E1 : sl_E, E1 a = some (.inr (ci, fs.set f v)) → (∀ b, b ≠ a → E1 b = E b) → sv_V p l e R s m args below meth c nL G Q k n (sl_W G z E1) (pc + 3) lv st) : sv_V p l e R s m args below meth c nL G Q k n (sl_W G z E) pc lv (v :: .ref a :: st) :=
  sv_putFg C hcl hA (sl_at hat) hf hlink hfin hin2 hdecl hd hn hfit hl (fun H H1 h1 z1 oq h9 => sl_set (E' := sl_u E a (.inr (ci, fs.set f v))) hz sl_us sl_un h1 z1 oq h9) d (kk _ sl_us sl_un)
theorem sl_put (C : sv_C p l s m args meth c cc nL own G) {Cn : String} {T : u_T} {N ci f ix a : Nat} {fs : List Value} {v : Value} {ty : FieldType} (hcl : sv_cls ci Cn T N) (hat : E a = some (.inr (ci, fs))) (hA : G.1 ≤ a) (hz : a < z) (hf : f < N) (hlink : Cond.fieldLink own ix (T f).1 (T f).2.1 (T f).2.2.1 ∈ sv_tbl) (hfin : (T f).2.2.2 = false) (hd : parseFieldDescriptor (T f).2.2.1 = some ty) (hn : narrow ty v = v) (hfit : fits ty v = true) (hl : fs.length = N) (d : decode cc pc = .ok (.putfield ix, 3)) (kk : ∀ E1 : sl_E, E1 a = some (.inr (ci, fs.set f v)) → (∀ b, b ≠ a → E1 b = E b) → sv_V p l e R s m args below meth c nL G Q k n (sl_W G z E1) (pc + 3) lv st) : sv_V p l e R s m args below meth c nL G Q k n (sl_W G z E) pc lv (v :: .ref a :: st) :=
  sv_putg C hcl hA (sl_at hat) hf hlink hfin hd hn hfit hl (fun H H1 h1 z1 oq h9 => sl_set (E' := sl_u E a (.inr (ci, fs.set f v))) hz sl_us sl_un h1 z1 oq h9) d (kk _ sl_us sl_un)
theorem sl_get (C : sv_C p l s m args meth c cc nL own G) {Cn : String} {T : u_T} {N ci f ix a : Nat} {fs : List Value} {v : Value} (hcl : sv_cls ci Cn T N) (hat : E a = some (.inr (ci, fs))) (hf : f < N) (hlink : Cond.fieldLink own ix (T f).1 (T f).2.1 (T f).2.2.1 ∈ sv_tbl) (hv : fs[f]? = some v) (d : decode cc pc = .ok (.getfield ix, 3)) (kk : sv_V p l e R s m args below meth c nL G Q k n (sl_W G z E) (pc + 3) lv (v :: st)) : sv_V p l e R s m args below meth c nL G Q k n (sl_W G z E) pc lv (.ref a :: st) := sv_getg C hcl (sl_at hat) hf hlink hv d kk
theorem sl_iast (C : sv_C p l s m args meth c cc nL own G) {a nn : Nat} {f : Nat → Int32} {i x : Int32} (hat : E a = some (.inl (sv_cI G, nn, .inl f))) (hA : G.1 ≤ a) (hz : a < z) (hin : vp_in i nn) (d : decode cc pc = .ok (.iastore, 1)) (kk : ∀ E1 : sl_E, E1 a = some (.inl (sv_cI G, nn, .inl (upd f i.toNatClampNeg x))) → (∀ b, b ≠ a → E1 b = E b) → sv_V p l e R s m args below meth c nL G Q k n (sl_W G z E1) (pc + 1) lv st) : sv_V p l e R s m args below meth c nL G Q k n (sl_W G z E) pc lv (.int x :: .int i :: .ref a :: st) :=
  sv_iastg C hA (sl_at hat) hin (fun H H1 h1 z1 oq h9 => sl_set (E' := sl_u E a (.inl (sv_cI G, nn, .inl (upd f i.toNatClampNeg x)))) hz sl_us sl_un h1 z1 oq h9) d (kk _ sl_us sl_un)
theorem sl_aast (C : sv_C p l s m args meth c cc nL own G) {a nn v : Nat} {vs : List Value} {f : Nat → Option Nat} {i : Int32} (hat : E a = some (.inl (sv_cS G, nn, .inr (.inr (.inr (.inr f)))))) (hv : E v = some (.inr (3, vs))) (hA : G.1 ≤ a) (hz : a < z) (hin : vp_in i nn) (d : decode cc pc = .ok (.aastore, 1)) (kk : ∀ E1 : sl_E, E1 a = some (.inl (sv_cS G, nn, .inr (.inr (.inr (.inr (va_up f i.toNatClampNeg (some v))))))) → (∀ b, b ≠ a → E1 b = E b) → sv_V p l e R s m args below meth c nL G Q k n (sl_W G z E1) (pc + 1) lv st) : sv_V p l e R s m args below meth c nL G Q k n (sl_W G z E) pc lv (.ref v :: .int i :: .ref a :: st) := by
  intro H locs ls h1 h2 h3
  have hK := C.2.2.2.2.2.1
  have hlt : i.toNatClampNeg < nn := Nat.not_le.mp fun q => hin (Or.inr q)
  have h0 : ¬ i < 0 := fun q => hin (Or.inl q)
  obtain ⟨r', hr', cellV, g1, g2, g3, -⟩ := sl_at hv H h1
  have hcls := (hK.1 3 _ sv_cl3.1).2
  obtain ⟨kA, comp, k1, k2, k3, -⟩ := (hK.2 2 _ rfl).2
  have hcomp : comp = (sv_D G).1 3 := Option.some.inj (k3.symm.trans hcls.1)
  subst hcomp
  obtain ⟨kC, hkC, -⟩ := hcls.2
  refine W.aast C.1 C.2.1 (sl_at hat H h1) (fun q h => by cases h) (fun h => by cases h) k1 k2 rfl hkC ⟨h0, by show _ < (arrV _ _ _).slots.size; rw [arrV_size]; exact hlt⟩ g1 (fun q h => by rw [g3] at h; cases h) (by rw [g2]; exact hkC) (by rw [g2]; exact va_assign hcls) rfl rfl d fun H1 e1 z1 oq => ?_
  refine kk (sl_u E a _) sl_us sl_un H1 _ ls (sl_set hz sl_us sl_un h1 z1 oq ?_) (h2.put z1 oq hA) h3
  show H1[a]? = some (vp_cell _ _)
  rw [e1]
  rw [vp_cell_q, vp_cell_q, arrV_store]
  congr 2
  funext q
  by_cases hq : q = i.toNatClampNeg
  · subst hq
    simp [updV, va_up, va_rf]
  · simp [updV, va_up, hq]
theorem sl_alen (C : sv_C p l s m args meth c cc nL own G) {a nn t0 : Nat} {x : (Nat → Int32) ⊕ (Nat → Int64) ⊕ (Nat → UInt32) ⊕ (Nat → UInt64) ⊕ (Nat → Option Nat)} {cA : ClassId} {ty : FieldType} {v : Int32} (hat : E a = some (.inl (cA, nn, x))) (ht : (sv_tys G)[t0]? = some (cA, ty)) (hv : Int32.ofNat nn = v) (d : decode cc pc = .ok (.arraylength, 1)) (kk : sv_V p l e R s m args below meth c nL G Q k n (sl_W G z E) (pc + 1) lv (.int v :: st)) : sv_V p l e R s m args below meth c nL G Q k n (sl_W G z E) pc lv (.ref a :: st) := sv_aleng C (sl_at hat) ht hv d kk
theorem sv_objInit (C : sv_C p l s m args meth c cc nL own G) {ix a : Nat} (hlink : Cond.methodLink own ix Lib.objectInit ∈ sv_tbl) (hf : 1 ≤ R.frames) (hl : (st.map fun v => v.category).sum + 12 ≤ R.locals) (d : decode cc pc = .ok (.invokespecial ix, 3)) (kk : sv_V p l e R s m args below meth c nL G Q k n Wd (pc + 3) lv st) : sv_V p l e R s m args below meth c nL G Q k n Wd pc lv (.ref a :: st) := fun H locs ls h1 h2 h3 =>
  W.objInit C.1 C.2.1 C.2.2.2.1 (C.2.2.2.2.2.word hlink args) (C.2.2.2.2.2.word kw_27 args) (C.2.2.2.2.2.word kw_28 args) rfl (by rw [C.2.2.1]; exact h3.1) rfl d hf (by show 2 * 0 + _ + 12 ≤ _; omega) (kk H locs ls h1 h2 h3)
/-- a constructor is called -/
theorem sl_call (C : sv_C p l s m args meth c cc nL own G) {y : MethodName} {b : ByteArray} {maxL d mc ms ix a : Nat} {as : List Value} (hM : Met l y [.code y b maxL none] (sv_rm d mc ms) (sv_Pc G Wd (.ref a :: as)) (sv_Qc G Wd' none) mc ms (sv_A G)) (hY : sv_Yi y b maxL as.length) (hml : Cond.methodLink own ix y ∈ sv_tbl) (hR : d + 1 ≤ R.frames ∧ 8 + (maxL + 11) + 36 * d ≤ R.locals) (hrest : (rest.map fun v => v.category).sum ≤ 8) (dg : decode cc pc = .ok (.invokespecial ix, 3)) (hf : k + mc ≤ R.cells ∧ n + ms ≤ R.slots) (kk : sv_V p l e R s m args below meth c nL G Q (k + mc) (n + ms) Wd' (pc + 3) lv rest) : sv_V p l e R s m args below meth c nL G Q k n Wd pc lv (as.reverse ++ .ref a :: rest) := sv_run (mc := mc) (ms := ms) (fun H locs ls h1 h2 h3 => va_runI (Ts := sv_tbl) ⟨C.1, C.2.1, C.2.2.1, C.2.2.2.1, fun w hw => C.2.2.2.2.2.word hw args⟩ hM ⟨sv_cb C hml hY.2.1 hY.2.2.1 hY.2.2.2.2 hR, hY.2.2.2.1, C.2.2.2.2.2.word hY.1 args⟩ ⟨sv_blind _ _ _, fun U hU hw => sv_pre C h1 h2 hU hw⟩ rfl rfl h3.1 rfl (lv_room hrest) dg hf) kk
end SL
