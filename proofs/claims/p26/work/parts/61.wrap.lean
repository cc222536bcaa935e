/-! methods with an exception table; a catch -/
theorem sw_ofW {l : Launch} {G : sv_G} {y : MethodName} {b : ByteArray} {maxL d mc ms : Nat} {ret : Option FieldType} {hh : List (Nat × Nat × Nat × Nat)} {as : List Value} {Wd Wd' : Heap → Prop} {r : Option Value} (hy : plainName y.cls = true) (hlen : (lg_sl as).length ≤ maxL) (body : ∀ p e s m args below meth c, meth.sig.returnType = ret → sv_C p l s m args meth c b maxL y.cls G → c.exceptionTable.toList = tableOf hh → sv_V p l e (sv_rm d mc ms) s m args below meth c maxL G (MQ below (sv_Qc G Wd' r) args s mc ms (sv_A G)) 0 0 Wd 0 (lv_args 0 as) []) : Met l y [.codeWith y b maxL ret hh] (sv_rm d mc ms) (sv_Pc G Wd as) (sv_Qc G Wd' r) mc ms (sv_A G) := by
  refine MetFree.of_bodyS (code := b) (maxLocals := maxL) (ret := ret) hy ?_ ?_
  · intro args s m h hn
    obtain ⟨m9, meth, c, hn9, h1, h2, h3, h4, -, h5, h6, -⟩ := Cond.codeWith_spec (atoms_spec (ws := [.codeWith y b maxL ret hh]) h _ List.mem_cons_self)
    cases hn.symm.trans hn9
    exact ⟨meth, c, h1, h2, h3, h4, h5, h6⟩
  · intro p e s m args below meth c s₁ B hml hP _
    have hh0 : s₁.heap = s.heap := by rw [B.state]; rfl
    have htab := vx_table (x := y) B (atoms_spec (ws := [.codeWith y b maxL ret hh]) B.pre _ List.mem_cons_self)
    obtain ⟨rfl, hw, hK⟩ := hP
    have hl := lv_entry as (n := maxL) hlen
    have K : W p l e (sv_rm d mc ms) s m as.toArray below meth c s.heap [] 0 0 (MQ below (sv_Qc G Wd' r) as.toArray s mc ms (sv_A G)) (entryFrame m as.toArray maxL) := by
      rw [lg_entry_eq]
      exact body p e s m _ below meth c B.returns ⟨B.exec, B.bytes, hml, findClass_of_methodNamed B.named, B.notSynchronized, hK⟩ htab s.heap [] _ hw va_S.rf hl
    obtain ⟨t, a1, o, b1, b2, b3⟩ := K s₁ hh0 (Stand.of_body B)
    exact ⟨t, o, a1, b1, b2, ⟨b3.1, b3.2⟩⟩
section SW
variable {p : Program} {l : Launch} {e : Env} {R : Room} {s : State} {m : MethodId} {args : Array Value} {below : List Frame} {meth : Method} {c : Code} {k n nL : Nat} {Q : State → Prop} {G : sv_G} {Wd Wd' Wx : Heap → Prop}
variable {cc : ByteArray} {pc : Nat} {lv lv' : List (Nat × Value)} {st rest : List Value} {own : String} {z : Nat} {M : sv_M} {o : Int64}
theorem sv_catch (C : sv_C p l s m args meth c cc nL own G) {E name : String} {hh : List (Nat × Nat × Nat × Nat)} (hp hs : List (Nat × Nat × Nat × Nat)) (q : Nat × Nat × Nat × Nat) (ht : c.exceptionTable.toList = tableOf hh) (hsp : hh = hp ++ q :: hs) (hpass : ∀ z ∈ hp, z.2.2.2 ≠ 0 ∧ ∃ nm : String, Cond.classLink own z.2.2.2 nm ∈ sv_tbl ∧ va_Nc E nm s) (hx : covers ⟨q.1, q.2.1, q.2.2.1, q.2.2.2⟩ pc = true) (h0 : q.2.2.2 ≠ 0) (hlink : Cond.classLink own q.2.2.2 name ∈ sv_tbl) (hcast : Cond.castable E name ∈ sv_Xs) (kk : ∀ a : Nat, sv_V p l e R s m args below meth c nL G Q k n Wx q.2.2.1 lv [.ref a]) : sv_X p l e R s m args below meth c nL G Q k n Wx E pc lv st := by
  intro H locs ls a ce h1 h2 h3 hce hcv hcl
  subst hsp
  refine vx_catch C.2.2.2.1 (tableOf hp) ⟨q.1, q.2.1, q.2.2.1, q.2.2.2⟩ (tableOf hs) (by rw [ht]; unfold tableOf; rw [List.map_append, List.map_cons]) (fun z hz => ?_) hx h0 (C.2.2.2.2.2.word hlink args) ?_ hce hcv hcl (kk a H locs ls h1 h2 h3)
  · obtain ⟨w, hw, rfl⟩ := List.mem_map.mp hz
    obtain ⟨a1, nm, a2, a3⟩ := hpass w hw
    exact Or.inr ⟨a1, nm, C.2.2.2.2.2.word a2 args, a3⟩
  · have h8 := List.all_eq_true.mp sv_Xs_ok _ hcast
    rw [Bool.and_eq_true] at h8
    exact va_tabs (A := #[]) h8.2 rfl (C.2.2.2.2.2.2.2.2.1.2.2.2 _ hcast)
theorem sx_IO : Cond.castable sv_IO sv_IO ∈ sv_Xs := List.mem_of_getElem? (i := 0) rfl
theorem sx_IA : Cond.castable sv_IA sv_IA ∈ sv_Xs := List.mem_of_getElem? (i := 1) rfl
theorem sx_IS : Cond.castable sv_IS sv_IS ∈ sv_Xs := List.mem_of_getElem? (i := 2) rfl
end SW
