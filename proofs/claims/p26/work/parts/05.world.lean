/-! rows that read and write a world -/
theorem sv_one {D : va_G} {q : Nat × va_E} {H : Heap} (h : va_at D vwCl q H) : va_P D vwCl [q] H := fun k r hk => by
  cases k with
  | zero => cases hk; exact h
  | succ k => cases hk
def sv_cls (ci : Nat) (Cn : String) (T : u_T) (N : Nat) : Prop := vwCl[ci]? = some (Cn, T, N) ∧ (∀ w ∈ u_ws Cn T N, w ∈ sv_tbl) ∧ (∃ ty0 : Nat → FieldType, ∀ k, k < N → parseFieldDescriptor (T k).2.2.1 = some (ty0 k)) ∧ (∀ a, a < N → ∀ b, b < N → a ≠ b → (T a).2.1 ≠ (T b).2.1)
set_option maxRecDepth 20000 in
theorem sv_lay0 : ∀ w ∈ u_ws RX0 TX0 6, w ∈ sv_tbl := List.forall_mem_cons.mpr ⟨kw_58, List.forall_mem_cons.mpr ⟨kw_60, List.forall_mem_cons.mpr ⟨kw_62, List.forall_mem_cons.mpr ⟨kw_64, List.forall_mem_cons.mpr ⟨kw_66, List.forall_mem_cons.mpr ⟨kw_68, fun _ h => nomatch h⟩⟩⟩⟩⟩⟩
theorem sv_cl0 : sv_cls 0 RX0 TX0 6 := ⟨rfl, sv_lay0, ⟨_, tyX0_ok⟩, nmX0⟩
set_option maxRecDepth 20000 in
theorem sv_lay1 : ∀ w ∈ u_ws RX1 TX1 3, w ∈ sv_tbl := List.forall_mem_cons.mpr ⟨kw_149, List.forall_mem_cons.mpr ⟨kw_151, List.forall_mem_cons.mpr ⟨kw_153, fun _ h => nomatch h⟩⟩⟩
theorem sv_cl1 : sv_cls 1 RX1 TX1 3 := ⟨rfl, sv_lay1, ⟨_, tyX1_ok⟩, nmX1⟩
set_option maxRecDepth 20000 in
theorem sv_lay2 : ∀ w ∈ u_ws RX2 TX2 6, w ∈ sv_tbl := List.forall_mem_cons.mpr ⟨kw_90, List.forall_mem_cons.mpr ⟨kw_92, List.forall_mem_cons.mpr ⟨kw_94, List.forall_mem_cons.mpr ⟨kw_96, List.forall_mem_cons.mpr ⟨kw_98, List.forall_mem_cons.mpr ⟨kw_100, fun _ h => nomatch h⟩⟩⟩⟩⟩⟩
theorem sv_cl2 : sv_cls 2 RX2 TX2 6 := ⟨rfl, sv_lay2, ⟨_, tyX2_ok⟩, nmX2⟩
set_option maxRecDepth 20000 in
theorem sv_lay3 : ∀ w ∈ u_ws RX3 TX3 7, w ∈ sv_tbl := List.forall_mem_cons.mpr ⟨kw_121, List.forall_mem_cons.mpr ⟨kw_123, List.forall_mem_cons.mpr ⟨kw_125, List.forall_mem_cons.mpr ⟨kw_127, List.forall_mem_cons.mpr ⟨kw_129, List.forall_mem_cons.mpr ⟨kw_131, List.forall_mem_cons.mpr ⟨kw_133, fun _ h => nomatch h⟩⟩⟩⟩⟩⟩⟩
theorem sv_cl3 : sv_cls 3 RX3 TX3 7 := ⟨rfl, sv_lay3, ⟨_, tyX3_ok⟩, nmX3⟩
set_option maxRecDepth 20000 in
theorem sv_lay4 : ∀ w ∈ u_ws RX4 TX4 2, w ∈ sv_tbl := List.forall_mem_cons.mpr ⟨kw_164, List.forall_mem_cons.mpr ⟨kw_166, fun _ h => nomatch h⟩⟩
theorem sv_cl4 : sv_cls 4 RX4 TX4 2 := ⟨rfl, sv_lay4, ⟨_, tyX4_ok⟩, nmX4⟩
set_option maxRecDepth 20000 in
theorem sv_lay5 : ∀ w ∈ u_ws RX5 TX5 4, w ∈ sv_tbl := List.forall_mem_cons.mpr ⟨kw_174, List.forall_mem_cons.mpr ⟨kw_176, List.forall_mem_cons.mpr ⟨kw_178, List.forall_mem_cons.mpr ⟨kw_180, fun _ h => nomatch h⟩⟩⟩⟩
theorem sv_cl5 : sv_cls 5 RX5 TX5 4 := ⟨rfl, sv_lay5, ⟨_, tyX5_ok⟩, nmX5⟩
section SVW
variable {p : Program} {l : Launch} {e : Env} {R : Room} {s : State} {m : MethodId} {args : Array Value} {below : List Frame} {meth : Method} {c : Code} {k n nL : Nat} {Q : State → Prop} {G : sv_G} {Wd Wd' : Heap → Prop}
variable {cc : ByteArray} {pc : Nat} {lv lv' : List (Nat × Value)} {st rest : List Value} {own : String} {z : Nat} {M : sv_M} {o : Int64}
theorem sv_getg (C : sv_C p l s m args meth c cc nL own G) {Cn : String} {T : u_T} {N ci f ix a : Nat} {fs : List Value} {v : Value} (hcl : sv_cls ci Cn T N) (hat : ∀ H, Wd H → va_at (sv_D G) vwCl (a, .inr (ci, fs)) H) (hf : f < N) (hlink : Cond.fieldLink own ix (T f).1 (T f).2.1 (T f).2.2.1 ∈ sv_tbl) (hv : fs[f]? = some v) (d : decode cc pc = .ok (.getfield ix, 3)) (kk : sv_V p l e R s m args below meth c nL G Q k n Wd (pc + 3) lv (v :: st)) : sv_V p l e R s m args below meth c nL G Q k n Wd pc lv (.ref a :: st) := fun H locs ls h1 h2 h3 =>
  va_get C.1 C.2.1 (Ts := sv_tbl) (fun w hw => C.2.2.2.2.2.word hw args) hcl.2.1 C.2.2.2.1 C.2.2.2.2.2.1 (sv_one (hat H h1)) 0 rfl hcl.1 f hf (C.2.2.2.2.2.word hlink args) (fun _ h => h) hv d (kk H locs ls h1 h2 h3)
theorem sv_putg (C : sv_C p l s m args meth c cc nL own G) {Cn : String} {T : u_T} {N ci f ix a : Nat} {fs : List Value} {v : Value} {ty : FieldType} (hcl : sv_cls ci Cn T N) (hA : G.1 ≤ a) (hat : ∀ H, Wd H → va_at (sv_D G) vwCl (a, .inr (ci, fs)) H) (hf : f < N) (hlink : Cond.fieldLink own ix (T f).1 (T f).2.1 (T f).2.2.1 ∈ sv_tbl) (hfin : (T f).2.2.2 = false) (hd : parseFieldDescriptor (T f).2.2.1 = some ty) (hn : narrow ty v = v) (hfit : fits ty v = true) (hl : fs.length = N) (hset : ∀ H H1, Wd H → H1.size = H.size → (∀ q : Nat, q ≠ a → H1[q]? = H[q]?) → va_at (sv_D G) vwCl (a, .inr (ci, fs.set f v)) H1 → Wd' H1) (d : decode cc pc = .ok (.putfield ix, 3)) (kk : sv_V p l e R s m args below meth c nL G Q k n Wd' (pc + 3) lv st) : sv_V p l e R s m args below meth c nL G Q k n Wd pc lv (v :: .ref a :: st) := by
  intro H locs ls h1 h2 h3
  obtain ⟨hc, hin, ⟨ty0, hty⟩, hnm⟩ := hcl
  have hts : ∀ w ∈ sv_tbl, w.before args s = true := fun w hw => C.2.2.2.2.2.word hw args
  have hK := C.2.2.2.2.2.1
  have hap := va_apart (own := own) hts hin ty0 hty hnm hK hc
  obtain ⟨r, h4, cell, q1, q2, q3, q4⟩ := hat H h1
  have hr : r = (Cn, T, N) := Option.some.inj (h4.symm.trans hc)
  subst hr
  obtain ⟨hS, hfc, kC, hkC, hkind⟩ := hK.1 ci _ hc
  obtain ⟨cf, kf, fi, fd, hi, hsl⟩ := hS f hf
  have hlay := hts _ (hin _ (u_in_lay hf))
  unfold u_lay at hlay
  rw [if_neg (by rw [hfin]; decide)] at hlay
  have hst := (u_facts hfc hkC (u_lays hts hin hf) hi).1
  have h6 := u_store hfc hkC hkind hlay hi hd hn hfit
  refine W.putK C.1 C.2.1 (f := fd) ⟨C.2.2.2.1, C.2.2.2.2.2.word hlink args, ⟨_, _, _, hi⟩, hst⟩ (by rw [q2]; exact h6) q1 q3 (by rw [hsl]; exact k2_hasslot (q4 f hf)) rfl rfl d fun H' e1 e2 e3 => ?_
  rw [hsl] at e1 ⊢
  exact kk H' _ ls (hset H H' h1 e2 e3 ⟨_, hc, t_OB.to (V := updV (vp_V fs) f v) ⟨_, e1, q2, q3, t_set q4 hap hf v⟩ (fun j _ => vp_updV_set (by rw [hl]; exact hf) v j)⟩) (h2.put e2 e3 hA) h3
theorem sv_putFg (C : sv_C p l s m args meth c cc nL own G) {Cn : String} {T : u_T} {N ci f ix a : Nat} {fs : List Value} {v : Value} {ty : FieldType} (hcl : sv_cls ci Cn T N) (hA : G.1 ≤ a) (hat : ∀ H, Wd H → va_at (sv_D G) vwCl (a, .inr (ci, fs)) H) (hf : f < N) (hlink : Cond.fieldLink own ix (T f).1 (T f).2.1 (T f).2.2.1 ∈ sv_tbl) (hfin : (T f).2.2.2 = true) (hin2 : meth.name = "<init>") (hdecl : (T f).1 = own) (hd : parseFieldDescriptor (T f).2.2.1 = some ty) (hn : narrow ty v = v) (hfit : fits ty v = true) (hl : fs.length = N) (hset : ∀ H H1, Wd H → H1.size = H.size → (∀ q : Nat, q ≠ a → H1[q]? = H[q]?) → va_at (sv_D G) vwCl (a, .inr (ci, fs.set f v)) H1 → Wd' H1) (d : decode cc pc = .ok (.putfield ix, 3)) (kk : sv_V p l e R s m args below meth c nL G Q k n Wd' (pc + 3) lv st) : sv_V p l e R s m args below meth c nL G Q k n Wd pc lv (v :: .ref a :: st) := by
  intro H locs ls h1 h2 h3
  obtain ⟨hc, hin, ⟨ty0, hty⟩, hnm⟩ := hcl
  have hown := C.2.2.2.1
  have hts : ∀ w ∈ sv_tbl, w.before args s = true := fun w hw => C.2.2.2.2.2.word hw args
  have hK := C.2.2.2.2.2.1
  have hap := va_apart (own := own) hts hin ty0 hty hnm hK hc
  obtain ⟨r, h4, cell, q1, q2, q3, q4⟩ := hat H h1
  have hr : r = (Cn, T, N) := Option.some.inj (h4.symm.trans hc)
  subst hr
  obtain ⟨hS, hfc, kC, hkC, hkind⟩ := hK.1 ci _ hc
  obtain ⟨cf, kf, fi, fd, hi, hsl⟩ := hS f hf
  have hlay := hts _ (hin _ (u_in_lay hf))
  unfold u_lay at hlay
  rw [if_pos hfin] at hlay
  have hst := (u_facts hfc hkC (u_lays hts hin hf) hi).1
  have hcf : m.cls = cf := by
    obtain ⟨_, _, c', _, _, _, -, -, hf', -, -, -, hown2, -⟩ := Cond.laysFinal_spec hlay
    have e1 : c' = cf := by have := hi.symm.trans hf'; simp at this; exact this.1.symm
    rw [hdecl] at hown2
    rw [← e1]; exact Option.some.inj (hown.symm.trans hown2)
  have h6 := u_fits hfc hkC hkind (Or.inr hlay) hi hd hn hfit
  refine W.putFinK C.1 C.2.1 hown (C.2.2.2.2.2.word hlink args) hi hst hcf hin2 (by rw [q2]; exact h6) q1 q3 (by rw [hsl]; exact k2_hasslot (q4 f hf)) rfl rfl d fun H' e1 e2 e3 => ?_
  rw [hsl] at e1 ⊢
  exact kk H' _ ls (hset H H' h1 e2 e3 ⟨_, hc, t_OB.to (V := updV (vp_V fs) f v) ⟨_, e1, q2, q3, t_set q4 hap hf v⟩ (fun j _ => vp_updV_set (by rw [hl]; exact hf) v j)⟩) (h2.put e2 e3 hA) h3
theorem sv_ialdg (C : sv_C p l s m args meth c cc nL own G) {a nn : Nat} {f : Nat → Int32} {i : Int32} (hat : ∀ H, Wd H → va_at (sv_D G) vwCl (a, .inl (sv_cI G, nn, .inl f)) H) (hin : vp_in i nn) (d : decode cc pc = .ok (.iaload, 1)) (kk : sv_V p l e R s m args below meth c nL G Q k n Wd (pc + 1) lv (.int (f i.toNatClampNeg) :: st)) : sv_V p l e R s m args below meth c nL G Q k n Wd pc lv (.int i :: .ref a :: st) := fun H locs ls h1 h2 h3 => va_iald C.1 C.2.1 C.2.2.2.2.2.1 (sv_one (hat H h1)) 0 0 rfl rfl hin d (kk H locs ls h1 h2 h3)
theorem sv_caldg (C : sv_C p l s m args meth c cc nL own G) {a nn : Nat} {f : Nat → Int32} {i : Int32} (hat : ∀ H, Wd H → va_at (sv_D G) vwCl (a, .inl (sv_cC G, nn, .inl f)) H) (hin : vp_in i nn) (d : decode cc pc = .ok (.caload, 1)) (kk : sv_V p l e R s m args below meth c nL G Q k n Wd (pc + 1) lv (.int (f i.toNatClampNeg) :: st)) : sv_V p l e R s m args below meth c nL G Q k n Wd pc lv (.int i :: .ref a :: st) := fun H locs ls h1 h2 h3 => va_cald C.1 C.2.1 C.2.2.2.2.2.1 (sv_one (hat H h1)) 0 1 rfl rfl hin d (kk H locs ls h1 h2 h3)
theorem sv_aldqg (C : sv_C p l s m args meth c cc nL own G) {a nn : Nat} {f : Nat → Option Nat} {i : Int32} (hat : ∀ H, Wd H → va_at (sv_D G) vwCl (a, .inl (sv_cS G, nn, .inr (.inr (.inr (.inr f))))) H) (hin : vp_in i nn) (d : decode cc pc = .ok (.aaload, 1)) (kk : sv_V p l e R s m args below meth c nL G Q k n Wd (pc + 1) lv (va_rf (f i.toNatClampNeg) :: st)) : sv_V p l e R s m args below meth c nL G Q k n Wd pc lv (.int i :: .ref a :: st) := fun H locs ls h1 h2 h3 => va_aldq C.1 C.2.1 C.2.2.2.2.2.1 (sv_one (hat H h1)) 0 2 rfl rfl hin d (kk H locs ls h1 h2 h3)
theorem sv_iastg (C : sv_C p l s m args meth c cc nL own G) {a nn : Nat} {f : Nat → Int32} {i x : Int32} (hA : G.1 ≤ a) (hat : ∀ H, Wd H → va_at (sv_D G) vwCl (a, .inl (sv_cI G, nn, .inl f)) H) (hin : vp_in i nn) (hset : ∀ H H1, Wd H → H1.size = H.size → (∀ q : Nat, q ≠ a → H1[q]? = H[q]?) → va_at (sv_D G) vwCl (a, .inl (sv_cI G, nn, .inl (upd f i.toNatClampNeg x))) H1 → Wd' H1) (d : decode cc pc = .ok (.iastore, 1)) (kk : sv_V p l e R s m args below meth c nL G Q k n Wd' (pc + 1) lv st) : sv_V p l e R s m args below meth c nL G Q k n Wd pc lv (.int x :: .int i :: .ref a :: st) := by
  intro H locs ls h1 h2 h3
  refine W.iast C.1 C.2.1 (hat H h1) ((C.2.2.2.2.2.1.2 0 _ rfl).1 nn (fun j => .int (f j))) (fun q => by cases q) (by show ¬ (i < 0 ∨ (arrV _ _ _).slots.size ≤ _); rw [arrV_size]; exact hin) rfl rfl d fun H1 e1 z1 oq => ?_
  refine kk H1 _ ls (hset H H1 h1 z1 oq ?_) (h2.put z1 oq hA) h3
  show H1[a]? = some (vp_cell _ _)
  rw [e1, vp_cell_i, vp_cell_i, arrV_store]
  congr 2
  funext q
  by_cases hq : q = i.toNatClampNeg
  · subst hq
    simp [updV, upd]
  · simp [updV, upd, hq]
theorem sv_castg (C : sv_C p l s m args meth c cc nL own G) {a nn : Nat} {f : Nat → Int32} {i x : Int32} (hA : G.1 ≤ a) (hat : ∀ H, Wd H → va_at (sv_D G) vwCl (a, .inl (sv_cC G, nn, .inl f)) H) (hin : vp_in i nn) (hx : narrow .char (.int x) = .int x) (hset : ∀ H H1, Wd H → H1.size = H.size → (∀ q : Nat, q ≠ a → H1[q]? = H[q]?) → va_at (sv_D G) vwCl (a, .inl (sv_cC G, nn, .inl (upd f i.toNatClampNeg x))) H1 → Wd' H1) (d : decode cc pc = .ok (.castore, 1)) (kk : sv_V p l e R s m args below meth c nL G Q k n Wd' (pc + 1) lv st) : sv_V p l e R s m args below meth c nL G Q k n Wd pc lv (.int x :: .int i :: .ref a :: st) := by
  intro H locs ls h1 h2 h3
  refine W.cast C.1 C.2.1 (hat H h1) ((C.2.2.2.2.2.1.2 1 _ rfl).1 nn (fun j => .int (f j))) (fun q => by cases q) (by show ¬ (i < 0 ∨ (arrV _ _ _).slots.size ≤ _); rw [arrV_size]; exact hin) rfl rfl d fun H1 e1 z1 oq => ?_
  refine kk H1 _ ls (hset H H1 h1 z1 oq ?_) (h2.put z1 oq hA) h3
  show H1[a]? = some (vp_cell _ _)
  rw [e1, hx, vp_cell_i, vp_cell_i, arrV_store]
  congr 2
  funext q
  by_cases hq : q = i.toNatClampNeg
  · subst hq
    simp [updV, upd]
  · simp [updV, upd, hq]
theorem sv_aleng (C : sv_C p l s m args meth c cc nL own G) {a nn t0 : Nat} {x : (Nat → Int32) ⊕ (Nat → Int64) ⊕ (Nat → UInt32) ⊕ (Nat → UInt64) ⊕ (Nat → Option Nat)} {cA : ClassId} {ty : FieldType} {v : Int32} (hat : ∀ H, Wd H → va_at (sv_D G) vwCl (a, .inl (cA, nn, x)) H) (ht : (sv_tys G)[t0]? = some (cA, ty)) (hv : Int32.ofNat nn = v) (d : decode cc pc = .ok (.arraylength, 1)) (kk : sv_V p l e R s m args below meth c nL G Q k n Wd (pc + 1) lv (.int v :: st)) : sv_V p l e R s m args below meth c nL G Q k n Wd pc lv (.ref a :: st) := fun H locs ls h1 h2 h3 => va_alen C.1 C.2.1 C.2.2.2.2.2.1 (sv_one (hat H h1)) 0 t0 rfl ht hv d (kk H locs ls h1 h2 h3)
theorem sv_i_inj {c i j : Nat} (h : sv_i c i = sv_i c j) : i = j := by
  unfold sv_i at h
  repeat' split at h
  all_goals omega
theorem sv_iald (C : sv_C p l s m args meth c cc nL own G) {c' j : Nat} {i : Int32} (hok : sv_ok c' j = true) (hr : sv_ir c' = true) (hin : vp_in i (sv_n c')) (d : decode cc pc = .ok (.iaload, 1)) (kk : sv_V p l e R s m args below meth c nL G Q k n (sv_W G z M o) (pc + 1) lv (.int (M (sv_q c' j) (sv_i c' i.toNatClampNeg)) :: st)) : sv_V p l e R s m args below meth c nL G Q k n (sv_W G z M o) pc lv (.int i :: .ref (sv_r G c' j) :: st) := sv_ialdg C (fun H h => by have h9 := h.2.2 c' j hok; rw [sv_rows hr] at h9; exact h9) hin d kk
theorem sv_iast (C : sv_C p l s m args meth c cc nL own G) {c' j : Nat} {i x : Int32} (hok : sv_ok c' j = true) (hr : sv_ir c' = true) (hin : vp_in i (sv_n c')) (d : decode cc pc = .ok (.iastore, 1)) (kk : sv_V p l e R s m args below meth c nL G Q k n (sv_W G z (sv_w M (sv_q c' j) (sv_i c' i.toNatClampNeg) x) o) (pc + 1) lv st) : sv_V p l e R s m args below meth c nL G Q k n (sv_W G z M o) pc lv (.int x :: .int i :: .ref (sv_r G c' j) :: st) := sv_iastg C (Nat.le_add_right _ _) (fun H h => by have h9 := h.2.2 c' j hok; rw [sv_rows hr] at h9; exact h9) hin (fun H H1 h z1 oq hat => by
  have hlt : i.toNatClampNeg < sv_n c' := Nat.not_le.mp fun q => hin (Or.inr q)
  refine h.put hok (sv_ow_row hok (Or.inl hr) hlt) z1 oq ?_
  rw [sv_rows hr]
  have e : (fun k => sv_w M (sv_q c' j) (sv_i c' i.toNatClampNeg) x (sv_q c' j) (sv_i c' k)) = upd (fun k => M (sv_q c' j) (sv_i c' k)) i.toNatClampNeg x := by
    funext k
    by_cases hk : k = i.toNatClampNeg
    · subst hk
      simp [sv_w, upd]
    · have hk2 : ¬ sv_i c' k = sv_i c' i.toNatClampNeg := fun h => hk (sv_i_inj h)
      simp [sv_w, upd, hk, hk2]
  rw [e]
  exact hat) d kk
theorem sv_cald (C : sv_C p l s m args meth c cc nL own G) {i : Int32} (hin : vp_in i 60) (d : decode cc pc = .ok (.caload, 1)) (kk : sv_V p l e R s m args below meth c nL G Q k n (sv_W G z M o) (pc + 1) lv (.int (M 9 i.toNatClampNeg) :: st)) : sv_V p l e R s m args below meth c nL G Q k n (sv_W G z M o) pc lv (.int i :: .ref (sv_r G 18 0) :: st) := sv_caldg C (fun H h => h.2.2 18 0 rfl) hin d kk
theorem sv_cast (C : sv_C p l s m args meth c cc nL own G) {i x : Int32} (hin : vp_in i 60) (hx : narrow .char (.int x) = .int x) (d : decode cc pc = .ok (.castore, 1)) (kk : sv_V p l e R s m args below meth c nL G Q k n (sv_W G z (sv_w M 9 i.toNatClampNeg x) o) (pc + 1) lv st) : sv_V p l e R s m args below meth c nL G Q k n (sv_W G z M o) pc lv (.int x :: .int i :: .ref (sv_r G 18 0) :: st) := sv_castg C (f := fun k => M 9 k) (Nat.le_add_right _ _) (fun H h => h.2.2 18 0 rfl) hin hx (fun H H1 h z1 oq hat => by
  have hlt : i.toNatClampNeg < 60 := Nat.not_le.mp fun q => hin (Or.inr q)
  refine h.put (c := 18) (j := 0) rfl (by simp [sv_ow, hlt]) z1 oq ?_
  have e : (fun k => sv_w M 9 i.toNatClampNeg x 9 k) = upd (fun k => M 9 k) i.toNatClampNeg x := by
    funext k
    by_cases hk : k = i.toNatClampNeg
    · subst hk
      simp [sv_w, upd]
    · simp [sv_w, upd, hk]
  show va_at (sv_D G) vwCl (sv_r G 18 0, .inl (sv_cC G, 60, .inl (fun k => sv_w M 9 i.toNatClampNeg x 9 k))) H1
  rw [e]
  exact hat) d kk
theorem sv_aldq (C : sv_C p l s m args meth c cc nL own G) {i : Int32} (hin : vp_in i 6) (d : decode cc pc = .ok (.aaload, 1)) (kk : sv_V p l e R s m args below meth c nL G Q k n (sv_W G z M o) (pc + 1) lv (.ref (sv_r G 0 (2 + i.toNatClampNeg)) :: st)) : sv_V p l e R s m args below meth c nL G Q k n (sv_W G z M o) pc lv (.int i :: .ref (sv_r G 16 0) :: st) := sv_aldqg C (fun H h => h.2.2 16 0 rfl) hin d kk
theorem sv_alen (C : sv_C p l s m args meth c cc nL own G) {c' j : Nat} {v : Int32} (hok : sv_ok c' j = true) (hr : sv_ir c' = true) (hv : Int32.ofNat (sv_n c') = v) (d : decode cc pc = .ok (.arraylength, 1)) (kk : sv_V p l e R s m args below meth c nL G Q k n (sv_W G z M o) (pc + 1) lv (.int v :: st)) : sv_V p l e R s m args below meth c nL G Q k n (sv_W G z M o) pc lv (.ref (sv_r G c' j) :: st) := sv_aleng C (t0 := 0) (fun H h => by have h9 := h.2.2 c' j hok; rw [sv_rows hr] at h9; exact h9) rfl hv d kk
theorem sv_alenC (C : sv_C p l s m args meth c cc nL own G) {v : Int32} (hv : Int32.ofNat 60 = v) (d : decode cc pc = .ok (.arraylength, 1)) (kk : sv_V p l e R s m args below meth c nL G Q k n (sv_W G z M o) (pc + 1) lv (.int v :: st)) : sv_V p l e R s m args below meth c nL G Q k n (sv_W G z M o) pc lv (.ref (sv_r G 18 0) :: st) := sv_aleng C (t0 := 1) (fun H h => h.2.2 18 0 rfl) rfl hv d kk
theorem sv_alenS (C : sv_C p l s m args meth c cc nL own G) {v : Int32} (hv : Int32.ofNat 6 = v) (d : decode cc pc = .ok (.arraylength, 1)) (kk : sv_V p l e R s m args below meth c nL G Q k n (sv_W G z M o) (pc + 1) lv (.int v :: st)) : sv_V p l e R s m args below meth c nL G Q k n (sv_W G z M o) pc lv (.ref (sv_r G 16 0) :: st) := sv_aleng C (t0 := 2) (fun H h => h.2.2 16 0 rfl) rfl hv d kk
theorem sv_gets0 (C : sv_C p l s m args meth c cc nL own G) {ix : Nat} (hlink : Cond.fieldLink own ix "StairLight" "FIRST_VALUES" "[I" ∈ sv_tbl) (d : decode cc pc = .ok (.getstatic ix, 3)) (kk : sv_V p l e R s m args below meth c nL G Q k n Wd (pc + 3) lv (.ref G.2.2.2.1 :: st)) : sv_V p l e R s m args below meth c nL G Q k n Wd pc lv st := fun H locs ls h1 h2 h3 => va_gets C.1 C.2.1 C.2.2.2.2.2.2.1.1.1 h2 C.2.2.2.1 (C.2.2.2.2.2.word hlink args) (fun _ h => h) d (kk H locs ls h1 h2 h3)
theorem sv_sald0 (C : sv_C p l s m args meth c cc nL own G) {i : Int32} (hin : vp_in i 4) (d : decode cc pc = .ok (.iaload, 1)) (kk : sv_V p l e R s m args below meth c nL G Q k n Wd (pc + 1) lv (.int (sv_F 0 i.toNatClampNeg) :: st)) : sv_V p l e R s m args below meth c nL G Q k n Wd pc lv (.int i :: .ref G.2.2.2.1 :: st) := fun H locs ls h1 h2 h3 => va_ti C.1 C.2.1 C.2.2.2.2.2.2.1.1.2 h2 hin rfl d (kk H locs ls h1 h2 h3)
theorem sv_salen0 (C : sv_C p l s m args meth c cc nL own G) (d : decode cc pc = .ok (.arraylength, 1)) (kk : sv_V p l e R s m args below meth c nL G Q k n Wd (pc + 1) lv (.int (nI 4) :: st)) : sv_V p l e R s m args below meth c nL G Q k n Wd pc lv (.ref G.2.2.2.1 :: st) := fun H locs ls h1 h2 h3 => va_tlen C.1 C.2.1 C.2.2.2.2.2.2.1.1.2 h2 rfl d (kk H locs ls h1 h2 h3)
theorem sv_gets1 (C : sv_C p l s m args meth c cc nL own G) {ix : Nat} (hlink : Cond.fieldLink own ix "StairLight" "LEAST_VALUES" "[I" ∈ sv_tbl) (d : decode cc pc = .ok (.getstatic ix, 3)) (kk : sv_V p l e R s m args below meth c nL G Q k n Wd (pc + 3) lv (.ref G.2.2.2.2.1 :: st)) : sv_V p l e R s m args below meth c nL G Q k n Wd pc lv st := fun H locs ls h1 h2 h3 => va_gets C.1 C.2.1 C.2.2.2.2.2.2.1.2.1.1 h2 C.2.2.2.1 (C.2.2.2.2.2.word hlink args) (fun _ h => h) d (kk H locs ls h1 h2 h3)
theorem sv_sald1 (C : sv_C p l s m args meth c cc nL own G) {i : Int32} (hin : vp_in i 4) (d : decode cc pc = .ok (.iaload, 1)) (kk : sv_V p l e R s m args below meth c nL G Q k n Wd (pc + 1) lv (.int (sv_F 1 i.toNatClampNeg) :: st)) : sv_V p l e R s m args below meth c nL G Q k n Wd pc lv (.int i :: .ref G.2.2.2.2.1 :: st) := fun H locs ls h1 h2 h3 => va_ti C.1 C.2.1 C.2.2.2.2.2.2.1.2.1.2 h2 hin rfl d (kk H locs ls h1 h2 h3)
theorem sv_salen1 (C : sv_C p l s m args meth c cc nL own G) (d : decode cc pc = .ok (.arraylength, 1)) (kk : sv_V p l e R s m args below meth c nL G Q k n Wd (pc + 1) lv (.int (nI 4) :: st)) : sv_V p l e R s m args below meth c nL G Q k n Wd pc lv (.ref G.2.2.2.2.1 :: st) := fun H locs ls h1 h2 h3 => va_tlen C.1 C.2.1 C.2.2.2.2.2.2.1.2.1.2 h2 rfl d (kk H locs ls h1 h2 h3)
theorem sv_gets2 (C : sv_C p l s m args meth c cc nL own G) {ix : Nat} (hlink : Cond.fieldLink own ix "StairLight" "GREATEST_VALUES" "[I" ∈ sv_tbl) (d : decode cc pc = .ok (.getstatic ix, 3)) (kk : sv_V p l e R s m args below meth c nL G Q k n Wd (pc + 3) lv (.ref G.2.2.2.2.2 :: st)) : sv_V p l e R s m args below meth c nL G Q k n Wd pc lv st := fun H locs ls h1 h2 h3 => va_gets C.1 C.2.1 C.2.2.2.2.2.2.1.2.2.1.1 h2 C.2.2.2.1 (C.2.2.2.2.2.word hlink args) (fun _ h => h) d (kk H locs ls h1 h2 h3)
theorem sv_sald2 (C : sv_C p l s m args meth c cc nL own G) {i : Int32} (hin : vp_in i 4) (d : decode cc pc = .ok (.iaload, 1)) (kk : sv_V p l e R s m args below meth c nL G Q k n Wd (pc + 1) lv (.int (sv_F 2 i.toNatClampNeg) :: st)) : sv_V p l e R s m args below meth c nL G Q k n Wd pc lv (.int i :: .ref G.2.2.2.2.2 :: st) := fun H locs ls h1 h2 h3 => va_ti C.1 C.2.1 C.2.2.2.2.2.2.1.2.2.1.2 h2 hin rfl d (kk H locs ls h1 h2 h3)
theorem sv_salen2 (C : sv_C p l s m args meth c cc nL own G) (d : decode cc pc = .ok (.arraylength, 1)) (kk : sv_V p l e R s m args below meth c nL G Q k n Wd (pc + 1) lv (.int (nI 4) :: st)) : sv_V p l e R s m args below meth c nL G Q k n Wd pc lv (.ref G.2.2.2.2.2 :: st) := fun H locs ls h1 h2 h3 => va_tlen C.1 C.2.1 C.2.2.2.2.2.2.1.2.2.1.2 h2 rfl d (kk H locs ls h1 h2 h3)
theorem sv_scald (C : sv_C p l s m args meth c cc nL own G) {i : Int32} (hin : vp_in i (sv_L G)) (d : decode cc pc = .ok (.iaload, 1)) (kk : sv_V p l e R s m args below meth c nL G Q k n Wd (pc + 1) lv (.int (sv_xs G i.toNatClampNeg) :: st)) : sv_V p l e R s m args below meth c nL G Q k n Wd pc lv (.int i :: .ref (sv_b G) :: st) := fun H locs ls h1 h2 h3 => va_ti C.1 C.2.1 C.2.2.2.2.2.2.1.2.2.2 h2 hin rfl d (kk H locs ls h1 h2 h3)
theorem sv_sclen (C : sv_C p l s m args meth c cc nL own G) (d : decode cc pc = .ok (.arraylength, 1)) (kk : sv_V p l e R s m args below meth c nL G Q k n Wd (pc + 1) lv (.int (nI (sv_L G)) :: st)) : sv_V p l e R s m args below meth c nL G Q k n Wd pc lv (.ref (sv_b G) :: st) := fun H locs ls h1 h2 h3 => va_tlen C.1 C.2.1 C.2.2.2.2.2.2.1.2.2.2 h2 rfl d (kk H locs ls h1 h2 h3)
theorem sv_gets0N (C : sv_C p l s m args meth c cc nL own G) (ho : own = "StairLight$Stairs") (d : decode cc pc = .ok (.getstatic 25, 3)) (kk : sv_V p l e R s m args below meth c nL G Q k n Wd (pc + 3) lv (.ref G.2.2.2.1 :: st)) : sv_V p l e R s m args below meth c nL G Q k n Wd pc lv st := fun H locs ls h1 h2 h3 => by
  subst ho
  exact va_getsN C.1 C.2.1 C.2.2.2.2.2.2.1.1.1 h2 C.2.2.2.1 (va_Nw.use rfl C.2.2.2.2.2.2.2.1.2) (fun _ h => h) d (kk H locs ls h1 h2 h3)
theorem sv_get_0_0 (C : sv_C p l s m args meth c cc nL own G) {j : Nat} (hj : j < 8) {ix : Nat} (hlink : Cond.fieldLink own ix "StairLight$Floors" "burning" "[I" ∈ sv_tbl) (d : decode cc pc = .ok (.getfield ix, 3)) (kk : sv_V p l e R s m args below meth c nL G Q k n (sv_W G z M o) (pc + 3) lv (.ref (sv_r G 2 j) :: st)) : sv_V p l e R s m args below meth c nL G Q k n (sv_W G z M o) pc lv (.ref (sv_r G 1 j) :: st) := sv_getg C (f := 0) sv_cl0 (fun H h => h.2.2 1 j (by simp [sv_ok, hj])) (by decide) hlink rfl d kk
theorem sv_get_0_1 (C : sv_C p l s m args meth c cc nL own G) {j : Nat} (hj : j < 8) {ix : Nat} (hlink : Cond.fieldLink own ix "StairLight$Floors" "sound" "[I" ∈ sv_tbl) (d : decode cc pc = .ok (.getfield ix, 3)) (kk : sv_V p l e R s m args below meth c nL G Q k n (sv_W G z M o) (pc + 3) lv (.ref (sv_r G 3 j) :: st)) : sv_V p l e R s m args below meth c nL G Q k n (sv_W G z M o) pc lv (.ref (sv_r G 1 j) :: st) := sv_getg C (f := 1) sv_cl0 (fun H h => h.2.2 1 j (by simp [sv_ok, hj])) (by decide) hlink rfl d kk
theorem sv_get_0_2 (C : sv_C p l s m args meth c cc nL own G) {j : Nat} (hj : j < 8) {ix : Nat} (hlink : Cond.fieldLink own ix "StairLight$Floors" "darkSeconds" "[I" ∈ sv_tbl) (d : decode cc pc = .ok (.getfield ix, 3)) (kk : sv_V p l e R s m args below meth c nL G Q k n (sv_W G z M o) (pc + 3) lv (.ref (sv_r G 4 j) :: st)) : sv_V p l e R s m args below meth c nL G Q k n (sv_W G z M o) pc lv (.ref (sv_r G 1 j) :: st) := sv_getg C (f := 2) sv_cl0 (fun H h => h.2.2 1 j (by simp [sv_ok, hj])) (by decide) hlink rfl d kk
theorem sv_get_0_3 (C : sv_C p l s m args meth c cc nL own G) {j : Nat} (hj : j < 8) {ix : Nat} (hlink : Cond.fieldLink own ix "StairLight$Floors" "dimSeconds" "[I" ∈ sv_tbl) (d : decode cc pc = .ok (.getfield ix, 3)) (kk : sv_V p l e R s m args below meth c nL G Q k n (sv_W G z M o) (pc + 3) lv (.ref (sv_r G 5 j) :: st)) : sv_V p l e R s m args below meth c nL G Q k n (sv_W G z M o) pc lv (.ref (sv_r G 1 j) :: st) := sv_getg C (f := 3) sv_cl0 (fun H h => h.2.2 1 j (by simp [sv_ok, hj])) (by decide) hlink rfl d kk
theorem sv_get_0_4 (C : sv_C p l s m args meth c cc nL own G) {j : Nat} (hj : j < 8) {ix : Nat} (hlink : Cond.fieldLink own ix "StairLight$Floors" "energy" "[I" ∈ sv_tbl) (d : decode cc pc = .ok (.getfield ix, 3)) (kk : sv_V p l e R s m args below meth c nL G Q k n (sv_W G z M o) (pc + 3) lv (.ref (sv_r G 6 j) :: st)) : sv_V p l e R s m args below meth c nL G Q k n (sv_W G z M o) pc lv (.ref (sv_r G 1 j) :: st) := sv_getg C (f := 4) sv_cl0 (fun H h => h.2.2 1 j (by simp [sv_ok, hj])) (by decide) hlink rfl d kk
theorem sv_get_0_5 (C : sv_C p l s m args meth c cc nL own G) {j : Nat} (hj : j < 8) {ix : Nat} (hlink : Cond.fieldLink own ix "StairLight$Floors" "kindled" "[I" ∈ sv_tbl) (d : decode cc pc = .ok (.getfield ix, 3)) (kk : sv_V p l e R s m args below meth c nL G Q k n (sv_W G z M o) (pc + 3) lv (.ref (sv_r G 7 j) :: st)) : sv_V p l e R s m args below meth c nL G Q k n (sv_W G z M o) pc lv (.ref (sv_r G 1 j) :: st) := sv_getg C (f := 5) sv_cl0 (fun H h => h.2.2 1 j (by simp [sv_ok, hj])) (by decide) hlink rfl d kk
theorem sv_get_1_0 (C : sv_C p l s m args meth c cc nL own G) {ix : Nat} (hlink : Cond.fieldLink own ix "StairLight$History" "states" "[LStairLight$Stairs;" ∈ sv_tbl) (d : decode cc pc = .ok (.getfield ix, 3)) (kk : sv_V p l e R s m args below meth c nL G Q k n (sv_W G z M o) (pc + 3) lv (.ref (sv_r G 16 0) :: st)) : sv_V p l e R s m args below meth c nL G Q k n (sv_W G z M o) pc lv (.ref (sv_r G 15 0) :: st) := sv_getg C (f := 0) sv_cl1 (fun H h => h.2.2 15 0 rfl) (by decide) hlink rfl d kk
theorem sv_get_1_1 (C : sv_C p l s m args meth c cc nL own G) {ix : Nat} (hlink : Cond.fieldLink own ix "StairLight$History" "oldest" "I" ∈ sv_tbl) (d : decode cc pc = .ok (.getfield ix, 3)) (kk : sv_V p l e R s m args below meth c nL G Q k n (sv_W G z M o) (pc + 3) lv (.int (M 8 0) :: st)) : sv_V p l e R s m args below meth c nL G Q k n (sv_W G z M o) pc lv (.ref (sv_r G 15 0) :: st) := sv_getg C (f := 1) sv_cl1 (fun H h => h.2.2 15 0 rfl) (by decide) hlink rfl d kk
theorem sv_put_1_1 (C : sv_C p l s m args meth c cc nL own G) {ix : Nat} {x : Int32} (hlink : Cond.fieldLink own ix "StairLight$History" "oldest" "I" ∈ sv_tbl) (d : decode cc pc = .ok (.putfield ix, 3)) (kk : sv_V p l e R s m args below meth c nL G Q k n (sv_W G z (sv_w M 8 0 x) o) (pc + 3) lv st) : sv_V p l e R s m args below meth c nL G Q k n (sv_W G z M o) pc lv (.int x :: .ref (sv_r G 15 0) :: st) := sv_putg C (f := 1) (ty := .int) sv_cl1 (Nat.le_add_right _ _) (fun H h => h.2.2 15 0 rfl) (by decide) hlink rfl (by decide +kernel) rfl rfl rfl (fun H H1 h z1 oq hat => by
  refine h.put (c := 15) (j := 0) (q := 8) (i := 0) rfl (by simp [sv_ow]) z1 oq ?_
  have e : sv_e G (sv_w M 8 0 x) o 15 0 = .inr (1, [.ref (sv_r G 16 0), .int x, .int (M 8 1)]) := by
    rw [sv_e15]
    simp [sv_w]
  rw [e]
  exact hat) d kk
theorem sv_get_1_2 (C : sv_C p l s m args meth c cc nL own G) {ix : Nat} (hlink : Cond.fieldLink own ix "StairLight$History" "held" "I" ∈ sv_tbl) (d : decode cc pc = .ok (.getfield ix, 3)) (kk : sv_V p l e R s m args below meth c nL G Q k n (sv_W G z M o) (pc + 3) lv (.int (M 8 1) :: st)) : sv_V p l e R s m args below meth c nL G Q k n (sv_W G z M o) pc lv (.ref (sv_r G 15 0) :: st) := sv_getg C (f := 2) sv_cl1 (fun H h => h.2.2 15 0 rfl) (by decide) hlink rfl d kk
theorem sv_put_1_2 (C : sv_C p l s m args meth c cc nL own G) {ix : Nat} {x : Int32} (hlink : Cond.fieldLink own ix "StairLight$History" "held" "I" ∈ sv_tbl) (d : decode cc pc = .ok (.putfield ix, 3)) (kk : sv_V p l e R s m args below meth c nL G Q k n (sv_W G z (sv_w M 8 1 x) o) (pc + 3) lv st) : sv_V p l e R s m args below meth c nL G Q k n (sv_W G z M o) pc lv (.int x :: .ref (sv_r G 15 0) :: st) := sv_putg C (f := 2) (ty := .int) sv_cl1 (Nat.le_add_right _ _) (fun H h => h.2.2 15 0 rfl) (by decide) hlink rfl (by decide +kernel) rfl rfl rfl (fun H H1 h z1 oq hat => by
  refine h.put (c := 15) (j := 0) (q := 8) (i := 1) rfl (by simp [sv_ow]) z1 oq ?_
  have e : sv_e G (sv_w M 8 1 x) o 15 0 = .inr (1, [.ref (sv_r G 16 0), .int (M 8 0), .int x]) := by
    rw [sv_e15]
    simp [sv_w]
  rw [e]
  exact hat) d kk
theorem sv_get_2_0 (C : sv_C p l s m args meth c cc nL own G) {j : Nat} (hj : j < 8) {ix : Nat} (hlink : Cond.fieldLink own ix "StairLight$People" "numbers" "[I" ∈ sv_tbl) (d : decode cc pc = .ok (.getfield ix, 3)) (kk : sv_V p l e R s m args below meth c nL G Q k n (sv_W G z M o) (pc + 3) lv (.ref (sv_r G 9 j) :: st)) : sv_V p l e R s m args below meth c nL G Q k n (sv_W G z M o) pc lv (.ref (sv_r G 8 j) :: st) := sv_getg C (f := 0) sv_cl2 (fun H h => h.2.2 8 j (by simp [sv_ok, hj])) (by decide) hlink rfl d kk
theorem sv_get_2_1 (C : sv_C p l s m args meth c cc nL own G) {j : Nat} (hj : j < 8) {ix : Nat} (hlink : Cond.fieldLink own ix "StairLight$People" "floors" "[I" ∈ sv_tbl) (d : decode cc pc = .ok (.getfield ix, 3)) (kk : sv_V p l e R s m args below meth c nL G Q k n (sv_W G z M o) (pc + 3) lv (.ref (sv_r G 10 j) :: st)) : sv_V p l e R s m args below meth c nL G Q k n (sv_W G z M o) pc lv (.ref (sv_r G 8 j) :: st) := sv_getg C (f := 1) sv_cl2 (fun H h => h.2.2 8 j (by simp [sv_ok, hj])) (by decide) hlink rfl d kk
theorem sv_get_2_2 (C : sv_C p l s m args meth c cc nL own G) {j : Nat} (hj : j < 8) {ix : Nat} (hlink : Cond.fieldLink own ix "StairLight$People" "goals" "[I" ∈ sv_tbl) (d : decode cc pc = .ok (.getfield ix, 3)) (kk : sv_V p l e R s m args below meth c nL G Q k n (sv_W G z M o) (pc + 3) lv (.ref (sv_r G 11 j) :: st)) : sv_V p l e R s m args below meth c nL G Q k n (sv_W G z M o) pc lv (.ref (sv_r G 8 j) :: st) := sv_getg C (f := 2) sv_cl2 (fun H h => h.2.2 8 j (by simp [sv_ok, hj])) (by decide) hlink rfl d kk
theorem sv_get_2_3 (C : sv_C p l s m args meth c cc nL own G) {j : Nat} (hj : j < 8) {ix : Nat} (hlink : Cond.fieldLink own ix "StairLight$People" "left" "[I" ∈ sv_tbl) (d : decode cc pc = .ok (.getfield ix, 3)) (kk : sv_V p l e R s m args below meth c nL G Q k n (sv_W G z M o) (pc + 3) lv (.ref (sv_r G 12 j) :: st)) : sv_V p l e R s m args below meth c nL G Q k n (sv_W G z M o) pc lv (.ref (sv_r G 8 j) :: st) := sv_getg C (f := 3) sv_cl2 (fun H h => h.2.2 8 j (by simp [sv_ok, hj])) (by decide) hlink rfl d kk
theorem sv_get_2_4 (C : sv_C p l s m args meth c cc nL own G) {j : Nat} (hj : j < 8) {ix : Nat} (hlink : Cond.fieldLink own ix "StairLight$People" "onStairs" "I" ∈ sv_tbl) (d : decode cc pc = .ok (.getfield ix, 3)) (kk : sv_V p l e R s m args below meth c nL G Q k n (sv_W G z M o) (pc + 3) lv (.int (M j 57) :: st)) : sv_V p l e R s m args below meth c nL G Q k n (sv_W G z M o) pc lv (.ref (sv_r G 8 j) :: st) := sv_getg C (f := 4) sv_cl2 (fun H h => h.2.2 8 j (by simp [sv_ok, hj])) (by decide) hlink rfl d kk
theorem sv_put_2_4 (C : sv_C p l s m args meth c cc nL own G) {j : Nat} (hj : j < 8) {ix : Nat} {x : Int32} (hlink : Cond.fieldLink own ix "StairLight$People" "onStairs" "I" ∈ sv_tbl) (d : decode cc pc = .ok (.putfield ix, 3)) (kk : sv_V p l e R s m args below meth c nL G Q k n (sv_W G z (sv_w M j 57 x) o) (pc + 3) lv st) : sv_V p l e R s m args below meth c nL G Q k n (sv_W G z M o) pc lv (.int x :: .ref (sv_r G 8 j) :: st) := sv_putg C (f := 4) (ty := .int) sv_cl2 (Nat.le_add_right _ _) (fun H h => h.2.2 8 j (by simp [sv_ok, hj])) (by decide) hlink rfl (by decide +kernel) rfl rfl rfl (fun H H1 h z1 oq hat => by
  refine h.put (c := 8) (j := j) (q := j) (i := 57) (by simp [sv_ok, hj]) (by simp [sv_ow, hj]) z1 oq ?_
  have e : sv_e G (sv_w M j 57 x) o 8 j = .inr (2, [.ref (sv_r G 9 j), .ref (sv_r G 10 j), .ref (sv_r G 11 j), .ref (sv_r G 12 j), .int x, .int (M j 5)]) := by
    rw [sv_e8]
    simp [sv_w]
  rw [e]
  exact hat) d kk
theorem sv_get_2_5 (C : sv_C p l s m args meth c cc nL own G) {j : Nat} (hj : j < 8) {ix : Nat} (hlink : Cond.fieldLink own ix "StairLight$People" "came" "I" ∈ sv_tbl) (d : decode cc pc = .ok (.getfield ix, 3)) (kk : sv_V p l e R s m args below meth c nL G Q k n (sv_W G z M o) (pc + 3) lv (.int (M j 5) :: st)) : sv_V p l e R s m args below meth c nL G Q k n (sv_W G z M o) pc lv (.ref (sv_r G 8 j) :: st) := sv_getg C (f := 5) sv_cl2 (fun H h => h.2.2 8 j (by simp [sv_ok, hj])) (by decide) hlink rfl d kk
theorem sv_put_2_5 (C : sv_C p l s m args meth c cc nL own G) {j : Nat} (hj : j < 8) {ix : Nat} {x : Int32} (hlink : Cond.fieldLink own ix "StairLight$People" "came" "I" ∈ sv_tbl) (d : decode cc pc = .ok (.putfield ix, 3)) (kk : sv_V p l e R s m args below meth c nL G Q k n (sv_W G z (sv_w M j 5 x) o) (pc + 3) lv st) : sv_V p l e R s m args below meth c nL G Q k n (sv_W G z M o) pc lv (.int x :: .ref (sv_r G 8 j) :: st) := sv_putg C (f := 5) (ty := .int) sv_cl2 (Nat.le_add_right _ _) (fun H h => h.2.2 8 j (by simp [sv_ok, hj])) (by decide) hlink rfl (by decide +kernel) rfl rfl rfl (fun H H1 h z1 oq hat => by
  refine h.put (c := 8) (j := j) (q := j) (i := 5) (by simp [sv_ok, hj]) (by simp [sv_ow, hj]) z1 oq ?_
  have e : sv_e G (sv_w M j 5 x) o 8 j = .inr (2, [.ref (sv_r G 9 j), .ref (sv_r G 10 j), .ref (sv_r G 11 j), .ref (sv_r G 12 j), .int (M j 57), .int x]) := by
    rw [sv_e8]
    simp [sv_w]
  rw [e]
  exact hat) d kk
theorem sv_get_3_0 (C : sv_C p l s m args meth c cc nL own G) {j : Nat} (hj : j < 8) {ix : Nat} (hlink : Cond.fieldLink own ix "StairLight$Stairs" "floors" "LStairLight$Floors;" ∈ sv_tbl) (d : decode cc pc = .ok (.getfield ix, 3)) (kk : sv_V p l e R s m args below meth c nL G Q k n (sv_W G z M o) (pc + 3) lv (.ref (sv_r G 1 j) :: st)) : sv_V p l e R s m args below meth c nL G Q k n (sv_W G z M o) pc lv (.ref (sv_r G 0 j) :: st) := sv_getg C (f := 0) sv_cl3 (fun H h => h.2.2 0 j (by simp [sv_ok, hj])) (by decide) hlink rfl d kk
theorem sv_get_3_1 (C : sv_C p l s m args meth c cc nL own G) {j : Nat} (hj : j < 8) {ix : Nat} (hlink : Cond.fieldLink own ix "StairLight$Stairs" "people" "LStairLight$People;" ∈ sv_tbl) (d : decode cc pc = .ok (.getfield ix, 3)) (kk : sv_V p l e R s m args below meth c nL G Q k n (sv_W G z M o) (pc + 3) lv (.ref (sv_r G 8 j) :: st)) : sv_V p l e R s m args below meth c nL G Q k n (sv_W G z M o) pc lv (.ref (sv_r G 0 j) :: st) := sv_getg C (f := 1) sv_cl3 (fun H h => h.2.2 0 j (by simp [sv_ok, hj])) (by decide) hlink rfl d kk
theorem sv_get_3_2 (C : sv_C p l s m args meth c cc nL own G) {j : Nat} (hj : j < 8) {ix : Nat} (hlink : Cond.fieldLink own ix "StairLight$Stairs" "settings" "[I" ∈ sv_tbl) (d : decode cc pc = .ok (.getfield ix, 3)) (kk : sv_V p l e R s m args below meth c nL G Q k n (sv_W G z M o) (pc + 3) lv (.ref (sv_r G 13 j) :: st)) : sv_V p l e R s m args below meth c nL G Q k n (sv_W G z M o) pc lv (.ref (sv_r G 0 j) :: st) := sv_getg C (f := 2) sv_cl3 (fun H h => h.2.2 0 j (by simp [sv_ok, hj])) (by decide) hlink rfl d kk
theorem sv_get_3_3 (C : sv_C p l s m args meth c cc nL own G) {j : Nat} (hj : j < 8) {ix : Nat} (hlink : Cond.fieldLink own ix "StairLight$Stairs" "isNight" "Z" ∈ sv_tbl) (d : decode cc pc = .ok (.getfield ix, 3)) (kk : sv_V p l e R s m args below meth c nL G Q k n (sv_W G z M o) (pc + 3) lv (.int (M j 6) :: st)) : sv_V p l e R s m args below meth c nL G Q k n (sv_W G z M o) pc lv (.ref (sv_r G 0 j) :: st) := sv_getg C (f := 3) sv_cl3 (fun H h => h.2.2 0 j (by simp [sv_ok, hj])) (by decide) hlink rfl d kk
theorem sv_put_3_3 (C : sv_C p l s m args meth c cc nL own G) {j : Nat} (hj : j < 8) {ix : Nat} {x : Int32} (hx : x = 0 ∨ x = 1) (hlink : Cond.fieldLink own ix "StairLight$Stairs" "isNight" "Z" ∈ sv_tbl) (d : decode cc pc = .ok (.putfield ix, 3)) (kk : sv_V p l e R s m args below meth c nL G Q k n (sv_W G z (sv_w M j 6 x) o) (pc + 3) lv st) : sv_V p l e R s m args below meth c nL G Q k n (sv_W G z M o) pc lv (.int x :: .ref (sv_r G 0 j) :: st) := sv_putg C (f := 3) (ty := .boolean) sv_cl3 (Nat.le_add_right _ _) (fun H h => h.2.2 0 j (by simp [sv_ok, hj])) (by decide) hlink rfl (by decide +kernel) (by rcases hx with rfl | rfl <;> rfl) (by rcases hx with rfl | rfl <;> rfl) rfl (fun H H1 h z1 oq hat => by
  refine h.put (c := 0) (j := j) (q := j) (i := 6) (by simp [sv_ok, hj]) (by simp [sv_ow, hj]) z1 oq ?_
  have e : sv_e G (sv_w M j 6 x) o 0 j = .inr (3, [.ref (sv_r G 1 j), .ref (sv_r G 8 j), .ref (sv_r G 13 j), .int x, .int (M j 7), .int (M j 4), .int (M j 8)]) := by
    rw [sv_e0]
    simp [sv_w]
  rw [e]
  exact hat) d kk
theorem sv_get_3_4 (C : sv_C p l s m args meth c cc nL own G) {j : Nat} (hj : j < 8) {ix : Nat} (hlink : Cond.fieldLink own ix "StairLight$Stairs" "isFire" "Z" ∈ sv_tbl) (d : decode cc pc = .ok (.getfield ix, 3)) (kk : sv_V p l e R s m args below meth c nL G Q k n (sv_W G z M o) (pc + 3) lv (.int (M j 7) :: st)) : sv_V p l e R s m args below meth c nL G Q k n (sv_W G z M o) pc lv (.ref (sv_r G 0 j) :: st) := sv_getg C (f := 4) sv_cl3 (fun H h => h.2.2 0 j (by simp [sv_ok, hj])) (by decide) hlink rfl d kk
theorem sv_put_3_4 (C : sv_C p l s m args meth c cc nL own G) {j : Nat} (hj : j < 8) {ix : Nat} {x : Int32} (hx : x = 0 ∨ x = 1) (hlink : Cond.fieldLink own ix "StairLight$Stairs" "isFire" "Z" ∈ sv_tbl) (d : decode cc pc = .ok (.putfield ix, 3)) (kk : sv_V p l e R s m args below meth c nL G Q k n (sv_W G z (sv_w M j 7 x) o) (pc + 3) lv st) : sv_V p l e R s m args below meth c nL G Q k n (sv_W G z M o) pc lv (.int x :: .ref (sv_r G 0 j) :: st) := sv_putg C (f := 4) (ty := .boolean) sv_cl3 (Nat.le_add_right _ _) (fun H h => h.2.2 0 j (by simp [sv_ok, hj])) (by decide) hlink rfl (by decide +kernel) (by rcases hx with rfl | rfl <;> rfl) (by rcases hx with rfl | rfl <;> rfl) rfl (fun H H1 h z1 oq hat => by
  refine h.put (c := 0) (j := j) (q := j) (i := 7) (by simp [sv_ok, hj]) (by simp [sv_ow, hj]) z1 oq ?_
  have e : sv_e G (sv_w M j 7 x) o 0 j = .inr (3, [.ref (sv_r G 1 j), .ref (sv_r G 8 j), .ref (sv_r G 13 j), .int (M j 6), .int x, .int (M j 4), .int (M j 8)]) := by
    rw [sv_e0]
    simp [sv_w]
  rw [e]
  exact hat) d kk
theorem sv_get_3_5 (C : sv_C p l s m args meth c cc nL own G) {j : Nat} (hj : j < 8) {ix : Nat} (hlink : Cond.fieldLink own ix "StairLight$Stairs" "seconds" "I" ∈ sv_tbl) (d : decode cc pc = .ok (.getfield ix, 3)) (kk : sv_V p l e R s m args below meth c nL G Q k n (sv_W G z M o) (pc + 3) lv (.int (M j 4) :: st)) : sv_V p l e R s m args below meth c nL G Q k n (sv_W G z M o) pc lv (.ref (sv_r G 0 j) :: st) := sv_getg C (f := 5) sv_cl3 (fun H h => h.2.2 0 j (by simp [sv_ok, hj])) (by decide) hlink rfl d kk
theorem sv_put_3_5 (C : sv_C p l s m args meth c cc nL own G) {j : Nat} (hj : j < 8) {ix : Nat} {x : Int32} (hlink : Cond.fieldLink own ix "StairLight$Stairs" "seconds" "I" ∈ sv_tbl) (d : decode cc pc = .ok (.putfield ix, 3)) (kk : sv_V p l e R s m args below meth c nL G Q k n (sv_W G z (sv_w M j 4 x) o) (pc + 3) lv st) : sv_V p l e R s m args below meth c nL G Q k n (sv_W G z M o) pc lv (.int x :: .ref (sv_r G 0 j) :: st) := sv_putg C (f := 5) (ty := .int) sv_cl3 (Nat.le_add_right _ _) (fun H h => h.2.2 0 j (by simp [sv_ok, hj])) (by decide) hlink rfl (by decide +kernel) rfl rfl rfl (fun H H1 h z1 oq hat => by
  refine h.put (c := 0) (j := j) (q := j) (i := 4) (by simp [sv_ok, hj]) (by simp [sv_ow, hj]) z1 oq ?_
  have e : sv_e G (sv_w M j 4 x) o 0 j = .inr (3, [.ref (sv_r G 1 j), .ref (sv_r G 8 j), .ref (sv_r G 13 j), .int (M j 6), .int (M j 7), .int x, .int (M j 8)]) := by
    rw [sv_e0]
    simp [sv_w]
  rw [e]
  exact hat) d kk
theorem sv_get_3_6 (C : sv_C p l s m args meth c cc nL own G) {j : Nat} (hj : j < 8) {ix : Nat} (hlink : Cond.fieldLink own ix "StairLight$Stairs" "secondsOfPeople" "I" ∈ sv_tbl) (d : decode cc pc = .ok (.getfield ix, 3)) (kk : sv_V p l e R s m args below meth c nL G Q k n (sv_W G z M o) (pc + 3) lv (.int (M j 8) :: st)) : sv_V p l e R s m args below meth c nL G Q k n (sv_W G z M o) pc lv (.ref (sv_r G 0 j) :: st) := sv_getg C (f := 6) sv_cl3 (fun H h => h.2.2 0 j (by simp [sv_ok, hj])) (by decide) hlink rfl d kk
theorem sv_put_3_6 (C : sv_C p l s m args meth c cc nL own G) {j : Nat} (hj : j < 8) {ix : Nat} {x : Int32} (hlink : Cond.fieldLink own ix "StairLight$Stairs" "secondsOfPeople" "I" ∈ sv_tbl) (d : decode cc pc = .ok (.putfield ix, 3)) (kk : sv_V p l e R s m args below meth c nL G Q k n (sv_W G z (sv_w M j 8 x) o) (pc + 3) lv st) : sv_V p l e R s m args below meth c nL G Q k n (sv_W G z M o) pc lv (.int x :: .ref (sv_r G 0 j) :: st) := sv_putg C (f := 6) (ty := .int) sv_cl3 (Nat.le_add_right _ _) (fun H h => h.2.2 0 j (by simp [sv_ok, hj])) (by decide) hlink rfl (by decide +kernel) rfl rfl rfl (fun H H1 h z1 oq hat => by
  refine h.put (c := 0) (j := j) (q := j) (i := 8) (by simp [sv_ok, hj]) (by simp [sv_ow, hj]) z1 oq ?_
  have e : sv_e G (sv_w M j 8 x) o 0 j = .inr (3, [.ref (sv_r G 1 j), .ref (sv_r G 8 j), .ref (sv_r G 13 j), .int (M j 6), .int (M j 7), .int (M j 4), .int x]) := by
    rw [sv_e0]
    simp [sv_w]
  rw [e]
  exact hat) d kk
theorem sv_get_4_0 (C : sv_C p l s m args meth c cc nL own G) {ix : Nat} (hlink : Cond.fieldLink own ix "StairLight$Walks" "codes" "[C" ∈ sv_tbl) (d : decode cc pc = .ok (.getfield ix, 3)) (kk : sv_V p l e R s m args below meth c nL G Q k n (sv_W G z M o) (pc + 3) lv (.ref (sv_r G 18 0) :: st)) : sv_V p l e R s m args below meth c nL G Q k n (sv_W G z M o) pc lv (.ref (sv_r G 17 0) :: st) := sv_getg C (f := 0) sv_cl4 (fun H h => h.2.2 17 0 rfl) (by decide) hlink rfl d kk
theorem sv_get_4_1 (C : sv_C p l s m args meth c cc nL own G) {ix : Nat} (hlink : Cond.fieldLink own ix "StairLight$Walks" "length" "I" ∈ sv_tbl) (d : decode cc pc = .ok (.getfield ix, 3)) (kk : sv_V p l e R s m args below meth c nL G Q k n (sv_W G z M o) (pc + 3) lv (.int (M 9 60) :: st)) : sv_V p l e R s m args below meth c nL G Q k n (sv_W G z M o) pc lv (.ref (sv_r G 17 0) :: st) := sv_getg C (f := 1) sv_cl4 (fun H h => h.2.2 17 0 rfl) (by decide) hlink rfl d kk
theorem sv_put_4_1 (C : sv_C p l s m args meth c cc nL own G) {ix : Nat} {x : Int32} (hlink : Cond.fieldLink own ix "StairLight$Walks" "length" "I" ∈ sv_tbl) (d : decode cc pc = .ok (.putfield ix, 3)) (kk : sv_V p l e R s m args below meth c nL G Q k n (sv_W G z (sv_w M 9 60 x) o) (pc + 3) lv st) : sv_V p l e R s m args below meth c nL G Q k n (sv_W G z M o) pc lv (.int x :: .ref (sv_r G 17 0) :: st) := sv_putg C (f := 1) (ty := .int) sv_cl4 (Nat.le_add_right _ _) (fun H h => h.2.2 17 0 rfl) (by decide) hlink rfl (by decide +kernel) rfl rfl rfl (fun H H1 h z1 oq hat => by
  refine h.put (c := 17) (j := 0) (q := 9) (i := 60) rfl (by simp [sv_ow]) z1 oq ?_
  have e : sv_e G (sv_w M 9 60 x) o 17 0 = .inr (4, [.ref (sv_r G 18 0), .int x]) := by
    rw [sv_e17]
    simp [sv_w]
  rw [e]
  exact hat) d kk
theorem sv_get_5_0 (C : sv_C p l s m args meth c cc nL own G) {ix : Nat} (hlink : Cond.fieldLink own ix "StairLight" "now" "LStairLight$Stairs;" ∈ sv_tbl) (d : decode cc pc = .ok (.getfield ix, 3)) (kk : sv_V p l e R s m args below meth c nL G Q k n (sv_W G z M o) (pc + 3) lv (.ref (sv_r G 0 0) :: st)) : sv_V p l e R s m args below meth c nL G Q k n (sv_W G z M o) pc lv (.ref (sv_r G 14 0) :: st) := sv_getg C (f := 0) sv_cl5 (fun H h => h.2.2 14 0 rfl) (by decide) hlink rfl d kk
theorem sv_get_5_1 (C : sv_C p l s m args meth c cc nL own G) {ix : Nat} (hlink : Cond.fieldLink own ix "StairLight" "trial" "LStairLight$Stairs;" ∈ sv_tbl) (d : decode cc pc = .ok (.getfield ix, 3)) (kk : sv_V p l e R s m args below meth c nL G Q k n (sv_W G z M o) (pc + 3) lv (.ref (sv_r G 0 1) :: st)) : sv_V p l e R s m args below meth c nL G Q k n (sv_W G z M o) pc lv (.ref (sv_r G 14 0) :: st) := sv_getg C (f := 1) sv_cl5 (fun H h => h.2.2 14 0 rfl) (by decide) hlink rfl d kk
theorem sv_get_5_2 (C : sv_C p l s m args meth c cc nL own G) {ix : Nat} (hlink : Cond.fieldLink own ix "StairLight" "history" "LStairLight$History;" ∈ sv_tbl) (d : decode cc pc = .ok (.getfield ix, 3)) (kk : sv_V p l e R s m args below meth c nL G Q k n (sv_W G z M o) (pc + 3) lv (.ref (sv_r G 15 0) :: st)) : sv_V p l e R s m args below meth c nL G Q k n (sv_W G z M o) pc lv (.ref (sv_r G 14 0) :: st) := sv_getg C (f := 2) sv_cl5 (fun H h => h.2.2 14 0 rfl) (by decide) hlink rfl d kk
theorem sv_get_5_3 (C : sv_C p l s m args meth c cc nL own G) {ix : Nat} (hlink : Cond.fieldLink own ix "StairLight" "walks" "LStairLight$Walks;" ∈ sv_tbl) (d : decode cc pc = .ok (.getfield ix, 3)) (kk : sv_V p l e R s m args below meth c nL G Q k n (sv_W G z M o) (pc + 3) lv (.ref (sv_r G 17 0) :: st)) : sv_V p l e R s m args below meth c nL G Q k n (sv_W G z M o) pc lv (.ref (sv_r G 14 0) :: st) := sv_getg C (f := 3) sv_cl5 (fun H h => h.2.2 14 0 rfl) (by decide) hlink rfl d kk
end SVW
