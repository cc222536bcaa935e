/-! what is known of each method by the tables; rows over numbers of known size -/
section SVF
variable {p : Program} {l : Launch} {e : Env} {R : Room} {s : State} {m : MethodId} {args : Array Value} {below : List Frame} {meth : Method} {c : Code} {k n nL : Nat} {Q : State → Prop} {G : sv_G} {Wd Wd' Wx : Heap → Prop}
variable {cc : ByteArray} {pc : Nat} {lv lv' : List (Nat × Value)} {st rest : List Value} {own : String} {z : Nat} {M : sv_M} {o : Int64}
theorem sv_okj {c j : Nat} (hc : c < 14) (hj : j < 8) : sv_ok c j = true := by simp [sv_ok, hc, hj]
theorem sv_nlt (c : Nat) : sv_n c < 2147483648 := by
  unfold sv_n
  repeat' split
  all_goals decide
theorem sv_incN (a n : Nat) : nI a + Int32.ofInt (n : Int) = nI (a + n) := by
  rw [← nI_add]
  rfl
theorem sv_recv0 (C : sv_C p l s m args meth c cc nL own G) {j : Nat} (hj : j < 8) : sv_recv s (sv_W G z M o) RX3 (sv_r G 0 j) := sv_recvg C sv_cl3.1 (fun H h => h.2.2 0 j (sv_okj (by decide) hj))
theorem sv_recv1 (C : sv_C p l s m args meth c cc nL own G) {j : Nat} (hj : j < 8) : sv_recv s (sv_W G z M o) RX0 (sv_r G 1 j) := sv_recvg C sv_cl0.1 (fun H h => h.2.2 1 j (sv_okj (by decide) hj))
theorem sv_recv8 (C : sv_C p l s m args meth c cc nL own G) {j : Nat} (hj : j < 8) : sv_recv s (sv_W G z M o) RX2 (sv_r G 8 j) := sv_recvg C sv_cl2.1 (fun H h => h.2.2 8 j (sv_okj (by decide) hj))
theorem sv_recv14 (C : sv_C p l s m args meth c cc nL own G) : sv_recv s (sv_W G z M o) RX5 (sv_r G 14 0) := sv_recvg C sv_cl5.1 (fun H h => h.2.2 14 0 rfl)
theorem sv_recv15 (C : sv_C p l s m args meth c cc nL own G) : sv_recv s (sv_W G z M o) RX1 (sv_r G 15 0) := sv_recvg C sv_cl1.1 (fun H h => h.2.2 15 0 rfl)
theorem sv_recv17 (C : sv_C p l s m args meth c cc nL own G) : sv_recv s (sv_W G z M o) RX4 (sv_r G 17 0) := sv_recvg C sv_cl4.1 (fun H h => h.2.2 17 0 rfl)
theorem sv_recv19 (C : sv_C p l s m args meth c cc nL own G) : sv_recv s (sv_W G z M o) RX6 (sv_r G 19 0) := sv_recvg C sv_cl6.1 (fun H h => h.2.2 19 0 rfl)
theorem sv_ri {x : Int32} (kk : ∀ v : Int32, v = x → sv_V p l e R s m args below meth c nL G Q k n Wd pc lv (.int v :: st)) : sv_V p l e R s m args below meth c nL G Q k n Wd pc lv ((some (Value.int x)).toList ++ st) := kk x rfl
theorem sv_riN {x : Int32} (a : Nat) (h : x = nI a) (kk : sv_V p l e R s m args below meth c nL G Q k n Wd pc lv (.int (nI a) :: st)) : sv_V p l e R s m args below meth c nL G Q k n Wd pc lv ((some (Value.int x)).toList ++ st) := by subst h; exact kk
theorem sv_riS {x : Int32} (a : Int32) (h : x = a) (kk : sv_V p l e R s m args below meth c nL G Q k n Wd pc lv (.int a :: st)) : sv_V p l e R s m args below meth c nL G Q k n Wd pc lv ((some (Value.int x)).toList ++ st) := by subst h; exact kk
theorem sv_rl {x : Int64} (kk : ∀ v : Int64, v = x → sv_V p l e R s m args below meth c nL G Q k n Wd pc lv (.long v :: st)) : sv_V p l e R s m args below meth c nL G Q k n Wd pc lv ((some (Value.long x)).toList ++ st) := kk x rfl
theorem sv_rlS {x : Int64} (kk : sv_V p l e R s m args below meth c nL G Q k n Wd pc lv (.long x :: st)) : sv_V p l e R s m args below meth c nL G Q k n Wd pc lv ((some (Value.long x)).toList ++ st) := kk
theorem sv_rd {x : UInt64} (kk : ∀ v : UInt64, v = x → sv_V p l e R s m args below meth c nL G Q k n Wd pc lv (.double v :: st)) : sv_V p l e R s m args below meth c nL G Q k n Wd pc lv ((some (Value.double x)).toList ++ st) := kk x rfl
theorem sv_ra {x : Nat} (kk : sv_V p l e R s m args below meth c nL G Q k n Wd pc lv (.ref x :: st)) : sv_V p l e R s m args below meth c nL G Q k n Wd pc lv ((some (Value.ref x)).toList ++ st) := kk
theorem sv_rv (kk : sv_V p l e R s m args below meth c nL G Q k n Wd pc lv st) : sv_V p l e R s m args below meth c nL G Q k n Wd pc lv ((none : Option Value).toList ++ st) := kk
theorem sv_ialdN (C : sv_C p l s m args meth c cc nL own G) {c' j i : Nat} (q p' : Nat) (hq : sv_q c' j = q) (hp : sv_i c' i = p') (hok : sv_ok c' j = true) (hr : sv_ir c' = true) (h : i < sv_n c') (d : decode cc pc = .ok (.iaload, 1)) (kk : sv_V p l e R s m args below meth c nL G Q k n (sv_W G z M o) (pc + 1) lv (.int (M q p') :: st)) : sv_V p l e R s m args below meth c nL G Q k n (sv_W G z M o) pc lv (.int (nI i) :: .ref (sv_r G c' j) :: st) := by
  subst hq; subst hp
  have hs : i < 2 ^ 31 := Nat.lt_trans h (sv_nlt c')
  exact sv_iald C hok hr (vp_in_nI h (sv_nlt c')) d (by rw [nI_clamp hs]; exact kk)
theorem sv_iastN (C : sv_C p l s m args meth c cc nL own G) {c' j i : Nat} {x : Int32} (q p' : Nat) (hq : sv_q c' j = q) (hp : sv_i c' i = p') (hok : sv_ok c' j = true) (hr : sv_ir c' = true) (h : i < sv_n c') (d : decode cc pc = .ok (.iastore, 1)) (kk : sv_V p l e R s m args below meth c nL G Q k n (sv_W G z (sv_w M q p' x) o) (pc + 1) lv st) : sv_V p l e R s m args below meth c nL G Q k n (sv_W G z M o) pc lv (.int x :: .int (nI i) :: .ref (sv_r G c' j) :: st) := by
  subst hq; subst hp
  have hs : i < 2 ^ 31 := Nat.lt_trans h (sv_nlt c')
  exact sv_iast C hok hr (vp_in_nI h (sv_nlt c')) d (by rw [nI_clamp hs]; exact kk)
theorem sv_caldN (C : sv_C p l s m args meth c cc nL own G) {i : Nat} (h : i < 60) (d : decode cc pc = .ok (.caload, 1)) (kk : sv_V p l e R s m args below meth c nL G Q k n (sv_W G z M o) (pc + 1) lv (.int (M 9 i) :: st)) : sv_V p l e R s m args below meth c nL G Q k n (sv_W G z M o) pc lv (.int (nI i) :: .ref (sv_r G 18 0) :: st) := by
  have hs : i < 2 ^ 31 := by omega
  exact sv_cald C (vp_in_nI h (by decide)) d (by rw [nI_clamp hs]; exact kk)
theorem sv_icmp_eqN (C : sv_C p l s m args meth c cc nL own G) {a b : Nat} {off : Int} (tgt : Nat) (d : decode cc pc = .ok (.if_icmp .eq off, 3)) (ht : (pc : Int) + off = (tgt : Int)) (ha : a < 2147483648) (hb : b < 2147483648) (kt : a = b → sv_V p l e R s m args below meth c nL G Q k n Wd tgt lv st) (kf : ¬ a = b → sv_V p l e R s m args below meth c nL G Q k n Wd (pc + 3) lv st) : sv_V p l e R s m args below meth c nL G Q k n Wd pc lv (.int (nI b) :: .int (nI a) :: st) := sv_icmp_eq C tgt d ht (fun q => kt ((nI_eq ha hb).mp q)) (fun q => kf (fun z => q ((nI_eq ha hb).mpr z)))
theorem sv_icmp_neN (C : sv_C p l s m args meth c cc nL own G) {a b : Nat} {off : Int} (tgt : Nat) (d : decode cc pc = .ok (.if_icmp .ne off, 3)) (ht : (pc : Int) + off = (tgt : Int)) (ha : a < 2147483648) (hb : b < 2147483648) (kt : ¬ a = b → sv_V p l e R s m args below meth c nL G Q k n Wd tgt lv st) (kf : a = b → sv_V p l e R s m args below meth c nL G Q k n Wd (pc + 3) lv st) : sv_V p l e R s m args below meth c nL G Q k n Wd pc lv (.int (nI b) :: .int (nI a) :: st) := sv_icmp_ne C tgt d ht (fun q => kt (fun z => q ((nI_eq ha hb).mpr z))) (fun q => kf ((nI_eq ha hb).mp q))
theorem sv_icmp_ltN (C : sv_C p l s m args meth c cc nL own G) {a b : Nat} {off : Int} (tgt : Nat) (d : decode cc pc = .ok (.if_icmp .lt off, 3)) (ht : (pc : Int) + off = (tgt : Int)) (ha : a < 2147483648) (hb : b < 2147483648) (kt : a < b → sv_V p l e R s m args below meth c nL G Q k n Wd tgt lv st) (kf : ¬ a < b → sv_V p l e R s m args below meth c nL G Q k n Wd (pc + 3) lv st) : sv_V p l e R s m args below meth c nL G Q k n Wd pc lv (.int (nI b) :: .int (nI a) :: st) := sv_icmp_lt C tgt d ht (fun q => kt ((nI_ltI ha hb).mp q)) (fun q => kf (fun z => q ((nI_ltI ha hb).mpr z)))
theorem sv_icmp_geN (C : sv_C p l s m args meth c cc nL own G) {a b : Nat} {off : Int} (tgt : Nat) (d : decode cc pc = .ok (.if_icmp .ge off, 3)) (ht : (pc : Int) + off = (tgt : Int)) (ha : a < 2147483648) (hb : b < 2147483648) (kt : b ≤ a → sv_V p l e R s m args below meth c nL G Q k n Wd tgt lv st) (kf : ¬ b ≤ a → sv_V p l e R s m args below meth c nL G Q k n Wd (pc + 3) lv st) : sv_V p l e R s m args below meth c nL G Q k n Wd pc lv (.int (nI b) :: .int (nI a) :: st) := sv_icmp_ge C tgt d ht (fun q => kt ((nI_leI hb ha).mp q)) (fun q => kf (fun z => q ((nI_leI hb ha).mpr z)))
theorem sv_icmp_gtN (C : sv_C p l s m args meth c cc nL own G) {a b : Nat} {off : Int} (tgt : Nat) (d : decode cc pc = .ok (.if_icmp .gt off, 3)) (ht : (pc : Int) + off = (tgt : Int)) (ha : a < 2147483648) (hb : b < 2147483648) (kt : b < a → sv_V p l e R s m args below meth c nL G Q k n Wd tgt lv st) (kf : ¬ b < a → sv_V p l e R s m args below meth c nL G Q k n Wd (pc + 3) lv st) : sv_V p l e R s m args below meth c nL G Q k n Wd pc lv (.int (nI b) :: .int (nI a) :: st) := sv_icmp_gt C tgt d ht (fun q => kt ((nI_ltI hb ha).mp q)) (fun q => kf (fun z => q ((nI_ltI hb ha).mpr z)))
theorem sv_icmp_leN (C : sv_C p l s m args meth c cc nL own G) {a b : Nat} {off : Int} (tgt : Nat) (d : decode cc pc = .ok (.if_icmp .le off, 3)) (ht : (pc : Int) + off = (tgt : Int)) (ha : a < 2147483648) (hb : b < 2147483648) (kt : a ≤ b → sv_V p l e R s m args below meth c nL G Q k n Wd tgt lv st) (kf : ¬ a ≤ b → sv_V p l e R s m args below meth c nL G Q k n Wd (pc + 3) lv st) : sv_V p l e R s m args below meth c nL G Q k n Wd pc lv (.int (nI b) :: .int (nI a) :: st) := sv_icmp_le C tgt d ht (fun q => kt ((nI_leI ha hb).mp q)) (fun q => kf (fun z => q ((nI_leI ha hb).mpr z)))
theorem sv_ex {α : Type} {P : α → Prop} {F : α → Heap → Prop} (kk : ∀ x, P x → sv_V p l e R s m args below meth c nL G Q k n (F x) pc lv st) : sv_V p l e R s m args below meth c nL G Q k n (fun H => ∃ x, P x ∧ F x H) pc lv st := fun H locs ls h1 h2 h3 => by
  obtain ⟨x, hx, hF⟩ := h1
  exact kk x hx H locs ls hF h2 h3
/-- a loop that counts up: from i0 on, to N at most -/
theorem sv_loop (N : Nat) (I : Nat → Prop) (Wf : Nat → Heap → Prop) (Lf : Nat → List (Nat × Value)) (i0 : Nat) (h0 : i0 ≤ N) (hI : I i0) (body : ∀ i, i0 ≤ i → i ≤ N → I i → (i < N → I (i + 1) → sv_V p l e R s m args below meth c nL G Q k n (Wf (i + 1)) pc (Lf (i + 1)) st) → sv_V p l e R s m args below meth c nL G Q k n (Wf i) pc (Lf i) st) : sv_V p l e R s m args below meth c nL G Q k n (Wf i0) pc (Lf i0) st := by
  have key : ∀ t i, i0 ≤ i → i ≤ N → N - i < t → I i → sv_V p l e R s m args below meth c nL G Q k n (Wf i) pc (Lf i) st := by
    intro t
    induction t with
    | zero => intro i _ _ h; omega
    | succ t ih => intro i hi hN h hIi; exact body i hi hN hIi (fun hl hn => ih (i + 1) (by omega) (by omega) (by omega) hn)
  exact key (N + 1) i0 (Nat.le_refl _) h0 (by omega) hI
/-- a loop with a measure that falls -/
theorem sv_loopm {α : Type} (Wf : α → Heap → Prop) (Lf : α → List (Nat × Value)) (μ : α → Nat) (I : α → Prop) (a0 : α) (h0 : I a0) (body : ∀ a, I a → (∀ b, I b → μ b < μ a → sv_V p l e R s m args below meth c nL G Q k n (Wf b) pc (Lf b) st) → sv_V p l e R s m args below meth c nL G Q k n (Wf a) pc (Lf a) st) : sv_V p l e R s m args below meth c nL G Q k n (Wf a0) pc (Lf a0) st := by
  have key : ∀ t a, I a → μ a < t → sv_V p l e R s m args below meth c nL G Q k n (Wf a) pc (Lf a) st := by
    intro t
    induction t with
    | zero => intro a _ h; omega
    | succ t ih => intro a ha h; exact body a ha (fun b hb hl => ih b hb (by omega))
  exact key (μ a0 + 1) a0 h0 (by omega)
end SVF
theorem fX5_init : sv_Yi yX5_init cX5_init 1 0 := ⟨kw_46, kw_29, kw_47, rfl, by decide, by decide, by decide +kernel⟩
theorem fX3_init : sv_Yi yX3_init cX3_init 1 0 := ⟨kw_54, kw_30, kw_55, rfl, by decide, by decide, by decide +kernel⟩
theorem fX0_init : sv_Yi yX0_init cX0_init 2 0 := ⟨kw_60, kw_31, kw_61, rfl, by decide, by decide, by decide +kernel⟩
theorem fX2_init : sv_Yi yX2_init cX2_init 1 0 := ⟨kw_97, kw_32, kw_98, rfl, by decide, by decide, by decide +kernel⟩
theorem fX5_copyRow : sv_Ys yX5_copyRow cX5_copyRow 3 none 2 := ⟨kw_128, kw_29, kw_129, by decide, by decide, by decide +kernel⟩
theorem fX1_init : sv_Yi yX1_init cX1_init 2 0 := ⟨kw_161, kw_33, kw_162, rfl, by decide, by decide, by decide +kernel⟩
theorem fX4_init : sv_Yi yX4_init cX4_init 1 0 := ⟨kw_181, kw_34, kw_182, rfl, by decide, by decide, by decide +kernel⟩
theorem fX5_night : sv_Yv yX5_night cX5_night 3 (some .int) 1 := ⟨kw_207, kw_208, kw_29, kw_209, by decide, by decide, by decide +kernel⟩
theorem fX1_save : sv_Yv yX1_save cX1_save 3 none 1 := ⟨kw_211, kw_212, kw_33, kw_213, by decide, by decide, by decide +kernel⟩
theorem fX1_stateAt : sv_Yv yX1_stateAt cX1_stateAt 2 (some (.object "StairLight$Stairs")) 1 := ⟨kw_216, kw_0, kw_33, kw_217, by decide, by decide, by decide +kernel⟩
theorem fX3_copyFrom : sv_Yv yX3_copyFrom cX3_copyFrom 2 none 1 := ⟨kw_219, kw_220, kw_30, kw_221, by decide, by decide, by decide +kernel⟩
theorem fX0_copyFrom : sv_Yv yX0_copyFrom cX0_copyFrom 2 none 1 := ⟨kw_223, kw_224, kw_31, kw_225, by decide, by decide, by decide +kernel⟩
theorem fX2_copyFrom : sv_Yv yX2_copyFrom cX2_copyFrom 2 none 1 := ⟨kw_228, kw_229, kw_32, kw_230, by decide, by decide, by decide +kernel⟩
theorem fX5_numberOf : sv_Ys yX5_numberOf cX5_numberOf 1 (some .int) 1 := ⟨kw_233, kw_29, kw_234, by decide, by decide, by decide +kernel⟩
theorem fX5_fire : sv_Yv yX5_fire cX5_fire 3 (some .int) 1 := ⟨kw_236, kw_237, kw_29, kw_238, by decide, by decide, by decide +kernel⟩
theorem fX3_switchAllOn : sv_Yv yX3_switchAllOn cX3_switchAllOn 2 none 0 := ⟨kw_240, kw_241, kw_30, kw_242, by decide, by decide, by decide +kernel⟩
theorem fX3_switchOn : sv_Yv yX3_switchOn cX3_switchOn 2 none 1 := ⟨kw_244, kw_245, kw_30, kw_246, by decide, by decide, by decide +kernel⟩
theorem fX5_at : sv_Ys yX5_at cX5_at 2 (some .int) 2 := ⟨kw_248, kw_29, kw_249, by decide, by decide, by decide +kernel⟩
theorem fX0_letBurn : sv_Yv yX0_letBurn cX0_letBurn 4 none 2 := ⟨kw_251, kw_252, kw_31, kw_253, by decide, by decide, by decide +kernel⟩
theorem fX5_raise : sv_Ys yX5_raise cX5_raise 3 none 3 := ⟨kw_256, kw_29, kw_257, by decide, by decide, by decide +kernel⟩
theorem fX5_put : sv_Ys yX5_put cX5_put 3 none 3 := ⟨kw_259, kw_29, kw_260, by decide, by decide, by decide +kernel⟩
theorem fX5_clearBuffer : sv_Yv yX5_clearBuffer cX5_clearBuffer 1 (some .int) 0 := ⟨kw_262, kw_263, kw_29, kw_264, by decide, by decide, by decide +kernel⟩
theorem fX4_clear : sv_Yv yX4_clear cX4_clear 2 (some .int) 0 := ⟨kw_266, kw_267, kw_34, kw_268, by decide, by decide, by decide +kernel⟩
theorem fX5_firstError : sv_Yv yX5_firstError cX5_firstError 1 (some .int) 0 := ⟨kw_270, kw_271, kw_29, kw_272, by decide, by decide, by decide +kernel⟩
theorem fX4_errorPlace : sv_Yv yX4_errorPlace cX4_errorPlace 2 (some .int) 0 := ⟨kw_274, kw_275, kw_34, kw_276, by decide, by decide, by decide +kernel⟩
theorem fX4_fitsAt : sv_Yv yX4_fitsAt cX4_fitsAt 4 (some .boolean) 1 := ⟨kw_279, kw_1, kw_34, kw_280, by decide, by decide, by decide +kernel⟩
theorem fX4_codeAt : sv_Yv yX4_codeAt cX4_codeAt 2 (some .char) 1 := ⟨kw_282, kw_283, kw_34, kw_284, by decide, by decide, by decide +kernel⟩
theorem fX4_isFloor : sv_Ys yX4_isFloor cX4_isFloor 1 (some .boolean) 1 := ⟨kw_286, kw_34, kw_287, by decide, by decide, by decide +kernel⟩
theorem fX4_fitsSign : sv_Ys yX4_fitsSign cX4_fitsSign 3 (some .boolean) 3 := ⟨kw_289, kw_34, kw_290, by decide, by decide, by decide +kernel⟩
theorem fX5_worst : sv_Yv yX5_worst cX5_worst 1 (some .int) 0 := ⟨kw_292, kw_293, kw_29, kw_294, by decide, by decide, by decide +kernel⟩
theorem fX0_mostMissed : sv_Yv yX0_mostMissed cX0_mostMissed 4 (some .int) 0 := ⟨kw_296, kw_297, kw_31, kw_298, by decide, by decide, by decide +kernel⟩
theorem fX5_lightness : sv_Yv yX5_lightness cX5_lightness 1 (some .double) 0 := ⟨kw_300, kw_301, kw_29, kw_302, by decide, by decide, by decide +kernel⟩
theorem fX3_lightShare : sv_Yv yX3_lightShare cX3_lightShare 2 (some .double) 0 := ⟨kw_304, kw_305, kw_30, kw_306, by decide, by decide, by decide +kernel⟩
theorem fX5_sumOf : sv_Ys yX5_sumOf cX5_sumOf 3 (some .int) 1 := ⟨kw_308, kw_29, kw_309, by decide, by decide, by decide +kernel⟩
theorem fX5_digest : sv_Yv yX5_digest cX5_digest 4 (some .long) 0 := ⟨kw_311, kw_312, kw_29, kw_313, by decide, by decide, by decide +kernel⟩
theorem fX5_counted : sv_Yv yX5_counted cX5_counted 2 (some .int) 1 := ⟨kw_317, kw_2, kw_29, kw_318, by decide, by decide, by decide +kernel⟩
theorem fX3_lampsBurning : sv_Yv yX3_lampsBurning cX3_lampsBurning 3 (some .int) 0 := ⟨kw_320, kw_321, kw_30, kw_322, by decide, by decide, by decide +kernel⟩
theorem fX3_lampOf : sv_Yv yX3_lampOf cX3_lampOf 3 (some .int) 1 := ⟨kw_324, kw_325, kw_30, kw_326, by decide, by decide, by decide +kernel⟩
theorem fX5_mixed : sv_Ys yX5_mixed cX5_mixed 4 (some .long) 2 := ⟨kw_329, kw_29, kw_330, by decide, by decide, by decide +kernel⟩
theorem fX5_mixedWithFloors : sv_Yv yX5_mixedWithFloors cX5_mixedWithFloors 7 (some .long) 1 := ⟨kw_334, kw_3, kw_29, kw_335, by decide, by decide, by decide +kernel⟩
theorem fX3_floorNumber : sv_Yv yX3_floorNumber cX3_floorNumber 3 (some .int) 2 := ⟨kw_337, kw_338, kw_30, kw_339, by decide, by decide, by decide +kernel⟩
theorem fX2_peopleOn : sv_Yv yX2_peopleOn cX2_peopleOn 4 (some .int) 1 := ⟨kw_341, kw_342, kw_32, kw_343, by decide, by decide, by decide +kernel⟩
theorem fX5_mixedWithPeople : sv_Yv yX5_mixedWithPeople cX5_mixedWithPeople 7 (some .long) 1 := ⟨kw_347, kw_4, kw_29, kw_348, by decide, by decide, by decide +kernel⟩
theorem fX2_personNumber : sv_Yv yX2_personNumber cX2_personNumber 3 (some .int) 2 := ⟨kw_350, kw_351, kw_32, kw_352, by decide, by decide, by decide +kernel⟩
theorem fX5_outlook : sv_Yv yX5_outlook cX5_outlook 4 (some .int) 2 := ⟨kw_355, kw_5, kw_29, kw_356, by decide, by decide, by decide +kernel⟩
theorem fX3_letPass : sv_Yv yX3_letPass cX3_letPass 4 (some .int) 1 := ⟨kw_359, kw_360, kw_30, kw_361, by decide, by decide, by decide +kernel⟩
theorem fX3_beginSecond : sv_Yv yX3_beginSecond cX3_beginSecond 2 none 0 := ⟨kw_363, kw_364, kw_30, kw_365, by decide, by decide, by decide +kernel⟩
theorem fX2_goOn : sv_Yv yX2_goOn cX2_goOn 4 none 1 := ⟨kw_367, kw_368, kw_32, kw_369, by decide, by decide, by decide +kernel⟩
theorem fX2_isThere : sv_Yv yX2_isThere cX2_isThere 2 (some .boolean) 1 := ⟨kw_371, kw_372, kw_32, kw_373, by decide, by decide, by decide +kernel⟩
theorem fX2_walk : sv_Yv yX2_walk cX2_walk 3 none 2 := ⟨kw_376, kw_6, kw_32, kw_377, by decide, by decide, by decide +kernel⟩
theorem fX2_moveUp : sv_Yv yX2_moveUp cX2_moveUp 3 none 2 := ⟨kw_382, kw_7, kw_32, kw_383, by decide, by decide, by decide +kernel⟩
theorem fX3_endSecond : sv_Yv yX3_endSecond cX3_endSecond 2 none 0 := ⟨kw_385, kw_386, kw_30, kw_387, by decide, by decide, by decide +kernel⟩
theorem fX3_countSecondOn : sv_Yv yX3_countSecondOn cX3_countSecondOn 3 none 1 := ⟨kw_390, kw_8, kw_30, kw_391, by decide, by decide, by decide +kernel⟩
theorem fX3_powerOf : sv_Ys yX3_powerOf cX3_powerOf 1 (some .int) 1 := ⟨kw_394, kw_30, kw_395, by decide, by decide, by decide +kernel⟩
theorem fX0_burnDown : sv_Yv yX0_burnDown cX0_burnDown 2 none 1 := ⟨kw_397, kw_398, kw_31, kw_399, by decide, by decide, by decide +kernel⟩
theorem fX5_darkWith : sv_Yv yX5_darkWith cX5_darkWith 8 (some .int) 3 := ⟨kw_403, kw_9, kw_29, kw_404, by decide, by decide, by decide +kernel⟩
theorem fX3_letCome : sv_Yv yX3_letCome cX3_letCome 3 (some .int) 2 := ⟨kw_407, kw_408, kw_30, kw_409, by decide, by decide, by decide +kernel⟩
theorem fX2_enter : sv_Yv yX2_enter cX2_enter 5 (some .int) 3 := ⟨kw_411, kw_412, kw_32, kw_413, by decide, by decide, by decide +kernel⟩
theorem fX2_sendTo : sv_Yv yX2_sendTo cX2_sendTo 4 none 3 := ⟨kw_415, kw_416, kw_32, kw_417, by decide, by decide, by decide +kernel⟩
theorem fX2_placeOf : sv_Yv yX2_placeOf cX2_placeOf 3 (some .int) 1 := ⟨kw_420, kw_421, kw_32, kw_422, by decide, by decide, by decide +kernel⟩
theorem fX5_leastBurnTime : sv_Yv yX5_leastBurnTime cX5_leastBurnTime 8 (some .int) 2 := ⟨kw_427, kw_10, kw_29, kw_428, by decide, by decide, by decide +kernel⟩
theorem fX5_bitsOf : sv_Ys yX5_bitsOf cX5_bitsOf 5 (some .long) 1 := ⟨kw_434, kw_29, kw_435, by decide, by decide, by decide +kernel⟩
theorem fX5_mixedWithBuffer : sv_Yv yX5_mixedWithBuffer cX5_mixedWithBuffer 6 (some .long) 1 := ⟨kw_440, kw_11, kw_29, kw_441, by decide, by decide, by decide +kernel⟩
theorem fX5_come : sv_Yv yX5_come cX5_come 3 (some .int) 2 := ⟨kw_450, kw_451, kw_29, kw_452, by decide, by decide, by decide +kernel⟩
theorem fX5_checkWay : sv_Ys yX5_checkWay cX5_checkWay 2 none 2 := ⟨kw_454, kw_29, kw_455, by decide, by decide, by decide +kernel⟩
theorem fX5_checkFloor : sv_Ys yX5_checkFloor cX5_checkFloor 1 none 1 := ⟨kw_457, kw_29, kw_458, by decide, by decide, by decide +kernel⟩
theorem fX5_turn : sv_Yv yX5_turn cX5_turn 5 (some .int) 2 := ⟨kw_563, kw_564, kw_29, kw_565, by decide, by decide, by decide +kernel⟩
theorem fX5_press : sv_Yv yX5_press cX5_press 3 (some .int) 1 := ⟨kw_572, kw_573, kw_29, kw_574, by decide, by decide, by decide +kernel⟩
theorem fX5_sensor : sv_Yv yX5_sensor cX5_sensor 4 (some .int) 2 := ⟨kw_580, kw_581, kw_29, kw_582, by decide, by decide, by decide +kernel⟩
theorem fX5_set : sv_Yv yX5_set cX5_set 4 (some .int) 2 := ⟨kw_587, kw_588, kw_29, kw_589, by decide, by decide, by decide +kernel⟩
theorem fX5_checkSetting : sv_Ys yX5_checkSetting cX5_checkSetting 1 none 1 := ⟨kw_591, kw_29, kw_592, by decide, by decide, by decide +kernel⟩
theorem fX5_pass : sv_Yv yX5_pass cX5_pass 2 (some .int) 1 := ⟨kw_600, kw_601, kw_29, kw_602, by decide, by decide, by decide +kernel⟩
theorem fX5_checkSeconds : sv_Ys yX5_checkSeconds cX5_checkSeconds 1 none 1 := ⟨kw_604, kw_29, kw_605, by decide, by decide, by decide +kernel⟩
theorem fX5_append : sv_Yv yX5_append cX5_append 2 (some .int) 1 := ⟨kw_611, kw_612, kw_29, kw_613, by decide, by decide, by decide +kernel⟩
theorem fX4_add : sv_Yv yX4_add cX4_add 2 (some .int) 1 := ⟨kw_617, kw_618, kw_34, kw_619, by decide, by decide, by decide +kernel⟩
theorem fX5_comeAll : sv_Yv yX5_comeAll cX5_comeAll 4 (some .int) 0 := ⟨kw_624, kw_625, kw_29, kw_626, by decide, by decide, by decide +kernel⟩
theorem fX4_isComplete : sv_Yv yX4_isComplete cX4_isComplete 1 (some .boolean) 0 := ⟨kw_628, kw_629, kw_34, kw_630, by decide, by decide, by decide +kernel⟩
theorem fX4_parts : sv_Yv yX4_parts cX4_parts 1 (some .int) 0 := ⟨kw_634, kw_635, kw_34, kw_636, by decide, by decide, by decide +kernel⟩
theorem fX3_waitForRoom : sv_Yv yX3_waitForRoom cX3_waitForRoom 2 (some .int) 0 := ⟨kw_638, kw_639, kw_30, kw_640, by decide, by decide, by decide +kernel⟩
theorem fX4_startOf : sv_Yv yX4_startOf cX4_startOf 2 (some .int) 1 := ⟨kw_643, kw_644, kw_34, kw_645, by decide, by decide, by decide +kernel⟩
theorem fX4_goalOf : sv_Yv yX4_goalOf cX4_goalOf 2 (some .int) 1 := ⟨kw_647, kw_648, kw_34, kw_649, by decide, by decide, by decide +kernel⟩
theorem fX5_undo : sv_Yv yX5_undo cX5_undo 1 (some .int) 0 := ⟨kw_654, kw_655, kw_29, kw_656, by decide, by decide, by decide +kernel⟩
theorem fX1_restore : sv_Yv yX1_restore cX1_restore 3 none 1 := ⟨kw_659, kw_660, kw_33, kw_661, by decide, by decide, by decide +kernel⟩
theorem fX5_floor : sv_Yv yX5_floor cX5_floor 3 (some .int) 2 := ⟨kw_666, kw_667, kw_29, kw_668, by decide, by decide, by decide +kernel⟩
theorem fX5_checkWhat : sv_Ys yX5_checkWhat cX5_checkWhat 2 none 2 := ⟨kw_670, kw_29, kw_671, by decide, by decide, by decide +kernel⟩
theorem fX5_person : sv_Yv yX5_person cX5_person 3 (some .int) 2 := ⟨kw_677, kw_678, kw_29, kw_679, by decide, by decide, by decide +kernel⟩
theorem fX5_count : sv_Yv yX5_count cX5_count 2 (some .int) 1 := ⟨kw_685, kw_686, kw_29, kw_687, by decide, by decide, by decide +kernel⟩
theorem fX5_setting : sv_Yv yX5_setting cX5_setting 2 (some .int) 1 := ⟨kw_692, kw_693, kw_29, kw_694, by decide, by decide, by decide +kernel⟩
theorem fX5_ifPassed : sv_Yv yX5_ifPassed cX5_ifPassed 3 (some .int) 2 := ⟨kw_699, kw_700, kw_29, kw_701, by decide, by decide, by decide +kernel⟩
theorem fX5_dark : sv_Yv yX5_dark cX5_dark 3 (some .int) 2 := ⟨kw_706, kw_707, kw_29, kw_708, by decide, by decide, by decide +kernel⟩
theorem fX5_leastTime : sv_Yv yX5_leastTime cX5_leastTime 3 (some .int) 2 := ⟨kw_713, kw_714, kw_29, kw_715, by decide, by decide, by decide +kernel⟩
theorem fX6_init : sv_Yi yX6_init cX6_init 2 0 := ⟨kw_719, kw_35, kw_720, rfl, by decide, by decide, by decide +kernel⟩
theorem fX6_thrown : sv_Yv yX6_thrown cX6_thrown 1 (some .int) 0 := ⟨kw_763, kw_764, kw_35, kw_765, by decide, by decide, by decide +kernel⟩
theorem fX6_undo : sv_Yv yX6_undo cX6_undo 1 (some .int) 0 := ⟨kw_767, kw_768, kw_35, kw_769, by decide, by decide, by decide +kernel⟩
theorem fX6_fails : sv_Yv yX6_fails cX6_fails 2 (some .int) 1 := ⟨kw_772, kw_13, kw_35, kw_773, by decide, by decide, by decide +kernel⟩
theorem fX6_copies : sv_Ys yX6_copies cX6_copies 5 none 4 := ⟨kw_775, kw_35, kw_776, by decide, by decide, by decide +kernel⟩
theorem fX6_come : sv_Yv yX6_come cX6_come 3 (some .int) 2 := ⟨kw_778, kw_779, kw_35, kw_780, by decide, by decide, by decide +kernel⟩
theorem fX6_mayWalk : sv_Ys yX6_mayWalk cX6_mayWalk 2 (some .int) 2 := ⟨kw_782, kw_35, kw_783, by decide, by decide, by decide +kernel⟩
theorem fX6_isFloor : sv_Ys yX6_isFloor cX6_isFloor 1 (some .boolean) 1 := ⟨kw_785, kw_35, kw_786, by decide, by decide, by decide +kernel⟩
theorem fX6_in : sv_Ys yX6_in cX6_in 3 (some .boolean) 3 := ⟨kw_788, kw_35, kw_789, by decide, by decide, by decide +kernel⟩
theorem fX6_saves : sv_Yv yX6_saves cX6_saves 2 none 0 := ⟨kw_792, kw_14, kw_35, kw_793, by decide, by decide, by decide +kernel⟩
theorem fX6_comes : sv_Ys yX6_comes cX6_comes 4 (some .int) 3 := ⟨kw_795, kw_35, kw_796, by decide, by decide, by decide +kernel⟩
theorem fX6_turn : sv_Yv yX6_turn cX6_turn 5 (some .int) 2 := ⟨kw_798, kw_799, kw_35, kw_800, by decide, by decide, by decide +kernel⟩
theorem fX6_by : sv_Ys yX6_by cX6_by 3 (some .int) 3 := ⟨kw_802, kw_35, kw_803, by decide, by decide, by decide +kernel⟩
theorem fX6_changes : sv_Yv yX6_changes cX6_changes 4 (some .int) 2 := ⟨kw_806, kw_15, kw_35, kw_807, by decide, by decide, by decide +kernel⟩
theorem fX6_press : sv_Yv yX6_press cX6_press 3 (some .int) 1 := ⟨kw_809, kw_810, kw_35, kw_811, by decide, by decide, by decide +kernel⟩
theorem fX6_of : sv_Ys yX6_of cX6_of 3 (some .int) 3 := ⟨kw_813, kw_35, kw_814, by decide, by decide, by decide +kernel⟩
theorem fX6_switches : sv_Ys yX6_switches cX6_switches 3 none 2 := ⟨kw_816, kw_35, kw_817, by decide, by decide, by decide +kernel⟩
theorem fX6_sensor : sv_Yv yX6_sensor cX6_sensor 3 (some .int) 2 := ⟨kw_819, kw_820, kw_35, kw_821, by decide, by decide, by decide +kernel⟩
theorem fX6_night : sv_Yv yX6_night cX6_night 2 (some .int) 1 := ⟨kw_823, kw_824, kw_35, kw_825, by decide, by decide, by decide +kernel⟩
theorem fX6_fire : sv_Yv yX6_fire cX6_fire 4 (some .int) 1 := ⟨kw_827, kw_828, kw_35, kw_829, by decide, by decide, by decide +kernel⟩
theorem fX6_set : sv_Yv yX6_set cX6_set 3 (some .int) 2 := ⟨kw_831, kw_832, kw_35, kw_833, by decide, by decide, by decide +kernel⟩
theorem fX6_isFor : sv_Ys yX6_isFor cX6_isFor 2 (some .boolean) 2 := ⟨kw_835, kw_35, kw_836, by decide, by decide, by decide +kernel⟩
theorem fX6_pass : sv_Yv yX6_pass cX6_pass 4 (some .int) 1 := ⟨kw_838, kw_839, kw_35, kw_840, by decide, by decide, by decide +kernel⟩
theorem fX6_sum : sv_Ys yX6_sum cX6_sum 4 (some .int) 2 := ⟨kw_842, kw_35, kw_843, by decide, by decide, by decide +kernel⟩
theorem fX6_second : sv_Yv yX6_second cX6_second 5 none 1 := ⟨kw_846, kw_16, kw_35, kw_847, by decide, by decide, by decide +kernel⟩
theorem fX6_walks : sv_Ys yX6_walks cX6_walks 3 none 1 := ⟨kw_849, kw_35, kw_850, by decide, by decide, by decide +kernel⟩
theorem fX6_leaves : sv_Ys yX6_leaves cX6_leaves 3 none 2 := ⟨kw_852, kw_35, kw_853, by decide, by decide, by decide +kernel⟩
theorem fX6_looks : sv_Ys yX6_looks cX6_looks 2 none 1 := ⟨kw_855, kw_35, kw_856, by decide, by decide, by decide +kernel⟩
theorem fX6_on : sv_Ys yX6_on cX6_on 4 (some .int) 2 := ⟨kw_858, kw_35, kw_859, by decide, by decide, by decide +kernel⟩
theorem fX6_lamp : sv_Ys yX6_lamp cX6_lamp 3 (some .int) 2 := ⟨kw_861, kw_35, kw_862, by decide, by decide, by decide +kernel⟩
theorem fX6_append : sv_Yv yX6_append cX6_append 2 (some .int) 1 := ⟨kw_864, kw_865, kw_35, kw_866, by decide, by decide, by decide +kernel⟩
theorem fX6_clearBuffer : sv_Yv yX6_clearBuffer cX6_clearBuffer 2 (some .int) 0 := ⟨kw_868, kw_869, kw_35, kw_870, by decide, by decide, by decide +kernel⟩
theorem fX6_firstError : sv_Yv yX6_firstError cX6_firstError 2 (some .int) 0 := ⟨kw_872, kw_873, kw_35, kw_874, by decide, by decide, by decide +kernel⟩
theorem fX6_isText : sv_Yv yX6_isText cX6_isText 2 (some .boolean) 0 := ⟨kw_877, kw_17, kw_35, kw_878, by decide, by decide, by decide +kernel⟩
theorem fX6_isPart : sv_Yv yX6_isPart cX6_isPart 4 (some .boolean) 0 := ⟨kw_881, kw_18, kw_35, kw_882, by decide, by decide, by decide +kernel⟩
theorem fX6_isAt : sv_Yv yX6_isAt cX6_isAt 3 (some .boolean) 2 := ⟨kw_885, kw_19, kw_35, kw_886, by decide, by decide, by decide +kernel⟩
theorem fX6_stops : sv_Yv yX6_stops cX6_stops 1 (some .boolean) 0 := ⟨kw_889, kw_20, kw_35, kw_890, by decide, by decide, by decide +kernel⟩
theorem fX6_comeAll : sv_Yv yX6_comeAll cX6_comeAll 3 (some .int) 0 := ⟨kw_892, kw_893, kw_35, kw_894, by decide, by decide, by decide +kernel⟩
theorem fX6_floor : sv_Yv yX6_floor cX6_floor 3 (some .int) 2 := ⟨kw_896, kw_897, kw_35, kw_898, by decide, by decide, by decide +kernel⟩
theorem fX6_ofFloor : sv_Yv yX6_ofFloor cX6_ofFloor 3 (some .int) 2 := ⟨kw_901, kw_21, kw_35, kw_902, by decide, by decide, by decide +kernel⟩
theorem fX6_person : sv_Yv yX6_person cX6_person 3 (some .int) 2 := ⟨kw_904, kw_905, kw_35, kw_906, by decide, by decide, by decide +kernel⟩
theorem fX6_count : sv_Yv yX6_count cX6_count 2 (some .int) 1 := ⟨kw_908, kw_909, kw_35, kw_910, by decide, by decide, by decide +kernel⟩
theorem fX6_counted : sv_Yv yX6_counted cX6_counted 2 (some .int) 1 := ⟨kw_913, kw_22, kw_35, kw_914, by decide, by decide, by decide +kernel⟩
theorem fX6_lit : sv_Ys yX6_lit cX6_lit 3 (some .int) 1 := ⟨kw_916, kw_35, kw_917, by decide, by decide, by decide +kernel⟩
theorem fX6_setting : sv_Yv yX6_setting cX6_setting 2 (some .int) 1 := ⟨kw_919, kw_920, kw_35, kw_921, by decide, by decide, by decide +kernel⟩
theorem fX6_ifPassed : sv_Yv yX6_ifPassed cX6_ifPassed 3 (some .int) 2 := ⟨kw_923, kw_924, kw_35, kw_925, by decide, by decide, by decide +kernel⟩
theorem fX6_byPassing : sv_Yv yX6_byPassing cX6_byPassing 4 (some .int) 2 := ⟨kw_928, kw_23, kw_35, kw_929, by decide, by decide, by decide +kernel⟩
theorem fX6_dark : sv_Yv yX6_dark cX6_dark 3 (some .int) 2 := ⟨kw_931, kw_932, kw_35, kw_933, by decide, by decide, by decide +kernel⟩
theorem fX6_walked : sv_Yv yX6_walked cX6_walked 4 (some .int) 3 := ⟨kw_936, kw_24, kw_35, kw_937, by decide, by decide, by decide +kernel⟩
theorem fX6_isThere : sv_Ys yX6_isThere cX6_isThere 4 (some .boolean) 2 := ⟨kw_939, kw_35, kw_940, by decide, by decide, by decide +kernel⟩
theorem fX6_leastTime : sv_Yv yX6_leastTime cX6_leastTime 3 (some .int) 2 := ⟨kw_942, kw_943, kw_35, kw_944, by decide, by decide, by decide +kernel⟩
theorem fX6_least : sv_Yv yX6_least cX6_least 7 (some .int) 2 := ⟨kw_947, kw_25, kw_35, kw_948, by decide, by decide, by decide +kernel⟩
theorem fX6_worst : sv_Yv yX6_worst cX6_worst 1 (some .int) 0 := ⟨kw_950, kw_951, kw_35, kw_952, by decide, by decide, by decide +kernel⟩
theorem fX6_missed : sv_Yv yX6_missed cX6_missed 4 (some .int) 0 := ⟨kw_955, kw_26, kw_35, kw_956, by decide, by decide, by decide +kernel⟩
theorem fX6_lightness : sv_Yv yX6_lightness cX6_lightness 1 (some .double) 0 := ⟨kw_958, kw_959, kw_35, kw_960, by decide, by decide, by decide +kernel⟩
theorem fX6_share : sv_Yv yX6_share cX6_share 2 (some .double) 0 := ⟨kw_963, kw_27, kw_35, kw_964, by decide, by decide, by decide +kernel⟩
theorem fX6_digest : sv_Yv yX6_digest cX6_digest 5 (some .long) 0 := ⟨kw_966, kw_967, kw_35, kw_968, by decide, by decide, by decide +kernel⟩
theorem fJxe99ae_doubleToLongBits_ccdee : sv_Ys yJxe99ae_doubleToLongBits_ccdee cJxe99ae_doubleToLongBits_ccdee 2 (some .long) 1 := ⟨kw_972, kw_42, kw_973, by decide, by decide, by decide +kernel⟩
theorem fJxe99ae_isNaN_b9ae7 : sv_Ys yJxe99ae_isNaN_b9ae7 cJxe99ae_isNaN_b9ae7 2 (some .boolean) 1 := ⟨kw_975, kw_42, kw_976, by decide, by decide, by decide +kernel⟩
theorem kn_RX3_32 : (RX3, 32, yX5_copyRow, "StairLight") ∈ sv_nests := List.mem_of_getElem? (i := 0) rfl
theorem kn_RX0_30 : (RX0, 30, yX5_copyRow, "StairLight") ∈ sv_nests := List.mem_of_getElem? (i := 1) rfl
theorem kn_RX2_31 : (RX2, 31, yX5_copyRow, "StairLight") ∈ sv_nests := List.mem_of_getElem? (i := 2) rfl
theorem kn_RX3_57 : (RX3, 57, yX5_at, "StairLight") ∈ sv_nests := List.mem_of_getElem? (i := 3) rfl
theorem kn_RX0_34 : (RX0, 34, yX5_at, "StairLight") ∈ sv_nests := List.mem_of_getElem? (i := 4) rfl
theorem kn_RX0_38 : (RX0, 38, yX5_raise, "StairLight") ∈ sv_nests := List.mem_of_getElem? (i := 5) rfl
theorem kn_RX0_42 : (RX0, 42, yX5_put, "StairLight") ∈ sv_nests := List.mem_of_getElem? (i := 6) rfl
theorem kn_RX3_83 : (RX3, 83, yX5_sumOf, "StairLight") ∈ sv_nests := List.mem_of_getElem? (i := 7) rfl
theorem kn_RX2_47 : (RX2, 47, yX5_at, "StairLight") ∈ sv_nests := List.mem_of_getElem? (i := 8) rfl
theorem kn_RX2_58 : (RX2, 58, yX5_raise, "StairLight") ∈ sv_nests := List.mem_of_getElem? (i := 9) rfl
theorem kn_RX2_35 : (RX2, 35, yX5_put, "StairLight") ∈ sv_nests := List.mem_of_getElem? (i := 10) rfl
theorem kn_RX3_119 : (RX3, 119, yX5_raise, "StairLight") ∈ sv_nests := List.mem_of_getElem? (i := 11) rfl
