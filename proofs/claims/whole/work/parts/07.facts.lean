/-! what is known of each method by the tables; rows over numbers of known size -/
section SVF
variable {p : Program} {l : Launch} {e : Env} {R : Room} {s : State} {m : MethodId} {args : Array Value} {below : List Frame} {meth : Method} {c : Code} {k n nL : Nat} {Q : State → Prop} {G : sv_G} {Wd Wd' Wx : Heap → Prop}
variable {cc : ByteArray} {pc : Nat} {lv lv' : List (Nat × Value)} {st rest : List Value} {own : String} {z : Nat} {M : sv_M} {o : Int64}
theorem sv_okj {c j : Nat} (hc : c < 14) (hj : j < 8) : sv_ok c j = true := by simp [sv_ok, hc, hj]
theorem sv_nlt (c : Nat) : sv_n c < 2147483648 := by
  unfold sv_n
  repeat' split
  all_goals decide
theorem sv_incN (a n : Nat) : nI a + Int32.ofInt (n : Int) = nI (a + n) := by
  rw [← nI_add]
  rfl
theorem sv_recv0 (C : sv_C p l s m args meth c cc nL own G) {j : Nat} (hj : j < 8) : sv_recv s (sv_W G z M o) RX3 (sv_r G 0 j) := sv_recvg C sv_cl3.1 (fun H h => h.2.2 0 j (sv_okj (by decide) hj))
theorem sv_recv1 (C : sv_C p l s m args meth c cc nL own G) {j : Nat} (hj : j < 8) : sv_recv s (sv_W G z M o) RX0 (sv_r G 1 j) := sv_recvg C sv_cl0.1 (fun H h => h.2.2 1 j (sv_okj (by decide) hj))
theorem sv_recv8 (C : sv_C p l s m args meth c cc nL own G) {j : Nat} (hj : j < 8) : sv_recv s (sv_W G z M o) RX2 (sv_r G 8 j) := sv_recvg C sv_cl2.1 (fun H h => h.2.2 8 j (sv_okj (by decide) hj))
theorem sv_recv14 (C : sv_C p l s m args meth c cc nL own G) : sv_recv s (sv_W G z M o) RX5 (sv_r G 14 0) := sv_recvg C sv_cl5.1 (fun H h => h.2.2 14 0 rfl)
theorem sv_recv15 (C : sv_C p l s m args meth c cc nL own G) : sv_recv s (sv_W G z M o) RX1 (sv_r G 15 0) := sv_recvg C sv_cl1.1 (fun H h => h.2.2 15 0 rfl)
theorem sv_recv17 (C : sv_C p l s m args meth c cc nL own G) : sv_recv s (sv_W G z M o) RX4 (sv_r G 17 0) := sv_recvg C sv_cl4.1 (fun H h => h.2.2 17 0 rfl)
theorem sv_recv19 (C : sv_C p l s m args meth c cc nL own G) : sv_recv s (sv_W G z M o) RX6 (sv_r G 19 0) := sv_recvg C sv_cl6.1 (fun H h => h.2.2 19 0 rfl)
theorem sv_ri {x : Int32} (kk : ∀ v : Int32, v = x → sv_V p l e R s m args below meth c nL G Q k n Wd pc lv (.int v :: st)) : sv_V p l e R s m args below meth c nL G Q k n Wd pc lv ((some (Value.int x)).toList ++ st) := kk x rfl
theorem sv_riN {x : Int32} (a : Nat) (h : x = nI a) (kk : sv_V p l e R s m args below meth c nL G Q k n Wd pc lv (.int (nI a) :: st)) : sv_V p l e R s m args below meth c nL G Q k n Wd pc lv ((some (Value.int x)).toList ++ st) := by subst h; exact kk
theorem sv_riS {x : Int32} (a : Int32) (h : x = a) (kk : sv_V p l e R s m args below meth c nL G Q k n Wd pc lv (.int a :: st)) : sv_V p l e R s m args below meth c nL G Q k n Wd pc lv ((some (Value.int x)).toList ++ st) := by subst h; exact kk
theorem sv_rl {x : Int64} (kk : ∀ v : Int64, v = x → sv_V p l e R s m args below meth c nL G Q k n Wd pc lv (.long v :: st)) : sv_V p l e R s m args below meth c nL G Q k n Wd pc lv ((some (Value.long x)).toList ++ st) := kk x rfl
theorem sv_rlS {x : Int64} (kk : sv_V p l e R s m args below meth c nL G Q k n Wd pc lv (.long x :: st)) : sv_V p l e R s m args below meth c nL G Q k n Wd pc lv ((some (Value.long x)).toList ++ st) := kk
theorem sv_rd {x : UInt64} (kk : ∀ v : UInt64, v = x → sv_V p l e R s m args below meth c nL G Q k n Wd pc lv (.double v :: st)) : sv_V p l e R s m args below meth c nL G Q k n Wd pc lv ((some (Value.double x)).toList ++ st) := kk x rfl
theorem sv_ra {x : Nat} (kk : sv_V p l e R s m args below meth c nL G Q k n Wd pc lv (.ref x :: st)) : sv_V p l e R s m args below meth c nL G Q k n Wd pc lv ((some (Value.ref x)).toList ++ st) := kk
theorem sv_rv (kk : sv_V p l e R s m args below meth c nL G Q k n Wd pc lv st) : sv_V p l e R s m args below meth c nL G Q k n Wd pc lv ((none : Option Value).toList ++ st) := kk
theorem sv_ialdN (C : sv_C p l s m args meth c cc nL own G) {c' j i : Nat} (q p' : Nat) (hq : sv_q c' j = q) (hp : sv_i c' i = p') (hok : sv_ok c' j = true) (hr : sv_ir c' = true) (h : i < sv_n c') (d : decode cc pc = .ok (.iaload, 1)) (kk : sv_V p l e R s m args below meth c nL G Q k n (sv_W G z M o) (pc + 1) lv (.int (M q p') :: st)) : sv_V p l e R s m args below meth c nL G Q k n (sv_W G z M o) pc lv (.int (nI i) :: .ref (sv_r G c' j) :: st) := by
  subst hq; subst hp
  have hs : i < 2 ^ 31 := Nat.lt_trans h (sv_nlt c')
  exact sv_iald C hok hr (vp_in_nI h (sv_nlt c')) d (by rw [nI_clamp hs]; exact kk)
theorem sv_iastN (C : sv_C p l s m args meth c cc nL own G) {c' j i : Nat} {x : Int32} (q p' : Nat) (hq : sv_q c' j = q) (hp : sv_i c' i = p') (hok : sv_ok c' j = true) (hr : sv_ir c' = true) (h : i < sv_n c') (d : decode cc pc = .ok (.iastore, 1)) (kk : sv_V p l e R s m args below meth c nL G Q k n (sv_W G z (sv_w M q p' x) o) (pc + 1) lv st) : sv_V p l e R s m args below meth c nL G Q k n (sv_W G z M o) pc lv (.int x :: .int (nI i) :: .ref (sv_r G c' j) :: st) := by
  subst hq; subst hp
  have hs : i < 2 ^ 31 := Nat.lt_trans h (sv_nlt c')
  exact sv_iast C hok hr (vp_in_nI h (sv_nlt c')) d (by rw [nI_clamp hs]; exact kk)
theorem sv_caldN (C : sv_C p l s m args meth c cc nL own G) {i : Nat} (h : i < 60) (d : decode cc pc = .ok (.caload, 1)) (kk : sv_V p l e R s m args below meth c nL G Q k n (sv_W G z M o) (pc + 1) lv (.int (M 9 i) :: st)) : sv_V p l e R s m args below meth c nL G Q k n (sv_W G z M o) pc lv (.int (nI i) :: .ref (sv_r G 18 0) :: st) := by
  have hs : i < 2 ^ 31 := by omega
  exact sv_cald C (vp_in_nI h (by decide)) d (by rw [nI_clamp hs]; exact kk)
theorem sv_icmp_eqN (C : sv_C p l s m args meth c cc nL own G) {a b : Nat} {off : Int} (tgt : Nat) (d : decode cc pc = .ok (.if_icmp .eq off, 3)) (ht : (pc : Int) + off = (tgt : Int)) (ha : a < 2147483648) (hb : b < 2147483648) (kt : a = b → sv_V p l e R s m args below meth c nL G Q k n Wd tgt lv st) (kf : ¬ a = b → sv_V p l e R s m args below meth c nL G Q k n Wd (pc + 3) lv st) : sv_V p l e R s m args below meth c nL G Q k n Wd pc lv (.int (nI b) :: .int (nI a) :: st) := sv_icmp_eq C tgt d ht (fun q => kt ((nI_eq ha hb).mp q)) (fun q => kf (fun z => q ((nI_eq ha hb).mpr z)))
theorem sv_icmp_neN (C : sv_C p l s m args meth c cc nL own G) {a b : Nat} {off : Int} (tgt : Nat) (d : decode cc pc = .ok (.if_icmp .ne off, 3)) (ht : (pc : Int) + off = (tgt : Int)) (ha : a < 2147483648) (hb : b < 2147483648) (kt : ¬ a = b → sv_V p l e R s m args below meth c nL G Q k n Wd tgt lv st) (kf : a = b → sv_V p l e R s m args below meth c nL G Q k n Wd (pc + 3) lv st) : sv_V p l e R s m args below meth c nL G Q k n Wd pc lv (.int (nI b) :: .int (nI a) :: st) := sv_icmp_ne C tgt d ht (fun q => kt (fun z => q ((nI_eq ha hb).mpr z))) (fun q => kf ((nI_eq ha hb).mp q))
theorem sv_icmp_ltN (C : sv_C p l s m args meth c cc nL own G) {a b : Nat} {off : Int} (tgt : Nat) (d : decode cc pc = .ok (.if_icmp .lt off, 3)) (ht : (pc : Int) + off = (tgt : Int)) (ha : a < 2147483648) (hb : b < 2147483648) (kt : a < b → sv_V p l e R s m args below meth c nL G Q k n Wd tgt lv st) (kf : ¬ a < b → sv_V p l e R s m args below meth c nL G Q k n Wd (pc + 3) lv st) : sv_V p l e R s m args below meth c nL G Q k n Wd pc lv (.int (nI b) :: .int (nI a) :: st) := sv_icmp_lt C tgt d ht (fun q => kt ((nI_ltI ha hb).mp q)) (fun q => kf (fun z => q ((nI_ltI ha hb).mpr z)))
theorem sv_icmp_geN (C : sv_C p l s m args meth c cc nL own G) {a b : Nat} {off : Int} (tgt : Nat) (d : decode cc pc = .ok (.if_icmp .ge off, 3)) (ht : (pc : Int) + off = (tgt : Int)) (ha : a < 2147483648) (hb : b < 2147483648) (kt : b ≤ a → sv_V p l e R s m args below meth c nL G Q k n Wd tgt lv st) (kf : ¬ b ≤ a → sv_V p l e R s m args below meth c nL G Q k n Wd (pc + 3) lv st) : sv_V p l e R s m args below meth c nL G Q k n Wd pc lv (.int (nI b) :: .int (nI a) :: st) := sv_icmp_ge C tgt d ht (fun q => kt ((nI_leI hb ha).mp q)) (fun q => kf (fun z => q ((nI_leI hb ha).mpr z)))
theorem sv_icmp_gtN (C : sv_C p l s m args meth c cc nL own G) {a b : Nat} {off : Int} (tgt : Nat) (d : decode cc pc = .ok (.if_icmp .gt off, 3)) (ht : (pc : Int) + off = (tgt : Int)) (ha : a < 2147483648) (hb : b < 2147483648) (kt : b < a → sv_V p l e R s m args below meth c nL G Q k n Wd tgt lv st) (kf : ¬ b < a → sv_V p l e R s m args below meth c nL G Q k n Wd (pc + 3) lv st) : sv_V p l e R s m args below meth c nL G Q k n Wd pc lv (.int (nI b) :: .int (nI a) :: st) := sv_icmp_gt C tgt d ht (fun q => kt ((nI_ltI hb ha).mp q)) (fun q => kf (fun z => q ((nI_ltI hb ha).mpr z)))
theorem sv_icmp_leN (C : sv_C p l s m args meth c cc nL own G) {a b : Nat} {off : Int} (tgt : Nat) (d : decode cc pc = .ok (.if_icmp .le off, 3)) (ht : (pc : Int) + off = (tgt : Int)) (ha : a < 2147483648) (hb : b < 2147483648) (kt : a ≤ b → sv_V p l e R s m args below meth c nL G Q k n Wd tgt lv st) (kf : ¬ a ≤ b → sv_V p l e R s m args below meth c nL G Q k n Wd (pc + 3) lv st) : sv_V p l e R s m args below meth c nL G Q k n Wd pc lv (.int (nI b) :: .int (nI a) :: st) := sv_icmp_le C tgt d ht (fun q => kt ((nI_leI ha hb).mp q)) (fun q => kf (fun z => q ((nI_leI ha hb).mpr z)))
theorem sv_ex {α : Type} {P : α → Prop} {F : α → Heap → Prop} (kk : ∀ x, P x → sv_V p l e R s m args below meth c nL G Q k n (F x) pc lv st) : sv_V p l e R s m args below meth c nL G Q k n (fun H => ∃ x, P x ∧ F x H) pc lv st := fun H locs ls h1 h2 h3 => by
  obtain ⟨x, hx, hF⟩ := h1
  exact kk x hx H locs ls hF h2 h3
/-- a loop that counts up: from i0 on, to N at most -/
theorem sv_loop (N : Nat) (I : Nat → Prop) (Wf : Nat → Heap → Prop) (Lf : Nat → List (Nat × Value)) (i0 : Nat) (h0 : i0 ≤ N) (hI : I i0) (body : ∀ i, i0 ≤ i → i ≤ N → I i → (i < N → I (i + 1) → sv_V p l e R s m args below meth c nL G Q k n (Wf (i + 1)) pc (Lf (i + 1)) st) → sv_V p l e R s m args below meth c nL G Q k n (Wf i) pc (Lf i) st) : sv_V p l e R s m args below meth c nL G Q k n (Wf i0) pc (Lf i0) st := by
  have key : ∀ t i, i0 ≤ i → i ≤ N → N - i < t → I i → sv_V p l e R s m args below meth c nL G Q k n (Wf i) pc (Lf i) st := by
    intro t
    induction t with
    | zero => intro i _ _ h; omega
    | succ t ih => intro i hi hN h hIi; exact body i hi hN hIi (fun hl hn => ih (i + 1) (by omega) (by omega) (by omega) hn)
  exact key (N + 1) i0 (Nat.le_refl _) h0 (by omega) hI
/-- a loop with a measure that falls -/
theorem sv_loopm {α : Type} (Wf : α → Heap → Prop) (Lf : α → List (Nat × Value)) (μ : α → Nat) (I : α → Prop) (a0 : α) (h0 : I a0) (body : ∀ a, I a → (∀ b, I b → μ b < μ a → sv_V p l e R s m args below meth c nL G Q k n (Wf b) pc (Lf b) st) → sv_V p l e R s m args below meth c nL G Q k n (Wf a) pc (Lf a) st) : sv_V p l e R s m args below meth c nL G Q k n (Wf a0) pc (Lf a0) st := by
  have key : ∀ t a, I a → μ a < t → sv_V p l e R s m args below meth c nL G Q k n (Wf a) pc (Lf a) st := by
    intro t
    induction t with
    | zero => intro a _ h; omega
    | succ t ih => intro a ha h; exact body a ha (fun b hb hl => ih b hb (by omega))
  exact key (μ a0 + 1) a0 h0 (by omega)
end SVF
theorem fX5_init : sv_Yi yX5_init cX5_init 1 0 := ⟨kw_47, kw_30, kw_48, rfl, by decide, by decide, by decide +kernel⟩
theorem fX3_init : sv_Yi yX3_init cX3_init 1 0 := ⟨kw_55, kw_31, kw_56, rfl, by decide, by decide, by decide +kernel⟩
theorem fX0_init : sv_Yi yX0_init cX0_init 2 0 := ⟨kw_61, kw_32, kw_62, rfl, by decide, by decide, by decide +kernel⟩
theorem fX2_init : sv_Yi yX2_init cX2_init 1 0 := ⟨kw_98, kw_33, kw_99, rfl, by decide, by decide, by decide +kernel⟩
theorem fX5_copyRow : sv_Ys yX5_copyRow cX5_copyRow 3 none 2 := ⟨kw_129, kw_30, kw_130, by decide, by decide, by decide +kernel⟩
theorem fX1_init : sv_Yi yX1_init cX1_init 2 0 := ⟨kw_162, kw_34, kw_163, rfl, by decide, by decide, by decide +kernel⟩
theorem fX4_init : sv_Yi yX4_init cX4_init 1 0 := ⟨kw_182, kw_35, kw_183, rfl, by decide, by decide, by decide +kernel⟩
theorem fX5_night : sv_Yv yX5_night cX5_night 3 (some .int) 1 := ⟨kw_208, kw_209, kw_30, kw_210, by decide, by decide, by decide +kernel⟩
theorem fX1_save : sv_Yv yX1_save cX1_save 3 none 1 := ⟨kw_212, kw_213, kw_34, kw_214, by decide, by decide, by decide +kernel⟩
theorem fX1_stateAt : sv_Yv yX1_stateAt cX1_stateAt 2 (some (.object "StairLight$Stairs")) 1 := ⟨kw_217, kw_0, kw_34, kw_218, by decide, by decide, by decide +kernel⟩
theorem fX3_copyFrom : sv_Yv yX3_copyFrom cX3_copyFrom 2 none 1 := ⟨kw_220, kw_221, kw_31, kw_222, by decide, by decide, by decide +kernel⟩
theorem fX0_copyFrom : sv_Yv yX0_copyFrom cX0_copyFrom 2 none 1 := ⟨kw_224, kw_225, kw_32, kw_226, by decide, by decide, by decide +kernel⟩
theorem fX2_copyFrom : sv_Yv yX2_copyFrom cX2_copyFrom 2 none 1 := ⟨kw_229, kw_230, kw_33, kw_231, by decide, by decide, by decide +kernel⟩
theorem fX5_numberOf : sv_Ys yX5_numberOf cX5_numberOf 1 (some .int) 1 := ⟨kw_234, kw_30, kw_235, by decide, by decide, by decide +kernel⟩
theorem fX5_fire : sv_Yv yX5_fire cX5_fire 3 (some .int) 1 := ⟨kw_237, kw_238, kw_30, kw_239, by decide, by decide, by decide +kernel⟩
theorem fX3_switchAllOn : sv_Yv yX3_switchAllOn cX3_switchAllOn 2 none 0 := ⟨kw_241, kw_242, kw_31, kw_243, by decide, by decide, by decide +kernel⟩
theorem fX3_switchOn : sv_Yv yX3_switchOn cX3_switchOn 2 none 1 := ⟨kw_245, kw_246, kw_31, kw_247, by decide, by decide, by decide +kernel⟩
theorem fX5_at : sv_Ys yX5_at cX5_at 2 (some .int) 2 := ⟨kw_249, kw_30, kw_250, by decide, by decide, by decide +kernel⟩
theorem fX0_letBurn : sv_Yv yX0_letBurn cX0_letBurn 4 none 2 := ⟨kw_252, kw_253, kw_32, kw_254, by decide, by decide, by decide +kernel⟩
theorem fX5_raise : sv_Ys yX5_raise cX5_raise 3 none 3 := ⟨kw_257, kw_30, kw_258, by decide, by decide, by decide +kernel⟩
theorem fX5_put : sv_Ys yX5_put cX5_put 3 none 3 := ⟨kw_261, kw_30, kw_262, by decide, by decide, by decide +kernel⟩
theorem fX5_clearBuffer : sv_Yv yX5_clearBuffer cX5_clearBuffer 1 (some .int) 0 := ⟨kw_265, kw_266, kw_30, kw_267, by decide, by decide, by decide +kernel⟩
theorem fX4_clear : sv_Yv yX4_clear cX4_clear 2 (some .int) 0 := ⟨kw_269, kw_270, kw_35, kw_271, by decide, by decide, by decide +kernel⟩
theorem fX5_firstError : sv_Yv yX5_firstError cX5_firstError 1 (some .int) 0 := ⟨kw_273, kw_274, kw_30, kw_275, by decide, by decide, by decide +kernel⟩
theorem fX4_errorPlace : sv_Yv yX4_errorPlace cX4_errorPlace 2 (some .int) 0 := ⟨kw_277, kw_278, kw_35, kw_279, by decide, by decide, by decide +kernel⟩
theorem fX4_fitsAt : sv_Yv yX4_fitsAt cX4_fitsAt 4 (some .boolean) 1 := ⟨kw_282, kw_1, kw_35, kw_283, by decide, by decide, by decide +kernel⟩
theorem fX4_codeAt : sv_Yv yX4_codeAt cX4_codeAt 2 (some .char) 1 := ⟨kw_285, kw_286, kw_35, kw_287, by decide, by decide, by decide +kernel⟩
theorem fX4_isFloor : sv_Ys yX4_isFloor cX4_isFloor 1 (some .boolean) 1 := ⟨kw_289, kw_35, kw_290, by decide, by decide, by decide +kernel⟩
theorem fX4_fitsSign : sv_Ys yX4_fitsSign cX4_fitsSign 3 (some .boolean) 3 := ⟨kw_292, kw_35, kw_293, by decide, by decide, by decide +kernel⟩
theorem fX5_worst : sv_Yv yX5_worst cX5_worst 1 (some .int) 0 := ⟨kw_295, kw_296, kw_30, kw_297, by decide, by decide, by decide +kernel⟩
theorem fX0_mostMissed : sv_Yv yX0_mostMissed cX0_mostMissed 4 (some .int) 0 := ⟨kw_299, kw_300, kw_32, kw_301, by decide, by decide, by decide +kernel⟩
theorem fX5_lightness : sv_Yv yX5_lightness cX5_lightness 1 (some .double) 0 := ⟨kw_303, kw_304, kw_30, kw_305, by decide, by decide, by decide +kernel⟩
theorem fX3_lightShare : sv_Yv yX3_lightShare cX3_lightShare 2 (some .double) 0 := ⟨kw_307, kw_308, kw_31, kw_309, by decide, by decide, by decide +kernel⟩
theorem fX5_sumOf : sv_Ys yX5_sumOf cX5_sumOf 3 (some .int) 1 := ⟨kw_311, kw_30, kw_312, by decide, by decide, by decide +kernel⟩
theorem fX5_digest : sv_Yv yX5_digest cX5_digest 4 (some .long) 0 := ⟨kw_314, kw_315, kw_30, kw_316, by decide, by decide, by decide +kernel⟩
theorem fX5_counted : sv_Yv yX5_counted cX5_counted 2 (some .int) 1 := ⟨kw_320, kw_2, kw_30, kw_321, by decide, by decide, by decide +kernel⟩
theorem fX3_lampsBurning : sv_Yv yX3_lampsBurning cX3_lampsBurning 3 (some .int) 0 := ⟨kw_323, kw_324, kw_31, kw_325, by decide, by decide, by decide +kernel⟩
theorem fX3_lampOf : sv_Yv yX3_lampOf cX3_lampOf 3 (some .int) 1 := ⟨kw_327, kw_328, kw_31, kw_329, by decide, by decide, by decide +kernel⟩
theorem fX5_mixed : sv_Ys yX5_mixed cX5_mixed 4 (some .long) 2 := ⟨kw_332, kw_30, kw_333, by decide, by decide, by decide +kernel⟩
theorem fX5_mixedWithFloors : sv_Yv yX5_mixedWithFloors cX5_mixedWithFloors 7 (some .long) 1 := ⟨kw_337, kw_3, kw_30, kw_338, by decide, by decide, by decide +kernel⟩
theorem fX3_floorNumber : sv_Yv yX3_floorNumber cX3_floorNumber 3 (some .int) 2 := ⟨kw_340, kw_341, kw_31, kw_342, by decide, by decide, by decide +kernel⟩
theorem fX2_peopleOn : sv_Yv yX2_peopleOn cX2_peopleOn 4 (some .int) 1 := ⟨kw_344, kw_345, kw_33, kw_346, by decide, by decide, by decide +kernel⟩
theorem fX5_mixedWithPeople : sv_Yv yX5_mixedWithPeople cX5_mixedWithPeople 7 (some .long) 1 := ⟨kw_350, kw_4, kw_30, kw_351, by decide, by decide, by decide +kernel⟩
theorem fX2_personNumber : sv_Yv yX2_personNumber cX2_personNumber 3 (some .int) 2 := ⟨kw_353, kw_354, kw_33, kw_355, by decide, by decide, by decide +kernel⟩
theorem fX5_outlook : sv_Yv yX5_outlook cX5_outlook 4 (some .int) 2 := ⟨kw_358, kw_5, kw_30, kw_359, by decide, by decide, by decide +kernel⟩
theorem fX3_letPass : sv_Yv yX3_letPass cX3_letPass 4 (some .int) 1 := ⟨kw_362, kw_363, kw_31, kw_364, by decide, by decide, by decide +kernel⟩
theorem fX3_beginSecond : sv_Yv yX3_beginSecond cX3_beginSecond 2 none 0 := ⟨kw_366, kw_367, kw_31, kw_368, by decide, by decide, by decide +kernel⟩
theorem fX2_goOn : sv_Yv yX2_goOn cX2_goOn 4 none 1 := ⟨kw_370, kw_371, kw_33, kw_372, by decide, by decide, by decide +kernel⟩
theorem fX2_isThere : sv_Yv yX2_isThere cX2_isThere 2 (some .boolean) 1 := ⟨kw_374, kw_375, kw_33, kw_376, by decide, by decide, by decide +kernel⟩
theorem fX2_walk : sv_Yv yX2_walk cX2_walk 3 none 2 := ⟨kw_379, kw_6, kw_33, kw_380, by decide, by decide, by decide +kernel⟩
theorem fX2_moveUp : sv_Yv yX2_moveUp cX2_moveUp 3 none 2 := ⟨kw_385, kw_7, kw_33, kw_386, by decide, by decide, by decide +kernel⟩
theorem fX3_switchOnAround : sv_Yv yX3_switchOnAround cX3_switchOnAround 2 none 1 := ⟨kw_389, kw_8, kw_31, kw_390, by decide, by decide, by decide +kernel⟩
theorem fX3_endSecond : sv_Yv yX3_endSecond cX3_endSecond 2 none 0 := ⟨kw_392, kw_393, kw_31, kw_394, by decide, by decide, by decide +kernel⟩
theorem fX3_countSecondOn : sv_Yv yX3_countSecondOn cX3_countSecondOn 3 none 1 := ⟨kw_397, kw_9, kw_31, kw_398, by decide, by decide, by decide +kernel⟩
theorem fX3_powerOf : sv_Ys yX3_powerOf cX3_powerOf 1 (some .int) 1 := ⟨kw_401, kw_31, kw_402, by decide, by decide, by decide +kernel⟩
theorem fX0_burnDown : sv_Yv yX0_burnDown cX0_burnDown 2 none 1 := ⟨kw_404, kw_405, kw_32, kw_406, by decide, by decide, by decide +kernel⟩
theorem fX5_darkWith : sv_Yv yX5_darkWith cX5_darkWith 8 (some .int) 3 := ⟨kw_409, kw_10, kw_30, kw_410, by decide, by decide, by decide +kernel⟩
theorem fX3_letCome : sv_Yv yX3_letCome cX3_letCome 3 (some .int) 2 := ⟨kw_412, kw_413, kw_31, kw_414, by decide, by decide, by decide +kernel⟩
theorem fX2_enter : sv_Yv yX2_enter cX2_enter 5 (some .int) 3 := ⟨kw_416, kw_417, kw_33, kw_418, by decide, by decide, by decide +kernel⟩
theorem fX2_sendTo : sv_Yv yX2_sendTo cX2_sendTo 4 none 3 := ⟨kw_420, kw_421, kw_33, kw_422, by decide, by decide, by decide +kernel⟩
theorem fX2_placeOf : sv_Yv yX2_placeOf cX2_placeOf 3 (some .int) 1 := ⟨kw_425, kw_426, kw_33, kw_427, by decide, by decide, by decide +kernel⟩
theorem fX5_leastBurnTime : sv_Yv yX5_leastBurnTime cX5_leastBurnTime 8 (some .int) 2 := ⟨kw_432, kw_11, kw_30, kw_433, by decide, by decide, by decide +kernel⟩
theorem fX5_bitsOf : sv_Ys yX5_bitsOf cX5_bitsOf 5 (some .long) 1 := ⟨kw_439, kw_30, kw_440, by decide, by decide, by decide +kernel⟩
theorem fX5_mixedWithBuffer : sv_Yv yX5_mixedWithBuffer cX5_mixedWithBuffer 6 (some .long) 1 := ⟨kw_445, kw_12, kw_30, kw_446, by decide, by decide, by decide +kernel⟩
theorem fX5_come : sv_Yv yX5_come cX5_come 3 (some .int) 2 := ⟨kw_455, kw_456, kw_30, kw_457, by decide, by decide, by decide +kernel⟩
theorem fX5_checkWay : sv_Ys yX5_checkWay cX5_checkWay 2 none 2 := ⟨kw_459, kw_30, kw_460, by decide, by decide, by decide +kernel⟩
theorem fX5_checkFloor : sv_Ys yX5_checkFloor cX5_checkFloor 1 none 1 := ⟨kw_462, kw_30, kw_463, by decide, by decide, by decide +kernel⟩
theorem fX5_turn : sv_Yv yX5_turn cX5_turn 5 (some .int) 2 := ⟨kw_568, kw_569, kw_30, kw_570, by decide, by decide, by decide +kernel⟩
theorem fX5_press : sv_Yv yX5_press cX5_press 3 (some .int) 1 := ⟨kw_577, kw_578, kw_30, kw_579, by decide, by decide, by decide +kernel⟩
theorem fX5_sensor : sv_Yv yX5_sensor cX5_sensor 4 (some .int) 2 := ⟨kw_585, kw_586, kw_30, kw_587, by decide, by decide, by decide +kernel⟩
theorem fX5_set : sv_Yv yX5_set cX5_set 4 (some .int) 2 := ⟨kw_592, kw_593, kw_30, kw_594, by decide, by decide, by decide +kernel⟩
theorem fX5_checkSetting : sv_Ys yX5_checkSetting cX5_checkSetting 1 none 1 := ⟨kw_596, kw_30, kw_597, by decide, by decide, by decide +kernel⟩
theorem fX5_pass : sv_Yv yX5_pass cX5_pass 2 (some .int) 1 := ⟨kw_605, kw_606, kw_30, kw_607, by decide, by decide, by decide +kernel⟩
theorem fX5_checkSeconds : sv_Ys yX5_checkSeconds cX5_checkSeconds 1 none 1 := ⟨kw_609, kw_30, kw_610, by decide, by decide, by decide +kernel⟩
theorem fX5_append : sv_Yv yX5_append cX5_append 2 (some .int) 1 := ⟨kw_616, kw_617, kw_30, kw_618, by decide, by decide, by decide +kernel⟩
theorem fX4_add : sv_Yv yX4_add cX4_add 2 (some .int) 1 := ⟨kw_622, kw_623, kw_35, kw_624, by decide, by decide, by decide +kernel⟩
theorem fX5_comeAll : sv_Yv yX5_comeAll cX5_comeAll 4 (some .int) 0 := ⟨kw_629, kw_630, kw_30, kw_631, by decide, by decide, by decide +kernel⟩
theorem fX4_isComplete : sv_Yv yX4_isComplete cX4_isComplete 1 (some .boolean) 0 := ⟨kw_633, kw_634, kw_35, kw_635, by decide, by decide, by decide +kernel⟩
theorem fX4_parts : sv_Yv yX4_parts cX4_parts 1 (some .int) 0 := ⟨kw_639, kw_640, kw_35, kw_641, by decide, by decide, by decide +kernel⟩
theorem fX3_waitForRoom : sv_Yv yX3_waitForRoom cX3_waitForRoom 2 (some .int) 0 := ⟨kw_643, kw_644, kw_31, kw_645, by decide, by decide, by decide +kernel⟩
theorem fX4_startOf : sv_Yv yX4_startOf cX4_startOf 2 (some .int) 1 := ⟨kw_648, kw_649, kw_35, kw_650, by decide, by decide, by decide +kernel⟩
theorem fX4_goalOf : sv_Yv yX4_goalOf cX4_goalOf 2 (some .int) 1 := ⟨kw_652, kw_653, kw_35, kw_654, by decide, by decide, by decide +kernel⟩
theorem fX5_undo : sv_Yv yX5_undo cX5_undo 1 (some .int) 0 := ⟨kw_659, kw_660, kw_30, kw_661, by decide, by decide, by decide +kernel⟩
theorem fX1_restore : sv_Yv yX1_restore cX1_restore 3 none 1 := ⟨kw_664, kw_665, kw_34, kw_666, by decide, by decide, by decide +kernel⟩
theorem fX5_floor : sv_Yv yX5_floor cX5_floor 3 (some .int) 2 := ⟨kw_671, kw_672, kw_30, kw_673, by decide, by decide, by decide +kernel⟩
theorem fX5_checkWhat : sv_Ys yX5_checkWhat cX5_checkWhat 2 none 2 := ⟨kw_675, kw_30, kw_676, by decide, by decide, by decide +kernel⟩
theorem fX5_person : sv_Yv yX5_person cX5_person 3 (some .int) 2 := ⟨kw_682, kw_683, kw_30, kw_684, by decide, by decide, by decide +kernel⟩
theorem fX5_count : sv_Yv yX5_count cX5_count 2 (some .int) 1 := ⟨kw_690, kw_691, kw_30, kw_692, by decide, by decide, by decide +kernel⟩
theorem fX5_setting : sv_Yv yX5_setting cX5_setting 2 (some .int) 1 := ⟨kw_697, kw_698, kw_30, kw_699, by decide, by decide, by decide +kernel⟩
theorem fX5_ifPassed : sv_Yv yX5_ifPassed cX5_ifPassed 3 (some .int) 2 := ⟨kw_704, kw_705, kw_30, kw_706, by decide, by decide, by decide +kernel⟩
theorem fX5_dark : sv_Yv yX5_dark cX5_dark 3 (some .int) 2 := ⟨kw_711, kw_712, kw_30, kw_713, by decide, by decide, by decide +kernel⟩
theorem fX5_leastTime : sv_Yv yX5_leastTime cX5_leastTime 3 (some .int) 2 := ⟨kw_718, kw_719, kw_30, kw_720, by decide, by decide, by decide +kernel⟩
theorem fX6_init : sv_Yi yX6_init cX6_init 2 0 := ⟨kw_724, kw_36, kw_725, rfl, by decide, by decide, by decide +kernel⟩
theorem fX6_thrown : sv_Yv yX6_thrown cX6_thrown 1 (some .int) 0 := ⟨kw_768, kw_769, kw_36, kw_770, by decide, by decide, by decide +kernel⟩
theorem fX6_undo : sv_Yv yX6_undo cX6_undo 1 (some .int) 0 := ⟨kw_772, kw_773, kw_36, kw_774, by decide, by decide, by decide +kernel⟩
theorem fX6_fails : sv_Yv yX6_fails cX6_fails 2 (some .int) 1 := ⟨kw_777, kw_14, kw_36, kw_778, by decide, by decide, by decide +kernel⟩
theorem fX6_copies : sv_Ys yX6_copies cX6_copies 5 none 4 := ⟨kw_780, kw_36, kw_781, by decide, by decide, by decide +kernel⟩
theorem fX6_come : sv_Yv yX6_come cX6_come 3 (some .int) 2 := ⟨kw_783, kw_784, kw_36, kw_785, by decide, by decide, by decide +kernel⟩
theorem fX6_mayWalk : sv_Ys yX6_mayWalk cX6_mayWalk 2 (some .int) 2 := ⟨kw_787, kw_36, kw_788, by decide, by decide, by decide +kernel⟩
theorem fX6_isFloor : sv_Ys yX6_isFloor cX6_isFloor 1 (some .boolean) 1 := ⟨kw_790, kw_36, kw_791, by decide, by decide, by decide +kernel⟩
theorem fX6_in : sv_Ys yX6_in cX6_in 3 (some .boolean) 3 := ⟨kw_793, kw_36, kw_794, by decide, by decide, by decide +kernel⟩
theorem fX6_saves : sv_Yv yX6_saves cX6_saves 2 none 0 := ⟨kw_797, kw_15, kw_36, kw_798, by decide, by decide, by decide +kernel⟩
theorem fX6_comes : sv_Ys yX6_comes cX6_comes 4 (some .int) 3 := ⟨kw_800, kw_36, kw_801, by decide, by decide, by decide +kernel⟩
theorem fX6_turn : sv_Yv yX6_turn cX6_turn 5 (some .int) 2 := ⟨kw_803, kw_804, kw_36, kw_805, by decide, by decide, by decide +kernel⟩
theorem fX6_by : sv_Ys yX6_by cX6_by 3 (some .int) 3 := ⟨kw_807, kw_36, kw_808, by decide, by decide, by decide +kernel⟩
theorem fX6_changes : sv_Yv yX6_changes cX6_changes 4 (some .int) 2 := ⟨kw_811, kw_16, kw_36, kw_812, by decide, by decide, by decide +kernel⟩
theorem fX6_press : sv_Yv yX6_press cX6_press 3 (some .int) 1 := ⟨kw_814, kw_815, kw_36, kw_816, by decide, by decide, by decide +kernel⟩
theorem fX6_of : sv_Ys yX6_of cX6_of 3 (some .int) 3 := ⟨kw_818, kw_36, kw_819, by decide, by decide, by decide +kernel⟩
theorem fX6_switches : sv_Ys yX6_switches cX6_switches 3 none 2 := ⟨kw_821, kw_36, kw_822, by decide, by decide, by decide +kernel⟩
theorem fX6_sensor : sv_Yv yX6_sensor cX6_sensor 3 (some .int) 2 := ⟨kw_824, kw_825, kw_36, kw_826, by decide, by decide, by decide +kernel⟩
theorem fX6_night : sv_Yv yX6_night cX6_night 2 (some .int) 1 := ⟨kw_828, kw_829, kw_36, kw_830, by decide, by decide, by decide +kernel⟩
theorem fX6_fire : sv_Yv yX6_fire cX6_fire 4 (some .int) 1 := ⟨kw_832, kw_833, kw_36, kw_834, by decide, by decide, by decide +kernel⟩
theorem fX6_set : sv_Yv yX6_set cX6_set 3 (some .int) 2 := ⟨kw_836, kw_837, kw_36, kw_838, by decide, by decide, by decide +kernel⟩
theorem fX6_isFor : sv_Ys yX6_isFor cX6_isFor 2 (some .boolean) 2 := ⟨kw_840, kw_36, kw_841, by decide, by decide, by decide +kernel⟩
theorem fX6_pass : sv_Yv yX6_pass cX6_pass 4 (some .int) 1 := ⟨kw_843, kw_844, kw_36, kw_845, by decide, by decide, by decide +kernel⟩
theorem fX6_sum : sv_Ys yX6_sum cX6_sum 4 (some .int) 2 := ⟨kw_847, kw_36, kw_848, by decide, by decide, by decide +kernel⟩
theorem fX6_second : sv_Yv yX6_second cX6_second 5 none 1 := ⟨kw_851, kw_17, kw_36, kw_852, by decide, by decide, by decide +kernel⟩
theorem fX6_walks : sv_Ys yX6_walks cX6_walks 3 none 1 := ⟨kw_854, kw_36, kw_855, by decide, by decide, by decide +kernel⟩
theorem fX6_leaves : sv_Ys yX6_leaves cX6_leaves 3 none 2 := ⟨kw_857, kw_36, kw_858, by decide, by decide, by decide +kernel⟩
theorem fX6_looks : sv_Ys yX6_looks cX6_looks 2 none 1 := ⟨kw_860, kw_36, kw_861, by decide, by decide, by decide +kernel⟩
theorem fX6_on : sv_Ys yX6_on cX6_on 4 (some .int) 2 := ⟨kw_863, kw_36, kw_864, by decide, by decide, by decide +kernel⟩
theorem fX6_lamp : sv_Ys yX6_lamp cX6_lamp 3 (some .int) 2 := ⟨kw_866, kw_36, kw_867, by decide, by decide, by decide +kernel⟩
theorem fX6_append : sv_Yv yX6_append cX6_append 2 (some .int) 1 := ⟨kw_869, kw_870, kw_36, kw_871, by decide, by decide, by decide +kernel⟩
theorem fX6_clearBuffer : sv_Yv yX6_clearBuffer cX6_clearBuffer 2 (some .int) 0 := ⟨kw_873, kw_874, kw_36, kw_875, by decide, by decide, by decide +kernel⟩
theorem fX6_firstError : sv_Yv yX6_firstError cX6_firstError 2 (some .int) 0 := ⟨kw_877, kw_878, kw_36, kw_879, by decide, by decide, by decide +kernel⟩
theorem fX6_isText : sv_Yv yX6_isText cX6_isText 2 (some .boolean) 0 := ⟨kw_882, kw_18, kw_36, kw_883, by decide, by decide, by decide +kernel⟩
theorem fX6_isPart : sv_Yv yX6_isPart cX6_isPart 4 (some .boolean) 0 := ⟨kw_886, kw_19, kw_36, kw_887, by decide, by decide, by decide +kernel⟩
theorem fX6_isAt : sv_Yv yX6_isAt cX6_isAt 3 (some .boolean) 2 := ⟨kw_890, kw_20, kw_36, kw_891, by decide, by decide, by decide +kernel⟩
theorem fX6_stops : sv_Yv yX6_stops cX6_stops 1 (some .boolean) 0 := ⟨kw_894, kw_21, kw_36, kw_895, by decide, by decide, by decide +kernel⟩
theorem fX6_comeAll : sv_Yv yX6_comeAll cX6_comeAll 3 (some .int) 0 := ⟨kw_897, kw_898, kw_36, kw_899, by decide, by decide, by decide +kernel⟩
theorem fX6_floor : sv_Yv yX6_floor cX6_floor 3 (some .int) 2 := ⟨kw_901, kw_902, kw_36, kw_903, by decide, by decide, by decide +kernel⟩
theorem fX6_ofFloor : sv_Yv yX6_ofFloor cX6_ofFloor 3 (some .int) 2 := ⟨kw_906, kw_22, kw_36, kw_907, by decide, by decide, by decide +kernel⟩
theorem fX6_person : sv_Yv yX6_person cX6_person 3 (some .int) 2 := ⟨kw_909, kw_910, kw_36, kw_911, by decide, by decide, by decide +kernel⟩
theorem fX6_count : sv_Yv yX6_count cX6_count 2 (some .int) 1 := ⟨kw_913, kw_914, kw_36, kw_915, by decide, by decide, by decide +kernel⟩
theorem fX6_counted : sv_Yv yX6_counted cX6_counted 2 (some .int) 1 := ⟨kw_918, kw_23, kw_36, kw_919, by decide, by decide, by decide +kernel⟩
theorem fX6_lit : sv_Ys yX6_lit cX6_lit 3 (some .int) 1 := ⟨kw_921, kw_36, kw_922, by decide, by decide, by decide +kernel⟩
theorem fX6_setting : sv_Yv yX6_setting cX6_setting 2 (some .int) 1 := ⟨kw_924, kw_925, kw_36, kw_926, by decide, by decide, by decide +kernel⟩
theorem fX6_ifPassed : sv_Yv yX6_ifPassed cX6_ifPassed 3 (some .int) 2 := ⟨kw_928, kw_929, kw_36, kw_930, by decide, by decide, by decide +kernel⟩
theorem fX6_byPassing : sv_Yv yX6_byPassing cX6_byPassing 4 (some .int) 2 := ⟨kw_933, kw_24, kw_36, kw_934, by decide, by decide, by decide +kernel⟩
theorem fX6_dark : sv_Yv yX6_dark cX6_dark 3 (some .int) 2 := ⟨kw_936, kw_937, kw_36, kw_938, by decide, by decide, by decide +kernel⟩
theorem fX6_walked : sv_Yv yX6_walked cX6_walked 4 (some .int) 3 := ⟨kw_941, kw_25, kw_36, kw_942, by decide, by decide, by decide +kernel⟩
theorem fX6_isThere : sv_Ys yX6_isThere cX6_isThere 4 (some .boolean) 2 := ⟨kw_944, kw_36, kw_945, by decide, by decide, by decide +kernel⟩
theorem fX6_leastTime : sv_Yv yX6_leastTime cX6_leastTime 3 (some .int) 2 := ⟨kw_947, kw_948, kw_36, kw_949, by decide, by decide, by decide +kernel⟩
theorem fX6_least : sv_Yv yX6_least cX6_least 7 (some .int) 2 := ⟨kw_952, kw_26, kw_36, kw_953, by decide, by decide, by decide +kernel⟩
theorem fX6_worst : sv_Yv yX6_worst cX6_worst 1 (some .int) 0 := ⟨kw_955, kw_956, kw_36, kw_957, by decide, by decide, by decide +kernel⟩
theorem fX6_missed : sv_Yv yX6_missed cX6_missed 4 (some .int) 0 := ⟨kw_960, kw_27, kw_36, kw_961, by decide, by decide, by decide +kernel⟩
theorem fX6_lightness : sv_Yv yX6_lightness cX6_lightness 1 (some .double) 0 := ⟨kw_963, kw_964, kw_36, kw_965, by decide, by decide, by decide +kernel⟩
theorem fX6_share : sv_Yv yX6_share cX6_share 2 (some .double) 0 := ⟨kw_968, kw_28, kw_36, kw_969, by decide, by decide, by decide +kernel⟩
theorem fX6_digest : sv_Yv yX6_digest cX6_digest 5 (some .long) 0 := ⟨kw_971, kw_972, kw_36, kw_973, by decide, by decide, by decide +kernel⟩
theorem fJxe99ae_doubleToLongBits_ccdee : sv_Ys yJxe99ae_doubleToLongBits_ccdee cJxe99ae_doubleToLongBits_ccdee 2 (some .long) 1 := ⟨kw_977, kw_43, kw_978, by decide, by decide, by decide +kernel⟩
theorem fJxe99ae_isNaN_b9ae7 : sv_Ys yJxe99ae_isNaN_b9ae7 cJxe99ae_isNaN_b9ae7 2 (some .boolean) 1 := ⟨kw_980, kw_43, kw_981, by decide, by decide, by decide +kernel⟩
theorem kn_RX3_32 : (RX3, 32, yX5_copyRow, "StairLight") ∈ sv_nests := List.mem_of_getElem? (i := 0) rfl
theorem kn_RX0_30 : (RX0, 30, yX5_copyRow, "StairLight") ∈ sv_nests := List.mem_of_getElem? (i := 1) rfl
theorem kn_RX2_31 : (RX2, 31, yX5_copyRow, "StairLight") ∈ sv_nests := List.mem_of_getElem? (i := 2) rfl
theorem kn_RX3_57 : (RX3, 57, yX5_at, "StairLight") ∈ sv_nests := List.mem_of_getElem? (i := 3) rfl
theorem kn_RX0_34 : (RX0, 34, yX5_at, "StairLight") ∈ sv_nests := List.mem_of_getElem? (i := 4) rfl
theorem kn_RX0_38 : (RX0, 38, yX5_raise, "StairLight") ∈ sv_nests := List.mem_of_getElem? (i := 5) rfl
theorem kn_RX0_42 : (RX0, 42, yX5_put, "StairLight") ∈ sv_nests := List.mem_of_getElem? (i := 6) rfl
theorem kn_RX3_83 : (RX3, 83, yX5_sumOf, "StairLight") ∈ sv_nests := List.mem_of_getElem? (i := 7) rfl
theorem kn_RX2_47 : (RX2, 47, yX5_at, "StairLight") ∈ sv_nests := List.mem_of_getElem? (i := 8) rfl
theorem kn_RX2_58 : (RX2, 58, yX5_raise, "StairLight") ∈ sv_nests := List.mem_of_getElem? (i := 9) rfl
theorem kn_RX2_35 : (RX2, 35, yX5_put, "StairLight") ∈ sv_nests := List.mem_of_getElem? (i := 10) rfl
theorem kn_RX3_122 : (RX3, 122, yX5_raise, "StairLight") ∈ sv_nests := List.mem_of_getElem? (i := 11) rfl
