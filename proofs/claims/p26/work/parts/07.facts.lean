/-! what is known of each method by the tables; rows over numbers of known size -/
section SVF
variable {p : Program} {l : Launch} {e : Env} {R : Room} {s : State} {m : MethodId} {args : Array Value} {below : List Frame} {meth : Method} {c : Code} {k n nL : Nat} {Q : State → Prop} {G : sv_G} {Wd Wd' Wx : Heap → Prop}
variable {cc : ByteArray} {pc : Nat} {lv lv' : List (Nat × Value)} {st rest : List Value} {own : String} {z : Nat} {M : sv_M} {o : Int64}
theorem sv_okj {c j : Nat} (hc : c < 14) (hj : j < 8) : sv_ok c j = true := by simp [sv_ok, hc, hj]
theorem sv_nlt (c : Nat) : sv_n c < 2147483648 := by
  unfold sv_n
  repeat' split
  all_goals decide
theorem sv_incN (a n : Nat) : nI a + Int32.ofInt (n : Int) = nI (a + n) := by
  rw [← nI_add]
  rfl
theorem sv_recv0 (C : sv_C p l s m args meth c cc nL own G) {j : Nat} (hj : j < 8) : sv_recv s (sv_W G z M o) RX3 (sv_r G 0 j) := sv_recvg C sv_cl3.1 (fun H h => h.2.2 0 j (sv_okj (by decide) hj))
theorem sv_recv1 (C : sv_C p l s m args meth c cc nL own G) {j : Nat} (hj : j < 8) : sv_recv s (sv_W G z M o) RX0 (sv_r G 1 j) := sv_recvg C sv_cl0.1 (fun H h => h.2.2 1 j (sv_okj (by decide) hj))
theorem sv_recv8 (C : sv_C p l s m args meth c cc nL own G) {j : Nat} (hj : j < 8) : sv_recv s (sv_W G z M o) RX2 (sv_r G 8 j) := sv_recvg C sv_cl2.1 (fun H h => h.2.2 8 j (sv_okj (by decide) hj))
theorem sv_recv14 (C : sv_C p l s m args meth c cc nL own G) : sv_recv s (sv_W G z M o) RX5 (sv_r G 14 0) := sv_recvg C sv_cl5.1 (fun H h => h.2.2 14 0 rfl)
theorem sv_recv15 (C : sv_C p l s m args meth c cc nL own G) : sv_recv s (sv_W G z M o) RX1 (sv_r G 15 0) := sv_recvg C sv_cl1.1 (fun H h => h.2.2 15 0 rfl)
theorem sv_recv17 (C : sv_C p l s m args meth c cc nL own G) : sv_recv s (sv_W G z M o) RX4 (sv_r G 17 0) := sv_recvg C sv_cl4.1 (fun H h => h.2.2 17 0 rfl)
theorem sv_ri {x : Int32} (kk : ∀ v : Int32, v = x → sv_V p l e R s m args below meth c nL G Q k n Wd pc lv (.int v :: st)) : sv_V p l e R s m args below meth c nL G Q k n Wd pc lv ((some (Value.int x)).toList ++ st) := kk x rfl
theorem sv_riN {x : Int32} (a : Nat) (h : x = nI a) (kk : sv_V p l e R s m args below meth c nL G Q k n Wd pc lv (.int (nI a) :: st)) : sv_V p l e R s m args below meth c nL G Q k n Wd pc lv ((some (Value.int x)).toList ++ st) := by subst h; exact kk
theorem sv_riS {x : Int32} (a : Int32) (h : x = a) (kk : sv_V p l e R s m args below meth c nL G Q k n Wd pc lv (.int a :: st)) : sv_V p l e R s m args below meth c nL G Q k n Wd pc lv ((some (Value.int x)).toList ++ st) := by subst h; exact kk
theorem sv_rl {x : Int64} (kk : ∀ v : Int64, v = x → sv_V p l e R s m args below meth c nL G Q k n Wd pc lv (.long v :: st)) : sv_V p l e R s m args below meth c nL G Q k n Wd pc lv ((some (Value.long x)).toList ++ st) := kk x rfl
theorem sv_rlS {x : Int64} (kk : sv_V p l e R s m args below meth c nL G Q k n Wd pc lv (.long x :: st)) : sv_V p l e R s m args below meth c nL G Q k n Wd pc lv ((some (Value.long x)).toList ++ st) := kk
theorem sv_rd {x : UInt64} (kk : ∀ v : UInt64, v = x → sv_V p l e R s m args below meth c nL G Q k n Wd pc lv (.double v :: st)) : sv_V p l e R s m args below meth c nL G Q k n Wd pc lv ((some (Value.double x)).toList ++ st) := kk x rfl
theorem sv_ra {x : Nat} (kk : sv_V p l e R s m args below meth c nL G Q k n Wd pc lv (.ref x :: st)) : sv_V p l e R s m args below meth c nL G Q k n Wd pc lv ((some (Value.ref x)).toList ++ st) := kk
theorem sv_rv (kk : sv_V p l e R s m args below meth c nL G Q k n Wd pc lv st) : sv_V p l e R s m args below meth c nL G Q k n Wd pc lv ((none : Option Value).toList ++ st) := kk
theorem sv_ialdN (C : sv_C p l s m args meth c cc nL own G) {c' j i : Nat} (q p' : Nat) (hq : sv_q c' j = q) (hp : sv_i c' i = p') (hok : sv_ok c' j = true) (hr : sv_ir c' = true) (h : i < sv_n c') (d : decode cc pc = .ok (.iaload, 1)) (kk : sv_V p l e R s m args below meth c nL G Q k n (sv_W G z M o) (pc + 1) lv (.int (M q p') :: st)) : sv_V p l e R s m args below meth c nL G Q k n (sv_W G z M o) pc lv (.int (nI i) :: .ref (sv_r G c' j) :: st) := by
  subst hq; subst hp
  have hs : i < 2 ^ 31 := Nat.lt_trans h (sv_nlt c')
  exact sv_iald C hok hr (vp_in_nI h (sv_nlt c')) d (by rw [nI_clamp hs]; exact kk)
theorem sv_iastN (C : sv_C p l s m args meth c cc nL own G) {c' j i : Nat} {x : Int32} (q p' : Nat) (hq : sv_q c' j = q) (hp : sv_i c' i = p') (hok : sv_ok c' j = true) (hr : sv_ir c' = true) (h : i < sv_n c') (d : decode cc pc = .ok (.iastore, 1)) (kk : sv_V p l e R s m args below meth c nL G Q k n (sv_W G z (sv_w M q p' x) o) (pc + 1) lv st) : sv_V p l e R s m args below meth c nL G Q k n (sv_W G z M o) pc lv (.int x :: .int (nI i) :: .ref (sv_r G c' j) :: st) := by
  subst hq; subst hp
  have hs : i < 2 ^ 31 := Nat.lt_trans h (sv_nlt c')
  exact sv_iast C hok hr (vp_in_nI h (sv_nlt c')) d (by rw [nI_clamp hs]; exact kk)
theorem sv_caldN (C : sv_C p l s m args meth c cc nL own G) {i : Nat} (h : i < 60) (d : decode cc pc = .ok (.caload, 1)) (kk : sv_V p l e R s m args below meth c nL G Q k n (sv_W G z M o) (pc + 1) lv (.int (M 9 i) :: st)) : sv_V p l e R s m args below meth c nL G Q k n (sv_W G z M o) pc lv (.int (nI i) :: .ref (sv_r G 18 0) :: st) := by
  have hs : i < 2 ^ 31 := by omega
  exact sv_cald C (vp_in_nI h (by decide)) d (by rw [nI_clamp hs]; exact kk)
theorem sv_icmp_eqN (C : sv_C p l s m args meth c cc nL own G) {a b : Nat} {off : Int} (tgt : Nat) (d : decode cc pc = .ok (.if_icmp .eq off, 3)) (ht : (pc : Int) + off = (tgt : Int)) (ha : a < 2147483648) (hb : b < 2147483648) (kt : a = b → sv_V p l e R s m args below meth c nL G Q k n Wd tgt lv st) (kf : ¬ a = b → sv_V p l e R s m args below meth c nL G Q k n Wd (pc + 3) lv st) : sv_V p l e R s m args below meth c nL G Q k n Wd pc lv (.int (nI b) :: .int (nI a) :: st) := sv_icmp_eq C tgt d ht (fun q => kt ((nI_eq ha hb).mp q)) (fun q => kf (fun z => q ((nI_eq ha hb).mpr z)))
theorem sv_icmp_neN (C : sv_C p l s m args meth c cc nL own G) {a b : Nat} {off : Int} (tgt : Nat) (d : decode cc pc = .ok (.if_icmp .ne off, 3)) (ht : (pc : Int) + off = (tgt : Int)) (ha : a < 2147483648) (hb : b < 2147483648) (kt : ¬ a = b → sv_V p l e R s m args below meth c nL G Q k n Wd tgt lv st) (kf : a = b → sv_V p l e R s m args below meth c nL G Q k n Wd (pc + 3) lv st) : sv_V p l e R s m args below meth c nL G Q k n Wd pc lv (.int (nI b) :: .int (nI a) :: st) := sv_icmp_ne C tgt d ht (fun q => kt (fun z => q ((nI_eq ha hb).mpr z))) (fun q => kf ((nI_eq ha hb).mp q))
theorem sv_icmp_ltN (C : sv_C p l s m args meth c cc nL own G) {a b : Nat} {off : Int} (tgt : Nat) (d : decode cc pc = .ok (.if_icmp .lt off, 3)) (ht : (pc : Int) + off = (tgt : Int)) (ha : a < 2147483648) (hb : b < 2147483648) (kt : a < b → sv_V p l e R s m args below meth c nL G Q k n Wd tgt lv st) (kf : ¬ a < b → sv_V p l e R s m args below meth c nL G Q k n Wd (pc + 3) lv st) : sv_V p l e R s m args below meth c nL G Q k n Wd pc lv (.int (nI b) :: .int (nI a) :: st) := sv_icmp_lt C tgt d ht (fun q => kt ((nI_ltI ha hb).mp q)) (fun q => kf (fun z => q ((nI_ltI ha hb).mpr z)))
theorem sv_icmp_geN (C : sv_C p l s m args meth c cc nL own G) {a b : Nat} {off : Int} (tgt : Nat) (d : decode cc pc = .ok (.if_icmp .ge off, 3)) (ht : (pc : Int) + off = (tgt : Int)) (ha : a < 2147483648) (hb : b < 2147483648) (kt : b ≤ a → sv_V p l e R s m args below meth c nL G Q k n Wd tgt lv st) (kf : ¬ b ≤ a → sv_V p l e R s m args below meth c nL G Q k n Wd (pc + 3) lv st) : sv_V p l e R s m args below meth c nL G Q k n Wd pc lv (.int (nI b) :: .int (nI a) :: st) := sv_icmp_ge C tgt d ht (fun q => kt ((nI_leI hb ha).mp q)) (fun q => kf (fun z => q ((nI_leI hb ha).mpr z)))
theorem sv_icmp_gtN (C : sv_C p l s m args meth c cc nL own G) {a b : Nat} {off : Int} (tgt : Nat) (d : decode cc pc = .ok (.if_icmp .gt off, 3)) (ht : (pc : Int) + off = (tgt : Int)) (ha : a < 2147483648) (hb : b < 2147483648) (kt : b < a → sv_V p l e R s m args below meth c nL G Q k n Wd tgt lv st) (kf : ¬ b < a → sv_V p l e R s m args below meth c nL G Q k n Wd (pc + 3) lv st) : sv_V p l e R s m args below meth c nL G Q k n Wd pc lv (.int (nI b) :: .int (nI a) :: st) := sv_icmp_gt C tgt d ht (fun q => kt ((nI_ltI hb ha).mp q)) (fun q => kf (fun z => q ((nI_ltI hb ha).mpr z)))
theorem sv_icmp_leN (C : sv_C p l s m args meth c cc nL own G) {a b : Nat} {off : Int} (tgt : Nat) (d : decode cc pc = .ok (.if_icmp .le off, 3)) (ht : (pc : Int) + off = (tgt : Int)) (ha : a < 2147483648) (hb : b < 2147483648) (kt : a ≤ b → sv_V p l e R s m args below meth c nL G Q k n Wd tgt lv st) (kf : ¬ a ≤ b → sv_V p l e R s m args below meth c nL G Q k n Wd (pc + 3) lv st) : sv_V p l e R s m args below meth c nL G Q k n Wd pc lv (.int (nI b) :: .int (nI a) :: st) := sv_icmp_le C tgt d ht (fun q => kt ((nI_leI ha hb).mp q)) (fun q => kf (fun z => q ((nI_leI ha hb).mpr z)))
theorem sv_ex {α : Type} {P : α → Prop} {F : α → Heap → Prop} (kk : ∀ x, P x → sv_V p l e R s m args below meth c nL G Q k n (F x) pc lv st) : sv_V p l e R s m args below meth c nL G Q k n (fun H => ∃ x, P x ∧ F x H) pc lv st := fun H locs ls h1 h2 h3 => by
  obtain ⟨x, hx, hF⟩ := h1
  exact kk x hx H locs ls hF h2 h3
/-- a loop that counts up: from i0 on, to N at most -/
theorem sv_loop (N : Nat) (I : Nat → Prop) (Wf : Nat → Heap → Prop) (Lf : Nat → List (Nat × Value)) (i0 : Nat) (h0 : i0 ≤ N) (hI : I i0) (body : ∀ i, i0 ≤ i → i ≤ N → I i → (i < N → I (i + 1) → sv_V p l e R s m args below meth c nL G Q k n (Wf (i + 1)) pc (Lf (i + 1)) st) → sv_V p l e R s m args below meth c nL G Q k n (Wf i) pc (Lf i) st) : sv_V p l e R s m args below meth c nL G Q k n (Wf i0) pc (Lf i0) st := by
  have key : ∀ t i, i0 ≤ i → i ≤ N → N - i < t → I i → sv_V p l e R s m args below meth c nL G Q k n (Wf i) pc (Lf i) st := by
    intro t
    induction t with
    | zero => intro i _ _ h; omega
    | succ t ih => intro i hi hN h hIi; exact body i hi hN hIi (fun hl hn => ih (i + 1) (by omega) (by omega) (by omega) hn)
  exact key (N + 1) i0 (Nat.le_refl _) h0 (by omega) hI
/-- a loop with a measure that falls -/
theorem sv_loopm {α : Type} (Wf : α → Heap → Prop) (Lf : α → List (Nat × Value)) (μ : α → Nat) (I : α → Prop) (a0 : α) (h0 : I a0) (body : ∀ a, I a → (∀ b, I b → μ b < μ a → sv_V p l e R s m args below meth c nL G Q k n (Wf b) pc (Lf b) st) → sv_V p l e R s m args below meth c nL G Q k n (Wf a) pc (Lf a) st) : sv_V p l e R s m args below meth c nL G Q k n (Wf a0) pc (Lf a0) st := by
  have key : ∀ t a, I a → μ a < t → sv_V p l e R s m args below meth c nL G Q k n (Wf a) pc (Lf a) st := by
    intro t
    induction t with
    | zero => intro a _ h; omega
    | succ t ih => intro a ha h; exact body a ha (fun b hb hl => ih b hb (by omega))
  exact key (μ a0 + 1) a0 h0 (by omega)
end SVF
theorem fX5_init : sv_Yi yX5_init cX5_init 1 0 := ⟨kw_24, kw_9, kw_25, rfl, by decide, by decide, by decide +kernel⟩
theorem fX3_init : sv_Yi yX3_init cX3_init 1 0 := ⟨kw_32, kw_10, kw_33, rfl, by decide, by decide, by decide +kernel⟩
theorem fX0_init : sv_Yi yX0_init cX0_init 2 0 := ⟨kw_38, kw_11, kw_39, rfl, by decide, by decide, by decide +kernel⟩
theorem fX2_init : sv_Yi yX2_init cX2_init 1 0 := ⟨kw_75, kw_12, kw_76, rfl, by decide, by decide, by decide +kernel⟩
theorem fX5_copyRow : sv_Ys yX5_copyRow cX5_copyRow 3 none 2 := ⟨kw_106, kw_9, kw_107, by decide, by decide, by decide +kernel⟩
theorem fX1_init : sv_Yi yX1_init cX1_init 2 0 := ⟨kw_139, kw_13, kw_140, rfl, by decide, by decide, by decide +kernel⟩
theorem fX4_init : sv_Yi yX4_init cX4_init 1 0 := ⟨kw_159, kw_14, kw_160, rfl, by decide, by decide, by decide +kernel⟩
theorem fX5_floor : sv_Yv yX5_floor cX5_floor 3 (some .int) 2 := ⟨kw_184, kw_185, kw_9, kw_186, by decide, by decide, by decide +kernel⟩
theorem fX5_checkFloor : sv_Ys yX5_checkFloor cX5_checkFloor 1 none 1 := ⟨kw_188, kw_9, kw_189, by decide, by decide, by decide +kernel⟩
theorem fX5_checkWhat : sv_Ys yX5_checkWhat cX5_checkWhat 2 none 2 := ⟨kw_259, kw_9, kw_260, by decide, by decide, by decide +kernel⟩
theorem fX3_floorNumber : sv_Yv yX3_floorNumber cX3_floorNumber 3 (some .int) 2 := ⟨kw_278, kw_279, kw_10, kw_280, by decide, by decide, by decide +kernel⟩
theorem fX3_lampOf : sv_Yv yX3_lampOf cX3_lampOf 3 (some .int) 1 := ⟨kw_282, kw_283, kw_10, kw_284, by decide, by decide, by decide +kernel⟩
theorem fX5_at : sv_Ys yX5_at cX5_at 2 (some .int) 2 := ⟨kw_286, kw_9, kw_287, by decide, by decide, by decide +kernel⟩
theorem fX2_peopleOn : sv_Yv yX2_peopleOn cX2_peopleOn 4 (some .int) 1 := ⟨kw_289, kw_290, kw_12, kw_291, by decide, by decide, by decide +kernel⟩
theorem fX5_count : sv_Yv yX5_count cX5_count 2 (some .int) 1 := ⟨kw_294, kw_295, kw_9, kw_296, by decide, by decide, by decide +kernel⟩
theorem fX5_counted : sv_Yv yX5_counted cX5_counted 2 (some .int) 1 := ⟨kw_299, kw_1, kw_9, kw_300, by decide, by decide, by decide +kernel⟩
theorem fX3_lampsBurning : sv_Yv yX3_lampsBurning cX3_lampsBurning 3 (some .int) 0 := ⟨kw_302, kw_303, kw_10, kw_304, by decide, by decide, by decide +kernel⟩
theorem fX5_sumOf : sv_Ys yX5_sumOf cX5_sumOf 3 (some .int) 1 := ⟨kw_306, kw_9, kw_307, by decide, by decide, by decide +kernel⟩
theorem fX5_numberOf : sv_Ys yX5_numberOf cX5_numberOf 1 (some .int) 1 := ⟨kw_309, kw_9, kw_310, by decide, by decide, by decide +kernel⟩
theorem fX5_setting : sv_Yv yX5_setting cX5_setting 2 (some .int) 1 := ⟨kw_312, kw_313, kw_9, kw_314, by decide, by decide, by decide +kernel⟩
theorem fX5_checkSetting : sv_Ys yX5_checkSetting cX5_checkSetting 1 none 1 := ⟨kw_316, kw_9, kw_317, by decide, by decide, by decide +kernel⟩
theorem fX5_ifPassed : sv_Yv yX5_ifPassed cX5_ifPassed 3 (some .int) 2 := ⟨kw_322, kw_323, kw_9, kw_324, by decide, by decide, by decide +kernel⟩
theorem fX5_checkSeconds : sv_Ys yX5_checkSeconds cX5_checkSeconds 1 none 1 := ⟨kw_326, kw_9, kw_327, by decide, by decide, by decide +kernel⟩
theorem fX5_outlook : sv_Yv yX5_outlook cX5_outlook 4 (some .int) 2 := ⟨kw_331, kw_2, kw_9, kw_332, by decide, by decide, by decide +kernel⟩
theorem fX3_copyFrom : sv_Yv yX3_copyFrom cX3_copyFrom 2 none 1 := ⟨kw_334, kw_335, kw_10, kw_336, by decide, by decide, by decide +kernel⟩
theorem fX0_copyFrom : sv_Yv yX0_copyFrom cX0_copyFrom 2 none 1 := ⟨kw_338, kw_339, kw_11, kw_340, by decide, by decide, by decide +kernel⟩
theorem fX2_copyFrom : sv_Yv yX2_copyFrom cX2_copyFrom 2 none 1 := ⟨kw_343, kw_344, kw_12, kw_345, by decide, by decide, by decide +kernel⟩
theorem fX3_letPass : sv_Yv yX3_letPass cX3_letPass 4 (some .int) 1 := ⟨kw_348, kw_349, kw_10, kw_350, by decide, by decide, by decide +kernel⟩
theorem fX3_beginSecond : sv_Yv yX3_beginSecond cX3_beginSecond 2 none 0 := ⟨kw_353, kw_354, kw_10, kw_355, by decide, by decide, by decide +kernel⟩
theorem fX2_goOn : sv_Yv yX2_goOn cX2_goOn 4 none 1 := ⟨kw_357, kw_358, kw_12, kw_359, by decide, by decide, by decide +kernel⟩
theorem fX2_isThere : sv_Yv yX2_isThere cX2_isThere 2 (some .boolean) 1 := ⟨kw_361, kw_362, kw_12, kw_363, by decide, by decide, by decide +kernel⟩
theorem fX2_walk : sv_Yv yX2_walk cX2_walk 3 none 2 := ⟨kw_366, kw_3, kw_12, kw_367, by decide, by decide, by decide +kernel⟩
theorem fX5_raise : sv_Ys yX5_raise cX5_raise 3 none 3 := ⟨kw_369, kw_9, kw_370, by decide, by decide, by decide +kernel⟩
theorem fX5_put : sv_Ys yX5_put cX5_put 3 none 3 := ⟨kw_372, kw_9, kw_373, by decide, by decide, by decide +kernel⟩
theorem fX2_moveUp : sv_Yv yX2_moveUp cX2_moveUp 3 none 2 := ⟨kw_376, kw_4, kw_12, kw_377, by decide, by decide, by decide +kernel⟩
theorem fX3_switchOn : sv_Yv yX3_switchOn cX3_switchOn 2 none 1 := ⟨kw_379, kw_380, kw_10, kw_381, by decide, by decide, by decide +kernel⟩
theorem fX0_letBurn : sv_Yv yX0_letBurn cX0_letBurn 4 none 2 := ⟨kw_383, kw_384, kw_11, kw_385, by decide, by decide, by decide +kernel⟩
theorem fX3_endSecond : sv_Yv yX3_endSecond cX3_endSecond 2 none 0 := ⟨kw_390, kw_391, kw_10, kw_392, by decide, by decide, by decide +kernel⟩
theorem fX3_countSecondOn : sv_Yv yX3_countSecondOn cX3_countSecondOn 3 none 1 := ⟨kw_395, kw_5, kw_10, kw_396, by decide, by decide, by decide +kernel⟩
theorem fX3_powerOf : sv_Ys yX3_powerOf cX3_powerOf 1 (some .int) 1 := ⟨kw_399, kw_10, kw_400, by decide, by decide, by decide +kernel⟩
theorem fX0_burnDown : sv_Yv yX0_burnDown cX0_burnDown 2 none 1 := ⟨kw_402, kw_403, kw_11, kw_404, by decide, by decide, by decide +kernel⟩
theorem fX5_dark : sv_Yv yX5_dark cX5_dark 3 (some .int) 2 := ⟨kw_406, kw_407, kw_9, kw_408, by decide, by decide, by decide +kernel⟩
theorem fX5_checkWay : sv_Ys yX5_checkWay cX5_checkWay 2 none 2 := ⟨kw_410, kw_9, kw_411, by decide, by decide, by decide +kernel⟩
theorem fX5_darkWith : sv_Yv yX5_darkWith cX5_darkWith 8 (some .int) 3 := ⟨kw_415, kw_6, kw_9, kw_416, by decide, by decide, by decide +kernel⟩
theorem fX3_letCome : sv_Yv yX3_letCome cX3_letCome 3 (some .int) 2 := ⟨kw_419, kw_420, kw_10, kw_421, by decide, by decide, by decide +kernel⟩
theorem fX2_enter : sv_Yv yX2_enter cX2_enter 5 (some .int) 3 := ⟨kw_423, kw_424, kw_12, kw_425, by decide, by decide, by decide +kernel⟩
theorem fX2_sendTo : sv_Yv yX2_sendTo cX2_sendTo 4 none 3 := ⟨kw_427, kw_428, kw_12, kw_429, by decide, by decide, by decide +kernel⟩
theorem fX2_placeOf : sv_Yv yX2_placeOf cX2_placeOf 3 (some .int) 1 := ⟨kw_432, kw_433, kw_12, kw_434, by decide, by decide, by decide +kernel⟩
theorem fL_low : sv_Ys yL_low cL_low 2 (some .int) 2 := ⟨kw_438, kw_8, kw_439, by decide, by decide, by decide +kernel⟩
theorem fL_cell : sv_Ys yL_cell cL_cell 2 (some .int) 2 := ⟨kw_442, kw_8, kw_443, by decide, by decide, by decide +kernel⟩
theorem fL_stairs : sv_Ys yL_stairs cL_stairs 12 (some .boolean) 1 := ⟨kw_446, kw_8, kw_447, by decide, by decide, by decide +kernel⟩
theorem fX5_person : sv_Yv yX5_person cX5_person 3 (some .int) 2 := ⟨kw_449, kw_450, kw_9, kw_451, by decide, by decide, by decide +kernel⟩
theorem fX2_personNumber : sv_Yv yX2_personNumber cX2_personNumber 3 (some .int) 2 := ⟨kw_454, kw_455, kw_12, kw_456, by decide, by decide, by decide +kernel⟩
theorem fX5_worst : sv_Yv yX5_worst cX5_worst 1 (some .int) 0 := ⟨kw_458, kw_459, kw_9, kw_460, by decide, by decide, by decide +kernel⟩
theorem fX0_mostMissed : sv_Yv yX0_mostMissed cX0_mostMissed 4 (some .int) 0 := ⟨kw_462, kw_463, kw_11, kw_464, by decide, by decide, by decide +kernel⟩
theorem fX5_lightness : sv_Yv yX5_lightness cX5_lightness 1 (some .double) 0 := ⟨kw_466, kw_467, kw_9, kw_468, by decide, by decide, by decide +kernel⟩
theorem fX3_lightShare : sv_Yv yX3_lightShare cX3_lightShare 2 (some .double) 0 := ⟨kw_470, kw_471, kw_10, kw_472, by decide, by decide, by decide +kernel⟩
theorem fL_act : sv_Ys yL_act cL_act 6 (some .int) 3 := ⟨kw_474, kw_8, kw_475, by decide, by decide, by decide +kernel⟩
theorem fX5_come : sv_Yv yX5_come cX5_come 3 (some .int) 2 := ⟨kw_481, kw_482, kw_9, kw_483, by decide, by decide, by decide +kernel⟩
theorem fX1_save : sv_Yv yX1_save cX1_save 3 none 1 := ⟨kw_501, kw_502, kw_13, kw_503, by decide, by decide, by decide +kernel⟩
theorem fX1_stateAt : sv_Yv yX1_stateAt cX1_stateAt 2 (some (.object "StairLight$Stairs")) 1 := ⟨kw_506, kw_7, kw_13, kw_507, by decide, by decide, by decide +kernel⟩
theorem fX5_pass : sv_Yv yX5_pass cX5_pass 2 (some .int) 1 := ⟨kw_510, kw_511, kw_9, kw_512, by decide, by decide, by decide +kernel⟩
theorem fX5_turn : sv_Yv yX5_turn cX5_turn 5 (some .int) 2 := ⟨kw_518, kw_519, kw_9, kw_520, by decide, by decide, by decide +kernel⟩
theorem fX5_press : sv_Yv yX5_press cX5_press 3 (some .int) 1 := ⟨kw_524, kw_525, kw_9, kw_526, by decide, by decide, by decide +kernel⟩
theorem fX5_sensor : sv_Yv yX5_sensor cX5_sensor 4 (some .int) 2 := ⟨kw_529, kw_530, kw_9, kw_531, by decide, by decide, by decide +kernel⟩
theorem fX5_night : sv_Yv yX5_night cX5_night 3 (some .int) 1 := ⟨kw_533, kw_534, kw_9, kw_535, by decide, by decide, by decide +kernel⟩
theorem fX5_fire : sv_Yv yX5_fire cX5_fire 3 (some .int) 1 := ⟨kw_537, kw_538, kw_9, kw_539, by decide, by decide, by decide +kernel⟩
theorem fX3_switchAllOn : sv_Yv yX3_switchAllOn cX3_switchAllOn 2 none 0 := ⟨kw_541, kw_542, kw_10, kw_543, by decide, by decide, by decide +kernel⟩
theorem fX5_set : sv_Yv yX5_set cX5_set 4 (some .int) 2 := ⟨kw_545, kw_546, kw_9, kw_547, by decide, by decide, by decide +kernel⟩
theorem fX5_undo : sv_Yv yX5_undo cX5_undo 1 (some .int) 0 := ⟨kw_557, kw_558, kw_9, kw_559, by decide, by decide, by decide +kernel⟩
theorem fX1_restore : sv_Yv yX1_restore cX1_restore 3 none 1 := ⟨kw_562, kw_563, kw_13, kw_564, by decide, by decide, by decide +kernel⟩
theorem kn_RX3_32 : (RX3, 32, yX5_copyRow, "StairLight") ∈ sv_nests := List.mem_of_getElem? (i := 0) rfl
theorem kn_RX3_57 : (RX3, 57, yX5_at, "StairLight") ∈ sv_nests := List.mem_of_getElem? (i := 1) rfl
theorem kn_RX2_47 : (RX2, 47, yX5_at, "StairLight") ∈ sv_nests := List.mem_of_getElem? (i := 2) rfl
theorem kn_RX0_30 : (RX0, 30, yX5_copyRow, "StairLight") ∈ sv_nests := List.mem_of_getElem? (i := 3) rfl
theorem kn_RX2_31 : (RX2, 31, yX5_copyRow, "StairLight") ∈ sv_nests := List.mem_of_getElem? (i := 4) rfl
theorem kn_RX3_83 : (RX3, 83, yX5_sumOf, "StairLight") ∈ sv_nests := List.mem_of_getElem? (i := 5) rfl
theorem kn_RX2_58 : (RX2, 58, yX5_raise, "StairLight") ∈ sv_nests := List.mem_of_getElem? (i := 6) rfl
theorem kn_RX2_35 : (RX2, 35, yX5_put, "StairLight") ∈ sv_nests := List.mem_of_getElem? (i := 7) rfl
theorem kn_RX0_34 : (RX0, 34, yX5_at, "StairLight") ∈ sv_nests := List.mem_of_getElem? (i := 8) rfl
theorem kn_RX0_38 : (RX0, 38, yX5_raise, "StairLight") ∈ sv_nests := List.mem_of_getElem? (i := 9) rfl
theorem kn_RX0_42 : (RX0, 42, yX5_put, "StairLight") ∈ sv_nests := List.mem_of_getElem? (i := 10) rfl
theorem kn_RX3_119 : (RX3, 119, yX5_raise, "StairLight") ∈ sv_nests := List.mem_of_getElem? (i := 11) rfl
