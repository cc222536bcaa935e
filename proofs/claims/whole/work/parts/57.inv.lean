/-! the invariant of the law -/
theorem cpB_at {a b : Nat} {x y : vX} {k : Nat} : ∀ n, cpB a b x n y k = if b ≤ k ∧ k < b + n then x (a + (k - b)) else y k
  | 0 => by
    rw [if_neg (by omega)]
    rfl
  | n + 1 => by
    show upd (cpB a b x n y) (b + n) (x (a + n)) k = _
    by_cases h : k = b + n
    · rw [h, upd_s, if_pos (by omega), show b + n - b = n by omega]
    · rw [upd_n h, cpB_at n]
      by_cases h2 : b ≤ k ∧ k < b + n
      · rw [if_pos h2, if_pos (by omega)]
      · rw [if_neg h2, if_neg (by omega)]
theorem shf_at {x : vX} {k : Nat} : ∀ n, shf n x k = if k < n then x (k + 86) else x k
  | 0 => by
    rw [if_neg (by omega)]
    rfl
  | n + 1 => by
    show upd (shf n x) n (shf n x (n + 86)) k = _
    by_cases h : k = n
    · rw [h, upd_s, if_pos (by omega), shf_at n, if_neg (by omega)]
    · rw [upd_n h, shf_at n]
      by_cases h2 : k < n
      · rw [if_pos h2, if_pos (by omega)]
      · rw [if_neg h2, if_neg (by omega)]
/-- the saved states: class ring, reference row -/
def hst (C B od hd : Nat) (M : sv_M) : Prop := ∀ i, i < hd → stt C B (M (2 + (od + i) % 6)) (fun k => M 12 (86 * i + k))
def inw (C B od hd n9 : Nat) (M : sv_M) : Prop := od < 6 ∧ hd ≤ 6 ∧ n9 ≤ 60 ∧ M 8 0 = nI od ∧ M 8 1 = nI hd ∧ M 15 0 = nI hd ∧ M 9 60 = nI n9 ∧ M 15 1 = nI n9 ∧ (∀ i, i < 60 → M 13 i = M 9 i ∧ chr (M 9 i)) ∧ stt C B (M 0) (M 10) ∧ hst C B od hd M
def inv (C B : Nat) (M : sv_M) : Prop := ∃ od hd n9, inw C B od hd n9 M
theorem hst_same {C B C2 B2 od hd : Nat} {M M' : sv_M} (h : hst C B od hd M) (hC : C ≤ C2) (hB : B ≤ B2) (eh : ∀ k, k < 6 → M' (2 + k) = M (2 + k)) (e12 : M' 12 = M 12) : hst C2 B2 od hd M' := fun i hi => by
  rw [eh _ (Nat.mod_lt _ (by decide)), e12]
  exact stt_mono (h i hi) hC hB
theorem inv_same {C B C2 B2 : Nat} {M M' : sv_M} (h : inv C B M) (hC : C ≤ C2) (hB : B ≤ B2) (eh : ∀ q, q < 9 → q ≠ 1 → M' q = M q) (e9 : M' 9 = M 9) (e10 : M' 10 = M 10) (e12 : M' 12 = M 12) (e13 : M' 13 = M 13) (e0 : M' 15 0 = M 15 0) (e1 : M' 15 1 = M 15 1) : inv C2 B2 M' := by
  obtain ⟨od, hd, n9, h1, h2, h3, h4, h5, h6, h7, h8, h9, ha, hb⟩ := h
  refine ⟨od, hd, n9, h1, h2, h3, ?_, ?_, e0.trans h6, ?_, e1.trans h8, ?_, ?_, hst_same hb hC hB (fun k hk => eh _ (by omega) (by omega)) e12⟩
  · rw [eh 8 (by omega) (by omega)]
    exact h4
  · rw [eh 8 (by omega) (by omega)]
    exact h5
  · rw [e9]
    exact h7
  · rw [e9, e13]
    exact h9
  · rw [eh 0 (by omega) (by omega), e10]
    exact stt_mono ha hC hB
/-- a save -/
theorem hst_save {C B C2 B2 od hd : Nat} {M M' : sv_M} (h : hst C B od hd M) (hs : stt C B (M 0) (M 10)) (hod : od < 6) (hd6 : hd ≤ 6) (hC : C ≤ C2) (hB : B ≤ B2) (eh : ∀ k, k < 6 → M' (2 + k) = sav od hd M (2 + k)) (e12 : M' 12 = rsP hd M) : hst C2 B2 (savO od hd) (savH hd) M' := by
  intro i hi
  rw [eh _ (Nat.mod_lt _ (by decide)), e12]
  rcases Nat.lt_or_ge hd 6 with q | q
  · have eO : savO od hd = od := if_pos q
    have eH : savH hd = hd + 1 := if_pos q
    have eK : savK od hd = (od + hd) % 6 := if_pos q
    have eR : rsk hd = hd := if_neg (by omega)
    rw [eH] at hi
    rw [eO]
    unfold sav svM rsP
    rw [eK, eR, if_neg (show ¬ hd = 6 by omega)]
    rcases Nat.lt_or_ge i hd with q2 | q2
    · rw [sv_un (by omega), sv_un (by omega)]
      refine stt_y86 (stt_mono (h i q2) hC hB) (fun k hk => ?_)
      rw [cpB_at, if_neg (by omega)]
    · obtain rfl : i = hd := by omega
      rw [sv_us]
      refine stt_y86 (stt_mono hs hC hB) (fun k hk => ?_)
      rw [cpB_at, if_pos (by omega), show 0 + (86 * i + k - 86 * i) = k by omega]
  · obtain rfl : hd = 6 := by omega
    have eO : savO od 6 = (od + 1) % 6 := if_neg (by omega)
    have eH : savH 6 = 6 := if_neg (by omega)
    have eK : savK od 6 = od := if_neg (by omega)
    have eR : rsk 6 = 5 := if_pos rfl
    rw [eH] at hi
    rw [eO]
    unfold sav svM rsP
    rw [eK, eR, if_pos rfl]
    rcases Nat.lt_or_ge i 5 with q2 | q2
    · rw [sv_un (by omega), sv_un (by omega), show ((od + 1) % 6 + i) % 6 = (od + (i + 1)) % 6 by omega]
      refine stt_y86 (stt_mono (h (i + 1) (by omega)) hC hB) (fun k hk => ?_)
      rw [cpB_at, if_neg (by omega), shf_at, if_pos (by omega), show 86 * i + k + 86 = 86 * (i + 1) + k by omega]
    · obtain rfl : i = 5 := by omega
      rw [show ((od + 1) % 6 + 5) % 6 = od by omega, sv_us]
      refine stt_y86 (stt_mono hs hC hB) (fun k hk => ?_)
      rw [cpB_at, if_pos (by omega), show 0 + (86 * 5 + k - 86 * 5) = k by omega]
theorem sav_8 {od hd : Nat} {M : sv_M} (hod : od < 6) : sav od hd M 8 0 = nI (savO od hd) ∧ sav od hd M 8 1 = nI (savH hd) := by
  have hk : savK od hd < 6 := by
    unfold savK
    split <;> omega
  unfold sav svM
  rw [sv_un (show 8 ≠ 2 + savK od hd by omega), sv_us, upd_n (by omega), upd_s, upd_s]
  exact ⟨rfl, rfl⟩
theorem sav_H {hd : Nat} (h : hd ≤ 6) : savH hd = rsk hd + 1 ∧ savH hd ≤ 6 := by
  unfold savH rsk
  split <;> split <;> omega
theorem sav_O {od hd : Nat} (h : od < 6) : savO od hd < 6 := by
  unfold savO
  split <;> omega
/-- a call that saves -/
theorem inv_call {C B C2 B2 od hd n9 n2 : Nat} {M M' : sv_M} (h : inw C B od hd n9 M) (hC : C ≤ C2) (hB : B ≤ B2) (hs : stt C2 B2 (M' 0) (M' 10)) (e8 : M' 8 = sav od hd M 8) (eh : ∀ k, k < 6 → M' (2 + k) = sav od hd M (2 + k)) (e12 : M' 12 = rsP hd M) (e15 : M' 15 0 = nI (rsk hd + 1)) (hn : n2 ≤ 60) (e9 : M' 9 60 = nI n2) (e9r : ∀ i, i < 60 → M' 9 i = M 9 i) (e13 : M' 13 = M 13) (e1 : M' 15 1 = nI n2) : inv C2 B2 M' := by
  obtain ⟨h1, h2, h3, h4, h5, h6, h7, h8, h9, ha, hb⟩ := h
  have hh := sav_H h2
  have hsv := sav_8 (hd := hd) (M := M) h1
  refine ⟨savO od hd, savH hd, n2, sav_O h1, hh.2, hn, ?_, ?_, ?_, e9, e1, fun i hi => ?_, hs, hst_save hb ha h1 h2 hC hB eh e12⟩
  · rw [e8]
    exact hsv.1
  · rw [e8]
    exact hsv.2
  · rw [e15, hh.1]
  · rw [e9r i hi, e13]
    exact h9 i hi
/-- undo -/
theorem inv_undo {C B od hd n9 : Nat} {M M' : sv_M} (h : inw C B od hd n9 M) (h0 : 0 < hd) (e0 : M' 0 = M (2 + (od + (hd - 1)) % 6)) (e10 : M' 10 = cpB (86 * (hd - 1)) 0 (M 12) 86 (M 10)) (eh : ∀ k, k < 6 → M' (2 + k) = M (2 + k)) (e8 : M' 8 = upd (M 8) 1 (nI (hd - 1))) (e12 : M' 12 = M 12) (e15 : M' 15 0 = nI (hd - 1)) (e9 : M' 9 = M 9) (e13 : M' 13 = M 13) (e1 : M' 15 1 = M 15 1) : inv C B M' := by
  obtain ⟨h1, h2, h3, h4, h5, h6, h7, h8, h9, ha, hb⟩ := h
  refine ⟨od, hd - 1, n9, h1, by omega, h3, ?_, ?_, e15, ?_, e1.trans h8, ?_, ?_, fun i hi => ?_⟩
  · rw [e8, upd_n (by omega)]
    exact h4
  · rw [e8, upd_s]
  · rw [e9]
    exact h7
  · rw [e9, e13]
    exact h9
  · rw [e0, e10]
    refine stt_y86 (hb (hd - 1) (by omega)) (fun k hk => ?_)
    rw [cpB_in 86 hk]
  · rw [eh _ (Nat.mod_lt _ (by decide)), e12]
    exact hb i (by omega)
/-! the hash -/
theorem mxI_eq {f g : Nat → Int32} {h : Int64} : ∀ n, (∀ i, i < n → f i = g i) → mxI f n h = mxI g n h
  | 0, _ => rfl
  | n + 1, e => by
    show 31 * mxI f n h + Int32.toInt64 (f n) = 31 * mxI g n h + Int32.toInt64 (g n)
    rw [mxI_eq n (fun i hi => e i (by omega)), e n (Nat.lt_succ_self n)]
theorem mxF_eq {m : Nat} {x y : vX} {h : Int64} (he : eqm m x y) : ∀ n, n ≤ 8 → mxF m x n h = mxF m y n h
  | 0, _ => rfl
  | n + 1, hn => by
    show mxI (fun w => fnv m x n w) 8 (mxF m x n h) = mxI (fun w => fnv m y n w) 8 (mxF m y n h)
    rw [mxF_eq he n (by omega)]
    exact mxI_eq 8 (fun i _ => eqm_fnv (by omega) he)
theorem mxP_eq {m : Nat} {x y : vX} {h : Int64} (he : eqm m x y) : ∀ n, n ≤ m → mxP x n h = mxP y n h
  | 0, _ => rfl
  | n + 1, hn => by
    show mxI (fun w => x (4 * n + 58 + w)) 4 (mxP x n h) = mxI (fun w => y (4 * n + 58 + w)) 4 (mxP y n h)
    rw [mxP_eq he n (by omega)]
    exact mxI_eq 4 (fun i hi => he _ (by omega))
theorem dig_rdg {x y cd cd2 : vX} {m hd n9 : Nat} {bits : Int64} {O9 : Nat → Int32} {D1 D2 : Int32} {lt : Nat} (he : eqm m x y) (ht : ∀ i, i < n9 → cd i = cd2 i) (hO : ∀ i, i < 4 → outv x 30 i = O9 i) (h1 : dkw (nI 0) (nI 7) (x 0) x = D1) (h2 : dkw (nI 6) (nI 2) (x 0) x = D2) (hl : lbt (nI 1) (nI 5) x = lt) : dig x cd m hd n9 bits = rdg y cd2 m hd n9 O9 D1 D2 lt bits := by
  have e1 : ∀ h, mxI (fun i => couv x hd i) 11 h = mxI (fun i => couv y hd i) 11 h := fun h => mxI_eq 11 (fun i _ => eqm_couv he)
  have e2 : ∀ h, mxI (fun i => x i) 4 h = mxI (fun i => y i) 4 h := fun h => mxI_eq 4 (fun i hi => he i (by omega))
  have e5 : dig5 x m hd = rdg5 y m hd O9 := by
    unfold dig5 rdg5
    rw [e1, e2, mxF_eq he 8 (by decide), mxP_eq he m (Nat.le_refl _)]
    exact mxI_eq 4 hO
  unfold dig rdg dig10 rdg10
  rw [e5, h1, h2, hl, eqm_mm he 8 (by decide)]
  exact mxI_eq n9 ht
