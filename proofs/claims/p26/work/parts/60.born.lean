/-! the world that the constructors leave -/
def M0 : sv_M := fun q i => if q < 8 then nwF 8 i else 0
theorem M0_c {q i : Nat} (h : q < 8) : M0 q i = nwF 8 i := if_pos h
theorem M0_o {q i : Nat} (h : ¬ q < 8) : M0 q i = 0 := if_neg h
theorem nwF_0 {i : Nat} (h : 4 ≤ i) (h2 : ¬ (10 ≤ i ∧ i < 58 ∧ (i - 10) % 6 = 0)) : nwF 8 i = 0 := by
  unfold nwF
  rw [if_neg (by omega), if_neg (by omega), if_neg (by omega), if_neg (by omega)]
theorem sv_rb {G : sv_G} {c j : Nat} (h : c < 14) : sv_r G c j = sv_r G 0 j + c := by
  show G.1 + sv_ad c j = G.1 + sv_ad 0 j + c
  unfold sv_ad
  rw [if_pos h, if_pos (show (0 : Nat) < 14 by decide)]
  omega
theorem st_e {G : sv_G} {c j : Nat} {H : Heap} (hc : c < 14) (hj : j < 8) (h : va_at (sv_D G) vwCl (sv_r G 0 j + c, stF G (sv_r G 0 j) c) H) : va_at (sv_D G) vwCl (sv_r G c j, sv_e G M0 0 c j) H := by
  have e : ∀ k, k < 14 → sv_r G k j = sv_r G 0 j + k := fun k hk => sv_rb hk
  rw [e c hc]
  have hm : ∀ i, M0 j i = nwF 8 i := fun i => M0_c hj
  have hrow : ∀ c, 2 ≤ c → c < 8 → sv_e G M0 0 c j = .inl (sv_cI G, 8, .inl fun i => nwF 8 (6 * i + (7 + c))) := fun c h1 h2 => by
    rw [sv_rows (by simp [sv_ir]; omega)]
    have a1 : sv_n c = 8 := if_pos h2
    have a2 : sv_q c j = j := if_pos (by omega)
    rw [a1, a2]
    congr 4
    funext i
    rw [hm]
    congr 1
    exact if_pos h2
  have hrow2 : ∀ c, 9 ≤ c → c < 13 → sv_e G M0 0 c j = .inl (sv_cI G, 7, .inl fun i => nwF 8 (4 * i + (49 + c))) := fun c h1 h2 => by
    rw [sv_rows (by simp [sv_ir]; omega)]
    have a1 : sv_n c = 7 := by unfold sv_n; rw [if_neg (by omega), if_pos h2]
    have a2 : sv_q c j = j := if_pos (by omega)
    rw [a1, a2]
    congr 4
    funext i
    rw [hm]
    congr 1
    unfold sv_i
    rw [if_neg (by omega), if_pos h2]
  unfold stF at h
  by_cases h0 : c = 0
  · subst h0
    rw [sv_e0, e 1 (by decide), e 8 (by decide), e 13 (by decide), hm, hm, hm, hm]
    exact h
  · rw [if_neg h0] at h
    by_cases h8 : c < 8
    · rw [if_pos h8] at h
      rcases (show c = 1 ∨ c = 2 ∨ c = 3 ∨ c = 4 ∨ c = 5 ∨ c = 6 ∨ c = 7 by omega) with rfl | rfl | rfl | rfl | rfl | rfl | rfl
      · have e1 : sv_e G M0 0 1 j = .inr (0, [.ref (sv_r G 2 j), .ref (sv_r G 3 j), .ref (sv_r G 4 j), .ref (sv_r G 5 j), .ref (sv_r G 6 j), .ref (sv_r G 7 j)]) := rfl
        rw [e1, e 2 (by decide), e 3 (by decide), e 4 (by decide), e 5 (by decide), e 6 (by decide), e 7 (by decide)]
        exact h
      · rw [hrow 2 (by decide) (by decide)]
        exact sl_row (fun i hi => (nwF_0 (by omega) (by omega)).symm) h
      · rw [hrow 3 (by decide) (by decide)]
        refine sl_row (fun i hi => ?_) h
        unfold nwF
        rw [if_pos hi, if_neg (by omega), if_neg (by omega), if_neg (by omega), if_pos (by omega)]
      · rw [hrow 4 (by decide) (by decide)]
        exact sl_row (fun i hi => (nwF_0 (by omega) (by omega)).symm) h
      · rw [hrow 5 (by decide) (by decide)]
        exact sl_row (fun i hi => (nwF_0 (by omega) (by omega)).symm) h
      · rw [hrow 6 (by decide) (by decide)]
        exact sl_row (fun i hi => (nwF_0 (by omega) (by omega)).symm) h
      · rw [hrow 7 (by decide) (by decide)]
        exact sl_row (fun i hi => (nwF_0 (by omega) (by omega)).symm) h
    · rw [if_neg h8] at h
      by_cases h13 : c < 13
      · rw [if_pos h13] at h
        rcases (show c = 8 ∨ c = 9 ∨ c = 10 ∨ c = 11 ∨ c = 12 by omega) with rfl | rfl | rfl | rfl | rfl
        · rw [sv_e8, e 9 (by decide), e 10 (by decide), e 11 (by decide), e 12 (by decide), hm, hm]
          exact h
        · rw [hrow2 9 (by decide) (by decide)]
          exact sl_row (fun i hi => (nwF_0 (by omega) (by omega)).symm) h
        · rw [hrow2 10 (by decide) (by decide)]
          exact sl_row (fun i hi => (nwF_0 (by omega) (by omega)).symm) h
        · rw [hrow2 11 (by decide) (by decide)]
          exact sl_row (fun i hi => (nwF_0 (by omega) (by omega)).symm) h
        · rw [hrow2 12 (by decide) (by decide)]
          exact sl_row (fun i hi => (nwF_0 (by omega) (by omega)).symm) h
      · rw [if_neg h13] at h
        obtain rfl : c = 13 := by omega
        have e13 : sv_e G M0 0 13 j = .inl (sv_cI G, 4, .inl fun i => nwF 8 i) := by
          rw [sv_rows rfl]
          congr 4
          funext i
          exact hm i
        rw [e13]
        refine sl_row (fun i hi => ?_) h
        rw [if_pos hi]
        rcases (show i = 0 ∨ i = 1 ∨ i = 2 ∨ i = 3 by omega) with rfl | rfl | rfl | rfl <;> rfl
theorem sv_born {G : sv_G} {E : sl_E} (h1 : ∀ c, c < 117 → E (G.1 + c) = some (slF G G.1 c)) : ∀ H, sl_W G (G.1 + 117) E H → sv_W G (G.1 + 117) M0 0 H := by
  intro H hw
  have at1 : ∀ c, c < 117 → va_at (sv_D G) vwCl (G.1 + c, slF G G.1 c) H := fun c hc => sl_at (h1 c hc) H hw
  refine ⟨hw.1, Nat.le_refl _, fun c j hok => ?_⟩
  have hok2 := hok
  simp only [sv_ok, Bool.or_eq_true, Bool.and_eq_true, decide_eq_true_eq] at hok2
  rcases hok2 with ⟨hc, hj⟩ | ⟨⟨hc1, hc2⟩, hj⟩
  · refine st_e hc hj ?_
    have r0 : sv_r G 0 j = G.1 + (1 + 14 * j + (if j < 2 then 0 else 2)) := rfl
    rcases (show j = 0 ∨ j = 1 ∨ 2 ≤ j by omega) with rfl | rfl | hj2
    · have h9 := at1 (1 + c) (by omega)
      unfold slF at h9
      rw [if_neg (by omega), if_pos (by omega), show 1 + c - 1 = c by omega, show G.1 + (1 + c) = G.1 + 1 + c by omega] at h9
      exact h9
    · have h9 := at1 (15 + c) (by omega)
      unfold slF at h9
      rw [if_neg (by omega), if_neg (by omega), if_pos (by omega), show 15 + c - 15 = c by omega, show G.1 + (15 + c) = G.1 + 15 + c by omega] at h9
      exact h9
    · have h9 := at1 (29 + (2 + 14 * (j - 2) + c)) (by omega)
      unfold slF at h9
      rw [if_neg (by omega), if_neg (by omega), if_neg (by omega), if_pos (by omega), show 29 + (2 + 14 * (j - 2) + c) - 29 = 2 + 14 * (j - 2) + c by omega] at h9
      unfold hiF at h9
      rw [if_neg (by omega), if_neg (by omega), show (2 + 14 * (j - 2) + c - 2) / 14 = j - 2 by omega, show (2 + 14 * (j - 2) + c - 2) % 14 = c by omega] at h9
      rw [if_neg (by omega)] at r0
      rw [show G.1 + 29 + 2 + 14 * (j - 2) = sv_r G 0 j by rw [r0]; omega, show G.1 + (29 + (2 + 14 * (j - 2) + c)) = sv_r G 0 j + c by rw [r0]; omega] at h9
      exact h9
  · subst hj
    rcases (show c = 14 ∨ c = 15 ∨ c = 16 ∨ c = 17 ∨ c = 18 by omega) with rfl | rfl | rfl | rfl | rfl
    · exact at1 0 (by decide)
    · exact at1 29 (by decide)
    · have h9 := at1 30 (by decide)
      have e9 : sv_e G M0 0 16 0 = .inl (sv_cS G, 6, .inr (.inr (.inr (.inr fun i => some (sv_r G 0 (2 + i)))))) := rfl
      rw [e9]
      have h8 : va_at (sv_D G) vwCl (G.1 + 30, .inl (sv_cS G, 6, .inr (.inr (.inr (.inr fun i => if i < 6 then some (G.1 + 29 + 2 + 14 * i) else none))))) H := h9
      show H[G.1 + 30]? = some (vp_cell _ _)
      have h7 : H[G.1 + 30]? = some (vp_cell _ _) := h8
      rw [h7, vp_cell_q, vp_cell_q]
      congr 1
    · exact at1 115 (by decide)
    · exact at1 116 (by decide)
