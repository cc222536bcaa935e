/-! the reference's text, whole -/
def allok (cd : vX) (n9 j : Nat) : Prop := ∀ i, i < j → pok cd n9 i
theorem epF_to {cd : vX} {n9 : Nat} : ∀ j, allok cd n9 j → j ≤ n9 → epF cd n9 0 = epF cd (n9 - j) j
  | 0, _, _ => rfl
  | j + 1, h, hj => by
    rw [epF_to j (fun i hi => h i (by omega)) (by omega), epF_step (by omega) (h j (Nat.lt_succ_self j)).2]
theorem epF_at {cd : vX} {n9 j : Nat} (h : allok cd n9 j) (hj : j ≤ n9) (hn : ¬ pok cd n9 j) : epF cd n9 0 = j := by
  rw [epF_to j h hj]
  rcases Nat.lt_or_ge j n9 with h1 | h1
  · exact epF_hit h1 (Decidable.byContradiction fun q => hn ⟨h1, q⟩)
  · exact epF_end h1
theorem allok_s {cd : vX} {n9 j : Nat} (h : allok cd n9 j) (h2 : pok cd n9 j) : allok cd n9 (j + 1) := fun i hi => by
  rcases Nat.lt_or_ge i j with h3 | h3
  · exact h i h3
  · rw [show i = j by omega]
    exact h2
theorem pok_3 {cd : vX} {n9 k : Nat} : pok cd n9 (4 * k + 3) ↔ 4 * k + 3 < n9 ∧ cd (4 * k + 3) = 59 := by
  have e : ftI cd (4 * k + 3) = if cd (4 * k + 3) = 59 then 1 else 0 := by
    unfold ftI
    rw [if_neg (by omega), if_neg (by omega), if_neg (by omega)]
  show _ ∧ _ ↔ _
  rw [e]
  constructor
  · rintro ⟨h1, h2⟩
    split at h2
    · exact ⟨h1, by assumption⟩
    · exact absurd rfl h2
  · rintro ⟨h1, h2⟩
    rw [if_pos h2]
    exact ⟨h1, by decide⟩
def mN (cd : vX) (n9 k : Nat) : Nat := if k = 0 ∨ (4 * k - 1 < n9 ∧ cd (4 * k - 1) = 59) then 1 else 0
def aN (cd : vX) (n9 k : Nat) : Nat := if k = 0 then 0 else 4 * k - 1 + mN cd n9 k
def tIn (cd : vX) (n9 k : Nat) : Prop := k = 0 ∨ (allok cd n9 (4 * k - 1) ∧ 4 * k - 1 ≤ n9)
theorem mN_1 {cd : vX} {n9 k : Nat} (h : tIn cd n9 k) (h1 : ¬ mN cd n9 k = 0) : aN cd n9 k = 4 * k ∧ allok cd n9 (4 * k) ∧ 4 * k ≤ n9 := by
  unfold mN at h1
  split at h1
  · rename_i h2
    rcases Nat.eq_zero_or_pos k with rfl | hk
    · exact ⟨rfl, fun i hi => absurd hi (by omega), Nat.zero_le _⟩
    · obtain ⟨j, rfl⟩ : ∃ j, k = j + 1 := ⟨k - 1, by omega⟩
      have h3 := h2.resolve_left (by omega)
      have h4 := h.resolve_left (by omega)
      rw [show 4 * (j + 1) - 1 = 4 * j + 3 by omega] at h3 h4
      refine ⟨?_, ?_, by omega⟩
      · unfold aN mN
        rw [if_neg (by omega), if_pos h2]
        omega
      · rw [show 4 * (j + 1) = 4 * j + 3 + 1 by omega]
        exact allok_s h4.1 (pok_3.mpr h3)
  · exact absurd rfl h1
theorem mN_0 {cd : vX} {n9 k : Nat} (h : tIn cd n9 k) (h1 : mN cd n9 k = 0) : 0 < k ∧ aN cd n9 k = 4 * k - 1 ∧ epF cd n9 0 = 4 * k - 1 ∧ 4 * k - 1 ≤ n9 := by
  have h0 := h1
  unfold mN at h1
  split at h1
  · exact absurd h1 (by decide)
  · rename_i h2
    rcases Nat.eq_zero_or_pos k with rfl | hk
    · exact absurd (Or.inl rfl) h2
    · obtain ⟨j, rfl⟩ : ∃ j, k = j + 1 := ⟨k - 1, by omega⟩
      have h4 := h.resolve_left (by omega)
      refine ⟨hk, ?_, ?_, h4.2⟩
      · unfold aN
        rw [if_neg (by omega), h0]
        rfl
      · refine epF_at h4.1 h4.2 (fun q => h2 (Or.inr ?_))
        rw [show 4 * (j + 1) - 1 = 4 * j + 3 by omega] at q ⊢
        exact pok_3.mp q
theorem prE_stop {cd : vX} {n9 k : Nat} (h : allok cd n9 (4 * k)) (hk : 4 * k ≤ n9) (hp : ¬ prE cd n9 (4 * k) = 3) : epF cd n9 0 = 4 * k + prE cd n9 (4 * k) ∧ 4 * k + prE cd n9 (4 * k) ≤ n9 ∧ prE cd n9 (4 * k) < 3 := by
  unfold prE at hp ⊢
  by_cases h0 : pok cd n9 (4 * k)
  · rw [if_pos h0] at hp ⊢
    have a1 := allok_s h h0
    have l1 := h0.1
    by_cases h1 : pok cd n9 (4 * k + 1)
    · rw [if_pos h1] at hp ⊢
      have a2 := allok_s a1 h1
      have l2 := h1.1
      by_cases h2 : pok cd n9 (4 * k + 2)
      · rw [if_pos h2] at hp
        exact absurd rfl hp
      · rw [if_neg h2]
        exact ⟨epF_at a2 (by omega) h2, by omega, by decide⟩
    · rw [if_neg h1]
      exact ⟨epF_at a1 (by omega) h1, by omega, by decide⟩
  · rw [if_neg h0]
    exact ⟨epF_at h hk h0, by omega, by decide⟩
theorem prE_go {cd : vX} {n9 k : Nat} (h : allok cd n9 (4 * k)) (hp : prE cd n9 (4 * k) = 3) : tIn cd n9 (k + 1) := by
  unfold prE at hp
  split at hp
  · rename_i h0
    split at hp
    · rename_i h1
      split at hp
      · rename_i h2
        have l2 := h2.1
        refine Or.inr ⟨?_, by omega⟩
        rw [show 4 * (k + 1) - 1 = 4 * k + 1 + 1 + 1 by omega]
        exact allok_s (allok_s (allok_s h h0) h1) h2
      · exact absurd hp (by decide)
    · exact absurd hp (by decide)
  · exact absurd hp (by decide)
theorem atF_m {cd : vX} {n9 k : Nat} : atF cd n9 (4 * k + 3) 59 59 = nI (mN cd n9 (k + 1)) := by
  unfold mN
  rw [show 4 * (k + 1) - 1 = 4 * k + 3 by omega]
  by_cases h : 4 * k + 3 < n9 ∧ cd (4 * k + 3) = 59
  · rw [if_pos (Or.inr h)]
    exact (atF_b cd n9 (4 * k + 3) 59 59).resolve_left (atF_c.mpr h)
  · rw [if_neg (fun q => q.elim (by omega) h)]
    exact Decidable.byContradiction fun q => h (atF_c.mp q)
theorem mN_b (cd : vX) (n9 k : Nat) : mN cd n9 k = 0 ∨ mN cd n9 k = 1 := by
  unfold mN
  split
  · exact Or.inr rfl
  · exact Or.inl rfl
/-- the ways that a text tells -/
def tFs (cd : vX) (n : Nat) (z : vX) : vX := fo (fun k z => upd (upd z (2 * k) (cd (4 * k) - 48)) (2 * k + 1) (cd (4 * k + 2) - 48)) n z
theorem tFs_in {cd z : vX} : ∀ n k, k < n → tFs cd n z (2 * k) = cd (4 * k) - 48 ∧ tFs cd n z (2 * k + 1) = cd (4 * k + 2) - 48
  | 0, _, h => absurd h (Nat.not_lt_zero _)
  | n + 1, k, h => by
    show upd (upd (tFs cd n z) (2 * n) (cd (4 * n) - 48)) (2 * n + 1) (cd (4 * n + 2) - 48) (2 * k) = _ ∧ upd (upd (tFs cd n z) (2 * n) (cd (4 * n) - 48)) (2 * n + 1) (cd (4 * n + 2) - 48) (2 * k + 1) = _
    rcases Nat.lt_or_ge k n with h1 | h1
    · rw [upd_n (by omega), upd_n (by omega), upd_n (by omega), upd_n (by omega)]
      exact tFs_in n k h1
    · rw [show k = n by omega, upd_n (by omega), upd_s, upd_s]
      exact ⟨rfl, rfl⟩
def tcI (cd : vX) (n9 : Nat) : Int32 := if n9 % 4 = 3 ∧ epF cd n9 0 = n9 then 1 else 0
/-- what a look at the text leaves -/
def txY (cd : vX) (n9 tk : Nat) (x : vX) : vX := upd (upd (upd x 3 (nI (epF cd n9 0))) 5 (nI tk)) 4 (if epF cd n9 0 < n9 then 1 else 0)
def sv_W3 (G : sv_G) (z : Nat) (M : sv_M) (n9 : Nat) (o : Int64) (H : Heap) : Prop := ∃ (tk : Nat) (Z : vX), sv_W G z (sv_u (sv_u M 15 (txY (M 13) n9 tk (M 15))) 14 Z) o H ∧ (tcI (M 13) n9 = 1 → tk = (n9 + 1) / 4 ∧ Z = tFs (M 13) tk (M 14))
section SVY
variable {p : Program} {l : Launch} {e : Env} {R : Room} {s : State} {m : MethodId} {args : Array Value} {below : List Frame} {meth : Method} {c : Code} {k n nL : Nat} {Q : State → Prop} {G : sv_G} {pc : Nat} {lv : List (Nat × Value)} {st : List Value} {z : Nat} {M : sv_M} {o : Int64}
theorem sv_exW3 {n9 : Nat} (kk : ∀ (tk : Nat) (Z : vX), (tcI (M 13) n9 = 1 → tk = (n9 + 1) / 4 ∧ Z = tFs (M 13) tk (M 14)) → sv_V p l e R s m args below meth c nL G Q k n (sv_W G z (sv_u (sv_u M 15 (txY (M 13) n9 tk (M 15))) 14 Z) o) pc lv st) : sv_V p l e R s m args below meth c nL G Q k n (sv_W3 G z M n9 o) pc lv st := fun H locs ls h1 h2 h3 => by
  obtain ⟨tk, Z, hy, hz⟩ := h1
  exact kk tk Z hz H locs ls hy h2 h3
end SVY
theorem sel_ge {a b : Nat} (ha : a < 2147483648) (hb : b < 2147483648) : (if nI b ≤ nI a then nI 0 else nI 1) = if a < b then 1 else 0 := by
  by_cases h : a < b
  · rw [if_pos h, if_neg (fun q => by have := (nI_leI (a := b) (b := a) (by omega) (by omega)).mp q; omega)]
    rfl
  · rw [if_neg h, if_pos ((nI_leI (a := b) (b := a) (by omega) (by omega)).mpr (by omega))]
    rfl
theorem nI_inj {a b : Nat} (ha : a < 2147483648) (hb : b < 2147483648) (h : nI a = nI b) : a = b := by
  have h9 := congrArg Int32.toNatClampNeg h
  rw [nI_clamp (by omega), nI_clamp (by omega)] at h9
  exact h9
theorem sel_tc {cd : vX} {n9 k : Nat} (hep : epF cd n9 0 = 4 * k - 1) (hk : 0 < k) (h1 : 4 * k - 1 ≤ n9) (hn : n9 ≤ 60) : (if ¬ nI (4 * k - 1) = nI n9 then nI 0 else nI 1) = tcI cd n9 := by
  unfold tcI
  by_cases h : 4 * k - 1 = n9
  · rw [if_neg (fun h2 => h2 (by rw [h])), if_pos ⟨by omega, by rw [hep, h]⟩]
    rfl
  · rw [if_pos (fun h2 => h (nI_inj (by omega) (by omega) h2)), if_neg (fun h2 => h (hep.symm.trans h2.2))]
    rfl
theorem tcI_n {cd : vX} {n9 k e : Nat} (hep : epF cd n9 0 = 4 * k + e) (he : e < 3) : tcI cd n9 = 0 := by
  unfold tcI
  refine if_neg (fun h => ?_)
  have h1 := h.1
  have h2 := h.2
  omega
theorem tcI_1 {cd : vX} {n9 k : Nat} (hep : epF cd n9 0 = 4 * k - 1) (hk : 0 < k) (h : tcI cd n9 = 1) : k = (n9 + 1) / 4 := by
  unfold tcI at h
  split at h
  · rename_i h1
    have h2 := h1.2
    omega
  · exact absurd h (by decide)
