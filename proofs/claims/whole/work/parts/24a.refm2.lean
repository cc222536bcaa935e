/-! the reference's calls: a code, then what is answered and left -/
def rR (k : Nat) (v : Int32) : Int32 := if k = 0 then v else 0
def rW (k : Nat) (A B : sv_M) : sv_M := if k = 0 then A else thr (nI k) B
theorem rR_0 {k : Nat} {v : Int32} (h : k = 0) : rR k v = v := if_pos h
theorem rR_n {k : Nat} {v : Int32} (h : ¬ k = 0) : rR k v = 0 := if_neg h
theorem rW_0 {k : Nat} {A B : sv_M} (h : k = 0) : rW k A B = A := if_pos h
theorem rW_n {k : Nat} {A B : sv_M} (h : ¬ k = 0) : rW k A B = thr (nI k) B := if_neg h
theorem nI_eq0 {k : Nat} (hk : k < 2147483648) (h : nI k = 0) : k = 0 := by
  rcases Nat.eq_zero_or_pos k with h1 | h1
  · exact h1
  · exact absurd (by rw [h]; exact Int32.le_refl 0) (nI_nle h1 hk)
theorem wayC_le (f t : Int32) : wayC f t ≤ 2 := by
  unfold wayC
  split
  · decide
  · split <;> decide
theorem wayC_ne {f t : Int32} (h : wayC f t = 0) : ¬ f = t := by
  unfold wayC at h
  split at h
  · cases h
  · split at h
    · cases h
    · assumption
theorem inNk_0 {n : Nat} {v : Int32} (hn : n + 1 < 2147483648) (h : inN v 0 (nI n) = 0) : inC (n + 1) v = 1 := by
  unfold inN at h
  unfold inC
  split at h
  · exact absurd h (by decide)
  · rename_i h1
    rcases pk_ix v (n := n + 1) hn with h4 | h4 | ⟨g, hg, e⟩
    · exact if_pos (Or.inl h4)
    · exact if_pos (Or.inr h4)
    · refine absurd ⟨?_, ?_⟩ h1
      · rw [e]
        exact Int32.not_lt.mp (nI_pos (by omega))
      · rw [e]
        exact (nI_leI (by omega) (by omega)).mpr (by omega)
theorem inNk_1 {n : Nat} {v : Int32} (hn : n + 1 < 2147483648) (h : ¬ inN v 0 (nI n) = 0) : inC (n + 1) v = 0 := by
  unfold inN at h
  unfold inC
  split at h
  · rename_i h1
    refine if_neg (fun h2 => h2.elim (fun q => absurd h1.1 (Int32.not_le.mpr q)) (fun q => ?_))
    have h3 := (nI_leI (by omega) (by omega)).mp (Int32.le_trans q h1.2)
    omega
  · exact absurd rfl h
theorem inS_0 {v : Int32} (h : inN v 1 300 = 0) : secC v = 1 := by
  unfold inN at h
  unfold secC
  split at h
  · exact absurd h (by decide)
  · rename_i h1
    refine if_pos (Decidable.byContradiction fun h2 => h1 ⟨Int32.not_lt.mp fun q => h2 (Or.inl q), Int32.not_lt.mp fun q => h2 (Or.inr q)⟩)
theorem inS_1 {v : Int32} (h : ¬ inN v 1 300 = 0) : secC v = 0 := by
  unfold inN at h
  unfold secC
  split at h
  · rename_i h1
    exact if_neg (fun h2 => h2.elim (fun q => absurd h1.1 (Int32.not_le.mpr q)) (fun q => absurd h1.2 (Int32.not_le.mpr q)))
  · exact absurd rfl h
theorem inA_0 {v : Int32} {n : Nat} (h : inN v 33 126 = 0) : appC v n = 1 := by
  unfold inN at h
  unfold appC
  split at h
  · exact absurd h (by decide)
  · rename_i h1
    refine if_pos (Decidable.byContradiction fun h2 => h1 ⟨Int32.not_lt.mp fun q => h2 (Or.inl q), Int32.not_lt.mp fun q => h2 (Or.inr q)⟩)
theorem inA_1 {v : Int32} {n : Nat} (h : ¬ inN v 33 126 = 0) : appC v n = if 60 ≤ n then 2 else 0 := by
  unfold inN at h
  unfold appC
  split at h
  · rename_i h1
    exact if_neg (fun h2 => h2.elim (fun q => absurd h1.1 (Int32.not_le.mpr q)) (fun q => absurd h1.2 (Int32.not_le.mpr q)))
  · exact absurd rfl h
/-- the last place of a number -/
def plL (x : vX) (v : Int32) : Nat → Int32
  | 0 => (-1)
  | n + 1 => if x (4 * n + 58) = v then nI n else plL x v n
theorem plL_in {x : vX} {v : Int32} : ∀ n, plL x v n = (-1) ∨ ∃ g, g < n ∧ plL x v n = nI g ∧ x (4 * g + 58) = v
  | 0 => Or.inl rfl
  | n + 1 => by
    unfold plL
    split
    · rename_i h
      exact Or.inr ⟨n, Nat.lt_succ_self n, rfl, h⟩
    · rcases plL_in (x := x) (v := v) n with h | ⟨g, h1, h2, h3⟩
      · exact Or.inl h
      · exact Or.inr ⟨g, by omega, h2, h3⟩
def trnR (x : vX) (m : Nat) (n t : Int32) : Nat := if plL x n m = (-1) then 1 else inC 8 t
theorem upd_c {x : vX} {i j : Nat} {v w : Int32} (h : i ≠ j) : upd (upd x i v) j w = upd (upd x j w) i v := by
  funext k
  unfold upd
  by_cases h1 : k = j
  · have : k ≠ i := fun e => h (e.symm.trans h1)
    simp [h1, h.symm]
  · simp [h1]
def firR (b : Int32) (x : vX) : vX := if x 7 = 1 ∧ b = 0 then fo (sw (x 0)) 8 (upd x 7 b) else upd x 7 b
theorem fosw_lo {T : Int32} {x : vX} {k : Nat} (h : k < 9) (n : Nat) (hn : n ≤ 8) : fo (sw T) n x k = x k := fosw_o (Or.inl h) n hn
/-- seconds, one more -/
theorem sec_step {W : sv_M} {q : Nat} {d : Int32} {x : vX} (hq : q ≠ 15) (h15 : 15 ≠ q) {M' : sv_M} (e : M' = sv_u (sv_u W 15 (dkM W d)) q x) : sv_u (sv_u M' 15 (dkM M' (rdks (M' 15 6) (many (M' q)) (M' q)))) q (rsc (M' q)) = sv_u (sv_u W 15 (dkM W (d + rdks (W 15 6) (many x) x))) q (rsc x) := by
  have e1 : M' q = x := by rw [e, sv_us]
  have e2 : M' 15 = dkM W d := by rw [e, sv_un h15, sv_us]
  have e3 : M' 15 6 = W 15 6 := by
    rw [e2]
    exact upd_n (by decide)
  rw [e1, e3]
  have e4 : dkM M' (rdks (W 15 6) (many x) x) = dkM W (d + rdks (W 15 6) (many x) x) := by
    show upd (M' 15) 7 (M' 15 7 + _) = _
    rw [e2]
    unfold dkM
    rw [upd_s, upd_u, Int32.add_assoc]
  rw [e4, e, sv_u3 hq, sv_uu]
/-- then and what is watched hold anything -/
def sv_W2 (G : sv_G) (z : Nat) (M : sv_M) (o : Int64) (H : Heap) : Prop := ∃ (y : vX) (a b : Int32), sv_W G z (sv_u (sv_u M 15 (upd (upd (M 15) 6 a) 7 b)) 11 y) o H
section SVX
variable {p : Program} {l : Launch} {e : Env} {R : Room} {s : State} {m : MethodId} {args : Array Value} {below : List Frame} {meth : Method} {c : Code} {k n nL : Nat} {Q : State → Prop} {G : sv_G} {pc : Nat} {lv : List (Nat × Value)} {st : List Value} {z : Nat} {M : sv_M} {o : Int64}
theorem sv_exW2 (kk : ∀ (y : vX) (a b : Int32), sv_V p l e R s m args below meth c nL G Q k n (sv_W G z (sv_u (sv_u M 15 (upd (upd (M 15) 6 a) 7 b)) 11 y) o) pc lv st) : sv_V p l e R s m args below meth c nL G Q k n (sv_W2 G z M o) pc lv st := fun H locs ls h1 h2 h3 => by
  obtain ⟨y, a, b, hy⟩ := h1
  exact kk y a b H locs ls hy h2 h3
end SVX
theorem sv_W2_of {G : sv_G} {z : Nat} {M : sv_M} {o : Int64} {y : vX} {a b : Int32} : ∀ H, sv_W G z (sv_u (sv_u M 15 (upd (upd (M 15) 6 a) 7 b)) 11 y) o H → sv_W2 G z M o H := fun _ h => ⟨y, a, b, h⟩
theorem sv_W2_id {G : sv_G} {z : Nat} {M : sv_M} {o : Int64} : ∀ H, sv_W G z M o H → sv_W2 G z M o H := fun _ h => ⟨M 11, M 15 6, M 15 7, by rw [upd_i, upd_i, sv_ui, sv_ui]; exact h⟩
theorem sv_W2_2 {G : sv_G} {z : Nat} {M : sv_M} {o : Int64} {y : vX} {a b : Int32} : ∀ H, sv_W2 G z (sv_u (sv_u M 15 (upd (upd (M 15) 6 a) 7 b)) 11 y) o H → sv_W2 G z M o H := fun _ ⟨x, a', b', h⟩ => ⟨x, a', b', by
  rw [sv_un (show 15 ≠ 11 by decide), sv_us, sv_u3 (by decide), sv_uu, upd_c (show 7 ≠ 6 by decide), upd_u, upd_u] at h
  exact h⟩
