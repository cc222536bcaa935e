/-! numbers that no cell shows; a copy is the thing copied -/
theorem sv_i_lt {c j i : Nat} (hok : sv_ok c j = true) (hr : sv_ir c = true ∨ c = 18) (hi : i < sv_n c) : sv_q c j < 8 → sv_i c i < 86 := by
  simp only [sv_ok, sv_ir, Bool.or_eq_true, Bool.and_eq_true, decide_eq_true_eq] at hok hr
  unfold sv_q sv_i
  unfold sv_n at hi
  by_cases h1 : c < 8
  · rw [if_pos h1] at hi ⊢
    omega
  · rw [if_neg h1] at hi ⊢
    by_cases h2 : c < 13
    · rw [if_pos h2] at hi ⊢
      omega
    · rw [if_neg h2] at hi ⊢
      by_cases h3 : c = 13
      · rw [if_pos h3] at hi
        omega
      · rw [if_neg (show ¬ c < 14 by omega)]
        by_cases h4 : c = 18
        · rw [if_pos h4]
          omega
        · rw [if_neg h4]
          omega
theorem sv_W.ext {G : sv_G} {z : Nat} {M M' : sv_M} {o : Int64} {H : Heap} (e : ∀ q i, (q < 8 → i < 86) → M' q i = M q i) (h : sv_W G z M o H) : sv_W G z M' o H := by
  refine ⟨h.1, h.2.1, fun c j hok => ?_⟩
  have h9 := h.2.2 c j hok
  rcases sv_kinds hok with hc | rfl | rfl | rfl | rfl | rfl | rfl | rfl
  · exact sv_at_rows hc (fun i hi => e _ _ (sv_i_lt hok hc hi)) h9
  · rw [sv_e0] at h9 ⊢
    rw [e j 6 (fun _ => by decide), e j 7 (fun _ => by decide), e j 4 (fun _ => by decide), e j 8 (fun _ => by decide)]
    exact h9
  · exact h9
  · rw [sv_e8] at h9 ⊢
    rw [e j 57 (fun _ => by decide), e j 5 (fun _ => by decide)]
    exact h9
  · exact h9
  · rw [sv_e15] at h9 ⊢
    rw [e 8 0 (fun _ => by decide), e 8 1 (fun _ => by decide)]
    exact h9
  · exact h9
  · rw [sv_e17] at h9 ⊢
    rw [e 9 60 (fun h => absurd h (by decide))]
    exact h9
theorem cpR_keep {c : Nat} {x y : vX} {k : Nat} (h : y k = x k) : ∀ n, cpR c n x y k = x k
  | 0 => h
  | n + 1 => by
    show upd (cpR c n x y) (sv_i c n) (x (sv_i c n)) k = x k
    by_cases hk : k = sv_i c n
    · rw [hk, upd_s]
    · rw [upd_n hk, cpR_keep h n]
theorem cpR_in {c : Nat} {x y : vX} {i : Nat} : ∀ n, i < n → cpR c n x y (sv_i c i) = x (sv_i c i)
  | 0, h => absurd h (Nat.not_lt_zero i)
  | n + 1, h => by
    show upd (cpR c n x y) (sv_i c n) (x (sv_i c n)) (sv_i c i) = x (sv_i c i)
    by_cases hk : sv_i c i = sv_i c n
    · rw [hk, upd_s]
    · rw [upd_n hk, cpR_in n (by
        rcases Nat.lt_or_ge i n with q | q
        · exact q
        · exact absurd (congrArg (sv_i c) (show i = n by omega)) hk)]
theorem upd_keep {x y : vX} {i k : Nat} (h : y k = x k) : upd y i (x i) k = x k := by
  by_cases hk : k = i
  · rw [hk, upd_s]
  · rw [upd_n hk, h]
theorem cpF_keep {x y : vX} {k : Nat} (h : y k = x k) : cpF x y k = x k := by
  unfold cpF
  exact cpR_keep (cpR_keep (cpR_keep (cpR_keep (cpR_keep (cpR_keep h 8) 8) 8) 8) 8) 8
theorem cpF_in {x y : vX} {k : Nat} (h : 9 ≤ k) (h2 : k < 57) : cpF x y k = x k := by
  have e : ∀ c, 2 ≤ c → c < 8 → (k - 9) % 6 = c - 2 → k = sv_i c ((k - 9) / 6) := by
    intro c h1 h3 h4
    unfold sv_i
    rw [if_pos h3]
    omega
  have hd : (k - 9) / 6 < 8 := by omega
  unfold cpF
  rcases (show (k - 9) % 6 = 0 ∨ (k - 9) % 6 = 1 ∨ (k - 9) % 6 = 2 ∨ (k - 9) % 6 = 3 ∨ (k - 9) % 6 = 4 ∨ (k - 9) % 6 = 5 by omega) with h4 | h4 | h4 | h4 | h4 | h4
  · exact cpR_keep (cpR_keep (cpR_keep (cpR_keep (cpR_keep (by rw [e 2 (by decide) (by decide) h4]; exact cpR_in 8 hd) 8) 8) 8) 8) 8
  · exact cpR_keep (cpR_keep (cpR_keep (cpR_keep (by rw [e 3 (by decide) (by decide) h4]; exact cpR_in 8 hd) 8) 8) 8) 8
  · exact cpR_keep (cpR_keep (cpR_keep (by rw [e 4 (by decide) (by decide) h4]; exact cpR_in 8 hd) 8) 8) 8
  · exact cpR_keep (cpR_keep (by rw [e 5 (by decide) (by decide) h4]; exact cpR_in 8 hd) 8) 8
  · exact cpR_keep (by rw [e 6 (by decide) (by decide) h4]; exact cpR_in 8 hd) 8
  · rw [e 7 (by decide) (by decide) h4]; exact cpR_in 8 hd
theorem cpP_keep {x y : vX} {k : Nat} (h : y k = x k) : cpP x y k = x k := by
  unfold cpP
  exact upd_keep (upd_keep (cpR_keep (cpR_keep (cpR_keep (cpR_keep h 7) 7) 7) 7))
theorem cpP_in {x y : vX} {k : Nat} (h : 58 ≤ k) (h2 : k < 86) : cpP x y k = x k := by
  have e : ∀ c, 9 ≤ c → c < 13 → (k - 58) % 4 = c - 9 → k = sv_i c ((k - 58) / 4) := by
    intro c h1 h3 h4
    unfold sv_i
    rw [if_neg (by omega), if_pos h3]
    omega
  have hd : (k - 58) / 4 < 7 := by omega
  unfold cpP
  rcases (show (k - 58) % 4 = 0 ∨ (k - 58) % 4 = 1 ∨ (k - 58) % 4 = 2 ∨ (k - 58) % 4 = 3 by omega) with h4 | h4 | h4 | h4
  · exact upd_keep (upd_keep (cpR_keep (cpR_keep (cpR_keep (by rw [e 9 (by decide) (by decide) h4]; exact cpR_in 7 hd) 7) 7) 7))
  · exact upd_keep (upd_keep (cpR_keep (cpR_keep (by rw [e 10 (by decide) (by decide) h4]; exact cpR_in 7 hd) 7) 7))
  · exact upd_keep (upd_keep (cpR_keep (by rw [e 11 (by decide) (by decide) h4]; exact cpR_in 7 hd) 7))
  · exact upd_keep (upd_keep (by rw [e 12 (by decide) (by decide) h4]; exact cpR_in 7 hd))
theorem cpS_eq {x y : vX} {k : Nat} (h : k < 86) : cpS x y k = x k := by
  unfold cpS
  rcases Nat.lt_or_ge k 9 with h1 | h1
  · rcases (show k = 8 ∨ k = 4 ∨ k = 7 ∨ k = 6 ∨ k = 5 ∨ k < 4 by omega) with rfl | rfl | rfl | rfl | rfl | h2
    · exact upd_s _ _ _
    · exact upd_keep (upd_s _ _ _)
    · exact upd_keep (upd_keep (upd_s _ _ _))
    · exact upd_keep (upd_keep (upd_keep (upd_s _ _ _)))
    · exact upd_keep (upd_keep (upd_keep (upd_keep (cpR_keep (by unfold cpP; exact upd_s _ _ _) 4))))
    · have e : k = sv_i 13 k := rfl
      exact upd_keep (upd_keep (upd_keep (upd_keep (by rw [e]; exact cpR_in 4 h2))))
  · refine upd_keep (upd_keep (upd_keep (upd_keep (cpR_keep ?_ 4))))
    rcases Nat.lt_or_ge k 57 with h2 | h2
    · exact cpP_keep (cpF_in h1 h2)
    · rcases (show k = 57 ∨ 58 ≤ k by omega) with rfl | h3
      · unfold cpP
        exact upd_keep (upd_s _ _ _)
      · exact cpP_in h3 h
theorem sv_W.cpS {G : sv_G} {z : Nat} {M : sv_M} {o : Int64} {H : Heap} {j1 j2 : Nat} (hj : j2 < 8) (h : sv_W G z (sv_u M j2 (cpS (M j1) (M j2))) o H) : sv_W G z (sv_u M j2 (M j1)) o H := by
  refine h.ext (fun q i hq => ?_)
  by_cases e : q = j2
  · subst e
    rw [sv_us, sv_us, cpS_eq (hq hj)]
  · rw [sv_un e, sv_un e]
theorem sv_Met_post {l : Launch} {G : sv_G} {y : MethodName} {b : ByteArray} {maxL : Nat} {ret : Option FieldType} {d : Nat} {as : List Value} {Wd Wd' Wd2 : Heap → Prop} {r : Option Value} (h : sv_Met l G y b maxL ret d as Wd r Wd') (hw : ∀ H, Wd' H → Wd2 H) : sv_Met l G y b maxL ret d as Wd r Wd2 :=
  MetFree.mono h (fun _ _ h => h) (fun _ _ _ _ _ h => h) (fun _ _ _ _ _ q => ⟨⟨q.1.1, hw _ q.1.2.1, q.1.2.2⟩, q.2⟩)
/-- the trial stairs hold anything -/
def sv_W1 (G : sv_G) (z : Nat) (M : sv_M) (o : Int64) (H : Heap) : Prop := ∃ y : vX, sv_W G z (sv_u M 1 y) o H
theorem sv_W1_of {G : sv_G} {z : Nat} {M : sv_M} {o : Int64} {y : vX} : ∀ H, sv_W G z (sv_u M 1 y) o H → sv_W1 G z M o H := fun _ h => ⟨y, h⟩
theorem sv_W1_id {G : sv_G} {z : Nat} {M : sv_M} {o : Int64} : ∀ H, sv_W G z M o H → sv_W1 G z M o H := fun _ h => ⟨M 1, by rw [sv_ui]; exact h⟩
theorem sv_W1_1 {G : sv_G} {z : Nat} {M : sv_M} {o : Int64} {y : vX} : ∀ H, sv_W1 G z (sv_u M 1 y) o H → sv_W1 G z M o H := fun _ ⟨x, h⟩ => ⟨x, by rw [sv_uu] at h; exact h⟩
section SVZ
variable {p : Program} {l : Launch} {e : Env} {R : Room} {s : State} {m : MethodId} {args : Array Value} {below : List Frame} {meth : Method} {c : Code} {k n nL : Nat} {Q : State → Prop} {G : sv_G} {pc : Nat} {lv : List (Nat × Value)} {st : List Value} {z : Nat} {M : sv_M} {o : Int64}
theorem sv_exW (kk : ∀ y : vX, sv_V p l e R s m args below meth c nL G Q k n (sv_W G z (sv_u M 1 y) o) pc lv st) : sv_V p l e R s m args below meth c nL G Q k n (sv_W1 G z M o) pc lv st := fun H locs ls h1 h2 h3 => by
  obtain ⟨y, hy⟩ := h1
  exact kk y H locs ls hy h2 h3
end SVZ
