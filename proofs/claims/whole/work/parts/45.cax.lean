/-! all walks of a text: class and reference -/
theorem many_sec_le {x : vX} (h : vd x) : many (secv x) ≤ many x := by
  obtain ⟨m1, m2⟩ := sec_many h
  rw [m1, m2]
  exact goS_le _ _ _
theorem many_pass_le {x : vX} (h : vd x) : ∀ n, many (passv n x) ≤ many x
  | 0 => Nat.le_refl _
  | n + 1 => Nat.le_trans (many_sec_le (vd_pass h n)) (many_pass_le h n)
def cwk (x : vX) (cd : vX) (k : Nat) : Nat := wtF 480 (cax cd k x)
theorem rel_cax {cd x y : vX} {P : Nat} (h : rel x y) (hm : many x ≤ 6) (hc : ∀ k, k < P → ∃ f t, f < 8 ∧ t < 8 ∧ f ≠ t ∧ cd (4 * k) - 48 = nI f ∧ cd (4 * k + 2) - 48 = nI t) : ∀ n, n ≤ P → rel (cax cd n x) (rcx cd (cwk x cd) y n) ∧ many (cax cd n x) ≤ 6
  | 0, _ => ⟨h, hm⟩
  | n + 1, hn => by
    obtain ⟨i1, i2⟩ := rel_cax h hm hc n (by omega)
    obtain ⟨f, t, hf, ht, hne, ef, et⟩ := hc n (by omega)
    have hp := rel_pass i1 (cwk x cd n)
    obtain ⟨r1, r2⟩ := wt_room i1
    have hp' : rel (wtd (cax cd n x)) (rpass (cwk x cd n) (rcx cd (cwk x cd) y n)) := hp
    have e1 : cax cd (n + 1) x = entv (many (wtd (cax cd n x))) (cd (4 * n) - 48) (cd (4 * n + 2) - 48) (wtd (cax cd n x) 3) (wtd (cax cd n x)) := rfl
    have e2 : rcx cd (cwk x cd) y (n + 1) = entv (many (rpass (cwk x cd n) (rcx cd (cwk x cd) y n))) (cd (4 * n) - 48) (cd (4 * n + 2) - 48) (rpass (cwk x cd n) (rcx cd (cwk x cd) y n) 3) (rpass (cwk x cd n) (rcx cd (cwk x cd) y n)) := rfl
    rw [e1, e2, ef, et, rel_many hp']
    refine ⟨rel_ent hp' (by omega) hf ht, ?_⟩
    rw [many_eq entv_57 (by omega)]
    omega
theorem rok_cax {cd x y : vX} {P : Nat} (h : rel x y) (hm : many x ≤ 6) (hc : ∀ k, k < P → ∃ f t, f < 8 ∧ t < 8 ∧ f ≠ t ∧ cd (4 * k) - 48 = nI f ∧ cd (4 * k + 2) - 48 = nI t) (k : Nat) (hk : k < P) : rok cd (cwk x cd) y k := by
  obtain ⟨i1, i2⟩ := rel_cax h hm hc k (by omega)
  obtain ⟨f, t, hf, ht, hne, ef, et⟩ := hc k hk
  refine ⟨fun i _ => rel_rgd i1 i, fun i hi => ?_, ?_, ?_⟩
  · have a1 := rel_many (rel_pass i1 i)
    have a2 := wtF_lo 480 (cax cd k x) i hi
    have a3 := many_pass_le i1.1 i
    omega
  · rw [rel_many (rel_pass i1 (cwk x cd k))]
    exact (wt_room i1).1
  · rw [ef, et]
    exact fun q => hne (nI_inj (by omega) (by omega) q)
