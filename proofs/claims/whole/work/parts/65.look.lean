/-! what both looks tell -/
theorem fl_floor {C B od hd n9 : Nat} {M : sv_M} {f v : Int32} (h : inw C B od hd n9 M) (hc : floC f v = 0) : fnv (many (M 0)) (M 0) f.toNatClampNeg v.toNatClampNeg = fnv (many (M 0)) (M 10) f.toNatClampNeg v.toNatClampNeg := by
  obtain ⟨_, _, _, _, _, _, he, _⟩ := inw_m h
  unfold floC at hc
  split at hc
  · cases hc
  · rename_i h1
    obtain ⟨g, hg, rfl⟩ := inC_0 (by decide) ((inC_01 8 f).resolve_right h1)
    rw [nI_clamp (by omega)]
    exact eqm_fnv hg he
theorem fl_person {C B od hd n9 : Nat} {M : sv_M} {f v : Int32} (h : inw C B od hd n9 M) (hc : perC f v = 0) : (if f.toNatClampNeg < many (M 0) then M 0 (4 * f.toNatClampNeg + 58 + v.toNatClampNeg) else (-1)) = (if f.toNatClampNeg < many (M 0) then M 10 (4 * f.toNatClampNeg + 58 + v.toNatClampNeg) else (-1) : Int32) := by
  obtain ⟨_, _, _, _, _, _, he, _⟩ := inw_m h
  unfold perC at hc
  split at hc
  · cases hc
  · obtain ⟨g, hg, rfl⟩ := inC_0 (by decide) hc
    rw [nI_clamp (by omega)]
    split
    · exact he _ (by omega)
    · rfl
theorem fl_count {C B od hd n9 : Nat} {M : sv_M} {w : Nat} (h : inw C B od hd n9 M) : couv (M 0) hd w = couv (M 10) hd w := by
  obtain ⟨_, _, _, _, _, _, he, _⟩ := inw_m h
  exact eqm_couv he
theorem fl_setting {C B od hd n9 : Nat} {M : sv_M} {f : Int32} (h : inw C B od hd n9 M) (hc : inC 4 f = 0) : M 0 f.toNatClampNeg = M 10 f.toNatClampNeg := by
  obtain ⟨_, _, _, _, _, _, he, _⟩ := inw_m h
  obtain ⟨g, hg, rfl⟩ := inC_0 (by decide) hc
  rw [nI_clamp (by omega)]
  exact he _ (by omega)
theorem fl_ifp {C B od hd n9 : Nat} {M : sv_M} {t w : Nat} (h : inw C B od hd n9 M) : psO (M 10) t w (outv (M 0) t w) := psO_out (inw_m h).2.2.2.2.2.2.2
theorem inw_nums {C B od hd n9 : Nat} {M : sv_M} (h : inw C B od hd n9 M) : ∃ c, c ≤ C ∧ nums (M 0) c := h.2.2.2.2.2.2.2.2.2.1.2.2.1
theorem fl_wkD {C B od hd n9 f t : Nat} {M : sv_M} {T : Int32} (h : inw C B od hd n9 M) (hC : C < 2147483647) (hf : f < 8) (ht : t < 8) : wkD (M 10) (many (M 0)) (nI f) (nI t) T (dkw (nI f) (nI t) T (M 0)) := by
  obtain ⟨_, h6, _, _, _, _, he, hr⟩ := inw_m h
  obtain ⟨c, h1, h2⟩ := inw_nums h
  exact wkD_dkw hr h6 h2 (by omega) hf ht
theorem fl_dark {C B od hd n9 : Nat} {M : sv_M} {f t : Int32} (h : inw C B od hd n9 M) (hC : C < 2147483647) (hc : wayC f t = 0) : wkD (M 10) (many (M 0)) f t (M 10 0) (dkw f t (M 0 0) (M 0)) := by
  obtain ⟨f', t', hf, ht, rfl, rfl, _⟩ := way_in hc
  obtain ⟨_, h6, _, _, _, _, he, hr⟩ := inw_m h
  rw [← he 0 (by omega)]
  exact fl_wkD h hC hf ht
theorem fl_lt {C B od hd n9 : Nat} {M : sv_M} {f t : Int32} (h : inw C B od hd n9 M) (hC : C < 2147483647) (hc : wayC f t = 0) : (∀ T, 1 ≤ T → T ≤ 200 → wkD (M 10) (many (M 0)) f t (nI T) (dkw f t (nI T) (M 0))) ∧ lbt f t (M 0) = (lsN (fun T => dkw f t (nI T) (M 0)) 199).1 := by
  obtain ⟨f', t', hf, ht, rfl, rfl, _⟩ := way_in hc
  obtain ⟨_, h6, _, _, _, _, he, hr⟩ := inw_m h
  exact ⟨fun T _ _ => fl_wkD h hC hf ht, lbt_ls hr h.2.2.2.2.2.2.2.2.2.1.2.2.2.1 h6 hf ht⟩
theorem fl_worst {C B od hd n9 : Nat} {M : sv_M} (h : inw C B od hd n9 M) : mm (M 0) 8 = mm (M 10) 8 := by
  obtain ⟨_, _, _, _, _, _, he, _⟩ := inw_m h
  exact eqm_mm he 8 (by decide)
/-- the share: of class and reference the same bits, no NaN -/
theorem fl_share {C B od hd n9 : Nat} {M : sv_M} (h : inw C B od hd n9 M) (hB : B < 2147483648) : lsh (M 0) = rsh (M 10) ∧ shr (lsh (M 0)) ∧ (0 < M 0 8 → vf_n64 (FP.ddiv (FP.i2d (M 0 8 - dks (M 0) - dms (M 0))) (FP.i2d (M 0 8)))) ∧ (¬ M 10 8 = 0 → vf_n64 (FP.ddiv (FP.i2d (M 10 8 - dks (M 10) - dms (M 10))) (FP.i2d (M 10 8)))) := by
  obtain ⟨_, _, _, _, _, _, he, _⟩ := inw_m h
  have hb := h.2.2.2.2.2.2.2.2.2.1.2.2.2.2
  obtain ⟨a1, a2, a3⟩ := bnd_shr hb hB
  have e : rsh (M 10) = rsh (M 0) := by
    unfold rsh
    rw [← he 8 (by omega), ← eqm_dks he, ← eqm_dms he]
  refine ⟨by rw [e]; exact a1, a2, a3, ?_⟩
  rw [← he 8 (by omega), ← eqm_dks he, ← eqm_dms he]
  intro h0
  refine a3 ?_
  obtain ⟨a, _, _, h1, h2, _⟩ := hb
  rw [h1] at h0 ⊢
  rcases Nat.eq_zero_or_pos a with q | q
  · exact absurd (by rw [q]; rfl) h0
  · exact (nI_ltI (a := 0) (b := a) (by omega) (by omega)).mpr q
theorem fl_dig {C B od hd n9 : Nat} {M : sv_M} {bits : Int64} (h : inw C B od hd n9 M) (hC : C < 2147483647) : dig (M 0) (M 9) (many (M 0)) hd n9 bits = rdg (M 10) (M 13) (many (M 0)) hd n9 (fun i => outv (M 0) 30 i) (dkw (nI 0) (nI 7) (M 0 0) (M 0)) (dkw (nI 6) (nI 2) (M 0 0) (M 0)) (lsN (fun T => dkw (nI 1) (nI 5) (nI T) (M 0)) 199).1 bits := by
  obtain ⟨_, h6, _, _, _, _, he, hr⟩ := inw_m h
  have htx := h.2.2.2.2.2.2.2.2.1
  have hn := h.2.2.1
  exact dig_rdg he (fun i hi => (htx i (by omega)).1.symm) (fun _ _ => rfl) rfl rfl (lbt_ls hr h.2.2.2.2.2.2.2.2.2.1.2.2.2.1 h6 (by decide) (by decide))
theorem fl_d0 {C B od hd n9 : Nat} {M : sv_M} {f t : Nat} (h : inw C B od hd n9 M) (hC : C < 2147483647) (hf : f < 8) (ht : t < 8) : wkD (M 10) (many (M 0)) (nI f) (nI t) (M 10 0) (dkw (nI f) (nI t) (M 0 0) (M 0)) := by
  obtain ⟨_, h6, _, _, _, _, he, hr⟩ := inw_m h
  rw [← he 0 (by omega)]
  exact fl_wkD h hC hf ht
theorem ite_b {x : Int32} : (if x = 0 then nI 0 else nI 1) = 0 ∨ (if x = 0 then nI 0 else nI 1) = 1 := by
  split
  · exact Or.inl rfl
  · exact Or.inr rfl
theorem inC_le (n : Nat) (i : Int32) : inC n i ≤ 1 := by
  unfold inC
  split <;> decide
theorem comC_le (m : Nat) (f t : Int32) : comC m f t ≤ 3 := by
  have h := wayC_le f t
  unfold comC
  split
  · split <;> decide
  · omega
theorem trnC_le (x : vX) (m : Nat) (n t : Int32) : trnC x m n t ≤ 1 := by
  have h := inC_le 8 t
  unfold trnC
  split
  · decide
  · exact h
theorem setC_le (s v : Int32) : setC s v ≤ 2 := by
  unfold setC
  split
  · decide
  · split <;> decide
theorem secC_le (t : Int32) : secC t ≤ 1 := by
  unfold secC
  split <;> decide
theorem appC_le (c : Int32) (n : Nat) : appC c n ≤ 2 := by
  unfold appC
  split
  · decide
  · split <;> decide
theorem cmaC_le (n : Nat) (x : vX) : cmaC n x ≤ 1 := by
  unfold cmaC
  split <;> decide
theorem undC_le (n : Nat) : undC n ≤ 1 := by
  unfold undC
  split <;> decide
theorem floC_le (f w : Int32) : floC f w ≤ 2 := by
  unfold floC
  split
  · decide
  · split <;> decide
theorem perC_le (f w : Int32) : perC f w ≤ 1 := by
  have h := inC_le 4 w
  unfold perC
  split
  · decide
  · exact h
theorem ifpC_le (f w : Int32) : ifpC f w ≤ 1 := by
  have h := inC_le 4 w
  unfold ifpC
  split
  · decide
  · exact h
section SVP
variable {p : Program} {l : Launch} {e : Env} {R : Room} {s : State} {m : MethodId} {args : Array Value} {below : List Frame} {meth : Method} {c : Code} {k n nL : Nat} {Q : State → Prop} {G : sv_G} {Wd : Heap → Prop} {pc : Nat} {lv : List (Nat × Value)} {st : List Value}
theorem sv_exP {P : Prop} (kk : P → sv_V p l e R s m args below meth c nL G Q k n Wd pc lv st) : sv_V p l e R s m args below meth c nL G Q k n (fun H => P ∧ Wd H) pc lv st := fun H locs ls h1 h2 h3 => kk h1.1 H locs ls h1.2 h2 h3
end SVP
