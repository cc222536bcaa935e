theorem fp_k {t : Nat} (h0 : 0 < t) (ht : t < fpP) : ∃ k, k ≤ 52 ∧ 4503599627370496 ≤ t * 2 ^ k ∧ t * 2 ^ k < 9007199254740992 := by
  unfold fpP at ht
  have hl : t.log2 < 52 := (Nat.log2_lt (by omega)).mpr ht
  refine ⟨52 - t.log2, by omega, ?_, ?_⟩
  · have h1 := Nat.log2_self_le (n := t) (by omega)
    have h2 := Nat.mul_le_mul_right (2 ^ (52 - t.log2)) h1
    rw [← Nat.pow_add, show t.log2 + (52 - t.log2) = 52 by omega] at h2
    exact h2
  · have h1 := (Nat.log2_lt (n := t) (k := t.log2 + 1) (by omega)).mp (by omega)
    have h2 := Nat.mul_lt_mul_of_pos_right h1 (Nat.two_pow_pos (52 - t.log2))
    rw [← Nat.pow_add, show t.log2 + 1 + (52 - t.log2) = 53 by omega] at h2
    exact h2
/-- a double from 0 to 1 -/
def shr (x : UInt64) : Prop := x = 0 ∨ ∃ E T, 1 ≤ E ∧ E ≤ 1023 ∧ T < fpP ∧ (E = 1023 → T = 0) ∧ x = fdv E T
theorem shr_ge {x : UInt64} {op : CmpOp} (h : shr x) : ¬ Op.cmpValue (FP.dcmp x FP.dconst0) op < 0 := by
  rcases h with rfl | ⟨E, T, h1, h2, h3, _, rfl⟩
  · rw [show FP.dcmp 0 FP.dconst0 = some .eq from by decide +kernel]
    cases op <;> decide
  · rw [fp_cmp0 h1 (by omega) h3]
    cases op <;> decide
theorem shr_le {x : UInt64} {op : CmpOp} (h : shr x) : ¬ 0 < Op.cmpValue (FP.dcmp x FP.dconst1) op := by
  rcases h with rfl | ⟨E, T, h1, h2, h3, h4, rfl⟩
  · rw [show FP.dcmp 0 FP.dconst1 = some .lt from by decide +kernel]
    cases op <;> decide
  · rcases Nat.lt_or_ge E 1023 with h5 | h5
    · rw [fp_cmp1lt h1 h5 h3]
      cases op <;> decide
    · obtain rfl : E = 1023 := by omega
      obtain rfl : T = 0 := h4 rfl
      rw [show FP.dcmp (fdv 1023 0) FP.dconst1 = some .eq from by decide +kernel]
      cases op <;> decide
