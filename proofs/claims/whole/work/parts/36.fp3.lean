theorem fp_k {t : Nat} (h0 : 0 < t) (ht : t < fpP) : ∃ k, k ≤ 52 ∧ 4503599627370496 ≤ t * 2 ^ k ∧ t * 2 ^ k < 9007199254740992 := by
  unfold fpP at ht
  have hl : t.log2 < 52 := (Nat.log2_lt (by omega)).mpr ht
  refine ⟨52 - t.log2, by omega, ?_, ?_⟩
  · have h1 := Nat.log2_self_le (n := t) (by omega)
    have h2 := Nat.mul_le_mul_right (2 ^ (52 - t.log2)) h1
    rw [← Nat.pow_add, show t.log2 + (52 - t.log2) = 52 by omega] at h2
    exact h2
  · have h1 := (Nat.log2_lt (n := t) (k := t.log2 + 1) (by omega)).mp (by omega)
    have h2 := Nat.mul_lt_mul_of_pos_right h1 (Nat.two_pow_pos (52 - t.log2))
    rw [← Nat.pow_add, show t.log2 + 1 + (52 - t.log2) = 53 by omega] at h2
    exact h2
theorem fp_frac {T : Nat} (hT : T < fpP) : vf_n64 (FP.dsub (fdv 1023 T) FP.dconst1) ∧ vf_n64 (FP.dmul (FP.dsub (fdv 1023 T) FP.dconst1) (4841369599423283200)) ∧ FP.d2l (FP.dmul (FP.dsub (fdv 1023 T) FP.dconst1) (4841369599423283200)) = Int64.ofInt T := by
  rcases Nat.eq_zero_or_pos T with h | h
  · rw [h, fp_sub0, fp_mul0, fp_l0]
    refine ⟨?_, ?_, rfl⟩ <;> (unfold vf_n64; decide)
  · obtain ⟨k, hk, h1, h2⟩ := fp_k h hT
    rw [fp_sub h1 h2 hk hT, fp_mul52 (by omega) (by omega) (by show _ < 4503599627370496; omega), fp_d2l h1 h2 hk]
    exact ⟨fp_n64 (by omega) (by show _ < 4503599627370496; omega), fp_n64 (by omega) (by show _ < 4503599627370496; omega), rfl⟩
theorem fp_shl : ∀ E, E < 1024 → (Int32.toInt64 (nI E)) <<< (Int32.toInt64 (nI 52) &&& 63) = Int64.ofInt ((E * 4503599627370496 : Nat) : Int) := by decide +kernel
theorem fp_bits {E T : Nat} (hE : E < 1024) : (Int32.toInt64 (nI E)) <<< (Int32.toInt64 (nI 52) &&& 63) + Int64.ofInt (T : Int) = (fdv E T).toInt64 := by
  rw [fp_shl E hE, ← Int64.ofInt_add]
  unfold fdv
  rw [UInt64.toInt64_ofNat', ← Int64.ofInt_eq_ofNat]
  rfl
/-- a share from 0 to 1 -/
def shr (x : UInt64) : Prop := x = 0 ∨ ∃ E T, 1 ≤ E ∧ E ≤ 1023 ∧ T < fpP ∧ x = fdv E T
theorem fp_00 : FP.dcmp 0 FP.dconst0 = some .eq := by decide +kernel
theorem fp_000 : FP.dcmp 0 0 = some .eq := by decide +kernel
section SVR
variable {p : Program} {l : Launch} {e : Env} {R : Room} {s : State} {m : MethodId} {args : Array Value} {below : List Frame} {meth : Method} {c : Code} {k n nL : Nat} {Q : State → Prop} {G : sv_G} {Wd : Heap → Prop} {cc : ByteArray} {pc : Nat} {lv : List (Nat × Value)} {st : List Value} {own : String}
theorem sv_d2raw (C : sv_C p l s m args meth c cc nL own G) {ix : Nat} {b : UInt64} (hlink : Cond.methodLink own ix ⟨"java/lang/Double", "doubleToRawLongBits", "(D)J"⟩ ∈ sv_tbl) (hnat : Cond.native ⟨"java/lang/Double", "doubleToRawLongBits", "(D)J"⟩ ∈ sv_tbl) (hstat : Cond.static ⟨"java/lang/Double", "doubleToRawLongBits", "(D)J"⟩ ∈ sv_tbl) (hini : Cond.initialized "java/lang/Double" ∈ sv_tbl) (hf : 1 ≤ R.frames) (hl : (st.map fun v => v.category).sum + 15 ≤ R.locals) (d : decode cc pc = .ok (.invokestatic ix, 3)) (kk : sv_V p l e R s m args below meth c nL G Q k n Wd (pc + 3) lv (.long b.toInt64 :: st)) : sv_V p l e R s m args below meth c nL G Q k n Wd pc lv (.double b :: st) := fun H locs ls h1 h2 h3 => vn_d2l C.1 C.2.1 (by rw [C.2.2.1, h3.1]) C.2.2.2.1 (C.2.2.2.2.2.word hlink args) (C.2.2.2.2.2.word hnat args) (C.2.2.2.2.2.word hstat args) (C.2.2.2.2.2.word hini args) hf hl d (kk H locs ls h1 h2 h3)
end SVR
