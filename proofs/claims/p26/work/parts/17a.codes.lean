/-! which exception: codes as the law counts them; the state behind each call -/
abbrev sv_IO : String := "java/lang/IndexOutOfBoundsException"
abbrev sv_IA : String := "java/lang/IllegalArgumentException"
abbrev sv_IS : String := "java/lang/IllegalStateException"
/-- the code k throws as the names say -/
def sv_E1 (X1 : String) (k : Nat) (E : String) : Prop := k = 1 ∧ E = X1
def sv_E2 (X1 X2 : String) (k : Nat) (E : String) : Prop := (k = 1 ∧ E = X1) ∨ (k = 2 ∧ E = X2)
def sv_E3 (X1 X2 X3 : String) (k : Nat) (E : String) : Prop := (k = 1 ∧ E = X1) ∨ (k = 2 ∧ E = X2) ∨ (k = 3 ∧ E = X3)
theorem i32_in {i : Int32} {n : Nat} (hn : n < 2147483648) (h : ¬ (i < 0 ∨ nI n ≤ i)) : ∃ g, g < n ∧ i = nI g := by
  rcases pk_ix i (n := n) hn with h1 | h1 | h1
  · exact absurd (Or.inl h1) h
  · exact absurd (Or.inr h1) h
  · exact h1
def inC (n : Nat) (i : Int32) : Nat := if i < 0 ∨ nI n ≤ i then 1 else 0
theorem inC_0 {n : Nat} {i : Int32} (hn : n < 2147483648) (h : inC n i = 0) : ∃ g, g < n ∧ i = nI g := by
  unfold inC at h
  split at h
  · cases h
  · rename_i h1
    exact i32_in hn h1
theorem inC_N {n g : Nat} (h : g < n) (hn : n < 2147483648) : inC n (nI g) = 0 := if_neg (sv_inN h hn)
theorem inC_01 (n : Nat) (i : Int32) : inC n i = 0 ∨ inC n i = 1 := by
  unfold inC
  split
  · exact Or.inr rfl
  · exact Or.inl rfl
def wayC (f t : Int32) : Nat := if inC 8 f = 1 ∨ inC 8 t = 1 then 1 else if f = t then 2 else 0
def secC (t : Int32) : Nat := if t < 1 ∨ 300 < t then 1 else 0
theorem secC_0 {t : Int32} (h : secC t = 0) : ∃ n, 1 ≤ n ∧ n ≤ 300 ∧ t = nI n := by
  unfold secC at h
  split at h
  · cases h
  · rename_i h1
    have h2 : ¬ t < 1 := fun q => h1 (Or.inl q)
    have h3 : ¬ 300 < t := fun q => h1 (Or.inr q)
    rcases pk_ix t (n := 301) (by decide) with h4 | h4 | ⟨j, hj, rfl⟩
    · exact absurd (Int32.lt_trans h4 (by decide)) h2
    · exact absurd (Int32.lt_of_lt_of_le (by decide : (300 : Int32) < nI 301) h4) h3
    · refine ⟨j, ?_, by omega, rfl⟩
      rcases Nat.eq_zero_or_pos j with rfl | h5
      · exact absurd (by decide : nI 0 < 1) h2
      · exact h5
/-- a state is saved -/
def savO (od hd : Nat) : Nat := if hd < 6 then od else (od + 1) % 6
def savH (hd : Nat) : Nat := if hd < 6 then hd + 1 else 6
def savK (od hd : Nat) : Nat := if hd < 6 then (od + hd) % 6 else od
def sav (od hd : Nat) (M : sv_M) : sv_M := svM (savO od hd) (savH hd) (savK od hd) M
theorem sav_0 (od hd : Nat) (M : sv_M) : sav od hd M 0 = M 0 := by
  unfold sav svM
  rw [sv_un (by omega), sv_un (by decide)]
theorem sav_9 {od hd : Nat} (hod : od < 6) (M : sv_M) : sav od hd M 9 = M 9 := by
  unfold sav svM
  have : savK od hd < 6 := by unfold savK; split <;> omega
  rw [sv_un (by omega), sv_un (by decide)]
/-- somebody turns -/
def trnv (p : Nat) (t : Int32) (x : vX) : vX := upd (upd x (4 * p + 60) t) (4 * p + 61) (if x (4 * p + 59) = t then 0 else x 3)
def firv (b : Int32) (x : vX) : vX := upd (if x 7 = 1 ∧ b = 0 then fo (sw (x 0)) 8 x else x) 7 b
def setC (s v : Int32) : Nat := if inC 4 s = 1 then 1 else if v < sv_F 1 s.toNatClampNeg ∨ sv_F 2 s.toNatClampNeg < v then 2 else 0
def appC (c : Int32) (n : Nat) : Nat := if c < 33 ∨ 126 < c then 1 else if 60 ≤ n then 2 else 0
def comC (m : Nat) (f t : Int32) : Nat := if wayC f t = 0 then (if 6 ≤ m then 3 else 0) else wayC f t
def trnC (x : vX) (m : Nat) (n t : Int32) : Nat := if plF x n m 0 = (-1) then 1 else inC 8 t
def floC (f w : Int32) : Nat := if inC 8 f = 1 then 1 else if inC 8 w = 1 then 2 else 0
def perC (p w : Int32) : Nat := if p < 0 then 1 else inC 4 w
def ifpC (t w : Int32) : Nat := if secC t = 1 then 1 else inC 4 w
theorem app_in {c : Int32} {n : Nat} (h : appC c n = 0) : (∃ g, g < 127 ∧ 33 ≤ g ∧ c = nI g) ∧ n < 60 := by
  unfold appC at h
  split at h
  · cases h
  · rename_i h1
    split at h
    · cases h
    · rename_i h2
      refine ⟨?_, by omega⟩
      rcases pk_ix c (n := 127) (by decide) with h4 | h4 | ⟨j, hj, rfl⟩
      · exact absurd (Or.inl (Int32.lt_trans h4 (by decide))) h1
      · exact absurd (Or.inr (Int32.lt_of_lt_of_le (by decide : (126 : Int32) < nI 127) h4)) h1
      · refine ⟨j, hj, ?_, rfl⟩
        rcases Nat.lt_or_ge j 33 with h5 | h5
        · exact absurd (Or.inl ((nI_ltI (a := j) (b := 33) (by omega) (by decide)).mpr h5)) h1
        · exact h5
