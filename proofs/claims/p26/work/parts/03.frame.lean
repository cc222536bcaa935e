/-! The frame of this proof. A world is a function: blocks of numbers by a place (sv_M), laid out over 117 cells that follow each other from G.1 on. -/
/-- the ground: the first cell; what the tables give each class; the classes of the arrays (int, char, Stairs), the script; the static rows -/
abbrev sv_G : Type := Nat × va_G × (ClassId × ClassId × ClassId × Nat × Nat × (Nat → Int32)) × (Nat × Nat × Nat)
abbrev sv_M : Type := Nat → Nat → Int32
abbrev sv_D (G : sv_G) : va_G := G.2.1
abbrev sv_cI (G : sv_G) : ClassId := G.2.2.1.1
abbrev sv_cC (G : sv_G) : ClassId := G.2.2.1.2.1
abbrev sv_cS (G : sv_G) : ClassId := G.2.2.1.2.2.1
/-- the script: its cell, its length, its ints -/
abbrev sv_b (G : sv_G) : Nat := G.2.2.1.2.2.2.1
abbrev sv_L (G : sv_G) : Nat := G.2.2.1.2.2.2.2.1
abbrev sv_xs (G : sv_G) : Nat → Int32 := G.2.2.1.2.2.2.2.2
abbrev sv_A (G : sv_G) : Nat → Prop := fun q => G.1 ≤ q
abbrev sv_tys (G : sv_G) : List (ClassId × FieldType) := [(sv_cI G, .int), (sv_cC G, .char), (sv_cS G, .object "StairLight$Stairs")]
/-- the cell of kind c, number j, by its distance from the first -/
def sv_ad (c j : Nat) : Nat := if c < 14 then 1 + 14 * j + (if j < 2 then 0 else 2) + c else if c = 14 then 0 else if c < 17 then 14 + c else 98 + c
abbrev sv_r (G : sv_G) (c j : Nat) : Nat := G.1 + sv_ad c j
/-- int rows: length, block, place -/
def sv_n (c : Nat) : Nat := if c < 8 then 8 else if c < 13 then 7 else if c = 13 then 4 else 60
def sv_q (c j : Nat) : Nat := if c < 14 then j else if c = 18 then 9 else c - 10
def sv_i (c i : Nat) : Nat := if c < 8 then 6 * i + (7 + c) else if c < 13 then 4 * i + (49 + c) else i
def sv_e (G : sv_G) (M : sv_M) (o : Int64) (c j : Nat) : va_E :=
  if c = 0 then .inr (3, [.ref (sv_r G 1 j), .ref (sv_r G 8 j), .ref (sv_r G 13 j), .int (M j 6), .int (M j 7), .int (M j 4), .int (M j 8)])
  else if c = 1 then .inr (0, [.ref (sv_r G 2 j), .ref (sv_r G 3 j), .ref (sv_r G 4 j), .ref (sv_r G 5 j), .ref (sv_r G 6 j), .ref (sv_r G 7 j)])
  else if c = 8 then .inr (2, [.ref (sv_r G 9 j), .ref (sv_r G 10 j), .ref (sv_r G 11 j), .ref (sv_r G 12 j), .int (M j 57), .int (M j 5)])
  else if c = 14 then .inr (5, [.ref (sv_r G 0 0), .ref (sv_r G 0 1), .ref (sv_r G 15 0), .ref (sv_r G 17 0)])
  else if c = 15 then .inr (1, [.ref (sv_r G 16 0), .int (M 8 0), .int (M 8 1)])
  else if c = 16 then .inl (sv_cS G, 6, .inr (.inr (.inr (.inr fun i => some (sv_r G 0 (2 + i))))))
  else if c = 17 then .inr (4, [.ref (sv_r G 18 0), .int (M 9 60)])
  else .inl (if c = 18 then sv_cC G else sv_cI G, sv_n c, .inl fun i => M (sv_q c j) (sv_i c i))
def sv_ok (c j : Nat) : Bool := (decide (c < 14) && decide (j < 8)) || (decide (14 ≤ c) && decide (c < 19) && decide (j = 0))
/-- which cells are int rows -/
def sv_ir (c : Nat) : Bool := (decide (2 ≤ c) && decide (c < 8)) || (decide (9 ≤ c) && decide (c < 14))
def sv_W (G : sv_G) (z : Nat) (M : sv_M) (o : Int64) (H : Heap) : Prop := H.size = z ∧ G.1 + 117 ≤ z ∧ ∀ c j, sv_ok c j = true → va_at (sv_D G) vwCl (sv_r G c j, sv_e G M o c j) H
def sv_w (M : sv_M) (q i : Nat) (v : Int32) : sv_M := fun q' i' => if q' = q ∧ i' = i then v else M q' i'
/-- whose a number is -/
def sv_ow (q i : Nat) : Nat × Nat := if q < 8 then (if i < 4 then (13, q) else if i = 5 ∨ i = 57 then (8, q) else if i < 9 then (0, q) else if i < 57 then (2 + (i - 9) % 6, q) else (9 + (i - 58) % 4, q)) else if q = 8 then (15, 0) else if q = 9 then (if i < 60 then (18, 0) else (17, 0)) else (19, 0)
theorem sv_ad_inj {c j c' j' : Nat} (h : sv_ok c j = true) (h' : sv_ok c' j' = true) (e : sv_ad c j = sv_ad c' j') : c = c' ∧ j = j' := by
  simp only [sv_ok, Bool.or_eq_true, Bool.and_eq_true, decide_eq_true_eq] at h h'
  unfold sv_ad at e
  repeat' split at e
  all_goals omega
theorem sv_ad_lt {c j : Nat} (h : sv_ok c j = true) : sv_ad c j < 117 := by
  simp only [sv_ok, Bool.or_eq_true, Bool.and_eq_true, decide_eq_true_eq] at h
  unfold sv_ad
  repeat' split
  all_goals omega
theorem sv_w_same (M : sv_M) (q i : Nat) (v : Int32) : sv_w M q i v q i = v := if_pos ⟨rfl, rfl⟩
theorem sv_w_ne {M : sv_M} {q i : Nat} {v : Int32} {q' i' : Nat} (h : ¬ (q' = q ∧ i' = i)) : sv_w M q i v q' i' = M q' i' := if_neg h
theorem sv_arrV {cA : ClassId} {n : Nat} {f g : Nat → Value} (h : ∀ i, i < n → f i = g i) : arrV cA n f = arrV cA n g := by
  unfold arrV
  congr 1
  apply congrArg
  funext j
  exact h j.val j.isLt
theorem sv_rows {G : sv_G} {M : sv_M} {o : Int64} {c j : Nat} (h : sv_ir c = true) : sv_e G M o c j = .inl (sv_cI G, sv_n c, .inl fun i => M (sv_q c j) (sv_i c i)) := by
  simp only [sv_ir, Bool.or_eq_true, Bool.and_eq_true, decide_eq_true_eq] at h
  unfold sv_e
  repeat rw [if_neg (by omega)]
theorem sv_at_rows {G : sv_G} {M M' : sv_M} {o o' : Int64} {c j : Nat} {H : Heap} (hc : sv_ir c = true ∨ c = 18) (hk : ∀ i, i < sv_n c → M' (sv_q c j) (sv_i c i) = M (sv_q c j) (sv_i c i)) (h : va_at (sv_D G) vwCl (sv_r G c j, sv_e G M o c j) H) : va_at (sv_D G) vwCl (sv_r G c j, sv_e G M' o' c j) H := by
  have e : ∀ (M : sv_M) (o : Int64), sv_e G M o c j = .inl (if c = 18 then sv_cC G else sv_cI G, sv_n c, .inl fun i => M (sv_q c j) (sv_i c i)) := by
    intro M o
    rcases hc with hc | rfl
    · rw [sv_rows hc, if_neg]
      rintro rfl
      cases hc
    · rfl
  rw [e] at h ⊢
  unfold va_at at h ⊢
  dsimp only at h ⊢
  rw [h, vp_cell_i, vp_cell_i]
  congr 1
  exact sv_arrV fun i hi => by rw [hk i hi]
theorem sv_kinds {c j : Nat} (h : sv_ok c j = true) : (sv_ir c = true ∨ c = 18) ∨ c = 0 ∨ c = 1 ∨ c = 8 ∨ c = 14 ∨ c = 15 ∨ c = 16 ∨ c = 17 := by
  simp only [sv_ok, sv_ir, Bool.or_eq_true, Bool.and_eq_true, decide_eq_true_eq] at h ⊢
  omega
theorem sv_ow_row {c j i : Nat} (h : sv_ok c j = true) (hc : sv_ir c = true ∨ c = 18) (hi : i < sv_n c) : sv_ow (sv_q c j) (sv_i c i) = (c, j) := by
  simp only [sv_ok, sv_ir, Bool.or_eq_true, Bool.and_eq_true, decide_eq_true_eq] at h hc
  unfold sv_n at hi
  by_cases h1 : c < 8
  · have e1 : sv_q c j = j := by unfold sv_q; rw [if_pos (by omega)]
    have e2 : sv_i c i = 6 * i + (7 + c) := by unfold sv_i; rw [if_pos h1]
    rw [if_pos h1] at hi
    rw [e1, e2]
    unfold sv_ow
    rw [if_pos (show j < 8 by omega), if_neg (show ¬ 6 * i + (7 + c) < 4 by omega), if_neg (show ¬ (6 * i + (7 + c) = 5 ∨ 6 * i + (7 + c) = 57) by omega), if_neg (by omega), if_pos (by omega)]
    congr 1
    omega
  · rw [if_neg h1] at hi
    by_cases h2 : c < 13
    · have e1 : sv_q c j = j := by unfold sv_q; rw [if_pos (by omega)]
      have e2 : sv_i c i = 4 * i + (49 + c) := by unfold sv_i; rw [if_neg h1, if_pos h2]
      rw [if_pos h2] at hi
      rw [e1, e2]
      unfold sv_ow
      rw [if_pos (show j < 8 by omega), if_neg (by omega), if_neg (by omega), if_neg (by omega), if_neg (by omega)]
      congr 1
      omega
    · rw [if_neg h2] at hi
      have e2 : sv_i c i = i := by unfold sv_i; rw [if_neg h1, if_neg h2]
      rw [e2]
      by_cases h3 : c = 13
      · have e1 : sv_q c j = j := by unfold sv_q; rw [if_pos (by omega)]
        rw [if_pos h3] at hi
        rw [e1]
        unfold sv_ow
        rw [if_pos (show j < 8 by omega), if_pos (by omega), h3]
      · rw [if_neg h3] at hi
        have hj : j = 0 := by omega
        have h4 : c = 18 := by omega
        have e1 : sv_q c j = 9 := by unfold sv_q; rw [if_neg (by omega), if_pos h4]
        rw [e1, h4, hj]
        unfold sv_ow
        rw [if_neg (by omega), if_neg (by omega), if_pos rfl, if_pos hi]
theorem sv_e0 (G : sv_G) (M : sv_M) (o : Int64) (j : Nat) : sv_e G M o 0 j = .inr (3, [.ref (sv_r G 1 j), .ref (sv_r G 8 j), .ref (sv_r G 13 j), .int (M j 6), .int (M j 7), .int (M j 4), .int (M j 8)]) := rfl
theorem sv_e8 (G : sv_G) (M : sv_M) (o : Int64) (j : Nat) : sv_e G M o 8 j = .inr (2, [.ref (sv_r G 9 j), .ref (sv_r G 10 j), .ref (sv_r G 11 j), .ref (sv_r G 12 j), .int (M j 57), .int (M j 5)]) := rfl
theorem sv_e15 (G : sv_G) (M : sv_M) (o : Int64) (j : Nat) : sv_e G M o 15 j = .inr (1, [.ref (sv_r G 16 0), .int (M 8 0), .int (M 8 1)]) := rfl
theorem sv_e17 (G : sv_G) (M : sv_M) (o : Int64) (j : Nat) : sv_e G M o 17 j = .inr (4, [.ref (sv_r G 18 0), .int (M 9 60)]) := rfl
/-- a cell stays as it is where another's number is written -/
theorem sv_keep {G : sv_G} {M : sv_M} {o : Int64} {q i : Nat} {v : Int32} {c j : Nat} {H : Heap} (hok : sv_ok c j = true) (hne : sv_ow q i ≠ (c, j)) (h : va_at (sv_D G) vwCl (sv_r G c j, sv_e G M o c j) H) : va_at (sv_D G) vwCl (sv_r G c j, sv_e G (sv_w M q i v) o c j) H := by
  have K : ∀ q' i', sv_ow q' i' = (c, j) → sv_w M q i v q' i' = M q' i' := fun q' i' h => if_neg (fun e => hne (by rw [← e.1, ← e.2]; exact h))
  have hj : (c < 14 ∧ j < 8) ∨ (14 ≤ c ∧ c < 19 ∧ j = 0) := by
    simp only [sv_ok, Bool.or_eq_true, Bool.and_eq_true, decide_eq_true_eq] at hok
    omega
  rcases sv_kinds hok with hc | rfl | rfl | rfl | rfl | rfl | rfl | rfl
  · exact sv_at_rows hc (fun i hi => K _ _ (sv_ow_row hok hc hi)) h
  · have h8 : j < 8 := by omega
    rw [sv_e0, K j 6 (by simp [sv_ow, h8]), K j 7 (by simp [sv_ow, h8]), K j 4 (by simp [sv_ow, h8]), K j 8 (by simp [sv_ow, h8])]
    exact h
  · exact h
  · have h8 : j < 8 := by omega
    rw [sv_e8, K j 57 (by simp [sv_ow, h8]), K j 5 (by simp [sv_ow, h8])]
    exact h
  · exact h
  · have h8 : j = 0 := by omega
    subst h8
    rw [sv_e15, K 8 0 rfl, K 8 1 rfl]
    exact h
  · exact h
  · have h8 : j = 0 := by omega
    subst h8
    rw [sv_e17, K 9 60 rfl]
    exact h
/-- a number is written: the cell that it lies in is given anew, the others' addresses hold what they held -/
theorem sv_W.put {G : sv_G} {z : Nat} {M : sv_M} {o : Int64} {H H1 : Heap} {c j q i : Nat} {v : Int32} (h : sv_W G z M o H) (hok : sv_ok c j = true) (how : sv_ow q i = (c, j)) (z1 : H1.size = H.size) (oq : ∀ x : Nat, x ≠ sv_r G c j → H1[x]? = H[x]?) (hat : va_at (sv_D G) vwCl (sv_r G c j, sv_e G (sv_w M q i v) o c j) H1) : sv_W G z (sv_w M q i v) o H1 := by
  refine ⟨z1.trans h.1, h.2.1, fun c' j' hok' => ?_⟩
  by_cases e : (c', j') = (c, j)
  · cases e
    exact hat
  · have hn : sv_r G c' j' ≠ sv_r G c j := fun e2 => e (by
      have := sv_ad_inj hok' hok (Nat.add_left_cancel e2)
      rw [this.1, this.2])
    exact (sv_keep hok' (by rw [how]; exact fun e2 => e e2.symm) (h.2.2 c' j' hok')).kept (oq _ hn)
/-- the heap grows: the world stays -/
theorem sv_W.grown {G : sv_G} {z z' : Nat} {M : sv_M} {o : Int64} {H H1 : Heap} (h : sv_W G z M o H) (z1 : H1.size = z') (hz : z ≤ z') (oq : ∀ x : Nat, x < H.size → H1[x]? = H[x]?) : sv_W G z' M o H1 :=
  ⟨z1, Nat.le_trans h.2.1 hz, fun c j hok => (h.2.2 c j hok).kept (oq _ (h.2.2 c j hok).lt)⟩
