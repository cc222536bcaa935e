/-! the constructors -/
def flF (G : sv_G) (a : Nat) : Nat → va_E
  | 0 => .inr (0, [.ref (a + 1), .ref (a + 2), .ref (a + 3), .ref (a + 4), .ref (a + 5), .ref (a + 6)])
  | 2 => .inl (sv_cI G, 8, .inl fun j => if j < 8 then 1 else 0)
  | _ => .inl (sv_cI G, 8, .inl fun _ => 0)
def ppF (G : sv_G) (a : Nat) : Nat → va_E
  | 0 => .inr (2, [.ref (a + 1), .ref (a + 2), .ref (a + 3), .ref (a + 4), .int 0, .int 0])
  | _ => .inl (sv_cI G, 7, .inl fun _ => 0)
def stF (G : sv_G) (a : Nat) (c : Nat) : va_E :=
  if c = 0 then .inr (3, [.ref (a + 1), .ref (a + 8), .ref (a + 13), .int 0, .int 0, .int 0, .int 0])
  else if c < 8 then flF G (a + 1) (c - 1)
  else if c < 13 then ppF G (a + 8) (c - 8)
  else .inl (sv_cI G, 4, .inl fun j => if j < 4 then sv_F 0 j else 0)
def hiF (G : sv_G) (a : Nat) (c : Nat) : va_E :=
  if c = 0 then .inr (1, [.ref (a + 1), .int 0, .int 0])
  else if c = 1 then .inl (sv_cS G, 6, .inr (.inr (.inr (.inr fun i => if i < 6 then some (a + 2 + 14 * i) else none))))
  else stF G (a + 2 + 14 * ((c - 2) / 14)) ((c - 2) % 14)
def waF (G : sv_G) (a : Nat) : Nat → va_E
  | 0 => .inr (4, [.ref (a + 1), .int 0])
  | _ => .inl (sv_cC G, 60, .inl fun _ => 0)
def slF (G : sv_G) (a : Nat) (c : Nat) : va_E :=
  if c = 0 then .inr (5, [.ref (a + 1), .ref (a + 15), .ref (a + 29), .ref (a + 115)])
  else if c < 15 then stF G (a + 1) (c - 1)
  else if c < 29 then stF G (a + 15) (c - 15)
  else if c < 115 then hiF G (a + 29) (c - 29)
  else waF G (a + 115) (c - 115)
def nwF (n : Nat) (j : Nat) : Int32 := if j = 0 then 20 else if j = 1 then 5 else if j = 3 then 8 else if 10 ≤ j ∧ j < 6 * n + 10 ∧ (j - 10) % 6 = 0 then 1 else 0
theorem sl_row {G : sv_G} {a : Nat} {cA : ClassId} {n : Nat} {f g : Nat → Int32} (h : ∀ i, i < n → f i = g i) {H : Heap} (h2 : va_at (sv_D G) vwCl (a, .inl (cA, n, .inl f)) H) : va_at (sv_D G) vwCl (a, .inl (cA, n, .inl g)) H := by
  unfold va_at at h2 ⊢
  dsimp only at h2 ⊢
  rw [h2, vp_cell_i, vp_cell_i]
  congr 1
  exact sv_arrV fun i hi => by rw [h i hi]
theorem sl_to {G : sv_G} {z a : Nat} {E E1 : sl_E} {e e' : va_E} (h : E1 a = some e') (he : e' = e) (o : ∀ b, b ≠ a → E1 b = E b) : ∀ H, sl_W G z E1 H → sl_W G z (sl_u E a e) H := sl_sub fun b x hb => by
  by_cases hba : b = a
  · subst hba
    rw [sl_us] at hb
    rw [h, he]
    exact hb
  · rw [sl_un b hba] at hb
    rw [o b hba]
    exact hb
set_option maxHeartbeats 4000000 in
set_option maxRecDepth 100000 in
theorem met_copyRow0 (l : Launch) (G : sv_G) (z a : Nat) (E : sl_E) (hA : G.1 ≤ a) (hz : a < z) (hE : E a = some (.inl (sv_cI G, 4, .inl fun _ => 0))) : sv_Met l G yX5_copyRow cX5_copyRow 3 none 0 [.ref G.2.2.2.1, .ref a] (sl_W G z E) none (sl_W G z (sl_u E a (.inl (sv_cI G, 4, .inl fun j => if j < 4 then sv_F 0 j else 0)))) := by
  refine sv_ofW (by decide) kw_107 (Nat.le_of_ble_eq_true rfl) ?_
  intro p e s mth args below meth c hr C _
  refine sv_sub (lv' := [(0, .ref G.2.2.2.1), (1, .ref a)]) rfl ?_
  refine sv_iconst (v := nI 0) C dX5_copyRow_0 (by decide) ?_
  refine sv_istore_n (i := 2) C [(0, .ref G.2.2.2.1), (1, .ref a), (2, .int (nI 0))] dX5_copyRow_1 rfl (by decide) rfl ?_
  refine sv_wd (Wd' := sl_W G z (sl_u E a (.inl (sv_cI G, 4, .inl fun j => if j < 0 then sv_F 0 j else 0)))) (sl_to hE (by congr 4) (fun _ _ => rfl)) ?_
  refine sv_loop (N := 4) (I := fun _ => True) (Wf := fun i => sl_W G z (sl_u E a (.inl (sv_cI G, 4, .inl fun j => if j < i then sv_F 0 j else 0)))) (Lf := fun i => [(0, .ref G.2.2.2.1), (1, .ref a), (2, .int (nI i))]) 0 (Nat.zero_le _) trivial (fun i hi0 hi hI ih => ?_)
  refine sv_iload_n (i := 2) (x := nI i) C dX5_copyRow_2 rfl rfl ?_
  refine sv_aload_n (i := 0) (x := G.2.2.2.1) C dX5_copyRow_3 rfl rfl ?_
  refine sv_salen0 C dX5_copyRow_4 ?_
  refine sv_icmp_geN C 26 dX5_copyRow_5 (by decide) (by omega) (by omega) (fun q5 => ?_) (fun q5 => ?_)
  · exact sv_vret C hr dX5_copyRow_26 (Nat.le_of_ble_eq_true rfl) (Nat.le_of_ble_eq_true rfl) (fun H h => by rw [show i = 4 by omega] at h; exact h)
  · refine sv_iload_n (i := 2) (x := nI i) C dX5_copyRow_8 rfl rfl ?_
    refine sv_aload_n (i := 1) (x := a) C dX5_copyRow_9 rfl rfl ?_
    refine sl_alen (t0 := 0) (v := nI 4) C sl_us rfl rfl dX5_copyRow_10 ?_
    refine sv_icmp_geN C 26 dX5_copyRow_11 (by decide) (by omega) (by omega) (fun q11 => ?_) (fun q11 => ?_)
    · exact absurd q11 (by omega)
    · refine sv_aload_n (i := 1) (x := a) C dX5_copyRow_14 rfl rfl ?_
      refine sv_iload_n (i := 2) (x := nI i) C dX5_copyRow_15 rfl rfl ?_
      refine sv_aload_n (i := 0) (x := G.2.2.2.1) C dX5_copyRow_16 rfl rfl ?_
      refine sv_iload_n (i := 2) (x := nI i) C dX5_copyRow_17 rfl rfl ?_
      refine sv_sald0 C (vp_in_nI (by omega) (by decide)) dX5_copyRow_18 ?_
      refine sl_iast C sl_us hA hz (vp_in_nI (by omega) (by decide)) dX5_copyRow_19 (fun E1 e1 o1 => ?_)
      refine sv_iinc (i := 2) (x := nI i) C (nI (i + 1)) [(0, .ref G.2.2.2.1), (1, .ref a), (2, .int (nI (i + 1)))] dX5_copyRow_20 rfl (sv_incN i 1) (by decide) rfl ?_
      refine sv_goto C 2 dX5_copyRow_23 (by decide) ?_
      refine sv_wd (sl_to e1 ?_ (fun b hb => (o1 b hb).trans (sl_un b hb))) (ih (by omega) trivial)
      congr 4
      funext j
      rw [nI_clamp (by omega)]
      unfold upd
      by_cases h1 : j = i
      · rw [if_pos h1, if_pos (by omega), h1]
      · by_cases h2 : j < i
        · rw [if_neg h1]
          dsimp only
          rw [if_pos h2, if_pos (by omega)]
        · rw [if_neg h1]
          dsimp only
          rw [if_neg h2, if_neg (by omega)]
set_option maxHeartbeats 4000000 in
set_option maxRecDepth 100000 in
theorem met_X0_init (l : Launch) (G : sv_G) (a : Nat) (hA : G.1 ≤ a) (E : sl_E) (hE : E a = some (.inr (0, [.null, .null, .null, .null, .null, .null]))) (hN : ∀ b, a + 1 ≤ b → E b = none) : Met l yX0_init [.code yX0_init cX0_init 2 none] (sv_rm 1 6 48) (sv_Pc G (sl_W G (a + 1) E) [.ref a]) (sv_Qc G (sl_W G (a + 7) (sl_on E a 7 (flF G a))) none) 6 48 (sv_A G) := by
  refine sv_ofW (by decide) kw_39 (Nat.le_of_ble_eq_true rfl) ?_
  intro p e s mth args below meth c hr C hin
  refine sv_sub (lv' := [(0, .ref a)]) rfl ?_
  have hz := hN
  have ok : ∀ b, b < a → E b = E b := fun _ _ => rfl
  have f0 : E a = some (.inr (0, [.null, .null, .null, .null, .null, .null])) := hE
  refine sv_aload_n (i := 0) (x := a) C dX0_init_0 rfl rfl ?_
  refine sv_objInit C kw_40 (Nat.le_of_ble_eq_true rfl) (Nat.le_of_ble_eq_true rfl) dX0_init_1 ?_
  refine sv_aload_n (i := 0) (x := a) C dX0_init_4 rfl rfl ?_
  refine sv_bipush (v := nI 8) C dX0_init_5 (by decide) ?_
  refine sl_newa C (atype := .int) (ty := .int) (i := nI 8) (N := 8) (t0 := 0) (cA := sv_cI G) (a0 := (8, .inl fun _ => 0)) rfl kw_71 rfl (fun _ => rfl) rfl (by decide) (by decide) (by decide) (Nat.le_of_ble_eq_true rfl) (Nat.le_of_ble_eq_true rfl) dX0_init_7 (fun E1 e1 o1 => ?_)
  have f0 : E1 a = some (.inr (0, [.null, .null, .null, .null, .null, .null])) := (o1 _ (by omega)).trans f0
  have ok : ∀ b, b < a → E1 b = E b := fun b hb => (o1 b (by omega)).trans (ok b hb)
  have hN : ∀ b, a + 2 ≤ b → E1 b = none := fun b hb => (o1 b (by omega)).trans (hN b (by omega))
  have r1 : E1 (a + 1) = some (.inl (sv_cI G, 8, .inl fun _ => 0)) := e1
  refine sv_wd (Wd' := sl_W G (a + 2) E1) (fun _ h => h) ?_
  refine sl_putF C (f := 0) (v := .ref (a + 1)) sv_cl0 f0 (by omega) (by omega) (by decide) kw_41 rfl (hin rfl) rfl (tyX0_ok 0 (by decide)) rfl rfl rfl dX0_init_9 (fun E2 e2 o2 => ?_)
  have f0 : E2 a = some (.inr (0, [.ref (a + 1), .null, .null, .null, .null, .null])) := e2
  have r1 : E2 (a + 1) = some (.inl (sv_cI G, 8, .inl fun _ => 0)) := (o2 _ (by omega)).trans r1
  have ok : ∀ b, b < a → E2 b = E b := fun b hb => (o2 b (by omega)).trans (ok b hb)
  have hN : ∀ b, a + 2 ≤ b → E2 b = none := fun b hb => (o2 b (by omega)).trans (hN b (by omega))
  refine sv_aload_n (i := 0) (x := a) C dX0_init_12 rfl rfl ?_
  refine sv_bipush (v := nI 8) C dX0_init_13 (by decide) ?_
  refine sl_newa C (atype := .int) (ty := .int) (i := nI 8) (N := 8) (t0 := 0) (cA := sv_cI G) (a0 := (8, .inl fun _ => 0)) rfl kw_71 rfl (fun _ => rfl) rfl (by decide) (by decide) (by decide) (Nat.le_of_ble_eq_true rfl) (Nat.le_of_ble_eq_true rfl) dX0_init_15 (fun E3 e3 o3 => ?_)
  have f0 : E3 a = some (.inr (0, [.ref (a + 1), .null, .null, .null, .null, .null])) := (o3 _ (by omega)).trans f0
  have r1 : E3 (a + 1) = some (.inl (sv_cI G, 8, .inl fun _ => 0)) := (o3 _ (by omega)).trans r1
  have ok : ∀ b, b < a → E3 b = E b := fun b hb => (o3 b (by omega)).trans (ok b hb)
  have hN : ∀ b, a + 3 ≤ b → E3 b = none := fun b hb => (o3 b (by omega)).trans (hN b (by omega))
  have r2 : E3 (a + 2) = some (.inl (sv_cI G, 8, .inl fun _ => 0)) := e3
  refine sv_wd (Wd' := sl_W G (a + 3) E3) (fun _ h => h) ?_
  refine sl_putF C (f := 1) (v := .ref (a + 2)) sv_cl0 f0 (by omega) (by omega) (by decide) kw_44 rfl (hin rfl) rfl (tyX0_ok 1 (by decide)) rfl rfl rfl dX0_init_17 (fun E4 e4 o4 => ?_)
  have f0 : E4 a = some (.inr (0, [.ref (a + 1), .ref (a + 2), .null, .null, .null, .null])) := e4
  have r1 : E4 (a + 1) = some (.inl (sv_cI G, 8, .inl fun _ => 0)) := (o4 _ (by omega)).trans r1
  have r2 : E4 (a + 2) = some (.inl (sv_cI G, 8, .inl fun _ => 0)) := (o4 _ (by omega)).trans r2
  have ok : ∀ b, b < a → E4 b = E b := fun b hb => (o4 b (by omega)).trans (ok b hb)
  have hN : ∀ b, a + 3 ≤ b → E4 b = none := fun b hb => (o4 b (by omega)).trans (hN b (by omega))
  refine sv_aload_n (i := 0) (x := a) C dX0_init_20 rfl rfl ?_
  refine sv_bipush (v := nI 8) C dX0_init_21 (by decide) ?_
  refine sl_newa C (atype := .int) (ty := .int) (i := nI 8) (N := 8) (t0 := 0) (cA := sv_cI G) (a0 := (8, .inl fun _ => 0)) rfl kw_71 rfl (fun _ => rfl) rfl (by decide) (by decide) (by decide) (Nat.le_of_ble_eq_true rfl) (Nat.le_of_ble_eq_true rfl) dX0_init_23 (fun E5 e5 o5 => ?_)
  have f0 : E5 a = some (.inr (0, [.ref (a + 1), .ref (a + 2), .null, .null, .null, .null])) := (o5 _ (by omega)).trans f0
  have r1 : E5 (a + 1) = some (.inl (sv_cI G, 8, .inl fun _ => 0)) := (o5 _ (by omega)).trans r1
  have r2 : E5 (a + 2) = some (.inl (sv_cI G, 8, .inl fun _ => 0)) := (o5 _ (by omega)).trans r2
  have ok : ∀ b, b < a → E5 b = E b := fun b hb => (o5 b (by omega)).trans (ok b hb)
  have hN : ∀ b, a + 4 ≤ b → E5 b = none := fun b hb => (o5 b (by omega)).trans (hN b (by omega))
  have r3 : E5 (a + 3) = some (.inl (sv_cI G, 8, .inl fun _ => 0)) := e5
  refine sv_wd (Wd' := sl_W G (a + 4) E5) (fun _ h => h) ?_
  refine sl_putF C (f := 2) (v := .ref (a + 3)) sv_cl0 f0 (by omega) (by omega) (by decide) kw_47 rfl (hin rfl) rfl (tyX0_ok 2 (by decide)) rfl rfl rfl dX0_init_25 (fun E6 e6 o6 => ?_)
  have f0 : E6 a = some (.inr (0, [.ref (a + 1), .ref (a + 2), .ref (a + 3), .null, .null, .null])) := e6
  have r1 : E6 (a + 1) = some (.inl (sv_cI G, 8, .inl fun _ => 0)) := (o6 _ (by omega)).trans r1
  have r2 : E6 (a + 2) = some (.inl (sv_cI G, 8, .inl fun _ => 0)) := (o6 _ (by omega)).trans r2
  have r3 : E6 (a + 3) = some (.inl (sv_cI G, 8, .inl fun _ => 0)) := (o6 _ (by omega)).trans r3
  have ok : ∀ b, b < a → E6 b = E b := fun b hb => (o6 b (by omega)).trans (ok b hb)
  have hN : ∀ b, a + 4 ≤ b → E6 b = none := fun b hb => (o6 b (by omega)).trans (hN b (by omega))
  refine sv_aload_n (i := 0) (x := a) C dX0_init_28 rfl rfl ?_
  refine sv_bipush (v := nI 8) C dX0_init_29 (by decide) ?_
  refine sl_newa C (atype := .int) (ty := .int) (i := nI 8) (N := 8) (t0 := 0) (cA := sv_cI G) (a0 := (8, .inl fun _ => 0)) rfl kw_71 rfl (fun _ => rfl) rfl (by decide) (by decide) (by decide) (Nat.le_of_ble_eq_true rfl) (Nat.le_of_ble_eq_true rfl) dX0_init_31 (fun E7 e7 o7 => ?_)
  have f0 : E7 a = some (.inr (0, [.ref (a + 1), .ref (a + 2), .ref (a + 3), .null, .null, .null])) := (o7 _ (by omega)).trans f0
  have r1 : E7 (a + 1) = some (.inl (sv_cI G, 8, .inl fun _ => 0)) := (o7 _ (by omega)).trans r1
  have r2 : E7 (a + 2) = some (.inl (sv_cI G, 8, .inl fun _ => 0)) := (o7 _ (by omega)).trans r2
  have r3 : E7 (a + 3) = some (.inl (sv_cI G, 8, .inl fun _ => 0)) := (o7 _ (by omega)).trans r3
  have ok : ∀ b, b < a → E7 b = E b := fun b hb => (o7 b (by omega)).trans (ok b hb)
  have hN : ∀ b, a + 5 ≤ b → E7 b = none := fun b hb => (o7 b (by omega)).trans (hN b (by omega))
  have r4 : E7 (a + 4) = some (.inl (sv_cI G, 8, .inl fun _ => 0)) := e7
  refine sv_wd (Wd' := sl_W G (a + 5) E7) (fun _ h => h) ?_
  refine sl_putF C (f := 3) (v := .ref (a + 4)) sv_cl0 f0 (by omega) (by omega) (by decide) kw_50 rfl (hin rfl) rfl (tyX0_ok 3 (by decide)) rfl rfl rfl dX0_init_33 (fun E8 e8 o8 => ?_)
  have f0 : E8 a = some (.inr (0, [.ref (a + 1), .ref (a + 2), .ref (a + 3), .ref (a + 4), .null, .null])) := e8
  have r1 : E8 (a + 1) = some (.inl (sv_cI G, 8, .inl fun _ => 0)) := (o8 _ (by omega)).trans r1
  have r2 : E8 (a + 2) = some (.inl (sv_cI G, 8, .inl fun _ => 0)) := (o8 _ (by omega)).trans r2
  have r3 : E8 (a + 3) = some (.inl (sv_cI G, 8, .inl fun _ => 0)) := (o8 _ (by omega)).trans r3
  have r4 : E8 (a + 4) = some (.inl (sv_cI G, 8, .inl fun _ => 0)) := (o8 _ (by omega)).trans r4
  have ok : ∀ b, b < a → E8 b = E b := fun b hb => (o8 b (by omega)).trans (ok b hb)
  have hN : ∀ b, a + 5 ≤ b → E8 b = none := fun b hb => (o8 b (by omega)).trans (hN b (by omega))
  refine sv_aload_n (i := 0) (x := a) C dX0_init_36 rfl rfl ?_
  refine sv_bipush (v := nI 8) C dX0_init_37 (by decide) ?_
  refine sl_newa C (atype := .int) (ty := .int) (i := nI 8) (N := 8) (t0 := 0) (cA := sv_cI G) (a0 := (8, .inl fun _ => 0)) rfl kw_71 rfl (fun _ => rfl) rfl (by decide) (by decide) (by decide) (Nat.le_of_ble_eq_true rfl) (Nat.le_of_ble_eq_true rfl) dX0_init_39 (fun E9 e9 o9 => ?_)
  have f0 : E9 a = some (.inr (0, [.ref (a + 1), .ref (a + 2), .ref (a + 3), .ref (a + 4), .null, .null])) := (o9 _ (by omega)).trans f0
  have r1 : E9 (a + 1) = some (.inl (sv_cI G, 8, .inl fun _ => 0)) := (o9 _ (by omega)).trans r1
  have r2 : E9 (a + 2) = some (.inl (sv_cI G, 8, .inl fun _ => 0)) := (o9 _ (by omega)).trans r2
  have r3 : E9 (a + 3) = some (.inl (sv_cI G, 8, .inl fun _ => 0)) := (o9 _ (by omega)).trans r3
  have r4 : E9 (a + 4) = some (.inl (sv_cI G, 8, .inl fun _ => 0)) := (o9 _ (by omega)).trans r4
  have ok : ∀ b, b < a → E9 b = E b := fun b hb => (o9 b (by omega)).trans (ok b hb)
  have hN : ∀ b, a + 6 ≤ b → E9 b = none := fun b hb => (o9 b (by omega)).trans (hN b (by omega))
  have r5 : E9 (a + 5) = some (.inl (sv_cI G, 8, .inl fun _ => 0)) := e9
  refine sv_wd (Wd' := sl_W G (a + 6) E9) (fun _ h => h) ?_
  refine sl_putF C (f := 4) (v := .ref (a + 5)) sv_cl0 f0 (by omega) (by omega) (by decide) kw_53 rfl (hin rfl) rfl (tyX0_ok 4 (by decide)) rfl rfl rfl dX0_init_41 (fun E10 e10 o10 => ?_)
  have f0 : E10 a = some (.inr (0, [.ref (a + 1), .ref (a + 2), .ref (a + 3), .ref (a + 4), .ref (a + 5), .null])) := e10
  have r1 : E10 (a + 1) = some (.inl (sv_cI G, 8, .inl fun _ => 0)) := (o10 _ (by omega)).trans r1
  have r2 : E10 (a + 2) = some (.inl (sv_cI G, 8, .inl fun _ => 0)) := (o10 _ (by omega)).trans r2
  have r3 : E10 (a + 3) = some (.inl (sv_cI G, 8, .inl fun _ => 0)) := (o10 _ (by omega)).trans r3
  have r4 : E10 (a + 4) = some (.inl (sv_cI G, 8, .inl fun _ => 0)) := (o10 _ (by omega)).trans r4
  have r5 : E10 (a + 5) = some (.inl (sv_cI G, 8, .inl fun _ => 0)) := (o10 _ (by omega)).trans r5
  have ok : ∀ b, b < a → E10 b = E b := fun b hb => (o10 b (by omega)).trans (ok b hb)
  have hN : ∀ b, a + 6 ≤ b → E10 b = none := fun b hb => (o10 b (by omega)).trans (hN b (by omega))
  refine sv_aload_n (i := 0) (x := a) C dX0_init_44 rfl rfl ?_
  refine sv_bipush (v := nI 8) C dX0_init_45 (by decide) ?_
  refine sl_newa C (atype := .int) (ty := .int) (i := nI 8) (N := 8) (t0 := 0) (cA := sv_cI G) (a0 := (8, .inl fun _ => 0)) rfl kw_71 rfl (fun _ => rfl) rfl (by decide) (by decide) (by decide) (Nat.le_of_ble_eq_true rfl) (Nat.le_of_ble_eq_true rfl) dX0_init_47 (fun E11 e11 o11 => ?_)
  have f0 : E11 a = some (.inr (0, [.ref (a + 1), .ref (a + 2), .ref (a + 3), .ref (a + 4), .ref (a + 5), .null])) := (o11 _ (by omega)).trans f0
  have r1 : E11 (a + 1) = some (.inl (sv_cI G, 8, .inl fun _ => 0)) := (o11 _ (by omega)).trans r1
  have r2 : E11 (a + 2) = some (.inl (sv_cI G, 8, .inl fun _ => 0)) := (o11 _ (by omega)).trans r2
  have r3 : E11 (a + 3) = some (.inl (sv_cI G, 8, .inl fun _ => 0)) := (o11 _ (by omega)).trans r3
  have r4 : E11 (a + 4) = some (.inl (sv_cI G, 8, .inl fun _ => 0)) := (o11 _ (by omega)).trans r4
  have r5 : E11 (a + 5) = some (.inl (sv_cI G, 8, .inl fun _ => 0)) := (o11 _ (by omega)).trans r5
  have ok : ∀ b, b < a → E11 b = E b := fun b hb => (o11 b (by omega)).trans (ok b hb)
  have hN : ∀ b, a + 7 ≤ b → E11 b = none := fun b hb => (o11 b (by omega)).trans (hN b (by omega))
  have r6 : E11 (a + 6) = some (.inl (sv_cI G, 8, .inl fun _ => 0)) := e11
  refine sv_wd (Wd' := sl_W G (a + 7) E11) (fun _ h => h) ?_
  refine sl_putF C (f := 5) (v := .ref (a + 6)) sv_cl0 f0 (by omega) (by omega) (by decide) kw_56 rfl (hin rfl) rfl (tyX0_ok 5 (by decide)) rfl rfl rfl dX0_init_49 (fun E12 e12 o12 => ?_)
  have f0 : E12 a = some (.inr (0, [.ref (a + 1), .ref (a + 2), .ref (a + 3), .ref (a + 4), .ref (a + 5), .ref (a + 6)])) := e12
  have r1 : E12 (a + 1) = some (.inl (sv_cI G, 8, .inl fun _ => 0)) := (o12 _ (by omega)).trans r1
  have r2 : E12 (a + 2) = some (.inl (sv_cI G, 8, .inl fun _ => 0)) := (o12 _ (by omega)).trans r2
  have r3 : E12 (a + 3) = some (.inl (sv_cI G, 8, .inl fun _ => 0)) := (o12 _ (by omega)).trans r3
  have r4 : E12 (a + 4) = some (.inl (sv_cI G, 8, .inl fun _ => 0)) := (o12 _ (by omega)).trans r4
  have r5 : E12 (a + 5) = some (.inl (sv_cI G, 8, .inl fun _ => 0)) := (o12 _ (by omega)).trans r5
  have r6 : E12 (a + 6) = some (.inl (sv_cI G, 8, .inl fun _ => 0)) := (o12 _ (by omega)).trans r6
  have ok : ∀ b, b < a → E12 b = E b := fun b hb => (o12 b (by omega)).trans (ok b hb)
  have hN : ∀ b, a + 7 ≤ b → E12 b = none := fun b hb => (o12 b (by omega)).trans (hN b (by omega))
  refine sv_iconst (v := nI 0) C dX0_init_52 (by decide) ?_
  refine sv_istore_n (i := 1) C [(0, .ref a), (1, .int (nI 0))] dX0_init_53 rfl (by decide) rfl ?_
  refine sv_wd (Wd' := sl_W G (a + 7) (sl_u E12 (a + 2) (.inl (sv_cI G, 8, .inl fun j => if j < 0 then 1 else 0)))) (sl_to r2 (by congr 4) (fun _ _ => rfl)) ?_
  refine sv_loop (N := 8) (I := fun _ => True) (Wf := fun i => sl_W G (a + 7) (sl_u E12 (a + 2) (.inl (sv_cI G, 8, .inl fun j => if j < i then 1 else 0)))) (Lf := fun i => [(0, .ref a), (1, .int (nI i))]) 0 (Nat.zero_le _) trivial (fun i hi0 hi hI ih => ?_)
  have f9 := (sl_un (E := E12) (a := a + 2) (e := .inl (sv_cI G, 8, .inl fun j => if j < i then 1 else 0)) a (by omega)).trans f0
  refine sv_iload_n (i := 1) (x := nI i) C dX0_init_54 rfl rfl ?_
  refine sv_aload_n (i := 0) (x := a) C dX0_init_55 rfl rfl ?_
  refine sl_get C (f := 1) (v := .ref (a + 2)) sv_cl0 f9 (by decide) kw_44 rfl dX0_init_56 ?_
  refine sl_alen (t0 := 0) (v := nI 8) C sl_us rfl rfl dX0_init_59 ?_
  refine sv_icmp_geN C 76 dX0_init_60 (by decide) (by omega) (by omega) (fun q60 => ?_) (fun q60 => ?_)
  · refine sv_vret C hr dX0_init_76 (Nat.le_of_ble_eq_true rfl) (Nat.le_of_ble_eq_true rfl) (sl_oneq (fun c hc => ?_) (fun b hb => (sl_un b (by omega)).trans (ok b hb)) (fun b hb => hz b (by omega)))
    rw [show i = 8 by omega]
    rcases (show c = 0 ∨ c = 1 ∨ c = 2 ∨ c = 3 ∨ c = 4 ∨ c = 5 ∨ c = 6 by omega) with rfl | rfl | rfl | rfl | rfl | rfl | rfl
    · exact (sl_un _ (by omega)).trans f0
    · exact (sl_un _ (by omega)).trans r1
    · exact sl_us
    · exact (sl_un _ (by omega)).trans r3
    · exact (sl_un _ (by omega)).trans r4
    · exact (sl_un _ (by omega)).trans r5
    · exact (sl_un _ (by omega)).trans r6
  · refine sv_aload_n (i := 0) (x := a) C dX0_init_63 rfl rfl ?_
    refine sl_get C (f := 1) (v := .ref (a + 2)) sv_cl0 f9 (by decide) kw_44 rfl dX0_init_64 ?_
    refine sv_iload_n (i := 1) (x := nI i) C dX0_init_67 rfl rfl ?_
    refine sv_iconst (v := nI 1) C dX0_init_68 (by decide) ?_
    refine sl_iast C sl_us (by omega) (by omega) (vp_in_nI (by omega) (by decide)) dX0_init_69 (fun E1 e1 o1 => ?_)
    refine sv_iinc (i := 1) (x := nI i) C (nI (i + 1)) [(0, .ref a), (1, .int (nI (i + 1)))] dX0_init_70 rfl (sv_incN i 1) (by decide) rfl ?_
    refine sv_goto C 54 dX0_init_73 (by decide) ?_
    refine sv_wd (sl_to e1 ?_ (fun b hb => (o1 b hb).trans (sl_un b hb))) (ih (by omega) trivial)
    congr 4
    funext j
    rw [nI_clamp (by omega)]
    unfold upd
    by_cases h1 : j = i
    · rw [if_pos h1, if_pos (by omega)]
      rfl
    · by_cases h2 : j < i
      · rw [if_neg h1]
        dsimp only
        rw [if_pos h2, if_pos (by omega)]
      · rw [if_neg h1]
        dsimp only
        rw [if_neg h2, if_neg (by omega)]
set_option maxHeartbeats 4000000 in
set_option maxRecDepth 100000 in
theorem met_X2_init (l : Launch) (G : sv_G) (a : Nat) (hA : G.1 ≤ a) (E : sl_E) (hE : E a = some (.inr (2, [.null, .null, .null, .null, .int 0, .int 0]))) (hN : ∀ b, a + 1 ≤ b → E b = none) : Met l yX2_init [.code yX2_init cX2_init 1 none] (sv_rm 1 4 28) (sv_Pc G (sl_W G (a + 1) E) [.ref a]) (sv_Qc G (sl_W G (a + 5) (sl_on E a 5 (ppF G a))) none) 4 28 (sv_A G) := by
  refine sv_ofW (by decide) kw_76 (Nat.le_of_ble_eq_true rfl) ?_
  intro p e s mth args below meth c hr C hin
  refine sv_sub (lv' := [(0, .ref a)]) rfl ?_
  have hz := hN
  have ok : ∀ b, b < a → E b = E b := fun _ _ => rfl
  have f0 : E a = some (.inr (2, [.null, .null, .null, .null, .int 0, .int 0])) := hE
  refine sv_aload_n (i := 0) (x := a) C dX2_init_0 rfl rfl ?_
  refine sv_objInit C kw_77 (Nat.le_of_ble_eq_true rfl) (Nat.le_of_ble_eq_true rfl) dX2_init_1 ?_
  refine sv_aload_n (i := 0) (x := a) C dX2_init_4 rfl rfl ?_
  refine sv_bipush (v := nI 7) C dX2_init_5 (by decide) ?_
  refine sl_newa C (atype := .int) (ty := .int) (i := nI 7) (N := 7) (t0 := 0) (cA := sv_cI G) (a0 := (7, .inl fun _ => 0)) rfl kw_71 rfl (fun _ => rfl) rfl (by decide) (by decide) (by decide) (Nat.le_of_ble_eq_true rfl) (Nat.le_of_ble_eq_true rfl) dX2_init_7 (fun E1 e1 o1 => ?_)
  have f0 : E1 a = some (.inr (2, [.null, .null, .null, .null, .int 0, .int 0])) := (o1 _ (by omega)).trans f0
  have ok : ∀ b, b < a → E1 b = E b := fun b hb => (o1 b (by omega)).trans (ok b hb)
  have hN : ∀ b, a + 2 ≤ b → E1 b = none := fun b hb => (o1 b (by omega)).trans (hN b (by omega))
  have r1 : E1 (a + 1) = some (.inl (sv_cI G, 7, .inl fun _ => 0)) := e1
  refine sv_wd (Wd' := sl_W G (a + 2) E1) (fun _ h => h) ?_
  refine sl_putF C (f := 0) (v := .ref (a + 1)) sv_cl2 f0 (by omega) (by omega) (by decide) kw_78 rfl (hin rfl) rfl (tyX2_ok 0 (by decide)) rfl rfl rfl dX2_init_9 (fun E2 e2 o2 => ?_)
  have f0 : E2 a = some (.inr (2, [.ref (a + 1), .null, .null, .null, .int 0, .int 0])) := e2
  have r1 : E2 (a + 1) = some (.inl (sv_cI G, 7, .inl fun _ => 0)) := (o2 _ (by omega)).trans r1
  have ok : ∀ b, b < a → E2 b = E b := fun b hb => (o2 b (by omega)).trans (ok b hb)
  have hN : ∀ b, a + 2 ≤ b → E2 b = none := fun b hb => (o2 b (by omega)).trans (hN b (by omega))
  refine sv_aload_n (i := 0) (x := a) C dX2_init_12 rfl rfl ?_
  refine sv_bipush (v := nI 7) C dX2_init_13 (by decide) ?_
  refine sl_newa C (atype := .int) (ty := .int) (i := nI 7) (N := 7) (t0 := 0) (cA := sv_cI G) (a0 := (7, .inl fun _ => 0)) rfl kw_71 rfl (fun _ => rfl) rfl (by decide) (by decide) (by decide) (Nat.le_of_ble_eq_true rfl) (Nat.le_of_ble_eq_true rfl) dX2_init_15 (fun E3 e3 o3 => ?_)
  have f0 : E3 a = some (.inr (2, [.ref (a + 1), .null, .null, .null, .int 0, .int 0])) := (o3 _ (by omega)).trans f0
  have r1 : E3 (a + 1) = some (.inl (sv_cI G, 7, .inl fun _ => 0)) := (o3 _ (by omega)).trans r1
  have ok : ∀ b, b < a → E3 b = E b := fun b hb => (o3 b (by omega)).trans (ok b hb)
  have hN : ∀ b, a + 3 ≤ b → E3 b = none := fun b hb => (o3 b (by omega)).trans (hN b (by omega))
  have r2 : E3 (a + 2) = some (.inl (sv_cI G, 7, .inl fun _ => 0)) := e3
  refine sv_wd (Wd' := sl_W G (a + 3) E3) (fun _ h => h) ?_
  refine sl_putF C (f := 1) (v := .ref (a + 2)) sv_cl2 f0 (by omega) (by omega) (by decide) kw_79 rfl (hin rfl) rfl (tyX2_ok 1 (by decide)) rfl rfl rfl dX2_init_17 (fun E4 e4 o4 => ?_)
  have f0 : E4 a = some (.inr (2, [.ref (a + 1), .ref (a + 2), .null, .null, .int 0, .int 0])) := e4
  have r1 : E4 (a + 1) = some (.inl (sv_cI G, 7, .inl fun _ => 0)) := (o4 _ (by omega)).trans r1
  have r2 : E4 (a + 2) = some (.inl (sv_cI G, 7, .inl fun _ => 0)) := (o4 _ (by omega)).trans r2
  have ok : ∀ b, b < a → E4 b = E b := fun b hb => (o4 b (by omega)).trans (ok b hb)
  have hN : ∀ b, a + 3 ≤ b → E4 b = none := fun b hb => (o4 b (by omega)).trans (hN b (by omega))
  refine sv_aload_n (i := 0) (x := a) C dX2_init_20 rfl rfl ?_
  refine sv_bipush (v := nI 7) C dX2_init_21 (by decide) ?_
  refine sl_newa C (atype := .int) (ty := .int) (i := nI 7) (N := 7) (t0 := 0) (cA := sv_cI G) (a0 := (7, .inl fun _ => 0)) rfl kw_71 rfl (fun _ => rfl) rfl (by decide) (by decide) (by decide) (Nat.le_of_ble_eq_true rfl) (Nat.le_of_ble_eq_true rfl) dX2_init_23 (fun E5 e5 o5 => ?_)
  have f0 : E5 a = some (.inr (2, [.ref (a + 1), .ref (a + 2), .null, .null, .int 0, .int 0])) := (o5 _ (by omega)).trans f0
  have r1 : E5 (a + 1) = some (.inl (sv_cI G, 7, .inl fun _ => 0)) := (o5 _ (by omega)).trans r1
  have r2 : E5 (a + 2) = some (.inl (sv_cI G, 7, .inl fun _ => 0)) := (o5 _ (by omega)).trans r2
  have ok : ∀ b, b < a → E5 b = E b := fun b hb => (o5 b (by omega)).trans (ok b hb)
  have hN : ∀ b, a + 4 ≤ b → E5 b = none := fun b hb => (o5 b (by omega)).trans (hN b (by omega))
  have r3 : E5 (a + 3) = some (.inl (sv_cI G, 7, .inl fun _ => 0)) := e5
  refine sv_wd (Wd' := sl_W G (a + 4) E5) (fun _ h => h) ?_
  refine sl_putF C (f := 2) (v := .ref (a + 3)) sv_cl2 f0 (by omega) (by omega) (by decide) kw_82 rfl (hin rfl) rfl (tyX2_ok 2 (by decide)) rfl rfl rfl dX2_init_25 (fun E6 e6 o6 => ?_)
  have f0 : E6 a = some (.inr (2, [.ref (a + 1), .ref (a + 2), .ref (a + 3), .null, .int 0, .int 0])) := e6
  have r1 : E6 (a + 1) = some (.inl (sv_cI G, 7, .inl fun _ => 0)) := (o6 _ (by omega)).trans r1
  have r2 : E6 (a + 2) = some (.inl (sv_cI G, 7, .inl fun _ => 0)) := (o6 _ (by omega)).trans r2
  have r3 : E6 (a + 3) = some (.inl (sv_cI G, 7, .inl fun _ => 0)) := (o6 _ (by omega)).trans r3
  have ok : ∀ b, b < a → E6 b = E b := fun b hb => (o6 b (by omega)).trans (ok b hb)
  have hN : ∀ b, a + 4 ≤ b → E6 b = none := fun b hb => (o6 b (by omega)).trans (hN b (by omega))
  refine sv_aload_n (i := 0) (x := a) C dX2_init_28 rfl rfl ?_
  refine sv_bipush (v := nI 7) C dX2_init_29 (by decide) ?_
  refine sl_newa C (atype := .int) (ty := .int) (i := nI 7) (N := 7) (t0 := 0) (cA := sv_cI G) (a0 := (7, .inl fun _ => 0)) rfl kw_71 rfl (fun _ => rfl) rfl (by decide) (by decide) (by decide) (Nat.le_of_ble_eq_true rfl) (Nat.le_of_ble_eq_true rfl) dX2_init_31 (fun E7 e7 o7 => ?_)
  have f0 : E7 a = some (.inr (2, [.ref (a + 1), .ref (a + 2), .ref (a + 3), .null, .int 0, .int 0])) := (o7 _ (by omega)).trans f0
  have r1 : E7 (a + 1) = some (.inl (sv_cI G, 7, .inl fun _ => 0)) := (o7 _ (by omega)).trans r1
  have r2 : E7 (a + 2) = some (.inl (sv_cI G, 7, .inl fun _ => 0)) := (o7 _ (by omega)).trans r2
  have r3 : E7 (a + 3) = some (.inl (sv_cI G, 7, .inl fun _ => 0)) := (o7 _ (by omega)).trans r3
  have ok : ∀ b, b < a → E7 b = E b := fun b hb => (o7 b (by omega)).trans (ok b hb)
  have hN : ∀ b, a + 5 ≤ b → E7 b = none := fun b hb => (o7 b (by omega)).trans (hN b (by omega))
  have r4 : E7 (a + 4) = some (.inl (sv_cI G, 7, .inl fun _ => 0)) := e7
  refine sv_wd (Wd' := sl_W G (a + 5) E7) (fun _ h => h) ?_
  refine sl_putF C (f := 3) (v := .ref (a + 4)) sv_cl2 f0 (by omega) (by omega) (by decide) kw_84 rfl (hin rfl) rfl (tyX2_ok 3 (by decide)) rfl rfl rfl dX2_init_33 (fun E8 e8 o8 => ?_)
  have f0 : E8 a = some (.inr (2, [.ref (a + 1), .ref (a + 2), .ref (a + 3), .ref (a + 4), .int 0, .int 0])) := e8
  have r1 : E8 (a + 1) = some (.inl (sv_cI G, 7, .inl fun _ => 0)) := (o8 _ (by omega)).trans r1
  have r2 : E8 (a + 2) = some (.inl (sv_cI G, 7, .inl fun _ => 0)) := (o8 _ (by omega)).trans r2
  have r3 : E8 (a + 3) = some (.inl (sv_cI G, 7, .inl fun _ => 0)) := (o8 _ (by omega)).trans r3
  have r4 : E8 (a + 4) = some (.inl (sv_cI G, 7, .inl fun _ => 0)) := (o8 _ (by omega)).trans r4
  have ok : ∀ b, b < a → E8 b = E b := fun b hb => (o8 b (by omega)).trans (ok b hb)
  have hN : ∀ b, a + 5 ≤ b → E8 b = none := fun b hb => (o8 b (by omega)).trans (hN b (by omega))
  refine sv_aload_n (i := 0) (x := a) C dX2_init_36 rfl rfl ?_
  refine sv_iconst (v := nI 0) C dX2_init_37 (by decide) ?_
  refine sl_put C (f := 4) (v := .int (nI 0)) sv_cl2 f0 (by omega) (by omega) (by decide) kw_85 rfl (tyX2_ok 4 (by decide)) rfl rfl rfl dX2_init_38 (fun E9 e9 o9 => ?_)
  have f0 : E9 a = some (.inr (2, [.ref (a + 1), .ref (a + 2), .ref (a + 3), .ref (a + 4), .int (nI 0), .int 0])) := e9
  have r1 : E9 (a + 1) = some (.inl (sv_cI G, 7, .inl fun _ => 0)) := (o9 _ (by omega)).trans r1
  have r2 : E9 (a + 2) = some (.inl (sv_cI G, 7, .inl fun _ => 0)) := (o9 _ (by omega)).trans r2
  have r3 : E9 (a + 3) = some (.inl (sv_cI G, 7, .inl fun _ => 0)) := (o9 _ (by omega)).trans r3
  have r4 : E9 (a + 4) = some (.inl (sv_cI G, 7, .inl fun _ => 0)) := (o9 _ (by omega)).trans r4
  have ok : ∀ b, b < a → E9 b = E b := fun b hb => (o9 b (by omega)).trans (ok b hb)
  have hN : ∀ b, a + 5 ≤ b → E9 b = none := fun b hb => (o9 b (by omega)).trans (hN b (by omega))
  refine sv_aload_n (i := 0) (x := a) C dX2_init_41 rfl rfl ?_
  refine sv_iconst (v := nI 0) C dX2_init_42 (by decide) ?_
  refine sl_put C (f := 5) (v := .int (nI 0)) sv_cl2 f0 (by omega) (by omega) (by decide) kw_88 rfl (tyX2_ok 5 (by decide)) rfl rfl rfl dX2_init_43 (fun E10 e10 o10 => ?_)
  have f0 : E10 a = some (.inr (2, [.ref (a + 1), .ref (a + 2), .ref (a + 3), .ref (a + 4), .int (nI 0), .int (nI 0)])) := e10
  have r1 : E10 (a + 1) = some (.inl (sv_cI G, 7, .inl fun _ => 0)) := (o10 _ (by omega)).trans r1
  have r2 : E10 (a + 2) = some (.inl (sv_cI G, 7, .inl fun _ => 0)) := (o10 _ (by omega)).trans r2
  have r3 : E10 (a + 3) = some (.inl (sv_cI G, 7, .inl fun _ => 0)) := (o10 _ (by omega)).trans r3
  have r4 : E10 (a + 4) = some (.inl (sv_cI G, 7, .inl fun _ => 0)) := (o10 _ (by omega)).trans r4
  have ok : ∀ b, b < a → E10 b = E b := fun b hb => (o10 b (by omega)).trans (ok b hb)
  have hN : ∀ b, a + 5 ≤ b → E10 b = none := fun b hb => (o10 b (by omega)).trans (hN b (by omega))
  refine sv_vret C hr dX2_init_46 (Nat.le_of_ble_eq_true rfl) (Nat.le_of_ble_eq_true rfl) (sl_oneq (fun c hc => ?_) ok (fun b hb => hz b (by omega)))
  rcases (show c = 0 ∨ c = 1 ∨ c = 2 ∨ c = 3 ∨ c = 4 by omega) with rfl | rfl | rfl | rfl | rfl
  · exact f0
  · exact r1
  · exact r2
  · exact r3
  · exact r4
set_option maxHeartbeats 4000000 in
set_option maxRecDepth 100000 in
theorem met_X3_init (l : Launch) (G : sv_G) (a : Nat) (hA : G.1 ≤ a) (E : sl_E) (hE : E a = some (.inr (3, [.null, .null, .null, .int 0, .int 0, .int 0, .int 0]))) (hN : ∀ b, a + 1 ≤ b → E b = none) : Met l yX3_init [.code yX3_init cX3_init 1 none] (sv_rm 2 13 92) (sv_Pc G (sl_W G (a + 1) E) [.ref a]) (sv_Qc G (sl_W G (a + 14) (sl_on E a 14 (stF G a))) none) 13 92 (sv_A G) := by
  refine sv_ofW (by decide) kw_33 (Nat.le_of_ble_eq_true rfl) ?_
  intro p e s mth args below meth c hr C hin
  refine sv_sub (lv' := [(0, .ref a)]) rfl ?_
  have hz := hN
  have ok : ∀ b, b < a → E b = E b := fun _ _ => rfl
  have f0 : E a = some (.inr (3, [.null, .null, .null, .int 0, .int 0, .int 0, .int 0])) := hE
  refine sv_aload_n (i := 0) (x := a) C dX3_init_0 rfl rfl ?_
  refine sv_objInit C kw_34 (Nat.le_of_ble_eq_true rfl) (Nat.le_of_ble_eq_true rfl) dX3_init_1 ?_
  refine sv_aload_n (i := 0) (x := a) C dX3_init_4 rfl rfl ?_
  refine sl_new C (fs := [.null, .null, .null, .null, .null, .null]) tyX0 tyX0_ok sv_cl0 kw_35 kw_36 kw_11 (by intro j hj; rcases (show j = 0 ∨ j = 1 ∨ j = 2 ∨ j = 3 ∨ j = 4 ∨ j = 5 by omega) with rfl | rfl | rfl | rfl | rfl | rfl <;> rfl) (Nat.le_of_ble_eq_true rfl) (Nat.le_of_ble_eq_true rfl) dX3_init_5 (fun E1 e1 o1 => ?_)
  have f0 : E1 a = some (.inr (3, [.null, .null, .null, .int 0, .int 0, .int 0, .int 0])) := (o1 _ (by omega)).trans f0
  have ok : ∀ b, b < a → E1 b = E b := fun b hb => (o1 b (by omega)).trans (ok b hb)
  have hN : ∀ b, a + 2 ≤ b → E1 b = none := fun b hb => (o1 b (by omega)).trans (hN b (by omega))
  have g1 : E1 (a + 1) = some (.inr (0, [.null, .null, .null, .null, .null, .null])) := e1
  refine sv_wd (Wd' := sl_W G (a + 2) E1) (fun _ h => h) ?_
  refine sv_dup C dX3_init_8 rfl ?_
  refine sl_call (as := []) (rest := [_, _]) C (met_X0_init l G (a + 1) (by omega) E1 g1 (fun b hb => hN b (by omega))) fX0_init kw_37 ⟨Nat.le_of_ble_eq_true rfl, Nat.le_of_ble_eq_true rfl⟩ (Nat.le_of_ble_eq_true rfl) dX3_init_9 ⟨Nat.le_of_ble_eq_true rfl, Nat.le_of_ble_eq_true rfl⟩ ?_
  obtain ⟨E2, hE2⟩ : ∃ E9 : sl_E, E9 = sl_on E1 (a + 1) 7 (flF G (a + 1)) := ⟨_, rfl⟩
  refine sv_wd (Wd' := sl_W G (a + 8) E2) (fun _ h => by rw [hE2]; exact h) ?_
  have f0 : E2 a = some (.inr (3, [.null, .null, .null, .int 0, .int 0, .int 0, .int 0])) := by
    rw [hE2, sl_ono (by omega)]
    exact f0
  have q1 : ∀ c, c < 7 → E2 (a + 1 + c) = some (flF G (a + 1) c) := fun c hc => by
    rw [hE2]
    exact sl_oni hc rfl
  have ok : ∀ b, b < a → E2 b = E b := fun b hb => by
    rw [hE2, sl_ono (by omega)]
    exact ok b hb
  have hN : ∀ b, a + 8 ≤ b → E2 b = none := fun b hb => by
    rw [hE2, sl_ono (by omega)]
    exact hN b (by omega)
  refine sl_putF C (f := 0) (v := .ref (a + 1)) sv_cl3 f0 (by omega) (by omega) (by decide) kw_108 rfl (hin rfl) rfl (tyX3_ok 0 (by decide)) rfl rfl rfl dX3_init_12 (fun E3 e3 o3 => ?_)
  have f0 : E3 a = some (.inr (3, [.ref (a + 1), .null, .null, .int 0, .int 0, .int 0, .int 0])) := e3
  have q1 : ∀ c, c < 7 → E3 (a + 1 + c) = some (flF G (a + 1) c) := fun c hc => (o3 _ (by omega)).trans (q1 c hc)
  have ok : ∀ b, b < a → E3 b = E b := fun b hb => (o3 b (by omega)).trans (ok b hb)
  have hN : ∀ b, a + 8 ≤ b → E3 b = none := fun b hb => (o3 b (by omega)).trans (hN b (by omega))
  refine sv_aload_n (i := 0) (x := a) C dX3_init_15 rfl rfl ?_
  refine sl_new C (fs := [.null, .null, .null, .null, .int 0, .int 0]) tyX2 tyX2_ok sv_cl2 kw_72 kw_73 kw_12 (by intro j hj; rcases (show j = 0 ∨ j = 1 ∨ j = 2 ∨ j = 3 ∨ j = 4 ∨ j = 5 by omega) with rfl | rfl | rfl | rfl | rfl | rfl <;> rfl) (Nat.le_of_ble_eq_true rfl) (Nat.le_of_ble_eq_true rfl) dX3_init_16 (fun E4 e4 o4 => ?_)
  have f0 : E4 a = some (.inr (3, [.ref (a + 1), .null, .null, .int 0, .int 0, .int 0, .int 0])) := (o4 _ (by omega)).trans f0
  have q1 : ∀ c, c < 7 → E4 (a + 1 + c) = some (flF G (a + 1) c) := fun c hc => (o4 _ (by omega)).trans (q1 c hc)
  have ok : ∀ b, b < a → E4 b = E b := fun b hb => (o4 b (by omega)).trans (ok b hb)
  have hN : ∀ b, a + 9 ≤ b → E4 b = none := fun b hb => (o4 b (by omega)).trans (hN b (by omega))
  have g2 : E4 (a + 8) = some (.inr (2, [.null, .null, .null, .null, .int 0, .int 0])) := e4
  refine sv_wd (Wd' := sl_W G (a + 9) E4) (fun _ h => h) ?_
  refine sv_dup C dX3_init_19 rfl ?_
  refine sl_call (as := []) (rest := [_, _]) C (met_X2_init l G (a + 8) (by omega) E4 g2 (fun b hb => hN b (by omega))) fX2_init kw_74 ⟨Nat.le_of_ble_eq_true rfl, Nat.le_of_ble_eq_true rfl⟩ (Nat.le_of_ble_eq_true rfl) dX3_init_20 ⟨Nat.le_of_ble_eq_true rfl, Nat.le_of_ble_eq_true rfl⟩ ?_
  obtain ⟨E5, hE5⟩ : ∃ E9 : sl_E, E9 = sl_on E4 (a + 8) 5 (ppF G (a + 8)) := ⟨_, rfl⟩
  refine sv_wd (Wd' := sl_W G (a + 13) E5) (fun _ h => by rw [hE5]; exact h) ?_
  have f0 : E5 a = some (.inr (3, [.ref (a + 1), .null, .null, .int 0, .int 0, .int 0, .int 0])) := by
    rw [hE5, sl_ono (by omega)]
    exact f0
  have q1 : ∀ c, c < 7 → E5 (a + 1 + c) = some (flF G (a + 1) c) := fun c hc => by
    rw [hE5, sl_ono (by omega)]
    exact q1 c hc
  have q2 : ∀ c, c < 5 → E5 (a + 8 + c) = some (ppF G (a + 8) c) := fun c hc => by
    rw [hE5]
    exact sl_oni hc rfl
  have ok : ∀ b, b < a → E5 b = E b := fun b hb => by
    rw [hE5, sl_ono (by omega)]
    exact ok b hb
  have hN : ∀ b, a + 13 ≤ b → E5 b = none := fun b hb => by
    rw [hE5, sl_ono (by omega)]
    exact hN b (by omega)
  refine sl_putF C (f := 1) (v := .ref (a + 8)) sv_cl3 f0 (by omega) (by omega) (by decide) kw_110 rfl (hin rfl) rfl (tyX3_ok 1 (by decide)) rfl rfl rfl dX3_init_23 (fun E6 e6 o6 => ?_)
  have f0 : E6 a = some (.inr (3, [.ref (a + 1), .ref (a + 8), .null, .int 0, .int 0, .int 0, .int 0])) := e6
  have q1 : ∀ c, c < 7 → E6 (a + 1 + c) = some (flF G (a + 1) c) := fun c hc => (o6 _ (by omega)).trans (q1 c hc)
  have q2 : ∀ c, c < 5 → E6 (a + 8 + c) = some (ppF G (a + 8) c) := fun c hc => (o6 _ (by omega)).trans (q2 c hc)
  have ok : ∀ b, b < a → E6 b = E b := fun b hb => (o6 b (by omega)).trans (ok b hb)
  have hN : ∀ b, a + 13 ≤ b → E6 b = none := fun b hb => (o6 b (by omega)).trans (hN b (by omega))
  refine sv_aload_n (i := 0) (x := a) C dX3_init_26 rfl rfl ?_
  refine sv_gets0N C rfl dX3_init_27 ?_
  refine sv_salen0 C dX3_init_30 ?_
  refine sl_newa C (atype := .int) (ty := .int) (i := nI 4) (N := 4) (t0 := 0) (cA := sv_cI G) (a0 := (4, .inl fun _ => 0)) rfl kw_71 rfl (fun _ => rfl) rfl (by decide) (by decide) (by decide) (Nat.le_of_ble_eq_true rfl) (Nat.le_of_ble_eq_true rfl) dX3_init_31 (fun E7 e7 o7 => ?_)
  have f0 : E7 a = some (.inr (3, [.ref (a + 1), .ref (a + 8), .null, .int 0, .int 0, .int 0, .int 0])) := (o7 _ (by omega)).trans f0
  have q1 : ∀ c, c < 7 → E7 (a + 1 + c) = some (flF G (a + 1) c) := fun c hc => (o7 _ (by omega)).trans (q1 c hc)
  have q2 : ∀ c, c < 5 → E7 (a + 8 + c) = some (ppF G (a + 8) c) := fun c hc => (o7 _ (by omega)).trans (q2 c hc)
  have ok : ∀ b, b < a → E7 b = E b := fun b hb => (o7 b (by omega)).trans (ok b hb)
  have hN : ∀ b, a + 14 ≤ b → E7 b = none := fun b hb => (o7 b (by omega)).trans (hN b (by omega))
  have s1 : E7 (a + 13) = some (.inl (sv_cI G, 4, .inl fun _ => 0)) := e7
  refine sv_wd (Wd' := sl_W G (a + 14) E7) (fun _ h => h) ?_
  refine sl_putF C (f := 2) (v := .ref (a + 13)) sv_cl3 f0 (by omega) (by omega) (by decide) kw_112 rfl (hin rfl) rfl (tyX3_ok 2 (by decide)) rfl rfl rfl dX3_init_33 (fun E8 e8 o8 => ?_)
  have f0 : E8 a = some (.inr (3, [.ref (a + 1), .ref (a + 8), .ref (a + 13), .int 0, .int 0, .int 0, .int 0])) := e8
  have s1 : E8 (a + 13) = some (.inl (sv_cI G, 4, .inl fun _ => 0)) := (o8 _ (by omega)).trans s1
  have q1 : ∀ c, c < 7 → E8 (a + 1 + c) = some (flF G (a + 1) c) := fun c hc => (o8 _ (by omega)).trans (q1 c hc)
  have q2 : ∀ c, c < 5 → E8 (a + 8 + c) = some (ppF G (a + 8) c) := fun c hc => (o8 _ (by omega)).trans (q2 c hc)
  have ok : ∀ b, b < a → E8 b = E b := fun b hb => (o8 b (by omega)).trans (ok b hb)
  have hN : ∀ b, a + 14 ≤ b → E8 b = none := fun b hb => (o8 b (by omega)).trans (hN b (by omega))
  refine sv_gets0N C rfl dX3_init_36 ?_
  refine sv_aload_n (i := 0) (x := a) C dX3_init_39 rfl rfl ?_
  refine sl_get C (f := 2) (v := .ref (a + 13)) sv_cl3 f0 (by decide) kw_112 rfl dX3_init_40 ?_
  refine sv_callN (as := [_, _]) (rest := []) C (met_copyRow0 l G (a + 14) (a + 13) E8 (by omega) (by omega) s1) fX5_copyRow (host := "StairLight") kn_RX3_32 ⟨Nat.le_of_ble_eq_true rfl, Nat.le_of_ble_eq_true rfl⟩ (Nat.le_of_ble_eq_true rfl) dX3_init_43 ⟨Nat.le_of_ble_eq_true rfl, Nat.le_of_ble_eq_true rfl⟩ ?_
  refine sv_rv ?_
  obtain ⟨E9, hE9⟩ : ∃ E9 : sl_E, E9 = sl_u E8 (a + 13) (.inl (sv_cI G, 4, .inl fun j => if j < 4 then sv_F 0 j else 0)) := ⟨_, rfl⟩
  rw [← hE9]
  have e9 : E9 (a + 13) = some (.inl (sv_cI G, 4, .inl fun j => if j < 4 then sv_F 0 j else 0)) := by rw [hE9]; exact sl_us
  have o9 : ∀ b, b ≠ a + 13 → E9 b = E8 b := fun b hb => by rw [hE9]; exact sl_un b hb
  have f0 : E9 a = some (.inr (3, [.ref (a + 1), .ref (a + 8), .ref (a + 13), .int 0, .int 0, .int 0, .int 0])) := (o9 _ (by omega)).trans f0
  have s1 : E9 (a + 13) = some (.inl (sv_cI G, 4, .inl fun j => if j < 4 then sv_F 0 j else 0)) := e9
  have q1 : ∀ c, c < 7 → E9 (a + 1 + c) = some (flF G (a + 1) c) := fun c hc => (o9 _ (by omega)).trans (q1 c hc)
  have q2 : ∀ c, c < 5 → E9 (a + 8 + c) = some (ppF G (a + 8) c) := fun c hc => (o9 _ (by omega)).trans (q2 c hc)
  have ok : ∀ b, b < a → E9 b = E b := fun b hb => (o9 b (by omega)).trans (ok b hb)
  have hN : ∀ b, a + 14 ≤ b → E9 b = none := fun b hb => (o9 b (by omega)).trans (hN b (by omega))
  refine sv_aload_n (i := 0) (x := a) C dX3_init_46 rfl rfl ?_
  refine sv_iconst (v := nI 0) C dX3_init_47 (by decide) ?_
  refine sl_put C (f := 3) (v := .int (nI 0)) sv_cl3 f0 (by omega) (by omega) (by decide) kw_114 rfl (tyX3_ok 3 (by decide)) rfl rfl rfl dX3_init_48 (fun E10 e10 o10 => ?_)
  have f0 : E10 a = some (.inr (3, [.ref (a + 1), .ref (a + 8), .ref (a + 13), .int (nI 0), .int 0, .int 0, .int 0])) := e10
  have s1 : E10 (a + 13) = some (.inl (sv_cI G, 4, .inl fun j => if j < 4 then sv_F 0 j else 0)) := (o10 _ (by omega)).trans s1
  have q1 : ∀ c, c < 7 → E10 (a + 1 + c) = some (flF G (a + 1) c) := fun c hc => (o10 _ (by omega)).trans (q1 c hc)
  have q2 : ∀ c, c < 5 → E10 (a + 8 + c) = some (ppF G (a + 8) c) := fun c hc => (o10 _ (by omega)).trans (q2 c hc)
  have ok : ∀ b, b < a → E10 b = E b := fun b hb => (o10 b (by omega)).trans (ok b hb)
  have hN : ∀ b, a + 14 ≤ b → E10 b = none := fun b hb => (o10 b (by omega)).trans (hN b (by omega))
  refine sv_aload_n (i := 0) (x := a) C dX3_init_51 rfl rfl ?_
  refine sv_iconst (v := nI 0) C dX3_init_52 (by decide) ?_
  refine sl_put C (f := 4) (v := .int (nI 0)) sv_cl3 f0 (by omega) (by omega) (by decide) kw_116 rfl (tyX3_ok 4 (by decide)) rfl rfl rfl dX3_init_53 (fun E11 e11 o11 => ?_)
  have f0 : E11 a = some (.inr (3, [.ref (a + 1), .ref (a + 8), .ref (a + 13), .int (nI 0), .int (nI 0), .int 0, .int 0])) := e11
  have s1 : E11 (a + 13) = some (.inl (sv_cI G, 4, .inl fun j => if j < 4 then sv_F 0 j else 0)) := (o11 _ (by omega)).trans s1
  have q1 : ∀ c, c < 7 → E11 (a + 1 + c) = some (flF G (a + 1) c) := fun c hc => (o11 _ (by omega)).trans (q1 c hc)
  have q2 : ∀ c, c < 5 → E11 (a + 8 + c) = some (ppF G (a + 8) c) := fun c hc => (o11 _ (by omega)).trans (q2 c hc)
  have ok : ∀ b, b < a → E11 b = E b := fun b hb => (o11 b (by omega)).trans (ok b hb)
  have hN : ∀ b, a + 14 ≤ b → E11 b = none := fun b hb => (o11 b (by omega)).trans (hN b (by omega))
  refine sv_aload_n (i := 0) (x := a) C dX3_init_56 rfl rfl ?_
  refine sv_iconst (v := nI 0) C dX3_init_57 (by decide) ?_
  refine sl_put C (f := 5) (v := .int (nI 0)) sv_cl3 f0 (by omega) (by omega) (by decide) kw_118 rfl (tyX3_ok 5 (by decide)) rfl rfl rfl dX3_init_58 (fun E12 e12 o12 => ?_)
  have f0 : E12 a = some (.inr (3, [.ref (a + 1), .ref (a + 8), .ref (a + 13), .int (nI 0), .int (nI 0), .int (nI 0), .int 0])) := e12
  have s1 : E12 (a + 13) = some (.inl (sv_cI G, 4, .inl fun j => if j < 4 then sv_F 0 j else 0)) := (o12 _ (by omega)).trans s1
  have q1 : ∀ c, c < 7 → E12 (a + 1 + c) = some (flF G (a + 1) c) := fun c hc => (o12 _ (by omega)).trans (q1 c hc)
  have q2 : ∀ c, c < 5 → E12 (a + 8 + c) = some (ppF G (a + 8) c) := fun c hc => (o12 _ (by omega)).trans (q2 c hc)
  have ok : ∀ b, b < a → E12 b = E b := fun b hb => (o12 b (by omega)).trans (ok b hb)
  have hN : ∀ b, a + 14 ≤ b → E12 b = none := fun b hb => (o12 b (by omega)).trans (hN b (by omega))
  refine sv_aload_n (i := 0) (x := a) C dX3_init_61 rfl rfl ?_
  refine sv_iconst (v := nI 0) C dX3_init_62 (by decide) ?_
  refine sl_put C (f := 6) (v := .int (nI 0)) sv_cl3 f0 (by omega) (by omega) (by decide) kw_120 rfl (tyX3_ok 6 (by decide)) rfl rfl rfl dX3_init_63 (fun E13 e13 o13 => ?_)
  have f0 : E13 a = some (.inr (3, [.ref (a + 1), .ref (a + 8), .ref (a + 13), .int (nI 0), .int (nI 0), .int (nI 0), .int (nI 0)])) := e13
  have s1 : E13 (a + 13) = some (.inl (sv_cI G, 4, .inl fun j => if j < 4 then sv_F 0 j else 0)) := (o13 _ (by omega)).trans s1
  have q1 : ∀ c, c < 7 → E13 (a + 1 + c) = some (flF G (a + 1) c) := fun c hc => (o13 _ (by omega)).trans (q1 c hc)
  have q2 : ∀ c, c < 5 → E13 (a + 8 + c) = some (ppF G (a + 8) c) := fun c hc => (o13 _ (by omega)).trans (q2 c hc)
  have ok : ∀ b, b < a → E13 b = E b := fun b hb => (o13 b (by omega)).trans (ok b hb)
  have hN : ∀ b, a + 14 ≤ b → E13 b = none := fun b hb => (o13 b (by omega)).trans (hN b (by omega))
  refine sv_vret C hr dX3_init_66 (Nat.le_of_ble_eq_true rfl) (Nat.le_of_ble_eq_true rfl) (sl_oneq (fun c hc => ?_) ok (fun b hb => hz b (by omega)))
  unfold stF
  by_cases h0 : c = 0
  · subst h0
    exact f0
  · rw [if_neg h0]
    by_cases h8 : c < 8
    · rw [if_pos h8, show a + c = a + 1 + (c - 1) by omega]
      exact q1 _ (by omega)
    · rw [if_neg h8]
      by_cases h13 : c < 13
      · rw [if_pos h13, show a + c = a + 8 + (c - 8) by omega]
        exact q2 _ (by omega)
      · rw [if_neg h13, show c = 13 by omega]
        exact s1
set_option maxHeartbeats 4000000 in
set_option maxRecDepth 100000 in
theorem met_X4_init (l : Launch) (G : sv_G) (a : Nat) (hA : G.1 ≤ a) (E : sl_E) (hE : E a = some (.inr (4, [.null, .int 0]))) (hN : ∀ b, a + 1 ≤ b → E b = none) : Met l yX4_init [.code yX4_init cX4_init 1 none] (sv_rm 1 1 60) (sv_Pc G (sl_W G (a + 1) E) [.ref a]) (sv_Qc G (sl_W G (a + 2) (sl_on E a 2 (waF G a))) none) 1 60 (sv_A G) := by
  refine sv_ofW (by decide) kw_160 (Nat.le_of_ble_eq_true rfl) ?_
  intro p e s mth args below meth c hr C hin
  refine sv_sub (lv' := [(0, .ref a)]) rfl ?_
  have hz := hN
  have ok : ∀ b, b < a → E b = E b := fun _ _ => rfl
  have f0 : E a = some (.inr (4, [.null, .int 0])) := hE
  refine sv_aload_n (i := 0) (x := a) C dX4_init_0 rfl rfl ?_
  refine sv_objInit C kw_161 (Nat.le_of_ble_eq_true rfl) (Nat.le_of_ble_eq_true rfl) dX4_init_1 ?_
  refine sv_aload_n (i := 0) (x := a) C dX4_init_4 rfl rfl ?_
  refine sv_bipush (v := nI 60) C dX4_init_5 (by decide) ?_
  refine sl_newa C (atype := .char) (ty := .char) (i := nI 60) (N := 60) (t0 := 1) (cA := sv_cC G) (a0 := (60, .inl fun _ => 0)) rfl kw_169 rfl (fun _ => rfl) rfl (by decide) (by decide) (by decide) (Nat.le_of_ble_eq_true rfl) (Nat.le_of_ble_eq_true rfl) dX4_init_7 (fun E1 e1 o1 => ?_)
  have f0 : E1 a = some (.inr (4, [.null, .int 0])) := (o1 _ (by omega)).trans f0
  have ok : ∀ b, b < a → E1 b = E b := fun b hb => (o1 b (by omega)).trans (ok b hb)
  have hN : ∀ b, a + 2 ≤ b → E1 b = none := fun b hb => (o1 b (by omega)).trans (hN b (by omega))
  have r1 : E1 (a + 1) = some (.inl (sv_cC G, 60, .inl fun _ => 0)) := e1
  refine sv_wd (Wd' := sl_W G (a + 2) E1) (fun _ h => h) ?_
  refine sl_putF C (f := 0) (v := .ref (a + 1)) sv_cl4 f0 (by omega) (by omega) (by decide) kw_162 rfl (hin rfl) rfl (tyX4_ok 0 (by decide)) rfl rfl rfl dX4_init_9 (fun E2 e2 o2 => ?_)
  have f0 : E2 a = some (.inr (4, [.ref (a + 1), .int 0])) := e2
  have r1 : E2 (a + 1) = some (.inl (sv_cC G, 60, .inl fun _ => 0)) := (o2 _ (by omega)).trans r1
  have ok : ∀ b, b < a → E2 b = E b := fun b hb => (o2 b (by omega)).trans (ok b hb)
  have hN : ∀ b, a + 2 ≤ b → E2 b = none := fun b hb => (o2 b (by omega)).trans (hN b (by omega))
  refine sv_aload_n (i := 0) (x := a) C dX4_init_12 rfl rfl ?_
  refine sv_iconst (v := nI 0) C dX4_init_13 (by decide) ?_
  refine sl_put C (f := 1) (v := .int (nI 0)) sv_cl4 f0 (by omega) (by omega) (by decide) kw_163 rfl (tyX4_ok 1 (by decide)) rfl rfl rfl dX4_init_14 (fun E3 e3 o3 => ?_)
  have f0 : E3 a = some (.inr (4, [.ref (a + 1), .int (nI 0)])) := e3
  have r1 : E3 (a + 1) = some (.inl (sv_cC G, 60, .inl fun _ => 0)) := (o3 _ (by omega)).trans r1
  have ok : ∀ b, b < a → E3 b = E b := fun b hb => (o3 b (by omega)).trans (ok b hb)
  have hN : ∀ b, a + 2 ≤ b → E3 b = none := fun b hb => (o3 b (by omega)).trans (hN b (by omega))
  refine sv_vret C hr dX4_init_17 (Nat.le_of_ble_eq_true rfl) (Nat.le_of_ble_eq_true rfl) (sl_oneq (fun c hc => ?_) ok (fun b hb => hz b (by omega)))
  rcases (show c = 0 ∨ c = 1 by omega) with rfl | rfl
  · exact f0
  · exact r1
set_option maxHeartbeats 4000000 in
set_option maxRecDepth 100000 in
theorem met_X1_init (l : Launch) (G : sv_G) (a : Nat) (hA : G.1 ≤ a) (E : sl_E) (hE : E a = some (.inr (1, [.null, .int 0, .int 0]))) (hN : ∀ b, a + 1 ≤ b → E b = none) : Met l yX1_init [.code yX1_init cX1_init 2 none] (sv_rm 3 85 600) (sv_Pc G (sl_W G (a + 1) E) [.ref a]) (sv_Qc G (sl_W G (a + 86) (sl_on E a 86 (hiF G a))) none) 85 600 (sv_A G) := by
  refine sv_ofW (by decide) kw_140 (Nat.le_of_ble_eq_true rfl) ?_
  intro p e s mth args below meth c hr C hin
  refine sv_sub (lv' := [(0, .ref a)]) rfl ?_
  have hz := hN
  have ok : ∀ b, b < a → E b = E b := fun _ _ => rfl
  have f0 : E a = some (.inr (1, [.null, .int 0, .int 0])) := hE
  refine sv_aload_n (i := 0) (x := a) C dX1_init_0 rfl rfl ?_
  refine sv_objInit C kw_141 (Nat.le_of_ble_eq_true rfl) (Nat.le_of_ble_eq_true rfl) dX1_init_1 ?_
  refine sv_aload_n (i := 0) (x := a) C dX1_init_4 rfl rfl ?_
  refine sv_bipush (v := nI 6) C dX1_init_5 (by decide) ?_
  refine sl_newq C (i := nI 6) (N := 6) kw_142 (by decide) (by decide) (by decide) (Nat.le_of_ble_eq_true rfl) (Nat.le_of_ble_eq_true rfl) dX1_init_7 (fun E1 e1 o1 => ?_)
  have f0 : E1 a = some (.inr (1, [.null, .int 0, .int 0])) := (o1 _ (by omega)).trans f0
  have ok : ∀ b, b < a → E1 b = E b := fun b hb => (o1 b (by omega)).trans (ok b hb)
  have hN : ∀ b, a + 2 ≤ b → E1 b = none := fun b hb => (o1 b (by omega)).trans (hN b (by omega))
  have r1 : E1 (a + 1) = some (.inl (sv_cS G, 6, .inr (.inr (.inr (.inr fun _ => none))))) := e1
  refine sv_wd (Wd' := sl_W G (a + 2) E1) (fun _ h => h) ?_
  refine sl_putF C (f := 0) (v := .ref (a + 1)) sv_cl1 f0 (by omega) (by omega) (by decide) kw_145 rfl (hin rfl) rfl (tyX1_ok 0 (by decide)) rfl rfl rfl dX1_init_10 (fun E2 e2 o2 => ?_)
  have f0 : E2 a = some (.inr (1, [.ref (a + 1), .int 0, .int 0])) := e2
  have r1 : E2 (a + 1) = some (.inl (sv_cS G, 6, .inr (.inr (.inr (.inr fun _ => none))))) := (o2 _ (by omega)).trans r1
  have ok : ∀ b, b < a → E2 b = E b := fun b hb => (o2 b (by omega)).trans (ok b hb)
  have hN : ∀ b, a + 2 ≤ b → E2 b = none := fun b hb => (o2 b (by omega)).trans (hN b (by omega))
  refine sv_iconst (v := nI 0) C dX1_init_13 (by decide) ?_
  refine sv_istore_n (i := 1) C [(0, .ref a), (1, .int (nI 0))] dX1_init_14 rfl (by decide) rfl ?_
  have key : ∀ t i, i + t = 6 → sv_V p l e (sv_rm 3 85 600) s mth args below meth c 2 G (MQ below (sv_Qc G (sl_W G (a + 86) (sl_on E a 86 (hiF G a))) none) args s 85 600 (sv_A G)) (1 + 14 * i) (6 + 99 * i) (sl_W G (a + 2 + 14 * i) (sl_on (sl_u E2 (a + 1) (.inl (sv_cS G, 6, .inr (.inr (.inr (.inr fun j => if j < i then some (a + 2 + 14 * j) else none)))))) (a + 2) (14 * i) (fun c => stF G (a + 2 + 14 * (c / 14)) (c % 14)))) 15 [(0, .ref a), (1, .int (nI i))] [] := ?_
  · refine sv_wd ?_ (key 6 0 rfl)
    refine sl_sub (fun b x hb => ?_)
    rw [sl_ono (by omega)] at hb
    by_cases hba : b = a + 1
    · rw [hba, sl_us] at hb
      rw [hba, r1, ← hb]
      congr 7
    · rw [sl_un b hba] at hb
      exact hb
  intro t
  induction t with
  | zero =>
    intro i hi
    obtain rfl : i = 6 := by omega
    have f9 : (sl_on (sl_u E2 (a + 1) (.inl (sv_cS G, 6, .inr (.inr (.inr (.inr fun j => if j < 6 then some (a + 2 + 14 * j) else none)))))) (a + 2) (14 * 6) (fun c => stF G (a + 2 + 14 * (c / 14)) (c % 14))) a = some (.inr (1, [.ref (a + 1), .int 0, .int 0])) := by
      rw [sl_ono (by omega), sl_un _ (by omega)]
      exact f0
    have r9 : (sl_on (sl_u E2 (a + 1) (.inl (sv_cS G, 6, .inr (.inr (.inr (.inr fun j => if j < 6 then some (a + 2 + 14 * j) else none)))))) (a + 2) (14 * 6) (fun c => stF G (a + 2 + 14 * (c / 14)) (c % 14))) (a + 1) = some (.inl (sv_cS G, 6, .inr (.inr (.inr (.inr fun j => if j < 6 then some (a + 2 + 14 * j) else none))))) := by
      rw [sl_ono (by omega)]
      exact sl_us
    refine sv_iload_n (i := 1) (x := nI 6) C dX1_init_15 rfl rfl ?_
    refine sv_aload_n (i := 0) (x := a) C dX1_init_16 rfl rfl ?_
    refine sl_get C (f := 0) (v := .ref (a + 1)) sv_cl1 f9 (by decide) kw_145 rfl dX1_init_17 ?_
    refine sl_alen (t0 := 2) (v := nI 6) C r9 rfl rfl dX1_init_20 ?_
    refine sv_icmp_geN C 43 dX1_init_21 (by decide) (by omega) (by omega) (fun q21 => ?_) (fun q21 => absurd (by omega) q21)
    obtain ⟨E8, hE8⟩ : ∃ E8 : sl_E, E8 = sl_on (sl_u E2 (a + 1) (.inl (sv_cS G, 6, .inr (.inr (.inr (.inr fun j => if j < 6 then some (a + 2 + 14 * j) else none)))))) (a + 2) (14 * 6) (fun c => stF G (a + 2 + 14 * (c / 14)) (c % 14)) := ⟨_, rfl⟩
    rw [← hE8] at f9 r9 ⊢
    have s9 : ∀ c, c < 84 → E8 (a + 2 + c) = some (stF G (a + 2 + 14 * (c / 14)) (c % 14)) := fun c hc => by
        rw [hE8]
        exact sl_oni (F := fun c => stF G (a + 2 + 14 * (c / 14)) (c % 14)) hc rfl
    have k9 : ∀ b, b < a → E8 b = E b := fun b hb => by
        rw [hE8, sl_ono (by omega), sl_un _ (by omega)]
        exact ok b hb
    refine sv_aload_n (i := 0) (x := a) C dX1_init_43 rfl rfl ?_
    refine sv_iconst (v := nI 0) C dX1_init_44 (by decide) ?_
    refine sl_put C (f := 1) (v := .int (nI 0)) sv_cl1 f9 (by omega) (by omega) (by decide) kw_146 rfl (tyX1_ok 1 (by decide)) rfl rfl rfl dX1_init_45 (fun E10 e10 o10 => ?_)
    have f9 : E10 a = some (.inr (1, [.ref (a + 1), .int 0, .int 0])) := e10
    have r9 : E10 (a + 1) = some (.inl (sv_cS G, 6, .inr (.inr (.inr (.inr fun j => if j < 6 then some (a + 2 + 14 * j) else none))))) := (o10 _ (by omega)).trans r9
    have s9 : ∀ c, c < 84 → E10 (a + 2 + c) = some (stF G (a + 2 + 14 * (c / 14)) (c % 14)) := fun c hc => (o10 _ (by omega)).trans (s9 c hc)
    have k9 : ∀ b, b < a → E10 b = E b := fun b hb => (o10 _ (by omega)).trans (k9 b hb)
    refine sv_aload_n (i := 0) (x := a) C dX1_init_48 rfl rfl ?_
    refine sv_iconst (v := nI 0) C dX1_init_49 (by decide) ?_
    refine sl_put C (f := 2) (v := .int (nI 0)) sv_cl1 f9 (by omega) (by omega) (by decide) kw_147 rfl (tyX1_ok 2 (by decide)) rfl rfl rfl dX1_init_50 (fun E11 e11 o11 => ?_)
    have f9 : E11 a = some (.inr (1, [.ref (a + 1), .int 0, .int 0])) := e11
    have r9 : E11 (a + 1) = some (.inl (sv_cS G, 6, .inr (.inr (.inr (.inr fun j => if j < 6 then some (a + 2 + 14 * j) else none))))) := (o11 _ (by omega)).trans r9
    have s9 : ∀ c, c < 84 → E11 (a + 2 + c) = some (stF G (a + 2 + 14 * (c / 14)) (c % 14)) := fun c hc => (o11 _ (by omega)).trans (s9 c hc)
    have k9 : ∀ b, b < a → E11 b = E b := fun b hb => (o11 _ (by omega)).trans (k9 b hb)
    refine sv_vret C hr dX1_init_53 (Nat.le_of_ble_eq_true rfl) (Nat.le_of_ble_eq_true rfl) (sl_oneq (fun c hc => ?_) k9 (fun b hb => hz b (by omega)))
    unfold hiF
    by_cases h0 : c = 0
    · subst h0
      exact f9
    · rw [if_neg h0]
      by_cases h1 : c = 1
      · subst h1
        exact r9
      · rw [if_neg h1, show a + c = a + 2 + (c - 2) by omega]
        exact s9 (c - 2) (by omega)
  | succ t ih =>
    intro i hi
    have f9 : (sl_on (sl_u E2 (a + 1) (.inl (sv_cS G, 6, .inr (.inr (.inr (.inr fun j => if j < i then some (a + 2 + 14 * j) else none)))))) (a + 2) (14 * i) (fun c => stF G (a + 2 + 14 * (c / 14)) (c % 14))) a = some (.inr (1, [.ref (a + 1), .int 0, .int 0])) := by
      rw [sl_ono (by omega), sl_un _ (by omega)]
      exact f0
    have r9 : (sl_on (sl_u E2 (a + 1) (.inl (sv_cS G, 6, .inr (.inr (.inr (.inr fun j => if j < i then some (a + 2 + 14 * j) else none)))))) (a + 2) (14 * i) (fun c => stF G (a + 2 + 14 * (c / 14)) (c % 14))) (a + 1) = some (.inl (sv_cS G, 6, .inr (.inr (.inr (.inr fun j => if j < i then some (a + 2 + 14 * j) else none))))) := by
      rw [sl_ono (by omega)]
      exact sl_us
    refine sv_iload_n (i := 1) (x := nI i) C dX1_init_15 rfl rfl ?_
    refine sv_aload_n (i := 0) (x := a) C dX1_init_16 rfl rfl ?_
    refine sl_get C (f := 0) (v := .ref (a + 1)) sv_cl1 f9 (by decide) kw_145 rfl dX1_init_17 ?_
    refine sl_alen (t0 := 2) (v := nI 6) C r9 rfl rfl dX1_init_20 ?_
    refine sv_icmp_geN C 43 dX1_init_21 (by decide) (by omega) (by omega) (fun q21 => absurd q21 (by omega)) (fun q21 => ?_)
    refine sv_aload_n (i := 0) (x := a) C dX1_init_24 rfl rfl ?_
    refine sl_get C (f := 0) (v := .ref (a + 1)) sv_cl1 f9 (by decide) kw_145 rfl dX1_init_25 ?_
    refine sv_iload_n (i := 1) (x := nI i) C dX1_init_28 rfl rfl ?_
    obtain ⟨E8, hE8⟩ : ∃ E8 : sl_E, E8 = sl_on (sl_u E2 (a + 1) (.inl (sv_cS G, 6, .inr (.inr (.inr (.inr fun j => if j < i then some (a + 2 + 14 * j) else none)))))) (a + 2) (14 * i) (fun c => stF G (a + 2 + 14 * (c / 14)) (c % 14)) := ⟨_, rfl⟩
    rw [← hE8] at f9 r9 ⊢
    have n9 : ∀ b, a + 2 + 14 * i ≤ b → E8 b = none := fun b hb => by
      rw [hE8, sl_ono (by omega), sl_un _ (by omega)]
      exact hN b (by omega)
    refine sl_new C (fs := [.null, .null, .null, .int 0, .int 0, .int 0, .int 0]) tyX3 tyX3_ok sv_cl3 kw_142 kw_30 kw_10 (by intro j hj; rcases (show j = 0 ∨ j = 1 ∨ j = 2 ∨ j = 3 ∨ j = 4 ∨ j = 5 ∨ j = 6 by omega) with rfl | rfl | rfl | rfl | rfl | rfl | rfl <;> rfl) (by show _ ≤ 85; omega) (by show _ ≤ 600; omega) dX1_init_29 (fun E9 e9 o9 => ?_)
    refine sv_dup C dX1_init_32 rfl ?_
    refine sl_call (as := []) (rest := [_, _, _]) C (met_X3_init l G (a + 2 + 14 * i) (by omega) E9 e9 (fun b hb => (o9 b (by omega)).trans (n9 b (by omega)))) fX3_init kw_144 ⟨Nat.le_of_ble_eq_true rfl, Nat.le_of_ble_eq_true rfl⟩ (Nat.le_of_ble_eq_true rfl) dX1_init_33 ⟨by show _ ≤ 85; omega, by show _ ≤ 600; omega⟩ ?_
    have v9 : sl_on E9 (a + 2 + 14 * i) 14 (stF G (a + 2 + 14 * i)) (a + 2 + 14 * i) = some (stF G (a + 2 + 14 * i) 0) := sl_oni (c := 0) (by decide) rfl
    have r9 : sl_on E9 (a + 2 + 14 * i) 14 (stF G (a + 2 + 14 * i)) (a + 1) = some (.inl (sv_cS G, 6, .inr (.inr (.inr (.inr fun j => if j < i then some (a + 2 + 14 * j) else none))))) := by
      rw [sl_ono (by omega), o9 _ (by omega)]
      exact r9
    refine sl_aast C r9 v9 (by omega) (by omega) (vp_in_nI (by omega) (by decide)) dX1_init_36 (fun E7 e7 o7 => ?_)
    refine sv_iinc (i := 1) (x := nI i) C (nI (i + 1)) [(0, .ref a), (1, .int (nI (i + 1)))] dX1_init_37 rfl (sv_incN i 1) (by decide) rfl ?_
    refine sv_goto C 15 dX1_init_40 (by decide) ?_
    have h9 := ih (i + 1) (by omega)
    rw [show 1 + 14 * (i + 1) = 1 + 14 * i + 1 + 13 by omega, show 6 + 99 * (i + 1) = 6 + 99 * i + 7 + 92 by omega, show a + 2 + 14 * (i + 1) = a + 2 + 14 * i + 14 by omega] at h9
    refine sv_wd (sl_sub (fun b x hb => ?_)) h9
    by_cases hr1 : b = a + 1
    · rw [hr1, sl_ono (by omega), sl_us] at hb
      rw [hr1, e7, ← hb]
      congr 8
      funext j
      rw [nI_clamp (by omega)]
      unfold va_up
      by_cases h1 : j = i
      · rw [if_pos h1, if_pos (by omega), h1]
      · by_cases h2 : j < i
        · rw [if_neg h1]
          dsimp only
          rw [if_pos h2, if_pos (by omega)]
        · rw [if_neg h1]
          dsimp only
          rw [if_neg h2, if_neg (by omega)]
    · rw [o7 b hr1]
      by_cases hn : a + 2 + 14 * i ≤ b ∧ b < a + 2 + 14 * i + 14
      · obtain ⟨c9, hc9, rfl⟩ : ∃ c9, c9 < 14 ∧ b = a + 2 + 14 * i + c9 := ⟨b - (a + 2 + 14 * i), by omega, by omega⟩
        rw [sl_oni hc9 rfl]
        rw [sl_oni (c := 14 * i + c9) (by omega) (by omega)] at hb
        rw [← hb]
        rw [show (14 * i + c9) / 14 = i by omega, show (14 * i + c9) % 14 = c9 by omega]
      · rw [sl_ono (by omega), o9 b (by omega), hE8]
        by_cases hlo : a + 2 ≤ b ∧ b < a + 2 + 14 * i
        · obtain ⟨c9, hc9, rfl⟩ : ∃ c9, c9 < 14 * i ∧ b = a + 2 + c9 := ⟨b - (a + 2), by omega, by omega⟩
          rw [sl_oni hc9 rfl]
          rw [sl_oni (c := c9) (by omega) rfl] at hb
          exact hb
        · rw [sl_ono (by omega), sl_un b hr1]
          rw [sl_ono (by omega), sl_un b hr1] at hb
          exact hb
set_option maxHeartbeats 4000000 in
set_option maxRecDepth 100000 in
theorem met_X5_init (l : Launch) (G : sv_G) (a : Nat) (hA : G.1 ≤ a) (E : sl_E) (hE : E a = some (.inr (5, [.null, .null, .null, .null]))) (hN : ∀ b, a + 1 ≤ b → E b = none) : Met l yX5_init [.code yX5_init cX5_init 1 none] (sv_rm 4 116 863) (sv_Pc G (sl_W G (a + 1) E) [.ref a]) (sv_Qc G (sl_W G (a + 117) (sl_on E a 117 (slF G a))) none) 116 863 (sv_A G) := by
  refine sv_ofW (by decide) kw_25 (Nat.le_of_ble_eq_true rfl) ?_
  intro p e s mth args below meth c hr C hin
  refine sv_sub (lv' := [(0, .ref a)]) rfl ?_
  have hz := hN
  have ok : ∀ b, b < a → E b = E b := fun _ _ => rfl
  have f0 : E a = some (.inr (5, [.null, .null, .null, .null])) := hE
  refine sv_aload_n (i := 0) (x := a) C dX5_init_0 rfl rfl ?_
  refine sv_objInit C kw_26 (Nat.le_of_ble_eq_true rfl) (Nat.le_of_ble_eq_true rfl) dX5_init_1 ?_
  refine sv_aload_n (i := 0) (x := a) C dX5_init_4 rfl rfl ?_
  refine sl_new C (fs := [.null, .null, .null, .int 0, .int 0, .int 0, .int 0]) tyX3 tyX3_ok sv_cl3 kw_29 kw_30 kw_10 (by intro j hj; rcases (show j = 0 ∨ j = 1 ∨ j = 2 ∨ j = 3 ∨ j = 4 ∨ j = 5 ∨ j = 6 by omega) with rfl | rfl | rfl | rfl | rfl | rfl | rfl <;> rfl) (Nat.le_of_ble_eq_true rfl) (Nat.le_of_ble_eq_true rfl) dX5_init_5 (fun E1 e1 o1 => ?_)
  have f0 : E1 a = some (.inr (5, [.null, .null, .null, .null])) := (o1 _ (by omega)).trans f0
  have ok : ∀ b, b < a → E1 b = E b := fun b hb => (o1 b (by omega)).trans (ok b hb)
  have hN : ∀ b, a + 2 ≤ b → E1 b = none := fun b hb => (o1 b (by omega)).trans (hN b (by omega))
  have g1 : E1 (a + 1) = some (.inr (3, [.null, .null, .null, .int 0, .int 0, .int 0, .int 0])) := e1
  refine sv_wd (Wd' := sl_W G (a + 2) E1) (fun _ h => h) ?_
  refine sv_dup C dX5_init_8 rfl ?_
  refine sl_call (as := []) (rest := [_, _]) C (met_X3_init l G (a + 1) (by omega) E1 g1 (fun b hb => hN b (by omega))) fX3_init kw_31 ⟨Nat.le_of_ble_eq_true rfl, Nat.le_of_ble_eq_true rfl⟩ (Nat.le_of_ble_eq_true rfl) dX5_init_9 ⟨Nat.le_of_ble_eq_true rfl, Nat.le_of_ble_eq_true rfl⟩ ?_
  obtain ⟨E2, hE2⟩ : ∃ E9 : sl_E, E9 = sl_on E1 (a + 1) 14 (stF G (a + 1)) := ⟨_, rfl⟩
  refine sv_wd (Wd' := sl_W G (a + 15) E2) (fun _ h => by rw [hE2]; exact h) ?_
  have f0 : E2 a = some (.inr (5, [.null, .null, .null, .null])) := by
    rw [hE2, sl_ono (by omega)]
    exact f0
  have q1 : ∀ c, c < 14 → E2 (a + 1 + c) = some (stF G (a + 1) c) := fun c hc => by
    rw [hE2]
    exact sl_oni hc rfl
  have ok : ∀ b, b < a → E2 b = E b := fun b hb => by
    rw [hE2, sl_ono (by omega)]
    exact ok b hb
  have hN : ∀ b, a + 15 ≤ b → E2 b = none := fun b hb => by
    rw [hE2, sl_ono (by omega)]
    exact hN b (by omega)
  refine sl_putF C (f := 0) (v := .ref (a + 1)) sv_cl5 f0 (by omega) (by omega) (by decide) kw_170 rfl (hin rfl) rfl (tyX5_ok 0 (by decide)) rfl rfl rfl dX5_init_12 (fun E3 e3 o3 => ?_)
  have f0 : E3 a = some (.inr (5, [.ref (a + 1), .null, .null, .null])) := e3
  have q1 : ∀ c, c < 14 → E3 (a + 1 + c) = some (stF G (a + 1) c) := fun c hc => (o3 _ (by omega)).trans (q1 c hc)
  have ok : ∀ b, b < a → E3 b = E b := fun b hb => (o3 b (by omega)).trans (ok b hb)
  have hN : ∀ b, a + 15 ≤ b → E3 b = none := fun b hb => (o3 b (by omega)).trans (hN b (by omega))
  refine sv_aload_n (i := 0) (x := a) C dX5_init_15 rfl rfl ?_
  refine sl_new C (fs := [.null, .null, .null, .int 0, .int 0, .int 0, .int 0]) tyX3 tyX3_ok sv_cl3 kw_29 kw_30 kw_10 (by intro j hj; rcases (show j = 0 ∨ j = 1 ∨ j = 2 ∨ j = 3 ∨ j = 4 ∨ j = 5 ∨ j = 6 by omega) with rfl | rfl | rfl | rfl | rfl | rfl | rfl <;> rfl) (Nat.le_of_ble_eq_true rfl) (Nat.le_of_ble_eq_true rfl) dX5_init_16 (fun E4 e4 o4 => ?_)
  have f0 : E4 a = some (.inr (5, [.ref (a + 1), .null, .null, .null])) := (o4 _ (by omega)).trans f0
  have q1 : ∀ c, c < 14 → E4 (a + 1 + c) = some (stF G (a + 1) c) := fun c hc => (o4 _ (by omega)).trans (q1 c hc)
  have ok : ∀ b, b < a → E4 b = E b := fun b hb => (o4 b (by omega)).trans (ok b hb)
  have hN : ∀ b, a + 16 ≤ b → E4 b = none := fun b hb => (o4 b (by omega)).trans (hN b (by omega))
  have g1 : E4 (a + 15) = some (.inr (3, [.null, .null, .null, .int 0, .int 0, .int 0, .int 0])) := e4
  refine sv_wd (Wd' := sl_W G (a + 16) E4) (fun _ h => h) ?_
  refine sv_dup C dX5_init_19 rfl ?_
  refine sl_call (as := []) (rest := [_, _]) C (met_X3_init l G (a + 15) (by omega) E4 g1 (fun b hb => hN b (by omega))) fX3_init kw_31 ⟨Nat.le_of_ble_eq_true rfl, Nat.le_of_ble_eq_true rfl⟩ (Nat.le_of_ble_eq_true rfl) dX5_init_20 ⟨Nat.le_of_ble_eq_true rfl, Nat.le_of_ble_eq_true rfl⟩ ?_
  obtain ⟨E5, hE5⟩ : ∃ E9 : sl_E, E9 = sl_on E4 (a + 15) 14 (stF G (a + 15)) := ⟨_, rfl⟩
  refine sv_wd (Wd' := sl_W G (a + 29) E5) (fun _ h => by rw [hE5]; exact h) ?_
  have f0 : E5 a = some (.inr (5, [.ref (a + 1), .null, .null, .null])) := by
    rw [hE5, sl_ono (by omega)]
    exact f0
  have q1 : ∀ c, c < 14 → E5 (a + 1 + c) = some (stF G (a + 1) c) := fun c hc => by
    rw [hE5, sl_ono (by omega)]
    exact q1 c hc
  have q2 : ∀ c, c < 14 → E5 (a + 15 + c) = some (stF G (a + 15) c) := fun c hc => by
    rw [hE5]
    exact sl_oni hc rfl
  have ok : ∀ b, b < a → E5 b = E b := fun b hb => by
    rw [hE5, sl_ono (by omega)]
    exact ok b hb
  have hN : ∀ b, a + 29 ≤ b → E5 b = none := fun b hb => by
    rw [hE5, sl_ono (by omega)]
    exact hN b (by omega)
  refine sl_putF C (f := 1) (v := .ref (a + 15)) sv_cl5 f0 (by omega) (by omega) (by decide) kw_171 rfl (hin rfl) rfl (tyX5_ok 1 (by decide)) rfl rfl rfl dX5_init_23 (fun E6 e6 o6 => ?_)
  have f0 : E6 a = some (.inr (5, [.ref (a + 1), .ref (a + 15), .null, .null])) := e6
  have q1 : ∀ c, c < 14 → E6 (a + 1 + c) = some (stF G (a + 1) c) := fun c hc => (o6 _ (by omega)).trans (q1 c hc)
  have q2 : ∀ c, c < 14 → E6 (a + 15 + c) = some (stF G (a + 15) c) := fun c hc => (o6 _ (by omega)).trans (q2 c hc)
  have ok : ∀ b, b < a → E6 b = E b := fun b hb => (o6 b (by omega)).trans (ok b hb)
  have hN : ∀ b, a + 29 ≤ b → E6 b = none := fun b hb => (o6 b (by omega)).trans (hN b (by omega))
  refine sv_aload_n (i := 0) (x := a) C dX5_init_26 rfl rfl ?_
  refine sl_new C (fs := [.null, .int 0, .int 0]) tyX1 tyX1_ok sv_cl1 kw_136 kw_137 kw_13 (by intro j hj; rcases (show j = 0 ∨ j = 1 ∨ j = 2 by omega) with rfl | rfl | rfl <;> rfl) (Nat.le_of_ble_eq_true rfl) (Nat.le_of_ble_eq_true rfl) dX5_init_27 (fun E7 e7 o7 => ?_)
  have f0 : E7 a = some (.inr (5, [.ref (a + 1), .ref (a + 15), .null, .null])) := (o7 _ (by omega)).trans f0
  have q1 : ∀ c, c < 14 → E7 (a + 1 + c) = some (stF G (a + 1) c) := fun c hc => (o7 _ (by omega)).trans (q1 c hc)
  have q2 : ∀ c, c < 14 → E7 (a + 15 + c) = some (stF G (a + 15) c) := fun c hc => (o7 _ (by omega)).trans (q2 c hc)
  have ok : ∀ b, b < a → E7 b = E b := fun b hb => (o7 b (by omega)).trans (ok b hb)
  have hN : ∀ b, a + 30 ≤ b → E7 b = none := fun b hb => (o7 b (by omega)).trans (hN b (by omega))
  have g1 : E7 (a + 29) = some (.inr (1, [.null, .int 0, .int 0])) := e7
  refine sv_wd (Wd' := sl_W G (a + 30) E7) (fun _ h => h) ?_
  refine sv_dup C dX5_init_30 rfl ?_
  refine sl_call (as := []) (rest := [_, _]) C (met_X1_init l G (a + 29) (by omega) E7 g1 (fun b hb => hN b (by omega))) fX1_init kw_138 ⟨Nat.le_of_ble_eq_true rfl, Nat.le_of_ble_eq_true rfl⟩ (Nat.le_of_ble_eq_true rfl) dX5_init_31 ⟨Nat.le_of_ble_eq_true rfl, Nat.le_of_ble_eq_true rfl⟩ ?_
  obtain ⟨E8, hE8⟩ : ∃ E9 : sl_E, E9 = sl_on E7 (a + 29) 86 (hiF G (a + 29)) := ⟨_, rfl⟩
  refine sv_wd (Wd' := sl_W G (a + 115) E8) (fun _ h => by rw [hE8]; exact h) ?_
  have f0 : E8 a = some (.inr (5, [.ref (a + 1), .ref (a + 15), .null, .null])) := by
    rw [hE8, sl_ono (by omega)]
    exact f0
  have q1 : ∀ c, c < 14 → E8 (a + 1 + c) = some (stF G (a + 1) c) := fun c hc => by
    rw [hE8, sl_ono (by omega)]
    exact q1 c hc
  have q2 : ∀ c, c < 14 → E8 (a + 15 + c) = some (stF G (a + 15) c) := fun c hc => by
    rw [hE8, sl_ono (by omega)]
    exact q2 c hc
  have q3 : ∀ c, c < 86 → E8 (a + 29 + c) = some (hiF G (a + 29) c) := fun c hc => by
    rw [hE8]
    exact sl_oni hc rfl
  have ok : ∀ b, b < a → E8 b = E b := fun b hb => by
    rw [hE8, sl_ono (by omega)]
    exact ok b hb
  have hN : ∀ b, a + 115 ≤ b → E8 b = none := fun b hb => by
    rw [hE8, sl_ono (by omega)]
    exact hN b (by omega)
  refine sl_putF C (f := 2) (v := .ref (a + 29)) sv_cl5 f0 (by omega) (by omega) (by decide) kw_172 rfl (hin rfl) rfl (tyX5_ok 2 (by decide)) rfl rfl rfl dX5_init_34 (fun E9 e9 o9 => ?_)
  have f0 : E9 a = some (.inr (5, [.ref (a + 1), .ref (a + 15), .ref (a + 29), .null])) := e9
  have q1 : ∀ c, c < 14 → E9 (a + 1 + c) = some (stF G (a + 1) c) := fun c hc => (o9 _ (by omega)).trans (q1 c hc)
  have q2 : ∀ c, c < 14 → E9 (a + 15 + c) = some (stF G (a + 15) c) := fun c hc => (o9 _ (by omega)).trans (q2 c hc)
  have q3 : ∀ c, c < 86 → E9 (a + 29 + c) = some (hiF G (a + 29) c) := fun c hc => (o9 _ (by omega)).trans (q3 c hc)
  have ok : ∀ b, b < a → E9 b = E b := fun b hb => (o9 b (by omega)).trans (ok b hb)
  have hN : ∀ b, a + 115 ≤ b → E9 b = none := fun b hb => (o9 b (by omega)).trans (hN b (by omega))
  refine sv_aload_n (i := 0) (x := a) C dX5_init_37 rfl rfl ?_
  refine sl_new C (fs := [.null, .int 0]) tyX4 tyX4_ok sv_cl4 kw_156 kw_157 kw_14 (by intro j hj; rcases (show j = 0 ∨ j = 1 by omega) with rfl | rfl <;> rfl) (Nat.le_of_ble_eq_true rfl) (Nat.le_of_ble_eq_true rfl) dX5_init_38 (fun E10 e10 o10 => ?_)
  have f0 : E10 a = some (.inr (5, [.ref (a + 1), .ref (a + 15), .ref (a + 29), .null])) := (o10 _ (by omega)).trans f0
  have q1 : ∀ c, c < 14 → E10 (a + 1 + c) = some (stF G (a + 1) c) := fun c hc => (o10 _ (by omega)).trans (q1 c hc)
  have q2 : ∀ c, c < 14 → E10 (a + 15 + c) = some (stF G (a + 15) c) := fun c hc => (o10 _ (by omega)).trans (q2 c hc)
  have q3 : ∀ c, c < 86 → E10 (a + 29 + c) = some (hiF G (a + 29) c) := fun c hc => (o10 _ (by omega)).trans (q3 c hc)
  have ok : ∀ b, b < a → E10 b = E b := fun b hb => (o10 b (by omega)).trans (ok b hb)
  have hN : ∀ b, a + 116 ≤ b → E10 b = none := fun b hb => (o10 b (by omega)).trans (hN b (by omega))
  have g1 : E10 (a + 115) = some (.inr (4, [.null, .int 0])) := e10
  refine sv_wd (Wd' := sl_W G (a + 116) E10) (fun _ h => h) ?_
  refine sv_dup C dX5_init_41 rfl ?_
  refine sl_call (as := []) (rest := [_, _]) C (met_X4_init l G (a + 115) (by omega) E10 g1 (fun b hb => hN b (by omega))) fX4_init kw_158 ⟨Nat.le_of_ble_eq_true rfl, Nat.le_of_ble_eq_true rfl⟩ (Nat.le_of_ble_eq_true rfl) dX5_init_42 ⟨Nat.le_of_ble_eq_true rfl, Nat.le_of_ble_eq_true rfl⟩ ?_
  obtain ⟨E11, hE11⟩ : ∃ E9 : sl_E, E9 = sl_on E10 (a + 115) 2 (waF G (a + 115)) := ⟨_, rfl⟩
  refine sv_wd (Wd' := sl_W G (a + 117) E11) (fun _ h => by rw [hE11]; exact h) ?_
  have f0 : E11 a = some (.inr (5, [.ref (a + 1), .ref (a + 15), .ref (a + 29), .null])) := by
    rw [hE11, sl_ono (by omega)]
    exact f0
  have q1 : ∀ c, c < 14 → E11 (a + 1 + c) = some (stF G (a + 1) c) := fun c hc => by
    rw [hE11, sl_ono (by omega)]
    exact q1 c hc
  have q2 : ∀ c, c < 14 → E11 (a + 15 + c) = some (stF G (a + 15) c) := fun c hc => by
    rw [hE11, sl_ono (by omega)]
    exact q2 c hc
  have q3 : ∀ c, c < 86 → E11 (a + 29 + c) = some (hiF G (a + 29) c) := fun c hc => by
    rw [hE11, sl_ono (by omega)]
    exact q3 c hc
  have q4 : ∀ c, c < 2 → E11 (a + 115 + c) = some (waF G (a + 115) c) := fun c hc => by
    rw [hE11]
    exact sl_oni hc rfl
  have ok : ∀ b, b < a → E11 b = E b := fun b hb => by
    rw [hE11, sl_ono (by omega)]
    exact ok b hb
  have hN : ∀ b, a + 117 ≤ b → E11 b = none := fun b hb => by
    rw [hE11, sl_ono (by omega)]
    exact hN b (by omega)
  refine sl_putF C (f := 3) (v := .ref (a + 115)) sv_cl5 f0 (by omega) (by omega) (by decide) kw_173 rfl (hin rfl) rfl (tyX5_ok 3 (by decide)) rfl rfl rfl dX5_init_45 (fun E12 e12 o12 => ?_)
  have f0 : E12 a = some (.inr (5, [.ref (a + 1), .ref (a + 15), .ref (a + 29), .ref (a + 115)])) := e12
  have q1 : ∀ c, c < 14 → E12 (a + 1 + c) = some (stF G (a + 1) c) := fun c hc => (o12 _ (by omega)).trans (q1 c hc)
  have q2 : ∀ c, c < 14 → E12 (a + 15 + c) = some (stF G (a + 15) c) := fun c hc => (o12 _ (by omega)).trans (q2 c hc)
  have q3 : ∀ c, c < 86 → E12 (a + 29 + c) = some (hiF G (a + 29) c) := fun c hc => (o12 _ (by omega)).trans (q3 c hc)
  have q4 : ∀ c, c < 2 → E12 (a + 115 + c) = some (waF G (a + 115) c) := fun c hc => (o12 _ (by omega)).trans (q4 c hc)
  have ok : ∀ b, b < a → E12 b = E b := fun b hb => (o12 b (by omega)).trans (ok b hb)
  have hN : ∀ b, a + 117 ≤ b → E12 b = none := fun b hb => (o12 b (by omega)).trans (hN b (by omega))
  refine sv_vret C hr dX5_init_48 (Nat.le_of_ble_eq_true rfl) (Nat.le_of_ble_eq_true rfl) (sl_oneq (fun c hc => ?_) ok (fun b hb => hz b (by omega)))
  unfold slF
  by_cases h0 : c = 0
  · subst h0
    exact f0
  · rw [if_neg h0]
    by_cases h1 : c < 15
    · rw [if_pos h1, show a + c = a + 1 + (c - 1) by omega]
      exact q1 _ (by omega)
    · rw [if_neg h1]
      by_cases h2 : c < 29
      · rw [if_pos h2, show a + c = a + 15 + (c - 15) by omega]
        exact q2 _ (by omega)
      · rw [if_neg h2]
        by_cases h3 : c < 115
        · rw [if_pos h3, show a + c = a + 29 + (c - 29) by omega]
          exact q3 _ (by omega)
        · rw [if_neg h3, show a + c = a + 115 + (c - 115) by omega]
          exact q4 _ (by omega)
