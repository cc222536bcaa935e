/-! the reference: all the walks of the text -/
def rcx (cd : vX) (w : Nat → Nat) (x : vX) : Nat → vX
  | 0 => x
  | k + 1 => entv (many (rpass (w k) (rcx cd w x k))) (cd (4 * k) - 48) (cd (4 * k + 2) - 48) (rpass (w k) (rcx cd w x k) 3) (rpass (w k) (rcx cd w x k))
def rok (cd : vX) (w : Nat → Nat) (x : vX) (k : Nat) : Prop := (∀ i, i ≤ w k → rgd (rpass i (rcx cd w x k))) ∧ (∀ i, i < w k → many (rpass i (rcx cd w x k)) = 6) ∧ many (rpass (w k) (rcx cd w x k)) < 6 ∧ ¬ cd (4 * k) - 48 = cd (4 * k + 2) - 48
def ag3 (Y x : vX) : Prop := Y 0 = x 0 ∧ Y 1 = x 1 ∧ Y 2 = x 2
/-- what the reference uses up holds anything -/
def sv_W5 (G : sv_G) (z : Nat) (M : sv_M) (o : Int64) (H : Heap) : Prop := ∃ (Y Z X : vX), ag3 Y (M 15) ∧ sv_W G z (sv_u (sv_u (sv_u M 15 Y) 14 Z) 11 X) o H
theorem sv_W5_of {G : sv_G} {z : Nat} {M M2 : sv_M} {o : Int64} (h0 : ag3 (M2 15) (M 15)) (h : ∀ q, q ≠ 11 → q ≠ 14 → q ≠ 15 → M2 q = M q) : ∀ H, sv_W G z M2 o H → sv_W5 G z M o H := fun H hH => ⟨M2 15, M2 14, M2 11, h0, sv_eqW (by
  funext q
  unfold sv_u
  by_cases h1 : q = 11
  · rw [if_pos h1, h1]
  · rw [if_neg h1]
    by_cases h2 : q = 14
    · rw [if_pos h2, h2]
    · rw [if_neg h2]
      by_cases h3 : q = 15
      · rw [if_pos h3, h3]
      · rw [if_neg h3]
        exact h q h1 h2 h3) H hH⟩
/-- what stands at the start of the loop -/
def cmU (kp n9 tk : Nat) (Z : vX) (M : sv_M) : sv_M := sv_w (rsav kp (sv_u (sv_u (thr 0 M) 15 (txY (M 13) n9 tk (thr 0 M 15))) 14 Z)) 15 1 0
def cmM (kp : Nat) (X : vX) (M : sv_M) : sv_M := sv_u (sv_u (rsav kp (thr 0 M)) 10 X) 15 (upd (rsav kp (thr 0 M) 15) 1 0)
theorem rsP_eq {kp : Nat} {M M' : sv_M} (h10 : M' 10 = M 10) (h12 : M' 12 = M 12) : rsP kp M' = rsP kp M := by
  unfold rsP
  rw [h10, h12]
theorem cmU_10 {kp n9 tk : Nat} {Z : vX} {M : sv_M} : cmU kp n9 tk Z M 10 = M 10 := by
  unfold cmU
  rw [sv_wu, sv_un (by decide), rsav_10, sv_un (by decide), sv_un (by decide), thr_n (by decide)]
theorem cmU_14 {kp n9 tk : Nat} {Z : vX} {M : sv_M} : cmU kp n9 tk Z M 14 = Z := by
  unfold cmU rsav
  rw [sv_wu, sv_un (by decide), sv_un (by decide), sv_un (by decide), sv_us]
theorem cmU_15 {kp n9 tk : Nat} {Z : vX} {M : sv_M} : cmU kp n9 tk Z M 15 = upd (upd (txY (M 13) n9 tk (thr 0 M 15)) 0 (nI (rsk kp + 1))) 1 0 := by
  unfold cmU rsav
  rw [sv_wu, sv_us, sv_us, sv_un (show 15 ≠ 14 by decide), sv_us]
theorem cm_fin {kp n9 tk : Nat} {Z X : vX} {d : Int32} {M : sv_M} : ag3 (sv_u (sv_u (cmU kp n9 tk Z M) 15 (dkM (cmU kp n9 tk Z M) d)) 10 X 15) (cmM kp X M 15) ∧ ∀ q, q ≠ 11 → q ≠ 14 → q ≠ 15 → sv_u (sv_u (cmU kp n9 tk Z M) 15 (dkM (cmU kp n9 tk Z M) d)) 10 X q = cmM kp X M q := by
  constructor
  · rw [sv_un (show 15 ≠ 10 by decide), sv_us]
    unfold dkM cmM
    rw [cmU_15, sv_us]
    unfold ag3 rsav txY
    rw [sv_us]
    refine ⟨?_, ?_, ?_⟩
    · rw [upd_n (by decide), upd_n (by decide), upd_s, upd_n (by decide), upd_s]
    · rw [upd_n (by decide), upd_s, upd_s]
    · rw [upd_n (by decide), upd_n (by decide), upd_n (by decide), upd_n (by decide), upd_n (by decide), upd_n (by decide), upd_n (by decide), upd_n (by decide)]
  · intro q h1 h2 h3
    unfold cmM
    rw [sv_un (M := sv_u (rsav kp (thr 0 M)) 10 X) h3]
    by_cases h4 : q = 10
    · rw [h4, sv_us, sv_us]
    · rw [sv_un h4, sv_un h4, sv_un h3]
      unfold cmU
      rw [sv_wu, sv_un h3]
      unfold rsav
      rw [sv_un h3, sv_un h3]
      by_cases h5 : q = 12
      · rw [h5, sv_us, sv_us]
        exact (rsP_eq (by rw [sv_un (by decide), sv_un (by decide)]) (by rw [sv_un (by decide), sv_un (by decide)]))
      · rw [sv_un h5, sv_un h5, sv_un h2, sv_un h3]
theorem cm_no {n9 tk : Nat} {Z : vX} {M : sv_M} : ag3 (thr 1 (sv_u (sv_u (thr 0 M) 15 (txY (M 13) n9 tk (thr 0 M 15))) 14 Z) 15) (thr 1 M 15) ∧ ∀ q, q ≠ 11 → q ≠ 14 → q ≠ 15 → thr 1 (sv_u (sv_u (thr 0 M) 15 (txY (M 13) n9 tk (thr 0 M 15))) 14 Z) q = thr 1 M q := by
  constructor
  · refine ⟨?_, ?_, ?_⟩
    · rw [thr_15 (by decide), thr_15 (by decide), sv_un (show 15 ≠ 14 by decide), sv_us]
      unfold txY
      rw [upd_n (by decide), upd_n (by decide), upd_n (by decide), thr_15 (by decide)]
    · rw [thr_15 (by decide), thr_15 (by decide), sv_un (show 15 ≠ 14 by decide), sv_us]
      unfold txY
      rw [upd_n (by decide), upd_n (by decide), upd_n (by decide), thr_15 (by decide)]
    · rw [thr_2, thr_2]
  · intro q h1 h2 h3
    rw [thr_n h3, thr_n h3, sv_un h2, sv_un h3, thr_n h3]
/-- the watched one's dark seconds hold anything -/
def sv_Wd (G : sv_G) (z : Nat) (U : sv_M) (o : Int64) (x : vX) (H : Heap) : Prop := ∃ d : Int32, sv_W G z (sv_u (sv_u U 15 (dkM U d)) 10 x) o H
theorem sv_Wd_of {G : sv_G} {z : Nat} {U : sv_M} {o : Int64} {x : vX} {d : Int32} : ∀ H, sv_W G z (sv_u (sv_u U 15 (dkM U d)) 10 x) o H → sv_Wd G z U o x H := fun _ h => ⟨d, h⟩
theorem sv_Wd_eq {G : sv_G} {z : Nat} {U M : sv_M} {o : Int64} {x : vX} {d : Int32} (e : M = sv_u (sv_u U 15 (dkM U d)) 10 x) : ∀ H, sv_W G z M o H → sv_Wd G z U o x H := fun _ h => ⟨d, e ▸ h⟩
section SVU
variable {p : Program} {l : Launch} {e : Env} {R : Room} {s : State} {m : MethodId} {args : Array Value} {below : List Frame} {meth : Method} {c : Code} {k n nL : Nat} {Q : State → Prop} {G : sv_G} {pc : Nat} {lv : List (Nat × Value)} {st : List Value} {z : Nat} {U : sv_M} {o : Int64} {x : vX}
theorem sv_exd (kk : ∀ d : Int32, sv_V p l e R s m args below meth c nL G Q k n (sv_W G z (sv_u (sv_u U 15 (dkM U d)) 10 x) o) pc lv st) : sv_V p l e R s m args below meth c nL G Q k n (sv_Wd G z U o x) pc lv st := fun H locs ls h1 h2 h3 => by
  obtain ⟨d, hd⟩ := h1
  exact kk d H locs ls hd h2 h3
end SVU
