/-! the calls: class and reference -/
theorem sw_upd7 {T b : Int32} {f : Nat} (hf : f < 8) (x : vX) : sw T f (upd x 7 b) = upd (sw T f x) 7 b := by
  unfold sw
  rw [upd_n (show 6 * f + 9 ≠ 7 by omega), upd_n (show 6 * f + 14 ≠ 7 by omega)]
  split
  · split
    · exact upd_c (by omega)
    · rfl
  · split
    · rw [upd_c (show 7 ≠ 6 * f + 14 by omega), upd_c (show 7 ≠ 6 * f + 9 by omega)]
    · exact upd_c (by omega)
theorem fosw_upd7 {T b : Int32} (x : vX) : ∀ n, n ≤ 8 → fo (sw T) n (upd x 7 b) = upd (fo (sw T) n x) 7 b
  | 0, _ => rfl
  | n + 1, hn => by
    show sw T n (fo (sw T) n (upd x 7 b)) = upd (sw T n (fo (sw T) n x)) 7 b
    rw [fosw_upd7 x n (by omega), sw_upd7 (by omega)]
theorem firR_eq (b : Int32) (x : vX) : firR b x = firv b x := by
  unfold firR firv
  split
  · exact fosw_upd7 x 8 (by decide)
  · rfl
