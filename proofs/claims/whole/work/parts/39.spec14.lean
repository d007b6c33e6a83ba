/-- a look that finds a part turned: the class counts first, the reference blames first -/
theorem lkm_eq {z : Nat → Int32} {n f : Nat} (hn : n < 4) (hf : f < 8) : tM (upd (upd (dz z) (12 + 8 * f + 7) (dz z (12 + 8 * f + 7) + 1)) (196 + 5 * n + 4) (upd (dz z) (12 + 8 * f + 7) (dz z (12 + 8 * f + 7) + 1) (196 + 5 * n + 4) + 1)) n f (-(upd (upd (dz z) (12 + 8 * f + 7) (dz z (12 + 8 * f + 7) + 1)) (196 + 5 * n + 4) (upd (dz z) (12 + 8 * f + 7) (dz z (12 + 8 * f + 7) + 1) (196 + 5 * n + 4) + 1) 1)) = lkc z n f := by
  rw [lkc, lkb, lka]
  generalize dz z = d
  unfold tM
  rw [u3 (by omega) (by omega)]
  repeat rw [upd_ne (f := d) (by omega)]
  repeat rw [upd_ne (k := 196 + 5 * n + 4) (by omega)]
  repeat rw [upd_ne (k := 12 + 8 * f + 7) (by omega)]
  repeat rw [upd_ne (k := 216 + 8 * n + f) (by omega)]
