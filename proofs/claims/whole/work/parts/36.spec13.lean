/-! a try keeps IX and the places -/
theorem IX.tr {z : Nat → Int32} {n f : Nat} (h : IX z) (hf : f < 8) (hn : n < 4) : IX (trZ z n f) := by
  have hXa : IX (ta z f) := h.gz (h.1 f hf)
  have hXb : IX (tb z f) := hXa.up (by omega) (by omega) (by omega) (by omega) (fun _ _ => by omega) (fun _ _ => by omega) (by omega)
  have hXc : IX (tc z n f) := hXb.up (by omega) (by omega) (by omega) (by omega) (fun _ _ => by omega) (fun _ _ => by omega) (by omega)
  have hXd : IX (td z n f) := hXc.dz
  unfold trZ
  split
  · exact (hXd.tm.up (by omega) (by omega) (by omega) (by omega) (fun _ _ => by omega) (fun _ _ => by omega) (by omega)).up (by omega) (by omega) (by omega) (by omega) (fun _ _ => by omega) (fun _ _ => by omega) (by omega)
  · exact ((hXd.up (by omega) (by omega) (by omega) (by omega) (fun _ _ => by omega) (fun _ _ => by omega) (by omega)).tm).dz
theorem trZ_pl {z : Nat → Int32} {n f j : Nat} (hf : f < 8) (h : 76 ≤ j) (h2 : j < 196) : trZ z n f j = z j := by
  have e : td z n f j = z j := by rw [td, dz_lo (by omega), tc, upd_ne (by omega), tb, upd_ne (by omega), ta, gz_lo (by omega) (by omega)]
  unfold trZ
  split
  · rw [thZ, upd_ne (by omega), tg, upd_ne (by omega), te, tM_lo (by omega), e]
  · rw [tk, dz_lo (by omega), tj, tM_lo (by omega), ti, upd_ne (by omega), e]
theorem ABF.of {z : Nat → Int32} (h : IX z) : ABF z := fun f hf => ab_eq (h.1 f hf) h.2.2.1
