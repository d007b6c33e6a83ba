/-! a new state -/
theorem ziZ_at (k : Nat) : ziZ k = if k = 196 ∨ k = 201 ∨ k = 206 ∨ k = 211 then 63 else if k = 8 then 1 else if k = 4 then 50 else if k = 3 then 80 else if k = 2 then 5 else if k = 1 then 20 else if k = 0 then 2 else 0 := by
  unfold ziZ
  rw [fu_4]
  simp only [ziF, ziA, upd]
  repeat' split
  all_goals first | rfl | (exfalso; omega)
theorem si_s : upd (upd (upd (upd (upd (fun _ => (0 : Int32)) 0 2) 1 20) 2 5) 3 80) 4 50 = sg ziZ 0 5 := by
  funext k
  unfold sg
  rw [ziZ_at]
  simp only [upd]
  repeat' split
  all_goals first | rfl | (exfalso; omega)
theorem si_0 {o n : Nat} (h : 8 < o ∧ (o + n ≤ 196 ∨ 211 < o)) : (fun _ => (0 : Int32)) = sg ziZ o n := by
  funext k
  unfold sg
  rw [ziZ_at]
  repeat' split
  all_goals first | rfl | (exfalso; omega)
theorem si_n : fu (fun i y => upd y (i * 5 + 0) 63) 0 4 (fun _ => (0 : Int32)) = sg ziZ 196 20 := by
  funext k
  unfold sg
  rw [fu_4, ziZ_at]
  simp only [upd]
  repeat' split
  all_goals first | rfl | (exfalso; omega)
theorem si_W {g : GT} {b : Nat → Nat} : SWx g b 0 0 0 1 0 0 0 (upd (upd (upd (upd (upd (fun _ => (0 : Int32)) 0 2) 1 20) 2 5) 3 80) 4 50) (fun _ => 0) (fun _ => 0) (fu (fun i y => upd y (i * 5 + 0) 63) 0 4 (fun _ => 0)) (fun _ => 0) = SW g b ziZ := by
  unfold SW
  rw [si_s, si_n, ← si_0 (o := 12) (n := 64) (by decide), ← si_0 (o := 76) (n := 120) (by decide), ← si_0 (o := 216) (n := 32) (by decide), show ziZ 5 = 0 from ziZ_at 5, show ziZ 6 = 0 from ziZ_at 6, show ziZ 7 = 0 from ziZ_at 7, show ziZ 8 = 1 from ziZ_at 8, show ziZ 9 = 0 from ziZ_at 9, show ziZ 10 = 0 from ziZ_at 10, show ziZ 11 = 0 from ziZ_at 11]
