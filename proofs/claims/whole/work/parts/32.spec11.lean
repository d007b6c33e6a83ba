theorem upd_comm {z : Nat → Int32} {i j : Nat} {v w : Int32} (h : i ≠ j) : upd (upd z i v) j w = upd (upd z j w) i v := by
  funext k
  by_cases e : k = i
  · subst e; rw [upd_ne h, upd_eq, upd_eq]
  · by_cases e2 : k = j
    · subst e2; rw [upd_eq, upd_ne e, upd_eq]
    · rw [upd_ne e2, upd_ne e, upd_ne e, upd_ne e2]
theorem inZ_eq {z : Nat → Int32} : upd (upd (inL z).1 11 ((inL z).1 11 + (inL z).2)) 7 (upd (inL z).1 11 ((inL z).1 11 + (inL z).2) 7 + 10) = inZ z := by
  rw [inZ, upd_comm (i := 11) (j := 7) (by decide), show upd (inL z).1 11 ((inL z).1 11 + (inL z).2) 7 = (inL z).1 7 from upd_ne (by decide), show upd (inL z).1 7 ((inL z).1 7 + 10) 11 = (inL z).1 11 from upd_ne (by decide)]
