/-! the law's world -/
abbrev rmL_law : Room := { frames := 12, cells := 601024, slots := 7293034, locals := 436 }
def SCW (_g : GT) (_sa _L : Nat) (_sc : Nat → Int32) : va_W := []
/-- what the law's walk knows beside the worlds: its own method, the script, that it writes nothing old -/
def XL (sa L : Nat) (sc : Nat → Int32) : XT := fun _ s _ args meth _ A => meth.sig.returnType = some .boolean ∧ meth.locks = false ∧ args = #[.ref sa] ∧ va_X sa L sc s s.heap ∧ sa < s.heap.size ∧ ∀ q, A q → s.heap.size ≤ q
theorem V.ialdL {g : GT} {R : Room} {own : String} {cc : ByteArray} {Ts : List Cond} {nL : Nat} {QF : QT} {k n : Nat} {ws : va_W} {pc : Nat} {lv : List (Nat × Value)} {st : List Value} {sa L : Nat} {sc : Nat → Int32} (j : Nat) (hj : j < L) (hL : L < 2147483648) (hd : decode cc pc = .ok (.iaload, 1)) (kk : V g R own cc Ts nL QF (XL sa L sc) k n ws (pc + 1) lv (.int (sc j) :: st)) : V g R own cc Ts nL QF (XL sa L sc) k n ws pc lv (.int (nI j) :: .ref sa :: st) :=
  fun p e s m args below meth c A hx hb hml ho ht hA hE hX H locs ls hP hK hD hS hl => va_sld hx hb hX.2.2.2.1 hX.2.2.2.2.1 (fun q => Nat.lt_irrefl _ (Nat.lt_of_lt_of_le hX.2.2.2.2.1 (hX.2.2.2.2.2 _ q))) hS (i := nI j) (vp_in_nI hj hL) hd (by rw [nI_clamp (by omega)]; exact kk p e s m args below meth c A hx hb hml ho ht hA hE hX H locs ls hP hK hD hS hl)
theorem V.alenL {g : GT} {R : Room} {own : String} {cc : ByteArray} {Ts : List Cond} {nL : Nat} {QF : QT} {k n : Nat} {ws : va_W} {pc : Nat} {lv : List (Nat × Value)} {st : List Value} {sa L : Nat} {sc : Nat → Int32} (hd : decode cc pc = .ok (.arraylength, 1)) (kk : V g R own cc Ts nL QF (XL sa L sc) k n ws (pc + 1) lv (.int (nI L) :: st)) : V g R own cc Ts nL QF (XL sa L sc) k n ws pc lv (.ref sa :: st) :=
  fun p e s m args below meth c A hx hb hml ho ht hA hE hX H locs ls hP hK hD hS hl => va_slen hx hb hX.2.2.2.1 hX.2.2.2.2.1 (fun q => Nat.lt_irrefl _ (Nat.lt_of_lt_of_le hX.2.2.2.2.1 (hX.2.2.2.2.2 _ q))) hS hd (kk p e s m args below meth c A hx hb hml ho ht hA hE hX H locs ls hP hK hD hS hl)
def LI (K : Nat) (z : Nat → Int32) (n : Nat) (sv : SV) (hi tx : Nat → Int32) (len : Nat) (s : BS) : Prop := IV K z ∧ HI K n sv hi ∧ len ≤ 60 ∧ TXT tx len ∧ s.2.2.1 ≤ 60
theorem gre_eq {j : Nat} (h : j < 5) : gre j = gsT j := by
  rcases (show j = 0 ∨ j = 1 ∨ j = 2 ∨ j = 3 ∨ j = 4 by omega) with rfl | rfl | rfl | rfl | rfl <;> rfl
theorem pvL {O w1 G S M : va_W} (hw : w1.Perm G) : ((O ++ w1) ++ (S ++ M)).Perm (((S ++ O) ++ G) ++ M) := by
  have h : ((O ++ G) ++ (S ++ M)).Perm (((S ++ O) ++ G) ++ M) := by
    rw [← List.append_assoc]
    refine List.Perm.append_right _ ?_
    refine List.perm_append_comm.trans ?_
    rw [← List.append_assoc]
  exact (List.Perm.append_right _ (List.Perm.append_left _ hw)).trans h
theorem pvW {O G S M : va_W} : (((S ++ O) ++ G) ++ M).Perm ((O ++ G) ++ (S ++ M)) := (pvL (List.Perm.refl G)).symm
theorem pvM {O G S M : va_W} : (((S ++ O) ++ G) ++ M).Perm (M ++ ((S ++ O) ++ G)) := List.perm_append_comm
theorem pvG {O G S M : va_W} : (((S ++ O) ++ G) ++ M).Perm (G ++ ((S ++ O) ++ M)) := by
  refine (List.Perm.append_right _ List.perm_append_comm).trans ?_
  rw [List.append_assoc]
theorem pvH {O w1 G S M : va_W} (hw : w1.Perm G) : (w1 ++ ((S ++ O) ++ M)).Perm (((S ++ O) ++ G) ++ M) := (List.Perm.append_right _ hw).trans pvG.symm
theorem MWm {g : GT} {a : Nat → Nat} {z hi tx ai pa tu pt ke z' hi' tx' ai' pa' tu' pt' ke' : Nat → Int32} {st le th re nu du st' le' th' re' nu' du' : Int32} {ha ha' : Int64} : (MW g a z' hi' tx' ai' pa' tu' pt' ke' st' le' th' re' nu' du' ha').map Prod.fst = (MW g a z hi tx ai pa tu pt ke st le th re nu du ha).map Prod.fst := rfl
theorem cmp_0 (x : Int64) : lg_cmp x x = 0 := by
  unfold lg_cmp
  simp
theorem GW_cg {g : GT} {o : Nat} {b c u h x : Nat → Nat} {z z' y ai pa tu tx : Nat → Int32} {len : Nat} {s : BS} {n : Nat} {sv : SV} (e : ∀ j, j < 248 → z' j = z j) : GW g o b c u h x z y ai pa tu tx len s n sv = GW g o b c u h x z' y ai pa tu tx len s n sv := by
  unfold GW; rw [SW_cg (b := b) e]
theorem HI.pop {K m : Nat} {sv : SV} {hi : Nat → Int32} (h : HI K (m + 1) sv hi) : HI K m sv hi := ⟨by have := h.1; omega, by have := h.2.1; omega, h.2.2.1, fun k hk => h.2.2.2 k (by omega)⟩
theorem wi_20 {j : Nat} (h1 : 1 ≤ j) (h2 : j ≤ 20) : wi (nI j) 1 20 = true := by
  rw [wi_d]
  refine decide_eq_true ⟨?_, ?_⟩
  · rw [nI_toInt (by omega), show (1 : Int32).toInt = 1 from rfl]; omega
  · rw [nI_toInt (by omega), show (20 : Int32).toInt = 20 from rfl]; omega
