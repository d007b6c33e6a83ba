/-! the class: the head's whole world; what calls may leave in another order -/
theorem perm_map {α β : Type} {f : α → β} {k l : List β} (h : k.Perm l) : ∀ w : List α, w.map f = k → ∃ w2, w.Perm w2 ∧ w2.map f = l := by
  induction h with
  | nil => intro w hw; exact ⟨w, List.Perm.refl _, hw⟩
  | cons x _ ih =>
    intro w hw
    cases w with
    | nil => cases hw
    | cons y w =>
      obtain ⟨w2, h1, h2⟩ := ih w (by simpa using (List.cons.inj hw).2)
      exact ⟨y :: w2, h1.cons y, by rw [List.map_cons, h2]; exact congrArg (· :: _) (List.cons.inj hw).1⟩
  | swap x y l =>
    intro w hw
    match w, hw with
    | a :: b :: w, hw =>
      rw [List.map_cons, List.map_cons] at hw
      injection hw with h1 h2
      injection h2 with h2 h3
      exact ⟨b :: a :: w, List.Perm.swap b a w, by rw [List.map_cons, List.map_cons, h1, h2, h3]⟩
  | trans _ _ ih1 ih2 =>
    intro w hw
    obtain ⟨w2, h1, h2⟩ := ih1 w hw
    obtain ⟨w3, h3, h4⟩ := ih2 w2 h2
    exact ⟨w3, h1.trans h3, h4⟩
/-- a world, brought into an order where W0's cells stand where they stood -/
theorem FST.ex {W0 w : va_W} {L : List Nat} (h : (w.map Prod.fst).Perm (W0.map Prod.fst ++ L)) : ∃ w2, w.Perm w2 ∧ FST W0 w2 := by
  obtain ⟨w2, h1, h2⟩ := perm_map h w rfl
  refine ⟨w2, h1, ?_⟩
  unfold FST
  rw [List.map_take, h2]
  have : W0.length = (W0.map Prod.fst).length := (List.length_map _).symm
  rw [this, List.take_left]
def SWa (bs : List (Nat → Nat)) : List Nat := bs.flatMap (fun b => [b 0, b 1, b 2, b 3, b 4, b 5, b 6, b 7, b 8, b 9])
theorem SWs_fst {g : GT} : ∀ (sv : SV), (SWs g sv).map Prod.fst = SWa (sv.map Prod.fst)
  | [] => rfl
  | x :: l => by
    show (SW g x.1 x.2 ++ SWs g l).map Prod.fst = _
    rw [List.map_append, SWs_fst l]; rfl
theorem HW_fst {g : GT} {h : Nat → Nat} {n m : Nat} {sv sv2 : SV} {nw : List (Nat → Nat)} (hp : (sv2.map Prod.fst).Perm (sv.map Prod.fst ++ nw)) : ((HW g h m sv2).map Prod.fst).Perm ((HW g h n sv).map Prod.fst ++ SWa nw) := by
  unfold HW
  rw [List.map_append, List.map_append, SWs_fst, SWs_fst, List.append_assoc]
  refine List.Perm.append (List.Perm.refl _) ?_
  refine (List.Perm.flatMap_right _ hp).trans ?_
  unfold SWa
  rw [List.flatMap_append]
def HD (g : GT) (o : Nat) (b c u h x : Nat → Nat) : va_W := [(o, .inr (5, [.ref (b 0), .ref (c 0), .ref (u 0), .ref (h 0), .ref (x 0)]))]
/-- the head: its state, its trial's, its tour's rows, its text, its saved states -/
def GW (g : GT) (o : Nat) (b c u h x : Nat → Nat) (z y ai pa tu tx : Nat → Int32) (len : Nat) (s : BS) (n : Nat) (sv : SV) : va_W :=
  HD g o b c u h x ++ SW g b z ++ SW g c y ++ UW g u ai pa tu ++ BWs g x tx (nI len) s ++ HW g h n sv
theorem HW_fe {g : GT} {h : Nat → Nat} {n m : Nat} {sv : SV} : (HW g h m sv).map Prod.fst = (HW g h n sv).map Prod.fst := by
  unfold HW; rw [List.map_append, List.map_append]; rfl
theorem GW_fe {g : GT} {o : Nat} {b c u h x : Nat → Nat} {z y ai pa tu tx z' y' ai' pa' tu' tx' : Nat → Int32} {len len' : Nat} {s s' : BS} {n n' : Nat} {sv : SV} : (GW g o b c u h x z' y' ai' pa' tu' tx' len' s' n' sv).map Prod.fst = (GW g o b c u h x z y ai pa tu tx len s n sv).map Prod.fst := by
  unfold GW
  rw [List.map_append, List.map_append, HW_fe (n := n) (m := n')]
  rfl
theorem GW_fp {g : GT} {o : Nat} {b c u h x : Nat → Nat} {z y ai pa tu tx z' y' ai' pa' tu' tx' : Nat → Int32} {len len' : Nat} {s s' : BS} {n n' : Nat} {sv sv' : SV} {nw : List (Nat → Nat)} (hp : (sv'.map Prod.fst).Perm (sv.map Prod.fst ++ nw)) : ((GW g o b c u h x z' y' ai' pa' tu' tx' len' s' n' sv').map Prod.fst).Perm ((GW g o b c u h x z y ai pa tu tx len s n sv).map Prod.fst ++ SWa nw) := by
  have k := HW_fst (g := g) (h := h) (n := n) (m := n') hp
  have e1 : (GW g o b c u h x z' y' ai' pa' tu' tx' len' s' n' sv').map Prod.fst = (HD g o b c u h x ++ SW g b z' ++ SW g c y' ++ UW g u ai' pa' tu' ++ BWs g x tx' (nI len') s').map Prod.fst ++ (HW g h n' sv').map Prod.fst := List.map_append
  have e2 : (GW g o b c u h x z y ai pa tu tx len s n sv).map Prod.fst = (HD g o b c u h x ++ SW g b z ++ SW g c y ++ UW g u ai pa tu ++ BWs g x tx (nI len) s).map Prod.fst ++ (HW g h n sv).map Prod.fst := List.map_append
  have ef : (HD g o b c u h x ++ SW g b z' ++ SW g c y' ++ UW g u ai' pa' tu' ++ BWs g x tx' (nI len') s').map Prod.fst = (HD g o b c u h x ++ SW g b z ++ SW g c y ++ UW g u ai pa tu ++ BWs g x tx (nI len) s).map Prod.fst := rfl
  rw [e1, e2, ef]
  exact (List.Perm.append_left _ k).trans (List.Perm.of_eq (List.append_assoc _ _ _).symm)
/-- where a call may have laid cells anew -/
def GQ (W0 w w1 : va_W) : Prop := FST W0 w ∧ w1.Perm w
theorem svR_fst {n : Nat} {sv : SV} : ((svR n sv).map Prod.fst).Perm (sv.map Prod.fst) := by
  unfold svR
  split
  · refine List.Perm.map _ ?_
    cases sv with
    | nil => exact List.Perm.refl _
    | cons a l => exact List.perm_append_comm (l₁ := l) (l₂ := [a])
  · exact List.Perm.refl _
theorem svQ.fst {m n : Nat} {sv sv2 : SV} {z : Nat → Int32} (h : svQ m (svR n sv) sv2 z) : ∃ nw : List (Nat → Nat), (sv2.map Prod.fst).Perm (sv.map Prod.fst ++ nw) := by
  obtain ⟨_, _, _, _, nw, h⟩ := h
  exact ⟨nw, h.trans (List.Perm.append_right _ svR_fst)⟩
theorem UC.perm {g : GT} {y : MethodName} {wy : List Cond} {rm : Room} {av : List Value} {W0 : va_W} {Q Q2 : Option Value → va_W → Prop} (h : UC g y wy rm av W0 Q) (hq : ∀ v w, Q v w → ∃ w2, w.Perm w2 ∧ Q2 v w2) : UC g y wy rm av W0 Q2 := fun sz => MetFree.mono (h sz) (fun _ _ q => q) (fun _ _ _ _ _ q => q) (fun _ _ _ _ _ q => by
  obtain ⟨⟨⟨v, w, h1, h2, h3, h6⟩, h4⟩, h5⟩ := q
  obtain ⟨w2, g1, g2⟩ := hq v w h2
  exact ⟨⟨⟨v, w2, h1, g2, va_P_perm g1 h3, va_D_perm g1 h6⟩, h4⟩, h5⟩)
abbrev rmX1_saveP : Room := rmX1_save
theorem kX1_saveP (g : GT) (h : Nat → Nat) (n : Nat) (sv : SV) (b : Nat → Nat) (z : Nat → Int32) (hn : n ≤ 6) (hnl : n ≤ sv.length) (hl6 : sv.length ≤ 6) : UC g yX1_save wsX1_save rmX1_saveP [.ref (h 0), .ref (b 0)] (HW g h n sv ++ SW g b z) (fun v w => v = none ∧ ∃ sv2 : SV, svQ (svM n) (svR n sv) sv2 z ∧ GQ (HW g h n sv ++ SW g b z) w (HW g h (svM n + 1) sv2 ++ SW g b z)) := by
  refine UC.perm (kX1_save g h n sv b z hn hnl hl6) (fun v w hq => ?_)
  obtain ⟨rfl, sv2, h1, rfl⟩ := hq
  obtain ⟨nw, h2⟩ := h1.fst
  have e : ((HW g h (svM n + 1) sv2 ++ SW g b z).map Prod.fst).Perm ((HW g h n sv ++ SW g b z).map Prod.fst ++ SWa nw) := by
    rw [List.map_append, List.map_append]
    refine (List.Perm.append_right _ (HW_fst (n := n) h2)).trans ?_
    rw [List.append_assoc, List.append_assoc]
    exact List.Perm.append_left _ List.perm_append_comm
  obtain ⟨w2, g1, g2⟩ := FST.ex e
  exact ⟨w2, g1, rfl, sv2, h1, g2, g1⟩
theorem wi_ct {v : Int32} {m : Nat} (hm : m ≤ 24) : wi v 0 (nI m - 1) = (!(decide (v < 0)) && !(decide (nI m ≤ v))) := by
  unfold wi
  congr 2
  have e1 : (nI m).toInt = m := nI_toInt (by omega)
  have e2 : (nI m - 1).toInt = (m : Int) - 1 := by rw [i32_sub (by omega) (by omega) (by decide) (by decide), e1]; rfl
  by_cases h : nI m ≤ v
  · rw [decide_eq_true h, decide_eq_true]
    rw [lt_t, e2]; rw [le_t, e1] at h; omega
  · rw [decide_eq_false h, decide_eq_false]
    rw [lt_t, e2]; rw [le_t, e1] at h; omega
def IAE : String := "java/lang/IllegalArgumentException"
def ISE : String := "java/lang/IllegalStateException"
def IOB : String := "java/lang/IndexOutOfBoundsException"
/-- a number in a range, as a Nat -/
theorem wi_nz {v : Int32} {m : Nat} (hm : m < 1000) (h : wi v 0 (nI m) = true) : v = nI v.toNatClampNeg ∧ v.toNatClampNeg ≤ m := by
  unfold wi at h
  rw [Bool.and_eq_true] at h
  have h1 : ¬ v < 0 := by intro q; rw [decide_eq_true q] at h; exact absurd h.1 (by decide)
  have h2 : ¬ nI m < v := by intro q; rw [decide_eq_true q] at h; exact absurd h.2 (by decide)
  have e1 : (nI m).toInt = m := nI_toInt (by omega)
  have h3 : 0 ≤ v.toInt := by have := Int32.not_lt.mp h1; rw [le_t] at this; exact this
  have h4 : v.toInt ≤ m := by have := Int32.not_lt.mp h2; rw [le_t, e1] at this; exact this
  have e2 : v.toNatClampNeg = v.toInt.toNat := rfl
  refine ⟨Int32.toInt_inj.mp ?_, by omega⟩
  rw [nI_toInt (by omega), e2]; omega
