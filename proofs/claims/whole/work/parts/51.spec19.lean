/-! the class: saved states -/
abbrev SV : Type := List ((Nat → Nat) × (Nat → Int32))
def svf (sv : SV) : Nat → Option Nat := fun k => (sv[k]?).map (fun x => x.1 0)
def SWs (g : GT) : SV → va_W
  | [] => []
  | x :: l => SW g x.1 x.2 ++ SWs g l
def HP (g : GT) (h : Nat → Nat) (n : Int32) (F : Nat → Option Nat) : va_W := [(h 0, .inr (1, [.ref (h 1), .int n])), (h 1, .inl (g.2.2 2, 6, .inr (.inr (.inr (.inr F)))))]
def HW (g : GT) (h : Nat → Nat) (n : Nat) (sv : SV) : va_W := HP g h (nI n) (svf sv) ++ SWs g sv
theorem SWs_app {g : GT} : ∀ (l r : SV), SWs g (l ++ r) = SWs g l ++ SWs g r
  | [], r => rfl
  | x :: l, r => by
    show SW g x.1 x.2 ++ SWs g (l ++ r) = SW g x.1 x.2 ++ SWs g l ++ SWs g r
    rw [SWs_app l r, List.append_assoc]
theorem sv_at {sv : SV} {m : Nat} {x : (Nat → Nat) × (Nat → Int32)} (h : sv[m]? = some x) : ∃ l r : SV, sv = l ++ x :: r ∧ l.length = m := by
  obtain ⟨hl, e⟩ := List.getElem?_eq_some_iff.mp h
  refine ⟨sv.take m, sv.drop (m + 1), ?_, by rw [List.length_take]; omega⟩
  rw [← e, List.getElem_cons_drop, List.take_append_drop]
theorem svf_set {l r : SV} {x : (Nat → Nat) × (Nat → Int32)} {z : Nat → Int32} : svf (l ++ x :: r) = svf (l ++ (x.1, z) :: r) := by
  funext k
  unfold svf
  rcases Nat.lt_trichotomy k l.length with w | w | w
  · rw [List.getElem?_append_left w, List.getElem?_append_left w]
  · subst w
    rw [List.getElem?_append_right (Nat.le_refl _), List.getElem?_append_right (Nat.le_refl _), Nat.sub_self]; rfl
  · rw [List.getElem?_append_right (by omega), List.getElem?_append_right (by omega), show k - l.length = k - l.length - 1 + 1 by omega]; rfl
theorem svf_add {sv : SV} {b : Nat → Nat} {z : Nat → Int32} {m : Nat} (hm : sv.length = m) : va_up (svf sv) m (some (b 0)) = svf (sv ++ [(b, z)]) := by
  subst hm
  funext k
  unfold va_up svf
  rcases Nat.lt_trichotomy k sv.length with w | w | w
  · rw [if_neg (by omega), List.getElem?_append_left w]
  · subst w
    rw [if_pos rfl, List.getElem?_append_right (Nat.le_refl _), Nat.sub_self]; rfl
  · rw [if_neg (by omega), List.getElem?_eq_none (by omega), List.getElem?_eq_none (by rw [List.length_append]; show sv.length + 1 ≤ k; omega)]
theorem svf_rot {x0 x1 x2 x3 x4 x5 : (Nat → Nat) × (Nat → Int32)} : va_up (va_up (va_up (va_up (va_up (va_up (svf [x0, x1, x2, x3, x4, x5]) 0 (some (x1.1 0))) 1 (some (x2.1 0))) 2 (some (x3.1 0))) 3 (some (x4.1 0))) 4 (some (x5.1 0))) 5 (some (x0.1 0)) = svf [x1, x2, x3, x4, x5, x0] := by
  funext k
  match k with
  | 0 => rfl
  | 1 => rfl
  | 2 => rfl
  | 3 => rfl
  | 4 => rfl
  | 5 => rfl
  | k + 6 => rfl
theorem sv_6 {sv : SV} (h : sv.length = 6) : ∃ x0 x1 x2 x3 x4 x5, sv = [x0, x1, x2, x3, x4, x5] := by
  match sv, h with
  | [x0, x1, x2, x3, x4, x5], _ => exact ⟨x0, x1, x2, x3, x4, x5, rfl⟩
section PM
variable {α : Type} {A B C D E F G X : List α}
/-- HP, saved, now: to the front what is asked for -/
theorem pm_1 : ((A ++ B) ++ C).Perm ((A ++ C) ++ B) := by
  classical
  exact List.perm_iff_count.mpr (fun a => by simp only [List.count_append]; omega)
theorem pm_2 : ((A ++ C) ++ (D ++ (X ++ E))).Perm (((A ++ X) ++ C) ++ (D ++ E)) := by
  classical
  exact List.perm_iff_count.mpr (fun a => by simp only [List.count_append]; omega)
theorem pm_3 : (((A ++ X) ++ C) ++ (D ++ E)).Perm ((A ++ (D ++ (X ++ E))) ++ C) := by
  classical
  exact List.perm_iff_count.mpr (fun a => by simp only [List.count_append]; omega)
theorem pm_4 : (X ++ ((A ++ C) ++ B)).Perm (((A ++ X) ++ C) ++ B) := by
  classical
  exact List.perm_iff_count.mpr (fun a => by simp only [List.count_append]; omega)
theorem pm_5 : (((A ++ X) ++ C) ++ B).Perm ((A ++ (B ++ (X ++ []))) ++ C) := by
  classical
  exact List.perm_iff_count.mpr (fun a => by simp only [List.count_append, List.append_nil]; omega)
theorem pm_6 : (A ++ (B ++ (C ++ (D ++ (E ++ (F ++ (G ++ []))))))).Perm (A ++ (C ++ (D ++ (E ++ (F ++ (G ++ (B ++ []))))))) := by
  classical
  exact List.perm_iff_count.mpr (fun a => by simp only [List.count_append, List.append_nil]; omega)
end PM
/-- what a save leaves: the rows saved before (but the oldest, of six), and now's -/
def svQ (m : Nat) (sv sv' : SV) (z : Nat → Int32) : Prop := sv'.length ≤ 6 ∧ m + 1 ≤ sv'.length ∧ (∃ x, sv'[m]? = some x ∧ x.2 = z) ∧ (∀ k, k < m → sv'[k]? = sv[k]?) ∧ ∃ nw : List (Nat → Nat), (sv'.map Prod.fst).Perm (sv.map Prod.fst ++ nw)
def svR (n : Nat) (sv : SV) : SV := if n = 6 then sv.tail ++ sv.take 1 else sv
theorem svR_len {n : Nat} {sv : SV} (h : n ≤ sv.length) : (svR n sv).length = sv.length := by
  unfold svR
  split
  · rw [List.length_append, List.length_tail, List.length_take]; omega
  · rfl
