/-! the class's readings, and when they are the reference's -/
theorem HSm {g : GT} {h b : Nat → Nat} {n m : Nat} {sv : SV} {z z' : Nat → Int32} : (HW g h m sv ++ SW g b z').map Prod.fst = (HW g h n sv ++ SW g b z).map Prod.fst := by
  rw [List.map_append, List.map_append, HW_fe (n := n)]; rfl
theorem ts_tS {z : Nat → Int32} {f : Nat} (hf : f < 8) : fu (tsF (sg z 216 32) 8 f) 0 4 0 = tS z f := by
  unfold tS
  exact fu_congr 4 0 0 (fun j y _ h2 => by rw [tsF, tSF, sg_r (by omega)])
theorem ts_aP {z : Nat → Int32} (h : nf z ≤ 8) : fu (tsF (sg z 12 64) 8 2) 0 (nf z) 0 = aP z := by
  unfold aP
  exact fu_congr (nf z) 0 0 (fun j y _ h2 => by rw [tsF, aPF, sg_r (by omega)])
theorem wi_out {v : Int32} {m : Nat} (hm : m < 1000) (h : wi v 0 (nI m) = false) : v.toInt < 0 ∨ (m : Int) < v.toInt := by
  unfold wi at h
  have e1 : (nI m).toInt = m := nI_toInt (by omega)
  by_cases h1 : v < 0
  · left; exact lt_t.mp h1
  · right
    rw [decide_eq_false h1] at h
    have h2 : nI m < v := by
      apply Decidable.byContradiction
      intro q
      rw [decide_eq_false q] at h
      exact absurd h (by decide)
    have := lt_t.mp h2
    rwa [e1] at this
/-- a forecast of the class -/
noncomputable def tdC (s : R5) (t k : Nat) : Int32 := if k = 0 then (cTs t (s, 0)).2 else if k = 1 then sN (cTs t (s, 0)).1.1 2 - sN s.1 2 else if k = 2 then (cTs t (s, 0)).1.1 7 - s.1 7 else pT (cTs t (s, 0)).1.1 1
theorem tdC_eq {s s' : R5} {t k : Nat} (h : s.1 = s'.1) : tdC s t k = tdV s' t k := by
  obtain ⟨e1, e2⟩ := cTs_rel (t := t) (c := 0) h
  unfold tdC tdV
  rw [e1, e2, h]
theorem TV.u7 {z : Nat → Int32} (h : TV z) {v : Int32} : TV (upd z 7 v) := by
  obtain ⟨a, b, c, d, e⟩ := h
  exact ⟨a.lo (fun k hk => upd_ne (by omega)), b.up (by omega) (by omega) (by omega) (by omega) (fun _ _ => by omega) (fun _ _ => by omega) (by omega), c.of (fun j hj => upd_ne (by omega)), by rw [upd_ne (by omega)]; exact d, e.of (fun j h1 h2 => upd_ne (by omega))⟩
theorem TV.em {z : Nat → Int32} (h : TV z) {p : Nat} (hp : p < 24) : TV (emz z p) := by
  obtain ⟨a, b, c, d, e⟩ := h
  have key : ∀ j, j ≠ 76 + 5 * p + 2 → j ≠ 76 + 5 * p + 3 → j ≠ 76 + 5 * p + 4 → emz z p j = z j := fun j h2 h3 h4 => by rw [emz, upd_ne h4, upd_ne h3, upd_ne h2]
  refine ⟨a.lo (fun k hk => key _ (by omega) (by omega) (by omega)), ⟨fun f q => by rw [key _ (by omega) (by omega) (by omega)]; exact b.1 f q, fun p q => by rw [key _ (by omega) (by omega) (by omega)]; exact b.2.1 p q, by rw [key _ (by omega) (by omega) (by omega)]; exact b.2.2.1, by rw [key _ (by omega) (by omega) (by omega)]; exact b.2.2.2.1, b.2.2.2.2.em hp⟩, c.of (fun j hj => key _ (by omega) (by omega) (by omega)), by rw [key _ (by omega) (by omega) (by omega)]; exact d, e.em p⟩
theorem TV.inF {p : Nat} {s : (Nat → Int32) × Int32} (h : TV s.1) (hp : p < 24) : TV (inF p s).1 := by
  unfold _root_.Jvm.Pilot.CGossipHeadLaw_law_r8652_253339.inF
  split
  · exact h.tm.em hp
  · exact h
theorem TV.inZ {z : Nat → Int32} (h : TV z) : TV (inZ z) := by
  have h1 : TV (inL z).1 := by
    unfold inL
    exact fu_ind (fun _ (s : (Nat → Int32) × Int32) => TV s.1) _ 0 _ (fun j y _ hj hy => hy.inF (by have := h.np; omega)) h
  unfold _root_.Jvm.Pilot.CGossipHeadLaw_law_r8652_253339.inZ
  exact h1.u7.up (by omega) (by omega) (fun _ _ => by omega) (by omega)
/-- the class's count of tours that are needed -/
noncomputable def ncT (s : R5) : R5 := (inZ (cTs 1 (s, 0)).1.1, (cTs 1 (s, 0)).1.2)
noncomputable def ncL : Nat → Nat → R5 → Option Nat × R5
  | 0, i, s => (if pT s.1 1 = s.1 6 then some i else none, s)
  | m + 1, i, s => if pT s.1 1 = s.1 6 then (some i, s) else ncL m (i + 1) (ncT s)
theorem ncL_0 {i : Nat} {s : R5} : ncL 0 i s = (if pT s.1 1 = s.1 6 then some i else none, s) := rfl
theorem ncL_s {m i : Nat} {s : R5} : ncL (m + 1) i s = if pT s.1 1 = s.1 6 then (some i, s) else ncL m (i + 1) (ncT s) := rfl
/-- the loop has come to its end, all places right or not -/
theorem ncL_y : ∀ {m i : Nat} {s : R5}, pT s.1 1 = s.1 6 → ncL m i s = (some i, s)
  | 0, i, s, h => by rw [ncL_0, if_pos h]
  | m + 1, i, s, h => by rw [ncL_s, if_pos h]
theorem ncL_n {i : Nat} {s : R5} (h : ¬ pT s.1 1 = s.1 6) : ncL 0 i s = (none, s) := by rw [ncL_0, if_neg h]
noncomputable def ncA (s : R5) : Option Nat × R5 := ncL 40 0 s
theorem cTs_1 {s : R5} {c : Int32} : (cTs 1 (s, c)).1 = cT s := by unfold cTs; rw [fu_s, fu_0]
theorem nc_nd : ∀ (m i : Nat) (s s' : R5), s.1 = s'.1 → (ncL m i s).1 = (ndL m (i + 1) (if pT s'.1 1 = s'.1 6 then some i else none) s').1
  | 0, i, s, s', h => by
    rw [ncL_0, h]
    by_cases q : pT s'.1 1 = s'.1 6
    · rw [if_pos q]; rfl
    · rw [if_neg q]; rfl
  | m + 1, i, s, s', h => by
    rw [ncL_s, h]
    by_cases q : pT s'.1 1 = s'.1 6
    · rw [if_pos q, if_pos q, ndL_some]
    · rw [if_neg q, if_neg q, ndL_none]
      refine (nc_nd m (i + 1) (ncT s) (inZ (rT s').1, (rT s').2) ?_)
      show inZ (cTs 1 (s, 0)).1.1 = inZ (rT s').1
      rw [cTs_1, cT_rel h]
theorem ncA_eq {s s' : R5} (h : s.1 = s'.1) : (ncA s).1 = (ndA s').1 := nc_nd 40 0 s s' h
theorem TV.ncT {s : R5} (h : TV s.1) : TV (ncT s).1 := by
  have : TV (_root_.Jvm.Pilot.CGossipHeadLaw_law_r8652_253339.cTs 1 (s, 0)).1.1 := TV.cTs (s := (s, 0)) h
  exact this.inZ
/-- discord is never less than 0 -/
theorem dc_nn {z : Nat → Int32} {f : Nat} (h : RT z) (hf : f < 8) : 0 ≤ (dc z f).toInt := by
  have key : IN (dcS z f).1 0 100 ∧ IN (dcS z f).2 0 100 ∧ (dcS z f).2.toInt ≤ (dcS z f).1.toInt := by
    unfold dcS
    refine fu_ind (fun _ (s : Int32 × Int32) => IN s.1 0 100 ∧ IN s.2 0 100 ∧ s.2.toInt ≤ s.1.toInt) 3 1 _ (fun j s _ hj q => ?_) ⟨h.t (by omega) hf, h.t (by omega) hf, Int.le_refl _⟩
    obtain ⟨q1, q2, q3⟩ := q
    have ht := h.t (n := j) (f := f) (by omega) hf
    show IN (if z (216 + 8 * j + f) ≤ s.1 then s.1 else z (216 + 8 * j + f)) 0 100 ∧ IN (if s.2 ≤ z (216 + 8 * j + f) then s.2 else z (216 + 8 * j + f)) 0 100 ∧ (if s.2 ≤ z (216 + 8 * j + f) then s.2 else z (216 + 8 * j + f)).toInt ≤ (if z (216 + 8 * j + f) ≤ s.1 then s.1 else z (216 + 8 * j + f)).toInt
    by_cases w1 : z (216 + 8 * j + f) ≤ s.1 <;> by_cases w2 : s.2 ≤ z (216 + 8 * j + f)
    · rw [if_pos w1, if_pos w2]; exact ⟨q1, q2, q3⟩
    · rw [if_pos w1, if_neg w2]; exact ⟨q1, ht, le_t.mp w1⟩
    · rw [if_neg w1, if_pos w2]; exact ⟨ht, q2, le_t.mp w2⟩
    · rw [if_neg w1, if_neg w2]; exact ⟨ht, ht, Int.le_refl _⟩
  obtain ⟨k1, k2, k3⟩ := key
  unfold dc
  rw [i32_sub (by have := k1.1; omega) (by have := k1.2; omega) (by have := k2.1; omega) (by have := k2.2; omega)]
  omega
/-- the greatest discord so far -/
noncomputable def gd (z : Nat → Int32) (o : Option Nat) : Int32 := match o with
  | none => -1
  | some b => dc z b
theorem rm_t {z : Nat → Int32} {i : Nat} {o : Option Nat} (h : RT z) (hi : i < 8) (q : dc z i ≤ gd z o) : rmF z i o = o := by
  cases o with
  | none =>
    have h1 := dc_nn h hi
    have h2 : (dc z i).toInt ≤ -1 := le_t.mp q
    omega
  | some b => exact if_pos q
theorem rm_f {z : Nat → Int32} {i : Nat} {o : Option Nat} (q : ¬ dc z i ≤ gd z o) : rmF z i o = some i := by
  cases o with
  | none => rfl
  | some b => exact if_neg q
